set_option maxRecDepth 100000 in
theorem tw_395 : (Jvm.Cond.methodLink "PancakePort" (267 : Nat) ({ cls := "PancakePort$Night", name := "begin", desc := "(LPancakePort$Reading;)V" } : Jvm.MethodName)) ∈ mWS := List.mem_filter.mpr ⟨List.mem_of_getElem? (i := 395) (by rfl), by rfl⟩
set_option maxRecDepth 100000 in
theorem tw_396 : (Jvm.Cond.instanceMethod ({ cls := "PancakePort$Night", name := "begin", desc := "(LPancakePort$Reading;)V" } : Jvm.MethodName)) ∈ mWS := List.mem_filter.mpr ⟨List.mem_of_getElem? (i := 396) (by rfl), by rfl⟩
set_option maxRecDepth 100000 in
theorem tw_397 : (Jvm.Cond.selects "PancakePort$Night" ({ cls := "PancakePort$Night", name := "begin", desc := "(LPancakePort$Reading;)V" } : Jvm.MethodName) ({ cls := "PancakePort$Night", name := "begin", desc := "(LPancakePort$Reading;)V" } : Jvm.MethodName)) ∈ mWS := List.mem_filter.mpr ⟨List.mem_of_getElem? (i := 397) (by rfl), by rfl⟩
set_option maxRecDepth 100000 in
theorem tw_398 : (Jvm.Cond.code ({ cls := "PancakePort$Night", name := "begin", desc := "(LPancakePort$Reading;)V" } : Jvm.MethodName) prog_4_method_2_code (2 : Nat) (Option.none : Option Jvm.ClassFile.FieldType)) ∈ mWS := List.mem_filter.mpr ⟨List.mem_of_getElem? (i := 398) (by rfl), by rfl⟩
set_option maxRecDepth 100000 in
theorem tw_399 : (Jvm.Cond.methodLinkNest "PancakePort$Night" (40 : Nat) ({ cls := "PancakePort", name := "copy", desc := "([I[I)V" } : Jvm.MethodName) "PancakePort") ∈ mNw := List.mem_filter.mpr ⟨List.mem_of_getElem? (i := 399) (by rfl), by rfl⟩
set_option maxRecDepth 100000 in
theorem tw_400 : (Jvm.Cond.static ({ cls := "PancakePort", name := "copy", desc := "([I[I)V" } : Jvm.MethodName)) ∈ mWS := List.mem_filter.mpr ⟨List.mem_of_getElem? (i := 400) (by rfl), by rfl⟩
set_option maxRecDepth 100000 in
theorem tw_401 : (Jvm.Cond.code ({ cls := "PancakePort", name := "copy", desc := "([I[I)V" } : Jvm.MethodName) prog_1_method_57_code (3 : Nat) (Option.none : Option Jvm.ClassFile.FieldType)) ∈ mWS := List.mem_filter.mpr ⟨List.mem_of_getElem? (i := 401) (by rfl), by rfl⟩
set_option maxRecDepth 100000 in
theorem tw_402 : (Jvm.Cond.methodLink "PancakePort" (164 : Nat) ({ cls := "PancakePort", name := "put", desc := "([III)V" } : Jvm.MethodName)) ∈ mWS := List.mem_filter.mpr ⟨List.mem_of_getElem? (i := 402) (by rfl), by rfl⟩
set_option maxRecDepth 100000 in
theorem tw_403 : (Jvm.Cond.methodLinkNest "PancakePort$Night" (46 : Nat) ({ cls := "PancakePort", name := "clear", desc := "([I)V" } : Jvm.MethodName) "PancakePort") ∈ mNw := List.mem_filter.mpr ⟨List.mem_of_getElem? (i := 403) (by rfl), by rfl⟩
set_option maxRecDepth 100000 in
theorem tw_404 : (Jvm.Cond.static ({ cls := "PancakePort", name := "clear", desc := "([I)V" } : Jvm.MethodName)) ∈ mWS := List.mem_filter.mpr ⟨List.mem_of_getElem? (i := 404) (by rfl), by rfl⟩
set_option maxRecDepth 100000 in
theorem tw_405 : (Jvm.Cond.code ({ cls := "PancakePort", name := "clear", desc := "([I)V" } : Jvm.MethodName) prog_1_method_56_code (2 : Nat) (Option.none : Option Jvm.ClassFile.FieldType)) ∈ mWS := List.mem_filter.mpr ⟨List.mem_of_getElem? (i := 405) (by rfl), by rfl⟩
set_option maxRecDepth 100000 in
theorem tw_406 : (Jvm.Cond.methodLink "PancakePort" (82 : Nat) ({ cls := "PancakePort", name := "at", desc := "([II)I" } : Jvm.MethodName)) ∈ mWS := List.mem_filter.mpr ⟨List.mem_of_getElem? (i := 406) (by rfl), by rfl⟩
set_option maxRecDepth 100000 in
theorem tw_407 : (Jvm.Cond.methodLink "PancakePort" (274 : Nat) ({ cls := "PancakePort", name := "tosserOf", desc := "(I)LPancakePort$Tosser;" } : Jvm.MethodName)) ∈ mWS := List.mem_filter.mpr ⟨List.mem_of_getElem? (i := 407) (by rfl), by rfl⟩
set_option maxRecDepth 100000 in
theorem tw_408 : (Jvm.Cond.static ({ cls := "PancakePort", name := "tosserOf", desc := "(I)LPancakePort$Tosser;" } : Jvm.MethodName)) ∈ mWS := List.mem_filter.mpr ⟨List.mem_of_getElem? (i := 408) (by rfl), by rfl⟩
set_option maxRecDepth 100000 in
theorem tw_409 : (Jvm.Cond.code ({ cls := "PancakePort", name := "tosserOf", desc := "(I)LPancakePort$Tosser;" } : Jvm.MethodName) prog_1_method_59_code (1 : Nat) (Option.some (Jvm.ClassFile.FieldType.object "PancakePort$Tosser"))) ∈ mWS := List.mem_filter.mpr ⟨List.mem_of_getElem? (i := 409) (by rfl), by rfl⟩
set_option maxRecDepth 100000 in
theorem tw_410 : (Jvm.Cond.classLink "PancakePort" (323 : Nat) "PancakePort$Lacy") ∈ mWS := List.mem_filter.mpr ⟨List.mem_of_getElem? (i := 410) (by rfl), by rfl⟩
set_option maxRecDepth 100000 in
theorem tw_411 : (Jvm.Cond.instantiable "PancakePort$Lacy" (0 : Nat)) ∈ mWS := List.mem_filter.mpr ⟨List.mem_of_getElem? (i := 411) (by rfl), by rfl⟩
set_option maxRecDepth 100000 in
theorem tw_412 : (Jvm.Cond.methodLinkNest "PancakePort" (325 : Nat) ({ cls := "PancakePort$Lacy", name := "<init>", desc := "()V" } : Jvm.MethodName) "PancakePort") ∈ mNw := List.mem_filter.mpr ⟨List.mem_of_getElem? (i := 412) (by rfl), by rfl⟩
set_option maxRecDepth 100000 in
theorem tw_413 : (Jvm.Cond.instanceMethod ({ cls := "PancakePort$Lacy", name := "<init>", desc := "()V" } : Jvm.MethodName)) ∈ mWS := List.mem_filter.mpr ⟨List.mem_of_getElem? (i := 413) (by rfl), by rfl⟩
set_option maxRecDepth 100000 in
theorem tw_414 : (Jvm.Cond.code ({ cls := "PancakePort$Lacy", name := "<init>", desc := "()V" } : Jvm.MethodName) prog_2_method_1_code (1 : Nat) (Option.none : Option Jvm.ClassFile.FieldType)) ∈ mWS := List.mem_filter.mpr ⟨List.mem_of_getElem? (i := 414) (by rfl), by rfl⟩
set_option maxRecDepth 100000 in
theorem tw_415 : (Jvm.Cond.methodLinkNest "PancakePort$Lacy" (3 : Nat) ({ cls := "PancakePort$Tosser", name := "<init>", desc := "()V" } : Jvm.MethodName) "PancakePort") ∈ mNw := List.mem_filter.mpr ⟨List.mem_of_getElem? (i := 415) (by rfl), by rfl⟩
set_option maxRecDepth 100000 in
theorem tw_416 : (Jvm.Cond.instanceMethod ({ cls := "PancakePort$Tosser", name := "<init>", desc := "()V" } : Jvm.MethodName)) ∈ mWS := List.mem_filter.mpr ⟨List.mem_of_getElem? (i := 416) (by rfl), by rfl⟩
set_option maxRecDepth 100000 in
theorem tw_417 : (Jvm.Cond.code ({ cls := "PancakePort$Tosser", name := "<init>", desc := "()V" } : Jvm.MethodName) prog_10_method_1_code (1 : Nat) (Option.none : Option Jvm.ClassFile.FieldType)) ∈ mWS := List.mem_filter.mpr ⟨List.mem_of_getElem? (i := 417) (by rfl), by rfl⟩
set_option maxRecDepth 100000 in
theorem tw_418 : (Jvm.Cond.methodLink "PancakePort$Tosser" (3 : Nat) ({ cls := "java/lang/Object", name := "<init>", desc := "()V" } : Jvm.MethodName)) ∈ mWS := List.mem_filter.mpr ⟨List.mem_of_getElem? (i := 418) (by rfl), by rfl⟩
set_option maxRecDepth 100000 in
theorem tw_419 : (Jvm.Cond.superclass "PancakePort$Lacy" "PancakePort$Tosser") ∈ mWS := List.mem_filter.mpr ⟨List.mem_of_getElem? (i := 419) (by rfl), by rfl⟩
set_option maxRecDepth 100000 in
theorem tw_420 : (Jvm.Cond.classLink "PancakePort" (326 : Nat) "PancakePort$Wide") ∈ mWS := List.mem_filter.mpr ⟨List.mem_of_getElem? (i := 420) (by rfl), by rfl⟩
set_option maxRecDepth 100000 in
theorem tw_421 : (Jvm.Cond.instantiable "PancakePort$Wide" (0 : Nat)) ∈ mWS := List.mem_filter.mpr ⟨List.mem_of_getElem? (i := 421) (by rfl), by rfl⟩
set_option maxRecDepth 100000 in
theorem tw_422 : (Jvm.Cond.methodLinkNest "PancakePort" (328 : Nat) ({ cls := "PancakePort$Wide", name := "<init>", desc := "()V" } : Jvm.MethodName) "PancakePort") ∈ mNw := List.mem_filter.mpr ⟨List.mem_of_getElem? (i := 422) (by rfl), by rfl⟩
set_option maxRecDepth 100000 in
theorem tw_423 : (Jvm.Cond.instanceMethod ({ cls := "PancakePort$Wide", name := "<init>", desc := "()V" } : Jvm.MethodName)) ∈ mWS := List.mem_filter.mpr ⟨List.mem_of_getElem? (i := 423) (by rfl), by rfl⟩
set_option maxRecDepth 100000 in
theorem tw_424 : (Jvm.Cond.code ({ cls := "PancakePort$Wide", name := "<init>", desc := "()V" } : Jvm.MethodName) prog_11_method_1_code (1 : Nat) (Option.none : Option Jvm.ClassFile.FieldType)) ∈ mWS := List.mem_filter.mpr ⟨List.mem_of_getElem? (i := 424) (by rfl), by rfl⟩
set_option maxRecDepth 100000 in
theorem tw_425 : (Jvm.Cond.methodLinkNest "PancakePort$Wide" (3 : Nat) ({ cls := "PancakePort$Tosser", name := "<init>", desc := "()V" } : Jvm.MethodName) "PancakePort") ∈ mNw := List.mem_filter.mpr ⟨List.mem_of_getElem? (i := 425) (by rfl), by rfl⟩
set_option maxRecDepth 100000 in
theorem tw_426 : (Jvm.Cond.superclass "PancakePort$Wide" "PancakePort$Tosser") ∈ mWS := List.mem_filter.mpr ⟨List.mem_of_getElem? (i := 426) (by rfl), by rfl⟩
set_option maxRecDepth 100000 in
theorem tw_427 : (Jvm.Cond.classLink "PancakePort" (329 : Nat) "PancakePort$Thrifty") ∈ mWS := List.mem_filter.mpr ⟨List.mem_of_getElem? (i := 427) (by rfl), by rfl⟩
set_option maxRecDepth 100000 in
theorem tw_428 : (Jvm.Cond.instantiable "PancakePort$Thrifty" (0 : Nat)) ∈ mWS := List.mem_filter.mpr ⟨List.mem_of_getElem? (i := 428) (by rfl), by rfl⟩
set_option maxRecDepth 100000 in
theorem tw_429 : (Jvm.Cond.methodLinkNest "PancakePort" (331 : Nat) ({ cls := "PancakePort$Thrifty", name := "<init>", desc := "()V" } : Jvm.MethodName) "PancakePort") ∈ mNw := List.mem_filter.mpr ⟨List.mem_of_getElem? (i := 429) (by rfl), by rfl⟩
set_option maxRecDepth 100000 in
theorem tw_430 : (Jvm.Cond.instanceMethod ({ cls := "PancakePort$Thrifty", name := "<init>", desc := "()V" } : Jvm.MethodName)) ∈ mWS := List.mem_filter.mpr ⟨List.mem_of_getElem? (i := 430) (by rfl), by rfl⟩
set_option maxRecDepth 100000 in
theorem tw_431 : (Jvm.Cond.code ({ cls := "PancakePort$Thrifty", name := "<init>", desc := "()V" } : Jvm.MethodName) prog_9_method_1_code (1 : Nat) (Option.none : Option Jvm.ClassFile.FieldType)) ∈ mWS := List.mem_filter.mpr ⟨List.mem_of_getElem? (i := 431) (by rfl), by rfl⟩
set_option maxRecDepth 100000 in
theorem tw_432 : (Jvm.Cond.methodLinkNest "PancakePort$Thrifty" (3 : Nat) ({ cls := "PancakePort$Tosser", name := "<init>", desc := "()V" } : Jvm.MethodName) "PancakePort") ∈ mNw := List.mem_filter.mpr ⟨List.mem_of_getElem? (i := 432) (by rfl), by rfl⟩
set_option maxRecDepth 100000 in
theorem tw_433 : (Jvm.Cond.superclass "PancakePort$Thrifty" "PancakePort$Tosser") ∈ mWS := List.mem_filter.mpr ⟨List.mem_of_getElem? (i := 433) (by rfl), by rfl⟩
set_option maxRecDepth 100000 in
theorem tw_434 : (Jvm.Cond.classLink "PancakePort" (332 : Nat) "PancakePort$Mayor") ∈ mWS := List.mem_filter.mpr ⟨List.mem_of_getElem? (i := 434) (by rfl), by rfl⟩
set_option maxRecDepth 100000 in
theorem tw_435 : (Jvm.Cond.instantiable "PancakePort$Mayor" (0 : Nat)) ∈ mWS := List.mem_filter.mpr ⟨List.mem_of_getElem? (i := 435) (by rfl), by rfl⟩
set_option maxRecDepth 100000 in
theorem tw_436 : (Jvm.Cond.methodLinkNest "PancakePort" (334 : Nat) ({ cls := "PancakePort$Mayor", name := "<init>", desc := "()V" } : Jvm.MethodName) "PancakePort") ∈ mNw := List.mem_filter.mpr ⟨List.mem_of_getElem? (i := 436) (by rfl), by rfl⟩
set_option maxRecDepth 100000 in
theorem tw_437 : (Jvm.Cond.instanceMethod ({ cls := "PancakePort$Mayor", name := "<init>", desc := "()V" } : Jvm.MethodName)) ∈ mWS := List.mem_filter.mpr ⟨List.mem_of_getElem? (i := 437) (by rfl), by rfl⟩
set_option maxRecDepth 100000 in
theorem tw_438 : (Jvm.Cond.code ({ cls := "PancakePort$Mayor", name := "<init>", desc := "()V" } : Jvm.MethodName) prog_3_method_1_code (1 : Nat) (Option.none : Option Jvm.ClassFile.FieldType)) ∈ mWS := List.mem_filter.mpr ⟨List.mem_of_getElem? (i := 438) (by rfl), by rfl⟩
set_option maxRecDepth 100000 in
theorem tw_439 : (Jvm.Cond.methodLinkNest "PancakePort$Mayor" (3 : Nat) ({ cls := "PancakePort$Wide", name := "<init>", desc := "()V" } : Jvm.MethodName) "PancakePort") ∈ mNw := List.mem_filter.mpr ⟨List.mem_of_getElem? (i := 439) (by rfl), by rfl⟩
set_option maxRecDepth 100000 in
theorem tw_440 : (Jvm.Cond.superclass "PancakePort$Mayor" "PancakePort$Wide") ∈ mWS := List.mem_filter.mpr ⟨List.mem_of_getElem? (i := 440) (by rfl), by rfl⟩
set_option maxRecDepth 100000 in
theorem tw_441 : (Jvm.Cond.instantiable "PancakePort$Tosser" (0 : Nat)) ∈ mWS := List.mem_filter.mpr ⟨List.mem_of_getElem? (i := 441) (by rfl), by rfl⟩
set_option maxRecDepth 100000 in
theorem tw_442 : (Jvm.Cond.methodLinkNest "PancakePort" (335 : Nat) ({ cls := "PancakePort$Tosser", name := "<init>", desc := "()V" } : Jvm.MethodName) "PancakePort") ∈ mNw := List.mem_filter.mpr ⟨List.mem_of_getElem? (i := 442) (by rfl), by rfl⟩
set_option maxRecDepth 100000 in
theorem tw_443 : (Jvm.Cond.superclass "PancakePort$Tosser" "java/lang/Object") ∈ mWS := List.mem_filter.mpr ⟨List.mem_of_getElem? (i := 443) (by rfl), by rfl⟩
set_option maxRecDepth 100000 in
theorem tw_444 : (Jvm.Cond.methodLink "PancakePortLaw" (32 : Nat) ({ cls := "PancakePort", name := "sleeper", desc := "(II)I" } : Jvm.MethodName)) ∈ mWS := List.mem_filter.mpr ⟨List.mem_of_getElem? (i := 444) (by rfl), by rfl⟩
set_option maxRecDepth 100000 in
theorem tw_445 : (Jvm.Cond.instanceMethod ({ cls := "PancakePort", name := "sleeper", desc := "(II)I" } : Jvm.MethodName)) ∈ mWS := List.mem_filter.mpr ⟨List.mem_of_getElem? (i := 445) (by rfl), by rfl⟩
set_option maxRecDepth 100000 in
theorem tw_446 : (Jvm.Cond.selects "PancakePort" ({ cls := "PancakePort", name := "sleeper", desc := "(II)I" } : Jvm.MethodName) ({ cls := "PancakePort", name := "sleeper", desc := "(II)I" } : Jvm.MethodName)) ∈ mWS := List.mem_filter.mpr ⟨List.mem_of_getElem? (i := 446) (by rfl), by rfl⟩
set_option maxRecDepth 100000 in
theorem tw_447 : (Jvm.Cond.code ({ cls := "PancakePort", name := "sleeper", desc := "(II)I" } : Jvm.MethodName) prog_1_method_6_code (3 : Nat) (Option.some Jvm.ClassFile.FieldType.int)) ∈ mWS := List.mem_filter.mpr ⟨List.mem_of_getElem? (i := 447) (by rfl), by rfl⟩
set_option maxRecDepth 100000 in
theorem tw_448 : (Jvm.Cond.methodLink "PancakePort" (75 : Nat) ({ cls := "PancakePort", name := "isSleeper", desc := "(I)Z" } : Jvm.MethodName)) ∈ mWS := List.mem_filter.mpr ⟨List.mem_of_getElem? (i := 448) (by rfl), by rfl⟩
set_option maxRecDepth 100000 in
theorem tw_450 : (Jvm.Cond.instanceMethod ({ cls := "PancakePort", name := "isSleeper", desc := "(I)Z" } : Jvm.MethodName)) ∈ mWS := List.mem_filter.mpr ⟨List.mem_of_getElem? (i := 450) (by rfl), by rfl⟩
set_option maxRecDepth 100000 in
theorem tw_451 : (Jvm.Cond.code ({ cls := "PancakePort", name := "isSleeper", desc := "(I)Z" } : Jvm.MethodName) prog_1_method_31_code (2 : Nat) (Option.some Jvm.ClassFile.FieldType.boolean)) ∈ mWS := List.mem_filter.mpr ⟨List.mem_of_getElem? (i := 451) (by rfl), by rfl⟩
set_option maxRecDepth 100000 in
theorem tw_452 : (Jvm.Cond.methodLink "PancakePort" (95 : Nat) ({ cls := "PancakePort", name := "bestPlaceFor", desc := "(I)I" } : Jvm.MethodName)) ∈ mWS := List.mem_filter.mpr ⟨List.mem_of_getElem? (i := 452) (by rfl), by rfl⟩
set_option maxRecDepth 100000 in
theorem tw_454 : (Jvm.Cond.instanceMethod ({ cls := "PancakePort", name := "bestPlaceFor", desc := "(I)I" } : Jvm.MethodName)) ∈ mWS := List.mem_filter.mpr ⟨List.mem_of_getElem? (i := 454) (by rfl), by rfl⟩
set_option maxRecDepth 100000 in
theorem tw_455 : (Jvm.Cond.code ({ cls := "PancakePort", name := "bestPlaceFor", desc := "(I)I" } : Jvm.MethodName) prog_1_method_43_code (6 : Nat) (Option.some Jvm.ClassFile.FieldType.int)) ∈ mWS := List.mem_filter.mpr ⟨List.mem_of_getElem? (i := 455) (by rfl), by rfl⟩
set_option maxRecDepth 100000 in
theorem tw_456 : (Jvm.Cond.methodLink "PancakePort" (294 : Nat) ({ cls := "PancakePort", name := "countChances", desc := "()V" } : Jvm.MethodName)) ∈ mWS := List.mem_filter.mpr ⟨List.mem_of_getElem? (i := 456) (by rfl), by rfl⟩
set_option maxRecDepth 100000 in
theorem tw_458 : (Jvm.Cond.instanceMethod ({ cls := "PancakePort", name := "countChances", desc := "()V" } : Jvm.MethodName)) ∈ mWS := List.mem_filter.mpr ⟨List.mem_of_getElem? (i := 458) (by rfl), by rfl⟩
set_option maxRecDepth 100000 in
theorem tw_459 : (Jvm.Cond.code ({ cls := "PancakePort", name := "countChances", desc := "()V" } : Jvm.MethodName) prog_1_method_44_code (5 : Nat) (Option.none : Option Jvm.ClassFile.FieldType)) ∈ mWS := List.mem_filter.mpr ⟨List.mem_of_getElem? (i := 459) (by rfl), by rfl⟩
set_option maxRecDepth 100000 in
theorem tw_460 : (Jvm.Cond.methodLink "PancakePort" (297 : Nat) ({ cls := "PancakePort", name := "clear", desc := "([I)V" } : Jvm.MethodName)) ∈ mWS := List.mem_filter.mpr ⟨List.mem_of_getElem? (i := 460) (by rfl), by rfl⟩
set_option maxRecDepth 100000 in
theorem tw_461 : (Jvm.Cond.methodLink "PancakePort" (99 : Nat) ({ cls := "PancakePort", name := "tosserAt", desc := "(I)LPancakePort$Tosser;" } : Jvm.MethodName)) ∈ mWS := List.mem_filter.mpr ⟨List.mem_of_getElem? (i := 461) (by rfl), by rfl⟩
set_option maxRecDepth 100000 in
theorem tw_463 : (Jvm.Cond.instanceMethod ({ cls := "PancakePort", name := "tosserAt", desc := "(I)LPancakePort$Tosser;" } : Jvm.MethodName)) ∈ mWS := List.mem_filter.mpr ⟨List.mem_of_getElem? (i := 463) (by rfl), by rfl⟩
set_option maxRecDepth 100000 in
theorem tw_464 : (Jvm.Cond.code ({ cls := "PancakePort", name := "tosserAt", desc := "(I)LPancakePort$Tosser;" } : Jvm.MethodName) prog_1_method_32_code (3 : Nat) (Option.some (Jvm.ClassFile.FieldType.object "PancakePort$Tosser"))) ∈ mWS := List.mem_filter.mpr ⟨List.mem_of_getElem? (i := 464) (by rfl), by rfl⟩
set_option maxRecDepth 100000 in
theorem tw_465 : (Jvm.Cond.methodLink "PancakePort" (149 : Nat) ({ cls := "PancakePort", name := "landing", desc := "(III)I" } : Jvm.MethodName)) ∈ mWS := List.mem_filter.mpr ⟨List.mem_of_getElem? (i := 465) (by rfl), by rfl⟩
set_option maxRecDepth 100000 in
theorem tw_467 : (Jvm.Cond.instanceMethod ({ cls := "PancakePort", name := "landing", desc := "(III)I" } : Jvm.MethodName)) ∈ mWS := List.mem_filter.mpr ⟨List.mem_of_getElem? (i := 467) (by rfl), by rfl⟩
set_option maxRecDepth 100000 in
theorem tw_468 : (Jvm.Cond.code ({ cls := "PancakePort", name := "landing", desc := "(III)I" } : Jvm.MethodName) prog_1_method_37_code (6 : Nat) (Option.some Jvm.ClassFile.FieldType.int)) ∈ mWS := List.mem_filter.mpr ⟨List.mem_of_getElem? (i := 468) (by rfl), by rfl⟩
set_option maxRecDepth 100000 in
theorem tw_469 : (Jvm.Cond.methodLink "PancakePort" (277 : Nat) ({ cls := "PancakePort", name := "cellAt", desc := "(II)I" } : Jvm.MethodName)) ∈ mWS := List.mem_filter.mpr ⟨List.mem_of_getElem? (i := 469) (by rfl), by rfl⟩
set_option maxRecDepth 100000 in
theorem tw_470 : (Jvm.Cond.methodLink "PancakePort" (301 : Nat) ({ cls := "PancakePort", name := "addChances", desc := "(LPancakePort$Tosser;I)V" } : Jvm.MethodName)) ∈ mWS := List.mem_filter.mpr ⟨List.mem_of_getElem? (i := 470) (by rfl), by rfl⟩
set_option maxRecDepth 100000 in
theorem tw_472 : (Jvm.Cond.instanceMethod ({ cls := "PancakePort", name := "addChances", desc := "(LPancakePort$Tosser;I)V" } : Jvm.MethodName)) ∈ mWS := List.mem_filter.mpr ⟨List.mem_of_getElem? (i := 472) (by rfl), by rfl⟩
set_option maxRecDepth 100000 in
theorem tw_473 : (Jvm.Cond.code ({ cls := "PancakePort", name := "addChances", desc := "(LPancakePort$Tosser;I)V" } : Jvm.MethodName) prog_1_method_45_code (6 : Nat) (Option.none : Option Jvm.ClassFile.FieldType)) ∈ mWS := List.mem_filter.mpr ⟨List.mem_of_getElem? (i := 473) (by rfl), by rfl⟩
set_option maxRecDepth 100000 in
theorem tw_474 : (Jvm.Cond.methodLink "PancakePort" (280 : Nat) ({ cls := "PancakePort$Tosser", name := "spreads", desc := "(II)Z" } : Jvm.MethodName)) ∈ mWS := List.mem_filter.mpr ⟨List.mem_of_getElem? (i := 474) (by rfl), by rfl⟩
set_option maxRecDepth 100000 in
theorem tw_475 : (Jvm.Cond.instanceMethod ({ cls := "PancakePort$Tosser", name := "spreads", desc := "(II)Z" } : Jvm.MethodName)) ∈ mWS := List.mem_filter.mpr ⟨List.mem_of_getElem? (i := 475) (by rfl), by rfl⟩
set_option maxRecDepth 100000 in
theorem tw_476 : (Jvm.Cond.selects "PancakePort$Tosser" ({ cls := "PancakePort$Tosser", name := "spreads", desc := "(II)Z" } : Jvm.MethodName) ({ cls := "PancakePort$Tosser", name := "spreads", desc := "(II)Z" } : Jvm.MethodName)) ∈ mWS := List.mem_filter.mpr ⟨List.mem_of_getElem? (i := 476) (by rfl), by rfl⟩
set_option maxRecDepth 100000 in
theorem tw_477 : (Jvm.Cond.sameMethod "PancakePort$Tosser" "PancakePort$Tosser" "spreads" "(II)Z") ∈ mWS := List.mem_filter.mpr ⟨List.mem_of_getElem? (i := 477) (by rfl), by rfl⟩
set_option maxRecDepth 100000 in
theorem tw_478 : (Jvm.Cond.selects "PancakePort$Lacy" ({ cls := "PancakePort$Tosser", name := "spreads", desc := "(II)Z" } : Jvm.MethodName) ({ cls := "PancakePort$Lacy", name := "spreads", desc := "(II)Z" } : Jvm.MethodName)) ∈ mWS := List.mem_filter.mpr ⟨List.mem_of_getElem? (i := 478) (by rfl), by rfl⟩
set_option maxRecDepth 100000 in
theorem tw_479 : (Jvm.Cond.instanceMethod ({ cls := "PancakePort$Lacy", name := "spreads", desc := "(II)Z" } : Jvm.MethodName)) ∈ mWS := List.mem_filter.mpr ⟨List.mem_of_getElem? (i := 479) (by rfl), by rfl⟩
set_option maxRecDepth 100000 in
theorem tw_480 : (Jvm.Cond.code ({ cls := "PancakePort$Lacy", name := "spreads", desc := "(II)Z" } : Jvm.MethodName) prog_2_method_4_code (3 : Nat) (Option.some Jvm.ClassFile.FieldType.boolean)) ∈ mWS := List.mem_filter.mpr ⟨List.mem_of_getElem? (i := 480) (by rfl), by rfl⟩
set_option maxRecDepth 100000 in
theorem tw_481 : (Jvm.Cond.methodLink "PancakePort$Lacy" (9 : Nat) ({ cls := "java/lang/Math", name := "abs", desc := "(I)I" } : Jvm.MethodName)) ∈ mWS := List.mem_filter.mpr ⟨List.mem_of_getElem? (i := 481) (by rfl), by rfl⟩
set_option maxRecDepth 100000 in
theorem tw_482 : (Jvm.Cond.static ({ cls := "java/lang/Math", name := "abs", desc := "(I)I" } : Jvm.MethodName)) ∈ mWS := List.mem_filter.mpr ⟨List.mem_of_getElem? (i := 482) (by rfl), by rfl⟩
set_option maxRecDepth 100000 in
theorem tw_483 : (Jvm.Cond.code ({ cls := "java/lang/Math", name := "abs", desc := "(I)I" } : Jvm.MethodName) prog_16_method_59_code (1 : Nat) (Option.some Jvm.ClassFile.FieldType.int)) ∈ mWS := List.mem_filter.mpr ⟨List.mem_of_getElem? (i := 483) (by rfl), by rfl⟩
set_option maxRecDepth 100000 in
theorem tw_484 : (Jvm.Cond.selects "PancakePort$Mayor" ({ cls := "PancakePort$Tosser", name := "spreads", desc := "(II)Z" } : Jvm.MethodName) ({ cls := "PancakePort$Mayor", name := "spreads", desc := "(II)Z" } : Jvm.MethodName)) ∈ mWS := List.mem_filter.mpr ⟨List.mem_of_getElem? (i := 484) (by rfl), by rfl⟩
set_option maxRecDepth 100000 in
theorem tw_485 : (Jvm.Cond.instanceMethod ({ cls := "PancakePort$Mayor", name := "spreads", desc := "(II)Z" } : Jvm.MethodName)) ∈ mWS := List.mem_filter.mpr ⟨List.mem_of_getElem? (i := 485) (by rfl), by rfl⟩
set_option maxRecDepth 100000 in
theorem tw_486 : (Jvm.Cond.code ({ cls := "PancakePort$Mayor", name := "spreads", desc := "(II)Z" } : Jvm.MethodName) prog_3_method_4_code (3 : Nat) (Option.some Jvm.ClassFile.FieldType.boolean)) ∈ mWS := List.mem_filter.mpr ⟨List.mem_of_getElem? (i := 486) (by rfl), by rfl⟩
set_option maxRecDepth 100000 in
theorem tw_487 : (Jvm.Cond.methodLink "PancakePort$Mayor" (9 : Nat) ({ cls := "PancakePort$Wide", name := "spreads", desc := "(II)Z" } : Jvm.MethodName)) ∈ mWS := List.mem_filter.mpr ⟨List.mem_of_getElem? (i := 487) (by rfl), by rfl⟩
set_option maxRecDepth 100000 in
theorem tw_488 : (Jvm.Cond.instanceMethod ({ cls := "PancakePort$Wide", name := "spreads", desc := "(II)Z" } : Jvm.MethodName)) ∈ mWS := List.mem_filter.mpr ⟨List.mem_of_getElem? (i := 488) (by rfl), by rfl⟩
set_option maxRecDepth 100000 in
theorem tw_489 : (Jvm.Cond.code ({ cls := "PancakePort$Wide", name := "spreads", desc := "(II)Z" } : Jvm.MethodName) prog_11_method_4_code (3 : Nat) (Option.some Jvm.ClassFile.FieldType.boolean)) ∈ mWS := List.mem_filter.mpr ⟨List.mem_of_getElem? (i := 489) (by rfl), by rfl⟩
set_option maxRecDepth 100000 in
theorem tw_490 : (Jvm.Cond.methodLink "PancakePort$Wide" (9 : Nat) ({ cls := "java/lang/Math", name := "abs", desc := "(I)I" } : Jvm.MethodName)) ∈ mWS := List.mem_filter.mpr ⟨List.mem_of_getElem? (i := 490) (by rfl), by rfl⟩
set_option maxRecDepth 100000 in
theorem tw_491 : (Jvm.Cond.selects "PancakePort$Thrifty" ({ cls := "PancakePort$Tosser", name := "spreads", desc := "(II)Z" } : Jvm.MethodName) ({ cls := "PancakePort$Thrifty", name := "spreads", desc := "(II)Z" } : Jvm.MethodName)) ∈ mWS := List.mem_filter.mpr ⟨List.mem_of_getElem? (i := 491) (by rfl), by rfl⟩
set_option maxRecDepth 100000 in
theorem tw_492 : (Jvm.Cond.instanceMethod ({ cls := "PancakePort$Thrifty", name := "spreads", desc := "(II)Z" } : Jvm.MethodName)) ∈ mWS := List.mem_filter.mpr ⟨List.mem_of_getElem? (i := 492) (by rfl), by rfl⟩
set_option maxRecDepth 100000 in
theorem tw_493 : (Jvm.Cond.code ({ cls := "PancakePort$Thrifty", name := "spreads", desc := "(II)Z" } : Jvm.MethodName) prog_9_method_4_code (3 : Nat) (Option.some Jvm.ClassFile.FieldType.boolean)) ∈ mWS := List.mem_filter.mpr ⟨List.mem_of_getElem? (i := 493) (by rfl), by rfl⟩
set_option maxRecDepth 100000 in
theorem tw_494 : (Jvm.Cond.methodLink "PancakePort$Thrifty" (9 : Nat) ({ cls := "java/lang/Math", name := "abs", desc := "(I)I" } : Jvm.MethodName)) ∈ mWS := List.mem_filter.mpr ⟨List.mem_of_getElem? (i := 494) (by rfl), by rfl⟩
set_option maxRecDepth 100000 in
theorem tw_495 : (Jvm.Cond.selects "PancakePort$Wide" ({ cls := "PancakePort$Tosser", name := "spreads", desc := "(II)Z" } : Jvm.MethodName) ({ cls := "PancakePort$Wide", name := "spreads", desc := "(II)Z" } : Jvm.MethodName)) ∈ mWS := List.mem_filter.mpr ⟨List.mem_of_getElem? (i := 495) (by rfl), by rfl⟩
set_option maxRecDepth 100000 in
theorem tw_496 : (Jvm.Cond.code ({ cls := "PancakePort$Tosser", name := "spreads", desc := "(II)Z" } : Jvm.MethodName) prog_10_method_4_code (3 : Nat) (Option.some Jvm.ClassFile.FieldType.boolean)) ∈ mWS := List.mem_filter.mpr ⟨List.mem_of_getElem? (i := 496) (by rfl), by rfl⟩
set_option maxRecDepth 100000 in
theorem tw_497 : (Jvm.Cond.methodLink "PancakePort$Tosser" (9 : Nat) ({ cls := "java/lang/Math", name := "abs", desc := "(I)I" } : Jvm.MethodName)) ∈ mWS := List.mem_filter.mpr ⟨List.mem_of_getElem? (i := 497) (by rfl), by rfl⟩
set_option maxRecDepth 100000 in
theorem tw_498 : (Jvm.Cond.methodLink "PancakePort" (182 : Nat) ({ cls := "PancakePort", name := "isTakenByAnother", desc := "(II)Z" } : Jvm.MethodName)) ∈ mWS := List.mem_filter.mpr ⟨List.mem_of_getElem? (i := 498) (by rfl), by rfl⟩
set_option maxRecDepth 100000 in
theorem tw_500 : (Jvm.Cond.instanceMethod ({ cls := "PancakePort", name := "isTakenByAnother", desc := "(II)Z" } : Jvm.MethodName)) ∈ mWS := List.mem_filter.mpr ⟨List.mem_of_getElem? (i := 500) (by rfl), by rfl⟩
set_option maxRecDepth 100000 in
theorem tw_501 : (Jvm.Cond.code ({ cls := "PancakePort", name := "isTakenByAnother", desc := "(II)Z" } : Jvm.MethodName) prog_1_method_35_code (4 : Nat) (Option.some Jvm.ClassFile.FieldType.boolean)) ∈ mWS := List.mem_filter.mpr ⟨List.mem_of_getElem? (i := 501) (by rfl), by rfl⟩
set_option maxRecDepth 100000 in
theorem tw_502 : (Jvm.Cond.methodLink "PancakePortLaw" (35 : Nat) ({ cls := "PancakePort", name := "tosser", desc := "(II)I" } : Jvm.MethodName)) ∈ mWS := List.mem_filter.mpr ⟨List.mem_of_getElem? (i := 502) (by rfl), by rfl⟩
set_option maxRecDepth 100000 in
theorem tw_503 : (Jvm.Cond.instanceMethod ({ cls := "PancakePort", name := "tosser", desc := "(II)I" } : Jvm.MethodName)) ∈ mWS := List.mem_filter.mpr ⟨List.mem_of_getElem? (i := 503) (by rfl), by rfl⟩
set_option maxRecDepth 100000 in
theorem tw_504 : (Jvm.Cond.selects "PancakePort" ({ cls := "PancakePort", name := "tosser", desc := "(II)I" } : Jvm.MethodName) ({ cls := "PancakePort", name := "tosser", desc := "(II)I" } : Jvm.MethodName)) ∈ mWS := List.mem_filter.mpr ⟨List.mem_of_getElem? (i := 504) (by rfl), by rfl⟩
set_option maxRecDepth 100000 in
theorem tw_505 : (Jvm.Cond.code ({ cls := "PancakePort", name := "tosser", desc := "(II)I" } : Jvm.MethodName) prog_1_method_7_code (4 : Nat) (Option.some Jvm.ClassFile.FieldType.int)) ∈ mWS := List.mem_filter.mpr ⟨List.mem_of_getElem? (i := 505) (by rfl), by rfl⟩
set_option maxRecDepth 100000 in
theorem tw_506 : (Jvm.Cond.methodLink "PancakePort" (103 : Nat) ({ cls := "PancakePort$Tosser", name := "kind", desc := "()I" } : Jvm.MethodName)) ∈ mWS := List.mem_filter.mpr ⟨List.mem_of_getElem? (i := 506) (by rfl), by rfl⟩
set_option maxRecDepth 100000 in
theorem tw_507 : (Jvm.Cond.instanceMethod ({ cls := "PancakePort$Tosser", name := "kind", desc := "()I" } : Jvm.MethodName)) ∈ mWS := List.mem_filter.mpr ⟨List.mem_of_getElem? (i := 507) (by rfl), by rfl⟩
set_option maxRecDepth 100000 in
theorem tw_508 : (Jvm.Cond.selects "PancakePort$Tosser" ({ cls := "PancakePort$Tosser", name := "kind", desc := "()I" } : Jvm.MethodName) ({ cls := "PancakePort$Tosser", name := "kind", desc := "()I" } : Jvm.MethodName)) ∈ mWS := List.mem_filter.mpr ⟨List.mem_of_getElem? (i := 508) (by rfl), by rfl⟩
set_option maxRecDepth 100000 in
theorem tw_509 : (Jvm.Cond.sameMethod "PancakePort$Tosser" "PancakePort$Tosser" "kind" "()I") ∈ mWS := List.mem_filter.mpr ⟨List.mem_of_getElem? (i := 509) (by rfl), by rfl⟩
set_option maxRecDepth 100000 in
theorem tw_510 : (Jvm.Cond.selects "PancakePort$Lacy" ({ cls := "PancakePort$Tosser", name := "kind", desc := "()I" } : Jvm.MethodName) ({ cls := "PancakePort$Lacy", name := "kind", desc := "()I" } : Jvm.MethodName)) ∈ mWS := List.mem_filter.mpr ⟨List.mem_of_getElem? (i := 510) (by rfl), by rfl⟩
set_option maxRecDepth 100000 in
theorem tw_511 : (Jvm.Cond.instanceMethod ({ cls := "PancakePort$Lacy", name := "kind", desc := "()I" } : Jvm.MethodName)) ∈ mWS := List.mem_filter.mpr ⟨List.mem_of_getElem? (i := 511) (by rfl), by rfl⟩
set_option maxRecDepth 100000 in
theorem tw_512 : (Jvm.Cond.code ({ cls := "PancakePort$Lacy", name := "kind", desc := "()I" } : Jvm.MethodName) prog_2_method_2_code (1 : Nat) (Option.some Jvm.ClassFile.FieldType.int)) ∈ mWS := List.mem_filter.mpr ⟨List.mem_of_getElem? (i := 512) (by rfl), by rfl⟩
set_option maxRecDepth 100000 in
theorem tw_513 : (Jvm.Cond.selects "PancakePort$Mayor" ({ cls := "PancakePort$Tosser", name := "kind", desc := "()I" } : Jvm.MethodName) ({ cls := "PancakePort$Mayor", name := "kind", desc := "()I" } : Jvm.MethodName)) ∈ mWS := List.mem_filter.mpr ⟨List.mem_of_getElem? (i := 513) (by rfl), by rfl⟩
set_option maxRecDepth 100000 in
theorem tw_514 : (Jvm.Cond.instanceMethod ({ cls := "PancakePort$Mayor", name := "kind", desc := "()I" } : Jvm.MethodName)) ∈ mWS := List.mem_filter.mpr ⟨List.mem_of_getElem? (i := 514) (by rfl), by rfl⟩
set_option maxRecDepth 100000 in
theorem tw_515 : (Jvm.Cond.code ({ cls := "PancakePort$Mayor", name := "kind", desc := "()I" } : Jvm.MethodName) prog_3_method_2_code (1 : Nat) (Option.some Jvm.ClassFile.FieldType.int)) ∈ mWS := List.mem_filter.mpr ⟨List.mem_of_getElem? (i := 515) (by rfl), by rfl⟩
set_option maxRecDepth 100000 in
theorem tw_516 : (Jvm.Cond.selects "PancakePort$Thrifty" ({ cls := "PancakePort$Tosser", name := "kind", desc := "()I" } : Jvm.MethodName) ({ cls := "PancakePort$Thrifty", name := "kind", desc := "()I" } : Jvm.MethodName)) ∈ mWS := List.mem_filter.mpr ⟨List.mem_of_getElem? (i := 516) (by rfl), by rfl⟩
set_option maxRecDepth 100000 in
theorem tw_517 : (Jvm.Cond.instanceMethod ({ cls := "PancakePort$Thrifty", name := "kind", desc := "()I" } : Jvm.MethodName)) ∈ mWS := List.mem_filter.mpr ⟨List.mem_of_getElem? (i := 517) (by rfl), by rfl⟩
set_option maxRecDepth 100000 in
theorem tw_518 : (Jvm.Cond.code ({ cls := "PancakePort$Thrifty", name := "kind", desc := "()I" } : Jvm.MethodName) prog_9_method_2_code (1 : Nat) (Option.some Jvm.ClassFile.FieldType.int)) ∈ mWS := List.mem_filter.mpr ⟨List.mem_of_getElem? (i := 518) (by rfl), by rfl⟩
set_option maxRecDepth 100000 in
theorem tw_519 : (Jvm.Cond.selects "PancakePort$Wide" ({ cls := "PancakePort$Tosser", name := "kind", desc := "()I" } : Jvm.MethodName) ({ cls := "PancakePort$Wide", name := "kind", desc := "()I" } : Jvm.MethodName)) ∈ mWS := List.mem_filter.mpr ⟨List.mem_of_getElem? (i := 519) (by rfl), by rfl⟩
set_option maxRecDepth 100000 in
theorem tw_520 : (Jvm.Cond.instanceMethod ({ cls := "PancakePort$Wide", name := "kind", desc := "()I" } : Jvm.MethodName)) ∈ mWS := List.mem_filter.mpr ⟨List.mem_of_getElem? (i := 520) (by rfl), by rfl⟩
set_option maxRecDepth 100000 in
theorem tw_521 : (Jvm.Cond.code ({ cls := "PancakePort$Wide", name := "kind", desc := "()I" } : Jvm.MethodName) prog_11_method_2_code (1 : Nat) (Option.some Jvm.ClassFile.FieldType.int)) ∈ mWS := List.mem_filter.mpr ⟨List.mem_of_getElem? (i := 521) (by rfl), by rfl⟩
set_option maxRecDepth 100000 in
theorem tw_522 : (Jvm.Cond.code ({ cls := "PancakePort$Tosser", name := "kind", desc := "()I" } : Jvm.MethodName) prog_10_method_2_code (1 : Nat) (Option.some Jvm.ClassFile.FieldType.int)) ∈ mWS := List.mem_filter.mpr ⟨List.mem_of_getElem? (i := 522) (by rfl), by rfl⟩
set_option maxRecDepth 100000 in
theorem tw_523 : (Jvm.Cond.methodLink "PancakePort" (113 : Nat) ({ cls := "PancakePort$Tosser", name := "batter", desc := "()I" } : Jvm.MethodName)) ∈ mWS := List.mem_filter.mpr ⟨List.mem_of_getElem? (i := 523) (by rfl), by rfl⟩
set_option maxRecDepth 100000 in
theorem tw_524 : (Jvm.Cond.instanceMethod ({ cls := "PancakePort$Tosser", name := "batter", desc := "()I" } : Jvm.MethodName)) ∈ mWS := List.mem_filter.mpr ⟨List.mem_of_getElem? (i := 524) (by rfl), by rfl⟩
set_option maxRecDepth 100000 in
theorem tw_525 : (Jvm.Cond.selects "PancakePort$Tosser" ({ cls := "PancakePort$Tosser", name := "batter", desc := "()I" } : Jvm.MethodName) ({ cls := "PancakePort$Tosser", name := "batter", desc := "()I" } : Jvm.MethodName)) ∈ mWS := List.mem_filter.mpr ⟨List.mem_of_getElem? (i := 525) (by rfl), by rfl⟩
set_option maxRecDepth 100000 in
theorem tw_526 : (Jvm.Cond.sameMethod "PancakePort$Tosser" "PancakePort$Tosser" "batter" "()I") ∈ mWS := List.mem_filter.mpr ⟨List.mem_of_getElem? (i := 526) (by rfl), by rfl⟩
set_option maxRecDepth 100000 in
theorem tw_527 : (Jvm.Cond.selects "PancakePort$Lacy" ({ cls := "PancakePort$Tosser", name := "batter", desc := "()I" } : Jvm.MethodName) ({ cls := "PancakePort$Lacy", name := "batter", desc := "()I" } : Jvm.MethodName)) ∈ mWS := List.mem_filter.mpr ⟨List.mem_of_getElem? (i := 527) (by rfl), by rfl⟩
set_option maxRecDepth 100000 in
theorem tw_528 : (Jvm.Cond.instanceMethod ({ cls := "PancakePort$Lacy", name := "batter", desc := "()I" } : Jvm.MethodName)) ∈ mWS := List.mem_filter.mpr ⟨List.mem_of_getElem? (i := 528) (by rfl), by rfl⟩
set_option maxRecDepth 100000 in
theorem tw_529 : (Jvm.Cond.code ({ cls := "PancakePort$Lacy", name := "batter", desc := "()I" } : Jvm.MethodName) prog_2_method_3_code (1 : Nat) (Option.some Jvm.ClassFile.FieldType.int)) ∈ mWS := List.mem_filter.mpr ⟨List.mem_of_getElem? (i := 529) (by rfl), by rfl⟩
set_option maxRecDepth 100000 in
theorem tw_530 : (Jvm.Cond.selects "PancakePort$Mayor" ({ cls := "PancakePort$Tosser", name := "batter", desc := "()I" } : Jvm.MethodName) ({ cls := "PancakePort$Mayor", name := "batter", desc := "()I" } : Jvm.MethodName)) ∈ mWS := List.mem_filter.mpr ⟨List.mem_of_getElem? (i := 530) (by rfl), by rfl⟩
set_option maxRecDepth 100000 in
theorem tw_531 : (Jvm.Cond.instanceMethod ({ cls := "PancakePort$Mayor", name := "batter", desc := "()I" } : Jvm.MethodName)) ∈ mWS := List.mem_filter.mpr ⟨List.mem_of_getElem? (i := 531) (by rfl), by rfl⟩
set_option maxRecDepth 100000 in
theorem tw_532 : (Jvm.Cond.code ({ cls := "PancakePort$Mayor", name := "batter", desc := "()I" } : Jvm.MethodName) prog_3_method_3_code (1 : Nat) (Option.some Jvm.ClassFile.FieldType.int)) ∈ mWS := List.mem_filter.mpr ⟨List.mem_of_getElem? (i := 532) (by rfl), by rfl⟩
set_option maxRecDepth 100000 in
theorem tw_533 : (Jvm.Cond.selects "PancakePort$Thrifty" ({ cls := "PancakePort$Tosser", name := "batter", desc := "()I" } : Jvm.MethodName) ({ cls := "PancakePort$Thrifty", name := "batter", desc := "()I" } : Jvm.MethodName)) ∈ mWS := List.mem_filter.mpr ⟨List.mem_of_getElem? (i := 533) (by rfl), by rfl⟩
set_option maxRecDepth 100000 in
theorem tw_534 : (Jvm.Cond.instanceMethod ({ cls := "PancakePort$Thrifty", name := "batter", desc := "()I" } : Jvm.MethodName)) ∈ mWS := List.mem_filter.mpr ⟨List.mem_of_getElem? (i := 534) (by rfl), by rfl⟩
set_option maxRecDepth 100000 in
theorem tw_535 : (Jvm.Cond.code ({ cls := "PancakePort$Thrifty", name := "batter", desc := "()I" } : Jvm.MethodName) prog_9_method_3_code (1 : Nat) (Option.some Jvm.ClassFile.FieldType.int)) ∈ mWS := List.mem_filter.mpr ⟨List.mem_of_getElem? (i := 535) (by rfl), by rfl⟩
set_option maxRecDepth 100000 in
theorem tw_536 : (Jvm.Cond.selects "PancakePort$Wide" ({ cls := "PancakePort$Tosser", name := "batter", desc := "()I" } : Jvm.MethodName) ({ cls := "PancakePort$Wide", name := "batter", desc := "()I" } : Jvm.MethodName)) ∈ mWS := List.mem_filter.mpr ⟨List.mem_of_getElem? (i := 536) (by rfl), by rfl⟩
set_option maxRecDepth 100000 in
theorem tw_537 : (Jvm.Cond.instanceMethod ({ cls := "PancakePort$Wide", name := "batter", desc := "()I" } : Jvm.MethodName)) ∈ mWS := List.mem_filter.mpr ⟨List.mem_of_getElem? (i := 537) (by rfl), by rfl⟩
set_option maxRecDepth 100000 in
theorem tw_538 : (Jvm.Cond.code ({ cls := "PancakePort$Wide", name := "batter", desc := "()I" } : Jvm.MethodName) prog_11_method_3_code (1 : Nat) (Option.some Jvm.ClassFile.FieldType.int)) ∈ mWS := List.mem_filter.mpr ⟨List.mem_of_getElem? (i := 538) (by rfl), by rfl⟩
set_option maxRecDepth 100000 in
theorem tw_539 : (Jvm.Cond.code ({ cls := "PancakePort$Tosser", name := "batter", desc := "()I" } : Jvm.MethodName) prog_10_method_3_code (1 : Nat) (Option.some Jvm.ClassFile.FieldType.int)) ∈ mWS := List.mem_filter.mpr ⟨List.mem_of_getElem? (i := 539) (by rfl), by rfl⟩
set_option maxRecDepth 100000 in
theorem tw_540 : (Jvm.Cond.methodLink "PancakePort" (116 : Nat) ({ cls := "PancakePort", name := "bestAimOf", desc := "(I)I" } : Jvm.MethodName)) ∈ mWS := List.mem_filter.mpr ⟨List.mem_of_getElem? (i := 540) (by rfl), by rfl⟩
set_option maxRecDepth 100000 in
theorem tw_542 : (Jvm.Cond.instanceMethod ({ cls := "PancakePort", name := "bestAimOf", desc := "(I)I" } : Jvm.MethodName)) ∈ mWS := List.mem_filter.mpr ⟨List.mem_of_getElem? (i := 542) (by rfl), by rfl⟩
set_option maxRecDepth 100000 in
theorem tw_543 : (Jvm.Cond.code ({ cls := "PancakePort", name := "bestAimOf", desc := "(I)I" } : Jvm.MethodName) prog_1_method_41_code (6 : Nat) (Option.some Jvm.ClassFile.FieldType.int)) ∈ mWS := List.mem_filter.mpr ⟨List.mem_of_getElem? (i := 543) (by rfl), by rfl⟩
set_option maxRecDepth 100000 in
theorem tw_544 : (Jvm.Cond.methodLink "PancakePort" (119 : Nat) ({ cls := "PancakePort", name := "freshOf", desc := "(II)I" } : Jvm.MethodName)) ∈ mWS := List.mem_filter.mpr ⟨List.mem_of_getElem? (i := 544) (by rfl), by rfl⟩
set_option maxRecDepth 100000 in
theorem tw_546 : (Jvm.Cond.instanceMethod ({ cls := "PancakePort", name := "freshOf", desc := "(II)I" } : Jvm.MethodName)) ∈ mWS := List.mem_filter.mpr ⟨List.mem_of_getElem? (i := 546) (by rfl), by rfl⟩
set_option maxRecDepth 100000 in
theorem tw_547 : (Jvm.Cond.code ({ cls := "PancakePort", name := "freshOf", desc := "(II)I" } : Jvm.MethodName) prog_1_method_40_code (3 : Nat) (Option.some Jvm.ClassFile.FieldType.int)) ∈ mWS := List.mem_filter.mpr ⟨List.mem_of_getElem? (i := 547) (by rfl), by rfl⟩
set_option maxRecDepth 100000 in
theorem tw_548 : (Jvm.Cond.methodLink "PancakePort" (153 : Nat) ({ cls := "PancakePort", name := "crowdUnder", desc := "(III)I" } : Jvm.MethodName)) ∈ mWS := List.mem_filter.mpr ⟨List.mem_of_getElem? (i := 548) (by rfl), by rfl⟩
set_option maxRecDepth 100000 in
theorem tw_550 : (Jvm.Cond.instanceMethod ({ cls := "PancakePort", name := "crowdUnder", desc := "(III)I" } : Jvm.MethodName)) ∈ mWS := List.mem_filter.mpr ⟨List.mem_of_getElem? (i := 550) (by rfl), by rfl⟩
set_option maxRecDepth 100000 in
theorem tw_551 : (Jvm.Cond.code ({ cls := "PancakePort", name := "crowdUnder", desc := "(III)I" } : Jvm.MethodName) prog_1_method_38_code (9 : Nat) (Option.some Jvm.ClassFile.FieldType.int)) ∈ mWS := List.mem_filter.mpr ⟨List.mem_of_getElem? (i := 551) (by rfl), by rfl⟩
set_option maxRecDepth 100000 in
theorem tw_552 : (Jvm.Cond.methodLink "PancakePort" (168 : Nat) ({ cls := "java/lang/Integer", name := "bitCount", desc := "(I)I" } : Jvm.MethodName)) ∈ mWS := List.mem_filter.mpr ⟨List.mem_of_getElem? (i := 552) (by rfl), by rfl⟩
set_option maxRecDepth 100000 in
theorem tw_553 : (Jvm.Cond.static ({ cls := "java/lang/Integer", name := "bitCount", desc := "(I)I" } : Jvm.MethodName)) ∈ mWS := List.mem_filter.mpr ⟨List.mem_of_getElem? (i := 553) (by rfl), by rfl⟩
set_option maxRecDepth 100000 in
theorem tw_554 : (Jvm.Cond.code ({ cls := "java/lang/Integer", name := "bitCount", desc := "(I)I" } : Jvm.MethodName) prog_15_method_49_code (1 : Nat) (Option.some Jvm.ClassFile.FieldType.int)) ∈ mWS := List.mem_filter.mpr ⟨List.mem_of_getElem? (i := 554) (by rfl), by rfl⟩
set_option maxRecDepth 100000 in
theorem tw_555 : (Jvm.Cond.constant "java/lang/Integer" (265 : Nat) (1431655765 : Int32)) ∈ mWS := List.mem_filter.mpr ⟨List.mem_of_getElem? (i := 555) (by rfl), by rfl⟩
set_option maxRecDepth 100000 in
theorem tw_556 : (Jvm.Cond.constant "java/lang/Integer" (266 : Nat) (858993459 : Int32)) ∈ mWS := List.mem_filter.mpr ⟨List.mem_of_getElem? (i := 556) (by rfl), by rfl⟩
set_option maxRecDepth 100000 in
theorem tw_557 : (Jvm.Cond.constant "java/lang/Integer" (267 : Nat) (252645135 : Int32)) ∈ mWS := List.mem_filter.mpr ⟨List.mem_of_getElem? (i := 557) (by rfl), by rfl⟩
set_option maxRecDepth 100000 in
theorem tw_558 : (Jvm.Cond.methodLink "PancakePort" (127 : Nat) ({ cls := "PancakePort$Seen", name := "turnsOf", desc := "(I)I" } : Jvm.MethodName)) ∈ mWS := List.mem_filter.mpr ⟨List.mem_of_getElem? (i := 558) (by rfl), by rfl⟩
set_option maxRecDepth 100000 in
theorem tw_559 : (Jvm.Cond.instanceMethod ({ cls := "PancakePort$Seen", name := "turnsOf", desc := "(I)I" } : Jvm.MethodName)) ∈ mWS := List.mem_filter.mpr ⟨List.mem_of_getElem? (i := 559) (by rfl), by rfl⟩
set_option maxRecDepth 100000 in
theorem tw_560 : (Jvm.Cond.selects "PancakePort$Seen" ({ cls := "PancakePort$Seen", name := "turnsOf", desc := "(I)I" } : Jvm.MethodName) ({ cls := "PancakePort$Seen", name := "turnsOf", desc := "(I)I" } : Jvm.MethodName)) ∈ mWS := List.mem_filter.mpr ⟨List.mem_of_getElem? (i := 560) (by rfl), by rfl⟩
set_option maxRecDepth 100000 in
theorem tw_561 : (Jvm.Cond.code ({ cls := "PancakePort$Seen", name := "turnsOf", desc := "(I)I" } : Jvm.MethodName) prog_8_method_3_code (4 : Nat) (Option.some Jvm.ClassFile.FieldType.int)) ∈ mWS := List.mem_filter.mpr ⟨List.mem_of_getElem? (i := 561) (by rfl), by rfl⟩
set_option maxRecDepth 100000 in
theorem tw_562 : (Jvm.Cond.methodLink "PancakePort$Seen" (29 : Nat) ({ cls := "PancakePort$Seen", name := "allows", desc := "(II)Z" } : Jvm.MethodName)) ∈ mWS := List.mem_filter.mpr ⟨List.mem_of_getElem? (i := 562) (by rfl), by rfl⟩
set_option maxRecDepth 100000 in
theorem tw_564 : (Jvm.Cond.instanceMethod ({ cls := "PancakePort$Seen", name := "allows", desc := "(II)Z" } : Jvm.MethodName)) ∈ mWS := List.mem_filter.mpr ⟨List.mem_of_getElem? (i := 564) (by rfl), by rfl⟩
set_option maxRecDepth 100000 in
theorem tw_565 : (Jvm.Cond.code ({ cls := "PancakePort$Seen", name := "allows", desc := "(II)Z" } : Jvm.MethodName) prog_8_method_4_code (5 : Nat) (Option.some Jvm.ClassFile.FieldType.boolean)) ∈ mWS := List.mem_filter.mpr ⟨List.mem_of_getElem? (i := 565) (by rfl), by rfl⟩
set_option maxRecDepth 100000 in
theorem tw_566 : (Jvm.Cond.methodLinkNest "PancakePort$Seen" (33 : Nat) ({ cls := "PancakePort", name := "at", desc := "([II)I" } : Jvm.MethodName) "PancakePort") ∈ mNw := List.mem_filter.mpr ⟨List.mem_of_getElem? (i := 566) (by rfl), by rfl⟩
set_option maxRecDepth 100000 in
theorem tw_567 : (Jvm.Cond.methodLinkNest "PancakePort$Seen" (37 : Nat) ({ cls := "PancakePort", name := "columnBy", desc := "(II)I" } : Jvm.MethodName) "PancakePort") ∈ mNw := List.mem_filter.mpr ⟨List.mem_of_getElem? (i := 567) (by rfl), by rfl⟩
set_option maxRecDepth 100000 in
theorem tw_568 : (Jvm.Cond.static ({ cls := "PancakePort", name := "columnBy", desc := "(II)I" } : Jvm.MethodName)) ∈ mWS := List.mem_filter.mpr ⟨List.mem_of_getElem? (i := 568) (by rfl), by rfl⟩
set_option maxRecDepth 100000 in
theorem tw_569 : (Jvm.Cond.code ({ cls := "PancakePort", name := "columnBy", desc := "(II)I" } : Jvm.MethodName) prog_1_method_49_code (3 : Nat) (Option.some Jvm.ClassFile.FieldType.int)) ∈ mWS := List.mem_filter.mpr ⟨List.mem_of_getElem? (i := 569) (by rfl), by rfl⟩
set_option maxRecDepth 100000 in
theorem tw_570 : (Jvm.Cond.methodLink "PancakePort" (203 : Nat) ({ cls := "PancakePort", name := "isColumn", desc := "(I)Z" } : Jvm.MethodName)) ∈ mWS := List.mem_filter.mpr ⟨List.mem_of_getElem? (i := 570) (by rfl), by rfl⟩
set_option maxRecDepth 100000 in
theorem tw_571 : (Jvm.Cond.static ({ cls := "PancakePort", name := "isColumn", desc := "(I)Z" } : Jvm.MethodName)) ∈ mWS := List.mem_filter.mpr ⟨List.mem_of_getElem? (i := 571) (by rfl), by rfl⟩
set_option maxRecDepth 100000 in
theorem tw_572 : (Jvm.Cond.code ({ cls := "PancakePort", name := "isColumn", desc := "(I)Z" } : Jvm.MethodName) prog_1_method_46_code (1 : Nat) (Option.some Jvm.ClassFile.FieldType.boolean)) ∈ mWS := List.mem_filter.mpr ⟨List.mem_of_getElem? (i := 572) (by rfl), by rfl⟩
set_option maxRecDepth 100000 in
theorem tw_573 : (Jvm.Cond.methodLink "PancakePort" (132 : Nat) ({ cls := "PancakePort", name := "tellingAim", desc := "(I)I" } : Jvm.MethodName)) ∈ mWS := List.mem_filter.mpr ⟨List.mem_of_getElem? (i := 573) (by rfl), by rfl⟩
set_option maxRecDepth 100000 in
theorem tw_574 : (Jvm.Cond.static ({ cls := "PancakePort", name := "tellingAim", desc := "(I)I" } : Jvm.MethodName)) ∈ mWS := List.mem_filter.mpr ⟨List.mem_of_getElem? (i := 574) (by rfl), by rfl⟩
set_option maxRecDepth 100000 in
theorem tw_575 : (Jvm.Cond.code ({ cls := "PancakePort", name := "tellingAim", desc := "(I)I" } : Jvm.MethodName) prog_1_method_50_code (5 : Nat) (Option.some Jvm.ClassFile.FieldType.int)) ∈ mWS := List.mem_filter.mpr ⟨List.mem_of_getElem? (i := 575) (by rfl), by rfl⟩
set_option maxRecDepth 100000 in
theorem tw_576 : (Jvm.Cond.methodLink "PancakePort" (305 : Nat) ({ cls := "PancakePort", name := "mostLeft", desc := "(II)I" } : Jvm.MethodName)) ∈ mWS := List.mem_filter.mpr ⟨List.mem_of_getElem? (i := 576) (by rfl), by rfl⟩
set_option maxRecDepth 100000 in
theorem tw_577 : (Jvm.Cond.static ({ cls := "PancakePort", name := "mostLeft", desc := "(II)I" } : Jvm.MethodName)) ∈ mWS := List.mem_filter.mpr ⟨List.mem_of_getElem? (i := 577) (by rfl), by rfl⟩
set_option maxRecDepth 100000 in
theorem tw_578 : (Jvm.Cond.code ({ cls := "PancakePort", name := "mostLeft", desc := "(II)I" } : Jvm.MethodName) prog_1_method_51_code (6 : Nat) (Option.some Jvm.ClassFile.FieldType.int)) ∈ mWS := List.mem_filter.mpr ⟨List.mem_of_getElem? (i := 578) (by rfl), by rfl⟩
set_option maxRecDepth 100000 in
theorem tw_579 : (Jvm.Cond.methodLink "PancakePort" (308 : Nat) ({ cls := "PancakePort", name := "columnBy", desc := "(II)I" } : Jvm.MethodName)) ∈ mWS := List.mem_filter.mpr ⟨List.mem_of_getElem? (i := 579) (by rfl), by rfl⟩
set_option maxRecDepth 100000 in
theorem tw_580 : (Jvm.Cond.methodLink "PancakePort" (311 : Nat) ({ cls := "java/lang/Math", name := "max", desc := "(II)I" } : Jvm.MethodName)) ∈ mWS := List.mem_filter.mpr ⟨List.mem_of_getElem? (i := 580) (by rfl), by rfl⟩
set_option maxRecDepth 100000 in
theorem tw_581 : (Jvm.Cond.methodLink "PancakePortLaw" (98 : Nat) ({ cls := "PancakePort", name := "as", desc := "(II)I" } : Jvm.MethodName)) ∈ mWS := List.mem_filter.mpr ⟨List.mem_of_getElem? (i := 581) (by rfl), by rfl⟩
set_option maxRecDepth 100000 in
theorem tw_582 : (Jvm.Cond.instanceMethod ({ cls := "PancakePort", name := "as", desc := "(II)I" } : Jvm.MethodName)) ∈ mWS := List.mem_filter.mpr ⟨List.mem_of_getElem? (i := 582) (by rfl), by rfl⟩
set_option maxRecDepth 100000 in
theorem tw_583 : (Jvm.Cond.selects "PancakePort" ({ cls := "PancakePort", name := "as", desc := "(II)I" } : Jvm.MethodName) ({ cls := "PancakePort", name := "as", desc := "(II)I" } : Jvm.MethodName)) ∈ mWS := List.mem_filter.mpr ⟨List.mem_of_getElem? (i := 583) (by rfl), by rfl⟩
set_option maxRecDepth 100000 in
theorem tw_584 : (Jvm.Cond.code ({ cls := "PancakePort", name := "as", desc := "(II)I" } : Jvm.MethodName) prog_1_method_8_code (4 : Nat) (Option.some Jvm.ClassFile.FieldType.int)) ∈ mWS := List.mem_filter.mpr ⟨List.mem_of_getElem? (i := 584) (by rfl), by rfl⟩
set_option maxRecDepth 100000 in
theorem tw_585 : (Jvm.Cond.methodLink "PancakePort" (138 : Nat) ({ cls := "PancakePort", name := "isOfKind", desc := "(LPancakePort$Tosser;I)Z" } : Jvm.MethodName)) ∈ mWS := List.mem_filter.mpr ⟨List.mem_of_getElem? (i := 585) (by rfl), by rfl⟩
set_option maxRecDepth 100000 in
theorem tw_586 : (Jvm.Cond.static ({ cls := "PancakePort", name := "isOfKind", desc := "(LPancakePort$Tosser;I)Z" } : Jvm.MethodName)) ∈ mWS := List.mem_filter.mpr ⟨List.mem_of_getElem? (i := 586) (by rfl), by rfl⟩
set_option maxRecDepth 100000 in
theorem tw_587 : (Jvm.Cond.code ({ cls := "PancakePort", name := "isOfKind", desc := "(LPancakePort$Tosser;I)Z" } : Jvm.MethodName) prog_1_method_60_code (2 : Nat) (Option.some Jvm.ClassFile.FieldType.boolean)) ∈ mWS := List.mem_filter.mpr ⟨List.mem_of_getElem? (i := 587) (by rfl), by rfl⟩
set_option maxRecDepth 100000 in
theorem tw_588 : (Jvm.Cond.methodLink "PancakePortLaw" (113 : Nat) ({ cls := "PancakePort", name := "lands", desc := "(II)I" } : Jvm.MethodName)) ∈ mWS := List.mem_filter.mpr ⟨List.mem_of_getElem? (i := 588) (by rfl), by rfl⟩
set_option maxRecDepth 100000 in
theorem tw_589 : (Jvm.Cond.instanceMethod ({ cls := "PancakePort", name := "lands", desc := "(II)I" } : Jvm.MethodName)) ∈ mWS := List.mem_filter.mpr ⟨List.mem_of_getElem? (i := 589) (by rfl), by rfl⟩
set_option maxRecDepth 100000 in
theorem tw_590 : (Jvm.Cond.selects "PancakePort" ({ cls := "PancakePort", name := "lands", desc := "(II)I" } : Jvm.MethodName) ({ cls := "PancakePort", name := "lands", desc := "(II)I" } : Jvm.MethodName)) ∈ mWS := List.mem_filter.mpr ⟨List.mem_of_getElem? (i := 590) (by rfl), by rfl⟩
set_option maxRecDepth 100000 in
theorem tw_591 : (Jvm.Cond.code ({ cls := "PancakePort", name := "lands", desc := "(II)I" } : Jvm.MethodName) prog_1_method_9_code (3 : Nat) (Option.some Jvm.ClassFile.FieldType.int)) ∈ mWS := List.mem_filter.mpr ⟨List.mem_of_getElem? (i := 591) (by rfl), by rfl⟩
set_option maxRecDepth 100000 in
theorem tw_592 : (Jvm.Cond.methodLink "PancakePort" (142 : Nat) ({ cls := "PancakePort", name := "isToss", desc := "(II)Z" } : Jvm.MethodName)) ∈ mWS := List.mem_filter.mpr ⟨List.mem_of_getElem? (i := 592) (by rfl), by rfl⟩
set_option maxRecDepth 100000 in
theorem tw_594 : (Jvm.Cond.instanceMethod ({ cls := "PancakePort", name := "isToss", desc := "(II)Z" } : Jvm.MethodName)) ∈ mWS := List.mem_filter.mpr ⟨List.mem_of_getElem? (i := 594) (by rfl), by rfl⟩
set_option maxRecDepth 100000 in
theorem tw_595 : (Jvm.Cond.code ({ cls := "PancakePort", name := "isToss", desc := "(II)Z" } : Jvm.MethodName) prog_1_method_33_code (3 : Nat) (Option.some Jvm.ClassFile.FieldType.boolean)) ∈ mWS := List.mem_filter.mpr ⟨List.mem_of_getElem? (i := 595) (by rfl), by rfl⟩
set_option maxRecDepth 100000 in
theorem tw_596 : (Jvm.Cond.methodLink "PancakePort" (156 : Nat) ({ cls := "PancakePort", name := "isCell", desc := "(I)Z" } : Jvm.MethodName)) ∈ mWS := List.mem_filter.mpr ⟨List.mem_of_getElem? (i := 596) (by rfl), by rfl⟩
set_option maxRecDepth 100000 in
theorem tw_598 : (Jvm.Cond.instanceMethod ({ cls := "PancakePort", name := "isCell", desc := "(I)Z" } : Jvm.MethodName)) ∈ mWS := List.mem_filter.mpr ⟨List.mem_of_getElem? (i := 598) (by rfl), by rfl⟩
set_option maxRecDepth 100000 in
theorem tw_599 : (Jvm.Cond.code ({ cls := "PancakePort", name := "isCell", desc := "(I)Z" } : Jvm.MethodName) prog_1_method_30_code (2 : Nat) (Option.some Jvm.ClassFile.FieldType.boolean)) ∈ mWS := List.mem_filter.mpr ⟨List.mem_of_getElem? (i := 599) (by rfl), by rfl⟩
set_option maxRecDepth 100000 in
theorem tw_600 : (Jvm.Cond.methodLink "PancakePort" (173 : Nat) ({ cls := "PancakePort", name := "hasPort", desc := "()Z" } : Jvm.MethodName)) ∈ mWS := List.mem_filter.mpr ⟨List.mem_of_getElem? (i := 600) (by rfl), by rfl⟩
set_option maxRecDepth 100000 in
theorem tw_602 : (Jvm.Cond.instanceMethod ({ cls := "PancakePort", name := "hasPort", desc := "()Z" } : Jvm.MethodName)) ∈ mWS := List.mem_filter.mpr ⟨List.mem_of_getElem? (i := 602) (by rfl), by rfl⟩
set_option maxRecDepth 100000 in
theorem tw_603 : (Jvm.Cond.code ({ cls := "PancakePort", name := "hasPort", desc := "()Z" } : Jvm.MethodName) prog_1_method_29_code (1 : Nat) (Option.some Jvm.ClassFile.FieldType.boolean)) ∈ mWS := List.mem_filter.mpr ⟨List.mem_of_getElem? (i := 603) (by rfl), by rfl⟩
set_option maxRecDepth 100000 in
theorem tw_604 : (Jvm.Cond.methodLink "PancakePortLaw" (115 : Nat) ({ cls := "PancakePort", name := "covers", desc := "(II)I" } : Jvm.MethodName)) ∈ mWS := List.mem_filter.mpr ⟨List.mem_of_getElem? (i := 604) (by rfl), by rfl⟩
set_option maxRecDepth 100000 in
theorem tw_605 : (Jvm.Cond.instanceMethod ({ cls := "PancakePort", name := "covers", desc := "(II)I" } : Jvm.MethodName)) ∈ mWS := List.mem_filter.mpr ⟨List.mem_of_getElem? (i := 605) (by rfl), by rfl⟩
set_option maxRecDepth 100000 in
theorem tw_606 : (Jvm.Cond.selects "PancakePort" ({ cls := "PancakePort", name := "covers", desc := "(II)I" } : Jvm.MethodName) ({ cls := "PancakePort", name := "covers", desc := "(II)I" } : Jvm.MethodName)) ∈ mWS := List.mem_filter.mpr ⟨List.mem_of_getElem? (i := 606) (by rfl), by rfl⟩
set_option maxRecDepth 100000 in
theorem tw_607 : (Jvm.Cond.code ({ cls := "PancakePort", name := "covers", desc := "(II)I" } : Jvm.MethodName) prog_1_method_10_code (3 : Nat) (Option.some Jvm.ClassFile.FieldType.int)) ∈ mWS := List.mem_filter.mpr ⟨List.mem_of_getElem? (i := 607) (by rfl), by rfl⟩
set_option maxRecDepth 100000 in
theorem tw_608 : (Jvm.Cond.methodLink "PancakePortLaw" (44 : Nat) ({ cls := "PancakePort", name := "toss", desc := "(II)I" } : Jvm.MethodName)) ∈ mWS := List.mem_filter.mpr ⟨List.mem_of_getElem? (i := 608) (by rfl), by rfl⟩
set_option maxRecDepth 100000 in
theorem tw_609 : (Jvm.Cond.instanceMethod ({ cls := "PancakePort", name := "toss", desc := "(II)I" } : Jvm.MethodName)) ∈ mWS := List.mem_filter.mpr ⟨List.mem_of_getElem? (i := 609) (by rfl), by rfl⟩
set_option maxRecDepth 100000 in
theorem tw_610 : (Jvm.Cond.selects "PancakePort" ({ cls := "PancakePort", name := "toss", desc := "(II)I" } : Jvm.MethodName) ({ cls := "PancakePort", name := "toss", desc := "(II)I" } : Jvm.MethodName)) ∈ mWS := List.mem_filter.mpr ⟨List.mem_of_getElem? (i := 610) (by rfl), by rfl⟩
set_option maxRecDepth 100000 in
theorem tw_611 : (Jvm.Cond.code ({ cls := "PancakePort", name := "toss", desc := "(II)I" } : Jvm.MethodName) prog_1_method_11_code (5 : Nat) (Option.some Jvm.ClassFile.FieldType.int)) ∈ mWS := List.mem_filter.mpr ⟨List.mem_of_getElem? (i := 611) (by rfl), by rfl⟩
set_option maxRecDepth 100000 in
theorem tw_612 : (Jvm.Cond.methodLink "PancakePortLaw" (62 : Nat) ({ cls := "PancakePort", name := "wind", desc := "(I)I" } : Jvm.MethodName)) ∈ mWS := List.mem_filter.mpr ⟨List.mem_of_getElem? (i := 612) (by rfl), by rfl⟩
set_option maxRecDepth 100000 in
theorem tw_613 : (Jvm.Cond.instanceMethod ({ cls := "PancakePort", name := "wind", desc := "(I)I" } : Jvm.MethodName)) ∈ mWS := List.mem_filter.mpr ⟨List.mem_of_getElem? (i := 613) (by rfl), by rfl⟩
set_option maxRecDepth 100000 in
theorem tw_614 : (Jvm.Cond.selects "PancakePort" ({ cls := "PancakePort", name := "wind", desc := "(I)I" } : Jvm.MethodName) ({ cls := "PancakePort", name := "wind", desc := "(I)I" } : Jvm.MethodName)) ∈ mWS := List.mem_filter.mpr ⟨List.mem_of_getElem? (i := 614) (by rfl), by rfl⟩
set_option maxRecDepth 100000 in
theorem tw_615 : (Jvm.Cond.code ({ cls := "PancakePort", name := "wind", desc := "(I)I" } : Jvm.MethodName) prog_1_method_12_code (3 : Nat) (Option.some Jvm.ClassFile.FieldType.int)) ∈ mWS := List.mem_filter.mpr ⟨List.mem_of_getElem? (i := 615) (by rfl), by rfl⟩
set_option maxRecDepth 100000 in
theorem tw_616 : (Jvm.Cond.methodLink "PancakePortLaw" (69 : Nat) ({ cls := "PancakePort", name := "move", desc := "(II)I" } : Jvm.MethodName)) ∈ mWS := List.mem_filter.mpr ⟨List.mem_of_getElem? (i := 616) (by rfl), by rfl⟩
set_option maxRecDepth 100000 in
theorem tw_617 : (Jvm.Cond.instanceMethod ({ cls := "PancakePort", name := "move", desc := "(II)I" } : Jvm.MethodName)) ∈ mWS := List.mem_filter.mpr ⟨List.mem_of_getElem? (i := 617) (by rfl), by rfl⟩
set_option maxRecDepth 100000 in
theorem tw_618 : (Jvm.Cond.selects "PancakePort" ({ cls := "PancakePort", name := "move", desc := "(II)I" } : Jvm.MethodName) ({ cls := "PancakePort", name := "move", desc := "(II)I" } : Jvm.MethodName)) ∈ mWS := List.mem_filter.mpr ⟨List.mem_of_getElem? (i := 618) (by rfl), by rfl⟩
set_option maxRecDepth 100000 in
theorem tw_619 : (Jvm.Cond.code ({ cls := "PancakePort", name := "move", desc := "(II)I" } : Jvm.MethodName) prog_1_method_14_code (4 : Nat) (Option.some Jvm.ClassFile.FieldType.int)) ∈ mWS := List.mem_filter.mpr ⟨List.mem_of_getElem? (i := 619) (by rfl), by rfl⟩
set_option maxRecDepth 100000 in
theorem tw_620 : (Jvm.Cond.methodLink "PancakePortLaw" (72 : Nat) ({ cls := "PancakePort", name := "train", desc := "(III)I" } : Jvm.MethodName)) ∈ mWS := List.mem_filter.mpr ⟨List.mem_of_getElem? (i := 620) (by rfl), by rfl⟩
set_option maxRecDepth 100000 in
theorem tw_621 : (Jvm.Cond.instanceMethod ({ cls := "PancakePort", name := "train", desc := "(III)I" } : Jvm.MethodName)) ∈ mWS := List.mem_filter.mpr ⟨List.mem_of_getElem? (i := 621) (by rfl), by rfl⟩
set_option maxRecDepth 100000 in
theorem tw_622 : (Jvm.Cond.selects "PancakePort" ({ cls := "PancakePort", name := "train", desc := "(III)I" } : Jvm.MethodName) ({ cls := "PancakePort", name := "train", desc := "(III)I" } : Jvm.MethodName)) ∈ mWS := List.mem_filter.mpr ⟨List.mem_of_getElem? (i := 622) (by rfl), by rfl⟩
set_option maxRecDepth 100000 in
theorem tw_623 : (Jvm.Cond.code ({ cls := "PancakePort", name := "train", desc := "(III)I" } : Jvm.MethodName) prog_1_method_15_code (5 : Nat) (Option.some Jvm.ClassFile.FieldType.int)) ∈ mWS := List.mem_filter.mpr ⟨List.mem_of_getElem? (i := 623) (by rfl), by rfl⟩
set_option maxRecDepth 100000 in
theorem tw_624 : (Jvm.Cond.methodLink "PancakePort" (185 : Nat) ({ cls := "PancakePort", name := "isTurn", desc := "(I)Z" } : Jvm.MethodName)) ∈ mWS := List.mem_filter.mpr ⟨List.mem_of_getElem? (i := 624) (by rfl), by rfl⟩
set_option maxRecDepth 100000 in
theorem tw_625 : (Jvm.Cond.methodLink "PancakePortLaw" (76 : Nat) ({ cls := "PancakePort", name := "stir", desc := "(I)I" } : Jvm.MethodName)) ∈ mWS := List.mem_filter.mpr ⟨List.mem_of_getElem? (i := 625) (by rfl), by rfl⟩
set_option maxRecDepth 100000 in
theorem tw_626 : (Jvm.Cond.instanceMethod ({ cls := "PancakePort", name := "stir", desc := "(I)I" } : Jvm.MethodName)) ∈ mWS := List.mem_filter.mpr ⟨List.mem_of_getElem? (i := 626) (by rfl), by rfl⟩
set_option maxRecDepth 100000 in
theorem tw_627 : (Jvm.Cond.selects "PancakePort" ({ cls := "PancakePort", name := "stir", desc := "(I)I" } : Jvm.MethodName) ({ cls := "PancakePort", name := "stir", desc := "(I)I" } : Jvm.MethodName)) ∈ mWS := List.mem_filter.mpr ⟨List.mem_of_getElem? (i := 627) (by rfl), by rfl⟩
set_option maxRecDepth 100000 in
theorem tw_628 : (Jvm.Cond.code ({ cls := "PancakePort", name := "stir", desc := "(I)I" } : Jvm.MethodName) prog_1_method_16_code (2 : Nat) (Option.some Jvm.ClassFile.FieldType.int)) ∈ mWS := List.mem_filter.mpr ⟨List.mem_of_getElem? (i := 628) (by rfl), by rfl⟩
set_option maxRecDepth 100000 in
theorem tw_629 : (Jvm.Cond.methodLink "PancakePortLaw" (117 : Nat) ({ cls := "PancakePort", name := "odds", desc := "(III)I" } : Jvm.MethodName)) ∈ mWS := List.mem_filter.mpr ⟨List.mem_of_getElem? (i := 629) (by rfl), by rfl⟩
set_option maxRecDepth 100000 in
theorem tw_630 : (Jvm.Cond.instanceMethod ({ cls := "PancakePort", name := "odds", desc := "(III)I" } : Jvm.MethodName)) ∈ mWS := List.mem_filter.mpr ⟨List.mem_of_getElem? (i := 630) (by rfl), by rfl⟩
set_option maxRecDepth 100000 in
theorem tw_631 : (Jvm.Cond.selects "PancakePort" ({ cls := "PancakePort", name := "odds", desc := "(III)I" } : Jvm.MethodName) ({ cls := "PancakePort", name := "odds", desc := "(III)I" } : Jvm.MethodName)) ∈ mWS := List.mem_filter.mpr ⟨List.mem_of_getElem? (i := 631) (by rfl), by rfl⟩
set_option maxRecDepth 100000 in
theorem tw_632 : (Jvm.Cond.code ({ cls := "PancakePort", name := "odds", desc := "(III)I" } : Jvm.MethodName) prog_1_method_19_code (6 : Nat) (Option.some Jvm.ClassFile.FieldType.int)) ∈ mWS := List.mem_filter.mpr ⟨List.mem_of_getElem? (i := 632) (by rfl), by rfl⟩
set_option maxRecDepth 100000 in
theorem tw_633 : (Jvm.Cond.methodLink "PancakePortLaw" (120 : Nat) ({ cls := "PancakePort", name := "who", desc := "(I)I" } : Jvm.MethodName)) ∈ mWS := List.mem_filter.mpr ⟨List.mem_of_getElem? (i := 633) (by rfl), by rfl⟩
set_option maxRecDepth 100000 in
theorem tw_634 : (Jvm.Cond.instanceMethod ({ cls := "PancakePort", name := "who", desc := "(I)I" } : Jvm.MethodName)) ∈ mWS := List.mem_filter.mpr ⟨List.mem_of_getElem? (i := 634) (by rfl), by rfl⟩
set_option maxRecDepth 100000 in
theorem tw_635 : (Jvm.Cond.selects "PancakePort" ({ cls := "PancakePort", name := "who", desc := "(I)I" } : Jvm.MethodName) ({ cls := "PancakePort", name := "who", desc := "(I)I" } : Jvm.MethodName)) ∈ mWS := List.mem_filter.mpr ⟨List.mem_of_getElem? (i := 635) (by rfl), by rfl⟩
set_option maxRecDepth 100000 in
theorem tw_636 : (Jvm.Cond.code ({ cls := "PancakePort", name := "who", desc := "(I)I" } : Jvm.MethodName) prog_1_method_20_code (4 : Nat) (Option.some Jvm.ClassFile.FieldType.int)) ∈ mWS := List.mem_filter.mpr ⟨List.mem_of_getElem? (i := 636) (by rfl), by rfl⟩
set_option maxRecDepth 100000 in
theorem tw_637 : (Jvm.Cond.methodLink "PancakePort" (200 : Nat) ({ cls := "PancakePort", name := "canLandAt", desc := "(II)Z" } : Jvm.MethodName)) ∈ mWS := List.mem_filter.mpr ⟨List.mem_of_getElem? (i := 637) (by rfl), by rfl⟩
set_option maxRecDepth 100000 in
theorem tw_639 : (Jvm.Cond.instanceMethod ({ cls := "PancakePort", name := "canLandAt", desc := "(II)Z" } : Jvm.MethodName)) ∈ mWS := List.mem_filter.mpr ⟨List.mem_of_getElem? (i := 639) (by rfl), by rfl⟩
set_option maxRecDepth 100000 in
theorem tw_640 : (Jvm.Cond.code ({ cls := "PancakePort", name := "canLandAt", desc := "(II)Z" } : Jvm.MethodName) prog_1_method_39_code (4 : Nat) (Option.some Jvm.ClassFile.FieldType.boolean)) ∈ mWS := List.mem_filter.mpr ⟨List.mem_of_getElem? (i := 640) (by rfl), by rfl⟩
set_option maxRecDepth 100000 in
theorem tw_641 : (Jvm.Cond.methodLink "PancakePortLaw" (123 : Nat) ({ cls := "PancakePort", name := "seasons", desc := "(III)I" } : Jvm.MethodName)) ∈ mWS := List.mem_filter.mpr ⟨List.mem_of_getElem? (i := 641) (by rfl), by rfl⟩
set_option maxRecDepth 100000 in
theorem tw_642 : (Jvm.Cond.instanceMethod ({ cls := "PancakePort", name := "seasons", desc := "(III)I" } : Jvm.MethodName)) ∈ mWS := List.mem_filter.mpr ⟨List.mem_of_getElem? (i := 642) (by rfl), by rfl⟩
set_option maxRecDepth 100000 in
theorem tw_643 : (Jvm.Cond.selects "PancakePort" ({ cls := "PancakePort", name := "seasons", desc := "(III)I" } : Jvm.MethodName) ({ cls := "PancakePort", name := "seasons", desc := "(III)I" } : Jvm.MethodName)) ∈ mWS := List.mem_filter.mpr ⟨List.mem_of_getElem? (i := 643) (by rfl), by rfl⟩
set_option maxRecDepth 100000 in
theorem tw_644 : (Jvm.Cond.code ({ cls := "PancakePort", name := "seasons", desc := "(III)I" } : Jvm.MethodName) prog_1_method_23_code (11 : Nat) (Option.some Jvm.ClassFile.FieldType.int)) ∈ mWS := List.mem_filter.mpr ⟨List.mem_of_getElem? (i := 644) (by rfl), by rfl⟩
set_option maxRecDepth 100000 in
theorem tw_645 : (Jvm.Cond.methodLink "PancakePort" (213 : Nat) ({ cls := "PancakePort", name := "nextSeed", desc := "(I)I" } : Jvm.MethodName)) ∈ mWS := List.mem_filter.mpr ⟨List.mem_of_getElem? (i := 645) (by rfl), by rfl⟩
set_option maxRecDepth 100000 in
theorem tw_646 : (Jvm.Cond.static ({ cls := "PancakePort", name := "nextSeed", desc := "(I)I" } : Jvm.MethodName)) ∈ mWS := List.mem_filter.mpr ⟨List.mem_of_getElem? (i := 646) (by rfl), by rfl⟩
set_option maxRecDepth 100000 in
theorem tw_647 : (Jvm.Cond.code ({ cls := "PancakePort", name := "nextSeed", desc := "(I)I" } : Jvm.MethodName) prog_1_method_52_code (1 : Nat) (Option.some Jvm.ClassFile.FieldType.int)) ∈ mWS := List.mem_filter.mpr ⟨List.mem_of_getElem? (i := 647) (by rfl), by rfl⟩
set_option maxRecDepth 100000 in
theorem tw_648 : (Jvm.Cond.constantLong "PancakePort" (316 : Nat) (1103515245 : Int64)) ∈ mWS := List.mem_filter.mpr ⟨List.mem_of_getElem? (i := 648) (by rfl), by rfl⟩
set_option maxRecDepth 100000 in
theorem tw_649 : (Jvm.Cond.constantLong "PancakePort" (318 : Nat) (12345 : Int64)) ∈ mWS := List.mem_filter.mpr ⟨List.mem_of_getElem? (i := 649) (by rfl), by rfl⟩
set_option maxRecDepth 100000 in
theorem tw_650 : (Jvm.Cond.constantLong "PancakePort" (320 : Nat) (2147483648 : Int64)) ∈ mWS := List.mem_filter.mpr ⟨List.mem_of_getElem? (i := 650) (by rfl), by rfl⟩
set_option maxRecDepth 100000 in
theorem tw_651 : (Jvm.Cond.methodLink "PancakePort" (216 : Nat) ({ cls := "PancakePort", name := "draw", desc := "(II)I" } : Jvm.MethodName)) ∈ mWS := List.mem_filter.mpr ⟨List.mem_of_getElem? (i := 651) (by rfl), by rfl⟩
set_option maxRecDepth 100000 in
theorem tw_652 : (Jvm.Cond.static ({ cls := "PancakePort", name := "draw", desc := "(II)I" } : Jvm.MethodName)) ∈ mWS := List.mem_filter.mpr ⟨List.mem_of_getElem? (i := 652) (by rfl), by rfl⟩
set_option maxRecDepth 100000 in
theorem tw_653 : (Jvm.Cond.code ({ cls := "PancakePort", name := "draw", desc := "(II)I" } : Jvm.MethodName) prog_1_method_53_code (2 : Nat) (Option.some Jvm.ClassFile.FieldType.int)) ∈ mWS := List.mem_filter.mpr ⟨List.mem_of_getElem? (i := 653) (by rfl), by rfl⟩
set_option maxRecDepth 100000 in
theorem tw_654 : (Jvm.Cond.constant "PancakePort" (322 : Nat) (65536 : Int32)) ∈ mWS := List.mem_filter.mpr ⟨List.mem_of_getElem? (i := 654) (by rfl), by rfl⟩
set_option maxRecDepth 100000 in
theorem tw_655 : (Jvm.Cond.methodLink "PancakePortLaw" (8 : Nat) ({ cls := "PancakePortLaw", name := "cell", desc := "([II)I" } : Jvm.MethodName)) ∈ mWS := List.mem_filter.mpr ⟨List.mem_of_getElem? (i := 655) (by rfl), by rfl⟩
set_option maxRecDepth 100000 in
theorem tw_656 : (Jvm.Cond.static ({ cls := "PancakePortLaw", name := "cell", desc := "([II)I" } : Jvm.MethodName)) ∈ mWS := List.mem_filter.mpr ⟨List.mem_of_getElem? (i := 656) (by rfl), by rfl⟩
set_option maxRecDepth 100000 in
theorem tw_657 : (Jvm.Cond.code ({ cls := "PancakePortLaw", name := "cell", desc := "([II)I" } : Jvm.MethodName) method_2_code (2 : Nat) (Option.some Jvm.ClassFile.FieldType.int)) ∈ mWS := List.mem_filter.mpr ⟨List.mem_of_getElem? (i := 657) (by rfl), by rfl⟩
set_option maxRecDepth 100000 in
theorem tw_658 : (Jvm.Cond.constant "PancakePortLaw" (7 : Nat) (747796405 : Int32)) ∈ mWS := List.mem_filter.mpr ⟨List.mem_of_getElem? (i := 658) (by rfl), by rfl⟩
set_option maxRecDepth 100000 in
theorem tw_659 : (Jvm.Cond.methodLink "PancakePortLaw" (14 : Nat) ({ cls := "PancakePortLaw", name := "at", desc := "(II)I" } : Jvm.MethodName)) ∈ mWS := List.mem_filter.mpr ⟨List.mem_of_getElem? (i := 659) (by rfl), by rfl⟩
set_option maxRecDepth 100000 in
theorem tw_660 : (Jvm.Cond.static ({ cls := "PancakePortLaw", name := "at", desc := "(II)I" } : Jvm.MethodName)) ∈ mWS := List.mem_filter.mpr ⟨List.mem_of_getElem? (i := 660) (by rfl), by rfl⟩
set_option maxRecDepth 100000 in
theorem tw_661 : (Jvm.Cond.code ({ cls := "PancakePortLaw", name := "at", desc := "(II)I" } : Jvm.MethodName) method_3_code (2 : Nat) (Option.some Jvm.ClassFile.FieldType.int)) ∈ mWS := List.mem_filter.mpr ⟨List.mem_of_getElem? (i := 661) (by rfl), by rfl⟩
set_option maxRecDepth 100000 in
theorem tw_662 : (Jvm.Cond.methodLink "PancakePortLaw" (80 : Nat) ({ cls := "PancakePortLaw", name := "portText", desc := "([II[I[I[I)I" } : Jvm.MethodName)) ∈ mWS := List.mem_filter.mpr ⟨List.mem_of_getElem? (i := 662) (by rfl), by rfl⟩
set_option maxRecDepth 100000 in
theorem tw_663 : (Jvm.Cond.static ({ cls := "PancakePortLaw", name := "portText", desc := "([II[I[I[I)I" } : Jvm.MethodName)) ∈ mWS := List.mem_filter.mpr ⟨List.mem_of_getElem? (i := 663) (by rfl), by rfl⟩
set_option maxRecDepth 100000 in
theorem tw_664 : (Jvm.Cond.code ({ cls := "PancakePortLaw", name := "portText", desc := "([II[I[I[I)I" } : Jvm.MethodName) method_4_code (13 : Nat) (Option.some Jvm.ClassFile.FieldType.int)) ∈ mWS := List.mem_filter.mpr ⟨List.mem_of_getElem? (i := 664) (by rfl), by rfl⟩
set_option maxRecDepth 100000 in
theorem tw_665 : (Jvm.Cond.methodLink "PancakePortLaw" (84 : Nat) ({ cls := "PancakePortLaw", name := "spell", desc := "(LPancakePort;[II)Z" } : Jvm.MethodName)) ∈ mWS := List.mem_filter.mpr ⟨List.mem_of_getElem? (i := 665) (by rfl), by rfl⟩
set_option maxRecDepth 100000 in
theorem tw_666 : (Jvm.Cond.static ({ cls := "PancakePortLaw", name := "spell", desc := "(LPancakePort;[II)Z" } : Jvm.MethodName)) ∈ mWS := List.mem_filter.mpr ⟨List.mem_of_getElem? (i := 666) (by rfl), by rfl⟩
set_option maxRecDepth 100000 in
theorem tw_667 : (Jvm.Cond.code ({ cls := "PancakePortLaw", name := "spell", desc := "(LPancakePort;[II)Z" } : Jvm.MethodName) method_5_code (4 : Nat) (Option.some Jvm.ClassFile.FieldType.boolean)) ∈ mWS := List.mem_filter.mpr ⟨List.mem_of_getElem? (i := 667) (by rfl), by rfl⟩
set_option maxRecDepth 100000 in
theorem tw_668 : (Jvm.Cond.methodLink "PancakePortLaw" (18 : Nat) ({ cls := "PancakePort", name := "letter", desc := "(I)I" } : Jvm.MethodName)) ∈ mWS := List.mem_filter.mpr ⟨List.mem_of_getElem? (i := 668) (by rfl), by rfl⟩
set_option maxRecDepth 100000 in
theorem tw_669 : (Jvm.Cond.instanceMethod ({ cls := "PancakePort", name := "letter", desc := "(I)I" } : Jvm.MethodName)) ∈ mWS := List.mem_filter.mpr ⟨List.mem_of_getElem? (i := 669) (by rfl), by rfl⟩
set_option maxRecDepth 100000 in
theorem tw_670 : (Jvm.Cond.selects "PancakePort" ({ cls := "PancakePort", name := "letter", desc := "(I)I" } : Jvm.MethodName) ({ cls := "PancakePort", name := "letter", desc := "(I)I" } : Jvm.MethodName)) ∈ mWS := List.mem_filter.mpr ⟨List.mem_of_getElem? (i := 670) (by rfl), by rfl⟩
set_option maxRecDepth 100000 in
theorem tw_671 : (Jvm.Cond.code ({ cls := "PancakePort", name := "letter", desc := "(I)I" } : Jvm.MethodName) prog_1_method_2_code (2 : Nat) (Option.some Jvm.ClassFile.FieldType.int)) ∈ mWS := List.mem_filter.mpr ⟨List.mem_of_getElem? (i := 671) (by rfl), by rfl⟩
set_option maxRecDepth 100000 in
theorem tw_672 : (Jvm.Cond.methodLink "PancakePort" (54 : Nat) ({ cls := "PancakePort$Page", name := "append", desc := "(I)V" } : Jvm.MethodName)) ∈ mWS := List.mem_filter.mpr ⟨List.mem_of_getElem? (i := 672) (by rfl), by rfl⟩
set_option maxRecDepth 100000 in
theorem tw_673 : (Jvm.Cond.instanceMethod ({ cls := "PancakePort$Page", name := "append", desc := "(I)V" } : Jvm.MethodName)) ∈ mWS := List.mem_filter.mpr ⟨List.mem_of_getElem? (i := 673) (by rfl), by rfl⟩
set_option maxRecDepth 100000 in
theorem tw_674 : (Jvm.Cond.selects "PancakePort$Page" ({ cls := "PancakePort$Page", name := "append", desc := "(I)V" } : Jvm.MethodName) ({ cls := "PancakePort$Page", name := "append", desc := "(I)V" } : Jvm.MethodName)) ∈ mWS := List.mem_filter.mpr ⟨List.mem_of_getElem? (i := 674) (by rfl), by rfl⟩
set_option maxRecDepth 100000 in
theorem tw_675 : (Jvm.Cond.code ({ cls := "PancakePort$Page", name := "append", desc := "(I)V" } : Jvm.MethodName) prog_5_method_2_code (2 : Nat) (Option.none : Option Jvm.ClassFile.FieldType)) ∈ mWS := List.mem_filter.mpr ⟨List.mem_of_getElem? (i := 675) (by rfl), by rfl⟩
set_option maxRecDepth 100000 in
theorem tw_676 : (Jvm.Cond.methodLinkNest "PancakePort$Page" (19 : Nat) ({ cls := "PancakePort", name := "put", desc := "([III)V" } : Jvm.MethodName) "PancakePort") ∈ mNw := List.mem_filter.mpr ⟨List.mem_of_getElem? (i := 676) (by rfl), by rfl⟩
set_option maxRecDepth 100000 in
theorem tw_677 : (Jvm.Cond.methodLink "PancakePortLaw" (94 : Nat) ({ cls := "PancakePortLaw", name := "stands", desc := "(LPancakePort;[I[I)Z" } : Jvm.MethodName)) ∈ mWS := List.mem_filter.mpr ⟨List.mem_of_getElem? (i := 677) (by rfl), by rfl⟩
set_option maxRecDepth 100000 in
theorem tw_678 : (Jvm.Cond.static ({ cls := "PancakePortLaw", name := "stands", desc := "(LPancakePort;[I[I)Z" } : Jvm.MethodName)) ∈ mWS := List.mem_filter.mpr ⟨List.mem_of_getElem? (i := 678) (by rfl), by rfl⟩
set_option maxRecDepth 100000 in
theorem tw_679 : (Jvm.Cond.code ({ cls := "PancakePortLaw", name := "stands", desc := "(LPancakePort;[I[I)Z" } : Jvm.MethodName) method_14_code (5 : Nat) (Option.some Jvm.ClassFile.FieldType.boolean)) ∈ mWS := List.mem_filter.mpr ⟨List.mem_of_getElem? (i := 679) (by rfl), by rfl⟩
set_option maxRecDepth 100000 in
theorem tw_680 : (Jvm.Cond.methodLink "PancakePortLaw" (38 : Nat) ({ cls := "PancakePortLaw", name := "batter", desc := "(I)I" } : Jvm.MethodName)) ∈ mWS := List.mem_filter.mpr ⟨List.mem_of_getElem? (i := 680) (by rfl), by rfl⟩
set_option maxRecDepth 100000 in
theorem tw_681 : (Jvm.Cond.static ({ cls := "PancakePortLaw", name := "batter", desc := "(I)I" } : Jvm.MethodName)) ∈ mWS := List.mem_filter.mpr ⟨List.mem_of_getElem? (i := 681) (by rfl), by rfl⟩
set_option maxRecDepth 100000 in
theorem tw_682 : (Jvm.Cond.code ({ cls := "PancakePortLaw", name := "batter", desc := "(I)I" } : Jvm.MethodName) method_8_code (1 : Nat) (Option.some Jvm.ClassFile.FieldType.int)) ∈ mWS := List.mem_filter.mpr ⟨List.mem_of_getElem? (i := 682) (by rfl), by rfl⟩
set_option maxRecDepth 100000 in
theorem tw_683 : (Jvm.Cond.methodLink "PancakePortLaw" (41 : Nat) ({ cls := "PancakePort", name := "count", desc := "(I)I" } : Jvm.MethodName)) ∈ mWS := List.mem_filter.mpr ⟨List.mem_of_getElem? (i := 683) (by rfl), by rfl⟩
set_option maxRecDepth 100000 in
theorem tw_684 : (Jvm.Cond.instanceMethod ({ cls := "PancakePort", name := "count", desc := "(I)I" } : Jvm.MethodName)) ∈ mWS := List.mem_filter.mpr ⟨List.mem_of_getElem? (i := 684) (by rfl), by rfl⟩
set_option maxRecDepth 100000 in
theorem tw_685 : (Jvm.Cond.selects "PancakePort" ({ cls := "PancakePort", name := "count", desc := "(I)I" } : Jvm.MethodName) ({ cls := "PancakePort", name := "count", desc := "(I)I" } : Jvm.MethodName)) ∈ mWS := List.mem_filter.mpr ⟨List.mem_of_getElem? (i := 685) (by rfl), by rfl⟩
set_option maxRecDepth 100000 in
theorem tw_686 : (Jvm.Cond.code ({ cls := "PancakePort", name := "count", desc := "(I)I" } : Jvm.MethodName) prog_1_method_26_code (2 : Nat) (Option.some Jvm.ClassFile.FieldType.int)) ∈ mWS := List.mem_filter.mpr ⟨List.mem_of_getElem? (i := 686) (by rfl), by rfl⟩
set_option maxRecDepth 100000 in
theorem tw_687 : (Jvm.Cond.methodLink "PancakePort" (227 : Nat) ({ cls := "PancakePort", name := "sum", desc := "([I)I" } : Jvm.MethodName)) ∈ mWS := List.mem_filter.mpr ⟨List.mem_of_getElem? (i := 687) (by rfl), by rfl⟩
set_option maxRecDepth 100000 in
theorem tw_688 : (Jvm.Cond.static ({ cls := "PancakePort", name := "sum", desc := "([I)I" } : Jvm.MethodName)) ∈ mWS := List.mem_filter.mpr ⟨List.mem_of_getElem? (i := 688) (by rfl), by rfl⟩
set_option maxRecDepth 100000 in
theorem tw_689 : (Jvm.Cond.code ({ cls := "PancakePort", name := "sum", desc := "([I)I" } : Jvm.MethodName) prog_1_method_58_code (3 : Nat) (Option.some Jvm.ClassFile.FieldType.int)) ∈ mWS := List.mem_filter.mpr ⟨List.mem_of_getElem? (i := 689) (by rfl), by rfl⟩
set_option maxRecDepth 100000 in
theorem tw_690 : (Jvm.Cond.methodLink "PancakePortLaw" (101 : Nat) ({ cls := "PancakePortLaw", name := "does", desc := "(LPancakePort;[I[II)Z" } : Jvm.MethodName)) ∈ mWS := List.mem_filter.mpr ⟨List.mem_of_getElem? (i := 690) (by rfl), by rfl⟩
set_option maxRecDepth 100000 in
theorem tw_691 : (Jvm.Cond.static ({ cls := "PancakePortLaw", name := "does", desc := "(LPancakePort;[I[II)Z" } : Jvm.MethodName)) ∈ mWS := List.mem_filter.mpr ⟨List.mem_of_getElem? (i := 691) (by rfl), by rfl⟩
set_option maxRecDepth 100000 in
theorem tw_692 : (Jvm.Cond.code ({ cls := "PancakePortLaw", name := "does", desc := "(LPancakePort;[I[II)Z" } : Jvm.MethodName) method_15_code (9 : Nat) (Option.some Jvm.ClassFile.FieldType.boolean)) ∈ mWS := List.mem_filter.mpr ⟨List.mem_of_getElem? (i := 692) (by rfl), by rfl⟩
set_option maxRecDepth 100000 in
theorem tw_693 : (Jvm.Cond.methodLink "PancakePortLaw" (47 : Nat) ({ cls := "PancakePortLaw", name := "covers", desc := "([I[IIII)I" } : Jvm.MethodName)) ∈ mWS := List.mem_filter.mpr ⟨List.mem_of_getElem? (i := 693) (by rfl), by rfl⟩
set_option maxRecDepth 100000 in
theorem tw_694 : (Jvm.Cond.static ({ cls := "PancakePortLaw", name := "covers", desc := "([I[IIII)I" } : Jvm.MethodName)) ∈ mWS := List.mem_filter.mpr ⟨List.mem_of_getElem? (i := 694) (by rfl), by rfl⟩
set_option maxRecDepth 100000 in
theorem tw_695 : (Jvm.Cond.code ({ cls := "PancakePortLaw", name := "covers", desc := "([I[IIII)I" } : Jvm.MethodName) method_11_code (8 : Nat) (Option.some Jvm.ClassFile.FieldType.int)) ∈ mWS := List.mem_filter.mpr ⟨List.mem_of_getElem? (i := 695) (by rfl), by rfl⟩
set_option maxRecDepth 100000 in
theorem tw_696 : (Jvm.Cond.methodLink "PancakePortLaw" (24 : Nat) ({ cls := "PancakePortLaw", name := "lands", desc := "([IIII)I" } : Jvm.MethodName)) ∈ mWS := List.mem_filter.mpr ⟨List.mem_of_getElem? (i := 696) (by rfl), by rfl⟩
set_option maxRecDepth 100000 in
theorem tw_697 : (Jvm.Cond.static ({ cls := "PancakePortLaw", name := "lands", desc := "([IIII)I" } : Jvm.MethodName)) ∈ mWS := List.mem_filter.mpr ⟨List.mem_of_getElem? (i := 697) (by rfl), by rfl⟩
set_option maxRecDepth 100000 in
theorem tw_698 : (Jvm.Cond.code ({ cls := "PancakePortLaw", name := "lands", desc := "([IIII)I" } : Jvm.MethodName) method_9_code (6 : Nat) (Option.some Jvm.ClassFile.FieldType.int)) ∈ mWS := List.mem_filter.mpr ⟨List.mem_of_getElem? (i := 698) (by rfl), by rfl⟩
set_option maxRecDepth 100000 in
theorem tw_699 : (Jvm.Cond.methodLink "PancakePortLaw" (28 : Nat) ({ cls := "PancakePortLaw", name := "over", desc := "(III)Z" } : Jvm.MethodName)) ∈ mWS := List.mem_filter.mpr ⟨List.mem_of_getElem? (i := 699) (by rfl), by rfl⟩
set_option maxRecDepth 100000 in
theorem tw_700 : (Jvm.Cond.static ({ cls := "PancakePortLaw", name := "over", desc := "(III)Z" } : Jvm.MethodName)) ∈ mWS := List.mem_filter.mpr ⟨List.mem_of_getElem? (i := 700) (by rfl), by rfl⟩
set_option maxRecDepth 100000 in
theorem tw_701 : (Jvm.Cond.code ({ cls := "PancakePortLaw", name := "over", desc := "(III)Z" } : Jvm.MethodName) method_10_code (6 : Nat) (Option.some Jvm.ClassFile.FieldType.boolean)) ∈ mWS := List.mem_filter.mpr ⟨List.mem_of_getElem? (i := 701) (by rfl), by rfl⟩
set_option maxRecDepth 100000 in
theorem tw_702 : (Jvm.Cond.methodLink "PancakePortLaw" (51 : Nat) ({ cls := "PancakePortLaw", name := "bare", desc := "([I[I)I" } : Jvm.MethodName)) ∈ mWS := List.mem_filter.mpr ⟨List.mem_of_getElem? (i := 702) (by rfl), by rfl⟩
set_option maxRecDepth 100000 in
theorem tw_703 : (Jvm.Cond.static ({ cls := "PancakePortLaw", name := "bare", desc := "([I[I)I" } : Jvm.MethodName)) ∈ mWS := List.mem_filter.mpr ⟨List.mem_of_getElem? (i := 703) (by rfl), by rfl⟩
set_option maxRecDepth 100000 in
theorem tw_704 : (Jvm.Cond.code ({ cls := "PancakePortLaw", name := "bare", desc := "([I[I)I" } : Jvm.MethodName) method_12_code (4 : Nat) (Option.some Jvm.ClassFile.FieldType.int)) ∈ mWS := List.mem_filter.mpr ⟨List.mem_of_getElem? (i := 704) (by rfl), by rfl⟩
set_option maxRecDepth 100000 in
theorem tw_705 : (Jvm.Cond.methodLink "PancakePortLaw" (55 : Nat) ({ cls := "PancakePortLaw", name := "in", desc := "(II)Z" } : Jvm.MethodName)) ∈ mWS := List.mem_filter.mpr ⟨List.mem_of_getElem? (i := 705) (by rfl), by rfl⟩
set_option maxRecDepth 100000 in
theorem tw_706 : (Jvm.Cond.static ({ cls := "PancakePortLaw", name := "in", desc := "(II)Z" } : Jvm.MethodName)) ∈ mWS := List.mem_filter.mpr ⟨List.mem_of_getElem? (i := 706) (by rfl), by rfl⟩
set_option maxRecDepth 100000 in
theorem tw_707 : (Jvm.Cond.code ({ cls := "PancakePortLaw", name := "in", desc := "(II)Z" } : Jvm.MethodName) method_6_code (2 : Nat) (Option.some Jvm.ClassFile.FieldType.boolean)) ∈ mWS := List.mem_filter.mpr ⟨List.mem_of_getElem? (i := 707) (by rfl), by rfl⟩
set_option maxRecDepth 100000 in
theorem tw_708 : (Jvm.Cond.methodLink "PancakePortLaw" (59 : Nat) ({ cls := "PancakePortLaw", name := "size", desc := "(I)I" } : Jvm.MethodName)) ∈ mWS := List.mem_filter.mpr ⟨List.mem_of_getElem? (i := 708) (by rfl), by rfl⟩
set_option maxRecDepth 100000 in
theorem tw_709 : (Jvm.Cond.static ({ cls := "PancakePortLaw", name := "size", desc := "(I)I" } : Jvm.MethodName)) ∈ mWS := List.mem_filter.mpr ⟨List.mem_of_getElem? (i := 709) (by rfl), by rfl⟩
set_option maxRecDepth 100000 in
theorem tw_710 : (Jvm.Cond.code ({ cls := "PancakePortLaw", name := "size", desc := "(I)I" } : Jvm.MethodName) method_7_code (3 : Nat) (Option.some Jvm.ClassFile.FieldType.int)) ∈ mWS := List.mem_filter.mpr ⟨List.mem_of_getElem? (i := 710) (by rfl), by rfl⟩
set_option maxRecDepth 100000 in
theorem tw_711 : (Jvm.Cond.methodLink "PancakePortLaw" (65 : Nat) ({ cls := "PancakePort", name := "morning", desc := "()I" } : Jvm.MethodName)) ∈ mWS := List.mem_filter.mpr ⟨List.mem_of_getElem? (i := 711) (by rfl), by rfl⟩
set_option maxRecDepth 100000 in
theorem tw_712 : (Jvm.Cond.instanceMethod ({ cls := "PancakePort", name := "morning", desc := "()I" } : Jvm.MethodName)) ∈ mWS := List.mem_filter.mpr ⟨List.mem_of_getElem? (i := 712) (by rfl), by rfl⟩
set_option maxRecDepth 100000 in
theorem tw_713 : (Jvm.Cond.selects "PancakePort" ({ cls := "PancakePort", name := "morning", desc := "()I" } : Jvm.MethodName) ({ cls := "PancakePort", name := "morning", desc := "()I" } : Jvm.MethodName)) ∈ mWS := List.mem_filter.mpr ⟨List.mem_of_getElem? (i := 713) (by rfl), by rfl⟩
set_option maxRecDepth 100000 in
theorem tw_714 : (Jvm.Cond.code ({ cls := "PancakePort", name := "morning", desc := "()I" } : Jvm.MethodName) prog_1_method_13_code (2 : Nat) (Option.some Jvm.ClassFile.FieldType.int)) ∈ mWS := List.mem_filter.mpr ⟨List.mem_of_getElem? (i := 714) (by rfl), by rfl⟩
set_option maxRecDepth 100000 in
theorem tw_715 : (Jvm.Cond.methodLink "PancakePort" (179 : Nat) ({ cls := "PancakePort$Night", name := "wake", desc := "(I)V" } : Jvm.MethodName)) ∈ mWS := List.mem_filter.mpr ⟨List.mem_of_getElem? (i := 715) (by rfl), by rfl⟩
set_option maxRecDepth 100000 in
theorem tw_716 : (Jvm.Cond.instanceMethod ({ cls := "PancakePort$Night", name := "wake", desc := "(I)V" } : Jvm.MethodName)) ∈ mWS := List.mem_filter.mpr ⟨List.mem_of_getElem? (i := 716) (by rfl), by rfl⟩
set_option maxRecDepth 100000 in
theorem tw_717 : (Jvm.Cond.selects "PancakePort$Night" ({ cls := "PancakePort$Night", name := "wake", desc := "(I)V" } : Jvm.MethodName) ({ cls := "PancakePort$Night", name := "wake", desc := "(I)V" } : Jvm.MethodName)) ∈ mWS := List.mem_filter.mpr ⟨List.mem_of_getElem? (i := 717) (by rfl), by rfl⟩
set_option maxRecDepth 100000 in
theorem tw_718 : (Jvm.Cond.code ({ cls := "PancakePort$Night", name := "wake", desc := "(I)V" } : Jvm.MethodName) prog_4_method_3_code (4 : Nat) (Option.none : Option Jvm.ClassFile.FieldType)) ∈ mWS := List.mem_filter.mpr ⟨List.mem_of_getElem? (i := 718) (by rfl), by rfl⟩
set_option maxRecDepth 100000 in
theorem tw_719 : (Jvm.Cond.methodLinkNest "PancakePort$Night" (69 : Nat) ({ cls := "PancakePort", name := "at", desc := "([II)I" } : Jvm.MethodName) "PancakePort") ∈ mNw := List.mem_filter.mpr ⟨List.mem_of_getElem? (i := 719) (by rfl), by rfl⟩
set_option maxRecDepth 100000 in
theorem tw_720 : (Jvm.Cond.methodLinkNest "PancakePort$Night" (73 : Nat) ({ cls := "PancakePort", name := "put", desc := "([III)V" } : Jvm.MethodName) "PancakePort") ∈ mNw := List.mem_filter.mpr ⟨List.mem_of_getElem? (i := 720) (by rfl), by rfl⟩
set_option maxRecDepth 100000 in
theorem tw_721 : (Jvm.Cond.methodLink "PancakePortLaw" (105 : Nat) ({ cls := "PancakePortLaw", name := "lies", desc := "(LPancakePort;[I[III)Z" } : Jvm.MethodName)) ∈ mWS := List.mem_filter.mpr ⟨List.mem_of_getElem? (i := 721) (by rfl), by rfl⟩
set_option maxRecDepth 100000 in
theorem tw_722 : (Jvm.Cond.static ({ cls := "PancakePortLaw", name := "lies", desc := "(LPancakePort;[I[III)Z" } : Jvm.MethodName)) ∈ mWS := List.mem_filter.mpr ⟨List.mem_of_getElem? (i := 722) (by rfl), by rfl⟩
set_option maxRecDepth 100000 in
theorem tw_723 : (Jvm.Cond.code ({ cls := "PancakePortLaw", name := "lies", desc := "(LPancakePort;[I[III)Z" } : Jvm.MethodName) method_17_code (11 : Nat) (Option.some Jvm.ClassFile.FieldType.boolean)) ∈ mWS := List.mem_filter.mpr ⟨List.mem_of_getElem? (i := 723) (by rfl), by rfl⟩
set_option maxRecDepth 100000 in
theorem tw_724 : (Jvm.Cond.methodLink "PancakePortLaw" (110 : Nat) ({ cls := "PancakePortLaw", name := "seasons", desc := "(LPancakePort;[I[III)Z" } : Jvm.MethodName)) ∈ mWS := List.mem_filter.mpr ⟨List.mem_of_getElem? (i := 724) (by rfl), by rfl⟩
set_option maxRecDepth 100000 in
theorem tw_725 : (Jvm.Cond.static ({ cls := "PancakePortLaw", name := "seasons", desc := "(LPancakePort;[I[III)Z" } : Jvm.MethodName)) ∈ mWS := List.mem_filter.mpr ⟨List.mem_of_getElem? (i := 725) (by rfl), by rfl⟩
set_option maxRecDepth 100000 in
theorem tw_726 : (Jvm.Cond.code ({ cls := "PancakePortLaw", name := "seasons", desc := "(LPancakePort;[I[III)Z" } : Jvm.MethodName) method_18_code (13 : Nat) (Option.some Jvm.ClassFile.FieldType.boolean)) ∈ mWS := List.mem_filter.mpr ⟨List.mem_of_getElem? (i := 726) (by rfl), by rfl⟩
set_option maxRecDepth 100000 in
theorem tw_727 : (Jvm.Cond.methodLink "PancakePortLaw" (125 : Nat) ({ cls := "PancakePortLaw", name := "after", desc := "(J)J" } : Jvm.MethodName)) ∈ mWS := List.mem_filter.mpr ⟨List.mem_of_getElem? (i := 727) (by rfl), by rfl⟩
set_option maxRecDepth 100000 in
theorem tw_728 : (Jvm.Cond.static ({ cls := "PancakePortLaw", name := "after", desc := "(J)J" } : Jvm.MethodName)) ∈ mWS := List.mem_filter.mpr ⟨List.mem_of_getElem? (i := 728) (by rfl), by rfl⟩
set_option maxRecDepth 100000 in
theorem tw_729 : (Jvm.Cond.code ({ cls := "PancakePortLaw", name := "after", desc := "(J)J" } : Jvm.MethodName) method_19_code (2 : Nat) (Option.some Jvm.ClassFile.FieldType.long)) ∈ mWS := List.mem_filter.mpr ⟨List.mem_of_getElem? (i := 729) (by rfl), by rfl⟩
set_option maxRecDepth 100000 in
theorem tw_730 : (Jvm.Cond.constantLong "PancakePortLaw" (135 : Nat) (1103515245 : Int64)) ∈ mWS := List.mem_filter.mpr ⟨List.mem_of_getElem? (i := 730) (by rfl), by rfl⟩
set_option maxRecDepth 100000 in
theorem tw_731 : (Jvm.Cond.constantLong "PancakePortLaw" (137 : Nat) (12345 : Int64)) ∈ mWS := List.mem_filter.mpr ⟨List.mem_of_getElem? (i := 731) (by rfl), by rfl⟩
set_option maxRecDepth 100000 in
theorem tw_732 : (Jvm.Cond.constantLong "PancakePortLaw" (139 : Nat) (2147483648 : Int64)) ∈ mWS := List.mem_filter.mpr ⟨List.mem_of_getElem? (i := 732) (by rfl), by rfl⟩
set_option maxRecDepth 100000 in
theorem tw_733 : (Jvm.Cond.constantLong "PancakePortLaw" (129 : Nat) (65536 : Int64)) ∈ mWS := List.mem_filter.mpr ⟨List.mem_of_getElem? (i := 733) (by rfl), by rfl⟩
set_option maxRecDepth 100000 in
theorem tw_734 : (Jvm.Cond.constantLong "PancakePortLaw" (131 : Nat) (3 : Int64)) ∈ mWS := List.mem_filter.mpr ⟨List.mem_of_getElem? (i := 734) (by rfl), by rfl⟩
set_option maxRecDepth 100000 in
theorem tw_735 : (Jvm.Cond.constantLong "PancakePortLaw" (133 : Nat) (36 : Int64)) ∈ mWS := List.mem_filter.mpr ⟨List.mem_of_getElem? (i := 735) (by rfl), by rfl⟩
set_option maxRecDepth 100000 in
theorem tw_736 : (Jvm.Cond.constant "PancakePortLaw" (109 : Nat) (2147483647 : Int32)) ∈ mWS := List.mem_filter.mpr ⟨List.mem_of_getElem? (i := 736) (by rfl), by rfl⟩
set_option maxRecDepth 100000 in
theorem tw_737 : (Jvm.Cond.sameMethod "PancakePort$Wide" "PancakePort$Wide" "spreads" "(II)Z") ∈ mWS := List.mem_filter.mpr ⟨List.mem_of_getElem? (i := 737) (by rfl), by rfl⟩
set_option maxRecDepth 100000 in
theorem tw_738 : (Jvm.Cond.castable "PancakePort$Mayor" "PancakePort$Wide") ∈ mNw := List.mem_filter.mpr ⟨List.mem_of_getElem? (i := 738) (by rfl), by rfl⟩
set_option maxRecDepth 100000 in
theorem tw_739 : (Jvm.Cond.castable "PancakePort$Lacy" "PancakePort$Tosser") ∈ mNw := List.mem_filter.mpr ⟨List.mem_of_getElem? (i := 739) (by rfl), by rfl⟩
set_option maxRecDepth 100000 in
theorem tw_740 : (Jvm.Cond.castable "PancakePort$Wide" "PancakePort$Tosser") ∈ mNw := List.mem_filter.mpr ⟨List.mem_of_getElem? (i := 740) (by rfl), by rfl⟩
set_option maxRecDepth 100000 in
theorem tw_741 : (Jvm.Cond.castable "PancakePort$Thrifty" "PancakePort$Tosser") ∈ mNw := List.mem_filter.mpr ⟨List.mem_of_getElem? (i := 741) (by rfl), by rfl⟩
set_option maxRecDepth 100000 in
theorem tw_742 : (Jvm.Cond.castable "PancakePort$Mayor" "PancakePort$Tosser") ∈ mNw := List.mem_filter.mpr ⟨List.mem_of_getElem? (i := 742) (by rfl), by rfl⟩
set_option maxRecDepth 100000 in
theorem tw_743 : (Jvm.Cond.fieldLink "java/lang/String" (15 : Nat) "java/lang/String" "coder" "B") ∈ mWS := List.mem_filter.mpr ⟨List.mem_of_getElem? (i := 743) (by rfl), by rfl⟩
set_option maxRecDepth 100000 in
theorem tw_744 : (Jvm.Cond.fieldLink "java/lang/String" (9 : Nat) "java/lang/String" "value" "[B") ∈ mWS := List.mem_filter.mpr ⟨List.mem_of_getElem? (i := 744) (by rfl), by rfl⟩
