set_option maxRecDepth 100000 in
theorem tw_613 : (Jvm.Cond.instanceMethod ({ cls := "PancakePort$Seen", name := "turnsOf", desc := "(I)I" } : Jvm.MethodName)) ∈ mWS := List.mem_filter.mpr ⟨List.mem_of_getElem? (i := 613) (by rfl), by rfl⟩
set_option maxRecDepth 100000 in
theorem tw_614 : (Jvm.Cond.selects "PancakePort$Seen" ({ cls := "PancakePort$Seen", name := "turnsOf", desc := "(I)I" } : Jvm.MethodName) ({ cls := "PancakePort$Seen", name := "turnsOf", desc := "(I)I" } : Jvm.MethodName)) ∈ mWS := List.mem_filter.mpr ⟨List.mem_of_getElem? (i := 614) (by rfl), by rfl⟩
set_option maxRecDepth 100000 in
theorem tw_615 : (Jvm.Cond.code ({ cls := "PancakePort$Seen", name := "turnsOf", desc := "(I)I" } : Jvm.MethodName) prog_8_method_3_code (4 : Nat) (Option.some Jvm.ClassFile.FieldType.int)) ∈ mWS := List.mem_filter.mpr ⟨List.mem_of_getElem? (i := 615) (by rfl), by rfl⟩
set_option maxRecDepth 100000 in
theorem tw_616 : (Jvm.Cond.methodLink "PancakePort$Seen" (29 : Nat) ({ cls := "PancakePort$Seen", name := "allows", desc := "(II)Z" } : Jvm.MethodName)) ∈ mWS := List.mem_filter.mpr ⟨List.mem_of_getElem? (i := 616) (by rfl), by rfl⟩
set_option maxRecDepth 100000 in
theorem tw_618 : (Jvm.Cond.instanceMethod ({ cls := "PancakePort$Seen", name := "allows", desc := "(II)Z" } : Jvm.MethodName)) ∈ mWS := List.mem_filter.mpr ⟨List.mem_of_getElem? (i := 618) (by rfl), by rfl⟩
set_option maxRecDepth 100000 in
theorem tw_619 : (Jvm.Cond.code ({ cls := "PancakePort$Seen", name := "allows", desc := "(II)Z" } : Jvm.MethodName) prog_8_method_4_code (5 : Nat) (Option.some Jvm.ClassFile.FieldType.boolean)) ∈ mWS := List.mem_filter.mpr ⟨List.mem_of_getElem? (i := 619) (by rfl), by rfl⟩
set_option maxRecDepth 100000 in
theorem tw_620 : (Jvm.Cond.methodLinkNest "PancakePort$Seen" (33 : Nat) ({ cls := "PancakePort", name := "at", desc := "([II)I" } : Jvm.MethodName) "PancakePort") ∈ mNw := List.mem_filter.mpr ⟨List.mem_of_getElem? (i := 620) (by rfl), by rfl⟩
set_option maxRecDepth 100000 in
theorem tw_621 : (Jvm.Cond.methodLinkNest "PancakePort$Seen" (37 : Nat) ({ cls := "PancakePort", name := "columnBy", desc := "(II)I" } : Jvm.MethodName) "PancakePort") ∈ mNw := List.mem_filter.mpr ⟨List.mem_of_getElem? (i := 621) (by rfl), by rfl⟩
set_option maxRecDepth 100000 in
theorem tw_622 : (Jvm.Cond.static ({ cls := "PancakePort", name := "columnBy", desc := "(II)I" } : Jvm.MethodName)) ∈ mWS := List.mem_filter.mpr ⟨List.mem_of_getElem? (i := 622) (by rfl), by rfl⟩
set_option maxRecDepth 100000 in
theorem tw_623 : (Jvm.Cond.code ({ cls := "PancakePort", name := "columnBy", desc := "(II)I" } : Jvm.MethodName) prog_1_method_49_code (3 : Nat) (Option.some Jvm.ClassFile.FieldType.int)) ∈ mWS := List.mem_filter.mpr ⟨List.mem_of_getElem? (i := 623) (by rfl), by rfl⟩
set_option maxRecDepth 100000 in
theorem tw_624 : (Jvm.Cond.methodLink "PancakePort" (203 : Nat) ({ cls := "PancakePort", name := "isColumn", desc := "(I)Z" } : Jvm.MethodName)) ∈ mWS := List.mem_filter.mpr ⟨List.mem_of_getElem? (i := 624) (by rfl), by rfl⟩
set_option maxRecDepth 100000 in
theorem tw_625 : (Jvm.Cond.static ({ cls := "PancakePort", name := "isColumn", desc := "(I)Z" } : Jvm.MethodName)) ∈ mWS := List.mem_filter.mpr ⟨List.mem_of_getElem? (i := 625) (by rfl), by rfl⟩
set_option maxRecDepth 100000 in
theorem tw_626 : (Jvm.Cond.code ({ cls := "PancakePort", name := "isColumn", desc := "(I)Z" } : Jvm.MethodName) prog_1_method_46_code (1 : Nat) (Option.some Jvm.ClassFile.FieldType.boolean)) ∈ mWS := List.mem_filter.mpr ⟨List.mem_of_getElem? (i := 626) (by rfl), by rfl⟩
set_option maxRecDepth 100000 in
theorem tw_627 : (Jvm.Cond.methodLink "PancakePort" (132 : Nat) ({ cls := "PancakePort", name := "tellingAim", desc := "(I)I" } : Jvm.MethodName)) ∈ mWS := List.mem_filter.mpr ⟨List.mem_of_getElem? (i := 627) (by rfl), by rfl⟩
set_option maxRecDepth 100000 in
theorem tw_628 : (Jvm.Cond.static ({ cls := "PancakePort", name := "tellingAim", desc := "(I)I" } : Jvm.MethodName)) ∈ mWS := List.mem_filter.mpr ⟨List.mem_of_getElem? (i := 628) (by rfl), by rfl⟩
set_option maxRecDepth 100000 in
theorem tw_629 : (Jvm.Cond.code ({ cls := "PancakePort", name := "tellingAim", desc := "(I)I" } : Jvm.MethodName) prog_1_method_50_code (5 : Nat) (Option.some Jvm.ClassFile.FieldType.int)) ∈ mWS := List.mem_filter.mpr ⟨List.mem_of_getElem? (i := 629) (by rfl), by rfl⟩
set_option maxRecDepth 100000 in
theorem tw_630 : (Jvm.Cond.methodLink "PancakePort" (305 : Nat) ({ cls := "PancakePort", name := "mostLeft", desc := "(II)I" } : Jvm.MethodName)) ∈ mWS := List.mem_filter.mpr ⟨List.mem_of_getElem? (i := 630) (by rfl), by rfl⟩
set_option maxRecDepth 100000 in
theorem tw_631 : (Jvm.Cond.static ({ cls := "PancakePort", name := "mostLeft", desc := "(II)I" } : Jvm.MethodName)) ∈ mWS := List.mem_filter.mpr ⟨List.mem_of_getElem? (i := 631) (by rfl), by rfl⟩
set_option maxRecDepth 100000 in
theorem tw_632 : (Jvm.Cond.code ({ cls := "PancakePort", name := "mostLeft", desc := "(II)I" } : Jvm.MethodName) prog_1_method_51_code (6 : Nat) (Option.some Jvm.ClassFile.FieldType.int)) ∈ mWS := List.mem_filter.mpr ⟨List.mem_of_getElem? (i := 632) (by rfl), by rfl⟩
set_option maxRecDepth 100000 in
theorem tw_633 : (Jvm.Cond.methodLink "PancakePort" (308 : Nat) ({ cls := "PancakePort", name := "columnBy", desc := "(II)I" } : Jvm.MethodName)) ∈ mWS := List.mem_filter.mpr ⟨List.mem_of_getElem? (i := 633) (by rfl), by rfl⟩
set_option maxRecDepth 100000 in
theorem tw_634 : (Jvm.Cond.methodLink "PancakePort" (311 : Nat) ({ cls := "java/lang/Math", name := "max", desc := "(II)I" } : Jvm.MethodName)) ∈ mWS := List.mem_filter.mpr ⟨List.mem_of_getElem? (i := 634) (by rfl), by rfl⟩
set_option maxRecDepth 100000 in
theorem tw_635 : (Jvm.Cond.methodLink "PancakePortLaw" (40 : Nat) ({ cls := "PancakePort", name := "as", desc := "(II)I" } : Jvm.MethodName)) ∈ mWS := List.mem_filter.mpr ⟨List.mem_of_getElem? (i := 635) (by rfl), by rfl⟩
set_option maxRecDepth 100000 in
theorem tw_636 : (Jvm.Cond.instanceMethod ({ cls := "PancakePort", name := "as", desc := "(II)I" } : Jvm.MethodName)) ∈ mWS := List.mem_filter.mpr ⟨List.mem_of_getElem? (i := 636) (by rfl), by rfl⟩
set_option maxRecDepth 100000 in
theorem tw_637 : (Jvm.Cond.selects "PancakePort" ({ cls := "PancakePort", name := "as", desc := "(II)I" } : Jvm.MethodName) ({ cls := "PancakePort", name := "as", desc := "(II)I" } : Jvm.MethodName)) ∈ mWS := List.mem_filter.mpr ⟨List.mem_of_getElem? (i := 637) (by rfl), by rfl⟩
set_option maxRecDepth 100000 in
theorem tw_638 : (Jvm.Cond.code ({ cls := "PancakePort", name := "as", desc := "(II)I" } : Jvm.MethodName) prog_1_method_8_code (4 : Nat) (Option.some Jvm.ClassFile.FieldType.int)) ∈ mWS := List.mem_filter.mpr ⟨List.mem_of_getElem? (i := 638) (by rfl), by rfl⟩
set_option maxRecDepth 100000 in
theorem tw_639 : (Jvm.Cond.methodLink "PancakePort" (138 : Nat) ({ cls := "PancakePort", name := "isOfKind", desc := "(LPancakePort$Tosser;I)Z" } : Jvm.MethodName)) ∈ mWS := List.mem_filter.mpr ⟨List.mem_of_getElem? (i := 639) (by rfl), by rfl⟩
set_option maxRecDepth 100000 in
theorem tw_640 : (Jvm.Cond.static ({ cls := "PancakePort", name := "isOfKind", desc := "(LPancakePort$Tosser;I)Z" } : Jvm.MethodName)) ∈ mWS := List.mem_filter.mpr ⟨List.mem_of_getElem? (i := 640) (by rfl), by rfl⟩
set_option maxRecDepth 100000 in
theorem tw_641 : (Jvm.Cond.code ({ cls := "PancakePort", name := "isOfKind", desc := "(LPancakePort$Tosser;I)Z" } : Jvm.MethodName) prog_1_method_60_code (2 : Nat) (Option.some Jvm.ClassFile.FieldType.boolean)) ∈ mWS := List.mem_filter.mpr ⟨List.mem_of_getElem? (i := 641) (by rfl), by rfl⟩
set_option maxRecDepth 100000 in
theorem tw_642 : (Jvm.Cond.methodLink "PancakePortLaw" (44 : Nat) ({ cls := "PancakePort", name := "lands", desc := "(II)I" } : Jvm.MethodName)) ∈ mWS := List.mem_filter.mpr ⟨List.mem_of_getElem? (i := 642) (by rfl), by rfl⟩
set_option maxRecDepth 100000 in
theorem tw_643 : (Jvm.Cond.instanceMethod ({ cls := "PancakePort", name := "lands", desc := "(II)I" } : Jvm.MethodName)) ∈ mWS := List.mem_filter.mpr ⟨List.mem_of_getElem? (i := 643) (by rfl), by rfl⟩
set_option maxRecDepth 100000 in
theorem tw_644 : (Jvm.Cond.selects "PancakePort" ({ cls := "PancakePort", name := "lands", desc := "(II)I" } : Jvm.MethodName) ({ cls := "PancakePort", name := "lands", desc := "(II)I" } : Jvm.MethodName)) ∈ mWS := List.mem_filter.mpr ⟨List.mem_of_getElem? (i := 644) (by rfl), by rfl⟩
set_option maxRecDepth 100000 in
theorem tw_645 : (Jvm.Cond.code ({ cls := "PancakePort", name := "lands", desc := "(II)I" } : Jvm.MethodName) prog_1_method_9_code (3 : Nat) (Option.some Jvm.ClassFile.FieldType.int)) ∈ mWS := List.mem_filter.mpr ⟨List.mem_of_getElem? (i := 645) (by rfl), by rfl⟩
set_option maxRecDepth 100000 in
theorem tw_646 : (Jvm.Cond.methodLink "PancakePort" (142 : Nat) ({ cls := "PancakePort", name := "isToss", desc := "(II)Z" } : Jvm.MethodName)) ∈ mWS := List.mem_filter.mpr ⟨List.mem_of_getElem? (i := 646) (by rfl), by rfl⟩
set_option maxRecDepth 100000 in
theorem tw_648 : (Jvm.Cond.instanceMethod ({ cls := "PancakePort", name := "isToss", desc := "(II)Z" } : Jvm.MethodName)) ∈ mWS := List.mem_filter.mpr ⟨List.mem_of_getElem? (i := 648) (by rfl), by rfl⟩
set_option maxRecDepth 100000 in
theorem tw_649 : (Jvm.Cond.code ({ cls := "PancakePort", name := "isToss", desc := "(II)Z" } : Jvm.MethodName) prog_1_method_33_code (3 : Nat) (Option.some Jvm.ClassFile.FieldType.boolean)) ∈ mWS := List.mem_filter.mpr ⟨List.mem_of_getElem? (i := 649) (by rfl), by rfl⟩
set_option maxRecDepth 100000 in
theorem tw_650 : (Jvm.Cond.methodLink "PancakePort" (156 : Nat) ({ cls := "PancakePort", name := "isCell", desc := "(I)Z" } : Jvm.MethodName)) ∈ mWS := List.mem_filter.mpr ⟨List.mem_of_getElem? (i := 650) (by rfl), by rfl⟩
set_option maxRecDepth 100000 in
theorem tw_652 : (Jvm.Cond.instanceMethod ({ cls := "PancakePort", name := "isCell", desc := "(I)Z" } : Jvm.MethodName)) ∈ mWS := List.mem_filter.mpr ⟨List.mem_of_getElem? (i := 652) (by rfl), by rfl⟩
set_option maxRecDepth 100000 in
theorem tw_653 : (Jvm.Cond.code ({ cls := "PancakePort", name := "isCell", desc := "(I)Z" } : Jvm.MethodName) prog_1_method_30_code (2 : Nat) (Option.some Jvm.ClassFile.FieldType.boolean)) ∈ mWS := List.mem_filter.mpr ⟨List.mem_of_getElem? (i := 653) (by rfl), by rfl⟩
set_option maxRecDepth 100000 in
theorem tw_654 : (Jvm.Cond.methodLink "PancakePort" (173 : Nat) ({ cls := "PancakePort", name := "hasPort", desc := "()Z" } : Jvm.MethodName)) ∈ mWS := List.mem_filter.mpr ⟨List.mem_of_getElem? (i := 654) (by rfl), by rfl⟩
set_option maxRecDepth 100000 in
theorem tw_656 : (Jvm.Cond.instanceMethod ({ cls := "PancakePort", name := "hasPort", desc := "()Z" } : Jvm.MethodName)) ∈ mWS := List.mem_filter.mpr ⟨List.mem_of_getElem? (i := 656) (by rfl), by rfl⟩
set_option maxRecDepth 100000 in
theorem tw_657 : (Jvm.Cond.code ({ cls := "PancakePort", name := "hasPort", desc := "()Z" } : Jvm.MethodName) prog_1_method_29_code (1 : Nat) (Option.some Jvm.ClassFile.FieldType.boolean)) ∈ mWS := List.mem_filter.mpr ⟨List.mem_of_getElem? (i := 657) (by rfl), by rfl⟩
set_option maxRecDepth 100000 in
theorem tw_658 : (Jvm.Cond.methodLink "PancakePortLaw" (48 : Nat) ({ cls := "PancakePort", name := "covers", desc := "(II)I" } : Jvm.MethodName)) ∈ mWS := List.mem_filter.mpr ⟨List.mem_of_getElem? (i := 658) (by rfl), by rfl⟩
set_option maxRecDepth 100000 in
theorem tw_659 : (Jvm.Cond.instanceMethod ({ cls := "PancakePort", name := "covers", desc := "(II)I" } : Jvm.MethodName)) ∈ mWS := List.mem_filter.mpr ⟨List.mem_of_getElem? (i := 659) (by rfl), by rfl⟩
set_option maxRecDepth 100000 in
theorem tw_660 : (Jvm.Cond.selects "PancakePort" ({ cls := "PancakePort", name := "covers", desc := "(II)I" } : Jvm.MethodName) ({ cls := "PancakePort", name := "covers", desc := "(II)I" } : Jvm.MethodName)) ∈ mWS := List.mem_filter.mpr ⟨List.mem_of_getElem? (i := 660) (by rfl), by rfl⟩
set_option maxRecDepth 100000 in
theorem tw_661 : (Jvm.Cond.code ({ cls := "PancakePort", name := "covers", desc := "(II)I" } : Jvm.MethodName) prog_1_method_10_code (3 : Nat) (Option.some Jvm.ClassFile.FieldType.int)) ∈ mWS := List.mem_filter.mpr ⟨List.mem_of_getElem? (i := 661) (by rfl), by rfl⟩
set_option maxRecDepth 100000 in
theorem tw_662 : (Jvm.Cond.methodLink "PancakePortLaw" (52 : Nat) ({ cls := "PancakePort", name := "toss", desc := "(II)I" } : Jvm.MethodName)) ∈ mWS := List.mem_filter.mpr ⟨List.mem_of_getElem? (i := 662) (by rfl), by rfl⟩
set_option maxRecDepth 100000 in
theorem tw_663 : (Jvm.Cond.instanceMethod ({ cls := "PancakePort", name := "toss", desc := "(II)I" } : Jvm.MethodName)) ∈ mWS := List.mem_filter.mpr ⟨List.mem_of_getElem? (i := 663) (by rfl), by rfl⟩
set_option maxRecDepth 100000 in
theorem tw_664 : (Jvm.Cond.selects "PancakePort" ({ cls := "PancakePort", name := "toss", desc := "(II)I" } : Jvm.MethodName) ({ cls := "PancakePort", name := "toss", desc := "(II)I" } : Jvm.MethodName)) ∈ mWS := List.mem_filter.mpr ⟨List.mem_of_getElem? (i := 664) (by rfl), by rfl⟩
set_option maxRecDepth 100000 in
theorem tw_665 : (Jvm.Cond.code ({ cls := "PancakePort", name := "toss", desc := "(II)I" } : Jvm.MethodName) prog_1_method_11_code (5 : Nat) (Option.some Jvm.ClassFile.FieldType.int)) ∈ mWS := List.mem_filter.mpr ⟨List.mem_of_getElem? (i := 665) (by rfl), by rfl⟩
set_option maxRecDepth 100000 in
theorem tw_666 : (Jvm.Cond.methodLink "PancakePortLaw" (56 : Nat) ({ cls := "PancakePort", name := "wind", desc := "(I)I" } : Jvm.MethodName)) ∈ mWS := List.mem_filter.mpr ⟨List.mem_of_getElem? (i := 666) (by rfl), by rfl⟩
set_option maxRecDepth 100000 in
theorem tw_667 : (Jvm.Cond.instanceMethod ({ cls := "PancakePort", name := "wind", desc := "(I)I" } : Jvm.MethodName)) ∈ mWS := List.mem_filter.mpr ⟨List.mem_of_getElem? (i := 667) (by rfl), by rfl⟩
set_option maxRecDepth 100000 in
theorem tw_668 : (Jvm.Cond.selects "PancakePort" ({ cls := "PancakePort", name := "wind", desc := "(I)I" } : Jvm.MethodName) ({ cls := "PancakePort", name := "wind", desc := "(I)I" } : Jvm.MethodName)) ∈ mWS := List.mem_filter.mpr ⟨List.mem_of_getElem? (i := 668) (by rfl), by rfl⟩
set_option maxRecDepth 100000 in
theorem tw_669 : (Jvm.Cond.code ({ cls := "PancakePort", name := "wind", desc := "(I)I" } : Jvm.MethodName) prog_1_method_12_code (3 : Nat) (Option.some Jvm.ClassFile.FieldType.int)) ∈ mWS := List.mem_filter.mpr ⟨List.mem_of_getElem? (i := 669) (by rfl), by rfl⟩
set_option maxRecDepth 100000 in
theorem tw_670 : (Jvm.Cond.methodLink "PancakePortLaw" (60 : Nat) ({ cls := "PancakePort", name := "morning", desc := "()I" } : Jvm.MethodName)) ∈ mWS := List.mem_filter.mpr ⟨List.mem_of_getElem? (i := 670) (by rfl), by rfl⟩
set_option maxRecDepth 100000 in
theorem tw_671 : (Jvm.Cond.instanceMethod ({ cls := "PancakePort", name := "morning", desc := "()I" } : Jvm.MethodName)) ∈ mWS := List.mem_filter.mpr ⟨List.mem_of_getElem? (i := 671) (by rfl), by rfl⟩
set_option maxRecDepth 100000 in
theorem tw_672 : (Jvm.Cond.selects "PancakePort" ({ cls := "PancakePort", name := "morning", desc := "()I" } : Jvm.MethodName) ({ cls := "PancakePort", name := "morning", desc := "()I" } : Jvm.MethodName)) ∈ mWS := List.mem_filter.mpr ⟨List.mem_of_getElem? (i := 672) (by rfl), by rfl⟩
set_option maxRecDepth 100000 in
theorem tw_673 : (Jvm.Cond.code ({ cls := "PancakePort", name := "morning", desc := "()I" } : Jvm.MethodName) prog_1_method_13_code (2 : Nat) (Option.some Jvm.ClassFile.FieldType.int)) ∈ mWS := List.mem_filter.mpr ⟨List.mem_of_getElem? (i := 673) (by rfl), by rfl⟩
set_option maxRecDepth 100000 in
theorem tw_674 : (Jvm.Cond.methodLink "PancakePort" (179 : Nat) ({ cls := "PancakePort$Night", name := "wake", desc := "(I)V" } : Jvm.MethodName)) ∈ mWS := List.mem_filter.mpr ⟨List.mem_of_getElem? (i := 674) (by rfl), by rfl⟩
set_option maxRecDepth 100000 in
theorem tw_675 : (Jvm.Cond.instanceMethod ({ cls := "PancakePort$Night", name := "wake", desc := "(I)V" } : Jvm.MethodName)) ∈ mWS := List.mem_filter.mpr ⟨List.mem_of_getElem? (i := 675) (by rfl), by rfl⟩
set_option maxRecDepth 100000 in
theorem tw_676 : (Jvm.Cond.selects "PancakePort$Night" ({ cls := "PancakePort$Night", name := "wake", desc := "(I)V" } : Jvm.MethodName) ({ cls := "PancakePort$Night", name := "wake", desc := "(I)V" } : Jvm.MethodName)) ∈ mWS := List.mem_filter.mpr ⟨List.mem_of_getElem? (i := 676) (by rfl), by rfl⟩
set_option maxRecDepth 100000 in
theorem tw_677 : (Jvm.Cond.code ({ cls := "PancakePort$Night", name := "wake", desc := "(I)V" } : Jvm.MethodName) prog_4_method_3_code (4 : Nat) (Option.none : Option Jvm.ClassFile.FieldType)) ∈ mWS := List.mem_filter.mpr ⟨List.mem_of_getElem? (i := 677) (by rfl), by rfl⟩
set_option maxRecDepth 100000 in
theorem tw_678 : (Jvm.Cond.methodLinkNest "PancakePort$Night" (69 : Nat) ({ cls := "PancakePort", name := "at", desc := "([II)I" } : Jvm.MethodName) "PancakePort") ∈ mNw := List.mem_filter.mpr ⟨List.mem_of_getElem? (i := 678) (by rfl), by rfl⟩
set_option maxRecDepth 100000 in
theorem tw_679 : (Jvm.Cond.methodLinkNest "PancakePort$Night" (73 : Nat) ({ cls := "PancakePort", name := "put", desc := "([III)V" } : Jvm.MethodName) "PancakePort") ∈ mNw := List.mem_filter.mpr ⟨List.mem_of_getElem? (i := 679) (by rfl), by rfl⟩
set_option maxRecDepth 100000 in
theorem tw_680 : (Jvm.Cond.methodLink "PancakePortLaw" (64 : Nat) ({ cls := "PancakePort", name := "move", desc := "(II)I" } : Jvm.MethodName)) ∈ mWS := List.mem_filter.mpr ⟨List.mem_of_getElem? (i := 680) (by rfl), by rfl⟩
set_option maxRecDepth 100000 in
theorem tw_681 : (Jvm.Cond.instanceMethod ({ cls := "PancakePort", name := "move", desc := "(II)I" } : Jvm.MethodName)) ∈ mWS := List.mem_filter.mpr ⟨List.mem_of_getElem? (i := 681) (by rfl), by rfl⟩
set_option maxRecDepth 100000 in
theorem tw_682 : (Jvm.Cond.selects "PancakePort" ({ cls := "PancakePort", name := "move", desc := "(II)I" } : Jvm.MethodName) ({ cls := "PancakePort", name := "move", desc := "(II)I" } : Jvm.MethodName)) ∈ mWS := List.mem_filter.mpr ⟨List.mem_of_getElem? (i := 682) (by rfl), by rfl⟩
set_option maxRecDepth 100000 in
theorem tw_683 : (Jvm.Cond.code ({ cls := "PancakePort", name := "move", desc := "(II)I" } : Jvm.MethodName) prog_1_method_14_code (4 : Nat) (Option.some Jvm.ClassFile.FieldType.int)) ∈ mWS := List.mem_filter.mpr ⟨List.mem_of_getElem? (i := 683) (by rfl), by rfl⟩
set_option maxRecDepth 100000 in
theorem tw_684 : (Jvm.Cond.methodLink "PancakePortLaw" (68 : Nat) ({ cls := "PancakePort", name := "train", desc := "(III)I" } : Jvm.MethodName)) ∈ mWS := List.mem_filter.mpr ⟨List.mem_of_getElem? (i := 684) (by rfl), by rfl⟩
set_option maxRecDepth 100000 in
theorem tw_685 : (Jvm.Cond.instanceMethod ({ cls := "PancakePort", name := "train", desc := "(III)I" } : Jvm.MethodName)) ∈ mWS := List.mem_filter.mpr ⟨List.mem_of_getElem? (i := 685) (by rfl), by rfl⟩
set_option maxRecDepth 100000 in
theorem tw_686 : (Jvm.Cond.selects "PancakePort" ({ cls := "PancakePort", name := "train", desc := "(III)I" } : Jvm.MethodName) ({ cls := "PancakePort", name := "train", desc := "(III)I" } : Jvm.MethodName)) ∈ mWS := List.mem_filter.mpr ⟨List.mem_of_getElem? (i := 686) (by rfl), by rfl⟩
set_option maxRecDepth 100000 in
theorem tw_687 : (Jvm.Cond.code ({ cls := "PancakePort", name := "train", desc := "(III)I" } : Jvm.MethodName) prog_1_method_15_code (5 : Nat) (Option.some Jvm.ClassFile.FieldType.int)) ∈ mWS := List.mem_filter.mpr ⟨List.mem_of_getElem? (i := 687) (by rfl), by rfl⟩
set_option maxRecDepth 100000 in
theorem tw_688 : (Jvm.Cond.methodLink "PancakePort" (185 : Nat) ({ cls := "PancakePort", name := "isTurn", desc := "(I)Z" } : Jvm.MethodName)) ∈ mWS := List.mem_filter.mpr ⟨List.mem_of_getElem? (i := 688) (by rfl), by rfl⟩
set_option maxRecDepth 100000 in
theorem tw_689 : (Jvm.Cond.methodLink "PancakePortLaw" (73 : Nat) ({ cls := "PancakePort", name := "stir", desc := "(I)I" } : Jvm.MethodName)) ∈ mWS := List.mem_filter.mpr ⟨List.mem_of_getElem? (i := 689) (by rfl), by rfl⟩
set_option maxRecDepth 100000 in
theorem tw_690 : (Jvm.Cond.instanceMethod ({ cls := "PancakePort", name := "stir", desc := "(I)I" } : Jvm.MethodName)) ∈ mWS := List.mem_filter.mpr ⟨List.mem_of_getElem? (i := 690) (by rfl), by rfl⟩
set_option maxRecDepth 100000 in
theorem tw_691 : (Jvm.Cond.selects "PancakePort" ({ cls := "PancakePort", name := "stir", desc := "(I)I" } : Jvm.MethodName) ({ cls := "PancakePort", name := "stir", desc := "(I)I" } : Jvm.MethodName)) ∈ mWS := List.mem_filter.mpr ⟨List.mem_of_getElem? (i := 691) (by rfl), by rfl⟩
set_option maxRecDepth 100000 in
theorem tw_692 : (Jvm.Cond.code ({ cls := "PancakePort", name := "stir", desc := "(I)I" } : Jvm.MethodName) prog_1_method_16_code (2 : Nat) (Option.some Jvm.ClassFile.FieldType.int)) ∈ mWS := List.mem_filter.mpr ⟨List.mem_of_getElem? (i := 692) (by rfl), by rfl⟩
set_option maxRecDepth 100000 in
theorem tw_693 : (Jvm.Cond.methodLink "PancakePortLaw" (77 : Nat) ({ cls := "PancakePort", name := "all", desc := "(I)I" } : Jvm.MethodName)) ∈ mWS := List.mem_filter.mpr ⟨List.mem_of_getElem? (i := 693) (by rfl), by rfl⟩
set_option maxRecDepth 100000 in
theorem tw_694 : (Jvm.Cond.instanceMethod ({ cls := "PancakePort", name := "all", desc := "(I)I" } : Jvm.MethodName)) ∈ mWS := List.mem_filter.mpr ⟨List.mem_of_getElem? (i := 694) (by rfl), by rfl⟩
set_option maxRecDepth 100000 in
theorem tw_695 : (Jvm.Cond.selects "PancakePort" ({ cls := "PancakePort", name := "all", desc := "(I)I" } : Jvm.MethodName) ({ cls := "PancakePort", name := "all", desc := "(I)I" } : Jvm.MethodName)) ∈ mWS := List.mem_filter.mpr ⟨List.mem_of_getElem? (i := 695) (by rfl), by rfl⟩
set_option maxRecDepth 100000 in
theorem tw_696 : (Jvm.Cond.code ({ cls := "PancakePort", name := "all", desc := "(I)I" } : Jvm.MethodName) prog_1_method_17_code (3 : Nat) (Option.some Jvm.ClassFile.FieldType.int)) ∈ mWS := List.mem_filter.mpr ⟨List.mem_of_getElem? (i := 696) (by rfl), by rfl⟩
set_option maxRecDepth 100000 in
theorem tw_697 : (Jvm.Cond.methodLink "PancakePort" (188 : Nat) ({ cls := "PancakePort", name := "everybody", desc := "()I" } : Jvm.MethodName)) ∈ mWS := List.mem_filter.mpr ⟨List.mem_of_getElem? (i := 697) (by rfl), by rfl⟩
set_option maxRecDepth 100000 in
theorem tw_699 : (Jvm.Cond.instanceMethod ({ cls := "PancakePort", name := "everybody", desc := "()I" } : Jvm.MethodName)) ∈ mWS := List.mem_filter.mpr ⟨List.mem_of_getElem? (i := 699) (by rfl), by rfl⟩
set_option maxRecDepth 100000 in
theorem tw_700 : (Jvm.Cond.code ({ cls := "PancakePort", name := "everybody", desc := "()I" } : Jvm.MethodName) prog_1_method_34_code (1 : Nat) (Option.some Jvm.ClassFile.FieldType.int)) ∈ mWS := List.mem_filter.mpr ⟨List.mem_of_getElem? (i := 700) (by rfl), by rfl⟩
set_option maxRecDepth 100000 in
theorem tw_701 : (Jvm.Cond.methodLink "PancakePort" (191 : Nat) ({ cls := "PancakePort", name := "planFor", desc := "(I)V" } : Jvm.MethodName)) ∈ mWS := List.mem_filter.mpr ⟨List.mem_of_getElem? (i := 701) (by rfl), by rfl⟩
set_option maxRecDepth 100000 in
theorem tw_703 : (Jvm.Cond.instanceMethod ({ cls := "PancakePort", name := "planFor", desc := "(I)V" } : Jvm.MethodName)) ∈ mWS := List.mem_filter.mpr ⟨List.mem_of_getElem? (i := 703) (by rfl), by rfl⟩
set_option maxRecDepth 100000 in
theorem tw_704 : (Jvm.Cond.code ({ cls := "PancakePort", name := "planFor", desc := "(I)V" } : Jvm.MethodName) prog_1_method_42_code (7 : Nat) (Option.none : Option Jvm.ClassFile.FieldType)) ∈ mWS := List.mem_filter.mpr ⟨List.mem_of_getElem? (i := 704) (by rfl), by rfl⟩
set_option maxRecDepth 100000 in
theorem tw_705 : (Jvm.Cond.methodLink "PancakePort" (283 : Nat) ({ cls := "PancakePort$Plan", name := "begin", desc := "()V" } : Jvm.MethodName)) ∈ mWS := List.mem_filter.mpr ⟨List.mem_of_getElem? (i := 705) (by rfl), by rfl⟩
set_option maxRecDepth 100000 in
theorem tw_706 : (Jvm.Cond.instanceMethod ({ cls := "PancakePort$Plan", name := "begin", desc := "()V" } : Jvm.MethodName)) ∈ mWS := List.mem_filter.mpr ⟨List.mem_of_getElem? (i := 706) (by rfl), by rfl⟩
set_option maxRecDepth 100000 in
theorem tw_707 : (Jvm.Cond.selects "PancakePort$Plan" ({ cls := "PancakePort$Plan", name := "begin", desc := "()V" } : Jvm.MethodName) ({ cls := "PancakePort$Plan", name := "begin", desc := "()V" } : Jvm.MethodName)) ∈ mWS := List.mem_filter.mpr ⟨List.mem_of_getElem? (i := 707) (by rfl), by rfl⟩
set_option maxRecDepth 100000 in
theorem tw_708 : (Jvm.Cond.code ({ cls := "PancakePort$Plan", name := "begin", desc := "()V" } : Jvm.MethodName) prog_6_method_2_code (2 : Nat) (Option.none : Option Jvm.ClassFile.FieldType)) ∈ mWS := List.mem_filter.mpr ⟨List.mem_of_getElem? (i := 708) (by rfl), by rfl⟩
set_option maxRecDepth 100000 in
theorem tw_709 : (Jvm.Cond.methodLinkNest "PancakePort$Plan" (27 : Nat) ({ cls := "PancakePort", name := "clear", desc := "([I)V" } : Jvm.MethodName) "PancakePort") ∈ mNw := List.mem_filter.mpr ⟨List.mem_of_getElem? (i := 709) (by rfl), by rfl⟩
set_option maxRecDepth 100000 in
theorem tw_710 : (Jvm.Cond.constant "PancakePort$Plan" (31 : Nat) (1048576 : Int32)) ∈ mWS := List.mem_filter.mpr ⟨List.mem_of_getElem? (i := 710) (by rfl), by rfl⟩
set_option maxRecDepth 100000 in
theorem tw_711 : (Jvm.Cond.methodLinkNest "PancakePort$Plan" (32 : Nat) ({ cls := "PancakePort", name := "put", desc := "([III)V" } : Jvm.MethodName) "PancakePort") ∈ mNw := List.mem_filter.mpr ⟨List.mem_of_getElem? (i := 711) (by rfl), by rfl⟩
set_option maxRecDepth 100000 in
theorem tw_712 : (Jvm.Cond.methodLink "PancakePort" (285 : Nat) ({ cls := "PancakePort$Plan", name := "offer", desc := "(III)V" } : Jvm.MethodName)) ∈ mWS := List.mem_filter.mpr ⟨List.mem_of_getElem? (i := 712) (by rfl), by rfl⟩
set_option maxRecDepth 100000 in
theorem tw_713 : (Jvm.Cond.instanceMethod ({ cls := "PancakePort$Plan", name := "offer", desc := "(III)V" } : Jvm.MethodName)) ∈ mWS := List.mem_filter.mpr ⟨List.mem_of_getElem? (i := 713) (by rfl), by rfl⟩
set_option maxRecDepth 100000 in
theorem tw_714 : (Jvm.Cond.selects "PancakePort$Plan" ({ cls := "PancakePort$Plan", name := "offer", desc := "(III)V" } : Jvm.MethodName) ({ cls := "PancakePort$Plan", name := "offer", desc := "(III)V" } : Jvm.MethodName)) ∈ mWS := List.mem_filter.mpr ⟨List.mem_of_getElem? (i := 714) (by rfl), by rfl⟩
set_option maxRecDepth 100000 in
theorem tw_715 : (Jvm.Cond.code ({ cls := "PancakePort$Plan", name := "offer", desc := "(III)V" } : Jvm.MethodName) prog_6_method_3_code (5 : Nat) (Option.none : Option Jvm.ClassFile.FieldType)) ∈ mWS := List.mem_filter.mpr ⟨List.mem_of_getElem? (i := 715) (by rfl), by rfl⟩
set_option maxRecDepth 100000 in
theorem tw_716 : (Jvm.Cond.methodLinkNest "PancakePort$Plan" (36 : Nat) ({ cls := "PancakePort", name := "at", desc := "([II)I" } : Jvm.MethodName) "PancakePort") ∈ mNw := List.mem_filter.mpr ⟨List.mem_of_getElem? (i := 716) (by rfl), by rfl⟩
set_option maxRecDepth 100000 in
theorem tw_717 : (Jvm.Cond.methodLink "PancakePort$Plan" (40 : Nat) ({ cls := "java/lang/Math", name := "min", desc := "(II)I" } : Jvm.MethodName)) ∈ mWS := List.mem_filter.mpr ⟨List.mem_of_getElem? (i := 717) (by rfl), by rfl⟩
set_option maxRecDepth 100000 in
theorem tw_718 : (Jvm.Cond.methodLink "PancakePort" (288 : Nat) ({ cls := "PancakePort$Plan", name := "solve", desc := "(I)V" } : Jvm.MethodName)) ∈ mWS := List.mem_filter.mpr ⟨List.mem_of_getElem? (i := 718) (by rfl), by rfl⟩
set_option maxRecDepth 100000 in
theorem tw_719 : (Jvm.Cond.instanceMethod ({ cls := "PancakePort$Plan", name := "solve", desc := "(I)V" } : Jvm.MethodName)) ∈ mWS := List.mem_filter.mpr ⟨List.mem_of_getElem? (i := 719) (by rfl), by rfl⟩
set_option maxRecDepth 100000 in
theorem tw_720 : (Jvm.Cond.selects "PancakePort$Plan" ({ cls := "PancakePort$Plan", name := "solve", desc := "(I)V" } : Jvm.MethodName) ({ cls := "PancakePort$Plan", name := "solve", desc := "(I)V" } : Jvm.MethodName)) ∈ mWS := List.mem_filter.mpr ⟨List.mem_of_getElem? (i := 720) (by rfl), by rfl⟩
set_option maxRecDepth 100000 in
theorem tw_721 : (Jvm.Cond.code ({ cls := "PancakePort$Plan", name := "solve", desc := "(I)V" } : Jvm.MethodName) prog_6_method_4_code (3 : Nat) (Option.none : Option Jvm.ClassFile.FieldType)) ∈ mWS := List.mem_filter.mpr ⟨List.mem_of_getElem? (i := 721) (by rfl), by rfl⟩
set_option maxRecDepth 100000 in
theorem tw_722 : (Jvm.Cond.methodLink "PancakePort$Plan" (46 : Nat) ({ cls := "PancakePort$Plan", name := "leastPrice", desc := "(I)I" } : Jvm.MethodName)) ∈ mWS := List.mem_filter.mpr ⟨List.mem_of_getElem? (i := 722) (by rfl), by rfl⟩
set_option maxRecDepth 100000 in
theorem tw_724 : (Jvm.Cond.instanceMethod ({ cls := "PancakePort$Plan", name := "leastPrice", desc := "(I)I" } : Jvm.MethodName)) ∈ mWS := List.mem_filter.mpr ⟨List.mem_of_getElem? (i := 724) (by rfl), by rfl⟩
set_option maxRecDepth 100000 in
theorem tw_725 : (Jvm.Cond.code ({ cls := "PancakePort$Plan", name := "leastPrice", desc := "(I)I" } : Jvm.MethodName) prog_6_method_5_code (4 : Nat) (Option.some Jvm.ClassFile.FieldType.int)) ∈ mWS := List.mem_filter.mpr ⟨List.mem_of_getElem? (i := 725) (by rfl), by rfl⟩
set_option maxRecDepth 100000 in
theorem tw_726 : (Jvm.Cond.methodLink "PancakePort" (291 : Nat) ({ cls := "PancakePort$Plan", name := "choose", desc := "(I)V" } : Jvm.MethodName)) ∈ mWS := List.mem_filter.mpr ⟨List.mem_of_getElem? (i := 726) (by rfl), by rfl⟩
set_option maxRecDepth 100000 in
theorem tw_727 : (Jvm.Cond.instanceMethod ({ cls := "PancakePort$Plan", name := "choose", desc := "(I)V" } : Jvm.MethodName)) ∈ mWS := List.mem_filter.mpr ⟨List.mem_of_getElem? (i := 727) (by rfl), by rfl⟩
set_option maxRecDepth 100000 in
theorem tw_728 : (Jvm.Cond.selects "PancakePort$Plan" ({ cls := "PancakePort$Plan", name := "choose", desc := "(I)V" } : Jvm.MethodName) ({ cls := "PancakePort$Plan", name := "choose", desc := "(I)V" } : Jvm.MethodName)) ∈ mWS := List.mem_filter.mpr ⟨List.mem_of_getElem? (i := 728) (by rfl), by rfl⟩
set_option maxRecDepth 100000 in
theorem tw_729 : (Jvm.Cond.code ({ cls := "PancakePort$Plan", name := "choose", desc := "(I)V" } : Jvm.MethodName) prog_6_method_6_code (5 : Nat) (Option.none : Option Jvm.ClassFile.FieldType)) ∈ mWS := List.mem_filter.mpr ⟨List.mem_of_getElem? (i := 729) (by rfl), by rfl⟩
set_option maxRecDepth 100000 in
theorem tw_730 : (Jvm.Cond.methodLink "PancakePort$Plan" (57 : Nat) ({ cls := "PancakePort$Plan", name := "firstFor", desc := "(I)I" } : Jvm.MethodName)) ∈ mWS := List.mem_filter.mpr ⟨List.mem_of_getElem? (i := 730) (by rfl), by rfl⟩
set_option maxRecDepth 100000 in
theorem tw_732 : (Jvm.Cond.instanceMethod ({ cls := "PancakePort$Plan", name := "firstFor", desc := "(I)I" } : Jvm.MethodName)) ∈ mWS := List.mem_filter.mpr ⟨List.mem_of_getElem? (i := 732) (by rfl), by rfl⟩
set_option maxRecDepth 100000 in
theorem tw_733 : (Jvm.Cond.code ({ cls := "PancakePort$Plan", name := "firstFor", desc := "(I)I" } : Jvm.MethodName) prog_6_method_7_code (4 : Nat) (Option.some Jvm.ClassFile.FieldType.int)) ∈ mWS := List.mem_filter.mpr ⟨List.mem_of_getElem? (i := 733) (by rfl), by rfl⟩
set_option maxRecDepth 100000 in
theorem tw_734 : (Jvm.Cond.methodLink "PancakePort" (194 : Nat) ({ cls := "PancakePort$Plan", name := "tell", desc := "(I)I" } : Jvm.MethodName)) ∈ mWS := List.mem_filter.mpr ⟨List.mem_of_getElem? (i := 734) (by rfl), by rfl⟩
set_option maxRecDepth 100000 in
theorem tw_735 : (Jvm.Cond.instanceMethod ({ cls := "PancakePort$Plan", name := "tell", desc := "(I)I" } : Jvm.MethodName)) ∈ mWS := List.mem_filter.mpr ⟨List.mem_of_getElem? (i := 735) (by rfl), by rfl⟩
set_option maxRecDepth 100000 in
theorem tw_736 : (Jvm.Cond.selects "PancakePort$Plan" ({ cls := "PancakePort$Plan", name := "tell", desc := "(I)I" } : Jvm.MethodName) ({ cls := "PancakePort$Plan", name := "tell", desc := "(I)I" } : Jvm.MethodName)) ∈ mWS := List.mem_filter.mpr ⟨List.mem_of_getElem? (i := 736) (by rfl), by rfl⟩
set_option maxRecDepth 100000 in
theorem tw_737 : (Jvm.Cond.code ({ cls := "PancakePort$Plan", name := "tell", desc := "(I)I" } : Jvm.MethodName) prog_6_method_8_code (3 : Nat) (Option.some Jvm.ClassFile.FieldType.int)) ∈ mWS := List.mem_filter.mpr ⟨List.mem_of_getElem? (i := 737) (by rfl), by rfl⟩
set_option maxRecDepth 100000 in
theorem tw_738 : (Jvm.Cond.methodLink "PancakePortLaw" (81 : Nat) ({ cls := "PancakePort", name := "nights", desc := "()I" } : Jvm.MethodName)) ∈ mWS := List.mem_filter.mpr ⟨List.mem_of_getElem? (i := 738) (by rfl), by rfl⟩
set_option maxRecDepth 100000 in
theorem tw_739 : (Jvm.Cond.instanceMethod ({ cls := "PancakePort", name := "nights", desc := "()I" } : Jvm.MethodName)) ∈ mWS := List.mem_filter.mpr ⟨List.mem_of_getElem? (i := 739) (by rfl), by rfl⟩
set_option maxRecDepth 100000 in
theorem tw_740 : (Jvm.Cond.selects "PancakePort" ({ cls := "PancakePort", name := "nights", desc := "()I" } : Jvm.MethodName) ({ cls := "PancakePort", name := "nights", desc := "()I" } : Jvm.MethodName)) ∈ mWS := List.mem_filter.mpr ⟨List.mem_of_getElem? (i := 740) (by rfl), by rfl⟩
set_option maxRecDepth 100000 in
theorem tw_741 : (Jvm.Cond.code ({ cls := "PancakePort", name := "nights", desc := "()I" } : Jvm.MethodName) prog_1_method_18_code (2 : Nat) (Option.some Jvm.ClassFile.FieldType.int)) ∈ mWS := List.mem_filter.mpr ⟨List.mem_of_getElem? (i := 741) (by rfl), by rfl⟩
set_option maxRecDepth 100000 in
theorem tw_742 : (Jvm.Cond.methodLink "PancakePortLaw" (85 : Nat) ({ cls := "PancakePort", name := "odds", desc := "(III)I" } : Jvm.MethodName)) ∈ mWS := List.mem_filter.mpr ⟨List.mem_of_getElem? (i := 742) (by rfl), by rfl⟩
set_option maxRecDepth 100000 in
theorem tw_743 : (Jvm.Cond.instanceMethod ({ cls := "PancakePort", name := "odds", desc := "(III)I" } : Jvm.MethodName)) ∈ mWS := List.mem_filter.mpr ⟨List.mem_of_getElem? (i := 743) (by rfl), by rfl⟩
set_option maxRecDepth 100000 in
theorem tw_744 : (Jvm.Cond.selects "PancakePort" ({ cls := "PancakePort", name := "odds", desc := "(III)I" } : Jvm.MethodName) ({ cls := "PancakePort", name := "odds", desc := "(III)I" } : Jvm.MethodName)) ∈ mWS := List.mem_filter.mpr ⟨List.mem_of_getElem? (i := 744) (by rfl), by rfl⟩
set_option maxRecDepth 100000 in
theorem tw_745 : (Jvm.Cond.code ({ cls := "PancakePort", name := "odds", desc := "(III)I" } : Jvm.MethodName) prog_1_method_19_code (6 : Nat) (Option.some Jvm.ClassFile.FieldType.int)) ∈ mWS := List.mem_filter.mpr ⟨List.mem_of_getElem? (i := 745) (by rfl), by rfl⟩
set_option maxRecDepth 100000 in
theorem tw_746 : (Jvm.Cond.methodLink "PancakePortLaw" (89 : Nat) ({ cls := "PancakePort", name := "who", desc := "(I)I" } : Jvm.MethodName)) ∈ mWS := List.mem_filter.mpr ⟨List.mem_of_getElem? (i := 746) (by rfl), by rfl⟩
set_option maxRecDepth 100000 in
theorem tw_747 : (Jvm.Cond.instanceMethod ({ cls := "PancakePort", name := "who", desc := "(I)I" } : Jvm.MethodName)) ∈ mWS := List.mem_filter.mpr ⟨List.mem_of_getElem? (i := 747) (by rfl), by rfl⟩
set_option maxRecDepth 100000 in
theorem tw_748 : (Jvm.Cond.selects "PancakePort" ({ cls := "PancakePort", name := "who", desc := "(I)I" } : Jvm.MethodName) ({ cls := "PancakePort", name := "who", desc := "(I)I" } : Jvm.MethodName)) ∈ mWS := List.mem_filter.mpr ⟨List.mem_of_getElem? (i := 748) (by rfl), by rfl⟩
set_option maxRecDepth 100000 in
theorem tw_749 : (Jvm.Cond.code ({ cls := "PancakePort", name := "who", desc := "(I)I" } : Jvm.MethodName) prog_1_method_20_code (4 : Nat) (Option.some Jvm.ClassFile.FieldType.int)) ∈ mWS := List.mem_filter.mpr ⟨List.mem_of_getElem? (i := 749) (by rfl), by rfl⟩
set_option maxRecDepth 100000 in
theorem tw_750 : (Jvm.Cond.methodLink "PancakePort" (200 : Nat) ({ cls := "PancakePort", name := "canLandAt", desc := "(II)Z" } : Jvm.MethodName)) ∈ mWS := List.mem_filter.mpr ⟨List.mem_of_getElem? (i := 750) (by rfl), by rfl⟩
set_option maxRecDepth 100000 in
theorem tw_752 : (Jvm.Cond.instanceMethod ({ cls := "PancakePort", name := "canLandAt", desc := "(II)Z" } : Jvm.MethodName)) ∈ mWS := List.mem_filter.mpr ⟨List.mem_of_getElem? (i := 752) (by rfl), by rfl⟩
set_option maxRecDepth 100000 in
theorem tw_753 : (Jvm.Cond.code ({ cls := "PancakePort", name := "canLandAt", desc := "(II)Z" } : Jvm.MethodName) prog_1_method_39_code (4 : Nat) (Option.some Jvm.ClassFile.FieldType.boolean)) ∈ mWS := List.mem_filter.mpr ⟨List.mem_of_getElem? (i := 753) (by rfl), by rfl⟩
set_option maxRecDepth 100000 in
theorem tw_754 : (Jvm.Cond.methodLink "PancakePortLaw" (93 : Nat) ({ cls := "PancakePort", name := "see", desc := "(III)I" } : Jvm.MethodName)) ∈ mWS := List.mem_filter.mpr ⟨List.mem_of_getElem? (i := 754) (by rfl), by rfl⟩
set_option maxRecDepth 100000 in
theorem tw_755 : (Jvm.Cond.instanceMethod ({ cls := "PancakePort", name := "see", desc := "(III)I" } : Jvm.MethodName)) ∈ mWS := List.mem_filter.mpr ⟨List.mem_of_getElem? (i := 755) (by rfl), by rfl⟩
set_option maxRecDepth 100000 in
theorem tw_756 : (Jvm.Cond.selects "PancakePort" ({ cls := "PancakePort", name := "see", desc := "(III)I" } : Jvm.MethodName) ({ cls := "PancakePort", name := "see", desc := "(III)I" } : Jvm.MethodName)) ∈ mWS := List.mem_filter.mpr ⟨List.mem_of_getElem? (i := 756) (by rfl), by rfl⟩
set_option maxRecDepth 100000 in
theorem tw_757 : (Jvm.Cond.code ({ cls := "PancakePort", name := "see", desc := "(III)I" } : Jvm.MethodName) prog_1_method_21_code (4 : Nat) (Option.some Jvm.ClassFile.FieldType.int)) ∈ mWS := List.mem_filter.mpr ⟨List.mem_of_getElem? (i := 757) (by rfl), by rfl⟩
set_option maxRecDepth 100000 in
theorem tw_758 : (Jvm.Cond.methodLink "PancakePort" (209 : Nat) ({ cls := "PancakePort$Seen", name := "add", desc := "(III)V" } : Jvm.MethodName)) ∈ mWS := List.mem_filter.mpr ⟨List.mem_of_getElem? (i := 758) (by rfl), by rfl⟩
set_option maxRecDepth 100000 in
theorem tw_759 : (Jvm.Cond.instanceMethod ({ cls := "PancakePort$Seen", name := "add", desc := "(III)V" } : Jvm.MethodName)) ∈ mWS := List.mem_filter.mpr ⟨List.mem_of_getElem? (i := 759) (by rfl), by rfl⟩
set_option maxRecDepth 100000 in
theorem tw_760 : (Jvm.Cond.selects "PancakePort$Seen" ({ cls := "PancakePort$Seen", name := "add", desc := "(III)V" } : Jvm.MethodName) ({ cls := "PancakePort$Seen", name := "add", desc := "(III)V" } : Jvm.MethodName)) ∈ mWS := List.mem_filter.mpr ⟨List.mem_of_getElem? (i := 760) (by rfl), by rfl⟩
set_option maxRecDepth 100000 in
theorem tw_761 : (Jvm.Cond.code ({ cls := "PancakePort$Seen", name := "add", desc := "(III)V" } : Jvm.MethodName) prog_8_method_2_code (4 : Nat) (Option.none : Option Jvm.ClassFile.FieldType)) ∈ mWS := List.mem_filter.mpr ⟨List.mem_of_getElem? (i := 761) (by rfl), by rfl⟩
set_option maxRecDepth 100000 in
theorem tw_762 : (Jvm.Cond.methodLinkNest "PancakePort$Seen" (25 : Nat) ({ cls := "PancakePort", name := "put", desc := "([III)V" } : Jvm.MethodName) "PancakePort") ∈ mNw := List.mem_filter.mpr ⟨List.mem_of_getElem? (i := 762) (by rfl), by rfl⟩
set_option maxRecDepth 100000 in
theorem tw_763 : (Jvm.Cond.methodLink "PancakePortLaw" (97 : Nat) ({ cls := "PancakePort", name := "forget", desc := "()I" } : Jvm.MethodName)) ∈ mWS := List.mem_filter.mpr ⟨List.mem_of_getElem? (i := 763) (by rfl), by rfl⟩
set_option maxRecDepth 100000 in
theorem tw_764 : (Jvm.Cond.instanceMethod ({ cls := "PancakePort", name := "forget", desc := "()I" } : Jvm.MethodName)) ∈ mWS := List.mem_filter.mpr ⟨List.mem_of_getElem? (i := 764) (by rfl), by rfl⟩
set_option maxRecDepth 100000 in
theorem tw_765 : (Jvm.Cond.selects "PancakePort" ({ cls := "PancakePort", name := "forget", desc := "()I" } : Jvm.MethodName) ({ cls := "PancakePort", name := "forget", desc := "()I" } : Jvm.MethodName)) ∈ mWS := List.mem_filter.mpr ⟨List.mem_of_getElem? (i := 765) (by rfl), by rfl⟩
set_option maxRecDepth 100000 in
theorem tw_766 : (Jvm.Cond.code ({ cls := "PancakePort", name := "forget", desc := "()I" } : Jvm.MethodName) prog_1_method_22_code (2 : Nat) (Option.some Jvm.ClassFile.FieldType.int)) ∈ mWS := List.mem_filter.mpr ⟨List.mem_of_getElem? (i := 766) (by rfl), by rfl⟩
set_option maxRecDepth 100000 in
theorem tw_767 : (Jvm.Cond.methodLink "PancakePortLaw" (101 : Nat) ({ cls := "PancakePort", name := "seasons", desc := "(III)I" } : Jvm.MethodName)) ∈ mWS := List.mem_filter.mpr ⟨List.mem_of_getElem? (i := 767) (by rfl), by rfl⟩
set_option maxRecDepth 100000 in
theorem tw_768 : (Jvm.Cond.instanceMethod ({ cls := "PancakePort", name := "seasons", desc := "(III)I" } : Jvm.MethodName)) ∈ mWS := List.mem_filter.mpr ⟨List.mem_of_getElem? (i := 768) (by rfl), by rfl⟩
set_option maxRecDepth 100000 in
theorem tw_769 : (Jvm.Cond.selects "PancakePort" ({ cls := "PancakePort", name := "seasons", desc := "(III)I" } : Jvm.MethodName) ({ cls := "PancakePort", name := "seasons", desc := "(III)I" } : Jvm.MethodName)) ∈ mWS := List.mem_filter.mpr ⟨List.mem_of_getElem? (i := 769) (by rfl), by rfl⟩
set_option maxRecDepth 100000 in
theorem tw_770 : (Jvm.Cond.code ({ cls := "PancakePort", name := "seasons", desc := "(III)I" } : Jvm.MethodName) prog_1_method_23_code (11 : Nat) (Option.some Jvm.ClassFile.FieldType.int)) ∈ mWS := List.mem_filter.mpr ⟨List.mem_of_getElem? (i := 770) (by rfl), by rfl⟩
set_option maxRecDepth 100000 in
theorem tw_771 : (Jvm.Cond.methodLink "PancakePort" (213 : Nat) ({ cls := "PancakePort", name := "nextSeed", desc := "(I)I" } : Jvm.MethodName)) ∈ mWS := List.mem_filter.mpr ⟨List.mem_of_getElem? (i := 771) (by rfl), by rfl⟩
set_option maxRecDepth 100000 in
theorem tw_772 : (Jvm.Cond.static ({ cls := "PancakePort", name := "nextSeed", desc := "(I)I" } : Jvm.MethodName)) ∈ mWS := List.mem_filter.mpr ⟨List.mem_of_getElem? (i := 772) (by rfl), by rfl⟩
set_option maxRecDepth 100000 in
theorem tw_773 : (Jvm.Cond.code ({ cls := "PancakePort", name := "nextSeed", desc := "(I)I" } : Jvm.MethodName) prog_1_method_52_code (1 : Nat) (Option.some Jvm.ClassFile.FieldType.int)) ∈ mWS := List.mem_filter.mpr ⟨List.mem_of_getElem? (i := 773) (by rfl), by rfl⟩
set_option maxRecDepth 100000 in
theorem tw_774 : (Jvm.Cond.constantLong "PancakePort" (316 : Nat) (1103515245 : Int64)) ∈ mWS := List.mem_filter.mpr ⟨List.mem_of_getElem? (i := 774) (by rfl), by rfl⟩
set_option maxRecDepth 100000 in
theorem tw_775 : (Jvm.Cond.constantLong "PancakePort" (318 : Nat) (12345 : Int64)) ∈ mWS := List.mem_filter.mpr ⟨List.mem_of_getElem? (i := 775) (by rfl), by rfl⟩
set_option maxRecDepth 100000 in
theorem tw_776 : (Jvm.Cond.constantLong "PancakePort" (320 : Nat) (2147483648 : Int64)) ∈ mWS := List.mem_filter.mpr ⟨List.mem_of_getElem? (i := 776) (by rfl), by rfl⟩
set_option maxRecDepth 100000 in
theorem tw_777 : (Jvm.Cond.methodLink "PancakePort" (216 : Nat) ({ cls := "PancakePort", name := "draw", desc := "(II)I" } : Jvm.MethodName)) ∈ mWS := List.mem_filter.mpr ⟨List.mem_of_getElem? (i := 777) (by rfl), by rfl⟩
set_option maxRecDepth 100000 in
theorem tw_778 : (Jvm.Cond.static ({ cls := "PancakePort", name := "draw", desc := "(II)I" } : Jvm.MethodName)) ∈ mWS := List.mem_filter.mpr ⟨List.mem_of_getElem? (i := 778) (by rfl), by rfl⟩
set_option maxRecDepth 100000 in
theorem tw_779 : (Jvm.Cond.code ({ cls := "PancakePort", name := "draw", desc := "(II)I" } : Jvm.MethodName) prog_1_method_53_code (2 : Nat) (Option.some Jvm.ClassFile.FieldType.int)) ∈ mWS := List.mem_filter.mpr ⟨List.mem_of_getElem? (i := 779) (by rfl), by rfl⟩
set_option maxRecDepth 100000 in
theorem tw_780 : (Jvm.Cond.constant "PancakePort" (322 : Nat) (65536 : Int32)) ∈ mWS := List.mem_filter.mpr ⟨List.mem_of_getElem? (i := 780) (by rfl), by rfl⟩
set_option maxRecDepth 100000 in
theorem tw_781 : (Jvm.Cond.methodLink "PancakePortLaw" (105 : Nat) ({ cls := "PancakePort", name := "image", desc := "()I" } : Jvm.MethodName)) ∈ mWS := List.mem_filter.mpr ⟨List.mem_of_getElem? (i := 781) (by rfl), by rfl⟩
set_option maxRecDepth 100000 in
theorem tw_782 : (Jvm.Cond.instanceMethod ({ cls := "PancakePort", name := "image", desc := "()I" } : Jvm.MethodName)) ∈ mWS := List.mem_filter.mpr ⟨List.mem_of_getElem? (i := 782) (by rfl), by rfl⟩
set_option maxRecDepth 100000 in
theorem tw_783 : (Jvm.Cond.selects "PancakePort" ({ cls := "PancakePort", name := "image", desc := "()I" } : Jvm.MethodName) ({ cls := "PancakePort", name := "image", desc := "()I" } : Jvm.MethodName)) ∈ mWS := List.mem_filter.mpr ⟨List.mem_of_getElem? (i := 783) (by rfl), by rfl⟩
set_option maxRecDepth 100000 in
theorem tw_784 : (Jvm.Cond.code ({ cls := "PancakePort", name := "image", desc := "()I" } : Jvm.MethodName) prog_1_method_24_code (1 : Nat) (Option.some Jvm.ClassFile.FieldType.int)) ∈ mWS := List.mem_filter.mpr ⟨List.mem_of_getElem? (i := 784) (by rfl), by rfl⟩
set_option maxRecDepth 100000 in
theorem tw_785 : (Jvm.Cond.methodLink "PancakePort" (219 : Nat) ({ cls := "PancakePort$Night", name := "takeFrom", desc := "(LPancakePort$Night;)V" } : Jvm.MethodName)) ∈ mWS := List.mem_filter.mpr ⟨List.mem_of_getElem? (i := 785) (by rfl), by rfl⟩
set_option maxRecDepth 100000 in
theorem tw_786 : (Jvm.Cond.instanceMethod ({ cls := "PancakePort$Night", name := "takeFrom", desc := "(LPancakePort$Night;)V" } : Jvm.MethodName)) ∈ mWS := List.mem_filter.mpr ⟨List.mem_of_getElem? (i := 786) (by rfl), by rfl⟩
set_option maxRecDepth 100000 in
theorem tw_787 : (Jvm.Cond.selects "PancakePort$Night" ({ cls := "PancakePort$Night", name := "takeFrom", desc := "(LPancakePort$Night;)V" } : Jvm.MethodName) ({ cls := "PancakePort$Night", name := "takeFrom", desc := "(LPancakePort$Night;)V" } : Jvm.MethodName)) ∈ mWS := List.mem_filter.mpr ⟨List.mem_of_getElem? (i := 787) (by rfl), by rfl⟩
set_option maxRecDepth 100000 in
theorem tw_788 : (Jvm.Cond.code ({ cls := "PancakePort$Night", name := "takeFrom", desc := "(LPancakePort$Night;)V" } : Jvm.MethodName) prog_4_method_4_code (2 : Nat) (Option.none : Option Jvm.ClassFile.FieldType)) ∈ mWS := List.mem_filter.mpr ⟨List.mem_of_getElem? (i := 788) (by rfl), by rfl⟩
set_option maxRecDepth 100000 in
theorem tw_789 : (Jvm.Cond.methodLink "PancakePort$Night" (77 : Nat) ({ cls := "PancakePort$Seen", name := "takeFrom", desc := "(LPancakePort$Seen;)V" } : Jvm.MethodName)) ∈ mWS := List.mem_filter.mpr ⟨List.mem_of_getElem? (i := 789) (by rfl), by rfl⟩
set_option maxRecDepth 100000 in
theorem tw_790 : (Jvm.Cond.instanceMethod ({ cls := "PancakePort$Seen", name := "takeFrom", desc := "(LPancakePort$Seen;)V" } : Jvm.MethodName)) ∈ mWS := List.mem_filter.mpr ⟨List.mem_of_getElem? (i := 790) (by rfl), by rfl⟩
set_option maxRecDepth 100000 in
theorem tw_791 : (Jvm.Cond.selects "PancakePort$Seen" ({ cls := "PancakePort$Seen", name := "takeFrom", desc := "(LPancakePort$Seen;)V" } : Jvm.MethodName) ({ cls := "PancakePort$Seen", name := "takeFrom", desc := "(LPancakePort$Seen;)V" } : Jvm.MethodName)) ∈ mWS := List.mem_filter.mpr ⟨List.mem_of_getElem? (i := 791) (by rfl), by rfl⟩
set_option maxRecDepth 100000 in
theorem tw_792 : (Jvm.Cond.code ({ cls := "PancakePort$Seen", name := "takeFrom", desc := "(LPancakePort$Seen;)V" } : Jvm.MethodName) prog_8_method_5_code (2 : Nat) (Option.none : Option Jvm.ClassFile.FieldType)) ∈ mWS := List.mem_filter.mpr ⟨List.mem_of_getElem? (i := 792) (by rfl), by rfl⟩
set_option maxRecDepth 100000 in
theorem tw_793 : (Jvm.Cond.methodLinkNest "PancakePort$Seen" (41 : Nat) ({ cls := "PancakePort", name := "copy", desc := "([I[I)V" } : Jvm.MethodName) "PancakePort") ∈ mNw := List.mem_filter.mpr ⟨List.mem_of_getElem? (i := 793) (by rfl), by rfl⟩
set_option maxRecDepth 100000 in
theorem tw_794 : (Jvm.Cond.methodLink "PancakePortLaw" (109 : Nat) ({ cls := "PancakePort", name := "restore", desc := "()I" } : Jvm.MethodName)) ∈ mWS := List.mem_filter.mpr ⟨List.mem_of_getElem? (i := 794) (by rfl), by rfl⟩
set_option maxRecDepth 100000 in
theorem tw_795 : (Jvm.Cond.instanceMethod ({ cls := "PancakePort", name := "restore", desc := "()I" } : Jvm.MethodName)) ∈ mWS := List.mem_filter.mpr ⟨List.mem_of_getElem? (i := 795) (by rfl), by rfl⟩
set_option maxRecDepth 100000 in
theorem tw_796 : (Jvm.Cond.selects "PancakePort" ({ cls := "PancakePort", name := "restore", desc := "()I" } : Jvm.MethodName) ({ cls := "PancakePort", name := "restore", desc := "()I" } : Jvm.MethodName)) ∈ mWS := List.mem_filter.mpr ⟨List.mem_of_getElem? (i := 796) (by rfl), by rfl⟩
set_option maxRecDepth 100000 in
theorem tw_797 : (Jvm.Cond.code ({ cls := "PancakePort", name := "restore", desc := "()I" } : Jvm.MethodName) prog_1_method_25_code (1 : Nat) (Option.some Jvm.ClassFile.FieldType.int)) ∈ mWS := List.mem_filter.mpr ⟨List.mem_of_getElem? (i := 797) (by rfl), by rfl⟩
set_option maxRecDepth 100000 in
theorem tw_798 : (Jvm.Cond.methodLink "PancakePortLaw" (113 : Nat) ({ cls := "PancakePort", name := "count", desc := "(I)I" } : Jvm.MethodName)) ∈ mWS := List.mem_filter.mpr ⟨List.mem_of_getElem? (i := 798) (by rfl), by rfl⟩
set_option maxRecDepth 100000 in
theorem tw_799 : (Jvm.Cond.instanceMethod ({ cls := "PancakePort", name := "count", desc := "(I)I" } : Jvm.MethodName)) ∈ mWS := List.mem_filter.mpr ⟨List.mem_of_getElem? (i := 799) (by rfl), by rfl⟩
set_option maxRecDepth 100000 in
theorem tw_800 : (Jvm.Cond.selects "PancakePort" ({ cls := "PancakePort", name := "count", desc := "(I)I" } : Jvm.MethodName) ({ cls := "PancakePort", name := "count", desc := "(I)I" } : Jvm.MethodName)) ∈ mWS := List.mem_filter.mpr ⟨List.mem_of_getElem? (i := 800) (by rfl), by rfl⟩
set_option maxRecDepth 100000 in
theorem tw_801 : (Jvm.Cond.code ({ cls := "PancakePort", name := "count", desc := "(I)I" } : Jvm.MethodName) prog_1_method_26_code (2 : Nat) (Option.some Jvm.ClassFile.FieldType.int)) ∈ mWS := List.mem_filter.mpr ⟨List.mem_of_getElem? (i := 801) (by rfl), by rfl⟩
set_option maxRecDepth 100000 in
theorem tw_802 : (Jvm.Cond.methodLink "PancakePort" (227 : Nat) ({ cls := "PancakePort", name := "sum", desc := "([I)I" } : Jvm.MethodName)) ∈ mWS := List.mem_filter.mpr ⟨List.mem_of_getElem? (i := 802) (by rfl), by rfl⟩
set_option maxRecDepth 100000 in
theorem tw_803 : (Jvm.Cond.static ({ cls := "PancakePort", name := "sum", desc := "([I)I" } : Jvm.MethodName)) ∈ mWS := List.mem_filter.mpr ⟨List.mem_of_getElem? (i := 803) (by rfl), by rfl⟩
set_option maxRecDepth 100000 in
theorem tw_804 : (Jvm.Cond.code ({ cls := "PancakePort", name := "sum", desc := "([I)I" } : Jvm.MethodName) prog_1_method_58_code (3 : Nat) (Option.some Jvm.ClassFile.FieldType.int)) ∈ mWS := List.mem_filter.mpr ⟨List.mem_of_getElem? (i := 804) (by rfl), by rfl⟩
set_option maxRecDepth 100000 in
theorem tw_805 : (Jvm.Cond.methodLink "PancakePortLaw" (117 : Nat) ({ cls := "PancakePort", name := "digest", desc := "()J" } : Jvm.MethodName)) ∈ mWS := List.mem_filter.mpr ⟨List.mem_of_getElem? (i := 805) (by rfl), by rfl⟩
set_option maxRecDepth 100000 in
theorem tw_806 : (Jvm.Cond.instanceMethod ({ cls := "PancakePort", name := "digest", desc := "()J" } : Jvm.MethodName)) ∈ mWS := List.mem_filter.mpr ⟨List.mem_of_getElem? (i := 806) (by rfl), by rfl⟩
set_option maxRecDepth 100000 in
theorem tw_807 : (Jvm.Cond.selects "PancakePort" ({ cls := "PancakePort", name := "digest", desc := "()J" } : Jvm.MethodName) ({ cls := "PancakePort", name := "digest", desc := "()J" } : Jvm.MethodName)) ∈ mWS := List.mem_filter.mpr ⟨List.mem_of_getElem? (i := 807) (by rfl), by rfl⟩
set_option maxRecDepth 100000 in
theorem tw_808 : (Jvm.Cond.code ({ cls := "PancakePort", name := "digest", desc := "()J" } : Jvm.MethodName) prog_1_method_27_code (5 : Nat) (Option.some Jvm.ClassFile.FieldType.long)) ∈ mWS := List.mem_filter.mpr ⟨List.mem_of_getElem? (i := 808) (by rfl), by rfl⟩
set_option maxRecDepth 100000 in
theorem tw_809 : (Jvm.Cond.constantLong "PancakePort" (231 : Nat) (1217 : Int64)) ∈ mWS := List.mem_filter.mpr ⟨List.mem_of_getElem? (i := 809) (by rfl), by rfl⟩
set_option maxRecDepth 100000 in
theorem tw_810 : (Jvm.Cond.constantLong "PancakePort" (233 : Nat) (31 : Int64)) ∈ mWS := List.mem_filter.mpr ⟨List.mem_of_getElem? (i := 810) (by rfl), by rfl⟩
set_option maxRecDepth 100000 in
theorem tw_811 : (Jvm.Cond.methodLink "PancakePort" (235 : Nat) ({ cls := "PancakePort", name := "sleeper", desc := "(II)I" } : Jvm.MethodName)) ∈ mWS := List.mem_filter.mpr ⟨List.mem_of_getElem? (i := 811) (by rfl), by rfl⟩
set_option maxRecDepth 100000 in
theorem tw_812 : (Jvm.Cond.methodLink "PancakePort" (238 : Nat) ({ cls := "PancakePort", name := "tosser", desc := "(II)I" } : Jvm.MethodName)) ∈ mWS := List.mem_filter.mpr ⟨List.mem_of_getElem? (i := 812) (by rfl), by rfl⟩
set_option maxRecDepth 100000 in
theorem tw_813 : (Jvm.Cond.methodLink "PancakePort" (241 : Nat) ({ cls := "PancakePort", name := "lands", desc := "(II)I" } : Jvm.MethodName)) ∈ mWS := List.mem_filter.mpr ⟨List.mem_of_getElem? (i := 813) (by rfl), by rfl⟩
set_option maxRecDepth 100000 in
theorem tw_814 : (Jvm.Cond.methodLink "PancakePort" (244 : Nat) ({ cls := "PancakePort", name := "covers", desc := "(II)I" } : Jvm.MethodName)) ∈ mWS := List.mem_filter.mpr ⟨List.mem_of_getElem? (i := 814) (by rfl), by rfl⟩
set_option maxRecDepth 100000 in
theorem tw_815 : (Jvm.Cond.methodLink "PancakePort" (247 : Nat) ({ cls := "PancakePort", name := "digestOfPlans", desc := "(J)J" } : Jvm.MethodName)) ∈ mWS := List.mem_filter.mpr ⟨List.mem_of_getElem? (i := 815) (by rfl), by rfl⟩
set_option maxRecDepth 100000 in
theorem tw_817 : (Jvm.Cond.instanceMethod ({ cls := "PancakePort", name := "digestOfPlans", desc := "(J)J" } : Jvm.MethodName)) ∈ mWS := List.mem_filter.mpr ⟨List.mem_of_getElem? (i := 817) (by rfl), by rfl⟩
set_option maxRecDepth 100000 in
theorem tw_818 : (Jvm.Cond.code ({ cls := "PancakePort", name := "digestOfPlans", desc := "(J)J" } : Jvm.MethodName) prog_1_method_28_code (6 : Nat) (Option.some Jvm.ClassFile.FieldType.long)) ∈ mWS := List.mem_filter.mpr ⟨List.mem_of_getElem? (i := 818) (by rfl), by rfl⟩
set_option maxRecDepth 100000 in
theorem tw_819 : (Jvm.Cond.methodLink "PancakePort" (256 : Nat) ({ cls := "PancakePort", name := "nights", desc := "()I" } : Jvm.MethodName)) ∈ mWS := List.mem_filter.mpr ⟨List.mem_of_getElem? (i := 819) (by rfl), by rfl⟩
set_option maxRecDepth 100000 in
theorem tw_820 : (Jvm.Cond.methodLink "PancakePort" (259 : Nat) ({ cls := "PancakePort", name := "who", desc := "(I)I" } : Jvm.MethodName)) ∈ mWS := List.mem_filter.mpr ⟨List.mem_of_getElem? (i := 820) (by rfl), by rfl⟩
set_option maxRecDepth 100000 in
theorem tw_821 : (Jvm.Cond.methodLink "PancakePort" (254 : Nat) ({ cls := "PancakePort", name := "count", desc := "(I)I" } : Jvm.MethodName)) ∈ mWS := List.mem_filter.mpr ⟨List.mem_of_getElem? (i := 821) (by rfl), by rfl⟩
set_option maxRecDepth 100000 in
theorem tw_822 : (Jvm.Cond.classLink "PancakePortLaw" (10 : Nat) "PancakePortModel") ∈ mWS := List.mem_filter.mpr ⟨List.mem_of_getElem? (i := 822) (by rfl), by rfl⟩
set_option maxRecDepth 100000 in
theorem tw_823 : (Jvm.Cond.instantiable "PancakePortModel" (40 : Nat)) ∈ mWS := List.mem_filter.mpr ⟨List.mem_of_getElem? (i := 823) (by rfl), by rfl⟩
set_option maxRecDepth 100000 in
theorem tw_824 : (Jvm.Cond.methodLink "PancakePortLaw" (12 : Nat) ({ cls := "PancakePortModel", name := "<init>", desc := "()V" } : Jvm.MethodName)) ∈ mWS := List.mem_filter.mpr ⟨List.mem_of_getElem? (i := 824) (by rfl), by rfl⟩
set_option maxRecDepth 100000 in
theorem tw_825 : (Jvm.Cond.instanceMethod ({ cls := "PancakePortModel", name := "<init>", desc := "()V" } : Jvm.MethodName)) ∈ mWS := List.mem_filter.mpr ⟨List.mem_of_getElem? (i := 825) (by rfl), by rfl⟩
set_option maxRecDepth 100000 in
theorem tw_826 : (Jvm.Cond.code ({ cls := "PancakePortModel", name := "<init>", desc := "()V" } : Jvm.MethodName) prog_13_method_1_code (1 : Nat) (Option.none : Option Jvm.ClassFile.FieldType)) ∈ mWS := List.mem_filter.mpr ⟨List.mem_of_getElem? (i := 826) (by rfl), by rfl⟩
set_option maxRecDepth 100000 in
theorem tw_827 : (Jvm.Cond.methodLink "PancakePortModel" (1 : Nat) ({ cls := "java/lang/Object", name := "<init>", desc := "()V" } : Jvm.MethodName)) ∈ mWS := List.mem_filter.mpr ⟨List.mem_of_getElem? (i := 827) (by rfl), by rfl⟩
set_option maxRecDepth 100000 in
theorem tw_828 : (Jvm.Cond.fieldLink "PancakePortModel" (7 : Nat) "PancakePortModel" "page" "[I") ∈ mWS := List.mem_filter.mpr ⟨List.mem_of_getElem? (i := 828) (by rfl), by rfl⟩
set_option maxRecDepth 100000 in
theorem tw_829 : (Jvm.Cond.fieldLink "PancakePortModel" (83 : Nat) "PancakePortModel" "pageMany" "I") ∈ mWS := List.mem_filter.mpr ⟨List.mem_of_getElem? (i := 829) (by rfl), by rfl⟩
set_option maxRecDepth 100000 in
theorem tw_830 : (Jvm.Cond.fieldLink "PancakePortModel" (98 : Nat) "PancakePortModel" "end" "I") ∈ mWS := List.mem_filter.mpr ⟨List.mem_of_getElem? (i := 830) (by rfl), by rfl⟩
set_option maxRecDepth 100000 in
theorem tw_831 : (Jvm.Cond.fieldLink "PancakePortModel" (116 : Nat) "PancakePortModel" "sleepers" "I") ∈ mWS := List.mem_filter.mpr ⟨List.mem_of_getElem? (i := 831) (by rfl), by rfl⟩
set_option maxRecDepth 100000 in
theorem tw_832 : (Jvm.Cond.fieldLink "PancakePortModel" (119 : Nat) "PancakePortModel" "tossers" "I") ∈ mWS := List.mem_filter.mpr ⟨List.mem_of_getElem? (i := 832) (by rfl), by rfl⟩
set_option maxRecDepth 100000 in
theorem tw_833 : (Jvm.Cond.fieldLink "PancakePortModel" (122 : Nat) "PancakePortModel" "wind" "I") ∈ mWS := List.mem_filter.mpr ⟨List.mem_of_getElem? (i := 833) (by rfl), by rfl⟩
set_option maxRecDepth 100000 in
theorem tw_834 : (Jvm.Cond.fieldLink "PancakePortModel" (125 : Nat) "PancakePortModel" "batter" "I") ∈ mWS := List.mem_filter.mpr ⟨List.mem_of_getElem? (i := 834) (by rfl), by rfl⟩
set_option maxRecDepth 100000 in
theorem tw_835 : (Jvm.Cond.fieldLink "PancakePortModel" (128 : Nat) "PancakePortModel" "mornings" "I") ∈ mWS := List.mem_filter.mpr ⟨List.mem_of_getElem? (i := 835) (by rfl), by rfl⟩
set_option maxRecDepth 100000 in
theorem tw_836 : (Jvm.Cond.fieldLink "PancakePortModel" (131 : Nat) "PancakePortModel" "thrown" "I") ∈ mWS := List.mem_filter.mpr ⟨List.mem_of_getElem? (i := 836) (by rfl), by rfl⟩
set_option maxRecDepth 100000 in
theorem tw_837 : (Jvm.Cond.fieldLink "PancakePortModel" (137 : Nat) "PancakePortModel" "portsRead" "I") ∈ mWS := List.mem_filter.mpr ⟨List.mem_of_getElem? (i := 837) (by rfl), by rfl⟩
set_option maxRecDepth 100000 in
theorem tw_838 : (Jvm.Cond.fieldLink "PancakePortModel" (13 : Nat) "PancakePortModel" "cells" "[I") ∈ mWS := List.mem_filter.mpr ⟨List.mem_of_getElem? (i := 838) (by rfl), by rfl⟩
set_option maxRecDepth 100000 in
theorem tw_839 : (Jvm.Cond.fieldLink "PancakePortModel" (16 : Nat) "PancakePortModel" "isCovered" "[I") ∈ mWS := List.mem_filter.mpr ⟨List.mem_of_getElem? (i := 839) (by rfl), by rfl⟩
set_option maxRecDepth 100000 in
theorem tw_840 : (Jvm.Cond.fieldLink "PancakePortModel" (19 : Nat) "PancakePortModel" "breakfasts" "[I") ∈ mWS := List.mem_filter.mpr ⟨List.mem_of_getElem? (i := 840) (by rfl), by rfl⟩
set_option maxRecDepth 100000 in
theorem tw_841 : (Jvm.Cond.fieldLink "PancakePortModel" (22 : Nat) "PancakePortModel" "colds" "[I") ∈ mWS := List.mem_filter.mpr ⟨List.mem_of_getElem? (i := 841) (by rfl), by rfl⟩
set_option maxRecDepth 100000 in
theorem tw_842 : (Jvm.Cond.fieldLink "PancakePortModel" (25 : Nat) "PancakePortModel" "kinds" "[I") ∈ mWS := List.mem_filter.mpr ⟨List.mem_of_getElem? (i := 842) (by rfl), by rfl⟩
set_option maxRecDepth 100000 in
theorem tw_843 : (Jvm.Cond.fieldLink "PancakePortModel" (28 : Nat) "PancakePortModel" "south" "[I") ∈ mWS := List.mem_filter.mpr ⟨List.mem_of_getElem? (i := 843) (by rfl), by rfl⟩
set_option maxRecDepth 100000 in
theorem tw_844 : (Jvm.Cond.fieldLink "PancakePortModel" (31 : Nat) "PancakePortModel" "east" "[I") ∈ mWS := List.mem_filter.mpr ⟨List.mem_of_getElem? (i := 844) (by rfl), by rfl⟩
set_option maxRecDepth 100000 in
theorem tw_845 : (Jvm.Cond.fieldLink "PancakePortModel" (34 : Nat) "PancakePortModel" "threw" "[I") ∈ mWS := List.mem_filter.mpr ⟨List.mem_of_getElem? (i := 845) (by rfl), by rfl⟩
set_option maxRecDepth 100000 in
theorem tw_846 : (Jvm.Cond.fieldLink "PancakePortModel" (37 : Nat) "PancakePortModel" "covering" "[I") ∈ mWS := List.mem_filter.mpr ⟨List.mem_of_getElem? (i := 846) (by rfl), by rfl⟩
set_option maxRecDepth 100000 in
theorem tw_847 : (Jvm.Cond.fieldLink "PancakePortModel" (40 : Nat) "PancakePortModel" "least" "[I") ∈ mWS := List.mem_filter.mpr ⟨List.mem_of_getElem? (i := 847) (by rfl), by rfl⟩
set_option maxRecDepth 100000 in
theorem tw_848 : (Jvm.Cond.fieldLink "PancakePortModel" (43 : Nat) "PancakePortModel" "taken" "[I") ∈ mWS := List.mem_filter.mpr ⟨List.mem_of_getElem? (i := 848) (by rfl), by rfl⟩
set_option maxRecDepth 100000 in
theorem tw_849 : (Jvm.Cond.fieldLink "PancakePortModel" (223 : Nat) "PancakePortModel" "takenMany" "I") ∈ mWS := List.mem_filter.mpr ⟨List.mem_of_getElem? (i := 849) (by rfl), by rfl⟩
set_option maxRecDepth 100000 in
theorem tw_850 : (Jvm.Cond.fieldLink "PancakePortModel" (134 : Nat) "PancakePortModel" "seenMany" "I") ∈ mWS := List.mem_filter.mpr ⟨List.mem_of_getElem? (i := 850) (by rfl), by rfl⟩
set_option maxRecDepth 100000 in
theorem tw_851 : (Jvm.Cond.fieldLink "PancakePortModel" (46 : Nat) "PancakePortModel" "sights" "[I") ∈ mWS := List.mem_filter.mpr ⟨List.mem_of_getElem? (i := 851) (by rfl), by rfl⟩
set_option maxRecDepth 100000 in
theorem tw_852 : (Jvm.Cond.fieldLink "PancakePortModel" (251 : Nat) "PancakePortModel" "seedNow" "I") ∈ mWS := List.mem_filter.mpr ⟨List.mem_of_getElem? (i := 852) (by rfl), by rfl⟩
set_option maxRecDepth 100000 in
theorem tw_853 : (Jvm.Cond.fieldLink "PancakePortModel" (73 : Nat) "PancakePortModel" "keptPort" "I") ∈ mWS := List.mem_filter.mpr ⟨List.mem_of_getElem? (i := 853) (by rfl), by rfl⟩
set_option maxRecDepth 100000 in
theorem tw_854 : (Jvm.Cond.fieldLink "PancakePortModel" (268 : Nat) "PancakePortModel" "keptWind" "I") ∈ mWS := List.mem_filter.mpr ⟨List.mem_of_getElem? (i := 854) (by rfl), by rfl⟩
set_option maxRecDepth 100000 in
theorem tw_855 : (Jvm.Cond.fieldLink "PancakePortModel" (271 : Nat) "PancakePortModel" "keptBatter" "I") ∈ mWS := List.mem_filter.mpr ⟨List.mem_of_getElem? (i := 855) (by rfl), by rfl⟩
set_option maxRecDepth 100000 in
theorem tw_856 : (Jvm.Cond.fieldLink "PancakePortModel" (274 : Nat) "PancakePortModel" "keptMornings" "I") ∈ mWS := List.mem_filter.mpr ⟨List.mem_of_getElem? (i := 856) (by rfl), by rfl⟩
set_option maxRecDepth 100000 in
theorem tw_857 : (Jvm.Cond.fieldLink "PancakePortModel" (277 : Nat) "PancakePortModel" "keptThrown" "I") ∈ mWS := List.mem_filter.mpr ⟨List.mem_of_getElem? (i := 857) (by rfl), by rfl⟩
set_option maxRecDepth 100000 in
theorem tw_858 : (Jvm.Cond.fieldLink "PancakePortModel" (280 : Nat) "PancakePortModel" "keptSeen" "I") ∈ mWS := List.mem_filter.mpr ⟨List.mem_of_getElem? (i := 858) (by rfl), by rfl⟩
set_option maxRecDepth 100000 in
theorem tw_859 : (Jvm.Cond.fieldLink "PancakePortModel" (49 : Nat) "PancakePortModel" "keptCells" "[I") ∈ mWS := List.mem_filter.mpr ⟨List.mem_of_getElem? (i := 859) (by rfl), by rfl⟩
set_option maxRecDepth 100000 in
theorem tw_860 : (Jvm.Cond.fieldLink "PancakePortModel" (52 : Nat) "PancakePortModel" "keptCovered" "[I") ∈ mWS := List.mem_filter.mpr ⟨List.mem_of_getElem? (i := 860) (by rfl), by rfl⟩
set_option maxRecDepth 100000 in
theorem tw_861 : (Jvm.Cond.fieldLink "PancakePortModel" (55 : Nat) "PancakePortModel" "keptBreakfasts" "[I") ∈ mWS := List.mem_filter.mpr ⟨List.mem_of_getElem? (i := 861) (by rfl), by rfl⟩
set_option maxRecDepth 100000 in
theorem tw_862 : (Jvm.Cond.fieldLink "PancakePortModel" (58 : Nat) "PancakePortModel" "keptColds" "[I") ∈ mWS := List.mem_filter.mpr ⟨List.mem_of_getElem? (i := 862) (by rfl), by rfl⟩
set_option maxRecDepth 100000 in
theorem tw_863 : (Jvm.Cond.fieldLink "PancakePortModel" (61 : Nat) "PancakePortModel" "keptSouth" "[I") ∈ mWS := List.mem_filter.mpr ⟨List.mem_of_getElem? (i := 863) (by rfl), by rfl⟩
set_option maxRecDepth 100000 in
theorem tw_864 : (Jvm.Cond.fieldLink "PancakePortModel" (64 : Nat) "PancakePortModel" "keptEast" "[I") ∈ mWS := List.mem_filter.mpr ⟨List.mem_of_getElem? (i := 864) (by rfl), by rfl⟩
set_option maxRecDepth 100000 in
theorem tw_865 : (Jvm.Cond.fieldLink "PancakePortModel" (67 : Nat) "PancakePortModel" "keptThrew" "[I") ∈ mWS := List.mem_filter.mpr ⟨List.mem_of_getElem? (i := 865) (by rfl), by rfl⟩
set_option maxRecDepth 100000 in
theorem tw_866 : (Jvm.Cond.fieldLink "PancakePortModel" (70 : Nat) "PancakePortModel" "keptSights" "[I") ∈ mWS := List.mem_filter.mpr ⟨List.mem_of_getElem? (i := 866) (by rfl), by rfl⟩
set_option maxRecDepth 100000 in
theorem tw_867 : (Jvm.Cond.fieldLink "PancakePortModel" (292 : Nat) "PancakePortModel" "hash" "J") ∈ mWS := List.mem_filter.mpr ⟨List.mem_of_getElem? (i := 867) (by rfl), by rfl⟩
set_option maxRecDepth 100000 in
theorem tw_868 : (Jvm.Cond.laysFinal "PancakePortModel" "PancakePortModel" "page" "[I") ∈ mWS := List.mem_filter.mpr ⟨List.mem_of_getElem? (i := 868) (by rfl), by rfl⟩
set_option maxRecDepth 100000 in
theorem tw_870 : (Jvm.Cond.lays "PancakePortModel" "PancakePortModel" "pageMany" "I") ∈ mWS := List.mem_filter.mpr ⟨List.mem_of_getElem? (i := 870) (by rfl), by rfl⟩
set_option maxRecDepth 100000 in
theorem tw_872 : (Jvm.Cond.lays "PancakePortModel" "PancakePortModel" "end" "I") ∈ mWS := List.mem_filter.mpr ⟨List.mem_of_getElem? (i := 872) (by rfl), by rfl⟩
set_option maxRecDepth 100000 in
theorem tw_874 : (Jvm.Cond.lays "PancakePortModel" "PancakePortModel" "sleepers" "I") ∈ mWS := List.mem_filter.mpr ⟨List.mem_of_getElem? (i := 874) (by rfl), by rfl⟩
set_option maxRecDepth 100000 in
theorem tw_876 : (Jvm.Cond.lays "PancakePortModel" "PancakePortModel" "tossers" "I") ∈ mWS := List.mem_filter.mpr ⟨List.mem_of_getElem? (i := 876) (by rfl), by rfl⟩
set_option maxRecDepth 100000 in
theorem tw_878 : (Jvm.Cond.lays "PancakePortModel" "PancakePortModel" "wind" "I") ∈ mWS := List.mem_filter.mpr ⟨List.mem_of_getElem? (i := 878) (by rfl), by rfl⟩
set_option maxRecDepth 100000 in
theorem tw_880 : (Jvm.Cond.lays "PancakePortModel" "PancakePortModel" "batter" "I") ∈ mWS := List.mem_filter.mpr ⟨List.mem_of_getElem? (i := 880) (by rfl), by rfl⟩
set_option maxRecDepth 100000 in
theorem tw_882 : (Jvm.Cond.lays "PancakePortModel" "PancakePortModel" "mornings" "I") ∈ mWS := List.mem_filter.mpr ⟨List.mem_of_getElem? (i := 882) (by rfl), by rfl⟩
set_option maxRecDepth 100000 in
theorem tw_884 : (Jvm.Cond.lays "PancakePortModel" "PancakePortModel" "thrown" "I") ∈ mWS := List.mem_filter.mpr ⟨List.mem_of_getElem? (i := 884) (by rfl), by rfl⟩
set_option maxRecDepth 100000 in
theorem tw_886 : (Jvm.Cond.lays "PancakePortModel" "PancakePortModel" "portsRead" "I") ∈ mWS := List.mem_filter.mpr ⟨List.mem_of_getElem? (i := 886) (by rfl), by rfl⟩
set_option maxRecDepth 100000 in
theorem tw_888 : (Jvm.Cond.laysFinal "PancakePortModel" "PancakePortModel" "cells" "[I") ∈ mWS := List.mem_filter.mpr ⟨List.mem_of_getElem? (i := 888) (by rfl), by rfl⟩
set_option maxRecDepth 100000 in
theorem tw_890 : (Jvm.Cond.laysFinal "PancakePortModel" "PancakePortModel" "isCovered" "[I") ∈ mWS := List.mem_filter.mpr ⟨List.mem_of_getElem? (i := 890) (by rfl), by rfl⟩
set_option maxRecDepth 100000 in
theorem tw_892 : (Jvm.Cond.laysFinal "PancakePortModel" "PancakePortModel" "breakfasts" "[I") ∈ mWS := List.mem_filter.mpr ⟨List.mem_of_getElem? (i := 892) (by rfl), by rfl⟩
set_option maxRecDepth 100000 in
theorem tw_894 : (Jvm.Cond.laysFinal "PancakePortModel" "PancakePortModel" "colds" "[I") ∈ mWS := List.mem_filter.mpr ⟨List.mem_of_getElem? (i := 894) (by rfl), by rfl⟩
set_option maxRecDepth 100000 in
theorem tw_896 : (Jvm.Cond.laysFinal "PancakePortModel" "PancakePortModel" "kinds" "[I") ∈ mWS := List.mem_filter.mpr ⟨List.mem_of_getElem? (i := 896) (by rfl), by rfl⟩
set_option maxRecDepth 100000 in
theorem tw_898 : (Jvm.Cond.laysFinal "PancakePortModel" "PancakePortModel" "south" "[I") ∈ mWS := List.mem_filter.mpr ⟨List.mem_of_getElem? (i := 898) (by rfl), by rfl⟩
set_option maxRecDepth 100000 in
theorem tw_900 : (Jvm.Cond.laysFinal "PancakePortModel" "PancakePortModel" "east" "[I") ∈ mWS := List.mem_filter.mpr ⟨List.mem_of_getElem? (i := 900) (by rfl), by rfl⟩
set_option maxRecDepth 100000 in
theorem tw_902 : (Jvm.Cond.laysFinal "PancakePortModel" "PancakePortModel" "threw" "[I") ∈ mWS := List.mem_filter.mpr ⟨List.mem_of_getElem? (i := 902) (by rfl), by rfl⟩
set_option maxRecDepth 100000 in
theorem tw_904 : (Jvm.Cond.laysFinal "PancakePortModel" "PancakePortModel" "covering" "[I") ∈ mWS := List.mem_filter.mpr ⟨List.mem_of_getElem? (i := 904) (by rfl), by rfl⟩
set_option maxRecDepth 100000 in
theorem tw_906 : (Jvm.Cond.laysFinal "PancakePortModel" "PancakePortModel" "least" "[I") ∈ mWS := List.mem_filter.mpr ⟨List.mem_of_getElem? (i := 906) (by rfl), by rfl⟩
set_option maxRecDepth 100000 in
theorem tw_908 : (Jvm.Cond.laysFinal "PancakePortModel" "PancakePortModel" "taken" "[I") ∈ mWS := List.mem_filter.mpr ⟨List.mem_of_getElem? (i := 908) (by rfl), by rfl⟩
set_option maxRecDepth 100000 in
theorem tw_910 : (Jvm.Cond.lays "PancakePortModel" "PancakePortModel" "takenMany" "I") ∈ mWS := List.mem_filter.mpr ⟨List.mem_of_getElem? (i := 910) (by rfl), by rfl⟩
set_option maxRecDepth 100000 in
theorem tw_912 : (Jvm.Cond.lays "PancakePortModel" "PancakePortModel" "seenMany" "I") ∈ mWS := List.mem_filter.mpr ⟨List.mem_of_getElem? (i := 912) (by rfl), by rfl⟩
set_option maxRecDepth 100000 in
theorem tw_914 : (Jvm.Cond.laysFinal "PancakePortModel" "PancakePortModel" "sights" "[I") ∈ mWS := List.mem_filter.mpr ⟨List.mem_of_getElem? (i := 914) (by rfl), by rfl⟩
set_option maxRecDepth 100000 in
theorem tw_916 : (Jvm.Cond.lays "PancakePortModel" "PancakePortModel" "seedNow" "I") ∈ mWS := List.mem_filter.mpr ⟨List.mem_of_getElem? (i := 916) (by rfl), by rfl⟩
set_option maxRecDepth 100000 in
theorem tw_918 : (Jvm.Cond.lays "PancakePortModel" "PancakePortModel" "keptPort" "I") ∈ mWS := List.mem_filter.mpr ⟨List.mem_of_getElem? (i := 918) (by rfl), by rfl⟩
set_option maxRecDepth 100000 in
theorem tw_920 : (Jvm.Cond.lays "PancakePortModel" "PancakePortModel" "keptWind" "I") ∈ mWS := List.mem_filter.mpr ⟨List.mem_of_getElem? (i := 920) (by rfl), by rfl⟩
set_option maxRecDepth 100000 in
theorem tw_922 : (Jvm.Cond.lays "PancakePortModel" "PancakePortModel" "keptBatter" "I") ∈ mWS := List.mem_filter.mpr ⟨List.mem_of_getElem? (i := 922) (by rfl), by rfl⟩
set_option maxRecDepth 100000 in
theorem tw_924 : (Jvm.Cond.lays "PancakePortModel" "PancakePortModel" "keptMornings" "I") ∈ mWS := List.mem_filter.mpr ⟨List.mem_of_getElem? (i := 924) (by rfl), by rfl⟩
set_option maxRecDepth 100000 in
theorem tw_926 : (Jvm.Cond.lays "PancakePortModel" "PancakePortModel" "keptThrown" "I") ∈ mWS := List.mem_filter.mpr ⟨List.mem_of_getElem? (i := 926) (by rfl), by rfl⟩
set_option maxRecDepth 100000 in
theorem tw_928 : (Jvm.Cond.lays "PancakePortModel" "PancakePortModel" "keptSeen" "I") ∈ mWS := List.mem_filter.mpr ⟨List.mem_of_getElem? (i := 928) (by rfl), by rfl⟩
set_option maxRecDepth 100000 in
theorem tw_930 : (Jvm.Cond.laysFinal "PancakePortModel" "PancakePortModel" "keptCells" "[I") ∈ mWS := List.mem_filter.mpr ⟨List.mem_of_getElem? (i := 930) (by rfl), by rfl⟩
set_option maxRecDepth 100000 in
theorem tw_932 : (Jvm.Cond.laysFinal "PancakePortModel" "PancakePortModel" "keptCovered" "[I") ∈ mWS := List.mem_filter.mpr ⟨List.mem_of_getElem? (i := 932) (by rfl), by rfl⟩
set_option maxRecDepth 100000 in
theorem tw_934 : (Jvm.Cond.laysFinal "PancakePortModel" "PancakePortModel" "keptBreakfasts" "[I") ∈ mWS := List.mem_filter.mpr ⟨List.mem_of_getElem? (i := 934) (by rfl), by rfl⟩
set_option maxRecDepth 100000 in
theorem tw_936 : (Jvm.Cond.laysFinal "PancakePortModel" "PancakePortModel" "keptColds" "[I") ∈ mWS := List.mem_filter.mpr ⟨List.mem_of_getElem? (i := 936) (by rfl), by rfl⟩
set_option maxRecDepth 100000 in
theorem tw_938 : (Jvm.Cond.laysFinal "PancakePortModel" "PancakePortModel" "keptSouth" "[I") ∈ mWS := List.mem_filter.mpr ⟨List.mem_of_getElem? (i := 938) (by rfl), by rfl⟩
set_option maxRecDepth 100000 in
theorem tw_940 : (Jvm.Cond.laysFinal "PancakePortModel" "PancakePortModel" "keptEast" "[I") ∈ mWS := List.mem_filter.mpr ⟨List.mem_of_getElem? (i := 940) (by rfl), by rfl⟩
set_option maxRecDepth 100000 in
theorem tw_942 : (Jvm.Cond.laysFinal "PancakePortModel" "PancakePortModel" "keptThrew" "[I") ∈ mWS := List.mem_filter.mpr ⟨List.mem_of_getElem? (i := 942) (by rfl), by rfl⟩
set_option maxRecDepth 100000 in
theorem tw_944 : (Jvm.Cond.laysFinal "PancakePortModel" "PancakePortModel" "keptSights" "[I") ∈ mWS := List.mem_filter.mpr ⟨List.mem_of_getElem? (i := 944) (by rfl), by rfl⟩
set_option maxRecDepth 100000 in
theorem tw_946 : (Jvm.Cond.lays "PancakePortModel" "PancakePortModel" "hash" "J") ∈ mWS := List.mem_filter.mpr ⟨List.mem_of_getElem? (i := 946) (by rfl), by rfl⟩
set_option maxRecDepth 100000 in
theorem tw_948 : (Jvm.Cond.superclass "PancakePortModel" "java/lang/Object") ∈ mWS := List.mem_filter.mpr ⟨List.mem_of_getElem? (i := 948) (by rfl), by rfl⟩
set_option maxRecDepth 100000 in
theorem tw_949 : (Jvm.Cond.methodLink "PancakePortLaw" (17 : Nat) ({ cls := "PancakePortModel", name := "letter", desc := "(I)I" } : Jvm.MethodName)) ∈ mWS := List.mem_filter.mpr ⟨List.mem_of_getElem? (i := 949) (by rfl), by rfl⟩
set_option maxRecDepth 100000 in
theorem tw_950 : (Jvm.Cond.instanceMethod ({ cls := "PancakePortModel", name := "letter", desc := "(I)I" } : Jvm.MethodName)) ∈ mWS := List.mem_filter.mpr ⟨List.mem_of_getElem? (i := 950) (by rfl), by rfl⟩
set_option maxRecDepth 100000 in
theorem tw_951 : (Jvm.Cond.selects "PancakePortModel" ({ cls := "PancakePortModel", name := "letter", desc := "(I)I" } : Jvm.MethodName) ({ cls := "PancakePortModel", name := "letter", desc := "(I)I" } : Jvm.MethodName)) ∈ mWS := List.mem_filter.mpr ⟨List.mem_of_getElem? (i := 951) (by rfl), by rfl⟩
set_option maxRecDepth 100000 in
theorem tw_952 : (Jvm.Cond.code ({ cls := "PancakePortModel", name := "letter", desc := "(I)I" } : Jvm.MethodName) prog_13_method_4_code (2 : Nat) (Option.some Jvm.ClassFile.FieldType.int)) ∈ mWS := List.mem_filter.mpr ⟨List.mem_of_getElem? (i := 952) (by rfl), by rfl⟩
set_option maxRecDepth 100000 in
theorem tw_953 : (Jvm.Cond.constantLong "PancakePortModel" (77 : Nat) (126 : Int64)) ∈ mWS := List.mem_filter.mpr ⟨List.mem_of_getElem? (i := 953) (by rfl), by rfl⟩
set_option maxRecDepth 100000 in
theorem tw_954 : (Jvm.Cond.methodLink "PancakePortModel" (79 : Nat) ({ cls := "PancakePortModel", name := "in", desc := "(JJJ)Z" } : Jvm.MethodName)) ∈ mWS := List.mem_filter.mpr ⟨List.mem_of_getElem? (i := 954) (by rfl), by rfl⟩
set_option maxRecDepth 100000 in
theorem tw_955 : (Jvm.Cond.static ({ cls := "PancakePortModel", name := "in", desc := "(JJJ)Z" } : Jvm.MethodName)) ∈ mWS := List.mem_filter.mpr ⟨List.mem_of_getElem? (i := 955) (by rfl), by rfl⟩
set_option maxRecDepth 100000 in
theorem tw_956 : (Jvm.Cond.code ({ cls := "PancakePortModel", name := "in", desc := "(JJJ)Z" } : Jvm.MethodName) prog_13_method_2_code (6 : Nat) (Option.some Jvm.ClassFile.FieldType.boolean)) ∈ mWS := List.mem_filter.mpr ⟨List.mem_of_getElem? (i := 956) (by rfl), by rfl⟩
set_option maxRecDepth 100000 in
theorem tw_957 : (Jvm.Cond.methodLink "PancakePortLaw" (22 : Nat) ({ cls := "PancakePortModel", name := "blank", desc := "()I" } : Jvm.MethodName)) ∈ mWS := List.mem_filter.mpr ⟨List.mem_of_getElem? (i := 957) (by rfl), by rfl⟩
set_option maxRecDepth 100000 in
theorem tw_958 : (Jvm.Cond.instanceMethod ({ cls := "PancakePortModel", name := "blank", desc := "()I" } : Jvm.MethodName)) ∈ mWS := List.mem_filter.mpr ⟨List.mem_of_getElem? (i := 958) (by rfl), by rfl⟩
set_option maxRecDepth 100000 in
theorem tw_959 : (Jvm.Cond.selects "PancakePortModel" ({ cls := "PancakePortModel", name := "blank", desc := "()I" } : Jvm.MethodName) ({ cls := "PancakePortModel", name := "blank", desc := "()I" } : Jvm.MethodName)) ∈ mWS := List.mem_filter.mpr ⟨List.mem_of_getElem? (i := 959) (by rfl), by rfl⟩
set_option maxRecDepth 100000 in
theorem tw_960 : (Jvm.Cond.code ({ cls := "PancakePortModel", name := "blank", desc := "()I" } : Jvm.MethodName) prog_13_method_5_code (2 : Nat) (Option.some Jvm.ClassFile.FieldType.int)) ∈ mWS := List.mem_filter.mpr ⟨List.mem_of_getElem? (i := 960) (by rfl), by rfl⟩
set_option maxRecDepth 100000 in
theorem tw_961 : (Jvm.Cond.methodLink "PancakePortLaw" (26 : Nat) ({ cls := "PancakePortModel", name := "fault", desc := "()I" } : Jvm.MethodName)) ∈ mWS := List.mem_filter.mpr ⟨List.mem_of_getElem? (i := 961) (by rfl), by rfl⟩
set_option maxRecDepth 100000 in
theorem tw_962 : (Jvm.Cond.instanceMethod ({ cls := "PancakePortModel", name := "fault", desc := "()I" } : Jvm.MethodName)) ∈ mWS := List.mem_filter.mpr ⟨List.mem_of_getElem? (i := 962) (by rfl), by rfl⟩
set_option maxRecDepth 100000 in
theorem tw_963 : (Jvm.Cond.selects "PancakePortModel" ({ cls := "PancakePortModel", name := "fault", desc := "()I" } : Jvm.MethodName) ({ cls := "PancakePortModel", name := "fault", desc := "()I" } : Jvm.MethodName)) ∈ mWS := List.mem_filter.mpr ⟨List.mem_of_getElem? (i := 963) (by rfl), by rfl⟩
set_option maxRecDepth 100000 in
theorem tw_964 : (Jvm.Cond.code ({ cls := "PancakePortModel", name := "fault", desc := "()I" } : Jvm.MethodName) prog_13_method_12_code (1 : Nat) (Option.some Jvm.ClassFile.FieldType.int)) ∈ mWS := List.mem_filter.mpr ⟨List.mem_of_getElem? (i := 964) (by rfl), by rfl⟩
set_option maxRecDepth 100000 in
theorem tw_965 : (Jvm.Cond.methodLink "PancakePortModel" (112 : Nat) ({ cls := "PancakePortModel", name := "faultOf", desc := "()I" } : Jvm.MethodName)) ∈ mWS := List.mem_filter.mpr ⟨List.mem_of_getElem? (i := 965) (by rfl), by rfl⟩
set_option maxRecDepth 100000 in
theorem tw_967 : (Jvm.Cond.instanceMethod ({ cls := "PancakePortModel", name := "faultOf", desc := "()I" } : Jvm.MethodName)) ∈ mWS := List.mem_filter.mpr ⟨List.mem_of_getElem? (i := 967) (by rfl), by rfl⟩
set_option maxRecDepth 100000 in
theorem tw_968 : (Jvm.Cond.code ({ cls := "PancakePortModel", name := "faultOf", desc := "()I" } : Jvm.MethodName) prog_13_method_11_code (2 : Nat) (Option.some Jvm.ClassFile.FieldType.int)) ∈ mWS := List.mem_filter.mpr ⟨List.mem_of_getElem? (i := 968) (by rfl), by rfl⟩
set_option maxRecDepth 100000 in
theorem tw_969 : (Jvm.Cond.methodLink "PancakePortModel" (106 : Nat) ({ cls := "PancakePortModel", name := "isSleeperLetter", desc := "(I)Z" } : Jvm.MethodName)) ∈ mWS := List.mem_filter.mpr ⟨List.mem_of_getElem? (i := 969) (by rfl), by rfl⟩
set_option maxRecDepth 100000 in
theorem tw_971 : (Jvm.Cond.instanceMethod ({ cls := "PancakePortModel", name := "isSleeperLetter", desc := "(I)Z" } : Jvm.MethodName)) ∈ mWS := List.mem_filter.mpr ⟨List.mem_of_getElem? (i := 971) (by rfl), by rfl⟩
set_option maxRecDepth 100000 in
theorem tw_972 : (Jvm.Cond.code ({ cls := "PancakePortModel", name := "isSleeperLetter", desc := "(I)Z" } : Jvm.MethodName) prog_13_method_9_code (3 : Nat) (Option.some Jvm.ClassFile.FieldType.boolean)) ∈ mWS := List.mem_filter.mpr ⟨List.mem_of_getElem? (i := 972) (by rfl), by rfl⟩
set_option maxRecDepth 100000 in
theorem tw_973 : (Jvm.Cond.constantLong "PancakePortModel" (90 : Nat) (48 : Int64)) ∈ mWS := List.mem_filter.mpr ⟨List.mem_of_getElem? (i := 973) (by rfl), by rfl⟩
set_option maxRecDepth 100000 in
theorem tw_974 : (Jvm.Cond.constantLong "PancakePortModel" (92 : Nat) (53 : Int64)) ∈ mWS := List.mem_filter.mpr ⟨List.mem_of_getElem? (i := 974) (by rfl), by rfl⟩
set_option maxRecDepth 100000 in
theorem tw_975 : (Jvm.Cond.methodLink "PancakePortModel" (94 : Nat) ({ cls := "PancakePortModel", name := "isNew", desc := "(I)Z" } : Jvm.MethodName)) ∈ mWS := List.mem_filter.mpr ⟨List.mem_of_getElem? (i := 975) (by rfl), by rfl⟩
set_option maxRecDepth 100000 in
theorem tw_977 : (Jvm.Cond.instanceMethod ({ cls := "PancakePortModel", name := "isNew", desc := "(I)Z" } : Jvm.MethodName)) ∈ mWS := List.mem_filter.mpr ⟨List.mem_of_getElem? (i := 977) (by rfl), by rfl⟩
set_option maxRecDepth 100000 in
theorem tw_978 : (Jvm.Cond.code ({ cls := "PancakePortModel", name := "isNew", desc := "(I)Z" } : Jvm.MethodName) prog_13_method_8_code (4 : Nat) (Option.some Jvm.ClassFile.FieldType.boolean)) ∈ mWS := List.mem_filter.mpr ⟨List.mem_of_getElem? (i := 978) (by rfl), by rfl⟩
set_option maxRecDepth 100000 in
theorem tw_979 : (Jvm.Cond.methodLink "PancakePortModel" (86 : Nat) ({ cls := "PancakePortModel", name := "cellAt", desc := "(I)I" } : Jvm.MethodName)) ∈ mWS := List.mem_filter.mpr ⟨List.mem_of_getElem? (i := 979) (by rfl), by rfl⟩
set_option maxRecDepth 100000 in
theorem tw_981 : (Jvm.Cond.instanceMethod ({ cls := "PancakePortModel", name := "cellAt", desc := "(I)I" } : Jvm.MethodName)) ∈ mWS := List.mem_filter.mpr ⟨List.mem_of_getElem? (i := 981) (by rfl), by rfl⟩
set_option maxRecDepth 100000 in
theorem tw_982 : (Jvm.Cond.code ({ cls := "PancakePortModel", name := "cellAt", desc := "(I)I" } : Jvm.MethodName) prog_13_method_7_code (2 : Nat) (Option.some Jvm.ClassFile.FieldType.int)) ∈ mWS := List.mem_filter.mpr ⟨List.mem_of_getElem? (i := 982) (by rfl), by rfl⟩
set_option maxRecDepth 100000 in
theorem tw_983 : (Jvm.Cond.methodLink "PancakePortModel" (109 : Nat) ({ cls := "PancakePortModel", name := "isTosserLetter", desc := "(I)Z" } : Jvm.MethodName)) ∈ mWS := List.mem_filter.mpr ⟨List.mem_of_getElem? (i := 983) (by rfl), by rfl⟩
set_option maxRecDepth 100000 in
theorem tw_985 : (Jvm.Cond.instanceMethod ({ cls := "PancakePortModel", name := "isTosserLetter", desc := "(I)Z" } : Jvm.MethodName)) ∈ mWS := List.mem_filter.mpr ⟨List.mem_of_getElem? (i := 985) (by rfl), by rfl⟩
set_option maxRecDepth 100000 in
theorem tw_986 : (Jvm.Cond.code ({ cls := "PancakePortModel", name := "isTosserLetter", desc := "(I)Z" } : Jvm.MethodName) prog_13_method_10_code (4 : Nat) (Option.some Jvm.ClassFile.FieldType.boolean)) ∈ mWS := List.mem_filter.mpr ⟨List.mem_of_getElem? (i := 986) (by rfl), by rfl⟩
set_option maxRecDepth 100000 in
theorem tw_987 : (Jvm.Cond.methodLink "PancakePortModel" (101 : Nat) ({ cls := "PancakePortModel", name := "kindBy", desc := "(I)I" } : Jvm.MethodName)) ∈ mWS := List.mem_filter.mpr ⟨List.mem_of_getElem? (i := 987) (by rfl), by rfl⟩
set_option maxRecDepth 100000 in
theorem tw_988 : (Jvm.Cond.static ({ cls := "PancakePortModel", name := "kindBy", desc := "(I)I" } : Jvm.MethodName)) ∈ mWS := List.mem_filter.mpr ⟨List.mem_of_getElem? (i := 988) (by rfl), by rfl⟩
set_option maxRecDepth 100000 in
theorem tw_989 : (Jvm.Cond.code ({ cls := "PancakePortModel", name := "kindBy", desc := "(I)I" } : Jvm.MethodName) prog_13_method_6_code (1 : Nat) (Option.some Jvm.ClassFile.FieldType.int)) ∈ mWS := List.mem_filter.mpr ⟨List.mem_of_getElem? (i := 989) (by rfl), by rfl⟩
set_option maxRecDepth 100000 in
theorem tw_990 : (Jvm.Cond.constantLong "PancakePortModel" (104 : Nat) (52 : Int64)) ∈ mWS := List.mem_filter.mpr ⟨List.mem_of_getElem? (i := 990) (by rfl), by rfl⟩
set_option maxRecDepth 100000 in
theorem tw_991 : (Jvm.Cond.methodLink "PancakePortLaw" (30 : Nat) ({ cls := "PancakePortModel", name := "port", desc := "()I" } : Jvm.MethodName)) ∈ mWS := List.mem_filter.mpr ⟨List.mem_of_getElem? (i := 991) (by rfl), by rfl⟩
set_option maxRecDepth 100000 in
theorem tw_992 : (Jvm.Cond.instanceMethod ({ cls := "PancakePortModel", name := "port", desc := "()I" } : Jvm.MethodName)) ∈ mWS := List.mem_filter.mpr ⟨List.mem_of_getElem? (i := 992) (by rfl), by rfl⟩
set_option maxRecDepth 100000 in
theorem tw_993 : (Jvm.Cond.selects "PancakePortModel" ({ cls := "PancakePortModel", name := "port", desc := "()I" } : Jvm.MethodName) ({ cls := "PancakePortModel", name := "port", desc := "()I" } : Jvm.MethodName)) ∈ mWS := List.mem_filter.mpr ⟨List.mem_of_getElem? (i := 993) (by rfl), by rfl⟩
set_option maxRecDepth 100000 in
theorem tw_994 : (Jvm.Cond.code ({ cls := "PancakePortModel", name := "port", desc := "()I" } : Jvm.MethodName) prog_13_method_13_code (3 : Nat) (Option.some Jvm.ClassFile.FieldType.int)) ∈ mWS := List.mem_filter.mpr ⟨List.mem_of_getElem? (i := 994) (by rfl), by rfl⟩
set_option maxRecDepth 100000 in
theorem tw_995 : (Jvm.Cond.methodLink "PancakePortLaw" (47 : Nat) ({ cls := "PancakePortModel", name := "lands", desc := "(II)I" } : Jvm.MethodName)) ∈ mWS := List.mem_filter.mpr ⟨List.mem_of_getElem? (i := 995) (by rfl), by rfl⟩
set_option maxRecDepth 100000 in
theorem tw_996 : (Jvm.Cond.instanceMethod ({ cls := "PancakePortModel", name := "lands", desc := "(II)I" } : Jvm.MethodName)) ∈ mWS := List.mem_filter.mpr ⟨List.mem_of_getElem? (i := 996) (by rfl), by rfl⟩
set_option maxRecDepth 100000 in
theorem tw_997 : (Jvm.Cond.selects "PancakePortModel" ({ cls := "PancakePortModel", name := "lands", desc := "(II)I" } : Jvm.MethodName) ({ cls := "PancakePortModel", name := "lands", desc := "(II)I" } : Jvm.MethodName)) ∈ mWS := List.mem_filter.mpr ⟨List.mem_of_getElem? (i := 997) (by rfl), by rfl⟩
set_option maxRecDepth 100000 in
theorem tw_998 : (Jvm.Cond.code ({ cls := "PancakePortModel", name := "lands", desc := "(II)I" } : Jvm.MethodName) prog_13_method_27_code (3 : Nat) (Option.some Jvm.ClassFile.FieldType.int)) ∈ mWS := List.mem_filter.mpr ⟨List.mem_of_getElem? (i := 998) (by rfl), by rfl⟩
set_option maxRecDepth 100000 in
theorem tw_999 : (Jvm.Cond.methodLink "PancakePortModel" (163 : Nat) ({ cls := "PancakePortModel", name := "isTosser", desc := "(I)Z" } : Jvm.MethodName)) ∈ mWS := List.mem_filter.mpr ⟨List.mem_of_getElem? (i := 999) (by rfl), by rfl⟩
set_option maxRecDepth 100000 in
theorem tw_1001 : (Jvm.Cond.instanceMethod ({ cls := "PancakePortModel", name := "isTosser", desc := "(I)Z" } : Jvm.MethodName)) ∈ mWS := List.mem_filter.mpr ⟨List.mem_of_getElem? (i := 1001) (by rfl), by rfl⟩
set_option maxRecDepth 100000 in
theorem tw_1002 : (Jvm.Cond.code ({ cls := "PancakePortModel", name := "isTosser", desc := "(I)Z" } : Jvm.MethodName) prog_13_method_16_code (2 : Nat) (Option.some Jvm.ClassFile.FieldType.boolean)) ∈ mWS := List.mem_filter.mpr ⟨List.mem_of_getElem? (i := 1002) (by rfl), by rfl⟩
set_option maxRecDepth 100000 in
theorem tw_1003 : (Jvm.Cond.methodLink "PancakePortModel" (166 : Nat) ({ cls := "PancakePortModel", name := "isCell", desc := "(I)Z" } : Jvm.MethodName)) ∈ mWS := List.mem_filter.mpr ⟨List.mem_of_getElem? (i := 1003) (by rfl), by rfl⟩
set_option maxRecDepth 100000 in
theorem tw_1004 : (Jvm.Cond.static ({ cls := "PancakePortModel", name := "isCell", desc := "(I)Z" } : Jvm.MethodName)) ∈ mWS := List.mem_filter.mpr ⟨List.mem_of_getElem? (i := 1004) (by rfl), by rfl⟩
set_option maxRecDepth 100000 in
theorem tw_1005 : (Jvm.Cond.code ({ cls := "PancakePortModel", name := "isCell", desc := "(I)Z" } : Jvm.MethodName) prog_13_method_17_code (1 : Nat) (Option.some Jvm.ClassFile.FieldType.boolean)) ∈ mWS := List.mem_filter.mpr ⟨List.mem_of_getElem? (i := 1005) (by rfl), by rfl⟩
set_option maxRecDepth 100000 in
theorem tw_1006 : (Jvm.Cond.constantLong "PancakePortModel" (140 : Nat) (35 : Int64)) ∈ mWS := List.mem_filter.mpr ⟨List.mem_of_getElem? (i := 1006) (by rfl), by rfl⟩
set_option maxRecDepth 100000 in
theorem tw_1007 : (Jvm.Cond.methodLink "PancakePortModel" (151 : Nat) ({ cls := "PancakePortModel", name := "landsBy", desc := "(III)I" } : Jvm.MethodName)) ∈ mWS := List.mem_filter.mpr ⟨List.mem_of_getElem? (i := 1007) (by rfl), by rfl⟩
set_option maxRecDepth 100000 in
theorem tw_1009 : (Jvm.Cond.instanceMethod ({ cls := "PancakePortModel", name := "landsBy", desc := "(III)I" } : Jvm.MethodName)) ∈ mWS := List.mem_filter.mpr ⟨List.mem_of_getElem? (i := 1009) (by rfl), by rfl⟩
set_option maxRecDepth 100000 in
theorem tw_1010 : (Jvm.Cond.code ({ cls := "PancakePortModel", name := "landsBy", desc := "(III)I" } : Jvm.MethodName) prog_13_method_19_code (4 : Nat) (Option.some Jvm.ClassFile.FieldType.int)) ∈ mWS := List.mem_filter.mpr ⟨List.mem_of_getElem? (i := 1010) (by rfl), by rfl⟩
set_option maxRecDepth 100000 in
theorem tw_1011 : (Jvm.Cond.methodLink "PancakePortModel" (144 : Nat) ({ cls := "PancakePortModel", name := "cellOf", desc := "(II)I" } : Jvm.MethodName)) ∈ mWS := List.mem_filter.mpr ⟨List.mem_of_getElem? (i := 1011) (by rfl), by rfl⟩
set_option maxRecDepth 100000 in
theorem tw_1012 : (Jvm.Cond.static ({ cls := "PancakePortModel", name := "cellOf", desc := "(II)I" } : Jvm.MethodName)) ∈ mWS := List.mem_filter.mpr ⟨List.mem_of_getElem? (i := 1012) (by rfl), by rfl⟩
set_option maxRecDepth 100000 in
theorem tw_1013 : (Jvm.Cond.code ({ cls := "PancakePortModel", name := "cellOf", desc := "(II)I" } : Jvm.MethodName) prog_13_method_18_code (2 : Nat) (Option.some Jvm.ClassFile.FieldType.int)) ∈ mWS := List.mem_filter.mpr ⟨List.mem_of_getElem? (i := 1013) (by rfl), by rfl⟩
set_option maxRecDepth 100000 in
theorem tw_1014 : (Jvm.Cond.constantLong "PancakePortModel" (142 : Nat) (5 : Int64)) ∈ mWS := List.mem_filter.mpr ⟨List.mem_of_getElem? (i := 1014) (by rfl), by rfl⟩
set_option maxRecDepth 100000 in
theorem tw_1015 : (Jvm.Cond.methodLink "PancakePortLaw" (51 : Nat) ({ cls := "PancakePortModel", name := "covers", desc := "(II)I" } : Jvm.MethodName)) ∈ mWS := List.mem_filter.mpr ⟨List.mem_of_getElem? (i := 1015) (by rfl), by rfl⟩
set_option maxRecDepth 100000 in
theorem tw_1016 : (Jvm.Cond.instanceMethod ({ cls := "PancakePortModel", name := "covers", desc := "(II)I" } : Jvm.MethodName)) ∈ mWS := List.mem_filter.mpr ⟨List.mem_of_getElem? (i := 1016) (by rfl), by rfl⟩
set_option maxRecDepth 100000 in
theorem tw_1017 : (Jvm.Cond.selects "PancakePortModel" ({ cls := "PancakePortModel", name := "covers", desc := "(II)I" } : Jvm.MethodName) ({ cls := "PancakePortModel", name := "covers", desc := "(II)I" } : Jvm.MethodName)) ∈ mWS := List.mem_filter.mpr ⟨List.mem_of_getElem? (i := 1017) (by rfl), by rfl⟩
set_option maxRecDepth 100000 in
theorem tw_1018 : (Jvm.Cond.code ({ cls := "PancakePortModel", name := "covers", desc := "(II)I" } : Jvm.MethodName) prog_13_method_28_code (3 : Nat) (Option.some Jvm.ClassFile.FieldType.int)) ∈ mWS := List.mem_filter.mpr ⟨List.mem_of_getElem? (i := 1018) (by rfl), by rfl⟩
set_option maxRecDepth 100000 in
theorem tw_1019 : (Jvm.Cond.methodLink "PancakePortModel" (169 : Nat) ({ cls := "PancakePortModel", name := "coversOf", desc := "(III)I" } : Jvm.MethodName)) ∈ mWS := List.mem_filter.mpr ⟨List.mem_of_getElem? (i := 1019) (by rfl), by rfl⟩
set_option maxRecDepth 100000 in
theorem tw_1021 : (Jvm.Cond.instanceMethod ({ cls := "PancakePortModel", name := "coversOf", desc := "(III)I" } : Jvm.MethodName)) ∈ mWS := List.mem_filter.mpr ⟨List.mem_of_getElem? (i := 1021) (by rfl), by rfl⟩
set_option maxRecDepth 100000 in
theorem tw_1022 : (Jvm.Cond.code ({ cls := "PancakePortModel", name := "coversOf", desc := "(III)I" } : Jvm.MethodName) prog_13_method_23_code (6 : Nat) (Option.some Jvm.ClassFile.FieldType.int)) ∈ mWS := List.mem_filter.mpr ⟨List.mem_of_getElem? (i := 1022) (by rfl), by rfl⟩
set_option maxRecDepth 100000 in
theorem tw_1023 : (Jvm.Cond.methodLink "PancakePortModel" (159 : Nat) ({ cls := "PancakePortModel", name := "coversCell", desc := "(IIII)Z" } : Jvm.MethodName)) ∈ mWS := List.mem_filter.mpr ⟨List.mem_of_getElem? (i := 1023) (by rfl), by rfl⟩
set_option maxRecDepth 100000 in
theorem tw_1025 : (Jvm.Cond.instanceMethod ({ cls := "PancakePortModel", name := "coversCell", desc := "(IIII)Z" } : Jvm.MethodName)) ∈ mWS := List.mem_filter.mpr ⟨List.mem_of_getElem? (i := 1025) (by rfl), by rfl⟩
set_option maxRecDepth 100000 in
theorem tw_1026 : (Jvm.Cond.code ({ cls := "PancakePortModel", name := "coversCell", desc := "(IIII)Z" } : Jvm.MethodName) prog_13_method_22_code (6 : Nat) (Option.some Jvm.ClassFile.FieldType.boolean)) ∈ mWS := List.mem_filter.mpr ⟨List.mem_of_getElem? (i := 1026) (by rfl), by rfl⟩
set_option maxRecDepth 100000 in
theorem tw_1027 : (Jvm.Cond.methodLink "PancakePortModel" (155 : Nat) ({ cls := "PancakePortModel", name := "reaches", desc := "(III)Z" } : Jvm.MethodName)) ∈ mWS := List.mem_filter.mpr ⟨List.mem_of_getElem? (i := 1027) (by rfl), by rfl⟩
set_option maxRecDepth 100000 in
theorem tw_1028 : (Jvm.Cond.static ({ cls := "PancakePortModel", name := "reaches", desc := "(III)Z" } : Jvm.MethodName)) ∈ mWS := List.mem_filter.mpr ⟨List.mem_of_getElem? (i := 1028) (by rfl), by rfl⟩
set_option maxRecDepth 100000 in
theorem tw_1029 : (Jvm.Cond.code ({ cls := "PancakePortModel", name := "reaches", desc := "(III)Z" } : Jvm.MethodName) prog_13_method_21_code (6 : Nat) (Option.some Jvm.ClassFile.FieldType.boolean)) ∈ mWS := List.mem_filter.mpr ⟨List.mem_of_getElem? (i := 1029) (by rfl), by rfl⟩
set_option maxRecDepth 100000 in
theorem tw_1030 : (Jvm.Cond.methodLink "PancakePortModel" (148 : Nat) ({ cls := "PancakePortModel", name := "far", desc := "(II)I" } : Jvm.MethodName)) ∈ mWS := List.mem_filter.mpr ⟨List.mem_of_getElem? (i := 1030) (by rfl), by rfl⟩
set_option maxRecDepth 100000 in
theorem tw_1031 : (Jvm.Cond.static ({ cls := "PancakePortModel", name := "far", desc := "(II)I" } : Jvm.MethodName)) ∈ mWS := List.mem_filter.mpr ⟨List.mem_of_getElem? (i := 1031) (by rfl), by rfl⟩
set_option maxRecDepth 100000 in
theorem tw_1032 : (Jvm.Cond.code ({ cls := "PancakePortModel", name := "far", desc := "(II)I" } : Jvm.MethodName) prog_13_method_20_code (2 : Nat) (Option.some Jvm.ClassFile.FieldType.int)) ∈ mWS := List.mem_filter.mpr ⟨List.mem_of_getElem? (i := 1032) (by rfl), by rfl⟩
set_option maxRecDepth 100000 in
theorem tw_1033 : (Jvm.Cond.methodLink "PancakePortLaw" (35 : Nat) ({ cls := "PancakePortModel", name := "sleeper", desc := "(II)I" } : Jvm.MethodName)) ∈ mWS := List.mem_filter.mpr ⟨List.mem_of_getElem? (i := 1033) (by rfl), by rfl⟩
set_option maxRecDepth 100000 in
theorem tw_1034 : (Jvm.Cond.instanceMethod ({ cls := "PancakePortModel", name := "sleeper", desc := "(II)I" } : Jvm.MethodName)) ∈ mWS := List.mem_filter.mpr ⟨List.mem_of_getElem? (i := 1034) (by rfl), by rfl⟩
set_option maxRecDepth 100000 in
theorem tw_1035 : (Jvm.Cond.selects "PancakePortModel" ({ cls := "PancakePortModel", name := "sleeper", desc := "(II)I" } : Jvm.MethodName) ({ cls := "PancakePortModel", name := "sleeper", desc := "(II)I" } : Jvm.MethodName)) ∈ mWS := List.mem_filter.mpr ⟨List.mem_of_getElem? (i := 1035) (by rfl), by rfl⟩
set_option maxRecDepth 100000 in
theorem tw_1036 : (Jvm.Cond.code ({ cls := "PancakePortModel", name := "sleeper", desc := "(II)I" } : Jvm.MethodName) prog_13_method_33_code (3 : Nat) (Option.some Jvm.ClassFile.FieldType.int)) ∈ mWS := List.mem_filter.mpr ⟨List.mem_of_getElem? (i := 1036) (by rfl), by rfl⟩
set_option maxRecDepth 100000 in
theorem tw_1037 : (Jvm.Cond.methodLink "PancakePortModel" (182 : Nat) ({ cls := "PancakePortModel", name := "isSleeper", desc := "(I)Z" } : Jvm.MethodName)) ∈ mWS := List.mem_filter.mpr ⟨List.mem_of_getElem? (i := 1037) (by rfl), by rfl⟩
set_option maxRecDepth 100000 in
theorem tw_1039 : (Jvm.Cond.instanceMethod ({ cls := "PancakePortModel", name := "isSleeper", desc := "(I)Z" } : Jvm.MethodName)) ∈ mWS := List.mem_filter.mpr ⟨List.mem_of_getElem? (i := 1039) (by rfl), by rfl⟩
set_option maxRecDepth 100000 in
theorem tw_1040 : (Jvm.Cond.code ({ cls := "PancakePortModel", name := "isSleeper", desc := "(I)Z" } : Jvm.MethodName) prog_13_method_15_code (2 : Nat) (Option.some Jvm.ClassFile.FieldType.boolean)) ∈ mWS := List.mem_filter.mpr ⟨List.mem_of_getElem? (i := 1040) (by rfl), by rfl⟩
set_option maxRecDepth 100000 in
theorem tw_1041 : (Jvm.Cond.methodLink "PancakePortModel" (185 : Nat) ({ cls := "PancakePortModel", name := "tellSleeper", desc := "(II)I" } : Jvm.MethodName)) ∈ mWS := List.mem_filter.mpr ⟨List.mem_of_getElem? (i := 1041) (by rfl), by rfl⟩
set_option maxRecDepth 100000 in
theorem tw_1043 : (Jvm.Cond.instanceMethod ({ cls := "PancakePortModel", name := "tellSleeper", desc := "(II)I" } : Jvm.MethodName)) ∈ mWS := List.mem_filter.mpr ⟨List.mem_of_getElem? (i := 1043) (by rfl), by rfl⟩
set_option maxRecDepth 100000 in
theorem tw_1044 : (Jvm.Cond.code ({ cls := "PancakePortModel", name := "tellSleeper", desc := "(II)I" } : Jvm.MethodName) prog_13_method_32_code (3 : Nat) (Option.some Jvm.ClassFile.FieldType.int)) ∈ mWS := List.mem_filter.mpr ⟨List.mem_of_getElem? (i := 1044) (by rfl), by rfl⟩
set_option maxRecDepth 100000 in
theorem tw_1045 : (Jvm.Cond.methodLink "PancakePortModel" (179 : Nat) ({ cls := "PancakePortModel", name := "lieOf", desc := "(I)I" } : Jvm.MethodName)) ∈ mWS := List.mem_filter.mpr ⟨List.mem_of_getElem? (i := 1045) (by rfl), by rfl⟩
set_option maxRecDepth 100000 in
theorem tw_1047 : (Jvm.Cond.instanceMethod ({ cls := "PancakePortModel", name := "lieOf", desc := "(I)I" } : Jvm.MethodName)) ∈ mWS := List.mem_filter.mpr ⟨List.mem_of_getElem? (i := 1047) (by rfl), by rfl⟩
set_option maxRecDepth 100000 in
theorem tw_1048 : (Jvm.Cond.code ({ cls := "PancakePortModel", name := "lieOf", desc := "(I)I" } : Jvm.MethodName) prog_13_method_31_code (6 : Nat) (Option.some Jvm.ClassFile.FieldType.int)) ∈ mWS := List.mem_filter.mpr ⟨List.mem_of_getElem? (i := 1048) (by rfl), by rfl⟩
set_option maxRecDepth 100000 in
theorem tw_1049 : (Jvm.Cond.methodLink "PancakePortModel" (172 : Nat) ({ cls := "PancakePortModel", name := "isFreeFor", desc := "(II)Z" } : Jvm.MethodName)) ∈ mWS := List.mem_filter.mpr ⟨List.mem_of_getElem? (i := 1049) (by rfl), by rfl⟩
set_option maxRecDepth 100000 in
theorem tw_1051 : (Jvm.Cond.instanceMethod ({ cls := "PancakePortModel", name := "isFreeFor", desc := "(II)Z" } : Jvm.MethodName)) ∈ mWS := List.mem_filter.mpr ⟨List.mem_of_getElem? (i := 1051) (by rfl), by rfl⟩
set_option maxRecDepth 100000 in
theorem tw_1052 : (Jvm.Cond.code ({ cls := "PancakePortModel", name := "isFreeFor", desc := "(II)Z" } : Jvm.MethodName) prog_13_method_29_code (5 : Nat) (Option.some Jvm.ClassFile.FieldType.boolean)) ∈ mWS := List.mem_filter.mpr ⟨List.mem_of_getElem? (i := 1052) (by rfl), by rfl⟩
set_option maxRecDepth 100000 in
theorem tw_1053 : (Jvm.Cond.methodLink "PancakePortModel" (176 : Nat) ({ cls := "PancakePortModel", name := "tossesOver", desc := "(I)I" } : Jvm.MethodName)) ∈ mWS := List.mem_filter.mpr ⟨List.mem_of_getElem? (i := 1053) (by rfl), by rfl⟩
set_option maxRecDepth 100000 in
theorem tw_1055 : (Jvm.Cond.instanceMethod ({ cls := "PancakePortModel", name := "tossesOver", desc := "(I)I" } : Jvm.MethodName)) ∈ mWS := List.mem_filter.mpr ⟨List.mem_of_getElem? (i := 1055) (by rfl), by rfl⟩
set_option maxRecDepth 100000 in
theorem tw_1056 : (Jvm.Cond.code ({ cls := "PancakePortModel", name := "tossesOver", desc := "(I)I" } : Jvm.MethodName) prog_13_method_30_code (5 : Nat) (Option.some Jvm.ClassFile.FieldType.int)) ∈ mWS := List.mem_filter.mpr ⟨List.mem_of_getElem? (i := 1056) (by rfl), by rfl⟩
set_option maxRecDepth 100000 in
theorem tw_1057 : (Jvm.Cond.methodLink "PancakePortLaw" (39 : Nat) ({ cls := "PancakePortModel", name := "tosser", desc := "(II)I" } : Jvm.MethodName)) ∈ mWS := List.mem_filter.mpr ⟨List.mem_of_getElem? (i := 1057) (by rfl), by rfl⟩
set_option maxRecDepth 100000 in
theorem tw_1058 : (Jvm.Cond.instanceMethod ({ cls := "PancakePortModel", name := "tosser", desc := "(II)I" } : Jvm.MethodName)) ∈ mWS := List.mem_filter.mpr ⟨List.mem_of_getElem? (i := 1058) (by rfl), by rfl⟩
set_option maxRecDepth 100000 in
theorem tw_1059 : (Jvm.Cond.selects "PancakePortModel" ({ cls := "PancakePortModel", name := "tosser", desc := "(II)I" } : Jvm.MethodName) ({ cls := "PancakePortModel", name := "tosser", desc := "(II)I" } : Jvm.MethodName)) ∈ mWS := List.mem_filter.mpr ⟨List.mem_of_getElem? (i := 1059) (by rfl), by rfl⟩
set_option maxRecDepth 100000 in
theorem tw_1060 : (Jvm.Cond.code ({ cls := "PancakePortModel", name := "tosser", desc := "(II)I" } : Jvm.MethodName) prog_13_method_36_code (3 : Nat) (Option.some Jvm.ClassFile.FieldType.int)) ∈ mWS := List.mem_filter.mpr ⟨List.mem_of_getElem? (i := 1060) (by rfl), by rfl⟩
set_option maxRecDepth 100000 in
theorem tw_1061 : (Jvm.Cond.methodLink "PancakePortModel" (206 : Nat) ({ cls := "PancakePortModel", name := "tellTosser", desc := "(II)I" } : Jvm.MethodName)) ∈ mWS := List.mem_filter.mpr ⟨List.mem_of_getElem? (i := 1061) (by rfl), by rfl⟩
set_option maxRecDepth 100000 in
theorem tw_1063 : (Jvm.Cond.instanceMethod ({ cls := "PancakePortModel", name := "tellTosser", desc := "(II)I" } : Jvm.MethodName)) ∈ mWS := List.mem_filter.mpr ⟨List.mem_of_getElem? (i := 1063) (by rfl), by rfl⟩
set_option maxRecDepth 100000 in
theorem tw_1064 : (Jvm.Cond.code ({ cls := "PancakePortModel", name := "tellTosser", desc := "(II)I" } : Jvm.MethodName) prog_13_method_35_code (3 : Nat) (Option.some Jvm.ClassFile.FieldType.int)) ∈ mWS := List.mem_filter.mpr ⟨List.mem_of_getElem? (i := 1064) (by rfl), by rfl⟩
set_option maxRecDepth 100000 in
theorem tw_1065 : (Jvm.Cond.methodLink "PancakePortModel" (194 : Nat) ({ cls := "PancakePortModel", name := "batterOf", desc := "(I)I" } : Jvm.MethodName)) ∈ mWS := List.mem_filter.mpr ⟨List.mem_of_getElem? (i := 1065) (by rfl), by rfl⟩
set_option maxRecDepth 100000 in
theorem tw_1066 : (Jvm.Cond.static ({ cls := "PancakePortModel", name := "batterOf", desc := "(I)I" } : Jvm.MethodName)) ∈ mWS := List.mem_filter.mpr ⟨List.mem_of_getElem? (i := 1066) (by rfl), by rfl⟩
set_option maxRecDepth 100000 in
theorem tw_1067 : (Jvm.Cond.code ({ cls := "PancakePortModel", name := "batterOf", desc := "(I)I" } : Jvm.MethodName) prog_13_method_25_code (1 : Nat) (Option.some Jvm.ClassFile.FieldType.int)) ∈ mWS := List.mem_filter.mpr ⟨List.mem_of_getElem? (i := 1067) (by rfl), by rfl⟩
set_option maxRecDepth 100000 in
theorem tw_1068 : (Jvm.Cond.methodLink "PancakePortModel" (197 : Nat) ({ cls := "PancakePortModel", name := "mostOf", desc := "(II)I" } : Jvm.MethodName)) ∈ mWS := List.mem_filter.mpr ⟨List.mem_of_getElem? (i := 1068) (by rfl), by rfl⟩
set_option maxRecDepth 100000 in
theorem tw_1070 : (Jvm.Cond.instanceMethod ({ cls := "PancakePortModel", name := "mostOf", desc := "(II)I" } : Jvm.MethodName)) ∈ mWS := List.mem_filter.mpr ⟨List.mem_of_getElem? (i := 1070) (by rfl), by rfl⟩
set_option maxRecDepth 100000 in
theorem tw_1071 : (Jvm.Cond.code ({ cls := "PancakePortModel", name := "mostOf", desc := "(II)I" } : Jvm.MethodName) prog_13_method_34_code (7 : Nat) (Option.some Jvm.ClassFile.FieldType.int)) ∈ mWS := List.mem_filter.mpr ⟨List.mem_of_getElem? (i := 1071) (by rfl), by rfl⟩
set_option maxRecDepth 100000 in
theorem tw_1072 : (Jvm.Cond.methodLink "PancakePortModel" (188 : Nat) ({ cls := "PancakePortModel", name := "open", desc := "()I" } : Jvm.MethodName)) ∈ mWS := List.mem_filter.mpr ⟨List.mem_of_getElem? (i := 1072) (by rfl), by rfl⟩
set_option maxRecDepth 100000 in
theorem tw_1074 : (Jvm.Cond.instanceMethod ({ cls := "PancakePortModel", name := "open", desc := "()I" } : Jvm.MethodName)) ∈ mWS := List.mem_filter.mpr ⟨List.mem_of_getElem? (i := 1074) (by rfl), by rfl⟩
set_option maxRecDepth 100000 in
theorem tw_1075 : (Jvm.Cond.code ({ cls := "PancakePortModel", name := "open", desc := "()I" } : Jvm.MethodName) prog_13_method_26_code (3 : Nat) (Option.some Jvm.ClassFile.FieldType.int)) ∈ mWS := List.mem_filter.mpr ⟨List.mem_of_getElem? (i := 1075) (by rfl), by rfl⟩
set_option maxRecDepth 100000 in
theorem tw_1076 : (Jvm.Cond.methodLink "PancakePortModel" (191 : Nat) ({ cls := "PancakePortModel", name := "ones", desc := "(I)I" } : Jvm.MethodName)) ∈ mWS := List.mem_filter.mpr ⟨List.mem_of_getElem? (i := 1076) (by rfl), by rfl⟩
set_option maxRecDepth 100000 in
theorem tw_1077 : (Jvm.Cond.static ({ cls := "PancakePortModel", name := "ones", desc := "(I)I" } : Jvm.MethodName)) ∈ mWS := List.mem_filter.mpr ⟨List.mem_of_getElem? (i := 1077) (by rfl), by rfl⟩
set_option maxRecDepth 100000 in
theorem tw_1078 : (Jvm.Cond.code ({ cls := "PancakePortModel", name := "ones", desc := "(I)I" } : Jvm.MethodName) prog_13_method_24_code (3 : Nat) (Option.some Jvm.ClassFile.FieldType.int)) ∈ mWS := List.mem_filter.mpr ⟨List.mem_of_getElem? (i := 1078) (by rfl), by rfl⟩
set_option maxRecDepth 100000 in
theorem tw_1079 : (Jvm.Cond.methodLink "PancakePortModel" (200 : Nat) ({ cls := "PancakePortModel", name := "turnsOf", desc := "(I)I" } : Jvm.MethodName)) ∈ mWS := List.mem_filter.mpr ⟨List.mem_of_getElem? (i := 1079) (by rfl), by rfl⟩
set_option maxRecDepth 100000 in
theorem tw_1081 : (Jvm.Cond.instanceMethod ({ cls := "PancakePortModel", name := "turnsOf", desc := "(I)I" } : Jvm.MethodName)) ∈ mWS := List.mem_filter.mpr ⟨List.mem_of_getElem? (i := 1081) (by rfl), by rfl⟩
set_option maxRecDepth 100000 in
theorem tw_1082 : (Jvm.Cond.code ({ cls := "PancakePortModel", name := "turnsOf", desc := "(I)I" } : Jvm.MethodName) prog_13_method_57_code (6 : Nat) (Option.some Jvm.ClassFile.FieldType.int)) ∈ mWS := List.mem_filter.mpr ⟨List.mem_of_getElem? (i := 1082) (by rfl), by rfl⟩
set_option maxRecDepth 100000 in
theorem tw_1083 : (Jvm.Cond.methodLink "PancakePortModel" (246 : Nat) ({ cls := "PancakePortModel", name := "columnBy", desc := "(II)I" } : Jvm.MethodName)) ∈ mWS := List.mem_filter.mpr ⟨List.mem_of_getElem? (i := 1083) (by rfl), by rfl⟩
set_option maxRecDepth 100000 in
theorem tw_1084 : (Jvm.Cond.static ({ cls := "PancakePortModel", name := "columnBy", desc := "(II)I" } : Jvm.MethodName)) ∈ mWS := List.mem_filter.mpr ⟨List.mem_of_getElem? (i := 1084) (by rfl), by rfl⟩
set_option maxRecDepth 100000 in
theorem tw_1085 : (Jvm.Cond.code ({ cls := "PancakePortModel", name := "columnBy", desc := "(II)I" } : Jvm.MethodName) prog_13_method_56_code (3 : Nat) (Option.some Jvm.ClassFile.FieldType.int)) ∈ mWS := List.mem_filter.mpr ⟨List.mem_of_getElem? (i := 1085) (by rfl), by rfl⟩
set_option maxRecDepth 100000 in
theorem tw_1086 : (Jvm.Cond.methodLink "PancakePortModel" (203 : Nat) ({ cls := "PancakePortModel", name := "aimOf", desc := "(I)I" } : Jvm.MethodName)) ∈ mWS := List.mem_filter.mpr ⟨List.mem_of_getElem? (i := 1086) (by rfl), by rfl⟩
set_option maxRecDepth 100000 in
theorem tw_1088 : (Jvm.Cond.instanceMethod ({ cls := "PancakePortModel", name := "aimOf", desc := "(I)I" } : Jvm.MethodName)) ∈ mWS := List.mem_filter.mpr ⟨List.mem_of_getElem? (i := 1088) (by rfl), by rfl⟩
set_option maxRecDepth 100000 in
theorem tw_1089 : (Jvm.Cond.code ({ cls := "PancakePortModel", name := "aimOf", desc := "(I)I" } : Jvm.MethodName) prog_13_method_58_code (10 : Nat) (Option.some Jvm.ClassFile.FieldType.int)) ∈ mWS := List.mem_filter.mpr ⟨List.mem_of_getElem? (i := 1089) (by rfl), by rfl⟩
set_option maxRecDepth 100000 in
theorem tw_1090 : (Jvm.Cond.methodLink "PancakePortLaw" (43 : Nat) ({ cls := "PancakePortModel", name := "as", desc := "(II)I" } : Jvm.MethodName)) ∈ mWS := List.mem_filter.mpr ⟨List.mem_of_getElem? (i := 1090) (by rfl), by rfl⟩
set_option maxRecDepth 100000 in
theorem tw_1091 : (Jvm.Cond.instanceMethod ({ cls := "PancakePortModel", name := "as", desc := "(II)I" } : Jvm.MethodName)) ∈ mWS := List.mem_filter.mpr ⟨List.mem_of_getElem? (i := 1091) (by rfl), by rfl⟩
set_option maxRecDepth 100000 in
theorem tw_1092 : (Jvm.Cond.selects "PancakePortModel" ({ cls := "PancakePortModel", name := "as", desc := "(II)I" } : Jvm.MethodName) ({ cls := "PancakePortModel", name := "as", desc := "(II)I" } : Jvm.MethodName)) ∈ mWS := List.mem_filter.mpr ⟨List.mem_of_getElem? (i := 1092) (by rfl), by rfl⟩
set_option maxRecDepth 100000 in
theorem tw_1093 : (Jvm.Cond.code ({ cls := "PancakePortModel", name := "as", desc := "(II)I" } : Jvm.MethodName) prog_13_method_37_code (4 : Nat) (Option.some Jvm.ClassFile.FieldType.int)) ∈ mWS := List.mem_filter.mpr ⟨List.mem_of_getElem? (i := 1093) (by rfl), by rfl⟩
set_option maxRecDepth 100000 in
theorem tw_1094 : (Jvm.Cond.constantLong "PancakePortModel" (209 : Nat) (4 : Int64)) ∈ mWS := List.mem_filter.mpr ⟨List.mem_of_getElem? (i := 1094) (by rfl), by rfl⟩
set_option maxRecDepth 100000 in
theorem tw_1095 : (Jvm.Cond.methodLink "PancakePortLaw" (55 : Nat) ({ cls := "PancakePortModel", name := "toss", desc := "(II)I" } : Jvm.MethodName)) ∈ mWS := List.mem_filter.mpr ⟨List.mem_of_getElem? (i := 1095) (by rfl), by rfl⟩
set_option maxRecDepth 100000 in
theorem tw_1096 : (Jvm.Cond.instanceMethod ({ cls := "PancakePortModel", name := "toss", desc := "(II)I" } : Jvm.MethodName)) ∈ mWS := List.mem_filter.mpr ⟨List.mem_of_getElem? (i := 1096) (by rfl), by rfl⟩
set_option maxRecDepth 100000 in
theorem tw_1097 : (Jvm.Cond.selects "PancakePortModel" ({ cls := "PancakePortModel", name := "toss", desc := "(II)I" } : Jvm.MethodName) ({ cls := "PancakePortModel", name := "toss", desc := "(II)I" } : Jvm.MethodName)) ∈ mWS := List.mem_filter.mpr ⟨List.mem_of_getElem? (i := 1097) (by rfl), by rfl⟩
set_option maxRecDepth 100000 in
theorem tw_1098 : (Jvm.Cond.code ({ cls := "PancakePortModel", name := "toss", desc := "(II)I" } : Jvm.MethodName) prog_13_method_38_code (5 : Nat) (Option.some Jvm.ClassFile.FieldType.int)) ∈ mWS := List.mem_filter.mpr ⟨List.mem_of_getElem? (i := 1098) (by rfl), by rfl⟩
set_option maxRecDepth 100000 in
theorem tw_1099 : (Jvm.Cond.methodLink "PancakePortLaw" (59 : Nat) ({ cls := "PancakePortModel", name := "wind", desc := "(I)I" } : Jvm.MethodName)) ∈ mWS := List.mem_filter.mpr ⟨List.mem_of_getElem? (i := 1099) (by rfl), by rfl⟩
set_option maxRecDepth 100000 in
theorem tw_1100 : (Jvm.Cond.instanceMethod ({ cls := "PancakePortModel", name := "wind", desc := "(I)I" } : Jvm.MethodName)) ∈ mWS := List.mem_filter.mpr ⟨List.mem_of_getElem? (i := 1100) (by rfl), by rfl⟩
set_option maxRecDepth 100000 in
theorem tw_1101 : (Jvm.Cond.selects "PancakePortModel" ({ cls := "PancakePortModel", name := "wind", desc := "(I)I" } : Jvm.MethodName) ({ cls := "PancakePortModel", name := "wind", desc := "(I)I" } : Jvm.MethodName)) ∈ mWS := List.mem_filter.mpr ⟨List.mem_of_getElem? (i := 1101) (by rfl), by rfl⟩
set_option maxRecDepth 100000 in
theorem tw_1102 : (Jvm.Cond.code ({ cls := "PancakePortModel", name := "wind", desc := "(I)I" } : Jvm.MethodName) prog_13_method_39_code (3 : Nat) (Option.some Jvm.ClassFile.FieldType.int)) ∈ mWS := List.mem_filter.mpr ⟨List.mem_of_getElem? (i := 1102) (by rfl), by rfl⟩
set_option maxRecDepth 100000 in
theorem tw_1103 : (Jvm.Cond.constantLong "PancakePortModel" (211 : Nat) (-1 : Int64)) ∈ mWS := List.mem_filter.mpr ⟨List.mem_of_getElem? (i := 1103) (by rfl), by rfl⟩
set_option maxRecDepth 100000 in
theorem tw_1104 : (Jvm.Cond.methodLink "PancakePortModel" (213 : Nat) ({ cls := "PancakePortModel", name := "lacks", desc := "()Z" } : Jvm.MethodName)) ∈ mWS := List.mem_filter.mpr ⟨List.mem_of_getElem? (i := 1104) (by rfl), by rfl⟩
set_option maxRecDepth 100000 in
theorem tw_1106 : (Jvm.Cond.instanceMethod ({ cls := "PancakePortModel", name := "lacks", desc := "()Z" } : Jvm.MethodName)) ∈ mWS := List.mem_filter.mpr ⟨List.mem_of_getElem? (i := 1106) (by rfl), by rfl⟩
set_option maxRecDepth 100000 in
theorem tw_1107 : (Jvm.Cond.code ({ cls := "PancakePortModel", name := "lacks", desc := "()Z" } : Jvm.MethodName) prog_13_method_14_code (1 : Nat) (Option.some Jvm.ClassFile.FieldType.boolean)) ∈ mWS := List.mem_filter.mpr ⟨List.mem_of_getElem? (i := 1107) (by rfl), by rfl⟩
set_option maxRecDepth 100000 in
theorem tw_1108 : (Jvm.Cond.methodLink "PancakePortLaw" (63 : Nat) ({ cls := "PancakePortModel", name := "morning", desc := "()I" } : Jvm.MethodName)) ∈ mWS := List.mem_filter.mpr ⟨List.mem_of_getElem? (i := 1108) (by rfl), by rfl⟩
set_option maxRecDepth 100000 in
theorem tw_1109 : (Jvm.Cond.instanceMethod ({ cls := "PancakePortModel", name := "morning", desc := "()I" } : Jvm.MethodName)) ∈ mWS := List.mem_filter.mpr ⟨List.mem_of_getElem? (i := 1109) (by rfl), by rfl⟩
set_option maxRecDepth 100000 in
theorem tw_1110 : (Jvm.Cond.selects "PancakePortModel" ({ cls := "PancakePortModel", name := "morning", desc := "()I" } : Jvm.MethodName) ({ cls := "PancakePortModel", name := "morning", desc := "()I" } : Jvm.MethodName)) ∈ mWS := List.mem_filter.mpr ⟨List.mem_of_getElem? (i := 1110) (by rfl), by rfl⟩
set_option maxRecDepth 100000 in
theorem tw_1111 : (Jvm.Cond.code ({ cls := "PancakePortModel", name := "morning", desc := "()I" } : Jvm.MethodName) prog_13_method_40_code (3 : Nat) (Option.some Jvm.ClassFile.FieldType.int)) ∈ mWS := List.mem_filter.mpr ⟨List.mem_of_getElem? (i := 1111) (by rfl), by rfl⟩
set_option maxRecDepth 100000 in
theorem tw_1112 : (Jvm.Cond.methodLink "PancakePortLaw" (67 : Nat) ({ cls := "PancakePortModel", name := "move", desc := "(II)I" } : Jvm.MethodName)) ∈ mWS := List.mem_filter.mpr ⟨List.mem_of_getElem? (i := 1112) (by rfl), by rfl⟩
set_option maxRecDepth 100000 in
theorem tw_1113 : (Jvm.Cond.instanceMethod ({ cls := "PancakePortModel", name := "move", desc := "(II)I" } : Jvm.MethodName)) ∈ mWS := List.mem_filter.mpr ⟨List.mem_of_getElem? (i := 1113) (by rfl), by rfl⟩
set_option maxRecDepth 100000 in
theorem tw_1114 : (Jvm.Cond.selects "PancakePortModel" ({ cls := "PancakePortModel", name := "move", desc := "(II)I" } : Jvm.MethodName) ({ cls := "PancakePortModel", name := "move", desc := "(II)I" } : Jvm.MethodName)) ∈ mWS := List.mem_filter.mpr ⟨List.mem_of_getElem? (i := 1114) (by rfl), by rfl⟩
set_option maxRecDepth 100000 in
theorem tw_1115 : (Jvm.Cond.code ({ cls := "PancakePortModel", name := "move", desc := "(II)I" } : Jvm.MethodName) prog_13_method_41_code (4 : Nat) (Option.some Jvm.ClassFile.FieldType.int)) ∈ mWS := List.mem_filter.mpr ⟨List.mem_of_getElem? (i := 1115) (by rfl), by rfl⟩
set_option maxRecDepth 100000 in
theorem tw_1116 : (Jvm.Cond.methodLink "PancakePortLaw" (72 : Nat) ({ cls := "PancakePortModel", name := "train", desc := "(III)I" } : Jvm.MethodName)) ∈ mWS := List.mem_filter.mpr ⟨List.mem_of_getElem? (i := 1116) (by rfl), by rfl⟩
set_option maxRecDepth 100000 in
theorem tw_1117 : (Jvm.Cond.instanceMethod ({ cls := "PancakePortModel", name := "train", desc := "(III)I" } : Jvm.MethodName)) ∈ mWS := List.mem_filter.mpr ⟨List.mem_of_getElem? (i := 1117) (by rfl), by rfl⟩
set_option maxRecDepth 100000 in
theorem tw_1118 : (Jvm.Cond.selects "PancakePortModel" ({ cls := "PancakePortModel", name := "train", desc := "(III)I" } : Jvm.MethodName) ({ cls := "PancakePortModel", name := "train", desc := "(III)I" } : Jvm.MethodName)) ∈ mWS := List.mem_filter.mpr ⟨List.mem_of_getElem? (i := 1118) (by rfl), by rfl⟩
set_option maxRecDepth 100000 in
theorem tw_1119 : (Jvm.Cond.code ({ cls := "PancakePortModel", name := "train", desc := "(III)I" } : Jvm.MethodName) prog_13_method_42_code (5 : Nat) (Option.some Jvm.ClassFile.FieldType.int)) ∈ mWS := List.mem_filter.mpr ⟨List.mem_of_getElem? (i := 1119) (by rfl), by rfl⟩
set_option maxRecDepth 100000 in
theorem tw_1120 : (Jvm.Cond.methodLink "PancakePortLaw" (76 : Nat) ({ cls := "PancakePortModel", name := "stir", desc := "(I)I" } : Jvm.MethodName)) ∈ mWS := List.mem_filter.mpr ⟨List.mem_of_getElem? (i := 1120) (by rfl), by rfl⟩
set_option maxRecDepth 100000 in
theorem tw_1121 : (Jvm.Cond.instanceMethod ({ cls := "PancakePortModel", name := "stir", desc := "(I)I" } : Jvm.MethodName)) ∈ mWS := List.mem_filter.mpr ⟨List.mem_of_getElem? (i := 1121) (by rfl), by rfl⟩
set_option maxRecDepth 100000 in
theorem tw_1122 : (Jvm.Cond.selects "PancakePortModel" ({ cls := "PancakePortModel", name := "stir", desc := "(I)I" } : Jvm.MethodName) ({ cls := "PancakePortModel", name := "stir", desc := "(I)I" } : Jvm.MethodName)) ∈ mWS := List.mem_filter.mpr ⟨List.mem_of_getElem? (i := 1122) (by rfl), by rfl⟩
set_option maxRecDepth 100000 in
theorem tw_1123 : (Jvm.Cond.code ({ cls := "PancakePortModel", name := "stir", desc := "(I)I" } : Jvm.MethodName) prog_13_method_43_code (2 : Nat) (Option.some Jvm.ClassFile.FieldType.int)) ∈ mWS := List.mem_filter.mpr ⟨List.mem_of_getElem? (i := 1123) (by rfl), by rfl⟩
set_option maxRecDepth 100000 in
theorem tw_1124 : (Jvm.Cond.constantLong "PancakePortModel" (217 : Nat) (60 : Int64)) ∈ mWS := List.mem_filter.mpr ⟨List.mem_of_getElem? (i := 1124) (by rfl), by rfl⟩
set_option maxRecDepth 100000 in
theorem tw_1125 : (Jvm.Cond.methodLink "PancakePortLaw" (80 : Nat) ({ cls := "PancakePortModel", name := "all", desc := "(I)I" } : Jvm.MethodName)) ∈ mWS := List.mem_filter.mpr ⟨List.mem_of_getElem? (i := 1125) (by rfl), by rfl⟩
set_option maxRecDepth 100000 in
theorem tw_1126 : (Jvm.Cond.instanceMethod ({ cls := "PancakePortModel", name := "all", desc := "(I)I" } : Jvm.MethodName)) ∈ mWS := List.mem_filter.mpr ⟨List.mem_of_getElem? (i := 1126) (by rfl), by rfl⟩
set_option maxRecDepth 100000 in
theorem tw_1127 : (Jvm.Cond.selects "PancakePortModel" ({ cls := "PancakePortModel", name := "all", desc := "(I)I" } : Jvm.MethodName) ({ cls := "PancakePortModel", name := "all", desc := "(I)I" } : Jvm.MethodName)) ∈ mWS := List.mem_filter.mpr ⟨List.mem_of_getElem? (i := 1127) (by rfl), by rfl⟩
set_option maxRecDepth 100000 in
theorem tw_1128 : (Jvm.Cond.code ({ cls := "PancakePortModel", name := "all", desc := "(I)I" } : Jvm.MethodName) prog_13_method_48_code (2 : Nat) (Option.some Jvm.ClassFile.FieldType.int)) ∈ mWS := List.mem_filter.mpr ⟨List.mem_of_getElem? (i := 1128) (by rfl), by rfl⟩
set_option maxRecDepth 100000 in
theorem tw_1129 : (Jvm.Cond.constantLong "PancakePortModel" (233 : Nat) (10 : Int64)) ∈ mWS := List.mem_filter.mpr ⟨List.mem_of_getElem? (i := 1129) (by rfl), by rfl⟩
set_option maxRecDepth 100000 in
theorem tw_1130 : (Jvm.Cond.constantLong "PancakePortModel" (235 : Nat) (15 : Int64)) ∈ mWS := List.mem_filter.mpr ⟨List.mem_of_getElem? (i := 1130) (by rfl), by rfl⟩
set_option maxRecDepth 100000 in
theorem tw_1131 : (Jvm.Cond.methodLink "PancakePortModel" (237 : Nat) ({ cls := "PancakePortModel", name := "allOf", desc := "(I)I" } : Jvm.MethodName)) ∈ mWS := List.mem_filter.mpr ⟨List.mem_of_getElem? (i := 1131) (by rfl), by rfl⟩
set_option maxRecDepth 100000 in
theorem tw_1133 : (Jvm.Cond.instanceMethod ({ cls := "PancakePortModel", name := "allOf", desc := "(I)I" } : Jvm.MethodName)) ∈ mWS := List.mem_filter.mpr ⟨List.mem_of_getElem? (i := 1133) (by rfl), by rfl⟩
set_option maxRecDepth 100000 in
theorem tw_1134 : (Jvm.Cond.code ({ cls := "PancakePortModel", name := "allOf", desc := "(I)I" } : Jvm.MethodName) prog_13_method_47_code (3 : Nat) (Option.some Jvm.ClassFile.FieldType.int)) ∈ mWS := List.mem_filter.mpr ⟨List.mem_of_getElem? (i := 1134) (by rfl), by rfl⟩
set_option maxRecDepth 100000 in
theorem tw_1135 : (Jvm.Cond.methodLink "PancakePortModel" (226 : Nat) ({ cls := "PancakePortModel", name := "layLeast", desc := "()V" } : Jvm.MethodName)) ∈ mWS := List.mem_filter.mpr ⟨List.mem_of_getElem? (i := 1135) (by rfl), by rfl⟩
set_option maxRecDepth 100000 in
theorem tw_1137 : (Jvm.Cond.instanceMethod ({ cls := "PancakePortModel", name := "layLeast", desc := "()V" } : Jvm.MethodName)) ∈ mWS := List.mem_filter.mpr ⟨List.mem_of_getElem? (i := 1137) (by rfl), by rfl⟩
set_option maxRecDepth 100000 in
theorem tw_1138 : (Jvm.Cond.code ({ cls := "PancakePortModel", name := "layLeast", desc := "()V" } : Jvm.MethodName) prog_13_method_45_code (6 : Nat) (Option.none : Option Jvm.ClassFile.FieldType)) ∈ mWS := List.mem_filter.mpr ⟨List.mem_of_getElem? (i := 1138) (by rfl), by rfl⟩
set_option maxRecDepth 100000 in
theorem tw_1139 : (Jvm.Cond.constant "PancakePortModel" (219 : Nat) (1000000 : Int32)) ∈ mWS := List.mem_filter.mpr ⟨List.mem_of_getElem? (i := 1139) (by rfl), by rfl⟩
set_option maxRecDepth 100000 in
theorem tw_1140 : (Jvm.Cond.methodLink "PancakePortModel" (220 : Nat) ({ cls := "PancakePortModel", name := "priceOf", desc := "(I)I" } : Jvm.MethodName)) ∈ mWS := List.mem_filter.mpr ⟨List.mem_of_getElem? (i := 1140) (by rfl), by rfl⟩
set_option maxRecDepth 100000 in
theorem tw_1142 : (Jvm.Cond.instanceMethod ({ cls := "PancakePortModel", name := "priceOf", desc := "(I)I" } : Jvm.MethodName)) ∈ mWS := List.mem_filter.mpr ⟨List.mem_of_getElem? (i := 1142) (by rfl), by rfl⟩
set_option maxRecDepth 100000 in
theorem tw_1143 : (Jvm.Cond.code ({ cls := "PancakePortModel", name := "priceOf", desc := "(I)I" } : Jvm.MethodName) prog_13_method_44_code (2 : Nat) (Option.some Jvm.ClassFile.FieldType.int)) ∈ mWS := List.mem_filter.mpr ⟨List.mem_of_getElem? (i := 1143) (by rfl), by rfl⟩
set_option maxRecDepth 100000 in
theorem tw_1144 : (Jvm.Cond.methodLink "PancakePortModel" (229 : Nat) ({ cls := "PancakePortModel", name := "layRow", desc := "(I)V" } : Jvm.MethodName)) ∈ mWS := List.mem_filter.mpr ⟨List.mem_of_getElem? (i := 1144) (by rfl), by rfl⟩
set_option maxRecDepth 100000 in
theorem tw_1146 : (Jvm.Cond.instanceMethod ({ cls := "PancakePortModel", name := "layRow", desc := "(I)V" } : Jvm.MethodName)) ∈ mWS := List.mem_filter.mpr ⟨List.mem_of_getElem? (i := 1146) (by rfl), by rfl⟩
set_option maxRecDepth 100000 in
theorem tw_1147 : (Jvm.Cond.code ({ cls := "PancakePortModel", name := "layRow", desc := "(I)V" } : Jvm.MethodName) prog_13_method_46_code (5 : Nat) (Option.none : Option Jvm.ClassFile.FieldType)) ∈ mWS := List.mem_filter.mpr ⟨List.mem_of_getElem? (i := 1147) (by rfl), by rfl⟩
set_option maxRecDepth 100000 in
theorem tw_1148 : (Jvm.Cond.methodLink "PancakePortLaw" (84 : Nat) ({ cls := "PancakePortModel", name := "nights", desc := "()I" } : Jvm.MethodName)) ∈ mWS := List.mem_filter.mpr ⟨List.mem_of_getElem? (i := 1148) (by rfl), by rfl⟩
set_option maxRecDepth 100000 in
theorem tw_1149 : (Jvm.Cond.instanceMethod ({ cls := "PancakePortModel", name := "nights", desc := "()I" } : Jvm.MethodName)) ∈ mWS := List.mem_filter.mpr ⟨List.mem_of_getElem? (i := 1149) (by rfl), by rfl⟩
set_option maxRecDepth 100000 in
theorem tw_1150 : (Jvm.Cond.selects "PancakePortModel" ({ cls := "PancakePortModel", name := "nights", desc := "()I" } : Jvm.MethodName) ({ cls := "PancakePortModel", name := "nights", desc := "()I" } : Jvm.MethodName)) ∈ mWS := List.mem_filter.mpr ⟨List.mem_of_getElem? (i := 1150) (by rfl), by rfl⟩
set_option maxRecDepth 100000 in
theorem tw_1151 : (Jvm.Cond.code ({ cls := "PancakePortModel", name := "nights", desc := "()I" } : Jvm.MethodName) prog_13_method_50_code (1 : Nat) (Option.some Jvm.ClassFile.FieldType.int)) ∈ mWS := List.mem_filter.mpr ⟨List.mem_of_getElem? (i := 1151) (by rfl), by rfl⟩
set_option maxRecDepth 100000 in
theorem tw_1152 : (Jvm.Cond.methodLink "PancakePortModel" (240 : Nat) ({ cls := "PancakePortModel", name := "nightsOf", desc := "()I" } : Jvm.MethodName)) ∈ mWS := List.mem_filter.mpr ⟨List.mem_of_getElem? (i := 1152) (by rfl), by rfl⟩
set_option maxRecDepth 100000 in
theorem tw_1154 : (Jvm.Cond.instanceMethod ({ cls := "PancakePortModel", name := "nightsOf", desc := "()I" } : Jvm.MethodName)) ∈ mWS := List.mem_filter.mpr ⟨List.mem_of_getElem? (i := 1154) (by rfl), by rfl⟩
set_option maxRecDepth 100000 in
theorem tw_1155 : (Jvm.Cond.code ({ cls := "PancakePortModel", name := "nightsOf", desc := "()I" } : Jvm.MethodName) prog_13_method_49_code (2 : Nat) (Option.some Jvm.ClassFile.FieldType.int)) ∈ mWS := List.mem_filter.mpr ⟨List.mem_of_getElem? (i := 1155) (by rfl), by rfl⟩
set_option maxRecDepth 100000 in
theorem tw_1156 : (Jvm.Cond.methodLink "PancakePortLaw" (88 : Nat) ({ cls := "PancakePortModel", name := "odds", desc := "(III)I" } : Jvm.MethodName)) ∈ mWS := List.mem_filter.mpr ⟨List.mem_of_getElem? (i := 1156) (by rfl), by rfl⟩
set_option maxRecDepth 100000 in
theorem tw_1157 : (Jvm.Cond.instanceMethod ({ cls := "PancakePortModel", name := "odds", desc := "(III)I" } : Jvm.MethodName)) ∈ mWS := List.mem_filter.mpr ⟨List.mem_of_getElem? (i := 1157) (by rfl), by rfl⟩
set_option maxRecDepth 100000 in
theorem tw_1158 : (Jvm.Cond.selects "PancakePortModel" ({ cls := "PancakePortModel", name := "odds", desc := "(III)I" } : Jvm.MethodName) ({ cls := "PancakePortModel", name := "odds", desc := "(III)I" } : Jvm.MethodName)) ∈ mWS := List.mem_filter.mpr ⟨List.mem_of_getElem? (i := 1158) (by rfl), by rfl⟩
set_option maxRecDepth 100000 in
theorem tw_1159 : (Jvm.Cond.code ({ cls := "PancakePortModel", name := "odds", desc := "(III)I" } : Jvm.MethodName) prog_13_method_51_code (6 : Nat) (Option.some Jvm.ClassFile.FieldType.int)) ∈ mWS := List.mem_filter.mpr ⟨List.mem_of_getElem? (i := 1159) (by rfl), by rfl⟩
set_option maxRecDepth 100000 in
theorem tw_1160 : (Jvm.Cond.methodLink "PancakePortLaw" (92 : Nat) ({ cls := "PancakePortModel", name := "who", desc := "(I)I" } : Jvm.MethodName)) ∈ mWS := List.mem_filter.mpr ⟨List.mem_of_getElem? (i := 1160) (by rfl), by rfl⟩
set_option maxRecDepth 100000 in
theorem tw_1161 : (Jvm.Cond.instanceMethod ({ cls := "PancakePortModel", name := "who", desc := "(I)I" } : Jvm.MethodName)) ∈ mWS := List.mem_filter.mpr ⟨List.mem_of_getElem? (i := 1161) (by rfl), by rfl⟩
set_option maxRecDepth 100000 in
theorem tw_1162 : (Jvm.Cond.selects "PancakePortModel" ({ cls := "PancakePortModel", name := "who", desc := "(I)I" } : Jvm.MethodName) ({ cls := "PancakePortModel", name := "who", desc := "(I)I" } : Jvm.MethodName)) ∈ mWS := List.mem_filter.mpr ⟨List.mem_of_getElem? (i := 1162) (by rfl), by rfl⟩
set_option maxRecDepth 100000 in
theorem tw_1163 : (Jvm.Cond.code ({ cls := "PancakePortModel", name := "who", desc := "(I)I" } : Jvm.MethodName) prog_13_method_53_code (2 : Nat) (Option.some Jvm.ClassFile.FieldType.int)) ∈ mWS := List.mem_filter.mpr ⟨List.mem_of_getElem? (i := 1163) (by rfl), by rfl⟩
set_option maxRecDepth 100000 in
theorem tw_1164 : (Jvm.Cond.methodLink "PancakePortModel" (243 : Nat) ({ cls := "PancakePortModel", name := "whoOf", desc := "(I)I" } : Jvm.MethodName)) ∈ mWS := List.mem_filter.mpr ⟨List.mem_of_getElem? (i := 1164) (by rfl), by rfl⟩
set_option maxRecDepth 100000 in
theorem tw_1166 : (Jvm.Cond.instanceMethod ({ cls := "PancakePortModel", name := "whoOf", desc := "(I)I" } : Jvm.MethodName)) ∈ mWS := List.mem_filter.mpr ⟨List.mem_of_getElem? (i := 1166) (by rfl), by rfl⟩
set_option maxRecDepth 100000 in
theorem tw_1167 : (Jvm.Cond.code ({ cls := "PancakePortModel", name := "whoOf", desc := "(I)I" } : Jvm.MethodName) prog_13_method_52_code (5 : Nat) (Option.some Jvm.ClassFile.FieldType.int)) ∈ mWS := List.mem_filter.mpr ⟨List.mem_of_getElem? (i := 1167) (by rfl), by rfl⟩
set_option maxRecDepth 100000 in
theorem tw_1168 : (Jvm.Cond.methodLink "PancakePortLaw" (96 : Nat) ({ cls := "PancakePortModel", name := "see", desc := "(III)I" } : Jvm.MethodName)) ∈ mWS := List.mem_filter.mpr ⟨List.mem_of_getElem? (i := 1168) (by rfl), by rfl⟩
set_option maxRecDepth 100000 in
theorem tw_1169 : (Jvm.Cond.instanceMethod ({ cls := "PancakePortModel", name := "see", desc := "(III)I" } : Jvm.MethodName)) ∈ mWS := List.mem_filter.mpr ⟨List.mem_of_getElem? (i := 1169) (by rfl), by rfl⟩
set_option maxRecDepth 100000 in
theorem tw_1170 : (Jvm.Cond.selects "PancakePortModel" ({ cls := "PancakePortModel", name := "see", desc := "(III)I" } : Jvm.MethodName) ({ cls := "PancakePortModel", name := "see", desc := "(III)I" } : Jvm.MethodName)) ∈ mWS := List.mem_filter.mpr ⟨List.mem_of_getElem? (i := 1170) (by rfl), by rfl⟩
set_option maxRecDepth 100000 in
theorem tw_1171 : (Jvm.Cond.code ({ cls := "PancakePortModel", name := "see", desc := "(III)I" } : Jvm.MethodName) prog_13_method_54_code (4 : Nat) (Option.some Jvm.ClassFile.FieldType.int)) ∈ mWS := List.mem_filter.mpr ⟨List.mem_of_getElem? (i := 1171) (by rfl), by rfl⟩
set_option maxRecDepth 100000 in
theorem tw_1172 : (Jvm.Cond.methodLink "PancakePortLaw" (100 : Nat) ({ cls := "PancakePortModel", name := "forget", desc := "()I" } : Jvm.MethodName)) ∈ mWS := List.mem_filter.mpr ⟨List.mem_of_getElem? (i := 1172) (by rfl), by rfl⟩
set_option maxRecDepth 100000 in
theorem tw_1173 : (Jvm.Cond.instanceMethod ({ cls := "PancakePortModel", name := "forget", desc := "()I" } : Jvm.MethodName)) ∈ mWS := List.mem_filter.mpr ⟨List.mem_of_getElem? (i := 1173) (by rfl), by rfl⟩
set_option maxRecDepth 100000 in
theorem tw_1174 : (Jvm.Cond.selects "PancakePortModel" ({ cls := "PancakePortModel", name := "forget", desc := "()I" } : Jvm.MethodName) ({ cls := "PancakePortModel", name := "forget", desc := "()I" } : Jvm.MethodName)) ∈ mWS := List.mem_filter.mpr ⟨List.mem_of_getElem? (i := 1174) (by rfl), by rfl⟩
set_option maxRecDepth 100000 in
theorem tw_1175 : (Jvm.Cond.code ({ cls := "PancakePortModel", name := "forget", desc := "()I" } : Jvm.MethodName) prog_13_method_55_code (2 : Nat) (Option.some Jvm.ClassFile.FieldType.int)) ∈ mWS := List.mem_filter.mpr ⟨List.mem_of_getElem? (i := 1175) (by rfl), by rfl⟩
set_option maxRecDepth 100000 in
theorem tw_1176 : (Jvm.Cond.methodLink "PancakePortLaw" (104 : Nat) ({ cls := "PancakePortModel", name := "seasons", desc := "(III)I" } : Jvm.MethodName)) ∈ mWS := List.mem_filter.mpr ⟨List.mem_of_getElem? (i := 1176) (by rfl), by rfl⟩
set_option maxRecDepth 100000 in
theorem tw_1177 : (Jvm.Cond.instanceMethod ({ cls := "PancakePortModel", name := "seasons", desc := "(III)I" } : Jvm.MethodName)) ∈ mWS := List.mem_filter.mpr ⟨List.mem_of_getElem? (i := 1177) (by rfl), by rfl⟩
set_option maxRecDepth 100000 in
theorem tw_1178 : (Jvm.Cond.selects "PancakePortModel" ({ cls := "PancakePortModel", name := "seasons", desc := "(III)I" } : Jvm.MethodName) ({ cls := "PancakePortModel", name := "seasons", desc := "(III)I" } : Jvm.MethodName)) ∈ mWS := List.mem_filter.mpr ⟨List.mem_of_getElem? (i := 1178) (by rfl), by rfl⟩
set_option maxRecDepth 100000 in
theorem tw_1179 : (Jvm.Cond.code ({ cls := "PancakePortModel", name := "seasons", desc := "(III)I" } : Jvm.MethodName) prog_13_method_60_code (10 : Nat) (Option.some Jvm.ClassFile.FieldType.int)) ∈ mWS := List.mem_filter.mpr ⟨List.mem_of_getElem? (i := 1179) (by rfl), by rfl⟩
set_option maxRecDepth 100000 in
theorem tw_1180 : (Jvm.Cond.constantLong "PancakePortModel" (259 : Nat) (2 : Int64)) ∈ mWS := List.mem_filter.mpr ⟨List.mem_of_getElem? (i := 1180) (by rfl), by rfl⟩
set_option maxRecDepth 100000 in
theorem tw_1181 : (Jvm.Cond.methodLink "PancakePortModel" (261 : Nat) ({ cls := "PancakePortModel", name := "draw", desc := "(I)I" } : Jvm.MethodName)) ∈ mWS := List.mem_filter.mpr ⟨List.mem_of_getElem? (i := 1181) (by rfl), by rfl⟩
set_option maxRecDepth 100000 in
theorem tw_1183 : (Jvm.Cond.instanceMethod ({ cls := "PancakePortModel", name := "draw", desc := "(I)I" } : Jvm.MethodName)) ∈ mWS := List.mem_filter.mpr ⟨List.mem_of_getElem? (i := 1183) (by rfl), by rfl⟩
set_option maxRecDepth 100000 in
theorem tw_1184 : (Jvm.Cond.code ({ cls := "PancakePortModel", name := "draw", desc := "(I)I" } : Jvm.MethodName) prog_13_method_59_code (2 : Nat) (Option.some Jvm.ClassFile.FieldType.int)) ∈ mWS := List.mem_filter.mpr ⟨List.mem_of_getElem? (i := 1184) (by rfl), by rfl⟩
set_option maxRecDepth 100000 in
theorem tw_1185 : (Jvm.Cond.constantLong "PancakePortModel" (249 : Nat) (1103515245 : Int64)) ∈ mWS := List.mem_filter.mpr ⟨List.mem_of_getElem? (i := 1185) (by rfl), by rfl⟩
set_option maxRecDepth 100000 in
theorem tw_1186 : (Jvm.Cond.constantLong "PancakePortModel" (254 : Nat) (12345 : Int64)) ∈ mWS := List.mem_filter.mpr ⟨List.mem_of_getElem? (i := 1186) (by rfl), by rfl⟩
set_option maxRecDepth 100000 in
theorem tw_1187 : (Jvm.Cond.constantLong "PancakePortModel" (256 : Nat) (2147483647 : Int64)) ∈ mWS := List.mem_filter.mpr ⟨List.mem_of_getElem? (i := 1187) (by rfl), by rfl⟩
set_option maxRecDepth 100000 in
theorem tw_1188 : (Jvm.Cond.constant "PancakePortModel" (258 : Nat) (65536 : Int32)) ∈ mWS := List.mem_filter.mpr ⟨List.mem_of_getElem? (i := 1188) (by rfl), by rfl⟩
set_option maxRecDepth 100000 in
theorem tw_1189 : (Jvm.Cond.methodLink "PancakePortLaw" (108 : Nat) ({ cls := "PancakePortModel", name := "image", desc := "()I" } : Jvm.MethodName)) ∈ mWS := List.mem_filter.mpr ⟨List.mem_of_getElem? (i := 1189) (by rfl), by rfl⟩
set_option maxRecDepth 100000 in
theorem tw_1190 : (Jvm.Cond.instanceMethod ({ cls := "PancakePortModel", name := "image", desc := "()I" } : Jvm.MethodName)) ∈ mWS := List.mem_filter.mpr ⟨List.mem_of_getElem? (i := 1190) (by rfl), by rfl⟩
set_option maxRecDepth 100000 in
theorem tw_1191 : (Jvm.Cond.selects "PancakePortModel" ({ cls := "PancakePortModel", name := "image", desc := "()I" } : Jvm.MethodName) ({ cls := "PancakePortModel", name := "image", desc := "()I" } : Jvm.MethodName)) ∈ mWS := List.mem_filter.mpr ⟨List.mem_of_getElem? (i := 1191) (by rfl), by rfl⟩
set_option maxRecDepth 100000 in
theorem tw_1192 : (Jvm.Cond.code ({ cls := "PancakePortModel", name := "image", desc := "()I" } : Jvm.MethodName) prog_13_method_61_code (1 : Nat) (Option.some Jvm.ClassFile.FieldType.int)) ∈ mWS := List.mem_filter.mpr ⟨List.mem_of_getElem? (i := 1192) (by rfl), by rfl⟩
set_option maxRecDepth 100000 in
theorem tw_1193 : (Jvm.Cond.methodLink "PancakePortModel" (264 : Nat) ({ cls := "PancakePortModel", name := "copy", desc := "([I[I)V" } : Jvm.MethodName)) ∈ mWS := List.mem_filter.mpr ⟨List.mem_of_getElem? (i := 1193) (by rfl), by rfl⟩
set_option maxRecDepth 100000 in
theorem tw_1194 : (Jvm.Cond.static ({ cls := "PancakePortModel", name := "copy", desc := "([I[I)V" } : Jvm.MethodName)) ∈ mWS := List.mem_filter.mpr ⟨List.mem_of_getElem? (i := 1194) (by rfl), by rfl⟩
set_option maxRecDepth 100000 in
theorem tw_1195 : (Jvm.Cond.code ({ cls := "PancakePortModel", name := "copy", desc := "([I[I)V" } : Jvm.MethodName) prog_13_method_3_code (3 : Nat) (Option.none : Option Jvm.ClassFile.FieldType)) ∈ mWS := List.mem_filter.mpr ⟨List.mem_of_getElem? (i := 1195) (by rfl), by rfl⟩
set_option maxRecDepth 100000 in
theorem tw_1196 : (Jvm.Cond.methodLink "PancakePortLaw" (112 : Nat) ({ cls := "PancakePortModel", name := "restore", desc := "()I" } : Jvm.MethodName)) ∈ mWS := List.mem_filter.mpr ⟨List.mem_of_getElem? (i := 1196) (by rfl), by rfl⟩
set_option maxRecDepth 100000 in
theorem tw_1197 : (Jvm.Cond.instanceMethod ({ cls := "PancakePortModel", name := "restore", desc := "()I" } : Jvm.MethodName)) ∈ mWS := List.mem_filter.mpr ⟨List.mem_of_getElem? (i := 1197) (by rfl), by rfl⟩
set_option maxRecDepth 100000 in
theorem tw_1198 : (Jvm.Cond.selects "PancakePortModel" ({ cls := "PancakePortModel", name := "restore", desc := "()I" } : Jvm.MethodName) ({ cls := "PancakePortModel", name := "restore", desc := "()I" } : Jvm.MethodName)) ∈ mWS := List.mem_filter.mpr ⟨List.mem_of_getElem? (i := 1198) (by rfl), by rfl⟩
set_option maxRecDepth 100000 in
theorem tw_1199 : (Jvm.Cond.code ({ cls := "PancakePortModel", name := "restore", desc := "()I" } : Jvm.MethodName) prog_13_method_62_code (1 : Nat) (Option.some Jvm.ClassFile.FieldType.int)) ∈ mWS := List.mem_filter.mpr ⟨List.mem_of_getElem? (i := 1199) (by rfl), by rfl⟩
set_option maxRecDepth 100000 in
theorem tw_1200 : (Jvm.Cond.methodLink "PancakePortLaw" (116 : Nat) ({ cls := "PancakePortModel", name := "count", desc := "(I)I" } : Jvm.MethodName)) ∈ mWS := List.mem_filter.mpr ⟨List.mem_of_getElem? (i := 1200) (by rfl), by rfl⟩
set_option maxRecDepth 100000 in
theorem tw_1201 : (Jvm.Cond.instanceMethod ({ cls := "PancakePortModel", name := "count", desc := "(I)I" } : Jvm.MethodName)) ∈ mWS := List.mem_filter.mpr ⟨List.mem_of_getElem? (i := 1201) (by rfl), by rfl⟩
set_option maxRecDepth 100000 in
theorem tw_1202 : (Jvm.Cond.selects "PancakePortModel" ({ cls := "PancakePortModel", name := "count", desc := "(I)I" } : Jvm.MethodName) ({ cls := "PancakePortModel", name := "count", desc := "(I)I" } : Jvm.MethodName)) ∈ mWS := List.mem_filter.mpr ⟨List.mem_of_getElem? (i := 1202) (by rfl), by rfl⟩
set_option maxRecDepth 100000 in
theorem tw_1203 : (Jvm.Cond.code ({ cls := "PancakePortModel", name := "count", desc := "(I)I" } : Jvm.MethodName) prog_13_method_65_code (2 : Nat) (Option.some Jvm.ClassFile.FieldType.int)) ∈ mWS := List.mem_filter.mpr ⟨List.mem_of_getElem? (i := 1203) (by rfl), by rfl⟩
set_option maxRecDepth 100000 in
theorem tw_1204 : (Jvm.Cond.methodLink "PancakePortModel" (287 : Nat) ({ cls := "PancakePortModel", name := "countOf", desc := "(I)I" } : Jvm.MethodName)) ∈ mWS := List.mem_filter.mpr ⟨List.mem_of_getElem? (i := 1204) (by rfl), by rfl⟩
set_option maxRecDepth 100000 in
theorem tw_1206 : (Jvm.Cond.instanceMethod ({ cls := "PancakePortModel", name := "countOf", desc := "(I)I" } : Jvm.MethodName)) ∈ mWS := List.mem_filter.mpr ⟨List.mem_of_getElem? (i := 1206) (by rfl), by rfl⟩
set_option maxRecDepth 100000 in
theorem tw_1207 : (Jvm.Cond.code ({ cls := "PancakePortModel", name := "countOf", desc := "(I)I" } : Jvm.MethodName) prog_13_method_64_code (2 : Nat) (Option.some Jvm.ClassFile.FieldType.int)) ∈ mWS := List.mem_filter.mpr ⟨List.mem_of_getElem? (i := 1207) (by rfl), by rfl⟩
set_option maxRecDepth 100000 in
theorem tw_1208 : (Jvm.Cond.methodLink "PancakePortModel" (283 : Nat) ({ cls := "PancakePortModel", name := "sumOf", desc := "([I)I" } : Jvm.MethodName)) ∈ mWS := List.mem_filter.mpr ⟨List.mem_of_getElem? (i := 1208) (by rfl), by rfl⟩
set_option maxRecDepth 100000 in
theorem tw_1210 : (Jvm.Cond.instanceMethod ({ cls := "PancakePortModel", name := "sumOf", desc := "([I)I" } : Jvm.MethodName)) ∈ mWS := List.mem_filter.mpr ⟨List.mem_of_getElem? (i := 1210) (by rfl), by rfl⟩
set_option maxRecDepth 100000 in
theorem tw_1211 : (Jvm.Cond.code ({ cls := "PancakePortModel", name := "sumOf", desc := "([I)I" } : Jvm.MethodName) prog_13_method_63_code (4 : Nat) (Option.some Jvm.ClassFile.FieldType.int)) ∈ mWS := List.mem_filter.mpr ⟨List.mem_of_getElem? (i := 1211) (by rfl), by rfl⟩
set_option maxRecDepth 100000 in
theorem tw_1212 : (Jvm.Cond.methodLink "PancakePortLaw" (121 : Nat) ({ cls := "PancakePortModel", name := "digest", desc := "()J" } : Jvm.MethodName)) ∈ mWS := List.mem_filter.mpr ⟨List.mem_of_getElem? (i := 1212) (by rfl), by rfl⟩
set_option maxRecDepth 100000 in
theorem tw_1213 : (Jvm.Cond.instanceMethod ({ cls := "PancakePortModel", name := "digest", desc := "()J" } : Jvm.MethodName)) ∈ mWS := List.mem_filter.mpr ⟨List.mem_of_getElem? (i := 1213) (by rfl), by rfl⟩
set_option maxRecDepth 100000 in
theorem tw_1214 : (Jvm.Cond.selects "PancakePortModel" ({ cls := "PancakePortModel", name := "digest", desc := "()J" } : Jvm.MethodName) ({ cls := "PancakePortModel", name := "digest", desc := "()J" } : Jvm.MethodName)) ∈ mWS := List.mem_filter.mpr ⟨List.mem_of_getElem? (i := 1214) (by rfl), by rfl⟩
set_option maxRecDepth 100000 in
theorem tw_1215 : (Jvm.Cond.code ({ cls := "PancakePortModel", name := "digest", desc := "()J" } : Jvm.MethodName) prog_13_method_69_code (3 : Nat) (Option.some Jvm.ClassFile.FieldType.long)) ∈ mWS := List.mem_filter.mpr ⟨List.mem_of_getElem? (i := 1215) (by rfl), by rfl⟩
set_option maxRecDepth 100000 in
theorem tw_1216 : (Jvm.Cond.constantLong "PancakePortModel" (300 : Nat) (1217 : Int64)) ∈ mWS := List.mem_filter.mpr ⟨List.mem_of_getElem? (i := 1216) (by rfl), by rfl⟩
set_option maxRecDepth 100000 in
theorem tw_1217 : (Jvm.Cond.methodLink "PancakePortModel" (296 : Nat) ({ cls := "PancakePortModel", name := "say", desc := "(J)V" } : Jvm.MethodName)) ∈ mWS := List.mem_filter.mpr ⟨List.mem_of_getElem? (i := 1217) (by rfl), by rfl⟩
set_option maxRecDepth 100000 in
theorem tw_1219 : (Jvm.Cond.instanceMethod ({ cls := "PancakePortModel", name := "say", desc := "(J)V" } : Jvm.MethodName)) ∈ mWS := List.mem_filter.mpr ⟨List.mem_of_getElem? (i := 1219) (by rfl), by rfl⟩
set_option maxRecDepth 100000 in
theorem tw_1220 : (Jvm.Cond.code ({ cls := "PancakePortModel", name := "say", desc := "(J)V" } : Jvm.MethodName) prog_13_method_66_code (3 : Nat) (Option.none : Option Jvm.ClassFile.FieldType)) ∈ mWS := List.mem_filter.mpr ⟨List.mem_of_getElem? (i := 1220) (by rfl), by rfl⟩
set_option maxRecDepth 100000 in
theorem tw_1221 : (Jvm.Cond.constantLong "PancakePortModel" (290 : Nat) (31 : Int64)) ∈ mWS := List.mem_filter.mpr ⟨List.mem_of_getElem? (i := 1221) (by rfl), by rfl⟩
set_option maxRecDepth 100000 in
theorem tw_1222 : (Jvm.Cond.methodLink "PancakePortModel" (302 : Nat) ({ cls := "PancakePortModel", name := "sayTosser", desc := "(I)V" } : Jvm.MethodName)) ∈ mWS := List.mem_filter.mpr ⟨List.mem_of_getElem? (i := 1222) (by rfl), by rfl⟩
set_option maxRecDepth 100000 in
theorem tw_1224 : (Jvm.Cond.instanceMethod ({ cls := "PancakePortModel", name := "sayTosser", desc := "(I)V" } : Jvm.MethodName)) ∈ mWS := List.mem_filter.mpr ⟨List.mem_of_getElem? (i := 1224) (by rfl), by rfl⟩
set_option maxRecDepth 100000 in
theorem tw_1225 : (Jvm.Cond.code ({ cls := "PancakePortModel", name := "sayTosser", desc := "(I)V" } : Jvm.MethodName) prog_13_method_67_code (3 : Nat) (Option.none : Option Jvm.ClassFile.FieldType)) ∈ mWS := List.mem_filter.mpr ⟨List.mem_of_getElem? (i := 1225) (by rfl), by rfl⟩
set_option maxRecDepth 100000 in
theorem tw_1226 : (Jvm.Cond.methodLink "PancakePortModel" (305 : Nat) ({ cls := "PancakePortModel", name := "sayPort", desc := "()V" } : Jvm.MethodName)) ∈ mWS := List.mem_filter.mpr ⟨List.mem_of_getElem? (i := 1226) (by rfl), by rfl⟩
set_option maxRecDepth 100000 in
theorem tw_1228 : (Jvm.Cond.instanceMethod ({ cls := "PancakePortModel", name := "sayPort", desc := "()V" } : Jvm.MethodName)) ∈ mWS := List.mem_filter.mpr ⟨List.mem_of_getElem? (i := 1228) (by rfl), by rfl⟩
set_option maxRecDepth 100000 in
theorem tw_1229 : (Jvm.Cond.code ({ cls := "PancakePortModel", name := "sayPort", desc := "()V" } : Jvm.MethodName) prog_13_method_68_code (2 : Nat) (Option.none : Option Jvm.ClassFile.FieldType)) ∈ mWS := List.mem_filter.mpr ⟨List.mem_of_getElem? (i := 1229) (by rfl), by rfl⟩
set_option maxRecDepth 100000 in
theorem tw_1230 : (Jvm.Cond.sameMethod "PancakePort$Wide" "PancakePort$Wide" "spreads" "(II)Z") ∈ mWS := List.mem_filter.mpr ⟨List.mem_of_getElem? (i := 1230) (by rfl), by rfl⟩
set_option maxRecDepth 100000 in
theorem tw_1231 : (Jvm.Cond.castable "PancakePort$Mayor" "PancakePort$Wide") ∈ mNw := List.mem_filter.mpr ⟨List.mem_of_getElem? (i := 1231) (by rfl), by rfl⟩
set_option maxRecDepth 100000 in
theorem tw_1232 : (Jvm.Cond.castable "PancakePort$Lacy" "PancakePort$Tosser") ∈ mNw := List.mem_filter.mpr ⟨List.mem_of_getElem? (i := 1232) (by rfl), by rfl⟩
set_option maxRecDepth 100000 in
theorem tw_1233 : (Jvm.Cond.castable "PancakePort$Wide" "PancakePort$Tosser") ∈ mNw := List.mem_filter.mpr ⟨List.mem_of_getElem? (i := 1233) (by rfl), by rfl⟩
set_option maxRecDepth 100000 in
theorem tw_1234 : (Jvm.Cond.castable "PancakePort$Thrifty" "PancakePort$Tosser") ∈ mNw := List.mem_filter.mpr ⟨List.mem_of_getElem? (i := 1234) (by rfl), by rfl⟩
set_option maxRecDepth 100000 in
theorem tw_1235 : (Jvm.Cond.castable "PancakePort$Mayor" "PancakePort$Tosser") ∈ mNw := List.mem_filter.mpr ⟨List.mem_of_getElem? (i := 1235) (by rfl), by rfl⟩
set_option maxRecDepth 100000 in
theorem tw_1236 : (Jvm.Cond.fieldLink "java/lang/String" (15 : Nat) "java/lang/String" "coder" "B") ∈ mWS := List.mem_filter.mpr ⟨List.mem_of_getElem? (i := 1236) (by rfl), by rfl⟩
set_option maxRecDepth 100000 in
theorem tw_1237 : (Jvm.Cond.fieldLink "java/lang/String" (9 : Nat) "java/lang/String" "value" "[B") ∈ mWS := List.mem_filter.mpr ⟨List.mem_of_getElem? (i := 1237) (by rfl), by rfl⟩
