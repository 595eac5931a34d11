theorem wp_22 : Cond.selects "MobileCallModel" ⟨"MobileCallModel", "out", "(I)V"⟩ ⟨"MobileCallModel", "out", "(I)V"⟩ ∈ zz_T := zz_mem (List.mem_of_getElem? (i := 22) (by decide +kernel)) (by decide +kernel)
theorem wp_23 : Cond.selects "MobileCallModel" ⟨"MobileCallModel", "release", "(I)V"⟩ ⟨"MobileCallModel", "release", "(I)V"⟩ ∈ zz_T := zz_mem (List.mem_of_getElem? (i := 23) (by decide +kernel)) (by decide +kernel)
theorem wp_24 : Cond.selects "MobileCallModel" ⟨"MobileCallModel", "way", "(I)I"⟩ ⟨"MobileCallModel", "way", "(I)I"⟩ ∈ zz_T := zz_mem (List.mem_of_getElem? (i := 24) (by decide +kernel)) (by decide +kernel)
theorem wp_25 : Cond.selects "MobileCallModel" ⟨"MobileCallModel", "put", "(III)I"⟩ ⟨"MobileCallModel", "put", "(III)I"⟩ ∈ zz_T := zz_mem (List.mem_of_getElem? (i := 25) (by decide +kernel)) (by decide +kernel)
theorem wp_26 : Cond.selects "MobileCallModel" ⟨"MobileCallModel", "become", "(IIII)V"⟩ ⟨"MobileCallModel", "become", "(IIII)V"⟩ ∈ zz_T := zz_mem (List.mem_of_getElem? (i := 26) (by decide +kernel)) (by decide +kernel)
theorem wp_27 : Cond.selects "MobileCallModel" ⟨"MobileCallModel", "rest", "(I)I"⟩ ⟨"MobileCallModel", "rest", "(I)I"⟩ ∈ zz_T := zz_mem (List.mem_of_getElem? (i := 27) (by decide +kernel)) (by decide +kernel)
theorem wp_28 : Cond.selects "MobileCallModel" ⟨"MobileCallModel", "tell", "(IIIIII)V"⟩ ⟨"MobileCallModel", "tell", "(IIIIII)V"⟩ ∈ zz_T := zz_mem (List.mem_of_getElem? (i := 28) (by decide +kernel)) (by decide +kernel)
theorem wp_29 : Cond.selects "MobileCallModel" ⟨"MobileCallModel", "more", "(II)V"⟩ ⟨"MobileCallModel", "more", "(II)V"⟩ ∈ zz_T := zz_mem (List.mem_of_getElem? (i := 29) (by decide +kernel)) (by decide +kernel)
theorem wp_30 : Cond.selects "MobileCallModel" ⟨"MobileCallModel", "isCall", "(III)Z"⟩ ⟨"MobileCallModel", "isCall", "(III)Z"⟩ ∈ zz_T := zz_mem (List.mem_of_getElem? (i := 30) (by decide +kernel)) (by decide +kernel)
theorem wp_31 : Cond.selects "MobileCallModel" ⟨"MobileCallModel", "end", "(II)V"⟩ ⟨"MobileCallModel", "end", "(II)V"⟩ ∈ zz_T := zz_mem (List.mem_of_getElem? (i := 31) (by decide +kernel)) (by decide +kernel)
theorem wp_32 : Cond.selects "MobileCallModel" ⟨"MobileCallModel", "take", "(I)V"⟩ ⟨"MobileCallModel", "take", "(I)V"⟩ ∈ zz_T := zz_mem (List.mem_of_getElem? (i := 32) (by decide +kernel)) (by decide +kernel)
theorem wp_33 : Cond.selects "MobileCallModel" ⟨"MobileCallModel", "isGood", "()Z"⟩ ⟨"MobileCallModel", "isGood", "()Z"⟩ ∈ zz_T := zz_mem (List.mem_of_getElem? (i := 33) (by decide +kernel)) (by decide +kernel)
theorem wp_34 : Cond.selects "MobileCallModel" ⟨"MobileCallModel", "mobileMoves", "(I)Z"⟩ ⟨"MobileCallModel", "mobileMoves", "(I)Z"⟩ ∈ zz_T := zz_mem (List.mem_of_getElem? (i := 34) (by decide +kernel)) (by decide +kernel)
theorem wp_35 : Cond.selects "MobileCallModel" ⟨"MobileCallModel", "has", "(II)Z"⟩ ⟨"MobileCallModel", "has", "(II)Z"⟩ ∈ zz_T := zz_mem (List.mem_of_getElem? (i := 35) (by decide +kernel)) (by decide +kernel)
theorem wp_36 : Cond.selects "MobileCallModel" ⟨"MobileCallModel", "find", "(I)I"⟩ ⟨"MobileCallModel", "find", "(I)I"⟩ ∈ zz_T := zz_mem (List.mem_of_getElem? (i := 36) (by decide +kernel)) (by decide +kernel)
theorem wp_37 : Cond.selects "MobileCallModel" ⟨"MobileCallModel", "number", "(I)I"⟩ ⟨"MobileCallModel", "number", "(I)I"⟩ ∈ zz_T := zz_mem (List.mem_of_getElem? (i := 37) (by decide +kernel)) (by decide +kernel)
theorem wp_38 : Cond.selects "MobileCallModel" ⟨"MobileCallModel", "setUp", "()V"⟩ ⟨"MobileCallModel", "setUp", "()V"⟩ ∈ zz_T := zz_mem (List.mem_of_getElem? (i := 38) (by decide +kernel)) (by decide +kernel)
theorem wp_39 : Cond.selects "MobileCallModel" ⟨"MobileCallModel", "networkMoves", "(I)Z"⟩ ⟨"MobileCallModel", "networkMoves", "(I)Z"⟩ ∈ zz_T := zz_mem (List.mem_of_getElem? (i := 39) (by decide +kernel)) (by decide +kernel)
theorem wp_40 : Cond.selects "MobileCallModel" ⟨"MobileCallModel", "ask", "(I)V"⟩ ⟨"MobileCallModel", "ask", "(I)V"⟩ ∈ zz_T := zz_mem (List.mem_of_getElem? (i := 40) (by decide +kernel)) (by decide +kernel)
theorem wp_41 : Cond.selects "MobileCallModel" ⟨"MobileCallModel", "judge", "()V"⟩ ⟨"MobileCallModel", "judge", "()V"⟩ ∈ zz_T := zz_mem (List.mem_of_getElem? (i := 41) (by decide +kernel)) (by decide +kernel)
theorem wp_42 : Cond.selects "MobileCallModel" ⟨"MobileCallModel", "mobileCalls", "(I)Z"⟩ ⟨"MobileCallModel", "mobileCalls", "(I)Z"⟩ ∈ zz_T := zz_mem (List.mem_of_getElem? (i := 42) (by decide +kernel)) (by decide +kernel)
theorem wp_43 : Cond.selects "MobileCallModel" ⟨"MobileCallModel", "closes", "(II)Z"⟩ ⟨"MobileCallModel", "closes", "(II)Z"⟩ ∈ zz_T := zz_mem (List.mem_of_getElem? (i := 43) (by decide +kernel)) (by decide +kernel)
theorem wp_44 : Cond.selects "MobileCallModel" ⟨"MobileCallModel", "networkCalls", "(I)Z"⟩ ⟨"MobileCallModel", "networkCalls", "(I)Z"⟩ ∈ zz_T := zz_mem (List.mem_of_getElem? (i := 44) (by decide +kernel)) (by decide +kernel)
theorem wd_7 : (Jvm.Cond.initialized "MobileCallModel") ∈ zz_T := zz_mem (List.mem_of_getElem? (i := 52) (by decide +kernel)) (by decide +kernel)
theorem wd_14 : (Jvm.Cond.instanceMethod ({ cls := "java/lang/Object", name := "<init>", desc := "()V" } : Jvm.MethodName)) ∈ zz_T := zz_mem (List.mem_of_getElem? (i := 59) (by decide +kernel)) (by decide +kernel)
theorem wd_15 : (Jvm.Cond.code ({ cls := "java/lang/Object", name := "<init>", desc := "()V" } : Jvm.MethodName) object_method_1_code (1 : Nat) (Option.none : Option Jvm.ClassFile.FieldType)) ∈ zz_T := zz_mem (List.mem_of_getElem? (i := 60) (by decide +kernel)) (by decide +kernel)
theorem wd_643 : (Jvm.Cond.methodLink "MobileCallModel" (1 : Nat) ({ cls := "java/lang/Object", name := "<init>", desc := "()V" } : Jvm.MethodName)) ∈ zz_T := zz_mem (List.mem_of_getElem? (i := 688) (by decide +kernel)) (by decide +kernel)
theorem wd_644 : (Jvm.Cond.fieldLink "MobileCallModel" (51 : Nat) "MobileCallModel" "key" "I") ∈ zz_T := zz_mem (List.mem_of_getElem? (i := 689) (by decide +kernel)) (by decide +kernel)
theorem wd_645 : (Jvm.Cond.fieldLink "MobileCallModel" (54 : Nat) "MobileCallModel" "otherKey" "I") ∈ zz_T := zz_mem (List.mem_of_getElem? (i := 690) (by decide +kernel)) (by decide +kernel)
theorem wd_646 : (Jvm.Cond.fieldLink "MobileCallModel" (57 : Nat) "MobileCallModel" "challenge" "I") ∈ zz_T := zz_mem (List.mem_of_getElem? (i := 691) (by decide +kernel)) (by decide +kernel)
theorem wd_647 : (Jvm.Cond.fieldLink "MobileCallModel" (7 : Nat) "MobileCallModel" "accepts" "I") ∈ zz_T := zz_mem (List.mem_of_getElem? (i := 692) (by decide +kernel)) (by decide +kernel)
theorem wd_648 : (Jvm.Cond.fieldLink "MobileCallModel" (60 : Nat) "MobileCallModel" "silent" "Z") ∈ zz_T := zz_mem (List.mem_of_getElem? (i := 693) (by decide +kernel)) (by decide +kernel)
theorem wd_649 : (Jvm.Cond.fieldLink "MobileCallModel" (13 : Nat) "MobileCallModel" "counts" "[I") ∈ zz_T := zz_mem (List.mem_of_getElem? (i := 694) (by decide +kernel)) (by decide +kernel)
theorem wd_650 : (Jvm.Cond.fieldLink "MobileCallModel" (17 : Nat) "MobileCallModel" "sizes" "[I") ∈ zz_T := zz_mem (List.mem_of_getElem? (i := 695) (by decide +kernel)) (by decide +kernel)
theorem wd_651 : (Jvm.Cond.fieldLink "MobileCallModel" (20 : Nat) "MobileCallModel" "bytes" "[I") ∈ zz_T := zz_mem (List.mem_of_getElem? (i := 696) (by decide +kernel)) (by decide +kernel)
theorem wd_652 : (Jvm.Cond.fieldLink "MobileCallModel" (168 : Nat) "MobileCallModel" "left" "I") ∈ zz_T := zz_mem (List.mem_of_getElem? (i := 697) (by decide +kernel)) (by decide +kernel)
theorem wd_653 : (Jvm.Cond.fieldLink "MobileCallModel" (23 : Nat) "MobileCallModel" "states" "[I") ∈ zz_T := zz_mem (List.mem_of_getElem? (i := 698) (by decide +kernel)) (by decide +kernel)
theorem wd_654 : (Jvm.Cond.fieldLink "MobileCallModel" (26 : Nat) "MobileCallModel" "calls" "[I") ∈ zz_T := zz_mem (List.mem_of_getElem? (i := 699) (by decide +kernel)) (by decide +kernel)
theorem wd_655 : (Jvm.Cond.fieldLink "MobileCallModel" (29 : Nat) "MobileCallModel" "timers" "[I") ∈ zz_T := zz_mem (List.mem_of_getElem? (i := 700) (by decide +kernel)) (by decide +kernel)
theorem wd_656 : (Jvm.Cond.fieldLink "MobileCallModel" (32 : Nat) "MobileCallModel" "twice" "[Z") ∈ zz_T := zz_mem (List.mem_of_getElem? (i := 701) (by decide +kernel)) (by decide +kernel)
theorem wd_657 : (Jvm.Cond.fieldLink "MobileCallModel" (36 : Nat) "MobileCallModel" "causes" "[I") ∈ zz_T := zz_mem (List.mem_of_getElem? (i := 702) (by decide +kernel)) (by decide +kernel)
theorem wd_658 : (Jvm.Cond.fieldLink "MobileCallModel" (105 : Nat) "MobileCallModel" "area" "I") ∈ zz_T := zz_mem (List.mem_of_getElem? (i := 703) (by decide +kernel)) (by decide +kernel)
theorem wd_659 : (Jvm.Cond.fieldLink "MobileCallModel" (39 : Nat) "MobileCallModel" "known" "I") ∈ zz_T := zz_mem (List.mem_of_getElem? (i := 704) (by decide +kernel)) (by decide +kernel)
theorem wd_660 : (Jvm.Cond.fieldLink "MobileCallModel" (126 : Nat) "MobileCallModel" "wished" "I") ∈ zz_T := zz_mem (List.mem_of_getElem? (i := 705) (by decide +kernel)) (by decide +kernel)
theorem wd_661 : (Jvm.Cond.fieldLink "MobileCallModel" (42 : Nat) "MobileCallModel" "digits" "[I") ∈ zz_T := zz_mem (List.mem_of_getElem? (i := 706) (by decide +kernel)) (by decide +kernel)
theorem wd_662 : (Jvm.Cond.fieldLink "MobileCallModel" (119 : Nat) "MobileCallModel" "digitCount" "I") ∈ zz_T := zz_mem (List.mem_of_getElem? (i := 707) (by decide +kernel)) (by decide +kernel)
theorem wd_663 : (Jvm.Cond.fieldLink "MobileCallModel" (45 : Nat) "MobileCallModel" "called" "[I") ∈ zz_T := zz_mem (List.mem_of_getElem? (i := 708) (by decide +kernel)) (by decide +kernel)
theorem wd_664 : (Jvm.Cond.fieldLink "MobileCallModel" (135 : Nat) "MobileCallModel" "calledCount" "I") ∈ zz_T := zz_mem (List.mem_of_getElem? (i := 709) (by decide +kernel)) (by decide +kernel)
theorem wd_665 : (Jvm.Cond.fieldLink "MobileCallModel" (72 : Nat) "MobileCallModel" "size" "I") ∈ zz_T := zz_mem (List.mem_of_getElem? (i := 710) (by decide +kernel)) (by decide +kernel)
theorem wd_666 : (Jvm.Cond.fieldLink "MobileCallModel" (48 : Nat) "MobileCallModel" "here" "[I") ∈ zz_T := zz_mem (List.mem_of_getElem? (i := 711) (by decide +kernel)) (by decide +kernel)
theorem wd_719 : (Jvm.Cond.methodLink "MobileCallModel" (138 : Nat) ({ cls := "MobileCallModel", name := "out", desc := "(I)V" } : Jvm.MethodName)) ∈ zz_T := zz_mem (List.mem_of_getElem? (i := 764) (by decide +kernel)) (by decide +kernel)
theorem wd_721 : (Jvm.Cond.instanceMethod ({ cls := "MobileCallModel", name := "out", desc := "(I)V" } : Jvm.MethodName)) ∈ zz_T := zz_mem (List.mem_of_getElem? (i := 766) (by decide +kernel)) (by decide +kernel)
theorem wd_722 : (Jvm.Cond.code ({ cls := "MobileCallModel", name := "out", desc := "(I)V" } : Jvm.MethodName) prog_8_method_24_code (3 : Nat) (Option.none : Option Jvm.ClassFile.FieldType)) ∈ zz_T := zz_mem (List.mem_of_getElem? (i := 767) (by decide +kernel)) (by decide +kernel)
theorem wd_723 : (Jvm.Cond.methodLink "MobileCallModel" (98 : Nat) ({ cls := "MobileCallModel", name := "release", desc := "(I)V" } : Jvm.MethodName)) ∈ zz_T := zz_mem (List.mem_of_getElem? (i := 768) (by decide +kernel)) (by decide +kernel)
theorem wd_725 : (Jvm.Cond.instanceMethod ({ cls := "MobileCallModel", name := "release", desc := "(I)V" } : Jvm.MethodName)) ∈ zz_T := zz_mem (List.mem_of_getElem? (i := 770) (by decide +kernel)) (by decide +kernel)
theorem wd_726 : (Jvm.Cond.code ({ cls := "MobileCallModel", name := "release", desc := "(I)V" } : Jvm.MethodName) prog_8_method_14_code (2 : Nat) (Option.none : Option Jvm.ClassFile.FieldType)) ∈ zz_T := zz_mem (List.mem_of_getElem? (i := 771) (by decide +kernel)) (by decide +kernel)
theorem wd_727 : (Jvm.Cond.methodLink "MobileCallModel" (80 : Nat) ({ cls := "MobileCallModel", name := "way", desc := "(I)I" } : Jvm.MethodName)) ∈ zz_T := zz_mem (List.mem_of_getElem? (i := 772) (by decide +kernel)) (by decide +kernel)
theorem wd_729 : (Jvm.Cond.instanceMethod ({ cls := "MobileCallModel", name := "way", desc := "(I)I" } : Jvm.MethodName)) ∈ zz_T := zz_mem (List.mem_of_getElem? (i := 774) (by decide +kernel)) (by decide +kernel)
theorem wd_730 : (Jvm.Cond.code ({ cls := "MobileCallModel", name := "way", desc := "(I)I" } : Jvm.MethodName) prog_8_method_12_code (2 : Nat) (Option.some Jvm.ClassFile.FieldType.int)) ∈ zz_T := zz_mem (List.mem_of_getElem? (i := 775) (by decide +kernel)) (by decide +kernel)
theorem wd_731 : (Jvm.Cond.methodLink "MobileCallModel" (64 : Nat) ({ cls := "MobileCallModel", name := "put", desc := "(III)I" } : Jvm.MethodName)) ∈ zz_T := zz_mem (List.mem_of_getElem? (i := 776) (by decide +kernel)) (by decide +kernel)
theorem wd_733 : (Jvm.Cond.instanceMethod ({ cls := "MobileCallModel", name := "put", desc := "(III)I" } : Jvm.MethodName)) ∈ zz_T := zz_mem (List.mem_of_getElem? (i := 778) (by decide +kernel)) (by decide +kernel)
theorem wd_734 : (Jvm.Cond.code ({ cls := "MobileCallModel", name := "put", desc := "(III)I" } : Jvm.MethodName) prog_8_method_2_code (5 : Nat) (Option.some Jvm.ClassFile.FieldType.int)) ∈ zz_T := zz_mem (List.mem_of_getElem? (i := 779) (by decide +kernel)) (by decide +kernel)
theorem wd_735 : (Jvm.Cond.methodLink "MobileCallModel" (83 : Nat) ({ cls := "MobileCallModel", name := "become", desc := "(IIII)V" } : Jvm.MethodName)) ∈ zz_T := zz_mem (List.mem_of_getElem? (i := 780) (by decide +kernel)) (by decide +kernel)
theorem wd_737 : (Jvm.Cond.instanceMethod ({ cls := "MobileCallModel", name := "become", desc := "(IIII)V" } : Jvm.MethodName)) ∈ zz_T := zz_mem (List.mem_of_getElem? (i := 782) (by decide +kernel)) (by decide +kernel)
theorem wd_738 : (Jvm.Cond.code ({ cls := "MobileCallModel", name := "become", desc := "(IIII)V" } : Jvm.MethodName) prog_8_method_11_code (5 : Nat) (Option.none : Option Jvm.ClassFile.FieldType)) ∈ zz_T := zz_mem (List.mem_of_getElem? (i := 783) (by decide +kernel)) (by decide +kernel)
theorem wd_739 : (Jvm.Cond.methodLink "MobileCallModel" (102 : Nat) ({ cls := "MobileCallModel", name := "rest", desc := "(I)I" } : Jvm.MethodName)) ∈ zz_T := zz_mem (List.mem_of_getElem? (i := 784) (by decide +kernel)) (by decide +kernel)
theorem wd_741 : (Jvm.Cond.instanceMethod ({ cls := "MobileCallModel", name := "rest", desc := "(I)I" } : Jvm.MethodName)) ∈ zz_T := zz_mem (List.mem_of_getElem? (i := 786) (by decide +kernel)) (by decide +kernel)
theorem wd_742 : (Jvm.Cond.code ({ cls := "MobileCallModel", name := "rest", desc := "(I)I" } : Jvm.MethodName) prog_8_method_13_code (2 : Nat) (Option.some Jvm.ClassFile.FieldType.int)) ∈ zz_T := zz_mem (List.mem_of_getElem? (i := 787) (by decide +kernel)) (by decide +kernel)
theorem wd_743 : (Jvm.Cond.methodLink "MobileCallModel" (112 : Nat) ({ cls := "MobileCallModel", name := "tell", desc := "(IIIIII)V" } : Jvm.MethodName)) ∈ zz_T := zz_mem (List.mem_of_getElem? (i := 788) (by decide +kernel)) (by decide +kernel)
theorem wd_745 : (Jvm.Cond.instanceMethod ({ cls := "MobileCallModel", name := "tell", desc := "(IIIIII)V" } : Jvm.MethodName)) ∈ zz_T := zz_mem (List.mem_of_getElem? (i := 790) (by decide +kernel)) (by decide +kernel)
theorem wd_746 : (Jvm.Cond.code ({ cls := "MobileCallModel", name := "tell", desc := "(IIIIII)V" } : Jvm.MethodName) prog_8_method_4_code (9 : Nat) (Option.none : Option Jvm.ClassFile.FieldType)) ∈ zz_T := zz_mem (List.mem_of_getElem? (i := 791) (by decide +kernel)) (by decide +kernel)
theorem wd_747 : (Jvm.Cond.methodLink "MobileCallModel" (68 : Nat) ({ cls := "MobileCallModel", name := "more", desc := "(II)V" } : Jvm.MethodName)) ∈ zz_T := zz_mem (List.mem_of_getElem? (i := 792) (by decide +kernel)) (by decide +kernel)
theorem wd_749 : (Jvm.Cond.instanceMethod ({ cls := "MobileCallModel", name := "more", desc := "(II)V" } : Jvm.MethodName)) ∈ zz_T := zz_mem (List.mem_of_getElem? (i := 794) (by decide +kernel)) (by decide +kernel)
theorem wd_750 : (Jvm.Cond.code ({ cls := "MobileCallModel", name := "more", desc := "(II)V" } : Jvm.MethodName) prog_8_method_3_code (3 : Nat) (Option.none : Option Jvm.ClassFile.FieldType)) ∈ zz_T := zz_mem (List.mem_of_getElem? (i := 795) (by decide +kernel)) (by decide +kernel)
theorem wd_759 : (Jvm.Cond.constant "MobileCallModel" (141 : Nat) (65535 : Int32)) ∈ zz_T := zz_mem (List.mem_of_getElem? (i := 804) (by decide +kernel)) (by decide +kernel)
theorem wd_768 : (Jvm.Cond.methodLink "MobileCallModel" (91 : Nat) ({ cls := "MobileCallModel", name := "isCall", desc := "(III)Z" } : Jvm.MethodName)) ∈ zz_T := zz_mem (List.mem_of_getElem? (i := 813) (by decide +kernel)) (by decide +kernel)
theorem wd_770 : (Jvm.Cond.instanceMethod ({ cls := "MobileCallModel", name := "isCall", desc := "(III)Z" } : Jvm.MethodName)) ∈ zz_T := zz_mem (List.mem_of_getElem? (i := 815) (by decide +kernel)) (by decide +kernel)
theorem wd_771 : (Jvm.Cond.code ({ cls := "MobileCallModel", name := "isCall", desc := "(III)Z" } : Jvm.MethodName) prog_8_method_15_code (4 : Nat) (Option.some Jvm.ClassFile.FieldType.boolean)) ∈ zz_T := zz_mem (List.mem_of_getElem? (i := 816) (by decide +kernel)) (by decide +kernel)
theorem wd_772 : (Jvm.Cond.methodLink "MobileCallModel" (142 : Nat) ({ cls := "MobileCallModel", name := "end", desc := "(II)V" } : Jvm.MethodName)) ∈ zz_T := zz_mem (List.mem_of_getElem? (i := 817) (by decide +kernel)) (by decide +kernel)
theorem wd_774 : (Jvm.Cond.instanceMethod ({ cls := "MobileCallModel", name := "end", desc := "(II)V" } : Jvm.MethodName)) ∈ zz_T := zz_mem (List.mem_of_getElem? (i := 819) (by decide +kernel)) (by decide +kernel)
theorem wd_775 : (Jvm.Cond.code ({ cls := "MobileCallModel", name := "end", desc := "(II)V" } : Jvm.MethodName) prog_8_method_29_code (3 : Nat) (Option.none : Option Jvm.ClassFile.FieldType)) ∈ zz_T := zz_mem (List.mem_of_getElem? (i := 820) (by decide +kernel)) (by decide +kernel)
theorem wd_800 : (Jvm.Cond.methodLink "MobileCallModel" (145 : Nat) ({ cls := "MobileCallModel", name := "isWay", desc := "(I)Z" } : Jvm.MethodName)) ∈ zz_T := zz_mem (List.mem_of_getElem? (i := 845) (by decide +kernel)) (by decide +kernel)
theorem wd_801 : (Jvm.Cond.static ({ cls := "MobileCallModel", name := "isWay", desc := "(I)Z" } : Jvm.MethodName)) ∈ zz_T := zz_mem (List.mem_of_getElem? (i := 846) (by decide +kernel)) (by decide +kernel)
theorem wd_802 : (Jvm.Cond.code ({ cls := "MobileCallModel", name := "isWay", desc := "(I)Z" } : Jvm.MethodName) prog_8_method_36_code (1 : Nat) (Option.some Jvm.ClassFile.FieldType.boolean)) ∈ zz_T := zz_mem (List.mem_of_getElem? (i := 847) (by decide +kernel)) (by decide +kernel)
theorem wd_803 : (Jvm.Cond.methodLink "MobileCallModel" (149 : Nat) ({ cls := "MobileCallModel", name := "take", desc := "(I)V" } : Jvm.MethodName)) ∈ zz_T := zz_mem (List.mem_of_getElem? (i := 848) (by decide +kernel)) (by decide +kernel)
theorem wd_805 : (Jvm.Cond.instanceMethod ({ cls := "MobileCallModel", name := "take", desc := "(I)V" } : Jvm.MethodName)) ∈ zz_T := zz_mem (List.mem_of_getElem? (i := 850) (by decide +kernel)) (by decide +kernel)
theorem wd_806 : (Jvm.Cond.code ({ cls := "MobileCallModel", name := "take", desc := "(I)V" } : Jvm.MethodName) prog_8_method_5_code (5 : Nat) (Option.none : Option Jvm.ClassFile.FieldType)) ∈ zz_T := zz_mem (List.mem_of_getElem? (i := 851) (by decide +kernel)) (by decide +kernel)
theorem wd_807 : (Jvm.Cond.methodLink "MobileCallModel" (152 : Nat) ({ cls := "MobileCallModel", name := "isGood", desc := "()Z" } : Jvm.MethodName)) ∈ zz_T := zz_mem (List.mem_of_getElem? (i := 852) (by decide +kernel)) (by decide +kernel)
theorem wd_809 : (Jvm.Cond.instanceMethod ({ cls := "MobileCallModel", name := "isGood", desc := "()Z" } : Jvm.MethodName)) ∈ zz_T := zz_mem (List.mem_of_getElem? (i := 854) (by decide +kernel)) (by decide +kernel)
theorem wd_810 : (Jvm.Cond.code ({ cls := "MobileCallModel", name := "isGood", desc := "()Z" } : Jvm.MethodName) prog_8_method_6_code (2 : Nat) (Option.some Jvm.ClassFile.FieldType.boolean)) ∈ zz_T := zz_mem (List.mem_of_getElem? (i := 855) (by decide +kernel)) (by decide +kernel)
theorem wd_811 : (Jvm.Cond.methodLink "MobileCallModel" (156 : Nat) ({ cls := "MobileCallModel", name := "mobileMoves", desc := "(I)Z" } : Jvm.MethodName)) ∈ zz_T := zz_mem (List.mem_of_getElem? (i := 856) (by decide +kernel)) (by decide +kernel)
theorem wd_813 : (Jvm.Cond.instanceMethod ({ cls := "MobileCallModel", name := "mobileMoves", desc := "(I)Z" } : Jvm.MethodName)) ∈ zz_T := zz_mem (List.mem_of_getElem? (i := 858) (by decide +kernel)) (by decide +kernel)
theorem wd_814 : (Jvm.Cond.code ({ cls := "MobileCallModel", name := "mobileMoves", desc := "(I)Z" } : Jvm.MethodName) prog_8_method_17_code (3 : Nat) (Option.some Jvm.ClassFile.FieldType.boolean)) ∈ zz_T := zz_mem (List.mem_of_getElem? (i := 859) (by decide +kernel)) (by decide +kernel)
theorem wd_815 : (Jvm.Cond.methodLink "MobileCallModel" (87 : Nat) ({ cls := "MobileCallModel", name := "has", desc := "(II)Z" } : Jvm.MethodName)) ∈ zz_T := zz_mem (List.mem_of_getElem? (i := 860) (by decide +kernel)) (by decide +kernel)
theorem wd_817 : (Jvm.Cond.instanceMethod ({ cls := "MobileCallModel", name := "has", desc := "(II)Z" } : Jvm.MethodName)) ∈ zz_T := zz_mem (List.mem_of_getElem? (i := 862) (by decide +kernel)) (by decide +kernel)
theorem wd_818 : (Jvm.Cond.code ({ cls := "MobileCallModel", name := "has", desc := "(II)Z" } : Jvm.MethodName) prog_8_method_8_code (4 : Nat) (Option.some Jvm.ClassFile.FieldType.boolean)) ∈ zz_T := zz_mem (List.mem_of_getElem? (i := 863) (by decide +kernel)) (by decide +kernel)
theorem wd_819 : (Jvm.Cond.methodLink "MobileCallModel" (75 : Nat) ({ cls := "MobileCallModel", name := "find", desc := "(I)I" } : Jvm.MethodName)) ∈ zz_T := zz_mem (List.mem_of_getElem? (i := 864) (by decide +kernel)) (by decide +kernel)
theorem wd_821 : (Jvm.Cond.instanceMethod ({ cls := "MobileCallModel", name := "find", desc := "(I)I" } : Jvm.MethodName)) ∈ zz_T := zz_mem (List.mem_of_getElem? (i := 866) (by decide +kernel)) (by decide +kernel)
theorem wd_822 : (Jvm.Cond.code ({ cls := "MobileCallModel", name := "find", desc := "(I)I" } : Jvm.MethodName) prog_8_method_7_code (3 : Nat) (Option.some Jvm.ClassFile.FieldType.int)) ∈ zz_T := zz_mem (List.mem_of_getElem? (i := 867) (by decide +kernel)) (by decide +kernel)
theorem wd_823 : (Jvm.Cond.methodLink "MobileCallModel" (95 : Nat) ({ cls := "MobileCallModel", name := "number", desc := "(I)I" } : Jvm.MethodName)) ∈ zz_T := zz_mem (List.mem_of_getElem? (i := 868) (by decide +kernel)) (by decide +kernel)
theorem wd_825 : (Jvm.Cond.instanceMethod ({ cls := "MobileCallModel", name := "number", desc := "(I)I" } : Jvm.MethodName)) ∈ zz_T := zz_mem (List.mem_of_getElem? (i := 870) (by decide +kernel)) (by decide +kernel)
theorem wd_826 : (Jvm.Cond.code ({ cls := "MobileCallModel", name := "number", desc := "(I)I" } : Jvm.MethodName) prog_8_method_9_code (5 : Nat) (Option.some Jvm.ClassFile.FieldType.int)) ∈ zz_T := zz_mem (List.mem_of_getElem? (i := 871) (by decide +kernel)) (by decide +kernel)
theorem wd_827 : (Jvm.Cond.methodLink "MobileCallModel" (108 : Nat) ({ cls := "MobileCallModel", name := "turned", desc := "(II)I" } : Jvm.MethodName)) ∈ zz_T := zz_mem (List.mem_of_getElem? (i := 872) (by decide +kernel)) (by decide +kernel)
theorem wd_828 : (Jvm.Cond.static ({ cls := "MobileCallModel", name := "turned", desc := "(II)I" } : Jvm.MethodName)) ∈ zz_T := zz_mem (List.mem_of_getElem? (i := 873) (by decide +kernel)) (by decide +kernel)
theorem wd_829 : (Jvm.Cond.code ({ cls := "MobileCallModel", name := "turned", desc := "(II)I" } : Jvm.MethodName) prog_8_method_10_code (3 : Nat) (Option.some Jvm.ClassFile.FieldType.int)) ∈ zz_T := zz_mem (List.mem_of_getElem? (i := 874) (by decide +kernel)) (by decide +kernel)
theorem wd_830 : (Jvm.Cond.constant "MobileCallModel" (79 : Nat) (16777619 : Int32)) ∈ zz_T := zz_mem (List.mem_of_getElem? (i := 875) (by decide +kernel)) (by decide +kernel)
theorem wd_831 : (Jvm.Cond.methodLink "MobileCallModel" (116 : Nat) ({ cls := "MobileCallModel", name := "setUp", desc := "()V" } : Jvm.MethodName)) ∈ zz_T := zz_mem (List.mem_of_getElem? (i := 876) (by decide +kernel)) (by decide +kernel)
theorem wd_833 : (Jvm.Cond.instanceMethod ({ cls := "MobileCallModel", name := "setUp", desc := "()V" } : Jvm.MethodName)) ∈ zz_T := zz_mem (List.mem_of_getElem? (i := 878) (by decide +kernel)) (by decide +kernel)
theorem wd_834 : (Jvm.Cond.code ({ cls := "MobileCallModel", name := "setUp", desc := "()V" } : Jvm.MethodName) prog_8_method_18_code (3 : Nat) (Option.none : Option Jvm.ClassFile.FieldType)) ∈ zz_T := zz_mem (List.mem_of_getElem? (i := 879) (by decide +kernel)) (by decide +kernel)
theorem wd_835 : (Jvm.Cond.methodLink "MobileCallModel" (159 : Nat) ({ cls := "MobileCallModel", name := "networkMoves", desc := "(I)Z" } : Jvm.MethodName)) ∈ zz_T := zz_mem (List.mem_of_getElem? (i := 880) (by decide +kernel)) (by decide +kernel)
theorem wd_837 : (Jvm.Cond.instanceMethod ({ cls := "MobileCallModel", name := "networkMoves", desc := "(I)Z" } : Jvm.MethodName)) ∈ zz_T := zz_mem (List.mem_of_getElem? (i := 882) (by decide +kernel)) (by decide +kernel)
theorem wd_838 : (Jvm.Cond.code ({ cls := "MobileCallModel", name := "networkMoves", desc := "(I)Z" } : Jvm.MethodName) prog_8_method_22_code (2 : Nat) (Option.some Jvm.ClassFile.FieldType.boolean)) ∈ zz_T := zz_mem (List.mem_of_getElem? (i := 883) (by decide +kernel)) (by decide +kernel)
theorem wd_839 : (Jvm.Cond.methodLink "MobileCallModel" (129 : Nat) ({ cls := "MobileCallModel", name := "ask", desc := "(I)V" } : Jvm.MethodName)) ∈ zz_T := zz_mem (List.mem_of_getElem? (i := 884) (by decide +kernel)) (by decide +kernel)
theorem wd_841 : (Jvm.Cond.instanceMethod ({ cls := "MobileCallModel", name := "ask", desc := "(I)V" } : Jvm.MethodName)) ∈ zz_T := zz_mem (List.mem_of_getElem? (i := 886) (by decide +kernel)) (by decide +kernel)
theorem wd_842 : (Jvm.Cond.code ({ cls := "MobileCallModel", name := "ask", desc := "(I)V" } : Jvm.MethodName) prog_8_method_20_code (2 : Nat) (Option.none : Option Jvm.ClassFile.FieldType)) ∈ zz_T := zz_mem (List.mem_of_getElem? (i := 887) (by decide +kernel)) (by decide +kernel)
theorem wd_843 : (Jvm.Cond.constant "MobileCallModel" (125 : Nat) (1103515245 : Int32)) ∈ zz_T := zz_mem (List.mem_of_getElem? (i := 888) (by decide +kernel)) (by decide +kernel)
theorem wd_844 : (Jvm.Cond.methodLink "MobileCallModel" (132 : Nat) ({ cls := "MobileCallModel", name := "judge", desc := "()V" } : Jvm.MethodName)) ∈ zz_T := zz_mem (List.mem_of_getElem? (i := 889) (by decide +kernel)) (by decide +kernel)
theorem wd_846 : (Jvm.Cond.instanceMethod ({ cls := "MobileCallModel", name := "judge", desc := "()V" } : Jvm.MethodName)) ∈ zz_T := zz_mem (List.mem_of_getElem? (i := 891) (by decide +kernel)) (by decide +kernel)
theorem wd_847 : (Jvm.Cond.code ({ cls := "MobileCallModel", name := "judge", desc := "()V" } : Jvm.MethodName) prog_8_method_21_code (3 : Nat) (Option.none : Option Jvm.ClassFile.FieldType)) ∈ zz_T := zz_mem (List.mem_of_getElem? (i := 892) (by decide +kernel)) (by decide +kernel)
theorem wd_848 : (Jvm.Cond.methodLink "MobileCallModel" (162 : Nat) ({ cls := "MobileCallModel", name := "mobileCalls", desc := "(I)Z" } : Jvm.MethodName)) ∈ zz_T := zz_mem (List.mem_of_getElem? (i := 893) (by decide +kernel)) (by decide +kernel)
theorem wd_850 : (Jvm.Cond.instanceMethod ({ cls := "MobileCallModel", name := "mobileCalls", desc := "(I)Z" } : Jvm.MethodName)) ∈ zz_T := zz_mem (List.mem_of_getElem? (i := 895) (by decide +kernel)) (by decide +kernel)
theorem wd_851 : (Jvm.Cond.code ({ cls := "MobileCallModel", name := "mobileCalls", desc := "(I)Z" } : Jvm.MethodName) prog_8_method_19_code (3 : Nat) (Option.some Jvm.ClassFile.FieldType.boolean)) ∈ zz_T := zz_mem (List.mem_of_getElem? (i := 896) (by decide +kernel)) (by decide +kernel)
theorem wd_852 : (Jvm.Cond.methodLink "MobileCallModel" (122 : Nat) ({ cls := "MobileCallModel", name := "closes", desc := "(II)Z" } : Jvm.MethodName)) ∈ zz_T := zz_mem (List.mem_of_getElem? (i := 897) (by decide +kernel)) (by decide +kernel)
theorem wd_854 : (Jvm.Cond.instanceMethod ({ cls := "MobileCallModel", name := "closes", desc := "(II)Z" } : Jvm.MethodName)) ∈ zz_T := zz_mem (List.mem_of_getElem? (i := 899) (by decide +kernel)) (by decide +kernel)
theorem wd_855 : (Jvm.Cond.code ({ cls := "MobileCallModel", name := "closes", desc := "(II)Z" } : Jvm.MethodName) prog_8_method_16_code (4 : Nat) (Option.some Jvm.ClassFile.FieldType.boolean)) ∈ zz_T := zz_mem (List.mem_of_getElem? (i := 900) (by decide +kernel)) (by decide +kernel)
theorem wd_856 : (Jvm.Cond.methodLink "MobileCallModel" (165 : Nat) ({ cls := "MobileCallModel", name := "networkCalls", desc := "(I)Z" } : Jvm.MethodName)) ∈ zz_T := zz_mem (List.mem_of_getElem? (i := 901) (by decide +kernel)) (by decide +kernel)
theorem wd_858 : (Jvm.Cond.instanceMethod ({ cls := "MobileCallModel", name := "networkCalls", desc := "(I)Z" } : Jvm.MethodName)) ∈ zz_T := zz_mem (List.mem_of_getElem? (i := 903) (by decide +kernel)) (by decide +kernel)
theorem wd_859 : (Jvm.Cond.code ({ cls := "MobileCallModel", name := "networkCalls", desc := "(I)Z" } : Jvm.MethodName) prog_8_method_23_code (4 : Nat) (Option.some Jvm.ClassFile.FieldType.boolean)) ∈ zz_T := zz_mem (List.mem_of_getElem? (i := 904) (by decide +kernel)) (by decide +kernel)
theorem wd_872 : (Jvm.Cond.constantLong "MobileCallModel" (171 : Nat) (255 : Int64)) ∈ zz_T := zz_mem (List.mem_of_getElem? (i := 917) (by decide +kernel)) (by decide +kernel)
theorem iaX0 : ∀ w ∈ wsX00, w ∈ lw_tbl := by decide +kernel
theorem ibX0 : ∀ w ∈ wsX00, zz_good w = true := by decide +kernel
theorem inX0 : ∀ w ∈ wsX00, w ∈ zz_T := fun w h => zz_mem (iaX0 w h) (ibX0 w h)
theorem ptX0 {k : Nat} : zz_pt k TX0 2 tyX0 := ⟨tyX0_ok, nmX0⟩
theorem iaX1 : ∀ w ∈ wsX10, w ∈ lw_tbl := by decide +kernel
theorem ibX1 : ∀ w ∈ wsX10, zz_good w = true := by decide +kernel
theorem inX1 : ∀ w ∈ wsX10, w ∈ zz_T := fun w h => zz_mem (iaX1 w h) (ibX1 w h)
theorem ptX1 {k : Nat} : zz_pt k TX1 11 tyX1 := ⟨tyX1_ok, nmX1⟩
theorem iaX2 : ∀ w ∈ wsX20, w ∈ lw_tbl := by decide +kernel
theorem ibX2 : ∀ w ∈ wsX20, zz_good w = true := by decide +kernel
theorem inX2 : ∀ w ∈ wsX20, w ∈ zz_T := fun w h => zz_mem (iaX2 w h) (ibX2 w h)
theorem ptX2 {k : Nat} : zz_pt k TX2 15 tyX2 := ⟨tyX2_ok, nmX2⟩
theorem iaX4 : ∀ w ∈ wsX40, w ∈ lw_tbl := by decide +kernel
theorem ibX4 : ∀ w ∈ wsX40, zz_good w = true := by decide +kernel
theorem inX4 : ∀ w ∈ wsX40, w ∈ zz_T := fun w h => zz_mem (iaX4 w h) (ibX4 w h)
theorem ptX4 {k : Nat} : zz_pt k TX4 5 tyX4 := ⟨tyX4_ok, nmX4⟩
theorem iaX5 : ∀ w ∈ wsX50, w ∈ lw_tbl := by decide +kernel
theorem ibX5 : ∀ w ∈ wsX50, zz_good w = true := by decide +kernel
theorem inX5 : ∀ w ∈ wsX50, w ∈ zz_T := fun w h => zz_mem (iaX5 w h) (ibX5 w h)
theorem ptX5 {k : Nat} : zz_pt k TX5 5 tyX5 := ⟨tyX5_ok, nmX5⟩
theorem iaX6 : ∀ w ∈ wsX60, w ∈ lw_tbl := by decide +kernel
theorem ibX6 : ∀ w ∈ wsX60, zz_good w = true := by decide +kernel
theorem inX6 : ∀ w ∈ wsX60, w ∈ zz_T := fun w h => zz_mem (iaX6 w h) (ibX6 w h)
theorem ptX6 {k : Nat} : zz_pt k TX6 23 tyX6 := ⟨tyX6_ok, nmX6⟩
theorem yv_X6_80 : zz_yv RX6 80 yX6_way cX6_way 2 (some .int) 1 := ⟨wd_727, wd_729, wp_24, wd_7, wd_730, by decide, by decide +kernel⟩
theorem yv_X6_64 : zz_yv RX6 64 yX6_put cX6_put 5 (some .int) 3 := ⟨wd_731, wd_733, wp_25, wd_7, wd_734, by decide, by decide +kernel⟩
theorem fd_X6_23_X6 : zz_fd RX6 23 5 9 RX6 TX6 23 RX6 := ⟨rfl, by decide, inX6, wd_653, Or.inl rfl⟩
theorem yv_X6_83 : zz_yv RX6 83 yX6_become cX6_become 5 none 4 := ⟨wd_735, wd_737, wp_26, wd_7, wd_738, by decide, by decide +kernel⟩
theorem yv_X6_112 : zz_yv RX6 112 yX6_tell cX6_tell 9 none 6 := ⟨wd_743, wd_745, wp_28, wd_7, wd_746, by decide, by decide +kernel⟩
theorem fd_X6_26_X6 : zz_fd RX6 26 5 10 RX6 TX6 23 RX6 := ⟨rfl, by decide, inX6, wd_654, Or.inl rfl⟩
theorem yv_X6_102 : zz_yv RX6 102 yX6_rest cX6_rest 2 (some .int) 1 := ⟨wd_739, wd_741, wp_27, wd_7, wd_742, by decide, by decide +kernel⟩
theorem yv_X6_87 : zz_yv RX6 87 yX6_has cX6_has 4 (some .boolean) 2 := ⟨wd_815, wd_817, wp_35, wd_7, wd_818, by decide, by decide +kernel⟩
theorem yv_X6_91 : zz_yv RX6 91 yX6_isCall cX6_isCall 4 (some .boolean) 3 := ⟨wd_768, wd_770, wp_30, wd_7, wd_771, by decide, by decide +kernel⟩
theorem fd_X6_36_X6 : zz_fd RX6 36 5 13 RX6 TX6 23 RX6 := ⟨rfl, by decide, inX6, wd_657, Or.inl rfl⟩
theorem yv_X6_95 : zz_yv RX6 95 yX6_number cX6_number 5 (some .int) 1 := ⟨wd_823, wd_825, wp_37, wd_7, wd_826, by decide, by decide +kernel⟩
theorem yv_X6_98 : zz_yv RX6 98 yX6_release cX6_release 2 none 1 := ⟨wd_723, wd_725, wp_23, wd_7, wd_726, by decide, by decide +kernel⟩
theorem yv_X6_68 : zz_yv RX6 68 yX6_more cX6_more 3 none 2 := ⟨wd_747, wd_749, wp_29, wd_7, wd_750, by decide, by decide +kernel⟩
theorem fd_X6_119_X6 : zz_fd RX6 119 5 18 RX6 TX6 23 RX6 := ⟨rfl, by decide, inX6, wd_662, Or.inl rfl⟩
theorem fd_X6_42_X6 : zz_fd RX6 42 5 17 RX6 TX6 23 RX6 := ⟨rfl, by decide, inX6, wd_661, Or.inl rfl⟩
theorem fd_X6_105_X6 : zz_fd RX6 105 5 14 RX6 TX6 23 RX6 := ⟨rfl, by decide, inX6, wd_658, Or.inl rfl⟩
theorem fd_X6_51_X6 : zz_fd RX6 51 5 0 RX6 TX6 23 RX6 := ⟨rfl, by decide, inX6, wd_644, Or.inl rfl⟩
theorem ys_X6_108 : zz_ys RX6 108 yX6_turned cX6_turned 3 (some .int) 2 := ⟨wd_827, wd_828, wd_7, wd_829, by decide, by decide +kernel⟩
theorem yv_X6_116 : zz_yv RX6 116 yX6_setUp cX6_setUp 3 none 0 := ⟨wd_831, wd_833, wp_38, wd_7, wd_834, by decide, by decide +kernel⟩
theorem yv_X6_122 : zz_yv RX6 122 yX6_closes cX6_closes 4 (some .boolean) 2 := ⟨wd_852, wd_854, wp_43, wd_7, wd_855, by decide, by decide +kernel⟩
theorem fd_X6_57_X6 : zz_fd RX6 57 5 2 RX6 TX6 23 RX6 := ⟨rfl, by decide, inX6, wd_646, Or.inl rfl⟩
theorem fd_X6_54_X6 : zz_fd RX6 54 5 1 RX6 TX6 23 RX6 := ⟨rfl, by decide, inX6, wd_645, Or.inl rfl⟩
theorem fd_X6_7_X6 : zz_fd RX6 7 5 3 RX6 TX6 23 RX6 := ⟨rfl, by decide, inX6, wd_647, Or.inl rfl⟩
theorem fd_X6_126_X6 : zz_fd RX6 126 5 16 RX6 TX6 23 RX6 := ⟨rfl, by decide, inX6, wd_660, Or.inl rfl⟩
theorem fd_X6_39_X6 : zz_fd RX6 39 5 15 RX6 TX6 23 RX6 := ⟨rfl, by decide, inX6, wd_659, Or.inl rfl⟩
theorem yv_X6_129 : zz_yv RX6 129 yX6_ask cX6_ask 2 none 1 := ⟨wd_839, wd_841, wp_40, wd_7, wd_842, by decide, by decide +kernel⟩
theorem yv_X6_132 : zz_yv RX6 132 yX6_judge cX6_judge 3 none 0 := ⟨wd_844, wd_846, wp_41, wd_7, wd_847, by decide, by decide +kernel⟩
theorem fd_X6_32_X6 : zz_fd RX6 32 5 12 RX6 TX6 23 RX6 := ⟨rfl, by decide, inX6, wd_656, Or.inl rfl⟩
theorem fd_X6_29_X6 : zz_fd RX6 29 5 11 RX6 TX6 23 RX6 := ⟨rfl, by decide, inX6, wd_655, Or.inl rfl⟩
theorem yv_X6_142 : zz_yv RX6 142 yX6_end cX6_end 3 none 2 := ⟨wd_772, wd_774, wp_31, wd_7, wd_775, by decide, by decide +kernel⟩
theorem fd_X6_60_X6 : zz_fd RX6 60 5 4 RX6 TX6 23 RX6 := ⟨rfl, by decide, inX6, wd_648, Or.inl rfl⟩
theorem fd_X6_13_X6 : zz_fd RX6 13 5 5 RX6 TX6 23 RX6 := ⟨rfl, by decide, inX6, wd_649, Or.inl rfl⟩
theorem fd_X6_135_X6 : zz_fd RX6 135 5 20 RX6 TX6 23 RX6 := ⟨rfl, by decide, inX6, wd_664, Or.inl rfl⟩
theorem fd_X6_45_X6 : zz_fd RX6 45 5 19 RX6 TX6 23 RX6 := ⟨rfl, by decide, inX6, wd_663, Or.inl rfl⟩
theorem fd_X6_168_X6 : zz_fd RX6 168 5 8 RX6 TX6 23 RX6 := ⟨rfl, by decide, inX6, wd_652, Or.inl rfl⟩
theorem ys_X6_145 : zz_ys RX6 145 yX6_isWay cX6_isWay 1 (some .boolean) 1 := ⟨wd_800, wd_801, wd_7, wd_802, by decide, by decide +kernel⟩
theorem fd_X6_17_X6 : zz_fd RX6 17 5 6 RX6 TX6 23 RX6 := ⟨rfl, by decide, inX6, wd_650, Or.inl rfl⟩
theorem fd_X6_20_X6 : zz_fd RX6 20 5 7 RX6 TX6 23 RX6 := ⟨rfl, by decide, inX6, wd_651, Or.inl rfl⟩
theorem yv_X6_75 : zz_yv RX6 75 yX6_find cX6_find 3 (some .int) 1 := ⟨wd_819, wd_821, wp_36, wd_7, wd_822, by decide, by decide +kernel⟩
theorem fd_X6_48_X6 : zz_fd RX6 48 5 22 RX6 TX6 23 RX6 := ⟨rfl, by decide, inX6, wd_666, Or.inl rfl⟩
theorem yv_X6_149 : zz_yv RX6 149 yX6_take cX6_take 5 none 1 := ⟨wd_803, wd_805, wp_32, wd_7, wd_806, by decide, by decide +kernel⟩
theorem yv_X6_152 : zz_yv RX6 152 yX6_isGood cX6_isGood 2 (some .boolean) 0 := ⟨wd_807, wd_809, wp_33, wd_7, wd_810, by decide, by decide +kernel⟩
theorem yv_X6_165 : zz_yv RX6 165 yX6_networkCalls cX6_networkCalls 4 (some .boolean) 1 := ⟨wd_856, wd_858, wp_44, wd_7, wd_859, by decide, by decide +kernel⟩
theorem yv_X6_159 : zz_yv RX6 159 yX6_networkMoves cX6_networkMoves 2 (some .boolean) 1 := ⟨wd_835, wd_837, wp_39, wd_7, wd_838, by decide, by decide +kernel⟩
theorem yv_X6_162 : zz_yv RX6 162 yX6_mobileCalls cX6_mobileCalls 3 (some .boolean) 1 := ⟨wd_848, wd_850, wp_42, wd_7, wd_851, by decide, by decide +kernel⟩
theorem yv_X6_156 : zz_yv RX6 156 yX6_mobileMoves cX6_mobileMoves 3 (some .boolean) 1 := ⟨wd_811, wd_813, wp_34, wd_7, wd_814, by decide, by decide +kernel⟩
theorem yv_X6_138 : zz_yv RX6 138 yX6_out cX6_out 3 none 1 := ⟨wd_719, wd_721, wp_22, wd_7, wd_722, by decide, by decide +kernel⟩
theorem fd_X6_72_X6 : zz_fd RX6 72 5 21 RX6 TX6 23 RX6 := ⟨rfl, by decide, inX6, wd_665, Or.inl rfl⟩
