theorem wp_25 : Cond.selects "MobileCallModel" ⟨"MobileCallModel", "put", "(III)I"⟩ ⟨"MobileCallModel", "put", "(III)I"⟩ ∈ zz_T := zz_mem (List.mem_of_getElem? (i := 25) (by decide +kernel)) (by decide +kernel)
theorem wp_29 : Cond.selects "MobileCallModel" ⟨"MobileCallModel", "more", "(II)V"⟩ ⟨"MobileCallModel", "more", "(II)V"⟩ ∈ zz_T := zz_mem (List.mem_of_getElem? (i := 29) (by decide +kernel)) (by decide +kernel)
theorem wd_7 : (Jvm.Cond.initialized "MobileCallModel") ∈ zz_T := zz_mem (List.mem_of_getElem? (i := 52) (by decide +kernel)) (by decide +kernel)
theorem wd_646 : (Jvm.Cond.fieldLink "MobileCallModel" (60 : Nat) "MobileCallModel" "silent" "Z") ∈ zz_T := zz_mem (List.mem_of_getElem? (i := 691) (by decide +kernel)) (by decide +kernel)
theorem wd_647 : (Jvm.Cond.fieldLink "MobileCallModel" (13 : Nat) "MobileCallModel" "counts" "[I") ∈ zz_T := zz_mem (List.mem_of_getElem? (i := 692) (by decide +kernel)) (by decide +kernel)
theorem wd_648 : (Jvm.Cond.fieldLink "MobileCallModel" (17 : Nat) "MobileCallModel" "sizes" "[I") ∈ zz_T := zz_mem (List.mem_of_getElem? (i := 693) (by decide +kernel)) (by decide +kernel)
theorem wd_649 : (Jvm.Cond.fieldLink "MobileCallModel" (20 : Nat) "MobileCallModel" "bytes" "[I") ∈ zz_T := zz_mem (List.mem_of_getElem? (i := 694) (by decide +kernel)) (by decide +kernel)
theorem wd_651 : (Jvm.Cond.fieldLink "MobileCallModel" (23 : Nat) "MobileCallModel" "states" "[I") ∈ zz_T := zz_mem (List.mem_of_getElem? (i := 696) (by decide +kernel)) (by decide +kernel)
theorem wd_652 : (Jvm.Cond.fieldLink "MobileCallModel" (26 : Nat) "MobileCallModel" "calls" "[I") ∈ zz_T := zz_mem (List.mem_of_getElem? (i := 697) (by decide +kernel)) (by decide +kernel)
theorem wd_653 : (Jvm.Cond.fieldLink "MobileCallModel" (29 : Nat) "MobileCallModel" "timers" "[I") ∈ zz_T := zz_mem (List.mem_of_getElem? (i := 698) (by decide +kernel)) (by decide +kernel)
theorem wd_654 : (Jvm.Cond.fieldLink "MobileCallModel" (32 : Nat) "MobileCallModel" "twice" "[Z") ∈ zz_T := zz_mem (List.mem_of_getElem? (i := 699) (by decide +kernel)) (by decide +kernel)
theorem wd_729 : (Jvm.Cond.methodLink "MobileCallModel" (64 : Nat) ({ cls := "MobileCallModel", name := "put", desc := "(III)I" } : Jvm.MethodName)) ∈ zz_T := zz_mem (List.mem_of_getElem? (i := 774) (by decide +kernel)) (by decide +kernel)
theorem wd_731 : (Jvm.Cond.instanceMethod ({ cls := "MobileCallModel", name := "put", desc := "(III)I" } : Jvm.MethodName)) ∈ zz_T := zz_mem (List.mem_of_getElem? (i := 776) (by decide +kernel)) (by decide +kernel)
theorem wd_732 : (Jvm.Cond.code ({ cls := "MobileCallModel", name := "put", desc := "(III)I" } : Jvm.MethodName) prog_8_method_2_code (5 : Nat) (Option.some Jvm.ClassFile.FieldType.int)) ∈ zz_T := zz_mem (List.mem_of_getElem? (i := 777) (by decide +kernel)) (by decide +kernel)
theorem wd_745 : (Jvm.Cond.methodLink "MobileCallModel" (68 : Nat) ({ cls := "MobileCallModel", name := "more", desc := "(II)V" } : Jvm.MethodName)) ∈ zz_T := zz_mem (List.mem_of_getElem? (i := 790) (by decide +kernel)) (by decide +kernel)
theorem wd_747 : (Jvm.Cond.instanceMethod ({ cls := "MobileCallModel", name := "more", desc := "(II)V" } : Jvm.MethodName)) ∈ zz_T := zz_mem (List.mem_of_getElem? (i := 792) (by decide +kernel)) (by decide +kernel)
theorem wd_748 : (Jvm.Cond.code ({ cls := "MobileCallModel", name := "more", desc := "(II)V" } : Jvm.MethodName) prog_8_method_3_code (3 : Nat) (Option.none : Option Jvm.ClassFile.FieldType)) ∈ zz_T := zz_mem (List.mem_of_getElem? (i := 793) (by decide +kernel)) (by decide +kernel)
theorem wd_828 : (Jvm.Cond.constant "MobileCallModel" (79 : Nat) (16777619 : Int32)) ∈ zz_T := zz_mem (List.mem_of_getElem? (i := 873) (by decide +kernel)) (by decide +kernel)
theorem iaX0 : ∀ w ∈ wsX00, w ∈ lw_tbl := by decide +kernel
theorem ibX0 : ∀ w ∈ wsX00, zz_good w = true := by decide +kernel
theorem inX0 : ∀ w ∈ wsX00, w ∈ zz_T := fun w h => zz_mem (iaX0 w h) (ibX0 w h)
theorem ptX0 {k : Nat} : zz_pt k TX0 2 tyX0 := ⟨tyX0_ok, nmX0⟩
theorem iaX1 : ∀ w ∈ wsX10, w ∈ lw_tbl := by decide +kernel
theorem ibX1 : ∀ w ∈ wsX10, zz_good w = true := by decide +kernel
theorem inX1 : ∀ w ∈ wsX10, w ∈ zz_T := fun w h => zz_mem (iaX1 w h) (ibX1 w h)
theorem ptX1 {k : Nat} : zz_pt k TX1 11 tyX1 := ⟨tyX1_ok, nmX1⟩
theorem iaX2 : ∀ w ∈ wsX20, w ∈ lw_tbl := by decide +kernel
theorem ibX2 : ∀ w ∈ wsX20, zz_good w = true := by decide +kernel
theorem inX2 : ∀ w ∈ wsX20, w ∈ zz_T := fun w h => zz_mem (iaX2 w h) (ibX2 w h)
theorem ptX2 {k : Nat} : zz_pt k TX2 15 tyX2 := ⟨tyX2_ok, nmX2⟩
theorem iaX4 : ∀ w ∈ wsX40, w ∈ lw_tbl := by decide +kernel
theorem ibX4 : ∀ w ∈ wsX40, zz_good w = true := by decide +kernel
theorem inX4 : ∀ w ∈ wsX40, w ∈ zz_T := fun w h => zz_mem (iaX4 w h) (ibX4 w h)
theorem ptX4 {k : Nat} : zz_pt k TX4 5 tyX4 := ⟨tyX4_ok, nmX4⟩
theorem iaX5 : ∀ w ∈ wsX50, w ∈ lw_tbl := by decide +kernel
theorem ibX5 : ∀ w ∈ wsX50, zz_good w = true := by decide +kernel
theorem inX5 : ∀ w ∈ wsX50, w ∈ zz_T := fun w h => zz_mem (iaX5 w h) (ibX5 w h)
theorem ptX5 {k : Nat} : zz_pt k TX5 5 tyX5 := ⟨tyX5_ok, nmX5⟩
theorem iaX6 : ∀ w ∈ wsX60, w ∈ lw_tbl := by decide +kernel
theorem ibX6 : ∀ w ∈ wsX60, zz_good w = true := by decide +kernel
theorem inX6 : ∀ w ∈ wsX60, w ∈ zz_T := fun w h => zz_mem (iaX6 w h) (ibX6 w h)
theorem ptX6 {k : Nat} : zz_pt k TX6 23 tyX6 := ⟨tyX6_ok, nmX6⟩
theorem fd_X6_23_X6 : zz_fd RX6 23 5 9 RX6 TX6 23 RX6 := ⟨rfl, by decide, inX6, wd_651, Or.inl rfl⟩
theorem fd_X6_26_X6 : zz_fd RX6 26 5 10 RX6 TX6 23 RX6 := ⟨rfl, by decide, inX6, wd_652, Or.inl rfl⟩
theorem fd_X6_29_X6 : zz_fd RX6 29 5 11 RX6 TX6 23 RX6 := ⟨rfl, by decide, inX6, wd_653, Or.inl rfl⟩
theorem fd_X6_32_X6 : zz_fd RX6 32 5 12 RX6 TX6 23 RX6 := ⟨rfl, by decide, inX6, wd_654, Or.inl rfl⟩
theorem fd_X6_60_X6 : zz_fd RX6 60 5 4 RX6 TX6 23 RX6 := ⟨rfl, by decide, inX6, wd_646, Or.inl rfl⟩
theorem fd_X6_13_X6 : zz_fd RX6 13 5 5 RX6 TX6 23 RX6 := ⟨rfl, by decide, inX6, wd_647, Or.inl rfl⟩
theorem fd_X6_17_X6 : zz_fd RX6 17 5 6 RX6 TX6 23 RX6 := ⟨rfl, by decide, inX6, wd_648, Or.inl rfl⟩
theorem fd_X6_20_X6 : zz_fd RX6 20 5 7 RX6 TX6 23 RX6 := ⟨rfl, by decide, inX6, wd_649, Or.inl rfl⟩
theorem yv_X6_64 : zz_yv RX6 64 yX6_put cX6_put 5 (some .int) 3 := ⟨wd_729, wd_731, wp_25, wd_7, wd_732, by decide, by decide +kernel⟩
theorem yv_X6_68 : zz_yv RX6 68 yX6_more cX6_more 3 none 2 := ⟨wd_745, wd_747, wp_29, wd_7, wd_748, by decide, by decide +kernel⟩
