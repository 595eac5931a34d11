section
-- ===== PART A: goes FIRST, ahead of the names: the tables' words, and 'selects' of the private methods out of them =====
/-- a private method of a class that the tables say can be made, by its rows of tables_1 -/
def lw_okq (q : MethodName × Nat) : Prop := (q.1.cls ≠ "java/lang/invoke/MethodHandle" ∧ q.1.cls ≠ "java/lang/invoke/VarHandle") ∧ Cond.instantiable q.1.cls q.2 ∈ tables_1 ∧ Cond.privateMethod q.1 ∈ tables_1 ∧ Cond.instanceMethod q.1 ∈ tables_1
theorem lw_p0 : lw_okq (⟨"MobileCall$Mobile", "keepDigits", "(II)V"⟩, 11) := ⟨⟨by decide +kernel, by decide +kernel⟩, List.mem_of_getElem? (i := 54) (by decide +kernel), List.mem_of_getElem? (i := 240) (by decide +kernel), List.mem_of_getElem? (i := 241) (by decide +kernel)⟩
theorem lw_p1 : lw_okq (⟨"MobileCall", "row", "(I)LMobileCall$Row;"⟩, 5) := ⟨⟨by decide +kernel, by decide +kernel⟩, List.mem_of_getElem? (i := 9) (by decide +kernel), List.mem_of_getElem? (i := 348) (by decide +kernel), List.mem_of_getElem? (i := 349) (by decide +kernel)⟩
theorem lw_p2 : lw_okq (⟨"MobileCall$Mobile", "takesUpdated", "(LMobileCall$Message;)Z"⟩, 11) := ⟨⟨by decide +kernel, by decide +kernel⟩, List.mem_of_getElem? (i := 54) (by decide +kernel), List.mem_of_getElem? (i := 381) (by decide +kernel), List.mem_of_getElem? (i := 382) (by decide +kernel)⟩
theorem lw_p3 : lw_okq (⟨"MobileCall$Message", "find", "(I)I"⟩, 2) := ⟨⟨by decide +kernel, by decide +kernel⟩, List.mem_of_getElem? (i := 24) (by decide +kernel), List.mem_of_getElem? (i := 393) (by decide +kernel), List.mem_of_getElem? (i := 394) (by decide +kernel)⟩
theorem lw_p4 : lw_okq (⟨"MobileCall$Mobile", "takesRefusal", "(LMobileCall$Message;II)Z"⟩, 11) := ⟨⟨by decide +kernel, by decide +kernel⟩, List.mem_of_getElem? (i := 54) (by decide +kernel), List.mem_of_getElem? (i := 401) (by decide +kernel), List.mem_of_getElem? (i := 402) (by decide +kernel)⟩
theorem lw_p5 : lw_okq (⟨"MobileCall$Mobile", "takesChallenge", "(LMobileCall$Message;)Z"⟩, 11) := ⟨⟨by decide +kernel, by decide +kernel⟩, List.mem_of_getElem? (i := 54) (by decide +kernel), List.mem_of_getElem? (i := 405) (by decide +kernel), List.mem_of_getElem? (i := 406) (by decide +kernel)⟩
theorem lw_p6 : lw_okq (⟨"MobileCall$Mobile", "takesExpelled", "()Z"⟩, 11) := ⟨⟨by decide +kernel, by decide +kernel⟩, List.mem_of_getElem? (i := 54) (by decide +kernel), List.mem_of_getElem? (i := 415) (by decide +kernel), List.mem_of_getElem? (i := 416) (by decide +kernel)⟩
theorem lw_p7 : lw_okq (⟨"MobileCall$Mobile", "takesServed", "()Z"⟩, 11) := ⟨⟨by decide +kernel, by decide +kernel⟩, List.mem_of_getElem? (i := 54) (by decide +kernel), List.mem_of_getElem? (i := 419) (by decide +kernel), List.mem_of_getElem? (i := 420) (by decide +kernel)⟩
theorem lw_p8 : lw_okq (⟨"MobileCall$Mobile", "sendSetUp", "()V"⟩, 11) := ⟨⟨by decide +kernel, by decide +kernel⟩, List.mem_of_getElem? (i := 54) (by decide +kernel), List.mem_of_getElem? (i := 423) (by decide +kernel), List.mem_of_getElem? (i := 424) (by decide +kernel)⟩
theorem lw_p9 : lw_okq (⟨"MobileCall$Network", "takesUpdate", "(LMobileCall$Message;)Z"⟩, 15) := ⟨⟨by decide +kernel, by decide +kernel⟩, List.mem_of_getElem? (i := 123) (by decide +kernel), List.mem_of_getElem? (i := 435) (by decide +kernel), List.mem_of_getElem? (i := 436) (by decide +kernel)⟩
theorem lw_p10 : lw_okq (⟨"MobileCall$Network", "sendChallenge", "(I)V"⟩, 15) := ⟨⟨by decide +kernel, by decide +kernel⟩, List.mem_of_getElem? (i := 123) (by decide +kernel), List.mem_of_getElem? (i := 441) (by decide +kernel), List.mem_of_getElem? (i := 442) (by decide +kernel)⟩
theorem lw_p11 : lw_okq (⟨"MobileCall$Network", "takesService", "()Z"⟩, 15) := ⟨⟨by decide +kernel, by decide +kernel⟩, List.mem_of_getElem? (i := 123) (by decide +kernel), List.mem_of_getElem? (i := 450) (by decide +kernel), List.mem_of_getElem? (i := 451) (by decide +kernel)⟩
theorem lw_p12 : lw_okq (⟨"MobileCall$Network", "takesAnswer", "(LMobileCall$Message;)Z"⟩, 15) := ⟨⟨by decide +kernel, by decide +kernel⟩, List.mem_of_getElem? (i := 123) (by decide +kernel), List.mem_of_getElem? (i := 454) (by decide +kernel), List.mem_of_getElem? (i := 455) (by decide +kernel)⟩
theorem lw_p13 : lw_okq (⟨"MobileCall$Network", "forgetMobile", "()V"⟩, 15) := ⟨⟨by decide +kernel, by decide +kernel⟩, List.mem_of_getElem? (i := 123) (by decide +kernel), List.mem_of_getElem? (i := 460) (by decide +kernel), List.mem_of_getElem? (i := 461) (by decide +kernel)⟩
theorem lw_p14 : lw_okq (⟨"MobileCall$Network", "decideUpdate", "()V"⟩, 15) := ⟨⟨by decide +kernel, by decide +kernel⟩, List.mem_of_getElem? (i := 123) (by decide +kernel), List.mem_of_getElem? (i := 465) (by decide +kernel), List.mem_of_getElem? (i := 466) (by decide +kernel)⟩
theorem lw_p15 : lw_okq (⟨"MobileCall$Network", "decideService", "()V"⟩, 15) := ⟨⟨by decide +kernel, by decide +kernel⟩, List.mem_of_getElem? (i := 123) (by decide +kernel), List.mem_of_getElem? (i := 469) (by decide +kernel), List.mem_of_getElem? (i := 470) (by decide +kernel)⟩
def lw_privs_1 : List (MethodName × Nat) := [(⟨"MobileCall$Mobile", "keepDigits", "(II)V"⟩, 11), (⟨"MobileCall", "row", "(I)LMobileCall$Row;"⟩, 5), (⟨"MobileCall$Mobile", "takesUpdated", "(LMobileCall$Message;)Z"⟩, 11), (⟨"MobileCall$Message", "find", "(I)I"⟩, 2), (⟨"MobileCall$Mobile", "takesRefusal", "(LMobileCall$Message;II)Z"⟩, 11), (⟨"MobileCall$Mobile", "takesChallenge", "(LMobileCall$Message;)Z"⟩, 11), (⟨"MobileCall$Mobile", "takesExpelled", "()Z"⟩, 11), (⟨"MobileCall$Mobile", "takesServed", "()Z"⟩, 11), (⟨"MobileCall$Mobile", "sendSetUp", "()V"⟩, 11), (⟨"MobileCall$Network", "takesUpdate", "(LMobileCall$Message;)Z"⟩, 15), (⟨"MobileCall$Network", "sendChallenge", "(I)V"⟩, 15), (⟨"MobileCall$Network", "takesService", "()Z"⟩, 15), (⟨"MobileCall$Network", "takesAnswer", "(LMobileCall$Message;)Z"⟩, 15), (⟨"MobileCall$Network", "forgetMobile", "()V"⟩, 15), (⟨"MobileCall$Network", "decideUpdate", "()V"⟩, 15), (⟨"MobileCall$Network", "decideService", "()V"⟩, 15)]
theorem lw_r1 : ∀ q ∈ lw_privs_1, lw_okq q := List.forall_mem_cons.mpr ⟨lw_p0, List.forall_mem_cons.mpr ⟨lw_p1, List.forall_mem_cons.mpr ⟨lw_p2, List.forall_mem_cons.mpr ⟨lw_p3, List.forall_mem_cons.mpr ⟨lw_p4, List.forall_mem_cons.mpr ⟨lw_p5, List.forall_mem_cons.mpr ⟨lw_p6, List.forall_mem_cons.mpr ⟨lw_p7, List.forall_mem_cons.mpr ⟨lw_p8, List.forall_mem_cons.mpr ⟨lw_p9, List.forall_mem_cons.mpr ⟨lw_p10, List.forall_mem_cons.mpr ⟨lw_p11, List.forall_mem_cons.mpr ⟨lw_p12, List.forall_mem_cons.mpr ⟨lw_p13, List.forall_mem_cons.mpr ⟨lw_p14, List.forall_mem_cons.mpr ⟨lw_p15, fun _ h => absurd h List.not_mem_nil⟩⟩⟩⟩⟩⟩⟩⟩⟩⟩⟩⟩⟩⟩⟩⟩
theorem lw_p16 : lw_okq (⟨"MobileCall$Network", "takesDetach", "()Z"⟩, 15) := ⟨⟨by decide +kernel, by decide +kernel⟩, List.mem_of_getElem? (i := 123) (by decide +kernel), List.mem_of_getElem? (i := 473) (by decide +kernel), List.mem_of_getElem? (i := 474) (by decide +kernel)⟩
theorem lw_p17 : lw_okq (⟨"MobileCall$Mobile", "takesProgress", "(II)Z"⟩, 11) := ⟨⟨by decide +kernel, by decide +kernel⟩, List.mem_of_getElem? (i := 54) (by decide +kernel), List.mem_of_getElem? (i := 483) (by decide +kernel), List.mem_of_getElem? (i := 484) (by decide +kernel)⟩
theorem lw_p18 : lw_okq (⟨"MobileCall$Mobile", "takesConnect", "()Z"⟩, 11) := ⟨⟨by decide +kernel, by decide +kernel⟩, List.mem_of_getElem? (i := 54) (by decide +kernel), List.mem_of_getElem? (i := 490) (by decide +kernel), List.mem_of_getElem? (i := 491) (by decide +kernel)⟩
theorem lw_p19 : lw_okq (⟨"MobileCall$Network", "takesSetUp", "(LMobileCall$Message;)Z"⟩, 15) := ⟨⟨by decide +kernel, by decide +kernel⟩, List.mem_of_getElem? (i := 123) (by decide +kernel), List.mem_of_getElem? (i := 522) (by decide +kernel), List.mem_of_getElem? (i := 523) (by decide +kernel)⟩
theorem lw_p20 : lw_okq (⟨"MobileCall$Message", "hasByte", "(I)Z"⟩, 2) := ⟨⟨by decide +kernel, by decide +kernel⟩, List.mem_of_getElem? (i := 24) (by decide +kernel), List.mem_of_getElem? (i := 535) (by decide +kernel), List.mem_of_getElem? (i := 536) (by decide +kernel)⟩
theorem lw_p21 : lw_okq (⟨"MobileCall$Network", "takesConnected", "()Z"⟩, 15) := ⟨⟨by decide +kernel, by decide +kernel⟩, List.mem_of_getElem? (i := 123) (by decide +kernel), List.mem_of_getElem? (i := 539) (by decide +kernel), List.mem_of_getElem? (i := 540) (by decide +kernel)⟩
theorem lw_p22 : lw_okq (⟨"MobileCallModel", "out", "(I)V"⟩, 23) := ⟨⟨by decide +kernel, by decide +kernel⟩, List.mem_of_getElem? (i := 637) (by decide +kernel), List.mem_of_getElem? (i := 718) (by decide +kernel), List.mem_of_getElem? (i := 719) (by decide +kernel)⟩
theorem lw_p23 : lw_okq (⟨"MobileCallModel", "release", "(I)V"⟩, 23) := ⟨⟨by decide +kernel, by decide +kernel⟩, List.mem_of_getElem? (i := 637) (by decide +kernel), List.mem_of_getElem? (i := 722) (by decide +kernel), List.mem_of_getElem? (i := 723) (by decide +kernel)⟩
theorem lw_p24 : lw_okq (⟨"MobileCallModel", "way", "(I)I"⟩, 23) := ⟨⟨by decide +kernel, by decide +kernel⟩, List.mem_of_getElem? (i := 637) (by decide +kernel), List.mem_of_getElem? (i := 726) (by decide +kernel), List.mem_of_getElem? (i := 727) (by decide +kernel)⟩
theorem lw_p25 : lw_okq (⟨"MobileCallModel", "put", "(III)I"⟩, 23) := ⟨⟨by decide +kernel, by decide +kernel⟩, List.mem_of_getElem? (i := 637) (by decide +kernel), List.mem_of_getElem? (i := 730) (by decide +kernel), List.mem_of_getElem? (i := 731) (by decide +kernel)⟩
theorem lw_p26 : lw_okq (⟨"MobileCallModel", "become", "(IIII)V"⟩, 23) := ⟨⟨by decide +kernel, by decide +kernel⟩, List.mem_of_getElem? (i := 637) (by decide +kernel), List.mem_of_getElem? (i := 734) (by decide +kernel), List.mem_of_getElem? (i := 735) (by decide +kernel)⟩
theorem lw_p27 : lw_okq (⟨"MobileCallModel", "rest", "(I)I"⟩, 23) := ⟨⟨by decide +kernel, by decide +kernel⟩, List.mem_of_getElem? (i := 637) (by decide +kernel), List.mem_of_getElem? (i := 738) (by decide +kernel), List.mem_of_getElem? (i := 739) (by decide +kernel)⟩
theorem lw_p28 : lw_okq (⟨"MobileCallModel", "tell", "(IIIIII)V"⟩, 23) := ⟨⟨by decide +kernel, by decide +kernel⟩, List.mem_of_getElem? (i := 637) (by decide +kernel), List.mem_of_getElem? (i := 742) (by decide +kernel), List.mem_of_getElem? (i := 743) (by decide +kernel)⟩
theorem lw_p29 : lw_okq (⟨"MobileCallModel", "more", "(II)V"⟩, 23) := ⟨⟨by decide +kernel, by decide +kernel⟩, List.mem_of_getElem? (i := 637) (by decide +kernel), List.mem_of_getElem? (i := 746) (by decide +kernel), List.mem_of_getElem? (i := 747) (by decide +kernel)⟩
theorem lw_p30 : lw_okq (⟨"MobileCallModel", "isCall", "(III)Z"⟩, 23) := ⟨⟨by decide +kernel, by decide +kernel⟩, List.mem_of_getElem? (i := 637) (by decide +kernel), List.mem_of_getElem? (i := 767) (by decide +kernel), List.mem_of_getElem? (i := 768) (by decide +kernel)⟩
theorem lw_p31 : lw_okq (⟨"MobileCallModel", "end", "(II)V"⟩, 23) := ⟨⟨by decide +kernel, by decide +kernel⟩, List.mem_of_getElem? (i := 637) (by decide +kernel), List.mem_of_getElem? (i := 771) (by decide +kernel), List.mem_of_getElem? (i := 772) (by decide +kernel)⟩
def lw_privs_2 : List (MethodName × Nat) := [(⟨"MobileCall$Network", "takesDetach", "()Z"⟩, 15), (⟨"MobileCall$Mobile", "takesProgress", "(II)Z"⟩, 11), (⟨"MobileCall$Mobile", "takesConnect", "()Z"⟩, 11), (⟨"MobileCall$Network", "takesSetUp", "(LMobileCall$Message;)Z"⟩, 15), (⟨"MobileCall$Message", "hasByte", "(I)Z"⟩, 2), (⟨"MobileCall$Network", "takesConnected", "()Z"⟩, 15), (⟨"MobileCallModel", "out", "(I)V"⟩, 23), (⟨"MobileCallModel", "release", "(I)V"⟩, 23), (⟨"MobileCallModel", "way", "(I)I"⟩, 23), (⟨"MobileCallModel", "put", "(III)I"⟩, 23), (⟨"MobileCallModel", "become", "(IIII)V"⟩, 23), (⟨"MobileCallModel", "rest", "(I)I"⟩, 23), (⟨"MobileCallModel", "tell", "(IIIIII)V"⟩, 23), (⟨"MobileCallModel", "more", "(II)V"⟩, 23), (⟨"MobileCallModel", "isCall", "(III)Z"⟩, 23), (⟨"MobileCallModel", "end", "(II)V"⟩, 23)]
theorem lw_r2 : ∀ q ∈ lw_privs_2, lw_okq q := List.forall_mem_cons.mpr ⟨lw_p16, List.forall_mem_cons.mpr ⟨lw_p17, List.forall_mem_cons.mpr ⟨lw_p18, List.forall_mem_cons.mpr ⟨lw_p19, List.forall_mem_cons.mpr ⟨lw_p20, List.forall_mem_cons.mpr ⟨lw_p21, List.forall_mem_cons.mpr ⟨lw_p22, List.forall_mem_cons.mpr ⟨lw_p23, List.forall_mem_cons.mpr ⟨lw_p24, List.forall_mem_cons.mpr ⟨lw_p25, List.forall_mem_cons.mpr ⟨lw_p26, List.forall_mem_cons.mpr ⟨lw_p27, List.forall_mem_cons.mpr ⟨lw_p28, List.forall_mem_cons.mpr ⟨lw_p29, List.forall_mem_cons.mpr ⟨lw_p30, List.forall_mem_cons.mpr ⟨lw_p31, fun _ h => absurd h List.not_mem_nil⟩⟩⟩⟩⟩⟩⟩⟩⟩⟩⟩⟩⟩⟩⟩⟩
theorem lw_p32 : lw_okq (⟨"MobileCallModel", "take", "(I)V"⟩, 23) := ⟨⟨by decide +kernel, by decide +kernel⟩, List.mem_of_getElem? (i := 637) (by decide +kernel), List.mem_of_getElem? (i := 802) (by decide +kernel), List.mem_of_getElem? (i := 803) (by decide +kernel)⟩
theorem lw_p33 : lw_okq (⟨"MobileCallModel", "isGood", "()Z"⟩, 23) := ⟨⟨by decide +kernel, by decide +kernel⟩, List.mem_of_getElem? (i := 637) (by decide +kernel), List.mem_of_getElem? (i := 806) (by decide +kernel), List.mem_of_getElem? (i := 807) (by decide +kernel)⟩
theorem lw_p34 : lw_okq (⟨"MobileCallModel", "mobileMoves", "(I)Z"⟩, 23) := ⟨⟨by decide +kernel, by decide +kernel⟩, List.mem_of_getElem? (i := 637) (by decide +kernel), List.mem_of_getElem? (i := 810) (by decide +kernel), List.mem_of_getElem? (i := 811) (by decide +kernel)⟩
theorem lw_p35 : lw_okq (⟨"MobileCallModel", "has", "(II)Z"⟩, 23) := ⟨⟨by decide +kernel, by decide +kernel⟩, List.mem_of_getElem? (i := 637) (by decide +kernel), List.mem_of_getElem? (i := 814) (by decide +kernel), List.mem_of_getElem? (i := 815) (by decide +kernel)⟩
theorem lw_p36 : lw_okq (⟨"MobileCallModel", "find", "(I)I"⟩, 23) := ⟨⟨by decide +kernel, by decide +kernel⟩, List.mem_of_getElem? (i := 637) (by decide +kernel), List.mem_of_getElem? (i := 818) (by decide +kernel), List.mem_of_getElem? (i := 819) (by decide +kernel)⟩
theorem lw_p37 : lw_okq (⟨"MobileCallModel", "number", "(I)I"⟩, 23) := ⟨⟨by decide +kernel, by decide +kernel⟩, List.mem_of_getElem? (i := 637) (by decide +kernel), List.mem_of_getElem? (i := 822) (by decide +kernel), List.mem_of_getElem? (i := 823) (by decide +kernel)⟩
theorem lw_p38 : lw_okq (⟨"MobileCallModel", "setUp", "()V"⟩, 23) := ⟨⟨by decide +kernel, by decide +kernel⟩, List.mem_of_getElem? (i := 637) (by decide +kernel), List.mem_of_getElem? (i := 830) (by decide +kernel), List.mem_of_getElem? (i := 831) (by decide +kernel)⟩
theorem lw_p39 : lw_okq (⟨"MobileCallModel", "networkMoves", "(I)Z"⟩, 23) := ⟨⟨by decide +kernel, by decide +kernel⟩, List.mem_of_getElem? (i := 637) (by decide +kernel), List.mem_of_getElem? (i := 834) (by decide +kernel), List.mem_of_getElem? (i := 835) (by decide +kernel)⟩
theorem lw_p40 : lw_okq (⟨"MobileCallModel", "ask", "(I)V"⟩, 23) := ⟨⟨by decide +kernel, by decide +kernel⟩, List.mem_of_getElem? (i := 637) (by decide +kernel), List.mem_of_getElem? (i := 838) (by decide +kernel), List.mem_of_getElem? (i := 839) (by decide +kernel)⟩
theorem lw_p41 : lw_okq (⟨"MobileCallModel", "judge", "()V"⟩, 23) := ⟨⟨by decide +kernel, by decide +kernel⟩, List.mem_of_getElem? (i := 637) (by decide +kernel), List.mem_of_getElem? (i := 843) (by decide +kernel), List.mem_of_getElem? (i := 844) (by decide +kernel)⟩
theorem lw_p42 : lw_okq (⟨"MobileCallModel", "mobileCalls", "(I)Z"⟩, 23) := ⟨⟨by decide +kernel, by decide +kernel⟩, List.mem_of_getElem? (i := 637) (by decide +kernel), List.mem_of_getElem? (i := 847) (by decide +kernel), List.mem_of_getElem? (i := 848) (by decide +kernel)⟩
theorem lw_p43 : lw_okq (⟨"MobileCallModel", "closes", "(II)Z"⟩, 23) := ⟨⟨by decide +kernel, by decide +kernel⟩, List.mem_of_getElem? (i := 637) (by decide +kernel), List.mem_of_getElem? (i := 851) (by decide +kernel), List.mem_of_getElem? (i := 852) (by decide +kernel)⟩
theorem lw_p44 : lw_okq (⟨"MobileCallModel", "networkCalls", "(I)Z"⟩, 23) := ⟨⟨by decide +kernel, by decide +kernel⟩, List.mem_of_getElem? (i := 637) (by decide +kernel), List.mem_of_getElem? (i := 855) (by decide +kernel), List.mem_of_getElem? (i := 856) (by decide +kernel)⟩
def lw_privs_3 : List (MethodName × Nat) := [(⟨"MobileCallModel", "take", "(I)V"⟩, 23), (⟨"MobileCallModel", "isGood", "()Z"⟩, 23), (⟨"MobileCallModel", "mobileMoves", "(I)Z"⟩, 23), (⟨"MobileCallModel", "has", "(II)Z"⟩, 23), (⟨"MobileCallModel", "find", "(I)I"⟩, 23), (⟨"MobileCallModel", "number", "(I)I"⟩, 23), (⟨"MobileCallModel", "setUp", "()V"⟩, 23), (⟨"MobileCallModel", "networkMoves", "(I)Z"⟩, 23), (⟨"MobileCallModel", "ask", "(I)V"⟩, 23), (⟨"MobileCallModel", "judge", "()V"⟩, 23), (⟨"MobileCallModel", "mobileCalls", "(I)Z"⟩, 23), (⟨"MobileCallModel", "closes", "(II)Z"⟩, 23), (⟨"MobileCallModel", "networkCalls", "(I)Z"⟩, 23)]
theorem lw_r3 : ∀ q ∈ lw_privs_3, lw_okq q := List.forall_mem_cons.mpr ⟨lw_p32, List.forall_mem_cons.mpr ⟨lw_p33, List.forall_mem_cons.mpr ⟨lw_p34, List.forall_mem_cons.mpr ⟨lw_p35, List.forall_mem_cons.mpr ⟨lw_p36, List.forall_mem_cons.mpr ⟨lw_p37, List.forall_mem_cons.mpr ⟨lw_p38, List.forall_mem_cons.mpr ⟨lw_p39, List.forall_mem_cons.mpr ⟨lw_p40, List.forall_mem_cons.mpr ⟨lw_p41, List.forall_mem_cons.mpr ⟨lw_p42, List.forall_mem_cons.mpr ⟨lw_p43, List.forall_mem_cons.mpr ⟨lw_p44, fun _ h => absurd h List.not_mem_nil⟩⟩⟩⟩⟩⟩⟩⟩⟩⟩⟩⟩⟩
def lw_privs : List (MethodName × Nat) := lw_privs_1 ++ (lw_privs_2 ++ (lw_privs_3))
def lw_tbl : List Cond := k2_sels lw_privs ++ tables_1
theorem lw_privs_ok : ∀ q ∈ lw_privs, lw_okq q := by
  show ∀ q ∈ lw_privs_1 ++ (lw_privs_2 ++ (lw_privs_3)), lw_okq q
  exact List.forall_mem_append.mpr ⟨lw_r1, List.forall_mem_append.mpr ⟨lw_r2, lw_r3⟩⟩
end
section
/-! ===== BEGIN printed: names, fields, word lists, decode rows ===== -/
def RX0 : String := "MobileCall$Message"
def TX0 : u_T := fun k => match k with
  | 0 => ("MobileCall$Message", "bytes", "[I", true)
  | _ => ("MobileCall$Message", "length", "I", false)
def tyX0 : Nat → FieldType := fun k => match k with
  | 0 => .array .int
  | _ => .int
abbrev wsX00 : List Cond := u_ws RX0 TX0 2
theorem nmX0 : ∀ a, a < 2 → ∀ b, b < 2 → a ≠ b → (TX0 a).2.1 ≠ (TX0 b).2.1 := by decide +kernel
theorem tyX0_ok : ∀ k, k < 2 → parseFieldDescriptor (TX0 k).2.2.1 = some (tyX0 k) := by decide +kernel
abbrev cX0_init : ByteArray := prog_2_method_1_code
def yX0_init : MethodName := ⟨RX0, "<init>", "()V"⟩
abbrev cX0_begin : ByteArray := prog_2_method_2_code
def yX0_begin : MethodName := ⟨RX0, "begin", "(II)V"⟩
abbrev cX0_add : ByteArray := prog_2_method_3_code
def yX0_add : MethodName := ⟨RX0, "add", "(I)V"⟩
abbrev cX0_addNumber : ByteArray := prog_2_method_4_code
def yX0_addNumber : MethodName := ⟨RX0, "addNumber", "(III)V"⟩
abbrev cX0_change : ByteArray := prog_2_method_5_code
def yX0_change : MethodName := ⟨RX0, "change", "(II)V"⟩
abbrev cX0_byteAt : ByteArray := prog_2_method_6_code
def yX0_byteAt : MethodName := ⟨RX0, "byteAt", "(I)I"⟩
abbrev cX0_protocol : ByteArray := prog_2_method_7_code
def yX0_protocol : MethodName := ⟨RX0, "protocol", "()I"⟩
abbrev cX0_type : ByteArray := prog_2_method_8_code
def yX0_type : MethodName := ⟨RX0, "type", "()I"⟩
abbrev cX0_isGood : ByteArray := prog_2_method_9_code
def yX0_isGood : MethodName := ⟨RX0, "isGood", "()Z"⟩
abbrev cX0_has : ByteArray := prog_2_method_10_code
def yX0_has : MethodName := ⟨RX0, "has", "(II)Z"⟩
abbrev cX0_sizeOf : ByteArray := prog_2_method_11_code
def yX0_sizeOf : MethodName := ⟨RX0, "sizeOf", "(I)I"⟩
abbrev cX0_elementByte : ByteArray := prog_2_method_12_code
def yX0_elementByte : MethodName := ⟨RX0, "elementByte", "(II)I"⟩
abbrev cX0_number : ByteArray := prog_2_method_13_code
def yX0_number : MethodName := ⟨RX0, "number", "(II)I"⟩
abbrev cX0_find : ByteArray := prog_2_method_14_code
def yX0_find : MethodName := ⟨RX0, "find", "(I)I"⟩
abbrev cX0_hasByte : ByteArray := prog_2_method_15_code
def yX0_hasByte : MethodName := ⟨RX0, "hasByte", "(I)Z"⟩
def RX1 : String := "MobileCall$Mobile"
def TX1 : u_T := fun k => match k with
  | 0 => ("MobileCall$Party", "out", "LMobileCall$Row;", true)
  | 1 => ("MobileCall$Party", "restState", "I", true)
  | 2 => ("MobileCall$Party", "state", "I", false)
  | 3 => ("MobileCall$Party", "call", "I", false)
  | 4 => ("MobileCall$Party", "timer", "I", false)
  | 5 => ("MobileCall$Party", "lastCause", "I", false)
  | 6 => ("MobileCall$Party", "releasedTwice", "Z", false)
  | 7 => ("MobileCall$Mobile", "key", "I", true)
  | 8 => ("MobileCall$Mobile", "area", "I", false)
  | 9 => ("MobileCall$Mobile", "digits", "[I", true)
  | _ => ("MobileCall$Mobile", "digitCount", "I", false)
def tyX1 : Nat → FieldType := fun k => match k with
  | 0 => .object "MobileCall$Row"
  | 1 => .int
  | 2 => .int
  | 3 => .int
  | 4 => .int
  | 5 => .int
  | 6 => .boolean
  | 7 => .int
  | 8 => .int
  | 9 => .array .int
  | _ => .int
abbrev wsX10 : List Cond := u_ws RX1 TX1 11
theorem nmX1 : ∀ a, a < 11 → ∀ b, b < 11 → a ≠ b → (TX1 a).2.1 ≠ (TX1 b).2.1 := by decide +kernel
theorem tyX1_ok : ∀ k, k < 11 → parseFieldDescriptor (TX1 k).2.2.1 = some (tyX1 k) := by decide +kernel
abbrev cX1_init : ByteArray := prog_3_method_1_code
def yX1_init : MethodName := ⟨RX1, "<init>", "(LMobileCall$Row;I)V"⟩
abbrev cX1_isOn : ByteArray := prog_3_method_2_code
def yX1_isOn : MethodName := ⟨RX1, "isOn", "()Z"⟩
abbrev cX1_switchOn : ByteArray := prog_3_method_3_code
def yX1_switchOn : MethodName := ⟨RX1, "switchOn", "()V"⟩
abbrev cX1_switchOff : ByteArray := prog_3_method_4_code
def yX1_switchOff : MethodName := ⟨RX1, "switchOff", "()V"⟩
abbrev cX1_startUpdating : ByteArray := prog_3_method_5_code
def yX1_startUpdating : MethodName := ⟨RX1, "startUpdating", "(I)Z"⟩
abbrev cX1_startAsking : ByteArray := prog_3_method_6_code
def yX1_startAsking : MethodName := ⟨RX1, "startAsking", "(II)Z"⟩
abbrev cX1_dropRadio : ByteArray := prog_3_method_7_code
def yX1_dropRadio : MethodName := ⟨RX1, "dropRadio", "()V"⟩
abbrev cX1_takesManaging : ByteArray := prog_3_method_8_code
def yX1_takesManaging : MethodName := ⟨RX1, "takesManaging", "(LMobileCall$Message;)Z"⟩
abbrev cX1_takesCalling : ByteArray := prog_3_method_9_code
def yX1_takesCalling : MethodName := ⟨RX1, "takesCalling", "(LMobileCall$Message;)Z"⟩
abbrev cX1_timeOut : ByteArray := prog_3_method_10_code
def yX1_timeOut : MethodName := ⟨RX1, "timeOut", "()V"⟩
abbrev cX1_takesUpdated : ByteArray := prog_3_method_11_code
def yX1_takesUpdated : MethodName := ⟨RX1, "takesUpdated", "(LMobileCall$Message;)Z"⟩
abbrev cX1_takesRefusal : ByteArray := prog_3_method_12_code
def yX1_takesRefusal : MethodName := ⟨RX1, "takesRefusal", "(LMobileCall$Message;II)Z"⟩
abbrev cX1_takesChallenge : ByteArray := prog_3_method_13_code
def yX1_takesChallenge : MethodName := ⟨RX1, "takesChallenge", "(LMobileCall$Message;)Z"⟩
abbrev cX1_takesExpelled : ByteArray := prog_3_method_14_code
def yX1_takesExpelled : MethodName := ⟨RX1, "takesExpelled", "()Z"⟩
abbrev cX1_takesServed : ByteArray := prog_3_method_15_code
def yX1_takesServed : MethodName := ⟨RX1, "takesServed", "()Z"⟩
abbrev cX1_takesProgress : ByteArray := prog_3_method_16_code
def yX1_takesProgress : MethodName := ⟨RX1, "takesProgress", "(II)Z"⟩
abbrev cX1_takesConnect : ByteArray := prog_3_method_17_code
def yX1_takesConnect : MethodName := ⟨RX1, "takesConnect", "()Z"⟩
abbrev cX1_keepDigits : ByteArray := prog_3_method_18_code
def yX1_keepDigits : MethodName := ⟨RX1, "keepDigits", "(II)V"⟩
abbrev cX1_sendSetUp : ByteArray := prog_3_method_19_code
def yX1_sendSetUp : MethodName := ⟨RX1, "sendSetUp", "()V"⟩
def RX2 : String := "MobileCall$Network"
def TX2 : u_T := fun k => match k with
  | 0 => ("MobileCall$Party", "out", "LMobileCall$Row;", true)
  | 1 => ("MobileCall$Party", "restState", "I", true)
  | 2 => ("MobileCall$Party", "state", "I", false)
  | 3 => ("MobileCall$Party", "call", "I", false)
  | 4 => ("MobileCall$Party", "timer", "I", false)
  | 5 => ("MobileCall$Party", "lastCause", "I", false)
  | 6 => ("MobileCall$Party", "releasedTwice", "Z", false)
  | 7 => ("MobileCall$Network", "key", "I", true)
  | 8 => ("MobileCall$Network", "area", "I", false)
  | 9 => ("MobileCall$Network", "challenge", "I", false)
  | 10 => ("MobileCall$Network", "askedArea", "I", false)
  | 11 => ("MobileCall$Network", "acceptsUpdates", "Z", false)
  | 12 => ("MobileCall$Network", "acceptsServices", "Z", false)
  | 13 => ("MobileCall$Network", "number", "[I", true)
  | _ => ("MobileCall$Network", "numberLength", "I", false)
def tyX2 : Nat → FieldType := fun k => match k with
  | 0 => .object "MobileCall$Row"
  | 1 => .int
  | 2 => .int
  | 3 => .int
  | 4 => .int
  | 5 => .int
  | 6 => .boolean
  | 7 => .int
  | 8 => .int
  | 9 => .int
  | 10 => .int
  | 11 => .boolean
  | 12 => .boolean
  | 13 => .array .int
  | _ => .int
abbrev wsX20 : List Cond := u_ws RX2 TX2 15
theorem nmX2 : ∀ a, a < 15 → ∀ b, b < 15 → a ≠ b → (TX2 a).2.1 ≠ (TX2 b).2.1 := by decide +kernel
theorem tyX2_ok : ∀ k, k < 15 → parseFieldDescriptor (TX2 k).2.2.1 = some (tyX2 k) := by decide +kernel
abbrev cX2_init : ByteArray := prog_4_method_1_code
def yX2_init : MethodName := ⟨RX2, "<init>", "(LMobileCall$Row;II)V"⟩
abbrev cX2_setAccepted : ByteArray := prog_4_method_2_code
def yX2_setAccepted : MethodName := ⟨RX2, "setAccepted", "(ZZ)V"⟩
abbrev cX2_startRinging : ByteArray := prog_4_method_3_code
def yX2_startRinging : MethodName := ⟨RX2, "startRinging", "()Z"⟩
abbrev cX2_startAnswered : ByteArray := prog_4_method_4_code
def yX2_startAnswered : MethodName := ⟨RX2, "startAnswered", "()Z"⟩
abbrev cX2_numberByte : ByteArray := prog_4_method_5_code
def yX2_numberByte : MethodName := ⟨RX2, "numberByte", "(I)I"⟩
abbrev cX2_takesManaging : ByteArray := prog_4_method_6_code
def yX2_takesManaging : MethodName := ⟨RX2, "takesManaging", "(LMobileCall$Message;)Z"⟩
abbrev cX2_takesCalling : ByteArray := prog_4_method_7_code
def yX2_takesCalling : MethodName := ⟨RX2, "takesCalling", "(LMobileCall$Message;)Z"⟩
abbrev cX2_timeOut : ByteArray := prog_4_method_8_code
def yX2_timeOut : MethodName := ⟨RX2, "timeOut", "()V"⟩
abbrev cX2_takesDetach : ByteArray := prog_4_method_9_code
def yX2_takesDetach : MethodName := ⟨RX2, "takesDetach", "()Z"⟩
abbrev cX2_forgetMobile : ByteArray := prog_4_method_10_code
def yX2_forgetMobile : MethodName := ⟨RX2, "forgetMobile", "()V"⟩
abbrev cX2_takesUpdate : ByteArray := prog_4_method_11_code
def yX2_takesUpdate : MethodName := ⟨RX2, "takesUpdate", "(LMobileCall$Message;)Z"⟩
abbrev cX2_takesService : ByteArray := prog_4_method_12_code
def yX2_takesService : MethodName := ⟨RX2, "takesService", "()Z"⟩
abbrev cX2_sendChallenge : ByteArray := prog_4_method_13_code
def yX2_sendChallenge : MethodName := ⟨RX2, "sendChallenge", "(I)V"⟩
abbrev cX2_takesAnswer : ByteArray := prog_4_method_14_code
def yX2_takesAnswer : MethodName := ⟨RX2, "takesAnswer", "(LMobileCall$Message;)Z"⟩
abbrev cX2_decideUpdate : ByteArray := prog_4_method_15_code
def yX2_decideUpdate : MethodName := ⟨RX2, "decideUpdate", "()V"⟩
abbrev cX2_decideService : ByteArray := prog_4_method_16_code
def yX2_decideService : MethodName := ⟨RX2, "decideService", "()V"⟩
abbrev cX2_takesSetUp : ByteArray := prog_4_method_17_code
def yX2_takesSetUp : MethodName := ⟨RX2, "takesSetUp", "(LMobileCall$Message;)Z"⟩
abbrev cX2_takesConnected : ByteArray := prog_4_method_18_code
def yX2_takesConnected : MethodName := ⟨RX2, "takesConnected", "()Z"⟩
def RX3 : String := "MobileCall$Party"
def TX3 : u_T := fun k => match k with
  | _ => ("", "", "", false)
def tyX3 : Nat → FieldType := fun k => match k with
  | _ => .int
abbrev wsX30 : List Cond := u_ws RX3 TX3 0
theorem nmX3 : ∀ a, a < 0 → ∀ b, b < 0 → a ≠ b → (TX3 a).2.1 ≠ (TX3 b).2.1 := by decide +kernel
theorem tyX3_ok : ∀ k, k < 0 → parseFieldDescriptor (TX3 k).2.2.1 = some (tyX3 k) := by decide +kernel
abbrev cX3_init : ByteArray := prog_5_method_1_code
def yX3_init : MethodName := ⟨RX3, "<init>", "(LMobileCall$Row;II)V"⟩
abbrev cX3_takes : ByteArray := prog_5_method_5_code
def yX3_takes : MethodName := ⟨RX3, "takes", "(LMobileCall$Message;)Z"⟩
abbrev cX3_endsTimer : ByteArray := prog_5_method_6_code
def yX3_endsTimer : MethodName := ⟨RX3, "endsTimer", "()Z"⟩
abbrev cX3_startEnding : ByteArray := prog_5_method_7_code
def yX3_startEnding : MethodName := ⟨RX3, "startEnding", "(I)Z"⟩
abbrev cX3_rest : ByteArray := prog_5_method_8_code
def yX3_rest : MethodName := ⟨RX3, "rest", "()V"⟩
abbrev cX3_setState : ByteArray := prog_5_method_9_code
def yX3_setState : MethodName := ⟨RX3, "setState", "(II)V"⟩
abbrev cX3_setCall : ByteArray := prog_5_method_10_code
def yX3_setCall : MethodName := ⟨RX3, "setCall", "(II)V"⟩
abbrev cX3_hasCall : ByteArray := prog_5_method_11_code
def yX3_hasCall : MethodName := ⟨RX3, "hasCall", "(II)Z"⟩
abbrev cX3_takesEnd : ByteArray := prog_5_method_12_code
def yX3_takesEnd : MethodName := ⟨RX3, "takesEnd", "(LMobileCall$Message;)Z"⟩
abbrev cX3_takesRelease : ByteArray := prog_5_method_13_code
def yX3_takesRelease : MethodName := ⟨RX3, "takesRelease", "()Z"⟩
abbrev cX3_takesReleased : ByteArray := prog_5_method_14_code
def yX3_takesReleased : MethodName := ⟨RX3, "takesReleased", "()Z"⟩
abbrev cX3_timeOutClearing : ByteArray := prog_5_method_15_code
def yX3_timeOutClearing : MethodName := ⟨RX3, "timeOutClearing", "()V"⟩
abbrev cX3_answerTo : ByteArray := prog_5_method_16_code
def yX3_answerTo : MethodName := ⟨RX3, "answerTo", "(II)I"⟩
abbrev cX3_startReleasing : ByteArray := prog_5_method_17_code
def yX3_startReleasing : MethodName := ⟨RX3, "startReleasing", "()V"⟩
def RX4 : String := "MobileCall$Row"
def TX4 : u_T := fun k => match k with
  | 0 => ("MobileCall$Row", "slots", "[LMobileCall$Message;", true)
  | 1 => ("MobileCall$Row", "spare", "LMobileCall$Message;", true)
  | 2 => ("MobileCall$Row", "first", "I", false)
  | 3 => ("MobileCall$Row", "count", "I", false)
  | _ => ("MobileCall$Row", "open", "Z", false)
def tyX4 : Nat → FieldType := fun k => match k with
  | 0 => .array (.object "MobileCall$Message")
  | 1 => .object "MobileCall$Message"
  | 2 => .int
  | 3 => .int
  | _ => .boolean
abbrev wsX40 : List Cond := u_ws RX4 TX4 5
theorem nmX4 : ∀ a, a < 5 → ∀ b, b < 5 → a ≠ b → (TX4 a).2.1 ≠ (TX4 b).2.1 := by decide +kernel
theorem tyX4_ok : ∀ k, k < 5 → parseFieldDescriptor (TX4 k).2.2.1 = some (tyX4 k) := by decide +kernel
abbrev cX4_init : ByteArray := prog_6_method_1_code
def yX4_init : MethodName := ⟨RX4, "<init>", "()V"⟩
abbrev cX4_size : ByteArray := prog_6_method_2_code
def yX4_size : MethodName := ⟨RX4, "size", "()I"⟩
abbrev cX4_isOpen : ByteArray := prog_6_method_3_code
def yX4_isOpen : MethodName := ⟨RX4, "isOpen", "()Z"⟩
abbrev cX4_open : ByteArray := prog_6_method_4_code
def yX4_open : MethodName := ⟨RX4, "open", "()V"⟩
abbrev cX4_close : ByteArray := prog_6_method_5_code
def yX4_close : MethodName := ⟨RX4, "close", "()V"⟩
abbrev cX4_hasRoom : ByteArray := prog_6_method_6_code
def yX4_hasRoom : MethodName := ⟨RX4, "hasRoom", "()Z"⟩
abbrev cX4_at : ByteArray := prog_6_method_7_code
def yX4_at : MethodName := ⟨RX4, "at", "(I)LMobileCall$Message;"⟩
abbrev cX4_send : ByteArray := prog_6_method_8_code
def yX4_send : MethodName := ⟨RX4, "send", "(II)LMobileCall$Message;"⟩
abbrev cX4_dropFirst : ByteArray := prog_6_method_9_code
def yX4_dropFirst : MethodName := ⟨RX4, "dropFirst", "()V"⟩
def RX5 : String := "MobileCall"
def TX5 : u_T := fun k => match k with
  | 0 => ("MobileCall", "up", "LMobileCall$Row;", true)
  | 1 => ("MobileCall", "down", "LMobileCall$Row;", true)
  | 2 => ("MobileCall", "mobile", "LMobileCall$Mobile;", true)
  | 3 => ("MobileCall", "network", "LMobileCall$Network;", true)
  | _ => ("MobileCall", "left", "I", false)
def tyX5 : Nat → FieldType := fun k => match k with
  | 0 => .object "MobileCall$Row"
  | 1 => .object "MobileCall$Row"
  | 2 => .object "MobileCall$Mobile"
  | 3 => .object "MobileCall$Network"
  | _ => .int
abbrev wsX50 : List Cond := u_ws RX5 TX5 5
theorem nmX5 : ∀ a, a < 5 → ∀ b, b < 5 → a ≠ b → (TX5 a).2.1 ≠ (TX5 b).2.1 := by decide +kernel
theorem tyX5_ok : ∀ k, k < 5 → parseFieldDescriptor (TX5 k).2.2.1 = some (tyX5 k) := by decide +kernel
abbrev cX5_init : ByteArray := prog_1_method_1_code
def yX5_init : MethodName := ⟨RX5, "<init>", "(III)V"⟩
abbrev cX5_power : ByteArray := prog_1_method_2_code
def yX5_power : MethodName := ⟨RX5, "power", "(Z)I"⟩
abbrev cX5_update : ByteArray := prog_1_method_3_code
def yX5_update : MethodName := ⟨RX5, "update", "(I)I"⟩
abbrev cX5_dial : ByteArray := prog_1_method_4_code
def yX5_dial : MethodName := ⟨RX5, "dial", "(II)I"⟩
abbrev cX5_hang : ByteArray := prog_1_method_5_code
def yX5_hang : MethodName := ⟨RX5, "hang", "()I"⟩
abbrev cX5_alert : ByteArray := prog_1_method_6_code
def yX5_alert : MethodName := ⟨RX5, "alert", "()I"⟩
abbrev cX5_answer : ByteArray := prog_1_method_7_code
def yX5_answer : MethodName := ⟨RX5, "answer", "()I"⟩
abbrev cX5_clear : ByteArray := prog_1_method_8_code
def yX5_clear : MethodName := ⟨RX5, "clear", "(I)I"⟩
abbrev cX5_accept : ByteArray := prog_1_method_9_code
def yX5_accept : MethodName := ⟨RX5, "accept", "(I)I"⟩
abbrev cX5_radio : ByteArray := prog_1_method_10_code
def yX5_radio : MethodName := ⟨RX5, "radio", "(Z)I"⟩
abbrev cX5_carry : ByteArray := prog_1_method_11_code
def yX5_carry : MethodName := ⟨RX5, "carry", "(I)I"⟩
abbrev cX5_lose : ByteArray := prog_1_method_12_code
def yX5_lose : MethodName := ⟨RX5, "lose", "(I)I"⟩
abbrev cX5_spoil : ByteArray := prog_1_method_13_code
def yX5_spoil : MethodName := ⟨RX5, "spoil", "(III)I"⟩
abbrev cX5_forge : ByteArray := prog_1_method_14_code
def yX5_forge : MethodName := ⟨RX5, "forge", "(IJI)I"⟩
abbrev cX5_tick : ByteArray := prog_1_method_15_code
def yX5_tick : MethodName := ⟨RX5, "tick", "(I)I"⟩
abbrev cX5_told : ByteArray := prog_1_method_16_code
def yX5_told : MethodName := ⟨RX5, "told", "(I)I"⟩
abbrev cX5_byteOf : ByteArray := prog_1_method_17_code
def yX5_byteOf : MethodName := ⟨RX5, "byteOf", "(III)I"⟩
abbrev cX5_digit : ByteArray := prog_1_method_18_code
def yX5_digit : MethodName := ⟨RX5, "digit", "(I)I"⟩
abbrev cX5_row : ByteArray := prog_1_method_19_code
def yX5_row : MethodName := ⟨RX5, "row", "(I)LMobileCall$Row;"⟩
abbrev cX5_isWay : ByteArray := prog_1_method_20_code
def yX5_isWay : MethodName := ⟨RX5, "isWay", "(I)Z"⟩
abbrev cX5_isByte : ByteArray := prog_1_method_21_code
def yX5_isByte : MethodName := ⟨RX5, "isByte", "(I)Z"⟩
abbrev cX5_byteOfLong : ByteArray := prog_1_method_22_code
def yX5_byteOfLong : MethodName := ⟨RX5, "byteOfLong", "(JI)I"⟩
abbrev cX5_done : ByteArray := prog_1_method_23_code
def yX5_done : MethodName := ⟨RX5, "done", "(Z)I"⟩
def RX6 : String := "MobileCallModel"
def TX6 : u_T := fun k => match k with
  | 0 => ("MobileCallModel", "key", "I", true)
  | 1 => ("MobileCallModel", "otherKey", "I", true)
  | 2 => ("MobileCallModel", "challenge", "I", false)
  | 3 => ("MobileCallModel", "accepts", "I", false)
  | 4 => ("MobileCallModel", "silent", "Z", false)
  | 5 => ("MobileCallModel", "counts", "[I", true)
  | 6 => ("MobileCallModel", "sizes", "[I", true)
  | 7 => ("MobileCallModel", "bytes", "[I", true)
  | 8 => ("MobileCallModel", "left", "I", false)
  | 9 => ("MobileCallModel", "states", "[I", true)
  | 10 => ("MobileCallModel", "calls", "[I", true)
  | 11 => ("MobileCallModel", "timers", "[I", true)
  | 12 => ("MobileCallModel", "twice", "[Z", true)
  | 13 => ("MobileCallModel", "causes", "[I", true)
  | 14 => ("MobileCallModel", "area", "I", false)
  | 15 => ("MobileCallModel", "known", "I", false)
  | 16 => ("MobileCallModel", "wished", "I", false)
  | 17 => ("MobileCallModel", "digits", "[I", true)
  | 18 => ("MobileCallModel", "digitCount", "I", false)
  | 19 => ("MobileCallModel", "called", "[I", true)
  | 20 => ("MobileCallModel", "calledCount", "I", false)
  | 21 => ("MobileCallModel", "size", "I", false)
  | _ => ("MobileCallModel", "here", "[I", true)
def tyX6 : Nat → FieldType := fun k => match k with
  | 0 => .int
  | 1 => .int
  | 2 => .int
  | 3 => .int
  | 4 => .boolean
  | 5 => .array .int
  | 6 => .array .int
  | 7 => .array .int
  | 8 => .int
  | 9 => .array .int
  | 10 => .array .int
  | 11 => .array .int
  | 12 => .array .boolean
  | 13 => .array .int
  | 14 => .int
  | 15 => .int
  | 16 => .int
  | 17 => .array .int
  | 18 => .int
  | 19 => .array .int
  | 20 => .int
  | 21 => .int
  | _ => .array .int
abbrev wsX60 : List Cond := u_ws RX6 TX6 23
theorem nmX6 : ∀ a, a < 23 → ∀ b, b < 23 → a ≠ b → (TX6 a).2.1 ≠ (TX6 b).2.1 := by decide +kernel
theorem tyX6_ok : ∀ k, k < 23 → parseFieldDescriptor (TX6 k).2.2.1 = some (tyX6 k) := by decide +kernel
abbrev cX6_init : ByteArray := prog_8_method_1_code
def yX6_init : MethodName := ⟨RX6, "<init>", "(III)V"⟩
abbrev cX6_put : ByteArray := prog_8_method_2_code
def yX6_put : MethodName := ⟨RX6, "put", "(III)I"⟩
abbrev cX6_more : ByteArray := prog_8_method_3_code
def yX6_more : MethodName := ⟨RX6, "more", "(II)V"⟩
abbrev cX6_tell : ByteArray := prog_8_method_4_code
def yX6_tell : MethodName := ⟨RX6, "tell", "(IIIIII)V"⟩
abbrev cX6_take : ByteArray := prog_8_method_5_code
def yX6_take : MethodName := ⟨RX6, "take", "(I)V"⟩
abbrev cX6_isGood : ByteArray := prog_8_method_6_code
def yX6_isGood : MethodName := ⟨RX6, "isGood", "()Z"⟩
abbrev cX6_find : ByteArray := prog_8_method_7_code
def yX6_find : MethodName := ⟨RX6, "find", "(I)I"⟩
abbrev cX6_has : ByteArray := prog_8_method_8_code
def yX6_has : MethodName := ⟨RX6, "has", "(II)Z"⟩
abbrev cX6_number : ByteArray := prog_8_method_9_code
def yX6_number : MethodName := ⟨RX6, "number", "(I)I"⟩
abbrev cX6_turned : ByteArray := prog_8_method_10_code
def yX6_turned : MethodName := ⟨RX6, "turned", "(II)I"⟩
abbrev cX6_become : ByteArray := prog_8_method_11_code
def yX6_become : MethodName := ⟨RX6, "become", "(IIII)V"⟩
abbrev cX6_way : ByteArray := prog_8_method_12_code
def yX6_way : MethodName := ⟨RX6, "way", "(I)I"⟩
abbrev cX6_rest : ByteArray := prog_8_method_13_code
def yX6_rest : MethodName := ⟨RX6, "rest", "(I)I"⟩
abbrev cX6_release : ByteArray := prog_8_method_14_code
def yX6_release : MethodName := ⟨RX6, "release", "(I)V"⟩
abbrev cX6_isCall : ByteArray := prog_8_method_15_code
def yX6_isCall : MethodName := ⟨RX6, "isCall", "(III)Z"⟩
abbrev cX6_closes : ByteArray := prog_8_method_16_code
def yX6_closes : MethodName := ⟨RX6, "closes", "(II)Z"⟩
abbrev cX6_mobileMoves : ByteArray := prog_8_method_17_code
def yX6_mobileMoves : MethodName := ⟨RX6, "mobileMoves", "(I)Z"⟩
abbrev cX6_setUp : ByteArray := prog_8_method_18_code
def yX6_setUp : MethodName := ⟨RX6, "setUp", "()V"⟩
abbrev cX6_mobileCalls : ByteArray := prog_8_method_19_code
def yX6_mobileCalls : MethodName := ⟨RX6, "mobileCalls", "(I)Z"⟩
abbrev cX6_ask : ByteArray := prog_8_method_20_code
def yX6_ask : MethodName := ⟨RX6, "ask", "(I)V"⟩
abbrev cX6_judge : ByteArray := prog_8_method_21_code
def yX6_judge : MethodName := ⟨RX6, "judge", "()V"⟩
abbrev cX6_networkMoves : ByteArray := prog_8_method_22_code
def yX6_networkMoves : MethodName := ⟨RX6, "networkMoves", "(I)Z"⟩
abbrev cX6_networkCalls : ByteArray := prog_8_method_23_code
def yX6_networkCalls : MethodName := ⟨RX6, "networkCalls", "(I)Z"⟩
abbrev cX6_out : ByteArray := prog_8_method_24_code
def yX6_out : MethodName := ⟨RX6, "out", "(I)V"⟩
abbrev cX6_tick : ByteArray := prog_8_method_25_code
def yX6_tick : MethodName := ⟨RX6, "tick", "(I)I"⟩
abbrev cX6_power : ByteArray := prog_8_method_26_code
def yX6_power : MethodName := ⟨RX6, "power", "(Z)I"⟩
abbrev cX6_update : ByteArray := prog_8_method_27_code
def yX6_update : MethodName := ⟨RX6, "update", "(I)I"⟩
abbrev cX6_dial : ByteArray := prog_8_method_28_code
def yX6_dial : MethodName := ⟨RX6, "dial", "(II)I"⟩
abbrev cX6_end : ByteArray := prog_8_method_29_code
def yX6_end : MethodName := ⟨RX6, "end", "(II)V"⟩
abbrev cX6_hang : ByteArray := prog_8_method_30_code
def yX6_hang : MethodName := ⟨RX6, "hang", "()I"⟩
abbrev cX6_alert : ByteArray := prog_8_method_31_code
def yX6_alert : MethodName := ⟨RX6, "alert", "()I"⟩
abbrev cX6_answer : ByteArray := prog_8_method_32_code
def yX6_answer : MethodName := ⟨RX6, "answer", "()I"⟩
abbrev cX6_clear : ByteArray := prog_8_method_33_code
def yX6_clear : MethodName := ⟨RX6, "clear", "(I)I"⟩
abbrev cX6_accept : ByteArray := prog_8_method_34_code
def yX6_accept : MethodName := ⟨RX6, "accept", "(I)I"⟩
abbrev cX6_radio : ByteArray := prog_8_method_35_code
def yX6_radio : MethodName := ⟨RX6, "radio", "(Z)I"⟩
abbrev cX6_isWay : ByteArray := prog_8_method_36_code
def yX6_isWay : MethodName := ⟨RX6, "isWay", "(I)Z"⟩
abbrev cX6_carry : ByteArray := prog_8_method_37_code
def yX6_carry : MethodName := ⟨RX6, "carry", "(I)I"⟩
abbrev cX6_lose : ByteArray := prog_8_method_38_code
def yX6_lose : MethodName := ⟨RX6, "lose", "(I)I"⟩
abbrev cX6_spoil : ByteArray := prog_8_method_39_code
def yX6_spoil : MethodName := ⟨RX6, "spoil", "(III)I"⟩
abbrev cX6_forge : ByteArray := prog_8_method_40_code
def yX6_forge : MethodName := ⟨RX6, "forge", "(IJI)I"⟩
abbrev cX6_told : ByteArray := prog_8_method_41_code
def yX6_told : MethodName := ⟨RX6, "told", "(I)I"⟩
abbrev cX6_byteOf : ByteArray := prog_8_method_42_code
def yX6_byteOf : MethodName := ⟨RX6, "byteOf", "(III)I"⟩
abbrev cX6_digit : ByteArray := prog_8_method_43_code
def yX6_digit : MethodName := ⟨RX6, "digit", "(I)I"⟩
def RL : String := "MobileCallLaw"
abbrev cL_cell : ByteArray := method_2_code
def yL_cell : MethodName := ⟨RL, "cell", "([II)I"⟩
abbrev cL_law : ByteArray := code
def yL_law : MethodName := ⟨RL, "law", "([I)Z"⟩
abbrev classes : List vw_C := [(RX0, TX0, 2), (RX1, TX1, 11), (RX2, TX2, 15), (RX4, TX4, 5), (RX5, TX5, 5), (RX6, TX6, 23)]
end
section
/-- the class tables' numbers, and the classes of int[], boolean[], Message[] -/
abbrev zz_G : Type := va_G × ClassId × ClassId × ClassId
abbrev zz_cI (G : zz_G) : ClassId := G.2.1
abbrev zz_cZ (G : zz_G) : ClassId := G.2.2.1
abbrev zz_cM (G : zz_G) : ClassId := G.2.2.2
abbrev zz_tys (G : zz_G) : List (ClassId × FieldType) := [(zz_cI G, .int), (zz_cZ G, .boolean), (zz_cM G, .object RX0)]
def zz_over : List String := [RX0]
def zz_dec : List MethodName := [⟨RX3, "takesManaging", "(LMobileCall$Message;)Z"⟩, ⟨RX3, "takesCalling", "(LMobileCall$Message;)Z"⟩, ⟨RX3, "timeOut", "()V"⟩]
def zz_nest : List Cond := zz_dec.map Cond.declares
theorem zz_nest_tab : ∀ w ∈ zz_nest, w.onTables = true := fun w hw => by
  obtain ⟨x, -, rfl⟩ := List.mem_map.mp hw
  rfl
theorem zz_nest_warm {s U : State} : ∀ w ∈ zz_nest, s.WarmedH U.vm → va_Nw w s → va_Nw w U := fun w hw hW h => by
  obtain ⟨x, -, rfl⟩ := List.mem_map.mp hw
  exact va_Nw.warmD hW h
end
section
/-! THE WORLD BY NAMES: cells have names (numbers); ad gives a name's address, ce its content. A contract speaks of every ad and ce with some lookups, and its end gives the new lookups and leaves all other names as they were. -/
abbrev zz_C : Type := Nat → Option va_E
def zz_good (w : Cond) : Bool := (w.onTables && w.keeps) || (match w with | .arrayClass _ => true | _ => false)
def zz_T : List Cond := lw_tbl.filter zz_good
theorem zz_mem {w : Cond} (h : w ∈ lw_tbl) (hg : zz_good w = true) : w ∈ zz_T := List.mem_filter.mpr ⟨h, hg⟩
theorem zz_ok {w : Cond} (h : zz_good w = true) : (w.onTables && w.keeps) = true ∨ ∃ ty, w = .arrayClass ty := by
  unfold zz_good at h
  rcases (Bool.or_eq_true _ _).mp h with h | h
  · exact Or.inl h
  · refine Or.inr ?_
    cases w <;> first | exact ⟨_, rfl⟩ | cases h
theorem zz_gT : GoodIn zz_T zz_T := fun _ h => ⟨h, zz_ok (List.mem_filter.mp h).2⟩
theorem zz_gC {w : Cond} {ws : List Cond} (hw : w ∈ zz_T) (h : GoodIn zz_T ws) : GoodIn zz_T (w :: ws) := fun x hx => by
  rcases List.mem_cons.mp hx with rfl | hx
  · exact zz_gT _ hw
  · exact h x hx
/-- what the tables say all along: the classes, the arrays' classes, the words between nest mates -/
def zz_K (G : zz_G) (U : State) : Prop := va_K G.1 classes (zz_tys G) U ∧ (∀ w ∈ zz_nest, va_Nw w U) ∧ ∀ C ∈ zz_over, va_AO C U
theorem zz_K.warm {G : zz_G} {s U : State} (hW : s.WarmedH U.vm) (h : zz_K G s) : zz_K G U := ⟨va_K.moved hW.alike h.1, fun w hw => zz_nest_warm w hw hW (h.2.1 w hw), fun C hC => va_AO.moved hW.alike (h.2.2 C hC)⟩
theorem zz_K.same {G : zz_G} {s U : State} (e : s.vm = U.vm) (h : zz_K G s) : zz_K G U := ⟨va_K.moved (by rw [e]; exact Vm.Alike.refl _) h.1, fun w hw => va_Nw.same (zz_nest_tab w hw) e (h.2.1 w hw), fun C hC => va_AO.moved (by rw [e]; exact Vm.Alike.refl _) (h.2.2 C hC)⟩
def zz_W (G : zz_G) (A : Nat → Prop) (ad : Nat → Nat) (ce : zz_C) (sz : Nat) (H : Heap) : Prop :=
  H.size = sz ∧ (∀ (n : Nat) (x : va_E), ce n = some x → va_at G.1 classes (ad n, x) H) ∧ (∀ (i j : Nat) (x y : va_E), ce i = some x → ce j = some y → ad i = ad j → i = j) ∧ ∀ (n : Nat) (x : va_E), ce n = some x → A (ad n)
def zz_A (ad : Nat → Nat) (ce : zz_C) (sz : Nat) : Nat → Prop := fun q => (∃ (n : Nat) (x : va_E), ce n = some x ∧ ad n = q) ∨ sz ≤ q
theorem zz_W.any {G : zz_G} {A B : Nat → Prop} {ad : Nat → Nat} {ce : zz_C} {sz : Nat} {H : Heap} (h : zz_W G A ad ce sz H) (hB : ∀ q, A q → B q) : zz_W G B ad ce sz H := ⟨h.1, h.2.1, h.2.2.1, fun n x hn => hB _ (h.2.2.2 n x hn)⟩
theorem zz_W.self {G : zz_G} {A : Nat → Prop} {ad : Nat → Nat} {ce : zz_C} {sz : Nat} {H : Heap} (h : zz_W G A ad ce sz H) : zz_W G (zz_A ad ce sz) ad ce sz H := ⟨h.1, h.2.1, h.2.2.1, fun n x hn => Or.inl ⟨n, x, hn, rfl⟩⟩
theorem zz_W.one {G : zz_G} {A : Nat → Prop} {ad : Nat → Nat} {ce : zz_C} {sz : Nat} {H : Heap} (h : zz_W G A ad ce sz H) {n : Nat} {x : va_E} (hn : ce n = some x) : va_P G.1 classes [(ad n, x)] H := by
  intro k q hk
  have hz : k < 1 := (List.getElem?_eq_some_iff.mp hk).1
  rw [show k = 0 by omega] at hk
  cases hk
  exact h.2.1 n x hn
theorem zz_W.set {G : zz_G} {A : Nat → Prop} {ad : Nat → Nat} {ce : zz_C} {sz : Nat} {H H1 : Heap} (h : zz_W G A ad ce sz H) {n : Nat} {e0 e : va_E} (hn : ce n = some e0) (he : va_at G.1 classes (ad n, e) H1) (z : H1.size = H.size) (oq : ∀ q : Nat, q ≠ ad n → H1[q]? = H[q]?) : zz_W G A ad (va_up ce n (some e)) sz H1 := by
  obtain ⟨h1, h2, h3, h4⟩ := h
  have key : ∀ (k : Nat) (x : va_E), va_up ce n (some e) k = some x → ∃ x0, ce k = some x0 := by
    intro k x hk
    by_cases hkn : k = n
    · subst hkn; exact ⟨e0, hn⟩
    · simp only [va_up, if_neg hkn] at hk; exact ⟨x, hk⟩
  refine ⟨z.trans h1, fun k x hk => ?_, fun i j x y hi hj hij => ?_, fun k x hk => ?_⟩
  · by_cases hkn : k = n
    · subst hkn
      simp only [va_up, if_true] at hk
      cases hk
      exact he
    · simp only [va_up, if_neg hkn] at hk
      exact (h2 k x hk).kept (oq _ (fun q => hkn (h3 k n x e0 hk hn q)))
  · obtain ⟨x0, hx⟩ := key i x hi
    obtain ⟨y0, hy⟩ := key j y hj
    exact h3 i j x0 y0 hx hy hij
  · obtain ⟨x0, hx⟩ := key k x hk
    exact h4 k x0 hx
theorem zz_W.put {G : zz_G} {A : Nat → Prop} {ad : Nat → Nat} {ce : zz_C} {sz : Nat} {H H1 : Heap} (h : zz_W G A ad ce sz H) {n : Nat} {e0 e : va_E} (hn : ce n = some e0) (he : va_at G.1 classes (ad n, e) H1) (z : H1.size = H.size) (oq : ∀ q : Nat, q ≠ ad n → H1[q]? = H[q]?) : ∃ ce1 : zz_C, ce1 n = some e ∧ (∀ j, j ≠ n → ce1 j = ce j) ∧ zz_W G A ad ce1 sz H1 := ⟨va_up ce n (some e), by simp [va_up], fun j hj => by simp [va_up, hj], h.set hn he z oq⟩
/-- a new cell under a name that was free -/
theorem zz_W.born {G : zz_G} {A : Nat → Prop} {ad : Nat → Nat} {ce : zz_C} {sz : Nat} {H H1 : Heap} (h : zz_W G A ad ce sz H) {n : Nat} {e : va_E} (hn : ce n = none) (he : va_at G.1 classes (sz, e) H1) (z : H1.size = sz + 1) (oq : ∀ q : Nat, q < sz → H1[q]? = H[q]?) (hA : A sz) : ∃ (ad1 : Nat → Nat) (ce1 : zz_C), ad1 n = sz ∧ (∀ j, j ≠ n → ad1 j = ad j) ∧ ce1 n = some e ∧ (∀ j, j ≠ n → ce1 j = ce j) ∧ zz_W G A ad1 ce1 (sz + 1) H1 := by
  obtain ⟨h1, h2, h3, h4⟩ := h
  have lt : ∀ (k : Nat) (x : va_E), ce k = some x → ad k < sz := fun k x hk => by rw [← h1]; exact (h2 k x hk).lt
  refine ⟨va_up ad n sz, va_up ce n (some e), by simp [va_up], fun j hj => by simp [va_up, hj], by simp [va_up], fun j hj => by simp [va_up, hj], z, fun k x hk => ?_, fun i j x y hi hj hij => ?_, fun k x hk => ?_⟩
  · by_cases hkn : k = n
    · subst hkn
      simp only [va_up, if_true] at hk ⊢
      cases hk
      exact he
    · simp only [va_up, if_neg hkn] at hk ⊢
      exact (h2 k x hk).kept (oq _ (lt k x hk))
  · by_cases hi' : i = n <;> by_cases hj' : j = n
    · rw [hi', hj']
    · simp only [va_up, if_pos hi', if_neg hj'] at hij hj
      have := lt j y hj
      omega
    · simp only [va_up, if_neg hi', if_pos hj'] at hij hi
      have := lt i x hi
      omega
    · simp only [va_up, if_neg hi', if_neg hj'] at hij hi hj
      exact h3 i j x y hi hj hij
  · by_cases hkn : k = n
    · simp only [va_up, if_pos hkn]; exact hA
    · simp only [va_up, if_neg hkn] at hk ⊢
      exact h4 k x hk
def zz_R (d lc mc ms : Nat) : Room := { frames := d, cells := mc, slots := ms, locals := lc }
def zz_Pre (G : zz_G) (ad : Nat → Nat) (ce : zz_C) (sz : Nat) : State → Prop := fun U => zz_K G U ∧ zz_W G (fun _ => True) ad ce sz U.heap
def zz_Q (G : zz_G) (ad : Nat → Nat) (ce : zz_C) (sz mc : Nat) (Po : Option Value → (Nat → Nat) → zz_C → Prop) : Array Value → State → Outcome → State → Prop := fun _ st oc t => (∃ (r : Option Value) (ad1 : Nat → Nat) (ce1 : zz_C), oc = .returned r ∧ Po r ad1 ce1 ∧ zz_W G (zz_A ad ce sz) ad1 ce1 (sz + mc) t.heap) ∧ va_F (zz_A ad ce sz) st t
/-- THE CONTRACT of method y at height d (calls below it), with mc cells of ms slots made: from the world (ad, ce) it ends with Po -/
def zz_M (l : Launch) (y : MethodName) (cc : ByteArray) (maxL : Nat) (ret : Option FieldType) (d lc mc ms : Nat) (G : zz_G) (av : List Value) (ad : Nat → Nat) (ce : zz_C) (sz : Nat) (Po : Option Value → (Nat → Nat) → zz_C → Prop) : Prop :=
  Met l y (Cond.code y cc maxL ret :: zz_T) (zz_R d lc mc ms) (va_Pc av (zz_Pre G ad ce sz)) (zz_Q G ad ce sz mc Po) mc ms (zz_A ad ce sz)
theorem zz_blind {G : zz_G} {av : List Value} {ad : Nat → Nat} {ce : zz_C} {sz : Nat} : FrameBlind (va_Pc av (zz_Pre G ad ce sz)) := fun a U g mk q => ⟨q.1, zz_K.same (s := U) (U := U.calling g mk a) rfl q.2.1, q.2.2⟩
def zz_F (p : Program) (s : State) (m : MethodId) (args : Array Value) (meth : Method) (c : Code) (cc : ByteArray) (y : MethodName) (ret : Option FieldType) (nL : Nat) (G : zz_G) : Prop :=
  p.tables.exec = Jvm.exec ∧ c.code = cc ∧ meth.sig.returnType = ret ∧ c.maxLocals = nL ∧ s.vm.findClass y.cls = some m.cls ∧ (∀ w ∈ zz_T, w.before args s = true) ∧ meth.locks = false ∧ zz_K G s ∧ meth.name = y.name
theorem zz_enter {l : Launch} {y : MethodName} {cc : ByteArray} {maxL : Nat} {ret : Option FieldType} {d lc mc ms : Nat} {G : zz_G} {av : List Value} {ad : Nat → Nat} {ce : zz_C} {sz : Nat} {Po : Option Value → (Nat → Nat) → zz_C → Prop}
    (hy : plainName y.cls = true) (hn : (lg_sl av).length ≤ maxL)
    (body : ∀ (p : Program) (e : Env) (s : State) (m : MethodId) (below : List Frame) (meth : Method) (c : Code) (ls : Array Slot), zz_F p s m av.toArray meth c cc y ret maxL G → lv_has ls maxL (lv_args 0 av) → zz_W G (zz_A ad ce sz) ad ce sz s.heap → va_S (zz_A ad ce sz) s.heap s.heap [] → (∀ q, s.heap.size ≤ q → zz_A ad ce sz q) →
      W p l e (zz_R d lc mc ms) s m av.toArray below meth c s.heap [] 0 0 (MQ below (zz_Q G ad ce sz mc Po) av.toArray s mc ms (zz_A ad ce sz)) (F0 m 0 ls [])) : zz_M l y cc maxL ret d lc mc ms G av ad ce sz Po := by
  refine Met.ofW (cc := cc) (maxL := maxL) (ret := ret) hy rfl ?_
  intro p e s m args below meth c s₁ B hml hv
  obtain ⟨rfl, hK, hW⟩ := hv
  have hts := atoms_spec (ws := Cond.code y cc maxL ret :: zz_T) B.pre
  have hl := lv_entry av (n := maxL) hn
  rw [lg_entry_eq]
  generalize (lg_sl av ++ List.replicate (maxL - (lg_sl av).length) Slot.unset).toArray = ls at hl ⊢
  exact body p e s m below meth c ls ⟨B.exec, B.bytes, B.returns, hml, findClass_of_methodNamed B.named, fun w hw => hts w (List.mem_cons_of_mem _ hw), B.notSynchronized, hK, (name_of_methodNamed B.named B.method).1⟩ hl hW.self va_S.rf (fun q hq => Or.inr (by rw [← hW.1]; exact hq))
section ZZ1
variable {p : Program} {l : Launch} {e : Env} {R : Room} {s : State} {m : MethodId} {args : Array Value} {below : List Frame} {meth : Method} {c : Code} {H : Heap} {locs : List Loc} {cells slots : Nat} {Q : State → Prop}
variable {cc : ByteArray} {y : MethodName} {ret : Option FieldType} {nL pc : Nat} {ls : Array Slot} {rest : List Value} {G : zz_G} {A : Nat → Prop} {H0 : Heap} {ad : Nat → Nat} {ce : zz_C} {sz : Nat}
/-- a field's words: own class of the method, pool index, class number, place -/
def zz_fd (own : String) (index ci k : Nat) (C : String) (T : u_T) (N : Nat) (ref : String) : Prop :=
  classes[ci]? = some (C, T, N) ∧ k < N ∧ (∀ w ∈ u_ws C T N, w ∈ zz_T) ∧ Cond.fieldLink own index ref (T k).2.1 (T k).2.2.1 ∈ zz_T ∧ (ref = (T k).1 ∨ Cond.sameField ref (T k).1 (T k).2.1 (T k).2.2.1 ∈ zz_T)
theorem zz_same {own C ref : String} {T : u_T} {N index ci k : Nat} (hts : ∀ w ∈ zz_T, w.before args s = true) (hf : zz_fd own index ci k C T N ref) : ∀ x, s.fieldFound? (T k).1 (T k).2.1 (T k).2.2.1 = some x → s.fieldFound? ref (T k).2.1 (T k).2.2.1 = some x := by
  intro x hx
  rcases hf.2.2.2.2 with h | h
  · rw [h]; exact hx
  · exact u_same (hts _ h) x hx
theorem z_get {C ref : String} {T : u_T} {N ci index k : Nat} (F : zz_F p s m args meth c cc y ret nL G) (hw : zz_W G A ad ce sz H) {n : Nat} {fs : List Value} (hn : ce n = some (.inr (ci, fs))) (hf : zz_fd y.cls index ci k C T N ref) {v : Value} (hv : fs[k]? = some v) (hdg : decode cc pc = .ok (.getfield index, 3))
    (kk : W p l e R s m args below meth c H locs cells slots Q (F0 m (pc + 3) ls (v :: rest))) : W p l e R s m args below meth c H locs cells slots Q (F0 m pc ls (.ref (ad n) :: rest)) := by
  obtain ⟨hx, hb, hr, hml, hown, hts, hlocks, hK, -⟩ := F
  exact va_get hx hb hts hf.2.2.1 hown hK.1 (hw.one hn) 0 rfl hf.1 k hf.2.1 (hts _ hf.2.2.2.1) (zz_same hts hf) hv hdg kk
/-- .. and what a store asks beside: the types, the names apart, that it isn't final -/
def zz_pt (k : Nat) (T : u_T) (N : Nat) (ty0 : Nat → FieldType) : Prop :=
  (∀ j, j < N → parseFieldDescriptor (T j).2.2.1 = some (ty0 j)) ∧ (∀ a, a < N → ∀ b, b < N → a ≠ b → (T a).2.1 ≠ (T b).2.1)
theorem z_put {C ref : String} {T : u_T} {N ci index k : Nat} {ty0 : Nat → FieldType} (F : zz_F p s m args meth c cc y ret nL G) (hw : zz_W G A ad ce sz H) (hS : va_S A H0 H locs) {n : Nat} {fs fs' : List Value} (hn : ce n = some (.inr (ci, fs))) (hf : zz_fd y.cls index ci k C T N ref) (hp : zz_pt k T N ty0) (hfin : (T k).2.2.2 = false) {v : Value} (hnr : narrow (ty0 k) v = v) (hfit : fits (ty0 k) v = true) (hl : k < fs.length) (hfs : fs.set k v = fs') (hdg : decode cc pc = .ok (.putfield index, 3))
    (kk : ∀ (ce1 : zz_C) (H1 : Heap) (locs1 : List Loc), ce1 n = some (.inr (ci, fs')) → (∀ j, j ≠ n → ce1 j = ce j) → zz_W G A ad ce1 sz H1 → va_S A H0 H1 locs1 → W p l e R s m args below meth c H1 locs1 cells slots Q (F0 m (pc + 3) ls rest)) : W p l e R s m args below meth c H locs cells slots Q (F0 m pc ls (v :: .ref (ad n) :: rest)) := by
  obtain ⟨hx, hb, hr, hml, hown, hts, hlocks, hK, -⟩ := F
  subst hfs
  have hap := va_apart (own := y.cls) hts hf.2.2.1 ty0 hp.1 hp.2 hK.1 hf.1
  obtain ⟨r, h1, cell, q1, q2, q3, q4⟩ := hw.2.1 n _ hn
  have hr : r = (C, T, N) := Option.some.inj (h1.symm.trans hf.1)
  subst hr
  have hk := hf.2.1
  obtain ⟨hSl, hfc, kC, hkC, hkind⟩ := hK.1.1 ci _ hf.1
  obtain ⟨cf, kf, fi, f, hi, hsl⟩ := hSl k hk
  have hlay := hts _ (hf.2.2.1 _ (u_in_lay hk))
  unfold u_lay at hlay
  rw [if_neg (by rw [hfin]; decide)] at hlay
  have hst := (u_facts hfc hkC (u_lays hts hf.2.2.1 hk) hi).1
  have h6 := u_store hfc hkC hkind hlay hi (hp.1 k hk) hnr hfit
  refine W.putK hx hb (f := f) ⟨hown, hts _ hf.2.2.2.1, ⟨_, _, _, zz_same hts hf _ hi⟩, hst⟩ (by rw [q2]; exact h6) q1 q3 (by rw [hsl]; exact k2_hasslot (q4 k hk)) rfl rfl hdg fun H' e1 e2 e3 => ?_
  rw [hsl] at e1 ⊢
  have he : va_at G.1 classes (ad n, .inr (ci, fs.set k v)) H' := ⟨_, hf.1, t_OB.to (V := updV (vp_V fs) k v) ⟨_, e1, q2, q3, t_set q4 hap hk v⟩ (fun j _ => vp_updV_set hl v j)⟩
  obtain ⟨ce1, g1, g2, g3⟩ := hw.put hn he e2 e3
  exact kk ce1 H' _ g1 g2 g3 (hS.put e2 e3 (hw.2.2.2 n _ hn))
theorem z_putF {C ref : String} {T : u_T} {N ci index k : Nat} {ty0 : Nat → FieldType} (F : zz_F p s m args meth c cc y ret nL G) (hin2 : y.name = "<init>") (hw : zz_W G A ad ce sz H) (hS : va_S A H0 H locs) {n : Nat} {fs fs' : List Value} (hn : ce n = some (.inr (ci, fs))) (hf : zz_fd y.cls index ci k C T N ref) (hp : zz_pt k T N ty0) (hfin : (T k).2.2.2 = true) (hdecl : (T k).1 = y.cls) {v : Value} (hnr : narrow (ty0 k) v = v) (hfit : fits (ty0 k) v = true) (hl : k < fs.length) (hfs : fs.set k v = fs') (hdg : decode cc pc = .ok (.putfield index, 3))
    (kk : ∀ (ce1 : zz_C) (H1 : Heap) (locs1 : List Loc), ce1 n = some (.inr (ci, fs')) → (∀ j, j ≠ n → ce1 j = ce j) → zz_W G A ad ce1 sz H1 → va_S A H0 H1 locs1 → W p l e R s m args below meth c H1 locs1 cells slots Q (F0 m (pc + 3) ls rest)) : W p l e R s m args below meth c H locs cells slots Q (F0 m pc ls (v :: .ref (ad n) :: rest)) := by
  obtain ⟨hx, hb, hr, hml, hown, hts, hlocks, hK, hnm⟩ := F
  subst hfs
  have hap := va_apart (own := y.cls) hts hf.2.2.1 ty0 hp.1 hp.2 hK.1 hf.1
  obtain ⟨r, h1, cell, q1, q2, q3, q4⟩ := hw.2.1 n _ hn
  have hr : r = (C, T, N) := Option.some.inj (h1.symm.trans hf.1)
  subst hr
  have hk := hf.2.1
  obtain ⟨hSl, hfc, kC, hkC, hkind⟩ := hK.1.1 ci _ hf.1
  obtain ⟨cf, kf, fi, f, hi, hsl⟩ := hSl k hk
  have hlay := hts _ (hf.2.2.1 _ (u_in_lay hk))
  unfold u_lay at hlay
  rw [if_pos hfin] at hlay
  have hst := (u_facts hfc hkC (u_lays hts hf.2.2.1 hk) hi).1
  have hcf : m.cls = cf := by
    obtain ⟨_, _, c', _, _, _, -, -, hf', -, -, -, hown2, -⟩ := Cond.laysFinal_spec hlay
    have e1 : c' = cf := by have := hi.symm.trans hf'; simp at this; exact this.1.symm
    rw [hdecl] at hown2
    rw [← e1]; exact Option.some.inj (hown.symm.trans hown2)
  have h6 := u_fits hfc hkC hkind (Or.inr hlay) hi (hp.1 k hk) hnr hfit
  refine W.putFinK hx hb hown (hts _ hf.2.2.2.1) (zz_same hts hf _ hi) hst hcf (hnm.trans hin2) (by rw [q2]; exact h6) q1 q3 (by rw [hsl]; exact k2_hasslot (q4 k hk)) rfl rfl hdg fun H' e1 e2 e3 => ?_
  rw [hsl] at e1 ⊢
  have he : va_at G.1 classes (ad n, .inr (ci, fs.set k v)) H' := ⟨_, hf.1, t_OB.to (V := updV (vp_V fs) k v) ⟨_, e1, q2, q3, t_set q4 hap hk v⟩ (fun j _ => vp_updV_set hl v j)⟩
  obtain ⟨ce1, g1, g2, g3⟩ := hw.put hn he e2 e3
  exact kk ce1 H' _ g1 g2 g3 (hS.put e2 e3 (hw.2.2.2 n _ hn))
theorem z_iald (F : zz_F p s m args meth c cc y ret nL G) (hw : zz_W G A ad ce sz H) {n N : Nat} {f : Nat → Int32} (hn : ce n = some (.inl (zz_cI G, N, .inl f))) {i : Int32} (hin : vp_in i N) (hdg : decode cc pc = .ok (.iaload, 1))
    (kk : W p l e R s m args below meth c H locs cells slots Q (F0 m (pc + 1) ls (.int (f i.toNatClampNeg) :: rest))) : W p l e R s m args below meth c H locs cells slots Q (F0 m pc ls (.int i :: .ref (ad n) :: rest)) := by
  obtain ⟨hx, hb, hr, hml, hown, hts, hlocks, hK, -⟩ := F
  exact va_iald hx hb hK.1 (hw.one hn) 0 0 rfl rfl hin hdg kk
theorem z_iast (F : zz_F p s m args meth c cc y ret nL G) (hw : zz_W G A ad ce sz H) (hS : va_S A H0 H locs) {n N : Nat} {f : Nat → Int32} (hn : ce n = some (.inl (zz_cI G, N, .inl f))) {i x : Int32} (hin : vp_in i N) (hdg : decode cc pc = .ok (.iastore, 1))
    (kk : ∀ (ce1 : zz_C) (H1 : Heap) (locs1 : List Loc), ce1 n = some (.inl (zz_cI G, N, .inl (upd f i.toNatClampNeg x))) → (∀ j, j ≠ n → ce1 j = ce j) → zz_W G A ad ce1 sz H1 → va_S A H0 H1 locs1 → W p l e R s m args below meth c H1 locs1 cells slots Q (F0 m (pc + 1) ls rest)) : W p l e R s m args below meth c H locs cells slots Q (F0 m pc ls (.int x :: .int i :: .ref (ad n) :: rest)) := by
  obtain ⟨hx, hb, hr, hml, hown, hts, hlocks, hK, -⟩ := F
  refine W.iast hx hb (hw.2.1 n _ hn) ((hK.1.2 0 (zz_cI G, .int) rfl).1 N (fun j => .int (f j))) (fun q => by cases q) (by show ¬ (i < 0 ∨ (arrV _ _ _).slots.size ≤ _); rw [arrV_size]; exact hin) rfl rfl hdg fun H1 e1 z oq => ?_
  have he : va_at G.1 classes (ad n, .inl (zz_cI G, N, .inl (upd f i.toNatClampNeg x))) H1 := by
    show H1[ad n]? = some (vp_cell _ _)
    rw [e1]
    show some ((vp_cell _ _).setSlot _ _) = _
    rw [vp_cell_i, vp_cell_i, arrV_store]
    congr 2
    funext q
    by_cases hq : q = i.toNatClampNeg
    · subst hq
      simp [updV, upd]
    · simp [updV, upd, hq]
  obtain ⟨ce1, g1, g2, g3⟩ := hw.put hn he z oq
  exact kk ce1 H1 _ g1 g2 g3 (hS.put z oq (hw.2.2.2 n _ hn))
theorem z_alen (F : zz_F p s m args meth c cc y ret nL G) (hw : zz_W G A ad ce sz H) {n N : Nat} {f : Nat → Int32} (hn : ce n = some (.inl (zz_cI G, N, .inl f))) {v : Int32} (hv : Int32.ofNat N = v) (hdg : decode cc pc = .ok (.arraylength, 1))
    (kk : W p l e R s m args below meth c H locs cells slots Q (F0 m (pc + 1) ls (.int v :: rest))) : W p l e R s m args below meth c H locs cells slots Q (F0 m pc ls (.ref (ad n) :: rest)) := by
  obtain ⟨hx, hb, hr, hml, hown, hts, hlocks, hK, -⟩ := F
  exact va_alen hx hb hK.1 (hw.one hn) 0 0 rfl (ty := .int) rfl hv hdg kk
/-- a call, whatever its kind: what va_run.. gives, and the world behind it -/
theorem z_call {mc ms : Nat} {st0 : List Value} {a : Array Value} {Po : Option Value → (Nat → Nat) → zz_C → Prop} (hr : va_Run p l e R s m args below meth c H locs cells slots mc ms (F0 m pc ls st0) rest (zz_Q G ad ce sz mc Po a) (zz_A ad ce sz)) (hw : zz_W G A ad ce sz H) (hA : ∀ q, H0.size ≤ q → A q) (hS : va_S A H0 H locs)
    (kk : ∀ (r : Option Value) (ad1 : Nat → Nat) (ce1 : zz_C) (H1 : Heap) (locs1 : List Loc), Po r ad1 ce1 → zz_W G A ad1 ce1 (sz + mc) H1 → va_S A H0 H1 locs1 → W p l e R s m args below meth c H1 locs1 (cells + mc) (slots + ms) Q (F0 m (pc + 3) ls (r.toList ++ rest))) : W p l e R s m args below meth c H locs cells slots Q (F0 m pc ls st0) := by
  have hsub : ∀ q, zz_A ad ce sz q → A q := by
    intro q hq
    rcases hq with ⟨n, x, h1, h2⟩ | h
    · rw [← h2]; exact hw.2.2.2 n x h1
    · exact hA q (Nat.le_trans hS.1 (by rw [hw.1]; exact h))
  intro T hT X
  obtain ⟨v, st₀, t, T', L, h0, X', hL, e1, e2, ⟨⟨r, ad1, ce1, hv, hp, hb⟩, hz, hk⟩, st⟩ := hr T hT X
  cases hv
  rw [h0] at hz hk
  obtain ⟨t2, a1, b1⟩ := kk v ad1 ce1 T'.heap (locs ++ L) hp (by rw [e1]; exact hb.any hsub)
    ⟨Nat.le_trans hS.1 (by rw [e1]; exact hz), fun q h1 h2 => by rw [e1, hk q (Nat.lt_of_lt_of_le h1 hS.1) (fun z => h2 (hsub q z))]; exact hS.2.1 q h1 h2, fun q hq => by
      rcases List.mem_append.mp hq with h | h
      · exact hS.2.2 q h
      · exact hsub _ (hL q h)⟩ T' rfl X'
  exact ⟨t2, st t2 a1, b1⟩
/-- ends -/
theorem z_iret {mc ms : Nat} {ad0 : Nat → Nat} {ce0 : zz_C} {sz0 : Nat} {Po : Option Value → (Nat → Nat) → zz_C → Prop} {ty : FieldType} {v : Int32} (F : zz_F p s m args meth c cc y (some ty) nL G) (hn : narrow ty (.int v) = .int v) (hw : zz_W G (zz_A ad0 ce0 sz0) ad ce (sz0 + mc) H) (hS : va_S (zz_A ad0 ce0 sz0) s.heap H locs) (hp : Po (some (.int v)) ad ce) (hdg : decode cc pc = .ok (.ireturn, 1)) :
    W p l e R s m args below meth c H locs mc ms (MQ below (zz_Q G ad0 ce0 sz0 mc Po) args s mc ms (zz_A ad0 ce0 sz0)) (F0 m pc ls [.int v]) := by
  obtain ⟨hx, hb, hr, hml, hown, hts, hlocks, hK, -⟩ := F
  exact W.zret hx hb hr hn (fun t ht hW => ⟨⟨_, ad, ce, rfl, hp, by rw [ht]; exact hw⟩, hS.F ht⟩) hS.2.2 hdg hlocks
theorem z_vret {mc ms : Nat} {ad0 : Nat → Nat} {ce0 : zz_C} {sz0 : Nat} {Po : Option Value → (Nat → Nat) → zz_C → Prop} (F : zz_F p s m args meth c cc y none nL G) (hw : zz_W G (zz_A ad0 ce0 sz0) ad ce (sz0 + mc) H) (hS : va_S (zz_A ad0 ce0 sz0) s.heap H locs) (hp : Po none ad ce) (hdg : decode cc pc = .ok (.return_, 1)) :
    W p l e R s m args below meth c H locs mc ms (MQ below (zz_Q G ad0 ce0 sz0 mc Po) args s mc ms (zz_A ad0 ce0 sz0)) (F0 m pc ls []) := by
  obtain ⟨hx, hb, hr, hml, hown, hts, hlocks, hK, -⟩ := F
  exact W.vret hx hb hr (fun t ht hW => ⟨⟨_, ad, ce, rfl, hp, by rw [ht]; exact hw⟩, hS.F ht⟩) hS.2.2 hdg hlocks
theorem z_aret {mc ms : Nat} {ad0 : Nat → Nat} {ce0 : zz_C} {sz0 : Nat} {Po : Option Value → (Nat → Nat) → zz_C → Prop} {C : String} {v : Value} (F : zz_F p s m args meth c cc y (some (.object C)) nL G) (hv : v = .null ∨ ∃ a, v = .ref a) (hw : zz_W G (zz_A ad0 ce0 sz0) ad ce (sz0 + mc) H) (hS : va_S (zz_A ad0 ce0 sz0) s.heap H locs) (hp : Po (some v) ad ce) (hdg : decode cc pc = .ok (.areturn, 1)) :
    W p l e R s m args below meth c H locs mc ms (MQ below (zz_Q G ad0 ce0 sz0 mc Po) args s mc ms (zz_A ad0 ce0 sz0)) (F0 m pc ls [v]) := by
  obtain ⟨hx, hb, hr, hml, hown, hts, hlocks, hK, -⟩ := F
  exact W.aret hx hb hr (Or.inl ⟨C, rfl⟩) hv (fun t ht hW => ⟨⟨_, ad, ce, rfl, hp, by rw [ht]; exact hw⟩, hS.F ht⟩) hS.2.2 hdg hlocks
end ZZ1
end
section
section ZZ2
variable {p : Program} {l : Launch} {e : Env} {R : Room} {s : State} {m : MethodId} {args : Array Value} {below : List Frame} {meth : Method} {c : Code} {H : Heap} {locs : List Loc} {cells slots : Nat} {Q : State → Prop}
variable {cc : ByteArray} {y : MethodName} {ret : Option FieldType} {nL pc : Nat} {ls : Array Slot} {rest st0 As : List Value} {G : zz_G} {A : Nat → Prop} {H0 : Heap} {ad : Nat → Nat} {ce : zz_C} {sz : Nat}
variable {own C : String} {T : u_T} {N ci index : Nat} {x z : MethodName} {bx : ByteArray} {mL : Nat} {rt : Option FieldType} {d lc mc ms n : Nat} {Po : Option Value → (Nat → Nat) → zz_C → Prop} {lv : List (Nat × Value)}
abbrev zz_nh (o : String) : Prop := o ≠ "java/lang/invoke/MethodHandle" ∧ o ≠ "java/lang/invoke/VarHandle"
abbrev zz_pn (x : MethodName) (n : Nat) : Prop := (parseMethodDescriptor x.desc).map (fun d => d.parameters.length) = some n
theorem zz_len (h : zz_pn x n) : ∀ sig, parseMethodDescriptor x.desc = some sig → n = sig.parameters.length := fun sig hs => by
  have h2 := h
  rw [zz_pn, hs] at h2
  exact (Option.some.inj h2).symm
theorem zz_pre (hK : zz_K G s) (hw : zz_W G A ad ce sz H) {av : List Value} : ∀ U : State, U.heap = H → s.WarmedH U.vm → va_Pc av (zz_Pre G ad ce sz) av.toArray U := fun U hU hW => ⟨rfl, hK.warm hW, by rw [hU]; exact hw.any (fun _ _ => trivial)⟩
theorem zz_recv (hK : zz_K G s) (hw : zz_W G A ad ce sz H) {q : Nat} {fs : List Value} (hq : ce q = some (.inr (ci, fs))) (hc : classes[ci]? = some (C, T, N)) : ∃ cell : Cell, H[ad q]? = some cell ∧ cell.vm.isStatics = false ∧ s.vm.findClass C = some cell.cls := va_recv hK.1 (hw.one hq) hc (q0 := 0) rfl
/-- a method of its own class's name, on a receiver of that class -/
def zz_yv (own : String) (index : Nat) (x : MethodName) (bx : ByteArray) (mL : Nat) (rt : Option FieldType) (n : Nat) : Prop :=
  Cond.methodLink own index x ∈ zz_T ∧ Cond.instanceMethod x ∈ zz_T ∧ Cond.selects x.cls x x ∈ zz_T ∧ Cond.initialized x.cls ∈ zz_T ∧ Cond.code x bx mL rt ∈ zz_T ∧ zz_nh x.cls ∧ zz_pn x n
theorem z_invV (F : zz_F p s m args meth c cc y ret nL G) {q : Nat} (hM : zz_M l x bx mL rt d lc mc ms G (.ref (ad q) :: As) ad ce sz Po) (hY : zz_yv y.cls index x bx mL rt n) (hR : d + 1 ≤ R.frames ∧ 8 + (mL + 11) + lc ≤ R.locals) (hw : zz_W G A ad ce sz H) (hA : ∀ q, H0.size ≤ q → A q) (hS : va_S A H0 H locs) (hl : lv_has ls nL lv) {fs : List Value} (hq : ce q = some (.inr (ci, fs))) (hci : classes[ci]? = some (x.cls, T, N)) (hn : As.length = n) (hst : st0 = As.reverse ++ .ref (ad q) :: rest) (hrm : (rest.map fun v => v.category).sum ≤ 8) (hdg : decode cc pc = .ok (.invokevirtual index, 3)) (hf : cells + mc ≤ R.cells ∧ slots + ms ≤ R.slots)
    (kk : ∀ (r : Option Value) (ad1 : Nat → Nat) (ce1 : zz_C) (H1 : Heap) (locs1 : List Loc), Po r ad1 ce1 → zz_W G A ad1 ce1 (sz + mc) H1 → va_S A H0 H1 locs1 → W p l e R s m args below meth c H1 locs1 (cells + mc) (slots + ms) Q (F0 m (pc + 3) ls (r.toList ++ rest))) : W p l e R s m args below meth c H locs cells slots Q (F0 m pc ls st0) := by
  obtain ⟨hx, hb, hr, hml, hown, hts, hlocks, hK, -⟩ := F
  obtain ⟨y1, y2, y3, y4, y5, y6, y7⟩ := hY
  subst hst
  exact z_call (va_runV (As := As) (rest := rest) (Ts := zz_T) (own := y.cls) ⟨hx, hb, hml, hown, hts⟩ hM ⟨⟨rfl, rfl, hR.1, hR.2, pay_in hts (zz_gC y5 zz_gT), List.mem_cons_self, hts _ y5, hts _ y4, y6, zz_len y7, hts _ y1⟩, hts _ y2, hts _ y3⟩ ⟨zz_blind, zz_recv hK hw hq hci, zz_pre hK hw⟩ rfl hn hl.1 rfl (lv_room hrm) hdg hf) hw hA hS kk
/-- a private method of a nest mate -/
def zz_yn (own : String) (index : Nat) (host : String) (x : MethodName) (bx : ByteArray) (mL : Nat) (rt : Option FieldType) (n : Nat) : Prop :=
  Cond.methodLinkNest own index x host ∈ zz_nest ∧ Cond.instanceMethod x ∈ zz_T ∧ Cond.selects x.cls x x ∈ zz_T ∧ Cond.initialized x.cls ∈ zz_T ∧ Cond.code x bx mL rt ∈ zz_T ∧ zz_nh x.cls ∧ zz_pn x n
theorem z_invN {host : String} (F : zz_F p s m args meth c cc y ret nL G) {q : Nat} (hM : zz_M l x bx mL rt d lc mc ms G (.ref (ad q) :: As) ad ce sz Po) (hY : zz_yn y.cls index host x bx mL rt n) (hR : d + 1 ≤ R.frames ∧ 8 + (mL + 11) + lc ≤ R.locals) (hw : zz_W G A ad ce sz H) (hA : ∀ q, H0.size ≤ q → A q) (hS : va_S A H0 H locs) (hl : lv_has ls nL lv) {fs : List Value} (hq : ce q = some (.inr (ci, fs))) (hci : classes[ci]? = some (x.cls, T, N)) (hn : As.length = n) (hst : st0 = As.reverse ++ .ref (ad q) :: rest) (hrm : (rest.map fun v => v.category).sum ≤ 8) (hdg : decode cc pc = .ok (.invokevirtual index, 3)) (hf : cells + mc ≤ R.cells ∧ slots + ms ≤ R.slots)
    (kk : ∀ (r : Option Value) (ad1 : Nat → Nat) (ce1 : zz_C) (H1 : Heap) (locs1 : List Loc), Po r ad1 ce1 → zz_W G A ad1 ce1 (sz + mc) H1 → va_S A H0 H1 locs1 → W p l e R s m args below meth c H1 locs1 (cells + mc) (slots + ms) Q (F0 m (pc + 3) ls (r.toList ++ rest))) : W p l e R s m args below meth c H locs cells slots Q (F0 m pc ls st0) := by
  obtain ⟨hx, hb, hr, hml, hown, hts, hlocks, hK, -⟩ := F
  obtain ⟨y1, y2, y3, y4, y5, y6, y7⟩ := hY
  subst hst
  exact z_call (va_runVN (As := As) (rest := rest) (Ts := zz_T) (own := y.cls) (host := host) ⟨hx, hb, hml, hown, hts⟩ hM ⟨⟨⟨rfl, rfl, hR.1, hR.2, pay_in hts (zz_gC y5 zz_gT), List.mem_cons_self⟩, hts _ y5, hts _ y4, y6, zz_len y7, va_Nw.use rfl (hK.2.1 _ y1)⟩, hts _ y2, hts _ y3⟩ ⟨zz_blind, zz_recv hK hw hq hci, zz_pre hK hw⟩ rfl hn hl.1 rfl (lv_room hrm) hdg hf) hw hA hS kk
/-- a method that the reference names through a class above or below: the receiver's class C selects z -/
def zz_yu (own : String) (index : Nat) (C owner : String) (x z : MethodName) (bx : ByteArray) (mL : Nat) (rt : Option FieldType) (n : Nat) : Prop :=
  Cond.methodLink own index x ∈ zz_T ∧ Cond.sameMethod x.cls owner x.name x.desc ∈ zz_T ∧ Cond.selects C x z ∈ zz_T ∧ Cond.instanceMethod z ∈ zz_T ∧ Cond.initialized z.cls ∈ zz_T ∧ Cond.code z bx mL rt ∈ zz_T ∧ zz_nh owner ∧ zz_pn x n ∧ (z = ⟨owner, x.name, x.desc⟩ ∨ Cond.declares ⟨owner, x.name, x.desc⟩ ∈ zz_nest)
theorem z_invU {owner : String} (F : zz_F p s m args meth c cc y ret nL G) {q : Nat} (hM : zz_M l z bx mL rt d lc mc ms G (.ref (ad q) :: As) ad ce sz Po) (hY : zz_yu y.cls index C owner x z bx mL rt n) (hR : d + 1 ≤ R.frames ∧ 8 + (mL + 11) + lc ≤ R.locals) (hw : zz_W G A ad ce sz H) (hA : ∀ q, H0.size ≤ q → A q) (hS : va_S A H0 H locs) (hl : lv_has ls nL lv) {fs : List Value} (hq : ce q = some (.inr (ci, fs))) (hci : classes[ci]? = some (C, T, N)) (hn : As.length = n) (hst : st0 = As.reverse ++ .ref (ad q) :: rest) (hrm : (rest.map fun v => v.category).sum ≤ 8) (hdg : decode cc pc = .ok (.invokevirtual index, 3)) (hf : cells + mc ≤ R.cells ∧ slots + ms ≤ R.slots)
    (kk : ∀ (r : Option Value) (ad1 : Nat → Nat) (ce1 : zz_C) (H1 : Heap) (locs1 : List Loc), Po r ad1 ce1 → zz_W G A ad1 ce1 (sz + mc) H1 → va_S A H0 H1 locs1 → W p l e R s m args below meth c H1 locs1 (cells + mc) (slots + ms) Q (F0 m (pc + 3) ls (r.toList ++ rest))) : W p l e R s m args below meth c H locs cells slots Q (F0 m pc ls st0) := by
  obtain ⟨hx, hb, hr, hml, hown, hts, hlocks, hK, -⟩ := F
  obtain ⟨y1, y2, y3, y4, y5, y6, y7, y8, y9⟩ := hY
  subst hst
  have hdecl : va_Decl s ⟨owner, x.name, x.desc⟩ := by
    rcases y9 with h | h
    · rw [← h]; exact va_Decl.of (hts _ y4) (hts _ y6)
    · exact va_Decl.abs (hK.2.1 _ h)
  exact z_call (va_runU (As := As) (rest := rest) (Ts := zz_T) (own := y.cls) (C := C) (owner := owner) ⟨hx, hb, hml, hown, hts⟩ hM ⟨⟨rfl, rfl, hR.1, hR.2, pay_in hts (zz_gC y6 zz_gT), List.mem_cons_self⟩, hts _ y6, hts _ y5, y7, zz_len y8, hts _ y1, hts _ y2, hdecl, hts _ y3, hts _ y4⟩ ⟨zz_blind, zz_recv hK hw hq hci, zz_pre hK hw⟩ rfl hn hl.1 rfl (lv_room hrm) hdg hf) hw hA hS kk
/-- a static method -/
def zz_ys (own : String) (index : Nat) (x : MethodName) (bx : ByteArray) (mL : Nat) (rt : Option FieldType) (n : Nat) : Prop :=
  Cond.methodLink own index x ∈ zz_T ∧ Cond.static x ∈ zz_T ∧ Cond.initialized x.cls ∈ zz_T ∧ Cond.code x bx mL rt ∈ zz_T ∧ zz_nh x.cls ∧ zz_pn x n
theorem z_invS (F : zz_F p s m args meth c cc y ret nL G) (hM : zz_M l x bx mL rt d lc mc ms G As ad ce sz Po) (hY : zz_ys y.cls index x bx mL rt n) (hR : d + 1 ≤ R.frames ∧ 8 + (mL + 11) + lc ≤ R.locals) (hw : zz_W G A ad ce sz H) (hA : ∀ q, H0.size ≤ q → A q) (hS : va_S A H0 H locs) (hl : lv_has ls nL lv) (hn : As.length = n) (hst : st0 = As.reverse ++ rest) (hrm : (rest.map fun v => v.category).sum ≤ 8) (hdg : decode cc pc = .ok (.invokestatic index, 3)) (hf : cells + mc ≤ R.cells ∧ slots + ms ≤ R.slots)
    (kk : ∀ (r : Option Value) (ad1 : Nat → Nat) (ce1 : zz_C) (H1 : Heap) (locs1 : List Loc), Po r ad1 ce1 → zz_W G A ad1 ce1 (sz + mc) H1 → va_S A H0 H1 locs1 → W p l e R s m args below meth c H1 locs1 (cells + mc) (slots + ms) Q (F0 m (pc + 3) ls (r.toList ++ rest))) : W p l e R s m args below meth c H locs cells slots Q (F0 m pc ls st0) := by
  obtain ⟨hx, hb, hr, hml, hown, hts, hlocks, hK, -⟩ := F
  obtain ⟨y1, y2, y3, y4, y5, y6⟩ := hY
  subst hst
  exact z_call (va_runS (As := As) (rest := rest) (Ts := zz_T) (own := y.cls) ⟨hx, hb, hml, hown, hts⟩ hM ⟨⟨rfl, rfl, hR.1, hR.2, pay_in hts (zz_gC y4 zz_gT), List.mem_cons_self, hts _ y4, hts _ y3, y5, zz_len y6, hts _ y1⟩, hts _ y2⟩ ⟨zz_blind, zz_pre hK hw⟩ rfl hn hl.1 rfl (lv_room hrm) hdg hf) hw hA hS kk
/-- a constructor -/
def zz_yi (own : String) (index : Nat) (x : MethodName) (bx : ByteArray) (mL : Nat) (n : Nat) : Prop :=
  Cond.methodLink own index x ∈ zz_T ∧ Cond.instanceMethod x ∈ zz_T ∧ Cond.initialized x.cls ∈ zz_T ∧ Cond.code x bx mL none ∈ zz_T ∧ zz_nh x.cls ∧ zz_pn x n ∧ x.name = "<init>"
theorem z_invI (F : zz_F p s m args meth c cc y ret nL G) {b : Nat} (hM : zz_M l x bx mL none d lc mc ms G (.ref b :: As) ad ce sz Po) (hY : zz_yi y.cls index x bx mL n) (hR : d + 1 ≤ R.frames ∧ 8 + (mL + 11) + lc ≤ R.locals) (hw : zz_W G A ad ce sz H) (hA : ∀ q, H0.size ≤ q → A q) (hS : va_S A H0 H locs) (hl : lv_has ls nL lv) (hn : As.length = n) (hst : st0 = As.reverse ++ .ref b :: rest) (hrm : (rest.map fun v => v.category).sum ≤ 8) (hdg : decode cc pc = .ok (.invokespecial index, 3)) (hf : cells + mc ≤ R.cells ∧ slots + ms ≤ R.slots)
    (kk : ∀ (r : Option Value) (ad1 : Nat → Nat) (ce1 : zz_C) (H1 : Heap) (locs1 : List Loc), Po r ad1 ce1 → zz_W G A ad1 ce1 (sz + mc) H1 → va_S A H0 H1 locs1 → W p l e R s m args below meth c H1 locs1 (cells + mc) (slots + ms) Q (F0 m (pc + 3) ls (r.toList ++ rest))) : W p l e R s m args below meth c H locs cells slots Q (F0 m pc ls st0) := by
  obtain ⟨hx, hb, hr, hml, hown, hts, hlocks, hK, -⟩ := F
  obtain ⟨y1, y2, y3, y4, y5, y6, y7⟩ := hY
  subst hst
  exact z_call (va_runI (As := As) (rest := rest) (Ts := zz_T) (own := y.cls) ⟨hx, hb, hml, hown, hts⟩ hM ⟨⟨rfl, rfl, hR.1, hR.2, pay_in hts (zz_gC y4 zz_gT), List.mem_cons_self, hts _ y4, hts _ y3, y5, zz_len y6, hts _ y1⟩, y7, hts _ y2⟩ ⟨zz_blind, zz_pre hK hw⟩ rfl hn hl.1 rfl (lv_room hrm) hdg hf) hw hA hS kk
end ZZ2
end
section
section ZZ3
variable {p : Program} {l : Launch} {e : Env} {R : Room} {s : State} {m : MethodId} {args : Array Value} {below : List Frame} {meth : Method} {c : Code} {H : Heap} {locs : List Loc} {cells slots : Nat} {Q : State → Prop}
variable {cc : ByteArray} {y : MethodName} {ret : Option FieldType} {nL pc : Nat} {ls : Array Slot} {rest st0 : List Value} {G : zz_G} {A : Nat → Prop} {H0 : Heap} {ad : Nat → Nat} {ce : zz_C} {sz : Nat}
/-- the int on top under another name -/
theorem z_top {x : Int32} (y : Int32) (h : x = y) (kk : W p l e R s m args below meth c H locs cells slots Q (F0 m pc ls (.int y :: rest))) : W p l e R s m args below meth c H locs cells slots Q (F0 m pc ls (.int x :: rest)) := by
  subst h; exact kk
theorem z_ld (F : zz_F p s m args meth c cc y ret nL G) (hw : zz_W G A ad ce sz H) {n N : Nat} {f : Nat → Int32} (hn : ce n = some (.inl (zz_cI G, N, .inl f))) {i : Int32} (k : Nat) (hi : i = nI k) (hk : k < N) (hN : N < 2 ^ 31) (hdg : decode cc pc = .ok (.iaload, 1))
    (kk : W p l e R s m args below meth c H locs cells slots Q (F0 m (pc + 1) ls (.int (f k) :: rest))) : W p l e R s m args below meth c H locs cells slots Q (F0 m pc ls (.int i :: .ref (ad n) :: rest)) := by
  subst hi
  refine z_iald F hw hn (vp_in_nI hk hN) hdg ?_
  rw [nI_clamp (Nat.lt_trans hk hN)]
  exact kk
theorem z_st (F : zz_F p s m args meth c cc y ret nL G) (hw : zz_W G A ad ce sz H) (hS : va_S A H0 H locs) {n N : Nat} {f : Nat → Int32} (hn : ce n = some (.inl (zz_cI G, N, .inl f))) {i x : Int32} (k : Nat) (hi : i = nI k) (hk : k < N) (hN : N < 2 ^ 31) (hdg : decode cc pc = .ok (.iastore, 1))
    (kk : ∀ (ce1 : zz_C) (H1 : Heap) (locs1 : List Loc), ce1 n = some (.inl (zz_cI G, N, .inl (upd f k x))) → (∀ j, j ≠ n → ce1 j = ce j) → zz_W G A ad ce1 sz H1 → va_S A H0 H1 locs1 → W p l e R s m args below meth c H1 locs1 cells slots Q (F0 m (pc + 1) ls rest)) : W p l e R s m args below meth c H locs cells slots Q (F0 m pc ls (.int x :: .int i :: .ref (ad n) :: rest)) := by
  subst hi
  refine z_iast F hw hS hn (vp_in_nI hk hN) hdg ?_
  rw [nI_clamp (Nat.lt_trans hk hN)]
  exact kk
theorem z_zld (F : zz_F p s m args meth c cc y ret nL G) (hw : zz_W G A ad ce sz H) {n N : Nat} {f : Nat → Int32} (hn : ce n = some (.inl (zz_cZ G, N, .inl f))) {i : Int32} (k : Nat) (hi : i = nI k) (hk : k < N) (hN : N < 2 ^ 31) (hdg : decode cc pc = .ok (.baload, 1))
    (kk : W p l e R s m args below meth c H locs cells slots Q (F0 m (pc + 1) ls (.int (f k) :: rest))) : W p l e R s m args below meth c H locs cells slots Q (F0 m pc ls (.int i :: .ref (ad n) :: rest)) := by
  obtain ⟨hx, hb, hr, hml, hown, hts, hlocks, hK, -⟩ := F
  subst hi
  refine va_zald hx hb hK.1 (hw.one hn) 0 1 rfl rfl (vp_in_nI hk hN) hdg ?_
  rw [nI_clamp (Nat.lt_trans hk hN)]
  exact kk
theorem z_zst (F : zz_F p s m args meth c cc y ret nL G) (hw : zz_W G A ad ce sz H) (hS : va_S A H0 H locs) {n N : Nat} {f : Nat → Int32} (hn : ce n = some (.inl (zz_cZ G, N, .inl f))) {i x : Int32} (k : Nat) (hi : i = nI k) (hk : k < N) (hN : N < 2 ^ 31) (hx1 : vp_nar .boolean x = x) (hdg : decode cc pc = .ok (.bastore, 1))
    (kk : ∀ (ce1 : zz_C) (H1 : Heap) (locs1 : List Loc), ce1 n = some (.inl (zz_cZ G, N, .inl (upd f k x))) → (∀ j, j ≠ n → ce1 j = ce j) → zz_W G A ad ce1 sz H1 → va_S A H0 H1 locs1 → W p l e R s m args below meth c H1 locs1 cells slots Q (F0 m (pc + 1) ls rest)) : W p l e R s m args below meth c H locs cells slots Q (F0 m pc ls (.int x :: .int i :: .ref (ad n) :: rest)) := by
  obtain ⟨hx, hb, hr, hml, hown, hts, hlocks, hK, -⟩ := F
  subst hi
  have hin := vp_in_nI hk hN
  have hcl := nI_clamp (Nat.lt_trans hk hN)
  refine W.zast hx hb (hw.2.1 n _ hn) ((hK.1.2 1 (zz_cZ G, .boolean) rfl).1 N (fun j => .int (f j))) (fun q => by cases q) (by show ¬ (nI k < 0 ∨ (arrV _ _ _).slots.size ≤ _); rw [arrV_size]; exact hin) rfl rfl hdg fun H1 e1 z oq => ?_
  have he : va_at G.1 classes (ad n, .inl (zz_cZ G, N, .inl (upd f k x))) H1 := by
    show H1[ad n]? = some (vp_cell _ _)
    rw [e1]
    show some ((vp_cell _ _).setSlot _ _) = _
    rw [vp_cell_i, vp_cell_i, arrV_store, hcl]
    congr 2
    funext q
    by_cases hq : q = k
    · subst hq
      simp only [updV, upd, if_true]
      have h9 : narrow .boolean (.int x) = .int x := by
        have := hx1
        simp only [vp_nar] at this
        revert this
        simp [narrow]
      simpa using h9
    · simp [updV, upd, hq]
  obtain ⟨ce1, g1, g2, g3⟩ := hw.put hn he z oq
  exact kk ce1 H1 _ g1 g2 g3 (hS.put z oq (hw.2.2.2 n _ hn))
/-- a loop: a measure falls, I holds at the head -/
theorem z_loop {α : Type} (μ : α → Nat) (I : α → zz_C → Array Slot → Prop) (a0 : α) (h0 : I a0 ce ls) (hw : zz_W G A ad ce sz H) (hS : va_S A H0 H locs)
    (step : ∀ (a : α), (∀ (b : α) (ce1 : zz_C) (H1 : Heap) (locs1 : List Loc) (ls1 : Array Slot), μ b < μ a → I b ce1 ls1 → zz_W G A ad ce1 sz H1 → va_S A H0 H1 locs1 → W p l e R s m args below meth c H1 locs1 cells slots Q (F0 m pc ls1 st0)) →
      ∀ (ce1 : zz_C) (H1 : Heap) (locs1 : List Loc) (ls1 : Array Slot), I a ce1 ls1 → zz_W G A ad ce1 sz H1 → va_S A H0 H1 locs1 → W p l e R s m args below meth c H1 locs1 cells slots Q (F0 m pc ls1 st0)) : W p l e R s m args below meth c H locs cells slots Q (F0 m pc ls st0) := by
  have key : ∀ (n : Nat) (a : α), μ a < n → ∀ (ce1 : zz_C) (H1 : Heap) (locs1 : List Loc) (ls1 : Array Slot), I a ce1 ls1 → zz_W G A ad ce1 sz H1 → va_S A H0 H1 locs1 → W p l e R s m args below meth c H1 locs1 cells slots Q (F0 m pc ls1 st0) := by
    intro n
    induction n with
    | zero => intro a h; exact absurd h (Nat.not_lt_zero _)
    | succ n ih =>
      intro a ha ce1 H1 locs1 ls1 hI hw1 hS1
      exact step a (fun b ce2 H2 locs2 ls2 hb => ih b (by omega) ce2 H2 locs2 ls2) ce1 H1 locs1 ls1 hI hw1 hS1
  exact key (μ a0 + 1) a0 (Nat.lt_succ_self _) ce H locs ls h0 hw hS
end ZZ3
end
section
section ZZ4
variable {p : Program} {l : Launch} {e : Env} {R : Room} {s : State} {m : MethodId} {args : Array Value} {below : List Frame} {meth : Method} {c : Code} {H : Heap} {locs : List Loc} {cells slots : Nat} {Q : State → Prop}
variable {cc : ByteArray} {y : MethodName} {ret : Option FieldType} {nL pc : Nat} {ls : Array Slot} {rest : List Value} {G : zz_G} {A : Nat → Prop} {H0 : Heap} {ad : Nat → Nat} {ce : zz_C} {sz : Nat}
theorem zz_S.born {H1 : Heap} (hS : va_S A H0 H locs) (z : H1.size = H.size + 1) (o1 : ∀ q, q < H.size → H1[q]? = H[q]?) : va_S A H0 H1 locs := ⟨Nat.le_trans hS.1 (by omega), fun x h1 h2 => (o1 x (Nat.lt_of_lt_of_le h1 hS.1)).trans (hS.2.1 x h1 h2), hS.2.2⟩
/-- a new object under the free name n -/
theorem z_new {C : String} {T : u_T} {N ci index : Nat} {ty0 : Nat → FieldType} (F : zz_F p s m args meth c cc y ret nL G) (hw : zz_W G A ad ce sz H) (hA : ∀ q, H0.size ≤ q → A q) (hS : va_S A H0 H locs) (n : Nat) (hn : ce n = none) {fs : List Value} (hc : classes[ci]? = some (C, T, N)) (hin : ∀ w ∈ u_ws C T N, w ∈ zz_T) (hp : ∀ j, j < N → parseFieldDescriptor (T j).2.2.1 = some (ty0 j)) (hl : Cond.classLink y.cls index C ∈ zz_T) (hi : Cond.instantiable C N ∈ zz_T) (hini : Cond.initialized C ∈ zz_T) (hfs : ∀ j, j < N → defaultValue (ty0 j) = vp_V fs j) (hcells : cells + 1 ≤ R.cells) (hslots : slots + N ≤ R.slots) (hdg : decode cc pc = .ok (.new index, 3))
    (kk : ∀ (ad1 : Nat → Nat) (ce1 : zz_C) (H1 : Heap), ad1 n = sz → (∀ j, j ≠ n → ad1 j = ad j) → ce1 n = some (.inr (ci, fs)) → (∀ j, j ≠ n → ce1 j = ce j) → zz_W G A ad1 ce1 (sz + 1) H1 → va_S A H0 H1 locs → W p l e R s m args below meth c H1 locs (cells + 1) (slots + N) Q (F0 m (pc + 3) ls (.ref sz :: rest))) : W p l e R s m args below meth c H locs cells slots Q (F0 m pc ls rest) := by
  obtain ⟨hx, hb, hr, hml, hown, hts, hlocks, hK, -⟩ := F
  have hKn := hK.1.1 ci _ hc
  refine W.newcK hx hb hown (hts _ hl) (hts _ hi) (hts _ hini) rfl hdg hcells hslots hKn.2.1 hw.1 fun H1 kC hkC e1 z1 o1 => ?_
  have hat : va_at G.1 classes (sz, .inr (ci, fs)) H1 := ⟨_, hc, (u_born ty0 hts hin hKn hkC e1 hp).to hfs⟩
  obtain ⟨ad1, ce1, g1, g2, g3, g4, g5⟩ := hw.born hn hat z1 o1 (hA _ (by rw [← hw.1]; exact hS.1))
  exact kk ad1 ce1 H1 g1 g2 g3 g4 g5 (zz_S.born hS (by rw [hw.1]; exact z1) (by rw [hw.1]; exact o1))
/-- a new int array of N under the free name n -/
theorem z_newi {x : Int32} {N : Nat} (F : zz_F p s m args meth c cc y ret nL G) (hw : zz_W G A ad ce sz H) (hA : ∀ q, H0.size ≤ q → A q) (hS : va_S A H0 H locs) (n : Nat) (hn : ce n = none) (har : Cond.arrayClass .int ∈ zz_T) (hx0 : ¬ x < 0) (hN : x.toNatClampNeg = N) (hb4 : N * 4 ≤ 536870912) (hcells : cells + 1 ≤ R.cells) (hslots : slots + N ≤ R.slots) (hdg : decode cc pc = .ok (.newarray .int, 2))
    (kk : ∀ (ad1 : Nat → Nat) (ce1 : zz_C) (H1 : Heap), ad1 n = sz → (∀ j, j ≠ n → ad1 j = ad j) → ce1 n = some (.inl (zz_cI G, N, .inl (fun _ => 0))) → (∀ j, j ≠ n → ce1 j = ce j) → zz_W G A ad1 ce1 (sz + 1) H1 → va_S A H0 H1 locs → W p l e R s m args below meth c H1 locs (cells + 1) (slots + N) Q (F0 m (pc + 2) ls (.ref sz :: rest))) : W p l e R s m args below meth c H locs cells slots Q (F0 m pc ls (.int x :: rest)) := by
  obtain ⟨hx, hb, hr, hml, hown, hts, hlocks, hK, -⟩ := F
  refine va_newaK (atype := .int) hx hb (hts _ har) rfl hdg rfl hx0 hN hb4 hcells hslots hw.1 fun H1 cA e1 z1 o1 hAr hNm => ?_
  have hcA : cA = zz_cI G := Option.some.inj (hNm.symm.trans (hK.1.2 0 (zz_cI G, .int) rfl).2)
  subst hcA
  have hat : va_at G.1 classes (sz, .inl (zz_cI G, N, .inl (fun _ => 0))) H1 := by
    show H1[sz]? = some (vp_cell _ _)
    rw [vp_cell_i]
    exact e1
  obtain ⟨ad1, ce1, g1, g2, g3, g4, g5⟩ := hw.born hn hat z1 o1 (hA _ (by rw [← hw.1]; exact hS.1))
  exact kk ad1 ce1 H1 g1 g2 g3 g4 g5 (zz_S.born hS (by rw [hw.1]; exact z1) (by rw [hw.1]; exact o1))
theorem z_newz {x : Int32} {N : Nat} (F : zz_F p s m args meth c cc y ret nL G) (hw : zz_W G A ad ce sz H) (hA : ∀ q, H0.size ≤ q → A q) (hS : va_S A H0 H locs) (n : Nat) (hn : ce n = none) (har : Cond.arrayClass .boolean ∈ zz_T) (hx0 : ¬ x < 0) (hN : x.toNatClampNeg = N) (hb4 : N * 1 ≤ 536870912) (hcells : cells + 1 ≤ R.cells) (hslots : slots + N ≤ R.slots) (hdg : decode cc pc = .ok (.newarray .boolean, 2))
    (kk : ∀ (ad1 : Nat → Nat) (ce1 : zz_C) (H1 : Heap), ad1 n = sz → (∀ j, j ≠ n → ad1 j = ad j) → ce1 n = some (.inl (zz_cZ G, N, .inl (fun _ => 0))) → (∀ j, j ≠ n → ce1 j = ce j) → zz_W G A ad1 ce1 (sz + 1) H1 → va_S A H0 H1 locs → W p l e R s m args below meth c H1 locs (cells + 1) (slots + N) Q (F0 m (pc + 2) ls (.ref sz :: rest))) : W p l e R s m args below meth c H locs cells slots Q (F0 m pc ls (.int x :: rest)) := by
  obtain ⟨hx, hb, hr, hml, hown, hts, hlocks, hK, -⟩ := F
  refine va_newaK (atype := .boolean) hx hb (hts _ har) rfl hdg rfl hx0 hN hb4 hcells hslots hw.1 fun H1 cA e1 z1 o1 hAr hNm => ?_
  have hcA : cA = zz_cZ G := Option.some.inj (hNm.symm.trans (hK.1.2 1 (zz_cZ G, .boolean) rfl).2)
  subst hcA
  have hat : va_at G.1 classes (sz, .inl (zz_cZ G, N, .inl (fun _ => 0))) H1 := by
    show H1[sz]? = some (vp_cell _ _)
    rw [vp_cell_i]
    exact e1
  obtain ⟨ad1, ce1, g1, g2, g3, g4, g5⟩ := hw.born hn hat z1 o1 (hA _ (by rw [← hw.1]; exact hS.1))
  exact kk ad1 ce1 H1 g1 g2 g3 g4 g5 (zz_S.born hS (by rw [hw.1]; exact z1) (by rw [hw.1]; exact o1))
/-- a new row of messages -/
theorem z_newq {x : Int32} {N index : Nat} (F : zz_F p s m args meth c cc y ret nL G) (hw : zz_W G A ad ce sz H) (hA : ∀ q, H0.size ≤ q → A q) (hS : va_S A H0 H locs) (n : Nat) (hn : ce n = none) (hcl : Cond.classLink y.cls index RX0 ∈ zz_T) (hx0 : ¬ x < 0) (hN : x.toNatClampNeg = N) (hb4 : N * 4 ≤ 536870912) (hcells : cells + 1 ≤ R.cells) (hslots : slots + N ≤ R.slots) (hdg : decode cc pc = .ok (.anewarray index, 3))
    (kk : ∀ (ad1 : Nat → Nat) (ce1 : zz_C) (H1 : Heap), ad1 n = sz → (∀ j, j ≠ n → ad1 j = ad j) → ce1 n = some (.inl (zz_cM G, N, .inr (.inr (.inr (.inr (fun _ => none)))))) → (∀ j, j ≠ n → ce1 j = ce j) → zz_W G A ad1 ce1 (sz + 1) H1 → va_S A H0 H1 locs → W p l e R s m args below meth c H1 locs (cells + 1) (slots + N) Q (F0 m (pc + 3) ls (.ref sz :: rest))) : W p l e R s m args below meth c H locs cells slots Q (F0 m pc ls (.int x :: rest)) := by
  obtain ⟨hx, hb, hr, hml, hown, hts, hlocks, hK, -⟩ := F
  subst hN
  refine W.anew hx hb hown (hts _ hcl) (va_AO.use (hK.2.2 RX0 (by simp [zz_over]))) rfl hdg rfl hx0 hb4 hcells hslots fun cA kA comp f1 f2 f3 f4 => ?_
  obtain ⟨kB, compB, k1, k2, k3, k4⟩ := (hK.1.2 2 (zz_cM G, .object RX0) rfl).2
  have hcA : cA = zz_cM G := Option.some.inj (f1.symm.trans k4)
  subst hcA
  have hsz := hw.1
  subst hsz
  generalize hH1 : H.push ({ cls := zz_cM G, slots := Array.replicate x.toNatClampNeg .null, vm := .none } : Cell) = H1
  have z1 : H1.size = H.size + 1 := by rw [← hH1, Array.size_push]
  have e1 : H1[H.size]? = some (arrV (zz_cM G) x.toNatClampNeg (fun _ => .null)) := by rw [← hH1, Array.getElem?_push_size, ← arrV_new]
  have o1 : ∀ q : Nat, q < H.size → H1[q]? = H[q]? := fun q hq => by rw [← hH1, Array.getElem?_push, if_neg (Nat.ne_of_lt hq)]
  have hat : va_at G.1 classes (H.size, .inl (zz_cM G, x.toNatClampNeg, .inr (.inr (.inr (.inr (fun _ => none)))))) H1 := by
    show H1[H.size]? = some (vp_cell _ _)
    rw [vp_cell_q]
    exact e1
  obtain ⟨ad1, ce1, g1, g2, g3, g4, g5⟩ := hw.born hn hat z1 o1 (hA _ hS.1)
  exact kk ad1 ce1 H1 g1 g2 g3 g4 g5 (zz_S.born hS z1 o1)
theorem z_ald (F : zz_F p s m args meth c cc y ret nL G) (hw : zz_W G A ad ce sz H) {n N : Nat} {f : Nat → Option Nat} (hn : ce n = some (.inl (zz_cM G, N, .inr (.inr (.inr (.inr f)))))) {i : Int32} (k : Nat) (hi : i = nI k) (hk : k < N) (hN : N < 2 ^ 31) (hdg : decode cc pc = .ok (.aaload, 1))
    (kk : W p l e R s m args below meth c H locs cells slots Q (F0 m (pc + 1) ls (va_rf (f k) :: rest))) : W p l e R s m args below meth c H locs cells slots Q (F0 m pc ls (.int i :: .ref (ad n) :: rest)) := by
  obtain ⟨hx, hb, hr, hml, hown, hts, hlocks, hK, -⟩ := F
  subst hi
  refine va_aldq (C := RX0) hx hb hK.1 (hw.one hn) 0 2 rfl rfl (vp_in_nI hk hN) hdg ?_
  rw [nI_clamp (Nat.lt_trans hk hN)]
  exact kk
end ZZ4
end
section
theorem dX6_init_0 : decode cX6_init 0 = .ok (.aload_n 0, 1) := by decide +kernel
theorem dX6_init_1 : decode cX6_init 1 = .ok (.invokespecial 1, 3) := by decide +kernel
theorem dX6_init_4 : decode cX6_init 4 = .ok (.aload_n 0, 1) := by decide +kernel
theorem dX6_init_5 : decode cX6_init 5 = .ok (.iconst 3, 1) := by decide +kernel
theorem dX6_init_6 : decode cX6_init 6 = .ok (.putfield 7, 3) := by decide +kernel
theorem dX6_init_9 : decode cX6_init 9 = .ok (.aload_n 0, 1) := by decide +kernel
theorem dX6_init_10 : decode cX6_init 10 = .ok (.iconst 2, 1) := by decide +kernel
theorem dX6_init_11 : decode cX6_init 11 = .ok (.newarray .int, 2) := by decide +kernel
theorem dX6_init_13 : decode cX6_init 13 = .ok (.putfield 13, 3) := by decide +kernel
theorem dX6_init_16 : decode cX6_init 16 = .ok (.aload_n 0, 1) := by decide +kernel
theorem dX6_init_17 : decode cX6_init 17 = .ok (.bipush 16, 2) := by decide +kernel
theorem dX6_init_19 : decode cX6_init 19 = .ok (.newarray .int, 2) := by decide +kernel
theorem dX6_init_21 : decode cX6_init 21 = .ok (.putfield 17, 3) := by decide +kernel
theorem dX6_init_24 : decode cX6_init 24 = .ok (.aload_n 0, 1) := by decide +kernel
theorem dX6_init_25 : decode cX6_init 25 = .ok (.sipush 384, 3) := by decide +kernel
theorem dX6_init_28 : decode cX6_init 28 = .ok (.newarray .int, 2) := by decide +kernel
theorem dX6_init_30 : decode cX6_init 30 = .ok (.putfield 20, 3) := by decide +kernel
theorem dX6_init_33 : decode cX6_init 33 = .ok (.aload_n 0, 1) := by decide +kernel
theorem dX6_init_34 : decode cX6_init 34 = .ok (.iconst 2, 1) := by decide +kernel
theorem dX6_init_35 : decode cX6_init 35 = .ok (.newarray .int, 2) := by decide +kernel
theorem dX6_init_37 : decode cX6_init 37 = .ok (.putfield 23, 3) := by decide +kernel
theorem dX6_init_40 : decode cX6_init 40 = .ok (.aload_n 0, 1) := by decide +kernel
theorem dX6_init_41 : decode cX6_init 41 = .ok (.iconst 2, 1) := by decide +kernel
theorem dX6_init_42 : decode cX6_init 42 = .ok (.newarray .int, 2) := by decide +kernel
theorem dX6_init_44 : decode cX6_init 44 = .ok (.putfield 26, 3) := by decide +kernel
theorem dX6_init_47 : decode cX6_init 47 = .ok (.aload_n 0, 1) := by decide +kernel
theorem dX6_init_48 : decode cX6_init 48 = .ok (.iconst 2, 1) := by decide +kernel
theorem dX6_init_49 : decode cX6_init 49 = .ok (.newarray .int, 2) := by decide +kernel
theorem dX6_init_51 : decode cX6_init 51 = .ok (.putfield 29, 3) := by decide +kernel
theorem dX6_init_54 : decode cX6_init 54 = .ok (.aload_n 0, 1) := by decide +kernel
theorem dX6_init_55 : decode cX6_init 55 = .ok (.iconst 2, 1) := by decide +kernel
theorem dX6_init_56 : decode cX6_init 56 = .ok (.newarray .boolean, 2) := by decide +kernel
theorem dX6_init_58 : decode cX6_init 58 = .ok (.putfield 32, 3) := by decide +kernel
theorem dX6_init_61 : decode cX6_init 61 = .ok (.aload_n 0, 1) := by decide +kernel
theorem dX6_init_62 : decode cX6_init 62 = .ok (.iconst 2, 1) := by decide +kernel
theorem dX6_init_63 : decode cX6_init 63 = .ok (.newarray .int, 2) := by decide +kernel
theorem dX6_init_65 : decode cX6_init 65 = .ok (.putfield 36, 3) := by decide +kernel
theorem dX6_init_68 : decode cX6_init 68 = .ok (.aload_n 0, 1) := by decide +kernel
theorem dX6_init_69 : decode cX6_init 69 = .ok (.iconst (-1), 1) := by decide +kernel
theorem dX6_init_70 : decode cX6_init 70 = .ok (.putfield 39, 3) := by decide +kernel
theorem dX6_init_73 : decode cX6_init 73 = .ok (.aload_n 0, 1) := by decide +kernel
theorem dX6_init_74 : decode cX6_init 74 = .ok (.bipush 8, 2) := by decide +kernel
theorem dX6_init_76 : decode cX6_init 76 = .ok (.newarray .int, 2) := by decide +kernel
theorem dX6_init_78 : decode cX6_init 78 = .ok (.putfield 42, 3) := by decide +kernel
theorem dX6_init_81 : decode cX6_init 81 = .ok (.aload_n 0, 1) := by decide +kernel
theorem dX6_init_82 : decode cX6_init 82 = .ok (.bipush 8, 2) := by decide +kernel
theorem dX6_init_84 : decode cX6_init 84 = .ok (.newarray .int, 2) := by decide +kernel
theorem dX6_init_86 : decode cX6_init 86 = .ok (.putfield 45, 3) := by decide +kernel
theorem dX6_init_89 : decode cX6_init 89 = .ok (.aload_n 0, 1) := by decide +kernel
theorem dX6_init_90 : decode cX6_init 90 = .ok (.bipush 24, 2) := by decide +kernel
theorem dX6_init_92 : decode cX6_init 92 = .ok (.newarray .int, 2) := by decide +kernel
theorem dX6_init_94 : decode cX6_init 94 = .ok (.putfield 48, 3) := by decide +kernel
theorem dX6_init_97 : decode cX6_init 97 = .ok (.aload_n 0, 1) := by decide +kernel
theorem dX6_init_98 : decode cX6_init 98 = .ok (.iload_n 1, 1) := by decide +kernel
theorem dX6_init_99 : decode cX6_init 99 = .ok (.putfield 51, 3) := by decide +kernel
theorem dX6_init_102 : decode cX6_init 102 = .ok (.aload_n 0, 1) := by decide +kernel
theorem dX6_init_103 : decode cX6_init 103 = .ok (.iload_n 2, 1) := by decide +kernel
theorem dX6_init_104 : decode cX6_init 104 = .ok (.putfield 54, 3) := by decide +kernel
theorem dX6_init_107 : decode cX6_init 107 = .ok (.aload_n 0, 1) := by decide +kernel
theorem dX6_init_108 : decode cX6_init 108 = .ok (.iload_n 3, 1) := by decide +kernel
theorem dX6_init_109 : decode cX6_init 109 = .ok (.putfield 57, 3) := by decide +kernel
theorem dX6_init_112 : decode cX6_init 112 = .ok (.aload_n 0, 1) := by decide +kernel
theorem dX6_init_113 : decode cX6_init 113 = .ok (.getfield 36, 3) := by decide +kernel
theorem dX6_init_116 : decode cX6_init 116 = .ok (.iconst 0, 1) := by decide +kernel
theorem dX6_init_117 : decode cX6_init 117 = .ok (.iconst (-1), 1) := by decide +kernel
theorem dX6_init_118 : decode cX6_init 118 = .ok (.iastore, 1) := by decide +kernel
theorem dX6_init_119 : decode cX6_init 119 = .ok (.aload_n 0, 1) := by decide +kernel
theorem dX6_init_120 : decode cX6_init 120 = .ok (.getfield 36, 3) := by decide +kernel
theorem dX6_init_123 : decode cX6_init 123 = .ok (.iconst 1, 1) := by decide +kernel
theorem dX6_init_124 : decode cX6_init 124 = .ok (.iconst (-1), 1) := by decide +kernel
theorem dX6_init_125 : decode cX6_init 125 = .ok (.iastore, 1) := by decide +kernel
theorem dX6_init_126 : decode cX6_init 126 = .ok (.return_, 1) := by decide +kernel
theorem dX6_put_0 : decode cX6_put 0 = .ok (.aload_n 0, 1) := by decide +kernel
theorem dX6_put_1 : decode cX6_put 1 = .ok (.getfield 60, 3) := by decide +kernel
theorem dX6_put_4 : decode cX6_put 4 = .ok (.ifCond .ne 14, 3) := by decide +kernel
theorem dX6_put_7 : decode cX6_put 7 = .ok (.aload_n 0, 1) := by decide +kernel
theorem dX6_put_8 : decode cX6_put 8 = .ok (.getfield 13, 3) := by decide +kernel
theorem dX6_put_11 : decode cX6_put 11 = .ok (.iload_n 1, 1) := by decide +kernel
theorem dX6_put_12 : decode cX6_put 12 = .ok (.iaload, 1) := by decide +kernel
theorem dX6_put_13 : decode cX6_put 13 = .ok (.bipush 8, 2) := by decide +kernel
theorem dX6_put_15 : decode cX6_put 15 = .ok (.if_icmp .ne 6, 3) := by decide +kernel
theorem dX6_put_18 : decode cX6_put 18 = .ok (.bipush (-3), 2) := by decide +kernel
theorem dX6_put_20 : decode cX6_put 20 = .ok (.ireturn, 1) := by decide +kernel
theorem dX6_put_21 : decode cX6_put 21 = .ok (.bipush 8, 2) := by decide +kernel
theorem dX6_put_23 : decode cX6_put 23 = .ok (.iload_n 1, 1) := by decide +kernel
theorem dX6_put_24 : decode cX6_put 24 = .ok (.imul, 1) := by decide +kernel
theorem dX6_put_25 : decode cX6_put 25 = .ok (.aload_n 0, 1) := by decide +kernel
theorem dX6_put_26 : decode cX6_put 26 = .ok (.getfield 13, 3) := by decide +kernel
theorem dX6_put_29 : decode cX6_put 29 = .ok (.iload_n 1, 1) := by decide +kernel
theorem dX6_put_30 : decode cX6_put 30 = .ok (.iaload, 1) := by decide +kernel
theorem dX6_put_31 : decode cX6_put 31 = .ok (.iadd, 1) := by decide +kernel
theorem dX6_put_32 : decode cX6_put 32 = .ok (.istore 4, 2) := by decide +kernel
theorem dX6_put_34 : decode cX6_put 34 = .ok (.aload_n 0, 1) := by decide +kernel
theorem dX6_put_35 : decode cX6_put 35 = .ok (.getfield 13, 3) := by decide +kernel
theorem dX6_put_38 : decode cX6_put 38 = .ok (.iload_n 1, 1) := by decide +kernel
theorem dX6_put_39 : decode cX6_put 39 = .ok (.dup2, 1) := by decide +kernel
theorem dX6_put_40 : decode cX6_put 40 = .ok (.iaload, 1) := by decide +kernel
theorem dX6_put_41 : decode cX6_put 41 = .ok (.iconst 1, 1) := by decide +kernel
theorem dX6_put_42 : decode cX6_put 42 = .ok (.iadd, 1) := by decide +kernel
theorem dX6_put_43 : decode cX6_put 43 = .ok (.iastore, 1) := by decide +kernel
theorem dX6_put_44 : decode cX6_put 44 = .ok (.aload_n 0, 1) := by decide +kernel
theorem dX6_put_45 : decode cX6_put 45 = .ok (.getfield 17, 3) := by decide +kernel
theorem dX6_put_48 : decode cX6_put 48 = .ok (.iload 4, 2) := by decide +kernel
theorem dX6_put_50 : decode cX6_put 50 = .ok (.iconst 2, 1) := by decide +kernel
theorem dX6_put_51 : decode cX6_put 51 = .ok (.iastore, 1) := by decide +kernel
theorem dX6_put_52 : decode cX6_put 52 = .ok (.aload_n 0, 1) := by decide +kernel
theorem dX6_put_53 : decode cX6_put 53 = .ok (.getfield 20, 3) := by decide +kernel
theorem dX6_put_56 : decode cX6_put 56 = .ok (.bipush 24, 2) := by decide +kernel
theorem dX6_put_58 : decode cX6_put 58 = .ok (.iload 4, 2) := by decide +kernel
theorem dX6_put_60 : decode cX6_put 60 = .ok (.imul, 1) := by decide +kernel
theorem dX6_put_61 : decode cX6_put 61 = .ok (.iload_n 2, 1) := by decide +kernel
theorem dX6_put_62 : decode cX6_put 62 = .ok (.iastore, 1) := by decide +kernel
theorem dX6_put_63 : decode cX6_put 63 = .ok (.aload_n 0, 1) := by decide +kernel
theorem dX6_put_64 : decode cX6_put 64 = .ok (.getfield 20, 3) := by decide +kernel
theorem dX6_put_67 : decode cX6_put 67 = .ok (.bipush 24, 2) := by decide +kernel
theorem dX6_put_69 : decode cX6_put 69 = .ok (.iload 4, 2) := by decide +kernel
theorem dX6_put_71 : decode cX6_put 71 = .ok (.imul, 1) := by decide +kernel
theorem dX6_put_72 : decode cX6_put 72 = .ok (.iconst 1, 1) := by decide +kernel
theorem dX6_put_73 : decode cX6_put 73 = .ok (.iadd, 1) := by decide +kernel
theorem dX6_put_74 : decode cX6_put 74 = .ok (.iload_n 3, 1) := by decide +kernel
theorem dX6_put_75 : decode cX6_put 75 = .ok (.iastore, 1) := by decide +kernel
theorem dX6_put_76 : decode cX6_put 76 = .ok (.iload 4, 2) := by decide +kernel
theorem dX6_put_78 : decode cX6_put 78 = .ok (.ireturn, 1) := by decide +kernel
theorem dX6_more_0 : decode cX6_more 0 = .ok (.iload_n 1, 1) := by decide +kernel
theorem dX6_more_1 : decode cX6_more 1 = .ok (.bipush (-3), 2) := by decide +kernel
theorem dX6_more_3 : decode cX6_more 3 = .ok (.if_icmp .eq 34, 3) := by decide +kernel
theorem dX6_more_6 : decode cX6_more 6 = .ok (.aload_n 0, 1) := by decide +kernel
theorem dX6_more_7 : decode cX6_more 7 = .ok (.getfield 20, 3) := by decide +kernel
theorem dX6_more_10 : decode cX6_more 10 = .ok (.bipush 24, 2) := by decide +kernel
theorem dX6_more_12 : decode cX6_more 12 = .ok (.iload_n 1, 1) := by decide +kernel
theorem dX6_more_13 : decode cX6_more 13 = .ok (.imul, 1) := by decide +kernel
theorem dX6_more_14 : decode cX6_more 14 = .ok (.aload_n 0, 1) := by decide +kernel
theorem dX6_more_15 : decode cX6_more 15 = .ok (.getfield 17, 3) := by decide +kernel
theorem dX6_more_18 : decode cX6_more 18 = .ok (.iload_n 1, 1) := by decide +kernel
theorem dX6_more_19 : decode cX6_more 19 = .ok (.iaload, 1) := by decide +kernel
theorem dX6_more_20 : decode cX6_more 20 = .ok (.iadd, 1) := by decide +kernel
theorem dX6_more_21 : decode cX6_more 21 = .ok (.iload_n 2, 1) := by decide +kernel
theorem dX6_more_22 : decode cX6_more 22 = .ok (.sipush 255, 3) := by decide +kernel
theorem dX6_more_25 : decode cX6_more 25 = .ok (.iand, 1) := by decide +kernel
theorem dX6_more_26 : decode cX6_more 26 = .ok (.iastore, 1) := by decide +kernel
theorem dX6_more_27 : decode cX6_more 27 = .ok (.aload_n 0, 1) := by decide +kernel
theorem dX6_more_28 : decode cX6_more 28 = .ok (.getfield 17, 3) := by decide +kernel
theorem dX6_more_31 : decode cX6_more 31 = .ok (.iload_n 1, 1) := by decide +kernel
theorem dX6_more_32 : decode cX6_more 32 = .ok (.dup2, 1) := by decide +kernel
theorem dX6_more_33 : decode cX6_more 33 = .ok (.iaload, 1) := by decide +kernel
theorem dX6_more_34 : decode cX6_more 34 = .ok (.iconst 1, 1) := by decide +kernel
theorem dX6_more_35 : decode cX6_more 35 = .ok (.iadd, 1) := by decide +kernel
theorem dX6_more_36 : decode cX6_more 36 = .ok (.iastore, 1) := by decide +kernel
theorem dX6_more_37 : decode cX6_more 37 = .ok (.return_, 1) := by decide +kernel
theorem dX6_tell_0 : decode cX6_tell 0 = .ok (.aload_n 0, 1) := by decide +kernel
theorem dX6_tell_1 : decode cX6_tell 1 = .ok (.iload_n 1, 1) := by decide +kernel
theorem dX6_tell_2 : decode cX6_tell 2 = .ok (.iload_n 2, 1) := by decide +kernel
theorem dX6_tell_3 : decode cX6_tell 3 = .ok (.iload_n 3, 1) := by decide +kernel
theorem dX6_tell_4 : decode cX6_tell 4 = .ok (.invokevirtual 64, 3) := by decide +kernel
theorem dX6_tell_7 : decode cX6_tell 7 = .ok (.istore 7, 2) := by decide +kernel
theorem dX6_tell_9 : decode cX6_tell 9 = .ok (.aload_n 0, 1) := by decide +kernel
theorem dX6_tell_10 : decode cX6_tell 10 = .ok (.iload 7, 2) := by decide +kernel
theorem dX6_tell_12 : decode cX6_tell 12 = .ok (.iload 4, 2) := by decide +kernel
theorem dX6_tell_14 : decode cX6_tell 14 = .ok (.invokevirtual 68, 3) := by decide +kernel
theorem dX6_tell_17 : decode cX6_tell 17 = .ok (.aload_n 0, 1) := by decide +kernel
theorem dX6_tell_18 : decode cX6_tell 18 = .ok (.iload 7, 2) := by decide +kernel
theorem dX6_tell_20 : decode cX6_tell 20 = .ok (.iload 5, 2) := by decide +kernel
theorem dX6_tell_22 : decode cX6_tell 22 = .ok (.invokevirtual 68, 3) := by decide +kernel
theorem dX6_tell_25 : decode cX6_tell 25 = .ok (.iload 5, 2) := by decide +kernel
theorem dX6_tell_27 : decode cX6_tell 27 = .ok (.iconst 1, 1) := by decide +kernel
theorem dX6_tell_28 : decode cX6_tell 28 = .ok (.isub, 1) := by decide +kernel
theorem dX6_tell_29 : decode cX6_tell 29 = .ok (.istore 8, 2) := by decide +kernel
theorem dX6_tell_31 : decode cX6_tell 31 = .ok (.iload 8, 2) := by decide +kernel
theorem dX6_tell_33 : decode cX6_tell 33 = .ok (.ifCond .lt 23, 3) := by decide +kernel
theorem dX6_tell_36 : decode cX6_tell 36 = .ok (.aload_n 0, 1) := by decide +kernel
theorem dX6_tell_37 : decode cX6_tell 37 = .ok (.iload 7, 2) := by decide +kernel
theorem dX6_tell_39 : decode cX6_tell 39 = .ok (.iload 6, 2) := by decide +kernel
theorem dX6_tell_41 : decode cX6_tell 41 = .ok (.bipush 8, 2) := by decide +kernel
theorem dX6_tell_43 : decode cX6_tell 43 = .ok (.iload 8, 2) := by decide +kernel
theorem dX6_tell_45 : decode cX6_tell 45 = .ok (.imul, 1) := by decide +kernel
theorem dX6_tell_46 : decode cX6_tell 46 = .ok (.ishr, 1) := by decide +kernel
theorem dX6_tell_47 : decode cX6_tell 47 = .ok (.invokevirtual 68, 3) := by decide +kernel
theorem dX6_tell_50 : decode cX6_tell 50 = .ok (.iinc 8 (-1), 3) := by decide +kernel
theorem dX6_tell_53 : decode cX6_tell 53 = .ok (.goto (-22), 3) := by decide +kernel
theorem dX6_tell_56 : decode cX6_tell 56 = .ok (.return_, 1) := by decide +kernel
theorem dX6_take_0 : decode cX6_take 0 = .ok (.bipush 8, 2) := by decide +kernel
theorem dX6_take_2 : decode cX6_take 2 = .ok (.iload_n 1, 1) := by decide +kernel
theorem dX6_take_3 : decode cX6_take 3 = .ok (.imul, 1) := by decide +kernel
theorem dX6_take_4 : decode cX6_take 4 = .ok (.istore_n 2, 1) := by decide +kernel
theorem dX6_take_5 : decode cX6_take 5 = .ok (.aload_n 0, 1) := by decide +kernel
theorem dX6_take_6 : decode cX6_take 6 = .ok (.aload_n 0, 1) := by decide +kernel
theorem dX6_take_7 : decode cX6_take 7 = .ok (.getfield 17, 3) := by decide +kernel
theorem dX6_take_10 : decode cX6_take 10 = .ok (.iload_n 2, 1) := by decide +kernel
theorem dX6_take_11 : decode cX6_take 11 = .ok (.iaload, 1) := by decide +kernel
theorem dX6_take_12 : decode cX6_take 12 = .ok (.putfield 72, 3) := by decide +kernel
theorem dX6_take_15 : decode cX6_take 15 = .ok (.iconst 0, 1) := by decide +kernel
theorem dX6_take_16 : decode cX6_take 16 = .ok (.istore_n 3, 1) := by decide +kernel
theorem dX6_take_17 : decode cX6_take 17 = .ok (.iload_n 3, 1) := by decide +kernel
theorem dX6_take_18 : decode cX6_take 18 = .ok (.aload_n 0, 1) := by decide +kernel
theorem dX6_take_19 : decode cX6_take 19 = .ok (.getfield 72, 3) := by decide +kernel
theorem dX6_take_22 : decode cX6_take 22 = .ok (.if_icmp .ge 26, 3) := by decide +kernel
theorem dX6_take_25 : decode cX6_take 25 = .ok (.aload_n 0, 1) := by decide +kernel
theorem dX6_take_26 : decode cX6_take 26 = .ok (.getfield 48, 3) := by decide +kernel
theorem dX6_take_29 : decode cX6_take 29 = .ok (.iload_n 3, 1) := by decide +kernel
theorem dX6_take_30 : decode cX6_take 30 = .ok (.aload_n 0, 1) := by decide +kernel
theorem dX6_take_31 : decode cX6_take 31 = .ok (.getfield 20, 3) := by decide +kernel
theorem dX6_take_34 : decode cX6_take 34 = .ok (.bipush 24, 2) := by decide +kernel
theorem dX6_take_36 : decode cX6_take 36 = .ok (.iload_n 2, 1) := by decide +kernel
theorem dX6_take_37 : decode cX6_take 37 = .ok (.imul, 1) := by decide +kernel
theorem dX6_take_38 : decode cX6_take 38 = .ok (.iload_n 3, 1) := by decide +kernel
theorem dX6_take_39 : decode cX6_take 39 = .ok (.iadd, 1) := by decide +kernel
theorem dX6_take_40 : decode cX6_take 40 = .ok (.iaload, 1) := by decide +kernel
theorem dX6_take_41 : decode cX6_take 41 = .ok (.iastore, 1) := by decide +kernel
theorem dX6_take_42 : decode cX6_take 42 = .ok (.iinc 3 1, 3) := by decide +kernel
theorem dX6_take_45 : decode cX6_take 45 = .ok (.goto (-28), 3) := by decide +kernel
theorem dX6_take_48 : decode cX6_take 48 = .ok (.aload_n 0, 1) := by decide +kernel
theorem dX6_take_49 : decode cX6_take 49 = .ok (.getfield 13, 3) := by decide +kernel
theorem dX6_take_52 : decode cX6_take 52 = .ok (.iload_n 1, 1) := by decide +kernel
theorem dX6_take_53 : decode cX6_take 53 = .ok (.dup2, 1) := by decide +kernel
theorem dX6_take_54 : decode cX6_take 54 = .ok (.iaload, 1) := by decide +kernel
theorem dX6_take_55 : decode cX6_take 55 = .ok (.iconst 1, 1) := by decide +kernel
theorem dX6_take_56 : decode cX6_take 56 = .ok (.isub, 1) := by decide +kernel
theorem dX6_take_57 : decode cX6_take 57 = .ok (.iastore, 1) := by decide +kernel
theorem dX6_take_58 : decode cX6_take 58 = .ok (.iconst 0, 1) := by decide +kernel
theorem dX6_take_59 : decode cX6_take 59 = .ok (.istore_n 3, 1) := by decide +kernel
theorem dX6_take_60 : decode cX6_take 60 = .ok (.iload_n 3, 1) := by decide +kernel
theorem dX6_take_61 : decode cX6_take 61 = .ok (.aload_n 0, 1) := by decide +kernel
theorem dX6_take_62 : decode cX6_take 62 = .ok (.getfield 13, 3) := by decide +kernel
theorem dX6_take_65 : decode cX6_take 65 = .ok (.iload_n 1, 1) := by decide +kernel
theorem dX6_take_66 : decode cX6_take 66 = .ok (.iaload, 1) := by decide +kernel
theorem dX6_take_67 : decode cX6_take 67 = .ok (.if_icmp .ge 73, 3) := by decide +kernel
theorem dX6_take_70 : decode cX6_take 70 = .ok (.aload_n 0, 1) := by decide +kernel
theorem dX6_take_71 : decode cX6_take 71 = .ok (.getfield 17, 3) := by decide +kernel
theorem dX6_take_74 : decode cX6_take 74 = .ok (.iload_n 2, 1) := by decide +kernel
theorem dX6_take_75 : decode cX6_take 75 = .ok (.iload_n 3, 1) := by decide +kernel
theorem dX6_take_76 : decode cX6_take 76 = .ok (.iadd, 1) := by decide +kernel
theorem dX6_take_77 : decode cX6_take 77 = .ok (.aload_n 0, 1) := by decide +kernel
theorem dX6_take_78 : decode cX6_take 78 = .ok (.getfield 17, 3) := by decide +kernel
theorem dX6_take_81 : decode cX6_take 81 = .ok (.iload_n 2, 1) := by decide +kernel
theorem dX6_take_82 : decode cX6_take 82 = .ok (.iload_n 3, 1) := by decide +kernel
theorem dX6_take_83 : decode cX6_take 83 = .ok (.iadd, 1) := by decide +kernel
theorem dX6_take_84 : decode cX6_take 84 = .ok (.iconst 1, 1) := by decide +kernel
theorem dX6_take_85 : decode cX6_take 85 = .ok (.iadd, 1) := by decide +kernel
theorem dX6_take_86 : decode cX6_take 86 = .ok (.iaload, 1) := by decide +kernel
theorem dX6_take_87 : decode cX6_take 87 = .ok (.iastore, 1) := by decide +kernel
theorem dX6_take_88 : decode cX6_take 88 = .ok (.iconst 0, 1) := by decide +kernel
theorem dX6_take_89 : decode cX6_take 89 = .ok (.istore 4, 2) := by decide +kernel
theorem dX6_take_91 : decode cX6_take 91 = .ok (.iload 4, 2) := by decide +kernel
theorem dX6_take_93 : decode cX6_take 93 = .ok (.bipush 24, 2) := by decide +kernel
theorem dX6_take_95 : decode cX6_take 95 = .ok (.if_icmp .ge 39, 3) := by decide +kernel
theorem dX6_take_98 : decode cX6_take 98 = .ok (.aload_n 0, 1) := by decide +kernel
theorem dX6_take_99 : decode cX6_take 99 = .ok (.getfield 20, 3) := by decide +kernel
theorem dX6_take_102 : decode cX6_take 102 = .ok (.bipush 24, 2) := by decide +kernel
theorem dX6_take_104 : decode cX6_take 104 = .ok (.iload_n 2, 1) := by decide +kernel
theorem dX6_take_105 : decode cX6_take 105 = .ok (.iload_n 3, 1) := by decide +kernel
theorem dX6_take_106 : decode cX6_take 106 = .ok (.iadd, 1) := by decide +kernel
theorem dX6_take_107 : decode cX6_take 107 = .ok (.imul, 1) := by decide +kernel
theorem dX6_take_108 : decode cX6_take 108 = .ok (.iload 4, 2) := by decide +kernel
theorem dX6_take_110 : decode cX6_take 110 = .ok (.iadd, 1) := by decide +kernel
theorem dX6_take_111 : decode cX6_take 111 = .ok (.aload_n 0, 1) := by decide +kernel
theorem dX6_take_112 : decode cX6_take 112 = .ok (.getfield 20, 3) := by decide +kernel
theorem dX6_take_115 : decode cX6_take 115 = .ok (.bipush 24, 2) := by decide +kernel
theorem dX6_take_117 : decode cX6_take 117 = .ok (.iload_n 2, 1) := by decide +kernel
theorem dX6_take_118 : decode cX6_take 118 = .ok (.iload_n 3, 1) := by decide +kernel
theorem dX6_take_119 : decode cX6_take 119 = .ok (.iadd, 1) := by decide +kernel
theorem dX6_take_120 : decode cX6_take 120 = .ok (.iconst 1, 1) := by decide +kernel
theorem dX6_take_121 : decode cX6_take 121 = .ok (.iadd, 1) := by decide +kernel
theorem dX6_take_122 : decode cX6_take 122 = .ok (.imul, 1) := by decide +kernel
theorem dX6_take_123 : decode cX6_take 123 = .ok (.iload 4, 2) := by decide +kernel
theorem dX6_take_125 : decode cX6_take 125 = .ok (.iadd, 1) := by decide +kernel
theorem dX6_take_126 : decode cX6_take 126 = .ok (.iaload, 1) := by decide +kernel
theorem dX6_take_127 : decode cX6_take 127 = .ok (.iastore, 1) := by decide +kernel
theorem dX6_take_128 : decode cX6_take 128 = .ok (.iinc 4 1, 3) := by decide +kernel
theorem dX6_take_131 : decode cX6_take 131 = .ok (.goto (-40), 3) := by decide +kernel
theorem dX6_take_134 : decode cX6_take 134 = .ok (.iinc 3 1, 3) := by decide +kernel
theorem dX6_take_137 : decode cX6_take 137 = .ok (.goto (-77), 3) := by decide +kernel
theorem dX6_take_140 : decode cX6_take 140 = .ok (.return_, 1) := by decide +kernel
theorem dX6_isGood_0 : decode cX6_isGood 0 = .ok (.iconst 2, 1) := by decide +kernel
theorem dX6_isGood_1 : decode cX6_isGood 1 = .ok (.istore_n 1, 1) := by decide +kernel
theorem dX6_isGood_2 : decode cX6_isGood 2 = .ok (.iload_n 1, 1) := by decide +kernel
theorem dX6_isGood_3 : decode cX6_isGood 3 = .ok (.iconst 1, 1) := by decide +kernel
theorem dX6_isGood_4 : decode cX6_isGood 4 = .ok (.iadd, 1) := by decide +kernel
theorem dX6_isGood_5 : decode cX6_isGood 5 = .ok (.aload_n 0, 1) := by decide +kernel
theorem dX6_isGood_6 : decode cX6_isGood 6 = .ok (.getfield 72, 3) := by decide +kernel
theorem dX6_isGood_9 : decode cX6_isGood 9 = .ok (.if_icmp .ge 19, 3) := by decide +kernel
theorem dX6_isGood_12 : decode cX6_isGood 12 = .ok (.iload_n 1, 1) := by decide +kernel
theorem dX6_isGood_13 : decode cX6_isGood 13 = .ok (.iconst 2, 1) := by decide +kernel
theorem dX6_isGood_14 : decode cX6_isGood 14 = .ok (.iadd, 1) := by decide +kernel
theorem dX6_isGood_15 : decode cX6_isGood 15 = .ok (.aload_n 0, 1) := by decide +kernel
theorem dX6_isGood_16 : decode cX6_isGood 16 = .ok (.getfield 48, 3) := by decide +kernel
theorem dX6_isGood_19 : decode cX6_isGood 19 = .ok (.iload_n 1, 1) := by decide +kernel
theorem dX6_isGood_20 : decode cX6_isGood 20 = .ok (.iconst 1, 1) := by decide +kernel
theorem dX6_isGood_21 : decode cX6_isGood 21 = .ok (.iadd, 1) := by decide +kernel
theorem dX6_isGood_22 : decode cX6_isGood 22 = .ok (.iaload, 1) := by decide +kernel
theorem dX6_isGood_23 : decode cX6_isGood 23 = .ok (.iadd, 1) := by decide +kernel
theorem dX6_isGood_24 : decode cX6_isGood 24 = .ok (.istore_n 1, 1) := by decide +kernel
theorem dX6_isGood_25 : decode cX6_isGood 25 = .ok (.goto (-23), 3) := by decide +kernel
theorem dX6_isGood_28 : decode cX6_isGood 28 = .ok (.iload_n 1, 1) := by decide +kernel
theorem dX6_isGood_29 : decode cX6_isGood 29 = .ok (.aload_n 0, 1) := by decide +kernel
theorem dX6_isGood_30 : decode cX6_isGood 30 = .ok (.getfield 72, 3) := by decide +kernel
theorem dX6_isGood_33 : decode cX6_isGood 33 = .ok (.if_icmp .ne 7, 3) := by decide +kernel
theorem dX6_isGood_36 : decode cX6_isGood 36 = .ok (.iconst 1, 1) := by decide +kernel
theorem dX6_isGood_37 : decode cX6_isGood 37 = .ok (.goto 4, 3) := by decide +kernel
theorem dX6_isGood_40 : decode cX6_isGood 40 = .ok (.iconst 0, 1) := by decide +kernel
theorem dX6_isGood_41 : decode cX6_isGood 41 = .ok (.ireturn, 1) := by decide +kernel
theorem dX6_find_0 : decode cX6_find 0 = .ok (.iconst 2, 1) := by decide +kernel
theorem dX6_find_1 : decode cX6_find 1 = .ok (.istore_n 2, 1) := by decide +kernel
theorem dX6_find_2 : decode cX6_find 2 = .ok (.iload_n 2, 1) := by decide +kernel
theorem dX6_find_3 : decode cX6_find 3 = .ok (.aload_n 0, 1) := by decide +kernel
theorem dX6_find_4 : decode cX6_find 4 = .ok (.getfield 72, 3) := by decide +kernel
theorem dX6_find_7 : decode cX6_find 7 = .ok (.if_icmp .ge 29, 3) := by decide +kernel
theorem dX6_find_10 : decode cX6_find 10 = .ok (.aload_n 0, 1) := by decide +kernel
theorem dX6_find_11 : decode cX6_find 11 = .ok (.getfield 48, 3) := by decide +kernel
theorem dX6_find_14 : decode cX6_find 14 = .ok (.iload_n 2, 1) := by decide +kernel
theorem dX6_find_15 : decode cX6_find 15 = .ok (.iaload, 1) := by decide +kernel
theorem dX6_find_16 : decode cX6_find 16 = .ok (.iload_n 1, 1) := by decide +kernel
theorem dX6_find_17 : decode cX6_find 17 = .ok (.if_icmp .eq 19, 3) := by decide +kernel
theorem dX6_find_20 : decode cX6_find 20 = .ok (.iload_n 2, 1) := by decide +kernel
theorem dX6_find_21 : decode cX6_find 21 = .ok (.iconst 2, 1) := by decide +kernel
theorem dX6_find_22 : decode cX6_find 22 = .ok (.iadd, 1) := by decide +kernel
theorem dX6_find_23 : decode cX6_find 23 = .ok (.aload_n 0, 1) := by decide +kernel
theorem dX6_find_24 : decode cX6_find 24 = .ok (.getfield 48, 3) := by decide +kernel
theorem dX6_find_27 : decode cX6_find 27 = .ok (.iload_n 2, 1) := by decide +kernel
theorem dX6_find_28 : decode cX6_find 28 = .ok (.iconst 1, 1) := by decide +kernel
theorem dX6_find_29 : decode cX6_find 29 = .ok (.iadd, 1) := by decide +kernel
theorem dX6_find_30 : decode cX6_find 30 = .ok (.iaload, 1) := by decide +kernel
theorem dX6_find_31 : decode cX6_find 31 = .ok (.iadd, 1) := by decide +kernel
theorem dX6_find_32 : decode cX6_find 32 = .ok (.istore_n 2, 1) := by decide +kernel
theorem dX6_find_33 : decode cX6_find 33 = .ok (.goto (-31), 3) := by decide +kernel
theorem dX6_find_36 : decode cX6_find 36 = .ok (.iload_n 2, 1) := by decide +kernel
theorem dX6_find_37 : decode cX6_find 37 = .ok (.aload_n 0, 1) := by decide +kernel
theorem dX6_find_38 : decode cX6_find 38 = .ok (.getfield 72, 3) := by decide +kernel
theorem dX6_find_41 : decode cX6_find 41 = .ok (.if_icmp .ge 9, 3) := by decide +kernel
theorem dX6_find_44 : decode cX6_find 44 = .ok (.iload_n 2, 1) := by decide +kernel
theorem dX6_find_45 : decode cX6_find 45 = .ok (.iconst 2, 1) := by decide +kernel
theorem dX6_find_46 : decode cX6_find 46 = .ok (.iadd, 1) := by decide +kernel
theorem dX6_find_47 : decode cX6_find 47 = .ok (.goto 5, 3) := by decide +kernel
theorem dX6_find_50 : decode cX6_find 50 = .ok (.bipush (-3), 2) := by decide +kernel
theorem dX6_find_52 : decode cX6_find 52 = .ok (.ireturn, 1) := by decide +kernel
theorem dX6_has_0 : decode cX6_has 0 = .ok (.aload_n 0, 1) := by decide +kernel
theorem dX6_has_1 : decode cX6_has 1 = .ok (.iload_n 1, 1) := by decide +kernel
theorem dX6_has_2 : decode cX6_has 2 = .ok (.invokevirtual 75, 3) := by decide +kernel
theorem dX6_has_5 : decode cX6_has 5 = .ok (.istore_n 3, 1) := by decide +kernel
theorem dX6_has_6 : decode cX6_has 6 = .ok (.iload_n 3, 1) := by decide +kernel
theorem dX6_has_7 : decode cX6_has 7 = .ok (.bipush (-3), 2) := by decide +kernel
theorem dX6_has_9 : decode cX6_has 9 = .ok (.if_icmp .eq 19, 3) := by decide +kernel
theorem dX6_has_12 : decode cX6_has 12 = .ok (.aload_n 0, 1) := by decide +kernel
theorem dX6_has_13 : decode cX6_has 13 = .ok (.getfield 48, 3) := by decide +kernel
theorem dX6_has_16 : decode cX6_has 16 = .ok (.iload_n 3, 1) := by decide +kernel
theorem dX6_has_17 : decode cX6_has 17 = .ok (.iconst 1, 1) := by decide +kernel
theorem dX6_has_18 : decode cX6_has 18 = .ok (.isub, 1) := by decide +kernel
theorem dX6_has_19 : decode cX6_has 19 = .ok (.iaload, 1) := by decide +kernel
theorem dX6_has_20 : decode cX6_has 20 = .ok (.iload_n 2, 1) := by decide +kernel
theorem dX6_has_21 : decode cX6_has 21 = .ok (.if_icmp .ne 7, 3) := by decide +kernel
theorem dX6_has_24 : decode cX6_has 24 = .ok (.iconst 1, 1) := by decide +kernel
theorem dX6_has_25 : decode cX6_has 25 = .ok (.goto 4, 3) := by decide +kernel
theorem dX6_has_28 : decode cX6_has 28 = .ok (.iconst 0, 1) := by decide +kernel
theorem dX6_has_29 : decode cX6_has 29 = .ok (.ireturn, 1) := by decide +kernel
theorem dX6_number_0 : decode cX6_number 0 = .ok (.aload_n 0, 1) := by decide +kernel
theorem dX6_number_1 : decode cX6_number 1 = .ok (.iload_n 1, 1) := by decide +kernel
theorem dX6_number_2 : decode cX6_number 2 = .ok (.invokevirtual 75, 3) := by decide +kernel
theorem dX6_number_5 : decode cX6_number 5 = .ok (.istore_n 2, 1) := by decide +kernel
theorem dX6_number_6 : decode cX6_number 6 = .ok (.iconst 0, 1) := by decide +kernel
theorem dX6_number_7 : decode cX6_number 7 = .ok (.istore_n 3, 1) := by decide +kernel
theorem dX6_number_8 : decode cX6_number 8 = .ok (.iconst 0, 1) := by decide +kernel
theorem dX6_number_9 : decode cX6_number 9 = .ok (.istore 4, 2) := by decide +kernel
theorem dX6_number_11 : decode cX6_number 11 = .ok (.iload 4, 2) := by decide +kernel
theorem dX6_number_13 : decode cX6_number 13 = .ok (.aload_n 0, 1) := by decide +kernel
theorem dX6_number_14 : decode cX6_number 14 = .ok (.getfield 48, 3) := by decide +kernel
theorem dX6_number_17 : decode cX6_number 17 = .ok (.iload_n 2, 1) := by decide +kernel
theorem dX6_number_18 : decode cX6_number 18 = .ok (.iconst 1, 1) := by decide +kernel
theorem dX6_number_19 : decode cX6_number 19 = .ok (.isub, 1) := by decide +kernel
theorem dX6_number_20 : decode cX6_number 20 = .ok (.iaload, 1) := by decide +kernel
theorem dX6_number_21 : decode cX6_number 21 = .ok (.if_icmp .ge 24, 3) := by decide +kernel
theorem dX6_number_24 : decode cX6_number 24 = .ok (.iload_n 3, 1) := by decide +kernel
theorem dX6_number_25 : decode cX6_number 25 = .ok (.bipush 8, 2) := by decide +kernel
theorem dX6_number_27 : decode cX6_number 27 = .ok (.ishl, 1) := by decide +kernel
theorem dX6_number_28 : decode cX6_number 28 = .ok (.aload_n 0, 1) := by decide +kernel
theorem dX6_number_29 : decode cX6_number 29 = .ok (.getfield 48, 3) := by decide +kernel
theorem dX6_number_32 : decode cX6_number 32 = .ok (.iload_n 2, 1) := by decide +kernel
theorem dX6_number_33 : decode cX6_number 33 = .ok (.iload 4, 2) := by decide +kernel
theorem dX6_number_35 : decode cX6_number 35 = .ok (.iadd, 1) := by decide +kernel
theorem dX6_number_36 : decode cX6_number 36 = .ok (.iaload, 1) := by decide +kernel
theorem dX6_number_37 : decode cX6_number 37 = .ok (.ior, 1) := by decide +kernel
theorem dX6_number_38 : decode cX6_number 38 = .ok (.istore_n 3, 1) := by decide +kernel
theorem dX6_number_39 : decode cX6_number 39 = .ok (.iinc 4 1, 3) := by decide +kernel
theorem dX6_number_42 : decode cX6_number 42 = .ok (.goto (-31), 3) := by decide +kernel
theorem dX6_number_45 : decode cX6_number 45 = .ok (.iload_n 3, 1) := by decide +kernel
theorem dX6_number_46 : decode cX6_number 46 = .ok (.ireturn, 1) := by decide +kernel
theorem dX6_turned_0 : decode cX6_turned 0 = .ok (.iload_n 0, 1) := by decide +kernel
theorem dX6_turned_1 : decode cX6_turned 1 = .ok (.iload_n 1, 1) := by decide +kernel
theorem dX6_turned_2 : decode cX6_turned 2 = .ok (.ixor, 1) := by decide +kernel
theorem dX6_turned_3 : decode cX6_turned 3 = .ok (.ldc 79, 2) := by decide +kernel
theorem dX6_turned_5 : decode cX6_turned 5 = .ok (.imul, 1) := by decide +kernel
theorem dX6_turned_6 : decode cX6_turned 6 = .ok (.istore_n 2, 1) := by decide +kernel
theorem dX6_turned_7 : decode cX6_turned 7 = .ok (.iload_n 2, 1) := by decide +kernel
theorem dX6_turned_8 : decode cX6_turned 8 = .ok (.iconst 5, 1) := by decide +kernel
theorem dX6_turned_9 : decode cX6_turned 9 = .ok (.ishl, 1) := by decide +kernel
theorem dX6_turned_10 : decode cX6_turned 10 = .ok (.iload_n 2, 1) := by decide +kernel
theorem dX6_turned_11 : decode cX6_turned 11 = .ok (.bipush 27, 2) := by decide +kernel
theorem dX6_turned_13 : decode cX6_turned 13 = .ok (.iushr, 1) := by decide +kernel
theorem dX6_turned_14 : decode cX6_turned 14 = .ok (.ior, 1) := by decide +kernel
theorem dX6_turned_15 : decode cX6_turned 15 = .ok (.ireturn, 1) := by decide +kernel
theorem dX6_become_0 : decode cX6_become 0 = .ok (.aload_n 0, 1) := by decide +kernel
theorem dX6_become_1 : decode cX6_become 1 = .ok (.getfield 23, 3) := by decide +kernel
theorem dX6_become_4 : decode cX6_become 4 = .ok (.iload_n 1, 1) := by decide +kernel
theorem dX6_become_5 : decode cX6_become 5 = .ok (.iload_n 2, 1) := by decide +kernel
theorem dX6_become_6 : decode cX6_become 6 = .ok (.iastore, 1) := by decide +kernel
theorem dX6_become_7 : decode cX6_become 7 = .ok (.aload_n 0, 1) := by decide +kernel
theorem dX6_become_8 : decode cX6_become 8 = .ok (.getfield 26, 3) := by decide +kernel
theorem dX6_become_11 : decode cX6_become 11 = .ok (.iload_n 1, 1) := by decide +kernel
theorem dX6_become_12 : decode cX6_become 12 = .ok (.iload_n 3, 1) := by decide +kernel
theorem dX6_become_13 : decode cX6_become 13 = .ok (.iastore, 1) := by decide +kernel
theorem dX6_become_14 : decode cX6_become 14 = .ok (.aload_n 0, 1) := by decide +kernel
theorem dX6_become_15 : decode cX6_become 15 = .ok (.getfield 29, 3) := by decide +kernel
theorem dX6_become_18 : decode cX6_become 18 = .ok (.iload_n 1, 1) := by decide +kernel
theorem dX6_become_19 : decode cX6_become 19 = .ok (.iload 4, 2) := by decide +kernel
theorem dX6_become_21 : decode cX6_become 21 = .ok (.iastore, 1) := by decide +kernel
theorem dX6_become_22 : decode cX6_become 22 = .ok (.aload_n 0, 1) := by decide +kernel
theorem dX6_become_23 : decode cX6_become 23 = .ok (.getfield 32, 3) := by decide +kernel
theorem dX6_become_26 : decode cX6_become 26 = .ok (.iload_n 1, 1) := by decide +kernel
theorem dX6_become_27 : decode cX6_become 27 = .ok (.iconst 0, 1) := by decide +kernel
theorem dX6_become_28 : decode cX6_become 28 = .ok (.bastore, 1) := by decide +kernel
theorem dX6_become_29 : decode cX6_become 29 = .ok (.return_, 1) := by decide +kernel
theorem dX6_way_0 : decode cX6_way 0 = .ok (.iload_n 1, 1) := by decide +kernel
theorem dX6_way_1 : decode cX6_way 1 = .ok (.ifCond .ne 7, 3) := by decide +kernel
theorem dX6_way_4 : decode cX6_way 4 = .ok (.iconst 0, 1) := by decide +kernel
theorem dX6_way_5 : decode cX6_way 5 = .ok (.goto 4, 3) := by decide +kernel
theorem dX6_way_8 : decode cX6_way 8 = .ok (.iconst 1, 1) := by decide +kernel
theorem dX6_way_9 : decode cX6_way 9 = .ok (.ireturn, 1) := by decide +kernel
theorem dX6_rest_0 : decode cX6_rest 0 = .ok (.iload_n 1, 1) := by decide +kernel
theorem dX6_rest_1 : decode cX6_rest 1 = .ok (.ifCond .ne 7, 3) := by decide +kernel
theorem dX6_rest_4 : decode cX6_rest 4 = .ok (.iconst 3, 1) := by decide +kernel
theorem dX6_rest_5 : decode cX6_rest 5 = .ok (.goto 4, 3) := by decide +kernel
theorem dX6_rest_8 : decode cX6_rest 8 = .ok (.iconst 0, 1) := by decide +kernel
theorem dX6_rest_9 : decode cX6_rest 9 = .ok (.ireturn, 1) := by decide +kernel
theorem dX6_release_0 : decode cX6_release 0 = .ok (.aload_n 0, 1) := by decide +kernel
theorem dX6_release_1 : decode cX6_release 1 = .ok (.aload_n 0, 1) := by decide +kernel
theorem dX6_release_2 : decode cX6_release 2 = .ok (.iload_n 1, 1) := by decide +kernel
theorem dX6_release_3 : decode cX6_release 3 = .ok (.invokevirtual 80, 3) := by decide +kernel
theorem dX6_release_6 : decode cX6_release 6 = .ok (.iconst 3, 1) := by decide +kernel
theorem dX6_release_7 : decode cX6_release 7 = .ok (.bipush 45, 2) := by decide +kernel
theorem dX6_release_9 : decode cX6_release 9 = .ok (.invokevirtual 64, 3) := by decide +kernel
theorem dX6_release_12 : decode cX6_release 12 = .ok (.pop, 1) := by decide +kernel
theorem dX6_release_13 : decode cX6_release 13 = .ok (.aload_n 0, 1) := by decide +kernel
theorem dX6_release_14 : decode cX6_release 14 = .ok (.iload_n 1, 1) := by decide +kernel
theorem dX6_release_15 : decode cX6_release 15 = .ok (.aload_n 0, 1) := by decide +kernel
theorem dX6_release_16 : decode cX6_release 16 = .ok (.getfield 23, 3) := by decide +kernel
theorem dX6_release_19 : decode cX6_release 19 = .ok (.iload_n 1, 1) := by decide +kernel
theorem dX6_release_20 : decode cX6_release 20 = .ok (.iaload, 1) := by decide +kernel
theorem dX6_release_21 : decode cX6_release 21 = .ok (.bipush 6, 2) := by decide +kernel
theorem dX6_release_23 : decode cX6_release 23 = .ok (.bipush 30, 2) := by decide +kernel
theorem dX6_release_25 : decode cX6_release 25 = .ok (.invokevirtual 83, 3) := by decide +kernel
theorem dX6_release_28 : decode cX6_release 28 = .ok (.return_, 1) := by decide +kernel
theorem dX6_isCall_0 : decode cX6_isCall 0 = .ok (.aload_n 0, 1) := by decide +kernel
theorem dX6_isCall_1 : decode cX6_isCall 1 = .ok (.getfield 26, 3) := by decide +kernel
theorem dX6_isCall_4 : decode cX6_isCall 4 = .ok (.iload_n 1, 1) := by decide +kernel
theorem dX6_isCall_5 : decode cX6_isCall 5 = .ok (.iaload, 1) := by decide +kernel
theorem dX6_isCall_6 : decode cX6_isCall 6 = .ok (.iload_n 2, 1) := by decide +kernel
theorem dX6_isCall_7 : decode cX6_isCall 7 = .ok (.if_icmp .lt 17, 3) := by decide +kernel
theorem dX6_isCall_10 : decode cX6_isCall 10 = .ok (.aload_n 0, 1) := by decide +kernel
theorem dX6_isCall_11 : decode cX6_isCall 11 = .ok (.getfield 26, 3) := by decide +kernel
theorem dX6_isCall_14 : decode cX6_isCall 14 = .ok (.iload_n 1, 1) := by decide +kernel
theorem dX6_isCall_15 : decode cX6_isCall 15 = .ok (.iaload, 1) := by decide +kernel
theorem dX6_isCall_16 : decode cX6_isCall 16 = .ok (.iload_n 3, 1) := by decide +kernel
theorem dX6_isCall_17 : decode cX6_isCall 17 = .ok (.if_icmp .gt 7, 3) := by decide +kernel
theorem dX6_isCall_20 : decode cX6_isCall 20 = .ok (.iconst 1, 1) := by decide +kernel
theorem dX6_isCall_21 : decode cX6_isCall 21 = .ok (.goto 4, 3) := by decide +kernel
theorem dX6_isCall_24 : decode cX6_isCall 24 = .ok (.iconst 0, 1) := by decide +kernel
theorem dX6_isCall_25 : decode cX6_isCall 25 = .ok (.ireturn, 1) := by decide +kernel
theorem dX6_closes_0 : decode cX6_closes 0 = .ok (.bipush (-3), 2) := by decide +kernel
theorem dX6_closes_2 : decode cX6_closes 2 = .ok (.istore_n 3, 1) := by decide +kernel
theorem dX6_closes_3 : decode cX6_closes 3 = .ok (.iload_n 2, 1) := by decide +kernel
theorem dX6_closes_4 : decode cX6_closes 4 = .ok (.bipush 37, 2) := by decide +kernel
theorem dX6_closes_6 : decode cX6_closes 6 = .ok (.if_icmp .ne 42, 3) := by decide +kernel
theorem dX6_closes_9 : decode cX6_closes 9 = .ok (.aload_n 0, 1) := by decide +kernel
theorem dX6_closes_10 : decode cX6_closes 10 = .ok (.bipush 8, 2) := by decide +kernel
theorem dX6_closes_12 : decode cX6_closes 12 = .ok (.iconst 1, 1) := by decide +kernel
theorem dX6_closes_13 : decode cX6_closes 13 = .ok (.invokevirtual 87, 3) := by decide +kernel
theorem dX6_closes_16 : decode cX6_closes 16 = .ok (.ifCond .eq 32, 3) := by decide +kernel
theorem dX6_closes_19 : decode cX6_closes 19 = .ok (.aload_n 0, 1) := by decide +kernel
theorem dX6_closes_20 : decode cX6_closes 20 = .ok (.iload_n 1, 1) := by decide +kernel
theorem dX6_closes_21 : decode cX6_closes 21 = .ok (.iconst 1, 1) := by decide +kernel
theorem dX6_closes_22 : decode cX6_closes 22 = .ok (.iconst 5, 1) := by decide +kernel
theorem dX6_closes_23 : decode cX6_closes 23 = .ok (.invokevirtual 91, 3) := by decide +kernel
theorem dX6_closes_26 : decode cX6_closes 26 = .ok (.ifCond .eq 22, 3) := by decide +kernel
theorem dX6_closes_29 : decode cX6_closes 29 = .ok (.aload_n 0, 1) := by decide +kernel
theorem dX6_closes_30 : decode cX6_closes 30 = .ok (.getfield 36, 3) := by decide +kernel
theorem dX6_closes_33 : decode cX6_closes 33 = .ok (.iload_n 1, 1) := by decide +kernel
theorem dX6_closes_34 : decode cX6_closes 34 = .ok (.aload_n 0, 1) := by decide +kernel
theorem dX6_closes_35 : decode cX6_closes 35 = .ok (.bipush 8, 2) := by decide +kernel
theorem dX6_closes_37 : decode cX6_closes 37 = .ok (.invokevirtual 95, 3) := by decide +kernel
theorem dX6_closes_40 : decode cX6_closes 40 = .ok (.iastore, 1) := by decide +kernel
theorem dX6_closes_41 : decode cX6_closes 41 = .ok (.aload_n 0, 1) := by decide +kernel
theorem dX6_closes_42 : decode cX6_closes 42 = .ok (.iload_n 1, 1) := by decide +kernel
theorem dX6_closes_43 : decode cX6_closes 43 = .ok (.invokevirtual 98, 3) := by decide +kernel
theorem dX6_closes_46 : decode cX6_closes 46 = .ok (.iconst 1, 1) := by decide +kernel
theorem dX6_closes_47 : decode cX6_closes 47 = .ok (.ireturn, 1) := by decide +kernel
theorem dX6_closes_48 : decode cX6_closes 48 = .ok (.iload_n 2, 1) := by decide +kernel
theorem dX6_closes_49 : decode cX6_closes 49 = .ok (.bipush 45, 2) := by decide +kernel
theorem dX6_closes_51 : decode cX6_closes 51 = .ok (.if_icmp .ne 44, 3) := by decide +kernel
theorem dX6_closes_54 : decode cX6_closes 54 = .ok (.iload_n 1, 1) := by decide +kernel
theorem dX6_closes_55 : decode cX6_closes 55 = .ok (.iconst 1, 1) := by decide +kernel
theorem dX6_closes_56 : decode cX6_closes 56 = .ok (.if_icmp .eq 12, 3) := by decide +kernel
theorem dX6_closes_59 : decode cX6_closes 59 = .ok (.aload_n 0, 1) := by decide +kernel
theorem dX6_closes_60 : decode cX6_closes 60 = .ok (.getfield 26, 3) := by decide +kernel
theorem dX6_closes_63 : decode cX6_closes 63 = .ok (.iload_n 1, 1) := by decide +kernel
theorem dX6_closes_64 : decode cX6_closes 64 = .ok (.iaload, 1) := by decide +kernel
theorem dX6_closes_65 : decode cX6_closes 65 = .ok (.ifCond .le 30, 3) := by decide +kernel
theorem dX6_closes_68 : decode cX6_closes 68 = .ok (.aload_n 0, 1) := by decide +kernel
theorem dX6_closes_69 : decode cX6_closes 69 = .ok (.aload_n 0, 1) := by decide +kernel
theorem dX6_closes_70 : decode cX6_closes 70 = .ok (.iload_n 1, 1) := by decide +kernel
theorem dX6_closes_71 : decode cX6_closes 71 = .ok (.invokevirtual 80, 3) := by decide +kernel
theorem dX6_closes_74 : decode cX6_closes 74 = .ok (.iconst 3, 1) := by decide +kernel
theorem dX6_closes_75 : decode cX6_closes 75 = .ok (.bipush 42, 2) := by decide +kernel
theorem dX6_closes_77 : decode cX6_closes 77 = .ok (.invokevirtual 64, 3) := by decide +kernel
theorem dX6_closes_80 : decode cX6_closes 80 = .ok (.istore_n 3, 1) := by decide +kernel
theorem dX6_closes_81 : decode cX6_closes 81 = .ok (.aload_n 0, 1) := by decide +kernel
theorem dX6_closes_82 : decode cX6_closes 82 = .ok (.iload_n 1, 1) := by decide +kernel
theorem dX6_closes_83 : decode cX6_closes 83 = .ok (.aload_n 0, 1) := by decide +kernel
theorem dX6_closes_84 : decode cX6_closes 84 = .ok (.iload_n 1, 1) := by decide +kernel
theorem dX6_closes_85 : decode cX6_closes 85 = .ok (.invokevirtual 102, 3) := by decide +kernel
theorem dX6_closes_88 : decode cX6_closes 88 = .ok (.iconst 0, 1) := by decide +kernel
theorem dX6_closes_89 : decode cX6_closes 89 = .ok (.iconst 0, 1) := by decide +kernel
theorem dX6_closes_90 : decode cX6_closes 90 = .ok (.invokevirtual 83, 3) := by decide +kernel
theorem dX6_closes_93 : decode cX6_closes 93 = .ok (.iconst 1, 1) := by decide +kernel
theorem dX6_closes_94 : decode cX6_closes 94 = .ok (.ireturn, 1) := by decide +kernel
theorem dX6_closes_95 : decode cX6_closes 95 = .ok (.iload_n 2, 1) := by decide +kernel
theorem dX6_closes_96 : decode cX6_closes 96 = .ok (.bipush 42, 2) := by decide +kernel
theorem dX6_closes_98 : decode cX6_closes 98 = .ok (.if_icmp .ne 31, 3) := by decide +kernel
theorem dX6_closes_101 : decode cX6_closes 101 = .ok (.iload_n 1, 1) := by decide +kernel
theorem dX6_closes_102 : decode cX6_closes 102 = .ok (.iconst 1, 1) := by decide +kernel
theorem dX6_closes_103 : decode cX6_closes 103 = .ok (.if_icmp .eq 12, 3) := by decide +kernel
theorem dX6_closes_106 : decode cX6_closes 106 = .ok (.aload_n 0, 1) := by decide +kernel
theorem dX6_closes_107 : decode cX6_closes 107 = .ok (.getfield 26, 3) := by decide +kernel
theorem dX6_closes_110 : decode cX6_closes 110 = .ok (.iload_n 1, 1) := by decide +kernel
theorem dX6_closes_111 : decode cX6_closes 111 = .ok (.iaload, 1) := by decide +kernel
theorem dX6_closes_112 : decode cX6_closes 112 = .ok (.ifCond .le 17, 3) := by decide +kernel
theorem dX6_closes_115 : decode cX6_closes 115 = .ok (.aload_n 0, 1) := by decide +kernel
theorem dX6_closes_116 : decode cX6_closes 116 = .ok (.iload_n 1, 1) := by decide +kernel
theorem dX6_closes_117 : decode cX6_closes 117 = .ok (.aload_n 0, 1) := by decide +kernel
theorem dX6_closes_118 : decode cX6_closes 118 = .ok (.iload_n 1, 1) := by decide +kernel
theorem dX6_closes_119 : decode cX6_closes 119 = .ok (.invokevirtual 102, 3) := by decide +kernel
theorem dX6_closes_122 : decode cX6_closes 122 = .ok (.iconst 0, 1) := by decide +kernel
theorem dX6_closes_123 : decode cX6_closes 123 = .ok (.iconst 0, 1) := by decide +kernel
theorem dX6_closes_124 : decode cX6_closes 124 = .ok (.invokevirtual 83, 3) := by decide +kernel
theorem dX6_closes_127 : decode cX6_closes 127 = .ok (.iconst 1, 1) := by decide +kernel
theorem dX6_closes_128 : decode cX6_closes 128 = .ok (.ireturn, 1) := by decide +kernel
theorem dX6_closes_129 : decode cX6_closes 129 = .ok (.iconst 0, 1) := by decide +kernel
theorem dX6_closes_130 : decode cX6_closes 130 = .ok (.ireturn, 1) := by decide +kernel
theorem dX6_mobileMoves_0 : decode cX6_mobileMoves 0 = .ok (.aload_n 0, 1) := by decide +kernel
theorem dX6_mobileMoves_1 : decode cX6_mobileMoves 1 = .ok (.getfield 23, 3) := by decide +kernel
theorem dX6_mobileMoves_4 : decode cX6_mobileMoves 4 = .ok (.iconst 0, 1) := by decide +kernel
theorem dX6_mobileMoves_5 : decode cX6_mobileMoves 5 = .ok (.iaload, 1) := by decide +kernel
theorem dX6_mobileMoves_6 : decode cX6_mobileMoves 6 = .ok (.istore_n 2, 1) := by decide +kernel
theorem dX6_mobileMoves_7 : decode cX6_mobileMoves 7 = .ok (.iload_n 1, 1) := by decide +kernel
theorem dX6_mobileMoves_8 : decode cX6_mobileMoves 8 = .ok (.lookupswitch 271 #[(2, 60), (4, 102), (17, 194), (18, 146), (33, 210), (34, 232)], 60) := by decide +kernel
theorem dX6_mobileMoves_68 : decode cX6_mobileMoves 68 = .ok (.iload_n 2, 1) := by decide +kernel
theorem dX6_mobileMoves_69 : decode cX6_mobileMoves 69 = .ok (.iconst 2, 1) := by decide +kernel
theorem dX6_mobileMoves_70 : decode cX6_mobileMoves 70 = .ok (.if_icmp .ne 13, 3) := by decide +kernel
theorem dX6_mobileMoves_73 : decode cX6_mobileMoves 73 = .ok (.aload_n 0, 1) := by decide +kernel
theorem dX6_mobileMoves_74 : decode cX6_mobileMoves 74 = .ok (.bipush 19, 2) := by decide +kernel
theorem dX6_mobileMoves_76 : decode cX6_mobileMoves 76 = .ok (.iconst 2, 1) := by decide +kernel
theorem dX6_mobileMoves_77 : decode cX6_mobileMoves 77 = .ok (.invokevirtual 87, 3) := by decide +kernel
theorem dX6_mobileMoves_80 : decode cX6_mobileMoves 80 = .ok (.ifCond .ne 5, 3) := by decide +kernel
theorem dX6_mobileMoves_83 : decode cX6_mobileMoves 83 = .ok (.iconst 0, 1) := by decide +kernel
theorem dX6_mobileMoves_84 : decode cX6_mobileMoves 84 = .ok (.ireturn, 1) := by decide +kernel
theorem dX6_mobileMoves_85 : decode cX6_mobileMoves 85 = .ok (.aload_n 0, 1) := by decide +kernel
theorem dX6_mobileMoves_86 : decode cX6_mobileMoves 86 = .ok (.aload_n 0, 1) := by decide +kernel
theorem dX6_mobileMoves_87 : decode cX6_mobileMoves 87 = .ok (.bipush 19, 2) := by decide +kernel
theorem dX6_mobileMoves_89 : decode cX6_mobileMoves 89 = .ok (.invokevirtual 95, 3) := by decide +kernel
theorem dX6_mobileMoves_92 : decode cX6_mobileMoves 92 = .ok (.putfield 105, 3) := by decide +kernel
theorem dX6_mobileMoves_95 : decode cX6_mobileMoves 95 = .ok (.aload_n 0, 1) := by decide +kernel
theorem dX6_mobileMoves_96 : decode cX6_mobileMoves 96 = .ok (.iconst 0, 1) := by decide +kernel
theorem dX6_mobileMoves_97 : decode cX6_mobileMoves 97 = .ok (.iconst 3, 1) := by decide +kernel
theorem dX6_mobileMoves_98 : decode cX6_mobileMoves 98 = .ok (.aload_n 0, 1) := by decide +kernel
theorem dX6_mobileMoves_99 : decode cX6_mobileMoves 99 = .ok (.getfield 26, 3) := by decide +kernel
theorem dX6_mobileMoves_102 : decode cX6_mobileMoves 102 = .ok (.iconst 0, 1) := by decide +kernel
theorem dX6_mobileMoves_103 : decode cX6_mobileMoves 103 = .ok (.iaload, 1) := by decide +kernel
theorem dX6_mobileMoves_104 : decode cX6_mobileMoves 104 = .ok (.iconst 0, 1) := by decide +kernel
theorem dX6_mobileMoves_105 : decode cX6_mobileMoves 105 = .ok (.invokevirtual 83, 3) := by decide +kernel
theorem dX6_mobileMoves_108 : decode cX6_mobileMoves 108 = .ok (.iconst 1, 1) := by decide +kernel
theorem dX6_mobileMoves_109 : decode cX6_mobileMoves 109 = .ok (.ireturn, 1) := by decide +kernel
theorem dX6_mobileMoves_110 : decode cX6_mobileMoves 110 = .ok (.iload_n 2, 1) := by decide +kernel
theorem dX6_mobileMoves_111 : decode cX6_mobileMoves 111 = .ok (.iconst 2, 1) := by decide +kernel
theorem dX6_mobileMoves_112 : decode cX6_mobileMoves 112 = .ok (.if_icmp .ne 13, 3) := by decide +kernel
theorem dX6_mobileMoves_115 : decode cX6_mobileMoves 115 = .ok (.aload_n 0, 1) := by decide +kernel
theorem dX6_mobileMoves_116 : decode cX6_mobileMoves 116 = .ok (.bipush 8, 2) := by decide +kernel
theorem dX6_mobileMoves_118 : decode cX6_mobileMoves 118 = .ok (.iconst 1, 1) := by decide +kernel
theorem dX6_mobileMoves_119 : decode cX6_mobileMoves 119 = .ok (.invokevirtual 87, 3) := by decide +kernel
theorem dX6_mobileMoves_122 : decode cX6_mobileMoves 122 = .ok (.ifCond .ne 5, 3) := by decide +kernel
theorem dX6_mobileMoves_125 : decode cX6_mobileMoves 125 = .ok (.iconst 0, 1) := by decide +kernel
theorem dX6_mobileMoves_126 : decode cX6_mobileMoves 126 = .ok (.ireturn, 1) := by decide +kernel
theorem dX6_mobileMoves_127 : decode cX6_mobileMoves 127 = .ok (.aload_n 0, 1) := by decide +kernel
theorem dX6_mobileMoves_128 : decode cX6_mobileMoves 128 = .ok (.getfield 36, 3) := by decide +kernel
theorem dX6_mobileMoves_131 : decode cX6_mobileMoves 131 = .ok (.iconst 0, 1) := by decide +kernel
theorem dX6_mobileMoves_132 : decode cX6_mobileMoves 132 = .ok (.aload_n 0, 1) := by decide +kernel
theorem dX6_mobileMoves_133 : decode cX6_mobileMoves 133 = .ok (.bipush 8, 2) := by decide +kernel
theorem dX6_mobileMoves_135 : decode cX6_mobileMoves 135 = .ok (.invokevirtual 95, 3) := by decide +kernel
theorem dX6_mobileMoves_138 : decode cX6_mobileMoves 138 = .ok (.iastore, 1) := by decide +kernel
theorem dX6_mobileMoves_139 : decode cX6_mobileMoves 139 = .ok (.aload_n 0, 1) := by decide +kernel
theorem dX6_mobileMoves_140 : decode cX6_mobileMoves 140 = .ok (.iconst 0, 1) := by decide +kernel
theorem dX6_mobileMoves_141 : decode cX6_mobileMoves 141 = .ok (.iconst 1, 1) := by decide +kernel
theorem dX6_mobileMoves_142 : decode cX6_mobileMoves 142 = .ok (.aload_n 0, 1) := by decide +kernel
theorem dX6_mobileMoves_143 : decode cX6_mobileMoves 143 = .ok (.getfield 26, 3) := by decide +kernel
theorem dX6_mobileMoves_146 : decode cX6_mobileMoves 146 = .ok (.iconst 0, 1) := by decide +kernel
theorem dX6_mobileMoves_147 : decode cX6_mobileMoves 147 = .ok (.iaload, 1) := by decide +kernel
theorem dX6_mobileMoves_148 : decode cX6_mobileMoves 148 = .ok (.iconst 0, 1) := by decide +kernel
theorem dX6_mobileMoves_149 : decode cX6_mobileMoves 149 = .ok (.invokevirtual 83, 3) := by decide +kernel
theorem dX6_mobileMoves_152 : decode cX6_mobileMoves 152 = .ok (.iconst 1, 1) := by decide +kernel
theorem dX6_mobileMoves_153 : decode cX6_mobileMoves 153 = .ok (.ireturn, 1) := by decide +kernel
theorem dX6_mobileMoves_154 : decode cX6_mobileMoves 154 = .ok (.iload_n 2, 1) := by decide +kernel
theorem dX6_mobileMoves_155 : decode cX6_mobileMoves 155 = .ok (.iconst 2, 1) := by decide +kernel
theorem dX6_mobileMoves_156 : decode cX6_mobileMoves 156 = .ok (.if_icmp .eq 8, 3) := by decide +kernel
theorem dX6_mobileMoves_159 : decode cX6_mobileMoves 159 = .ok (.iload_n 2, 1) := by decide +kernel
theorem dX6_mobileMoves_160 : decode cX6_mobileMoves 160 = .ok (.iconst 4, 1) := by decide +kernel
theorem dX6_mobileMoves_161 : decode cX6_mobileMoves 161 = .ok (.if_icmp .ne 13, 3) := by decide +kernel
theorem dX6_mobileMoves_164 : decode cX6_mobileMoves 164 = .ok (.aload_n 0, 1) := by decide +kernel
theorem dX6_mobileMoves_165 : decode cX6_mobileMoves 165 = .ok (.bipush 33, 2) := by decide +kernel
theorem dX6_mobileMoves_167 : decode cX6_mobileMoves 167 = .ok (.iconst 4, 1) := by decide +kernel
theorem dX6_mobileMoves_168 : decode cX6_mobileMoves 168 = .ok (.invokevirtual 87, 3) := by decide +kernel
theorem dX6_mobileMoves_171 : decode cX6_mobileMoves 171 = .ok (.ifCond .ne 5, 3) := by decide +kernel
theorem dX6_mobileMoves_174 : decode cX6_mobileMoves 174 = .ok (.iconst 0, 1) := by decide +kernel
theorem dX6_mobileMoves_175 : decode cX6_mobileMoves 175 = .ok (.ireturn, 1) := by decide +kernel
theorem dX6_mobileMoves_176 : decode cX6_mobileMoves 176 = .ok (.aload_n 0, 1) := by decide +kernel
theorem dX6_mobileMoves_177 : decode cX6_mobileMoves 177 = .ok (.iconst 0, 1) := by decide +kernel
theorem dX6_mobileMoves_178 : decode cX6_mobileMoves 178 = .ok (.iconst 5, 1) := by decide +kernel
theorem dX6_mobileMoves_179 : decode cX6_mobileMoves 179 = .ok (.bipush 20, 2) := by decide +kernel
theorem dX6_mobileMoves_181 : decode cX6_mobileMoves 181 = .ok (.bipush 34, 2) := by decide +kernel
theorem dX6_mobileMoves_183 : decode cX6_mobileMoves 183 = .ok (.iconst 4, 1) := by decide +kernel
theorem dX6_mobileMoves_184 : decode cX6_mobileMoves 184 = .ok (.aload_n 0, 1) := by decide +kernel
theorem dX6_mobileMoves_185 : decode cX6_mobileMoves 185 = .ok (.bipush 33, 2) := by decide +kernel
theorem dX6_mobileMoves_187 : decode cX6_mobileMoves 187 = .ok (.invokevirtual 95, 3) := by decide +kernel
theorem dX6_mobileMoves_190 : decode cX6_mobileMoves 190 = .ok (.aload_n 0, 1) := by decide +kernel
theorem dX6_mobileMoves_191 : decode cX6_mobileMoves 191 = .ok (.getfield 51, 3) := by decide +kernel
theorem dX6_mobileMoves_194 : decode cX6_mobileMoves 194 = .ok (.invokestatic 108, 3) := by decide +kernel
theorem dX6_mobileMoves_197 : decode cX6_mobileMoves 197 = .ok (.invokevirtual 112, 3) := by decide +kernel
theorem dX6_mobileMoves_200 : decode cX6_mobileMoves 200 = .ok (.iconst 1, 1) := by decide +kernel
theorem dX6_mobileMoves_201 : decode cX6_mobileMoves 201 = .ok (.ireturn, 1) := by decide +kernel
theorem dX6_mobileMoves_202 : decode cX6_mobileMoves 202 = .ok (.iload_n 2, 1) := by decide +kernel
theorem dX6_mobileMoves_203 : decode cX6_mobileMoves 203 = .ok (.ifCond .ne 5, 3) := by decide +kernel
theorem dX6_mobileMoves_206 : decode cX6_mobileMoves 206 = .ok (.iconst 0, 1) := by decide +kernel
theorem dX6_mobileMoves_207 : decode cX6_mobileMoves 207 = .ok (.ireturn, 1) := by decide +kernel
theorem dX6_mobileMoves_208 : decode cX6_mobileMoves 208 = .ok (.aload_n 0, 1) := by decide +kernel
theorem dX6_mobileMoves_209 : decode cX6_mobileMoves 209 = .ok (.iconst 0, 1) := by decide +kernel
theorem dX6_mobileMoves_210 : decode cX6_mobileMoves 210 = .ok (.iconst 1, 1) := by decide +kernel
theorem dX6_mobileMoves_211 : decode cX6_mobileMoves 211 = .ok (.iconst 0, 1) := by decide +kernel
theorem dX6_mobileMoves_212 : decode cX6_mobileMoves 212 = .ok (.iconst 0, 1) := by decide +kernel
theorem dX6_mobileMoves_213 : decode cX6_mobileMoves 213 = .ok (.invokevirtual 83, 3) := by decide +kernel
theorem dX6_mobileMoves_216 : decode cX6_mobileMoves 216 = .ok (.iconst 1, 1) := by decide +kernel
theorem dX6_mobileMoves_217 : decode cX6_mobileMoves 217 = .ok (.ireturn, 1) := by decide +kernel
theorem dX6_mobileMoves_218 : decode cX6_mobileMoves 218 = .ok (.iload_n 2, 1) := by decide +kernel
theorem dX6_mobileMoves_219 : decode cX6_mobileMoves 219 = .ok (.iconst 4, 1) := by decide +kernel
theorem dX6_mobileMoves_220 : decode cX6_mobileMoves 220 = .ok (.if_icmp .eq 5, 3) := by decide +kernel
theorem dX6_mobileMoves_223 : decode cX6_mobileMoves 223 = .ok (.iconst 0, 1) := by decide +kernel
theorem dX6_mobileMoves_224 : decode cX6_mobileMoves 224 = .ok (.ireturn, 1) := by decide +kernel
theorem dX6_mobileMoves_225 : decode cX6_mobileMoves 225 = .ok (.aload_n 0, 1) := by decide +kernel
theorem dX6_mobileMoves_226 : decode cX6_mobileMoves 226 = .ok (.invokevirtual 116, 3) := by decide +kernel
theorem dX6_mobileMoves_229 : decode cX6_mobileMoves 229 = .ok (.aload_n 0, 1) := by decide +kernel
theorem dX6_mobileMoves_230 : decode cX6_mobileMoves 230 = .ok (.iconst 0, 1) := by decide +kernel
theorem dX6_mobileMoves_231 : decode cX6_mobileMoves 231 = .ok (.iconst 5, 1) := by decide +kernel
theorem dX6_mobileMoves_232 : decode cX6_mobileMoves 232 = .ok (.iconst 1, 1) := by decide +kernel
theorem dX6_mobileMoves_233 : decode cX6_mobileMoves 233 = .ok (.bipush 30, 2) := by decide +kernel
theorem dX6_mobileMoves_235 : decode cX6_mobileMoves 235 = .ok (.invokevirtual 83, 3) := by decide +kernel
theorem dX6_mobileMoves_238 : decode cX6_mobileMoves 238 = .ok (.iconst 1, 1) := by decide +kernel
theorem dX6_mobileMoves_239 : decode cX6_mobileMoves 239 = .ok (.ireturn, 1) := by decide +kernel
theorem dX6_mobileMoves_240 : decode cX6_mobileMoves 240 = .ok (.iload_n 2, 1) := by decide +kernel
theorem dX6_mobileMoves_241 : decode cX6_mobileMoves 241 = .ok (.iconst 4, 1) := by decide +kernel
theorem dX6_mobileMoves_242 : decode cX6_mobileMoves 242 = .ok (.if_icmp .ne 13, 3) := by decide +kernel
theorem dX6_mobileMoves_245 : decode cX6_mobileMoves 245 = .ok (.aload_n 0, 1) := by decide +kernel
theorem dX6_mobileMoves_246 : decode cX6_mobileMoves 246 = .ok (.bipush 8, 2) := by decide +kernel
theorem dX6_mobileMoves_248 : decode cX6_mobileMoves 248 = .ok (.iconst 1, 1) := by decide +kernel
theorem dX6_mobileMoves_249 : decode cX6_mobileMoves 249 = .ok (.invokevirtual 87, 3) := by decide +kernel
theorem dX6_mobileMoves_252 : decode cX6_mobileMoves 252 = .ok (.ifCond .ne 5, 3) := by decide +kernel
theorem dX6_mobileMoves_255 : decode cX6_mobileMoves 255 = .ok (.iconst 0, 1) := by decide +kernel
theorem dX6_mobileMoves_256 : decode cX6_mobileMoves 256 = .ok (.ireturn, 1) := by decide +kernel
theorem dX6_mobileMoves_257 : decode cX6_mobileMoves 257 = .ok (.aload_n 0, 1) := by decide +kernel
theorem dX6_mobileMoves_258 : decode cX6_mobileMoves 258 = .ok (.getfield 36, 3) := by decide +kernel
theorem dX6_mobileMoves_261 : decode cX6_mobileMoves 261 = .ok (.iconst 0, 1) := by decide +kernel
theorem dX6_mobileMoves_262 : decode cX6_mobileMoves 262 = .ok (.aload_n 0, 1) := by decide +kernel
theorem dX6_mobileMoves_263 : decode cX6_mobileMoves 263 = .ok (.bipush 8, 2) := by decide +kernel
theorem dX6_mobileMoves_265 : decode cX6_mobileMoves 265 = .ok (.invokevirtual 95, 3) := by decide +kernel
theorem dX6_mobileMoves_268 : decode cX6_mobileMoves 268 = .ok (.iastore, 1) := by decide +kernel
theorem dX6_mobileMoves_269 : decode cX6_mobileMoves 269 = .ok (.aload_n 0, 1) := by decide +kernel
theorem dX6_mobileMoves_270 : decode cX6_mobileMoves 270 = .ok (.iconst 0, 1) := by decide +kernel
theorem dX6_mobileMoves_271 : decode cX6_mobileMoves 271 = .ok (.iconst 3, 1) := by decide +kernel
theorem dX6_mobileMoves_272 : decode cX6_mobileMoves 272 = .ok (.iconst 0, 1) := by decide +kernel
theorem dX6_mobileMoves_273 : decode cX6_mobileMoves 273 = .ok (.iconst 0, 1) := by decide +kernel
theorem dX6_mobileMoves_274 : decode cX6_mobileMoves 274 = .ok (.invokevirtual 83, 3) := by decide +kernel
theorem dX6_mobileMoves_277 : decode cX6_mobileMoves 277 = .ok (.iconst 1, 1) := by decide +kernel
theorem dX6_mobileMoves_278 : decode cX6_mobileMoves 278 = .ok (.ireturn, 1) := by decide +kernel
theorem dX6_mobileMoves_279 : decode cX6_mobileMoves 279 = .ok (.iconst 0, 1) := by decide +kernel
theorem dX6_mobileMoves_280 : decode cX6_mobileMoves 280 = .ok (.ireturn, 1) := by decide +kernel
theorem dX6_setUp_0 : decode cX6_setUp 0 = .ok (.aload_n 0, 1) := by decide +kernel
theorem dX6_setUp_1 : decode cX6_setUp 1 = .ok (.iconst 0, 1) := by decide +kernel
theorem dX6_setUp_2 : decode cX6_setUp 2 = .ok (.iconst 3, 1) := by decide +kernel
theorem dX6_setUp_3 : decode cX6_setUp 3 = .ok (.iconst 5, 1) := by decide +kernel
theorem dX6_setUp_4 : decode cX6_setUp 4 = .ok (.invokevirtual 64, 3) := by decide +kernel
theorem dX6_setUp_7 : decode cX6_setUp 7 = .ok (.istore_n 1, 1) := by decide +kernel
theorem dX6_setUp_8 : decode cX6_setUp 8 = .ok (.aload_n 0, 1) := by decide +kernel
theorem dX6_setUp_9 : decode cX6_setUp 9 = .ok (.iload_n 1, 1) := by decide +kernel
theorem dX6_setUp_10 : decode cX6_setUp 10 = .ok (.bipush 94, 2) := by decide +kernel
theorem dX6_setUp_12 : decode cX6_setUp 12 = .ok (.invokevirtual 68, 3) := by decide +kernel
theorem dX6_setUp_15 : decode cX6_setUp 15 = .ok (.aload_n 0, 1) := by decide +kernel
theorem dX6_setUp_16 : decode cX6_setUp 16 = .ok (.iload_n 1, 1) := by decide +kernel
theorem dX6_setUp_17 : decode cX6_setUp 17 = .ok (.aload_n 0, 1) := by decide +kernel
theorem dX6_setUp_18 : decode cX6_setUp 18 = .ok (.getfield 119, 3) := by decide +kernel
theorem dX6_setUp_21 : decode cX6_setUp 21 = .ok (.invokevirtual 68, 3) := by decide +kernel
theorem dX6_setUp_24 : decode cX6_setUp 24 = .ok (.iconst 0, 1) := by decide +kernel
theorem dX6_setUp_25 : decode cX6_setUp 25 = .ok (.istore_n 2, 1) := by decide +kernel
theorem dX6_setUp_26 : decode cX6_setUp 26 = .ok (.iload_n 2, 1) := by decide +kernel
theorem dX6_setUp_27 : decode cX6_setUp 27 = .ok (.aload_n 0, 1) := by decide +kernel
theorem dX6_setUp_28 : decode cX6_setUp 28 = .ok (.getfield 119, 3) := by decide +kernel
theorem dX6_setUp_31 : decode cX6_setUp 31 = .ok (.if_icmp .ge 20, 3) := by decide +kernel
theorem dX6_setUp_34 : decode cX6_setUp 34 = .ok (.aload_n 0, 1) := by decide +kernel
theorem dX6_setUp_35 : decode cX6_setUp 35 = .ok (.iload_n 1, 1) := by decide +kernel
theorem dX6_setUp_36 : decode cX6_setUp 36 = .ok (.aload_n 0, 1) := by decide +kernel
theorem dX6_setUp_37 : decode cX6_setUp 37 = .ok (.getfield 42, 3) := by decide +kernel
theorem dX6_setUp_40 : decode cX6_setUp 40 = .ok (.iload_n 2, 1) := by decide +kernel
theorem dX6_setUp_41 : decode cX6_setUp 41 = .ok (.iaload, 1) := by decide +kernel
theorem dX6_setUp_42 : decode cX6_setUp 42 = .ok (.invokevirtual 68, 3) := by decide +kernel
theorem dX6_setUp_45 : decode cX6_setUp 45 = .ok (.iinc 2 1, 3) := by decide +kernel
theorem dX6_setUp_48 : decode cX6_setUp 48 = .ok (.goto (-22), 3) := by decide +kernel
theorem dX6_setUp_51 : decode cX6_setUp 51 = .ok (.return_, 1) := by decide +kernel
theorem dX6_mobileCalls_0 : decode cX6_mobileCalls 0 = .ok (.aload_n 0, 1) := by decide +kernel
theorem dX6_mobileCalls_1 : decode cX6_mobileCalls 1 = .ok (.getfield 23, 3) := by decide +kernel
theorem dX6_mobileCalls_4 : decode cX6_mobileCalls 4 = .ok (.iconst 0, 1) := by decide +kernel
theorem dX6_mobileCalls_5 : decode cX6_mobileCalls 5 = .ok (.iaload, 1) := by decide +kernel
theorem dX6_mobileCalls_6 : decode cX6_mobileCalls 6 = .ok (.iconst 5, 1) := by decide +kernel
theorem dX6_mobileCalls_7 : decode cX6_mobileCalls 7 = .ok (.if_icmp .eq 5, 3) := by decide +kernel
theorem dX6_mobileCalls_10 : decode cX6_mobileCalls 10 = .ok (.iconst 0, 1) := by decide +kernel
theorem dX6_mobileCalls_11 : decode cX6_mobileCalls 11 = .ok (.ireturn, 1) := by decide +kernel
theorem dX6_mobileCalls_12 : decode cX6_mobileCalls 12 = .ok (.iload_n 1, 1) := by decide +kernel
theorem dX6_mobileCalls_13 : decode cX6_mobileCalls 13 = .ok (.iconst 2, 1) := by decide +kernel
theorem dX6_mobileCalls_14 : decode cX6_mobileCalls 14 = .ok (.if_icmp .ne 23, 3) := by decide +kernel
theorem dX6_mobileCalls_17 : decode cX6_mobileCalls 17 = .ok (.aload_n 0, 1) := by decide +kernel
theorem dX6_mobileCalls_18 : decode cX6_mobileCalls 18 = .ok (.iconst 0, 1) := by decide +kernel
theorem dX6_mobileCalls_19 : decode cX6_mobileCalls 19 = .ok (.iconst 1, 1) := by decide +kernel
theorem dX6_mobileCalls_20 : decode cX6_mobileCalls 20 = .ok (.iconst 1, 1) := by decide +kernel
theorem dX6_mobileCalls_21 : decode cX6_mobileCalls 21 = .ok (.invokevirtual 91, 3) := by decide +kernel
theorem dX6_mobileCalls_24 : decode cX6_mobileCalls 24 = .ok (.ifCond .eq 13, 3) := by decide +kernel
theorem dX6_mobileCalls_27 : decode cX6_mobileCalls 27 = .ok (.aload_n 0, 1) := by decide +kernel
theorem dX6_mobileCalls_28 : decode cX6_mobileCalls 28 = .ok (.iconst 0, 1) := by decide +kernel
theorem dX6_mobileCalls_29 : decode cX6_mobileCalls 29 = .ok (.iconst 5, 1) := by decide +kernel
theorem dX6_mobileCalls_30 : decode cX6_mobileCalls 30 = .ok (.iconst 2, 1) := by decide +kernel
theorem dX6_mobileCalls_31 : decode cX6_mobileCalls 31 = .ok (.iconst 0, 1) := by decide +kernel
theorem dX6_mobileCalls_32 : decode cX6_mobileCalls 32 = .ok (.invokevirtual 83, 3) := by decide +kernel
theorem dX6_mobileCalls_35 : decode cX6_mobileCalls 35 = .ok (.iconst 1, 1) := by decide +kernel
theorem dX6_mobileCalls_36 : decode cX6_mobileCalls 36 = .ok (.ireturn, 1) := by decide +kernel
theorem dX6_mobileCalls_37 : decode cX6_mobileCalls 37 = .ok (.iload_n 1, 1) := by decide +kernel
theorem dX6_mobileCalls_38 : decode cX6_mobileCalls 38 = .ok (.iconst 1, 1) := by decide +kernel
theorem dX6_mobileCalls_39 : decode cX6_mobileCalls 39 = .ok (.if_icmp .ne 23, 3) := by decide +kernel
theorem dX6_mobileCalls_42 : decode cX6_mobileCalls 42 = .ok (.aload_n 0, 1) := by decide +kernel
theorem dX6_mobileCalls_43 : decode cX6_mobileCalls 43 = .ok (.iconst 0, 1) := by decide +kernel
theorem dX6_mobileCalls_44 : decode cX6_mobileCalls 44 = .ok (.iconst 1, 1) := by decide +kernel
theorem dX6_mobileCalls_45 : decode cX6_mobileCalls 45 = .ok (.iconst 2, 1) := by decide +kernel
theorem dX6_mobileCalls_46 : decode cX6_mobileCalls 46 = .ok (.invokevirtual 91, 3) := by decide +kernel
theorem dX6_mobileCalls_49 : decode cX6_mobileCalls 49 = .ok (.ifCond .eq 13, 3) := by decide +kernel
theorem dX6_mobileCalls_52 : decode cX6_mobileCalls 52 = .ok (.aload_n 0, 1) := by decide +kernel
theorem dX6_mobileCalls_53 : decode cX6_mobileCalls 53 = .ok (.iconst 0, 1) := by decide +kernel
theorem dX6_mobileCalls_54 : decode cX6_mobileCalls 54 = .ok (.iconst 5, 1) := by decide +kernel
theorem dX6_mobileCalls_55 : decode cX6_mobileCalls 55 = .ok (.iconst 3, 1) := by decide +kernel
theorem dX6_mobileCalls_56 : decode cX6_mobileCalls 56 = .ok (.iconst 0, 1) := by decide +kernel
theorem dX6_mobileCalls_57 : decode cX6_mobileCalls 57 = .ok (.invokevirtual 83, 3) := by decide +kernel
theorem dX6_mobileCalls_60 : decode cX6_mobileCalls 60 = .ok (.iconst 1, 1) := by decide +kernel
theorem dX6_mobileCalls_61 : decode cX6_mobileCalls 61 = .ok (.ireturn, 1) := by decide +kernel
theorem dX6_mobileCalls_62 : decode cX6_mobileCalls 62 = .ok (.iload_n 1, 1) := by decide +kernel
theorem dX6_mobileCalls_63 : decode cX6_mobileCalls 63 = .ok (.bipush 7, 2) := by decide +kernel
theorem dX6_mobileCalls_65 : decode cX6_mobileCalls 65 = .ok (.if_icmp .ne 32, 3) := by decide +kernel
theorem dX6_mobileCalls_68 : decode cX6_mobileCalls 68 = .ok (.aload_n 0, 1) := by decide +kernel
theorem dX6_mobileCalls_69 : decode cX6_mobileCalls 69 = .ok (.iconst 0, 1) := by decide +kernel
theorem dX6_mobileCalls_70 : decode cX6_mobileCalls 70 = .ok (.iconst 1, 1) := by decide +kernel
theorem dX6_mobileCalls_71 : decode cX6_mobileCalls 71 = .ok (.iconst 3, 1) := by decide +kernel
theorem dX6_mobileCalls_72 : decode cX6_mobileCalls 72 = .ok (.invokevirtual 91, 3) := by decide +kernel
theorem dX6_mobileCalls_75 : decode cX6_mobileCalls 75 = .ok (.ifCond .eq 22, 3) := by decide +kernel
theorem dX6_mobileCalls_78 : decode cX6_mobileCalls 78 = .ok (.aload_n 0, 1) := by decide +kernel
theorem dX6_mobileCalls_79 : decode cX6_mobileCalls 79 = .ok (.iconst 0, 1) := by decide +kernel
theorem dX6_mobileCalls_80 : decode cX6_mobileCalls 80 = .ok (.iconst 3, 1) := by decide +kernel
theorem dX6_mobileCalls_81 : decode cX6_mobileCalls 81 = .ok (.bipush 15, 2) := by decide +kernel
theorem dX6_mobileCalls_83 : decode cX6_mobileCalls 83 = .ok (.invokevirtual 64, 3) := by decide +kernel
theorem dX6_mobileCalls_86 : decode cX6_mobileCalls 86 = .ok (.istore_n 2, 1) := by decide +kernel
theorem dX6_mobileCalls_87 : decode cX6_mobileCalls 87 = .ok (.aload_n 0, 1) := by decide +kernel
theorem dX6_mobileCalls_88 : decode cX6_mobileCalls 88 = .ok (.iconst 0, 1) := by decide +kernel
theorem dX6_mobileCalls_89 : decode cX6_mobileCalls 89 = .ok (.iconst 5, 1) := by decide +kernel
theorem dX6_mobileCalls_90 : decode cX6_mobileCalls 90 = .ok (.iconst 4, 1) := by decide +kernel
theorem dX6_mobileCalls_91 : decode cX6_mobileCalls 91 = .ok (.iconst 0, 1) := by decide +kernel
theorem dX6_mobileCalls_92 : decode cX6_mobileCalls 92 = .ok (.invokevirtual 83, 3) := by decide +kernel
theorem dX6_mobileCalls_95 : decode cX6_mobileCalls 95 = .ok (.iconst 1, 1) := by decide +kernel
theorem dX6_mobileCalls_96 : decode cX6_mobileCalls 96 = .ok (.ireturn, 1) := by decide +kernel
theorem dX6_mobileCalls_97 : decode cX6_mobileCalls 97 = .ok (.aload_n 0, 1) := by decide +kernel
theorem dX6_mobileCalls_98 : decode cX6_mobileCalls 98 = .ok (.iconst 0, 1) := by decide +kernel
theorem dX6_mobileCalls_99 : decode cX6_mobileCalls 99 = .ok (.iload_n 1, 1) := by decide +kernel
theorem dX6_mobileCalls_100 : decode cX6_mobileCalls 100 = .ok (.invokevirtual 122, 3) := by decide +kernel
theorem dX6_mobileCalls_103 : decode cX6_mobileCalls 103 = .ok (.ireturn, 1) := by decide +kernel
theorem dX6_ask_0 : decode cX6_ask 0 = .ok (.aload_n 0, 1) := by decide +kernel
theorem dX6_ask_1 : decode cX6_ask 1 = .ok (.aload_n 0, 1) := by decide +kernel
theorem dX6_ask_2 : decode cX6_ask 2 = .ok (.getfield 57, 3) := by decide +kernel
theorem dX6_ask_5 : decode cX6_ask 5 = .ok (.ldc 125, 2) := by decide +kernel
theorem dX6_ask_7 : decode cX6_ask 7 = .ok (.imul, 1) := by decide +kernel
theorem dX6_ask_8 : decode cX6_ask 8 = .ok (.sipush 12345, 3) := by decide +kernel
theorem dX6_ask_11 : decode cX6_ask 11 = .ok (.iadd, 1) := by decide +kernel
theorem dX6_ask_12 : decode cX6_ask 12 = .ok (.putfield 57, 3) := by decide +kernel
theorem dX6_ask_15 : decode cX6_ask 15 = .ok (.aload_n 0, 1) := by decide +kernel
theorem dX6_ask_16 : decode cX6_ask 16 = .ok (.iconst 1, 1) := by decide +kernel
theorem dX6_ask_17 : decode cX6_ask 17 = .ok (.iconst 5, 1) := by decide +kernel
theorem dX6_ask_18 : decode cX6_ask 18 = .ok (.bipush 18, 2) := by decide +kernel
theorem dX6_ask_20 : decode cX6_ask 20 = .ok (.bipush 33, 2) := by decide +kernel
theorem dX6_ask_22 : decode cX6_ask 22 = .ok (.iconst 4, 1) := by decide +kernel
theorem dX6_ask_23 : decode cX6_ask 23 = .ok (.aload_n 0, 1) := by decide +kernel
theorem dX6_ask_24 : decode cX6_ask 24 = .ok (.getfield 57, 3) := by decide +kernel
theorem dX6_ask_27 : decode cX6_ask 27 = .ok (.invokevirtual 112, 3) := by decide +kernel
theorem dX6_ask_30 : decode cX6_ask 30 = .ok (.aload_n 0, 1) := by decide +kernel
theorem dX6_ask_31 : decode cX6_ask 31 = .ok (.iconst 1, 1) := by decide +kernel
theorem dX6_ask_32 : decode cX6_ask 32 = .ok (.iload_n 1, 1) := by decide +kernel
theorem dX6_ask_33 : decode cX6_ask 33 = .ok (.aload_n 0, 1) := by decide +kernel
theorem dX6_ask_34 : decode cX6_ask 34 = .ok (.getfield 26, 3) := by decide +kernel
theorem dX6_ask_37 : decode cX6_ask 37 = .ok (.iconst 1, 1) := by decide +kernel
theorem dX6_ask_38 : decode cX6_ask 38 = .ok (.iaload, 1) := by decide +kernel
theorem dX6_ask_39 : decode cX6_ask 39 = .ok (.bipush 12, 2) := by decide +kernel
theorem dX6_ask_41 : decode cX6_ask 41 = .ok (.invokevirtual 83, 3) := by decide +kernel
theorem dX6_ask_44 : decode cX6_ask 44 = .ok (.return_, 1) := by decide +kernel
theorem dX6_judge_0 : decode cX6_judge 0 = .ok (.bipush (-3), 2) := by decide +kernel
theorem dX6_judge_2 : decode cX6_judge 2 = .ok (.istore_n 1, 1) := by decide +kernel
theorem dX6_judge_3 : decode cX6_judge 3 = .ok (.aload_n 0, 1) := by decide +kernel
theorem dX6_judge_4 : decode cX6_judge 4 = .ok (.getfield 23, 3) := by decide +kernel
theorem dX6_judge_7 : decode cX6_judge 7 = .ok (.iconst 1, 1) := by decide +kernel
theorem dX6_judge_8 : decode cX6_judge 8 = .ok (.iaload, 1) := by decide +kernel
theorem dX6_judge_9 : decode cX6_judge 9 = .ok (.istore_n 2, 1) := by decide +kernel
theorem dX6_judge_10 : decode cX6_judge 10 = .ok (.aload_n 0, 1) := by decide +kernel
theorem dX6_judge_11 : decode cX6_judge 11 = .ok (.bipush 34, 2) := by decide +kernel
theorem dX6_judge_13 : decode cX6_judge 13 = .ok (.invokevirtual 95, 3) := by decide +kernel
theorem dX6_judge_16 : decode cX6_judge 16 = .ok (.aload_n 0, 1) := by decide +kernel
theorem dX6_judge_17 : decode cX6_judge 17 = .ok (.getfield 57, 3) := by decide +kernel
theorem dX6_judge_20 : decode cX6_judge 20 = .ok (.aload_n 0, 1) := by decide +kernel
theorem dX6_judge_21 : decode cX6_judge 21 = .ok (.getfield 54, 3) := by decide +kernel
theorem dX6_judge_24 : decode cX6_judge 24 = .ok (.invokestatic 108, 3) := by decide +kernel
theorem dX6_judge_27 : decode cX6_judge 27 = .ok (.if_icmp .eq 33, 3) := by decide +kernel
theorem dX6_judge_30 : decode cX6_judge 30 = .ok (.aload_n 0, 1) := by decide +kernel
theorem dX6_judge_31 : decode cX6_judge 31 = .ok (.iconst 1, 1) := by decide +kernel
theorem dX6_judge_32 : decode cX6_judge 32 = .ok (.iconst 5, 1) := by decide +kernel
theorem dX6_judge_33 : decode cX6_judge 33 = .ok (.bipush 17, 2) := by decide +kernel
theorem dX6_judge_35 : decode cX6_judge 35 = .ok (.invokevirtual 64, 3) := by decide +kernel
theorem dX6_judge_38 : decode cX6_judge 38 = .ok (.istore_n 1, 1) := by decide +kernel
theorem dX6_judge_39 : decode cX6_judge 39 = .ok (.aload_n 0, 1) := by decide +kernel
theorem dX6_judge_40 : decode cX6_judge 40 = .ok (.iconst (-1), 1) := by decide +kernel
theorem dX6_judge_41 : decode cX6_judge 41 = .ok (.putfield 39, 3) := by decide +kernel
theorem dX6_judge_44 : decode cX6_judge 44 = .ok (.aload_n 0, 1) := by decide +kernel
theorem dX6_judge_45 : decode cX6_judge 45 = .ok (.iconst 1, 1) := by decide +kernel
theorem dX6_judge_46 : decode cX6_judge 46 = .ok (.iconst 0, 1) := by decide +kernel
theorem dX6_judge_47 : decode cX6_judge 47 = .ok (.aload_n 0, 1) := by decide +kernel
theorem dX6_judge_48 : decode cX6_judge 48 = .ok (.getfield 26, 3) := by decide +kernel
theorem dX6_judge_51 : decode cX6_judge 51 = .ok (.iconst 1, 1) := by decide +kernel
theorem dX6_judge_52 : decode cX6_judge 52 = .ok (.iaload, 1) := by decide +kernel
theorem dX6_judge_53 : decode cX6_judge 53 = .ok (.iconst 0, 1) := by decide +kernel
theorem dX6_judge_54 : decode cX6_judge 54 = .ok (.invokevirtual 83, 3) := by decide +kernel
theorem dX6_judge_57 : decode cX6_judge 57 = .ok (.goto 132, 3) := by decide +kernel
theorem dX6_judge_60 : decode cX6_judge 60 = .ok (.iload_n 2, 1) := by decide +kernel
theorem dX6_judge_61 : decode cX6_judge 61 = .ok (.iconst 1, 1) := by decide +kernel
theorem dX6_judge_62 : decode cX6_judge 62 = .ok (.if_icmp .ne 66, 3) := by decide +kernel
theorem dX6_judge_65 : decode cX6_judge 65 = .ok (.aload_n 0, 1) := by decide +kernel
theorem dX6_judge_66 : decode cX6_judge 66 = .ok (.getfield 7, 3) := by decide +kernel
theorem dX6_judge_69 : decode cX6_judge 69 = .ok (.iconst 1, 1) := by decide +kernel
theorem dX6_judge_70 : decode cX6_judge 70 = .ok (.iand, 1) := by decide +kernel
theorem dX6_judge_71 : decode cX6_judge 71 = .ok (.iconst 1, 1) := by decide +kernel
theorem dX6_judge_72 : decode cX6_judge 72 = .ok (.if_icmp .ne 28, 3) := by decide +kernel
theorem dX6_judge_75 : decode cX6_judge 75 = .ok (.aload_n 0, 1) := by decide +kernel
theorem dX6_judge_76 : decode cX6_judge 76 = .ok (.aload_n 0, 1) := by decide +kernel
theorem dX6_judge_77 : decode cX6_judge 77 = .ok (.getfield 126, 3) := by decide +kernel
theorem dX6_judge_80 : decode cX6_judge 80 = .ok (.putfield 39, 3) := by decide +kernel
theorem dX6_judge_83 : decode cX6_judge 83 = .ok (.aload_n 0, 1) := by decide +kernel
theorem dX6_judge_84 : decode cX6_judge 84 = .ok (.iconst 1, 1) := by decide +kernel
theorem dX6_judge_85 : decode cX6_judge 85 = .ok (.iconst 5, 1) := by decide +kernel
theorem dX6_judge_86 : decode cX6_judge 86 = .ok (.iconst 2, 1) := by decide +kernel
theorem dX6_judge_87 : decode cX6_judge 87 = .ok (.bipush 19, 2) := by decide +kernel
theorem dX6_judge_89 : decode cX6_judge 89 = .ok (.iconst 2, 1) := by decide +kernel
theorem dX6_judge_90 : decode cX6_judge 90 = .ok (.aload_n 0, 1) := by decide +kernel
theorem dX6_judge_91 : decode cX6_judge 91 = .ok (.getfield 126, 3) := by decide +kernel
theorem dX6_judge_94 : decode cX6_judge 94 = .ok (.invokevirtual 112, 3) := by decide +kernel
theorem dX6_judge_97 : decode cX6_judge 97 = .ok (.goto 15, 3) := by decide +kernel
theorem dX6_judge_100 : decode cX6_judge 100 = .ok (.aload_n 0, 1) := by decide +kernel
theorem dX6_judge_101 : decode cX6_judge 101 = .ok (.iconst 1, 1) := by decide +kernel
theorem dX6_judge_102 : decode cX6_judge 102 = .ok (.iconst 5, 1) := by decide +kernel
theorem dX6_judge_103 : decode cX6_judge 103 = .ok (.iconst 4, 1) := by decide +kernel
theorem dX6_judge_104 : decode cX6_judge 104 = .ok (.bipush 8, 2) := by decide +kernel
theorem dX6_judge_106 : decode cX6_judge 106 = .ok (.iconst 1, 1) := by decide +kernel
theorem dX6_judge_107 : decode cX6_judge 107 = .ok (.bipush 11, 2) := by decide +kernel
theorem dX6_judge_109 : decode cX6_judge 109 = .ok (.invokevirtual 112, 3) := by decide +kernel
theorem dX6_judge_112 : decode cX6_judge 112 = .ok (.aload_n 0, 1) := by decide +kernel
theorem dX6_judge_113 : decode cX6_judge 113 = .ok (.iconst 1, 1) := by decide +kernel
theorem dX6_judge_114 : decode cX6_judge 114 = .ok (.iconst 0, 1) := by decide +kernel
theorem dX6_judge_115 : decode cX6_judge 115 = .ok (.aload_n 0, 1) := by decide +kernel
theorem dX6_judge_116 : decode cX6_judge 116 = .ok (.getfield 26, 3) := by decide +kernel
theorem dX6_judge_119 : decode cX6_judge 119 = .ok (.iconst 1, 1) := by decide +kernel
theorem dX6_judge_120 : decode cX6_judge 120 = .ok (.iaload, 1) := by decide +kernel
theorem dX6_judge_121 : decode cX6_judge 121 = .ok (.iconst 0, 1) := by decide +kernel
theorem dX6_judge_122 : decode cX6_judge 122 = .ok (.invokevirtual 83, 3) := by decide +kernel
theorem dX6_judge_125 : decode cX6_judge 125 = .ok (.goto 64, 3) := by decide +kernel
theorem dX6_judge_128 : decode cX6_judge 128 = .ok (.aload_n 0, 1) := by decide +kernel
theorem dX6_judge_129 : decode cX6_judge 129 = .ok (.getfield 7, 3) := by decide +kernel
theorem dX6_judge_132 : decode cX6_judge 132 = .ok (.iconst 2, 1) := by decide +kernel
theorem dX6_judge_133 : decode cX6_judge 133 = .ok (.iand, 1) := by decide +kernel
theorem dX6_judge_134 : decode cX6_judge 134 = .ok (.iconst 2, 1) := by decide +kernel
theorem dX6_judge_135 : decode cX6_judge 135 = .ok (.if_icmp .ne 28, 3) := by decide +kernel
theorem dX6_judge_138 : decode cX6_judge 138 = .ok (.aload_n 0, 1) := by decide +kernel
theorem dX6_judge_139 : decode cX6_judge 139 = .ok (.iconst 1, 1) := by decide +kernel
theorem dX6_judge_140 : decode cX6_judge 140 = .ok (.iconst 5, 1) := by decide +kernel
theorem dX6_judge_141 : decode cX6_judge 141 = .ok (.bipush 33, 2) := by decide +kernel
theorem dX6_judge_143 : decode cX6_judge 143 = .ok (.invokevirtual 64, 3) := by decide +kernel
theorem dX6_judge_146 : decode cX6_judge 146 = .ok (.istore_n 1, 1) := by decide +kernel
theorem dX6_judge_147 : decode cX6_judge 147 = .ok (.aload_n 0, 1) := by decide +kernel
theorem dX6_judge_148 : decode cX6_judge 148 = .ok (.iconst 1, 1) := by decide +kernel
theorem dX6_judge_149 : decode cX6_judge 149 = .ok (.iconst 3, 1) := by decide +kernel
theorem dX6_judge_150 : decode cX6_judge 150 = .ok (.aload_n 0, 1) := by decide +kernel
theorem dX6_judge_151 : decode cX6_judge 151 = .ok (.getfield 26, 3) := by decide +kernel
theorem dX6_judge_154 : decode cX6_judge 154 = .ok (.iconst 1, 1) := by decide +kernel
theorem dX6_judge_155 : decode cX6_judge 155 = .ok (.iaload, 1) := by decide +kernel
theorem dX6_judge_156 : decode cX6_judge 156 = .ok (.iconst 0, 1) := by decide +kernel
theorem dX6_judge_157 : decode cX6_judge 157 = .ok (.invokevirtual 83, 3) := by decide +kernel
theorem dX6_judge_160 : decode cX6_judge 160 = .ok (.goto 29, 3) := by decide +kernel
theorem dX6_judge_163 : decode cX6_judge 163 = .ok (.aload_n 0, 1) := by decide +kernel
theorem dX6_judge_164 : decode cX6_judge 164 = .ok (.iconst 1, 1) := by decide +kernel
theorem dX6_judge_165 : decode cX6_judge 165 = .ok (.iconst 5, 1) := by decide +kernel
theorem dX6_judge_166 : decode cX6_judge 166 = .ok (.bipush 34, 2) := by decide +kernel
theorem dX6_judge_168 : decode cX6_judge 168 = .ok (.bipush 8, 2) := by decide +kernel
theorem dX6_judge_170 : decode cX6_judge 170 = .ok (.iconst 1, 1) := by decide +kernel
theorem dX6_judge_171 : decode cX6_judge 171 = .ok (.bipush 32, 2) := by decide +kernel
theorem dX6_judge_173 : decode cX6_judge 173 = .ok (.invokevirtual 112, 3) := by decide +kernel
theorem dX6_judge_176 : decode cX6_judge 176 = .ok (.aload_n 0, 1) := by decide +kernel
theorem dX6_judge_177 : decode cX6_judge 177 = .ok (.iconst 1, 1) := by decide +kernel
theorem dX6_judge_178 : decode cX6_judge 178 = .ok (.iconst 0, 1) := by decide +kernel
theorem dX6_judge_179 : decode cX6_judge 179 = .ok (.aload_n 0, 1) := by decide +kernel
theorem dX6_judge_180 : decode cX6_judge 180 = .ok (.getfield 26, 3) := by decide +kernel
theorem dX6_judge_183 : decode cX6_judge 183 = .ok (.iconst 1, 1) := by decide +kernel
theorem dX6_judge_184 : decode cX6_judge 184 = .ok (.iaload, 1) := by decide +kernel
theorem dX6_judge_185 : decode cX6_judge 185 = .ok (.iconst 0, 1) := by decide +kernel
theorem dX6_judge_186 : decode cX6_judge 186 = .ok (.invokevirtual 83, 3) := by decide +kernel
theorem dX6_judge_189 : decode cX6_judge 189 = .ok (.return_, 1) := by decide +kernel
theorem dX6_networkMoves_0 : decode cX6_networkMoves 0 = .ok (.iload_n 1, 1) := by decide +kernel
theorem dX6_networkMoves_1 : decode cX6_networkMoves 1 = .ok (.lookupswitch 174 #[(1, 159), (8, 43), (20, 121), (36, 81)], 43) := by decide +kernel
theorem dX6_networkMoves_44 : decode cX6_networkMoves 44 = .ok (.aload_n 0, 1) := by decide +kernel
theorem dX6_networkMoves_45 : decode cX6_networkMoves 45 = .ok (.getfield 23, 3) := by decide +kernel
theorem dX6_networkMoves_48 : decode cX6_networkMoves 48 = .ok (.iconst 1, 1) := by decide +kernel
theorem dX6_networkMoves_49 : decode cX6_networkMoves 49 = .ok (.iaload, 1) := by decide +kernel
theorem dX6_networkMoves_50 : decode cX6_networkMoves 50 = .ok (.ifCond .ne 13, 3) := by decide +kernel
theorem dX6_networkMoves_53 : decode cX6_networkMoves 53 = .ok (.aload_n 0, 1) := by decide +kernel
theorem dX6_networkMoves_54 : decode cX6_networkMoves 54 = .ok (.bipush 19, 2) := by decide +kernel
theorem dX6_networkMoves_56 : decode cX6_networkMoves 56 = .ok (.iconst 2, 1) := by decide +kernel
theorem dX6_networkMoves_57 : decode cX6_networkMoves 57 = .ok (.invokevirtual 87, 3) := by decide +kernel
theorem dX6_networkMoves_60 : decode cX6_networkMoves 60 = .ok (.ifCond .ne 5, 3) := by decide +kernel
theorem dX6_networkMoves_63 : decode cX6_networkMoves 63 = .ok (.iconst 0, 1) := by decide +kernel
theorem dX6_networkMoves_64 : decode cX6_networkMoves 64 = .ok (.ireturn, 1) := by decide +kernel
theorem dX6_networkMoves_65 : decode cX6_networkMoves 65 = .ok (.aload_n 0, 1) := by decide +kernel
theorem dX6_networkMoves_66 : decode cX6_networkMoves 66 = .ok (.aload_n 0, 1) := by decide +kernel
theorem dX6_networkMoves_67 : decode cX6_networkMoves 67 = .ok (.bipush 19, 2) := by decide +kernel
theorem dX6_networkMoves_69 : decode cX6_networkMoves 69 = .ok (.invokevirtual 95, 3) := by decide +kernel
theorem dX6_networkMoves_72 : decode cX6_networkMoves 72 = .ok (.putfield 126, 3) := by decide +kernel
theorem dX6_networkMoves_75 : decode cX6_networkMoves 75 = .ok (.aload_n 0, 1) := by decide +kernel
theorem dX6_networkMoves_76 : decode cX6_networkMoves 76 = .ok (.iconst 1, 1) := by decide +kernel
theorem dX6_networkMoves_77 : decode cX6_networkMoves 77 = .ok (.invokevirtual 129, 3) := by decide +kernel
theorem dX6_networkMoves_80 : decode cX6_networkMoves 80 = .ok (.iconst 1, 1) := by decide +kernel
theorem dX6_networkMoves_81 : decode cX6_networkMoves 81 = .ok (.ireturn, 1) := by decide +kernel
theorem dX6_networkMoves_82 : decode cX6_networkMoves 82 = .ok (.aload_n 0, 1) := by decide +kernel
theorem dX6_networkMoves_83 : decode cX6_networkMoves 83 = .ok (.getfield 23, 3) := by decide +kernel
theorem dX6_networkMoves_86 : decode cX6_networkMoves 86 = .ok (.iconst 1, 1) := by decide +kernel
theorem dX6_networkMoves_87 : decode cX6_networkMoves 87 = .ok (.iaload, 1) := by decide +kernel
theorem dX6_networkMoves_88 : decode cX6_networkMoves 88 = .ok (.ifCond .eq 5, 3) := by decide +kernel
theorem dX6_networkMoves_91 : decode cX6_networkMoves 91 = .ok (.iconst 0, 1) := by decide +kernel
theorem dX6_networkMoves_92 : decode cX6_networkMoves 92 = .ok (.ireturn, 1) := by decide +kernel
theorem dX6_networkMoves_93 : decode cX6_networkMoves 93 = .ok (.aload_n 0, 1) := by decide +kernel
theorem dX6_networkMoves_94 : decode cX6_networkMoves 94 = .ok (.getfield 39, 3) := by decide +kernel
theorem dX6_networkMoves_97 : decode cX6_networkMoves 97 = .ok (.ifCond .ge 18, 3) := by decide +kernel
theorem dX6_networkMoves_100 : decode cX6_networkMoves 100 = .ok (.aload_n 0, 1) := by decide +kernel
theorem dX6_networkMoves_101 : decode cX6_networkMoves 101 = .ok (.iconst 1, 1) := by decide +kernel
theorem dX6_networkMoves_102 : decode cX6_networkMoves 102 = .ok (.iconst 5, 1) := by decide +kernel
theorem dX6_networkMoves_103 : decode cX6_networkMoves 103 = .ok (.bipush 34, 2) := by decide +kernel
theorem dX6_networkMoves_105 : decode cX6_networkMoves 105 = .ok (.bipush 8, 2) := by decide +kernel
theorem dX6_networkMoves_107 : decode cX6_networkMoves 107 = .ok (.iconst 1, 1) := by decide +kernel
theorem dX6_networkMoves_108 : decode cX6_networkMoves 108 = .ok (.iconst 4, 1) := by decide +kernel
theorem dX6_networkMoves_109 : decode cX6_networkMoves 109 = .ok (.invokevirtual 112, 3) := by decide +kernel
theorem dX6_networkMoves_112 : decode cX6_networkMoves 112 = .ok (.goto 8, 3) := by decide +kernel
theorem dX6_networkMoves_115 : decode cX6_networkMoves 115 = .ok (.aload_n 0, 1) := by decide +kernel
theorem dX6_networkMoves_116 : decode cX6_networkMoves 116 = .ok (.iconst 2, 1) := by decide +kernel
theorem dX6_networkMoves_117 : decode cX6_networkMoves 117 = .ok (.invokevirtual 129, 3) := by decide +kernel
theorem dX6_networkMoves_120 : decode cX6_networkMoves 120 = .ok (.iconst 1, 1) := by decide +kernel
theorem dX6_networkMoves_121 : decode cX6_networkMoves 121 = .ok (.ireturn, 1) := by decide +kernel
theorem dX6_networkMoves_122 : decode cX6_networkMoves 122 = .ok (.aload_n 0, 1) := by decide +kernel
theorem dX6_networkMoves_123 : decode cX6_networkMoves 123 = .ok (.getfield 23, 3) := by decide +kernel
theorem dX6_networkMoves_126 : decode cX6_networkMoves 126 = .ok (.iconst 1, 1) := by decide +kernel
theorem dX6_networkMoves_127 : decode cX6_networkMoves 127 = .ok (.iaload, 1) := by decide +kernel
theorem dX6_networkMoves_128 : decode cX6_networkMoves 128 = .ok (.iconst 1, 1) := by decide +kernel
theorem dX6_networkMoves_129 : decode cX6_networkMoves 129 = .ok (.if_icmp .eq 13, 3) := by decide +kernel
theorem dX6_networkMoves_132 : decode cX6_networkMoves 132 = .ok (.aload_n 0, 1) := by decide +kernel
theorem dX6_networkMoves_133 : decode cX6_networkMoves 133 = .ok (.getfield 23, 3) := by decide +kernel
theorem dX6_networkMoves_136 : decode cX6_networkMoves 136 = .ok (.iconst 1, 1) := by decide +kernel
theorem dX6_networkMoves_137 : decode cX6_networkMoves 137 = .ok (.iaload, 1) := by decide +kernel
theorem dX6_networkMoves_138 : decode cX6_networkMoves 138 = .ok (.iconst 2, 1) := by decide +kernel
theorem dX6_networkMoves_139 : decode cX6_networkMoves 139 = .ok (.if_icmp .ne 13, 3) := by decide +kernel
theorem dX6_networkMoves_142 : decode cX6_networkMoves 142 = .ok (.aload_n 0, 1) := by decide +kernel
theorem dX6_networkMoves_143 : decode cX6_networkMoves 143 = .ok (.bipush 34, 2) := by decide +kernel
theorem dX6_networkMoves_145 : decode cX6_networkMoves 145 = .ok (.iconst 4, 1) := by decide +kernel
theorem dX6_networkMoves_146 : decode cX6_networkMoves 146 = .ok (.invokevirtual 87, 3) := by decide +kernel
theorem dX6_networkMoves_149 : decode cX6_networkMoves 149 = .ok (.ifCond .ne 5, 3) := by decide +kernel
theorem dX6_networkMoves_152 : decode cX6_networkMoves 152 = .ok (.iconst 0, 1) := by decide +kernel
theorem dX6_networkMoves_153 : decode cX6_networkMoves 153 = .ok (.ireturn, 1) := by decide +kernel
theorem dX6_networkMoves_154 : decode cX6_networkMoves 154 = .ok (.aload_n 0, 1) := by decide +kernel
theorem dX6_networkMoves_155 : decode cX6_networkMoves 155 = .ok (.invokevirtual 132, 3) := by decide +kernel
theorem dX6_networkMoves_158 : decode cX6_networkMoves 158 = .ok (.iconst 1, 1) := by decide +kernel
theorem dX6_networkMoves_159 : decode cX6_networkMoves 159 = .ok (.ireturn, 1) := by decide +kernel
theorem dX6_networkMoves_160 : decode cX6_networkMoves 160 = .ok (.aload_n 0, 1) := by decide +kernel
theorem dX6_networkMoves_161 : decode cX6_networkMoves 161 = .ok (.iconst (-1), 1) := by decide +kernel
theorem dX6_networkMoves_162 : decode cX6_networkMoves 162 = .ok (.putfield 39, 3) := by decide +kernel
theorem dX6_networkMoves_165 : decode cX6_networkMoves 165 = .ok (.aload_n 0, 1) := by decide +kernel
theorem dX6_networkMoves_166 : decode cX6_networkMoves 166 = .ok (.iconst 1, 1) := by decide +kernel
theorem dX6_networkMoves_167 : decode cX6_networkMoves 167 = .ok (.iconst 0, 1) := by decide +kernel
theorem dX6_networkMoves_168 : decode cX6_networkMoves 168 = .ok (.iconst 0, 1) := by decide +kernel
theorem dX6_networkMoves_169 : decode cX6_networkMoves 169 = .ok (.iconst 0, 1) := by decide +kernel
theorem dX6_networkMoves_170 : decode cX6_networkMoves 170 = .ok (.invokevirtual 83, 3) := by decide +kernel
theorem dX6_networkMoves_173 : decode cX6_networkMoves 173 = .ok (.iconst 1, 1) := by decide +kernel
theorem dX6_networkMoves_174 : decode cX6_networkMoves 174 = .ok (.ireturn, 1) := by decide +kernel
theorem dX6_networkMoves_175 : decode cX6_networkMoves 175 = .ok (.iconst 0, 1) := by decide +kernel
theorem dX6_networkMoves_176 : decode cX6_networkMoves 176 = .ok (.ireturn, 1) := by decide +kernel
theorem dX6_networkCalls_0 : decode cX6_networkCalls 0 = .ok (.aload_n 0, 1) := by decide +kernel
theorem dX6_networkCalls_1 : decode cX6_networkCalls 1 = .ok (.getfield 23, 3) := by decide +kernel
theorem dX6_networkCalls_4 : decode cX6_networkCalls 4 = .ok (.iconst 1, 1) := by decide +kernel
theorem dX6_networkCalls_5 : decode cX6_networkCalls 5 = .ok (.iaload, 1) := by decide +kernel
theorem dX6_networkCalls_6 : decode cX6_networkCalls 6 = .ok (.iconst 3, 1) := by decide +kernel
theorem dX6_networkCalls_7 : decode cX6_networkCalls 7 = .ok (.if_icmp .eq 5, 3) := by decide +kernel
theorem dX6_networkCalls_10 : decode cX6_networkCalls 10 = .ok (.iconst 0, 1) := by decide +kernel
theorem dX6_networkCalls_11 : decode cX6_networkCalls 11 = .ok (.ireturn, 1) := by decide +kernel
theorem dX6_networkCalls_12 : decode cX6_networkCalls 12 = .ok (.aload_n 0, 1) := by decide +kernel
theorem dX6_networkCalls_13 : decode cX6_networkCalls 13 = .ok (.bipush 94, 2) := by decide +kernel
theorem dX6_networkCalls_15 : decode cX6_networkCalls 15 = .ok (.invokevirtual 75, 3) := by decide +kernel
theorem dX6_networkCalls_18 : decode cX6_networkCalls 18 = .ok (.istore_n 2, 1) := by decide +kernel
theorem dX6_networkCalls_19 : decode cX6_networkCalls 19 = .ok (.iload_n 1, 1) := by decide +kernel
theorem dX6_networkCalls_20 : decode cX6_networkCalls 20 = .ok (.iconst 5, 1) := by decide +kernel
theorem dX6_networkCalls_21 : decode cX6_networkCalls 21 = .ok (.if_icmp .ne 103, 3) := by decide +kernel
theorem dX6_networkCalls_24 : decode cX6_networkCalls 24 = .ok (.aload_n 0, 1) := by decide +kernel
theorem dX6_networkCalls_25 : decode cX6_networkCalls 25 = .ok (.getfield 26, 3) := by decide +kernel
theorem dX6_networkCalls_28 : decode cX6_networkCalls 28 = .ok (.iconst 1, 1) := by decide +kernel
theorem dX6_networkCalls_29 : decode cX6_networkCalls 29 = .ok (.iaload, 1) := by decide +kernel
theorem dX6_networkCalls_30 : decode cX6_networkCalls 30 = .ok (.ifCond .ne 94, 3) := by decide +kernel
theorem dX6_networkCalls_33 : decode cX6_networkCalls 33 = .ok (.iload_n 2, 1) := by decide +kernel
theorem dX6_networkCalls_34 : decode cX6_networkCalls 34 = .ok (.bipush (-3), 2) := by decide +kernel
theorem dX6_networkCalls_36 : decode cX6_networkCalls 36 = .ok (.if_icmp .eq 88, 3) := by decide +kernel
theorem dX6_networkCalls_39 : decode cX6_networkCalls 39 = .ok (.aload_n 0, 1) := by decide +kernel
theorem dX6_networkCalls_40 : decode cX6_networkCalls 40 = .ok (.getfield 48, 3) := by decide +kernel
theorem dX6_networkCalls_43 : decode cX6_networkCalls 43 = .ok (.iload_n 2, 1) := by decide +kernel
theorem dX6_networkCalls_44 : decode cX6_networkCalls 44 = .ok (.iconst 1, 1) := by decide +kernel
theorem dX6_networkCalls_45 : decode cX6_networkCalls 45 = .ok (.isub, 1) := by decide +kernel
theorem dX6_networkCalls_46 : decode cX6_networkCalls 46 = .ok (.iaload, 1) := by decide +kernel
theorem dX6_networkCalls_47 : decode cX6_networkCalls 47 = .ok (.iconst 1, 1) := by decide +kernel
theorem dX6_networkCalls_48 : decode cX6_networkCalls 48 = .ok (.if_icmp .lt 76, 3) := by decide +kernel
theorem dX6_networkCalls_51 : decode cX6_networkCalls 51 = .ok (.aload_n 0, 1) := by decide +kernel
theorem dX6_networkCalls_52 : decode cX6_networkCalls 52 = .ok (.getfield 48, 3) := by decide +kernel
theorem dX6_networkCalls_55 : decode cX6_networkCalls 55 = .ok (.iload_n 2, 1) := by decide +kernel
theorem dX6_networkCalls_56 : decode cX6_networkCalls 56 = .ok (.iconst 1, 1) := by decide +kernel
theorem dX6_networkCalls_57 : decode cX6_networkCalls 57 = .ok (.isub, 1) := by decide +kernel
theorem dX6_networkCalls_58 : decode cX6_networkCalls 58 = .ok (.iaload, 1) := by decide +kernel
theorem dX6_networkCalls_59 : decode cX6_networkCalls 59 = .ok (.bipush 8, 2) := by decide +kernel
theorem dX6_networkCalls_61 : decode cX6_networkCalls 61 = .ok (.if_icmp .gt 63, 3) := by decide +kernel
theorem dX6_networkCalls_64 : decode cX6_networkCalls 64 = .ok (.aload_n 0, 1) := by decide +kernel
theorem dX6_networkCalls_65 : decode cX6_networkCalls 65 = .ok (.aload_n 0, 1) := by decide +kernel
theorem dX6_networkCalls_66 : decode cX6_networkCalls 66 = .ok (.getfield 48, 3) := by decide +kernel
theorem dX6_networkCalls_69 : decode cX6_networkCalls 69 = .ok (.iload_n 2, 1) := by decide +kernel
theorem dX6_networkCalls_70 : decode cX6_networkCalls 70 = .ok (.iconst 1, 1) := by decide +kernel
theorem dX6_networkCalls_71 : decode cX6_networkCalls 71 = .ok (.isub, 1) := by decide +kernel
theorem dX6_networkCalls_72 : decode cX6_networkCalls 72 = .ok (.iaload, 1) := by decide +kernel
theorem dX6_networkCalls_73 : decode cX6_networkCalls 73 = .ok (.putfield 135, 3) := by decide +kernel
theorem dX6_networkCalls_76 : decode cX6_networkCalls 76 = .ok (.iconst 0, 1) := by decide +kernel
theorem dX6_networkCalls_77 : decode cX6_networkCalls 77 = .ok (.istore_n 3, 1) := by decide +kernel
theorem dX6_networkCalls_78 : decode cX6_networkCalls 78 = .ok (.iload_n 3, 1) := by decide +kernel
theorem dX6_networkCalls_79 : decode cX6_networkCalls 79 = .ok (.aload_n 0, 1) := by decide +kernel
theorem dX6_networkCalls_80 : decode cX6_networkCalls 80 = .ok (.getfield 135, 3) := by decide +kernel
theorem dX6_networkCalls_83 : decode cX6_networkCalls 83 = .ok (.if_icmp .ge 23, 3) := by decide +kernel
theorem dX6_networkCalls_86 : decode cX6_networkCalls 86 = .ok (.aload_n 0, 1) := by decide +kernel
theorem dX6_networkCalls_87 : decode cX6_networkCalls 87 = .ok (.getfield 45, 3) := by decide +kernel
theorem dX6_networkCalls_90 : decode cX6_networkCalls 90 = .ok (.iload_n 3, 1) := by decide +kernel
theorem dX6_networkCalls_91 : decode cX6_networkCalls 91 = .ok (.aload_n 0, 1) := by decide +kernel
theorem dX6_networkCalls_92 : decode cX6_networkCalls 92 = .ok (.getfield 48, 3) := by decide +kernel
theorem dX6_networkCalls_95 : decode cX6_networkCalls 95 = .ok (.iload_n 2, 1) := by decide +kernel
theorem dX6_networkCalls_96 : decode cX6_networkCalls 96 = .ok (.iload_n 3, 1) := by decide +kernel
theorem dX6_networkCalls_97 : decode cX6_networkCalls 97 = .ok (.iadd, 1) := by decide +kernel
theorem dX6_networkCalls_98 : decode cX6_networkCalls 98 = .ok (.iaload, 1) := by decide +kernel
theorem dX6_networkCalls_99 : decode cX6_networkCalls 99 = .ok (.iastore, 1) := by decide +kernel
theorem dX6_networkCalls_100 : decode cX6_networkCalls 100 = .ok (.iinc 3 1, 3) := by decide +kernel
theorem dX6_networkCalls_103 : decode cX6_networkCalls 103 = .ok (.goto (-25), 3) := by decide +kernel
theorem dX6_networkCalls_106 : decode cX6_networkCalls 106 = .ok (.aload_n 0, 1) := by decide +kernel
theorem dX6_networkCalls_107 : decode cX6_networkCalls 107 = .ok (.iconst 1, 1) := by decide +kernel
theorem dX6_networkCalls_108 : decode cX6_networkCalls 108 = .ok (.iconst 3, 1) := by decide +kernel
theorem dX6_networkCalls_109 : decode cX6_networkCalls 109 = .ok (.iconst 2, 1) := by decide +kernel
theorem dX6_networkCalls_110 : decode cX6_networkCalls 110 = .ok (.invokevirtual 64, 3) := by decide +kernel
theorem dX6_networkCalls_113 : decode cX6_networkCalls 113 = .ok (.istore_n 3, 1) := by decide +kernel
theorem dX6_networkCalls_114 : decode cX6_networkCalls 114 = .ok (.aload_n 0, 1) := by decide +kernel
theorem dX6_networkCalls_115 : decode cX6_networkCalls 115 = .ok (.iconst 1, 1) := by decide +kernel
theorem dX6_networkCalls_116 : decode cX6_networkCalls 116 = .ok (.iconst 3, 1) := by decide +kernel
theorem dX6_networkCalls_117 : decode cX6_networkCalls 117 = .ok (.iconst 1, 1) := by decide +kernel
theorem dX6_networkCalls_118 : decode cX6_networkCalls 118 = .ok (.iconst 0, 1) := by decide +kernel
theorem dX6_networkCalls_119 : decode cX6_networkCalls 119 = .ok (.invokevirtual 83, 3) := by decide +kernel
theorem dX6_networkCalls_122 : decode cX6_networkCalls 122 = .ok (.iconst 1, 1) := by decide +kernel
theorem dX6_networkCalls_123 : decode cX6_networkCalls 123 = .ok (.ireturn, 1) := by decide +kernel
theorem dX6_networkCalls_124 : decode cX6_networkCalls 124 = .ok (.iload_n 1, 1) := by decide +kernel
theorem dX6_networkCalls_125 : decode cX6_networkCalls 125 = .ok (.bipush 15, 2) := by decide +kernel
theorem dX6_networkCalls_127 : decode cX6_networkCalls 127 = .ok (.if_icmp .ne 23, 3) := by decide +kernel
theorem dX6_networkCalls_130 : decode cX6_networkCalls 130 = .ok (.aload_n 0, 1) := by decide +kernel
theorem dX6_networkCalls_131 : decode cX6_networkCalls 131 = .ok (.getfield 26, 3) := by decide +kernel
theorem dX6_networkCalls_134 : decode cX6_networkCalls 134 = .ok (.iconst 1, 1) := by decide +kernel
theorem dX6_networkCalls_135 : decode cX6_networkCalls 135 = .ok (.iaload, 1) := by decide +kernel
theorem dX6_networkCalls_136 : decode cX6_networkCalls 136 = .ok (.iconst 3, 1) := by decide +kernel
theorem dX6_networkCalls_137 : decode cX6_networkCalls 137 = .ok (.if_icmp .ne 13, 3) := by decide +kernel
theorem dX6_networkCalls_140 : decode cX6_networkCalls 140 = .ok (.aload_n 0, 1) := by decide +kernel
theorem dX6_networkCalls_141 : decode cX6_networkCalls 141 = .ok (.iconst 1, 1) := by decide +kernel
theorem dX6_networkCalls_142 : decode cX6_networkCalls 142 = .ok (.iconst 3, 1) := by decide +kernel
theorem dX6_networkCalls_143 : decode cX6_networkCalls 143 = .ok (.iconst 4, 1) := by decide +kernel
theorem dX6_networkCalls_144 : decode cX6_networkCalls 144 = .ok (.iconst 0, 1) := by decide +kernel
theorem dX6_networkCalls_145 : decode cX6_networkCalls 145 = .ok (.invokevirtual 83, 3) := by decide +kernel
theorem dX6_networkCalls_148 : decode cX6_networkCalls 148 = .ok (.iconst 1, 1) := by decide +kernel
theorem dX6_networkCalls_149 : decode cX6_networkCalls 149 = .ok (.ireturn, 1) := by decide +kernel
theorem dX6_networkCalls_150 : decode cX6_networkCalls 150 = .ok (.aload_n 0, 1) := by decide +kernel
theorem dX6_networkCalls_151 : decode cX6_networkCalls 151 = .ok (.iconst 1, 1) := by decide +kernel
theorem dX6_networkCalls_152 : decode cX6_networkCalls 152 = .ok (.iload_n 1, 1) := by decide +kernel
theorem dX6_networkCalls_153 : decode cX6_networkCalls 153 = .ok (.invokevirtual 122, 3) := by decide +kernel
theorem dX6_networkCalls_156 : decode cX6_networkCalls 156 = .ok (.ireturn, 1) := by decide +kernel
theorem dX6_out_0 : decode cX6_out 0 = .ok (.bipush (-3), 2) := by decide +kernel
theorem dX6_out_2 : decode cX6_out 2 = .ok (.istore_n 2, 1) := by decide +kernel
theorem dX6_out_3 : decode cX6_out 3 = .ok (.aload_n 0, 1) := by decide +kernel
theorem dX6_out_4 : decode cX6_out 4 = .ok (.getfield 26, 3) := by decide +kernel
theorem dX6_out_7 : decode cX6_out 7 = .ok (.iload_n 1, 1) := by decide +kernel
theorem dX6_out_8 : decode cX6_out 8 = .ok (.iaload, 1) := by decide +kernel
theorem dX6_out_9 : decode cX6_out 9 = .ok (.iconst 5, 1) := by decide +kernel
theorem dX6_out_10 : decode cX6_out 10 = .ok (.if_icmp .ne 11, 3) := by decide +kernel
theorem dX6_out_13 : decode cX6_out 13 = .ok (.aload_n 0, 1) := by decide +kernel
theorem dX6_out_14 : decode cX6_out 14 = .ok (.iload_n 1, 1) := by decide +kernel
theorem dX6_out_15 : decode cX6_out 15 = .ok (.invokevirtual 98, 3) := by decide +kernel
theorem dX6_out_18 : decode cX6_out 18 = .ok (.goto 229, 3) := by decide +kernel
theorem dX6_out_21 : decode cX6_out 21 = .ok (.aload_n 0, 1) := by decide +kernel
theorem dX6_out_22 : decode cX6_out 22 = .ok (.getfield 26, 3) := by decide +kernel
theorem dX6_out_25 : decode cX6_out 25 = .ok (.iload_n 1, 1) := by decide +kernel
theorem dX6_out_26 : decode cX6_out 26 = .ok (.iaload, 1) := by decide +kernel
theorem dX6_out_27 : decode cX6_out 27 = .ok (.bipush 6, 2) := by decide +kernel
theorem dX6_out_29 : decode cX6_out 29 = .ok (.if_icmp .ne 43, 3) := by decide +kernel
theorem dX6_out_32 : decode cX6_out 32 = .ok (.aload_n 0, 1) := by decide +kernel
theorem dX6_out_33 : decode cX6_out 33 = .ok (.getfield 32, 3) := by decide +kernel
theorem dX6_out_36 : decode cX6_out 36 = .ok (.iload_n 1, 1) := by decide +kernel
theorem dX6_out_37 : decode cX6_out 37 = .ok (.baload, 1) := by decide +kernel
theorem dX6_out_38 : decode cX6_out 38 = .ok (.ifCond .ne 34, 3) := by decide +kernel
theorem dX6_out_41 : decode cX6_out 41 = .ok (.aload_n 0, 1) := by decide +kernel
theorem dX6_out_42 : decode cX6_out 42 = .ok (.aload_n 0, 1) := by decide +kernel
theorem dX6_out_43 : decode cX6_out 43 = .ok (.iload_n 1, 1) := by decide +kernel
theorem dX6_out_44 : decode cX6_out 44 = .ok (.invokevirtual 80, 3) := by decide +kernel
theorem dX6_out_47 : decode cX6_out 47 = .ok (.iconst 3, 1) := by decide +kernel
theorem dX6_out_48 : decode cX6_out 48 = .ok (.bipush 45, 2) := by decide +kernel
theorem dX6_out_50 : decode cX6_out 50 = .ok (.invokevirtual 64, 3) := by decide +kernel
theorem dX6_out_53 : decode cX6_out 53 = .ok (.istore_n 2, 1) := by decide +kernel
theorem dX6_out_54 : decode cX6_out 54 = .ok (.aload_n 0, 1) := by decide +kernel
theorem dX6_out_55 : decode cX6_out 55 = .ok (.getfield 32, 3) := by decide +kernel
theorem dX6_out_58 : decode cX6_out 58 = .ok (.iload_n 1, 1) := by decide +kernel
theorem dX6_out_59 : decode cX6_out 59 = .ok (.iconst 1, 1) := by decide +kernel
theorem dX6_out_60 : decode cX6_out 60 = .ok (.bastore, 1) := by decide +kernel
theorem dX6_out_61 : decode cX6_out 61 = .ok (.aload_n 0, 1) := by decide +kernel
theorem dX6_out_62 : decode cX6_out 62 = .ok (.getfield 29, 3) := by decide +kernel
theorem dX6_out_65 : decode cX6_out 65 = .ok (.iload_n 1, 1) := by decide +kernel
theorem dX6_out_66 : decode cX6_out 66 = .ok (.bipush 30, 2) := by decide +kernel
theorem dX6_out_68 : decode cX6_out 68 = .ok (.iastore, 1) := by decide +kernel
theorem dX6_out_69 : decode cX6_out 69 = .ok (.goto 178, 3) := by decide +kernel
theorem dX6_out_72 : decode cX6_out 72 = .ok (.aload_n 0, 1) := by decide +kernel
theorem dX6_out_73 : decode cX6_out 73 = .ok (.getfield 26, 3) := by decide +kernel
theorem dX6_out_76 : decode cX6_out 76 = .ok (.iload_n 1, 1) := by decide +kernel
theorem dX6_out_77 : decode cX6_out 77 = .ok (.iaload, 1) := by decide +kernel
theorem dX6_out_78 : decode cX6_out 78 = .ok (.bipush 6, 2) := by decide +kernel
theorem dX6_out_80 : decode cX6_out 80 = .ok (.if_icmp .ne 18, 3) := by decide +kernel
theorem dX6_out_83 : decode cX6_out 83 = .ok (.aload_n 0, 1) := by decide +kernel
theorem dX6_out_84 : decode cX6_out 84 = .ok (.iload_n 1, 1) := by decide +kernel
theorem dX6_out_85 : decode cX6_out 85 = .ok (.aload_n 0, 1) := by decide +kernel
theorem dX6_out_86 : decode cX6_out 86 = .ok (.iload_n 1, 1) := by decide +kernel
theorem dX6_out_87 : decode cX6_out 87 = .ok (.invokevirtual 102, 3) := by decide +kernel
theorem dX6_out_90 : decode cX6_out 90 = .ok (.iconst 0, 1) := by decide +kernel
theorem dX6_out_91 : decode cX6_out 91 = .ok (.iconst 0, 1) := by decide +kernel
theorem dX6_out_92 : decode cX6_out 92 = .ok (.invokevirtual 83, 3) := by decide +kernel
theorem dX6_out_95 : decode cX6_out 95 = .ok (.goto 152, 3) := by decide +kernel
theorem dX6_out_98 : decode cX6_out 98 = .ok (.iload_n 1, 1) := by decide +kernel
theorem dX6_out_99 : decode cX6_out 99 = .ok (.ifCond .ne 33, 3) := by decide +kernel
theorem dX6_out_102 : decode cX6_out 102 = .ok (.aload_n 0, 1) := by decide +kernel
theorem dX6_out_103 : decode cX6_out 103 = .ok (.getfield 26, 3) := by decide +kernel
theorem dX6_out_106 : decode cX6_out 106 = .ok (.iconst 0, 1) := by decide +kernel
theorem dX6_out_107 : decode cX6_out 107 = .ok (.iaload, 1) := by decide +kernel
theorem dX6_out_108 : decode cX6_out 108 = .ok (.iconst 1, 1) := by decide +kernel
theorem dX6_out_109 : decode cX6_out 109 = .ok (.if_icmp .ne 23, 3) := by decide +kernel
theorem dX6_out_112 : decode cX6_out 112 = .ok (.aload_n 0, 1) := by decide +kernel
theorem dX6_out_113 : decode cX6_out 113 = .ok (.iconst 0, 1) := by decide +kernel
theorem dX6_out_114 : decode cX6_out 114 = .ok (.iconst 3, 1) := by decide +kernel
theorem dX6_out_115 : decode cX6_out 115 = .ok (.bipush 42, 2) := by decide +kernel
theorem dX6_out_117 : decode cX6_out 117 = .ok (.invokevirtual 64, 3) := by decide +kernel
theorem dX6_out_120 : decode cX6_out 120 = .ok (.istore_n 2, 1) := by decide +kernel
theorem dX6_out_121 : decode cX6_out 121 = .ok (.aload_n 0, 1) := by decide +kernel
theorem dX6_out_122 : decode cX6_out 122 = .ok (.iconst 0, 1) := by decide +kernel
theorem dX6_out_123 : decode cX6_out 123 = .ok (.iconst 3, 1) := by decide +kernel
theorem dX6_out_124 : decode cX6_out 124 = .ok (.iconst 0, 1) := by decide +kernel
theorem dX6_out_125 : decode cX6_out 125 = .ok (.iconst 0, 1) := by decide +kernel
theorem dX6_out_126 : decode cX6_out 126 = .ok (.invokevirtual 83, 3) := by decide +kernel
theorem dX6_out_129 : decode cX6_out 129 = .ok (.goto 118, 3) := by decide +kernel
theorem dX6_out_132 : decode cX6_out 132 = .ok (.iload_n 1, 1) := by decide +kernel
theorem dX6_out_133 : decode cX6_out 133 = .ok (.ifCond .ne 52, 3) := by decide +kernel
theorem dX6_out_136 : decode cX6_out 136 = .ok (.aload_n 0, 1) := by decide +kernel
theorem dX6_out_137 : decode cX6_out 137 = .ok (.iconst 0, 1) := by decide +kernel
theorem dX6_out_138 : decode cX6_out 138 = .ok (.aload_n 0, 1) := by decide +kernel
theorem dX6_out_139 : decode cX6_out 139 = .ok (.getfield 23, 3) := by decide +kernel
theorem dX6_out_142 : decode cX6_out 142 = .ok (.iconst 0, 1) := by decide +kernel
theorem dX6_out_143 : decode cX6_out 143 = .ok (.iaload, 1) := by decide +kernel
theorem dX6_out_144 : decode cX6_out 144 = .ok (.iconst 2, 1) := by decide +kernel
theorem dX6_out_145 : decode cX6_out 145 = .ok (.if_icmp .ne 7, 3) := by decide +kernel
theorem dX6_out_148 : decode cX6_out 148 = .ok (.iconst 1, 1) := by decide +kernel
theorem dX6_out_149 : decode cX6_out 149 = .ok (.goto 23, 3) := by decide +kernel
theorem dX6_out_152 : decode cX6_out 152 = .ok (.aload_n 0, 1) := by decide +kernel
theorem dX6_out_153 : decode cX6_out 153 = .ok (.getfield 23, 3) := by decide +kernel
theorem dX6_out_156 : decode cX6_out 156 = .ok (.iconst 0, 1) := by decide +kernel
theorem dX6_out_157 : decode cX6_out 157 = .ok (.iaload, 1) := by decide +kernel
theorem dX6_out_158 : decode cX6_out 158 = .ok (.iconst 4, 1) := by decide +kernel
theorem dX6_out_159 : decode cX6_out 159 = .ok (.if_icmp .ne 7, 3) := by decide +kernel
theorem dX6_out_162 : decode cX6_out 162 = .ok (.iconst 3, 1) := by decide +kernel
theorem dX6_out_163 : decode cX6_out 163 = .ok (.goto 9, 3) := by decide +kernel
theorem dX6_out_166 : decode cX6_out 166 = .ok (.aload_n 0, 1) := by decide +kernel
theorem dX6_out_167 : decode cX6_out 167 = .ok (.getfield 23, 3) := by decide +kernel
theorem dX6_out_170 : decode cX6_out 170 = .ok (.iconst 0, 1) := by decide +kernel
theorem dX6_out_171 : decode cX6_out 171 = .ok (.iaload, 1) := by decide +kernel
theorem dX6_out_172 : decode cX6_out 172 = .ok (.aload_n 0, 1) := by decide +kernel
theorem dX6_out_173 : decode cX6_out 173 = .ok (.getfield 26, 3) := by decide +kernel
theorem dX6_out_176 : decode cX6_out 176 = .ok (.iconst 0, 1) := by decide +kernel
theorem dX6_out_177 : decode cX6_out 177 = .ok (.iaload, 1) := by decide +kernel
theorem dX6_out_178 : decode cX6_out 178 = .ok (.iconst 0, 1) := by decide +kernel
theorem dX6_out_179 : decode cX6_out 179 = .ok (.invokevirtual 83, 3) := by decide +kernel
theorem dX6_out_182 : decode cX6_out 182 = .ok (.goto 65, 3) := by decide +kernel
theorem dX6_out_185 : decode cX6_out 185 = .ok (.aload_n 0, 1) := by decide +kernel
theorem dX6_out_186 : decode cX6_out 186 = .ok (.getfield 26, 3) := by decide +kernel
theorem dX6_out_189 : decode cX6_out 189 = .ok (.iconst 1, 1) := by decide +kernel
theorem dX6_out_190 : decode cX6_out 190 = .ok (.iaload, 1) := by decide +kernel
theorem dX6_out_191 : decode cX6_out 191 = .ok (.iconst 3, 1) := by decide +kernel
theorem dX6_out_192 : decode cX6_out 192 = .ok (.if_icmp .ne 28, 3) := by decide +kernel
theorem dX6_out_195 : decode cX6_out 195 = .ok (.aload_n 0, 1) := by decide +kernel
theorem dX6_out_196 : decode cX6_out 196 = .ok (.iconst 1, 1) := by decide +kernel
theorem dX6_out_197 : decode cX6_out 197 = .ok (.iconst 3, 1) := by decide +kernel
theorem dX6_out_198 : decode cX6_out 198 = .ok (.bipush 37, 2) := by decide +kernel
theorem dX6_out_200 : decode cX6_out 200 = .ok (.bipush 8, 2) := by decide +kernel
theorem dX6_out_202 : decode cX6_out 202 = .ok (.iconst 1, 1) := by decide +kernel
theorem dX6_out_203 : decode cX6_out 203 = .ok (.bipush 102, 2) := by decide +kernel
theorem dX6_out_205 : decode cX6_out 205 = .ok (.invokevirtual 112, 3) := by decide +kernel
theorem dX6_out_208 : decode cX6_out 208 = .ok (.aload_n 0, 1) := by decide +kernel
theorem dX6_out_209 : decode cX6_out 209 = .ok (.iconst 1, 1) := by decide +kernel
theorem dX6_out_210 : decode cX6_out 210 = .ok (.iconst 3, 1) := by decide +kernel
theorem dX6_out_211 : decode cX6_out 211 = .ok (.iconst 5, 1) := by decide +kernel
theorem dX6_out_212 : decode cX6_out 212 = .ok (.bipush 30, 2) := by decide +kernel
theorem dX6_out_214 : decode cX6_out 214 = .ok (.invokevirtual 83, 3) := by decide +kernel
theorem dX6_out_217 : decode cX6_out 217 = .ok (.goto 30, 3) := by decide +kernel
theorem dX6_out_220 : decode cX6_out 220 = .ok (.aload_n 0, 1) := by decide +kernel
theorem dX6_out_221 : decode cX6_out 221 = .ok (.iconst 1, 1) := by decide +kernel
theorem dX6_out_222 : decode cX6_out 222 = .ok (.aload_n 0, 1) := by decide +kernel
theorem dX6_out_223 : decode cX6_out 223 = .ok (.getfield 23, 3) := by decide +kernel
theorem dX6_out_226 : decode cX6_out 226 = .ok (.iconst 1, 1) := by decide +kernel
theorem dX6_out_227 : decode cX6_out 227 = .ok (.iaload, 1) := by decide +kernel
theorem dX6_out_228 : decode cX6_out 228 = .ok (.iconst 3, 1) := by decide +kernel
theorem dX6_out_229 : decode cX6_out 229 = .ok (.if_icmp .ne 7, 3) := by decide +kernel
theorem dX6_out_232 : decode cX6_out 232 = .ok (.iconst 3, 1) := by decide +kernel
theorem dX6_out_233 : decode cX6_out 233 = .ok (.goto 4, 3) := by decide +kernel
theorem dX6_out_236 : decode cX6_out 236 = .ok (.iconst 0, 1) := by decide +kernel
theorem dX6_out_237 : decode cX6_out 237 = .ok (.aload_n 0, 1) := by decide +kernel
theorem dX6_out_238 : decode cX6_out 238 = .ok (.getfield 26, 3) := by decide +kernel
theorem dX6_out_241 : decode cX6_out 241 = .ok (.iconst 1, 1) := by decide +kernel
theorem dX6_out_242 : decode cX6_out 242 = .ok (.iaload, 1) := by decide +kernel
theorem dX6_out_243 : decode cX6_out 243 = .ok (.iconst 0, 1) := by decide +kernel
theorem dX6_out_244 : decode cX6_out 244 = .ok (.invokevirtual 83, 3) := by decide +kernel
theorem dX6_out_247 : decode cX6_out 247 = .ok (.return_, 1) := by decide +kernel
theorem dX6_tick_0 : decode cX6_tick 0 = .ok (.iload_n 1, 1) := by decide +kernel
theorem dX6_tick_1 : decode cX6_tick 1 = .ok (.iconst 1, 1) := by decide +kernel
theorem dX6_tick_2 : decode cX6_tick 2 = .ok (.if_icmp .lt 9, 3) := by decide +kernel
theorem dX6_tick_5 : decode cX6_tick 5 = .ok (.iload_n 1, 1) := by decide +kernel
theorem dX6_tick_6 : decode cX6_tick 6 = .ok (.bipush 100, 2) := by decide +kernel
theorem dX6_tick_8 : decode cX6_tick 8 = .ok (.if_icmp .le 5, 3) := by decide +kernel
theorem dX6_tick_11 : decode cX6_tick 11 = .ok (.iconst (-1), 1) := by decide +kernel
theorem dX6_tick_12 : decode cX6_tick 12 = .ok (.ireturn, 1) := by decide +kernel
theorem dX6_tick_13 : decode cX6_tick 13 = .ok (.iconst 0, 1) := by decide +kernel
theorem dX6_tick_14 : decode cX6_tick 14 = .ok (.istore_n 2, 1) := by decide +kernel
theorem dX6_tick_15 : decode cX6_tick 15 = .ok (.iconst 0, 1) := by decide +kernel
theorem dX6_tick_16 : decode cX6_tick 16 = .ok (.istore_n 3, 1) := by decide +kernel
theorem dX6_tick_17 : decode cX6_tick 17 = .ok (.iload_n 3, 1) := by decide +kernel
theorem dX6_tick_18 : decode cX6_tick 18 = .ok (.iload_n 1, 1) := by decide +kernel
theorem dX6_tick_19 : decode cX6_tick 19 = .ok (.if_icmp .ge 64, 3) := by decide +kernel
theorem dX6_tick_22 : decode cX6_tick 22 = .ok (.iconst 0, 1) := by decide +kernel
theorem dX6_tick_23 : decode cX6_tick 23 = .ok (.istore 4, 2) := by decide +kernel
theorem dX6_tick_25 : decode cX6_tick 25 = .ok (.iload 4, 2) := by decide +kernel
theorem dX6_tick_27 : decode cX6_tick 27 = .ok (.iconst 2, 1) := by decide +kernel
theorem dX6_tick_28 : decode cX6_tick 28 = .ok (.if_icmp .ge 49, 3) := by decide +kernel
theorem dX6_tick_31 : decode cX6_tick 31 = .ok (.aload_n 0, 1) := by decide +kernel
theorem dX6_tick_32 : decode cX6_tick 32 = .ok (.getfield 29, 3) := by decide +kernel
theorem dX6_tick_35 : decode cX6_tick 35 = .ok (.iload 4, 2) := by decide +kernel
theorem dX6_tick_37 : decode cX6_tick 37 = .ok (.iaload, 1) := by decide +kernel
theorem dX6_tick_38 : decode cX6_tick 38 = .ok (.ifCond .le 33, 3) := by decide +kernel
theorem dX6_tick_41 : decode cX6_tick 41 = .ok (.aload_n 0, 1) := by decide +kernel
theorem dX6_tick_42 : decode cX6_tick 42 = .ok (.getfield 29, 3) := by decide +kernel
theorem dX6_tick_45 : decode cX6_tick 45 = .ok (.iload 4, 2) := by decide +kernel
theorem dX6_tick_47 : decode cX6_tick 47 = .ok (.dup2, 1) := by decide +kernel
theorem dX6_tick_48 : decode cX6_tick 48 = .ok (.iaload, 1) := by decide +kernel
theorem dX6_tick_49 : decode cX6_tick 49 = .ok (.iconst 1, 1) := by decide +kernel
theorem dX6_tick_50 : decode cX6_tick 50 = .ok (.isub, 1) := by decide +kernel
theorem dX6_tick_51 : decode cX6_tick 51 = .ok (.iastore, 1) := by decide +kernel
theorem dX6_tick_52 : decode cX6_tick 52 = .ok (.aload_n 0, 1) := by decide +kernel
theorem dX6_tick_53 : decode cX6_tick 53 = .ok (.getfield 29, 3) := by decide +kernel
theorem dX6_tick_56 : decode cX6_tick 56 = .ok (.iload 4, 2) := by decide +kernel
theorem dX6_tick_58 : decode cX6_tick 58 = .ok (.iaload, 1) := by decide +kernel
theorem dX6_tick_59 : decode cX6_tick 59 = .ok (.ifCond .ne 12, 3) := by decide +kernel
theorem dX6_tick_62 : decode cX6_tick 62 = .ok (.iinc 2 1, 3) := by decide +kernel
theorem dX6_tick_65 : decode cX6_tick 65 = .ok (.aload_n 0, 1) := by decide +kernel
theorem dX6_tick_66 : decode cX6_tick 66 = .ok (.iload 4, 2) := by decide +kernel
theorem dX6_tick_68 : decode cX6_tick 68 = .ok (.invokevirtual 138, 3) := by decide +kernel
theorem dX6_tick_71 : decode cX6_tick 71 = .ok (.iinc 4 1, 3) := by decide +kernel
theorem dX6_tick_74 : decode cX6_tick 74 = .ok (.goto (-49), 3) := by decide +kernel
theorem dX6_tick_77 : decode cX6_tick 77 = .ok (.iinc 3 1, 3) := by decide +kernel
theorem dX6_tick_80 : decode cX6_tick 80 = .ok (.goto (-63), 3) := by decide +kernel
theorem dX6_tick_83 : decode cX6_tick 83 = .ok (.iload_n 2, 1) := by decide +kernel
theorem dX6_tick_84 : decode cX6_tick 84 = .ok (.ireturn, 1) := by decide +kernel
theorem dX6_power_0 : decode cX6_power 0 = .ok (.iload_n 1, 1) := by decide +kernel
theorem dX6_power_1 : decode cX6_power 1 = .ok (.aload_n 0, 1) := by decide +kernel
theorem dX6_power_2 : decode cX6_power 2 = .ok (.getfield 23, 3) := by decide +kernel
theorem dX6_power_5 : decode cX6_power 5 = .ok (.iconst 0, 1) := by decide +kernel
theorem dX6_power_6 : decode cX6_power 6 = .ok (.iaload, 1) := by decide +kernel
theorem dX6_power_7 : decode cX6_power 7 = .ok (.ifCond .eq 7, 3) := by decide +kernel
theorem dX6_power_10 : decode cX6_power 10 = .ok (.iconst 1, 1) := by decide +kernel
theorem dX6_power_11 : decode cX6_power 11 = .ok (.goto 4, 3) := by decide +kernel
theorem dX6_power_14 : decode cX6_power 14 = .ok (.iconst 0, 1) := by decide +kernel
theorem dX6_power_15 : decode cX6_power 15 = .ok (.if_icmp .ne 6, 3) := by decide +kernel
theorem dX6_power_18 : decode cX6_power 18 = .ok (.bipush (-2), 2) := by decide +kernel
theorem dX6_power_20 : decode cX6_power 20 = .ok (.ireturn, 1) := by decide +kernel
theorem dX6_power_21 : decode cX6_power 21 = .ok (.iload_n 1, 1) := by decide +kernel
theorem dX6_power_22 : decode cX6_power 22 = .ok (.ifCond .eq 18, 3) := by decide +kernel
theorem dX6_power_25 : decode cX6_power 25 = .ok (.aload_n 0, 1) := by decide +kernel
theorem dX6_power_26 : decode cX6_power 26 = .ok (.iconst 0, 1) := by decide +kernel
theorem dX6_power_27 : decode cX6_power 27 = .ok (.putfield 105, 3) := by decide +kernel
theorem dX6_power_30 : decode cX6_power 30 = .ok (.aload_n 0, 1) := by decide +kernel
theorem dX6_power_31 : decode cX6_power 31 = .ok (.iconst 0, 1) := by decide +kernel
theorem dX6_power_32 : decode cX6_power 32 = .ok (.iconst 1, 1) := by decide +kernel
theorem dX6_power_33 : decode cX6_power 33 = .ok (.iconst 0, 1) := by decide +kernel
theorem dX6_power_34 : decode cX6_power 34 = .ok (.iconst 0, 1) := by decide +kernel
theorem dX6_power_35 : decode cX6_power 35 = .ok (.invokevirtual 83, 3) := by decide +kernel
theorem dX6_power_38 : decode cX6_power 38 = .ok (.iconst 1, 1) := by decide +kernel
theorem dX6_power_39 : decode cX6_power 39 = .ok (.ireturn, 1) := by decide +kernel
theorem dX6_power_40 : decode cX6_power 40 = .ok (.aload_n 0, 1) := by decide +kernel
theorem dX6_power_41 : decode cX6_power 41 = .ok (.iconst 0, 1) := by decide +kernel
theorem dX6_power_42 : decode cX6_power 42 = .ok (.iconst 5, 1) := by decide +kernel
theorem dX6_power_43 : decode cX6_power 43 = .ok (.iconst 1, 1) := by decide +kernel
theorem dX6_power_44 : decode cX6_power 44 = .ok (.invokevirtual 64, 3) := by decide +kernel
theorem dX6_power_47 : decode cX6_power 47 = .ok (.istore_n 2, 1) := by decide +kernel
theorem dX6_power_48 : decode cX6_power 48 = .ok (.aload_n 0, 1) := by decide +kernel
theorem dX6_power_49 : decode cX6_power 49 = .ok (.iconst 0, 1) := by decide +kernel
theorem dX6_power_50 : decode cX6_power 50 = .ok (.iconst 0, 1) := by decide +kernel
theorem dX6_power_51 : decode cX6_power 51 = .ok (.iconst 0, 1) := by decide +kernel
theorem dX6_power_52 : decode cX6_power 52 = .ok (.iconst 0, 1) := by decide +kernel
theorem dX6_power_53 : decode cX6_power 53 = .ok (.invokevirtual 83, 3) := by decide +kernel
theorem dX6_power_56 : decode cX6_power 56 = .ok (.iconst 1, 1) := by decide +kernel
theorem dX6_power_57 : decode cX6_power 57 = .ok (.ireturn, 1) := by decide +kernel
theorem dX6_update_0 : decode cX6_update 0 = .ok (.iload_n 1, 1) := by decide +kernel
theorem dX6_update_1 : decode cX6_update 1 = .ok (.ifCond .lt 9, 3) := by decide +kernel
theorem dX6_update_4 : decode cX6_update 4 = .ok (.iload_n 1, 1) := by decide +kernel
theorem dX6_update_5 : decode cX6_update 5 = .ok (.ldc 141, 2) := by decide +kernel
theorem dX6_update_7 : decode cX6_update 7 = .ok (.if_icmp .le 5, 3) := by decide +kernel
theorem dX6_update_10 : decode cX6_update 10 = .ok (.iconst (-1), 1) := by decide +kernel
theorem dX6_update_11 : decode cX6_update 11 = .ok (.ireturn, 1) := by decide +kernel
theorem dX6_update_12 : decode cX6_update 12 = .ok (.aload_n 0, 1) := by decide +kernel
theorem dX6_update_13 : decode cX6_update 13 = .ok (.getfield 23, 3) := by decide +kernel
theorem dX6_update_16 : decode cX6_update 16 = .ok (.iconst 0, 1) := by decide +kernel
theorem dX6_update_17 : decode cX6_update 17 = .ok (.iaload, 1) := by decide +kernel
theorem dX6_update_18 : decode cX6_update 18 = .ok (.iconst 1, 1) := by decide +kernel
theorem dX6_update_19 : decode cX6_update 19 = .ok (.if_icmp .eq 16, 3) := by decide +kernel
theorem dX6_update_22 : decode cX6_update 22 = .ok (.aload_n 0, 1) := by decide +kernel
theorem dX6_update_23 : decode cX6_update 23 = .ok (.getfield 23, 3) := by decide +kernel
theorem dX6_update_26 : decode cX6_update 26 = .ok (.iconst 0, 1) := by decide +kernel
theorem dX6_update_27 : decode cX6_update 27 = .ok (.iaload, 1) := by decide +kernel
theorem dX6_update_28 : decode cX6_update 28 = .ok (.iconst 3, 1) := by decide +kernel
theorem dX6_update_29 : decode cX6_update 29 = .ok (.if_icmp .eq 6, 3) := by decide +kernel
theorem dX6_update_32 : decode cX6_update 32 = .ok (.bipush (-2), 2) := by decide +kernel
theorem dX6_update_34 : decode cX6_update 34 = .ok (.ireturn, 1) := by decide +kernel
theorem dX6_update_35 : decode cX6_update 35 = .ok (.aload_n 0, 1) := by decide +kernel
theorem dX6_update_36 : decode cX6_update 36 = .ok (.iconst 0, 1) := by decide +kernel
theorem dX6_update_37 : decode cX6_update 37 = .ok (.iconst 5, 1) := by decide +kernel
theorem dX6_update_38 : decode cX6_update 38 = .ok (.bipush 8, 2) := by decide +kernel
theorem dX6_update_40 : decode cX6_update 40 = .ok (.bipush 19, 2) := by decide +kernel
theorem dX6_update_42 : decode cX6_update 42 = .ok (.iconst 2, 1) := by decide +kernel
theorem dX6_update_43 : decode cX6_update 43 = .ok (.iload_n 1, 1) := by decide +kernel
theorem dX6_update_44 : decode cX6_update 44 = .ok (.invokevirtual 112, 3) := by decide +kernel
theorem dX6_update_47 : decode cX6_update 47 = .ok (.aload_n 0, 1) := by decide +kernel
theorem dX6_update_48 : decode cX6_update 48 = .ok (.iconst 0, 1) := by decide +kernel
theorem dX6_update_49 : decode cX6_update 49 = .ok (.iconst 2, 1) := by decide +kernel
theorem dX6_update_50 : decode cX6_update 50 = .ok (.aload_n 0, 1) := by decide +kernel
theorem dX6_update_51 : decode cX6_update 51 = .ok (.getfield 26, 3) := by decide +kernel
theorem dX6_update_54 : decode cX6_update 54 = .ok (.iconst 0, 1) := by decide +kernel
theorem dX6_update_55 : decode cX6_update 55 = .ok (.iaload, 1) := by decide +kernel
theorem dX6_update_56 : decode cX6_update 56 = .ok (.bipush 20, 2) := by decide +kernel
theorem dX6_update_58 : decode cX6_update 58 = .ok (.invokevirtual 83, 3) := by decide +kernel
theorem dX6_update_61 : decode cX6_update 61 = .ok (.iconst 1, 1) := by decide +kernel
theorem dX6_update_62 : decode cX6_update 62 = .ok (.ireturn, 1) := by decide +kernel
theorem dX6_dial_0 : decode cX6_dial 0 = .ok (.iload_n 2, 1) := by decide +kernel
theorem dX6_dial_1 : decode cX6_dial 1 = .ok (.iconst 1, 1) := by decide +kernel
theorem dX6_dial_2 : decode cX6_dial 2 = .ok (.if_icmp .lt 13, 3) := by decide +kernel
theorem dX6_dial_5 : decode cX6_dial 5 = .ok (.iload_n 2, 1) := by decide +kernel
theorem dX6_dial_6 : decode cX6_dial 6 = .ok (.bipush 8, 2) := by decide +kernel
theorem dX6_dial_8 : decode cX6_dial 8 = .ok (.if_icmp .gt 7, 3) := by decide +kernel
theorem dX6_dial_11 : decode cX6_dial 11 = .ok (.iload_n 1, 1) := by decide +kernel
theorem dX6_dial_12 : decode cX6_dial 12 = .ok (.ifCond .ge 5, 3) := by decide +kernel
theorem dX6_dial_15 : decode cX6_dial 15 = .ok (.iconst (-1), 1) := by decide +kernel
theorem dX6_dial_16 : decode cX6_dial 16 = .ok (.ireturn, 1) := by decide +kernel
theorem dX6_dial_17 : decode cX6_dial 17 = .ok (.aload_n 0, 1) := by decide +kernel
theorem dX6_dial_18 : decode cX6_dial 18 = .ok (.getfield 23, 3) := by decide +kernel
theorem dX6_dial_21 : decode cX6_dial 21 = .ok (.iconst 0, 1) := by decide +kernel
theorem dX6_dial_22 : decode cX6_dial 22 = .ok (.iaload, 1) := by decide +kernel
theorem dX6_dial_23 : decode cX6_dial 23 = .ok (.iconst 3, 1) := by decide +kernel
theorem dX6_dial_24 : decode cX6_dial 24 = .ok (.if_icmp .eq 6, 3) := by decide +kernel
theorem dX6_dial_27 : decode cX6_dial 27 = .ok (.bipush (-2), 2) := by decide +kernel
theorem dX6_dial_29 : decode cX6_dial 29 = .ok (.ireturn, 1) := by decide +kernel
theorem dX6_dial_30 : decode cX6_dial 30 = .ok (.aload_n 0, 1) := by decide +kernel
theorem dX6_dial_31 : decode cX6_dial 31 = .ok (.iload_n 2, 1) := by decide +kernel
theorem dX6_dial_32 : decode cX6_dial 32 = .ok (.putfield 119, 3) := by decide +kernel
theorem dX6_dial_35 : decode cX6_dial 35 = .ok (.iload_n 1, 1) := by decide +kernel
theorem dX6_dial_36 : decode cX6_dial 36 = .ok (.istore_n 3, 1) := by decide +kernel
theorem dX6_dial_37 : decode cX6_dial 37 = .ok (.iload_n 2, 1) := by decide +kernel
theorem dX6_dial_38 : decode cX6_dial 38 = .ok (.iconst 1, 1) := by decide +kernel
theorem dX6_dial_39 : decode cX6_dial 39 = .ok (.isub, 1) := by decide +kernel
theorem dX6_dial_40 : decode cX6_dial 40 = .ok (.istore 4, 2) := by decide +kernel
theorem dX6_dial_42 : decode cX6_dial 42 = .ok (.iload 4, 2) := by decide +kernel
theorem dX6_dial_44 : decode cX6_dial 44 = .ok (.ifCond .lt 25, 3) := by decide +kernel
theorem dX6_dial_47 : decode cX6_dial 47 = .ok (.aload_n 0, 1) := by decide +kernel
theorem dX6_dial_48 : decode cX6_dial 48 = .ok (.getfield 42, 3) := by decide +kernel
theorem dX6_dial_51 : decode cX6_dial 51 = .ok (.iload 4, 2) := by decide +kernel
theorem dX6_dial_53 : decode cX6_dial 53 = .ok (.iload_n 3, 1) := by decide +kernel
theorem dX6_dial_54 : decode cX6_dial 54 = .ok (.bipush 10, 2) := by decide +kernel
theorem dX6_dial_56 : decode cX6_dial 56 = .ok (.irem, 1) := by decide +kernel
theorem dX6_dial_57 : decode cX6_dial 57 = .ok (.iastore, 1) := by decide +kernel
theorem dX6_dial_58 : decode cX6_dial 58 = .ok (.iload_n 3, 1) := by decide +kernel
theorem dX6_dial_59 : decode cX6_dial 59 = .ok (.bipush 10, 2) := by decide +kernel
theorem dX6_dial_61 : decode cX6_dial 61 = .ok (.idiv, 1) := by decide +kernel
theorem dX6_dial_62 : decode cX6_dial 62 = .ok (.istore_n 3, 1) := by decide +kernel
theorem dX6_dial_63 : decode cX6_dial 63 = .ok (.iinc 4 (-1), 3) := by decide +kernel
theorem dX6_dial_66 : decode cX6_dial 66 = .ok (.goto (-24), 3) := by decide +kernel
theorem dX6_dial_69 : decode cX6_dial 69 = .ok (.aload_n 0, 1) := by decide +kernel
theorem dX6_dial_70 : decode cX6_dial 70 = .ok (.iconst 0, 1) := by decide +kernel
theorem dX6_dial_71 : decode cX6_dial 71 = .ok (.iconst 5, 1) := by decide +kernel
theorem dX6_dial_72 : decode cX6_dial 72 = .ok (.bipush 36, 2) := by decide +kernel
theorem dX6_dial_74 : decode cX6_dial 74 = .ok (.invokevirtual 64, 3) := by decide +kernel
theorem dX6_dial_77 : decode cX6_dial 77 = .ok (.istore 4, 2) := by decide +kernel
theorem dX6_dial_79 : decode cX6_dial 79 = .ok (.aload_n 0, 1) := by decide +kernel
theorem dX6_dial_80 : decode cX6_dial 80 = .ok (.iconst 0, 1) := by decide +kernel
theorem dX6_dial_81 : decode cX6_dial 81 = .ok (.iconst 4, 1) := by decide +kernel
theorem dX6_dial_82 : decode cX6_dial 82 = .ok (.aload_n 0, 1) := by decide +kernel
theorem dX6_dial_83 : decode cX6_dial 83 = .ok (.getfield 26, 3) := by decide +kernel
theorem dX6_dial_86 : decode cX6_dial 86 = .ok (.iconst 0, 1) := by decide +kernel
theorem dX6_dial_87 : decode cX6_dial 87 = .ok (.iaload, 1) := by decide +kernel
theorem dX6_dial_88 : decode cX6_dial 88 = .ok (.bipush 15, 2) := by decide +kernel
theorem dX6_dial_90 : decode cX6_dial 90 = .ok (.invokevirtual 83, 3) := by decide +kernel
theorem dX6_dial_93 : decode cX6_dial 93 = .ok (.iconst 1, 1) := by decide +kernel
theorem dX6_dial_94 : decode cX6_dial 94 = .ok (.ireturn, 1) := by decide +kernel
theorem dX6_end_0 : decode cX6_end 0 = .ok (.aload_n 0, 1) := by decide +kernel
theorem dX6_end_1 : decode cX6_end 1 = .ok (.aload_n 0, 1) := by decide +kernel
theorem dX6_end_2 : decode cX6_end 2 = .ok (.iload_n 1, 1) := by decide +kernel
theorem dX6_end_3 : decode cX6_end 3 = .ok (.invokevirtual 80, 3) := by decide +kernel
theorem dX6_end_6 : decode cX6_end 6 = .ok (.iconst 3, 1) := by decide +kernel
theorem dX6_end_7 : decode cX6_end 7 = .ok (.bipush 37, 2) := by decide +kernel
theorem dX6_end_9 : decode cX6_end 9 = .ok (.bipush 8, 2) := by decide +kernel
theorem dX6_end_11 : decode cX6_end 11 = .ok (.iconst 1, 1) := by decide +kernel
theorem dX6_end_12 : decode cX6_end 12 = .ok (.iload_n 2, 1) := by decide +kernel
theorem dX6_end_13 : decode cX6_end 13 = .ok (.invokevirtual 112, 3) := by decide +kernel
theorem dX6_end_16 : decode cX6_end 16 = .ok (.aload_n 0, 1) := by decide +kernel
theorem dX6_end_17 : decode cX6_end 17 = .ok (.iload_n 1, 1) := by decide +kernel
theorem dX6_end_18 : decode cX6_end 18 = .ok (.aload_n 0, 1) := by decide +kernel
theorem dX6_end_19 : decode cX6_end 19 = .ok (.getfield 23, 3) := by decide +kernel
theorem dX6_end_22 : decode cX6_end 22 = .ok (.iload_n 1, 1) := by decide +kernel
theorem dX6_end_23 : decode cX6_end 23 = .ok (.iaload, 1) := by decide +kernel
theorem dX6_end_24 : decode cX6_end 24 = .ok (.iconst 5, 1) := by decide +kernel
theorem dX6_end_25 : decode cX6_end 25 = .ok (.bipush 30, 2) := by decide +kernel
theorem dX6_end_27 : decode cX6_end 27 = .ok (.invokevirtual 83, 3) := by decide +kernel
theorem dX6_end_30 : decode cX6_end 30 = .ok (.return_, 1) := by decide +kernel
theorem dX6_hang_0 : decode cX6_hang 0 = .ok (.aload_n 0, 1) := by decide +kernel
theorem dX6_hang_1 : decode cX6_hang 1 = .ok (.iconst 0, 1) := by decide +kernel
theorem dX6_hang_2 : decode cX6_hang 2 = .ok (.iconst 1, 1) := by decide +kernel
theorem dX6_hang_3 : decode cX6_hang 3 = .ok (.iconst 4, 1) := by decide +kernel
theorem dX6_hang_4 : decode cX6_hang 4 = .ok (.invokevirtual 91, 3) := by decide +kernel
theorem dX6_hang_7 : decode cX6_hang 7 = .ok (.ifCond .ne 6, 3) := by decide +kernel
theorem dX6_hang_10 : decode cX6_hang 10 = .ok (.bipush (-2), 2) := by decide +kernel
theorem dX6_hang_12 : decode cX6_hang 12 = .ok (.ireturn, 1) := by decide +kernel
theorem dX6_hang_13 : decode cX6_hang 13 = .ok (.aload_n 0, 1) := by decide +kernel
theorem dX6_hang_14 : decode cX6_hang 14 = .ok (.iconst 0, 1) := by decide +kernel
theorem dX6_hang_15 : decode cX6_hang 15 = .ok (.bipush 16, 2) := by decide +kernel
theorem dX6_hang_17 : decode cX6_hang 17 = .ok (.invokevirtual 142, 3) := by decide +kernel
theorem dX6_hang_20 : decode cX6_hang 20 = .ok (.iconst 1, 1) := by decide +kernel
theorem dX6_hang_21 : decode cX6_hang 21 = .ok (.ireturn, 1) := by decide +kernel
theorem dX6_alert_0 : decode cX6_alert 0 = .ok (.aload_n 0, 1) := by decide +kernel
theorem dX6_alert_1 : decode cX6_alert 1 = .ok (.getfield 26, 3) := by decide +kernel
theorem dX6_alert_4 : decode cX6_alert 4 = .ok (.iconst 1, 1) := by decide +kernel
theorem dX6_alert_5 : decode cX6_alert 5 = .ok (.iaload, 1) := by decide +kernel
theorem dX6_alert_6 : decode cX6_alert 6 = .ok (.iconst 1, 1) := by decide +kernel
theorem dX6_alert_7 : decode cX6_alert 7 = .ok (.if_icmp .eq 6, 3) := by decide +kernel
theorem dX6_alert_10 : decode cX6_alert 10 = .ok (.bipush (-2), 2) := by decide +kernel
theorem dX6_alert_12 : decode cX6_alert 12 = .ok (.ireturn, 1) := by decide +kernel
theorem dX6_alert_13 : decode cX6_alert 13 = .ok (.aload_n 0, 1) := by decide +kernel
theorem dX6_alert_14 : decode cX6_alert 14 = .ok (.iconst 1, 1) := by decide +kernel
theorem dX6_alert_15 : decode cX6_alert 15 = .ok (.iconst 3, 1) := by decide +kernel
theorem dX6_alert_16 : decode cX6_alert 16 = .ok (.iconst 1, 1) := by decide +kernel
theorem dX6_alert_17 : decode cX6_alert 17 = .ok (.invokevirtual 64, 3) := by decide +kernel
theorem dX6_alert_20 : decode cX6_alert 20 = .ok (.istore_n 1, 1) := by decide +kernel
theorem dX6_alert_21 : decode cX6_alert 21 = .ok (.aload_n 0, 1) := by decide +kernel
theorem dX6_alert_22 : decode cX6_alert 22 = .ok (.iconst 1, 1) := by decide +kernel
theorem dX6_alert_23 : decode cX6_alert 23 = .ok (.aload_n 0, 1) := by decide +kernel
theorem dX6_alert_24 : decode cX6_alert 24 = .ok (.getfield 23, 3) := by decide +kernel
theorem dX6_alert_27 : decode cX6_alert 27 = .ok (.iconst 1, 1) := by decide +kernel
theorem dX6_alert_28 : decode cX6_alert 28 = .ok (.iaload, 1) := by decide +kernel
theorem dX6_alert_29 : decode cX6_alert 29 = .ok (.iconst 2, 1) := by decide +kernel
theorem dX6_alert_30 : decode cX6_alert 30 = .ok (.iconst 0, 1) := by decide +kernel
theorem dX6_alert_31 : decode cX6_alert 31 = .ok (.invokevirtual 83, 3) := by decide +kernel
theorem dX6_alert_34 : decode cX6_alert 34 = .ok (.iconst 1, 1) := by decide +kernel
theorem dX6_alert_35 : decode cX6_alert 35 = .ok (.ireturn, 1) := by decide +kernel
theorem dX6_answer_0 : decode cX6_answer 0 = .ok (.aload_n 0, 1) := by decide +kernel
theorem dX6_answer_1 : decode cX6_answer 1 = .ok (.iconst 1, 1) := by decide +kernel
theorem dX6_answer_2 : decode cX6_answer 2 = .ok (.iconst 1, 1) := by decide +kernel
theorem dX6_answer_3 : decode cX6_answer 3 = .ok (.iconst 2, 1) := by decide +kernel
theorem dX6_answer_4 : decode cX6_answer 4 = .ok (.invokevirtual 91, 3) := by decide +kernel
theorem dX6_answer_7 : decode cX6_answer 7 = .ok (.ifCond .ne 6, 3) := by decide +kernel
theorem dX6_answer_10 : decode cX6_answer 10 = .ok (.bipush (-2), 2) := by decide +kernel
theorem dX6_answer_12 : decode cX6_answer 12 = .ok (.ireturn, 1) := by decide +kernel
theorem dX6_answer_13 : decode cX6_answer 13 = .ok (.aload_n 0, 1) := by decide +kernel
theorem dX6_answer_14 : decode cX6_answer 14 = .ok (.iconst 1, 1) := by decide +kernel
theorem dX6_answer_15 : decode cX6_answer 15 = .ok (.iconst 3, 1) := by decide +kernel
theorem dX6_answer_16 : decode cX6_answer 16 = .ok (.bipush 7, 2) := by decide +kernel
theorem dX6_answer_18 : decode cX6_answer 18 = .ok (.invokevirtual 64, 3) := by decide +kernel
theorem dX6_answer_21 : decode cX6_answer 21 = .ok (.istore_n 1, 1) := by decide +kernel
theorem dX6_answer_22 : decode cX6_answer 22 = .ok (.aload_n 0, 1) := by decide +kernel
theorem dX6_answer_23 : decode cX6_answer 23 = .ok (.iconst 1, 1) := by decide +kernel
theorem dX6_answer_24 : decode cX6_answer 24 = .ok (.aload_n 0, 1) := by decide +kernel
theorem dX6_answer_25 : decode cX6_answer 25 = .ok (.getfield 23, 3) := by decide +kernel
theorem dX6_answer_28 : decode cX6_answer 28 = .ok (.iconst 1, 1) := by decide +kernel
theorem dX6_answer_29 : decode cX6_answer 29 = .ok (.iaload, 1) := by decide +kernel
theorem dX6_answer_30 : decode cX6_answer 30 = .ok (.iconst 3, 1) := by decide +kernel
theorem dX6_answer_31 : decode cX6_answer 31 = .ok (.bipush 10, 2) := by decide +kernel
theorem dX6_answer_33 : decode cX6_answer 33 = .ok (.invokevirtual 83, 3) := by decide +kernel
theorem dX6_answer_36 : decode cX6_answer 36 = .ok (.iconst 1, 1) := by decide +kernel
theorem dX6_answer_37 : decode cX6_answer 37 = .ok (.ireturn, 1) := by decide +kernel
theorem dX6_clear_0 : decode cX6_clear 0 = .ok (.iload_n 1, 1) := by decide +kernel
theorem dX6_clear_1 : decode cX6_clear 1 = .ok (.ifCond .lt 10, 3) := by decide +kernel
theorem dX6_clear_4 : decode cX6_clear 4 = .ok (.iload_n 1, 1) := by decide +kernel
theorem dX6_clear_5 : decode cX6_clear 5 = .ok (.sipush 255, 3) := by decide +kernel
theorem dX6_clear_8 : decode cX6_clear 8 = .ok (.if_icmp .le 5, 3) := by decide +kernel
theorem dX6_clear_11 : decode cX6_clear 11 = .ok (.iconst (-1), 1) := by decide +kernel
theorem dX6_clear_12 : decode cX6_clear 12 = .ok (.ireturn, 1) := by decide +kernel
theorem dX6_clear_13 : decode cX6_clear 13 = .ok (.aload_n 0, 1) := by decide +kernel
theorem dX6_clear_14 : decode cX6_clear 14 = .ok (.iconst 1, 1) := by decide +kernel
theorem dX6_clear_15 : decode cX6_clear 15 = .ok (.iconst 1, 1) := by decide +kernel
theorem dX6_clear_16 : decode cX6_clear 16 = .ok (.iconst 4, 1) := by decide +kernel
theorem dX6_clear_17 : decode cX6_clear 17 = .ok (.invokevirtual 91, 3) := by decide +kernel
theorem dX6_clear_20 : decode cX6_clear 20 = .ok (.ifCond .ne 6, 3) := by decide +kernel
theorem dX6_clear_23 : decode cX6_clear 23 = .ok (.bipush (-2), 2) := by decide +kernel
theorem dX6_clear_25 : decode cX6_clear 25 = .ok (.ireturn, 1) := by decide +kernel
theorem dX6_clear_26 : decode cX6_clear 26 = .ok (.aload_n 0, 1) := by decide +kernel
theorem dX6_clear_27 : decode cX6_clear 27 = .ok (.iconst 1, 1) := by decide +kernel
theorem dX6_clear_28 : decode cX6_clear 28 = .ok (.iload_n 1, 1) := by decide +kernel
theorem dX6_clear_29 : decode cX6_clear 29 = .ok (.invokevirtual 142, 3) := by decide +kernel
theorem dX6_clear_32 : decode cX6_clear 32 = .ok (.iconst 1, 1) := by decide +kernel
theorem dX6_clear_33 : decode cX6_clear 33 = .ok (.ireturn, 1) := by decide +kernel
theorem dX6_accept_0 : decode cX6_accept 0 = .ok (.aload_n 0, 1) := by decide +kernel
theorem dX6_accept_1 : decode cX6_accept 1 = .ok (.iload_n 1, 1) := by decide +kernel
theorem dX6_accept_2 : decode cX6_accept 2 = .ok (.putfield 7, 3) := by decide +kernel
theorem dX6_accept_5 : decode cX6_accept 5 = .ok (.iconst 1, 1) := by decide +kernel
theorem dX6_accept_6 : decode cX6_accept 6 = .ok (.ireturn, 1) := by decide +kernel
theorem dX6_radio_0 : decode cX6_radio 0 = .ok (.iload_n 1, 1) := by decide +kernel
theorem dX6_radio_1 : decode cX6_radio 1 = .ok (.aload_n 0, 1) := by decide +kernel
theorem dX6_radio_2 : decode cX6_radio 2 = .ok (.getfield 60, 3) := by decide +kernel
theorem dX6_radio_5 : decode cX6_radio 5 = .ok (.ifCond .ne 7, 3) := by decide +kernel
theorem dX6_radio_8 : decode cX6_radio 8 = .ok (.iconst 1, 1) := by decide +kernel
theorem dX6_radio_9 : decode cX6_radio 9 = .ok (.goto 4, 3) := by decide +kernel
theorem dX6_radio_12 : decode cX6_radio 12 = .ok (.iconst 0, 1) := by decide +kernel
theorem dX6_radio_13 : decode cX6_radio 13 = .ok (.if_icmp .ne 6, 3) := by decide +kernel
theorem dX6_radio_16 : decode cX6_radio 16 = .ok (.bipush (-2), 2) := by decide +kernel
theorem dX6_radio_18 : decode cX6_radio 18 = .ok (.ireturn, 1) := by decide +kernel
theorem dX6_radio_19 : decode cX6_radio 19 = .ok (.aload_n 0, 1) := by decide +kernel
theorem dX6_radio_20 : decode cX6_radio 20 = .ok (.iload_n 1, 1) := by decide +kernel
theorem dX6_radio_21 : decode cX6_radio 21 = .ok (.ifCond .ne 7, 3) := by decide +kernel
theorem dX6_radio_24 : decode cX6_radio 24 = .ok (.iconst 1, 1) := by decide +kernel
theorem dX6_radio_25 : decode cX6_radio 25 = .ok (.goto 4, 3) := by decide +kernel
theorem dX6_radio_28 : decode cX6_radio 28 = .ok (.iconst 0, 1) := by decide +kernel
theorem dX6_radio_29 : decode cX6_radio 29 = .ok (.putfield 60, 3) := by decide +kernel
theorem dX6_radio_32 : decode cX6_radio 32 = .ok (.iload_n 1, 1) := by decide +kernel
theorem dX6_radio_33 : decode cX6_radio 33 = .ok (.ifCond .ne 63, 3) := by decide +kernel
theorem dX6_radio_36 : decode cX6_radio 36 = .ok (.aload_n 0, 1) := by decide +kernel
theorem dX6_radio_37 : decode cX6_radio 37 = .ok (.getfield 13, 3) := by decide +kernel
theorem dX6_radio_40 : decode cX6_radio 40 = .ok (.iconst 0, 1) := by decide +kernel
theorem dX6_radio_41 : decode cX6_radio 41 = .ok (.iconst 0, 1) := by decide +kernel
theorem dX6_radio_42 : decode cX6_radio 42 = .ok (.iastore, 1) := by decide +kernel
theorem dX6_radio_43 : decode cX6_radio 43 = .ok (.aload_n 0, 1) := by decide +kernel
theorem dX6_radio_44 : decode cX6_radio 44 = .ok (.getfield 13, 3) := by decide +kernel
theorem dX6_radio_47 : decode cX6_radio 47 = .ok (.iconst 1, 1) := by decide +kernel
theorem dX6_radio_48 : decode cX6_radio 48 = .ok (.iconst 0, 1) := by decide +kernel
theorem dX6_radio_49 : decode cX6_radio 49 = .ok (.iastore, 1) := by decide +kernel
theorem dX6_radio_50 : decode cX6_radio 50 = .ok (.aload_n 0, 1) := by decide +kernel
theorem dX6_radio_51 : decode cX6_radio 51 = .ok (.getfield 23, 3) := by decide +kernel
theorem dX6_radio_54 : decode cX6_radio 54 = .ok (.iconst 0, 1) := by decide +kernel
theorem dX6_radio_55 : decode cX6_radio 55 = .ok (.iaload, 1) := by decide +kernel
theorem dX6_radio_56 : decode cX6_radio 56 = .ok (.istore_n 2, 1) := by decide +kernel
theorem dX6_radio_57 : decode cX6_radio 57 = .ok (.aload_n 0, 1) := by decide +kernel
theorem dX6_radio_58 : decode cX6_radio 58 = .ok (.iconst 0, 1) := by decide +kernel
theorem dX6_radio_59 : decode cX6_radio 59 = .ok (.iload_n 2, 1) := by decide +kernel
theorem dX6_radio_60 : decode cX6_radio 60 = .ok (.iconst 2, 1) := by decide +kernel
theorem dX6_radio_61 : decode cX6_radio 61 = .ok (.if_icmp .ne 7, 3) := by decide +kernel
theorem dX6_radio_64 : decode cX6_radio 64 = .ok (.iconst 1, 1) := by decide +kernel
theorem dX6_radio_65 : decode cX6_radio 65 = .ok (.goto 18, 3) := by decide +kernel
theorem dX6_radio_68 : decode cX6_radio 68 = .ok (.iload_n 2, 1) := by decide +kernel
theorem dX6_radio_69 : decode cX6_radio 69 = .ok (.iconst 4, 1) := by decide +kernel
theorem dX6_radio_70 : decode cX6_radio 70 = .ok (.if_icmp .eq 8, 3) := by decide +kernel
theorem dX6_radio_73 : decode cX6_radio 73 = .ok (.iload_n 2, 1) := by decide +kernel
theorem dX6_radio_74 : decode cX6_radio 74 = .ok (.iconst 5, 1) := by decide +kernel
theorem dX6_radio_75 : decode cX6_radio 75 = .ok (.if_icmp .ne 7, 3) := by decide +kernel
theorem dX6_radio_78 : decode cX6_radio 78 = .ok (.iconst 3, 1) := by decide +kernel
theorem dX6_radio_79 : decode cX6_radio 79 = .ok (.goto 4, 3) := by decide +kernel
theorem dX6_radio_82 : decode cX6_radio 82 = .ok (.iload_n 2, 1) := by decide +kernel
theorem dX6_radio_83 : decode cX6_radio 83 = .ok (.iconst 0, 1) := by decide +kernel
theorem dX6_radio_84 : decode cX6_radio 84 = .ok (.iconst 0, 1) := by decide +kernel
theorem dX6_radio_85 : decode cX6_radio 85 = .ok (.invokevirtual 83, 3) := by decide +kernel
theorem dX6_radio_88 : decode cX6_radio 88 = .ok (.aload_n 0, 1) := by decide +kernel
theorem dX6_radio_89 : decode cX6_radio 89 = .ok (.iconst 1, 1) := by decide +kernel
theorem dX6_radio_90 : decode cX6_radio 90 = .ok (.iconst 0, 1) := by decide +kernel
theorem dX6_radio_91 : decode cX6_radio 91 = .ok (.iconst 0, 1) := by decide +kernel
theorem dX6_radio_92 : decode cX6_radio 92 = .ok (.iconst 0, 1) := by decide +kernel
theorem dX6_radio_93 : decode cX6_radio 93 = .ok (.invokevirtual 83, 3) := by decide +kernel
theorem dX6_radio_96 : decode cX6_radio 96 = .ok (.iconst 1, 1) := by decide +kernel
theorem dX6_radio_97 : decode cX6_radio 97 = .ok (.ireturn, 1) := by decide +kernel
theorem dX6_isWay_0 : decode cX6_isWay 0 = .ok (.iload_n 0, 1) := by decide +kernel
theorem dX6_isWay_1 : decode cX6_isWay 1 = .ok (.ifCond .eq 8, 3) := by decide +kernel
theorem dX6_isWay_4 : decode cX6_isWay 4 = .ok (.iload_n 0, 1) := by decide +kernel
theorem dX6_isWay_5 : decode cX6_isWay 5 = .ok (.iconst 1, 1) := by decide +kernel
theorem dX6_isWay_6 : decode cX6_isWay 6 = .ok (.if_icmp .ne 7, 3) := by decide +kernel
theorem dX6_isWay_9 : decode cX6_isWay 9 = .ok (.iconst 1, 1) := by decide +kernel
theorem dX6_isWay_10 : decode cX6_isWay 10 = .ok (.goto 4, 3) := by decide +kernel
theorem dX6_isWay_13 : decode cX6_isWay 13 = .ok (.iconst 0, 1) := by decide +kernel
theorem dX6_isWay_14 : decode cX6_isWay 14 = .ok (.ireturn, 1) := by decide +kernel
theorem dX6_carry_0 : decode cX6_carry 0 = .ok (.iload_n 1, 1) := by decide +kernel
theorem dX6_carry_1 : decode cX6_carry 1 = .ok (.invokestatic 145, 3) := by decide +kernel
theorem dX6_carry_4 : decode cX6_carry 4 = .ok (.ifCond .ne 5, 3) := by decide +kernel
theorem dX6_carry_7 : decode cX6_carry 7 = .ok (.iconst (-1), 1) := by decide +kernel
theorem dX6_carry_8 : decode cX6_carry 8 = .ok (.ireturn, 1) := by decide +kernel
theorem dX6_carry_9 : decode cX6_carry 9 = .ok (.aload_n 0, 1) := by decide +kernel
theorem dX6_carry_10 : decode cX6_carry 10 = .ok (.getfield 13, 3) := by decide +kernel
theorem dX6_carry_13 : decode cX6_carry 13 = .ok (.iload_n 1, 1) := by decide +kernel
theorem dX6_carry_14 : decode cX6_carry 14 = .ok (.iaload, 1) := by decide +kernel
theorem dX6_carry_15 : decode cX6_carry 15 = .ok (.ifCond .ne 6, 3) := by decide +kernel
theorem dX6_carry_18 : decode cX6_carry 18 = .ok (.bipush (-3), 2) := by decide +kernel
theorem dX6_carry_20 : decode cX6_carry 20 = .ok (.ireturn, 1) := by decide +kernel
theorem dX6_carry_21 : decode cX6_carry 21 = .ok (.aload_n 0, 1) := by decide +kernel
theorem dX6_carry_22 : decode cX6_carry 22 = .ok (.iload_n 1, 1) := by decide +kernel
theorem dX6_carry_23 : decode cX6_carry 23 = .ok (.invokevirtual 149, 3) := by decide +kernel
theorem dX6_carry_26 : decode cX6_carry 26 = .ok (.aload_n 0, 1) := by decide +kernel
theorem dX6_carry_27 : decode cX6_carry 27 = .ok (.getfield 48, 3) := by decide +kernel
theorem dX6_carry_30 : decode cX6_carry 30 = .ok (.iconst 1, 1) := by decide +kernel
theorem dX6_carry_31 : decode cX6_carry 31 = .ok (.iaload, 1) := by decide +kernel
theorem dX6_carry_32 : decode cX6_carry 32 = .ok (.istore_n 2, 1) := by decide +kernel
theorem dX6_carry_33 : decode cX6_carry 33 = .ok (.aload_n 0, 1) := by decide +kernel
theorem dX6_carry_34 : decode cX6_carry 34 = .ok (.invokevirtual 152, 3) := by decide +kernel
theorem dX6_carry_37 : decode cX6_carry 37 = .ok (.ifCond .eq 78, 3) := by decide +kernel
theorem dX6_carry_40 : decode cX6_carry 40 = .ok (.aload_n 0, 1) := by decide +kernel
theorem dX6_carry_41 : decode cX6_carry 41 = .ok (.getfield 48, 3) := by decide +kernel
theorem dX6_carry_44 : decode cX6_carry 44 = .ok (.iconst 0, 1) := by decide +kernel
theorem dX6_carry_45 : decode cX6_carry 45 = .ok (.iaload, 1) := by decide +kernel
theorem dX6_carry_46 : decode cX6_carry 46 = .ok (.iconst 5, 1) := by decide +kernel
theorem dX6_carry_47 : decode cX6_carry 47 = .ok (.if_icmp .ne 30, 3) := by decide +kernel
theorem dX6_carry_50 : decode cX6_carry 50 = .ok (.iload_n 1, 1) := by decide +kernel
theorem dX6_carry_51 : decode cX6_carry 51 = .ok (.iconst 1, 1) := by decide +kernel
theorem dX6_carry_52 : decode cX6_carry 52 = .ok (.if_icmp .ne 14, 3) := by decide +kernel
theorem dX6_carry_55 : decode cX6_carry 55 = .ok (.aload_n 0, 1) := by decide +kernel
theorem dX6_carry_56 : decode cX6_carry 56 = .ok (.iload_n 2, 1) := by decide +kernel
theorem dX6_carry_57 : decode cX6_carry 57 = .ok (.invokevirtual 156, 3) := by decide +kernel
theorem dX6_carry_60 : decode cX6_carry 60 = .ok (.ifCond .eq 55, 3) := by decide +kernel
theorem dX6_carry_63 : decode cX6_carry 63 = .ok (.goto 48, 3) := by decide +kernel
theorem dX6_carry_66 : decode cX6_carry 66 = .ok (.aload_n 0, 1) := by decide +kernel
theorem dX6_carry_67 : decode cX6_carry 67 = .ok (.iload_n 2, 1) := by decide +kernel
theorem dX6_carry_68 : decode cX6_carry 68 = .ok (.invokevirtual 159, 3) := by decide +kernel
theorem dX6_carry_71 : decode cX6_carry 71 = .ok (.ifCond .eq 44, 3) := by decide +kernel
theorem dX6_carry_74 : decode cX6_carry 74 = .ok (.goto 37, 3) := by decide +kernel
theorem dX6_carry_77 : decode cX6_carry 77 = .ok (.aload_n 0, 1) := by decide +kernel
theorem dX6_carry_78 : decode cX6_carry 78 = .ok (.getfield 48, 3) := by decide +kernel
theorem dX6_carry_81 : decode cX6_carry 81 = .ok (.iconst 0, 1) := by decide +kernel
theorem dX6_carry_82 : decode cX6_carry 82 = .ok (.iaload, 1) := by decide +kernel
theorem dX6_carry_83 : decode cX6_carry 83 = .ok (.iconst 3, 1) := by decide +kernel
theorem dX6_carry_84 : decode cX6_carry 84 = .ok (.if_icmp .ne 31, 3) := by decide +kernel
theorem dX6_carry_87 : decode cX6_carry 87 = .ok (.iload_n 1, 1) := by decide +kernel
theorem dX6_carry_88 : decode cX6_carry 88 = .ok (.iconst 1, 1) := by decide +kernel
theorem dX6_carry_89 : decode cX6_carry 89 = .ok (.if_icmp .ne 14, 3) := by decide +kernel
theorem dX6_carry_92 : decode cX6_carry 92 = .ok (.aload_n 0, 1) := by decide +kernel
theorem dX6_carry_93 : decode cX6_carry 93 = .ok (.iload_n 2, 1) := by decide +kernel
theorem dX6_carry_94 : decode cX6_carry 94 = .ok (.invokevirtual 162, 3) := by decide +kernel
theorem dX6_carry_97 : decode cX6_carry 97 = .ok (.ifCond .eq 18, 3) := by decide +kernel
theorem dX6_carry_100 : decode cX6_carry 100 = .ok (.goto 11, 3) := by decide +kernel
theorem dX6_carry_103 : decode cX6_carry 103 = .ok (.aload_n 0, 1) := by decide +kernel
theorem dX6_carry_104 : decode cX6_carry 104 = .ok (.iload_n 2, 1) := by decide +kernel
theorem dX6_carry_105 : decode cX6_carry 105 = .ok (.invokevirtual 165, 3) := by decide +kernel
theorem dX6_carry_108 : decode cX6_carry 108 = .ok (.ifCond .eq 7, 3) := by decide +kernel
theorem dX6_carry_111 : decode cX6_carry 111 = .ok (.iconst 1, 1) := by decide +kernel
theorem dX6_carry_112 : decode cX6_carry 112 = .ok (.goto 4, 3) := by decide +kernel
theorem dX6_carry_115 : decode cX6_carry 115 = .ok (.iconst 0, 1) := by decide +kernel
theorem dX6_carry_116 : decode cX6_carry 116 = .ok (.istore_n 3, 1) := by decide +kernel
theorem dX6_carry_117 : decode cX6_carry 117 = .ok (.aload_n 0, 1) := by decide +kernel
theorem dX6_carry_118 : decode cX6_carry 118 = .ok (.iload_n 3, 1) := by decide +kernel
theorem dX6_carry_119 : decode cX6_carry 119 = .ok (.ifCond .eq 10, 3) := by decide +kernel
theorem dX6_carry_122 : decode cX6_carry 122 = .ok (.aload_n 0, 1) := by decide +kernel
theorem dX6_carry_123 : decode cX6_carry 123 = .ok (.getfield 168, 3) := by decide +kernel
theorem dX6_carry_126 : decode cX6_carry 126 = .ok (.goto 9, 3) := by decide +kernel
theorem dX6_carry_129 : decode cX6_carry 129 = .ok (.aload_n 0, 1) := by decide +kernel
theorem dX6_carry_130 : decode cX6_carry 130 = .ok (.getfield 168, 3) := by decide +kernel
theorem dX6_carry_133 : decode cX6_carry 133 = .ok (.iconst 1, 1) := by decide +kernel
theorem dX6_carry_134 : decode cX6_carry 134 = .ok (.iadd, 1) := by decide +kernel
theorem dX6_carry_135 : decode cX6_carry 135 = .ok (.putfield 168, 3) := by decide +kernel
theorem dX6_carry_138 : decode cX6_carry 138 = .ok (.iload_n 3, 1) := by decide +kernel
theorem dX6_carry_139 : decode cX6_carry 139 = .ok (.ifCond .eq 7, 3) := by decide +kernel
theorem dX6_carry_142 : decode cX6_carry 142 = .ok (.iload_n 2, 1) := by decide +kernel
theorem dX6_carry_143 : decode cX6_carry 143 = .ok (.goto 8, 3) := by decide +kernel
theorem dX6_carry_146 : decode cX6_carry 146 = .ok (.iload_n 2, 1) := by decide +kernel
theorem dX6_carry_147 : decode cX6_carry 147 = .ok (.sipush 1000, 3) := by decide +kernel
theorem dX6_carry_150 : decode cX6_carry 150 = .ok (.iadd, 1) := by decide +kernel
theorem dX6_carry_151 : decode cX6_carry 151 = .ok (.ireturn, 1) := by decide +kernel
theorem dX6_lose_0 : decode cX6_lose 0 = .ok (.iload_n 1, 1) := by decide +kernel
theorem dX6_lose_1 : decode cX6_lose 1 = .ok (.invokestatic 145, 3) := by decide +kernel
theorem dX6_lose_4 : decode cX6_lose 4 = .ok (.ifCond .ne 5, 3) := by decide +kernel
theorem dX6_lose_7 : decode cX6_lose 7 = .ok (.iconst (-1), 1) := by decide +kernel
theorem dX6_lose_8 : decode cX6_lose 8 = .ok (.ireturn, 1) := by decide +kernel
theorem dX6_lose_9 : decode cX6_lose 9 = .ok (.aload_n 0, 1) := by decide +kernel
theorem dX6_lose_10 : decode cX6_lose 10 = .ok (.getfield 13, 3) := by decide +kernel
theorem dX6_lose_13 : decode cX6_lose 13 = .ok (.iload_n 1, 1) := by decide +kernel
theorem dX6_lose_14 : decode cX6_lose 14 = .ok (.iaload, 1) := by decide +kernel
theorem dX6_lose_15 : decode cX6_lose 15 = .ok (.ifCond .ne 6, 3) := by decide +kernel
theorem dX6_lose_18 : decode cX6_lose 18 = .ok (.bipush (-3), 2) := by decide +kernel
theorem dX6_lose_20 : decode cX6_lose 20 = .ok (.ireturn, 1) := by decide +kernel
theorem dX6_lose_21 : decode cX6_lose 21 = .ok (.aload_n 0, 1) := by decide +kernel
theorem dX6_lose_22 : decode cX6_lose 22 = .ok (.iload_n 1, 1) := by decide +kernel
theorem dX6_lose_23 : decode cX6_lose 23 = .ok (.invokevirtual 149, 3) := by decide +kernel
theorem dX6_lose_26 : decode cX6_lose 26 = .ok (.aload_n 0, 1) := by decide +kernel
theorem dX6_lose_27 : decode cX6_lose 27 = .ok (.getfield 48, 3) := by decide +kernel
theorem dX6_lose_30 : decode cX6_lose 30 = .ok (.iconst 1, 1) := by decide +kernel
theorem dX6_lose_31 : decode cX6_lose 31 = .ok (.iaload, 1) := by decide +kernel
theorem dX6_lose_32 : decode cX6_lose 32 = .ok (.ireturn, 1) := by decide +kernel
theorem dX6_spoil_0 : decode cX6_spoil 0 = .ok (.iload_n 1, 1) := by decide +kernel
theorem dX6_spoil_1 : decode cX6_spoil 1 = .ok (.invokestatic 145, 3) := by decide +kernel
theorem dX6_spoil_4 : decode cX6_spoil 4 = .ok (.ifCond .eq 14, 3) := by decide +kernel
theorem dX6_spoil_7 : decode cX6_spoil 7 = .ok (.iload_n 3, 1) := by decide +kernel
theorem dX6_spoil_8 : decode cX6_spoil 8 = .ok (.ifCond .lt 10, 3) := by decide +kernel
theorem dX6_spoil_11 : decode cX6_spoil 11 = .ok (.iload_n 3, 1) := by decide +kernel
theorem dX6_spoil_12 : decode cX6_spoil 12 = .ok (.sipush 255, 3) := by decide +kernel
theorem dX6_spoil_15 : decode cX6_spoil 15 = .ok (.if_icmp .le 5, 3) := by decide +kernel
theorem dX6_spoil_18 : decode cX6_spoil 18 = .ok (.iconst (-1), 1) := by decide +kernel
theorem dX6_spoil_19 : decode cX6_spoil 19 = .ok (.ireturn, 1) := by decide +kernel
theorem dX6_spoil_20 : decode cX6_spoil 20 = .ok (.aload_n 0, 1) := by decide +kernel
theorem dX6_spoil_21 : decode cX6_spoil 21 = .ok (.getfield 13, 3) := by decide +kernel
theorem dX6_spoil_24 : decode cX6_spoil 24 = .ok (.iload_n 1, 1) := by decide +kernel
theorem dX6_spoil_25 : decode cX6_spoil 25 = .ok (.iaload, 1) := by decide +kernel
theorem dX6_spoil_26 : decode cX6_spoil 26 = .ok (.ifCond .eq 20, 3) := by decide +kernel
theorem dX6_spoil_29 : decode cX6_spoil 29 = .ok (.iload_n 2, 1) := by decide +kernel
theorem dX6_spoil_30 : decode cX6_spoil 30 = .ok (.ifCond .lt 16, 3) := by decide +kernel
theorem dX6_spoil_33 : decode cX6_spoil 33 = .ok (.iload_n 2, 1) := by decide +kernel
theorem dX6_spoil_34 : decode cX6_spoil 34 = .ok (.aload_n 0, 1) := by decide +kernel
theorem dX6_spoil_35 : decode cX6_spoil 35 = .ok (.getfield 17, 3) := by decide +kernel
theorem dX6_spoil_38 : decode cX6_spoil 38 = .ok (.bipush 8, 2) := by decide +kernel
theorem dX6_spoil_40 : decode cX6_spoil 40 = .ok (.iload_n 1, 1) := by decide +kernel
theorem dX6_spoil_41 : decode cX6_spoil 41 = .ok (.imul, 1) := by decide +kernel
theorem dX6_spoil_42 : decode cX6_spoil 42 = .ok (.iaload, 1) := by decide +kernel
theorem dX6_spoil_43 : decode cX6_spoil 43 = .ok (.if_icmp .lt 6, 3) := by decide +kernel
theorem dX6_spoil_46 : decode cX6_spoil 46 = .ok (.bipush (-3), 2) := by decide +kernel
theorem dX6_spoil_48 : decode cX6_spoil 48 = .ok (.ireturn, 1) := by decide +kernel
theorem dX6_spoil_49 : decode cX6_spoil 49 = .ok (.sipush 192, 3) := by decide +kernel
theorem dX6_spoil_52 : decode cX6_spoil 52 = .ok (.iload_n 1, 1) := by decide +kernel
theorem dX6_spoil_53 : decode cX6_spoil 53 = .ok (.imul, 1) := by decide +kernel
theorem dX6_spoil_54 : decode cX6_spoil 54 = .ok (.iload_n 2, 1) := by decide +kernel
theorem dX6_spoil_55 : decode cX6_spoil 55 = .ok (.iadd, 1) := by decide +kernel
theorem dX6_spoil_56 : decode cX6_spoil 56 = .ok (.istore 4, 2) := by decide +kernel
theorem dX6_spoil_58 : decode cX6_spoil 58 = .ok (.aload_n 0, 1) := by decide +kernel
theorem dX6_spoil_59 : decode cX6_spoil 59 = .ok (.getfield 20, 3) := by decide +kernel
theorem dX6_spoil_62 : decode cX6_spoil 62 = .ok (.iload 4, 2) := by decide +kernel
theorem dX6_spoil_64 : decode cX6_spoil 64 = .ok (.aload_n 0, 1) := by decide +kernel
theorem dX6_spoil_65 : decode cX6_spoil 65 = .ok (.getfield 20, 3) := by decide +kernel
theorem dX6_spoil_68 : decode cX6_spoil 68 = .ok (.iload 4, 2) := by decide +kernel
theorem dX6_spoil_70 : decode cX6_spoil 70 = .ok (.iaload, 1) := by decide +kernel
theorem dX6_spoil_71 : decode cX6_spoil 71 = .ok (.iload_n 3, 1) := by decide +kernel
theorem dX6_spoil_72 : decode cX6_spoil 72 = .ok (.ixor, 1) := by decide +kernel
theorem dX6_spoil_73 : decode cX6_spoil 73 = .ok (.iastore, 1) := by decide +kernel
theorem dX6_spoil_74 : decode cX6_spoil 74 = .ok (.aload_n 0, 1) := by decide +kernel
theorem dX6_spoil_75 : decode cX6_spoil 75 = .ok (.getfield 20, 3) := by decide +kernel
theorem dX6_spoil_78 : decode cX6_spoil 78 = .ok (.iload 4, 2) := by decide +kernel
theorem dX6_spoil_80 : decode cX6_spoil 80 = .ok (.iaload, 1) := by decide +kernel
theorem dX6_spoil_81 : decode cX6_spoil 81 = .ok (.ireturn, 1) := by decide +kernel
theorem dX6_forge_0 : decode cX6_forge 0 = .ok (.iload_n 1, 1) := by decide +kernel
theorem dX6_forge_1 : decode cX6_forge 1 = .ok (.invokestatic 145, 3) := by decide +kernel
theorem dX6_forge_4 : decode cX6_forge 4 = .ok (.ifCond .eq 16, 3) := by decide +kernel
theorem dX6_forge_7 : decode cX6_forge 7 = .ok (.iload 4, 2) := by decide +kernel
theorem dX6_forge_9 : decode cX6_forge 9 = .ok (.iconst 2, 1) := by decide +kernel
theorem dX6_forge_10 : decode cX6_forge 10 = .ok (.if_icmp .lt 10, 3) := by decide +kernel
theorem dX6_forge_13 : decode cX6_forge 13 = .ok (.iload 4, 2) := by decide +kernel
theorem dX6_forge_15 : decode cX6_forge 15 = .ok (.bipush 8, 2) := by decide +kernel
theorem dX6_forge_17 : decode cX6_forge 17 = .ok (.if_icmp .le 5, 3) := by decide +kernel
theorem dX6_forge_20 : decode cX6_forge 20 = .ok (.iconst (-1), 1) := by decide +kernel
theorem dX6_forge_21 : decode cX6_forge 21 = .ok (.ireturn, 1) := by decide +kernel
theorem dX6_forge_22 : decode cX6_forge 22 = .ok (.aload_n 0, 1) := by decide +kernel
theorem dX6_forge_23 : decode cX6_forge 23 = .ok (.getfield 60, 3) := by decide +kernel
theorem dX6_forge_26 : decode cX6_forge 26 = .ok (.ifCond .ne 14, 3) := by decide +kernel
theorem dX6_forge_29 : decode cX6_forge 29 = .ok (.aload_n 0, 1) := by decide +kernel
theorem dX6_forge_30 : decode cX6_forge 30 = .ok (.getfield 13, 3) := by decide +kernel
theorem dX6_forge_33 : decode cX6_forge 33 = .ok (.iload_n 1, 1) := by decide +kernel
theorem dX6_forge_34 : decode cX6_forge 34 = .ok (.iaload, 1) := by decide +kernel
theorem dX6_forge_35 : decode cX6_forge 35 = .ok (.bipush 8, 2) := by decide +kernel
theorem dX6_forge_37 : decode cX6_forge 37 = .ok (.if_icmp .ne 6, 3) := by decide +kernel
theorem dX6_forge_40 : decode cX6_forge 40 = .ok (.bipush (-2), 2) := by decide +kernel
theorem dX6_forge_42 : decode cX6_forge 42 = .ok (.ireturn, 1) := by decide +kernel
theorem dX6_forge_43 : decode cX6_forge 43 = .ok (.aload_n 0, 1) := by decide +kernel
theorem dX6_forge_44 : decode cX6_forge 44 = .ok (.iload_n 1, 1) := by decide +kernel
theorem dX6_forge_45 : decode cX6_forge 45 = .ok (.lload_n 2, 1) := by decide +kernel
theorem dX6_forge_46 : decode cX6_forge 46 = .ok (.bipush 8, 2) := by decide +kernel
theorem dX6_forge_48 : decode cX6_forge 48 = .ok (.iload 4, 2) := by decide +kernel
theorem dX6_forge_50 : decode cX6_forge 50 = .ok (.iconst 1, 1) := by decide +kernel
theorem dX6_forge_51 : decode cX6_forge 51 = .ok (.isub, 1) := by decide +kernel
theorem dX6_forge_52 : decode cX6_forge 52 = .ok (.imul, 1) := by decide +kernel
theorem dX6_forge_53 : decode cX6_forge 53 = .ok (.lshr, 1) := by decide +kernel
theorem dX6_forge_54 : decode cX6_forge 54 = .ok (.ldc2_w 171, 3) := by decide +kernel
theorem dX6_forge_57 : decode cX6_forge 57 = .ok (.land, 1) := by decide +kernel
theorem dX6_forge_58 : decode cX6_forge 58 = .ok (.l2i, 1) := by decide +kernel
theorem dX6_forge_59 : decode cX6_forge 59 = .ok (.lload_n 2, 1) := by decide +kernel
theorem dX6_forge_60 : decode cX6_forge 60 = .ok (.bipush 8, 2) := by decide +kernel
theorem dX6_forge_62 : decode cX6_forge 62 = .ok (.iload 4, 2) := by decide +kernel
theorem dX6_forge_64 : decode cX6_forge 64 = .ok (.iconst 2, 1) := by decide +kernel
theorem dX6_forge_65 : decode cX6_forge 65 = .ok (.isub, 1) := by decide +kernel
theorem dX6_forge_66 : decode cX6_forge 66 = .ok (.imul, 1) := by decide +kernel
theorem dX6_forge_67 : decode cX6_forge 67 = .ok (.lshr, 1) := by decide +kernel
theorem dX6_forge_68 : decode cX6_forge 68 = .ok (.ldc2_w 171, 3) := by decide +kernel
theorem dX6_forge_71 : decode cX6_forge 71 = .ok (.land, 1) := by decide +kernel
theorem dX6_forge_72 : decode cX6_forge 72 = .ok (.l2i, 1) := by decide +kernel
theorem dX6_forge_73 : decode cX6_forge 73 = .ok (.invokevirtual 64, 3) := by decide +kernel
theorem dX6_forge_76 : decode cX6_forge 76 = .ok (.istore 5, 2) := by decide +kernel
theorem dX6_forge_78 : decode cX6_forge 78 = .ok (.iload 4, 2) := by decide +kernel
theorem dX6_forge_80 : decode cX6_forge 80 = .ok (.iconst 3, 1) := by decide +kernel
theorem dX6_forge_81 : decode cX6_forge 81 = .ok (.isub, 1) := by decide +kernel
theorem dX6_forge_82 : decode cX6_forge 82 = .ok (.istore 6, 2) := by decide +kernel
theorem dX6_forge_84 : decode cX6_forge 84 = .ok (.iload 6, 2) := by decide +kernel
theorem dX6_forge_86 : decode cX6_forge 86 = .ok (.ifCond .lt 27, 3) := by decide +kernel
theorem dX6_forge_89 : decode cX6_forge 89 = .ok (.aload_n 0, 1) := by decide +kernel
theorem dX6_forge_90 : decode cX6_forge 90 = .ok (.iload 5, 2) := by decide +kernel
theorem dX6_forge_92 : decode cX6_forge 92 = .ok (.lload_n 2, 1) := by decide +kernel
theorem dX6_forge_93 : decode cX6_forge 93 = .ok (.bipush 8, 2) := by decide +kernel
theorem dX6_forge_95 : decode cX6_forge 95 = .ok (.iload 6, 2) := by decide +kernel
theorem dX6_forge_97 : decode cX6_forge 97 = .ok (.imul, 1) := by decide +kernel
theorem dX6_forge_98 : decode cX6_forge 98 = .ok (.lshr, 1) := by decide +kernel
theorem dX6_forge_99 : decode cX6_forge 99 = .ok (.ldc2_w 171, 3) := by decide +kernel
theorem dX6_forge_102 : decode cX6_forge 102 = .ok (.land, 1) := by decide +kernel
theorem dX6_forge_103 : decode cX6_forge 103 = .ok (.l2i, 1) := by decide +kernel
theorem dX6_forge_104 : decode cX6_forge 104 = .ok (.invokevirtual 68, 3) := by decide +kernel
theorem dX6_forge_107 : decode cX6_forge 107 = .ok (.iinc 6 (-1), 3) := by decide +kernel
theorem dX6_forge_110 : decode cX6_forge 110 = .ok (.goto (-26), 3) := by decide +kernel
theorem dX6_forge_113 : decode cX6_forge 113 = .ok (.aload_n 0, 1) := by decide +kernel
theorem dX6_forge_114 : decode cX6_forge 114 = .ok (.getfield 13, 3) := by decide +kernel
theorem dX6_forge_117 : decode cX6_forge 117 = .ok (.iload_n 1, 1) := by decide +kernel
theorem dX6_forge_118 : decode cX6_forge 118 = .ok (.iaload, 1) := by decide +kernel
theorem dX6_forge_119 : decode cX6_forge 119 = .ok (.ireturn, 1) := by decide +kernel
theorem dX6_told_0 : decode cX6_told 0 = .ok (.iload_n 1, 1) := by decide +kernel
theorem dX6_told_1 : decode cX6_told 1 = .ok (.tableswitch 169 0 13 #[71, 78, 85, 92, 97, 104, 111, 118, 123, 130, 137, 142, 155, 162], 71) := by decide +kernel
theorem dX6_told_72 : decode cX6_told 72 = .ok (.aload_n 0, 1) := by decide +kernel
theorem dX6_told_73 : decode cX6_told 73 = .ok (.getfield 23, 3) := by decide +kernel
theorem dX6_told_76 : decode cX6_told 76 = .ok (.iconst 0, 1) := by decide +kernel
theorem dX6_told_77 : decode cX6_told 77 = .ok (.iaload, 1) := by decide +kernel
theorem dX6_told_78 : decode cX6_told 78 = .ok (.ireturn, 1) := by decide +kernel
theorem dX6_told_79 : decode cX6_told 79 = .ok (.aload_n 0, 1) := by decide +kernel
theorem dX6_told_80 : decode cX6_told 80 = .ok (.getfield 26, 3) := by decide +kernel
theorem dX6_told_83 : decode cX6_told 83 = .ok (.iconst 0, 1) := by decide +kernel
theorem dX6_told_84 : decode cX6_told 84 = .ok (.iaload, 1) := by decide +kernel
theorem dX6_told_85 : decode cX6_told 85 = .ok (.ireturn, 1) := by decide +kernel
theorem dX6_told_86 : decode cX6_told 86 = .ok (.aload_n 0, 1) := by decide +kernel
theorem dX6_told_87 : decode cX6_told 87 = .ok (.getfield 29, 3) := by decide +kernel
theorem dX6_told_90 : decode cX6_told 90 = .ok (.iconst 0, 1) := by decide +kernel
theorem dX6_told_91 : decode cX6_told 91 = .ok (.iaload, 1) := by decide +kernel
theorem dX6_told_92 : decode cX6_told 92 = .ok (.ireturn, 1) := by decide +kernel
theorem dX6_told_93 : decode cX6_told 93 = .ok (.aload_n 0, 1) := by decide +kernel
theorem dX6_told_94 : decode cX6_told 94 = .ok (.getfield 105, 3) := by decide +kernel
theorem dX6_told_97 : decode cX6_told 97 = .ok (.ireturn, 1) := by decide +kernel
theorem dX6_told_98 : decode cX6_told 98 = .ok (.aload_n 0, 1) := by decide +kernel
theorem dX6_told_99 : decode cX6_told 99 = .ok (.getfield 23, 3) := by decide +kernel
theorem dX6_told_102 : decode cX6_told 102 = .ok (.iconst 1, 1) := by decide +kernel
theorem dX6_told_103 : decode cX6_told 103 = .ok (.iaload, 1) := by decide +kernel
theorem dX6_told_104 : decode cX6_told 104 = .ok (.ireturn, 1) := by decide +kernel
theorem dX6_told_105 : decode cX6_told 105 = .ok (.aload_n 0, 1) := by decide +kernel
theorem dX6_told_106 : decode cX6_told 106 = .ok (.getfield 26, 3) := by decide +kernel
theorem dX6_told_109 : decode cX6_told 109 = .ok (.iconst 1, 1) := by decide +kernel
theorem dX6_told_110 : decode cX6_told 110 = .ok (.iaload, 1) := by decide +kernel
theorem dX6_told_111 : decode cX6_told 111 = .ok (.ireturn, 1) := by decide +kernel
theorem dX6_told_112 : decode cX6_told 112 = .ok (.aload_n 0, 1) := by decide +kernel
theorem dX6_told_113 : decode cX6_told 113 = .ok (.getfield 29, 3) := by decide +kernel
theorem dX6_told_116 : decode cX6_told 116 = .ok (.iconst 1, 1) := by decide +kernel
theorem dX6_told_117 : decode cX6_told 117 = .ok (.iaload, 1) := by decide +kernel
theorem dX6_told_118 : decode cX6_told 118 = .ok (.ireturn, 1) := by decide +kernel
theorem dX6_told_119 : decode cX6_told 119 = .ok (.aload_n 0, 1) := by decide +kernel
theorem dX6_told_120 : decode cX6_told 120 = .ok (.getfield 39, 3) := by decide +kernel
theorem dX6_told_123 : decode cX6_told 123 = .ok (.ireturn, 1) := by decide +kernel
theorem dX6_told_124 : decode cX6_told 124 = .ok (.aload_n 0, 1) := by decide +kernel
theorem dX6_told_125 : decode cX6_told 125 = .ok (.getfield 13, 3) := by decide +kernel
theorem dX6_told_128 : decode cX6_told 128 = .ok (.iconst 0, 1) := by decide +kernel
theorem dX6_told_129 : decode cX6_told 129 = .ok (.iaload, 1) := by decide +kernel
theorem dX6_told_130 : decode cX6_told 130 = .ok (.ireturn, 1) := by decide +kernel
theorem dX6_told_131 : decode cX6_told 131 = .ok (.aload_n 0, 1) := by decide +kernel
theorem dX6_told_132 : decode cX6_told 132 = .ok (.getfield 13, 3) := by decide +kernel
theorem dX6_told_135 : decode cX6_told 135 = .ok (.iconst 1, 1) := by decide +kernel
theorem dX6_told_136 : decode cX6_told 136 = .ok (.iaload, 1) := by decide +kernel
theorem dX6_told_137 : decode cX6_told 137 = .ok (.ireturn, 1) := by decide +kernel
theorem dX6_told_138 : decode cX6_told 138 = .ok (.aload_n 0, 1) := by decide +kernel
theorem dX6_told_139 : decode cX6_told 139 = .ok (.getfield 168, 3) := by decide +kernel
theorem dX6_told_142 : decode cX6_told 142 = .ok (.ireturn, 1) := by decide +kernel
theorem dX6_told_143 : decode cX6_told 143 = .ok (.aload_n 0, 1) := by decide +kernel
theorem dX6_told_144 : decode cX6_told 144 = .ok (.getfield 60, 3) := by decide +kernel
theorem dX6_told_147 : decode cX6_told 147 = .ok (.ifCond .eq 7, 3) := by decide +kernel
theorem dX6_told_150 : decode cX6_told 150 = .ok (.iconst 0, 1) := by decide +kernel
theorem dX6_told_151 : decode cX6_told 151 = .ok (.goto 4, 3) := by decide +kernel
theorem dX6_told_154 : decode cX6_told 154 = .ok (.iconst 1, 1) := by decide +kernel
theorem dX6_told_155 : decode cX6_told 155 = .ok (.ireturn, 1) := by decide +kernel
theorem dX6_told_156 : decode cX6_told 156 = .ok (.aload_n 0, 1) := by decide +kernel
theorem dX6_told_157 : decode cX6_told 157 = .ok (.getfield 36, 3) := by decide +kernel
theorem dX6_told_160 : decode cX6_told 160 = .ok (.iconst 0, 1) := by decide +kernel
theorem dX6_told_161 : decode cX6_told 161 = .ok (.iaload, 1) := by decide +kernel
theorem dX6_told_162 : decode cX6_told 162 = .ok (.ireturn, 1) := by decide +kernel
theorem dX6_told_163 : decode cX6_told 163 = .ok (.aload_n 0, 1) := by decide +kernel
theorem dX6_told_164 : decode cX6_told 164 = .ok (.getfield 36, 3) := by decide +kernel
theorem dX6_told_167 : decode cX6_told 167 = .ok (.iconst 1, 1) := by decide +kernel
theorem dX6_told_168 : decode cX6_told 168 = .ok (.iaload, 1) := by decide +kernel
theorem dX6_told_169 : decode cX6_told 169 = .ok (.ireturn, 1) := by decide +kernel
theorem dX6_told_170 : decode cX6_told 170 = .ok (.iconst (-1), 1) := by decide +kernel
theorem dX6_told_171 : decode cX6_told 171 = .ok (.ireturn, 1) := by decide +kernel
theorem dX6_byteOf_0 : decode cX6_byteOf 0 = .ok (.iload_n 1, 1) := by decide +kernel
theorem dX6_byteOf_1 : decode cX6_byteOf 1 = .ok (.invokestatic 145, 3) := by decide +kernel
theorem dX6_byteOf_4 : decode cX6_byteOf 4 = .ok (.ifCond .eq 17, 3) := by decide +kernel
theorem dX6_byteOf_7 : decode cX6_byteOf 7 = .ok (.iload_n 2, 1) := by decide +kernel
theorem dX6_byteOf_8 : decode cX6_byteOf 8 = .ok (.ifCond .lt 13, 3) := by decide +kernel
theorem dX6_byteOf_11 : decode cX6_byteOf 11 = .ok (.iload_n 2, 1) := by decide +kernel
theorem dX6_byteOf_12 : decode cX6_byteOf 12 = .ok (.aload_n 0, 1) := by decide +kernel
theorem dX6_byteOf_13 : decode cX6_byteOf 13 = .ok (.getfield 13, 3) := by decide +kernel
theorem dX6_byteOf_16 : decode cX6_byteOf 16 = .ok (.iload_n 1, 1) := by decide +kernel
theorem dX6_byteOf_17 : decode cX6_byteOf 17 = .ok (.iaload, 1) := by decide +kernel
theorem dX6_byteOf_18 : decode cX6_byteOf 18 = .ok (.if_icmp .lt 6, 3) := by decide +kernel
theorem dX6_byteOf_21 : decode cX6_byteOf 21 = .ok (.bipush (-3), 2) := by decide +kernel
theorem dX6_byteOf_23 : decode cX6_byteOf 23 = .ok (.ireturn, 1) := by decide +kernel
theorem dX6_byteOf_24 : decode cX6_byteOf 24 = .ok (.bipush 8, 2) := by decide +kernel
theorem dX6_byteOf_26 : decode cX6_byteOf 26 = .ok (.iload_n 1, 1) := by decide +kernel
theorem dX6_byteOf_27 : decode cX6_byteOf 27 = .ok (.imul, 1) := by decide +kernel
theorem dX6_byteOf_28 : decode cX6_byteOf 28 = .ok (.iload_n 2, 1) := by decide +kernel
theorem dX6_byteOf_29 : decode cX6_byteOf 29 = .ok (.iadd, 1) := by decide +kernel
theorem dX6_byteOf_30 : decode cX6_byteOf 30 = .ok (.istore 4, 2) := by decide +kernel
theorem dX6_byteOf_32 : decode cX6_byteOf 32 = .ok (.iload_n 3, 1) := by decide +kernel
theorem dX6_byteOf_33 : decode cX6_byteOf 33 = .ok (.ifCond .lt 29, 3) := by decide +kernel
theorem dX6_byteOf_36 : decode cX6_byteOf 36 = .ok (.iload_n 3, 1) := by decide +kernel
theorem dX6_byteOf_37 : decode cX6_byteOf 37 = .ok (.aload_n 0, 1) := by decide +kernel
theorem dX6_byteOf_38 : decode cX6_byteOf 38 = .ok (.getfield 17, 3) := by decide +kernel
theorem dX6_byteOf_41 : decode cX6_byteOf 41 = .ok (.iload 4, 2) := by decide +kernel
theorem dX6_byteOf_43 : decode cX6_byteOf 43 = .ok (.iaload, 1) := by decide +kernel
theorem dX6_byteOf_44 : decode cX6_byteOf 44 = .ok (.if_icmp .ge 18, 3) := by decide +kernel
theorem dX6_byteOf_47 : decode cX6_byteOf 47 = .ok (.aload_n 0, 1) := by decide +kernel
theorem dX6_byteOf_48 : decode cX6_byteOf 48 = .ok (.getfield 20, 3) := by decide +kernel
theorem dX6_byteOf_51 : decode cX6_byteOf 51 = .ok (.bipush 24, 2) := by decide +kernel
theorem dX6_byteOf_53 : decode cX6_byteOf 53 = .ok (.iload 4, 2) := by decide +kernel
theorem dX6_byteOf_55 : decode cX6_byteOf 55 = .ok (.imul, 1) := by decide +kernel
theorem dX6_byteOf_56 : decode cX6_byteOf 56 = .ok (.iload_n 3, 1) := by decide +kernel
theorem dX6_byteOf_57 : decode cX6_byteOf 57 = .ok (.iadd, 1) := by decide +kernel
theorem dX6_byteOf_58 : decode cX6_byteOf 58 = .ok (.iaload, 1) := by decide +kernel
theorem dX6_byteOf_59 : decode cX6_byteOf 59 = .ok (.goto 5, 3) := by decide +kernel
theorem dX6_byteOf_62 : decode cX6_byteOf 62 = .ok (.bipush (-3), 2) := by decide +kernel
theorem dX6_byteOf_64 : decode cX6_byteOf 64 = .ok (.ireturn, 1) := by decide +kernel
theorem dX6_digit_0 : decode cX6_digit 0 = .ok (.aload_n 0, 1) := by decide +kernel
theorem dX6_digit_1 : decode cX6_digit 1 = .ok (.getfield 26, 3) := by decide +kernel
theorem dX6_digit_4 : decode cX6_digit 4 = .ok (.iconst 1, 1) := by decide +kernel
theorem dX6_digit_5 : decode cX6_digit 5 = .ok (.iaload, 1) := by decide +kernel
theorem dX6_digit_6 : decode cX6_digit 6 = .ok (.ifCond .le 24, 3) := by decide +kernel
theorem dX6_digit_9 : decode cX6_digit 9 = .ok (.iload_n 1, 1) := by decide +kernel
theorem dX6_digit_10 : decode cX6_digit 10 = .ok (.ifCond .lt 20, 3) := by decide +kernel
theorem dX6_digit_13 : decode cX6_digit 13 = .ok (.iload_n 1, 1) := by decide +kernel
theorem dX6_digit_14 : decode cX6_digit 14 = .ok (.aload_n 0, 1) := by decide +kernel
theorem dX6_digit_15 : decode cX6_digit 15 = .ok (.getfield 135, 3) := by decide +kernel
theorem dX6_digit_18 : decode cX6_digit 18 = .ok (.if_icmp .ge 12, 3) := by decide +kernel
theorem dX6_digit_21 : decode cX6_digit 21 = .ok (.aload_n 0, 1) := by decide +kernel
theorem dX6_digit_22 : decode cX6_digit 22 = .ok (.getfield 45, 3) := by decide +kernel
theorem dX6_digit_25 : decode cX6_digit 25 = .ok (.iload_n 1, 1) := by decide +kernel
theorem dX6_digit_26 : decode cX6_digit 26 = .ok (.iaload, 1) := by decide +kernel
theorem dX6_digit_27 : decode cX6_digit 27 = .ok (.goto 5, 3) := by decide +kernel
theorem dX6_digit_30 : decode cX6_digit 30 = .ok (.bipush (-3), 2) := by decide +kernel
theorem dX6_digit_32 : decode cX6_digit 32 = .ok (.ireturn, 1) := by decide +kernel
end
section
theorem wp_22 : Cond.selects "MobileCallModel" ⟨"MobileCallModel", "out", "(I)V"⟩ ⟨"MobileCallModel", "out", "(I)V"⟩ ∈ zz_T := zz_mem (List.mem_of_getElem? (i := 22) (by decide +kernel)) (by decide +kernel)
theorem wp_23 : Cond.selects "MobileCallModel" ⟨"MobileCallModel", "release", "(I)V"⟩ ⟨"MobileCallModel", "release", "(I)V"⟩ ∈ zz_T := zz_mem (List.mem_of_getElem? (i := 23) (by decide +kernel)) (by decide +kernel)
theorem wp_24 : Cond.selects "MobileCallModel" ⟨"MobileCallModel", "way", "(I)I"⟩ ⟨"MobileCallModel", "way", "(I)I"⟩ ∈ zz_T := zz_mem (List.mem_of_getElem? (i := 24) (by decide +kernel)) (by decide +kernel)
theorem wp_25 : Cond.selects "MobileCallModel" ⟨"MobileCallModel", "put", "(III)I"⟩ ⟨"MobileCallModel", "put", "(III)I"⟩ ∈ zz_T := zz_mem (List.mem_of_getElem? (i := 25) (by decide +kernel)) (by decide +kernel)
theorem wp_26 : Cond.selects "MobileCallModel" ⟨"MobileCallModel", "become", "(IIII)V"⟩ ⟨"MobileCallModel", "become", "(IIII)V"⟩ ∈ zz_T := zz_mem (List.mem_of_getElem? (i := 26) (by decide +kernel)) (by decide +kernel)
theorem wp_27 : Cond.selects "MobileCallModel" ⟨"MobileCallModel", "rest", "(I)I"⟩ ⟨"MobileCallModel", "rest", "(I)I"⟩ ∈ zz_T := zz_mem (List.mem_of_getElem? (i := 27) (by decide +kernel)) (by decide +kernel)
theorem wp_28 : Cond.selects "MobileCallModel" ⟨"MobileCallModel", "tell", "(IIIIII)V"⟩ ⟨"MobileCallModel", "tell", "(IIIIII)V"⟩ ∈ zz_T := zz_mem (List.mem_of_getElem? (i := 28) (by decide +kernel)) (by decide +kernel)
theorem wp_29 : Cond.selects "MobileCallModel" ⟨"MobileCallModel", "more", "(II)V"⟩ ⟨"MobileCallModel", "more", "(II)V"⟩ ∈ zz_T := zz_mem (List.mem_of_getElem? (i := 29) (by decide +kernel)) (by decide +kernel)
theorem wp_30 : Cond.selects "MobileCallModel" ⟨"MobileCallModel", "isCall", "(III)Z"⟩ ⟨"MobileCallModel", "isCall", "(III)Z"⟩ ∈ zz_T := zz_mem (List.mem_of_getElem? (i := 30) (by decide +kernel)) (by decide +kernel)
theorem wp_31 : Cond.selects "MobileCallModel" ⟨"MobileCallModel", "end", "(II)V"⟩ ⟨"MobileCallModel", "end", "(II)V"⟩ ∈ zz_T := zz_mem (List.mem_of_getElem? (i := 31) (by decide +kernel)) (by decide +kernel)
theorem wp_32 : Cond.selects "MobileCallModel" ⟨"MobileCallModel", "take", "(I)V"⟩ ⟨"MobileCallModel", "take", "(I)V"⟩ ∈ zz_T := zz_mem (List.mem_of_getElem? (i := 32) (by decide +kernel)) (by decide +kernel)
theorem wp_33 : Cond.selects "MobileCallModel" ⟨"MobileCallModel", "isGood", "()Z"⟩ ⟨"MobileCallModel", "isGood", "()Z"⟩ ∈ zz_T := zz_mem (List.mem_of_getElem? (i := 33) (by decide +kernel)) (by decide +kernel)
theorem wp_34 : Cond.selects "MobileCallModel" ⟨"MobileCallModel", "mobileMoves", "(I)Z"⟩ ⟨"MobileCallModel", "mobileMoves", "(I)Z"⟩ ∈ zz_T := zz_mem (List.mem_of_getElem? (i := 34) (by decide +kernel)) (by decide +kernel)
theorem wp_35 : Cond.selects "MobileCallModel" ⟨"MobileCallModel", "has", "(II)Z"⟩ ⟨"MobileCallModel", "has", "(II)Z"⟩ ∈ zz_T := zz_mem (List.mem_of_getElem? (i := 35) (by decide +kernel)) (by decide +kernel)
theorem wp_36 : Cond.selects "MobileCallModel" ⟨"MobileCallModel", "find", "(I)I"⟩ ⟨"MobileCallModel", "find", "(I)I"⟩ ∈ zz_T := zz_mem (List.mem_of_getElem? (i := 36) (by decide +kernel)) (by decide +kernel)
theorem wp_37 : Cond.selects "MobileCallModel" ⟨"MobileCallModel", "number", "(I)I"⟩ ⟨"MobileCallModel", "number", "(I)I"⟩ ∈ zz_T := zz_mem (List.mem_of_getElem? (i := 37) (by decide +kernel)) (by decide +kernel)
theorem wp_38 : Cond.selects "MobileCallModel" ⟨"MobileCallModel", "setUp", "()V"⟩ ⟨"MobileCallModel", "setUp", "()V"⟩ ∈ zz_T := zz_mem (List.mem_of_getElem? (i := 38) (by decide +kernel)) (by decide +kernel)
theorem wp_39 : Cond.selects "MobileCallModel" ⟨"MobileCallModel", "networkMoves", "(I)Z"⟩ ⟨"MobileCallModel", "networkMoves", "(I)Z"⟩ ∈ zz_T := zz_mem (List.mem_of_getElem? (i := 39) (by decide +kernel)) (by decide +kernel)
theorem wp_40 : Cond.selects "MobileCallModel" ⟨"MobileCallModel", "ask", "(I)V"⟩ ⟨"MobileCallModel", "ask", "(I)V"⟩ ∈ zz_T := zz_mem (List.mem_of_getElem? (i := 40) (by decide +kernel)) (by decide +kernel)
theorem wp_41 : Cond.selects "MobileCallModel" ⟨"MobileCallModel", "judge", "()V"⟩ ⟨"MobileCallModel", "judge", "()V"⟩ ∈ zz_T := zz_mem (List.mem_of_getElem? (i := 41) (by decide +kernel)) (by decide +kernel)
theorem wp_42 : Cond.selects "MobileCallModel" ⟨"MobileCallModel", "mobileCalls", "(I)Z"⟩ ⟨"MobileCallModel", "mobileCalls", "(I)Z"⟩ ∈ zz_T := zz_mem (List.mem_of_getElem? (i := 42) (by decide +kernel)) (by decide +kernel)
theorem wp_43 : Cond.selects "MobileCallModel" ⟨"MobileCallModel", "closes", "(II)Z"⟩ ⟨"MobileCallModel", "closes", "(II)Z"⟩ ∈ zz_T := zz_mem (List.mem_of_getElem? (i := 43) (by decide +kernel)) (by decide +kernel)
theorem wp_44 : Cond.selects "MobileCallModel" ⟨"MobileCallModel", "networkCalls", "(I)Z"⟩ ⟨"MobileCallModel", "networkCalls", "(I)Z"⟩ ∈ zz_T := zz_mem (List.mem_of_getElem? (i := 44) (by decide +kernel)) (by decide +kernel)
theorem wd_7 : (Jvm.Cond.initialized "MobileCallModel") ∈ zz_T := zz_mem (List.mem_of_getElem? (i := 52) (by decide +kernel)) (by decide +kernel)
theorem wd_14 : (Jvm.Cond.instanceMethod ({ cls := "java/lang/Object", name := "<init>", desc := "()V" } : Jvm.MethodName)) ∈ zz_T := zz_mem (List.mem_of_getElem? (i := 59) (by decide +kernel)) (by decide +kernel)
theorem wd_15 : (Jvm.Cond.code ({ cls := "java/lang/Object", name := "<init>", desc := "()V" } : Jvm.MethodName) object_method_1_code (1 : Nat) (Option.none : Option Jvm.ClassFile.FieldType)) ∈ zz_T := zz_mem (List.mem_of_getElem? (i := 60) (by decide +kernel)) (by decide +kernel)
theorem wd_641 : (Jvm.Cond.methodLink "MobileCallModel" (1 : Nat) ({ cls := "java/lang/Object", name := "<init>", desc := "()V" } : Jvm.MethodName)) ∈ zz_T := zz_mem (List.mem_of_getElem? (i := 686) (by decide +kernel)) (by decide +kernel)
theorem wd_642 : (Jvm.Cond.fieldLink "MobileCallModel" (51 : Nat) "MobileCallModel" "key" "I") ∈ zz_T := zz_mem (List.mem_of_getElem? (i := 687) (by decide +kernel)) (by decide +kernel)
theorem wd_643 : (Jvm.Cond.fieldLink "MobileCallModel" (54 : Nat) "MobileCallModel" "otherKey" "I") ∈ zz_T := zz_mem (List.mem_of_getElem? (i := 688) (by decide +kernel)) (by decide +kernel)
theorem wd_644 : (Jvm.Cond.fieldLink "MobileCallModel" (57 : Nat) "MobileCallModel" "challenge" "I") ∈ zz_T := zz_mem (List.mem_of_getElem? (i := 689) (by decide +kernel)) (by decide +kernel)
theorem wd_645 : (Jvm.Cond.fieldLink "MobileCallModel" (7 : Nat) "MobileCallModel" "accepts" "I") ∈ zz_T := zz_mem (List.mem_of_getElem? (i := 690) (by decide +kernel)) (by decide +kernel)
theorem wd_646 : (Jvm.Cond.fieldLink "MobileCallModel" (60 : Nat) "MobileCallModel" "silent" "Z") ∈ zz_T := zz_mem (List.mem_of_getElem? (i := 691) (by decide +kernel)) (by decide +kernel)
theorem wd_647 : (Jvm.Cond.fieldLink "MobileCallModel" (13 : Nat) "MobileCallModel" "counts" "[I") ∈ zz_T := zz_mem (List.mem_of_getElem? (i := 692) (by decide +kernel)) (by decide +kernel)
theorem wd_648 : (Jvm.Cond.fieldLink "MobileCallModel" (17 : Nat) "MobileCallModel" "sizes" "[I") ∈ zz_T := zz_mem (List.mem_of_getElem? (i := 693) (by decide +kernel)) (by decide +kernel)
theorem wd_649 : (Jvm.Cond.fieldLink "MobileCallModel" (20 : Nat) "MobileCallModel" "bytes" "[I") ∈ zz_T := zz_mem (List.mem_of_getElem? (i := 694) (by decide +kernel)) (by decide +kernel)
theorem wd_650 : (Jvm.Cond.fieldLink "MobileCallModel" (168 : Nat) "MobileCallModel" "left" "I") ∈ zz_T := zz_mem (List.mem_of_getElem? (i := 695) (by decide +kernel)) (by decide +kernel)
theorem wd_651 : (Jvm.Cond.fieldLink "MobileCallModel" (23 : Nat) "MobileCallModel" "states" "[I") ∈ zz_T := zz_mem (List.mem_of_getElem? (i := 696) (by decide +kernel)) (by decide +kernel)
theorem wd_652 : (Jvm.Cond.fieldLink "MobileCallModel" (26 : Nat) "MobileCallModel" "calls" "[I") ∈ zz_T := zz_mem (List.mem_of_getElem? (i := 697) (by decide +kernel)) (by decide +kernel)
theorem wd_653 : (Jvm.Cond.fieldLink "MobileCallModel" (29 : Nat) "MobileCallModel" "timers" "[I") ∈ zz_T := zz_mem (List.mem_of_getElem? (i := 698) (by decide +kernel)) (by decide +kernel)
theorem wd_654 : (Jvm.Cond.fieldLink "MobileCallModel" (32 : Nat) "MobileCallModel" "twice" "[Z") ∈ zz_T := zz_mem (List.mem_of_getElem? (i := 699) (by decide +kernel)) (by decide +kernel)
theorem wd_655 : (Jvm.Cond.fieldLink "MobileCallModel" (36 : Nat) "MobileCallModel" "causes" "[I") ∈ zz_T := zz_mem (List.mem_of_getElem? (i := 700) (by decide +kernel)) (by decide +kernel)
theorem wd_656 : (Jvm.Cond.fieldLink "MobileCallModel" (105 : Nat) "MobileCallModel" "area" "I") ∈ zz_T := zz_mem (List.mem_of_getElem? (i := 701) (by decide +kernel)) (by decide +kernel)
theorem wd_657 : (Jvm.Cond.fieldLink "MobileCallModel" (39 : Nat) "MobileCallModel" "known" "I") ∈ zz_T := zz_mem (List.mem_of_getElem? (i := 702) (by decide +kernel)) (by decide +kernel)
theorem wd_658 : (Jvm.Cond.fieldLink "MobileCallModel" (126 : Nat) "MobileCallModel" "wished" "I") ∈ zz_T := zz_mem (List.mem_of_getElem? (i := 703) (by decide +kernel)) (by decide +kernel)
theorem wd_659 : (Jvm.Cond.fieldLink "MobileCallModel" (42 : Nat) "MobileCallModel" "digits" "[I") ∈ zz_T := zz_mem (List.mem_of_getElem? (i := 704) (by decide +kernel)) (by decide +kernel)
theorem wd_660 : (Jvm.Cond.fieldLink "MobileCallModel" (119 : Nat) "MobileCallModel" "digitCount" "I") ∈ zz_T := zz_mem (List.mem_of_getElem? (i := 705) (by decide +kernel)) (by decide +kernel)
theorem wd_661 : (Jvm.Cond.fieldLink "MobileCallModel" (45 : Nat) "MobileCallModel" "called" "[I") ∈ zz_T := zz_mem (List.mem_of_getElem? (i := 706) (by decide +kernel)) (by decide +kernel)
theorem wd_662 : (Jvm.Cond.fieldLink "MobileCallModel" (135 : Nat) "MobileCallModel" "calledCount" "I") ∈ zz_T := zz_mem (List.mem_of_getElem? (i := 707) (by decide +kernel)) (by decide +kernel)
theorem wd_663 : (Jvm.Cond.fieldLink "MobileCallModel" (72 : Nat) "MobileCallModel" "size" "I") ∈ zz_T := zz_mem (List.mem_of_getElem? (i := 708) (by decide +kernel)) (by decide +kernel)
theorem wd_664 : (Jvm.Cond.fieldLink "MobileCallModel" (48 : Nat) "MobileCallModel" "here" "[I") ∈ zz_T := zz_mem (List.mem_of_getElem? (i := 709) (by decide +kernel)) (by decide +kernel)
theorem wd_717 : (Jvm.Cond.methodLink "MobileCallModel" (138 : Nat) ({ cls := "MobileCallModel", name := "out", desc := "(I)V" } : Jvm.MethodName)) ∈ zz_T := zz_mem (List.mem_of_getElem? (i := 762) (by decide +kernel)) (by decide +kernel)
theorem wd_719 : (Jvm.Cond.instanceMethod ({ cls := "MobileCallModel", name := "out", desc := "(I)V" } : Jvm.MethodName)) ∈ zz_T := zz_mem (List.mem_of_getElem? (i := 764) (by decide +kernel)) (by decide +kernel)
theorem wd_720 : (Jvm.Cond.code ({ cls := "MobileCallModel", name := "out", desc := "(I)V" } : Jvm.MethodName) prog_8_method_24_code (3 : Nat) (Option.none : Option Jvm.ClassFile.FieldType)) ∈ zz_T := zz_mem (List.mem_of_getElem? (i := 765) (by decide +kernel)) (by decide +kernel)
theorem wd_721 : (Jvm.Cond.methodLink "MobileCallModel" (98 : Nat) ({ cls := "MobileCallModel", name := "release", desc := "(I)V" } : Jvm.MethodName)) ∈ zz_T := zz_mem (List.mem_of_getElem? (i := 766) (by decide +kernel)) (by decide +kernel)
theorem wd_723 : (Jvm.Cond.instanceMethod ({ cls := "MobileCallModel", name := "release", desc := "(I)V" } : Jvm.MethodName)) ∈ zz_T := zz_mem (List.mem_of_getElem? (i := 768) (by decide +kernel)) (by decide +kernel)
theorem wd_724 : (Jvm.Cond.code ({ cls := "MobileCallModel", name := "release", desc := "(I)V" } : Jvm.MethodName) prog_8_method_14_code (2 : Nat) (Option.none : Option Jvm.ClassFile.FieldType)) ∈ zz_T := zz_mem (List.mem_of_getElem? (i := 769) (by decide +kernel)) (by decide +kernel)
theorem wd_725 : (Jvm.Cond.methodLink "MobileCallModel" (80 : Nat) ({ cls := "MobileCallModel", name := "way", desc := "(I)I" } : Jvm.MethodName)) ∈ zz_T := zz_mem (List.mem_of_getElem? (i := 770) (by decide +kernel)) (by decide +kernel)
theorem wd_727 : (Jvm.Cond.instanceMethod ({ cls := "MobileCallModel", name := "way", desc := "(I)I" } : Jvm.MethodName)) ∈ zz_T := zz_mem (List.mem_of_getElem? (i := 772) (by decide +kernel)) (by decide +kernel)
theorem wd_728 : (Jvm.Cond.code ({ cls := "MobileCallModel", name := "way", desc := "(I)I" } : Jvm.MethodName) prog_8_method_12_code (2 : Nat) (Option.some Jvm.ClassFile.FieldType.int)) ∈ zz_T := zz_mem (List.mem_of_getElem? (i := 773) (by decide +kernel)) (by decide +kernel)
theorem wd_729 : (Jvm.Cond.methodLink "MobileCallModel" (64 : Nat) ({ cls := "MobileCallModel", name := "put", desc := "(III)I" } : Jvm.MethodName)) ∈ zz_T := zz_mem (List.mem_of_getElem? (i := 774) (by decide +kernel)) (by decide +kernel)
theorem wd_731 : (Jvm.Cond.instanceMethod ({ cls := "MobileCallModel", name := "put", desc := "(III)I" } : Jvm.MethodName)) ∈ zz_T := zz_mem (List.mem_of_getElem? (i := 776) (by decide +kernel)) (by decide +kernel)
theorem wd_732 : (Jvm.Cond.code ({ cls := "MobileCallModel", name := "put", desc := "(III)I" } : Jvm.MethodName) prog_8_method_2_code (5 : Nat) (Option.some Jvm.ClassFile.FieldType.int)) ∈ zz_T := zz_mem (List.mem_of_getElem? (i := 777) (by decide +kernel)) (by decide +kernel)
theorem wd_733 : (Jvm.Cond.methodLink "MobileCallModel" (83 : Nat) ({ cls := "MobileCallModel", name := "become", desc := "(IIII)V" } : Jvm.MethodName)) ∈ zz_T := zz_mem (List.mem_of_getElem? (i := 778) (by decide +kernel)) (by decide +kernel)
theorem wd_735 : (Jvm.Cond.instanceMethod ({ cls := "MobileCallModel", name := "become", desc := "(IIII)V" } : Jvm.MethodName)) ∈ zz_T := zz_mem (List.mem_of_getElem? (i := 780) (by decide +kernel)) (by decide +kernel)
theorem wd_736 : (Jvm.Cond.code ({ cls := "MobileCallModel", name := "become", desc := "(IIII)V" } : Jvm.MethodName) prog_8_method_11_code (5 : Nat) (Option.none : Option Jvm.ClassFile.FieldType)) ∈ zz_T := zz_mem (List.mem_of_getElem? (i := 781) (by decide +kernel)) (by decide +kernel)
theorem wd_737 : (Jvm.Cond.methodLink "MobileCallModel" (102 : Nat) ({ cls := "MobileCallModel", name := "rest", desc := "(I)I" } : Jvm.MethodName)) ∈ zz_T := zz_mem (List.mem_of_getElem? (i := 782) (by decide +kernel)) (by decide +kernel)
theorem wd_739 : (Jvm.Cond.instanceMethod ({ cls := "MobileCallModel", name := "rest", desc := "(I)I" } : Jvm.MethodName)) ∈ zz_T := zz_mem (List.mem_of_getElem? (i := 784) (by decide +kernel)) (by decide +kernel)
theorem wd_740 : (Jvm.Cond.code ({ cls := "MobileCallModel", name := "rest", desc := "(I)I" } : Jvm.MethodName) prog_8_method_13_code (2 : Nat) (Option.some Jvm.ClassFile.FieldType.int)) ∈ zz_T := zz_mem (List.mem_of_getElem? (i := 785) (by decide +kernel)) (by decide +kernel)
theorem wd_741 : (Jvm.Cond.methodLink "MobileCallModel" (112 : Nat) ({ cls := "MobileCallModel", name := "tell", desc := "(IIIIII)V" } : Jvm.MethodName)) ∈ zz_T := zz_mem (List.mem_of_getElem? (i := 786) (by decide +kernel)) (by decide +kernel)
theorem wd_743 : (Jvm.Cond.instanceMethod ({ cls := "MobileCallModel", name := "tell", desc := "(IIIIII)V" } : Jvm.MethodName)) ∈ zz_T := zz_mem (List.mem_of_getElem? (i := 788) (by decide +kernel)) (by decide +kernel)
theorem wd_744 : (Jvm.Cond.code ({ cls := "MobileCallModel", name := "tell", desc := "(IIIIII)V" } : Jvm.MethodName) prog_8_method_4_code (9 : Nat) (Option.none : Option Jvm.ClassFile.FieldType)) ∈ zz_T := zz_mem (List.mem_of_getElem? (i := 789) (by decide +kernel)) (by decide +kernel)
theorem wd_745 : (Jvm.Cond.methodLink "MobileCallModel" (68 : Nat) ({ cls := "MobileCallModel", name := "more", desc := "(II)V" } : Jvm.MethodName)) ∈ zz_T := zz_mem (List.mem_of_getElem? (i := 790) (by decide +kernel)) (by decide +kernel)
theorem wd_747 : (Jvm.Cond.instanceMethod ({ cls := "MobileCallModel", name := "more", desc := "(II)V" } : Jvm.MethodName)) ∈ zz_T := zz_mem (List.mem_of_getElem? (i := 792) (by decide +kernel)) (by decide +kernel)
theorem wd_748 : (Jvm.Cond.code ({ cls := "MobileCallModel", name := "more", desc := "(II)V" } : Jvm.MethodName) prog_8_method_3_code (3 : Nat) (Option.none : Option Jvm.ClassFile.FieldType)) ∈ zz_T := zz_mem (List.mem_of_getElem? (i := 793) (by decide +kernel)) (by decide +kernel)
theorem wd_757 : (Jvm.Cond.constant "MobileCallModel" (141 : Nat) (65535 : Int32)) ∈ zz_T := zz_mem (List.mem_of_getElem? (i := 802) (by decide +kernel)) (by decide +kernel)
theorem wd_766 : (Jvm.Cond.methodLink "MobileCallModel" (91 : Nat) ({ cls := "MobileCallModel", name := "isCall", desc := "(III)Z" } : Jvm.MethodName)) ∈ zz_T := zz_mem (List.mem_of_getElem? (i := 811) (by decide +kernel)) (by decide +kernel)
theorem wd_768 : (Jvm.Cond.instanceMethod ({ cls := "MobileCallModel", name := "isCall", desc := "(III)Z" } : Jvm.MethodName)) ∈ zz_T := zz_mem (List.mem_of_getElem? (i := 813) (by decide +kernel)) (by decide +kernel)
theorem wd_769 : (Jvm.Cond.code ({ cls := "MobileCallModel", name := "isCall", desc := "(III)Z" } : Jvm.MethodName) prog_8_method_15_code (4 : Nat) (Option.some Jvm.ClassFile.FieldType.boolean)) ∈ zz_T := zz_mem (List.mem_of_getElem? (i := 814) (by decide +kernel)) (by decide +kernel)
theorem wd_770 : (Jvm.Cond.methodLink "MobileCallModel" (142 : Nat) ({ cls := "MobileCallModel", name := "end", desc := "(II)V" } : Jvm.MethodName)) ∈ zz_T := zz_mem (List.mem_of_getElem? (i := 815) (by decide +kernel)) (by decide +kernel)
theorem wd_772 : (Jvm.Cond.instanceMethod ({ cls := "MobileCallModel", name := "end", desc := "(II)V" } : Jvm.MethodName)) ∈ zz_T := zz_mem (List.mem_of_getElem? (i := 817) (by decide +kernel)) (by decide +kernel)
theorem wd_773 : (Jvm.Cond.code ({ cls := "MobileCallModel", name := "end", desc := "(II)V" } : Jvm.MethodName) prog_8_method_29_code (3 : Nat) (Option.none : Option Jvm.ClassFile.FieldType)) ∈ zz_T := zz_mem (List.mem_of_getElem? (i := 818) (by decide +kernel)) (by decide +kernel)
theorem wd_798 : (Jvm.Cond.methodLink "MobileCallModel" (145 : Nat) ({ cls := "MobileCallModel", name := "isWay", desc := "(I)Z" } : Jvm.MethodName)) ∈ zz_T := zz_mem (List.mem_of_getElem? (i := 843) (by decide +kernel)) (by decide +kernel)
theorem wd_799 : (Jvm.Cond.static ({ cls := "MobileCallModel", name := "isWay", desc := "(I)Z" } : Jvm.MethodName)) ∈ zz_T := zz_mem (List.mem_of_getElem? (i := 844) (by decide +kernel)) (by decide +kernel)
theorem wd_800 : (Jvm.Cond.code ({ cls := "MobileCallModel", name := "isWay", desc := "(I)Z" } : Jvm.MethodName) prog_8_method_36_code (1 : Nat) (Option.some Jvm.ClassFile.FieldType.boolean)) ∈ zz_T := zz_mem (List.mem_of_getElem? (i := 845) (by decide +kernel)) (by decide +kernel)
theorem wd_801 : (Jvm.Cond.methodLink "MobileCallModel" (149 : Nat) ({ cls := "MobileCallModel", name := "take", desc := "(I)V" } : Jvm.MethodName)) ∈ zz_T := zz_mem (List.mem_of_getElem? (i := 846) (by decide +kernel)) (by decide +kernel)
theorem wd_803 : (Jvm.Cond.instanceMethod ({ cls := "MobileCallModel", name := "take", desc := "(I)V" } : Jvm.MethodName)) ∈ zz_T := zz_mem (List.mem_of_getElem? (i := 848) (by decide +kernel)) (by decide +kernel)
theorem wd_804 : (Jvm.Cond.code ({ cls := "MobileCallModel", name := "take", desc := "(I)V" } : Jvm.MethodName) prog_8_method_5_code (5 : Nat) (Option.none : Option Jvm.ClassFile.FieldType)) ∈ zz_T := zz_mem (List.mem_of_getElem? (i := 849) (by decide +kernel)) (by decide +kernel)
theorem wd_805 : (Jvm.Cond.methodLink "MobileCallModel" (152 : Nat) ({ cls := "MobileCallModel", name := "isGood", desc := "()Z" } : Jvm.MethodName)) ∈ zz_T := zz_mem (List.mem_of_getElem? (i := 850) (by decide +kernel)) (by decide +kernel)
theorem wd_807 : (Jvm.Cond.instanceMethod ({ cls := "MobileCallModel", name := "isGood", desc := "()Z" } : Jvm.MethodName)) ∈ zz_T := zz_mem (List.mem_of_getElem? (i := 852) (by decide +kernel)) (by decide +kernel)
theorem wd_808 : (Jvm.Cond.code ({ cls := "MobileCallModel", name := "isGood", desc := "()Z" } : Jvm.MethodName) prog_8_method_6_code (2 : Nat) (Option.some Jvm.ClassFile.FieldType.boolean)) ∈ zz_T := zz_mem (List.mem_of_getElem? (i := 853) (by decide +kernel)) (by decide +kernel)
theorem wd_809 : (Jvm.Cond.methodLink "MobileCallModel" (156 : Nat) ({ cls := "MobileCallModel", name := "mobileMoves", desc := "(I)Z" } : Jvm.MethodName)) ∈ zz_T := zz_mem (List.mem_of_getElem? (i := 854) (by decide +kernel)) (by decide +kernel)
theorem wd_811 : (Jvm.Cond.instanceMethod ({ cls := "MobileCallModel", name := "mobileMoves", desc := "(I)Z" } : Jvm.MethodName)) ∈ zz_T := zz_mem (List.mem_of_getElem? (i := 856) (by decide +kernel)) (by decide +kernel)
theorem wd_812 : (Jvm.Cond.code ({ cls := "MobileCallModel", name := "mobileMoves", desc := "(I)Z" } : Jvm.MethodName) prog_8_method_17_code (3 : Nat) (Option.some Jvm.ClassFile.FieldType.boolean)) ∈ zz_T := zz_mem (List.mem_of_getElem? (i := 857) (by decide +kernel)) (by decide +kernel)
theorem wd_813 : (Jvm.Cond.methodLink "MobileCallModel" (87 : Nat) ({ cls := "MobileCallModel", name := "has", desc := "(II)Z" } : Jvm.MethodName)) ∈ zz_T := zz_mem (List.mem_of_getElem? (i := 858) (by decide +kernel)) (by decide +kernel)
theorem wd_815 : (Jvm.Cond.instanceMethod ({ cls := "MobileCallModel", name := "has", desc := "(II)Z" } : Jvm.MethodName)) ∈ zz_T := zz_mem (List.mem_of_getElem? (i := 860) (by decide +kernel)) (by decide +kernel)
theorem wd_816 : (Jvm.Cond.code ({ cls := "MobileCallModel", name := "has", desc := "(II)Z" } : Jvm.MethodName) prog_8_method_8_code (4 : Nat) (Option.some Jvm.ClassFile.FieldType.boolean)) ∈ zz_T := zz_mem (List.mem_of_getElem? (i := 861) (by decide +kernel)) (by decide +kernel)
theorem wd_817 : (Jvm.Cond.methodLink "MobileCallModel" (75 : Nat) ({ cls := "MobileCallModel", name := "find", desc := "(I)I" } : Jvm.MethodName)) ∈ zz_T := zz_mem (List.mem_of_getElem? (i := 862) (by decide +kernel)) (by decide +kernel)
theorem wd_819 : (Jvm.Cond.instanceMethod ({ cls := "MobileCallModel", name := "find", desc := "(I)I" } : Jvm.MethodName)) ∈ zz_T := zz_mem (List.mem_of_getElem? (i := 864) (by decide +kernel)) (by decide +kernel)
theorem wd_820 : (Jvm.Cond.code ({ cls := "MobileCallModel", name := "find", desc := "(I)I" } : Jvm.MethodName) prog_8_method_7_code (3 : Nat) (Option.some Jvm.ClassFile.FieldType.int)) ∈ zz_T := zz_mem (List.mem_of_getElem? (i := 865) (by decide +kernel)) (by decide +kernel)
theorem wd_821 : (Jvm.Cond.methodLink "MobileCallModel" (95 : Nat) ({ cls := "MobileCallModel", name := "number", desc := "(I)I" } : Jvm.MethodName)) ∈ zz_T := zz_mem (List.mem_of_getElem? (i := 866) (by decide +kernel)) (by decide +kernel)
theorem wd_823 : (Jvm.Cond.instanceMethod ({ cls := "MobileCallModel", name := "number", desc := "(I)I" } : Jvm.MethodName)) ∈ zz_T := zz_mem (List.mem_of_getElem? (i := 868) (by decide +kernel)) (by decide +kernel)
theorem wd_824 : (Jvm.Cond.code ({ cls := "MobileCallModel", name := "number", desc := "(I)I" } : Jvm.MethodName) prog_8_method_9_code (5 : Nat) (Option.some Jvm.ClassFile.FieldType.int)) ∈ zz_T := zz_mem (List.mem_of_getElem? (i := 869) (by decide +kernel)) (by decide +kernel)
theorem wd_825 : (Jvm.Cond.methodLink "MobileCallModel" (108 : Nat) ({ cls := "MobileCallModel", name := "turned", desc := "(II)I" } : Jvm.MethodName)) ∈ zz_T := zz_mem (List.mem_of_getElem? (i := 870) (by decide +kernel)) (by decide +kernel)
theorem wd_826 : (Jvm.Cond.static ({ cls := "MobileCallModel", name := "turned", desc := "(II)I" } : Jvm.MethodName)) ∈ zz_T := zz_mem (List.mem_of_getElem? (i := 871) (by decide +kernel)) (by decide +kernel)
theorem wd_827 : (Jvm.Cond.code ({ cls := "MobileCallModel", name := "turned", desc := "(II)I" } : Jvm.MethodName) prog_8_method_10_code (3 : Nat) (Option.some Jvm.ClassFile.FieldType.int)) ∈ zz_T := zz_mem (List.mem_of_getElem? (i := 872) (by decide +kernel)) (by decide +kernel)
theorem wd_828 : (Jvm.Cond.constant "MobileCallModel" (79 : Nat) (16777619 : Int32)) ∈ zz_T := zz_mem (List.mem_of_getElem? (i := 873) (by decide +kernel)) (by decide +kernel)
theorem wd_829 : (Jvm.Cond.methodLink "MobileCallModel" (116 : Nat) ({ cls := "MobileCallModel", name := "setUp", desc := "()V" } : Jvm.MethodName)) ∈ zz_T := zz_mem (List.mem_of_getElem? (i := 874) (by decide +kernel)) (by decide +kernel)
theorem wd_831 : (Jvm.Cond.instanceMethod ({ cls := "MobileCallModel", name := "setUp", desc := "()V" } : Jvm.MethodName)) ∈ zz_T := zz_mem (List.mem_of_getElem? (i := 876) (by decide +kernel)) (by decide +kernel)
theorem wd_832 : (Jvm.Cond.code ({ cls := "MobileCallModel", name := "setUp", desc := "()V" } : Jvm.MethodName) prog_8_method_18_code (3 : Nat) (Option.none : Option Jvm.ClassFile.FieldType)) ∈ zz_T := zz_mem (List.mem_of_getElem? (i := 877) (by decide +kernel)) (by decide +kernel)
theorem wd_833 : (Jvm.Cond.methodLink "MobileCallModel" (159 : Nat) ({ cls := "MobileCallModel", name := "networkMoves", desc := "(I)Z" } : Jvm.MethodName)) ∈ zz_T := zz_mem (List.mem_of_getElem? (i := 878) (by decide +kernel)) (by decide +kernel)
theorem wd_835 : (Jvm.Cond.instanceMethod ({ cls := "MobileCallModel", name := "networkMoves", desc := "(I)Z" } : Jvm.MethodName)) ∈ zz_T := zz_mem (List.mem_of_getElem? (i := 880) (by decide +kernel)) (by decide +kernel)
theorem wd_836 : (Jvm.Cond.code ({ cls := "MobileCallModel", name := "networkMoves", desc := "(I)Z" } : Jvm.MethodName) prog_8_method_22_code (2 : Nat) (Option.some Jvm.ClassFile.FieldType.boolean)) ∈ zz_T := zz_mem (List.mem_of_getElem? (i := 881) (by decide +kernel)) (by decide +kernel)
theorem wd_837 : (Jvm.Cond.methodLink "MobileCallModel" (129 : Nat) ({ cls := "MobileCallModel", name := "ask", desc := "(I)V" } : Jvm.MethodName)) ∈ zz_T := zz_mem (List.mem_of_getElem? (i := 882) (by decide +kernel)) (by decide +kernel)
theorem wd_839 : (Jvm.Cond.instanceMethod ({ cls := "MobileCallModel", name := "ask", desc := "(I)V" } : Jvm.MethodName)) ∈ zz_T := zz_mem (List.mem_of_getElem? (i := 884) (by decide +kernel)) (by decide +kernel)
theorem wd_840 : (Jvm.Cond.code ({ cls := "MobileCallModel", name := "ask", desc := "(I)V" } : Jvm.MethodName) prog_8_method_20_code (2 : Nat) (Option.none : Option Jvm.ClassFile.FieldType)) ∈ zz_T := zz_mem (List.mem_of_getElem? (i := 885) (by decide +kernel)) (by decide +kernel)
theorem wd_841 : (Jvm.Cond.constant "MobileCallModel" (125 : Nat) (1103515245 : Int32)) ∈ zz_T := zz_mem (List.mem_of_getElem? (i := 886) (by decide +kernel)) (by decide +kernel)
theorem wd_842 : (Jvm.Cond.methodLink "MobileCallModel" (132 : Nat) ({ cls := "MobileCallModel", name := "judge", desc := "()V" } : Jvm.MethodName)) ∈ zz_T := zz_mem (List.mem_of_getElem? (i := 887) (by decide +kernel)) (by decide +kernel)
theorem wd_844 : (Jvm.Cond.instanceMethod ({ cls := "MobileCallModel", name := "judge", desc := "()V" } : Jvm.MethodName)) ∈ zz_T := zz_mem (List.mem_of_getElem? (i := 889) (by decide +kernel)) (by decide +kernel)
theorem wd_845 : (Jvm.Cond.code ({ cls := "MobileCallModel", name := "judge", desc := "()V" } : Jvm.MethodName) prog_8_method_21_code (3 : Nat) (Option.none : Option Jvm.ClassFile.FieldType)) ∈ zz_T := zz_mem (List.mem_of_getElem? (i := 890) (by decide +kernel)) (by decide +kernel)
theorem wd_846 : (Jvm.Cond.methodLink "MobileCallModel" (162 : Nat) ({ cls := "MobileCallModel", name := "mobileCalls", desc := "(I)Z" } : Jvm.MethodName)) ∈ zz_T := zz_mem (List.mem_of_getElem? (i := 891) (by decide +kernel)) (by decide +kernel)
theorem wd_848 : (Jvm.Cond.instanceMethod ({ cls := "MobileCallModel", name := "mobileCalls", desc := "(I)Z" } : Jvm.MethodName)) ∈ zz_T := zz_mem (List.mem_of_getElem? (i := 893) (by decide +kernel)) (by decide +kernel)
theorem wd_849 : (Jvm.Cond.code ({ cls := "MobileCallModel", name := "mobileCalls", desc := "(I)Z" } : Jvm.MethodName) prog_8_method_19_code (3 : Nat) (Option.some Jvm.ClassFile.FieldType.boolean)) ∈ zz_T := zz_mem (List.mem_of_getElem? (i := 894) (by decide +kernel)) (by decide +kernel)
theorem wd_850 : (Jvm.Cond.methodLink "MobileCallModel" (122 : Nat) ({ cls := "MobileCallModel", name := "closes", desc := "(II)Z" } : Jvm.MethodName)) ∈ zz_T := zz_mem (List.mem_of_getElem? (i := 895) (by decide +kernel)) (by decide +kernel)
theorem wd_852 : (Jvm.Cond.instanceMethod ({ cls := "MobileCallModel", name := "closes", desc := "(II)Z" } : Jvm.MethodName)) ∈ zz_T := zz_mem (List.mem_of_getElem? (i := 897) (by decide +kernel)) (by decide +kernel)
theorem wd_853 : (Jvm.Cond.code ({ cls := "MobileCallModel", name := "closes", desc := "(II)Z" } : Jvm.MethodName) prog_8_method_16_code (4 : Nat) (Option.some Jvm.ClassFile.FieldType.boolean)) ∈ zz_T := zz_mem (List.mem_of_getElem? (i := 898) (by decide +kernel)) (by decide +kernel)
theorem wd_854 : (Jvm.Cond.methodLink "MobileCallModel" (165 : Nat) ({ cls := "MobileCallModel", name := "networkCalls", desc := "(I)Z" } : Jvm.MethodName)) ∈ zz_T := zz_mem (List.mem_of_getElem? (i := 899) (by decide +kernel)) (by decide +kernel)
theorem wd_856 : (Jvm.Cond.instanceMethod ({ cls := "MobileCallModel", name := "networkCalls", desc := "(I)Z" } : Jvm.MethodName)) ∈ zz_T := zz_mem (List.mem_of_getElem? (i := 901) (by decide +kernel)) (by decide +kernel)
theorem wd_857 : (Jvm.Cond.code ({ cls := "MobileCallModel", name := "networkCalls", desc := "(I)Z" } : Jvm.MethodName) prog_8_method_23_code (4 : Nat) (Option.some Jvm.ClassFile.FieldType.boolean)) ∈ zz_T := zz_mem (List.mem_of_getElem? (i := 902) (by decide +kernel)) (by decide +kernel)
theorem wd_870 : (Jvm.Cond.constantLong "MobileCallModel" (171 : Nat) (255 : Int64)) ∈ zz_T := zz_mem (List.mem_of_getElem? (i := 915) (by decide +kernel)) (by decide +kernel)
theorem iaX0 : ∀ w ∈ wsX00, w ∈ lw_tbl := by decide +kernel
theorem ibX0 : ∀ w ∈ wsX00, zz_good w = true := by decide +kernel
theorem inX0 : ∀ w ∈ wsX00, w ∈ zz_T := fun w h => zz_mem (iaX0 w h) (ibX0 w h)
theorem ptX0 {k : Nat} : zz_pt k TX0 2 tyX0 := ⟨tyX0_ok, nmX0⟩
theorem iaX1 : ∀ w ∈ wsX10, w ∈ lw_tbl := by decide +kernel
theorem ibX1 : ∀ w ∈ wsX10, zz_good w = true := by decide +kernel
theorem inX1 : ∀ w ∈ wsX10, w ∈ zz_T := fun w h => zz_mem (iaX1 w h) (ibX1 w h)
theorem ptX1 {k : Nat} : zz_pt k TX1 11 tyX1 := ⟨tyX1_ok, nmX1⟩
theorem iaX2 : ∀ w ∈ wsX20, w ∈ lw_tbl := by decide +kernel
theorem ibX2 : ∀ w ∈ wsX20, zz_good w = true := by decide +kernel
theorem inX2 : ∀ w ∈ wsX20, w ∈ zz_T := fun w h => zz_mem (iaX2 w h) (ibX2 w h)
theorem ptX2 {k : Nat} : zz_pt k TX2 15 tyX2 := ⟨tyX2_ok, nmX2⟩
theorem iaX4 : ∀ w ∈ wsX40, w ∈ lw_tbl := by decide +kernel
theorem ibX4 : ∀ w ∈ wsX40, zz_good w = true := by decide +kernel
theorem inX4 : ∀ w ∈ wsX40, w ∈ zz_T := fun w h => zz_mem (iaX4 w h) (ibX4 w h)
theorem ptX4 {k : Nat} : zz_pt k TX4 5 tyX4 := ⟨tyX4_ok, nmX4⟩
theorem iaX5 : ∀ w ∈ wsX50, w ∈ lw_tbl := by decide +kernel
theorem ibX5 : ∀ w ∈ wsX50, zz_good w = true := by decide +kernel
theorem inX5 : ∀ w ∈ wsX50, w ∈ zz_T := fun w h => zz_mem (iaX5 w h) (ibX5 w h)
theorem ptX5 {k : Nat} : zz_pt k TX5 5 tyX5 := ⟨tyX5_ok, nmX5⟩
theorem iaX6 : ∀ w ∈ wsX60, w ∈ lw_tbl := by decide +kernel
theorem ibX6 : ∀ w ∈ wsX60, zz_good w = true := by decide +kernel
theorem inX6 : ∀ w ∈ wsX60, w ∈ zz_T := fun w h => zz_mem (iaX6 w h) (ibX6 w h)
theorem ptX6 {k : Nat} : zz_pt k TX6 23 tyX6 := ⟨tyX6_ok, nmX6⟩
theorem yv_X6_80 : zz_yv RX6 80 yX6_way cX6_way 2 (some .int) 1 := ⟨wd_725, wd_727, wp_24, wd_7, wd_728, by decide, by decide +kernel⟩
theorem yv_X6_64 : zz_yv RX6 64 yX6_put cX6_put 5 (some .int) 3 := ⟨wd_729, wd_731, wp_25, wd_7, wd_732, by decide, by decide +kernel⟩
theorem fd_X6_23_X6 : zz_fd RX6 23 5 9 RX6 TX6 23 RX6 := ⟨rfl, by decide, inX6, wd_651, Or.inl rfl⟩
theorem yv_X6_83 : zz_yv RX6 83 yX6_become cX6_become 5 none 4 := ⟨wd_733, wd_735, wp_26, wd_7, wd_736, by decide, by decide +kernel⟩
theorem yv_X6_112 : zz_yv RX6 112 yX6_tell cX6_tell 9 none 6 := ⟨wd_741, wd_743, wp_28, wd_7, wd_744, by decide, by decide +kernel⟩
theorem fd_X6_26_X6 : zz_fd RX6 26 5 10 RX6 TX6 23 RX6 := ⟨rfl, by decide, inX6, wd_652, Or.inl rfl⟩
theorem yv_X6_102 : zz_yv RX6 102 yX6_rest cX6_rest 2 (some .int) 1 := ⟨wd_737, wd_739, wp_27, wd_7, wd_740, by decide, by decide +kernel⟩
theorem yv_X6_87 : zz_yv RX6 87 yX6_has cX6_has 4 (some .boolean) 2 := ⟨wd_813, wd_815, wp_35, wd_7, wd_816, by decide, by decide +kernel⟩
theorem yv_X6_91 : zz_yv RX6 91 yX6_isCall cX6_isCall 4 (some .boolean) 3 := ⟨wd_766, wd_768, wp_30, wd_7, wd_769, by decide, by decide +kernel⟩
theorem fd_X6_36_X6 : zz_fd RX6 36 5 13 RX6 TX6 23 RX6 := ⟨rfl, by decide, inX6, wd_655, Or.inl rfl⟩
theorem yv_X6_95 : zz_yv RX6 95 yX6_number cX6_number 5 (some .int) 1 := ⟨wd_821, wd_823, wp_37, wd_7, wd_824, by decide, by decide +kernel⟩
theorem yv_X6_98 : zz_yv RX6 98 yX6_release cX6_release 2 none 1 := ⟨wd_721, wd_723, wp_23, wd_7, wd_724, by decide, by decide +kernel⟩
theorem yv_X6_68 : zz_yv RX6 68 yX6_more cX6_more 3 none 2 := ⟨wd_745, wd_747, wp_29, wd_7, wd_748, by decide, by decide +kernel⟩
theorem fd_X6_119_X6 : zz_fd RX6 119 5 18 RX6 TX6 23 RX6 := ⟨rfl, by decide, inX6, wd_660, Or.inl rfl⟩
theorem fd_X6_42_X6 : zz_fd RX6 42 5 17 RX6 TX6 23 RX6 := ⟨rfl, by decide, inX6, wd_659, Or.inl rfl⟩
theorem fd_X6_105_X6 : zz_fd RX6 105 5 14 RX6 TX6 23 RX6 := ⟨rfl, by decide, inX6, wd_656, Or.inl rfl⟩
theorem fd_X6_51_X6 : zz_fd RX6 51 5 0 RX6 TX6 23 RX6 := ⟨rfl, by decide, inX6, wd_642, Or.inl rfl⟩
theorem ys_X6_108 : zz_ys RX6 108 yX6_turned cX6_turned 3 (some .int) 2 := ⟨wd_825, wd_826, wd_7, wd_827, by decide, by decide +kernel⟩
theorem yv_X6_116 : zz_yv RX6 116 yX6_setUp cX6_setUp 3 none 0 := ⟨wd_829, wd_831, wp_38, wd_7, wd_832, by decide, by decide +kernel⟩
theorem yv_X6_122 : zz_yv RX6 122 yX6_closes cX6_closes 4 (some .boolean) 2 := ⟨wd_850, wd_852, wp_43, wd_7, wd_853, by decide, by decide +kernel⟩
theorem fd_X6_57_X6 : zz_fd RX6 57 5 2 RX6 TX6 23 RX6 := ⟨rfl, by decide, inX6, wd_644, Or.inl rfl⟩
theorem fd_X6_54_X6 : zz_fd RX6 54 5 1 RX6 TX6 23 RX6 := ⟨rfl, by decide, inX6, wd_643, Or.inl rfl⟩
theorem fd_X6_7_X6 : zz_fd RX6 7 5 3 RX6 TX6 23 RX6 := ⟨rfl, by decide, inX6, wd_645, Or.inl rfl⟩
theorem fd_X6_126_X6 : zz_fd RX6 126 5 16 RX6 TX6 23 RX6 := ⟨rfl, by decide, inX6, wd_658, Or.inl rfl⟩
theorem fd_X6_39_X6 : zz_fd RX6 39 5 15 RX6 TX6 23 RX6 := ⟨rfl, by decide, inX6, wd_657, Or.inl rfl⟩
theorem yv_X6_129 : zz_yv RX6 129 yX6_ask cX6_ask 2 none 1 := ⟨wd_837, wd_839, wp_40, wd_7, wd_840, by decide, by decide +kernel⟩
theorem yv_X6_132 : zz_yv RX6 132 yX6_judge cX6_judge 3 none 0 := ⟨wd_842, wd_844, wp_41, wd_7, wd_845, by decide, by decide +kernel⟩
theorem fd_X6_32_X6 : zz_fd RX6 32 5 12 RX6 TX6 23 RX6 := ⟨rfl, by decide, inX6, wd_654, Or.inl rfl⟩
theorem fd_X6_29_X6 : zz_fd RX6 29 5 11 RX6 TX6 23 RX6 := ⟨rfl, by decide, inX6, wd_653, Or.inl rfl⟩
theorem yv_X6_142 : zz_yv RX6 142 yX6_end cX6_end 3 none 2 := ⟨wd_770, wd_772, wp_31, wd_7, wd_773, by decide, by decide +kernel⟩
theorem fd_X6_60_X6 : zz_fd RX6 60 5 4 RX6 TX6 23 RX6 := ⟨rfl, by decide, inX6, wd_646, Or.inl rfl⟩
theorem fd_X6_13_X6 : zz_fd RX6 13 5 5 RX6 TX6 23 RX6 := ⟨rfl, by decide, inX6, wd_647, Or.inl rfl⟩
theorem fd_X6_135_X6 : zz_fd RX6 135 5 20 RX6 TX6 23 RX6 := ⟨rfl, by decide, inX6, wd_662, Or.inl rfl⟩
theorem fd_X6_45_X6 : zz_fd RX6 45 5 19 RX6 TX6 23 RX6 := ⟨rfl, by decide, inX6, wd_661, Or.inl rfl⟩
theorem fd_X6_168_X6 : zz_fd RX6 168 5 8 RX6 TX6 23 RX6 := ⟨rfl, by decide, inX6, wd_650, Or.inl rfl⟩
theorem ys_X6_145 : zz_ys RX6 145 yX6_isWay cX6_isWay 1 (some .boolean) 1 := ⟨wd_798, wd_799, wd_7, wd_800, by decide, by decide +kernel⟩
theorem fd_X6_17_X6 : zz_fd RX6 17 5 6 RX6 TX6 23 RX6 := ⟨rfl, by decide, inX6, wd_648, Or.inl rfl⟩
theorem fd_X6_20_X6 : zz_fd RX6 20 5 7 RX6 TX6 23 RX6 := ⟨rfl, by decide, inX6, wd_649, Or.inl rfl⟩
theorem yv_X6_75 : zz_yv RX6 75 yX6_find cX6_find 3 (some .int) 1 := ⟨wd_817, wd_819, wp_36, wd_7, wd_820, by decide, by decide +kernel⟩
theorem fd_X6_48_X6 : zz_fd RX6 48 5 22 RX6 TX6 23 RX6 := ⟨rfl, by decide, inX6, wd_664, Or.inl rfl⟩
theorem yv_X6_149 : zz_yv RX6 149 yX6_take cX6_take 5 none 1 := ⟨wd_801, wd_803, wp_32, wd_7, wd_804, by decide, by decide +kernel⟩
theorem yv_X6_152 : zz_yv RX6 152 yX6_isGood cX6_isGood 2 (some .boolean) 0 := ⟨wd_805, wd_807, wp_33, wd_7, wd_808, by decide, by decide +kernel⟩
theorem yv_X6_165 : zz_yv RX6 165 yX6_networkCalls cX6_networkCalls 4 (some .boolean) 1 := ⟨wd_854, wd_856, wp_44, wd_7, wd_857, by decide, by decide +kernel⟩
theorem yv_X6_159 : zz_yv RX6 159 yX6_networkMoves cX6_networkMoves 2 (some .boolean) 1 := ⟨wd_833, wd_835, wp_39, wd_7, wd_836, by decide, by decide +kernel⟩
theorem yv_X6_162 : zz_yv RX6 162 yX6_mobileCalls cX6_mobileCalls 3 (some .boolean) 1 := ⟨wd_846, wd_848, wp_42, wd_7, wd_849, by decide, by decide +kernel⟩
theorem yv_X6_156 : zz_yv RX6 156 yX6_mobileMoves cX6_mobileMoves 3 (some .boolean) 1 := ⟨wd_809, wd_811, wp_34, wd_7, wd_812, by decide, by decide +kernel⟩
theorem yv_X6_138 : zz_yv RX6 138 yX6_out cX6_out 3 none 1 := ⟨wd_717, wd_719, wp_22, wd_7, wd_720, by decide, by decide +kernel⟩
theorem fd_X6_72_X6 : zz_fd RX6 72 5 21 RX6 TX6 23 RX6 := ⟨rfl, by decide, inX6, wd_663, Or.inl rfl⟩
end
section
theorem zz_W.adr {G : zz_G} {A : Nat → Prop} {ad ad1 : Nat → Nat} {ce : zz_C} {sz : Nat} {H : Heap} (h : zz_W G A ad ce sz H) (he : ∀ (n : Nat) (x : va_E), ce n = some x → ad1 n = ad n) : zz_W G A ad1 ce sz H :=
  ⟨h.1, fun n x hn => by rw [he n x hn]; exact h.2.1 n x hn, fun i j x y hi hj hij => h.2.2.1 i j x y hi hj (by rw [← he i x hi, ← he j y hj]; exact hij), fun n x hn => by rw [he n x hn]; exact h.2.2.2 n x hn⟩
theorem zz_adF {ad ad1 : Nat → Nat} {n sz : Nat} (h1 : ad1 n = sz) (h2 : ∀ j, j ≠ n → ad1 j = ad j) (had : ad n = sz) : ad1 = ad := funext (fun j => if h : j = n then (by rw [h, h1, had]) else h2 j h)
section ZZ5
variable {p : Program} {l : Launch} {e : Env} {R : Room} {s : State} {m : MethodId} {args : Array Value} {below : List Frame} {meth : Method} {c : Code} {H : Heap} {locs : List Loc} {cells slots : Nat} {Q : State → Prop}
variable {cc : ByteArray} {y : MethodName} {ret : Option FieldType} {nL pc : Nat} {ls : Array Slot} {rest : List Value} {G : zz_G} {A : Nat → Prop} {H0 : Heap} {ad : Nat → Nat} {ce : zz_C} {sz : Nat}
/-- the same, where the name's address is already the next one -/
theorem z_newiF {x : Int32} {N : Nat} (F : zz_F p s m args meth c cc y ret nL G) (hw : zz_W G A ad ce sz H) (hA : ∀ q, H0.size ≤ q → A q) (hS : va_S A H0 H locs) (n : Nat) (hn : ce n = none) (had : ad n = sz) (har : Cond.arrayClass .int ∈ zz_T) (hx0 : ¬ x < 0) (hN : x.toNatClampNeg = N) (hb4 : N * 4 ≤ 536870912) (hcells : cells + 1 ≤ R.cells) (hslots : slots + N ≤ R.slots) (hdg : decode cc pc = .ok (.newarray .int, 2))
    (kk : ∀ (ce1 : zz_C) (H1 : Heap), ce1 n = some (.inl (zz_cI G, N, .inl (fun _ => 0))) → (∀ j, j ≠ n → ce1 j = ce j) → zz_W G A ad ce1 (sz + 1) H1 → va_S A H0 H1 locs → W p l e R s m args below meth c H1 locs (cells + 1) (slots + N) Q (F0 m (pc + 2) ls (.ref (ad n) :: rest))) : W p l e R s m args below meth c H locs cells slots Q (F0 m pc ls (.int x :: rest)) :=
  z_newi F hw hA hS n hn har hx0 hN hb4 hcells hslots hdg (fun ad1 ce1 H1 g1 g2 g3 g4 g5 g6 => by
    have e9 := zz_adF g1 g2 had
    subst e9
    rw [← had]
    exact kk ce1 H1 g3 g4 g5 g6)
theorem z_newzF {x : Int32} {N : Nat} (F : zz_F p s m args meth c cc y ret nL G) (hw : zz_W G A ad ce sz H) (hA : ∀ q, H0.size ≤ q → A q) (hS : va_S A H0 H locs) (n : Nat) (hn : ce n = none) (had : ad n = sz) (har : Cond.arrayClass .boolean ∈ zz_T) (hx0 : ¬ x < 0) (hN : x.toNatClampNeg = N) (hb4 : N * 1 ≤ 536870912) (hcells : cells + 1 ≤ R.cells) (hslots : slots + N ≤ R.slots) (hdg : decode cc pc = .ok (.newarray .boolean, 2))
    (kk : ∀ (ce1 : zz_C) (H1 : Heap), ce1 n = some (.inl (zz_cZ G, N, .inl (fun _ => 0))) → (∀ j, j ≠ n → ce1 j = ce j) → zz_W G A ad ce1 (sz + 1) H1 → va_S A H0 H1 locs → W p l e R s m args below meth c H1 locs (cells + 1) (slots + N) Q (F0 m (pc + 2) ls (.ref (ad n) :: rest))) : W p l e R s m args below meth c H locs cells slots Q (F0 m pc ls (.int x :: rest)) :=
  z_newz F hw hA hS n hn har hx0 hN hb4 hcells hslots hdg (fun ad1 ce1 H1 g1 g2 g3 g4 g5 g6 => by
    have e9 := zz_adF g1 g2 had
    subst e9
    rw [← had]
    exact kk ce1 H1 g3 g4 g5 g6)
end ZZ5
end
section
/-! THE REFERENCE'S WORLD: names 100 (the object), 101 .. 111 (counts, sizes, bytes, states, calls, timers, twice, causes, digits, called, here). T 0: its numbers (0 key, 1 otherKey, 2 challenge, 3 accepts, 4 silent, 5 left, 6 area, 7 known, 8 wished, 9 digitCount, 10 calledCount); T 1 .. T 7: the arrays states, calls, timers, twice, causes, digits, called. Q: the two rows of messages, bytes as numbers; M: the message that was taken (size, here). -/
abbrev rf_fs (ad : Nat → Nat) (o : Nat → Int32) (sv : Int32) : List Value := [.int (o 0), .int (o 1), .int (o 2), .int (o 3), .int (o 4), .ref (ad 101), .ref (ad 102), .ref (ad 103), .int (o 5), .ref (ad 104), .ref (ad 105), .ref (ad 106), .ref (ad 107), .ref (ad 108), .int (o 6), .int (o 7), .int (o 8), .ref (ad 109), .int (o 9), .ref (ad 110), .int (o 10), .int sv, .ref (ad 111)]
abbrev rf_T : Type := Nat → Nat → Int32
abbrev rf_Q : Type := Nat → List (List Nat)
def rfA (G : zz_G) (ad : Nat → Nat) (ce : zz_C) (T : rf_T) (cn zs bs hr : Nat → Int32) (sv : Int32) : Prop :=
  ce 100 = some (.inr (5, rf_fs ad (T 0) sv)) ∧ ce 101 = some (.inl (zz_cI G, 2, .inl cn)) ∧ ce 102 = some (.inl (zz_cI G, 16, .inl zs)) ∧ ce 103 = some (.inl (zz_cI G, 384, .inl bs)) ∧ ce 104 = some (.inl (zz_cI G, 2, .inl (T 1))) ∧ ce 105 = some (.inl (zz_cI G, 2, .inl (T 2))) ∧ ce 106 = some (.inl (zz_cI G, 2, .inl (T 3))) ∧ ce 107 = some (.inl (zz_cZ G, 2, .inl (T 4))) ∧ ce 108 = some (.inl (zz_cI G, 2, .inl (T 5))) ∧ ce 109 = some (.inl (zz_cI G, 8, .inl (T 6))) ∧ ce 110 = some (.inl (zz_cI G, 8, .inl (T 7))) ∧ ce 111 = some (.inl (zz_cI G, 24, .inl hr))
/-- message number m holds x -/
def rfm (zs bs : Nat → Int32) (m : Nat) (x : List Nat) : Prop := 2 ≤ x.length ∧ x.length ≤ 24 ∧ zs m = nI x.length ∧ ∀ i, i < x.length → bs (24 * m + i) = nI (x.getD i 0) ∧ x.getD i 0 < 256
def rfQ (cn zs bs : Nat → Int32) (Q : rf_Q) : Prop := ∀ w, w < 2 → (Q w).length ≤ 8 ∧ cn w = nI (Q w).length ∧ ∀ k, k < (Q w).length → rfm zs bs (8 * w + k) ((Q w).getD k [])
def rfM (hr : Nat → Int32) (M : List Nat) : Prop := M.length ≤ 24 ∧ ∀ i, i < M.length → hr i = nI (M.getD i 0) ∧ M.getD i 0 < 256
def rfV (G : zz_G) (ad : Nat → Nat) (ce : zz_C) (T : rf_T) (Q : rf_Q) (M : List Nat) : Prop := ∃ cn zs bs hr, rfA G ad ce T cn zs bs hr (nI M.length) ∧ rfQ cn zs bs Q ∧ rfM hr M
def rf_become (T : rf_T) (k : Nat) (s c t : Int32) : rf_T := va_up (va_up (va_up (va_up T 1 (upd (T 1) k s)) 2 (upd (T 2) k c)) 3 (upd (T 3) k t)) 4 (upd (T 4) k 0)
abbrev rf_inC (T : rf_T) (k : Nat) (lo hi : Int32) : Prop := ¬ T 2 k < lo ∧ ¬ hi < T 2 k
def rf_turned (a b : Int32) : Int32 := (((a ^^^ b) * 16777619) <<< ((5 : Int32) &&& 31)) ||| (((a ^^^ b) * 16777619).toUInt32 >>> ((27 : Int32).toUInt32 &&& Int32.toUInt32 31)).toInt32
/-- is there room for one more in row w; the row with x behind it; its number -/
def rf_room (T : rf_T) (Q : rf_Q) (w : Nat) : Prop := T 0 4 = 0 ∧ (Q w).length < 8
def rf_put (T : rf_T) (Q : rf_Q) (w : Nat) (x : List Nat) : rf_Q := if T 0 4 = 0 ∧ (Q w).length < 8 then va_up Q w (Q w ++ [x]) else Q
def rf_hd (T : rf_T) (Q : rf_Q) (w : Nat) : Int32 := if T 0 4 = 0 ∧ (Q w).length < 8 then nI (8 * w + (Q w).length) else -3
/-- the lowest byte; byte k of an int -/
def rf_zb (b : Int32) : Nat := b.toBitVec.toNat % 256
def rf_rb (v : Int32) (k : Nat) : Nat := v.toBitVec.toNat / 2 ^ (8 * k) % 256
theorem rf_and (b : Int32) : b &&& 255 = nI (rf_zb b) := pk_and b 8 (by decide)
theorem rf_zb_lt (b : Int32) : rf_zb b < 256 := Nat.mod_lt _ (by decide)
theorem rf_rb_lt (v : Int32) (k : Nat) : rf_rb v k < 256 := Nat.mod_lt _ (by decide)
theorem rf_up_s (f : Nat → Int32) (k : Nat) (x : Int32) : upd f k x k = x := pk_us
theorem rf_up_n (f : Nat → Int32) {k j : Nat} (x : Int32) (h : j ≠ k) : upd f k x j = f j := pk_un h
theorem rf_vu_s {α : Type} (f : Nat → α) (k : Nat) (x : α) : va_up f k x k = x := by simp [va_up]
theorem rf_vu_n {α : Type} (f : Nat → α) {k j : Nat} (x : α) (h : j ≠ k) : va_up f k x j = f j := by simp [va_up, h]
theorem rf_gd (q : List (List Nat)) (x : List Nat) : (q ++ [x]).getD q.length [] = x := by simp [List.getD]
theorem rf_gl (q : List (List Nat)) (x : List Nat) {k : Nat} (h : k < q.length) : (q ++ [x]).getD k [] = q.getD k [] := by
  simp [List.getD, List.getElem?_append_left h]
/-- one message more: what is behind the last is free -/
theorem rfQ_more {cn zs bs cn1 zs1 bs1 : Nat → Int32} {Q : rf_Q} {w : Nat} {x : List Nat} (h : rfQ cn zs bs Q) (hw : w < 2) (hl : (Q w).length < 8) (hc : cn1 w = nI ((Q w).length + 1)) (hc2 : ∀ j, j ≠ w → cn1 j = cn j)
    (hz : ∀ j, j ≠ 8 * w + (Q w).length → zs1 j = zs j) (hb : ∀ j, j < 24 * (8 * w + (Q w).length) ∨ 24 * (8 * w + (Q w).length) + 24 ≤ j → bs1 j = bs j) (hx : rfm zs1 bs1 (8 * w + (Q w).length) x) : rfQ cn1 zs1 bs1 (va_up Q w (Q w ++ [x])) := by
  intro v hv
  have old : ∀ v k, v < 2 → k < (Q v).length → 8 * v + k ≠ 8 * w + (Q w).length → rfm zs1 bs1 (8 * v + k) ((Q v).getD k []) := by
    intro v k hv hk hne
    obtain ⟨g1, g2, g3⟩ := h v hv
    obtain ⟨m1, m2, m3, m4⟩ := g3 k hk
    refine ⟨m1, m2, by rw [hz _ hne]; exact m3, fun i hi => ?_⟩
    rw [hb _ (by omega)]
    exact m4 i hi
  by_cases hvw : v = w
  · subst hvw
    rw [rf_vu_s]
    refine ⟨by simp; omega, by simp [hc], fun k hk => ?_⟩
    by_cases hkl : k < (Q v).length
    · rw [rf_gl _ _ hkl]
      exact old v k hv hkl (by omega)
    · have hke : k = (Q v).length := by simp at hk; omega
      subst hke
      rw [rf_gd]
      exact hx
  · rw [rf_vu_n _ _ hvw]
    obtain ⟨g1, g2, g3⟩ := h v hv
    obtain ⟨q1, -, -⟩ := h w hw
    exact ⟨g1, by rw [hc2 v hvw]; exact g2, fun k hk => old v k hv hk (by omega)⟩
theorem rfQ_put {cn zs bs : Nat → Int32} {Q : rf_Q} {w a b : Nat} (h : rfQ cn zs bs Q) (hw : w < 2) (hl : (Q w).length < 8) (ha : a < 256) (hb : b < 256) : rfQ (upd cn w (cn w + 1)) (upd zs (8 * w + (Q w).length) 2) (upd (upd bs (24 * (8 * w + (Q w).length)) (nI a)) (24 * (8 * w + (Q w).length) + 1) (nI b)) (va_up Q w (Q w ++ [[a, b]])) := by
  have hc := (h w hw).2.1
  refine rfQ_more h hw hl (by rw [rf_up_s, hc, nI_1]) (fun j hj => rf_up_n _ _ hj) (fun j hj => rf_up_n _ _ hj) (fun j hj => by rw [rf_up_n _ _ (by omega), rf_up_n _ _ (by omega)]) ⟨by simp, by simp, by rw [rf_up_s]; rfl, fun i hi => ?_⟩
  have hi2 : i = 0 ∨ i = 1 := by simp at hi; omega
  rcases hi2 with rfl | rfl
  · rw [rf_up_n _ _ (by omega), Nat.add_zero, rf_up_s]; exact ⟨rfl, ha⟩
  · rw [rf_up_s]; exact ⟨rfl, hb⟩
/-- the last message becomes another -/
theorem rfQ_last {cn zs bs zs1 bs1 : Nat → Int32} {Q : rf_Q} {w : Nat} {x x1 : List Nat} (h : rfQ cn zs bs (va_up Q w (Q w ++ [x]))) (hw : w < 2)
    (hz : ∀ j, j ≠ 8 * w + (Q w).length → zs1 j = zs j) (hb : ∀ j, j < 24 * (8 * w + (Q w).length) ∨ 24 * (8 * w + (Q w).length) + 24 ≤ j → bs1 j = bs j) (hx : rfm zs1 bs1 (8 * w + (Q w).length) x1) : rfQ cn zs1 bs1 (va_up Q w (Q w ++ [x1])) := by
  have hq := (h w hw).1
  rw [rf_vu_s] at hq
  simp only [List.length_append, List.length_cons, List.length_nil] at hq
  have keep : ∀ m y, m ≠ 8 * w + (Q w).length → rfm zs bs m y → rfm zs1 bs1 m y := by
    intro m y hne hm
    obtain ⟨m1, m2, m3, m4⟩ := hm
    refine ⟨m1, m2, by rw [hz _ hne]; exact m3, fun i hi => ?_⟩
    rw [hb _ (by omega)]
    exact m4 i hi
  intro v hv
  obtain ⟨g1, g2, g3⟩ := h v hv
  by_cases hvw : v = w
  · subst hvw
    rw [rf_vu_s] at g1 g2 g3 ⊢
    refine ⟨by simpa using g1, by simpa using g2, fun k hk => ?_⟩
    by_cases hkl : k < (Q v).length
    · have h3 := g3 k (by simp; omega)
      rw [rf_gl _ _ hkl] at h3 ⊢
      exact keep _ _ (by omega) h3
    · have hke : k = (Q v).length := by simp at hk; omega
      subst hke
      rw [rf_gd]
      exact hx
  · rw [rf_vu_n _ _ hvw] at g1 g2 g3 ⊢
    exact ⟨g1, g2, fun k hk => keep _ _ (by omega) (g3 k hk)⟩
theorem rfQ_at {cn zs bs : Nat → Int32} {Q : rf_Q} {w : Nat} {x : List Nat} (h : rfQ cn zs bs (va_up Q w (Q w ++ [x]))) (hw : w < 2) : (Q w).length < 8 ∧ rfm zs bs (8 * w + (Q w).length) x := by
  obtain ⟨g1, g2, g3⟩ := h w hw
  rw [rf_vu_s] at g1 g2 g3
  have h3 := g3 (Q w).length (by simp)
  rw [rf_gd] at h3
  simp only [List.length_append, List.length_cons, List.length_nil] at g1
  exact ⟨by omega, h3⟩
theorem rf_ga (x : List Nat) (c : Nat) : (x ++ [c]).getD x.length 0 = c := by simp [List.getD]
theorem rf_gb (x : List Nat) (c : Nat) {i : Nat} (h : i < x.length) : (x ++ [c]).getD i 0 = x.getD i 0 := by simp [List.getD, List.getElem?_append_left h]
theorem rfQ_byte {cn zs bs : Nat → Int32} {Q : rf_Q} {w c : Nat} {x : List Nat} (h : rfQ cn zs bs (va_up Q w (Q w ++ [x]))) (hw : w < 2) (hl : x.length < 24) (hc : c < 256) : rfQ cn (upd zs (8 * w + (Q w).length) (zs (8 * w + (Q w).length) + 1)) (upd bs (24 * (8 * w + (Q w).length) + x.length) (nI c)) (va_up Q w (Q w ++ [x ++ [c]])) := by
  obtain ⟨g0, m1, m2, m3, m4⟩ := rfQ_at h hw
  refine rfQ_last h hw (fun j hj => rf_up_n _ _ hj) (fun j hj => rf_up_n _ _ (by omega)) ⟨by simp; omega, by simp; omega, by rw [rf_up_s, m3, nI_1]; simp, fun i hi => ?_⟩
  by_cases hil : i < x.length
  · rw [rf_gb _ _ hil, rf_up_n _ _ (by omega)]
    exact m4 i hil
  · have hie : i = x.length := by simp at hi; omega
    subst hie
    rw [rf_ga, rf_up_s]
    exact ⟨rfl, hc⟩
theorem rf_sh (v s : Int32) (k : Nat) (hs : (s.toBitVec.smod 32).toNat = 8 * k) (hk : k ≤ 3) : rf_zb (v >>> s) = rf_rb v k := by
  have e : (v >>> s).toBitVec = v.toBitVec.sshiftRight (8 * k) := by
    show v.toBitVec.sshiftRight' (s.toBitVec.smod 32) = _
    rw [BitVec.sshiftRight', hs]
  have h1 : (v.toBitVec.sshiftRight (8 * k)).setWidth 8 = (v.toBitVec >>> (8 * k)).setWidth 8 := by
    apply BitVec.eq_of_getLsbD_eq
    intro i hi
    simp only [BitVec.getLsbD_setWidth, BitVec.getLsbD_sshiftRight, BitVec.getLsbD_ushiftRight]
    have h9 : 8 * k + i < 32 := by omega
    simp [hi, h9]
    intro _
    omega
  have h2 := congrArg BitVec.toNat h1
  simp only [BitVec.toNat_setWidth, BitVec.toNat_ushiftRight, Nat.shiftRight_eq_div_pow] at h2
  unfold rf_zb rf_rb
  rw [e]
  exact h2
theorem rf_sh0 (v : Int32) : rf_zb (v >>> ((0 : Int32) &&& 31)) = rf_rb v 0 := rf_sh v _ 0 (by decide) (by decide)
theorem rf_sh8 (v : Int32) : rf_zb (v >>> ((8 : Int32) &&& 31)) = rf_rb v 1 := rf_sh v _ 1 (by decide) (by decide)
theorem rf_sh16 (v : Int32) : rf_zb (v >>> ((16 : Int32) &&& 31)) = rf_rb v 2 := rf_sh v _ 2 (by decide) (by decide)
theorem rf_sh24 (v : Int32) : rf_zb (v >>> ((24 : Int32) &&& 31)) = rf_rb v 3 := rf_sh v _ 3 (by decide) (by decide)
theorem rf_zb_nI {n : Nat} (h : n < 256) : rf_zb (nI n) = n := by
  unfold rf_zb
  rw [pk_tn (by omega)]
  exact Nat.mod_eq_of_lt h
/-- the bytes of a number of n bytes, the highest first -/
def rf_bytes (n : Nat) (v : Int32) : List Nat := (List.range n).map (fun j => rf_rb v (n - 1 - j))
end
section
def rf_T0 (a b c : Int32) : rf_T := fun i => match i with
  | 0 => fun j => (match j with | 0 => a | 1 => b | 2 => c | 3 => 3 | 7 => -1 | _ => 0)
  | 5 => upd (upd (fun _ => 0) 0 (-1)) 1 (-1)
  | _ => fun _ => 0
theorem rfQ_0 : rfQ (fun _ => 0) (fun _ => 0) (fun _ => 0) (fun _ => []) := fun w hw => ⟨by simp, rfl, fun k hk => by simp at hk⟩
theorem rfM_0 (f : Nat → Int32) : rfM f [] := ⟨by simp, fun i hi => by simp at hi⟩
theorem wd_ai : (Jvm.Cond.arrayClass Jvm.ClassFile.FieldType.int) ∈ zz_T := zz_mem (List.mem_of_getElem? (i := 81) (by decide +kernel)) (by decide +kernel)
theorem wd_ab : (Jvm.Cond.arrayClass Jvm.ClassFile.FieldType.boolean) ∈ zz_T := zz_mem (List.mem_of_getElem? (i := 757) (by decide +kernel)) (by decide +kernel)
set_option maxHeartbeats 4000000 in
set_option maxRecDepth 100000 in
theorem r_init (l : Launch) {G : zz_G} {ad0 : Nat → Nat} {ce : zz_C} {sz : Nat} (a b c0 : Int32) (h100 : ce 100 = some (.inr (5, [.int 0, .int 0, .int 0, .int 0, .int 0, .null, .null, .null, .int 0, .null, .null, .null, .null, .null, .int 0, .int 0, .int 0, .null, .int 0, .null, .int 0, .int 0, .null]))) (hN : ∀ j, 101 ≤ j → j ≤ 111 → ce j = none) : zz_M l yX6_init cX6_init 4 none 1 40 11 452 G [.ref (ad0 100), .int a, .int b, .int c0] ad0 ce sz (fun r ad1 ce1 => r = none ∧ rfV G ad1 ce1 (rf_T0 a b c0) (fun _ => []) [] ∧ (∀ j, j ≤ 100 ∨ 111 < j → ad1 j = ad0 j) ∧ ∀ j, j < 100 → ce1 j = ce j) := by
  refine zz_enter (by decide) (Nat.le_of_ble_eq_true rfl) ?_
  intro p e s m below meth c ls F hl hw hS hA
  obtain ⟨hx, hb, hr, hml, hown, hts, hlocks, hK, hnm⟩ := id F
  obtain ⟨ad, hadD⟩ : ∃ ad : Nat → Nat, ∀ j, ad j = if 101 ≤ j ∧ j ≤ 111 then sz + (j - 101) else ad0 j := ⟨_, fun _ => rfl⟩
  have had : ∀ j, 101 ≤ j → j ≤ 111 → ad j = sz + (j - 101) := fun j h1 h2 => by rw [hadD, if_pos ⟨h1, h2⟩]
  have hadK : ∀ j, j ≤ 100 ∨ 111 < j → ad j = ad0 j := fun j h => by rw [hadD, if_neg (fun q => by omega)]
  have hl : lv_has ls 4 [(0, .ref (ad 100)), (1, .int a), (2, .int b), (3, .int c0)] := by rw [hadK 100 (by decide)]; exact hl
  have hw := hw.adr (ad1 := ad) (fun n x hn => hadK n (Nat.le_or_gt n 100 |>.elim Or.inl (fun h1 => Or.inr (Nat.lt_of_not_le (fun h2 => by rw [hN n h1 h2] at hn; cases hn)))))
  have hF : ∀ j, j < 100 → ce j = ce j := fun _ _ => rfl
  refine lv_aload_n hx hb dX6_init_0 rfl (lv_at hl 0 rfl) ?_
  refine W.objInit hx hb hown (hts _ wd_641) (hts _ wd_14) (hts _ wd_15) rfl (by rw [hml]; exact hl.1) rfl dX6_init_1 (Nat.le_of_ble_eq_true rfl) (Nat.le_of_ble_eq_true rfl) ?_
  refine W.eq (g2 := F0 m 4 ls []) rfl ?_
  refine lv_aload_n hx hb dX6_init_4 rfl (lv_at hl 0 rfl) ?_
  refine lv_iconst (v := 3) hx hb dX6_init_5 (by decide) ?_
  refine z_put F hw hS (fs' := [.int 0, .int 0, .int 0, .int 3, .int 0, .null, .null, .null, .int 0, .null, .null, .null, .null, .null, .int 0, .int 0, .int 0, .null, .int 0, .null, .int 0, .int 0, .null]) h100 fd_X6_7_X6 ptX6 rfl (rfl) (rfl) (Nat.le_of_ble_eq_true rfl) rfl dX6_init_6 (fun ce1 H locs h100 fr2 hw hS => ?_)
  have hN : ∀ j, 101 ≤ j → j ≤ 111 → _ = none := fun j h1 h2 => (fr2 j (by omega)).trans (hN j (by omega) h2)
  have hF : ∀ j, j < 100 → _ = ce j := fun j hj => (fr2 j (by omega)).trans (hF j hj)
  refine lv_aload_n hx hb dX6_init_9 rfl (lv_at hl 0 rfl) ?_
  refine lv_iconst (v := 2) hx hb dX6_init_10 (by decide) ?_
  refine z_newiF F hw hA hS 101 (hN 101 (by decide) (by decide)) (had 101 (by decide) (by decide)) wd_ai (by decide) (N := 2) (by decide) (by decide) (Nat.le_of_ble_eq_true rfl) (Nat.le_of_ble_eq_true rfl) dX6_init_11 (fun ce3 H h101 fr4 hw hS => ?_)
  have h100 := (fr4 100 (by decide)).trans h100
  have hN : ∀ j, 102 ≤ j → j ≤ 111 → _ = none := fun j h1 h2 => (fr4 j (by omega)).trans (hN j (by omega) h2)
  have hF : ∀ j, j < 100 → _ = ce j := fun j hj => (fr4 j (by omega)).trans (hF j hj)
  refine z_putF F rfl hw hS (fs' := [.int 0, .int 0, .int 0, .int 3, .int 0, .ref (ad 101), .null, .null, .int 0, .null, .null, .null, .null, .null, .int 0, .int 0, .int 0, .null, .int 0, .null, .int 0, .int 0, .null]) h100 fd_X6_13_X6 ptX6 rfl rfl (rfl) (rfl) (Nat.le_of_ble_eq_true rfl) rfl dX6_init_13 (fun ce5 H locs h100 fr6 hw hS => ?_)
  have h101 := (fr6 101 (by decide)).trans h101
  have hN : ∀ j, 102 ≤ j → j ≤ 111 → _ = none := fun j h1 h2 => (fr6 j (by omega)).trans (hN j (by omega) h2)
  have hF : ∀ j, j < 100 → _ = ce j := fun j hj => (fr6 j (by omega)).trans (hF j hj)
  refine lv_aload_n hx hb dX6_init_16 rfl (lv_at hl 0 rfl) ?_
  refine lv_bipush (v := 16) hx hb dX6_init_17 (by decide) ?_
  refine z_newiF F hw hA hS 102 (hN 102 (by decide) (by decide)) (had 102 (by decide) (by decide)) wd_ai (by decide) (N := 16) (by decide) (by decide) (Nat.le_of_ble_eq_true rfl) (Nat.le_of_ble_eq_true rfl) dX6_init_19 (fun ce7 H h102 fr8 hw hS => ?_)
  have h100 := (fr8 100 (by decide)).trans h100
  have h101 := (fr8 101 (by decide)).trans h101
  have hN : ∀ j, 103 ≤ j → j ≤ 111 → _ = none := fun j h1 h2 => (fr8 j (by omega)).trans (hN j (by omega) h2)
  have hF : ∀ j, j < 100 → _ = ce j := fun j hj => (fr8 j (by omega)).trans (hF j hj)
  refine z_putF F rfl hw hS (fs' := [.int 0, .int 0, .int 0, .int 3, .int 0, .ref (ad 101), .ref (ad 102), .null, .int 0, .null, .null, .null, .null, .null, .int 0, .int 0, .int 0, .null, .int 0, .null, .int 0, .int 0, .null]) h100 fd_X6_17_X6 ptX6 rfl rfl (rfl) (rfl) (Nat.le_of_ble_eq_true rfl) rfl dX6_init_21 (fun ce9 H locs h100 fr10 hw hS => ?_)
  have h101 := (fr10 101 (by decide)).trans h101
  have h102 := (fr10 102 (by decide)).trans h102
  have hN : ∀ j, 103 ≤ j → j ≤ 111 → _ = none := fun j h1 h2 => (fr10 j (by omega)).trans (hN j (by omega) h2)
  have hF : ∀ j, j < 100 → _ = ce j := fun j hj => (fr10 j (by omega)).trans (hF j hj)
  refine lv_aload_n hx hb dX6_init_24 rfl (lv_at hl 0 rfl) ?_
  refine lv_sipush (v := 384) hx hb dX6_init_25 (by decide) ?_
  refine z_newiF F hw hA hS 103 (hN 103 (by decide) (by decide)) (had 103 (by decide) (by decide)) wd_ai (by decide) (N := 384) (by decide) (by decide) (Nat.le_of_ble_eq_true rfl) (Nat.le_of_ble_eq_true rfl) dX6_init_28 (fun ce11 H h103 fr12 hw hS => ?_)
  have h100 := (fr12 100 (by decide)).trans h100
  have h101 := (fr12 101 (by decide)).trans h101
  have h102 := (fr12 102 (by decide)).trans h102
  have hN : ∀ j, 104 ≤ j → j ≤ 111 → _ = none := fun j h1 h2 => (fr12 j (by omega)).trans (hN j (by omega) h2)
  have hF : ∀ j, j < 100 → _ = ce j := fun j hj => (fr12 j (by omega)).trans (hF j hj)
  refine z_putF F rfl hw hS (fs' := [.int 0, .int 0, .int 0, .int 3, .int 0, .ref (ad 101), .ref (ad 102), .ref (ad 103), .int 0, .null, .null, .null, .null, .null, .int 0, .int 0, .int 0, .null, .int 0, .null, .int 0, .int 0, .null]) h100 fd_X6_20_X6 ptX6 rfl rfl (rfl) (rfl) (Nat.le_of_ble_eq_true rfl) rfl dX6_init_30 (fun ce13 H locs h100 fr14 hw hS => ?_)
  have h101 := (fr14 101 (by decide)).trans h101
  have h102 := (fr14 102 (by decide)).trans h102
  have h103 := (fr14 103 (by decide)).trans h103
  have hN : ∀ j, 104 ≤ j → j ≤ 111 → _ = none := fun j h1 h2 => (fr14 j (by omega)).trans (hN j (by omega) h2)
  have hF : ∀ j, j < 100 → _ = ce j := fun j hj => (fr14 j (by omega)).trans (hF j hj)
  refine lv_aload_n hx hb dX6_init_33 rfl (lv_at hl 0 rfl) ?_
  refine lv_iconst (v := 2) hx hb dX6_init_34 (by decide) ?_
  refine z_newiF F hw hA hS 104 (hN 104 (by decide) (by decide)) (had 104 (by decide) (by decide)) wd_ai (by decide) (N := 2) (by decide) (by decide) (Nat.le_of_ble_eq_true rfl) (Nat.le_of_ble_eq_true rfl) dX6_init_35 (fun ce15 H h104 fr16 hw hS => ?_)
  have h100 := (fr16 100 (by decide)).trans h100
  have h101 := (fr16 101 (by decide)).trans h101
  have h102 := (fr16 102 (by decide)).trans h102
  have h103 := (fr16 103 (by decide)).trans h103
  have hN : ∀ j, 105 ≤ j → j ≤ 111 → _ = none := fun j h1 h2 => (fr16 j (by omega)).trans (hN j (by omega) h2)
  have hF : ∀ j, j < 100 → _ = ce j := fun j hj => (fr16 j (by omega)).trans (hF j hj)
  refine z_putF F rfl hw hS (fs' := [.int 0, .int 0, .int 0, .int 3, .int 0, .ref (ad 101), .ref (ad 102), .ref (ad 103), .int 0, .ref (ad 104), .null, .null, .null, .null, .int 0, .int 0, .int 0, .null, .int 0, .null, .int 0, .int 0, .null]) h100 fd_X6_23_X6 ptX6 rfl rfl (rfl) (rfl) (Nat.le_of_ble_eq_true rfl) rfl dX6_init_37 (fun ce17 H locs h100 fr18 hw hS => ?_)
  have h101 := (fr18 101 (by decide)).trans h101
  have h102 := (fr18 102 (by decide)).trans h102
  have h103 := (fr18 103 (by decide)).trans h103
  have h104 := (fr18 104 (by decide)).trans h104
  have hN : ∀ j, 105 ≤ j → j ≤ 111 → _ = none := fun j h1 h2 => (fr18 j (by omega)).trans (hN j (by omega) h2)
  have hF : ∀ j, j < 100 → _ = ce j := fun j hj => (fr18 j (by omega)).trans (hF j hj)
  refine lv_aload_n hx hb dX6_init_40 rfl (lv_at hl 0 rfl) ?_
  refine lv_iconst (v := 2) hx hb dX6_init_41 (by decide) ?_
  refine z_newiF F hw hA hS 105 (hN 105 (by decide) (by decide)) (had 105 (by decide) (by decide)) wd_ai (by decide) (N := 2) (by decide) (by decide) (Nat.le_of_ble_eq_true rfl) (Nat.le_of_ble_eq_true rfl) dX6_init_42 (fun ce19 H h105 fr20 hw hS => ?_)
  have h100 := (fr20 100 (by decide)).trans h100
  have h101 := (fr20 101 (by decide)).trans h101
  have h102 := (fr20 102 (by decide)).trans h102
  have h103 := (fr20 103 (by decide)).trans h103
  have h104 := (fr20 104 (by decide)).trans h104
  have hN : ∀ j, 106 ≤ j → j ≤ 111 → _ = none := fun j h1 h2 => (fr20 j (by omega)).trans (hN j (by omega) h2)
  have hF : ∀ j, j < 100 → _ = ce j := fun j hj => (fr20 j (by omega)).trans (hF j hj)
  refine z_putF F rfl hw hS (fs' := [.int 0, .int 0, .int 0, .int 3, .int 0, .ref (ad 101), .ref (ad 102), .ref (ad 103), .int 0, .ref (ad 104), .ref (ad 105), .null, .null, .null, .int 0, .int 0, .int 0, .null, .int 0, .null, .int 0, .int 0, .null]) h100 fd_X6_26_X6 ptX6 rfl rfl (rfl) (rfl) (Nat.le_of_ble_eq_true rfl) rfl dX6_init_44 (fun ce21 H locs h100 fr22 hw hS => ?_)
  have h101 := (fr22 101 (by decide)).trans h101
  have h102 := (fr22 102 (by decide)).trans h102
  have h103 := (fr22 103 (by decide)).trans h103
  have h104 := (fr22 104 (by decide)).trans h104
  have h105 := (fr22 105 (by decide)).trans h105
  have hN : ∀ j, 106 ≤ j → j ≤ 111 → _ = none := fun j h1 h2 => (fr22 j (by omega)).trans (hN j (by omega) h2)
  have hF : ∀ j, j < 100 → _ = ce j := fun j hj => (fr22 j (by omega)).trans (hF j hj)
  refine lv_aload_n hx hb dX6_init_47 rfl (lv_at hl 0 rfl) ?_
  refine lv_iconst (v := 2) hx hb dX6_init_48 (by decide) ?_
  refine z_newiF F hw hA hS 106 (hN 106 (by decide) (by decide)) (had 106 (by decide) (by decide)) wd_ai (by decide) (N := 2) (by decide) (by decide) (Nat.le_of_ble_eq_true rfl) (Nat.le_of_ble_eq_true rfl) dX6_init_49 (fun ce23 H h106 fr24 hw hS => ?_)
  have h100 := (fr24 100 (by decide)).trans h100
  have h101 := (fr24 101 (by decide)).trans h101
  have h102 := (fr24 102 (by decide)).trans h102
  have h103 := (fr24 103 (by decide)).trans h103
  have h104 := (fr24 104 (by decide)).trans h104
  have h105 := (fr24 105 (by decide)).trans h105
  have hN : ∀ j, 107 ≤ j → j ≤ 111 → _ = none := fun j h1 h2 => (fr24 j (by omega)).trans (hN j (by omega) h2)
  have hF : ∀ j, j < 100 → _ = ce j := fun j hj => (fr24 j (by omega)).trans (hF j hj)
  refine z_putF F rfl hw hS (fs' := [.int 0, .int 0, .int 0, .int 3, .int 0, .ref (ad 101), .ref (ad 102), .ref (ad 103), .int 0, .ref (ad 104), .ref (ad 105), .ref (ad 106), .null, .null, .int 0, .int 0, .int 0, .null, .int 0, .null, .int 0, .int 0, .null]) h100 fd_X6_29_X6 ptX6 rfl rfl (rfl) (rfl) (Nat.le_of_ble_eq_true rfl) rfl dX6_init_51 (fun ce25 H locs h100 fr26 hw hS => ?_)
  have h101 := (fr26 101 (by decide)).trans h101
  have h102 := (fr26 102 (by decide)).trans h102
  have h103 := (fr26 103 (by decide)).trans h103
  have h104 := (fr26 104 (by decide)).trans h104
  have h105 := (fr26 105 (by decide)).trans h105
  have h106 := (fr26 106 (by decide)).trans h106
  have hN : ∀ j, 107 ≤ j → j ≤ 111 → _ = none := fun j h1 h2 => (fr26 j (by omega)).trans (hN j (by omega) h2)
  have hF : ∀ j, j < 100 → _ = ce j := fun j hj => (fr26 j (by omega)).trans (hF j hj)
  refine lv_aload_n hx hb dX6_init_54 rfl (lv_at hl 0 rfl) ?_
  refine lv_iconst (v := 2) hx hb dX6_init_55 (by decide) ?_
  refine z_newzF F hw hA hS 107 (hN 107 (by decide) (by decide)) (had 107 (by decide) (by decide)) wd_ab (by decide) (N := 2) (by decide) (by decide) (Nat.le_of_ble_eq_true rfl) (Nat.le_of_ble_eq_true rfl) dX6_init_56 (fun ce27 H h107 fr28 hw hS => ?_)
  have h100 := (fr28 100 (by decide)).trans h100
  have h101 := (fr28 101 (by decide)).trans h101
  have h102 := (fr28 102 (by decide)).trans h102
  have h103 := (fr28 103 (by decide)).trans h103
  have h104 := (fr28 104 (by decide)).trans h104
  have h105 := (fr28 105 (by decide)).trans h105
  have h106 := (fr28 106 (by decide)).trans h106
  have hN : ∀ j, 108 ≤ j → j ≤ 111 → _ = none := fun j h1 h2 => (fr28 j (by omega)).trans (hN j (by omega) h2)
  have hF : ∀ j, j < 100 → _ = ce j := fun j hj => (fr28 j (by omega)).trans (hF j hj)
  refine z_putF F rfl hw hS (fs' := [.int 0, .int 0, .int 0, .int 3, .int 0, .ref (ad 101), .ref (ad 102), .ref (ad 103), .int 0, .ref (ad 104), .ref (ad 105), .ref (ad 106), .ref (ad 107), .null, .int 0, .int 0, .int 0, .null, .int 0, .null, .int 0, .int 0, .null]) h100 fd_X6_32_X6 ptX6 rfl rfl (rfl) (rfl) (Nat.le_of_ble_eq_true rfl) rfl dX6_init_58 (fun ce29 H locs h100 fr30 hw hS => ?_)
  have h101 := (fr30 101 (by decide)).trans h101
  have h102 := (fr30 102 (by decide)).trans h102
  have h103 := (fr30 103 (by decide)).trans h103
  have h104 := (fr30 104 (by decide)).trans h104
  have h105 := (fr30 105 (by decide)).trans h105
  have h106 := (fr30 106 (by decide)).trans h106
  have h107 := (fr30 107 (by decide)).trans h107
  have hN : ∀ j, 108 ≤ j → j ≤ 111 → _ = none := fun j h1 h2 => (fr30 j (by omega)).trans (hN j (by omega) h2)
  have hF : ∀ j, j < 100 → _ = ce j := fun j hj => (fr30 j (by omega)).trans (hF j hj)
  refine lv_aload_n hx hb dX6_init_61 rfl (lv_at hl 0 rfl) ?_
  refine lv_iconst (v := 2) hx hb dX6_init_62 (by decide) ?_
  refine z_newiF F hw hA hS 108 (hN 108 (by decide) (by decide)) (had 108 (by decide) (by decide)) wd_ai (by decide) (N := 2) (by decide) (by decide) (Nat.le_of_ble_eq_true rfl) (Nat.le_of_ble_eq_true rfl) dX6_init_63 (fun ce31 H h108 fr32 hw hS => ?_)
  have h100 := (fr32 100 (by decide)).trans h100
  have h101 := (fr32 101 (by decide)).trans h101
  have h102 := (fr32 102 (by decide)).trans h102
  have h103 := (fr32 103 (by decide)).trans h103
  have h104 := (fr32 104 (by decide)).trans h104
  have h105 := (fr32 105 (by decide)).trans h105
  have h106 := (fr32 106 (by decide)).trans h106
  have h107 := (fr32 107 (by decide)).trans h107
  have hN : ∀ j, 109 ≤ j → j ≤ 111 → _ = none := fun j h1 h2 => (fr32 j (by omega)).trans (hN j (by omega) h2)
  have hF : ∀ j, j < 100 → _ = ce j := fun j hj => (fr32 j (by omega)).trans (hF j hj)
  refine z_putF F rfl hw hS (fs' := [.int 0, .int 0, .int 0, .int 3, .int 0, .ref (ad 101), .ref (ad 102), .ref (ad 103), .int 0, .ref (ad 104), .ref (ad 105), .ref (ad 106), .ref (ad 107), .ref (ad 108), .int 0, .int 0, .int 0, .null, .int 0, .null, .int 0, .int 0, .null]) h100 fd_X6_36_X6 ptX6 rfl rfl (rfl) (rfl) (Nat.le_of_ble_eq_true rfl) rfl dX6_init_65 (fun ce33 H locs h100 fr34 hw hS => ?_)
  have h101 := (fr34 101 (by decide)).trans h101
  have h102 := (fr34 102 (by decide)).trans h102
  have h103 := (fr34 103 (by decide)).trans h103
  have h104 := (fr34 104 (by decide)).trans h104
  have h105 := (fr34 105 (by decide)).trans h105
  have h106 := (fr34 106 (by decide)).trans h106
  have h107 := (fr34 107 (by decide)).trans h107
  have h108 := (fr34 108 (by decide)).trans h108
  have hN : ∀ j, 109 ≤ j → j ≤ 111 → _ = none := fun j h1 h2 => (fr34 j (by omega)).trans (hN j (by omega) h2)
  have hF : ∀ j, j < 100 → _ = ce j := fun j hj => (fr34 j (by omega)).trans (hF j hj)
  refine lv_aload_n hx hb dX6_init_68 rfl (lv_at hl 0 rfl) ?_
  refine lv_iconst (v := -1) hx hb dX6_init_69 (by decide) ?_
  refine z_put F hw hS (fs' := [.int 0, .int 0, .int 0, .int 3, .int 0, .ref (ad 101), .ref (ad 102), .ref (ad 103), .int 0, .ref (ad 104), .ref (ad 105), .ref (ad 106), .ref (ad 107), .ref (ad 108), .int 0, .int (-1), .int 0, .null, .int 0, .null, .int 0, .int 0, .null]) h100 fd_X6_39_X6 ptX6 rfl (rfl) (rfl) (Nat.le_of_ble_eq_true rfl) rfl dX6_init_70 (fun ce35 H locs h100 fr36 hw hS => ?_)
  have h101 := (fr36 101 (by decide)).trans h101
  have h102 := (fr36 102 (by decide)).trans h102
  have h103 := (fr36 103 (by decide)).trans h103
  have h104 := (fr36 104 (by decide)).trans h104
  have h105 := (fr36 105 (by decide)).trans h105
  have h106 := (fr36 106 (by decide)).trans h106
  have h107 := (fr36 107 (by decide)).trans h107
  have h108 := (fr36 108 (by decide)).trans h108
  have hN : ∀ j, 109 ≤ j → j ≤ 111 → _ = none := fun j h1 h2 => (fr36 j (by omega)).trans (hN j (by omega) h2)
  have hF : ∀ j, j < 100 → _ = ce j := fun j hj => (fr36 j (by omega)).trans (hF j hj)
  refine lv_aload_n hx hb dX6_init_73 rfl (lv_at hl 0 rfl) ?_
  refine lv_bipush (v := 8) hx hb dX6_init_74 (by decide) ?_
  refine z_newiF F hw hA hS 109 (hN 109 (by decide) (by decide)) (had 109 (by decide) (by decide)) wd_ai (by decide) (N := 8) (by decide) (by decide) (Nat.le_of_ble_eq_true rfl) (Nat.le_of_ble_eq_true rfl) dX6_init_76 (fun ce37 H h109 fr38 hw hS => ?_)
  have h100 := (fr38 100 (by decide)).trans h100
  have h101 := (fr38 101 (by decide)).trans h101
  have h102 := (fr38 102 (by decide)).trans h102
  have h103 := (fr38 103 (by decide)).trans h103
  have h104 := (fr38 104 (by decide)).trans h104
  have h105 := (fr38 105 (by decide)).trans h105
  have h106 := (fr38 106 (by decide)).trans h106
  have h107 := (fr38 107 (by decide)).trans h107
  have h108 := (fr38 108 (by decide)).trans h108
  have hN : ∀ j, 110 ≤ j → j ≤ 111 → _ = none := fun j h1 h2 => (fr38 j (by omega)).trans (hN j (by omega) h2)
  have hF : ∀ j, j < 100 → _ = ce j := fun j hj => (fr38 j (by omega)).trans (hF j hj)
  refine z_putF F rfl hw hS (fs' := [.int 0, .int 0, .int 0, .int 3, .int 0, .ref (ad 101), .ref (ad 102), .ref (ad 103), .int 0, .ref (ad 104), .ref (ad 105), .ref (ad 106), .ref (ad 107), .ref (ad 108), .int 0, .int (-1), .int 0, .ref (ad 109), .int 0, .null, .int 0, .int 0, .null]) h100 fd_X6_42_X6 ptX6 rfl rfl (rfl) (rfl) (Nat.le_of_ble_eq_true rfl) rfl dX6_init_78 (fun ce39 H locs h100 fr40 hw hS => ?_)
  have h101 := (fr40 101 (by decide)).trans h101
  have h102 := (fr40 102 (by decide)).trans h102
  have h103 := (fr40 103 (by decide)).trans h103
  have h104 := (fr40 104 (by decide)).trans h104
  have h105 := (fr40 105 (by decide)).trans h105
  have h106 := (fr40 106 (by decide)).trans h106
  have h107 := (fr40 107 (by decide)).trans h107
  have h108 := (fr40 108 (by decide)).trans h108
  have h109 := (fr40 109 (by decide)).trans h109
  have hN : ∀ j, 110 ≤ j → j ≤ 111 → _ = none := fun j h1 h2 => (fr40 j (by omega)).trans (hN j (by omega) h2)
  have hF : ∀ j, j < 100 → _ = ce j := fun j hj => (fr40 j (by omega)).trans (hF j hj)
  refine lv_aload_n hx hb dX6_init_81 rfl (lv_at hl 0 rfl) ?_
  refine lv_bipush (v := 8) hx hb dX6_init_82 (by decide) ?_
  refine z_newiF F hw hA hS 110 (hN 110 (by decide) (by decide)) (had 110 (by decide) (by decide)) wd_ai (by decide) (N := 8) (by decide) (by decide) (Nat.le_of_ble_eq_true rfl) (Nat.le_of_ble_eq_true rfl) dX6_init_84 (fun ce41 H h110 fr42 hw hS => ?_)
  have h100 := (fr42 100 (by decide)).trans h100
  have h101 := (fr42 101 (by decide)).trans h101
  have h102 := (fr42 102 (by decide)).trans h102
  have h103 := (fr42 103 (by decide)).trans h103
  have h104 := (fr42 104 (by decide)).trans h104
  have h105 := (fr42 105 (by decide)).trans h105
  have h106 := (fr42 106 (by decide)).trans h106
  have h107 := (fr42 107 (by decide)).trans h107
  have h108 := (fr42 108 (by decide)).trans h108
  have h109 := (fr42 109 (by decide)).trans h109
  have hN : ∀ j, 111 ≤ j → j ≤ 111 → _ = none := fun j h1 h2 => (fr42 j (by omega)).trans (hN j (by omega) h2)
  have hF : ∀ j, j < 100 → _ = ce j := fun j hj => (fr42 j (by omega)).trans (hF j hj)
  refine z_putF F rfl hw hS (fs' := [.int 0, .int 0, .int 0, .int 3, .int 0, .ref (ad 101), .ref (ad 102), .ref (ad 103), .int 0, .ref (ad 104), .ref (ad 105), .ref (ad 106), .ref (ad 107), .ref (ad 108), .int 0, .int (-1), .int 0, .ref (ad 109), .int 0, .ref (ad 110), .int 0, .int 0, .null]) h100 fd_X6_45_X6 ptX6 rfl rfl (rfl) (rfl) (Nat.le_of_ble_eq_true rfl) rfl dX6_init_86 (fun ce43 H locs h100 fr44 hw hS => ?_)
  have h101 := (fr44 101 (by decide)).trans h101
  have h102 := (fr44 102 (by decide)).trans h102
  have h103 := (fr44 103 (by decide)).trans h103
  have h104 := (fr44 104 (by decide)).trans h104
  have h105 := (fr44 105 (by decide)).trans h105
  have h106 := (fr44 106 (by decide)).trans h106
  have h107 := (fr44 107 (by decide)).trans h107
  have h108 := (fr44 108 (by decide)).trans h108
  have h109 := (fr44 109 (by decide)).trans h109
  have h110 := (fr44 110 (by decide)).trans h110
  have hN : ∀ j, 111 ≤ j → j ≤ 111 → _ = none := fun j h1 h2 => (fr44 j (by omega)).trans (hN j (by omega) h2)
  have hF : ∀ j, j < 100 → _ = ce j := fun j hj => (fr44 j (by omega)).trans (hF j hj)
  refine lv_aload_n hx hb dX6_init_89 rfl (lv_at hl 0 rfl) ?_
  refine lv_bipush (v := 24) hx hb dX6_init_90 (by decide) ?_
  refine z_newiF F hw hA hS 111 (hN 111 (by decide) (by decide)) (had 111 (by decide) (by decide)) wd_ai (by decide) (N := 24) (by decide) (by decide) (Nat.le_of_ble_eq_true rfl) (Nat.le_of_ble_eq_true rfl) dX6_init_92 (fun ce45 H h111 fr46 hw hS => ?_)
  have h100 := (fr46 100 (by decide)).trans h100
  have h101 := (fr46 101 (by decide)).trans h101
  have h102 := (fr46 102 (by decide)).trans h102
  have h103 := (fr46 103 (by decide)).trans h103
  have h104 := (fr46 104 (by decide)).trans h104
  have h105 := (fr46 105 (by decide)).trans h105
  have h106 := (fr46 106 (by decide)).trans h106
  have h107 := (fr46 107 (by decide)).trans h107
  have h108 := (fr46 108 (by decide)).trans h108
  have h109 := (fr46 109 (by decide)).trans h109
  have h110 := (fr46 110 (by decide)).trans h110
  have hN : ∀ j, 112 ≤ j → j ≤ 111 → _ = none := fun j h1 h2 => (fr46 j (by omega)).trans (hN j (by omega) h2)
  have hF : ∀ j, j < 100 → _ = ce j := fun j hj => (fr46 j (by omega)).trans (hF j hj)
  refine z_putF F rfl hw hS (fs' := [.int 0, .int 0, .int 0, .int 3, .int 0, .ref (ad 101), .ref (ad 102), .ref (ad 103), .int 0, .ref (ad 104), .ref (ad 105), .ref (ad 106), .ref (ad 107), .ref (ad 108), .int 0, .int (-1), .int 0, .ref (ad 109), .int 0, .ref (ad 110), .int 0, .int 0, .ref (ad 111)]) h100 fd_X6_48_X6 ptX6 rfl rfl (rfl) (rfl) (Nat.le_of_ble_eq_true rfl) rfl dX6_init_94 (fun ce47 H locs h100 fr48 hw hS => ?_)
  have h101 := (fr48 101 (by decide)).trans h101
  have h102 := (fr48 102 (by decide)).trans h102
  have h103 := (fr48 103 (by decide)).trans h103
  have h104 := (fr48 104 (by decide)).trans h104
  have h105 := (fr48 105 (by decide)).trans h105
  have h106 := (fr48 106 (by decide)).trans h106
  have h107 := (fr48 107 (by decide)).trans h107
  have h108 := (fr48 108 (by decide)).trans h108
  have h109 := (fr48 109 (by decide)).trans h109
  have h110 := (fr48 110 (by decide)).trans h110
  have h111 := (fr48 111 (by decide)).trans h111
  have hN : ∀ j, 112 ≤ j → j ≤ 111 → _ = none := fun j h1 h2 => (fr48 j (by omega)).trans (hN j (by omega) h2)
  have hF : ∀ j, j < 100 → _ = ce j := fun j hj => (fr48 j (by omega)).trans (hF j hj)
  refine lv_aload_n hx hb dX6_init_97 rfl (lv_at hl 0 rfl) ?_
  refine lv_iload_n hx hb dX6_init_98 rfl (lv_at hl 1 rfl) ?_
  refine z_putF F rfl hw hS (fs' := [.int a, .int 0, .int 0, .int 3, .int 0, .ref (ad 101), .ref (ad 102), .ref (ad 103), .int 0, .ref (ad 104), .ref (ad 105), .ref (ad 106), .ref (ad 107), .ref (ad 108), .int 0, .int (-1), .int 0, .ref (ad 109), .int 0, .ref (ad 110), .int 0, .int 0, .ref (ad 111)]) h100 fd_X6_51_X6 ptX6 rfl rfl (rfl) (rfl) (Nat.le_of_ble_eq_true rfl) rfl dX6_init_99 (fun ce49 H locs h100 fr50 hw hS => ?_)
  have h101 := (fr50 101 (by decide)).trans h101
  have h102 := (fr50 102 (by decide)).trans h102
  have h103 := (fr50 103 (by decide)).trans h103
  have h104 := (fr50 104 (by decide)).trans h104
  have h105 := (fr50 105 (by decide)).trans h105
  have h106 := (fr50 106 (by decide)).trans h106
  have h107 := (fr50 107 (by decide)).trans h107
  have h108 := (fr50 108 (by decide)).trans h108
  have h109 := (fr50 109 (by decide)).trans h109
  have h110 := (fr50 110 (by decide)).trans h110
  have h111 := (fr50 111 (by decide)).trans h111
  have hN : ∀ j, 112 ≤ j → j ≤ 111 → _ = none := fun j h1 h2 => (fr50 j (by omega)).trans (hN j (by omega) h2)
  have hF : ∀ j, j < 100 → _ = ce j := fun j hj => (fr50 j (by omega)).trans (hF j hj)
  refine lv_aload_n hx hb dX6_init_102 rfl (lv_at hl 0 rfl) ?_
  refine lv_iload_n hx hb dX6_init_103 rfl (lv_at hl 2 rfl) ?_
  refine z_putF F rfl hw hS (fs' := [.int a, .int b, .int 0, .int 3, .int 0, .ref (ad 101), .ref (ad 102), .ref (ad 103), .int 0, .ref (ad 104), .ref (ad 105), .ref (ad 106), .ref (ad 107), .ref (ad 108), .int 0, .int (-1), .int 0, .ref (ad 109), .int 0, .ref (ad 110), .int 0, .int 0, .ref (ad 111)]) h100 fd_X6_54_X6 ptX6 rfl rfl (rfl) (rfl) (Nat.le_of_ble_eq_true rfl) rfl dX6_init_104 (fun ce51 H locs h100 fr52 hw hS => ?_)
  have h101 := (fr52 101 (by decide)).trans h101
  have h102 := (fr52 102 (by decide)).trans h102
  have h103 := (fr52 103 (by decide)).trans h103
  have h104 := (fr52 104 (by decide)).trans h104
  have h105 := (fr52 105 (by decide)).trans h105
  have h106 := (fr52 106 (by decide)).trans h106
  have h107 := (fr52 107 (by decide)).trans h107
  have h108 := (fr52 108 (by decide)).trans h108
  have h109 := (fr52 109 (by decide)).trans h109
  have h110 := (fr52 110 (by decide)).trans h110
  have h111 := (fr52 111 (by decide)).trans h111
  have hN : ∀ j, 112 ≤ j → j ≤ 111 → _ = none := fun j h1 h2 => (fr52 j (by omega)).trans (hN j (by omega) h2)
  have hF : ∀ j, j < 100 → _ = ce j := fun j hj => (fr52 j (by omega)).trans (hF j hj)
  refine lv_aload_n hx hb dX6_init_107 rfl (lv_at hl 0 rfl) ?_
  refine lv_iload_n hx hb dX6_init_108 rfl (lv_at hl 3 rfl) ?_
  refine z_put F hw hS (fs' := [.int a, .int b, .int c0, .int 3, .int 0, .ref (ad 101), .ref (ad 102), .ref (ad 103), .int 0, .ref (ad 104), .ref (ad 105), .ref (ad 106), .ref (ad 107), .ref (ad 108), .int 0, .int (-1), .int 0, .ref (ad 109), .int 0, .ref (ad 110), .int 0, .int 0, .ref (ad 111)]) h100 fd_X6_57_X6 ptX6 rfl (rfl) (rfl) (Nat.le_of_ble_eq_true rfl) rfl dX6_init_109 (fun ce53 H locs h100 fr54 hw hS => ?_)
  have h101 := (fr54 101 (by decide)).trans h101
  have h102 := (fr54 102 (by decide)).trans h102
  have h103 := (fr54 103 (by decide)).trans h103
  have h104 := (fr54 104 (by decide)).trans h104
  have h105 := (fr54 105 (by decide)).trans h105
  have h106 := (fr54 106 (by decide)).trans h106
  have h107 := (fr54 107 (by decide)).trans h107
  have h108 := (fr54 108 (by decide)).trans h108
  have h109 := (fr54 109 (by decide)).trans h109
  have h110 := (fr54 110 (by decide)).trans h110
  have h111 := (fr54 111 (by decide)).trans h111
  have hN : ∀ j, 112 ≤ j → j ≤ 111 → _ = none := fun j h1 h2 => (fr54 j (by omega)).trans (hN j (by omega) h2)
  have hF : ∀ j, j < 100 → _ = ce j := fun j hj => (fr54 j (by omega)).trans (hF j hj)
  refine lv_aload_n hx hb dX6_init_112 rfl (lv_at hl 0 rfl) ?_
  refine z_get F hw h100 fd_X6_36_X6 rfl dX6_init_113 ?_
  refine lv_iconst (v := 0) hx hb dX6_init_116 (by decide) ?_
  refine lv_iconst (v := -1) hx hb dX6_init_117 (by decide) ?_
  refine z_st F hw hS h108 (0) (rfl) (by decide) (by decide) dX6_init_118 (fun ce55 H locs h108 fr56 hw hS => ?_)
  have h100 := (fr56 100 (by decide)).trans h100
  have h101 := (fr56 101 (by decide)).trans h101
  have h102 := (fr56 102 (by decide)).trans h102
  have h103 := (fr56 103 (by decide)).trans h103
  have h104 := (fr56 104 (by decide)).trans h104
  have h105 := (fr56 105 (by decide)).trans h105
  have h106 := (fr56 106 (by decide)).trans h106
  have h107 := (fr56 107 (by decide)).trans h107
  have h109 := (fr56 109 (by decide)).trans h109
  have h110 := (fr56 110 (by decide)).trans h110
  have h111 := (fr56 111 (by decide)).trans h111
  have hN : ∀ j, 112 ≤ j → j ≤ 111 → _ = none := fun j h1 h2 => (fr56 j (by omega)).trans (hN j (by omega) h2)
  have hF : ∀ j, j < 100 → _ = ce j := fun j hj => (fr56 j (by omega)).trans (hF j hj)
  refine lv_aload_n hx hb dX6_init_119 rfl (lv_at hl 0 rfl) ?_
  refine z_get F hw h100 fd_X6_36_X6 rfl dX6_init_120 ?_
  refine lv_iconst (v := 1) hx hb dX6_init_123 (by decide) ?_
  refine lv_iconst (v := -1) hx hb dX6_init_124 (by decide) ?_
  refine z_st F hw hS h108 (1) (rfl) (by decide) (by decide) dX6_init_125 (fun ce57 H locs h108 fr58 hw hS => ?_)
  have h100 := (fr58 100 (by decide)).trans h100
  have h101 := (fr58 101 (by decide)).trans h101
  have h102 := (fr58 102 (by decide)).trans h102
  have h103 := (fr58 103 (by decide)).trans h103
  have h104 := (fr58 104 (by decide)).trans h104
  have h105 := (fr58 105 (by decide)).trans h105
  have h106 := (fr58 106 (by decide)).trans h106
  have h107 := (fr58 107 (by decide)).trans h107
  have h109 := (fr58 109 (by decide)).trans h109
  have h110 := (fr58 110 (by decide)).trans h110
  have h111 := (fr58 111 (by decide)).trans h111
  have hN : ∀ j, 112 ≤ j → j ≤ 111 → _ = none := fun j h1 h2 => (fr58 j (by omega)).trans (hN j (by omega) h2)
  have hF : ∀ j, j < 100 → _ = ce j := fun j hj => (fr58 j (by omega)).trans (hF j hj)
  exact z_vret F hw hS (⟨rfl, ⟨_, _, _, _, ⟨h100, h101, h102, h103, h104, h105, h106, h107, h108, h109, h110, h111⟩, rfQ_0, rfM_0 _⟩, hadK, hF⟩) dX6_init_126
end
