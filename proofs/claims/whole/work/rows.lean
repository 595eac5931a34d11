section
-- ===== PART A: goes FIRST, ahead of the names: the tables' words, and 'selects' of the private methods out of them =====
/-- a private method of a class that the tables say can be made, by its rows of tables_1 -/
def lw_okq (q : MethodName × Nat) : Prop := (q.1.cls ≠ "java/lang/invoke/MethodHandle" ∧ q.1.cls ≠ "java/lang/invoke/VarHandle") ∧ Cond.instantiable q.1.cls q.2 ∈ tables_1 ∧ Cond.privateMethod q.1 ∈ tables_1 ∧ Cond.instanceMethod q.1 ∈ tables_1
theorem lw_p0 : lw_okq (⟨"MobileCall$Mobile", "keepDigits", "(II)V"⟩, 11) := ⟨⟨by decide +kernel, by decide +kernel⟩, List.mem_of_getElem? (i := 54) (by decide +kernel), List.mem_of_getElem? (i := 240) (by decide +kernel), List.mem_of_getElem? (i := 241) (by decide +kernel)⟩
theorem lw_p1 : lw_okq (⟨"MobileCall", "row", "(I)LMobileCall$Row;"⟩, 5) := ⟨⟨by decide +kernel, by decide +kernel⟩, List.mem_of_getElem? (i := 9) (by decide +kernel), List.mem_of_getElem? (i := 348) (by decide +kernel), List.mem_of_getElem? (i := 349) (by decide +kernel)⟩
theorem lw_p2 : lw_okq (⟨"MobileCall$Mobile", "takesUpdated", "(LMobileCall$Message;)Z"⟩, 11) := ⟨⟨by decide +kernel, by decide +kernel⟩, List.mem_of_getElem? (i := 54) (by decide +kernel), List.mem_of_getElem? (i := 381) (by decide +kernel), List.mem_of_getElem? (i := 382) (by decide +kernel)⟩
theorem lw_p3 : lw_okq (⟨"MobileCall$Message", "find", "(I)I"⟩, 2) := ⟨⟨by decide +kernel, by decide +kernel⟩, List.mem_of_getElem? (i := 24) (by decide +kernel), List.mem_of_getElem? (i := 393) (by decide +kernel), List.mem_of_getElem? (i := 394) (by decide +kernel)⟩
theorem lw_p4 : lw_okq (⟨"MobileCall$Mobile", "takesRefusal", "(LMobileCall$Message;II)Z"⟩, 11) := ⟨⟨by decide +kernel, by decide +kernel⟩, List.mem_of_getElem? (i := 54) (by decide +kernel), List.mem_of_getElem? (i := 401) (by decide +kernel), List.mem_of_getElem? (i := 402) (by decide +kernel)⟩
theorem lw_p5 : lw_okq (⟨"MobileCall$Mobile", "takesChallenge", "(LMobileCall$Message;)Z"⟩, 11) := ⟨⟨by decide +kernel, by decide +kernel⟩, List.mem_of_getElem? (i := 54) (by decide +kernel), List.mem_of_getElem? (i := 405) (by decide +kernel), List.mem_of_getElem? (i := 406) (by decide +kernel)⟩
theorem lw_p6 : lw_okq (⟨"MobileCall$Mobile", "takesExpelled", "()Z"⟩, 11) := ⟨⟨by decide +kernel, by decide +kernel⟩, List.mem_of_getElem? (i := 54) (by decide +kernel), List.mem_of_getElem? (i := 415) (by decide +kernel), List.mem_of_getElem? (i := 416) (by decide +kernel)⟩
theorem lw_p7 : lw_okq (⟨"MobileCall$Mobile", "takesServed", "()Z"⟩, 11) := ⟨⟨by decide +kernel, by decide +kernel⟩, List.mem_of_getElem? (i := 54) (by decide +kernel), List.mem_of_getElem? (i := 419) (by decide +kernel), List.mem_of_getElem? (i := 420) (by decide +kernel)⟩
theorem lw_p8 : lw_okq (⟨"MobileCall$Mobile", "sendSetUp", "()V"⟩, 11) := ⟨⟨by decide +kernel, by decide +kernel⟩, List.mem_of_getElem? (i := 54) (by decide +kernel), List.mem_of_getElem? (i := 423) (by decide +kernel), List.mem_of_getElem? (i := 424) (by decide +kernel)⟩
theorem lw_p9 : lw_okq (⟨"MobileCall$Network", "takesUpdate", "(LMobileCall$Message;)Z"⟩, 15) := ⟨⟨by decide +kernel, by decide +kernel⟩, List.mem_of_getElem? (i := 123) (by decide +kernel), List.mem_of_getElem? (i := 435) (by decide +kernel), List.mem_of_getElem? (i := 436) (by decide +kernel)⟩
theorem lw_p10 : lw_okq (⟨"MobileCall$Network", "sendChallenge", "(I)V"⟩, 15) := ⟨⟨by decide +kernel, by decide +kernel⟩, List.mem_of_getElem? (i := 123) (by decide +kernel), List.mem_of_getElem? (i := 441) (by decide +kernel), List.mem_of_getElem? (i := 442) (by decide +kernel)⟩
theorem lw_p11 : lw_okq (⟨"MobileCall$Network", "takesService", "()Z"⟩, 15) := ⟨⟨by decide +kernel, by decide +kernel⟩, List.mem_of_getElem? (i := 123) (by decide +kernel), List.mem_of_getElem? (i := 450) (by decide +kernel), List.mem_of_getElem? (i := 451) (by decide +kernel)⟩
theorem lw_p12 : lw_okq (⟨"MobileCall$Network", "takesAnswer", "(LMobileCall$Message;)Z"⟩, 15) := ⟨⟨by decide +kernel, by decide +kernel⟩, List.mem_of_getElem? (i := 123) (by decide +kernel), List.mem_of_getElem? (i := 454) (by decide +kernel), List.mem_of_getElem? (i := 455) (by decide +kernel)⟩
theorem lw_p13 : lw_okq (⟨"MobileCall$Network", "forgetMobile", "()V"⟩, 15) := ⟨⟨by decide +kernel, by decide +kernel⟩, List.mem_of_getElem? (i := 123) (by decide +kernel), List.mem_of_getElem? (i := 460) (by decide +kernel), List.mem_of_getElem? (i := 461) (by decide +kernel)⟩
theorem lw_p14 : lw_okq (⟨"MobileCall$Network", "decideUpdate", "()V"⟩, 15) := ⟨⟨by decide +kernel, by decide +kernel⟩, List.mem_of_getElem? (i := 123) (by decide +kernel), List.mem_of_getElem? (i := 465) (by decide +kernel), List.mem_of_getElem? (i := 466) (by decide +kernel)⟩
theorem lw_p15 : lw_okq (⟨"MobileCall$Network", "decideService", "()V"⟩, 15) := ⟨⟨by decide +kernel, by decide +kernel⟩, List.mem_of_getElem? (i := 123) (by decide +kernel), List.mem_of_getElem? (i := 469) (by decide +kernel), List.mem_of_getElem? (i := 470) (by decide +kernel)⟩
def lw_privs_1 : List (MethodName × Nat) := [(⟨"MobileCall$Mobile", "keepDigits", "(II)V"⟩, 11), (⟨"MobileCall", "row", "(I)LMobileCall$Row;"⟩, 5), (⟨"MobileCall$Mobile", "takesUpdated", "(LMobileCall$Message;)Z"⟩, 11), (⟨"MobileCall$Message", "find", "(I)I"⟩, 2), (⟨"MobileCall$Mobile", "takesRefusal", "(LMobileCall$Message;II)Z"⟩, 11), (⟨"MobileCall$Mobile", "takesChallenge", "(LMobileCall$Message;)Z"⟩, 11), (⟨"MobileCall$Mobile", "takesExpelled", "()Z"⟩, 11), (⟨"MobileCall$Mobile", "takesServed", "()Z"⟩, 11), (⟨"MobileCall$Mobile", "sendSetUp", "()V"⟩, 11), (⟨"MobileCall$Network", "takesUpdate", "(LMobileCall$Message;)Z"⟩, 15), (⟨"MobileCall$Network", "sendChallenge", "(I)V"⟩, 15), (⟨"MobileCall$Network", "takesService", "()Z"⟩, 15), (⟨"MobileCall$Network", "takesAnswer", "(LMobileCall$Message;)Z"⟩, 15), (⟨"MobileCall$Network", "forgetMobile", "()V"⟩, 15), (⟨"MobileCall$Network", "decideUpdate", "()V"⟩, 15), (⟨"MobileCall$Network", "decideService", "()V"⟩, 15)]
theorem lw_r1 : ∀ q ∈ lw_privs_1, lw_okq q := List.forall_mem_cons.mpr ⟨lw_p0, List.forall_mem_cons.mpr ⟨lw_p1, List.forall_mem_cons.mpr ⟨lw_p2, List.forall_mem_cons.mpr ⟨lw_p3, List.forall_mem_cons.mpr ⟨lw_p4, List.forall_mem_cons.mpr ⟨lw_p5, List.forall_mem_cons.mpr ⟨lw_p6, List.forall_mem_cons.mpr ⟨lw_p7, List.forall_mem_cons.mpr ⟨lw_p8, List.forall_mem_cons.mpr ⟨lw_p9, List.forall_mem_cons.mpr ⟨lw_p10, List.forall_mem_cons.mpr ⟨lw_p11, List.forall_mem_cons.mpr ⟨lw_p12, List.forall_mem_cons.mpr ⟨lw_p13, List.forall_mem_cons.mpr ⟨lw_p14, List.forall_mem_cons.mpr ⟨lw_p15, fun _ h => absurd h List.not_mem_nil⟩⟩⟩⟩⟩⟩⟩⟩⟩⟩⟩⟩⟩⟩⟩⟩
theorem lw_p16 : lw_okq (⟨"MobileCall$Network", "takesDetach", "()Z"⟩, 15) := ⟨⟨by decide +kernel, by decide +kernel⟩, List.mem_of_getElem? (i := 123) (by decide +kernel), List.mem_of_getElem? (i := 473) (by decide +kernel), List.mem_of_getElem? (i := 474) (by decide +kernel)⟩
theorem lw_p17 : lw_okq (⟨"MobileCall$Mobile", "takesProgress", "(II)Z"⟩, 11) := ⟨⟨by decide +kernel, by decide +kernel⟩, List.mem_of_getElem? (i := 54) (by decide +kernel), List.mem_of_getElem? (i := 483) (by decide +kernel), List.mem_of_getElem? (i := 484) (by decide +kernel)⟩
theorem lw_p18 : lw_okq (⟨"MobileCall$Mobile", "takesConnect", "()Z"⟩, 11) := ⟨⟨by decide +kernel, by decide +kernel⟩, List.mem_of_getElem? (i := 54) (by decide +kernel), List.mem_of_getElem? (i := 490) (by decide +kernel), List.mem_of_getElem? (i := 491) (by decide +kernel)⟩
theorem lw_p19 : lw_okq (⟨"MobileCall$Network", "takesSetUp", "(LMobileCall$Message;)Z"⟩, 15) := ⟨⟨by decide +kernel, by decide +kernel⟩, List.mem_of_getElem? (i := 123) (by decide +kernel), List.mem_of_getElem? (i := 522) (by decide +kernel), List.mem_of_getElem? (i := 523) (by decide +kernel)⟩
theorem lw_p20 : lw_okq (⟨"MobileCall$Message", "hasByte", "(I)Z"⟩, 2) := ⟨⟨by decide +kernel, by decide +kernel⟩, List.mem_of_getElem? (i := 24) (by decide +kernel), List.mem_of_getElem? (i := 535) (by decide +kernel), List.mem_of_getElem? (i := 536) (by decide +kernel)⟩
theorem lw_p21 : lw_okq (⟨"MobileCall$Network", "takesConnected", "()Z"⟩, 15) := ⟨⟨by decide +kernel, by decide +kernel⟩, List.mem_of_getElem? (i := 123) (by decide +kernel), List.mem_of_getElem? (i := 539) (by decide +kernel), List.mem_of_getElem? (i := 540) (by decide +kernel)⟩
theorem lw_p22 : lw_okq (⟨"MobileCallModel", "out", "(I)V"⟩, 23) := ⟨⟨by decide +kernel, by decide +kernel⟩, List.mem_of_getElem? (i := 637) (by decide +kernel), List.mem_of_getElem? (i := 718) (by decide +kernel), List.mem_of_getElem? (i := 719) (by decide +kernel)⟩
theorem lw_p23 : lw_okq (⟨"MobileCallModel", "release", "(I)V"⟩, 23) := ⟨⟨by decide +kernel, by decide +kernel⟩, List.mem_of_getElem? (i := 637) (by decide +kernel), List.mem_of_getElem? (i := 722) (by decide +kernel), List.mem_of_getElem? (i := 723) (by decide +kernel)⟩
theorem lw_p24 : lw_okq (⟨"MobileCallModel", "way", "(I)I"⟩, 23) := ⟨⟨by decide +kernel, by decide +kernel⟩, List.mem_of_getElem? (i := 637) (by decide +kernel), List.mem_of_getElem? (i := 726) (by decide +kernel), List.mem_of_getElem? (i := 727) (by decide +kernel)⟩
theorem lw_p25 : lw_okq (⟨"MobileCallModel", "put", "(III)I"⟩, 23) := ⟨⟨by decide +kernel, by decide +kernel⟩, List.mem_of_getElem? (i := 637) (by decide +kernel), List.mem_of_getElem? (i := 730) (by decide +kernel), List.mem_of_getElem? (i := 731) (by decide +kernel)⟩
theorem lw_p26 : lw_okq (⟨"MobileCallModel", "become", "(IIII)V"⟩, 23) := ⟨⟨by decide +kernel, by decide +kernel⟩, List.mem_of_getElem? (i := 637) (by decide +kernel), List.mem_of_getElem? (i := 734) (by decide +kernel), List.mem_of_getElem? (i := 735) (by decide +kernel)⟩
theorem lw_p27 : lw_okq (⟨"MobileCallModel", "rest", "(I)I"⟩, 23) := ⟨⟨by decide +kernel, by decide +kernel⟩, List.mem_of_getElem? (i := 637) (by decide +kernel), List.mem_of_getElem? (i := 738) (by decide +kernel), List.mem_of_getElem? (i := 739) (by decide +kernel)⟩
theorem lw_p28 : lw_okq (⟨"MobileCallModel", "tell", "(IIIIII)V"⟩, 23) := ⟨⟨by decide +kernel, by decide +kernel⟩, List.mem_of_getElem? (i := 637) (by decide +kernel), List.mem_of_getElem? (i := 742) (by decide +kernel), List.mem_of_getElem? (i := 743) (by decide +kernel)⟩
theorem lw_p29 : lw_okq (⟨"MobileCallModel", "more", "(II)V"⟩, 23) := ⟨⟨by decide +kernel, by decide +kernel⟩, List.mem_of_getElem? (i := 637) (by decide +kernel), List.mem_of_getElem? (i := 746) (by decide +kernel), List.mem_of_getElem? (i := 747) (by decide +kernel)⟩
theorem lw_p30 : lw_okq (⟨"MobileCallModel", "isCall", "(III)Z"⟩, 23) := ⟨⟨by decide +kernel, by decide +kernel⟩, List.mem_of_getElem? (i := 637) (by decide +kernel), List.mem_of_getElem? (i := 767) (by decide +kernel), List.mem_of_getElem? (i := 768) (by decide +kernel)⟩
theorem lw_p31 : lw_okq (⟨"MobileCallModel", "end", "(II)V"⟩, 23) := ⟨⟨by decide +kernel, by decide +kernel⟩, List.mem_of_getElem? (i := 637) (by decide +kernel), List.mem_of_getElem? (i := 771) (by decide +kernel), List.mem_of_getElem? (i := 772) (by decide +kernel)⟩
def lw_privs_2 : List (MethodName × Nat) := [(⟨"MobileCall$Network", "takesDetach", "()Z"⟩, 15), (⟨"MobileCall$Mobile", "takesProgress", "(II)Z"⟩, 11), (⟨"MobileCall$Mobile", "takesConnect", "()Z"⟩, 11), (⟨"MobileCall$Network", "takesSetUp", "(LMobileCall$Message;)Z"⟩, 15), (⟨"MobileCall$Message", "hasByte", "(I)Z"⟩, 2), (⟨"MobileCall$Network", "takesConnected", "()Z"⟩, 15), (⟨"MobileCallModel", "out", "(I)V"⟩, 23), (⟨"MobileCallModel", "release", "(I)V"⟩, 23), (⟨"MobileCallModel", "way", "(I)I"⟩, 23), (⟨"MobileCallModel", "put", "(III)I"⟩, 23), (⟨"MobileCallModel", "become", "(IIII)V"⟩, 23), (⟨"MobileCallModel", "rest", "(I)I"⟩, 23), (⟨"MobileCallModel", "tell", "(IIIIII)V"⟩, 23), (⟨"MobileCallModel", "more", "(II)V"⟩, 23), (⟨"MobileCallModel", "isCall", "(III)Z"⟩, 23), (⟨"MobileCallModel", "end", "(II)V"⟩, 23)]
theorem lw_r2 : ∀ q ∈ lw_privs_2, lw_okq q := List.forall_mem_cons.mpr ⟨lw_p16, List.forall_mem_cons.mpr ⟨lw_p17, List.forall_mem_cons.mpr ⟨lw_p18, List.forall_mem_cons.mpr ⟨lw_p19, List.forall_mem_cons.mpr ⟨lw_p20, List.forall_mem_cons.mpr ⟨lw_p21, List.forall_mem_cons.mpr ⟨lw_p22, List.forall_mem_cons.mpr ⟨lw_p23, List.forall_mem_cons.mpr ⟨lw_p24, List.forall_mem_cons.mpr ⟨lw_p25, List.forall_mem_cons.mpr ⟨lw_p26, List.forall_mem_cons.mpr ⟨lw_p27, List.forall_mem_cons.mpr ⟨lw_p28, List.forall_mem_cons.mpr ⟨lw_p29, List.forall_mem_cons.mpr ⟨lw_p30, List.forall_mem_cons.mpr ⟨lw_p31, fun _ h => absurd h List.not_mem_nil⟩⟩⟩⟩⟩⟩⟩⟩⟩⟩⟩⟩⟩⟩⟩⟩
theorem lw_p32 : lw_okq (⟨"MobileCallModel", "take", "(I)V"⟩, 23) := ⟨⟨by decide +kernel, by decide +kernel⟩, List.mem_of_getElem? (i := 637) (by decide +kernel), List.mem_of_getElem? (i := 802) (by decide +kernel), List.mem_of_getElem? (i := 803) (by decide +kernel)⟩
theorem lw_p33 : lw_okq (⟨"MobileCallModel", "isGood", "()Z"⟩, 23) := ⟨⟨by decide +kernel, by decide +kernel⟩, List.mem_of_getElem? (i := 637) (by decide +kernel), List.mem_of_getElem? (i := 806) (by decide +kernel), List.mem_of_getElem? (i := 807) (by decide +kernel)⟩
theorem lw_p34 : lw_okq (⟨"MobileCallModel", "mobileMoves", "(I)Z"⟩, 23) := ⟨⟨by decide +kernel, by decide +kernel⟩, List.mem_of_getElem? (i := 637) (by decide +kernel), List.mem_of_getElem? (i := 810) (by decide +kernel), List.mem_of_getElem? (i := 811) (by decide +kernel)⟩
theorem lw_p35 : lw_okq (⟨"MobileCallModel", "has", "(II)Z"⟩, 23) := ⟨⟨by decide +kernel, by decide +kernel⟩, List.mem_of_getElem? (i := 637) (by decide +kernel), List.mem_of_getElem? (i := 814) (by decide +kernel), List.mem_of_getElem? (i := 815) (by decide +kernel)⟩
theorem lw_p36 : lw_okq (⟨"MobileCallModel", "find", "(I)I"⟩, 23) := ⟨⟨by decide +kernel, by decide +kernel⟩, List.mem_of_getElem? (i := 637) (by decide +kernel), List.mem_of_getElem? (i := 818) (by decide +kernel), List.mem_of_getElem? (i := 819) (by decide +kernel)⟩
theorem lw_p37 : lw_okq (⟨"MobileCallModel", "number", "(I)I"⟩, 23) := ⟨⟨by decide +kernel, by decide +kernel⟩, List.mem_of_getElem? (i := 637) (by decide +kernel), List.mem_of_getElem? (i := 822) (by decide +kernel), List.mem_of_getElem? (i := 823) (by decide +kernel)⟩
theorem lw_p38 : lw_okq (⟨"MobileCallModel", "setUp", "()V"⟩, 23) := ⟨⟨by decide +kernel, by decide +kernel⟩, List.mem_of_getElem? (i := 637) (by decide +kernel), List.mem_of_getElem? (i := 830) (by decide +kernel), List.mem_of_getElem? (i := 831) (by decide +kernel)⟩
theorem lw_p39 : lw_okq (⟨"MobileCallModel", "networkMoves", "(I)Z"⟩, 23) := ⟨⟨by decide +kernel, by decide +kernel⟩, List.mem_of_getElem? (i := 637) (by decide +kernel), List.mem_of_getElem? (i := 834) (by decide +kernel), List.mem_of_getElem? (i := 835) (by decide +kernel)⟩
theorem lw_p40 : lw_okq (⟨"MobileCallModel", "ask", "(I)V"⟩, 23) := ⟨⟨by decide +kernel, by decide +kernel⟩, List.mem_of_getElem? (i := 637) (by decide +kernel), List.mem_of_getElem? (i := 838) (by decide +kernel), List.mem_of_getElem? (i := 839) (by decide +kernel)⟩
theorem lw_p41 : lw_okq (⟨"MobileCallModel", "judge", "()V"⟩, 23) := ⟨⟨by decide +kernel, by decide +kernel⟩, List.mem_of_getElem? (i := 637) (by decide +kernel), List.mem_of_getElem? (i := 843) (by decide +kernel), List.mem_of_getElem? (i := 844) (by decide +kernel)⟩
theorem lw_p42 : lw_okq (⟨"MobileCallModel", "mobileCalls", "(I)Z"⟩, 23) := ⟨⟨by decide +kernel, by decide +kernel⟩, List.mem_of_getElem? (i := 637) (by decide +kernel), List.mem_of_getElem? (i := 847) (by decide +kernel), List.mem_of_getElem? (i := 848) (by decide +kernel)⟩
theorem lw_p43 : lw_okq (⟨"MobileCallModel", "closes", "(II)Z"⟩, 23) := ⟨⟨by decide +kernel, by decide +kernel⟩, List.mem_of_getElem? (i := 637) (by decide +kernel), List.mem_of_getElem? (i := 851) (by decide +kernel), List.mem_of_getElem? (i := 852) (by decide +kernel)⟩
theorem lw_p44 : lw_okq (⟨"MobileCallModel", "networkCalls", "(I)Z"⟩, 23) := ⟨⟨by decide +kernel, by decide +kernel⟩, List.mem_of_getElem? (i := 637) (by decide +kernel), List.mem_of_getElem? (i := 855) (by decide +kernel), List.mem_of_getElem? (i := 856) (by decide +kernel)⟩
def lw_privs_3 : List (MethodName × Nat) := [(⟨"MobileCallModel", "take", "(I)V"⟩, 23), (⟨"MobileCallModel", "isGood", "()Z"⟩, 23), (⟨"MobileCallModel", "mobileMoves", "(I)Z"⟩, 23), (⟨"MobileCallModel", "has", "(II)Z"⟩, 23), (⟨"MobileCallModel", "find", "(I)I"⟩, 23), (⟨"MobileCallModel", "number", "(I)I"⟩, 23), (⟨"MobileCallModel", "setUp", "()V"⟩, 23), (⟨"MobileCallModel", "networkMoves", "(I)Z"⟩, 23), (⟨"MobileCallModel", "ask", "(I)V"⟩, 23), (⟨"MobileCallModel", "judge", "()V"⟩, 23), (⟨"MobileCallModel", "mobileCalls", "(I)Z"⟩, 23), (⟨"MobileCallModel", "closes", "(II)Z"⟩, 23), (⟨"MobileCallModel", "networkCalls", "(I)Z"⟩, 23)]
theorem lw_r3 : ∀ q ∈ lw_privs_3, lw_okq q := List.forall_mem_cons.mpr ⟨lw_p32, List.forall_mem_cons.mpr ⟨lw_p33, List.forall_mem_cons.mpr ⟨lw_p34, List.forall_mem_cons.mpr ⟨lw_p35, List.forall_mem_cons.mpr ⟨lw_p36, List.forall_mem_cons.mpr ⟨lw_p37, List.forall_mem_cons.mpr ⟨lw_p38, List.forall_mem_cons.mpr ⟨lw_p39, List.forall_mem_cons.mpr ⟨lw_p40, List.forall_mem_cons.mpr ⟨lw_p41, List.forall_mem_cons.mpr ⟨lw_p42, List.forall_mem_cons.mpr ⟨lw_p43, List.forall_mem_cons.mpr ⟨lw_p44, fun _ h => absurd h List.not_mem_nil⟩⟩⟩⟩⟩⟩⟩⟩⟩⟩⟩⟩⟩
def lw_privs : List (MethodName × Nat) := lw_privs_1 ++ (lw_privs_2 ++ (lw_privs_3))
def lw_tbl : List Cond := k2_sels lw_privs ++ tables_1
theorem lw_privs_ok : ∀ q ∈ lw_privs, lw_okq q := by
  show ∀ q ∈ lw_privs_1 ++ (lw_privs_2 ++ (lw_privs_3)), lw_okq q
  exact List.forall_mem_append.mpr ⟨lw_r1, List.forall_mem_append.mpr ⟨lw_r2, lw_r3⟩⟩
end
section
/-! ===== BEGIN printed: names, fields, word lists, decode rows ===== -/
def RX0 : String := "MobileCall$Message"
def TX0 : u_T := fun k => match k with
  | 0 => ("MobileCall$Message", "bytes", "[I", true)
  | _ => ("MobileCall$Message", "length", "I", false)
def tyX0 : Nat → FieldType := fun k => match k with
  | 0 => .array .int
  | _ => .int
abbrev wsX00 : List Cond := u_ws RX0 TX0 2
theorem nmX0 : ∀ a, a < 2 → ∀ b, b < 2 → a ≠ b → (TX0 a).2.1 ≠ (TX0 b).2.1 := by decide +kernel
theorem tyX0_ok : ∀ k, k < 2 → parseFieldDescriptor (TX0 k).2.2.1 = some (tyX0 k) := by decide +kernel
abbrev cX0_init : ByteArray := prog_2_method_1_code
def yX0_init : MethodName := ⟨RX0, "<init>", "()V"⟩
abbrev cX0_begin : ByteArray := prog_2_method_2_code
def yX0_begin : MethodName := ⟨RX0, "begin", "(II)V"⟩
abbrev cX0_add : ByteArray := prog_2_method_3_code
def yX0_add : MethodName := ⟨RX0, "add", "(I)V"⟩
abbrev cX0_addNumber : ByteArray := prog_2_method_4_code
def yX0_addNumber : MethodName := ⟨RX0, "addNumber", "(III)V"⟩
abbrev cX0_change : ByteArray := prog_2_method_5_code
def yX0_change : MethodName := ⟨RX0, "change", "(II)V"⟩
abbrev cX0_byteAt : ByteArray := prog_2_method_6_code
def yX0_byteAt : MethodName := ⟨RX0, "byteAt", "(I)I"⟩
abbrev cX0_protocol : ByteArray := prog_2_method_7_code
def yX0_protocol : MethodName := ⟨RX0, "protocol", "()I"⟩
abbrev cX0_type : ByteArray := prog_2_method_8_code
def yX0_type : MethodName := ⟨RX0, "type", "()I"⟩
abbrev cX0_isGood : ByteArray := prog_2_method_9_code
def yX0_isGood : MethodName := ⟨RX0, "isGood", "()Z"⟩
abbrev cX0_has : ByteArray := prog_2_method_10_code
def yX0_has : MethodName := ⟨RX0, "has", "(II)Z"⟩
abbrev cX0_sizeOf : ByteArray := prog_2_method_11_code
def yX0_sizeOf : MethodName := ⟨RX0, "sizeOf", "(I)I"⟩
abbrev cX0_elementByte : ByteArray := prog_2_method_12_code
def yX0_elementByte : MethodName := ⟨RX0, "elementByte", "(II)I"⟩
abbrev cX0_number : ByteArray := prog_2_method_13_code
def yX0_number : MethodName := ⟨RX0, "number", "(II)I"⟩
abbrev cX0_find : ByteArray := prog_2_method_14_code
def yX0_find : MethodName := ⟨RX0, "find", "(I)I"⟩
abbrev cX0_hasByte : ByteArray := prog_2_method_15_code
def yX0_hasByte : MethodName := ⟨RX0, "hasByte", "(I)Z"⟩
def RX1 : String := "MobileCall$Mobile"
def TX1 : u_T := fun k => match k with
  | 0 => ("MobileCall$Party", "out", "LMobileCall$Row;", true)
  | 1 => ("MobileCall$Party", "restState", "I", true)
  | 2 => ("MobileCall$Party", "state", "I", false)
  | 3 => ("MobileCall$Party", "call", "I", false)
  | 4 => ("MobileCall$Party", "timer", "I", false)
  | 5 => ("MobileCall$Party", "lastCause", "I", false)
  | 6 => ("MobileCall$Party", "releasedTwice", "Z", false)
  | 7 => ("MobileCall$Mobile", "key", "I", true)
  | 8 => ("MobileCall$Mobile", "area", "I", false)
  | 9 => ("MobileCall$Mobile", "digits", "[I", true)
  | _ => ("MobileCall$Mobile", "digitCount", "I", false)
def tyX1 : Nat → FieldType := fun k => match k with
  | 0 => .object "MobileCall$Row"
  | 1 => .int
  | 2 => .int
  | 3 => .int
  | 4 => .int
  | 5 => .int
  | 6 => .boolean
  | 7 => .int
  | 8 => .int
  | 9 => .array .int
  | _ => .int
abbrev wsX10 : List Cond := u_ws RX1 TX1 11
theorem nmX1 : ∀ a, a < 11 → ∀ b, b < 11 → a ≠ b → (TX1 a).2.1 ≠ (TX1 b).2.1 := by decide +kernel
theorem tyX1_ok : ∀ k, k < 11 → parseFieldDescriptor (TX1 k).2.2.1 = some (tyX1 k) := by decide +kernel
abbrev cX1_init : ByteArray := prog_3_method_1_code
def yX1_init : MethodName := ⟨RX1, "<init>", "(LMobileCall$Row;I)V"⟩
abbrev cX1_isOn : ByteArray := prog_3_method_2_code
def yX1_isOn : MethodName := ⟨RX1, "isOn", "()Z"⟩
abbrev cX1_switchOn : ByteArray := prog_3_method_3_code
def yX1_switchOn : MethodName := ⟨RX1, "switchOn", "()V"⟩
abbrev cX1_switchOff : ByteArray := prog_3_method_4_code
def yX1_switchOff : MethodName := ⟨RX1, "switchOff", "()V"⟩
abbrev cX1_startUpdating : ByteArray := prog_3_method_5_code
def yX1_startUpdating : MethodName := ⟨RX1, "startUpdating", "(I)Z"⟩
abbrev cX1_startAsking : ByteArray := prog_3_method_6_code
def yX1_startAsking : MethodName := ⟨RX1, "startAsking", "(II)Z"⟩
abbrev cX1_dropRadio : ByteArray := prog_3_method_7_code
def yX1_dropRadio : MethodName := ⟨RX1, "dropRadio", "()V"⟩
abbrev cX1_takesManaging : ByteArray := prog_3_method_8_code
def yX1_takesManaging : MethodName := ⟨RX1, "takesManaging", "(LMobileCall$Message;)Z"⟩
abbrev cX1_takesCalling : ByteArray := prog_3_method_9_code
def yX1_takesCalling : MethodName := ⟨RX1, "takesCalling", "(LMobileCall$Message;)Z"⟩
abbrev cX1_timeOut : ByteArray := prog_3_method_10_code
def yX1_timeOut : MethodName := ⟨RX1, "timeOut", "()V"⟩
abbrev cX1_takesUpdated : ByteArray := prog_3_method_11_code
def yX1_takesUpdated : MethodName := ⟨RX1, "takesUpdated", "(LMobileCall$Message;)Z"⟩
abbrev cX1_takesRefusal : ByteArray := prog_3_method_12_code
def yX1_takesRefusal : MethodName := ⟨RX1, "takesRefusal", "(LMobileCall$Message;II)Z"⟩
abbrev cX1_takesChallenge : ByteArray := prog_3_method_13_code
def yX1_takesChallenge : MethodName := ⟨RX1, "takesChallenge", "(LMobileCall$Message;)Z"⟩
abbrev cX1_takesExpelled : ByteArray := prog_3_method_14_code
def yX1_takesExpelled : MethodName := ⟨RX1, "takesExpelled", "()Z"⟩
abbrev cX1_takesServed : ByteArray := prog_3_method_15_code
def yX1_takesServed : MethodName := ⟨RX1, "takesServed", "()Z"⟩
abbrev cX1_takesProgress : ByteArray := prog_3_method_16_code
def yX1_takesProgress : MethodName := ⟨RX1, "takesProgress", "(II)Z"⟩
abbrev cX1_takesConnect : ByteArray := prog_3_method_17_code
def yX1_takesConnect : MethodName := ⟨RX1, "takesConnect", "()Z"⟩
abbrev cX1_keepDigits : ByteArray := prog_3_method_18_code
def yX1_keepDigits : MethodName := ⟨RX1, "keepDigits", "(II)V"⟩
abbrev cX1_sendSetUp : ByteArray := prog_3_method_19_code
def yX1_sendSetUp : MethodName := ⟨RX1, "sendSetUp", "()V"⟩
def RX2 : String := "MobileCall$Network"
def TX2 : u_T := fun k => match k with
  | 0 => ("MobileCall$Party", "out", "LMobileCall$Row;", true)
  | 1 => ("MobileCall$Party", "restState", "I", true)
  | 2 => ("MobileCall$Party", "state", "I", false)
  | 3 => ("MobileCall$Party", "call", "I", false)
  | 4 => ("MobileCall$Party", "timer", "I", false)
  | 5 => ("MobileCall$Party", "lastCause", "I", false)
  | 6 => ("MobileCall$Party", "releasedTwice", "Z", false)
  | 7 => ("MobileCall$Network", "key", "I", true)
  | 8 => ("MobileCall$Network", "area", "I", false)
  | 9 => ("MobileCall$Network", "challenge", "I", false)
  | 10 => ("MobileCall$Network", "askedArea", "I", false)
  | 11 => ("MobileCall$Network", "acceptsUpdates", "Z", false)
  | 12 => ("MobileCall$Network", "acceptsServices", "Z", false)
  | 13 => ("MobileCall$Network", "number", "[I", true)
  | _ => ("MobileCall$Network", "numberLength", "I", false)
def tyX2 : Nat → FieldType := fun k => match k with
  | 0 => .object "MobileCall$Row"
  | 1 => .int
  | 2 => .int
  | 3 => .int
  | 4 => .int
  | 5 => .int
  | 6 => .boolean
  | 7 => .int
  | 8 => .int
  | 9 => .int
  | 10 => .int
  | 11 => .boolean
  | 12 => .boolean
  | 13 => .array .int
  | _ => .int
abbrev wsX20 : List Cond := u_ws RX2 TX2 15
theorem nmX2 : ∀ a, a < 15 → ∀ b, b < 15 → a ≠ b → (TX2 a).2.1 ≠ (TX2 b).2.1 := by decide +kernel
theorem tyX2_ok : ∀ k, k < 15 → parseFieldDescriptor (TX2 k).2.2.1 = some (tyX2 k) := by decide +kernel
abbrev cX2_init : ByteArray := prog_4_method_1_code
def yX2_init : MethodName := ⟨RX2, "<init>", "(LMobileCall$Row;II)V"⟩
abbrev cX2_setAccepted : ByteArray := prog_4_method_2_code
def yX2_setAccepted : MethodName := ⟨RX2, "setAccepted", "(ZZ)V"⟩
abbrev cX2_startRinging : ByteArray := prog_4_method_3_code
def yX2_startRinging : MethodName := ⟨RX2, "startRinging", "()Z"⟩
abbrev cX2_startAnswered : ByteArray := prog_4_method_4_code
def yX2_startAnswered : MethodName := ⟨RX2, "startAnswered", "()Z"⟩
abbrev cX2_numberByte : ByteArray := prog_4_method_5_code
def yX2_numberByte : MethodName := ⟨RX2, "numberByte", "(I)I"⟩
abbrev cX2_takesManaging : ByteArray := prog_4_method_6_code
def yX2_takesManaging : MethodName := ⟨RX2, "takesManaging", "(LMobileCall$Message;)Z"⟩
abbrev cX2_takesCalling : ByteArray := prog_4_method_7_code
def yX2_takesCalling : MethodName := ⟨RX2, "takesCalling", "(LMobileCall$Message;)Z"⟩
abbrev cX2_timeOut : ByteArray := prog_4_method_8_code
def yX2_timeOut : MethodName := ⟨RX2, "timeOut", "()V"⟩
abbrev cX2_takesDetach : ByteArray := prog_4_method_9_code
def yX2_takesDetach : MethodName := ⟨RX2, "takesDetach", "()Z"⟩
abbrev cX2_forgetMobile : ByteArray := prog_4_method_10_code
def yX2_forgetMobile : MethodName := ⟨RX2, "forgetMobile", "()V"⟩
abbrev cX2_takesUpdate : ByteArray := prog_4_method_11_code
def yX2_takesUpdate : MethodName := ⟨RX2, "takesUpdate", "(LMobileCall$Message;)Z"⟩
abbrev cX2_takesService : ByteArray := prog_4_method_12_code
def yX2_takesService : MethodName := ⟨RX2, "takesService", "()Z"⟩
abbrev cX2_sendChallenge : ByteArray := prog_4_method_13_code
def yX2_sendChallenge : MethodName := ⟨RX2, "sendChallenge", "(I)V"⟩
abbrev cX2_takesAnswer : ByteArray := prog_4_method_14_code
def yX2_takesAnswer : MethodName := ⟨RX2, "takesAnswer", "(LMobileCall$Message;)Z"⟩
abbrev cX2_decideUpdate : ByteArray := prog_4_method_15_code
def yX2_decideUpdate : MethodName := ⟨RX2, "decideUpdate", "()V"⟩
abbrev cX2_decideService : ByteArray := prog_4_method_16_code
def yX2_decideService : MethodName := ⟨RX2, "decideService", "()V"⟩
abbrev cX2_takesSetUp : ByteArray := prog_4_method_17_code
def yX2_takesSetUp : MethodName := ⟨RX2, "takesSetUp", "(LMobileCall$Message;)Z"⟩
abbrev cX2_takesConnected : ByteArray := prog_4_method_18_code
def yX2_takesConnected : MethodName := ⟨RX2, "takesConnected", "()Z"⟩
def RX3 : String := "MobileCall$Party"
def TX3 : u_T := fun k => match k with
  | _ => ("", "", "", false)
def tyX3 : Nat → FieldType := fun k => match k with
  | _ => .int
abbrev wsX30 : List Cond := u_ws RX3 TX3 0
theorem nmX3 : ∀ a, a < 0 → ∀ b, b < 0 → a ≠ b → (TX3 a).2.1 ≠ (TX3 b).2.1 := by decide +kernel
theorem tyX3_ok : ∀ k, k < 0 → parseFieldDescriptor (TX3 k).2.2.1 = some (tyX3 k) := by decide +kernel
abbrev cX3_init : ByteArray := prog_5_method_1_code
def yX3_init : MethodName := ⟨RX3, "<init>", "(LMobileCall$Row;II)V"⟩
abbrev cX3_takes : ByteArray := prog_5_method_5_code
def yX3_takes : MethodName := ⟨RX3, "takes", "(LMobileCall$Message;)Z"⟩
abbrev cX3_endsTimer : ByteArray := prog_5_method_6_code
def yX3_endsTimer : MethodName := ⟨RX3, "endsTimer", "()Z"⟩
abbrev cX3_startEnding : ByteArray := prog_5_method_7_code
def yX3_startEnding : MethodName := ⟨RX3, "startEnding", "(I)Z"⟩
abbrev cX3_rest : ByteArray := prog_5_method_8_code
def yX3_rest : MethodName := ⟨RX3, "rest", "()V"⟩
abbrev cX3_setState : ByteArray := prog_5_method_9_code
def yX3_setState : MethodName := ⟨RX3, "setState", "(II)V"⟩
abbrev cX3_setCall : ByteArray := prog_5_method_10_code
def yX3_setCall : MethodName := ⟨RX3, "setCall", "(II)V"⟩
abbrev cX3_hasCall : ByteArray := prog_5_method_11_code
def yX3_hasCall : MethodName := ⟨RX3, "hasCall", "(II)Z"⟩
abbrev cX3_takesEnd : ByteArray := prog_5_method_12_code
def yX3_takesEnd : MethodName := ⟨RX3, "takesEnd", "(LMobileCall$Message;)Z"⟩
abbrev cX3_takesRelease : ByteArray := prog_5_method_13_code
def yX3_takesRelease : MethodName := ⟨RX3, "takesRelease", "()Z"⟩
abbrev cX3_takesReleased : ByteArray := prog_5_method_14_code
def yX3_takesReleased : MethodName := ⟨RX3, "takesReleased", "()Z"⟩
abbrev cX3_timeOutClearing : ByteArray := prog_5_method_15_code
def yX3_timeOutClearing : MethodName := ⟨RX3, "timeOutClearing", "()V"⟩
abbrev cX3_answerTo : ByteArray := prog_5_method_16_code
def yX3_answerTo : MethodName := ⟨RX3, "answerTo", "(II)I"⟩
abbrev cX3_startReleasing : ByteArray := prog_5_method_17_code
def yX3_startReleasing : MethodName := ⟨RX3, "startReleasing", "()V"⟩
def RX4 : String := "MobileCall$Row"
def TX4 : u_T := fun k => match k with
  | 0 => ("MobileCall$Row", "slots", "[LMobileCall$Message;", true)
  | 1 => ("MobileCall$Row", "spare", "LMobileCall$Message;", true)
  | 2 => ("MobileCall$Row", "first", "I", false)
  | 3 => ("MobileCall$Row", "count", "I", false)
  | _ => ("MobileCall$Row", "open", "Z", false)
def tyX4 : Nat → FieldType := fun k => match k with
  | 0 => .array (.object "MobileCall$Message")
  | 1 => .object "MobileCall$Message"
  | 2 => .int
  | 3 => .int
  | _ => .boolean
abbrev wsX40 : List Cond := u_ws RX4 TX4 5
theorem nmX4 : ∀ a, a < 5 → ∀ b, b < 5 → a ≠ b → (TX4 a).2.1 ≠ (TX4 b).2.1 := by decide +kernel
theorem tyX4_ok : ∀ k, k < 5 → parseFieldDescriptor (TX4 k).2.2.1 = some (tyX4 k) := by decide +kernel
abbrev cX4_init : ByteArray := prog_6_method_1_code
def yX4_init : MethodName := ⟨RX4, "<init>", "()V"⟩
abbrev cX4_size : ByteArray := prog_6_method_2_code
def yX4_size : MethodName := ⟨RX4, "size", "()I"⟩
abbrev cX4_isOpen : ByteArray := prog_6_method_3_code
def yX4_isOpen : MethodName := ⟨RX4, "isOpen", "()Z"⟩
abbrev cX4_open : ByteArray := prog_6_method_4_code
def yX4_open : MethodName := ⟨RX4, "open", "()V"⟩
abbrev cX4_close : ByteArray := prog_6_method_5_code
def yX4_close : MethodName := ⟨RX4, "close", "()V"⟩
abbrev cX4_hasRoom : ByteArray := prog_6_method_6_code
def yX4_hasRoom : MethodName := ⟨RX4, "hasRoom", "()Z"⟩
abbrev cX4_at : ByteArray := prog_6_method_7_code
def yX4_at : MethodName := ⟨RX4, "at", "(I)LMobileCall$Message;"⟩
abbrev cX4_send : ByteArray := prog_6_method_8_code
def yX4_send : MethodName := ⟨RX4, "send", "(II)LMobileCall$Message;"⟩
abbrev cX4_dropFirst : ByteArray := prog_6_method_9_code
def yX4_dropFirst : MethodName := ⟨RX4, "dropFirst", "()V"⟩
def RX5 : String := "MobileCall"
def TX5 : u_T := fun k => match k with
  | 0 => ("MobileCall", "up", "LMobileCall$Row;", true)
  | 1 => ("MobileCall", "down", "LMobileCall$Row;", true)
  | 2 => ("MobileCall", "mobile", "LMobileCall$Mobile;", true)
  | 3 => ("MobileCall", "network", "LMobileCall$Network;", true)
  | _ => ("MobileCall", "left", "I", false)
def tyX5 : Nat → FieldType := fun k => match k with
  | 0 => .object "MobileCall$Row"
  | 1 => .object "MobileCall$Row"
  | 2 => .object "MobileCall$Mobile"
  | 3 => .object "MobileCall$Network"
  | _ => .int
abbrev wsX50 : List Cond := u_ws RX5 TX5 5
theorem nmX5 : ∀ a, a < 5 → ∀ b, b < 5 → a ≠ b → (TX5 a).2.1 ≠ (TX5 b).2.1 := by decide +kernel
theorem tyX5_ok : ∀ k, k < 5 → parseFieldDescriptor (TX5 k).2.2.1 = some (tyX5 k) := by decide +kernel
abbrev cX5_init : ByteArray := prog_1_method_1_code
def yX5_init : MethodName := ⟨RX5, "<init>", "(III)V"⟩
abbrev cX5_power : ByteArray := prog_1_method_2_code
def yX5_power : MethodName := ⟨RX5, "power", "(Z)I"⟩
abbrev cX5_update : ByteArray := prog_1_method_3_code
def yX5_update : MethodName := ⟨RX5, "update", "(I)I"⟩
abbrev cX5_dial : ByteArray := prog_1_method_4_code
def yX5_dial : MethodName := ⟨RX5, "dial", "(II)I"⟩
abbrev cX5_hang : ByteArray := prog_1_method_5_code
def yX5_hang : MethodName := ⟨RX5, "hang", "()I"⟩
abbrev cX5_alert : ByteArray := prog_1_method_6_code
def yX5_alert : MethodName := ⟨RX5, "alert", "()I"⟩
abbrev cX5_answer : ByteArray := prog_1_method_7_code
def yX5_answer : MethodName := ⟨RX5, "answer", "()I"⟩
abbrev cX5_clear : ByteArray := prog_1_method_8_code
def yX5_clear : MethodName := ⟨RX5, "clear", "(I)I"⟩
abbrev cX5_accept : ByteArray := prog_1_method_9_code
def yX5_accept : MethodName := ⟨RX5, "accept", "(I)I"⟩
abbrev cX5_radio : ByteArray := prog_1_method_10_code
def yX5_radio : MethodName := ⟨RX5, "radio", "(Z)I"⟩
abbrev cX5_carry : ByteArray := prog_1_method_11_code
def yX5_carry : MethodName := ⟨RX5, "carry", "(I)I"⟩
abbrev cX5_lose : ByteArray := prog_1_method_12_code
def yX5_lose : MethodName := ⟨RX5, "lose", "(I)I"⟩
abbrev cX5_spoil : ByteArray := prog_1_method_13_code
def yX5_spoil : MethodName := ⟨RX5, "spoil", "(III)I"⟩
abbrev cX5_forge : ByteArray := prog_1_method_14_code
def yX5_forge : MethodName := ⟨RX5, "forge", "(IJI)I"⟩
abbrev cX5_tick : ByteArray := prog_1_method_15_code
def yX5_tick : MethodName := ⟨RX5, "tick", "(I)I"⟩
abbrev cX5_told : ByteArray := prog_1_method_16_code
def yX5_told : MethodName := ⟨RX5, "told", "(I)I"⟩
abbrev cX5_byteOf : ByteArray := prog_1_method_17_code
def yX5_byteOf : MethodName := ⟨RX5, "byteOf", "(III)I"⟩
abbrev cX5_digit : ByteArray := prog_1_method_18_code
def yX5_digit : MethodName := ⟨RX5, "digit", "(I)I"⟩
abbrev cX5_row : ByteArray := prog_1_method_19_code
def yX5_row : MethodName := ⟨RX5, "row", "(I)LMobileCall$Row;"⟩
abbrev cX5_isWay : ByteArray := prog_1_method_20_code
def yX5_isWay : MethodName := ⟨RX5, "isWay", "(I)Z"⟩
abbrev cX5_isByte : ByteArray := prog_1_method_21_code
def yX5_isByte : MethodName := ⟨RX5, "isByte", "(I)Z"⟩
abbrev cX5_byteOfLong : ByteArray := prog_1_method_22_code
def yX5_byteOfLong : MethodName := ⟨RX5, "byteOfLong", "(JI)I"⟩
abbrev cX5_done : ByteArray := prog_1_method_23_code
def yX5_done : MethodName := ⟨RX5, "done", "(Z)I"⟩
def RX6 : String := "MobileCallModel"
def TX6 : u_T := fun k => match k with
  | 0 => ("MobileCallModel", "key", "I", true)
  | 1 => ("MobileCallModel", "otherKey", "I", true)
  | 2 => ("MobileCallModel", "challenge", "I", false)
  | 3 => ("MobileCallModel", "accepts", "I", false)
  | 4 => ("MobileCallModel", "silent", "Z", false)
  | 5 => ("MobileCallModel", "counts", "[I", true)
  | 6 => ("MobileCallModel", "sizes", "[I", true)
  | 7 => ("MobileCallModel", "bytes", "[I", true)
  | 8 => ("MobileCallModel", "left", "I", false)
  | 9 => ("MobileCallModel", "states", "[I", true)
  | 10 => ("MobileCallModel", "calls", "[I", true)
  | 11 => ("MobileCallModel", "timers", "[I", true)
  | 12 => ("MobileCallModel", "twice", "[Z", true)
  | 13 => ("MobileCallModel", "causes", "[I", true)
  | 14 => ("MobileCallModel", "area", "I", false)
  | 15 => ("MobileCallModel", "known", "I", false)
  | 16 => ("MobileCallModel", "wished", "I", false)
  | 17 => ("MobileCallModel", "digits", "[I", true)
  | 18 => ("MobileCallModel", "digitCount", "I", false)
  | 19 => ("MobileCallModel", "called", "[I", true)
  | 20 => ("MobileCallModel", "calledCount", "I", false)
  | 21 => ("MobileCallModel", "size", "I", false)
  | _ => ("MobileCallModel", "here", "[I", true)
def tyX6 : Nat → FieldType := fun k => match k with
  | 0 => .int
  | 1 => .int
  | 2 => .int
  | 3 => .int
  | 4 => .boolean
  | 5 => .array .int
  | 6 => .array .int
  | 7 => .array .int
  | 8 => .int
  | 9 => .array .int
  | 10 => .array .int
  | 11 => .array .int
  | 12 => .array .boolean
  | 13 => .array .int
  | 14 => .int
  | 15 => .int
  | 16 => .int
  | 17 => .array .int
  | 18 => .int
  | 19 => .array .int
  | 20 => .int
  | 21 => .int
  | _ => .array .int
abbrev wsX60 : List Cond := u_ws RX6 TX6 23
theorem nmX6 : ∀ a, a < 23 → ∀ b, b < 23 → a ≠ b → (TX6 a).2.1 ≠ (TX6 b).2.1 := by decide +kernel
theorem tyX6_ok : ∀ k, k < 23 → parseFieldDescriptor (TX6 k).2.2.1 = some (tyX6 k) := by decide +kernel
abbrev cX6_init : ByteArray := prog_8_method_1_code
def yX6_init : MethodName := ⟨RX6, "<init>", "(III)V"⟩
abbrev cX6_put : ByteArray := prog_8_method_2_code
def yX6_put : MethodName := ⟨RX6, "put", "(III)I"⟩
abbrev cX6_more : ByteArray := prog_8_method_3_code
def yX6_more : MethodName := ⟨RX6, "more", "(II)V"⟩
abbrev cX6_tell : ByteArray := prog_8_method_4_code
def yX6_tell : MethodName := ⟨RX6, "tell", "(IIIIII)V"⟩
abbrev cX6_take : ByteArray := prog_8_method_5_code
def yX6_take : MethodName := ⟨RX6, "take", "(I)V"⟩
abbrev cX6_isGood : ByteArray := prog_8_method_6_code
def yX6_isGood : MethodName := ⟨RX6, "isGood", "()Z"⟩
abbrev cX6_find : ByteArray := prog_8_method_7_code
def yX6_find : MethodName := ⟨RX6, "find", "(I)I"⟩
abbrev cX6_has : ByteArray := prog_8_method_8_code
def yX6_has : MethodName := ⟨RX6, "has", "(II)Z"⟩
abbrev cX6_number : ByteArray := prog_8_method_9_code
def yX6_number : MethodName := ⟨RX6, "number", "(I)I"⟩
abbrev cX6_turned : ByteArray := prog_8_method_10_code
def yX6_turned : MethodName := ⟨RX6, "turned", "(II)I"⟩
abbrev cX6_become : ByteArray := prog_8_method_11_code
def yX6_become : MethodName := ⟨RX6, "become", "(IIII)V"⟩
abbrev cX6_way : ByteArray := prog_8_method_12_code
def yX6_way : MethodName := ⟨RX6, "way", "(I)I"⟩
abbrev cX6_rest : ByteArray := prog_8_method_13_code
def yX6_rest : MethodName := ⟨RX6, "rest", "(I)I"⟩
abbrev cX6_release : ByteArray := prog_8_method_14_code
def yX6_release : MethodName := ⟨RX6, "release", "(I)V"⟩
abbrev cX6_isCall : ByteArray := prog_8_method_15_code
def yX6_isCall : MethodName := ⟨RX6, "isCall", "(III)Z"⟩
abbrev cX6_closes : ByteArray := prog_8_method_16_code
def yX6_closes : MethodName := ⟨RX6, "closes", "(II)Z"⟩
abbrev cX6_mobileMoves : ByteArray := prog_8_method_17_code
def yX6_mobileMoves : MethodName := ⟨RX6, "mobileMoves", "(I)Z"⟩
abbrev cX6_setUp : ByteArray := prog_8_method_18_code
def yX6_setUp : MethodName := ⟨RX6, "setUp", "()V"⟩
abbrev cX6_mobileCalls : ByteArray := prog_8_method_19_code
def yX6_mobileCalls : MethodName := ⟨RX6, "mobileCalls", "(I)Z"⟩
abbrev cX6_ask : ByteArray := prog_8_method_20_code
def yX6_ask : MethodName := ⟨RX6, "ask", "(I)V"⟩
abbrev cX6_judge : ByteArray := prog_8_method_21_code
def yX6_judge : MethodName := ⟨RX6, "judge", "()V"⟩
abbrev cX6_networkMoves : ByteArray := prog_8_method_22_code
def yX6_networkMoves : MethodName := ⟨RX6, "networkMoves", "(I)Z"⟩
abbrev cX6_networkCalls : ByteArray := prog_8_method_23_code
def yX6_networkCalls : MethodName := ⟨RX6, "networkCalls", "(I)Z"⟩
abbrev cX6_out : ByteArray := prog_8_method_24_code
def yX6_out : MethodName := ⟨RX6, "out", "(I)V"⟩
abbrev cX6_tick : ByteArray := prog_8_method_25_code
def yX6_tick : MethodName := ⟨RX6, "tick", "(I)I"⟩
abbrev cX6_power : ByteArray := prog_8_method_26_code
def yX6_power : MethodName := ⟨RX6, "power", "(Z)I"⟩
abbrev cX6_update : ByteArray := prog_8_method_27_code
def yX6_update : MethodName := ⟨RX6, "update", "(I)I"⟩
abbrev cX6_dial : ByteArray := prog_8_method_28_code
def yX6_dial : MethodName := ⟨RX6, "dial", "(II)I"⟩
abbrev cX6_end : ByteArray := prog_8_method_29_code
def yX6_end : MethodName := ⟨RX6, "end", "(II)V"⟩
abbrev cX6_hang : ByteArray := prog_8_method_30_code
def yX6_hang : MethodName := ⟨RX6, "hang", "()I"⟩
abbrev cX6_alert : ByteArray := prog_8_method_31_code
def yX6_alert : MethodName := ⟨RX6, "alert", "()I"⟩
abbrev cX6_answer : ByteArray := prog_8_method_32_code
def yX6_answer : MethodName := ⟨RX6, "answer", "()I"⟩
abbrev cX6_clear : ByteArray := prog_8_method_33_code
def yX6_clear : MethodName := ⟨RX6, "clear", "(I)I"⟩
abbrev cX6_accept : ByteArray := prog_8_method_34_code
def yX6_accept : MethodName := ⟨RX6, "accept", "(I)I"⟩
abbrev cX6_radio : ByteArray := prog_8_method_35_code
def yX6_radio : MethodName := ⟨RX6, "radio", "(Z)I"⟩
abbrev cX6_isWay : ByteArray := prog_8_method_36_code
def yX6_isWay : MethodName := ⟨RX6, "isWay", "(I)Z"⟩
abbrev cX6_carry : ByteArray := prog_8_method_37_code
def yX6_carry : MethodName := ⟨RX6, "carry", "(I)I"⟩
abbrev cX6_lose : ByteArray := prog_8_method_38_code
def yX6_lose : MethodName := ⟨RX6, "lose", "(I)I"⟩
abbrev cX6_spoil : ByteArray := prog_8_method_39_code
def yX6_spoil : MethodName := ⟨RX6, "spoil", "(III)I"⟩
abbrev cX6_forge : ByteArray := prog_8_method_40_code
def yX6_forge : MethodName := ⟨RX6, "forge", "(IJI)I"⟩
abbrev cX6_told : ByteArray := prog_8_method_41_code
def yX6_told : MethodName := ⟨RX6, "told", "(I)I"⟩
abbrev cX6_byteOf : ByteArray := prog_8_method_42_code
def yX6_byteOf : MethodName := ⟨RX6, "byteOf", "(III)I"⟩
abbrev cX6_digit : ByteArray := prog_8_method_43_code
def yX6_digit : MethodName := ⟨RX6, "digit", "(I)I"⟩
def RL : String := "MobileCallLaw"
abbrev cL_cell : ByteArray := method_2_code
def yL_cell : MethodName := ⟨RL, "cell", "([II)I"⟩
abbrev cL_law : ByteArray := code
def yL_law : MethodName := ⟨RL, "law", "([I)Z"⟩
abbrev classes : List vw_C := [(RX0, TX0, 2), (RX1, TX1, 11), (RX2, TX2, 15), (RX4, TX4, 5), (RX5, TX5, 5), (RX6, TX6, 23)]
end
section
/-- the class tables' numbers, and the classes of int[], boolean[], Message[] -/
abbrev zz_G : Type := va_G × ClassId × ClassId × ClassId
abbrev zz_cI (G : zz_G) : ClassId := G.2.1
abbrev zz_cZ (G : zz_G) : ClassId := G.2.2.1
abbrev zz_cM (G : zz_G) : ClassId := G.2.2.2
abbrev zz_tys (G : zz_G) : List (ClassId × FieldType) := [(zz_cI G, .int), (zz_cZ G, .boolean), (zz_cM G, .object RX0)]
def zz_over : List String := [RX0]
def zz_dec : List MethodName := [⟨RX3, "takesManaging", "(LMobileCall$Message;)Z"⟩, ⟨RX3, "takesCalling", "(LMobileCall$Message;)Z"⟩, ⟨RX3, "timeOut", "()V"⟩]
def zz_nest : List Cond := zz_dec.map Cond.declares
theorem zz_nest_tab : ∀ w ∈ zz_nest, w.onTables = true := fun w hw => by
  obtain ⟨x, -, rfl⟩ := List.mem_map.mp hw
  rfl
theorem zz_nest_warm {s U : State} : ∀ w ∈ zz_nest, s.WarmedH U.vm → va_Nw w s → va_Nw w U := fun w hw hW h => by
  obtain ⟨x, -, rfl⟩ := List.mem_map.mp hw
  exact va_Nw.warmD hW h
end
section
/-! THE WORLD BY NAMES: cells have names (numbers); ad gives a name's address, ce its content. A contract speaks of every ad and ce with some lookups, and its end gives the new lookups and leaves all other names as they were. -/
abbrev zz_C : Type := Nat → Option va_E
def zz_good (w : Cond) : Bool := (w.onTables && w.keeps) || (match w with | .arrayClass _ => true | _ => false)
def zz_T : List Cond := lw_tbl.filter zz_good
theorem zz_mem {w : Cond} (h : w ∈ lw_tbl) (hg : zz_good w = true) : w ∈ zz_T := List.mem_filter.mpr ⟨h, hg⟩
theorem zz_ok {w : Cond} (h : zz_good w = true) : (w.onTables && w.keeps) = true ∨ ∃ ty, w = .arrayClass ty := by
  unfold zz_good at h
  rcases (Bool.or_eq_true _ _).mp h with h | h
  · exact Or.inl h
  · refine Or.inr ?_
    cases w <;> first | exact ⟨_, rfl⟩ | cases h
theorem zz_gT : GoodIn zz_T zz_T := fun _ h => ⟨h, zz_ok (List.mem_filter.mp h).2⟩
theorem zz_gC {w : Cond} {ws : List Cond} (hw : w ∈ zz_T) (h : GoodIn zz_T ws) : GoodIn zz_T (w :: ws) := fun x hx => by
  rcases List.mem_cons.mp hx with rfl | hx
  · exact zz_gT _ hw
  · exact h x hx
/-- what the tables say all along: the classes, the arrays' classes, the words between nest mates -/
def zz_K (G : zz_G) (U : State) : Prop := va_K G.1 classes (zz_tys G) U ∧ (∀ w ∈ zz_nest, va_Nw w U) ∧ ∀ C ∈ zz_over, va_AO C U
theorem zz_K.warm {G : zz_G} {s U : State} (hW : s.WarmedH U.vm) (h : zz_K G s) : zz_K G U := ⟨va_K.moved hW.alike h.1, fun w hw => zz_nest_warm w hw hW (h.2.1 w hw), fun C hC => va_AO.moved hW.alike (h.2.2 C hC)⟩
theorem zz_K.same {G : zz_G} {s U : State} (e : s.vm = U.vm) (h : zz_K G s) : zz_K G U := ⟨va_K.moved (by rw [e]; exact Vm.Alike.refl _) h.1, fun w hw => va_Nw.same (zz_nest_tab w hw) e (h.2.1 w hw), fun C hC => va_AO.moved (by rw [e]; exact Vm.Alike.refl _) (h.2.2 C hC)⟩
def zz_W (G : zz_G) (A : Nat → Prop) (ad : Nat → Nat) (ce : zz_C) (sz : Nat) (H : Heap) : Prop :=
  H.size = sz ∧ (∀ (n : Nat) (x : va_E), ce n = some x → va_at G.1 classes (ad n, x) H) ∧ (∀ (i j : Nat) (x y : va_E), ce i = some x → ce j = some y → ad i = ad j → i = j) ∧ ∀ (n : Nat) (x : va_E), ce n = some x → A (ad n)
def zz_A (ad : Nat → Nat) (ce : zz_C) (sz : Nat) : Nat → Prop := fun q => (∃ (n : Nat) (x : va_E), ce n = some x ∧ ad n = q) ∨ sz ≤ q
theorem zz_W.any {G : zz_G} {A B : Nat → Prop} {ad : Nat → Nat} {ce : zz_C} {sz : Nat} {H : Heap} (h : zz_W G A ad ce sz H) (hB : ∀ q, A q → B q) : zz_W G B ad ce sz H := ⟨h.1, h.2.1, h.2.2.1, fun n x hn => hB _ (h.2.2.2 n x hn)⟩
theorem zz_W.self {G : zz_G} {A : Nat → Prop} {ad : Nat → Nat} {ce : zz_C} {sz : Nat} {H : Heap} (h : zz_W G A ad ce sz H) : zz_W G (zz_A ad ce sz) ad ce sz H := ⟨h.1, h.2.1, h.2.2.1, fun n x hn => Or.inl ⟨n, x, hn, rfl⟩⟩
theorem zz_W.one {G : zz_G} {A : Nat → Prop} {ad : Nat → Nat} {ce : zz_C} {sz : Nat} {H : Heap} (h : zz_W G A ad ce sz H) {n : Nat} {x : va_E} (hn : ce n = some x) : va_P G.1 classes [(ad n, x)] H := by
  intro k q hk
  have hz : k < 1 := (List.getElem?_eq_some_iff.mp hk).1
  rw [show k = 0 by omega] at hk
  cases hk
  exact h.2.1 n x hn
theorem zz_W.set {G : zz_G} {A : Nat → Prop} {ad : Nat → Nat} {ce : zz_C} {sz : Nat} {H H1 : Heap} (h : zz_W G A ad ce sz H) {n : Nat} {e0 e : va_E} (hn : ce n = some e0) (he : va_at G.1 classes (ad n, e) H1) (z : H1.size = H.size) (oq : ∀ q : Nat, q ≠ ad n → H1[q]? = H[q]?) : zz_W G A ad (va_up ce n (some e)) sz H1 := by
  obtain ⟨h1, h2, h3, h4⟩ := h
  have key : ∀ (k : Nat) (x : va_E), va_up ce n (some e) k = some x → ∃ x0, ce k = some x0 := by
    intro k x hk
    by_cases hkn : k = n
    · subst hkn; exact ⟨e0, hn⟩
    · simp only [va_up, if_neg hkn] at hk; exact ⟨x, hk⟩
  refine ⟨z.trans h1, fun k x hk => ?_, fun i j x y hi hj hij => ?_, fun k x hk => ?_⟩
  · by_cases hkn : k = n
    · subst hkn
      simp only [va_up, if_true] at hk
      cases hk
      exact he
    · simp only [va_up, if_neg hkn] at hk
      exact (h2 k x hk).kept (oq _ (fun q => hkn (h3 k n x e0 hk hn q)))
  · obtain ⟨x0, hx⟩ := key i x hi
    obtain ⟨y0, hy⟩ := key j y hj
    exact h3 i j x0 y0 hx hy hij
  · obtain ⟨x0, hx⟩ := key k x hk
    exact h4 k x0 hx
theorem zz_W.put {G : zz_G} {A : Nat → Prop} {ad : Nat → Nat} {ce : zz_C} {sz : Nat} {H H1 : Heap} (h : zz_W G A ad ce sz H) {n : Nat} {e0 e : va_E} (hn : ce n = some e0) (he : va_at G.1 classes (ad n, e) H1) (z : H1.size = H.size) (oq : ∀ q : Nat, q ≠ ad n → H1[q]? = H[q]?) : ∃ ce1 : zz_C, ce1 n = some e ∧ (∀ j, j ≠ n → ce1 j = ce j) ∧ zz_W G A ad ce1 sz H1 := ⟨va_up ce n (some e), by simp [va_up], fun j hj => by simp [va_up, hj], h.set hn he z oq⟩
/-- a new cell under a name that was free -/
theorem zz_W.born {G : zz_G} {A : Nat → Prop} {ad : Nat → Nat} {ce : zz_C} {sz : Nat} {H H1 : Heap} (h : zz_W G A ad ce sz H) {n : Nat} {e : va_E} (hn : ce n = none) (he : va_at G.1 classes (sz, e) H1) (z : H1.size = sz + 1) (oq : ∀ q : Nat, q < sz → H1[q]? = H[q]?) (hA : A sz) : ∃ (ad1 : Nat → Nat) (ce1 : zz_C), ad1 n = sz ∧ (∀ j, j ≠ n → ad1 j = ad j) ∧ ce1 n = some e ∧ (∀ j, j ≠ n → ce1 j = ce j) ∧ zz_W G A ad1 ce1 (sz + 1) H1 := by
  obtain ⟨h1, h2, h3, h4⟩ := h
  have lt : ∀ (k : Nat) (x : va_E), ce k = some x → ad k < sz := fun k x hk => by rw [← h1]; exact (h2 k x hk).lt
  refine ⟨va_up ad n sz, va_up ce n (some e), by simp [va_up], fun j hj => by simp [va_up, hj], by simp [va_up], fun j hj => by simp [va_up, hj], z, fun k x hk => ?_, fun i j x y hi hj hij => ?_, fun k x hk => ?_⟩
  · by_cases hkn : k = n
    · subst hkn
      simp only [va_up, if_true] at hk ⊢
      cases hk
      exact he
    · simp only [va_up, if_neg hkn] at hk ⊢
      exact (h2 k x hk).kept (oq _ (lt k x hk))
  · by_cases hi' : i = n <;> by_cases hj' : j = n
    · rw [hi', hj']
    · simp only [va_up, if_pos hi', if_neg hj'] at hij hj
      have := lt j y hj
      omega
    · simp only [va_up, if_neg hi', if_pos hj'] at hij hi
      have := lt i x hi
      omega
    · simp only [va_up, if_neg hi', if_neg hj'] at hij hi hj
      exact h3 i j x y hi hj hij
  · by_cases hkn : k = n
    · simp only [va_up, if_pos hkn]; exact hA
    · simp only [va_up, if_neg hkn] at hk ⊢
      exact h4 k x hk
def zz_R (d lc mc ms : Nat) : Room := { frames := d, cells := mc, slots := ms, locals := lc }
def zz_Pre (G : zz_G) (ad : Nat → Nat) (ce : zz_C) (sz : Nat) : State → Prop := fun U => zz_K G U ∧ zz_W G (fun _ => True) ad ce sz U.heap
def zz_Q (G : zz_G) (ad : Nat → Nat) (ce : zz_C) (sz mc : Nat) (Po : Option Value → (Nat → Nat) → zz_C → Prop) : Array Value → State → Outcome → State → Prop := fun _ st oc t => (∃ (r : Option Value) (ad1 : Nat → Nat) (ce1 : zz_C), oc = .returned r ∧ Po r ad1 ce1 ∧ zz_W G (zz_A ad ce sz) ad1 ce1 (sz + mc) t.heap) ∧ va_F (zz_A ad ce sz) st t
/-- THE CONTRACT of method y at height d (calls below it), with mc cells of ms slots made: from the world (ad, ce) it ends with Po -/
def zz_M (l : Launch) (y : MethodName) (cc : ByteArray) (maxL : Nat) (ret : Option FieldType) (d lc mc ms : Nat) (G : zz_G) (av : List Value) (ad : Nat → Nat) (ce : zz_C) (sz : Nat) (Po : Option Value → (Nat → Nat) → zz_C → Prop) : Prop :=
  Met l y (Cond.code y cc maxL ret :: zz_T) (zz_R d lc mc ms) (va_Pc av (zz_Pre G ad ce sz)) (zz_Q G ad ce sz mc Po) mc ms (zz_A ad ce sz)
theorem zz_blind {G : zz_G} {av : List Value} {ad : Nat → Nat} {ce : zz_C} {sz : Nat} : FrameBlind (va_Pc av (zz_Pre G ad ce sz)) := fun a U g mk q => ⟨q.1, zz_K.same (s := U) (U := U.calling g mk a) rfl q.2.1, q.2.2⟩
def zz_F (p : Program) (s : State) (m : MethodId) (args : Array Value) (meth : Method) (c : Code) (cc : ByteArray) (y : MethodName) (ret : Option FieldType) (nL : Nat) (G : zz_G) : Prop :=
  p.tables.exec = Jvm.exec ∧ c.code = cc ∧ meth.sig.returnType = ret ∧ c.maxLocals = nL ∧ s.vm.findClass y.cls = some m.cls ∧ (∀ w ∈ zz_T, w.before args s = true) ∧ meth.locks = false ∧ zz_K G s ∧ meth.name = y.name
theorem zz_enter {l : Launch} {y : MethodName} {cc : ByteArray} {maxL : Nat} {ret : Option FieldType} {d lc mc ms : Nat} {G : zz_G} {av : List Value} {ad : Nat → Nat} {ce : zz_C} {sz : Nat} {Po : Option Value → (Nat → Nat) → zz_C → Prop}
    (hy : plainName y.cls = true) (hn : (lg_sl av).length ≤ maxL)
    (body : ∀ (p : Program) (e : Env) (s : State) (m : MethodId) (below : List Frame) (meth : Method) (c : Code) (ls : Array Slot), zz_F p s m av.toArray meth c cc y ret maxL G → lv_has ls maxL (lv_args 0 av) → zz_W G (zz_A ad ce sz) ad ce sz s.heap → va_S (zz_A ad ce sz) s.heap s.heap [] → (∀ q, s.heap.size ≤ q → zz_A ad ce sz q) →
      W p l e (zz_R d lc mc ms) s m av.toArray below meth c s.heap [] 0 0 (MQ below (zz_Q G ad ce sz mc Po) av.toArray s mc ms (zz_A ad ce sz)) (F0 m 0 ls [])) : zz_M l y cc maxL ret d lc mc ms G av ad ce sz Po := by
  refine Met.ofW (cc := cc) (maxL := maxL) (ret := ret) hy rfl ?_
  intro p e s m args below meth c s₁ B hml hv
  obtain ⟨rfl, hK, hW⟩ := hv
  have hts := atoms_spec (ws := Cond.code y cc maxL ret :: zz_T) B.pre
  have hl := lv_entry av (n := maxL) hn
  rw [lg_entry_eq]
  generalize (lg_sl av ++ List.replicate (maxL - (lg_sl av).length) Slot.unset).toArray = ls at hl ⊢
  exact body p e s m below meth c ls ⟨B.exec, B.bytes, B.returns, hml, findClass_of_methodNamed B.named, fun w hw => hts w (List.mem_cons_of_mem _ hw), B.notSynchronized, hK, (name_of_methodNamed B.named B.method).1⟩ hl hW.self va_S.rf (fun q hq => Or.inr (by rw [← hW.1]; exact hq))
section ZZ1
variable {p : Program} {l : Launch} {e : Env} {R : Room} {s : State} {m : MethodId} {args : Array Value} {below : List Frame} {meth : Method} {c : Code} {H : Heap} {locs : List Loc} {cells slots : Nat} {Q : State → Prop}
variable {cc : ByteArray} {y : MethodName} {ret : Option FieldType} {nL pc : Nat} {ls : Array Slot} {rest : List Value} {G : zz_G} {A : Nat → Prop} {H0 : Heap} {ad : Nat → Nat} {ce : zz_C} {sz : Nat}
/-- a field's words: own class of the method, pool index, class number, place -/
def zz_fd (own : String) (index ci k : Nat) (C : String) (T : u_T) (N : Nat) (ref : String) : Prop :=
  classes[ci]? = some (C, T, N) ∧ k < N ∧ (∀ w ∈ u_ws C T N, w ∈ zz_T) ∧ Cond.fieldLink own index ref (T k).2.1 (T k).2.2.1 ∈ zz_T ∧ (ref = (T k).1 ∨ Cond.sameField ref (T k).1 (T k).2.1 (T k).2.2.1 ∈ zz_T)
theorem zz_same {own C ref : String} {T : u_T} {N index ci k : Nat} (hts : ∀ w ∈ zz_T, w.before args s = true) (hf : zz_fd own index ci k C T N ref) : ∀ x, s.fieldFound? (T k).1 (T k).2.1 (T k).2.2.1 = some x → s.fieldFound? ref (T k).2.1 (T k).2.2.1 = some x := by
  intro x hx
  rcases hf.2.2.2.2 with h | h
  · rw [h]; exact hx
  · exact u_same (hts _ h) x hx
theorem z_get {C ref : String} {T : u_T} {N ci index k : Nat} (F : zz_F p s m args meth c cc y ret nL G) (hw : zz_W G A ad ce sz H) {n : Nat} {fs : List Value} (hn : ce n = some (.inr (ci, fs))) (hf : zz_fd y.cls index ci k C T N ref) {v : Value} (hv : fs[k]? = some v) (hdg : decode cc pc = .ok (.getfield index, 3))
    (kk : W p l e R s m args below meth c H locs cells slots Q (F0 m (pc + 3) ls (v :: rest))) : W p l e R s m args below meth c H locs cells slots Q (F0 m pc ls (.ref (ad n) :: rest)) := by
  obtain ⟨hx, hb, hr, hml, hown, hts, hlocks, hK, -⟩ := F
  exact va_get hx hb hts hf.2.2.1 hown hK.1 (hw.one hn) 0 rfl hf.1 k hf.2.1 (hts _ hf.2.2.2.1) (zz_same hts hf) hv hdg kk
/-- .. and what a store asks beside: the types, the names apart, that it isn't final -/
def zz_pt (k : Nat) (T : u_T) (N : Nat) (ty0 : Nat → FieldType) : Prop :=
  (∀ j, j < N → parseFieldDescriptor (T j).2.2.1 = some (ty0 j)) ∧ (∀ a, a < N → ∀ b, b < N → a ≠ b → (T a).2.1 ≠ (T b).2.1)
theorem z_put {C ref : String} {T : u_T} {N ci index k : Nat} {ty0 : Nat → FieldType} (F : zz_F p s m args meth c cc y ret nL G) (hw : zz_W G A ad ce sz H) (hS : va_S A H0 H locs) {n : Nat} {fs fs' : List Value} (hn : ce n = some (.inr (ci, fs))) (hf : zz_fd y.cls index ci k C T N ref) (hp : zz_pt k T N ty0) (hfin : (T k).2.2.2 = false) {v : Value} (hnr : narrow (ty0 k) v = v) (hfit : fits (ty0 k) v = true) (hl : k < fs.length) (hfs : fs.set k v = fs') (hdg : decode cc pc = .ok (.putfield index, 3))
    (kk : ∀ (ce1 : zz_C) (H1 : Heap) (locs1 : List Loc), ce1 n = some (.inr (ci, fs')) → (∀ j, j ≠ n → ce1 j = ce j) → zz_W G A ad ce1 sz H1 → va_S A H0 H1 locs1 → W p l e R s m args below meth c H1 locs1 cells slots Q (F0 m (pc + 3) ls rest)) : W p l e R s m args below meth c H locs cells slots Q (F0 m pc ls (v :: .ref (ad n) :: rest)) := by
  obtain ⟨hx, hb, hr, hml, hown, hts, hlocks, hK, -⟩ := F
  subst hfs
  have hap := va_apart (own := y.cls) hts hf.2.2.1 ty0 hp.1 hp.2 hK.1 hf.1
  obtain ⟨r, h1, cell, q1, q2, q3, q4⟩ := hw.2.1 n _ hn
  have hr : r = (C, T, N) := Option.some.inj (h1.symm.trans hf.1)
  subst hr
  have hk := hf.2.1
  obtain ⟨hSl, hfc, kC, hkC, hkind⟩ := hK.1.1 ci _ hf.1
  obtain ⟨cf, kf, fi, f, hi, hsl⟩ := hSl k hk
  have hlay := hts _ (hf.2.2.1 _ (u_in_lay hk))
  unfold u_lay at hlay
  rw [if_neg (by rw [hfin]; decide)] at hlay
  have hst := (u_facts hfc hkC (u_lays hts hf.2.2.1 hk) hi).1
  have h6 := u_store hfc hkC hkind hlay hi (hp.1 k hk) hnr hfit
  refine W.putK hx hb (f := f) ⟨hown, hts _ hf.2.2.2.1, ⟨_, _, _, zz_same hts hf _ hi⟩, hst⟩ (by rw [q2]; exact h6) q1 q3 (by rw [hsl]; exact k2_hasslot (q4 k hk)) rfl rfl hdg fun H' e1 e2 e3 => ?_
  rw [hsl] at e1 ⊢
  have he : va_at G.1 classes (ad n, .inr (ci, fs.set k v)) H' := ⟨_, hf.1, t_OB.to (V := updV (vp_V fs) k v) ⟨_, e1, q2, q3, t_set q4 hap hk v⟩ (fun j _ => vp_updV_set hl v j)⟩
  obtain ⟨ce1, g1, g2, g3⟩ := hw.put hn he e2 e3
  exact kk ce1 H' _ g1 g2 g3 (hS.put e2 e3 (hw.2.2.2 n _ hn))
theorem z_putF {C ref : String} {T : u_T} {N ci index k : Nat} {ty0 : Nat → FieldType} (F : zz_F p s m args meth c cc y ret nL G) (hin2 : y.name = "<init>") (hw : zz_W G A ad ce sz H) (hS : va_S A H0 H locs) {n : Nat} {fs fs' : List Value} (hn : ce n = some (.inr (ci, fs))) (hf : zz_fd y.cls index ci k C T N ref) (hp : zz_pt k T N ty0) (hfin : (T k).2.2.2 = true) (hdecl : (T k).1 = y.cls) {v : Value} (hnr : narrow (ty0 k) v = v) (hfit : fits (ty0 k) v = true) (hl : k < fs.length) (hfs : fs.set k v = fs') (hdg : decode cc pc = .ok (.putfield index, 3))
    (kk : ∀ (ce1 : zz_C) (H1 : Heap) (locs1 : List Loc), ce1 n = some (.inr (ci, fs')) → (∀ j, j ≠ n → ce1 j = ce j) → zz_W G A ad ce1 sz H1 → va_S A H0 H1 locs1 → W p l e R s m args below meth c H1 locs1 cells slots Q (F0 m (pc + 3) ls rest)) : W p l e R s m args below meth c H locs cells slots Q (F0 m pc ls (v :: .ref (ad n) :: rest)) := by
  obtain ⟨hx, hb, hr, hml, hown, hts, hlocks, hK, hnm⟩ := F
  subst hfs
  have hap := va_apart (own := y.cls) hts hf.2.2.1 ty0 hp.1 hp.2 hK.1 hf.1
  obtain ⟨r, h1, cell, q1, q2, q3, q4⟩ := hw.2.1 n _ hn
  have hr : r = (C, T, N) := Option.some.inj (h1.symm.trans hf.1)
  subst hr
  have hk := hf.2.1
  obtain ⟨hSl, hfc, kC, hkC, hkind⟩ := hK.1.1 ci _ hf.1
  obtain ⟨cf, kf, fi, f, hi, hsl⟩ := hSl k hk
  have hlay := hts _ (hf.2.2.1 _ (u_in_lay hk))
  unfold u_lay at hlay
  rw [if_pos hfin] at hlay
  have hst := (u_facts hfc hkC (u_lays hts hf.2.2.1 hk) hi).1
  have hcf : m.cls = cf := by
    obtain ⟨_, _, c', _, _, _, -, -, hf', -, -, -, hown2, -⟩ := Cond.laysFinal_spec hlay
    have e1 : c' = cf := by have := hi.symm.trans hf'; simp at this; exact this.1.symm
    rw [hdecl] at hown2
    rw [← e1]; exact Option.some.inj (hown.symm.trans hown2)
  have h6 := u_fits hfc hkC hkind (Or.inr hlay) hi (hp.1 k hk) hnr hfit
  refine W.putFinK hx hb hown (hts _ hf.2.2.2.1) (zz_same hts hf _ hi) hst hcf (hnm.trans hin2) (by rw [q2]; exact h6) q1 q3 (by rw [hsl]; exact k2_hasslot (q4 k hk)) rfl rfl hdg fun H' e1 e2 e3 => ?_
  rw [hsl] at e1 ⊢
  have he : va_at G.1 classes (ad n, .inr (ci, fs.set k v)) H' := ⟨_, hf.1, t_OB.to (V := updV (vp_V fs) k v) ⟨_, e1, q2, q3, t_set q4 hap hk v⟩ (fun j _ => vp_updV_set hl v j)⟩
  obtain ⟨ce1, g1, g2, g3⟩ := hw.put hn he e2 e3
  exact kk ce1 H' _ g1 g2 g3 (hS.put e2 e3 (hw.2.2.2 n _ hn))
theorem z_iald (F : zz_F p s m args meth c cc y ret nL G) (hw : zz_W G A ad ce sz H) {n N : Nat} {f : Nat → Int32} (hn : ce n = some (.inl (zz_cI G, N, .inl f))) {i : Int32} (hin : vp_in i N) (hdg : decode cc pc = .ok (.iaload, 1))
    (kk : W p l e R s m args below meth c H locs cells slots Q (F0 m (pc + 1) ls (.int (f i.toNatClampNeg) :: rest))) : W p l e R s m args below meth c H locs cells slots Q (F0 m pc ls (.int i :: .ref (ad n) :: rest)) := by
  obtain ⟨hx, hb, hr, hml, hown, hts, hlocks, hK, -⟩ := F
  exact va_iald hx hb hK.1 (hw.one hn) 0 0 rfl rfl hin hdg kk
theorem z_iast (F : zz_F p s m args meth c cc y ret nL G) (hw : zz_W G A ad ce sz H) (hS : va_S A H0 H locs) {n N : Nat} {f : Nat → Int32} (hn : ce n = some (.inl (zz_cI G, N, .inl f))) {i x : Int32} (hin : vp_in i N) (hdg : decode cc pc = .ok (.iastore, 1))
    (kk : ∀ (ce1 : zz_C) (H1 : Heap) (locs1 : List Loc), ce1 n = some (.inl (zz_cI G, N, .inl (upd f i.toNatClampNeg x))) → (∀ j, j ≠ n → ce1 j = ce j) → zz_W G A ad ce1 sz H1 → va_S A H0 H1 locs1 → W p l e R s m args below meth c H1 locs1 cells slots Q (F0 m (pc + 1) ls rest)) : W p l e R s m args below meth c H locs cells slots Q (F0 m pc ls (.int x :: .int i :: .ref (ad n) :: rest)) := by
  obtain ⟨hx, hb, hr, hml, hown, hts, hlocks, hK, -⟩ := F
  refine W.iast hx hb (hw.2.1 n _ hn) ((hK.1.2 0 (zz_cI G, .int) rfl).1 N (fun j => .int (f j))) (fun q => by cases q) (by show ¬ (i < 0 ∨ (arrV _ _ _).slots.size ≤ _); rw [arrV_size]; exact hin) rfl rfl hdg fun H1 e1 z oq => ?_
  have he : va_at G.1 classes (ad n, .inl (zz_cI G, N, .inl (upd f i.toNatClampNeg x))) H1 := by
    show H1[ad n]? = some (vp_cell _ _)
    rw [e1]
    show some ((vp_cell _ _).setSlot _ _) = _
    rw [vp_cell_i, vp_cell_i, arrV_store]
    congr 2
    funext q
    by_cases hq : q = i.toNatClampNeg
    · subst hq
      simp [updV, upd]
    · simp [updV, upd, hq]
  obtain ⟨ce1, g1, g2, g3⟩ := hw.put hn he z oq
  exact kk ce1 H1 _ g1 g2 g3 (hS.put z oq (hw.2.2.2 n _ hn))
theorem z_alen (F : zz_F p s m args meth c cc y ret nL G) (hw : zz_W G A ad ce sz H) {n N : Nat} {f : Nat → Int32} (hn : ce n = some (.inl (zz_cI G, N, .inl f))) {v : Int32} (hv : Int32.ofNat N = v) (hdg : decode cc pc = .ok (.arraylength, 1))
    (kk : W p l e R s m args below meth c H locs cells slots Q (F0 m (pc + 1) ls (.int v :: rest))) : W p l e R s m args below meth c H locs cells slots Q (F0 m pc ls (.ref (ad n) :: rest)) := by
  obtain ⟨hx, hb, hr, hml, hown, hts, hlocks, hK, -⟩ := F
  exact va_alen hx hb hK.1 (hw.one hn) 0 0 rfl (ty := .int) rfl hv hdg kk
/-- a call, whatever its kind: what va_run.. gives, and the world behind it -/
theorem z_call {mc ms : Nat} {st0 : List Value} {a : Array Value} {Po : Option Value → (Nat → Nat) → zz_C → Prop} (hr : va_Run p l e R s m args below meth c H locs cells slots mc ms (F0 m pc ls st0) rest (zz_Q G ad ce sz mc Po a) (zz_A ad ce sz)) (hw : zz_W G A ad ce sz H) (hA : ∀ q, H0.size ≤ q → A q) (hS : va_S A H0 H locs)
    (kk : ∀ (r : Option Value) (ad1 : Nat → Nat) (ce1 : zz_C) (H1 : Heap) (locs1 : List Loc), Po r ad1 ce1 → zz_W G A ad1 ce1 (sz + mc) H1 → va_S A H0 H1 locs1 → W p l e R s m args below meth c H1 locs1 (cells + mc) (slots + ms) Q (F0 m (pc + 3) ls (r.toList ++ rest))) : W p l e R s m args below meth c H locs cells slots Q (F0 m pc ls st0) := by
  have hsub : ∀ q, zz_A ad ce sz q → A q := by
    intro q hq
    rcases hq with ⟨n, x, h1, h2⟩ | h
    · rw [← h2]; exact hw.2.2.2 n x h1
    · exact hA q (Nat.le_trans hS.1 (by rw [hw.1]; exact h))
  intro T hT X
  obtain ⟨v, st₀, t, T', L, h0, X', hL, e1, e2, ⟨⟨r, ad1, ce1, hv, hp, hb⟩, hz, hk⟩, st⟩ := hr T hT X
  cases hv
  rw [h0] at hz hk
  obtain ⟨t2, a1, b1⟩ := kk v ad1 ce1 T'.heap (locs ++ L) hp (by rw [e1]; exact hb.any hsub)
    ⟨Nat.le_trans hS.1 (by rw [e1]; exact hz), fun q h1 h2 => by rw [e1, hk q (Nat.lt_of_lt_of_le h1 hS.1) (fun z => h2 (hsub q z))]; exact hS.2.1 q h1 h2, fun q hq => by
      rcases List.mem_append.mp hq with h | h
      · exact hS.2.2 q h
      · exact hsub _ (hL q h)⟩ T' rfl X'
  exact ⟨t2, st t2 a1, b1⟩
/-- ends -/
theorem z_iret {mc ms : Nat} {ad0 : Nat → Nat} {ce0 : zz_C} {sz0 : Nat} {Po : Option Value → (Nat → Nat) → zz_C → Prop} {ty : FieldType} {v : Int32} (F : zz_F p s m args meth c cc y (some ty) nL G) (hn : narrow ty (.int v) = .int v) (hw : zz_W G (zz_A ad0 ce0 sz0) ad ce (sz0 + mc) H) (hS : va_S (zz_A ad0 ce0 sz0) s.heap H locs) (hp : Po (some (.int v)) ad ce) (hdg : decode cc pc = .ok (.ireturn, 1)) :
    W p l e R s m args below meth c H locs mc ms (MQ below (zz_Q G ad0 ce0 sz0 mc Po) args s mc ms (zz_A ad0 ce0 sz0)) (F0 m pc ls [.int v]) := by
  obtain ⟨hx, hb, hr, hml, hown, hts, hlocks, hK, -⟩ := F
  exact W.zret hx hb hr hn (fun t ht hW => ⟨⟨_, ad, ce, rfl, hp, by rw [ht]; exact hw⟩, hS.F ht⟩) hS.2.2 hdg hlocks
theorem z_vret {mc ms : Nat} {ad0 : Nat → Nat} {ce0 : zz_C} {sz0 : Nat} {Po : Option Value → (Nat → Nat) → zz_C → Prop} (F : zz_F p s m args meth c cc y none nL G) (hw : zz_W G (zz_A ad0 ce0 sz0) ad ce (sz0 + mc) H) (hS : va_S (zz_A ad0 ce0 sz0) s.heap H locs) (hp : Po none ad ce) (hdg : decode cc pc = .ok (.return_, 1)) :
    W p l e R s m args below meth c H locs mc ms (MQ below (zz_Q G ad0 ce0 sz0 mc Po) args s mc ms (zz_A ad0 ce0 sz0)) (F0 m pc ls []) := by
  obtain ⟨hx, hb, hr, hml, hown, hts, hlocks, hK, -⟩ := F
  exact W.vret hx hb hr (fun t ht hW => ⟨⟨_, ad, ce, rfl, hp, by rw [ht]; exact hw⟩, hS.F ht⟩) hS.2.2 hdg hlocks
theorem z_aret {mc ms : Nat} {ad0 : Nat → Nat} {ce0 : zz_C} {sz0 : Nat} {Po : Option Value → (Nat → Nat) → zz_C → Prop} {C : String} {v : Value} (F : zz_F p s m args meth c cc y (some (.object C)) nL G) (hv : v = .null ∨ ∃ a, v = .ref a) (hw : zz_W G (zz_A ad0 ce0 sz0) ad ce (sz0 + mc) H) (hS : va_S (zz_A ad0 ce0 sz0) s.heap H locs) (hp : Po (some v) ad ce) (hdg : decode cc pc = .ok (.areturn, 1)) :
    W p l e R s m args below meth c H locs mc ms (MQ below (zz_Q G ad0 ce0 sz0 mc Po) args s mc ms (zz_A ad0 ce0 sz0)) (F0 m pc ls [v]) := by
  obtain ⟨hx, hb, hr, hml, hown, hts, hlocks, hK, -⟩ := F
  exact W.aret hx hb hr (Or.inl ⟨C, rfl⟩) hv (fun t ht hW => ⟨⟨_, ad, ce, rfl, hp, by rw [ht]; exact hw⟩, hS.F ht⟩) hS.2.2 hdg hlocks
end ZZ1
end
section
section ZZ2
variable {p : Program} {l : Launch} {e : Env} {R : Room} {s : State} {m : MethodId} {args : Array Value} {below : List Frame} {meth : Method} {c : Code} {H : Heap} {locs : List Loc} {cells slots : Nat} {Q : State → Prop}
variable {cc : ByteArray} {y : MethodName} {ret : Option FieldType} {nL pc : Nat} {ls : Array Slot} {rest st0 As : List Value} {G : zz_G} {A : Nat → Prop} {H0 : Heap} {ad : Nat → Nat} {ce : zz_C} {sz : Nat}
variable {own C : String} {T : u_T} {N ci index : Nat} {x z : MethodName} {bx : ByteArray} {mL : Nat} {rt : Option FieldType} {d lc mc ms n : Nat} {Po : Option Value → (Nat → Nat) → zz_C → Prop} {lv : List (Nat × Value)}
abbrev zz_nh (o : String) : Prop := o ≠ "java/lang/invoke/MethodHandle" ∧ o ≠ "java/lang/invoke/VarHandle"
abbrev zz_pn (x : MethodName) (n : Nat) : Prop := (parseMethodDescriptor x.desc).map (fun d => d.parameters.length) = some n
theorem zz_len (h : zz_pn x n) : ∀ sig, parseMethodDescriptor x.desc = some sig → n = sig.parameters.length := fun sig hs => by
  have h2 := h
  rw [zz_pn, hs] at h2
  exact (Option.some.inj h2).symm
theorem zz_pre (hK : zz_K G s) (hw : zz_W G A ad ce sz H) {av : List Value} : ∀ U : State, U.heap = H → s.WarmedH U.vm → va_Pc av (zz_Pre G ad ce sz) av.toArray U := fun U hU hW => ⟨rfl, hK.warm hW, by rw [hU]; exact hw.any (fun _ _ => trivial)⟩
theorem zz_recv (hK : zz_K G s) (hw : zz_W G A ad ce sz H) {q : Nat} {fs : List Value} (hq : ce q = some (.inr (ci, fs))) (hc : classes[ci]? = some (C, T, N)) : ∃ cell : Cell, H[ad q]? = some cell ∧ cell.vm.isStatics = false ∧ s.vm.findClass C = some cell.cls := va_recv hK.1 (hw.one hq) hc (q0 := 0) rfl
/-- a method of its own class's name, on a receiver of that class -/
def zz_yv (own : String) (index : Nat) (x : MethodName) (bx : ByteArray) (mL : Nat) (rt : Option FieldType) (n : Nat) : Prop :=
  Cond.methodLink own index x ∈ zz_T ∧ Cond.instanceMethod x ∈ zz_T ∧ Cond.selects x.cls x x ∈ zz_T ∧ Cond.initialized x.cls ∈ zz_T ∧ Cond.code x bx mL rt ∈ zz_T ∧ zz_nh x.cls ∧ zz_pn x n
theorem z_invV (F : zz_F p s m args meth c cc y ret nL G) {q : Nat} (hM : zz_M l x bx mL rt d lc mc ms G (.ref (ad q) :: As) ad ce sz Po) (hY : zz_yv y.cls index x bx mL rt n) (hR : d + 1 ≤ R.frames ∧ 8 + (mL + 11) + lc ≤ R.locals) (hw : zz_W G A ad ce sz H) (hA : ∀ q, H0.size ≤ q → A q) (hS : va_S A H0 H locs) (hl : lv_has ls nL lv) {fs : List Value} (hq : ce q = some (.inr (ci, fs))) (hci : classes[ci]? = some (x.cls, T, N)) (hn : As.length = n) (hst : st0 = As.reverse ++ .ref (ad q) :: rest) (hrm : (rest.map fun v => v.category).sum ≤ 8) (hdg : decode cc pc = .ok (.invokevirtual index, 3)) (hf : cells + mc ≤ R.cells ∧ slots + ms ≤ R.slots)
    (kk : ∀ (r : Option Value) (ad1 : Nat → Nat) (ce1 : zz_C) (H1 : Heap) (locs1 : List Loc), Po r ad1 ce1 → zz_W G A ad1 ce1 (sz + mc) H1 → va_S A H0 H1 locs1 → W p l e R s m args below meth c H1 locs1 (cells + mc) (slots + ms) Q (F0 m (pc + 3) ls (r.toList ++ rest))) : W p l e R s m args below meth c H locs cells slots Q (F0 m pc ls st0) := by
  obtain ⟨hx, hb, hr, hml, hown, hts, hlocks, hK, -⟩ := F
  obtain ⟨y1, y2, y3, y4, y5, y6, y7⟩ := hY
  subst hst
  exact z_call (va_runV (As := As) (rest := rest) (Ts := zz_T) (own := y.cls) ⟨hx, hb, hml, hown, hts⟩ hM ⟨⟨rfl, rfl, hR.1, hR.2, pay_in hts (zz_gC y5 zz_gT), List.mem_cons_self, hts _ y5, hts _ y4, y6, zz_len y7, hts _ y1⟩, hts _ y2, hts _ y3⟩ ⟨zz_blind, zz_recv hK hw hq hci, zz_pre hK hw⟩ rfl hn hl.1 rfl (lv_room hrm) hdg hf) hw hA hS kk
/-- a private method of a nest mate -/
def zz_yn (own : String) (index : Nat) (host : String) (x : MethodName) (bx : ByteArray) (mL : Nat) (rt : Option FieldType) (n : Nat) : Prop :=
  Cond.methodLinkNest own index x host ∈ zz_nest ∧ Cond.instanceMethod x ∈ zz_T ∧ Cond.selects x.cls x x ∈ zz_T ∧ Cond.initialized x.cls ∈ zz_T ∧ Cond.code x bx mL rt ∈ zz_T ∧ zz_nh x.cls ∧ zz_pn x n
theorem z_invN {host : String} (F : zz_F p s m args meth c cc y ret nL G) {q : Nat} (hM : zz_M l x bx mL rt d lc mc ms G (.ref (ad q) :: As) ad ce sz Po) (hY : zz_yn y.cls index host x bx mL rt n) (hR : d + 1 ≤ R.frames ∧ 8 + (mL + 11) + lc ≤ R.locals) (hw : zz_W G A ad ce sz H) (hA : ∀ q, H0.size ≤ q → A q) (hS : va_S A H0 H locs) (hl : lv_has ls nL lv) {fs : List Value} (hq : ce q = some (.inr (ci, fs))) (hci : classes[ci]? = some (x.cls, T, N)) (hn : As.length = n) (hst : st0 = As.reverse ++ .ref (ad q) :: rest) (hrm : (rest.map fun v => v.category).sum ≤ 8) (hdg : decode cc pc = .ok (.invokevirtual index, 3)) (hf : cells + mc ≤ R.cells ∧ slots + ms ≤ R.slots)
    (kk : ∀ (r : Option Value) (ad1 : Nat → Nat) (ce1 : zz_C) (H1 : Heap) (locs1 : List Loc), Po r ad1 ce1 → zz_W G A ad1 ce1 (sz + mc) H1 → va_S A H0 H1 locs1 → W p l e R s m args below meth c H1 locs1 (cells + mc) (slots + ms) Q (F0 m (pc + 3) ls (r.toList ++ rest))) : W p l e R s m args below meth c H locs cells slots Q (F0 m pc ls st0) := by
  obtain ⟨hx, hb, hr, hml, hown, hts, hlocks, hK, -⟩ := F
  obtain ⟨y1, y2, y3, y4, y5, y6, y7⟩ := hY
  subst hst
  exact z_call (va_runVN (As := As) (rest := rest) (Ts := zz_T) (own := y.cls) (host := host) ⟨hx, hb, hml, hown, hts⟩ hM ⟨⟨⟨rfl, rfl, hR.1, hR.2, pay_in hts (zz_gC y5 zz_gT), List.mem_cons_self⟩, hts _ y5, hts _ y4, y6, zz_len y7, va_Nw.use rfl (hK.2.1 _ y1)⟩, hts _ y2, hts _ y3⟩ ⟨zz_blind, zz_recv hK hw hq hci, zz_pre hK hw⟩ rfl hn hl.1 rfl (lv_room hrm) hdg hf) hw hA hS kk
/-- a method that the reference names through a class above or below: the receiver's class C selects z -/
def zz_yu (own : String) (index : Nat) (C owner : String) (x z : MethodName) (bx : ByteArray) (mL : Nat) (rt : Option FieldType) (n : Nat) : Prop :=
  Cond.methodLink own index x ∈ zz_T ∧ Cond.sameMethod x.cls owner x.name x.desc ∈ zz_T ∧ Cond.selects C x z ∈ zz_T ∧ Cond.instanceMethod z ∈ zz_T ∧ Cond.initialized z.cls ∈ zz_T ∧ Cond.code z bx mL rt ∈ zz_T ∧ zz_nh owner ∧ zz_pn x n ∧ (z = ⟨owner, x.name, x.desc⟩ ∨ Cond.declares ⟨owner, x.name, x.desc⟩ ∈ zz_nest)
theorem z_invU {owner : String} (F : zz_F p s m args meth c cc y ret nL G) {q : Nat} (hM : zz_M l z bx mL rt d lc mc ms G (.ref (ad q) :: As) ad ce sz Po) (hY : zz_yu y.cls index C owner x z bx mL rt n) (hR : d + 1 ≤ R.frames ∧ 8 + (mL + 11) + lc ≤ R.locals) (hw : zz_W G A ad ce sz H) (hA : ∀ q, H0.size ≤ q → A q) (hS : va_S A H0 H locs) (hl : lv_has ls nL lv) {fs : List Value} (hq : ce q = some (.inr (ci, fs))) (hci : classes[ci]? = some (C, T, N)) (hn : As.length = n) (hst : st0 = As.reverse ++ .ref (ad q) :: rest) (hrm : (rest.map fun v => v.category).sum ≤ 8) (hdg : decode cc pc = .ok (.invokevirtual index, 3)) (hf : cells + mc ≤ R.cells ∧ slots + ms ≤ R.slots)
    (kk : ∀ (r : Option Value) (ad1 : Nat → Nat) (ce1 : zz_C) (H1 : Heap) (locs1 : List Loc), Po r ad1 ce1 → zz_W G A ad1 ce1 (sz + mc) H1 → va_S A H0 H1 locs1 → W p l e R s m args below meth c H1 locs1 (cells + mc) (slots + ms) Q (F0 m (pc + 3) ls (r.toList ++ rest))) : W p l e R s m args below meth c H locs cells slots Q (F0 m pc ls st0) := by
  obtain ⟨hx, hb, hr, hml, hown, hts, hlocks, hK, -⟩ := F
  obtain ⟨y1, y2, y3, y4, y5, y6, y7, y8, y9⟩ := hY
  subst hst
  have hdecl : va_Decl s ⟨owner, x.name, x.desc⟩ := by
    rcases y9 with h | h
    · rw [← h]; exact va_Decl.of (hts _ y4) (hts _ y6)
    · exact va_Decl.abs (hK.2.1 _ h)
  exact z_call (va_runU (As := As) (rest := rest) (Ts := zz_T) (own := y.cls) (C := C) (owner := owner) ⟨hx, hb, hml, hown, hts⟩ hM ⟨⟨rfl, rfl, hR.1, hR.2, pay_in hts (zz_gC y6 zz_gT), List.mem_cons_self⟩, hts _ y6, hts _ y5, y7, zz_len y8, hts _ y1, hts _ y2, hdecl, hts _ y3, hts _ y4⟩ ⟨zz_blind, zz_recv hK hw hq hci, zz_pre hK hw⟩ rfl hn hl.1 rfl (lv_room hrm) hdg hf) hw hA hS kk
/-- a static method -/
def zz_ys (own : String) (index : Nat) (x : MethodName) (bx : ByteArray) (mL : Nat) (rt : Option FieldType) (n : Nat) : Prop :=
  Cond.methodLink own index x ∈ zz_T ∧ Cond.static x ∈ zz_T ∧ Cond.initialized x.cls ∈ zz_T ∧ Cond.code x bx mL rt ∈ zz_T ∧ zz_nh x.cls ∧ zz_pn x n
theorem z_invS (F : zz_F p s m args meth c cc y ret nL G) (hM : zz_M l x bx mL rt d lc mc ms G As ad ce sz Po) (hY : zz_ys y.cls index x bx mL rt n) (hR : d + 1 ≤ R.frames ∧ 8 + (mL + 11) + lc ≤ R.locals) (hw : zz_W G A ad ce sz H) (hA : ∀ q, H0.size ≤ q → A q) (hS : va_S A H0 H locs) (hl : lv_has ls nL lv) (hn : As.length = n) (hst : st0 = As.reverse ++ rest) (hrm : (rest.map fun v => v.category).sum ≤ 8) (hdg : decode cc pc = .ok (.invokestatic index, 3)) (hf : cells + mc ≤ R.cells ∧ slots + ms ≤ R.slots)
    (kk : ∀ (r : Option Value) (ad1 : Nat → Nat) (ce1 : zz_C) (H1 : Heap) (locs1 : List Loc), Po r ad1 ce1 → zz_W G A ad1 ce1 (sz + mc) H1 → va_S A H0 H1 locs1 → W p l e R s m args below meth c H1 locs1 (cells + mc) (slots + ms) Q (F0 m (pc + 3) ls (r.toList ++ rest))) : W p l e R s m args below meth c H locs cells slots Q (F0 m pc ls st0) := by
  obtain ⟨hx, hb, hr, hml, hown, hts, hlocks, hK, -⟩ := F
  obtain ⟨y1, y2, y3, y4, y5, y6⟩ := hY
  subst hst
  exact z_call (va_runS (As := As) (rest := rest) (Ts := zz_T) (own := y.cls) ⟨hx, hb, hml, hown, hts⟩ hM ⟨⟨rfl, rfl, hR.1, hR.2, pay_in hts (zz_gC y4 zz_gT), List.mem_cons_self, hts _ y4, hts _ y3, y5, zz_len y6, hts _ y1⟩, hts _ y2⟩ ⟨zz_blind, zz_pre hK hw⟩ rfl hn hl.1 rfl (lv_room hrm) hdg hf) hw hA hS kk
/-- a constructor -/
def zz_yi (own : String) (index : Nat) (x : MethodName) (bx : ByteArray) (mL : Nat) (n : Nat) : Prop :=
  Cond.methodLink own index x ∈ zz_T ∧ Cond.instanceMethod x ∈ zz_T ∧ Cond.initialized x.cls ∈ zz_T ∧ Cond.code x bx mL none ∈ zz_T ∧ zz_nh x.cls ∧ zz_pn x n ∧ x.name = "<init>"
theorem z_invI (F : zz_F p s m args meth c cc y ret nL G) {b : Nat} (hM : zz_M l x bx mL none d lc mc ms G (.ref b :: As) ad ce sz Po) (hY : zz_yi y.cls index x bx mL n) (hR : d + 1 ≤ R.frames ∧ 8 + (mL + 11) + lc ≤ R.locals) (hw : zz_W G A ad ce sz H) (hA : ∀ q, H0.size ≤ q → A q) (hS : va_S A H0 H locs) (hl : lv_has ls nL lv) (hn : As.length = n) (hst : st0 = As.reverse ++ .ref b :: rest) (hrm : (rest.map fun v => v.category).sum ≤ 8) (hdg : decode cc pc = .ok (.invokespecial index, 3)) (hf : cells + mc ≤ R.cells ∧ slots + ms ≤ R.slots)
    (kk : ∀ (r : Option Value) (ad1 : Nat → Nat) (ce1 : zz_C) (H1 : Heap) (locs1 : List Loc), Po r ad1 ce1 → zz_W G A ad1 ce1 (sz + mc) H1 → va_S A H0 H1 locs1 → W p l e R s m args below meth c H1 locs1 (cells + mc) (slots + ms) Q (F0 m (pc + 3) ls (r.toList ++ rest))) : W p l e R s m args below meth c H locs cells slots Q (F0 m pc ls st0) := by
  obtain ⟨hx, hb, hr, hml, hown, hts, hlocks, hK, -⟩ := F
  obtain ⟨y1, y2, y3, y4, y5, y6, y7⟩ := hY
  subst hst
  exact z_call (va_runI (As := As) (rest := rest) (Ts := zz_T) (own := y.cls) ⟨hx, hb, hml, hown, hts⟩ hM ⟨⟨rfl, rfl, hR.1, hR.2, pay_in hts (zz_gC y4 zz_gT), List.mem_cons_self, hts _ y4, hts _ y3, y5, zz_len y6, hts _ y1⟩, y7, hts _ y2⟩ ⟨zz_blind, zz_pre hK hw⟩ rfl hn hl.1 rfl (lv_room hrm) hdg hf) hw hA hS kk
end ZZ2
end
section
section ZZ3
variable {p : Program} {l : Launch} {e : Env} {R : Room} {s : State} {m : MethodId} {args : Array Value} {below : List Frame} {meth : Method} {c : Code} {H : Heap} {locs : List Loc} {cells slots : Nat} {Q : State → Prop}
variable {cc : ByteArray} {y : MethodName} {ret : Option FieldType} {nL pc : Nat} {ls : Array Slot} {rest st0 : List Value} {G : zz_G} {A : Nat → Prop} {H0 : Heap} {ad : Nat → Nat} {ce : zz_C} {sz : Nat}
/-- the int on top under another name -/
theorem z_top {x : Int32} (y : Int32) (h : x = y) (kk : W p l e R s m args below meth c H locs cells slots Q (F0 m pc ls (.int y :: rest))) : W p l e R s m args below meth c H locs cells slots Q (F0 m pc ls (.int x :: rest)) := by
  subst h; exact kk
theorem z_ld (F : zz_F p s m args meth c cc y ret nL G) (hw : zz_W G A ad ce sz H) {n N : Nat} {f : Nat → Int32} (hn : ce n = some (.inl (zz_cI G, N, .inl f))) {i : Int32} (k : Nat) (hi : i = nI k) (hk : k < N) (hN : N < 2 ^ 31) (hdg : decode cc pc = .ok (.iaload, 1))
    (kk : W p l e R s m args below meth c H locs cells slots Q (F0 m (pc + 1) ls (.int (f k) :: rest))) : W p l e R s m args below meth c H locs cells slots Q (F0 m pc ls (.int i :: .ref (ad n) :: rest)) := by
  subst hi
  refine z_iald F hw hn (vp_in_nI hk hN) hdg ?_
  rw [nI_clamp (Nat.lt_trans hk hN)]
  exact kk
theorem z_st (F : zz_F p s m args meth c cc y ret nL G) (hw : zz_W G A ad ce sz H) (hS : va_S A H0 H locs) {n N : Nat} {f : Nat → Int32} (hn : ce n = some (.inl (zz_cI G, N, .inl f))) {i x : Int32} (k : Nat) (hi : i = nI k) (hk : k < N) (hN : N < 2 ^ 31) (hdg : decode cc pc = .ok (.iastore, 1))
    (kk : ∀ (ce1 : zz_C) (H1 : Heap) (locs1 : List Loc), ce1 n = some (.inl (zz_cI G, N, .inl (upd f k x))) → (∀ j, j ≠ n → ce1 j = ce j) → zz_W G A ad ce1 sz H1 → va_S A H0 H1 locs1 → W p l e R s m args below meth c H1 locs1 cells slots Q (F0 m (pc + 1) ls rest)) : W p l e R s m args below meth c H locs cells slots Q (F0 m pc ls (.int x :: .int i :: .ref (ad n) :: rest)) := by
  subst hi
  refine z_iast F hw hS hn (vp_in_nI hk hN) hdg ?_
  rw [nI_clamp (Nat.lt_trans hk hN)]
  exact kk
theorem z_zld (F : zz_F p s m args meth c cc y ret nL G) (hw : zz_W G A ad ce sz H) {n N : Nat} {f : Nat → Int32} (hn : ce n = some (.inl (zz_cZ G, N, .inl f))) {i : Int32} (k : Nat) (hi : i = nI k) (hk : k < N) (hN : N < 2 ^ 31) (hdg : decode cc pc = .ok (.baload, 1))
    (kk : W p l e R s m args below meth c H locs cells slots Q (F0 m (pc + 1) ls (.int (f k) :: rest))) : W p l e R s m args below meth c H locs cells slots Q (F0 m pc ls (.int i :: .ref (ad n) :: rest)) := by
  obtain ⟨hx, hb, hr, hml, hown, hts, hlocks, hK, -⟩ := F
  subst hi
  refine va_zald hx hb hK.1 (hw.one hn) 0 1 rfl rfl (vp_in_nI hk hN) hdg ?_
  rw [nI_clamp (Nat.lt_trans hk hN)]
  exact kk
theorem z_zst (F : zz_F p s m args meth c cc y ret nL G) (hw : zz_W G A ad ce sz H) (hS : va_S A H0 H locs) {n N : Nat} {f : Nat → Int32} (hn : ce n = some (.inl (zz_cZ G, N, .inl f))) {i x : Int32} (k : Nat) (hi : i = nI k) (hk : k < N) (hN : N < 2 ^ 31) (hx1 : vp_nar .boolean x = x) (hdg : decode cc pc = .ok (.bastore, 1))
    (kk : ∀ (ce1 : zz_C) (H1 : Heap) (locs1 : List Loc), ce1 n = some (.inl (zz_cZ G, N, .inl (upd f k x))) → (∀ j, j ≠ n → ce1 j = ce j) → zz_W G A ad ce1 sz H1 → va_S A H0 H1 locs1 → W p l e R s m args below meth c H1 locs1 cells slots Q (F0 m (pc + 1) ls rest)) : W p l e R s m args below meth c H locs cells slots Q (F0 m pc ls (.int x :: .int i :: .ref (ad n) :: rest)) := by
  obtain ⟨hx, hb, hr, hml, hown, hts, hlocks, hK, -⟩ := F
  subst hi
  have hin := vp_in_nI hk hN
  have hcl := nI_clamp (Nat.lt_trans hk hN)
  refine W.zast hx hb (hw.2.1 n _ hn) ((hK.1.2 1 (zz_cZ G, .boolean) rfl).1 N (fun j => .int (f j))) (fun q => by cases q) (by show ¬ (nI k < 0 ∨ (arrV _ _ _).slots.size ≤ _); rw [arrV_size]; exact hin) rfl rfl hdg fun H1 e1 z oq => ?_
  have he : va_at G.1 classes (ad n, .inl (zz_cZ G, N, .inl (upd f k x))) H1 := by
    show H1[ad n]? = some (vp_cell _ _)
    rw [e1]
    show some ((vp_cell _ _).setSlot _ _) = _
    rw [vp_cell_i, vp_cell_i, arrV_store, hcl]
    congr 2
    funext q
    by_cases hq : q = k
    · subst hq
      simp only [updV, upd, if_true]
      have h9 : narrow .boolean (.int x) = .int x := by
        have := hx1
        simp only [vp_nar] at this
        revert this
        simp [narrow]
      simpa using h9
    · simp [updV, upd, hq]
  obtain ⟨ce1, g1, g2, g3⟩ := hw.put hn he z oq
  exact kk ce1 H1 _ g1 g2 g3 (hS.put z oq (hw.2.2.2 n _ hn))
/-- a loop: a measure falls, I holds at the head -/
theorem z_loop {α : Type} (μ : α → Nat) (I : α → zz_C → Array Slot → Prop) (a0 : α) (h0 : I a0 ce ls) (hw : zz_W G A ad ce sz H) (hS : va_S A H0 H locs)
    (step : ∀ (a : α), (∀ (b : α) (ce1 : zz_C) (H1 : Heap) (locs1 : List Loc) (ls1 : Array Slot), μ b < μ a → I b ce1 ls1 → zz_W G A ad ce1 sz H1 → va_S A H0 H1 locs1 → W p l e R s m args below meth c H1 locs1 cells slots Q (F0 m pc ls1 st0)) →
      ∀ (ce1 : zz_C) (H1 : Heap) (locs1 : List Loc) (ls1 : Array Slot), I a ce1 ls1 → zz_W G A ad ce1 sz H1 → va_S A H0 H1 locs1 → W p l e R s m args below meth c H1 locs1 cells slots Q (F0 m pc ls1 st0)) : W p l e R s m args below meth c H locs cells slots Q (F0 m pc ls st0) := by
  have key : ∀ (n : Nat) (a : α), μ a < n → ∀ (ce1 : zz_C) (H1 : Heap) (locs1 : List Loc) (ls1 : Array Slot), I a ce1 ls1 → zz_W G A ad ce1 sz H1 → va_S A H0 H1 locs1 → W p l e R s m args below meth c H1 locs1 cells slots Q (F0 m pc ls1 st0) := by
    intro n
    induction n with
    | zero => intro a h; exact absurd h (Nat.not_lt_zero _)
    | succ n ih =>
      intro a ha ce1 H1 locs1 ls1 hI hw1 hS1
      exact step a (fun b ce2 H2 locs2 ls2 hb => ih b (by omega) ce2 H2 locs2 ls2) ce1 H1 locs1 ls1 hI hw1 hS1
  exact key (μ a0 + 1) a0 (Nat.lt_succ_self _) ce H locs ls h0 hw hS
end ZZ3
end
section
theorem dX6_put_0 : decode cX6_put 0 = .ok (.aload_n 0, 1) := by decide +kernel
theorem dX6_put_1 : decode cX6_put 1 = .ok (.getfield 60, 3) := by decide +kernel
theorem dX6_put_4 : decode cX6_put 4 = .ok (.ifCond .ne 14, 3) := by decide +kernel
theorem dX6_put_7 : decode cX6_put 7 = .ok (.aload_n 0, 1) := by decide +kernel
theorem dX6_put_8 : decode cX6_put 8 = .ok (.getfield 13, 3) := by decide +kernel
theorem dX6_put_11 : decode cX6_put 11 = .ok (.iload_n 1, 1) := by decide +kernel
theorem dX6_put_12 : decode cX6_put 12 = .ok (.iaload, 1) := by decide +kernel
theorem dX6_put_13 : decode cX6_put 13 = .ok (.bipush 8, 2) := by decide +kernel
theorem dX6_put_15 : decode cX6_put 15 = .ok (.if_icmp .ne 6, 3) := by decide +kernel
theorem dX6_put_18 : decode cX6_put 18 = .ok (.bipush (-3), 2) := by decide +kernel
theorem dX6_put_20 : decode cX6_put 20 = .ok (.ireturn, 1) := by decide +kernel
theorem dX6_put_21 : decode cX6_put 21 = .ok (.bipush 8, 2) := by decide +kernel
theorem dX6_put_23 : decode cX6_put 23 = .ok (.iload_n 1, 1) := by decide +kernel
theorem dX6_put_24 : decode cX6_put 24 = .ok (.imul, 1) := by decide +kernel
theorem dX6_put_25 : decode cX6_put 25 = .ok (.aload_n 0, 1) := by decide +kernel
theorem dX6_put_26 : decode cX6_put 26 = .ok (.getfield 13, 3) := by decide +kernel
theorem dX6_put_29 : decode cX6_put 29 = .ok (.iload_n 1, 1) := by decide +kernel
theorem dX6_put_30 : decode cX6_put 30 = .ok (.iaload, 1) := by decide +kernel
theorem dX6_put_31 : decode cX6_put 31 = .ok (.iadd, 1) := by decide +kernel
theorem dX6_put_32 : decode cX6_put 32 = .ok (.istore 4, 2) := by decide +kernel
theorem dX6_put_34 : decode cX6_put 34 = .ok (.aload_n 0, 1) := by decide +kernel
theorem dX6_put_35 : decode cX6_put 35 = .ok (.getfield 13, 3) := by decide +kernel
theorem dX6_put_38 : decode cX6_put 38 = .ok (.iload_n 1, 1) := by decide +kernel
theorem dX6_put_39 : decode cX6_put 39 = .ok (.dup2, 1) := by decide +kernel
theorem dX6_put_40 : decode cX6_put 40 = .ok (.iaload, 1) := by decide +kernel
theorem dX6_put_41 : decode cX6_put 41 = .ok (.iconst 1, 1) := by decide +kernel
theorem dX6_put_42 : decode cX6_put 42 = .ok (.iadd, 1) := by decide +kernel
theorem dX6_put_43 : decode cX6_put 43 = .ok (.iastore, 1) := by decide +kernel
theorem dX6_put_44 : decode cX6_put 44 = .ok (.aload_n 0, 1) := by decide +kernel
theorem dX6_put_45 : decode cX6_put 45 = .ok (.getfield 17, 3) := by decide +kernel
theorem dX6_put_48 : decode cX6_put 48 = .ok (.iload 4, 2) := by decide +kernel
theorem dX6_put_50 : decode cX6_put 50 = .ok (.iconst 2, 1) := by decide +kernel
theorem dX6_put_51 : decode cX6_put 51 = .ok (.iastore, 1) := by decide +kernel
theorem dX6_put_52 : decode cX6_put 52 = .ok (.aload_n 0, 1) := by decide +kernel
theorem dX6_put_53 : decode cX6_put 53 = .ok (.getfield 20, 3) := by decide +kernel
theorem dX6_put_56 : decode cX6_put 56 = .ok (.bipush 24, 2) := by decide +kernel
theorem dX6_put_58 : decode cX6_put 58 = .ok (.iload 4, 2) := by decide +kernel
theorem dX6_put_60 : decode cX6_put 60 = .ok (.imul, 1) := by decide +kernel
theorem dX6_put_61 : decode cX6_put 61 = .ok (.iload_n 2, 1) := by decide +kernel
theorem dX6_put_62 : decode cX6_put 62 = .ok (.iastore, 1) := by decide +kernel
theorem dX6_put_63 : decode cX6_put 63 = .ok (.aload_n 0, 1) := by decide +kernel
theorem dX6_put_64 : decode cX6_put 64 = .ok (.getfield 20, 3) := by decide +kernel
theorem dX6_put_67 : decode cX6_put 67 = .ok (.bipush 24, 2) := by decide +kernel
theorem dX6_put_69 : decode cX6_put 69 = .ok (.iload 4, 2) := by decide +kernel
theorem dX6_put_71 : decode cX6_put 71 = .ok (.imul, 1) := by decide +kernel
theorem dX6_put_72 : decode cX6_put 72 = .ok (.iconst 1, 1) := by decide +kernel
theorem dX6_put_73 : decode cX6_put 73 = .ok (.iadd, 1) := by decide +kernel
theorem dX6_put_74 : decode cX6_put 74 = .ok (.iload_n 3, 1) := by decide +kernel
theorem dX6_put_75 : decode cX6_put 75 = .ok (.iastore, 1) := by decide +kernel
theorem dX6_put_76 : decode cX6_put 76 = .ok (.iload 4, 2) := by decide +kernel
theorem dX6_put_78 : decode cX6_put 78 = .ok (.ireturn, 1) := by decide +kernel
theorem dX6_more_0 : decode cX6_more 0 = .ok (.iload_n 1, 1) := by decide +kernel
theorem dX6_more_1 : decode cX6_more 1 = .ok (.bipush (-3), 2) := by decide +kernel
theorem dX6_more_3 : decode cX6_more 3 = .ok (.if_icmp .eq 34, 3) := by decide +kernel
theorem dX6_more_6 : decode cX6_more 6 = .ok (.aload_n 0, 1) := by decide +kernel
theorem dX6_more_7 : decode cX6_more 7 = .ok (.getfield 20, 3) := by decide +kernel
theorem dX6_more_10 : decode cX6_more 10 = .ok (.bipush 24, 2) := by decide +kernel
theorem dX6_more_12 : decode cX6_more 12 = .ok (.iload_n 1, 1) := by decide +kernel
theorem dX6_more_13 : decode cX6_more 13 = .ok (.imul, 1) := by decide +kernel
theorem dX6_more_14 : decode cX6_more 14 = .ok (.aload_n 0, 1) := by decide +kernel
theorem dX6_more_15 : decode cX6_more 15 = .ok (.getfield 17, 3) := by decide +kernel
theorem dX6_more_18 : decode cX6_more 18 = .ok (.iload_n 1, 1) := by decide +kernel
theorem dX6_more_19 : decode cX6_more 19 = .ok (.iaload, 1) := by decide +kernel
theorem dX6_more_20 : decode cX6_more 20 = .ok (.iadd, 1) := by decide +kernel
theorem dX6_more_21 : decode cX6_more 21 = .ok (.iload_n 2, 1) := by decide +kernel
theorem dX6_more_22 : decode cX6_more 22 = .ok (.sipush 255, 3) := by decide +kernel
theorem dX6_more_25 : decode cX6_more 25 = .ok (.iand, 1) := by decide +kernel
theorem dX6_more_26 : decode cX6_more 26 = .ok (.iastore, 1) := by decide +kernel
theorem dX6_more_27 : decode cX6_more 27 = .ok (.aload_n 0, 1) := by decide +kernel
theorem dX6_more_28 : decode cX6_more 28 = .ok (.getfield 17, 3) := by decide +kernel
theorem dX6_more_31 : decode cX6_more 31 = .ok (.iload_n 1, 1) := by decide +kernel
theorem dX6_more_32 : decode cX6_more 32 = .ok (.dup2, 1) := by decide +kernel
theorem dX6_more_33 : decode cX6_more 33 = .ok (.iaload, 1) := by decide +kernel
theorem dX6_more_34 : decode cX6_more 34 = .ok (.iconst 1, 1) := by decide +kernel
theorem dX6_more_35 : decode cX6_more 35 = .ok (.iadd, 1) := by decide +kernel
theorem dX6_more_36 : decode cX6_more 36 = .ok (.iastore, 1) := by decide +kernel
theorem dX6_more_37 : decode cX6_more 37 = .ok (.return_, 1) := by decide +kernel
theorem dX6_tell_0 : decode cX6_tell 0 = .ok (.aload_n 0, 1) := by decide +kernel
theorem dX6_tell_1 : decode cX6_tell 1 = .ok (.iload_n 1, 1) := by decide +kernel
theorem dX6_tell_2 : decode cX6_tell 2 = .ok (.iload_n 2, 1) := by decide +kernel
theorem dX6_tell_3 : decode cX6_tell 3 = .ok (.iload_n 3, 1) := by decide +kernel
theorem dX6_tell_4 : decode cX6_tell 4 = .ok (.invokevirtual 64, 3) := by decide +kernel
theorem dX6_tell_7 : decode cX6_tell 7 = .ok (.istore 7, 2) := by decide +kernel
theorem dX6_tell_9 : decode cX6_tell 9 = .ok (.aload_n 0, 1) := by decide +kernel
theorem dX6_tell_10 : decode cX6_tell 10 = .ok (.iload 7, 2) := by decide +kernel
theorem dX6_tell_12 : decode cX6_tell 12 = .ok (.iload 4, 2) := by decide +kernel
theorem dX6_tell_14 : decode cX6_tell 14 = .ok (.invokevirtual 68, 3) := by decide +kernel
theorem dX6_tell_17 : decode cX6_tell 17 = .ok (.aload_n 0, 1) := by decide +kernel
theorem dX6_tell_18 : decode cX6_tell 18 = .ok (.iload 7, 2) := by decide +kernel
theorem dX6_tell_20 : decode cX6_tell 20 = .ok (.iload 5, 2) := by decide +kernel
theorem dX6_tell_22 : decode cX6_tell 22 = .ok (.invokevirtual 68, 3) := by decide +kernel
theorem dX6_tell_25 : decode cX6_tell 25 = .ok (.iload 5, 2) := by decide +kernel
theorem dX6_tell_27 : decode cX6_tell 27 = .ok (.iconst 1, 1) := by decide +kernel
theorem dX6_tell_28 : decode cX6_tell 28 = .ok (.isub, 1) := by decide +kernel
theorem dX6_tell_29 : decode cX6_tell 29 = .ok (.istore 8, 2) := by decide +kernel
theorem dX6_tell_31 : decode cX6_tell 31 = .ok (.iload 8, 2) := by decide +kernel
theorem dX6_tell_33 : decode cX6_tell 33 = .ok (.ifCond .lt 23, 3) := by decide +kernel
theorem dX6_tell_36 : decode cX6_tell 36 = .ok (.aload_n 0, 1) := by decide +kernel
theorem dX6_tell_37 : decode cX6_tell 37 = .ok (.iload 7, 2) := by decide +kernel
theorem dX6_tell_39 : decode cX6_tell 39 = .ok (.iload 6, 2) := by decide +kernel
theorem dX6_tell_41 : decode cX6_tell 41 = .ok (.bipush 8, 2) := by decide +kernel
theorem dX6_tell_43 : decode cX6_tell 43 = .ok (.iload 8, 2) := by decide +kernel
theorem dX6_tell_45 : decode cX6_tell 45 = .ok (.imul, 1) := by decide +kernel
theorem dX6_tell_46 : decode cX6_tell 46 = .ok (.ishr, 1) := by decide +kernel
theorem dX6_tell_47 : decode cX6_tell 47 = .ok (.invokevirtual 68, 3) := by decide +kernel
theorem dX6_tell_50 : decode cX6_tell 50 = .ok (.iinc 8 (-1), 3) := by decide +kernel
theorem dX6_tell_53 : decode cX6_tell 53 = .ok (.goto (-22), 3) := by decide +kernel
theorem dX6_tell_56 : decode cX6_tell 56 = .ok (.return_, 1) := by decide +kernel
theorem dX6_take_0 : decode cX6_take 0 = .ok (.bipush 8, 2) := by decide +kernel
theorem dX6_take_2 : decode cX6_take 2 = .ok (.iload_n 1, 1) := by decide +kernel
theorem dX6_take_3 : decode cX6_take 3 = .ok (.imul, 1) := by decide +kernel
theorem dX6_take_4 : decode cX6_take 4 = .ok (.istore_n 2, 1) := by decide +kernel
theorem dX6_take_5 : decode cX6_take 5 = .ok (.aload_n 0, 1) := by decide +kernel
theorem dX6_take_6 : decode cX6_take 6 = .ok (.aload_n 0, 1) := by decide +kernel
theorem dX6_take_7 : decode cX6_take 7 = .ok (.getfield 17, 3) := by decide +kernel
theorem dX6_take_10 : decode cX6_take 10 = .ok (.iload_n 2, 1) := by decide +kernel
theorem dX6_take_11 : decode cX6_take 11 = .ok (.iaload, 1) := by decide +kernel
theorem dX6_take_12 : decode cX6_take 12 = .ok (.putfield 72, 3) := by decide +kernel
theorem dX6_take_15 : decode cX6_take 15 = .ok (.iconst 0, 1) := by decide +kernel
theorem dX6_take_16 : decode cX6_take 16 = .ok (.istore_n 3, 1) := by decide +kernel
theorem dX6_take_17 : decode cX6_take 17 = .ok (.iload_n 3, 1) := by decide +kernel
theorem dX6_take_18 : decode cX6_take 18 = .ok (.aload_n 0, 1) := by decide +kernel
theorem dX6_take_19 : decode cX6_take 19 = .ok (.getfield 72, 3) := by decide +kernel
theorem dX6_take_22 : decode cX6_take 22 = .ok (.if_icmp .ge 26, 3) := by decide +kernel
theorem dX6_take_25 : decode cX6_take 25 = .ok (.aload_n 0, 1) := by decide +kernel
theorem dX6_take_26 : decode cX6_take 26 = .ok (.getfield 48, 3) := by decide +kernel
theorem dX6_take_29 : decode cX6_take 29 = .ok (.iload_n 3, 1) := by decide +kernel
theorem dX6_take_30 : decode cX6_take 30 = .ok (.aload_n 0, 1) := by decide +kernel
theorem dX6_take_31 : decode cX6_take 31 = .ok (.getfield 20, 3) := by decide +kernel
theorem dX6_take_34 : decode cX6_take 34 = .ok (.bipush 24, 2) := by decide +kernel
theorem dX6_take_36 : decode cX6_take 36 = .ok (.iload_n 2, 1) := by decide +kernel
theorem dX6_take_37 : decode cX6_take 37 = .ok (.imul, 1) := by decide +kernel
theorem dX6_take_38 : decode cX6_take 38 = .ok (.iload_n 3, 1) := by decide +kernel
theorem dX6_take_39 : decode cX6_take 39 = .ok (.iadd, 1) := by decide +kernel
theorem dX6_take_40 : decode cX6_take 40 = .ok (.iaload, 1) := by decide +kernel
theorem dX6_take_41 : decode cX6_take 41 = .ok (.iastore, 1) := by decide +kernel
theorem dX6_take_42 : decode cX6_take 42 = .ok (.iinc 3 1, 3) := by decide +kernel
theorem dX6_take_45 : decode cX6_take 45 = .ok (.goto (-28), 3) := by decide +kernel
theorem dX6_take_48 : decode cX6_take 48 = .ok (.aload_n 0, 1) := by decide +kernel
theorem dX6_take_49 : decode cX6_take 49 = .ok (.getfield 13, 3) := by decide +kernel
theorem dX6_take_52 : decode cX6_take 52 = .ok (.iload_n 1, 1) := by decide +kernel
theorem dX6_take_53 : decode cX6_take 53 = .ok (.dup2, 1) := by decide +kernel
theorem dX6_take_54 : decode cX6_take 54 = .ok (.iaload, 1) := by decide +kernel
theorem dX6_take_55 : decode cX6_take 55 = .ok (.iconst 1, 1) := by decide +kernel
theorem dX6_take_56 : decode cX6_take 56 = .ok (.isub, 1) := by decide +kernel
theorem dX6_take_57 : decode cX6_take 57 = .ok (.iastore, 1) := by decide +kernel
theorem dX6_take_58 : decode cX6_take 58 = .ok (.iconst 0, 1) := by decide +kernel
theorem dX6_take_59 : decode cX6_take 59 = .ok (.istore_n 3, 1) := by decide +kernel
theorem dX6_take_60 : decode cX6_take 60 = .ok (.iload_n 3, 1) := by decide +kernel
theorem dX6_take_61 : decode cX6_take 61 = .ok (.aload_n 0, 1) := by decide +kernel
theorem dX6_take_62 : decode cX6_take 62 = .ok (.getfield 13, 3) := by decide +kernel
theorem dX6_take_65 : decode cX6_take 65 = .ok (.iload_n 1, 1) := by decide +kernel
theorem dX6_take_66 : decode cX6_take 66 = .ok (.iaload, 1) := by decide +kernel
theorem dX6_take_67 : decode cX6_take 67 = .ok (.if_icmp .ge 73, 3) := by decide +kernel
theorem dX6_take_70 : decode cX6_take 70 = .ok (.aload_n 0, 1) := by decide +kernel
theorem dX6_take_71 : decode cX6_take 71 = .ok (.getfield 17, 3) := by decide +kernel
theorem dX6_take_74 : decode cX6_take 74 = .ok (.iload_n 2, 1) := by decide +kernel
theorem dX6_take_75 : decode cX6_take 75 = .ok (.iload_n 3, 1) := by decide +kernel
theorem dX6_take_76 : decode cX6_take 76 = .ok (.iadd, 1) := by decide +kernel
theorem dX6_take_77 : decode cX6_take 77 = .ok (.aload_n 0, 1) := by decide +kernel
theorem dX6_take_78 : decode cX6_take 78 = .ok (.getfield 17, 3) := by decide +kernel
theorem dX6_take_81 : decode cX6_take 81 = .ok (.iload_n 2, 1) := by decide +kernel
theorem dX6_take_82 : decode cX6_take 82 = .ok (.iload_n 3, 1) := by decide +kernel
theorem dX6_take_83 : decode cX6_take 83 = .ok (.iadd, 1) := by decide +kernel
theorem dX6_take_84 : decode cX6_take 84 = .ok (.iconst 1, 1) := by decide +kernel
theorem dX6_take_85 : decode cX6_take 85 = .ok (.iadd, 1) := by decide +kernel
theorem dX6_take_86 : decode cX6_take 86 = .ok (.iaload, 1) := by decide +kernel
theorem dX6_take_87 : decode cX6_take 87 = .ok (.iastore, 1) := by decide +kernel
theorem dX6_take_88 : decode cX6_take 88 = .ok (.iconst 0, 1) := by decide +kernel
theorem dX6_take_89 : decode cX6_take 89 = .ok (.istore 4, 2) := by decide +kernel
theorem dX6_take_91 : decode cX6_take 91 = .ok (.iload 4, 2) := by decide +kernel
theorem dX6_take_93 : decode cX6_take 93 = .ok (.bipush 24, 2) := by decide +kernel
theorem dX6_take_95 : decode cX6_take 95 = .ok (.if_icmp .ge 39, 3) := by decide +kernel
theorem dX6_take_98 : decode cX6_take 98 = .ok (.aload_n 0, 1) := by decide +kernel
theorem dX6_take_99 : decode cX6_take 99 = .ok (.getfield 20, 3) := by decide +kernel
theorem dX6_take_102 : decode cX6_take 102 = .ok (.bipush 24, 2) := by decide +kernel
theorem dX6_take_104 : decode cX6_take 104 = .ok (.iload_n 2, 1) := by decide +kernel
theorem dX6_take_105 : decode cX6_take 105 = .ok (.iload_n 3, 1) := by decide +kernel
theorem dX6_take_106 : decode cX6_take 106 = .ok (.iadd, 1) := by decide +kernel
theorem dX6_take_107 : decode cX6_take 107 = .ok (.imul, 1) := by decide +kernel
theorem dX6_take_108 : decode cX6_take 108 = .ok (.iload 4, 2) := by decide +kernel
theorem dX6_take_110 : decode cX6_take 110 = .ok (.iadd, 1) := by decide +kernel
theorem dX6_take_111 : decode cX6_take 111 = .ok (.aload_n 0, 1) := by decide +kernel
theorem dX6_take_112 : decode cX6_take 112 = .ok (.getfield 20, 3) := by decide +kernel
theorem dX6_take_115 : decode cX6_take 115 = .ok (.bipush 24, 2) := by decide +kernel
theorem dX6_take_117 : decode cX6_take 117 = .ok (.iload_n 2, 1) := by decide +kernel
theorem dX6_take_118 : decode cX6_take 118 = .ok (.iload_n 3, 1) := by decide +kernel
theorem dX6_take_119 : decode cX6_take 119 = .ok (.iadd, 1) := by decide +kernel
theorem dX6_take_120 : decode cX6_take 120 = .ok (.iconst 1, 1) := by decide +kernel
theorem dX6_take_121 : decode cX6_take 121 = .ok (.iadd, 1) := by decide +kernel
theorem dX6_take_122 : decode cX6_take 122 = .ok (.imul, 1) := by decide +kernel
theorem dX6_take_123 : decode cX6_take 123 = .ok (.iload 4, 2) := by decide +kernel
theorem dX6_take_125 : decode cX6_take 125 = .ok (.iadd, 1) := by decide +kernel
theorem dX6_take_126 : decode cX6_take 126 = .ok (.iaload, 1) := by decide +kernel
theorem dX6_take_127 : decode cX6_take 127 = .ok (.iastore, 1) := by decide +kernel
theorem dX6_take_128 : decode cX6_take 128 = .ok (.iinc 4 1, 3) := by decide +kernel
theorem dX6_take_131 : decode cX6_take 131 = .ok (.goto (-40), 3) := by decide +kernel
theorem dX6_take_134 : decode cX6_take 134 = .ok (.iinc 3 1, 3) := by decide +kernel
theorem dX6_take_137 : decode cX6_take 137 = .ok (.goto (-77), 3) := by decide +kernel
theorem dX6_take_140 : decode cX6_take 140 = .ok (.return_, 1) := by decide +kernel
theorem dX6_isGood_0 : decode cX6_isGood 0 = .ok (.iconst 2, 1) := by decide +kernel
theorem dX6_isGood_1 : decode cX6_isGood 1 = .ok (.istore_n 1, 1) := by decide +kernel
theorem dX6_isGood_2 : decode cX6_isGood 2 = .ok (.iload_n 1, 1) := by decide +kernel
theorem dX6_isGood_3 : decode cX6_isGood 3 = .ok (.iconst 1, 1) := by decide +kernel
theorem dX6_isGood_4 : decode cX6_isGood 4 = .ok (.iadd, 1) := by decide +kernel
theorem dX6_isGood_5 : decode cX6_isGood 5 = .ok (.aload_n 0, 1) := by decide +kernel
theorem dX6_isGood_6 : decode cX6_isGood 6 = .ok (.getfield 72, 3) := by decide +kernel
theorem dX6_isGood_9 : decode cX6_isGood 9 = .ok (.if_icmp .ge 19, 3) := by decide +kernel
theorem dX6_isGood_12 : decode cX6_isGood 12 = .ok (.iload_n 1, 1) := by decide +kernel
theorem dX6_isGood_13 : decode cX6_isGood 13 = .ok (.iconst 2, 1) := by decide +kernel
theorem dX6_isGood_14 : decode cX6_isGood 14 = .ok (.iadd, 1) := by decide +kernel
theorem dX6_isGood_15 : decode cX6_isGood 15 = .ok (.aload_n 0, 1) := by decide +kernel
theorem dX6_isGood_16 : decode cX6_isGood 16 = .ok (.getfield 48, 3) := by decide +kernel
theorem dX6_isGood_19 : decode cX6_isGood 19 = .ok (.iload_n 1, 1) := by decide +kernel
theorem dX6_isGood_20 : decode cX6_isGood 20 = .ok (.iconst 1, 1) := by decide +kernel
theorem dX6_isGood_21 : decode cX6_isGood 21 = .ok (.iadd, 1) := by decide +kernel
theorem dX6_isGood_22 : decode cX6_isGood 22 = .ok (.iaload, 1) := by decide +kernel
theorem dX6_isGood_23 : decode cX6_isGood 23 = .ok (.iadd, 1) := by decide +kernel
theorem dX6_isGood_24 : decode cX6_isGood 24 = .ok (.istore_n 1, 1) := by decide +kernel
theorem dX6_isGood_25 : decode cX6_isGood 25 = .ok (.goto (-23), 3) := by decide +kernel
theorem dX6_isGood_28 : decode cX6_isGood 28 = .ok (.iload_n 1, 1) := by decide +kernel
theorem dX6_isGood_29 : decode cX6_isGood 29 = .ok (.aload_n 0, 1) := by decide +kernel
theorem dX6_isGood_30 : decode cX6_isGood 30 = .ok (.getfield 72, 3) := by decide +kernel
theorem dX6_isGood_33 : decode cX6_isGood 33 = .ok (.if_icmp .ne 7, 3) := by decide +kernel
theorem dX6_isGood_36 : decode cX6_isGood 36 = .ok (.iconst 1, 1) := by decide +kernel
theorem dX6_isGood_37 : decode cX6_isGood 37 = .ok (.goto 4, 3) := by decide +kernel
theorem dX6_isGood_40 : decode cX6_isGood 40 = .ok (.iconst 0, 1) := by decide +kernel
theorem dX6_isGood_41 : decode cX6_isGood 41 = .ok (.ireturn, 1) := by decide +kernel
theorem dX6_find_0 : decode cX6_find 0 = .ok (.iconst 2, 1) := by decide +kernel
theorem dX6_find_1 : decode cX6_find 1 = .ok (.istore_n 2, 1) := by decide +kernel
theorem dX6_find_2 : decode cX6_find 2 = .ok (.iload_n 2, 1) := by decide +kernel
theorem dX6_find_3 : decode cX6_find 3 = .ok (.aload_n 0, 1) := by decide +kernel
theorem dX6_find_4 : decode cX6_find 4 = .ok (.getfield 72, 3) := by decide +kernel
theorem dX6_find_7 : decode cX6_find 7 = .ok (.if_icmp .ge 29, 3) := by decide +kernel
theorem dX6_find_10 : decode cX6_find 10 = .ok (.aload_n 0, 1) := by decide +kernel
theorem dX6_find_11 : decode cX6_find 11 = .ok (.getfield 48, 3) := by decide +kernel
theorem dX6_find_14 : decode cX6_find 14 = .ok (.iload_n 2, 1) := by decide +kernel
theorem dX6_find_15 : decode cX6_find 15 = .ok (.iaload, 1) := by decide +kernel
theorem dX6_find_16 : decode cX6_find 16 = .ok (.iload_n 1, 1) := by decide +kernel
theorem dX6_find_17 : decode cX6_find 17 = .ok (.if_icmp .eq 19, 3) := by decide +kernel
theorem dX6_find_20 : decode cX6_find 20 = .ok (.iload_n 2, 1) := by decide +kernel
theorem dX6_find_21 : decode cX6_find 21 = .ok (.iconst 2, 1) := by decide +kernel
theorem dX6_find_22 : decode cX6_find 22 = .ok (.iadd, 1) := by decide +kernel
theorem dX6_find_23 : decode cX6_find 23 = .ok (.aload_n 0, 1) := by decide +kernel
theorem dX6_find_24 : decode cX6_find 24 = .ok (.getfield 48, 3) := by decide +kernel
theorem dX6_find_27 : decode cX6_find 27 = .ok (.iload_n 2, 1) := by decide +kernel
theorem dX6_find_28 : decode cX6_find 28 = .ok (.iconst 1, 1) := by decide +kernel
theorem dX6_find_29 : decode cX6_find 29 = .ok (.iadd, 1) := by decide +kernel
theorem dX6_find_30 : decode cX6_find 30 = .ok (.iaload, 1) := by decide +kernel
theorem dX6_find_31 : decode cX6_find 31 = .ok (.iadd, 1) := by decide +kernel
theorem dX6_find_32 : decode cX6_find 32 = .ok (.istore_n 2, 1) := by decide +kernel
theorem dX6_find_33 : decode cX6_find 33 = .ok (.goto (-31), 3) := by decide +kernel
theorem dX6_find_36 : decode cX6_find 36 = .ok (.iload_n 2, 1) := by decide +kernel
theorem dX6_find_37 : decode cX6_find 37 = .ok (.aload_n 0, 1) := by decide +kernel
theorem dX6_find_38 : decode cX6_find 38 = .ok (.getfield 72, 3) := by decide +kernel
theorem dX6_find_41 : decode cX6_find 41 = .ok (.if_icmp .ge 9, 3) := by decide +kernel
theorem dX6_find_44 : decode cX6_find 44 = .ok (.iload_n 2, 1) := by decide +kernel
theorem dX6_find_45 : decode cX6_find 45 = .ok (.iconst 2, 1) := by decide +kernel
theorem dX6_find_46 : decode cX6_find 46 = .ok (.iadd, 1) := by decide +kernel
theorem dX6_find_47 : decode cX6_find 47 = .ok (.goto 5, 3) := by decide +kernel
theorem dX6_find_50 : decode cX6_find 50 = .ok (.bipush (-3), 2) := by decide +kernel
theorem dX6_find_52 : decode cX6_find 52 = .ok (.ireturn, 1) := by decide +kernel
theorem dX6_has_0 : decode cX6_has 0 = .ok (.aload_n 0, 1) := by decide +kernel
theorem dX6_has_1 : decode cX6_has 1 = .ok (.iload_n 1, 1) := by decide +kernel
theorem dX6_has_2 : decode cX6_has 2 = .ok (.invokevirtual 75, 3) := by decide +kernel
theorem dX6_has_5 : decode cX6_has 5 = .ok (.istore_n 3, 1) := by decide +kernel
theorem dX6_has_6 : decode cX6_has 6 = .ok (.iload_n 3, 1) := by decide +kernel
theorem dX6_has_7 : decode cX6_has 7 = .ok (.bipush (-3), 2) := by decide +kernel
theorem dX6_has_9 : decode cX6_has 9 = .ok (.if_icmp .eq 19, 3) := by decide +kernel
theorem dX6_has_12 : decode cX6_has 12 = .ok (.aload_n 0, 1) := by decide +kernel
theorem dX6_has_13 : decode cX6_has 13 = .ok (.getfield 48, 3) := by decide +kernel
theorem dX6_has_16 : decode cX6_has 16 = .ok (.iload_n 3, 1) := by decide +kernel
theorem dX6_has_17 : decode cX6_has 17 = .ok (.iconst 1, 1) := by decide +kernel
theorem dX6_has_18 : decode cX6_has 18 = .ok (.isub, 1) := by decide +kernel
theorem dX6_has_19 : decode cX6_has 19 = .ok (.iaload, 1) := by decide +kernel
theorem dX6_has_20 : decode cX6_has 20 = .ok (.iload_n 2, 1) := by decide +kernel
theorem dX6_has_21 : decode cX6_has 21 = .ok (.if_icmp .ne 7, 3) := by decide +kernel
theorem dX6_has_24 : decode cX6_has 24 = .ok (.iconst 1, 1) := by decide +kernel
theorem dX6_has_25 : decode cX6_has 25 = .ok (.goto 4, 3) := by decide +kernel
theorem dX6_has_28 : decode cX6_has 28 = .ok (.iconst 0, 1) := by decide +kernel
theorem dX6_has_29 : decode cX6_has 29 = .ok (.ireturn, 1) := by decide +kernel
theorem dX6_number_0 : decode cX6_number 0 = .ok (.aload_n 0, 1) := by decide +kernel
theorem dX6_number_1 : decode cX6_number 1 = .ok (.iload_n 1, 1) := by decide +kernel
theorem dX6_number_2 : decode cX6_number 2 = .ok (.invokevirtual 75, 3) := by decide +kernel
theorem dX6_number_5 : decode cX6_number 5 = .ok (.istore_n 2, 1) := by decide +kernel
theorem dX6_number_6 : decode cX6_number 6 = .ok (.iconst 0, 1) := by decide +kernel
theorem dX6_number_7 : decode cX6_number 7 = .ok (.istore_n 3, 1) := by decide +kernel
theorem dX6_number_8 : decode cX6_number 8 = .ok (.iconst 0, 1) := by decide +kernel
theorem dX6_number_9 : decode cX6_number 9 = .ok (.istore 4, 2) := by decide +kernel
theorem dX6_number_11 : decode cX6_number 11 = .ok (.iload 4, 2) := by decide +kernel
theorem dX6_number_13 : decode cX6_number 13 = .ok (.aload_n 0, 1) := by decide +kernel
theorem dX6_number_14 : decode cX6_number 14 = .ok (.getfield 48, 3) := by decide +kernel
theorem dX6_number_17 : decode cX6_number 17 = .ok (.iload_n 2, 1) := by decide +kernel
theorem dX6_number_18 : decode cX6_number 18 = .ok (.iconst 1, 1) := by decide +kernel
theorem dX6_number_19 : decode cX6_number 19 = .ok (.isub, 1) := by decide +kernel
theorem dX6_number_20 : decode cX6_number 20 = .ok (.iaload, 1) := by decide +kernel
theorem dX6_number_21 : decode cX6_number 21 = .ok (.if_icmp .ge 24, 3) := by decide +kernel
theorem dX6_number_24 : decode cX6_number 24 = .ok (.iload_n 3, 1) := by decide +kernel
theorem dX6_number_25 : decode cX6_number 25 = .ok (.bipush 8, 2) := by decide +kernel
theorem dX6_number_27 : decode cX6_number 27 = .ok (.ishl, 1) := by decide +kernel
theorem dX6_number_28 : decode cX6_number 28 = .ok (.aload_n 0, 1) := by decide +kernel
theorem dX6_number_29 : decode cX6_number 29 = .ok (.getfield 48, 3) := by decide +kernel
theorem dX6_number_32 : decode cX6_number 32 = .ok (.iload_n 2, 1) := by decide +kernel
theorem dX6_number_33 : decode cX6_number 33 = .ok (.iload 4, 2) := by decide +kernel
theorem dX6_number_35 : decode cX6_number 35 = .ok (.iadd, 1) := by decide +kernel
theorem dX6_number_36 : decode cX6_number 36 = .ok (.iaload, 1) := by decide +kernel
theorem dX6_number_37 : decode cX6_number 37 = .ok (.ior, 1) := by decide +kernel
theorem dX6_number_38 : decode cX6_number 38 = .ok (.istore_n 3, 1) := by decide +kernel
theorem dX6_number_39 : decode cX6_number 39 = .ok (.iinc 4 1, 3) := by decide +kernel
theorem dX6_number_42 : decode cX6_number 42 = .ok (.goto (-31), 3) := by decide +kernel
theorem dX6_number_45 : decode cX6_number 45 = .ok (.iload_n 3, 1) := by decide +kernel
theorem dX6_number_46 : decode cX6_number 46 = .ok (.ireturn, 1) := by decide +kernel
theorem dX6_turned_0 : decode cX6_turned 0 = .ok (.iload_n 0, 1) := by decide +kernel
theorem dX6_turned_1 : decode cX6_turned 1 = .ok (.iload_n 1, 1) := by decide +kernel
theorem dX6_turned_2 : decode cX6_turned 2 = .ok (.ixor, 1) := by decide +kernel
theorem dX6_turned_3 : decode cX6_turned 3 = .ok (.ldc 79, 2) := by decide +kernel
theorem dX6_turned_5 : decode cX6_turned 5 = .ok (.imul, 1) := by decide +kernel
theorem dX6_turned_6 : decode cX6_turned 6 = .ok (.istore_n 2, 1) := by decide +kernel
theorem dX6_turned_7 : decode cX6_turned 7 = .ok (.iload_n 2, 1) := by decide +kernel
theorem dX6_turned_8 : decode cX6_turned 8 = .ok (.iconst 5, 1) := by decide +kernel
theorem dX6_turned_9 : decode cX6_turned 9 = .ok (.ishl, 1) := by decide +kernel
theorem dX6_turned_10 : decode cX6_turned 10 = .ok (.iload_n 2, 1) := by decide +kernel
theorem dX6_turned_11 : decode cX6_turned 11 = .ok (.bipush 27, 2) := by decide +kernel
theorem dX6_turned_13 : decode cX6_turned 13 = .ok (.iushr, 1) := by decide +kernel
theorem dX6_turned_14 : decode cX6_turned 14 = .ok (.ior, 1) := by decide +kernel
theorem dX6_turned_15 : decode cX6_turned 15 = .ok (.ireturn, 1) := by decide +kernel
theorem dX6_become_0 : decode cX6_become 0 = .ok (.aload_n 0, 1) := by decide +kernel
theorem dX6_become_1 : decode cX6_become 1 = .ok (.getfield 23, 3) := by decide +kernel
theorem dX6_become_4 : decode cX6_become 4 = .ok (.iload_n 1, 1) := by decide +kernel
theorem dX6_become_5 : decode cX6_become 5 = .ok (.iload_n 2, 1) := by decide +kernel
theorem dX6_become_6 : decode cX6_become 6 = .ok (.iastore, 1) := by decide +kernel
theorem dX6_become_7 : decode cX6_become 7 = .ok (.aload_n 0, 1) := by decide +kernel
theorem dX6_become_8 : decode cX6_become 8 = .ok (.getfield 26, 3) := by decide +kernel
theorem dX6_become_11 : decode cX6_become 11 = .ok (.iload_n 1, 1) := by decide +kernel
theorem dX6_become_12 : decode cX6_become 12 = .ok (.iload_n 3, 1) := by decide +kernel
theorem dX6_become_13 : decode cX6_become 13 = .ok (.iastore, 1) := by decide +kernel
theorem dX6_become_14 : decode cX6_become 14 = .ok (.aload_n 0, 1) := by decide +kernel
theorem dX6_become_15 : decode cX6_become 15 = .ok (.getfield 29, 3) := by decide +kernel
theorem dX6_become_18 : decode cX6_become 18 = .ok (.iload_n 1, 1) := by decide +kernel
theorem dX6_become_19 : decode cX6_become 19 = .ok (.iload 4, 2) := by decide +kernel
theorem dX6_become_21 : decode cX6_become 21 = .ok (.iastore, 1) := by decide +kernel
theorem dX6_become_22 : decode cX6_become 22 = .ok (.aload_n 0, 1) := by decide +kernel
theorem dX6_become_23 : decode cX6_become 23 = .ok (.getfield 32, 3) := by decide +kernel
theorem dX6_become_26 : decode cX6_become 26 = .ok (.iload_n 1, 1) := by decide +kernel
theorem dX6_become_27 : decode cX6_become 27 = .ok (.iconst 0, 1) := by decide +kernel
theorem dX6_become_28 : decode cX6_become 28 = .ok (.bastore, 1) := by decide +kernel
theorem dX6_become_29 : decode cX6_become 29 = .ok (.return_, 1) := by decide +kernel
theorem dX6_way_0 : decode cX6_way 0 = .ok (.iload_n 1, 1) := by decide +kernel
theorem dX6_way_1 : decode cX6_way 1 = .ok (.ifCond .ne 7, 3) := by decide +kernel
theorem dX6_way_4 : decode cX6_way 4 = .ok (.iconst 0, 1) := by decide +kernel
theorem dX6_way_5 : decode cX6_way 5 = .ok (.goto 4, 3) := by decide +kernel
theorem dX6_way_8 : decode cX6_way 8 = .ok (.iconst 1, 1) := by decide +kernel
theorem dX6_way_9 : decode cX6_way 9 = .ok (.ireturn, 1) := by decide +kernel
theorem dX6_rest_0 : decode cX6_rest 0 = .ok (.iload_n 1, 1) := by decide +kernel
theorem dX6_rest_1 : decode cX6_rest 1 = .ok (.ifCond .ne 7, 3) := by decide +kernel
theorem dX6_rest_4 : decode cX6_rest 4 = .ok (.iconst 3, 1) := by decide +kernel
theorem dX6_rest_5 : decode cX6_rest 5 = .ok (.goto 4, 3) := by decide +kernel
theorem dX6_rest_8 : decode cX6_rest 8 = .ok (.iconst 0, 1) := by decide +kernel
theorem dX6_rest_9 : decode cX6_rest 9 = .ok (.ireturn, 1) := by decide +kernel
theorem dX6_release_0 : decode cX6_release 0 = .ok (.aload_n 0, 1) := by decide +kernel
theorem dX6_release_1 : decode cX6_release 1 = .ok (.aload_n 0, 1) := by decide +kernel
theorem dX6_release_2 : decode cX6_release 2 = .ok (.iload_n 1, 1) := by decide +kernel
theorem dX6_release_3 : decode cX6_release 3 = .ok (.invokevirtual 80, 3) := by decide +kernel
theorem dX6_release_6 : decode cX6_release 6 = .ok (.iconst 3, 1) := by decide +kernel
theorem dX6_release_7 : decode cX6_release 7 = .ok (.bipush 45, 2) := by decide +kernel
theorem dX6_release_9 : decode cX6_release 9 = .ok (.invokevirtual 64, 3) := by decide +kernel
theorem dX6_release_12 : decode cX6_release 12 = .ok (.pop, 1) := by decide +kernel
theorem dX6_release_13 : decode cX6_release 13 = .ok (.aload_n 0, 1) := by decide +kernel
theorem dX6_release_14 : decode cX6_release 14 = .ok (.iload_n 1, 1) := by decide +kernel
theorem dX6_release_15 : decode cX6_release 15 = .ok (.aload_n 0, 1) := by decide +kernel
theorem dX6_release_16 : decode cX6_release 16 = .ok (.getfield 23, 3) := by decide +kernel
theorem dX6_release_19 : decode cX6_release 19 = .ok (.iload_n 1, 1) := by decide +kernel
theorem dX6_release_20 : decode cX6_release 20 = .ok (.iaload, 1) := by decide +kernel
theorem dX6_release_21 : decode cX6_release 21 = .ok (.bipush 6, 2) := by decide +kernel
theorem dX6_release_23 : decode cX6_release 23 = .ok (.bipush 30, 2) := by decide +kernel
theorem dX6_release_25 : decode cX6_release 25 = .ok (.invokevirtual 83, 3) := by decide +kernel
theorem dX6_release_28 : decode cX6_release 28 = .ok (.return_, 1) := by decide +kernel
theorem dX6_isCall_0 : decode cX6_isCall 0 = .ok (.aload_n 0, 1) := by decide +kernel
theorem dX6_isCall_1 : decode cX6_isCall 1 = .ok (.getfield 26, 3) := by decide +kernel
theorem dX6_isCall_4 : decode cX6_isCall 4 = .ok (.iload_n 1, 1) := by decide +kernel
theorem dX6_isCall_5 : decode cX6_isCall 5 = .ok (.iaload, 1) := by decide +kernel
theorem dX6_isCall_6 : decode cX6_isCall 6 = .ok (.iload_n 2, 1) := by decide +kernel
theorem dX6_isCall_7 : decode cX6_isCall 7 = .ok (.if_icmp .lt 17, 3) := by decide +kernel
theorem dX6_isCall_10 : decode cX6_isCall 10 = .ok (.aload_n 0, 1) := by decide +kernel
theorem dX6_isCall_11 : decode cX6_isCall 11 = .ok (.getfield 26, 3) := by decide +kernel
theorem dX6_isCall_14 : decode cX6_isCall 14 = .ok (.iload_n 1, 1) := by decide +kernel
theorem dX6_isCall_15 : decode cX6_isCall 15 = .ok (.iaload, 1) := by decide +kernel
theorem dX6_isCall_16 : decode cX6_isCall 16 = .ok (.iload_n 3, 1) := by decide +kernel
theorem dX6_isCall_17 : decode cX6_isCall 17 = .ok (.if_icmp .gt 7, 3) := by decide +kernel
theorem dX6_isCall_20 : decode cX6_isCall 20 = .ok (.iconst 1, 1) := by decide +kernel
theorem dX6_isCall_21 : decode cX6_isCall 21 = .ok (.goto 4, 3) := by decide +kernel
theorem dX6_isCall_24 : decode cX6_isCall 24 = .ok (.iconst 0, 1) := by decide +kernel
theorem dX6_isCall_25 : decode cX6_isCall 25 = .ok (.ireturn, 1) := by decide +kernel
theorem dX6_closes_0 : decode cX6_closes 0 = .ok (.bipush (-3), 2) := by decide +kernel
theorem dX6_closes_2 : decode cX6_closes 2 = .ok (.istore_n 3, 1) := by decide +kernel
theorem dX6_closes_3 : decode cX6_closes 3 = .ok (.iload_n 2, 1) := by decide +kernel
theorem dX6_closes_4 : decode cX6_closes 4 = .ok (.bipush 37, 2) := by decide +kernel
theorem dX6_closes_6 : decode cX6_closes 6 = .ok (.if_icmp .ne 42, 3) := by decide +kernel
theorem dX6_closes_9 : decode cX6_closes 9 = .ok (.aload_n 0, 1) := by decide +kernel
theorem dX6_closes_10 : decode cX6_closes 10 = .ok (.bipush 8, 2) := by decide +kernel
theorem dX6_closes_12 : decode cX6_closes 12 = .ok (.iconst 1, 1) := by decide +kernel
theorem dX6_closes_13 : decode cX6_closes 13 = .ok (.invokevirtual 87, 3) := by decide +kernel
theorem dX6_closes_16 : decode cX6_closes 16 = .ok (.ifCond .eq 32, 3) := by decide +kernel
theorem dX6_closes_19 : decode cX6_closes 19 = .ok (.aload_n 0, 1) := by decide +kernel
theorem dX6_closes_20 : decode cX6_closes 20 = .ok (.iload_n 1, 1) := by decide +kernel
theorem dX6_closes_21 : decode cX6_closes 21 = .ok (.iconst 1, 1) := by decide +kernel
theorem dX6_closes_22 : decode cX6_closes 22 = .ok (.iconst 5, 1) := by decide +kernel
theorem dX6_closes_23 : decode cX6_closes 23 = .ok (.invokevirtual 91, 3) := by decide +kernel
theorem dX6_closes_26 : decode cX6_closes 26 = .ok (.ifCond .eq 22, 3) := by decide +kernel
theorem dX6_closes_29 : decode cX6_closes 29 = .ok (.aload_n 0, 1) := by decide +kernel
theorem dX6_closes_30 : decode cX6_closes 30 = .ok (.getfield 36, 3) := by decide +kernel
theorem dX6_closes_33 : decode cX6_closes 33 = .ok (.iload_n 1, 1) := by decide +kernel
theorem dX6_closes_34 : decode cX6_closes 34 = .ok (.aload_n 0, 1) := by decide +kernel
theorem dX6_closes_35 : decode cX6_closes 35 = .ok (.bipush 8, 2) := by decide +kernel
theorem dX6_closes_37 : decode cX6_closes 37 = .ok (.invokevirtual 95, 3) := by decide +kernel
theorem dX6_closes_40 : decode cX6_closes 40 = .ok (.iastore, 1) := by decide +kernel
theorem dX6_closes_41 : decode cX6_closes 41 = .ok (.aload_n 0, 1) := by decide +kernel
theorem dX6_closes_42 : decode cX6_closes 42 = .ok (.iload_n 1, 1) := by decide +kernel
theorem dX6_closes_43 : decode cX6_closes 43 = .ok (.invokevirtual 98, 3) := by decide +kernel
theorem dX6_closes_46 : decode cX6_closes 46 = .ok (.iconst 1, 1) := by decide +kernel
theorem dX6_closes_47 : decode cX6_closes 47 = .ok (.ireturn, 1) := by decide +kernel
theorem dX6_closes_48 : decode cX6_closes 48 = .ok (.iload_n 2, 1) := by decide +kernel
theorem dX6_closes_49 : decode cX6_closes 49 = .ok (.bipush 45, 2) := by decide +kernel
theorem dX6_closes_51 : decode cX6_closes 51 = .ok (.if_icmp .ne 44, 3) := by decide +kernel
theorem dX6_closes_54 : decode cX6_closes 54 = .ok (.iload_n 1, 1) := by decide +kernel
theorem dX6_closes_55 : decode cX6_closes 55 = .ok (.iconst 1, 1) := by decide +kernel
theorem dX6_closes_56 : decode cX6_closes 56 = .ok (.if_icmp .eq 12, 3) := by decide +kernel
theorem dX6_closes_59 : decode cX6_closes 59 = .ok (.aload_n 0, 1) := by decide +kernel
theorem dX6_closes_60 : decode cX6_closes 60 = .ok (.getfield 26, 3) := by decide +kernel
theorem dX6_closes_63 : decode cX6_closes 63 = .ok (.iload_n 1, 1) := by decide +kernel
theorem dX6_closes_64 : decode cX6_closes 64 = .ok (.iaload, 1) := by decide +kernel
theorem dX6_closes_65 : decode cX6_closes 65 = .ok (.ifCond .le 30, 3) := by decide +kernel
theorem dX6_closes_68 : decode cX6_closes 68 = .ok (.aload_n 0, 1) := by decide +kernel
theorem dX6_closes_69 : decode cX6_closes 69 = .ok (.aload_n 0, 1) := by decide +kernel
theorem dX6_closes_70 : decode cX6_closes 70 = .ok (.iload_n 1, 1) := by decide +kernel
theorem dX6_closes_71 : decode cX6_closes 71 = .ok (.invokevirtual 80, 3) := by decide +kernel
theorem dX6_closes_74 : decode cX6_closes 74 = .ok (.iconst 3, 1) := by decide +kernel
theorem dX6_closes_75 : decode cX6_closes 75 = .ok (.bipush 42, 2) := by decide +kernel
theorem dX6_closes_77 : decode cX6_closes 77 = .ok (.invokevirtual 64, 3) := by decide +kernel
theorem dX6_closes_80 : decode cX6_closes 80 = .ok (.istore_n 3, 1) := by decide +kernel
theorem dX6_closes_81 : decode cX6_closes 81 = .ok (.aload_n 0, 1) := by decide +kernel
theorem dX6_closes_82 : decode cX6_closes 82 = .ok (.iload_n 1, 1) := by decide +kernel
theorem dX6_closes_83 : decode cX6_closes 83 = .ok (.aload_n 0, 1) := by decide +kernel
theorem dX6_closes_84 : decode cX6_closes 84 = .ok (.iload_n 1, 1) := by decide +kernel
theorem dX6_closes_85 : decode cX6_closes 85 = .ok (.invokevirtual 102, 3) := by decide +kernel
theorem dX6_closes_88 : decode cX6_closes 88 = .ok (.iconst 0, 1) := by decide +kernel
theorem dX6_closes_89 : decode cX6_closes 89 = .ok (.iconst 0, 1) := by decide +kernel
theorem dX6_closes_90 : decode cX6_closes 90 = .ok (.invokevirtual 83, 3) := by decide +kernel
theorem dX6_closes_93 : decode cX6_closes 93 = .ok (.iconst 1, 1) := by decide +kernel
theorem dX6_closes_94 : decode cX6_closes 94 = .ok (.ireturn, 1) := by decide +kernel
theorem dX6_closes_95 : decode cX6_closes 95 = .ok (.iload_n 2, 1) := by decide +kernel
theorem dX6_closes_96 : decode cX6_closes 96 = .ok (.bipush 42, 2) := by decide +kernel
theorem dX6_closes_98 : decode cX6_closes 98 = .ok (.if_icmp .ne 31, 3) := by decide +kernel
theorem dX6_closes_101 : decode cX6_closes 101 = .ok (.iload_n 1, 1) := by decide +kernel
theorem dX6_closes_102 : decode cX6_closes 102 = .ok (.iconst 1, 1) := by decide +kernel
theorem dX6_closes_103 : decode cX6_closes 103 = .ok (.if_icmp .eq 12, 3) := by decide +kernel
theorem dX6_closes_106 : decode cX6_closes 106 = .ok (.aload_n 0, 1) := by decide +kernel
theorem dX6_closes_107 : decode cX6_closes 107 = .ok (.getfield 26, 3) := by decide +kernel
theorem dX6_closes_110 : decode cX6_closes 110 = .ok (.iload_n 1, 1) := by decide +kernel
theorem dX6_closes_111 : decode cX6_closes 111 = .ok (.iaload, 1) := by decide +kernel
theorem dX6_closes_112 : decode cX6_closes 112 = .ok (.ifCond .le 17, 3) := by decide +kernel
theorem dX6_closes_115 : decode cX6_closes 115 = .ok (.aload_n 0, 1) := by decide +kernel
theorem dX6_closes_116 : decode cX6_closes 116 = .ok (.iload_n 1, 1) := by decide +kernel
theorem dX6_closes_117 : decode cX6_closes 117 = .ok (.aload_n 0, 1) := by decide +kernel
theorem dX6_closes_118 : decode cX6_closes 118 = .ok (.iload_n 1, 1) := by decide +kernel
theorem dX6_closes_119 : decode cX6_closes 119 = .ok (.invokevirtual 102, 3) := by decide +kernel
theorem dX6_closes_122 : decode cX6_closes 122 = .ok (.iconst 0, 1) := by decide +kernel
theorem dX6_closes_123 : decode cX6_closes 123 = .ok (.iconst 0, 1) := by decide +kernel
theorem dX6_closes_124 : decode cX6_closes 124 = .ok (.invokevirtual 83, 3) := by decide +kernel
theorem dX6_closes_127 : decode cX6_closes 127 = .ok (.iconst 1, 1) := by decide +kernel
theorem dX6_closes_128 : decode cX6_closes 128 = .ok (.ireturn, 1) := by decide +kernel
theorem dX6_closes_129 : decode cX6_closes 129 = .ok (.iconst 0, 1) := by decide +kernel
theorem dX6_closes_130 : decode cX6_closes 130 = .ok (.ireturn, 1) := by decide +kernel
theorem dX6_mobileMoves_0 : decode cX6_mobileMoves 0 = .ok (.aload_n 0, 1) := by decide +kernel
theorem dX6_mobileMoves_1 : decode cX6_mobileMoves 1 = .ok (.getfield 23, 3) := by decide +kernel
theorem dX6_mobileMoves_4 : decode cX6_mobileMoves 4 = .ok (.iconst 0, 1) := by decide +kernel
theorem dX6_mobileMoves_5 : decode cX6_mobileMoves 5 = .ok (.iaload, 1) := by decide +kernel
theorem dX6_mobileMoves_6 : decode cX6_mobileMoves 6 = .ok (.istore_n 2, 1) := by decide +kernel
theorem dX6_mobileMoves_7 : decode cX6_mobileMoves 7 = .ok (.iload_n 1, 1) := by decide +kernel
theorem dX6_mobileMoves_8 : decode cX6_mobileMoves 8 = .ok (.lookupswitch 271 #[(2, 60), (4, 102), (17, 194), (18, 146), (33, 210), (34, 232)], 60) := by decide +kernel
theorem dX6_mobileMoves_68 : decode cX6_mobileMoves 68 = .ok (.iload_n 2, 1) := by decide +kernel
theorem dX6_mobileMoves_69 : decode cX6_mobileMoves 69 = .ok (.iconst 2, 1) := by decide +kernel
theorem dX6_mobileMoves_70 : decode cX6_mobileMoves 70 = .ok (.if_icmp .ne 13, 3) := by decide +kernel
theorem dX6_mobileMoves_73 : decode cX6_mobileMoves 73 = .ok (.aload_n 0, 1) := by decide +kernel
theorem dX6_mobileMoves_74 : decode cX6_mobileMoves 74 = .ok (.bipush 19, 2) := by decide +kernel
theorem dX6_mobileMoves_76 : decode cX6_mobileMoves 76 = .ok (.iconst 2, 1) := by decide +kernel
theorem dX6_mobileMoves_77 : decode cX6_mobileMoves 77 = .ok (.invokevirtual 87, 3) := by decide +kernel
theorem dX6_mobileMoves_80 : decode cX6_mobileMoves 80 = .ok (.ifCond .ne 5, 3) := by decide +kernel
theorem dX6_mobileMoves_83 : decode cX6_mobileMoves 83 = .ok (.iconst 0, 1) := by decide +kernel
theorem dX6_mobileMoves_84 : decode cX6_mobileMoves 84 = .ok (.ireturn, 1) := by decide +kernel
theorem dX6_mobileMoves_85 : decode cX6_mobileMoves 85 = .ok (.aload_n 0, 1) := by decide +kernel
theorem dX6_mobileMoves_86 : decode cX6_mobileMoves 86 = .ok (.aload_n 0, 1) := by decide +kernel
theorem dX6_mobileMoves_87 : decode cX6_mobileMoves 87 = .ok (.bipush 19, 2) := by decide +kernel
theorem dX6_mobileMoves_89 : decode cX6_mobileMoves 89 = .ok (.invokevirtual 95, 3) := by decide +kernel
theorem dX6_mobileMoves_92 : decode cX6_mobileMoves 92 = .ok (.putfield 105, 3) := by decide +kernel
theorem dX6_mobileMoves_95 : decode cX6_mobileMoves 95 = .ok (.aload_n 0, 1) := by decide +kernel
theorem dX6_mobileMoves_96 : decode cX6_mobileMoves 96 = .ok (.iconst 0, 1) := by decide +kernel
theorem dX6_mobileMoves_97 : decode cX6_mobileMoves 97 = .ok (.iconst 3, 1) := by decide +kernel
theorem dX6_mobileMoves_98 : decode cX6_mobileMoves 98 = .ok (.aload_n 0, 1) := by decide +kernel
theorem dX6_mobileMoves_99 : decode cX6_mobileMoves 99 = .ok (.getfield 26, 3) := by decide +kernel
theorem dX6_mobileMoves_102 : decode cX6_mobileMoves 102 = .ok (.iconst 0, 1) := by decide +kernel
theorem dX6_mobileMoves_103 : decode cX6_mobileMoves 103 = .ok (.iaload, 1) := by decide +kernel
theorem dX6_mobileMoves_104 : decode cX6_mobileMoves 104 = .ok (.iconst 0, 1) := by decide +kernel
theorem dX6_mobileMoves_105 : decode cX6_mobileMoves 105 = .ok (.invokevirtual 83, 3) := by decide +kernel
theorem dX6_mobileMoves_108 : decode cX6_mobileMoves 108 = .ok (.iconst 1, 1) := by decide +kernel
theorem dX6_mobileMoves_109 : decode cX6_mobileMoves 109 = .ok (.ireturn, 1) := by decide +kernel
theorem dX6_mobileMoves_110 : decode cX6_mobileMoves 110 = .ok (.iload_n 2, 1) := by decide +kernel
theorem dX6_mobileMoves_111 : decode cX6_mobileMoves 111 = .ok (.iconst 2, 1) := by decide +kernel
theorem dX6_mobileMoves_112 : decode cX6_mobileMoves 112 = .ok (.if_icmp .ne 13, 3) := by decide +kernel
theorem dX6_mobileMoves_115 : decode cX6_mobileMoves 115 = .ok (.aload_n 0, 1) := by decide +kernel
theorem dX6_mobileMoves_116 : decode cX6_mobileMoves 116 = .ok (.bipush 8, 2) := by decide +kernel
theorem dX6_mobileMoves_118 : decode cX6_mobileMoves 118 = .ok (.iconst 1, 1) := by decide +kernel
theorem dX6_mobileMoves_119 : decode cX6_mobileMoves 119 = .ok (.invokevirtual 87, 3) := by decide +kernel
theorem dX6_mobileMoves_122 : decode cX6_mobileMoves 122 = .ok (.ifCond .ne 5, 3) := by decide +kernel
theorem dX6_mobileMoves_125 : decode cX6_mobileMoves 125 = .ok (.iconst 0, 1) := by decide +kernel
theorem dX6_mobileMoves_126 : decode cX6_mobileMoves 126 = .ok (.ireturn, 1) := by decide +kernel
theorem dX6_mobileMoves_127 : decode cX6_mobileMoves 127 = .ok (.aload_n 0, 1) := by decide +kernel
theorem dX6_mobileMoves_128 : decode cX6_mobileMoves 128 = .ok (.getfield 36, 3) := by decide +kernel
theorem dX6_mobileMoves_131 : decode cX6_mobileMoves 131 = .ok (.iconst 0, 1) := by decide +kernel
theorem dX6_mobileMoves_132 : decode cX6_mobileMoves 132 = .ok (.aload_n 0, 1) := by decide +kernel
theorem dX6_mobileMoves_133 : decode cX6_mobileMoves 133 = .ok (.bipush 8, 2) := by decide +kernel
theorem dX6_mobileMoves_135 : decode cX6_mobileMoves 135 = .ok (.invokevirtual 95, 3) := by decide +kernel
theorem dX6_mobileMoves_138 : decode cX6_mobileMoves 138 = .ok (.iastore, 1) := by decide +kernel
theorem dX6_mobileMoves_139 : decode cX6_mobileMoves 139 = .ok (.aload_n 0, 1) := by decide +kernel
theorem dX6_mobileMoves_140 : decode cX6_mobileMoves 140 = .ok (.iconst 0, 1) := by decide +kernel
theorem dX6_mobileMoves_141 : decode cX6_mobileMoves 141 = .ok (.iconst 1, 1) := by decide +kernel
theorem dX6_mobileMoves_142 : decode cX6_mobileMoves 142 = .ok (.aload_n 0, 1) := by decide +kernel
theorem dX6_mobileMoves_143 : decode cX6_mobileMoves 143 = .ok (.getfield 26, 3) := by decide +kernel
theorem dX6_mobileMoves_146 : decode cX6_mobileMoves 146 = .ok (.iconst 0, 1) := by decide +kernel
theorem dX6_mobileMoves_147 : decode cX6_mobileMoves 147 = .ok (.iaload, 1) := by decide +kernel
theorem dX6_mobileMoves_148 : decode cX6_mobileMoves 148 = .ok (.iconst 0, 1) := by decide +kernel
theorem dX6_mobileMoves_149 : decode cX6_mobileMoves 149 = .ok (.invokevirtual 83, 3) := by decide +kernel
theorem dX6_mobileMoves_152 : decode cX6_mobileMoves 152 = .ok (.iconst 1, 1) := by decide +kernel
theorem dX6_mobileMoves_153 : decode cX6_mobileMoves 153 = .ok (.ireturn, 1) := by decide +kernel
theorem dX6_mobileMoves_154 : decode cX6_mobileMoves 154 = .ok (.iload_n 2, 1) := by decide +kernel
theorem dX6_mobileMoves_155 : decode cX6_mobileMoves 155 = .ok (.iconst 2, 1) := by decide +kernel
theorem dX6_mobileMoves_156 : decode cX6_mobileMoves 156 = .ok (.if_icmp .eq 8, 3) := by decide +kernel
theorem dX6_mobileMoves_159 : decode cX6_mobileMoves 159 = .ok (.iload_n 2, 1) := by decide +kernel
theorem dX6_mobileMoves_160 : decode cX6_mobileMoves 160 = .ok (.iconst 4, 1) := by decide +kernel
theorem dX6_mobileMoves_161 : decode cX6_mobileMoves 161 = .ok (.if_icmp .ne 13, 3) := by decide +kernel
theorem dX6_mobileMoves_164 : decode cX6_mobileMoves 164 = .ok (.aload_n 0, 1) := by decide +kernel
theorem dX6_mobileMoves_165 : decode cX6_mobileMoves 165 = .ok (.bipush 33, 2) := by decide +kernel
theorem dX6_mobileMoves_167 : decode cX6_mobileMoves 167 = .ok (.iconst 4, 1) := by decide +kernel
theorem dX6_mobileMoves_168 : decode cX6_mobileMoves 168 = .ok (.invokevirtual 87, 3) := by decide +kernel
theorem dX6_mobileMoves_171 : decode cX6_mobileMoves 171 = .ok (.ifCond .ne 5, 3) := by decide +kernel
theorem dX6_mobileMoves_174 : decode cX6_mobileMoves 174 = .ok (.iconst 0, 1) := by decide +kernel
theorem dX6_mobileMoves_175 : decode cX6_mobileMoves 175 = .ok (.ireturn, 1) := by decide +kernel
theorem dX6_mobileMoves_176 : decode cX6_mobileMoves 176 = .ok (.aload_n 0, 1) := by decide +kernel
theorem dX6_mobileMoves_177 : decode cX6_mobileMoves 177 = .ok (.iconst 0, 1) := by decide +kernel
theorem dX6_mobileMoves_178 : decode cX6_mobileMoves 178 = .ok (.iconst 5, 1) := by decide +kernel
theorem dX6_mobileMoves_179 : decode cX6_mobileMoves 179 = .ok (.bipush 20, 2) := by decide +kernel
theorem dX6_mobileMoves_181 : decode cX6_mobileMoves 181 = .ok (.bipush 34, 2) := by decide +kernel
theorem dX6_mobileMoves_183 : decode cX6_mobileMoves 183 = .ok (.iconst 4, 1) := by decide +kernel
theorem dX6_mobileMoves_184 : decode cX6_mobileMoves 184 = .ok (.aload_n 0, 1) := by decide +kernel
theorem dX6_mobileMoves_185 : decode cX6_mobileMoves 185 = .ok (.bipush 33, 2) := by decide +kernel
theorem dX6_mobileMoves_187 : decode cX6_mobileMoves 187 = .ok (.invokevirtual 95, 3) := by decide +kernel
theorem dX6_mobileMoves_190 : decode cX6_mobileMoves 190 = .ok (.aload_n 0, 1) := by decide +kernel
theorem dX6_mobileMoves_191 : decode cX6_mobileMoves 191 = .ok (.getfield 51, 3) := by decide +kernel
theorem dX6_mobileMoves_194 : decode cX6_mobileMoves 194 = .ok (.invokestatic 108, 3) := by decide +kernel
theorem dX6_mobileMoves_197 : decode cX6_mobileMoves 197 = .ok (.invokevirtual 112, 3) := by decide +kernel
theorem dX6_mobileMoves_200 : decode cX6_mobileMoves 200 = .ok (.iconst 1, 1) := by decide +kernel
theorem dX6_mobileMoves_201 : decode cX6_mobileMoves 201 = .ok (.ireturn, 1) := by decide +kernel
theorem dX6_mobileMoves_202 : decode cX6_mobileMoves 202 = .ok (.iload_n 2, 1) := by decide +kernel
theorem dX6_mobileMoves_203 : decode cX6_mobileMoves 203 = .ok (.ifCond .ne 5, 3) := by decide +kernel
theorem dX6_mobileMoves_206 : decode cX6_mobileMoves 206 = .ok (.iconst 0, 1) := by decide +kernel
theorem dX6_mobileMoves_207 : decode cX6_mobileMoves 207 = .ok (.ireturn, 1) := by decide +kernel
theorem dX6_mobileMoves_208 : decode cX6_mobileMoves 208 = .ok (.aload_n 0, 1) := by decide +kernel
theorem dX6_mobileMoves_209 : decode cX6_mobileMoves 209 = .ok (.iconst 0, 1) := by decide +kernel
theorem dX6_mobileMoves_210 : decode cX6_mobileMoves 210 = .ok (.iconst 1, 1) := by decide +kernel
theorem dX6_mobileMoves_211 : decode cX6_mobileMoves 211 = .ok (.iconst 0, 1) := by decide +kernel
theorem dX6_mobileMoves_212 : decode cX6_mobileMoves 212 = .ok (.iconst 0, 1) := by decide +kernel
theorem dX6_mobileMoves_213 : decode cX6_mobileMoves 213 = .ok (.invokevirtual 83, 3) := by decide +kernel
theorem dX6_mobileMoves_216 : decode cX6_mobileMoves 216 = .ok (.iconst 1, 1) := by decide +kernel
theorem dX6_mobileMoves_217 : decode cX6_mobileMoves 217 = .ok (.ireturn, 1) := by decide +kernel
theorem dX6_mobileMoves_218 : decode cX6_mobileMoves 218 = .ok (.iload_n 2, 1) := by decide +kernel
theorem dX6_mobileMoves_219 : decode cX6_mobileMoves 219 = .ok (.iconst 4, 1) := by decide +kernel
theorem dX6_mobileMoves_220 : decode cX6_mobileMoves 220 = .ok (.if_icmp .eq 5, 3) := by decide +kernel
theorem dX6_mobileMoves_223 : decode cX6_mobileMoves 223 = .ok (.iconst 0, 1) := by decide +kernel
theorem dX6_mobileMoves_224 : decode cX6_mobileMoves 224 = .ok (.ireturn, 1) := by decide +kernel
theorem dX6_mobileMoves_225 : decode cX6_mobileMoves 225 = .ok (.aload_n 0, 1) := by decide +kernel
theorem dX6_mobileMoves_226 : decode cX6_mobileMoves 226 = .ok (.invokevirtual 116, 3) := by decide +kernel
theorem dX6_mobileMoves_229 : decode cX6_mobileMoves 229 = .ok (.aload_n 0, 1) := by decide +kernel
theorem dX6_mobileMoves_230 : decode cX6_mobileMoves 230 = .ok (.iconst 0, 1) := by decide +kernel
theorem dX6_mobileMoves_231 : decode cX6_mobileMoves 231 = .ok (.iconst 5, 1) := by decide +kernel
theorem dX6_mobileMoves_232 : decode cX6_mobileMoves 232 = .ok (.iconst 1, 1) := by decide +kernel
theorem dX6_mobileMoves_233 : decode cX6_mobileMoves 233 = .ok (.bipush 30, 2) := by decide +kernel
theorem dX6_mobileMoves_235 : decode cX6_mobileMoves 235 = .ok (.invokevirtual 83, 3) := by decide +kernel
theorem dX6_mobileMoves_238 : decode cX6_mobileMoves 238 = .ok (.iconst 1, 1) := by decide +kernel
theorem dX6_mobileMoves_239 : decode cX6_mobileMoves 239 = .ok (.ireturn, 1) := by decide +kernel
theorem dX6_mobileMoves_240 : decode cX6_mobileMoves 240 = .ok (.iload_n 2, 1) := by decide +kernel
theorem dX6_mobileMoves_241 : decode cX6_mobileMoves 241 = .ok (.iconst 4, 1) := by decide +kernel
theorem dX6_mobileMoves_242 : decode cX6_mobileMoves 242 = .ok (.if_icmp .ne 13, 3) := by decide +kernel
theorem dX6_mobileMoves_245 : decode cX6_mobileMoves 245 = .ok (.aload_n 0, 1) := by decide +kernel
theorem dX6_mobileMoves_246 : decode cX6_mobileMoves 246 = .ok (.bipush 8, 2) := by decide +kernel
theorem dX6_mobileMoves_248 : decode cX6_mobileMoves 248 = .ok (.iconst 1, 1) := by decide +kernel
theorem dX6_mobileMoves_249 : decode cX6_mobileMoves 249 = .ok (.invokevirtual 87, 3) := by decide +kernel
theorem dX6_mobileMoves_252 : decode cX6_mobileMoves 252 = .ok (.ifCond .ne 5, 3) := by decide +kernel
theorem dX6_mobileMoves_255 : decode cX6_mobileMoves 255 = .ok (.iconst 0, 1) := by decide +kernel
theorem dX6_mobileMoves_256 : decode cX6_mobileMoves 256 = .ok (.ireturn, 1) := by decide +kernel
theorem dX6_mobileMoves_257 : decode cX6_mobileMoves 257 = .ok (.aload_n 0, 1) := by decide +kernel
theorem dX6_mobileMoves_258 : decode cX6_mobileMoves 258 = .ok (.getfield 36, 3) := by decide +kernel
theorem dX6_mobileMoves_261 : decode cX6_mobileMoves 261 = .ok (.iconst 0, 1) := by decide +kernel
theorem dX6_mobileMoves_262 : decode cX6_mobileMoves 262 = .ok (.aload_n 0, 1) := by decide +kernel
theorem dX6_mobileMoves_263 : decode cX6_mobileMoves 263 = .ok (.bipush 8, 2) := by decide +kernel
theorem dX6_mobileMoves_265 : decode cX6_mobileMoves 265 = .ok (.invokevirtual 95, 3) := by decide +kernel
theorem dX6_mobileMoves_268 : decode cX6_mobileMoves 268 = .ok (.iastore, 1) := by decide +kernel
theorem dX6_mobileMoves_269 : decode cX6_mobileMoves 269 = .ok (.aload_n 0, 1) := by decide +kernel
theorem dX6_mobileMoves_270 : decode cX6_mobileMoves 270 = .ok (.iconst 0, 1) := by decide +kernel
theorem dX6_mobileMoves_271 : decode cX6_mobileMoves 271 = .ok (.iconst 3, 1) := by decide +kernel
theorem dX6_mobileMoves_272 : decode cX6_mobileMoves 272 = .ok (.iconst 0, 1) := by decide +kernel
theorem dX6_mobileMoves_273 : decode cX6_mobileMoves 273 = .ok (.iconst 0, 1) := by decide +kernel
theorem dX6_mobileMoves_274 : decode cX6_mobileMoves 274 = .ok (.invokevirtual 83, 3) := by decide +kernel
theorem dX6_mobileMoves_277 : decode cX6_mobileMoves 277 = .ok (.iconst 1, 1) := by decide +kernel
theorem dX6_mobileMoves_278 : decode cX6_mobileMoves 278 = .ok (.ireturn, 1) := by decide +kernel
theorem dX6_mobileMoves_279 : decode cX6_mobileMoves 279 = .ok (.iconst 0, 1) := by decide +kernel
theorem dX6_mobileMoves_280 : decode cX6_mobileMoves 280 = .ok (.ireturn, 1) := by decide +kernel
theorem dX6_setUp_0 : decode cX6_setUp 0 = .ok (.aload_n 0, 1) := by decide +kernel
theorem dX6_setUp_1 : decode cX6_setUp 1 = .ok (.iconst 0, 1) := by decide +kernel
theorem dX6_setUp_2 : decode cX6_setUp 2 = .ok (.iconst 3, 1) := by decide +kernel
theorem dX6_setUp_3 : decode cX6_setUp 3 = .ok (.iconst 5, 1) := by decide +kernel
theorem dX6_setUp_4 : decode cX6_setUp 4 = .ok (.invokevirtual 64, 3) := by decide +kernel
theorem dX6_setUp_7 : decode cX6_setUp 7 = .ok (.istore_n 1, 1) := by decide +kernel
theorem dX6_setUp_8 : decode cX6_setUp 8 = .ok (.aload_n 0, 1) := by decide +kernel
theorem dX6_setUp_9 : decode cX6_setUp 9 = .ok (.iload_n 1, 1) := by decide +kernel
theorem dX6_setUp_10 : decode cX6_setUp 10 = .ok (.bipush 94, 2) := by decide +kernel
theorem dX6_setUp_12 : decode cX6_setUp 12 = .ok (.invokevirtual 68, 3) := by decide +kernel
theorem dX6_setUp_15 : decode cX6_setUp 15 = .ok (.aload_n 0, 1) := by decide +kernel
theorem dX6_setUp_16 : decode cX6_setUp 16 = .ok (.iload_n 1, 1) := by decide +kernel
theorem dX6_setUp_17 : decode cX6_setUp 17 = .ok (.aload_n 0, 1) := by decide +kernel
theorem dX6_setUp_18 : decode cX6_setUp 18 = .ok (.getfield 119, 3) := by decide +kernel
theorem dX6_setUp_21 : decode cX6_setUp 21 = .ok (.invokevirtual 68, 3) := by decide +kernel
theorem dX6_setUp_24 : decode cX6_setUp 24 = .ok (.iconst 0, 1) := by decide +kernel
theorem dX6_setUp_25 : decode cX6_setUp 25 = .ok (.istore_n 2, 1) := by decide +kernel
theorem dX6_setUp_26 : decode cX6_setUp 26 = .ok (.iload_n 2, 1) := by decide +kernel
theorem dX6_setUp_27 : decode cX6_setUp 27 = .ok (.aload_n 0, 1) := by decide +kernel
theorem dX6_setUp_28 : decode cX6_setUp 28 = .ok (.getfield 119, 3) := by decide +kernel
theorem dX6_setUp_31 : decode cX6_setUp 31 = .ok (.if_icmp .ge 20, 3) := by decide +kernel
theorem dX6_setUp_34 : decode cX6_setUp 34 = .ok (.aload_n 0, 1) := by decide +kernel
theorem dX6_setUp_35 : decode cX6_setUp 35 = .ok (.iload_n 1, 1) := by decide +kernel
theorem dX6_setUp_36 : decode cX6_setUp 36 = .ok (.aload_n 0, 1) := by decide +kernel
theorem dX6_setUp_37 : decode cX6_setUp 37 = .ok (.getfield 42, 3) := by decide +kernel
theorem dX6_setUp_40 : decode cX6_setUp 40 = .ok (.iload_n 2, 1) := by decide +kernel
theorem dX6_setUp_41 : decode cX6_setUp 41 = .ok (.iaload, 1) := by decide +kernel
theorem dX6_setUp_42 : decode cX6_setUp 42 = .ok (.invokevirtual 68, 3) := by decide +kernel
theorem dX6_setUp_45 : decode cX6_setUp 45 = .ok (.iinc 2 1, 3) := by decide +kernel
theorem dX6_setUp_48 : decode cX6_setUp 48 = .ok (.goto (-22), 3) := by decide +kernel
theorem dX6_setUp_51 : decode cX6_setUp 51 = .ok (.return_, 1) := by decide +kernel
theorem dX6_mobileCalls_0 : decode cX6_mobileCalls 0 = .ok (.aload_n 0, 1) := by decide +kernel
theorem dX6_mobileCalls_1 : decode cX6_mobileCalls 1 = .ok (.getfield 23, 3) := by decide +kernel
theorem dX6_mobileCalls_4 : decode cX6_mobileCalls 4 = .ok (.iconst 0, 1) := by decide +kernel
theorem dX6_mobileCalls_5 : decode cX6_mobileCalls 5 = .ok (.iaload, 1) := by decide +kernel
theorem dX6_mobileCalls_6 : decode cX6_mobileCalls 6 = .ok (.iconst 5, 1) := by decide +kernel
theorem dX6_mobileCalls_7 : decode cX6_mobileCalls 7 = .ok (.if_icmp .eq 5, 3) := by decide +kernel
theorem dX6_mobileCalls_10 : decode cX6_mobileCalls 10 = .ok (.iconst 0, 1) := by decide +kernel
theorem dX6_mobileCalls_11 : decode cX6_mobileCalls 11 = .ok (.ireturn, 1) := by decide +kernel
theorem dX6_mobileCalls_12 : decode cX6_mobileCalls 12 = .ok (.iload_n 1, 1) := by decide +kernel
theorem dX6_mobileCalls_13 : decode cX6_mobileCalls 13 = .ok (.iconst 2, 1) := by decide +kernel
theorem dX6_mobileCalls_14 : decode cX6_mobileCalls 14 = .ok (.if_icmp .ne 23, 3) := by decide +kernel
theorem dX6_mobileCalls_17 : decode cX6_mobileCalls 17 = .ok (.aload_n 0, 1) := by decide +kernel
theorem dX6_mobileCalls_18 : decode cX6_mobileCalls 18 = .ok (.iconst 0, 1) := by decide +kernel
theorem dX6_mobileCalls_19 : decode cX6_mobileCalls 19 = .ok (.iconst 1, 1) := by decide +kernel
theorem dX6_mobileCalls_20 : decode cX6_mobileCalls 20 = .ok (.iconst 1, 1) := by decide +kernel
theorem dX6_mobileCalls_21 : decode cX6_mobileCalls 21 = .ok (.invokevirtual 91, 3) := by decide +kernel
theorem dX6_mobileCalls_24 : decode cX6_mobileCalls 24 = .ok (.ifCond .eq 13, 3) := by decide +kernel
theorem dX6_mobileCalls_27 : decode cX6_mobileCalls 27 = .ok (.aload_n 0, 1) := by decide +kernel
theorem dX6_mobileCalls_28 : decode cX6_mobileCalls 28 = .ok (.iconst 0, 1) := by decide +kernel
theorem dX6_mobileCalls_29 : decode cX6_mobileCalls 29 = .ok (.iconst 5, 1) := by decide +kernel
theorem dX6_mobileCalls_30 : decode cX6_mobileCalls 30 = .ok (.iconst 2, 1) := by decide +kernel
theorem dX6_mobileCalls_31 : decode cX6_mobileCalls 31 = .ok (.iconst 0, 1) := by decide +kernel
theorem dX6_mobileCalls_32 : decode cX6_mobileCalls 32 = .ok (.invokevirtual 83, 3) := by decide +kernel
theorem dX6_mobileCalls_35 : decode cX6_mobileCalls 35 = .ok (.iconst 1, 1) := by decide +kernel
theorem dX6_mobileCalls_36 : decode cX6_mobileCalls 36 = .ok (.ireturn, 1) := by decide +kernel
theorem dX6_mobileCalls_37 : decode cX6_mobileCalls 37 = .ok (.iload_n 1, 1) := by decide +kernel
theorem dX6_mobileCalls_38 : decode cX6_mobileCalls 38 = .ok (.iconst 1, 1) := by decide +kernel
theorem dX6_mobileCalls_39 : decode cX6_mobileCalls 39 = .ok (.if_icmp .ne 23, 3) := by decide +kernel
theorem dX6_mobileCalls_42 : decode cX6_mobileCalls 42 = .ok (.aload_n 0, 1) := by decide +kernel
theorem dX6_mobileCalls_43 : decode cX6_mobileCalls 43 = .ok (.iconst 0, 1) := by decide +kernel
theorem dX6_mobileCalls_44 : decode cX6_mobileCalls 44 = .ok (.iconst 1, 1) := by decide +kernel
theorem dX6_mobileCalls_45 : decode cX6_mobileCalls 45 = .ok (.iconst 2, 1) := by decide +kernel
theorem dX6_mobileCalls_46 : decode cX6_mobileCalls 46 = .ok (.invokevirtual 91, 3) := by decide +kernel
theorem dX6_mobileCalls_49 : decode cX6_mobileCalls 49 = .ok (.ifCond .eq 13, 3) := by decide +kernel
theorem dX6_mobileCalls_52 : decode cX6_mobileCalls 52 = .ok (.aload_n 0, 1) := by decide +kernel
theorem dX6_mobileCalls_53 : decode cX6_mobileCalls 53 = .ok (.iconst 0, 1) := by decide +kernel
theorem dX6_mobileCalls_54 : decode cX6_mobileCalls 54 = .ok (.iconst 5, 1) := by decide +kernel
theorem dX6_mobileCalls_55 : decode cX6_mobileCalls 55 = .ok (.iconst 3, 1) := by decide +kernel
theorem dX6_mobileCalls_56 : decode cX6_mobileCalls 56 = .ok (.iconst 0, 1) := by decide +kernel
theorem dX6_mobileCalls_57 : decode cX6_mobileCalls 57 = .ok (.invokevirtual 83, 3) := by decide +kernel
theorem dX6_mobileCalls_60 : decode cX6_mobileCalls 60 = .ok (.iconst 1, 1) := by decide +kernel
theorem dX6_mobileCalls_61 : decode cX6_mobileCalls 61 = .ok (.ireturn, 1) := by decide +kernel
theorem dX6_mobileCalls_62 : decode cX6_mobileCalls 62 = .ok (.iload_n 1, 1) := by decide +kernel
theorem dX6_mobileCalls_63 : decode cX6_mobileCalls 63 = .ok (.bipush 7, 2) := by decide +kernel
theorem dX6_mobileCalls_65 : decode cX6_mobileCalls 65 = .ok (.if_icmp .ne 32, 3) := by decide +kernel
theorem dX6_mobileCalls_68 : decode cX6_mobileCalls 68 = .ok (.aload_n 0, 1) := by decide +kernel
theorem dX6_mobileCalls_69 : decode cX6_mobileCalls 69 = .ok (.iconst 0, 1) := by decide +kernel
theorem dX6_mobileCalls_70 : decode cX6_mobileCalls 70 = .ok (.iconst 1, 1) := by decide +kernel
theorem dX6_mobileCalls_71 : decode cX6_mobileCalls 71 = .ok (.iconst 3, 1) := by decide +kernel
theorem dX6_mobileCalls_72 : decode cX6_mobileCalls 72 = .ok (.invokevirtual 91, 3) := by decide +kernel
theorem dX6_mobileCalls_75 : decode cX6_mobileCalls 75 = .ok (.ifCond .eq 22, 3) := by decide +kernel
theorem dX6_mobileCalls_78 : decode cX6_mobileCalls 78 = .ok (.aload_n 0, 1) := by decide +kernel
theorem dX6_mobileCalls_79 : decode cX6_mobileCalls 79 = .ok (.iconst 0, 1) := by decide +kernel
theorem dX6_mobileCalls_80 : decode cX6_mobileCalls 80 = .ok (.iconst 3, 1) := by decide +kernel
theorem dX6_mobileCalls_81 : decode cX6_mobileCalls 81 = .ok (.bipush 15, 2) := by decide +kernel
theorem dX6_mobileCalls_83 : decode cX6_mobileCalls 83 = .ok (.invokevirtual 64, 3) := by decide +kernel
theorem dX6_mobileCalls_86 : decode cX6_mobileCalls 86 = .ok (.istore_n 2, 1) := by decide +kernel
theorem dX6_mobileCalls_87 : decode cX6_mobileCalls 87 = .ok (.aload_n 0, 1) := by decide +kernel
theorem dX6_mobileCalls_88 : decode cX6_mobileCalls 88 = .ok (.iconst 0, 1) := by decide +kernel
theorem dX6_mobileCalls_89 : decode cX6_mobileCalls 89 = .ok (.iconst 5, 1) := by decide +kernel
theorem dX6_mobileCalls_90 : decode cX6_mobileCalls 90 = .ok (.iconst 4, 1) := by decide +kernel
theorem dX6_mobileCalls_91 : decode cX6_mobileCalls 91 = .ok (.iconst 0, 1) := by decide +kernel
theorem dX6_mobileCalls_92 : decode cX6_mobileCalls 92 = .ok (.invokevirtual 83, 3) := by decide +kernel
theorem dX6_mobileCalls_95 : decode cX6_mobileCalls 95 = .ok (.iconst 1, 1) := by decide +kernel
theorem dX6_mobileCalls_96 : decode cX6_mobileCalls 96 = .ok (.ireturn, 1) := by decide +kernel
theorem dX6_mobileCalls_97 : decode cX6_mobileCalls 97 = .ok (.aload_n 0, 1) := by decide +kernel
theorem dX6_mobileCalls_98 : decode cX6_mobileCalls 98 = .ok (.iconst 0, 1) := by decide +kernel
theorem dX6_mobileCalls_99 : decode cX6_mobileCalls 99 = .ok (.iload_n 1, 1) := by decide +kernel
theorem dX6_mobileCalls_100 : decode cX6_mobileCalls 100 = .ok (.invokevirtual 122, 3) := by decide +kernel
theorem dX6_mobileCalls_103 : decode cX6_mobileCalls 103 = .ok (.ireturn, 1) := by decide +kernel
theorem dX6_ask_0 : decode cX6_ask 0 = .ok (.aload_n 0, 1) := by decide +kernel
theorem dX6_ask_1 : decode cX6_ask 1 = .ok (.aload_n 0, 1) := by decide +kernel
theorem dX6_ask_2 : decode cX6_ask 2 = .ok (.getfield 57, 3) := by decide +kernel
theorem dX6_ask_5 : decode cX6_ask 5 = .ok (.ldc 125, 2) := by decide +kernel
theorem dX6_ask_7 : decode cX6_ask 7 = .ok (.imul, 1) := by decide +kernel
theorem dX6_ask_8 : decode cX6_ask 8 = .ok (.sipush 12345, 3) := by decide +kernel
theorem dX6_ask_11 : decode cX6_ask 11 = .ok (.iadd, 1) := by decide +kernel
theorem dX6_ask_12 : decode cX6_ask 12 = .ok (.putfield 57, 3) := by decide +kernel
theorem dX6_ask_15 : decode cX6_ask 15 = .ok (.aload_n 0, 1) := by decide +kernel
theorem dX6_ask_16 : decode cX6_ask 16 = .ok (.iconst 1, 1) := by decide +kernel
theorem dX6_ask_17 : decode cX6_ask 17 = .ok (.iconst 5, 1) := by decide +kernel
theorem dX6_ask_18 : decode cX6_ask 18 = .ok (.bipush 18, 2) := by decide +kernel
theorem dX6_ask_20 : decode cX6_ask 20 = .ok (.bipush 33, 2) := by decide +kernel
theorem dX6_ask_22 : decode cX6_ask 22 = .ok (.iconst 4, 1) := by decide +kernel
theorem dX6_ask_23 : decode cX6_ask 23 = .ok (.aload_n 0, 1) := by decide +kernel
theorem dX6_ask_24 : decode cX6_ask 24 = .ok (.getfield 57, 3) := by decide +kernel
theorem dX6_ask_27 : decode cX6_ask 27 = .ok (.invokevirtual 112, 3) := by decide +kernel
theorem dX6_ask_30 : decode cX6_ask 30 = .ok (.aload_n 0, 1) := by decide +kernel
theorem dX6_ask_31 : decode cX6_ask 31 = .ok (.iconst 1, 1) := by decide +kernel
theorem dX6_ask_32 : decode cX6_ask 32 = .ok (.iload_n 1, 1) := by decide +kernel
theorem dX6_ask_33 : decode cX6_ask 33 = .ok (.aload_n 0, 1) := by decide +kernel
theorem dX6_ask_34 : decode cX6_ask 34 = .ok (.getfield 26, 3) := by decide +kernel
theorem dX6_ask_37 : decode cX6_ask 37 = .ok (.iconst 1, 1) := by decide +kernel
theorem dX6_ask_38 : decode cX6_ask 38 = .ok (.iaload, 1) := by decide +kernel
theorem dX6_ask_39 : decode cX6_ask 39 = .ok (.bipush 12, 2) := by decide +kernel
theorem dX6_ask_41 : decode cX6_ask 41 = .ok (.invokevirtual 83, 3) := by decide +kernel
theorem dX6_ask_44 : decode cX6_ask 44 = .ok (.return_, 1) := by decide +kernel
theorem dX6_judge_0 : decode cX6_judge 0 = .ok (.bipush (-3), 2) := by decide +kernel
theorem dX6_judge_2 : decode cX6_judge 2 = .ok (.istore_n 1, 1) := by decide +kernel
theorem dX6_judge_3 : decode cX6_judge 3 = .ok (.aload_n 0, 1) := by decide +kernel
theorem dX6_judge_4 : decode cX6_judge 4 = .ok (.getfield 23, 3) := by decide +kernel
theorem dX6_judge_7 : decode cX6_judge 7 = .ok (.iconst 1, 1) := by decide +kernel
theorem dX6_judge_8 : decode cX6_judge 8 = .ok (.iaload, 1) := by decide +kernel
theorem dX6_judge_9 : decode cX6_judge 9 = .ok (.istore_n 2, 1) := by decide +kernel
theorem dX6_judge_10 : decode cX6_judge 10 = .ok (.aload_n 0, 1) := by decide +kernel
theorem dX6_judge_11 : decode cX6_judge 11 = .ok (.bipush 34, 2) := by decide +kernel
theorem dX6_judge_13 : decode cX6_judge 13 = .ok (.invokevirtual 95, 3) := by decide +kernel
theorem dX6_judge_16 : decode cX6_judge 16 = .ok (.aload_n 0, 1) := by decide +kernel
theorem dX6_judge_17 : decode cX6_judge 17 = .ok (.getfield 57, 3) := by decide +kernel
theorem dX6_judge_20 : decode cX6_judge 20 = .ok (.aload_n 0, 1) := by decide +kernel
theorem dX6_judge_21 : decode cX6_judge 21 = .ok (.getfield 54, 3) := by decide +kernel
theorem dX6_judge_24 : decode cX6_judge 24 = .ok (.invokestatic 108, 3) := by decide +kernel
theorem dX6_judge_27 : decode cX6_judge 27 = .ok (.if_icmp .eq 33, 3) := by decide +kernel
theorem dX6_judge_30 : decode cX6_judge 30 = .ok (.aload_n 0, 1) := by decide +kernel
theorem dX6_judge_31 : decode cX6_judge 31 = .ok (.iconst 1, 1) := by decide +kernel
theorem dX6_judge_32 : decode cX6_judge 32 = .ok (.iconst 5, 1) := by decide +kernel
theorem dX6_judge_33 : decode cX6_judge 33 = .ok (.bipush 17, 2) := by decide +kernel
theorem dX6_judge_35 : decode cX6_judge 35 = .ok (.invokevirtual 64, 3) := by decide +kernel
theorem dX6_judge_38 : decode cX6_judge 38 = .ok (.istore_n 1, 1) := by decide +kernel
theorem dX6_judge_39 : decode cX6_judge 39 = .ok (.aload_n 0, 1) := by decide +kernel
theorem dX6_judge_40 : decode cX6_judge 40 = .ok (.iconst (-1), 1) := by decide +kernel
theorem dX6_judge_41 : decode cX6_judge 41 = .ok (.putfield 39, 3) := by decide +kernel
theorem dX6_judge_44 : decode cX6_judge 44 = .ok (.aload_n 0, 1) := by decide +kernel
theorem dX6_judge_45 : decode cX6_judge 45 = .ok (.iconst 1, 1) := by decide +kernel
theorem dX6_judge_46 : decode cX6_judge 46 = .ok (.iconst 0, 1) := by decide +kernel
theorem dX6_judge_47 : decode cX6_judge 47 = .ok (.aload_n 0, 1) := by decide +kernel
theorem dX6_judge_48 : decode cX6_judge 48 = .ok (.getfield 26, 3) := by decide +kernel
theorem dX6_judge_51 : decode cX6_judge 51 = .ok (.iconst 1, 1) := by decide +kernel
theorem dX6_judge_52 : decode cX6_judge 52 = .ok (.iaload, 1) := by decide +kernel
theorem dX6_judge_53 : decode cX6_judge 53 = .ok (.iconst 0, 1) := by decide +kernel
theorem dX6_judge_54 : decode cX6_judge 54 = .ok (.invokevirtual 83, 3) := by decide +kernel
theorem dX6_judge_57 : decode cX6_judge 57 = .ok (.goto 132, 3) := by decide +kernel
theorem dX6_judge_60 : decode cX6_judge 60 = .ok (.iload_n 2, 1) := by decide +kernel
theorem dX6_judge_61 : decode cX6_judge 61 = .ok (.iconst 1, 1) := by decide +kernel
theorem dX6_judge_62 : decode cX6_judge 62 = .ok (.if_icmp .ne 66, 3) := by decide +kernel
theorem dX6_judge_65 : decode cX6_judge 65 = .ok (.aload_n 0, 1) := by decide +kernel
theorem dX6_judge_66 : decode cX6_judge 66 = .ok (.getfield 7, 3) := by decide +kernel
theorem dX6_judge_69 : decode cX6_judge 69 = .ok (.iconst 1, 1) := by decide +kernel
theorem dX6_judge_70 : decode cX6_judge 70 = .ok (.iand, 1) := by decide +kernel
theorem dX6_judge_71 : decode cX6_judge 71 = .ok (.iconst 1, 1) := by decide +kernel
theorem dX6_judge_72 : decode cX6_judge 72 = .ok (.if_icmp .ne 28, 3) := by decide +kernel
theorem dX6_judge_75 : decode cX6_judge 75 = .ok (.aload_n 0, 1) := by decide +kernel
theorem dX6_judge_76 : decode cX6_judge 76 = .ok (.aload_n 0, 1) := by decide +kernel
theorem dX6_judge_77 : decode cX6_judge 77 = .ok (.getfield 126, 3) := by decide +kernel
theorem dX6_judge_80 : decode cX6_judge 80 = .ok (.putfield 39, 3) := by decide +kernel
theorem dX6_judge_83 : decode cX6_judge 83 = .ok (.aload_n 0, 1) := by decide +kernel
theorem dX6_judge_84 : decode cX6_judge 84 = .ok (.iconst 1, 1) := by decide +kernel
theorem dX6_judge_85 : decode cX6_judge 85 = .ok (.iconst 5, 1) := by decide +kernel
theorem dX6_judge_86 : decode cX6_judge 86 = .ok (.iconst 2, 1) := by decide +kernel
theorem dX6_judge_87 : decode cX6_judge 87 = .ok (.bipush 19, 2) := by decide +kernel
theorem dX6_judge_89 : decode cX6_judge 89 = .ok (.iconst 2, 1) := by decide +kernel
theorem dX6_judge_90 : decode cX6_judge 90 = .ok (.aload_n 0, 1) := by decide +kernel
theorem dX6_judge_91 : decode cX6_judge 91 = .ok (.getfield 126, 3) := by decide +kernel
theorem dX6_judge_94 : decode cX6_judge 94 = .ok (.invokevirtual 112, 3) := by decide +kernel
theorem dX6_judge_97 : decode cX6_judge 97 = .ok (.goto 15, 3) := by decide +kernel
theorem dX6_judge_100 : decode cX6_judge 100 = .ok (.aload_n 0, 1) := by decide +kernel
theorem dX6_judge_101 : decode cX6_judge 101 = .ok (.iconst 1, 1) := by decide +kernel
theorem dX6_judge_102 : decode cX6_judge 102 = .ok (.iconst 5, 1) := by decide +kernel
theorem dX6_judge_103 : decode cX6_judge 103 = .ok (.iconst 4, 1) := by decide +kernel
theorem dX6_judge_104 : decode cX6_judge 104 = .ok (.bipush 8, 2) := by decide +kernel
theorem dX6_judge_106 : decode cX6_judge 106 = .ok (.iconst 1, 1) := by decide +kernel
theorem dX6_judge_107 : decode cX6_judge 107 = .ok (.bipush 11, 2) := by decide +kernel
theorem dX6_judge_109 : decode cX6_judge 109 = .ok (.invokevirtual 112, 3) := by decide +kernel
theorem dX6_judge_112 : decode cX6_judge 112 = .ok (.aload_n 0, 1) := by decide +kernel
theorem dX6_judge_113 : decode cX6_judge 113 = .ok (.iconst 1, 1) := by decide +kernel
theorem dX6_judge_114 : decode cX6_judge 114 = .ok (.iconst 0, 1) := by decide +kernel
theorem dX6_judge_115 : decode cX6_judge 115 = .ok (.aload_n 0, 1) := by decide +kernel
theorem dX6_judge_116 : decode cX6_judge 116 = .ok (.getfield 26, 3) := by decide +kernel
theorem dX6_judge_119 : decode cX6_judge 119 = .ok (.iconst 1, 1) := by decide +kernel
theorem dX6_judge_120 : decode cX6_judge 120 = .ok (.iaload, 1) := by decide +kernel
theorem dX6_judge_121 : decode cX6_judge 121 = .ok (.iconst 0, 1) := by decide +kernel
theorem dX6_judge_122 : decode cX6_judge 122 = .ok (.invokevirtual 83, 3) := by decide +kernel
theorem dX6_judge_125 : decode cX6_judge 125 = .ok (.goto 64, 3) := by decide +kernel
theorem dX6_judge_128 : decode cX6_judge 128 = .ok (.aload_n 0, 1) := by decide +kernel
theorem dX6_judge_129 : decode cX6_judge 129 = .ok (.getfield 7, 3) := by decide +kernel
theorem dX6_judge_132 : decode cX6_judge 132 = .ok (.iconst 2, 1) := by decide +kernel
theorem dX6_judge_133 : decode cX6_judge 133 = .ok (.iand, 1) := by decide +kernel
theorem dX6_judge_134 : decode cX6_judge 134 = .ok (.iconst 2, 1) := by decide +kernel
theorem dX6_judge_135 : decode cX6_judge 135 = .ok (.if_icmp .ne 28, 3) := by decide +kernel
theorem dX6_judge_138 : decode cX6_judge 138 = .ok (.aload_n 0, 1) := by decide +kernel
theorem dX6_judge_139 : decode cX6_judge 139 = .ok (.iconst 1, 1) := by decide +kernel
theorem dX6_judge_140 : decode cX6_judge 140 = .ok (.iconst 5, 1) := by decide +kernel
theorem dX6_judge_141 : decode cX6_judge 141 = .ok (.bipush 33, 2) := by decide +kernel
theorem dX6_judge_143 : decode cX6_judge 143 = .ok (.invokevirtual 64, 3) := by decide +kernel
theorem dX6_judge_146 : decode cX6_judge 146 = .ok (.istore_n 1, 1) := by decide +kernel
theorem dX6_judge_147 : decode cX6_judge 147 = .ok (.aload_n 0, 1) := by decide +kernel
theorem dX6_judge_148 : decode cX6_judge 148 = .ok (.iconst 1, 1) := by decide +kernel
theorem dX6_judge_149 : decode cX6_judge 149 = .ok (.iconst 3, 1) := by decide +kernel
theorem dX6_judge_150 : decode cX6_judge 150 = .ok (.aload_n 0, 1) := by decide +kernel
theorem dX6_judge_151 : decode cX6_judge 151 = .ok (.getfield 26, 3) := by decide +kernel
theorem dX6_judge_154 : decode cX6_judge 154 = .ok (.iconst 1, 1) := by decide +kernel
theorem dX6_judge_155 : decode cX6_judge 155 = .ok (.iaload, 1) := by decide +kernel
theorem dX6_judge_156 : decode cX6_judge 156 = .ok (.iconst 0, 1) := by decide +kernel
theorem dX6_judge_157 : decode cX6_judge 157 = .ok (.invokevirtual 83, 3) := by decide +kernel
theorem dX6_judge_160 : decode cX6_judge 160 = .ok (.goto 29, 3) := by decide +kernel
theorem dX6_judge_163 : decode cX6_judge 163 = .ok (.aload_n 0, 1) := by decide +kernel
theorem dX6_judge_164 : decode cX6_judge 164 = .ok (.iconst 1, 1) := by decide +kernel
theorem dX6_judge_165 : decode cX6_judge 165 = .ok (.iconst 5, 1) := by decide +kernel
theorem dX6_judge_166 : decode cX6_judge 166 = .ok (.bipush 34, 2) := by decide +kernel
theorem dX6_judge_168 : decode cX6_judge 168 = .ok (.bipush 8, 2) := by decide +kernel
theorem dX6_judge_170 : decode cX6_judge 170 = .ok (.iconst 1, 1) := by decide +kernel
theorem dX6_judge_171 : decode cX6_judge 171 = .ok (.bipush 32, 2) := by decide +kernel
theorem dX6_judge_173 : decode cX6_judge 173 = .ok (.invokevirtual 112, 3) := by decide +kernel
theorem dX6_judge_176 : decode cX6_judge 176 = .ok (.aload_n 0, 1) := by decide +kernel
theorem dX6_judge_177 : decode cX6_judge 177 = .ok (.iconst 1, 1) := by decide +kernel
theorem dX6_judge_178 : decode cX6_judge 178 = .ok (.iconst 0, 1) := by decide +kernel
theorem dX6_judge_179 : decode cX6_judge 179 = .ok (.aload_n 0, 1) := by decide +kernel
theorem dX6_judge_180 : decode cX6_judge 180 = .ok (.getfield 26, 3) := by decide +kernel
theorem dX6_judge_183 : decode cX6_judge 183 = .ok (.iconst 1, 1) := by decide +kernel
theorem dX6_judge_184 : decode cX6_judge 184 = .ok (.iaload, 1) := by decide +kernel
theorem dX6_judge_185 : decode cX6_judge 185 = .ok (.iconst 0, 1) := by decide +kernel
theorem dX6_judge_186 : decode cX6_judge 186 = .ok (.invokevirtual 83, 3) := by decide +kernel
theorem dX6_judge_189 : decode cX6_judge 189 = .ok (.return_, 1) := by decide +kernel
theorem dX6_networkMoves_0 : decode cX6_networkMoves 0 = .ok (.iload_n 1, 1) := by decide +kernel
theorem dX6_networkMoves_1 : decode cX6_networkMoves 1 = .ok (.lookupswitch 174 #[(1, 159), (8, 43), (20, 121), (36, 81)], 43) := by decide +kernel
theorem dX6_networkMoves_44 : decode cX6_networkMoves 44 = .ok (.aload_n 0, 1) := by decide +kernel
theorem dX6_networkMoves_45 : decode cX6_networkMoves 45 = .ok (.getfield 23, 3) := by decide +kernel
theorem dX6_networkMoves_48 : decode cX6_networkMoves 48 = .ok (.iconst 1, 1) := by decide +kernel
theorem dX6_networkMoves_49 : decode cX6_networkMoves 49 = .ok (.iaload, 1) := by decide +kernel
theorem dX6_networkMoves_50 : decode cX6_networkMoves 50 = .ok (.ifCond .ne 13, 3) := by decide +kernel
theorem dX6_networkMoves_53 : decode cX6_networkMoves 53 = .ok (.aload_n 0, 1) := by decide +kernel
theorem dX6_networkMoves_54 : decode cX6_networkMoves 54 = .ok (.bipush 19, 2) := by decide +kernel
theorem dX6_networkMoves_56 : decode cX6_networkMoves 56 = .ok (.iconst 2, 1) := by decide +kernel
theorem dX6_networkMoves_57 : decode cX6_networkMoves 57 = .ok (.invokevirtual 87, 3) := by decide +kernel
theorem dX6_networkMoves_60 : decode cX6_networkMoves 60 = .ok (.ifCond .ne 5, 3) := by decide +kernel
theorem dX6_networkMoves_63 : decode cX6_networkMoves 63 = .ok (.iconst 0, 1) := by decide +kernel
theorem dX6_networkMoves_64 : decode cX6_networkMoves 64 = .ok (.ireturn, 1) := by decide +kernel
theorem dX6_networkMoves_65 : decode cX6_networkMoves 65 = .ok (.aload_n 0, 1) := by decide +kernel
theorem dX6_networkMoves_66 : decode cX6_networkMoves 66 = .ok (.aload_n 0, 1) := by decide +kernel
theorem dX6_networkMoves_67 : decode cX6_networkMoves 67 = .ok (.bipush 19, 2) := by decide +kernel
theorem dX6_networkMoves_69 : decode cX6_networkMoves 69 = .ok (.invokevirtual 95, 3) := by decide +kernel
theorem dX6_networkMoves_72 : decode cX6_networkMoves 72 = .ok (.putfield 126, 3) := by decide +kernel
theorem dX6_networkMoves_75 : decode cX6_networkMoves 75 = .ok (.aload_n 0, 1) := by decide +kernel
theorem dX6_networkMoves_76 : decode cX6_networkMoves 76 = .ok (.iconst 1, 1) := by decide +kernel
theorem dX6_networkMoves_77 : decode cX6_networkMoves 77 = .ok (.invokevirtual 129, 3) := by decide +kernel
theorem dX6_networkMoves_80 : decode cX6_networkMoves 80 = .ok (.iconst 1, 1) := by decide +kernel
theorem dX6_networkMoves_81 : decode cX6_networkMoves 81 = .ok (.ireturn, 1) := by decide +kernel
theorem dX6_networkMoves_82 : decode cX6_networkMoves 82 = .ok (.aload_n 0, 1) := by decide +kernel
theorem dX6_networkMoves_83 : decode cX6_networkMoves 83 = .ok (.getfield 23, 3) := by decide +kernel
theorem dX6_networkMoves_86 : decode cX6_networkMoves 86 = .ok (.iconst 1, 1) := by decide +kernel
theorem dX6_networkMoves_87 : decode cX6_networkMoves 87 = .ok (.iaload, 1) := by decide +kernel
theorem dX6_networkMoves_88 : decode cX6_networkMoves 88 = .ok (.ifCond .eq 5, 3) := by decide +kernel
theorem dX6_networkMoves_91 : decode cX6_networkMoves 91 = .ok (.iconst 0, 1) := by decide +kernel
theorem dX6_networkMoves_92 : decode cX6_networkMoves 92 = .ok (.ireturn, 1) := by decide +kernel
theorem dX6_networkMoves_93 : decode cX6_networkMoves 93 = .ok (.aload_n 0, 1) := by decide +kernel
theorem dX6_networkMoves_94 : decode cX6_networkMoves 94 = .ok (.getfield 39, 3) := by decide +kernel
theorem dX6_networkMoves_97 : decode cX6_networkMoves 97 = .ok (.ifCond .ge 18, 3) := by decide +kernel
theorem dX6_networkMoves_100 : decode cX6_networkMoves 100 = .ok (.aload_n 0, 1) := by decide +kernel
theorem dX6_networkMoves_101 : decode cX6_networkMoves 101 = .ok (.iconst 1, 1) := by decide +kernel
theorem dX6_networkMoves_102 : decode cX6_networkMoves 102 = .ok (.iconst 5, 1) := by decide +kernel
theorem dX6_networkMoves_103 : decode cX6_networkMoves 103 = .ok (.bipush 34, 2) := by decide +kernel
theorem dX6_networkMoves_105 : decode cX6_networkMoves 105 = .ok (.bipush 8, 2) := by decide +kernel
theorem dX6_networkMoves_107 : decode cX6_networkMoves 107 = .ok (.iconst 1, 1) := by decide +kernel
theorem dX6_networkMoves_108 : decode cX6_networkMoves 108 = .ok (.iconst 4, 1) := by decide +kernel
theorem dX6_networkMoves_109 : decode cX6_networkMoves 109 = .ok (.invokevirtual 112, 3) := by decide +kernel
theorem dX6_networkMoves_112 : decode cX6_networkMoves 112 = .ok (.goto 8, 3) := by decide +kernel
theorem dX6_networkMoves_115 : decode cX6_networkMoves 115 = .ok (.aload_n 0, 1) := by decide +kernel
theorem dX6_networkMoves_116 : decode cX6_networkMoves 116 = .ok (.iconst 2, 1) := by decide +kernel
theorem dX6_networkMoves_117 : decode cX6_networkMoves 117 = .ok (.invokevirtual 129, 3) := by decide +kernel
theorem dX6_networkMoves_120 : decode cX6_networkMoves 120 = .ok (.iconst 1, 1) := by decide +kernel
theorem dX6_networkMoves_121 : decode cX6_networkMoves 121 = .ok (.ireturn, 1) := by decide +kernel
theorem dX6_networkMoves_122 : decode cX6_networkMoves 122 = .ok (.aload_n 0, 1) := by decide +kernel
theorem dX6_networkMoves_123 : decode cX6_networkMoves 123 = .ok (.getfield 23, 3) := by decide +kernel
theorem dX6_networkMoves_126 : decode cX6_networkMoves 126 = .ok (.iconst 1, 1) := by decide +kernel
theorem dX6_networkMoves_127 : decode cX6_networkMoves 127 = .ok (.iaload, 1) := by decide +kernel
theorem dX6_networkMoves_128 : decode cX6_networkMoves 128 = .ok (.iconst 1, 1) := by decide +kernel
theorem dX6_networkMoves_129 : decode cX6_networkMoves 129 = .ok (.if_icmp .eq 13, 3) := by decide +kernel
theorem dX6_networkMoves_132 : decode cX6_networkMoves 132 = .ok (.aload_n 0, 1) := by decide +kernel
theorem dX6_networkMoves_133 : decode cX6_networkMoves 133 = .ok (.getfield 23, 3) := by decide +kernel
theorem dX6_networkMoves_136 : decode cX6_networkMoves 136 = .ok (.iconst 1, 1) := by decide +kernel
theorem dX6_networkMoves_137 : decode cX6_networkMoves 137 = .ok (.iaload, 1) := by decide +kernel
theorem dX6_networkMoves_138 : decode cX6_networkMoves 138 = .ok (.iconst 2, 1) := by decide +kernel
theorem dX6_networkMoves_139 : decode cX6_networkMoves 139 = .ok (.if_icmp .ne 13, 3) := by decide +kernel
theorem dX6_networkMoves_142 : decode cX6_networkMoves 142 = .ok (.aload_n 0, 1) := by decide +kernel
theorem dX6_networkMoves_143 : decode cX6_networkMoves 143 = .ok (.bipush 34, 2) := by decide +kernel
theorem dX6_networkMoves_145 : decode cX6_networkMoves 145 = .ok (.iconst 4, 1) := by decide +kernel
theorem dX6_networkMoves_146 : decode cX6_networkMoves 146 = .ok (.invokevirtual 87, 3) := by decide +kernel
theorem dX6_networkMoves_149 : decode cX6_networkMoves 149 = .ok (.ifCond .ne 5, 3) := by decide +kernel
theorem dX6_networkMoves_152 : decode cX6_networkMoves 152 = .ok (.iconst 0, 1) := by decide +kernel
theorem dX6_networkMoves_153 : decode cX6_networkMoves 153 = .ok (.ireturn, 1) := by decide +kernel
theorem dX6_networkMoves_154 : decode cX6_networkMoves 154 = .ok (.aload_n 0, 1) := by decide +kernel
theorem dX6_networkMoves_155 : decode cX6_networkMoves 155 = .ok (.invokevirtual 132, 3) := by decide +kernel
theorem dX6_networkMoves_158 : decode cX6_networkMoves 158 = .ok (.iconst 1, 1) := by decide +kernel
theorem dX6_networkMoves_159 : decode cX6_networkMoves 159 = .ok (.ireturn, 1) := by decide +kernel
theorem dX6_networkMoves_160 : decode cX6_networkMoves 160 = .ok (.aload_n 0, 1) := by decide +kernel
theorem dX6_networkMoves_161 : decode cX6_networkMoves 161 = .ok (.iconst (-1), 1) := by decide +kernel
theorem dX6_networkMoves_162 : decode cX6_networkMoves 162 = .ok (.putfield 39, 3) := by decide +kernel
theorem dX6_networkMoves_165 : decode cX6_networkMoves 165 = .ok (.aload_n 0, 1) := by decide +kernel
theorem dX6_networkMoves_166 : decode cX6_networkMoves 166 = .ok (.iconst 1, 1) := by decide +kernel
theorem dX6_networkMoves_167 : decode cX6_networkMoves 167 = .ok (.iconst 0, 1) := by decide +kernel
theorem dX6_networkMoves_168 : decode cX6_networkMoves 168 = .ok (.iconst 0, 1) := by decide +kernel
theorem dX6_networkMoves_169 : decode cX6_networkMoves 169 = .ok (.iconst 0, 1) := by decide +kernel
theorem dX6_networkMoves_170 : decode cX6_networkMoves 170 = .ok (.invokevirtual 83, 3) := by decide +kernel
theorem dX6_networkMoves_173 : decode cX6_networkMoves 173 = .ok (.iconst 1, 1) := by decide +kernel
theorem dX6_networkMoves_174 : decode cX6_networkMoves 174 = .ok (.ireturn, 1) := by decide +kernel
theorem dX6_networkMoves_175 : decode cX6_networkMoves 175 = .ok (.iconst 0, 1) := by decide +kernel
theorem dX6_networkMoves_176 : decode cX6_networkMoves 176 = .ok (.ireturn, 1) := by decide +kernel
theorem dX6_networkCalls_0 : decode cX6_networkCalls 0 = .ok (.aload_n 0, 1) := by decide +kernel
theorem dX6_networkCalls_1 : decode cX6_networkCalls 1 = .ok (.getfield 23, 3) := by decide +kernel
theorem dX6_networkCalls_4 : decode cX6_networkCalls 4 = .ok (.iconst 1, 1) := by decide +kernel
theorem dX6_networkCalls_5 : decode cX6_networkCalls 5 = .ok (.iaload, 1) := by decide +kernel
theorem dX6_networkCalls_6 : decode cX6_networkCalls 6 = .ok (.iconst 3, 1) := by decide +kernel
theorem dX6_networkCalls_7 : decode cX6_networkCalls 7 = .ok (.if_icmp .eq 5, 3) := by decide +kernel
theorem dX6_networkCalls_10 : decode cX6_networkCalls 10 = .ok (.iconst 0, 1) := by decide +kernel
theorem dX6_networkCalls_11 : decode cX6_networkCalls 11 = .ok (.ireturn, 1) := by decide +kernel
theorem dX6_networkCalls_12 : decode cX6_networkCalls 12 = .ok (.aload_n 0, 1) := by decide +kernel
theorem dX6_networkCalls_13 : decode cX6_networkCalls 13 = .ok (.bipush 94, 2) := by decide +kernel
theorem dX6_networkCalls_15 : decode cX6_networkCalls 15 = .ok (.invokevirtual 75, 3) := by decide +kernel
theorem dX6_networkCalls_18 : decode cX6_networkCalls 18 = .ok (.istore_n 2, 1) := by decide +kernel
theorem dX6_networkCalls_19 : decode cX6_networkCalls 19 = .ok (.iload_n 1, 1) := by decide +kernel
theorem dX6_networkCalls_20 : decode cX6_networkCalls 20 = .ok (.iconst 5, 1) := by decide +kernel
theorem dX6_networkCalls_21 : decode cX6_networkCalls 21 = .ok (.if_icmp .ne 103, 3) := by decide +kernel
theorem dX6_networkCalls_24 : decode cX6_networkCalls 24 = .ok (.aload_n 0, 1) := by decide +kernel
theorem dX6_networkCalls_25 : decode cX6_networkCalls 25 = .ok (.getfield 26, 3) := by decide +kernel
theorem dX6_networkCalls_28 : decode cX6_networkCalls 28 = .ok (.iconst 1, 1) := by decide +kernel
theorem dX6_networkCalls_29 : decode cX6_networkCalls 29 = .ok (.iaload, 1) := by decide +kernel
theorem dX6_networkCalls_30 : decode cX6_networkCalls 30 = .ok (.ifCond .ne 94, 3) := by decide +kernel
theorem dX6_networkCalls_33 : decode cX6_networkCalls 33 = .ok (.iload_n 2, 1) := by decide +kernel
theorem dX6_networkCalls_34 : decode cX6_networkCalls 34 = .ok (.bipush (-3), 2) := by decide +kernel
theorem dX6_networkCalls_36 : decode cX6_networkCalls 36 = .ok (.if_icmp .eq 88, 3) := by decide +kernel
theorem dX6_networkCalls_39 : decode cX6_networkCalls 39 = .ok (.aload_n 0, 1) := by decide +kernel
theorem dX6_networkCalls_40 : decode cX6_networkCalls 40 = .ok (.getfield 48, 3) := by decide +kernel
theorem dX6_networkCalls_43 : decode cX6_networkCalls 43 = .ok (.iload_n 2, 1) := by decide +kernel
theorem dX6_networkCalls_44 : decode cX6_networkCalls 44 = .ok (.iconst 1, 1) := by decide +kernel
theorem dX6_networkCalls_45 : decode cX6_networkCalls 45 = .ok (.isub, 1) := by decide +kernel
theorem dX6_networkCalls_46 : decode cX6_networkCalls 46 = .ok (.iaload, 1) := by decide +kernel
theorem dX6_networkCalls_47 : decode cX6_networkCalls 47 = .ok (.iconst 1, 1) := by decide +kernel
theorem dX6_networkCalls_48 : decode cX6_networkCalls 48 = .ok (.if_icmp .lt 76, 3) := by decide +kernel
theorem dX6_networkCalls_51 : decode cX6_networkCalls 51 = .ok (.aload_n 0, 1) := by decide +kernel
theorem dX6_networkCalls_52 : decode cX6_networkCalls 52 = .ok (.getfield 48, 3) := by decide +kernel
theorem dX6_networkCalls_55 : decode cX6_networkCalls 55 = .ok (.iload_n 2, 1) := by decide +kernel
theorem dX6_networkCalls_56 : decode cX6_networkCalls 56 = .ok (.iconst 1, 1) := by decide +kernel
theorem dX6_networkCalls_57 : decode cX6_networkCalls 57 = .ok (.isub, 1) := by decide +kernel
theorem dX6_networkCalls_58 : decode cX6_networkCalls 58 = .ok (.iaload, 1) := by decide +kernel
theorem dX6_networkCalls_59 : decode cX6_networkCalls 59 = .ok (.bipush 8, 2) := by decide +kernel
theorem dX6_networkCalls_61 : decode cX6_networkCalls 61 = .ok (.if_icmp .gt 63, 3) := by decide +kernel
theorem dX6_networkCalls_64 : decode cX6_networkCalls 64 = .ok (.aload_n 0, 1) := by decide +kernel
theorem dX6_networkCalls_65 : decode cX6_networkCalls 65 = .ok (.aload_n 0, 1) := by decide +kernel
theorem dX6_networkCalls_66 : decode cX6_networkCalls 66 = .ok (.getfield 48, 3) := by decide +kernel
theorem dX6_networkCalls_69 : decode cX6_networkCalls 69 = .ok (.iload_n 2, 1) := by decide +kernel
theorem dX6_networkCalls_70 : decode cX6_networkCalls 70 = .ok (.iconst 1, 1) := by decide +kernel
theorem dX6_networkCalls_71 : decode cX6_networkCalls 71 = .ok (.isub, 1) := by decide +kernel
theorem dX6_networkCalls_72 : decode cX6_networkCalls 72 = .ok (.iaload, 1) := by decide +kernel
theorem dX6_networkCalls_73 : decode cX6_networkCalls 73 = .ok (.putfield 135, 3) := by decide +kernel
theorem dX6_networkCalls_76 : decode cX6_networkCalls 76 = .ok (.iconst 0, 1) := by decide +kernel
theorem dX6_networkCalls_77 : decode cX6_networkCalls 77 = .ok (.istore_n 3, 1) := by decide +kernel
theorem dX6_networkCalls_78 : decode cX6_networkCalls 78 = .ok (.iload_n 3, 1) := by decide +kernel
theorem dX6_networkCalls_79 : decode cX6_networkCalls 79 = .ok (.aload_n 0, 1) := by decide +kernel
theorem dX6_networkCalls_80 : decode cX6_networkCalls 80 = .ok (.getfield 135, 3) := by decide +kernel
theorem dX6_networkCalls_83 : decode cX6_networkCalls 83 = .ok (.if_icmp .ge 23, 3) := by decide +kernel
theorem dX6_networkCalls_86 : decode cX6_networkCalls 86 = .ok (.aload_n 0, 1) := by decide +kernel
theorem dX6_networkCalls_87 : decode cX6_networkCalls 87 = .ok (.getfield 45, 3) := by decide +kernel
theorem dX6_networkCalls_90 : decode cX6_networkCalls 90 = .ok (.iload_n 3, 1) := by decide +kernel
theorem dX6_networkCalls_91 : decode cX6_networkCalls 91 = .ok (.aload_n 0, 1) := by decide +kernel
theorem dX6_networkCalls_92 : decode cX6_networkCalls 92 = .ok (.getfield 48, 3) := by decide +kernel
theorem dX6_networkCalls_95 : decode cX6_networkCalls 95 = .ok (.iload_n 2, 1) := by decide +kernel
theorem dX6_networkCalls_96 : decode cX6_networkCalls 96 = .ok (.iload_n 3, 1) := by decide +kernel
theorem dX6_networkCalls_97 : decode cX6_networkCalls 97 = .ok (.iadd, 1) := by decide +kernel
theorem dX6_networkCalls_98 : decode cX6_networkCalls 98 = .ok (.iaload, 1) := by decide +kernel
theorem dX6_networkCalls_99 : decode cX6_networkCalls 99 = .ok (.iastore, 1) := by decide +kernel
theorem dX6_networkCalls_100 : decode cX6_networkCalls 100 = .ok (.iinc 3 1, 3) := by decide +kernel
theorem dX6_networkCalls_103 : decode cX6_networkCalls 103 = .ok (.goto (-25), 3) := by decide +kernel
theorem dX6_networkCalls_106 : decode cX6_networkCalls 106 = .ok (.aload_n 0, 1) := by decide +kernel
theorem dX6_networkCalls_107 : decode cX6_networkCalls 107 = .ok (.iconst 1, 1) := by decide +kernel
theorem dX6_networkCalls_108 : decode cX6_networkCalls 108 = .ok (.iconst 3, 1) := by decide +kernel
theorem dX6_networkCalls_109 : decode cX6_networkCalls 109 = .ok (.iconst 2, 1) := by decide +kernel
theorem dX6_networkCalls_110 : decode cX6_networkCalls 110 = .ok (.invokevirtual 64, 3) := by decide +kernel
theorem dX6_networkCalls_113 : decode cX6_networkCalls 113 = .ok (.istore_n 3, 1) := by decide +kernel
theorem dX6_networkCalls_114 : decode cX6_networkCalls 114 = .ok (.aload_n 0, 1) := by decide +kernel
theorem dX6_networkCalls_115 : decode cX6_networkCalls 115 = .ok (.iconst 1, 1) := by decide +kernel
theorem dX6_networkCalls_116 : decode cX6_networkCalls 116 = .ok (.iconst 3, 1) := by decide +kernel
theorem dX6_networkCalls_117 : decode cX6_networkCalls 117 = .ok (.iconst 1, 1) := by decide +kernel
theorem dX6_networkCalls_118 : decode cX6_networkCalls 118 = .ok (.iconst 0, 1) := by decide +kernel
theorem dX6_networkCalls_119 : decode cX6_networkCalls 119 = .ok (.invokevirtual 83, 3) := by decide +kernel
theorem dX6_networkCalls_122 : decode cX6_networkCalls 122 = .ok (.iconst 1, 1) := by decide +kernel
theorem dX6_networkCalls_123 : decode cX6_networkCalls 123 = .ok (.ireturn, 1) := by decide +kernel
theorem dX6_networkCalls_124 : decode cX6_networkCalls 124 = .ok (.iload_n 1, 1) := by decide +kernel
theorem dX6_networkCalls_125 : decode cX6_networkCalls 125 = .ok (.bipush 15, 2) := by decide +kernel
theorem dX6_networkCalls_127 : decode cX6_networkCalls 127 = .ok (.if_icmp .ne 23, 3) := by decide +kernel
theorem dX6_networkCalls_130 : decode cX6_networkCalls 130 = .ok (.aload_n 0, 1) := by decide +kernel
theorem dX6_networkCalls_131 : decode cX6_networkCalls 131 = .ok (.getfield 26, 3) := by decide +kernel
theorem dX6_networkCalls_134 : decode cX6_networkCalls 134 = .ok (.iconst 1, 1) := by decide +kernel
theorem dX6_networkCalls_135 : decode cX6_networkCalls 135 = .ok (.iaload, 1) := by decide +kernel
theorem dX6_networkCalls_136 : decode cX6_networkCalls 136 = .ok (.iconst 3, 1) := by decide +kernel
theorem dX6_networkCalls_137 : decode cX6_networkCalls 137 = .ok (.if_icmp .ne 13, 3) := by decide +kernel
theorem dX6_networkCalls_140 : decode cX6_networkCalls 140 = .ok (.aload_n 0, 1) := by decide +kernel
theorem dX6_networkCalls_141 : decode cX6_networkCalls 141 = .ok (.iconst 1, 1) := by decide +kernel
theorem dX6_networkCalls_142 : decode cX6_networkCalls 142 = .ok (.iconst 3, 1) := by decide +kernel
theorem dX6_networkCalls_143 : decode cX6_networkCalls 143 = .ok (.iconst 4, 1) := by decide +kernel
theorem dX6_networkCalls_144 : decode cX6_networkCalls 144 = .ok (.iconst 0, 1) := by decide +kernel
theorem dX6_networkCalls_145 : decode cX6_networkCalls 145 = .ok (.invokevirtual 83, 3) := by decide +kernel
theorem dX6_networkCalls_148 : decode cX6_networkCalls 148 = .ok (.iconst 1, 1) := by decide +kernel
theorem dX6_networkCalls_149 : decode cX6_networkCalls 149 = .ok (.ireturn, 1) := by decide +kernel
theorem dX6_networkCalls_150 : decode cX6_networkCalls 150 = .ok (.aload_n 0, 1) := by decide +kernel
theorem dX6_networkCalls_151 : decode cX6_networkCalls 151 = .ok (.iconst 1, 1) := by decide +kernel
theorem dX6_networkCalls_152 : decode cX6_networkCalls 152 = .ok (.iload_n 1, 1) := by decide +kernel
theorem dX6_networkCalls_153 : decode cX6_networkCalls 153 = .ok (.invokevirtual 122, 3) := by decide +kernel
theorem dX6_networkCalls_156 : decode cX6_networkCalls 156 = .ok (.ireturn, 1) := by decide +kernel
theorem dX6_out_0 : decode cX6_out 0 = .ok (.bipush (-3), 2) := by decide +kernel
theorem dX6_out_2 : decode cX6_out 2 = .ok (.istore_n 2, 1) := by decide +kernel
theorem dX6_out_3 : decode cX6_out 3 = .ok (.aload_n 0, 1) := by decide +kernel
theorem dX6_out_4 : decode cX6_out 4 = .ok (.getfield 26, 3) := by decide +kernel
theorem dX6_out_7 : decode cX6_out 7 = .ok (.iload_n 1, 1) := by decide +kernel
theorem dX6_out_8 : decode cX6_out 8 = .ok (.iaload, 1) := by decide +kernel
theorem dX6_out_9 : decode cX6_out 9 = .ok (.iconst 5, 1) := by decide +kernel
theorem dX6_out_10 : decode cX6_out 10 = .ok (.if_icmp .ne 11, 3) := by decide +kernel
theorem dX6_out_13 : decode cX6_out 13 = .ok (.aload_n 0, 1) := by decide +kernel
theorem dX6_out_14 : decode cX6_out 14 = .ok (.iload_n 1, 1) := by decide +kernel
theorem dX6_out_15 : decode cX6_out 15 = .ok (.invokevirtual 98, 3) := by decide +kernel
theorem dX6_out_18 : decode cX6_out 18 = .ok (.goto 229, 3) := by decide +kernel
theorem dX6_out_21 : decode cX6_out 21 = .ok (.aload_n 0, 1) := by decide +kernel
theorem dX6_out_22 : decode cX6_out 22 = .ok (.getfield 26, 3) := by decide +kernel
theorem dX6_out_25 : decode cX6_out 25 = .ok (.iload_n 1, 1) := by decide +kernel
theorem dX6_out_26 : decode cX6_out 26 = .ok (.iaload, 1) := by decide +kernel
theorem dX6_out_27 : decode cX6_out 27 = .ok (.bipush 6, 2) := by decide +kernel
theorem dX6_out_29 : decode cX6_out 29 = .ok (.if_icmp .ne 43, 3) := by decide +kernel
theorem dX6_out_32 : decode cX6_out 32 = .ok (.aload_n 0, 1) := by decide +kernel
theorem dX6_out_33 : decode cX6_out 33 = .ok (.getfield 32, 3) := by decide +kernel
theorem dX6_out_36 : decode cX6_out 36 = .ok (.iload_n 1, 1) := by decide +kernel
theorem dX6_out_37 : decode cX6_out 37 = .ok (.baload, 1) := by decide +kernel
theorem dX6_out_38 : decode cX6_out 38 = .ok (.ifCond .ne 34, 3) := by decide +kernel
theorem dX6_out_41 : decode cX6_out 41 = .ok (.aload_n 0, 1) := by decide +kernel
theorem dX6_out_42 : decode cX6_out 42 = .ok (.aload_n 0, 1) := by decide +kernel
theorem dX6_out_43 : decode cX6_out 43 = .ok (.iload_n 1, 1) := by decide +kernel
theorem dX6_out_44 : decode cX6_out 44 = .ok (.invokevirtual 80, 3) := by decide +kernel
theorem dX6_out_47 : decode cX6_out 47 = .ok (.iconst 3, 1) := by decide +kernel
theorem dX6_out_48 : decode cX6_out 48 = .ok (.bipush 45, 2) := by decide +kernel
theorem dX6_out_50 : decode cX6_out 50 = .ok (.invokevirtual 64, 3) := by decide +kernel
theorem dX6_out_53 : decode cX6_out 53 = .ok (.istore_n 2, 1) := by decide +kernel
theorem dX6_out_54 : decode cX6_out 54 = .ok (.aload_n 0, 1) := by decide +kernel
theorem dX6_out_55 : decode cX6_out 55 = .ok (.getfield 32, 3) := by decide +kernel
theorem dX6_out_58 : decode cX6_out 58 = .ok (.iload_n 1, 1) := by decide +kernel
theorem dX6_out_59 : decode cX6_out 59 = .ok (.iconst 1, 1) := by decide +kernel
theorem dX6_out_60 : decode cX6_out 60 = .ok (.bastore, 1) := by decide +kernel
theorem dX6_out_61 : decode cX6_out 61 = .ok (.aload_n 0, 1) := by decide +kernel
theorem dX6_out_62 : decode cX6_out 62 = .ok (.getfield 29, 3) := by decide +kernel
theorem dX6_out_65 : decode cX6_out 65 = .ok (.iload_n 1, 1) := by decide +kernel
theorem dX6_out_66 : decode cX6_out 66 = .ok (.bipush 30, 2) := by decide +kernel
theorem dX6_out_68 : decode cX6_out 68 = .ok (.iastore, 1) := by decide +kernel
theorem dX6_out_69 : decode cX6_out 69 = .ok (.goto 178, 3) := by decide +kernel
theorem dX6_out_72 : decode cX6_out 72 = .ok (.aload_n 0, 1) := by decide +kernel
theorem dX6_out_73 : decode cX6_out 73 = .ok (.getfield 26, 3) := by decide +kernel
theorem dX6_out_76 : decode cX6_out 76 = .ok (.iload_n 1, 1) := by decide +kernel
theorem dX6_out_77 : decode cX6_out 77 = .ok (.iaload, 1) := by decide +kernel
theorem dX6_out_78 : decode cX6_out 78 = .ok (.bipush 6, 2) := by decide +kernel
theorem dX6_out_80 : decode cX6_out 80 = .ok (.if_icmp .ne 18, 3) := by decide +kernel
theorem dX6_out_83 : decode cX6_out 83 = .ok (.aload_n 0, 1) := by decide +kernel
theorem dX6_out_84 : decode cX6_out 84 = .ok (.iload_n 1, 1) := by decide +kernel
theorem dX6_out_85 : decode cX6_out 85 = .ok (.aload_n 0, 1) := by decide +kernel
theorem dX6_out_86 : decode cX6_out 86 = .ok (.iload_n 1, 1) := by decide +kernel
theorem dX6_out_87 : decode cX6_out 87 = .ok (.invokevirtual 102, 3) := by decide +kernel
theorem dX6_out_90 : decode cX6_out 90 = .ok (.iconst 0, 1) := by decide +kernel
theorem dX6_out_91 : decode cX6_out 91 = .ok (.iconst 0, 1) := by decide +kernel
theorem dX6_out_92 : decode cX6_out 92 = .ok (.invokevirtual 83, 3) := by decide +kernel
theorem dX6_out_95 : decode cX6_out 95 = .ok (.goto 152, 3) := by decide +kernel
theorem dX6_out_98 : decode cX6_out 98 = .ok (.iload_n 1, 1) := by decide +kernel
theorem dX6_out_99 : decode cX6_out 99 = .ok (.ifCond .ne 33, 3) := by decide +kernel
theorem dX6_out_102 : decode cX6_out 102 = .ok (.aload_n 0, 1) := by decide +kernel
theorem dX6_out_103 : decode cX6_out 103 = .ok (.getfield 26, 3) := by decide +kernel
theorem dX6_out_106 : decode cX6_out 106 = .ok (.iconst 0, 1) := by decide +kernel
theorem dX6_out_107 : decode cX6_out 107 = .ok (.iaload, 1) := by decide +kernel
theorem dX6_out_108 : decode cX6_out 108 = .ok (.iconst 1, 1) := by decide +kernel
theorem dX6_out_109 : decode cX6_out 109 = .ok (.if_icmp .ne 23, 3) := by decide +kernel
theorem dX6_out_112 : decode cX6_out 112 = .ok (.aload_n 0, 1) := by decide +kernel
theorem dX6_out_113 : decode cX6_out 113 = .ok (.iconst 0, 1) := by decide +kernel
theorem dX6_out_114 : decode cX6_out 114 = .ok (.iconst 3, 1) := by decide +kernel
theorem dX6_out_115 : decode cX6_out 115 = .ok (.bipush 42, 2) := by decide +kernel
theorem dX6_out_117 : decode cX6_out 117 = .ok (.invokevirtual 64, 3) := by decide +kernel
theorem dX6_out_120 : decode cX6_out 120 = .ok (.istore_n 2, 1) := by decide +kernel
theorem dX6_out_121 : decode cX6_out 121 = .ok (.aload_n 0, 1) := by decide +kernel
theorem dX6_out_122 : decode cX6_out 122 = .ok (.iconst 0, 1) := by decide +kernel
theorem dX6_out_123 : decode cX6_out 123 = .ok (.iconst 3, 1) := by decide +kernel
theorem dX6_out_124 : decode cX6_out 124 = .ok (.iconst 0, 1) := by decide +kernel
theorem dX6_out_125 : decode cX6_out 125 = .ok (.iconst 0, 1) := by decide +kernel
theorem dX6_out_126 : decode cX6_out 126 = .ok (.invokevirtual 83, 3) := by decide +kernel
theorem dX6_out_129 : decode cX6_out 129 = .ok (.goto 118, 3) := by decide +kernel
theorem dX6_out_132 : decode cX6_out 132 = .ok (.iload_n 1, 1) := by decide +kernel
theorem dX6_out_133 : decode cX6_out 133 = .ok (.ifCond .ne 52, 3) := by decide +kernel
theorem dX6_out_136 : decode cX6_out 136 = .ok (.aload_n 0, 1) := by decide +kernel
theorem dX6_out_137 : decode cX6_out 137 = .ok (.iconst 0, 1) := by decide +kernel
theorem dX6_out_138 : decode cX6_out 138 = .ok (.aload_n 0, 1) := by decide +kernel
theorem dX6_out_139 : decode cX6_out 139 = .ok (.getfield 23, 3) := by decide +kernel
theorem dX6_out_142 : decode cX6_out 142 = .ok (.iconst 0, 1) := by decide +kernel
theorem dX6_out_143 : decode cX6_out 143 = .ok (.iaload, 1) := by decide +kernel
theorem dX6_out_144 : decode cX6_out 144 = .ok (.iconst 2, 1) := by decide +kernel
theorem dX6_out_145 : decode cX6_out 145 = .ok (.if_icmp .ne 7, 3) := by decide +kernel
theorem dX6_out_148 : decode cX6_out 148 = .ok (.iconst 1, 1) := by decide +kernel
theorem dX6_out_149 : decode cX6_out 149 = .ok (.goto 23, 3) := by decide +kernel
theorem dX6_out_152 : decode cX6_out 152 = .ok (.aload_n 0, 1) := by decide +kernel
theorem dX6_out_153 : decode cX6_out 153 = .ok (.getfield 23, 3) := by decide +kernel
theorem dX6_out_156 : decode cX6_out 156 = .ok (.iconst 0, 1) := by decide +kernel
theorem dX6_out_157 : decode cX6_out 157 = .ok (.iaload, 1) := by decide +kernel
theorem dX6_out_158 : decode cX6_out 158 = .ok (.iconst 4, 1) := by decide +kernel
theorem dX6_out_159 : decode cX6_out 159 = .ok (.if_icmp .ne 7, 3) := by decide +kernel
theorem dX6_out_162 : decode cX6_out 162 = .ok (.iconst 3, 1) := by decide +kernel
theorem dX6_out_163 : decode cX6_out 163 = .ok (.goto 9, 3) := by decide +kernel
theorem dX6_out_166 : decode cX6_out 166 = .ok (.aload_n 0, 1) := by decide +kernel
theorem dX6_out_167 : decode cX6_out 167 = .ok (.getfield 23, 3) := by decide +kernel
theorem dX6_out_170 : decode cX6_out 170 = .ok (.iconst 0, 1) := by decide +kernel
theorem dX6_out_171 : decode cX6_out 171 = .ok (.iaload, 1) := by decide +kernel
theorem dX6_out_172 : decode cX6_out 172 = .ok (.aload_n 0, 1) := by decide +kernel
theorem dX6_out_173 : decode cX6_out 173 = .ok (.getfield 26, 3) := by decide +kernel
theorem dX6_out_176 : decode cX6_out 176 = .ok (.iconst 0, 1) := by decide +kernel
theorem dX6_out_177 : decode cX6_out 177 = .ok (.iaload, 1) := by decide +kernel
theorem dX6_out_178 : decode cX6_out 178 = .ok (.iconst 0, 1) := by decide +kernel
theorem dX6_out_179 : decode cX6_out 179 = .ok (.invokevirtual 83, 3) := by decide +kernel
theorem dX6_out_182 : decode cX6_out 182 = .ok (.goto 65, 3) := by decide +kernel
theorem dX6_out_185 : decode cX6_out 185 = .ok (.aload_n 0, 1) := by decide +kernel
theorem dX6_out_186 : decode cX6_out 186 = .ok (.getfield 26, 3) := by decide +kernel
theorem dX6_out_189 : decode cX6_out 189 = .ok (.iconst 1, 1) := by decide +kernel
theorem dX6_out_190 : decode cX6_out 190 = .ok (.iaload, 1) := by decide +kernel
theorem dX6_out_191 : decode cX6_out 191 = .ok (.iconst 3, 1) := by decide +kernel
theorem dX6_out_192 : decode cX6_out 192 = .ok (.if_icmp .ne 28, 3) := by decide +kernel
theorem dX6_out_195 : decode cX6_out 195 = .ok (.aload_n 0, 1) := by decide +kernel
theorem dX6_out_196 : decode cX6_out 196 = .ok (.iconst 1, 1) := by decide +kernel
theorem dX6_out_197 : decode cX6_out 197 = .ok (.iconst 3, 1) := by decide +kernel
theorem dX6_out_198 : decode cX6_out 198 = .ok (.bipush 37, 2) := by decide +kernel
theorem dX6_out_200 : decode cX6_out 200 = .ok (.bipush 8, 2) := by decide +kernel
theorem dX6_out_202 : decode cX6_out 202 = .ok (.iconst 1, 1) := by decide +kernel
theorem dX6_out_203 : decode cX6_out 203 = .ok (.bipush 102, 2) := by decide +kernel
theorem dX6_out_205 : decode cX6_out 205 = .ok (.invokevirtual 112, 3) := by decide +kernel
theorem dX6_out_208 : decode cX6_out 208 = .ok (.aload_n 0, 1) := by decide +kernel
theorem dX6_out_209 : decode cX6_out 209 = .ok (.iconst 1, 1) := by decide +kernel
theorem dX6_out_210 : decode cX6_out 210 = .ok (.iconst 3, 1) := by decide +kernel
theorem dX6_out_211 : decode cX6_out 211 = .ok (.iconst 5, 1) := by decide +kernel
theorem dX6_out_212 : decode cX6_out 212 = .ok (.bipush 30, 2) := by decide +kernel
theorem dX6_out_214 : decode cX6_out 214 = .ok (.invokevirtual 83, 3) := by decide +kernel
theorem dX6_out_217 : decode cX6_out 217 = .ok (.goto 30, 3) := by decide +kernel
theorem dX6_out_220 : decode cX6_out 220 = .ok (.aload_n 0, 1) := by decide +kernel
theorem dX6_out_221 : decode cX6_out 221 = .ok (.iconst 1, 1) := by decide +kernel
theorem dX6_out_222 : decode cX6_out 222 = .ok (.aload_n 0, 1) := by decide +kernel
theorem dX6_out_223 : decode cX6_out 223 = .ok (.getfield 23, 3) := by decide +kernel
theorem dX6_out_226 : decode cX6_out 226 = .ok (.iconst 1, 1) := by decide +kernel
theorem dX6_out_227 : decode cX6_out 227 = .ok (.iaload, 1) := by decide +kernel
theorem dX6_out_228 : decode cX6_out 228 = .ok (.iconst 3, 1) := by decide +kernel
theorem dX6_out_229 : decode cX6_out 229 = .ok (.if_icmp .ne 7, 3) := by decide +kernel
theorem dX6_out_232 : decode cX6_out 232 = .ok (.iconst 3, 1) := by decide +kernel
theorem dX6_out_233 : decode cX6_out 233 = .ok (.goto 4, 3) := by decide +kernel
theorem dX6_out_236 : decode cX6_out 236 = .ok (.iconst 0, 1) := by decide +kernel
theorem dX6_out_237 : decode cX6_out 237 = .ok (.aload_n 0, 1) := by decide +kernel
theorem dX6_out_238 : decode cX6_out 238 = .ok (.getfield 26, 3) := by decide +kernel
theorem dX6_out_241 : decode cX6_out 241 = .ok (.iconst 1, 1) := by decide +kernel
theorem dX6_out_242 : decode cX6_out 242 = .ok (.iaload, 1) := by decide +kernel
theorem dX6_out_243 : decode cX6_out 243 = .ok (.iconst 0, 1) := by decide +kernel
theorem dX6_out_244 : decode cX6_out 244 = .ok (.invokevirtual 83, 3) := by decide +kernel
theorem dX6_out_247 : decode cX6_out 247 = .ok (.return_, 1) := by decide +kernel
theorem dX6_tick_0 : decode cX6_tick 0 = .ok (.iload_n 1, 1) := by decide +kernel
theorem dX6_tick_1 : decode cX6_tick 1 = .ok (.iconst 1, 1) := by decide +kernel
theorem dX6_tick_2 : decode cX6_tick 2 = .ok (.if_icmp .lt 9, 3) := by decide +kernel
theorem dX6_tick_5 : decode cX6_tick 5 = .ok (.iload_n 1, 1) := by decide +kernel
theorem dX6_tick_6 : decode cX6_tick 6 = .ok (.bipush 100, 2) := by decide +kernel
theorem dX6_tick_8 : decode cX6_tick 8 = .ok (.if_icmp .le 5, 3) := by decide +kernel
theorem dX6_tick_11 : decode cX6_tick 11 = .ok (.iconst (-1), 1) := by decide +kernel
theorem dX6_tick_12 : decode cX6_tick 12 = .ok (.ireturn, 1) := by decide +kernel
theorem dX6_tick_13 : decode cX6_tick 13 = .ok (.iconst 0, 1) := by decide +kernel
theorem dX6_tick_14 : decode cX6_tick 14 = .ok (.istore_n 2, 1) := by decide +kernel
theorem dX6_tick_15 : decode cX6_tick 15 = .ok (.iconst 0, 1) := by decide +kernel
theorem dX6_tick_16 : decode cX6_tick 16 = .ok (.istore_n 3, 1) := by decide +kernel
theorem dX6_tick_17 : decode cX6_tick 17 = .ok (.iload_n 3, 1) := by decide +kernel
theorem dX6_tick_18 : decode cX6_tick 18 = .ok (.iload_n 1, 1) := by decide +kernel
theorem dX6_tick_19 : decode cX6_tick 19 = .ok (.if_icmp .ge 64, 3) := by decide +kernel
theorem dX6_tick_22 : decode cX6_tick 22 = .ok (.iconst 0, 1) := by decide +kernel
theorem dX6_tick_23 : decode cX6_tick 23 = .ok (.istore 4, 2) := by decide +kernel
theorem dX6_tick_25 : decode cX6_tick 25 = .ok (.iload 4, 2) := by decide +kernel
theorem dX6_tick_27 : decode cX6_tick 27 = .ok (.iconst 2, 1) := by decide +kernel
theorem dX6_tick_28 : decode cX6_tick 28 = .ok (.if_icmp .ge 49, 3) := by decide +kernel
theorem dX6_tick_31 : decode cX6_tick 31 = .ok (.aload_n 0, 1) := by decide +kernel
theorem dX6_tick_32 : decode cX6_tick 32 = .ok (.getfield 29, 3) := by decide +kernel
theorem dX6_tick_35 : decode cX6_tick 35 = .ok (.iload 4, 2) := by decide +kernel
theorem dX6_tick_37 : decode cX6_tick 37 = .ok (.iaload, 1) := by decide +kernel
theorem dX6_tick_38 : decode cX6_tick 38 = .ok (.ifCond .le 33, 3) := by decide +kernel
theorem dX6_tick_41 : decode cX6_tick 41 = .ok (.aload_n 0, 1) := by decide +kernel
theorem dX6_tick_42 : decode cX6_tick 42 = .ok (.getfield 29, 3) := by decide +kernel
theorem dX6_tick_45 : decode cX6_tick 45 = .ok (.iload 4, 2) := by decide +kernel
theorem dX6_tick_47 : decode cX6_tick 47 = .ok (.dup2, 1) := by decide +kernel
theorem dX6_tick_48 : decode cX6_tick 48 = .ok (.iaload, 1) := by decide +kernel
theorem dX6_tick_49 : decode cX6_tick 49 = .ok (.iconst 1, 1) := by decide +kernel
theorem dX6_tick_50 : decode cX6_tick 50 = .ok (.isub, 1) := by decide +kernel
theorem dX6_tick_51 : decode cX6_tick 51 = .ok (.iastore, 1) := by decide +kernel
theorem dX6_tick_52 : decode cX6_tick 52 = .ok (.aload_n 0, 1) := by decide +kernel
theorem dX6_tick_53 : decode cX6_tick 53 = .ok (.getfield 29, 3) := by decide +kernel
theorem dX6_tick_56 : decode cX6_tick 56 = .ok (.iload 4, 2) := by decide +kernel
theorem dX6_tick_58 : decode cX6_tick 58 = .ok (.iaload, 1) := by decide +kernel
theorem dX6_tick_59 : decode cX6_tick 59 = .ok (.ifCond .ne 12, 3) := by decide +kernel
theorem dX6_tick_62 : decode cX6_tick 62 = .ok (.iinc 2 1, 3) := by decide +kernel
theorem dX6_tick_65 : decode cX6_tick 65 = .ok (.aload_n 0, 1) := by decide +kernel
theorem dX6_tick_66 : decode cX6_tick 66 = .ok (.iload 4, 2) := by decide +kernel
theorem dX6_tick_68 : decode cX6_tick 68 = .ok (.invokevirtual 138, 3) := by decide +kernel
theorem dX6_tick_71 : decode cX6_tick 71 = .ok (.iinc 4 1, 3) := by decide +kernel
theorem dX6_tick_74 : decode cX6_tick 74 = .ok (.goto (-49), 3) := by decide +kernel
theorem dX6_tick_77 : decode cX6_tick 77 = .ok (.iinc 3 1, 3) := by decide +kernel
theorem dX6_tick_80 : decode cX6_tick 80 = .ok (.goto (-63), 3) := by decide +kernel
theorem dX6_tick_83 : decode cX6_tick 83 = .ok (.iload_n 2, 1) := by decide +kernel
theorem dX6_tick_84 : decode cX6_tick 84 = .ok (.ireturn, 1) := by decide +kernel
theorem dX6_power_0 : decode cX6_power 0 = .ok (.iload_n 1, 1) := by decide +kernel
theorem dX6_power_1 : decode cX6_power 1 = .ok (.aload_n 0, 1) := by decide +kernel
theorem dX6_power_2 : decode cX6_power 2 = .ok (.getfield 23, 3) := by decide +kernel
theorem dX6_power_5 : decode cX6_power 5 = .ok (.iconst 0, 1) := by decide +kernel
theorem dX6_power_6 : decode cX6_power 6 = .ok (.iaload, 1) := by decide +kernel
theorem dX6_power_7 : decode cX6_power 7 = .ok (.ifCond .eq 7, 3) := by decide +kernel
theorem dX6_power_10 : decode cX6_power 10 = .ok (.iconst 1, 1) := by decide +kernel
theorem dX6_power_11 : decode cX6_power 11 = .ok (.goto 4, 3) := by decide +kernel
theorem dX6_power_14 : decode cX6_power 14 = .ok (.iconst 0, 1) := by decide +kernel
theorem dX6_power_15 : decode cX6_power 15 = .ok (.if_icmp .ne 6, 3) := by decide +kernel
theorem dX6_power_18 : decode cX6_power 18 = .ok (.bipush (-2), 2) := by decide +kernel
theorem dX6_power_20 : decode cX6_power 20 = .ok (.ireturn, 1) := by decide +kernel
theorem dX6_power_21 : decode cX6_power 21 = .ok (.iload_n 1, 1) := by decide +kernel
theorem dX6_power_22 : decode cX6_power 22 = .ok (.ifCond .eq 18, 3) := by decide +kernel
theorem dX6_power_25 : decode cX6_power 25 = .ok (.aload_n 0, 1) := by decide +kernel
theorem dX6_power_26 : decode cX6_power 26 = .ok (.iconst 0, 1) := by decide +kernel
theorem dX6_power_27 : decode cX6_power 27 = .ok (.putfield 105, 3) := by decide +kernel
theorem dX6_power_30 : decode cX6_power 30 = .ok (.aload_n 0, 1) := by decide +kernel
theorem dX6_power_31 : decode cX6_power 31 = .ok (.iconst 0, 1) := by decide +kernel
theorem dX6_power_32 : decode cX6_power 32 = .ok (.iconst 1, 1) := by decide +kernel
theorem dX6_power_33 : decode cX6_power 33 = .ok (.iconst 0, 1) := by decide +kernel
theorem dX6_power_34 : decode cX6_power 34 = .ok (.iconst 0, 1) := by decide +kernel
theorem dX6_power_35 : decode cX6_power 35 = .ok (.invokevirtual 83, 3) := by decide +kernel
theorem dX6_power_38 : decode cX6_power 38 = .ok (.iconst 1, 1) := by decide +kernel
theorem dX6_power_39 : decode cX6_power 39 = .ok (.ireturn, 1) := by decide +kernel
theorem dX6_power_40 : decode cX6_power 40 = .ok (.aload_n 0, 1) := by decide +kernel
theorem dX6_power_41 : decode cX6_power 41 = .ok (.iconst 0, 1) := by decide +kernel
theorem dX6_power_42 : decode cX6_power 42 = .ok (.iconst 5, 1) := by decide +kernel
theorem dX6_power_43 : decode cX6_power 43 = .ok (.iconst 1, 1) := by decide +kernel
theorem dX6_power_44 : decode cX6_power 44 = .ok (.invokevirtual 64, 3) := by decide +kernel
theorem dX6_power_47 : decode cX6_power 47 = .ok (.istore_n 2, 1) := by decide +kernel
theorem dX6_power_48 : decode cX6_power 48 = .ok (.aload_n 0, 1) := by decide +kernel
theorem dX6_power_49 : decode cX6_power 49 = .ok (.iconst 0, 1) := by decide +kernel
theorem dX6_power_50 : decode cX6_power 50 = .ok (.iconst 0, 1) := by decide +kernel
theorem dX6_power_51 : decode cX6_power 51 = .ok (.iconst 0, 1) := by decide +kernel
theorem dX6_power_52 : decode cX6_power 52 = .ok (.iconst 0, 1) := by decide +kernel
theorem dX6_power_53 : decode cX6_power 53 = .ok (.invokevirtual 83, 3) := by decide +kernel
theorem dX6_power_56 : decode cX6_power 56 = .ok (.iconst 1, 1) := by decide +kernel
theorem dX6_power_57 : decode cX6_power 57 = .ok (.ireturn, 1) := by decide +kernel
theorem dX6_update_0 : decode cX6_update 0 = .ok (.iload_n 1, 1) := by decide +kernel
theorem dX6_update_1 : decode cX6_update 1 = .ok (.ifCond .lt 9, 3) := by decide +kernel
theorem dX6_update_4 : decode cX6_update 4 = .ok (.iload_n 1, 1) := by decide +kernel
theorem dX6_update_5 : decode cX6_update 5 = .ok (.ldc 141, 2) := by decide +kernel
theorem dX6_update_7 : decode cX6_update 7 = .ok (.if_icmp .le 5, 3) := by decide +kernel
theorem dX6_update_10 : decode cX6_update 10 = .ok (.iconst (-1), 1) := by decide +kernel
theorem dX6_update_11 : decode cX6_update 11 = .ok (.ireturn, 1) := by decide +kernel
theorem dX6_update_12 : decode cX6_update 12 = .ok (.aload_n 0, 1) := by decide +kernel
theorem dX6_update_13 : decode cX6_update 13 = .ok (.getfield 23, 3) := by decide +kernel
theorem dX6_update_16 : decode cX6_update 16 = .ok (.iconst 0, 1) := by decide +kernel
theorem dX6_update_17 : decode cX6_update 17 = .ok (.iaload, 1) := by decide +kernel
theorem dX6_update_18 : decode cX6_update 18 = .ok (.iconst 1, 1) := by decide +kernel
theorem dX6_update_19 : decode cX6_update 19 = .ok (.if_icmp .eq 16, 3) := by decide +kernel
theorem dX6_update_22 : decode cX6_update 22 = .ok (.aload_n 0, 1) := by decide +kernel
theorem dX6_update_23 : decode cX6_update 23 = .ok (.getfield 23, 3) := by decide +kernel
theorem dX6_update_26 : decode cX6_update 26 = .ok (.iconst 0, 1) := by decide +kernel
theorem dX6_update_27 : decode cX6_update 27 = .ok (.iaload, 1) := by decide +kernel
theorem dX6_update_28 : decode cX6_update 28 = .ok (.iconst 3, 1) := by decide +kernel
theorem dX6_update_29 : decode cX6_update 29 = .ok (.if_icmp .eq 6, 3) := by decide +kernel
theorem dX6_update_32 : decode cX6_update 32 = .ok (.bipush (-2), 2) := by decide +kernel
theorem dX6_update_34 : decode cX6_update 34 = .ok (.ireturn, 1) := by decide +kernel
theorem dX6_update_35 : decode cX6_update 35 = .ok (.aload_n 0, 1) := by decide +kernel
theorem dX6_update_36 : decode cX6_update 36 = .ok (.iconst 0, 1) := by decide +kernel
theorem dX6_update_37 : decode cX6_update 37 = .ok (.iconst 5, 1) := by decide +kernel
theorem dX6_update_38 : decode cX6_update 38 = .ok (.bipush 8, 2) := by decide +kernel
theorem dX6_update_40 : decode cX6_update 40 = .ok (.bipush 19, 2) := by decide +kernel
theorem dX6_update_42 : decode cX6_update 42 = .ok (.iconst 2, 1) := by decide +kernel
theorem dX6_update_43 : decode cX6_update 43 = .ok (.iload_n 1, 1) := by decide +kernel
theorem dX6_update_44 : decode cX6_update 44 = .ok (.invokevirtual 112, 3) := by decide +kernel
theorem dX6_update_47 : decode cX6_update 47 = .ok (.aload_n 0, 1) := by decide +kernel
theorem dX6_update_48 : decode cX6_update 48 = .ok (.iconst 0, 1) := by decide +kernel
theorem dX6_update_49 : decode cX6_update 49 = .ok (.iconst 2, 1) := by decide +kernel
theorem dX6_update_50 : decode cX6_update 50 = .ok (.aload_n 0, 1) := by decide +kernel
theorem dX6_update_51 : decode cX6_update 51 = .ok (.getfield 26, 3) := by decide +kernel
theorem dX6_update_54 : decode cX6_update 54 = .ok (.iconst 0, 1) := by decide +kernel
theorem dX6_update_55 : decode cX6_update 55 = .ok (.iaload, 1) := by decide +kernel
theorem dX6_update_56 : decode cX6_update 56 = .ok (.bipush 20, 2) := by decide +kernel
theorem dX6_update_58 : decode cX6_update 58 = .ok (.invokevirtual 83, 3) := by decide +kernel
theorem dX6_update_61 : decode cX6_update 61 = .ok (.iconst 1, 1) := by decide +kernel
theorem dX6_update_62 : decode cX6_update 62 = .ok (.ireturn, 1) := by decide +kernel
theorem dX6_dial_0 : decode cX6_dial 0 = .ok (.iload_n 2, 1) := by decide +kernel
theorem dX6_dial_1 : decode cX6_dial 1 = .ok (.iconst 1, 1) := by decide +kernel
theorem dX6_dial_2 : decode cX6_dial 2 = .ok (.if_icmp .lt 13, 3) := by decide +kernel
theorem dX6_dial_5 : decode cX6_dial 5 = .ok (.iload_n 2, 1) := by decide +kernel
theorem dX6_dial_6 : decode cX6_dial 6 = .ok (.bipush 8, 2) := by decide +kernel
theorem dX6_dial_8 : decode cX6_dial 8 = .ok (.if_icmp .gt 7, 3) := by decide +kernel
theorem dX6_dial_11 : decode cX6_dial 11 = .ok (.iload_n 1, 1) := by decide +kernel
theorem dX6_dial_12 : decode cX6_dial 12 = .ok (.ifCond .ge 5, 3) := by decide +kernel
theorem dX6_dial_15 : decode cX6_dial 15 = .ok (.iconst (-1), 1) := by decide +kernel
theorem dX6_dial_16 : decode cX6_dial 16 = .ok (.ireturn, 1) := by decide +kernel
theorem dX6_dial_17 : decode cX6_dial 17 = .ok (.aload_n 0, 1) := by decide +kernel
theorem dX6_dial_18 : decode cX6_dial 18 = .ok (.getfield 23, 3) := by decide +kernel
theorem dX6_dial_21 : decode cX6_dial 21 = .ok (.iconst 0, 1) := by decide +kernel
theorem dX6_dial_22 : decode cX6_dial 22 = .ok (.iaload, 1) := by decide +kernel
theorem dX6_dial_23 : decode cX6_dial 23 = .ok (.iconst 3, 1) := by decide +kernel
theorem dX6_dial_24 : decode cX6_dial 24 = .ok (.if_icmp .eq 6, 3) := by decide +kernel
theorem dX6_dial_27 : decode cX6_dial 27 = .ok (.bipush (-2), 2) := by decide +kernel
theorem dX6_dial_29 : decode cX6_dial 29 = .ok (.ireturn, 1) := by decide +kernel
theorem dX6_dial_30 : decode cX6_dial 30 = .ok (.aload_n 0, 1) := by decide +kernel
theorem dX6_dial_31 : decode cX6_dial 31 = .ok (.iload_n 2, 1) := by decide +kernel
theorem dX6_dial_32 : decode cX6_dial 32 = .ok (.putfield 119, 3) := by decide +kernel
theorem dX6_dial_35 : decode cX6_dial 35 = .ok (.iload_n 1, 1) := by decide +kernel
theorem dX6_dial_36 : decode cX6_dial 36 = .ok (.istore_n 3, 1) := by decide +kernel
theorem dX6_dial_37 : decode cX6_dial 37 = .ok (.iload_n 2, 1) := by decide +kernel
theorem dX6_dial_38 : decode cX6_dial 38 = .ok (.iconst 1, 1) := by decide +kernel
theorem dX6_dial_39 : decode cX6_dial 39 = .ok (.isub, 1) := by decide +kernel
theorem dX6_dial_40 : decode cX6_dial 40 = .ok (.istore 4, 2) := by decide +kernel
theorem dX6_dial_42 : decode cX6_dial 42 = .ok (.iload 4, 2) := by decide +kernel
theorem dX6_dial_44 : decode cX6_dial 44 = .ok (.ifCond .lt 25, 3) := by decide +kernel
theorem dX6_dial_47 : decode cX6_dial 47 = .ok (.aload_n 0, 1) := by decide +kernel
theorem dX6_dial_48 : decode cX6_dial 48 = .ok (.getfield 42, 3) := by decide +kernel
theorem dX6_dial_51 : decode cX6_dial 51 = .ok (.iload 4, 2) := by decide +kernel
theorem dX6_dial_53 : decode cX6_dial 53 = .ok (.iload_n 3, 1) := by decide +kernel
theorem dX6_dial_54 : decode cX6_dial 54 = .ok (.bipush 10, 2) := by decide +kernel
theorem dX6_dial_56 : decode cX6_dial 56 = .ok (.irem, 1) := by decide +kernel
theorem dX6_dial_57 : decode cX6_dial 57 = .ok (.iastore, 1) := by decide +kernel
theorem dX6_dial_58 : decode cX6_dial 58 = .ok (.iload_n 3, 1) := by decide +kernel
theorem dX6_dial_59 : decode cX6_dial 59 = .ok (.bipush 10, 2) := by decide +kernel
theorem dX6_dial_61 : decode cX6_dial 61 = .ok (.idiv, 1) := by decide +kernel
theorem dX6_dial_62 : decode cX6_dial 62 = .ok (.istore_n 3, 1) := by decide +kernel
theorem dX6_dial_63 : decode cX6_dial 63 = .ok (.iinc 4 (-1), 3) := by decide +kernel
theorem dX6_dial_66 : decode cX6_dial 66 = .ok (.goto (-24), 3) := by decide +kernel
theorem dX6_dial_69 : decode cX6_dial 69 = .ok (.aload_n 0, 1) := by decide +kernel
theorem dX6_dial_70 : decode cX6_dial 70 = .ok (.iconst 0, 1) := by decide +kernel
theorem dX6_dial_71 : decode cX6_dial 71 = .ok (.iconst 5, 1) := by decide +kernel
theorem dX6_dial_72 : decode cX6_dial 72 = .ok (.bipush 36, 2) := by decide +kernel
theorem dX6_dial_74 : decode cX6_dial 74 = .ok (.invokevirtual 64, 3) := by decide +kernel
theorem dX6_dial_77 : decode cX6_dial 77 = .ok (.istore 4, 2) := by decide +kernel
theorem dX6_dial_79 : decode cX6_dial 79 = .ok (.aload_n 0, 1) := by decide +kernel
theorem dX6_dial_80 : decode cX6_dial 80 = .ok (.iconst 0, 1) := by decide +kernel
theorem dX6_dial_81 : decode cX6_dial 81 = .ok (.iconst 4, 1) := by decide +kernel
theorem dX6_dial_82 : decode cX6_dial 82 = .ok (.aload_n 0, 1) := by decide +kernel
theorem dX6_dial_83 : decode cX6_dial 83 = .ok (.getfield 26, 3) := by decide +kernel
theorem dX6_dial_86 : decode cX6_dial 86 = .ok (.iconst 0, 1) := by decide +kernel
theorem dX6_dial_87 : decode cX6_dial 87 = .ok (.iaload, 1) := by decide +kernel
theorem dX6_dial_88 : decode cX6_dial 88 = .ok (.bipush 15, 2) := by decide +kernel
theorem dX6_dial_90 : decode cX6_dial 90 = .ok (.invokevirtual 83, 3) := by decide +kernel
theorem dX6_dial_93 : decode cX6_dial 93 = .ok (.iconst 1, 1) := by decide +kernel
theorem dX6_dial_94 : decode cX6_dial 94 = .ok (.ireturn, 1) := by decide +kernel
theorem dX6_end_0 : decode cX6_end 0 = .ok (.aload_n 0, 1) := by decide +kernel
theorem dX6_end_1 : decode cX6_end 1 = .ok (.aload_n 0, 1) := by decide +kernel
theorem dX6_end_2 : decode cX6_end 2 = .ok (.iload_n 1, 1) := by decide +kernel
theorem dX6_end_3 : decode cX6_end 3 = .ok (.invokevirtual 80, 3) := by decide +kernel
theorem dX6_end_6 : decode cX6_end 6 = .ok (.iconst 3, 1) := by decide +kernel
theorem dX6_end_7 : decode cX6_end 7 = .ok (.bipush 37, 2) := by decide +kernel
theorem dX6_end_9 : decode cX6_end 9 = .ok (.bipush 8, 2) := by decide +kernel
theorem dX6_end_11 : decode cX6_end 11 = .ok (.iconst 1, 1) := by decide +kernel
theorem dX6_end_12 : decode cX6_end 12 = .ok (.iload_n 2, 1) := by decide +kernel
theorem dX6_end_13 : decode cX6_end 13 = .ok (.invokevirtual 112, 3) := by decide +kernel
theorem dX6_end_16 : decode cX6_end 16 = .ok (.aload_n 0, 1) := by decide +kernel
theorem dX6_end_17 : decode cX6_end 17 = .ok (.iload_n 1, 1) := by decide +kernel
theorem dX6_end_18 : decode cX6_end 18 = .ok (.aload_n 0, 1) := by decide +kernel
theorem dX6_end_19 : decode cX6_end 19 = .ok (.getfield 23, 3) := by decide +kernel
theorem dX6_end_22 : decode cX6_end 22 = .ok (.iload_n 1, 1) := by decide +kernel
theorem dX6_end_23 : decode cX6_end 23 = .ok (.iaload, 1) := by decide +kernel
theorem dX6_end_24 : decode cX6_end 24 = .ok (.iconst 5, 1) := by decide +kernel
theorem dX6_end_25 : decode cX6_end 25 = .ok (.bipush 30, 2) := by decide +kernel
theorem dX6_end_27 : decode cX6_end 27 = .ok (.invokevirtual 83, 3) := by decide +kernel
theorem dX6_end_30 : decode cX6_end 30 = .ok (.return_, 1) := by decide +kernel
theorem dX6_hang_0 : decode cX6_hang 0 = .ok (.aload_n 0, 1) := by decide +kernel
theorem dX6_hang_1 : decode cX6_hang 1 = .ok (.iconst 0, 1) := by decide +kernel
theorem dX6_hang_2 : decode cX6_hang 2 = .ok (.iconst 1, 1) := by decide +kernel
theorem dX6_hang_3 : decode cX6_hang 3 = .ok (.iconst 4, 1) := by decide +kernel
theorem dX6_hang_4 : decode cX6_hang 4 = .ok (.invokevirtual 91, 3) := by decide +kernel
theorem dX6_hang_7 : decode cX6_hang 7 = .ok (.ifCond .ne 6, 3) := by decide +kernel
theorem dX6_hang_10 : decode cX6_hang 10 = .ok (.bipush (-2), 2) := by decide +kernel
theorem dX6_hang_12 : decode cX6_hang 12 = .ok (.ireturn, 1) := by decide +kernel
theorem dX6_hang_13 : decode cX6_hang 13 = .ok (.aload_n 0, 1) := by decide +kernel
theorem dX6_hang_14 : decode cX6_hang 14 = .ok (.iconst 0, 1) := by decide +kernel
theorem dX6_hang_15 : decode cX6_hang 15 = .ok (.bipush 16, 2) := by decide +kernel
theorem dX6_hang_17 : decode cX6_hang 17 = .ok (.invokevirtual 142, 3) := by decide +kernel
theorem dX6_hang_20 : decode cX6_hang 20 = .ok (.iconst 1, 1) := by decide +kernel
theorem dX6_hang_21 : decode cX6_hang 21 = .ok (.ireturn, 1) := by decide +kernel
theorem dX6_alert_0 : decode cX6_alert 0 = .ok (.aload_n 0, 1) := by decide +kernel
theorem dX6_alert_1 : decode cX6_alert 1 = .ok (.getfield 26, 3) := by decide +kernel
theorem dX6_alert_4 : decode cX6_alert 4 = .ok (.iconst 1, 1) := by decide +kernel
theorem dX6_alert_5 : decode cX6_alert 5 = .ok (.iaload, 1) := by decide +kernel
theorem dX6_alert_6 : decode cX6_alert 6 = .ok (.iconst 1, 1) := by decide +kernel
theorem dX6_alert_7 : decode cX6_alert 7 = .ok (.if_icmp .eq 6, 3) := by decide +kernel
theorem dX6_alert_10 : decode cX6_alert 10 = .ok (.bipush (-2), 2) := by decide +kernel
theorem dX6_alert_12 : decode cX6_alert 12 = .ok (.ireturn, 1) := by decide +kernel
theorem dX6_alert_13 : decode cX6_alert 13 = .ok (.aload_n 0, 1) := by decide +kernel
theorem dX6_alert_14 : decode cX6_alert 14 = .ok (.iconst 1, 1) := by decide +kernel
theorem dX6_alert_15 : decode cX6_alert 15 = .ok (.iconst 3, 1) := by decide +kernel
theorem dX6_alert_16 : decode cX6_alert 16 = .ok (.iconst 1, 1) := by decide +kernel
theorem dX6_alert_17 : decode cX6_alert 17 = .ok (.invokevirtual 64, 3) := by decide +kernel
theorem dX6_alert_20 : decode cX6_alert 20 = .ok (.istore_n 1, 1) := by decide +kernel
theorem dX6_alert_21 : decode cX6_alert 21 = .ok (.aload_n 0, 1) := by decide +kernel
theorem dX6_alert_22 : decode cX6_alert 22 = .ok (.iconst 1, 1) := by decide +kernel
theorem dX6_alert_23 : decode cX6_alert 23 = .ok (.aload_n 0, 1) := by decide +kernel
theorem dX6_alert_24 : decode cX6_alert 24 = .ok (.getfield 23, 3) := by decide +kernel
theorem dX6_alert_27 : decode cX6_alert 27 = .ok (.iconst 1, 1) := by decide +kernel
theorem dX6_alert_28 : decode cX6_alert 28 = .ok (.iaload, 1) := by decide +kernel
theorem dX6_alert_29 : decode cX6_alert 29 = .ok (.iconst 2, 1) := by decide +kernel
theorem dX6_alert_30 : decode cX6_alert 30 = .ok (.iconst 0, 1) := by decide +kernel
theorem dX6_alert_31 : decode cX6_alert 31 = .ok (.invokevirtual 83, 3) := by decide +kernel
theorem dX6_alert_34 : decode cX6_alert 34 = .ok (.iconst 1, 1) := by decide +kernel
theorem dX6_alert_35 : decode cX6_alert 35 = .ok (.ireturn, 1) := by decide +kernel
theorem dX6_answer_0 : decode cX6_answer 0 = .ok (.aload_n 0, 1) := by decide +kernel
theorem dX6_answer_1 : decode cX6_answer 1 = .ok (.iconst 1, 1) := by decide +kernel
theorem dX6_answer_2 : decode cX6_answer 2 = .ok (.iconst 1, 1) := by decide +kernel
theorem dX6_answer_3 : decode cX6_answer 3 = .ok (.iconst 2, 1) := by decide +kernel
theorem dX6_answer_4 : decode cX6_answer 4 = .ok (.invokevirtual 91, 3) := by decide +kernel
theorem dX6_answer_7 : decode cX6_answer 7 = .ok (.ifCond .ne 6, 3) := by decide +kernel
theorem dX6_answer_10 : decode cX6_answer 10 = .ok (.bipush (-2), 2) := by decide +kernel
theorem dX6_answer_12 : decode cX6_answer 12 = .ok (.ireturn, 1) := by decide +kernel
theorem dX6_answer_13 : decode cX6_answer 13 = .ok (.aload_n 0, 1) := by decide +kernel
theorem dX6_answer_14 : decode cX6_answer 14 = .ok (.iconst 1, 1) := by decide +kernel
theorem dX6_answer_15 : decode cX6_answer 15 = .ok (.iconst 3, 1) := by decide +kernel
theorem dX6_answer_16 : decode cX6_answer 16 = .ok (.bipush 7, 2) := by decide +kernel
theorem dX6_answer_18 : decode cX6_answer 18 = .ok (.invokevirtual 64, 3) := by decide +kernel
theorem dX6_answer_21 : decode cX6_answer 21 = .ok (.istore_n 1, 1) := by decide +kernel
theorem dX6_answer_22 : decode cX6_answer 22 = .ok (.aload_n 0, 1) := by decide +kernel
theorem dX6_answer_23 : decode cX6_answer 23 = .ok (.iconst 1, 1) := by decide +kernel
theorem dX6_answer_24 : decode cX6_answer 24 = .ok (.aload_n 0, 1) := by decide +kernel
theorem dX6_answer_25 : decode cX6_answer 25 = .ok (.getfield 23, 3) := by decide +kernel
theorem dX6_answer_28 : decode cX6_answer 28 = .ok (.iconst 1, 1) := by decide +kernel
theorem dX6_answer_29 : decode cX6_answer 29 = .ok (.iaload, 1) := by decide +kernel
theorem dX6_answer_30 : decode cX6_answer 30 = .ok (.iconst 3, 1) := by decide +kernel
theorem dX6_answer_31 : decode cX6_answer 31 = .ok (.bipush 10, 2) := by decide +kernel
theorem dX6_answer_33 : decode cX6_answer 33 = .ok (.invokevirtual 83, 3) := by decide +kernel
theorem dX6_answer_36 : decode cX6_answer 36 = .ok (.iconst 1, 1) := by decide +kernel
theorem dX6_answer_37 : decode cX6_answer 37 = .ok (.ireturn, 1) := by decide +kernel
theorem dX6_clear_0 : decode cX6_clear 0 = .ok (.iload_n 1, 1) := by decide +kernel
theorem dX6_clear_1 : decode cX6_clear 1 = .ok (.ifCond .lt 10, 3) := by decide +kernel
theorem dX6_clear_4 : decode cX6_clear 4 = .ok (.iload_n 1, 1) := by decide +kernel
theorem dX6_clear_5 : decode cX6_clear 5 = .ok (.sipush 255, 3) := by decide +kernel
theorem dX6_clear_8 : decode cX6_clear 8 = .ok (.if_icmp .le 5, 3) := by decide +kernel
theorem dX6_clear_11 : decode cX6_clear 11 = .ok (.iconst (-1), 1) := by decide +kernel
theorem dX6_clear_12 : decode cX6_clear 12 = .ok (.ireturn, 1) := by decide +kernel
theorem dX6_clear_13 : decode cX6_clear 13 = .ok (.aload_n 0, 1) := by decide +kernel
theorem dX6_clear_14 : decode cX6_clear 14 = .ok (.iconst 1, 1) := by decide +kernel
theorem dX6_clear_15 : decode cX6_clear 15 = .ok (.iconst 1, 1) := by decide +kernel
theorem dX6_clear_16 : decode cX6_clear 16 = .ok (.iconst 4, 1) := by decide +kernel
theorem dX6_clear_17 : decode cX6_clear 17 = .ok (.invokevirtual 91, 3) := by decide +kernel
theorem dX6_clear_20 : decode cX6_clear 20 = .ok (.ifCond .ne 6, 3) := by decide +kernel
theorem dX6_clear_23 : decode cX6_clear 23 = .ok (.bipush (-2), 2) := by decide +kernel
theorem dX6_clear_25 : decode cX6_clear 25 = .ok (.ireturn, 1) := by decide +kernel
theorem dX6_clear_26 : decode cX6_clear 26 = .ok (.aload_n 0, 1) := by decide +kernel
theorem dX6_clear_27 : decode cX6_clear 27 = .ok (.iconst 1, 1) := by decide +kernel
theorem dX6_clear_28 : decode cX6_clear 28 = .ok (.iload_n 1, 1) := by decide +kernel
theorem dX6_clear_29 : decode cX6_clear 29 = .ok (.invokevirtual 142, 3) := by decide +kernel
theorem dX6_clear_32 : decode cX6_clear 32 = .ok (.iconst 1, 1) := by decide +kernel
theorem dX6_clear_33 : decode cX6_clear 33 = .ok (.ireturn, 1) := by decide +kernel
theorem dX6_accept_0 : decode cX6_accept 0 = .ok (.aload_n 0, 1) := by decide +kernel
theorem dX6_accept_1 : decode cX6_accept 1 = .ok (.iload_n 1, 1) := by decide +kernel
theorem dX6_accept_2 : decode cX6_accept 2 = .ok (.putfield 7, 3) := by decide +kernel
theorem dX6_accept_5 : decode cX6_accept 5 = .ok (.iconst 1, 1) := by decide +kernel
theorem dX6_accept_6 : decode cX6_accept 6 = .ok (.ireturn, 1) := by decide +kernel
theorem dX6_radio_0 : decode cX6_radio 0 = .ok (.iload_n 1, 1) := by decide +kernel
theorem dX6_radio_1 : decode cX6_radio 1 = .ok (.aload_n 0, 1) := by decide +kernel
theorem dX6_radio_2 : decode cX6_radio 2 = .ok (.getfield 60, 3) := by decide +kernel
theorem dX6_radio_5 : decode cX6_radio 5 = .ok (.ifCond .ne 7, 3) := by decide +kernel
theorem dX6_radio_8 : decode cX6_radio 8 = .ok (.iconst 1, 1) := by decide +kernel
theorem dX6_radio_9 : decode cX6_radio 9 = .ok (.goto 4, 3) := by decide +kernel
theorem dX6_radio_12 : decode cX6_radio 12 = .ok (.iconst 0, 1) := by decide +kernel
theorem dX6_radio_13 : decode cX6_radio 13 = .ok (.if_icmp .ne 6, 3) := by decide +kernel
theorem dX6_radio_16 : decode cX6_radio 16 = .ok (.bipush (-2), 2) := by decide +kernel
theorem dX6_radio_18 : decode cX6_radio 18 = .ok (.ireturn, 1) := by decide +kernel
theorem dX6_radio_19 : decode cX6_radio 19 = .ok (.aload_n 0, 1) := by decide +kernel
theorem dX6_radio_20 : decode cX6_radio 20 = .ok (.iload_n 1, 1) := by decide +kernel
theorem dX6_radio_21 : decode cX6_radio 21 = .ok (.ifCond .ne 7, 3) := by decide +kernel
theorem dX6_radio_24 : decode cX6_radio 24 = .ok (.iconst 1, 1) := by decide +kernel
theorem dX6_radio_25 : decode cX6_radio 25 = .ok (.goto 4, 3) := by decide +kernel
theorem dX6_radio_28 : decode cX6_radio 28 = .ok (.iconst 0, 1) := by decide +kernel
theorem dX6_radio_29 : decode cX6_radio 29 = .ok (.putfield 60, 3) := by decide +kernel
theorem dX6_radio_32 : decode cX6_radio 32 = .ok (.iload_n 1, 1) := by decide +kernel
theorem dX6_radio_33 : decode cX6_radio 33 = .ok (.ifCond .ne 63, 3) := by decide +kernel
theorem dX6_radio_36 : decode cX6_radio 36 = .ok (.aload_n 0, 1) := by decide +kernel
theorem dX6_radio_37 : decode cX6_radio 37 = .ok (.getfield 13, 3) := by decide +kernel
theorem dX6_radio_40 : decode cX6_radio 40 = .ok (.iconst 0, 1) := by decide +kernel
theorem dX6_radio_41 : decode cX6_radio 41 = .ok (.iconst 0, 1) := by decide +kernel
theorem dX6_radio_42 : decode cX6_radio 42 = .ok (.iastore, 1) := by decide +kernel
theorem dX6_radio_43 : decode cX6_radio 43 = .ok (.aload_n 0, 1) := by decide +kernel
theorem dX6_radio_44 : decode cX6_radio 44 = .ok (.getfield 13, 3) := by decide +kernel
theorem dX6_radio_47 : decode cX6_radio 47 = .ok (.iconst 1, 1) := by decide +kernel
theorem dX6_radio_48 : decode cX6_radio 48 = .ok (.iconst 0, 1) := by decide +kernel
theorem dX6_radio_49 : decode cX6_radio 49 = .ok (.iastore, 1) := by decide +kernel
theorem dX6_radio_50 : decode cX6_radio 50 = .ok (.aload_n 0, 1) := by decide +kernel
theorem dX6_radio_51 : decode cX6_radio 51 = .ok (.getfield 23, 3) := by decide +kernel
theorem dX6_radio_54 : decode cX6_radio 54 = .ok (.iconst 0, 1) := by decide +kernel
theorem dX6_radio_55 : decode cX6_radio 55 = .ok (.iaload, 1) := by decide +kernel
theorem dX6_radio_56 : decode cX6_radio 56 = .ok (.istore_n 2, 1) := by decide +kernel
theorem dX6_radio_57 : decode cX6_radio 57 = .ok (.aload_n 0, 1) := by decide +kernel
theorem dX6_radio_58 : decode cX6_radio 58 = .ok (.iconst 0, 1) := by decide +kernel
theorem dX6_radio_59 : decode cX6_radio 59 = .ok (.iload_n 2, 1) := by decide +kernel
theorem dX6_radio_60 : decode cX6_radio 60 = .ok (.iconst 2, 1) := by decide +kernel
theorem dX6_radio_61 : decode cX6_radio 61 = .ok (.if_icmp .ne 7, 3) := by decide +kernel
theorem dX6_radio_64 : decode cX6_radio 64 = .ok (.iconst 1, 1) := by decide +kernel
theorem dX6_radio_65 : decode cX6_radio 65 = .ok (.goto 18, 3) := by decide +kernel
theorem dX6_radio_68 : decode cX6_radio 68 = .ok (.iload_n 2, 1) := by decide +kernel
theorem dX6_radio_69 : decode cX6_radio 69 = .ok (.iconst 4, 1) := by decide +kernel
theorem dX6_radio_70 : decode cX6_radio 70 = .ok (.if_icmp .eq 8, 3) := by decide +kernel
theorem dX6_radio_73 : decode cX6_radio 73 = .ok (.iload_n 2, 1) := by decide +kernel
theorem dX6_radio_74 : decode cX6_radio 74 = .ok (.iconst 5, 1) := by decide +kernel
theorem dX6_radio_75 : decode cX6_radio 75 = .ok (.if_icmp .ne 7, 3) := by decide +kernel
theorem dX6_radio_78 : decode cX6_radio 78 = .ok (.iconst 3, 1) := by decide +kernel
theorem dX6_radio_79 : decode cX6_radio 79 = .ok (.goto 4, 3) := by decide +kernel
theorem dX6_radio_82 : decode cX6_radio 82 = .ok (.iload_n 2, 1) := by decide +kernel
theorem dX6_radio_83 : decode cX6_radio 83 = .ok (.iconst 0, 1) := by decide +kernel
theorem dX6_radio_84 : decode cX6_radio 84 = .ok (.iconst 0, 1) := by decide +kernel
theorem dX6_radio_85 : decode cX6_radio 85 = .ok (.invokevirtual 83, 3) := by decide +kernel
theorem dX6_radio_88 : decode cX6_radio 88 = .ok (.aload_n 0, 1) := by decide +kernel
theorem dX6_radio_89 : decode cX6_radio 89 = .ok (.iconst 1, 1) := by decide +kernel
theorem dX6_radio_90 : decode cX6_radio 90 = .ok (.iconst 0, 1) := by decide +kernel
theorem dX6_radio_91 : decode cX6_radio 91 = .ok (.iconst 0, 1) := by decide +kernel
theorem dX6_radio_92 : decode cX6_radio 92 = .ok (.iconst 0, 1) := by decide +kernel
theorem dX6_radio_93 : decode cX6_radio 93 = .ok (.invokevirtual 83, 3) := by decide +kernel
theorem dX6_radio_96 : decode cX6_radio 96 = .ok (.iconst 1, 1) := by decide +kernel
theorem dX6_radio_97 : decode cX6_radio 97 = .ok (.ireturn, 1) := by decide +kernel
theorem dX6_isWay_0 : decode cX6_isWay 0 = .ok (.iload_n 0, 1) := by decide +kernel
theorem dX6_isWay_1 : decode cX6_isWay 1 = .ok (.ifCond .eq 8, 3) := by decide +kernel
theorem dX6_isWay_4 : decode cX6_isWay 4 = .ok (.iload_n 0, 1) := by decide +kernel
theorem dX6_isWay_5 : decode cX6_isWay 5 = .ok (.iconst 1, 1) := by decide +kernel
theorem dX6_isWay_6 : decode cX6_isWay 6 = .ok (.if_icmp .ne 7, 3) := by decide +kernel
theorem dX6_isWay_9 : decode cX6_isWay 9 = .ok (.iconst 1, 1) := by decide +kernel
theorem dX6_isWay_10 : decode cX6_isWay 10 = .ok (.goto 4, 3) := by decide +kernel
theorem dX6_isWay_13 : decode cX6_isWay 13 = .ok (.iconst 0, 1) := by decide +kernel
theorem dX6_isWay_14 : decode cX6_isWay 14 = .ok (.ireturn, 1) := by decide +kernel
theorem dX6_carry_0 : decode cX6_carry 0 = .ok (.iload_n 1, 1) := by decide +kernel
theorem dX6_carry_1 : decode cX6_carry 1 = .ok (.invokestatic 145, 3) := by decide +kernel
theorem dX6_carry_4 : decode cX6_carry 4 = .ok (.ifCond .ne 5, 3) := by decide +kernel
theorem dX6_carry_7 : decode cX6_carry 7 = .ok (.iconst (-1), 1) := by decide +kernel
theorem dX6_carry_8 : decode cX6_carry 8 = .ok (.ireturn, 1) := by decide +kernel
theorem dX6_carry_9 : decode cX6_carry 9 = .ok (.aload_n 0, 1) := by decide +kernel
theorem dX6_carry_10 : decode cX6_carry 10 = .ok (.getfield 13, 3) := by decide +kernel
theorem dX6_carry_13 : decode cX6_carry 13 = .ok (.iload_n 1, 1) := by decide +kernel
theorem dX6_carry_14 : decode cX6_carry 14 = .ok (.iaload, 1) := by decide +kernel
theorem dX6_carry_15 : decode cX6_carry 15 = .ok (.ifCond .ne 6, 3) := by decide +kernel
theorem dX6_carry_18 : decode cX6_carry 18 = .ok (.bipush (-3), 2) := by decide +kernel
theorem dX6_carry_20 : decode cX6_carry 20 = .ok (.ireturn, 1) := by decide +kernel
theorem dX6_carry_21 : decode cX6_carry 21 = .ok (.aload_n 0, 1) := by decide +kernel
theorem dX6_carry_22 : decode cX6_carry 22 = .ok (.iload_n 1, 1) := by decide +kernel
theorem dX6_carry_23 : decode cX6_carry 23 = .ok (.invokevirtual 149, 3) := by decide +kernel
theorem dX6_carry_26 : decode cX6_carry 26 = .ok (.aload_n 0, 1) := by decide +kernel
theorem dX6_carry_27 : decode cX6_carry 27 = .ok (.getfield 48, 3) := by decide +kernel
theorem dX6_carry_30 : decode cX6_carry 30 = .ok (.iconst 1, 1) := by decide +kernel
theorem dX6_carry_31 : decode cX6_carry 31 = .ok (.iaload, 1) := by decide +kernel
theorem dX6_carry_32 : decode cX6_carry 32 = .ok (.istore_n 2, 1) := by decide +kernel
theorem dX6_carry_33 : decode cX6_carry 33 = .ok (.aload_n 0, 1) := by decide +kernel
theorem dX6_carry_34 : decode cX6_carry 34 = .ok (.invokevirtual 152, 3) := by decide +kernel
theorem dX6_carry_37 : decode cX6_carry 37 = .ok (.ifCond .eq 78, 3) := by decide +kernel
theorem dX6_carry_40 : decode cX6_carry 40 = .ok (.aload_n 0, 1) := by decide +kernel
theorem dX6_carry_41 : decode cX6_carry 41 = .ok (.getfield 48, 3) := by decide +kernel
theorem dX6_carry_44 : decode cX6_carry 44 = .ok (.iconst 0, 1) := by decide +kernel
theorem dX6_carry_45 : decode cX6_carry 45 = .ok (.iaload, 1) := by decide +kernel
theorem dX6_carry_46 : decode cX6_carry 46 = .ok (.iconst 5, 1) := by decide +kernel
theorem dX6_carry_47 : decode cX6_carry 47 = .ok (.if_icmp .ne 30, 3) := by decide +kernel
theorem dX6_carry_50 : decode cX6_carry 50 = .ok (.iload_n 1, 1) := by decide +kernel
theorem dX6_carry_51 : decode cX6_carry 51 = .ok (.iconst 1, 1) := by decide +kernel
theorem dX6_carry_52 : decode cX6_carry 52 = .ok (.if_icmp .ne 14, 3) := by decide +kernel
theorem dX6_carry_55 : decode cX6_carry 55 = .ok (.aload_n 0, 1) := by decide +kernel
theorem dX6_carry_56 : decode cX6_carry 56 = .ok (.iload_n 2, 1) := by decide +kernel
theorem dX6_carry_57 : decode cX6_carry 57 = .ok (.invokevirtual 156, 3) := by decide +kernel
theorem dX6_carry_60 : decode cX6_carry 60 = .ok (.ifCond .eq 55, 3) := by decide +kernel
theorem dX6_carry_63 : decode cX6_carry 63 = .ok (.goto 48, 3) := by decide +kernel
theorem dX6_carry_66 : decode cX6_carry 66 = .ok (.aload_n 0, 1) := by decide +kernel
theorem dX6_carry_67 : decode cX6_carry 67 = .ok (.iload_n 2, 1) := by decide +kernel
theorem dX6_carry_68 : decode cX6_carry 68 = .ok (.invokevirtual 159, 3) := by decide +kernel
theorem dX6_carry_71 : decode cX6_carry 71 = .ok (.ifCond .eq 44, 3) := by decide +kernel
theorem dX6_carry_74 : decode cX6_carry 74 = .ok (.goto 37, 3) := by decide +kernel
theorem dX6_carry_77 : decode cX6_carry 77 = .ok (.aload_n 0, 1) := by decide +kernel
theorem dX6_carry_78 : decode cX6_carry 78 = .ok (.getfield 48, 3) := by decide +kernel
theorem dX6_carry_81 : decode cX6_carry 81 = .ok (.iconst 0, 1) := by decide +kernel
theorem dX6_carry_82 : decode cX6_carry 82 = .ok (.iaload, 1) := by decide +kernel
theorem dX6_carry_83 : decode cX6_carry 83 = .ok (.iconst 3, 1) := by decide +kernel
theorem dX6_carry_84 : decode cX6_carry 84 = .ok (.if_icmp .ne 31, 3) := by decide +kernel
theorem dX6_carry_87 : decode cX6_carry 87 = .ok (.iload_n 1, 1) := by decide +kernel
theorem dX6_carry_88 : decode cX6_carry 88 = .ok (.iconst 1, 1) := by decide +kernel
theorem dX6_carry_89 : decode cX6_carry 89 = .ok (.if_icmp .ne 14, 3) := by decide +kernel
theorem dX6_carry_92 : decode cX6_carry 92 = .ok (.aload_n 0, 1) := by decide +kernel
theorem dX6_carry_93 : decode cX6_carry 93 = .ok (.iload_n 2, 1) := by decide +kernel
theorem dX6_carry_94 : decode cX6_carry 94 = .ok (.invokevirtual 162, 3) := by decide +kernel
theorem dX6_carry_97 : decode cX6_carry 97 = .ok (.ifCond .eq 18, 3) := by decide +kernel
theorem dX6_carry_100 : decode cX6_carry 100 = .ok (.goto 11, 3) := by decide +kernel
theorem dX6_carry_103 : decode cX6_carry 103 = .ok (.aload_n 0, 1) := by decide +kernel
theorem dX6_carry_104 : decode cX6_carry 104 = .ok (.iload_n 2, 1) := by decide +kernel
theorem dX6_carry_105 : decode cX6_carry 105 = .ok (.invokevirtual 165, 3) := by decide +kernel
theorem dX6_carry_108 : decode cX6_carry 108 = .ok (.ifCond .eq 7, 3) := by decide +kernel
theorem dX6_carry_111 : decode cX6_carry 111 = .ok (.iconst 1, 1) := by decide +kernel
theorem dX6_carry_112 : decode cX6_carry 112 = .ok (.goto 4, 3) := by decide +kernel
theorem dX6_carry_115 : decode cX6_carry 115 = .ok (.iconst 0, 1) := by decide +kernel
theorem dX6_carry_116 : decode cX6_carry 116 = .ok (.istore_n 3, 1) := by decide +kernel
theorem dX6_carry_117 : decode cX6_carry 117 = .ok (.aload_n 0, 1) := by decide +kernel
theorem dX6_carry_118 : decode cX6_carry 118 = .ok (.iload_n 3, 1) := by decide +kernel
theorem dX6_carry_119 : decode cX6_carry 119 = .ok (.ifCond .eq 10, 3) := by decide +kernel
theorem dX6_carry_122 : decode cX6_carry 122 = .ok (.aload_n 0, 1) := by decide +kernel
theorem dX6_carry_123 : decode cX6_carry 123 = .ok (.getfield 168, 3) := by decide +kernel
theorem dX6_carry_126 : decode cX6_carry 126 = .ok (.goto 9, 3) := by decide +kernel
theorem dX6_carry_129 : decode cX6_carry 129 = .ok (.aload_n 0, 1) := by decide +kernel
theorem dX6_carry_130 : decode cX6_carry 130 = .ok (.getfield 168, 3) := by decide +kernel
theorem dX6_carry_133 : decode cX6_carry 133 = .ok (.iconst 1, 1) := by decide +kernel
theorem dX6_carry_134 : decode cX6_carry 134 = .ok (.iadd, 1) := by decide +kernel
theorem dX6_carry_135 : decode cX6_carry 135 = .ok (.putfield 168, 3) := by decide +kernel
theorem dX6_carry_138 : decode cX6_carry 138 = .ok (.iload_n 3, 1) := by decide +kernel
theorem dX6_carry_139 : decode cX6_carry 139 = .ok (.ifCond .eq 7, 3) := by decide +kernel
theorem dX6_carry_142 : decode cX6_carry 142 = .ok (.iload_n 2, 1) := by decide +kernel
theorem dX6_carry_143 : decode cX6_carry 143 = .ok (.goto 8, 3) := by decide +kernel
theorem dX6_carry_146 : decode cX6_carry 146 = .ok (.iload_n 2, 1) := by decide +kernel
theorem dX6_carry_147 : decode cX6_carry 147 = .ok (.sipush 1000, 3) := by decide +kernel
theorem dX6_carry_150 : decode cX6_carry 150 = .ok (.iadd, 1) := by decide +kernel
theorem dX6_carry_151 : decode cX6_carry 151 = .ok (.ireturn, 1) := by decide +kernel
theorem dX6_lose_0 : decode cX6_lose 0 = .ok (.iload_n 1, 1) := by decide +kernel
theorem dX6_lose_1 : decode cX6_lose 1 = .ok (.invokestatic 145, 3) := by decide +kernel
theorem dX6_lose_4 : decode cX6_lose 4 = .ok (.ifCond .ne 5, 3) := by decide +kernel
theorem dX6_lose_7 : decode cX6_lose 7 = .ok (.iconst (-1), 1) := by decide +kernel
theorem dX6_lose_8 : decode cX6_lose 8 = .ok (.ireturn, 1) := by decide +kernel
theorem dX6_lose_9 : decode cX6_lose 9 = .ok (.aload_n 0, 1) := by decide +kernel
theorem dX6_lose_10 : decode cX6_lose 10 = .ok (.getfield 13, 3) := by decide +kernel
theorem dX6_lose_13 : decode cX6_lose 13 = .ok (.iload_n 1, 1) := by decide +kernel
theorem dX6_lose_14 : decode cX6_lose 14 = .ok (.iaload, 1) := by decide +kernel
theorem dX6_lose_15 : decode cX6_lose 15 = .ok (.ifCond .ne 6, 3) := by decide +kernel
theorem dX6_lose_18 : decode cX6_lose 18 = .ok (.bipush (-3), 2) := by decide +kernel
theorem dX6_lose_20 : decode cX6_lose 20 = .ok (.ireturn, 1) := by decide +kernel
theorem dX6_lose_21 : decode cX6_lose 21 = .ok (.aload_n 0, 1) := by decide +kernel
theorem dX6_lose_22 : decode cX6_lose 22 = .ok (.iload_n 1, 1) := by decide +kernel
theorem dX6_lose_23 : decode cX6_lose 23 = .ok (.invokevirtual 149, 3) := by decide +kernel
theorem dX6_lose_26 : decode cX6_lose 26 = .ok (.aload_n 0, 1) := by decide +kernel
theorem dX6_lose_27 : decode cX6_lose 27 = .ok (.getfield 48, 3) := by decide +kernel
theorem dX6_lose_30 : decode cX6_lose 30 = .ok (.iconst 1, 1) := by decide +kernel
theorem dX6_lose_31 : decode cX6_lose 31 = .ok (.iaload, 1) := by decide +kernel
theorem dX6_lose_32 : decode cX6_lose 32 = .ok (.ireturn, 1) := by decide +kernel
theorem dX6_told_0 : decode cX6_told 0 = .ok (.iload_n 1, 1) := by decide +kernel
theorem dX6_told_1 : decode cX6_told 1 = .ok (.tableswitch 169 0 13 #[71, 78, 85, 92, 97, 104, 111, 118, 123, 130, 137, 142, 155, 162], 71) := by decide +kernel
theorem dX6_told_72 : decode cX6_told 72 = .ok (.aload_n 0, 1) := by decide +kernel
theorem dX6_told_73 : decode cX6_told 73 = .ok (.getfield 23, 3) := by decide +kernel
theorem dX6_told_76 : decode cX6_told 76 = .ok (.iconst 0, 1) := by decide +kernel
theorem dX6_told_77 : decode cX6_told 77 = .ok (.iaload, 1) := by decide +kernel
theorem dX6_told_78 : decode cX6_told 78 = .ok (.ireturn, 1) := by decide +kernel
theorem dX6_told_79 : decode cX6_told 79 = .ok (.aload_n 0, 1) := by decide +kernel
theorem dX6_told_80 : decode cX6_told 80 = .ok (.getfield 26, 3) := by decide +kernel
theorem dX6_told_83 : decode cX6_told 83 = .ok (.iconst 0, 1) := by decide +kernel
theorem dX6_told_84 : decode cX6_told 84 = .ok (.iaload, 1) := by decide +kernel
theorem dX6_told_85 : decode cX6_told 85 = .ok (.ireturn, 1) := by decide +kernel
theorem dX6_told_86 : decode cX6_told 86 = .ok (.aload_n 0, 1) := by decide +kernel
theorem dX6_told_87 : decode cX6_told 87 = .ok (.getfield 29, 3) := by decide +kernel
theorem dX6_told_90 : decode cX6_told 90 = .ok (.iconst 0, 1) := by decide +kernel
theorem dX6_told_91 : decode cX6_told 91 = .ok (.iaload, 1) := by decide +kernel
theorem dX6_told_92 : decode cX6_told 92 = .ok (.ireturn, 1) := by decide +kernel
theorem dX6_told_93 : decode cX6_told 93 = .ok (.aload_n 0, 1) := by decide +kernel
theorem dX6_told_94 : decode cX6_told 94 = .ok (.getfield 105, 3) := by decide +kernel
theorem dX6_told_97 : decode cX6_told 97 = .ok (.ireturn, 1) := by decide +kernel
theorem dX6_told_98 : decode cX6_told 98 = .ok (.aload_n 0, 1) := by decide +kernel
theorem dX6_told_99 : decode cX6_told 99 = .ok (.getfield 23, 3) := by decide +kernel
theorem dX6_told_102 : decode cX6_told 102 = .ok (.iconst 1, 1) := by decide +kernel
theorem dX6_told_103 : decode cX6_told 103 = .ok (.iaload, 1) := by decide +kernel
theorem dX6_told_104 : decode cX6_told 104 = .ok (.ireturn, 1) := by decide +kernel
theorem dX6_told_105 : decode cX6_told 105 = .ok (.aload_n 0, 1) := by decide +kernel
theorem dX6_told_106 : decode cX6_told 106 = .ok (.getfield 26, 3) := by decide +kernel
theorem dX6_told_109 : decode cX6_told 109 = .ok (.iconst 1, 1) := by decide +kernel
theorem dX6_told_110 : decode cX6_told 110 = .ok (.iaload, 1) := by decide +kernel
theorem dX6_told_111 : decode cX6_told 111 = .ok (.ireturn, 1) := by decide +kernel
theorem dX6_told_112 : decode cX6_told 112 = .ok (.aload_n 0, 1) := by decide +kernel
theorem dX6_told_113 : decode cX6_told 113 = .ok (.getfield 29, 3) := by decide +kernel
theorem dX6_told_116 : decode cX6_told 116 = .ok (.iconst 1, 1) := by decide +kernel
theorem dX6_told_117 : decode cX6_told 117 = .ok (.iaload, 1) := by decide +kernel
theorem dX6_told_118 : decode cX6_told 118 = .ok (.ireturn, 1) := by decide +kernel
theorem dX6_told_119 : decode cX6_told 119 = .ok (.aload_n 0, 1) := by decide +kernel
theorem dX6_told_120 : decode cX6_told 120 = .ok (.getfield 39, 3) := by decide +kernel
theorem dX6_told_123 : decode cX6_told 123 = .ok (.ireturn, 1) := by decide +kernel
theorem dX6_told_124 : decode cX6_told 124 = .ok (.aload_n 0, 1) := by decide +kernel
theorem dX6_told_125 : decode cX6_told 125 = .ok (.getfield 13, 3) := by decide +kernel
theorem dX6_told_128 : decode cX6_told 128 = .ok (.iconst 0, 1) := by decide +kernel
theorem dX6_told_129 : decode cX6_told 129 = .ok (.iaload, 1) := by decide +kernel
theorem dX6_told_130 : decode cX6_told 130 = .ok (.ireturn, 1) := by decide +kernel
theorem dX6_told_131 : decode cX6_told 131 = .ok (.aload_n 0, 1) := by decide +kernel
theorem dX6_told_132 : decode cX6_told 132 = .ok (.getfield 13, 3) := by decide +kernel
theorem dX6_told_135 : decode cX6_told 135 = .ok (.iconst 1, 1) := by decide +kernel
theorem dX6_told_136 : decode cX6_told 136 = .ok (.iaload, 1) := by decide +kernel
theorem dX6_told_137 : decode cX6_told 137 = .ok (.ireturn, 1) := by decide +kernel
theorem dX6_told_138 : decode cX6_told 138 = .ok (.aload_n 0, 1) := by decide +kernel
theorem dX6_told_139 : decode cX6_told 139 = .ok (.getfield 168, 3) := by decide +kernel
theorem dX6_told_142 : decode cX6_told 142 = .ok (.ireturn, 1) := by decide +kernel
theorem dX6_told_143 : decode cX6_told 143 = .ok (.aload_n 0, 1) := by decide +kernel
theorem dX6_told_144 : decode cX6_told 144 = .ok (.getfield 60, 3) := by decide +kernel
theorem dX6_told_147 : decode cX6_told 147 = .ok (.ifCond .eq 7, 3) := by decide +kernel
theorem dX6_told_150 : decode cX6_told 150 = .ok (.iconst 0, 1) := by decide +kernel
theorem dX6_told_151 : decode cX6_told 151 = .ok (.goto 4, 3) := by decide +kernel
theorem dX6_told_154 : decode cX6_told 154 = .ok (.iconst 1, 1) := by decide +kernel
theorem dX6_told_155 : decode cX6_told 155 = .ok (.ireturn, 1) := by decide +kernel
theorem dX6_told_156 : decode cX6_told 156 = .ok (.aload_n 0, 1) := by decide +kernel
theorem dX6_told_157 : decode cX6_told 157 = .ok (.getfield 36, 3) := by decide +kernel
theorem dX6_told_160 : decode cX6_told 160 = .ok (.iconst 0, 1) := by decide +kernel
theorem dX6_told_161 : decode cX6_told 161 = .ok (.iaload, 1) := by decide +kernel
theorem dX6_told_162 : decode cX6_told 162 = .ok (.ireturn, 1) := by decide +kernel
theorem dX6_told_163 : decode cX6_told 163 = .ok (.aload_n 0, 1) := by decide +kernel
theorem dX6_told_164 : decode cX6_told 164 = .ok (.getfield 36, 3) := by decide +kernel
theorem dX6_told_167 : decode cX6_told 167 = .ok (.iconst 1, 1) := by decide +kernel
theorem dX6_told_168 : decode cX6_told 168 = .ok (.iaload, 1) := by decide +kernel
theorem dX6_told_169 : decode cX6_told 169 = .ok (.ireturn, 1) := by decide +kernel
theorem dX6_told_170 : decode cX6_told 170 = .ok (.iconst (-1), 1) := by decide +kernel
theorem dX6_told_171 : decode cX6_told 171 = .ok (.ireturn, 1) := by decide +kernel
theorem dX6_byteOf_0 : decode cX6_byteOf 0 = .ok (.iload_n 1, 1) := by decide +kernel
theorem dX6_byteOf_1 : decode cX6_byteOf 1 = .ok (.invokestatic 145, 3) := by decide +kernel
theorem dX6_byteOf_4 : decode cX6_byteOf 4 = .ok (.ifCond .eq 17, 3) := by decide +kernel
theorem dX6_byteOf_7 : decode cX6_byteOf 7 = .ok (.iload_n 2, 1) := by decide +kernel
theorem dX6_byteOf_8 : decode cX6_byteOf 8 = .ok (.ifCond .lt 13, 3) := by decide +kernel
theorem dX6_byteOf_11 : decode cX6_byteOf 11 = .ok (.iload_n 2, 1) := by decide +kernel
theorem dX6_byteOf_12 : decode cX6_byteOf 12 = .ok (.aload_n 0, 1) := by decide +kernel
theorem dX6_byteOf_13 : decode cX6_byteOf 13 = .ok (.getfield 13, 3) := by decide +kernel
theorem dX6_byteOf_16 : decode cX6_byteOf 16 = .ok (.iload_n 1, 1) := by decide +kernel
theorem dX6_byteOf_17 : decode cX6_byteOf 17 = .ok (.iaload, 1) := by decide +kernel
theorem dX6_byteOf_18 : decode cX6_byteOf 18 = .ok (.if_icmp .lt 6, 3) := by decide +kernel
theorem dX6_byteOf_21 : decode cX6_byteOf 21 = .ok (.bipush (-3), 2) := by decide +kernel
theorem dX6_byteOf_23 : decode cX6_byteOf 23 = .ok (.ireturn, 1) := by decide +kernel
theorem dX6_byteOf_24 : decode cX6_byteOf 24 = .ok (.bipush 8, 2) := by decide +kernel
theorem dX6_byteOf_26 : decode cX6_byteOf 26 = .ok (.iload_n 1, 1) := by decide +kernel
theorem dX6_byteOf_27 : decode cX6_byteOf 27 = .ok (.imul, 1) := by decide +kernel
theorem dX6_byteOf_28 : decode cX6_byteOf 28 = .ok (.iload_n 2, 1) := by decide +kernel
theorem dX6_byteOf_29 : decode cX6_byteOf 29 = .ok (.iadd, 1) := by decide +kernel
theorem dX6_byteOf_30 : decode cX6_byteOf 30 = .ok (.istore 4, 2) := by decide +kernel
theorem dX6_byteOf_32 : decode cX6_byteOf 32 = .ok (.iload_n 3, 1) := by decide +kernel
theorem dX6_byteOf_33 : decode cX6_byteOf 33 = .ok (.ifCond .lt 29, 3) := by decide +kernel
theorem dX6_byteOf_36 : decode cX6_byteOf 36 = .ok (.iload_n 3, 1) := by decide +kernel
theorem dX6_byteOf_37 : decode cX6_byteOf 37 = .ok (.aload_n 0, 1) := by decide +kernel
theorem dX6_byteOf_38 : decode cX6_byteOf 38 = .ok (.getfield 17, 3) := by decide +kernel
theorem dX6_byteOf_41 : decode cX6_byteOf 41 = .ok (.iload 4, 2) := by decide +kernel
theorem dX6_byteOf_43 : decode cX6_byteOf 43 = .ok (.iaload, 1) := by decide +kernel
theorem dX6_byteOf_44 : decode cX6_byteOf 44 = .ok (.if_icmp .ge 18, 3) := by decide +kernel
theorem dX6_byteOf_47 : decode cX6_byteOf 47 = .ok (.aload_n 0, 1) := by decide +kernel
theorem dX6_byteOf_48 : decode cX6_byteOf 48 = .ok (.getfield 20, 3) := by decide +kernel
theorem dX6_byteOf_51 : decode cX6_byteOf 51 = .ok (.bipush 24, 2) := by decide +kernel
theorem dX6_byteOf_53 : decode cX6_byteOf 53 = .ok (.iload 4, 2) := by decide +kernel
theorem dX6_byteOf_55 : decode cX6_byteOf 55 = .ok (.imul, 1) := by decide +kernel
theorem dX6_byteOf_56 : decode cX6_byteOf 56 = .ok (.iload_n 3, 1) := by decide +kernel
theorem dX6_byteOf_57 : decode cX6_byteOf 57 = .ok (.iadd, 1) := by decide +kernel
theorem dX6_byteOf_58 : decode cX6_byteOf 58 = .ok (.iaload, 1) := by decide +kernel
theorem dX6_byteOf_59 : decode cX6_byteOf 59 = .ok (.goto 5, 3) := by decide +kernel
theorem dX6_byteOf_62 : decode cX6_byteOf 62 = .ok (.bipush (-3), 2) := by decide +kernel
theorem dX6_byteOf_64 : decode cX6_byteOf 64 = .ok (.ireturn, 1) := by decide +kernel
theorem dX6_digit_0 : decode cX6_digit 0 = .ok (.aload_n 0, 1) := by decide +kernel
theorem dX6_digit_1 : decode cX6_digit 1 = .ok (.getfield 26, 3) := by decide +kernel
theorem dX6_digit_4 : decode cX6_digit 4 = .ok (.iconst 1, 1) := by decide +kernel
theorem dX6_digit_5 : decode cX6_digit 5 = .ok (.iaload, 1) := by decide +kernel
theorem dX6_digit_6 : decode cX6_digit 6 = .ok (.ifCond .le 24, 3) := by decide +kernel
theorem dX6_digit_9 : decode cX6_digit 9 = .ok (.iload_n 1, 1) := by decide +kernel
theorem dX6_digit_10 : decode cX6_digit 10 = .ok (.ifCond .lt 20, 3) := by decide +kernel
theorem dX6_digit_13 : decode cX6_digit 13 = .ok (.iload_n 1, 1) := by decide +kernel
theorem dX6_digit_14 : decode cX6_digit 14 = .ok (.aload_n 0, 1) := by decide +kernel
theorem dX6_digit_15 : decode cX6_digit 15 = .ok (.getfield 135, 3) := by decide +kernel
theorem dX6_digit_18 : decode cX6_digit 18 = .ok (.if_icmp .ge 12, 3) := by decide +kernel
theorem dX6_digit_21 : decode cX6_digit 21 = .ok (.aload_n 0, 1) := by decide +kernel
theorem dX6_digit_22 : decode cX6_digit 22 = .ok (.getfield 45, 3) := by decide +kernel
theorem dX6_digit_25 : decode cX6_digit 25 = .ok (.iload_n 1, 1) := by decide +kernel
theorem dX6_digit_26 : decode cX6_digit 26 = .ok (.iaload, 1) := by decide +kernel
theorem dX6_digit_27 : decode cX6_digit 27 = .ok (.goto 5, 3) := by decide +kernel
theorem dX6_digit_30 : decode cX6_digit 30 = .ok (.bipush (-3), 2) := by decide +kernel
theorem dX6_digit_32 : decode cX6_digit 32 = .ok (.ireturn, 1) := by decide +kernel
end
section
theorem wp_22 : Cond.selects "MobileCallModel" ⟨"MobileCallModel", "out", "(I)V"⟩ ⟨"MobileCallModel", "out", "(I)V"⟩ ∈ zz_T := zz_mem (List.mem_of_getElem? (i := 22) (by decide +kernel)) (by decide +kernel)
theorem wp_23 : Cond.selects "MobileCallModel" ⟨"MobileCallModel", "release", "(I)V"⟩ ⟨"MobileCallModel", "release", "(I)V"⟩ ∈ zz_T := zz_mem (List.mem_of_getElem? (i := 23) (by decide +kernel)) (by decide +kernel)
theorem wp_24 : Cond.selects "MobileCallModel" ⟨"MobileCallModel", "way", "(I)I"⟩ ⟨"MobileCallModel", "way", "(I)I"⟩ ∈ zz_T := zz_mem (List.mem_of_getElem? (i := 24) (by decide +kernel)) (by decide +kernel)
theorem wp_25 : Cond.selects "MobileCallModel" ⟨"MobileCallModel", "put", "(III)I"⟩ ⟨"MobileCallModel", "put", "(III)I"⟩ ∈ zz_T := zz_mem (List.mem_of_getElem? (i := 25) (by decide +kernel)) (by decide +kernel)
theorem wp_26 : Cond.selects "MobileCallModel" ⟨"MobileCallModel", "become", "(IIII)V"⟩ ⟨"MobileCallModel", "become", "(IIII)V"⟩ ∈ zz_T := zz_mem (List.mem_of_getElem? (i := 26) (by decide +kernel)) (by decide +kernel)
theorem wp_27 : Cond.selects "MobileCallModel" ⟨"MobileCallModel", "rest", "(I)I"⟩ ⟨"MobileCallModel", "rest", "(I)I"⟩ ∈ zz_T := zz_mem (List.mem_of_getElem? (i := 27) (by decide +kernel)) (by decide +kernel)
theorem wp_28 : Cond.selects "MobileCallModel" ⟨"MobileCallModel", "tell", "(IIIIII)V"⟩ ⟨"MobileCallModel", "tell", "(IIIIII)V"⟩ ∈ zz_T := zz_mem (List.mem_of_getElem? (i := 28) (by decide +kernel)) (by decide +kernel)
theorem wp_29 : Cond.selects "MobileCallModel" ⟨"MobileCallModel", "more", "(II)V"⟩ ⟨"MobileCallModel", "more", "(II)V"⟩ ∈ zz_T := zz_mem (List.mem_of_getElem? (i := 29) (by decide +kernel)) (by decide +kernel)
theorem wp_30 : Cond.selects "MobileCallModel" ⟨"MobileCallModel", "isCall", "(III)Z"⟩ ⟨"MobileCallModel", "isCall", "(III)Z"⟩ ∈ zz_T := zz_mem (List.mem_of_getElem? (i := 30) (by decide +kernel)) (by decide +kernel)
theorem wp_31 : Cond.selects "MobileCallModel" ⟨"MobileCallModel", "end", "(II)V"⟩ ⟨"MobileCallModel", "end", "(II)V"⟩ ∈ zz_T := zz_mem (List.mem_of_getElem? (i := 31) (by decide +kernel)) (by decide +kernel)
theorem wp_32 : Cond.selects "MobileCallModel" ⟨"MobileCallModel", "take", "(I)V"⟩ ⟨"MobileCallModel", "take", "(I)V"⟩ ∈ zz_T := zz_mem (List.mem_of_getElem? (i := 32) (by decide +kernel)) (by decide +kernel)
theorem wp_33 : Cond.selects "MobileCallModel" ⟨"MobileCallModel", "isGood", "()Z"⟩ ⟨"MobileCallModel", "isGood", "()Z"⟩ ∈ zz_T := zz_mem (List.mem_of_getElem? (i := 33) (by decide +kernel)) (by decide +kernel)
theorem wp_34 : Cond.selects "MobileCallModel" ⟨"MobileCallModel", "mobileMoves", "(I)Z"⟩ ⟨"MobileCallModel", "mobileMoves", "(I)Z"⟩ ∈ zz_T := zz_mem (List.mem_of_getElem? (i := 34) (by decide +kernel)) (by decide +kernel)
theorem wp_35 : Cond.selects "MobileCallModel" ⟨"MobileCallModel", "has", "(II)Z"⟩ ⟨"MobileCallModel", "has", "(II)Z"⟩ ∈ zz_T := zz_mem (List.mem_of_getElem? (i := 35) (by decide +kernel)) (by decide +kernel)
theorem wp_36 : Cond.selects "MobileCallModel" ⟨"MobileCallModel", "find", "(I)I"⟩ ⟨"MobileCallModel", "find", "(I)I"⟩ ∈ zz_T := zz_mem (List.mem_of_getElem? (i := 36) (by decide +kernel)) (by decide +kernel)
theorem wp_37 : Cond.selects "MobileCallModel" ⟨"MobileCallModel", "number", "(I)I"⟩ ⟨"MobileCallModel", "number", "(I)I"⟩ ∈ zz_T := zz_mem (List.mem_of_getElem? (i := 37) (by decide +kernel)) (by decide +kernel)
theorem wp_38 : Cond.selects "MobileCallModel" ⟨"MobileCallModel", "setUp", "()V"⟩ ⟨"MobileCallModel", "setUp", "()V"⟩ ∈ zz_T := zz_mem (List.mem_of_getElem? (i := 38) (by decide +kernel)) (by decide +kernel)
theorem wp_39 : Cond.selects "MobileCallModel" ⟨"MobileCallModel", "networkMoves", "(I)Z"⟩ ⟨"MobileCallModel", "networkMoves", "(I)Z"⟩ ∈ zz_T := zz_mem (List.mem_of_getElem? (i := 39) (by decide +kernel)) (by decide +kernel)
theorem wp_40 : Cond.selects "MobileCallModel" ⟨"MobileCallModel", "ask", "(I)V"⟩ ⟨"MobileCallModel", "ask", "(I)V"⟩ ∈ zz_T := zz_mem (List.mem_of_getElem? (i := 40) (by decide +kernel)) (by decide +kernel)
theorem wp_41 : Cond.selects "MobileCallModel" ⟨"MobileCallModel", "judge", "()V"⟩ ⟨"MobileCallModel", "judge", "()V"⟩ ∈ zz_T := zz_mem (List.mem_of_getElem? (i := 41) (by decide +kernel)) (by decide +kernel)
theorem wp_42 : Cond.selects "MobileCallModel" ⟨"MobileCallModel", "mobileCalls", "(I)Z"⟩ ⟨"MobileCallModel", "mobileCalls", "(I)Z"⟩ ∈ zz_T := zz_mem (List.mem_of_getElem? (i := 42) (by decide +kernel)) (by decide +kernel)
theorem wp_43 : Cond.selects "MobileCallModel" ⟨"MobileCallModel", "closes", "(II)Z"⟩ ⟨"MobileCallModel", "closes", "(II)Z"⟩ ∈ zz_T := zz_mem (List.mem_of_getElem? (i := 43) (by decide +kernel)) (by decide +kernel)
theorem wp_44 : Cond.selects "MobileCallModel" ⟨"MobileCallModel", "networkCalls", "(I)Z"⟩ ⟨"MobileCallModel", "networkCalls", "(I)Z"⟩ ∈ zz_T := zz_mem (List.mem_of_getElem? (i := 44) (by decide +kernel)) (by decide +kernel)
theorem wd_7 : (Jvm.Cond.initialized "MobileCallModel") ∈ zz_T := zz_mem (List.mem_of_getElem? (i := 52) (by decide +kernel)) (by decide +kernel)
theorem wd_642 : (Jvm.Cond.fieldLink "MobileCallModel" (51 : Nat) "MobileCallModel" "key" "I") ∈ zz_T := zz_mem (List.mem_of_getElem? (i := 687) (by decide +kernel)) (by decide +kernel)
theorem wd_643 : (Jvm.Cond.fieldLink "MobileCallModel" (54 : Nat) "MobileCallModel" "otherKey" "I") ∈ zz_T := zz_mem (List.mem_of_getElem? (i := 688) (by decide +kernel)) (by decide +kernel)
theorem wd_644 : (Jvm.Cond.fieldLink "MobileCallModel" (57 : Nat) "MobileCallModel" "challenge" "I") ∈ zz_T := zz_mem (List.mem_of_getElem? (i := 689) (by decide +kernel)) (by decide +kernel)
theorem wd_645 : (Jvm.Cond.fieldLink "MobileCallModel" (7 : Nat) "MobileCallModel" "accepts" "I") ∈ zz_T := zz_mem (List.mem_of_getElem? (i := 690) (by decide +kernel)) (by decide +kernel)
theorem wd_646 : (Jvm.Cond.fieldLink "MobileCallModel" (60 : Nat) "MobileCallModel" "silent" "Z") ∈ zz_T := zz_mem (List.mem_of_getElem? (i := 691) (by decide +kernel)) (by decide +kernel)
theorem wd_647 : (Jvm.Cond.fieldLink "MobileCallModel" (13 : Nat) "MobileCallModel" "counts" "[I") ∈ zz_T := zz_mem (List.mem_of_getElem? (i := 692) (by decide +kernel)) (by decide +kernel)
theorem wd_648 : (Jvm.Cond.fieldLink "MobileCallModel" (17 : Nat) "MobileCallModel" "sizes" "[I") ∈ zz_T := zz_mem (List.mem_of_getElem? (i := 693) (by decide +kernel)) (by decide +kernel)
theorem wd_649 : (Jvm.Cond.fieldLink "MobileCallModel" (20 : Nat) "MobileCallModel" "bytes" "[I") ∈ zz_T := zz_mem (List.mem_of_getElem? (i := 694) (by decide +kernel)) (by decide +kernel)
theorem wd_650 : (Jvm.Cond.fieldLink "MobileCallModel" (168 : Nat) "MobileCallModel" "left" "I") ∈ zz_T := zz_mem (List.mem_of_getElem? (i := 695) (by decide +kernel)) (by decide +kernel)
theorem wd_651 : (Jvm.Cond.fieldLink "MobileCallModel" (23 : Nat) "MobileCallModel" "states" "[I") ∈ zz_T := zz_mem (List.mem_of_getElem? (i := 696) (by decide +kernel)) (by decide +kernel)
theorem wd_652 : (Jvm.Cond.fieldLink "MobileCallModel" (26 : Nat) "MobileCallModel" "calls" "[I") ∈ zz_T := zz_mem (List.mem_of_getElem? (i := 697) (by decide +kernel)) (by decide +kernel)
theorem wd_653 : (Jvm.Cond.fieldLink "MobileCallModel" (29 : Nat) "MobileCallModel" "timers" "[I") ∈ zz_T := zz_mem (List.mem_of_getElem? (i := 698) (by decide +kernel)) (by decide +kernel)
theorem wd_654 : (Jvm.Cond.fieldLink "MobileCallModel" (32 : Nat) "MobileCallModel" "twice" "[Z") ∈ zz_T := zz_mem (List.mem_of_getElem? (i := 699) (by decide +kernel)) (by decide +kernel)
theorem wd_655 : (Jvm.Cond.fieldLink "MobileCallModel" (36 : Nat) "MobileCallModel" "causes" "[I") ∈ zz_T := zz_mem (List.mem_of_getElem? (i := 700) (by decide +kernel)) (by decide +kernel)
theorem wd_656 : (Jvm.Cond.fieldLink "MobileCallModel" (105 : Nat) "MobileCallModel" "area" "I") ∈ zz_T := zz_mem (List.mem_of_getElem? (i := 701) (by decide +kernel)) (by decide +kernel)
theorem wd_657 : (Jvm.Cond.fieldLink "MobileCallModel" (39 : Nat) "MobileCallModel" "known" "I") ∈ zz_T := zz_mem (List.mem_of_getElem? (i := 702) (by decide +kernel)) (by decide +kernel)
theorem wd_658 : (Jvm.Cond.fieldLink "MobileCallModel" (126 : Nat) "MobileCallModel" "wished" "I") ∈ zz_T := zz_mem (List.mem_of_getElem? (i := 703) (by decide +kernel)) (by decide +kernel)
theorem wd_659 : (Jvm.Cond.fieldLink "MobileCallModel" (42 : Nat) "MobileCallModel" "digits" "[I") ∈ zz_T := zz_mem (List.mem_of_getElem? (i := 704) (by decide +kernel)) (by decide +kernel)
theorem wd_660 : (Jvm.Cond.fieldLink "MobileCallModel" (119 : Nat) "MobileCallModel" "digitCount" "I") ∈ zz_T := zz_mem (List.mem_of_getElem? (i := 705) (by decide +kernel)) (by decide +kernel)
theorem wd_661 : (Jvm.Cond.fieldLink "MobileCallModel" (45 : Nat) "MobileCallModel" "called" "[I") ∈ zz_T := zz_mem (List.mem_of_getElem? (i := 706) (by decide +kernel)) (by decide +kernel)
theorem wd_662 : (Jvm.Cond.fieldLink "MobileCallModel" (135 : Nat) "MobileCallModel" "calledCount" "I") ∈ zz_T := zz_mem (List.mem_of_getElem? (i := 707) (by decide +kernel)) (by decide +kernel)
theorem wd_663 : (Jvm.Cond.fieldLink "MobileCallModel" (72 : Nat) "MobileCallModel" "size" "I") ∈ zz_T := zz_mem (List.mem_of_getElem? (i := 708) (by decide +kernel)) (by decide +kernel)
theorem wd_664 : (Jvm.Cond.fieldLink "MobileCallModel" (48 : Nat) "MobileCallModel" "here" "[I") ∈ zz_T := zz_mem (List.mem_of_getElem? (i := 709) (by decide +kernel)) (by decide +kernel)
theorem wd_717 : (Jvm.Cond.methodLink "MobileCallModel" (138 : Nat) ({ cls := "MobileCallModel", name := "out", desc := "(I)V" } : Jvm.MethodName)) ∈ zz_T := zz_mem (List.mem_of_getElem? (i := 762) (by decide +kernel)) (by decide +kernel)
theorem wd_719 : (Jvm.Cond.instanceMethod ({ cls := "MobileCallModel", name := "out", desc := "(I)V" } : Jvm.MethodName)) ∈ zz_T := zz_mem (List.mem_of_getElem? (i := 764) (by decide +kernel)) (by decide +kernel)
theorem wd_720 : (Jvm.Cond.code ({ cls := "MobileCallModel", name := "out", desc := "(I)V" } : Jvm.MethodName) prog_8_method_24_code (3 : Nat) (Option.none : Option Jvm.ClassFile.FieldType)) ∈ zz_T := zz_mem (List.mem_of_getElem? (i := 765) (by decide +kernel)) (by decide +kernel)
theorem wd_721 : (Jvm.Cond.methodLink "MobileCallModel" (98 : Nat) ({ cls := "MobileCallModel", name := "release", desc := "(I)V" } : Jvm.MethodName)) ∈ zz_T := zz_mem (List.mem_of_getElem? (i := 766) (by decide +kernel)) (by decide +kernel)
theorem wd_723 : (Jvm.Cond.instanceMethod ({ cls := "MobileCallModel", name := "release", desc := "(I)V" } : Jvm.MethodName)) ∈ zz_T := zz_mem (List.mem_of_getElem? (i := 768) (by decide +kernel)) (by decide +kernel)
theorem wd_724 : (Jvm.Cond.code ({ cls := "MobileCallModel", name := "release", desc := "(I)V" } : Jvm.MethodName) prog_8_method_14_code (2 : Nat) (Option.none : Option Jvm.ClassFile.FieldType)) ∈ zz_T := zz_mem (List.mem_of_getElem? (i := 769) (by decide +kernel)) (by decide +kernel)
theorem wd_725 : (Jvm.Cond.methodLink "MobileCallModel" (80 : Nat) ({ cls := "MobileCallModel", name := "way", desc := "(I)I" } : Jvm.MethodName)) ∈ zz_T := zz_mem (List.mem_of_getElem? (i := 770) (by decide +kernel)) (by decide +kernel)
theorem wd_727 : (Jvm.Cond.instanceMethod ({ cls := "MobileCallModel", name := "way", desc := "(I)I" } : Jvm.MethodName)) ∈ zz_T := zz_mem (List.mem_of_getElem? (i := 772) (by decide +kernel)) (by decide +kernel)
theorem wd_728 : (Jvm.Cond.code ({ cls := "MobileCallModel", name := "way", desc := "(I)I" } : Jvm.MethodName) prog_8_method_12_code (2 : Nat) (Option.some Jvm.ClassFile.FieldType.int)) ∈ zz_T := zz_mem (List.mem_of_getElem? (i := 773) (by decide +kernel)) (by decide +kernel)
theorem wd_729 : (Jvm.Cond.methodLink "MobileCallModel" (64 : Nat) ({ cls := "MobileCallModel", name := "put", desc := "(III)I" } : Jvm.MethodName)) ∈ zz_T := zz_mem (List.mem_of_getElem? (i := 774) (by decide +kernel)) (by decide +kernel)
theorem wd_731 : (Jvm.Cond.instanceMethod ({ cls := "MobileCallModel", name := "put", desc := "(III)I" } : Jvm.MethodName)) ∈ zz_T := zz_mem (List.mem_of_getElem? (i := 776) (by decide +kernel)) (by decide +kernel)
theorem wd_732 : (Jvm.Cond.code ({ cls := "MobileCallModel", name := "put", desc := "(III)I" } : Jvm.MethodName) prog_8_method_2_code (5 : Nat) (Option.some Jvm.ClassFile.FieldType.int)) ∈ zz_T := zz_mem (List.mem_of_getElem? (i := 777) (by decide +kernel)) (by decide +kernel)
theorem wd_733 : (Jvm.Cond.methodLink "MobileCallModel" (83 : Nat) ({ cls := "MobileCallModel", name := "become", desc := "(IIII)V" } : Jvm.MethodName)) ∈ zz_T := zz_mem (List.mem_of_getElem? (i := 778) (by decide +kernel)) (by decide +kernel)
theorem wd_735 : (Jvm.Cond.instanceMethod ({ cls := "MobileCallModel", name := "become", desc := "(IIII)V" } : Jvm.MethodName)) ∈ zz_T := zz_mem (List.mem_of_getElem? (i := 780) (by decide +kernel)) (by decide +kernel)
theorem wd_736 : (Jvm.Cond.code ({ cls := "MobileCallModel", name := "become", desc := "(IIII)V" } : Jvm.MethodName) prog_8_method_11_code (5 : Nat) (Option.none : Option Jvm.ClassFile.FieldType)) ∈ zz_T := zz_mem (List.mem_of_getElem? (i := 781) (by decide +kernel)) (by decide +kernel)
theorem wd_737 : (Jvm.Cond.methodLink "MobileCallModel" (102 : Nat) ({ cls := "MobileCallModel", name := "rest", desc := "(I)I" } : Jvm.MethodName)) ∈ zz_T := zz_mem (List.mem_of_getElem? (i := 782) (by decide +kernel)) (by decide +kernel)
theorem wd_739 : (Jvm.Cond.instanceMethod ({ cls := "MobileCallModel", name := "rest", desc := "(I)I" } : Jvm.MethodName)) ∈ zz_T := zz_mem (List.mem_of_getElem? (i := 784) (by decide +kernel)) (by decide +kernel)
theorem wd_740 : (Jvm.Cond.code ({ cls := "MobileCallModel", name := "rest", desc := "(I)I" } : Jvm.MethodName) prog_8_method_13_code (2 : Nat) (Option.some Jvm.ClassFile.FieldType.int)) ∈ zz_T := zz_mem (List.mem_of_getElem? (i := 785) (by decide +kernel)) (by decide +kernel)
theorem wd_741 : (Jvm.Cond.methodLink "MobileCallModel" (112 : Nat) ({ cls := "MobileCallModel", name := "tell", desc := "(IIIIII)V" } : Jvm.MethodName)) ∈ zz_T := zz_mem (List.mem_of_getElem? (i := 786) (by decide +kernel)) (by decide +kernel)
theorem wd_743 : (Jvm.Cond.instanceMethod ({ cls := "MobileCallModel", name := "tell", desc := "(IIIIII)V" } : Jvm.MethodName)) ∈ zz_T := zz_mem (List.mem_of_getElem? (i := 788) (by decide +kernel)) (by decide +kernel)
theorem wd_744 : (Jvm.Cond.code ({ cls := "MobileCallModel", name := "tell", desc := "(IIIIII)V" } : Jvm.MethodName) prog_8_method_4_code (9 : Nat) (Option.none : Option Jvm.ClassFile.FieldType)) ∈ zz_T := zz_mem (List.mem_of_getElem? (i := 789) (by decide +kernel)) (by decide +kernel)
theorem wd_745 : (Jvm.Cond.methodLink "MobileCallModel" (68 : Nat) ({ cls := "MobileCallModel", name := "more", desc := "(II)V" } : Jvm.MethodName)) ∈ zz_T := zz_mem (List.mem_of_getElem? (i := 790) (by decide +kernel)) (by decide +kernel)
theorem wd_747 : (Jvm.Cond.instanceMethod ({ cls := "MobileCallModel", name := "more", desc := "(II)V" } : Jvm.MethodName)) ∈ zz_T := zz_mem (List.mem_of_getElem? (i := 792) (by decide +kernel)) (by decide +kernel)
theorem wd_748 : (Jvm.Cond.code ({ cls := "MobileCallModel", name := "more", desc := "(II)V" } : Jvm.MethodName) prog_8_method_3_code (3 : Nat) (Option.none : Option Jvm.ClassFile.FieldType)) ∈ zz_T := zz_mem (List.mem_of_getElem? (i := 793) (by decide +kernel)) (by decide +kernel)
theorem wd_757 : (Jvm.Cond.constant "MobileCallModel" (141 : Nat) (65535 : Int32)) ∈ zz_T := zz_mem (List.mem_of_getElem? (i := 802) (by decide +kernel)) (by decide +kernel)
theorem wd_766 : (Jvm.Cond.methodLink "MobileCallModel" (91 : Nat) ({ cls := "MobileCallModel", name := "isCall", desc := "(III)Z" } : Jvm.MethodName)) ∈ zz_T := zz_mem (List.mem_of_getElem? (i := 811) (by decide +kernel)) (by decide +kernel)
theorem wd_768 : (Jvm.Cond.instanceMethod ({ cls := "MobileCallModel", name := "isCall", desc := "(III)Z" } : Jvm.MethodName)) ∈ zz_T := zz_mem (List.mem_of_getElem? (i := 813) (by decide +kernel)) (by decide +kernel)
theorem wd_769 : (Jvm.Cond.code ({ cls := "MobileCallModel", name := "isCall", desc := "(III)Z" } : Jvm.MethodName) prog_8_method_15_code (4 : Nat) (Option.some Jvm.ClassFile.FieldType.boolean)) ∈ zz_T := zz_mem (List.mem_of_getElem? (i := 814) (by decide +kernel)) (by decide +kernel)
theorem wd_770 : (Jvm.Cond.methodLink "MobileCallModel" (142 : Nat) ({ cls := "MobileCallModel", name := "end", desc := "(II)V" } : Jvm.MethodName)) ∈ zz_T := zz_mem (List.mem_of_getElem? (i := 815) (by decide +kernel)) (by decide +kernel)
theorem wd_772 : (Jvm.Cond.instanceMethod ({ cls := "MobileCallModel", name := "end", desc := "(II)V" } : Jvm.MethodName)) ∈ zz_T := zz_mem (List.mem_of_getElem? (i := 817) (by decide +kernel)) (by decide +kernel)
theorem wd_773 : (Jvm.Cond.code ({ cls := "MobileCallModel", name := "end", desc := "(II)V" } : Jvm.MethodName) prog_8_method_29_code (3 : Nat) (Option.none : Option Jvm.ClassFile.FieldType)) ∈ zz_T := zz_mem (List.mem_of_getElem? (i := 818) (by decide +kernel)) (by decide +kernel)
theorem wd_798 : (Jvm.Cond.methodLink "MobileCallModel" (145 : Nat) ({ cls := "MobileCallModel", name := "isWay", desc := "(I)Z" } : Jvm.MethodName)) ∈ zz_T := zz_mem (List.mem_of_getElem? (i := 843) (by decide +kernel)) (by decide +kernel)
theorem wd_799 : (Jvm.Cond.static ({ cls := "MobileCallModel", name := "isWay", desc := "(I)Z" } : Jvm.MethodName)) ∈ zz_T := zz_mem (List.mem_of_getElem? (i := 844) (by decide +kernel)) (by decide +kernel)
theorem wd_800 : (Jvm.Cond.code ({ cls := "MobileCallModel", name := "isWay", desc := "(I)Z" } : Jvm.MethodName) prog_8_method_36_code (1 : Nat) (Option.some Jvm.ClassFile.FieldType.boolean)) ∈ zz_T := zz_mem (List.mem_of_getElem? (i := 845) (by decide +kernel)) (by decide +kernel)
theorem wd_801 : (Jvm.Cond.methodLink "MobileCallModel" (149 : Nat) ({ cls := "MobileCallModel", name := "take", desc := "(I)V" } : Jvm.MethodName)) ∈ zz_T := zz_mem (List.mem_of_getElem? (i := 846) (by decide +kernel)) (by decide +kernel)
theorem wd_803 : (Jvm.Cond.instanceMethod ({ cls := "MobileCallModel", name := "take", desc := "(I)V" } : Jvm.MethodName)) ∈ zz_T := zz_mem (List.mem_of_getElem? (i := 848) (by decide +kernel)) (by decide +kernel)
theorem wd_804 : (Jvm.Cond.code ({ cls := "MobileCallModel", name := "take", desc := "(I)V" } : Jvm.MethodName) prog_8_method_5_code (5 : Nat) (Option.none : Option Jvm.ClassFile.FieldType)) ∈ zz_T := zz_mem (List.mem_of_getElem? (i := 849) (by decide +kernel)) (by decide +kernel)
theorem wd_805 : (Jvm.Cond.methodLink "MobileCallModel" (152 : Nat) ({ cls := "MobileCallModel", name := "isGood", desc := "()Z" } : Jvm.MethodName)) ∈ zz_T := zz_mem (List.mem_of_getElem? (i := 850) (by decide +kernel)) (by decide +kernel)
theorem wd_807 : (Jvm.Cond.instanceMethod ({ cls := "MobileCallModel", name := "isGood", desc := "()Z" } : Jvm.MethodName)) ∈ zz_T := zz_mem (List.mem_of_getElem? (i := 852) (by decide +kernel)) (by decide +kernel)
theorem wd_808 : (Jvm.Cond.code ({ cls := "MobileCallModel", name := "isGood", desc := "()Z" } : Jvm.MethodName) prog_8_method_6_code (2 : Nat) (Option.some Jvm.ClassFile.FieldType.boolean)) ∈ zz_T := zz_mem (List.mem_of_getElem? (i := 853) (by decide +kernel)) (by decide +kernel)
theorem wd_809 : (Jvm.Cond.methodLink "MobileCallModel" (156 : Nat) ({ cls := "MobileCallModel", name := "mobileMoves", desc := "(I)Z" } : Jvm.MethodName)) ∈ zz_T := zz_mem (List.mem_of_getElem? (i := 854) (by decide +kernel)) (by decide +kernel)
theorem wd_811 : (Jvm.Cond.instanceMethod ({ cls := "MobileCallModel", name := "mobileMoves", desc := "(I)Z" } : Jvm.MethodName)) ∈ zz_T := zz_mem (List.mem_of_getElem? (i := 856) (by decide +kernel)) (by decide +kernel)
theorem wd_812 : (Jvm.Cond.code ({ cls := "MobileCallModel", name := "mobileMoves", desc := "(I)Z" } : Jvm.MethodName) prog_8_method_17_code (3 : Nat) (Option.some Jvm.ClassFile.FieldType.boolean)) ∈ zz_T := zz_mem (List.mem_of_getElem? (i := 857) (by decide +kernel)) (by decide +kernel)
theorem wd_813 : (Jvm.Cond.methodLink "MobileCallModel" (87 : Nat) ({ cls := "MobileCallModel", name := "has", desc := "(II)Z" } : Jvm.MethodName)) ∈ zz_T := zz_mem (List.mem_of_getElem? (i := 858) (by decide +kernel)) (by decide +kernel)
theorem wd_815 : (Jvm.Cond.instanceMethod ({ cls := "MobileCallModel", name := "has", desc := "(II)Z" } : Jvm.MethodName)) ∈ zz_T := zz_mem (List.mem_of_getElem? (i := 860) (by decide +kernel)) (by decide +kernel)
theorem wd_816 : (Jvm.Cond.code ({ cls := "MobileCallModel", name := "has", desc := "(II)Z" } : Jvm.MethodName) prog_8_method_8_code (4 : Nat) (Option.some Jvm.ClassFile.FieldType.boolean)) ∈ zz_T := zz_mem (List.mem_of_getElem? (i := 861) (by decide +kernel)) (by decide +kernel)
theorem wd_817 : (Jvm.Cond.methodLink "MobileCallModel" (75 : Nat) ({ cls := "MobileCallModel", name := "find", desc := "(I)I" } : Jvm.MethodName)) ∈ zz_T := zz_mem (List.mem_of_getElem? (i := 862) (by decide +kernel)) (by decide +kernel)
theorem wd_819 : (Jvm.Cond.instanceMethod ({ cls := "MobileCallModel", name := "find", desc := "(I)I" } : Jvm.MethodName)) ∈ zz_T := zz_mem (List.mem_of_getElem? (i := 864) (by decide +kernel)) (by decide +kernel)
theorem wd_820 : (Jvm.Cond.code ({ cls := "MobileCallModel", name := "find", desc := "(I)I" } : Jvm.MethodName) prog_8_method_7_code (3 : Nat) (Option.some Jvm.ClassFile.FieldType.int)) ∈ zz_T := zz_mem (List.mem_of_getElem? (i := 865) (by decide +kernel)) (by decide +kernel)
theorem wd_821 : (Jvm.Cond.methodLink "MobileCallModel" (95 : Nat) ({ cls := "MobileCallModel", name := "number", desc := "(I)I" } : Jvm.MethodName)) ∈ zz_T := zz_mem (List.mem_of_getElem? (i := 866) (by decide +kernel)) (by decide +kernel)
theorem wd_823 : (Jvm.Cond.instanceMethod ({ cls := "MobileCallModel", name := "number", desc := "(I)I" } : Jvm.MethodName)) ∈ zz_T := zz_mem (List.mem_of_getElem? (i := 868) (by decide +kernel)) (by decide +kernel)
theorem wd_824 : (Jvm.Cond.code ({ cls := "MobileCallModel", name := "number", desc := "(I)I" } : Jvm.MethodName) prog_8_method_9_code (5 : Nat) (Option.some Jvm.ClassFile.FieldType.int)) ∈ zz_T := zz_mem (List.mem_of_getElem? (i := 869) (by decide +kernel)) (by decide +kernel)
theorem wd_825 : (Jvm.Cond.methodLink "MobileCallModel" (108 : Nat) ({ cls := "MobileCallModel", name := "turned", desc := "(II)I" } : Jvm.MethodName)) ∈ zz_T := zz_mem (List.mem_of_getElem? (i := 870) (by decide +kernel)) (by decide +kernel)
theorem wd_826 : (Jvm.Cond.static ({ cls := "MobileCallModel", name := "turned", desc := "(II)I" } : Jvm.MethodName)) ∈ zz_T := zz_mem (List.mem_of_getElem? (i := 871) (by decide +kernel)) (by decide +kernel)
theorem wd_827 : (Jvm.Cond.code ({ cls := "MobileCallModel", name := "turned", desc := "(II)I" } : Jvm.MethodName) prog_8_method_10_code (3 : Nat) (Option.some Jvm.ClassFile.FieldType.int)) ∈ zz_T := zz_mem (List.mem_of_getElem? (i := 872) (by decide +kernel)) (by decide +kernel)
theorem wd_828 : (Jvm.Cond.constant "MobileCallModel" (79 : Nat) (16777619 : Int32)) ∈ zz_T := zz_mem (List.mem_of_getElem? (i := 873) (by decide +kernel)) (by decide +kernel)
theorem wd_829 : (Jvm.Cond.methodLink "MobileCallModel" (116 : Nat) ({ cls := "MobileCallModel", name := "setUp", desc := "()V" } : Jvm.MethodName)) ∈ zz_T := zz_mem (List.mem_of_getElem? (i := 874) (by decide +kernel)) (by decide +kernel)
theorem wd_831 : (Jvm.Cond.instanceMethod ({ cls := "MobileCallModel", name := "setUp", desc := "()V" } : Jvm.MethodName)) ∈ zz_T := zz_mem (List.mem_of_getElem? (i := 876) (by decide +kernel)) (by decide +kernel)
theorem wd_832 : (Jvm.Cond.code ({ cls := "MobileCallModel", name := "setUp", desc := "()V" } : Jvm.MethodName) prog_8_method_18_code (3 : Nat) (Option.none : Option Jvm.ClassFile.FieldType)) ∈ zz_T := zz_mem (List.mem_of_getElem? (i := 877) (by decide +kernel)) (by decide +kernel)
theorem wd_833 : (Jvm.Cond.methodLink "MobileCallModel" (159 : Nat) ({ cls := "MobileCallModel", name := "networkMoves", desc := "(I)Z" } : Jvm.MethodName)) ∈ zz_T := zz_mem (List.mem_of_getElem? (i := 878) (by decide +kernel)) (by decide +kernel)
theorem wd_835 : (Jvm.Cond.instanceMethod ({ cls := "MobileCallModel", name := "networkMoves", desc := "(I)Z" } : Jvm.MethodName)) ∈ zz_T := zz_mem (List.mem_of_getElem? (i := 880) (by decide +kernel)) (by decide +kernel)
theorem wd_836 : (Jvm.Cond.code ({ cls := "MobileCallModel", name := "networkMoves", desc := "(I)Z" } : Jvm.MethodName) prog_8_method_22_code (2 : Nat) (Option.some Jvm.ClassFile.FieldType.boolean)) ∈ zz_T := zz_mem (List.mem_of_getElem? (i := 881) (by decide +kernel)) (by decide +kernel)
theorem wd_837 : (Jvm.Cond.methodLink "MobileCallModel" (129 : Nat) ({ cls := "MobileCallModel", name := "ask", desc := "(I)V" } : Jvm.MethodName)) ∈ zz_T := zz_mem (List.mem_of_getElem? (i := 882) (by decide +kernel)) (by decide +kernel)
theorem wd_839 : (Jvm.Cond.instanceMethod ({ cls := "MobileCallModel", name := "ask", desc := "(I)V" } : Jvm.MethodName)) ∈ zz_T := zz_mem (List.mem_of_getElem? (i := 884) (by decide +kernel)) (by decide +kernel)
theorem wd_840 : (Jvm.Cond.code ({ cls := "MobileCallModel", name := "ask", desc := "(I)V" } : Jvm.MethodName) prog_8_method_20_code (2 : Nat) (Option.none : Option Jvm.ClassFile.FieldType)) ∈ zz_T := zz_mem (List.mem_of_getElem? (i := 885) (by decide +kernel)) (by decide +kernel)
theorem wd_841 : (Jvm.Cond.constant "MobileCallModel" (125 : Nat) (1103515245 : Int32)) ∈ zz_T := zz_mem (List.mem_of_getElem? (i := 886) (by decide +kernel)) (by decide +kernel)
theorem wd_842 : (Jvm.Cond.methodLink "MobileCallModel" (132 : Nat) ({ cls := "MobileCallModel", name := "judge", desc := "()V" } : Jvm.MethodName)) ∈ zz_T := zz_mem (List.mem_of_getElem? (i := 887) (by decide +kernel)) (by decide +kernel)
theorem wd_844 : (Jvm.Cond.instanceMethod ({ cls := "MobileCallModel", name := "judge", desc := "()V" } : Jvm.MethodName)) ∈ zz_T := zz_mem (List.mem_of_getElem? (i := 889) (by decide +kernel)) (by decide +kernel)
theorem wd_845 : (Jvm.Cond.code ({ cls := "MobileCallModel", name := "judge", desc := "()V" } : Jvm.MethodName) prog_8_method_21_code (3 : Nat) (Option.none : Option Jvm.ClassFile.FieldType)) ∈ zz_T := zz_mem (List.mem_of_getElem? (i := 890) (by decide +kernel)) (by decide +kernel)
theorem wd_846 : (Jvm.Cond.methodLink "MobileCallModel" (162 : Nat) ({ cls := "MobileCallModel", name := "mobileCalls", desc := "(I)Z" } : Jvm.MethodName)) ∈ zz_T := zz_mem (List.mem_of_getElem? (i := 891) (by decide +kernel)) (by decide +kernel)
theorem wd_848 : (Jvm.Cond.instanceMethod ({ cls := "MobileCallModel", name := "mobileCalls", desc := "(I)Z" } : Jvm.MethodName)) ∈ zz_T := zz_mem (List.mem_of_getElem? (i := 893) (by decide +kernel)) (by decide +kernel)
theorem wd_849 : (Jvm.Cond.code ({ cls := "MobileCallModel", name := "mobileCalls", desc := "(I)Z" } : Jvm.MethodName) prog_8_method_19_code (3 : Nat) (Option.some Jvm.ClassFile.FieldType.boolean)) ∈ zz_T := zz_mem (List.mem_of_getElem? (i := 894) (by decide +kernel)) (by decide +kernel)
theorem wd_850 : (Jvm.Cond.methodLink "MobileCallModel" (122 : Nat) ({ cls := "MobileCallModel", name := "closes", desc := "(II)Z" } : Jvm.MethodName)) ∈ zz_T := zz_mem (List.mem_of_getElem? (i := 895) (by decide +kernel)) (by decide +kernel)
theorem wd_852 : (Jvm.Cond.instanceMethod ({ cls := "MobileCallModel", name := "closes", desc := "(II)Z" } : Jvm.MethodName)) ∈ zz_T := zz_mem (List.mem_of_getElem? (i := 897) (by decide +kernel)) (by decide +kernel)
theorem wd_853 : (Jvm.Cond.code ({ cls := "MobileCallModel", name := "closes", desc := "(II)Z" } : Jvm.MethodName) prog_8_method_16_code (4 : Nat) (Option.some Jvm.ClassFile.FieldType.boolean)) ∈ zz_T := zz_mem (List.mem_of_getElem? (i := 898) (by decide +kernel)) (by decide +kernel)
theorem wd_854 : (Jvm.Cond.methodLink "MobileCallModel" (165 : Nat) ({ cls := "MobileCallModel", name := "networkCalls", desc := "(I)Z" } : Jvm.MethodName)) ∈ zz_T := zz_mem (List.mem_of_getElem? (i := 899) (by decide +kernel)) (by decide +kernel)
theorem wd_856 : (Jvm.Cond.instanceMethod ({ cls := "MobileCallModel", name := "networkCalls", desc := "(I)Z" } : Jvm.MethodName)) ∈ zz_T := zz_mem (List.mem_of_getElem? (i := 901) (by decide +kernel)) (by decide +kernel)
theorem wd_857 : (Jvm.Cond.code ({ cls := "MobileCallModel", name := "networkCalls", desc := "(I)Z" } : Jvm.MethodName) prog_8_method_23_code (4 : Nat) (Option.some Jvm.ClassFile.FieldType.boolean)) ∈ zz_T := zz_mem (List.mem_of_getElem? (i := 902) (by decide +kernel)) (by decide +kernel)
theorem iaX0 : ∀ w ∈ wsX00, w ∈ lw_tbl := by decide +kernel
theorem ibX0 : ∀ w ∈ wsX00, zz_good w = true := by decide +kernel
theorem inX0 : ∀ w ∈ wsX00, w ∈ zz_T := fun w h => zz_mem (iaX0 w h) (ibX0 w h)
theorem ptX0 {k : Nat} : zz_pt k TX0 2 tyX0 := ⟨tyX0_ok, nmX0⟩
theorem iaX1 : ∀ w ∈ wsX10, w ∈ lw_tbl := by decide +kernel
theorem ibX1 : ∀ w ∈ wsX10, zz_good w = true := by decide +kernel
theorem inX1 : ∀ w ∈ wsX10, w ∈ zz_T := fun w h => zz_mem (iaX1 w h) (ibX1 w h)
theorem ptX1 {k : Nat} : zz_pt k TX1 11 tyX1 := ⟨tyX1_ok, nmX1⟩
theorem iaX2 : ∀ w ∈ wsX20, w ∈ lw_tbl := by decide +kernel
theorem ibX2 : ∀ w ∈ wsX20, zz_good w = true := by decide +kernel
theorem inX2 : ∀ w ∈ wsX20, w ∈ zz_T := fun w h => zz_mem (iaX2 w h) (ibX2 w h)
theorem ptX2 {k : Nat} : zz_pt k TX2 15 tyX2 := ⟨tyX2_ok, nmX2⟩
theorem iaX4 : ∀ w ∈ wsX40, w ∈ lw_tbl := by decide +kernel
theorem ibX4 : ∀ w ∈ wsX40, zz_good w = true := by decide +kernel
theorem inX4 : ∀ w ∈ wsX40, w ∈ zz_T := fun w h => zz_mem (iaX4 w h) (ibX4 w h)
theorem ptX4 {k : Nat} : zz_pt k TX4 5 tyX4 := ⟨tyX4_ok, nmX4⟩
theorem iaX5 : ∀ w ∈ wsX50, w ∈ lw_tbl := by decide +kernel
theorem ibX5 : ∀ w ∈ wsX50, zz_good w = true := by decide +kernel
theorem inX5 : ∀ w ∈ wsX50, w ∈ zz_T := fun w h => zz_mem (iaX5 w h) (ibX5 w h)
theorem ptX5 {k : Nat} : zz_pt k TX5 5 tyX5 := ⟨tyX5_ok, nmX5⟩
theorem iaX6 : ∀ w ∈ wsX60, w ∈ lw_tbl := by decide +kernel
theorem ibX6 : ∀ w ∈ wsX60, zz_good w = true := by decide +kernel
theorem inX6 : ∀ w ∈ wsX60, w ∈ zz_T := fun w h => zz_mem (iaX6 w h) (ibX6 w h)
theorem ptX6 {k : Nat} : zz_pt k TX6 23 tyX6 := ⟨tyX6_ok, nmX6⟩
theorem yv_X6_80 : zz_yv RX6 80 yX6_way cX6_way 2 (some .int) 1 := ⟨wd_725, wd_727, wp_24, wd_7, wd_728, by decide, by decide +kernel⟩
theorem yv_X6_64 : zz_yv RX6 64 yX6_put cX6_put 5 (some .int) 3 := ⟨wd_729, wd_731, wp_25, wd_7, wd_732, by decide, by decide +kernel⟩
theorem fd_X6_23_X6 : zz_fd RX6 23 5 9 RX6 TX6 23 RX6 := ⟨rfl, by decide, inX6, wd_651, Or.inl rfl⟩
theorem yv_X6_83 : zz_yv RX6 83 yX6_become cX6_become 5 none 4 := ⟨wd_733, wd_735, wp_26, wd_7, wd_736, by decide, by decide +kernel⟩
theorem yv_X6_112 : zz_yv RX6 112 yX6_tell cX6_tell 9 none 6 := ⟨wd_741, wd_743, wp_28, wd_7, wd_744, by decide, by decide +kernel⟩
theorem fd_X6_26_X6 : zz_fd RX6 26 5 10 RX6 TX6 23 RX6 := ⟨rfl, by decide, inX6, wd_652, Or.inl rfl⟩
theorem yv_X6_102 : zz_yv RX6 102 yX6_rest cX6_rest 2 (some .int) 1 := ⟨wd_737, wd_739, wp_27, wd_7, wd_740, by decide, by decide +kernel⟩
theorem yv_X6_87 : zz_yv RX6 87 yX6_has cX6_has 4 (some .boolean) 2 := ⟨wd_813, wd_815, wp_35, wd_7, wd_816, by decide, by decide +kernel⟩
theorem yv_X6_91 : zz_yv RX6 91 yX6_isCall cX6_isCall 4 (some .boolean) 3 := ⟨wd_766, wd_768, wp_30, wd_7, wd_769, by decide, by decide +kernel⟩
theorem fd_X6_36_X6 : zz_fd RX6 36 5 13 RX6 TX6 23 RX6 := ⟨rfl, by decide, inX6, wd_655, Or.inl rfl⟩
theorem yv_X6_95 : zz_yv RX6 95 yX6_number cX6_number 5 (some .int) 1 := ⟨wd_821, wd_823, wp_37, wd_7, wd_824, by decide, by decide +kernel⟩
theorem yv_X6_98 : zz_yv RX6 98 yX6_release cX6_release 2 none 1 := ⟨wd_721, wd_723, wp_23, wd_7, wd_724, by decide, by decide +kernel⟩
theorem yv_X6_68 : zz_yv RX6 68 yX6_more cX6_more 3 none 2 := ⟨wd_745, wd_747, wp_29, wd_7, wd_748, by decide, by decide +kernel⟩
theorem fd_X6_119_X6 : zz_fd RX6 119 5 18 RX6 TX6 23 RX6 := ⟨rfl, by decide, inX6, wd_660, Or.inl rfl⟩
theorem fd_X6_42_X6 : zz_fd RX6 42 5 17 RX6 TX6 23 RX6 := ⟨rfl, by decide, inX6, wd_659, Or.inl rfl⟩
theorem fd_X6_105_X6 : zz_fd RX6 105 5 14 RX6 TX6 23 RX6 := ⟨rfl, by decide, inX6, wd_656, Or.inl rfl⟩
theorem fd_X6_51_X6 : zz_fd RX6 51 5 0 RX6 TX6 23 RX6 := ⟨rfl, by decide, inX6, wd_642, Or.inl rfl⟩
theorem ys_X6_108 : zz_ys RX6 108 yX6_turned cX6_turned 3 (some .int) 2 := ⟨wd_825, wd_826, wd_7, wd_827, by decide, by decide +kernel⟩
theorem yv_X6_116 : zz_yv RX6 116 yX6_setUp cX6_setUp 3 none 0 := ⟨wd_829, wd_831, wp_38, wd_7, wd_832, by decide, by decide +kernel⟩
theorem yv_X6_122 : zz_yv RX6 122 yX6_closes cX6_closes 4 (some .boolean) 2 := ⟨wd_850, wd_852, wp_43, wd_7, wd_853, by decide, by decide +kernel⟩
theorem fd_X6_57_X6 : zz_fd RX6 57 5 2 RX6 TX6 23 RX6 := ⟨rfl, by decide, inX6, wd_644, Or.inl rfl⟩
theorem fd_X6_54_X6 : zz_fd RX6 54 5 1 RX6 TX6 23 RX6 := ⟨rfl, by decide, inX6, wd_643, Or.inl rfl⟩
theorem fd_X6_7_X6 : zz_fd RX6 7 5 3 RX6 TX6 23 RX6 := ⟨rfl, by decide, inX6, wd_645, Or.inl rfl⟩
theorem fd_X6_126_X6 : zz_fd RX6 126 5 16 RX6 TX6 23 RX6 := ⟨rfl, by decide, inX6, wd_658, Or.inl rfl⟩
theorem fd_X6_39_X6 : zz_fd RX6 39 5 15 RX6 TX6 23 RX6 := ⟨rfl, by decide, inX6, wd_657, Or.inl rfl⟩
theorem yv_X6_129 : zz_yv RX6 129 yX6_ask cX6_ask 2 none 1 := ⟨wd_837, wd_839, wp_40, wd_7, wd_840, by decide, by decide +kernel⟩
theorem yv_X6_132 : zz_yv RX6 132 yX6_judge cX6_judge 3 none 0 := ⟨wd_842, wd_844, wp_41, wd_7, wd_845, by decide, by decide +kernel⟩
theorem fd_X6_32_X6 : zz_fd RX6 32 5 12 RX6 TX6 23 RX6 := ⟨rfl, by decide, inX6, wd_654, Or.inl rfl⟩
theorem fd_X6_29_X6 : zz_fd RX6 29 5 11 RX6 TX6 23 RX6 := ⟨rfl, by decide, inX6, wd_653, Or.inl rfl⟩
theorem yv_X6_142 : zz_yv RX6 142 yX6_end cX6_end 3 none 2 := ⟨wd_770, wd_772, wp_31, wd_7, wd_773, by decide, by decide +kernel⟩
theorem fd_X6_60_X6 : zz_fd RX6 60 5 4 RX6 TX6 23 RX6 := ⟨rfl, by decide, inX6, wd_646, Or.inl rfl⟩
theorem fd_X6_13_X6 : zz_fd RX6 13 5 5 RX6 TX6 23 RX6 := ⟨rfl, by decide, inX6, wd_647, Or.inl rfl⟩
theorem fd_X6_135_X6 : zz_fd RX6 135 5 20 RX6 TX6 23 RX6 := ⟨rfl, by decide, inX6, wd_662, Or.inl rfl⟩
theorem fd_X6_45_X6 : zz_fd RX6 45 5 19 RX6 TX6 23 RX6 := ⟨rfl, by decide, inX6, wd_661, Or.inl rfl⟩
theorem fd_X6_168_X6 : zz_fd RX6 168 5 8 RX6 TX6 23 RX6 := ⟨rfl, by decide, inX6, wd_650, Or.inl rfl⟩
theorem ys_X6_145 : zz_ys RX6 145 yX6_isWay cX6_isWay 1 (some .boolean) 1 := ⟨wd_798, wd_799, wd_7, wd_800, by decide, by decide +kernel⟩
theorem fd_X6_17_X6 : zz_fd RX6 17 5 6 RX6 TX6 23 RX6 := ⟨rfl, by decide, inX6, wd_648, Or.inl rfl⟩
theorem fd_X6_20_X6 : zz_fd RX6 20 5 7 RX6 TX6 23 RX6 := ⟨rfl, by decide, inX6, wd_649, Or.inl rfl⟩
theorem yv_X6_75 : zz_yv RX6 75 yX6_find cX6_find 3 (some .int) 1 := ⟨wd_817, wd_819, wp_36, wd_7, wd_820, by decide, by decide +kernel⟩
theorem fd_X6_48_X6 : zz_fd RX6 48 5 22 RX6 TX6 23 RX6 := ⟨rfl, by decide, inX6, wd_664, Or.inl rfl⟩
theorem yv_X6_149 : zz_yv RX6 149 yX6_take cX6_take 5 none 1 := ⟨wd_801, wd_803, wp_32, wd_7, wd_804, by decide, by decide +kernel⟩
theorem yv_X6_152 : zz_yv RX6 152 yX6_isGood cX6_isGood 2 (some .boolean) 0 := ⟨wd_805, wd_807, wp_33, wd_7, wd_808, by decide, by decide +kernel⟩
theorem yv_X6_165 : zz_yv RX6 165 yX6_networkCalls cX6_networkCalls 4 (some .boolean) 1 := ⟨wd_854, wd_856, wp_44, wd_7, wd_857, by decide, by decide +kernel⟩
theorem yv_X6_159 : zz_yv RX6 159 yX6_networkMoves cX6_networkMoves 2 (some .boolean) 1 := ⟨wd_833, wd_835, wp_39, wd_7, wd_836, by decide, by decide +kernel⟩
theorem yv_X6_162 : zz_yv RX6 162 yX6_mobileCalls cX6_mobileCalls 3 (some .boolean) 1 := ⟨wd_846, wd_848, wp_42, wd_7, wd_849, by decide, by decide +kernel⟩
theorem yv_X6_156 : zz_yv RX6 156 yX6_mobileMoves cX6_mobileMoves 3 (some .boolean) 1 := ⟨wd_809, wd_811, wp_34, wd_7, wd_812, by decide, by decide +kernel⟩
theorem yv_X6_138 : zz_yv RX6 138 yX6_out cX6_out 3 none 1 := ⟨wd_717, wd_719, wp_22, wd_7, wd_720, by decide, by decide +kernel⟩
theorem fd_X6_72_X6 : zz_fd RX6 72 5 21 RX6 TX6 23 RX6 := ⟨rfl, by decide, inX6, wd_663, Or.inl rfl⟩
end
section
/-! THE REFERENCE'S WORLD: names 100 (the object), 101 .. 111 (counts, sizes, bytes, states, calls, timers, twice, causes, digits, called, here). T 0: its numbers (0 key, 1 otherKey, 2 challenge, 3 accepts, 4 silent, 5 left, 6 area, 7 known, 8 wished, 9 digitCount, 10 calledCount); T 1 .. T 7: the arrays states, calls, timers, twice, causes, digits, called. Q: the two rows of messages, bytes as numbers; M: the message that was taken (size, here). -/
abbrev rf_fs (ad : Nat → Nat) (o : Nat → Int32) (sv : Int32) : List Value := [.int (o 0), .int (o 1), .int (o 2), .int (o 3), .int (o 4), .ref (ad 101), .ref (ad 102), .ref (ad 103), .int (o 5), .ref (ad 104), .ref (ad 105), .ref (ad 106), .ref (ad 107), .ref (ad 108), .int (o 6), .int (o 7), .int (o 8), .ref (ad 109), .int (o 9), .ref (ad 110), .int (o 10), .int sv, .ref (ad 111)]
abbrev rf_T : Type := Nat → Nat → Int32
abbrev rf_Q : Type := Nat → List (List Nat)
def rfA (G : zz_G) (ad : Nat → Nat) (ce : zz_C) (T : rf_T) (cn zs bs hr : Nat → Int32) (sv : Int32) : Prop :=
  ce 100 = some (.inr (5, rf_fs ad (T 0) sv)) ∧ ce 101 = some (.inl (zz_cI G, 2, .inl cn)) ∧ ce 102 = some (.inl (zz_cI G, 16, .inl zs)) ∧ ce 103 = some (.inl (zz_cI G, 384, .inl bs)) ∧ ce 104 = some (.inl (zz_cI G, 2, .inl (T 1))) ∧ ce 105 = some (.inl (zz_cI G, 2, .inl (T 2))) ∧ ce 106 = some (.inl (zz_cI G, 2, .inl (T 3))) ∧ ce 107 = some (.inl (zz_cZ G, 2, .inl (T 4))) ∧ ce 108 = some (.inl (zz_cI G, 2, .inl (T 5))) ∧ ce 109 = some (.inl (zz_cI G, 8, .inl (T 6))) ∧ ce 110 = some (.inl (zz_cI G, 8, .inl (T 7))) ∧ ce 111 = some (.inl (zz_cI G, 24, .inl hr))
/-- message number m holds x -/
def rfm (zs bs : Nat → Int32) (m : Nat) (x : List Nat) : Prop := 2 ≤ x.length ∧ x.length ≤ 24 ∧ zs m = nI x.length ∧ ∀ i, i < x.length → bs (24 * m + i) = nI (x.getD i 0) ∧ x.getD i 0 < 256
def rfQ (cn zs bs : Nat → Int32) (Q : rf_Q) : Prop := ∀ w, w < 2 → (Q w).length ≤ 8 ∧ cn w = nI (Q w).length ∧ ∀ k, k < (Q w).length → rfm zs bs (8 * w + k) ((Q w).getD k [])
def rfM (hr : Nat → Int32) (M : List Nat) : Prop := M.length ≤ 24 ∧ ∀ i, i < M.length → hr i = nI (M.getD i 0) ∧ M.getD i 0 < 256
def rfV (G : zz_G) (ad : Nat → Nat) (ce : zz_C) (T : rf_T) (Q : rf_Q) (M : List Nat) : Prop := ∃ cn zs bs hr, rfA G ad ce T cn zs bs hr (nI M.length) ∧ rfQ cn zs bs Q ∧ rfM hr M
def rf_become (T : rf_T) (k : Nat) (s c t : Int32) : rf_T := va_up (va_up (va_up (va_up T 1 (upd (T 1) k s)) 2 (upd (T 2) k c)) 3 (upd (T 3) k t)) 4 (upd (T 4) k 0)
abbrev rf_inC (T : rf_T) (k : Nat) (lo hi : Int32) : Prop := ¬ T 2 k < lo ∧ ¬ hi < T 2 k
def rf_turned (a b : Int32) : Int32 := (((a ^^^ b) * 16777619) <<< ((5 : Int32) &&& 31)) ||| (((a ^^^ b) * 16777619).toUInt32 >>> ((27 : Int32).toUInt32 &&& Int32.toUInt32 31)).toInt32
/-- is there room for one more in row w; the row with x behind it; its number -/
def rf_room (T : rf_T) (Q : rf_Q) (w : Nat) : Prop := T 0 4 = 0 ∧ (Q w).length < 8
def rf_put (T : rf_T) (Q : rf_Q) (w : Nat) (x : List Nat) : rf_Q := if T 0 4 = 0 ∧ (Q w).length < 8 then va_up Q w (Q w ++ [x]) else Q
def rf_hd (T : rf_T) (Q : rf_Q) (w : Nat) : Int32 := if T 0 4 = 0 ∧ (Q w).length < 8 then nI (8 * w + (Q w).length) else -3
/-- the lowest byte; byte k of an int -/
def rf_zb (b : Int32) : Nat := b.toBitVec.toNat % 256
def rf_rb (v : Int32) (k : Nat) : Nat := v.toBitVec.toNat / 2 ^ (8 * k) % 256
theorem rf_and (b : Int32) : b &&& 255 = nI (rf_zb b) := pk_and b 8 (by decide)
theorem rf_zb_lt (b : Int32) : rf_zb b < 256 := Nat.mod_lt _ (by decide)
theorem rf_rb_lt (v : Int32) (k : Nat) : rf_rb v k < 256 := Nat.mod_lt _ (by decide)
theorem rf_up_s (f : Nat → Int32) (k : Nat) (x : Int32) : upd f k x k = x := pk_us
theorem rf_up_n (f : Nat → Int32) {k j : Nat} (x : Int32) (h : j ≠ k) : upd f k x j = f j := pk_un h
theorem rf_vu_s {α : Type} (f : Nat → α) (k : Nat) (x : α) : va_up f k x k = x := by simp [va_up]
theorem rf_vu_n {α : Type} (f : Nat → α) {k j : Nat} (x : α) (h : j ≠ k) : va_up f k x j = f j := by simp [va_up, h]
theorem rf_gd (q : List (List Nat)) (x : List Nat) : (q ++ [x]).getD q.length [] = x := by simp [List.getD]
theorem rf_gl (q : List (List Nat)) (x : List Nat) {k : Nat} (h : k < q.length) : (q ++ [x]).getD k [] = q.getD k [] := by
  simp [List.getD, List.getElem?_append_left h]
/-- one message more: what is behind the last is free -/
theorem rfQ_more {cn zs bs cn1 zs1 bs1 : Nat → Int32} {Q : rf_Q} {w : Nat} {x : List Nat} (h : rfQ cn zs bs Q) (hw : w < 2) (hl : (Q w).length < 8) (hc : cn1 w = nI ((Q w).length + 1)) (hc2 : ∀ j, j ≠ w → cn1 j = cn j)
    (hz : ∀ j, j ≠ 8 * w + (Q w).length → zs1 j = zs j) (hb : ∀ j, j < 24 * (8 * w + (Q w).length) ∨ 24 * (8 * w + (Q w).length) + 24 ≤ j → bs1 j = bs j) (hx : rfm zs1 bs1 (8 * w + (Q w).length) x) : rfQ cn1 zs1 bs1 (va_up Q w (Q w ++ [x])) := by
  intro v hv
  have old : ∀ v k, v < 2 → k < (Q v).length → 8 * v + k ≠ 8 * w + (Q w).length → rfm zs1 bs1 (8 * v + k) ((Q v).getD k []) := by
    intro v k hv hk hne
    obtain ⟨g1, g2, g3⟩ := h v hv
    obtain ⟨m1, m2, m3, m4⟩ := g3 k hk
    refine ⟨m1, m2, by rw [hz _ hne]; exact m3, fun i hi => ?_⟩
    rw [hb _ (by omega)]
    exact m4 i hi
  by_cases hvw : v = w
  · subst hvw
    rw [rf_vu_s]
    refine ⟨by simp; omega, by simp [hc], fun k hk => ?_⟩
    by_cases hkl : k < (Q v).length
    · rw [rf_gl _ _ hkl]
      exact old v k hv hkl (by omega)
    · have hke : k = (Q v).length := by simp at hk; omega
      subst hke
      rw [rf_gd]
      exact hx
  · rw [rf_vu_n _ _ hvw]
    obtain ⟨g1, g2, g3⟩ := h v hv
    obtain ⟨q1, -, -⟩ := h w hw
    exact ⟨g1, by rw [hc2 v hvw]; exact g2, fun k hk => old v k hv hk (by omega)⟩
theorem rfQ_put {cn zs bs : Nat → Int32} {Q : rf_Q} {w a b : Nat} (h : rfQ cn zs bs Q) (hw : w < 2) (hl : (Q w).length < 8) (ha : a < 256) (hb : b < 256) : rfQ (upd cn w (cn w + 1)) (upd zs (8 * w + (Q w).length) 2) (upd (upd bs (24 * (8 * w + (Q w).length)) (nI a)) (24 * (8 * w + (Q w).length) + 1) (nI b)) (va_up Q w (Q w ++ [[a, b]])) := by
  have hc := (h w hw).2.1
  refine rfQ_more h hw hl (by rw [rf_up_s, hc, nI_1]) (fun j hj => rf_up_n _ _ hj) (fun j hj => rf_up_n _ _ hj) (fun j hj => by rw [rf_up_n _ _ (by omega), rf_up_n _ _ (by omega)]) ⟨by simp, by simp, by rw [rf_up_s]; rfl, fun i hi => ?_⟩
  have hi2 : i = 0 ∨ i = 1 := by simp at hi; omega
  rcases hi2 with rfl | rfl
  · rw [rf_up_n _ _ (by omega), Nat.add_zero, rf_up_s]; exact ⟨rfl, ha⟩
  · rw [rf_up_s]; exact ⟨rfl, hb⟩
/-- the last message becomes another -/
theorem rfQ_last {cn zs bs zs1 bs1 : Nat → Int32} {Q : rf_Q} {w : Nat} {x x1 : List Nat} (h : rfQ cn zs bs (va_up Q w (Q w ++ [x]))) (hw : w < 2)
    (hz : ∀ j, j ≠ 8 * w + (Q w).length → zs1 j = zs j) (hb : ∀ j, j < 24 * (8 * w + (Q w).length) ∨ 24 * (8 * w + (Q w).length) + 24 ≤ j → bs1 j = bs j) (hx : rfm zs1 bs1 (8 * w + (Q w).length) x1) : rfQ cn zs1 bs1 (va_up Q w (Q w ++ [x1])) := by
  have hq := (h w hw).1
  rw [rf_vu_s] at hq
  simp only [List.length_append, List.length_cons, List.length_nil] at hq
  have keep : ∀ m y, m ≠ 8 * w + (Q w).length → rfm zs bs m y → rfm zs1 bs1 m y := by
    intro m y hne hm
    obtain ⟨m1, m2, m3, m4⟩ := hm
    refine ⟨m1, m2, by rw [hz _ hne]; exact m3, fun i hi => ?_⟩
    rw [hb _ (by omega)]
    exact m4 i hi
  intro v hv
  obtain ⟨g1, g2, g3⟩ := h v hv
  by_cases hvw : v = w
  · subst hvw
    rw [rf_vu_s] at g1 g2 g3 ⊢
    refine ⟨by simpa using g1, by simpa using g2, fun k hk => ?_⟩
    by_cases hkl : k < (Q v).length
    · have h3 := g3 k (by simp; omega)
      rw [rf_gl _ _ hkl] at h3 ⊢
      exact keep _ _ (by omega) h3
    · have hke : k = (Q v).length := by simp at hk; omega
      subst hke
      rw [rf_gd]
      exact hx
  · rw [rf_vu_n _ _ hvw] at g1 g2 g3 ⊢
    exact ⟨g1, g2, fun k hk => keep _ _ (by omega) (g3 k hk)⟩
theorem rfQ_at {cn zs bs : Nat → Int32} {Q : rf_Q} {w : Nat} {x : List Nat} (h : rfQ cn zs bs (va_up Q w (Q w ++ [x]))) (hw : w < 2) : (Q w).length < 8 ∧ rfm zs bs (8 * w + (Q w).length) x := by
  obtain ⟨g1, g2, g3⟩ := h w hw
  rw [rf_vu_s] at g1 g2 g3
  have h3 := g3 (Q w).length (by simp)
  rw [rf_gd] at h3
  simp only [List.length_append, List.length_cons, List.length_nil] at g1
  exact ⟨by omega, h3⟩
theorem rf_ga (x : List Nat) (c : Nat) : (x ++ [c]).getD x.length 0 = c := by simp [List.getD]
theorem rf_gb (x : List Nat) (c : Nat) {i : Nat} (h : i < x.length) : (x ++ [c]).getD i 0 = x.getD i 0 := by simp [List.getD, List.getElem?_append_left h]
theorem rfQ_byte {cn zs bs : Nat → Int32} {Q : rf_Q} {w c : Nat} {x : List Nat} (h : rfQ cn zs bs (va_up Q w (Q w ++ [x]))) (hw : w < 2) (hl : x.length < 24) (hc : c < 256) : rfQ cn (upd zs (8 * w + (Q w).length) (zs (8 * w + (Q w).length) + 1)) (upd bs (24 * (8 * w + (Q w).length) + x.length) (nI c)) (va_up Q w (Q w ++ [x ++ [c]])) := by
  obtain ⟨g0, m1, m2, m3, m4⟩ := rfQ_at h hw
  refine rfQ_last h hw (fun j hj => rf_up_n _ _ hj) (fun j hj => rf_up_n _ _ (by omega)) ⟨by simp; omega, by simp; omega, by rw [rf_up_s, m3, nI_1]; simp, fun i hi => ?_⟩
  by_cases hil : i < x.length
  · rw [rf_gb _ _ hil, rf_up_n _ _ (by omega)]
    exact m4 i hil
  · have hie : i = x.length := by simp at hi; omega
    subst hie
    rw [rf_ga, rf_up_s]
    exact ⟨rfl, hc⟩
theorem rf_sh (v s : Int32) (k : Nat) (hs : (s.toBitVec.smod 32).toNat = 8 * k) (hk : k ≤ 3) : rf_zb (v >>> s) = rf_rb v k := by
  have e : (v >>> s).toBitVec = v.toBitVec.sshiftRight (8 * k) := by
    show v.toBitVec.sshiftRight' (s.toBitVec.smod 32) = _
    rw [BitVec.sshiftRight', hs]
  have h1 : (v.toBitVec.sshiftRight (8 * k)).setWidth 8 = (v.toBitVec >>> (8 * k)).setWidth 8 := by
    apply BitVec.eq_of_getLsbD_eq
    intro i hi
    simp only [BitVec.getLsbD_setWidth, BitVec.getLsbD_sshiftRight, BitVec.getLsbD_ushiftRight]
    have h9 : 8 * k + i < 32 := by omega
    simp [hi, h9]
    intro _
    omega
  have h2 := congrArg BitVec.toNat h1
  simp only [BitVec.toNat_setWidth, BitVec.toNat_ushiftRight, Nat.shiftRight_eq_div_pow] at h2
  unfold rf_zb rf_rb
  rw [e]
  exact h2
theorem rf_sh0 (v : Int32) : rf_zb (v >>> ((0 : Int32) &&& 31)) = rf_rb v 0 := rf_sh v _ 0 (by decide) (by decide)
theorem rf_sh8 (v : Int32) : rf_zb (v >>> ((8 : Int32) &&& 31)) = rf_rb v 1 := rf_sh v _ 1 (by decide) (by decide)
theorem rf_sh16 (v : Int32) : rf_zb (v >>> ((16 : Int32) &&& 31)) = rf_rb v 2 := rf_sh v _ 2 (by decide) (by decide)
theorem rf_sh24 (v : Int32) : rf_zb (v >>> ((24 : Int32) &&& 31)) = rf_rb v 3 := rf_sh v _ 3 (by decide) (by decide)
theorem rf_zb_nI {n : Nat} (h : n < 256) : rf_zb (nI n) = n := by
  unfold rf_zb
  rw [pk_tn (by omega)]
  exact Nat.mod_eq_of_lt h
/-- the bytes of a number of n bytes, the highest first -/
def rf_bytes (n : Nat) (v : Int32) : List Nat := (List.range n).map (fun j => rf_rb v (n - 1 - j))
end
section
set_option maxHeartbeats 4000000 in
set_option maxRecDepth 100000 in
theorem r_way0 (l : Launch) {G : zz_G} {ad : Nat → Nat} {ce : zz_C} {sz : Nat} (T : rf_T) (Q : rf_Q) (M : List Nat) (hV : rfV G ad ce T Q M) : zz_M l yX6_way cX6_way 2 (some .int) 0 0 0 0 G [.ref (ad 100), .int 0] ad ce sz (fun r ad1 ce1 => r = some (.int 0) ∧ ad = ad1 ∧ ce = ce1) := by
  refine zz_enter (by decide) (Nat.le_of_ble_eq_true rfl) ?_
  intro p e s m below meth c ls F hl hw hS hA
  obtain ⟨hx, hb, hr, hml, hown, hts, hlocks, hK, hnm⟩ := id F
  have hl : lv_has ls 2 [(0, .ref (ad 100)), (1, .int 0)] := hl
  obtain ⟨cn, zs, bs, hh, ⟨h100, h101, h102, h103, h104, h105, h106, h107, h108, h109, h110, h111⟩, hQ, hM⟩ := hV
  have hF : ∀ j, j < 100 → ce j = ce j := fun _ _ => rfl
  refine lv_iload_n hx hb dX6_way_0 rfl (lv_at hl 1 rfl) ?_
  refine lv_if_ne (tgt := 8) hx hb dX6_way_1 (by decide) (fun c1 => absurd c1 (by decide)) (fun c1 => ?_)
  refine lv_iconst (v := 0) hx hb dX6_way_4 (by decide) ?_
  refine lv_goto (tgt := 9) hx hb dX6_way_5 (by decide) ?_
  exact z_iret F (rfl) hw hS (⟨rfl, rfl, rfl⟩) dX6_way_9
set_option maxHeartbeats 4000000 in
set_option maxRecDepth 100000 in
theorem r_rest0 (l : Launch) {G : zz_G} {ad : Nat → Nat} {ce : zz_C} {sz : Nat} (T : rf_T) (Q : rf_Q) (M : List Nat) (hV : rfV G ad ce T Q M) : zz_M l yX6_rest cX6_rest 2 (some .int) 0 0 0 0 G [.ref (ad 100), .int 0] ad ce sz (fun r ad1 ce1 => r = some (.int 3) ∧ ad = ad1 ∧ ce = ce1) := by
  refine zz_enter (by decide) (Nat.le_of_ble_eq_true rfl) ?_
  intro p e s m below meth c ls F hl hw hS hA
  obtain ⟨hx, hb, hr, hml, hown, hts, hlocks, hK, hnm⟩ := id F
  have hl : lv_has ls 2 [(0, .ref (ad 100)), (1, .int 0)] := hl
  obtain ⟨cn, zs, bs, hh, ⟨h100, h101, h102, h103, h104, h105, h106, h107, h108, h109, h110, h111⟩, hQ, hM⟩ := hV
  have hF : ∀ j, j < 100 → ce j = ce j := fun _ _ => rfl
  refine lv_iload_n hx hb dX6_rest_0 rfl (lv_at hl 1 rfl) ?_
  refine lv_if_ne (tgt := 8) hx hb dX6_rest_1 (by decide) (fun c1 => absurd c1 (by decide)) (fun c1 => ?_)
  refine lv_iconst (v := 3) hx hb dX6_rest_4 (by decide) ?_
  refine lv_goto (tgt := 9) hx hb dX6_rest_5 (by decide) ?_
  exact z_iret F (rfl) hw hS (⟨rfl, rfl, rfl⟩) dX6_rest_9
set_option maxHeartbeats 4000000 in
set_option maxRecDepth 100000 in
theorem r_become0 (l : Launch) {G : zz_G} {ad : Nat → Nat} {ce : zz_C} {sz : Nat} (T : rf_T) (Q : rf_Q) (M : List Nat) (hV : rfV G ad ce T Q M) (vs vc vt : Int32) : zz_M l yX6_become cX6_become 5 none 0 0 0 0 G [.ref (ad 100), .int 0, .int vs, .int vc, .int vt] ad ce sz (fun r ad1 ce1 => r = none ∧ ad = ad1 ∧ rfV G ad ce1 (rf_become T 0 vs vc vt) Q M ∧ (∀ j, j < 100 → ce1 j = ce j)) := by
  refine zz_enter (by decide) (Nat.le_of_ble_eq_true rfl) ?_
  intro p e s m below meth c ls F hl hw hS hA
  obtain ⟨hx, hb, hr, hml, hown, hts, hlocks, hK, hnm⟩ := id F
  have hl : lv_has ls 5 [(0, .ref (ad 100)), (1, .int 0), (2, .int vs), (3, .int vc), (4, .int vt)] := hl
  obtain ⟨cn, zs, bs, hh, ⟨h100, h101, h102, h103, h104, h105, h106, h107, h108, h109, h110, h111⟩, hQ, hM⟩ := hV
  have hF : ∀ j, j < 100 → ce j = ce j := fun _ _ => rfl
  refine lv_aload_n hx hb dX6_become_0 rfl (lv_at hl 0 rfl) ?_
  refine z_get F hw h100 fd_X6_23_X6 rfl dX6_become_1 ?_
  refine lv_iload_n hx hb dX6_become_4 rfl (lv_at hl 1 rfl) ?_
  refine lv_iload_n hx hb dX6_become_5 rfl (lv_at hl 2 rfl) ?_
  refine z_st F hw hS h104 (0) (rfl) (by decide) (by decide) dX6_become_6 (fun ce1 H locs h104 fr2 hw hS => ?_)
  have h100 := (fr2 100 (by decide)).trans h100
  have h101 := (fr2 101 (by decide)).trans h101
  have h102 := (fr2 102 (by decide)).trans h102
  have h103 := (fr2 103 (by decide)).trans h103
  have h105 := (fr2 105 (by decide)).trans h105
  have h106 := (fr2 106 (by decide)).trans h106
  have h107 := (fr2 107 (by decide)).trans h107
  have h108 := (fr2 108 (by decide)).trans h108
  have h109 := (fr2 109 (by decide)).trans h109
  have h110 := (fr2 110 (by decide)).trans h110
  have h111 := (fr2 111 (by decide)).trans h111
  have hF : ∀ j, j < 100 → _ = ce j := fun j hj => (fr2 j (by omega)).trans (hF j hj)
  refine lv_aload_n hx hb dX6_become_7 rfl (lv_at hl 0 rfl) ?_
  refine z_get F hw h100 fd_X6_26_X6 rfl dX6_become_8 ?_
  refine lv_iload_n hx hb dX6_become_11 rfl (lv_at hl 1 rfl) ?_
  refine lv_iload_n hx hb dX6_become_12 rfl (lv_at hl 3 rfl) ?_
  refine z_st F hw hS h105 (0) (rfl) (by decide) (by decide) dX6_become_13 (fun ce3 H locs h105 fr4 hw hS => ?_)
  have h100 := (fr4 100 (by decide)).trans h100
  have h101 := (fr4 101 (by decide)).trans h101
  have h102 := (fr4 102 (by decide)).trans h102
  have h103 := (fr4 103 (by decide)).trans h103
  have h104 := (fr4 104 (by decide)).trans h104
  have h106 := (fr4 106 (by decide)).trans h106
  have h107 := (fr4 107 (by decide)).trans h107
  have h108 := (fr4 108 (by decide)).trans h108
  have h109 := (fr4 109 (by decide)).trans h109
  have h110 := (fr4 110 (by decide)).trans h110
  have h111 := (fr4 111 (by decide)).trans h111
  have hF : ∀ j, j < 100 → _ = ce j := fun j hj => (fr4 j (by omega)).trans (hF j hj)
  refine lv_aload_n hx hb dX6_become_14 rfl (lv_at hl 0 rfl) ?_
  refine z_get F hw h100 fd_X6_29_X6 rfl dX6_become_15 ?_
  refine lv_iload_n hx hb dX6_become_18 rfl (lv_at hl 1 rfl) ?_
  refine lv_iload hx hb dX6_become_19 (lv_at hl 4 rfl) ?_
  refine z_st F hw hS h106 (0) (rfl) (by decide) (by decide) dX6_become_21 (fun ce5 H locs h106 fr6 hw hS => ?_)
  have h100 := (fr6 100 (by decide)).trans h100
  have h101 := (fr6 101 (by decide)).trans h101
  have h102 := (fr6 102 (by decide)).trans h102
  have h103 := (fr6 103 (by decide)).trans h103
  have h104 := (fr6 104 (by decide)).trans h104
  have h105 := (fr6 105 (by decide)).trans h105
  have h107 := (fr6 107 (by decide)).trans h107
  have h108 := (fr6 108 (by decide)).trans h108
  have h109 := (fr6 109 (by decide)).trans h109
  have h110 := (fr6 110 (by decide)).trans h110
  have h111 := (fr6 111 (by decide)).trans h111
  have hF : ∀ j, j < 100 → _ = ce j := fun j hj => (fr6 j (by omega)).trans (hF j hj)
  refine lv_aload_n hx hb dX6_become_22 rfl (lv_at hl 0 rfl) ?_
  refine z_get F hw h100 fd_X6_32_X6 rfl dX6_become_23 ?_
  refine lv_iload_n hx hb dX6_become_26 rfl (lv_at hl 1 rfl) ?_
  refine lv_iconst (v := 0) hx hb dX6_become_27 (by decide) ?_
  refine z_zst F hw hS h107 (0) (rfl) (by decide) (by decide) (rfl) dX6_become_28 (fun ce7 H locs h107 fr8 hw hS => ?_)
  have h100 := (fr8 100 (by decide)).trans h100
  have h101 := (fr8 101 (by decide)).trans h101
  have h102 := (fr8 102 (by decide)).trans h102
  have h103 := (fr8 103 (by decide)).trans h103
  have h104 := (fr8 104 (by decide)).trans h104
  have h105 := (fr8 105 (by decide)).trans h105
  have h106 := (fr8 106 (by decide)).trans h106
  have h108 := (fr8 108 (by decide)).trans h108
  have h109 := (fr8 109 (by decide)).trans h109
  have h110 := (fr8 110 (by decide)).trans h110
  have h111 := (fr8 111 (by decide)).trans h111
  have hF : ∀ j, j < 100 → _ = ce j := fun j hj => (fr8 j (by omega)).trans (hF j hj)
  exact z_vret F hw hS (⟨rfl, rfl, ⟨_, _, _, _, ⟨h100, h101, h102, h103, h104, h105, h106, h107, h108, h109, h110, h111⟩, hQ, hM⟩, hF⟩) dX6_become_29
set_option maxHeartbeats 4000000 in
set_option maxRecDepth 100000 in
theorem r_isCall0 (l : Launch) {G : zz_G} {ad : Nat → Nat} {ce : zz_C} {sz : Nat} (T : rf_T) (Q : rf_Q) (M : List Nat) (hV : rfV G ad ce T Q M) (lo hi : Int32) : zz_M l yX6_isCall cX6_isCall 4 (some .boolean) 0 0 0 0 G [.ref (ad 100), .int 0, .int lo, .int hi] ad ce sz (fun r ad1 ce1 => ((rf_inC T 0 lo hi ∧ r = some (.int 1)) ∨ (¬ rf_inC T 0 lo hi ∧ r = some (.int 0))) ∧ ad = ad1 ∧ ce = ce1) := by
  refine zz_enter (by decide) (Nat.le_of_ble_eq_true rfl) ?_
  intro p e s m below meth c ls F hl hw hS hA
  obtain ⟨hx, hb, hr, hml, hown, hts, hlocks, hK, hnm⟩ := id F
  have hl : lv_has ls 4 [(0, .ref (ad 100)), (1, .int 0), (2, .int lo), (3, .int hi)] := hl
  obtain ⟨cn, zs, bs, hh, ⟨h100, h101, h102, h103, h104, h105, h106, h107, h108, h109, h110, h111⟩, hQ, hM⟩ := hV
  have hF : ∀ j, j < 100 → ce j = ce j := fun _ _ => rfl
  refine lv_aload_n hx hb dX6_isCall_0 rfl (lv_at hl 0 rfl) ?_
  refine z_get F hw h100 fd_X6_26_X6 rfl dX6_isCall_1 ?_
  refine lv_iload_n hx hb dX6_isCall_4 rfl (lv_at hl 1 rfl) ?_
  refine z_ld F hw h105 (0) (rfl) (by decide) (by decide) dX6_isCall_5 ?_
  refine lv_iload_n hx hb dX6_isCall_6 rfl (lv_at hl 2 rfl) ?_
  refine lv_icmp_lt (tgt := 24) hx hb dX6_isCall_7 (by decide) (fun c7 => ?_) (fun c7 => ?_)
  · refine lv_iconst (v := 0) hx hb dX6_isCall_24 (by decide) ?_
    exact z_iret F (rfl) hw hS (⟨Or.inr ⟨fun q => q.1 c7, rfl⟩, rfl, rfl⟩) dX6_isCall_25
  · refine lv_aload_n hx hb dX6_isCall_10 rfl (lv_at hl 0 rfl) ?_
    refine z_get F hw h100 fd_X6_26_X6 rfl dX6_isCall_11 ?_
    refine lv_iload_n hx hb dX6_isCall_14 rfl (lv_at hl 1 rfl) ?_
    refine z_ld F hw h105 (0) (rfl) (by decide) (by decide) dX6_isCall_15 ?_
    refine lv_iload_n hx hb dX6_isCall_16 rfl (lv_at hl 3 rfl) ?_
    refine lv_icmp_gt (tgt := 24) hx hb dX6_isCall_17 (by decide) (fun c17 => ?_) (fun c17 => ?_)
    · refine lv_iconst (v := 0) hx hb dX6_isCall_24 (by decide) ?_
      exact z_iret F (rfl) hw hS (⟨Or.inr ⟨fun q => q.2 c17, rfl⟩, rfl, rfl⟩) dX6_isCall_25
    · refine lv_iconst (v := 1) hx hb dX6_isCall_20 (by decide) ?_
      refine lv_goto (tgt := 25) hx hb dX6_isCall_21 (by decide) ?_
      exact z_iret F (rfl) hw hS (⟨Or.inl ⟨⟨c7, c17⟩, rfl⟩, rfl, rfl⟩) dX6_isCall_25
set_option maxHeartbeats 4000000 in
set_option maxRecDepth 100000 in
theorem r_way1 (l : Launch) {G : zz_G} {ad : Nat → Nat} {ce : zz_C} {sz : Nat} (T : rf_T) (Q : rf_Q) (M : List Nat) (hV : rfV G ad ce T Q M) : zz_M l yX6_way cX6_way 2 (some .int) 0 0 0 0 G [.ref (ad 100), .int 1] ad ce sz (fun r ad1 ce1 => r = some (.int 1) ∧ ad = ad1 ∧ ce = ce1) := by
  refine zz_enter (by decide) (Nat.le_of_ble_eq_true rfl) ?_
  intro p e s m below meth c ls F hl hw hS hA
  obtain ⟨hx, hb, hr, hml, hown, hts, hlocks, hK, hnm⟩ := id F
  have hl : lv_has ls 2 [(0, .ref (ad 100)), (1, .int 1)] := hl
  obtain ⟨cn, zs, bs, hh, ⟨h100, h101, h102, h103, h104, h105, h106, h107, h108, h109, h110, h111⟩, hQ, hM⟩ := hV
  have hF : ∀ j, j < 100 → ce j = ce j := fun _ _ => rfl
  refine lv_iload_n hx hb dX6_way_0 rfl (lv_at hl 1 rfl) ?_
  refine lv_if_ne (tgt := 8) hx hb dX6_way_1 (by decide) (fun c1 => ?_) (fun c1 => absurd c1 (by decide))
  refine lv_iconst (v := 1) hx hb dX6_way_8 (by decide) ?_
  exact z_iret F (rfl) hw hS (⟨rfl, rfl, rfl⟩) dX6_way_9
set_option maxHeartbeats 4000000 in
set_option maxRecDepth 100000 in
theorem r_rest1 (l : Launch) {G : zz_G} {ad : Nat → Nat} {ce : zz_C} {sz : Nat} (T : rf_T) (Q : rf_Q) (M : List Nat) (hV : rfV G ad ce T Q M) : zz_M l yX6_rest cX6_rest 2 (some .int) 0 0 0 0 G [.ref (ad 100), .int 1] ad ce sz (fun r ad1 ce1 => r = some (.int 0) ∧ ad = ad1 ∧ ce = ce1) := by
  refine zz_enter (by decide) (Nat.le_of_ble_eq_true rfl) ?_
  intro p e s m below meth c ls F hl hw hS hA
  obtain ⟨hx, hb, hr, hml, hown, hts, hlocks, hK, hnm⟩ := id F
  have hl : lv_has ls 2 [(0, .ref (ad 100)), (1, .int 1)] := hl
  obtain ⟨cn, zs, bs, hh, ⟨h100, h101, h102, h103, h104, h105, h106, h107, h108, h109, h110, h111⟩, hQ, hM⟩ := hV
  have hF : ∀ j, j < 100 → ce j = ce j := fun _ _ => rfl
  refine lv_iload_n hx hb dX6_rest_0 rfl (lv_at hl 1 rfl) ?_
  refine lv_if_ne (tgt := 8) hx hb dX6_rest_1 (by decide) (fun c1 => ?_) (fun c1 => absurd c1 (by decide))
  refine lv_iconst (v := 0) hx hb dX6_rest_8 (by decide) ?_
  exact z_iret F (rfl) hw hS (⟨rfl, rfl, rfl⟩) dX6_rest_9
set_option maxHeartbeats 4000000 in
set_option maxRecDepth 100000 in
theorem r_become1 (l : Launch) {G : zz_G} {ad : Nat → Nat} {ce : zz_C} {sz : Nat} (T : rf_T) (Q : rf_Q) (M : List Nat) (hV : rfV G ad ce T Q M) (vs vc vt : Int32) : zz_M l yX6_become cX6_become 5 none 0 0 0 0 G [.ref (ad 100), .int 1, .int vs, .int vc, .int vt] ad ce sz (fun r ad1 ce1 => r = none ∧ ad = ad1 ∧ rfV G ad ce1 (rf_become T 1 vs vc vt) Q M ∧ (∀ j, j < 100 → ce1 j = ce j)) := by
  refine zz_enter (by decide) (Nat.le_of_ble_eq_true rfl) ?_
  intro p e s m below meth c ls F hl hw hS hA
  obtain ⟨hx, hb, hr, hml, hown, hts, hlocks, hK, hnm⟩ := id F
  have hl : lv_has ls 5 [(0, .ref (ad 100)), (1, .int 1), (2, .int vs), (3, .int vc), (4, .int vt)] := hl
  obtain ⟨cn, zs, bs, hh, ⟨h100, h101, h102, h103, h104, h105, h106, h107, h108, h109, h110, h111⟩, hQ, hM⟩ := hV
  have hF : ∀ j, j < 100 → ce j = ce j := fun _ _ => rfl
  refine lv_aload_n hx hb dX6_become_0 rfl (lv_at hl 0 rfl) ?_
  refine z_get F hw h100 fd_X6_23_X6 rfl dX6_become_1 ?_
  refine lv_iload_n hx hb dX6_become_4 rfl (lv_at hl 1 rfl) ?_
  refine lv_iload_n hx hb dX6_become_5 rfl (lv_at hl 2 rfl) ?_
  refine z_st F hw hS h104 (1) (rfl) (by decide) (by decide) dX6_become_6 (fun ce1 H locs h104 fr2 hw hS => ?_)
  have h100 := (fr2 100 (by decide)).trans h100
  have h101 := (fr2 101 (by decide)).trans h101
  have h102 := (fr2 102 (by decide)).trans h102
  have h103 := (fr2 103 (by decide)).trans h103
  have h105 := (fr2 105 (by decide)).trans h105
  have h106 := (fr2 106 (by decide)).trans h106
  have h107 := (fr2 107 (by decide)).trans h107
  have h108 := (fr2 108 (by decide)).trans h108
  have h109 := (fr2 109 (by decide)).trans h109
  have h110 := (fr2 110 (by decide)).trans h110
  have h111 := (fr2 111 (by decide)).trans h111
  have hF : ∀ j, j < 100 → _ = ce j := fun j hj => (fr2 j (by omega)).trans (hF j hj)
  refine lv_aload_n hx hb dX6_become_7 rfl (lv_at hl 0 rfl) ?_
  refine z_get F hw h100 fd_X6_26_X6 rfl dX6_become_8 ?_
  refine lv_iload_n hx hb dX6_become_11 rfl (lv_at hl 1 rfl) ?_
  refine lv_iload_n hx hb dX6_become_12 rfl (lv_at hl 3 rfl) ?_
  refine z_st F hw hS h105 (1) (rfl) (by decide) (by decide) dX6_become_13 (fun ce3 H locs h105 fr4 hw hS => ?_)
  have h100 := (fr4 100 (by decide)).trans h100
  have h101 := (fr4 101 (by decide)).trans h101
  have h102 := (fr4 102 (by decide)).trans h102
  have h103 := (fr4 103 (by decide)).trans h103
  have h104 := (fr4 104 (by decide)).trans h104
  have h106 := (fr4 106 (by decide)).trans h106
  have h107 := (fr4 107 (by decide)).trans h107
  have h108 := (fr4 108 (by decide)).trans h108
  have h109 := (fr4 109 (by decide)).trans h109
  have h110 := (fr4 110 (by decide)).trans h110
  have h111 := (fr4 111 (by decide)).trans h111
  have hF : ∀ j, j < 100 → _ = ce j := fun j hj => (fr4 j (by omega)).trans (hF j hj)
  refine lv_aload_n hx hb dX6_become_14 rfl (lv_at hl 0 rfl) ?_
  refine z_get F hw h100 fd_X6_29_X6 rfl dX6_become_15 ?_
  refine lv_iload_n hx hb dX6_become_18 rfl (lv_at hl 1 rfl) ?_
  refine lv_iload hx hb dX6_become_19 (lv_at hl 4 rfl) ?_
  refine z_st F hw hS h106 (1) (rfl) (by decide) (by decide) dX6_become_21 (fun ce5 H locs h106 fr6 hw hS => ?_)
  have h100 := (fr6 100 (by decide)).trans h100
  have h101 := (fr6 101 (by decide)).trans h101
  have h102 := (fr6 102 (by decide)).trans h102
  have h103 := (fr6 103 (by decide)).trans h103
  have h104 := (fr6 104 (by decide)).trans h104
  have h105 := (fr6 105 (by decide)).trans h105
  have h107 := (fr6 107 (by decide)).trans h107
  have h108 := (fr6 108 (by decide)).trans h108
  have h109 := (fr6 109 (by decide)).trans h109
  have h110 := (fr6 110 (by decide)).trans h110
  have h111 := (fr6 111 (by decide)).trans h111
  have hF : ∀ j, j < 100 → _ = ce j := fun j hj => (fr6 j (by omega)).trans (hF j hj)
  refine lv_aload_n hx hb dX6_become_22 rfl (lv_at hl 0 rfl) ?_
  refine z_get F hw h100 fd_X6_32_X6 rfl dX6_become_23 ?_
  refine lv_iload_n hx hb dX6_become_26 rfl (lv_at hl 1 rfl) ?_
  refine lv_iconst (v := 0) hx hb dX6_become_27 (by decide) ?_
  refine z_zst F hw hS h107 (1) (rfl) (by decide) (by decide) (rfl) dX6_become_28 (fun ce7 H locs h107 fr8 hw hS => ?_)
  have h100 := (fr8 100 (by decide)).trans h100
  have h101 := (fr8 101 (by decide)).trans h101
  have h102 := (fr8 102 (by decide)).trans h102
  have h103 := (fr8 103 (by decide)).trans h103
  have h104 := (fr8 104 (by decide)).trans h104
  have h105 := (fr8 105 (by decide)).trans h105
  have h106 := (fr8 106 (by decide)).trans h106
  have h108 := (fr8 108 (by decide)).trans h108
  have h109 := (fr8 109 (by decide)).trans h109
  have h110 := (fr8 110 (by decide)).trans h110
  have h111 := (fr8 111 (by decide)).trans h111
  have hF : ∀ j, j < 100 → _ = ce j := fun j hj => (fr8 j (by omega)).trans (hF j hj)
  exact z_vret F hw hS (⟨rfl, rfl, ⟨_, _, _, _, ⟨h100, h101, h102, h103, h104, h105, h106, h107, h108, h109, h110, h111⟩, hQ, hM⟩, hF⟩) dX6_become_29
set_option maxHeartbeats 4000000 in
set_option maxRecDepth 100000 in
theorem r_isCall1 (l : Launch) {G : zz_G} {ad : Nat → Nat} {ce : zz_C} {sz : Nat} (T : rf_T) (Q : rf_Q) (M : List Nat) (hV : rfV G ad ce T Q M) (lo hi : Int32) : zz_M l yX6_isCall cX6_isCall 4 (some .boolean) 0 0 0 0 G [.ref (ad 100), .int 1, .int lo, .int hi] ad ce sz (fun r ad1 ce1 => ((rf_inC T 1 lo hi ∧ r = some (.int 1)) ∨ (¬ rf_inC T 1 lo hi ∧ r = some (.int 0))) ∧ ad = ad1 ∧ ce = ce1) := by
  refine zz_enter (by decide) (Nat.le_of_ble_eq_true rfl) ?_
  intro p e s m below meth c ls F hl hw hS hA
  obtain ⟨hx, hb, hr, hml, hown, hts, hlocks, hK, hnm⟩ := id F
  have hl : lv_has ls 4 [(0, .ref (ad 100)), (1, .int 1), (2, .int lo), (3, .int hi)] := hl
  obtain ⟨cn, zs, bs, hh, ⟨h100, h101, h102, h103, h104, h105, h106, h107, h108, h109, h110, h111⟩, hQ, hM⟩ := hV
  have hF : ∀ j, j < 100 → ce j = ce j := fun _ _ => rfl
  refine lv_aload_n hx hb dX6_isCall_0 rfl (lv_at hl 0 rfl) ?_
  refine z_get F hw h100 fd_X6_26_X6 rfl dX6_isCall_1 ?_
  refine lv_iload_n hx hb dX6_isCall_4 rfl (lv_at hl 1 rfl) ?_
  refine z_ld F hw h105 (1) (rfl) (by decide) (by decide) dX6_isCall_5 ?_
  refine lv_iload_n hx hb dX6_isCall_6 rfl (lv_at hl 2 rfl) ?_
  refine lv_icmp_lt (tgt := 24) hx hb dX6_isCall_7 (by decide) (fun c7 => ?_) (fun c7 => ?_)
  · refine lv_iconst (v := 0) hx hb dX6_isCall_24 (by decide) ?_
    exact z_iret F (rfl) hw hS (⟨Or.inr ⟨fun q => q.1 c7, rfl⟩, rfl, rfl⟩) dX6_isCall_25
  · refine lv_aload_n hx hb dX6_isCall_10 rfl (lv_at hl 0 rfl) ?_
    refine z_get F hw h100 fd_X6_26_X6 rfl dX6_isCall_11 ?_
    refine lv_iload_n hx hb dX6_isCall_14 rfl (lv_at hl 1 rfl) ?_
    refine z_ld F hw h105 (1) (rfl) (by decide) (by decide) dX6_isCall_15 ?_
    refine lv_iload_n hx hb dX6_isCall_16 rfl (lv_at hl 3 rfl) ?_
    refine lv_icmp_gt (tgt := 24) hx hb dX6_isCall_17 (by decide) (fun c17 => ?_) (fun c17 => ?_)
    · refine lv_iconst (v := 0) hx hb dX6_isCall_24 (by decide) ?_
      exact z_iret F (rfl) hw hS (⟨Or.inr ⟨fun q => q.2 c17, rfl⟩, rfl, rfl⟩) dX6_isCall_25
    · refine lv_iconst (v := 1) hx hb dX6_isCall_20 (by decide) ?_
      refine lv_goto (tgt := 25) hx hb dX6_isCall_21 (by decide) ?_
      exact z_iret F (rfl) hw hS (⟨Or.inl ⟨⟨c7, c17⟩, rfl⟩, rfl, rfl⟩) dX6_isCall_25
set_option maxHeartbeats 4000000 in
set_option maxRecDepth 100000 in
theorem r_turned (l : Launch) {G : zz_G} {ad : Nat → Nat} {ce : zz_C} {sz : Nat} (a b : Int32) : zz_M l yX6_turned cX6_turned 3 (some .int) 0 0 0 0 G [.int a, .int b] ad ce sz (fun r ad1 ce1 => r = some (.int (rf_turned a b)) ∧ ad = ad1 ∧ ce = ce1) := by
  refine zz_enter (by decide) (Nat.le_of_ble_eq_true rfl) ?_
  intro p e s m below meth c ls F hl hw hS hA
  obtain ⟨hx, hb, hr, hml, hown, hts, hlocks, hK, hnm⟩ := id F
  have hl : lv_has ls 3 [(0, .int a), (1, .int b)] := hl
  refine lv_iload_n hx hb dX6_turned_0 rfl (lv_at hl 0 rfl) ?_
  refine lv_iload_n hx hb dX6_turned_1 rfl (lv_at hl 1 rfl) ?_
  refine lv_ixor hx hb dX6_turned_2 ?_
  refine lv_ldc (v := 16777619) hx hb hown (hts _ wd_828) dX6_turned_3 ?_
  refine lv_imul hx hb dX6_turned_5 ?_
  refine lv_istore_n (lv' := [(2, .int ((a ^^^ b) * 16777619)), (0, .int a), (1, .int b)]) hx hb dX6_turned_6 rfl hl (by decide) rfl (fun ls hl => ?_)
  refine lv_iload_n hx hb dX6_turned_7 rfl (lv_at hl 0 rfl) ?_
  refine lv_iconst (v := 5) hx hb dX6_turned_8 (by decide) ?_
  refine lv_ishl hx hb dX6_turned_9 ?_
  refine lv_iload_n hx hb dX6_turned_10 rfl (lv_at hl 0 rfl) ?_
  refine lv_bipush (v := 27) hx hb dX6_turned_11 (by decide) ?_
  refine lv_iushr hx hb dX6_turned_13 rfl ?_
  refine lv_ior hx hb dX6_turned_14 ?_
  exact z_iret F (rfl) hw hS (⟨rfl, rfl, rfl⟩) dX6_turned_15
set_option maxHeartbeats 4000000 in
set_option maxRecDepth 100000 in
theorem r_isWay (l : Launch) {G : zz_G} {ad : Nat → Nat} {ce : zz_C} {sz : Nat} (a : Int32) : zz_M l yX6_isWay cX6_isWay 1 (some .boolean) 0 0 0 0 G [.int a] ad ce sz (fun r ad1 ce1 => (((a = 0 ∨ a = 1) ∧ r = some (.int 1)) ∨ (¬ (a = 0 ∨ a = 1) ∧ r = some (.int 0))) ∧ ad = ad1 ∧ ce = ce1) := by
  refine zz_enter (by decide) (Nat.le_of_ble_eq_true rfl) ?_
  intro p e s m below meth c ls F hl hw hS hA
  obtain ⟨hx, hb, hr, hml, hown, hts, hlocks, hK, hnm⟩ := id F
  have hl : lv_has ls 1 [(0, .int a)] := hl
  refine lv_iload_n hx hb dX6_isWay_0 rfl (lv_at hl 0 rfl) ?_
  refine lv_if_eq (tgt := 9) hx hb dX6_isWay_1 (by decide) (fun c1 => ?_) (fun c1 => ?_)
  · refine lv_iconst (v := 1) hx hb dX6_isWay_9 (by decide) ?_
    refine lv_goto (tgt := 14) hx hb dX6_isWay_10 (by decide) ?_
    exact z_iret F (rfl) hw hS (⟨Or.inl ⟨Or.inl c1, rfl⟩, rfl, rfl⟩) dX6_isWay_14
  · refine lv_iload_n hx hb dX6_isWay_4 rfl (lv_at hl 0 rfl) ?_
    refine lv_iconst (v := 1) hx hb dX6_isWay_5 (by decide) ?_
    refine lv_icmp_ne (tgt := 13) hx hb dX6_isWay_6 (by decide) (fun c6 => ?_) (fun c6 => ?_)
    · refine lv_iconst (v := 0) hx hb dX6_isWay_13 (by decide) ?_
      exact z_iret F (rfl) hw hS (⟨Or.inr ⟨fun q => q.elim c1 c6, rfl⟩, rfl, rfl⟩) dX6_isWay_14
    · refine lv_iconst (v := 1) hx hb dX6_isWay_9 (by decide) ?_
      refine lv_goto (tgt := 14) hx hb dX6_isWay_10 (by decide) ?_
      exact z_iret F (rfl) hw hS (⟨Or.inl ⟨Or.inr c6, rfl⟩, rfl, rfl⟩) dX6_isWay_14
set_option maxHeartbeats 4000000 in
set_option maxRecDepth 100000 in
theorem r_put0 (l : Launch) {G : zz_G} {ad : Nat → Nat} {ce : zz_C} {sz : Nat} (T : rf_T) (Q : rf_Q) (M : List Nat) (hV : rfV G ad ce T Q M) (a b : Nat) (ha : a < 256) (hb0 : b < 256) : zz_M l yX6_put cX6_put 5 (some .int) 0 0 0 0 G [.ref (ad 100), .int 0, .int (nI a), .int (nI b)] ad ce sz (fun r ad1 ce1 => r = some (.int (rf_hd T Q 0)) ∧ ad = ad1 ∧ rfV G ad ce1 T (rf_put T Q 0 [a, b]) M ∧ (∀ j, j < 100 → ce1 j = ce j)) := by
  refine zz_enter (by decide) (Nat.le_of_ble_eq_true rfl) ?_
  intro p e s m below meth c ls F hl hw hS hA
  obtain ⟨hx, hb, hr, hml, hown, hts, hlocks, hK, hnm⟩ := id F
  have hl : lv_has ls 5 [(0, .ref (ad 100)), (1, .int 0), (2, .int (nI a)), (3, .int (nI b))] := hl
  obtain ⟨cn, zs, bs, hh, ⟨h100, h101, h102, h103, h104, h105, h106, h107, h108, h109, h110, h111⟩, hQ, hM⟩ := hV
  have hF : ∀ j, j < 100 → ce j = ce j := fun _ _ => rfl
  obtain ⟨hle, hcn, -⟩ := hQ 0 (by decide)
  refine lv_aload_n hx hb dX6_put_0 rfl (lv_at hl 0 rfl) ?_
  refine z_get F hw h100 fd_X6_60_X6 rfl dX6_put_1 ?_
  refine lv_if_ne (tgt := 18) hx hb dX6_put_4 (by decide) (fun c4 => ?_) (fun c4 => ?_)
  · refine lv_bipush (v := -3) hx hb dX6_put_18 (by decide) ?_
    exact z_iret F (rfl) hw hS (by unfold rf_hd rf_put; rw [if_neg (fun q => c4 q.1), if_neg (fun q => c4 q.1)]; exact ⟨rfl, rfl, ⟨_, _, _, _, ⟨h100, h101, h102, h103, h104, h105, h106, h107, h108, h109, h110, h111⟩, hQ, hM⟩, hF⟩) dX6_put_20
  · refine lv_aload_n hx hb dX6_put_7 rfl (lv_at hl 0 rfl) ?_
    refine z_get F hw h100 fd_X6_13_X6 rfl dX6_put_8 ?_
    refine lv_iload_n hx hb dX6_put_11 rfl (lv_at hl 1 rfl) ?_
    refine z_ld F hw h101 (0) (rfl) (by decide) (by decide) dX6_put_12 ?_
    refine lv_bipush (v := 8) hx hb dX6_put_13 (by decide) ?_
    refine lv_icmp_ne (tgt := 21) hx hb dX6_put_15 (by decide) (fun c15 => ?_) (fun c15 => ?_)
    · have hL : (Q 0).length < 8 := Nat.lt_of_le_of_ne hle (fun q => c15 (by rw [hcn, q]; rfl))
      refine lv_bipush (v := 8) hx hb dX6_put_21 (by decide) ?_
      refine lv_iload_n hx hb dX6_put_23 rfl (lv_at hl 1 rfl) ?_
      refine lv_imul hx hb dX6_put_24 ?_
      refine z_top 0 (by decide) ?_
      refine lv_aload_n hx hb dX6_put_25 rfl (lv_at hl 0 rfl) ?_
      refine z_get F hw h100 fd_X6_13_X6 rfl dX6_put_26 ?_
      refine lv_iload_n hx hb dX6_put_29 rfl (lv_at hl 1 rfl) ?_
      refine z_ld F hw h101 (0) (rfl) (by decide) (by decide) dX6_put_30 ?_
      refine lv_iadd hx hb dX6_put_31 ?_
      refine z_top (nI (8 * 0 + (Q 0).length)) (by rw [hcn, show (0 : Int32) = nI (8 * 0) from rfl, nI_add]) ?_
      refine lv_istore (lv' := [(4, .int (nI (8 * 0 + (Q 0).length))), (0, .ref (ad 100)), (1, .int 0), (2, .int (nI a)), (3, .int (nI b))]) hx hb dX6_put_32 hl (by decide) rfl (fun ls hl => ?_)
      refine lv_aload_n hx hb dX6_put_34 rfl (lv_at hl 1 rfl) ?_
      refine z_get F hw h100 fd_X6_13_X6 rfl dX6_put_35 ?_
      refine lv_iload_n hx hb dX6_put_38 rfl (lv_at hl 2 rfl) ?_
      refine lv_dup2_11 hx hb dX6_put_39 rfl rfl ?_
      refine z_ld F hw h101 (0) (rfl) (by decide) (by decide) dX6_put_40 ?_
      refine lv_iconst (v := 1) hx hb dX6_put_41 (by decide) ?_
      refine lv_iadd hx hb dX6_put_42 ?_
      refine z_st F hw hS h101 (0) (rfl) (by decide) (by decide) dX6_put_43 (fun ce1 H locs h101 fr2 hw hS => ?_)
      have h100 := (fr2 100 (by decide)).trans h100
      have h102 := (fr2 102 (by decide)).trans h102
      have h103 := (fr2 103 (by decide)).trans h103
      have h104 := (fr2 104 (by decide)).trans h104
      have h105 := (fr2 105 (by decide)).trans h105
      have h106 := (fr2 106 (by decide)).trans h106
      have h107 := (fr2 107 (by decide)).trans h107
      have h108 := (fr2 108 (by decide)).trans h108
      have h109 := (fr2 109 (by decide)).trans h109
      have h110 := (fr2 110 (by decide)).trans h110
      have h111 := (fr2 111 (by decide)).trans h111
      have hF : ∀ j, j < 100 → _ = ce j := fun j hj => (fr2 j (by omega)).trans (hF j hj)
      refine lv_aload_n hx hb dX6_put_44 rfl (lv_at hl 1 rfl) ?_
      refine z_get F hw h100 fd_X6_17_X6 rfl dX6_put_45 ?_
      refine lv_iload hx hb dX6_put_48 (lv_at hl 0 rfl) ?_
      refine lv_iconst (v := 2) hx hb dX6_put_50 (by decide) ?_
      refine z_st F hw hS h102 (8 * 0 + (Q 0).length) (rfl) (by omega) (by decide) dX6_put_51 (fun ce3 H locs h102 fr4 hw hS => ?_)
      have h100 := (fr4 100 (by decide)).trans h100
      have h101 := (fr4 101 (by decide)).trans h101
      have h103 := (fr4 103 (by decide)).trans h103
      have h104 := (fr4 104 (by decide)).trans h104
      have h105 := (fr4 105 (by decide)).trans h105
      have h106 := (fr4 106 (by decide)).trans h106
      have h107 := (fr4 107 (by decide)).trans h107
      have h108 := (fr4 108 (by decide)).trans h108
      have h109 := (fr4 109 (by decide)).trans h109
      have h110 := (fr4 110 (by decide)).trans h110
      have h111 := (fr4 111 (by decide)).trans h111
      have hF : ∀ j, j < 100 → _ = ce j := fun j hj => (fr4 j (by omega)).trans (hF j hj)
      refine lv_aload_n hx hb dX6_put_52 rfl (lv_at hl 1 rfl) ?_
      refine z_get F hw h100 fd_X6_20_X6 rfl dX6_put_53 ?_
      refine lv_bipush (v := 24) hx hb dX6_put_56 (by decide) ?_
      refine lv_iload hx hb dX6_put_58 (lv_at hl 0 rfl) ?_
      refine lv_imul hx hb dX6_put_60 ?_
      refine z_top (nI (24 * (8 * 0 + (Q 0).length))) (by rw [show (24 : Int32) = nI 24 from rfl, pk_mul]) ?_
      refine lv_iload_n hx hb dX6_put_61 rfl (lv_at hl 3 rfl) ?_
      refine z_st F hw hS h103 (24 * (8 * 0 + (Q 0).length)) (rfl) (by omega) (by decide) dX6_put_62 (fun ce5 H locs h103 fr6 hw hS => ?_)
      have h100 := (fr6 100 (by decide)).trans h100
      have h101 := (fr6 101 (by decide)).trans h101
      have h102 := (fr6 102 (by decide)).trans h102
      have h104 := (fr6 104 (by decide)).trans h104
      have h105 := (fr6 105 (by decide)).trans h105
      have h106 := (fr6 106 (by decide)).trans h106
      have h107 := (fr6 107 (by decide)).trans h107
      have h108 := (fr6 108 (by decide)).trans h108
      have h109 := (fr6 109 (by decide)).trans h109
      have h110 := (fr6 110 (by decide)).trans h110
      have h111 := (fr6 111 (by decide)).trans h111
      have hF : ∀ j, j < 100 → _ = ce j := fun j hj => (fr6 j (by omega)).trans (hF j hj)
      refine lv_aload_n hx hb dX6_put_63 rfl (lv_at hl 1 rfl) ?_
      refine z_get F hw h100 fd_X6_20_X6 rfl dX6_put_64 ?_
      refine lv_bipush (v := 24) hx hb dX6_put_67 (by decide) ?_
      refine lv_iload hx hb dX6_put_69 (lv_at hl 0 rfl) ?_
      refine lv_imul hx hb dX6_put_71 ?_
      refine z_top (nI (24 * (8 * 0 + (Q 0).length))) (by rw [show (24 : Int32) = nI 24 from rfl, pk_mul]) ?_
      refine lv_iconst (v := 1) hx hb dX6_put_72 (by decide) ?_
      refine lv_iadd hx hb dX6_put_73 ?_
      refine z_top (nI (24 * (8 * 0 + (Q 0).length) + 1)) (nI_1 _) ?_
      refine lv_iload_n hx hb dX6_put_74 rfl (lv_at hl 4 rfl) ?_
      refine z_st F hw hS h103 (24 * (8 * 0 + (Q 0).length) + 1) (rfl) (by omega) (by decide) dX6_put_75 (fun ce7 H locs h103 fr8 hw hS => ?_)
      have h100 := (fr8 100 (by decide)).trans h100
      have h101 := (fr8 101 (by decide)).trans h101
      have h102 := (fr8 102 (by decide)).trans h102
      have h104 := (fr8 104 (by decide)).trans h104
      have h105 := (fr8 105 (by decide)).trans h105
      have h106 := (fr8 106 (by decide)).trans h106
      have h107 := (fr8 107 (by decide)).trans h107
      have h108 := (fr8 108 (by decide)).trans h108
      have h109 := (fr8 109 (by decide)).trans h109
      have h110 := (fr8 110 (by decide)).trans h110
      have h111 := (fr8 111 (by decide)).trans h111
      have hF : ∀ j, j < 100 → _ = ce j := fun j hj => (fr8 j (by omega)).trans (hF j hj)
      refine lv_iload hx hb dX6_put_76 (lv_at hl 0 rfl) ?_
      exact z_iret F (rfl) hw hS (by unfold rf_hd rf_put; rw [if_pos ⟨c4, hL⟩, if_pos ⟨c4, hL⟩]; exact ⟨rfl, rfl, ⟨_, _, _, _, ⟨h100, h101, h102, h103, h104, h105, h106, h107, h108, h109, h110, h111⟩, rfQ_put hQ (by decide) hL ha hb0, hM⟩, hF⟩) dX6_put_78
    · refine lv_bipush (v := -3) hx hb dX6_put_18 (by decide) ?_
      exact z_iret F (rfl) hw hS (by unfold rf_hd rf_put; rw [if_neg (fun q => (by have h1 := q.2; rw [hcn] at c15; exact (Nat.ne_of_lt h1) ((nI_eq (by omega) (by decide)).mp c15))), if_neg (fun q => (by have h1 := q.2; rw [hcn] at c15; exact (Nat.ne_of_lt h1) ((nI_eq (by omega) (by decide)).mp c15)))]; exact ⟨rfl, rfl, ⟨_, _, _, _, ⟨h100, h101, h102, h103, h104, h105, h106, h107, h108, h109, h110, h111⟩, hQ, hM⟩, hF⟩) dX6_put_20
set_option maxHeartbeats 4000000 in
set_option maxRecDepth 100000 in
theorem r_put1 (l : Launch) {G : zz_G} {ad : Nat → Nat} {ce : zz_C} {sz : Nat} (T : rf_T) (Q : rf_Q) (M : List Nat) (hV : rfV G ad ce T Q M) (a b : Nat) (ha : a < 256) (hb0 : b < 256) : zz_M l yX6_put cX6_put 5 (some .int) 0 0 0 0 G [.ref (ad 100), .int 1, .int (nI a), .int (nI b)] ad ce sz (fun r ad1 ce1 => r = some (.int (rf_hd T Q 1)) ∧ ad = ad1 ∧ rfV G ad ce1 T (rf_put T Q 1 [a, b]) M ∧ (∀ j, j < 100 → ce1 j = ce j)) := by
  refine zz_enter (by decide) (Nat.le_of_ble_eq_true rfl) ?_
  intro p e s m below meth c ls F hl hw hS hA
  obtain ⟨hx, hb, hr, hml, hown, hts, hlocks, hK, hnm⟩ := id F
  have hl : lv_has ls 5 [(0, .ref (ad 100)), (1, .int 1), (2, .int (nI a)), (3, .int (nI b))] := hl
  obtain ⟨cn, zs, bs, hh, ⟨h100, h101, h102, h103, h104, h105, h106, h107, h108, h109, h110, h111⟩, hQ, hM⟩ := hV
  have hF : ∀ j, j < 100 → ce j = ce j := fun _ _ => rfl
  obtain ⟨hle, hcn, -⟩ := hQ 1 (by decide)
  refine lv_aload_n hx hb dX6_put_0 rfl (lv_at hl 0 rfl) ?_
  refine z_get F hw h100 fd_X6_60_X6 rfl dX6_put_1 ?_
  refine lv_if_ne (tgt := 18) hx hb dX6_put_4 (by decide) (fun c4 => ?_) (fun c4 => ?_)
  · refine lv_bipush (v := -3) hx hb dX6_put_18 (by decide) ?_
    exact z_iret F (rfl) hw hS (by unfold rf_hd rf_put; rw [if_neg (fun q => c4 q.1), if_neg (fun q => c4 q.1)]; exact ⟨rfl, rfl, ⟨_, _, _, _, ⟨h100, h101, h102, h103, h104, h105, h106, h107, h108, h109, h110, h111⟩, hQ, hM⟩, hF⟩) dX6_put_20
  · refine lv_aload_n hx hb dX6_put_7 rfl (lv_at hl 0 rfl) ?_
    refine z_get F hw h100 fd_X6_13_X6 rfl dX6_put_8 ?_
    refine lv_iload_n hx hb dX6_put_11 rfl (lv_at hl 1 rfl) ?_
    refine z_ld F hw h101 (1) (rfl) (by decide) (by decide) dX6_put_12 ?_
    refine lv_bipush (v := 8) hx hb dX6_put_13 (by decide) ?_
    refine lv_icmp_ne (tgt := 21) hx hb dX6_put_15 (by decide) (fun c15 => ?_) (fun c15 => ?_)
    · have hL : (Q 1).length < 8 := Nat.lt_of_le_of_ne hle (fun q => c15 (by rw [hcn, q]; rfl))
      refine lv_bipush (v := 8) hx hb dX6_put_21 (by decide) ?_
      refine lv_iload_n hx hb dX6_put_23 rfl (lv_at hl 1 rfl) ?_
      refine lv_imul hx hb dX6_put_24 ?_
      refine z_top 8 (by decide) ?_
      refine lv_aload_n hx hb dX6_put_25 rfl (lv_at hl 0 rfl) ?_
      refine z_get F hw h100 fd_X6_13_X6 rfl dX6_put_26 ?_
      refine lv_iload_n hx hb dX6_put_29 rfl (lv_at hl 1 rfl) ?_
      refine z_ld F hw h101 (1) (rfl) (by decide) (by decide) dX6_put_30 ?_
      refine lv_iadd hx hb dX6_put_31 ?_
      refine z_top (nI (8 * 1 + (Q 1).length)) (by rw [hcn, show (8 : Int32) = nI (8 * 1) from rfl, nI_add]) ?_
      refine lv_istore (lv' := [(4, .int (nI (8 * 1 + (Q 1).length))), (0, .ref (ad 100)), (1, .int 1), (2, .int (nI a)), (3, .int (nI b))]) hx hb dX6_put_32 hl (by decide) rfl (fun ls hl => ?_)
      refine lv_aload_n hx hb dX6_put_34 rfl (lv_at hl 1 rfl) ?_
      refine z_get F hw h100 fd_X6_13_X6 rfl dX6_put_35 ?_
      refine lv_iload_n hx hb dX6_put_38 rfl (lv_at hl 2 rfl) ?_
      refine lv_dup2_11 hx hb dX6_put_39 rfl rfl ?_
      refine z_ld F hw h101 (1) (rfl) (by decide) (by decide) dX6_put_40 ?_
      refine lv_iconst (v := 1) hx hb dX6_put_41 (by decide) ?_
      refine lv_iadd hx hb dX6_put_42 ?_
      refine z_st F hw hS h101 (1) (rfl) (by decide) (by decide) dX6_put_43 (fun ce1 H locs h101 fr2 hw hS => ?_)
      have h100 := (fr2 100 (by decide)).trans h100
      have h102 := (fr2 102 (by decide)).trans h102
      have h103 := (fr2 103 (by decide)).trans h103
      have h104 := (fr2 104 (by decide)).trans h104
      have h105 := (fr2 105 (by decide)).trans h105
      have h106 := (fr2 106 (by decide)).trans h106
      have h107 := (fr2 107 (by decide)).trans h107
      have h108 := (fr2 108 (by decide)).trans h108
      have h109 := (fr2 109 (by decide)).trans h109
      have h110 := (fr2 110 (by decide)).trans h110
      have h111 := (fr2 111 (by decide)).trans h111
      have hF : ∀ j, j < 100 → _ = ce j := fun j hj => (fr2 j (by omega)).trans (hF j hj)
      refine lv_aload_n hx hb dX6_put_44 rfl (lv_at hl 1 rfl) ?_
      refine z_get F hw h100 fd_X6_17_X6 rfl dX6_put_45 ?_
      refine lv_iload hx hb dX6_put_48 (lv_at hl 0 rfl) ?_
      refine lv_iconst (v := 2) hx hb dX6_put_50 (by decide) ?_
      refine z_st F hw hS h102 (8 * 1 + (Q 1).length) (rfl) (by omega) (by decide) dX6_put_51 (fun ce3 H locs h102 fr4 hw hS => ?_)
      have h100 := (fr4 100 (by decide)).trans h100
      have h101 := (fr4 101 (by decide)).trans h101
      have h103 := (fr4 103 (by decide)).trans h103
      have h104 := (fr4 104 (by decide)).trans h104
      have h105 := (fr4 105 (by decide)).trans h105
      have h106 := (fr4 106 (by decide)).trans h106
      have h107 := (fr4 107 (by decide)).trans h107
      have h108 := (fr4 108 (by decide)).trans h108
      have h109 := (fr4 109 (by decide)).trans h109
      have h110 := (fr4 110 (by decide)).trans h110
      have h111 := (fr4 111 (by decide)).trans h111
      have hF : ∀ j, j < 100 → _ = ce j := fun j hj => (fr4 j (by omega)).trans (hF j hj)
      refine lv_aload_n hx hb dX6_put_52 rfl (lv_at hl 1 rfl) ?_
      refine z_get F hw h100 fd_X6_20_X6 rfl dX6_put_53 ?_
      refine lv_bipush (v := 24) hx hb dX6_put_56 (by decide) ?_
      refine lv_iload hx hb dX6_put_58 (lv_at hl 0 rfl) ?_
      refine lv_imul hx hb dX6_put_60 ?_
      refine z_top (nI (24 * (8 * 1 + (Q 1).length))) (by rw [show (24 : Int32) = nI 24 from rfl, pk_mul]) ?_
      refine lv_iload_n hx hb dX6_put_61 rfl (lv_at hl 3 rfl) ?_
      refine z_st F hw hS h103 (24 * (8 * 1 + (Q 1).length)) (rfl) (by omega) (by decide) dX6_put_62 (fun ce5 H locs h103 fr6 hw hS => ?_)
      have h100 := (fr6 100 (by decide)).trans h100
      have h101 := (fr6 101 (by decide)).trans h101
      have h102 := (fr6 102 (by decide)).trans h102
      have h104 := (fr6 104 (by decide)).trans h104
      have h105 := (fr6 105 (by decide)).trans h105
      have h106 := (fr6 106 (by decide)).trans h106
      have h107 := (fr6 107 (by decide)).trans h107
      have h108 := (fr6 108 (by decide)).trans h108
      have h109 := (fr6 109 (by decide)).trans h109
      have h110 := (fr6 110 (by decide)).trans h110
      have h111 := (fr6 111 (by decide)).trans h111
      have hF : ∀ j, j < 100 → _ = ce j := fun j hj => (fr6 j (by omega)).trans (hF j hj)
      refine lv_aload_n hx hb dX6_put_63 rfl (lv_at hl 1 rfl) ?_
      refine z_get F hw h100 fd_X6_20_X6 rfl dX6_put_64 ?_
      refine lv_bipush (v := 24) hx hb dX6_put_67 (by decide) ?_
      refine lv_iload hx hb dX6_put_69 (lv_at hl 0 rfl) ?_
      refine lv_imul hx hb dX6_put_71 ?_
      refine z_top (nI (24 * (8 * 1 + (Q 1).length))) (by rw [show (24 : Int32) = nI 24 from rfl, pk_mul]) ?_
      refine lv_iconst (v := 1) hx hb dX6_put_72 (by decide) ?_
      refine lv_iadd hx hb dX6_put_73 ?_
      refine z_top (nI (24 * (8 * 1 + (Q 1).length) + 1)) (nI_1 _) ?_
      refine lv_iload_n hx hb dX6_put_74 rfl (lv_at hl 4 rfl) ?_
      refine z_st F hw hS h103 (24 * (8 * 1 + (Q 1).length) + 1) (rfl) (by omega) (by decide) dX6_put_75 (fun ce7 H locs h103 fr8 hw hS => ?_)
      have h100 := (fr8 100 (by decide)).trans h100
      have h101 := (fr8 101 (by decide)).trans h101
      have h102 := (fr8 102 (by decide)).trans h102
      have h104 := (fr8 104 (by decide)).trans h104
      have h105 := (fr8 105 (by decide)).trans h105
      have h106 := (fr8 106 (by decide)).trans h106
      have h107 := (fr8 107 (by decide)).trans h107
      have h108 := (fr8 108 (by decide)).trans h108
      have h109 := (fr8 109 (by decide)).trans h109
      have h110 := (fr8 110 (by decide)).trans h110
      have h111 := (fr8 111 (by decide)).trans h111
      have hF : ∀ j, j < 100 → _ = ce j := fun j hj => (fr8 j (by omega)).trans (hF j hj)
      refine lv_iload hx hb dX6_put_76 (lv_at hl 0 rfl) ?_
      exact z_iret F (rfl) hw hS (by unfold rf_hd rf_put; rw [if_pos ⟨c4, hL⟩, if_pos ⟨c4, hL⟩]; exact ⟨rfl, rfl, ⟨_, _, _, _, ⟨h100, h101, h102, h103, h104, h105, h106, h107, h108, h109, h110, h111⟩, rfQ_put hQ (by decide) hL ha hb0, hM⟩, hF⟩) dX6_put_78
    · refine lv_bipush (v := -3) hx hb dX6_put_18 (by decide) ?_
      exact z_iret F (rfl) hw hS (by unfold rf_hd rf_put; rw [if_neg (fun q => (by have h1 := q.2; rw [hcn] at c15; exact (Nat.ne_of_lt h1) ((nI_eq (by omega) (by decide)).mp c15))), if_neg (fun q => (by have h1 := q.2; rw [hcn] at c15; exact (Nat.ne_of_lt h1) ((nI_eq (by omega) (by decide)).mp c15)))]; exact ⟨rfl, rfl, ⟨_, _, _, _, ⟨h100, h101, h102, h103, h104, h105, h106, h107, h108, h109, h110, h111⟩, hQ, hM⟩, hF⟩) dX6_put_20
set_option maxHeartbeats 4000000 in
set_option maxRecDepth 100000 in
theorem r_more_n (l : Launch) {G : zz_G} {ad : Nat → Nat} {ce : zz_C} {sz : Nat} (T : rf_T) (Q : rf_Q) (M : List Nat) (hV : rfV G ad ce T Q M) (b : Int32) : zz_M l yX6_more cX6_more 3 none 0 0 0 0 G [.ref (ad 100), .int (-3), .int b] ad ce sz (fun r ad1 ce1 => r = none ∧ ad = ad1 ∧ rfV G ad ce1 T Q M ∧ (∀ j, j < 100 → ce1 j = ce j)) := by
  refine zz_enter (by decide) (Nat.le_of_ble_eq_true rfl) ?_
  intro p e s m below meth c ls F hl hw hS hA
  obtain ⟨hx, hb, hr, hml, hown, hts, hlocks, hK, hnm⟩ := id F
  have hl : lv_has ls 3 [(0, .ref (ad 100)), (1, .int (-3)), (2, .int b)] := hl
  obtain ⟨cn, zs, bs, hh, ⟨h100, h101, h102, h103, h104, h105, h106, h107, h108, h109, h110, h111⟩, hQ, hM⟩ := hV
  have hF : ∀ j, j < 100 → ce j = ce j := fun _ _ => rfl
  refine lv_iload_n hx hb dX6_more_0 rfl (lv_at hl 1 rfl) ?_
  refine lv_bipush (v := -3) hx hb dX6_more_1 (by decide) ?_
  refine lv_icmp_eq (tgt := 37) hx hb dX6_more_3 (by decide) (fun c3 => ?_) (fun c3 => absurd c3 (by decide))
  exact z_vret F hw hS (⟨rfl, rfl, ⟨_, _, _, _, ⟨h100, h101, h102, h103, h104, h105, h106, h107, h108, h109, h110, h111⟩, hQ, hM⟩, hF⟩) dX6_more_37
set_option maxHeartbeats 4000000 in
set_option maxRecDepth 100000 in
theorem r_more_s (l : Launch) {G : zz_G} {ad : Nat → Nat} {ce : zz_C} {sz : Nat} (T : rf_T) (Q : rf_Q) (M : List Nat) (w : Nat) (x : List Nat) (hV : rfV G ad ce T (va_up Q w (Q w ++ [x])) M) (hw2 : w < 2) (hx24 : x.length < 24) (b : Int32) : zz_M l yX6_more cX6_more 3 none 0 0 0 0 G [.ref (ad 100), .int (nI (8 * w + (Q w).length)), .int b] ad ce sz (fun r ad1 ce1 => r = none ∧ ad = ad1 ∧ rfV G ad ce1 T (va_up Q w (Q w ++ [x ++ [rf_zb b]])) M ∧ (∀ j, j < 100 → ce1 j = ce j)) := by
  refine zz_enter (by decide) (Nat.le_of_ble_eq_true rfl) ?_
  intro p e s m below meth c ls F hl hw hS hA
  obtain ⟨hx, hb, hr, hml, hown, hts, hlocks, hK, hnm⟩ := id F
  have hl : lv_has ls 3 [(0, .ref (ad 100)), (1, .int (nI (8 * w + (Q w).length))), (2, .int b)] := hl
  obtain ⟨cn, zs, bs, hh, ⟨h100, h101, h102, h103, h104, h105, h106, h107, h108, h109, h110, h111⟩, hQ, hM⟩ := hV
  have hF : ∀ j, j < 100 → ce j = ce j := fun _ _ => rfl
  obtain ⟨hL, -, -, hz, -⟩ := rfQ_at hQ hw2
  refine lv_iload_n hx hb dX6_more_0 rfl (lv_at hl 1 rfl) ?_
  refine lv_bipush (v := -3) hx hb dX6_more_1 (by decide) ?_
  refine lv_icmp_eq (tgt := 37) hx hb dX6_more_3 (by decide) (fun c3 => absurd c3 (fun q => nI_pos (n := 8 * w + (Q w).length) (by omega) (by rw [q]; decide))) (fun c3 => ?_)
  refine lv_aload_n hx hb dX6_more_6 rfl (lv_at hl 0 rfl) ?_
  refine z_get F hw h100 fd_X6_20_X6 rfl dX6_more_7 ?_
  refine lv_bipush (v := 24) hx hb dX6_more_10 (by decide) ?_
  refine lv_iload_n hx hb dX6_more_12 rfl (lv_at hl 1 rfl) ?_
  refine lv_imul hx hb dX6_more_13 ?_
  refine z_top (nI (24 * (8 * w + (Q w).length))) (by rw [show (24 : Int32) = nI 24 from rfl, pk_mul]) ?_
  refine lv_aload_n hx hb dX6_more_14 rfl (lv_at hl 0 rfl) ?_
  refine z_get F hw h100 fd_X6_17_X6 rfl dX6_more_15 ?_
  refine lv_iload_n hx hb dX6_more_18 rfl (lv_at hl 1 rfl) ?_
  refine z_ld F hw h102 (8 * w + (Q w).length) (rfl) (by omega) (by decide) dX6_more_19 ?_
  refine lv_iadd hx hb dX6_more_20 ?_
  refine z_top (nI (24 * (8 * w + (Q w).length) + x.length)) (by rw [hz, nI_add]) ?_
  refine lv_iload_n hx hb dX6_more_21 rfl (lv_at hl 2 rfl) ?_
  refine lv_sipush (v := 255) hx hb dX6_more_22 (by decide) ?_
  refine lv_iand hx hb dX6_more_25 ?_
  refine z_top (nI (rf_zb b)) (rf_and b) ?_
  refine z_st F hw hS h103 (24 * (8 * w + (Q w).length) + x.length) (rfl) (by omega) (by decide) dX6_more_26 (fun ce1 H locs h103 fr2 hw hS => ?_)
  have h100 := (fr2 100 (by decide)).trans h100
  have h101 := (fr2 101 (by decide)).trans h101
  have h102 := (fr2 102 (by decide)).trans h102
  have h104 := (fr2 104 (by decide)).trans h104
  have h105 := (fr2 105 (by decide)).trans h105
  have h106 := (fr2 106 (by decide)).trans h106
  have h107 := (fr2 107 (by decide)).trans h107
  have h108 := (fr2 108 (by decide)).trans h108
  have h109 := (fr2 109 (by decide)).trans h109
  have h110 := (fr2 110 (by decide)).trans h110
  have h111 := (fr2 111 (by decide)).trans h111
  have hF : ∀ j, j < 100 → _ = ce j := fun j hj => (fr2 j (by omega)).trans (hF j hj)
  refine lv_aload_n hx hb dX6_more_27 rfl (lv_at hl 0 rfl) ?_
  refine z_get F hw h100 fd_X6_17_X6 rfl dX6_more_28 ?_
  refine lv_iload_n hx hb dX6_more_31 rfl (lv_at hl 1 rfl) ?_
  refine lv_dup2_11 hx hb dX6_more_32 rfl rfl ?_
  refine z_ld F hw h102 (8 * w + (Q w).length) (rfl) (by omega) (by decide) dX6_more_33 ?_
  refine lv_iconst (v := 1) hx hb dX6_more_34 (by decide) ?_
  refine lv_iadd hx hb dX6_more_35 ?_
  refine z_st F hw hS h102 (8 * w + (Q w).length) (rfl) (by omega) (by decide) dX6_more_36 (fun ce3 H locs h102 fr4 hw hS => ?_)
  have h100 := (fr4 100 (by decide)).trans h100
  have h101 := (fr4 101 (by decide)).trans h101
  have h103 := (fr4 103 (by decide)).trans h103
  have h104 := (fr4 104 (by decide)).trans h104
  have h105 := (fr4 105 (by decide)).trans h105
  have h106 := (fr4 106 (by decide)).trans h106
  have h107 := (fr4 107 (by decide)).trans h107
  have h108 := (fr4 108 (by decide)).trans h108
  have h109 := (fr4 109 (by decide)).trans h109
  have h110 := (fr4 110 (by decide)).trans h110
  have h111 := (fr4 111 (by decide)).trans h111
  have hF : ∀ j, j < 100 → _ = ce j := fun j hj => (fr4 j (by omega)).trans (hF j hj)
  exact z_vret F hw hS (⟨rfl, rfl, ⟨_, _, _, _, ⟨h100, h101, h102, h103, h104, h105, h106, h107, h108, h109, h110, h111⟩, rfQ_byte hQ hw2 hx24 (rf_zb_lt b), hM⟩, hF⟩) dX6_more_37
theorem r_more (l : Launch) {G : zz_G} {ad : Nat → Nat} {ce : zz_C} {sz : Nat} (T : rf_T) (Q : rf_Q) (M : List Nat) (w : Nat) (x : List Nat) (hV : rfV G ad ce T (rf_put T Q w x) M) (hw2 : w < 2) (hx24 : x.length < 24) (b : Int32) : zz_M l yX6_more cX6_more 3 none 0 0 0 0 G [.ref (ad 100), .int (rf_hd T Q w), .int b] ad ce sz (fun r ad1 ce1 => r = none ∧ ad = ad1 ∧ rfV G ad ce1 T (rf_put T Q w (x ++ [rf_zb b])) M ∧ (∀ j, j < 100 → ce1 j = ce j)) := by
  by_cases h : T 0 4 = 0 ∧ (Q w).length < 8
  · unfold rf_put rf_hd at *
    rw [if_pos h] at hV
    simp only [if_pos h]
    exact r_more_s l T Q M w x hV hw2 hx24 b
  · unfold rf_put rf_hd at *
    rw [if_neg h] at hV
    simp only [if_neg h]
    exact r_more_n l T Q M hV b
set_option maxHeartbeats 4000000 in
set_option maxRecDepth 100000 in
theorem r_tell0_1 (l : Launch) {G : zz_G} {ad : Nat → Nat} {ce : zz_C} {sz : Nat} (T : rf_T) (Q : rf_Q) (M : List Nat) (hV : rfV G ad ce T Q M) (a b tg : Nat) (ha : a < 256) (hb0 : b < 256) (htg : tg < 256) (v : Int32) : zz_M l yX6_tell cX6_tell 9 none 1 24 0 0 G [.ref (ad 100), .int 0, .int (nI a), .int (nI b), .int (nI tg), .int 1, .int v] ad ce sz (fun r ad1 ce1 => r = none ∧ ad = ad1 ∧ rfV G ad ce1 T (rf_put T Q 0 ([a, b, tg, 1] ++ rf_bytes 1 v)) M ∧ (∀ j, j < 100 → ce1 j = ce j)) := by
  refine zz_enter (by decide) (Nat.le_of_ble_eq_true rfl) ?_
  intro p e s m below meth c ls F hl hw hS hA
  obtain ⟨hx, hb, hr, hml, hown, hts, hlocks, hK, hnm⟩ := id F
  have hl : lv_has ls 9 [(0, .ref (ad 100)), (1, .int 0), (2, .int (nI a)), (3, .int (nI b)), (4, .int (nI tg)), (5, .int 1), (6, .int v)] := hl
  obtain ⟨cn, zs, bs, hh, ⟨h100, h101, h102, h103, h104, h105, h106, h107, h108, h109, h110, h111⟩, hQ, hM⟩ := hV
  have hF : ∀ j, j < 100 → ce j = ce j := fun _ _ => rfl
  refine lv_aload_n hx hb dX6_tell_0 rfl (lv_at hl 0 rfl) ?_
  refine lv_iload_n hx hb dX6_tell_1 rfl (lv_at hl 1 rfl) ?_
  refine lv_iload_n hx hb dX6_tell_2 rfl (lv_at hl 2 rfl) ?_
  refine lv_iload_n hx hb dX6_tell_3 rfl (lv_at hl 3 rfl) ?_
  have hV : rfV G ad ce T Q M := ⟨_, _, _, _, ⟨h100, h101, h102, h103, h104, h105, h106, h107, h108, h109, h110, h111⟩, hQ, hM⟩
  refine z_invV F (rest := []) (r_put0 l T Q M hV a b ha hb0) yv_X6_64 ⟨Nat.le_of_ble_eq_true rfl, Nat.le_of_ble_eq_true rfl⟩ hw hA hS hl h100 rfl rfl rfl (Nat.le_of_ble_eq_true rfl) dX6_tell_4 ⟨Nat.le_of_ble_eq_true rfl, Nat.le_of_ble_eq_true rfl⟩ (fun r ad1 ce1 H locs hp hw hS => ?_)
  obtain ⟨rfl, rfl, hV, hF2⟩ := hp
  have hF : ∀ j, j < 100 → ce1 j = ce j := fun j hj => (hF2 j hj).trans (hF j hj)
  obtain ⟨cn, zs, bs, hh, ⟨h100, h101, h102, h103, h104, h105, h106, h107, h108, h109, h110, h111⟩, hQ, hM⟩ := hV
  refine W.eq (g2 := F0 m 7 ls [.int (rf_hd T Q 0)]) rfl ?_
  refine lv_istore (lv' := [(7, .int (rf_hd T Q 0)), (0, .ref (ad 100)), (1, .int 0), (2, .int (nI a)), (3, .int (nI b)), (4, .int (nI tg)), (5, .int 1), (6, .int v)]) hx hb dX6_tell_7 hl (by decide) rfl (fun ls hl => ?_)
  refine lv_aload_n hx hb dX6_tell_9 rfl (lv_at hl 1 rfl) ?_
  refine lv_iload hx hb dX6_tell_10 (lv_at hl 0 rfl) ?_
  refine lv_iload hx hb dX6_tell_12 (lv_at hl 5 rfl) ?_
  have hV : rfV G ad ce1 T (rf_put T Q 0 [a, b]) M := ⟨_, _, _, _, ⟨h100, h101, h102, h103, h104, h105, h106, h107, h108, h109, h110, h111⟩, hQ, hM⟩
  refine z_invV F (rest := []) (r_more l T Q M 0 ([a, b]) hV (by decide) (by simp) (nI tg)) yv_X6_68 ⟨Nat.le_of_ble_eq_true rfl, Nat.le_of_ble_eq_true rfl⟩ hw hA hS hl h100 rfl rfl rfl (Nat.le_of_ble_eq_true rfl) dX6_tell_14 ⟨Nat.le_of_ble_eq_true rfl, Nat.le_of_ble_eq_true rfl⟩ (fun r ad1 ce2 H locs hp hw hS => ?_)
  obtain ⟨rfl, rfl, hV, hF2⟩ := hp
  have hF : ∀ j, j < 100 → ce2 j = ce j := fun j hj => (hF2 j hj).trans (hF j hj)
  obtain ⟨cn, zs, bs, hh, ⟨h100, h101, h102, h103, h104, h105, h106, h107, h108, h109, h110, h111⟩, hQ, hM⟩ := hV
  refine W.eq (g2 := F0 m 17 ls []) rfl ?_
  refine lv_aload_n hx hb dX6_tell_17 rfl (lv_at hl 1 rfl) ?_
  refine lv_iload hx hb dX6_tell_18 (lv_at hl 0 rfl) ?_
  refine lv_iload hx hb dX6_tell_20 (lv_at hl 6 rfl) ?_
  have hV : rfV G ad ce2 T (rf_put T Q 0 (([a, b]) ++ [rf_zb (nI tg)])) M := ⟨_, _, _, _, ⟨h100, h101, h102, h103, h104, h105, h106, h107, h108, h109, h110, h111⟩, hQ, hM⟩
  refine z_invV F (rest := []) (r_more l T Q M 0 (([a, b]) ++ [rf_zb (nI tg)]) hV (by decide) (by simp) 1) yv_X6_68 ⟨Nat.le_of_ble_eq_true rfl, Nat.le_of_ble_eq_true rfl⟩ hw hA hS hl h100 rfl rfl rfl (Nat.le_of_ble_eq_true rfl) dX6_tell_22 ⟨Nat.le_of_ble_eq_true rfl, Nat.le_of_ble_eq_true rfl⟩ (fun r ad1 ce3 H locs hp hw hS => ?_)
  obtain ⟨rfl, rfl, hV, hF2⟩ := hp
  have hF : ∀ j, j < 100 → ce3 j = ce j := fun j hj => (hF2 j hj).trans (hF j hj)
  obtain ⟨cn, zs, bs, hh, ⟨h100, h101, h102, h103, h104, h105, h106, h107, h108, h109, h110, h111⟩, hQ, hM⟩ := hV
  refine W.eq (g2 := F0 m 25 ls []) rfl ?_
  refine lv_iload hx hb dX6_tell_25 (lv_at hl 6 rfl) ?_
  refine lv_iconst (v := 1) hx hb dX6_tell_27 (by decide) ?_
  refine lv_isub hx hb dX6_tell_28 ?_
  refine z_top 0 (by decide) ?_
  refine lv_istore (lv' := [(8, .int 0), (7, .int (rf_hd T Q 0)), (0, .ref (ad 100)), (1, .int 0), (2, .int (nI a)), (3, .int (nI b)), (4, .int (nI tg)), (5, .int 1), (6, .int v)]) hx hb dX6_tell_29 hl (by decide) rfl (fun ls hl => ?_)
  refine lv_iload hx hb dX6_tell_31 (lv_at hl 0 rfl) ?_
  refine lv_if_lt (tgt := 56) hx hb dX6_tell_33 (by decide) (fun c33 => absurd c33 (by decide)) (fun c33 => ?_)
  refine lv_aload_n hx hb dX6_tell_36 rfl (lv_at hl 2 rfl) ?_
  refine lv_iload hx hb dX6_tell_37 (lv_at hl 1 rfl) ?_
  refine lv_iload hx hb dX6_tell_39 (lv_at hl 8 rfl) ?_
  refine lv_bipush (v := 8) hx hb dX6_tell_41 (by decide) ?_
  refine lv_iload hx hb dX6_tell_43 (lv_at hl 0 rfl) ?_
  refine lv_imul hx hb dX6_tell_45 ?_
  refine z_top 0 (by decide) ?_
  refine lv_ishr hx hb dX6_tell_46 ?_
  have hV : rfV G ad ce3 T (rf_put T Q 0 ((([a, b]) ++ [rf_zb (nI tg)]) ++ [rf_zb 1])) M := ⟨_, _, _, _, ⟨h100, h101, h102, h103, h104, h105, h106, h107, h108, h109, h110, h111⟩, hQ, hM⟩
  refine z_invV F (rest := []) (r_more l T Q M 0 ((([a, b]) ++ [rf_zb (nI tg)]) ++ [rf_zb 1]) hV (by decide) (by simp) (v >>> (0 &&& 31))) yv_X6_68 ⟨Nat.le_of_ble_eq_true rfl, Nat.le_of_ble_eq_true rfl⟩ hw hA hS hl h100 rfl rfl rfl (Nat.le_of_ble_eq_true rfl) dX6_tell_47 ⟨Nat.le_of_ble_eq_true rfl, Nat.le_of_ble_eq_true rfl⟩ (fun r ad1 ce4 H locs hp hw hS => ?_)
  obtain ⟨rfl, rfl, hV, hF2⟩ := hp
  have hF : ∀ j, j < 100 → ce4 j = ce j := fun j hj => (hF2 j hj).trans (hF j hj)
  obtain ⟨cn, zs, bs, hh, ⟨h100, h101, h102, h103, h104, h105, h106, h107, h108, h109, h110, h111⟩, hQ, hM⟩ := hV
  refine W.eq (g2 := F0 m 50 ls []) rfl ?_
  refine lv_iinc (v := (-1)) (lv' := [(8, .int (-1)), (7, .int (rf_hd T Q 0)), (0, .ref (ad 100)), (1, .int 0), (2, .int (nI a)), (3, .int (nI b)), (4, .int (nI tg)), (5, .int 1), (6, .int v)]) hx hb dX6_tell_50 hl (k := 0) rfl (by decide) (by decide) rfl (fun ls hl => ?_)
  refine lv_goto (tgt := 31) hx hb dX6_tell_53 (by decide) ?_
  refine lv_iload hx hb dX6_tell_31 (lv_at hl 0 rfl) ?_
  refine lv_if_lt (tgt := 56) hx hb dX6_tell_33 (by decide) (fun c33_1 => ?_) (fun c33_1 => absurd c33_1 (by decide))
  exact z_vret F hw hS (by have hV : rfV G ad ce4 T (rf_put T Q 0 (((([a, b]) ++ [rf_zb (nI tg)]) ++ [rf_zb 1]) ++ [rf_zb (v >>> (0 &&& 31))])) M := ⟨_, _, _, _, ⟨h100, h101, h102, h103, h104, h105, h106, h107, h108, h109, h110, h111⟩, hQ, hM⟩; rw [rf_zb_nI htg, rf_sh0] at hV; exact ⟨rfl, rfl, hV, hF⟩) dX6_tell_56
set_option maxHeartbeats 4000000 in
set_option maxRecDepth 100000 in
theorem r_tell0_2 (l : Launch) {G : zz_G} {ad : Nat → Nat} {ce : zz_C} {sz : Nat} (T : rf_T) (Q : rf_Q) (M : List Nat) (hV : rfV G ad ce T Q M) (a b tg : Nat) (ha : a < 256) (hb0 : b < 256) (htg : tg < 256) (v : Int32) : zz_M l yX6_tell cX6_tell 9 none 1 24 0 0 G [.ref (ad 100), .int 0, .int (nI a), .int (nI b), .int (nI tg), .int 2, .int v] ad ce sz (fun r ad1 ce1 => r = none ∧ ad = ad1 ∧ rfV G ad ce1 T (rf_put T Q 0 ([a, b, tg, 2] ++ rf_bytes 2 v)) M ∧ (∀ j, j < 100 → ce1 j = ce j)) := by
  refine zz_enter (by decide) (Nat.le_of_ble_eq_true rfl) ?_
  intro p e s m below meth c ls F hl hw hS hA
  obtain ⟨hx, hb, hr, hml, hown, hts, hlocks, hK, hnm⟩ := id F
  have hl : lv_has ls 9 [(0, .ref (ad 100)), (1, .int 0), (2, .int (nI a)), (3, .int (nI b)), (4, .int (nI tg)), (5, .int 2), (6, .int v)] := hl
  obtain ⟨cn, zs, bs, hh, ⟨h100, h101, h102, h103, h104, h105, h106, h107, h108, h109, h110, h111⟩, hQ, hM⟩ := hV
  have hF : ∀ j, j < 100 → ce j = ce j := fun _ _ => rfl
  refine lv_aload_n hx hb dX6_tell_0 rfl (lv_at hl 0 rfl) ?_
  refine lv_iload_n hx hb dX6_tell_1 rfl (lv_at hl 1 rfl) ?_
  refine lv_iload_n hx hb dX6_tell_2 rfl (lv_at hl 2 rfl) ?_
  refine lv_iload_n hx hb dX6_tell_3 rfl (lv_at hl 3 rfl) ?_
  have hV : rfV G ad ce T Q M := ⟨_, _, _, _, ⟨h100, h101, h102, h103, h104, h105, h106, h107, h108, h109, h110, h111⟩, hQ, hM⟩
  refine z_invV F (rest := []) (r_put0 l T Q M hV a b ha hb0) yv_X6_64 ⟨Nat.le_of_ble_eq_true rfl, Nat.le_of_ble_eq_true rfl⟩ hw hA hS hl h100 rfl rfl rfl (Nat.le_of_ble_eq_true rfl) dX6_tell_4 ⟨Nat.le_of_ble_eq_true rfl, Nat.le_of_ble_eq_true rfl⟩ (fun r ad1 ce1 H locs hp hw hS => ?_)
  obtain ⟨rfl, rfl, hV, hF2⟩ := hp
  have hF : ∀ j, j < 100 → ce1 j = ce j := fun j hj => (hF2 j hj).trans (hF j hj)
  obtain ⟨cn, zs, bs, hh, ⟨h100, h101, h102, h103, h104, h105, h106, h107, h108, h109, h110, h111⟩, hQ, hM⟩ := hV
  refine W.eq (g2 := F0 m 7 ls [.int (rf_hd T Q 0)]) rfl ?_
  refine lv_istore (lv' := [(7, .int (rf_hd T Q 0)), (0, .ref (ad 100)), (1, .int 0), (2, .int (nI a)), (3, .int (nI b)), (4, .int (nI tg)), (5, .int 2), (6, .int v)]) hx hb dX6_tell_7 hl (by decide) rfl (fun ls hl => ?_)
  refine lv_aload_n hx hb dX6_tell_9 rfl (lv_at hl 1 rfl) ?_
  refine lv_iload hx hb dX6_tell_10 (lv_at hl 0 rfl) ?_
  refine lv_iload hx hb dX6_tell_12 (lv_at hl 5 rfl) ?_
  have hV : rfV G ad ce1 T (rf_put T Q 0 [a, b]) M := ⟨_, _, _, _, ⟨h100, h101, h102, h103, h104, h105, h106, h107, h108, h109, h110, h111⟩, hQ, hM⟩
  refine z_invV F (rest := []) (r_more l T Q M 0 ([a, b]) hV (by decide) (by simp) (nI tg)) yv_X6_68 ⟨Nat.le_of_ble_eq_true rfl, Nat.le_of_ble_eq_true rfl⟩ hw hA hS hl h100 rfl rfl rfl (Nat.le_of_ble_eq_true rfl) dX6_tell_14 ⟨Nat.le_of_ble_eq_true rfl, Nat.le_of_ble_eq_true rfl⟩ (fun r ad1 ce2 H locs hp hw hS => ?_)
  obtain ⟨rfl, rfl, hV, hF2⟩ := hp
  have hF : ∀ j, j < 100 → ce2 j = ce j := fun j hj => (hF2 j hj).trans (hF j hj)
  obtain ⟨cn, zs, bs, hh, ⟨h100, h101, h102, h103, h104, h105, h106, h107, h108, h109, h110, h111⟩, hQ, hM⟩ := hV
  refine W.eq (g2 := F0 m 17 ls []) rfl ?_
  refine lv_aload_n hx hb dX6_tell_17 rfl (lv_at hl 1 rfl) ?_
  refine lv_iload hx hb dX6_tell_18 (lv_at hl 0 rfl) ?_
  refine lv_iload hx hb dX6_tell_20 (lv_at hl 6 rfl) ?_
  have hV : rfV G ad ce2 T (rf_put T Q 0 (([a, b]) ++ [rf_zb (nI tg)])) M := ⟨_, _, _, _, ⟨h100, h101, h102, h103, h104, h105, h106, h107, h108, h109, h110, h111⟩, hQ, hM⟩
  refine z_invV F (rest := []) (r_more l T Q M 0 (([a, b]) ++ [rf_zb (nI tg)]) hV (by decide) (by simp) 2) yv_X6_68 ⟨Nat.le_of_ble_eq_true rfl, Nat.le_of_ble_eq_true rfl⟩ hw hA hS hl h100 rfl rfl rfl (Nat.le_of_ble_eq_true rfl) dX6_tell_22 ⟨Nat.le_of_ble_eq_true rfl, Nat.le_of_ble_eq_true rfl⟩ (fun r ad1 ce3 H locs hp hw hS => ?_)
  obtain ⟨rfl, rfl, hV, hF2⟩ := hp
  have hF : ∀ j, j < 100 → ce3 j = ce j := fun j hj => (hF2 j hj).trans (hF j hj)
  obtain ⟨cn, zs, bs, hh, ⟨h100, h101, h102, h103, h104, h105, h106, h107, h108, h109, h110, h111⟩, hQ, hM⟩ := hV
  refine W.eq (g2 := F0 m 25 ls []) rfl ?_
  refine lv_iload hx hb dX6_tell_25 (lv_at hl 6 rfl) ?_
  refine lv_iconst (v := 1) hx hb dX6_tell_27 (by decide) ?_
  refine lv_isub hx hb dX6_tell_28 ?_
  refine z_top 1 (by decide) ?_
  refine lv_istore (lv' := [(8, .int 1), (7, .int (rf_hd T Q 0)), (0, .ref (ad 100)), (1, .int 0), (2, .int (nI a)), (3, .int (nI b)), (4, .int (nI tg)), (5, .int 2), (6, .int v)]) hx hb dX6_tell_29 hl (by decide) rfl (fun ls hl => ?_)
  refine lv_iload hx hb dX6_tell_31 (lv_at hl 0 rfl) ?_
  refine lv_if_lt (tgt := 56) hx hb dX6_tell_33 (by decide) (fun c33 => absurd c33 (by decide)) (fun c33 => ?_)
  refine lv_aload_n hx hb dX6_tell_36 rfl (lv_at hl 2 rfl) ?_
  refine lv_iload hx hb dX6_tell_37 (lv_at hl 1 rfl) ?_
  refine lv_iload hx hb dX6_tell_39 (lv_at hl 8 rfl) ?_
  refine lv_bipush (v := 8) hx hb dX6_tell_41 (by decide) ?_
  refine lv_iload hx hb dX6_tell_43 (lv_at hl 0 rfl) ?_
  refine lv_imul hx hb dX6_tell_45 ?_
  refine z_top 8 (by decide) ?_
  refine lv_ishr hx hb dX6_tell_46 ?_
  have hV : rfV G ad ce3 T (rf_put T Q 0 ((([a, b]) ++ [rf_zb (nI tg)]) ++ [rf_zb 2])) M := ⟨_, _, _, _, ⟨h100, h101, h102, h103, h104, h105, h106, h107, h108, h109, h110, h111⟩, hQ, hM⟩
  refine z_invV F (rest := []) (r_more l T Q M 0 ((([a, b]) ++ [rf_zb (nI tg)]) ++ [rf_zb 2]) hV (by decide) (by simp) (v >>> (8 &&& 31))) yv_X6_68 ⟨Nat.le_of_ble_eq_true rfl, Nat.le_of_ble_eq_true rfl⟩ hw hA hS hl h100 rfl rfl rfl (Nat.le_of_ble_eq_true rfl) dX6_tell_47 ⟨Nat.le_of_ble_eq_true rfl, Nat.le_of_ble_eq_true rfl⟩ (fun r ad1 ce4 H locs hp hw hS => ?_)
  obtain ⟨rfl, rfl, hV, hF2⟩ := hp
  have hF : ∀ j, j < 100 → ce4 j = ce j := fun j hj => (hF2 j hj).trans (hF j hj)
  obtain ⟨cn, zs, bs, hh, ⟨h100, h101, h102, h103, h104, h105, h106, h107, h108, h109, h110, h111⟩, hQ, hM⟩ := hV
  refine W.eq (g2 := F0 m 50 ls []) rfl ?_
  refine lv_iinc (v := 0) (lv' := [(8, .int 0), (7, .int (rf_hd T Q 0)), (0, .ref (ad 100)), (1, .int 0), (2, .int (nI a)), (3, .int (nI b)), (4, .int (nI tg)), (5, .int 2), (6, .int v)]) hx hb dX6_tell_50 hl (k := 0) rfl (by decide) (by decide) rfl (fun ls hl => ?_)
  refine lv_goto (tgt := 31) hx hb dX6_tell_53 (by decide) ?_
  refine lv_iload hx hb dX6_tell_31 (lv_at hl 0 rfl) ?_
  refine lv_if_lt (tgt := 56) hx hb dX6_tell_33 (by decide) (fun c33_1 => absurd c33_1 (by decide)) (fun c33_1 => ?_)
  refine lv_aload_n hx hb dX6_tell_36 rfl (lv_at hl 2 rfl) ?_
  refine lv_iload hx hb dX6_tell_37 (lv_at hl 1 rfl) ?_
  refine lv_iload hx hb dX6_tell_39 (lv_at hl 8 rfl) ?_
  refine lv_bipush (v := 8) hx hb dX6_tell_41 (by decide) ?_
  refine lv_iload hx hb dX6_tell_43 (lv_at hl 0 rfl) ?_
  refine lv_imul hx hb dX6_tell_45 ?_
  refine z_top 0 (by decide) ?_
  refine lv_ishr hx hb dX6_tell_46 ?_
  have hV : rfV G ad ce4 T (rf_put T Q 0 (((([a, b]) ++ [rf_zb (nI tg)]) ++ [rf_zb 2]) ++ [rf_zb (v >>> (8 &&& 31))])) M := ⟨_, _, _, _, ⟨h100, h101, h102, h103, h104, h105, h106, h107, h108, h109, h110, h111⟩, hQ, hM⟩
  refine z_invV F (rest := []) (r_more l T Q M 0 (((([a, b]) ++ [rf_zb (nI tg)]) ++ [rf_zb 2]) ++ [rf_zb (v >>> (8 &&& 31))]) hV (by decide) (by simp) (v >>> (0 &&& 31))) yv_X6_68 ⟨Nat.le_of_ble_eq_true rfl, Nat.le_of_ble_eq_true rfl⟩ hw hA hS hl h100 rfl rfl rfl (Nat.le_of_ble_eq_true rfl) dX6_tell_47 ⟨Nat.le_of_ble_eq_true rfl, Nat.le_of_ble_eq_true rfl⟩ (fun r ad1 ce5 H locs hp hw hS => ?_)
  obtain ⟨rfl, rfl, hV, hF2⟩ := hp
  have hF : ∀ j, j < 100 → ce5 j = ce j := fun j hj => (hF2 j hj).trans (hF j hj)
  obtain ⟨cn, zs, bs, hh, ⟨h100, h101, h102, h103, h104, h105, h106, h107, h108, h109, h110, h111⟩, hQ, hM⟩ := hV
  refine W.eq (g2 := F0 m 50 ls []) rfl ?_
  refine lv_iinc (v := (-1)) (lv' := [(8, .int (-1)), (7, .int (rf_hd T Q 0)), (0, .ref (ad 100)), (1, .int 0), (2, .int (nI a)), (3, .int (nI b)), (4, .int (nI tg)), (5, .int 2), (6, .int v)]) hx hb dX6_tell_50 hl (k := 0) rfl (by decide) (by decide) rfl (fun ls hl => ?_)
  refine lv_goto (tgt := 31) hx hb dX6_tell_53 (by decide) ?_
  refine lv_iload hx hb dX6_tell_31 (lv_at hl 0 rfl) ?_
  refine lv_if_lt (tgt := 56) hx hb dX6_tell_33 (by decide) (fun c33_2 => ?_) (fun c33_2 => absurd c33_2 (by decide))
  exact z_vret F hw hS (by have hV : rfV G ad ce5 T (rf_put T Q 0 ((((([a, b]) ++ [rf_zb (nI tg)]) ++ [rf_zb 2]) ++ [rf_zb (v >>> (8 &&& 31))]) ++ [rf_zb (v >>> (0 &&& 31))])) M := ⟨_, _, _, _, ⟨h100, h101, h102, h103, h104, h105, h106, h107, h108, h109, h110, h111⟩, hQ, hM⟩; rw [rf_zb_nI htg, rf_sh8, rf_sh0] at hV; exact ⟨rfl, rfl, hV, hF⟩) dX6_tell_56
set_option maxHeartbeats 4000000 in
set_option maxRecDepth 100000 in
theorem r_tell0_4 (l : Launch) {G : zz_G} {ad : Nat → Nat} {ce : zz_C} {sz : Nat} (T : rf_T) (Q : rf_Q) (M : List Nat) (hV : rfV G ad ce T Q M) (a b tg : Nat) (ha : a < 256) (hb0 : b < 256) (htg : tg < 256) (v : Int32) : zz_M l yX6_tell cX6_tell 9 none 1 24 0 0 G [.ref (ad 100), .int 0, .int (nI a), .int (nI b), .int (nI tg), .int 4, .int v] ad ce sz (fun r ad1 ce1 => r = none ∧ ad = ad1 ∧ rfV G ad ce1 T (rf_put T Q 0 ([a, b, tg, 4] ++ rf_bytes 4 v)) M ∧ (∀ j, j < 100 → ce1 j = ce j)) := by
  refine zz_enter (by decide) (Nat.le_of_ble_eq_true rfl) ?_
  intro p e s m below meth c ls F hl hw hS hA
  obtain ⟨hx, hb, hr, hml, hown, hts, hlocks, hK, hnm⟩ := id F
  have hl : lv_has ls 9 [(0, .ref (ad 100)), (1, .int 0), (2, .int (nI a)), (3, .int (nI b)), (4, .int (nI tg)), (5, .int 4), (6, .int v)] := hl
  obtain ⟨cn, zs, bs, hh, ⟨h100, h101, h102, h103, h104, h105, h106, h107, h108, h109, h110, h111⟩, hQ, hM⟩ := hV
  have hF : ∀ j, j < 100 → ce j = ce j := fun _ _ => rfl
  refine lv_aload_n hx hb dX6_tell_0 rfl (lv_at hl 0 rfl) ?_
  refine lv_iload_n hx hb dX6_tell_1 rfl (lv_at hl 1 rfl) ?_
  refine lv_iload_n hx hb dX6_tell_2 rfl (lv_at hl 2 rfl) ?_
  refine lv_iload_n hx hb dX6_tell_3 rfl (lv_at hl 3 rfl) ?_
  have hV : rfV G ad ce T Q M := ⟨_, _, _, _, ⟨h100, h101, h102, h103, h104, h105, h106, h107, h108, h109, h110, h111⟩, hQ, hM⟩
  refine z_invV F (rest := []) (r_put0 l T Q M hV a b ha hb0) yv_X6_64 ⟨Nat.le_of_ble_eq_true rfl, Nat.le_of_ble_eq_true rfl⟩ hw hA hS hl h100 rfl rfl rfl (Nat.le_of_ble_eq_true rfl) dX6_tell_4 ⟨Nat.le_of_ble_eq_true rfl, Nat.le_of_ble_eq_true rfl⟩ (fun r ad1 ce1 H locs hp hw hS => ?_)
  obtain ⟨rfl, rfl, hV, hF2⟩ := hp
  have hF : ∀ j, j < 100 → ce1 j = ce j := fun j hj => (hF2 j hj).trans (hF j hj)
  obtain ⟨cn, zs, bs, hh, ⟨h100, h101, h102, h103, h104, h105, h106, h107, h108, h109, h110, h111⟩, hQ, hM⟩ := hV
  refine W.eq (g2 := F0 m 7 ls [.int (rf_hd T Q 0)]) rfl ?_
  refine lv_istore (lv' := [(7, .int (rf_hd T Q 0)), (0, .ref (ad 100)), (1, .int 0), (2, .int (nI a)), (3, .int (nI b)), (4, .int (nI tg)), (5, .int 4), (6, .int v)]) hx hb dX6_tell_7 hl (by decide) rfl (fun ls hl => ?_)
  refine lv_aload_n hx hb dX6_tell_9 rfl (lv_at hl 1 rfl) ?_
  refine lv_iload hx hb dX6_tell_10 (lv_at hl 0 rfl) ?_
  refine lv_iload hx hb dX6_tell_12 (lv_at hl 5 rfl) ?_
  have hV : rfV G ad ce1 T (rf_put T Q 0 [a, b]) M := ⟨_, _, _, _, ⟨h100, h101, h102, h103, h104, h105, h106, h107, h108, h109, h110, h111⟩, hQ, hM⟩
  refine z_invV F (rest := []) (r_more l T Q M 0 ([a, b]) hV (by decide) (by simp) (nI tg)) yv_X6_68 ⟨Nat.le_of_ble_eq_true rfl, Nat.le_of_ble_eq_true rfl⟩ hw hA hS hl h100 rfl rfl rfl (Nat.le_of_ble_eq_true rfl) dX6_tell_14 ⟨Nat.le_of_ble_eq_true rfl, Nat.le_of_ble_eq_true rfl⟩ (fun r ad1 ce2 H locs hp hw hS => ?_)
  obtain ⟨rfl, rfl, hV, hF2⟩ := hp
  have hF : ∀ j, j < 100 → ce2 j = ce j := fun j hj => (hF2 j hj).trans (hF j hj)
  obtain ⟨cn, zs, bs, hh, ⟨h100, h101, h102, h103, h104, h105, h106, h107, h108, h109, h110, h111⟩, hQ, hM⟩ := hV
  refine W.eq (g2 := F0 m 17 ls []) rfl ?_
  refine lv_aload_n hx hb dX6_tell_17 rfl (lv_at hl 1 rfl) ?_
  refine lv_iload hx hb dX6_tell_18 (lv_at hl 0 rfl) ?_
  refine lv_iload hx hb dX6_tell_20 (lv_at hl 6 rfl) ?_
  have hV : rfV G ad ce2 T (rf_put T Q 0 (([a, b]) ++ [rf_zb (nI tg)])) M := ⟨_, _, _, _, ⟨h100, h101, h102, h103, h104, h105, h106, h107, h108, h109, h110, h111⟩, hQ, hM⟩
  refine z_invV F (rest := []) (r_more l T Q M 0 (([a, b]) ++ [rf_zb (nI tg)]) hV (by decide) (by simp) 4) yv_X6_68 ⟨Nat.le_of_ble_eq_true rfl, Nat.le_of_ble_eq_true rfl⟩ hw hA hS hl h100 rfl rfl rfl (Nat.le_of_ble_eq_true rfl) dX6_tell_22 ⟨Nat.le_of_ble_eq_true rfl, Nat.le_of_ble_eq_true rfl⟩ (fun r ad1 ce3 H locs hp hw hS => ?_)
  obtain ⟨rfl, rfl, hV, hF2⟩ := hp
  have hF : ∀ j, j < 100 → ce3 j = ce j := fun j hj => (hF2 j hj).trans (hF j hj)
  obtain ⟨cn, zs, bs, hh, ⟨h100, h101, h102, h103, h104, h105, h106, h107, h108, h109, h110, h111⟩, hQ, hM⟩ := hV
  refine W.eq (g2 := F0 m 25 ls []) rfl ?_
  refine lv_iload hx hb dX6_tell_25 (lv_at hl 6 rfl) ?_
  refine lv_iconst (v := 1) hx hb dX6_tell_27 (by decide) ?_
  refine lv_isub hx hb dX6_tell_28 ?_
  refine z_top 3 (by decide) ?_
  refine lv_istore (lv' := [(8, .int 3), (7, .int (rf_hd T Q 0)), (0, .ref (ad 100)), (1, .int 0), (2, .int (nI a)), (3, .int (nI b)), (4, .int (nI tg)), (5, .int 4), (6, .int v)]) hx hb dX6_tell_29 hl (by decide) rfl (fun ls hl => ?_)
  refine lv_iload hx hb dX6_tell_31 (lv_at hl 0 rfl) ?_
  refine lv_if_lt (tgt := 56) hx hb dX6_tell_33 (by decide) (fun c33 => absurd c33 (by decide)) (fun c33 => ?_)
  refine lv_aload_n hx hb dX6_tell_36 rfl (lv_at hl 2 rfl) ?_
  refine lv_iload hx hb dX6_tell_37 (lv_at hl 1 rfl) ?_
  refine lv_iload hx hb dX6_tell_39 (lv_at hl 8 rfl) ?_
  refine lv_bipush (v := 8) hx hb dX6_tell_41 (by decide) ?_
  refine lv_iload hx hb dX6_tell_43 (lv_at hl 0 rfl) ?_
  refine lv_imul hx hb dX6_tell_45 ?_
  refine z_top 24 (by decide) ?_
  refine lv_ishr hx hb dX6_tell_46 ?_
  have hV : rfV G ad ce3 T (rf_put T Q 0 ((([a, b]) ++ [rf_zb (nI tg)]) ++ [rf_zb 4])) M := ⟨_, _, _, _, ⟨h100, h101, h102, h103, h104, h105, h106, h107, h108, h109, h110, h111⟩, hQ, hM⟩
  refine z_invV F (rest := []) (r_more l T Q M 0 ((([a, b]) ++ [rf_zb (nI tg)]) ++ [rf_zb 4]) hV (by decide) (by simp) (v >>> (24 &&& 31))) yv_X6_68 ⟨Nat.le_of_ble_eq_true rfl, Nat.le_of_ble_eq_true rfl⟩ hw hA hS hl h100 rfl rfl rfl (Nat.le_of_ble_eq_true rfl) dX6_tell_47 ⟨Nat.le_of_ble_eq_true rfl, Nat.le_of_ble_eq_true rfl⟩ (fun r ad1 ce4 H locs hp hw hS => ?_)
  obtain ⟨rfl, rfl, hV, hF2⟩ := hp
  have hF : ∀ j, j < 100 → ce4 j = ce j := fun j hj => (hF2 j hj).trans (hF j hj)
  obtain ⟨cn, zs, bs, hh, ⟨h100, h101, h102, h103, h104, h105, h106, h107, h108, h109, h110, h111⟩, hQ, hM⟩ := hV
  refine W.eq (g2 := F0 m 50 ls []) rfl ?_
  refine lv_iinc (v := 2) (lv' := [(8, .int 2), (7, .int (rf_hd T Q 0)), (0, .ref (ad 100)), (1, .int 0), (2, .int (nI a)), (3, .int (nI b)), (4, .int (nI tg)), (5, .int 4), (6, .int v)]) hx hb dX6_tell_50 hl (k := 0) rfl (by decide) (by decide) rfl (fun ls hl => ?_)
  refine lv_goto (tgt := 31) hx hb dX6_tell_53 (by decide) ?_
  refine lv_iload hx hb dX6_tell_31 (lv_at hl 0 rfl) ?_
  refine lv_if_lt (tgt := 56) hx hb dX6_tell_33 (by decide) (fun c33_1 => absurd c33_1 (by decide)) (fun c33_1 => ?_)
  refine lv_aload_n hx hb dX6_tell_36 rfl (lv_at hl 2 rfl) ?_
  refine lv_iload hx hb dX6_tell_37 (lv_at hl 1 rfl) ?_
  refine lv_iload hx hb dX6_tell_39 (lv_at hl 8 rfl) ?_
  refine lv_bipush (v := 8) hx hb dX6_tell_41 (by decide) ?_
  refine lv_iload hx hb dX6_tell_43 (lv_at hl 0 rfl) ?_
  refine lv_imul hx hb dX6_tell_45 ?_
  refine z_top 16 (by decide) ?_
  refine lv_ishr hx hb dX6_tell_46 ?_
  have hV : rfV G ad ce4 T (rf_put T Q 0 (((([a, b]) ++ [rf_zb (nI tg)]) ++ [rf_zb 4]) ++ [rf_zb (v >>> (24 &&& 31))])) M := ⟨_, _, _, _, ⟨h100, h101, h102, h103, h104, h105, h106, h107, h108, h109, h110, h111⟩, hQ, hM⟩
  refine z_invV F (rest := []) (r_more l T Q M 0 (((([a, b]) ++ [rf_zb (nI tg)]) ++ [rf_zb 4]) ++ [rf_zb (v >>> (24 &&& 31))]) hV (by decide) (by simp) (v >>> (16 &&& 31))) yv_X6_68 ⟨Nat.le_of_ble_eq_true rfl, Nat.le_of_ble_eq_true rfl⟩ hw hA hS hl h100 rfl rfl rfl (Nat.le_of_ble_eq_true rfl) dX6_tell_47 ⟨Nat.le_of_ble_eq_true rfl, Nat.le_of_ble_eq_true rfl⟩ (fun r ad1 ce5 H locs hp hw hS => ?_)
  obtain ⟨rfl, rfl, hV, hF2⟩ := hp
  have hF : ∀ j, j < 100 → ce5 j = ce j := fun j hj => (hF2 j hj).trans (hF j hj)
  obtain ⟨cn, zs, bs, hh, ⟨h100, h101, h102, h103, h104, h105, h106, h107, h108, h109, h110, h111⟩, hQ, hM⟩ := hV
  refine W.eq (g2 := F0 m 50 ls []) rfl ?_
  refine lv_iinc (v := 1) (lv' := [(8, .int 1), (7, .int (rf_hd T Q 0)), (0, .ref (ad 100)), (1, .int 0), (2, .int (nI a)), (3, .int (nI b)), (4, .int (nI tg)), (5, .int 4), (6, .int v)]) hx hb dX6_tell_50 hl (k := 0) rfl (by decide) (by decide) rfl (fun ls hl => ?_)
  refine lv_goto (tgt := 31) hx hb dX6_tell_53 (by decide) ?_
  refine lv_iload hx hb dX6_tell_31 (lv_at hl 0 rfl) ?_
  refine lv_if_lt (tgt := 56) hx hb dX6_tell_33 (by decide) (fun c33_2 => absurd c33_2 (by decide)) (fun c33_2 => ?_)
  refine lv_aload_n hx hb dX6_tell_36 rfl (lv_at hl 2 rfl) ?_
  refine lv_iload hx hb dX6_tell_37 (lv_at hl 1 rfl) ?_
  refine lv_iload hx hb dX6_tell_39 (lv_at hl 8 rfl) ?_
  refine lv_bipush (v := 8) hx hb dX6_tell_41 (by decide) ?_
  refine lv_iload hx hb dX6_tell_43 (lv_at hl 0 rfl) ?_
  refine lv_imul hx hb dX6_tell_45 ?_
  refine z_top 8 (by decide) ?_
  refine lv_ishr hx hb dX6_tell_46 ?_
  have hV : rfV G ad ce5 T (rf_put T Q 0 ((((([a, b]) ++ [rf_zb (nI tg)]) ++ [rf_zb 4]) ++ [rf_zb (v >>> (24 &&& 31))]) ++ [rf_zb (v >>> (16 &&& 31))])) M := ⟨_, _, _, _, ⟨h100, h101, h102, h103, h104, h105, h106, h107, h108, h109, h110, h111⟩, hQ, hM⟩
  refine z_invV F (rest := []) (r_more l T Q M 0 ((((([a, b]) ++ [rf_zb (nI tg)]) ++ [rf_zb 4]) ++ [rf_zb (v >>> (24 &&& 31))]) ++ [rf_zb (v >>> (16 &&& 31))]) hV (by decide) (by simp) (v >>> (8 &&& 31))) yv_X6_68 ⟨Nat.le_of_ble_eq_true rfl, Nat.le_of_ble_eq_true rfl⟩ hw hA hS hl h100 rfl rfl rfl (Nat.le_of_ble_eq_true rfl) dX6_tell_47 ⟨Nat.le_of_ble_eq_true rfl, Nat.le_of_ble_eq_true rfl⟩ (fun r ad1 ce6 H locs hp hw hS => ?_)
  obtain ⟨rfl, rfl, hV, hF2⟩ := hp
  have hF : ∀ j, j < 100 → ce6 j = ce j := fun j hj => (hF2 j hj).trans (hF j hj)
  obtain ⟨cn, zs, bs, hh, ⟨h100, h101, h102, h103, h104, h105, h106, h107, h108, h109, h110, h111⟩, hQ, hM⟩ := hV
  refine W.eq (g2 := F0 m 50 ls []) rfl ?_
  refine lv_iinc (v := 0) (lv' := [(8, .int 0), (7, .int (rf_hd T Q 0)), (0, .ref (ad 100)), (1, .int 0), (2, .int (nI a)), (3, .int (nI b)), (4, .int (nI tg)), (5, .int 4), (6, .int v)]) hx hb dX6_tell_50 hl (k := 0) rfl (by decide) (by decide) rfl (fun ls hl => ?_)
  refine lv_goto (tgt := 31) hx hb dX6_tell_53 (by decide) ?_
  refine lv_iload hx hb dX6_tell_31 (lv_at hl 0 rfl) ?_
  refine lv_if_lt (tgt := 56) hx hb dX6_tell_33 (by decide) (fun c33_3 => absurd c33_3 (by decide)) (fun c33_3 => ?_)
  refine lv_aload_n hx hb dX6_tell_36 rfl (lv_at hl 2 rfl) ?_
  refine lv_iload hx hb dX6_tell_37 (lv_at hl 1 rfl) ?_
  refine lv_iload hx hb dX6_tell_39 (lv_at hl 8 rfl) ?_
  refine lv_bipush (v := 8) hx hb dX6_tell_41 (by decide) ?_
  refine lv_iload hx hb dX6_tell_43 (lv_at hl 0 rfl) ?_
  refine lv_imul hx hb dX6_tell_45 ?_
  refine z_top 0 (by decide) ?_
  refine lv_ishr hx hb dX6_tell_46 ?_
  have hV : rfV G ad ce6 T (rf_put T Q 0 (((((([a, b]) ++ [rf_zb (nI tg)]) ++ [rf_zb 4]) ++ [rf_zb (v >>> (24 &&& 31))]) ++ [rf_zb (v >>> (16 &&& 31))]) ++ [rf_zb (v >>> (8 &&& 31))])) M := ⟨_, _, _, _, ⟨h100, h101, h102, h103, h104, h105, h106, h107, h108, h109, h110, h111⟩, hQ, hM⟩
  refine z_invV F (rest := []) (r_more l T Q M 0 (((((([a, b]) ++ [rf_zb (nI tg)]) ++ [rf_zb 4]) ++ [rf_zb (v >>> (24 &&& 31))]) ++ [rf_zb (v >>> (16 &&& 31))]) ++ [rf_zb (v >>> (8 &&& 31))]) hV (by decide) (by simp) (v >>> (0 &&& 31))) yv_X6_68 ⟨Nat.le_of_ble_eq_true rfl, Nat.le_of_ble_eq_true rfl⟩ hw hA hS hl h100 rfl rfl rfl (Nat.le_of_ble_eq_true rfl) dX6_tell_47 ⟨Nat.le_of_ble_eq_true rfl, Nat.le_of_ble_eq_true rfl⟩ (fun r ad1 ce7 H locs hp hw hS => ?_)
  obtain ⟨rfl, rfl, hV, hF2⟩ := hp
  have hF : ∀ j, j < 100 → ce7 j = ce j := fun j hj => (hF2 j hj).trans (hF j hj)
  obtain ⟨cn, zs, bs, hh, ⟨h100, h101, h102, h103, h104, h105, h106, h107, h108, h109, h110, h111⟩, hQ, hM⟩ := hV
  refine W.eq (g2 := F0 m 50 ls []) rfl ?_
  refine lv_iinc (v := (-1)) (lv' := [(8, .int (-1)), (7, .int (rf_hd T Q 0)), (0, .ref (ad 100)), (1, .int 0), (2, .int (nI a)), (3, .int (nI b)), (4, .int (nI tg)), (5, .int 4), (6, .int v)]) hx hb dX6_tell_50 hl (k := 0) rfl (by decide) (by decide) rfl (fun ls hl => ?_)
  refine lv_goto (tgt := 31) hx hb dX6_tell_53 (by decide) ?_
  refine lv_iload hx hb dX6_tell_31 (lv_at hl 0 rfl) ?_
  refine lv_if_lt (tgt := 56) hx hb dX6_tell_33 (by decide) (fun c33_4 => ?_) (fun c33_4 => absurd c33_4 (by decide))
  exact z_vret F hw hS (by have hV : rfV G ad ce7 T (rf_put T Q 0 ((((((([a, b]) ++ [rf_zb (nI tg)]) ++ [rf_zb 4]) ++ [rf_zb (v >>> (24 &&& 31))]) ++ [rf_zb (v >>> (16 &&& 31))]) ++ [rf_zb (v >>> (8 &&& 31))]) ++ [rf_zb (v >>> (0 &&& 31))])) M := ⟨_, _, _, _, ⟨h100, h101, h102, h103, h104, h105, h106, h107, h108, h109, h110, h111⟩, hQ, hM⟩; rw [rf_zb_nI htg, rf_sh24, rf_sh16, rf_sh8, rf_sh0] at hV; exact ⟨rfl, rfl, hV, hF⟩) dX6_tell_56
set_option maxHeartbeats 4000000 in
set_option maxRecDepth 100000 in
theorem r_tell1_1 (l : Launch) {G : zz_G} {ad : Nat → Nat} {ce : zz_C} {sz : Nat} (T : rf_T) (Q : rf_Q) (M : List Nat) (hV : rfV G ad ce T Q M) (a b tg : Nat) (ha : a < 256) (hb0 : b < 256) (htg : tg < 256) (v : Int32) : zz_M l yX6_tell cX6_tell 9 none 1 24 0 0 G [.ref (ad 100), .int 1, .int (nI a), .int (nI b), .int (nI tg), .int 1, .int v] ad ce sz (fun r ad1 ce1 => r = none ∧ ad = ad1 ∧ rfV G ad ce1 T (rf_put T Q 1 ([a, b, tg, 1] ++ rf_bytes 1 v)) M ∧ (∀ j, j < 100 → ce1 j = ce j)) := by
  refine zz_enter (by decide) (Nat.le_of_ble_eq_true rfl) ?_
  intro p e s m below meth c ls F hl hw hS hA
  obtain ⟨hx, hb, hr, hml, hown, hts, hlocks, hK, hnm⟩ := id F
  have hl : lv_has ls 9 [(0, .ref (ad 100)), (1, .int 1), (2, .int (nI a)), (3, .int (nI b)), (4, .int (nI tg)), (5, .int 1), (6, .int v)] := hl
  obtain ⟨cn, zs, bs, hh, ⟨h100, h101, h102, h103, h104, h105, h106, h107, h108, h109, h110, h111⟩, hQ, hM⟩ := hV
  have hF : ∀ j, j < 100 → ce j = ce j := fun _ _ => rfl
  refine lv_aload_n hx hb dX6_tell_0 rfl (lv_at hl 0 rfl) ?_
  refine lv_iload_n hx hb dX6_tell_1 rfl (lv_at hl 1 rfl) ?_
  refine lv_iload_n hx hb dX6_tell_2 rfl (lv_at hl 2 rfl) ?_
  refine lv_iload_n hx hb dX6_tell_3 rfl (lv_at hl 3 rfl) ?_
  have hV : rfV G ad ce T Q M := ⟨_, _, _, _, ⟨h100, h101, h102, h103, h104, h105, h106, h107, h108, h109, h110, h111⟩, hQ, hM⟩
  refine z_invV F (rest := []) (r_put1 l T Q M hV a b ha hb0) yv_X6_64 ⟨Nat.le_of_ble_eq_true rfl, Nat.le_of_ble_eq_true rfl⟩ hw hA hS hl h100 rfl rfl rfl (Nat.le_of_ble_eq_true rfl) dX6_tell_4 ⟨Nat.le_of_ble_eq_true rfl, Nat.le_of_ble_eq_true rfl⟩ (fun r ad1 ce1 H locs hp hw hS => ?_)
  obtain ⟨rfl, rfl, hV, hF2⟩ := hp
  have hF : ∀ j, j < 100 → ce1 j = ce j := fun j hj => (hF2 j hj).trans (hF j hj)
  obtain ⟨cn, zs, bs, hh, ⟨h100, h101, h102, h103, h104, h105, h106, h107, h108, h109, h110, h111⟩, hQ, hM⟩ := hV
  refine W.eq (g2 := F0 m 7 ls [.int (rf_hd T Q 1)]) rfl ?_
  refine lv_istore (lv' := [(7, .int (rf_hd T Q 1)), (0, .ref (ad 100)), (1, .int 1), (2, .int (nI a)), (3, .int (nI b)), (4, .int (nI tg)), (5, .int 1), (6, .int v)]) hx hb dX6_tell_7 hl (by decide) rfl (fun ls hl => ?_)
  refine lv_aload_n hx hb dX6_tell_9 rfl (lv_at hl 1 rfl) ?_
  refine lv_iload hx hb dX6_tell_10 (lv_at hl 0 rfl) ?_
  refine lv_iload hx hb dX6_tell_12 (lv_at hl 5 rfl) ?_
  have hV : rfV G ad ce1 T (rf_put T Q 1 [a, b]) M := ⟨_, _, _, _, ⟨h100, h101, h102, h103, h104, h105, h106, h107, h108, h109, h110, h111⟩, hQ, hM⟩
  refine z_invV F (rest := []) (r_more l T Q M 1 ([a, b]) hV (by decide) (by simp) (nI tg)) yv_X6_68 ⟨Nat.le_of_ble_eq_true rfl, Nat.le_of_ble_eq_true rfl⟩ hw hA hS hl h100 rfl rfl rfl (Nat.le_of_ble_eq_true rfl) dX6_tell_14 ⟨Nat.le_of_ble_eq_true rfl, Nat.le_of_ble_eq_true rfl⟩ (fun r ad1 ce2 H locs hp hw hS => ?_)
  obtain ⟨rfl, rfl, hV, hF2⟩ := hp
  have hF : ∀ j, j < 100 → ce2 j = ce j := fun j hj => (hF2 j hj).trans (hF j hj)
  obtain ⟨cn, zs, bs, hh, ⟨h100, h101, h102, h103, h104, h105, h106, h107, h108, h109, h110, h111⟩, hQ, hM⟩ := hV
  refine W.eq (g2 := F0 m 17 ls []) rfl ?_
  refine lv_aload_n hx hb dX6_tell_17 rfl (lv_at hl 1 rfl) ?_
  refine lv_iload hx hb dX6_tell_18 (lv_at hl 0 rfl) ?_
  refine lv_iload hx hb dX6_tell_20 (lv_at hl 6 rfl) ?_
  have hV : rfV G ad ce2 T (rf_put T Q 1 (([a, b]) ++ [rf_zb (nI tg)])) M := ⟨_, _, _, _, ⟨h100, h101, h102, h103, h104, h105, h106, h107, h108, h109, h110, h111⟩, hQ, hM⟩
  refine z_invV F (rest := []) (r_more l T Q M 1 (([a, b]) ++ [rf_zb (nI tg)]) hV (by decide) (by simp) 1) yv_X6_68 ⟨Nat.le_of_ble_eq_true rfl, Nat.le_of_ble_eq_true rfl⟩ hw hA hS hl h100 rfl rfl rfl (Nat.le_of_ble_eq_true rfl) dX6_tell_22 ⟨Nat.le_of_ble_eq_true rfl, Nat.le_of_ble_eq_true rfl⟩ (fun r ad1 ce3 H locs hp hw hS => ?_)
  obtain ⟨rfl, rfl, hV, hF2⟩ := hp
  have hF : ∀ j, j < 100 → ce3 j = ce j := fun j hj => (hF2 j hj).trans (hF j hj)
  obtain ⟨cn, zs, bs, hh, ⟨h100, h101, h102, h103, h104, h105, h106, h107, h108, h109, h110, h111⟩, hQ, hM⟩ := hV
  refine W.eq (g2 := F0 m 25 ls []) rfl ?_
  refine lv_iload hx hb dX6_tell_25 (lv_at hl 6 rfl) ?_
  refine lv_iconst (v := 1) hx hb dX6_tell_27 (by decide) ?_
  refine lv_isub hx hb dX6_tell_28 ?_
  refine z_top 0 (by decide) ?_
  refine lv_istore (lv' := [(8, .int 0), (7, .int (rf_hd T Q 1)), (0, .ref (ad 100)), (1, .int 1), (2, .int (nI a)), (3, .int (nI b)), (4, .int (nI tg)), (5, .int 1), (6, .int v)]) hx hb dX6_tell_29 hl (by decide) rfl (fun ls hl => ?_)
  refine lv_iload hx hb dX6_tell_31 (lv_at hl 0 rfl) ?_
  refine lv_if_lt (tgt := 56) hx hb dX6_tell_33 (by decide) (fun c33 => absurd c33 (by decide)) (fun c33 => ?_)
  refine lv_aload_n hx hb dX6_tell_36 rfl (lv_at hl 2 rfl) ?_
  refine lv_iload hx hb dX6_tell_37 (lv_at hl 1 rfl) ?_
  refine lv_iload hx hb dX6_tell_39 (lv_at hl 8 rfl) ?_
  refine lv_bipush (v := 8) hx hb dX6_tell_41 (by decide) ?_
  refine lv_iload hx hb dX6_tell_43 (lv_at hl 0 rfl) ?_
  refine lv_imul hx hb dX6_tell_45 ?_
  refine z_top 0 (by decide) ?_
  refine lv_ishr hx hb dX6_tell_46 ?_
  have hV : rfV G ad ce3 T (rf_put T Q 1 ((([a, b]) ++ [rf_zb (nI tg)]) ++ [rf_zb 1])) M := ⟨_, _, _, _, ⟨h100, h101, h102, h103, h104, h105, h106, h107, h108, h109, h110, h111⟩, hQ, hM⟩
  refine z_invV F (rest := []) (r_more l T Q M 1 ((([a, b]) ++ [rf_zb (nI tg)]) ++ [rf_zb 1]) hV (by decide) (by simp) (v >>> (0 &&& 31))) yv_X6_68 ⟨Nat.le_of_ble_eq_true rfl, Nat.le_of_ble_eq_true rfl⟩ hw hA hS hl h100 rfl rfl rfl (Nat.le_of_ble_eq_true rfl) dX6_tell_47 ⟨Nat.le_of_ble_eq_true rfl, Nat.le_of_ble_eq_true rfl⟩ (fun r ad1 ce4 H locs hp hw hS => ?_)
  obtain ⟨rfl, rfl, hV, hF2⟩ := hp
  have hF : ∀ j, j < 100 → ce4 j = ce j := fun j hj => (hF2 j hj).trans (hF j hj)
  obtain ⟨cn, zs, bs, hh, ⟨h100, h101, h102, h103, h104, h105, h106, h107, h108, h109, h110, h111⟩, hQ, hM⟩ := hV
  refine W.eq (g2 := F0 m 50 ls []) rfl ?_
  refine lv_iinc (v := (-1)) (lv' := [(8, .int (-1)), (7, .int (rf_hd T Q 1)), (0, .ref (ad 100)), (1, .int 1), (2, .int (nI a)), (3, .int (nI b)), (4, .int (nI tg)), (5, .int 1), (6, .int v)]) hx hb dX6_tell_50 hl (k := 0) rfl (by decide) (by decide) rfl (fun ls hl => ?_)
  refine lv_goto (tgt := 31) hx hb dX6_tell_53 (by decide) ?_
  refine lv_iload hx hb dX6_tell_31 (lv_at hl 0 rfl) ?_
  refine lv_if_lt (tgt := 56) hx hb dX6_tell_33 (by decide) (fun c33_1 => ?_) (fun c33_1 => absurd c33_1 (by decide))
  exact z_vret F hw hS (by have hV : rfV G ad ce4 T (rf_put T Q 1 (((([a, b]) ++ [rf_zb (nI tg)]) ++ [rf_zb 1]) ++ [rf_zb (v >>> (0 &&& 31))])) M := ⟨_, _, _, _, ⟨h100, h101, h102, h103, h104, h105, h106, h107, h108, h109, h110, h111⟩, hQ, hM⟩; rw [rf_zb_nI htg, rf_sh0] at hV; exact ⟨rfl, rfl, hV, hF⟩) dX6_tell_56
set_option maxHeartbeats 4000000 in
set_option maxRecDepth 100000 in
theorem r_tell1_2 (l : Launch) {G : zz_G} {ad : Nat → Nat} {ce : zz_C} {sz : Nat} (T : rf_T) (Q : rf_Q) (M : List Nat) (hV : rfV G ad ce T Q M) (a b tg : Nat) (ha : a < 256) (hb0 : b < 256) (htg : tg < 256) (v : Int32) : zz_M l yX6_tell cX6_tell 9 none 1 24 0 0 G [.ref (ad 100), .int 1, .int (nI a), .int (nI b), .int (nI tg), .int 2, .int v] ad ce sz (fun r ad1 ce1 => r = none ∧ ad = ad1 ∧ rfV G ad ce1 T (rf_put T Q 1 ([a, b, tg, 2] ++ rf_bytes 2 v)) M ∧ (∀ j, j < 100 → ce1 j = ce j)) := by
  refine zz_enter (by decide) (Nat.le_of_ble_eq_true rfl) ?_
  intro p e s m below meth c ls F hl hw hS hA
  obtain ⟨hx, hb, hr, hml, hown, hts, hlocks, hK, hnm⟩ := id F
  have hl : lv_has ls 9 [(0, .ref (ad 100)), (1, .int 1), (2, .int (nI a)), (3, .int (nI b)), (4, .int (nI tg)), (5, .int 2), (6, .int v)] := hl
  obtain ⟨cn, zs, bs, hh, ⟨h100, h101, h102, h103, h104, h105, h106, h107, h108, h109, h110, h111⟩, hQ, hM⟩ := hV
  have hF : ∀ j, j < 100 → ce j = ce j := fun _ _ => rfl
  refine lv_aload_n hx hb dX6_tell_0 rfl (lv_at hl 0 rfl) ?_
  refine lv_iload_n hx hb dX6_tell_1 rfl (lv_at hl 1 rfl) ?_
  refine lv_iload_n hx hb dX6_tell_2 rfl (lv_at hl 2 rfl) ?_
  refine lv_iload_n hx hb dX6_tell_3 rfl (lv_at hl 3 rfl) ?_
  have hV : rfV G ad ce T Q M := ⟨_, _, _, _, ⟨h100, h101, h102, h103, h104, h105, h106, h107, h108, h109, h110, h111⟩, hQ, hM⟩
  refine z_invV F (rest := []) (r_put1 l T Q M hV a b ha hb0) yv_X6_64 ⟨Nat.le_of_ble_eq_true rfl, Nat.le_of_ble_eq_true rfl⟩ hw hA hS hl h100 rfl rfl rfl (Nat.le_of_ble_eq_true rfl) dX6_tell_4 ⟨Nat.le_of_ble_eq_true rfl, Nat.le_of_ble_eq_true rfl⟩ (fun r ad1 ce1 H locs hp hw hS => ?_)
  obtain ⟨rfl, rfl, hV, hF2⟩ := hp
  have hF : ∀ j, j < 100 → ce1 j = ce j := fun j hj => (hF2 j hj).trans (hF j hj)
  obtain ⟨cn, zs, bs, hh, ⟨h100, h101, h102, h103, h104, h105, h106, h107, h108, h109, h110, h111⟩, hQ, hM⟩ := hV
  refine W.eq (g2 := F0 m 7 ls [.int (rf_hd T Q 1)]) rfl ?_
  refine lv_istore (lv' := [(7, .int (rf_hd T Q 1)), (0, .ref (ad 100)), (1, .int 1), (2, .int (nI a)), (3, .int (nI b)), (4, .int (nI tg)), (5, .int 2), (6, .int v)]) hx hb dX6_tell_7 hl (by decide) rfl (fun ls hl => ?_)
  refine lv_aload_n hx hb dX6_tell_9 rfl (lv_at hl 1 rfl) ?_
  refine lv_iload hx hb dX6_tell_10 (lv_at hl 0 rfl) ?_
  refine lv_iload hx hb dX6_tell_12 (lv_at hl 5 rfl) ?_
  have hV : rfV G ad ce1 T (rf_put T Q 1 [a, b]) M := ⟨_, _, _, _, ⟨h100, h101, h102, h103, h104, h105, h106, h107, h108, h109, h110, h111⟩, hQ, hM⟩
  refine z_invV F (rest := []) (r_more l T Q M 1 ([a, b]) hV (by decide) (by simp) (nI tg)) yv_X6_68 ⟨Nat.le_of_ble_eq_true rfl, Nat.le_of_ble_eq_true rfl⟩ hw hA hS hl h100 rfl rfl rfl (Nat.le_of_ble_eq_true rfl) dX6_tell_14 ⟨Nat.le_of_ble_eq_true rfl, Nat.le_of_ble_eq_true rfl⟩ (fun r ad1 ce2 H locs hp hw hS => ?_)
  obtain ⟨rfl, rfl, hV, hF2⟩ := hp
  have hF : ∀ j, j < 100 → ce2 j = ce j := fun j hj => (hF2 j hj).trans (hF j hj)
  obtain ⟨cn, zs, bs, hh, ⟨h100, h101, h102, h103, h104, h105, h106, h107, h108, h109, h110, h111⟩, hQ, hM⟩ := hV
  refine W.eq (g2 := F0 m 17 ls []) rfl ?_
  refine lv_aload_n hx hb dX6_tell_17 rfl (lv_at hl 1 rfl) ?_
  refine lv_iload hx hb dX6_tell_18 (lv_at hl 0 rfl) ?_
  refine lv_iload hx hb dX6_tell_20 (lv_at hl 6 rfl) ?_
  have hV : rfV G ad ce2 T (rf_put T Q 1 (([a, b]) ++ [rf_zb (nI tg)])) M := ⟨_, _, _, _, ⟨h100, h101, h102, h103, h104, h105, h106, h107, h108, h109, h110, h111⟩, hQ, hM⟩
  refine z_invV F (rest := []) (r_more l T Q M 1 (([a, b]) ++ [rf_zb (nI tg)]) hV (by decide) (by simp) 2) yv_X6_68 ⟨Nat.le_of_ble_eq_true rfl, Nat.le_of_ble_eq_true rfl⟩ hw hA hS hl h100 rfl rfl rfl (Nat.le_of_ble_eq_true rfl) dX6_tell_22 ⟨Nat.le_of_ble_eq_true rfl, Nat.le_of_ble_eq_true rfl⟩ (fun r ad1 ce3 H locs hp hw hS => ?_)
  obtain ⟨rfl, rfl, hV, hF2⟩ := hp
  have hF : ∀ j, j < 100 → ce3 j = ce j := fun j hj => (hF2 j hj).trans (hF j hj)
  obtain ⟨cn, zs, bs, hh, ⟨h100, h101, h102, h103, h104, h105, h106, h107, h108, h109, h110, h111⟩, hQ, hM⟩ := hV
  refine W.eq (g2 := F0 m 25 ls []) rfl ?_
  refine lv_iload hx hb dX6_tell_25 (lv_at hl 6 rfl) ?_
  refine lv_iconst (v := 1) hx hb dX6_tell_27 (by decide) ?_
  refine lv_isub hx hb dX6_tell_28 ?_
  refine z_top 1 (by decide) ?_
  refine lv_istore (lv' := [(8, .int 1), (7, .int (rf_hd T Q 1)), (0, .ref (ad 100)), (1, .int 1), (2, .int (nI a)), (3, .int (nI b)), (4, .int (nI tg)), (5, .int 2), (6, .int v)]) hx hb dX6_tell_29 hl (by decide) rfl (fun ls hl => ?_)
  refine lv_iload hx hb dX6_tell_31 (lv_at hl 0 rfl) ?_
  refine lv_if_lt (tgt := 56) hx hb dX6_tell_33 (by decide) (fun c33 => absurd c33 (by decide)) (fun c33 => ?_)
  refine lv_aload_n hx hb dX6_tell_36 rfl (lv_at hl 2 rfl) ?_
  refine lv_iload hx hb dX6_tell_37 (lv_at hl 1 rfl) ?_
  refine lv_iload hx hb dX6_tell_39 (lv_at hl 8 rfl) ?_
  refine lv_bipush (v := 8) hx hb dX6_tell_41 (by decide) ?_
  refine lv_iload hx hb dX6_tell_43 (lv_at hl 0 rfl) ?_
  refine lv_imul hx hb dX6_tell_45 ?_
  refine z_top 8 (by decide) ?_
  refine lv_ishr hx hb dX6_tell_46 ?_
  have hV : rfV G ad ce3 T (rf_put T Q 1 ((([a, b]) ++ [rf_zb (nI tg)]) ++ [rf_zb 2])) M := ⟨_, _, _, _, ⟨h100, h101, h102, h103, h104, h105, h106, h107, h108, h109, h110, h111⟩, hQ, hM⟩
  refine z_invV F (rest := []) (r_more l T Q M 1 ((([a, b]) ++ [rf_zb (nI tg)]) ++ [rf_zb 2]) hV (by decide) (by simp) (v >>> (8 &&& 31))) yv_X6_68 ⟨Nat.le_of_ble_eq_true rfl, Nat.le_of_ble_eq_true rfl⟩ hw hA hS hl h100 rfl rfl rfl (Nat.le_of_ble_eq_true rfl) dX6_tell_47 ⟨Nat.le_of_ble_eq_true rfl, Nat.le_of_ble_eq_true rfl⟩ (fun r ad1 ce4 H locs hp hw hS => ?_)
  obtain ⟨rfl, rfl, hV, hF2⟩ := hp
  have hF : ∀ j, j < 100 → ce4 j = ce j := fun j hj => (hF2 j hj).trans (hF j hj)
  obtain ⟨cn, zs, bs, hh, ⟨h100, h101, h102, h103, h104, h105, h106, h107, h108, h109, h110, h111⟩, hQ, hM⟩ := hV
  refine W.eq (g2 := F0 m 50 ls []) rfl ?_
  refine lv_iinc (v := 0) (lv' := [(8, .int 0), (7, .int (rf_hd T Q 1)), (0, .ref (ad 100)), (1, .int 1), (2, .int (nI a)), (3, .int (nI b)), (4, .int (nI tg)), (5, .int 2), (6, .int v)]) hx hb dX6_tell_50 hl (k := 0) rfl (by decide) (by decide) rfl (fun ls hl => ?_)
  refine lv_goto (tgt := 31) hx hb dX6_tell_53 (by decide) ?_
  refine lv_iload hx hb dX6_tell_31 (lv_at hl 0 rfl) ?_
  refine lv_if_lt (tgt := 56) hx hb dX6_tell_33 (by decide) (fun c33_1 => absurd c33_1 (by decide)) (fun c33_1 => ?_)
  refine lv_aload_n hx hb dX6_tell_36 rfl (lv_at hl 2 rfl) ?_
  refine lv_iload hx hb dX6_tell_37 (lv_at hl 1 rfl) ?_
  refine lv_iload hx hb dX6_tell_39 (lv_at hl 8 rfl) ?_
  refine lv_bipush (v := 8) hx hb dX6_tell_41 (by decide) ?_
  refine lv_iload hx hb dX6_tell_43 (lv_at hl 0 rfl) ?_
  refine lv_imul hx hb dX6_tell_45 ?_
  refine z_top 0 (by decide) ?_
  refine lv_ishr hx hb dX6_tell_46 ?_
  have hV : rfV G ad ce4 T (rf_put T Q 1 (((([a, b]) ++ [rf_zb (nI tg)]) ++ [rf_zb 2]) ++ [rf_zb (v >>> (8 &&& 31))])) M := ⟨_, _, _, _, ⟨h100, h101, h102, h103, h104, h105, h106, h107, h108, h109, h110, h111⟩, hQ, hM⟩
  refine z_invV F (rest := []) (r_more l T Q M 1 (((([a, b]) ++ [rf_zb (nI tg)]) ++ [rf_zb 2]) ++ [rf_zb (v >>> (8 &&& 31))]) hV (by decide) (by simp) (v >>> (0 &&& 31))) yv_X6_68 ⟨Nat.le_of_ble_eq_true rfl, Nat.le_of_ble_eq_true rfl⟩ hw hA hS hl h100 rfl rfl rfl (Nat.le_of_ble_eq_true rfl) dX6_tell_47 ⟨Nat.le_of_ble_eq_true rfl, Nat.le_of_ble_eq_true rfl⟩ (fun r ad1 ce5 H locs hp hw hS => ?_)
  obtain ⟨rfl, rfl, hV, hF2⟩ := hp
  have hF : ∀ j, j < 100 → ce5 j = ce j := fun j hj => (hF2 j hj).trans (hF j hj)
  obtain ⟨cn, zs, bs, hh, ⟨h100, h101, h102, h103, h104, h105, h106, h107, h108, h109, h110, h111⟩, hQ, hM⟩ := hV
  refine W.eq (g2 := F0 m 50 ls []) rfl ?_
  refine lv_iinc (v := (-1)) (lv' := [(8, .int (-1)), (7, .int (rf_hd T Q 1)), (0, .ref (ad 100)), (1, .int 1), (2, .int (nI a)), (3, .int (nI b)), (4, .int (nI tg)), (5, .int 2), (6, .int v)]) hx hb dX6_tell_50 hl (k := 0) rfl (by decide) (by decide) rfl (fun ls hl => ?_)
  refine lv_goto (tgt := 31) hx hb dX6_tell_53 (by decide) ?_
  refine lv_iload hx hb dX6_tell_31 (lv_at hl 0 rfl) ?_
  refine lv_if_lt (tgt := 56) hx hb dX6_tell_33 (by decide) (fun c33_2 => ?_) (fun c33_2 => absurd c33_2 (by decide))
  exact z_vret F hw hS (by have hV : rfV G ad ce5 T (rf_put T Q 1 ((((([a, b]) ++ [rf_zb (nI tg)]) ++ [rf_zb 2]) ++ [rf_zb (v >>> (8 &&& 31))]) ++ [rf_zb (v >>> (0 &&& 31))])) M := ⟨_, _, _, _, ⟨h100, h101, h102, h103, h104, h105, h106, h107, h108, h109, h110, h111⟩, hQ, hM⟩; rw [rf_zb_nI htg, rf_sh8, rf_sh0] at hV; exact ⟨rfl, rfl, hV, hF⟩) dX6_tell_56
set_option maxHeartbeats 4000000 in
set_option maxRecDepth 100000 in
theorem r_tell1_4 (l : Launch) {G : zz_G} {ad : Nat → Nat} {ce : zz_C} {sz : Nat} (T : rf_T) (Q : rf_Q) (M : List Nat) (hV : rfV G ad ce T Q M) (a b tg : Nat) (ha : a < 256) (hb0 : b < 256) (htg : tg < 256) (v : Int32) : zz_M l yX6_tell cX6_tell 9 none 1 24 0 0 G [.ref (ad 100), .int 1, .int (nI a), .int (nI b), .int (nI tg), .int 4, .int v] ad ce sz (fun r ad1 ce1 => r = none ∧ ad = ad1 ∧ rfV G ad ce1 T (rf_put T Q 1 ([a, b, tg, 4] ++ rf_bytes 4 v)) M ∧ (∀ j, j < 100 → ce1 j = ce j)) := by
  refine zz_enter (by decide) (Nat.le_of_ble_eq_true rfl) ?_
  intro p e s m below meth c ls F hl hw hS hA
  obtain ⟨hx, hb, hr, hml, hown, hts, hlocks, hK, hnm⟩ := id F
  have hl : lv_has ls 9 [(0, .ref (ad 100)), (1, .int 1), (2, .int (nI a)), (3, .int (nI b)), (4, .int (nI tg)), (5, .int 4), (6, .int v)] := hl
  obtain ⟨cn, zs, bs, hh, ⟨h100, h101, h102, h103, h104, h105, h106, h107, h108, h109, h110, h111⟩, hQ, hM⟩ := hV
  have hF : ∀ j, j < 100 → ce j = ce j := fun _ _ => rfl
  refine lv_aload_n hx hb dX6_tell_0 rfl (lv_at hl 0 rfl) ?_
  refine lv_iload_n hx hb dX6_tell_1 rfl (lv_at hl 1 rfl) ?_
  refine lv_iload_n hx hb dX6_tell_2 rfl (lv_at hl 2 rfl) ?_
  refine lv_iload_n hx hb dX6_tell_3 rfl (lv_at hl 3 rfl) ?_
  have hV : rfV G ad ce T Q M := ⟨_, _, _, _, ⟨h100, h101, h102, h103, h104, h105, h106, h107, h108, h109, h110, h111⟩, hQ, hM⟩
  refine z_invV F (rest := []) (r_put1 l T Q M hV a b ha hb0) yv_X6_64 ⟨Nat.le_of_ble_eq_true rfl, Nat.le_of_ble_eq_true rfl⟩ hw hA hS hl h100 rfl rfl rfl (Nat.le_of_ble_eq_true rfl) dX6_tell_4 ⟨Nat.le_of_ble_eq_true rfl, Nat.le_of_ble_eq_true rfl⟩ (fun r ad1 ce1 H locs hp hw hS => ?_)
  obtain ⟨rfl, rfl, hV, hF2⟩ := hp
  have hF : ∀ j, j < 100 → ce1 j = ce j := fun j hj => (hF2 j hj).trans (hF j hj)
  obtain ⟨cn, zs, bs, hh, ⟨h100, h101, h102, h103, h104, h105, h106, h107, h108, h109, h110, h111⟩, hQ, hM⟩ := hV
  refine W.eq (g2 := F0 m 7 ls [.int (rf_hd T Q 1)]) rfl ?_
  refine lv_istore (lv' := [(7, .int (rf_hd T Q 1)), (0, .ref (ad 100)), (1, .int 1), (2, .int (nI a)), (3, .int (nI b)), (4, .int (nI tg)), (5, .int 4), (6, .int v)]) hx hb dX6_tell_7 hl (by decide) rfl (fun ls hl => ?_)
  refine lv_aload_n hx hb dX6_tell_9 rfl (lv_at hl 1 rfl) ?_
  refine lv_iload hx hb dX6_tell_10 (lv_at hl 0 rfl) ?_
  refine lv_iload hx hb dX6_tell_12 (lv_at hl 5 rfl) ?_
  have hV : rfV G ad ce1 T (rf_put T Q 1 [a, b]) M := ⟨_, _, _, _, ⟨h100, h101, h102, h103, h104, h105, h106, h107, h108, h109, h110, h111⟩, hQ, hM⟩
  refine z_invV F (rest := []) (r_more l T Q M 1 ([a, b]) hV (by decide) (by simp) (nI tg)) yv_X6_68 ⟨Nat.le_of_ble_eq_true rfl, Nat.le_of_ble_eq_true rfl⟩ hw hA hS hl h100 rfl rfl rfl (Nat.le_of_ble_eq_true rfl) dX6_tell_14 ⟨Nat.le_of_ble_eq_true rfl, Nat.le_of_ble_eq_true rfl⟩ (fun r ad1 ce2 H locs hp hw hS => ?_)
  obtain ⟨rfl, rfl, hV, hF2⟩ := hp
  have hF : ∀ j, j < 100 → ce2 j = ce j := fun j hj => (hF2 j hj).trans (hF j hj)
  obtain ⟨cn, zs, bs, hh, ⟨h100, h101, h102, h103, h104, h105, h106, h107, h108, h109, h110, h111⟩, hQ, hM⟩ := hV
  refine W.eq (g2 := F0 m 17 ls []) rfl ?_
  refine lv_aload_n hx hb dX6_tell_17 rfl (lv_at hl 1 rfl) ?_
  refine lv_iload hx hb dX6_tell_18 (lv_at hl 0 rfl) ?_
  refine lv_iload hx hb dX6_tell_20 (lv_at hl 6 rfl) ?_
  have hV : rfV G ad ce2 T (rf_put T Q 1 (([a, b]) ++ [rf_zb (nI tg)])) M := ⟨_, _, _, _, ⟨h100, h101, h102, h103, h104, h105, h106, h107, h108, h109, h110, h111⟩, hQ, hM⟩
  refine z_invV F (rest := []) (r_more l T Q M 1 (([a, b]) ++ [rf_zb (nI tg)]) hV (by decide) (by simp) 4) yv_X6_68 ⟨Nat.le_of_ble_eq_true rfl, Nat.le_of_ble_eq_true rfl⟩ hw hA hS hl h100 rfl rfl rfl (Nat.le_of_ble_eq_true rfl) dX6_tell_22 ⟨Nat.le_of_ble_eq_true rfl, Nat.le_of_ble_eq_true rfl⟩ (fun r ad1 ce3 H locs hp hw hS => ?_)
  obtain ⟨rfl, rfl, hV, hF2⟩ := hp
  have hF : ∀ j, j < 100 → ce3 j = ce j := fun j hj => (hF2 j hj).trans (hF j hj)
  obtain ⟨cn, zs, bs, hh, ⟨h100, h101, h102, h103, h104, h105, h106, h107, h108, h109, h110, h111⟩, hQ, hM⟩ := hV
  refine W.eq (g2 := F0 m 25 ls []) rfl ?_
  refine lv_iload hx hb dX6_tell_25 (lv_at hl 6 rfl) ?_
  refine lv_iconst (v := 1) hx hb dX6_tell_27 (by decide) ?_
  refine lv_isub hx hb dX6_tell_28 ?_
  refine z_top 3 (by decide) ?_
  refine lv_istore (lv' := [(8, .int 3), (7, .int (rf_hd T Q 1)), (0, .ref (ad 100)), (1, .int 1), (2, .int (nI a)), (3, .int (nI b)), (4, .int (nI tg)), (5, .int 4), (6, .int v)]) hx hb dX6_tell_29 hl (by decide) rfl (fun ls hl => ?_)
  refine lv_iload hx hb dX6_tell_31 (lv_at hl 0 rfl) ?_
  refine lv_if_lt (tgt := 56) hx hb dX6_tell_33 (by decide) (fun c33 => absurd c33 (by decide)) (fun c33 => ?_)
  refine lv_aload_n hx hb dX6_tell_36 rfl (lv_at hl 2 rfl) ?_
  refine lv_iload hx hb dX6_tell_37 (lv_at hl 1 rfl) ?_
  refine lv_iload hx hb dX6_tell_39 (lv_at hl 8 rfl) ?_
  refine lv_bipush (v := 8) hx hb dX6_tell_41 (by decide) ?_
  refine lv_iload hx hb dX6_tell_43 (lv_at hl 0 rfl) ?_
  refine lv_imul hx hb dX6_tell_45 ?_
  refine z_top 24 (by decide) ?_
  refine lv_ishr hx hb dX6_tell_46 ?_
  have hV : rfV G ad ce3 T (rf_put T Q 1 ((([a, b]) ++ [rf_zb (nI tg)]) ++ [rf_zb 4])) M := ⟨_, _, _, _, ⟨h100, h101, h102, h103, h104, h105, h106, h107, h108, h109, h110, h111⟩, hQ, hM⟩
  refine z_invV F (rest := []) (r_more l T Q M 1 ((([a, b]) ++ [rf_zb (nI tg)]) ++ [rf_zb 4]) hV (by decide) (by simp) (v >>> (24 &&& 31))) yv_X6_68 ⟨Nat.le_of_ble_eq_true rfl, Nat.le_of_ble_eq_true rfl⟩ hw hA hS hl h100 rfl rfl rfl (Nat.le_of_ble_eq_true rfl) dX6_tell_47 ⟨Nat.le_of_ble_eq_true rfl, Nat.le_of_ble_eq_true rfl⟩ (fun r ad1 ce4 H locs hp hw hS => ?_)
  obtain ⟨rfl, rfl, hV, hF2⟩ := hp
  have hF : ∀ j, j < 100 → ce4 j = ce j := fun j hj => (hF2 j hj).trans (hF j hj)
  obtain ⟨cn, zs, bs, hh, ⟨h100, h101, h102, h103, h104, h105, h106, h107, h108, h109, h110, h111⟩, hQ, hM⟩ := hV
  refine W.eq (g2 := F0 m 50 ls []) rfl ?_
  refine lv_iinc (v := 2) (lv' := [(8, .int 2), (7, .int (rf_hd T Q 1)), (0, .ref (ad 100)), (1, .int 1), (2, .int (nI a)), (3, .int (nI b)), (4, .int (nI tg)), (5, .int 4), (6, .int v)]) hx hb dX6_tell_50 hl (k := 0) rfl (by decide) (by decide) rfl (fun ls hl => ?_)
  refine lv_goto (tgt := 31) hx hb dX6_tell_53 (by decide) ?_
  refine lv_iload hx hb dX6_tell_31 (lv_at hl 0 rfl) ?_
  refine lv_if_lt (tgt := 56) hx hb dX6_tell_33 (by decide) (fun c33_1 => absurd c33_1 (by decide)) (fun c33_1 => ?_)
  refine lv_aload_n hx hb dX6_tell_36 rfl (lv_at hl 2 rfl) ?_
  refine lv_iload hx hb dX6_tell_37 (lv_at hl 1 rfl) ?_
  refine lv_iload hx hb dX6_tell_39 (lv_at hl 8 rfl) ?_
  refine lv_bipush (v := 8) hx hb dX6_tell_41 (by decide) ?_
  refine lv_iload hx hb dX6_tell_43 (lv_at hl 0 rfl) ?_
  refine lv_imul hx hb dX6_tell_45 ?_
  refine z_top 16 (by decide) ?_
  refine lv_ishr hx hb dX6_tell_46 ?_
  have hV : rfV G ad ce4 T (rf_put T Q 1 (((([a, b]) ++ [rf_zb (nI tg)]) ++ [rf_zb 4]) ++ [rf_zb (v >>> (24 &&& 31))])) M := ⟨_, _, _, _, ⟨h100, h101, h102, h103, h104, h105, h106, h107, h108, h109, h110, h111⟩, hQ, hM⟩
  refine z_invV F (rest := []) (r_more l T Q M 1 (((([a, b]) ++ [rf_zb (nI tg)]) ++ [rf_zb 4]) ++ [rf_zb (v >>> (24 &&& 31))]) hV (by decide) (by simp) (v >>> (16 &&& 31))) yv_X6_68 ⟨Nat.le_of_ble_eq_true rfl, Nat.le_of_ble_eq_true rfl⟩ hw hA hS hl h100 rfl rfl rfl (Nat.le_of_ble_eq_true rfl) dX6_tell_47 ⟨Nat.le_of_ble_eq_true rfl, Nat.le_of_ble_eq_true rfl⟩ (fun r ad1 ce5 H locs hp hw hS => ?_)
  obtain ⟨rfl, rfl, hV, hF2⟩ := hp
  have hF : ∀ j, j < 100 → ce5 j = ce j := fun j hj => (hF2 j hj).trans (hF j hj)
  obtain ⟨cn, zs, bs, hh, ⟨h100, h101, h102, h103, h104, h105, h106, h107, h108, h109, h110, h111⟩, hQ, hM⟩ := hV
  refine W.eq (g2 := F0 m 50 ls []) rfl ?_
  refine lv_iinc (v := 1) (lv' := [(8, .int 1), (7, .int (rf_hd T Q 1)), (0, .ref (ad 100)), (1, .int 1), (2, .int (nI a)), (3, .int (nI b)), (4, .int (nI tg)), (5, .int 4), (6, .int v)]) hx hb dX6_tell_50 hl (k := 0) rfl (by decide) (by decide) rfl (fun ls hl => ?_)
  refine lv_goto (tgt := 31) hx hb dX6_tell_53 (by decide) ?_
  refine lv_iload hx hb dX6_tell_31 (lv_at hl 0 rfl) ?_
  refine lv_if_lt (tgt := 56) hx hb dX6_tell_33 (by decide) (fun c33_2 => absurd c33_2 (by decide)) (fun c33_2 => ?_)
  refine lv_aload_n hx hb dX6_tell_36 rfl (lv_at hl 2 rfl) ?_
  refine lv_iload hx hb dX6_tell_37 (lv_at hl 1 rfl) ?_
  refine lv_iload hx hb dX6_tell_39 (lv_at hl 8 rfl) ?_
  refine lv_bipush (v := 8) hx hb dX6_tell_41 (by decide) ?_
  refine lv_iload hx hb dX6_tell_43 (lv_at hl 0 rfl) ?_
  refine lv_imul hx hb dX6_tell_45 ?_
  refine z_top 8 (by decide) ?_
  refine lv_ishr hx hb dX6_tell_46 ?_
  have hV : rfV G ad ce5 T (rf_put T Q 1 ((((([a, b]) ++ [rf_zb (nI tg)]) ++ [rf_zb 4]) ++ [rf_zb (v >>> (24 &&& 31))]) ++ [rf_zb (v >>> (16 &&& 31))])) M := ⟨_, _, _, _, ⟨h100, h101, h102, h103, h104, h105, h106, h107, h108, h109, h110, h111⟩, hQ, hM⟩
  refine z_invV F (rest := []) (r_more l T Q M 1 ((((([a, b]) ++ [rf_zb (nI tg)]) ++ [rf_zb 4]) ++ [rf_zb (v >>> (24 &&& 31))]) ++ [rf_zb (v >>> (16 &&& 31))]) hV (by decide) (by simp) (v >>> (8 &&& 31))) yv_X6_68 ⟨Nat.le_of_ble_eq_true rfl, Nat.le_of_ble_eq_true rfl⟩ hw hA hS hl h100 rfl rfl rfl (Nat.le_of_ble_eq_true rfl) dX6_tell_47 ⟨Nat.le_of_ble_eq_true rfl, Nat.le_of_ble_eq_true rfl⟩ (fun r ad1 ce6 H locs hp hw hS => ?_)
  obtain ⟨rfl, rfl, hV, hF2⟩ := hp
  have hF : ∀ j, j < 100 → ce6 j = ce j := fun j hj => (hF2 j hj).trans (hF j hj)
  obtain ⟨cn, zs, bs, hh, ⟨h100, h101, h102, h103, h104, h105, h106, h107, h108, h109, h110, h111⟩, hQ, hM⟩ := hV
  refine W.eq (g2 := F0 m 50 ls []) rfl ?_
  refine lv_iinc (v := 0) (lv' := [(8, .int 0), (7, .int (rf_hd T Q 1)), (0, .ref (ad 100)), (1, .int 1), (2, .int (nI a)), (3, .int (nI b)), (4, .int (nI tg)), (5, .int 4), (6, .int v)]) hx hb dX6_tell_50 hl (k := 0) rfl (by decide) (by decide) rfl (fun ls hl => ?_)
  refine lv_goto (tgt := 31) hx hb dX6_tell_53 (by decide) ?_
  refine lv_iload hx hb dX6_tell_31 (lv_at hl 0 rfl) ?_
  refine lv_if_lt (tgt := 56) hx hb dX6_tell_33 (by decide) (fun c33_3 => absurd c33_3 (by decide)) (fun c33_3 => ?_)
  refine lv_aload_n hx hb dX6_tell_36 rfl (lv_at hl 2 rfl) ?_
  refine lv_iload hx hb dX6_tell_37 (lv_at hl 1 rfl) ?_
  refine lv_iload hx hb dX6_tell_39 (lv_at hl 8 rfl) ?_
  refine lv_bipush (v := 8) hx hb dX6_tell_41 (by decide) ?_
  refine lv_iload hx hb dX6_tell_43 (lv_at hl 0 rfl) ?_
  refine lv_imul hx hb dX6_tell_45 ?_
  refine z_top 0 (by decide) ?_
  refine lv_ishr hx hb dX6_tell_46 ?_
  have hV : rfV G ad ce6 T (rf_put T Q 1 (((((([a, b]) ++ [rf_zb (nI tg)]) ++ [rf_zb 4]) ++ [rf_zb (v >>> (24 &&& 31))]) ++ [rf_zb (v >>> (16 &&& 31))]) ++ [rf_zb (v >>> (8 &&& 31))])) M := ⟨_, _, _, _, ⟨h100, h101, h102, h103, h104, h105, h106, h107, h108, h109, h110, h111⟩, hQ, hM⟩
  refine z_invV F (rest := []) (r_more l T Q M 1 (((((([a, b]) ++ [rf_zb (nI tg)]) ++ [rf_zb 4]) ++ [rf_zb (v >>> (24 &&& 31))]) ++ [rf_zb (v >>> (16 &&& 31))]) ++ [rf_zb (v >>> (8 &&& 31))]) hV (by decide) (by simp) (v >>> (0 &&& 31))) yv_X6_68 ⟨Nat.le_of_ble_eq_true rfl, Nat.le_of_ble_eq_true rfl⟩ hw hA hS hl h100 rfl rfl rfl (Nat.le_of_ble_eq_true rfl) dX6_tell_47 ⟨Nat.le_of_ble_eq_true rfl, Nat.le_of_ble_eq_true rfl⟩ (fun r ad1 ce7 H locs hp hw hS => ?_)
  obtain ⟨rfl, rfl, hV, hF2⟩ := hp
  have hF : ∀ j, j < 100 → ce7 j = ce j := fun j hj => (hF2 j hj).trans (hF j hj)
  obtain ⟨cn, zs, bs, hh, ⟨h100, h101, h102, h103, h104, h105, h106, h107, h108, h109, h110, h111⟩, hQ, hM⟩ := hV
  refine W.eq (g2 := F0 m 50 ls []) rfl ?_
  refine lv_iinc (v := (-1)) (lv' := [(8, .int (-1)), (7, .int (rf_hd T Q 1)), (0, .ref (ad 100)), (1, .int 1), (2, .int (nI a)), (3, .int (nI b)), (4, .int (nI tg)), (5, .int 4), (6, .int v)]) hx hb dX6_tell_50 hl (k := 0) rfl (by decide) (by decide) rfl (fun ls hl => ?_)
  refine lv_goto (tgt := 31) hx hb dX6_tell_53 (by decide) ?_
  refine lv_iload hx hb dX6_tell_31 (lv_at hl 0 rfl) ?_
  refine lv_if_lt (tgt := 56) hx hb dX6_tell_33 (by decide) (fun c33_4 => ?_) (fun c33_4 => absurd c33_4 (by decide))
  exact z_vret F hw hS (by have hV : rfV G ad ce7 T (rf_put T Q 1 ((((((([a, b]) ++ [rf_zb (nI tg)]) ++ [rf_zb 4]) ++ [rf_zb (v >>> (24 &&& 31))]) ++ [rf_zb (v >>> (16 &&& 31))]) ++ [rf_zb (v >>> (8 &&& 31))]) ++ [rf_zb (v >>> (0 &&& 31))])) M := ⟨_, _, _, _, ⟨h100, h101, h102, h103, h104, h105, h106, h107, h108, h109, h110, h111⟩, hQ, hM⟩; rw [rf_zb_nI htg, rf_sh24, rf_sh16, rf_sh8, rf_sh0] at hV; exact ⟨rfl, rfl, hV, hF⟩) dX6_tell_56
end
section
/-! parsing: where the elements end, where the first with a tag begins -/
def rf_end (M : List Nat) : Nat → Nat → Nat
  | 0, i => i
  | n + 1, i => if i + 1 < M.length then rf_end M n (i + 2 + M.getD (i + 1) 0) else i
abbrev rf_good (M : List Nat) : Prop := rf_end M 24 2 = M.length
def rf_find (M : List Nat) (tag : Nat) : Nat → Nat → Option Nat
  | 0, _ => none
  | n + 1, i => if i + 1 < M.length then (if M.getD i 0 = tag then some i else rf_find M tag n (i + 2 + M.getD (i + 1) 0)) else none
def rf_fd (M : List Nat) (tag : Nat) : Option Nat := rf_find M tag 24 2
def rf_num (M : List Nat) (at0 : Nat) : Nat → Int32
  | 0 => 0
  | n + 1 => (rf_num M at0 n <<< ((8 : Int32) &&& 31)) ||| nI (M.getD (at0 + 2 + n) 0)
/-- with enough turns the end is where nothing more begins -/
theorem rf_end_stop (M : List Nat) : ∀ (n i : Nat), M.length ≤ i + 2 * n → M.length ≤ rf_end M n i + 1
  | 0, i, h => by simp only [rf_end]; omega
  | n + 1, i, h => by
    simp only [rf_end]
    split
    · exact rf_end_stop M n _ (by omega)
    · omega
theorem rf_end_ge (M : List Nat) : ∀ (n i : Nat), i ≤ rf_end M n i
  | 0, i => Nat.le_refl _
  | n + 1, i => by
    simp only [rf_end]
    split
    · exact Nat.le_trans (by omega) (rf_end_ge M n _)
    · exact Nat.le_refl _
/-- one turn less does no harm -/
theorem rf_end_fuel (M : List Nat) : ∀ (n i : Nat), M.length ≤ i + 2 * n → rf_end M (n + 1) i = rf_end M n i
  | 0, i, h => by simp only [rf_end]; rw [if_neg (by omega)]
  | n + 1, i, h => by
    rw [rf_end]
    conv => rhs; rw [rf_end]
    split
    · exact rf_end_fuel M n _ (by omega)
    · rfl
theorem rf_end_any (M : List Nat) (n k i : Nat) (h : M.length ≤ i + 2 * n) : rf_end M (n + k) i = rf_end M n i := by
  induction k with
  | zero => rfl
  | succ k ih => rw [← Nat.add_assoc, rf_end_fuel M (n + k) i (by omega), ih]
theorem rf_end_step (M : List Nat) (i : Nat) (hM : M.length ≤ 24) (hi : 2 ≤ i) (h : i + 1 < M.length) : rf_end M 24 i = rf_end M 24 (i + 2 + M.getD (i + 1) 0) := by
  have e : rf_end M 24 i = rf_end M 23 (i + 2 + M.getD (i + 1) 0) := by rw [rf_end, if_pos h]
  rw [e]
  exact (rf_end_fuel M 23 _ (by omega)).symm
theorem rf_end_end (M : List Nat) (i : Nat) (h : ¬ i + 1 < M.length) : rf_end M 24 i = i := by rw [rf_end, if_neg h]
theorem rf_find_fuel (M : List Nat) (tag : Nat) : ∀ (n i : Nat), M.length ≤ i + 2 * n → rf_find M tag (n + 1) i = rf_find M tag n i
  | 0, i, h => by simp only [rf_find]; rw [if_neg (by omega)]
  | n + 1, i, h => by
    rw [rf_find]
    conv => rhs; rw [rf_find]
    split
    · split
      · rfl
      · exact rf_find_fuel M tag n _ (by omega)
    · rfl
theorem rf_find_step (M : List Nat) (tag i : Nat) (hM : M.length ≤ 24) (hi : 2 ≤ i) (h : i + 1 < M.length) (ht : ¬ M.getD i 0 = tag) : rf_find M tag 24 i = rf_find M tag 24 (i + 2 + M.getD (i + 1) 0) := by
  have e : rf_find M tag 24 i = rf_find M tag 23 (i + 2 + M.getD (i + 1) 0) := by rw [rf_find, if_pos h, if_neg ht]
  rw [e]
  exact (rf_find_fuel M tag 23 _ (by omega)).symm
theorem rf_find_end (M : List Nat) (tag i : Nat) (h : ¬ i + 1 < M.length) : rf_find M tag 24 i = none := by rw [rf_find, if_neg h]
theorem rf_find_hit (M : List Nat) (tag i : Nat) (h : i + 1 < M.length) (ht : M.getD i 0 = tag) : rf_find M tag 24 i = some i := by rw [rf_find, if_pos h, if_pos ht]
/-- a hit lies inside, and in a good message its bytes do too -/
theorem rf_find_in (M : List Nat) (tag : Nat) : ∀ (n i j : Nat), rf_find M tag n i = some j → i ≤ j ∧ j + 1 < M.length
  | 0, i, j, h => by simp [rf_find] at h
  | n + 1, i, j, h => by
    rw [rf_find] at h
    split at h
    · split at h
      · cases h; exact ⟨Nat.le_refl _, by assumption⟩
      · have := rf_find_in M tag n _ j h
        omega
    · cases h
theorem rf_find_good (M : List Nat) (tag : Nat) : ∀ (n i j : Nat), rf_find M tag n i = some j → rf_end M n i = M.length → j + 2 + M.getD (j + 1) 0 ≤ M.length
  | 0, i, j, h, _ => by simp [rf_find] at h
  | n + 1, i, j, h, hg => by
    rw [rf_find] at h
    rw [rf_end] at hg
    split at h
    · rename_i hl
      rw [if_pos hl] at hg
      split at h
      · cases h
        have := rf_end_ge M n (i + 2 + M.getD (i + 1) 0)
        omega
      · exact rf_find_good M tag n _ j h hg
    · cases h
end
section
set_option maxHeartbeats 4000000 in
set_option maxRecDepth 100000 in
theorem r_isGood (l : Launch) {G : zz_G} {ad : Nat → Nat} {ce : zz_C} {sz : Nat} (T : rf_T) (Q : rf_Q) (M : List Nat) (hV : rfV G ad ce T Q M) (hM2 : 2 ≤ M.length) : zz_M l yX6_isGood cX6_isGood 2 (some .boolean) 0 0 0 0 G [.ref (ad 100)] ad ce sz (fun r ad1 ce1 => ((rf_good M ∧ r = some (.int 1)) ∨ (¬ rf_good M ∧ r = some (.int 0))) ∧ ad = ad1 ∧ ce = ce1) := by
  refine zz_enter (by decide) (Nat.le_of_ble_eq_true rfl) ?_
  intro p e s m below meth c ls F hl hw hS hA
  obtain ⟨hx, hb, hr, hml, hown, hts, hlocks, hK, hnm⟩ := id F
  have hl : lv_has ls 2 [(0, .ref (ad 100))] := hl
  obtain ⟨cn, zs, bs, hh, ⟨h100, h101, h102, h103, h104, h105, h106, h107, h108, h109, h110, h111⟩, hQ, hM⟩ := hV
  have hF : ∀ j, j < 100 → ce j = ce j := fun _ _ => rfl
  have hM24 := hM.1
  refine lv_iconst (v := 2) hx hb dX6_isGood_0 (by decide) ?_
  refine lv_istore_n (lv' := [(1, .int 2), (0, .ref (ad 100))]) hx hb dX6_isGood_1 rfl hl (by decide) rfl (fun ls hl => ?_)
  refine z_loop (α := Nat) (fun i => M.length - i) (fun i ce9 ls9 => lv_has ls9 2 [(0, .ref (ad 100)), (1, .int (nI i))] ∧ ce = ce9 ∧ 2 ≤ i ∧ i ≤ 300 ∧ rf_end M 24 i = rf_end M 24 2) 2 ⟨lv_sub hl [1, 0] rfl, rfl, by decide, by decide, rfl⟩ hw hS (fun i ih2 ce9 H locs ls hI hw hS => ?_)
  obtain ⟨hl, hce, hi2, hi3, hie⟩ := hI
  subst hce
  refine lv_iload_n hx hb dX6_isGood_2 rfl (lv_at hl 1 rfl) ?_
  refine lv_iconst (v := 1) hx hb dX6_isGood_3 (by decide) ?_
  refine lv_iadd hx hb dX6_isGood_4 ?_
  refine z_top (nI (i + 1)) (nI_1 i) ?_
  refine lv_aload_n hx hb dX6_isGood_5 rfl (lv_at hl 0 rfl) ?_
  refine z_get F hw h100 fd_X6_72_X6 rfl dX6_isGood_6 ?_
  refine lv_icmp_ge (tgt := 28) hx hb dX6_isGood_9 (by decide) (fun c9 => ?_) (fun c9 => ?_)
  · have hge : ¬ i + 1 < M.length := fun q => absurd c9 (nI_ge q (by omega))
    have hee : rf_end M 24 2 = i := by rw [← hie]; exact rf_end_end M i hge
    refine lv_iload_n hx hb dX6_isGood_28 rfl (lv_at hl 1 rfl) ?_
    refine lv_aload_n hx hb dX6_isGood_29 rfl (lv_at hl 0 rfl) ?_
    refine z_get F hw h100 fd_X6_72_X6 rfl dX6_isGood_30 ?_
    refine lv_icmp_ne (tgt := 40) hx hb dX6_isGood_33 (by decide) (fun c33 => ?_) (fun c33 => ?_)
    · refine lv_iconst (v := 0) hx hb dX6_isGood_40 (by decide) ?_
      exact z_iret F (rfl) hw hS (⟨Or.inr ⟨fun q => c33 (by unfold rf_good at q; rw [← q, hee]), rfl⟩, rfl, rfl⟩) dX6_isGood_41
    · refine lv_iconst (v := 1) hx hb dX6_isGood_36 (by decide) ?_
      refine lv_goto (tgt := 41) hx hb dX6_isGood_37 (by decide) ?_
      exact z_iret F (rfl) hw hS (⟨Or.inl ⟨by unfold rf_good; rw [hee]; exact (nI_eq (by omega) (by have := hM.1; omega)).mp c33, rfl⟩, rfl, rfl⟩) dX6_isGood_41
  · have hlt : i + 1 < M.length := Nat.lt_of_not_le (fun q => c9 (nI_le q (by omega)))
    have hb8 := (hM.2 (i + 1) hlt).2
    refine lv_iload_n hx hb dX6_isGood_12 rfl (lv_at hl 1 rfl) ?_
    refine lv_iconst (v := 2) hx hb dX6_isGood_13 (by decide) ?_
    refine lv_iadd hx hb dX6_isGood_14 ?_
    refine z_top (nI (i + 2)) (by rw [show (2 : Int32) = nI 2 from rfl, nI_add]) ?_
    refine lv_aload_n hx hb dX6_isGood_15 rfl (lv_at hl 0 rfl) ?_
    refine z_get F hw h100 fd_X6_48_X6 rfl dX6_isGood_16 ?_
    refine lv_iload_n hx hb dX6_isGood_19 rfl (lv_at hl 1 rfl) ?_
    refine lv_iconst (v := 1) hx hb dX6_isGood_20 (by decide) ?_
    refine lv_iadd hx hb dX6_isGood_21 ?_
    refine z_top (nI (i + 1)) (nI_1 i) ?_
    refine z_ld F hw h111 (i + 1) (rfl) (by have := hM.1; omega) (by decide) dX6_isGood_22 ?_
    refine z_top (nI (M.getD (i + 1) 0)) ((hM.2 (i + 1) hlt).1) ?_
    refine lv_iadd hx hb dX6_isGood_23 ?_
    refine z_top (nI (i + 2 + M.getD (i + 1) 0)) (nI_add _ _) ?_
    refine lv_istore_n (lv' := [(1, .int (nI (i + 2 + M.getD (i + 1) 0))), (0, .ref (ad 100))]) hx hb dX6_isGood_24 rfl hl (by decide) rfl (fun ls hl => ?_)
    refine lv_goto (tgt := 2) hx hb dX6_isGood_25 (by decide) ?_
    exact ih2 (i + 2 + M.getD (i + 1) 0) _ _ _ _ (by omega) ⟨lv_sub hl [1, 0] rfl, rfl, by omega, by omega, by rw [← rf_end_step M i hM.1 hi2 hlt]; exact hie⟩ hw hS
def rf_at (M : List Nat) (tg : Nat) : Int32 := match rf_fd M tg with | some i => nI (i + 2) | none => -3
set_option maxHeartbeats 4000000 in
set_option maxRecDepth 100000 in
theorem r_find (l : Launch) {G : zz_G} {ad : Nat → Nat} {ce : zz_C} {sz : Nat} (T : rf_T) (Q : rf_Q) (M : List Nat) (hV : rfV G ad ce T Q M) (hg : rf_good M) (tg : Nat) (htg : tg < 256) : zz_M l yX6_find cX6_find 3 (some .int) 0 0 0 0 G [.ref (ad 100), .int (nI tg)] ad ce sz (fun r ad1 ce1 => r = some (.int (rf_at M tg)) ∧ ad = ad1 ∧ ce = ce1) := by
  refine zz_enter (by decide) (Nat.le_of_ble_eq_true rfl) ?_
  intro p e s m below meth c ls F hl hw hS hA
  obtain ⟨hx, hb, hr, hml, hown, hts, hlocks, hK, hnm⟩ := id F
  have hl : lv_has ls 3 [(0, .ref (ad 100)), (1, .int (nI tg))] := hl
  obtain ⟨cn, zs, bs, hh, ⟨h100, h101, h102, h103, h104, h105, h106, h107, h108, h109, h110, h111⟩, hQ, hM⟩ := hV
  have hF : ∀ j, j < 100 → ce j = ce j := fun _ _ => rfl
  have hM24 := hM.1
  refine lv_iconst (v := 2) hx hb dX6_find_0 (by decide) ?_
  refine lv_istore_n (lv' := [(2, .int 2), (0, .ref (ad 100)), (1, .int (nI tg))]) hx hb dX6_find_1 rfl hl (by decide) rfl (fun ls hl => ?_)
  refine z_loop (α := Nat) (fun i => M.length - i) (fun i ce9 ls9 => lv_has ls9 3 [(0, .ref (ad 100)), (1, .int (nI tg)), (2, .int (nI i))] ∧ ce = ce9 ∧ 2 ≤ i ∧ i ≤ 300 ∧ rf_end M 24 i = M.length ∧ rf_find M tg 24 i = rf_fd M tg) 2 ⟨lv_sub hl [1, 2, 0] rfl, rfl, by decide, by decide, hg, rfl⟩ hw hS (fun i ih2 ce9 H locs ls hI hw hS => ?_)
  obtain ⟨hl, hce, hi2, hi3, hie, hif⟩ := hI
  subst hce
  refine lv_iload_n hx hb dX6_find_2 rfl (lv_at hl 2 rfl) ?_
  refine lv_aload_n hx hb dX6_find_3 rfl (lv_at hl 0 rfl) ?_
  refine z_get F hw h100 fd_X6_72_X6 rfl dX6_find_4 ?_
  refine lv_icmp_ge (tgt := 36) hx hb dX6_find_7 (by decide) (fun c7 => ?_) (fun c7 => ?_)
  · refine lv_iload_n hx hb dX6_find_36 rfl (lv_at hl 2 rfl) ?_
    refine lv_aload_n hx hb dX6_find_37 rfl (lv_at hl 0 rfl) ?_
    refine z_get F hw h100 fd_X6_72_X6 rfl dX6_find_38 ?_
    refine lv_icmp_ge (tgt := 50) hx hb dX6_find_41 (by decide) (fun c41 => ?_) (fun c41 => absurd c7 c41)
    refine lv_bipush (v := -3) hx hb dX6_find_50 (by decide) ?_
    exact z_iret F (rfl) hw hS (⟨by rw [rf_at, ← hif, rf_find_end M tg i (fun q => absurd c7 (nI_ge (by omega) (by omega)))], rfl, rfl⟩) dX6_find_52
  · have hlt0 : i < M.length := Nat.lt_of_not_le (fun q => c7 (nI_le q (by omega)))
    have hlt : i + 1 < M.length := Nat.lt_of_not_le (fun q => by have h9 := rf_end_end M i (by omega); omega)
    have hb8 := (hM.2 (i + 1) hlt).2
    have hb7 := (hM.2 i hlt0).2
    refine lv_aload_n hx hb dX6_find_10 rfl (lv_at hl 0 rfl) ?_
    refine z_get F hw h100 fd_X6_48_X6 rfl dX6_find_11 ?_
    refine lv_iload_n hx hb dX6_find_14 rfl (lv_at hl 2 rfl) ?_
    refine z_ld F hw h111 (i) (rfl) (by omega) (by decide) dX6_find_15 ?_
    refine z_top (nI (M.getD i 0)) ((hM.2 i hlt0).1) ?_
    refine lv_iload_n hx hb dX6_find_16 rfl (lv_at hl 1 rfl) ?_
    refine lv_icmp_eq (tgt := 36) hx hb dX6_find_17 (by decide) (fun c17 => ?_) (fun c17 => ?_)
    · refine lv_iload_n hx hb dX6_find_36 rfl (lv_at hl 2 rfl) ?_
      refine lv_aload_n hx hb dX6_find_37 rfl (lv_at hl 0 rfl) ?_
      refine z_get F hw h100 fd_X6_72_X6 rfl dX6_find_38 ?_
      refine lv_icmp_ge (tgt := 50) hx hb dX6_find_41 (by decide) (fun c41 => absurd c41 (nI_ge hlt0 (by omega))) (fun c41 => ?_)
      refine lv_iload_n hx hb dX6_find_44 rfl (lv_at hl 2 rfl) ?_
      refine lv_iconst (v := 2) hx hb dX6_find_45 (by decide) ?_
      refine lv_iadd hx hb dX6_find_46 ?_
      refine z_top (nI (i + 2)) (by rw [show (2 : Int32) = nI 2 from rfl, nI_add]) ?_
      refine lv_goto (tgt := 52) hx hb dX6_find_47 (by decide) ?_
      exact z_iret F (rfl) hw hS (⟨by rw [rf_at, ← hif, rf_find_hit M tg i hlt ((nI_eq (by omega) (by omega)).mp c17)], rfl, rfl⟩) dX6_find_52
    · refine lv_iload_n hx hb dX6_find_20 rfl (lv_at hl 2 rfl) ?_
      refine lv_iconst (v := 2) hx hb dX6_find_21 (by decide) ?_
      refine lv_iadd hx hb dX6_find_22 ?_
      refine z_top (nI (i + 2)) (by rw [show (2 : Int32) = nI 2 from rfl, nI_add]) ?_
      refine lv_aload_n hx hb dX6_find_23 rfl (lv_at hl 0 rfl) ?_
      refine z_get F hw h100 fd_X6_48_X6 rfl dX6_find_24 ?_
      refine lv_iload_n hx hb dX6_find_27 rfl (lv_at hl 2 rfl) ?_
      refine lv_iconst (v := 1) hx hb dX6_find_28 (by decide) ?_
      refine lv_iadd hx hb dX6_find_29 ?_
      refine z_top (nI (i + 1)) (nI_1 i) ?_
      refine z_ld F hw h111 (i + 1) (rfl) (by omega) (by decide) dX6_find_30 ?_
      refine z_top (nI (M.getD (i + 1) 0)) ((hM.2 (i + 1) hlt).1) ?_
      refine lv_iadd hx hb dX6_find_31 ?_
      refine z_top (nI (i + 2 + M.getD (i + 1) 0)) (nI_add _ _) ?_
      refine lv_istore_n (lv' := [(2, .int (nI (i + 2 + M.getD (i + 1) 0))), (0, .ref (ad 100)), (1, .int (nI tg))]) hx hb dX6_find_32 rfl hl (by decide) rfl (fun ls hl => ?_)
      refine lv_goto (tgt := 2) hx hb dX6_find_33 (by decide) ?_
      exact ih2 (i + 2 + M.getD (i + 1) 0) _ _ _ _ (by omega) ⟨lv_sub hl [1, 2, 0] rfl, rfl, by omega, by omega, by rw [← rf_end_step M i hM.1 hi2 hlt]; exact hie, by rw [← rf_find_step M tg i hM.1 hi2 hlt (fun q => c17 (by rw [q]))]; exact hif⟩ hw hS
def rf_sz (M : List Nat) (tg : Nat) : Option Nat := (rf_fd M tg).map (fun i => M.getD (i + 1) 0)
def rf_val (M : List Nat) (tg : Nat) : Int32 := match rf_fd M tg with | some i => rf_num M i (M.getD (i + 1) 0) | none => 0
set_option maxHeartbeats 4000000 in
set_option maxRecDepth 100000 in
theorem r_has (l : Launch) {G : zz_G} {ad : Nat → Nat} {ce : zz_C} {sz : Nat} (T : rf_T) (Q : rf_Q) (M : List Nat) (hV : rfV G ad ce T Q M) (hg : rf_good M) (tg n : Nat) (htg : tg < 256) (hn : n < 256) : zz_M l yX6_has cX6_has 4 (some .boolean) 1 22 0 0 G [.ref (ad 100), .int (nI tg), .int (nI n)] ad ce sz (fun r ad1 ce1 => ((rf_sz M tg = some n ∧ r = some (.int 1)) ∨ (¬ rf_sz M tg = some n ∧ r = some (.int 0))) ∧ ad = ad1 ∧ ce = ce1) := by
  refine zz_enter (by decide) (Nat.le_of_ble_eq_true rfl) ?_
  intro p e s m below meth c ls F hl hw hS hA
  obtain ⟨hx, hb, hr, hml, hown, hts, hlocks, hK, hnm⟩ := id F
  have hl : lv_has ls 4 [(0, .ref (ad 100)), (1, .int (nI tg)), (2, .int (nI n))] := hl
  obtain ⟨cn, zs, bs, hh, ⟨h100, h101, h102, h103, h104, h105, h106, h107, h108, h109, h110, h111⟩, hQ, hM⟩ := hV
  have hF : ∀ j, j < 100 → ce j = ce j := fun _ _ => rfl
  have hM24 := hM.1
  refine lv_aload_n hx hb dX6_has_0 rfl (lv_at hl 0 rfl) ?_
  refine lv_iload_n hx hb dX6_has_1 rfl (lv_at hl 1 rfl) ?_
  have hV : rfV G ad ce T Q M := ⟨_, _, _, _, ⟨h100, h101, h102, h103, h104, h105, h106, h107, h108, h109, h110, h111⟩, hQ, hM⟩
  refine z_invV F (rest := []) (r_find l T Q M hV hg tg htg) yv_X6_75 ⟨Nat.le_of_ble_eq_true rfl, Nat.le_of_ble_eq_true rfl⟩ hw hA hS hl h100 rfl rfl rfl (Nat.le_of_ble_eq_true rfl) dX6_has_2 ⟨Nat.le_of_ble_eq_true rfl, Nat.le_of_ble_eq_true rfl⟩ (fun r ad1 ce1 H locs hp hw hS => ?_)
  obtain ⟨rfl, rfl, rfl⟩ := hp
  refine W.eq (g2 := F0 m 5 ls [.int (rf_at M tg)]) rfl ?_
  refine lv_istore_n (lv' := [(3, .int (rf_at M tg)), (0, .ref (ad 100)), (1, .int (nI tg)), (2, .int (nI n))]) hx hb dX6_has_5 rfl hl (by decide) rfl (fun ls hl => ?_)
  rcases hfd : rf_fd M tg with _ | i
  · have hl : lv_has ls 4 [(3, .int (-3)), (0, .ref (ad 100)), (1, .int (nI tg)), (2, .int (nI n))] := by rw [show ((-3) : Int32) = rf_at M tg from by rw [rf_at, hfd]]; exact hl
    refine lv_iload_n hx hb dX6_has_6 rfl (lv_at hl 0 rfl) ?_
    refine lv_bipush (v := -3) hx hb dX6_has_7 (by decide) ?_
    refine lv_icmp_eq (tgt := 28) hx hb dX6_has_9 (by decide) (fun c9 => ?_) (fun c9 => absurd rfl c9)
    refine lv_iconst (v := 0) hx hb dX6_has_28 (by decide) ?_
    exact z_iret F (rfl) hw hS (⟨Or.inr ⟨fun q => (by rw [rf_sz, hfd] at q; cases q), rfl⟩, rfl, rfl⟩) dX6_has_29
  · have hl : lv_has ls 4 [(3, .int (nI (i + 2))), (0, .ref (ad 100)), (1, .int (nI tg)), (2, .int (nI n))] := by rw [show nI (i + 2) = rf_at M tg from by rw [rf_at, hfd]]; exact hl
    obtain ⟨hi2, hlt⟩ := rf_find_in M tg 24 2 i hfd
    have hb8 := (hM.2 (i + 1) hlt).2
    refine lv_iload_n hx hb dX6_has_6 rfl (lv_at hl 0 rfl) ?_
    refine lv_bipush (v := -3) hx hb dX6_has_7 (by decide) ?_
    refine lv_icmp_eq (tgt := 28) hx hb dX6_has_9 (by decide) (fun c9 => absurd c9 (fun q => nI_pos (n := i + 2) (by omega) (by rw [q]; decide))) (fun c9 => ?_)
    refine lv_aload_n hx hb dX6_has_12 rfl (lv_at hl 1 rfl) ?_
    refine z_get F hw h100 fd_X6_48_X6 rfl dX6_has_13 ?_
    refine lv_iload_n hx hb dX6_has_16 rfl (lv_at hl 0 rfl) ?_
    refine lv_iconst (v := 1) hx hb dX6_has_17 (by decide) ?_
    refine lv_isub hx hb dX6_has_18 ?_
    refine z_top (nI (i + 1)) (nI_pred (i + 1)) ?_
    refine z_ld F hw h111 (i + 1) (rfl) (by omega) (by decide) dX6_has_19 ?_
    refine z_top (nI (M.getD (i + 1) 0)) ((hM.2 (i + 1) hlt).1) ?_
    refine lv_iload_n hx hb dX6_has_20 rfl (lv_at hl 3 rfl) ?_
    refine lv_icmp_ne (tgt := 28) hx hb dX6_has_21 (by decide) (fun c21 => ?_) (fun c21 => ?_)
    · refine lv_iconst (v := 0) hx hb dX6_has_28 (by decide) ?_
      exact z_iret F (rfl) hw hS (⟨Or.inr ⟨fun q => (by rw [rf_sz, hfd] at q; exact c21 (congrArg nI (Option.some.inj q))), rfl⟩, rfl, rfl⟩) dX6_has_29
    · refine lv_iconst (v := 1) hx hb dX6_has_24 (by decide) ?_
      refine lv_goto (tgt := 29) hx hb dX6_has_25 (by decide) ?_
      exact z_iret F (rfl) hw hS (⟨Or.inl ⟨by rw [rf_sz, hfd]; exact congrArg some (show M.getD (i + 1) 0 = n from (nI_eq (by omega) (by omega)).mp c21), rfl⟩, rfl, rfl⟩) dX6_has_29
set_option maxHeartbeats 4000000 in
set_option maxRecDepth 100000 in
theorem r_number (l : Launch) {G : zz_G} {ad : Nat → Nat} {ce : zz_C} {sz : Nat} (T : rf_T) (Q : rf_Q) (M : List Nat) (hV : rfV G ad ce T Q M) (hg : rf_good M) (tg n : Nat) (htg : tg < 256) (hsz : rf_sz M tg = some n) : zz_M l yX6_number cX6_number 5 (some .int) 1 22 0 0 G [.ref (ad 100), .int (nI tg)] ad ce sz (fun r ad1 ce1 => r = some (.int (rf_val M tg)) ∧ ad = ad1 ∧ ce = ce1) := by
  refine zz_enter (by decide) (Nat.le_of_ble_eq_true rfl) ?_
  intro p e s m below meth c ls F hl hw hS hA
  obtain ⟨hx, hb, hr, hml, hown, hts, hlocks, hK, hnm⟩ := id F
  have hl : lv_has ls 5 [(0, .ref (ad 100)), (1, .int (nI tg))] := hl
  obtain ⟨cn, zs, bs, hh, ⟨h100, h101, h102, h103, h104, h105, h106, h107, h108, h109, h110, h111⟩, hQ, hM⟩ := hV
  have hF : ∀ j, j < 100 → ce j = ce j := fun _ _ => rfl
  have hM24 := hM.1
  obtain ⟨i, hfd, hn⟩ : ∃ i, rf_fd M tg = some i ∧ M.getD (i + 1) 0 = n := by
    unfold rf_sz at hsz
    exact Option.map_eq_some_iff.mp hsz
  have hval : rf_val M tg = rf_num M i n := by rw [rf_val, hfd, ← hn]
  obtain ⟨hi2, hlt⟩ := rf_find_in M tg 24 2 i hfd
  have hin := rf_find_good M tg 24 2 i hfd hg
  rw [hn] at hin
  have hb8 := (hM.2 (i + 1) hlt).2
  rw [hn] at hb8
  refine lv_aload_n hx hb dX6_number_0 rfl (lv_at hl 0 rfl) ?_
  refine lv_iload_n hx hb dX6_number_1 rfl (lv_at hl 1 rfl) ?_
  have hV : rfV G ad ce T Q M := ⟨_, _, _, _, ⟨h100, h101, h102, h103, h104, h105, h106, h107, h108, h109, h110, h111⟩, hQ, hM⟩
  refine z_invV F (rest := []) (r_find l T Q M hV hg tg htg) yv_X6_75 ⟨Nat.le_of_ble_eq_true rfl, Nat.le_of_ble_eq_true rfl⟩ hw hA hS hl h100 rfl rfl rfl (Nat.le_of_ble_eq_true rfl) dX6_number_2 ⟨Nat.le_of_ble_eq_true rfl, Nat.le_of_ble_eq_true rfl⟩ (fun r ad1 ce1 H locs hp hw hS => ?_)
  obtain ⟨rfl, rfl, rfl⟩ := hp
  refine W.eq (g2 := F0 m 5 ls [.int (rf_at M tg)]) rfl ?_
  refine lv_istore_n (lv' := [(2, .int (rf_at M tg)), (0, .ref (ad 100)), (1, .int (nI tg))]) hx hb dX6_number_5 rfl hl (by decide) rfl (fun ls hl => ?_)
  have hl : lv_has ls 5 [(2, .int (nI (i + 2))), (0, .ref (ad 100)), (1, .int (nI tg))] := by rw [show nI (i + 2) = rf_at M tg from by rw [rf_at, hfd]]; exact hl
  refine lv_iconst (v := 0) hx hb dX6_number_6 (by decide) ?_
  refine lv_istore_n (lv' := [(3, .int 0), (2, .int (nI (i + 2))), (0, .ref (ad 100)), (1, .int (nI tg))]) hx hb dX6_number_7 rfl hl (by decide) rfl (fun ls hl => ?_)
  refine lv_iconst (v := 0) hx hb dX6_number_8 (by decide) ?_
  refine lv_istore (lv' := [(4, .int 0), (3, .int 0), (2, .int (nI (i + 2))), (0, .ref (ad 100)), (1, .int (nI tg))]) hx hb dX6_number_9 hl (by decide) rfl (fun ls hl => ?_)
  refine z_loop (α := Nat) (fun k => n - k) (fun k ce9 ls9 => lv_has ls9 5 [(0, .ref (ad 100)), (1, .int (nI tg)), (2, .int (nI (i + 2))), (3, .int (rf_num M i k)), (4, .int (nI k))] ∧ ce = ce9 ∧ k ≤ n) 0 ⟨lv_sub hl [3, 4, 2, 1, 0] rfl, rfl, Nat.zero_le _⟩ hw hS (fun k ih11 ce9 H locs ls hI hw hS => ?_)
  obtain ⟨hl, hce, hkn⟩ := hI
  subst hce
  refine lv_iload hx hb dX6_number_11 (lv_at hl 4 rfl) ?_
  refine lv_aload_n hx hb dX6_number_13 rfl (lv_at hl 0 rfl) ?_
  refine z_get F hw h100 fd_X6_48_X6 rfl dX6_number_14 ?_
  refine lv_iload_n hx hb dX6_number_17 rfl (lv_at hl 2 rfl) ?_
  refine lv_iconst (v := 1) hx hb dX6_number_18 (by decide) ?_
  refine lv_isub hx hb dX6_number_19 ?_
  refine z_top (nI (i + 1)) (nI_pred (i + 1)) ?_
  refine z_ld F hw h111 (i + 1) (rfl) (by omega) (by decide) dX6_number_20 ?_
  refine z_top (nI n) (by rw [(hM.2 (i + 1) hlt).1, hn]) ?_
  refine lv_icmp_ge (tgt := 45) hx hb dX6_number_21 (by decide) (fun c21 => ?_) (fun c21 => ?_)
  · refine lv_iload_n hx hb dX6_number_45 rfl (lv_at hl 3 rfl) ?_
    exact z_iret F (rfl) hw hS (⟨by rw [hval, show k = n from Nat.le_antisymm hkn (Nat.le_of_not_lt (fun q => absurd c21 (nI_ge q (by omega))))], rfl, rfl⟩) dX6_number_46
  · have hklt : k < n := Nat.lt_of_not_le (fun q => c21 (nI_le q (by omega)))
    refine lv_iload_n hx hb dX6_number_24 rfl (lv_at hl 3 rfl) ?_
    refine lv_bipush (v := 8) hx hb dX6_number_25 (by decide) ?_
    refine lv_ishl hx hb dX6_number_27 ?_
    refine lv_aload_n hx hb dX6_number_28 rfl (lv_at hl 0 rfl) ?_
    refine z_get F hw h100 fd_X6_48_X6 rfl dX6_number_29 ?_
    refine lv_iload_n hx hb dX6_number_32 rfl (lv_at hl 2 rfl) ?_
    refine lv_iload hx hb dX6_number_33 (lv_at hl 4 rfl) ?_
    refine lv_iadd hx hb dX6_number_35 ?_
    refine z_top (nI (i + 2 + k)) (nI_add _ _) ?_
    refine z_ld F hw h111 (i + 2 + k) (rfl) (by omega) (by decide) dX6_number_36 ?_
    refine z_top (nI (M.getD (i + 2 + k) 0)) ((hM.2 (i + 2 + k) (by omega)).1) ?_
    refine lv_ior hx hb dX6_number_37 ?_
    refine z_top (rf_num M i (k + 1)) (rfl) ?_
    refine lv_istore_n (lv' := [(3, .int (rf_num M i (k + 1))), (0, .ref (ad 100)), (1, .int (nI tg)), (2, .int (nI (i + 2))), (4, .int (nI k))]) hx hb dX6_number_38 rfl hl (by decide) rfl (fun ls hl => ?_)
    refine lv_iinc (v := nI (k + 1)) (lv' := [(4, .int (nI (k + 1))), (3, .int (rf_num M i (k + 1))), (0, .ref (ad 100)), (1, .int (nI tg)), (2, .int (nI (i + 2)))]) hx hb dX6_number_39 hl (k := 4) rfl (nI_1 k) (by decide) rfl (fun ls hl => ?_)
    refine lv_goto (tgt := 11) hx hb dX6_number_42 (by decide) ?_
    exact ih11 (k + 1) _ _ _ _ (by omega) ⟨lv_sub hl [2, 3, 4, 1, 0] rfl, rfl, by omega⟩ hw hS
end
section
/-! what the reference's methods do, as functions: an answer, the numbers, the rows -/
abbrev rf_R : Type := Int32 × rf_T × rf_Q
def rf_rel (T : rf_T) (k : Nat) : rf_T := rf_become T k (T 1 k) 6 30
def rf_cau (T : rf_T) (k : Nat) (v : Int32) : rf_T := va_up T 5 (upd (T 5) k v)
def rf_o (T : rf_T) (i : Nat) (v : Int32) : rf_T := va_up T 0 (va_up (T 0) i v)
def sp_closes (T : rf_T) (Q : rf_Q) (M : List Nat) (k ty : Nat) : rf_R :=
  if ty = 37 ∧ rf_sz M 8 = some 1 ∧ (¬ T 2 k < 1 ∧ ¬ (5 : Int32) < T 2 k) then (1, rf_rel (rf_cau T k (rf_val M 8)) k, rf_put T Q k [3, 45])
  else if ty = 45 ∧ (k = 1 ∨ (0 : Int32) < T 2 k) then (1, rf_become T k (if k = 0 then 3 else 0) 0 0, rf_put T Q k [3, 42])
  else if ty = 42 ∧ (k = 1 ∨ (0 : Int32) < T 2 k) then (1, rf_become T k (if k = 0 then 3 else 0) 0 0, Q)
  else (0, T, Q)
def rf_setup (T : rf_T) (d : Nat) : List Nat := [3, 5, 94, rf_zb (nI d)] ++ (List.range d).map (fun k => rf_zb (T 6 k))
theorem rf_ei {a b : Nat} (ha : a < 256) (hb : b < 256) (h : nI a = nI b) : a = b := (nI_eq (by omega) (by omega)).mp h
theorem rf_nl {a b : Int32} (h : a ≤ b) : ¬ b < a := fun q => by
  rw [Int32.le_iff_toInt_le] at h
  rw [Int32.lt_iff_toInt_lt] at q
  omega
theorem rf_gt {a b : Int32} (h : ¬ a ≤ b) : b < a := by
  rw [Int32.le_iff_toInt_le] at h
  rw [Int32.lt_iff_toInt_lt]
  omega
theorem rf_ge {a b : Int32} (h : ¬ a < b) : b ≤ a := by
  rw [Int32.lt_iff_toInt_lt] at h
  rw [Int32.le_iff_toInt_le]
  omega
end
section
set_option maxHeartbeats 4000000 in
set_option maxRecDepth 100000 in
theorem r_release0 (l : Launch) {G : zz_G} {ad : Nat → Nat} {ce : zz_C} {sz : Nat} (T : rf_T) (Q : rf_Q) (M : List Nat) (hV : rfV G ad ce T Q M) : zz_M l yX6_release cX6_release 2 none 1 24 0 0 G [.ref (ad 100), .int 0] ad ce sz (fun r ad1 ce1 => r = none ∧ ad = ad1 ∧ rfV G ad ce1 (rf_rel T 0) (rf_put T Q 0 [3, 45]) M ∧ (∀ j, j < 100 → ce1 j = ce j)) := by
  refine zz_enter (by decide) (Nat.le_of_ble_eq_true rfl) ?_
  intro p e s m below meth c ls F hl hw hS hA
  obtain ⟨hx, hb, hr, hml, hown, hts, hlocks, hK, hnm⟩ := id F
  have hl : lv_has ls 2 [(0, .ref (ad 100)), (1, .int 0)] := hl
  obtain ⟨cn, zs, bs, hh, ⟨h100, h101, h102, h103, h104, h105, h106, h107, h108, h109, h110, h111⟩, hQ, hM⟩ := hV
  have hF : ∀ j, j < 100 → ce j = ce j := fun _ _ => rfl
  refine lv_aload_n hx hb dX6_release_0 rfl (lv_at hl 0 rfl) ?_
  refine lv_aload_n hx hb dX6_release_1 rfl (lv_at hl 0 rfl) ?_
  refine lv_iload_n hx hb dX6_release_2 rfl (lv_at hl 1 rfl) ?_
  have hV : rfV G ad ce T Q M := ⟨_, _, _, _, ⟨h100, h101, h102, h103, h104, h105, h106, h107, h108, h109, h110, h111⟩, hQ, hM⟩
  refine z_invV F (rest := [.ref (ad 100)]) (r_way0 l T Q M hV) yv_X6_80 ⟨Nat.le_of_ble_eq_true rfl, Nat.le_of_ble_eq_true rfl⟩ hw hA hS hl h100 rfl rfl rfl (Nat.le_of_ble_eq_true rfl) dX6_release_3 ⟨Nat.le_of_ble_eq_true rfl, Nat.le_of_ble_eq_true rfl⟩ (fun r ad1 ce1 H locs hp hw hS => ?_)
  obtain ⟨rfl, rfl, rfl⟩ := hp
  refine W.eq (g2 := F0 m 6 ls [.int 0, .ref (ad 100)]) rfl ?_
  refine lv_iconst (v := 3) hx hb dX6_release_6 (by decide) ?_
  refine lv_bipush (v := 45) hx hb dX6_release_7 (by decide) ?_
  have hV : rfV G ad ce T Q M := ⟨_, _, _, _, ⟨h100, h101, h102, h103, h104, h105, h106, h107, h108, h109, h110, h111⟩, hQ, hM⟩
  refine z_invV F (rest := []) (r_put0 l T Q M hV 3 45 (by decide) (by decide)) yv_X6_64 ⟨Nat.le_of_ble_eq_true rfl, Nat.le_of_ble_eq_true rfl⟩ hw hA hS hl h100 rfl rfl rfl (Nat.le_of_ble_eq_true rfl) dX6_release_9 ⟨Nat.le_of_ble_eq_true rfl, Nat.le_of_ble_eq_true rfl⟩ (fun r ad1 ce2 H locs hp hw hS => ?_)
  obtain ⟨rfl, rfl, hV, hF2⟩ := hp
  have hF : ∀ j, j < 100 → ce2 j = ce j := fun j hj => (hF2 j hj).trans (hF j hj)
  obtain ⟨cn, zs, bs, hh, ⟨h100, h101, h102, h103, h104, h105, h106, h107, h108, h109, h110, h111⟩, hQ, hM⟩ := hV
  refine W.eq (g2 := F0 m 12 ls [.int (rf_hd T Q 0)]) rfl ?_
  refine lv_pop hx hb dX6_release_12 rfl ?_
  refine lv_aload_n hx hb dX6_release_13 rfl (lv_at hl 0 rfl) ?_
  refine lv_iload_n hx hb dX6_release_14 rfl (lv_at hl 1 rfl) ?_
  refine lv_aload_n hx hb dX6_release_15 rfl (lv_at hl 0 rfl) ?_
  refine z_get F hw h100 fd_X6_23_X6 rfl dX6_release_16 ?_
  refine lv_iload_n hx hb dX6_release_19 rfl (lv_at hl 1 rfl) ?_
  refine z_ld F hw h104 (0) (rfl) (by decide) (by decide) dX6_release_20 ?_
  refine lv_bipush (v := 6) hx hb dX6_release_21 (by decide) ?_
  refine lv_bipush (v := 30) hx hb dX6_release_23 (by decide) ?_
  have hV : rfV G ad ce2 T (rf_put T Q 0 [3, 45]) M := ⟨_, _, _, _, ⟨h100, h101, h102, h103, h104, h105, h106, h107, h108, h109, h110, h111⟩, hQ, hM⟩
  refine z_invV F (rest := []) (r_become0 l T (rf_put T Q 0 [3, 45]) M hV ((T 1) 0) 6 30) yv_X6_83 ⟨Nat.le_of_ble_eq_true rfl, Nat.le_of_ble_eq_true rfl⟩ hw hA hS hl h100 rfl rfl rfl (Nat.le_of_ble_eq_true rfl) dX6_release_25 ⟨Nat.le_of_ble_eq_true rfl, Nat.le_of_ble_eq_true rfl⟩ (fun r ad1 ce3 H locs hp hw hS => ?_)
  obtain ⟨rfl, rfl, hV, hF2⟩ := hp
  have hF : ∀ j, j < 100 → ce3 j = ce j := fun j hj => (hF2 j hj).trans (hF j hj)
  obtain ⟨cn, zs, bs, hh, ⟨h100, h101, h102, h103, h104, h105, h106, h107, h108, h109, h110, h111⟩, hQ, hM⟩ := hV
  refine W.eq (g2 := F0 m 28 ls []) rfl ?_
  exact z_vret F hw hS (⟨rfl, rfl, ⟨_, _, _, _, ⟨h100, h101, h102, h103, h104, h105, h106, h107, h108, h109, h110, h111⟩, hQ, hM⟩, hF⟩) dX6_release_28
set_option maxHeartbeats 4000000 in
set_option maxRecDepth 100000 in
theorem r_end0 (l : Launch) {G : zz_G} {ad : Nat → Nat} {ce : zz_C} {sz : Nat} (T : rf_T) (Q : rf_Q) (M : List Nat) (hV : rfV G ad ce T Q M) (v : Int32) : zz_M l yX6_end cX6_end 3 none 2 52 0 0 G [.ref (ad 100), .int 0, .int v] ad ce sz (fun r ad1 ce1 => r = none ∧ ad = ad1 ∧ rfV G ad ce1 (rf_become T 0 (T 1 0) 5 30) (rf_put T Q 0 ([3, 37, 8, 1] ++ rf_bytes 1 v)) M ∧ (∀ j, j < 100 → ce1 j = ce j)) := by
  refine zz_enter (by decide) (Nat.le_of_ble_eq_true rfl) ?_
  intro p e s m below meth c ls F hl hw hS hA
  obtain ⟨hx, hb, hr, hml, hown, hts, hlocks, hK, hnm⟩ := id F
  have hl : lv_has ls 3 [(0, .ref (ad 100)), (1, .int 0), (2, .int v)] := hl
  obtain ⟨cn, zs, bs, hh, ⟨h100, h101, h102, h103, h104, h105, h106, h107, h108, h109, h110, h111⟩, hQ, hM⟩ := hV
  have hF : ∀ j, j < 100 → ce j = ce j := fun _ _ => rfl
  refine lv_aload_n hx hb dX6_end_0 rfl (lv_at hl 0 rfl) ?_
  refine lv_aload_n hx hb dX6_end_1 rfl (lv_at hl 0 rfl) ?_
  refine lv_iload_n hx hb dX6_end_2 rfl (lv_at hl 1 rfl) ?_
  have hV : rfV G ad ce T Q M := ⟨_, _, _, _, ⟨h100, h101, h102, h103, h104, h105, h106, h107, h108, h109, h110, h111⟩, hQ, hM⟩
  refine z_invV F (rest := [.ref (ad 100)]) (r_way0 l T Q M hV) yv_X6_80 ⟨Nat.le_of_ble_eq_true rfl, Nat.le_of_ble_eq_true rfl⟩ hw hA hS hl h100 rfl rfl rfl (Nat.le_of_ble_eq_true rfl) dX6_end_3 ⟨Nat.le_of_ble_eq_true rfl, Nat.le_of_ble_eq_true rfl⟩ (fun r ad1 ce1 H locs hp hw hS => ?_)
  obtain ⟨rfl, rfl, rfl⟩ := hp
  refine W.eq (g2 := F0 m 6 ls [.int 0, .ref (ad 100)]) rfl ?_
  refine lv_iconst (v := 3) hx hb dX6_end_6 (by decide) ?_
  refine lv_bipush (v := 37) hx hb dX6_end_7 (by decide) ?_
  refine lv_bipush (v := 8) hx hb dX6_end_9 (by decide) ?_
  refine lv_iconst (v := 1) hx hb dX6_end_11 (by decide) ?_
  refine lv_iload_n hx hb dX6_end_12 rfl (lv_at hl 2 rfl) ?_
  have hV : rfV G ad ce T Q M := ⟨_, _, _, _, ⟨h100, h101, h102, h103, h104, h105, h106, h107, h108, h109, h110, h111⟩, hQ, hM⟩
  refine z_invV F (rest := []) (r_tell0_1 l T Q M hV 3 37 8 (by decide) (by decide) (by decide) v) yv_X6_112 ⟨Nat.le_of_ble_eq_true rfl, Nat.le_of_ble_eq_true rfl⟩ hw hA hS hl h100 rfl rfl rfl (Nat.le_of_ble_eq_true rfl) dX6_end_13 ⟨Nat.le_of_ble_eq_true rfl, Nat.le_of_ble_eq_true rfl⟩ (fun r ad1 ce2 H locs hp hw hS => ?_)
  obtain ⟨rfl, rfl, hV, hF2⟩ := hp
  have hF : ∀ j, j < 100 → ce2 j = ce j := fun j hj => (hF2 j hj).trans (hF j hj)
  obtain ⟨cn, zs, bs, hh, ⟨h100, h101, h102, h103, h104, h105, h106, h107, h108, h109, h110, h111⟩, hQ, hM⟩ := hV
  refine W.eq (g2 := F0 m 16 ls []) rfl ?_
  refine lv_aload_n hx hb dX6_end_16 rfl (lv_at hl 0 rfl) ?_
  refine lv_iload_n hx hb dX6_end_17 rfl (lv_at hl 1 rfl) ?_
  refine lv_aload_n hx hb dX6_end_18 rfl (lv_at hl 0 rfl) ?_
  refine z_get F hw h100 fd_X6_23_X6 rfl dX6_end_19 ?_
  refine lv_iload_n hx hb dX6_end_22 rfl (lv_at hl 1 rfl) ?_
  refine z_ld F hw h104 (0) (rfl) (by decide) (by decide) dX6_end_23 ?_
  refine lv_iconst (v := 5) hx hb dX6_end_24 (by decide) ?_
  refine lv_bipush (v := 30) hx hb dX6_end_25 (by decide) ?_
  have hV : rfV G ad ce2 T (rf_put T Q 0 ([3, 37, 8, 1] ++ rf_bytes 1 v)) M := ⟨_, _, _, _, ⟨h100, h101, h102, h103, h104, h105, h106, h107, h108, h109, h110, h111⟩, hQ, hM⟩
  refine z_invV F (rest := []) (r_become0 l T (rf_put T Q 0 ([3, 37, 8, 1] ++ rf_bytes 1 v)) M hV ((T 1) 0) 5 30) yv_X6_83 ⟨Nat.le_of_ble_eq_true rfl, Nat.le_of_ble_eq_true rfl⟩ hw hA hS hl h100 rfl rfl rfl (Nat.le_of_ble_eq_true rfl) dX6_end_27 ⟨Nat.le_of_ble_eq_true rfl, Nat.le_of_ble_eq_true rfl⟩ (fun r ad1 ce3 H locs hp hw hS => ?_)
  obtain ⟨rfl, rfl, hV, hF2⟩ := hp
  have hF : ∀ j, j < 100 → ce3 j = ce j := fun j hj => (hF2 j hj).trans (hF j hj)
  obtain ⟨cn, zs, bs, hh, ⟨h100, h101, h102, h103, h104, h105, h106, h107, h108, h109, h110, h111⟩, hQ, hM⟩ := hV
  refine W.eq (g2 := F0 m 30 ls []) rfl ?_
  exact z_vret F hw hS (⟨rfl, rfl, ⟨_, _, _, _, ⟨h100, h101, h102, h103, h104, h105, h106, h107, h108, h109, h110, h111⟩, hQ, hM⟩, hF⟩) dX6_end_30
set_option maxHeartbeats 4000000 in
set_option maxRecDepth 100000 in
theorem r_release1 (l : Launch) {G : zz_G} {ad : Nat → Nat} {ce : zz_C} {sz : Nat} (T : rf_T) (Q : rf_Q) (M : List Nat) (hV : rfV G ad ce T Q M) : zz_M l yX6_release cX6_release 2 none 1 24 0 0 G [.ref (ad 100), .int 1] ad ce sz (fun r ad1 ce1 => r = none ∧ ad = ad1 ∧ rfV G ad ce1 (rf_rel T 1) (rf_put T Q 1 [3, 45]) M ∧ (∀ j, j < 100 → ce1 j = ce j)) := by
  refine zz_enter (by decide) (Nat.le_of_ble_eq_true rfl) ?_
  intro p e s m below meth c ls F hl hw hS hA
  obtain ⟨hx, hb, hr, hml, hown, hts, hlocks, hK, hnm⟩ := id F
  have hl : lv_has ls 2 [(0, .ref (ad 100)), (1, .int 1)] := hl
  obtain ⟨cn, zs, bs, hh, ⟨h100, h101, h102, h103, h104, h105, h106, h107, h108, h109, h110, h111⟩, hQ, hM⟩ := hV
  have hF : ∀ j, j < 100 → ce j = ce j := fun _ _ => rfl
  refine lv_aload_n hx hb dX6_release_0 rfl (lv_at hl 0 rfl) ?_
  refine lv_aload_n hx hb dX6_release_1 rfl (lv_at hl 0 rfl) ?_
  refine lv_iload_n hx hb dX6_release_2 rfl (lv_at hl 1 rfl) ?_
  have hV : rfV G ad ce T Q M := ⟨_, _, _, _, ⟨h100, h101, h102, h103, h104, h105, h106, h107, h108, h109, h110, h111⟩, hQ, hM⟩
  refine z_invV F (rest := [.ref (ad 100)]) (r_way1 l T Q M hV) yv_X6_80 ⟨Nat.le_of_ble_eq_true rfl, Nat.le_of_ble_eq_true rfl⟩ hw hA hS hl h100 rfl rfl rfl (Nat.le_of_ble_eq_true rfl) dX6_release_3 ⟨Nat.le_of_ble_eq_true rfl, Nat.le_of_ble_eq_true rfl⟩ (fun r ad1 ce1 H locs hp hw hS => ?_)
  obtain ⟨rfl, rfl, rfl⟩ := hp
  refine W.eq (g2 := F0 m 6 ls [.int 1, .ref (ad 100)]) rfl ?_
  refine lv_iconst (v := 3) hx hb dX6_release_6 (by decide) ?_
  refine lv_bipush (v := 45) hx hb dX6_release_7 (by decide) ?_
  have hV : rfV G ad ce T Q M := ⟨_, _, _, _, ⟨h100, h101, h102, h103, h104, h105, h106, h107, h108, h109, h110, h111⟩, hQ, hM⟩
  refine z_invV F (rest := []) (r_put1 l T Q M hV 3 45 (by decide) (by decide)) yv_X6_64 ⟨Nat.le_of_ble_eq_true rfl, Nat.le_of_ble_eq_true rfl⟩ hw hA hS hl h100 rfl rfl rfl (Nat.le_of_ble_eq_true rfl) dX6_release_9 ⟨Nat.le_of_ble_eq_true rfl, Nat.le_of_ble_eq_true rfl⟩ (fun r ad1 ce2 H locs hp hw hS => ?_)
  obtain ⟨rfl, rfl, hV, hF2⟩ := hp
  have hF : ∀ j, j < 100 → ce2 j = ce j := fun j hj => (hF2 j hj).trans (hF j hj)
  obtain ⟨cn, zs, bs, hh, ⟨h100, h101, h102, h103, h104, h105, h106, h107, h108, h109, h110, h111⟩, hQ, hM⟩ := hV
  refine W.eq (g2 := F0 m 12 ls [.int (rf_hd T Q 1)]) rfl ?_
  refine lv_pop hx hb dX6_release_12 rfl ?_
  refine lv_aload_n hx hb dX6_release_13 rfl (lv_at hl 0 rfl) ?_
  refine lv_iload_n hx hb dX6_release_14 rfl (lv_at hl 1 rfl) ?_
  refine lv_aload_n hx hb dX6_release_15 rfl (lv_at hl 0 rfl) ?_
  refine z_get F hw h100 fd_X6_23_X6 rfl dX6_release_16 ?_
  refine lv_iload_n hx hb dX6_release_19 rfl (lv_at hl 1 rfl) ?_
  refine z_ld F hw h104 (1) (rfl) (by decide) (by decide) dX6_release_20 ?_
  refine lv_bipush (v := 6) hx hb dX6_release_21 (by decide) ?_
  refine lv_bipush (v := 30) hx hb dX6_release_23 (by decide) ?_
  have hV : rfV G ad ce2 T (rf_put T Q 1 [3, 45]) M := ⟨_, _, _, _, ⟨h100, h101, h102, h103, h104, h105, h106, h107, h108, h109, h110, h111⟩, hQ, hM⟩
  refine z_invV F (rest := []) (r_become1 l T (rf_put T Q 1 [3, 45]) M hV ((T 1) 1) 6 30) yv_X6_83 ⟨Nat.le_of_ble_eq_true rfl, Nat.le_of_ble_eq_true rfl⟩ hw hA hS hl h100 rfl rfl rfl (Nat.le_of_ble_eq_true rfl) dX6_release_25 ⟨Nat.le_of_ble_eq_true rfl, Nat.le_of_ble_eq_true rfl⟩ (fun r ad1 ce3 H locs hp hw hS => ?_)
  obtain ⟨rfl, rfl, hV, hF2⟩ := hp
  have hF : ∀ j, j < 100 → ce3 j = ce j := fun j hj => (hF2 j hj).trans (hF j hj)
  obtain ⟨cn, zs, bs, hh, ⟨h100, h101, h102, h103, h104, h105, h106, h107, h108, h109, h110, h111⟩, hQ, hM⟩ := hV
  refine W.eq (g2 := F0 m 28 ls []) rfl ?_
  exact z_vret F hw hS (⟨rfl, rfl, ⟨_, _, _, _, ⟨h100, h101, h102, h103, h104, h105, h106, h107, h108, h109, h110, h111⟩, hQ, hM⟩, hF⟩) dX6_release_28
set_option maxHeartbeats 4000000 in
set_option maxRecDepth 100000 in
theorem r_end1 (l : Launch) {G : zz_G} {ad : Nat → Nat} {ce : zz_C} {sz : Nat} (T : rf_T) (Q : rf_Q) (M : List Nat) (hV : rfV G ad ce T Q M) (v : Int32) : zz_M l yX6_end cX6_end 3 none 2 52 0 0 G [.ref (ad 100), .int 1, .int v] ad ce sz (fun r ad1 ce1 => r = none ∧ ad = ad1 ∧ rfV G ad ce1 (rf_become T 1 (T 1 1) 5 30) (rf_put T Q 1 ([3, 37, 8, 1] ++ rf_bytes 1 v)) M ∧ (∀ j, j < 100 → ce1 j = ce j)) := by
  refine zz_enter (by decide) (Nat.le_of_ble_eq_true rfl) ?_
  intro p e s m below meth c ls F hl hw hS hA
  obtain ⟨hx, hb, hr, hml, hown, hts, hlocks, hK, hnm⟩ := id F
  have hl : lv_has ls 3 [(0, .ref (ad 100)), (1, .int 1), (2, .int v)] := hl
  obtain ⟨cn, zs, bs, hh, ⟨h100, h101, h102, h103, h104, h105, h106, h107, h108, h109, h110, h111⟩, hQ, hM⟩ := hV
  have hF : ∀ j, j < 100 → ce j = ce j := fun _ _ => rfl
  refine lv_aload_n hx hb dX6_end_0 rfl (lv_at hl 0 rfl) ?_
  refine lv_aload_n hx hb dX6_end_1 rfl (lv_at hl 0 rfl) ?_
  refine lv_iload_n hx hb dX6_end_2 rfl (lv_at hl 1 rfl) ?_
  have hV : rfV G ad ce T Q M := ⟨_, _, _, _, ⟨h100, h101, h102, h103, h104, h105, h106, h107, h108, h109, h110, h111⟩, hQ, hM⟩
  refine z_invV F (rest := [.ref (ad 100)]) (r_way1 l T Q M hV) yv_X6_80 ⟨Nat.le_of_ble_eq_true rfl, Nat.le_of_ble_eq_true rfl⟩ hw hA hS hl h100 rfl rfl rfl (Nat.le_of_ble_eq_true rfl) dX6_end_3 ⟨Nat.le_of_ble_eq_true rfl, Nat.le_of_ble_eq_true rfl⟩ (fun r ad1 ce1 H locs hp hw hS => ?_)
  obtain ⟨rfl, rfl, rfl⟩ := hp
  refine W.eq (g2 := F0 m 6 ls [.int 1, .ref (ad 100)]) rfl ?_
  refine lv_iconst (v := 3) hx hb dX6_end_6 (by decide) ?_
  refine lv_bipush (v := 37) hx hb dX6_end_7 (by decide) ?_
  refine lv_bipush (v := 8) hx hb dX6_end_9 (by decide) ?_
  refine lv_iconst (v := 1) hx hb dX6_end_11 (by decide) ?_
  refine lv_iload_n hx hb dX6_end_12 rfl (lv_at hl 2 rfl) ?_
  have hV : rfV G ad ce T Q M := ⟨_, _, _, _, ⟨h100, h101, h102, h103, h104, h105, h106, h107, h108, h109, h110, h111⟩, hQ, hM⟩
  refine z_invV F (rest := []) (r_tell1_1 l T Q M hV 3 37 8 (by decide) (by decide) (by decide) v) yv_X6_112 ⟨Nat.le_of_ble_eq_true rfl, Nat.le_of_ble_eq_true rfl⟩ hw hA hS hl h100 rfl rfl rfl (Nat.le_of_ble_eq_true rfl) dX6_end_13 ⟨Nat.le_of_ble_eq_true rfl, Nat.le_of_ble_eq_true rfl⟩ (fun r ad1 ce2 H locs hp hw hS => ?_)
  obtain ⟨rfl, rfl, hV, hF2⟩ := hp
  have hF : ∀ j, j < 100 → ce2 j = ce j := fun j hj => (hF2 j hj).trans (hF j hj)
  obtain ⟨cn, zs, bs, hh, ⟨h100, h101, h102, h103, h104, h105, h106, h107, h108, h109, h110, h111⟩, hQ, hM⟩ := hV
  refine W.eq (g2 := F0 m 16 ls []) rfl ?_
  refine lv_aload_n hx hb dX6_end_16 rfl (lv_at hl 0 rfl) ?_
  refine lv_iload_n hx hb dX6_end_17 rfl (lv_at hl 1 rfl) ?_
  refine lv_aload_n hx hb dX6_end_18 rfl (lv_at hl 0 rfl) ?_
  refine z_get F hw h100 fd_X6_23_X6 rfl dX6_end_19 ?_
  refine lv_iload_n hx hb dX6_end_22 rfl (lv_at hl 1 rfl) ?_
  refine z_ld F hw h104 (1) (rfl) (by decide) (by decide) dX6_end_23 ?_
  refine lv_iconst (v := 5) hx hb dX6_end_24 (by decide) ?_
  refine lv_bipush (v := 30) hx hb dX6_end_25 (by decide) ?_
  have hV : rfV G ad ce2 T (rf_put T Q 1 ([3, 37, 8, 1] ++ rf_bytes 1 v)) M := ⟨_, _, _, _, ⟨h100, h101, h102, h103, h104, h105, h106, h107, h108, h109, h110, h111⟩, hQ, hM⟩
  refine z_invV F (rest := []) (r_become1 l T (rf_put T Q 1 ([3, 37, 8, 1] ++ rf_bytes 1 v)) M hV ((T 1) 1) 5 30) yv_X6_83 ⟨Nat.le_of_ble_eq_true rfl, Nat.le_of_ble_eq_true rfl⟩ hw hA hS hl h100 rfl rfl rfl (Nat.le_of_ble_eq_true rfl) dX6_end_27 ⟨Nat.le_of_ble_eq_true rfl, Nat.le_of_ble_eq_true rfl⟩ (fun r ad1 ce3 H locs hp hw hS => ?_)
  obtain ⟨rfl, rfl, hV, hF2⟩ := hp
  have hF : ∀ j, j < 100 → ce3 j = ce j := fun j hj => (hF2 j hj).trans (hF j hj)
  obtain ⟨cn, zs, bs, hh, ⟨h100, h101, h102, h103, h104, h105, h106, h107, h108, h109, h110, h111⟩, hQ, hM⟩ := hV
  refine W.eq (g2 := F0 m 30 ls []) rfl ?_
  exact z_vret F hw hS (⟨rfl, rfl, ⟨_, _, _, _, ⟨h100, h101, h102, h103, h104, h105, h106, h107, h108, h109, h110, h111⟩, hQ, hM⟩, hF⟩) dX6_end_30
set_option maxHeartbeats 4000000 in
set_option maxRecDepth 100000 in
theorem r_closes0 (l : Launch) {G : zz_G} {ad : Nat → Nat} {ce : zz_C} {sz : Nat} (T : rf_T) (Q : rf_Q) (M : List Nat) (hV : rfV G ad ce T Q M) (hg : rf_good M) (ty : Nat) (hty : ty < 256) : zz_M l yX6_closes cX6_closes 4 (some .boolean) 2 46 0 0 G [.ref (ad 100), .int 0, .int (nI ty)] ad ce sz (fun r ad1 ce1 => r = some (.int (sp_closes T Q M 0 ty).1) ∧ ad = ad1 ∧ rfV G ad ce1 (sp_closes T Q M 0 ty).2.1 (sp_closes T Q M 0 ty).2.2 M ∧ (∀ j, j < 100 → ce1 j = ce j)) := by
  refine zz_enter (by decide) (Nat.le_of_ble_eq_true rfl) ?_
  intro p e s m below meth c ls F hl hw hS hA
  obtain ⟨hx, hb, hr, hml, hown, hts, hlocks, hK, hnm⟩ := id F
  have hl : lv_has ls 4 [(0, .ref (ad 100)), (1, .int 0), (2, .int (nI ty))] := hl
  obtain ⟨cn, zs, bs, hh, ⟨h100, h101, h102, h103, h104, h105, h106, h107, h108, h109, h110, h111⟩, hQ, hM⟩ := hV
  have hF : ∀ j, j < 100 → ce j = ce j := fun _ _ => rfl
  refine lv_bipush (v := -3) hx hb dX6_closes_0 (by decide) ?_
  refine lv_istore_n (lv' := [(3, .int (-3)), (0, .ref (ad 100)), (1, .int 0), (2, .int (nI ty))]) hx hb dX6_closes_2 rfl hl (by decide) rfl (fun ls hl => ?_)
  refine lv_iload_n hx hb dX6_closes_3 rfl (lv_at hl 3 rfl) ?_
  refine lv_bipush (v := 37) hx hb dX6_closes_4 (by decide) ?_
  refine lv_icmp_ne (tgt := 48) hx hb dX6_closes_6 (by decide) (fun c6 => ?_) (fun c6 => ?_)
  · refine lv_iload_n hx hb dX6_closes_48 rfl (lv_at hl 3 rfl) ?_
    refine lv_bipush (v := 45) hx hb dX6_closes_49 (by decide) ?_
    refine lv_icmp_ne (tgt := 95) hx hb dX6_closes_51 (by decide) (fun c51 => ?_) (fun c51 => ?_)
    · refine lv_iload_n hx hb dX6_closes_95 rfl (lv_at hl 3 rfl) ?_
      refine lv_bipush (v := 42) hx hb dX6_closes_96 (by decide) ?_
      refine lv_icmp_ne (tgt := 129) hx hb dX6_closes_98 (by decide) (fun c98 => ?_) (fun c98 => ?_)
      · refine lv_iconst (v := 0) hx hb dX6_closes_129 (by decide) ?_
        exact z_iret F (rfl) hw hS (by unfold sp_closes; rw [if_neg (fun q => c6 (by rw [q.1]; rfl)), if_neg (fun q => c51 (by rw [q.1]; rfl)), if_neg (fun q => c98 (by rw [q.1]; rfl))]; exact ⟨rfl, rfl, ⟨_, _, _, _, ⟨h100, h101, h102, h103, h104, h105, h106, h107, h108, h109, h110, h111⟩, hQ, hM⟩, hF⟩) dX6_closes_130
      · refine lv_iload_n hx hb dX6_closes_101 rfl (lv_at hl 2 rfl) ?_
        refine lv_iconst (v := 1) hx hb dX6_closes_102 (by decide) ?_
        refine lv_icmp_eq (tgt := 115) hx hb dX6_closes_103 (by decide) (fun c103 => absurd c103 (by decide)) (fun c103 => ?_)
        refine lv_aload_n hx hb dX6_closes_106 rfl (lv_at hl 1 rfl) ?_
        refine z_get F hw h100 fd_X6_26_X6 rfl dX6_closes_107 ?_
        refine lv_iload_n hx hb dX6_closes_110 rfl (lv_at hl 2 rfl) ?_
        refine z_ld F hw h105 (0) (rfl) (by decide) (by decide) dX6_closes_111 ?_
        refine lv_if_le (tgt := 129) hx hb dX6_closes_112 (by decide) (fun c112 => ?_) (fun c112 => ?_)
        · refine lv_iconst (v := 0) hx hb dX6_closes_129 (by decide) ?_
          exact z_iret F (rfl) hw hS (by unfold sp_closes; rw [if_neg (fun q => c6 (by rw [q.1]; rfl)), if_neg (fun q => c51 (by rw [q.1]; rfl)), if_neg (fun q => q.2.elim (by decide) (rf_nl c112))]; exact ⟨rfl, rfl, ⟨_, _, _, _, ⟨h100, h101, h102, h103, h104, h105, h106, h107, h108, h109, h110, h111⟩, hQ, hM⟩, hF⟩) dX6_closes_130
        · refine lv_aload_n hx hb dX6_closes_115 rfl (lv_at hl 1 rfl) ?_
          refine lv_iload_n hx hb dX6_closes_116 rfl (lv_at hl 2 rfl) ?_
          refine lv_aload_n hx hb dX6_closes_117 rfl (lv_at hl 1 rfl) ?_
          refine lv_iload_n hx hb dX6_closes_118 rfl (lv_at hl 2 rfl) ?_
          have hV : rfV G ad ce T Q M := ⟨_, _, _, _, ⟨h100, h101, h102, h103, h104, h105, h106, h107, h108, h109, h110, h111⟩, hQ, hM⟩
          refine z_invV F (rest := [.int 0, .ref (ad 100)]) (r_rest0 l T Q M hV) yv_X6_102 ⟨Nat.le_of_ble_eq_true rfl, Nat.le_of_ble_eq_true rfl⟩ hw hA hS hl h100 rfl rfl rfl (Nat.le_of_ble_eq_true rfl) dX6_closes_119 ⟨Nat.le_of_ble_eq_true rfl, Nat.le_of_ble_eq_true rfl⟩ (fun r ad1 ce1 H locs hp hw hS => ?_)
          obtain ⟨rfl, rfl, rfl⟩ := hp
          refine W.eq (g2 := F0 m 122 ls [.int 3, .int 0, .ref (ad 100)]) rfl ?_
          refine lv_iconst (v := 0) hx hb dX6_closes_122 (by decide) ?_
          refine lv_iconst (v := 0) hx hb dX6_closes_123 (by decide) ?_
          have hV : rfV G ad ce T Q M := ⟨_, _, _, _, ⟨h100, h101, h102, h103, h104, h105, h106, h107, h108, h109, h110, h111⟩, hQ, hM⟩
          refine z_invV F (rest := []) (r_become0 l T Q M hV 3 0 0) yv_X6_83 ⟨Nat.le_of_ble_eq_true rfl, Nat.le_of_ble_eq_true rfl⟩ hw hA hS hl h100 rfl rfl rfl (Nat.le_of_ble_eq_true rfl) dX6_closes_124 ⟨Nat.le_of_ble_eq_true rfl, Nat.le_of_ble_eq_true rfl⟩ (fun r ad1 ce2 H locs hp hw hS => ?_)
          obtain ⟨rfl, rfl, hV, hF2⟩ := hp
          have hF : ∀ j, j < 100 → ce2 j = ce j := fun j hj => (hF2 j hj).trans (hF j hj)
          obtain ⟨cn, zs, bs, hh, ⟨h100, h101, h102, h103, h104, h105, h106, h107, h108, h109, h110, h111⟩, hQ, hM⟩ := hV
          refine W.eq (g2 := F0 m 127 ls []) rfl ?_
          refine lv_iconst (v := 1) hx hb dX6_closes_127 (by decide) ?_
          exact z_iret F (rfl) hw hS (by unfold sp_closes; rw [if_neg (fun q => c6 (by rw [q.1]; rfl)), if_neg (fun q => c51 (by rw [q.1]; rfl)), if_pos ⟨rf_ei hty (by decide) c98, Or.inr (rf_gt c112)⟩]; exact ⟨rfl, rfl, ⟨_, _, _, _, ⟨h100, h101, h102, h103, h104, h105, h106, h107, h108, h109, h110, h111⟩, hQ, hM⟩, hF⟩) dX6_closes_128
    · refine lv_iload_n hx hb dX6_closes_54 rfl (lv_at hl 2 rfl) ?_
      refine lv_iconst (v := 1) hx hb dX6_closes_55 (by decide) ?_
      refine lv_icmp_eq (tgt := 68) hx hb dX6_closes_56 (by decide) (fun c56 => absurd c56 (by decide)) (fun c56 => ?_)
      refine lv_aload_n hx hb dX6_closes_59 rfl (lv_at hl 1 rfl) ?_
      refine z_get F hw h100 fd_X6_26_X6 rfl dX6_closes_60 ?_
      refine lv_iload_n hx hb dX6_closes_63 rfl (lv_at hl 2 rfl) ?_
      refine z_ld F hw h105 (0) (rfl) (by decide) (by decide) dX6_closes_64 ?_
      refine lv_if_le (tgt := 95) hx hb dX6_closes_65 (by decide) (fun c65 => ?_) (fun c65 => ?_)
      · refine lv_iload_n hx hb dX6_closes_95 rfl (lv_at hl 3 rfl) ?_
        refine lv_bipush (v := 42) hx hb dX6_closes_96 (by decide) ?_
        refine lv_icmp_ne (tgt := 129) hx hb dX6_closes_98 (by decide) (fun c98 => ?_) (fun c98 => ?_)
        · refine lv_iconst (v := 0) hx hb dX6_closes_129 (by decide) ?_
          exact z_iret F (rfl) hw hS (by unfold sp_closes; rw [if_neg (fun q => c6 (by rw [q.1]; rfl)), if_neg (fun q => q.2.elim (by decide) (rf_nl c65)), if_neg (fun q => c98 (by rw [q.1]; rfl))]; exact ⟨rfl, rfl, ⟨_, _, _, _, ⟨h100, h101, h102, h103, h104, h105, h106, h107, h108, h109, h110, h111⟩, hQ, hM⟩, hF⟩) dX6_closes_130
        · refine lv_iload_n hx hb dX6_closes_101 rfl (lv_at hl 2 rfl) ?_
          refine lv_iconst (v := 1) hx hb dX6_closes_102 (by decide) ?_
          refine lv_icmp_eq (tgt := 115) hx hb dX6_closes_103 (by decide) (fun c103 => absurd c103 (by decide)) (fun c103 => ?_)
          refine lv_aload_n hx hb dX6_closes_106 rfl (lv_at hl 1 rfl) ?_
          refine z_get F hw h100 fd_X6_26_X6 rfl dX6_closes_107 ?_
          refine lv_iload_n hx hb dX6_closes_110 rfl (lv_at hl 2 rfl) ?_
          refine z_ld F hw h105 (0) (rfl) (by decide) (by decide) dX6_closes_111 ?_
          refine lv_if_le (tgt := 129) hx hb dX6_closes_112 (by decide) (fun c112 => ?_) (fun c112 => ?_)
          · refine lv_iconst (v := 0) hx hb dX6_closes_129 (by decide) ?_
            exact z_iret F (rfl) hw hS (by unfold sp_closes; rw [if_neg (fun q => c6 (by rw [q.1]; rfl)), if_neg (fun q => q.2.elim (by decide) (rf_nl c65)), if_neg (fun q => q.2.elim (by decide) (rf_nl c112))]; exact ⟨rfl, rfl, ⟨_, _, _, _, ⟨h100, h101, h102, h103, h104, h105, h106, h107, h108, h109, h110, h111⟩, hQ, hM⟩, hF⟩) dX6_closes_130
          · refine lv_aload_n hx hb dX6_closes_115 rfl (lv_at hl 1 rfl) ?_
            refine lv_iload_n hx hb dX6_closes_116 rfl (lv_at hl 2 rfl) ?_
            refine lv_aload_n hx hb dX6_closes_117 rfl (lv_at hl 1 rfl) ?_
            refine lv_iload_n hx hb dX6_closes_118 rfl (lv_at hl 2 rfl) ?_
            have hV : rfV G ad ce T Q M := ⟨_, _, _, _, ⟨h100, h101, h102, h103, h104, h105, h106, h107, h108, h109, h110, h111⟩, hQ, hM⟩
            refine z_invV F (rest := [.int 0, .ref (ad 100)]) (r_rest0 l T Q M hV) yv_X6_102 ⟨Nat.le_of_ble_eq_true rfl, Nat.le_of_ble_eq_true rfl⟩ hw hA hS hl h100 rfl rfl rfl (Nat.le_of_ble_eq_true rfl) dX6_closes_119 ⟨Nat.le_of_ble_eq_true rfl, Nat.le_of_ble_eq_true rfl⟩ (fun r ad1 ce3 H locs hp hw hS => ?_)
            obtain ⟨rfl, rfl, rfl⟩ := hp
            refine W.eq (g2 := F0 m 122 ls [.int 3, .int 0, .ref (ad 100)]) rfl ?_
            refine lv_iconst (v := 0) hx hb dX6_closes_122 (by decide) ?_
            refine lv_iconst (v := 0) hx hb dX6_closes_123 (by decide) ?_
            have hV : rfV G ad ce T Q M := ⟨_, _, _, _, ⟨h100, h101, h102, h103, h104, h105, h106, h107, h108, h109, h110, h111⟩, hQ, hM⟩
            refine z_invV F (rest := []) (r_become0 l T Q M hV 3 0 0) yv_X6_83 ⟨Nat.le_of_ble_eq_true rfl, Nat.le_of_ble_eq_true rfl⟩ hw hA hS hl h100 rfl rfl rfl (Nat.le_of_ble_eq_true rfl) dX6_closes_124 ⟨Nat.le_of_ble_eq_true rfl, Nat.le_of_ble_eq_true rfl⟩ (fun r ad1 ce4 H locs hp hw hS => ?_)
            obtain ⟨rfl, rfl, hV, hF2⟩ := hp
            have hF : ∀ j, j < 100 → ce4 j = ce j := fun j hj => (hF2 j hj).trans (hF j hj)
            obtain ⟨cn, zs, bs, hh, ⟨h100, h101, h102, h103, h104, h105, h106, h107, h108, h109, h110, h111⟩, hQ, hM⟩ := hV
            refine W.eq (g2 := F0 m 127 ls []) rfl ?_
            refine lv_iconst (v := 1) hx hb dX6_closes_127 (by decide) ?_
            exact z_iret F (rfl) hw hS (by unfold sp_closes; rw [if_neg (fun q => c6 (by rw [q.1]; rfl)), if_neg (fun q => q.2.elim (by decide) (rf_nl c65)), if_pos ⟨rf_ei hty (by decide) c98, Or.inr (rf_gt c112)⟩]; exact ⟨rfl, rfl, ⟨_, _, _, _, ⟨h100, h101, h102, h103, h104, h105, h106, h107, h108, h109, h110, h111⟩, hQ, hM⟩, hF⟩) dX6_closes_128
      · refine lv_aload_n hx hb dX6_closes_68 rfl (lv_at hl 1 rfl) ?_
        refine lv_aload_n hx hb dX6_closes_69 rfl (lv_at hl 1 rfl) ?_
        refine lv_iload_n hx hb dX6_closes_70 rfl (lv_at hl 2 rfl) ?_
        have hV : rfV G ad ce T Q M := ⟨_, _, _, _, ⟨h100, h101, h102, h103, h104, h105, h106, h107, h108, h109, h110, h111⟩, hQ, hM⟩
        refine z_invV F (rest := [.ref (ad 100)]) (r_way0 l T Q M hV) yv_X6_80 ⟨Nat.le_of_ble_eq_true rfl, Nat.le_of_ble_eq_true rfl⟩ hw hA hS hl h100 rfl rfl rfl (Nat.le_of_ble_eq_true rfl) dX6_closes_71 ⟨Nat.le_of_ble_eq_true rfl, Nat.le_of_ble_eq_true rfl⟩ (fun r ad1 ce5 H locs hp hw hS => ?_)
        obtain ⟨rfl, rfl, rfl⟩ := hp
        refine W.eq (g2 := F0 m 74 ls [.int 0, .ref (ad 100)]) rfl ?_
        refine lv_iconst (v := 3) hx hb dX6_closes_74 (by decide) ?_
        refine lv_bipush (v := 42) hx hb dX6_closes_75 (by decide) ?_
        have hV : rfV G ad ce T Q M := ⟨_, _, _, _, ⟨h100, h101, h102, h103, h104, h105, h106, h107, h108, h109, h110, h111⟩, hQ, hM⟩
        refine z_invV F (rest := []) (r_put0 l T Q M hV 3 42 (by decide) (by decide)) yv_X6_64 ⟨Nat.le_of_ble_eq_true rfl, Nat.le_of_ble_eq_true rfl⟩ hw hA hS hl h100 rfl rfl rfl (Nat.le_of_ble_eq_true rfl) dX6_closes_77 ⟨Nat.le_of_ble_eq_true rfl, Nat.le_of_ble_eq_true rfl⟩ (fun r ad1 ce6 H locs hp hw hS => ?_)
        obtain ⟨rfl, rfl, hV, hF2⟩ := hp
        have hF : ∀ j, j < 100 → ce6 j = ce j := fun j hj => (hF2 j hj).trans (hF j hj)
        obtain ⟨cn, zs, bs, hh, ⟨h100, h101, h102, h103, h104, h105, h106, h107, h108, h109, h110, h111⟩, hQ, hM⟩ := hV
        refine W.eq (g2 := F0 m 80 ls [.int (rf_hd T Q 0)]) rfl ?_
        refine lv_istore_n (lv' := [(3, .int (rf_hd T Q 0)), (0, .ref (ad 100)), (1, .int 0), (2, .int (nI ty))]) hx hb dX6_closes_80 rfl hl (by decide) rfl (fun ls hl => ?_)
        refine lv_aload_n hx hb dX6_closes_81 rfl (lv_at hl 1 rfl) ?_
        refine lv_iload_n hx hb dX6_closes_82 rfl (lv_at hl 2 rfl) ?_
        refine lv_aload_n hx hb dX6_closes_83 rfl (lv_at hl 1 rfl) ?_
        refine lv_iload_n hx hb dX6_closes_84 rfl (lv_at hl 2 rfl) ?_
        have hV : rfV G ad ce6 T (rf_put T Q 0 [3, 42]) M := ⟨_, _, _, _, ⟨h100, h101, h102, h103, h104, h105, h106, h107, h108, h109, h110, h111⟩, hQ, hM⟩
        refine z_invV F (rest := [.int 0, .ref (ad 100)]) (r_rest0 l T (rf_put T Q 0 [3, 42]) M hV) yv_X6_102 ⟨Nat.le_of_ble_eq_true rfl, Nat.le_of_ble_eq_true rfl⟩ hw hA hS hl h100 rfl rfl rfl (Nat.le_of_ble_eq_true rfl) dX6_closes_85 ⟨Nat.le_of_ble_eq_true rfl, Nat.le_of_ble_eq_true rfl⟩ (fun r ad1 ce7 H locs hp hw hS => ?_)
        obtain ⟨rfl, rfl, rfl⟩ := hp
        refine W.eq (g2 := F0 m 88 ls [.int 3, .int 0, .ref (ad 100)]) rfl ?_
        refine lv_iconst (v := 0) hx hb dX6_closes_88 (by decide) ?_
        refine lv_iconst (v := 0) hx hb dX6_closes_89 (by decide) ?_
        have hV : rfV G ad ce6 T (rf_put T Q 0 [3, 42]) M := ⟨_, _, _, _, ⟨h100, h101, h102, h103, h104, h105, h106, h107, h108, h109, h110, h111⟩, hQ, hM⟩
        refine z_invV F (rest := []) (r_become0 l T (rf_put T Q 0 [3, 42]) M hV 3 0 0) yv_X6_83 ⟨Nat.le_of_ble_eq_true rfl, Nat.le_of_ble_eq_true rfl⟩ hw hA hS hl h100 rfl rfl rfl (Nat.le_of_ble_eq_true rfl) dX6_closes_90 ⟨Nat.le_of_ble_eq_true rfl, Nat.le_of_ble_eq_true rfl⟩ (fun r ad1 ce8 H locs hp hw hS => ?_)
        obtain ⟨rfl, rfl, hV, hF2⟩ := hp
        have hF : ∀ j, j < 100 → ce8 j = ce j := fun j hj => (hF2 j hj).trans (hF j hj)
        obtain ⟨cn, zs, bs, hh, ⟨h100, h101, h102, h103, h104, h105, h106, h107, h108, h109, h110, h111⟩, hQ, hM⟩ := hV
        refine W.eq (g2 := F0 m 93 ls []) rfl ?_
        refine lv_iconst (v := 1) hx hb dX6_closes_93 (by decide) ?_
        exact z_iret F (rfl) hw hS (by unfold sp_closes; rw [if_neg (fun q => c6 (by rw [q.1]; rfl)), if_pos ⟨rf_ei hty (by decide) c51, Or.inr (rf_gt c65)⟩]; exact ⟨rfl, rfl, ⟨_, _, _, _, ⟨h100, h101, h102, h103, h104, h105, h106, h107, h108, h109, h110, h111⟩, hQ, hM⟩, hF⟩) dX6_closes_94
  · refine lv_aload_n hx hb dX6_closes_9 rfl (lv_at hl 1 rfl) ?_
    refine lv_bipush (v := 8) hx hb dX6_closes_10 (by decide) ?_
    refine lv_iconst (v := 1) hx hb dX6_closes_12 (by decide) ?_
    have hV : rfV G ad ce T Q M := ⟨_, _, _, _, ⟨h100, h101, h102, h103, h104, h105, h106, h107, h108, h109, h110, h111⟩, hQ, hM⟩
    refine z_invV F (rest := []) (r_has l T Q M hV hg 8 1 (by decide) (by decide)) yv_X6_87 ⟨Nat.le_of_ble_eq_true rfl, Nat.le_of_ble_eq_true rfl⟩ hw hA hS hl h100 rfl rfl rfl (Nat.le_of_ble_eq_true rfl) dX6_closes_13 ⟨Nat.le_of_ble_eq_true rfl, Nat.le_of_ble_eq_true rfl⟩ (fun r ad1 ce9 H locs hp hw hS => ?_)
    obtain ⟨hp, rfl, rfl⟩ := hp
    rcases hp with ⟨hs, rfl⟩ | ⟨hs, rfl⟩
    · refine W.eq (g2 := F0 m 16 ls [.int 1]) rfl ?_
      refine lv_if_eq (tgt := 48) hx hb dX6_closes_16 (by decide) (fun c16 => absurd c16 (by decide)) (fun c16 => ?_)
      refine lv_aload_n hx hb dX6_closes_19 rfl (lv_at hl 1 rfl) ?_
      refine lv_iload_n hx hb dX6_closes_20 rfl (lv_at hl 2 rfl) ?_
      refine lv_iconst (v := 1) hx hb dX6_closes_21 (by decide) ?_
      refine lv_iconst (v := 5) hx hb dX6_closes_22 (by decide) ?_
      have hV : rfV G ad ce T Q M := ⟨_, _, _, _, ⟨h100, h101, h102, h103, h104, h105, h106, h107, h108, h109, h110, h111⟩, hQ, hM⟩
      refine z_invV F (rest := []) (r_isCall0 l T Q M hV 1 5) yv_X6_91 ⟨Nat.le_of_ble_eq_true rfl, Nat.le_of_ble_eq_true rfl⟩ hw hA hS hl h100 rfl rfl rfl (Nat.le_of_ble_eq_true rfl) dX6_closes_23 ⟨Nat.le_of_ble_eq_true rfl, Nat.le_of_ble_eq_true rfl⟩ (fun r ad1 ce10 H locs hp hw hS => ?_)
      obtain ⟨hp, rfl, rfl⟩ := hp
      rcases hp with ⟨hc, rfl⟩ | ⟨hc, rfl⟩
      · refine W.eq (g2 := F0 m 26 ls [.int 1]) rfl ?_
        refine lv_if_eq (tgt := 48) hx hb dX6_closes_26 (by decide) (fun c26 => absurd c26 (by decide)) (fun c26 => ?_)
        refine lv_aload_n hx hb dX6_closes_29 rfl (lv_at hl 1 rfl) ?_
        refine z_get F hw h100 fd_X6_36_X6 rfl dX6_closes_30 ?_
        refine lv_iload_n hx hb dX6_closes_33 rfl (lv_at hl 2 rfl) ?_
        refine lv_aload_n hx hb dX6_closes_34 rfl (lv_at hl 1 rfl) ?_
        refine lv_bipush (v := 8) hx hb dX6_closes_35 (by decide) ?_
        have hV : rfV G ad ce T Q M := ⟨_, _, _, _, ⟨h100, h101, h102, h103, h104, h105, h106, h107, h108, h109, h110, h111⟩, hQ, hM⟩
        refine z_invV F (rest := [.int 0, .ref (ad 108)]) (r_number l T Q M hV hg 8 1 (by decide) hs) yv_X6_95 ⟨Nat.le_of_ble_eq_true rfl, Nat.le_of_ble_eq_true rfl⟩ hw hA hS hl h100 rfl rfl rfl (Nat.le_of_ble_eq_true rfl) dX6_closes_37 ⟨Nat.le_of_ble_eq_true rfl, Nat.le_of_ble_eq_true rfl⟩ (fun r ad1 ce11 H locs hp hw hS => ?_)
        obtain ⟨rfl, rfl, rfl⟩ := hp
        refine W.eq (g2 := F0 m 40 ls [.int (rf_val M 8), .int 0, .ref (ad 108)]) rfl ?_
        refine z_st F hw hS h108 (0) (rfl) (by decide) (by decide) dX6_closes_40 (fun ce12 H locs h108 fr13 hw hS => ?_)
        have h100 := (fr13 100 (by decide)).trans h100
        have h101 := (fr13 101 (by decide)).trans h101
        have h102 := (fr13 102 (by decide)).trans h102
        have h103 := (fr13 103 (by decide)).trans h103
        have h104 := (fr13 104 (by decide)).trans h104
        have h105 := (fr13 105 (by decide)).trans h105
        have h106 := (fr13 106 (by decide)).trans h106
        have h107 := (fr13 107 (by decide)).trans h107
        have h109 := (fr13 109 (by decide)).trans h109
        have h110 := (fr13 110 (by decide)).trans h110
        have h111 := (fr13 111 (by decide)).trans h111
        have hF : ∀ j, j < 100 → _ = ce j := fun j hj => (fr13 j (by omega)).trans (hF j hj)
        refine lv_aload_n hx hb dX6_closes_41 rfl (lv_at hl 1 rfl) ?_
        refine lv_iload_n hx hb dX6_closes_42 rfl (lv_at hl 2 rfl) ?_
        have hV : rfV G ad ce12 (va_up T 5 (upd (T 5) 0 (rf_val M 8))) Q M := ⟨_, _, _, _, ⟨h100, h101, h102, h103, h104, h105, h106, h107, h108, h109, h110, h111⟩, hQ, hM⟩
        refine z_invV F (rest := []) (r_release0 l (va_up T 5 (upd (T 5) 0 (rf_val M 8))) Q M hV) yv_X6_98 ⟨Nat.le_of_ble_eq_true rfl, Nat.le_of_ble_eq_true rfl⟩ hw hA hS hl h100 rfl rfl rfl (Nat.le_of_ble_eq_true rfl) dX6_closes_43 ⟨Nat.le_of_ble_eq_true rfl, Nat.le_of_ble_eq_true rfl⟩ (fun r ad1 ce14 H locs hp hw hS => ?_)
        obtain ⟨rfl, rfl, hV, hF2⟩ := hp
        have hF : ∀ j, j < 100 → ce14 j = ce j := fun j hj => (hF2 j hj).trans (hF j hj)
        obtain ⟨cn, zs, bs, hh, ⟨h100, h101, h102, h103, h104, h105, h106, h107, h108, h109, h110, h111⟩, hQ, hM⟩ := hV
        refine W.eq (g2 := F0 m 46 ls []) rfl ?_
        refine lv_iconst (v := 1) hx hb dX6_closes_46 (by decide) ?_
        exact z_iret F (rfl) hw hS (by unfold sp_closes; rw [if_pos ⟨rf_ei hty (by decide) c6, hs, hc⟩]; exact ⟨rfl, rfl, ⟨_, _, _, _, ⟨h100, h101, h102, h103, h104, h105, h106, h107, h108, h109, h110, h111⟩, hQ, hM⟩, hF⟩) dX6_closes_47
      · refine W.eq (g2 := F0 m 26 ls [.int 0]) rfl ?_
        refine lv_if_eq (tgt := 48) hx hb dX6_closes_26 (by decide) (fun c26 => ?_) (fun c26 => absurd c26 (by decide))
        refine lv_iload_n hx hb dX6_closes_48 rfl (lv_at hl 3 rfl) ?_
        refine lv_bipush (v := 45) hx hb dX6_closes_49 (by decide) ?_
        refine lv_icmp_ne (tgt := 95) hx hb dX6_closes_51 (by decide) (fun c51 => ?_) (fun c51 => ?_)
        · refine lv_iload_n hx hb dX6_closes_95 rfl (lv_at hl 3 rfl) ?_
          refine lv_bipush (v := 42) hx hb dX6_closes_96 (by decide) ?_
          refine lv_icmp_ne (tgt := 129) hx hb dX6_closes_98 (by decide) (fun c98 => ?_) (fun c98 => ?_)
          · refine lv_iconst (v := 0) hx hb dX6_closes_129 (by decide) ?_
            exact z_iret F (rfl) hw hS (by unfold sp_closes; rw [if_neg (fun q => hc q.2.2), if_neg (fun q => c51 (by rw [q.1]; rfl)), if_neg (fun q => c98 (by rw [q.1]; rfl))]; exact ⟨rfl, rfl, ⟨_, _, _, _, ⟨h100, h101, h102, h103, h104, h105, h106, h107, h108, h109, h110, h111⟩, hQ, hM⟩, hF⟩) dX6_closes_130
          · refine lv_iload_n hx hb dX6_closes_101 rfl (lv_at hl 2 rfl) ?_
            refine lv_iconst (v := 1) hx hb dX6_closes_102 (by decide) ?_
            refine lv_icmp_eq (tgt := 115) hx hb dX6_closes_103 (by decide) (fun c103 => absurd c103 (by decide)) (fun c103 => ?_)
            refine lv_aload_n hx hb dX6_closes_106 rfl (lv_at hl 1 rfl) ?_
            refine z_get F hw h100 fd_X6_26_X6 rfl dX6_closes_107 ?_
            refine lv_iload_n hx hb dX6_closes_110 rfl (lv_at hl 2 rfl) ?_
            refine z_ld F hw h105 (0) (rfl) (by decide) (by decide) dX6_closes_111 ?_
            refine lv_if_le (tgt := 129) hx hb dX6_closes_112 (by decide) (fun c112 => ?_) (fun c112 => ?_)
            · refine lv_iconst (v := 0) hx hb dX6_closes_129 (by decide) ?_
              exact z_iret F (rfl) hw hS (by unfold sp_closes; rw [if_neg (fun q => hc q.2.2), if_neg (fun q => c51 (by rw [q.1]; rfl)), if_neg (fun q => q.2.elim (by decide) (rf_nl c112))]; exact ⟨rfl, rfl, ⟨_, _, _, _, ⟨h100, h101, h102, h103, h104, h105, h106, h107, h108, h109, h110, h111⟩, hQ, hM⟩, hF⟩) dX6_closes_130
            · refine lv_aload_n hx hb dX6_closes_115 rfl (lv_at hl 1 rfl) ?_
              refine lv_iload_n hx hb dX6_closes_116 rfl (lv_at hl 2 rfl) ?_
              refine lv_aload_n hx hb dX6_closes_117 rfl (lv_at hl 1 rfl) ?_
              refine lv_iload_n hx hb dX6_closes_118 rfl (lv_at hl 2 rfl) ?_
              have hV : rfV G ad ce T Q M := ⟨_, _, _, _, ⟨h100, h101, h102, h103, h104, h105, h106, h107, h108, h109, h110, h111⟩, hQ, hM⟩
              refine z_invV F (rest := [.int 0, .ref (ad 100)]) (r_rest0 l T Q M hV) yv_X6_102 ⟨Nat.le_of_ble_eq_true rfl, Nat.le_of_ble_eq_true rfl⟩ hw hA hS hl h100 rfl rfl rfl (Nat.le_of_ble_eq_true rfl) dX6_closes_119 ⟨Nat.le_of_ble_eq_true rfl, Nat.le_of_ble_eq_true rfl⟩ (fun r ad1 ce15 H locs hp hw hS => ?_)
              obtain ⟨rfl, rfl, rfl⟩ := hp
              refine W.eq (g2 := F0 m 122 ls [.int 3, .int 0, .ref (ad 100)]) rfl ?_
              refine lv_iconst (v := 0) hx hb dX6_closes_122 (by decide) ?_
              refine lv_iconst (v := 0) hx hb dX6_closes_123 (by decide) ?_
              have hV : rfV G ad ce T Q M := ⟨_, _, _, _, ⟨h100, h101, h102, h103, h104, h105, h106, h107, h108, h109, h110, h111⟩, hQ, hM⟩
              refine z_invV F (rest := []) (r_become0 l T Q M hV 3 0 0) yv_X6_83 ⟨Nat.le_of_ble_eq_true rfl, Nat.le_of_ble_eq_true rfl⟩ hw hA hS hl h100 rfl rfl rfl (Nat.le_of_ble_eq_true rfl) dX6_closes_124 ⟨Nat.le_of_ble_eq_true rfl, Nat.le_of_ble_eq_true rfl⟩ (fun r ad1 ce16 H locs hp hw hS => ?_)
              obtain ⟨rfl, rfl, hV, hF2⟩ := hp
              have hF : ∀ j, j < 100 → ce16 j = ce j := fun j hj => (hF2 j hj).trans (hF j hj)
              obtain ⟨cn, zs, bs, hh, ⟨h100, h101, h102, h103, h104, h105, h106, h107, h108, h109, h110, h111⟩, hQ, hM⟩ := hV
              refine W.eq (g2 := F0 m 127 ls []) rfl ?_
              refine lv_iconst (v := 1) hx hb dX6_closes_127 (by decide) ?_
              exact z_iret F (rfl) hw hS (by unfold sp_closes; rw [if_neg (fun q => hc q.2.2), if_neg (fun q => c51 (by rw [q.1]; rfl)), if_pos ⟨rf_ei hty (by decide) c98, Or.inr (rf_gt c112)⟩]; exact ⟨rfl, rfl, ⟨_, _, _, _, ⟨h100, h101, h102, h103, h104, h105, h106, h107, h108, h109, h110, h111⟩, hQ, hM⟩, hF⟩) dX6_closes_128
        · refine lv_iload_n hx hb dX6_closes_54 rfl (lv_at hl 2 rfl) ?_
          refine lv_iconst (v := 1) hx hb dX6_closes_55 (by decide) ?_
          refine lv_icmp_eq (tgt := 68) hx hb dX6_closes_56 (by decide) (fun c56 => absurd c56 (by decide)) (fun c56 => ?_)
          refine lv_aload_n hx hb dX6_closes_59 rfl (lv_at hl 1 rfl) ?_
          refine z_get F hw h100 fd_X6_26_X6 rfl dX6_closes_60 ?_
          refine lv_iload_n hx hb dX6_closes_63 rfl (lv_at hl 2 rfl) ?_
          refine z_ld F hw h105 (0) (rfl) (by decide) (by decide) dX6_closes_64 ?_
          refine lv_if_le (tgt := 95) hx hb dX6_closes_65 (by decide) (fun c65 => ?_) (fun c65 => ?_)
          · refine lv_iload_n hx hb dX6_closes_95 rfl (lv_at hl 3 rfl) ?_
            refine lv_bipush (v := 42) hx hb dX6_closes_96 (by decide) ?_
            refine lv_icmp_ne (tgt := 129) hx hb dX6_closes_98 (by decide) (fun c98 => ?_) (fun c98 => ?_)
            · refine lv_iconst (v := 0) hx hb dX6_closes_129 (by decide) ?_
              exact z_iret F (rfl) hw hS (by unfold sp_closes; rw [if_neg (fun q => hc q.2.2), if_neg (fun q => q.2.elim (by decide) (rf_nl c65)), if_neg (fun q => c98 (by rw [q.1]; rfl))]; exact ⟨rfl, rfl, ⟨_, _, _, _, ⟨h100, h101, h102, h103, h104, h105, h106, h107, h108, h109, h110, h111⟩, hQ, hM⟩, hF⟩) dX6_closes_130
            · refine lv_iload_n hx hb dX6_closes_101 rfl (lv_at hl 2 rfl) ?_
              refine lv_iconst (v := 1) hx hb dX6_closes_102 (by decide) ?_
              refine lv_icmp_eq (tgt := 115) hx hb dX6_closes_103 (by decide) (fun c103 => absurd c103 (by decide)) (fun c103 => ?_)
              refine lv_aload_n hx hb dX6_closes_106 rfl (lv_at hl 1 rfl) ?_
              refine z_get F hw h100 fd_X6_26_X6 rfl dX6_closes_107 ?_
              refine lv_iload_n hx hb dX6_closes_110 rfl (lv_at hl 2 rfl) ?_
              refine z_ld F hw h105 (0) (rfl) (by decide) (by decide) dX6_closes_111 ?_
              refine lv_if_le (tgt := 129) hx hb dX6_closes_112 (by decide) (fun c112 => ?_) (fun c112 => ?_)
              · refine lv_iconst (v := 0) hx hb dX6_closes_129 (by decide) ?_
                exact z_iret F (rfl) hw hS (by unfold sp_closes; rw [if_neg (fun q => hc q.2.2), if_neg (fun q => q.2.elim (by decide) (rf_nl c65)), if_neg (fun q => q.2.elim (by decide) (rf_nl c112))]; exact ⟨rfl, rfl, ⟨_, _, _, _, ⟨h100, h101, h102, h103, h104, h105, h106, h107, h108, h109, h110, h111⟩, hQ, hM⟩, hF⟩) dX6_closes_130
              · refine lv_aload_n hx hb dX6_closes_115 rfl (lv_at hl 1 rfl) ?_
                refine lv_iload_n hx hb dX6_closes_116 rfl (lv_at hl 2 rfl) ?_
                refine lv_aload_n hx hb dX6_closes_117 rfl (lv_at hl 1 rfl) ?_
                refine lv_iload_n hx hb dX6_closes_118 rfl (lv_at hl 2 rfl) ?_
                have hV : rfV G ad ce T Q M := ⟨_, _, _, _, ⟨h100, h101, h102, h103, h104, h105, h106, h107, h108, h109, h110, h111⟩, hQ, hM⟩
                refine z_invV F (rest := [.int 0, .ref (ad 100)]) (r_rest0 l T Q M hV) yv_X6_102 ⟨Nat.le_of_ble_eq_true rfl, Nat.le_of_ble_eq_true rfl⟩ hw hA hS hl h100 rfl rfl rfl (Nat.le_of_ble_eq_true rfl) dX6_closes_119 ⟨Nat.le_of_ble_eq_true rfl, Nat.le_of_ble_eq_true rfl⟩ (fun r ad1 ce17 H locs hp hw hS => ?_)
                obtain ⟨rfl, rfl, rfl⟩ := hp
                refine W.eq (g2 := F0 m 122 ls [.int 3, .int 0, .ref (ad 100)]) rfl ?_
                refine lv_iconst (v := 0) hx hb dX6_closes_122 (by decide) ?_
                refine lv_iconst (v := 0) hx hb dX6_closes_123 (by decide) ?_
                have hV : rfV G ad ce T Q M := ⟨_, _, _, _, ⟨h100, h101, h102, h103, h104, h105, h106, h107, h108, h109, h110, h111⟩, hQ, hM⟩
                refine z_invV F (rest := []) (r_become0 l T Q M hV 3 0 0) yv_X6_83 ⟨Nat.le_of_ble_eq_true rfl, Nat.le_of_ble_eq_true rfl⟩ hw hA hS hl h100 rfl rfl rfl (Nat.le_of_ble_eq_true rfl) dX6_closes_124 ⟨Nat.le_of_ble_eq_true rfl, Nat.le_of_ble_eq_true rfl⟩ (fun r ad1 ce18 H locs hp hw hS => ?_)
                obtain ⟨rfl, rfl, hV, hF2⟩ := hp
                have hF : ∀ j, j < 100 → ce18 j = ce j := fun j hj => (hF2 j hj).trans (hF j hj)
                obtain ⟨cn, zs, bs, hh, ⟨h100, h101, h102, h103, h104, h105, h106, h107, h108, h109, h110, h111⟩, hQ, hM⟩ := hV
                refine W.eq (g2 := F0 m 127 ls []) rfl ?_
                refine lv_iconst (v := 1) hx hb dX6_closes_127 (by decide) ?_
                exact z_iret F (rfl) hw hS (by unfold sp_closes; rw [if_neg (fun q => hc q.2.2), if_neg (fun q => q.2.elim (by decide) (rf_nl c65)), if_pos ⟨rf_ei hty (by decide) c98, Or.inr (rf_gt c112)⟩]; exact ⟨rfl, rfl, ⟨_, _, _, _, ⟨h100, h101, h102, h103, h104, h105, h106, h107, h108, h109, h110, h111⟩, hQ, hM⟩, hF⟩) dX6_closes_128
          · refine lv_aload_n hx hb dX6_closes_68 rfl (lv_at hl 1 rfl) ?_
            refine lv_aload_n hx hb dX6_closes_69 rfl (lv_at hl 1 rfl) ?_
            refine lv_iload_n hx hb dX6_closes_70 rfl (lv_at hl 2 rfl) ?_
            have hV : rfV G ad ce T Q M := ⟨_, _, _, _, ⟨h100, h101, h102, h103, h104, h105, h106, h107, h108, h109, h110, h111⟩, hQ, hM⟩
            refine z_invV F (rest := [.ref (ad 100)]) (r_way0 l T Q M hV) yv_X6_80 ⟨Nat.le_of_ble_eq_true rfl, Nat.le_of_ble_eq_true rfl⟩ hw hA hS hl h100 rfl rfl rfl (Nat.le_of_ble_eq_true rfl) dX6_closes_71 ⟨Nat.le_of_ble_eq_true rfl, Nat.le_of_ble_eq_true rfl⟩ (fun r ad1 ce19 H locs hp hw hS => ?_)
            obtain ⟨rfl, rfl, rfl⟩ := hp
            refine W.eq (g2 := F0 m 74 ls [.int 0, .ref (ad 100)]) rfl ?_
            refine lv_iconst (v := 3) hx hb dX6_closes_74 (by decide) ?_
            refine lv_bipush (v := 42) hx hb dX6_closes_75 (by decide) ?_
            have hV : rfV G ad ce T Q M := ⟨_, _, _, _, ⟨h100, h101, h102, h103, h104, h105, h106, h107, h108, h109, h110, h111⟩, hQ, hM⟩
            refine z_invV F (rest := []) (r_put0 l T Q M hV 3 42 (by decide) (by decide)) yv_X6_64 ⟨Nat.le_of_ble_eq_true rfl, Nat.le_of_ble_eq_true rfl⟩ hw hA hS hl h100 rfl rfl rfl (Nat.le_of_ble_eq_true rfl) dX6_closes_77 ⟨Nat.le_of_ble_eq_true rfl, Nat.le_of_ble_eq_true rfl⟩ (fun r ad1 ce20 H locs hp hw hS => ?_)
            obtain ⟨rfl, rfl, hV, hF2⟩ := hp
            have hF : ∀ j, j < 100 → ce20 j = ce j := fun j hj => (hF2 j hj).trans (hF j hj)
            obtain ⟨cn, zs, bs, hh, ⟨h100, h101, h102, h103, h104, h105, h106, h107, h108, h109, h110, h111⟩, hQ, hM⟩ := hV
            refine W.eq (g2 := F0 m 80 ls [.int (rf_hd T Q 0)]) rfl ?_
            refine lv_istore_n (lv' := [(3, .int (rf_hd T Q 0)), (0, .ref (ad 100)), (1, .int 0), (2, .int (nI ty))]) hx hb dX6_closes_80 rfl hl (by decide) rfl (fun ls hl => ?_)
            refine lv_aload_n hx hb dX6_closes_81 rfl (lv_at hl 1 rfl) ?_
            refine lv_iload_n hx hb dX6_closes_82 rfl (lv_at hl 2 rfl) ?_
            refine lv_aload_n hx hb dX6_closes_83 rfl (lv_at hl 1 rfl) ?_
            refine lv_iload_n hx hb dX6_closes_84 rfl (lv_at hl 2 rfl) ?_
            have hV : rfV G ad ce20 T (rf_put T Q 0 [3, 42]) M := ⟨_, _, _, _, ⟨h100, h101, h102, h103, h104, h105, h106, h107, h108, h109, h110, h111⟩, hQ, hM⟩
            refine z_invV F (rest := [.int 0, .ref (ad 100)]) (r_rest0 l T (rf_put T Q 0 [3, 42]) M hV) yv_X6_102 ⟨Nat.le_of_ble_eq_true rfl, Nat.le_of_ble_eq_true rfl⟩ hw hA hS hl h100 rfl rfl rfl (Nat.le_of_ble_eq_true rfl) dX6_closes_85 ⟨Nat.le_of_ble_eq_true rfl, Nat.le_of_ble_eq_true rfl⟩ (fun r ad1 ce21 H locs hp hw hS => ?_)
            obtain ⟨rfl, rfl, rfl⟩ := hp
            refine W.eq (g2 := F0 m 88 ls [.int 3, .int 0, .ref (ad 100)]) rfl ?_
            refine lv_iconst (v := 0) hx hb dX6_closes_88 (by decide) ?_
            refine lv_iconst (v := 0) hx hb dX6_closes_89 (by decide) ?_
            have hV : rfV G ad ce20 T (rf_put T Q 0 [3, 42]) M := ⟨_, _, _, _, ⟨h100, h101, h102, h103, h104, h105, h106, h107, h108, h109, h110, h111⟩, hQ, hM⟩
            refine z_invV F (rest := []) (r_become0 l T (rf_put T Q 0 [3, 42]) M hV 3 0 0) yv_X6_83 ⟨Nat.le_of_ble_eq_true rfl, Nat.le_of_ble_eq_true rfl⟩ hw hA hS hl h100 rfl rfl rfl (Nat.le_of_ble_eq_true rfl) dX6_closes_90 ⟨Nat.le_of_ble_eq_true rfl, Nat.le_of_ble_eq_true rfl⟩ (fun r ad1 ce22 H locs hp hw hS => ?_)
            obtain ⟨rfl, rfl, hV, hF2⟩ := hp
            have hF : ∀ j, j < 100 → ce22 j = ce j := fun j hj => (hF2 j hj).trans (hF j hj)
            obtain ⟨cn, zs, bs, hh, ⟨h100, h101, h102, h103, h104, h105, h106, h107, h108, h109, h110, h111⟩, hQ, hM⟩ := hV
            refine W.eq (g2 := F0 m 93 ls []) rfl ?_
            refine lv_iconst (v := 1) hx hb dX6_closes_93 (by decide) ?_
            exact z_iret F (rfl) hw hS (by unfold sp_closes; rw [if_neg (fun q => hc q.2.2), if_pos ⟨rf_ei hty (by decide) c51, Or.inr (rf_gt c65)⟩]; exact ⟨rfl, rfl, ⟨_, _, _, _, ⟨h100, h101, h102, h103, h104, h105, h106, h107, h108, h109, h110, h111⟩, hQ, hM⟩, hF⟩) dX6_closes_94
    · refine W.eq (g2 := F0 m 16 ls [.int 0]) rfl ?_
      refine lv_if_eq (tgt := 48) hx hb dX6_closes_16 (by decide) (fun c16 => ?_) (fun c16 => absurd c16 (by decide))
      refine lv_iload_n hx hb dX6_closes_48 rfl (lv_at hl 3 rfl) ?_
      refine lv_bipush (v := 45) hx hb dX6_closes_49 (by decide) ?_
      refine lv_icmp_ne (tgt := 95) hx hb dX6_closes_51 (by decide) (fun c51 => ?_) (fun c51 => ?_)
      · refine lv_iload_n hx hb dX6_closes_95 rfl (lv_at hl 3 rfl) ?_
        refine lv_bipush (v := 42) hx hb dX6_closes_96 (by decide) ?_
        refine lv_icmp_ne (tgt := 129) hx hb dX6_closes_98 (by decide) (fun c98 => ?_) (fun c98 => ?_)
        · refine lv_iconst (v := 0) hx hb dX6_closes_129 (by decide) ?_
          exact z_iret F (rfl) hw hS (by unfold sp_closes; rw [if_neg (fun q => hs q.2.1), if_neg (fun q => c51 (by rw [q.1]; rfl)), if_neg (fun q => c98 (by rw [q.1]; rfl))]; exact ⟨rfl, rfl, ⟨_, _, _, _, ⟨h100, h101, h102, h103, h104, h105, h106, h107, h108, h109, h110, h111⟩, hQ, hM⟩, hF⟩) dX6_closes_130
        · refine lv_iload_n hx hb dX6_closes_101 rfl (lv_at hl 2 rfl) ?_
          refine lv_iconst (v := 1) hx hb dX6_closes_102 (by decide) ?_
          refine lv_icmp_eq (tgt := 115) hx hb dX6_closes_103 (by decide) (fun c103 => absurd c103 (by decide)) (fun c103 => ?_)
          refine lv_aload_n hx hb dX6_closes_106 rfl (lv_at hl 1 rfl) ?_
          refine z_get F hw h100 fd_X6_26_X6 rfl dX6_closes_107 ?_
          refine lv_iload_n hx hb dX6_closes_110 rfl (lv_at hl 2 rfl) ?_
          refine z_ld F hw h105 (0) (rfl) (by decide) (by decide) dX6_closes_111 ?_
          refine lv_if_le (tgt := 129) hx hb dX6_closes_112 (by decide) (fun c112 => ?_) (fun c112 => ?_)
          · refine lv_iconst (v := 0) hx hb dX6_closes_129 (by decide) ?_
            exact z_iret F (rfl) hw hS (by unfold sp_closes; rw [if_neg (fun q => hs q.2.1), if_neg (fun q => c51 (by rw [q.1]; rfl)), if_neg (fun q => q.2.elim (by decide) (rf_nl c112))]; exact ⟨rfl, rfl, ⟨_, _, _, _, ⟨h100, h101, h102, h103, h104, h105, h106, h107, h108, h109, h110, h111⟩, hQ, hM⟩, hF⟩) dX6_closes_130
          · refine lv_aload_n hx hb dX6_closes_115 rfl (lv_at hl 1 rfl) ?_
            refine lv_iload_n hx hb dX6_closes_116 rfl (lv_at hl 2 rfl) ?_
            refine lv_aload_n hx hb dX6_closes_117 rfl (lv_at hl 1 rfl) ?_
            refine lv_iload_n hx hb dX6_closes_118 rfl (lv_at hl 2 rfl) ?_
            have hV : rfV G ad ce T Q M := ⟨_, _, _, _, ⟨h100, h101, h102, h103, h104, h105, h106, h107, h108, h109, h110, h111⟩, hQ, hM⟩
            refine z_invV F (rest := [.int 0, .ref (ad 100)]) (r_rest0 l T Q M hV) yv_X6_102 ⟨Nat.le_of_ble_eq_true rfl, Nat.le_of_ble_eq_true rfl⟩ hw hA hS hl h100 rfl rfl rfl (Nat.le_of_ble_eq_true rfl) dX6_closes_119 ⟨Nat.le_of_ble_eq_true rfl, Nat.le_of_ble_eq_true rfl⟩ (fun r ad1 ce23 H locs hp hw hS => ?_)
            obtain ⟨rfl, rfl, rfl⟩ := hp
            refine W.eq (g2 := F0 m 122 ls [.int 3, .int 0, .ref (ad 100)]) rfl ?_
            refine lv_iconst (v := 0) hx hb dX6_closes_122 (by decide) ?_
            refine lv_iconst (v := 0) hx hb dX6_closes_123 (by decide) ?_
            have hV : rfV G ad ce T Q M := ⟨_, _, _, _, ⟨h100, h101, h102, h103, h104, h105, h106, h107, h108, h109, h110, h111⟩, hQ, hM⟩
            refine z_invV F (rest := []) (r_become0 l T Q M hV 3 0 0) yv_X6_83 ⟨Nat.le_of_ble_eq_true rfl, Nat.le_of_ble_eq_true rfl⟩ hw hA hS hl h100 rfl rfl rfl (Nat.le_of_ble_eq_true rfl) dX6_closes_124 ⟨Nat.le_of_ble_eq_true rfl, Nat.le_of_ble_eq_true rfl⟩ (fun r ad1 ce24 H locs hp hw hS => ?_)
            obtain ⟨rfl, rfl, hV, hF2⟩ := hp
            have hF : ∀ j, j < 100 → ce24 j = ce j := fun j hj => (hF2 j hj).trans (hF j hj)
            obtain ⟨cn, zs, bs, hh, ⟨h100, h101, h102, h103, h104, h105, h106, h107, h108, h109, h110, h111⟩, hQ, hM⟩ := hV
            refine W.eq (g2 := F0 m 127 ls []) rfl ?_
            refine lv_iconst (v := 1) hx hb dX6_closes_127 (by decide) ?_
            exact z_iret F (rfl) hw hS (by unfold sp_closes; rw [if_neg (fun q => hs q.2.1), if_neg (fun q => c51 (by rw [q.1]; rfl)), if_pos ⟨rf_ei hty (by decide) c98, Or.inr (rf_gt c112)⟩]; exact ⟨rfl, rfl, ⟨_, _, _, _, ⟨h100, h101, h102, h103, h104, h105, h106, h107, h108, h109, h110, h111⟩, hQ, hM⟩, hF⟩) dX6_closes_128
      · refine lv_iload_n hx hb dX6_closes_54 rfl (lv_at hl 2 rfl) ?_
        refine lv_iconst (v := 1) hx hb dX6_closes_55 (by decide) ?_
        refine lv_icmp_eq (tgt := 68) hx hb dX6_closes_56 (by decide) (fun c56 => absurd c56 (by decide)) (fun c56 => ?_)
        refine lv_aload_n hx hb dX6_closes_59 rfl (lv_at hl 1 rfl) ?_
        refine z_get F hw h100 fd_X6_26_X6 rfl dX6_closes_60 ?_
        refine lv_iload_n hx hb dX6_closes_63 rfl (lv_at hl 2 rfl) ?_
        refine z_ld F hw h105 (0) (rfl) (by decide) (by decide) dX6_closes_64 ?_
        refine lv_if_le (tgt := 95) hx hb dX6_closes_65 (by decide) (fun c65 => ?_) (fun c65 => ?_)
        · refine lv_iload_n hx hb dX6_closes_95 rfl (lv_at hl 3 rfl) ?_
          refine lv_bipush (v := 42) hx hb dX6_closes_96 (by decide) ?_
          refine lv_icmp_ne (tgt := 129) hx hb dX6_closes_98 (by decide) (fun c98 => ?_) (fun c98 => ?_)
          · refine lv_iconst (v := 0) hx hb dX6_closes_129 (by decide) ?_
            exact z_iret F (rfl) hw hS (by unfold sp_closes; rw [if_neg (fun q => hs q.2.1), if_neg (fun q => q.2.elim (by decide) (rf_nl c65)), if_neg (fun q => c98 (by rw [q.1]; rfl))]; exact ⟨rfl, rfl, ⟨_, _, _, _, ⟨h100, h101, h102, h103, h104, h105, h106, h107, h108, h109, h110, h111⟩, hQ, hM⟩, hF⟩) dX6_closes_130
          · refine lv_iload_n hx hb dX6_closes_101 rfl (lv_at hl 2 rfl) ?_
            refine lv_iconst (v := 1) hx hb dX6_closes_102 (by decide) ?_
            refine lv_icmp_eq (tgt := 115) hx hb dX6_closes_103 (by decide) (fun c103 => absurd c103 (by decide)) (fun c103 => ?_)
            refine lv_aload_n hx hb dX6_closes_106 rfl (lv_at hl 1 rfl) ?_
            refine z_get F hw h100 fd_X6_26_X6 rfl dX6_closes_107 ?_
            refine lv_iload_n hx hb dX6_closes_110 rfl (lv_at hl 2 rfl) ?_
            refine z_ld F hw h105 (0) (rfl) (by decide) (by decide) dX6_closes_111 ?_
            refine lv_if_le (tgt := 129) hx hb dX6_closes_112 (by decide) (fun c112 => ?_) (fun c112 => ?_)
            · refine lv_iconst (v := 0) hx hb dX6_closes_129 (by decide) ?_
              exact z_iret F (rfl) hw hS (by unfold sp_closes; rw [if_neg (fun q => hs q.2.1), if_neg (fun q => q.2.elim (by decide) (rf_nl c65)), if_neg (fun q => q.2.elim (by decide) (rf_nl c112))]; exact ⟨rfl, rfl, ⟨_, _, _, _, ⟨h100, h101, h102, h103, h104, h105, h106, h107, h108, h109, h110, h111⟩, hQ, hM⟩, hF⟩) dX6_closes_130
            · refine lv_aload_n hx hb dX6_closes_115 rfl (lv_at hl 1 rfl) ?_
              refine lv_iload_n hx hb dX6_closes_116 rfl (lv_at hl 2 rfl) ?_
              refine lv_aload_n hx hb dX6_closes_117 rfl (lv_at hl 1 rfl) ?_
              refine lv_iload_n hx hb dX6_closes_118 rfl (lv_at hl 2 rfl) ?_
              have hV : rfV G ad ce T Q M := ⟨_, _, _, _, ⟨h100, h101, h102, h103, h104, h105, h106, h107, h108, h109, h110, h111⟩, hQ, hM⟩
              refine z_invV F (rest := [.int 0, .ref (ad 100)]) (r_rest0 l T Q M hV) yv_X6_102 ⟨Nat.le_of_ble_eq_true rfl, Nat.le_of_ble_eq_true rfl⟩ hw hA hS hl h100 rfl rfl rfl (Nat.le_of_ble_eq_true rfl) dX6_closes_119 ⟨Nat.le_of_ble_eq_true rfl, Nat.le_of_ble_eq_true rfl⟩ (fun r ad1 ce25 H locs hp hw hS => ?_)
              obtain ⟨rfl, rfl, rfl⟩ := hp
              refine W.eq (g2 := F0 m 122 ls [.int 3, .int 0, .ref (ad 100)]) rfl ?_
              refine lv_iconst (v := 0) hx hb dX6_closes_122 (by decide) ?_
              refine lv_iconst (v := 0) hx hb dX6_closes_123 (by decide) ?_
              have hV : rfV G ad ce T Q M := ⟨_, _, _, _, ⟨h100, h101, h102, h103, h104, h105, h106, h107, h108, h109, h110, h111⟩, hQ, hM⟩
              refine z_invV F (rest := []) (r_become0 l T Q M hV 3 0 0) yv_X6_83 ⟨Nat.le_of_ble_eq_true rfl, Nat.le_of_ble_eq_true rfl⟩ hw hA hS hl h100 rfl rfl rfl (Nat.le_of_ble_eq_true rfl) dX6_closes_124 ⟨Nat.le_of_ble_eq_true rfl, Nat.le_of_ble_eq_true rfl⟩ (fun r ad1 ce26 H locs hp hw hS => ?_)
              obtain ⟨rfl, rfl, hV, hF2⟩ := hp
              have hF : ∀ j, j < 100 → ce26 j = ce j := fun j hj => (hF2 j hj).trans (hF j hj)
              obtain ⟨cn, zs, bs, hh, ⟨h100, h101, h102, h103, h104, h105, h106, h107, h108, h109, h110, h111⟩, hQ, hM⟩ := hV
              refine W.eq (g2 := F0 m 127 ls []) rfl ?_
              refine lv_iconst (v := 1) hx hb dX6_closes_127 (by decide) ?_
              exact z_iret F (rfl) hw hS (by unfold sp_closes; rw [if_neg (fun q => hs q.2.1), if_neg (fun q => q.2.elim (by decide) (rf_nl c65)), if_pos ⟨rf_ei hty (by decide) c98, Or.inr (rf_gt c112)⟩]; exact ⟨rfl, rfl, ⟨_, _, _, _, ⟨h100, h101, h102, h103, h104, h105, h106, h107, h108, h109, h110, h111⟩, hQ, hM⟩, hF⟩) dX6_closes_128
        · refine lv_aload_n hx hb dX6_closes_68 rfl (lv_at hl 1 rfl) ?_
          refine lv_aload_n hx hb dX6_closes_69 rfl (lv_at hl 1 rfl) ?_
          refine lv_iload_n hx hb dX6_closes_70 rfl (lv_at hl 2 rfl) ?_
          have hV : rfV G ad ce T Q M := ⟨_, _, _, _, ⟨h100, h101, h102, h103, h104, h105, h106, h107, h108, h109, h110, h111⟩, hQ, hM⟩
          refine z_invV F (rest := [.ref (ad 100)]) (r_way0 l T Q M hV) yv_X6_80 ⟨Nat.le_of_ble_eq_true rfl, Nat.le_of_ble_eq_true rfl⟩ hw hA hS hl h100 rfl rfl rfl (Nat.le_of_ble_eq_true rfl) dX6_closes_71 ⟨Nat.le_of_ble_eq_true rfl, Nat.le_of_ble_eq_true rfl⟩ (fun r ad1 ce27 H locs hp hw hS => ?_)
          obtain ⟨rfl, rfl, rfl⟩ := hp
          refine W.eq (g2 := F0 m 74 ls [.int 0, .ref (ad 100)]) rfl ?_
          refine lv_iconst (v := 3) hx hb dX6_closes_74 (by decide) ?_
          refine lv_bipush (v := 42) hx hb dX6_closes_75 (by decide) ?_
          have hV : rfV G ad ce T Q M := ⟨_, _, _, _, ⟨h100, h101, h102, h103, h104, h105, h106, h107, h108, h109, h110, h111⟩, hQ, hM⟩
          refine z_invV F (rest := []) (r_put0 l T Q M hV 3 42 (by decide) (by decide)) yv_X6_64 ⟨Nat.le_of_ble_eq_true rfl, Nat.le_of_ble_eq_true rfl⟩ hw hA hS hl h100 rfl rfl rfl (Nat.le_of_ble_eq_true rfl) dX6_closes_77 ⟨Nat.le_of_ble_eq_true rfl, Nat.le_of_ble_eq_true rfl⟩ (fun r ad1 ce28 H locs hp hw hS => ?_)
          obtain ⟨rfl, rfl, hV, hF2⟩ := hp
          have hF : ∀ j, j < 100 → ce28 j = ce j := fun j hj => (hF2 j hj).trans (hF j hj)
          obtain ⟨cn, zs, bs, hh, ⟨h100, h101, h102, h103, h104, h105, h106, h107, h108, h109, h110, h111⟩, hQ, hM⟩ := hV
          refine W.eq (g2 := F0 m 80 ls [.int (rf_hd T Q 0)]) rfl ?_
          refine lv_istore_n (lv' := [(3, .int (rf_hd T Q 0)), (0, .ref (ad 100)), (1, .int 0), (2, .int (nI ty))]) hx hb dX6_closes_80 rfl hl (by decide) rfl (fun ls hl => ?_)
          refine lv_aload_n hx hb dX6_closes_81 rfl (lv_at hl 1 rfl) ?_
          refine lv_iload_n hx hb dX6_closes_82 rfl (lv_at hl 2 rfl) ?_
          refine lv_aload_n hx hb dX6_closes_83 rfl (lv_at hl 1 rfl) ?_
          refine lv_iload_n hx hb dX6_closes_84 rfl (lv_at hl 2 rfl) ?_
          have hV : rfV G ad ce28 T (rf_put T Q 0 [3, 42]) M := ⟨_, _, _, _, ⟨h100, h101, h102, h103, h104, h105, h106, h107, h108, h109, h110, h111⟩, hQ, hM⟩
          refine z_invV F (rest := [.int 0, .ref (ad 100)]) (r_rest0 l T (rf_put T Q 0 [3, 42]) M hV) yv_X6_102 ⟨Nat.le_of_ble_eq_true rfl, Nat.le_of_ble_eq_true rfl⟩ hw hA hS hl h100 rfl rfl rfl (Nat.le_of_ble_eq_true rfl) dX6_closes_85 ⟨Nat.le_of_ble_eq_true rfl, Nat.le_of_ble_eq_true rfl⟩ (fun r ad1 ce29 H locs hp hw hS => ?_)
          obtain ⟨rfl, rfl, rfl⟩ := hp
          refine W.eq (g2 := F0 m 88 ls [.int 3, .int 0, .ref (ad 100)]) rfl ?_
          refine lv_iconst (v := 0) hx hb dX6_closes_88 (by decide) ?_
          refine lv_iconst (v := 0) hx hb dX6_closes_89 (by decide) ?_
          have hV : rfV G ad ce28 T (rf_put T Q 0 [3, 42]) M := ⟨_, _, _, _, ⟨h100, h101, h102, h103, h104, h105, h106, h107, h108, h109, h110, h111⟩, hQ, hM⟩
          refine z_invV F (rest := []) (r_become0 l T (rf_put T Q 0 [3, 42]) M hV 3 0 0) yv_X6_83 ⟨Nat.le_of_ble_eq_true rfl, Nat.le_of_ble_eq_true rfl⟩ hw hA hS hl h100 rfl rfl rfl (Nat.le_of_ble_eq_true rfl) dX6_closes_90 ⟨Nat.le_of_ble_eq_true rfl, Nat.le_of_ble_eq_true rfl⟩ (fun r ad1 ce30 H locs hp hw hS => ?_)
          obtain ⟨rfl, rfl, hV, hF2⟩ := hp
          have hF : ∀ j, j < 100 → ce30 j = ce j := fun j hj => (hF2 j hj).trans (hF j hj)
          obtain ⟨cn, zs, bs, hh, ⟨h100, h101, h102, h103, h104, h105, h106, h107, h108, h109, h110, h111⟩, hQ, hM⟩ := hV
          refine W.eq (g2 := F0 m 93 ls []) rfl ?_
          refine lv_iconst (v := 1) hx hb dX6_closes_93 (by decide) ?_
          exact z_iret F (rfl) hw hS (by unfold sp_closes; rw [if_neg (fun q => hs q.2.1), if_pos ⟨rf_ei hty (by decide) c51, Or.inr (rf_gt c65)⟩]; exact ⟨rfl, rfl, ⟨_, _, _, _, ⟨h100, h101, h102, h103, h104, h105, h106, h107, h108, h109, h110, h111⟩, hQ, hM⟩, hF⟩) dX6_closes_94
set_option maxHeartbeats 4000000 in
set_option maxRecDepth 100000 in
theorem r_closes1 (l : Launch) {G : zz_G} {ad : Nat → Nat} {ce : zz_C} {sz : Nat} (T : rf_T) (Q : rf_Q) (M : List Nat) (hV : rfV G ad ce T Q M) (hg : rf_good M) (ty : Nat) (hty : ty < 256) : zz_M l yX6_closes cX6_closes 4 (some .boolean) 2 46 0 0 G [.ref (ad 100), .int 1, .int (nI ty)] ad ce sz (fun r ad1 ce1 => r = some (.int (sp_closes T Q M 1 ty).1) ∧ ad = ad1 ∧ rfV G ad ce1 (sp_closes T Q M 1 ty).2.1 (sp_closes T Q M 1 ty).2.2 M ∧ (∀ j, j < 100 → ce1 j = ce j)) := by
  refine zz_enter (by decide) (Nat.le_of_ble_eq_true rfl) ?_
  intro p e s m below meth c ls F hl hw hS hA
  obtain ⟨hx, hb, hr, hml, hown, hts, hlocks, hK, hnm⟩ := id F
  have hl : lv_has ls 4 [(0, .ref (ad 100)), (1, .int 1), (2, .int (nI ty))] := hl
  obtain ⟨cn, zs, bs, hh, ⟨h100, h101, h102, h103, h104, h105, h106, h107, h108, h109, h110, h111⟩, hQ, hM⟩ := hV
  have hF : ∀ j, j < 100 → ce j = ce j := fun _ _ => rfl
  refine lv_bipush (v := -3) hx hb dX6_closes_0 (by decide) ?_
  refine lv_istore_n (lv' := [(3, .int (-3)), (0, .ref (ad 100)), (1, .int 1), (2, .int (nI ty))]) hx hb dX6_closes_2 rfl hl (by decide) rfl (fun ls hl => ?_)
  refine lv_iload_n hx hb dX6_closes_3 rfl (lv_at hl 3 rfl) ?_
  refine lv_bipush (v := 37) hx hb dX6_closes_4 (by decide) ?_
  refine lv_icmp_ne (tgt := 48) hx hb dX6_closes_6 (by decide) (fun c6 => ?_) (fun c6 => ?_)
  · refine lv_iload_n hx hb dX6_closes_48 rfl (lv_at hl 3 rfl) ?_
    refine lv_bipush (v := 45) hx hb dX6_closes_49 (by decide) ?_
    refine lv_icmp_ne (tgt := 95) hx hb dX6_closes_51 (by decide) (fun c51 => ?_) (fun c51 => ?_)
    · refine lv_iload_n hx hb dX6_closes_95 rfl (lv_at hl 3 rfl) ?_
      refine lv_bipush (v := 42) hx hb dX6_closes_96 (by decide) ?_
      refine lv_icmp_ne (tgt := 129) hx hb dX6_closes_98 (by decide) (fun c98 => ?_) (fun c98 => ?_)
      · refine lv_iconst (v := 0) hx hb dX6_closes_129 (by decide) ?_
        exact z_iret F (rfl) hw hS (by unfold sp_closes; rw [if_neg (fun q => c6 (by rw [q.1]; rfl)), if_neg (fun q => c51 (by rw [q.1]; rfl)), if_neg (fun q => c98 (by rw [q.1]; rfl))]; exact ⟨rfl, rfl, ⟨_, _, _, _, ⟨h100, h101, h102, h103, h104, h105, h106, h107, h108, h109, h110, h111⟩, hQ, hM⟩, hF⟩) dX6_closes_130
      · refine lv_iload_n hx hb dX6_closes_101 rfl (lv_at hl 2 rfl) ?_
        refine lv_iconst (v := 1) hx hb dX6_closes_102 (by decide) ?_
        refine lv_icmp_eq (tgt := 115) hx hb dX6_closes_103 (by decide) (fun c103 => ?_) (fun c103 => absurd c103 (by decide))
        refine lv_aload_n hx hb dX6_closes_115 rfl (lv_at hl 1 rfl) ?_
        refine lv_iload_n hx hb dX6_closes_116 rfl (lv_at hl 2 rfl) ?_
        refine lv_aload_n hx hb dX6_closes_117 rfl (lv_at hl 1 rfl) ?_
        refine lv_iload_n hx hb dX6_closes_118 rfl (lv_at hl 2 rfl) ?_
        have hV : rfV G ad ce T Q M := ⟨_, _, _, _, ⟨h100, h101, h102, h103, h104, h105, h106, h107, h108, h109, h110, h111⟩, hQ, hM⟩
        refine z_invV F (rest := [.int 1, .ref (ad 100)]) (r_rest1 l T Q M hV) yv_X6_102 ⟨Nat.le_of_ble_eq_true rfl, Nat.le_of_ble_eq_true rfl⟩ hw hA hS hl h100 rfl rfl rfl (Nat.le_of_ble_eq_true rfl) dX6_closes_119 ⟨Nat.le_of_ble_eq_true rfl, Nat.le_of_ble_eq_true rfl⟩ (fun r ad1 ce1 H locs hp hw hS => ?_)
        obtain ⟨rfl, rfl, rfl⟩ := hp
        refine W.eq (g2 := F0 m 122 ls [.int 0, .int 1, .ref (ad 100)]) rfl ?_
        refine lv_iconst (v := 0) hx hb dX6_closes_122 (by decide) ?_
        refine lv_iconst (v := 0) hx hb dX6_closes_123 (by decide) ?_
        have hV : rfV G ad ce T Q M := ⟨_, _, _, _, ⟨h100, h101, h102, h103, h104, h105, h106, h107, h108, h109, h110, h111⟩, hQ, hM⟩
        refine z_invV F (rest := []) (r_become1 l T Q M hV 0 0 0) yv_X6_83 ⟨Nat.le_of_ble_eq_true rfl, Nat.le_of_ble_eq_true rfl⟩ hw hA hS hl h100 rfl rfl rfl (Nat.le_of_ble_eq_true rfl) dX6_closes_124 ⟨Nat.le_of_ble_eq_true rfl, Nat.le_of_ble_eq_true rfl⟩ (fun r ad1 ce2 H locs hp hw hS => ?_)
        obtain ⟨rfl, rfl, hV, hF2⟩ := hp
        have hF : ∀ j, j < 100 → ce2 j = ce j := fun j hj => (hF2 j hj).trans (hF j hj)
        obtain ⟨cn, zs, bs, hh, ⟨h100, h101, h102, h103, h104, h105, h106, h107, h108, h109, h110, h111⟩, hQ, hM⟩ := hV
        refine W.eq (g2 := F0 m 127 ls []) rfl ?_
        refine lv_iconst (v := 1) hx hb dX6_closes_127 (by decide) ?_
        exact z_iret F (rfl) hw hS (by unfold sp_closes; rw [if_neg (fun q => c6 (by rw [q.1]; rfl)), if_neg (fun q => c51 (by rw [q.1]; rfl)), if_pos ⟨rf_ei hty (by decide) c98, Or.inl rfl⟩]; exact ⟨rfl, rfl, ⟨_, _, _, _, ⟨h100, h101, h102, h103, h104, h105, h106, h107, h108, h109, h110, h111⟩, hQ, hM⟩, hF⟩) dX6_closes_128
    · refine lv_iload_n hx hb dX6_closes_54 rfl (lv_at hl 2 rfl) ?_
      refine lv_iconst (v := 1) hx hb dX6_closes_55 (by decide) ?_
      refine lv_icmp_eq (tgt := 68) hx hb dX6_closes_56 (by decide) (fun c56 => ?_) (fun c56 => absurd c56 (by decide))
      refine lv_aload_n hx hb dX6_closes_68 rfl (lv_at hl 1 rfl) ?_
      refine lv_aload_n hx hb dX6_closes_69 rfl (lv_at hl 1 rfl) ?_
      refine lv_iload_n hx hb dX6_closes_70 rfl (lv_at hl 2 rfl) ?_
      have hV : rfV G ad ce T Q M := ⟨_, _, _, _, ⟨h100, h101, h102, h103, h104, h105, h106, h107, h108, h109, h110, h111⟩, hQ, hM⟩
      refine z_invV F (rest := [.ref (ad 100)]) (r_way1 l T Q M hV) yv_X6_80 ⟨Nat.le_of_ble_eq_true rfl, Nat.le_of_ble_eq_true rfl⟩ hw hA hS hl h100 rfl rfl rfl (Nat.le_of_ble_eq_true rfl) dX6_closes_71 ⟨Nat.le_of_ble_eq_true rfl, Nat.le_of_ble_eq_true rfl⟩ (fun r ad1 ce3 H locs hp hw hS => ?_)
      obtain ⟨rfl, rfl, rfl⟩ := hp
      refine W.eq (g2 := F0 m 74 ls [.int 1, .ref (ad 100)]) rfl ?_
      refine lv_iconst (v := 3) hx hb dX6_closes_74 (by decide) ?_
      refine lv_bipush (v := 42) hx hb dX6_closes_75 (by decide) ?_
      have hV : rfV G ad ce T Q M := ⟨_, _, _, _, ⟨h100, h101, h102, h103, h104, h105, h106, h107, h108, h109, h110, h111⟩, hQ, hM⟩
      refine z_invV F (rest := []) (r_put1 l T Q M hV 3 42 (by decide) (by decide)) yv_X6_64 ⟨Nat.le_of_ble_eq_true rfl, Nat.le_of_ble_eq_true rfl⟩ hw hA hS hl h100 rfl rfl rfl (Nat.le_of_ble_eq_true rfl) dX6_closes_77 ⟨Nat.le_of_ble_eq_true rfl, Nat.le_of_ble_eq_true rfl⟩ (fun r ad1 ce4 H locs hp hw hS => ?_)
      obtain ⟨rfl, rfl, hV, hF2⟩ := hp
      have hF : ∀ j, j < 100 → ce4 j = ce j := fun j hj => (hF2 j hj).trans (hF j hj)
      obtain ⟨cn, zs, bs, hh, ⟨h100, h101, h102, h103, h104, h105, h106, h107, h108, h109, h110, h111⟩, hQ, hM⟩ := hV
      refine W.eq (g2 := F0 m 80 ls [.int (rf_hd T Q 1)]) rfl ?_
      refine lv_istore_n (lv' := [(3, .int (rf_hd T Q 1)), (0, .ref (ad 100)), (1, .int 1), (2, .int (nI ty))]) hx hb dX6_closes_80 rfl hl (by decide) rfl (fun ls hl => ?_)
      refine lv_aload_n hx hb dX6_closes_81 rfl (lv_at hl 1 rfl) ?_
      refine lv_iload_n hx hb dX6_closes_82 rfl (lv_at hl 2 rfl) ?_
      refine lv_aload_n hx hb dX6_closes_83 rfl (lv_at hl 1 rfl) ?_
      refine lv_iload_n hx hb dX6_closes_84 rfl (lv_at hl 2 rfl) ?_
      have hV : rfV G ad ce4 T (rf_put T Q 1 [3, 42]) M := ⟨_, _, _, _, ⟨h100, h101, h102, h103, h104, h105, h106, h107, h108, h109, h110, h111⟩, hQ, hM⟩
      refine z_invV F (rest := [.int 1, .ref (ad 100)]) (r_rest1 l T (rf_put T Q 1 [3, 42]) M hV) yv_X6_102 ⟨Nat.le_of_ble_eq_true rfl, Nat.le_of_ble_eq_true rfl⟩ hw hA hS hl h100 rfl rfl rfl (Nat.le_of_ble_eq_true rfl) dX6_closes_85 ⟨Nat.le_of_ble_eq_true rfl, Nat.le_of_ble_eq_true rfl⟩ (fun r ad1 ce5 H locs hp hw hS => ?_)
      obtain ⟨rfl, rfl, rfl⟩ := hp
      refine W.eq (g2 := F0 m 88 ls [.int 0, .int 1, .ref (ad 100)]) rfl ?_
      refine lv_iconst (v := 0) hx hb dX6_closes_88 (by decide) ?_
      refine lv_iconst (v := 0) hx hb dX6_closes_89 (by decide) ?_
      have hV : rfV G ad ce4 T (rf_put T Q 1 [3, 42]) M := ⟨_, _, _, _, ⟨h100, h101, h102, h103, h104, h105, h106, h107, h108, h109, h110, h111⟩, hQ, hM⟩
      refine z_invV F (rest := []) (r_become1 l T (rf_put T Q 1 [3, 42]) M hV 0 0 0) yv_X6_83 ⟨Nat.le_of_ble_eq_true rfl, Nat.le_of_ble_eq_true rfl⟩ hw hA hS hl h100 rfl rfl rfl (Nat.le_of_ble_eq_true rfl) dX6_closes_90 ⟨Nat.le_of_ble_eq_true rfl, Nat.le_of_ble_eq_true rfl⟩ (fun r ad1 ce6 H locs hp hw hS => ?_)
      obtain ⟨rfl, rfl, hV, hF2⟩ := hp
      have hF : ∀ j, j < 100 → ce6 j = ce j := fun j hj => (hF2 j hj).trans (hF j hj)
      obtain ⟨cn, zs, bs, hh, ⟨h100, h101, h102, h103, h104, h105, h106, h107, h108, h109, h110, h111⟩, hQ, hM⟩ := hV
      refine W.eq (g2 := F0 m 93 ls []) rfl ?_
      refine lv_iconst (v := 1) hx hb dX6_closes_93 (by decide) ?_
      exact z_iret F (rfl) hw hS (by unfold sp_closes; rw [if_neg (fun q => c6 (by rw [q.1]; rfl)), if_pos ⟨rf_ei hty (by decide) c51, Or.inl rfl⟩]; exact ⟨rfl, rfl, ⟨_, _, _, _, ⟨h100, h101, h102, h103, h104, h105, h106, h107, h108, h109, h110, h111⟩, hQ, hM⟩, hF⟩) dX6_closes_94
  · refine lv_aload_n hx hb dX6_closes_9 rfl (lv_at hl 1 rfl) ?_
    refine lv_bipush (v := 8) hx hb dX6_closes_10 (by decide) ?_
    refine lv_iconst (v := 1) hx hb dX6_closes_12 (by decide) ?_
    have hV : rfV G ad ce T Q M := ⟨_, _, _, _, ⟨h100, h101, h102, h103, h104, h105, h106, h107, h108, h109, h110, h111⟩, hQ, hM⟩
    refine z_invV F (rest := []) (r_has l T Q M hV hg 8 1 (by decide) (by decide)) yv_X6_87 ⟨Nat.le_of_ble_eq_true rfl, Nat.le_of_ble_eq_true rfl⟩ hw hA hS hl h100 rfl rfl rfl (Nat.le_of_ble_eq_true rfl) dX6_closes_13 ⟨Nat.le_of_ble_eq_true rfl, Nat.le_of_ble_eq_true rfl⟩ (fun r ad1 ce7 H locs hp hw hS => ?_)
    obtain ⟨hp, rfl, rfl⟩ := hp
    rcases hp with ⟨hs, rfl⟩ | ⟨hs, rfl⟩
    · refine W.eq (g2 := F0 m 16 ls [.int 1]) rfl ?_
      refine lv_if_eq (tgt := 48) hx hb dX6_closes_16 (by decide) (fun c16 => absurd c16 (by decide)) (fun c16 => ?_)
      refine lv_aload_n hx hb dX6_closes_19 rfl (lv_at hl 1 rfl) ?_
      refine lv_iload_n hx hb dX6_closes_20 rfl (lv_at hl 2 rfl) ?_
      refine lv_iconst (v := 1) hx hb dX6_closes_21 (by decide) ?_
      refine lv_iconst (v := 5) hx hb dX6_closes_22 (by decide) ?_
      have hV : rfV G ad ce T Q M := ⟨_, _, _, _, ⟨h100, h101, h102, h103, h104, h105, h106, h107, h108, h109, h110, h111⟩, hQ, hM⟩
      refine z_invV F (rest := []) (r_isCall1 l T Q M hV 1 5) yv_X6_91 ⟨Nat.le_of_ble_eq_true rfl, Nat.le_of_ble_eq_true rfl⟩ hw hA hS hl h100 rfl rfl rfl (Nat.le_of_ble_eq_true rfl) dX6_closes_23 ⟨Nat.le_of_ble_eq_true rfl, Nat.le_of_ble_eq_true rfl⟩ (fun r ad1 ce8 H locs hp hw hS => ?_)
      obtain ⟨hp, rfl, rfl⟩ := hp
      rcases hp with ⟨hc, rfl⟩ | ⟨hc, rfl⟩
      · refine W.eq (g2 := F0 m 26 ls [.int 1]) rfl ?_
        refine lv_if_eq (tgt := 48) hx hb dX6_closes_26 (by decide) (fun c26 => absurd c26 (by decide)) (fun c26 => ?_)
        refine lv_aload_n hx hb dX6_closes_29 rfl (lv_at hl 1 rfl) ?_
        refine z_get F hw h100 fd_X6_36_X6 rfl dX6_closes_30 ?_
        refine lv_iload_n hx hb dX6_closes_33 rfl (lv_at hl 2 rfl) ?_
        refine lv_aload_n hx hb dX6_closes_34 rfl (lv_at hl 1 rfl) ?_
        refine lv_bipush (v := 8) hx hb dX6_closes_35 (by decide) ?_
        have hV : rfV G ad ce T Q M := ⟨_, _, _, _, ⟨h100, h101, h102, h103, h104, h105, h106, h107, h108, h109, h110, h111⟩, hQ, hM⟩
        refine z_invV F (rest := [.int 1, .ref (ad 108)]) (r_number l T Q M hV hg 8 1 (by decide) hs) yv_X6_95 ⟨Nat.le_of_ble_eq_true rfl, Nat.le_of_ble_eq_true rfl⟩ hw hA hS hl h100 rfl rfl rfl (Nat.le_of_ble_eq_true rfl) dX6_closes_37 ⟨Nat.le_of_ble_eq_true rfl, Nat.le_of_ble_eq_true rfl⟩ (fun r ad1 ce9 H locs hp hw hS => ?_)
        obtain ⟨rfl, rfl, rfl⟩ := hp
        refine W.eq (g2 := F0 m 40 ls [.int (rf_val M 8), .int 1, .ref (ad 108)]) rfl ?_
        refine z_st F hw hS h108 (1) (rfl) (by decide) (by decide) dX6_closes_40 (fun ce10 H locs h108 fr11 hw hS => ?_)
        have h100 := (fr11 100 (by decide)).trans h100
        have h101 := (fr11 101 (by decide)).trans h101
        have h102 := (fr11 102 (by decide)).trans h102
        have h103 := (fr11 103 (by decide)).trans h103
        have h104 := (fr11 104 (by decide)).trans h104
        have h105 := (fr11 105 (by decide)).trans h105
        have h106 := (fr11 106 (by decide)).trans h106
        have h107 := (fr11 107 (by decide)).trans h107
        have h109 := (fr11 109 (by decide)).trans h109
        have h110 := (fr11 110 (by decide)).trans h110
        have h111 := (fr11 111 (by decide)).trans h111
        have hF : ∀ j, j < 100 → _ = ce j := fun j hj => (fr11 j (by omega)).trans (hF j hj)
        refine lv_aload_n hx hb dX6_closes_41 rfl (lv_at hl 1 rfl) ?_
        refine lv_iload_n hx hb dX6_closes_42 rfl (lv_at hl 2 rfl) ?_
        have hV : rfV G ad ce10 (va_up T 5 (upd (T 5) 1 (rf_val M 8))) Q M := ⟨_, _, _, _, ⟨h100, h101, h102, h103, h104, h105, h106, h107, h108, h109, h110, h111⟩, hQ, hM⟩
        refine z_invV F (rest := []) (r_release1 l (va_up T 5 (upd (T 5) 1 (rf_val M 8))) Q M hV) yv_X6_98 ⟨Nat.le_of_ble_eq_true rfl, Nat.le_of_ble_eq_true rfl⟩ hw hA hS hl h100 rfl rfl rfl (Nat.le_of_ble_eq_true rfl) dX6_closes_43 ⟨Nat.le_of_ble_eq_true rfl, Nat.le_of_ble_eq_true rfl⟩ (fun r ad1 ce12 H locs hp hw hS => ?_)
        obtain ⟨rfl, rfl, hV, hF2⟩ := hp
        have hF : ∀ j, j < 100 → ce12 j = ce j := fun j hj => (hF2 j hj).trans (hF j hj)
        obtain ⟨cn, zs, bs, hh, ⟨h100, h101, h102, h103, h104, h105, h106, h107, h108, h109, h110, h111⟩, hQ, hM⟩ := hV
        refine W.eq (g2 := F0 m 46 ls []) rfl ?_
        refine lv_iconst (v := 1) hx hb dX6_closes_46 (by decide) ?_
        exact z_iret F (rfl) hw hS (by unfold sp_closes; rw [if_pos ⟨rf_ei hty (by decide) c6, hs, hc⟩]; exact ⟨rfl, rfl, ⟨_, _, _, _, ⟨h100, h101, h102, h103, h104, h105, h106, h107, h108, h109, h110, h111⟩, hQ, hM⟩, hF⟩) dX6_closes_47
      · refine W.eq (g2 := F0 m 26 ls [.int 0]) rfl ?_
        refine lv_if_eq (tgt := 48) hx hb dX6_closes_26 (by decide) (fun c26 => ?_) (fun c26 => absurd c26 (by decide))
        refine lv_iload_n hx hb dX6_closes_48 rfl (lv_at hl 3 rfl) ?_
        refine lv_bipush (v := 45) hx hb dX6_closes_49 (by decide) ?_
        refine lv_icmp_ne (tgt := 95) hx hb dX6_closes_51 (by decide) (fun c51 => ?_) (fun c51 => ?_)
        · refine lv_iload_n hx hb dX6_closes_95 rfl (lv_at hl 3 rfl) ?_
          refine lv_bipush (v := 42) hx hb dX6_closes_96 (by decide) ?_
          refine lv_icmp_ne (tgt := 129) hx hb dX6_closes_98 (by decide) (fun c98 => ?_) (fun c98 => ?_)
          · refine lv_iconst (v := 0) hx hb dX6_closes_129 (by decide) ?_
            exact z_iret F (rfl) hw hS (by unfold sp_closes; rw [if_neg (fun q => hc q.2.2), if_neg (fun q => c51 (by rw [q.1]; rfl)), if_neg (fun q => c98 (by rw [q.1]; rfl))]; exact ⟨rfl, rfl, ⟨_, _, _, _, ⟨h100, h101, h102, h103, h104, h105, h106, h107, h108, h109, h110, h111⟩, hQ, hM⟩, hF⟩) dX6_closes_130
          · refine lv_iload_n hx hb dX6_closes_101 rfl (lv_at hl 2 rfl) ?_
            refine lv_iconst (v := 1) hx hb dX6_closes_102 (by decide) ?_
            refine lv_icmp_eq (tgt := 115) hx hb dX6_closes_103 (by decide) (fun c103 => ?_) (fun c103 => absurd c103 (by decide))
            refine lv_aload_n hx hb dX6_closes_115 rfl (lv_at hl 1 rfl) ?_
            refine lv_iload_n hx hb dX6_closes_116 rfl (lv_at hl 2 rfl) ?_
            refine lv_aload_n hx hb dX6_closes_117 rfl (lv_at hl 1 rfl) ?_
            refine lv_iload_n hx hb dX6_closes_118 rfl (lv_at hl 2 rfl) ?_
            have hV : rfV G ad ce T Q M := ⟨_, _, _, _, ⟨h100, h101, h102, h103, h104, h105, h106, h107, h108, h109, h110, h111⟩, hQ, hM⟩
            refine z_invV F (rest := [.int 1, .ref (ad 100)]) (r_rest1 l T Q M hV) yv_X6_102 ⟨Nat.le_of_ble_eq_true rfl, Nat.le_of_ble_eq_true rfl⟩ hw hA hS hl h100 rfl rfl rfl (Nat.le_of_ble_eq_true rfl) dX6_closes_119 ⟨Nat.le_of_ble_eq_true rfl, Nat.le_of_ble_eq_true rfl⟩ (fun r ad1 ce13 H locs hp hw hS => ?_)
            obtain ⟨rfl, rfl, rfl⟩ := hp
            refine W.eq (g2 := F0 m 122 ls [.int 0, .int 1, .ref (ad 100)]) rfl ?_
            refine lv_iconst (v := 0) hx hb dX6_closes_122 (by decide) ?_
            refine lv_iconst (v := 0) hx hb dX6_closes_123 (by decide) ?_
            have hV : rfV G ad ce T Q M := ⟨_, _, _, _, ⟨h100, h101, h102, h103, h104, h105, h106, h107, h108, h109, h110, h111⟩, hQ, hM⟩
            refine z_invV F (rest := []) (r_become1 l T Q M hV 0 0 0) yv_X6_83 ⟨Nat.le_of_ble_eq_true rfl, Nat.le_of_ble_eq_true rfl⟩ hw hA hS hl h100 rfl rfl rfl (Nat.le_of_ble_eq_true rfl) dX6_closes_124 ⟨Nat.le_of_ble_eq_true rfl, Nat.le_of_ble_eq_true rfl⟩ (fun r ad1 ce14 H locs hp hw hS => ?_)
            obtain ⟨rfl, rfl, hV, hF2⟩ := hp
            have hF : ∀ j, j < 100 → ce14 j = ce j := fun j hj => (hF2 j hj).trans (hF j hj)
            obtain ⟨cn, zs, bs, hh, ⟨h100, h101, h102, h103, h104, h105, h106, h107, h108, h109, h110, h111⟩, hQ, hM⟩ := hV
            refine W.eq (g2 := F0 m 127 ls []) rfl ?_
            refine lv_iconst (v := 1) hx hb dX6_closes_127 (by decide) ?_
            exact z_iret F (rfl) hw hS (by unfold sp_closes; rw [if_neg (fun q => hc q.2.2), if_neg (fun q => c51 (by rw [q.1]; rfl)), if_pos ⟨rf_ei hty (by decide) c98, Or.inl rfl⟩]; exact ⟨rfl, rfl, ⟨_, _, _, _, ⟨h100, h101, h102, h103, h104, h105, h106, h107, h108, h109, h110, h111⟩, hQ, hM⟩, hF⟩) dX6_closes_128
        · refine lv_iload_n hx hb dX6_closes_54 rfl (lv_at hl 2 rfl) ?_
          refine lv_iconst (v := 1) hx hb dX6_closes_55 (by decide) ?_
          refine lv_icmp_eq (tgt := 68) hx hb dX6_closes_56 (by decide) (fun c56 => ?_) (fun c56 => absurd c56 (by decide))
          refine lv_aload_n hx hb dX6_closes_68 rfl (lv_at hl 1 rfl) ?_
          refine lv_aload_n hx hb dX6_closes_69 rfl (lv_at hl 1 rfl) ?_
          refine lv_iload_n hx hb dX6_closes_70 rfl (lv_at hl 2 rfl) ?_
          have hV : rfV G ad ce T Q M := ⟨_, _, _, _, ⟨h100, h101, h102, h103, h104, h105, h106, h107, h108, h109, h110, h111⟩, hQ, hM⟩
          refine z_invV F (rest := [.ref (ad 100)]) (r_way1 l T Q M hV) yv_X6_80 ⟨Nat.le_of_ble_eq_true rfl, Nat.le_of_ble_eq_true rfl⟩ hw hA hS hl h100 rfl rfl rfl (Nat.le_of_ble_eq_true rfl) dX6_closes_71 ⟨Nat.le_of_ble_eq_true rfl, Nat.le_of_ble_eq_true rfl⟩ (fun r ad1 ce15 H locs hp hw hS => ?_)
          obtain ⟨rfl, rfl, rfl⟩ := hp
          refine W.eq (g2 := F0 m 74 ls [.int 1, .ref (ad 100)]) rfl ?_
          refine lv_iconst (v := 3) hx hb dX6_closes_74 (by decide) ?_
          refine lv_bipush (v := 42) hx hb dX6_closes_75 (by decide) ?_
          have hV : rfV G ad ce T Q M := ⟨_, _, _, _, ⟨h100, h101, h102, h103, h104, h105, h106, h107, h108, h109, h110, h111⟩, hQ, hM⟩
          refine z_invV F (rest := []) (r_put1 l T Q M hV 3 42 (by decide) (by decide)) yv_X6_64 ⟨Nat.le_of_ble_eq_true rfl, Nat.le_of_ble_eq_true rfl⟩ hw hA hS hl h100 rfl rfl rfl (Nat.le_of_ble_eq_true rfl) dX6_closes_77 ⟨Nat.le_of_ble_eq_true rfl, Nat.le_of_ble_eq_true rfl⟩ (fun r ad1 ce16 H locs hp hw hS => ?_)
          obtain ⟨rfl, rfl, hV, hF2⟩ := hp
          have hF : ∀ j, j < 100 → ce16 j = ce j := fun j hj => (hF2 j hj).trans (hF j hj)
          obtain ⟨cn, zs, bs, hh, ⟨h100, h101, h102, h103, h104, h105, h106, h107, h108, h109, h110, h111⟩, hQ, hM⟩ := hV
          refine W.eq (g2 := F0 m 80 ls [.int (rf_hd T Q 1)]) rfl ?_
          refine lv_istore_n (lv' := [(3, .int (rf_hd T Q 1)), (0, .ref (ad 100)), (1, .int 1), (2, .int (nI ty))]) hx hb dX6_closes_80 rfl hl (by decide) rfl (fun ls hl => ?_)
          refine lv_aload_n hx hb dX6_closes_81 rfl (lv_at hl 1 rfl) ?_
          refine lv_iload_n hx hb dX6_closes_82 rfl (lv_at hl 2 rfl) ?_
          refine lv_aload_n hx hb dX6_closes_83 rfl (lv_at hl 1 rfl) ?_
          refine lv_iload_n hx hb dX6_closes_84 rfl (lv_at hl 2 rfl) ?_
          have hV : rfV G ad ce16 T (rf_put T Q 1 [3, 42]) M := ⟨_, _, _, _, ⟨h100, h101, h102, h103, h104, h105, h106, h107, h108, h109, h110, h111⟩, hQ, hM⟩
          refine z_invV F (rest := [.int 1, .ref (ad 100)]) (r_rest1 l T (rf_put T Q 1 [3, 42]) M hV) yv_X6_102 ⟨Nat.le_of_ble_eq_true rfl, Nat.le_of_ble_eq_true rfl⟩ hw hA hS hl h100 rfl rfl rfl (Nat.le_of_ble_eq_true rfl) dX6_closes_85 ⟨Nat.le_of_ble_eq_true rfl, Nat.le_of_ble_eq_true rfl⟩ (fun r ad1 ce17 H locs hp hw hS => ?_)
          obtain ⟨rfl, rfl, rfl⟩ := hp
          refine W.eq (g2 := F0 m 88 ls [.int 0, .int 1, .ref (ad 100)]) rfl ?_
          refine lv_iconst (v := 0) hx hb dX6_closes_88 (by decide) ?_
          refine lv_iconst (v := 0) hx hb dX6_closes_89 (by decide) ?_
          have hV : rfV G ad ce16 T (rf_put T Q 1 [3, 42]) M := ⟨_, _, _, _, ⟨h100, h101, h102, h103, h104, h105, h106, h107, h108, h109, h110, h111⟩, hQ, hM⟩
          refine z_invV F (rest := []) (r_become1 l T (rf_put T Q 1 [3, 42]) M hV 0 0 0) yv_X6_83 ⟨Nat.le_of_ble_eq_true rfl, Nat.le_of_ble_eq_true rfl⟩ hw hA hS hl h100 rfl rfl rfl (Nat.le_of_ble_eq_true rfl) dX6_closes_90 ⟨Nat.le_of_ble_eq_true rfl, Nat.le_of_ble_eq_true rfl⟩ (fun r ad1 ce18 H locs hp hw hS => ?_)
          obtain ⟨rfl, rfl, hV, hF2⟩ := hp
          have hF : ∀ j, j < 100 → ce18 j = ce j := fun j hj => (hF2 j hj).trans (hF j hj)
          obtain ⟨cn, zs, bs, hh, ⟨h100, h101, h102, h103, h104, h105, h106, h107, h108, h109, h110, h111⟩, hQ, hM⟩ := hV
          refine W.eq (g2 := F0 m 93 ls []) rfl ?_
          refine lv_iconst (v := 1) hx hb dX6_closes_93 (by decide) ?_
          exact z_iret F (rfl) hw hS (by unfold sp_closes; rw [if_neg (fun q => hc q.2.2), if_pos ⟨rf_ei hty (by decide) c51, Or.inl rfl⟩]; exact ⟨rfl, rfl, ⟨_, _, _, _, ⟨h100, h101, h102, h103, h104, h105, h106, h107, h108, h109, h110, h111⟩, hQ, hM⟩, hF⟩) dX6_closes_94
    · refine W.eq (g2 := F0 m 16 ls [.int 0]) rfl ?_
      refine lv_if_eq (tgt := 48) hx hb dX6_closes_16 (by decide) (fun c16 => ?_) (fun c16 => absurd c16 (by decide))
      refine lv_iload_n hx hb dX6_closes_48 rfl (lv_at hl 3 rfl) ?_
      refine lv_bipush (v := 45) hx hb dX6_closes_49 (by decide) ?_
      refine lv_icmp_ne (tgt := 95) hx hb dX6_closes_51 (by decide) (fun c51 => ?_) (fun c51 => ?_)
      · refine lv_iload_n hx hb dX6_closes_95 rfl (lv_at hl 3 rfl) ?_
        refine lv_bipush (v := 42) hx hb dX6_closes_96 (by decide) ?_
        refine lv_icmp_ne (tgt := 129) hx hb dX6_closes_98 (by decide) (fun c98 => ?_) (fun c98 => ?_)
        · refine lv_iconst (v := 0) hx hb dX6_closes_129 (by decide) ?_
          exact z_iret F (rfl) hw hS (by unfold sp_closes; rw [if_neg (fun q => hs q.2.1), if_neg (fun q => c51 (by rw [q.1]; rfl)), if_neg (fun q => c98 (by rw [q.1]; rfl))]; exact ⟨rfl, rfl, ⟨_, _, _, _, ⟨h100, h101, h102, h103, h104, h105, h106, h107, h108, h109, h110, h111⟩, hQ, hM⟩, hF⟩) dX6_closes_130
        · refine lv_iload_n hx hb dX6_closes_101 rfl (lv_at hl 2 rfl) ?_
          refine lv_iconst (v := 1) hx hb dX6_closes_102 (by decide) ?_
          refine lv_icmp_eq (tgt := 115) hx hb dX6_closes_103 (by decide) (fun c103 => ?_) (fun c103 => absurd c103 (by decide))
          refine lv_aload_n hx hb dX6_closes_115 rfl (lv_at hl 1 rfl) ?_
          refine lv_iload_n hx hb dX6_closes_116 rfl (lv_at hl 2 rfl) ?_
          refine lv_aload_n hx hb dX6_closes_117 rfl (lv_at hl 1 rfl) ?_
          refine lv_iload_n hx hb dX6_closes_118 rfl (lv_at hl 2 rfl) ?_
          have hV : rfV G ad ce T Q M := ⟨_, _, _, _, ⟨h100, h101, h102, h103, h104, h105, h106, h107, h108, h109, h110, h111⟩, hQ, hM⟩
          refine z_invV F (rest := [.int 1, .ref (ad 100)]) (r_rest1 l T Q M hV) yv_X6_102 ⟨Nat.le_of_ble_eq_true rfl, Nat.le_of_ble_eq_true rfl⟩ hw hA hS hl h100 rfl rfl rfl (Nat.le_of_ble_eq_true rfl) dX6_closes_119 ⟨Nat.le_of_ble_eq_true rfl, Nat.le_of_ble_eq_true rfl⟩ (fun r ad1 ce19 H locs hp hw hS => ?_)
          obtain ⟨rfl, rfl, rfl⟩ := hp
          refine W.eq (g2 := F0 m 122 ls [.int 0, .int 1, .ref (ad 100)]) rfl ?_
          refine lv_iconst (v := 0) hx hb dX6_closes_122 (by decide) ?_
          refine lv_iconst (v := 0) hx hb dX6_closes_123 (by decide) ?_
          have hV : rfV G ad ce T Q M := ⟨_, _, _, _, ⟨h100, h101, h102, h103, h104, h105, h106, h107, h108, h109, h110, h111⟩, hQ, hM⟩
          refine z_invV F (rest := []) (r_become1 l T Q M hV 0 0 0) yv_X6_83 ⟨Nat.le_of_ble_eq_true rfl, Nat.le_of_ble_eq_true rfl⟩ hw hA hS hl h100 rfl rfl rfl (Nat.le_of_ble_eq_true rfl) dX6_closes_124 ⟨Nat.le_of_ble_eq_true rfl, Nat.le_of_ble_eq_true rfl⟩ (fun r ad1 ce20 H locs hp hw hS => ?_)
          obtain ⟨rfl, rfl, hV, hF2⟩ := hp
          have hF : ∀ j, j < 100 → ce20 j = ce j := fun j hj => (hF2 j hj).trans (hF j hj)
          obtain ⟨cn, zs, bs, hh, ⟨h100, h101, h102, h103, h104, h105, h106, h107, h108, h109, h110, h111⟩, hQ, hM⟩ := hV
          refine W.eq (g2 := F0 m 127 ls []) rfl ?_
          refine lv_iconst (v := 1) hx hb dX6_closes_127 (by decide) ?_
          exact z_iret F (rfl) hw hS (by unfold sp_closes; rw [if_neg (fun q => hs q.2.1), if_neg (fun q => c51 (by rw [q.1]; rfl)), if_pos ⟨rf_ei hty (by decide) c98, Or.inl rfl⟩]; exact ⟨rfl, rfl, ⟨_, _, _, _, ⟨h100, h101, h102, h103, h104, h105, h106, h107, h108, h109, h110, h111⟩, hQ, hM⟩, hF⟩) dX6_closes_128
      · refine lv_iload_n hx hb dX6_closes_54 rfl (lv_at hl 2 rfl) ?_
        refine lv_iconst (v := 1) hx hb dX6_closes_55 (by decide) ?_
        refine lv_icmp_eq (tgt := 68) hx hb dX6_closes_56 (by decide) (fun c56 => ?_) (fun c56 => absurd c56 (by decide))
        refine lv_aload_n hx hb dX6_closes_68 rfl (lv_at hl 1 rfl) ?_
        refine lv_aload_n hx hb dX6_closes_69 rfl (lv_at hl 1 rfl) ?_
        refine lv_iload_n hx hb dX6_closes_70 rfl (lv_at hl 2 rfl) ?_
        have hV : rfV G ad ce T Q M := ⟨_, _, _, _, ⟨h100, h101, h102, h103, h104, h105, h106, h107, h108, h109, h110, h111⟩, hQ, hM⟩
        refine z_invV F (rest := [.ref (ad 100)]) (r_way1 l T Q M hV) yv_X6_80 ⟨Nat.le_of_ble_eq_true rfl, Nat.le_of_ble_eq_true rfl⟩ hw hA hS hl h100 rfl rfl rfl (Nat.le_of_ble_eq_true rfl) dX6_closes_71 ⟨Nat.le_of_ble_eq_true rfl, Nat.le_of_ble_eq_true rfl⟩ (fun r ad1 ce21 H locs hp hw hS => ?_)
        obtain ⟨rfl, rfl, rfl⟩ := hp
        refine W.eq (g2 := F0 m 74 ls [.int 1, .ref (ad 100)]) rfl ?_
        refine lv_iconst (v := 3) hx hb dX6_closes_74 (by decide) ?_
        refine lv_bipush (v := 42) hx hb dX6_closes_75 (by decide) ?_
        have hV : rfV G ad ce T Q M := ⟨_, _, _, _, ⟨h100, h101, h102, h103, h104, h105, h106, h107, h108, h109, h110, h111⟩, hQ, hM⟩
        refine z_invV F (rest := []) (r_put1 l T Q M hV 3 42 (by decide) (by decide)) yv_X6_64 ⟨Nat.le_of_ble_eq_true rfl, Nat.le_of_ble_eq_true rfl⟩ hw hA hS hl h100 rfl rfl rfl (Nat.le_of_ble_eq_true rfl) dX6_closes_77 ⟨Nat.le_of_ble_eq_true rfl, Nat.le_of_ble_eq_true rfl⟩ (fun r ad1 ce22 H locs hp hw hS => ?_)
        obtain ⟨rfl, rfl, hV, hF2⟩ := hp
        have hF : ∀ j, j < 100 → ce22 j = ce j := fun j hj => (hF2 j hj).trans (hF j hj)
        obtain ⟨cn, zs, bs, hh, ⟨h100, h101, h102, h103, h104, h105, h106, h107, h108, h109, h110, h111⟩, hQ, hM⟩ := hV
        refine W.eq (g2 := F0 m 80 ls [.int (rf_hd T Q 1)]) rfl ?_
        refine lv_istore_n (lv' := [(3, .int (rf_hd T Q 1)), (0, .ref (ad 100)), (1, .int 1), (2, .int (nI ty))]) hx hb dX6_closes_80 rfl hl (by decide) rfl (fun ls hl => ?_)
        refine lv_aload_n hx hb dX6_closes_81 rfl (lv_at hl 1 rfl) ?_
        refine lv_iload_n hx hb dX6_closes_82 rfl (lv_at hl 2 rfl) ?_
        refine lv_aload_n hx hb dX6_closes_83 rfl (lv_at hl 1 rfl) ?_
        refine lv_iload_n hx hb dX6_closes_84 rfl (lv_at hl 2 rfl) ?_
        have hV : rfV G ad ce22 T (rf_put T Q 1 [3, 42]) M := ⟨_, _, _, _, ⟨h100, h101, h102, h103, h104, h105, h106, h107, h108, h109, h110, h111⟩, hQ, hM⟩
        refine z_invV F (rest := [.int 1, .ref (ad 100)]) (r_rest1 l T (rf_put T Q 1 [3, 42]) M hV) yv_X6_102 ⟨Nat.le_of_ble_eq_true rfl, Nat.le_of_ble_eq_true rfl⟩ hw hA hS hl h100 rfl rfl rfl (Nat.le_of_ble_eq_true rfl) dX6_closes_85 ⟨Nat.le_of_ble_eq_true rfl, Nat.le_of_ble_eq_true rfl⟩ (fun r ad1 ce23 H locs hp hw hS => ?_)
        obtain ⟨rfl, rfl, rfl⟩ := hp
        refine W.eq (g2 := F0 m 88 ls [.int 0, .int 1, .ref (ad 100)]) rfl ?_
        refine lv_iconst (v := 0) hx hb dX6_closes_88 (by decide) ?_
        refine lv_iconst (v := 0) hx hb dX6_closes_89 (by decide) ?_
        have hV : rfV G ad ce22 T (rf_put T Q 1 [3, 42]) M := ⟨_, _, _, _, ⟨h100, h101, h102, h103, h104, h105, h106, h107, h108, h109, h110, h111⟩, hQ, hM⟩
        refine z_invV F (rest := []) (r_become1 l T (rf_put T Q 1 [3, 42]) M hV 0 0 0) yv_X6_83 ⟨Nat.le_of_ble_eq_true rfl, Nat.le_of_ble_eq_true rfl⟩ hw hA hS hl h100 rfl rfl rfl (Nat.le_of_ble_eq_true rfl) dX6_closes_90 ⟨Nat.le_of_ble_eq_true rfl, Nat.le_of_ble_eq_true rfl⟩ (fun r ad1 ce24 H locs hp hw hS => ?_)
        obtain ⟨rfl, rfl, hV, hF2⟩ := hp
        have hF : ∀ j, j < 100 → ce24 j = ce j := fun j hj => (hF2 j hj).trans (hF j hj)
        obtain ⟨cn, zs, bs, hh, ⟨h100, h101, h102, h103, h104, h105, h106, h107, h108, h109, h110, h111⟩, hQ, hM⟩ := hV
        refine W.eq (g2 := F0 m 93 ls []) rfl ?_
        refine lv_iconst (v := 1) hx hb dX6_closes_93 (by decide) ?_
        exact z_iret F (rfl) hw hS (by unfold sp_closes; rw [if_neg (fun q => hs q.2.1), if_pos ⟨rf_ei hty (by decide) c51, Or.inl rfl⟩]; exact ⟨rfl, rfl, ⟨_, _, _, _, ⟨h100, h101, h102, h103, h104, h105, h106, h107, h108, h109, h110, h111⟩, hQ, hM⟩, hF⟩) dX6_closes_94
end
section
theorem rf_if1 {c : Prop} [Decidable c] (a b : rf_R) : (if c then a else b).1 = if c then a.1 else b.1 := by split <;> rfl
theorem sp_closes_b (T : rf_T) (Q : rf_Q) (M : List Nat) (k ty : Nat) : narrow .boolean (.int (sp_closes T Q M k ty).1) = .int (sp_closes T Q M k ty).1 := by unfold sp_closes; simp only [rf_if1]; (repeat' split) <;> rfl
def rf_dg (T : rf_T) (d k : Nat) : List Nat := [3, 5, 94, rf_zb (nI d)] ++ (List.range k).map (fun j => rf_zb (T 6 j))
theorem rf_dg_s (T : rf_T) (d k : Nat) : rf_dg T d k ++ [rf_zb (T 6 k)] = rf_dg T d (k + 1) := by simp [rf_dg, List.range_succ]
set_option maxHeartbeats 4000000 in
set_option maxRecDepth 100000 in
theorem r_setUp (l : Launch) {G : zz_G} {ad : Nat → Nat} {ce : zz_C} {sz : Nat} (T : rf_T) (Q : rf_Q) (M : List Nat) (hV : rfV G ad ce T Q M) (d : Nat) (hd : d ≤ 8) (hdc : T 0 9 = nI d) : zz_M l yX6_setUp cX6_setUp 3 none 1 24 0 0 G [.ref (ad 100)] ad ce sz (fun r ad1 ce1 => r = none ∧ ad = ad1 ∧ rfV G ad ce1 (T) (rf_put T Q 0 (rf_dg T d d)) M ∧ (∀ j, j < 100 → ce1 j = ce j)) := by
  refine zz_enter (by decide) (Nat.le_of_ble_eq_true rfl) ?_
  intro p e s m below meth c ls F hl hw hS hA
  obtain ⟨hx, hb, hr, hml, hown, hts, hlocks, hK, hnm⟩ := id F
  have hl : lv_has ls 3 [(0, .ref (ad 100))] := hl
  obtain ⟨cn, zs, bs, hh, ⟨h100, h101, h102, h103, h104, h105, h106, h107, h108, h109, h110, h111⟩, hQ, hM⟩ := hV
  have hF : ∀ j, j < 100 → ce j = ce j := fun _ _ => rfl
  refine lv_aload_n hx hb dX6_setUp_0 rfl (lv_at hl 0 rfl) ?_
  refine lv_iconst (v := 0) hx hb dX6_setUp_1 (by decide) ?_
  refine lv_iconst (v := 3) hx hb dX6_setUp_2 (by decide) ?_
  refine lv_iconst (v := 5) hx hb dX6_setUp_3 (by decide) ?_
  have hV : rfV G ad ce T Q M := ⟨_, _, _, _, ⟨h100, h101, h102, h103, h104, h105, h106, h107, h108, h109, h110, h111⟩, hQ, hM⟩
  refine z_invV F (rest := []) (r_put0 l T Q M hV 3 5 (by decide) (by decide)) yv_X6_64 ⟨Nat.le_of_ble_eq_true rfl, Nat.le_of_ble_eq_true rfl⟩ hw hA hS hl h100 rfl rfl rfl (Nat.le_of_ble_eq_true rfl) dX6_setUp_4 ⟨Nat.le_of_ble_eq_true rfl, Nat.le_of_ble_eq_true rfl⟩ (fun r ad1 ce1 H locs hp hw hS => ?_)
  obtain ⟨rfl, rfl, hV, hF2⟩ := hp
  have hF : ∀ j, j < 100 → ce1 j = ce j := fun j hj => (hF2 j hj).trans (hF j hj)
  obtain ⟨cn, zs, bs, hh, ⟨h100, h101, h102, h103, h104, h105, h106, h107, h108, h109, h110, h111⟩, hQ, hM⟩ := hV
  refine W.eq (g2 := F0 m 7 ls [.int (rf_hd T Q 0)]) rfl ?_
  refine lv_istore_n (lv' := [(1, .int (rf_hd T Q 0)), (0, .ref (ad 100))]) hx hb dX6_setUp_7 rfl hl (by decide) rfl (fun ls hl => ?_)
  refine lv_aload_n hx hb dX6_setUp_8 rfl (lv_at hl 1 rfl) ?_
  refine lv_iload_n hx hb dX6_setUp_9 rfl (lv_at hl 0 rfl) ?_
  refine lv_bipush (v := 94) hx hb dX6_setUp_10 (by decide) ?_
  have hV : rfV G ad ce1 T (rf_put T Q 0 [3, 5]) M := ⟨_, _, _, _, ⟨h100, h101, h102, h103, h104, h105, h106, h107, h108, h109, h110, h111⟩, hQ, hM⟩
  refine z_invV F (rest := []) (r_more l T Q M 0 ([3, 5]) hV (by decide) (by simp) 94) yv_X6_68 ⟨Nat.le_of_ble_eq_true rfl, Nat.le_of_ble_eq_true rfl⟩ hw hA hS hl h100 rfl rfl rfl (Nat.le_of_ble_eq_true rfl) dX6_setUp_12 ⟨Nat.le_of_ble_eq_true rfl, Nat.le_of_ble_eq_true rfl⟩ (fun r ad1 ce2 H locs hp hw hS => ?_)
  obtain ⟨rfl, rfl, hV, hF2⟩ := hp
  have hF : ∀ j, j < 100 → ce2 j = ce j := fun j hj => (hF2 j hj).trans (hF j hj)
  obtain ⟨cn, zs, bs, hh, ⟨h100, h101, h102, h103, h104, h105, h106, h107, h108, h109, h110, h111⟩, hQ, hM⟩ := hV
  refine W.eq (g2 := F0 m 15 ls []) rfl ?_
  refine lv_aload_n hx hb dX6_setUp_15 rfl (lv_at hl 1 rfl) ?_
  refine lv_iload_n hx hb dX6_setUp_16 rfl (lv_at hl 0 rfl) ?_
  refine lv_aload_n hx hb dX6_setUp_17 rfl (lv_at hl 1 rfl) ?_
  refine z_get F hw h100 fd_X6_119_X6 rfl dX6_setUp_18 ?_
  refine z_top (nI d) (hdc) ?_
  have hV : rfV G ad ce2 T (rf_put T Q 0 (([3, 5]) ++ [rf_zb 94])) M := ⟨_, _, _, _, ⟨h100, h101, h102, h103, h104, h105, h106, h107, h108, h109, h110, h111⟩, hQ, hM⟩
  refine z_invV F (rest := []) (r_more l T Q M 0 (([3, 5]) ++ [rf_zb 94]) hV (by decide) (by simp) (nI d)) yv_X6_68 ⟨Nat.le_of_ble_eq_true rfl, Nat.le_of_ble_eq_true rfl⟩ hw hA hS hl h100 rfl rfl rfl (Nat.le_of_ble_eq_true rfl) dX6_setUp_21 ⟨Nat.le_of_ble_eq_true rfl, Nat.le_of_ble_eq_true rfl⟩ (fun r ad1 ce3 H locs hp hw hS => ?_)
  obtain ⟨rfl, rfl, hV, hF2⟩ := hp
  have hF : ∀ j, j < 100 → ce3 j = ce j := fun j hj => (hF2 j hj).trans (hF j hj)
  obtain ⟨cn, zs, bs, hh, ⟨h100, h101, h102, h103, h104, h105, h106, h107, h108, h109, h110, h111⟩, hQ, hM⟩ := hV
  refine W.eq (g2 := F0 m 24 ls []) rfl ?_
  refine lv_iconst (v := 0) hx hb dX6_setUp_24 (by decide) ?_
  refine lv_istore_n (lv' := [(2, .int 0), (1, .int (rf_hd T Q 0)), (0, .ref (ad 100))]) hx hb dX6_setUp_25 rfl hl (by decide) rfl (fun ls hl => ?_)
  refine z_loop (α := Nat) (fun k => d - k) (fun k ce9 ls9 => lv_has ls9 3 [(0, .ref (ad 100)), (1, .int (rf_hd T Q 0)), (2, .int (nI k))] ∧ rfV G ad ce9 T (rf_put T Q 0 (rf_dg T d k)) M ∧ (∀ j, j < 100 → ce9 j = ce j) ∧ k ≤ d) 0 ⟨lv_sub hl [2, 1, 0] rfl, ⟨_, _, _, _, ⟨h100, h101, h102, h103, h104, h105, h106, h107, h108, h109, h110, h111⟩, hQ, hM⟩, hF, Nat.zero_le _⟩ hw hS (fun k ih26 ce9 H locs ls hI hw hS => ?_)
  obtain ⟨hl, hV, hF, hkd⟩ := hI
  obtain ⟨cn, zs, bs, hh, ⟨h100, h101, h102, h103, h104, h105, h106, h107, h108, h109, h110, h111⟩, hQ, hM⟩ := hV
  refine lv_iload_n hx hb dX6_setUp_26 rfl (lv_at hl 2 rfl) ?_
  refine lv_aload_n hx hb dX6_setUp_27 rfl (lv_at hl 0 rfl) ?_
  refine z_get F hw h100 fd_X6_119_X6 rfl dX6_setUp_28 ?_
  refine z_top (nI d) (hdc) ?_
  refine lv_icmp_ge (tgt := 51) hx hb dX6_setUp_31 (by decide) (fun c31 => ?_) (fun c31 => ?_)
  · exact z_vret F hw hS (⟨rfl, rfl, by rw [show d = k from Nat.le_antisymm (Nat.le_of_not_lt (fun q => absurd c31 (nI_ge q (by omega)))) hkd]; rw [show d = k from Nat.le_antisymm (Nat.le_of_not_lt (fun q => absurd c31 (nI_ge q (by omega)))) hkd] at hQ; exact ⟨_, _, _, _, ⟨h100, h101, h102, h103, h104, h105, h106, h107, h108, h109, h110, h111⟩, hQ, hM⟩, hF⟩) dX6_setUp_51
  · have hklt : k < d := Nat.lt_of_not_le (fun q => c31 (nI_le q (by omega)))
    refine lv_aload_n hx hb dX6_setUp_34 rfl (lv_at hl 0 rfl) ?_
    refine lv_iload_n hx hb dX6_setUp_35 rfl (lv_at hl 1 rfl) ?_
    refine lv_aload_n hx hb dX6_setUp_36 rfl (lv_at hl 0 rfl) ?_
    refine z_get F hw h100 fd_X6_42_X6 rfl dX6_setUp_37 ?_
    refine lv_iload_n hx hb dX6_setUp_40 rfl (lv_at hl 2 rfl) ?_
    refine z_ld F hw h109 (k) (rfl) (by omega) (by decide) dX6_setUp_41 ?_
    have hV : rfV G ad ce9 T (rf_put T Q 0 (rf_dg T d k)) M := ⟨_, _, _, _, ⟨h100, h101, h102, h103, h104, h105, h106, h107, h108, h109, h110, h111⟩, hQ, hM⟩
    refine z_invV F (rest := []) (r_more l T Q M 0 (rf_dg T d k) hV (by decide) (by simp [rf_dg]; omega) ((T 6) k)) yv_X6_68 ⟨Nat.le_of_ble_eq_true rfl, Nat.le_of_ble_eq_true rfl⟩ hw hA hS hl h100 rfl rfl rfl (Nat.le_of_ble_eq_true rfl) dX6_setUp_42 ⟨Nat.le_of_ble_eq_true rfl, Nat.le_of_ble_eq_true rfl⟩ (fun r ad1 ce4 H locs hp hw hS => ?_)
    obtain ⟨rfl, rfl, hV, hF2⟩ := hp
    have hF : ∀ j, j < 100 → ce4 j = ce j := fun j hj => (hF2 j hj).trans (hF j hj)
    obtain ⟨cn, zs, bs, hh, ⟨h100, h101, h102, h103, h104, h105, h106, h107, h108, h109, h110, h111⟩, hQ, hM⟩ := hV
    refine W.eq (g2 := F0 m 45 ls []) rfl ?_
    refine lv_iinc (v := nI (k + 1)) (lv' := [(2, .int (nI (k + 1))), (0, .ref (ad 100)), (1, .int (rf_hd T Q 0))]) hx hb dX6_setUp_45 hl (k := 2) rfl (nI_1 k) (by decide) rfl (fun ls hl => ?_)
    refine lv_goto (tgt := 26) hx hb dX6_setUp_48 (by decide) ?_
    exact ih26 (k + 1) _ _ _ _ (by omega) ⟨lv_sub hl [1, 2, 0] rfl, by rw [← rf_dg_s]; exact ⟨_, _, _, _, ⟨h100, h101, h102, h103, h104, h105, h106, h107, h108, h109, h110, h111⟩, hQ, hM⟩, hF, by omega⟩ hw hS
def sp_mobileMoves (T : rf_T) (Q : rf_Q) (M : List Nat) (ty : Nat) (d : Nat) : rf_R := (if ty = 2 then (if (((T 1) 0) : Int32) = 2 then (if rf_sz M 19 = some 2 then (1, (rf_become (va_up T 0 (va_up (T 0) 6 (rf_val M 19))) 0 3 ((T 2) 0) 0), Q) else (0, T, Q)) else (0, T, Q)) else (if ty = 4 then (if (((T 1) 0) : Int32) = 2 then (if rf_sz M 8 = some 1 then (1, (rf_become (va_up T 5 (upd (T 5) 0 (rf_val M 8))) 0 1 ((T 2) 0) 0), Q) else (0, T, Q)) else (0, T, Q)) else (if ty = 17 then (if (((T 1) 0) : Int32) = 0 then (0, T, Q) else (1, (rf_become T 0 1 0 0), Q)) else (if ty = 18 then (if (((T 1) 0) : Int32) = 2 then (if rf_sz M 33 = some 4 then (1, T, rf_put T Q 0 ([5, 20, 34, 4] ++ rf_bytes 4 (rf_turned (rf_val M 33) (T 0 0)))) else (0, T, Q)) else (if (((T 1) 0) : Int32) = 4 then (if rf_sz M 33 = some 4 then (1, T, rf_put T Q 0 ([5, 20, 34, 4] ++ rf_bytes 4 (rf_turned (rf_val M 33) (T 0 0)))) else (0, T, Q)) else (0, T, Q))) else (if ty = 33 then (if (((T 1) 0) : Int32) = 4 then (1, (rf_become T 0 5 1 30), rf_put T Q 0 (rf_dg T d d)) else (0, T, Q)) else (if ty = 34 then (if (((T 1) 0) : Int32) = 4 then (if rf_sz M 8 = some 1 then (1, (rf_become (va_up T 5 (upd (T 5) 0 (rf_val M 8))) 0 3 0 0), Q) else (0, T, Q)) else (0, T, Q)) else (0, T, Q)))))))
theorem sp_mobileMoves_b (T : rf_T) (Q : rf_Q) (M : List Nat) (ty : Nat) (d : Nat) : narrow .boolean (.int (sp_mobileMoves T Q M ty d).1) = .int (sp_mobileMoves T Q M ty d).1 := by unfold sp_mobileMoves; simp only [rf_if1]; (repeat' split) <;> first | rfl | exact sp_closes_b _ _ _ _ _
set_option maxHeartbeats 4000000 in
set_option maxRecDepth 100000 in
theorem r_mobileMoves (l : Launch) {G : zz_G} {ad : Nat → Nat} {ce : zz_C} {sz : Nat} (T : rf_T) (Q : rf_Q) (M : List Nat) (hV : rfV G ad ce T Q M) (hg : rf_good M) (ty : Nat) (hty : ty < 256) (d : Nat) (hd : d ≤ 8) (hdc : T 0 9 = nI d) : zz_M l yX6_mobileMoves cX6_mobileMoves 3 (some .boolean) 2 52 0 0 G [.ref (ad 100), .int (nI ty)] ad ce sz (fun r ad1 ce1 => r = some (.int (sp_mobileMoves T Q M ty d).1) ∧ ad = ad1 ∧ rfV G ad ce1 (sp_mobileMoves T Q M ty d).2.1 (sp_mobileMoves T Q M ty d).2.2 M ∧ (∀ j, j < 100 → ce1 j = ce j)) := by
  refine zz_enter (by decide) (Nat.le_of_ble_eq_true rfl) ?_
  intro p e s m below meth c ls F hl hw hS hA
  obtain ⟨hx, hb, hr, hml, hown, hts, hlocks, hK, hnm⟩ := id F
  have hl : lv_has ls 3 [(0, .ref (ad 100)), (1, .int (nI ty))] := hl
  obtain ⟨cn, zs, bs, hh, ⟨h100, h101, h102, h103, h104, h105, h106, h107, h108, h109, h110, h111⟩, hQ, hM⟩ := hV
  have hF : ∀ j, j < 100 → ce j = ce j := fun _ _ => rfl
  refine lv_aload_n hx hb dX6_mobileMoves_0 rfl (lv_at hl 0 rfl) ?_
  refine z_get F hw h100 fd_X6_23_X6 rfl dX6_mobileMoves_1 ?_
  refine lv_iconst (v := 0) hx hb dX6_mobileMoves_4 (by decide) ?_
  refine z_ld F hw h104 (0) (rfl) (by decide) (by decide) dX6_mobileMoves_5 ?_
  refine lv_istore_n (lv' := [(2, .int ((T 1) 0)), (0, .ref (ad 100)), (1, .int (nI ty))]) hx hb dX6_mobileMoves_6 rfl hl (by decide) rfl (fun ls hl => ?_)
  refine lv_iload_n hx hb dX6_mobileMoves_7 rfl (lv_at hl 2 rfl) ?_
  by_cases h8_2 : ty = 2
  · refine lv_lookup (tgt := 68) (off := 60) hx hb dX6_mobileMoves_8 (by decide) (by rw [h8_2]; rfl) (by decide) ?_
    refine lv_iload_n hx hb dX6_mobileMoves_68 rfl (lv_at hl 0 rfl) ?_
    refine lv_iconst (v := 2) hx hb dX6_mobileMoves_69 (by decide) ?_
    refine lv_icmp_ne (tgt := 83) hx hb dX6_mobileMoves_70 (by decide) (fun c70 => ?_) (fun c70 => ?_)
    · refine lv_iconst (v := 0) hx hb dX6_mobileMoves_83 (by decide) ?_
      exact z_iret F (rfl) hw hS (by unfold sp_mobileMoves; rw [if_pos h8_2, if_neg c70]; exact ⟨rfl, rfl, ⟨_, _, _, _, ⟨h100, h101, h102, h103, h104, h105, h106, h107, h108, h109, h110, h111⟩, hQ, hM⟩, hF⟩) dX6_mobileMoves_84
    · refine lv_aload_n hx hb dX6_mobileMoves_73 rfl (lv_at hl 1 rfl) ?_
      refine lv_bipush (v := 19) hx hb dX6_mobileMoves_74 (by decide) ?_
      refine lv_iconst (v := 2) hx hb dX6_mobileMoves_76 (by decide) ?_
      have hV : rfV G ad ce T Q M := ⟨_, _, _, _, ⟨h100, h101, h102, h103, h104, h105, h106, h107, h108, h109, h110, h111⟩, hQ, hM⟩
      refine z_invV F (rest := []) (r_has l T Q M hV hg 19 2 (by decide) (by decide)) yv_X6_87 ⟨Nat.le_of_ble_eq_true rfl, Nat.le_of_ble_eq_true rfl⟩ hw hA hS hl h100 rfl rfl rfl (Nat.le_of_ble_eq_true rfl) dX6_mobileMoves_77 ⟨Nat.le_of_ble_eq_true rfl, Nat.le_of_ble_eq_true rfl⟩ (fun r ad1 ce1 H locs hp hw hS => ?_)
      obtain ⟨hp, rfl, rfl⟩ := hp
      rcases hp with ⟨hs, rfl⟩ | ⟨hs, rfl⟩
      · refine W.eq (g2 := F0 m 80 ls [.int 1]) rfl ?_
        refine lv_if_ne (tgt := 85) hx hb dX6_mobileMoves_80 (by decide) (fun c80 => ?_) (fun c80 => absurd c80 (by decide))
        refine lv_aload_n hx hb dX6_mobileMoves_85 rfl (lv_at hl 1 rfl) ?_
        refine lv_aload_n hx hb dX6_mobileMoves_86 rfl (lv_at hl 1 rfl) ?_
        refine lv_bipush (v := 19) hx hb dX6_mobileMoves_87 (by decide) ?_
        have hV : rfV G ad ce T Q M := ⟨_, _, _, _, ⟨h100, h101, h102, h103, h104, h105, h106, h107, h108, h109, h110, h111⟩, hQ, hM⟩
        refine z_invV F (rest := [.ref (ad 100)]) (r_number l T Q M hV hg 19 2 (by decide) hs) yv_X6_95 ⟨Nat.le_of_ble_eq_true rfl, Nat.le_of_ble_eq_true rfl⟩ hw hA hS hl h100 rfl rfl rfl (Nat.le_of_ble_eq_true rfl) dX6_mobileMoves_89 ⟨Nat.le_of_ble_eq_true rfl, Nat.le_of_ble_eq_true rfl⟩ (fun r ad1 ce2 H locs hp hw hS => ?_)
        obtain ⟨rfl, rfl, rfl⟩ := hp
        refine W.eq (g2 := F0 m 92 ls [.int (rf_val M 19), .ref (ad 100)]) rfl ?_
        refine z_put F hw hS (fs' := [.int (T 0 0), .int (T 0 1), .int (T 0 2), .int (T 0 3), .int (T 0 4), .ref (ad 101), .ref (ad 102), .ref (ad 103), .int (T 0 5), .ref (ad 104), .ref (ad 105), .ref (ad 106), .ref (ad 107), .ref (ad 108), .int (rf_val M 19), .int (T 0 7), .int (T 0 8), .ref (ad 109), .int (T 0 9), .ref (ad 110), .int (T 0 10), .int (nI M.length), .ref (ad 111)]) h100 fd_X6_105_X6 ptX6 rfl (rfl) (rfl) (Nat.le_of_ble_eq_true rfl) rfl dX6_mobileMoves_92 (fun ce3 H locs h100 fr4 hw hS => ?_)
        have h101 := (fr4 101 (by decide)).trans h101
        have h102 := (fr4 102 (by decide)).trans h102
        have h103 := (fr4 103 (by decide)).trans h103
        have h104 := (fr4 104 (by decide)).trans h104
        have h105 := (fr4 105 (by decide)).trans h105
        have h106 := (fr4 106 (by decide)).trans h106
        have h107 := (fr4 107 (by decide)).trans h107
        have h108 := (fr4 108 (by decide)).trans h108
        have h109 := (fr4 109 (by decide)).trans h109
        have h110 := (fr4 110 (by decide)).trans h110
        have h111 := (fr4 111 (by decide)).trans h111
        have hF : ∀ j, j < 100 → _ = ce j := fun j hj => (fr4 j (by omega)).trans (hF j hj)
        refine lv_aload_n hx hb dX6_mobileMoves_95 rfl (lv_at hl 1 rfl) ?_
        refine lv_iconst (v := 0) hx hb dX6_mobileMoves_96 (by decide) ?_
        refine lv_iconst (v := 3) hx hb dX6_mobileMoves_97 (by decide) ?_
        refine lv_aload_n hx hb dX6_mobileMoves_98 rfl (lv_at hl 1 rfl) ?_
        refine z_get F hw h100 fd_X6_26_X6 rfl dX6_mobileMoves_99 ?_
        refine lv_iconst (v := 0) hx hb dX6_mobileMoves_102 (by decide) ?_
        refine z_ld F hw h105 (0) (rfl) (by decide) (by decide) dX6_mobileMoves_103 ?_
        refine lv_iconst (v := 0) hx hb dX6_mobileMoves_104 (by decide) ?_
        have hV : rfV G ad ce3 (va_up T 0 (va_up (T 0) 6 (rf_val M 19))) Q M := ⟨_, _, _, _, ⟨h100, h101, h102, h103, h104, h105, h106, h107, h108, h109, h110, h111⟩, hQ, hM⟩
        refine z_invV F (rest := []) (r_become0 l (va_up T 0 (va_up (T 0) 6 (rf_val M 19))) Q M hV 3 ((T 2) 0) 0) yv_X6_83 ⟨Nat.le_of_ble_eq_true rfl, Nat.le_of_ble_eq_true rfl⟩ hw hA hS hl h100 rfl rfl rfl (Nat.le_of_ble_eq_true rfl) dX6_mobileMoves_105 ⟨Nat.le_of_ble_eq_true rfl, Nat.le_of_ble_eq_true rfl⟩ (fun r ad1 ce5 H locs hp hw hS => ?_)
        obtain ⟨rfl, rfl, hV, hF2⟩ := hp
        have hF : ∀ j, j < 100 → ce5 j = ce j := fun j hj => (hF2 j hj).trans (hF j hj)
        obtain ⟨cn, zs, bs, hh, ⟨h100, h101, h102, h103, h104, h105, h106, h107, h108, h109, h110, h111⟩, hQ, hM⟩ := hV
        refine W.eq (g2 := F0 m 108 ls []) rfl ?_
        refine lv_iconst (v := 1) hx hb dX6_mobileMoves_108 (by decide) ?_
        exact z_iret F (rfl) hw hS (by unfold sp_mobileMoves; rw [if_pos h8_2, if_pos c70, if_pos hs]; exact ⟨rfl, rfl, ⟨_, _, _, _, ⟨h100, h101, h102, h103, h104, h105, h106, h107, h108, h109, h110, h111⟩, hQ, hM⟩, hF⟩) dX6_mobileMoves_109
      · refine W.eq (g2 := F0 m 80 ls [.int 0]) rfl ?_
        refine lv_if_ne (tgt := 85) hx hb dX6_mobileMoves_80 (by decide) (fun c80 => absurd c80 (by decide)) (fun c80 => ?_)
        refine lv_iconst (v := 0) hx hb dX6_mobileMoves_83 (by decide) ?_
        exact z_iret F (rfl) hw hS (by unfold sp_mobileMoves; rw [if_pos h8_2, if_pos c70, if_neg hs]; exact ⟨rfl, rfl, ⟨_, _, _, _, ⟨h100, h101, h102, h103, h104, h105, h106, h107, h108, h109, h110, h111⟩, hQ, hM⟩, hF⟩) dX6_mobileMoves_84
  by_cases h8_4 : ty = 4
  · refine lv_lookup (tgt := 110) (off := 102) hx hb dX6_mobileMoves_8 (by decide) (by rw [h8_4]; rfl) (by decide) ?_
    refine lv_iload_n hx hb dX6_mobileMoves_110 rfl (lv_at hl 0 rfl) ?_
    refine lv_iconst (v := 2) hx hb dX6_mobileMoves_111 (by decide) ?_
    refine lv_icmp_ne (tgt := 125) hx hb dX6_mobileMoves_112 (by decide) (fun c112 => ?_) (fun c112 => ?_)
    · refine lv_iconst (v := 0) hx hb dX6_mobileMoves_125 (by decide) ?_
      exact z_iret F (rfl) hw hS (by unfold sp_mobileMoves; rw [if_neg h8_2, if_pos h8_4, if_neg c112]; exact ⟨rfl, rfl, ⟨_, _, _, _, ⟨h100, h101, h102, h103, h104, h105, h106, h107, h108, h109, h110, h111⟩, hQ, hM⟩, hF⟩) dX6_mobileMoves_126
    · refine lv_aload_n hx hb dX6_mobileMoves_115 rfl (lv_at hl 1 rfl) ?_
      refine lv_bipush (v := 8) hx hb dX6_mobileMoves_116 (by decide) ?_
      refine lv_iconst (v := 1) hx hb dX6_mobileMoves_118 (by decide) ?_
      have hV : rfV G ad ce T Q M := ⟨_, _, _, _, ⟨h100, h101, h102, h103, h104, h105, h106, h107, h108, h109, h110, h111⟩, hQ, hM⟩
      refine z_invV F (rest := []) (r_has l T Q M hV hg 8 1 (by decide) (by decide)) yv_X6_87 ⟨Nat.le_of_ble_eq_true rfl, Nat.le_of_ble_eq_true rfl⟩ hw hA hS hl h100 rfl rfl rfl (Nat.le_of_ble_eq_true rfl) dX6_mobileMoves_119 ⟨Nat.le_of_ble_eq_true rfl, Nat.le_of_ble_eq_true rfl⟩ (fun r ad1 ce6 H locs hp hw hS => ?_)
      obtain ⟨hp, rfl, rfl⟩ := hp
      rcases hp with ⟨hs, rfl⟩ | ⟨hs, rfl⟩
      · refine W.eq (g2 := F0 m 122 ls [.int 1]) rfl ?_
        refine lv_if_ne (tgt := 127) hx hb dX6_mobileMoves_122 (by decide) (fun c122 => ?_) (fun c122 => absurd c122 (by decide))
        refine lv_aload_n hx hb dX6_mobileMoves_127 rfl (lv_at hl 1 rfl) ?_
        refine z_get F hw h100 fd_X6_36_X6 rfl dX6_mobileMoves_128 ?_
        refine lv_iconst (v := 0) hx hb dX6_mobileMoves_131 (by decide) ?_
        refine lv_aload_n hx hb dX6_mobileMoves_132 rfl (lv_at hl 1 rfl) ?_
        refine lv_bipush (v := 8) hx hb dX6_mobileMoves_133 (by decide) ?_
        have hV : rfV G ad ce T Q M := ⟨_, _, _, _, ⟨h100, h101, h102, h103, h104, h105, h106, h107, h108, h109, h110, h111⟩, hQ, hM⟩
        refine z_invV F (rest := [.int 0, .ref (ad 108)]) (r_number l T Q M hV hg 8 1 (by decide) hs) yv_X6_95 ⟨Nat.le_of_ble_eq_true rfl, Nat.le_of_ble_eq_true rfl⟩ hw hA hS hl h100 rfl rfl rfl (Nat.le_of_ble_eq_true rfl) dX6_mobileMoves_135 ⟨Nat.le_of_ble_eq_true rfl, Nat.le_of_ble_eq_true rfl⟩ (fun r ad1 ce7 H locs hp hw hS => ?_)
        obtain ⟨rfl, rfl, rfl⟩ := hp
        refine W.eq (g2 := F0 m 138 ls [.int (rf_val M 8), .int 0, .ref (ad 108)]) rfl ?_
        refine z_st F hw hS h108 (0) (rfl) (by decide) (by decide) dX6_mobileMoves_138 (fun ce8 H locs h108 fr9 hw hS => ?_)
        have h100 := (fr9 100 (by decide)).trans h100
        have h101 := (fr9 101 (by decide)).trans h101
        have h102 := (fr9 102 (by decide)).trans h102
        have h103 := (fr9 103 (by decide)).trans h103
        have h104 := (fr9 104 (by decide)).trans h104
        have h105 := (fr9 105 (by decide)).trans h105
        have h106 := (fr9 106 (by decide)).trans h106
        have h107 := (fr9 107 (by decide)).trans h107
        have h109 := (fr9 109 (by decide)).trans h109
        have h110 := (fr9 110 (by decide)).trans h110
        have h111 := (fr9 111 (by decide)).trans h111
        have hF : ∀ j, j < 100 → _ = ce j := fun j hj => (fr9 j (by omega)).trans (hF j hj)
        refine lv_aload_n hx hb dX6_mobileMoves_139 rfl (lv_at hl 1 rfl) ?_
        refine lv_iconst (v := 0) hx hb dX6_mobileMoves_140 (by decide) ?_
        refine lv_iconst (v := 1) hx hb dX6_mobileMoves_141 (by decide) ?_
        refine lv_aload_n hx hb dX6_mobileMoves_142 rfl (lv_at hl 1 rfl) ?_
        refine z_get F hw h100 fd_X6_26_X6 rfl dX6_mobileMoves_143 ?_
        refine lv_iconst (v := 0) hx hb dX6_mobileMoves_146 (by decide) ?_
        refine z_ld F hw h105 (0) (rfl) (by decide) (by decide) dX6_mobileMoves_147 ?_
        refine lv_iconst (v := 0) hx hb dX6_mobileMoves_148 (by decide) ?_
        have hV : rfV G ad ce8 (va_up T 5 (upd (T 5) 0 (rf_val M 8))) Q M := ⟨_, _, _, _, ⟨h100, h101, h102, h103, h104, h105, h106, h107, h108, h109, h110, h111⟩, hQ, hM⟩
        refine z_invV F (rest := []) (r_become0 l (va_up T 5 (upd (T 5) 0 (rf_val M 8))) Q M hV 1 ((T 2) 0) 0) yv_X6_83 ⟨Nat.le_of_ble_eq_true rfl, Nat.le_of_ble_eq_true rfl⟩ hw hA hS hl h100 rfl rfl rfl (Nat.le_of_ble_eq_true rfl) dX6_mobileMoves_149 ⟨Nat.le_of_ble_eq_true rfl, Nat.le_of_ble_eq_true rfl⟩ (fun r ad1 ce10 H locs hp hw hS => ?_)
        obtain ⟨rfl, rfl, hV, hF2⟩ := hp
        have hF : ∀ j, j < 100 → ce10 j = ce j := fun j hj => (hF2 j hj).trans (hF j hj)
        obtain ⟨cn, zs, bs, hh, ⟨h100, h101, h102, h103, h104, h105, h106, h107, h108, h109, h110, h111⟩, hQ, hM⟩ := hV
        refine W.eq (g2 := F0 m 152 ls []) rfl ?_
        refine lv_iconst (v := 1) hx hb dX6_mobileMoves_152 (by decide) ?_
        exact z_iret F (rfl) hw hS (by unfold sp_mobileMoves; rw [if_neg h8_2, if_pos h8_4, if_pos c112, if_pos hs]; exact ⟨rfl, rfl, ⟨_, _, _, _, ⟨h100, h101, h102, h103, h104, h105, h106, h107, h108, h109, h110, h111⟩, hQ, hM⟩, hF⟩) dX6_mobileMoves_153
      · refine W.eq (g2 := F0 m 122 ls [.int 0]) rfl ?_
        refine lv_if_ne (tgt := 127) hx hb dX6_mobileMoves_122 (by decide) (fun c122 => absurd c122 (by decide)) (fun c122 => ?_)
        refine lv_iconst (v := 0) hx hb dX6_mobileMoves_125 (by decide) ?_
        exact z_iret F (rfl) hw hS (by unfold sp_mobileMoves; rw [if_neg h8_2, if_pos h8_4, if_pos c112, if_neg hs]; exact ⟨rfl, rfl, ⟨_, _, _, _, ⟨h100, h101, h102, h103, h104, h105, h106, h107, h108, h109, h110, h111⟩, hQ, hM⟩, hF⟩) dX6_mobileMoves_126
  by_cases h8_17 : ty = 17
  · refine lv_lookup (tgt := 202) (off := 194) hx hb dX6_mobileMoves_8 (by decide) (by rw [h8_17]; rfl) (by decide) ?_
    refine lv_iload_n hx hb dX6_mobileMoves_202 rfl (lv_at hl 0 rfl) ?_
    refine lv_if_ne (tgt := 208) hx hb dX6_mobileMoves_203 (by decide) (fun c203 => ?_) (fun c203 => ?_)
    · refine lv_aload_n hx hb dX6_mobileMoves_208 rfl (lv_at hl 1 rfl) ?_
      refine lv_iconst (v := 0) hx hb dX6_mobileMoves_209 (by decide) ?_
      refine lv_iconst (v := 1) hx hb dX6_mobileMoves_210 (by decide) ?_
      refine lv_iconst (v := 0) hx hb dX6_mobileMoves_211 (by decide) ?_
      refine lv_iconst (v := 0) hx hb dX6_mobileMoves_212 (by decide) ?_
      have hV : rfV G ad ce T Q M := ⟨_, _, _, _, ⟨h100, h101, h102, h103, h104, h105, h106, h107, h108, h109, h110, h111⟩, hQ, hM⟩
      refine z_invV F (rest := []) (r_become0 l T Q M hV 1 0 0) yv_X6_83 ⟨Nat.le_of_ble_eq_true rfl, Nat.le_of_ble_eq_true rfl⟩ hw hA hS hl h100 rfl rfl rfl (Nat.le_of_ble_eq_true rfl) dX6_mobileMoves_213 ⟨Nat.le_of_ble_eq_true rfl, Nat.le_of_ble_eq_true rfl⟩ (fun r ad1 ce11 H locs hp hw hS => ?_)
      obtain ⟨rfl, rfl, hV, hF2⟩ := hp
      have hF : ∀ j, j < 100 → ce11 j = ce j := fun j hj => (hF2 j hj).trans (hF j hj)
      obtain ⟨cn, zs, bs, hh, ⟨h100, h101, h102, h103, h104, h105, h106, h107, h108, h109, h110, h111⟩, hQ, hM⟩ := hV
      refine W.eq (g2 := F0 m 216 ls []) rfl ?_
      refine lv_iconst (v := 1) hx hb dX6_mobileMoves_216 (by decide) ?_
      exact z_iret F (rfl) hw hS (by unfold sp_mobileMoves; rw [if_neg h8_2, if_neg h8_4, if_pos h8_17, if_neg c203]; exact ⟨rfl, rfl, ⟨_, _, _, _, ⟨h100, h101, h102, h103, h104, h105, h106, h107, h108, h109, h110, h111⟩, hQ, hM⟩, hF⟩) dX6_mobileMoves_217
    · refine lv_iconst (v := 0) hx hb dX6_mobileMoves_206 (by decide) ?_
      exact z_iret F (rfl) hw hS (by unfold sp_mobileMoves; rw [if_neg h8_2, if_neg h8_4, if_pos h8_17, if_pos c203]; exact ⟨rfl, rfl, ⟨_, _, _, _, ⟨h100, h101, h102, h103, h104, h105, h106, h107, h108, h109, h110, h111⟩, hQ, hM⟩, hF⟩) dX6_mobileMoves_207
  by_cases h8_18 : ty = 18
  · refine lv_lookup (tgt := 154) (off := 146) hx hb dX6_mobileMoves_8 (by decide) (by rw [h8_18]; rfl) (by decide) ?_
    refine lv_iload_n hx hb dX6_mobileMoves_154 rfl (lv_at hl 0 rfl) ?_
    refine lv_iconst (v := 2) hx hb dX6_mobileMoves_155 (by decide) ?_
    refine lv_icmp_eq (tgt := 164) hx hb dX6_mobileMoves_156 (by decide) (fun c156 => ?_) (fun c156 => ?_)
    · refine lv_aload_n hx hb dX6_mobileMoves_164 rfl (lv_at hl 1 rfl) ?_
      refine lv_bipush (v := 33) hx hb dX6_mobileMoves_165 (by decide) ?_
      refine lv_iconst (v := 4) hx hb dX6_mobileMoves_167 (by decide) ?_
      have hV : rfV G ad ce T Q M := ⟨_, _, _, _, ⟨h100, h101, h102, h103, h104, h105, h106, h107, h108, h109, h110, h111⟩, hQ, hM⟩
      refine z_invV F (rest := []) (r_has l T Q M hV hg 33 4 (by decide) (by decide)) yv_X6_87 ⟨Nat.le_of_ble_eq_true rfl, Nat.le_of_ble_eq_true rfl⟩ hw hA hS hl h100 rfl rfl rfl (Nat.le_of_ble_eq_true rfl) dX6_mobileMoves_168 ⟨Nat.le_of_ble_eq_true rfl, Nat.le_of_ble_eq_true rfl⟩ (fun r ad1 ce12 H locs hp hw hS => ?_)
      obtain ⟨hp, rfl, rfl⟩ := hp
      rcases hp with ⟨hs, rfl⟩ | ⟨hs, rfl⟩
      · refine W.eq (g2 := F0 m 171 ls [.int 1]) rfl ?_
        refine lv_if_ne (tgt := 176) hx hb dX6_mobileMoves_171 (by decide) (fun c171 => ?_) (fun c171 => absurd c171 (by decide))
        refine lv_aload_n hx hb dX6_mobileMoves_176 rfl (lv_at hl 1 rfl) ?_
        refine lv_iconst (v := 0) hx hb dX6_mobileMoves_177 (by decide) ?_
        refine lv_iconst (v := 5) hx hb dX6_mobileMoves_178 (by decide) ?_
        refine lv_bipush (v := 20) hx hb dX6_mobileMoves_179 (by decide) ?_
        refine lv_bipush (v := 34) hx hb dX6_mobileMoves_181 (by decide) ?_
        refine lv_iconst (v := 4) hx hb dX6_mobileMoves_183 (by decide) ?_
        refine lv_aload_n hx hb dX6_mobileMoves_184 rfl (lv_at hl 1 rfl) ?_
        refine lv_bipush (v := 33) hx hb dX6_mobileMoves_185 (by decide) ?_
        have hV : rfV G ad ce T Q M := ⟨_, _, _, _, ⟨h100, h101, h102, h103, h104, h105, h106, h107, h108, h109, h110, h111⟩, hQ, hM⟩
        refine z_invV F (rest := [.int 4, .int 34, .int 20, .int 5, .int 0, .ref (ad 100)]) (r_number l T Q M hV hg 33 4 (by decide) hs) yv_X6_95 ⟨Nat.le_of_ble_eq_true rfl, Nat.le_of_ble_eq_true rfl⟩ hw hA hS hl h100 rfl rfl rfl (Nat.le_of_ble_eq_true rfl) dX6_mobileMoves_187 ⟨Nat.le_of_ble_eq_true rfl, Nat.le_of_ble_eq_true rfl⟩ (fun r ad1 ce13 H locs hp hw hS => ?_)
        obtain ⟨rfl, rfl, rfl⟩ := hp
        refine W.eq (g2 := F0 m 190 ls [.int (rf_val M 33), .int 4, .int 34, .int 20, .int 5, .int 0, .ref (ad 100)]) rfl ?_
        refine lv_aload_n hx hb dX6_mobileMoves_190 rfl (lv_at hl 1 rfl) ?_
        refine z_get F hw h100 fd_X6_51_X6 rfl dX6_mobileMoves_191 ?_
        refine z_invS F (rest := [.int 4, .int 34, .int 20, .int 5, .int 0, .ref (ad 100)]) (r_turned l (rf_val M 33) (T 0 0)) ys_X6_108 ⟨Nat.le_of_ble_eq_true rfl, Nat.le_of_ble_eq_true rfl⟩ hw hA hS hl rfl rfl (Nat.le_of_ble_eq_true rfl) dX6_mobileMoves_194 ⟨Nat.le_of_ble_eq_true rfl, Nat.le_of_ble_eq_true rfl⟩ (fun r ad1 ce14 H locs hp hw hS => ?_)
        obtain ⟨rfl, rfl, rfl⟩ := hp
        refine W.eq (g2 := F0 m 197 ls [.int (rf_turned (rf_val M 33) (T 0 0)), .int 4, .int 34, .int 20, .int 5, .int 0, .ref (ad 100)]) rfl ?_
        have hV : rfV G ad ce T Q M := ⟨_, _, _, _, ⟨h100, h101, h102, h103, h104, h105, h106, h107, h108, h109, h110, h111⟩, hQ, hM⟩
        refine z_invV F (rest := []) (r_tell0_4 l T Q M hV 5 20 34 (by decide) (by decide) (by decide) (rf_turned (rf_val M 33) (T 0 0))) yv_X6_112 ⟨Nat.le_of_ble_eq_true rfl, Nat.le_of_ble_eq_true rfl⟩ hw hA hS hl h100 rfl rfl rfl (Nat.le_of_ble_eq_true rfl) dX6_mobileMoves_197 ⟨Nat.le_of_ble_eq_true rfl, Nat.le_of_ble_eq_true rfl⟩ (fun r ad1 ce15 H locs hp hw hS => ?_)
        obtain ⟨rfl, rfl, hV, hF2⟩ := hp
        have hF : ∀ j, j < 100 → ce15 j = ce j := fun j hj => (hF2 j hj).trans (hF j hj)
        obtain ⟨cn, zs, bs, hh, ⟨h100, h101, h102, h103, h104, h105, h106, h107, h108, h109, h110, h111⟩, hQ, hM⟩ := hV
        refine W.eq (g2 := F0 m 200 ls []) rfl ?_
        refine lv_iconst (v := 1) hx hb dX6_mobileMoves_200 (by decide) ?_
        exact z_iret F (rfl) hw hS (by unfold sp_mobileMoves; rw [if_neg h8_2, if_neg h8_4, if_neg h8_17, if_pos h8_18, if_pos c156, if_pos hs]; exact ⟨rfl, rfl, ⟨_, _, _, _, ⟨h100, h101, h102, h103, h104, h105, h106, h107, h108, h109, h110, h111⟩, hQ, hM⟩, hF⟩) dX6_mobileMoves_201
      · refine W.eq (g2 := F0 m 171 ls [.int 0]) rfl ?_
        refine lv_if_ne (tgt := 176) hx hb dX6_mobileMoves_171 (by decide) (fun c171 => absurd c171 (by decide)) (fun c171 => ?_)
        refine lv_iconst (v := 0) hx hb dX6_mobileMoves_174 (by decide) ?_
        exact z_iret F (rfl) hw hS (by unfold sp_mobileMoves; rw [if_neg h8_2, if_neg h8_4, if_neg h8_17, if_pos h8_18, if_pos c156, if_neg hs]; exact ⟨rfl, rfl, ⟨_, _, _, _, ⟨h100, h101, h102, h103, h104, h105, h106, h107, h108, h109, h110, h111⟩, hQ, hM⟩, hF⟩) dX6_mobileMoves_175
    · refine lv_iload_n hx hb dX6_mobileMoves_159 rfl (lv_at hl 0 rfl) ?_
      refine lv_iconst (v := 4) hx hb dX6_mobileMoves_160 (by decide) ?_
      refine lv_icmp_ne (tgt := 174) hx hb dX6_mobileMoves_161 (by decide) (fun c161 => ?_) (fun c161 => ?_)
      · refine lv_iconst (v := 0) hx hb dX6_mobileMoves_174 (by decide) ?_
        exact z_iret F (rfl) hw hS (by unfold sp_mobileMoves; rw [if_neg h8_2, if_neg h8_4, if_neg h8_17, if_pos h8_18, if_neg c156, if_neg c161]; exact ⟨rfl, rfl, ⟨_, _, _, _, ⟨h100, h101, h102, h103, h104, h105, h106, h107, h108, h109, h110, h111⟩, hQ, hM⟩, hF⟩) dX6_mobileMoves_175
      · refine lv_aload_n hx hb dX6_mobileMoves_164 rfl (lv_at hl 1 rfl) ?_
        refine lv_bipush (v := 33) hx hb dX6_mobileMoves_165 (by decide) ?_
        refine lv_iconst (v := 4) hx hb dX6_mobileMoves_167 (by decide) ?_
        have hV : rfV G ad ce T Q M := ⟨_, _, _, _, ⟨h100, h101, h102, h103, h104, h105, h106, h107, h108, h109, h110, h111⟩, hQ, hM⟩
        refine z_invV F (rest := []) (r_has l T Q M hV hg 33 4 (by decide) (by decide)) yv_X6_87 ⟨Nat.le_of_ble_eq_true rfl, Nat.le_of_ble_eq_true rfl⟩ hw hA hS hl h100 rfl rfl rfl (Nat.le_of_ble_eq_true rfl) dX6_mobileMoves_168 ⟨Nat.le_of_ble_eq_true rfl, Nat.le_of_ble_eq_true rfl⟩ (fun r ad1 ce16 H locs hp hw hS => ?_)
        obtain ⟨hp, rfl, rfl⟩ := hp
        rcases hp with ⟨hs, rfl⟩ | ⟨hs, rfl⟩
        · refine W.eq (g2 := F0 m 171 ls [.int 1]) rfl ?_
          refine lv_if_ne (tgt := 176) hx hb dX6_mobileMoves_171 (by decide) (fun c171 => ?_) (fun c171 => absurd c171 (by decide))
          refine lv_aload_n hx hb dX6_mobileMoves_176 rfl (lv_at hl 1 rfl) ?_
          refine lv_iconst (v := 0) hx hb dX6_mobileMoves_177 (by decide) ?_
          refine lv_iconst (v := 5) hx hb dX6_mobileMoves_178 (by decide) ?_
          refine lv_bipush (v := 20) hx hb dX6_mobileMoves_179 (by decide) ?_
          refine lv_bipush (v := 34) hx hb dX6_mobileMoves_181 (by decide) ?_
          refine lv_iconst (v := 4) hx hb dX6_mobileMoves_183 (by decide) ?_
          refine lv_aload_n hx hb dX6_mobileMoves_184 rfl (lv_at hl 1 rfl) ?_
          refine lv_bipush (v := 33) hx hb dX6_mobileMoves_185 (by decide) ?_
          have hV : rfV G ad ce T Q M := ⟨_, _, _, _, ⟨h100, h101, h102, h103, h104, h105, h106, h107, h108, h109, h110, h111⟩, hQ, hM⟩
          refine z_invV F (rest := [.int 4, .int 34, .int 20, .int 5, .int 0, .ref (ad 100)]) (r_number l T Q M hV hg 33 4 (by decide) hs) yv_X6_95 ⟨Nat.le_of_ble_eq_true rfl, Nat.le_of_ble_eq_true rfl⟩ hw hA hS hl h100 rfl rfl rfl (Nat.le_of_ble_eq_true rfl) dX6_mobileMoves_187 ⟨Nat.le_of_ble_eq_true rfl, Nat.le_of_ble_eq_true rfl⟩ (fun r ad1 ce17 H locs hp hw hS => ?_)
          obtain ⟨rfl, rfl, rfl⟩ := hp
          refine W.eq (g2 := F0 m 190 ls [.int (rf_val M 33), .int 4, .int 34, .int 20, .int 5, .int 0, .ref (ad 100)]) rfl ?_
          refine lv_aload_n hx hb dX6_mobileMoves_190 rfl (lv_at hl 1 rfl) ?_
          refine z_get F hw h100 fd_X6_51_X6 rfl dX6_mobileMoves_191 ?_
          refine z_invS F (rest := [.int 4, .int 34, .int 20, .int 5, .int 0, .ref (ad 100)]) (r_turned l (rf_val M 33) (T 0 0)) ys_X6_108 ⟨Nat.le_of_ble_eq_true rfl, Nat.le_of_ble_eq_true rfl⟩ hw hA hS hl rfl rfl (Nat.le_of_ble_eq_true rfl) dX6_mobileMoves_194 ⟨Nat.le_of_ble_eq_true rfl, Nat.le_of_ble_eq_true rfl⟩ (fun r ad1 ce18 H locs hp hw hS => ?_)
          obtain ⟨rfl, rfl, rfl⟩ := hp
          refine W.eq (g2 := F0 m 197 ls [.int (rf_turned (rf_val M 33) (T 0 0)), .int 4, .int 34, .int 20, .int 5, .int 0, .ref (ad 100)]) rfl ?_
          have hV : rfV G ad ce T Q M := ⟨_, _, _, _, ⟨h100, h101, h102, h103, h104, h105, h106, h107, h108, h109, h110, h111⟩, hQ, hM⟩
          refine z_invV F (rest := []) (r_tell0_4 l T Q M hV 5 20 34 (by decide) (by decide) (by decide) (rf_turned (rf_val M 33) (T 0 0))) yv_X6_112 ⟨Nat.le_of_ble_eq_true rfl, Nat.le_of_ble_eq_true rfl⟩ hw hA hS hl h100 rfl rfl rfl (Nat.le_of_ble_eq_true rfl) dX6_mobileMoves_197 ⟨Nat.le_of_ble_eq_true rfl, Nat.le_of_ble_eq_true rfl⟩ (fun r ad1 ce19 H locs hp hw hS => ?_)
          obtain ⟨rfl, rfl, hV, hF2⟩ := hp
          have hF : ∀ j, j < 100 → ce19 j = ce j := fun j hj => (hF2 j hj).trans (hF j hj)
          obtain ⟨cn, zs, bs, hh, ⟨h100, h101, h102, h103, h104, h105, h106, h107, h108, h109, h110, h111⟩, hQ, hM⟩ := hV
          refine W.eq (g2 := F0 m 200 ls []) rfl ?_
          refine lv_iconst (v := 1) hx hb dX6_mobileMoves_200 (by decide) ?_
          exact z_iret F (rfl) hw hS (by unfold sp_mobileMoves; rw [if_neg h8_2, if_neg h8_4, if_neg h8_17, if_pos h8_18, if_neg c156, if_pos c161, if_pos hs]; exact ⟨rfl, rfl, ⟨_, _, _, _, ⟨h100, h101, h102, h103, h104, h105, h106, h107, h108, h109, h110, h111⟩, hQ, hM⟩, hF⟩) dX6_mobileMoves_201
        · refine W.eq (g2 := F0 m 171 ls [.int 0]) rfl ?_
          refine lv_if_ne (tgt := 176) hx hb dX6_mobileMoves_171 (by decide) (fun c171 => absurd c171 (by decide)) (fun c171 => ?_)
          refine lv_iconst (v := 0) hx hb dX6_mobileMoves_174 (by decide) ?_
          exact z_iret F (rfl) hw hS (by unfold sp_mobileMoves; rw [if_neg h8_2, if_neg h8_4, if_neg h8_17, if_pos h8_18, if_neg c156, if_pos c161, if_neg hs]; exact ⟨rfl, rfl, ⟨_, _, _, _, ⟨h100, h101, h102, h103, h104, h105, h106, h107, h108, h109, h110, h111⟩, hQ, hM⟩, hF⟩) dX6_mobileMoves_175
  by_cases h8_33 : ty = 33
  · refine lv_lookup (tgt := 218) (off := 210) hx hb dX6_mobileMoves_8 (by decide) (by rw [h8_33]; rfl) (by decide) ?_
    refine lv_iload_n hx hb dX6_mobileMoves_218 rfl (lv_at hl 0 rfl) ?_
    refine lv_iconst (v := 4) hx hb dX6_mobileMoves_219 (by decide) ?_
    refine lv_icmp_eq (tgt := 225) hx hb dX6_mobileMoves_220 (by decide) (fun c220 => ?_) (fun c220 => ?_)
    · refine lv_aload_n hx hb dX6_mobileMoves_225 rfl (lv_at hl 1 rfl) ?_
      have hV : rfV G ad ce T Q M := ⟨_, _, _, _, ⟨h100, h101, h102, h103, h104, h105, h106, h107, h108, h109, h110, h111⟩, hQ, hM⟩
      refine z_invV F (rest := []) (r_setUp l T Q M hV d hd (by exact hdc)) yv_X6_116 ⟨Nat.le_of_ble_eq_true rfl, Nat.le_of_ble_eq_true rfl⟩ hw hA hS hl h100 rfl rfl rfl (Nat.le_of_ble_eq_true rfl) dX6_mobileMoves_226 ⟨Nat.le_of_ble_eq_true rfl, Nat.le_of_ble_eq_true rfl⟩ (fun r ad1 ce20 H locs hp hw hS => ?_)
      obtain ⟨rfl, rfl, hV, hF2⟩ := hp
      have hF : ∀ j, j < 100 → ce20 j = ce j := fun j hj => (hF2 j hj).trans (hF j hj)
      obtain ⟨cn, zs, bs, hh, ⟨h100, h101, h102, h103, h104, h105, h106, h107, h108, h109, h110, h111⟩, hQ, hM⟩ := hV
      refine W.eq (g2 := F0 m 229 ls []) rfl ?_
      refine lv_aload_n hx hb dX6_mobileMoves_229 rfl (lv_at hl 1 rfl) ?_
      refine lv_iconst (v := 0) hx hb dX6_mobileMoves_230 (by decide) ?_
      refine lv_iconst (v := 5) hx hb dX6_mobileMoves_231 (by decide) ?_
      refine lv_iconst (v := 1) hx hb dX6_mobileMoves_232 (by decide) ?_
      refine lv_bipush (v := 30) hx hb dX6_mobileMoves_233 (by decide) ?_
      have hV : rfV G ad ce20 T (rf_put T Q 0 (rf_dg T d d)) M := ⟨_, _, _, _, ⟨h100, h101, h102, h103, h104, h105, h106, h107, h108, h109, h110, h111⟩, hQ, hM⟩
      refine z_invV F (rest := []) (r_become0 l T (rf_put T Q 0 (rf_dg T d d)) M hV 5 1 30) yv_X6_83 ⟨Nat.le_of_ble_eq_true rfl, Nat.le_of_ble_eq_true rfl⟩ hw hA hS hl h100 rfl rfl rfl (Nat.le_of_ble_eq_true rfl) dX6_mobileMoves_235 ⟨Nat.le_of_ble_eq_true rfl, Nat.le_of_ble_eq_true rfl⟩ (fun r ad1 ce21 H locs hp hw hS => ?_)
      obtain ⟨rfl, rfl, hV, hF2⟩ := hp
      have hF : ∀ j, j < 100 → ce21 j = ce j := fun j hj => (hF2 j hj).trans (hF j hj)
      obtain ⟨cn, zs, bs, hh, ⟨h100, h101, h102, h103, h104, h105, h106, h107, h108, h109, h110, h111⟩, hQ, hM⟩ := hV
      refine W.eq (g2 := F0 m 238 ls []) rfl ?_
      refine lv_iconst (v := 1) hx hb dX6_mobileMoves_238 (by decide) ?_
      exact z_iret F (rfl) hw hS (by unfold sp_mobileMoves; rw [if_neg h8_2, if_neg h8_4, if_neg h8_17, if_neg h8_18, if_pos h8_33, if_pos c220]; exact ⟨rfl, rfl, ⟨_, _, _, _, ⟨h100, h101, h102, h103, h104, h105, h106, h107, h108, h109, h110, h111⟩, hQ, hM⟩, hF⟩) dX6_mobileMoves_239
    · refine lv_iconst (v := 0) hx hb dX6_mobileMoves_223 (by decide) ?_
      exact z_iret F (rfl) hw hS (by unfold sp_mobileMoves; rw [if_neg h8_2, if_neg h8_4, if_neg h8_17, if_neg h8_18, if_pos h8_33, if_neg c220]; exact ⟨rfl, rfl, ⟨_, _, _, _, ⟨h100, h101, h102, h103, h104, h105, h106, h107, h108, h109, h110, h111⟩, hQ, hM⟩, hF⟩) dX6_mobileMoves_224
  by_cases h8_34 : ty = 34
  · refine lv_lookup (tgt := 240) (off := 232) hx hb dX6_mobileMoves_8 (by decide) (by rw [h8_34]; rfl) (by decide) ?_
    refine lv_iload_n hx hb dX6_mobileMoves_240 rfl (lv_at hl 0 rfl) ?_
    refine lv_iconst (v := 4) hx hb dX6_mobileMoves_241 (by decide) ?_
    refine lv_icmp_ne (tgt := 255) hx hb dX6_mobileMoves_242 (by decide) (fun c242 => ?_) (fun c242 => ?_)
    · refine lv_iconst (v := 0) hx hb dX6_mobileMoves_255 (by decide) ?_
      exact z_iret F (rfl) hw hS (by unfold sp_mobileMoves; rw [if_neg h8_2, if_neg h8_4, if_neg h8_17, if_neg h8_18, if_neg h8_33, if_pos h8_34, if_neg c242]; exact ⟨rfl, rfl, ⟨_, _, _, _, ⟨h100, h101, h102, h103, h104, h105, h106, h107, h108, h109, h110, h111⟩, hQ, hM⟩, hF⟩) dX6_mobileMoves_256
    · refine lv_aload_n hx hb dX6_mobileMoves_245 rfl (lv_at hl 1 rfl) ?_
      refine lv_bipush (v := 8) hx hb dX6_mobileMoves_246 (by decide) ?_
      refine lv_iconst (v := 1) hx hb dX6_mobileMoves_248 (by decide) ?_
      have hV : rfV G ad ce T Q M := ⟨_, _, _, _, ⟨h100, h101, h102, h103, h104, h105, h106, h107, h108, h109, h110, h111⟩, hQ, hM⟩
      refine z_invV F (rest := []) (r_has l T Q M hV hg 8 1 (by decide) (by decide)) yv_X6_87 ⟨Nat.le_of_ble_eq_true rfl, Nat.le_of_ble_eq_true rfl⟩ hw hA hS hl h100 rfl rfl rfl (Nat.le_of_ble_eq_true rfl) dX6_mobileMoves_249 ⟨Nat.le_of_ble_eq_true rfl, Nat.le_of_ble_eq_true rfl⟩ (fun r ad1 ce22 H locs hp hw hS => ?_)
      obtain ⟨hp, rfl, rfl⟩ := hp
      rcases hp with ⟨hs, rfl⟩ | ⟨hs, rfl⟩
      · refine W.eq (g2 := F0 m 252 ls [.int 1]) rfl ?_
        refine lv_if_ne (tgt := 257) hx hb dX6_mobileMoves_252 (by decide) (fun c252 => ?_) (fun c252 => absurd c252 (by decide))
        refine lv_aload_n hx hb dX6_mobileMoves_257 rfl (lv_at hl 1 rfl) ?_
        refine z_get F hw h100 fd_X6_36_X6 rfl dX6_mobileMoves_258 ?_
        refine lv_iconst (v := 0) hx hb dX6_mobileMoves_261 (by decide) ?_
        refine lv_aload_n hx hb dX6_mobileMoves_262 rfl (lv_at hl 1 rfl) ?_
        refine lv_bipush (v := 8) hx hb dX6_mobileMoves_263 (by decide) ?_
        have hV : rfV G ad ce T Q M := ⟨_, _, _, _, ⟨h100, h101, h102, h103, h104, h105, h106, h107, h108, h109, h110, h111⟩, hQ, hM⟩
        refine z_invV F (rest := [.int 0, .ref (ad 108)]) (r_number l T Q M hV hg 8 1 (by decide) hs) yv_X6_95 ⟨Nat.le_of_ble_eq_true rfl, Nat.le_of_ble_eq_true rfl⟩ hw hA hS hl h100 rfl rfl rfl (Nat.le_of_ble_eq_true rfl) dX6_mobileMoves_265 ⟨Nat.le_of_ble_eq_true rfl, Nat.le_of_ble_eq_true rfl⟩ (fun r ad1 ce23 H locs hp hw hS => ?_)
        obtain ⟨rfl, rfl, rfl⟩ := hp
        refine W.eq (g2 := F0 m 268 ls [.int (rf_val M 8), .int 0, .ref (ad 108)]) rfl ?_
        refine z_st F hw hS h108 (0) (rfl) (by decide) (by decide) dX6_mobileMoves_268 (fun ce24 H locs h108 fr25 hw hS => ?_)
        have h100 := (fr25 100 (by decide)).trans h100
        have h101 := (fr25 101 (by decide)).trans h101
        have h102 := (fr25 102 (by decide)).trans h102
        have h103 := (fr25 103 (by decide)).trans h103
        have h104 := (fr25 104 (by decide)).trans h104
        have h105 := (fr25 105 (by decide)).trans h105
        have h106 := (fr25 106 (by decide)).trans h106
        have h107 := (fr25 107 (by decide)).trans h107
        have h109 := (fr25 109 (by decide)).trans h109
        have h110 := (fr25 110 (by decide)).trans h110
        have h111 := (fr25 111 (by decide)).trans h111
        have hF : ∀ j, j < 100 → _ = ce j := fun j hj => (fr25 j (by omega)).trans (hF j hj)
        refine lv_aload_n hx hb dX6_mobileMoves_269 rfl (lv_at hl 1 rfl) ?_
        refine lv_iconst (v := 0) hx hb dX6_mobileMoves_270 (by decide) ?_
        refine lv_iconst (v := 3) hx hb dX6_mobileMoves_271 (by decide) ?_
        refine lv_iconst (v := 0) hx hb dX6_mobileMoves_272 (by decide) ?_
        refine lv_iconst (v := 0) hx hb dX6_mobileMoves_273 (by decide) ?_
        have hV : rfV G ad ce24 (va_up T 5 (upd (T 5) 0 (rf_val M 8))) Q M := ⟨_, _, _, _, ⟨h100, h101, h102, h103, h104, h105, h106, h107, h108, h109, h110, h111⟩, hQ, hM⟩
        refine z_invV F (rest := []) (r_become0 l (va_up T 5 (upd (T 5) 0 (rf_val M 8))) Q M hV 3 0 0) yv_X6_83 ⟨Nat.le_of_ble_eq_true rfl, Nat.le_of_ble_eq_true rfl⟩ hw hA hS hl h100 rfl rfl rfl (Nat.le_of_ble_eq_true rfl) dX6_mobileMoves_274 ⟨Nat.le_of_ble_eq_true rfl, Nat.le_of_ble_eq_true rfl⟩ (fun r ad1 ce26 H locs hp hw hS => ?_)
        obtain ⟨rfl, rfl, hV, hF2⟩ := hp
        have hF : ∀ j, j < 100 → ce26 j = ce j := fun j hj => (hF2 j hj).trans (hF j hj)
        obtain ⟨cn, zs, bs, hh, ⟨h100, h101, h102, h103, h104, h105, h106, h107, h108, h109, h110, h111⟩, hQ, hM⟩ := hV
        refine W.eq (g2 := F0 m 277 ls []) rfl ?_
        refine lv_iconst (v := 1) hx hb dX6_mobileMoves_277 (by decide) ?_
        exact z_iret F (rfl) hw hS (by unfold sp_mobileMoves; rw [if_neg h8_2, if_neg h8_4, if_neg h8_17, if_neg h8_18, if_neg h8_33, if_pos h8_34, if_pos c242, if_pos hs]; exact ⟨rfl, rfl, ⟨_, _, _, _, ⟨h100, h101, h102, h103, h104, h105, h106, h107, h108, h109, h110, h111⟩, hQ, hM⟩, hF⟩) dX6_mobileMoves_278
      · refine W.eq (g2 := F0 m 252 ls [.int 0]) rfl ?_
        refine lv_if_ne (tgt := 257) hx hb dX6_mobileMoves_252 (by decide) (fun c252 => absurd c252 (by decide)) (fun c252 => ?_)
        refine lv_iconst (v := 0) hx hb dX6_mobileMoves_255 (by decide) ?_
        exact z_iret F (rfl) hw hS (by unfold sp_mobileMoves; rw [if_neg h8_2, if_neg h8_4, if_neg h8_17, if_neg h8_18, if_neg h8_33, if_pos h8_34, if_pos c242, if_neg hs]; exact ⟨rfl, rfl, ⟨_, _, _, _, ⟨h100, h101, h102, h103, h104, h105, h106, h107, h108, h109, h110, h111⟩, hQ, hM⟩, hF⟩) dX6_mobileMoves_256
  refine lv_lookup (tgt := 279) (off := 271) hx hb dX6_mobileMoves_8 (by decide) ((lv_osw (k := 2) (fun q => h8_2 (rf_ei hty (by decide) q)) rfl).trans ((lv_osw (k := 4) (fun q => h8_4 (rf_ei hty (by decide) q)) rfl).trans ((lv_osw (k := 17) (fun q => h8_17 (rf_ei hty (by decide) q)) rfl).trans ((lv_osw (k := 18) (fun q => h8_18 (rf_ei hty (by decide) q)) rfl).trans ((lv_osw (k := 33) (fun q => h8_33 (rf_ei hty (by decide) q)) rfl).trans ((lv_osw (k := 34) (fun q => h8_34 (rf_ei hty (by decide) q)) rfl).trans (rfl))))))) (by decide) ?_
  refine lv_iconst (v := 0) hx hb dX6_mobileMoves_279 (by decide) ?_
  exact z_iret F (rfl) hw hS (by unfold sp_mobileMoves; rw [if_neg h8_2, if_neg h8_4, if_neg h8_17, if_neg h8_18, if_neg h8_33, if_neg h8_34]; exact ⟨rfl, rfl, ⟨_, _, _, _, ⟨h100, h101, h102, h103, h104, h105, h106, h107, h108, h109, h110, h111⟩, hQ, hM⟩, hF⟩) dX6_mobileMoves_280
def sp_mobileCalls (T : rf_T) (Q : rf_Q) (M : List Nat) (ty : Nat) : rf_R := (if (((T 1) 0) : Int32) = 5 then (if ((nI ty) : Int32) = 2 then (if rf_inC T 0 1 1 then (1, (rf_become T 0 5 2 0), Q) else (if ((nI ty) : Int32) = 1 then (if rf_inC T 0 1 2 then (1, (rf_become T 0 5 3 0), Q) else (if ((nI ty) : Int32) = 7 then (if rf_inC T 0 1 3 then (1, (rf_become T 0 5 4 0), rf_put T Q 0 [3, 15]) else (((sp_closes T Q M 0 ty).1), ((sp_closes T Q M 0 ty).2.1), (sp_closes T Q M 0 ty).2.2)) else (((sp_closes T Q M 0 ty).1), ((sp_closes T Q M 0 ty).2.1), (sp_closes T Q M 0 ty).2.2))) else (if ((nI ty) : Int32) = 7 then (if rf_inC T 0 1 3 then (1, (rf_become T 0 5 4 0), rf_put T Q 0 [3, 15]) else (((sp_closes T Q M 0 ty).1), ((sp_closes T Q M 0 ty).2.1), (sp_closes T Q M 0 ty).2.2)) else (((sp_closes T Q M 0 ty).1), ((sp_closes T Q M 0 ty).2.1), (sp_closes T Q M 0 ty).2.2)))) else (if ((nI ty) : Int32) = 1 then (if rf_inC T 0 1 2 then (1, (rf_become T 0 5 3 0), Q) else (if ((nI ty) : Int32) = 7 then (if rf_inC T 0 1 3 then (1, (rf_become T 0 5 4 0), rf_put T Q 0 [3, 15]) else (((sp_closes T Q M 0 ty).1), ((sp_closes T Q M 0 ty).2.1), (sp_closes T Q M 0 ty).2.2)) else (((sp_closes T Q M 0 ty).1), ((sp_closes T Q M 0 ty).2.1), (sp_closes T Q M 0 ty).2.2))) else (if ((nI ty) : Int32) = 7 then (if rf_inC T 0 1 3 then (1, (rf_become T 0 5 4 0), rf_put T Q 0 [3, 15]) else (((sp_closes T Q M 0 ty).1), ((sp_closes T Q M 0 ty).2.1), (sp_closes T Q M 0 ty).2.2)) else (((sp_closes T Q M 0 ty).1), ((sp_closes T Q M 0 ty).2.1), (sp_closes T Q M 0 ty).2.2)))) else (0, T, Q))
theorem sp_mobileCalls_b (T : rf_T) (Q : rf_Q) (M : List Nat) (ty : Nat) : narrow .boolean (.int (sp_mobileCalls T Q M ty).1) = .int (sp_mobileCalls T Q M ty).1 := by unfold sp_mobileCalls; simp only [rf_if1]; (repeat' split) <;> first | rfl | exact sp_closes_b _ _ _ _ _
set_option maxHeartbeats 4000000 in
set_option maxRecDepth 100000 in
theorem r_mobileCalls (l : Launch) {G : zz_G} {ad : Nat → Nat} {ce : zz_C} {sz : Nat} (T : rf_T) (Q : rf_Q) (M : List Nat) (hV : rfV G ad ce T Q M) (hg : rf_good M) (ty : Nat) (hty : ty < 256) : zz_M l yX6_mobileCalls cX6_mobileCalls 3 (some .boolean) 3 69 0 0 G [.ref (ad 100), .int (nI ty)] ad ce sz (fun r ad1 ce1 => r = some (.int (sp_mobileCalls T Q M ty).1) ∧ ad = ad1 ∧ rfV G ad ce1 (sp_mobileCalls T Q M ty).2.1 (sp_mobileCalls T Q M ty).2.2 M ∧ (∀ j, j < 100 → ce1 j = ce j)) := by
  refine zz_enter (by decide) (Nat.le_of_ble_eq_true rfl) ?_
  intro p e s m below meth c ls F hl hw hS hA
  obtain ⟨hx, hb, hr, hml, hown, hts, hlocks, hK, hnm⟩ := id F
  have hl : lv_has ls 3 [(0, .ref (ad 100)), (1, .int (nI ty))] := hl
  obtain ⟨cn, zs, bs, hh, ⟨h100, h101, h102, h103, h104, h105, h106, h107, h108, h109, h110, h111⟩, hQ, hM⟩ := hV
  have hF : ∀ j, j < 100 → ce j = ce j := fun _ _ => rfl
  refine lv_aload_n hx hb dX6_mobileCalls_0 rfl (lv_at hl 0 rfl) ?_
  refine z_get F hw h100 fd_X6_23_X6 rfl dX6_mobileCalls_1 ?_
  refine lv_iconst (v := 0) hx hb dX6_mobileCalls_4 (by decide) ?_
  refine z_ld F hw h104 (0) (rfl) (by decide) (by decide) dX6_mobileCalls_5 ?_
  refine lv_iconst (v := 5) hx hb dX6_mobileCalls_6 (by decide) ?_
  refine lv_icmp_eq (tgt := 12) hx hb dX6_mobileCalls_7 (by decide) (fun c7 => ?_) (fun c7 => ?_)
  · refine lv_iload_n hx hb dX6_mobileCalls_12 rfl (lv_at hl 1 rfl) ?_
    refine lv_iconst (v := 2) hx hb dX6_mobileCalls_13 (by decide) ?_
    refine lv_icmp_ne (tgt := 37) hx hb dX6_mobileCalls_14 (by decide) (fun c14 => ?_) (fun c14 => ?_)
    · refine lv_iload_n hx hb dX6_mobileCalls_37 rfl (lv_at hl 1 rfl) ?_
      refine lv_iconst (v := 1) hx hb dX6_mobileCalls_38 (by decide) ?_
      refine lv_icmp_ne (tgt := 62) hx hb dX6_mobileCalls_39 (by decide) (fun c39 => ?_) (fun c39 => ?_)
      · refine lv_iload_n hx hb dX6_mobileCalls_62 rfl (lv_at hl 1 rfl) ?_
        refine lv_bipush (v := 7) hx hb dX6_mobileCalls_63 (by decide) ?_
        refine lv_icmp_ne (tgt := 97) hx hb dX6_mobileCalls_65 (by decide) (fun c65 => ?_) (fun c65 => ?_)
        · refine lv_aload_n hx hb dX6_mobileCalls_97 rfl (lv_at hl 0 rfl) ?_
          refine lv_iconst (v := 0) hx hb dX6_mobileCalls_98 (by decide) ?_
          refine lv_iload_n hx hb dX6_mobileCalls_99 rfl (lv_at hl 1 rfl) ?_
          have hV : rfV G ad ce T Q M := ⟨_, _, _, _, ⟨h100, h101, h102, h103, h104, h105, h106, h107, h108, h109, h110, h111⟩, hQ, hM⟩
          refine z_invV F (rest := []) (r_closes0 l T Q M hV hg ty hty) yv_X6_122 ⟨Nat.le_of_ble_eq_true rfl, Nat.le_of_ble_eq_true rfl⟩ hw hA hS hl h100 rfl rfl rfl (Nat.le_of_ble_eq_true rfl) dX6_mobileCalls_100 ⟨Nat.le_of_ble_eq_true rfl, Nat.le_of_ble_eq_true rfl⟩ (fun r ad1 ce1 H locs hp hw hS => ?_)
          obtain ⟨rfl, rfl, hV, hF2⟩ := hp
          have hF : ∀ j, j < 100 → ce1 j = ce j := fun j hj => (hF2 j hj).trans (hF j hj)
          obtain ⟨cn, zs, bs, hh, ⟨h100, h101, h102, h103, h104, h105, h106, h107, h108, h109, h110, h111⟩, hQ, hM⟩ := hV
          refine W.eq (g2 := F0 m 103 ls [.int ((sp_closes T Q M 0 ty).1)]) rfl ?_
          exact z_iret F (sp_closes_b _ _ _ _ _) hw hS (by unfold sp_mobileCalls; rw [if_pos c7, if_neg c14, if_neg c39, if_neg c65]; exact ⟨rfl, rfl, ⟨_, _, _, _, ⟨h100, h101, h102, h103, h104, h105, h106, h107, h108, h109, h110, h111⟩, hQ, hM⟩, hF⟩) dX6_mobileCalls_103
        · refine lv_aload_n hx hb dX6_mobileCalls_68 rfl (lv_at hl 0 rfl) ?_
          refine lv_iconst (v := 0) hx hb dX6_mobileCalls_69 (by decide) ?_
          refine lv_iconst (v := 1) hx hb dX6_mobileCalls_70 (by decide) ?_
          refine lv_iconst (v := 3) hx hb dX6_mobileCalls_71 (by decide) ?_
          have hV : rfV G ad ce T Q M := ⟨_, _, _, _, ⟨h100, h101, h102, h103, h104, h105, h106, h107, h108, h109, h110, h111⟩, hQ, hM⟩
          refine z_invV F (rest := []) (r_isCall0 l T Q M hV 1 3) yv_X6_91 ⟨Nat.le_of_ble_eq_true rfl, Nat.le_of_ble_eq_true rfl⟩ hw hA hS hl h100 rfl rfl rfl (Nat.le_of_ble_eq_true rfl) dX6_mobileCalls_72 ⟨Nat.le_of_ble_eq_true rfl, Nat.le_of_ble_eq_true rfl⟩ (fun r ad1 ce2 H locs hp hw hS => ?_)
          obtain ⟨hp, rfl, rfl⟩ := hp
          rcases hp with ⟨hc72, rfl⟩ | ⟨hc72, rfl⟩
          · refine W.eq (g2 := F0 m 75 ls [.int 1]) rfl ?_
            refine lv_if_eq (tgt := 97) hx hb dX6_mobileCalls_75 (by decide) (fun c75 => absurd c75 (by decide)) (fun c75 => ?_)
            refine lv_aload_n hx hb dX6_mobileCalls_78 rfl (lv_at hl 0 rfl) ?_
            refine lv_iconst (v := 0) hx hb dX6_mobileCalls_79 (by decide) ?_
            refine lv_iconst (v := 3) hx hb dX6_mobileCalls_80 (by decide) ?_
            refine lv_bipush (v := 15) hx hb dX6_mobileCalls_81 (by decide) ?_
            have hV : rfV G ad ce T Q M := ⟨_, _, _, _, ⟨h100, h101, h102, h103, h104, h105, h106, h107, h108, h109, h110, h111⟩, hQ, hM⟩
            refine z_invV F (rest := []) (r_put0 l T Q M hV 3 15 (by decide) (by decide)) yv_X6_64 ⟨Nat.le_of_ble_eq_true rfl, Nat.le_of_ble_eq_true rfl⟩ hw hA hS hl h100 rfl rfl rfl (Nat.le_of_ble_eq_true rfl) dX6_mobileCalls_83 ⟨Nat.le_of_ble_eq_true rfl, Nat.le_of_ble_eq_true rfl⟩ (fun r ad1 ce3 H locs hp hw hS => ?_)
            obtain ⟨rfl, rfl, hV, hF2⟩ := hp
            have hF : ∀ j, j < 100 → ce3 j = ce j := fun j hj => (hF2 j hj).trans (hF j hj)
            obtain ⟨cn, zs, bs, hh, ⟨h100, h101, h102, h103, h104, h105, h106, h107, h108, h109, h110, h111⟩, hQ, hM⟩ := hV
            refine W.eq (g2 := F0 m 86 ls [.int (rf_hd T Q 0)]) rfl ?_
            refine lv_istore_n (lv' := [(2, .int (rf_hd T Q 0)), (0, .ref (ad 100)), (1, .int (nI ty))]) hx hb dX6_mobileCalls_86 rfl hl (by decide) rfl (fun ls hl => ?_)
            refine lv_aload_n hx hb dX6_mobileCalls_87 rfl (lv_at hl 1 rfl) ?_
            refine lv_iconst (v := 0) hx hb dX6_mobileCalls_88 (by decide) ?_
            refine lv_iconst (v := 5) hx hb dX6_mobileCalls_89 (by decide) ?_
            refine lv_iconst (v := 4) hx hb dX6_mobileCalls_90 (by decide) ?_
            refine lv_iconst (v := 0) hx hb dX6_mobileCalls_91 (by decide) ?_
            have hV : rfV G ad ce3 T (rf_put T Q 0 [3, 15]) M := ⟨_, _, _, _, ⟨h100, h101, h102, h103, h104, h105, h106, h107, h108, h109, h110, h111⟩, hQ, hM⟩
            refine z_invV F (rest := []) (r_become0 l T (rf_put T Q 0 [3, 15]) M hV 5 4 0) yv_X6_83 ⟨Nat.le_of_ble_eq_true rfl, Nat.le_of_ble_eq_true rfl⟩ hw hA hS hl h100 rfl rfl rfl (Nat.le_of_ble_eq_true rfl) dX6_mobileCalls_92 ⟨Nat.le_of_ble_eq_true rfl, Nat.le_of_ble_eq_true rfl⟩ (fun r ad1 ce4 H locs hp hw hS => ?_)
            obtain ⟨rfl, rfl, hV, hF2⟩ := hp
            have hF : ∀ j, j < 100 → ce4 j = ce j := fun j hj => (hF2 j hj).trans (hF j hj)
            obtain ⟨cn, zs, bs, hh, ⟨h100, h101, h102, h103, h104, h105, h106, h107, h108, h109, h110, h111⟩, hQ, hM⟩ := hV
            refine W.eq (g2 := F0 m 95 ls []) rfl ?_
            refine lv_iconst (v := 1) hx hb dX6_mobileCalls_95 (by decide) ?_
            exact z_iret F (rfl) hw hS (by unfold sp_mobileCalls; rw [if_pos c7, if_neg c14, if_neg c39, if_pos c65, if_pos hc72]; exact ⟨rfl, rfl, ⟨_, _, _, _, ⟨h100, h101, h102, h103, h104, h105, h106, h107, h108, h109, h110, h111⟩, hQ, hM⟩, hF⟩) dX6_mobileCalls_96
          · refine W.eq (g2 := F0 m 75 ls [.int 0]) rfl ?_
            refine lv_if_eq (tgt := 97) hx hb dX6_mobileCalls_75 (by decide) (fun c75 => ?_) (fun c75 => absurd c75 (by decide))
            refine lv_aload_n hx hb dX6_mobileCalls_97 rfl (lv_at hl 0 rfl) ?_
            refine lv_iconst (v := 0) hx hb dX6_mobileCalls_98 (by decide) ?_
            refine lv_iload_n hx hb dX6_mobileCalls_99 rfl (lv_at hl 1 rfl) ?_
            have hV : rfV G ad ce T Q M := ⟨_, _, _, _, ⟨h100, h101, h102, h103, h104, h105, h106, h107, h108, h109, h110, h111⟩, hQ, hM⟩
            refine z_invV F (rest := []) (r_closes0 l T Q M hV hg ty hty) yv_X6_122 ⟨Nat.le_of_ble_eq_true rfl, Nat.le_of_ble_eq_true rfl⟩ hw hA hS hl h100 rfl rfl rfl (Nat.le_of_ble_eq_true rfl) dX6_mobileCalls_100 ⟨Nat.le_of_ble_eq_true rfl, Nat.le_of_ble_eq_true rfl⟩ (fun r ad1 ce5 H locs hp hw hS => ?_)
            obtain ⟨rfl, rfl, hV, hF2⟩ := hp
            have hF : ∀ j, j < 100 → ce5 j = ce j := fun j hj => (hF2 j hj).trans (hF j hj)
            obtain ⟨cn, zs, bs, hh, ⟨h100, h101, h102, h103, h104, h105, h106, h107, h108, h109, h110, h111⟩, hQ, hM⟩ := hV
            refine W.eq (g2 := F0 m 103 ls [.int ((sp_closes T Q M 0 ty).1)]) rfl ?_
            exact z_iret F (sp_closes_b _ _ _ _ _) hw hS (by unfold sp_mobileCalls; rw [if_pos c7, if_neg c14, if_neg c39, if_pos c65, if_neg hc72]; exact ⟨rfl, rfl, ⟨_, _, _, _, ⟨h100, h101, h102, h103, h104, h105, h106, h107, h108, h109, h110, h111⟩, hQ, hM⟩, hF⟩) dX6_mobileCalls_103
      · refine lv_aload_n hx hb dX6_mobileCalls_42 rfl (lv_at hl 0 rfl) ?_
        refine lv_iconst (v := 0) hx hb dX6_mobileCalls_43 (by decide) ?_
        refine lv_iconst (v := 1) hx hb dX6_mobileCalls_44 (by decide) ?_
        refine lv_iconst (v := 2) hx hb dX6_mobileCalls_45 (by decide) ?_
        have hV : rfV G ad ce T Q M := ⟨_, _, _, _, ⟨h100, h101, h102, h103, h104, h105, h106, h107, h108, h109, h110, h111⟩, hQ, hM⟩
        refine z_invV F (rest := []) (r_isCall0 l T Q M hV 1 2) yv_X6_91 ⟨Nat.le_of_ble_eq_true rfl, Nat.le_of_ble_eq_true rfl⟩ hw hA hS hl h100 rfl rfl rfl (Nat.le_of_ble_eq_true rfl) dX6_mobileCalls_46 ⟨Nat.le_of_ble_eq_true rfl, Nat.le_of_ble_eq_true rfl⟩ (fun r ad1 ce6 H locs hp hw hS => ?_)
        obtain ⟨hp, rfl, rfl⟩ := hp
        rcases hp with ⟨hc46, rfl⟩ | ⟨hc46, rfl⟩
        · refine W.eq (g2 := F0 m 49 ls [.int 1]) rfl ?_
          refine lv_if_eq (tgt := 62) hx hb dX6_mobileCalls_49 (by decide) (fun c49 => absurd c49 (by decide)) (fun c49 => ?_)
          refine lv_aload_n hx hb dX6_mobileCalls_52 rfl (lv_at hl 0 rfl) ?_
          refine lv_iconst (v := 0) hx hb dX6_mobileCalls_53 (by decide) ?_
          refine lv_iconst (v := 5) hx hb dX6_mobileCalls_54 (by decide) ?_
          refine lv_iconst (v := 3) hx hb dX6_mobileCalls_55 (by decide) ?_
          refine lv_iconst (v := 0) hx hb dX6_mobileCalls_56 (by decide) ?_
          have hV : rfV G ad ce T Q M := ⟨_, _, _, _, ⟨h100, h101, h102, h103, h104, h105, h106, h107, h108, h109, h110, h111⟩, hQ, hM⟩
          refine z_invV F (rest := []) (r_become0 l T Q M hV 5 3 0) yv_X6_83 ⟨Nat.le_of_ble_eq_true rfl, Nat.le_of_ble_eq_true rfl⟩ hw hA hS hl h100 rfl rfl rfl (Nat.le_of_ble_eq_true rfl) dX6_mobileCalls_57 ⟨Nat.le_of_ble_eq_true rfl, Nat.le_of_ble_eq_true rfl⟩ (fun r ad1 ce7 H locs hp hw hS => ?_)
          obtain ⟨rfl, rfl, hV, hF2⟩ := hp
          have hF : ∀ j, j < 100 → ce7 j = ce j := fun j hj => (hF2 j hj).trans (hF j hj)
          obtain ⟨cn, zs, bs, hh, ⟨h100, h101, h102, h103, h104, h105, h106, h107, h108, h109, h110, h111⟩, hQ, hM⟩ := hV
          refine W.eq (g2 := F0 m 60 ls []) rfl ?_
          refine lv_iconst (v := 1) hx hb dX6_mobileCalls_60 (by decide) ?_
          exact z_iret F (rfl) hw hS (by unfold sp_mobileCalls; rw [if_pos c7, if_neg c14, if_pos c39, if_pos hc46]; exact ⟨rfl, rfl, ⟨_, _, _, _, ⟨h100, h101, h102, h103, h104, h105, h106, h107, h108, h109, h110, h111⟩, hQ, hM⟩, hF⟩) dX6_mobileCalls_61
        · refine W.eq (g2 := F0 m 49 ls [.int 0]) rfl ?_
          refine lv_if_eq (tgt := 62) hx hb dX6_mobileCalls_49 (by decide) (fun c49 => ?_) (fun c49 => absurd c49 (by decide))
          refine lv_iload_n hx hb dX6_mobileCalls_62 rfl (lv_at hl 1 rfl) ?_
          refine lv_bipush (v := 7) hx hb dX6_mobileCalls_63 (by decide) ?_
          refine lv_icmp_ne (tgt := 97) hx hb dX6_mobileCalls_65 (by decide) (fun c65 => ?_) (fun c65 => ?_)
          · refine lv_aload_n hx hb dX6_mobileCalls_97 rfl (lv_at hl 0 rfl) ?_
            refine lv_iconst (v := 0) hx hb dX6_mobileCalls_98 (by decide) ?_
            refine lv_iload_n hx hb dX6_mobileCalls_99 rfl (lv_at hl 1 rfl) ?_
            have hV : rfV G ad ce T Q M := ⟨_, _, _, _, ⟨h100, h101, h102, h103, h104, h105, h106, h107, h108, h109, h110, h111⟩, hQ, hM⟩
            refine z_invV F (rest := []) (r_closes0 l T Q M hV hg ty hty) yv_X6_122 ⟨Nat.le_of_ble_eq_true rfl, Nat.le_of_ble_eq_true rfl⟩ hw hA hS hl h100 rfl rfl rfl (Nat.le_of_ble_eq_true rfl) dX6_mobileCalls_100 ⟨Nat.le_of_ble_eq_true rfl, Nat.le_of_ble_eq_true rfl⟩ (fun r ad1 ce8 H locs hp hw hS => ?_)
            obtain ⟨rfl, rfl, hV, hF2⟩ := hp
            have hF : ∀ j, j < 100 → ce8 j = ce j := fun j hj => (hF2 j hj).trans (hF j hj)
            obtain ⟨cn, zs, bs, hh, ⟨h100, h101, h102, h103, h104, h105, h106, h107, h108, h109, h110, h111⟩, hQ, hM⟩ := hV
            refine W.eq (g2 := F0 m 103 ls [.int ((sp_closes T Q M 0 ty).1)]) rfl ?_
            exact z_iret F (sp_closes_b _ _ _ _ _) hw hS (by unfold sp_mobileCalls; rw [if_pos c7, if_neg c14, if_pos c39, if_neg hc46, if_neg c65]; exact ⟨rfl, rfl, ⟨_, _, _, _, ⟨h100, h101, h102, h103, h104, h105, h106, h107, h108, h109, h110, h111⟩, hQ, hM⟩, hF⟩) dX6_mobileCalls_103
          · refine lv_aload_n hx hb dX6_mobileCalls_68 rfl (lv_at hl 0 rfl) ?_
            refine lv_iconst (v := 0) hx hb dX6_mobileCalls_69 (by decide) ?_
            refine lv_iconst (v := 1) hx hb dX6_mobileCalls_70 (by decide) ?_
            refine lv_iconst (v := 3) hx hb dX6_mobileCalls_71 (by decide) ?_
            have hV : rfV G ad ce T Q M := ⟨_, _, _, _, ⟨h100, h101, h102, h103, h104, h105, h106, h107, h108, h109, h110, h111⟩, hQ, hM⟩
            refine z_invV F (rest := []) (r_isCall0 l T Q M hV 1 3) yv_X6_91 ⟨Nat.le_of_ble_eq_true rfl, Nat.le_of_ble_eq_true rfl⟩ hw hA hS hl h100 rfl rfl rfl (Nat.le_of_ble_eq_true rfl) dX6_mobileCalls_72 ⟨Nat.le_of_ble_eq_true rfl, Nat.le_of_ble_eq_true rfl⟩ (fun r ad1 ce9 H locs hp hw hS => ?_)
            obtain ⟨hp, rfl, rfl⟩ := hp
            rcases hp with ⟨hc72, rfl⟩ | ⟨hc72, rfl⟩
            · refine W.eq (g2 := F0 m 75 ls [.int 1]) rfl ?_
              refine lv_if_eq (tgt := 97) hx hb dX6_mobileCalls_75 (by decide) (fun c75 => absurd c75 (by decide)) (fun c75 => ?_)
              refine lv_aload_n hx hb dX6_mobileCalls_78 rfl (lv_at hl 0 rfl) ?_
              refine lv_iconst (v := 0) hx hb dX6_mobileCalls_79 (by decide) ?_
              refine lv_iconst (v := 3) hx hb dX6_mobileCalls_80 (by decide) ?_
              refine lv_bipush (v := 15) hx hb dX6_mobileCalls_81 (by decide) ?_
              have hV : rfV G ad ce T Q M := ⟨_, _, _, _, ⟨h100, h101, h102, h103, h104, h105, h106, h107, h108, h109, h110, h111⟩, hQ, hM⟩
              refine z_invV F (rest := []) (r_put0 l T Q M hV 3 15 (by decide) (by decide)) yv_X6_64 ⟨Nat.le_of_ble_eq_true rfl, Nat.le_of_ble_eq_true rfl⟩ hw hA hS hl h100 rfl rfl rfl (Nat.le_of_ble_eq_true rfl) dX6_mobileCalls_83 ⟨Nat.le_of_ble_eq_true rfl, Nat.le_of_ble_eq_true rfl⟩ (fun r ad1 ce10 H locs hp hw hS => ?_)
              obtain ⟨rfl, rfl, hV, hF2⟩ := hp
              have hF : ∀ j, j < 100 → ce10 j = ce j := fun j hj => (hF2 j hj).trans (hF j hj)
              obtain ⟨cn, zs, bs, hh, ⟨h100, h101, h102, h103, h104, h105, h106, h107, h108, h109, h110, h111⟩, hQ, hM⟩ := hV
              refine W.eq (g2 := F0 m 86 ls [.int (rf_hd T Q 0)]) rfl ?_
              refine lv_istore_n (lv' := [(2, .int (rf_hd T Q 0)), (0, .ref (ad 100)), (1, .int (nI ty))]) hx hb dX6_mobileCalls_86 rfl hl (by decide) rfl (fun ls hl => ?_)
              refine lv_aload_n hx hb dX6_mobileCalls_87 rfl (lv_at hl 1 rfl) ?_
              refine lv_iconst (v := 0) hx hb dX6_mobileCalls_88 (by decide) ?_
              refine lv_iconst (v := 5) hx hb dX6_mobileCalls_89 (by decide) ?_
              refine lv_iconst (v := 4) hx hb dX6_mobileCalls_90 (by decide) ?_
              refine lv_iconst (v := 0) hx hb dX6_mobileCalls_91 (by decide) ?_
              have hV : rfV G ad ce10 T (rf_put T Q 0 [3, 15]) M := ⟨_, _, _, _, ⟨h100, h101, h102, h103, h104, h105, h106, h107, h108, h109, h110, h111⟩, hQ, hM⟩
              refine z_invV F (rest := []) (r_become0 l T (rf_put T Q 0 [3, 15]) M hV 5 4 0) yv_X6_83 ⟨Nat.le_of_ble_eq_true rfl, Nat.le_of_ble_eq_true rfl⟩ hw hA hS hl h100 rfl rfl rfl (Nat.le_of_ble_eq_true rfl) dX6_mobileCalls_92 ⟨Nat.le_of_ble_eq_true rfl, Nat.le_of_ble_eq_true rfl⟩ (fun r ad1 ce11 H locs hp hw hS => ?_)
              obtain ⟨rfl, rfl, hV, hF2⟩ := hp
              have hF : ∀ j, j < 100 → ce11 j = ce j := fun j hj => (hF2 j hj).trans (hF j hj)
              obtain ⟨cn, zs, bs, hh, ⟨h100, h101, h102, h103, h104, h105, h106, h107, h108, h109, h110, h111⟩, hQ, hM⟩ := hV
              refine W.eq (g2 := F0 m 95 ls []) rfl ?_
              refine lv_iconst (v := 1) hx hb dX6_mobileCalls_95 (by decide) ?_
              exact z_iret F (rfl) hw hS (by unfold sp_mobileCalls; rw [if_pos c7, if_neg c14, if_pos c39, if_neg hc46, if_pos c65, if_pos hc72]; exact ⟨rfl, rfl, ⟨_, _, _, _, ⟨h100, h101, h102, h103, h104, h105, h106, h107, h108, h109, h110, h111⟩, hQ, hM⟩, hF⟩) dX6_mobileCalls_96
            · refine W.eq (g2 := F0 m 75 ls [.int 0]) rfl ?_
              refine lv_if_eq (tgt := 97) hx hb dX6_mobileCalls_75 (by decide) (fun c75 => ?_) (fun c75 => absurd c75 (by decide))
              refine lv_aload_n hx hb dX6_mobileCalls_97 rfl (lv_at hl 0 rfl) ?_
              refine lv_iconst (v := 0) hx hb dX6_mobileCalls_98 (by decide) ?_
              refine lv_iload_n hx hb dX6_mobileCalls_99 rfl (lv_at hl 1 rfl) ?_
              have hV : rfV G ad ce T Q M := ⟨_, _, _, _, ⟨h100, h101, h102, h103, h104, h105, h106, h107, h108, h109, h110, h111⟩, hQ, hM⟩
              refine z_invV F (rest := []) (r_closes0 l T Q M hV hg ty hty) yv_X6_122 ⟨Nat.le_of_ble_eq_true rfl, Nat.le_of_ble_eq_true rfl⟩ hw hA hS hl h100 rfl rfl rfl (Nat.le_of_ble_eq_true rfl) dX6_mobileCalls_100 ⟨Nat.le_of_ble_eq_true rfl, Nat.le_of_ble_eq_true rfl⟩ (fun r ad1 ce12 H locs hp hw hS => ?_)
              obtain ⟨rfl, rfl, hV, hF2⟩ := hp
              have hF : ∀ j, j < 100 → ce12 j = ce j := fun j hj => (hF2 j hj).trans (hF j hj)
              obtain ⟨cn, zs, bs, hh, ⟨h100, h101, h102, h103, h104, h105, h106, h107, h108, h109, h110, h111⟩, hQ, hM⟩ := hV
              refine W.eq (g2 := F0 m 103 ls [.int ((sp_closes T Q M 0 ty).1)]) rfl ?_
              exact z_iret F (sp_closes_b _ _ _ _ _) hw hS (by unfold sp_mobileCalls; rw [if_pos c7, if_neg c14, if_pos c39, if_neg hc46, if_pos c65, if_neg hc72]; exact ⟨rfl, rfl, ⟨_, _, _, _, ⟨h100, h101, h102, h103, h104, h105, h106, h107, h108, h109, h110, h111⟩, hQ, hM⟩, hF⟩) dX6_mobileCalls_103
    · refine lv_aload_n hx hb dX6_mobileCalls_17 rfl (lv_at hl 0 rfl) ?_
      refine lv_iconst (v := 0) hx hb dX6_mobileCalls_18 (by decide) ?_
      refine lv_iconst (v := 1) hx hb dX6_mobileCalls_19 (by decide) ?_
      refine lv_iconst (v := 1) hx hb dX6_mobileCalls_20 (by decide) ?_
      have hV : rfV G ad ce T Q M := ⟨_, _, _, _, ⟨h100, h101, h102, h103, h104, h105, h106, h107, h108, h109, h110, h111⟩, hQ, hM⟩
      refine z_invV F (rest := []) (r_isCall0 l T Q M hV 1 1) yv_X6_91 ⟨Nat.le_of_ble_eq_true rfl, Nat.le_of_ble_eq_true rfl⟩ hw hA hS hl h100 rfl rfl rfl (Nat.le_of_ble_eq_true rfl) dX6_mobileCalls_21 ⟨Nat.le_of_ble_eq_true rfl, Nat.le_of_ble_eq_true rfl⟩ (fun r ad1 ce13 H locs hp hw hS => ?_)
      obtain ⟨hp, rfl, rfl⟩ := hp
      rcases hp with ⟨hc21, rfl⟩ | ⟨hc21, rfl⟩
      · refine W.eq (g2 := F0 m 24 ls [.int 1]) rfl ?_
        refine lv_if_eq (tgt := 37) hx hb dX6_mobileCalls_24 (by decide) (fun c24 => absurd c24 (by decide)) (fun c24 => ?_)
        refine lv_aload_n hx hb dX6_mobileCalls_27 rfl (lv_at hl 0 rfl) ?_
        refine lv_iconst (v := 0) hx hb dX6_mobileCalls_28 (by decide) ?_
        refine lv_iconst (v := 5) hx hb dX6_mobileCalls_29 (by decide) ?_
        refine lv_iconst (v := 2) hx hb dX6_mobileCalls_30 (by decide) ?_
        refine lv_iconst (v := 0) hx hb dX6_mobileCalls_31 (by decide) ?_
        have hV : rfV G ad ce T Q M := ⟨_, _, _, _, ⟨h100, h101, h102, h103, h104, h105, h106, h107, h108, h109, h110, h111⟩, hQ, hM⟩
        refine z_invV F (rest := []) (r_become0 l T Q M hV 5 2 0) yv_X6_83 ⟨Nat.le_of_ble_eq_true rfl, Nat.le_of_ble_eq_true rfl⟩ hw hA hS hl h100 rfl rfl rfl (Nat.le_of_ble_eq_true rfl) dX6_mobileCalls_32 ⟨Nat.le_of_ble_eq_true rfl, Nat.le_of_ble_eq_true rfl⟩ (fun r ad1 ce14 H locs hp hw hS => ?_)
        obtain ⟨rfl, rfl, hV, hF2⟩ := hp
        have hF : ∀ j, j < 100 → ce14 j = ce j := fun j hj => (hF2 j hj).trans (hF j hj)
        obtain ⟨cn, zs, bs, hh, ⟨h100, h101, h102, h103, h104, h105, h106, h107, h108, h109, h110, h111⟩, hQ, hM⟩ := hV
        refine W.eq (g2 := F0 m 35 ls []) rfl ?_
        refine lv_iconst (v := 1) hx hb dX6_mobileCalls_35 (by decide) ?_
        exact z_iret F (rfl) hw hS (by unfold sp_mobileCalls; rw [if_pos c7, if_pos c14, if_pos hc21]; exact ⟨rfl, rfl, ⟨_, _, _, _, ⟨h100, h101, h102, h103, h104, h105, h106, h107, h108, h109, h110, h111⟩, hQ, hM⟩, hF⟩) dX6_mobileCalls_36
      · refine W.eq (g2 := F0 m 24 ls [.int 0]) rfl ?_
        refine lv_if_eq (tgt := 37) hx hb dX6_mobileCalls_24 (by decide) (fun c24 => ?_) (fun c24 => absurd c24 (by decide))
        refine lv_iload_n hx hb dX6_mobileCalls_37 rfl (lv_at hl 1 rfl) ?_
        refine lv_iconst (v := 1) hx hb dX6_mobileCalls_38 (by decide) ?_
        refine lv_icmp_ne (tgt := 62) hx hb dX6_mobileCalls_39 (by decide) (fun c39 => ?_) (fun c39 => ?_)
        · refine lv_iload_n hx hb dX6_mobileCalls_62 rfl (lv_at hl 1 rfl) ?_
          refine lv_bipush (v := 7) hx hb dX6_mobileCalls_63 (by decide) ?_
          refine lv_icmp_ne (tgt := 97) hx hb dX6_mobileCalls_65 (by decide) (fun c65 => ?_) (fun c65 => ?_)
          · refine lv_aload_n hx hb dX6_mobileCalls_97 rfl (lv_at hl 0 rfl) ?_
            refine lv_iconst (v := 0) hx hb dX6_mobileCalls_98 (by decide) ?_
            refine lv_iload_n hx hb dX6_mobileCalls_99 rfl (lv_at hl 1 rfl) ?_
            have hV : rfV G ad ce T Q M := ⟨_, _, _, _, ⟨h100, h101, h102, h103, h104, h105, h106, h107, h108, h109, h110, h111⟩, hQ, hM⟩
            refine z_invV F (rest := []) (r_closes0 l T Q M hV hg ty hty) yv_X6_122 ⟨Nat.le_of_ble_eq_true rfl, Nat.le_of_ble_eq_true rfl⟩ hw hA hS hl h100 rfl rfl rfl (Nat.le_of_ble_eq_true rfl) dX6_mobileCalls_100 ⟨Nat.le_of_ble_eq_true rfl, Nat.le_of_ble_eq_true rfl⟩ (fun r ad1 ce15 H locs hp hw hS => ?_)
            obtain ⟨rfl, rfl, hV, hF2⟩ := hp
            have hF : ∀ j, j < 100 → ce15 j = ce j := fun j hj => (hF2 j hj).trans (hF j hj)
            obtain ⟨cn, zs, bs, hh, ⟨h100, h101, h102, h103, h104, h105, h106, h107, h108, h109, h110, h111⟩, hQ, hM⟩ := hV
            refine W.eq (g2 := F0 m 103 ls [.int ((sp_closes T Q M 0 ty).1)]) rfl ?_
            exact z_iret F (sp_closes_b _ _ _ _ _) hw hS (by unfold sp_mobileCalls; rw [if_pos c7, if_pos c14, if_neg hc21, if_neg c39, if_neg c65]; exact ⟨rfl, rfl, ⟨_, _, _, _, ⟨h100, h101, h102, h103, h104, h105, h106, h107, h108, h109, h110, h111⟩, hQ, hM⟩, hF⟩) dX6_mobileCalls_103
          · refine lv_aload_n hx hb dX6_mobileCalls_68 rfl (lv_at hl 0 rfl) ?_
            refine lv_iconst (v := 0) hx hb dX6_mobileCalls_69 (by decide) ?_
            refine lv_iconst (v := 1) hx hb dX6_mobileCalls_70 (by decide) ?_
            refine lv_iconst (v := 3) hx hb dX6_mobileCalls_71 (by decide) ?_
            have hV : rfV G ad ce T Q M := ⟨_, _, _, _, ⟨h100, h101, h102, h103, h104, h105, h106, h107, h108, h109, h110, h111⟩, hQ, hM⟩
            refine z_invV F (rest := []) (r_isCall0 l T Q M hV 1 3) yv_X6_91 ⟨Nat.le_of_ble_eq_true rfl, Nat.le_of_ble_eq_true rfl⟩ hw hA hS hl h100 rfl rfl rfl (Nat.le_of_ble_eq_true rfl) dX6_mobileCalls_72 ⟨Nat.le_of_ble_eq_true rfl, Nat.le_of_ble_eq_true rfl⟩ (fun r ad1 ce16 H locs hp hw hS => ?_)
            obtain ⟨hp, rfl, rfl⟩ := hp
            rcases hp with ⟨hc72, rfl⟩ | ⟨hc72, rfl⟩
            · refine W.eq (g2 := F0 m 75 ls [.int 1]) rfl ?_
              refine lv_if_eq (tgt := 97) hx hb dX6_mobileCalls_75 (by decide) (fun c75 => absurd c75 (by decide)) (fun c75 => ?_)
              refine lv_aload_n hx hb dX6_mobileCalls_78 rfl (lv_at hl 0 rfl) ?_
              refine lv_iconst (v := 0) hx hb dX6_mobileCalls_79 (by decide) ?_
              refine lv_iconst (v := 3) hx hb dX6_mobileCalls_80 (by decide) ?_
              refine lv_bipush (v := 15) hx hb dX6_mobileCalls_81 (by decide) ?_
              have hV : rfV G ad ce T Q M := ⟨_, _, _, _, ⟨h100, h101, h102, h103, h104, h105, h106, h107, h108, h109, h110, h111⟩, hQ, hM⟩
              refine z_invV F (rest := []) (r_put0 l T Q M hV 3 15 (by decide) (by decide)) yv_X6_64 ⟨Nat.le_of_ble_eq_true rfl, Nat.le_of_ble_eq_true rfl⟩ hw hA hS hl h100 rfl rfl rfl (Nat.le_of_ble_eq_true rfl) dX6_mobileCalls_83 ⟨Nat.le_of_ble_eq_true rfl, Nat.le_of_ble_eq_true rfl⟩ (fun r ad1 ce17 H locs hp hw hS => ?_)
              obtain ⟨rfl, rfl, hV, hF2⟩ := hp
              have hF : ∀ j, j < 100 → ce17 j = ce j := fun j hj => (hF2 j hj).trans (hF j hj)
              obtain ⟨cn, zs, bs, hh, ⟨h100, h101, h102, h103, h104, h105, h106, h107, h108, h109, h110, h111⟩, hQ, hM⟩ := hV
              refine W.eq (g2 := F0 m 86 ls [.int (rf_hd T Q 0)]) rfl ?_
              refine lv_istore_n (lv' := [(2, .int (rf_hd T Q 0)), (0, .ref (ad 100)), (1, .int (nI ty))]) hx hb dX6_mobileCalls_86 rfl hl (by decide) rfl (fun ls hl => ?_)
              refine lv_aload_n hx hb dX6_mobileCalls_87 rfl (lv_at hl 1 rfl) ?_
              refine lv_iconst (v := 0) hx hb dX6_mobileCalls_88 (by decide) ?_
              refine lv_iconst (v := 5) hx hb dX6_mobileCalls_89 (by decide) ?_
              refine lv_iconst (v := 4) hx hb dX6_mobileCalls_90 (by decide) ?_
              refine lv_iconst (v := 0) hx hb dX6_mobileCalls_91 (by decide) ?_
              have hV : rfV G ad ce17 T (rf_put T Q 0 [3, 15]) M := ⟨_, _, _, _, ⟨h100, h101, h102, h103, h104, h105, h106, h107, h108, h109, h110, h111⟩, hQ, hM⟩
              refine z_invV F (rest := []) (r_become0 l T (rf_put T Q 0 [3, 15]) M hV 5 4 0) yv_X6_83 ⟨Nat.le_of_ble_eq_true rfl, Nat.le_of_ble_eq_true rfl⟩ hw hA hS hl h100 rfl rfl rfl (Nat.le_of_ble_eq_true rfl) dX6_mobileCalls_92 ⟨Nat.le_of_ble_eq_true rfl, Nat.le_of_ble_eq_true rfl⟩ (fun r ad1 ce18 H locs hp hw hS => ?_)
              obtain ⟨rfl, rfl, hV, hF2⟩ := hp
              have hF : ∀ j, j < 100 → ce18 j = ce j := fun j hj => (hF2 j hj).trans (hF j hj)
              obtain ⟨cn, zs, bs, hh, ⟨h100, h101, h102, h103, h104, h105, h106, h107, h108, h109, h110, h111⟩, hQ, hM⟩ := hV
              refine W.eq (g2 := F0 m 95 ls []) rfl ?_
              refine lv_iconst (v := 1) hx hb dX6_mobileCalls_95 (by decide) ?_
              exact z_iret F (rfl) hw hS (by unfold sp_mobileCalls; rw [if_pos c7, if_pos c14, if_neg hc21, if_neg c39, if_pos c65, if_pos hc72]; exact ⟨rfl, rfl, ⟨_, _, _, _, ⟨h100, h101, h102, h103, h104, h105, h106, h107, h108, h109, h110, h111⟩, hQ, hM⟩, hF⟩) dX6_mobileCalls_96
            · refine W.eq (g2 := F0 m 75 ls [.int 0]) rfl ?_
              refine lv_if_eq (tgt := 97) hx hb dX6_mobileCalls_75 (by decide) (fun c75 => ?_) (fun c75 => absurd c75 (by decide))
              refine lv_aload_n hx hb dX6_mobileCalls_97 rfl (lv_at hl 0 rfl) ?_
              refine lv_iconst (v := 0) hx hb dX6_mobileCalls_98 (by decide) ?_
              refine lv_iload_n hx hb dX6_mobileCalls_99 rfl (lv_at hl 1 rfl) ?_
              have hV : rfV G ad ce T Q M := ⟨_, _, _, _, ⟨h100, h101, h102, h103, h104, h105, h106, h107, h108, h109, h110, h111⟩, hQ, hM⟩
              refine z_invV F (rest := []) (r_closes0 l T Q M hV hg ty hty) yv_X6_122 ⟨Nat.le_of_ble_eq_true rfl, Nat.le_of_ble_eq_true rfl⟩ hw hA hS hl h100 rfl rfl rfl (Nat.le_of_ble_eq_true rfl) dX6_mobileCalls_100 ⟨Nat.le_of_ble_eq_true rfl, Nat.le_of_ble_eq_true rfl⟩ (fun r ad1 ce19 H locs hp hw hS => ?_)
              obtain ⟨rfl, rfl, hV, hF2⟩ := hp
              have hF : ∀ j, j < 100 → ce19 j = ce j := fun j hj => (hF2 j hj).trans (hF j hj)
              obtain ⟨cn, zs, bs, hh, ⟨h100, h101, h102, h103, h104, h105, h106, h107, h108, h109, h110, h111⟩, hQ, hM⟩ := hV
              refine W.eq (g2 := F0 m 103 ls [.int ((sp_closes T Q M 0 ty).1)]) rfl ?_
              exact z_iret F (sp_closes_b _ _ _ _ _) hw hS (by unfold sp_mobileCalls; rw [if_pos c7, if_pos c14, if_neg hc21, if_neg c39, if_pos c65, if_neg hc72]; exact ⟨rfl, rfl, ⟨_, _, _, _, ⟨h100, h101, h102, h103, h104, h105, h106, h107, h108, h109, h110, h111⟩, hQ, hM⟩, hF⟩) dX6_mobileCalls_103
        · refine lv_aload_n hx hb dX6_mobileCalls_42 rfl (lv_at hl 0 rfl) ?_
          refine lv_iconst (v := 0) hx hb dX6_mobileCalls_43 (by decide) ?_
          refine lv_iconst (v := 1) hx hb dX6_mobileCalls_44 (by decide) ?_
          refine lv_iconst (v := 2) hx hb dX6_mobileCalls_45 (by decide) ?_
          have hV : rfV G ad ce T Q M := ⟨_, _, _, _, ⟨h100, h101, h102, h103, h104, h105, h106, h107, h108, h109, h110, h111⟩, hQ, hM⟩
          refine z_invV F (rest := []) (r_isCall0 l T Q M hV 1 2) yv_X6_91 ⟨Nat.le_of_ble_eq_true rfl, Nat.le_of_ble_eq_true rfl⟩ hw hA hS hl h100 rfl rfl rfl (Nat.le_of_ble_eq_true rfl) dX6_mobileCalls_46 ⟨Nat.le_of_ble_eq_true rfl, Nat.le_of_ble_eq_true rfl⟩ (fun r ad1 ce20 H locs hp hw hS => ?_)
          obtain ⟨hp, rfl, rfl⟩ := hp
          rcases hp with ⟨hc46, rfl⟩ | ⟨hc46, rfl⟩
          · refine W.eq (g2 := F0 m 49 ls [.int 1]) rfl ?_
            refine lv_if_eq (tgt := 62) hx hb dX6_mobileCalls_49 (by decide) (fun c49 => absurd c49 (by decide)) (fun c49 => ?_)
            refine lv_aload_n hx hb dX6_mobileCalls_52 rfl (lv_at hl 0 rfl) ?_
            refine lv_iconst (v := 0) hx hb dX6_mobileCalls_53 (by decide) ?_
            refine lv_iconst (v := 5) hx hb dX6_mobileCalls_54 (by decide) ?_
            refine lv_iconst (v := 3) hx hb dX6_mobileCalls_55 (by decide) ?_
            refine lv_iconst (v := 0) hx hb dX6_mobileCalls_56 (by decide) ?_
            have hV : rfV G ad ce T Q M := ⟨_, _, _, _, ⟨h100, h101, h102, h103, h104, h105, h106, h107, h108, h109, h110, h111⟩, hQ, hM⟩
            refine z_invV F (rest := []) (r_become0 l T Q M hV 5 3 0) yv_X6_83 ⟨Nat.le_of_ble_eq_true rfl, Nat.le_of_ble_eq_true rfl⟩ hw hA hS hl h100 rfl rfl rfl (Nat.le_of_ble_eq_true rfl) dX6_mobileCalls_57 ⟨Nat.le_of_ble_eq_true rfl, Nat.le_of_ble_eq_true rfl⟩ (fun r ad1 ce21 H locs hp hw hS => ?_)
            obtain ⟨rfl, rfl, hV, hF2⟩ := hp
            have hF : ∀ j, j < 100 → ce21 j = ce j := fun j hj => (hF2 j hj).trans (hF j hj)
            obtain ⟨cn, zs, bs, hh, ⟨h100, h101, h102, h103, h104, h105, h106, h107, h108, h109, h110, h111⟩, hQ, hM⟩ := hV
            refine W.eq (g2 := F0 m 60 ls []) rfl ?_
            refine lv_iconst (v := 1) hx hb dX6_mobileCalls_60 (by decide) ?_
            exact z_iret F (rfl) hw hS (by unfold sp_mobileCalls; rw [if_pos c7, if_pos c14, if_neg hc21, if_pos c39, if_pos hc46]; exact ⟨rfl, rfl, ⟨_, _, _, _, ⟨h100, h101, h102, h103, h104, h105, h106, h107, h108, h109, h110, h111⟩, hQ, hM⟩, hF⟩) dX6_mobileCalls_61
          · refine W.eq (g2 := F0 m 49 ls [.int 0]) rfl ?_
            refine lv_if_eq (tgt := 62) hx hb dX6_mobileCalls_49 (by decide) (fun c49 => ?_) (fun c49 => absurd c49 (by decide))
            refine lv_iload_n hx hb dX6_mobileCalls_62 rfl (lv_at hl 1 rfl) ?_
            refine lv_bipush (v := 7) hx hb dX6_mobileCalls_63 (by decide) ?_
            refine lv_icmp_ne (tgt := 97) hx hb dX6_mobileCalls_65 (by decide) (fun c65 => ?_) (fun c65 => ?_)
            · refine lv_aload_n hx hb dX6_mobileCalls_97 rfl (lv_at hl 0 rfl) ?_
              refine lv_iconst (v := 0) hx hb dX6_mobileCalls_98 (by decide) ?_
              refine lv_iload_n hx hb dX6_mobileCalls_99 rfl (lv_at hl 1 rfl) ?_
              have hV : rfV G ad ce T Q M := ⟨_, _, _, _, ⟨h100, h101, h102, h103, h104, h105, h106, h107, h108, h109, h110, h111⟩, hQ, hM⟩
              refine z_invV F (rest := []) (r_closes0 l T Q M hV hg ty hty) yv_X6_122 ⟨Nat.le_of_ble_eq_true rfl, Nat.le_of_ble_eq_true rfl⟩ hw hA hS hl h100 rfl rfl rfl (Nat.le_of_ble_eq_true rfl) dX6_mobileCalls_100 ⟨Nat.le_of_ble_eq_true rfl, Nat.le_of_ble_eq_true rfl⟩ (fun r ad1 ce22 H locs hp hw hS => ?_)
              obtain ⟨rfl, rfl, hV, hF2⟩ := hp
              have hF : ∀ j, j < 100 → ce22 j = ce j := fun j hj => (hF2 j hj).trans (hF j hj)
              obtain ⟨cn, zs, bs, hh, ⟨h100, h101, h102, h103, h104, h105, h106, h107, h108, h109, h110, h111⟩, hQ, hM⟩ := hV
              refine W.eq (g2 := F0 m 103 ls [.int ((sp_closes T Q M 0 ty).1)]) rfl ?_
              exact z_iret F (sp_closes_b _ _ _ _ _) hw hS (by unfold sp_mobileCalls; rw [if_pos c7, if_pos c14, if_neg hc21, if_pos c39, if_neg hc46, if_neg c65]; exact ⟨rfl, rfl, ⟨_, _, _, _, ⟨h100, h101, h102, h103, h104, h105, h106, h107, h108, h109, h110, h111⟩, hQ, hM⟩, hF⟩) dX6_mobileCalls_103
            · refine lv_aload_n hx hb dX6_mobileCalls_68 rfl (lv_at hl 0 rfl) ?_
              refine lv_iconst (v := 0) hx hb dX6_mobileCalls_69 (by decide) ?_
              refine lv_iconst (v := 1) hx hb dX6_mobileCalls_70 (by decide) ?_
              refine lv_iconst (v := 3) hx hb dX6_mobileCalls_71 (by decide) ?_
              have hV : rfV G ad ce T Q M := ⟨_, _, _, _, ⟨h100, h101, h102, h103, h104, h105, h106, h107, h108, h109, h110, h111⟩, hQ, hM⟩
              refine z_invV F (rest := []) (r_isCall0 l T Q M hV 1 3) yv_X6_91 ⟨Nat.le_of_ble_eq_true rfl, Nat.le_of_ble_eq_true rfl⟩ hw hA hS hl h100 rfl rfl rfl (Nat.le_of_ble_eq_true rfl) dX6_mobileCalls_72 ⟨Nat.le_of_ble_eq_true rfl, Nat.le_of_ble_eq_true rfl⟩ (fun r ad1 ce23 H locs hp hw hS => ?_)
              obtain ⟨hp, rfl, rfl⟩ := hp
              rcases hp with ⟨hc72, rfl⟩ | ⟨hc72, rfl⟩
              · refine W.eq (g2 := F0 m 75 ls [.int 1]) rfl ?_
                refine lv_if_eq (tgt := 97) hx hb dX6_mobileCalls_75 (by decide) (fun c75 => absurd c75 (by decide)) (fun c75 => ?_)
                refine lv_aload_n hx hb dX6_mobileCalls_78 rfl (lv_at hl 0 rfl) ?_
                refine lv_iconst (v := 0) hx hb dX6_mobileCalls_79 (by decide) ?_
                refine lv_iconst (v := 3) hx hb dX6_mobileCalls_80 (by decide) ?_
                refine lv_bipush (v := 15) hx hb dX6_mobileCalls_81 (by decide) ?_
                have hV : rfV G ad ce T Q M := ⟨_, _, _, _, ⟨h100, h101, h102, h103, h104, h105, h106, h107, h108, h109, h110, h111⟩, hQ, hM⟩
                refine z_invV F (rest := []) (r_put0 l T Q M hV 3 15 (by decide) (by decide)) yv_X6_64 ⟨Nat.le_of_ble_eq_true rfl, Nat.le_of_ble_eq_true rfl⟩ hw hA hS hl h100 rfl rfl rfl (Nat.le_of_ble_eq_true rfl) dX6_mobileCalls_83 ⟨Nat.le_of_ble_eq_true rfl, Nat.le_of_ble_eq_true rfl⟩ (fun r ad1 ce24 H locs hp hw hS => ?_)
                obtain ⟨rfl, rfl, hV, hF2⟩ := hp
                have hF : ∀ j, j < 100 → ce24 j = ce j := fun j hj => (hF2 j hj).trans (hF j hj)
                obtain ⟨cn, zs, bs, hh, ⟨h100, h101, h102, h103, h104, h105, h106, h107, h108, h109, h110, h111⟩, hQ, hM⟩ := hV
                refine W.eq (g2 := F0 m 86 ls [.int (rf_hd T Q 0)]) rfl ?_
                refine lv_istore_n (lv' := [(2, .int (rf_hd T Q 0)), (0, .ref (ad 100)), (1, .int (nI ty))]) hx hb dX6_mobileCalls_86 rfl hl (by decide) rfl (fun ls hl => ?_)
                refine lv_aload_n hx hb dX6_mobileCalls_87 rfl (lv_at hl 1 rfl) ?_
                refine lv_iconst (v := 0) hx hb dX6_mobileCalls_88 (by decide) ?_
                refine lv_iconst (v := 5) hx hb dX6_mobileCalls_89 (by decide) ?_
                refine lv_iconst (v := 4) hx hb dX6_mobileCalls_90 (by decide) ?_
                refine lv_iconst (v := 0) hx hb dX6_mobileCalls_91 (by decide) ?_
                have hV : rfV G ad ce24 T (rf_put T Q 0 [3, 15]) M := ⟨_, _, _, _, ⟨h100, h101, h102, h103, h104, h105, h106, h107, h108, h109, h110, h111⟩, hQ, hM⟩
                refine z_invV F (rest := []) (r_become0 l T (rf_put T Q 0 [3, 15]) M hV 5 4 0) yv_X6_83 ⟨Nat.le_of_ble_eq_true rfl, Nat.le_of_ble_eq_true rfl⟩ hw hA hS hl h100 rfl rfl rfl (Nat.le_of_ble_eq_true rfl) dX6_mobileCalls_92 ⟨Nat.le_of_ble_eq_true rfl, Nat.le_of_ble_eq_true rfl⟩ (fun r ad1 ce25 H locs hp hw hS => ?_)
                obtain ⟨rfl, rfl, hV, hF2⟩ := hp
                have hF : ∀ j, j < 100 → ce25 j = ce j := fun j hj => (hF2 j hj).trans (hF j hj)
                obtain ⟨cn, zs, bs, hh, ⟨h100, h101, h102, h103, h104, h105, h106, h107, h108, h109, h110, h111⟩, hQ, hM⟩ := hV
                refine W.eq (g2 := F0 m 95 ls []) rfl ?_
                refine lv_iconst (v := 1) hx hb dX6_mobileCalls_95 (by decide) ?_
                exact z_iret F (rfl) hw hS (by unfold sp_mobileCalls; rw [if_pos c7, if_pos c14, if_neg hc21, if_pos c39, if_neg hc46, if_pos c65, if_pos hc72]; exact ⟨rfl, rfl, ⟨_, _, _, _, ⟨h100, h101, h102, h103, h104, h105, h106, h107, h108, h109, h110, h111⟩, hQ, hM⟩, hF⟩) dX6_mobileCalls_96
              · refine W.eq (g2 := F0 m 75 ls [.int 0]) rfl ?_
                refine lv_if_eq (tgt := 97) hx hb dX6_mobileCalls_75 (by decide) (fun c75 => ?_) (fun c75 => absurd c75 (by decide))
                refine lv_aload_n hx hb dX6_mobileCalls_97 rfl (lv_at hl 0 rfl) ?_
                refine lv_iconst (v := 0) hx hb dX6_mobileCalls_98 (by decide) ?_
                refine lv_iload_n hx hb dX6_mobileCalls_99 rfl (lv_at hl 1 rfl) ?_
                have hV : rfV G ad ce T Q M := ⟨_, _, _, _, ⟨h100, h101, h102, h103, h104, h105, h106, h107, h108, h109, h110, h111⟩, hQ, hM⟩
                refine z_invV F (rest := []) (r_closes0 l T Q M hV hg ty hty) yv_X6_122 ⟨Nat.le_of_ble_eq_true rfl, Nat.le_of_ble_eq_true rfl⟩ hw hA hS hl h100 rfl rfl rfl (Nat.le_of_ble_eq_true rfl) dX6_mobileCalls_100 ⟨Nat.le_of_ble_eq_true rfl, Nat.le_of_ble_eq_true rfl⟩ (fun r ad1 ce26 H locs hp hw hS => ?_)
                obtain ⟨rfl, rfl, hV, hF2⟩ := hp
                have hF : ∀ j, j < 100 → ce26 j = ce j := fun j hj => (hF2 j hj).trans (hF j hj)
                obtain ⟨cn, zs, bs, hh, ⟨h100, h101, h102, h103, h104, h105, h106, h107, h108, h109, h110, h111⟩, hQ, hM⟩ := hV
                refine W.eq (g2 := F0 m 103 ls [.int ((sp_closes T Q M 0 ty).1)]) rfl ?_
                exact z_iret F (sp_closes_b _ _ _ _ _) hw hS (by unfold sp_mobileCalls; rw [if_pos c7, if_pos c14, if_neg hc21, if_pos c39, if_neg hc46, if_pos c65, if_neg hc72]; exact ⟨rfl, rfl, ⟨_, _, _, _, ⟨h100, h101, h102, h103, h104, h105, h106, h107, h108, h109, h110, h111⟩, hQ, hM⟩, hF⟩) dX6_mobileCalls_103
  · refine lv_iconst (v := 0) hx hb dX6_mobileCalls_10 (by decide) ?_
    exact z_iret F (rfl) hw hS (by unfold sp_mobileCalls; rw [if_neg c7]; exact ⟨rfl, rfl, ⟨_, _, _, _, ⟨h100, h101, h102, h103, h104, h105, h106, h107, h108, h109, h110, h111⟩, hQ, hM⟩, hF⟩) dX6_mobileCalls_11
def sp_ask (T : rf_T) (Q : rf_Q) (M : List Nat) (wh : Int32) : rf_R := (0, (rf_become (va_up T 0 (va_up (T 0) 2 (((T 0 2) * 1103515245) + 12345))) 1 wh (((va_up T 0 (va_up (T 0) 2 (((T 0 2) * 1103515245) + 12345))) 2) 1) 12), rf_put (va_up T 0 (va_up (T 0) 2 (((T 0 2) * 1103515245) + 12345))) Q 1 ([5, 18, 33, 4] ++ rf_bytes 4 (((T 0 2) * 1103515245) + 12345)))
set_option maxHeartbeats 4000000 in
set_option maxRecDepth 100000 in
theorem r_ask (l : Launch) {G : zz_G} {ad : Nat → Nat} {ce : zz_C} {sz : Nat} (T : rf_T) (Q : rf_Q) (M : List Nat) (hV : rfV G ad ce T Q M) (wh : Int32) : zz_M l yX6_ask cX6_ask 2 none 2 52 0 0 G [.ref (ad 100), .int wh] ad ce sz (fun r ad1 ce1 => r = none ∧ ad = ad1 ∧ rfV G ad ce1 (sp_ask T Q M wh).2.1 (sp_ask T Q M wh).2.2 M ∧ (∀ j, j < 100 → ce1 j = ce j)) := by
  refine zz_enter (by decide) (Nat.le_of_ble_eq_true rfl) ?_
  intro p e s m below meth c ls F hl hw hS hA
  obtain ⟨hx, hb, hr, hml, hown, hts, hlocks, hK, hnm⟩ := id F
  have hl : lv_has ls 2 [(0, .ref (ad 100)), (1, .int wh)] := hl
  obtain ⟨cn, zs, bs, hh, ⟨h100, h101, h102, h103, h104, h105, h106, h107, h108, h109, h110, h111⟩, hQ, hM⟩ := hV
  have hF : ∀ j, j < 100 → ce j = ce j := fun _ _ => rfl
  refine lv_aload_n hx hb dX6_ask_0 rfl (lv_at hl 0 rfl) ?_
  refine lv_aload_n hx hb dX6_ask_1 rfl (lv_at hl 0 rfl) ?_
  refine z_get F hw h100 fd_X6_57_X6 rfl dX6_ask_2 ?_
  refine lv_ldc (v := 1103515245) hx hb hown (hts _ wd_841) dX6_ask_5 ?_
  refine lv_imul hx hb dX6_ask_7 ?_
  refine lv_sipush (v := 12345) hx hb dX6_ask_8 (by decide) ?_
  refine lv_iadd hx hb dX6_ask_11 ?_
  refine z_put F hw hS (fs' := [.int (T 0 0), .int (T 0 1), .int (((T 0 2) * 1103515245) + 12345), .int (T 0 3), .int (T 0 4), .ref (ad 101), .ref (ad 102), .ref (ad 103), .int (T 0 5), .ref (ad 104), .ref (ad 105), .ref (ad 106), .ref (ad 107), .ref (ad 108), .int (T 0 6), .int (T 0 7), .int (T 0 8), .ref (ad 109), .int (T 0 9), .ref (ad 110), .int (T 0 10), .int (nI M.length), .ref (ad 111)]) h100 fd_X6_57_X6 ptX6 rfl (rfl) (rfl) (Nat.le_of_ble_eq_true rfl) rfl dX6_ask_12 (fun ce1 H locs h100 fr2 hw hS => ?_)
  have h101 := (fr2 101 (by decide)).trans h101
  have h102 := (fr2 102 (by decide)).trans h102
  have h103 := (fr2 103 (by decide)).trans h103
  have h104 := (fr2 104 (by decide)).trans h104
  have h105 := (fr2 105 (by decide)).trans h105
  have h106 := (fr2 106 (by decide)).trans h106
  have h107 := (fr2 107 (by decide)).trans h107
  have h108 := (fr2 108 (by decide)).trans h108
  have h109 := (fr2 109 (by decide)).trans h109
  have h110 := (fr2 110 (by decide)).trans h110
  have h111 := (fr2 111 (by decide)).trans h111
  have hF : ∀ j, j < 100 → _ = ce j := fun j hj => (fr2 j (by omega)).trans (hF j hj)
  refine lv_aload_n hx hb dX6_ask_15 rfl (lv_at hl 0 rfl) ?_
  refine lv_iconst (v := 1) hx hb dX6_ask_16 (by decide) ?_
  refine lv_iconst (v := 5) hx hb dX6_ask_17 (by decide) ?_
  refine lv_bipush (v := 18) hx hb dX6_ask_18 (by decide) ?_
  refine lv_bipush (v := 33) hx hb dX6_ask_20 (by decide) ?_
  refine lv_iconst (v := 4) hx hb dX6_ask_22 (by decide) ?_
  refine lv_aload_n hx hb dX6_ask_23 rfl (lv_at hl 0 rfl) ?_
  refine z_get F hw h100 fd_X6_57_X6 rfl dX6_ask_24 ?_
  have hV : rfV G ad ce1 (va_up T 0 (va_up (T 0) 2 (((T 0 2) * 1103515245) + 12345))) Q M := ⟨_, _, _, _, ⟨h100, h101, h102, h103, h104, h105, h106, h107, h108, h109, h110, h111⟩, hQ, hM⟩
  refine z_invV F (rest := []) (r_tell1_4 l (va_up T 0 (va_up (T 0) 2 (((T 0 2) * 1103515245) + 12345))) Q M hV 5 18 33 (by decide) (by decide) (by decide) (((T 0 2) * 1103515245) + 12345)) yv_X6_112 ⟨Nat.le_of_ble_eq_true rfl, Nat.le_of_ble_eq_true rfl⟩ hw hA hS hl h100 rfl rfl rfl (Nat.le_of_ble_eq_true rfl) dX6_ask_27 ⟨Nat.le_of_ble_eq_true rfl, Nat.le_of_ble_eq_true rfl⟩ (fun r ad1 ce3 H locs hp hw hS => ?_)
  obtain ⟨rfl, rfl, hV, hF2⟩ := hp
  have hF : ∀ j, j < 100 → ce3 j = ce j := fun j hj => (hF2 j hj).trans (hF j hj)
  obtain ⟨cn, zs, bs, hh, ⟨h100, h101, h102, h103, h104, h105, h106, h107, h108, h109, h110, h111⟩, hQ, hM⟩ := hV
  refine W.eq (g2 := F0 m 30 ls []) rfl ?_
  refine lv_aload_n hx hb dX6_ask_30 rfl (lv_at hl 0 rfl) ?_
  refine lv_iconst (v := 1) hx hb dX6_ask_31 (by decide) ?_
  refine lv_iload_n hx hb dX6_ask_32 rfl (lv_at hl 1 rfl) ?_
  refine lv_aload_n hx hb dX6_ask_33 rfl (lv_at hl 0 rfl) ?_
  refine z_get F hw h100 fd_X6_26_X6 rfl dX6_ask_34 ?_
  refine lv_iconst (v := 1) hx hb dX6_ask_37 (by decide) ?_
  refine z_ld F hw h105 (1) (rfl) (by decide) (by decide) dX6_ask_38 ?_
  refine lv_bipush (v := 12) hx hb dX6_ask_39 (by decide) ?_
  have hV : rfV G ad ce3 (va_up T 0 (va_up (T 0) 2 (((T 0 2) * 1103515245) + 12345))) (rf_put (va_up T 0 (va_up (T 0) 2 (((T 0 2) * 1103515245) + 12345))) Q 1 ([5, 18, 33, 4] ++ rf_bytes 4 (((T 0 2) * 1103515245) + 12345))) M := ⟨_, _, _, _, ⟨h100, h101, h102, h103, h104, h105, h106, h107, h108, h109, h110, h111⟩, hQ, hM⟩
  refine z_invV F (rest := []) (r_become1 l (va_up T 0 (va_up (T 0) 2 (((T 0 2) * 1103515245) + 12345))) (rf_put (va_up T 0 (va_up (T 0) 2 (((T 0 2) * 1103515245) + 12345))) Q 1 ([5, 18, 33, 4] ++ rf_bytes 4 (((T 0 2) * 1103515245) + 12345))) M hV wh (((va_up T 0 (va_up (T 0) 2 (((T 0 2) * 1103515245) + 12345))) 2) 1) 12) yv_X6_83 ⟨Nat.le_of_ble_eq_true rfl, Nat.le_of_ble_eq_true rfl⟩ hw hA hS hl h100 rfl rfl rfl (Nat.le_of_ble_eq_true rfl) dX6_ask_41 ⟨Nat.le_of_ble_eq_true rfl, Nat.le_of_ble_eq_true rfl⟩ (fun r ad1 ce4 H locs hp hw hS => ?_)
  obtain ⟨rfl, rfl, hV, hF2⟩ := hp
  have hF : ∀ j, j < 100 → ce4 j = ce j := fun j hj => (hF2 j hj).trans (hF j hj)
  obtain ⟨cn, zs, bs, hh, ⟨h100, h101, h102, h103, h104, h105, h106, h107, h108, h109, h110, h111⟩, hQ, hM⟩ := hV
  refine W.eq (g2 := F0 m 44 ls []) rfl ?_
  exact z_vret F hw hS (by unfold sp_ask; exact ⟨rfl, rfl, ⟨_, _, _, _, ⟨h100, h101, h102, h103, h104, h105, h106, h107, h108, h109, h110, h111⟩, hQ, hM⟩, hF⟩) dX6_ask_44
def sp_judge (T : rf_T) (Q : rf_Q) (M : List Nat) : rf_R := (if ((rf_val M 34) : Int32) = (rf_turned (T 0 2) (T 0 1)) then (if (((T 1) 1) : Int32) = 1 then (if (((T 0 3) &&& 1) : Int32) = 1 then (0, (rf_become (va_up T 0 (va_up (T 0) 7 (T 0 8))) 1 0 (((va_up T 0 (va_up (T 0) 7 (T 0 8))) 2) 1) 0), rf_put (va_up T 0 (va_up (T 0) 7 (T 0 8))) Q 1 ([5, 2, 19, 2] ++ rf_bytes 2 (T 0 8))) else (0, (rf_become T 1 0 ((T 2) 1) 0), rf_put T Q 1 ([5, 4, 8, 1] ++ rf_bytes 1 11))) else (if (((T 0 3) &&& 2) : Int32) = 2 then (0, (rf_become T 1 3 ((T 2) 1) 0), rf_put T Q 1 [5, 33]) else (0, (rf_become T 1 0 ((T 2) 1) 0), rf_put T Q 1 ([5, 34, 8, 1] ++ rf_bytes 1 32)))) else (0, (rf_become (va_up T 0 (va_up (T 0) 7 (-1))) 1 0 ((T 2) 1) 0), rf_put T Q 1 [5, 17]))
set_option maxHeartbeats 4000000 in
set_option maxRecDepth 100000 in
theorem r_judge (l : Launch) {G : zz_G} {ad : Nat → Nat} {ce : zz_C} {sz : Nat} (T : rf_T) (Q : rf_Q) (M : List Nat) (hV : rfV G ad ce T Q M) (hg : rf_good M) (hs4 : rf_sz M 34 = some 4) : zz_M l yX6_judge cX6_judge 3 none 2 52 0 0 G [.ref (ad 100)] ad ce sz (fun r ad1 ce1 => r = none ∧ ad = ad1 ∧ rfV G ad ce1 (sp_judge T Q M).2.1 (sp_judge T Q M).2.2 M ∧ (∀ j, j < 100 → ce1 j = ce j)) := by
  refine zz_enter (by decide) (Nat.le_of_ble_eq_true rfl) ?_
  intro p e s m below meth c ls F hl hw hS hA
  obtain ⟨hx, hb, hr, hml, hown, hts, hlocks, hK, hnm⟩ := id F
  have hl : lv_has ls 3 [(0, .ref (ad 100))] := hl
  obtain ⟨cn, zs, bs, hh, ⟨h100, h101, h102, h103, h104, h105, h106, h107, h108, h109, h110, h111⟩, hQ, hM⟩ := hV
  have hF : ∀ j, j < 100 → ce j = ce j := fun _ _ => rfl
  refine lv_bipush (v := -3) hx hb dX6_judge_0 (by decide) ?_
  refine lv_istore_n (lv' := [(1, .int (-3)), (0, .ref (ad 100))]) hx hb dX6_judge_2 rfl hl (by decide) rfl (fun ls hl => ?_)
  refine lv_aload_n hx hb dX6_judge_3 rfl (lv_at hl 1 rfl) ?_
  refine z_get F hw h100 fd_X6_23_X6 rfl dX6_judge_4 ?_
  refine lv_iconst (v := 1) hx hb dX6_judge_7 (by decide) ?_
  refine z_ld F hw h104 (1) (rfl) (by decide) (by decide) dX6_judge_8 ?_
  refine lv_istore_n (lv' := [(2, .int ((T 1) 1)), (1, .int (-3)), (0, .ref (ad 100))]) hx hb dX6_judge_9 rfl hl (by decide) rfl (fun ls hl => ?_)
  refine lv_aload_n hx hb dX6_judge_10 rfl (lv_at hl 2 rfl) ?_
  refine lv_bipush (v := 34) hx hb dX6_judge_11 (by decide) ?_
  have hV : rfV G ad ce T Q M := ⟨_, _, _, _, ⟨h100, h101, h102, h103, h104, h105, h106, h107, h108, h109, h110, h111⟩, hQ, hM⟩
  refine z_invV F (rest := []) (r_number l T Q M hV hg 34 4 (by decide) hs4) yv_X6_95 ⟨Nat.le_of_ble_eq_true rfl, Nat.le_of_ble_eq_true rfl⟩ hw hA hS hl h100 rfl rfl rfl (Nat.le_of_ble_eq_true rfl) dX6_judge_13 ⟨Nat.le_of_ble_eq_true rfl, Nat.le_of_ble_eq_true rfl⟩ (fun r ad1 ce1 H locs hp hw hS => ?_)
  obtain ⟨rfl, rfl, rfl⟩ := hp
  refine W.eq (g2 := F0 m 16 ls [.int (rf_val M 34)]) rfl ?_
  refine lv_aload_n hx hb dX6_judge_16 rfl (lv_at hl 2 rfl) ?_
  refine z_get F hw h100 fd_X6_57_X6 rfl dX6_judge_17 ?_
  refine lv_aload_n hx hb dX6_judge_20 rfl (lv_at hl 2 rfl) ?_
  refine z_get F hw h100 fd_X6_54_X6 rfl dX6_judge_21 ?_
  refine z_invS F (rest := [.int (rf_val M 34)]) (r_turned l (T 0 2) (T 0 1)) ys_X6_108 ⟨Nat.le_of_ble_eq_true rfl, Nat.le_of_ble_eq_true rfl⟩ hw hA hS hl rfl rfl (Nat.le_of_ble_eq_true rfl) dX6_judge_24 ⟨Nat.le_of_ble_eq_true rfl, Nat.le_of_ble_eq_true rfl⟩ (fun r ad1 ce2 H locs hp hw hS => ?_)
  obtain ⟨rfl, rfl, rfl⟩ := hp
  refine W.eq (g2 := F0 m 27 ls [.int (rf_turned (T 0 2) (T 0 1)), .int (rf_val M 34)]) rfl ?_
  refine lv_icmp_eq (tgt := 60) hx hb dX6_judge_27 (by decide) (fun c27 => ?_) (fun c27 => ?_)
  · refine lv_iload_n hx hb dX6_judge_60 rfl (lv_at hl 0 rfl) ?_
    refine lv_iconst (v := 1) hx hb dX6_judge_61 (by decide) ?_
    refine lv_icmp_ne (tgt := 128) hx hb dX6_judge_62 (by decide) (fun c62 => ?_) (fun c62 => ?_)
    · refine lv_aload_n hx hb dX6_judge_128 rfl (lv_at hl 2 rfl) ?_
      refine z_get F hw h100 fd_X6_7_X6 rfl dX6_judge_129 ?_
      refine lv_iconst (v := 2) hx hb dX6_judge_132 (by decide) ?_
      refine lv_iand hx hb dX6_judge_133 ?_
      refine lv_iconst (v := 2) hx hb dX6_judge_134 (by decide) ?_
      refine lv_icmp_ne (tgt := 163) hx hb dX6_judge_135 (by decide) (fun c135 => ?_) (fun c135 => ?_)
      · refine lv_aload_n hx hb dX6_judge_163 rfl (lv_at hl 2 rfl) ?_
        refine lv_iconst (v := 1) hx hb dX6_judge_164 (by decide) ?_
        refine lv_iconst (v := 5) hx hb dX6_judge_165 (by decide) ?_
        refine lv_bipush (v := 34) hx hb dX6_judge_166 (by decide) ?_
        refine lv_bipush (v := 8) hx hb dX6_judge_168 (by decide) ?_
        refine lv_iconst (v := 1) hx hb dX6_judge_170 (by decide) ?_
        refine lv_bipush (v := 32) hx hb dX6_judge_171 (by decide) ?_
        have hV : rfV G ad ce T Q M := ⟨_, _, _, _, ⟨h100, h101, h102, h103, h104, h105, h106, h107, h108, h109, h110, h111⟩, hQ, hM⟩
        refine z_invV F (rest := []) (r_tell1_1 l T Q M hV 5 34 8 (by decide) (by decide) (by decide) 32) yv_X6_112 ⟨Nat.le_of_ble_eq_true rfl, Nat.le_of_ble_eq_true rfl⟩ hw hA hS hl h100 rfl rfl rfl (Nat.le_of_ble_eq_true rfl) dX6_judge_173 ⟨Nat.le_of_ble_eq_true rfl, Nat.le_of_ble_eq_true rfl⟩ (fun r ad1 ce3 H locs hp hw hS => ?_)
        obtain ⟨rfl, rfl, hV, hF2⟩ := hp
        have hF : ∀ j, j < 100 → ce3 j = ce j := fun j hj => (hF2 j hj).trans (hF j hj)
        obtain ⟨cn, zs, bs, hh, ⟨h100, h101, h102, h103, h104, h105, h106, h107, h108, h109, h110, h111⟩, hQ, hM⟩ := hV
        refine W.eq (g2 := F0 m 176 ls []) rfl ?_
        refine lv_aload_n hx hb dX6_judge_176 rfl (lv_at hl 2 rfl) ?_
        refine lv_iconst (v := 1) hx hb dX6_judge_177 (by decide) ?_
        refine lv_iconst (v := 0) hx hb dX6_judge_178 (by decide) ?_
        refine lv_aload_n hx hb dX6_judge_179 rfl (lv_at hl 2 rfl) ?_
        refine z_get F hw h100 fd_X6_26_X6 rfl dX6_judge_180 ?_
        refine lv_iconst (v := 1) hx hb dX6_judge_183 (by decide) ?_
        refine z_ld F hw h105 (1) (rfl) (by decide) (by decide) dX6_judge_184 ?_
        refine lv_iconst (v := 0) hx hb dX6_judge_185 (by decide) ?_
        have hV : rfV G ad ce3 T (rf_put T Q 1 ([5, 34, 8, 1] ++ rf_bytes 1 32)) M := ⟨_, _, _, _, ⟨h100, h101, h102, h103, h104, h105, h106, h107, h108, h109, h110, h111⟩, hQ, hM⟩
        refine z_invV F (rest := []) (r_become1 l T (rf_put T Q 1 ([5, 34, 8, 1] ++ rf_bytes 1 32)) M hV 0 ((T 2) 1) 0) yv_X6_83 ⟨Nat.le_of_ble_eq_true rfl, Nat.le_of_ble_eq_true rfl⟩ hw hA hS hl h100 rfl rfl rfl (Nat.le_of_ble_eq_true rfl) dX6_judge_186 ⟨Nat.le_of_ble_eq_true rfl, Nat.le_of_ble_eq_true rfl⟩ (fun r ad1 ce4 H locs hp hw hS => ?_)
        obtain ⟨rfl, rfl, hV, hF2⟩ := hp
        have hF : ∀ j, j < 100 → ce4 j = ce j := fun j hj => (hF2 j hj).trans (hF j hj)
        obtain ⟨cn, zs, bs, hh, ⟨h100, h101, h102, h103, h104, h105, h106, h107, h108, h109, h110, h111⟩, hQ, hM⟩ := hV
        refine W.eq (g2 := F0 m 189 ls []) rfl ?_
        exact z_vret F hw hS (by unfold sp_judge; rw [if_pos c27, if_neg c62, if_neg c135]; exact ⟨rfl, rfl, ⟨_, _, _, _, ⟨h100, h101, h102, h103, h104, h105, h106, h107, h108, h109, h110, h111⟩, hQ, hM⟩, hF⟩) dX6_judge_189
      · refine lv_aload_n hx hb dX6_judge_138 rfl (lv_at hl 2 rfl) ?_
        refine lv_iconst (v := 1) hx hb dX6_judge_139 (by decide) ?_
        refine lv_iconst (v := 5) hx hb dX6_judge_140 (by decide) ?_
        refine lv_bipush (v := 33) hx hb dX6_judge_141 (by decide) ?_
        have hV : rfV G ad ce T Q M := ⟨_, _, _, _, ⟨h100, h101, h102, h103, h104, h105, h106, h107, h108, h109, h110, h111⟩, hQ, hM⟩
        refine z_invV F (rest := []) (r_put1 l T Q M hV 5 33 (by decide) (by decide)) yv_X6_64 ⟨Nat.le_of_ble_eq_true rfl, Nat.le_of_ble_eq_true rfl⟩ hw hA hS hl h100 rfl rfl rfl (Nat.le_of_ble_eq_true rfl) dX6_judge_143 ⟨Nat.le_of_ble_eq_true rfl, Nat.le_of_ble_eq_true rfl⟩ (fun r ad1 ce5 H locs hp hw hS => ?_)
        obtain ⟨rfl, rfl, hV, hF2⟩ := hp
        have hF : ∀ j, j < 100 → ce5 j = ce j := fun j hj => (hF2 j hj).trans (hF j hj)
        obtain ⟨cn, zs, bs, hh, ⟨h100, h101, h102, h103, h104, h105, h106, h107, h108, h109, h110, h111⟩, hQ, hM⟩ := hV
        refine W.eq (g2 := F0 m 146 ls [.int (rf_hd T Q 1)]) rfl ?_
        refine lv_istore_n (lv' := [(1, .int (rf_hd T Q 1)), (2, .int ((T 1) 1)), (0, .ref (ad 100))]) hx hb dX6_judge_146 rfl hl (by decide) rfl (fun ls hl => ?_)
        refine lv_aload_n hx hb dX6_judge_147 rfl (lv_at hl 2 rfl) ?_
        refine lv_iconst (v := 1) hx hb dX6_judge_148 (by decide) ?_
        refine lv_iconst (v := 3) hx hb dX6_judge_149 (by decide) ?_
        refine lv_aload_n hx hb dX6_judge_150 rfl (lv_at hl 2 rfl) ?_
        refine z_get F hw h100 fd_X6_26_X6 rfl dX6_judge_151 ?_
        refine lv_iconst (v := 1) hx hb dX6_judge_154 (by decide) ?_
        refine z_ld F hw h105 (1) (rfl) (by decide) (by decide) dX6_judge_155 ?_
        refine lv_iconst (v := 0) hx hb dX6_judge_156 (by decide) ?_
        have hV : rfV G ad ce5 T (rf_put T Q 1 [5, 33]) M := ⟨_, _, _, _, ⟨h100, h101, h102, h103, h104, h105, h106, h107, h108, h109, h110, h111⟩, hQ, hM⟩
        refine z_invV F (rest := []) (r_become1 l T (rf_put T Q 1 [5, 33]) M hV 3 ((T 2) 1) 0) yv_X6_83 ⟨Nat.le_of_ble_eq_true rfl, Nat.le_of_ble_eq_true rfl⟩ hw hA hS hl h100 rfl rfl rfl (Nat.le_of_ble_eq_true rfl) dX6_judge_157 ⟨Nat.le_of_ble_eq_true rfl, Nat.le_of_ble_eq_true rfl⟩ (fun r ad1 ce6 H locs hp hw hS => ?_)
        obtain ⟨rfl, rfl, hV, hF2⟩ := hp
        have hF : ∀ j, j < 100 → ce6 j = ce j := fun j hj => (hF2 j hj).trans (hF j hj)
        obtain ⟨cn, zs, bs, hh, ⟨h100, h101, h102, h103, h104, h105, h106, h107, h108, h109, h110, h111⟩, hQ, hM⟩ := hV
        refine W.eq (g2 := F0 m 160 ls []) rfl ?_
        refine lv_goto (tgt := 189) hx hb dX6_judge_160 (by decide) ?_
        exact z_vret F hw hS (by unfold sp_judge; rw [if_pos c27, if_neg c62, if_pos c135]; exact ⟨rfl, rfl, ⟨_, _, _, _, ⟨h100, h101, h102, h103, h104, h105, h106, h107, h108, h109, h110, h111⟩, hQ, hM⟩, hF⟩) dX6_judge_189
    · refine lv_aload_n hx hb dX6_judge_65 rfl (lv_at hl 2 rfl) ?_
      refine z_get F hw h100 fd_X6_7_X6 rfl dX6_judge_66 ?_
      refine lv_iconst (v := 1) hx hb dX6_judge_69 (by decide) ?_
      refine lv_iand hx hb dX6_judge_70 ?_
      refine lv_iconst (v := 1) hx hb dX6_judge_71 (by decide) ?_
      refine lv_icmp_ne (tgt := 100) hx hb dX6_judge_72 (by decide) (fun c72 => ?_) (fun c72 => ?_)
      · refine lv_aload_n hx hb dX6_judge_100 rfl (lv_at hl 2 rfl) ?_
        refine lv_iconst (v := 1) hx hb dX6_judge_101 (by decide) ?_
        refine lv_iconst (v := 5) hx hb dX6_judge_102 (by decide) ?_
        refine lv_iconst (v := 4) hx hb dX6_judge_103 (by decide) ?_
        refine lv_bipush (v := 8) hx hb dX6_judge_104 (by decide) ?_
        refine lv_iconst (v := 1) hx hb dX6_judge_106 (by decide) ?_
        refine lv_bipush (v := 11) hx hb dX6_judge_107 (by decide) ?_
        have hV : rfV G ad ce T Q M := ⟨_, _, _, _, ⟨h100, h101, h102, h103, h104, h105, h106, h107, h108, h109, h110, h111⟩, hQ, hM⟩
        refine z_invV F (rest := []) (r_tell1_1 l T Q M hV 5 4 8 (by decide) (by decide) (by decide) 11) yv_X6_112 ⟨Nat.le_of_ble_eq_true rfl, Nat.le_of_ble_eq_true rfl⟩ hw hA hS hl h100 rfl rfl rfl (Nat.le_of_ble_eq_true rfl) dX6_judge_109 ⟨Nat.le_of_ble_eq_true rfl, Nat.le_of_ble_eq_true rfl⟩ (fun r ad1 ce7 H locs hp hw hS => ?_)
        obtain ⟨rfl, rfl, hV, hF2⟩ := hp
        have hF : ∀ j, j < 100 → ce7 j = ce j := fun j hj => (hF2 j hj).trans (hF j hj)
        obtain ⟨cn, zs, bs, hh, ⟨h100, h101, h102, h103, h104, h105, h106, h107, h108, h109, h110, h111⟩, hQ, hM⟩ := hV
        refine W.eq (g2 := F0 m 112 ls []) rfl ?_
        refine lv_aload_n hx hb dX6_judge_112 rfl (lv_at hl 2 rfl) ?_
        refine lv_iconst (v := 1) hx hb dX6_judge_113 (by decide) ?_
        refine lv_iconst (v := 0) hx hb dX6_judge_114 (by decide) ?_
        refine lv_aload_n hx hb dX6_judge_115 rfl (lv_at hl 2 rfl) ?_
        refine z_get F hw h100 fd_X6_26_X6 rfl dX6_judge_116 ?_
        refine lv_iconst (v := 1) hx hb dX6_judge_119 (by decide) ?_
        refine z_ld F hw h105 (1) (rfl) (by decide) (by decide) dX6_judge_120 ?_
        refine lv_iconst (v := 0) hx hb dX6_judge_121 (by decide) ?_
        have hV : rfV G ad ce7 T (rf_put T Q 1 ([5, 4, 8, 1] ++ rf_bytes 1 11)) M := ⟨_, _, _, _, ⟨h100, h101, h102, h103, h104, h105, h106, h107, h108, h109, h110, h111⟩, hQ, hM⟩
        refine z_invV F (rest := []) (r_become1 l T (rf_put T Q 1 ([5, 4, 8, 1] ++ rf_bytes 1 11)) M hV 0 ((T 2) 1) 0) yv_X6_83 ⟨Nat.le_of_ble_eq_true rfl, Nat.le_of_ble_eq_true rfl⟩ hw hA hS hl h100 rfl rfl rfl (Nat.le_of_ble_eq_true rfl) dX6_judge_122 ⟨Nat.le_of_ble_eq_true rfl, Nat.le_of_ble_eq_true rfl⟩ (fun r ad1 ce8 H locs hp hw hS => ?_)
        obtain ⟨rfl, rfl, hV, hF2⟩ := hp
        have hF : ∀ j, j < 100 → ce8 j = ce j := fun j hj => (hF2 j hj).trans (hF j hj)
        obtain ⟨cn, zs, bs, hh, ⟨h100, h101, h102, h103, h104, h105, h106, h107, h108, h109, h110, h111⟩, hQ, hM⟩ := hV
        refine W.eq (g2 := F0 m 125 ls []) rfl ?_
        refine lv_goto (tgt := 189) hx hb dX6_judge_125 (by decide) ?_
        exact z_vret F hw hS (by unfold sp_judge; rw [if_pos c27, if_pos c62, if_neg c72]; exact ⟨rfl, rfl, ⟨_, _, _, _, ⟨h100, h101, h102, h103, h104, h105, h106, h107, h108, h109, h110, h111⟩, hQ, hM⟩, hF⟩) dX6_judge_189
      · refine lv_aload_n hx hb dX6_judge_75 rfl (lv_at hl 2 rfl) ?_
        refine lv_aload_n hx hb dX6_judge_76 rfl (lv_at hl 2 rfl) ?_
        refine z_get F hw h100 fd_X6_126_X6 rfl dX6_judge_77 ?_
        refine z_put F hw hS (fs' := [.int (T 0 0), .int (T 0 1), .int (T 0 2), .int (T 0 3), .int (T 0 4), .ref (ad 101), .ref (ad 102), .ref (ad 103), .int (T 0 5), .ref (ad 104), .ref (ad 105), .ref (ad 106), .ref (ad 107), .ref (ad 108), .int (T 0 6), .int (T 0 8), .int (T 0 8), .ref (ad 109), .int (T 0 9), .ref (ad 110), .int (T 0 10), .int (nI M.length), .ref (ad 111)]) h100 fd_X6_39_X6 ptX6 rfl (rfl) (rfl) (Nat.le_of_ble_eq_true rfl) rfl dX6_judge_80 (fun ce9 H locs h100 fr10 hw hS => ?_)
        have h101 := (fr10 101 (by decide)).trans h101
        have h102 := (fr10 102 (by decide)).trans h102
        have h103 := (fr10 103 (by decide)).trans h103
        have h104 := (fr10 104 (by decide)).trans h104
        have h105 := (fr10 105 (by decide)).trans h105
        have h106 := (fr10 106 (by decide)).trans h106
        have h107 := (fr10 107 (by decide)).trans h107
        have h108 := (fr10 108 (by decide)).trans h108
        have h109 := (fr10 109 (by decide)).trans h109
        have h110 := (fr10 110 (by decide)).trans h110
        have h111 := (fr10 111 (by decide)).trans h111
        have hF : ∀ j, j < 100 → _ = ce j := fun j hj => (fr10 j (by omega)).trans (hF j hj)
        refine lv_aload_n hx hb dX6_judge_83 rfl (lv_at hl 2 rfl) ?_
        refine lv_iconst (v := 1) hx hb dX6_judge_84 (by decide) ?_
        refine lv_iconst (v := 5) hx hb dX6_judge_85 (by decide) ?_
        refine lv_iconst (v := 2) hx hb dX6_judge_86 (by decide) ?_
        refine lv_bipush (v := 19) hx hb dX6_judge_87 (by decide) ?_
        refine lv_iconst (v := 2) hx hb dX6_judge_89 (by decide) ?_
        refine lv_aload_n hx hb dX6_judge_90 rfl (lv_at hl 2 rfl) ?_
        refine z_get F hw h100 fd_X6_126_X6 rfl dX6_judge_91 ?_
        have hV : rfV G ad ce9 (va_up T 0 (va_up (T 0) 7 (T 0 8))) Q M := ⟨_, _, _, _, ⟨h100, h101, h102, h103, h104, h105, h106, h107, h108, h109, h110, h111⟩, hQ, hM⟩
        refine z_invV F (rest := []) (r_tell1_2 l (va_up T 0 (va_up (T 0) 7 (T 0 8))) Q M hV 5 2 19 (by decide) (by decide) (by decide) (T 0 8)) yv_X6_112 ⟨Nat.le_of_ble_eq_true rfl, Nat.le_of_ble_eq_true rfl⟩ hw hA hS hl h100 rfl rfl rfl (Nat.le_of_ble_eq_true rfl) dX6_judge_94 ⟨Nat.le_of_ble_eq_true rfl, Nat.le_of_ble_eq_true rfl⟩ (fun r ad1 ce11 H locs hp hw hS => ?_)
        obtain ⟨rfl, rfl, hV, hF2⟩ := hp
        have hF : ∀ j, j < 100 → ce11 j = ce j := fun j hj => (hF2 j hj).trans (hF j hj)
        obtain ⟨cn, zs, bs, hh, ⟨h100, h101, h102, h103, h104, h105, h106, h107, h108, h109, h110, h111⟩, hQ, hM⟩ := hV
        refine W.eq (g2 := F0 m 97 ls []) rfl ?_
        refine lv_goto (tgt := 112) hx hb dX6_judge_97 (by decide) ?_
        refine lv_aload_n hx hb dX6_judge_112 rfl (lv_at hl 2 rfl) ?_
        refine lv_iconst (v := 1) hx hb dX6_judge_113 (by decide) ?_
        refine lv_iconst (v := 0) hx hb dX6_judge_114 (by decide) ?_
        refine lv_aload_n hx hb dX6_judge_115 rfl (lv_at hl 2 rfl) ?_
        refine z_get F hw h100 fd_X6_26_X6 rfl dX6_judge_116 ?_
        refine lv_iconst (v := 1) hx hb dX6_judge_119 (by decide) ?_
        refine z_ld F hw h105 (1) (rfl) (by decide) (by decide) dX6_judge_120 ?_
        refine lv_iconst (v := 0) hx hb dX6_judge_121 (by decide) ?_
        have hV : rfV G ad ce11 (va_up T 0 (va_up (T 0) 7 (T 0 8))) (rf_put (va_up T 0 (va_up (T 0) 7 (T 0 8))) Q 1 ([5, 2, 19, 2] ++ rf_bytes 2 (T 0 8))) M := ⟨_, _, _, _, ⟨h100, h101, h102, h103, h104, h105, h106, h107, h108, h109, h110, h111⟩, hQ, hM⟩
        refine z_invV F (rest := []) (r_become1 l (va_up T 0 (va_up (T 0) 7 (T 0 8))) (rf_put (va_up T 0 (va_up (T 0) 7 (T 0 8))) Q 1 ([5, 2, 19, 2] ++ rf_bytes 2 (T 0 8))) M hV 0 (((va_up T 0 (va_up (T 0) 7 (T 0 8))) 2) 1) 0) yv_X6_83 ⟨Nat.le_of_ble_eq_true rfl, Nat.le_of_ble_eq_true rfl⟩ hw hA hS hl h100 rfl rfl rfl (Nat.le_of_ble_eq_true rfl) dX6_judge_122 ⟨Nat.le_of_ble_eq_true rfl, Nat.le_of_ble_eq_true rfl⟩ (fun r ad1 ce12 H locs hp hw hS => ?_)
        obtain ⟨rfl, rfl, hV, hF2⟩ := hp
        have hF : ∀ j, j < 100 → ce12 j = ce j := fun j hj => (hF2 j hj).trans (hF j hj)
        obtain ⟨cn, zs, bs, hh, ⟨h100, h101, h102, h103, h104, h105, h106, h107, h108, h109, h110, h111⟩, hQ, hM⟩ := hV
        refine W.eq (g2 := F0 m 125 ls []) rfl ?_
        refine lv_goto (tgt := 189) hx hb dX6_judge_125 (by decide) ?_
        exact z_vret F hw hS (by unfold sp_judge; rw [if_pos c27, if_pos c62, if_pos c72]; exact ⟨rfl, rfl, ⟨_, _, _, _, ⟨h100, h101, h102, h103, h104, h105, h106, h107, h108, h109, h110, h111⟩, hQ, hM⟩, hF⟩) dX6_judge_189
  · refine lv_aload_n hx hb dX6_judge_30 rfl (lv_at hl 2 rfl) ?_
    refine lv_iconst (v := 1) hx hb dX6_judge_31 (by decide) ?_
    refine lv_iconst (v := 5) hx hb dX6_judge_32 (by decide) ?_
    refine lv_bipush (v := 17) hx hb dX6_judge_33 (by decide) ?_
    have hV : rfV G ad ce T Q M := ⟨_, _, _, _, ⟨h100, h101, h102, h103, h104, h105, h106, h107, h108, h109, h110, h111⟩, hQ, hM⟩
    refine z_invV F (rest := []) (r_put1 l T Q M hV 5 17 (by decide) (by decide)) yv_X6_64 ⟨Nat.le_of_ble_eq_true rfl, Nat.le_of_ble_eq_true rfl⟩ hw hA hS hl h100 rfl rfl rfl (Nat.le_of_ble_eq_true rfl) dX6_judge_35 ⟨Nat.le_of_ble_eq_true rfl, Nat.le_of_ble_eq_true rfl⟩ (fun r ad1 ce13 H locs hp hw hS => ?_)
    obtain ⟨rfl, rfl, hV, hF2⟩ := hp
    have hF : ∀ j, j < 100 → ce13 j = ce j := fun j hj => (hF2 j hj).trans (hF j hj)
    obtain ⟨cn, zs, bs, hh, ⟨h100, h101, h102, h103, h104, h105, h106, h107, h108, h109, h110, h111⟩, hQ, hM⟩ := hV
    refine W.eq (g2 := F0 m 38 ls [.int (rf_hd T Q 1)]) rfl ?_
    refine lv_istore_n (lv' := [(1, .int (rf_hd T Q 1)), (2, .int ((T 1) 1)), (0, .ref (ad 100))]) hx hb dX6_judge_38 rfl hl (by decide) rfl (fun ls hl => ?_)
    refine lv_aload_n hx hb dX6_judge_39 rfl (lv_at hl 2 rfl) ?_
    refine lv_iconst (v := -1) hx hb dX6_judge_40 (by decide) ?_
    refine z_put F hw hS (fs' := [.int (T 0 0), .int (T 0 1), .int (T 0 2), .int (T 0 3), .int (T 0 4), .ref (ad 101), .ref (ad 102), .ref (ad 103), .int (T 0 5), .ref (ad 104), .ref (ad 105), .ref (ad 106), .ref (ad 107), .ref (ad 108), .int (T 0 6), .int (-1), .int (T 0 8), .ref (ad 109), .int (T 0 9), .ref (ad 110), .int (T 0 10), .int (nI (M).length), .ref (ad 111)]) h100 fd_X6_39_X6 ptX6 rfl (rfl) (rfl) (Nat.le_of_ble_eq_true rfl) rfl dX6_judge_41 (fun ce14 H locs h100 fr15 hw hS => ?_)
    have h101 := (fr15 101 (by decide)).trans h101
    have h102 := (fr15 102 (by decide)).trans h102
    have h103 := (fr15 103 (by decide)).trans h103
    have h104 := (fr15 104 (by decide)).trans h104
    have h105 := (fr15 105 (by decide)).trans h105
    have h106 := (fr15 106 (by decide)).trans h106
    have h107 := (fr15 107 (by decide)).trans h107
    have h108 := (fr15 108 (by decide)).trans h108
    have h109 := (fr15 109 (by decide)).trans h109
    have h110 := (fr15 110 (by decide)).trans h110
    have h111 := (fr15 111 (by decide)).trans h111
    have hF : ∀ j, j < 100 → _ = ce j := fun j hj => (fr15 j (by omega)).trans (hF j hj)
    refine lv_aload_n hx hb dX6_judge_44 rfl (lv_at hl 2 rfl) ?_
    refine lv_iconst (v := 1) hx hb dX6_judge_45 (by decide) ?_
    refine lv_iconst (v := 0) hx hb dX6_judge_46 (by decide) ?_
    refine lv_aload_n hx hb dX6_judge_47 rfl (lv_at hl 2 rfl) ?_
    refine z_get F hw h100 fd_X6_26_X6 rfl dX6_judge_48 ?_
    refine lv_iconst (v := 1) hx hb dX6_judge_51 (by decide) ?_
    refine z_ld F hw h105 (1) (rfl) (by decide) (by decide) dX6_judge_52 ?_
    refine lv_iconst (v := 0) hx hb dX6_judge_53 (by decide) ?_
    have hV : rfV G ad ce14 (va_up T 0 (va_up (T 0) 7 (-1))) (rf_put T Q 1 [5, 17]) M := ⟨_, _, _, _, ⟨h100, h101, h102, h103, h104, h105, h106, h107, h108, h109, h110, h111⟩, hQ, hM⟩
    refine z_invV F (rest := []) (r_become1 l (va_up T 0 (va_up (T 0) 7 (-1))) (rf_put T Q 1 [5, 17]) M hV 0 ((T 2) 1) 0) yv_X6_83 ⟨Nat.le_of_ble_eq_true rfl, Nat.le_of_ble_eq_true rfl⟩ hw hA hS hl h100 rfl rfl rfl (Nat.le_of_ble_eq_true rfl) dX6_judge_54 ⟨Nat.le_of_ble_eq_true rfl, Nat.le_of_ble_eq_true rfl⟩ (fun r ad1 ce16 H locs hp hw hS => ?_)
    obtain ⟨rfl, rfl, hV, hF2⟩ := hp
    have hF : ∀ j, j < 100 → ce16 j = ce j := fun j hj => (hF2 j hj).trans (hF j hj)
    obtain ⟨cn, zs, bs, hh, ⟨h100, h101, h102, h103, h104, h105, h106, h107, h108, h109, h110, h111⟩, hQ, hM⟩ := hV
    refine W.eq (g2 := F0 m 57 ls []) rfl ?_
    refine lv_goto (tgt := 189) hx hb dX6_judge_57 (by decide) ?_
    exact z_vret F hw hS (by unfold sp_judge; rw [if_neg c27]; exact ⟨rfl, rfl, ⟨_, _, _, _, ⟨h100, h101, h102, h103, h104, h105, h106, h107, h108, h109, h110, h111⟩, hQ, hM⟩, hF⟩) dX6_judge_189
end
section
def sp_networkMoves (T : rf_T) (Q : rf_Q) (M : List Nat) (ty : Nat) : rf_R := (if ty = 1 then (1, (rf_become (va_up T 0 (va_up (T 0) 7 (-1))) 1 0 0 0), Q) else (if ty = 8 then (if (((T 1) 1) : Int32) = 0 then (if rf_sz M 19 = some 2 then (1, ((sp_ask (va_up T 0 (va_up (T 0) 8 (rf_val M 19))) Q M 1).2.1), (sp_ask (va_up T 0 (va_up (T 0) 8 (rf_val M 19))) Q M 1).2.2) else (0, T, Q)) else (0, T, Q)) else (if ty = 20 then (if (((T 1) 1) : Int32) = 1 then (if rf_sz M 34 = some 4 then (1, ((sp_judge T Q M).2.1), (sp_judge T Q M).2.2) else (0, T, Q)) else (if (((T 1) 1) : Int32) = 2 then (if rf_sz M 34 = some 4 then (1, ((sp_judge T Q M).2.1), (sp_judge T Q M).2.2) else (0, T, Q)) else (0, T, Q))) else (if ty = 36 then (if (((T 1) 1) : Int32) = 0 then (if (0 : Int32) ≤ (T 0 7) then (1, ((sp_ask T Q M 2).2.1), (sp_ask T Q M 2).2.2) else (1, T, rf_put T Q 1 ([5, 34, 8, 1] ++ rf_bytes 1 4))) else (0, T, Q)) else (0, T, Q)))))
theorem sp_networkMoves_b (T : rf_T) (Q : rf_Q) (M : List Nat) (ty : Nat) : narrow .boolean (.int (sp_networkMoves T Q M ty).1) = .int (sp_networkMoves T Q M ty).1 := by unfold sp_networkMoves; simp only [rf_if1]; (repeat' split) <;> first | rfl | exact sp_closes_b _ _ _ _ _
set_option maxHeartbeats 4000000 in
set_option maxRecDepth 100000 in
theorem r_networkMoves (l : Launch) {G : zz_G} {ad : Nat → Nat} {ce : zz_C} {sz : Nat} (T : rf_T) (Q : rf_Q) (M : List Nat) (hV : rfV G ad ce T Q M) (hg : rf_good M) (ty : Nat) (hty : ty < 256) : zz_M l yX6_networkMoves cX6_networkMoves 2 (some .boolean) 3 74 0 0 G [.ref (ad 100), .int (nI ty)] ad ce sz (fun r ad1 ce1 => r = some (.int (sp_networkMoves T Q M ty).1) ∧ ad = ad1 ∧ rfV G ad ce1 (sp_networkMoves T Q M ty).2.1 (sp_networkMoves T Q M ty).2.2 M ∧ (∀ j, j < 100 → ce1 j = ce j)) := by
  refine zz_enter (by decide) (Nat.le_of_ble_eq_true rfl) ?_
  intro p e s m below meth c ls F hl hw hS hA
  obtain ⟨hx, hb, hr, hml, hown, hts, hlocks, hK, hnm⟩ := id F
  have hl : lv_has ls 2 [(0, .ref (ad 100)), (1, .int (nI ty))] := hl
  obtain ⟨cn, zs, bs, hh, ⟨h100, h101, h102, h103, h104, h105, h106, h107, h108, h109, h110, h111⟩, hQ, hM⟩ := hV
  have hF : ∀ j, j < 100 → ce j = ce j := fun _ _ => rfl
  refine lv_iload_n hx hb dX6_networkMoves_0 rfl (lv_at hl 1 rfl) ?_
  by_cases h1_1 : ty = 1
  · refine lv_lookup (tgt := 160) (off := 159) hx hb dX6_networkMoves_1 (by decide) (by rw [h1_1]; rfl) (by decide) ?_
    refine lv_aload_n hx hb dX6_networkMoves_160 rfl (lv_at hl 0 rfl) ?_
    refine lv_iconst (v := -1) hx hb dX6_networkMoves_161 (by decide) ?_
    refine z_put F hw hS (fs' := [.int (T 0 0), .int (T 0 1), .int (T 0 2), .int (T 0 3), .int (T 0 4), .ref (ad 101), .ref (ad 102), .ref (ad 103), .int (T 0 5), .ref (ad 104), .ref (ad 105), .ref (ad 106), .ref (ad 107), .ref (ad 108), .int (T 0 6), .int (-1), .int (T 0 8), .ref (ad 109), .int (T 0 9), .ref (ad 110), .int (T 0 10), .int (nI M.length), .ref (ad 111)]) h100 fd_X6_39_X6 ptX6 rfl (rfl) (rfl) (Nat.le_of_ble_eq_true rfl) rfl dX6_networkMoves_162 (fun ce1 H locs h100 fr2 hw hS => ?_)
    have h101 := (fr2 101 (by decide)).trans h101
    have h102 := (fr2 102 (by decide)).trans h102
    have h103 := (fr2 103 (by decide)).trans h103
    have h104 := (fr2 104 (by decide)).trans h104
    have h105 := (fr2 105 (by decide)).trans h105
    have h106 := (fr2 106 (by decide)).trans h106
    have h107 := (fr2 107 (by decide)).trans h107
    have h108 := (fr2 108 (by decide)).trans h108
    have h109 := (fr2 109 (by decide)).trans h109
    have h110 := (fr2 110 (by decide)).trans h110
    have h111 := (fr2 111 (by decide)).trans h111
    have hF : ∀ j, j < 100 → _ = ce j := fun j hj => (fr2 j (by omega)).trans (hF j hj)
    refine lv_aload_n hx hb dX6_networkMoves_165 rfl (lv_at hl 0 rfl) ?_
    refine lv_iconst (v := 1) hx hb dX6_networkMoves_166 (by decide) ?_
    refine lv_iconst (v := 0) hx hb dX6_networkMoves_167 (by decide) ?_
    refine lv_iconst (v := 0) hx hb dX6_networkMoves_168 (by decide) ?_
    refine lv_iconst (v := 0) hx hb dX6_networkMoves_169 (by decide) ?_
    have hV : rfV G ad ce1 (va_up T 0 (va_up (T 0) 7 (-1))) Q M := ⟨_, _, _, _, ⟨h100, h101, h102, h103, h104, h105, h106, h107, h108, h109, h110, h111⟩, hQ, hM⟩
    refine z_invV F (rest := []) (r_become1 l (va_up T 0 (va_up (T 0) 7 (-1))) Q M hV 0 0 0) yv_X6_83 ⟨Nat.le_of_ble_eq_true rfl, Nat.le_of_ble_eq_true rfl⟩ hw hA hS hl h100 rfl rfl rfl (Nat.le_of_ble_eq_true rfl) dX6_networkMoves_170 ⟨Nat.le_of_ble_eq_true rfl, Nat.le_of_ble_eq_true rfl⟩ (fun r ad1 ce3 H locs hp hw hS => ?_)
    obtain ⟨rfl, rfl, hV, hF2⟩ := hp
    have hF : ∀ j, j < 100 → ce3 j = ce j := fun j hj => (hF2 j hj).trans (hF j hj)
    obtain ⟨cn, zs, bs, hh, ⟨h100, h101, h102, h103, h104, h105, h106, h107, h108, h109, h110, h111⟩, hQ, hM⟩ := hV
    refine W.eq (g2 := F0 m 173 ls []) rfl ?_
    refine lv_iconst (v := 1) hx hb dX6_networkMoves_173 (by decide) ?_
    exact z_iret F (rfl) hw hS (by unfold sp_networkMoves; rw [if_pos h1_1]; exact ⟨rfl, rfl, ⟨_, _, _, _, ⟨h100, h101, h102, h103, h104, h105, h106, h107, h108, h109, h110, h111⟩, hQ, hM⟩, hF⟩) dX6_networkMoves_174
  by_cases h1_8 : ty = 8
  · refine lv_lookup (tgt := 44) (off := 43) hx hb dX6_networkMoves_1 (by decide) (by rw [h1_8]; rfl) (by decide) ?_
    refine lv_aload_n hx hb dX6_networkMoves_44 rfl (lv_at hl 0 rfl) ?_
    refine z_get F hw h100 fd_X6_23_X6 rfl dX6_networkMoves_45 ?_
    refine lv_iconst (v := 1) hx hb dX6_networkMoves_48 (by decide) ?_
    refine z_ld F hw h104 (1) (rfl) (by decide) (by decide) dX6_networkMoves_49 ?_
    refine lv_if_ne (tgt := 63) hx hb dX6_networkMoves_50 (by decide) (fun c50 => ?_) (fun c50 => ?_)
    · refine lv_iconst (v := 0) hx hb dX6_networkMoves_63 (by decide) ?_
      exact z_iret F (rfl) hw hS (by unfold sp_networkMoves; rw [if_neg h1_1, if_pos h1_8, if_neg c50]; exact ⟨rfl, rfl, ⟨_, _, _, _, ⟨h100, h101, h102, h103, h104, h105, h106, h107, h108, h109, h110, h111⟩, hQ, hM⟩, hF⟩) dX6_networkMoves_64
    · refine lv_aload_n hx hb dX6_networkMoves_53 rfl (lv_at hl 0 rfl) ?_
      refine lv_bipush (v := 19) hx hb dX6_networkMoves_54 (by decide) ?_
      refine lv_iconst (v := 2) hx hb dX6_networkMoves_56 (by decide) ?_
      have hV : rfV G ad ce T Q M := ⟨_, _, _, _, ⟨h100, h101, h102, h103, h104, h105, h106, h107, h108, h109, h110, h111⟩, hQ, hM⟩
      refine z_invV F (rest := []) (r_has l T Q M hV hg 19 2 (by decide) (by decide)) yv_X6_87 ⟨Nat.le_of_ble_eq_true rfl, Nat.le_of_ble_eq_true rfl⟩ hw hA hS hl h100 rfl rfl rfl (Nat.le_of_ble_eq_true rfl) dX6_networkMoves_57 ⟨Nat.le_of_ble_eq_true rfl, Nat.le_of_ble_eq_true rfl⟩ (fun r ad1 ce4 H locs hp hw hS => ?_)
      obtain ⟨hp, rfl, rfl⟩ := hp
      rcases hp with ⟨hs, rfl⟩ | ⟨hs, rfl⟩
      · refine W.eq (g2 := F0 m 60 ls [.int 1]) rfl ?_
        refine lv_if_ne (tgt := 65) hx hb dX6_networkMoves_60 (by decide) (fun c60 => ?_) (fun c60 => absurd c60 (by decide))
        refine lv_aload_n hx hb dX6_networkMoves_65 rfl (lv_at hl 0 rfl) ?_
        refine lv_aload_n hx hb dX6_networkMoves_66 rfl (lv_at hl 0 rfl) ?_
        refine lv_bipush (v := 19) hx hb dX6_networkMoves_67 (by decide) ?_
        have hV : rfV G ad ce T Q M := ⟨_, _, _, _, ⟨h100, h101, h102, h103, h104, h105, h106, h107, h108, h109, h110, h111⟩, hQ, hM⟩
        refine z_invV F (rest := [.ref (ad 100)]) (r_number l T Q M hV hg 19 2 (by decide) hs) yv_X6_95 ⟨Nat.le_of_ble_eq_true rfl, Nat.le_of_ble_eq_true rfl⟩ hw hA hS hl h100 rfl rfl rfl (Nat.le_of_ble_eq_true rfl) dX6_networkMoves_69 ⟨Nat.le_of_ble_eq_true rfl, Nat.le_of_ble_eq_true rfl⟩ (fun r ad1 ce5 H locs hp hw hS => ?_)
        obtain ⟨rfl, rfl, rfl⟩ := hp
        refine W.eq (g2 := F0 m 72 ls [.int (rf_val M 19), .ref (ad 100)]) rfl ?_
        refine z_put F hw hS (fs' := [.int (T 0 0), .int (T 0 1), .int (T 0 2), .int (T 0 3), .int (T 0 4), .ref (ad 101), .ref (ad 102), .ref (ad 103), .int (T 0 5), .ref (ad 104), .ref (ad 105), .ref (ad 106), .ref (ad 107), .ref (ad 108), .int (T 0 6), .int (T 0 7), .int (rf_val M 19), .ref (ad 109), .int (T 0 9), .ref (ad 110), .int (T 0 10), .int (nI M.length), .ref (ad 111)]) h100 fd_X6_126_X6 ptX6 rfl (rfl) (rfl) (Nat.le_of_ble_eq_true rfl) rfl dX6_networkMoves_72 (fun ce6 H locs h100 fr7 hw hS => ?_)
        have h101 := (fr7 101 (by decide)).trans h101
        have h102 := (fr7 102 (by decide)).trans h102
        have h103 := (fr7 103 (by decide)).trans h103
        have h104 := (fr7 104 (by decide)).trans h104
        have h105 := (fr7 105 (by decide)).trans h105
        have h106 := (fr7 106 (by decide)).trans h106
        have h107 := (fr7 107 (by decide)).trans h107
        have h108 := (fr7 108 (by decide)).trans h108
        have h109 := (fr7 109 (by decide)).trans h109
        have h110 := (fr7 110 (by decide)).trans h110
        have h111 := (fr7 111 (by decide)).trans h111
        have hF : ∀ j, j < 100 → _ = ce j := fun j hj => (fr7 j (by omega)).trans (hF j hj)
        refine lv_aload_n hx hb dX6_networkMoves_75 rfl (lv_at hl 0 rfl) ?_
        refine lv_iconst (v := 1) hx hb dX6_networkMoves_76 (by decide) ?_
        have hV : rfV G ad ce6 (va_up T 0 (va_up (T 0) 8 (rf_val M 19))) Q M := ⟨_, _, _, _, ⟨h100, h101, h102, h103, h104, h105, h106, h107, h108, h109, h110, h111⟩, hQ, hM⟩
        refine z_invV F (rest := []) (r_ask l (va_up T 0 (va_up (T 0) 8 (rf_val M 19))) Q M hV 1) yv_X6_129 ⟨Nat.le_of_ble_eq_true rfl, Nat.le_of_ble_eq_true rfl⟩ hw hA hS hl h100 rfl rfl rfl (Nat.le_of_ble_eq_true rfl) dX6_networkMoves_77 ⟨Nat.le_of_ble_eq_true rfl, Nat.le_of_ble_eq_true rfl⟩ (fun r ad1 ce8 H locs hp hw hS => ?_)
        obtain ⟨rfl, rfl, hV, hF2⟩ := hp
        have hF : ∀ j, j < 100 → ce8 j = ce j := fun j hj => (hF2 j hj).trans (hF j hj)
        obtain ⟨cn, zs, bs, hh, ⟨h100, h101, h102, h103, h104, h105, h106, h107, h108, h109, h110, h111⟩, hQ, hM⟩ := hV
        refine W.eq (g2 := F0 m 80 ls []) rfl ?_
        refine lv_iconst (v := 1) hx hb dX6_networkMoves_80 (by decide) ?_
        exact z_iret F (rfl) hw hS (by unfold sp_networkMoves; rw [if_neg h1_1, if_pos h1_8, if_pos c50, if_pos hs]; exact ⟨rfl, rfl, ⟨_, _, _, _, ⟨h100, h101, h102, h103, h104, h105, h106, h107, h108, h109, h110, h111⟩, hQ, hM⟩, hF⟩) dX6_networkMoves_81
      · refine W.eq (g2 := F0 m 60 ls [.int 0]) rfl ?_
        refine lv_if_ne (tgt := 65) hx hb dX6_networkMoves_60 (by decide) (fun c60 => absurd c60 (by decide)) (fun c60 => ?_)
        refine lv_iconst (v := 0) hx hb dX6_networkMoves_63 (by decide) ?_
        exact z_iret F (rfl) hw hS (by unfold sp_networkMoves; rw [if_neg h1_1, if_pos h1_8, if_pos c50, if_neg hs]; exact ⟨rfl, rfl, ⟨_, _, _, _, ⟨h100, h101, h102, h103, h104, h105, h106, h107, h108, h109, h110, h111⟩, hQ, hM⟩, hF⟩) dX6_networkMoves_64
  by_cases h1_20 : ty = 20
  · refine lv_lookup (tgt := 122) (off := 121) hx hb dX6_networkMoves_1 (by decide) (by rw [h1_20]; rfl) (by decide) ?_
    refine lv_aload_n hx hb dX6_networkMoves_122 rfl (lv_at hl 0 rfl) ?_
    refine z_get F hw h100 fd_X6_23_X6 rfl dX6_networkMoves_123 ?_
    refine lv_iconst (v := 1) hx hb dX6_networkMoves_126 (by decide) ?_
    refine z_ld F hw h104 (1) (rfl) (by decide) (by decide) dX6_networkMoves_127 ?_
    refine lv_iconst (v := 1) hx hb dX6_networkMoves_128 (by decide) ?_
    refine lv_icmp_eq (tgt := 142) hx hb dX6_networkMoves_129 (by decide) (fun c129 => ?_) (fun c129 => ?_)
    · refine lv_aload_n hx hb dX6_networkMoves_142 rfl (lv_at hl 0 rfl) ?_
      refine lv_bipush (v := 34) hx hb dX6_networkMoves_143 (by decide) ?_
      refine lv_iconst (v := 4) hx hb dX6_networkMoves_145 (by decide) ?_
      have hV : rfV G ad ce T Q M := ⟨_, _, _, _, ⟨h100, h101, h102, h103, h104, h105, h106, h107, h108, h109, h110, h111⟩, hQ, hM⟩
      refine z_invV F (rest := []) (r_has l T Q M hV hg 34 4 (by decide) (by decide)) yv_X6_87 ⟨Nat.le_of_ble_eq_true rfl, Nat.le_of_ble_eq_true rfl⟩ hw hA hS hl h100 rfl rfl rfl (Nat.le_of_ble_eq_true rfl) dX6_networkMoves_146 ⟨Nat.le_of_ble_eq_true rfl, Nat.le_of_ble_eq_true rfl⟩ (fun r ad1 ce9 H locs hp hw hS => ?_)
      obtain ⟨hp, rfl, rfl⟩ := hp
      rcases hp with ⟨hs, rfl⟩ | ⟨hs, rfl⟩
      · refine W.eq (g2 := F0 m 149 ls [.int 1]) rfl ?_
        refine lv_if_ne (tgt := 154) hx hb dX6_networkMoves_149 (by decide) (fun c149 => ?_) (fun c149 => absurd c149 (by decide))
        refine lv_aload_n hx hb dX6_networkMoves_154 rfl (lv_at hl 0 rfl) ?_
        have hV : rfV G ad ce T Q M := ⟨_, _, _, _, ⟨h100, h101, h102, h103, h104, h105, h106, h107, h108, h109, h110, h111⟩, hQ, hM⟩
        refine z_invV F (rest := []) (r_judge l T Q M hV hg hs) yv_X6_132 ⟨Nat.le_of_ble_eq_true rfl, Nat.le_of_ble_eq_true rfl⟩ hw hA hS hl h100 rfl rfl rfl (Nat.le_of_ble_eq_true rfl) dX6_networkMoves_155 ⟨Nat.le_of_ble_eq_true rfl, Nat.le_of_ble_eq_true rfl⟩ (fun r ad1 ce10 H locs hp hw hS => ?_)
        obtain ⟨rfl, rfl, hV, hF2⟩ := hp
        have hF : ∀ j, j < 100 → ce10 j = ce j := fun j hj => (hF2 j hj).trans (hF j hj)
        obtain ⟨cn, zs, bs, hh, ⟨h100, h101, h102, h103, h104, h105, h106, h107, h108, h109, h110, h111⟩, hQ, hM⟩ := hV
        refine W.eq (g2 := F0 m 158 ls []) rfl ?_
        refine lv_iconst (v := 1) hx hb dX6_networkMoves_158 (by decide) ?_
        exact z_iret F (rfl) hw hS (by unfold sp_networkMoves; rw [if_neg h1_1, if_neg h1_8, if_pos h1_20, if_pos c129, if_pos hs]; exact ⟨rfl, rfl, ⟨_, _, _, _, ⟨h100, h101, h102, h103, h104, h105, h106, h107, h108, h109, h110, h111⟩, hQ, hM⟩, hF⟩) dX6_networkMoves_159
      · refine W.eq (g2 := F0 m 149 ls [.int 0]) rfl ?_
        refine lv_if_ne (tgt := 154) hx hb dX6_networkMoves_149 (by decide) (fun c149 => absurd c149 (by decide)) (fun c149 => ?_)
        refine lv_iconst (v := 0) hx hb dX6_networkMoves_152 (by decide) ?_
        exact z_iret F (rfl) hw hS (by unfold sp_networkMoves; rw [if_neg h1_1, if_neg h1_8, if_pos h1_20, if_pos c129, if_neg hs]; exact ⟨rfl, rfl, ⟨_, _, _, _, ⟨h100, h101, h102, h103, h104, h105, h106, h107, h108, h109, h110, h111⟩, hQ, hM⟩, hF⟩) dX6_networkMoves_153
    · refine lv_aload_n hx hb dX6_networkMoves_132 rfl (lv_at hl 0 rfl) ?_
      refine z_get F hw h100 fd_X6_23_X6 rfl dX6_networkMoves_133 ?_
      refine lv_iconst (v := 1) hx hb dX6_networkMoves_136 (by decide) ?_
      refine z_ld F hw h104 (1) (rfl) (by decide) (by decide) dX6_networkMoves_137 ?_
      refine lv_iconst (v := 2) hx hb dX6_networkMoves_138 (by decide) ?_
      refine lv_icmp_ne (tgt := 152) hx hb dX6_networkMoves_139 (by decide) (fun c139 => ?_) (fun c139 => ?_)
      · refine lv_iconst (v := 0) hx hb dX6_networkMoves_152 (by decide) ?_
        exact z_iret F (rfl) hw hS (by unfold sp_networkMoves; rw [if_neg h1_1, if_neg h1_8, if_pos h1_20, if_neg c129, if_neg c139]; exact ⟨rfl, rfl, ⟨_, _, _, _, ⟨h100, h101, h102, h103, h104, h105, h106, h107, h108, h109, h110, h111⟩, hQ, hM⟩, hF⟩) dX6_networkMoves_153
      · refine lv_aload_n hx hb dX6_networkMoves_142 rfl (lv_at hl 0 rfl) ?_
        refine lv_bipush (v := 34) hx hb dX6_networkMoves_143 (by decide) ?_
        refine lv_iconst (v := 4) hx hb dX6_networkMoves_145 (by decide) ?_
        have hV : rfV G ad ce T Q M := ⟨_, _, _, _, ⟨h100, h101, h102, h103, h104, h105, h106, h107, h108, h109, h110, h111⟩, hQ, hM⟩
        refine z_invV F (rest := []) (r_has l T Q M hV hg 34 4 (by decide) (by decide)) yv_X6_87 ⟨Nat.le_of_ble_eq_true rfl, Nat.le_of_ble_eq_true rfl⟩ hw hA hS hl h100 rfl rfl rfl (Nat.le_of_ble_eq_true rfl) dX6_networkMoves_146 ⟨Nat.le_of_ble_eq_true rfl, Nat.le_of_ble_eq_true rfl⟩ (fun r ad1 ce11 H locs hp hw hS => ?_)
        obtain ⟨hp, rfl, rfl⟩ := hp
        rcases hp with ⟨hs, rfl⟩ | ⟨hs, rfl⟩
        · refine W.eq (g2 := F0 m 149 ls [.int 1]) rfl ?_
          refine lv_if_ne (tgt := 154) hx hb dX6_networkMoves_149 (by decide) (fun c149 => ?_) (fun c149 => absurd c149 (by decide))
          refine lv_aload_n hx hb dX6_networkMoves_154 rfl (lv_at hl 0 rfl) ?_
          have hV : rfV G ad ce T Q M := ⟨_, _, _, _, ⟨h100, h101, h102, h103, h104, h105, h106, h107, h108, h109, h110, h111⟩, hQ, hM⟩
          refine z_invV F (rest := []) (r_judge l T Q M hV hg hs) yv_X6_132 ⟨Nat.le_of_ble_eq_true rfl, Nat.le_of_ble_eq_true rfl⟩ hw hA hS hl h100 rfl rfl rfl (Nat.le_of_ble_eq_true rfl) dX6_networkMoves_155 ⟨Nat.le_of_ble_eq_true rfl, Nat.le_of_ble_eq_true rfl⟩ (fun r ad1 ce12 H locs hp hw hS => ?_)
          obtain ⟨rfl, rfl, hV, hF2⟩ := hp
          have hF : ∀ j, j < 100 → ce12 j = ce j := fun j hj => (hF2 j hj).trans (hF j hj)
          obtain ⟨cn, zs, bs, hh, ⟨h100, h101, h102, h103, h104, h105, h106, h107, h108, h109, h110, h111⟩, hQ, hM⟩ := hV
          refine W.eq (g2 := F0 m 158 ls []) rfl ?_
          refine lv_iconst (v := 1) hx hb dX6_networkMoves_158 (by decide) ?_
          exact z_iret F (rfl) hw hS (by unfold sp_networkMoves; rw [if_neg h1_1, if_neg h1_8, if_pos h1_20, if_neg c129, if_pos c139, if_pos hs]; exact ⟨rfl, rfl, ⟨_, _, _, _, ⟨h100, h101, h102, h103, h104, h105, h106, h107, h108, h109, h110, h111⟩, hQ, hM⟩, hF⟩) dX6_networkMoves_159
        · refine W.eq (g2 := F0 m 149 ls [.int 0]) rfl ?_
          refine lv_if_ne (tgt := 154) hx hb dX6_networkMoves_149 (by decide) (fun c149 => absurd c149 (by decide)) (fun c149 => ?_)
          refine lv_iconst (v := 0) hx hb dX6_networkMoves_152 (by decide) ?_
          exact z_iret F (rfl) hw hS (by unfold sp_networkMoves; rw [if_neg h1_1, if_neg h1_8, if_pos h1_20, if_neg c129, if_pos c139, if_neg hs]; exact ⟨rfl, rfl, ⟨_, _, _, _, ⟨h100, h101, h102, h103, h104, h105, h106, h107, h108, h109, h110, h111⟩, hQ, hM⟩, hF⟩) dX6_networkMoves_153
  by_cases h1_36 : ty = 36
  · refine lv_lookup (tgt := 82) (off := 81) hx hb dX6_networkMoves_1 (by decide) (by rw [h1_36]; rfl) (by decide) ?_
    refine lv_aload_n hx hb dX6_networkMoves_82 rfl (lv_at hl 0 rfl) ?_
    refine z_get F hw h100 fd_X6_23_X6 rfl dX6_networkMoves_83 ?_
    refine lv_iconst (v := 1) hx hb dX6_networkMoves_86 (by decide) ?_
    refine z_ld F hw h104 (1) (rfl) (by decide) (by decide) dX6_networkMoves_87 ?_
    refine lv_if_eq (tgt := 93) hx hb dX6_networkMoves_88 (by decide) (fun c88 => ?_) (fun c88 => ?_)
    · refine lv_aload_n hx hb dX6_networkMoves_93 rfl (lv_at hl 0 rfl) ?_
      refine z_get F hw h100 fd_X6_39_X6 rfl dX6_networkMoves_94 ?_
      refine lv_if_ge (tgt := 115) hx hb dX6_networkMoves_97 (by decide) (fun c97 => ?_) (fun c97 => ?_)
      · refine lv_aload_n hx hb dX6_networkMoves_115 rfl (lv_at hl 0 rfl) ?_
        refine lv_iconst (v := 2) hx hb dX6_networkMoves_116 (by decide) ?_
        have hV : rfV G ad ce T Q M := ⟨_, _, _, _, ⟨h100, h101, h102, h103, h104, h105, h106, h107, h108, h109, h110, h111⟩, hQ, hM⟩
        refine z_invV F (rest := []) (r_ask l T Q M hV 2) yv_X6_129 ⟨Nat.le_of_ble_eq_true rfl, Nat.le_of_ble_eq_true rfl⟩ hw hA hS hl h100 rfl rfl rfl (Nat.le_of_ble_eq_true rfl) dX6_networkMoves_117 ⟨Nat.le_of_ble_eq_true rfl, Nat.le_of_ble_eq_true rfl⟩ (fun r ad1 ce13 H locs hp hw hS => ?_)
        obtain ⟨rfl, rfl, hV, hF2⟩ := hp
        have hF : ∀ j, j < 100 → ce13 j = ce j := fun j hj => (hF2 j hj).trans (hF j hj)
        obtain ⟨cn, zs, bs, hh, ⟨h100, h101, h102, h103, h104, h105, h106, h107, h108, h109, h110, h111⟩, hQ, hM⟩ := hV
        refine W.eq (g2 := F0 m 120 ls []) rfl ?_
        refine lv_iconst (v := 1) hx hb dX6_networkMoves_120 (by decide) ?_
        exact z_iret F (rfl) hw hS (by unfold sp_networkMoves; rw [if_neg h1_1, if_neg h1_8, if_neg h1_20, if_pos h1_36, if_pos c88, if_pos c97]; exact ⟨rfl, rfl, ⟨_, _, _, _, ⟨h100, h101, h102, h103, h104, h105, h106, h107, h108, h109, h110, h111⟩, hQ, hM⟩, hF⟩) dX6_networkMoves_121
      · refine lv_aload_n hx hb dX6_networkMoves_100 rfl (lv_at hl 0 rfl) ?_
        refine lv_iconst (v := 1) hx hb dX6_networkMoves_101 (by decide) ?_
        refine lv_iconst (v := 5) hx hb dX6_networkMoves_102 (by decide) ?_
        refine lv_bipush (v := 34) hx hb dX6_networkMoves_103 (by decide) ?_
        refine lv_bipush (v := 8) hx hb dX6_networkMoves_105 (by decide) ?_
        refine lv_iconst (v := 1) hx hb dX6_networkMoves_107 (by decide) ?_
        refine lv_iconst (v := 4) hx hb dX6_networkMoves_108 (by decide) ?_
        have hV : rfV G ad ce T Q M := ⟨_, _, _, _, ⟨h100, h101, h102, h103, h104, h105, h106, h107, h108, h109, h110, h111⟩, hQ, hM⟩
        refine z_invV F (rest := []) (r_tell1_1 l T Q M hV 5 34 8 (by decide) (by decide) (by decide) 4) yv_X6_112 ⟨Nat.le_of_ble_eq_true rfl, Nat.le_of_ble_eq_true rfl⟩ hw hA hS hl h100 rfl rfl rfl (Nat.le_of_ble_eq_true rfl) dX6_networkMoves_109 ⟨Nat.le_of_ble_eq_true rfl, Nat.le_of_ble_eq_true rfl⟩ (fun r ad1 ce14 H locs hp hw hS => ?_)
        obtain ⟨rfl, rfl, hV, hF2⟩ := hp
        have hF : ∀ j, j < 100 → ce14 j = ce j := fun j hj => (hF2 j hj).trans (hF j hj)
        obtain ⟨cn, zs, bs, hh, ⟨h100, h101, h102, h103, h104, h105, h106, h107, h108, h109, h110, h111⟩, hQ, hM⟩ := hV
        refine W.eq (g2 := F0 m 112 ls []) rfl ?_
        refine lv_goto (tgt := 120) hx hb dX6_networkMoves_112 (by decide) ?_
        refine lv_iconst (v := 1) hx hb dX6_networkMoves_120 (by decide) ?_
        exact z_iret F (rfl) hw hS (by unfold sp_networkMoves; rw [if_neg h1_1, if_neg h1_8, if_neg h1_20, if_pos h1_36, if_pos c88, if_neg c97]; exact ⟨rfl, rfl, ⟨_, _, _, _, ⟨h100, h101, h102, h103, h104, h105, h106, h107, h108, h109, h110, h111⟩, hQ, hM⟩, hF⟩) dX6_networkMoves_121
    · refine lv_iconst (v := 0) hx hb dX6_networkMoves_91 (by decide) ?_
      exact z_iret F (rfl) hw hS (by unfold sp_networkMoves; rw [if_neg h1_1, if_neg h1_8, if_neg h1_20, if_pos h1_36, if_neg c88]; exact ⟨rfl, rfl, ⟨_, _, _, _, ⟨h100, h101, h102, h103, h104, h105, h106, h107, h108, h109, h110, h111⟩, hQ, hM⟩, hF⟩) dX6_networkMoves_92
  refine lv_lookup (tgt := 175) (off := 174) hx hb dX6_networkMoves_1 (by decide) ((lv_osw (k := 1) (fun q => h1_1 (rf_ei hty (by decide) q)) rfl).trans ((lv_osw (k := 8) (fun q => h1_8 (rf_ei hty (by decide) q)) rfl).trans ((lv_osw (k := 20) (fun q => h1_20 (rf_ei hty (by decide) q)) rfl).trans ((lv_osw (k := 36) (fun q => h1_36 (rf_ei hty (by decide) q)) rfl).trans (rfl))))) (by decide) ?_
  refine lv_iconst (v := 0) hx hb dX6_networkMoves_175 (by decide) ?_
  exact z_iret F (rfl) hw hS (by unfold sp_networkMoves; rw [if_neg h1_1, if_neg h1_8, if_neg h1_20, if_neg h1_36]; exact ⟨rfl, rfl, ⟨_, _, _, _, ⟨h100, h101, h102, h103, h104, h105, h106, h107, h108, h109, h110, h111⟩, hQ, hM⟩, hF⟩) dX6_networkMoves_176
def sp_out0 (T : rf_T) (Q : rf_Q) (M : List Nat) : rf_R := (if (((T 2) 0) : Int32) = 5 then (0, (rf_rel T 0), rf_put T Q 0 [3, 45]) else (if (((T 2) 0) : Int32) = 6 then (if (((T 4) 0) : Int32) = 0 then (0, va_up (va_up T 3 (upd (T 3) 0 30)) 4 (upd (T 4) 0 1), rf_put T Q 0 [3, 45]) else (if (((T 2) 0) : Int32) = 6 then (0, (rf_become T 0 3 0 0), Q) else (if (((T 2) 0) : Int32) = 1 then (0, (rf_become T 0 3 0 0), rf_put T Q 0 [3, 42]) else (if (((T 1) 0) : Int32) = 2 then (0, (rf_become T 0 1 ((T 2) 0) 0), Q) else (if (((T 1) 0) : Int32) = 4 then (0, (rf_become T 0 3 ((T 2) 0) 0), Q) else (0, (rf_become T 0 ((T 1) 0) ((T 2) 0) 0), Q)))))) else (if (((T 2) 0) : Int32) = 6 then (0, (rf_become T 0 3 0 0), Q) else (if (((T 2) 0) : Int32) = 1 then (0, (rf_become T 0 3 0 0), rf_put T Q 0 [3, 42]) else (if (((T 1) 0) : Int32) = 2 then (0, (rf_become T 0 1 ((T 2) 0) 0), Q) else (if (((T 1) 0) : Int32) = 4 then (0, (rf_become T 0 3 ((T 2) 0) 0), Q) else (0, (rf_become T 0 ((T 1) 0) ((T 2) 0) 0), Q)))))))
set_option maxHeartbeats 4000000 in
set_option maxRecDepth 100000 in
theorem r_out0 (l : Launch) {G : zz_G} {ad : Nat → Nat} {ce : zz_C} {sz : Nat} (T : rf_T) (Q : rf_Q) (M : List Nat) (hV : rfV G ad ce T Q M) : zz_M l yX6_out cX6_out 3 none 2 52 0 0 G [.ref (ad 100), .int 0] ad ce sz (fun r ad1 ce1 => r = none ∧ ad = ad1 ∧ rfV G ad ce1 (sp_out0 T Q M).2.1 (sp_out0 T Q M).2.2 M ∧ (∀ j, j < 100 → ce1 j = ce j)) := by
  refine zz_enter (by decide) (Nat.le_of_ble_eq_true rfl) ?_
  intro p e s m below meth c ls F hl hw hS hA
  obtain ⟨hx, hb, hr, hml, hown, hts, hlocks, hK, hnm⟩ := id F
  have hl : lv_has ls 3 [(0, .ref (ad 100)), (1, .int 0)] := hl
  obtain ⟨cn, zs, bs, hh, ⟨h100, h101, h102, h103, h104, h105, h106, h107, h108, h109, h110, h111⟩, hQ, hM⟩ := hV
  have hF : ∀ j, j < 100 → ce j = ce j := fun _ _ => rfl
  refine lv_bipush (v := -3) hx hb dX6_out_0 (by decide) ?_
  refine lv_istore_n (lv' := [(2, .int (-3)), (0, .ref (ad 100)), (1, .int 0)]) hx hb dX6_out_2 rfl hl (by decide) rfl (fun ls hl => ?_)
  refine lv_aload_n hx hb dX6_out_3 rfl (lv_at hl 1 rfl) ?_
  refine z_get F hw h100 fd_X6_26_X6 rfl dX6_out_4 ?_
  refine lv_iload_n hx hb dX6_out_7 rfl (lv_at hl 2 rfl) ?_
  refine z_ld F hw h105 (0) (rfl) (by decide) (by decide) dX6_out_8 ?_
  refine lv_iconst (v := 5) hx hb dX6_out_9 (by decide) ?_
  refine lv_icmp_ne (tgt := 21) hx hb dX6_out_10 (by decide) (fun c10 => ?_) (fun c10 => ?_)
  · refine lv_aload_n hx hb dX6_out_21 rfl (lv_at hl 1 rfl) ?_
    refine z_get F hw h100 fd_X6_26_X6 rfl dX6_out_22 ?_
    refine lv_iload_n hx hb dX6_out_25 rfl (lv_at hl 2 rfl) ?_
    refine z_ld F hw h105 (0) (rfl) (by decide) (by decide) dX6_out_26 ?_
    refine lv_bipush (v := 6) hx hb dX6_out_27 (by decide) ?_
    refine lv_icmp_ne (tgt := 72) hx hb dX6_out_29 (by decide) (fun c29 => ?_) (fun c29 => ?_)
    · refine lv_aload_n hx hb dX6_out_72 rfl (lv_at hl 1 rfl) ?_
      refine z_get F hw h100 fd_X6_26_X6 rfl dX6_out_73 ?_
      refine lv_iload_n hx hb dX6_out_76 rfl (lv_at hl 2 rfl) ?_
      refine z_ld F hw h105 (0) (rfl) (by decide) (by decide) dX6_out_77 ?_
      refine lv_bipush (v := 6) hx hb dX6_out_78 (by decide) ?_
      refine lv_icmp_ne (tgt := 98) hx hb dX6_out_80 (by decide) (fun c80 => ?_) (fun c80 => ?_)
      · refine lv_iload_n hx hb dX6_out_98 rfl (lv_at hl 2 rfl) ?_
        refine lv_if_ne (tgt := 132) hx hb dX6_out_99 (by decide) (fun c99 => absurd c99 (by decide)) (fun c99 => ?_)
        refine lv_aload_n hx hb dX6_out_102 rfl (lv_at hl 1 rfl) ?_
        refine z_get F hw h100 fd_X6_26_X6 rfl dX6_out_103 ?_
        refine lv_iconst (v := 0) hx hb dX6_out_106 (by decide) ?_
        refine z_ld F hw h105 (0) (rfl) (by decide) (by decide) dX6_out_107 ?_
        refine lv_iconst (v := 1) hx hb dX6_out_108 (by decide) ?_
        refine lv_icmp_ne (tgt := 132) hx hb dX6_out_109 (by decide) (fun c109 => ?_) (fun c109 => ?_)
        · refine lv_iload_n hx hb dX6_out_132 rfl (lv_at hl 2 rfl) ?_
          refine lv_if_ne (tgt := 185) hx hb dX6_out_133 (by decide) (fun c133 => absurd c133 (by decide)) (fun c133 => ?_)
          refine lv_aload_n hx hb dX6_out_136 rfl (lv_at hl 1 rfl) ?_
          refine lv_iconst (v := 0) hx hb dX6_out_137 (by decide) ?_
          refine lv_aload_n hx hb dX6_out_138 rfl (lv_at hl 1 rfl) ?_
          refine z_get F hw h100 fd_X6_23_X6 rfl dX6_out_139 ?_
          refine lv_iconst (v := 0) hx hb dX6_out_142 (by decide) ?_
          refine z_ld F hw h104 (0) (rfl) (by decide) (by decide) dX6_out_143 ?_
          refine lv_iconst (v := 2) hx hb dX6_out_144 (by decide) ?_
          refine lv_icmp_ne (tgt := 152) hx hb dX6_out_145 (by decide) (fun c145 => ?_) (fun c145 => ?_)
          · refine lv_aload_n hx hb dX6_out_152 rfl (lv_at hl 1 rfl) ?_
            refine z_get F hw h100 fd_X6_23_X6 rfl dX6_out_153 ?_
            refine lv_iconst (v := 0) hx hb dX6_out_156 (by decide) ?_
            refine z_ld F hw h104 (0) (rfl) (by decide) (by decide) dX6_out_157 ?_
            refine lv_iconst (v := 4) hx hb dX6_out_158 (by decide) ?_
            refine lv_icmp_ne (tgt := 166) hx hb dX6_out_159 (by decide) (fun c159 => ?_) (fun c159 => ?_)
            · refine lv_aload_n hx hb dX6_out_166 rfl (lv_at hl 1 rfl) ?_
              refine z_get F hw h100 fd_X6_23_X6 rfl dX6_out_167 ?_
              refine lv_iconst (v := 0) hx hb dX6_out_170 (by decide) ?_
              refine z_ld F hw h104 (0) (rfl) (by decide) (by decide) dX6_out_171 ?_
              refine lv_aload_n hx hb dX6_out_172 rfl (lv_at hl 1 rfl) ?_
              refine z_get F hw h100 fd_X6_26_X6 rfl dX6_out_173 ?_
              refine lv_iconst (v := 0) hx hb dX6_out_176 (by decide) ?_
              refine z_ld F hw h105 (0) (rfl) (by decide) (by decide) dX6_out_177 ?_
              refine lv_iconst (v := 0) hx hb dX6_out_178 (by decide) ?_
              have hV : rfV G ad ce T Q M := ⟨_, _, _, _, ⟨h100, h101, h102, h103, h104, h105, h106, h107, h108, h109, h110, h111⟩, hQ, hM⟩
              refine z_invV F (rest := []) (r_become0 l T Q M hV ((T 1) 0) ((T 2) 0) 0) yv_X6_83 ⟨Nat.le_of_ble_eq_true rfl, Nat.le_of_ble_eq_true rfl⟩ hw hA hS hl h100 rfl rfl rfl (Nat.le_of_ble_eq_true rfl) dX6_out_179 ⟨Nat.le_of_ble_eq_true rfl, Nat.le_of_ble_eq_true rfl⟩ (fun r ad1 ce1 H locs hp hw hS => ?_)
              obtain ⟨rfl, rfl, hV, hF2⟩ := hp
              have hF : ∀ j, j < 100 → ce1 j = ce j := fun j hj => (hF2 j hj).trans (hF j hj)
              obtain ⟨cn, zs, bs, hh, ⟨h100, h101, h102, h103, h104, h105, h106, h107, h108, h109, h110, h111⟩, hQ, hM⟩ := hV
              refine W.eq (g2 := F0 m 182 ls []) rfl ?_
              refine lv_goto (tgt := 247) hx hb dX6_out_182 (by decide) ?_
              exact z_vret F hw hS (by unfold sp_out0; rw [if_neg c10, if_neg c29, if_neg c80, if_neg c109, if_neg c145, if_neg c159]; exact ⟨rfl, rfl, ⟨_, _, _, _, ⟨h100, h101, h102, h103, h104, h105, h106, h107, h108, h109, h110, h111⟩, hQ, hM⟩, hF⟩) dX6_out_247
            · refine lv_iconst (v := 3) hx hb dX6_out_162 (by decide) ?_
              refine lv_goto (tgt := 172) hx hb dX6_out_163 (by decide) ?_
              refine lv_aload_n hx hb dX6_out_172 rfl (lv_at hl 1 rfl) ?_
              refine z_get F hw h100 fd_X6_26_X6 rfl dX6_out_173 ?_
              refine lv_iconst (v := 0) hx hb dX6_out_176 (by decide) ?_
              refine z_ld F hw h105 (0) (rfl) (by decide) (by decide) dX6_out_177 ?_
              refine lv_iconst (v := 0) hx hb dX6_out_178 (by decide) ?_
              have hV : rfV G ad ce T Q M := ⟨_, _, _, _, ⟨h100, h101, h102, h103, h104, h105, h106, h107, h108, h109, h110, h111⟩, hQ, hM⟩
              refine z_invV F (rest := []) (r_become0 l T Q M hV 3 ((T 2) 0) 0) yv_X6_83 ⟨Nat.le_of_ble_eq_true rfl, Nat.le_of_ble_eq_true rfl⟩ hw hA hS hl h100 rfl rfl rfl (Nat.le_of_ble_eq_true rfl) dX6_out_179 ⟨Nat.le_of_ble_eq_true rfl, Nat.le_of_ble_eq_true rfl⟩ (fun r ad1 ce2 H locs hp hw hS => ?_)
              obtain ⟨rfl, rfl, hV, hF2⟩ := hp
              have hF : ∀ j, j < 100 → ce2 j = ce j := fun j hj => (hF2 j hj).trans (hF j hj)
              obtain ⟨cn, zs, bs, hh, ⟨h100, h101, h102, h103, h104, h105, h106, h107, h108, h109, h110, h111⟩, hQ, hM⟩ := hV
              refine W.eq (g2 := F0 m 182 ls []) rfl ?_
              refine lv_goto (tgt := 247) hx hb dX6_out_182 (by decide) ?_
              exact z_vret F hw hS (by unfold sp_out0; rw [if_neg c10, if_neg c29, if_neg c80, if_neg c109, if_neg c145, if_pos c159]; exact ⟨rfl, rfl, ⟨_, _, _, _, ⟨h100, h101, h102, h103, h104, h105, h106, h107, h108, h109, h110, h111⟩, hQ, hM⟩, hF⟩) dX6_out_247
          · refine lv_iconst (v := 1) hx hb dX6_out_148 (by decide) ?_
            refine lv_goto (tgt := 172) hx hb dX6_out_149 (by decide) ?_
            refine lv_aload_n hx hb dX6_out_172 rfl (lv_at hl 1 rfl) ?_
            refine z_get F hw h100 fd_X6_26_X6 rfl dX6_out_173 ?_
            refine lv_iconst (v := 0) hx hb dX6_out_176 (by decide) ?_
            refine z_ld F hw h105 (0) (rfl) (by decide) (by decide) dX6_out_177 ?_
            refine lv_iconst (v := 0) hx hb dX6_out_178 (by decide) ?_
            have hV : rfV G ad ce T Q M := ⟨_, _, _, _, ⟨h100, h101, h102, h103, h104, h105, h106, h107, h108, h109, h110, h111⟩, hQ, hM⟩
            refine z_invV F (rest := []) (r_become0 l T Q M hV 1 ((T 2) 0) 0) yv_X6_83 ⟨Nat.le_of_ble_eq_true rfl, Nat.le_of_ble_eq_true rfl⟩ hw hA hS hl h100 rfl rfl rfl (Nat.le_of_ble_eq_true rfl) dX6_out_179 ⟨Nat.le_of_ble_eq_true rfl, Nat.le_of_ble_eq_true rfl⟩ (fun r ad1 ce3 H locs hp hw hS => ?_)
            obtain ⟨rfl, rfl, hV, hF2⟩ := hp
            have hF : ∀ j, j < 100 → ce3 j = ce j := fun j hj => (hF2 j hj).trans (hF j hj)
            obtain ⟨cn, zs, bs, hh, ⟨h100, h101, h102, h103, h104, h105, h106, h107, h108, h109, h110, h111⟩, hQ, hM⟩ := hV
            refine W.eq (g2 := F0 m 182 ls []) rfl ?_
            refine lv_goto (tgt := 247) hx hb dX6_out_182 (by decide) ?_
            exact z_vret F hw hS (by unfold sp_out0; rw [if_neg c10, if_neg c29, if_neg c80, if_neg c109, if_pos c145]; exact ⟨rfl, rfl, ⟨_, _, _, _, ⟨h100, h101, h102, h103, h104, h105, h106, h107, h108, h109, h110, h111⟩, hQ, hM⟩, hF⟩) dX6_out_247
        · refine lv_aload_n hx hb dX6_out_112 rfl (lv_at hl 1 rfl) ?_
          refine lv_iconst (v := 0) hx hb dX6_out_113 (by decide) ?_
          refine lv_iconst (v := 3) hx hb dX6_out_114 (by decide) ?_
          refine lv_bipush (v := 42) hx hb dX6_out_115 (by decide) ?_
          have hV : rfV G ad ce T Q M := ⟨_, _, _, _, ⟨h100, h101, h102, h103, h104, h105, h106, h107, h108, h109, h110, h111⟩, hQ, hM⟩
          refine z_invV F (rest := []) (r_put0 l T Q M hV 3 42 (by decide) (by decide)) yv_X6_64 ⟨Nat.le_of_ble_eq_true rfl, Nat.le_of_ble_eq_true rfl⟩ hw hA hS hl h100 rfl rfl rfl (Nat.le_of_ble_eq_true rfl) dX6_out_117 ⟨Nat.le_of_ble_eq_true rfl, Nat.le_of_ble_eq_true rfl⟩ (fun r ad1 ce4 H locs hp hw hS => ?_)
          obtain ⟨rfl, rfl, hV, hF2⟩ := hp
          have hF : ∀ j, j < 100 → ce4 j = ce j := fun j hj => (hF2 j hj).trans (hF j hj)
          obtain ⟨cn, zs, bs, hh, ⟨h100, h101, h102, h103, h104, h105, h106, h107, h108, h109, h110, h111⟩, hQ, hM⟩ := hV
          refine W.eq (g2 := F0 m 120 ls [.int (rf_hd T Q 0)]) rfl ?_
          refine lv_istore_n (lv' := [(2, .int (rf_hd T Q 0)), (0, .ref (ad 100)), (1, .int 0)]) hx hb dX6_out_120 rfl hl (by decide) rfl (fun ls hl => ?_)
          refine lv_aload_n hx hb dX6_out_121 rfl (lv_at hl 1 rfl) ?_
          refine lv_iconst (v := 0) hx hb dX6_out_122 (by decide) ?_
          refine lv_iconst (v := 3) hx hb dX6_out_123 (by decide) ?_
          refine lv_iconst (v := 0) hx hb dX6_out_124 (by decide) ?_
          refine lv_iconst (v := 0) hx hb dX6_out_125 (by decide) ?_
          have hV : rfV G ad ce4 T (rf_put T Q 0 [3, 42]) M := ⟨_, _, _, _, ⟨h100, h101, h102, h103, h104, h105, h106, h107, h108, h109, h110, h111⟩, hQ, hM⟩
          refine z_invV F (rest := []) (r_become0 l T (rf_put T Q 0 [3, 42]) M hV 3 0 0) yv_X6_83 ⟨Nat.le_of_ble_eq_true rfl, Nat.le_of_ble_eq_true rfl⟩ hw hA hS hl h100 rfl rfl rfl (Nat.le_of_ble_eq_true rfl) dX6_out_126 ⟨Nat.le_of_ble_eq_true rfl, Nat.le_of_ble_eq_true rfl⟩ (fun r ad1 ce5 H locs hp hw hS => ?_)
          obtain ⟨rfl, rfl, hV, hF2⟩ := hp
          have hF : ∀ j, j < 100 → ce5 j = ce j := fun j hj => (hF2 j hj).trans (hF j hj)
          obtain ⟨cn, zs, bs, hh, ⟨h100, h101, h102, h103, h104, h105, h106, h107, h108, h109, h110, h111⟩, hQ, hM⟩ := hV
          refine W.eq (g2 := F0 m 129 ls []) rfl ?_
          refine lv_goto (tgt := 247) hx hb dX6_out_129 (by decide) ?_
          exact z_vret F hw hS (by unfold sp_out0; rw [if_neg c10, if_neg c29, if_neg c80, if_pos c109]; exact ⟨rfl, rfl, ⟨_, _, _, _, ⟨h100, h101, h102, h103, h104, h105, h106, h107, h108, h109, h110, h111⟩, hQ, hM⟩, hF⟩) dX6_out_247
      · refine lv_aload_n hx hb dX6_out_83 rfl (lv_at hl 1 rfl) ?_
        refine lv_iload_n hx hb dX6_out_84 rfl (lv_at hl 2 rfl) ?_
        refine lv_aload_n hx hb dX6_out_85 rfl (lv_at hl 1 rfl) ?_
        refine lv_iload_n hx hb dX6_out_86 rfl (lv_at hl 2 rfl) ?_
        have hV : rfV G ad ce T Q M := ⟨_, _, _, _, ⟨h100, h101, h102, h103, h104, h105, h106, h107, h108, h109, h110, h111⟩, hQ, hM⟩
        refine z_invV F (rest := [.int 0, .ref (ad 100)]) (r_rest0 l T Q M hV) yv_X6_102 ⟨Nat.le_of_ble_eq_true rfl, Nat.le_of_ble_eq_true rfl⟩ hw hA hS hl h100 rfl rfl rfl (Nat.le_of_ble_eq_true rfl) dX6_out_87 ⟨Nat.le_of_ble_eq_true rfl, Nat.le_of_ble_eq_true rfl⟩ (fun r ad1 ce6 H locs hp hw hS => ?_)
        obtain ⟨rfl, rfl, rfl⟩ := hp
        refine W.eq (g2 := F0 m 90 ls [.int 3, .int 0, .ref (ad 100)]) rfl ?_
        refine lv_iconst (v := 0) hx hb dX6_out_90 (by decide) ?_
        refine lv_iconst (v := 0) hx hb dX6_out_91 (by decide) ?_
        have hV : rfV G ad ce T Q M := ⟨_, _, _, _, ⟨h100, h101, h102, h103, h104, h105, h106, h107, h108, h109, h110, h111⟩, hQ, hM⟩
        refine z_invV F (rest := []) (r_become0 l T Q M hV 3 0 0) yv_X6_83 ⟨Nat.le_of_ble_eq_true rfl, Nat.le_of_ble_eq_true rfl⟩ hw hA hS hl h100 rfl rfl rfl (Nat.le_of_ble_eq_true rfl) dX6_out_92 ⟨Nat.le_of_ble_eq_true rfl, Nat.le_of_ble_eq_true rfl⟩ (fun r ad1 ce7 H locs hp hw hS => ?_)
        obtain ⟨rfl, rfl, hV, hF2⟩ := hp
        have hF : ∀ j, j < 100 → ce7 j = ce j := fun j hj => (hF2 j hj).trans (hF j hj)
        obtain ⟨cn, zs, bs, hh, ⟨h100, h101, h102, h103, h104, h105, h106, h107, h108, h109, h110, h111⟩, hQ, hM⟩ := hV
        refine W.eq (g2 := F0 m 95 ls []) rfl ?_
        refine lv_goto (tgt := 247) hx hb dX6_out_95 (by decide) ?_
        exact z_vret F hw hS (by unfold sp_out0; rw [if_neg c10, if_neg c29, if_pos c80]; exact ⟨rfl, rfl, ⟨_, _, _, _, ⟨h100, h101, h102, h103, h104, h105, h106, h107, h108, h109, h110, h111⟩, hQ, hM⟩, hF⟩) dX6_out_247
    · refine lv_aload_n hx hb dX6_out_32 rfl (lv_at hl 1 rfl) ?_
      refine z_get F hw h100 fd_X6_32_X6 rfl dX6_out_33 ?_
      refine lv_iload_n hx hb dX6_out_36 rfl (lv_at hl 2 rfl) ?_
      refine z_zld F hw h107 (0) (rfl) (by decide) (by decide) dX6_out_37 ?_
      refine lv_if_ne (tgt := 72) hx hb dX6_out_38 (by decide) (fun c38 => ?_) (fun c38 => ?_)
      · refine lv_aload_n hx hb dX6_out_72 rfl (lv_at hl 1 rfl) ?_
        refine z_get F hw h100 fd_X6_26_X6 rfl dX6_out_73 ?_
        refine lv_iload_n hx hb dX6_out_76 rfl (lv_at hl 2 rfl) ?_
        refine z_ld F hw h105 (0) (rfl) (by decide) (by decide) dX6_out_77 ?_
        refine lv_bipush (v := 6) hx hb dX6_out_78 (by decide) ?_
        refine lv_icmp_ne (tgt := 98) hx hb dX6_out_80 (by decide) (fun c80 => ?_) (fun c80 => ?_)
        · refine lv_iload_n hx hb dX6_out_98 rfl (lv_at hl 2 rfl) ?_
          refine lv_if_ne (tgt := 132) hx hb dX6_out_99 (by decide) (fun c99 => absurd c99 (by decide)) (fun c99 => ?_)
          refine lv_aload_n hx hb dX6_out_102 rfl (lv_at hl 1 rfl) ?_
          refine z_get F hw h100 fd_X6_26_X6 rfl dX6_out_103 ?_
          refine lv_iconst (v := 0) hx hb dX6_out_106 (by decide) ?_
          refine z_ld F hw h105 (0) (rfl) (by decide) (by decide) dX6_out_107 ?_
          refine lv_iconst (v := 1) hx hb dX6_out_108 (by decide) ?_
          refine lv_icmp_ne (tgt := 132) hx hb dX6_out_109 (by decide) (fun c109 => ?_) (fun c109 => ?_)
          · refine lv_iload_n hx hb dX6_out_132 rfl (lv_at hl 2 rfl) ?_
            refine lv_if_ne (tgt := 185) hx hb dX6_out_133 (by decide) (fun c133 => absurd c133 (by decide)) (fun c133 => ?_)
            refine lv_aload_n hx hb dX6_out_136 rfl (lv_at hl 1 rfl) ?_
            refine lv_iconst (v := 0) hx hb dX6_out_137 (by decide) ?_
            refine lv_aload_n hx hb dX6_out_138 rfl (lv_at hl 1 rfl) ?_
            refine z_get F hw h100 fd_X6_23_X6 rfl dX6_out_139 ?_
            refine lv_iconst (v := 0) hx hb dX6_out_142 (by decide) ?_
            refine z_ld F hw h104 (0) (rfl) (by decide) (by decide) dX6_out_143 ?_
            refine lv_iconst (v := 2) hx hb dX6_out_144 (by decide) ?_
            refine lv_icmp_ne (tgt := 152) hx hb dX6_out_145 (by decide) (fun c145 => ?_) (fun c145 => ?_)
            · refine lv_aload_n hx hb dX6_out_152 rfl (lv_at hl 1 rfl) ?_
              refine z_get F hw h100 fd_X6_23_X6 rfl dX6_out_153 ?_
              refine lv_iconst (v := 0) hx hb dX6_out_156 (by decide) ?_
              refine z_ld F hw h104 (0) (rfl) (by decide) (by decide) dX6_out_157 ?_
              refine lv_iconst (v := 4) hx hb dX6_out_158 (by decide) ?_
              refine lv_icmp_ne (tgt := 166) hx hb dX6_out_159 (by decide) (fun c159 => ?_) (fun c159 => ?_)
              · refine lv_aload_n hx hb dX6_out_166 rfl (lv_at hl 1 rfl) ?_
                refine z_get F hw h100 fd_X6_23_X6 rfl dX6_out_167 ?_
                refine lv_iconst (v := 0) hx hb dX6_out_170 (by decide) ?_
                refine z_ld F hw h104 (0) (rfl) (by decide) (by decide) dX6_out_171 ?_
                refine lv_aload_n hx hb dX6_out_172 rfl (lv_at hl 1 rfl) ?_
                refine z_get F hw h100 fd_X6_26_X6 rfl dX6_out_173 ?_
                refine lv_iconst (v := 0) hx hb dX6_out_176 (by decide) ?_
                refine z_ld F hw h105 (0) (rfl) (by decide) (by decide) dX6_out_177 ?_
                refine lv_iconst (v := 0) hx hb dX6_out_178 (by decide) ?_
                have hV : rfV G ad ce T Q M := ⟨_, _, _, _, ⟨h100, h101, h102, h103, h104, h105, h106, h107, h108, h109, h110, h111⟩, hQ, hM⟩
                refine z_invV F (rest := []) (r_become0 l T Q M hV ((T 1) 0) ((T 2) 0) 0) yv_X6_83 ⟨Nat.le_of_ble_eq_true rfl, Nat.le_of_ble_eq_true rfl⟩ hw hA hS hl h100 rfl rfl rfl (Nat.le_of_ble_eq_true rfl) dX6_out_179 ⟨Nat.le_of_ble_eq_true rfl, Nat.le_of_ble_eq_true rfl⟩ (fun r ad1 ce8 H locs hp hw hS => ?_)
                obtain ⟨rfl, rfl, hV, hF2⟩ := hp
                have hF : ∀ j, j < 100 → ce8 j = ce j := fun j hj => (hF2 j hj).trans (hF j hj)
                obtain ⟨cn, zs, bs, hh, ⟨h100, h101, h102, h103, h104, h105, h106, h107, h108, h109, h110, h111⟩, hQ, hM⟩ := hV
                refine W.eq (g2 := F0 m 182 ls []) rfl ?_
                refine lv_goto (tgt := 247) hx hb dX6_out_182 (by decide) ?_
                exact z_vret F hw hS (by unfold sp_out0; rw [if_neg c10, if_pos c29, if_neg c38, if_neg c80, if_neg c109, if_neg c145, if_neg c159]; exact ⟨rfl, rfl, ⟨_, _, _, _, ⟨h100, h101, h102, h103, h104, h105, h106, h107, h108, h109, h110, h111⟩, hQ, hM⟩, hF⟩) dX6_out_247
              · refine lv_iconst (v := 3) hx hb dX6_out_162 (by decide) ?_
                refine lv_goto (tgt := 172) hx hb dX6_out_163 (by decide) ?_
                refine lv_aload_n hx hb dX6_out_172 rfl (lv_at hl 1 rfl) ?_
                refine z_get F hw h100 fd_X6_26_X6 rfl dX6_out_173 ?_
                refine lv_iconst (v := 0) hx hb dX6_out_176 (by decide) ?_
                refine z_ld F hw h105 (0) (rfl) (by decide) (by decide) dX6_out_177 ?_
                refine lv_iconst (v := 0) hx hb dX6_out_178 (by decide) ?_
                have hV : rfV G ad ce T Q M := ⟨_, _, _, _, ⟨h100, h101, h102, h103, h104, h105, h106, h107, h108, h109, h110, h111⟩, hQ, hM⟩
                refine z_invV F (rest := []) (r_become0 l T Q M hV 3 ((T 2) 0) 0) yv_X6_83 ⟨Nat.le_of_ble_eq_true rfl, Nat.le_of_ble_eq_true rfl⟩ hw hA hS hl h100 rfl rfl rfl (Nat.le_of_ble_eq_true rfl) dX6_out_179 ⟨Nat.le_of_ble_eq_true rfl, Nat.le_of_ble_eq_true rfl⟩ (fun r ad1 ce9 H locs hp hw hS => ?_)
                obtain ⟨rfl, rfl, hV, hF2⟩ := hp
                have hF : ∀ j, j < 100 → ce9 j = ce j := fun j hj => (hF2 j hj).trans (hF j hj)
                obtain ⟨cn, zs, bs, hh, ⟨h100, h101, h102, h103, h104, h105, h106, h107, h108, h109, h110, h111⟩, hQ, hM⟩ := hV
                refine W.eq (g2 := F0 m 182 ls []) rfl ?_
                refine lv_goto (tgt := 247) hx hb dX6_out_182 (by decide) ?_
                exact z_vret F hw hS (by unfold sp_out0; rw [if_neg c10, if_pos c29, if_neg c38, if_neg c80, if_neg c109, if_neg c145, if_pos c159]; exact ⟨rfl, rfl, ⟨_, _, _, _, ⟨h100, h101, h102, h103, h104, h105, h106, h107, h108, h109, h110, h111⟩, hQ, hM⟩, hF⟩) dX6_out_247
            · refine lv_iconst (v := 1) hx hb dX6_out_148 (by decide) ?_
              refine lv_goto (tgt := 172) hx hb dX6_out_149 (by decide) ?_
              refine lv_aload_n hx hb dX6_out_172 rfl (lv_at hl 1 rfl) ?_
              refine z_get F hw h100 fd_X6_26_X6 rfl dX6_out_173 ?_
              refine lv_iconst (v := 0) hx hb dX6_out_176 (by decide) ?_
              refine z_ld F hw h105 (0) (rfl) (by decide) (by decide) dX6_out_177 ?_
              refine lv_iconst (v := 0) hx hb dX6_out_178 (by decide) ?_
              have hV : rfV G ad ce T Q M := ⟨_, _, _, _, ⟨h100, h101, h102, h103, h104, h105, h106, h107, h108, h109, h110, h111⟩, hQ, hM⟩
              refine z_invV F (rest := []) (r_become0 l T Q M hV 1 ((T 2) 0) 0) yv_X6_83 ⟨Nat.le_of_ble_eq_true rfl, Nat.le_of_ble_eq_true rfl⟩ hw hA hS hl h100 rfl rfl rfl (Nat.le_of_ble_eq_true rfl) dX6_out_179 ⟨Nat.le_of_ble_eq_true rfl, Nat.le_of_ble_eq_true rfl⟩ (fun r ad1 ce10 H locs hp hw hS => ?_)
              obtain ⟨rfl, rfl, hV, hF2⟩ := hp
              have hF : ∀ j, j < 100 → ce10 j = ce j := fun j hj => (hF2 j hj).trans (hF j hj)
              obtain ⟨cn, zs, bs, hh, ⟨h100, h101, h102, h103, h104, h105, h106, h107, h108, h109, h110, h111⟩, hQ, hM⟩ := hV
              refine W.eq (g2 := F0 m 182 ls []) rfl ?_
              refine lv_goto (tgt := 247) hx hb dX6_out_182 (by decide) ?_
              exact z_vret F hw hS (by unfold sp_out0; rw [if_neg c10, if_pos c29, if_neg c38, if_neg c80, if_neg c109, if_pos c145]; exact ⟨rfl, rfl, ⟨_, _, _, _, ⟨h100, h101, h102, h103, h104, h105, h106, h107, h108, h109, h110, h111⟩, hQ, hM⟩, hF⟩) dX6_out_247
          · refine lv_aload_n hx hb dX6_out_112 rfl (lv_at hl 1 rfl) ?_
            refine lv_iconst (v := 0) hx hb dX6_out_113 (by decide) ?_
            refine lv_iconst (v := 3) hx hb dX6_out_114 (by decide) ?_
            refine lv_bipush (v := 42) hx hb dX6_out_115 (by decide) ?_
            have hV : rfV G ad ce T Q M := ⟨_, _, _, _, ⟨h100, h101, h102, h103, h104, h105, h106, h107, h108, h109, h110, h111⟩, hQ, hM⟩
            refine z_invV F (rest := []) (r_put0 l T Q M hV 3 42 (by decide) (by decide)) yv_X6_64 ⟨Nat.le_of_ble_eq_true rfl, Nat.le_of_ble_eq_true rfl⟩ hw hA hS hl h100 rfl rfl rfl (Nat.le_of_ble_eq_true rfl) dX6_out_117 ⟨Nat.le_of_ble_eq_true rfl, Nat.le_of_ble_eq_true rfl⟩ (fun r ad1 ce11 H locs hp hw hS => ?_)
            obtain ⟨rfl, rfl, hV, hF2⟩ := hp
            have hF : ∀ j, j < 100 → ce11 j = ce j := fun j hj => (hF2 j hj).trans (hF j hj)
            obtain ⟨cn, zs, bs, hh, ⟨h100, h101, h102, h103, h104, h105, h106, h107, h108, h109, h110, h111⟩, hQ, hM⟩ := hV
            refine W.eq (g2 := F0 m 120 ls [.int (rf_hd T Q 0)]) rfl ?_
            refine lv_istore_n (lv' := [(2, .int (rf_hd T Q 0)), (0, .ref (ad 100)), (1, .int 0)]) hx hb dX6_out_120 rfl hl (by decide) rfl (fun ls hl => ?_)
            refine lv_aload_n hx hb dX6_out_121 rfl (lv_at hl 1 rfl) ?_
            refine lv_iconst (v := 0) hx hb dX6_out_122 (by decide) ?_
            refine lv_iconst (v := 3) hx hb dX6_out_123 (by decide) ?_
            refine lv_iconst (v := 0) hx hb dX6_out_124 (by decide) ?_
            refine lv_iconst (v := 0) hx hb dX6_out_125 (by decide) ?_
            have hV : rfV G ad ce11 T (rf_put T Q 0 [3, 42]) M := ⟨_, _, _, _, ⟨h100, h101, h102, h103, h104, h105, h106, h107, h108, h109, h110, h111⟩, hQ, hM⟩
            refine z_invV F (rest := []) (r_become0 l T (rf_put T Q 0 [3, 42]) M hV 3 0 0) yv_X6_83 ⟨Nat.le_of_ble_eq_true rfl, Nat.le_of_ble_eq_true rfl⟩ hw hA hS hl h100 rfl rfl rfl (Nat.le_of_ble_eq_true rfl) dX6_out_126 ⟨Nat.le_of_ble_eq_true rfl, Nat.le_of_ble_eq_true rfl⟩ (fun r ad1 ce12 H locs hp hw hS => ?_)
            obtain ⟨rfl, rfl, hV, hF2⟩ := hp
            have hF : ∀ j, j < 100 → ce12 j = ce j := fun j hj => (hF2 j hj).trans (hF j hj)
            obtain ⟨cn, zs, bs, hh, ⟨h100, h101, h102, h103, h104, h105, h106, h107, h108, h109, h110, h111⟩, hQ, hM⟩ := hV
            refine W.eq (g2 := F0 m 129 ls []) rfl ?_
            refine lv_goto (tgt := 247) hx hb dX6_out_129 (by decide) ?_
            exact z_vret F hw hS (by unfold sp_out0; rw [if_neg c10, if_pos c29, if_neg c38, if_neg c80, if_pos c109]; exact ⟨rfl, rfl, ⟨_, _, _, _, ⟨h100, h101, h102, h103, h104, h105, h106, h107, h108, h109, h110, h111⟩, hQ, hM⟩, hF⟩) dX6_out_247
        · refine lv_aload_n hx hb dX6_out_83 rfl (lv_at hl 1 rfl) ?_
          refine lv_iload_n hx hb dX6_out_84 rfl (lv_at hl 2 rfl) ?_
          refine lv_aload_n hx hb dX6_out_85 rfl (lv_at hl 1 rfl) ?_
          refine lv_iload_n hx hb dX6_out_86 rfl (lv_at hl 2 rfl) ?_
          have hV : rfV G ad ce T Q M := ⟨_, _, _, _, ⟨h100, h101, h102, h103, h104, h105, h106, h107, h108, h109, h110, h111⟩, hQ, hM⟩
          refine z_invV F (rest := [.int 0, .ref (ad 100)]) (r_rest0 l T Q M hV) yv_X6_102 ⟨Nat.le_of_ble_eq_true rfl, Nat.le_of_ble_eq_true rfl⟩ hw hA hS hl h100 rfl rfl rfl (Nat.le_of_ble_eq_true rfl) dX6_out_87 ⟨Nat.le_of_ble_eq_true rfl, Nat.le_of_ble_eq_true rfl⟩ (fun r ad1 ce13 H locs hp hw hS => ?_)
          obtain ⟨rfl, rfl, rfl⟩ := hp
          refine W.eq (g2 := F0 m 90 ls [.int 3, .int 0, .ref (ad 100)]) rfl ?_
          refine lv_iconst (v := 0) hx hb dX6_out_90 (by decide) ?_
          refine lv_iconst (v := 0) hx hb dX6_out_91 (by decide) ?_
          have hV : rfV G ad ce T Q M := ⟨_, _, _, _, ⟨h100, h101, h102, h103, h104, h105, h106, h107, h108, h109, h110, h111⟩, hQ, hM⟩
          refine z_invV F (rest := []) (r_become0 l T Q M hV 3 0 0) yv_X6_83 ⟨Nat.le_of_ble_eq_true rfl, Nat.le_of_ble_eq_true rfl⟩ hw hA hS hl h100 rfl rfl rfl (Nat.le_of_ble_eq_true rfl) dX6_out_92 ⟨Nat.le_of_ble_eq_true rfl, Nat.le_of_ble_eq_true rfl⟩ (fun r ad1 ce14 H locs hp hw hS => ?_)
          obtain ⟨rfl, rfl, hV, hF2⟩ := hp
          have hF : ∀ j, j < 100 → ce14 j = ce j := fun j hj => (hF2 j hj).trans (hF j hj)
          obtain ⟨cn, zs, bs, hh, ⟨h100, h101, h102, h103, h104, h105, h106, h107, h108, h109, h110, h111⟩, hQ, hM⟩ := hV
          refine W.eq (g2 := F0 m 95 ls []) rfl ?_
          refine lv_goto (tgt := 247) hx hb dX6_out_95 (by decide) ?_
          exact z_vret F hw hS (by unfold sp_out0; rw [if_neg c10, if_pos c29, if_neg c38, if_pos c80]; exact ⟨rfl, rfl, ⟨_, _, _, _, ⟨h100, h101, h102, h103, h104, h105, h106, h107, h108, h109, h110, h111⟩, hQ, hM⟩, hF⟩) dX6_out_247
      · refine lv_aload_n hx hb dX6_out_41 rfl (lv_at hl 1 rfl) ?_
        refine lv_aload_n hx hb dX6_out_42 rfl (lv_at hl 1 rfl) ?_
        refine lv_iload_n hx hb dX6_out_43 rfl (lv_at hl 2 rfl) ?_
        have hV : rfV G ad ce T Q M := ⟨_, _, _, _, ⟨h100, h101, h102, h103, h104, h105, h106, h107, h108, h109, h110, h111⟩, hQ, hM⟩
        refine z_invV F (rest := [.ref (ad 100)]) (r_way0 l T Q M hV) yv_X6_80 ⟨Nat.le_of_ble_eq_true rfl, Nat.le_of_ble_eq_true rfl⟩ hw hA hS hl h100 rfl rfl rfl (Nat.le_of_ble_eq_true rfl) dX6_out_44 ⟨Nat.le_of_ble_eq_true rfl, Nat.le_of_ble_eq_true rfl⟩ (fun r ad1 ce15 H locs hp hw hS => ?_)
        obtain ⟨rfl, rfl, rfl⟩ := hp
        refine W.eq (g2 := F0 m 47 ls [.int 0, .ref (ad 100)]) rfl ?_
        refine lv_iconst (v := 3) hx hb dX6_out_47 (by decide) ?_
        refine lv_bipush (v := 45) hx hb dX6_out_48 (by decide) ?_
        have hV : rfV G ad ce T Q M := ⟨_, _, _, _, ⟨h100, h101, h102, h103, h104, h105, h106, h107, h108, h109, h110, h111⟩, hQ, hM⟩
        refine z_invV F (rest := []) (r_put0 l T Q M hV 3 45 (by decide) (by decide)) yv_X6_64 ⟨Nat.le_of_ble_eq_true rfl, Nat.le_of_ble_eq_true rfl⟩ hw hA hS hl h100 rfl rfl rfl (Nat.le_of_ble_eq_true rfl) dX6_out_50 ⟨Nat.le_of_ble_eq_true rfl, Nat.le_of_ble_eq_true rfl⟩ (fun r ad1 ce16 H locs hp hw hS => ?_)
        obtain ⟨rfl, rfl, hV, hF2⟩ := hp
        have hF : ∀ j, j < 100 → ce16 j = ce j := fun j hj => (hF2 j hj).trans (hF j hj)
        obtain ⟨cn, zs, bs, hh, ⟨h100, h101, h102, h103, h104, h105, h106, h107, h108, h109, h110, h111⟩, hQ, hM⟩ := hV
        refine W.eq (g2 := F0 m 53 ls [.int (rf_hd T Q 0)]) rfl ?_
        refine lv_istore_n (lv' := [(2, .int (rf_hd T Q 0)), (0, .ref (ad 100)), (1, .int 0)]) hx hb dX6_out_53 rfl hl (by decide) rfl (fun ls hl => ?_)
        refine lv_aload_n hx hb dX6_out_54 rfl (lv_at hl 1 rfl) ?_
        refine z_get F hw h100 fd_X6_32_X6 rfl dX6_out_55 ?_
        refine lv_iload_n hx hb dX6_out_58 rfl (lv_at hl 2 rfl) ?_
        refine lv_iconst (v := 1) hx hb dX6_out_59 (by decide) ?_
        refine z_zst F hw hS h107 (0) (rfl) (by decide) (by decide) (rfl) dX6_out_60 (fun ce17 H locs h107 fr18 hw hS => ?_)
        have h100 := (fr18 100 (by decide)).trans h100
        have h101 := (fr18 101 (by decide)).trans h101
        have h102 := (fr18 102 (by decide)).trans h102
        have h103 := (fr18 103 (by decide)).trans h103
        have h104 := (fr18 104 (by decide)).trans h104
        have h105 := (fr18 105 (by decide)).trans h105
        have h106 := (fr18 106 (by decide)).trans h106
        have h108 := (fr18 108 (by decide)).trans h108
        have h109 := (fr18 109 (by decide)).trans h109
        have h110 := (fr18 110 (by decide)).trans h110
        have h111 := (fr18 111 (by decide)).trans h111
        have hF : ∀ j, j < 100 → _ = ce j := fun j hj => (fr18 j (by omega)).trans (hF j hj)
        refine lv_aload_n hx hb dX6_out_61 rfl (lv_at hl 1 rfl) ?_
        refine z_get F hw h100 fd_X6_29_X6 rfl dX6_out_62 ?_
        refine lv_iload_n hx hb dX6_out_65 rfl (lv_at hl 2 rfl) ?_
        refine lv_bipush (v := 30) hx hb dX6_out_66 (by decide) ?_
        refine z_st F hw hS h106 (0) (rfl) (by decide) (by decide) dX6_out_68 (fun ce19 H locs h106 fr20 hw hS => ?_)
        have h100 := (fr20 100 (by decide)).trans h100
        have h101 := (fr20 101 (by decide)).trans h101
        have h102 := (fr20 102 (by decide)).trans h102
        have h103 := (fr20 103 (by decide)).trans h103
        have h104 := (fr20 104 (by decide)).trans h104
        have h105 := (fr20 105 (by decide)).trans h105
        have h107 := (fr20 107 (by decide)).trans h107
        have h108 := (fr20 108 (by decide)).trans h108
        have h109 := (fr20 109 (by decide)).trans h109
        have h110 := (fr20 110 (by decide)).trans h110
        have h111 := (fr20 111 (by decide)).trans h111
        have hF : ∀ j, j < 100 → _ = ce j := fun j hj => (fr20 j (by omega)).trans (hF j hj)
        refine lv_goto (tgt := 247) hx hb dX6_out_69 (by decide) ?_
        exact z_vret F hw hS (by unfold sp_out0; rw [if_neg c10, if_pos c29, if_pos c38]; exact ⟨rfl, rfl, ⟨_, _, _, _, ⟨h100, h101, h102, h103, h104, h105, h106, h107, h108, h109, h110, h111⟩, hQ, hM⟩, hF⟩) dX6_out_247
  · refine lv_aload_n hx hb dX6_out_13 rfl (lv_at hl 1 rfl) ?_
    refine lv_iload_n hx hb dX6_out_14 rfl (lv_at hl 2 rfl) ?_
    have hV : rfV G ad ce T Q M := ⟨_, _, _, _, ⟨h100, h101, h102, h103, h104, h105, h106, h107, h108, h109, h110, h111⟩, hQ, hM⟩
    refine z_invV F (rest := []) (r_release0 l T Q M hV) yv_X6_98 ⟨Nat.le_of_ble_eq_true rfl, Nat.le_of_ble_eq_true rfl⟩ hw hA hS hl h100 rfl rfl rfl (Nat.le_of_ble_eq_true rfl) dX6_out_15 ⟨Nat.le_of_ble_eq_true rfl, Nat.le_of_ble_eq_true rfl⟩ (fun r ad1 ce21 H locs hp hw hS => ?_)
    obtain ⟨rfl, rfl, hV, hF2⟩ := hp
    have hF : ∀ j, j < 100 → ce21 j = ce j := fun j hj => (hF2 j hj).trans (hF j hj)
    obtain ⟨cn, zs, bs, hh, ⟨h100, h101, h102, h103, h104, h105, h106, h107, h108, h109, h110, h111⟩, hQ, hM⟩ := hV
    refine W.eq (g2 := F0 m 18 ls []) rfl ?_
    refine lv_goto (tgt := 247) hx hb dX6_out_18 (by decide) ?_
    exact z_vret F hw hS (by unfold sp_out0; rw [if_pos c10]; exact ⟨rfl, rfl, ⟨_, _, _, _, ⟨h100, h101, h102, h103, h104, h105, h106, h107, h108, h109, h110, h111⟩, hQ, hM⟩, hF⟩) dX6_out_247
def sp_out1 (T : rf_T) (Q : rf_Q) (M : List Nat) : rf_R := (if (((T 2) 1) : Int32) = 5 then (0, (rf_rel T 1), rf_put T Q 1 [3, 45]) else (if (((T 2) 1) : Int32) = 6 then (if (((T 4) 1) : Int32) = 0 then (0, va_up (va_up T 3 (upd (T 3) 1 30)) 4 (upd (T 4) 1 1), rf_put T Q 1 [3, 45]) else (if (((T 2) 1) : Int32) = 6 then (0, (rf_become T 1 0 0 0), Q) else (if (((T 2) 1) : Int32) = 3 then (0, (rf_become T 1 3 5 30), rf_put T Q 1 ([3, 37, 8, 1] ++ rf_bytes 1 102)) else (if (((T 1) 1) : Int32) = 3 then (0, (rf_become T 1 3 ((T 2) 1) 0), Q) else (0, (rf_become T 1 0 ((T 2) 1) 0), Q))))) else (if (((T 2) 1) : Int32) = 6 then (0, (rf_become T 1 0 0 0), Q) else (if (((T 2) 1) : Int32) = 3 then (0, (rf_become T 1 3 5 30), rf_put T Q 1 ([3, 37, 8, 1] ++ rf_bytes 1 102)) else (if (((T 1) 1) : Int32) = 3 then (0, (rf_become T 1 3 ((T 2) 1) 0), Q) else (0, (rf_become T 1 0 ((T 2) 1) 0), Q))))))
set_option maxHeartbeats 4000000 in
set_option maxRecDepth 100000 in
theorem r_out1 (l : Launch) {G : zz_G} {ad : Nat → Nat} {ce : zz_C} {sz : Nat} (T : rf_T) (Q : rf_Q) (M : List Nat) (hV : rfV G ad ce T Q M) : zz_M l yX6_out cX6_out 3 none 2 52 0 0 G [.ref (ad 100), .int 1] ad ce sz (fun r ad1 ce1 => r = none ∧ ad = ad1 ∧ rfV G ad ce1 (sp_out1 T Q M).2.1 (sp_out1 T Q M).2.2 M ∧ (∀ j, j < 100 → ce1 j = ce j)) := by
  refine zz_enter (by decide) (Nat.le_of_ble_eq_true rfl) ?_
  intro p e s m below meth c ls F hl hw hS hA
  obtain ⟨hx, hb, hr, hml, hown, hts, hlocks, hK, hnm⟩ := id F
  have hl : lv_has ls 3 [(0, .ref (ad 100)), (1, .int 1)] := hl
  obtain ⟨cn, zs, bs, hh, ⟨h100, h101, h102, h103, h104, h105, h106, h107, h108, h109, h110, h111⟩, hQ, hM⟩ := hV
  have hF : ∀ j, j < 100 → ce j = ce j := fun _ _ => rfl
  refine lv_bipush (v := -3) hx hb dX6_out_0 (by decide) ?_
  refine lv_istore_n (lv' := [(2, .int (-3)), (0, .ref (ad 100)), (1, .int 1)]) hx hb dX6_out_2 rfl hl (by decide) rfl (fun ls hl => ?_)
  refine lv_aload_n hx hb dX6_out_3 rfl (lv_at hl 1 rfl) ?_
  refine z_get F hw h100 fd_X6_26_X6 rfl dX6_out_4 ?_
  refine lv_iload_n hx hb dX6_out_7 rfl (lv_at hl 2 rfl) ?_
  refine z_ld F hw h105 (1) (rfl) (by decide) (by decide) dX6_out_8 ?_
  refine lv_iconst (v := 5) hx hb dX6_out_9 (by decide) ?_
  refine lv_icmp_ne (tgt := 21) hx hb dX6_out_10 (by decide) (fun c10 => ?_) (fun c10 => ?_)
  · refine lv_aload_n hx hb dX6_out_21 rfl (lv_at hl 1 rfl) ?_
    refine z_get F hw h100 fd_X6_26_X6 rfl dX6_out_22 ?_
    refine lv_iload_n hx hb dX6_out_25 rfl (lv_at hl 2 rfl) ?_
    refine z_ld F hw h105 (1) (rfl) (by decide) (by decide) dX6_out_26 ?_
    refine lv_bipush (v := 6) hx hb dX6_out_27 (by decide) ?_
    refine lv_icmp_ne (tgt := 72) hx hb dX6_out_29 (by decide) (fun c29 => ?_) (fun c29 => ?_)
    · refine lv_aload_n hx hb dX6_out_72 rfl (lv_at hl 1 rfl) ?_
      refine z_get F hw h100 fd_X6_26_X6 rfl dX6_out_73 ?_
      refine lv_iload_n hx hb dX6_out_76 rfl (lv_at hl 2 rfl) ?_
      refine z_ld F hw h105 (1) (rfl) (by decide) (by decide) dX6_out_77 ?_
      refine lv_bipush (v := 6) hx hb dX6_out_78 (by decide) ?_
      refine lv_icmp_ne (tgt := 98) hx hb dX6_out_80 (by decide) (fun c80 => ?_) (fun c80 => ?_)
      · refine lv_iload_n hx hb dX6_out_98 rfl (lv_at hl 2 rfl) ?_
        refine lv_if_ne (tgt := 132) hx hb dX6_out_99 (by decide) (fun c99 => ?_) (fun c99 => absurd c99 (by decide))
        refine lv_iload_n hx hb dX6_out_132 rfl (lv_at hl 2 rfl) ?_
        refine lv_if_ne (tgt := 185) hx hb dX6_out_133 (by decide) (fun c133 => ?_) (fun c133 => absurd c133 (by decide))
        refine lv_aload_n hx hb dX6_out_185 rfl (lv_at hl 1 rfl) ?_
        refine z_get F hw h100 fd_X6_26_X6 rfl dX6_out_186 ?_
        refine lv_iconst (v := 1) hx hb dX6_out_189 (by decide) ?_
        refine z_ld F hw h105 (1) (rfl) (by decide) (by decide) dX6_out_190 ?_
        refine lv_iconst (v := 3) hx hb dX6_out_191 (by decide) ?_
        refine lv_icmp_ne (tgt := 220) hx hb dX6_out_192 (by decide) (fun c192 => ?_) (fun c192 => ?_)
        · refine lv_aload_n hx hb dX6_out_220 rfl (lv_at hl 1 rfl) ?_
          refine lv_iconst (v := 1) hx hb dX6_out_221 (by decide) ?_
          refine lv_aload_n hx hb dX6_out_222 rfl (lv_at hl 1 rfl) ?_
          refine z_get F hw h100 fd_X6_23_X6 rfl dX6_out_223 ?_
          refine lv_iconst (v := 1) hx hb dX6_out_226 (by decide) ?_
          refine z_ld F hw h104 (1) (rfl) (by decide) (by decide) dX6_out_227 ?_
          refine lv_iconst (v := 3) hx hb dX6_out_228 (by decide) ?_
          refine lv_icmp_ne (tgt := 236) hx hb dX6_out_229 (by decide) (fun c229 => ?_) (fun c229 => ?_)
          · refine lv_iconst (v := 0) hx hb dX6_out_236 (by decide) ?_
            refine lv_aload_n hx hb dX6_out_237 rfl (lv_at hl 1 rfl) ?_
            refine z_get F hw h100 fd_X6_26_X6 rfl dX6_out_238 ?_
            refine lv_iconst (v := 1) hx hb dX6_out_241 (by decide) ?_
            refine z_ld F hw h105 (1) (rfl) (by decide) (by decide) dX6_out_242 ?_
            refine lv_iconst (v := 0) hx hb dX6_out_243 (by decide) ?_
            have hV : rfV G ad ce T Q M := ⟨_, _, _, _, ⟨h100, h101, h102, h103, h104, h105, h106, h107, h108, h109, h110, h111⟩, hQ, hM⟩
            refine z_invV F (rest := []) (r_become1 l T Q M hV 0 ((T 2) 1) 0) yv_X6_83 ⟨Nat.le_of_ble_eq_true rfl, Nat.le_of_ble_eq_true rfl⟩ hw hA hS hl h100 rfl rfl rfl (Nat.le_of_ble_eq_true rfl) dX6_out_244 ⟨Nat.le_of_ble_eq_true rfl, Nat.le_of_ble_eq_true rfl⟩ (fun r ad1 ce1 H locs hp hw hS => ?_)
            obtain ⟨rfl, rfl, hV, hF2⟩ := hp
            have hF : ∀ j, j < 100 → ce1 j = ce j := fun j hj => (hF2 j hj).trans (hF j hj)
            obtain ⟨cn, zs, bs, hh, ⟨h100, h101, h102, h103, h104, h105, h106, h107, h108, h109, h110, h111⟩, hQ, hM⟩ := hV
            refine W.eq (g2 := F0 m 247 ls []) rfl ?_
            exact z_vret F hw hS (by unfold sp_out1; rw [if_neg c10, if_neg c29, if_neg c80, if_neg c192, if_neg c229]; exact ⟨rfl, rfl, ⟨_, _, _, _, ⟨h100, h101, h102, h103, h104, h105, h106, h107, h108, h109, h110, h111⟩, hQ, hM⟩, hF⟩) dX6_out_247
          · refine lv_iconst (v := 3) hx hb dX6_out_232 (by decide) ?_
            refine lv_goto (tgt := 237) hx hb dX6_out_233 (by decide) ?_
            refine lv_aload_n hx hb dX6_out_237 rfl (lv_at hl 1 rfl) ?_
            refine z_get F hw h100 fd_X6_26_X6 rfl dX6_out_238 ?_
            refine lv_iconst (v := 1) hx hb dX6_out_241 (by decide) ?_
            refine z_ld F hw h105 (1) (rfl) (by decide) (by decide) dX6_out_242 ?_
            refine lv_iconst (v := 0) hx hb dX6_out_243 (by decide) ?_
            have hV : rfV G ad ce T Q M := ⟨_, _, _, _, ⟨h100, h101, h102, h103, h104, h105, h106, h107, h108, h109, h110, h111⟩, hQ, hM⟩
            refine z_invV F (rest := []) (r_become1 l T Q M hV 3 ((T 2) 1) 0) yv_X6_83 ⟨Nat.le_of_ble_eq_true rfl, Nat.le_of_ble_eq_true rfl⟩ hw hA hS hl h100 rfl rfl rfl (Nat.le_of_ble_eq_true rfl) dX6_out_244 ⟨Nat.le_of_ble_eq_true rfl, Nat.le_of_ble_eq_true rfl⟩ (fun r ad1 ce2 H locs hp hw hS => ?_)
            obtain ⟨rfl, rfl, hV, hF2⟩ := hp
            have hF : ∀ j, j < 100 → ce2 j = ce j := fun j hj => (hF2 j hj).trans (hF j hj)
            obtain ⟨cn, zs, bs, hh, ⟨h100, h101, h102, h103, h104, h105, h106, h107, h108, h109, h110, h111⟩, hQ, hM⟩ := hV
            refine W.eq (g2 := F0 m 247 ls []) rfl ?_
            exact z_vret F hw hS (by unfold sp_out1; rw [if_neg c10, if_neg c29, if_neg c80, if_neg c192, if_pos c229]; exact ⟨rfl, rfl, ⟨_, _, _, _, ⟨h100, h101, h102, h103, h104, h105, h106, h107, h108, h109, h110, h111⟩, hQ, hM⟩, hF⟩) dX6_out_247
        · refine lv_aload_n hx hb dX6_out_195 rfl (lv_at hl 1 rfl) ?_
          refine lv_iconst (v := 1) hx hb dX6_out_196 (by decide) ?_
          refine lv_iconst (v := 3) hx hb dX6_out_197 (by decide) ?_
          refine lv_bipush (v := 37) hx hb dX6_out_198 (by decide) ?_
          refine lv_bipush (v := 8) hx hb dX6_out_200 (by decide) ?_
          refine lv_iconst (v := 1) hx hb dX6_out_202 (by decide) ?_
          refine lv_bipush (v := 102) hx hb dX6_out_203 (by decide) ?_
          have hV : rfV G ad ce T Q M := ⟨_, _, _, _, ⟨h100, h101, h102, h103, h104, h105, h106, h107, h108, h109, h110, h111⟩, hQ, hM⟩
          refine z_invV F (rest := []) (r_tell1_1 l T Q M hV 3 37 8 (by decide) (by decide) (by decide) 102) yv_X6_112 ⟨Nat.le_of_ble_eq_true rfl, Nat.le_of_ble_eq_true rfl⟩ hw hA hS hl h100 rfl rfl rfl (Nat.le_of_ble_eq_true rfl) dX6_out_205 ⟨Nat.le_of_ble_eq_true rfl, Nat.le_of_ble_eq_true rfl⟩ (fun r ad1 ce3 H locs hp hw hS => ?_)
          obtain ⟨rfl, rfl, hV, hF2⟩ := hp
          have hF : ∀ j, j < 100 → ce3 j = ce j := fun j hj => (hF2 j hj).trans (hF j hj)
          obtain ⟨cn, zs, bs, hh, ⟨h100, h101, h102, h103, h104, h105, h106, h107, h108, h109, h110, h111⟩, hQ, hM⟩ := hV
          refine W.eq (g2 := F0 m 208 ls []) rfl ?_
          refine lv_aload_n hx hb dX6_out_208 rfl (lv_at hl 1 rfl) ?_
          refine lv_iconst (v := 1) hx hb dX6_out_209 (by decide) ?_
          refine lv_iconst (v := 3) hx hb dX6_out_210 (by decide) ?_
          refine lv_iconst (v := 5) hx hb dX6_out_211 (by decide) ?_
          refine lv_bipush (v := 30) hx hb dX6_out_212 (by decide) ?_
          have hV : rfV G ad ce3 T (rf_put T Q 1 ([3, 37, 8, 1] ++ rf_bytes 1 102)) M := ⟨_, _, _, _, ⟨h100, h101, h102, h103, h104, h105, h106, h107, h108, h109, h110, h111⟩, hQ, hM⟩
          refine z_invV F (rest := []) (r_become1 l T (rf_put T Q 1 ([3, 37, 8, 1] ++ rf_bytes 1 102)) M hV 3 5 30) yv_X6_83 ⟨Nat.le_of_ble_eq_true rfl, Nat.le_of_ble_eq_true rfl⟩ hw hA hS hl h100 rfl rfl rfl (Nat.le_of_ble_eq_true rfl) dX6_out_214 ⟨Nat.le_of_ble_eq_true rfl, Nat.le_of_ble_eq_true rfl⟩ (fun r ad1 ce4 H locs hp hw hS => ?_)
          obtain ⟨rfl, rfl, hV, hF2⟩ := hp
          have hF : ∀ j, j < 100 → ce4 j = ce j := fun j hj => (hF2 j hj).trans (hF j hj)
          obtain ⟨cn, zs, bs, hh, ⟨h100, h101, h102, h103, h104, h105, h106, h107, h108, h109, h110, h111⟩, hQ, hM⟩ := hV
          refine W.eq (g2 := F0 m 217 ls []) rfl ?_
          refine lv_goto (tgt := 247) hx hb dX6_out_217 (by decide) ?_
          exact z_vret F hw hS (by unfold sp_out1; rw [if_neg c10, if_neg c29, if_neg c80, if_pos c192]; exact ⟨rfl, rfl, ⟨_, _, _, _, ⟨h100, h101, h102, h103, h104, h105, h106, h107, h108, h109, h110, h111⟩, hQ, hM⟩, hF⟩) dX6_out_247
      · refine lv_aload_n hx hb dX6_out_83 rfl (lv_at hl 1 rfl) ?_
        refine lv_iload_n hx hb dX6_out_84 rfl (lv_at hl 2 rfl) ?_
        refine lv_aload_n hx hb dX6_out_85 rfl (lv_at hl 1 rfl) ?_
        refine lv_iload_n hx hb dX6_out_86 rfl (lv_at hl 2 rfl) ?_
        have hV : rfV G ad ce T Q M := ⟨_, _, _, _, ⟨h100, h101, h102, h103, h104, h105, h106, h107, h108, h109, h110, h111⟩, hQ, hM⟩
        refine z_invV F (rest := [.int 1, .ref (ad 100)]) (r_rest1 l T Q M hV) yv_X6_102 ⟨Nat.le_of_ble_eq_true rfl, Nat.le_of_ble_eq_true rfl⟩ hw hA hS hl h100 rfl rfl rfl (Nat.le_of_ble_eq_true rfl) dX6_out_87 ⟨Nat.le_of_ble_eq_true rfl, Nat.le_of_ble_eq_true rfl⟩ (fun r ad1 ce5 H locs hp hw hS => ?_)
        obtain ⟨rfl, rfl, rfl⟩ := hp
        refine W.eq (g2 := F0 m 90 ls [.int 0, .int 1, .ref (ad 100)]) rfl ?_
        refine lv_iconst (v := 0) hx hb dX6_out_90 (by decide) ?_
        refine lv_iconst (v := 0) hx hb dX6_out_91 (by decide) ?_
        have hV : rfV G ad ce T Q M := ⟨_, _, _, _, ⟨h100, h101, h102, h103, h104, h105, h106, h107, h108, h109, h110, h111⟩, hQ, hM⟩
        refine z_invV F (rest := []) (r_become1 l T Q M hV 0 0 0) yv_X6_83 ⟨Nat.le_of_ble_eq_true rfl, Nat.le_of_ble_eq_true rfl⟩ hw hA hS hl h100 rfl rfl rfl (Nat.le_of_ble_eq_true rfl) dX6_out_92 ⟨Nat.le_of_ble_eq_true rfl, Nat.le_of_ble_eq_true rfl⟩ (fun r ad1 ce6 H locs hp hw hS => ?_)
        obtain ⟨rfl, rfl, hV, hF2⟩ := hp
        have hF : ∀ j, j < 100 → ce6 j = ce j := fun j hj => (hF2 j hj).trans (hF j hj)
        obtain ⟨cn, zs, bs, hh, ⟨h100, h101, h102, h103, h104, h105, h106, h107, h108, h109, h110, h111⟩, hQ, hM⟩ := hV
        refine W.eq (g2 := F0 m 95 ls []) rfl ?_
        refine lv_goto (tgt := 247) hx hb dX6_out_95 (by decide) ?_
        exact z_vret F hw hS (by unfold sp_out1; rw [if_neg c10, if_neg c29, if_pos c80]; exact ⟨rfl, rfl, ⟨_, _, _, _, ⟨h100, h101, h102, h103, h104, h105, h106, h107, h108, h109, h110, h111⟩, hQ, hM⟩, hF⟩) dX6_out_247
    · refine lv_aload_n hx hb dX6_out_32 rfl (lv_at hl 1 rfl) ?_
      refine z_get F hw h100 fd_X6_32_X6 rfl dX6_out_33 ?_
      refine lv_iload_n hx hb dX6_out_36 rfl (lv_at hl 2 rfl) ?_
      refine z_zld F hw h107 (1) (rfl) (by decide) (by decide) dX6_out_37 ?_
      refine lv_if_ne (tgt := 72) hx hb dX6_out_38 (by decide) (fun c38 => ?_) (fun c38 => ?_)
      · refine lv_aload_n hx hb dX6_out_72 rfl (lv_at hl 1 rfl) ?_
        refine z_get F hw h100 fd_X6_26_X6 rfl dX6_out_73 ?_
        refine lv_iload_n hx hb dX6_out_76 rfl (lv_at hl 2 rfl) ?_
        refine z_ld F hw h105 (1) (rfl) (by decide) (by decide) dX6_out_77 ?_
        refine lv_bipush (v := 6) hx hb dX6_out_78 (by decide) ?_
        refine lv_icmp_ne (tgt := 98) hx hb dX6_out_80 (by decide) (fun c80 => ?_) (fun c80 => ?_)
        · refine lv_iload_n hx hb dX6_out_98 rfl (lv_at hl 2 rfl) ?_
          refine lv_if_ne (tgt := 132) hx hb dX6_out_99 (by decide) (fun c99 => ?_) (fun c99 => absurd c99 (by decide))
          refine lv_iload_n hx hb dX6_out_132 rfl (lv_at hl 2 rfl) ?_
          refine lv_if_ne (tgt := 185) hx hb dX6_out_133 (by decide) (fun c133 => ?_) (fun c133 => absurd c133 (by decide))
          refine lv_aload_n hx hb dX6_out_185 rfl (lv_at hl 1 rfl) ?_
          refine z_get F hw h100 fd_X6_26_X6 rfl dX6_out_186 ?_
          refine lv_iconst (v := 1) hx hb dX6_out_189 (by decide) ?_
          refine z_ld F hw h105 (1) (rfl) (by decide) (by decide) dX6_out_190 ?_
          refine lv_iconst (v := 3) hx hb dX6_out_191 (by decide) ?_
          refine lv_icmp_ne (tgt := 220) hx hb dX6_out_192 (by decide) (fun c192 => ?_) (fun c192 => ?_)
          · refine lv_aload_n hx hb dX6_out_220 rfl (lv_at hl 1 rfl) ?_
            refine lv_iconst (v := 1) hx hb dX6_out_221 (by decide) ?_
            refine lv_aload_n hx hb dX6_out_222 rfl (lv_at hl 1 rfl) ?_
            refine z_get F hw h100 fd_X6_23_X6 rfl dX6_out_223 ?_
            refine lv_iconst (v := 1) hx hb dX6_out_226 (by decide) ?_
            refine z_ld F hw h104 (1) (rfl) (by decide) (by decide) dX6_out_227 ?_
            refine lv_iconst (v := 3) hx hb dX6_out_228 (by decide) ?_
            refine lv_icmp_ne (tgt := 236) hx hb dX6_out_229 (by decide) (fun c229 => ?_) (fun c229 => ?_)
            · refine lv_iconst (v := 0) hx hb dX6_out_236 (by decide) ?_
              refine lv_aload_n hx hb dX6_out_237 rfl (lv_at hl 1 rfl) ?_
              refine z_get F hw h100 fd_X6_26_X6 rfl dX6_out_238 ?_
              refine lv_iconst (v := 1) hx hb dX6_out_241 (by decide) ?_
              refine z_ld F hw h105 (1) (rfl) (by decide) (by decide) dX6_out_242 ?_
              refine lv_iconst (v := 0) hx hb dX6_out_243 (by decide) ?_
              have hV : rfV G ad ce T Q M := ⟨_, _, _, _, ⟨h100, h101, h102, h103, h104, h105, h106, h107, h108, h109, h110, h111⟩, hQ, hM⟩
              refine z_invV F (rest := []) (r_become1 l T Q M hV 0 ((T 2) 1) 0) yv_X6_83 ⟨Nat.le_of_ble_eq_true rfl, Nat.le_of_ble_eq_true rfl⟩ hw hA hS hl h100 rfl rfl rfl (Nat.le_of_ble_eq_true rfl) dX6_out_244 ⟨Nat.le_of_ble_eq_true rfl, Nat.le_of_ble_eq_true rfl⟩ (fun r ad1 ce7 H locs hp hw hS => ?_)
              obtain ⟨rfl, rfl, hV, hF2⟩ := hp
              have hF : ∀ j, j < 100 → ce7 j = ce j := fun j hj => (hF2 j hj).trans (hF j hj)
              obtain ⟨cn, zs, bs, hh, ⟨h100, h101, h102, h103, h104, h105, h106, h107, h108, h109, h110, h111⟩, hQ, hM⟩ := hV
              refine W.eq (g2 := F0 m 247 ls []) rfl ?_
              exact z_vret F hw hS (by unfold sp_out1; rw [if_neg c10, if_pos c29, if_neg c38, if_neg c80, if_neg c192, if_neg c229]; exact ⟨rfl, rfl, ⟨_, _, _, _, ⟨h100, h101, h102, h103, h104, h105, h106, h107, h108, h109, h110, h111⟩, hQ, hM⟩, hF⟩) dX6_out_247
            · refine lv_iconst (v := 3) hx hb dX6_out_232 (by decide) ?_
              refine lv_goto (tgt := 237) hx hb dX6_out_233 (by decide) ?_
              refine lv_aload_n hx hb dX6_out_237 rfl (lv_at hl 1 rfl) ?_
              refine z_get F hw h100 fd_X6_26_X6 rfl dX6_out_238 ?_
              refine lv_iconst (v := 1) hx hb dX6_out_241 (by decide) ?_
              refine z_ld F hw h105 (1) (rfl) (by decide) (by decide) dX6_out_242 ?_
              refine lv_iconst (v := 0) hx hb dX6_out_243 (by decide) ?_
              have hV : rfV G ad ce T Q M := ⟨_, _, _, _, ⟨h100, h101, h102, h103, h104, h105, h106, h107, h108, h109, h110, h111⟩, hQ, hM⟩
              refine z_invV F (rest := []) (r_become1 l T Q M hV 3 ((T 2) 1) 0) yv_X6_83 ⟨Nat.le_of_ble_eq_true rfl, Nat.le_of_ble_eq_true rfl⟩ hw hA hS hl h100 rfl rfl rfl (Nat.le_of_ble_eq_true rfl) dX6_out_244 ⟨Nat.le_of_ble_eq_true rfl, Nat.le_of_ble_eq_true rfl⟩ (fun r ad1 ce8 H locs hp hw hS => ?_)
              obtain ⟨rfl, rfl, hV, hF2⟩ := hp
              have hF : ∀ j, j < 100 → ce8 j = ce j := fun j hj => (hF2 j hj).trans (hF j hj)
              obtain ⟨cn, zs, bs, hh, ⟨h100, h101, h102, h103, h104, h105, h106, h107, h108, h109, h110, h111⟩, hQ, hM⟩ := hV
              refine W.eq (g2 := F0 m 247 ls []) rfl ?_
              exact z_vret F hw hS (by unfold sp_out1; rw [if_neg c10, if_pos c29, if_neg c38, if_neg c80, if_neg c192, if_pos c229]; exact ⟨rfl, rfl, ⟨_, _, _, _, ⟨h100, h101, h102, h103, h104, h105, h106, h107, h108, h109, h110, h111⟩, hQ, hM⟩, hF⟩) dX6_out_247
          · refine lv_aload_n hx hb dX6_out_195 rfl (lv_at hl 1 rfl) ?_
            refine lv_iconst (v := 1) hx hb dX6_out_196 (by decide) ?_
            refine lv_iconst (v := 3) hx hb dX6_out_197 (by decide) ?_
            refine lv_bipush (v := 37) hx hb dX6_out_198 (by decide) ?_
            refine lv_bipush (v := 8) hx hb dX6_out_200 (by decide) ?_
            refine lv_iconst (v := 1) hx hb dX6_out_202 (by decide) ?_
            refine lv_bipush (v := 102) hx hb dX6_out_203 (by decide) ?_
            have hV : rfV G ad ce T Q M := ⟨_, _, _, _, ⟨h100, h101, h102, h103, h104, h105, h106, h107, h108, h109, h110, h111⟩, hQ, hM⟩
            refine z_invV F (rest := []) (r_tell1_1 l T Q M hV 3 37 8 (by decide) (by decide) (by decide) 102) yv_X6_112 ⟨Nat.le_of_ble_eq_true rfl, Nat.le_of_ble_eq_true rfl⟩ hw hA hS hl h100 rfl rfl rfl (Nat.le_of_ble_eq_true rfl) dX6_out_205 ⟨Nat.le_of_ble_eq_true rfl, Nat.le_of_ble_eq_true rfl⟩ (fun r ad1 ce9 H locs hp hw hS => ?_)
            obtain ⟨rfl, rfl, hV, hF2⟩ := hp
            have hF : ∀ j, j < 100 → ce9 j = ce j := fun j hj => (hF2 j hj).trans (hF j hj)
            obtain ⟨cn, zs, bs, hh, ⟨h100, h101, h102, h103, h104, h105, h106, h107, h108, h109, h110, h111⟩, hQ, hM⟩ := hV
            refine W.eq (g2 := F0 m 208 ls []) rfl ?_
            refine lv_aload_n hx hb dX6_out_208 rfl (lv_at hl 1 rfl) ?_
            refine lv_iconst (v := 1) hx hb dX6_out_209 (by decide) ?_
            refine lv_iconst (v := 3) hx hb dX6_out_210 (by decide) ?_
            refine lv_iconst (v := 5) hx hb dX6_out_211 (by decide) ?_
            refine lv_bipush (v := 30) hx hb dX6_out_212 (by decide) ?_
            have hV : rfV G ad ce9 T (rf_put T Q 1 ([3, 37, 8, 1] ++ rf_bytes 1 102)) M := ⟨_, _, _, _, ⟨h100, h101, h102, h103, h104, h105, h106, h107, h108, h109, h110, h111⟩, hQ, hM⟩
            refine z_invV F (rest := []) (r_become1 l T (rf_put T Q 1 ([3, 37, 8, 1] ++ rf_bytes 1 102)) M hV 3 5 30) yv_X6_83 ⟨Nat.le_of_ble_eq_true rfl, Nat.le_of_ble_eq_true rfl⟩ hw hA hS hl h100 rfl rfl rfl (Nat.le_of_ble_eq_true rfl) dX6_out_214 ⟨Nat.le_of_ble_eq_true rfl, Nat.le_of_ble_eq_true rfl⟩ (fun r ad1 ce10 H locs hp hw hS => ?_)
            obtain ⟨rfl, rfl, hV, hF2⟩ := hp
            have hF : ∀ j, j < 100 → ce10 j = ce j := fun j hj => (hF2 j hj).trans (hF j hj)
            obtain ⟨cn, zs, bs, hh, ⟨h100, h101, h102, h103, h104, h105, h106, h107, h108, h109, h110, h111⟩, hQ, hM⟩ := hV
            refine W.eq (g2 := F0 m 217 ls []) rfl ?_
            refine lv_goto (tgt := 247) hx hb dX6_out_217 (by decide) ?_
            exact z_vret F hw hS (by unfold sp_out1; rw [if_neg c10, if_pos c29, if_neg c38, if_neg c80, if_pos c192]; exact ⟨rfl, rfl, ⟨_, _, _, _, ⟨h100, h101, h102, h103, h104, h105, h106, h107, h108, h109, h110, h111⟩, hQ, hM⟩, hF⟩) dX6_out_247
        · refine lv_aload_n hx hb dX6_out_83 rfl (lv_at hl 1 rfl) ?_
          refine lv_iload_n hx hb dX6_out_84 rfl (lv_at hl 2 rfl) ?_
          refine lv_aload_n hx hb dX6_out_85 rfl (lv_at hl 1 rfl) ?_
          refine lv_iload_n hx hb dX6_out_86 rfl (lv_at hl 2 rfl) ?_
          have hV : rfV G ad ce T Q M := ⟨_, _, _, _, ⟨h100, h101, h102, h103, h104, h105, h106, h107, h108, h109, h110, h111⟩, hQ, hM⟩
          refine z_invV F (rest := [.int 1, .ref (ad 100)]) (r_rest1 l T Q M hV) yv_X6_102 ⟨Nat.le_of_ble_eq_true rfl, Nat.le_of_ble_eq_true rfl⟩ hw hA hS hl h100 rfl rfl rfl (Nat.le_of_ble_eq_true rfl) dX6_out_87 ⟨Nat.le_of_ble_eq_true rfl, Nat.le_of_ble_eq_true rfl⟩ (fun r ad1 ce11 H locs hp hw hS => ?_)
          obtain ⟨rfl, rfl, rfl⟩ := hp
          refine W.eq (g2 := F0 m 90 ls [.int 0, .int 1, .ref (ad 100)]) rfl ?_
          refine lv_iconst (v := 0) hx hb dX6_out_90 (by decide) ?_
          refine lv_iconst (v := 0) hx hb dX6_out_91 (by decide) ?_
          have hV : rfV G ad ce T Q M := ⟨_, _, _, _, ⟨h100, h101, h102, h103, h104, h105, h106, h107, h108, h109, h110, h111⟩, hQ, hM⟩
          refine z_invV F (rest := []) (r_become1 l T Q M hV 0 0 0) yv_X6_83 ⟨Nat.le_of_ble_eq_true rfl, Nat.le_of_ble_eq_true rfl⟩ hw hA hS hl h100 rfl rfl rfl (Nat.le_of_ble_eq_true rfl) dX6_out_92 ⟨Nat.le_of_ble_eq_true rfl, Nat.le_of_ble_eq_true rfl⟩ (fun r ad1 ce12 H locs hp hw hS => ?_)
          obtain ⟨rfl, rfl, hV, hF2⟩ := hp
          have hF : ∀ j, j < 100 → ce12 j = ce j := fun j hj => (hF2 j hj).trans (hF j hj)
          obtain ⟨cn, zs, bs, hh, ⟨h100, h101, h102, h103, h104, h105, h106, h107, h108, h109, h110, h111⟩, hQ, hM⟩ := hV
          refine W.eq (g2 := F0 m 95 ls []) rfl ?_
          refine lv_goto (tgt := 247) hx hb dX6_out_95 (by decide) ?_
          exact z_vret F hw hS (by unfold sp_out1; rw [if_neg c10, if_pos c29, if_neg c38, if_pos c80]; exact ⟨rfl, rfl, ⟨_, _, _, _, ⟨h100, h101, h102, h103, h104, h105, h106, h107, h108, h109, h110, h111⟩, hQ, hM⟩, hF⟩) dX6_out_247
      · refine lv_aload_n hx hb dX6_out_41 rfl (lv_at hl 1 rfl) ?_
        refine lv_aload_n hx hb dX6_out_42 rfl (lv_at hl 1 rfl) ?_
        refine lv_iload_n hx hb dX6_out_43 rfl (lv_at hl 2 rfl) ?_
        have hV : rfV G ad ce T Q M := ⟨_, _, _, _, ⟨h100, h101, h102, h103, h104, h105, h106, h107, h108, h109, h110, h111⟩, hQ, hM⟩
        refine z_invV F (rest := [.ref (ad 100)]) (r_way1 l T Q M hV) yv_X6_80 ⟨Nat.le_of_ble_eq_true rfl, Nat.le_of_ble_eq_true rfl⟩ hw hA hS hl h100 rfl rfl rfl (Nat.le_of_ble_eq_true rfl) dX6_out_44 ⟨Nat.le_of_ble_eq_true rfl, Nat.le_of_ble_eq_true rfl⟩ (fun r ad1 ce13 H locs hp hw hS => ?_)
        obtain ⟨rfl, rfl, rfl⟩ := hp
        refine W.eq (g2 := F0 m 47 ls [.int 1, .ref (ad 100)]) rfl ?_
        refine lv_iconst (v := 3) hx hb dX6_out_47 (by decide) ?_
        refine lv_bipush (v := 45) hx hb dX6_out_48 (by decide) ?_
        have hV : rfV G ad ce T Q M := ⟨_, _, _, _, ⟨h100, h101, h102, h103, h104, h105, h106, h107, h108, h109, h110, h111⟩, hQ, hM⟩
        refine z_invV F (rest := []) (r_put1 l T Q M hV 3 45 (by decide) (by decide)) yv_X6_64 ⟨Nat.le_of_ble_eq_true rfl, Nat.le_of_ble_eq_true rfl⟩ hw hA hS hl h100 rfl rfl rfl (Nat.le_of_ble_eq_true rfl) dX6_out_50 ⟨Nat.le_of_ble_eq_true rfl, Nat.le_of_ble_eq_true rfl⟩ (fun r ad1 ce14 H locs hp hw hS => ?_)
        obtain ⟨rfl, rfl, hV, hF2⟩ := hp
        have hF : ∀ j, j < 100 → ce14 j = ce j := fun j hj => (hF2 j hj).trans (hF j hj)
        obtain ⟨cn, zs, bs, hh, ⟨h100, h101, h102, h103, h104, h105, h106, h107, h108, h109, h110, h111⟩, hQ, hM⟩ := hV
        refine W.eq (g2 := F0 m 53 ls [.int (rf_hd T Q 1)]) rfl ?_
        refine lv_istore_n (lv' := [(2, .int (rf_hd T Q 1)), (0, .ref (ad 100)), (1, .int 1)]) hx hb dX6_out_53 rfl hl (by decide) rfl (fun ls hl => ?_)
        refine lv_aload_n hx hb dX6_out_54 rfl (lv_at hl 1 rfl) ?_
        refine z_get F hw h100 fd_X6_32_X6 rfl dX6_out_55 ?_
        refine lv_iload_n hx hb dX6_out_58 rfl (lv_at hl 2 rfl) ?_
        refine lv_iconst (v := 1) hx hb dX6_out_59 (by decide) ?_
        refine z_zst F hw hS h107 (1) (rfl) (by decide) (by decide) (rfl) dX6_out_60 (fun ce15 H locs h107 fr16 hw hS => ?_)
        have h100 := (fr16 100 (by decide)).trans h100
        have h101 := (fr16 101 (by decide)).trans h101
        have h102 := (fr16 102 (by decide)).trans h102
        have h103 := (fr16 103 (by decide)).trans h103
        have h104 := (fr16 104 (by decide)).trans h104
        have h105 := (fr16 105 (by decide)).trans h105
        have h106 := (fr16 106 (by decide)).trans h106
        have h108 := (fr16 108 (by decide)).trans h108
        have h109 := (fr16 109 (by decide)).trans h109
        have h110 := (fr16 110 (by decide)).trans h110
        have h111 := (fr16 111 (by decide)).trans h111
        have hF : ∀ j, j < 100 → _ = ce j := fun j hj => (fr16 j (by omega)).trans (hF j hj)
        refine lv_aload_n hx hb dX6_out_61 rfl (lv_at hl 1 rfl) ?_
        refine z_get F hw h100 fd_X6_29_X6 rfl dX6_out_62 ?_
        refine lv_iload_n hx hb dX6_out_65 rfl (lv_at hl 2 rfl) ?_
        refine lv_bipush (v := 30) hx hb dX6_out_66 (by decide) ?_
        refine z_st F hw hS h106 (1) (rfl) (by decide) (by decide) dX6_out_68 (fun ce17 H locs h106 fr18 hw hS => ?_)
        have h100 := (fr18 100 (by decide)).trans h100
        have h101 := (fr18 101 (by decide)).trans h101
        have h102 := (fr18 102 (by decide)).trans h102
        have h103 := (fr18 103 (by decide)).trans h103
        have h104 := (fr18 104 (by decide)).trans h104
        have h105 := (fr18 105 (by decide)).trans h105
        have h107 := (fr18 107 (by decide)).trans h107
        have h108 := (fr18 108 (by decide)).trans h108
        have h109 := (fr18 109 (by decide)).trans h109
        have h110 := (fr18 110 (by decide)).trans h110
        have h111 := (fr18 111 (by decide)).trans h111
        have hF : ∀ j, j < 100 → _ = ce j := fun j hj => (fr18 j (by omega)).trans (hF j hj)
        refine lv_goto (tgt := 247) hx hb dX6_out_69 (by decide) ?_
        exact z_vret F hw hS (by unfold sp_out1; rw [if_neg c10, if_pos c29, if_pos c38]; exact ⟨rfl, rfl, ⟨_, _, _, _, ⟨h100, h101, h102, h103, h104, h105, h106, h107, h108, h109, h110, h111⟩, hQ, hM⟩, hF⟩) dX6_out_247
  · refine lv_aload_n hx hb dX6_out_13 rfl (lv_at hl 1 rfl) ?_
    refine lv_iload_n hx hb dX6_out_14 rfl (lv_at hl 2 rfl) ?_
    have hV : rfV G ad ce T Q M := ⟨_, _, _, _, ⟨h100, h101, h102, h103, h104, h105, h106, h107, h108, h109, h110, h111⟩, hQ, hM⟩
    refine z_invV F (rest := []) (r_release1 l T Q M hV) yv_X6_98 ⟨Nat.le_of_ble_eq_true rfl, Nat.le_of_ble_eq_true rfl⟩ hw hA hS hl h100 rfl rfl rfl (Nat.le_of_ble_eq_true rfl) dX6_out_15 ⟨Nat.le_of_ble_eq_true rfl, Nat.le_of_ble_eq_true rfl⟩ (fun r ad1 ce19 H locs hp hw hS => ?_)
    obtain ⟨rfl, rfl, hV, hF2⟩ := hp
    have hF : ∀ j, j < 100 → ce19 j = ce j := fun j hj => (hF2 j hj).trans (hF j hj)
    obtain ⟨cn, zs, bs, hh, ⟨h100, h101, h102, h103, h104, h105, h106, h107, h108, h109, h110, h111⟩, hQ, hM⟩ := hV
    refine W.eq (g2 := F0 m 18 ls []) rfl ?_
    refine lv_goto (tgt := 247) hx hb dX6_out_18 (by decide) ?_
    exact z_vret F hw hS (by unfold sp_out1; rw [if_pos c10]; exact ⟨rfl, rfl, ⟨_, _, _, _, ⟨h100, h101, h102, h103, h104, h105, h106, h107, h108, h109, h110, h111⟩, hQ, hM⟩, hF⟩) dX6_out_247
def sp_power0 (T : rf_T) (Q : rf_Q) (M : List Nat) : rf_R := (if (((T 1) 0) : Int32) = 0 then ((-2), T, Q) else (1, (rf_become T 0 0 0 0), rf_put T Q 0 [5, 1]))
set_option maxHeartbeats 4000000 in
set_option maxRecDepth 100000 in
theorem r_power0 (l : Launch) {G : zz_G} {ad : Nat → Nat} {ce : zz_C} {sz : Nat} (T : rf_T) (Q : rf_Q) (M : List Nat) (hV : rfV G ad ce T Q M) : zz_M l yX6_power cX6_power 3 (some .int) 1 24 0 0 G [.ref (ad 100), .int 0] ad ce sz (fun r ad1 ce1 => r = some (.int (sp_power0 T Q M).1) ∧ ad = ad1 ∧ rfV G ad ce1 (sp_power0 T Q M).2.1 (sp_power0 T Q M).2.2 M ∧ (∀ j, j < 100 → ce1 j = ce j)) := by
  refine zz_enter (by decide) (Nat.le_of_ble_eq_true rfl) ?_
  intro p e s m below meth c ls F hl hw hS hA
  obtain ⟨hx, hb, hr, hml, hown, hts, hlocks, hK, hnm⟩ := id F
  have hl : lv_has ls 3 [(0, .ref (ad 100)), (1, .int 0)] := hl
  obtain ⟨cn, zs, bs, hh, ⟨h100, h101, h102, h103, h104, h105, h106, h107, h108, h109, h110, h111⟩, hQ, hM⟩ := hV
  have hF : ∀ j, j < 100 → ce j = ce j := fun _ _ => rfl
  refine lv_iload_n hx hb dX6_power_0 rfl (lv_at hl 1 rfl) ?_
  refine lv_aload_n hx hb dX6_power_1 rfl (lv_at hl 0 rfl) ?_
  refine z_get F hw h100 fd_X6_23_X6 rfl dX6_power_2 ?_
  refine lv_iconst (v := 0) hx hb dX6_power_5 (by decide) ?_
  refine z_ld F hw h104 (0) (rfl) (by decide) (by decide) dX6_power_6 ?_
  refine lv_if_eq (tgt := 14) hx hb dX6_power_7 (by decide) (fun c7 => ?_) (fun c7 => ?_)
  · refine lv_iconst (v := 0) hx hb dX6_power_14 (by decide) ?_
    refine lv_icmp_ne (tgt := 21) hx hb dX6_power_15 (by decide) (fun c15 => absurd c15 (by decide)) (fun c15 => ?_)
    refine lv_bipush (v := -2) hx hb dX6_power_18 (by decide) ?_
    exact z_iret F (rfl) hw hS (by unfold sp_power0; rw [if_pos c7]; exact ⟨rfl, rfl, ⟨_, _, _, _, ⟨h100, h101, h102, h103, h104, h105, h106, h107, h108, h109, h110, h111⟩, hQ, hM⟩, hF⟩) dX6_power_20
  · refine lv_iconst (v := 1) hx hb dX6_power_10 (by decide) ?_
    refine lv_goto (tgt := 15) hx hb dX6_power_11 (by decide) ?_
    refine lv_icmp_ne (tgt := 21) hx hb dX6_power_15 (by decide) (fun c15 => ?_) (fun c15 => absurd c15 (by decide))
    refine lv_iload_n hx hb dX6_power_21 rfl (lv_at hl 1 rfl) ?_
    refine lv_if_eq (tgt := 40) hx hb dX6_power_22 (by decide) (fun c22 => ?_) (fun c22 => absurd c22 (by decide))
    refine lv_aload_n hx hb dX6_power_40 rfl (lv_at hl 0 rfl) ?_
    refine lv_iconst (v := 0) hx hb dX6_power_41 (by decide) ?_
    refine lv_iconst (v := 5) hx hb dX6_power_42 (by decide) ?_
    refine lv_iconst (v := 1) hx hb dX6_power_43 (by decide) ?_
    have hV : rfV G ad ce T Q M := ⟨_, _, _, _, ⟨h100, h101, h102, h103, h104, h105, h106, h107, h108, h109, h110, h111⟩, hQ, hM⟩
    refine z_invV F (rest := []) (r_put0 l T Q M hV 5 1 (by decide) (by decide)) yv_X6_64 ⟨Nat.le_of_ble_eq_true rfl, Nat.le_of_ble_eq_true rfl⟩ hw hA hS hl h100 rfl rfl rfl (Nat.le_of_ble_eq_true rfl) dX6_power_44 ⟨Nat.le_of_ble_eq_true rfl, Nat.le_of_ble_eq_true rfl⟩ (fun r ad1 ce1 H locs hp hw hS => ?_)
    obtain ⟨rfl, rfl, hV, hF2⟩ := hp
    have hF : ∀ j, j < 100 → ce1 j = ce j := fun j hj => (hF2 j hj).trans (hF j hj)
    obtain ⟨cn, zs, bs, hh, ⟨h100, h101, h102, h103, h104, h105, h106, h107, h108, h109, h110, h111⟩, hQ, hM⟩ := hV
    refine W.eq (g2 := F0 m 47 ls [.int (rf_hd T Q 0)]) rfl ?_
    refine lv_istore_n (lv' := [(2, .int (rf_hd T Q 0)), (0, .ref (ad 100)), (1, .int 0)]) hx hb dX6_power_47 rfl hl (by decide) rfl (fun ls hl => ?_)
    refine lv_aload_n hx hb dX6_power_48 rfl (lv_at hl 1 rfl) ?_
    refine lv_iconst (v := 0) hx hb dX6_power_49 (by decide) ?_
    refine lv_iconst (v := 0) hx hb dX6_power_50 (by decide) ?_
    refine lv_iconst (v := 0) hx hb dX6_power_51 (by decide) ?_
    refine lv_iconst (v := 0) hx hb dX6_power_52 (by decide) ?_
    have hV : rfV G ad ce1 T (rf_put T Q 0 [5, 1]) M := ⟨_, _, _, _, ⟨h100, h101, h102, h103, h104, h105, h106, h107, h108, h109, h110, h111⟩, hQ, hM⟩
    refine z_invV F (rest := []) (r_become0 l T (rf_put T Q 0 [5, 1]) M hV 0 0 0) yv_X6_83 ⟨Nat.le_of_ble_eq_true rfl, Nat.le_of_ble_eq_true rfl⟩ hw hA hS hl h100 rfl rfl rfl (Nat.le_of_ble_eq_true rfl) dX6_power_53 ⟨Nat.le_of_ble_eq_true rfl, Nat.le_of_ble_eq_true rfl⟩ (fun r ad1 ce2 H locs hp hw hS => ?_)
    obtain ⟨rfl, rfl, hV, hF2⟩ := hp
    have hF : ∀ j, j < 100 → ce2 j = ce j := fun j hj => (hF2 j hj).trans (hF j hj)
    obtain ⟨cn, zs, bs, hh, ⟨h100, h101, h102, h103, h104, h105, h106, h107, h108, h109, h110, h111⟩, hQ, hM⟩ := hV
    refine W.eq (g2 := F0 m 56 ls []) rfl ?_
    refine lv_iconst (v := 1) hx hb dX6_power_56 (by decide) ?_
    exact z_iret F (rfl) hw hS (by unfold sp_power0; rw [if_neg c7]; exact ⟨rfl, rfl, ⟨_, _, _, _, ⟨h100, h101, h102, h103, h104, h105, h106, h107, h108, h109, h110, h111⟩, hQ, hM⟩, hF⟩) dX6_power_57
def sp_power1 (T : rf_T) (Q : rf_Q) (M : List Nat) : rf_R := (if (((T 1) 0) : Int32) = 0 then (1, (rf_become (va_up T 0 (va_up (T 0) 6 0)) 0 1 0 0), Q) else ((-2), T, Q))
set_option maxHeartbeats 4000000 in
set_option maxRecDepth 100000 in
theorem r_power1 (l : Launch) {G : zz_G} {ad : Nat → Nat} {ce : zz_C} {sz : Nat} (T : rf_T) (Q : rf_Q) (M : List Nat) (hV : rfV G ad ce T Q M) : zz_M l yX6_power cX6_power 3 (some .int) 1 24 0 0 G [.ref (ad 100), .int 1] ad ce sz (fun r ad1 ce1 => r = some (.int (sp_power1 T Q M).1) ∧ ad = ad1 ∧ rfV G ad ce1 (sp_power1 T Q M).2.1 (sp_power1 T Q M).2.2 M ∧ (∀ j, j < 100 → ce1 j = ce j)) := by
  refine zz_enter (by decide) (Nat.le_of_ble_eq_true rfl) ?_
  intro p e s m below meth c ls F hl hw hS hA
  obtain ⟨hx, hb, hr, hml, hown, hts, hlocks, hK, hnm⟩ := id F
  have hl : lv_has ls 3 [(0, .ref (ad 100)), (1, .int 1)] := hl
  obtain ⟨cn, zs, bs, hh, ⟨h100, h101, h102, h103, h104, h105, h106, h107, h108, h109, h110, h111⟩, hQ, hM⟩ := hV
  have hF : ∀ j, j < 100 → ce j = ce j := fun _ _ => rfl
  refine lv_iload_n hx hb dX6_power_0 rfl (lv_at hl 1 rfl) ?_
  refine lv_aload_n hx hb dX6_power_1 rfl (lv_at hl 0 rfl) ?_
  refine z_get F hw h100 fd_X6_23_X6 rfl dX6_power_2 ?_
  refine lv_iconst (v := 0) hx hb dX6_power_5 (by decide) ?_
  refine z_ld F hw h104 (0) (rfl) (by decide) (by decide) dX6_power_6 ?_
  refine lv_if_eq (tgt := 14) hx hb dX6_power_7 (by decide) (fun c7 => ?_) (fun c7 => ?_)
  · refine lv_iconst (v := 0) hx hb dX6_power_14 (by decide) ?_
    refine lv_icmp_ne (tgt := 21) hx hb dX6_power_15 (by decide) (fun c15 => ?_) (fun c15 => absurd c15 (by decide))
    refine lv_iload_n hx hb dX6_power_21 rfl (lv_at hl 1 rfl) ?_
    refine lv_if_eq (tgt := 40) hx hb dX6_power_22 (by decide) (fun c22 => absurd c22 (by decide)) (fun c22 => ?_)
    refine lv_aload_n hx hb dX6_power_25 rfl (lv_at hl 0 rfl) ?_
    refine lv_iconst (v := 0) hx hb dX6_power_26 (by decide) ?_
    refine z_put F hw hS (fs' := [.int (T 0 0), .int (T 0 1), .int (T 0 2), .int (T 0 3), .int (T 0 4), .ref (ad 101), .ref (ad 102), .ref (ad 103), .int (T 0 5), .ref (ad 104), .ref (ad 105), .ref (ad 106), .ref (ad 107), .ref (ad 108), .int 0, .int (T 0 7), .int (T 0 8), .ref (ad 109), .int (T 0 9), .ref (ad 110), .int (T 0 10), .int (nI M.length), .ref (ad 111)]) h100 fd_X6_105_X6 ptX6 rfl (rfl) (rfl) (Nat.le_of_ble_eq_true rfl) rfl dX6_power_27 (fun ce1 H locs h100 fr2 hw hS => ?_)
    have h101 := (fr2 101 (by decide)).trans h101
    have h102 := (fr2 102 (by decide)).trans h102
    have h103 := (fr2 103 (by decide)).trans h103
    have h104 := (fr2 104 (by decide)).trans h104
    have h105 := (fr2 105 (by decide)).trans h105
    have h106 := (fr2 106 (by decide)).trans h106
    have h107 := (fr2 107 (by decide)).trans h107
    have h108 := (fr2 108 (by decide)).trans h108
    have h109 := (fr2 109 (by decide)).trans h109
    have h110 := (fr2 110 (by decide)).trans h110
    have h111 := (fr2 111 (by decide)).trans h111
    have hF : ∀ j, j < 100 → _ = ce j := fun j hj => (fr2 j (by omega)).trans (hF j hj)
    refine lv_aload_n hx hb dX6_power_30 rfl (lv_at hl 0 rfl) ?_
    refine lv_iconst (v := 0) hx hb dX6_power_31 (by decide) ?_
    refine lv_iconst (v := 1) hx hb dX6_power_32 (by decide) ?_
    refine lv_iconst (v := 0) hx hb dX6_power_33 (by decide) ?_
    refine lv_iconst (v := 0) hx hb dX6_power_34 (by decide) ?_
    have hV : rfV G ad ce1 (va_up T 0 (va_up (T 0) 6 0)) Q M := ⟨_, _, _, _, ⟨h100, h101, h102, h103, h104, h105, h106, h107, h108, h109, h110, h111⟩, hQ, hM⟩
    refine z_invV F (rest := []) (r_become0 l (va_up T 0 (va_up (T 0) 6 0)) Q M hV 1 0 0) yv_X6_83 ⟨Nat.le_of_ble_eq_true rfl, Nat.le_of_ble_eq_true rfl⟩ hw hA hS hl h100 rfl rfl rfl (Nat.le_of_ble_eq_true rfl) dX6_power_35 ⟨Nat.le_of_ble_eq_true rfl, Nat.le_of_ble_eq_true rfl⟩ (fun r ad1 ce3 H locs hp hw hS => ?_)
    obtain ⟨rfl, rfl, hV, hF2⟩ := hp
    have hF : ∀ j, j < 100 → ce3 j = ce j := fun j hj => (hF2 j hj).trans (hF j hj)
    obtain ⟨cn, zs, bs, hh, ⟨h100, h101, h102, h103, h104, h105, h106, h107, h108, h109, h110, h111⟩, hQ, hM⟩ := hV
    refine W.eq (g2 := F0 m 38 ls []) rfl ?_
    refine lv_iconst (v := 1) hx hb dX6_power_38 (by decide) ?_
    exact z_iret F (rfl) hw hS (by unfold sp_power1; rw [if_pos c7]; exact ⟨rfl, rfl, ⟨_, _, _, _, ⟨h100, h101, h102, h103, h104, h105, h106, h107, h108, h109, h110, h111⟩, hQ, hM⟩, hF⟩) dX6_power_39
  · refine lv_iconst (v := 1) hx hb dX6_power_10 (by decide) ?_
    refine lv_goto (tgt := 15) hx hb dX6_power_11 (by decide) ?_
    refine lv_icmp_ne (tgt := 21) hx hb dX6_power_15 (by decide) (fun c15 => absurd c15 (by decide)) (fun c15 => ?_)
    refine lv_bipush (v := -2) hx hb dX6_power_18 (by decide) ?_
    exact z_iret F (rfl) hw hS (by unfold sp_power1; rw [if_neg c7]; exact ⟨rfl, rfl, ⟨_, _, _, _, ⟨h100, h101, h102, h103, h104, h105, h106, h107, h108, h109, h110, h111⟩, hQ, hM⟩, hF⟩) dX6_power_20
def sp_update (T : rf_T) (Q : rf_Q) (M : List Nat) (v : Int32) : rf_R := (if (v : Int32) < 0 then ((-1), T, Q) else (if (v : Int32) ≤ 65535 then (if (((T 1) 0) : Int32) = 1 then (1, (rf_become T 0 2 ((T 2) 0) 20), rf_put T Q 0 ([5, 8, 19, 2] ++ rf_bytes 2 v)) else (if (((T 1) 0) : Int32) = 3 then (1, (rf_become T 0 2 ((T 2) 0) 20), rf_put T Q 0 ([5, 8, 19, 2] ++ rf_bytes 2 v)) else ((-2), T, Q))) else ((-1), T, Q)))
set_option maxHeartbeats 4000000 in
set_option maxRecDepth 100000 in
theorem r_update (l : Launch) {G : zz_G} {ad : Nat → Nat} {ce : zz_C} {sz : Nat} (T : rf_T) (Q : rf_Q) (M : List Nat) (hV : rfV G ad ce T Q M) (v : Int32) : zz_M l yX6_update cX6_update 2 (some .int) 2 52 0 0 G [.ref (ad 100), .int v] ad ce sz (fun r ad1 ce1 => r = some (.int (sp_update T Q M v).1) ∧ ad = ad1 ∧ rfV G ad ce1 (sp_update T Q M v).2.1 (sp_update T Q M v).2.2 M ∧ (∀ j, j < 100 → ce1 j = ce j)) := by
  refine zz_enter (by decide) (Nat.le_of_ble_eq_true rfl) ?_
  intro p e s m below meth c ls F hl hw hS hA
  obtain ⟨hx, hb, hr, hml, hown, hts, hlocks, hK, hnm⟩ := id F
  have hl : lv_has ls 2 [(0, .ref (ad 100)), (1, .int v)] := hl
  obtain ⟨cn, zs, bs, hh, ⟨h100, h101, h102, h103, h104, h105, h106, h107, h108, h109, h110, h111⟩, hQ, hM⟩ := hV
  have hF : ∀ j, j < 100 → ce j = ce j := fun _ _ => rfl
  refine lv_iload_n hx hb dX6_update_0 rfl (lv_at hl 1 rfl) ?_
  refine lv_if_lt (tgt := 10) hx hb dX6_update_1 (by decide) (fun c1 => ?_) (fun c1 => ?_)
  · refine lv_iconst (v := -1) hx hb dX6_update_10 (by decide) ?_
    exact z_iret F (rfl) hw hS (by unfold sp_update; rw [if_pos c1]; exact ⟨rfl, rfl, ⟨_, _, _, _, ⟨h100, h101, h102, h103, h104, h105, h106, h107, h108, h109, h110, h111⟩, hQ, hM⟩, hF⟩) dX6_update_11
  · refine lv_iload_n hx hb dX6_update_4 rfl (lv_at hl 1 rfl) ?_
    refine lv_ldc (v := 65535) hx hb hown (hts _ wd_757) dX6_update_5 ?_
    refine lv_icmp_le (tgt := 12) hx hb dX6_update_7 (by decide) (fun c7 => ?_) (fun c7 => ?_)
    · refine lv_aload_n hx hb dX6_update_12 rfl (lv_at hl 0 rfl) ?_
      refine z_get F hw h100 fd_X6_23_X6 rfl dX6_update_13 ?_
      refine lv_iconst (v := 0) hx hb dX6_update_16 (by decide) ?_
      refine z_ld F hw h104 (0) (rfl) (by decide) (by decide) dX6_update_17 ?_
      refine lv_iconst (v := 1) hx hb dX6_update_18 (by decide) ?_
      refine lv_icmp_eq (tgt := 35) hx hb dX6_update_19 (by decide) (fun c19 => ?_) (fun c19 => ?_)
      · refine lv_aload_n hx hb dX6_update_35 rfl (lv_at hl 0 rfl) ?_
        refine lv_iconst (v := 0) hx hb dX6_update_36 (by decide) ?_
        refine lv_iconst (v := 5) hx hb dX6_update_37 (by decide) ?_
        refine lv_bipush (v := 8) hx hb dX6_update_38 (by decide) ?_
        refine lv_bipush (v := 19) hx hb dX6_update_40 (by decide) ?_
        refine lv_iconst (v := 2) hx hb dX6_update_42 (by decide) ?_
        refine lv_iload_n hx hb dX6_update_43 rfl (lv_at hl 1 rfl) ?_
        have hV : rfV G ad ce T Q M := ⟨_, _, _, _, ⟨h100, h101, h102, h103, h104, h105, h106, h107, h108, h109, h110, h111⟩, hQ, hM⟩
        refine z_invV F (rest := []) (r_tell0_2 l T Q M hV 5 8 19 (by decide) (by decide) (by decide) v) yv_X6_112 ⟨Nat.le_of_ble_eq_true rfl, Nat.le_of_ble_eq_true rfl⟩ hw hA hS hl h100 rfl rfl rfl (Nat.le_of_ble_eq_true rfl) dX6_update_44 ⟨Nat.le_of_ble_eq_true rfl, Nat.le_of_ble_eq_true rfl⟩ (fun r ad1 ce1 H locs hp hw hS => ?_)
        obtain ⟨rfl, rfl, hV, hF2⟩ := hp
        have hF : ∀ j, j < 100 → ce1 j = ce j := fun j hj => (hF2 j hj).trans (hF j hj)
        obtain ⟨cn, zs, bs, hh, ⟨h100, h101, h102, h103, h104, h105, h106, h107, h108, h109, h110, h111⟩, hQ, hM⟩ := hV
        refine W.eq (g2 := F0 m 47 ls []) rfl ?_
        refine lv_aload_n hx hb dX6_update_47 rfl (lv_at hl 0 rfl) ?_
        refine lv_iconst (v := 0) hx hb dX6_update_48 (by decide) ?_
        refine lv_iconst (v := 2) hx hb dX6_update_49 (by decide) ?_
        refine lv_aload_n hx hb dX6_update_50 rfl (lv_at hl 0 rfl) ?_
        refine z_get F hw h100 fd_X6_26_X6 rfl dX6_update_51 ?_
        refine lv_iconst (v := 0) hx hb dX6_update_54 (by decide) ?_
        refine z_ld F hw h105 (0) (rfl) (by decide) (by decide) dX6_update_55 ?_
        refine lv_bipush (v := 20) hx hb dX6_update_56 (by decide) ?_
        have hV : rfV G ad ce1 T (rf_put T Q 0 ([5, 8, 19, 2] ++ rf_bytes 2 v)) M := ⟨_, _, _, _, ⟨h100, h101, h102, h103, h104, h105, h106, h107, h108, h109, h110, h111⟩, hQ, hM⟩
        refine z_invV F (rest := []) (r_become0 l T (rf_put T Q 0 ([5, 8, 19, 2] ++ rf_bytes 2 v)) M hV 2 ((T 2) 0) 20) yv_X6_83 ⟨Nat.le_of_ble_eq_true rfl, Nat.le_of_ble_eq_true rfl⟩ hw hA hS hl h100 rfl rfl rfl (Nat.le_of_ble_eq_true rfl) dX6_update_58 ⟨Nat.le_of_ble_eq_true rfl, Nat.le_of_ble_eq_true rfl⟩ (fun r ad1 ce2 H locs hp hw hS => ?_)
        obtain ⟨rfl, rfl, hV, hF2⟩ := hp
        have hF : ∀ j, j < 100 → ce2 j = ce j := fun j hj => (hF2 j hj).trans (hF j hj)
        obtain ⟨cn, zs, bs, hh, ⟨h100, h101, h102, h103, h104, h105, h106, h107, h108, h109, h110, h111⟩, hQ, hM⟩ := hV
        refine W.eq (g2 := F0 m 61 ls []) rfl ?_
        refine lv_iconst (v := 1) hx hb dX6_update_61 (by decide) ?_
        exact z_iret F (rfl) hw hS (by unfold sp_update; rw [if_neg c1, if_pos c7, if_pos c19]; exact ⟨rfl, rfl, ⟨_, _, _, _, ⟨h100, h101, h102, h103, h104, h105, h106, h107, h108, h109, h110, h111⟩, hQ, hM⟩, hF⟩) dX6_update_62
      · refine lv_aload_n hx hb dX6_update_22 rfl (lv_at hl 0 rfl) ?_
        refine z_get F hw h100 fd_X6_23_X6 rfl dX6_update_23 ?_
        refine lv_iconst (v := 0) hx hb dX6_update_26 (by decide) ?_
        refine z_ld F hw h104 (0) (rfl) (by decide) (by decide) dX6_update_27 ?_
        refine lv_iconst (v := 3) hx hb dX6_update_28 (by decide) ?_
        refine lv_icmp_eq (tgt := 35) hx hb dX6_update_29 (by decide) (fun c29 => ?_) (fun c29 => ?_)
        · refine lv_aload_n hx hb dX6_update_35 rfl (lv_at hl 0 rfl) ?_
          refine lv_iconst (v := 0) hx hb dX6_update_36 (by decide) ?_
          refine lv_iconst (v := 5) hx hb dX6_update_37 (by decide) ?_
          refine lv_bipush (v := 8) hx hb dX6_update_38 (by decide) ?_
          refine lv_bipush (v := 19) hx hb dX6_update_40 (by decide) ?_
          refine lv_iconst (v := 2) hx hb dX6_update_42 (by decide) ?_
          refine lv_iload_n hx hb dX6_update_43 rfl (lv_at hl 1 rfl) ?_
          have hV : rfV G ad ce T Q M := ⟨_, _, _, _, ⟨h100, h101, h102, h103, h104, h105, h106, h107, h108, h109, h110, h111⟩, hQ, hM⟩
          refine z_invV F (rest := []) (r_tell0_2 l T Q M hV 5 8 19 (by decide) (by decide) (by decide) v) yv_X6_112 ⟨Nat.le_of_ble_eq_true rfl, Nat.le_of_ble_eq_true rfl⟩ hw hA hS hl h100 rfl rfl rfl (Nat.le_of_ble_eq_true rfl) dX6_update_44 ⟨Nat.le_of_ble_eq_true rfl, Nat.le_of_ble_eq_true rfl⟩ (fun r ad1 ce3 H locs hp hw hS => ?_)
          obtain ⟨rfl, rfl, hV, hF2⟩ := hp
          have hF : ∀ j, j < 100 → ce3 j = ce j := fun j hj => (hF2 j hj).trans (hF j hj)
          obtain ⟨cn, zs, bs, hh, ⟨h100, h101, h102, h103, h104, h105, h106, h107, h108, h109, h110, h111⟩, hQ, hM⟩ := hV
          refine W.eq (g2 := F0 m 47 ls []) rfl ?_
          refine lv_aload_n hx hb dX6_update_47 rfl (lv_at hl 0 rfl) ?_
          refine lv_iconst (v := 0) hx hb dX6_update_48 (by decide) ?_
          refine lv_iconst (v := 2) hx hb dX6_update_49 (by decide) ?_
          refine lv_aload_n hx hb dX6_update_50 rfl (lv_at hl 0 rfl) ?_
          refine z_get F hw h100 fd_X6_26_X6 rfl dX6_update_51 ?_
          refine lv_iconst (v := 0) hx hb dX6_update_54 (by decide) ?_
          refine z_ld F hw h105 (0) (rfl) (by decide) (by decide) dX6_update_55 ?_
          refine lv_bipush (v := 20) hx hb dX6_update_56 (by decide) ?_
          have hV : rfV G ad ce3 T (rf_put T Q 0 ([5, 8, 19, 2] ++ rf_bytes 2 v)) M := ⟨_, _, _, _, ⟨h100, h101, h102, h103, h104, h105, h106, h107, h108, h109, h110, h111⟩, hQ, hM⟩
          refine z_invV F (rest := []) (r_become0 l T (rf_put T Q 0 ([5, 8, 19, 2] ++ rf_bytes 2 v)) M hV 2 ((T 2) 0) 20) yv_X6_83 ⟨Nat.le_of_ble_eq_true rfl, Nat.le_of_ble_eq_true rfl⟩ hw hA hS hl h100 rfl rfl rfl (Nat.le_of_ble_eq_true rfl) dX6_update_58 ⟨Nat.le_of_ble_eq_true rfl, Nat.le_of_ble_eq_true rfl⟩ (fun r ad1 ce4 H locs hp hw hS => ?_)
          obtain ⟨rfl, rfl, hV, hF2⟩ := hp
          have hF : ∀ j, j < 100 → ce4 j = ce j := fun j hj => (hF2 j hj).trans (hF j hj)
          obtain ⟨cn, zs, bs, hh, ⟨h100, h101, h102, h103, h104, h105, h106, h107, h108, h109, h110, h111⟩, hQ, hM⟩ := hV
          refine W.eq (g2 := F0 m 61 ls []) rfl ?_
          refine lv_iconst (v := 1) hx hb dX6_update_61 (by decide) ?_
          exact z_iret F (rfl) hw hS (by unfold sp_update; rw [if_neg c1, if_pos c7, if_neg c19, if_pos c29]; exact ⟨rfl, rfl, ⟨_, _, _, _, ⟨h100, h101, h102, h103, h104, h105, h106, h107, h108, h109, h110, h111⟩, hQ, hM⟩, hF⟩) dX6_update_62
        · refine lv_bipush (v := -2) hx hb dX6_update_32 (by decide) ?_
          exact z_iret F (rfl) hw hS (by unfold sp_update; rw [if_neg c1, if_pos c7, if_neg c19, if_neg c29]; exact ⟨rfl, rfl, ⟨_, _, _, _, ⟨h100, h101, h102, h103, h104, h105, h106, h107, h108, h109, h110, h111⟩, hQ, hM⟩, hF⟩) dX6_update_34
    · refine lv_iconst (v := -1) hx hb dX6_update_10 (by decide) ?_
      exact z_iret F (rfl) hw hS (by unfold sp_update; rw [if_neg c1, if_neg c7]; exact ⟨rfl, rfl, ⟨_, _, _, _, ⟨h100, h101, h102, h103, h104, h105, h106, h107, h108, h109, h110, h111⟩, hQ, hM⟩, hF⟩) dX6_update_11
def sp_hang (T : rf_T) (Q : rf_Q) (M : List Nat) : rf_R := (if rf_inC T 0 1 4 then (1, (rf_become T 0 (T 1 0) 5 30), rf_put T Q 0 ([3, 37, 8, 1] ++ rf_bytes 1 16)) else ((-2), T, Q))
set_option maxHeartbeats 4000000 in
set_option maxRecDepth 100000 in
theorem r_hang (l : Launch) {G : zz_G} {ad : Nat → Nat} {ce : zz_C} {sz : Nat} (T : rf_T) (Q : rf_Q) (M : List Nat) (hV : rfV G ad ce T Q M) : zz_M l yX6_hang cX6_hang 1 (some .int) 3 74 0 0 G [.ref (ad 100)] ad ce sz (fun r ad1 ce1 => r = some (.int (sp_hang T Q M).1) ∧ ad = ad1 ∧ rfV G ad ce1 (sp_hang T Q M).2.1 (sp_hang T Q M).2.2 M ∧ (∀ j, j < 100 → ce1 j = ce j)) := by
  refine zz_enter (by decide) (Nat.le_of_ble_eq_true rfl) ?_
  intro p e s m below meth c ls F hl hw hS hA
  obtain ⟨hx, hb, hr, hml, hown, hts, hlocks, hK, hnm⟩ := id F
  have hl : lv_has ls 1 [(0, .ref (ad 100))] := hl
  obtain ⟨cn, zs, bs, hh, ⟨h100, h101, h102, h103, h104, h105, h106, h107, h108, h109, h110, h111⟩, hQ, hM⟩ := hV
  have hF : ∀ j, j < 100 → ce j = ce j := fun _ _ => rfl
  refine lv_aload_n hx hb dX6_hang_0 rfl (lv_at hl 0 rfl) ?_
  refine lv_iconst (v := 0) hx hb dX6_hang_1 (by decide) ?_
  refine lv_iconst (v := 1) hx hb dX6_hang_2 (by decide) ?_
  refine lv_iconst (v := 4) hx hb dX6_hang_3 (by decide) ?_
  have hV : rfV G ad ce T Q M := ⟨_, _, _, _, ⟨h100, h101, h102, h103, h104, h105, h106, h107, h108, h109, h110, h111⟩, hQ, hM⟩
  refine z_invV F (rest := []) (r_isCall0 l T Q M hV 1 4) yv_X6_91 ⟨Nat.le_of_ble_eq_true rfl, Nat.le_of_ble_eq_true rfl⟩ hw hA hS hl h100 rfl rfl rfl (Nat.le_of_ble_eq_true rfl) dX6_hang_4 ⟨Nat.le_of_ble_eq_true rfl, Nat.le_of_ble_eq_true rfl⟩ (fun r ad1 ce1 H locs hp hw hS => ?_)
  obtain ⟨hp, rfl, rfl⟩ := hp
  rcases hp with ⟨hc, rfl⟩ | ⟨hc, rfl⟩
  · refine W.eq (g2 := F0 m 7 ls [.int 1]) rfl ?_
    refine lv_if_ne (tgt := 13) hx hb dX6_hang_7 (by decide) (fun c7 => ?_) (fun c7 => absurd c7 (by decide))
    refine lv_aload_n hx hb dX6_hang_13 rfl (lv_at hl 0 rfl) ?_
    refine lv_iconst (v := 0) hx hb dX6_hang_14 (by decide) ?_
    refine lv_bipush (v := 16) hx hb dX6_hang_15 (by decide) ?_
    have hV : rfV G ad ce T Q M := ⟨_, _, _, _, ⟨h100, h101, h102, h103, h104, h105, h106, h107, h108, h109, h110, h111⟩, hQ, hM⟩
    refine z_invV F (rest := []) (r_end0 l T Q M hV 16) yv_X6_142 ⟨Nat.le_of_ble_eq_true rfl, Nat.le_of_ble_eq_true rfl⟩ hw hA hS hl h100 rfl rfl rfl (Nat.le_of_ble_eq_true rfl) dX6_hang_17 ⟨Nat.le_of_ble_eq_true rfl, Nat.le_of_ble_eq_true rfl⟩ (fun r ad1 ce2 H locs hp hw hS => ?_)
    obtain ⟨rfl, rfl, hV, hF2⟩ := hp
    have hF : ∀ j, j < 100 → ce2 j = ce j := fun j hj => (hF2 j hj).trans (hF j hj)
    obtain ⟨cn, zs, bs, hh, ⟨h100, h101, h102, h103, h104, h105, h106, h107, h108, h109, h110, h111⟩, hQ, hM⟩ := hV
    refine W.eq (g2 := F0 m 20 ls []) rfl ?_
    refine lv_iconst (v := 1) hx hb dX6_hang_20 (by decide) ?_
    exact z_iret F (rfl) hw hS (by unfold sp_hang; rw [if_pos hc]; exact ⟨rfl, rfl, ⟨_, _, _, _, ⟨h100, h101, h102, h103, h104, h105, h106, h107, h108, h109, h110, h111⟩, hQ, hM⟩, hF⟩) dX6_hang_21
  · refine W.eq (g2 := F0 m 7 ls [.int 0]) rfl ?_
    refine lv_if_ne (tgt := 13) hx hb dX6_hang_7 (by decide) (fun c7 => absurd c7 (by decide)) (fun c7 => ?_)
    refine lv_bipush (v := -2) hx hb dX6_hang_10 (by decide) ?_
    exact z_iret F (rfl) hw hS (by unfold sp_hang; rw [if_neg hc]; exact ⟨rfl, rfl, ⟨_, _, _, _, ⟨h100, h101, h102, h103, h104, h105, h106, h107, h108, h109, h110, h111⟩, hQ, hM⟩, hF⟩) dX6_hang_12
def sp_alert (T : rf_T) (Q : rf_Q) (M : List Nat) : rf_R := (if (((T 2) 1) : Int32) = 1 then (1, (rf_become T 1 ((T 1) 1) 2 0), rf_put T Q 1 [3, 1]) else ((-2), T, Q))
set_option maxHeartbeats 4000000 in
set_option maxRecDepth 100000 in
theorem r_alert (l : Launch) {G : zz_G} {ad : Nat → Nat} {ce : zz_C} {sz : Nat} (T : rf_T) (Q : rf_Q) (M : List Nat) (hV : rfV G ad ce T Q M) : zz_M l yX6_alert cX6_alert 2 (some .int) 1 24 0 0 G [.ref (ad 100)] ad ce sz (fun r ad1 ce1 => r = some (.int (sp_alert T Q M).1) ∧ ad = ad1 ∧ rfV G ad ce1 (sp_alert T Q M).2.1 (sp_alert T Q M).2.2 M ∧ (∀ j, j < 100 → ce1 j = ce j)) := by
  refine zz_enter (by decide) (Nat.le_of_ble_eq_true rfl) ?_
  intro p e s m below meth c ls F hl hw hS hA
  obtain ⟨hx, hb, hr, hml, hown, hts, hlocks, hK, hnm⟩ := id F
  have hl : lv_has ls 2 [(0, .ref (ad 100))] := hl
  obtain ⟨cn, zs, bs, hh, ⟨h100, h101, h102, h103, h104, h105, h106, h107, h108, h109, h110, h111⟩, hQ, hM⟩ := hV
  have hF : ∀ j, j < 100 → ce j = ce j := fun _ _ => rfl
  refine lv_aload_n hx hb dX6_alert_0 rfl (lv_at hl 0 rfl) ?_
  refine z_get F hw h100 fd_X6_26_X6 rfl dX6_alert_1 ?_
  refine lv_iconst (v := 1) hx hb dX6_alert_4 (by decide) ?_
  refine z_ld F hw h105 (1) (rfl) (by decide) (by decide) dX6_alert_5 ?_
  refine lv_iconst (v := 1) hx hb dX6_alert_6 (by decide) ?_
  refine lv_icmp_eq (tgt := 13) hx hb dX6_alert_7 (by decide) (fun c7 => ?_) (fun c7 => ?_)
  · refine lv_aload_n hx hb dX6_alert_13 rfl (lv_at hl 0 rfl) ?_
    refine lv_iconst (v := 1) hx hb dX6_alert_14 (by decide) ?_
    refine lv_iconst (v := 3) hx hb dX6_alert_15 (by decide) ?_
    refine lv_iconst (v := 1) hx hb dX6_alert_16 (by decide) ?_
    have hV : rfV G ad ce T Q M := ⟨_, _, _, _, ⟨h100, h101, h102, h103, h104, h105, h106, h107, h108, h109, h110, h111⟩, hQ, hM⟩
    refine z_invV F (rest := []) (r_put1 l T Q M hV 3 1 (by decide) (by decide)) yv_X6_64 ⟨Nat.le_of_ble_eq_true rfl, Nat.le_of_ble_eq_true rfl⟩ hw hA hS hl h100 rfl rfl rfl (Nat.le_of_ble_eq_true rfl) dX6_alert_17 ⟨Nat.le_of_ble_eq_true rfl, Nat.le_of_ble_eq_true rfl⟩ (fun r ad1 ce1 H locs hp hw hS => ?_)
    obtain ⟨rfl, rfl, hV, hF2⟩ := hp
    have hF : ∀ j, j < 100 → ce1 j = ce j := fun j hj => (hF2 j hj).trans (hF j hj)
    obtain ⟨cn, zs, bs, hh, ⟨h100, h101, h102, h103, h104, h105, h106, h107, h108, h109, h110, h111⟩, hQ, hM⟩ := hV
    refine W.eq (g2 := F0 m 20 ls [.int (rf_hd T Q 1)]) rfl ?_
    refine lv_istore_n (lv' := [(1, .int (rf_hd T Q 1)), (0, .ref (ad 100))]) hx hb dX6_alert_20 rfl hl (by decide) rfl (fun ls hl => ?_)
    refine lv_aload_n hx hb dX6_alert_21 rfl (lv_at hl 1 rfl) ?_
    refine lv_iconst (v := 1) hx hb dX6_alert_22 (by decide) ?_
    refine lv_aload_n hx hb dX6_alert_23 rfl (lv_at hl 1 rfl) ?_
    refine z_get F hw h100 fd_X6_23_X6 rfl dX6_alert_24 ?_
    refine lv_iconst (v := 1) hx hb dX6_alert_27 (by decide) ?_
    refine z_ld F hw h104 (1) (rfl) (by decide) (by decide) dX6_alert_28 ?_
    refine lv_iconst (v := 2) hx hb dX6_alert_29 (by decide) ?_
    refine lv_iconst (v := 0) hx hb dX6_alert_30 (by decide) ?_
    have hV : rfV G ad ce1 T (rf_put T Q 1 [3, 1]) M := ⟨_, _, _, _, ⟨h100, h101, h102, h103, h104, h105, h106, h107, h108, h109, h110, h111⟩, hQ, hM⟩
    refine z_invV F (rest := []) (r_become1 l T (rf_put T Q 1 [3, 1]) M hV ((T 1) 1) 2 0) yv_X6_83 ⟨Nat.le_of_ble_eq_true rfl, Nat.le_of_ble_eq_true rfl⟩ hw hA hS hl h100 rfl rfl rfl (Nat.le_of_ble_eq_true rfl) dX6_alert_31 ⟨Nat.le_of_ble_eq_true rfl, Nat.le_of_ble_eq_true rfl⟩ (fun r ad1 ce2 H locs hp hw hS => ?_)
    obtain ⟨rfl, rfl, hV, hF2⟩ := hp
    have hF : ∀ j, j < 100 → ce2 j = ce j := fun j hj => (hF2 j hj).trans (hF j hj)
    obtain ⟨cn, zs, bs, hh, ⟨h100, h101, h102, h103, h104, h105, h106, h107, h108, h109, h110, h111⟩, hQ, hM⟩ := hV
    refine W.eq (g2 := F0 m 34 ls []) rfl ?_
    refine lv_iconst (v := 1) hx hb dX6_alert_34 (by decide) ?_
    exact z_iret F (rfl) hw hS (by unfold sp_alert; rw [if_pos c7]; exact ⟨rfl, rfl, ⟨_, _, _, _, ⟨h100, h101, h102, h103, h104, h105, h106, h107, h108, h109, h110, h111⟩, hQ, hM⟩, hF⟩) dX6_alert_35
  · refine lv_bipush (v := -2) hx hb dX6_alert_10 (by decide) ?_
    exact z_iret F (rfl) hw hS (by unfold sp_alert; rw [if_neg c7]; exact ⟨rfl, rfl, ⟨_, _, _, _, ⟨h100, h101, h102, h103, h104, h105, h106, h107, h108, h109, h110, h111⟩, hQ, hM⟩, hF⟩) dX6_alert_12
def sp_answer (T : rf_T) (Q : rf_Q) (M : List Nat) : rf_R := (if rf_inC T 1 1 2 then (1, (rf_become T 1 ((T 1) 1) 3 10), rf_put T Q 1 [3, 7]) else ((-2), T, Q))
set_option maxHeartbeats 4000000 in
set_option maxRecDepth 100000 in
theorem r_answer (l : Launch) {G : zz_G} {ad : Nat → Nat} {ce : zz_C} {sz : Nat} (T : rf_T) (Q : rf_Q) (M : List Nat) (hV : rfV G ad ce T Q M) : zz_M l yX6_answer cX6_answer 2 (some .int) 1 24 0 0 G [.ref (ad 100)] ad ce sz (fun r ad1 ce1 => r = some (.int (sp_answer T Q M).1) ∧ ad = ad1 ∧ rfV G ad ce1 (sp_answer T Q M).2.1 (sp_answer T Q M).2.2 M ∧ (∀ j, j < 100 → ce1 j = ce j)) := by
  refine zz_enter (by decide) (Nat.le_of_ble_eq_true rfl) ?_
  intro p e s m below meth c ls F hl hw hS hA
  obtain ⟨hx, hb, hr, hml, hown, hts, hlocks, hK, hnm⟩ := id F
  have hl : lv_has ls 2 [(0, .ref (ad 100))] := hl
  obtain ⟨cn, zs, bs, hh, ⟨h100, h101, h102, h103, h104, h105, h106, h107, h108, h109, h110, h111⟩, hQ, hM⟩ := hV
  have hF : ∀ j, j < 100 → ce j = ce j := fun _ _ => rfl
  refine lv_aload_n hx hb dX6_answer_0 rfl (lv_at hl 0 rfl) ?_
  refine lv_iconst (v := 1) hx hb dX6_answer_1 (by decide) ?_
  refine lv_iconst (v := 1) hx hb dX6_answer_2 (by decide) ?_
  refine lv_iconst (v := 2) hx hb dX6_answer_3 (by decide) ?_
  have hV : rfV G ad ce T Q M := ⟨_, _, _, _, ⟨h100, h101, h102, h103, h104, h105, h106, h107, h108, h109, h110, h111⟩, hQ, hM⟩
  refine z_invV F (rest := []) (r_isCall1 l T Q M hV 1 2) yv_X6_91 ⟨Nat.le_of_ble_eq_true rfl, Nat.le_of_ble_eq_true rfl⟩ hw hA hS hl h100 rfl rfl rfl (Nat.le_of_ble_eq_true rfl) dX6_answer_4 ⟨Nat.le_of_ble_eq_true rfl, Nat.le_of_ble_eq_true rfl⟩ (fun r ad1 ce1 H locs hp hw hS => ?_)
  obtain ⟨hp, rfl, rfl⟩ := hp
  rcases hp with ⟨hc, rfl⟩ | ⟨hc, rfl⟩
  · refine W.eq (g2 := F0 m 7 ls [.int 1]) rfl ?_
    refine lv_if_ne (tgt := 13) hx hb dX6_answer_7 (by decide) (fun c7 => ?_) (fun c7 => absurd c7 (by decide))
    refine lv_aload_n hx hb dX6_answer_13 rfl (lv_at hl 0 rfl) ?_
    refine lv_iconst (v := 1) hx hb dX6_answer_14 (by decide) ?_
    refine lv_iconst (v := 3) hx hb dX6_answer_15 (by decide) ?_
    refine lv_bipush (v := 7) hx hb dX6_answer_16 (by decide) ?_
    have hV : rfV G ad ce T Q M := ⟨_, _, _, _, ⟨h100, h101, h102, h103, h104, h105, h106, h107, h108, h109, h110, h111⟩, hQ, hM⟩
    refine z_invV F (rest := []) (r_put1 l T Q M hV 3 7 (by decide) (by decide)) yv_X6_64 ⟨Nat.le_of_ble_eq_true rfl, Nat.le_of_ble_eq_true rfl⟩ hw hA hS hl h100 rfl rfl rfl (Nat.le_of_ble_eq_true rfl) dX6_answer_18 ⟨Nat.le_of_ble_eq_true rfl, Nat.le_of_ble_eq_true rfl⟩ (fun r ad1 ce2 H locs hp hw hS => ?_)
    obtain ⟨rfl, rfl, hV, hF2⟩ := hp
    have hF : ∀ j, j < 100 → ce2 j = ce j := fun j hj => (hF2 j hj).trans (hF j hj)
    obtain ⟨cn, zs, bs, hh, ⟨h100, h101, h102, h103, h104, h105, h106, h107, h108, h109, h110, h111⟩, hQ, hM⟩ := hV
    refine W.eq (g2 := F0 m 21 ls [.int (rf_hd T Q 1)]) rfl ?_
    refine lv_istore_n (lv' := [(1, .int (rf_hd T Q 1)), (0, .ref (ad 100))]) hx hb dX6_answer_21 rfl hl (by decide) rfl (fun ls hl => ?_)
    refine lv_aload_n hx hb dX6_answer_22 rfl (lv_at hl 1 rfl) ?_
    refine lv_iconst (v := 1) hx hb dX6_answer_23 (by decide) ?_
    refine lv_aload_n hx hb dX6_answer_24 rfl (lv_at hl 1 rfl) ?_
    refine z_get F hw h100 fd_X6_23_X6 rfl dX6_answer_25 ?_
    refine lv_iconst (v := 1) hx hb dX6_answer_28 (by decide) ?_
    refine z_ld F hw h104 (1) (rfl) (by decide) (by decide) dX6_answer_29 ?_
    refine lv_iconst (v := 3) hx hb dX6_answer_30 (by decide) ?_
    refine lv_bipush (v := 10) hx hb dX6_answer_31 (by decide) ?_
    have hV : rfV G ad ce2 T (rf_put T Q 1 [3, 7]) M := ⟨_, _, _, _, ⟨h100, h101, h102, h103, h104, h105, h106, h107, h108, h109, h110, h111⟩, hQ, hM⟩
    refine z_invV F (rest := []) (r_become1 l T (rf_put T Q 1 [3, 7]) M hV ((T 1) 1) 3 10) yv_X6_83 ⟨Nat.le_of_ble_eq_true rfl, Nat.le_of_ble_eq_true rfl⟩ hw hA hS hl h100 rfl rfl rfl (Nat.le_of_ble_eq_true rfl) dX6_answer_33 ⟨Nat.le_of_ble_eq_true rfl, Nat.le_of_ble_eq_true rfl⟩ (fun r ad1 ce3 H locs hp hw hS => ?_)
    obtain ⟨rfl, rfl, hV, hF2⟩ := hp
    have hF : ∀ j, j < 100 → ce3 j = ce j := fun j hj => (hF2 j hj).trans (hF j hj)
    obtain ⟨cn, zs, bs, hh, ⟨h100, h101, h102, h103, h104, h105, h106, h107, h108, h109, h110, h111⟩, hQ, hM⟩ := hV
    refine W.eq (g2 := F0 m 36 ls []) rfl ?_
    refine lv_iconst (v := 1) hx hb dX6_answer_36 (by decide) ?_
    exact z_iret F (rfl) hw hS (by unfold sp_answer; rw [if_pos hc]; exact ⟨rfl, rfl, ⟨_, _, _, _, ⟨h100, h101, h102, h103, h104, h105, h106, h107, h108, h109, h110, h111⟩, hQ, hM⟩, hF⟩) dX6_answer_37
  · refine W.eq (g2 := F0 m 7 ls [.int 0]) rfl ?_
    refine lv_if_ne (tgt := 13) hx hb dX6_answer_7 (by decide) (fun c7 => absurd c7 (by decide)) (fun c7 => ?_)
    refine lv_bipush (v := -2) hx hb dX6_answer_10 (by decide) ?_
    exact z_iret F (rfl) hw hS (by unfold sp_answer; rw [if_neg hc]; exact ⟨rfl, rfl, ⟨_, _, _, _, ⟨h100, h101, h102, h103, h104, h105, h106, h107, h108, h109, h110, h111⟩, hQ, hM⟩, hF⟩) dX6_answer_12
def sp_clear (T : rf_T) (Q : rf_Q) (M : List Nat) (v : Int32) : rf_R := (if (v : Int32) < 0 then ((-1), T, Q) else (if (v : Int32) ≤ 255 then (if rf_inC T 1 1 4 then (1, (rf_become T 1 (T 1 1) 5 30), rf_put T Q 1 ([3, 37, 8, 1] ++ rf_bytes 1 v)) else ((-2), T, Q)) else ((-1), T, Q)))
set_option maxHeartbeats 4000000 in
set_option maxRecDepth 100000 in
theorem r_clear (l : Launch) {G : zz_G} {ad : Nat → Nat} {ce : zz_C} {sz : Nat} (T : rf_T) (Q : rf_Q) (M : List Nat) (hV : rfV G ad ce T Q M) (v : Int32) : zz_M l yX6_clear cX6_clear 2 (some .int) 3 74 0 0 G [.ref (ad 100), .int v] ad ce sz (fun r ad1 ce1 => r = some (.int (sp_clear T Q M v).1) ∧ ad = ad1 ∧ rfV G ad ce1 (sp_clear T Q M v).2.1 (sp_clear T Q M v).2.2 M ∧ (∀ j, j < 100 → ce1 j = ce j)) := by
  refine zz_enter (by decide) (Nat.le_of_ble_eq_true rfl) ?_
  intro p e s m below meth c ls F hl hw hS hA
  obtain ⟨hx, hb, hr, hml, hown, hts, hlocks, hK, hnm⟩ := id F
  have hl : lv_has ls 2 [(0, .ref (ad 100)), (1, .int v)] := hl
  obtain ⟨cn, zs, bs, hh, ⟨h100, h101, h102, h103, h104, h105, h106, h107, h108, h109, h110, h111⟩, hQ, hM⟩ := hV
  have hF : ∀ j, j < 100 → ce j = ce j := fun _ _ => rfl
  refine lv_iload_n hx hb dX6_clear_0 rfl (lv_at hl 1 rfl) ?_
  refine lv_if_lt (tgt := 11) hx hb dX6_clear_1 (by decide) (fun c1 => ?_) (fun c1 => ?_)
  · refine lv_iconst (v := -1) hx hb dX6_clear_11 (by decide) ?_
    exact z_iret F (rfl) hw hS (by unfold sp_clear; rw [if_pos c1]; exact ⟨rfl, rfl, ⟨_, _, _, _, ⟨h100, h101, h102, h103, h104, h105, h106, h107, h108, h109, h110, h111⟩, hQ, hM⟩, hF⟩) dX6_clear_12
  · refine lv_iload_n hx hb dX6_clear_4 rfl (lv_at hl 1 rfl) ?_
    refine lv_sipush (v := 255) hx hb dX6_clear_5 (by decide) ?_
    refine lv_icmp_le (tgt := 13) hx hb dX6_clear_8 (by decide) (fun c8 => ?_) (fun c8 => ?_)
    · refine lv_aload_n hx hb dX6_clear_13 rfl (lv_at hl 0 rfl) ?_
      refine lv_iconst (v := 1) hx hb dX6_clear_14 (by decide) ?_
      refine lv_iconst (v := 1) hx hb dX6_clear_15 (by decide) ?_
      refine lv_iconst (v := 4) hx hb dX6_clear_16 (by decide) ?_
      have hV : rfV G ad ce T Q M := ⟨_, _, _, _, ⟨h100, h101, h102, h103, h104, h105, h106, h107, h108, h109, h110, h111⟩, hQ, hM⟩
      refine z_invV F (rest := []) (r_isCall1 l T Q M hV 1 4) yv_X6_91 ⟨Nat.le_of_ble_eq_true rfl, Nat.le_of_ble_eq_true rfl⟩ hw hA hS hl h100 rfl rfl rfl (Nat.le_of_ble_eq_true rfl) dX6_clear_17 ⟨Nat.le_of_ble_eq_true rfl, Nat.le_of_ble_eq_true rfl⟩ (fun r ad1 ce1 H locs hp hw hS => ?_)
      obtain ⟨hp, rfl, rfl⟩ := hp
      rcases hp with ⟨hc, rfl⟩ | ⟨hc, rfl⟩
      · refine W.eq (g2 := F0 m 20 ls [.int 1]) rfl ?_
        refine lv_if_ne (tgt := 26) hx hb dX6_clear_20 (by decide) (fun c20 => ?_) (fun c20 => absurd c20 (by decide))
        refine lv_aload_n hx hb dX6_clear_26 rfl (lv_at hl 0 rfl) ?_
        refine lv_iconst (v := 1) hx hb dX6_clear_27 (by decide) ?_
        refine lv_iload_n hx hb dX6_clear_28 rfl (lv_at hl 1 rfl) ?_
        have hV : rfV G ad ce T Q M := ⟨_, _, _, _, ⟨h100, h101, h102, h103, h104, h105, h106, h107, h108, h109, h110, h111⟩, hQ, hM⟩
        refine z_invV F (rest := []) (r_end1 l T Q M hV v) yv_X6_142 ⟨Nat.le_of_ble_eq_true rfl, Nat.le_of_ble_eq_true rfl⟩ hw hA hS hl h100 rfl rfl rfl (Nat.le_of_ble_eq_true rfl) dX6_clear_29 ⟨Nat.le_of_ble_eq_true rfl, Nat.le_of_ble_eq_true rfl⟩ (fun r ad1 ce2 H locs hp hw hS => ?_)
        obtain ⟨rfl, rfl, hV, hF2⟩ := hp
        have hF : ∀ j, j < 100 → ce2 j = ce j := fun j hj => (hF2 j hj).trans (hF j hj)
        obtain ⟨cn, zs, bs, hh, ⟨h100, h101, h102, h103, h104, h105, h106, h107, h108, h109, h110, h111⟩, hQ, hM⟩ := hV
        refine W.eq (g2 := F0 m 32 ls []) rfl ?_
        refine lv_iconst (v := 1) hx hb dX6_clear_32 (by decide) ?_
        exact z_iret F (rfl) hw hS (by unfold sp_clear; rw [if_neg c1, if_pos c8, if_pos hc]; exact ⟨rfl, rfl, ⟨_, _, _, _, ⟨h100, h101, h102, h103, h104, h105, h106, h107, h108, h109, h110, h111⟩, hQ, hM⟩, hF⟩) dX6_clear_33
      · refine W.eq (g2 := F0 m 20 ls [.int 0]) rfl ?_
        refine lv_if_ne (tgt := 26) hx hb dX6_clear_20 (by decide) (fun c20 => absurd c20 (by decide)) (fun c20 => ?_)
        refine lv_bipush (v := -2) hx hb dX6_clear_23 (by decide) ?_
        exact z_iret F (rfl) hw hS (by unfold sp_clear; rw [if_neg c1, if_pos c8, if_neg hc]; exact ⟨rfl, rfl, ⟨_, _, _, _, ⟨h100, h101, h102, h103, h104, h105, h106, h107, h108, h109, h110, h111⟩, hQ, hM⟩, hF⟩) dX6_clear_25
    · refine lv_iconst (v := -1) hx hb dX6_clear_11 (by decide) ?_
      exact z_iret F (rfl) hw hS (by unfold sp_clear; rw [if_neg c1, if_neg c8]; exact ⟨rfl, rfl, ⟨_, _, _, _, ⟨h100, h101, h102, h103, h104, h105, h106, h107, h108, h109, h110, h111⟩, hQ, hM⟩, hF⟩) dX6_clear_12
def sp_accept (T : rf_T) (Q : rf_Q) (M : List Nat) (v : Int32) : rf_R := (1, va_up T 0 (va_up (T 0) 3 v), Q)
set_option maxHeartbeats 4000000 in
set_option maxRecDepth 100000 in
theorem r_accept (l : Launch) {G : zz_G} {ad : Nat → Nat} {ce : zz_C} {sz : Nat} (T : rf_T) (Q : rf_Q) (M : List Nat) (hV : rfV G ad ce T Q M) (v : Int32) : zz_M l yX6_accept cX6_accept 2 (some .int) 0 0 0 0 G [.ref (ad 100), .int v] ad ce sz (fun r ad1 ce1 => r = some (.int (sp_accept T Q M v).1) ∧ ad = ad1 ∧ rfV G ad ce1 (sp_accept T Q M v).2.1 (sp_accept T Q M v).2.2 M ∧ (∀ j, j < 100 → ce1 j = ce j)) := by
  refine zz_enter (by decide) (Nat.le_of_ble_eq_true rfl) ?_
  intro p e s m below meth c ls F hl hw hS hA
  obtain ⟨hx, hb, hr, hml, hown, hts, hlocks, hK, hnm⟩ := id F
  have hl : lv_has ls 2 [(0, .ref (ad 100)), (1, .int v)] := hl
  obtain ⟨cn, zs, bs, hh, ⟨h100, h101, h102, h103, h104, h105, h106, h107, h108, h109, h110, h111⟩, hQ, hM⟩ := hV
  have hF : ∀ j, j < 100 → ce j = ce j := fun _ _ => rfl
  refine lv_aload_n hx hb dX6_accept_0 rfl (lv_at hl 0 rfl) ?_
  refine lv_iload_n hx hb dX6_accept_1 rfl (lv_at hl 1 rfl) ?_
  refine z_put F hw hS (fs' := [.int (T 0 0), .int (T 0 1), .int (T 0 2), .int v, .int (T 0 4), .ref (ad 101), .ref (ad 102), .ref (ad 103), .int (T 0 5), .ref (ad 104), .ref (ad 105), .ref (ad 106), .ref (ad 107), .ref (ad 108), .int (T 0 6), .int (T 0 7), .int (T 0 8), .ref (ad 109), .int (T 0 9), .ref (ad 110), .int (T 0 10), .int (nI M.length), .ref (ad 111)]) h100 fd_X6_7_X6 ptX6 rfl (rfl) (rfl) (Nat.le_of_ble_eq_true rfl) rfl dX6_accept_2 (fun ce1 H locs h100 fr2 hw hS => ?_)
  have h101 := (fr2 101 (by decide)).trans h101
  have h102 := (fr2 102 (by decide)).trans h102
  have h103 := (fr2 103 (by decide)).trans h103
  have h104 := (fr2 104 (by decide)).trans h104
  have h105 := (fr2 105 (by decide)).trans h105
  have h106 := (fr2 106 (by decide)).trans h106
  have h107 := (fr2 107 (by decide)).trans h107
  have h108 := (fr2 108 (by decide)).trans h108
  have h109 := (fr2 109 (by decide)).trans h109
  have h110 := (fr2 110 (by decide)).trans h110
  have h111 := (fr2 111 (by decide)).trans h111
  have hF : ∀ j, j < 100 → _ = ce j := fun j hj => (fr2 j (by omega)).trans (hF j hj)
  refine lv_iconst (v := 1) hx hb dX6_accept_5 (by decide) ?_
  exact z_iret F (rfl) hw hS (by unfold sp_accept; exact ⟨rfl, rfl, ⟨_, _, _, _, ⟨h100, h101, h102, h103, h104, h105, h106, h107, h108, h109, h110, h111⟩, hQ, hM⟩, hF⟩) dX6_accept_6
end
section
theorem rfQ_nil (cn zs bs : Nat → Int32) : rfQ (upd (upd cn 0 0) 1 0) zs bs (fun _ => []) := by
  intro w hw
  refine ⟨by simp, ?_, fun k hk => by simp at hk⟩
  rcases (show w = 0 ∨ w = 1 by omega) with rfl | rfl
  · rw [rf_up_n _ _ (by decide), rf_up_s]; rfl
  · rw [rf_up_s]; rfl
def sp_radio0 (T : rf_T) (Q : rf_Q) (M : List Nat) : rf_R := (if ((T 0 4) : Int32) = 0 then (if (((T 1) 0) : Int32) = 2 then (1, (rf_become (rf_become (va_up T 0 (va_up (T 0) 4 1)) 0 1 0 0) 1 0 0 0), (fun _ => [])) else (if (((T 1) 0) : Int32) = 4 then (1, (rf_become (rf_become (va_up T 0 (va_up (T 0) 4 1)) 0 3 0 0) 1 0 0 0), (fun _ => [])) else (if (((T 1) 0) : Int32) = 5 then (1, (rf_become (rf_become (va_up T 0 (va_up (T 0) 4 1)) 0 3 0 0) 1 0 0 0), (fun _ => [])) else (1, (rf_become (rf_become (va_up T 0 (va_up (T 0) 4 1)) 0 ((T 1) 0) 0 0) 1 0 0 0), (fun _ => []))))) else ((-2), T, Q))
set_option maxHeartbeats 4000000 in
set_option maxRecDepth 100000 in
theorem r_radio0 (l : Launch) {G : zz_G} {ad : Nat → Nat} {ce : zz_C} {sz : Nat} (T : rf_T) (Q : rf_Q) (M : List Nat) (hV : rfV G ad ce T Q M) : zz_M l yX6_radio cX6_radio 3 (some .int) 1 24 0 0 G [.ref (ad 100), .int 0] ad ce sz (fun r ad1 ce1 => r = some (.int (sp_radio0 T Q M).1) ∧ ad = ad1 ∧ rfV G ad ce1 (sp_radio0 T Q M).2.1 (sp_radio0 T Q M).2.2 M ∧ (∀ j, j < 100 → ce1 j = ce j)) := by
  refine zz_enter (by decide) (Nat.le_of_ble_eq_true rfl) ?_
  intro p e s m below meth c ls F hl hw hS hA
  obtain ⟨hx, hb, hr, hml, hown, hts, hlocks, hK, hnm⟩ := id F
  have hl : lv_has ls 3 [(0, .ref (ad 100)), (1, .int 0)] := hl
  obtain ⟨cn, zs, bs, hh, ⟨h100, h101, h102, h103, h104, h105, h106, h107, h108, h109, h110, h111⟩, hQ, hM⟩ := hV
  have hF : ∀ j, j < 100 → ce j = ce j := fun _ _ => rfl
  refine lv_iload_n hx hb dX6_radio_0 rfl (lv_at hl 1 rfl) ?_
  refine lv_aload_n hx hb dX6_radio_1 rfl (lv_at hl 0 rfl) ?_
  refine z_get F hw h100 fd_X6_60_X6 rfl dX6_radio_2 ?_
  refine lv_if_ne (tgt := 12) hx hb dX6_radio_5 (by decide) (fun c5 => ?_) (fun c5 => ?_)
  · refine lv_iconst (v := 0) hx hb dX6_radio_12 (by decide) ?_
    refine lv_icmp_ne (tgt := 19) hx hb dX6_radio_13 (by decide) (fun c13 => absurd c13 (by decide)) (fun c13 => ?_)
    refine lv_bipush (v := -2) hx hb dX6_radio_16 (by decide) ?_
    exact z_iret F (rfl) hw hS (by unfold sp_radio0; rw [if_neg c5]; exact ⟨rfl, rfl, ⟨_, _, _, _, ⟨h100, h101, h102, h103, h104, h105, h106, h107, h108, h109, h110, h111⟩, hQ, hM⟩, hF⟩) dX6_radio_18
  · refine lv_iconst (v := 1) hx hb dX6_radio_8 (by decide) ?_
    refine lv_goto (tgt := 13) hx hb dX6_radio_9 (by decide) ?_
    refine lv_icmp_ne (tgt := 19) hx hb dX6_radio_13 (by decide) (fun c13 => ?_) (fun c13 => absurd c13 (by decide))
    refine lv_aload_n hx hb dX6_radio_19 rfl (lv_at hl 0 rfl) ?_
    refine lv_iload_n hx hb dX6_radio_20 rfl (lv_at hl 1 rfl) ?_
    refine lv_if_ne (tgt := 28) hx hb dX6_radio_21 (by decide) (fun c21 => absurd c21 (by decide)) (fun c21 => ?_)
    refine lv_iconst (v := 1) hx hb dX6_radio_24 (by decide) ?_
    refine lv_goto (tgt := 29) hx hb dX6_radio_25 (by decide) ?_
    refine z_put F hw hS (fs' := [.int (T 0 0), .int (T 0 1), .int (T 0 2), .int (T 0 3), .int 1, .ref (ad 101), .ref (ad 102), .ref (ad 103), .int (T 0 5), .ref (ad 104), .ref (ad 105), .ref (ad 106), .ref (ad 107), .ref (ad 108), .int (T 0 6), .int (T 0 7), .int (T 0 8), .ref (ad 109), .int (T 0 9), .ref (ad 110), .int (T 0 10), .int (nI M.length), .ref (ad 111)]) h100 fd_X6_60_X6 ptX6 rfl (rfl) (rfl) (Nat.le_of_ble_eq_true rfl) rfl dX6_radio_29 (fun ce1 H locs h100 fr2 hw hS => ?_)
    have h101 := (fr2 101 (by decide)).trans h101
    have h102 := (fr2 102 (by decide)).trans h102
    have h103 := (fr2 103 (by decide)).trans h103
    have h104 := (fr2 104 (by decide)).trans h104
    have h105 := (fr2 105 (by decide)).trans h105
    have h106 := (fr2 106 (by decide)).trans h106
    have h107 := (fr2 107 (by decide)).trans h107
    have h108 := (fr2 108 (by decide)).trans h108
    have h109 := (fr2 109 (by decide)).trans h109
    have h110 := (fr2 110 (by decide)).trans h110
    have h111 := (fr2 111 (by decide)).trans h111
    have hF : ∀ j, j < 100 → _ = ce j := fun j hj => (fr2 j (by omega)).trans (hF j hj)
    refine lv_iload_n hx hb dX6_radio_32 rfl (lv_at hl 1 rfl) ?_
    refine lv_if_ne (tgt := 96) hx hb dX6_radio_33 (by decide) (fun c33 => absurd c33 (by decide)) (fun c33 => ?_)
    refine lv_aload_n hx hb dX6_radio_36 rfl (lv_at hl 0 rfl) ?_
    refine z_get F hw h100 fd_X6_13_X6 rfl dX6_radio_37 ?_
    refine lv_iconst (v := 0) hx hb dX6_radio_40 (by decide) ?_
    refine lv_iconst (v := 0) hx hb dX6_radio_41 (by decide) ?_
    refine z_st F hw hS h101 (0) (rfl) (by decide) (by decide) dX6_radio_42 (fun ce3 H locs h101 fr4 hw hS => ?_)
    have h100 := (fr4 100 (by decide)).trans h100
    have h102 := (fr4 102 (by decide)).trans h102
    have h103 := (fr4 103 (by decide)).trans h103
    have h104 := (fr4 104 (by decide)).trans h104
    have h105 := (fr4 105 (by decide)).trans h105
    have h106 := (fr4 106 (by decide)).trans h106
    have h107 := (fr4 107 (by decide)).trans h107
    have h108 := (fr4 108 (by decide)).trans h108
    have h109 := (fr4 109 (by decide)).trans h109
    have h110 := (fr4 110 (by decide)).trans h110
    have h111 := (fr4 111 (by decide)).trans h111
    have hF : ∀ j, j < 100 → _ = ce j := fun j hj => (fr4 j (by omega)).trans (hF j hj)
    refine lv_aload_n hx hb dX6_radio_43 rfl (lv_at hl 0 rfl) ?_
    refine z_get F hw h100 fd_X6_13_X6 rfl dX6_radio_44 ?_
    refine lv_iconst (v := 1) hx hb dX6_radio_47 (by decide) ?_
    refine lv_iconst (v := 0) hx hb dX6_radio_48 (by decide) ?_
    refine z_st F hw hS h101 (1) (rfl) (by decide) (by decide) dX6_radio_49 (fun ce5 H locs h101 fr6 hw hS => ?_)
    have h100 := (fr6 100 (by decide)).trans h100
    have h102 := (fr6 102 (by decide)).trans h102
    have h103 := (fr6 103 (by decide)).trans h103
    have h104 := (fr6 104 (by decide)).trans h104
    have h105 := (fr6 105 (by decide)).trans h105
    have h106 := (fr6 106 (by decide)).trans h106
    have h107 := (fr6 107 (by decide)).trans h107
    have h108 := (fr6 108 (by decide)).trans h108
    have h109 := (fr6 109 (by decide)).trans h109
    have h110 := (fr6 110 (by decide)).trans h110
    have h111 := (fr6 111 (by decide)).trans h111
    have hF : ∀ j, j < 100 → _ = ce j := fun j hj => (fr6 j (by omega)).trans (hF j hj)
    have hQ : rfQ (upd (upd cn 0 0) 1 0) zs bs (fun _ => []) := rfQ_nil _ _ _
    refine lv_aload_n hx hb dX6_radio_50 rfl (lv_at hl 0 rfl) ?_
    refine z_get F hw h100 fd_X6_23_X6 rfl dX6_radio_51 ?_
    refine lv_iconst (v := 0) hx hb dX6_radio_54 (by decide) ?_
    refine z_ld F hw h104 (0) (rfl) (by decide) (by decide) dX6_radio_55 ?_
    refine lv_istore_n (lv' := [(2, .int ((T 1) 0)), (0, .ref (ad 100)), (1, .int 0)]) hx hb dX6_radio_56 rfl hl (by decide) rfl (fun ls hl => ?_)
    refine lv_aload_n hx hb dX6_radio_57 rfl (lv_at hl 1 rfl) ?_
    refine lv_iconst (v := 0) hx hb dX6_radio_58 (by decide) ?_
    refine lv_iload_n hx hb dX6_radio_59 rfl (lv_at hl 0 rfl) ?_
    refine lv_iconst (v := 2) hx hb dX6_radio_60 (by decide) ?_
    refine lv_icmp_ne (tgt := 68) hx hb dX6_radio_61 (by decide) (fun c61 => ?_) (fun c61 => ?_)
    · refine lv_iload_n hx hb dX6_radio_68 rfl (lv_at hl 0 rfl) ?_
      refine lv_iconst (v := 4) hx hb dX6_radio_69 (by decide) ?_
      refine lv_icmp_eq (tgt := 78) hx hb dX6_radio_70 (by decide) (fun c70 => ?_) (fun c70 => ?_)
      · refine lv_iconst (v := 3) hx hb dX6_radio_78 (by decide) ?_
        refine lv_goto (tgt := 83) hx hb dX6_radio_79 (by decide) ?_
        refine lv_iconst (v := 0) hx hb dX6_radio_83 (by decide) ?_
        refine lv_iconst (v := 0) hx hb dX6_radio_84 (by decide) ?_
        have hV : rfV G ad ce5 (va_up T 0 (va_up (T 0) 4 1)) (fun _ => []) M := ⟨_, _, _, _, ⟨h100, h101, h102, h103, h104, h105, h106, h107, h108, h109, h110, h111⟩, hQ, hM⟩
        refine z_invV F (rest := []) (r_become0 l (va_up T 0 (va_up (T 0) 4 1)) (fun _ => []) M hV 3 0 0) yv_X6_83 ⟨Nat.le_of_ble_eq_true rfl, Nat.le_of_ble_eq_true rfl⟩ hw hA hS hl h100 rfl rfl rfl (Nat.le_of_ble_eq_true rfl) dX6_radio_85 ⟨Nat.le_of_ble_eq_true rfl, Nat.le_of_ble_eq_true rfl⟩ (fun r ad1 ce7 H locs hp hw hS => ?_)
        obtain ⟨rfl, rfl, hV, hF2⟩ := hp
        have hF : ∀ j, j < 100 → ce7 j = ce j := fun j hj => (hF2 j hj).trans (hF j hj)
        obtain ⟨cn, zs, bs, hh, ⟨h100, h101, h102, h103, h104, h105, h106, h107, h108, h109, h110, h111⟩, hQ, hM⟩ := hV
        refine W.eq (g2 := F0 m 88 ls []) rfl ?_
        refine lv_aload_n hx hb dX6_radio_88 rfl (lv_at hl 1 rfl) ?_
        refine lv_iconst (v := 1) hx hb dX6_radio_89 (by decide) ?_
        refine lv_iconst (v := 0) hx hb dX6_radio_90 (by decide) ?_
        refine lv_iconst (v := 0) hx hb dX6_radio_91 (by decide) ?_
        refine lv_iconst (v := 0) hx hb dX6_radio_92 (by decide) ?_
        have hV : rfV G ad ce7 (rf_become (va_up T 0 (va_up (T 0) 4 1)) 0 3 0 0) (fun _ => []) M := ⟨_, _, _, _, ⟨h100, h101, h102, h103, h104, h105, h106, h107, h108, h109, h110, h111⟩, hQ, hM⟩
        refine z_invV F (rest := []) (r_become1 l (rf_become (va_up T 0 (va_up (T 0) 4 1)) 0 3 0 0) (fun _ => []) M hV 0 0 0) yv_X6_83 ⟨Nat.le_of_ble_eq_true rfl, Nat.le_of_ble_eq_true rfl⟩ hw hA hS hl h100 rfl rfl rfl (Nat.le_of_ble_eq_true rfl) dX6_radio_93 ⟨Nat.le_of_ble_eq_true rfl, Nat.le_of_ble_eq_true rfl⟩ (fun r ad1 ce8 H locs hp hw hS => ?_)
        obtain ⟨rfl, rfl, hV, hF2⟩ := hp
        have hF : ∀ j, j < 100 → ce8 j = ce j := fun j hj => (hF2 j hj).trans (hF j hj)
        obtain ⟨cn, zs, bs, hh, ⟨h100, h101, h102, h103, h104, h105, h106, h107, h108, h109, h110, h111⟩, hQ, hM⟩ := hV
        refine W.eq (g2 := F0 m 96 ls []) rfl ?_
        refine lv_iconst (v := 1) hx hb dX6_radio_96 (by decide) ?_
        exact z_iret F (rfl) hw hS (by unfold sp_radio0; rw [if_pos c5, if_neg c61, if_pos c70]; exact ⟨rfl, rfl, ⟨_, _, _, _, ⟨h100, h101, h102, h103, h104, h105, h106, h107, h108, h109, h110, h111⟩, hQ, hM⟩, hF⟩) dX6_radio_97
      · refine lv_iload_n hx hb dX6_radio_73 rfl (lv_at hl 0 rfl) ?_
        refine lv_iconst (v := 5) hx hb dX6_radio_74 (by decide) ?_
        refine lv_icmp_ne (tgt := 82) hx hb dX6_radio_75 (by decide) (fun c75 => ?_) (fun c75 => ?_)
        · refine lv_iload_n hx hb dX6_radio_82 rfl (lv_at hl 0 rfl) ?_
          refine lv_iconst (v := 0) hx hb dX6_radio_83 (by decide) ?_
          refine lv_iconst (v := 0) hx hb dX6_radio_84 (by decide) ?_
          have hV : rfV G ad ce5 (va_up T 0 (va_up (T 0) 4 1)) (fun _ => []) M := ⟨_, _, _, _, ⟨h100, h101, h102, h103, h104, h105, h106, h107, h108, h109, h110, h111⟩, hQ, hM⟩
          refine z_invV F (rest := []) (r_become0 l (va_up T 0 (va_up (T 0) 4 1)) (fun _ => []) M hV ((T 1) 0) 0 0) yv_X6_83 ⟨Nat.le_of_ble_eq_true rfl, Nat.le_of_ble_eq_true rfl⟩ hw hA hS hl h100 rfl rfl rfl (Nat.le_of_ble_eq_true rfl) dX6_radio_85 ⟨Nat.le_of_ble_eq_true rfl, Nat.le_of_ble_eq_true rfl⟩ (fun r ad1 ce9 H locs hp hw hS => ?_)
          obtain ⟨rfl, rfl, hV, hF2⟩ := hp
          have hF : ∀ j, j < 100 → ce9 j = ce j := fun j hj => (hF2 j hj).trans (hF j hj)
          obtain ⟨cn, zs, bs, hh, ⟨h100, h101, h102, h103, h104, h105, h106, h107, h108, h109, h110, h111⟩, hQ, hM⟩ := hV
          refine W.eq (g2 := F0 m 88 ls []) rfl ?_
          refine lv_aload_n hx hb dX6_radio_88 rfl (lv_at hl 1 rfl) ?_
          refine lv_iconst (v := 1) hx hb dX6_radio_89 (by decide) ?_
          refine lv_iconst (v := 0) hx hb dX6_radio_90 (by decide) ?_
          refine lv_iconst (v := 0) hx hb dX6_radio_91 (by decide) ?_
          refine lv_iconst (v := 0) hx hb dX6_radio_92 (by decide) ?_
          have hV : rfV G ad ce9 (rf_become (va_up T 0 (va_up (T 0) 4 1)) 0 ((T 1) 0) 0 0) (fun _ => []) M := ⟨_, _, _, _, ⟨h100, h101, h102, h103, h104, h105, h106, h107, h108, h109, h110, h111⟩, hQ, hM⟩
          refine z_invV F (rest := []) (r_become1 l (rf_become (va_up T 0 (va_up (T 0) 4 1)) 0 ((T 1) 0) 0 0) (fun _ => []) M hV 0 0 0) yv_X6_83 ⟨Nat.le_of_ble_eq_true rfl, Nat.le_of_ble_eq_true rfl⟩ hw hA hS hl h100 rfl rfl rfl (Nat.le_of_ble_eq_true rfl) dX6_radio_93 ⟨Nat.le_of_ble_eq_true rfl, Nat.le_of_ble_eq_true rfl⟩ (fun r ad1 ce10 H locs hp hw hS => ?_)
          obtain ⟨rfl, rfl, hV, hF2⟩ := hp
          have hF : ∀ j, j < 100 → ce10 j = ce j := fun j hj => (hF2 j hj).trans (hF j hj)
          obtain ⟨cn, zs, bs, hh, ⟨h100, h101, h102, h103, h104, h105, h106, h107, h108, h109, h110, h111⟩, hQ, hM⟩ := hV
          refine W.eq (g2 := F0 m 96 ls []) rfl ?_
          refine lv_iconst (v := 1) hx hb dX6_radio_96 (by decide) ?_
          exact z_iret F (rfl) hw hS (by unfold sp_radio0; rw [if_pos c5, if_neg c61, if_neg c70, if_neg c75]; exact ⟨rfl, rfl, ⟨_, _, _, _, ⟨h100, h101, h102, h103, h104, h105, h106, h107, h108, h109, h110, h111⟩, hQ, hM⟩, hF⟩) dX6_radio_97
        · refine lv_iconst (v := 3) hx hb dX6_radio_78 (by decide) ?_
          refine lv_goto (tgt := 83) hx hb dX6_radio_79 (by decide) ?_
          refine lv_iconst (v := 0) hx hb dX6_radio_83 (by decide) ?_
          refine lv_iconst (v := 0) hx hb dX6_radio_84 (by decide) ?_
          have hV : rfV G ad ce5 (va_up T 0 (va_up (T 0) 4 1)) (fun _ => []) M := ⟨_, _, _, _, ⟨h100, h101, h102, h103, h104, h105, h106, h107, h108, h109, h110, h111⟩, hQ, hM⟩
          refine z_invV F (rest := []) (r_become0 l (va_up T 0 (va_up (T 0) 4 1)) (fun _ => []) M hV 3 0 0) yv_X6_83 ⟨Nat.le_of_ble_eq_true rfl, Nat.le_of_ble_eq_true rfl⟩ hw hA hS hl h100 rfl rfl rfl (Nat.le_of_ble_eq_true rfl) dX6_radio_85 ⟨Nat.le_of_ble_eq_true rfl, Nat.le_of_ble_eq_true rfl⟩ (fun r ad1 ce11 H locs hp hw hS => ?_)
          obtain ⟨rfl, rfl, hV, hF2⟩ := hp
          have hF : ∀ j, j < 100 → ce11 j = ce j := fun j hj => (hF2 j hj).trans (hF j hj)
          obtain ⟨cn, zs, bs, hh, ⟨h100, h101, h102, h103, h104, h105, h106, h107, h108, h109, h110, h111⟩, hQ, hM⟩ := hV
          refine W.eq (g2 := F0 m 88 ls []) rfl ?_
          refine lv_aload_n hx hb dX6_radio_88 rfl (lv_at hl 1 rfl) ?_
          refine lv_iconst (v := 1) hx hb dX6_radio_89 (by decide) ?_
          refine lv_iconst (v := 0) hx hb dX6_radio_90 (by decide) ?_
          refine lv_iconst (v := 0) hx hb dX6_radio_91 (by decide) ?_
          refine lv_iconst (v := 0) hx hb dX6_radio_92 (by decide) ?_
          have hV : rfV G ad ce11 (rf_become (va_up T 0 (va_up (T 0) 4 1)) 0 3 0 0) (fun _ => []) M := ⟨_, _, _, _, ⟨h100, h101, h102, h103, h104, h105, h106, h107, h108, h109, h110, h111⟩, hQ, hM⟩
          refine z_invV F (rest := []) (r_become1 l (rf_become (va_up T 0 (va_up (T 0) 4 1)) 0 3 0 0) (fun _ => []) M hV 0 0 0) yv_X6_83 ⟨Nat.le_of_ble_eq_true rfl, Nat.le_of_ble_eq_true rfl⟩ hw hA hS hl h100 rfl rfl rfl (Nat.le_of_ble_eq_true rfl) dX6_radio_93 ⟨Nat.le_of_ble_eq_true rfl, Nat.le_of_ble_eq_true rfl⟩ (fun r ad1 ce12 H locs hp hw hS => ?_)
          obtain ⟨rfl, rfl, hV, hF2⟩ := hp
          have hF : ∀ j, j < 100 → ce12 j = ce j := fun j hj => (hF2 j hj).trans (hF j hj)
          obtain ⟨cn, zs, bs, hh, ⟨h100, h101, h102, h103, h104, h105, h106, h107, h108, h109, h110, h111⟩, hQ, hM⟩ := hV
          refine W.eq (g2 := F0 m 96 ls []) rfl ?_
          refine lv_iconst (v := 1) hx hb dX6_radio_96 (by decide) ?_
          exact z_iret F (rfl) hw hS (by unfold sp_radio0; rw [if_pos c5, if_neg c61, if_neg c70, if_pos c75]; exact ⟨rfl, rfl, ⟨_, _, _, _, ⟨h100, h101, h102, h103, h104, h105, h106, h107, h108, h109, h110, h111⟩, hQ, hM⟩, hF⟩) dX6_radio_97
    · refine lv_iconst (v := 1) hx hb dX6_radio_64 (by decide) ?_
      refine lv_goto (tgt := 83) hx hb dX6_radio_65 (by decide) ?_
      refine lv_iconst (v := 0) hx hb dX6_radio_83 (by decide) ?_
      refine lv_iconst (v := 0) hx hb dX6_radio_84 (by decide) ?_
      have hV : rfV G ad ce5 (va_up T 0 (va_up (T 0) 4 1)) (fun _ => []) M := ⟨_, _, _, _, ⟨h100, h101, h102, h103, h104, h105, h106, h107, h108, h109, h110, h111⟩, hQ, hM⟩
      refine z_invV F (rest := []) (r_become0 l (va_up T 0 (va_up (T 0) 4 1)) (fun _ => []) M hV 1 0 0) yv_X6_83 ⟨Nat.le_of_ble_eq_true rfl, Nat.le_of_ble_eq_true rfl⟩ hw hA hS hl h100 rfl rfl rfl (Nat.le_of_ble_eq_true rfl) dX6_radio_85 ⟨Nat.le_of_ble_eq_true rfl, Nat.le_of_ble_eq_true rfl⟩ (fun r ad1 ce13 H locs hp hw hS => ?_)
      obtain ⟨rfl, rfl, hV, hF2⟩ := hp
      have hF : ∀ j, j < 100 → ce13 j = ce j := fun j hj => (hF2 j hj).trans (hF j hj)
      obtain ⟨cn, zs, bs, hh, ⟨h100, h101, h102, h103, h104, h105, h106, h107, h108, h109, h110, h111⟩, hQ, hM⟩ := hV
      refine W.eq (g2 := F0 m 88 ls []) rfl ?_
      refine lv_aload_n hx hb dX6_radio_88 rfl (lv_at hl 1 rfl) ?_
      refine lv_iconst (v := 1) hx hb dX6_radio_89 (by decide) ?_
      refine lv_iconst (v := 0) hx hb dX6_radio_90 (by decide) ?_
      refine lv_iconst (v := 0) hx hb dX6_radio_91 (by decide) ?_
      refine lv_iconst (v := 0) hx hb dX6_radio_92 (by decide) ?_
      have hV : rfV G ad ce13 (rf_become (va_up T 0 (va_up (T 0) 4 1)) 0 1 0 0) (fun _ => []) M := ⟨_, _, _, _, ⟨h100, h101, h102, h103, h104, h105, h106, h107, h108, h109, h110, h111⟩, hQ, hM⟩
      refine z_invV F (rest := []) (r_become1 l (rf_become (va_up T 0 (va_up (T 0) 4 1)) 0 1 0 0) (fun _ => []) M hV 0 0 0) yv_X6_83 ⟨Nat.le_of_ble_eq_true rfl, Nat.le_of_ble_eq_true rfl⟩ hw hA hS hl h100 rfl rfl rfl (Nat.le_of_ble_eq_true rfl) dX6_radio_93 ⟨Nat.le_of_ble_eq_true rfl, Nat.le_of_ble_eq_true rfl⟩ (fun r ad1 ce14 H locs hp hw hS => ?_)
      obtain ⟨rfl, rfl, hV, hF2⟩ := hp
      have hF : ∀ j, j < 100 → ce14 j = ce j := fun j hj => (hF2 j hj).trans (hF j hj)
      obtain ⟨cn, zs, bs, hh, ⟨h100, h101, h102, h103, h104, h105, h106, h107, h108, h109, h110, h111⟩, hQ, hM⟩ := hV
      refine W.eq (g2 := F0 m 96 ls []) rfl ?_
      refine lv_iconst (v := 1) hx hb dX6_radio_96 (by decide) ?_
      exact z_iret F (rfl) hw hS (by unfold sp_radio0; rw [if_pos c5, if_pos c61]; exact ⟨rfl, rfl, ⟨_, _, _, _, ⟨h100, h101, h102, h103, h104, h105, h106, h107, h108, h109, h110, h111⟩, hQ, hM⟩, hF⟩) dX6_radio_97
def sp_radio1 (T : rf_T) (Q : rf_Q) (M : List Nat) : rf_R := (if ((T 0 4) : Int32) = 0 then ((-2), T, Q) else (1, va_up T 0 (va_up (T 0) 4 0), Q))
set_option maxHeartbeats 4000000 in
set_option maxRecDepth 100000 in
theorem r_radio1 (l : Launch) {G : zz_G} {ad : Nat → Nat} {ce : zz_C} {sz : Nat} (T : rf_T) (Q : rf_Q) (M : List Nat) (hV : rfV G ad ce T Q M) : zz_M l yX6_radio cX6_radio 3 (some .int) 1 24 0 0 G [.ref (ad 100), .int 1] ad ce sz (fun r ad1 ce1 => r = some (.int (sp_radio1 T Q M).1) ∧ ad = ad1 ∧ rfV G ad ce1 (sp_radio1 T Q M).2.1 (sp_radio1 T Q M).2.2 M ∧ (∀ j, j < 100 → ce1 j = ce j)) := by
  refine zz_enter (by decide) (Nat.le_of_ble_eq_true rfl) ?_
  intro p e s m below meth c ls F hl hw hS hA
  obtain ⟨hx, hb, hr, hml, hown, hts, hlocks, hK, hnm⟩ := id F
  have hl : lv_has ls 3 [(0, .ref (ad 100)), (1, .int 1)] := hl
  obtain ⟨cn, zs, bs, hh, ⟨h100, h101, h102, h103, h104, h105, h106, h107, h108, h109, h110, h111⟩, hQ, hM⟩ := hV
  have hF : ∀ j, j < 100 → ce j = ce j := fun _ _ => rfl
  refine lv_iload_n hx hb dX6_radio_0 rfl (lv_at hl 1 rfl) ?_
  refine lv_aload_n hx hb dX6_radio_1 rfl (lv_at hl 0 rfl) ?_
  refine z_get F hw h100 fd_X6_60_X6 rfl dX6_radio_2 ?_
  refine lv_if_ne (tgt := 12) hx hb dX6_radio_5 (by decide) (fun c5 => ?_) (fun c5 => ?_)
  · refine lv_iconst (v := 0) hx hb dX6_radio_12 (by decide) ?_
    refine lv_icmp_ne (tgt := 19) hx hb dX6_radio_13 (by decide) (fun c13 => ?_) (fun c13 => absurd c13 (by decide))
    refine lv_aload_n hx hb dX6_radio_19 rfl (lv_at hl 0 rfl) ?_
    refine lv_iload_n hx hb dX6_radio_20 rfl (lv_at hl 1 rfl) ?_
    refine lv_if_ne (tgt := 28) hx hb dX6_radio_21 (by decide) (fun c21 => ?_) (fun c21 => absurd c21 (by decide))
    refine lv_iconst (v := 0) hx hb dX6_radio_28 (by decide) ?_
    refine z_put F hw hS (fs' := [.int (T 0 0), .int (T 0 1), .int (T 0 2), .int (T 0 3), .int 0, .ref (ad 101), .ref (ad 102), .ref (ad 103), .int (T 0 5), .ref (ad 104), .ref (ad 105), .ref (ad 106), .ref (ad 107), .ref (ad 108), .int (T 0 6), .int (T 0 7), .int (T 0 8), .ref (ad 109), .int (T 0 9), .ref (ad 110), .int (T 0 10), .int (nI M.length), .ref (ad 111)]) h100 fd_X6_60_X6 ptX6 rfl (rfl) (rfl) (Nat.le_of_ble_eq_true rfl) rfl dX6_radio_29 (fun ce1 H locs h100 fr2 hw hS => ?_)
    have h101 := (fr2 101 (by decide)).trans h101
    have h102 := (fr2 102 (by decide)).trans h102
    have h103 := (fr2 103 (by decide)).trans h103
    have h104 := (fr2 104 (by decide)).trans h104
    have h105 := (fr2 105 (by decide)).trans h105
    have h106 := (fr2 106 (by decide)).trans h106
    have h107 := (fr2 107 (by decide)).trans h107
    have h108 := (fr2 108 (by decide)).trans h108
    have h109 := (fr2 109 (by decide)).trans h109
    have h110 := (fr2 110 (by decide)).trans h110
    have h111 := (fr2 111 (by decide)).trans h111
    have hF : ∀ j, j < 100 → _ = ce j := fun j hj => (fr2 j (by omega)).trans (hF j hj)
    refine lv_iload_n hx hb dX6_radio_32 rfl (lv_at hl 1 rfl) ?_
    refine lv_if_ne (tgt := 96) hx hb dX6_radio_33 (by decide) (fun c33 => ?_) (fun c33 => absurd c33 (by decide))
    refine lv_iconst (v := 1) hx hb dX6_radio_96 (by decide) ?_
    exact z_iret F (rfl) hw hS (by unfold sp_radio1; rw [if_neg c5]; exact ⟨rfl, rfl, ⟨_, _, _, _, ⟨h100, h101, h102, h103, h104, h105, h106, h107, h108, h109, h110, h111⟩, hQ, hM⟩, hF⟩) dX6_radio_97
  · refine lv_iconst (v := 1) hx hb dX6_radio_8 (by decide) ?_
    refine lv_goto (tgt := 13) hx hb dX6_radio_9 (by decide) ?_
    refine lv_icmp_ne (tgt := 19) hx hb dX6_radio_13 (by decide) (fun c13 => absurd c13 (by decide)) (fun c13 => ?_)
    refine lv_bipush (v := -2) hx hb dX6_radio_16 (by decide) ?_
    exact z_iret F (rfl) hw hS (by unfold sp_radio1; rw [if_pos c5]; exact ⟨rfl, rfl, ⟨_, _, _, _, ⟨h100, h101, h102, h103, h104, h105, h106, h107, h108, h109, h110, h111⟩, hQ, hM⟩, hF⟩) dX6_radio_18
end
section
/-! the first message is taken out of its row: what the shift of the others does -/
def rfS (zs bs zs2 bs2 : Nat → Int32) (w k : Nat) (x : List Nat) (r : List (List Nat)) : Prop :=
  (∀ j, j < k → rfm zs2 bs2 (8 * w + j) (r.getD j [])) ∧ (∀ j, k ≤ j → j < r.length → rfm zs2 bs2 (8 * w + (j + 1)) (r.getD j [])) ∧ (∀ j, j < 8 * w ∨ 8 * w + 8 ≤ j → zs2 j = zs j) ∧ ∀ j, j < 24 * (8 * w) ∨ 24 * (8 * w) + 192 ≤ j → bs2 j = bs j
theorem rfS_0 {cn zs bs : Nat → Int32} {Q : rf_Q} {w : Nat} {x : List Nat} {r : List (List Nat)} (h : rfQ cn zs bs Q) (hw : w < 2) (hq : Q w = x :: r) : rfS zs bs zs bs w 0 x r := by
  obtain ⟨g1, g2, g3⟩ := h w hw
  rw [hq] at g1 g2 g3
  refine ⟨fun j hj => absurd hj (Nat.not_lt_zero _), fun j _ hj => ?_, fun _ _ => rfl, fun _ _ => rfl⟩
  have h3 := g3 (j + 1) (by simp; omega)
  simpa using h3
theorem rfS_s {zs bs zs2 bs2 bs3 : Nat → Int32} {w k : Nat} {x : List Nat} {r : List (List Nat)} (h : rfS zs bs zs2 bs2 w k x r) (hk : k < r.length) (hr : r.length < 8)
    (h1 : ∀ q, q < 24 → bs3 (24 * (8 * w + k) + q) = bs2 (24 * (8 * w + k + 1) + q)) (h2 : ∀ q, q < 24 * (8 * w + k) ∨ 24 * (8 * w + k) + 24 ≤ q → bs3 q = bs2 q) : rfS zs bs (upd zs2 (8 * w + k) (zs2 (8 * w + k + 1))) bs3 w (k + 1) x r := by
  obtain ⟨a1, a2, a3, a4⟩ := h
  refine ⟨fun j hj => ?_, fun j hj hj2 => ?_, fun j hj => ?_, fun j hj => ?_⟩
  · by_cases hjk : j < k
    · obtain ⟨m1, m2, m3, m4⟩ := a1 j hjk
      refine ⟨m1, m2, by rw [rf_up_n _ _ (by omega)]; exact m3, fun i hi => ?_⟩
      rw [h2 _ (by omega)]
      exact m4 i hi
    · have e : j = k := by omega
      subst e
      obtain ⟨m1, m2, m3, m4⟩ := a2 j (Nat.le_refl _) hk
      refine ⟨m1, m2, by rw [rf_up_s]; exact m3, fun i hi => ?_⟩
      rw [h1 i (by omega)]
      exact m4 i hi
  · obtain ⟨m1, m2, m3, m4⟩ := a2 j (by omega) hj2
    refine ⟨m1, m2, by rw [rf_up_n _ _ (by omega)]; exact m3, fun i hi => ?_⟩
    rw [h2 _ (by omega)]
    exact m4 i hi
  · rw [rf_up_n _ _ (by omega)]
    exact a3 j hj
  · rw [h2 _ (by omega)]
    exact a4 j hj
theorem rfS_e {cn zs bs zs2 bs2 : Nat → Int32} {Q : rf_Q} {w : Nat} {x : List Nat} {r : List (List Nat)} (h : rfQ cn zs bs Q) (hw : w < 2) (hq : Q w = x :: r) (hs : rfS zs bs zs2 bs2 w r.length x r) : rfQ (upd cn w (nI r.length)) zs2 bs2 (va_up Q w r) := by
  obtain ⟨a1, a2, a3, a4⟩ := hs
  intro v hv
  obtain ⟨g1, g2, g3⟩ := h v hv
  by_cases hvw : v = w
  · subst hvw
    rw [hq] at g1
    rw [rf_vu_s, rf_up_s]
    exact ⟨by simp at g1; omega, rfl, a1⟩
  · rw [rf_vu_n _ _ hvw, rf_up_n _ _ hvw]
    refine ⟨g1, g2, fun k hk => ?_⟩
    obtain ⟨m1, m2, m3, m4⟩ := g3 k hk
    refine ⟨m1, m2, by rw [a3 _ (by omega)]; exact m3, fun i hi => ?_⟩
    rw [a4 _ (by omega)]
    exact m4 i hi
end
section
set_option maxHeartbeats 4000000 in
set_option maxRecDepth 100000 in
theorem r_take0 (l : Launch) {G : zz_G} {ad : Nat → Nat} {ce : zz_C} {sz : Nat} (T : rf_T) (Q : rf_Q) (M : List Nat) (hV : rfV G ad ce T Q M) (x : List Nat) (r : List (List Nat)) (hq : Q 0 = x :: r) : zz_M l yX6_take cX6_take 5 none 0 0 0 0 G [.ref (ad 100), .int 0] ad ce sz (fun r0 ad1 ce1 => r0 = none ∧ ad = ad1 ∧ rfV G ad ce1 T (va_up Q 0 r) x ∧ (∀ j, j < 100 → ce1 j = ce j)) := by
  refine zz_enter (by decide) (Nat.le_of_ble_eq_true rfl) ?_
  intro p e s m below meth c ls F hl hw hS hA
  obtain ⟨hx, hb, hr, hml, hown, hts, hlocks, hK, hnm⟩ := id F
  have hl : lv_has ls 5 [(0, .ref (ad 100)), (1, .int 0)] := hl
  obtain ⟨cn, zs, bs, hh, ⟨h100, h101, h102, h103, h104, h105, h106, h107, h108, h109, h110, h111⟩, hQ, hM⟩ := hV
  have hF : ∀ j, j < 100 → ce j = ce j := fun _ _ => rfl
  obtain ⟨hq1, hq2, hq3⟩ := hQ 0 (by decide)
  rw [hq] at hq1 hq2
  have hr8 : r.length < 8 := by simp at hq1; omega
  have hcl : cn 0 = nI (r.length + 1) := by rw [hq2]; rfl
  obtain ⟨hx2, hx24, hxz, hxm⟩ := (show rfm zs bs (8 * 0 + 0) x from by have h9 := hq3 0 (by rw [hq]; simp); rw [hq] at h9; simpa using h9)
  refine lv_bipush (v := 8) hx hb dX6_take_0 (by decide) ?_
  refine lv_iload_n hx hb dX6_take_2 rfl (lv_at hl 1 rfl) ?_
  refine lv_imul hx hb dX6_take_3 ?_
  refine z_top 0 (by decide) ?_
  refine lv_istore_n (lv' := [(2, .int 0), (0, .ref (ad 100)), (1, .int 0)]) hx hb dX6_take_4 rfl hl (by decide) rfl (fun ls hl => ?_)
  refine lv_aload_n hx hb dX6_take_5 rfl (lv_at hl 1 rfl) ?_
  refine lv_aload_n hx hb dX6_take_6 rfl (lv_at hl 1 rfl) ?_
  refine z_get F hw h100 fd_X6_17_X6 rfl dX6_take_7 ?_
  refine lv_iload_n hx hb dX6_take_10 rfl (lv_at hl 0 rfl) ?_
  refine z_ld F hw h102 (8 * 0 + 0) (rfl) (by decide) (by decide) dX6_take_11 ?_
  refine z_top (nI x.length) (hxz) ?_
  refine z_put F hw hS (fs' := [.int (T 0 0), .int (T 0 1), .int (T 0 2), .int (T 0 3), .int (T 0 4), .ref (ad 101), .ref (ad 102), .ref (ad 103), .int (T 0 5), .ref (ad 104), .ref (ad 105), .ref (ad 106), .ref (ad 107), .ref (ad 108), .int (T 0 6), .int (T 0 7), .int (T 0 8), .ref (ad 109), .int (T 0 9), .ref (ad 110), .int (T 0 10), .int (nI x.length), .ref (ad 111)]) h100 fd_X6_72_X6 ptX6 rfl (rfl) (rfl) (Nat.le_of_ble_eq_true rfl) rfl dX6_take_12 (fun ce1 H locs h100 fr2 hw hS => ?_)
  have h101 := (fr2 101 (by decide)).trans h101
  have h102 := (fr2 102 (by decide)).trans h102
  have h103 := (fr2 103 (by decide)).trans h103
  have h104 := (fr2 104 (by decide)).trans h104
  have h105 := (fr2 105 (by decide)).trans h105
  have h106 := (fr2 106 (by decide)).trans h106
  have h107 := (fr2 107 (by decide)).trans h107
  have h108 := (fr2 108 (by decide)).trans h108
  have h109 := (fr2 109 (by decide)).trans h109
  have h110 := (fr2 110 (by decide)).trans h110
  have h111 := (fr2 111 (by decide)).trans h111
  have hF : ∀ j, j < 100 → _ = ce j := fun j hj => (fr2 j (by omega)).trans (hF j hj)
  refine lv_iconst (v := 0) hx hb dX6_take_15 (by decide) ?_
  refine lv_istore_n (lv' := [(3, .int 0), (2, .int 0), (0, .ref (ad 100)), (1, .int 0)]) hx hb dX6_take_16 rfl hl (by decide) rfl (fun ls hl => ?_)
  refine z_loop (α := Nat) (fun i => x.length - i) (fun i ce9 ls9 => lv_has ls9 5 [(0, .ref (ad 100)), (1, .int 0), (2, .int 0), (3, .int (nI i))] ∧ ∃ f, ce9 111 = some (.inl (zz_cI G, 24, .inl f)) ∧ (∀ j, j < i → f j = nI (x.getD j 0)) ∧ (∀ j, j ≠ 111 → ce9 j = ce1 j) ∧ i ≤ x.length) 0 ⟨lv_sub hl [2, 3, 1, 0] rfl, ⟨_, h111, fun j hj => absurd hj (Nat.not_lt_zero _), fun _ _ => rfl, Nat.zero_le _⟩⟩ hw hS (fun i ih17 ce9 H locs ls hI hw hS => ?_)
  obtain ⟨hl, f, h111, hf, frA, hix⟩ := hI
  have h100 := (frA 100 (by decide)).trans h100
  have h101 := (frA 101 (by decide)).trans h101
  have h102 := (frA 102 (by decide)).trans h102
  have h103 := (frA 103 (by decide)).trans h103
  have h104 := (frA 104 (by decide)).trans h104
  have h105 := (frA 105 (by decide)).trans h105
  have h106 := (frA 106 (by decide)).trans h106
  have h107 := (frA 107 (by decide)).trans h107
  have h108 := (frA 108 (by decide)).trans h108
  have h109 := (frA 109 (by decide)).trans h109
  have h110 := (frA 110 (by decide)).trans h110
  have hF : ∀ j, j < 100 → ce9 j = ce j := fun j hj => (frA j (by omega)).trans (hF j hj)
  refine lv_iload_n hx hb dX6_take_17 rfl (lv_at hl 3 rfl) ?_
  refine lv_aload_n hx hb dX6_take_18 rfl (lv_at hl 0 rfl) ?_
  refine z_get F hw h100 fd_X6_72_X6 rfl dX6_take_19 ?_
  refine lv_icmp_ge (tgt := 48) hx hb dX6_take_22 (by decide) (fun c22 => ?_) (fun c22 => ?_)
  · have hie : x.length ≤ i := Nat.le_of_not_lt (fun q => absurd c22 (nI_ge q (by omega)))
    refine lv_aload_n hx hb dX6_take_48 rfl (lv_at hl 0 rfl) ?_
    refine z_get F hw h100 fd_X6_13_X6 rfl dX6_take_49 ?_
    refine lv_iload_n hx hb dX6_take_52 rfl (lv_at hl 1 rfl) ?_
    refine lv_dup2_11 hx hb dX6_take_53 rfl rfl ?_
    refine z_ld F hw h101 (0) (rfl) (by decide) (by decide) dX6_take_54 ?_
    refine z_top (nI (r.length + 1)) (hcl) ?_
    refine lv_iconst (v := 1) hx hb dX6_take_55 (by decide) ?_
    refine lv_isub hx hb dX6_take_56 ?_
    refine z_top (nI r.length) (nI_pred _) ?_
    refine z_st F hw hS h101 (0) (rfl) (by decide) (by decide) dX6_take_57 (fun ce3 H locs h101 fr4 hw hS => ?_)
    have h100 := (fr4 100 (by decide)).trans h100
    have h102 := (fr4 102 (by decide)).trans h102
    have h103 := (fr4 103 (by decide)).trans h103
    have h104 := (fr4 104 (by decide)).trans h104
    have h105 := (fr4 105 (by decide)).trans h105
    have h106 := (fr4 106 (by decide)).trans h106
    have h107 := (fr4 107 (by decide)).trans h107
    have h108 := (fr4 108 (by decide)).trans h108
    have h109 := (fr4 109 (by decide)).trans h109
    have h110 := (fr4 110 (by decide)).trans h110
    have h111 := (fr4 111 (by decide)).trans h111
    have hF : ∀ j, j < 100 → _ = ce j := fun j hj => (fr4 j (by omega)).trans (hF j hj)
    refine lv_iconst (v := 0) hx hb dX6_take_58 (by decide) ?_
    refine lv_istore_n (lv' := [(3, .int 0), (0, .ref (ad 100)), (1, .int 0), (2, .int 0)]) hx hb dX6_take_59 rfl hl (by decide) rfl (fun ls hl => ?_)
    refine z_loop (α := Nat) (fun t => r.length - t) (fun t ce9 ls9 => lv_has ls9 5 [(0, .ref (ad 100)), (1, .int 0), (2, .int 0), (3, .int (nI t))] ∧ ∃ zs2 bs2, ce9 102 = some (.inl (zz_cI G, 16, .inl zs2)) ∧ ce9 103 = some (.inl (zz_cI G, 384, .inl bs2)) ∧ rfS zs bs zs2 bs2 0 t x r ∧ (∀ j, j ≠ 102 → j ≠ 103 → ce9 j = ce3 j) ∧ t ≤ r.length) 0 ⟨lv_sub hl [1, 2, 3, 0] rfl, ⟨_, _, h102, h103, rfS_0 hQ (by decide) hq, fun _ _ _ => rfl, Nat.zero_le _⟩⟩ hw hS (fun t ih60 ce9 H locs ls hI hw hS => ?_)
    obtain ⟨hl, zs2, bs2, h102, h103, hs, frA, htr⟩ := hI
    have h100 := (frA 100 (by decide) (by decide)).trans h100
    have h101 := (frA 101 (by decide) (by decide)).trans h101
    have h104 := (frA 104 (by decide) (by decide)).trans h104
    have h105 := (frA 105 (by decide) (by decide)).trans h105
    have h106 := (frA 106 (by decide) (by decide)).trans h106
    have h107 := (frA 107 (by decide) (by decide)).trans h107
    have h108 := (frA 108 (by decide) (by decide)).trans h108
    have h109 := (frA 109 (by decide) (by decide)).trans h109
    have h110 := (frA 110 (by decide) (by decide)).trans h110
    have h111 := (frA 111 (by decide) (by decide)).trans h111
    have hF : ∀ j, j < 100 → ce9 j = ce j := fun j hj => (frA j (by omega) (by omega)).trans (hF j hj)
    refine lv_iload_n hx hb dX6_take_60 rfl (lv_at hl 3 rfl) ?_
    refine lv_aload_n hx hb dX6_take_61 rfl (lv_at hl 0 rfl) ?_
    refine z_get F hw h100 fd_X6_13_X6 rfl dX6_take_62 ?_
    refine lv_iload_n hx hb dX6_take_65 rfl (lv_at hl 1 rfl) ?_
    refine z_ld F hw h101 (0) (rfl) (by decide) (by decide) dX6_take_66 ?_
    refine z_top (nI r.length) (rf_up_s _ _ _) ?_
    refine lv_icmp_ge (tgt := 140) hx hb dX6_take_67 (by decide) (fun c67 => ?_) (fun c67 => ?_)
    · have hEnd : rfQ (upd cn 0 (nI r.length)) zs2 bs2 (va_up Q 0 r) := rfS_e hQ (by decide) hq (by rw [show r.length = t from Nat.le_antisymm (Nat.le_of_not_lt (fun q => absurd c67 (nI_ge q (by omega)))) htr]; exact hs)
      exact z_vret F hw hS (⟨rfl, rfl, ⟨_, _, _, _, ⟨h100, h101, h102, h103, h104, h105, h106, h107, h108, h109, h110, h111⟩, hEnd, ⟨hx24, fun i9 hi9 => ⟨hf i9 (by omega), (hxm i9 hi9).2⟩⟩⟩, hF⟩) dX6_take_140
    · have htl : t < r.length := Nat.lt_of_not_le (fun q => c67 (nI_le q (by omega)))
      have frC := frA
      refine lv_aload_n hx hb dX6_take_70 rfl (lv_at hl 0 rfl) ?_
      refine z_get F hw h100 fd_X6_17_X6 rfl dX6_take_71 ?_
      refine lv_iload_n hx hb dX6_take_74 rfl (lv_at hl 2 rfl) ?_
      refine lv_iload_n hx hb dX6_take_75 rfl (lv_at hl 3 rfl) ?_
      refine lv_iadd hx hb dX6_take_76 ?_
      refine z_top (nI (8 * 0 + t)) (by rw [show (0 : Int32) = nI (8 * 0) from rfl, nI_add]) ?_
      refine lv_aload_n hx hb dX6_take_77 rfl (lv_at hl 0 rfl) ?_
      refine z_get F hw h100 fd_X6_17_X6 rfl dX6_take_78 ?_
      refine lv_iload_n hx hb dX6_take_81 rfl (lv_at hl 2 rfl) ?_
      refine lv_iload_n hx hb dX6_take_82 rfl (lv_at hl 3 rfl) ?_
      refine lv_iadd hx hb dX6_take_83 ?_
      refine z_top (nI (8 * 0 + t)) (by rw [show (0 : Int32) = nI (8 * 0) from rfl, nI_add]) ?_
      refine lv_iconst (v := 1) hx hb dX6_take_84 (by decide) ?_
      refine lv_iadd hx hb dX6_take_85 ?_
      refine z_top (nI (8 * 0 + t + 1)) (nI_1 _) ?_
      refine z_ld F hw h102 (8 * 0 + t + 1) (rfl) (by omega) (by decide) dX6_take_86 ?_
      refine z_st F hw hS h102 (8 * 0 + t) (rfl) (by omega) (by decide) dX6_take_87 (fun ce5 H locs h102 fr6 hw hS => ?_)
      have h100 := (fr6 100 (by decide)).trans h100
      have h101 := (fr6 101 (by decide)).trans h101
      have h103 := (fr6 103 (by decide)).trans h103
      have h104 := (fr6 104 (by decide)).trans h104
      have h105 := (fr6 105 (by decide)).trans h105
      have h106 := (fr6 106 (by decide)).trans h106
      have h107 := (fr6 107 (by decide)).trans h107
      have h108 := (fr6 108 (by decide)).trans h108
      have h109 := (fr6 109 (by decide)).trans h109
      have h110 := (fr6 110 (by decide)).trans h110
      have h111 := (fr6 111 (by decide)).trans h111
      have hF : ∀ j, j < 100 → _ = ce j := fun j hj => (fr6 j (by omega)).trans (hF j hj)
      have frz := fr6
      refine lv_iconst (v := 0) hx hb dX6_take_88 (by decide) ?_
      refine lv_istore (lv' := [(4, .int 0), (0, .ref (ad 100)), (1, .int 0), (2, .int 0), (3, .int (nI t))]) hx hb dX6_take_89 hl (by decide) rfl (fun ls hl => ?_)
      refine z_loop (α := Nat) (fun u => 24 - u) (fun u ce9 ls9 => lv_has ls9 5 [(0, .ref (ad 100)), (1, .int 0), (2, .int 0), (3, .int (nI t)), (4, .int (nI u))] ∧ ∃ bs3, ce9 103 = some (.inl (zz_cI G, 384, .inl bs3)) ∧ (∀ q, q < u → bs3 (24 * (8 * 0 + t) + q) = bs2 (24 * (8 * 0 + t + 1) + q)) ∧ (∀ q, q < 24 * (8 * 0 + t) ∨ 24 * (8 * 0 + t) + u ≤ q → bs3 q = bs2 q) ∧ (∀ j, j ≠ 103 → ce9 j = ce5 j) ∧ u ≤ 24) 0 ⟨lv_sub hl [1, 2, 3, 4, 0] rfl, ⟨_, h103, fun q hq9 => absurd hq9 (Nat.not_lt_zero _), fun _ _ => rfl, fun _ _ => rfl, Nat.zero_le _⟩⟩ hw hS (fun u ih91 ce9 H locs ls hI hw hS => ?_)
      obtain ⟨hl, bs3, h103, g1, g2, frB, hu⟩ := hI
      have h100 := (frB 100 (by decide)).trans h100
      have h101 := (frB 101 (by decide)).trans h101
      have h102 := (frB 102 (by decide)).trans h102
      have h104 := (frB 104 (by decide)).trans h104
      have h105 := (frB 105 (by decide)).trans h105
      have h106 := (frB 106 (by decide)).trans h106
      have h107 := (frB 107 (by decide)).trans h107
      have h108 := (frB 108 (by decide)).trans h108
      have h109 := (frB 109 (by decide)).trans h109
      have h110 := (frB 110 (by decide)).trans h110
      have h111 := (frB 111 (by decide)).trans h111
      have hF : ∀ j, j < 100 → ce9 j = ce j := fun j hj => (frB j (by omega)).trans (hF j hj)
      refine lv_iload hx hb dX6_take_91 (lv_at hl 4 rfl) ?_
      refine lv_bipush (v := 24) hx hb dX6_take_93 (by decide) ?_
      refine lv_icmp_ge (tgt := 134) hx hb dX6_take_95 (by decide) (fun c95 => ?_) (fun c95 => ?_)
      · have hue : 24 ≤ u := Nat.le_of_not_lt (fun q => absurd c95 (nI_ge (b := 24) q (by omega)))
        refine lv_iinc (v := nI (t + 1)) (lv' := [(3, .int (nI (t + 1))), (0, .ref (ad 100)), (1, .int 0), (2, .int 0), (4, .int (nI u))]) hx hb dX6_take_134 hl (k := 3) rfl (nI_1 t) (by decide) rfl (fun ls hl => ?_)
        refine lv_goto (tgt := 60) hx hb dX6_take_137 (by decide) ?_
        exact ih60 (t + 1) _ _ _ _ (by omega) ⟨lv_sub hl [1, 2, 3, 0] rfl, ⟨_, _, h102, h103, rfS_s hs htl hr8 (fun q hq9 => g1 q (by omega)) (fun q hq9 => g2 q (by omega)), fun j h1 h2 => (frB j h2).trans ((frz j h1).trans (frC j h1 h2)), by omega⟩⟩ hw hS
      · have hul : u < 24 := Nat.lt_of_not_le (fun q => c95 (nI_le q (by omega)))
        refine lv_aload_n hx hb dX6_take_98 rfl (lv_at hl 0 rfl) ?_
        refine z_get F hw h100 fd_X6_20_X6 rfl dX6_take_99 ?_
        refine lv_bipush (v := 24) hx hb dX6_take_102 (by decide) ?_
        refine lv_iload_n hx hb dX6_take_104 rfl (lv_at hl 2 rfl) ?_
        refine lv_iload_n hx hb dX6_take_105 rfl (lv_at hl 3 rfl) ?_
        refine lv_iadd hx hb dX6_take_106 ?_
        refine z_top (nI (8 * 0 + t)) (by rw [show (0 : Int32) = nI (8 * 0) from rfl, nI_add]) ?_
        refine lv_imul hx hb dX6_take_107 ?_
        refine z_top (nI (24 * (8 * 0 + t))) (by rw [show (24 : Int32) = nI 24 from rfl, pk_mul]) ?_
        refine lv_iload hx hb dX6_take_108 (lv_at hl 4 rfl) ?_
        refine lv_iadd hx hb dX6_take_110 ?_
        refine z_top (nI (24 * (8 * 0 + t) + u)) (nI_add _ _) ?_
        refine lv_aload_n hx hb dX6_take_111 rfl (lv_at hl 0 rfl) ?_
        refine z_get F hw h100 fd_X6_20_X6 rfl dX6_take_112 ?_
        refine lv_bipush (v := 24) hx hb dX6_take_115 (by decide) ?_
        refine lv_iload_n hx hb dX6_take_117 rfl (lv_at hl 2 rfl) ?_
        refine lv_iload_n hx hb dX6_take_118 rfl (lv_at hl 3 rfl) ?_
        refine lv_iadd hx hb dX6_take_119 ?_
        refine z_top (nI (8 * 0 + t)) (by rw [show (0 : Int32) = nI (8 * 0) from rfl, nI_add]) ?_
        refine lv_iconst (v := 1) hx hb dX6_take_120 (by decide) ?_
        refine lv_iadd hx hb dX6_take_121 ?_
        refine z_top (nI (8 * 0 + t + 1)) (nI_1 _) ?_
        refine lv_imul hx hb dX6_take_122 ?_
        refine z_top (nI (24 * (8 * 0 + t + 1))) (by rw [show (24 : Int32) = nI 24 from rfl, pk_mul]) ?_
        refine lv_iload hx hb dX6_take_123 (lv_at hl 4 rfl) ?_
        refine lv_iadd hx hb dX6_take_125 ?_
        refine z_top (nI (24 * (8 * 0 + t + 1) + u)) (nI_add _ _) ?_
        refine z_ld F hw h103 (24 * (8 * 0 + t + 1) + u) (rfl) (by omega) (by decide) dX6_take_126 ?_
        refine z_st F hw hS h103 (24 * (8 * 0 + t) + u) (rfl) (by omega) (by decide) dX6_take_127 (fun ce7 H locs h103 fr8 hw hS => ?_)
        have h100 := (fr8 100 (by decide)).trans h100
        have h101 := (fr8 101 (by decide)).trans h101
        have h102 := (fr8 102 (by decide)).trans h102
        have h104 := (fr8 104 (by decide)).trans h104
        have h105 := (fr8 105 (by decide)).trans h105
        have h106 := (fr8 106 (by decide)).trans h106
        have h107 := (fr8 107 (by decide)).trans h107
        have h108 := (fr8 108 (by decide)).trans h108
        have h109 := (fr8 109 (by decide)).trans h109
        have h110 := (fr8 110 (by decide)).trans h110
        have h111 := (fr8 111 (by decide)).trans h111
        have hF : ∀ j, j < 100 → _ = ce j := fun j hj => (fr8 j (by omega)).trans (hF j hj)
        refine lv_iinc (v := nI (u + 1)) (lv' := [(4, .int (nI (u + 1))), (0, .ref (ad 100)), (1, .int 0), (2, .int 0), (3, .int (nI t))]) hx hb dX6_take_128 hl (k := 4) rfl (nI_1 u) (by decide) rfl (fun ls hl => ?_)
        refine lv_goto (tgt := 91) hx hb dX6_take_131 (by decide) ?_
        exact ih91 (u + 1) _ _ _ _ (by omega) ⟨lv_sub hl [1, 2, 3, 4, 0] rfl, ⟨_, h103, fun q hq9 => (if e9 : q = u then (by rw [e9, rf_up_s, g2 _ (by omega)]) else (by rw [rf_up_n _ _ (by omega)]; exact g1 q (by omega))), fun q hq9 => (by rw [rf_up_n _ _ (by omega)]; exact g2 q (by omega)), fun j hj => (fr8 j hj).trans (frB j hj), by omega⟩⟩ hw hS
  · have hil : i < x.length := Nat.lt_of_not_le (fun q => c22 (nI_le q (by omega)))
    refine lv_aload_n hx hb dX6_take_25 rfl (lv_at hl 0 rfl) ?_
    refine z_get F hw h100 fd_X6_48_X6 rfl dX6_take_26 ?_
    refine lv_iload_n hx hb dX6_take_29 rfl (lv_at hl 3 rfl) ?_
    refine lv_aload_n hx hb dX6_take_30 rfl (lv_at hl 0 rfl) ?_
    refine z_get F hw h100 fd_X6_20_X6 rfl dX6_take_31 ?_
    refine lv_bipush (v := 24) hx hb dX6_take_34 (by decide) ?_
    refine lv_iload_n hx hb dX6_take_36 rfl (lv_at hl 2 rfl) ?_
    refine lv_imul hx hb dX6_take_37 ?_
    refine z_top 0 (by decide) ?_
    refine lv_iload_n hx hb dX6_take_38 rfl (lv_at hl 3 rfl) ?_
    refine lv_iadd hx hb dX6_take_39 ?_
    refine z_top (nI (24 * (8 * 0 + 0) + i)) (by rw [show (0 : Int32) = nI (24 * (8 * 0 + 0)) from rfl, nI_add]) ?_
    refine z_ld F hw h103 (24 * (8 * 0 + 0) + i) (rfl) (by omega) (by decide) dX6_take_40 ?_
    refine z_top (nI (x.getD i 0)) ((hxm i hil).1) ?_
    refine z_st F hw hS h111 (i) (rfl) (by omega) (by decide) dX6_take_41 (fun ce9 H locs h111 fr10 hw hS => ?_)
    have h100 := (fr10 100 (by decide)).trans h100
    have h101 := (fr10 101 (by decide)).trans h101
    have h102 := (fr10 102 (by decide)).trans h102
    have h103 := (fr10 103 (by decide)).trans h103
    have h104 := (fr10 104 (by decide)).trans h104
    have h105 := (fr10 105 (by decide)).trans h105
    have h106 := (fr10 106 (by decide)).trans h106
    have h107 := (fr10 107 (by decide)).trans h107
    have h108 := (fr10 108 (by decide)).trans h108
    have h109 := (fr10 109 (by decide)).trans h109
    have h110 := (fr10 110 (by decide)).trans h110
    have hF : ∀ j, j < 100 → _ = ce j := fun j hj => (fr10 j (by omega)).trans (hF j hj)
    refine lv_iinc (v := nI (i + 1)) (lv' := [(3, .int (nI (i + 1))), (0, .ref (ad 100)), (1, .int 0), (2, .int 0)]) hx hb dX6_take_42 hl (k := 3) rfl (nI_1 i) (by decide) rfl (fun ls hl => ?_)
    refine lv_goto (tgt := 17) hx hb dX6_take_45 (by decide) ?_
    exact ih17 (i + 1) _ _ _ _ (by omega) ⟨lv_sub hl [1, 2, 3, 0] rfl, ⟨_, h111, fun j hj => (if q : j = i then (by rw [q, rf_up_s]) else (by rw [rf_up_n _ _ q]; exact hf j (by omega))), fun j hj => (fr10 j hj).trans (frA j hj), by omega⟩⟩ hw hS
set_option maxHeartbeats 4000000 in
set_option maxRecDepth 100000 in
theorem r_take1 (l : Launch) {G : zz_G} {ad : Nat → Nat} {ce : zz_C} {sz : Nat} (T : rf_T) (Q : rf_Q) (M : List Nat) (hV : rfV G ad ce T Q M) (x : List Nat) (r : List (List Nat)) (hq : Q 1 = x :: r) : zz_M l yX6_take cX6_take 5 none 0 0 0 0 G [.ref (ad 100), .int 1] ad ce sz (fun r0 ad1 ce1 => r0 = none ∧ ad = ad1 ∧ rfV G ad ce1 T (va_up Q 1 r) x ∧ (∀ j, j < 100 → ce1 j = ce j)) := by
  refine zz_enter (by decide) (Nat.le_of_ble_eq_true rfl) ?_
  intro p e s m below meth c ls F hl hw hS hA
  obtain ⟨hx, hb, hr, hml, hown, hts, hlocks, hK, hnm⟩ := id F
  have hl : lv_has ls 5 [(0, .ref (ad 100)), (1, .int 1)] := hl
  obtain ⟨cn, zs, bs, hh, ⟨h100, h101, h102, h103, h104, h105, h106, h107, h108, h109, h110, h111⟩, hQ, hM⟩ := hV
  have hF : ∀ j, j < 100 → ce j = ce j := fun _ _ => rfl
  obtain ⟨hq1, hq2, hq3⟩ := hQ 1 (by decide)
  rw [hq] at hq1 hq2
  have hr8 : r.length < 8 := by simp at hq1; omega
  have hcl : cn 1 = nI (r.length + 1) := by rw [hq2]; rfl
  obtain ⟨hx2, hx24, hxz, hxm⟩ := (show rfm zs bs (8 * 1 + 0) x from by have h9 := hq3 0 (by rw [hq]; simp); rw [hq] at h9; simpa using h9)
  refine lv_bipush (v := 8) hx hb dX6_take_0 (by decide) ?_
  refine lv_iload_n hx hb dX6_take_2 rfl (lv_at hl 1 rfl) ?_
  refine lv_imul hx hb dX6_take_3 ?_
  refine z_top 8 (by decide) ?_
  refine lv_istore_n (lv' := [(2, .int 8), (0, .ref (ad 100)), (1, .int 1)]) hx hb dX6_take_4 rfl hl (by decide) rfl (fun ls hl => ?_)
  refine lv_aload_n hx hb dX6_take_5 rfl (lv_at hl 1 rfl) ?_
  refine lv_aload_n hx hb dX6_take_6 rfl (lv_at hl 1 rfl) ?_
  refine z_get F hw h100 fd_X6_17_X6 rfl dX6_take_7 ?_
  refine lv_iload_n hx hb dX6_take_10 rfl (lv_at hl 0 rfl) ?_
  refine z_ld F hw h102 (8 * 1 + 0) (rfl) (by decide) (by decide) dX6_take_11 ?_
  refine z_top (nI x.length) (hxz) ?_
  refine z_put F hw hS (fs' := [.int (T 0 0), .int (T 0 1), .int (T 0 2), .int (T 0 3), .int (T 0 4), .ref (ad 101), .ref (ad 102), .ref (ad 103), .int (T 0 5), .ref (ad 104), .ref (ad 105), .ref (ad 106), .ref (ad 107), .ref (ad 108), .int (T 0 6), .int (T 0 7), .int (T 0 8), .ref (ad 109), .int (T 0 9), .ref (ad 110), .int (T 0 10), .int (nI x.length), .ref (ad 111)]) h100 fd_X6_72_X6 ptX6 rfl (rfl) (rfl) (Nat.le_of_ble_eq_true rfl) rfl dX6_take_12 (fun ce1 H locs h100 fr2 hw hS => ?_)
  have h101 := (fr2 101 (by decide)).trans h101
  have h102 := (fr2 102 (by decide)).trans h102
  have h103 := (fr2 103 (by decide)).trans h103
  have h104 := (fr2 104 (by decide)).trans h104
  have h105 := (fr2 105 (by decide)).trans h105
  have h106 := (fr2 106 (by decide)).trans h106
  have h107 := (fr2 107 (by decide)).trans h107
  have h108 := (fr2 108 (by decide)).trans h108
  have h109 := (fr2 109 (by decide)).trans h109
  have h110 := (fr2 110 (by decide)).trans h110
  have h111 := (fr2 111 (by decide)).trans h111
  have hF : ∀ j, j < 100 → _ = ce j := fun j hj => (fr2 j (by omega)).trans (hF j hj)
  refine lv_iconst (v := 0) hx hb dX6_take_15 (by decide) ?_
  refine lv_istore_n (lv' := [(3, .int 0), (2, .int 8), (0, .ref (ad 100)), (1, .int 1)]) hx hb dX6_take_16 rfl hl (by decide) rfl (fun ls hl => ?_)
  refine z_loop (α := Nat) (fun i => x.length - i) (fun i ce9 ls9 => lv_has ls9 5 [(0, .ref (ad 100)), (1, .int 1), (2, .int 8), (3, .int (nI i))] ∧ ∃ f, ce9 111 = some (.inl (zz_cI G, 24, .inl f)) ∧ (∀ j, j < i → f j = nI (x.getD j 0)) ∧ (∀ j, j ≠ 111 → ce9 j = ce1 j) ∧ i ≤ x.length) 0 ⟨lv_sub hl [2, 3, 1, 0] rfl, ⟨_, h111, fun j hj => absurd hj (Nat.not_lt_zero _), fun _ _ => rfl, Nat.zero_le _⟩⟩ hw hS (fun i ih17 ce9 H locs ls hI hw hS => ?_)
  obtain ⟨hl, f, h111, hf, frA, hix⟩ := hI
  have h100 := (frA 100 (by decide)).trans h100
  have h101 := (frA 101 (by decide)).trans h101
  have h102 := (frA 102 (by decide)).trans h102
  have h103 := (frA 103 (by decide)).trans h103
  have h104 := (frA 104 (by decide)).trans h104
  have h105 := (frA 105 (by decide)).trans h105
  have h106 := (frA 106 (by decide)).trans h106
  have h107 := (frA 107 (by decide)).trans h107
  have h108 := (frA 108 (by decide)).trans h108
  have h109 := (frA 109 (by decide)).trans h109
  have h110 := (frA 110 (by decide)).trans h110
  have hF : ∀ j, j < 100 → ce9 j = ce j := fun j hj => (frA j (by omega)).trans (hF j hj)
  refine lv_iload_n hx hb dX6_take_17 rfl (lv_at hl 3 rfl) ?_
  refine lv_aload_n hx hb dX6_take_18 rfl (lv_at hl 0 rfl) ?_
  refine z_get F hw h100 fd_X6_72_X6 rfl dX6_take_19 ?_
  refine lv_icmp_ge (tgt := 48) hx hb dX6_take_22 (by decide) (fun c22 => ?_) (fun c22 => ?_)
  · have hie : x.length ≤ i := Nat.le_of_not_lt (fun q => absurd c22 (nI_ge q (by omega)))
    refine lv_aload_n hx hb dX6_take_48 rfl (lv_at hl 0 rfl) ?_
    refine z_get F hw h100 fd_X6_13_X6 rfl dX6_take_49 ?_
    refine lv_iload_n hx hb dX6_take_52 rfl (lv_at hl 1 rfl) ?_
    refine lv_dup2_11 hx hb dX6_take_53 rfl rfl ?_
    refine z_ld F hw h101 (1) (rfl) (by decide) (by decide) dX6_take_54 ?_
    refine z_top (nI (r.length + 1)) (hcl) ?_
    refine lv_iconst (v := 1) hx hb dX6_take_55 (by decide) ?_
    refine lv_isub hx hb dX6_take_56 ?_
    refine z_top (nI r.length) (nI_pred _) ?_
    refine z_st F hw hS h101 (1) (rfl) (by decide) (by decide) dX6_take_57 (fun ce3 H locs h101 fr4 hw hS => ?_)
    have h100 := (fr4 100 (by decide)).trans h100
    have h102 := (fr4 102 (by decide)).trans h102
    have h103 := (fr4 103 (by decide)).trans h103
    have h104 := (fr4 104 (by decide)).trans h104
    have h105 := (fr4 105 (by decide)).trans h105
    have h106 := (fr4 106 (by decide)).trans h106
    have h107 := (fr4 107 (by decide)).trans h107
    have h108 := (fr4 108 (by decide)).trans h108
    have h109 := (fr4 109 (by decide)).trans h109
    have h110 := (fr4 110 (by decide)).trans h110
    have h111 := (fr4 111 (by decide)).trans h111
    have hF : ∀ j, j < 100 → _ = ce j := fun j hj => (fr4 j (by omega)).trans (hF j hj)
    refine lv_iconst (v := 0) hx hb dX6_take_58 (by decide) ?_
    refine lv_istore_n (lv' := [(3, .int 0), (0, .ref (ad 100)), (1, .int 1), (2, .int 8)]) hx hb dX6_take_59 rfl hl (by decide) rfl (fun ls hl => ?_)
    refine z_loop (α := Nat) (fun t => r.length - t) (fun t ce9 ls9 => lv_has ls9 5 [(0, .ref (ad 100)), (1, .int 1), (2, .int 8), (3, .int (nI t))] ∧ ∃ zs2 bs2, ce9 102 = some (.inl (zz_cI G, 16, .inl zs2)) ∧ ce9 103 = some (.inl (zz_cI G, 384, .inl bs2)) ∧ rfS zs bs zs2 bs2 1 t x r ∧ (∀ j, j ≠ 102 → j ≠ 103 → ce9 j = ce3 j) ∧ t ≤ r.length) 0 ⟨lv_sub hl [1, 2, 3, 0] rfl, ⟨_, _, h102, h103, rfS_0 hQ (by decide) hq, fun _ _ _ => rfl, Nat.zero_le _⟩⟩ hw hS (fun t ih60 ce9 H locs ls hI hw hS => ?_)
    obtain ⟨hl, zs2, bs2, h102, h103, hs, frA, htr⟩ := hI
    have h100 := (frA 100 (by decide) (by decide)).trans h100
    have h101 := (frA 101 (by decide) (by decide)).trans h101
    have h104 := (frA 104 (by decide) (by decide)).trans h104
    have h105 := (frA 105 (by decide) (by decide)).trans h105
    have h106 := (frA 106 (by decide) (by decide)).trans h106
    have h107 := (frA 107 (by decide) (by decide)).trans h107
    have h108 := (frA 108 (by decide) (by decide)).trans h108
    have h109 := (frA 109 (by decide) (by decide)).trans h109
    have h110 := (frA 110 (by decide) (by decide)).trans h110
    have h111 := (frA 111 (by decide) (by decide)).trans h111
    have hF : ∀ j, j < 100 → ce9 j = ce j := fun j hj => (frA j (by omega) (by omega)).trans (hF j hj)
    refine lv_iload_n hx hb dX6_take_60 rfl (lv_at hl 3 rfl) ?_
    refine lv_aload_n hx hb dX6_take_61 rfl (lv_at hl 0 rfl) ?_
    refine z_get F hw h100 fd_X6_13_X6 rfl dX6_take_62 ?_
    refine lv_iload_n hx hb dX6_take_65 rfl (lv_at hl 1 rfl) ?_
    refine z_ld F hw h101 (1) (rfl) (by decide) (by decide) dX6_take_66 ?_
    refine z_top (nI r.length) (rf_up_s _ _ _) ?_
    refine lv_icmp_ge (tgt := 140) hx hb dX6_take_67 (by decide) (fun c67 => ?_) (fun c67 => ?_)
    · have hEnd : rfQ (upd cn 1 (nI r.length)) zs2 bs2 (va_up Q 1 r) := rfS_e hQ (by decide) hq (by rw [show r.length = t from Nat.le_antisymm (Nat.le_of_not_lt (fun q => absurd c67 (nI_ge q (by omega)))) htr]; exact hs)
      exact z_vret F hw hS (⟨rfl, rfl, ⟨_, _, _, _, ⟨h100, h101, h102, h103, h104, h105, h106, h107, h108, h109, h110, h111⟩, hEnd, ⟨hx24, fun i9 hi9 => ⟨hf i9 (by omega), (hxm i9 hi9).2⟩⟩⟩, hF⟩) dX6_take_140
    · have htl : t < r.length := Nat.lt_of_not_le (fun q => c67 (nI_le q (by omega)))
      have frC := frA
      refine lv_aload_n hx hb dX6_take_70 rfl (lv_at hl 0 rfl) ?_
      refine z_get F hw h100 fd_X6_17_X6 rfl dX6_take_71 ?_
      refine lv_iload_n hx hb dX6_take_74 rfl (lv_at hl 2 rfl) ?_
      refine lv_iload_n hx hb dX6_take_75 rfl (lv_at hl 3 rfl) ?_
      refine lv_iadd hx hb dX6_take_76 ?_
      refine z_top (nI (8 * 1 + t)) (by rw [show (8 : Int32) = nI (8 * 1) from rfl, nI_add]) ?_
      refine lv_aload_n hx hb dX6_take_77 rfl (lv_at hl 0 rfl) ?_
      refine z_get F hw h100 fd_X6_17_X6 rfl dX6_take_78 ?_
      refine lv_iload_n hx hb dX6_take_81 rfl (lv_at hl 2 rfl) ?_
      refine lv_iload_n hx hb dX6_take_82 rfl (lv_at hl 3 rfl) ?_
      refine lv_iadd hx hb dX6_take_83 ?_
      refine z_top (nI (8 * 1 + t)) (by rw [show (8 : Int32) = nI (8 * 1) from rfl, nI_add]) ?_
      refine lv_iconst (v := 1) hx hb dX6_take_84 (by decide) ?_
      refine lv_iadd hx hb dX6_take_85 ?_
      refine z_top (nI (8 * 1 + t + 1)) (nI_1 _) ?_
      refine z_ld F hw h102 (8 * 1 + t + 1) (rfl) (by omega) (by decide) dX6_take_86 ?_
      refine z_st F hw hS h102 (8 * 1 + t) (rfl) (by omega) (by decide) dX6_take_87 (fun ce5 H locs h102 fr6 hw hS => ?_)
      have h100 := (fr6 100 (by decide)).trans h100
      have h101 := (fr6 101 (by decide)).trans h101
      have h103 := (fr6 103 (by decide)).trans h103
      have h104 := (fr6 104 (by decide)).trans h104
      have h105 := (fr6 105 (by decide)).trans h105
      have h106 := (fr6 106 (by decide)).trans h106
      have h107 := (fr6 107 (by decide)).trans h107
      have h108 := (fr6 108 (by decide)).trans h108
      have h109 := (fr6 109 (by decide)).trans h109
      have h110 := (fr6 110 (by decide)).trans h110
      have h111 := (fr6 111 (by decide)).trans h111
      have hF : ∀ j, j < 100 → _ = ce j := fun j hj => (fr6 j (by omega)).trans (hF j hj)
      have frz := fr6
      refine lv_iconst (v := 0) hx hb dX6_take_88 (by decide) ?_
      refine lv_istore (lv' := [(4, .int 0), (0, .ref (ad 100)), (1, .int 1), (2, .int 8), (3, .int (nI t))]) hx hb dX6_take_89 hl (by decide) rfl (fun ls hl => ?_)
      refine z_loop (α := Nat) (fun u => 24 - u) (fun u ce9 ls9 => lv_has ls9 5 [(0, .ref (ad 100)), (1, .int 1), (2, .int 8), (3, .int (nI t)), (4, .int (nI u))] ∧ ∃ bs3, ce9 103 = some (.inl (zz_cI G, 384, .inl bs3)) ∧ (∀ q, q < u → bs3 (24 * (8 * 1 + t) + q) = bs2 (24 * (8 * 1 + t + 1) + q)) ∧ (∀ q, q < 24 * (8 * 1 + t) ∨ 24 * (8 * 1 + t) + u ≤ q → bs3 q = bs2 q) ∧ (∀ j, j ≠ 103 → ce9 j = ce5 j) ∧ u ≤ 24) 0 ⟨lv_sub hl [1, 2, 3, 4, 0] rfl, ⟨_, h103, fun q hq9 => absurd hq9 (Nat.not_lt_zero _), fun _ _ => rfl, fun _ _ => rfl, Nat.zero_le _⟩⟩ hw hS (fun u ih91 ce9 H locs ls hI hw hS => ?_)
      obtain ⟨hl, bs3, h103, g1, g2, frB, hu⟩ := hI
      have h100 := (frB 100 (by decide)).trans h100
      have h101 := (frB 101 (by decide)).trans h101
      have h102 := (frB 102 (by decide)).trans h102
      have h104 := (frB 104 (by decide)).trans h104
      have h105 := (frB 105 (by decide)).trans h105
      have h106 := (frB 106 (by decide)).trans h106
      have h107 := (frB 107 (by decide)).trans h107
      have h108 := (frB 108 (by decide)).trans h108
      have h109 := (frB 109 (by decide)).trans h109
      have h110 := (frB 110 (by decide)).trans h110
      have h111 := (frB 111 (by decide)).trans h111
      have hF : ∀ j, j < 100 → ce9 j = ce j := fun j hj => (frB j (by omega)).trans (hF j hj)
      refine lv_iload hx hb dX6_take_91 (lv_at hl 4 rfl) ?_
      refine lv_bipush (v := 24) hx hb dX6_take_93 (by decide) ?_
      refine lv_icmp_ge (tgt := 134) hx hb dX6_take_95 (by decide) (fun c95 => ?_) (fun c95 => ?_)
      · have hue : 24 ≤ u := Nat.le_of_not_lt (fun q => absurd c95 (nI_ge (b := 24) q (by omega)))
        refine lv_iinc (v := nI (t + 1)) (lv' := [(3, .int (nI (t + 1))), (0, .ref (ad 100)), (1, .int 1), (2, .int 8), (4, .int (nI u))]) hx hb dX6_take_134 hl (k := 3) rfl (nI_1 t) (by decide) rfl (fun ls hl => ?_)
        refine lv_goto (tgt := 60) hx hb dX6_take_137 (by decide) ?_
        exact ih60 (t + 1) _ _ _ _ (by omega) ⟨lv_sub hl [1, 2, 3, 0] rfl, ⟨_, _, h102, h103, rfS_s hs htl hr8 (fun q hq9 => g1 q (by omega)) (fun q hq9 => g2 q (by omega)), fun j h1 h2 => (frB j h2).trans ((frz j h1).trans (frC j h1 h2)), by omega⟩⟩ hw hS
      · have hul : u < 24 := Nat.lt_of_not_le (fun q => c95 (nI_le q (by omega)))
        refine lv_aload_n hx hb dX6_take_98 rfl (lv_at hl 0 rfl) ?_
        refine z_get F hw h100 fd_X6_20_X6 rfl dX6_take_99 ?_
        refine lv_bipush (v := 24) hx hb dX6_take_102 (by decide) ?_
        refine lv_iload_n hx hb dX6_take_104 rfl (lv_at hl 2 rfl) ?_
        refine lv_iload_n hx hb dX6_take_105 rfl (lv_at hl 3 rfl) ?_
        refine lv_iadd hx hb dX6_take_106 ?_
        refine z_top (nI (8 * 1 + t)) (by rw [show (8 : Int32) = nI (8 * 1) from rfl, nI_add]) ?_
        refine lv_imul hx hb dX6_take_107 ?_
        refine z_top (nI (24 * (8 * 1 + t))) (by rw [show (24 : Int32) = nI 24 from rfl, pk_mul]) ?_
        refine lv_iload hx hb dX6_take_108 (lv_at hl 4 rfl) ?_
        refine lv_iadd hx hb dX6_take_110 ?_
        refine z_top (nI (24 * (8 * 1 + t) + u)) (nI_add _ _) ?_
        refine lv_aload_n hx hb dX6_take_111 rfl (lv_at hl 0 rfl) ?_
        refine z_get F hw h100 fd_X6_20_X6 rfl dX6_take_112 ?_
        refine lv_bipush (v := 24) hx hb dX6_take_115 (by decide) ?_
        refine lv_iload_n hx hb dX6_take_117 rfl (lv_at hl 2 rfl) ?_
        refine lv_iload_n hx hb dX6_take_118 rfl (lv_at hl 3 rfl) ?_
        refine lv_iadd hx hb dX6_take_119 ?_
        refine z_top (nI (8 * 1 + t)) (by rw [show (8 : Int32) = nI (8 * 1) from rfl, nI_add]) ?_
        refine lv_iconst (v := 1) hx hb dX6_take_120 (by decide) ?_
        refine lv_iadd hx hb dX6_take_121 ?_
        refine z_top (nI (8 * 1 + t + 1)) (nI_1 _) ?_
        refine lv_imul hx hb dX6_take_122 ?_
        refine z_top (nI (24 * (8 * 1 + t + 1))) (by rw [show (24 : Int32) = nI 24 from rfl, pk_mul]) ?_
        refine lv_iload hx hb dX6_take_123 (lv_at hl 4 rfl) ?_
        refine lv_iadd hx hb dX6_take_125 ?_
        refine z_top (nI (24 * (8 * 1 + t + 1) + u)) (nI_add _ _) ?_
        refine z_ld F hw h103 (24 * (8 * 1 + t + 1) + u) (rfl) (by omega) (by decide) dX6_take_126 ?_
        refine z_st F hw hS h103 (24 * (8 * 1 + t) + u) (rfl) (by omega) (by decide) dX6_take_127 (fun ce7 H locs h103 fr8 hw hS => ?_)
        have h100 := (fr8 100 (by decide)).trans h100
        have h101 := (fr8 101 (by decide)).trans h101
        have h102 := (fr8 102 (by decide)).trans h102
        have h104 := (fr8 104 (by decide)).trans h104
        have h105 := (fr8 105 (by decide)).trans h105
        have h106 := (fr8 106 (by decide)).trans h106
        have h107 := (fr8 107 (by decide)).trans h107
        have h108 := (fr8 108 (by decide)).trans h108
        have h109 := (fr8 109 (by decide)).trans h109
        have h110 := (fr8 110 (by decide)).trans h110
        have h111 := (fr8 111 (by decide)).trans h111
        have hF : ∀ j, j < 100 → _ = ce j := fun j hj => (fr8 j (by omega)).trans (hF j hj)
        refine lv_iinc (v := nI (u + 1)) (lv' := [(4, .int (nI (u + 1))), (0, .ref (ad 100)), (1, .int 1), (2, .int 8), (3, .int (nI t))]) hx hb dX6_take_128 hl (k := 4) rfl (nI_1 u) (by decide) rfl (fun ls hl => ?_)
        refine lv_goto (tgt := 91) hx hb dX6_take_131 (by decide) ?_
        exact ih91 (u + 1) _ _ _ _ (by omega) ⟨lv_sub hl [1, 2, 3, 4, 0] rfl, ⟨_, h103, fun q hq9 => (if e9 : q = u then (by rw [e9, rf_up_s, g2 _ (by omega)]) else (by rw [rf_up_n _ _ (by omega)]; exact g1 q (by omega))), fun q hq9 => (by rw [rf_up_n _ _ (by omega)]; exact g2 q (by omega)), fun j hj => (fr8 j hj).trans (frB j hj), by omega⟩⟩ hw hS
  · have hil : i < x.length := Nat.lt_of_not_le (fun q => c22 (nI_le q (by omega)))
    refine lv_aload_n hx hb dX6_take_25 rfl (lv_at hl 0 rfl) ?_
    refine z_get F hw h100 fd_X6_48_X6 rfl dX6_take_26 ?_
    refine lv_iload_n hx hb dX6_take_29 rfl (lv_at hl 3 rfl) ?_
    refine lv_aload_n hx hb dX6_take_30 rfl (lv_at hl 0 rfl) ?_
    refine z_get F hw h100 fd_X6_20_X6 rfl dX6_take_31 ?_
    refine lv_bipush (v := 24) hx hb dX6_take_34 (by decide) ?_
    refine lv_iload_n hx hb dX6_take_36 rfl (lv_at hl 2 rfl) ?_
    refine lv_imul hx hb dX6_take_37 ?_
    refine z_top 192 (by decide) ?_
    refine lv_iload_n hx hb dX6_take_38 rfl (lv_at hl 3 rfl) ?_
    refine lv_iadd hx hb dX6_take_39 ?_
    refine z_top (nI (24 * (8 * 1 + 0) + i)) (by rw [show (192 : Int32) = nI (24 * (8 * 1 + 0)) from rfl, nI_add]) ?_
    refine z_ld F hw h103 (24 * (8 * 1 + 0) + i) (rfl) (by omega) (by decide) dX6_take_40 ?_
    refine z_top (nI (x.getD i 0)) ((hxm i hil).1) ?_
    refine z_st F hw hS h111 (i) (rfl) (by omega) (by decide) dX6_take_41 (fun ce9 H locs h111 fr10 hw hS => ?_)
    have h100 := (fr10 100 (by decide)).trans h100
    have h101 := (fr10 101 (by decide)).trans h101
    have h102 := (fr10 102 (by decide)).trans h102
    have h103 := (fr10 103 (by decide)).trans h103
    have h104 := (fr10 104 (by decide)).trans h104
    have h105 := (fr10 105 (by decide)).trans h105
    have h106 := (fr10 106 (by decide)).trans h106
    have h107 := (fr10 107 (by decide)).trans h107
    have h108 := (fr10 108 (by decide)).trans h108
    have h109 := (fr10 109 (by decide)).trans h109
    have h110 := (fr10 110 (by decide)).trans h110
    have hF : ∀ j, j < 100 → _ = ce j := fun j hj => (fr10 j (by omega)).trans (hF j hj)
    refine lv_iinc (v := nI (i + 1)) (lv' := [(3, .int (nI (i + 1))), (0, .ref (ad 100)), (1, .int 1), (2, .int 8)]) hx hb dX6_take_42 hl (k := 3) rfl (nI_1 i) (by decide) rfl (fun ls hl => ?_)
    refine lv_goto (tgt := 17) hx hb dX6_take_45 (by decide) ?_
    exact ih17 (i + 1) _ _ _ _ (by omega) ⟨lv_sub hl [1, 2, 3, 0] rfl, ⟨_, h111, fun j hj => (if q : j = i then (by rw [q, rf_up_s]) else (by rw [rf_up_n _ _ q]; exact hf j (by omega))), fun j hj => (fr10 j hj).trans (frA j hj), by omega⟩⟩ hw hS
end
section
theorem rf_ixv {v : Int32} (h0 : ¬ v < 0) : v = nI v.toNatClampNeg := by
  obtain ⟨j, hj, e⟩ := nI_of h0
  rw [e, nI_clamp hj]
theorem rf_ixl {v : Int32} {n : Nat} (h0 : ¬ v < 0) (h : ¬ nI n ≤ v) : v.toNatClampNeg < n := by
  obtain ⟨j, hj, e⟩ := nI_of h0
  rw [e, nI_clamp hj]
  rw [e] at h
  exact Nat.lt_of_not_le (fun q => h (nI_le q hj))
theorem rf_ixm {v : Int32} {n : Nat} (hn : n < 2 ^ 31) (h0 : ¬ v < 0) (h : v < nI n) : v.toNatClampNeg < n := by
  obtain ⟨j, hj, e⟩ := nI_of h0
  rw [e, nI_clamp hj]
  rw [e] at h
  exact (nI_ltI hj hn).mp h
theorem rf_tab {v : Int32} {n : Nat} (hn : n < 2 ^ 31) (h : ∀ k, k ≤ n → ¬ v = nI k) : v.toInt < 0 ∨ (n : Int) < v.toInt := by
  by_cases h0 : v < 0
  · left
    rw [Int32.lt_iff_toInt_lt, Int32.toInt_zero] at h0
    exact h0
  · right
    obtain ⟨j, hj, e⟩ := nI_of h0
    rw [e, nI_toInt hj]
    have : ¬ j ≤ n := fun q => h j q e
    omega
def sp_digit (T : rf_T) (Q : rf_Q) (M : List Nat) (v : Int32) : rf_R := (if (((T 2) 1) : Int32) ≤ 0 then ((-3), T, Q) else (if (v : Int32) < 0 then ((-3), T, Q) else (if ((T 0 10) : Int32) ≤ v then ((-3), T, Q) else (((T 7) v.toNatClampNeg), T, Q))))
set_option maxHeartbeats 4000000 in
set_option maxRecDepth 100000 in
theorem r_digit (l : Launch) {G : zz_G} {ad : Nat → Nat} {ce : zz_C} {sz : Nat} (T : rf_T) (Q : rf_Q) (M : List Nat) (hV : rfV G ad ce T Q M) (v : Int32) (cc : Nat) (hcc8 : cc ≤ 8) (hcc : T 0 10 = nI cc) : zz_M l yX6_digit cX6_digit 2 (some .int) 0 0 0 0 G [.ref (ad 100), .int v] ad ce sz (fun r ad1 ce1 => r = some (.int (sp_digit T Q M v).1) ∧ ad = ad1 ∧ rfV G ad ce1 (sp_digit T Q M v).2.1 (sp_digit T Q M v).2.2 M ∧ (∀ j, j < 100 → ce1 j = ce j)) := by
  refine zz_enter (by decide) (Nat.le_of_ble_eq_true rfl) ?_
  intro p e s m below meth c ls F hl hw hS hA
  obtain ⟨hx, hb, hr, hml, hown, hts, hlocks, hK, hnm⟩ := id F
  have hl : lv_has ls 2 [(0, .ref (ad 100)), (1, .int v)] := hl
  obtain ⟨cn, zs, bs, hh, ⟨h100, h101, h102, h103, h104, h105, h106, h107, h108, h109, h110, h111⟩, hQ, hM⟩ := hV
  have hF : ∀ j, j < 100 → ce j = ce j := fun _ _ => rfl
  refine lv_aload_n hx hb dX6_digit_0 rfl (lv_at hl 0 rfl) ?_
  refine z_get F hw h100 fd_X6_26_X6 rfl dX6_digit_1 ?_
  refine lv_iconst (v := 1) hx hb dX6_digit_4 (by decide) ?_
  refine z_ld F hw h105 (1) (rfl) (by decide) (by decide) dX6_digit_5 ?_
  refine lv_if_le (tgt := 30) hx hb dX6_digit_6 (by decide) (fun c6 => ?_) (fun c6 => ?_)
  · refine lv_bipush (v := -3) hx hb dX6_digit_30 (by decide) ?_
    exact z_iret F (rfl) hw hS (by unfold sp_digit; rw [if_pos c6]; exact ⟨rfl, rfl, ⟨_, _, _, _, ⟨h100, h101, h102, h103, h104, h105, h106, h107, h108, h109, h110, h111⟩, hQ, hM⟩, hF⟩) dX6_digit_32
  · refine lv_iload_n hx hb dX6_digit_9 rfl (lv_at hl 1 rfl) ?_
    refine lv_if_lt (tgt := 30) hx hb dX6_digit_10 (by decide) (fun c10 => ?_) (fun c10 => ?_)
    · refine lv_bipush (v := -3) hx hb dX6_digit_30 (by decide) ?_
      exact z_iret F (rfl) hw hS (by unfold sp_digit; rw [if_neg c6, if_pos c10]; exact ⟨rfl, rfl, ⟨_, _, _, _, ⟨h100, h101, h102, h103, h104, h105, h106, h107, h108, h109, h110, h111⟩, hQ, hM⟩, hF⟩) dX6_digit_32
    · refine lv_iload_n hx hb dX6_digit_13 rfl (lv_at hl 1 rfl) ?_
      refine lv_aload_n hx hb dX6_digit_14 rfl (lv_at hl 0 rfl) ?_
      refine z_get F hw h100 fd_X6_135_X6 rfl dX6_digit_15 ?_
      refine lv_icmp_ge (tgt := 30) hx hb dX6_digit_18 (by decide) (fun c18 => ?_) (fun c18 => ?_)
      · refine lv_bipush (v := -3) hx hb dX6_digit_30 (by decide) ?_
        exact z_iret F (rfl) hw hS (by unfold sp_digit; rw [if_neg c6, if_neg c10, if_pos c18]; exact ⟨rfl, rfl, ⟨_, _, _, _, ⟨h100, h101, h102, h103, h104, h105, h106, h107, h108, h109, h110, h111⟩, hQ, hM⟩, hF⟩) dX6_digit_32
      · refine lv_aload_n hx hb dX6_digit_21 rfl (lv_at hl 0 rfl) ?_
        refine z_get F hw h100 fd_X6_45_X6 rfl dX6_digit_22 ?_
        refine lv_iload_n hx hb dX6_digit_25 rfl (lv_at hl 1 rfl) ?_
        refine z_ld F hw h110 (v.toNatClampNeg) (rf_ixv c10) (by have h9 := rf_ixl c10 (by rw [← hcc]; exact c18); omega) (by decide) dX6_digit_26 ?_
        refine lv_goto (tgt := 32) hx hb dX6_digit_27 (by decide) ?_
        exact z_iret F (rfl) hw hS (by unfold sp_digit; rw [if_neg c6, if_neg c10, if_neg c18]; exact ⟨rfl, rfl, ⟨_, _, _, _, ⟨h100, h101, h102, h103, h104, h105, h106, h107, h108, h109, h110, h111⟩, hQ, hM⟩, hF⟩) dX6_digit_32
def sp_told (T : rf_T) (Q : rf_Q) (M : List Nat) (v : Int32) : rf_R := (if (v : Int32) = 0 then (((T 1) 0), T, Q) else (if (v : Int32) = 1 then (((T 2) 0), T, Q) else (if (v : Int32) = 2 then (((T 3) 0), T, Q) else (if (v : Int32) = 3 then ((T 0 6), T, Q) else (if (v : Int32) = 4 then (((T 1) 1), T, Q) else (if (v : Int32) = 5 then (((T 2) 1), T, Q) else (if (v : Int32) = 6 then (((T 3) 1), T, Q) else (if (v : Int32) = 7 then ((T 0 7), T, Q) else (if (v : Int32) = 8 then ((nI (Q 0).length), T, Q) else (if (v : Int32) = 9 then ((nI (Q 1).length), T, Q) else (if (v : Int32) = 10 then ((T 0 5), T, Q) else (if (v : Int32) = 11 then (if ((T 0 4) : Int32) = 0 then (1, T, Q) else (0, T, Q)) else (if (v : Int32) = 12 then (((T 5) 0), T, Q) else (if (v : Int32) = 13 then (((T 5) 1), T, Q) else ((-1), T, Q)))))))))))))))
set_option maxHeartbeats 4000000 in
set_option maxRecDepth 100000 in
theorem r_told (l : Launch) {G : zz_G} {ad : Nat → Nat} {ce : zz_C} {sz : Nat} (T : rf_T) (Q : rf_Q) (M : List Nat) (hV : rfV G ad ce T Q M) (v : Int32) : zz_M l yX6_told cX6_told 2 (some .int) 0 0 0 0 G [.ref (ad 100), .int v] ad ce sz (fun r ad1 ce1 => r = some (.int (sp_told T Q M v).1) ∧ ad = ad1 ∧ rfV G ad ce1 (sp_told T Q M v).2.1 (sp_told T Q M v).2.2 M ∧ (∀ j, j < 100 → ce1 j = ce j)) := by
  refine zz_enter (by decide) (Nat.le_of_ble_eq_true rfl) ?_
  intro p e s m below meth c ls F hl hw hS hA
  obtain ⟨hx, hb, hr, hml, hown, hts, hlocks, hK, hnm⟩ := id F
  have hl : lv_has ls 2 [(0, .ref (ad 100)), (1, .int v)] := hl
  obtain ⟨cn, zs, bs, hh, ⟨h100, h101, h102, h103, h104, h105, h106, h107, h108, h109, h110, h111⟩, hQ, hM⟩ := hV
  have hF : ∀ j, j < 100 → ce j = ce j := fun _ _ => rfl
  refine lv_iload_n hx hb dX6_told_0 rfl (lv_at hl 1 rfl) ?_
  by_cases h1_0 : (v : Int32) = 0
  · refine lv_tableIn (tgt := 72) (off := 71) hx hb dX6_told_1 (by rw [h1_0]; decide) (by rw [h1_0]; decide) (by rw [h1_0]; rfl) (by decide) ?_
    refine lv_aload_n hx hb dX6_told_72 rfl (lv_at hl 0 rfl) ?_
    refine z_get F hw h100 fd_X6_23_X6 rfl dX6_told_73 ?_
    refine lv_iconst (v := 0) hx hb dX6_told_76 (by decide) ?_
    refine z_ld F hw h104 (0) (rfl) (by decide) (by decide) dX6_told_77 ?_
    exact z_iret F (rfl) hw hS (by unfold sp_told; rw [if_pos h1_0]; exact ⟨rfl, rfl, ⟨_, _, _, _, ⟨h100, h101, h102, h103, h104, h105, h106, h107, h108, h109, h110, h111⟩, hQ, hM⟩, hF⟩) dX6_told_78
  by_cases h1_1 : (v : Int32) = 1
  · refine lv_tableIn (tgt := 79) (off := 78) hx hb dX6_told_1 (by rw [h1_1]; decide) (by rw [h1_1]; decide) (by rw [h1_1]; rfl) (by decide) ?_
    refine lv_aload_n hx hb dX6_told_79 rfl (lv_at hl 0 rfl) ?_
    refine z_get F hw h100 fd_X6_26_X6 rfl dX6_told_80 ?_
    refine lv_iconst (v := 0) hx hb dX6_told_83 (by decide) ?_
    refine z_ld F hw h105 (0) (rfl) (by decide) (by decide) dX6_told_84 ?_
    exact z_iret F (rfl) hw hS (by unfold sp_told; rw [if_neg h1_0, if_pos h1_1]; exact ⟨rfl, rfl, ⟨_, _, _, _, ⟨h100, h101, h102, h103, h104, h105, h106, h107, h108, h109, h110, h111⟩, hQ, hM⟩, hF⟩) dX6_told_85
  by_cases h1_2 : (v : Int32) = 2
  · refine lv_tableIn (tgt := 86) (off := 85) hx hb dX6_told_1 (by rw [h1_2]; decide) (by rw [h1_2]; decide) (by rw [h1_2]; rfl) (by decide) ?_
    refine lv_aload_n hx hb dX6_told_86 rfl (lv_at hl 0 rfl) ?_
    refine z_get F hw h100 fd_X6_29_X6 rfl dX6_told_87 ?_
    refine lv_iconst (v := 0) hx hb dX6_told_90 (by decide) ?_
    refine z_ld F hw h106 (0) (rfl) (by decide) (by decide) dX6_told_91 ?_
    exact z_iret F (rfl) hw hS (by unfold sp_told; rw [if_neg h1_0, if_neg h1_1, if_pos h1_2]; exact ⟨rfl, rfl, ⟨_, _, _, _, ⟨h100, h101, h102, h103, h104, h105, h106, h107, h108, h109, h110, h111⟩, hQ, hM⟩, hF⟩) dX6_told_92
  by_cases h1_3 : (v : Int32) = 3
  · refine lv_tableIn (tgt := 93) (off := 92) hx hb dX6_told_1 (by rw [h1_3]; decide) (by rw [h1_3]; decide) (by rw [h1_3]; rfl) (by decide) ?_
    refine lv_aload_n hx hb dX6_told_93 rfl (lv_at hl 0 rfl) ?_
    refine z_get F hw h100 fd_X6_105_X6 rfl dX6_told_94 ?_
    exact z_iret F (rfl) hw hS (by unfold sp_told; rw [if_neg h1_0, if_neg h1_1, if_neg h1_2, if_pos h1_3]; exact ⟨rfl, rfl, ⟨_, _, _, _, ⟨h100, h101, h102, h103, h104, h105, h106, h107, h108, h109, h110, h111⟩, hQ, hM⟩, hF⟩) dX6_told_97
  by_cases h1_4 : (v : Int32) = 4
  · refine lv_tableIn (tgt := 98) (off := 97) hx hb dX6_told_1 (by rw [h1_4]; decide) (by rw [h1_4]; decide) (by rw [h1_4]; rfl) (by decide) ?_
    refine lv_aload_n hx hb dX6_told_98 rfl (lv_at hl 0 rfl) ?_
    refine z_get F hw h100 fd_X6_23_X6 rfl dX6_told_99 ?_
    refine lv_iconst (v := 1) hx hb dX6_told_102 (by decide) ?_
    refine z_ld F hw h104 (1) (rfl) (by decide) (by decide) dX6_told_103 ?_
    exact z_iret F (rfl) hw hS (by unfold sp_told; rw [if_neg h1_0, if_neg h1_1, if_neg h1_2, if_neg h1_3, if_pos h1_4]; exact ⟨rfl, rfl, ⟨_, _, _, _, ⟨h100, h101, h102, h103, h104, h105, h106, h107, h108, h109, h110, h111⟩, hQ, hM⟩, hF⟩) dX6_told_104
  by_cases h1_5 : (v : Int32) = 5
  · refine lv_tableIn (tgt := 105) (off := 104) hx hb dX6_told_1 (by rw [h1_5]; decide) (by rw [h1_5]; decide) (by rw [h1_5]; rfl) (by decide) ?_
    refine lv_aload_n hx hb dX6_told_105 rfl (lv_at hl 0 rfl) ?_
    refine z_get F hw h100 fd_X6_26_X6 rfl dX6_told_106 ?_
    refine lv_iconst (v := 1) hx hb dX6_told_109 (by decide) ?_
    refine z_ld F hw h105 (1) (rfl) (by decide) (by decide) dX6_told_110 ?_
    exact z_iret F (rfl) hw hS (by unfold sp_told; rw [if_neg h1_0, if_neg h1_1, if_neg h1_2, if_neg h1_3, if_neg h1_4, if_pos h1_5]; exact ⟨rfl, rfl, ⟨_, _, _, _, ⟨h100, h101, h102, h103, h104, h105, h106, h107, h108, h109, h110, h111⟩, hQ, hM⟩, hF⟩) dX6_told_111
  by_cases h1_6 : (v : Int32) = 6
  · refine lv_tableIn (tgt := 112) (off := 111) hx hb dX6_told_1 (by rw [h1_6]; decide) (by rw [h1_6]; decide) (by rw [h1_6]; rfl) (by decide) ?_
    refine lv_aload_n hx hb dX6_told_112 rfl (lv_at hl 0 rfl) ?_
    refine z_get F hw h100 fd_X6_29_X6 rfl dX6_told_113 ?_
    refine lv_iconst (v := 1) hx hb dX6_told_116 (by decide) ?_
    refine z_ld F hw h106 (1) (rfl) (by decide) (by decide) dX6_told_117 ?_
    exact z_iret F (rfl) hw hS (by unfold sp_told; rw [if_neg h1_0, if_neg h1_1, if_neg h1_2, if_neg h1_3, if_neg h1_4, if_neg h1_5, if_pos h1_6]; exact ⟨rfl, rfl, ⟨_, _, _, _, ⟨h100, h101, h102, h103, h104, h105, h106, h107, h108, h109, h110, h111⟩, hQ, hM⟩, hF⟩) dX6_told_118
  by_cases h1_7 : (v : Int32) = 7
  · refine lv_tableIn (tgt := 119) (off := 118) hx hb dX6_told_1 (by rw [h1_7]; decide) (by rw [h1_7]; decide) (by rw [h1_7]; rfl) (by decide) ?_
    refine lv_aload_n hx hb dX6_told_119 rfl (lv_at hl 0 rfl) ?_
    refine z_get F hw h100 fd_X6_39_X6 rfl dX6_told_120 ?_
    exact z_iret F (rfl) hw hS (by unfold sp_told; rw [if_neg h1_0, if_neg h1_1, if_neg h1_2, if_neg h1_3, if_neg h1_4, if_neg h1_5, if_neg h1_6, if_pos h1_7]; exact ⟨rfl, rfl, ⟨_, _, _, _, ⟨h100, h101, h102, h103, h104, h105, h106, h107, h108, h109, h110, h111⟩, hQ, hM⟩, hF⟩) dX6_told_123
  by_cases h1_8 : (v : Int32) = 8
  · refine lv_tableIn (tgt := 124) (off := 123) hx hb dX6_told_1 (by rw [h1_8]; decide) (by rw [h1_8]; decide) (by rw [h1_8]; rfl) (by decide) ?_
    refine lv_aload_n hx hb dX6_told_124 rfl (lv_at hl 0 rfl) ?_
    refine z_get F hw h100 fd_X6_13_X6 rfl dX6_told_125 ?_
    refine lv_iconst (v := 0) hx hb dX6_told_128 (by decide) ?_
    refine z_ld F hw h101 (0) (rfl) (by decide) (by decide) dX6_told_129 ?_
    refine z_top (nI (Q 0).length) ((hQ 0 (by decide)).2.1) ?_
    exact z_iret F (rfl) hw hS (by unfold sp_told; rw [if_neg h1_0, if_neg h1_1, if_neg h1_2, if_neg h1_3, if_neg h1_4, if_neg h1_5, if_neg h1_6, if_neg h1_7, if_pos h1_8]; exact ⟨rfl, rfl, ⟨_, _, _, _, ⟨h100, h101, h102, h103, h104, h105, h106, h107, h108, h109, h110, h111⟩, hQ, hM⟩, hF⟩) dX6_told_130
  by_cases h1_9 : (v : Int32) = 9
  · refine lv_tableIn (tgt := 131) (off := 130) hx hb dX6_told_1 (by rw [h1_9]; decide) (by rw [h1_9]; decide) (by rw [h1_9]; rfl) (by decide) ?_
    refine lv_aload_n hx hb dX6_told_131 rfl (lv_at hl 0 rfl) ?_
    refine z_get F hw h100 fd_X6_13_X6 rfl dX6_told_132 ?_
    refine lv_iconst (v := 1) hx hb dX6_told_135 (by decide) ?_
    refine z_ld F hw h101 (1) (rfl) (by decide) (by decide) dX6_told_136 ?_
    refine z_top (nI (Q 1).length) ((hQ 1 (by decide)).2.1) ?_
    exact z_iret F (rfl) hw hS (by unfold sp_told; rw [if_neg h1_0, if_neg h1_1, if_neg h1_2, if_neg h1_3, if_neg h1_4, if_neg h1_5, if_neg h1_6, if_neg h1_7, if_neg h1_8, if_pos h1_9]; exact ⟨rfl, rfl, ⟨_, _, _, _, ⟨h100, h101, h102, h103, h104, h105, h106, h107, h108, h109, h110, h111⟩, hQ, hM⟩, hF⟩) dX6_told_137
  by_cases h1_10 : (v : Int32) = 10
  · refine lv_tableIn (tgt := 138) (off := 137) hx hb dX6_told_1 (by rw [h1_10]; decide) (by rw [h1_10]; decide) (by rw [h1_10]; rfl) (by decide) ?_
    refine lv_aload_n hx hb dX6_told_138 rfl (lv_at hl 0 rfl) ?_
    refine z_get F hw h100 fd_X6_168_X6 rfl dX6_told_139 ?_
    exact z_iret F (rfl) hw hS (by unfold sp_told; rw [if_neg h1_0, if_neg h1_1, if_neg h1_2, if_neg h1_3, if_neg h1_4, if_neg h1_5, if_neg h1_6, if_neg h1_7, if_neg h1_8, if_neg h1_9, if_pos h1_10]; exact ⟨rfl, rfl, ⟨_, _, _, _, ⟨h100, h101, h102, h103, h104, h105, h106, h107, h108, h109, h110, h111⟩, hQ, hM⟩, hF⟩) dX6_told_142
  by_cases h1_11 : (v : Int32) = 11
  · refine lv_tableIn (tgt := 143) (off := 142) hx hb dX6_told_1 (by rw [h1_11]; decide) (by rw [h1_11]; decide) (by rw [h1_11]; rfl) (by decide) ?_
    refine lv_aload_n hx hb dX6_told_143 rfl (lv_at hl 0 rfl) ?_
    refine z_get F hw h100 fd_X6_60_X6 rfl dX6_told_144 ?_
    refine lv_if_eq (tgt := 154) hx hb dX6_told_147 (by decide) (fun c147 => ?_) (fun c147 => ?_)
    · refine lv_iconst (v := 1) hx hb dX6_told_154 (by decide) ?_
      exact z_iret F (rfl) hw hS (by unfold sp_told; rw [if_neg h1_0, if_neg h1_1, if_neg h1_2, if_neg h1_3, if_neg h1_4, if_neg h1_5, if_neg h1_6, if_neg h1_7, if_neg h1_8, if_neg h1_9, if_neg h1_10, if_pos h1_11, if_pos c147]; exact ⟨rfl, rfl, ⟨_, _, _, _, ⟨h100, h101, h102, h103, h104, h105, h106, h107, h108, h109, h110, h111⟩, hQ, hM⟩, hF⟩) dX6_told_155
    · refine lv_iconst (v := 0) hx hb dX6_told_150 (by decide) ?_
      refine lv_goto (tgt := 155) hx hb dX6_told_151 (by decide) ?_
      exact z_iret F (rfl) hw hS (by unfold sp_told; rw [if_neg h1_0, if_neg h1_1, if_neg h1_2, if_neg h1_3, if_neg h1_4, if_neg h1_5, if_neg h1_6, if_neg h1_7, if_neg h1_8, if_neg h1_9, if_neg h1_10, if_pos h1_11, if_neg c147]; exact ⟨rfl, rfl, ⟨_, _, _, _, ⟨h100, h101, h102, h103, h104, h105, h106, h107, h108, h109, h110, h111⟩, hQ, hM⟩, hF⟩) dX6_told_155
  by_cases h1_12 : (v : Int32) = 12
  · refine lv_tableIn (tgt := 156) (off := 155) hx hb dX6_told_1 (by rw [h1_12]; decide) (by rw [h1_12]; decide) (by rw [h1_12]; rfl) (by decide) ?_
    refine lv_aload_n hx hb dX6_told_156 rfl (lv_at hl 0 rfl) ?_
    refine z_get F hw h100 fd_X6_36_X6 rfl dX6_told_157 ?_
    refine lv_iconst (v := 0) hx hb dX6_told_160 (by decide) ?_
    refine z_ld F hw h108 (0) (rfl) (by decide) (by decide) dX6_told_161 ?_
    exact z_iret F (rfl) hw hS (by unfold sp_told; rw [if_neg h1_0, if_neg h1_1, if_neg h1_2, if_neg h1_3, if_neg h1_4, if_neg h1_5, if_neg h1_6, if_neg h1_7, if_neg h1_8, if_neg h1_9, if_neg h1_10, if_neg h1_11, if_pos h1_12]; exact ⟨rfl, rfl, ⟨_, _, _, _, ⟨h100, h101, h102, h103, h104, h105, h106, h107, h108, h109, h110, h111⟩, hQ, hM⟩, hF⟩) dX6_told_162
  by_cases h1_13 : (v : Int32) = 13
  · refine lv_tableIn (tgt := 163) (off := 162) hx hb dX6_told_1 (by rw [h1_13]; decide) (by rw [h1_13]; decide) (by rw [h1_13]; rfl) (by decide) ?_
    refine lv_aload_n hx hb dX6_told_163 rfl (lv_at hl 0 rfl) ?_
    refine z_get F hw h100 fd_X6_36_X6 rfl dX6_told_164 ?_
    refine lv_iconst (v := 1) hx hb dX6_told_167 (by decide) ?_
    refine z_ld F hw h108 (1) (rfl) (by decide) (by decide) dX6_told_168 ?_
    exact z_iret F (rfl) hw hS (by unfold sp_told; rw [if_neg h1_0, if_neg h1_1, if_neg h1_2, if_neg h1_3, if_neg h1_4, if_neg h1_5, if_neg h1_6, if_neg h1_7, if_neg h1_8, if_neg h1_9, if_neg h1_10, if_neg h1_11, if_neg h1_12, if_pos h1_13]; exact ⟨rfl, rfl, ⟨_, _, _, _, ⟨h100, h101, h102, h103, h104, h105, h106, h107, h108, h109, h110, h111⟩, hQ, hM⟩, hF⟩) dX6_told_169
  refine lv_tableOut (tgt := 170) hx hb dX6_told_1 (rf_tab (n := 13) (by decide) (fun k9 hk9 => by rcases (show k9 = 0 ∨ k9 = 1 ∨ k9 = 2 ∨ k9 = 3 ∨ k9 = 4 ∨ k9 = 5 ∨ k9 = 6 ∨ k9 = 7 ∨ k9 = 8 ∨ k9 = 9 ∨ k9 = 10 ∨ k9 = 11 ∨ k9 = 12 ∨ k9 = 13 by omega) with rfl | rfl | rfl | rfl | rfl | rfl | rfl | rfl | rfl | rfl | rfl | rfl | rfl | rfl <;> first | exact h1_0 | exact h1_1 | exact h1_2 | exact h1_3 | exact h1_4 | exact h1_5 | exact h1_6 | exact h1_7 | exact h1_8 | exact h1_9 | exact h1_10 | exact h1_11 | exact h1_12 | exact h1_13)) (by decide) ?_
  refine lv_iconst (v := -1) hx hb dX6_told_170 (by decide) ?_
  exact z_iret F (rfl) hw hS (by unfold sp_told; rw [if_neg h1_0, if_neg h1_1, if_neg h1_2, if_neg h1_3, if_neg h1_4, if_neg h1_5, if_neg h1_6, if_neg h1_7, if_neg h1_8, if_neg h1_9, if_neg h1_10, if_neg h1_11, if_neg h1_12, if_neg h1_13]; exact ⟨rfl, rfl, ⟨_, _, _, _, ⟨h100, h101, h102, h103, h104, h105, h106, h107, h108, h109, h110, h111⟩, hQ, hM⟩, hF⟩) dX6_told_171
def sp_byteOf0 (T : rf_T) (Q : rf_Q) (M : List Nat) (kv iv0 : Int32) : rf_R := (if (kv : Int32) < 0 then ((-3), T, Q) else (if (kv : Int32) < (nI (Q 0).length) then (if (iv0 : Int32) < 0 then ((-3), T, Q) else (if ((nI ((Q 0).getD kv.toNatClampNeg []).length) : Int32) ≤ iv0 then ((-3), T, Q) else ((nI (((Q 0).getD kv.toNatClampNeg []).getD iv0.toNatClampNeg 0)), T, Q))) else ((-3), T, Q)))
set_option maxHeartbeats 4000000 in
set_option maxRecDepth 100000 in
theorem r_byteOf0 (l : Launch) {G : zz_G} {ad : Nat → Nat} {ce : zz_C} {sz : Nat} (T : rf_T) (Q : rf_Q) (M : List Nat) (hV : rfV G ad ce T Q M) (kv iv0 : Int32) : zz_M l yX6_byteOf cX6_byteOf 5 (some .int) 1 20 0 0 G [.ref (ad 100), .int 0, .int kv, .int iv0] ad ce sz (fun r ad1 ce1 => r = some (.int (sp_byteOf0 T Q M kv iv0).1) ∧ ad = ad1 ∧ rfV G ad ce1 (sp_byteOf0 T Q M kv iv0).2.1 (sp_byteOf0 T Q M kv iv0).2.2 M ∧ (∀ j, j < 100 → ce1 j = ce j)) := by
  refine zz_enter (by decide) (Nat.le_of_ble_eq_true rfl) ?_
  intro p e s m below meth c ls F hl hw hS hA
  obtain ⟨hx, hb, hr, hml, hown, hts, hlocks, hK, hnm⟩ := id F
  have hl : lv_has ls 5 [(0, .ref (ad 100)), (1, .int 0), (2, .int kv), (3, .int iv0)] := hl
  obtain ⟨cn, zs, bs, hh, ⟨h100, h101, h102, h103, h104, h105, h106, h107, h108, h109, h110, h111⟩, hQ, hM⟩ := hV
  have hF : ∀ j, j < 100 → ce j = ce j := fun _ _ => rfl
  refine lv_iload_n hx hb dX6_byteOf_0 rfl (lv_at hl 1 rfl) ?_
  refine z_invS F (rest := []) (r_isWay l 0) ys_X6_145 ⟨Nat.le_of_ble_eq_true rfl, Nat.le_of_ble_eq_true rfl⟩ hw hA hS hl rfl rfl (Nat.le_of_ble_eq_true rfl) dX6_byteOf_1 ⟨Nat.le_of_ble_eq_true rfl, Nat.le_of_ble_eq_true rfl⟩ (fun r ad1 ce1 H locs hp hw hS => ?_)
  obtain ⟨hp, rfl, rfl⟩ := hp
  rcases hp with ⟨-, rfl⟩ | ⟨hn9, rfl⟩
  rotate_left
  · exact absurd (Or.inl rfl) hn9
  refine W.eq (g2 := F0 m 4 ls [.int 1]) rfl ?_
  refine lv_if_eq (tgt := 21) hx hb dX6_byteOf_4 (by decide) (fun c4 => absurd c4 (by decide)) (fun c4 => ?_)
  refine lv_iload_n hx hb dX6_byteOf_7 rfl (lv_at hl 2 rfl) ?_
  refine lv_if_lt (tgt := 21) hx hb dX6_byteOf_8 (by decide) (fun c8 => ?_) (fun c8 => ?_)
  · refine lv_bipush (v := -3) hx hb dX6_byteOf_21 (by decide) ?_
    exact z_iret F (rfl) hw hS (by unfold sp_byteOf0; rw [if_pos c8]; exact ⟨rfl, rfl, ⟨_, _, _, _, ⟨h100, h101, h102, h103, h104, h105, h106, h107, h108, h109, h110, h111⟩, hQ, hM⟩, hF⟩) dX6_byteOf_23
  · refine lv_iload_n hx hb dX6_byteOf_11 rfl (lv_at hl 2 rfl) ?_
    refine lv_aload_n hx hb dX6_byteOf_12 rfl (lv_at hl 0 rfl) ?_
    refine z_get F hw h100 fd_X6_13_X6 rfl dX6_byteOf_13 ?_
    refine lv_iload_n hx hb dX6_byteOf_16 rfl (lv_at hl 1 rfl) ?_
    refine z_ld F hw h101 (0) (rfl) (by decide) (by decide) dX6_byteOf_17 ?_
    refine z_top (nI (Q 0).length) ((hQ 0 (by decide)).2.1) ?_
    refine lv_icmp_lt (tgt := 24) hx hb dX6_byteOf_18 (by decide) (fun c18 => ?_) (fun c18 => ?_)
    · have hk8 := (hQ 0 (by decide)).1
      have hkl : kv.toNatClampNeg < (Q 0).length := rf_ixm (by omega) c8 c18
      obtain ⟨hm2, hm24, hmz, hmm⟩ := (hQ 0 (by decide)).2.2 kv.toNatClampNeg hkl
      have hmz : zs (0 + kv.toNatClampNeg) = nI ((Q 0).getD kv.toNatClampNeg []).length := hmz
      have hmm : ∀ i, i < ((Q 0).getD kv.toNatClampNeg []).length → bs (24 * (0 + kv.toNatClampNeg) + i) = nI (((Q 0).getD kv.toNatClampNeg []).getD i 0) ∧ ((Q 0).getD kv.toNatClampNeg []).getD i 0 < 256 := hmm
      refine lv_bipush (v := 8) hx hb dX6_byteOf_24 (by decide) ?_
      refine lv_iload_n hx hb dX6_byteOf_26 rfl (lv_at hl 1 rfl) ?_
      refine lv_imul hx hb dX6_byteOf_27 ?_
      refine z_top 0 (by decide) ?_
      refine lv_iload_n hx hb dX6_byteOf_28 rfl (lv_at hl 2 rfl) ?_
      refine lv_iadd hx hb dX6_byteOf_29 ?_
      refine z_top (nI (0 + kv.toNatClampNeg)) ((congrArg (fun z => (0 : Int32) + z) (rf_ixv c8)).trans (nI_add 0 _)) ?_
      refine lv_istore (lv' := [(4, .int (nI (0 + kv.toNatClampNeg))), (0, .ref (ad 100)), (1, .int 0), (2, .int kv), (3, .int iv0)]) hx hb dX6_byteOf_30 hl (by decide) rfl (fun ls hl => ?_)
      refine lv_iload_n hx hb dX6_byteOf_32 rfl (lv_at hl 4 rfl) ?_
      refine lv_if_lt (tgt := 62) hx hb dX6_byteOf_33 (by decide) (fun c33 => ?_) (fun c33 => ?_)
      · refine lv_bipush (v := -3) hx hb dX6_byteOf_62 (by decide) ?_
        exact z_iret F (rfl) hw hS (by unfold sp_byteOf0; rw [if_neg c8, if_pos c18, if_pos c33]; exact ⟨rfl, rfl, ⟨_, _, _, _, ⟨h100, h101, h102, h103, h104, h105, h106, h107, h108, h109, h110, h111⟩, hQ, hM⟩, hF⟩) dX6_byteOf_64
      · refine lv_iload_n hx hb dX6_byteOf_36 rfl (lv_at hl 4 rfl) ?_
        refine lv_aload_n hx hb dX6_byteOf_37 rfl (lv_at hl 1 rfl) ?_
        refine z_get F hw h100 fd_X6_17_X6 rfl dX6_byteOf_38 ?_
        refine lv_iload hx hb dX6_byteOf_41 (lv_at hl 0 rfl) ?_
        refine z_ld F hw h102 (0 + kv.toNatClampNeg) (rfl) (by omega) (by decide) dX6_byteOf_43 ?_
        refine z_top (nI ((Q 0).getD kv.toNatClampNeg []).length) (hmz) ?_
        refine lv_icmp_ge (tgt := 62) hx hb dX6_byteOf_44 (by decide) (fun c44 => ?_) (fun c44 => ?_)
        · refine lv_bipush (v := -3) hx hb dX6_byteOf_62 (by decide) ?_
          exact z_iret F (rfl) hw hS (by unfold sp_byteOf0; rw [if_neg c8, if_pos c18, if_neg c33, if_pos c44]; exact ⟨rfl, rfl, ⟨_, _, _, _, ⟨h100, h101, h102, h103, h104, h105, h106, h107, h108, h109, h110, h111⟩, hQ, hM⟩, hF⟩) dX6_byteOf_64
        · refine lv_aload_n hx hb dX6_byteOf_47 rfl (lv_at hl 1 rfl) ?_
          refine z_get F hw h100 fd_X6_20_X6 rfl dX6_byteOf_48 ?_
          refine lv_bipush (v := 24) hx hb dX6_byteOf_51 (by decide) ?_
          refine lv_iload hx hb dX6_byteOf_53 (lv_at hl 0 rfl) ?_
          refine lv_imul hx hb dX6_byteOf_55 ?_
          refine z_top (nI (24 * (0 + kv.toNatClampNeg))) (by rw [show (24 : Int32) = nI 24 from rfl, pk_mul]) ?_
          refine lv_iload_n hx hb dX6_byteOf_56 rfl (lv_at hl 4 rfl) ?_
          refine lv_iadd hx hb dX6_byteOf_57 ?_
          refine z_top (nI (24 * (0 + kv.toNatClampNeg) + iv0.toNatClampNeg)) ((congrArg (fun z => nI (24 * (0 + kv.toNatClampNeg)) + z) (rf_ixv c33)).trans (nI_add _ _)) ?_
          refine z_ld F hw h103 (24 * (0 + kv.toNatClampNeg) + iv0.toNatClampNeg) (rfl) (by have h9 := rf_ixl c33 c44; omega) (by decide) dX6_byteOf_58 ?_
          refine z_top (nI (((Q 0).getD kv.toNatClampNeg []).getD iv0.toNatClampNeg 0)) ((hmm iv0.toNatClampNeg (rf_ixl c33 c44)).1) ?_
          refine lv_goto (tgt := 64) hx hb dX6_byteOf_59 (by decide) ?_
          exact z_iret F (rfl) hw hS (by unfold sp_byteOf0; rw [if_neg c8, if_pos c18, if_neg c33, if_neg c44]; exact ⟨rfl, rfl, ⟨_, _, _, _, ⟨h100, h101, h102, h103, h104, h105, h106, h107, h108, h109, h110, h111⟩, hQ, hM⟩, hF⟩) dX6_byteOf_64
    · refine lv_bipush (v := -3) hx hb dX6_byteOf_21 (by decide) ?_
      exact z_iret F (rfl) hw hS (by unfold sp_byteOf0; rw [if_neg c8, if_neg c18]; exact ⟨rfl, rfl, ⟨_, _, _, _, ⟨h100, h101, h102, h103, h104, h105, h106, h107, h108, h109, h110, h111⟩, hQ, hM⟩, hF⟩) dX6_byteOf_23
def sp_byteOf1 (T : rf_T) (Q : rf_Q) (M : List Nat) (kv iv0 : Int32) : rf_R := (if (kv : Int32) < 0 then ((-3), T, Q) else (if (kv : Int32) < (nI (Q 1).length) then (if (iv0 : Int32) < 0 then ((-3), T, Q) else (if ((nI ((Q 1).getD kv.toNatClampNeg []).length) : Int32) ≤ iv0 then ((-3), T, Q) else ((nI (((Q 1).getD kv.toNatClampNeg []).getD iv0.toNatClampNeg 0)), T, Q))) else ((-3), T, Q)))
set_option maxHeartbeats 4000000 in
set_option maxRecDepth 100000 in
theorem r_byteOf1 (l : Launch) {G : zz_G} {ad : Nat → Nat} {ce : zz_C} {sz : Nat} (T : rf_T) (Q : rf_Q) (M : List Nat) (hV : rfV G ad ce T Q M) (kv iv0 : Int32) : zz_M l yX6_byteOf cX6_byteOf 5 (some .int) 1 20 0 0 G [.ref (ad 100), .int 1, .int kv, .int iv0] ad ce sz (fun r ad1 ce1 => r = some (.int (sp_byteOf1 T Q M kv iv0).1) ∧ ad = ad1 ∧ rfV G ad ce1 (sp_byteOf1 T Q M kv iv0).2.1 (sp_byteOf1 T Q M kv iv0).2.2 M ∧ (∀ j, j < 100 → ce1 j = ce j)) := by
  refine zz_enter (by decide) (Nat.le_of_ble_eq_true rfl) ?_
  intro p e s m below meth c ls F hl hw hS hA
  obtain ⟨hx, hb, hr, hml, hown, hts, hlocks, hK, hnm⟩ := id F
  have hl : lv_has ls 5 [(0, .ref (ad 100)), (1, .int 1), (2, .int kv), (3, .int iv0)] := hl
  obtain ⟨cn, zs, bs, hh, ⟨h100, h101, h102, h103, h104, h105, h106, h107, h108, h109, h110, h111⟩, hQ, hM⟩ := hV
  have hF : ∀ j, j < 100 → ce j = ce j := fun _ _ => rfl
  refine lv_iload_n hx hb dX6_byteOf_0 rfl (lv_at hl 1 rfl) ?_
  refine z_invS F (rest := []) (r_isWay l 1) ys_X6_145 ⟨Nat.le_of_ble_eq_true rfl, Nat.le_of_ble_eq_true rfl⟩ hw hA hS hl rfl rfl (Nat.le_of_ble_eq_true rfl) dX6_byteOf_1 ⟨Nat.le_of_ble_eq_true rfl, Nat.le_of_ble_eq_true rfl⟩ (fun r ad1 ce1 H locs hp hw hS => ?_)
  obtain ⟨hp, rfl, rfl⟩ := hp
  rcases hp with ⟨-, rfl⟩ | ⟨hn9, rfl⟩
  rotate_left
  · exact absurd (Or.inr rfl) hn9
  refine W.eq (g2 := F0 m 4 ls [.int 1]) rfl ?_
  refine lv_if_eq (tgt := 21) hx hb dX6_byteOf_4 (by decide) (fun c4 => absurd c4 (by decide)) (fun c4 => ?_)
  refine lv_iload_n hx hb dX6_byteOf_7 rfl (lv_at hl 2 rfl) ?_
  refine lv_if_lt (tgt := 21) hx hb dX6_byteOf_8 (by decide) (fun c8 => ?_) (fun c8 => ?_)
  · refine lv_bipush (v := -3) hx hb dX6_byteOf_21 (by decide) ?_
    exact z_iret F (rfl) hw hS (by unfold sp_byteOf1; rw [if_pos c8]; exact ⟨rfl, rfl, ⟨_, _, _, _, ⟨h100, h101, h102, h103, h104, h105, h106, h107, h108, h109, h110, h111⟩, hQ, hM⟩, hF⟩) dX6_byteOf_23
  · refine lv_iload_n hx hb dX6_byteOf_11 rfl (lv_at hl 2 rfl) ?_
    refine lv_aload_n hx hb dX6_byteOf_12 rfl (lv_at hl 0 rfl) ?_
    refine z_get F hw h100 fd_X6_13_X6 rfl dX6_byteOf_13 ?_
    refine lv_iload_n hx hb dX6_byteOf_16 rfl (lv_at hl 1 rfl) ?_
    refine z_ld F hw h101 (1) (rfl) (by decide) (by decide) dX6_byteOf_17 ?_
    refine z_top (nI (Q 1).length) ((hQ 1 (by decide)).2.1) ?_
    refine lv_icmp_lt (tgt := 24) hx hb dX6_byteOf_18 (by decide) (fun c18 => ?_) (fun c18 => ?_)
    · have hk8 := (hQ 1 (by decide)).1
      have hkl : kv.toNatClampNeg < (Q 1).length := rf_ixm (by omega) c8 c18
      obtain ⟨hm2, hm24, hmz, hmm⟩ := (hQ 1 (by decide)).2.2 kv.toNatClampNeg hkl
      have hmz : zs (8 + kv.toNatClampNeg) = nI ((Q 1).getD kv.toNatClampNeg []).length := hmz
      have hmm : ∀ i, i < ((Q 1).getD kv.toNatClampNeg []).length → bs (24 * (8 + kv.toNatClampNeg) + i) = nI (((Q 1).getD kv.toNatClampNeg []).getD i 0) ∧ ((Q 1).getD kv.toNatClampNeg []).getD i 0 < 256 := hmm
      refine lv_bipush (v := 8) hx hb dX6_byteOf_24 (by decide) ?_
      refine lv_iload_n hx hb dX6_byteOf_26 rfl (lv_at hl 1 rfl) ?_
      refine lv_imul hx hb dX6_byteOf_27 ?_
      refine z_top 8 (by decide) ?_
      refine lv_iload_n hx hb dX6_byteOf_28 rfl (lv_at hl 2 rfl) ?_
      refine lv_iadd hx hb dX6_byteOf_29 ?_
      refine z_top (nI (8 + kv.toNatClampNeg)) ((congrArg (fun z => (8 : Int32) + z) (rf_ixv c8)).trans (nI_add 8 _)) ?_
      refine lv_istore (lv' := [(4, .int (nI (8 + kv.toNatClampNeg))), (0, .ref (ad 100)), (1, .int 1), (2, .int kv), (3, .int iv0)]) hx hb dX6_byteOf_30 hl (by decide) rfl (fun ls hl => ?_)
      refine lv_iload_n hx hb dX6_byteOf_32 rfl (lv_at hl 4 rfl) ?_
      refine lv_if_lt (tgt := 62) hx hb dX6_byteOf_33 (by decide) (fun c33 => ?_) (fun c33 => ?_)
      · refine lv_bipush (v := -3) hx hb dX6_byteOf_62 (by decide) ?_
        exact z_iret F (rfl) hw hS (by unfold sp_byteOf1; rw [if_neg c8, if_pos c18, if_pos c33]; exact ⟨rfl, rfl, ⟨_, _, _, _, ⟨h100, h101, h102, h103, h104, h105, h106, h107, h108, h109, h110, h111⟩, hQ, hM⟩, hF⟩) dX6_byteOf_64
      · refine lv_iload_n hx hb dX6_byteOf_36 rfl (lv_at hl 4 rfl) ?_
        refine lv_aload_n hx hb dX6_byteOf_37 rfl (lv_at hl 1 rfl) ?_
        refine z_get F hw h100 fd_X6_17_X6 rfl dX6_byteOf_38 ?_
        refine lv_iload hx hb dX6_byteOf_41 (lv_at hl 0 rfl) ?_
        refine z_ld F hw h102 (8 + kv.toNatClampNeg) (rfl) (by omega) (by decide) dX6_byteOf_43 ?_
        refine z_top (nI ((Q 1).getD kv.toNatClampNeg []).length) (hmz) ?_
        refine lv_icmp_ge (tgt := 62) hx hb dX6_byteOf_44 (by decide) (fun c44 => ?_) (fun c44 => ?_)
        · refine lv_bipush (v := -3) hx hb dX6_byteOf_62 (by decide) ?_
          exact z_iret F (rfl) hw hS (by unfold sp_byteOf1; rw [if_neg c8, if_pos c18, if_neg c33, if_pos c44]; exact ⟨rfl, rfl, ⟨_, _, _, _, ⟨h100, h101, h102, h103, h104, h105, h106, h107, h108, h109, h110, h111⟩, hQ, hM⟩, hF⟩) dX6_byteOf_64
        · refine lv_aload_n hx hb dX6_byteOf_47 rfl (lv_at hl 1 rfl) ?_
          refine z_get F hw h100 fd_X6_20_X6 rfl dX6_byteOf_48 ?_
          refine lv_bipush (v := 24) hx hb dX6_byteOf_51 (by decide) ?_
          refine lv_iload hx hb dX6_byteOf_53 (lv_at hl 0 rfl) ?_
          refine lv_imul hx hb dX6_byteOf_55 ?_
          refine z_top (nI (24 * (8 + kv.toNatClampNeg))) (by rw [show (24 : Int32) = nI 24 from rfl, pk_mul]) ?_
          refine lv_iload_n hx hb dX6_byteOf_56 rfl (lv_at hl 4 rfl) ?_
          refine lv_iadd hx hb dX6_byteOf_57 ?_
          refine z_top (nI (24 * (8 + kv.toNatClampNeg) + iv0.toNatClampNeg)) ((congrArg (fun z => nI (24 * (8 + kv.toNatClampNeg)) + z) (rf_ixv c33)).trans (nI_add _ _)) ?_
          refine z_ld F hw h103 (24 * (8 + kv.toNatClampNeg) + iv0.toNatClampNeg) (rfl) (by have h9 := rf_ixl c33 c44; omega) (by decide) dX6_byteOf_58 ?_
          refine z_top (nI (((Q 1).getD kv.toNatClampNeg []).getD iv0.toNatClampNeg 0)) ((hmm iv0.toNatClampNeg (rf_ixl c33 c44)).1) ?_
          refine lv_goto (tgt := 64) hx hb dX6_byteOf_59 (by decide) ?_
          exact z_iret F (rfl) hw hS (by unfold sp_byteOf1; rw [if_neg c8, if_pos c18, if_neg c33, if_neg c44]; exact ⟨rfl, rfl, ⟨_, _, _, _, ⟨h100, h101, h102, h103, h104, h105, h106, h107, h108, h109, h110, h111⟩, hQ, hM⟩, hF⟩) dX6_byteOf_64
    · refine lv_bipush (v := -3) hx hb dX6_byteOf_21 (by decide) ?_
      exact z_iret F (rfl) hw hS (by unfold sp_byteOf1; rw [if_neg c8, if_neg c18]; exact ⟨rfl, rfl, ⟨_, _, _, _, ⟨h100, h101, h102, h103, h104, h105, h106, h107, h108, h109, h110, h111⟩, hQ, hM⟩, hF⟩) dX6_byteOf_23
def sp_byteOfx (T : rf_T) (Q : rf_Q) (M : List Nat) (a kv iv0 : Int32) : rf_R := ((-3), T, Q)
set_option maxHeartbeats 4000000 in
set_option maxRecDepth 100000 in
theorem r_byteOfx (l : Launch) {G : zz_G} {ad : Nat → Nat} {ce : zz_C} {sz : Nat} (T : rf_T) (Q : rf_Q) (M : List Nat) (hV : rfV G ad ce T Q M) (a kv iv0 : Int32) (hnw : ¬ (a = 0 ∨ a = 1)) : zz_M l yX6_byteOf cX6_byteOf 5 (some .int) 1 20 0 0 G [.ref (ad 100), .int a, .int kv, .int iv0] ad ce sz (fun r ad1 ce1 => r = some (.int (sp_byteOfx T Q M a kv iv0).1) ∧ ad = ad1 ∧ rfV G ad ce1 (sp_byteOfx T Q M a kv iv0).2.1 (sp_byteOfx T Q M a kv iv0).2.2 M ∧ (∀ j, j < 100 → ce1 j = ce j)) := by
  refine zz_enter (by decide) (Nat.le_of_ble_eq_true rfl) ?_
  intro p e s m below meth c ls F hl hw hS hA
  obtain ⟨hx, hb, hr, hml, hown, hts, hlocks, hK, hnm⟩ := id F
  have hl : lv_has ls 5 [(0, .ref (ad 100)), (1, .int a), (2, .int kv), (3, .int iv0)] := hl
  obtain ⟨cn, zs, bs, hh, ⟨h100, h101, h102, h103, h104, h105, h106, h107, h108, h109, h110, h111⟩, hQ, hM⟩ := hV
  have hF : ∀ j, j < 100 → ce j = ce j := fun _ _ => rfl
  refine lv_iload_n hx hb dX6_byteOf_0 rfl (lv_at hl 1 rfl) ?_
  refine z_invS F (rest := []) (r_isWay l a) ys_X6_145 ⟨Nat.le_of_ble_eq_true rfl, Nat.le_of_ble_eq_true rfl⟩ hw hA hS hl rfl rfl (Nat.le_of_ble_eq_true rfl) dX6_byteOf_1 ⟨Nat.le_of_ble_eq_true rfl, Nat.le_of_ble_eq_true rfl⟩ (fun r ad1 ce1 H locs hp hw hS => ?_)
  obtain ⟨hp, rfl, rfl⟩ := hp
  rcases hp with ⟨hn9, rfl⟩ | ⟨-, rfl⟩
  · exact absurd hn9 hnw
  refine W.eq (g2 := F0 m 4 ls [.int 0]) rfl ?_
  refine lv_if_eq (tgt := 21) hx hb dX6_byteOf_4 (by decide) (fun c4 => ?_) (fun c4 => absurd c4 (by decide))
  refine lv_bipush (v := -3) hx hb dX6_byteOf_21 (by decide) ?_
  exact z_iret F (rfl) hw hS (by unfold sp_byteOfx; exact ⟨rfl, rfl, ⟨_, _, _, _, ⟨h100, h101, h102, h103, h104, h105, h106, h107, h108, h109, h110, h111⟩, hQ, hM⟩, hF⟩) dX6_byteOf_23
end
section
theorem rf_clt (v : Int32) : v.toNatClampNeg < 2 ^ 31 := by
  by_cases h : v < 0
  · rw [Int32.lt_iff_toInt_lt, Int32.toInt_zero] at h
    have : v.toNatClampNeg = 0 := by
      unfold Int32.toNatClampNeg
      exact Int.toNat_of_nonpos (by omega)
    omega
  · obtain ⟨j, hj, e⟩ := nI_of h
    rw [e, nI_clamp hj]
    exact hj
def rf_dgs (f : Nat → Int32) (n : Int32) : Nat → (Nat → Int32)
  | 0 => f
  | k + 1 => rf_dgs (upd f k (n - n / 10 * 10)) (n / 10) k
def sp_dial (T : rf_T) (Q : rf_Q) (M : List Nat) (nv mv : Int32) : rf_R := (if (mv : Int32) < 1 then ((-1), T, Q) else (if (8 : Int32) < mv then ((-1), T, Q) else (if (0 : Int32) ≤ nv then (if (((T 1) 0) : Int32) = 3 then (1, (rf_become (va_up (va_up T 0 (va_up (T 0) 9 mv)) 6 (rf_dgs (T 6) nv mv.toNatClampNeg)) 0 4 (((va_up (va_up T 0 (va_up (T 0) 9 mv)) 6 (rf_dgs (T 6) nv mv.toNatClampNeg)) 2) 0) 15), rf_put (va_up (va_up T 0 (va_up (T 0) 9 mv)) 6 (rf_dgs (T 6) nv mv.toNatClampNeg)) Q 0 [5, 36]) else ((-2), T, Q)) else ((-1), T, Q))))
set_option maxHeartbeats 4000000 in
set_option maxRecDepth 100000 in
theorem r_dial (l : Launch) {G : zz_G} {ad : Nat → Nat} {ce : zz_C} {sz : Nat} (T : rf_T) (Q : rf_Q) (M : List Nat) (hV : rfV G ad ce T Q M) (nv mv : Int32) : zz_M l yX6_dial cX6_dial 5 (some .int) 1 24 0 0 G [.ref (ad 100), .int nv, .int mv] ad ce sz (fun r ad1 ce1 => r = some (.int (sp_dial T Q M nv mv).1) ∧ ad = ad1 ∧ rfV G ad ce1 (sp_dial T Q M nv mv).2.1 (sp_dial T Q M nv mv).2.2 M ∧ (∀ j, j < 100 → ce1 j = ce j)) := by
  refine zz_enter (by decide) (Nat.le_of_ble_eq_true rfl) ?_
  intro p e s m below meth c ls F hl hw hS hA
  obtain ⟨hx, hb, hr, hml, hown, hts, hlocks, hK, hnm⟩ := id F
  have hl : lv_has ls 5 [(0, .ref (ad 100)), (1, .int nv), (2, .int mv)] := hl
  obtain ⟨cn, zs, bs, hh, ⟨h100, h101, h102, h103, h104, h105, h106, h107, h108, h109, h110, h111⟩, hQ, hM⟩ := hV
  have hF : ∀ j, j < 100 → ce j = ce j := fun _ _ => rfl
  refine lv_iload_n hx hb dX6_dial_0 rfl (lv_at hl 2 rfl) ?_
  refine lv_iconst (v := 1) hx hb dX6_dial_1 (by decide) ?_
  refine lv_icmp_lt (tgt := 15) hx hb dX6_dial_2 (by decide) (fun c2 => ?_) (fun c2 => ?_)
  · refine lv_iconst (v := -1) hx hb dX6_dial_15 (by decide) ?_
    exact z_iret F (rfl) hw hS (by unfold sp_dial; rw [if_pos c2]; exact ⟨rfl, rfl, ⟨_, _, _, _, ⟨h100, h101, h102, h103, h104, h105, h106, h107, h108, h109, h110, h111⟩, hQ, hM⟩, hF⟩) dX6_dial_16
  · refine lv_iload_n hx hb dX6_dial_5 rfl (lv_at hl 2 rfl) ?_
    refine lv_bipush (v := 8) hx hb dX6_dial_6 (by decide) ?_
    refine lv_icmp_gt (tgt := 15) hx hb dX6_dial_8 (by decide) (fun c8 => ?_) (fun c8 => ?_)
    · refine lv_iconst (v := -1) hx hb dX6_dial_15 (by decide) ?_
      exact z_iret F (rfl) hw hS (by unfold sp_dial; rw [if_neg c2, if_pos c8]; exact ⟨rfl, rfl, ⟨_, _, _, _, ⟨h100, h101, h102, h103, h104, h105, h106, h107, h108, h109, h110, h111⟩, hQ, hM⟩, hF⟩) dX6_dial_16
    · refine lv_iload_n hx hb dX6_dial_11 rfl (lv_at hl 1 rfl) ?_
      refine lv_if_ge (tgt := 17) hx hb dX6_dial_12 (by decide) (fun c12 => ?_) (fun c12 => ?_)
      · refine lv_aload_n hx hb dX6_dial_17 rfl (lv_at hl 0 rfl) ?_
        refine z_get F hw h100 fd_X6_23_X6 rfl dX6_dial_18 ?_
        refine lv_iconst (v := 0) hx hb dX6_dial_21 (by decide) ?_
        refine z_ld F hw h104 (0) (rfl) (by decide) (by decide) dX6_dial_22 ?_
        refine lv_iconst (v := 3) hx hb dX6_dial_23 (by decide) ?_
        refine lv_icmp_eq (tgt := 30) hx hb dX6_dial_24 (by decide) (fun c24 => ?_) (fun c24 => ?_)
        · have hm0 : ¬ mv < 0 := fun q => c2 (by rw [Int32.lt_iff_toInt_lt] at q ⊢; rw [Int32.toInt_zero] at q; rw [show (1 : Int32).toInt = 1 from rfl]; omega)
          have hmv : mv = nI mv.toNatClampNeg := rf_ixv hm0
          have hd8 : mv.toNatClampNeg ≤ 8 := Nat.le_of_not_lt (fun q => c8 (by rw [hmv]; exact nI_lt (a := 8) q (rf_clt mv)))
          refine lv_aload_n hx hb dX6_dial_30 rfl (lv_at hl 0 rfl) ?_
          refine lv_iload_n hx hb dX6_dial_31 rfl (lv_at hl 2 rfl) ?_
          refine z_put F hw hS (fs' := [.int (T 0 0), .int (T 0 1), .int (T 0 2), .int (T 0 3), .int (T 0 4), .ref (ad 101), .ref (ad 102), .ref (ad 103), .int (T 0 5), .ref (ad 104), .ref (ad 105), .ref (ad 106), .ref (ad 107), .ref (ad 108), .int (T 0 6), .int (T 0 7), .int (T 0 8), .ref (ad 109), .int mv, .ref (ad 110), .int (T 0 10), .int (nI M.length), .ref (ad 111)]) h100 fd_X6_119_X6 ptX6 rfl (rfl) (rfl) (Nat.le_of_ble_eq_true rfl) rfl dX6_dial_32 (fun ce1 H locs h100 fr2 hw hS => ?_)
          have h101 := (fr2 101 (by decide)).trans h101
          have h102 := (fr2 102 (by decide)).trans h102
          have h103 := (fr2 103 (by decide)).trans h103
          have h104 := (fr2 104 (by decide)).trans h104
          have h105 := (fr2 105 (by decide)).trans h105
          have h106 := (fr2 106 (by decide)).trans h106
          have h107 := (fr2 107 (by decide)).trans h107
          have h108 := (fr2 108 (by decide)).trans h108
          have h109 := (fr2 109 (by decide)).trans h109
          have h110 := (fr2 110 (by decide)).trans h110
          have h111 := (fr2 111 (by decide)).trans h111
          have hF : ∀ j, j < 100 → _ = ce j := fun j hj => (fr2 j (by omega)).trans (hF j hj)
          refine lv_iload_n hx hb dX6_dial_35 rfl (lv_at hl 1 rfl) ?_
          refine lv_istore_n (lv' := [(3, .int nv), (0, .ref (ad 100)), (1, .int nv), (2, .int mv)]) hx hb dX6_dial_36 rfl hl (by decide) rfl (fun ls hl => ?_)
          refine lv_iload_n hx hb dX6_dial_37 rfl (lv_at hl 3 rfl) ?_
          refine lv_iconst (v := 1) hx hb dX6_dial_38 (by decide) ?_
          refine lv_isub hx hb dX6_dial_39 ?_
          refine z_top (nI mv.toNatClampNeg - 1) (congrArg (fun z => z - 1) hmv) ?_
          refine lv_istore (lv' := [(4, .int (nI mv.toNatClampNeg - 1)), (3, .int nv), (0, .ref (ad 100)), (1, .int nv), (2, .int mv)]) hx hb dX6_dial_40 hl (by decide) rfl (fun ls hl => ?_)
          refine z_loop (α := Nat × Int32 × (Nat → Int32)) (fun a => a.1) (fun a ce9 ls9 => lv_has ls9 5 [(0, .ref (ad 100)), (1, .int nv), (2, .int mv), (3, .int a.2.1), (4, .int (nI a.1 - 1))] ∧ ce9 109 = some (.inl (zz_cI G, 8, .inl a.2.2)) ∧ rf_dgs a.2.2 a.2.1 a.1 = rf_dgs (T 6) nv mv.toNatClampNeg ∧ (∀ j, j ≠ 109 → ce9 j = ce1 j) ∧ a.1 ≤ mv.toNatClampNeg) (mv.toNatClampNeg, nv, T 6) ⟨lv_sub hl [2, 3, 4, 1, 0] rfl, h109, rfl, fun _ _ => rfl, Nat.le_refl _⟩ hw hS (fun a ih42 ce9 H locs ls hI hw hS => ?_)
          obtain ⟨hl, h109, hdg, frA, hqd⟩ := hI
          have h100 := (frA 100 (by decide)).trans h100
          have h101 := (frA 101 (by decide)).trans h101
          have h102 := (frA 102 (by decide)).trans h102
          have h103 := (frA 103 (by decide)).trans h103
          have h104 := (frA 104 (by decide)).trans h104
          have h105 := (frA 105 (by decide)).trans h105
          have h106 := (frA 106 (by decide)).trans h106
          have h107 := (frA 107 (by decide)).trans h107
          have h108 := (frA 108 (by decide)).trans h108
          have h110 := (frA 110 (by decide)).trans h110
          have h111 := (frA 111 (by decide)).trans h111
          have hF : ∀ j, j < 100 → ce9 j = ce j := fun j hj => (frA j (by omega)).trans (hF j hj)
          rcases a with ⟨_ | q9, n9, f9⟩
          · have hf9 : f9 = rf_dgs (T 6) nv mv.toNatClampNeg := hdg
            subst hf9
            have hl : lv_has ls 5 [(0, .ref (ad 100)), (1, .int nv), (2, .int mv), (3, .int n9), (4, .int (nI 0 - 1))] := hl
            refine lv_iload hx hb dX6_dial_42 (lv_at hl 4 rfl) ?_
            refine lv_if_lt (tgt := 69) hx hb dX6_dial_44 (by decide) (fun c44 => ?_) (fun c44 => absurd (show (nI 0 - 1 : Int32) < 0 by decide) c44)
            refine lv_aload_n hx hb dX6_dial_69 rfl (lv_at hl 0 rfl) ?_
            refine lv_iconst (v := 0) hx hb dX6_dial_70 (by decide) ?_
            refine lv_iconst (v := 5) hx hb dX6_dial_71 (by decide) ?_
            refine lv_bipush (v := 36) hx hb dX6_dial_72 (by decide) ?_
            have hV : rfV G ad ce9 (va_up (va_up T 0 (va_up (T 0) 9 mv)) 6 (rf_dgs (T 6) nv mv.toNatClampNeg)) Q M := ⟨_, _, _, _, ⟨h100, h101, h102, h103, h104, h105, h106, h107, h108, h109, h110, h111⟩, hQ, hM⟩
            refine z_invV F (rest := []) (r_put0 l (va_up (va_up T 0 (va_up (T 0) 9 mv)) 6 (rf_dgs (T 6) nv mv.toNatClampNeg)) Q M hV 5 36 (by decide) (by decide)) yv_X6_64 ⟨Nat.le_of_ble_eq_true rfl, Nat.le_of_ble_eq_true rfl⟩ hw hA hS hl h100 rfl rfl rfl (Nat.le_of_ble_eq_true rfl) dX6_dial_74 ⟨Nat.le_of_ble_eq_true rfl, Nat.le_of_ble_eq_true rfl⟩ (fun r ad1 ce3 H locs hp hw hS => ?_)
            obtain ⟨rfl, rfl, hV, hF2⟩ := hp
            have hF : ∀ j, j < 100 → ce3 j = ce j := fun j hj => (hF2 j hj).trans (hF j hj)
            obtain ⟨cn, zs, bs, hh, ⟨h100, h101, h102, h103, h104, h105, h106, h107, h108, h109, h110, h111⟩, hQ, hM⟩ := hV
            refine W.eq (g2 := F0 m 77 ls [.int (rf_hd (va_up (va_up T 0 (va_up (T 0) 9 mv)) 6 (rf_dgs (T 6) nv mv.toNatClampNeg)) Q 0)]) rfl ?_
            refine lv_istore (lv' := [(4, .int (rf_hd (va_up (va_up T 0 (va_up (T 0) 9 mv)) 6 (rf_dgs (T 6) nv mv.toNatClampNeg)) Q 0)), (0, .ref (ad 100)), (1, .int nv), (2, .int mv), (3, .int n9)]) hx hb dX6_dial_77 hl (by decide) rfl (fun ls hl => ?_)
            refine lv_aload_n hx hb dX6_dial_79 rfl (lv_at hl 1 rfl) ?_
            refine lv_iconst (v := 0) hx hb dX6_dial_80 (by decide) ?_
            refine lv_iconst (v := 4) hx hb dX6_dial_81 (by decide) ?_
            refine lv_aload_n hx hb dX6_dial_82 rfl (lv_at hl 1 rfl) ?_
            refine z_get F hw h100 fd_X6_26_X6 rfl dX6_dial_83 ?_
            refine lv_iconst (v := 0) hx hb dX6_dial_86 (by decide) ?_
            refine z_ld F hw h105 (0) (rfl) (by decide) (by decide) dX6_dial_87 ?_
            refine lv_bipush (v := 15) hx hb dX6_dial_88 (by decide) ?_
            have hV : rfV G ad ce3 (va_up (va_up T 0 (va_up (T 0) 9 mv)) 6 (rf_dgs (T 6) nv mv.toNatClampNeg)) (rf_put (va_up (va_up T 0 (va_up (T 0) 9 mv)) 6 (rf_dgs (T 6) nv mv.toNatClampNeg)) Q 0 [5, 36]) M := ⟨_, _, _, _, ⟨h100, h101, h102, h103, h104, h105, h106, h107, h108, h109, h110, h111⟩, hQ, hM⟩
            refine z_invV F (rest := []) (r_become0 l (va_up (va_up T 0 (va_up (T 0) 9 mv)) 6 (rf_dgs (T 6) nv mv.toNatClampNeg)) (rf_put (va_up (va_up T 0 (va_up (T 0) 9 mv)) 6 (rf_dgs (T 6) nv mv.toNatClampNeg)) Q 0 [5, 36]) M hV 4 (((va_up (va_up T 0 (va_up (T 0) 9 mv)) 6 (rf_dgs (T 6) nv mv.toNatClampNeg)) 2) 0) 15) yv_X6_83 ⟨Nat.le_of_ble_eq_true rfl, Nat.le_of_ble_eq_true rfl⟩ hw hA hS hl h100 rfl rfl rfl (Nat.le_of_ble_eq_true rfl) dX6_dial_90 ⟨Nat.le_of_ble_eq_true rfl, Nat.le_of_ble_eq_true rfl⟩ (fun r ad1 ce4 H locs hp hw hS => ?_)
            obtain ⟨rfl, rfl, hV, hF2⟩ := hp
            have hF : ∀ j, j < 100 → ce4 j = ce j := fun j hj => (hF2 j hj).trans (hF j hj)
            obtain ⟨cn, zs, bs, hh, ⟨h100, h101, h102, h103, h104, h105, h106, h107, h108, h109, h110, h111⟩, hQ, hM⟩ := hV
            refine W.eq (g2 := F0 m 93 ls []) rfl ?_
            refine lv_iconst (v := 1) hx hb dX6_dial_93 (by decide) ?_
            exact z_iret F (rfl) hw hS (by unfold sp_dial; rw [if_neg c2, if_neg c8, if_pos c12, if_pos c24]; exact ⟨rfl, rfl, ⟨_, _, _, _, ⟨h100, h101, h102, h103, h104, h105, h106, h107, h108, h109, h110, h111⟩, hQ, hM⟩, hF⟩) dX6_dial_94
          · have hl : lv_has ls 5 [(0, .ref (ad 100)), (1, .int nv), (2, .int mv), (3, .int n9), (4, .int (nI q9))] := by rw [← nI_pred q9]; exact hl
            have hdg : rf_dgs (upd f9 q9 (n9 - n9 / 10 * 10)) (n9 / 10) q9 = rf_dgs (T 6) nv mv.toNatClampNeg := hdg
            have hqd : q9 + 1 ≤ mv.toNatClampNeg := hqd
            refine lv_iload hx hb dX6_dial_42 (lv_at hl 4 rfl) ?_
            refine lv_if_lt (tgt := 69) hx hb dX6_dial_44 (by decide) (fun c44 => absurd c44 (nI_pos (by omega))) (fun c44 => ?_)
            refine lv_aload_n hx hb dX6_dial_47 rfl (lv_at hl 0 rfl) ?_
            refine z_get F hw h100 fd_X6_42_X6 rfl dX6_dial_48 ?_
            refine lv_iload hx hb dX6_dial_51 (lv_at hl 4 rfl) ?_
            refine lv_iload_n hx hb dX6_dial_53 rfl (lv_at hl 3 rfl) ?_
            refine lv_bipush (v := 10) hx hb dX6_dial_54 (by decide) ?_
            refine lv_irem hx hb dX6_dial_56 (by decide) ?_
            refine z_st F hw hS h109 (q9) (rfl) (by omega) (by decide) dX6_dial_57 (fun ce5 H locs h109 fr6 hw hS => ?_)
            have h100 := (fr6 100 (by decide)).trans h100
            have h101 := (fr6 101 (by decide)).trans h101
            have h102 := (fr6 102 (by decide)).trans h102
            have h103 := (fr6 103 (by decide)).trans h103
            have h104 := (fr6 104 (by decide)).trans h104
            have h105 := (fr6 105 (by decide)).trans h105
            have h106 := (fr6 106 (by decide)).trans h106
            have h107 := (fr6 107 (by decide)).trans h107
            have h108 := (fr6 108 (by decide)).trans h108
            have h110 := (fr6 110 (by decide)).trans h110
            have h111 := (fr6 111 (by decide)).trans h111
            have hF : ∀ j, j < 100 → _ = ce j := fun j hj => (fr6 j (by omega)).trans (hF j hj)
            refine lv_iload_n hx hb dX6_dial_58 rfl (lv_at hl 3 rfl) ?_
            refine lv_bipush (v := 10) hx hb dX6_dial_59 (by decide) ?_
            refine lv_idiv hx hb dX6_dial_61 (by decide) ?_
            refine lv_istore_n (lv' := [(3, .int (n9 / 10)), (0, .ref (ad 100)), (1, .int nv), (2, .int mv), (4, .int (nI q9))]) hx hb dX6_dial_62 rfl hl (by decide) rfl (fun ls hl => ?_)
            refine lv_iinc (v := nI q9 - 1) (lv' := [(4, .int (nI q9 - 1)), (3, .int (n9 / 10)), (0, .ref (ad 100)), (1, .int nv), (2, .int mv)]) hx hb dX6_dial_63 hl (k := 4) rfl (by rw [Int32.sub_eq_add_neg]; rfl) (by decide) rfl (fun ls hl => ?_)
            refine lv_goto (tgt := 42) hx hb dX6_dial_66 (by decide) ?_
            exact ih42 (q9, n9 / 10, upd f9 q9 (n9 - n9 / 10 * 10)) _ _ _ _ (by simp) ⟨lv_sub hl [2, 3, 4, 1, 0] rfl, h109, hdg, fun j hj => (fr6 j hj).trans (frA j hj), by omega⟩ hw hS
        · refine lv_bipush (v := -2) hx hb dX6_dial_27 (by decide) ?_
          exact z_iret F (rfl) hw hS (by unfold sp_dial; rw [if_neg c2, if_neg c8, if_pos c12, if_neg c24]; exact ⟨rfl, rfl, ⟨_, _, _, _, ⟨h100, h101, h102, h103, h104, h105, h106, h107, h108, h109, h110, h111⟩, hQ, hM⟩, hF⟩) dX6_dial_29
      · refine lv_iconst (v := -1) hx hb dX6_dial_15 (by decide) ?_
        exact z_iret F (rfl) hw hS (by unfold sp_dial; rw [if_neg c2, if_neg c8, if_neg c12]; exact ⟨rfl, rfl, ⟨_, _, _, _, ⟨h100, h101, h102, h103, h104, h105, h106, h107, h108, h109, h110, h111⟩, hQ, hM⟩, hF⟩) dX6_dial_16
def rf_i (M : List Nat) (tg : Nat) : Nat := (rf_fd M tg).getD 0
theorem rf_i_s {M : List Nat} {tg : Nat} (h : ¬ rf_fd M tg = none) : rf_fd M tg = some (rf_i M tg) := by
  unfold rf_i
  cases e : rf_fd M tg with
  | none => exact absurd e h
  | some i => rfl
def rf_cp (f : Nat → Int32) (M : List Nat) (i : Nat) : Nat → (Nat → Int32)
  | 0 => f
  | k + 1 => upd (rf_cp f M i k) k (nI (M.getD (i + 2 + k) 0))
def sp_networkCalls (T : rf_T) (Q : rf_Q) (M : List Nat) (ty : Nat) : rf_R := (if (((T 1) 1) : Int32) = 3 then (if ((nI ty) : Int32) = 5 then (if (((T 2) 1) : Int32) = 0 then (if rf_fd M 94 = none then (if ((nI ty) : Int32) = 15 then (if (((T 2) 1) : Int32) = 3 then (1, (rf_become T 1 3 4 0), Q) else (((sp_closes T Q M 1 ty).1), ((sp_closes T Q M 1 ty).2.1), (sp_closes T Q M 1 ty).2.2)) else (((sp_closes T Q M 1 ty).1), ((sp_closes T Q M 1 ty).2.1), (sp_closes T Q M 1 ty).2.2)) else (if ((nI (M.getD (rf_i M 94 + 1) 0)) : Int32) < 1 then (if ((nI ty) : Int32) = 15 then (if (((T 2) 1) : Int32) = 3 then (1, (rf_become T 1 3 4 0), Q) else (((sp_closes T Q M 1 ty).1), ((sp_closes T Q M 1 ty).2.1), (sp_closes T Q M 1 ty).2.2)) else (((sp_closes T Q M 1 ty).1), ((sp_closes T Q M 1 ty).2.1), (sp_closes T Q M 1 ty).2.2)) else (if (8 : Int32) < (nI (M.getD (rf_i M 94 + 1) 0)) then (if ((nI ty) : Int32) = 15 then (if (((T 2) 1) : Int32) = 3 then (1, (rf_become T 1 3 4 0), Q) else (((sp_closes T Q M 1 ty).1), ((sp_closes T Q M 1 ty).2.1), (sp_closes T Q M 1 ty).2.2)) else (((sp_closes T Q M 1 ty).1), ((sp_closes T Q M 1 ty).2.1), (sp_closes T Q M 1 ty).2.2)) else (1, (rf_become (va_up (va_up T 0 (va_up (T 0) 10 (nI (M.getD (rf_i M 94 + 1) 0)))) 7 (rf_cp (T 7) M (rf_i M 94) (M.getD (rf_i M 94 + 1) 0))) 1 3 1 0), rf_put (va_up (va_up T 0 (va_up (T 0) 10 (nI (M.getD (rf_i M 94 + 1) 0)))) 7 (rf_cp (T 7) M (rf_i M 94) (M.getD (rf_i M 94 + 1) 0))) Q 1 [3, 2])))) else (if ((nI ty) : Int32) = 15 then (if (((T 2) 1) : Int32) = 3 then (1, (rf_become T 1 3 4 0), Q) else (((sp_closes T Q M 1 ty).1), ((sp_closes T Q M 1 ty).2.1), (sp_closes T Q M 1 ty).2.2)) else (((sp_closes T Q M 1 ty).1), ((sp_closes T Q M 1 ty).2.1), (sp_closes T Q M 1 ty).2.2))) else (if ((nI ty) : Int32) = 15 then (if (((T 2) 1) : Int32) = 3 then (1, (rf_become T 1 3 4 0), Q) else (((sp_closes T Q M 1 ty).1), ((sp_closes T Q M 1 ty).2.1), (sp_closes T Q M 1 ty).2.2)) else (((sp_closes T Q M 1 ty).1), ((sp_closes T Q M 1 ty).2.1), (sp_closes T Q M 1 ty).2.2))) else (0, T, Q))
theorem sp_networkCalls_b (T : rf_T) (Q : rf_Q) (M : List Nat) (ty : Nat) : narrow .boolean (.int (sp_networkCalls T Q M ty).1) = .int (sp_networkCalls T Q M ty).1 := by unfold sp_networkCalls; simp only [rf_if1]; (repeat' split) <;> first | rfl | exact sp_closes_b _ _ _ _ _
set_option maxHeartbeats 4000000 in
set_option maxRecDepth 100000 in
theorem r_networkCalls (l : Launch) {G : zz_G} {ad : Nat → Nat} {ce : zz_C} {sz : Nat} (T : rf_T) (Q : rf_Q) (M : List Nat) (hV : rfV G ad ce T Q M) (hg : rf_good M) (ty : Nat) (hty : ty < 256) : zz_M l yX6_networkCalls cX6_networkCalls 4 (some .boolean) 3 69 0 0 G [.ref (ad 100), .int (nI ty)] ad ce sz (fun r ad1 ce1 => r = some (.int (sp_networkCalls T Q M ty).1) ∧ ad = ad1 ∧ rfV G ad ce1 (sp_networkCalls T Q M ty).2.1 (sp_networkCalls T Q M ty).2.2 M ∧ (∀ j, j < 100 → ce1 j = ce j)) := by
  refine zz_enter (by decide) (Nat.le_of_ble_eq_true rfl) ?_
  intro p e s m below meth c ls F hl hw hS hA
  obtain ⟨hx, hb, hr, hml, hown, hts, hlocks, hK, hnm⟩ := id F
  have hl : lv_has ls 4 [(0, .ref (ad 100)), (1, .int (nI ty))] := hl
  obtain ⟨cn, zs, bs, hh, ⟨h100, h101, h102, h103, h104, h105, h106, h107, h108, h109, h110, h111⟩, hQ, hM⟩ := hV
  have hF : ∀ j, j < 100 → ce j = ce j := fun _ _ => rfl
  refine lv_aload_n hx hb dX6_networkCalls_0 rfl (lv_at hl 0 rfl) ?_
  refine z_get F hw h100 fd_X6_23_X6 rfl dX6_networkCalls_1 ?_
  refine lv_iconst (v := 1) hx hb dX6_networkCalls_4 (by decide) ?_
  refine z_ld F hw h104 (1) (rfl) (by decide) (by decide) dX6_networkCalls_5 ?_
  refine lv_iconst (v := 3) hx hb dX6_networkCalls_6 (by decide) ?_
  refine lv_icmp_eq (tgt := 12) hx hb dX6_networkCalls_7 (by decide) (fun c7 => ?_) (fun c7 => ?_)
  · refine lv_aload_n hx hb dX6_networkCalls_12 rfl (lv_at hl 0 rfl) ?_
    refine lv_bipush (v := 94) hx hb dX6_networkCalls_13 (by decide) ?_
    have hV : rfV G ad ce T Q M := ⟨_, _, _, _, ⟨h100, h101, h102, h103, h104, h105, h106, h107, h108, h109, h110, h111⟩, hQ, hM⟩
    refine z_invV F (rest := []) (r_find l T Q M hV hg 94 (by decide)) yv_X6_75 ⟨Nat.le_of_ble_eq_true rfl, Nat.le_of_ble_eq_true rfl⟩ hw hA hS hl h100 rfl rfl rfl (Nat.le_of_ble_eq_true rfl) dX6_networkCalls_15 ⟨Nat.le_of_ble_eq_true rfl, Nat.le_of_ble_eq_true rfl⟩ (fun r ad1 ce1 H locs hp hw hS => ?_)
    obtain ⟨rfl, rfl, rfl⟩ := hp
    refine W.eq (g2 := F0 m 18 ls [.int (rf_at M 94)]) rfl ?_
    refine lv_istore_n (lv' := [(2, .int (rf_at M 94)), (0, .ref (ad 100)), (1, .int (nI ty))]) hx hb dX6_networkCalls_18 rfl hl (by decide) rfl (fun ls hl => ?_)
    refine lv_iload_n hx hb dX6_networkCalls_19 rfl (lv_at hl 2 rfl) ?_
    refine lv_iconst (v := 5) hx hb dX6_networkCalls_20 (by decide) ?_
    refine lv_icmp_ne (tgt := 124) hx hb dX6_networkCalls_21 (by decide) (fun c21 => ?_) (fun c21 => ?_)
    · refine lv_iload_n hx hb dX6_networkCalls_124 rfl (lv_at hl 2 rfl) ?_
      refine lv_bipush (v := 15) hx hb dX6_networkCalls_125 (by decide) ?_
      refine lv_icmp_ne (tgt := 150) hx hb dX6_networkCalls_127 (by decide) (fun c127 => ?_) (fun c127 => ?_)
      · refine lv_aload_n hx hb dX6_networkCalls_150 rfl (lv_at hl 1 rfl) ?_
        refine lv_iconst (v := 1) hx hb dX6_networkCalls_151 (by decide) ?_
        refine lv_iload_n hx hb dX6_networkCalls_152 rfl (lv_at hl 2 rfl) ?_
        have hV : rfV G ad ce T Q M := ⟨_, _, _, _, ⟨h100, h101, h102, h103, h104, h105, h106, h107, h108, h109, h110, h111⟩, hQ, hM⟩
        refine z_invV F (rest := []) (r_closes1 l T Q M hV hg ty hty) yv_X6_122 ⟨Nat.le_of_ble_eq_true rfl, Nat.le_of_ble_eq_true rfl⟩ hw hA hS hl h100 rfl rfl rfl (Nat.le_of_ble_eq_true rfl) dX6_networkCalls_153 ⟨Nat.le_of_ble_eq_true rfl, Nat.le_of_ble_eq_true rfl⟩ (fun r ad1 ce2 H locs hp hw hS => ?_)
        obtain ⟨rfl, rfl, hV, hF2⟩ := hp
        have hF : ∀ j, j < 100 → ce2 j = ce j := fun j hj => (hF2 j hj).trans (hF j hj)
        obtain ⟨cn, zs, bs, hh, ⟨h100, h101, h102, h103, h104, h105, h106, h107, h108, h109, h110, h111⟩, hQ, hM⟩ := hV
        refine W.eq (g2 := F0 m 156 ls [.int ((sp_closes T Q M 1 ty).1)]) rfl ?_
        exact z_iret F (sp_closes_b _ _ _ _ _) hw hS (by unfold sp_networkCalls; rw [if_pos c7, if_neg c21, if_neg c127]; exact ⟨rfl, rfl, ⟨_, _, _, _, ⟨h100, h101, h102, h103, h104, h105, h106, h107, h108, h109, h110, h111⟩, hQ, hM⟩, hF⟩) dX6_networkCalls_156
      · refine lv_aload_n hx hb dX6_networkCalls_130 rfl (lv_at hl 1 rfl) ?_
        refine z_get F hw h100 fd_X6_26_X6 rfl dX6_networkCalls_131 ?_
        refine lv_iconst (v := 1) hx hb dX6_networkCalls_134 (by decide) ?_
        refine z_ld F hw h105 (1) (rfl) (by decide) (by decide) dX6_networkCalls_135 ?_
        refine lv_iconst (v := 3) hx hb dX6_networkCalls_136 (by decide) ?_
        refine lv_icmp_ne (tgt := 150) hx hb dX6_networkCalls_137 (by decide) (fun c137 => ?_) (fun c137 => ?_)
        · refine lv_aload_n hx hb dX6_networkCalls_150 rfl (lv_at hl 1 rfl) ?_
          refine lv_iconst (v := 1) hx hb dX6_networkCalls_151 (by decide) ?_
          refine lv_iload_n hx hb dX6_networkCalls_152 rfl (lv_at hl 2 rfl) ?_
          have hV : rfV G ad ce T Q M := ⟨_, _, _, _, ⟨h100, h101, h102, h103, h104, h105, h106, h107, h108, h109, h110, h111⟩, hQ, hM⟩
          refine z_invV F (rest := []) (r_closes1 l T Q M hV hg ty hty) yv_X6_122 ⟨Nat.le_of_ble_eq_true rfl, Nat.le_of_ble_eq_true rfl⟩ hw hA hS hl h100 rfl rfl rfl (Nat.le_of_ble_eq_true rfl) dX6_networkCalls_153 ⟨Nat.le_of_ble_eq_true rfl, Nat.le_of_ble_eq_true rfl⟩ (fun r ad1 ce3 H locs hp hw hS => ?_)
          obtain ⟨rfl, rfl, hV, hF2⟩ := hp
          have hF : ∀ j, j < 100 → ce3 j = ce j := fun j hj => (hF2 j hj).trans (hF j hj)
          obtain ⟨cn, zs, bs, hh, ⟨h100, h101, h102, h103, h104, h105, h106, h107, h108, h109, h110, h111⟩, hQ, hM⟩ := hV
          refine W.eq (g2 := F0 m 156 ls [.int ((sp_closes T Q M 1 ty).1)]) rfl ?_
          exact z_iret F (sp_closes_b _ _ _ _ _) hw hS (by unfold sp_networkCalls; rw [if_pos c7, if_neg c21, if_pos c127, if_neg c137]; exact ⟨rfl, rfl, ⟨_, _, _, _, ⟨h100, h101, h102, h103, h104, h105, h106, h107, h108, h109, h110, h111⟩, hQ, hM⟩, hF⟩) dX6_networkCalls_156
        · refine lv_aload_n hx hb dX6_networkCalls_140 rfl (lv_at hl 1 rfl) ?_
          refine lv_iconst (v := 1) hx hb dX6_networkCalls_141 (by decide) ?_
          refine lv_iconst (v := 3) hx hb dX6_networkCalls_142 (by decide) ?_
          refine lv_iconst (v := 4) hx hb dX6_networkCalls_143 (by decide) ?_
          refine lv_iconst (v := 0) hx hb dX6_networkCalls_144 (by decide) ?_
          have hV : rfV G ad ce T Q M := ⟨_, _, _, _, ⟨h100, h101, h102, h103, h104, h105, h106, h107, h108, h109, h110, h111⟩, hQ, hM⟩
          refine z_invV F (rest := []) (r_become1 l T Q M hV 3 4 0) yv_X6_83 ⟨Nat.le_of_ble_eq_true rfl, Nat.le_of_ble_eq_true rfl⟩ hw hA hS hl h100 rfl rfl rfl (Nat.le_of_ble_eq_true rfl) dX6_networkCalls_145 ⟨Nat.le_of_ble_eq_true rfl, Nat.le_of_ble_eq_true rfl⟩ (fun r ad1 ce4 H locs hp hw hS => ?_)
          obtain ⟨rfl, rfl, hV, hF2⟩ := hp
          have hF : ∀ j, j < 100 → ce4 j = ce j := fun j hj => (hF2 j hj).trans (hF j hj)
          obtain ⟨cn, zs, bs, hh, ⟨h100, h101, h102, h103, h104, h105, h106, h107, h108, h109, h110, h111⟩, hQ, hM⟩ := hV
          refine W.eq (g2 := F0 m 148 ls []) rfl ?_
          refine lv_iconst (v := 1) hx hb dX6_networkCalls_148 (by decide) ?_
          exact z_iret F (rfl) hw hS (by unfold sp_networkCalls; rw [if_pos c7, if_neg c21, if_pos c127, if_pos c137]; exact ⟨rfl, rfl, ⟨_, _, _, _, ⟨h100, h101, h102, h103, h104, h105, h106, h107, h108, h109, h110, h111⟩, hQ, hM⟩, hF⟩) dX6_networkCalls_149
    · refine lv_aload_n hx hb dX6_networkCalls_24 rfl (lv_at hl 1 rfl) ?_
      refine z_get F hw h100 fd_X6_26_X6 rfl dX6_networkCalls_25 ?_
      refine lv_iconst (v := 1) hx hb dX6_networkCalls_28 (by decide) ?_
      refine z_ld F hw h105 (1) (rfl) (by decide) (by decide) dX6_networkCalls_29 ?_
      refine lv_if_ne (tgt := 124) hx hb dX6_networkCalls_30 (by decide) (fun c30 => ?_) (fun c30 => ?_)
      · refine lv_iload_n hx hb dX6_networkCalls_124 rfl (lv_at hl 2 rfl) ?_
        refine lv_bipush (v := 15) hx hb dX6_networkCalls_125 (by decide) ?_
        refine lv_icmp_ne (tgt := 150) hx hb dX6_networkCalls_127 (by decide) (fun c127 => ?_) (fun c127 => ?_)
        · refine lv_aload_n hx hb dX6_networkCalls_150 rfl (lv_at hl 1 rfl) ?_
          refine lv_iconst (v := 1) hx hb dX6_networkCalls_151 (by decide) ?_
          refine lv_iload_n hx hb dX6_networkCalls_152 rfl (lv_at hl 2 rfl) ?_
          have hV : rfV G ad ce T Q M := ⟨_, _, _, _, ⟨h100, h101, h102, h103, h104, h105, h106, h107, h108, h109, h110, h111⟩, hQ, hM⟩
          refine z_invV F (rest := []) (r_closes1 l T Q M hV hg ty hty) yv_X6_122 ⟨Nat.le_of_ble_eq_true rfl, Nat.le_of_ble_eq_true rfl⟩ hw hA hS hl h100 rfl rfl rfl (Nat.le_of_ble_eq_true rfl) dX6_networkCalls_153 ⟨Nat.le_of_ble_eq_true rfl, Nat.le_of_ble_eq_true rfl⟩ (fun r ad1 ce5 H locs hp hw hS => ?_)
          obtain ⟨rfl, rfl, hV, hF2⟩ := hp
          have hF : ∀ j, j < 100 → ce5 j = ce j := fun j hj => (hF2 j hj).trans (hF j hj)
          obtain ⟨cn, zs, bs, hh, ⟨h100, h101, h102, h103, h104, h105, h106, h107, h108, h109, h110, h111⟩, hQ, hM⟩ := hV
          refine W.eq (g2 := F0 m 156 ls [.int ((sp_closes T Q M 1 ty).1)]) rfl ?_
          exact z_iret F (sp_closes_b _ _ _ _ _) hw hS (by unfold sp_networkCalls; rw [if_pos c7, if_pos c21, if_neg c30, if_neg c127]; exact ⟨rfl, rfl, ⟨_, _, _, _, ⟨h100, h101, h102, h103, h104, h105, h106, h107, h108, h109, h110, h111⟩, hQ, hM⟩, hF⟩) dX6_networkCalls_156
        · refine lv_aload_n hx hb dX6_networkCalls_130 rfl (lv_at hl 1 rfl) ?_
          refine z_get F hw h100 fd_X6_26_X6 rfl dX6_networkCalls_131 ?_
          refine lv_iconst (v := 1) hx hb dX6_networkCalls_134 (by decide) ?_
          refine z_ld F hw h105 (1) (rfl) (by decide) (by decide) dX6_networkCalls_135 ?_
          refine lv_iconst (v := 3) hx hb dX6_networkCalls_136 (by decide) ?_
          refine lv_icmp_ne (tgt := 150) hx hb dX6_networkCalls_137 (by decide) (fun c137 => ?_) (fun c137 => ?_)
          · refine lv_aload_n hx hb dX6_networkCalls_150 rfl (lv_at hl 1 rfl) ?_
            refine lv_iconst (v := 1) hx hb dX6_networkCalls_151 (by decide) ?_
            refine lv_iload_n hx hb dX6_networkCalls_152 rfl (lv_at hl 2 rfl) ?_
            have hV : rfV G ad ce T Q M := ⟨_, _, _, _, ⟨h100, h101, h102, h103, h104, h105, h106, h107, h108, h109, h110, h111⟩, hQ, hM⟩
            refine z_invV F (rest := []) (r_closes1 l T Q M hV hg ty hty) yv_X6_122 ⟨Nat.le_of_ble_eq_true rfl, Nat.le_of_ble_eq_true rfl⟩ hw hA hS hl h100 rfl rfl rfl (Nat.le_of_ble_eq_true rfl) dX6_networkCalls_153 ⟨Nat.le_of_ble_eq_true rfl, Nat.le_of_ble_eq_true rfl⟩ (fun r ad1 ce6 H locs hp hw hS => ?_)
            obtain ⟨rfl, rfl, hV, hF2⟩ := hp
            have hF : ∀ j, j < 100 → ce6 j = ce j := fun j hj => (hF2 j hj).trans (hF j hj)
            obtain ⟨cn, zs, bs, hh, ⟨h100, h101, h102, h103, h104, h105, h106, h107, h108, h109, h110, h111⟩, hQ, hM⟩ := hV
            refine W.eq (g2 := F0 m 156 ls [.int ((sp_closes T Q M 1 ty).1)]) rfl ?_
            exact z_iret F (sp_closes_b _ _ _ _ _) hw hS (by unfold sp_networkCalls; rw [if_pos c7, if_pos c21, if_neg c30, if_pos c127, if_neg c137]; exact ⟨rfl, rfl, ⟨_, _, _, _, ⟨h100, h101, h102, h103, h104, h105, h106, h107, h108, h109, h110, h111⟩, hQ, hM⟩, hF⟩) dX6_networkCalls_156
          · refine lv_aload_n hx hb dX6_networkCalls_140 rfl (lv_at hl 1 rfl) ?_
            refine lv_iconst (v := 1) hx hb dX6_networkCalls_141 (by decide) ?_
            refine lv_iconst (v := 3) hx hb dX6_networkCalls_142 (by decide) ?_
            refine lv_iconst (v := 4) hx hb dX6_networkCalls_143 (by decide) ?_
            refine lv_iconst (v := 0) hx hb dX6_networkCalls_144 (by decide) ?_
            have hV : rfV G ad ce T Q M := ⟨_, _, _, _, ⟨h100, h101, h102, h103, h104, h105, h106, h107, h108, h109, h110, h111⟩, hQ, hM⟩
            refine z_invV F (rest := []) (r_become1 l T Q M hV 3 4 0) yv_X6_83 ⟨Nat.le_of_ble_eq_true rfl, Nat.le_of_ble_eq_true rfl⟩ hw hA hS hl h100 rfl rfl rfl (Nat.le_of_ble_eq_true rfl) dX6_networkCalls_145 ⟨Nat.le_of_ble_eq_true rfl, Nat.le_of_ble_eq_true rfl⟩ (fun r ad1 ce7 H locs hp hw hS => ?_)
            obtain ⟨rfl, rfl, hV, hF2⟩ := hp
            have hF : ∀ j, j < 100 → ce7 j = ce j := fun j hj => (hF2 j hj).trans (hF j hj)
            obtain ⟨cn, zs, bs, hh, ⟨h100, h101, h102, h103, h104, h105, h106, h107, h108, h109, h110, h111⟩, hQ, hM⟩ := hV
            refine W.eq (g2 := F0 m 148 ls []) rfl ?_
            refine lv_iconst (v := 1) hx hb dX6_networkCalls_148 (by decide) ?_
            exact z_iret F (rfl) hw hS (by unfold sp_networkCalls; rw [if_pos c7, if_pos c21, if_neg c30, if_pos c127, if_pos c137]; exact ⟨rfl, rfl, ⟨_, _, _, _, ⟨h100, h101, h102, h103, h104, h105, h106, h107, h108, h109, h110, h111⟩, hQ, hM⟩, hF⟩) dX6_networkCalls_149
      · by_cases hfn : rf_fd M 94 = none
        · have hl : lv_has ls 4 [(2, .int (-3)), (0, .ref (ad 100)), (1, .int (nI ty))] := by rw [show ((-3) : Int32) = rf_at M 94 from by rw [rf_at, hfn]]; exact hl
          refine lv_iload_n hx hb dX6_networkCalls_33 rfl (lv_at hl 0 rfl) ?_
          refine lv_bipush (v := -3) hx hb dX6_networkCalls_34 (by decide) ?_
          refine lv_icmp_eq (tgt := 124) hx hb dX6_networkCalls_36 (by decide) (fun c36 => ?_) (fun c36 => absurd rfl c36)
          refine lv_iload_n hx hb dX6_networkCalls_124 rfl (lv_at hl 2 rfl) ?_
          refine lv_bipush (v := 15) hx hb dX6_networkCalls_125 (by decide) ?_
          refine lv_icmp_ne (tgt := 150) hx hb dX6_networkCalls_127 (by decide) (fun c127 => ?_) (fun c127 => ?_)
          · refine lv_aload_n hx hb dX6_networkCalls_150 rfl (lv_at hl 1 rfl) ?_
            refine lv_iconst (v := 1) hx hb dX6_networkCalls_151 (by decide) ?_
            refine lv_iload_n hx hb dX6_networkCalls_152 rfl (lv_at hl 2 rfl) ?_
            have hV : rfV G ad ce T Q M := ⟨_, _, _, _, ⟨h100, h101, h102, h103, h104, h105, h106, h107, h108, h109, h110, h111⟩, hQ, hM⟩
            refine z_invV F (rest := []) (r_closes1 l T Q M hV hg ty hty) yv_X6_122 ⟨Nat.le_of_ble_eq_true rfl, Nat.le_of_ble_eq_true rfl⟩ hw hA hS hl h100 rfl rfl rfl (Nat.le_of_ble_eq_true rfl) dX6_networkCalls_153 ⟨Nat.le_of_ble_eq_true rfl, Nat.le_of_ble_eq_true rfl⟩ (fun r ad1 ce8 H locs hp hw hS => ?_)
            obtain ⟨rfl, rfl, hV, hF2⟩ := hp
            have hF : ∀ j, j < 100 → ce8 j = ce j := fun j hj => (hF2 j hj).trans (hF j hj)
            obtain ⟨cn, zs, bs, hh, ⟨h100, h101, h102, h103, h104, h105, h106, h107, h108, h109, h110, h111⟩, hQ, hM⟩ := hV
            refine W.eq (g2 := F0 m 156 ls [.int ((sp_closes T Q M 1 ty).1)]) rfl ?_
            exact z_iret F (sp_closes_b _ _ _ _ _) hw hS (by unfold sp_networkCalls; rw [if_pos c7, if_pos c21, if_pos c30, if_pos hfn, if_neg c127]; exact ⟨rfl, rfl, ⟨_, _, _, _, ⟨h100, h101, h102, h103, h104, h105, h106, h107, h108, h109, h110, h111⟩, hQ, hM⟩, hF⟩) dX6_networkCalls_156
          · refine lv_aload_n hx hb dX6_networkCalls_130 rfl (lv_at hl 1 rfl) ?_
            refine z_get F hw h100 fd_X6_26_X6 rfl dX6_networkCalls_131 ?_
            refine lv_iconst (v := 1) hx hb dX6_networkCalls_134 (by decide) ?_
            refine z_ld F hw h105 (1) (rfl) (by decide) (by decide) dX6_networkCalls_135 ?_
            refine lv_iconst (v := 3) hx hb dX6_networkCalls_136 (by decide) ?_
            refine lv_icmp_ne (tgt := 150) hx hb dX6_networkCalls_137 (by decide) (fun c137 => ?_) (fun c137 => ?_)
            · refine lv_aload_n hx hb dX6_networkCalls_150 rfl (lv_at hl 1 rfl) ?_
              refine lv_iconst (v := 1) hx hb dX6_networkCalls_151 (by decide) ?_
              refine lv_iload_n hx hb dX6_networkCalls_152 rfl (lv_at hl 2 rfl) ?_
              have hV : rfV G ad ce T Q M := ⟨_, _, _, _, ⟨h100, h101, h102, h103, h104, h105, h106, h107, h108, h109, h110, h111⟩, hQ, hM⟩
              refine z_invV F (rest := []) (r_closes1 l T Q M hV hg ty hty) yv_X6_122 ⟨Nat.le_of_ble_eq_true rfl, Nat.le_of_ble_eq_true rfl⟩ hw hA hS hl h100 rfl rfl rfl (Nat.le_of_ble_eq_true rfl) dX6_networkCalls_153 ⟨Nat.le_of_ble_eq_true rfl, Nat.le_of_ble_eq_true rfl⟩ (fun r ad1 ce9 H locs hp hw hS => ?_)
              obtain ⟨rfl, rfl, hV, hF2⟩ := hp
              have hF : ∀ j, j < 100 → ce9 j = ce j := fun j hj => (hF2 j hj).trans (hF j hj)
              obtain ⟨cn, zs, bs, hh, ⟨h100, h101, h102, h103, h104, h105, h106, h107, h108, h109, h110, h111⟩, hQ, hM⟩ := hV
              refine W.eq (g2 := F0 m 156 ls [.int ((sp_closes T Q M 1 ty).1)]) rfl ?_
              exact z_iret F (sp_closes_b _ _ _ _ _) hw hS (by unfold sp_networkCalls; rw [if_pos c7, if_pos c21, if_pos c30, if_pos hfn, if_pos c127, if_neg c137]; exact ⟨rfl, rfl, ⟨_, _, _, _, ⟨h100, h101, h102, h103, h104, h105, h106, h107, h108, h109, h110, h111⟩, hQ, hM⟩, hF⟩) dX6_networkCalls_156
            · refine lv_aload_n hx hb dX6_networkCalls_140 rfl (lv_at hl 1 rfl) ?_
              refine lv_iconst (v := 1) hx hb dX6_networkCalls_141 (by decide) ?_
              refine lv_iconst (v := 3) hx hb dX6_networkCalls_142 (by decide) ?_
              refine lv_iconst (v := 4) hx hb dX6_networkCalls_143 (by decide) ?_
              refine lv_iconst (v := 0) hx hb dX6_networkCalls_144 (by decide) ?_
              have hV : rfV G ad ce T Q M := ⟨_, _, _, _, ⟨h100, h101, h102, h103, h104, h105, h106, h107, h108, h109, h110, h111⟩, hQ, hM⟩
              refine z_invV F (rest := []) (r_become1 l T Q M hV 3 4 0) yv_X6_83 ⟨Nat.le_of_ble_eq_true rfl, Nat.le_of_ble_eq_true rfl⟩ hw hA hS hl h100 rfl rfl rfl (Nat.le_of_ble_eq_true rfl) dX6_networkCalls_145 ⟨Nat.le_of_ble_eq_true rfl, Nat.le_of_ble_eq_true rfl⟩ (fun r ad1 ce10 H locs hp hw hS => ?_)
              obtain ⟨rfl, rfl, hV, hF2⟩ := hp
              have hF : ∀ j, j < 100 → ce10 j = ce j := fun j hj => (hF2 j hj).trans (hF j hj)
              obtain ⟨cn, zs, bs, hh, ⟨h100, h101, h102, h103, h104, h105, h106, h107, h108, h109, h110, h111⟩, hQ, hM⟩ := hV
              refine W.eq (g2 := F0 m 148 ls []) rfl ?_
              refine lv_iconst (v := 1) hx hb dX6_networkCalls_148 (by decide) ?_
              exact z_iret F (rfl) hw hS (by unfold sp_networkCalls; rw [if_pos c7, if_pos c21, if_pos c30, if_pos hfn, if_pos c127, if_pos c137]; exact ⟨rfl, rfl, ⟨_, _, _, _, ⟨h100, h101, h102, h103, h104, h105, h106, h107, h108, h109, h110, h111⟩, hQ, hM⟩, hF⟩) dX6_networkCalls_149
        · have hfd := rf_i_s hfn
          have hl : lv_has ls 4 [(2, .int (nI (rf_i M 94 + 2))), (0, .ref (ad 100)), (1, .int (nI ty))] := by rw [show nI (rf_i M 94 + 2) = rf_at M 94 from by rw [rf_at, hfd]]; exact hl
          obtain ⟨hi2, hlt⟩ := rf_find_in M 94 24 2 _ hfd
          have hin := rf_find_good M 94 24 2 _ hfd hg
          have hM24 := hM.1
          have hb8 := (hM.2 (rf_i M 94 + 1) hlt).2
          refine lv_iload_n hx hb dX6_networkCalls_33 rfl (lv_at hl 0 rfl) ?_
          refine lv_bipush (v := -3) hx hb dX6_networkCalls_34 (by decide) ?_
          refine lv_icmp_eq (tgt := 124) hx hb dX6_networkCalls_36 (by decide) (fun c36 => absurd c36 (fun q => nI_pos (n := rf_i M 94 + 2) (by omega) (by rw [q]; decide))) (fun c36 => ?_)
          refine lv_aload_n hx hb dX6_networkCalls_39 rfl (lv_at hl 1 rfl) ?_
          refine z_get F hw h100 fd_X6_48_X6 rfl dX6_networkCalls_40 ?_
          refine lv_iload_n hx hb dX6_networkCalls_43 rfl (lv_at hl 0 rfl) ?_
          refine lv_iconst (v := 1) hx hb dX6_networkCalls_44 (by decide) ?_
          refine lv_isub hx hb dX6_networkCalls_45 ?_
          refine z_top (nI (rf_i M 94 + 1)) (nI_pred _) ?_
          refine z_ld F hw h111 (rf_i M 94 + 1) (rfl) (by omega) (by decide) dX6_networkCalls_46 ?_
          refine z_top (nI (M.getD (rf_i M 94 + 1) 0)) ((hM.2 (rf_i M 94 + 1) hlt).1) ?_
          refine lv_iconst (v := 1) hx hb dX6_networkCalls_47 (by decide) ?_
          refine lv_icmp_lt (tgt := 124) hx hb dX6_networkCalls_48 (by decide) (fun c48 => ?_) (fun c48 => ?_)
          · refine lv_iload_n hx hb dX6_networkCalls_124 rfl (lv_at hl 2 rfl) ?_
            refine lv_bipush (v := 15) hx hb dX6_networkCalls_125 (by decide) ?_
            refine lv_icmp_ne (tgt := 150) hx hb dX6_networkCalls_127 (by decide) (fun c127 => ?_) (fun c127 => ?_)
            · refine lv_aload_n hx hb dX6_networkCalls_150 rfl (lv_at hl 1 rfl) ?_
              refine lv_iconst (v := 1) hx hb dX6_networkCalls_151 (by decide) ?_
              refine lv_iload_n hx hb dX6_networkCalls_152 rfl (lv_at hl 2 rfl) ?_
              have hV : rfV G ad ce T Q M := ⟨_, _, _, _, ⟨h100, h101, h102, h103, h104, h105, h106, h107, h108, h109, h110, h111⟩, hQ, hM⟩
              refine z_invV F (rest := []) (r_closes1 l T Q M hV hg ty hty) yv_X6_122 ⟨Nat.le_of_ble_eq_true rfl, Nat.le_of_ble_eq_true rfl⟩ hw hA hS hl h100 rfl rfl rfl (Nat.le_of_ble_eq_true rfl) dX6_networkCalls_153 ⟨Nat.le_of_ble_eq_true rfl, Nat.le_of_ble_eq_true rfl⟩ (fun r ad1 ce11 H locs hp hw hS => ?_)
              obtain ⟨rfl, rfl, hV, hF2⟩ := hp
              have hF : ∀ j, j < 100 → ce11 j = ce j := fun j hj => (hF2 j hj).trans (hF j hj)
              obtain ⟨cn, zs, bs, hh, ⟨h100, h101, h102, h103, h104, h105, h106, h107, h108, h109, h110, h111⟩, hQ, hM⟩ := hV
              refine W.eq (g2 := F0 m 156 ls [.int ((sp_closes T Q M 1 ty).1)]) rfl ?_
              exact z_iret F (sp_closes_b _ _ _ _ _) hw hS (by unfold sp_networkCalls; rw [if_pos c7, if_pos c21, if_pos c30, if_neg hfn, if_pos c48, if_neg c127]; exact ⟨rfl, rfl, ⟨_, _, _, _, ⟨h100, h101, h102, h103, h104, h105, h106, h107, h108, h109, h110, h111⟩, hQ, hM⟩, hF⟩) dX6_networkCalls_156
            · refine lv_aload_n hx hb dX6_networkCalls_130 rfl (lv_at hl 1 rfl) ?_
              refine z_get F hw h100 fd_X6_26_X6 rfl dX6_networkCalls_131 ?_
              refine lv_iconst (v := 1) hx hb dX6_networkCalls_134 (by decide) ?_
              refine z_ld F hw h105 (1) (rfl) (by decide) (by decide) dX6_networkCalls_135 ?_
              refine lv_iconst (v := 3) hx hb dX6_networkCalls_136 (by decide) ?_
              refine lv_icmp_ne (tgt := 150) hx hb dX6_networkCalls_137 (by decide) (fun c137 => ?_) (fun c137 => ?_)
              · refine lv_aload_n hx hb dX6_networkCalls_150 rfl (lv_at hl 1 rfl) ?_
                refine lv_iconst (v := 1) hx hb dX6_networkCalls_151 (by decide) ?_
                refine lv_iload_n hx hb dX6_networkCalls_152 rfl (lv_at hl 2 rfl) ?_
                have hV : rfV G ad ce T Q M := ⟨_, _, _, _, ⟨h100, h101, h102, h103, h104, h105, h106, h107, h108, h109, h110, h111⟩, hQ, hM⟩
                refine z_invV F (rest := []) (r_closes1 l T Q M hV hg ty hty) yv_X6_122 ⟨Nat.le_of_ble_eq_true rfl, Nat.le_of_ble_eq_true rfl⟩ hw hA hS hl h100 rfl rfl rfl (Nat.le_of_ble_eq_true rfl) dX6_networkCalls_153 ⟨Nat.le_of_ble_eq_true rfl, Nat.le_of_ble_eq_true rfl⟩ (fun r ad1 ce12 H locs hp hw hS => ?_)
                obtain ⟨rfl, rfl, hV, hF2⟩ := hp
                have hF : ∀ j, j < 100 → ce12 j = ce j := fun j hj => (hF2 j hj).trans (hF j hj)
                obtain ⟨cn, zs, bs, hh, ⟨h100, h101, h102, h103, h104, h105, h106, h107, h108, h109, h110, h111⟩, hQ, hM⟩ := hV
                refine W.eq (g2 := F0 m 156 ls [.int ((sp_closes T Q M 1 ty).1)]) rfl ?_
                exact z_iret F (sp_closes_b _ _ _ _ _) hw hS (by unfold sp_networkCalls; rw [if_pos c7, if_pos c21, if_pos c30, if_neg hfn, if_pos c48, if_pos c127, if_neg c137]; exact ⟨rfl, rfl, ⟨_, _, _, _, ⟨h100, h101, h102, h103, h104, h105, h106, h107, h108, h109, h110, h111⟩, hQ, hM⟩, hF⟩) dX6_networkCalls_156
              · refine lv_aload_n hx hb dX6_networkCalls_140 rfl (lv_at hl 1 rfl) ?_
                refine lv_iconst (v := 1) hx hb dX6_networkCalls_141 (by decide) ?_
                refine lv_iconst (v := 3) hx hb dX6_networkCalls_142 (by decide) ?_
                refine lv_iconst (v := 4) hx hb dX6_networkCalls_143 (by decide) ?_
                refine lv_iconst (v := 0) hx hb dX6_networkCalls_144 (by decide) ?_
                have hV : rfV G ad ce T Q M := ⟨_, _, _, _, ⟨h100, h101, h102, h103, h104, h105, h106, h107, h108, h109, h110, h111⟩, hQ, hM⟩
                refine z_invV F (rest := []) (r_become1 l T Q M hV 3 4 0) yv_X6_83 ⟨Nat.le_of_ble_eq_true rfl, Nat.le_of_ble_eq_true rfl⟩ hw hA hS hl h100 rfl rfl rfl (Nat.le_of_ble_eq_true rfl) dX6_networkCalls_145 ⟨Nat.le_of_ble_eq_true rfl, Nat.le_of_ble_eq_true rfl⟩ (fun r ad1 ce13 H locs hp hw hS => ?_)
                obtain ⟨rfl, rfl, hV, hF2⟩ := hp
                have hF : ∀ j, j < 100 → ce13 j = ce j := fun j hj => (hF2 j hj).trans (hF j hj)
                obtain ⟨cn, zs, bs, hh, ⟨h100, h101, h102, h103, h104, h105, h106, h107, h108, h109, h110, h111⟩, hQ, hM⟩ := hV
                refine W.eq (g2 := F0 m 148 ls []) rfl ?_
                refine lv_iconst (v := 1) hx hb dX6_networkCalls_148 (by decide) ?_
                exact z_iret F (rfl) hw hS (by unfold sp_networkCalls; rw [if_pos c7, if_pos c21, if_pos c30, if_neg hfn, if_pos c48, if_pos c127, if_pos c137]; exact ⟨rfl, rfl, ⟨_, _, _, _, ⟨h100, h101, h102, h103, h104, h105, h106, h107, h108, h109, h110, h111⟩, hQ, hM⟩, hF⟩) dX6_networkCalls_149
          · refine lv_aload_n hx hb dX6_networkCalls_51 rfl (lv_at hl 1 rfl) ?_
            refine z_get F hw h100 fd_X6_48_X6 rfl dX6_networkCalls_52 ?_
            refine lv_iload_n hx hb dX6_networkCalls_55 rfl (lv_at hl 0 rfl) ?_
            refine lv_iconst (v := 1) hx hb dX6_networkCalls_56 (by decide) ?_
            refine lv_isub hx hb dX6_networkCalls_57 ?_
            refine z_top (nI (rf_i M 94 + 1)) (nI_pred _) ?_
            refine z_ld F hw h111 (rf_i M 94 + 1) (rfl) (by omega) (by decide) dX6_networkCalls_58 ?_
            refine z_top (nI (M.getD (rf_i M 94 + 1) 0)) ((hM.2 (rf_i M 94 + 1) hlt).1) ?_
            refine lv_bipush (v := 8) hx hb dX6_networkCalls_59 (by decide) ?_
            refine lv_icmp_gt (tgt := 124) hx hb dX6_networkCalls_61 (by decide) (fun c61 => ?_) (fun c61 => ?_)
            · refine lv_iload_n hx hb dX6_networkCalls_124 rfl (lv_at hl 2 rfl) ?_
              refine lv_bipush (v := 15) hx hb dX6_networkCalls_125 (by decide) ?_
              refine lv_icmp_ne (tgt := 150) hx hb dX6_networkCalls_127 (by decide) (fun c127 => ?_) (fun c127 => ?_)
              · refine lv_aload_n hx hb dX6_networkCalls_150 rfl (lv_at hl 1 rfl) ?_
                refine lv_iconst (v := 1) hx hb dX6_networkCalls_151 (by decide) ?_
                refine lv_iload_n hx hb dX6_networkCalls_152 rfl (lv_at hl 2 rfl) ?_
                have hV : rfV G ad ce T Q M := ⟨_, _, _, _, ⟨h100, h101, h102, h103, h104, h105, h106, h107, h108, h109, h110, h111⟩, hQ, hM⟩
                refine z_invV F (rest := []) (r_closes1 l T Q M hV hg ty hty) yv_X6_122 ⟨Nat.le_of_ble_eq_true rfl, Nat.le_of_ble_eq_true rfl⟩ hw hA hS hl h100 rfl rfl rfl (Nat.le_of_ble_eq_true rfl) dX6_networkCalls_153 ⟨Nat.le_of_ble_eq_true rfl, Nat.le_of_ble_eq_true rfl⟩ (fun r ad1 ce14 H locs hp hw hS => ?_)
                obtain ⟨rfl, rfl, hV, hF2⟩ := hp
                have hF : ∀ j, j < 100 → ce14 j = ce j := fun j hj => (hF2 j hj).trans (hF j hj)
                obtain ⟨cn, zs, bs, hh, ⟨h100, h101, h102, h103, h104, h105, h106, h107, h108, h109, h110, h111⟩, hQ, hM⟩ := hV
                refine W.eq (g2 := F0 m 156 ls [.int ((sp_closes T Q M 1 ty).1)]) rfl ?_
                exact z_iret F (sp_closes_b _ _ _ _ _) hw hS (by unfold sp_networkCalls; rw [if_pos c7, if_pos c21, if_pos c30, if_neg hfn, if_neg c48, if_pos c61, if_neg c127]; exact ⟨rfl, rfl, ⟨_, _, _, _, ⟨h100, h101, h102, h103, h104, h105, h106, h107, h108, h109, h110, h111⟩, hQ, hM⟩, hF⟩) dX6_networkCalls_156
              · refine lv_aload_n hx hb dX6_networkCalls_130 rfl (lv_at hl 1 rfl) ?_
                refine z_get F hw h100 fd_X6_26_X6 rfl dX6_networkCalls_131 ?_
                refine lv_iconst (v := 1) hx hb dX6_networkCalls_134 (by decide) ?_
                refine z_ld F hw h105 (1) (rfl) (by decide) (by decide) dX6_networkCalls_135 ?_
                refine lv_iconst (v := 3) hx hb dX6_networkCalls_136 (by decide) ?_
                refine lv_icmp_ne (tgt := 150) hx hb dX6_networkCalls_137 (by decide) (fun c137 => ?_) (fun c137 => ?_)
                · refine lv_aload_n hx hb dX6_networkCalls_150 rfl (lv_at hl 1 rfl) ?_
                  refine lv_iconst (v := 1) hx hb dX6_networkCalls_151 (by decide) ?_
                  refine lv_iload_n hx hb dX6_networkCalls_152 rfl (lv_at hl 2 rfl) ?_
                  have hV : rfV G ad ce T Q M := ⟨_, _, _, _, ⟨h100, h101, h102, h103, h104, h105, h106, h107, h108, h109, h110, h111⟩, hQ, hM⟩
                  refine z_invV F (rest := []) (r_closes1 l T Q M hV hg ty hty) yv_X6_122 ⟨Nat.le_of_ble_eq_true rfl, Nat.le_of_ble_eq_true rfl⟩ hw hA hS hl h100 rfl rfl rfl (Nat.le_of_ble_eq_true rfl) dX6_networkCalls_153 ⟨Nat.le_of_ble_eq_true rfl, Nat.le_of_ble_eq_true rfl⟩ (fun r ad1 ce15 H locs hp hw hS => ?_)
                  obtain ⟨rfl, rfl, hV, hF2⟩ := hp
                  have hF : ∀ j, j < 100 → ce15 j = ce j := fun j hj => (hF2 j hj).trans (hF j hj)
                  obtain ⟨cn, zs, bs, hh, ⟨h100, h101, h102, h103, h104, h105, h106, h107, h108, h109, h110, h111⟩, hQ, hM⟩ := hV
                  refine W.eq (g2 := F0 m 156 ls [.int ((sp_closes T Q M 1 ty).1)]) rfl ?_
                  exact z_iret F (sp_closes_b _ _ _ _ _) hw hS (by unfold sp_networkCalls; rw [if_pos c7, if_pos c21, if_pos c30, if_neg hfn, if_neg c48, if_pos c61, if_pos c127, if_neg c137]; exact ⟨rfl, rfl, ⟨_, _, _, _, ⟨h100, h101, h102, h103, h104, h105, h106, h107, h108, h109, h110, h111⟩, hQ, hM⟩, hF⟩) dX6_networkCalls_156
                · refine lv_aload_n hx hb dX6_networkCalls_140 rfl (lv_at hl 1 rfl) ?_
                  refine lv_iconst (v := 1) hx hb dX6_networkCalls_141 (by decide) ?_
                  refine lv_iconst (v := 3) hx hb dX6_networkCalls_142 (by decide) ?_
                  refine lv_iconst (v := 4) hx hb dX6_networkCalls_143 (by decide) ?_
                  refine lv_iconst (v := 0) hx hb dX6_networkCalls_144 (by decide) ?_
                  have hV : rfV G ad ce T Q M := ⟨_, _, _, _, ⟨h100, h101, h102, h103, h104, h105, h106, h107, h108, h109, h110, h111⟩, hQ, hM⟩
                  refine z_invV F (rest := []) (r_become1 l T Q M hV 3 4 0) yv_X6_83 ⟨Nat.le_of_ble_eq_true rfl, Nat.le_of_ble_eq_true rfl⟩ hw hA hS hl h100 rfl rfl rfl (Nat.le_of_ble_eq_true rfl) dX6_networkCalls_145 ⟨Nat.le_of_ble_eq_true rfl, Nat.le_of_ble_eq_true rfl⟩ (fun r ad1 ce16 H locs hp hw hS => ?_)
                  obtain ⟨rfl, rfl, hV, hF2⟩ := hp
                  have hF : ∀ j, j < 100 → ce16 j = ce j := fun j hj => (hF2 j hj).trans (hF j hj)
                  obtain ⟨cn, zs, bs, hh, ⟨h100, h101, h102, h103, h104, h105, h106, h107, h108, h109, h110, h111⟩, hQ, hM⟩ := hV
                  refine W.eq (g2 := F0 m 148 ls []) rfl ?_
                  refine lv_iconst (v := 1) hx hb dX6_networkCalls_148 (by decide) ?_
                  exact z_iret F (rfl) hw hS (by unfold sp_networkCalls; rw [if_pos c7, if_pos c21, if_pos c30, if_neg hfn, if_neg c48, if_pos c61, if_pos c127, if_pos c137]; exact ⟨rfl, rfl, ⟨_, _, _, _, ⟨h100, h101, h102, h103, h104, h105, h106, h107, h108, h109, h110, h111⟩, hQ, hM⟩, hF⟩) dX6_networkCalls_149
            · have hn8 : M.getD (rf_i M 94 + 1) 0 ≤ 8 := Nat.le_of_not_lt (fun q => c61 (nI_lt (a := 8) q (by omega)))
              refine lv_aload_n hx hb dX6_networkCalls_64 rfl (lv_at hl 1 rfl) ?_
              refine lv_aload_n hx hb dX6_networkCalls_65 rfl (lv_at hl 1 rfl) ?_
              refine z_get F hw h100 fd_X6_48_X6 rfl dX6_networkCalls_66 ?_
              refine lv_iload_n hx hb dX6_networkCalls_69 rfl (lv_at hl 0 rfl) ?_
              refine lv_iconst (v := 1) hx hb dX6_networkCalls_70 (by decide) ?_
              refine lv_isub hx hb dX6_networkCalls_71 ?_
              refine z_top (nI (rf_i M 94 + 1)) (nI_pred _) ?_
              refine z_ld F hw h111 (rf_i M 94 + 1) (rfl) (by omega) (by decide) dX6_networkCalls_72 ?_
              refine z_top (nI (M.getD (rf_i M 94 + 1) 0)) ((hM.2 (rf_i M 94 + 1) hlt).1) ?_
              refine z_put F hw hS (fs' := [.int (T 0 0), .int (T 0 1), .int (T 0 2), .int (T 0 3), .int (T 0 4), .ref (ad 101), .ref (ad 102), .ref (ad 103), .int (T 0 5), .ref (ad 104), .ref (ad 105), .ref (ad 106), .ref (ad 107), .ref (ad 108), .int (T 0 6), .int (T 0 7), .int (T 0 8), .ref (ad 109), .int (T 0 9), .ref (ad 110), .int (nI (M.getD (rf_i M 94 + 1) 0)), .int (nI M.length), .ref (ad 111)]) h100 fd_X6_135_X6 ptX6 rfl (rfl) (rfl) (Nat.le_of_ble_eq_true rfl) rfl dX6_networkCalls_73 (fun ce17 H locs h100 fr18 hw hS => ?_)
              have h101 := (fr18 101 (by decide)).trans h101
              have h102 := (fr18 102 (by decide)).trans h102
              have h103 := (fr18 103 (by decide)).trans h103
              have h104 := (fr18 104 (by decide)).trans h104
              have h105 := (fr18 105 (by decide)).trans h105
              have h106 := (fr18 106 (by decide)).trans h106
              have h107 := (fr18 107 (by decide)).trans h107
              have h108 := (fr18 108 (by decide)).trans h108
              have h109 := (fr18 109 (by decide)).trans h109
              have h110 := (fr18 110 (by decide)).trans h110
              have h111 := (fr18 111 (by decide)).trans h111
              have hF : ∀ j, j < 100 → _ = ce j := fun j hj => (fr18 j (by omega)).trans (hF j hj)
              refine lv_iconst (v := 0) hx hb dX6_networkCalls_76 (by decide) ?_
              refine lv_istore_n (lv' := [(3, .int 0), (2, .int (nI (rf_i M 94 + 2))), (0, .ref (ad 100)), (1, .int (nI ty))]) hx hb dX6_networkCalls_77 rfl hl (by decide) rfl (fun ls hl => ?_)
              refine z_loop (α := Nat) (fun t => M.getD (rf_i M 94 + 1) 0 - t) (fun t ce9 ls9 => lv_has ls9 4 [(0, .ref (ad 100)), (1, .int (nI ty)), (2, .int (nI (rf_i M 94 + 2))), (3, .int (nI t))] ∧ ce9 110 = some (.inl (zz_cI G, 8, .inl (rf_cp (T 7) M (rf_i M 94) t))) ∧ (∀ j, j ≠ 110 → ce9 j = ce17 j) ∧ t ≤ M.getD (rf_i M 94 + 1) 0) 0 ⟨lv_sub hl [2, 3, 1, 0] rfl, h110, fun _ _ => rfl, Nat.zero_le _⟩ hw hS (fun t ih78 ce9 H locs ls hI hw hS => ?_)
              obtain ⟨hl, h110, frA, htn⟩ := hI
              have h100 := (frA 100 (by decide)).trans h100
              have h101 := (frA 101 (by decide)).trans h101
              have h102 := (frA 102 (by decide)).trans h102
              have h103 := (frA 103 (by decide)).trans h103
              have h104 := (frA 104 (by decide)).trans h104
              have h105 := (frA 105 (by decide)).trans h105
              have h106 := (frA 106 (by decide)).trans h106
              have h107 := (frA 107 (by decide)).trans h107
              have h108 := (frA 108 (by decide)).trans h108
              have h109 := (frA 109 (by decide)).trans h109
              have h111 := (frA 111 (by decide)).trans h111
              have hF : ∀ j, j < 100 → ce9 j = ce j := fun j hj => (frA j (by omega)).trans (hF j hj)
              refine lv_iload_n hx hb dX6_networkCalls_78 rfl (lv_at hl 3 rfl) ?_
              refine lv_aload_n hx hb dX6_networkCalls_79 rfl (lv_at hl 0 rfl) ?_
              refine z_get F hw h100 fd_X6_135_X6 rfl dX6_networkCalls_80 ?_
              refine lv_icmp_ge (tgt := 106) hx hb dX6_networkCalls_83 (by decide) (fun c83 => ?_) (fun c83 => ?_)
              · have hte : t = M.getD (rf_i M 94 + 1) 0 := Nat.le_antisymm htn (Nat.le_of_not_lt (fun q => absurd c83 (nI_ge q (by omega))))
                rw [hte] at h110
                refine lv_aload_n hx hb dX6_networkCalls_106 rfl (lv_at hl 0 rfl) ?_
                refine lv_iconst (v := 1) hx hb dX6_networkCalls_107 (by decide) ?_
                refine lv_iconst (v := 3) hx hb dX6_networkCalls_108 (by decide) ?_
                refine lv_iconst (v := 2) hx hb dX6_networkCalls_109 (by decide) ?_
                have hV : rfV G ad ce9 (va_up (va_up T 0 (va_up (T 0) 10 (nI (M.getD (rf_i M 94 + 1) 0)))) 7 (rf_cp (T 7) M (rf_i M 94) (M.getD (rf_i M 94 + 1) 0))) Q M := ⟨_, _, _, _, ⟨h100, h101, h102, h103, h104, h105, h106, h107, h108, h109, h110, h111⟩, hQ, hM⟩
                refine z_invV F (rest := []) (r_put1 l (va_up (va_up T 0 (va_up (T 0) 10 (nI (M.getD (rf_i M 94 + 1) 0)))) 7 (rf_cp (T 7) M (rf_i M 94) (M.getD (rf_i M 94 + 1) 0))) Q M hV 3 2 (by decide) (by decide)) yv_X6_64 ⟨Nat.le_of_ble_eq_true rfl, Nat.le_of_ble_eq_true rfl⟩ hw hA hS hl h100 rfl rfl rfl (Nat.le_of_ble_eq_true rfl) dX6_networkCalls_110 ⟨Nat.le_of_ble_eq_true rfl, Nat.le_of_ble_eq_true rfl⟩ (fun r ad1 ce19 H locs hp hw hS => ?_)
                obtain ⟨rfl, rfl, hV, hF2⟩ := hp
                have hF : ∀ j, j < 100 → ce19 j = ce j := fun j hj => (hF2 j hj).trans (hF j hj)
                obtain ⟨cn, zs, bs, hh, ⟨h100, h101, h102, h103, h104, h105, h106, h107, h108, h109, h110, h111⟩, hQ, hM⟩ := hV
                refine W.eq (g2 := F0 m 113 ls [.int (rf_hd (va_up (va_up T 0 (va_up (T 0) 10 (nI (M.getD (rf_i M 94 + 1) 0)))) 7 (rf_cp (T 7) M (rf_i M 94) (M.getD (rf_i M 94 + 1) 0))) Q 1)]) rfl ?_
                refine lv_istore_n (lv' := [(3, .int (rf_hd (va_up (va_up T 0 (va_up (T 0) 10 (nI (M.getD (rf_i M 94 + 1) 0)))) 7 (rf_cp (T 7) M (rf_i M 94) (M.getD (rf_i M 94 + 1) 0))) Q 1)), (0, .ref (ad 100)), (1, .int (nI ty)), (2, .int (nI (rf_i M 94 + 2)))]) hx hb dX6_networkCalls_113 rfl hl (by decide) rfl (fun ls hl => ?_)
                refine lv_aload_n hx hb dX6_networkCalls_114 rfl (lv_at hl 1 rfl) ?_
                refine lv_iconst (v := 1) hx hb dX6_networkCalls_115 (by decide) ?_
                refine lv_iconst (v := 3) hx hb dX6_networkCalls_116 (by decide) ?_
                refine lv_iconst (v := 1) hx hb dX6_networkCalls_117 (by decide) ?_
                refine lv_iconst (v := 0) hx hb dX6_networkCalls_118 (by decide) ?_
                have hV : rfV G ad ce19 (va_up (va_up T 0 (va_up (T 0) 10 (nI (M.getD (rf_i M 94 + 1) 0)))) 7 (rf_cp (T 7) M (rf_i M 94) (M.getD (rf_i M 94 + 1) 0))) (rf_put (va_up (va_up T 0 (va_up (T 0) 10 (nI (M.getD (rf_i M 94 + 1) 0)))) 7 (rf_cp (T 7) M (rf_i M 94) (M.getD (rf_i M 94 + 1) 0))) Q 1 [3, 2]) M := ⟨_, _, _, _, ⟨h100, h101, h102, h103, h104, h105, h106, h107, h108, h109, h110, h111⟩, hQ, hM⟩
                refine z_invV F (rest := []) (r_become1 l (va_up (va_up T 0 (va_up (T 0) 10 (nI (M.getD (rf_i M 94 + 1) 0)))) 7 (rf_cp (T 7) M (rf_i M 94) (M.getD (rf_i M 94 + 1) 0))) (rf_put (va_up (va_up T 0 (va_up (T 0) 10 (nI (M.getD (rf_i M 94 + 1) 0)))) 7 (rf_cp (T 7) M (rf_i M 94) (M.getD (rf_i M 94 + 1) 0))) Q 1 [3, 2]) M hV 3 1 0) yv_X6_83 ⟨Nat.le_of_ble_eq_true rfl, Nat.le_of_ble_eq_true rfl⟩ hw hA hS hl h100 rfl rfl rfl (Nat.le_of_ble_eq_true rfl) dX6_networkCalls_119 ⟨Nat.le_of_ble_eq_true rfl, Nat.le_of_ble_eq_true rfl⟩ (fun r ad1 ce20 H locs hp hw hS => ?_)
                obtain ⟨rfl, rfl, hV, hF2⟩ := hp
                have hF : ∀ j, j < 100 → ce20 j = ce j := fun j hj => (hF2 j hj).trans (hF j hj)
                obtain ⟨cn, zs, bs, hh, ⟨h100, h101, h102, h103, h104, h105, h106, h107, h108, h109, h110, h111⟩, hQ, hM⟩ := hV
                refine W.eq (g2 := F0 m 122 ls []) rfl ?_
                refine lv_iconst (v := 1) hx hb dX6_networkCalls_122 (by decide) ?_
                exact z_iret F (rfl) hw hS (by unfold sp_networkCalls; rw [if_pos c7, if_pos c21, if_pos c30, if_neg hfn, if_neg c48, if_neg c61]; exact ⟨rfl, rfl, ⟨_, _, _, _, ⟨h100, h101, h102, h103, h104, h105, h106, h107, h108, h109, h110, h111⟩, hQ, hM⟩, hF⟩) dX6_networkCalls_123
              · have htl : t < M.getD (rf_i M 94 + 1) 0 := Nat.lt_of_not_le (fun q => c83 (nI_le q (by omega)))
                refine lv_aload_n hx hb dX6_networkCalls_86 rfl (lv_at hl 0 rfl) ?_
                refine z_get F hw h100 fd_X6_45_X6 rfl dX6_networkCalls_87 ?_
                refine lv_iload_n hx hb dX6_networkCalls_90 rfl (lv_at hl 3 rfl) ?_
                refine lv_aload_n hx hb dX6_networkCalls_91 rfl (lv_at hl 0 rfl) ?_
                refine z_get F hw h100 fd_X6_48_X6 rfl dX6_networkCalls_92 ?_
                refine lv_iload_n hx hb dX6_networkCalls_95 rfl (lv_at hl 2 rfl) ?_
                refine lv_iload_n hx hb dX6_networkCalls_96 rfl (lv_at hl 3 rfl) ?_
                refine lv_iadd hx hb dX6_networkCalls_97 ?_
                refine z_top (nI (rf_i M 94 + 2 + t)) (nI_add _ _) ?_
                refine z_ld F hw h111 (rf_i M 94 + 2 + t) (rfl) (by omega) (by decide) dX6_networkCalls_98 ?_
                refine z_top (nI (M.getD (rf_i M 94 + 2 + t) 0)) ((hM.2 _ (by omega)).1) ?_
                refine z_st F hw hS h110 (t) (rfl) (by omega) (by decide) dX6_networkCalls_99 (fun ce21 H locs h110 fr22 hw hS => ?_)
                have h100 := (fr22 100 (by decide)).trans h100
                have h101 := (fr22 101 (by decide)).trans h101
                have h102 := (fr22 102 (by decide)).trans h102
                have h103 := (fr22 103 (by decide)).trans h103
                have h104 := (fr22 104 (by decide)).trans h104
                have h105 := (fr22 105 (by decide)).trans h105
                have h106 := (fr22 106 (by decide)).trans h106
                have h107 := (fr22 107 (by decide)).trans h107
                have h108 := (fr22 108 (by decide)).trans h108
                have h109 := (fr22 109 (by decide)).trans h109
                have h111 := (fr22 111 (by decide)).trans h111
                have hF : ∀ j, j < 100 → _ = ce j := fun j hj => (fr22 j (by omega)).trans (hF j hj)
                refine lv_iinc (v := nI (t + 1)) (lv' := [(3, .int (nI (t + 1))), (0, .ref (ad 100)), (1, .int (nI ty)), (2, .int (nI (rf_i M 94 + 2)))]) hx hb dX6_networkCalls_100 hl (k := 3) rfl (nI_1 t) (by decide) rfl (fun ls hl => ?_)
                refine lv_goto (tgt := 78) hx hb dX6_networkCalls_103 (by decide) ?_
                exact ih78 (t + 1) _ _ _ _ (by omega) ⟨lv_sub hl [1, 2, 3, 0] rfl, h110, fun j hj => (fr22 j hj).trans (frA j hj), by omega⟩ hw hS
  · refine lv_iconst (v := 0) hx hb dX6_networkCalls_10 (by decide) ?_
    exact z_iret F (rfl) hw hS (by unfold sp_networkCalls; rw [if_neg c7]; exact ⟨rfl, rfl, ⟨_, _, _, _, ⟨h100, h101, h102, h103, h104, h105, h106, h107, h108, h109, h110, h111⟩, hQ, hM⟩, hF⟩) dX6_networkCalls_11
end
section
theorem rf_hdtl {q : List (List Nat)} (h : ¬ nI q.length = 0) : q = q.headD [] :: q.tail := by
  cases q with
  | nil => exact absurd rfl h
  | cons a l => rfl
theorem rfQ_first {cn zs bs : Nat → Int32} {Q : rf_Q} {w : Nat} (h : rfQ cn zs bs Q) (hw : w < 2) (hq : ¬ nI (Q w).length = 0) : rfm zs bs (8 * w + 0) ((Q w).headD []) := by
  have e := rf_hdtl hq
  obtain ⟨g1, g2, g3⟩ := h w hw
  have h3 := g3 0 (by rw [e]; simp)
  rw [e] at h3
  simpa using h3
def sp_lose0 (T : rf_T) (Q : rf_Q) (M : List Nat) : rf_R := (if ((nI (Q 0).length) : Int32) = 0 then ((-3), T, Q) else ((nI (((Q 0).headD []).getD 1 0)), T, va_up Q 0 ((Q 0).tail)))
set_option maxHeartbeats 4000000 in
set_option maxRecDepth 100000 in
theorem r_lose0 (l : Launch) {G : zz_G} {ad : Nat → Nat} {ce : zz_C} {sz : Nat} (T : rf_T) (Q : rf_Q) (M : List Nat) (hV : rfV G ad ce T Q M) : zz_M l yX6_lose cX6_lose 2 (some .int) 1 24 0 0 G [.ref (ad 100), .int 0] ad ce sz (fun r ad1 ce1 => r = some (.int (sp_lose0 T Q M).1) ∧ ad = ad1 ∧ (∃ M1, rfV G ad ce1 (sp_lose0 T Q M).2.1 (sp_lose0 T Q M).2.2 M1) ∧ (∀ j, j < 100 → ce1 j = ce j)) := by
  refine zz_enter (by decide) (Nat.le_of_ble_eq_true rfl) ?_
  intro p e s m below meth c ls F hl hw hS hA
  obtain ⟨hx, hb, hr, hml, hown, hts, hlocks, hK, hnm⟩ := id F
  have hl : lv_has ls 2 [(0, .ref (ad 100)), (1, .int 0)] := hl
  obtain ⟨cn, zs, bs, hh, ⟨h100, h101, h102, h103, h104, h105, h106, h107, h108, h109, h110, h111⟩, hQ, hM⟩ := hV
  have hF : ∀ j, j < 100 → ce j = ce j := fun _ _ => rfl
  refine lv_iload_n hx hb dX6_lose_0 rfl (lv_at hl 1 rfl) ?_
  refine z_invS F (rest := []) (r_isWay l 0) ys_X6_145 ⟨Nat.le_of_ble_eq_true rfl, Nat.le_of_ble_eq_true rfl⟩ hw hA hS hl rfl rfl (Nat.le_of_ble_eq_true rfl) dX6_lose_1 ⟨Nat.le_of_ble_eq_true rfl, Nat.le_of_ble_eq_true rfl⟩ (fun r ad1 ce1 H locs hp hw hS => ?_)
  obtain ⟨hp, rfl, rfl⟩ := hp
  rcases hp with ⟨-, rfl⟩ | ⟨hn9, rfl⟩
  rotate_left
  · exact absurd (Or.inl rfl) hn9
  refine W.eq (g2 := F0 m 4 ls [.int 1]) rfl ?_
  refine lv_if_ne (tgt := 9) hx hb dX6_lose_4 (by decide) (fun c4 => ?_) (fun c4 => absurd c4 (by decide))
  refine lv_aload_n hx hb dX6_lose_9 rfl (lv_at hl 0 rfl) ?_
  refine z_get F hw h100 fd_X6_13_X6 rfl dX6_lose_10 ?_
  refine lv_iload_n hx hb dX6_lose_13 rfl (lv_at hl 1 rfl) ?_
  refine z_ld F hw h101 (0) (rfl) (by decide) (by decide) dX6_lose_14 ?_
  refine z_top (nI (Q 0).length) ((hQ 0 (by decide)).2.1) ?_
  refine lv_if_ne (tgt := 21) hx hb dX6_lose_15 (by decide) (fun c15 => ?_) (fun c15 => ?_)
  · have hq := rf_hdtl c15
    obtain ⟨hx2, hx24, -, -⟩ := rfQ_first hQ (by decide) c15
    refine lv_aload_n hx hb dX6_lose_21 rfl (lv_at hl 0 rfl) ?_
    refine lv_iload_n hx hb dX6_lose_22 rfl (lv_at hl 1 rfl) ?_
    have hV : rfV G ad ce T Q M := ⟨_, _, _, _, ⟨h100, h101, h102, h103, h104, h105, h106, h107, h108, h109, h110, h111⟩, hQ, hM⟩
    refine z_invV F (rest := []) (r_take0 l T Q M hV ((Q 0).headD []) ((Q 0).tail) hq) yv_X6_149 ⟨Nat.le_of_ble_eq_true rfl, Nat.le_of_ble_eq_true rfl⟩ hw hA hS hl h100 rfl rfl rfl (Nat.le_of_ble_eq_true rfl) dX6_lose_23 ⟨Nat.le_of_ble_eq_true rfl, Nat.le_of_ble_eq_true rfl⟩ (fun r ad1 ce2 H locs hp hw hS => ?_)
    obtain ⟨rfl, rfl, hV, hF2⟩ := hp
    have hF : ∀ j, j < 100 → ce2 j = ce j := fun j hj => (hF2 j hj).trans (hF j hj)
    obtain ⟨cn, zs, bs, hh, ⟨h100, h101, h102, h103, h104, h105, h106, h107, h108, h109, h110, h111⟩, hQ, hM⟩ := hV
    refine W.eq (g2 := F0 m 26 ls []) rfl ?_
    refine lv_aload_n hx hb dX6_lose_26 rfl (lv_at hl 0 rfl) ?_
    refine z_get F hw h100 fd_X6_48_X6 rfl dX6_lose_27 ?_
    refine lv_iconst (v := 1) hx hb dX6_lose_30 (by decide) ?_
    refine z_ld F hw h111 (1) (rfl) (by decide) (by decide) dX6_lose_31 ?_
    refine z_top (nI (((Q 0).headD []).getD 1 0)) ((hM.2 1 (by omega)).1) ?_
    exact z_iret F (rfl) hw hS (by unfold sp_lose0; rw [if_neg c15]; exact ⟨rfl, rfl, ⟨_, ⟨_, _, _, _, ⟨h100, h101, h102, h103, h104, h105, h106, h107, h108, h109, h110, h111⟩, hQ, hM⟩⟩, hF⟩) dX6_lose_32
  · refine lv_bipush (v := -3) hx hb dX6_lose_18 (by decide) ?_
    exact z_iret F (rfl) hw hS (by unfold sp_lose0; rw [if_pos c15]; exact ⟨rfl, rfl, ⟨_, ⟨_, _, _, _, ⟨h100, h101, h102, h103, h104, h105, h106, h107, h108, h109, h110, h111⟩, hQ, hM⟩⟩, hF⟩) dX6_lose_20
def sp_lose1 (T : rf_T) (Q : rf_Q) (M : List Nat) : rf_R := (if ((nI (Q 1).length) : Int32) = 0 then ((-3), T, Q) else ((nI (((Q 1).headD []).getD 1 0)), T, va_up Q 1 ((Q 1).tail)))
set_option maxHeartbeats 4000000 in
set_option maxRecDepth 100000 in
theorem r_lose1 (l : Launch) {G : zz_G} {ad : Nat → Nat} {ce : zz_C} {sz : Nat} (T : rf_T) (Q : rf_Q) (M : List Nat) (hV : rfV G ad ce T Q M) : zz_M l yX6_lose cX6_lose 2 (some .int) 1 24 0 0 G [.ref (ad 100), .int 1] ad ce sz (fun r ad1 ce1 => r = some (.int (sp_lose1 T Q M).1) ∧ ad = ad1 ∧ (∃ M1, rfV G ad ce1 (sp_lose1 T Q M).2.1 (sp_lose1 T Q M).2.2 M1) ∧ (∀ j, j < 100 → ce1 j = ce j)) := by
  refine zz_enter (by decide) (Nat.le_of_ble_eq_true rfl) ?_
  intro p e s m below meth c ls F hl hw hS hA
  obtain ⟨hx, hb, hr, hml, hown, hts, hlocks, hK, hnm⟩ := id F
  have hl : lv_has ls 2 [(0, .ref (ad 100)), (1, .int 1)] := hl
  obtain ⟨cn, zs, bs, hh, ⟨h100, h101, h102, h103, h104, h105, h106, h107, h108, h109, h110, h111⟩, hQ, hM⟩ := hV
  have hF : ∀ j, j < 100 → ce j = ce j := fun _ _ => rfl
  refine lv_iload_n hx hb dX6_lose_0 rfl (lv_at hl 1 rfl) ?_
  refine z_invS F (rest := []) (r_isWay l 1) ys_X6_145 ⟨Nat.le_of_ble_eq_true rfl, Nat.le_of_ble_eq_true rfl⟩ hw hA hS hl rfl rfl (Nat.le_of_ble_eq_true rfl) dX6_lose_1 ⟨Nat.le_of_ble_eq_true rfl, Nat.le_of_ble_eq_true rfl⟩ (fun r ad1 ce1 H locs hp hw hS => ?_)
  obtain ⟨hp, rfl, rfl⟩ := hp
  rcases hp with ⟨-, rfl⟩ | ⟨hn9, rfl⟩
  rotate_left
  · exact absurd (Or.inr rfl) hn9
  refine W.eq (g2 := F0 m 4 ls [.int 1]) rfl ?_
  refine lv_if_ne (tgt := 9) hx hb dX6_lose_4 (by decide) (fun c4 => ?_) (fun c4 => absurd c4 (by decide))
  refine lv_aload_n hx hb dX6_lose_9 rfl (lv_at hl 0 rfl) ?_
  refine z_get F hw h100 fd_X6_13_X6 rfl dX6_lose_10 ?_
  refine lv_iload_n hx hb dX6_lose_13 rfl (lv_at hl 1 rfl) ?_
  refine z_ld F hw h101 (1) (rfl) (by decide) (by decide) dX6_lose_14 ?_
  refine z_top (nI (Q 1).length) ((hQ 1 (by decide)).2.1) ?_
  refine lv_if_ne (tgt := 21) hx hb dX6_lose_15 (by decide) (fun c15 => ?_) (fun c15 => ?_)
  · have hq := rf_hdtl c15
    obtain ⟨hx2, hx24, -, -⟩ := rfQ_first hQ (by decide) c15
    refine lv_aload_n hx hb dX6_lose_21 rfl (lv_at hl 0 rfl) ?_
    refine lv_iload_n hx hb dX6_lose_22 rfl (lv_at hl 1 rfl) ?_
    have hV : rfV G ad ce T Q M := ⟨_, _, _, _, ⟨h100, h101, h102, h103, h104, h105, h106, h107, h108, h109, h110, h111⟩, hQ, hM⟩
    refine z_invV F (rest := []) (r_take1 l T Q M hV ((Q 1).headD []) ((Q 1).tail) hq) yv_X6_149 ⟨Nat.le_of_ble_eq_true rfl, Nat.le_of_ble_eq_true rfl⟩ hw hA hS hl h100 rfl rfl rfl (Nat.le_of_ble_eq_true rfl) dX6_lose_23 ⟨Nat.le_of_ble_eq_true rfl, Nat.le_of_ble_eq_true rfl⟩ (fun r ad1 ce2 H locs hp hw hS => ?_)
    obtain ⟨rfl, rfl, hV, hF2⟩ := hp
    have hF : ∀ j, j < 100 → ce2 j = ce j := fun j hj => (hF2 j hj).trans (hF j hj)
    obtain ⟨cn, zs, bs, hh, ⟨h100, h101, h102, h103, h104, h105, h106, h107, h108, h109, h110, h111⟩, hQ, hM⟩ := hV
    refine W.eq (g2 := F0 m 26 ls []) rfl ?_
    refine lv_aload_n hx hb dX6_lose_26 rfl (lv_at hl 0 rfl) ?_
    refine z_get F hw h100 fd_X6_48_X6 rfl dX6_lose_27 ?_
    refine lv_iconst (v := 1) hx hb dX6_lose_30 (by decide) ?_
    refine z_ld F hw h111 (1) (rfl) (by decide) (by decide) dX6_lose_31 ?_
    refine z_top (nI (((Q 1).headD []).getD 1 0)) ((hM.2 1 (by omega)).1) ?_
    exact z_iret F (rfl) hw hS (by unfold sp_lose1; rw [if_neg c15]; exact ⟨rfl, rfl, ⟨_, ⟨_, _, _, _, ⟨h100, h101, h102, h103, h104, h105, h106, h107, h108, h109, h110, h111⟩, hQ, hM⟩⟩, hF⟩) dX6_lose_32
  · refine lv_bipush (v := -3) hx hb dX6_lose_18 (by decide) ?_
    exact z_iret F (rfl) hw hS (by unfold sp_lose1; rw [if_pos c15]; exact ⟨rfl, rfl, ⟨_, ⟨_, _, _, _, ⟨h100, h101, h102, h103, h104, h105, h106, h107, h108, h109, h110, h111⟩, hQ, hM⟩⟩, hF⟩) dX6_lose_20
def sp_losex (T : rf_T) (Q : rf_Q) (M : List Nat) (a : Int32) : rf_R := ((-1), T, Q)
set_option maxHeartbeats 4000000 in
set_option maxRecDepth 100000 in
theorem r_losex (l : Launch) {G : zz_G} {ad : Nat → Nat} {ce : zz_C} {sz : Nat} (T : rf_T) (Q : rf_Q) (M : List Nat) (hV : rfV G ad ce T Q M) (a : Int32) (hnw : ¬ (a = 0 ∨ a = 1)) : zz_M l yX6_lose cX6_lose 2 (some .int) 1 24 0 0 G [.ref (ad 100), .int a] ad ce sz (fun r ad1 ce1 => r = some (.int (sp_losex T Q M a).1) ∧ ad = ad1 ∧ (∃ M1, rfV G ad ce1 (sp_losex T Q M a).2.1 (sp_losex T Q M a).2.2 M1) ∧ (∀ j, j < 100 → ce1 j = ce j)) := by
  refine zz_enter (by decide) (Nat.le_of_ble_eq_true rfl) ?_
  intro p e s m below meth c ls F hl hw hS hA
  obtain ⟨hx, hb, hr, hml, hown, hts, hlocks, hK, hnm⟩ := id F
  have hl : lv_has ls 2 [(0, .ref (ad 100)), (1, .int a)] := hl
  obtain ⟨cn, zs, bs, hh, ⟨h100, h101, h102, h103, h104, h105, h106, h107, h108, h109, h110, h111⟩, hQ, hM⟩ := hV
  have hF : ∀ j, j < 100 → ce j = ce j := fun _ _ => rfl
  refine lv_iload_n hx hb dX6_lose_0 rfl (lv_at hl 1 rfl) ?_
  refine z_invS F (rest := []) (r_isWay l a) ys_X6_145 ⟨Nat.le_of_ble_eq_true rfl, Nat.le_of_ble_eq_true rfl⟩ hw hA hS hl rfl rfl (Nat.le_of_ble_eq_true rfl) dX6_lose_1 ⟨Nat.le_of_ble_eq_true rfl, Nat.le_of_ble_eq_true rfl⟩ (fun r ad1 ce1 H locs hp hw hS => ?_)
  obtain ⟨hp, rfl, rfl⟩ := hp
  rcases hp with ⟨hn9, rfl⟩ | ⟨-, rfl⟩
  · exact absurd hn9 hnw
  refine W.eq (g2 := F0 m 4 ls [.int 0]) rfl ?_
  refine lv_if_ne (tgt := 9) hx hb dX6_lose_4 (by decide) (fun c4 => absurd c4 (by decide)) (fun c4 => ?_)
  refine lv_iconst (v := -1) hx hb dX6_lose_7 (by decide) ?_
  exact z_iret F (rfl) hw hS (by unfold sp_losex; exact ⟨rfl, rfl, ⟨_, ⟨_, _, _, _, ⟨h100, h101, h102, h103, h104, h105, h106, h107, h108, h109, h110, h111⟩, hQ, hM⟩⟩, hF⟩) dX6_lose_8
def sp_carry0 (T : rf_T) (Q : rf_Q) (M : List Nat) : rf_R := (if ((nI (Q 0).length) : Int32) = 0 then ((-3), T, Q) else (if rf_good ((Q 0).headD []) then (if ((nI (((Q 0).headD []).getD 0 0)) : Int32) = 5 then (if (((sp_networkMoves T (va_up Q 0 ((Q 0).tail)) ((Q 0).headD []) (((Q 0).headD []).getD 1 0)).1) : Int32) = 0 then (((nI (((Q 0).headD []).getD 1 0)) + 1000), va_up ((sp_networkMoves T (va_up Q 0 ((Q 0).tail)) ((Q 0).headD []) (((Q 0).headD []).getD 1 0)).2.1) 0 (va_up (((sp_networkMoves T (va_up Q 0 ((Q 0).tail)) ((Q 0).headD []) (((Q 0).headD []).getD 1 0)).2.1) 0) 5 ((((sp_networkMoves T (va_up Q 0 ((Q 0).tail)) ((Q 0).headD []) (((Q 0).headD []).getD 1 0)).2.1) 0 5) + 1)), (sp_networkMoves T (va_up Q 0 ((Q 0).tail)) ((Q 0).headD []) (((Q 0).headD []).getD 1 0)).2.2) else ((nI (((Q 0).headD []).getD 1 0)), ((sp_networkMoves T (va_up Q 0 ((Q 0).tail)) ((Q 0).headD []) (((Q 0).headD []).getD 1 0)).2.1), (sp_networkMoves T (va_up Q 0 ((Q 0).tail)) ((Q 0).headD []) (((Q 0).headD []).getD 1 0)).2.2)) else (if ((nI (((Q 0).headD []).getD 0 0)) : Int32) = 3 then (if (((sp_networkCalls T (va_up Q 0 ((Q 0).tail)) ((Q 0).headD []) (((Q 0).headD []).getD 1 0)).1) : Int32) = 0 then (((nI (((Q 0).headD []).getD 1 0)) + 1000), va_up ((sp_networkCalls T (va_up Q 0 ((Q 0).tail)) ((Q 0).headD []) (((Q 0).headD []).getD 1 0)).2.1) 0 (va_up (((sp_networkCalls T (va_up Q 0 ((Q 0).tail)) ((Q 0).headD []) (((Q 0).headD []).getD 1 0)).2.1) 0) 5 ((((sp_networkCalls T (va_up Q 0 ((Q 0).tail)) ((Q 0).headD []) (((Q 0).headD []).getD 1 0)).2.1) 0 5) + 1)), (sp_networkCalls T (va_up Q 0 ((Q 0).tail)) ((Q 0).headD []) (((Q 0).headD []).getD 1 0)).2.2) else ((nI (((Q 0).headD []).getD 1 0)), ((sp_networkCalls T (va_up Q 0 ((Q 0).tail)) ((Q 0).headD []) (((Q 0).headD []).getD 1 0)).2.1), (sp_networkCalls T (va_up Q 0 ((Q 0).tail)) ((Q 0).headD []) (((Q 0).headD []).getD 1 0)).2.2)) else (((nI (((Q 0).headD []).getD 1 0)) + 1000), va_up T 0 (va_up (T 0) 5 ((T 0 5) + 1)), va_up Q 0 ((Q 0).tail)))) else (((nI (((Q 0).headD []).getD 1 0)) + 1000), va_up T 0 (va_up (T 0) 5 ((T 0 5) + 1)), va_up Q 0 ((Q 0).tail))))
set_option maxHeartbeats 4000000 in
set_option maxRecDepth 100000 in
theorem r_carry0 (l : Launch) {G : zz_G} {ad : Nat → Nat} {ce : zz_C} {sz : Nat} (T : rf_T) (Q : rf_Q) (M : List Nat) (hV : rfV G ad ce T Q M) : zz_M l yX6_carry cX6_carry 4 (some .int) 4 95 0 0 G [.ref (ad 100), .int 0] ad ce sz (fun r ad1 ce1 => r = some (.int (sp_carry0 T Q M).1) ∧ ad = ad1 ∧ (∃ M1, rfV G ad ce1 (sp_carry0 T Q M).2.1 (sp_carry0 T Q M).2.2 M1) ∧ (∀ j, j < 100 → ce1 j = ce j)) := by
  refine zz_enter (by decide) (Nat.le_of_ble_eq_true rfl) ?_
  intro p e s m below meth c ls F hl hw hS hA
  obtain ⟨hx, hb, hr, hml, hown, hts, hlocks, hK, hnm⟩ := id F
  have hl : lv_has ls 4 [(0, .ref (ad 100)), (1, .int 0)] := hl
  obtain ⟨cn, zs, bs, hh, ⟨h100, h101, h102, h103, h104, h105, h106, h107, h108, h109, h110, h111⟩, hQ, hM⟩ := hV
  have hF : ∀ j, j < 100 → ce j = ce j := fun _ _ => rfl
  refine lv_iload_n hx hb dX6_carry_0 rfl (lv_at hl 1 rfl) ?_
  refine z_invS F (rest := []) (r_isWay l 0) ys_X6_145 ⟨Nat.le_of_ble_eq_true rfl, Nat.le_of_ble_eq_true rfl⟩ hw hA hS hl rfl rfl (Nat.le_of_ble_eq_true rfl) dX6_carry_1 ⟨Nat.le_of_ble_eq_true rfl, Nat.le_of_ble_eq_true rfl⟩ (fun r ad1 ce1 H locs hp hw hS => ?_)
  obtain ⟨hp, rfl, rfl⟩ := hp
  rcases hp with ⟨-, rfl⟩ | ⟨hn9, rfl⟩
  rotate_left
  · exact absurd (Or.inl rfl) hn9
  refine W.eq (g2 := F0 m 4 ls [.int 1]) rfl ?_
  refine lv_if_ne (tgt := 9) hx hb dX6_carry_4 (by decide) (fun c4 => ?_) (fun c4 => absurd c4 (by decide))
  refine lv_aload_n hx hb dX6_carry_9 rfl (lv_at hl 0 rfl) ?_
  refine z_get F hw h100 fd_X6_13_X6 rfl dX6_carry_10 ?_
  refine lv_iload_n hx hb dX6_carry_13 rfl (lv_at hl 1 rfl) ?_
  refine z_ld F hw h101 (0) (rfl) (by decide) (by decide) dX6_carry_14 ?_
  refine z_top (nI (Q 0).length) ((hQ 0 (by decide)).2.1) ?_
  refine lv_if_ne (tgt := 21) hx hb dX6_carry_15 (by decide) (fun c15 => ?_) (fun c15 => ?_)
  · have hq := rf_hdtl c15
    obtain ⟨hx2, hx24, -, -⟩ := rfQ_first hQ (by decide) c15
    refine lv_aload_n hx hb dX6_carry_21 rfl (lv_at hl 0 rfl) ?_
    refine lv_iload_n hx hb dX6_carry_22 rfl (lv_at hl 1 rfl) ?_
    have hV : rfV G ad ce T Q M := ⟨_, _, _, _, ⟨h100, h101, h102, h103, h104, h105, h106, h107, h108, h109, h110, h111⟩, hQ, hM⟩
    refine z_invV F (rest := []) (r_take0 l T Q M hV ((Q 0).headD []) ((Q 0).tail) hq) yv_X6_149 ⟨Nat.le_of_ble_eq_true rfl, Nat.le_of_ble_eq_true rfl⟩ hw hA hS hl h100 rfl rfl rfl (Nat.le_of_ble_eq_true rfl) dX6_carry_23 ⟨Nat.le_of_ble_eq_true rfl, Nat.le_of_ble_eq_true rfl⟩ (fun r ad1 ce2 H locs hp hw hS => ?_)
    obtain ⟨rfl, rfl, hV, hF2⟩ := hp
    have hF : ∀ j, j < 100 → ce2 j = ce j := fun j hj => (hF2 j hj).trans (hF j hj)
    obtain ⟨cn, zs, bs, hh, ⟨h100, h101, h102, h103, h104, h105, h106, h107, h108, h109, h110, h111⟩, hQ, hM⟩ := hV
    refine W.eq (g2 := F0 m 26 ls []) rfl ?_
    refine lv_aload_n hx hb dX6_carry_26 rfl (lv_at hl 0 rfl) ?_
    refine z_get F hw h100 fd_X6_48_X6 rfl dX6_carry_27 ?_
    refine lv_iconst (v := 1) hx hb dX6_carry_30 (by decide) ?_
    refine z_ld F hw h111 (1) (rfl) (by decide) (by decide) dX6_carry_31 ?_
    refine z_top (nI (((Q 0).headD []).getD 1 0)) ((hM.2 1 (by omega)).1) ?_
    refine lv_istore_n (lv' := [(2, .int (nI (((Q 0).headD []).getD 1 0))), (0, .ref (ad 100)), (1, .int 0)]) hx hb dX6_carry_32 rfl hl (by decide) rfl (fun ls hl => ?_)
    refine lv_aload_n hx hb dX6_carry_33 rfl (lv_at hl 1 rfl) ?_
    have hV : rfV G ad ce2 T (va_up Q 0 ((Q 0).tail)) ((Q 0).headD []) := ⟨_, _, _, _, ⟨h100, h101, h102, h103, h104, h105, h106, h107, h108, h109, h110, h111⟩, hQ, hM⟩
    refine z_invV F (rest := []) (r_isGood l T (va_up Q 0 ((Q 0).tail)) ((Q 0).headD []) hV hx2) yv_X6_152 ⟨Nat.le_of_ble_eq_true rfl, Nat.le_of_ble_eq_true rfl⟩ hw hA hS hl h100 rfl rfl rfl (Nat.le_of_ble_eq_true rfl) dX6_carry_34 ⟨Nat.le_of_ble_eq_true rfl, Nat.le_of_ble_eq_true rfl⟩ (fun r ad1 ce3 H locs hp hw hS => ?_)
    obtain ⟨hp, rfl, rfl⟩ := hp
    rcases hp with ⟨hg, rfl⟩ | ⟨hg, rfl⟩
    · refine W.eq (g2 := F0 m 37 ls [.int 1]) rfl ?_
      refine lv_if_eq (tgt := 115) hx hb dX6_carry_37 (by decide) (fun c37 => absurd c37 (by decide)) (fun c37 => ?_)
      refine lv_aload_n hx hb dX6_carry_40 rfl (lv_at hl 1 rfl) ?_
      refine z_get F hw h100 fd_X6_48_X6 rfl dX6_carry_41 ?_
      refine lv_iconst (v := 0) hx hb dX6_carry_44 (by decide) ?_
      refine z_ld F hw h111 (0) (rfl) (by decide) (by decide) dX6_carry_45 ?_
      refine z_top (nI (((Q 0).headD []).getD 0 0)) ((hM.2 0 (by omega)).1) ?_
      refine lv_iconst (v := 5) hx hb dX6_carry_46 (by decide) ?_
      refine lv_icmp_ne (tgt := 77) hx hb dX6_carry_47 (by decide) (fun c47 => ?_) (fun c47 => ?_)
      · refine lv_aload_n hx hb dX6_carry_77 rfl (lv_at hl 1 rfl) ?_
        refine z_get F hw h100 fd_X6_48_X6 rfl dX6_carry_78 ?_
        refine lv_iconst (v := 0) hx hb dX6_carry_81 (by decide) ?_
        refine z_ld F hw h111 (0) (rfl) (by decide) (by decide) dX6_carry_82 ?_
        refine z_top (nI (((Q 0).headD []).getD 0 0)) ((hM.2 0 (by omega)).1) ?_
        refine lv_iconst (v := 3) hx hb dX6_carry_83 (by decide) ?_
        refine lv_icmp_ne (tgt := 115) hx hb dX6_carry_84 (by decide) (fun c84 => ?_) (fun c84 => ?_)
        · refine lv_iconst (v := 0) hx hb dX6_carry_115 (by decide) ?_
          refine lv_istore_n (lv' := [(3, .int 0), (2, .int (nI (((Q 0).headD []).getD 1 0))), (0, .ref (ad 100)), (1, .int 0)]) hx hb dX6_carry_116 rfl hl (by decide) rfl (fun ls hl => ?_)
          refine lv_aload_n hx hb dX6_carry_117 rfl (lv_at hl 2 rfl) ?_
          refine lv_iload_n hx hb dX6_carry_118 rfl (lv_at hl 0 rfl) ?_
          refine lv_if_eq (tgt := 129) hx hb dX6_carry_119 (by decide) (fun c119 => ?_) (fun c119 => absurd c119 (by decide))
          refine lv_aload_n hx hb dX6_carry_129 rfl (lv_at hl 2 rfl) ?_
          refine z_get F hw h100 fd_X6_168_X6 rfl dX6_carry_130 ?_
          refine lv_iconst (v := 1) hx hb dX6_carry_133 (by decide) ?_
          refine lv_iadd hx hb dX6_carry_134 ?_
          refine z_put F hw hS (fs' := [.int (T 0 0), .int (T 0 1), .int (T 0 2), .int (T 0 3), .int (T 0 4), .ref (ad 101), .ref (ad 102), .ref (ad 103), .int ((T 0 5) + 1), .ref (ad 104), .ref (ad 105), .ref (ad 106), .ref (ad 107), .ref (ad 108), .int (T 0 6), .int (T 0 7), .int (T 0 8), .ref (ad 109), .int (T 0 9), .ref (ad 110), .int (T 0 10), .int (nI (((Q 0).headD [])).length), .ref (ad 111)]) h100 fd_X6_168_X6 ptX6 rfl (rfl) (rfl) (Nat.le_of_ble_eq_true rfl) rfl dX6_carry_135 (fun ce4 H locs h100 fr5 hw hS => ?_)
          have h101 := (fr5 101 (by decide)).trans h101
          have h102 := (fr5 102 (by decide)).trans h102
          have h103 := (fr5 103 (by decide)).trans h103
          have h104 := (fr5 104 (by decide)).trans h104
          have h105 := (fr5 105 (by decide)).trans h105
          have h106 := (fr5 106 (by decide)).trans h106
          have h107 := (fr5 107 (by decide)).trans h107
          have h108 := (fr5 108 (by decide)).trans h108
          have h109 := (fr5 109 (by decide)).trans h109
          have h110 := (fr5 110 (by decide)).trans h110
          have h111 := (fr5 111 (by decide)).trans h111
          have hF : ∀ j, j < 100 → _ = ce j := fun j hj => (fr5 j (by omega)).trans (hF j hj)
          refine lv_iload_n hx hb dX6_carry_138 rfl (lv_at hl 0 rfl) ?_
          refine lv_if_eq (tgt := 146) hx hb dX6_carry_139 (by decide) (fun c139 => ?_) (fun c139 => absurd c139 (by decide))
          refine lv_iload_n hx hb dX6_carry_146 rfl (lv_at hl 1 rfl) ?_
          refine lv_sipush (v := 1000) hx hb dX6_carry_147 (by decide) ?_
          refine lv_iadd hx hb dX6_carry_150 ?_
          exact z_iret F (rfl) hw hS (by unfold sp_carry0; rw [if_neg c15, if_pos hg, if_neg c47, if_neg c84]; exact ⟨rfl, rfl, ⟨_, ⟨_, _, _, _, ⟨h100, h101, h102, h103, h104, h105, h106, h107, h108, h109, h110, h111⟩, hQ, hM⟩⟩, hF⟩) dX6_carry_151
        · refine lv_iload_n hx hb dX6_carry_87 rfl (lv_at hl 2 rfl) ?_
          refine lv_iconst (v := 1) hx hb dX6_carry_88 (by decide) ?_
          refine lv_icmp_ne (tgt := 103) hx hb dX6_carry_89 (by decide) (fun c89 => ?_) (fun c89 => absurd c89 (by decide))
          refine lv_aload_n hx hb dX6_carry_103 rfl (lv_at hl 1 rfl) ?_
          refine lv_iload_n hx hb dX6_carry_104 rfl (lv_at hl 0 rfl) ?_
          have hV : rfV G ad ce2 T (va_up Q 0 ((Q 0).tail)) ((Q 0).headD []) := ⟨_, _, _, _, ⟨h100, h101, h102, h103, h104, h105, h106, h107, h108, h109, h110, h111⟩, hQ, hM⟩
          refine z_invV F (rest := []) (r_networkCalls l T (va_up Q 0 ((Q 0).tail)) ((Q 0).headD []) hV hg (((Q 0).headD []).getD 1 0) (hM.2 1 (by omega)).2) yv_X6_165 ⟨Nat.le_of_ble_eq_true rfl, Nat.le_of_ble_eq_true rfl⟩ hw hA hS hl h100 rfl rfl rfl (Nat.le_of_ble_eq_true rfl) dX6_carry_105 ⟨Nat.le_of_ble_eq_true rfl, Nat.le_of_ble_eq_true rfl⟩ (fun r ad1 ce6 H locs hp hw hS => ?_)
          obtain ⟨rfl, rfl, hV, hF2⟩ := hp
          have hF : ∀ j, j < 100 → ce6 j = ce j := fun j hj => (hF2 j hj).trans (hF j hj)
          obtain ⟨cn, zs, bs, hh, ⟨h100, h101, h102, h103, h104, h105, h106, h107, h108, h109, h110, h111⟩, hQ, hM⟩ := hV
          refine W.eq (g2 := F0 m 108 ls [.int ((sp_networkCalls T (va_up Q 0 ((Q 0).tail)) ((Q 0).headD []) (((Q 0).headD []).getD 1 0)).1)]) rfl ?_
          refine lv_if_eq (tgt := 115) hx hb dX6_carry_108 (by decide) (fun c108 => ?_) (fun c108 => ?_)
          · refine lv_iconst (v := 0) hx hb dX6_carry_115 (by decide) ?_
            refine lv_istore_n (lv' := [(3, .int 0), (2, .int (nI (((Q 0).headD []).getD 1 0))), (0, .ref (ad 100)), (1, .int 0)]) hx hb dX6_carry_116 rfl hl (by decide) rfl (fun ls hl => ?_)
            refine lv_aload_n hx hb dX6_carry_117 rfl (lv_at hl 2 rfl) ?_
            refine lv_iload_n hx hb dX6_carry_118 rfl (lv_at hl 0 rfl) ?_
            refine lv_if_eq (tgt := 129) hx hb dX6_carry_119 (by decide) (fun c119 => ?_) (fun c119 => absurd c119 (by decide))
            refine lv_aload_n hx hb dX6_carry_129 rfl (lv_at hl 2 rfl) ?_
            refine z_get F hw h100 fd_X6_168_X6 rfl dX6_carry_130 ?_
            refine lv_iconst (v := 1) hx hb dX6_carry_133 (by decide) ?_
            refine lv_iadd hx hb dX6_carry_134 ?_
            refine z_put F hw hS (fs' := [.int (((sp_networkCalls T (va_up Q 0 ((Q 0).tail)) ((Q 0).headD []) (((Q 0).headD []).getD 1 0)).2.1) 0 0), .int (((sp_networkCalls T (va_up Q 0 ((Q 0).tail)) ((Q 0).headD []) (((Q 0).headD []).getD 1 0)).2.1) 0 1), .int (((sp_networkCalls T (va_up Q 0 ((Q 0).tail)) ((Q 0).headD []) (((Q 0).headD []).getD 1 0)).2.1) 0 2), .int (((sp_networkCalls T (va_up Q 0 ((Q 0).tail)) ((Q 0).headD []) (((Q 0).headD []).getD 1 0)).2.1) 0 3), .int (((sp_networkCalls T (va_up Q 0 ((Q 0).tail)) ((Q 0).headD []) (((Q 0).headD []).getD 1 0)).2.1) 0 4), .ref (ad 101), .ref (ad 102), .ref (ad 103), .int ((((sp_networkCalls T (va_up Q 0 ((Q 0).tail)) ((Q 0).headD []) (((Q 0).headD []).getD 1 0)).2.1) 0 5) + 1), .ref (ad 104), .ref (ad 105), .ref (ad 106), .ref (ad 107), .ref (ad 108), .int (((sp_networkCalls T (va_up Q 0 ((Q 0).tail)) ((Q 0).headD []) (((Q 0).headD []).getD 1 0)).2.1) 0 6), .int (((sp_networkCalls T (va_up Q 0 ((Q 0).tail)) ((Q 0).headD []) (((Q 0).headD []).getD 1 0)).2.1) 0 7), .int (((sp_networkCalls T (va_up Q 0 ((Q 0).tail)) ((Q 0).headD []) (((Q 0).headD []).getD 1 0)).2.1) 0 8), .ref (ad 109), .int (((sp_networkCalls T (va_up Q 0 ((Q 0).tail)) ((Q 0).headD []) (((Q 0).headD []).getD 1 0)).2.1) 0 9), .ref (ad 110), .int (((sp_networkCalls T (va_up Q 0 ((Q 0).tail)) ((Q 0).headD []) (((Q 0).headD []).getD 1 0)).2.1) 0 10), .int (nI (((Q 0).headD [])).length), .ref (ad 111)]) h100 fd_X6_168_X6 ptX6 rfl (rfl) (rfl) (Nat.le_of_ble_eq_true rfl) rfl dX6_carry_135 (fun ce7 H locs h100 fr8 hw hS => ?_)
            have h101 := (fr8 101 (by decide)).trans h101
            have h102 := (fr8 102 (by decide)).trans h102
            have h103 := (fr8 103 (by decide)).trans h103
            have h104 := (fr8 104 (by decide)).trans h104
            have h105 := (fr8 105 (by decide)).trans h105
            have h106 := (fr8 106 (by decide)).trans h106
            have h107 := (fr8 107 (by decide)).trans h107
            have h108 := (fr8 108 (by decide)).trans h108
            have h109 := (fr8 109 (by decide)).trans h109
            have h110 := (fr8 110 (by decide)).trans h110
            have h111 := (fr8 111 (by decide)).trans h111
            have hF : ∀ j, j < 100 → _ = ce j := fun j hj => (fr8 j (by omega)).trans (hF j hj)
            refine lv_iload_n hx hb dX6_carry_138 rfl (lv_at hl 0 rfl) ?_
            refine lv_if_eq (tgt := 146) hx hb dX6_carry_139 (by decide) (fun c139 => ?_) (fun c139 => absurd c139 (by decide))
            refine lv_iload_n hx hb dX6_carry_146 rfl (lv_at hl 1 rfl) ?_
            refine lv_sipush (v := 1000) hx hb dX6_carry_147 (by decide) ?_
            refine lv_iadd hx hb dX6_carry_150 ?_
            exact z_iret F (rfl) hw hS (by unfold sp_carry0; rw [if_neg c15, if_pos hg, if_neg c47, if_pos c84, if_pos c108]; exact ⟨rfl, rfl, ⟨_, ⟨_, _, _, _, ⟨h100, h101, h102, h103, h104, h105, h106, h107, h108, h109, h110, h111⟩, hQ, hM⟩⟩, hF⟩) dX6_carry_151
          · refine lv_iconst (v := 1) hx hb dX6_carry_111 (by decide) ?_
            refine lv_goto (tgt := 116) hx hb dX6_carry_112 (by decide) ?_
            refine lv_istore_n (lv' := [(3, .int 1), (2, .int (nI (((Q 0).headD []).getD 1 0))), (0, .ref (ad 100)), (1, .int 0)]) hx hb dX6_carry_116 rfl hl (by decide) rfl (fun ls hl => ?_)
            refine lv_aload_n hx hb dX6_carry_117 rfl (lv_at hl 2 rfl) ?_
            refine lv_iload_n hx hb dX6_carry_118 rfl (lv_at hl 0 rfl) ?_
            refine lv_if_eq (tgt := 129) hx hb dX6_carry_119 (by decide) (fun c119 => absurd c119 (by decide)) (fun c119 => ?_)
            refine lv_aload_n hx hb dX6_carry_122 rfl (lv_at hl 2 rfl) ?_
            refine z_get F hw h100 fd_X6_168_X6 rfl dX6_carry_123 ?_
            refine lv_goto (tgt := 135) hx hb dX6_carry_126 (by decide) ?_
            refine z_put F hw hS (fs' := [.int (((sp_networkCalls T (va_up Q 0 ((Q 0).tail)) ((Q 0).headD []) (((Q 0).headD []).getD 1 0)).2.1) 0 0), .int (((sp_networkCalls T (va_up Q 0 ((Q 0).tail)) ((Q 0).headD []) (((Q 0).headD []).getD 1 0)).2.1) 0 1), .int (((sp_networkCalls T (va_up Q 0 ((Q 0).tail)) ((Q 0).headD []) (((Q 0).headD []).getD 1 0)).2.1) 0 2), .int (((sp_networkCalls T (va_up Q 0 ((Q 0).tail)) ((Q 0).headD []) (((Q 0).headD []).getD 1 0)).2.1) 0 3), .int (((sp_networkCalls T (va_up Q 0 ((Q 0).tail)) ((Q 0).headD []) (((Q 0).headD []).getD 1 0)).2.1) 0 4), .ref (ad 101), .ref (ad 102), .ref (ad 103), .int (((sp_networkCalls T (va_up Q 0 ((Q 0).tail)) ((Q 0).headD []) (((Q 0).headD []).getD 1 0)).2.1) 0 5), .ref (ad 104), .ref (ad 105), .ref (ad 106), .ref (ad 107), .ref (ad 108), .int (((sp_networkCalls T (va_up Q 0 ((Q 0).tail)) ((Q 0).headD []) (((Q 0).headD []).getD 1 0)).2.1) 0 6), .int (((sp_networkCalls T (va_up Q 0 ((Q 0).tail)) ((Q 0).headD []) (((Q 0).headD []).getD 1 0)).2.1) 0 7), .int (((sp_networkCalls T (va_up Q 0 ((Q 0).tail)) ((Q 0).headD []) (((Q 0).headD []).getD 1 0)).2.1) 0 8), .ref (ad 109), .int (((sp_networkCalls T (va_up Q 0 ((Q 0).tail)) ((Q 0).headD []) (((Q 0).headD []).getD 1 0)).2.1) 0 9), .ref (ad 110), .int (((sp_networkCalls T (va_up Q 0 ((Q 0).tail)) ((Q 0).headD []) (((Q 0).headD []).getD 1 0)).2.1) 0 10), .int (nI (((Q 0).headD [])).length), .ref (ad 111)]) h100 fd_X6_168_X6 ptX6 rfl (rfl) (rfl) (Nat.le_of_ble_eq_true rfl) rfl dX6_carry_135 (fun ce9 H locs h100 fr10 hw hS => ?_)
            have h101 := (fr10 101 (by decide)).trans h101
            have h102 := (fr10 102 (by decide)).trans h102
            have h103 := (fr10 103 (by decide)).trans h103
            have h104 := (fr10 104 (by decide)).trans h104
            have h105 := (fr10 105 (by decide)).trans h105
            have h106 := (fr10 106 (by decide)).trans h106
            have h107 := (fr10 107 (by decide)).trans h107
            have h108 := (fr10 108 (by decide)).trans h108
            have h109 := (fr10 109 (by decide)).trans h109
            have h110 := (fr10 110 (by decide)).trans h110
            have h111 := (fr10 111 (by decide)).trans h111
            have hF : ∀ j, j < 100 → _ = ce j := fun j hj => (fr10 j (by omega)).trans (hF j hj)
            refine lv_iload_n hx hb dX6_carry_138 rfl (lv_at hl 0 rfl) ?_
            refine lv_if_eq (tgt := 146) hx hb dX6_carry_139 (by decide) (fun c139 => absurd c139 (by decide)) (fun c139 => ?_)
            refine lv_iload_n hx hb dX6_carry_142 rfl (lv_at hl 1 rfl) ?_
            refine lv_goto (tgt := 151) hx hb dX6_carry_143 (by decide) ?_
            exact z_iret F (rfl) hw hS (by unfold sp_carry0; rw [if_neg c15, if_pos hg, if_neg c47, if_pos c84, if_neg c108]; exact ⟨rfl, rfl, ⟨_, ⟨_, _, _, _, ⟨h100, h101, h102, h103, h104, h105, h106, h107, h108, h109, h110, h111⟩, hQ, hM⟩⟩, hF⟩) dX6_carry_151
      · refine lv_iload_n hx hb dX6_carry_50 rfl (lv_at hl 2 rfl) ?_
        refine lv_iconst (v := 1) hx hb dX6_carry_51 (by decide) ?_
        refine lv_icmp_ne (tgt := 66) hx hb dX6_carry_52 (by decide) (fun c52 => ?_) (fun c52 => absurd c52 (by decide))
        refine lv_aload_n hx hb dX6_carry_66 rfl (lv_at hl 1 rfl) ?_
        refine lv_iload_n hx hb dX6_carry_67 rfl (lv_at hl 0 rfl) ?_
        have hV : rfV G ad ce2 T (va_up Q 0 ((Q 0).tail)) ((Q 0).headD []) := ⟨_, _, _, _, ⟨h100, h101, h102, h103, h104, h105, h106, h107, h108, h109, h110, h111⟩, hQ, hM⟩
        refine z_invV F (rest := []) (r_networkMoves l T (va_up Q 0 ((Q 0).tail)) ((Q 0).headD []) hV hg (((Q 0).headD []).getD 1 0) (hM.2 1 (by omega)).2) yv_X6_159 ⟨Nat.le_of_ble_eq_true rfl, Nat.le_of_ble_eq_true rfl⟩ hw hA hS hl h100 rfl rfl rfl (Nat.le_of_ble_eq_true rfl) dX6_carry_68 ⟨Nat.le_of_ble_eq_true rfl, Nat.le_of_ble_eq_true rfl⟩ (fun r ad1 ce11 H locs hp hw hS => ?_)
        obtain ⟨rfl, rfl, hV, hF2⟩ := hp
        have hF : ∀ j, j < 100 → ce11 j = ce j := fun j hj => (hF2 j hj).trans (hF j hj)
        obtain ⟨cn, zs, bs, hh, ⟨h100, h101, h102, h103, h104, h105, h106, h107, h108, h109, h110, h111⟩, hQ, hM⟩ := hV
        refine W.eq (g2 := F0 m 71 ls [.int ((sp_networkMoves T (va_up Q 0 ((Q 0).tail)) ((Q 0).headD []) (((Q 0).headD []).getD 1 0)).1)]) rfl ?_
        refine lv_if_eq (tgt := 115) hx hb dX6_carry_71 (by decide) (fun c71 => ?_) (fun c71 => ?_)
        · refine lv_iconst (v := 0) hx hb dX6_carry_115 (by decide) ?_
          refine lv_istore_n (lv' := [(3, .int 0), (2, .int (nI (((Q 0).headD []).getD 1 0))), (0, .ref (ad 100)), (1, .int 0)]) hx hb dX6_carry_116 rfl hl (by decide) rfl (fun ls hl => ?_)
          refine lv_aload_n hx hb dX6_carry_117 rfl (lv_at hl 2 rfl) ?_
          refine lv_iload_n hx hb dX6_carry_118 rfl (lv_at hl 0 rfl) ?_
          refine lv_if_eq (tgt := 129) hx hb dX6_carry_119 (by decide) (fun c119 => ?_) (fun c119 => absurd c119 (by decide))
          refine lv_aload_n hx hb dX6_carry_129 rfl (lv_at hl 2 rfl) ?_
          refine z_get F hw h100 fd_X6_168_X6 rfl dX6_carry_130 ?_
          refine lv_iconst (v := 1) hx hb dX6_carry_133 (by decide) ?_
          refine lv_iadd hx hb dX6_carry_134 ?_
          refine z_put F hw hS (fs' := [.int (((sp_networkMoves T (va_up Q 0 ((Q 0).tail)) ((Q 0).headD []) (((Q 0).headD []).getD 1 0)).2.1) 0 0), .int (((sp_networkMoves T (va_up Q 0 ((Q 0).tail)) ((Q 0).headD []) (((Q 0).headD []).getD 1 0)).2.1) 0 1), .int (((sp_networkMoves T (va_up Q 0 ((Q 0).tail)) ((Q 0).headD []) (((Q 0).headD []).getD 1 0)).2.1) 0 2), .int (((sp_networkMoves T (va_up Q 0 ((Q 0).tail)) ((Q 0).headD []) (((Q 0).headD []).getD 1 0)).2.1) 0 3), .int (((sp_networkMoves T (va_up Q 0 ((Q 0).tail)) ((Q 0).headD []) (((Q 0).headD []).getD 1 0)).2.1) 0 4), .ref (ad 101), .ref (ad 102), .ref (ad 103), .int ((((sp_networkMoves T (va_up Q 0 ((Q 0).tail)) ((Q 0).headD []) (((Q 0).headD []).getD 1 0)).2.1) 0 5) + 1), .ref (ad 104), .ref (ad 105), .ref (ad 106), .ref (ad 107), .ref (ad 108), .int (((sp_networkMoves T (va_up Q 0 ((Q 0).tail)) ((Q 0).headD []) (((Q 0).headD []).getD 1 0)).2.1) 0 6), .int (((sp_networkMoves T (va_up Q 0 ((Q 0).tail)) ((Q 0).headD []) (((Q 0).headD []).getD 1 0)).2.1) 0 7), .int (((sp_networkMoves T (va_up Q 0 ((Q 0).tail)) ((Q 0).headD []) (((Q 0).headD []).getD 1 0)).2.1) 0 8), .ref (ad 109), .int (((sp_networkMoves T (va_up Q 0 ((Q 0).tail)) ((Q 0).headD []) (((Q 0).headD []).getD 1 0)).2.1) 0 9), .ref (ad 110), .int (((sp_networkMoves T (va_up Q 0 ((Q 0).tail)) ((Q 0).headD []) (((Q 0).headD []).getD 1 0)).2.1) 0 10), .int (nI (((Q 0).headD [])).length), .ref (ad 111)]) h100 fd_X6_168_X6 ptX6 rfl (rfl) (rfl) (Nat.le_of_ble_eq_true rfl) rfl dX6_carry_135 (fun ce12 H locs h100 fr13 hw hS => ?_)
          have h101 := (fr13 101 (by decide)).trans h101
          have h102 := (fr13 102 (by decide)).trans h102
          have h103 := (fr13 103 (by decide)).trans h103
          have h104 := (fr13 104 (by decide)).trans h104
          have h105 := (fr13 105 (by decide)).trans h105
          have h106 := (fr13 106 (by decide)).trans h106
          have h107 := (fr13 107 (by decide)).trans h107
          have h108 := (fr13 108 (by decide)).trans h108
          have h109 := (fr13 109 (by decide)).trans h109
          have h110 := (fr13 110 (by decide)).trans h110
          have h111 := (fr13 111 (by decide)).trans h111
          have hF : ∀ j, j < 100 → _ = ce j := fun j hj => (fr13 j (by omega)).trans (hF j hj)
          refine lv_iload_n hx hb dX6_carry_138 rfl (lv_at hl 0 rfl) ?_
          refine lv_if_eq (tgt := 146) hx hb dX6_carry_139 (by decide) (fun c139 => ?_) (fun c139 => absurd c139 (by decide))
          refine lv_iload_n hx hb dX6_carry_146 rfl (lv_at hl 1 rfl) ?_
          refine lv_sipush (v := 1000) hx hb dX6_carry_147 (by decide) ?_
          refine lv_iadd hx hb dX6_carry_150 ?_
          exact z_iret F (rfl) hw hS (by unfold sp_carry0; rw [if_neg c15, if_pos hg, if_pos c47, if_pos c71]; exact ⟨rfl, rfl, ⟨_, ⟨_, _, _, _, ⟨h100, h101, h102, h103, h104, h105, h106, h107, h108, h109, h110, h111⟩, hQ, hM⟩⟩, hF⟩) dX6_carry_151
        · refine lv_goto (tgt := 111) hx hb dX6_carry_74 (by decide) ?_
          refine lv_iconst (v := 1) hx hb dX6_carry_111 (by decide) ?_
          refine lv_goto (tgt := 116) hx hb dX6_carry_112 (by decide) ?_
          refine lv_istore_n (lv' := [(3, .int 1), (2, .int (nI (((Q 0).headD []).getD 1 0))), (0, .ref (ad 100)), (1, .int 0)]) hx hb dX6_carry_116 rfl hl (by decide) rfl (fun ls hl => ?_)
          refine lv_aload_n hx hb dX6_carry_117 rfl (lv_at hl 2 rfl) ?_
          refine lv_iload_n hx hb dX6_carry_118 rfl (lv_at hl 0 rfl) ?_
          refine lv_if_eq (tgt := 129) hx hb dX6_carry_119 (by decide) (fun c119 => absurd c119 (by decide)) (fun c119 => ?_)
          refine lv_aload_n hx hb dX6_carry_122 rfl (lv_at hl 2 rfl) ?_
          refine z_get F hw h100 fd_X6_168_X6 rfl dX6_carry_123 ?_
          refine lv_goto (tgt := 135) hx hb dX6_carry_126 (by decide) ?_
          refine z_put F hw hS (fs' := [.int (((sp_networkMoves T (va_up Q 0 ((Q 0).tail)) ((Q 0).headD []) (((Q 0).headD []).getD 1 0)).2.1) 0 0), .int (((sp_networkMoves T (va_up Q 0 ((Q 0).tail)) ((Q 0).headD []) (((Q 0).headD []).getD 1 0)).2.1) 0 1), .int (((sp_networkMoves T (va_up Q 0 ((Q 0).tail)) ((Q 0).headD []) (((Q 0).headD []).getD 1 0)).2.1) 0 2), .int (((sp_networkMoves T (va_up Q 0 ((Q 0).tail)) ((Q 0).headD []) (((Q 0).headD []).getD 1 0)).2.1) 0 3), .int (((sp_networkMoves T (va_up Q 0 ((Q 0).tail)) ((Q 0).headD []) (((Q 0).headD []).getD 1 0)).2.1) 0 4), .ref (ad 101), .ref (ad 102), .ref (ad 103), .int (((sp_networkMoves T (va_up Q 0 ((Q 0).tail)) ((Q 0).headD []) (((Q 0).headD []).getD 1 0)).2.1) 0 5), .ref (ad 104), .ref (ad 105), .ref (ad 106), .ref (ad 107), .ref (ad 108), .int (((sp_networkMoves T (va_up Q 0 ((Q 0).tail)) ((Q 0).headD []) (((Q 0).headD []).getD 1 0)).2.1) 0 6), .int (((sp_networkMoves T (va_up Q 0 ((Q 0).tail)) ((Q 0).headD []) (((Q 0).headD []).getD 1 0)).2.1) 0 7), .int (((sp_networkMoves T (va_up Q 0 ((Q 0).tail)) ((Q 0).headD []) (((Q 0).headD []).getD 1 0)).2.1) 0 8), .ref (ad 109), .int (((sp_networkMoves T (va_up Q 0 ((Q 0).tail)) ((Q 0).headD []) (((Q 0).headD []).getD 1 0)).2.1) 0 9), .ref (ad 110), .int (((sp_networkMoves T (va_up Q 0 ((Q 0).tail)) ((Q 0).headD []) (((Q 0).headD []).getD 1 0)).2.1) 0 10), .int (nI (((Q 0).headD [])).length), .ref (ad 111)]) h100 fd_X6_168_X6 ptX6 rfl (rfl) (rfl) (Nat.le_of_ble_eq_true rfl) rfl dX6_carry_135 (fun ce14 H locs h100 fr15 hw hS => ?_)
          have h101 := (fr15 101 (by decide)).trans h101
          have h102 := (fr15 102 (by decide)).trans h102
          have h103 := (fr15 103 (by decide)).trans h103
          have h104 := (fr15 104 (by decide)).trans h104
          have h105 := (fr15 105 (by decide)).trans h105
          have h106 := (fr15 106 (by decide)).trans h106
          have h107 := (fr15 107 (by decide)).trans h107
          have h108 := (fr15 108 (by decide)).trans h108
          have h109 := (fr15 109 (by decide)).trans h109
          have h110 := (fr15 110 (by decide)).trans h110
          have h111 := (fr15 111 (by decide)).trans h111
          have hF : ∀ j, j < 100 → _ = ce j := fun j hj => (fr15 j (by omega)).trans (hF j hj)
          refine lv_iload_n hx hb dX6_carry_138 rfl (lv_at hl 0 rfl) ?_
          refine lv_if_eq (tgt := 146) hx hb dX6_carry_139 (by decide) (fun c139 => absurd c139 (by decide)) (fun c139 => ?_)
          refine lv_iload_n hx hb dX6_carry_142 rfl (lv_at hl 1 rfl) ?_
          refine lv_goto (tgt := 151) hx hb dX6_carry_143 (by decide) ?_
          exact z_iret F (rfl) hw hS (by unfold sp_carry0; rw [if_neg c15, if_pos hg, if_pos c47, if_neg c71]; exact ⟨rfl, rfl, ⟨_, ⟨_, _, _, _, ⟨h100, h101, h102, h103, h104, h105, h106, h107, h108, h109, h110, h111⟩, hQ, hM⟩⟩, hF⟩) dX6_carry_151
    · refine W.eq (g2 := F0 m 37 ls [.int 0]) rfl ?_
      refine lv_if_eq (tgt := 115) hx hb dX6_carry_37 (by decide) (fun c37 => ?_) (fun c37 => absurd c37 (by decide))
      refine lv_iconst (v := 0) hx hb dX6_carry_115 (by decide) ?_
      refine lv_istore_n (lv' := [(3, .int 0), (2, .int (nI (((Q 0).headD []).getD 1 0))), (0, .ref (ad 100)), (1, .int 0)]) hx hb dX6_carry_116 rfl hl (by decide) rfl (fun ls hl => ?_)
      refine lv_aload_n hx hb dX6_carry_117 rfl (lv_at hl 2 rfl) ?_
      refine lv_iload_n hx hb dX6_carry_118 rfl (lv_at hl 0 rfl) ?_
      refine lv_if_eq (tgt := 129) hx hb dX6_carry_119 (by decide) (fun c119 => ?_) (fun c119 => absurd c119 (by decide))
      refine lv_aload_n hx hb dX6_carry_129 rfl (lv_at hl 2 rfl) ?_
      refine z_get F hw h100 fd_X6_168_X6 rfl dX6_carry_130 ?_
      refine lv_iconst (v := 1) hx hb dX6_carry_133 (by decide) ?_
      refine lv_iadd hx hb dX6_carry_134 ?_
      refine z_put F hw hS (fs' := [.int (T 0 0), .int (T 0 1), .int (T 0 2), .int (T 0 3), .int (T 0 4), .ref (ad 101), .ref (ad 102), .ref (ad 103), .int ((T 0 5) + 1), .ref (ad 104), .ref (ad 105), .ref (ad 106), .ref (ad 107), .ref (ad 108), .int (T 0 6), .int (T 0 7), .int (T 0 8), .ref (ad 109), .int (T 0 9), .ref (ad 110), .int (T 0 10), .int (nI (((Q 0).headD [])).length), .ref (ad 111)]) h100 fd_X6_168_X6 ptX6 rfl (rfl) (rfl) (Nat.le_of_ble_eq_true rfl) rfl dX6_carry_135 (fun ce16 H locs h100 fr17 hw hS => ?_)
      have h101 := (fr17 101 (by decide)).trans h101
      have h102 := (fr17 102 (by decide)).trans h102
      have h103 := (fr17 103 (by decide)).trans h103
      have h104 := (fr17 104 (by decide)).trans h104
      have h105 := (fr17 105 (by decide)).trans h105
      have h106 := (fr17 106 (by decide)).trans h106
      have h107 := (fr17 107 (by decide)).trans h107
      have h108 := (fr17 108 (by decide)).trans h108
      have h109 := (fr17 109 (by decide)).trans h109
      have h110 := (fr17 110 (by decide)).trans h110
      have h111 := (fr17 111 (by decide)).trans h111
      have hF : ∀ j, j < 100 → _ = ce j := fun j hj => (fr17 j (by omega)).trans (hF j hj)
      refine lv_iload_n hx hb dX6_carry_138 rfl (lv_at hl 0 rfl) ?_
      refine lv_if_eq (tgt := 146) hx hb dX6_carry_139 (by decide) (fun c139 => ?_) (fun c139 => absurd c139 (by decide))
      refine lv_iload_n hx hb dX6_carry_146 rfl (lv_at hl 1 rfl) ?_
      refine lv_sipush (v := 1000) hx hb dX6_carry_147 (by decide) ?_
      refine lv_iadd hx hb dX6_carry_150 ?_
      exact z_iret F (rfl) hw hS (by unfold sp_carry0; rw [if_neg c15, if_neg hg]; exact ⟨rfl, rfl, ⟨_, ⟨_, _, _, _, ⟨h100, h101, h102, h103, h104, h105, h106, h107, h108, h109, h110, h111⟩, hQ, hM⟩⟩, hF⟩) dX6_carry_151
  · refine lv_bipush (v := -3) hx hb dX6_carry_18 (by decide) ?_
    exact z_iret F (rfl) hw hS (by unfold sp_carry0; rw [if_pos c15]; exact ⟨rfl, rfl, ⟨_, ⟨_, _, _, _, ⟨h100, h101, h102, h103, h104, h105, h106, h107, h108, h109, h110, h111⟩, hQ, hM⟩⟩, hF⟩) dX6_carry_20
def sp_carry1 (T : rf_T) (Q : rf_Q) (M : List Nat) (d : Nat) : rf_R := (if ((nI (Q 1).length) : Int32) = 0 then ((-3), T, Q) else (if rf_good ((Q 1).headD []) then (if ((nI (((Q 1).headD []).getD 0 0)) : Int32) = 5 then (if (((sp_mobileMoves T (va_up Q 1 ((Q 1).tail)) ((Q 1).headD []) (((Q 1).headD []).getD 1 0) d).1) : Int32) = 0 then (((nI (((Q 1).headD []).getD 1 0)) + 1000), va_up ((sp_mobileMoves T (va_up Q 1 ((Q 1).tail)) ((Q 1).headD []) (((Q 1).headD []).getD 1 0) d).2.1) 0 (va_up (((sp_mobileMoves T (va_up Q 1 ((Q 1).tail)) ((Q 1).headD []) (((Q 1).headD []).getD 1 0) d).2.1) 0) 5 ((((sp_mobileMoves T (va_up Q 1 ((Q 1).tail)) ((Q 1).headD []) (((Q 1).headD []).getD 1 0) d).2.1) 0 5) + 1)), (sp_mobileMoves T (va_up Q 1 ((Q 1).tail)) ((Q 1).headD []) (((Q 1).headD []).getD 1 0) d).2.2) else ((nI (((Q 1).headD []).getD 1 0)), ((sp_mobileMoves T (va_up Q 1 ((Q 1).tail)) ((Q 1).headD []) (((Q 1).headD []).getD 1 0) d).2.1), (sp_mobileMoves T (va_up Q 1 ((Q 1).tail)) ((Q 1).headD []) (((Q 1).headD []).getD 1 0) d).2.2)) else (if ((nI (((Q 1).headD []).getD 0 0)) : Int32) = 3 then (if (((sp_mobileCalls T (va_up Q 1 ((Q 1).tail)) ((Q 1).headD []) (((Q 1).headD []).getD 1 0)).1) : Int32) = 0 then (((nI (((Q 1).headD []).getD 1 0)) + 1000), va_up ((sp_mobileCalls T (va_up Q 1 ((Q 1).tail)) ((Q 1).headD []) (((Q 1).headD []).getD 1 0)).2.1) 0 (va_up (((sp_mobileCalls T (va_up Q 1 ((Q 1).tail)) ((Q 1).headD []) (((Q 1).headD []).getD 1 0)).2.1) 0) 5 ((((sp_mobileCalls T (va_up Q 1 ((Q 1).tail)) ((Q 1).headD []) (((Q 1).headD []).getD 1 0)).2.1) 0 5) + 1)), (sp_mobileCalls T (va_up Q 1 ((Q 1).tail)) ((Q 1).headD []) (((Q 1).headD []).getD 1 0)).2.2) else ((nI (((Q 1).headD []).getD 1 0)), ((sp_mobileCalls T (va_up Q 1 ((Q 1).tail)) ((Q 1).headD []) (((Q 1).headD []).getD 1 0)).2.1), (sp_mobileCalls T (va_up Q 1 ((Q 1).tail)) ((Q 1).headD []) (((Q 1).headD []).getD 1 0)).2.2)) else (((nI (((Q 1).headD []).getD 1 0)) + 1000), va_up T 0 (va_up (T 0) 5 ((T 0 5) + 1)), va_up Q 1 ((Q 1).tail)))) else (((nI (((Q 1).headD []).getD 1 0)) + 1000), va_up T 0 (va_up (T 0) 5 ((T 0 5) + 1)), va_up Q 1 ((Q 1).tail))))
set_option maxHeartbeats 4000000 in
set_option maxRecDepth 100000 in
theorem r_carry1 (l : Launch) {G : zz_G} {ad : Nat → Nat} {ce : zz_C} {sz : Nat} (T : rf_T) (Q : rf_Q) (M : List Nat) (hV : rfV G ad ce T Q M) (d : Nat) (hd : d ≤ 8) (hdc : T 0 9 = nI d) : zz_M l yX6_carry cX6_carry 4 (some .int) 4 95 0 0 G [.ref (ad 100), .int 1] ad ce sz (fun r ad1 ce1 => r = some (.int (sp_carry1 T Q M d).1) ∧ ad = ad1 ∧ (∃ M1, rfV G ad ce1 (sp_carry1 T Q M d).2.1 (sp_carry1 T Q M d).2.2 M1) ∧ (∀ j, j < 100 → ce1 j = ce j)) := by
  refine zz_enter (by decide) (Nat.le_of_ble_eq_true rfl) ?_
  intro p e s m below meth c ls F hl hw hS hA
  obtain ⟨hx, hb, hr, hml, hown, hts, hlocks, hK, hnm⟩ := id F
  have hl : lv_has ls 4 [(0, .ref (ad 100)), (1, .int 1)] := hl
  obtain ⟨cn, zs, bs, hh, ⟨h100, h101, h102, h103, h104, h105, h106, h107, h108, h109, h110, h111⟩, hQ, hM⟩ := hV
  have hF : ∀ j, j < 100 → ce j = ce j := fun _ _ => rfl
  refine lv_iload_n hx hb dX6_carry_0 rfl (lv_at hl 1 rfl) ?_
  refine z_invS F (rest := []) (r_isWay l 1) ys_X6_145 ⟨Nat.le_of_ble_eq_true rfl, Nat.le_of_ble_eq_true rfl⟩ hw hA hS hl rfl rfl (Nat.le_of_ble_eq_true rfl) dX6_carry_1 ⟨Nat.le_of_ble_eq_true rfl, Nat.le_of_ble_eq_true rfl⟩ (fun r ad1 ce1 H locs hp hw hS => ?_)
  obtain ⟨hp, rfl, rfl⟩ := hp
  rcases hp with ⟨-, rfl⟩ | ⟨hn9, rfl⟩
  rotate_left
  · exact absurd (Or.inr rfl) hn9
  refine W.eq (g2 := F0 m 4 ls [.int 1]) rfl ?_
  refine lv_if_ne (tgt := 9) hx hb dX6_carry_4 (by decide) (fun c4 => ?_) (fun c4 => absurd c4 (by decide))
  refine lv_aload_n hx hb dX6_carry_9 rfl (lv_at hl 0 rfl) ?_
  refine z_get F hw h100 fd_X6_13_X6 rfl dX6_carry_10 ?_
  refine lv_iload_n hx hb dX6_carry_13 rfl (lv_at hl 1 rfl) ?_
  refine z_ld F hw h101 (1) (rfl) (by decide) (by decide) dX6_carry_14 ?_
  refine z_top (nI (Q 1).length) ((hQ 1 (by decide)).2.1) ?_
  refine lv_if_ne (tgt := 21) hx hb dX6_carry_15 (by decide) (fun c15 => ?_) (fun c15 => ?_)
  · have hq := rf_hdtl c15
    obtain ⟨hx2, hx24, -, -⟩ := rfQ_first hQ (by decide) c15
    refine lv_aload_n hx hb dX6_carry_21 rfl (lv_at hl 0 rfl) ?_
    refine lv_iload_n hx hb dX6_carry_22 rfl (lv_at hl 1 rfl) ?_
    have hV : rfV G ad ce T Q M := ⟨_, _, _, _, ⟨h100, h101, h102, h103, h104, h105, h106, h107, h108, h109, h110, h111⟩, hQ, hM⟩
    refine z_invV F (rest := []) (r_take1 l T Q M hV ((Q 1).headD []) ((Q 1).tail) hq) yv_X6_149 ⟨Nat.le_of_ble_eq_true rfl, Nat.le_of_ble_eq_true rfl⟩ hw hA hS hl h100 rfl rfl rfl (Nat.le_of_ble_eq_true rfl) dX6_carry_23 ⟨Nat.le_of_ble_eq_true rfl, Nat.le_of_ble_eq_true rfl⟩ (fun r ad1 ce2 H locs hp hw hS => ?_)
    obtain ⟨rfl, rfl, hV, hF2⟩ := hp
    have hF : ∀ j, j < 100 → ce2 j = ce j := fun j hj => (hF2 j hj).trans (hF j hj)
    obtain ⟨cn, zs, bs, hh, ⟨h100, h101, h102, h103, h104, h105, h106, h107, h108, h109, h110, h111⟩, hQ, hM⟩ := hV
    refine W.eq (g2 := F0 m 26 ls []) rfl ?_
    refine lv_aload_n hx hb dX6_carry_26 rfl (lv_at hl 0 rfl) ?_
    refine z_get F hw h100 fd_X6_48_X6 rfl dX6_carry_27 ?_
    refine lv_iconst (v := 1) hx hb dX6_carry_30 (by decide) ?_
    refine z_ld F hw h111 (1) (rfl) (by decide) (by decide) dX6_carry_31 ?_
    refine z_top (nI (((Q 1).headD []).getD 1 0)) ((hM.2 1 (by omega)).1) ?_
    refine lv_istore_n (lv' := [(2, .int (nI (((Q 1).headD []).getD 1 0))), (0, .ref (ad 100)), (1, .int 1)]) hx hb dX6_carry_32 rfl hl (by decide) rfl (fun ls hl => ?_)
    refine lv_aload_n hx hb dX6_carry_33 rfl (lv_at hl 1 rfl) ?_
    have hV : rfV G ad ce2 T (va_up Q 1 ((Q 1).tail)) ((Q 1).headD []) := ⟨_, _, _, _, ⟨h100, h101, h102, h103, h104, h105, h106, h107, h108, h109, h110, h111⟩, hQ, hM⟩
    refine z_invV F (rest := []) (r_isGood l T (va_up Q 1 ((Q 1).tail)) ((Q 1).headD []) hV hx2) yv_X6_152 ⟨Nat.le_of_ble_eq_true rfl, Nat.le_of_ble_eq_true rfl⟩ hw hA hS hl h100 rfl rfl rfl (Nat.le_of_ble_eq_true rfl) dX6_carry_34 ⟨Nat.le_of_ble_eq_true rfl, Nat.le_of_ble_eq_true rfl⟩ (fun r ad1 ce3 H locs hp hw hS => ?_)
    obtain ⟨hp, rfl, rfl⟩ := hp
    rcases hp with ⟨hg, rfl⟩ | ⟨hg, rfl⟩
    · refine W.eq (g2 := F0 m 37 ls [.int 1]) rfl ?_
      refine lv_if_eq (tgt := 115) hx hb dX6_carry_37 (by decide) (fun c37 => absurd c37 (by decide)) (fun c37 => ?_)
      refine lv_aload_n hx hb dX6_carry_40 rfl (lv_at hl 1 rfl) ?_
      refine z_get F hw h100 fd_X6_48_X6 rfl dX6_carry_41 ?_
      refine lv_iconst (v := 0) hx hb dX6_carry_44 (by decide) ?_
      refine z_ld F hw h111 (0) (rfl) (by decide) (by decide) dX6_carry_45 ?_
      refine z_top (nI (((Q 1).headD []).getD 0 0)) ((hM.2 0 (by omega)).1) ?_
      refine lv_iconst (v := 5) hx hb dX6_carry_46 (by decide) ?_
      refine lv_icmp_ne (tgt := 77) hx hb dX6_carry_47 (by decide) (fun c47 => ?_) (fun c47 => ?_)
      · refine lv_aload_n hx hb dX6_carry_77 rfl (lv_at hl 1 rfl) ?_
        refine z_get F hw h100 fd_X6_48_X6 rfl dX6_carry_78 ?_
        refine lv_iconst (v := 0) hx hb dX6_carry_81 (by decide) ?_
        refine z_ld F hw h111 (0) (rfl) (by decide) (by decide) dX6_carry_82 ?_
        refine z_top (nI (((Q 1).headD []).getD 0 0)) ((hM.2 0 (by omega)).1) ?_
        refine lv_iconst (v := 3) hx hb dX6_carry_83 (by decide) ?_
        refine lv_icmp_ne (tgt := 115) hx hb dX6_carry_84 (by decide) (fun c84 => ?_) (fun c84 => ?_)
        · refine lv_iconst (v := 0) hx hb dX6_carry_115 (by decide) ?_
          refine lv_istore_n (lv' := [(3, .int 0), (2, .int (nI (((Q 1).headD []).getD 1 0))), (0, .ref (ad 100)), (1, .int 1)]) hx hb dX6_carry_116 rfl hl (by decide) rfl (fun ls hl => ?_)
          refine lv_aload_n hx hb dX6_carry_117 rfl (lv_at hl 2 rfl) ?_
          refine lv_iload_n hx hb dX6_carry_118 rfl (lv_at hl 0 rfl) ?_
          refine lv_if_eq (tgt := 129) hx hb dX6_carry_119 (by decide) (fun c119 => ?_) (fun c119 => absurd c119 (by decide))
          refine lv_aload_n hx hb dX6_carry_129 rfl (lv_at hl 2 rfl) ?_
          refine z_get F hw h100 fd_X6_168_X6 rfl dX6_carry_130 ?_
          refine lv_iconst (v := 1) hx hb dX6_carry_133 (by decide) ?_
          refine lv_iadd hx hb dX6_carry_134 ?_
          refine z_put F hw hS (fs' := [.int (T 0 0), .int (T 0 1), .int (T 0 2), .int (T 0 3), .int (T 0 4), .ref (ad 101), .ref (ad 102), .ref (ad 103), .int ((T 0 5) + 1), .ref (ad 104), .ref (ad 105), .ref (ad 106), .ref (ad 107), .ref (ad 108), .int (T 0 6), .int (T 0 7), .int (T 0 8), .ref (ad 109), .int (T 0 9), .ref (ad 110), .int (T 0 10), .int (nI (((Q 1).headD [])).length), .ref (ad 111)]) h100 fd_X6_168_X6 ptX6 rfl (rfl) (rfl) (Nat.le_of_ble_eq_true rfl) rfl dX6_carry_135 (fun ce4 H locs h100 fr5 hw hS => ?_)
          have h101 := (fr5 101 (by decide)).trans h101
          have h102 := (fr5 102 (by decide)).trans h102
          have h103 := (fr5 103 (by decide)).trans h103
          have h104 := (fr5 104 (by decide)).trans h104
          have h105 := (fr5 105 (by decide)).trans h105
          have h106 := (fr5 106 (by decide)).trans h106
          have h107 := (fr5 107 (by decide)).trans h107
          have h108 := (fr5 108 (by decide)).trans h108
          have h109 := (fr5 109 (by decide)).trans h109
          have h110 := (fr5 110 (by decide)).trans h110
          have h111 := (fr5 111 (by decide)).trans h111
          have hF : ∀ j, j < 100 → _ = ce j := fun j hj => (fr5 j (by omega)).trans (hF j hj)
          refine lv_iload_n hx hb dX6_carry_138 rfl (lv_at hl 0 rfl) ?_
          refine lv_if_eq (tgt := 146) hx hb dX6_carry_139 (by decide) (fun c139 => ?_) (fun c139 => absurd c139 (by decide))
          refine lv_iload_n hx hb dX6_carry_146 rfl (lv_at hl 1 rfl) ?_
          refine lv_sipush (v := 1000) hx hb dX6_carry_147 (by decide) ?_
          refine lv_iadd hx hb dX6_carry_150 ?_
          exact z_iret F (rfl) hw hS (by unfold sp_carry1; rw [if_neg c15, if_pos hg, if_neg c47, if_neg c84]; exact ⟨rfl, rfl, ⟨_, ⟨_, _, _, _, ⟨h100, h101, h102, h103, h104, h105, h106, h107, h108, h109, h110, h111⟩, hQ, hM⟩⟩, hF⟩) dX6_carry_151
        · refine lv_iload_n hx hb dX6_carry_87 rfl (lv_at hl 2 rfl) ?_
          refine lv_iconst (v := 1) hx hb dX6_carry_88 (by decide) ?_
          refine lv_icmp_ne (tgt := 103) hx hb dX6_carry_89 (by decide) (fun c89 => absurd c89 (by decide)) (fun c89 => ?_)
          refine lv_aload_n hx hb dX6_carry_92 rfl (lv_at hl 1 rfl) ?_
          refine lv_iload_n hx hb dX6_carry_93 rfl (lv_at hl 0 rfl) ?_
          have hV : rfV G ad ce2 T (va_up Q 1 ((Q 1).tail)) ((Q 1).headD []) := ⟨_, _, _, _, ⟨h100, h101, h102, h103, h104, h105, h106, h107, h108, h109, h110, h111⟩, hQ, hM⟩
          refine z_invV F (rest := []) (r_mobileCalls l T (va_up Q 1 ((Q 1).tail)) ((Q 1).headD []) hV hg (((Q 1).headD []).getD 1 0) (hM.2 1 (by omega)).2) yv_X6_162 ⟨Nat.le_of_ble_eq_true rfl, Nat.le_of_ble_eq_true rfl⟩ hw hA hS hl h100 rfl rfl rfl (Nat.le_of_ble_eq_true rfl) dX6_carry_94 ⟨Nat.le_of_ble_eq_true rfl, Nat.le_of_ble_eq_true rfl⟩ (fun r ad1 ce6 H locs hp hw hS => ?_)
          obtain ⟨rfl, rfl, hV, hF2⟩ := hp
          have hF : ∀ j, j < 100 → ce6 j = ce j := fun j hj => (hF2 j hj).trans (hF j hj)
          obtain ⟨cn, zs, bs, hh, ⟨h100, h101, h102, h103, h104, h105, h106, h107, h108, h109, h110, h111⟩, hQ, hM⟩ := hV
          refine W.eq (g2 := F0 m 97 ls [.int ((sp_mobileCalls T (va_up Q 1 ((Q 1).tail)) ((Q 1).headD []) (((Q 1).headD []).getD 1 0)).1)]) rfl ?_
          refine lv_if_eq (tgt := 115) hx hb dX6_carry_97 (by decide) (fun c97 => ?_) (fun c97 => ?_)
          · refine lv_iconst (v := 0) hx hb dX6_carry_115 (by decide) ?_
            refine lv_istore_n (lv' := [(3, .int 0), (2, .int (nI (((Q 1).headD []).getD 1 0))), (0, .ref (ad 100)), (1, .int 1)]) hx hb dX6_carry_116 rfl hl (by decide) rfl (fun ls hl => ?_)
            refine lv_aload_n hx hb dX6_carry_117 rfl (lv_at hl 2 rfl) ?_
            refine lv_iload_n hx hb dX6_carry_118 rfl (lv_at hl 0 rfl) ?_
            refine lv_if_eq (tgt := 129) hx hb dX6_carry_119 (by decide) (fun c119 => ?_) (fun c119 => absurd c119 (by decide))
            refine lv_aload_n hx hb dX6_carry_129 rfl (lv_at hl 2 rfl) ?_
            refine z_get F hw h100 fd_X6_168_X6 rfl dX6_carry_130 ?_
            refine lv_iconst (v := 1) hx hb dX6_carry_133 (by decide) ?_
            refine lv_iadd hx hb dX6_carry_134 ?_
            refine z_put F hw hS (fs' := [.int (((sp_mobileCalls T (va_up Q 1 ((Q 1).tail)) ((Q 1).headD []) (((Q 1).headD []).getD 1 0)).2.1) 0 0), .int (((sp_mobileCalls T (va_up Q 1 ((Q 1).tail)) ((Q 1).headD []) (((Q 1).headD []).getD 1 0)).2.1) 0 1), .int (((sp_mobileCalls T (va_up Q 1 ((Q 1).tail)) ((Q 1).headD []) (((Q 1).headD []).getD 1 0)).2.1) 0 2), .int (((sp_mobileCalls T (va_up Q 1 ((Q 1).tail)) ((Q 1).headD []) (((Q 1).headD []).getD 1 0)).2.1) 0 3), .int (((sp_mobileCalls T (va_up Q 1 ((Q 1).tail)) ((Q 1).headD []) (((Q 1).headD []).getD 1 0)).2.1) 0 4), .ref (ad 101), .ref (ad 102), .ref (ad 103), .int ((((sp_mobileCalls T (va_up Q 1 ((Q 1).tail)) ((Q 1).headD []) (((Q 1).headD []).getD 1 0)).2.1) 0 5) + 1), .ref (ad 104), .ref (ad 105), .ref (ad 106), .ref (ad 107), .ref (ad 108), .int (((sp_mobileCalls T (va_up Q 1 ((Q 1).tail)) ((Q 1).headD []) (((Q 1).headD []).getD 1 0)).2.1) 0 6), .int (((sp_mobileCalls T (va_up Q 1 ((Q 1).tail)) ((Q 1).headD []) (((Q 1).headD []).getD 1 0)).2.1) 0 7), .int (((sp_mobileCalls T (va_up Q 1 ((Q 1).tail)) ((Q 1).headD []) (((Q 1).headD []).getD 1 0)).2.1) 0 8), .ref (ad 109), .int (((sp_mobileCalls T (va_up Q 1 ((Q 1).tail)) ((Q 1).headD []) (((Q 1).headD []).getD 1 0)).2.1) 0 9), .ref (ad 110), .int (((sp_mobileCalls T (va_up Q 1 ((Q 1).tail)) ((Q 1).headD []) (((Q 1).headD []).getD 1 0)).2.1) 0 10), .int (nI (((Q 1).headD [])).length), .ref (ad 111)]) h100 fd_X6_168_X6 ptX6 rfl (rfl) (rfl) (Nat.le_of_ble_eq_true rfl) rfl dX6_carry_135 (fun ce7 H locs h100 fr8 hw hS => ?_)
            have h101 := (fr8 101 (by decide)).trans h101
            have h102 := (fr8 102 (by decide)).trans h102
            have h103 := (fr8 103 (by decide)).trans h103
            have h104 := (fr8 104 (by decide)).trans h104
            have h105 := (fr8 105 (by decide)).trans h105
            have h106 := (fr8 106 (by decide)).trans h106
            have h107 := (fr8 107 (by decide)).trans h107
            have h108 := (fr8 108 (by decide)).trans h108
            have h109 := (fr8 109 (by decide)).trans h109
            have h110 := (fr8 110 (by decide)).trans h110
            have h111 := (fr8 111 (by decide)).trans h111
            have hF : ∀ j, j < 100 → _ = ce j := fun j hj => (fr8 j (by omega)).trans (hF j hj)
            refine lv_iload_n hx hb dX6_carry_138 rfl (lv_at hl 0 rfl) ?_
            refine lv_if_eq (tgt := 146) hx hb dX6_carry_139 (by decide) (fun c139 => ?_) (fun c139 => absurd c139 (by decide))
            refine lv_iload_n hx hb dX6_carry_146 rfl (lv_at hl 1 rfl) ?_
            refine lv_sipush (v := 1000) hx hb dX6_carry_147 (by decide) ?_
            refine lv_iadd hx hb dX6_carry_150 ?_
            exact z_iret F (rfl) hw hS (by unfold sp_carry1; rw [if_neg c15, if_pos hg, if_neg c47, if_pos c84, if_pos c97]; exact ⟨rfl, rfl, ⟨_, ⟨_, _, _, _, ⟨h100, h101, h102, h103, h104, h105, h106, h107, h108, h109, h110, h111⟩, hQ, hM⟩⟩, hF⟩) dX6_carry_151
          · refine lv_goto (tgt := 111) hx hb dX6_carry_100 (by decide) ?_
            refine lv_iconst (v := 1) hx hb dX6_carry_111 (by decide) ?_
            refine lv_goto (tgt := 116) hx hb dX6_carry_112 (by decide) ?_
            refine lv_istore_n (lv' := [(3, .int 1), (2, .int (nI (((Q 1).headD []).getD 1 0))), (0, .ref (ad 100)), (1, .int 1)]) hx hb dX6_carry_116 rfl hl (by decide) rfl (fun ls hl => ?_)
            refine lv_aload_n hx hb dX6_carry_117 rfl (lv_at hl 2 rfl) ?_
            refine lv_iload_n hx hb dX6_carry_118 rfl (lv_at hl 0 rfl) ?_
            refine lv_if_eq (tgt := 129) hx hb dX6_carry_119 (by decide) (fun c119 => absurd c119 (by decide)) (fun c119 => ?_)
            refine lv_aload_n hx hb dX6_carry_122 rfl (lv_at hl 2 rfl) ?_
            refine z_get F hw h100 fd_X6_168_X6 rfl dX6_carry_123 ?_
            refine lv_goto (tgt := 135) hx hb dX6_carry_126 (by decide) ?_
            refine z_put F hw hS (fs' := [.int (((sp_mobileCalls T (va_up Q 1 ((Q 1).tail)) ((Q 1).headD []) (((Q 1).headD []).getD 1 0)).2.1) 0 0), .int (((sp_mobileCalls T (va_up Q 1 ((Q 1).tail)) ((Q 1).headD []) (((Q 1).headD []).getD 1 0)).2.1) 0 1), .int (((sp_mobileCalls T (va_up Q 1 ((Q 1).tail)) ((Q 1).headD []) (((Q 1).headD []).getD 1 0)).2.1) 0 2), .int (((sp_mobileCalls T (va_up Q 1 ((Q 1).tail)) ((Q 1).headD []) (((Q 1).headD []).getD 1 0)).2.1) 0 3), .int (((sp_mobileCalls T (va_up Q 1 ((Q 1).tail)) ((Q 1).headD []) (((Q 1).headD []).getD 1 0)).2.1) 0 4), .ref (ad 101), .ref (ad 102), .ref (ad 103), .int (((sp_mobileCalls T (va_up Q 1 ((Q 1).tail)) ((Q 1).headD []) (((Q 1).headD []).getD 1 0)).2.1) 0 5), .ref (ad 104), .ref (ad 105), .ref (ad 106), .ref (ad 107), .ref (ad 108), .int (((sp_mobileCalls T (va_up Q 1 ((Q 1).tail)) ((Q 1).headD []) (((Q 1).headD []).getD 1 0)).2.1) 0 6), .int (((sp_mobileCalls T (va_up Q 1 ((Q 1).tail)) ((Q 1).headD []) (((Q 1).headD []).getD 1 0)).2.1) 0 7), .int (((sp_mobileCalls T (va_up Q 1 ((Q 1).tail)) ((Q 1).headD []) (((Q 1).headD []).getD 1 0)).2.1) 0 8), .ref (ad 109), .int (((sp_mobileCalls T (va_up Q 1 ((Q 1).tail)) ((Q 1).headD []) (((Q 1).headD []).getD 1 0)).2.1) 0 9), .ref (ad 110), .int (((sp_mobileCalls T (va_up Q 1 ((Q 1).tail)) ((Q 1).headD []) (((Q 1).headD []).getD 1 0)).2.1) 0 10), .int (nI (((Q 1).headD [])).length), .ref (ad 111)]) h100 fd_X6_168_X6 ptX6 rfl (rfl) (rfl) (Nat.le_of_ble_eq_true rfl) rfl dX6_carry_135 (fun ce9 H locs h100 fr10 hw hS => ?_)
            have h101 := (fr10 101 (by decide)).trans h101
            have h102 := (fr10 102 (by decide)).trans h102
            have h103 := (fr10 103 (by decide)).trans h103
            have h104 := (fr10 104 (by decide)).trans h104
            have h105 := (fr10 105 (by decide)).trans h105
            have h106 := (fr10 106 (by decide)).trans h106
            have h107 := (fr10 107 (by decide)).trans h107
            have h108 := (fr10 108 (by decide)).trans h108
            have h109 := (fr10 109 (by decide)).trans h109
            have h110 := (fr10 110 (by decide)).trans h110
            have h111 := (fr10 111 (by decide)).trans h111
            have hF : ∀ j, j < 100 → _ = ce j := fun j hj => (fr10 j (by omega)).trans (hF j hj)
            refine lv_iload_n hx hb dX6_carry_138 rfl (lv_at hl 0 rfl) ?_
            refine lv_if_eq (tgt := 146) hx hb dX6_carry_139 (by decide) (fun c139 => absurd c139 (by decide)) (fun c139 => ?_)
            refine lv_iload_n hx hb dX6_carry_142 rfl (lv_at hl 1 rfl) ?_
            refine lv_goto (tgt := 151) hx hb dX6_carry_143 (by decide) ?_
            exact z_iret F (rfl) hw hS (by unfold sp_carry1; rw [if_neg c15, if_pos hg, if_neg c47, if_pos c84, if_neg c97]; exact ⟨rfl, rfl, ⟨_, ⟨_, _, _, _, ⟨h100, h101, h102, h103, h104, h105, h106, h107, h108, h109, h110, h111⟩, hQ, hM⟩⟩, hF⟩) dX6_carry_151
      · refine lv_iload_n hx hb dX6_carry_50 rfl (lv_at hl 2 rfl) ?_
        refine lv_iconst (v := 1) hx hb dX6_carry_51 (by decide) ?_
        refine lv_icmp_ne (tgt := 66) hx hb dX6_carry_52 (by decide) (fun c52 => absurd c52 (by decide)) (fun c52 => ?_)
        refine lv_aload_n hx hb dX6_carry_55 rfl (lv_at hl 1 rfl) ?_
        refine lv_iload_n hx hb dX6_carry_56 rfl (lv_at hl 0 rfl) ?_
        have hV : rfV G ad ce2 T (va_up Q 1 ((Q 1).tail)) ((Q 1).headD []) := ⟨_, _, _, _, ⟨h100, h101, h102, h103, h104, h105, h106, h107, h108, h109, h110, h111⟩, hQ, hM⟩
        refine z_invV F (rest := []) (r_mobileMoves l T (va_up Q 1 ((Q 1).tail)) ((Q 1).headD []) hV hg (((Q 1).headD []).getD 1 0) (hM.2 1 (by omega)).2 d hd hdc) yv_X6_156 ⟨Nat.le_of_ble_eq_true rfl, Nat.le_of_ble_eq_true rfl⟩ hw hA hS hl h100 rfl rfl rfl (Nat.le_of_ble_eq_true rfl) dX6_carry_57 ⟨Nat.le_of_ble_eq_true rfl, Nat.le_of_ble_eq_true rfl⟩ (fun r ad1 ce11 H locs hp hw hS => ?_)
        obtain ⟨rfl, rfl, hV, hF2⟩ := hp
        have hF : ∀ j, j < 100 → ce11 j = ce j := fun j hj => (hF2 j hj).trans (hF j hj)
        obtain ⟨cn, zs, bs, hh, ⟨h100, h101, h102, h103, h104, h105, h106, h107, h108, h109, h110, h111⟩, hQ, hM⟩ := hV
        refine W.eq (g2 := F0 m 60 ls [.int ((sp_mobileMoves T (va_up Q 1 ((Q 1).tail)) ((Q 1).headD []) (((Q 1).headD []).getD 1 0) d).1)]) rfl ?_
        refine lv_if_eq (tgt := 115) hx hb dX6_carry_60 (by decide) (fun c60 => ?_) (fun c60 => ?_)
        · refine lv_iconst (v := 0) hx hb dX6_carry_115 (by decide) ?_
          refine lv_istore_n (lv' := [(3, .int 0), (2, .int (nI (((Q 1).headD []).getD 1 0))), (0, .ref (ad 100)), (1, .int 1)]) hx hb dX6_carry_116 rfl hl (by decide) rfl (fun ls hl => ?_)
          refine lv_aload_n hx hb dX6_carry_117 rfl (lv_at hl 2 rfl) ?_
          refine lv_iload_n hx hb dX6_carry_118 rfl (lv_at hl 0 rfl) ?_
          refine lv_if_eq (tgt := 129) hx hb dX6_carry_119 (by decide) (fun c119 => ?_) (fun c119 => absurd c119 (by decide))
          refine lv_aload_n hx hb dX6_carry_129 rfl (lv_at hl 2 rfl) ?_
          refine z_get F hw h100 fd_X6_168_X6 rfl dX6_carry_130 ?_
          refine lv_iconst (v := 1) hx hb dX6_carry_133 (by decide) ?_
          refine lv_iadd hx hb dX6_carry_134 ?_
          refine z_put F hw hS (fs' := [.int (((sp_mobileMoves T (va_up Q 1 ((Q 1).tail)) ((Q 1).headD []) (((Q 1).headD []).getD 1 0) d).2.1) 0 0), .int (((sp_mobileMoves T (va_up Q 1 ((Q 1).tail)) ((Q 1).headD []) (((Q 1).headD []).getD 1 0) d).2.1) 0 1), .int (((sp_mobileMoves T (va_up Q 1 ((Q 1).tail)) ((Q 1).headD []) (((Q 1).headD []).getD 1 0) d).2.1) 0 2), .int (((sp_mobileMoves T (va_up Q 1 ((Q 1).tail)) ((Q 1).headD []) (((Q 1).headD []).getD 1 0) d).2.1) 0 3), .int (((sp_mobileMoves T (va_up Q 1 ((Q 1).tail)) ((Q 1).headD []) (((Q 1).headD []).getD 1 0) d).2.1) 0 4), .ref (ad 101), .ref (ad 102), .ref (ad 103), .int ((((sp_mobileMoves T (va_up Q 1 ((Q 1).tail)) ((Q 1).headD []) (((Q 1).headD []).getD 1 0) d).2.1) 0 5) + 1), .ref (ad 104), .ref (ad 105), .ref (ad 106), .ref (ad 107), .ref (ad 108), .int (((sp_mobileMoves T (va_up Q 1 ((Q 1).tail)) ((Q 1).headD []) (((Q 1).headD []).getD 1 0) d).2.1) 0 6), .int (((sp_mobileMoves T (va_up Q 1 ((Q 1).tail)) ((Q 1).headD []) (((Q 1).headD []).getD 1 0) d).2.1) 0 7), .int (((sp_mobileMoves T (va_up Q 1 ((Q 1).tail)) ((Q 1).headD []) (((Q 1).headD []).getD 1 0) d).2.1) 0 8), .ref (ad 109), .int (((sp_mobileMoves T (va_up Q 1 ((Q 1).tail)) ((Q 1).headD []) (((Q 1).headD []).getD 1 0) d).2.1) 0 9), .ref (ad 110), .int (((sp_mobileMoves T (va_up Q 1 ((Q 1).tail)) ((Q 1).headD []) (((Q 1).headD []).getD 1 0) d).2.1) 0 10), .int (nI (((Q 1).headD [])).length), .ref (ad 111)]) h100 fd_X6_168_X6 ptX6 rfl (rfl) (rfl) (Nat.le_of_ble_eq_true rfl) rfl dX6_carry_135 (fun ce12 H locs h100 fr13 hw hS => ?_)
          have h101 := (fr13 101 (by decide)).trans h101
          have h102 := (fr13 102 (by decide)).trans h102
          have h103 := (fr13 103 (by decide)).trans h103
          have h104 := (fr13 104 (by decide)).trans h104
          have h105 := (fr13 105 (by decide)).trans h105
          have h106 := (fr13 106 (by decide)).trans h106
          have h107 := (fr13 107 (by decide)).trans h107
          have h108 := (fr13 108 (by decide)).trans h108
          have h109 := (fr13 109 (by decide)).trans h109
          have h110 := (fr13 110 (by decide)).trans h110
          have h111 := (fr13 111 (by decide)).trans h111
          have hF : ∀ j, j < 100 → _ = ce j := fun j hj => (fr13 j (by omega)).trans (hF j hj)
          refine lv_iload_n hx hb dX6_carry_138 rfl (lv_at hl 0 rfl) ?_
          refine lv_if_eq (tgt := 146) hx hb dX6_carry_139 (by decide) (fun c139 => ?_) (fun c139 => absurd c139 (by decide))
          refine lv_iload_n hx hb dX6_carry_146 rfl (lv_at hl 1 rfl) ?_
          refine lv_sipush (v := 1000) hx hb dX6_carry_147 (by decide) ?_
          refine lv_iadd hx hb dX6_carry_150 ?_
          exact z_iret F (rfl) hw hS (by unfold sp_carry1; rw [if_neg c15, if_pos hg, if_pos c47, if_pos c60]; exact ⟨rfl, rfl, ⟨_, ⟨_, _, _, _, ⟨h100, h101, h102, h103, h104, h105, h106, h107, h108, h109, h110, h111⟩, hQ, hM⟩⟩, hF⟩) dX6_carry_151
        · refine lv_goto (tgt := 111) hx hb dX6_carry_63 (by decide) ?_
          refine lv_iconst (v := 1) hx hb dX6_carry_111 (by decide) ?_
          refine lv_goto (tgt := 116) hx hb dX6_carry_112 (by decide) ?_
          refine lv_istore_n (lv' := [(3, .int 1), (2, .int (nI (((Q 1).headD []).getD 1 0))), (0, .ref (ad 100)), (1, .int 1)]) hx hb dX6_carry_116 rfl hl (by decide) rfl (fun ls hl => ?_)
          refine lv_aload_n hx hb dX6_carry_117 rfl (lv_at hl 2 rfl) ?_
          refine lv_iload_n hx hb dX6_carry_118 rfl (lv_at hl 0 rfl) ?_
          refine lv_if_eq (tgt := 129) hx hb dX6_carry_119 (by decide) (fun c119 => absurd c119 (by decide)) (fun c119 => ?_)
          refine lv_aload_n hx hb dX6_carry_122 rfl (lv_at hl 2 rfl) ?_
          refine z_get F hw h100 fd_X6_168_X6 rfl dX6_carry_123 ?_
          refine lv_goto (tgt := 135) hx hb dX6_carry_126 (by decide) ?_
          refine z_put F hw hS (fs' := [.int (((sp_mobileMoves T (va_up Q 1 ((Q 1).tail)) ((Q 1).headD []) (((Q 1).headD []).getD 1 0) d).2.1) 0 0), .int (((sp_mobileMoves T (va_up Q 1 ((Q 1).tail)) ((Q 1).headD []) (((Q 1).headD []).getD 1 0) d).2.1) 0 1), .int (((sp_mobileMoves T (va_up Q 1 ((Q 1).tail)) ((Q 1).headD []) (((Q 1).headD []).getD 1 0) d).2.1) 0 2), .int (((sp_mobileMoves T (va_up Q 1 ((Q 1).tail)) ((Q 1).headD []) (((Q 1).headD []).getD 1 0) d).2.1) 0 3), .int (((sp_mobileMoves T (va_up Q 1 ((Q 1).tail)) ((Q 1).headD []) (((Q 1).headD []).getD 1 0) d).2.1) 0 4), .ref (ad 101), .ref (ad 102), .ref (ad 103), .int (((sp_mobileMoves T (va_up Q 1 ((Q 1).tail)) ((Q 1).headD []) (((Q 1).headD []).getD 1 0) d).2.1) 0 5), .ref (ad 104), .ref (ad 105), .ref (ad 106), .ref (ad 107), .ref (ad 108), .int (((sp_mobileMoves T (va_up Q 1 ((Q 1).tail)) ((Q 1).headD []) (((Q 1).headD []).getD 1 0) d).2.1) 0 6), .int (((sp_mobileMoves T (va_up Q 1 ((Q 1).tail)) ((Q 1).headD []) (((Q 1).headD []).getD 1 0) d).2.1) 0 7), .int (((sp_mobileMoves T (va_up Q 1 ((Q 1).tail)) ((Q 1).headD []) (((Q 1).headD []).getD 1 0) d).2.1) 0 8), .ref (ad 109), .int (((sp_mobileMoves T (va_up Q 1 ((Q 1).tail)) ((Q 1).headD []) (((Q 1).headD []).getD 1 0) d).2.1) 0 9), .ref (ad 110), .int (((sp_mobileMoves T (va_up Q 1 ((Q 1).tail)) ((Q 1).headD []) (((Q 1).headD []).getD 1 0) d).2.1) 0 10), .int (nI (((Q 1).headD [])).length), .ref (ad 111)]) h100 fd_X6_168_X6 ptX6 rfl (rfl) (rfl) (Nat.le_of_ble_eq_true rfl) rfl dX6_carry_135 (fun ce14 H locs h100 fr15 hw hS => ?_)
          have h101 := (fr15 101 (by decide)).trans h101
          have h102 := (fr15 102 (by decide)).trans h102
          have h103 := (fr15 103 (by decide)).trans h103
          have h104 := (fr15 104 (by decide)).trans h104
          have h105 := (fr15 105 (by decide)).trans h105
          have h106 := (fr15 106 (by decide)).trans h106
          have h107 := (fr15 107 (by decide)).trans h107
          have h108 := (fr15 108 (by decide)).trans h108
          have h109 := (fr15 109 (by decide)).trans h109
          have h110 := (fr15 110 (by decide)).trans h110
          have h111 := (fr15 111 (by decide)).trans h111
          have hF : ∀ j, j < 100 → _ = ce j := fun j hj => (fr15 j (by omega)).trans (hF j hj)
          refine lv_iload_n hx hb dX6_carry_138 rfl (lv_at hl 0 rfl) ?_
          refine lv_if_eq (tgt := 146) hx hb dX6_carry_139 (by decide) (fun c139 => absurd c139 (by decide)) (fun c139 => ?_)
          refine lv_iload_n hx hb dX6_carry_142 rfl (lv_at hl 1 rfl) ?_
          refine lv_goto (tgt := 151) hx hb dX6_carry_143 (by decide) ?_
          exact z_iret F (rfl) hw hS (by unfold sp_carry1; rw [if_neg c15, if_pos hg, if_pos c47, if_neg c60]; exact ⟨rfl, rfl, ⟨_, ⟨_, _, _, _, ⟨h100, h101, h102, h103, h104, h105, h106, h107, h108, h109, h110, h111⟩, hQ, hM⟩⟩, hF⟩) dX6_carry_151
    · refine W.eq (g2 := F0 m 37 ls [.int 0]) rfl ?_
      refine lv_if_eq (tgt := 115) hx hb dX6_carry_37 (by decide) (fun c37 => ?_) (fun c37 => absurd c37 (by decide))
      refine lv_iconst (v := 0) hx hb dX6_carry_115 (by decide) ?_
      refine lv_istore_n (lv' := [(3, .int 0), (2, .int (nI (((Q 1).headD []).getD 1 0))), (0, .ref (ad 100)), (1, .int 1)]) hx hb dX6_carry_116 rfl hl (by decide) rfl (fun ls hl => ?_)
      refine lv_aload_n hx hb dX6_carry_117 rfl (lv_at hl 2 rfl) ?_
      refine lv_iload_n hx hb dX6_carry_118 rfl (lv_at hl 0 rfl) ?_
      refine lv_if_eq (tgt := 129) hx hb dX6_carry_119 (by decide) (fun c119 => ?_) (fun c119 => absurd c119 (by decide))
      refine lv_aload_n hx hb dX6_carry_129 rfl (lv_at hl 2 rfl) ?_
      refine z_get F hw h100 fd_X6_168_X6 rfl dX6_carry_130 ?_
      refine lv_iconst (v := 1) hx hb dX6_carry_133 (by decide) ?_
      refine lv_iadd hx hb dX6_carry_134 ?_
      refine z_put F hw hS (fs' := [.int (T 0 0), .int (T 0 1), .int (T 0 2), .int (T 0 3), .int (T 0 4), .ref (ad 101), .ref (ad 102), .ref (ad 103), .int ((T 0 5) + 1), .ref (ad 104), .ref (ad 105), .ref (ad 106), .ref (ad 107), .ref (ad 108), .int (T 0 6), .int (T 0 7), .int (T 0 8), .ref (ad 109), .int (T 0 9), .ref (ad 110), .int (T 0 10), .int (nI (((Q 1).headD [])).length), .ref (ad 111)]) h100 fd_X6_168_X6 ptX6 rfl (rfl) (rfl) (Nat.le_of_ble_eq_true rfl) rfl dX6_carry_135 (fun ce16 H locs h100 fr17 hw hS => ?_)
      have h101 := (fr17 101 (by decide)).trans h101
      have h102 := (fr17 102 (by decide)).trans h102
      have h103 := (fr17 103 (by decide)).trans h103
      have h104 := (fr17 104 (by decide)).trans h104
      have h105 := (fr17 105 (by decide)).trans h105
      have h106 := (fr17 106 (by decide)).trans h106
      have h107 := (fr17 107 (by decide)).trans h107
      have h108 := (fr17 108 (by decide)).trans h108
      have h109 := (fr17 109 (by decide)).trans h109
      have h110 := (fr17 110 (by decide)).trans h110
      have h111 := (fr17 111 (by decide)).trans h111
      have hF : ∀ j, j < 100 → _ = ce j := fun j hj => (fr17 j (by omega)).trans (hF j hj)
      refine lv_iload_n hx hb dX6_carry_138 rfl (lv_at hl 0 rfl) ?_
      refine lv_if_eq (tgt := 146) hx hb dX6_carry_139 (by decide) (fun c139 => ?_) (fun c139 => absurd c139 (by decide))
      refine lv_iload_n hx hb dX6_carry_146 rfl (lv_at hl 1 rfl) ?_
      refine lv_sipush (v := 1000) hx hb dX6_carry_147 (by decide) ?_
      refine lv_iadd hx hb dX6_carry_150 ?_
      exact z_iret F (rfl) hw hS (by unfold sp_carry1; rw [if_neg c15, if_neg hg]; exact ⟨rfl, rfl, ⟨_, ⟨_, _, _, _, ⟨h100, h101, h102, h103, h104, h105, h106, h107, h108, h109, h110, h111⟩, hQ, hM⟩⟩, hF⟩) dX6_carry_151
  · refine lv_bipush (v := -3) hx hb dX6_carry_18 (by decide) ?_
    exact z_iret F (rfl) hw hS (by unfold sp_carry1; rw [if_pos c15]; exact ⟨rfl, rfl, ⟨_, ⟨_, _, _, _, ⟨h100, h101, h102, h103, h104, h105, h106, h107, h108, h109, h110, h111⟩, hQ, hM⟩⟩, hF⟩) dX6_carry_20
def sp_carryx (T : rf_T) (Q : rf_Q) (M : List Nat) (a : Int32) : rf_R := ((-1), T, Q)
set_option maxHeartbeats 4000000 in
set_option maxRecDepth 100000 in
theorem r_carryx (l : Launch) {G : zz_G} {ad : Nat → Nat} {ce : zz_C} {sz : Nat} (T : rf_T) (Q : rf_Q) (M : List Nat) (hV : rfV G ad ce T Q M) (a : Int32) (hnw : ¬ (a = 0 ∨ a = 1)) : zz_M l yX6_carry cX6_carry 4 (some .int) 4 95 0 0 G [.ref (ad 100), .int a] ad ce sz (fun r ad1 ce1 => r = some (.int (sp_carryx T Q M a).1) ∧ ad = ad1 ∧ (∃ M1, rfV G ad ce1 (sp_carryx T Q M a).2.1 (sp_carryx T Q M a).2.2 M1) ∧ (∀ j, j < 100 → ce1 j = ce j)) := by
  refine zz_enter (by decide) (Nat.le_of_ble_eq_true rfl) ?_
  intro p e s m below meth c ls F hl hw hS hA
  obtain ⟨hx, hb, hr, hml, hown, hts, hlocks, hK, hnm⟩ := id F
  have hl : lv_has ls 4 [(0, .ref (ad 100)), (1, .int a)] := hl
  obtain ⟨cn, zs, bs, hh, ⟨h100, h101, h102, h103, h104, h105, h106, h107, h108, h109, h110, h111⟩, hQ, hM⟩ := hV
  have hF : ∀ j, j < 100 → ce j = ce j := fun _ _ => rfl
  refine lv_iload_n hx hb dX6_carry_0 rfl (lv_at hl 1 rfl) ?_
  refine z_invS F (rest := []) (r_isWay l a) ys_X6_145 ⟨Nat.le_of_ble_eq_true rfl, Nat.le_of_ble_eq_true rfl⟩ hw hA hS hl rfl rfl (Nat.le_of_ble_eq_true rfl) dX6_carry_1 ⟨Nat.le_of_ble_eq_true rfl, Nat.le_of_ble_eq_true rfl⟩ (fun r ad1 ce1 H locs hp hw hS => ?_)
  obtain ⟨hp, rfl, rfl⟩ := hp
  rcases hp with ⟨hn9, rfl⟩ | ⟨-, rfl⟩
  · exact absurd hn9 hnw
  refine W.eq (g2 := F0 m 4 ls [.int 0]) rfl ?_
  refine lv_if_ne (tgt := 9) hx hb dX6_carry_4 (by decide) (fun c4 => absurd c4 (by decide)) (fun c4 => ?_)
  refine lv_iconst (v := -1) hx hb dX6_carry_7 (by decide) ?_
  exact z_iret F (rfl) hw hS (by unfold sp_carryx; exact ⟨rfl, rfl, ⟨_, ⟨_, _, _, _, ⟨h100, h101, h102, h103, h104, h105, h106, h107, h108, h109, h110, h111⟩, hQ, hM⟩⟩, hF⟩) dX6_carry_8
def sp_tk1 (M : List Nat) (n9 : Int32) (T9 : rf_T) (Q9 : rf_Q) : rf_R := (if (((T9 3) 0) : Int32) ≤ 0 then (if (((T9 3) 1) : Int32) ≤ 0 then (n9, T9, Q9) else (if ((((T9 3) 1) - 1) : Int32) = 0 then ((n9 + 1), ((sp_out1 (va_up T9 3 (upd (T9 3) 1 (((T9 3) 1) - 1))) Q9 M).2.1), (sp_out1 (va_up T9 3 (upd (T9 3) 1 (((T9 3) 1) - 1))) Q9 M).2.2) else (n9, va_up T9 3 (upd (T9 3) 1 (((T9 3) 1) - 1)), Q9))) else (if ((((T9 3) 0) - 1) : Int32) = 0 then (if (((((sp_out0 (va_up T9 3 (upd (T9 3) 0 (((T9 3) 0) - 1))) Q9 M).2.1) 3) 1) : Int32) ≤ 0 then ((n9 + 1), ((sp_out0 (va_up T9 3 (upd (T9 3) 0 (((T9 3) 0) - 1))) Q9 M).2.1), (sp_out0 (va_up T9 3 (upd (T9 3) 0 (((T9 3) 0) - 1))) Q9 M).2.2) else (if ((((((sp_out0 (va_up T9 3 (upd (T9 3) 0 (((T9 3) 0) - 1))) Q9 M).2.1) 3) 1) - 1) : Int32) = 0 then (((n9 + 1) + 1), ((sp_out1 (va_up ((sp_out0 (va_up T9 3 (upd (T9 3) 0 (((T9 3) 0) - 1))) Q9 M).2.1) 3 (upd (((sp_out0 (va_up T9 3 (upd (T9 3) 0 (((T9 3) 0) - 1))) Q9 M).2.1) 3) 1 (((((sp_out0 (va_up T9 3 (upd (T9 3) 0 (((T9 3) 0) - 1))) Q9 M).2.1) 3) 1) - 1))) ((sp_out0 (va_up T9 3 (upd (T9 3) 0 (((T9 3) 0) - 1))) Q9 M).2.2) M).2.1), (sp_out1 (va_up ((sp_out0 (va_up T9 3 (upd (T9 3) 0 (((T9 3) 0) - 1))) Q9 M).2.1) 3 (upd (((sp_out0 (va_up T9 3 (upd (T9 3) 0 (((T9 3) 0) - 1))) Q9 M).2.1) 3) 1 (((((sp_out0 (va_up T9 3 (upd (T9 3) 0 (((T9 3) 0) - 1))) Q9 M).2.1) 3) 1) - 1))) ((sp_out0 (va_up T9 3 (upd (T9 3) 0 (((T9 3) 0) - 1))) Q9 M).2.2) M).2.2) else ((n9 + 1), va_up ((sp_out0 (va_up T9 3 (upd (T9 3) 0 (((T9 3) 0) - 1))) Q9 M).2.1) 3 (upd (((sp_out0 (va_up T9 3 (upd (T9 3) 0 (((T9 3) 0) - 1))) Q9 M).2.1) 3) 1 (((((sp_out0 (va_up T9 3 (upd (T9 3) 0 (((T9 3) 0) - 1))) Q9 M).2.1) 3) 1) - 1)), (sp_out0 (va_up T9 3 (upd (T9 3) 0 (((T9 3) 0) - 1))) Q9 M).2.2))) else (if (((upd (T9 3) 0 (((T9 3) 0) - 1)) 1) : Int32) ≤ 0 then (n9, va_up T9 3 (upd (T9 3) 0 (((T9 3) 0) - 1)), Q9) else (if ((((upd (T9 3) 0 (((T9 3) 0) - 1)) 1) - 1) : Int32) = 0 then ((n9 + 1), ((sp_out1 (va_up T9 3 (upd (upd (T9 3) 0 (((T9 3) 0) - 1)) 1 (((upd (T9 3) 0 (((T9 3) 0) - 1)) 1) - 1))) Q9 M).2.1), (sp_out1 (va_up T9 3 (upd (upd (T9 3) 0 (((T9 3) 0) - 1)) 1 (((upd (T9 3) 0 (((T9 3) 0) - 1)) 1) - 1))) Q9 M).2.2) else (n9, va_up T9 3 (upd (upd (T9 3) 0 (((T9 3) 0) - 1)) 1 (((upd (T9 3) 0 (((T9 3) 0) - 1)) 1) - 1)), Q9)))))
def rf_tks (M : List Nat) : Nat → rf_R → rf_R
  | 0, p => p
  | k + 1, p => (fun q : rf_R => sp_tk1 M q.1 q.2.1 q.2.2) (rf_tks M k p)
def sp_tick (T : rf_T) (Q : rf_Q) (M : List Nat) (v : Int32) : rf_R := (if (v : Int32) < 1 then ((-1), T, Q) else (if (v : Int32) ≤ 100 then rf_tks M v.toNatClampNeg (0, T, Q) else ((-1), T, Q)))
set_option maxHeartbeats 4000000 in
set_option maxRecDepth 100000 in
theorem r_tick (l : Launch) {G : zz_G} {ad : Nat → Nat} {ce : zz_C} {sz : Nat} (T : rf_T) (Q : rf_Q) (M : List Nat) (hV : rfV G ad ce T Q M) (v : Int32) : zz_M l yX6_tick cX6_tick 5 (some .int) 3 74 0 0 G [.ref (ad 100), .int v] ad ce sz (fun r ad1 ce1 => r = some (.int (sp_tick T Q M v).1) ∧ ad = ad1 ∧ rfV G ad ce1 (sp_tick T Q M v).2.1 (sp_tick T Q M v).2.2 M ∧ (∀ j, j < 100 → ce1 j = ce j)) := by
  refine zz_enter (by decide) (Nat.le_of_ble_eq_true rfl) ?_
  intro p e s m below meth c ls F hl hw hS hA
  obtain ⟨hx, hb, hr, hml, hown, hts, hlocks, hK, hnm⟩ := id F
  have hl : lv_has ls 5 [(0, .ref (ad 100)), (1, .int v)] := hl
  obtain ⟨cn, zs, bs, hh, ⟨h100, h101, h102, h103, h104, h105, h106, h107, h108, h109, h110, h111⟩, hQ, hM⟩ := hV
  have hF : ∀ j, j < 100 → ce j = ce j := fun _ _ => rfl
  refine lv_iload_n hx hb dX6_tick_0 rfl (lv_at hl 1 rfl) ?_
  refine lv_iconst (v := 1) hx hb dX6_tick_1 (by decide) ?_
  refine lv_icmp_lt (tgt := 11) hx hb dX6_tick_2 (by decide) (fun c2 => ?_) (fun c2 => ?_)
  · refine lv_iconst (v := -1) hx hb dX6_tick_11 (by decide) ?_
    exact z_iret F (rfl) hw hS (by unfold sp_tick; rw [if_pos c2]; exact ⟨rfl, rfl, ⟨_, _, _, _, ⟨h100, h101, h102, h103, h104, h105, h106, h107, h108, h109, h110, h111⟩, hQ, hM⟩, hF⟩) dX6_tick_12
  · refine lv_iload_n hx hb dX6_tick_5 rfl (lv_at hl 1 rfl) ?_
    refine lv_bipush (v := 100) hx hb dX6_tick_6 (by decide) ?_
    refine lv_icmp_le (tgt := 13) hx hb dX6_tick_8 (by decide) (fun c8 => ?_) (fun c8 => ?_)
    · refine lv_iconst (v := 0) hx hb dX6_tick_13 (by decide) ?_
      refine lv_istore_n (lv' := [(2, .int 0), (0, .ref (ad 100)), (1, .int v)]) hx hb dX6_tick_14 rfl hl (by decide) rfl (fun ls hl => ?_)
      refine lv_iconst (v := 0) hx hb dX6_tick_15 (by decide) ?_
      refine lv_istore_n (lv' := [(3, .int 0), (2, .int 0), (0, .ref (ad 100)), (1, .int v)]) hx hb dX6_tick_16 rfl hl (by decide) rfl (fun ls hl => ?_)
      have hv0 : ¬ v < 0 := fun q => c2 (by rw [Int32.lt_iff_toInt_lt] at q ⊢; rw [Int32.toInt_zero] at q; rw [show (1 : Int32).toInt = 1 from rfl]; omega)
      have hvv := rf_ixv hv0
      have hvl := rf_clt v
      refine z_loop (α := Nat) (fun k => v.toNatClampNeg - k) (fun k ce9 ls9 => lv_has ls9 5 [(0, .ref (ad 100)), (1, .int v), (2, .int (rf_tks M k (0, T, Q)).1), (3, .int (nI k))] ∧ rfV G ad ce9 (rf_tks M k (0, T, Q)).2.1 (rf_tks M k (0, T, Q)).2.2 M ∧ (∀ j, j < 100 → ce9 j = ce j) ∧ k ≤ v.toNatClampNeg) 0 ⟨lv_sub hl [2, 3, 1, 0] rfl, ⟨_, _, _, _, ⟨h100, h101, h102, h103, h104, h105, h106, h107, h108, h109, h110, h111⟩, hQ, hM⟩, hF, Nat.zero_le _⟩ hw hS (fun k ih17 ce9 H locs ls hI hw hS => ?_)
      obtain ⟨hl, hV, hF, hkd⟩ := hI
      generalize hgk : rf_tks M k (0, T, Q) = g9 at hV hl
      obtain ⟨n9, T9, Q9⟩ := g9
      have hl : lv_has ls 5 [(0, .ref (ad 100)), (1, .int v), (2, .int n9), (3, .int (nI k))] := hl
      have hV : rfV G ad ce9 T9 Q9 M := hV
      obtain ⟨cn, zs, bs, hh, ⟨h100, h101, h102, h103, h104, h105, h106, h107, h108, h109, h110, h111⟩, hQ, hM⟩ := hV
      refine lv_iload_n hx hb dX6_tick_17 rfl (lv_at hl 3 rfl) ?_
      refine lv_iload_n hx hb dX6_tick_18 rfl (lv_at hl 1 rfl) ?_
      refine lv_icmp_ge (tgt := 83) hx hb dX6_tick_19 (by decide) (fun c19 => ?_) (fun c19 => ?_)
      · have hke : k = v.toNatClampNeg := Nat.le_antisymm hkd (Nat.le_of_not_lt (fun q => absurd c19 (by rw [hvv]; exact nI_ge q hvl)))
        subst hke
        refine lv_iload_n hx hb dX6_tick_83 rfl (lv_at hl 2 rfl) ?_
        exact z_iret F (rfl) hw hS (by unfold sp_tick; rw [if_neg c2, if_pos c8, hgk]; exact ⟨rfl, rfl, ⟨_, _, _, _, ⟨h100, h101, h102, h103, h104, h105, h106, h107, h108, h109, h110, h111⟩, hQ, hM⟩, hF⟩) dX6_tick_84
      · have hklt : k < v.toNatClampNeg := Nat.lt_of_not_le (fun q => c19 (by rw [hvv]; exact nI_le q (by omega)))
        refine lv_iconst (v := 0) hx hb dX6_tick_22 (by decide) ?_
        refine lv_istore (lv' := [(4, .int 0), (0, .ref (ad 100)), (1, .int v), (2, .int n9), (3, .int (nI k))]) hx hb dX6_tick_23 hl (by decide) rfl (fun ls hl => ?_)
        refine lv_iload hx hb dX6_tick_25 (lv_at hl 0 rfl) ?_
        refine lv_iconst (v := 2) hx hb dX6_tick_27 (by decide) ?_
        refine lv_icmp_ge (tgt := 77) hx hb dX6_tick_28 (by decide) (fun c28 => absurd c28 (by decide)) (fun c28 => ?_)
        refine lv_aload_n hx hb dX6_tick_31 rfl (lv_at hl 1 rfl) ?_
        refine z_get F hw h100 fd_X6_29_X6 rfl dX6_tick_32 ?_
        refine lv_iload hx hb dX6_tick_35 (lv_at hl 0 rfl) ?_
        refine z_ld F hw h106 (0) (rfl) (by decide) (by decide) dX6_tick_37 ?_
        refine lv_if_le (tgt := 71) hx hb dX6_tick_38 (by decide) (fun c38 => ?_) (fun c38 => ?_)
        · refine lv_iinc (v := 1) (lv' := [(4, .int 1), (0, .ref (ad 100)), (1, .int v), (2, .int n9), (3, .int (nI k))]) hx hb dX6_tick_71 hl (k := 0) rfl (by decide) (by decide) rfl (fun ls hl => ?_)
          refine lv_goto (tgt := 25) hx hb dX6_tick_74 (by decide) ?_
          refine lv_iload hx hb dX6_tick_25 (lv_at hl 0 rfl) ?_
          refine lv_iconst (v := 2) hx hb dX6_tick_27 (by decide) ?_
          refine lv_icmp_ge (tgt := 77) hx hb dX6_tick_28 (by decide) (fun c28_1 => absurd c28_1 (by decide)) (fun c28_1 => ?_)
          refine lv_aload_n hx hb dX6_tick_31 rfl (lv_at hl 1 rfl) ?_
          refine z_get F hw h100 fd_X6_29_X6 rfl dX6_tick_32 ?_
          refine lv_iload hx hb dX6_tick_35 (lv_at hl 0 rfl) ?_
          refine z_ld F hw h106 (1) (rfl) (by decide) (by decide) dX6_tick_37 ?_
          refine lv_if_le (tgt := 71) hx hb dX6_tick_38 (by decide) (fun c38_1 => ?_) (fun c38_1 => ?_)
          · refine lv_iinc (v := 2) (lv' := [(4, .int 2), (0, .ref (ad 100)), (1, .int v), (2, .int n9), (3, .int (nI k))]) hx hb dX6_tick_71 hl (k := 0) rfl (by decide) (by decide) rfl (fun ls hl => ?_)
            refine lv_goto (tgt := 25) hx hb dX6_tick_74 (by decide) ?_
            refine lv_iload hx hb dX6_tick_25 (lv_at hl 0 rfl) ?_
            refine lv_iconst (v := 2) hx hb dX6_tick_27 (by decide) ?_
            refine lv_icmp_ge (tgt := 77) hx hb dX6_tick_28 (by decide) (fun c28_2 => ?_) (fun c28_2 => absurd c28_2 (by decide))
            refine lv_iinc (v := nI (k + 1)) (lv' := [(3, .int (nI (k + 1))), (4, .int 2), (0, .ref (ad 100)), (1, .int v), (2, .int n9)]) hx hb dX6_tick_77 hl (k := 4) rfl (nI_1 k) (by decide) rfl (fun ls hl => ?_)
            refine lv_goto (tgt := 17) hx hb dX6_tick_80 (by decide) ?_
            have hst : rf_tks M (k + 1) (0, T, Q) = (n9, T9, Q9) := by rw [rf_tks, hgk]; show sp_tk1 M n9 T9 Q9 = _; unfold sp_tk1; rw [if_pos c38, if_pos c38_1]
            exact ih17 (k + 1) _ _ _ _ (by omega) ⟨by rw [hst]; exact lv_sub hl [2, 3, 4, 0] rfl, by rw [hst]; exact ⟨_, _, _, _, ⟨h100, h101, h102, h103, h104, h105, h106, h107, h108, h109, h110, h111⟩, hQ, hM⟩, hF, by omega⟩ hw hS
          · refine lv_aload_n hx hb dX6_tick_41 rfl (lv_at hl 1 rfl) ?_
            refine z_get F hw h100 fd_X6_29_X6 rfl dX6_tick_42 ?_
            refine lv_iload hx hb dX6_tick_45 (lv_at hl 0 rfl) ?_
            refine lv_dup2_11 hx hb dX6_tick_47 rfl rfl ?_
            refine z_ld F hw h106 (1) (rfl) (by decide) (by decide) dX6_tick_48 ?_
            refine lv_iconst (v := 1) hx hb dX6_tick_49 (by decide) ?_
            refine lv_isub hx hb dX6_tick_50 ?_
            refine z_st F hw hS h106 (1) (rfl) (by decide) (by decide) dX6_tick_51 (fun ce1 H locs h106 fr2 hw hS => ?_)
            have h100 := (fr2 100 (by decide)).trans h100
            have h101 := (fr2 101 (by decide)).trans h101
            have h102 := (fr2 102 (by decide)).trans h102
            have h103 := (fr2 103 (by decide)).trans h103
            have h104 := (fr2 104 (by decide)).trans h104
            have h105 := (fr2 105 (by decide)).trans h105
            have h107 := (fr2 107 (by decide)).trans h107
            have h108 := (fr2 108 (by decide)).trans h108
            have h109 := (fr2 109 (by decide)).trans h109
            have h110 := (fr2 110 (by decide)).trans h110
            have h111 := (fr2 111 (by decide)).trans h111
            have hF : ∀ j, j < 100 → _ = ce j := fun j hj => (fr2 j (by omega)).trans (hF j hj)
            refine lv_aload_n hx hb dX6_tick_52 rfl (lv_at hl 1 rfl) ?_
            refine z_get F hw h100 fd_X6_29_X6 rfl dX6_tick_53 ?_
            refine lv_iload hx hb dX6_tick_56 (lv_at hl 0 rfl) ?_
            refine z_ld F hw h106 (1) (rfl) (by decide) (by decide) dX6_tick_58 ?_
            refine z_top (((T9 3) 1) - 1) (rf_up_s _ _ _) ?_
            refine lv_if_ne (tgt := 71) hx hb dX6_tick_59 (by decide) (fun c59 => ?_) (fun c59 => ?_)
            · refine lv_iinc (v := 2) (lv' := [(4, .int 2), (0, .ref (ad 100)), (1, .int v), (2, .int n9), (3, .int (nI k))]) hx hb dX6_tick_71 hl (k := 0) rfl (by decide) (by decide) rfl (fun ls hl => ?_)
              refine lv_goto (tgt := 25) hx hb dX6_tick_74 (by decide) ?_
              refine lv_iload hx hb dX6_tick_25 (lv_at hl 0 rfl) ?_
              refine lv_iconst (v := 2) hx hb dX6_tick_27 (by decide) ?_
              refine lv_icmp_ge (tgt := 77) hx hb dX6_tick_28 (by decide) (fun c28_2 => ?_) (fun c28_2 => absurd c28_2 (by decide))
              refine lv_iinc (v := nI (k + 1)) (lv' := [(3, .int (nI (k + 1))), (4, .int 2), (0, .ref (ad 100)), (1, .int v), (2, .int n9)]) hx hb dX6_tick_77 hl (k := 4) rfl (nI_1 k) (by decide) rfl (fun ls hl => ?_)
              refine lv_goto (tgt := 17) hx hb dX6_tick_80 (by decide) ?_
              have hst : rf_tks M (k + 1) (0, T, Q) = (n9, va_up T9 3 (upd (T9 3) 1 (((T9 3) 1) - 1)), Q9) := by rw [rf_tks, hgk]; show sp_tk1 M n9 T9 Q9 = _; unfold sp_tk1; rw [if_pos c38, if_neg c38_1, if_neg c59]
              exact ih17 (k + 1) _ _ _ _ (by omega) ⟨by rw [hst]; exact lv_sub hl [2, 3, 4, 0] rfl, by rw [hst]; exact ⟨_, _, _, _, ⟨h100, h101, h102, h103, h104, h105, h106, h107, h108, h109, h110, h111⟩, hQ, hM⟩, hF, by omega⟩ hw hS
            · refine lv_iinc (v := n9 + 1) (lv' := [(2, .int (n9 + 1)), (4, .int 1), (0, .ref (ad 100)), (1, .int v), (3, .int (nI k))]) hx hb dX6_tick_62 hl (k := 3) rfl (rfl) (by decide) rfl (fun ls hl => ?_)
              refine lv_aload_n hx hb dX6_tick_65 rfl (lv_at hl 2 rfl) ?_
              refine lv_iload hx hb dX6_tick_66 (lv_at hl 1 rfl) ?_
              have hV : rfV G ad ce1 (va_up T9 3 (upd (T9 3) 1 (((T9 3) 1) - 1))) Q9 M := ⟨_, _, _, _, ⟨h100, h101, h102, h103, h104, h105, h106, h107, h108, h109, h110, h111⟩, hQ, hM⟩
              refine z_invV F (rest := []) (r_out1 l (va_up T9 3 (upd (T9 3) 1 (((T9 3) 1) - 1))) Q9 M hV) yv_X6_138 ⟨Nat.le_of_ble_eq_true rfl, Nat.le_of_ble_eq_true rfl⟩ hw hA hS hl h100 rfl rfl rfl (Nat.le_of_ble_eq_true rfl) dX6_tick_68 ⟨Nat.le_of_ble_eq_true rfl, Nat.le_of_ble_eq_true rfl⟩ (fun r ad1 ce3 H locs hp hw hS => ?_)
              obtain ⟨rfl, rfl, hV, hF2⟩ := hp
              have hF : ∀ j, j < 100 → ce3 j = ce j := fun j hj => (hF2 j hj).trans (hF j hj)
              obtain ⟨cn, zs, bs, hh, ⟨h100, h101, h102, h103, h104, h105, h106, h107, h108, h109, h110, h111⟩, hQ, hM⟩ := hV
              refine W.eq (g2 := F0 m 71 ls []) rfl ?_
              refine lv_iinc (v := 2) (lv' := [(4, .int 2), (2, .int (n9 + 1)), (0, .ref (ad 100)), (1, .int v), (3, .int (nI k))]) hx hb dX6_tick_71 hl (k := 1) rfl (by decide) (by decide) rfl (fun ls hl => ?_)
              refine lv_goto (tgt := 25) hx hb dX6_tick_74 (by decide) ?_
              refine lv_iload hx hb dX6_tick_25 (lv_at hl 0 rfl) ?_
              refine lv_iconst (v := 2) hx hb dX6_tick_27 (by decide) ?_
              refine lv_icmp_ge (tgt := 77) hx hb dX6_tick_28 (by decide) (fun c28_2 => ?_) (fun c28_2 => absurd c28_2 (by decide))
              refine lv_iinc (v := nI (k + 1)) (lv' := [(3, .int (nI (k + 1))), (4, .int 2), (2, .int (n9 + 1)), (0, .ref (ad 100)), (1, .int v)]) hx hb dX6_tick_77 hl (k := 4) rfl (nI_1 k) (by decide) rfl (fun ls hl => ?_)
              refine lv_goto (tgt := 17) hx hb dX6_tick_80 (by decide) ?_
              have hst : rf_tks M (k + 1) (0, T, Q) = ((n9 + 1), ((sp_out1 (va_up T9 3 (upd (T9 3) 1 (((T9 3) 1) - 1))) Q9 M).2.1), (sp_out1 (va_up T9 3 (upd (T9 3) 1 (((T9 3) 1) - 1))) Q9 M).2.2) := by rw [rf_tks, hgk]; show sp_tk1 M n9 T9 Q9 = _; unfold sp_tk1; rw [if_pos c38, if_neg c38_1, if_pos c59]
              exact ih17 (k + 1) _ _ _ _ (by omega) ⟨by rw [hst]; exact lv_sub hl [3, 4, 2, 0] rfl, by rw [hst]; exact ⟨_, _, _, _, ⟨h100, h101, h102, h103, h104, h105, h106, h107, h108, h109, h110, h111⟩, hQ, hM⟩, hF, by omega⟩ hw hS
        · refine lv_aload_n hx hb dX6_tick_41 rfl (lv_at hl 1 rfl) ?_
          refine z_get F hw h100 fd_X6_29_X6 rfl dX6_tick_42 ?_
          refine lv_iload hx hb dX6_tick_45 (lv_at hl 0 rfl) ?_
          refine lv_dup2_11 hx hb dX6_tick_47 rfl rfl ?_
          refine z_ld F hw h106 (0) (rfl) (by decide) (by decide) dX6_tick_48 ?_
          refine lv_iconst (v := 1) hx hb dX6_tick_49 (by decide) ?_
          refine lv_isub hx hb dX6_tick_50 ?_
          refine z_st F hw hS h106 (0) (rfl) (by decide) (by decide) dX6_tick_51 (fun ce4 H locs h106 fr5 hw hS => ?_)
          have h100 := (fr5 100 (by decide)).trans h100
          have h101 := (fr5 101 (by decide)).trans h101
          have h102 := (fr5 102 (by decide)).trans h102
          have h103 := (fr5 103 (by decide)).trans h103
          have h104 := (fr5 104 (by decide)).trans h104
          have h105 := (fr5 105 (by decide)).trans h105
          have h107 := (fr5 107 (by decide)).trans h107
          have h108 := (fr5 108 (by decide)).trans h108
          have h109 := (fr5 109 (by decide)).trans h109
          have h110 := (fr5 110 (by decide)).trans h110
          have h111 := (fr5 111 (by decide)).trans h111
          have hF : ∀ j, j < 100 → _ = ce j := fun j hj => (fr5 j (by omega)).trans (hF j hj)
          refine lv_aload_n hx hb dX6_tick_52 rfl (lv_at hl 1 rfl) ?_
          refine z_get F hw h100 fd_X6_29_X6 rfl dX6_tick_53 ?_
          refine lv_iload hx hb dX6_tick_56 (lv_at hl 0 rfl) ?_
          refine z_ld F hw h106 (0) (rfl) (by decide) (by decide) dX6_tick_58 ?_
          refine z_top (((T9 3) 0) - 1) (rf_up_s _ _ _) ?_
          refine lv_if_ne (tgt := 71) hx hb dX6_tick_59 (by decide) (fun c59 => ?_) (fun c59 => ?_)
          · refine lv_iinc (v := 1) (lv' := [(4, .int 1), (0, .ref (ad 100)), (1, .int v), (2, .int n9), (3, .int (nI k))]) hx hb dX6_tick_71 hl (k := 0) rfl (by decide) (by decide) rfl (fun ls hl => ?_)
            refine lv_goto (tgt := 25) hx hb dX6_tick_74 (by decide) ?_
            refine lv_iload hx hb dX6_tick_25 (lv_at hl 0 rfl) ?_
            refine lv_iconst (v := 2) hx hb dX6_tick_27 (by decide) ?_
            refine lv_icmp_ge (tgt := 77) hx hb dX6_tick_28 (by decide) (fun c28_1 => absurd c28_1 (by decide)) (fun c28_1 => ?_)
            refine lv_aload_n hx hb dX6_tick_31 rfl (lv_at hl 1 rfl) ?_
            refine z_get F hw h100 fd_X6_29_X6 rfl dX6_tick_32 ?_
            refine lv_iload hx hb dX6_tick_35 (lv_at hl 0 rfl) ?_
            refine z_ld F hw h106 (1) (rfl) (by decide) (by decide) dX6_tick_37 ?_
            refine lv_if_le (tgt := 71) hx hb dX6_tick_38 (by decide) (fun c38_1 => ?_) (fun c38_1 => ?_)
            · refine lv_iinc (v := 2) (lv' := [(4, .int 2), (0, .ref (ad 100)), (1, .int v), (2, .int n9), (3, .int (nI k))]) hx hb dX6_tick_71 hl (k := 0) rfl (by decide) (by decide) rfl (fun ls hl => ?_)
              refine lv_goto (tgt := 25) hx hb dX6_tick_74 (by decide) ?_
              refine lv_iload hx hb dX6_tick_25 (lv_at hl 0 rfl) ?_
              refine lv_iconst (v := 2) hx hb dX6_tick_27 (by decide) ?_
              refine lv_icmp_ge (tgt := 77) hx hb dX6_tick_28 (by decide) (fun c28_2 => ?_) (fun c28_2 => absurd c28_2 (by decide))
              refine lv_iinc (v := nI (k + 1)) (lv' := [(3, .int (nI (k + 1))), (4, .int 2), (0, .ref (ad 100)), (1, .int v), (2, .int n9)]) hx hb dX6_tick_77 hl (k := 4) rfl (nI_1 k) (by decide) rfl (fun ls hl => ?_)
              refine lv_goto (tgt := 17) hx hb dX6_tick_80 (by decide) ?_
              have hst : rf_tks M (k + 1) (0, T, Q) = (n9, va_up T9 3 (upd (T9 3) 0 (((T9 3) 0) - 1)), Q9) := by rw [rf_tks, hgk]; show sp_tk1 M n9 T9 Q9 = _; unfold sp_tk1; rw [if_neg c38, if_neg c59, if_pos c38_1]
              exact ih17 (k + 1) _ _ _ _ (by omega) ⟨by rw [hst]; exact lv_sub hl [2, 3, 4, 0] rfl, by rw [hst]; exact ⟨_, _, _, _, ⟨h100, h101, h102, h103, h104, h105, h106, h107, h108, h109, h110, h111⟩, hQ, hM⟩, hF, by omega⟩ hw hS
            · refine lv_aload_n hx hb dX6_tick_41 rfl (lv_at hl 1 rfl) ?_
              refine z_get F hw h100 fd_X6_29_X6 rfl dX6_tick_42 ?_
              refine lv_iload hx hb dX6_tick_45 (lv_at hl 0 rfl) ?_
              refine lv_dup2_11 hx hb dX6_tick_47 rfl rfl ?_
              refine z_ld F hw h106 (1) (rfl) (by decide) (by decide) dX6_tick_48 ?_
              refine lv_iconst (v := 1) hx hb dX6_tick_49 (by decide) ?_
              refine lv_isub hx hb dX6_tick_50 ?_
              refine z_st F hw hS h106 (1) (rfl) (by decide) (by decide) dX6_tick_51 (fun ce6 H locs h106 fr7 hw hS => ?_)
              have h100 := (fr7 100 (by decide)).trans h100
              have h101 := (fr7 101 (by decide)).trans h101
              have h102 := (fr7 102 (by decide)).trans h102
              have h103 := (fr7 103 (by decide)).trans h103
              have h104 := (fr7 104 (by decide)).trans h104
              have h105 := (fr7 105 (by decide)).trans h105
              have h107 := (fr7 107 (by decide)).trans h107
              have h108 := (fr7 108 (by decide)).trans h108
              have h109 := (fr7 109 (by decide)).trans h109
              have h110 := (fr7 110 (by decide)).trans h110
              have h111 := (fr7 111 (by decide)).trans h111
              have hF : ∀ j, j < 100 → _ = ce j := fun j hj => (fr7 j (by omega)).trans (hF j hj)
              refine lv_aload_n hx hb dX6_tick_52 rfl (lv_at hl 1 rfl) ?_
              refine z_get F hw h100 fd_X6_29_X6 rfl dX6_tick_53 ?_
              refine lv_iload hx hb dX6_tick_56 (lv_at hl 0 rfl) ?_
              refine z_ld F hw h106 (1) (rfl) (by decide) (by decide) dX6_tick_58 ?_
              refine z_top (((upd (T9 3) 0 (((T9 3) 0) - 1)) 1) - 1) (rf_up_s _ _ _) ?_
              refine lv_if_ne (tgt := 71) hx hb dX6_tick_59 (by decide) (fun c59_1 => ?_) (fun c59_1 => ?_)
              · refine lv_iinc (v := 2) (lv' := [(4, .int 2), (0, .ref (ad 100)), (1, .int v), (2, .int n9), (3, .int (nI k))]) hx hb dX6_tick_71 hl (k := 0) rfl (by decide) (by decide) rfl (fun ls hl => ?_)
                refine lv_goto (tgt := 25) hx hb dX6_tick_74 (by decide) ?_
                refine lv_iload hx hb dX6_tick_25 (lv_at hl 0 rfl) ?_
                refine lv_iconst (v := 2) hx hb dX6_tick_27 (by decide) ?_
                refine lv_icmp_ge (tgt := 77) hx hb dX6_tick_28 (by decide) (fun c28_2 => ?_) (fun c28_2 => absurd c28_2 (by decide))
                refine lv_iinc (v := nI (k + 1)) (lv' := [(3, .int (nI (k + 1))), (4, .int 2), (0, .ref (ad 100)), (1, .int v), (2, .int n9)]) hx hb dX6_tick_77 hl (k := 4) rfl (nI_1 k) (by decide) rfl (fun ls hl => ?_)
                refine lv_goto (tgt := 17) hx hb dX6_tick_80 (by decide) ?_
                have hst : rf_tks M (k + 1) (0, T, Q) = (n9, va_up T9 3 (upd (upd (T9 3) 0 (((T9 3) 0) - 1)) 1 (((upd (T9 3) 0 (((T9 3) 0) - 1)) 1) - 1)), Q9) := by rw [rf_tks, hgk]; show sp_tk1 M n9 T9 Q9 = _; unfold sp_tk1; rw [if_neg c38, if_neg c59, if_neg c38_1, if_neg c59_1]
                exact ih17 (k + 1) _ _ _ _ (by omega) ⟨by rw [hst]; exact lv_sub hl [2, 3, 4, 0] rfl, by rw [hst]; exact ⟨_, _, _, _, ⟨h100, h101, h102, h103, h104, h105, h106, h107, h108, h109, h110, h111⟩, hQ, hM⟩, hF, by omega⟩ hw hS
              · refine lv_iinc (v := n9 + 1) (lv' := [(2, .int (n9 + 1)), (4, .int 1), (0, .ref (ad 100)), (1, .int v), (3, .int (nI k))]) hx hb dX6_tick_62 hl (k := 3) rfl (rfl) (by decide) rfl (fun ls hl => ?_)
                refine lv_aload_n hx hb dX6_tick_65 rfl (lv_at hl 2 rfl) ?_
                refine lv_iload hx hb dX6_tick_66 (lv_at hl 1 rfl) ?_
                have hV : rfV G ad ce6 (va_up T9 3 (upd (upd (T9 3) 0 (((T9 3) 0) - 1)) 1 (((upd (T9 3) 0 (((T9 3) 0) - 1)) 1) - 1))) Q9 M := ⟨_, _, _, _, ⟨h100, h101, h102, h103, h104, h105, h106, h107, h108, h109, h110, h111⟩, hQ, hM⟩
                refine z_invV F (rest := []) (r_out1 l (va_up T9 3 (upd (upd (T9 3) 0 (((T9 3) 0) - 1)) 1 (((upd (T9 3) 0 (((T9 3) 0) - 1)) 1) - 1))) Q9 M hV) yv_X6_138 ⟨Nat.le_of_ble_eq_true rfl, Nat.le_of_ble_eq_true rfl⟩ hw hA hS hl h100 rfl rfl rfl (Nat.le_of_ble_eq_true rfl) dX6_tick_68 ⟨Nat.le_of_ble_eq_true rfl, Nat.le_of_ble_eq_true rfl⟩ (fun r ad1 ce8 H locs hp hw hS => ?_)
                obtain ⟨rfl, rfl, hV, hF2⟩ := hp
                have hF : ∀ j, j < 100 → ce8 j = ce j := fun j hj => (hF2 j hj).trans (hF j hj)
                obtain ⟨cn, zs, bs, hh, ⟨h100, h101, h102, h103, h104, h105, h106, h107, h108, h109, h110, h111⟩, hQ, hM⟩ := hV
                refine W.eq (g2 := F0 m 71 ls []) rfl ?_
                refine lv_iinc (v := 2) (lv' := [(4, .int 2), (2, .int (n9 + 1)), (0, .ref (ad 100)), (1, .int v), (3, .int (nI k))]) hx hb dX6_tick_71 hl (k := 1) rfl (by decide) (by decide) rfl (fun ls hl => ?_)
                refine lv_goto (tgt := 25) hx hb dX6_tick_74 (by decide) ?_
                refine lv_iload hx hb dX6_tick_25 (lv_at hl 0 rfl) ?_
                refine lv_iconst (v := 2) hx hb dX6_tick_27 (by decide) ?_
                refine lv_icmp_ge (tgt := 77) hx hb dX6_tick_28 (by decide) (fun c28_2 => ?_) (fun c28_2 => absurd c28_2 (by decide))
                refine lv_iinc (v := nI (k + 1)) (lv' := [(3, .int (nI (k + 1))), (4, .int 2), (2, .int (n9 + 1)), (0, .ref (ad 100)), (1, .int v)]) hx hb dX6_tick_77 hl (k := 4) rfl (nI_1 k) (by decide) rfl (fun ls hl => ?_)
                refine lv_goto (tgt := 17) hx hb dX6_tick_80 (by decide) ?_
                have hst : rf_tks M (k + 1) (0, T, Q) = ((n9 + 1), ((sp_out1 (va_up T9 3 (upd (upd (T9 3) 0 (((T9 3) 0) - 1)) 1 (((upd (T9 3) 0 (((T9 3) 0) - 1)) 1) - 1))) Q9 M).2.1), (sp_out1 (va_up T9 3 (upd (upd (T9 3) 0 (((T9 3) 0) - 1)) 1 (((upd (T9 3) 0 (((T9 3) 0) - 1)) 1) - 1))) Q9 M).2.2) := by rw [rf_tks, hgk]; show sp_tk1 M n9 T9 Q9 = _; unfold sp_tk1; rw [if_neg c38, if_neg c59, if_neg c38_1, if_pos c59_1]
                exact ih17 (k + 1) _ _ _ _ (by omega) ⟨by rw [hst]; exact lv_sub hl [3, 4, 2, 0] rfl, by rw [hst]; exact ⟨_, _, _, _, ⟨h100, h101, h102, h103, h104, h105, h106, h107, h108, h109, h110, h111⟩, hQ, hM⟩, hF, by omega⟩ hw hS
          · refine lv_iinc (v := n9 + 1) (lv' := [(2, .int (n9 + 1)), (4, .int 0), (0, .ref (ad 100)), (1, .int v), (3, .int (nI k))]) hx hb dX6_tick_62 hl (k := 3) rfl (rfl) (by decide) rfl (fun ls hl => ?_)
            refine lv_aload_n hx hb dX6_tick_65 rfl (lv_at hl 2 rfl) ?_
            refine lv_iload hx hb dX6_tick_66 (lv_at hl 1 rfl) ?_
            have hV : rfV G ad ce4 (va_up T9 3 (upd (T9 3) 0 (((T9 3) 0) - 1))) Q9 M := ⟨_, _, _, _, ⟨h100, h101, h102, h103, h104, h105, h106, h107, h108, h109, h110, h111⟩, hQ, hM⟩
            refine z_invV F (rest := []) (r_out0 l (va_up T9 3 (upd (T9 3) 0 (((T9 3) 0) - 1))) Q9 M hV) yv_X6_138 ⟨Nat.le_of_ble_eq_true rfl, Nat.le_of_ble_eq_true rfl⟩ hw hA hS hl h100 rfl rfl rfl (Nat.le_of_ble_eq_true rfl) dX6_tick_68 ⟨Nat.le_of_ble_eq_true rfl, Nat.le_of_ble_eq_true rfl⟩ (fun r ad1 ce9 H locs hp hw hS => ?_)
            obtain ⟨rfl, rfl, hV, hF2⟩ := hp
            have hF : ∀ j, j < 100 → ce9 j = ce j := fun j hj => (hF2 j hj).trans (hF j hj)
            obtain ⟨cn, zs, bs, hh, ⟨h100, h101, h102, h103, h104, h105, h106, h107, h108, h109, h110, h111⟩, hQ, hM⟩ := hV
            refine W.eq (g2 := F0 m 71 ls []) rfl ?_
            refine lv_iinc (v := 1) (lv' := [(4, .int 1), (2, .int (n9 + 1)), (0, .ref (ad 100)), (1, .int v), (3, .int (nI k))]) hx hb dX6_tick_71 hl (k := 1) rfl (by decide) (by decide) rfl (fun ls hl => ?_)
            refine lv_goto (tgt := 25) hx hb dX6_tick_74 (by decide) ?_
            refine lv_iload hx hb dX6_tick_25 (lv_at hl 0 rfl) ?_
            refine lv_iconst (v := 2) hx hb dX6_tick_27 (by decide) ?_
            refine lv_icmp_ge (tgt := 77) hx hb dX6_tick_28 (by decide) (fun c28_1 => absurd c28_1 (by decide)) (fun c28_1 => ?_)
            refine lv_aload_n hx hb dX6_tick_31 rfl (lv_at hl 2 rfl) ?_
            refine z_get F hw h100 fd_X6_29_X6 rfl dX6_tick_32 ?_
            refine lv_iload hx hb dX6_tick_35 (lv_at hl 0 rfl) ?_
            refine z_ld F hw h106 (1) (rfl) (by decide) (by decide) dX6_tick_37 ?_
            refine lv_if_le (tgt := 71) hx hb dX6_tick_38 (by decide) (fun c38_1 => ?_) (fun c38_1 => ?_)
            · refine lv_iinc (v := 2) (lv' := [(4, .int 2), (2, .int (n9 + 1)), (0, .ref (ad 100)), (1, .int v), (3, .int (nI k))]) hx hb dX6_tick_71 hl (k := 0) rfl (by decide) (by decide) rfl (fun ls hl => ?_)
              refine lv_goto (tgt := 25) hx hb dX6_tick_74 (by decide) ?_
              refine lv_iload hx hb dX6_tick_25 (lv_at hl 0 rfl) ?_
              refine lv_iconst (v := 2) hx hb dX6_tick_27 (by decide) ?_
              refine lv_icmp_ge (tgt := 77) hx hb dX6_tick_28 (by decide) (fun c28_2 => ?_) (fun c28_2 => absurd c28_2 (by decide))
              refine lv_iinc (v := nI (k + 1)) (lv' := [(3, .int (nI (k + 1))), (4, .int 2), (2, .int (n9 + 1)), (0, .ref (ad 100)), (1, .int v)]) hx hb dX6_tick_77 hl (k := 4) rfl (nI_1 k) (by decide) rfl (fun ls hl => ?_)
              refine lv_goto (tgt := 17) hx hb dX6_tick_80 (by decide) ?_
              have hst : rf_tks M (k + 1) (0, T, Q) = ((n9 + 1), ((sp_out0 (va_up T9 3 (upd (T9 3) 0 (((T9 3) 0) - 1))) Q9 M).2.1), (sp_out0 (va_up T9 3 (upd (T9 3) 0 (((T9 3) 0) - 1))) Q9 M).2.2) := by rw [rf_tks, hgk]; show sp_tk1 M n9 T9 Q9 = _; unfold sp_tk1; rw [if_neg c38, if_pos c59, if_pos c38_1]
              exact ih17 (k + 1) _ _ _ _ (by omega) ⟨by rw [hst]; exact lv_sub hl [3, 4, 2, 0] rfl, by rw [hst]; exact ⟨_, _, _, _, ⟨h100, h101, h102, h103, h104, h105, h106, h107, h108, h109, h110, h111⟩, hQ, hM⟩, hF, by omega⟩ hw hS
            · refine lv_aload_n hx hb dX6_tick_41 rfl (lv_at hl 2 rfl) ?_
              refine z_get F hw h100 fd_X6_29_X6 rfl dX6_tick_42 ?_
              refine lv_iload hx hb dX6_tick_45 (lv_at hl 0 rfl) ?_
              refine lv_dup2_11 hx hb dX6_tick_47 rfl rfl ?_
              refine z_ld F hw h106 (1) (rfl) (by decide) (by decide) dX6_tick_48 ?_
              refine lv_iconst (v := 1) hx hb dX6_tick_49 (by decide) ?_
              refine lv_isub hx hb dX6_tick_50 ?_
              refine z_st F hw hS h106 (1) (rfl) (by decide) (by decide) dX6_tick_51 (fun ce10 H locs h106 fr11 hw hS => ?_)
              have h100 := (fr11 100 (by decide)).trans h100
              have h101 := (fr11 101 (by decide)).trans h101
              have h102 := (fr11 102 (by decide)).trans h102
              have h103 := (fr11 103 (by decide)).trans h103
              have h104 := (fr11 104 (by decide)).trans h104
              have h105 := (fr11 105 (by decide)).trans h105
              have h107 := (fr11 107 (by decide)).trans h107
              have h108 := (fr11 108 (by decide)).trans h108
              have h109 := (fr11 109 (by decide)).trans h109
              have h110 := (fr11 110 (by decide)).trans h110
              have h111 := (fr11 111 (by decide)).trans h111
              have hF : ∀ j, j < 100 → _ = ce j := fun j hj => (fr11 j (by omega)).trans (hF j hj)
              refine lv_aload_n hx hb dX6_tick_52 rfl (lv_at hl 2 rfl) ?_
              refine z_get F hw h100 fd_X6_29_X6 rfl dX6_tick_53 ?_
              refine lv_iload hx hb dX6_tick_56 (lv_at hl 0 rfl) ?_
              refine z_ld F hw h106 (1) (rfl) (by decide) (by decide) dX6_tick_58 ?_
              refine z_top (((((sp_out0 (va_up T9 3 (upd (T9 3) 0 (((T9 3) 0) - 1))) Q9 M).2.1) 3) 1) - 1) (rf_up_s _ _ _) ?_
              refine lv_if_ne (tgt := 71) hx hb dX6_tick_59 (by decide) (fun c59_1 => ?_) (fun c59_1 => ?_)
              · refine lv_iinc (v := 2) (lv' := [(4, .int 2), (2, .int (n9 + 1)), (0, .ref (ad 100)), (1, .int v), (3, .int (nI k))]) hx hb dX6_tick_71 hl (k := 0) rfl (by decide) (by decide) rfl (fun ls hl => ?_)
                refine lv_goto (tgt := 25) hx hb dX6_tick_74 (by decide) ?_
                refine lv_iload hx hb dX6_tick_25 (lv_at hl 0 rfl) ?_
                refine lv_iconst (v := 2) hx hb dX6_tick_27 (by decide) ?_
                refine lv_icmp_ge (tgt := 77) hx hb dX6_tick_28 (by decide) (fun c28_2 => ?_) (fun c28_2 => absurd c28_2 (by decide))
                refine lv_iinc (v := nI (k + 1)) (lv' := [(3, .int (nI (k + 1))), (4, .int 2), (2, .int (n9 + 1)), (0, .ref (ad 100)), (1, .int v)]) hx hb dX6_tick_77 hl (k := 4) rfl (nI_1 k) (by decide) rfl (fun ls hl => ?_)
                refine lv_goto (tgt := 17) hx hb dX6_tick_80 (by decide) ?_
                have hst : rf_tks M (k + 1) (0, T, Q) = ((n9 + 1), va_up ((sp_out0 (va_up T9 3 (upd (T9 3) 0 (((T9 3) 0) - 1))) Q9 M).2.1) 3 (upd (((sp_out0 (va_up T9 3 (upd (T9 3) 0 (((T9 3) 0) - 1))) Q9 M).2.1) 3) 1 (((((sp_out0 (va_up T9 3 (upd (T9 3) 0 (((T9 3) 0) - 1))) Q9 M).2.1) 3) 1) - 1)), (sp_out0 (va_up T9 3 (upd (T9 3) 0 (((T9 3) 0) - 1))) Q9 M).2.2) := by rw [rf_tks, hgk]; show sp_tk1 M n9 T9 Q9 = _; unfold sp_tk1; rw [if_neg c38, if_pos c59, if_neg c38_1, if_neg c59_1]
                exact ih17 (k + 1) _ _ _ _ (by omega) ⟨by rw [hst]; exact lv_sub hl [3, 4, 2, 0] rfl, by rw [hst]; exact ⟨_, _, _, _, ⟨h100, h101, h102, h103, h104, h105, h106, h107, h108, h109, h110, h111⟩, hQ, hM⟩, hF, by omega⟩ hw hS
              · refine lv_iinc (v := (n9 + 1) + 1) (lv' := [(2, .int ((n9 + 1) + 1)), (4, .int 1), (0, .ref (ad 100)), (1, .int v), (3, .int (nI k))]) hx hb dX6_tick_62 hl (k := 1) rfl (rfl) (by decide) rfl (fun ls hl => ?_)
                refine lv_aload_n hx hb dX6_tick_65 rfl (lv_at hl 2 rfl) ?_
                refine lv_iload hx hb dX6_tick_66 (lv_at hl 1 rfl) ?_
                have hV : rfV G ad ce10 (va_up ((sp_out0 (va_up T9 3 (upd (T9 3) 0 (((T9 3) 0) - 1))) Q9 M).2.1) 3 (upd (((sp_out0 (va_up T9 3 (upd (T9 3) 0 (((T9 3) 0) - 1))) Q9 M).2.1) 3) 1 (((((sp_out0 (va_up T9 3 (upd (T9 3) 0 (((T9 3) 0) - 1))) Q9 M).2.1) 3) 1) - 1))) ((sp_out0 (va_up T9 3 (upd (T9 3) 0 (((T9 3) 0) - 1))) Q9 M).2.2) M := ⟨_, _, _, _, ⟨h100, h101, h102, h103, h104, h105, h106, h107, h108, h109, h110, h111⟩, hQ, hM⟩
                refine z_invV F (rest := []) (r_out1 l (va_up ((sp_out0 (va_up T9 3 (upd (T9 3) 0 (((T9 3) 0) - 1))) Q9 M).2.1) 3 (upd (((sp_out0 (va_up T9 3 (upd (T9 3) 0 (((T9 3) 0) - 1))) Q9 M).2.1) 3) 1 (((((sp_out0 (va_up T9 3 (upd (T9 3) 0 (((T9 3) 0) - 1))) Q9 M).2.1) 3) 1) - 1))) ((sp_out0 (va_up T9 3 (upd (T9 3) 0 (((T9 3) 0) - 1))) Q9 M).2.2) M hV) yv_X6_138 ⟨Nat.le_of_ble_eq_true rfl, Nat.le_of_ble_eq_true rfl⟩ hw hA hS hl h100 rfl rfl rfl (Nat.le_of_ble_eq_true rfl) dX6_tick_68 ⟨Nat.le_of_ble_eq_true rfl, Nat.le_of_ble_eq_true rfl⟩ (fun r ad1 ce12 H locs hp hw hS => ?_)
                obtain ⟨rfl, rfl, hV, hF2⟩ := hp
                have hF : ∀ j, j < 100 → ce12 j = ce j := fun j hj => (hF2 j hj).trans (hF j hj)
                obtain ⟨cn, zs, bs, hh, ⟨h100, h101, h102, h103, h104, h105, h106, h107, h108, h109, h110, h111⟩, hQ, hM⟩ := hV
                refine W.eq (g2 := F0 m 71 ls []) rfl ?_
                refine lv_iinc (v := 2) (lv' := [(4, .int 2), (2, .int ((n9 + 1) + 1)), (0, .ref (ad 100)), (1, .int v), (3, .int (nI k))]) hx hb dX6_tick_71 hl (k := 1) rfl (by decide) (by decide) rfl (fun ls hl => ?_)
                refine lv_goto (tgt := 25) hx hb dX6_tick_74 (by decide) ?_
                refine lv_iload hx hb dX6_tick_25 (lv_at hl 0 rfl) ?_
                refine lv_iconst (v := 2) hx hb dX6_tick_27 (by decide) ?_
                refine lv_icmp_ge (tgt := 77) hx hb dX6_tick_28 (by decide) (fun c28_2 => ?_) (fun c28_2 => absurd c28_2 (by decide))
                refine lv_iinc (v := nI (k + 1)) (lv' := [(3, .int (nI (k + 1))), (4, .int 2), (2, .int ((n9 + 1) + 1)), (0, .ref (ad 100)), (1, .int v)]) hx hb dX6_tick_77 hl (k := 4) rfl (nI_1 k) (by decide) rfl (fun ls hl => ?_)
                refine lv_goto (tgt := 17) hx hb dX6_tick_80 (by decide) ?_
                have hst : rf_tks M (k + 1) (0, T, Q) = (((n9 + 1) + 1), ((sp_out1 (va_up ((sp_out0 (va_up T9 3 (upd (T9 3) 0 (((T9 3) 0) - 1))) Q9 M).2.1) 3 (upd (((sp_out0 (va_up T9 3 (upd (T9 3) 0 (((T9 3) 0) - 1))) Q9 M).2.1) 3) 1 (((((sp_out0 (va_up T9 3 (upd (T9 3) 0 (((T9 3) 0) - 1))) Q9 M).2.1) 3) 1) - 1))) ((sp_out0 (va_up T9 3 (upd (T9 3) 0 (((T9 3) 0) - 1))) Q9 M).2.2) M).2.1), (sp_out1 (va_up ((sp_out0 (va_up T9 3 (upd (T9 3) 0 (((T9 3) 0) - 1))) Q9 M).2.1) 3 (upd (((sp_out0 (va_up T9 3 (upd (T9 3) 0 (((T9 3) 0) - 1))) Q9 M).2.1) 3) 1 (((((sp_out0 (va_up T9 3 (upd (T9 3) 0 (((T9 3) 0) - 1))) Q9 M).2.1) 3) 1) - 1))) ((sp_out0 (va_up T9 3 (upd (T9 3) 0 (((T9 3) 0) - 1))) Q9 M).2.2) M).2.2) := by rw [rf_tks, hgk]; show sp_tk1 M n9 T9 Q9 = _; unfold sp_tk1; rw [if_neg c38, if_pos c59, if_neg c38_1, if_pos c59_1]
                exact ih17 (k + 1) _ _ _ _ (by omega) ⟨by rw [hst]; exact lv_sub hl [3, 4, 2, 0] rfl, by rw [hst]; exact ⟨_, _, _, _, ⟨h100, h101, h102, h103, h104, h105, h106, h107, h108, h109, h110, h111⟩, hQ, hM⟩, hF, by omega⟩ hw hS
    · refine lv_iconst (v := -1) hx hb dX6_tick_11 (by decide) ?_
      exact z_iret F (rfl) hw hS (by unfold sp_tick; rw [if_neg c2, if_neg c8]; exact ⟨rfl, rfl, ⟨_, _, _, _, ⟨h100, h101, h102, h103, h104, h105, h106, h107, h108, h109, h110, h111⟩, hQ, hM⟩, hF⟩) dX6_tick_12
end
