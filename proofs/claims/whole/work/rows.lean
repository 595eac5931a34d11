section
-- ===== PART A: goes FIRST, ahead of the names: the tables' words, and 'selects' of the private methods out of them =====
/-- a private method of a class that the tables say can be made, by its rows of tables_1 -/
def lw_okq (q : MethodName × Nat) : Prop := (q.1.cls ≠ "java/lang/invoke/MethodHandle" ∧ q.1.cls ≠ "java/lang/invoke/VarHandle") ∧ Cond.instantiable q.1.cls q.2 ∈ tables_1 ∧ Cond.privateMethod q.1 ∈ tables_1 ∧ Cond.instanceMethod q.1 ∈ tables_1
theorem lw_p0 : lw_okq (⟨"MobileCall$Mobile", "keepDigits", "(II)V"⟩, 11) := ⟨⟨by decide +kernel, by decide +kernel⟩, List.mem_of_getElem? (i := 54) (by decide +kernel), List.mem_of_getElem? (i := 240) (by decide +kernel), List.mem_of_getElem? (i := 241) (by decide +kernel)⟩
theorem lw_p1 : lw_okq (⟨"MobileCall", "row", "(I)LMobileCall$Row;"⟩, 5) := ⟨⟨by decide +kernel, by decide +kernel⟩, List.mem_of_getElem? (i := 9) (by decide +kernel), List.mem_of_getElem? (i := 348) (by decide +kernel), List.mem_of_getElem? (i := 349) (by decide +kernel)⟩
theorem lw_p2 : lw_okq (⟨"MobileCall$Mobile", "takesUpdated", "(LMobileCall$Message;)Z"⟩, 11) := ⟨⟨by decide +kernel, by decide +kernel⟩, List.mem_of_getElem? (i := 54) (by decide +kernel), List.mem_of_getElem? (i := 381) (by decide +kernel), List.mem_of_getElem? (i := 382) (by decide +kernel)⟩
theorem lw_p3 : lw_okq (⟨"MobileCall$Message", "find", "(I)I"⟩, 2) := ⟨⟨by decide +kernel, by decide +kernel⟩, List.mem_of_getElem? (i := 24) (by decide +kernel), List.mem_of_getElem? (i := 393) (by decide +kernel), List.mem_of_getElem? (i := 394) (by decide +kernel)⟩
theorem lw_p4 : lw_okq (⟨"MobileCall$Mobile", "takesRefusal", "(LMobileCall$Message;II)Z"⟩, 11) := ⟨⟨by decide +kernel, by decide +kernel⟩, List.mem_of_getElem? (i := 54) (by decide +kernel), List.mem_of_getElem? (i := 401) (by decide +kernel), List.mem_of_getElem? (i := 402) (by decide +kernel)⟩
theorem lw_p5 : lw_okq (⟨"MobileCall$Mobile", "takesChallenge", "(LMobileCall$Message;)Z"⟩, 11) := ⟨⟨by decide +kernel, by decide +kernel⟩, List.mem_of_getElem? (i := 54) (by decide +kernel), List.mem_of_getElem? (i := 405) (by decide +kernel), List.mem_of_getElem? (i := 406) (by decide +kernel)⟩
theorem lw_p6 : lw_okq (⟨"MobileCall$Mobile", "takesExpelled", "()Z"⟩, 11) := ⟨⟨by decide +kernel, by decide +kernel⟩, List.mem_of_getElem? (i := 54) (by decide +kernel), List.mem_of_getElem? (i := 415) (by decide +kernel), List.mem_of_getElem? (i := 416) (by decide +kernel)⟩
theorem lw_p7 : lw_okq (⟨"MobileCall$Mobile", "takesServed", "()Z"⟩, 11) := ⟨⟨by decide +kernel, by decide +kernel⟩, List.mem_of_getElem? (i := 54) (by decide +kernel), List.mem_of_getElem? (i := 419) (by decide +kernel), List.mem_of_getElem? (i := 420) (by decide +kernel)⟩
theorem lw_p8 : lw_okq (⟨"MobileCall$Mobile", "sendSetUp", "()V"⟩, 11) := ⟨⟨by decide +kernel, by decide +kernel⟩, List.mem_of_getElem? (i := 54) (by decide +kernel), List.mem_of_getElem? (i := 423) (by decide +kernel), List.mem_of_getElem? (i := 424) (by decide +kernel)⟩
theorem lw_p9 : lw_okq (⟨"MobileCall$Network", "takesUpdate", "(LMobileCall$Message;)Z"⟩, 15) := ⟨⟨by decide +kernel, by decide +kernel⟩, List.mem_of_getElem? (i := 123) (by decide +kernel), List.mem_of_getElem? (i := 435) (by decide +kernel), List.mem_of_getElem? (i := 436) (by decide +kernel)⟩
theorem lw_p10 : lw_okq (⟨"MobileCall$Network", "sendChallenge", "(I)V"⟩, 15) := ⟨⟨by decide +kernel, by decide +kernel⟩, List.mem_of_getElem? (i := 123) (by decide +kernel), List.mem_of_getElem? (i := 441) (by decide +kernel), List.mem_of_getElem? (i := 442) (by decide +kernel)⟩
theorem lw_p11 : lw_okq (⟨"MobileCall$Network", "takesService", "()Z"⟩, 15) := ⟨⟨by decide +kernel, by decide +kernel⟩, List.mem_of_getElem? (i := 123) (by decide +kernel), List.mem_of_getElem? (i := 450) (by decide +kernel), List.mem_of_getElem? (i := 451) (by decide +kernel)⟩
theorem lw_p12 : lw_okq (⟨"MobileCall$Network", "takesAnswer", "(LMobileCall$Message;)Z"⟩, 15) := ⟨⟨by decide +kernel, by decide +kernel⟩, List.mem_of_getElem? (i := 123) (by decide +kernel), List.mem_of_getElem? (i := 454) (by decide +kernel), List.mem_of_getElem? (i := 455) (by decide +kernel)⟩
theorem lw_p13 : lw_okq (⟨"MobileCall$Network", "forgetMobile", "()V"⟩, 15) := ⟨⟨by decide +kernel, by decide +kernel⟩, List.mem_of_getElem? (i := 123) (by decide +kernel), List.mem_of_getElem? (i := 460) (by decide +kernel), List.mem_of_getElem? (i := 461) (by decide +kernel)⟩
theorem lw_p14 : lw_okq (⟨"MobileCall$Network", "decideUpdate", "()V"⟩, 15) := ⟨⟨by decide +kernel, by decide +kernel⟩, List.mem_of_getElem? (i := 123) (by decide +kernel), List.mem_of_getElem? (i := 465) (by decide +kernel), List.mem_of_getElem? (i := 466) (by decide +kernel)⟩
theorem lw_p15 : lw_okq (⟨"MobileCall$Network", "decideService", "()V"⟩, 15) := ⟨⟨by decide +kernel, by decide +kernel⟩, List.mem_of_getElem? (i := 123) (by decide +kernel), List.mem_of_getElem? (i := 469) (by decide +kernel), List.mem_of_getElem? (i := 470) (by decide +kernel)⟩
def lw_privs_1 : List (MethodName × Nat) := [(⟨"MobileCall$Mobile", "keepDigits", "(II)V"⟩, 11), (⟨"MobileCall", "row", "(I)LMobileCall$Row;"⟩, 5), (⟨"MobileCall$Mobile", "takesUpdated", "(LMobileCall$Message;)Z"⟩, 11), (⟨"MobileCall$Message", "find", "(I)I"⟩, 2), (⟨"MobileCall$Mobile", "takesRefusal", "(LMobileCall$Message;II)Z"⟩, 11), (⟨"MobileCall$Mobile", "takesChallenge", "(LMobileCall$Message;)Z"⟩, 11), (⟨"MobileCall$Mobile", "takesExpelled", "()Z"⟩, 11), (⟨"MobileCall$Mobile", "takesServed", "()Z"⟩, 11), (⟨"MobileCall$Mobile", "sendSetUp", "()V"⟩, 11), (⟨"MobileCall$Network", "takesUpdate", "(LMobileCall$Message;)Z"⟩, 15), (⟨"MobileCall$Network", "sendChallenge", "(I)V"⟩, 15), (⟨"MobileCall$Network", "takesService", "()Z"⟩, 15), (⟨"MobileCall$Network", "takesAnswer", "(LMobileCall$Message;)Z"⟩, 15), (⟨"MobileCall$Network", "forgetMobile", "()V"⟩, 15), (⟨"MobileCall$Network", "decideUpdate", "()V"⟩, 15), (⟨"MobileCall$Network", "decideService", "()V"⟩, 15)]
theorem lw_r1 : ∀ q ∈ lw_privs_1, lw_okq q := List.forall_mem_cons.mpr ⟨lw_p0, List.forall_mem_cons.mpr ⟨lw_p1, List.forall_mem_cons.mpr ⟨lw_p2, List.forall_mem_cons.mpr ⟨lw_p3, List.forall_mem_cons.mpr ⟨lw_p4, List.forall_mem_cons.mpr ⟨lw_p5, List.forall_mem_cons.mpr ⟨lw_p6, List.forall_mem_cons.mpr ⟨lw_p7, List.forall_mem_cons.mpr ⟨lw_p8, List.forall_mem_cons.mpr ⟨lw_p9, List.forall_mem_cons.mpr ⟨lw_p10, List.forall_mem_cons.mpr ⟨lw_p11, List.forall_mem_cons.mpr ⟨lw_p12, List.forall_mem_cons.mpr ⟨lw_p13, List.forall_mem_cons.mpr ⟨lw_p14, List.forall_mem_cons.mpr ⟨lw_p15, fun _ h => absurd h List.not_mem_nil⟩⟩⟩⟩⟩⟩⟩⟩⟩⟩⟩⟩⟩⟩⟩⟩
theorem lw_p16 : lw_okq (⟨"MobileCall$Network", "takesDetach", "()Z"⟩, 15) := ⟨⟨by decide +kernel, by decide +kernel⟩, List.mem_of_getElem? (i := 123) (by decide +kernel), List.mem_of_getElem? (i := 473) (by decide +kernel), List.mem_of_getElem? (i := 474) (by decide +kernel)⟩
theorem lw_p17 : lw_okq (⟨"MobileCall$Mobile", "takesProgress", "(II)Z"⟩, 11) := ⟨⟨by decide +kernel, by decide +kernel⟩, List.mem_of_getElem? (i := 54) (by decide +kernel), List.mem_of_getElem? (i := 483) (by decide +kernel), List.mem_of_getElem? (i := 484) (by decide +kernel)⟩
theorem lw_p18 : lw_okq (⟨"MobileCall$Mobile", "takesConnect", "()Z"⟩, 11) := ⟨⟨by decide +kernel, by decide +kernel⟩, List.mem_of_getElem? (i := 54) (by decide +kernel), List.mem_of_getElem? (i := 490) (by decide +kernel), List.mem_of_getElem? (i := 491) (by decide +kernel)⟩
theorem lw_p19 : lw_okq (⟨"MobileCall$Network", "takesSetUp", "(LMobileCall$Message;)Z"⟩, 15) := ⟨⟨by decide +kernel, by decide +kernel⟩, List.mem_of_getElem? (i := 123) (by decide +kernel), List.mem_of_getElem? (i := 522) (by decide +kernel), List.mem_of_getElem? (i := 523) (by decide +kernel)⟩
theorem lw_p20 : lw_okq (⟨"MobileCall$Message", "hasByte", "(I)Z"⟩, 2) := ⟨⟨by decide +kernel, by decide +kernel⟩, List.mem_of_getElem? (i := 24) (by decide +kernel), List.mem_of_getElem? (i := 535) (by decide +kernel), List.mem_of_getElem? (i := 536) (by decide +kernel)⟩
theorem lw_p21 : lw_okq (⟨"MobileCall$Network", "takesConnected", "()Z"⟩, 15) := ⟨⟨by decide +kernel, by decide +kernel⟩, List.mem_of_getElem? (i := 123) (by decide +kernel), List.mem_of_getElem? (i := 539) (by decide +kernel), List.mem_of_getElem? (i := 540) (by decide +kernel)⟩
theorem lw_p22 : lw_okq (⟨"MobileCallModel", "out", "(I)V"⟩, 23) := ⟨⟨by decide +kernel, by decide +kernel⟩, List.mem_of_getElem? (i := 637) (by decide +kernel), List.mem_of_getElem? (i := 718) (by decide +kernel), List.mem_of_getElem? (i := 719) (by decide +kernel)⟩
theorem lw_p23 : lw_okq (⟨"MobileCallModel", "release", "(I)V"⟩, 23) := ⟨⟨by decide +kernel, by decide +kernel⟩, List.mem_of_getElem? (i := 637) (by decide +kernel), List.mem_of_getElem? (i := 722) (by decide +kernel), List.mem_of_getElem? (i := 723) (by decide +kernel)⟩
theorem lw_p24 : lw_okq (⟨"MobileCallModel", "way", "(I)I"⟩, 23) := ⟨⟨by decide +kernel, by decide +kernel⟩, List.mem_of_getElem? (i := 637) (by decide +kernel), List.mem_of_getElem? (i := 726) (by decide +kernel), List.mem_of_getElem? (i := 727) (by decide +kernel)⟩
theorem lw_p25 : lw_okq (⟨"MobileCallModel", "put", "(III)I"⟩, 23) := ⟨⟨by decide +kernel, by decide +kernel⟩, List.mem_of_getElem? (i := 637) (by decide +kernel), List.mem_of_getElem? (i := 730) (by decide +kernel), List.mem_of_getElem? (i := 731) (by decide +kernel)⟩
theorem lw_p26 : lw_okq (⟨"MobileCallModel", "become", "(IIII)V"⟩, 23) := ⟨⟨by decide +kernel, by decide +kernel⟩, List.mem_of_getElem? (i := 637) (by decide +kernel), List.mem_of_getElem? (i := 734) (by decide +kernel), List.mem_of_getElem? (i := 735) (by decide +kernel)⟩
theorem lw_p27 : lw_okq (⟨"MobileCallModel", "rest", "(I)I"⟩, 23) := ⟨⟨by decide +kernel, by decide +kernel⟩, List.mem_of_getElem? (i := 637) (by decide +kernel), List.mem_of_getElem? (i := 738) (by decide +kernel), List.mem_of_getElem? (i := 739) (by decide +kernel)⟩
theorem lw_p28 : lw_okq (⟨"MobileCallModel", "tell", "(IIIIII)V"⟩, 23) := ⟨⟨by decide +kernel, by decide +kernel⟩, List.mem_of_getElem? (i := 637) (by decide +kernel), List.mem_of_getElem? (i := 742) (by decide +kernel), List.mem_of_getElem? (i := 743) (by decide +kernel)⟩
theorem lw_p29 : lw_okq (⟨"MobileCallModel", "more", "(II)V"⟩, 23) := ⟨⟨by decide +kernel, by decide +kernel⟩, List.mem_of_getElem? (i := 637) (by decide +kernel), List.mem_of_getElem? (i := 746) (by decide +kernel), List.mem_of_getElem? (i := 747) (by decide +kernel)⟩
theorem lw_p30 : lw_okq (⟨"MobileCallModel", "isCall", "(III)Z"⟩, 23) := ⟨⟨by decide +kernel, by decide +kernel⟩, List.mem_of_getElem? (i := 637) (by decide +kernel), List.mem_of_getElem? (i := 767) (by decide +kernel), List.mem_of_getElem? (i := 768) (by decide +kernel)⟩
theorem lw_p31 : lw_okq (⟨"MobileCallModel", "end", "(II)V"⟩, 23) := ⟨⟨by decide +kernel, by decide +kernel⟩, List.mem_of_getElem? (i := 637) (by decide +kernel), List.mem_of_getElem? (i := 771) (by decide +kernel), List.mem_of_getElem? (i := 772) (by decide +kernel)⟩
def lw_privs_2 : List (MethodName × Nat) := [(⟨"MobileCall$Network", "takesDetach", "()Z"⟩, 15), (⟨"MobileCall$Mobile", "takesProgress", "(II)Z"⟩, 11), (⟨"MobileCall$Mobile", "takesConnect", "()Z"⟩, 11), (⟨"MobileCall$Network", "takesSetUp", "(LMobileCall$Message;)Z"⟩, 15), (⟨"MobileCall$Message", "hasByte", "(I)Z"⟩, 2), (⟨"MobileCall$Network", "takesConnected", "()Z"⟩, 15), (⟨"MobileCallModel", "out", "(I)V"⟩, 23), (⟨"MobileCallModel", "release", "(I)V"⟩, 23), (⟨"MobileCallModel", "way", "(I)I"⟩, 23), (⟨"MobileCallModel", "put", "(III)I"⟩, 23), (⟨"MobileCallModel", "become", "(IIII)V"⟩, 23), (⟨"MobileCallModel", "rest", "(I)I"⟩, 23), (⟨"MobileCallModel", "tell", "(IIIIII)V"⟩, 23), (⟨"MobileCallModel", "more", "(II)V"⟩, 23), (⟨"MobileCallModel", "isCall", "(III)Z"⟩, 23), (⟨"MobileCallModel", "end", "(II)V"⟩, 23)]
theorem lw_r2 : ∀ q ∈ lw_privs_2, lw_okq q := List.forall_mem_cons.mpr ⟨lw_p16, List.forall_mem_cons.mpr ⟨lw_p17, List.forall_mem_cons.mpr ⟨lw_p18, List.forall_mem_cons.mpr ⟨lw_p19, List.forall_mem_cons.mpr ⟨lw_p20, List.forall_mem_cons.mpr ⟨lw_p21, List.forall_mem_cons.mpr ⟨lw_p22, List.forall_mem_cons.mpr ⟨lw_p23, List.forall_mem_cons.mpr ⟨lw_p24, List.forall_mem_cons.mpr ⟨lw_p25, List.forall_mem_cons.mpr ⟨lw_p26, List.forall_mem_cons.mpr ⟨lw_p27, List.forall_mem_cons.mpr ⟨lw_p28, List.forall_mem_cons.mpr ⟨lw_p29, List.forall_mem_cons.mpr ⟨lw_p30, List.forall_mem_cons.mpr ⟨lw_p31, fun _ h => absurd h List.not_mem_nil⟩⟩⟩⟩⟩⟩⟩⟩⟩⟩⟩⟩⟩⟩⟩⟩
theorem lw_p32 : lw_okq (⟨"MobileCallModel", "take", "(I)V"⟩, 23) := ⟨⟨by decide +kernel, by decide +kernel⟩, List.mem_of_getElem? (i := 637) (by decide +kernel), List.mem_of_getElem? (i := 802) (by decide +kernel), List.mem_of_getElem? (i := 803) (by decide +kernel)⟩
theorem lw_p33 : lw_okq (⟨"MobileCallModel", "isGood", "()Z"⟩, 23) := ⟨⟨by decide +kernel, by decide +kernel⟩, List.mem_of_getElem? (i := 637) (by decide +kernel), List.mem_of_getElem? (i := 806) (by decide +kernel), List.mem_of_getElem? (i := 807) (by decide +kernel)⟩
theorem lw_p34 : lw_okq (⟨"MobileCallModel", "mobileMoves", "(I)Z"⟩, 23) := ⟨⟨by decide +kernel, by decide +kernel⟩, List.mem_of_getElem? (i := 637) (by decide +kernel), List.mem_of_getElem? (i := 810) (by decide +kernel), List.mem_of_getElem? (i := 811) (by decide +kernel)⟩
theorem lw_p35 : lw_okq (⟨"MobileCallModel", "has", "(II)Z"⟩, 23) := ⟨⟨by decide +kernel, by decide +kernel⟩, List.mem_of_getElem? (i := 637) (by decide +kernel), List.mem_of_getElem? (i := 814) (by decide +kernel), List.mem_of_getElem? (i := 815) (by decide +kernel)⟩
theorem lw_p36 : lw_okq (⟨"MobileCallModel", "find", "(I)I"⟩, 23) := ⟨⟨by decide +kernel, by decide +kernel⟩, List.mem_of_getElem? (i := 637) (by decide +kernel), List.mem_of_getElem? (i := 818) (by decide +kernel), List.mem_of_getElem? (i := 819) (by decide +kernel)⟩
theorem lw_p37 : lw_okq (⟨"MobileCallModel", "number", "(I)I"⟩, 23) := ⟨⟨by decide +kernel, by decide +kernel⟩, List.mem_of_getElem? (i := 637) (by decide +kernel), List.mem_of_getElem? (i := 822) (by decide +kernel), List.mem_of_getElem? (i := 823) (by decide +kernel)⟩
theorem lw_p38 : lw_okq (⟨"MobileCallModel", "setUp", "()V"⟩, 23) := ⟨⟨by decide +kernel, by decide +kernel⟩, List.mem_of_getElem? (i := 637) (by decide +kernel), List.mem_of_getElem? (i := 830) (by decide +kernel), List.mem_of_getElem? (i := 831) (by decide +kernel)⟩
theorem lw_p39 : lw_okq (⟨"MobileCallModel", "networkMoves", "(I)Z"⟩, 23) := ⟨⟨by decide +kernel, by decide +kernel⟩, List.mem_of_getElem? (i := 637) (by decide +kernel), List.mem_of_getElem? (i := 834) (by decide +kernel), List.mem_of_getElem? (i := 835) (by decide +kernel)⟩
theorem lw_p40 : lw_okq (⟨"MobileCallModel", "ask", "(I)V"⟩, 23) := ⟨⟨by decide +kernel, by decide +kernel⟩, List.mem_of_getElem? (i := 637) (by decide +kernel), List.mem_of_getElem? (i := 838) (by decide +kernel), List.mem_of_getElem? (i := 839) (by decide +kernel)⟩
theorem lw_p41 : lw_okq (⟨"MobileCallModel", "judge", "()V"⟩, 23) := ⟨⟨by decide +kernel, by decide +kernel⟩, List.mem_of_getElem? (i := 637) (by decide +kernel), List.mem_of_getElem? (i := 843) (by decide +kernel), List.mem_of_getElem? (i := 844) (by decide +kernel)⟩
theorem lw_p42 : lw_okq (⟨"MobileCallModel", "mobileCalls", "(I)Z"⟩, 23) := ⟨⟨by decide +kernel, by decide +kernel⟩, List.mem_of_getElem? (i := 637) (by decide +kernel), List.mem_of_getElem? (i := 847) (by decide +kernel), List.mem_of_getElem? (i := 848) (by decide +kernel)⟩
theorem lw_p43 : lw_okq (⟨"MobileCallModel", "closes", "(II)Z"⟩, 23) := ⟨⟨by decide +kernel, by decide +kernel⟩, List.mem_of_getElem? (i := 637) (by decide +kernel), List.mem_of_getElem? (i := 851) (by decide +kernel), List.mem_of_getElem? (i := 852) (by decide +kernel)⟩
theorem lw_p44 : lw_okq (⟨"MobileCallModel", "networkCalls", "(I)Z"⟩, 23) := ⟨⟨by decide +kernel, by decide +kernel⟩, List.mem_of_getElem? (i := 637) (by decide +kernel), List.mem_of_getElem? (i := 855) (by decide +kernel), List.mem_of_getElem? (i := 856) (by decide +kernel)⟩
def lw_privs_3 : List (MethodName × Nat) := [(⟨"MobileCallModel", "take", "(I)V"⟩, 23), (⟨"MobileCallModel", "isGood", "()Z"⟩, 23), (⟨"MobileCallModel", "mobileMoves", "(I)Z"⟩, 23), (⟨"MobileCallModel", "has", "(II)Z"⟩, 23), (⟨"MobileCallModel", "find", "(I)I"⟩, 23), (⟨"MobileCallModel", "number", "(I)I"⟩, 23), (⟨"MobileCallModel", "setUp", "()V"⟩, 23), (⟨"MobileCallModel", "networkMoves", "(I)Z"⟩, 23), (⟨"MobileCallModel", "ask", "(I)V"⟩, 23), (⟨"MobileCallModel", "judge", "()V"⟩, 23), (⟨"MobileCallModel", "mobileCalls", "(I)Z"⟩, 23), (⟨"MobileCallModel", "closes", "(II)Z"⟩, 23), (⟨"MobileCallModel", "networkCalls", "(I)Z"⟩, 23)]
theorem lw_r3 : ∀ q ∈ lw_privs_3, lw_okq q := List.forall_mem_cons.mpr ⟨lw_p32, List.forall_mem_cons.mpr ⟨lw_p33, List.forall_mem_cons.mpr ⟨lw_p34, List.forall_mem_cons.mpr ⟨lw_p35, List.forall_mem_cons.mpr ⟨lw_p36, List.forall_mem_cons.mpr ⟨lw_p37, List.forall_mem_cons.mpr ⟨lw_p38, List.forall_mem_cons.mpr ⟨lw_p39, List.forall_mem_cons.mpr ⟨lw_p40, List.forall_mem_cons.mpr ⟨lw_p41, List.forall_mem_cons.mpr ⟨lw_p42, List.forall_mem_cons.mpr ⟨lw_p43, List.forall_mem_cons.mpr ⟨lw_p44, fun _ h => absurd h List.not_mem_nil⟩⟩⟩⟩⟩⟩⟩⟩⟩⟩⟩⟩⟩
def lw_privs : List (MethodName × Nat) := lw_privs_1 ++ (lw_privs_2 ++ (lw_privs_3))
def lw_tbl : List Cond := k2_sels lw_privs ++ tables_1
theorem lw_privs_ok : ∀ q ∈ lw_privs, lw_okq q := by
  show ∀ q ∈ lw_privs_1 ++ (lw_privs_2 ++ (lw_privs_3)), lw_okq q
  exact List.forall_mem_append.mpr ⟨lw_r1, List.forall_mem_append.mpr ⟨lw_r2, lw_r3⟩⟩
end
section
/-! ===== BEGIN printed: names, fields, word lists, decode rows ===== -/
def RX0 : String := "MobileCall$Message"
def TX0 : u_T := fun k => match k with
  | 0 => ("MobileCall$Message", "bytes", "[I", true)
  | _ => ("MobileCall$Message", "length", "I", false)
def tyX0 : Nat → FieldType := fun k => match k with
  | 0 => .array .int
  | _ => .int
abbrev wsX00 : List Cond := u_ws RX0 TX0 2
theorem nmX0 : ∀ a, a < 2 → ∀ b, b < 2 → a ≠ b → (TX0 a).2.1 ≠ (TX0 b).2.1 := by decide +kernel
theorem tyX0_ok : ∀ k, k < 2 → parseFieldDescriptor (TX0 k).2.2.1 = some (tyX0 k) := by decide +kernel
abbrev cX0_init : ByteArray := prog_2_method_1_code
def yX0_init : MethodName := ⟨RX0, "<init>", "()V"⟩
abbrev cX0_begin : ByteArray := prog_2_method_2_code
def yX0_begin : MethodName := ⟨RX0, "begin", "(II)V"⟩
abbrev cX0_add : ByteArray := prog_2_method_3_code
def yX0_add : MethodName := ⟨RX0, "add", "(I)V"⟩
abbrev cX0_addNumber : ByteArray := prog_2_method_4_code
def yX0_addNumber : MethodName := ⟨RX0, "addNumber", "(III)V"⟩
abbrev cX0_change : ByteArray := prog_2_method_5_code
def yX0_change : MethodName := ⟨RX0, "change", "(II)V"⟩
abbrev cX0_byteAt : ByteArray := prog_2_method_6_code
def yX0_byteAt : MethodName := ⟨RX0, "byteAt", "(I)I"⟩
abbrev cX0_protocol : ByteArray := prog_2_method_7_code
def yX0_protocol : MethodName := ⟨RX0, "protocol", "()I"⟩
abbrev cX0_type : ByteArray := prog_2_method_8_code
def yX0_type : MethodName := ⟨RX0, "type", "()I"⟩
abbrev cX0_isGood : ByteArray := prog_2_method_9_code
def yX0_isGood : MethodName := ⟨RX0, "isGood", "()Z"⟩
abbrev cX0_has : ByteArray := prog_2_method_10_code
def yX0_has : MethodName := ⟨RX0, "has", "(II)Z"⟩
abbrev cX0_sizeOf : ByteArray := prog_2_method_11_code
def yX0_sizeOf : MethodName := ⟨RX0, "sizeOf", "(I)I"⟩
abbrev cX0_elementByte : ByteArray := prog_2_method_12_code
def yX0_elementByte : MethodName := ⟨RX0, "elementByte", "(II)I"⟩
abbrev cX0_number : ByteArray := prog_2_method_13_code
def yX0_number : MethodName := ⟨RX0, "number", "(II)I"⟩
abbrev cX0_find : ByteArray := prog_2_method_14_code
def yX0_find : MethodName := ⟨RX0, "find", "(I)I"⟩
abbrev cX0_hasByte : ByteArray := prog_2_method_15_code
def yX0_hasByte : MethodName := ⟨RX0, "hasByte", "(I)Z"⟩
def RX1 : String := "MobileCall$Mobile"
def TX1 : u_T := fun k => match k with
  | 0 => ("MobileCall$Party", "out", "LMobileCall$Row;", true)
  | 1 => ("MobileCall$Party", "restState", "I", true)
  | 2 => ("MobileCall$Party", "state", "I", false)
  | 3 => ("MobileCall$Party", "call", "I", false)
  | 4 => ("MobileCall$Party", "timer", "I", false)
  | 5 => ("MobileCall$Party", "lastCause", "I", false)
  | 6 => ("MobileCall$Party", "releasedTwice", "Z", false)
  | 7 => ("MobileCall$Mobile", "key", "I", true)
  | 8 => ("MobileCall$Mobile", "area", "I", false)
  | 9 => ("MobileCall$Mobile", "digits", "[I", true)
  | _ => ("MobileCall$Mobile", "digitCount", "I", false)
def tyX1 : Nat → FieldType := fun k => match k with
  | 0 => .object "MobileCall$Row"
  | 1 => .int
  | 2 => .int
  | 3 => .int
  | 4 => .int
  | 5 => .int
  | 6 => .boolean
  | 7 => .int
  | 8 => .int
  | 9 => .array .int
  | _ => .int
abbrev wsX10 : List Cond := u_ws RX1 TX1 11
theorem nmX1 : ∀ a, a < 11 → ∀ b, b < 11 → a ≠ b → (TX1 a).2.1 ≠ (TX1 b).2.1 := by decide +kernel
theorem tyX1_ok : ∀ k, k < 11 → parseFieldDescriptor (TX1 k).2.2.1 = some (tyX1 k) := by decide +kernel
abbrev cX1_init : ByteArray := prog_3_method_1_code
def yX1_init : MethodName := ⟨RX1, "<init>", "(LMobileCall$Row;I)V"⟩
abbrev cX1_isOn : ByteArray := prog_3_method_2_code
def yX1_isOn : MethodName := ⟨RX1, "isOn", "()Z"⟩
abbrev cX1_switchOn : ByteArray := prog_3_method_3_code
def yX1_switchOn : MethodName := ⟨RX1, "switchOn", "()V"⟩
abbrev cX1_switchOff : ByteArray := prog_3_method_4_code
def yX1_switchOff : MethodName := ⟨RX1, "switchOff", "()V"⟩
abbrev cX1_startUpdating : ByteArray := prog_3_method_5_code
def yX1_startUpdating : MethodName := ⟨RX1, "startUpdating", "(I)Z"⟩
abbrev cX1_startAsking : ByteArray := prog_3_method_6_code
def yX1_startAsking : MethodName := ⟨RX1, "startAsking", "(II)Z"⟩
abbrev cX1_dropRadio : ByteArray := prog_3_method_7_code
def yX1_dropRadio : MethodName := ⟨RX1, "dropRadio", "()V"⟩
abbrev cX1_takesManaging : ByteArray := prog_3_method_8_code
def yX1_takesManaging : MethodName := ⟨RX1, "takesManaging", "(LMobileCall$Message;)Z"⟩
abbrev cX1_takesCalling : ByteArray := prog_3_method_9_code
def yX1_takesCalling : MethodName := ⟨RX1, "takesCalling", "(LMobileCall$Message;)Z"⟩
abbrev cX1_timeOut : ByteArray := prog_3_method_10_code
def yX1_timeOut : MethodName := ⟨RX1, "timeOut", "()V"⟩
abbrev cX1_takesUpdated : ByteArray := prog_3_method_11_code
def yX1_takesUpdated : MethodName := ⟨RX1, "takesUpdated", "(LMobileCall$Message;)Z"⟩
abbrev cX1_takesRefusal : ByteArray := prog_3_method_12_code
def yX1_takesRefusal : MethodName := ⟨RX1, "takesRefusal", "(LMobileCall$Message;II)Z"⟩
abbrev cX1_takesChallenge : ByteArray := prog_3_method_13_code
def yX1_takesChallenge : MethodName := ⟨RX1, "takesChallenge", "(LMobileCall$Message;)Z"⟩
abbrev cX1_takesExpelled : ByteArray := prog_3_method_14_code
def yX1_takesExpelled : MethodName := ⟨RX1, "takesExpelled", "()Z"⟩
abbrev cX1_takesServed : ByteArray := prog_3_method_15_code
def yX1_takesServed : MethodName := ⟨RX1, "takesServed", "()Z"⟩
abbrev cX1_takesProgress : ByteArray := prog_3_method_16_code
def yX1_takesProgress : MethodName := ⟨RX1, "takesProgress", "(II)Z"⟩
abbrev cX1_takesConnect : ByteArray := prog_3_method_17_code
def yX1_takesConnect : MethodName := ⟨RX1, "takesConnect", "()Z"⟩
abbrev cX1_keepDigits : ByteArray := prog_3_method_18_code
def yX1_keepDigits : MethodName := ⟨RX1, "keepDigits", "(II)V"⟩
abbrev cX1_sendSetUp : ByteArray := prog_3_method_19_code
def yX1_sendSetUp : MethodName := ⟨RX1, "sendSetUp", "()V"⟩
def RX2 : String := "MobileCall$Network"
def TX2 : u_T := fun k => match k with
  | 0 => ("MobileCall$Party", "out", "LMobileCall$Row;", true)
  | 1 => ("MobileCall$Party", "restState", "I", true)
  | 2 => ("MobileCall$Party", "state", "I", false)
  | 3 => ("MobileCall$Party", "call", "I", false)
  | 4 => ("MobileCall$Party", "timer", "I", false)
  | 5 => ("MobileCall$Party", "lastCause", "I", false)
  | 6 => ("MobileCall$Party", "releasedTwice", "Z", false)
  | 7 => ("MobileCall$Network", "key", "I", true)
  | 8 => ("MobileCall$Network", "area", "I", false)
  | 9 => ("MobileCall$Network", "challenge", "I", false)
  | 10 => ("MobileCall$Network", "askedArea", "I", false)
  | 11 => ("MobileCall$Network", "acceptsUpdates", "Z", false)
  | 12 => ("MobileCall$Network", "acceptsServices", "Z", false)
  | 13 => ("MobileCall$Network", "number", "[I", true)
  | _ => ("MobileCall$Network", "numberLength", "I", false)
def tyX2 : Nat → FieldType := fun k => match k with
  | 0 => .object "MobileCall$Row"
  | 1 => .int
  | 2 => .int
  | 3 => .int
  | 4 => .int
  | 5 => .int
  | 6 => .boolean
  | 7 => .int
  | 8 => .int
  | 9 => .int
  | 10 => .int
  | 11 => .boolean
  | 12 => .boolean
  | 13 => .array .int
  | _ => .int
abbrev wsX20 : List Cond := u_ws RX2 TX2 15
theorem nmX2 : ∀ a, a < 15 → ∀ b, b < 15 → a ≠ b → (TX2 a).2.1 ≠ (TX2 b).2.1 := by decide +kernel
theorem tyX2_ok : ∀ k, k < 15 → parseFieldDescriptor (TX2 k).2.2.1 = some (tyX2 k) := by decide +kernel
abbrev cX2_init : ByteArray := prog_4_method_1_code
def yX2_init : MethodName := ⟨RX2, "<init>", "(LMobileCall$Row;II)V"⟩
abbrev cX2_setAccepted : ByteArray := prog_4_method_2_code
def yX2_setAccepted : MethodName := ⟨RX2, "setAccepted", "(ZZ)V"⟩
abbrev cX2_startRinging : ByteArray := prog_4_method_3_code
def yX2_startRinging : MethodName := ⟨RX2, "startRinging", "()Z"⟩
abbrev cX2_startAnswered : ByteArray := prog_4_method_4_code
def yX2_startAnswered : MethodName := ⟨RX2, "startAnswered", "()Z"⟩
abbrev cX2_numberByte : ByteArray := prog_4_method_5_code
def yX2_numberByte : MethodName := ⟨RX2, "numberByte", "(I)I"⟩
abbrev cX2_takesManaging : ByteArray := prog_4_method_6_code
def yX2_takesManaging : MethodName := ⟨RX2, "takesManaging", "(LMobileCall$Message;)Z"⟩
abbrev cX2_takesCalling : ByteArray := prog_4_method_7_code
def yX2_takesCalling : MethodName := ⟨RX2, "takesCalling", "(LMobileCall$Message;)Z"⟩
abbrev cX2_timeOut : ByteArray := prog_4_method_8_code
def yX2_timeOut : MethodName := ⟨RX2, "timeOut", "()V"⟩
abbrev cX2_takesDetach : ByteArray := prog_4_method_9_code
def yX2_takesDetach : MethodName := ⟨RX2, "takesDetach", "()Z"⟩
abbrev cX2_forgetMobile : ByteArray := prog_4_method_10_code
def yX2_forgetMobile : MethodName := ⟨RX2, "forgetMobile", "()V"⟩
abbrev cX2_takesUpdate : ByteArray := prog_4_method_11_code
def yX2_takesUpdate : MethodName := ⟨RX2, "takesUpdate", "(LMobileCall$Message;)Z"⟩
abbrev cX2_takesService : ByteArray := prog_4_method_12_code
def yX2_takesService : MethodName := ⟨RX2, "takesService", "()Z"⟩
abbrev cX2_sendChallenge : ByteArray := prog_4_method_13_code
def yX2_sendChallenge : MethodName := ⟨RX2, "sendChallenge", "(I)V"⟩
abbrev cX2_takesAnswer : ByteArray := prog_4_method_14_code
def yX2_takesAnswer : MethodName := ⟨RX2, "takesAnswer", "(LMobileCall$Message;)Z"⟩
abbrev cX2_decideUpdate : ByteArray := prog_4_method_15_code
def yX2_decideUpdate : MethodName := ⟨RX2, "decideUpdate", "()V"⟩
abbrev cX2_decideService : ByteArray := prog_4_method_16_code
def yX2_decideService : MethodName := ⟨RX2, "decideService", "()V"⟩
abbrev cX2_takesSetUp : ByteArray := prog_4_method_17_code
def yX2_takesSetUp : MethodName := ⟨RX2, "takesSetUp", "(LMobileCall$Message;)Z"⟩
abbrev cX2_takesConnected : ByteArray := prog_4_method_18_code
def yX2_takesConnected : MethodName := ⟨RX2, "takesConnected", "()Z"⟩
def RX3 : String := "MobileCall$Party"
def TX3 : u_T := fun k => match k with
  | _ => ("", "", "", false)
def tyX3 : Nat → FieldType := fun k => match k with
  | _ => .int
abbrev wsX30 : List Cond := u_ws RX3 TX3 0
theorem nmX3 : ∀ a, a < 0 → ∀ b, b < 0 → a ≠ b → (TX3 a).2.1 ≠ (TX3 b).2.1 := by decide +kernel
theorem tyX3_ok : ∀ k, k < 0 → parseFieldDescriptor (TX3 k).2.2.1 = some (tyX3 k) := by decide +kernel
abbrev cX3_init : ByteArray := prog_5_method_1_code
def yX3_init : MethodName := ⟨RX3, "<init>", "(LMobileCall$Row;II)V"⟩
abbrev cX3_takes : ByteArray := prog_5_method_5_code
def yX3_takes : MethodName := ⟨RX3, "takes", "(LMobileCall$Message;)Z"⟩
abbrev cX3_endsTimer : ByteArray := prog_5_method_6_code
def yX3_endsTimer : MethodName := ⟨RX3, "endsTimer", "()Z"⟩
abbrev cX3_startEnding : ByteArray := prog_5_method_7_code
def yX3_startEnding : MethodName := ⟨RX3, "startEnding", "(I)Z"⟩
abbrev cX3_rest : ByteArray := prog_5_method_8_code
def yX3_rest : MethodName := ⟨RX3, "rest", "()V"⟩
abbrev cX3_setState : ByteArray := prog_5_method_9_code
def yX3_setState : MethodName := ⟨RX3, "setState", "(II)V"⟩
abbrev cX3_setCall : ByteArray := prog_5_method_10_code
def yX3_setCall : MethodName := ⟨RX3, "setCall", "(II)V"⟩
abbrev cX3_hasCall : ByteArray := prog_5_method_11_code
def yX3_hasCall : MethodName := ⟨RX3, "hasCall", "(II)Z"⟩
abbrev cX3_takesEnd : ByteArray := prog_5_method_12_code
def yX3_takesEnd : MethodName := ⟨RX3, "takesEnd", "(LMobileCall$Message;)Z"⟩
abbrev cX3_takesRelease : ByteArray := prog_5_method_13_code
def yX3_takesRelease : MethodName := ⟨RX3, "takesRelease", "()Z"⟩
abbrev cX3_takesReleased : ByteArray := prog_5_method_14_code
def yX3_takesReleased : MethodName := ⟨RX3, "takesReleased", "()Z"⟩
abbrev cX3_timeOutClearing : ByteArray := prog_5_method_15_code
def yX3_timeOutClearing : MethodName := ⟨RX3, "timeOutClearing", "()V"⟩
abbrev cX3_answerTo : ByteArray := prog_5_method_16_code
def yX3_answerTo : MethodName := ⟨RX3, "answerTo", "(II)I"⟩
abbrev cX3_startReleasing : ByteArray := prog_5_method_17_code
def yX3_startReleasing : MethodName := ⟨RX3, "startReleasing", "()V"⟩
def RX4 : String := "MobileCall$Row"
def TX4 : u_T := fun k => match k with
  | 0 => ("MobileCall$Row", "slots", "[LMobileCall$Message;", true)
  | 1 => ("MobileCall$Row", "spare", "LMobileCall$Message;", true)
  | 2 => ("MobileCall$Row", "first", "I", false)
  | 3 => ("MobileCall$Row", "count", "I", false)
  | _ => ("MobileCall$Row", "open", "Z", false)
def tyX4 : Nat → FieldType := fun k => match k with
  | 0 => .array (.object "MobileCall$Message")
  | 1 => .object "MobileCall$Message"
  | 2 => .int
  | 3 => .int
  | _ => .boolean
abbrev wsX40 : List Cond := u_ws RX4 TX4 5
theorem nmX4 : ∀ a, a < 5 → ∀ b, b < 5 → a ≠ b → (TX4 a).2.1 ≠ (TX4 b).2.1 := by decide +kernel
theorem tyX4_ok : ∀ k, k < 5 → parseFieldDescriptor (TX4 k).2.2.1 = some (tyX4 k) := by decide +kernel
abbrev cX4_init : ByteArray := prog_6_method_1_code
def yX4_init : MethodName := ⟨RX4, "<init>", "()V"⟩
abbrev cX4_size : ByteArray := prog_6_method_2_code
def yX4_size : MethodName := ⟨RX4, "size", "()I"⟩
abbrev cX4_isOpen : ByteArray := prog_6_method_3_code
def yX4_isOpen : MethodName := ⟨RX4, "isOpen", "()Z"⟩
abbrev cX4_open : ByteArray := prog_6_method_4_code
def yX4_open : MethodName := ⟨RX4, "open", "()V"⟩
abbrev cX4_close : ByteArray := prog_6_method_5_code
def yX4_close : MethodName := ⟨RX4, "close", "()V"⟩
abbrev cX4_hasRoom : ByteArray := prog_6_method_6_code
def yX4_hasRoom : MethodName := ⟨RX4, "hasRoom", "()Z"⟩
abbrev cX4_at : ByteArray := prog_6_method_7_code
def yX4_at : MethodName := ⟨RX4, "at", "(I)LMobileCall$Message;"⟩
abbrev cX4_send : ByteArray := prog_6_method_8_code
def yX4_send : MethodName := ⟨RX4, "send", "(II)LMobileCall$Message;"⟩
abbrev cX4_dropFirst : ByteArray := prog_6_method_9_code
def yX4_dropFirst : MethodName := ⟨RX4, "dropFirst", "()V"⟩
def RX5 : String := "MobileCall"
def TX5 : u_T := fun k => match k with
  | 0 => ("MobileCall", "up", "LMobileCall$Row;", true)
  | 1 => ("MobileCall", "down", "LMobileCall$Row;", true)
  | 2 => ("MobileCall", "mobile", "LMobileCall$Mobile;", true)
  | 3 => ("MobileCall", "network", "LMobileCall$Network;", true)
  | _ => ("MobileCall", "left", "I", false)
def tyX5 : Nat → FieldType := fun k => match k with
  | 0 => .object "MobileCall$Row"
  | 1 => .object "MobileCall$Row"
  | 2 => .object "MobileCall$Mobile"
  | 3 => .object "MobileCall$Network"
  | _ => .int
abbrev wsX50 : List Cond := u_ws RX5 TX5 5
theorem nmX5 : ∀ a, a < 5 → ∀ b, b < 5 → a ≠ b → (TX5 a).2.1 ≠ (TX5 b).2.1 := by decide +kernel
theorem tyX5_ok : ∀ k, k < 5 → parseFieldDescriptor (TX5 k).2.2.1 = some (tyX5 k) := by decide +kernel
abbrev cX5_init : ByteArray := prog_1_method_1_code
def yX5_init : MethodName := ⟨RX5, "<init>", "(III)V"⟩
abbrev cX5_power : ByteArray := prog_1_method_2_code
def yX5_power : MethodName := ⟨RX5, "power", "(Z)I"⟩
abbrev cX5_update : ByteArray := prog_1_method_3_code
def yX5_update : MethodName := ⟨RX5, "update", "(I)I"⟩
abbrev cX5_dial : ByteArray := prog_1_method_4_code
def yX5_dial : MethodName := ⟨RX5, "dial", "(II)I"⟩
abbrev cX5_hang : ByteArray := prog_1_method_5_code
def yX5_hang : MethodName := ⟨RX5, "hang", "()I"⟩
abbrev cX5_alert : ByteArray := prog_1_method_6_code
def yX5_alert : MethodName := ⟨RX5, "alert", "()I"⟩
abbrev cX5_answer : ByteArray := prog_1_method_7_code
def yX5_answer : MethodName := ⟨RX5, "answer", "()I"⟩
abbrev cX5_clear : ByteArray := prog_1_method_8_code
def yX5_clear : MethodName := ⟨RX5, "clear", "(I)I"⟩
abbrev cX5_accept : ByteArray := prog_1_method_9_code
def yX5_accept : MethodName := ⟨RX5, "accept", "(I)I"⟩
abbrev cX5_radio : ByteArray := prog_1_method_10_code
def yX5_radio : MethodName := ⟨RX5, "radio", "(Z)I"⟩
abbrev cX5_carry : ByteArray := prog_1_method_11_code
def yX5_carry : MethodName := ⟨RX5, "carry", "(I)I"⟩
abbrev cX5_lose : ByteArray := prog_1_method_12_code
def yX5_lose : MethodName := ⟨RX5, "lose", "(I)I"⟩
abbrev cX5_spoil : ByteArray := prog_1_method_13_code
def yX5_spoil : MethodName := ⟨RX5, "spoil", "(III)I"⟩
abbrev cX5_forge : ByteArray := prog_1_method_14_code
def yX5_forge : MethodName := ⟨RX5, "forge", "(IJI)I"⟩
abbrev cX5_tick : ByteArray := prog_1_method_15_code
def yX5_tick : MethodName := ⟨RX5, "tick", "(I)I"⟩
abbrev cX5_told : ByteArray := prog_1_method_16_code
def yX5_told : MethodName := ⟨RX5, "told", "(I)I"⟩
abbrev cX5_byteOf : ByteArray := prog_1_method_17_code
def yX5_byteOf : MethodName := ⟨RX5, "byteOf", "(III)I"⟩
abbrev cX5_digit : ByteArray := prog_1_method_18_code
def yX5_digit : MethodName := ⟨RX5, "digit", "(I)I"⟩
abbrev cX5_row : ByteArray := prog_1_method_19_code
def yX5_row : MethodName := ⟨RX5, "row", "(I)LMobileCall$Row;"⟩
abbrev cX5_isWay : ByteArray := prog_1_method_20_code
def yX5_isWay : MethodName := ⟨RX5, "isWay", "(I)Z"⟩
abbrev cX5_isByte : ByteArray := prog_1_method_21_code
def yX5_isByte : MethodName := ⟨RX5, "isByte", "(I)Z"⟩
abbrev cX5_byteOfLong : ByteArray := prog_1_method_22_code
def yX5_byteOfLong : MethodName := ⟨RX5, "byteOfLong", "(JI)I"⟩
abbrev cX5_done : ByteArray := prog_1_method_23_code
def yX5_done : MethodName := ⟨RX5, "done", "(Z)I"⟩
def RX6 : String := "MobileCallModel"
def TX6 : u_T := fun k => match k with
  | 0 => ("MobileCallModel", "key", "I", true)
  | 1 => ("MobileCallModel", "otherKey", "I", true)
  | 2 => ("MobileCallModel", "challenge", "I", false)
  | 3 => ("MobileCallModel", "accepts", "I", false)
  | 4 => ("MobileCallModel", "silent", "Z", false)
  | 5 => ("MobileCallModel", "counts", "[I", true)
  | 6 => ("MobileCallModel", "sizes", "[I", true)
  | 7 => ("MobileCallModel", "bytes", "[I", true)
  | 8 => ("MobileCallModel", "left", "I", false)
  | 9 => ("MobileCallModel", "states", "[I", true)
  | 10 => ("MobileCallModel", "calls", "[I", true)
  | 11 => ("MobileCallModel", "timers", "[I", true)
  | 12 => ("MobileCallModel", "twice", "[Z", true)
  | 13 => ("MobileCallModel", "causes", "[I", true)
  | 14 => ("MobileCallModel", "area", "I", false)
  | 15 => ("MobileCallModel", "known", "I", false)
  | 16 => ("MobileCallModel", "wished", "I", false)
  | 17 => ("MobileCallModel", "digits", "[I", true)
  | 18 => ("MobileCallModel", "digitCount", "I", false)
  | 19 => ("MobileCallModel", "called", "[I", true)
  | 20 => ("MobileCallModel", "calledCount", "I", false)
  | 21 => ("MobileCallModel", "size", "I", false)
  | _ => ("MobileCallModel", "here", "[I", true)
def tyX6 : Nat → FieldType := fun k => match k with
  | 0 => .int
  | 1 => .int
  | 2 => .int
  | 3 => .int
  | 4 => .boolean
  | 5 => .array .int
  | 6 => .array .int
  | 7 => .array .int
  | 8 => .int
  | 9 => .array .int
  | 10 => .array .int
  | 11 => .array .int
  | 12 => .array .boolean
  | 13 => .array .int
  | 14 => .int
  | 15 => .int
  | 16 => .int
  | 17 => .array .int
  | 18 => .int
  | 19 => .array .int
  | 20 => .int
  | 21 => .int
  | _ => .array .int
abbrev wsX60 : List Cond := u_ws RX6 TX6 23
theorem nmX6 : ∀ a, a < 23 → ∀ b, b < 23 → a ≠ b → (TX6 a).2.1 ≠ (TX6 b).2.1 := by decide +kernel
theorem tyX6_ok : ∀ k, k < 23 → parseFieldDescriptor (TX6 k).2.2.1 = some (tyX6 k) := by decide +kernel
abbrev cX6_init : ByteArray := prog_8_method_1_code
def yX6_init : MethodName := ⟨RX6, "<init>", "(III)V"⟩
abbrev cX6_put : ByteArray := prog_8_method_2_code
def yX6_put : MethodName := ⟨RX6, "put", "(III)I"⟩
abbrev cX6_more : ByteArray := prog_8_method_3_code
def yX6_more : MethodName := ⟨RX6, "more", "(II)V"⟩
abbrev cX6_tell : ByteArray := prog_8_method_4_code
def yX6_tell : MethodName := ⟨RX6, "tell", "(IIIIII)V"⟩
abbrev cX6_take : ByteArray := prog_8_method_5_code
def yX6_take : MethodName := ⟨RX6, "take", "(I)V"⟩
abbrev cX6_isGood : ByteArray := prog_8_method_6_code
def yX6_isGood : MethodName := ⟨RX6, "isGood", "()Z"⟩
abbrev cX6_find : ByteArray := prog_8_method_7_code
def yX6_find : MethodName := ⟨RX6, "find", "(I)I"⟩
abbrev cX6_has : ByteArray := prog_8_method_8_code
def yX6_has : MethodName := ⟨RX6, "has", "(II)Z"⟩
abbrev cX6_number : ByteArray := prog_8_method_9_code
def yX6_number : MethodName := ⟨RX6, "number", "(I)I"⟩
abbrev cX6_turned : ByteArray := prog_8_method_10_code
def yX6_turned : MethodName := ⟨RX6, "turned", "(II)I"⟩
abbrev cX6_become : ByteArray := prog_8_method_11_code
def yX6_become : MethodName := ⟨RX6, "become", "(IIII)V"⟩
abbrev cX6_way : ByteArray := prog_8_method_12_code
def yX6_way : MethodName := ⟨RX6, "way", "(I)I"⟩
abbrev cX6_rest : ByteArray := prog_8_method_13_code
def yX6_rest : MethodName := ⟨RX6, "rest", "(I)I"⟩
abbrev cX6_release : ByteArray := prog_8_method_14_code
def yX6_release : MethodName := ⟨RX6, "release", "(I)V"⟩
abbrev cX6_isCall : ByteArray := prog_8_method_15_code
def yX6_isCall : MethodName := ⟨RX6, "isCall", "(III)Z"⟩
abbrev cX6_closes : ByteArray := prog_8_method_16_code
def yX6_closes : MethodName := ⟨RX6, "closes", "(II)Z"⟩
abbrev cX6_mobileMoves : ByteArray := prog_8_method_17_code
def yX6_mobileMoves : MethodName := ⟨RX6, "mobileMoves", "(I)Z"⟩
abbrev cX6_setUp : ByteArray := prog_8_method_18_code
def yX6_setUp : MethodName := ⟨RX6, "setUp", "()V"⟩
abbrev cX6_mobileCalls : ByteArray := prog_8_method_19_code
def yX6_mobileCalls : MethodName := ⟨RX6, "mobileCalls", "(I)Z"⟩
abbrev cX6_ask : ByteArray := prog_8_method_20_code
def yX6_ask : MethodName := ⟨RX6, "ask", "(I)V"⟩
abbrev cX6_judge : ByteArray := prog_8_method_21_code
def yX6_judge : MethodName := ⟨RX6, "judge", "()V"⟩
abbrev cX6_networkMoves : ByteArray := prog_8_method_22_code
def yX6_networkMoves : MethodName := ⟨RX6, "networkMoves", "(I)Z"⟩
abbrev cX6_networkCalls : ByteArray := prog_8_method_23_code
def yX6_networkCalls : MethodName := ⟨RX6, "networkCalls", "(I)Z"⟩
abbrev cX6_out : ByteArray := prog_8_method_24_code
def yX6_out : MethodName := ⟨RX6, "out", "(I)V"⟩
abbrev cX6_tick : ByteArray := prog_8_method_25_code
def yX6_tick : MethodName := ⟨RX6, "tick", "(I)I"⟩
abbrev cX6_power : ByteArray := prog_8_method_26_code
def yX6_power : MethodName := ⟨RX6, "power", "(Z)I"⟩
abbrev cX6_update : ByteArray := prog_8_method_27_code
def yX6_update : MethodName := ⟨RX6, "update", "(I)I"⟩
abbrev cX6_dial : ByteArray := prog_8_method_28_code
def yX6_dial : MethodName := ⟨RX6, "dial", "(II)I"⟩
abbrev cX6_end : ByteArray := prog_8_method_29_code
def yX6_end : MethodName := ⟨RX6, "end", "(II)V"⟩
abbrev cX6_hang : ByteArray := prog_8_method_30_code
def yX6_hang : MethodName := ⟨RX6, "hang", "()I"⟩
abbrev cX6_alert : ByteArray := prog_8_method_31_code
def yX6_alert : MethodName := ⟨RX6, "alert", "()I"⟩
abbrev cX6_answer : ByteArray := prog_8_method_32_code
def yX6_answer : MethodName := ⟨RX6, "answer", "()I"⟩
abbrev cX6_clear : ByteArray := prog_8_method_33_code
def yX6_clear : MethodName := ⟨RX6, "clear", "(I)I"⟩
abbrev cX6_accept : ByteArray := prog_8_method_34_code
def yX6_accept : MethodName := ⟨RX6, "accept", "(I)I"⟩
abbrev cX6_radio : ByteArray := prog_8_method_35_code
def yX6_radio : MethodName := ⟨RX6, "radio", "(Z)I"⟩
abbrev cX6_isWay : ByteArray := prog_8_method_36_code
def yX6_isWay : MethodName := ⟨RX6, "isWay", "(I)Z"⟩
abbrev cX6_carry : ByteArray := prog_8_method_37_code
def yX6_carry : MethodName := ⟨RX6, "carry", "(I)I"⟩
abbrev cX6_lose : ByteArray := prog_8_method_38_code
def yX6_lose : MethodName := ⟨RX6, "lose", "(I)I"⟩
abbrev cX6_spoil : ByteArray := prog_8_method_39_code
def yX6_spoil : MethodName := ⟨RX6, "spoil", "(III)I"⟩
abbrev cX6_forge : ByteArray := prog_8_method_40_code
def yX6_forge : MethodName := ⟨RX6, "forge", "(IJI)I"⟩
abbrev cX6_told : ByteArray := prog_8_method_41_code
def yX6_told : MethodName := ⟨RX6, "told", "(I)I"⟩
abbrev cX6_byteOf : ByteArray := prog_8_method_42_code
def yX6_byteOf : MethodName := ⟨RX6, "byteOf", "(III)I"⟩
abbrev cX6_digit : ByteArray := prog_8_method_43_code
def yX6_digit : MethodName := ⟨RX6, "digit", "(I)I"⟩
def RL : String := "MobileCallLaw"
abbrev cL_cell : ByteArray := method_2_code
def yL_cell : MethodName := ⟨RL, "cell", "([II)I"⟩
abbrev cL_law : ByteArray := code
def yL_law : MethodName := ⟨RL, "law", "([I)Z"⟩
abbrev classes : List vw_C := [(RX0, TX0, 2), (RX1, TX1, 11), (RX2, TX2, 15), (RX4, TX4, 5), (RX5, TX5, 5), (RX6, TX6, 23)]
end
section
/-- the class tables' numbers, and the classes of int[], boolean[], Message[] -/
abbrev zz_G : Type := va_G × ClassId × ClassId × ClassId
abbrev zz_cI (G : zz_G) : ClassId := G.2.1
abbrev zz_cZ (G : zz_G) : ClassId := G.2.2.1
abbrev zz_cM (G : zz_G) : ClassId := G.2.2.2
abbrev zz_tys (G : zz_G) : List (ClassId × FieldType) := [(zz_cI G, .int), (zz_cZ G, .boolean), (zz_cM G, .object RX0)]
def zz_over : List String := [RX0]
def zz_dec : List MethodName := [⟨RX3, "takesManaging", "(LMobileCall$Message;)Z"⟩, ⟨RX3, "takesCalling", "(LMobileCall$Message;)Z"⟩, ⟨RX3, "timeOut", "()V"⟩]
def zz_nest : List Cond := zz_dec.map Cond.declares
theorem zz_nest_tab : ∀ w ∈ zz_nest, w.onTables = true := fun w hw => by
  obtain ⟨x, -, rfl⟩ := List.mem_map.mp hw
  rfl
theorem zz_nest_warm {s U : State} : ∀ w ∈ zz_nest, s.WarmedH U.vm → va_Nw w s → va_Nw w U := fun w hw hW h => by
  obtain ⟨x, -, rfl⟩ := List.mem_map.mp hw
  exact va_Nw.warmD hW h
end
section
/-! THE WORLD BY NAMES: cells have names (numbers); ad gives a name's address, ce its content. A contract speaks of every ad and ce with some lookups, and its end gives the new lookups and leaves all other names as they were. -/
abbrev zz_C : Type := Nat → Option va_E
def zz_good (w : Cond) : Bool := (w.onTables && w.keeps) || (match w with | .arrayClass _ => true | _ => false)
def zz_T : List Cond := lw_tbl.filter zz_good
theorem zz_mem {w : Cond} (h : w ∈ lw_tbl) (hg : zz_good w = true) : w ∈ zz_T := List.mem_filter.mpr ⟨h, hg⟩
theorem zz_ok {w : Cond} (h : zz_good w = true) : (w.onTables && w.keeps) = true ∨ ∃ ty, w = .arrayClass ty := by
  unfold zz_good at h
  rcases (Bool.or_eq_true _ _).mp h with h | h
  · exact Or.inl h
  · refine Or.inr ?_
    cases w <;> first | exact ⟨_, rfl⟩ | cases h
theorem zz_gT : GoodIn zz_T zz_T := fun _ h => ⟨h, zz_ok (List.mem_filter.mp h).2⟩
theorem zz_gC {w : Cond} {ws : List Cond} (hw : w ∈ zz_T) (h : GoodIn zz_T ws) : GoodIn zz_T (w :: ws) := fun x hx => by
  rcases List.mem_cons.mp hx with rfl | hx
  · exact zz_gT _ hw
  · exact h x hx
/-- what the tables say all along: the classes, the arrays' classes, the words between nest mates -/
def zz_K (G : zz_G) (U : State) : Prop := va_K G.1 classes (zz_tys G) U ∧ (∀ w ∈ zz_nest, va_Nw w U) ∧ ∀ C ∈ zz_over, va_AO C U
theorem zz_K.warm {G : zz_G} {s U : State} (hW : s.WarmedH U.vm) (h : zz_K G s) : zz_K G U := ⟨va_K.moved hW.alike h.1, fun w hw => zz_nest_warm w hw hW (h.2.1 w hw), fun C hC => va_AO.moved hW.alike (h.2.2 C hC)⟩
theorem zz_K.same {G : zz_G} {s U : State} (e : s.vm = U.vm) (h : zz_K G s) : zz_K G U := ⟨va_K.moved (by rw [e]; exact Vm.Alike.refl _) h.1, fun w hw => va_Nw.same (zz_nest_tab w hw) e (h.2.1 w hw), fun C hC => va_AO.moved (by rw [e]; exact Vm.Alike.refl _) (h.2.2 C hC)⟩
def zz_W (G : zz_G) (A : Nat → Prop) (ad : Nat → Nat) (ce : zz_C) (sz : Nat) (H : Heap) : Prop :=
  H.size = sz ∧ (∀ (n : Nat) (x : va_E), ce n = some x → va_at G.1 classes (ad n, x) H) ∧ (∀ (i j : Nat) (x y : va_E), ce i = some x → ce j = some y → ad i = ad j → i = j) ∧ ∀ (n : Nat) (x : va_E), ce n = some x → A (ad n)
def zz_A (ad : Nat → Nat) (ce : zz_C) (sz : Nat) : Nat → Prop := fun q => (∃ (n : Nat) (x : va_E), ce n = some x ∧ ad n = q) ∨ sz ≤ q
theorem zz_W.any {G : zz_G} {A B : Nat → Prop} {ad : Nat → Nat} {ce : zz_C} {sz : Nat} {H : Heap} (h : zz_W G A ad ce sz H) (hB : ∀ q, A q → B q) : zz_W G B ad ce sz H := ⟨h.1, h.2.1, h.2.2.1, fun n x hn => hB _ (h.2.2.2 n x hn)⟩
theorem zz_W.self {G : zz_G} {A : Nat → Prop} {ad : Nat → Nat} {ce : zz_C} {sz : Nat} {H : Heap} (h : zz_W G A ad ce sz H) : zz_W G (zz_A ad ce sz) ad ce sz H := ⟨h.1, h.2.1, h.2.2.1, fun n x hn => Or.inl ⟨n, x, hn, rfl⟩⟩
theorem zz_W.one {G : zz_G} {A : Nat → Prop} {ad : Nat → Nat} {ce : zz_C} {sz : Nat} {H : Heap} (h : zz_W G A ad ce sz H) {n : Nat} {x : va_E} (hn : ce n = some x) : va_P G.1 classes [(ad n, x)] H := by
  intro k q hk
  have hz : k < 1 := (List.getElem?_eq_some_iff.mp hk).1
  rw [show k = 0 by omega] at hk
  cases hk
  exact h.2.1 n x hn
theorem zz_W.set {G : zz_G} {A : Nat → Prop} {ad : Nat → Nat} {ce : zz_C} {sz : Nat} {H H1 : Heap} (h : zz_W G A ad ce sz H) {n : Nat} {e0 e : va_E} (hn : ce n = some e0) (he : va_at G.1 classes (ad n, e) H1) (z : H1.size = H.size) (oq : ∀ q : Nat, q ≠ ad n → H1[q]? = H[q]?) : zz_W G A ad (va_up ce n (some e)) sz H1 := by
  obtain ⟨h1, h2, h3, h4⟩ := h
  have key : ∀ (k : Nat) (x : va_E), va_up ce n (some e) k = some x → ∃ x0, ce k = some x0 := by
    intro k x hk
    by_cases hkn : k = n
    · subst hkn; exact ⟨e0, hn⟩
    · simp only [va_up, if_neg hkn] at hk; exact ⟨x, hk⟩
  refine ⟨z.trans h1, fun k x hk => ?_, fun i j x y hi hj hij => ?_, fun k x hk => ?_⟩
  · by_cases hkn : k = n
    · subst hkn
      simp only [va_up, if_true] at hk
      cases hk
      exact he
    · simp only [va_up, if_neg hkn] at hk
      exact (h2 k x hk).kept (oq _ (fun q => hkn (h3 k n x e0 hk hn q)))
  · obtain ⟨x0, hx⟩ := key i x hi
    obtain ⟨y0, hy⟩ := key j y hj
    exact h3 i j x0 y0 hx hy hij
  · obtain ⟨x0, hx⟩ := key k x hk
    exact h4 k x0 hx
theorem zz_W.put {G : zz_G} {A : Nat → Prop} {ad : Nat → Nat} {ce : zz_C} {sz : Nat} {H H1 : Heap} (h : zz_W G A ad ce sz H) {n : Nat} {e0 e : va_E} (hn : ce n = some e0) (he : va_at G.1 classes (ad n, e) H1) (z : H1.size = H.size) (oq : ∀ q : Nat, q ≠ ad n → H1[q]? = H[q]?) : ∃ ce1 : zz_C, ce1 n = some e ∧ (∀ j, j ≠ n → ce1 j = ce j) ∧ zz_W G A ad ce1 sz H1 := ⟨va_up ce n (some e), by simp [va_up], fun j hj => by simp [va_up, hj], h.set hn he z oq⟩
/-- a new cell under a name that was free -/
theorem zz_W.born {G : zz_G} {A : Nat → Prop} {ad : Nat → Nat} {ce : zz_C} {sz : Nat} {H H1 : Heap} (h : zz_W G A ad ce sz H) {n : Nat} {e : va_E} (hn : ce n = none) (he : va_at G.1 classes (sz, e) H1) (z : H1.size = sz + 1) (oq : ∀ q : Nat, q < sz → H1[q]? = H[q]?) (hA : A sz) : ∃ (ad1 : Nat → Nat) (ce1 : zz_C), ad1 n = sz ∧ (∀ j, j ≠ n → ad1 j = ad j) ∧ ce1 n = some e ∧ (∀ j, j ≠ n → ce1 j = ce j) ∧ zz_W G A ad1 ce1 (sz + 1) H1 := by
  obtain ⟨h1, h2, h3, h4⟩ := h
  have lt : ∀ (k : Nat) (x : va_E), ce k = some x → ad k < sz := fun k x hk => by rw [← h1]; exact (h2 k x hk).lt
  refine ⟨va_up ad n sz, va_up ce n (some e), by simp [va_up], fun j hj => by simp [va_up, hj], by simp [va_up], fun j hj => by simp [va_up, hj], z, fun k x hk => ?_, fun i j x y hi hj hij => ?_, fun k x hk => ?_⟩
  · by_cases hkn : k = n
    · subst hkn
      simp only [va_up, if_true] at hk ⊢
      cases hk
      exact he
    · simp only [va_up, if_neg hkn] at hk ⊢
      exact (h2 k x hk).kept (oq _ (lt k x hk))
  · by_cases hi' : i = n <;> by_cases hj' : j = n
    · rw [hi', hj']
    · simp only [va_up, if_pos hi', if_neg hj'] at hij hj
      have := lt j y hj
      omega
    · simp only [va_up, if_neg hi', if_pos hj'] at hij hi
      have := lt i x hi
      omega
    · simp only [va_up, if_neg hi', if_neg hj'] at hij hi hj
      exact h3 i j x y hi hj hij
  · by_cases hkn : k = n
    · simp only [va_up, if_pos hkn]; exact hA
    · simp only [va_up, if_neg hkn] at hk ⊢
      exact h4 k x hk
def zz_R (d lc mc ms : Nat) : Room := { frames := d, cells := mc, slots := ms, locals := lc }
def zz_Pre (G : zz_G) (ad : Nat → Nat) (ce : zz_C) (sz : Nat) : State → Prop := fun U => zz_K G U ∧ zz_W G (fun _ => True) ad ce sz U.heap
def zz_Q (G : zz_G) (ad : Nat → Nat) (ce : zz_C) (sz mc : Nat) (Po : Option Value → (Nat → Nat) → zz_C → Prop) : Array Value → State → Outcome → State → Prop := fun _ st oc t => (∃ (r : Option Value) (ad1 : Nat → Nat) (ce1 : zz_C), oc = .returned r ∧ Po r ad1 ce1 ∧ zz_W G (zz_A ad ce sz) ad1 ce1 (sz + mc) t.heap) ∧ va_F (zz_A ad ce sz) st t
/-- THE CONTRACT of method y at height d (calls below it), with mc cells of ms slots made: from the world (ad, ce) it ends with Po -/
def zz_M (l : Launch) (y : MethodName) (cc : ByteArray) (maxL : Nat) (ret : Option FieldType) (d lc mc ms : Nat) (G : zz_G) (av : List Value) (ad : Nat → Nat) (ce : zz_C) (sz : Nat) (Po : Option Value → (Nat → Nat) → zz_C → Prop) : Prop :=
  Met l y (Cond.code y cc maxL ret :: zz_T) (zz_R d lc mc ms) (va_Pc av (zz_Pre G ad ce sz)) (zz_Q G ad ce sz mc Po) mc ms (zz_A ad ce sz)
theorem zz_blind {G : zz_G} {av : List Value} {ad : Nat → Nat} {ce : zz_C} {sz : Nat} : FrameBlind (va_Pc av (zz_Pre G ad ce sz)) := fun a U g mk q => ⟨q.1, zz_K.same (s := U) (U := U.calling g mk a) rfl q.2.1, q.2.2⟩
def zz_F (p : Program) (s : State) (m : MethodId) (args : Array Value) (meth : Method) (c : Code) (cc : ByteArray) (y : MethodName) (ret : Option FieldType) (nL : Nat) (G : zz_G) : Prop :=
  p.tables.exec = Jvm.exec ∧ c.code = cc ∧ meth.sig.returnType = ret ∧ c.maxLocals = nL ∧ s.vm.findClass y.cls = some m.cls ∧ (∀ w ∈ zz_T, w.before args s = true) ∧ meth.locks = false ∧ zz_K G s ∧ meth.name = y.name
theorem zz_enter {l : Launch} {y : MethodName} {cc : ByteArray} {maxL : Nat} {ret : Option FieldType} {d lc mc ms : Nat} {G : zz_G} {av : List Value} {ad : Nat → Nat} {ce : zz_C} {sz : Nat} {Po : Option Value → (Nat → Nat) → zz_C → Prop}
    (hy : plainName y.cls = true) (hn : (lg_sl av).length ≤ maxL)
    (body : ∀ (p : Program) (e : Env) (s : State) (m : MethodId) (below : List Frame) (meth : Method) (c : Code) (ls : Array Slot), zz_F p s m av.toArray meth c cc y ret maxL G → lv_has ls maxL (lv_args 0 av) → zz_W G (zz_A ad ce sz) ad ce sz s.heap → va_S (zz_A ad ce sz) s.heap s.heap [] → (∀ q, s.heap.size ≤ q → zz_A ad ce sz q) →
      W p l e (zz_R d lc mc ms) s m av.toArray below meth c s.heap [] 0 0 (MQ below (zz_Q G ad ce sz mc Po) av.toArray s mc ms (zz_A ad ce sz)) (F0 m 0 ls [])) : zz_M l y cc maxL ret d lc mc ms G av ad ce sz Po := by
  refine Met.ofW (cc := cc) (maxL := maxL) (ret := ret) hy rfl ?_
  intro p e s m args below meth c s₁ B hml hv
  obtain ⟨rfl, hK, hW⟩ := hv
  have hts := atoms_spec (ws := Cond.code y cc maxL ret :: zz_T) B.pre
  have hl := lv_entry av (n := maxL) hn
  rw [lg_entry_eq]
  generalize (lg_sl av ++ List.replicate (maxL - (lg_sl av).length) Slot.unset).toArray = ls at hl ⊢
  exact body p e s m below meth c ls ⟨B.exec, B.bytes, B.returns, hml, findClass_of_methodNamed B.named, fun w hw => hts w (List.mem_cons_of_mem _ hw), B.notSynchronized, hK, (name_of_methodNamed B.named B.method).1⟩ hl hW.self va_S.rf (fun q hq => Or.inr (by rw [← hW.1]; exact hq))
section ZZ1
variable {p : Program} {l : Launch} {e : Env} {R : Room} {s : State} {m : MethodId} {args : Array Value} {below : List Frame} {meth : Method} {c : Code} {H : Heap} {locs : List Loc} {cells slots : Nat} {Q : State → Prop}
variable {cc : ByteArray} {y : MethodName} {ret : Option FieldType} {nL pc : Nat} {ls : Array Slot} {rest : List Value} {G : zz_G} {A : Nat → Prop} {H0 : Heap} {ad : Nat → Nat} {ce : zz_C} {sz : Nat}
/-- a field's words: own class of the method, pool index, class number, place -/
def zz_fd (own : String) (index ci k : Nat) (C : String) (T : u_T) (N : Nat) (ref : String) : Prop :=
  classes[ci]? = some (C, T, N) ∧ k < N ∧ (∀ w ∈ u_ws C T N, w ∈ zz_T) ∧ Cond.fieldLink own index ref (T k).2.1 (T k).2.2.1 ∈ zz_T ∧ (ref = (T k).1 ∨ Cond.sameField ref (T k).1 (T k).2.1 (T k).2.2.1 ∈ zz_T)
theorem zz_same {own C ref : String} {T : u_T} {N index ci k : Nat} (hts : ∀ w ∈ zz_T, w.before args s = true) (hf : zz_fd own index ci k C T N ref) : ∀ x, s.fieldFound? (T k).1 (T k).2.1 (T k).2.2.1 = some x → s.fieldFound? ref (T k).2.1 (T k).2.2.1 = some x := by
  intro x hx
  rcases hf.2.2.2.2 with h | h
  · rw [h]; exact hx
  · exact u_same (hts _ h) x hx
theorem z_get {C ref : String} {T : u_T} {N ci index k : Nat} (F : zz_F p s m args meth c cc y ret nL G) (hw : zz_W G A ad ce sz H) {n : Nat} {fs : List Value} (hn : ce n = some (.inr (ci, fs))) (hf : zz_fd y.cls index ci k C T N ref) {v : Value} (hv : fs[k]? = some v) (hdg : decode cc pc = .ok (.getfield index, 3))
    (kk : W p l e R s m args below meth c H locs cells slots Q (F0 m (pc + 3) ls (v :: rest))) : W p l e R s m args below meth c H locs cells slots Q (F0 m pc ls (.ref (ad n) :: rest)) := by
  obtain ⟨hx, hb, hr, hml, hown, hts, hlocks, hK, -⟩ := F
  exact va_get hx hb hts hf.2.2.1 hown hK.1 (hw.one hn) 0 rfl hf.1 k hf.2.1 (hts _ hf.2.2.2.1) (zz_same hts hf) hv hdg kk
/-- .. and what a store asks beside: the types, the names apart, that it isn't final -/
def zz_pt (k : Nat) (T : u_T) (N : Nat) (ty0 : Nat → FieldType) : Prop :=
  (∀ j, j < N → parseFieldDescriptor (T j).2.2.1 = some (ty0 j)) ∧ (∀ a, a < N → ∀ b, b < N → a ≠ b → (T a).2.1 ≠ (T b).2.1)
theorem z_put {C ref : String} {T : u_T} {N ci index k : Nat} {ty0 : Nat → FieldType} (F : zz_F p s m args meth c cc y ret nL G) (hw : zz_W G A ad ce sz H) (hS : va_S A H0 H locs) {n : Nat} {fs fs' : List Value} (hn : ce n = some (.inr (ci, fs))) (hf : zz_fd y.cls index ci k C T N ref) (hp : zz_pt k T N ty0) (hfin : (T k).2.2.2 = false) {v : Value} (hnr : narrow (ty0 k) v = v) (hfit : fits (ty0 k) v = true) (hl : k < fs.length) (hfs : fs.set k v = fs') (hdg : decode cc pc = .ok (.putfield index, 3))
    (kk : ∀ (ce1 : zz_C) (H1 : Heap) (locs1 : List Loc), ce1 n = some (.inr (ci, fs')) → (∀ j, j ≠ n → ce1 j = ce j) → zz_W G A ad ce1 sz H1 → va_S A H0 H1 locs1 → W p l e R s m args below meth c H1 locs1 cells slots Q (F0 m (pc + 3) ls rest)) : W p l e R s m args below meth c H locs cells slots Q (F0 m pc ls (v :: .ref (ad n) :: rest)) := by
  obtain ⟨hx, hb, hr, hml, hown, hts, hlocks, hK, -⟩ := F
  subst hfs
  have hap := va_apart (own := y.cls) hts hf.2.2.1 ty0 hp.1 hp.2 hK.1 hf.1
  obtain ⟨r, h1, cell, q1, q2, q3, q4⟩ := hw.2.1 n _ hn
  have hr : r = (C, T, N) := Option.some.inj (h1.symm.trans hf.1)
  subst hr
  have hk := hf.2.1
  obtain ⟨hSl, hfc, kC, hkC, hkind⟩ := hK.1.1 ci _ hf.1
  obtain ⟨cf, kf, fi, f, hi, hsl⟩ := hSl k hk
  have hlay := hts _ (hf.2.2.1 _ (u_in_lay hk))
  unfold u_lay at hlay
  rw [if_neg (by rw [hfin]; decide)] at hlay
  have hst := (u_facts hfc hkC (u_lays hts hf.2.2.1 hk) hi).1
  have h6 := u_store hfc hkC hkind hlay hi (hp.1 k hk) hnr hfit
  refine W.putK hx hb (f := f) ⟨hown, hts _ hf.2.2.2.1, ⟨_, _, _, zz_same hts hf _ hi⟩, hst⟩ (by rw [q2]; exact h6) q1 q3 (by rw [hsl]; exact k2_hasslot (q4 k hk)) rfl rfl hdg fun H' e1 e2 e3 => ?_
  rw [hsl] at e1 ⊢
  have he : va_at G.1 classes (ad n, .inr (ci, fs.set k v)) H' := ⟨_, hf.1, t_OB.to (V := updV (vp_V fs) k v) ⟨_, e1, q2, q3, t_set q4 hap hk v⟩ (fun j _ => vp_updV_set hl v j)⟩
  obtain ⟨ce1, g1, g2, g3⟩ := hw.put hn he e2 e3
  exact kk ce1 H' _ g1 g2 g3 (hS.put e2 e3 (hw.2.2.2 n _ hn))
theorem z_putF {C ref : String} {T : u_T} {N ci index k : Nat} {ty0 : Nat → FieldType} (F : zz_F p s m args meth c cc y ret nL G) (hin2 : y.name = "<init>") (hw : zz_W G A ad ce sz H) (hS : va_S A H0 H locs) {n : Nat} {fs fs' : List Value} (hn : ce n = some (.inr (ci, fs))) (hf : zz_fd y.cls index ci k C T N ref) (hp : zz_pt k T N ty0) (hfin : (T k).2.2.2 = true) (hdecl : (T k).1 = y.cls) {v : Value} (hnr : narrow (ty0 k) v = v) (hfit : fits (ty0 k) v = true) (hl : k < fs.length) (hfs : fs.set k v = fs') (hdg : decode cc pc = .ok (.putfield index, 3))
    (kk : ∀ (ce1 : zz_C) (H1 : Heap) (locs1 : List Loc), ce1 n = some (.inr (ci, fs')) → (∀ j, j ≠ n → ce1 j = ce j) → zz_W G A ad ce1 sz H1 → va_S A H0 H1 locs1 → W p l e R s m args below meth c H1 locs1 cells slots Q (F0 m (pc + 3) ls rest)) : W p l e R s m args below meth c H locs cells slots Q (F0 m pc ls (v :: .ref (ad n) :: rest)) := by
  obtain ⟨hx, hb, hr, hml, hown, hts, hlocks, hK, hnm⟩ := F
  subst hfs
  have hap := va_apart (own := y.cls) hts hf.2.2.1 ty0 hp.1 hp.2 hK.1 hf.1
  obtain ⟨r, h1, cell, q1, q2, q3, q4⟩ := hw.2.1 n _ hn
  have hr : r = (C, T, N) := Option.some.inj (h1.symm.trans hf.1)
  subst hr
  have hk := hf.2.1
  obtain ⟨hSl, hfc, kC, hkC, hkind⟩ := hK.1.1 ci _ hf.1
  obtain ⟨cf, kf, fi, f, hi, hsl⟩ := hSl k hk
  have hlay := hts _ (hf.2.2.1 _ (u_in_lay hk))
  unfold u_lay at hlay
  rw [if_pos hfin] at hlay
  have hst := (u_facts hfc hkC (u_lays hts hf.2.2.1 hk) hi).1
  have hcf : m.cls = cf := by
    obtain ⟨_, _, c', _, _, _, -, -, hf', -, -, -, hown2, -⟩ := Cond.laysFinal_spec hlay
    have e1 : c' = cf := by have := hi.symm.trans hf'; simp at this; exact this.1.symm
    rw [hdecl] at hown2
    rw [← e1]; exact Option.some.inj (hown.symm.trans hown2)
  have h6 := u_fits hfc hkC hkind (Or.inr hlay) hi (hp.1 k hk) hnr hfit
  refine W.putFinK hx hb hown (hts _ hf.2.2.2.1) (zz_same hts hf _ hi) hst hcf (hnm.trans hin2) (by rw [q2]; exact h6) q1 q3 (by rw [hsl]; exact k2_hasslot (q4 k hk)) rfl rfl hdg fun H' e1 e2 e3 => ?_
  rw [hsl] at e1 ⊢
  have he : va_at G.1 classes (ad n, .inr (ci, fs.set k v)) H' := ⟨_, hf.1, t_OB.to (V := updV (vp_V fs) k v) ⟨_, e1, q2, q3, t_set q4 hap hk v⟩ (fun j _ => vp_updV_set hl v j)⟩
  obtain ⟨ce1, g1, g2, g3⟩ := hw.put hn he e2 e3
  exact kk ce1 H' _ g1 g2 g3 (hS.put e2 e3 (hw.2.2.2 n _ hn))
theorem z_iald (F : zz_F p s m args meth c cc y ret nL G) (hw : zz_W G A ad ce sz H) {n N : Nat} {f : Nat → Int32} (hn : ce n = some (.inl (zz_cI G, N, .inl f))) {i : Int32} (hin : vp_in i N) (hdg : decode cc pc = .ok (.iaload, 1))
    (kk : W p l e R s m args below meth c H locs cells slots Q (F0 m (pc + 1) ls (.int (f i.toNatClampNeg) :: rest))) : W p l e R s m args below meth c H locs cells slots Q (F0 m pc ls (.int i :: .ref (ad n) :: rest)) := by
  obtain ⟨hx, hb, hr, hml, hown, hts, hlocks, hK, -⟩ := F
  exact va_iald hx hb hK.1 (hw.one hn) 0 0 rfl rfl hin hdg kk
theorem z_iast (F : zz_F p s m args meth c cc y ret nL G) (hw : zz_W G A ad ce sz H) (hS : va_S A H0 H locs) {n N : Nat} {f : Nat → Int32} (hn : ce n = some (.inl (zz_cI G, N, .inl f))) {i x : Int32} (hin : vp_in i N) (hdg : decode cc pc = .ok (.iastore, 1))
    (kk : ∀ (ce1 : zz_C) (H1 : Heap) (locs1 : List Loc), ce1 n = some (.inl (zz_cI G, N, .inl (upd f i.toNatClampNeg x))) → (∀ j, j ≠ n → ce1 j = ce j) → zz_W G A ad ce1 sz H1 → va_S A H0 H1 locs1 → W p l e R s m args below meth c H1 locs1 cells slots Q (F0 m (pc + 1) ls rest)) : W p l e R s m args below meth c H locs cells slots Q (F0 m pc ls (.int x :: .int i :: .ref (ad n) :: rest)) := by
  obtain ⟨hx, hb, hr, hml, hown, hts, hlocks, hK, -⟩ := F
  refine W.iast hx hb (hw.2.1 n _ hn) ((hK.1.2 0 (zz_cI G, .int) rfl).1 N (fun j => .int (f j))) (fun q => by cases q) (by show ¬ (i < 0 ∨ (arrV _ _ _).slots.size ≤ _); rw [arrV_size]; exact hin) rfl rfl hdg fun H1 e1 z oq => ?_
  have he : va_at G.1 classes (ad n, .inl (zz_cI G, N, .inl (upd f i.toNatClampNeg x))) H1 := by
    show H1[ad n]? = some (vp_cell _ _)
    rw [e1]
    show some ((vp_cell _ _).setSlot _ _) = _
    rw [vp_cell_i, vp_cell_i, arrV_store]
    congr 2
    funext q
    by_cases hq : q = i.toNatClampNeg
    · subst hq
      simp [updV, upd]
    · simp [updV, upd, hq]
  obtain ⟨ce1, g1, g2, g3⟩ := hw.put hn he z oq
  exact kk ce1 H1 _ g1 g2 g3 (hS.put z oq (hw.2.2.2 n _ hn))
theorem z_alen (F : zz_F p s m args meth c cc y ret nL G) (hw : zz_W G A ad ce sz H) {n N : Nat} {f : Nat → Int32} (hn : ce n = some (.inl (zz_cI G, N, .inl f))) {v : Int32} (hv : Int32.ofNat N = v) (hdg : decode cc pc = .ok (.arraylength, 1))
    (kk : W p l e R s m args below meth c H locs cells slots Q (F0 m (pc + 1) ls (.int v :: rest))) : W p l e R s m args below meth c H locs cells slots Q (F0 m pc ls (.ref (ad n) :: rest)) := by
  obtain ⟨hx, hb, hr, hml, hown, hts, hlocks, hK, -⟩ := F
  exact va_alen hx hb hK.1 (hw.one hn) 0 0 rfl (ty := .int) rfl hv hdg kk
/-- a call, whatever its kind: what va_run.. gives, and the world behind it -/
theorem z_call {mc ms : Nat} {st0 : List Value} {a : Array Value} {Po : Option Value → (Nat → Nat) → zz_C → Prop} (hr : va_Run p l e R s m args below meth c H locs cells slots mc ms (F0 m pc ls st0) rest (zz_Q G ad ce sz mc Po a) (zz_A ad ce sz)) (hw : zz_W G A ad ce sz H) (hA : ∀ q, H0.size ≤ q → A q) (hS : va_S A H0 H locs)
    (kk : ∀ (r : Option Value) (ad1 : Nat → Nat) (ce1 : zz_C) (H1 : Heap) (locs1 : List Loc), Po r ad1 ce1 → zz_W G A ad1 ce1 (sz + mc) H1 → va_S A H0 H1 locs1 → W p l e R s m args below meth c H1 locs1 (cells + mc) (slots + ms) Q (F0 m (pc + 3) ls (r.toList ++ rest))) : W p l e R s m args below meth c H locs cells slots Q (F0 m pc ls st0) := by
  have hsub : ∀ q, zz_A ad ce sz q → A q := by
    intro q hq
    rcases hq with ⟨n, x, h1, h2⟩ | h
    · rw [← h2]; exact hw.2.2.2 n x h1
    · exact hA q (Nat.le_trans hS.1 (by rw [hw.1]; exact h))
  intro T hT X
  obtain ⟨v, st₀, t, T', L, h0, X', hL, e1, e2, ⟨⟨r, ad1, ce1, hv, hp, hb⟩, hz, hk⟩, st⟩ := hr T hT X
  cases hv
  rw [h0] at hz hk
  obtain ⟨t2, a1, b1⟩ := kk v ad1 ce1 T'.heap (locs ++ L) hp (by rw [e1]; exact hb.any hsub)
    ⟨Nat.le_trans hS.1 (by rw [e1]; exact hz), fun q h1 h2 => by rw [e1, hk q (Nat.lt_of_lt_of_le h1 hS.1) (fun z => h2 (hsub q z))]; exact hS.2.1 q h1 h2, fun q hq => by
      rcases List.mem_append.mp hq with h | h
      · exact hS.2.2 q h
      · exact hsub _ (hL q h)⟩ T' rfl X'
  exact ⟨t2, st t2 a1, b1⟩
/-- ends -/
theorem z_iret {mc ms : Nat} {ad0 : Nat → Nat} {ce0 : zz_C} {sz0 : Nat} {Po : Option Value → (Nat → Nat) → zz_C → Prop} {ty : FieldType} {v : Int32} (F : zz_F p s m args meth c cc y (some ty) nL G) (hn : narrow ty (.int v) = .int v) (hw : zz_W G (zz_A ad0 ce0 sz0) ad ce (sz0 + mc) H) (hS : va_S (zz_A ad0 ce0 sz0) s.heap H locs) (hp : Po (some (.int v)) ad ce) (hdg : decode cc pc = .ok (.ireturn, 1)) :
    W p l e R s m args below meth c H locs mc ms (MQ below (zz_Q G ad0 ce0 sz0 mc Po) args s mc ms (zz_A ad0 ce0 sz0)) (F0 m pc ls [.int v]) := by
  obtain ⟨hx, hb, hr, hml, hown, hts, hlocks, hK, -⟩ := F
  exact W.zret hx hb hr hn (fun t ht hW => ⟨⟨_, ad, ce, rfl, hp, by rw [ht]; exact hw⟩, hS.F ht⟩) hS.2.2 hdg hlocks
theorem z_vret {mc ms : Nat} {ad0 : Nat → Nat} {ce0 : zz_C} {sz0 : Nat} {Po : Option Value → (Nat → Nat) → zz_C → Prop} (F : zz_F p s m args meth c cc y none nL G) (hw : zz_W G (zz_A ad0 ce0 sz0) ad ce (sz0 + mc) H) (hS : va_S (zz_A ad0 ce0 sz0) s.heap H locs) (hp : Po none ad ce) (hdg : decode cc pc = .ok (.return_, 1)) :
    W p l e R s m args below meth c H locs mc ms (MQ below (zz_Q G ad0 ce0 sz0 mc Po) args s mc ms (zz_A ad0 ce0 sz0)) (F0 m pc ls []) := by
  obtain ⟨hx, hb, hr, hml, hown, hts, hlocks, hK, -⟩ := F
  exact W.vret hx hb hr (fun t ht hW => ⟨⟨_, ad, ce, rfl, hp, by rw [ht]; exact hw⟩, hS.F ht⟩) hS.2.2 hdg hlocks
theorem z_aret {mc ms : Nat} {ad0 : Nat → Nat} {ce0 : zz_C} {sz0 : Nat} {Po : Option Value → (Nat → Nat) → zz_C → Prop} {C : String} {v : Value} (F : zz_F p s m args meth c cc y (some (.object C)) nL G) (hv : v = .null ∨ ∃ a, v = .ref a) (hw : zz_W G (zz_A ad0 ce0 sz0) ad ce (sz0 + mc) H) (hS : va_S (zz_A ad0 ce0 sz0) s.heap H locs) (hp : Po (some v) ad ce) (hdg : decode cc pc = .ok (.areturn, 1)) :
    W p l e R s m args below meth c H locs mc ms (MQ below (zz_Q G ad0 ce0 sz0 mc Po) args s mc ms (zz_A ad0 ce0 sz0)) (F0 m pc ls [v]) := by
  obtain ⟨hx, hb, hr, hml, hown, hts, hlocks, hK, -⟩ := F
  exact W.aret hx hb hr (Or.inl ⟨C, rfl⟩) hv (fun t ht hW => ⟨⟨_, ad, ce, rfl, hp, by rw [ht]; exact hw⟩, hS.F ht⟩) hS.2.2 hdg hlocks
end ZZ1
end
section
section ZZ2
variable {p : Program} {l : Launch} {e : Env} {R : Room} {s : State} {m : MethodId} {args : Array Value} {below : List Frame} {meth : Method} {c : Code} {H : Heap} {locs : List Loc} {cells slots : Nat} {Q : State → Prop}
variable {cc : ByteArray} {y : MethodName} {ret : Option FieldType} {nL pc : Nat} {ls : Array Slot} {rest st0 As : List Value} {G : zz_G} {A : Nat → Prop} {H0 : Heap} {ad : Nat → Nat} {ce : zz_C} {sz : Nat}
variable {own C : String} {T : u_T} {N ci index : Nat} {x z : MethodName} {bx : ByteArray} {mL : Nat} {rt : Option FieldType} {d lc mc ms n : Nat} {Po : Option Value → (Nat → Nat) → zz_C → Prop} {lv : List (Nat × Value)}
abbrev zz_nh (o : String) : Prop := o ≠ "java/lang/invoke/MethodHandle" ∧ o ≠ "java/lang/invoke/VarHandle"
abbrev zz_pn (x : MethodName) (n : Nat) : Prop := (parseMethodDescriptor x.desc).map (fun d => d.parameters.length) = some n
theorem zz_len (h : zz_pn x n) : ∀ sig, parseMethodDescriptor x.desc = some sig → n = sig.parameters.length := fun sig hs => by
  have h2 := h
  rw [zz_pn, hs] at h2
  exact (Option.some.inj h2).symm
theorem zz_pre (hK : zz_K G s) (hw : zz_W G A ad ce sz H) {av : List Value} : ∀ U : State, U.heap = H → s.WarmedH U.vm → va_Pc av (zz_Pre G ad ce sz) av.toArray U := fun U hU hW => ⟨rfl, hK.warm hW, by rw [hU]; exact hw.any (fun _ _ => trivial)⟩
theorem zz_recv (hK : zz_K G s) (hw : zz_W G A ad ce sz H) {q : Nat} {fs : List Value} (hq : ce q = some (.inr (ci, fs))) (hc : classes[ci]? = some (C, T, N)) : ∃ cell : Cell, H[ad q]? = some cell ∧ cell.vm.isStatics = false ∧ s.vm.findClass C = some cell.cls := va_recv hK.1 (hw.one hq) hc (q0 := 0) rfl
/-- a method of its own class's name, on a receiver of that class -/
def zz_yv (own : String) (index : Nat) (x : MethodName) (bx : ByteArray) (mL : Nat) (rt : Option FieldType) (n : Nat) : Prop :=
  Cond.methodLink own index x ∈ zz_T ∧ Cond.instanceMethod x ∈ zz_T ∧ Cond.selects x.cls x x ∈ zz_T ∧ Cond.initialized x.cls ∈ zz_T ∧ Cond.code x bx mL rt ∈ zz_T ∧ zz_nh x.cls ∧ zz_pn x n
theorem z_invV (F : zz_F p s m args meth c cc y ret nL G) {q : Nat} (hM : zz_M l x bx mL rt d lc mc ms G (.ref (ad q) :: As) ad ce sz Po) (hY : zz_yv y.cls index x bx mL rt n) (hR : d + 1 ≤ R.frames ∧ 8 + (mL + 11) + lc ≤ R.locals) (hw : zz_W G A ad ce sz H) (hA : ∀ q, H0.size ≤ q → A q) (hS : va_S A H0 H locs) (hl : lv_has ls nL lv) {fs : List Value} (hq : ce q = some (.inr (ci, fs))) (hci : classes[ci]? = some (x.cls, T, N)) (hn : As.length = n) (hst : st0 = As.reverse ++ .ref (ad q) :: rest) (hrm : (rest.map fun v => v.category).sum ≤ 8) (hdg : decode cc pc = .ok (.invokevirtual index, 3)) (hf : cells + mc ≤ R.cells ∧ slots + ms ≤ R.slots)
    (kk : ∀ (r : Option Value) (ad1 : Nat → Nat) (ce1 : zz_C) (H1 : Heap) (locs1 : List Loc), Po r ad1 ce1 → zz_W G A ad1 ce1 (sz + mc) H1 → va_S A H0 H1 locs1 → W p l e R s m args below meth c H1 locs1 (cells + mc) (slots + ms) Q (F0 m (pc + 3) ls (r.toList ++ rest))) : W p l e R s m args below meth c H locs cells slots Q (F0 m pc ls st0) := by
  obtain ⟨hx, hb, hr, hml, hown, hts, hlocks, hK, -⟩ := F
  obtain ⟨y1, y2, y3, y4, y5, y6, y7⟩ := hY
  subst hst
  exact z_call (va_runV (As := As) (rest := rest) (Ts := zz_T) (own := y.cls) ⟨hx, hb, hml, hown, hts⟩ hM ⟨⟨rfl, rfl, hR.1, hR.2, pay_in hts (zz_gC y5 zz_gT), List.mem_cons_self, hts _ y5, hts _ y4, y6, zz_len y7, hts _ y1⟩, hts _ y2, hts _ y3⟩ ⟨zz_blind, zz_recv hK hw hq hci, zz_pre hK hw⟩ rfl hn hl.1 rfl (lv_room hrm) hdg hf) hw hA hS kk
/-- a private method of a nest mate -/
def zz_yn (own : String) (index : Nat) (host : String) (x : MethodName) (bx : ByteArray) (mL : Nat) (rt : Option FieldType) (n : Nat) : Prop :=
  Cond.methodLinkNest own index x host ∈ zz_nest ∧ Cond.instanceMethod x ∈ zz_T ∧ Cond.selects x.cls x x ∈ zz_T ∧ Cond.initialized x.cls ∈ zz_T ∧ Cond.code x bx mL rt ∈ zz_T ∧ zz_nh x.cls ∧ zz_pn x n
theorem z_invN {host : String} (F : zz_F p s m args meth c cc y ret nL G) {q : Nat} (hM : zz_M l x bx mL rt d lc mc ms G (.ref (ad q) :: As) ad ce sz Po) (hY : zz_yn y.cls index host x bx mL rt n) (hR : d + 1 ≤ R.frames ∧ 8 + (mL + 11) + lc ≤ R.locals) (hw : zz_W G A ad ce sz H) (hA : ∀ q, H0.size ≤ q → A q) (hS : va_S A H0 H locs) (hl : lv_has ls nL lv) {fs : List Value} (hq : ce q = some (.inr (ci, fs))) (hci : classes[ci]? = some (x.cls, T, N)) (hn : As.length = n) (hst : st0 = As.reverse ++ .ref (ad q) :: rest) (hrm : (rest.map fun v => v.category).sum ≤ 8) (hdg : decode cc pc = .ok (.invokevirtual index, 3)) (hf : cells + mc ≤ R.cells ∧ slots + ms ≤ R.slots)
    (kk : ∀ (r : Option Value) (ad1 : Nat → Nat) (ce1 : zz_C) (H1 : Heap) (locs1 : List Loc), Po r ad1 ce1 → zz_W G A ad1 ce1 (sz + mc) H1 → va_S A H0 H1 locs1 → W p l e R s m args below meth c H1 locs1 (cells + mc) (slots + ms) Q (F0 m (pc + 3) ls (r.toList ++ rest))) : W p l e R s m args below meth c H locs cells slots Q (F0 m pc ls st0) := by
  obtain ⟨hx, hb, hr, hml, hown, hts, hlocks, hK, -⟩ := F
  obtain ⟨y1, y2, y3, y4, y5, y6, y7⟩ := hY
  subst hst
  exact z_call (va_runVN (As := As) (rest := rest) (Ts := zz_T) (own := y.cls) (host := host) ⟨hx, hb, hml, hown, hts⟩ hM ⟨⟨⟨rfl, rfl, hR.1, hR.2, pay_in hts (zz_gC y5 zz_gT), List.mem_cons_self⟩, hts _ y5, hts _ y4, y6, zz_len y7, va_Nw.use rfl (hK.2.1 _ y1)⟩, hts _ y2, hts _ y3⟩ ⟨zz_blind, zz_recv hK hw hq hci, zz_pre hK hw⟩ rfl hn hl.1 rfl (lv_room hrm) hdg hf) hw hA hS kk
/-- a method that the reference names through a class above or below: the receiver's class C selects z -/
def zz_yu (own : String) (index : Nat) (C owner : String) (x z : MethodName) (bx : ByteArray) (mL : Nat) (rt : Option FieldType) (n : Nat) : Prop :=
  Cond.methodLink own index x ∈ zz_T ∧ Cond.sameMethod x.cls owner x.name x.desc ∈ zz_T ∧ Cond.selects C x z ∈ zz_T ∧ Cond.instanceMethod z ∈ zz_T ∧ Cond.initialized z.cls ∈ zz_T ∧ Cond.code z bx mL rt ∈ zz_T ∧ zz_nh owner ∧ zz_pn x n ∧ (z = ⟨owner, x.name, x.desc⟩ ∨ Cond.declares ⟨owner, x.name, x.desc⟩ ∈ zz_nest)
theorem z_invU {owner : String} (F : zz_F p s m args meth c cc y ret nL G) {q : Nat} (hM : zz_M l z bx mL rt d lc mc ms G (.ref (ad q) :: As) ad ce sz Po) (hY : zz_yu y.cls index C owner x z bx mL rt n) (hR : d + 1 ≤ R.frames ∧ 8 + (mL + 11) + lc ≤ R.locals) (hw : zz_W G A ad ce sz H) (hA : ∀ q, H0.size ≤ q → A q) (hS : va_S A H0 H locs) (hl : lv_has ls nL lv) {fs : List Value} (hq : ce q = some (.inr (ci, fs))) (hci : classes[ci]? = some (C, T, N)) (hn : As.length = n) (hst : st0 = As.reverse ++ .ref (ad q) :: rest) (hrm : (rest.map fun v => v.category).sum ≤ 8) (hdg : decode cc pc = .ok (.invokevirtual index, 3)) (hf : cells + mc ≤ R.cells ∧ slots + ms ≤ R.slots)
    (kk : ∀ (r : Option Value) (ad1 : Nat → Nat) (ce1 : zz_C) (H1 : Heap) (locs1 : List Loc), Po r ad1 ce1 → zz_W G A ad1 ce1 (sz + mc) H1 → va_S A H0 H1 locs1 → W p l e R s m args below meth c H1 locs1 (cells + mc) (slots + ms) Q (F0 m (pc + 3) ls (r.toList ++ rest))) : W p l e R s m args below meth c H locs cells slots Q (F0 m pc ls st0) := by
  obtain ⟨hx, hb, hr, hml, hown, hts, hlocks, hK, -⟩ := F
  obtain ⟨y1, y2, y3, y4, y5, y6, y7, y8, y9⟩ := hY
  subst hst
  have hdecl : va_Decl s ⟨owner, x.name, x.desc⟩ := by
    rcases y9 with h | h
    · rw [← h]; exact va_Decl.of (hts _ y4) (hts _ y6)
    · exact va_Decl.abs (hK.2.1 _ h)
  exact z_call (va_runU (As := As) (rest := rest) (Ts := zz_T) (own := y.cls) (C := C) (owner := owner) ⟨hx, hb, hml, hown, hts⟩ hM ⟨⟨rfl, rfl, hR.1, hR.2, pay_in hts (zz_gC y6 zz_gT), List.mem_cons_self⟩, hts _ y6, hts _ y5, y7, zz_len y8, hts _ y1, hts _ y2, hdecl, hts _ y3, hts _ y4⟩ ⟨zz_blind, zz_recv hK hw hq hci, zz_pre hK hw⟩ rfl hn hl.1 rfl (lv_room hrm) hdg hf) hw hA hS kk
/-- a static method -/
def zz_ys (own : String) (index : Nat) (x : MethodName) (bx : ByteArray) (mL : Nat) (rt : Option FieldType) (n : Nat) : Prop :=
  Cond.methodLink own index x ∈ zz_T ∧ Cond.static x ∈ zz_T ∧ Cond.initialized x.cls ∈ zz_T ∧ Cond.code x bx mL rt ∈ zz_T ∧ zz_nh x.cls ∧ zz_pn x n
theorem z_invS (F : zz_F p s m args meth c cc y ret nL G) (hM : zz_M l x bx mL rt d lc mc ms G As ad ce sz Po) (hY : zz_ys y.cls index x bx mL rt n) (hR : d + 1 ≤ R.frames ∧ 8 + (mL + 11) + lc ≤ R.locals) (hw : zz_W G A ad ce sz H) (hA : ∀ q, H0.size ≤ q → A q) (hS : va_S A H0 H locs) (hl : lv_has ls nL lv) (hn : As.length = n) (hst : st0 = As.reverse ++ rest) (hrm : (rest.map fun v => v.category).sum ≤ 8) (hdg : decode cc pc = .ok (.invokestatic index, 3)) (hf : cells + mc ≤ R.cells ∧ slots + ms ≤ R.slots)
    (kk : ∀ (r : Option Value) (ad1 : Nat → Nat) (ce1 : zz_C) (H1 : Heap) (locs1 : List Loc), Po r ad1 ce1 → zz_W G A ad1 ce1 (sz + mc) H1 → va_S A H0 H1 locs1 → W p l e R s m args below meth c H1 locs1 (cells + mc) (slots + ms) Q (F0 m (pc + 3) ls (r.toList ++ rest))) : W p l e R s m args below meth c H locs cells slots Q (F0 m pc ls st0) := by
  obtain ⟨hx, hb, hr, hml, hown, hts, hlocks, hK, -⟩ := F
  obtain ⟨y1, y2, y3, y4, y5, y6⟩ := hY
  subst hst
  exact z_call (va_runS (As := As) (rest := rest) (Ts := zz_T) (own := y.cls) ⟨hx, hb, hml, hown, hts⟩ hM ⟨⟨rfl, rfl, hR.1, hR.2, pay_in hts (zz_gC y4 zz_gT), List.mem_cons_self, hts _ y4, hts _ y3, y5, zz_len y6, hts _ y1⟩, hts _ y2⟩ ⟨zz_blind, zz_pre hK hw⟩ rfl hn hl.1 rfl (lv_room hrm) hdg hf) hw hA hS kk
/-- a constructor -/
def zz_yi (own : String) (index : Nat) (x : MethodName) (bx : ByteArray) (mL : Nat) (n : Nat) : Prop :=
  Cond.methodLink own index x ∈ zz_T ∧ Cond.instanceMethod x ∈ zz_T ∧ Cond.initialized x.cls ∈ zz_T ∧ Cond.code x bx mL none ∈ zz_T ∧ zz_nh x.cls ∧ zz_pn x n ∧ x.name = "<init>"
theorem z_invI (F : zz_F p s m args meth c cc y ret nL G) {b : Nat} (hM : zz_M l x bx mL none d lc mc ms G (.ref b :: As) ad ce sz Po) (hY : zz_yi y.cls index x bx mL n) (hR : d + 1 ≤ R.frames ∧ 8 + (mL + 11) + lc ≤ R.locals) (hw : zz_W G A ad ce sz H) (hA : ∀ q, H0.size ≤ q → A q) (hS : va_S A H0 H locs) (hl : lv_has ls nL lv) (hn : As.length = n) (hst : st0 = As.reverse ++ .ref b :: rest) (hrm : (rest.map fun v => v.category).sum ≤ 8) (hdg : decode cc pc = .ok (.invokespecial index, 3)) (hf : cells + mc ≤ R.cells ∧ slots + ms ≤ R.slots)
    (kk : ∀ (r : Option Value) (ad1 : Nat → Nat) (ce1 : zz_C) (H1 : Heap) (locs1 : List Loc), Po r ad1 ce1 → zz_W G A ad1 ce1 (sz + mc) H1 → va_S A H0 H1 locs1 → W p l e R s m args below meth c H1 locs1 (cells + mc) (slots + ms) Q (F0 m (pc + 3) ls (r.toList ++ rest))) : W p l e R s m args below meth c H locs cells slots Q (F0 m pc ls st0) := by
  obtain ⟨hx, hb, hr, hml, hown, hts, hlocks, hK, -⟩ := F
  obtain ⟨y1, y2, y3, y4, y5, y6, y7⟩ := hY
  subst hst
  exact z_call (va_runI (As := As) (rest := rest) (Ts := zz_T) (own := y.cls) ⟨hx, hb, hml, hown, hts⟩ hM ⟨⟨rfl, rfl, hR.1, hR.2, pay_in hts (zz_gC y4 zz_gT), List.mem_cons_self, hts _ y4, hts _ y3, y5, zz_len y6, hts _ y1⟩, y7, hts _ y2⟩ ⟨zz_blind, zz_pre hK hw⟩ rfl hn hl.1 rfl (lv_room hrm) hdg hf) hw hA hS kk
end ZZ2
end
section
section ZZ3
variable {p : Program} {l : Launch} {e : Env} {R : Room} {s : State} {m : MethodId} {args : Array Value} {below : List Frame} {meth : Method} {c : Code} {H : Heap} {locs : List Loc} {cells slots : Nat} {Q : State → Prop}
variable {cc : ByteArray} {y : MethodName} {ret : Option FieldType} {nL pc : Nat} {ls : Array Slot} {rest st0 : List Value} {G : zz_G} {A : Nat → Prop} {H0 : Heap} {ad : Nat → Nat} {ce : zz_C} {sz : Nat}
/-- the int on top under another name -/
theorem z_top {x : Int32} (y : Int32) (h : x = y) (kk : W p l e R s m args below meth c H locs cells slots Q (F0 m pc ls (.int y :: rest))) : W p l e R s m args below meth c H locs cells slots Q (F0 m pc ls (.int x :: rest)) := by
  subst h; exact kk
theorem z_ld (F : zz_F p s m args meth c cc y ret nL G) (hw : zz_W G A ad ce sz H) {n N : Nat} {f : Nat → Int32} (hn : ce n = some (.inl (zz_cI G, N, .inl f))) {i : Int32} (k : Nat) (hi : i = nI k) (hk : k < N) (hN : N < 2 ^ 31) (hdg : decode cc pc = .ok (.iaload, 1))
    (kk : W p l e R s m args below meth c H locs cells slots Q (F0 m (pc + 1) ls (.int (f k) :: rest))) : W p l e R s m args below meth c H locs cells slots Q (F0 m pc ls (.int i :: .ref (ad n) :: rest)) := by
  subst hi
  refine z_iald F hw hn (vp_in_nI hk hN) hdg ?_
  rw [nI_clamp (Nat.lt_trans hk hN)]
  exact kk
theorem z_st (F : zz_F p s m args meth c cc y ret nL G) (hw : zz_W G A ad ce sz H) (hS : va_S A H0 H locs) {n N : Nat} {f : Nat → Int32} (hn : ce n = some (.inl (zz_cI G, N, .inl f))) {i x : Int32} (k : Nat) (hi : i = nI k) (hk : k < N) (hN : N < 2 ^ 31) (hdg : decode cc pc = .ok (.iastore, 1))
    (kk : ∀ (ce1 : zz_C) (H1 : Heap) (locs1 : List Loc), ce1 n = some (.inl (zz_cI G, N, .inl (upd f k x))) → (∀ j, j ≠ n → ce1 j = ce j) → zz_W G A ad ce1 sz H1 → va_S A H0 H1 locs1 → W p l e R s m args below meth c H1 locs1 cells slots Q (F0 m (pc + 1) ls rest)) : W p l e R s m args below meth c H locs cells slots Q (F0 m pc ls (.int x :: .int i :: .ref (ad n) :: rest)) := by
  subst hi
  refine z_iast F hw hS hn (vp_in_nI hk hN) hdg ?_
  rw [nI_clamp (Nat.lt_trans hk hN)]
  exact kk
theorem z_zld (F : zz_F p s m args meth c cc y ret nL G) (hw : zz_W G A ad ce sz H) {n N : Nat} {f : Nat → Int32} (hn : ce n = some (.inl (zz_cZ G, N, .inl f))) {i : Int32} (k : Nat) (hi : i = nI k) (hk : k < N) (hN : N < 2 ^ 31) (hdg : decode cc pc = .ok (.baload, 1))
    (kk : W p l e R s m args below meth c H locs cells slots Q (F0 m (pc + 1) ls (.int (f k) :: rest))) : W p l e R s m args below meth c H locs cells slots Q (F0 m pc ls (.int i :: .ref (ad n) :: rest)) := by
  obtain ⟨hx, hb, hr, hml, hown, hts, hlocks, hK, -⟩ := F
  subst hi
  refine va_zald hx hb hK.1 (hw.one hn) 0 1 rfl rfl (vp_in_nI hk hN) hdg ?_
  rw [nI_clamp (Nat.lt_trans hk hN)]
  exact kk
theorem z_zst (F : zz_F p s m args meth c cc y ret nL G) (hw : zz_W G A ad ce sz H) (hS : va_S A H0 H locs) {n N : Nat} {f : Nat → Int32} (hn : ce n = some (.inl (zz_cZ G, N, .inl f))) {i x : Int32} (k : Nat) (hi : i = nI k) (hk : k < N) (hN : N < 2 ^ 31) (hx1 : vp_nar .boolean x = x) (hdg : decode cc pc = .ok (.bastore, 1))
    (kk : ∀ (ce1 : zz_C) (H1 : Heap) (locs1 : List Loc), ce1 n = some (.inl (zz_cZ G, N, .inl (upd f k x))) → (∀ j, j ≠ n → ce1 j = ce j) → zz_W G A ad ce1 sz H1 → va_S A H0 H1 locs1 → W p l e R s m args below meth c H1 locs1 cells slots Q (F0 m (pc + 1) ls rest)) : W p l e R s m args below meth c H locs cells slots Q (F0 m pc ls (.int x :: .int i :: .ref (ad n) :: rest)) := by
  obtain ⟨hx, hb, hr, hml, hown, hts, hlocks, hK, -⟩ := F
  subst hi
  have hin := vp_in_nI hk hN
  have hcl := nI_clamp (Nat.lt_trans hk hN)
  refine W.zast hx hb (hw.2.1 n _ hn) ((hK.1.2 1 (zz_cZ G, .boolean) rfl).1 N (fun j => .int (f j))) (fun q => by cases q) (by show ¬ (nI k < 0 ∨ (arrV _ _ _).slots.size ≤ _); rw [arrV_size]; exact hin) rfl rfl hdg fun H1 e1 z oq => ?_
  have he : va_at G.1 classes (ad n, .inl (zz_cZ G, N, .inl (upd f k x))) H1 := by
    show H1[ad n]? = some (vp_cell _ _)
    rw [e1]
    show some ((vp_cell _ _).setSlot _ _) = _
    rw [vp_cell_i, vp_cell_i, arrV_store, hcl]
    congr 2
    funext q
    by_cases hq : q = k
    · subst hq
      simp only [updV, upd, if_true]
      have h9 : narrow .boolean (.int x) = .int x := by
        have := hx1
        simp only [vp_nar] at this
        revert this
        simp [narrow]
      simpa using h9
    · simp [updV, upd, hq]
  obtain ⟨ce1, g1, g2, g3⟩ := hw.put hn he z oq
  exact kk ce1 H1 _ g1 g2 g3 (hS.put z oq (hw.2.2.2 n _ hn))
/-- a loop: a measure falls, I holds at the head -/
theorem z_loop {α : Type} (μ : α → Nat) (I : α → zz_C → Array Slot → Prop) (a0 : α) (h0 : I a0 ce ls) (hw : zz_W G A ad ce sz H) (hS : va_S A H0 H locs)
    (step : ∀ (a : α), (∀ (b : α) (ce1 : zz_C) (H1 : Heap) (locs1 : List Loc) (ls1 : Array Slot), μ b < μ a → I b ce1 ls1 → zz_W G A ad ce1 sz H1 → va_S A H0 H1 locs1 → W p l e R s m args below meth c H1 locs1 cells slots Q (F0 m pc ls1 st0)) →
      ∀ (ce1 : zz_C) (H1 : Heap) (locs1 : List Loc) (ls1 : Array Slot), I a ce1 ls1 → zz_W G A ad ce1 sz H1 → va_S A H0 H1 locs1 → W p l e R s m args below meth c H1 locs1 cells slots Q (F0 m pc ls1 st0)) : W p l e R s m args below meth c H locs cells slots Q (F0 m pc ls st0) := by
  have key : ∀ (n : Nat) (a : α), μ a < n → ∀ (ce1 : zz_C) (H1 : Heap) (locs1 : List Loc) (ls1 : Array Slot), I a ce1 ls1 → zz_W G A ad ce1 sz H1 → va_S A H0 H1 locs1 → W p l e R s m args below meth c H1 locs1 cells slots Q (F0 m pc ls1 st0) := by
    intro n
    induction n with
    | zero => intro a h; exact absurd h (Nat.not_lt_zero _)
    | succ n ih =>
      intro a ha ce1 H1 locs1 ls1 hI hw1 hS1
      exact step a (fun b ce2 H2 locs2 ls2 hb => ih b (by omega) ce2 H2 locs2 ls2) ce1 H1 locs1 ls1 hI hw1 hS1
  exact key (μ a0 + 1) a0 (Nat.lt_succ_self _) ce H locs ls h0 hw hS
end ZZ3
end
section
section ZZ4
variable {p : Program} {l : Launch} {e : Env} {R : Room} {s : State} {m : MethodId} {args : Array Value} {below : List Frame} {meth : Method} {c : Code} {H : Heap} {locs : List Loc} {cells slots : Nat} {Q : State → Prop}
variable {cc : ByteArray} {y : MethodName} {ret : Option FieldType} {nL pc : Nat} {ls : Array Slot} {rest : List Value} {G : zz_G} {A : Nat → Prop} {H0 : Heap} {ad : Nat → Nat} {ce : zz_C} {sz : Nat}
theorem zz_S.born {H1 : Heap} (hS : va_S A H0 H locs) (z : H1.size = H.size + 1) (o1 : ∀ q, q < H.size → H1[q]? = H[q]?) : va_S A H0 H1 locs := ⟨Nat.le_trans hS.1 (by omega), fun x h1 h2 => (o1 x (Nat.lt_of_lt_of_le h1 hS.1)).trans (hS.2.1 x h1 h2), hS.2.2⟩
/-- a new object under the free name n -/
theorem z_new {C : String} {T : u_T} {N ci index : Nat} {ty0 : Nat → FieldType} (F : zz_F p s m args meth c cc y ret nL G) (hw : zz_W G A ad ce sz H) (hA : ∀ q, H0.size ≤ q → A q) (hS : va_S A H0 H locs) (n : Nat) (hn : ce n = none) {fs : List Value} (hc : classes[ci]? = some (C, T, N)) (hin : ∀ w ∈ u_ws C T N, w ∈ zz_T) (hp : ∀ j, j < N → parseFieldDescriptor (T j).2.2.1 = some (ty0 j)) (hl : Cond.classLink y.cls index C ∈ zz_T) (hi : Cond.instantiable C N ∈ zz_T) (hini : Cond.initialized C ∈ zz_T) (hfs : ∀ j, j < N → defaultValue (ty0 j) = vp_V fs j) (hcells : cells + 1 ≤ R.cells) (hslots : slots + N ≤ R.slots) (hdg : decode cc pc = .ok (.new index, 3))
    (kk : ∀ (ad1 : Nat → Nat) (ce1 : zz_C) (H1 : Heap), ad1 n = sz → (∀ j, j ≠ n → ad1 j = ad j) → ce1 n = some (.inr (ci, fs)) → (∀ j, j ≠ n → ce1 j = ce j) → zz_W G A ad1 ce1 (sz + 1) H1 → va_S A H0 H1 locs → W p l e R s m args below meth c H1 locs (cells + 1) (slots + N) Q (F0 m (pc + 3) ls (.ref sz :: rest))) : W p l e R s m args below meth c H locs cells slots Q (F0 m pc ls rest) := by
  obtain ⟨hx, hb, hr, hml, hown, hts, hlocks, hK, -⟩ := F
  have hKn := hK.1.1 ci _ hc
  refine W.newcK hx hb hown (hts _ hl) (hts _ hi) (hts _ hini) rfl hdg hcells hslots hKn.2.1 hw.1 fun H1 kC hkC e1 z1 o1 => ?_
  have hat : va_at G.1 classes (sz, .inr (ci, fs)) H1 := ⟨_, hc, (u_born ty0 hts hin hKn hkC e1 hp).to hfs⟩
  obtain ⟨ad1, ce1, g1, g2, g3, g4, g5⟩ := hw.born hn hat z1 o1 (hA _ (by rw [← hw.1]; exact hS.1))
  exact kk ad1 ce1 H1 g1 g2 g3 g4 g5 (zz_S.born hS (by rw [hw.1]; exact z1) (by rw [hw.1]; exact o1))
/-- a new int array of N under the free name n -/
theorem z_newi {x : Int32} {N : Nat} (F : zz_F p s m args meth c cc y ret nL G) (hw : zz_W G A ad ce sz H) (hA : ∀ q, H0.size ≤ q → A q) (hS : va_S A H0 H locs) (n : Nat) (hn : ce n = none) (har : Cond.arrayClass .int ∈ zz_T) (hx0 : ¬ x < 0) (hN : x.toNatClampNeg = N) (hb4 : N * 4 ≤ 536870912) (hcells : cells + 1 ≤ R.cells) (hslots : slots + N ≤ R.slots) (hdg : decode cc pc = .ok (.newarray .int, 2))
    (kk : ∀ (ad1 : Nat → Nat) (ce1 : zz_C) (H1 : Heap), ad1 n = sz → (∀ j, j ≠ n → ad1 j = ad j) → ce1 n = some (.inl (zz_cI G, N, .inl (fun _ => 0))) → (∀ j, j ≠ n → ce1 j = ce j) → zz_W G A ad1 ce1 (sz + 1) H1 → va_S A H0 H1 locs → W p l e R s m args below meth c H1 locs (cells + 1) (slots + N) Q (F0 m (pc + 2) ls (.ref sz :: rest))) : W p l e R s m args below meth c H locs cells slots Q (F0 m pc ls (.int x :: rest)) := by
  obtain ⟨hx, hb, hr, hml, hown, hts, hlocks, hK, -⟩ := F
  refine va_newaK (atype := .int) hx hb (hts _ har) rfl hdg rfl hx0 hN hb4 hcells hslots hw.1 fun H1 cA e1 z1 o1 hAr hNm => ?_
  have hcA : cA = zz_cI G := Option.some.inj (hNm.symm.trans (hK.1.2 0 (zz_cI G, .int) rfl).2)
  subst hcA
  have hat : va_at G.1 classes (sz, .inl (zz_cI G, N, .inl (fun _ => 0))) H1 := by
    show H1[sz]? = some (vp_cell _ _)
    rw [vp_cell_i]
    exact e1
  obtain ⟨ad1, ce1, g1, g2, g3, g4, g5⟩ := hw.born hn hat z1 o1 (hA _ (by rw [← hw.1]; exact hS.1))
  exact kk ad1 ce1 H1 g1 g2 g3 g4 g5 (zz_S.born hS (by rw [hw.1]; exact z1) (by rw [hw.1]; exact o1))
theorem z_newz {x : Int32} {N : Nat} (F : zz_F p s m args meth c cc y ret nL G) (hw : zz_W G A ad ce sz H) (hA : ∀ q, H0.size ≤ q → A q) (hS : va_S A H0 H locs) (n : Nat) (hn : ce n = none) (har : Cond.arrayClass .boolean ∈ zz_T) (hx0 : ¬ x < 0) (hN : x.toNatClampNeg = N) (hb4 : N * 1 ≤ 536870912) (hcells : cells + 1 ≤ R.cells) (hslots : slots + N ≤ R.slots) (hdg : decode cc pc = .ok (.newarray .boolean, 2))
    (kk : ∀ (ad1 : Nat → Nat) (ce1 : zz_C) (H1 : Heap), ad1 n = sz → (∀ j, j ≠ n → ad1 j = ad j) → ce1 n = some (.inl (zz_cZ G, N, .inl (fun _ => 0))) → (∀ j, j ≠ n → ce1 j = ce j) → zz_W G A ad1 ce1 (sz + 1) H1 → va_S A H0 H1 locs → W p l e R s m args below meth c H1 locs (cells + 1) (slots + N) Q (F0 m (pc + 2) ls (.ref sz :: rest))) : W p l e R s m args below meth c H locs cells slots Q (F0 m pc ls (.int x :: rest)) := by
  obtain ⟨hx, hb, hr, hml, hown, hts, hlocks, hK, -⟩ := F
  refine va_newaK (atype := .boolean) hx hb (hts _ har) rfl hdg rfl hx0 hN hb4 hcells hslots hw.1 fun H1 cA e1 z1 o1 hAr hNm => ?_
  have hcA : cA = zz_cZ G := Option.some.inj (hNm.symm.trans (hK.1.2 1 (zz_cZ G, .boolean) rfl).2)
  subst hcA
  have hat : va_at G.1 classes (sz, .inl (zz_cZ G, N, .inl (fun _ => 0))) H1 := by
    show H1[sz]? = some (vp_cell _ _)
    rw [vp_cell_i]
    exact e1
  obtain ⟨ad1, ce1, g1, g2, g3, g4, g5⟩ := hw.born hn hat z1 o1 (hA _ (by rw [← hw.1]; exact hS.1))
  exact kk ad1 ce1 H1 g1 g2 g3 g4 g5 (zz_S.born hS (by rw [hw.1]; exact z1) (by rw [hw.1]; exact o1))
/-- a new row of messages -/
theorem z_newq {x : Int32} {N index : Nat} (F : zz_F p s m args meth c cc y ret nL G) (hw : zz_W G A ad ce sz H) (hA : ∀ q, H0.size ≤ q → A q) (hS : va_S A H0 H locs) (n : Nat) (hn : ce n = none) (hcl : Cond.classLink y.cls index RX0 ∈ zz_T) (hx0 : ¬ x < 0) (hN : x.toNatClampNeg = N) (hb4 : N * 4 ≤ 536870912) (hcells : cells + 1 ≤ R.cells) (hslots : slots + N ≤ R.slots) (hdg : decode cc pc = .ok (.anewarray index, 3))
    (kk : ∀ (ad1 : Nat → Nat) (ce1 : zz_C) (H1 : Heap), ad1 n = sz → (∀ j, j ≠ n → ad1 j = ad j) → ce1 n = some (.inl (zz_cM G, N, .inr (.inr (.inr (.inr (fun _ => none)))))) → (∀ j, j ≠ n → ce1 j = ce j) → zz_W G A ad1 ce1 (sz + 1) H1 → va_S A H0 H1 locs → W p l e R s m args below meth c H1 locs (cells + 1) (slots + N) Q (F0 m (pc + 3) ls (.ref sz :: rest))) : W p l e R s m args below meth c H locs cells slots Q (F0 m pc ls (.int x :: rest)) := by
  obtain ⟨hx, hb, hr, hml, hown, hts, hlocks, hK, -⟩ := F
  subst hN
  refine W.anew hx hb hown (hts _ hcl) (va_AO.use (hK.2.2 RX0 (by simp [zz_over]))) rfl hdg rfl hx0 hb4 hcells hslots fun cA kA comp f1 f2 f3 f4 => ?_
  obtain ⟨kB, compB, k1, k2, k3, k4⟩ := (hK.1.2 2 (zz_cM G, .object RX0) rfl).2
  have hcA : cA = zz_cM G := Option.some.inj (f1.symm.trans k4)
  subst hcA
  have hsz := hw.1
  subst hsz
  generalize hH1 : H.push ({ cls := zz_cM G, slots := Array.replicate x.toNatClampNeg .null, vm := .none } : Cell) = H1
  have z1 : H1.size = H.size + 1 := by rw [← hH1, Array.size_push]
  have e1 : H1[H.size]? = some (arrV (zz_cM G) x.toNatClampNeg (fun _ => .null)) := by rw [← hH1, Array.getElem?_push_size, ← arrV_new]
  have o1 : ∀ q : Nat, q < H.size → H1[q]? = H[q]? := fun q hq => by rw [← hH1, Array.getElem?_push, if_neg (Nat.ne_of_lt hq)]
  have hat : va_at G.1 classes (H.size, .inl (zz_cM G, x.toNatClampNeg, .inr (.inr (.inr (.inr (fun _ => none)))))) H1 := by
    show H1[H.size]? = some (vp_cell _ _)
    rw [vp_cell_q]
    exact e1
  obtain ⟨ad1, ce1, g1, g2, g3, g4, g5⟩ := hw.born hn hat z1 o1 (hA _ hS.1)
  exact kk ad1 ce1 H1 g1 g2 g3 g4 g5 (zz_S.born hS z1 o1)
theorem z_ald (F : zz_F p s m args meth c cc y ret nL G) (hw : zz_W G A ad ce sz H) {n N : Nat} {f : Nat → Option Nat} (hn : ce n = some (.inl (zz_cM G, N, .inr (.inr (.inr (.inr f)))))) {i : Int32} (k : Nat) (hi : i = nI k) (hk : k < N) (hN : N < 2 ^ 31) (hdg : decode cc pc = .ok (.aaload, 1))
    (kk : W p l e R s m args below meth c H locs cells slots Q (F0 m (pc + 1) ls (va_rf (f k) :: rest))) : W p l e R s m args below meth c H locs cells slots Q (F0 m pc ls (.int i :: .ref (ad n) :: rest)) := by
  obtain ⟨hx, hb, hr, hml, hown, hts, hlocks, hK, -⟩ := F
  subst hi
  refine va_aldq (C := RX0) hx hb hK.1 (hw.one hn) 0 2 rfl rfl (vp_in_nI hk hN) hdg ?_
  rw [nI_clamp (Nat.lt_trans hk hN)]
  exact kk
end ZZ4
end
