-- ===== PART A: goes FIRST, ahead of the names: the tables' words, and 'selects' of the private methods out of them =====
/-- a private method of a class that the tables say can be made, by its rows of tables_1 -/
def lw_okq (q : MethodName × Nat) : Prop := (q.1.cls ≠ "java/lang/invoke/MethodHandle" ∧ q.1.cls ≠ "java/lang/invoke/VarHandle") ∧ Cond.instantiable q.1.cls q.2 ∈ tables_1 ∧ Cond.privateMethod q.1 ∈ tables_1 ∧ Cond.instanceMethod q.1 ∈ tables_1
theorem lw_p0 : lw_okq (⟨"FeatherCourt$Tape", "byteAt", "(I)I"⟩, 7) := ⟨⟨by decide +kernel, by decide +kernel⟩, List.mem_of_getElem? (i := 28) (by decide +kernel), List.mem_of_getElem? (i := 480) (by decide +kernel), List.mem_of_getElem? (i := 481) (by decide +kernel)⟩
theorem lw_p1 : lw_okq (⟨"FeatherCourt$Tape", "scanToken", "(I)I"⟩, 7) := ⟨⟨by decide +kernel, by decide +kernel⟩, List.mem_of_getElem? (i := 28) (by decide +kernel), List.mem_of_getElem? (i := 487) (by decide +kernel), List.mem_of_getElem? (i := 488) (by decide +kernel)⟩
theorem lw_p2 : lw_okq (⟨"FeatherCourt$Tape", "scanLetters", "(I)I"⟩, 7) := ⟨⟨by decide +kernel, by decide +kernel⟩, List.mem_of_getElem? (i := 28) (by decide +kernel), List.mem_of_getElem? (i := 494) (by decide +kernel), List.mem_of_getElem? (i := 495) (by decide +kernel)⟩
theorem lw_p3 : lw_okq (⟨"FeatherCourt$Tape", "scanDigits", "(I)I"⟩, 7) := ⟨⟨by decide +kernel, by decide +kernel⟩, List.mem_of_getElem? (i := 28) (by decide +kernel), List.mem_of_getElem? (i := 501) (by decide +kernel), List.mem_of_getElem? (i := 502) (by decide +kernel)⟩
theorem lw_p4 : lw_okq (⟨"FeatherCourt$Reader", "takeTell", "()Z"⟩, 11) := ⟨⟨by decide +kernel, by decide +kernel⟩, List.mem_of_getElem? (i := 115) (by decide +kernel), List.mem_of_getElem? (i := 577) (by decide +kernel), List.mem_of_getElem? (i := 578) (by decide +kernel)⟩
theorem lw_p5 : lw_okq (⟨"FeatherCourt$Reader", "takeMan", "()Z"⟩, 11) := ⟨⟨by decide +kernel, by decide +kernel⟩, List.mem_of_getElem? (i := 115) (by decide +kernel), List.mem_of_getElem? (i := 581) (by decide +kernel), List.mem_of_getElem? (i := 582) (by decide +kernel)⟩
theorem lw_p6 : lw_okq (⟨"FeatherCourt$Reader", "fail", "(I)Z"⟩, 11) := ⟨⟨by decide +kernel, by decide +kernel⟩, List.mem_of_getElem? (i := 115) (by decide +kernel), List.mem_of_getElem? (i := 585) (by decide +kernel), List.mem_of_getElem? (i := 586) (by decide +kernel)⟩
theorem lw_p7 : lw_okq (⟨"FeatherCourt$Reader", "take", "(I)Z"⟩, 11) := ⟨⟨by decide +kernel, by decide +kernel⟩, List.mem_of_getElem? (i := 115) (by decide +kernel), List.mem_of_getElem? (i := 589) (by decide +kernel), List.mem_of_getElem? (i := 590) (by decide +kernel)⟩
theorem lw_p8 : lw_okq (⟨"FeatherCourt$Reader", "takeNewName", "([JI)Z"⟩, 11) := ⟨⟨by decide +kernel, by decide +kernel⟩, List.mem_of_getElem? (i := 115) (by decide +kernel), List.mem_of_getElem? (i := 593) (by decide +kernel), List.mem_of_getElem? (i := 594) (by decide +kernel)⟩
theorem lw_p9 : lw_okq (⟨"FeatherCourt$Reader", "failLater", "(II)V"⟩, 11) := ⟨⟨by decide +kernel, by decide +kernel⟩, List.mem_of_getElem? (i := 115) (by decide +kernel), List.mem_of_getElem? (i := 600) (by decide +kernel), List.mem_of_getElem? (i := 601) (by decide +kernel)⟩
theorem lw_p10 : lw_okq (⟨"FeatherCourt$Reader", "takeInt", "(II)Z"⟩, 11) := ⟨⟨by decide +kernel, by decide +kernel⟩, List.mem_of_getElem? (i := 115) (by decide +kernel), List.mem_of_getElem? (i := 604) (by decide +kernel), List.mem_of_getElem? (i := 605) (by decide +kernel)⟩
theorem lw_p11 : lw_okq (⟨"FeatherCourt$Reader", "takeDeed", "()Z"⟩, 11) := ⟨⟨by decide +kernel, by decide +kernel⟩, List.mem_of_getElem? (i := 115) (by decide +kernel), List.mem_of_getElem? (i := 608) (by decide +kernel), List.mem_of_getElem? (i := 609) (by decide +kernel)⟩
theorem lw_p12 : lw_okq (⟨"FeatherCourt$Reader", "takeOldName", "([JI)Z"⟩, 11) := ⟨⟨by decide +kernel, by decide +kernel⟩, List.mem_of_getElem? (i := 115) (by decide +kernel), List.mem_of_getElem? (i := 612) (by decide +kernel), List.mem_of_getElem? (i := 613) (by decide +kernel)⟩
theorem lw_p13 : lw_okq (⟨"FeatherCourt$Reader", "takeLaw", "([II)Z"⟩, 11) := ⟨⟨by decide +kernel, by decide +kernel⟩, List.mem_of_getElem? (i := 115) (by decide +kernel), List.mem_of_getElem? (i := 616) (by decide +kernel), List.mem_of_getElem? (i := 617) (by decide +kernel)⟩
theorem lw_p14 : lw_okq (⟨"FeatherCourt$Reader", "takeSum", "(I)Z"⟩, 11) := ⟨⟨by decide +kernel, by decide +kernel⟩, List.mem_of_getElem? (i := 115) (by decide +kernel), List.mem_of_getElem? (i := 620) (by decide +kernel), List.mem_of_getElem? (i := 621) (by decide +kernel)⟩
theorem lw_p15 : lw_okq (⟨"FeatherCourt$Reader", "takePart", "(I)Z"⟩, 11) := ⟨⟨by decide +kernel, by decide +kernel⟩, List.mem_of_getElem? (i := 115) (by decide +kernel), List.mem_of_getElem? (i := 624) (by decide +kernel), List.mem_of_getElem? (i := 625) (by decide +kernel)⟩
def lw_privs_1 : List (MethodName × Nat) := [(⟨"FeatherCourt$Tape", "byteAt", "(I)I"⟩, 7), (⟨"FeatherCourt$Tape", "scanToken", "(I)I"⟩, 7), (⟨"FeatherCourt$Tape", "scanLetters", "(I)I"⟩, 7), (⟨"FeatherCourt$Tape", "scanDigits", "(I)I"⟩, 7), (⟨"FeatherCourt$Reader", "takeTell", "()Z"⟩, 11), (⟨"FeatherCourt$Reader", "takeMan", "()Z"⟩, 11), (⟨"FeatherCourt$Reader", "fail", "(I)Z"⟩, 11), (⟨"FeatherCourt$Reader", "take", "(I)Z"⟩, 11), (⟨"FeatherCourt$Reader", "takeNewName", "([JI)Z"⟩, 11), (⟨"FeatherCourt$Reader", "failLater", "(II)V"⟩, 11), (⟨"FeatherCourt$Reader", "takeInt", "(II)Z"⟩, 11), (⟨"FeatherCourt$Reader", "takeDeed", "()Z"⟩, 11), (⟨"FeatherCourt$Reader", "takeOldName", "([JI)Z"⟩, 11), (⟨"FeatherCourt$Reader", "takeLaw", "([II)Z"⟩, 11), (⟨"FeatherCourt$Reader", "takeSum", "(I)Z"⟩, 11), (⟨"FeatherCourt$Reader", "takePart", "(I)Z"⟩, 11)]
theorem lw_r1 : ∀ q ∈ lw_privs_1, lw_okq q := List.forall_mem_cons.mpr ⟨lw_p0, List.forall_mem_cons.mpr ⟨lw_p1, List.forall_mem_cons.mpr ⟨lw_p2, List.forall_mem_cons.mpr ⟨lw_p3, List.forall_mem_cons.mpr ⟨lw_p4, List.forall_mem_cons.mpr ⟨lw_p5, List.forall_mem_cons.mpr ⟨lw_p6, List.forall_mem_cons.mpr ⟨lw_p7, List.forall_mem_cons.mpr ⟨lw_p8, List.forall_mem_cons.mpr ⟨lw_p9, List.forall_mem_cons.mpr ⟨lw_p10, List.forall_mem_cons.mpr ⟨lw_p11, List.forall_mem_cons.mpr ⟨lw_p12, List.forall_mem_cons.mpr ⟨lw_p13, List.forall_mem_cons.mpr ⟨lw_p14, List.forall_mem_cons.mpr ⟨lw_p15, fun _ h => absurd h List.not_mem_nil⟩⟩⟩⟩⟩⟩⟩⟩⟩⟩⟩⟩⟩⟩⟩⟩
theorem lw_p16 : lw_okq (⟨"FeatherCourt$Reader", "takeUnit", "(I)Z"⟩, 11) := ⟨⟨by decide +kernel, by decide +kernel⟩, List.mem_of_getElem? (i := 115) (by decide +kernel), List.mem_of_getElem? (i := 628) (by decide +kernel), List.mem_of_getElem? (i := 629) (by decide +kernel)⟩
theorem lw_p17 : lw_okq (⟨"FeatherCourt$Reader", "takeCold", "()Z"⟩, 11) := ⟨⟨by decide +kernel, by decide +kernel⟩, List.mem_of_getElem? (i := 115) (by decide +kernel), List.mem_of_getElem? (i := 633) (by decide +kernel), List.mem_of_getElem? (i := 634) (by decide +kernel)⟩
theorem lw_p18 : lw_okq (⟨"FeatherCourt$Reader", "takeMoult", "()Z"⟩, 11) := ⟨⟨by decide +kernel, by decide +kernel⟩, List.mem_of_getElem? (i := 115) (by decide +kernel), List.mem_of_getElem? (i := 637) (by decide +kernel), List.mem_of_getElem? (i := 638) (by decide +kernel)⟩
theorem lw_p19 : lw_okq (⟨"FeatherCourt", "beginAnew", "()V"⟩, 15) := ⟨⟨by decide +kernel, by decide +kernel⟩, List.mem_of_getElem? (i := 20) (by decide +kernel), List.mem_of_getElem? (i := 641) (by decide +kernel), List.mem_of_getElem? (i := 642) (by decide +kernel)⟩
theorem lw_p20 : lw_okq (⟨"FeatherCourt", "isMan", "(I)Z"⟩, 15) := ⟨⟨by decide +kernel, by decide +kernel⟩, List.mem_of_getElem? (i := 20) (by decide +kernel), List.mem_of_getElem? (i := 657) (by decide +kernel), List.mem_of_getElem? (i := 658) (by decide +kernel)⟩
theorem lw_p21 : lw_okq (⟨"FeatherCourt", "isWarm", "(III)Z"⟩, 15) := ⟨⟨by decide +kernel, by decide +kernel⟩, List.mem_of_getElem? (i := 20) (by decide +kernel), List.mem_of_getElem? (i := 673) (by decide +kernel), List.mem_of_getElem? (i := 674) (by decide +kernel)⟩
theorem lw_p22 : lw_okq (⟨"FeatherCourt", "timesIn", "(II)I"⟩, 15) := ⟨⟨by decide +kernel, by decide +kernel⟩, List.mem_of_getElem? (i := 20) (by decide +kernel), List.mem_of_getElem? (i := 677) (by decide +kernel), List.mem_of_getElem? (i := 678) (by decide +kernel)⟩
theorem lw_p23 : lw_okq (⟨"FeatherCourt", "choiceOf", "(I)I"⟩, 15) := ⟨⟨by decide +kernel, by decide +kernel⟩, List.mem_of_getElem? (i := 20) (by decide +kernel), List.mem_of_getElem? (i := 692) (by decide +kernel), List.mem_of_getElem? (i := 693) (by decide +kernel)⟩
theorem lw_p24 : lw_okq (⟨"FeatherCourt", "likeAll", "()V"⟩, 15) := ⟨⟨by decide +kernel, by decide +kernel⟩, List.mem_of_getElem? (i := 20) (by decide +kernel), List.mem_of_getElem? (i := 696) (by decide +kernel), List.mem_of_getElem? (i := 697) (by decide +kernel)⟩
theorem lw_p25 : lw_okq (⟨"FeatherCourt", "like", "(II)V"⟩, 15) := ⟨⟨by decide +kernel, by decide +kernel⟩, List.mem_of_getElem? (i := 20) (by decide +kernel), List.mem_of_getElem? (i := 700) (by decide +kernel), List.mem_of_getElem? (i := 701) (by decide +kernel)⟩
theorem lw_p26 : lw_okq (⟨"FeatherCourt", "areTwoMen", "(II)Z"⟩, 15) := ⟨⟨by decide +kernel, by decide +kernel⟩, List.mem_of_getElem? (i := 20) (by decide +kernel), List.mem_of_getElem? (i := 720) (by decide +kernel), List.mem_of_getElem? (i := 721) (by decide +kernel)⟩
theorem lw_p27 : lw_okq (⟨"FeatherCourt", "isDeed", "(I)Z"⟩, 15) := ⟨⟨by decide +kernel, by decide +kernel⟩, List.mem_of_getElem? (i := 20) (by decide +kernel), List.mem_of_getElem? (i := 728) (by decide +kernel), List.mem_of_getElem? (i := 729) (by decide +kernel)⟩
theorem lw_p28 : lw_okq (⟨"FeatherCourt", "fineNow", "(II)I"⟩, 15) := ⟨⟨by decide +kernel, by decide +kernel⟩, List.mem_of_getElem? (i := 20) (by decide +kernel), List.mem_of_getElem? (i := 732) (by decide +kernel), List.mem_of_getElem? (i := 733) (by decide +kernel)⟩
theorem lw_p29 : lw_okq (⟨"FeatherCourt", "isEntry", "(I)Z"⟩, 15) := ⟨⟨by decide +kernel, by decide +kernel⟩, List.mem_of_getElem? (i := 20) (by decide +kernel), List.mem_of_getElem? (i := 745) (by decide +kernel), List.mem_of_getElem? (i := 746) (by decide +kernel)⟩
theorem lw_p30 : lw_okq (⟨"FeatherCourt", "onAllGeese", "()I"⟩, 15) := ⟨⟨by decide +kernel, by decide +kernel⟩, List.mem_of_getElem? (i := 20) (by decide +kernel), List.mem_of_getElem? (i := 769) (by decide +kernel), List.mem_of_getElem? (i := 770) (by decide +kernel)⟩
theorem lw_p31 : lw_okq (⟨"FeatherCourt", "slotsHeld", "()I"⟩, 15) := ⟨⟨by decide +kernel, by decide +kernel⟩, List.mem_of_getElem? (i := 20) (by decide +kernel), List.mem_of_getElem? (i := 773) (by decide +kernel), List.mem_of_getElem? (i := 774) (by decide +kernel)⟩
def lw_privs_2 : List (MethodName × Nat) := [(⟨"FeatherCourt$Reader", "takeUnit", "(I)Z"⟩, 11), (⟨"FeatherCourt$Reader", "takeCold", "()Z"⟩, 11), (⟨"FeatherCourt$Reader", "takeMoult", "()Z"⟩, 11), (⟨"FeatherCourt", "beginAnew", "()V"⟩, 15), (⟨"FeatherCourt", "isMan", "(I)Z"⟩, 15), (⟨"FeatherCourt", "isWarm", "(III)Z"⟩, 15), (⟨"FeatherCourt", "timesIn", "(II)I"⟩, 15), (⟨"FeatherCourt", "choiceOf", "(I)I"⟩, 15), (⟨"FeatherCourt", "likeAll", "()V"⟩, 15), (⟨"FeatherCourt", "like", "(II)V"⟩, 15), (⟨"FeatherCourt", "areTwoMen", "(II)Z"⟩, 15), (⟨"FeatherCourt", "isDeed", "(I)Z"⟩, 15), (⟨"FeatherCourt", "fineNow", "(II)I"⟩, 15), (⟨"FeatherCourt", "isEntry", "(I)Z"⟩, 15), (⟨"FeatherCourt", "onAllGeese", "()I"⟩, 15), (⟨"FeatherCourt", "slotsHeld", "()I"⟩, 15)]
theorem lw_r2 : ∀ q ∈ lw_privs_2, lw_okq q := List.forall_mem_cons.mpr ⟨lw_p16, List.forall_mem_cons.mpr ⟨lw_p17, List.forall_mem_cons.mpr ⟨lw_p18, List.forall_mem_cons.mpr ⟨lw_p19, List.forall_mem_cons.mpr ⟨lw_p20, List.forall_mem_cons.mpr ⟨lw_p21, List.forall_mem_cons.mpr ⟨lw_p22, List.forall_mem_cons.mpr ⟨lw_p23, List.forall_mem_cons.mpr ⟨lw_p24, List.forall_mem_cons.mpr ⟨lw_p25, List.forall_mem_cons.mpr ⟨lw_p26, List.forall_mem_cons.mpr ⟨lw_p27, List.forall_mem_cons.mpr ⟨lw_p28, List.forall_mem_cons.mpr ⟨lw_p29, List.forall_mem_cons.mpr ⟨lw_p30, List.forall_mem_cons.mpr ⟨lw_p31, fun _ h => absurd h List.not_mem_nil⟩⟩⟩⟩⟩⟩⟩⟩⟩⟩⟩⟩⟩⟩⟩⟩
theorem lw_p32 : lw_okq (⟨"FeatherCourt", "countTimes", "()V"⟩, 15) := ⟨⟨by decide +kernel, by decide +kernel⟩, List.mem_of_getElem? (i := 20) (by decide +kernel), List.mem_of_getElem? (i := 806) (by decide +kernel), List.mem_of_getElem? (i := 807) (by decide +kernel)⟩
theorem lw_p33 : lw_okq (⟨"FeatherCourt", "canStuff", "(III)Z"⟩, 15) := ⟨⟨by decide +kernel, by decide +kernel⟩, List.mem_of_getElem? (i := 20) (by decide +kernel), List.mem_of_getElem? (i := 830) (by decide +kernel), List.mem_of_getElem? (i := 831) (by decide +kernel)⟩
theorem lw_p34 : lw_okq (⟨"FeatherCourt", "hasRoom", "(II)Z"⟩, 15) := ⟨⟨by decide +kernel, by decide +kernel⟩, List.mem_of_getElem? (i := 20) (by decide +kernel), List.mem_of_getElem? (i := 834) (by decide +kernel), List.mem_of_getElem? (i := 835) (by decide +kernel)⟩
theorem lw_p35 : lw_okq (⟨"FeatherCourt", "haveBehind", "(II)I"⟩, 15) := ⟨⟨by decide +kernel, by decide +kernel⟩, List.mem_of_getElem? (i := 20) (by decide +kernel), List.mem_of_getElem? (i := 854) (by decide +kernel), List.mem_of_getElem? (i := 855) (by decide +kernel)⟩
theorem lw_p36 : lw_okq (⟨"FeatherCourt", "haveNext", "(III)I"⟩, 15) := ⟨⟨by decide +kernel, by decide +kernel⟩, List.mem_of_getElem? (i := 20) (by decide +kernel), List.mem_of_getElem? (i := 858) (by decide +kernel), List.mem_of_getElem? (i := 859) (by decide +kernel)⟩
theorem lw_p37 : lw_okq (⟨"FeatherCourt", "mostGroupsWithin", "(I)I"⟩, 15) := ⟨⟨by decide +kernel, by decide +kernel⟩, List.mem_of_getElem? (i := 20) (by decide +kernel), List.mem_of_getElem? (i := 900) (by decide +kernel), List.mem_of_getElem? (i := 901) (by decide +kernel)⟩
theorem lw_p38 : lw_okq (⟨"FeatherCourt", "sew", "(I)Z"⟩, 15) := ⟨⟨by decide +kernel, by decide +kernel⟩, List.mem_of_getElem? (i := 20) (by decide +kernel), List.mem_of_getElem? (i := 911) (by decide +kernel), List.mem_of_getElem? (i := 912) (by decide +kernel)⟩
theorem lw_p39 : lw_okq (⟨"FeatherCourt$Quilt", "sumGuilt", "(LFeatherCourt$Program;)V"⟩, 10) := ⟨⟨by decide +kernel, by decide +kernel⟩, List.mem_of_getElem? (i := 343) (by decide +kernel), List.mem_of_getElem? (i := 919) (by decide +kernel), List.mem_of_getElem? (i := 920) (by decide +kernel)⟩
theorem lw_p40 : lw_okq (⟨"FeatherCourt$Quilt", "sumFines", "(II)V"⟩, 10) := ⟨⟨by decide +kernel, by decide +kernel⟩, List.mem_of_getElem? (i := 343) (by decide +kernel), List.mem_of_getElem? (i := 924) (by decide +kernel), List.mem_of_getElem? (i := 925) (by decide +kernel)⟩
theorem lw_p41 : lw_okq (⟨"FeatherCourt$Quilt", "gatherOffers", "(II)I"⟩, 10) := ⟨⟨by decide +kernel, by decide +kernel⟩, List.mem_of_getElem? (i := 343) (by decide +kernel), List.mem_of_getElem? (i := 929) (by decide +kernel), List.mem_of_getElem? (i := 930) (by decide +kernel)⟩
theorem lw_p42 : lw_okq (⟨"FeatherCourt$Quilt", "leastGuilt", "(III)I"⟩, 10) := ⟨⟨by decide +kernel, by decide +kernel⟩, List.mem_of_getElem? (i := 343) (by decide +kernel), List.mem_of_getElem? (i := 933) (by decide +kernel), List.mem_of_getElem? (i := 934) (by decide +kernel)⟩
theorem lw_p43 : lw_okq (⟨"FeatherCourt$Quilt", "choose", "(LFeatherCourt$Program;I)V"⟩, 10) := ⟨⟨by decide +kernel, by decide +kernel⟩, List.mem_of_getElem? (i := 343) (by decide +kernel), List.mem_of_getElem? (i := 938) (by decide +kernel), List.mem_of_getElem? (i := 939) (by decide +kernel)⟩
theorem lw_p44 : lw_okq (⟨"FeatherCourt$Quilt", "firstOfLeast", "(III)I"⟩, 10) := ⟨⟨by decide +kernel, by decide +kernel⟩, List.mem_of_getElem? (i := 343) (by decide +kernel), List.mem_of_getElem? (i := 942) (by decide +kernel), List.mem_of_getElem? (i := 943) (by decide +kernel)⟩
theorem lw_p45 : lw_okq (⟨"FeatherCourt", "isLack", "(II)Z"⟩, 15) := ⟨⟨by decide +kernel, by decide +kernel⟩, List.mem_of_getElem? (i := 20) (by decide +kernel), List.mem_of_getElem? (i := 967) (by decide +kernel), List.mem_of_getElem? (i := 968) (by decide +kernel)⟩
theorem lw_p46 : lw_okq (⟨"FeatherCourt", "countRowsOf", "(II)I"⟩, 15) := ⟨⟨by decide +kernel, by decide +kernel⟩, List.mem_of_getElem? (i := 20) (by decide +kernel), List.mem_of_getElem? (i := 971) (by decide +kernel), List.mem_of_getElem? (i := 972) (by decide +kernel)⟩
theorem lw_p47 : lw_okq (⟨"FeatherCourtModel", "put", "(I)V"⟩, 67) := ⟨⟨by decide +kernel, by decide +kernel⟩, List.mem_of_getElem? (i := 1003) (by decide +kernel), List.mem_of_getElem? (i := 1222) (by decide +kernel), List.mem_of_getElem? (i := 1223) (by decide +kernel)⟩
def lw_privs_3 : List (MethodName × Nat) := [(⟨"FeatherCourt", "countTimes", "()V"⟩, 15), (⟨"FeatherCourt", "canStuff", "(III)Z"⟩, 15), (⟨"FeatherCourt", "hasRoom", "(II)Z"⟩, 15), (⟨"FeatherCourt", "haveBehind", "(II)I"⟩, 15), (⟨"FeatherCourt", "haveNext", "(III)I"⟩, 15), (⟨"FeatherCourt", "mostGroupsWithin", "(I)I"⟩, 15), (⟨"FeatherCourt", "sew", "(I)Z"⟩, 15), (⟨"FeatherCourt$Quilt", "sumGuilt", "(LFeatherCourt$Program;)V"⟩, 10), (⟨"FeatherCourt$Quilt", "sumFines", "(II)V"⟩, 10), (⟨"FeatherCourt$Quilt", "gatherOffers", "(II)I"⟩, 10), (⟨"FeatherCourt$Quilt", "leastGuilt", "(III)I"⟩, 10), (⟨"FeatherCourt$Quilt", "choose", "(LFeatherCourt$Program;I)V"⟩, 10), (⟨"FeatherCourt$Quilt", "firstOfLeast", "(III)I"⟩, 10), (⟨"FeatherCourt", "isLack", "(II)Z"⟩, 15), (⟨"FeatherCourt", "countRowsOf", "(II)I"⟩, 15), (⟨"FeatherCourtModel", "put", "(I)V"⟩, 67)]
theorem lw_r3 : ∀ q ∈ lw_privs_3, lw_okq q := List.forall_mem_cons.mpr ⟨lw_p32, List.forall_mem_cons.mpr ⟨lw_p33, List.forall_mem_cons.mpr ⟨lw_p34, List.forall_mem_cons.mpr ⟨lw_p35, List.forall_mem_cons.mpr ⟨lw_p36, List.forall_mem_cons.mpr ⟨lw_p37, List.forall_mem_cons.mpr ⟨lw_p38, List.forall_mem_cons.mpr ⟨lw_p39, List.forall_mem_cons.mpr ⟨lw_p40, List.forall_mem_cons.mpr ⟨lw_p41, List.forall_mem_cons.mpr ⟨lw_p42, List.forall_mem_cons.mpr ⟨lw_p43, List.forall_mem_cons.mpr ⟨lw_p44, List.forall_mem_cons.mpr ⟨lw_p45, List.forall_mem_cons.mpr ⟨lw_p46, List.forall_mem_cons.mpr ⟨lw_p47, fun _ h => absurd h List.not_mem_nil⟩⟩⟩⟩⟩⟩⟩⟩⟩⟩⟩⟩⟩⟩⟩⟩
theorem lw_p48 : lw_okq (⟨"FeatherCourtModel", "cut", "()V"⟩, 67) := ⟨⟨by decide +kernel, by decide +kernel⟩, List.mem_of_getElem? (i := 1003) (by decide +kernel), List.mem_of_getElem? (i := 1234) (by decide +kernel), List.mem_of_getElem? (i := 1235) (by decide +kernel)⟩
theorem lw_p49 : lw_okq (⟨"FeatherCourtModel", "byteAt", "(I)I"⟩, 67) := ⟨⟨by decide +kernel, by decide +kernel⟩, List.mem_of_getElem? (i := 1003) (by decide +kernel), List.mem_of_getElem? (i := 1238) (by decide +kernel), List.mem_of_getElem? (i := 1239) (by decide +kernel)⟩
theorem lw_p50 : lw_okq (⟨"FeatherCourtModel", "token", "(IIIJ)V"⟩, 67) := ⟨⟨by decide +kernel, by decide +kernel⟩, List.mem_of_getElem? (i := 1003) (by decide +kernel), List.mem_of_getElem? (i := 1242) (by decide +kernel), List.mem_of_getElem? (i := 1243) (by decide +kernel)⟩
theorem lw_p51 : lw_okq (⟨"FeatherCourtModel", "sign", "(III)I"⟩, 67) := ⟨⟨by decide +kernel, by decide +kernel⟩, List.mem_of_getElem? (i := 1003) (by decide +kernel), List.mem_of_getElem? (i := 1252) (by decide +kernel), List.mem_of_getElem? (i := 1253) (by decide +kernel)⟩
theorem lw_p52 : lw_okq (⟨"FeatherCourtModel", "is", "(I)Z"⟩, 67) := ⟨⟨by decide +kernel, by decide +kernel⟩, List.mem_of_getElem? (i := 1003) (by decide +kernel), List.mem_of_getElem? (i := 1256) (by decide +kernel), List.mem_of_getElem? (i := 1257) (by decide +kernel)⟩
theorem lw_p53 : lw_okq (⟨"FeatherCourtModel", "tell", "()V"⟩, 67) := ⟨⟨by decide +kernel, by decide +kernel⟩, List.mem_of_getElem? (i := 1003) (by decide +kernel), List.mem_of_getElem? (i := 1260) (by decide +kernel), List.mem_of_getElem? (i := 1261) (by decide +kernel)⟩
theorem lw_p54 : lw_okq (⟨"FeatherCourtModel", "roomFor", "(II)V"⟩, 67) := ⟨⟨by decide +kernel, by decide +kernel⟩, List.mem_of_getElem? (i := 1003) (by decide +kernel), List.mem_of_getElem? (i := 1264) (by decide +kernel), List.mem_of_getElem? (i := 1265) (by decide +kernel)⟩
theorem lw_p55 : lw_okq (⟨"FeatherCourtModel", "fail", "(I)V"⟩, 67) := ⟨⟨by decide +kernel, by decide +kernel⟩, List.mem_of_getElem? (i := 1003) (by decide +kernel), List.mem_of_getElem? (i := 1268) (by decide +kernel), List.mem_of_getElem? (i := 1269) (by decide +kernel)⟩
theorem lw_p56 : lw_okq (⟨"FeatherCourtModel", "goesOn", "()V"⟩, 67) := ⟨⟨by decide +kernel, by decide +kernel⟩, List.mem_of_getElem? (i := 1003) (by decide +kernel), List.mem_of_getElem? (i := 1272) (by decide +kernel), List.mem_of_getElem? (i := 1273) (by decide +kernel)⟩
theorem lw_p57 : lw_okq (⟨"FeatherCourtModel", "tellMan", "()V"⟩, 67) := ⟨⟨by decide +kernel, by decide +kernel⟩, List.mem_of_getElem? (i := 1003) (by decide +kernel), List.mem_of_getElem? (i := 1276) (by decide +kernel), List.mem_of_getElem? (i := 1277) (by decide +kernel)⟩
theorem lw_p58 : lw_okq (⟨"FeatherCourtModel", "named", "()I"⟩, 67) := ⟨⟨by decide +kernel, by decide +kernel⟩, List.mem_of_getElem? (i := 1003) (by decide +kernel), List.mem_of_getElem? (i := 1280) (by decide +kernel), List.mem_of_getElem? (i := 1281) (by decide +kernel)⟩
theorem lw_p59 : lw_okq (⟨"FeatherCourtModel", "must", "(I)V"⟩, 67) := ⟨⟨by decide +kernel, by decide +kernel⟩, List.mem_of_getElem? (i := 1003) (by decide +kernel), List.mem_of_getElem? (i := 1284) (by decide +kernel), List.mem_of_getElem? (i := 1285) (by decide +kernel)⟩
theorem lw_p60 : lw_okq (⟨"FeatherCourtModel", "wrong", "(II)V"⟩, 67) := ⟨⟨by decide +kernel, by decide +kernel⟩, List.mem_of_getElem? (i := 1003) (by decide +kernel), List.mem_of_getElem? (i := 1288) (by decide +kernel), List.mem_of_getElem? (i := 1289) (by decide +kernel)⟩
theorem lw_p61 : lw_okq (⟨"FeatherCourtModel", "bounded", "(II)I"⟩, 67) := ⟨⟨by decide +kernel, by decide +kernel⟩, List.mem_of_getElem? (i := 1003) (by decide +kernel), List.mem_of_getElem? (i := 1292) (by decide +kernel), List.mem_of_getElem? (i := 1293) (by decide +kernel)⟩
theorem lw_p62 : lw_okq (⟨"FeatherCourtModel", "notes", "(III)V"⟩, 67) := ⟨⟨by decide +kernel, by decide +kernel⟩, List.mem_of_getElem? (i := 1003) (by decide +kernel), List.mem_of_getElem? (i := 1296) (by decide +kernel), List.mem_of_getElem? (i := 1297) (by decide +kernel)⟩
theorem lw_p63 : lw_okq (⟨"FeatherCourtModel", "tellDeed", "()V"⟩, 67) := ⟨⟨by decide +kernel, by decide +kernel⟩, List.mem_of_getElem? (i := 1003) (by decide +kernel), List.mem_of_getElem? (i := 1300) (by decide +kernel), List.mem_of_getElem? (i := 1301) (by decide +kernel)⟩
def lw_privs_4 : List (MethodName × Nat) := [(⟨"FeatherCourtModel", "cut", "()V"⟩, 67), (⟨"FeatherCourtModel", "byteAt", "(I)I"⟩, 67), (⟨"FeatherCourtModel", "token", "(IIIJ)V"⟩, 67), (⟨"FeatherCourtModel", "sign", "(III)I"⟩, 67), (⟨"FeatherCourtModel", "is", "(I)Z"⟩, 67), (⟨"FeatherCourtModel", "tell", "()V"⟩, 67), (⟨"FeatherCourtModel", "roomFor", "(II)V"⟩, 67), (⟨"FeatherCourtModel", "fail", "(I)V"⟩, 67), (⟨"FeatherCourtModel", "goesOn", "()V"⟩, 67), (⟨"FeatherCourtModel", "tellMan", "()V"⟩, 67), (⟨"FeatherCourtModel", "named", "()I"⟩, 67), (⟨"FeatherCourtModel", "must", "(I)V"⟩, 67), (⟨"FeatherCourtModel", "wrong", "(II)V"⟩, 67), (⟨"FeatherCourtModel", "bounded", "(II)I"⟩, 67), (⟨"FeatherCourtModel", "notes", "(III)V"⟩, 67), (⟨"FeatherCourtModel", "tellDeed", "()V"⟩, 67)]
theorem lw_r4 : ∀ q ∈ lw_privs_4, lw_okq q := List.forall_mem_cons.mpr ⟨lw_p48, List.forall_mem_cons.mpr ⟨lw_p49, List.forall_mem_cons.mpr ⟨lw_p50, List.forall_mem_cons.mpr ⟨lw_p51, List.forall_mem_cons.mpr ⟨lw_p52, List.forall_mem_cons.mpr ⟨lw_p53, List.forall_mem_cons.mpr ⟨lw_p54, List.forall_mem_cons.mpr ⟨lw_p55, List.forall_mem_cons.mpr ⟨lw_p56, List.forall_mem_cons.mpr ⟨lw_p57, List.forall_mem_cons.mpr ⟨lw_p58, List.forall_mem_cons.mpr ⟨lw_p59, List.forall_mem_cons.mpr ⟨lw_p60, List.forall_mem_cons.mpr ⟨lw_p61, List.forall_mem_cons.mpr ⟨lw_p62, List.forall_mem_cons.mpr ⟨lw_p63, fun _ h => absurd h List.not_mem_nil⟩⟩⟩⟩⟩⟩⟩⟩⟩⟩⟩⟩⟩⟩⟩⟩
theorem lw_p64 : lw_okq (⟨"FeatherCourtModel", "known", "(I)I"⟩, 67) := ⟨⟨by decide +kernel, by decide +kernel⟩, List.mem_of_getElem? (i := 1003) (by decide +kernel), List.mem_of_getElem? (i := 1304) (by decide +kernel), List.mem_of_getElem? (i := 1305) (by decide +kernel)⟩
theorem lw_p65 : lw_okq (⟨"FeatherCourtModel", "tellLaw", "(I)V"⟩, 67) := ⟨⟨by decide +kernel, by decide +kernel⟩, List.mem_of_getElem? (i := 1003) (by decide +kernel), List.mem_of_getElem? (i := 1308) (by decide +kernel), List.mem_of_getElem? (i := 1309) (by decide +kernel)⟩
theorem lw_p66 : lw_okq (⟨"FeatherCourtModel", "expression", "()V"⟩, 67) := ⟨⟨by decide +kernel, by decide +kernel⟩, List.mem_of_getElem? (i := 1003) (by decide +kernel), List.mem_of_getElem? (i := 1312) (by decide +kernel), List.mem_of_getElem? (i := 1313) (by decide +kernel)⟩
theorem lw_p67 : lw_okq (⟨"FeatherCourtModel", "unit", "()V"⟩, 67) := ⟨⟨by decide +kernel, by decide +kernel⟩, List.mem_of_getElem? (i := 1003) (by decide +kernel), List.mem_of_getElem? (i := 1316) (by decide +kernel), List.mem_of_getElem? (i := 1317) (by decide +kernel)⟩
theorem lw_p68 : lw_okq (⟨"FeatherCourtModel", "emit", "(II)V"⟩, 67) := ⟨⟨by decide +kernel, by decide +kernel⟩, List.mem_of_getElem? (i := 1003) (by decide +kernel), List.mem_of_getElem? (i := 1320) (by decide +kernel), List.mem_of_getElem? (i := 1321) (by decide +kernel)⟩
theorem lw_p69 : lw_okq (⟨"FeatherCourtModel", "comesOut", "(Z)V"⟩, 67) := ⟨⟨by decide +kernel, by decide +kernel⟩, List.mem_of_getElem? (i := 1003) (by decide +kernel), List.mem_of_getElem? (i := 1324) (by decide +kernel), List.mem_of_getElem? (i := 1325) (by decide +kernel)⟩
theorem lw_p70 : lw_okq (⟨"FeatherCourtModel", "term", "()V"⟩, 67) := ⟨⟨by decide +kernel, by decide +kernel⟩, List.mem_of_getElem? (i := 1003) (by decide +kernel), List.mem_of_getElem? (i := 1328) (by decide +kernel), List.mem_of_getElem? (i := 1329) (by decide +kernel)⟩
theorem lw_p71 : lw_okq (⟨"FeatherCourtModel", "tellCold", "()V"⟩, 67) := ⟨⟨by decide +kernel, by decide +kernel⟩, List.mem_of_getElem? (i := 1003) (by decide +kernel), List.mem_of_getElem? (i := 1332) (by decide +kernel), List.mem_of_getElem? (i := 1333) (by decide +kernel)⟩
theorem lw_p72 : lw_okq (⟨"FeatherCourtModel", "isMan", "(I)Z"⟩, 67) := ⟨⟨by decide +kernel, by decide +kernel⟩, List.mem_of_getElem? (i := 1003) (by decide +kernel), List.mem_of_getElem? (i := 1344) (by decide +kernel), List.mem_of_getElem? (i := 1345) (by decide +kernel)⟩
theorem lw_p73 : lw_okq (⟨"FeatherCourtModel", "copies", "()V"⟩, 67) := ⟨⟨by decide +kernel, by decide +kernel⟩, List.mem_of_getElem? (i := 1003) (by decide +kernel), List.mem_of_getElem? (i := 1351) (by decide +kernel), List.mem_of_getElem? (i := 1352) (by decide +kernel)⟩
theorem lw_p74 : lw_okq (⟨"FeatherCourtModel", "haveOf", "(I)I"⟩, 67) := ⟨⟨by decide +kernel, by decide +kernel⟩, List.mem_of_getElem? (i := 1003) (by decide +kernel), List.mem_of_getElem? (i := 1355) (by decide +kernel), List.mem_of_getElem? (i := 1356) (by decide +kernel)⟩
theorem lw_p75 : lw_okq (⟨"FeatherCourtModel", "timesOf", "(I)I"⟩, 67) := ⟨⟨by decide +kernel, by decide +kernel⟩, List.mem_of_getElem? (i := 1003) (by decide +kernel), List.mem_of_getElem? (i := 1359) (by decide +kernel), List.mem_of_getElem? (i := 1360) (by decide +kernel)⟩
theorem lw_p76 : lw_okq (⟨"FeatherCourtModel", "netOf", "(I)I"⟩, 67) := ⟨⟨by decide +kernel, by decide +kernel⟩, List.mem_of_getElem? (i := 1003) (by decide +kernel), List.mem_of_getElem? (i := 1363) (by decide +kernel), List.mem_of_getElem? (i := 1364) (by decide +kernel)⟩
theorem lw_p77 : lw_okq (⟨"FeatherCourtModel", "isWarm", "(I)Z"⟩, 67) := ⟨⟨by decide +kernel, by decide +kernel⟩, List.mem_of_getElem? (i := 1003) (by decide +kernel), List.mem_of_getElem? (i := 1367) (by decide +kernel), List.mem_of_getElem? (i := 1368) (by decide +kernel)⟩
theorem lw_p78 : lw_okq (⟨"FeatherCourtModel", "setsOf", "(III)V"⟩, 67) := ⟨⟨by decide +kernel, by decide +kernel⟩, List.mem_of_getElem? (i := 1003) (by decide +kernel), List.mem_of_getElem? (i := 1371) (by decide +kernel), List.mem_of_getElem? (i := 1372) (by decide +kernel)⟩
theorem lw_p79 : lw_okq (⟨"FeatherCourtModel", "windOn", "(I)I"⟩, 67) := ⟨⟨by decide +kernel, by decide +kernel⟩, List.mem_of_getElem? (i := 1003) (by decide +kernel), List.mem_of_getElem? (i := 1375) (by decide +kernel), List.mem_of_getElem? (i := 1376) (by decide +kernel)⟩
def lw_privs_5 : List (MethodName × Nat) := [(⟨"FeatherCourtModel", "known", "(I)I"⟩, 67), (⟨"FeatherCourtModel", "tellLaw", "(I)V"⟩, 67), (⟨"FeatherCourtModel", "expression", "()V"⟩, 67), (⟨"FeatherCourtModel", "unit", "()V"⟩, 67), (⟨"FeatherCourtModel", "emit", "(II)V"⟩, 67), (⟨"FeatherCourtModel", "comesOut", "(Z)V"⟩, 67), (⟨"FeatherCourtModel", "term", "()V"⟩, 67), (⟨"FeatherCourtModel", "tellCold", "()V"⟩, 67), (⟨"FeatherCourtModel", "isMan", "(I)Z"⟩, 67), (⟨"FeatherCourtModel", "copies", "()V"⟩, 67), (⟨"FeatherCourtModel", "haveOf", "(I)I"⟩, 67), (⟨"FeatherCourtModel", "timesOf", "(I)I"⟩, 67), (⟨"FeatherCourtModel", "netOf", "(I)I"⟩, 67), (⟨"FeatherCourtModel", "isWarm", "(I)Z"⟩, 67), (⟨"FeatherCourtModel", "setsOf", "(III)V"⟩, 67), (⟨"FeatherCourtModel", "windOn", "(I)I"⟩, 67)]
theorem lw_r5 : ∀ q ∈ lw_privs_5, lw_okq q := List.forall_mem_cons.mpr ⟨lw_p64, List.forall_mem_cons.mpr ⟨lw_p65, List.forall_mem_cons.mpr ⟨lw_p66, List.forall_mem_cons.mpr ⟨lw_p67, List.forall_mem_cons.mpr ⟨lw_p68, List.forall_mem_cons.mpr ⟨lw_p69, List.forall_mem_cons.mpr ⟨lw_p70, List.forall_mem_cons.mpr ⟨lw_p71, List.forall_mem_cons.mpr ⟨lw_p72, List.forall_mem_cons.mpr ⟨lw_p73, List.forall_mem_cons.mpr ⟨lw_p74, List.forall_mem_cons.mpr ⟨lw_p75, List.forall_mem_cons.mpr ⟨lw_p76, List.forall_mem_cons.mpr ⟨lw_p77, List.forall_mem_cons.mpr ⟨lw_p78, List.forall_mem_cons.mpr ⟨lw_p79, fun _ h => absurd h List.not_mem_nil⟩⟩⟩⟩⟩⟩⟩⟩⟩⟩⟩⟩⟩⟩⟩⟩
theorem lw_p80 : lw_okq (⟨"FeatherCourtModel", "tells", "(II)I"⟩, 67) := ⟨⟨by decide +kernel, by decide +kernel⟩, List.mem_of_getElem? (i := 1003) (by decide +kernel), List.mem_of_getElem? (i := 1379) (by decide +kernel), List.mem_of_getElem? (i := 1380) (by decide +kernel)⟩
theorem lw_p81 : lw_okq (⟨"FeatherCourtModel", "termOf", "(II)I"⟩, 67) := ⟨⟨by decide +kernel, by decide +kernel⟩, List.mem_of_getElem? (i := 1003) (by decide +kernel), List.mem_of_getElem? (i := 1383) (by decide +kernel), List.mem_of_getElem? (i := 1384) (by decide +kernel)⟩
theorem lw_p82 : lw_okq (⟨"FeatherCourtModel", "fillsHave", "()V"⟩, 67) := ⟨⟨by decide +kernel, by decide +kernel⟩, List.mem_of_getElem? (i := 1003) (by decide +kernel), List.mem_of_getElem? (i := 1387) (by decide +kernel), List.mem_of_getElem? (i := 1388) (by decide +kernel)⟩
theorem lw_p83 : lw_okq (⟨"FeatherCourtModel", "voteOf", "(I)I"⟩, 67) := ⟨⟨by decide +kernel, by decide +kernel⟩, List.mem_of_getElem? (i := 1003) (by decide +kernel), List.mem_of_getElem? (i := 1391) (by decide +kernel), List.mem_of_getElem? (i := 1392) (by decide +kernel)⟩
theorem lw_p84 : lw_okq (⟨"FeatherCourtModel", "areTwo", "(II)Z"⟩, 67) := ⟨⟨by decide +kernel, by decide +kernel⟩, List.mem_of_getElem? (i := 1003) (by decide +kernel), List.mem_of_getElem? (i := 1403) (by decide +kernel), List.mem_of_getElem? (i := 1404) (by decide +kernel)⟩
theorem lw_p85 : lw_okq (⟨"FeatherCourtModel", "isDeed", "(I)Z"⟩, 67) := ⟨⟨by decide +kernel, by decide +kernel⟩, List.mem_of_getElem? (i := 1003) (by decide +kernel), List.mem_of_getElem? (i := 1411) (by decide +kernel), List.mem_of_getElem? (i := 1412) (by decide +kernel)⟩
theorem lw_p86 : lw_okq (⟨"FeatherCourtModel", "fineOf", "(II)I"⟩, 67) := ⟨⟨by decide +kernel, by decide +kernel⟩, List.mem_of_getElem? (i := 1003) (by decide +kernel), List.mem_of_getElem? (i := 1415) (by decide +kernel), List.mem_of_getElem? (i := 1416) (by decide +kernel)⟩
theorem lw_p87 : lw_okq (⟨"FeatherCourtModel", "copiesAll", "()V"⟩, 67) := ⟨⟨by decide +kernel, by decide +kernel⟩, List.mem_of_getElem? (i := 1003) (by decide +kernel), List.mem_of_getElem? (i := 1426) (by decide +kernel), List.mem_of_getElem? (i := 1427) (by decide +kernel)⟩
theorem lw_p88 : lw_okq (⟨"FeatherCourtModel", "moves", "(IIII)V"⟩, 67) := ⟨⟨by decide +kernel, by decide +kernel⟩, List.mem_of_getElem? (i := 1003) (by decide +kernel), List.mem_of_getElem? (i := 1430) (by decide +kernel), List.mem_of_getElem? (i := 1431) (by decide +kernel)⟩
theorem lw_p89 : lw_okq (⟨"FeatherCourtModel", "keeps", "()V"⟩, 67) := ⟨⟨by decide +kernel, by decide +kernel⟩, List.mem_of_getElem? (i := 1003) (by decide +kernel), List.mem_of_getElem? (i := 1434) (by decide +kernel), List.mem_of_getElem? (i := 1435) (by decide +kernel)⟩
theorem lw_p90 : lw_okq (⟨"FeatherCourtModel", "goesOver", "(III)Z"⟩, 67) := ⟨⟨by decide +kernel, by decide +kernel⟩, List.mem_of_getElem? (i := 1003) (by decide +kernel), List.mem_of_getElem? (i := 1451) (by decide +kernel), List.mem_of_getElem? (i := 1452) (by decide +kernel)⟩
theorem lw_p91 : lw_okq (⟨"FeatherCourtModel", "weekGoes", "()V"⟩, 67) := ⟨⟨by decide +kernel, by decide +kernel⟩, List.mem_of_getElem? (i := 1003) (by decide +kernel), List.mem_of_getElem? (i := 1467) (by decide +kernel), List.mem_of_getElem? (i := 1468) (by decide +kernel)⟩
theorem lw_p92 : lw_okq (⟨"FeatherCourtModel", "fillsQuilt", "(I)Z"⟩, 67) := ⟨⟨by decide +kernel, by decide +kernel⟩, List.mem_of_getElem? (i := 1003) (by decide +kernel), List.mem_of_getElem? (i := 1494) (by decide +kernel), List.mem_of_getElem? (i := 1495) (by decide +kernel)⟩
theorem lw_p93 : lw_okq (⟨"FeatherCourtModel", "fillsComes", "(I)V"⟩, 67) := ⟨⟨by decide +kernel, by decide +kernel⟩, List.mem_of_getElem? (i := 1003) (by decide +kernel), List.mem_of_getElem? (i := 1499) (by decide +kernel), List.mem_of_getElem? (i := 1500) (by decide +kernel)⟩
theorem lw_p94 : lw_okq (⟨"FeatherCourtModel", "stillWanted", "(III)I"⟩, 67) := ⟨⟨by decide +kernel, by decide +kernel⟩, List.mem_of_getElem? (i := 1003) (by decide +kernel), List.mem_of_getElem? (i := 1503) (by decide +kernel), List.mem_of_getElem? (i := 1504) (by decide +kernel)⟩
theorem lw_p95 : lw_okq (⟨"FeatherCourtModel", "electedNow", "()I"⟩, 67) := ⟨⟨by decide +kernel, by decide +kernel⟩, List.mem_of_getElem? (i := 1003) (by decide +kernel), List.mem_of_getElem? (i := 1515) (by decide +kernel), List.mem_of_getElem? (i := 1516) (by decide +kernel)⟩
def lw_privs_6 : List (MethodName × Nat) := [(⟨"FeatherCourtModel", "tells", "(II)I"⟩, 67), (⟨"FeatherCourtModel", "termOf", "(II)I"⟩, 67), (⟨"FeatherCourtModel", "fillsHave", "()V"⟩, 67), (⟨"FeatherCourtModel", "voteOf", "(I)I"⟩, 67), (⟨"FeatherCourtModel", "areTwo", "(II)Z"⟩, 67), (⟨"FeatherCourtModel", "isDeed", "(I)Z"⟩, 67), (⟨"FeatherCourtModel", "fineOf", "(II)I"⟩, 67), (⟨"FeatherCourtModel", "copiesAll", "()V"⟩, 67), (⟨"FeatherCourtModel", "moves", "(IIII)V"⟩, 67), (⟨"FeatherCourtModel", "keeps", "()V"⟩, 67), (⟨"FeatherCourtModel", "goesOver", "(III)Z"⟩, 67), (⟨"FeatherCourtModel", "weekGoes", "()V"⟩, 67), (⟨"FeatherCourtModel", "fillsQuilt", "(I)Z"⟩, 67), (⟨"FeatherCourtModel", "fillsComes", "(I)V"⟩, 67), (⟨"FeatherCourtModel", "stillWanted", "(III)I"⟩, 67), (⟨"FeatherCourtModel", "electedNow", "()I"⟩, 67)]
theorem lw_r6 : ∀ q ∈ lw_privs_6, lw_okq q := List.forall_mem_cons.mpr ⟨lw_p80, List.forall_mem_cons.mpr ⟨lw_p81, List.forall_mem_cons.mpr ⟨lw_p82, List.forall_mem_cons.mpr ⟨lw_p83, List.forall_mem_cons.mpr ⟨lw_p84, List.forall_mem_cons.mpr ⟨lw_p85, List.forall_mem_cons.mpr ⟨lw_p86, List.forall_mem_cons.mpr ⟨lw_p87, List.forall_mem_cons.mpr ⟨lw_p88, List.forall_mem_cons.mpr ⟨lw_p89, List.forall_mem_cons.mpr ⟨lw_p90, List.forall_mem_cons.mpr ⟨lw_p91, List.forall_mem_cons.mpr ⟨lw_p92, List.forall_mem_cons.mpr ⟨lw_p93, List.forall_mem_cons.mpr ⟨lw_p94, List.forall_mem_cons.mpr ⟨lw_p95, fun _ h => absurd h List.not_mem_nil⟩⟩⟩⟩⟩⟩⟩⟩⟩⟩⟩⟩⟩⟩⟩⟩
theorem lw_p96 : lw_okq (⟨"FeatherCourtModel", "fillsRows", "(II)V"⟩, 67) := ⟨⟨by decide +kernel, by decide +kernel⟩, List.mem_of_getElem? (i := 1003) (by decide +kernel), List.mem_of_getElem? (i := 1527) (by decide +kernel), List.mem_of_getElem? (i := 1528) (by decide +kernel)⟩
theorem lw_p97 : lw_okq (⟨"FeatherCourtModel", "isSo", "(III)Z"⟩, 67) := ⟨⟨by decide +kernel, by decide +kernel⟩, List.mem_of_getElem? (i := 1003) (by decide +kernel), List.mem_of_getElem? (i := 1547) (by decide +kernel), List.mem_of_getElem? (i := 1548) (by decide +kernel)⟩
def lw_privs_7 : List (MethodName × Nat) := [(⟨"FeatherCourtModel", "fillsRows", "(II)V"⟩, 67), (⟨"FeatherCourtModel", "isSo", "(III)Z"⟩, 67)]
theorem lw_r7 : ∀ q ∈ lw_privs_7, lw_okq q := List.forall_mem_cons.mpr ⟨lw_p96, List.forall_mem_cons.mpr ⟨lw_p97, fun _ h => absurd h List.not_mem_nil⟩⟩
def lw_privs : List (MethodName × Nat) := lw_privs_1 ++ (lw_privs_2 ++ (lw_privs_3 ++ (lw_privs_4 ++ (lw_privs_5 ++ (lw_privs_6 ++ (lw_privs_7))))))
def lw_tbl : List Cond := k2_sels lw_privs ++ tables_1
theorem lw_privs_ok : ∀ q ∈ lw_privs, lw_okq q := by
  show ∀ q ∈ lw_privs_1 ++ (lw_privs_2 ++ (lw_privs_3 ++ (lw_privs_4 ++ (lw_privs_5 ++ (lw_privs_6 ++ (lw_privs_7)))))), lw_okq q
  exact List.forall_mem_append.mpr ⟨lw_r1, List.forall_mem_append.mpr ⟨lw_r2, List.forall_mem_append.mpr ⟨lw_r3, List.forall_mem_append.mpr ⟨lw_r4, List.forall_mem_append.mpr ⟨lw_r5, List.forall_mem_append.mpr ⟨lw_r6, lw_r7⟩⟩⟩⟩⟩⟩
-- ===== end of PART A =====
theorem q_lw_all : True := trivial
def RX0 : String := "FeatherCourt$Done"
def TX0 : u_T := fun k => match k with
  | 0 => ("FeatherCourt$Done", "feathers", "[I", true)
  | 1 => ("FeatherCourt$Done", "entries", "I", false)
  | 2 => ("FeatherCourt$Done", "week", "I", false)
  | 3 => ("FeatherCourt$Done", "debtAt", "I", false)
  | 4 => ("FeatherCourt$Done", "debt", "I", false)
  | _ => ("FeatherCourt$Done", "appealed", "I", false)
def tyX0 : Nat → FieldType := fun k => match k with
  | 0 => .array .int
  | 1 => .int
  | 2 => .int
  | 3 => .int
  | 4 => .int
  | _ => .int
abbrev wsX00 : List Cond := u_ws RX0 TX0 6
theorem nmX0 : ∀ a, a < 6 → ∀ b, b < 6 → a ≠ b → (TX0 a).2.1 ≠ (TX0 b).2.1 := by decide +kernel
theorem tyX0_ok : ∀ k, k < 6 → parseFieldDescriptor (TX0 k).2.2.1 = some (tyX0 k) := by decide +kernel
abbrev cX0_init : ByteArray := prog_2_method_1_code
def yX0_init : MethodName := ⟨RX0, "<init>", "()V"⟩
abbrev cX0_keep : ByteArray := prog_2_method_2_code
def yX0_keep : MethodName := ⟨RX0, "keep", "(LFeatherCourt$State;)V"⟩
abbrev cX0_keepDebt : ByteArray := prog_2_method_3_code
def yX0_keepDebt : MethodName := ⟨RX0, "keepDebt", "(LFeatherCourt$State;I)V"⟩
abbrev cX0_giveBack : ByteArray := prog_2_method_4_code
def yX0_giveBack : MethodName := ⟨RX0, "giveBack", "(LFeatherCourt$State;)V"⟩
def RX1 : String := "FeatherCourt$Past"
def TX1 : u_T := fun k => match k with
  | 0 => ("FeatherCourt$Past", "ring", "[LFeatherCourt$Done;", true)
  | 1 => ("FeatherCourt$Past", "next", "I", false)
  | _ => ("FeatherCourt$Past", "size", "I", false)
def tyX1 : Nat → FieldType := fun k => match k with
  | 0 => .array (.object "FeatherCourt$Done")
  | 1 => .int
  | _ => .int
abbrev wsX10 : List Cond := u_ws RX1 TX1 3
theorem nmX1 : ∀ a, a < 3 → ∀ b, b < 3 → a ≠ b → (TX1 a).2.1 ≠ (TX1 b).2.1 := by decide +kernel
theorem tyX1_ok : ∀ k, k < 3 → parseFieldDescriptor (TX1 k).2.2.1 = some (tyX1 k) := by decide +kernel
abbrev cX1_init : ByteArray := prog_3_method_1_code
def yX1_init : MethodName := ⟨RX1, "<init>", "()V"⟩
abbrev cX1_note : ByteArray := prog_3_method_2_code
def yX1_note : MethodName := ⟨RX1, "note", "(LFeatherCourt$State;)LFeatherCourt$Done;"⟩
abbrev cX1_takeBack : ByteArray := prog_3_method_3_code
def yX1_takeBack : MethodName := ⟨RX1, "takeBack", "(LFeatherCourt$State;)Z"⟩
def RX2 : String := "FeatherCourt$Poll"
def TX2 : u_T := fun k => match k with
  | 0 => ("FeatherCourt$Poll", "likes", "[I", true)
  | 1 => ("FeatherCourt$Poll", "haves", "[I", true)
  | 2 => ("FeatherCourt$Poll", "votes", "[I", true)
  | _ => ("FeatherCourt$Poll", "men", "I", false)
def tyX2 : Nat → FieldType := fun k => match k with
  | 0 => .array .int
  | 1 => .array .int
  | 2 => .array .int
  | _ => .int
abbrev wsX20 : List Cond := u_ws RX2 TX2 4
theorem nmX2 : ∀ a, a < 4 → ∀ b, b < 4 → a ≠ b → (TX2 a).2.1 ≠ (TX2 b).2.1 := by decide +kernel
theorem tyX2_ok : ∀ k, k < 4 → parseFieldDescriptor (TX2 k).2.2.1 = some (tyX2 k) := by decide +kernel
abbrev cX2_init : ByteArray := prog_4_method_1_code
def yX2_init : MethodName := ⟨RX2, "<init>", "()V"⟩
abbrev cX2_choiceOf : ByteArray := prog_4_method_2_code
def yX2_choiceOf : MethodName := ⟨RX2, "choiceOf", "(I)I"⟩
abbrev cX2_elect : ByteArray := prog_4_method_3_code
def yX2_elect : MethodName := ⟨RX2, "elect", "()I"⟩
def RX3 : String := "FeatherCourt$Program"
def TX3 : u_T := fun k => match k with
  | 0 => ("FeatherCourt$Program", "step", "[I", true)
  | 1 => ("FeatherCourt$Program", "with", "[I", true)
  | 2 => ("FeatherCourt$Program", "steps", "I", false)
  | 3 => ("FeatherCourt$Program", "men", "I", false)
  | 4 => ("FeatherCourt$Program", "deeds", "I", false)
  | 5 => ("FeatherCourt$Program", "colds", "I", false)
  | 6 => ("FeatherCourt$Program", "moult", "I", false)
  | 7 => ("FeatherCourt$Program", "feathers", "[I", true)
  | 8 => ("FeatherCourt$Program", "guilt", "[I", true)
  | 9 => ("FeatherCourt$Program", "cold", "[I", true)
  | 10 => ("FeatherCourt$Program", "fineAt", "[I", true)
  | 11 => ("FeatherCourt$Program", "voteAt", "[I", true)
  | 12 => ("FeatherCourt$Program", "growAt", "[I", true)
  | 13 => ("FeatherCourt$Program", "warmAt", "[I", true)
  | 14 => ("FeatherCourt$Program", "seen", "[I", true)
  | _ => ("FeatherCourt$Program", "stack", "[I", true)
def tyX3 : Nat → FieldType := fun k => match k with
  | 0 => .array .int
  | 1 => .array .int
  | 2 => .int
  | 3 => .int
  | 4 => .int
  | 5 => .int
  | 6 => .int
  | 7 => .array .int
  | 8 => .array .int
  | 9 => .array .int
  | 10 => .array .int
  | 11 => .array .int
  | 12 => .array .int
  | 13 => .array .int
  | 14 => .array .int
  | _ => .array .int
abbrev wsX30 : List Cond := u_ws RX3 TX3 16
theorem nmX3 : ∀ a, a < 16 → ∀ b, b < 16 → a ≠ b → (TX3 a).2.1 ≠ (TX3 b).2.1 := by decide +kernel
theorem tyX3_ok : ∀ k, k < 16 → parseFieldDescriptor (TX3 k).2.2.1 = some (tyX3 k) := by decide +kernel
abbrev cX3_init : ByteArray := prog_5_method_1_code
def yX3_init : MethodName := ⟨RX3, "<init>", "()V"⟩
abbrev cX3_empty : ByteArray := prog_5_method_2_code
def yX3_empty : MethodName := ⟨RX3, "empty", "()V"⟩
abbrev cX3_emit : ByteArray := prog_5_method_3_code
def yX3_emit : MethodName := ⟨RX3, "emit", "(II)I"⟩
abbrev cX3_see : ByteArray := prog_5_method_4_code
def yX3_see : MethodName := ⟨RX3, "see", "(IIIII)V"⟩
abbrev cX3_worth : ByteArray := prog_5_method_5_code
def yX3_worth : MethodName := ⟨RX3, "worth", "(I)I"⟩
abbrev cX3_reckon : ByteArray := prog_5_method_6_code
def yX3_reckon : MethodName := ⟨RX3, "reckon", "(III)I"⟩
def RX4 : String := "FeatherCourt$Quilt"
def TX4 : u_T := fun k => match k with
  | 0 => ("FeatherCourt$Quilt", "fines", "[I", true)
  | 1 => ("FeatherCourt$Quilt", "haves", "[I", true)
  | 2 => ("FeatherCourt$Quilt", "least", "[[I", true)
  | 3 => ("FeatherCourt$Quilt", "guiltOf", "[I", true)
  | 4 => ("FeatherCourt$Quilt", "comeBy", "[I", true)
  | 5 => ("FeatherCourt$Quilt", "offerCome", "[I", true)
  | 6 => ("FeatherCourt$Quilt", "offerGuilt", "[I", true)
  | 7 => ("FeatherCourt$Quilt", "chosen", "[I", true)
  | 8 => ("FeatherCourt$Quilt", "guilt", "I", false)
  | _ => ("FeatherCourt$Quilt", "feathers", "I", false)
def tyX4 : Nat → FieldType := fun k => match k with
  | 0 => .array .int
  | 1 => .array .int
  | 2 => .array (.array .int)
  | 3 => .array .int
  | 4 => .array .int
  | 5 => .array .int
  | 6 => .array .int
  | 7 => .array .int
  | 8 => .int
  | _ => .int
abbrev wsX40 : List Cond := u_ws RX4 TX4 10
theorem nmX4 : ∀ a, a < 10 → ∀ b, b < 10 → a ≠ b → (TX4 a).2.1 ≠ (TX4 b).2.1 := by decide +kernel
theorem tyX4_ok : ∀ k, k < 10 → parseFieldDescriptor (TX4 k).2.2.1 = some (tyX4 k) := by decide +kernel
abbrev cX4_init : ByteArray := prog_6_method_1_code
def yX4_init : MethodName := ⟨RX4, "<init>", "()V"⟩
abbrev cX4_sew : ByteArray := prog_6_method_2_code
def yX4_sew : MethodName := ⟨RX4, "sew", "(LFeatherCourt$Program;I)Z"⟩
abbrev cX4_choose : ByteArray := prog_6_method_3_code
def yX4_choose : MethodName := ⟨RX4, "choose", "(LFeatherCourt$Program;I)V"⟩
abbrev cX4_sumGuilt : ByteArray := prog_6_method_4_code
def yX4_sumGuilt : MethodName := ⟨RX4, "sumGuilt", "(LFeatherCourt$Program;)V"⟩
abbrev cX4_sumFines : ByteArray := prog_6_method_5_code
def yX4_sumFines : MethodName := ⟨RX4, "sumFines", "(II)V"⟩
abbrev cX4_gatherOffers : ByteArray := prog_6_method_6_code
def yX4_gatherOffers : MethodName := ⟨RX4, "gatherOffers", "(II)I"⟩
abbrev cX4_leastGuilt : ByteArray := prog_6_method_7_code
def yX4_leastGuilt : MethodName := ⟨RX4, "leastGuilt", "(III)I"⟩
abbrev cX4_firstOfLeast : ByteArray := prog_6_method_8_code
def yX4_firstOfLeast : MethodName := ⟨RX4, "firstOfLeast", "(III)I"⟩
def RX5 : String := "FeatherCourt$Reader"
def TX5 : u_T := fun k => match k with
  | 0 => ("FeatherCourt$Reader", "manNames", "[J", true)
  | 1 => ("FeatherCourt$Reader", "deedNames", "[J", true)
  | 2 => ("FeatherCourt$Reader", "tape", "LFeatherCourt$Tape;", false)
  | 3 => ("FeatherCourt$Reader", "into", "LFeatherCourt$Program;", false)
  | 4 => ("FeatherCourt$Reader", "ahead", "I", false)
  | 5 => ("FeatherCourt$Reader", "kind", "I", false)
  | 6 => ("FeatherCourt$Reader", "taken", "I", false)
  | 7 => ("FeatherCourt$Reader", "fault", "I", false)
  | 8 => ("FeatherCourt$Reader", "faultPlace", "I", false)
  | 9 => ("FeatherCourt$Reader", "laterFault", "I", false)
  | _ => ("FeatherCourt$Reader", "laterPlace", "I", false)
def tyX5 : Nat → FieldType := fun k => match k with
  | 0 => .array .long
  | 1 => .array .long
  | 2 => .object "FeatherCourt$Tape"
  | 3 => .object "FeatherCourt$Program"
  | 4 => .int
  | 5 => .int
  | 6 => .int
  | 7 => .int
  | 8 => .int
  | 9 => .int
  | _ => .int
abbrev wsX50 : List Cond := u_ws RX5 TX5 11
theorem nmX5 : ∀ a, a < 11 → ∀ b, b < 11 → a ≠ b → (TX5 a).2.1 ≠ (TX5 b).2.1 := by decide +kernel
theorem tyX5_ok : ∀ k, k < 11 → parseFieldDescriptor (TX5 k).2.2.1 = some (tyX5 k) := by decide +kernel
abbrev cX5_init : ByteArray := prog_7_method_1_code
def yX5_init : MethodName := ⟨RX5, "<init>", "()V"⟩
abbrev cX5_parse : ByteArray := prog_7_method_2_code
def yX5_parse : MethodName := ⟨RX5, "parse", "(LFeatherCourt$Tape;LFeatherCourt$Program;)V"⟩
abbrev cX5_fail : ByteArray := prog_7_method_3_code
def yX5_fail : MethodName := ⟨RX5, "fail", "(I)Z"⟩
abbrev cX5_failLater : ByteArray := prog_7_method_4_code
def yX5_failLater : MethodName := ⟨RX5, "failLater", "(II)V"⟩
abbrev cX5_take : ByteArray := prog_7_method_5_code
def yX5_take : MethodName := ⟨RX5, "take", "(I)Z"⟩
abbrev cX5_takeInt : ByteArray := prog_7_method_6_code
def yX5_takeInt : MethodName := ⟨RX5, "takeInt", "(II)Z"⟩
abbrev cX5_takeNewName : ByteArray := prog_7_method_7_code
def yX5_takeNewName : MethodName := ⟨RX5, "takeNewName", "([JI)Z"⟩
abbrev cX5_takeOldName : ByteArray := prog_7_method_8_code
def yX5_takeOldName : MethodName := ⟨RX5, "takeOldName", "([JI)Z"⟩
abbrev cX5_find : ByteArray := prog_7_method_9_code
def yX5_find : MethodName := ⟨RX5, "find", "([JIJ)I"⟩
abbrev cX5_takeTell : ByteArray := prog_7_method_10_code
def yX5_takeTell : MethodName := ⟨RX5, "takeTell", "()Z"⟩
abbrev cX5_takeMan : ByteArray := prog_7_method_11_code
def yX5_takeMan : MethodName := ⟨RX5, "takeMan", "()Z"⟩
abbrev cX5_takeDeed : ByteArray := prog_7_method_12_code
def yX5_takeDeed : MethodName := ⟨RX5, "takeDeed", "()Z"⟩
abbrev cX5_takeCold : ByteArray := prog_7_method_13_code
def yX5_takeCold : MethodName := ⟨RX5, "takeCold", "()Z"⟩
abbrev cX5_takeMoult : ByteArray := prog_7_method_14_code
def yX5_takeMoult : MethodName := ⟨RX5, "takeMoult", "()Z"⟩
abbrev cX5_takeLaw : ByteArray := prog_7_method_15_code
def yX5_takeLaw : MethodName := ⟨RX5, "takeLaw", "([II)Z"⟩
abbrev cX5_takeSum : ByteArray := prog_7_method_16_code
def yX5_takeSum : MethodName := ⟨RX5, "takeSum", "(I)Z"⟩
abbrev cX5_takePart : ByteArray := prog_7_method_17_code
def yX5_takePart : MethodName := ⟨RX5, "takePart", "(I)Z"⟩
abbrev cX5_takeUnit : ByteArray := prog_7_method_18_code
def yX5_takeUnit : MethodName := ⟨RX5, "takeUnit", "(I)Z"⟩
def RX6 : String := "FeatherCourt$State"
def TX6 : u_T := fun k => match k with
  | 0 => ("FeatherCourt$State", "feathers", "[I", true)
  | 1 => ("FeatherCourt$State", "debts", "[I", true)
  | 2 => ("FeatherCourt$State", "times", "[I", true)
  | 3 => ("FeatherCourt$State", "entryWhat", "[I", true)
  | 4 => ("FeatherCourt$State", "entryWeek", "[I", true)
  | 5 => ("FeatherCourt$State", "entries", "I", false)
  | _ => ("FeatherCourt$State", "week", "I", false)
def tyX6 : Nat → FieldType := fun k => match k with
  | 0 => .array .int
  | 1 => .array .int
  | 2 => .array .int
  | 3 => .array .int
  | 4 => .array .int
  | 5 => .int
  | _ => .int
abbrev wsX60 : List Cond := u_ws RX6 TX6 7
theorem nmX6 : ∀ a, a < 7 → ∀ b, b < 7 → a ≠ b → (TX6 a).2.1 ≠ (TX6 b).2.1 := by decide +kernel
theorem tyX6_ok : ∀ k, k < 7 → parseFieldDescriptor (TX6 k).2.2.1 = some (tyX6 k) := by decide +kernel
abbrev cX6_init : ByteArray := prog_8_method_1_code
def yX6_init : MethodName := ⟨RX6, "<init>", "()V"⟩
abbrev cX6_empty : ByteArray := prog_8_method_2_code
def yX6_empty : MethodName := ⟨RX6, "empty", "()V"⟩
abbrev cX6_copyFrom : ByteArray := prog_8_method_3_code
def yX6_copyFrom : MethodName := ⟨RX6, "copyFrom", "(LFeatherCourt$State;)V"⟩
abbrev cX6_inRow : ByteArray := prog_8_method_4_code
def yX6_inRow : MethodName := ⟨RX6, "inRow", "(I)I"⟩
abbrev cX6_grownOn : ByteArray := prog_8_method_5_code
def yX6_grownOn : MethodName := ⟨RX6, "grownOn", "(I)I"⟩
abbrev cX6_pluck : ByteArray := prog_8_method_6_code
def yX6_pluck : MethodName := ⟨RX6, "pluck", "(III)I"⟩
abbrev cX6_move : ByteArray := prog_8_method_7_code
def yX6_move : MethodName := ⟨RX6, "move", "(IIII)I"⟩
abbrev cX6_timesOf : ByteArray := prog_8_method_8_code
def yX6_timesOf : MethodName := ⟨RX6, "timesOf", "(I)I"⟩
abbrev cX6_countTimes : ByteArray := prog_8_method_9_code
def yX6_countTimes : MethodName := ⟨RX6, "countTimes", "(I)V"⟩
abbrev cX6_net : ByteArray := prog_8_method_10_code
def yX6_net : MethodName := ⟨RX6, "net", "(I)I"⟩
abbrev cX6_writeDown : ByteArray := prog_8_method_11_code
def yX6_writeDown : MethodName := ⟨RX6, "writeDown", "(III)V"⟩
abbrev cX6_entryMan : ByteArray := prog_8_method_12_code
def yX6_entryMan : MethodName := ⟨RX6, "entryMan", "(I)I"⟩
abbrev cX6_entryDeed : ByteArray := prog_8_method_13_code
def yX6_entryDeed : MethodName := ⟨RX6, "entryDeed", "(I)I"⟩
abbrev cX6_entryPlucked : ByteArray := prog_8_method_14_code
def yX6_entryPlucked : MethodName := ⟨RX6, "entryPlucked", "(I)I"⟩
abbrev cX6_isAppealed : ByteArray := prog_8_method_15_code
def yX6_isAppealed : MethodName := ⟨RX6, "isAppealed", "(I)Z"⟩
abbrev cX6_setAppealed : ByteArray := prog_8_method_16_code
def yX6_setAppealed : MethodName := ⟨RX6, "setAppealed", "(IZ)V"⟩
def RX7 : String := "FeatherCourt$Tape"
def TX7 : u_T := fun k => match k with
  | 0 => ("FeatherCourt$Tape", "bytes", "[B", true)
  | 1 => ("FeatherCourt$Tape", "length", "I", false)
  | 2 => ("FeatherCourt$Tape", "kinds", "[I", true)
  | 3 => ("FeatherCourt$Tape", "starts", "[I", true)
  | 4 => ("FeatherCourt$Tape", "values", "[J", true)
  | 5 => ("FeatherCourt$Tape", "words", "[J", true)
  | _ => ("FeatherCourt$Tape", "at", "I", false)
def tyX7 : Nat → FieldType := fun k => match k with
  | 0 => .array .byte
  | 1 => .int
  | 2 => .array .int
  | 3 => .array .int
  | 4 => .array .long
  | 5 => .array .long
  | _ => .int
abbrev wsX70 : List Cond := u_ws RX7 TX7 7
theorem nmX7 : ∀ a, a < 7 → ∀ b, b < 7 → a ≠ b → (TX7 a).2.1 ≠ (TX7 b).2.1 := by decide +kernel
theorem tyX7_ok : ∀ k, k < 7 → parseFieldDescriptor (TX7 k).2.2.1 = some (tyX7 k) := by decide +kernel
abbrev cX7_init : ByteArray := prog_9_method_1_code
def yX7_init : MethodName := ⟨RX7, "<init>", "()V"⟩
abbrev cX7_hasRoomFor : ByteArray := prog_9_method_2_code
def yX7_hasRoomFor : MethodName := ⟨RX7, "hasRoomFor", "(I)Z"⟩
abbrev cX7_append : ByteArray := prog_9_method_3_code
def yX7_append : MethodName := ⟨RX7, "append", "(I)V"⟩
abbrev cX7_scan : ByteArray := prog_9_method_4_code
def yX7_scan : MethodName := ⟨RX7, "scan", "()V"⟩
abbrev cX7_scanToken : ByteArray := prog_9_method_5_code
def yX7_scanToken : MethodName := ⟨RX7, "scanToken", "(I)I"⟩
abbrev cX7_scanLetters : ByteArray := prog_9_method_6_code
def yX7_scanLetters : MethodName := ⟨RX7, "scanLetters", "(I)I"⟩
abbrev cX7_scanDigits : ByteArray := prog_9_method_7_code
def yX7_scanDigits : MethodName := ⟨RX7, "scanDigits", "(I)I"⟩
abbrev cX7_withLetter : ByteArray := prog_9_method_8_code
def yX7_withLetter : MethodName := ⟨RX7, "withLetter", "(JI)J"⟩
abbrev cX7_byteAt : ByteArray := prog_9_method_9_code
def yX7_byteAt : MethodName := ⟨RX7, "byteAt", "(I)I"⟩
abbrev cX7_isBlank : ByteArray := prog_9_method_10_code
def yX7_isBlank : MethodName := ⟨RX7, "isBlank", "(I)Z"⟩
abbrev cX7_isLetter : ByteArray := prog_9_method_11_code
def yX7_isLetter : MethodName := ⟨RX7, "isLetter", "(I)Z"⟩
abbrev cX7_isDigit : ByteArray := prog_9_method_12_code
def yX7_isDigit : MethodName := ⟨RX7, "isDigit", "(I)Z"⟩
def RX8 : String := "FeatherCourt$Tests"
def TX8 : u_T := fun k => match k with
  | 0 => ("FeatherCourt$Tests", "sets", "[I", true)
  | 1 => ("FeatherCourt$Tests", "many", "[I", true)
  | 2 => ("FeatherCourt$Tests", "missing", "[I", true)
  | _ => ("FeatherCourt$Tests", "size", "I", false)
def tyX8 : Nat → FieldType := fun k => match k with
  | 0 => .array .int
  | 1 => .array .int
  | 2 => .array .int
  | _ => .int
abbrev wsX80 : List Cond := u_ws RX8 TX8 4
theorem nmX8 : ∀ a, a < 4 → ∀ b, b < 4 → a ≠ b → (TX8 a).2.1 ≠ (TX8 b).2.1 := by decide +kernel
theorem tyX8_ok : ∀ k, k < 4 → parseFieldDescriptor (TX8 k).2.2.1 = some (tyX8 k) := by decide +kernel
abbrev cX8_init : ByteArray := prog_10_method_1_code
def yX8_init : MethodName := ⟨RX8, "<init>", "()V"⟩
abbrev cX8_lookAt : ByteArray := prog_10_method_2_code
def yX8_lookAt : MethodName := ⟨RX8, "lookAt", "(LFeatherCourt$State;I)V"⟩
abbrev cX8_agree : ByteArray := prog_10_method_3_code
def yX8_agree : MethodName := ⟨RX8, "agree", "(III)Z"⟩
def RX9 : String := "FeatherCourt"
def TX9 : u_T := fun k => match k with
  | 0 => ("FeatherCourt", "tape", "LFeatherCourt$Tape;", true)
  | 1 => ("FeatherCourt", "reader", "LFeatherCourt$Reader;", true)
  | 2 => ("FeatherCourt", "law", "LFeatherCourt$Program;", false)
  | 3 => ("FeatherCourt", "spare", "LFeatherCourt$Program;", false)
  | 4 => ("FeatherCourt", "now", "LFeatherCourt$State;", true)
  | 5 => ("FeatherCourt", "slots", "[LFeatherCourt$State;", true)
  | 6 => ("FeatherCourt", "held", "[Z", true)
  | 7 => ("FeatherCourt", "past", "LFeatherCourt$Past;", true)
  | 8 => ("FeatherCourt", "tests", "LFeatherCourt$Tests;", true)
  | 9 => ("FeatherCourt", "sewing", "LFeatherCourt$Quilt;", true)
  | 10 => ("FeatherCourt", "poll", "LFeatherCourt$Poll;", true)
  | 11 => ("FeatherCourt", "fines", "[I", true)
  | 12 => ("FeatherCourt", "always", "[I", true)
  | 13 => ("FeatherCourt", "netSums", "[I", true)
  | _ => ("FeatherCourt", "netGroups", "[I", true)
def tyX9 : Nat → FieldType := fun k => match k with
  | 0 => .object "FeatherCourt$Tape"
  | 1 => .object "FeatherCourt$Reader"
  | 2 => .object "FeatherCourt$Program"
  | 3 => .object "FeatherCourt$Program"
  | 4 => .object "FeatherCourt$State"
  | 5 => .array (.object "FeatherCourt$State")
  | 6 => .array .boolean
  | 7 => .object "FeatherCourt$Past"
  | 8 => .object "FeatherCourt$Tests"
  | 9 => .object "FeatherCourt$Quilt"
  | 10 => .object "FeatherCourt$Poll"
  | 11 => .array .int
  | 12 => .array .int
  | 13 => .array .int
  | _ => .array .int
abbrev wsX90 : List Cond := u_ws RX9 TX9 15
theorem nmX9 : ∀ a, a < 15 → ∀ b, b < 15 → a ≠ b → (TX9 a).2.1 ≠ (TX9 b).2.1 := by decide +kernel
theorem tyX9_ok : ∀ k, k < 15 → parseFieldDescriptor (TX9 k).2.2.1 = some (tyX9 k) := by decide +kernel
abbrev cX9_init : ByteArray := prog_1_method_1_code
def yX9_init : MethodName := ⟨RX9, "<init>", "()V"⟩
abbrev cX9_feed : ByteArray := prog_1_method_2_code
def yX9_feed : MethodName := ⟨RX9, "feed", "(IIIII)I"⟩
abbrev cX9_back : ByteArray := prog_1_method_3_code
def yX9_back : MethodName := ⟨RX9, "back", "(I)I"⟩
abbrev cX9_read : ByteArray := prog_1_method_4_code
def yX9_read : MethodName := ⟨RX9, "read", "()I"⟩
abbrev cX9_beginAnew : ByteArray := prog_1_method_5_code
def yX9_beginAnew : MethodName := ⟨RX9, "beginAnew", "()V"⟩
abbrev cX9_place : ByteArray := prog_1_method_6_code
def yX9_place : MethodName := ⟨RX9, "place", "()I"⟩
abbrev cX9_isMan : ByteArray := prog_1_method_7_code
def yX9_isMan : MethodName := ⟨RX9, "isMan", "(I)Z"⟩
abbrev cX9_isDeed : ByteArray := prog_1_method_8_code
def yX9_isDeed : MethodName := ⟨RX9, "isDeed", "(I)Z"⟩
abbrev cX9_areTwoMen : ByteArray := prog_1_method_9_code
def yX9_areTwoMen : MethodName := ⟨RX9, "areTwoMen", "(II)Z"⟩
abbrev cX9_isEntry : ByteArray := prog_1_method_10_code
def yX9_isEntry : MethodName := ⟨RX9, "isEntry", "(I)Z"⟩
abbrev cX9_man : ByteArray := prog_1_method_11_code
def yX9_man : MethodName := ⟨RX9, "man", "(II)I"⟩
abbrev cX9_choiceOf : ByteArray := prog_1_method_12_code
def yX9_choiceOf : MethodName := ⟨RX9, "choiceOf", "(I)I"⟩
abbrev cX9_led : ByteArray := prog_1_method_13_code
def yX9_led : MethodName := ⟨RX9, "led", "(II)I"⟩
abbrev cX9_debt : ByteArray := prog_1_method_14_code
def yX9_debt : MethodName := ⟨RX9, "debt", "(II)I"⟩
abbrev cX9_tariff : ByteArray := prog_1_method_15_code
def yX9_tariff : MethodName := ⟨RX9, "tariff", "(II)I"⟩
abbrev cX9_fineNow : ByteArray := prog_1_method_16_code
def yX9_fineNow : MethodName := ⟨RX9, "fineNow", "(II)I"⟩
abbrev cX9_withinLaw : ByteArray := prog_1_method_17_code
def yX9_withinLaw : MethodName := ⟨RX9, "withinLaw", "(I)I"⟩
abbrev cX9_entry : ByteArray := prog_1_method_18_code
def yX9_entry : MethodName := ⟨RX9, "entry", "(II)I"⟩
abbrev cX9_count : ByteArray := prog_1_method_19_code
def yX9_count : MethodName := ⟨RX9, "count", "(I)I"⟩
abbrev cX9_onAllGeese : ByteArray := prog_1_method_20_code
def yX9_onAllGeese : MethodName := ⟨RX9, "onAllGeese", "()I"⟩
abbrev cX9_slotsHeld : ByteArray := prog_1_method_21_code
def yX9_slotsHeld : MethodName := ⟨RX9, "slotsHeld", "()I"⟩
abbrev cX9_fine : ByteArray := prog_1_method_22_code
def yX9_fine : MethodName := ⟨RX9, "fine", "(II)I"⟩
abbrev cX9_countTimes : ByteArray := prog_1_method_23_code
def yX9_countTimes : MethodName := ⟨RX9, "countTimes", "()V"⟩
abbrev cX9_appeal : ByteArray := prog_1_method_24_code
def yX9_appeal : MethodName := ⟨RX9, "appeal", "(I)I"⟩
abbrev cX9_stuff : ByteArray := prog_1_method_25_code
def yX9_stuff : MethodName := ⟨RX9, "stuff", "(III)Z"⟩
abbrev cX9_canStuff : ByteArray := prog_1_method_26_code
def yX9_canStuff : MethodName := ⟨RX9, "canStuff", "(III)Z"⟩
abbrev cX9_hasRoom : ByteArray := prog_1_method_27_code
def yX9_hasRoom : MethodName := ⟨RX9, "hasRoom", "(II)Z"⟩
abbrev cX9_lend : ByteArray := prog_1_method_28_code
def yX9_lend : MethodName := ⟨RX9, "lend", "(III)Z"⟩
abbrev cX9_repay : ByteArray := prog_1_method_29_code
def yX9_repay : MethodName := ⟨RX9, "repay", "(III)I"⟩
abbrev cX9_weeks : ByteArray := prog_1_method_30_code
def yX9_weeks : MethodName := ⟨RX9, "weeks", "(I)I"⟩
abbrev cX9_undo : ByteArray := prog_1_method_31_code
def yX9_undo : MethodName := ⟨RX9, "undo", "()Z"⟩
abbrev cX9_hold : ByteArray := prog_1_method_32_code
def yX9_hold : MethodName := ⟨RX9, "hold", "(I)Z"⟩
abbrev cX9_restore : ByteArray := prog_1_method_33_code
def yX9_restore : MethodName := ⟨RX9, "restore", "(I)Z"⟩
abbrev cX9_timesIn : ByteArray := prog_1_method_34_code
def yX9_timesIn : MethodName := ⟨RX9, "timesIn", "(II)I"⟩
abbrev cX9_haveNext : ByteArray := prog_1_method_35_code
def yX9_haveNext : MethodName := ⟨RX9, "haveNext", "(III)I"⟩
abbrev cX9_haveBehind : ByteArray := prog_1_method_36_code
def yX9_haveBehind : MethodName := ⟨RX9, "haveBehind", "(II)I"⟩
abbrev cX9_isWarm : ByteArray := prog_1_method_37_code
def yX9_isWarm : MethodName := ⟨RX9, "isWarm", "(III)Z"⟩
abbrev cX9_warmBy : ByteArray := prog_1_method_38_code
def yX9_warmBy : MethodName := ⟨RX9, "warmBy", "(I)I"⟩
abbrev cX9_warm : ByteArray := prog_1_method_39_code
def yX9_warm : MethodName := ⟨RX9, "warm", "(I)I"⟩
abbrev cX9_payments : ByteArray := prog_1_method_40_code
def yX9_payments : MethodName := ⟨RX9, "payments", "()I"⟩
abbrev cX9_mostGroupsWithin : ByteArray := prog_1_method_41_code
def yX9_mostGroupsWithin : MethodName := ⟨RX9, "mostGroupsWithin", "(I)I"⟩
abbrev cX9_quilt : ByteArray := prog_1_method_42_code
def yX9_quilt : MethodName := ⟨RX9, "quilt", "(II)I"⟩
abbrev cX9_quiltOf : ByteArray := prog_1_method_43_code
def yX9_quiltOf : MethodName := ⟨RX9, "quiltOf", "(II)I"⟩
abbrev cX9_isQuilt : ByteArray := prog_1_method_44_code
def yX9_isQuilt : MethodName := ⟨RX9, "isQuilt", "(I)Z"⟩
abbrev cX9_sew : ByteArray := prog_1_method_45_code
def yX9_sew : MethodName := ⟨RX9, "sew", "(I)Z"⟩
abbrev cX9_likeAll : ByteArray := prog_1_method_46_code
def yX9_likeAll : MethodName := ⟨RX9, "likeAll", "()V"⟩
abbrev cX9_like : ByteArray := prog_1_method_47_code
def yX9_like : MethodName := ⟨RX9, "like", "(II)V"⟩
abbrev cX9_elected : ByteArray := prog_1_method_48_code
def yX9_elected : MethodName := ⟨RX9, "elected", "(I)I"⟩
abbrev cX9_bald : ByteArray := prog_1_method_49_code
def yX9_bald : MethodName := ⟨RX9, "bald", "(I)I"⟩
abbrev cX9_did : ByteArray := prog_1_method_50_code
def yX9_did : MethodName := ⟨RX9, "did", "(II)I"⟩
abbrev cX9_surely : ByteArray := prog_1_method_51_code
def yX9_surely : MethodName := ⟨RX9, "surely", "(II)I"⟩
abbrev cX9_isLack : ByteArray := prog_1_method_52_code
def yX9_isLack : MethodName := ⟨RX9, "isLack", "(II)Z"⟩
abbrev cX9_countRowsOf : ByteArray := prog_1_method_53_code
def yX9_countRowsOf : MethodName := ⟨RX9, "countRowsOf", "(II)I"⟩
abbrev cX9_countRows : ByteArray := prog_1_method_54_code
def yX9_countRows : MethodName := ⟨RX9, "countRows", "([IIIII[I)I"⟩
abbrev cX9_tell : ByteArray := prog_1_method_55_code
def yX9_tell : MethodName := ⟨RX9, "tell", "(II)I"⟩
abbrev cX9_forget : ByteArray := prog_1_method_56_code
def yX9_forget : MethodName := ⟨RX9, "forget", "()I"⟩
abbrev cX9_stuffer : ByteArray := prog_1_method_57_code
def yX9_stuffer : MethodName := ⟨RX9, "stuffer", "(III)I"⟩
def RX10 : String := "FeatherCourtModel"
def TX10 : u_T := fun k => match k with
  | 0 => ("FeatherCourtModel", "thrown", "I", false)
  | 1 => ("FeatherCourtModel", "tape", "[B", true)
  | 2 => ("FeatherCourtModel", "taped", "I", false)
  | 3 => ("FeatherCourtModel", "text", "[B", true)
  | 4 => ("FeatherCourtModel", "size", "I", false)
  | 5 => ("FeatherCourtModel", "tKind", "[I", true)
  | 6 => ("FeatherCourtModel", "tPlace", "[I", true)
  | 7 => ("FeatherCourtModel", "tValue", "[I", true)
  | 8 => ("FeatherCourtModel", "tName", "[J", true)
  | 9 => ("FeatherCourtModel", "keys", "[J", true)
  | 10 => ("FeatherCourtModel", "tokens", "I", false)
  | 11 => ("FeatherCourtModel", "t", "I", false)
  | 12 => ("FeatherCourtModel", "open", "I", false)
  | 13 => ("FeatherCourtModel", "fault", "I", false)
  | 14 => ("FeatherCourtModel", "faultPlace", "I", false)
  | 15 => ("FeatherCourtModel", "worst", "I", false)
  | 16 => ("FeatherCourtModel", "worstPlace", "I", false)
  | 17 => ("FeatherCourtModel", "place", "I", false)
  | 18 => ("FeatherCourtModel", "live", "I", false)
  | 19 => ("FeatherCourtModel", "side", "I", false)
  | 20 => ("FeatherCourtModel", "names", "I", false)
  | 21 => ("FeatherCourtModel", "nameOf", "[J", true)
  | 22 => ("FeatherCourtModel", "nameSort", "[I", true)
  | 23 => ("FeatherCourtModel", "nameAt", "[I", true)
  | 24 => ("FeatherCourtModel", "men", "[I", true)
  | 25 => ("FeatherCourtModel", "feathersTold", "[I", true)
  | 26 => ("FeatherCourtModel", "deeds", "[I", true)
  | 27 => ("FeatherCourtModel", "guilt", "[I", true)
  | 28 => ("FeatherCourtModel", "colds", "[I", true)
  | 29 => ("FeatherCourtModel", "cold", "[I", true)
  | 30 => ("FeatherCourtModel", "moult", "[I", true)
  | 31 => ("FeatherCourtModel", "lawFirst", "[I", true)
  | 32 => ("FeatherCourtModel", "lawLast", "[I", true)
  | 33 => ("FeatherCourtModel", "branches", "I", false)
  | 34 => ("FeatherCourtModel", "hasTest", "[Z", true)
  | 35 => ("FeatherCourtModel", "testFrom", "[I", true)
  | 36 => ("FeatherCourtModel", "testMid", "[I", true)
  | 37 => ("FeatherCourtModel", "testTo", "[I", true)
  | 38 => ("FeatherCourtModel", "termTo", "[I", true)
  | 39 => ("FeatherCourtModel", "codes", "I", false)
  | 40 => ("FeatherCourtModel", "code", "[I", true)
  | 41 => ("FeatherCourtModel", "codeInt", "[I", true)
  | 42 => ("FeatherCourtModel", "waits", "[I", true)
  | 43 => ("FeatherCourtModel", "waiting", "I", false)
  | 44 => ("FeatherCourtModel", "variables", "[I", true)
  | 45 => ("FeatherCourtModel", "pile", "[I", true)
  | 46 => ("FeatherCourtModel", "isBroken", "Z", false)
  | 47 => ("FeatherCourtModel", "now", "[I", true)
  | 48 => ("FeatherCourtModel", "row", "[I", true)
  | 49 => ("FeatherCourtModel", "haveThen", "[I", true)
  | 50 => ("FeatherCourtModel", "votes", "[I", true)
  | 51 => ("FeatherCourtModel", "undos", "I", false)
  | 52 => ("FeatherCourtModel", "history", "[I", true)
  | 53 => ("FeatherCourtModel", "netBy", "[I", true)
  | 54 => ("FeatherCourtModel", "groups", "[I", true)
  | 55 => ("FeatherCourtModel", "leastGuilt", "[I", true)
  | 56 => ("FeatherCourtModel", "comes", "[I", true)
  | 57 => ("FeatherCourtModel", "guiltOf", "[I", true)
  | 58 => ("FeatherCourtModel", "fines", "[I", true)
  | 59 => ("FeatherCourtModel", "quiltSet", "[I", true)
  | 60 => ("FeatherCourtModel", "rowsOf", "I", false)
  | 61 => ("FeatherCourtModel", "surelyOf", "I", false)
  | 62 => ("FeatherCourtModel", "told", "I", false)
  | 63 => ("FeatherCourtModel", "toldSet", "[I", true)
  | 64 => ("FeatherCourtModel", "toldMany", "[I", true)
  | 65 => ("FeatherCourtModel", "isHeld", "[Z", true)
  | _ => ("FeatherCourtModel", "held0", "[I", true)
def tyX10 : Nat → FieldType := fun k => match k with
  | 0 => .int
  | 1 => .array .byte
  | 2 => .int
  | 3 => .array .byte
  | 4 => .int
  | 5 => .array .int
  | 6 => .array .int
  | 7 => .array .int
  | 8 => .array .long
  | 9 => .array .long
  | 10 => .int
  | 11 => .int
  | 12 => .int
  | 13 => .int
  | 14 => .int
  | 15 => .int
  | 16 => .int
  | 17 => .int
  | 18 => .int
  | 19 => .int
  | 20 => .int
  | 21 => .array .long
  | 22 => .array .int
  | 23 => .array .int
  | 24 => .array .int
  | 25 => .array .int
  | 26 => .array .int
  | 27 => .array .int
  | 28 => .array .int
  | 29 => .array .int
  | 30 => .array .int
  | 31 => .array .int
  | 32 => .array .int
  | 33 => .int
  | 34 => .array .boolean
  | 35 => .array .int
  | 36 => .array .int
  | 37 => .array .int
  | 38 => .array .int
  | 39 => .int
  | 40 => .array .int
  | 41 => .array .int
  | 42 => .array .int
  | 43 => .int
  | 44 => .array .int
  | 45 => .array .int
  | 46 => .boolean
  | 47 => .array .int
  | 48 => .array .int
  | 49 => .array .int
  | 50 => .array .int
  | 51 => .int
  | 52 => .array .int
  | 53 => .array .int
  | 54 => .array .int
  | 55 => .array .int
  | 56 => .array .int
  | 57 => .array .int
  | 58 => .array .int
  | 59 => .array .int
  | 60 => .int
  | 61 => .int
  | 62 => .int
  | 63 => .array .int
  | 64 => .array .int
  | 65 => .array .boolean
  | _ => .array .int
abbrev wsX100 : List Cond := u_ws RX10 TX10 67
theorem nmX10 : ∀ a, a < 67 → ∀ b, b < 67 → a ≠ b → (TX10 a).2.1 ≠ (TX10 b).2.1 := by decide +kernel
theorem tyX10_ok : ∀ k, k < 67 → parseFieldDescriptor (TX10 k).2.2.1 = some (tyX10 k) := by decide +kernel
abbrev cX10_init : ByteArray := prog_12_method_2_code
def yX10_init : MethodName := ⟨RX10, "<init>", "()V"⟩
abbrev cX10_feed : ByteArray := prog_12_method_3_code
def yX10_feed : MethodName := ⟨RX10, "feed", "(IIIII)I"⟩
abbrev cX10_put : ByteArray := prog_12_method_4_code
def yX10_put : MethodName := ⟨RX10, "put", "(I)V"⟩
abbrev cX10_back : ByteArray := prog_12_method_5_code
def yX10_back : MethodName := ⟨RX10, "back", "(I)I"⟩
abbrev cX10_byteAt : ByteArray := prog_12_method_6_code
def yX10_byteAt : MethodName := ⟨RX10, "byteAt", "(I)I"⟩
abbrev cX10_isDigit : ByteArray := prog_12_method_7_code
def yX10_isDigit : MethodName := ⟨RX10, "isDigit", "(I)Z"⟩
abbrev cX10_isLetter : ByteArray := prog_12_method_8_code
def yX10_isLetter : MethodName := ⟨RX10, "isLetter", "(I)Z"⟩
abbrev cX10_appends : ByteArray := prog_12_method_9_code
def yX10_appends : MethodName := ⟨RX10, "appends", "(JI)J"⟩
abbrev cX10_word : ByteArray := prog_12_method_10_code
def yX10_word : MethodName := ⟨RX10, "word", "(IIIIIII)J"⟩
abbrev cX10_token : ByteArray := prog_12_method_11_code
def yX10_token : MethodName := ⟨RX10, "token", "(IIIJ)V"⟩
abbrev cX10_cut : ByteArray := prog_12_method_12_code
def yX10_cut : MethodName := ⟨RX10, "cut", "()V"⟩
abbrev cX10_sign : ByteArray := prog_12_method_13_code
def yX10_sign : MethodName := ⟨RX10, "sign", "(III)I"⟩
abbrev cX10_is : ByteArray := prog_12_method_14_code
def yX10_is : MethodName := ⟨RX10, "is", "(I)Z"⟩
abbrev cX10_fail : ByteArray := prog_12_method_15_code
def yX10_fail : MethodName := ⟨RX10, "fail", "(I)V"⟩
abbrev cX10_wrong : ByteArray := prog_12_method_16_code
def yX10_wrong : MethodName := ⟨RX10, "wrong", "(II)V"⟩
abbrev cX10_goesOn : ByteArray := prog_12_method_17_code
def yX10_goesOn : MethodName := ⟨RX10, "goesOn", "()V"⟩
abbrev cX10_must : ByteArray := prog_12_method_18_code
def yX10_must : MethodName := ⟨RX10, "must", "(I)V"⟩
abbrev cX10_read : ByteArray := prog_12_method_19_code
def yX10_read : MethodName := ⟨RX10, "read", "()I"⟩
abbrev cX10_place : ByteArray := prog_12_method_20_code
def yX10_place : MethodName := ⟨RX10, "place", "()I"⟩
abbrev cX10_roomFor : ByteArray := prog_12_method_21_code
def yX10_roomFor : MethodName := ⟨RX10, "roomFor", "(II)V"⟩
abbrev cX10_tell : ByteArray := prog_12_method_22_code
def yX10_tell : MethodName := ⟨RX10, "tell", "()V"⟩
abbrev cX10_named : ByteArray := prog_12_method_23_code
def yX10_named : MethodName := ⟨RX10, "named", "()I"⟩
abbrev cX10_notes : ByteArray := prog_12_method_24_code
def yX10_notes : MethodName := ⟨RX10, "notes", "(III)V"⟩
abbrev cX10_known : ByteArray := prog_12_method_25_code
def yX10_known : MethodName := ⟨RX10, "known", "(I)I"⟩
abbrev cX10_bounded : ByteArray := prog_12_method_26_code
def yX10_bounded : MethodName := ⟨RX10, "bounded", "(II)I"⟩
abbrev cX10_tellMan : ByteArray := prog_12_method_27_code
def yX10_tellMan : MethodName := ⟨RX10, "tellMan", "()V"⟩
abbrev cX10_tellDeed : ByteArray := prog_12_method_28_code
def yX10_tellDeed : MethodName := ⟨RX10, "tellDeed", "()V"⟩
abbrev cX10_tellCold : ByteArray := prog_12_method_29_code
def yX10_tellCold : MethodName := ⟨RX10, "tellCold", "()V"⟩
abbrev cX10_tellLaw : ByteArray := prog_12_method_30_code
def yX10_tellLaw : MethodName := ⟨RX10, "tellLaw", "(I)V"⟩
abbrev cX10_term : ByteArray := prog_12_method_31_code
def yX10_term : MethodName := ⟨RX10, "term", "()V"⟩
abbrev cX10_emit : ByteArray := prog_12_method_32_code
def yX10_emit : MethodName := ⟨RX10, "emit", "(II)V"⟩
abbrev cX10_comesOut : ByteArray := prog_12_method_33_code
def yX10_comesOut : MethodName := ⟨RX10, "comesOut", "(Z)V"⟩
abbrev cX10_expression : ByteArray := prog_12_method_34_code
def yX10_expression : MethodName := ⟨RX10, "expression", "()V"⟩
abbrev cX10_unit : ByteArray := prog_12_method_35_code
def yX10_unit : MethodName := ⟨RX10, "unit", "()V"⟩
abbrev cX10_termOf : ByteArray := prog_12_method_36_code
def yX10_termOf : MethodName := ⟨RX10, "termOf", "(II)I"⟩
abbrev cX10_in : ByteArray := prog_12_method_37_code
def yX10_in : MethodName := ⟨RX10, "in", "(III)Z"⟩
abbrev cX10_isMan : ByteArray := prog_12_method_38_code
def yX10_isMan : MethodName := ⟨RX10, "isMan", "(I)Z"⟩
abbrev cX10_isDeed : ByteArray := prog_12_method_39_code
def yX10_isDeed : MethodName := ⟨RX10, "isDeed", "(I)Z"⟩
abbrev cX10_copies : ByteArray := prog_12_method_40_code
def yX10_copies : MethodName := ⟨RX10, "copies", "()V"⟩
abbrev cX10_copiesAll : ByteArray := prog_12_method_41_code
def yX10_copiesAll : MethodName := ⟨RX10, "copiesAll", "()V"⟩
abbrev cX10_haveOf : ByteArray := prog_12_method_42_code
def yX10_haveOf : MethodName := ⟨RX10, "haveOf", "(I)I"⟩
abbrev cX10_timesOf : ByteArray := prog_12_method_43_code
def yX10_timesOf : MethodName := ⟨RX10, "timesOf", "(I)I"⟩
abbrev cX10_windOn : ByteArray := prog_12_method_44_code
def yX10_windOn : MethodName := ⟨RX10, "windOn", "(I)I"⟩
abbrev cX10_setsOf : ByteArray := prog_12_method_45_code
def yX10_setsOf : MethodName := ⟨RX10, "setsOf", "(III)V"⟩
abbrev cX10_tells : ByteArray := prog_12_method_46_code
def yX10_tells : MethodName := ⟨RX10, "tells", "(II)I"⟩
abbrev cX10_held : ByteArray := prog_12_method_47_code
def yX10_held : MethodName := ⟨RX10, "held", "(I)I"⟩
abbrev cX10_fineOf : ByteArray := prog_12_method_48_code
def yX10_fineOf : MethodName := ⟨RX10, "fineOf", "(II)I"⟩
abbrev cX10_isWarm : ByteArray := prog_12_method_49_code
def yX10_isWarm : MethodName := ⟨RX10, "isWarm", "(I)Z"⟩
abbrev cX10_moves : ByteArray := prog_12_method_50_code
def yX10_moves : MethodName := ⟨RX10, "moves", "(IIII)V"⟩
abbrev cX10_weekGoes : ByteArray := prog_12_method_51_code
def yX10_weekGoes : MethodName := ⟨RX10, "weekGoes", "()V"⟩
abbrev cX10_netOf : ByteArray := prog_12_method_52_code
def yX10_netOf : MethodName := ⟨RX10, "netOf", "(I)I"⟩
abbrev cX10_fillsHave : ByteArray := prog_12_method_53_code
def yX10_fillsHave : MethodName := ⟨RX10, "fillsHave", "()V"⟩
abbrev cX10_voteOf : ByteArray := prog_12_method_54_code
def yX10_voteOf : MethodName := ⟨RX10, "voteOf", "(I)I"⟩
abbrev cX10_electedNow : ByteArray := prog_12_method_55_code
def yX10_electedNow : MethodName := ⟨RX10, "electedNow", "()I"⟩
abbrev cX10_man : ByteArray := prog_12_method_56_code
def yX10_man : MethodName := ⟨RX10, "man", "(II)I"⟩
abbrev cX10_led : ByteArray := prog_12_method_57_code
def yX10_led : MethodName := ⟨RX10, "led", "(II)I"⟩
abbrev cX10_areTwo : ByteArray := prog_12_method_58_code
def yX10_areTwo : MethodName := ⟨RX10, "areTwo", "(II)Z"⟩
abbrev cX10_debt : ByteArray := prog_12_method_59_code
def yX10_debt : MethodName := ⟨RX10, "debt", "(II)I"⟩
abbrev cX10_tariff : ByteArray := prog_12_method_60_code
def yX10_tariff : MethodName := ⟨RX10, "tariff", "(II)I"⟩
abbrev cX10_keeps : ByteArray := prog_12_method_61_code
def yX10_keeps : MethodName := ⟨RX10, "keeps", "()V"⟩
abbrev cX10_fine : ByteArray := prog_12_method_62_code
def yX10_fine : MethodName := ⟨RX10, "fine", "(II)I"⟩
abbrev cX10_entry : ByteArray := prog_12_method_63_code
def yX10_entry : MethodName := ⟨RX10, "entry", "(II)I"⟩
abbrev cX10_appeal : ByteArray := prog_12_method_64_code
def yX10_appeal : MethodName := ⟨RX10, "appeal", "(I)I"⟩
abbrev cX10_goesOver : ByteArray := prog_12_method_65_code
def yX10_goesOver : MethodName := ⟨RX10, "goesOver", "(III)Z"⟩
abbrev cX10_stuff : ByteArray := prog_12_method_66_code
def yX10_stuff : MethodName := ⟨RX10, "stuff", "(III)Z"⟩
abbrev cX10_lend : ByteArray := prog_12_method_67_code
def yX10_lend : MethodName := ⟨RX10, "lend", "(III)Z"⟩
abbrev cX10_repay : ByteArray := prog_12_method_68_code
def yX10_repay : MethodName := ⟨RX10, "repay", "(III)I"⟩
abbrev cX10_weeks : ByteArray := prog_12_method_69_code
def yX10_weeks : MethodName := ⟨RX10, "weeks", "(I)I"⟩
abbrev cX10_undo : ByteArray := prog_12_method_70_code
def yX10_undo : MethodName := ⟨RX10, "undo", "()Z"⟩
abbrev cX10_bits : ByteArray := prog_12_method_71_code
def yX10_bits : MethodName := ⟨RX10, "bits", "(I)I"⟩
abbrev cX10_payments : ByteArray := prog_12_method_72_code
def yX10_payments : MethodName := ⟨RX10, "payments", "()I"⟩
abbrev cX10_warmBy : ByteArray := prog_12_method_73_code
def yX10_warmBy : MethodName := ⟨RX10, "warmBy", "(I)I"⟩
abbrev cX10_warm : ByteArray := prog_12_method_74_code
def yX10_warm : MethodName := ⟨RX10, "warm", "(I)I"⟩
abbrev cX10_fillsComes : ByteArray := prog_12_method_75_code
def yX10_fillsComes : MethodName := ⟨RX10, "fillsComes", "(I)V"⟩
abbrev cX10_stillWanted : ByteArray := prog_12_method_76_code
def yX10_stillWanted : MethodName := ⟨RX10, "stillWanted", "(III)I"⟩
abbrev cX10_fillsQuilt : ByteArray := prog_12_method_77_code
def yX10_fillsQuilt : MethodName := ⟨RX10, "fillsQuilt", "(I)Z"⟩
abbrev cX10_quilt : ByteArray := prog_12_method_78_code
def yX10_quilt : MethodName := ⟨RX10, "quilt", "(II)I"⟩
abbrev cX10_quiltOf : ByteArray := prog_12_method_79_code
def yX10_quiltOf : MethodName := ⟨RX10, "quiltOf", "(II)I"⟩
abbrev cX10_elected : ByteArray := prog_12_method_80_code
def yX10_elected : MethodName := ⟨RX10, "elected", "(I)I"⟩
abbrev cX10_bald : ByteArray := prog_12_method_81_code
def yX10_bald : MethodName := ⟨RX10, "bald", "(I)I"⟩
abbrev cX10_fillsRows : ByteArray := prog_12_method_82_code
def yX10_fillsRows : MethodName := ⟨RX10, "fillsRows", "(II)V"⟩
abbrev cX10_did : ByteArray := prog_12_method_83_code
def yX10_did : MethodName := ⟨RX10, "did", "(II)I"⟩
abbrev cX10_surely : ByteArray := prog_12_method_84_code
def yX10_surely : MethodName := ⟨RX10, "surely", "(II)I"⟩
abbrev cX10_tell_ : ByteArray := prog_12_method_85_code
def yX10_tell_ : MethodName := ⟨RX10, "tell", "(II)I"⟩
abbrev cX10_forget : ByteArray := prog_12_method_86_code
def yX10_forget : MethodName := ⟨RX10, "forget", "()I"⟩
abbrev cX10_isSo : ByteArray := prog_12_method_87_code
def yX10_isSo : MethodName := ⟨RX10, "isSo", "(III)Z"⟩
abbrev cX10_stuffer : ByteArray := prog_12_method_88_code
def yX10_stuffer : MethodName := ⟨RX10, "stuffer", "(III)I"⟩
abbrev cX10_hold : ByteArray := prog_12_method_89_code
def yX10_hold : MethodName := ⟨RX10, "hold", "(I)Z"⟩
abbrev cX10_restore : ByteArray := prog_12_method_90_code
def yX10_restore : MethodName := ⟨RX10, "restore", "(I)Z"⟩
abbrev cX10_count : ByteArray := prog_12_method_91_code
def yX10_count : MethodName := ⟨RX10, "count", "(I)I"⟩
def RJ11 : String := "java/lang/Character"
def TJ11 : u_T := fun k => match k with
  | _ => ("", "", "", false)
def tyJ11 : Nat → FieldType := fun k => match k with
  | _ => .int
theorem nmJ11 : ∀ a, a < 0 → ∀ b, b < 0 → a ≠ b → (TJ11 a).2.1 ≠ (TJ11 b).2.1 := by decide +kernel
theorem tyJ11_ok : ∀ k, k < 0 → parseFieldDescriptor (TJ11 k).2.2.1 = some (tyJ11 k) := by decide +kernel
abbrev cJ11_isValidCodePoint_9a6ad : ByteArray := prog_13_method_11_code
def yJ11_isValidCodePoint_9a6ad : MethodName := ⟨RJ11, "isValidCodePoint", "(I)Z"⟩
abbrev cJ11_highSurrogate_5068e : ByteArray := prog_13_method_28_code
def yJ11_highSurrogate_5068e : MethodName := ⟨RJ11, "highSurrogate", "(I)C"⟩
abbrev cJ11_lowSurrogate_5068e : ByteArray := prog_13_method_29_code
def yJ11_lowSurrogate_5068e : MethodName := ⟨RJ11, "lowSurrogate", "(I)C"⟩
def RJ9 : String := "java/lang/Math"
def TJ9 : u_T := fun k => match k with
  | _ => ("", "", "", false)
def tyJ9 : Nat → FieldType := fun k => match k with
  | _ => .int
theorem nmJ9 : ∀ a, a < 0 → ∀ b, b < 0 → a ≠ b → (TJ9 a).2.1 ≠ (TJ9 b).2.1 := by decide +kernel
theorem tyJ9_ok : ∀ k, k < 0 → parseFieldDescriptor (TJ9 k).2.2.1 = some (tyJ9 k) := by decide +kernel
abbrev cJ9_max_7cf53 : ByteArray := prog_14_method_65_code
def yJ9_max_7cf53 : MethodName := ⟨RJ9, "max", "(II)I"⟩
abbrev cJ9_min_7cf53 : ByteArray := prog_14_method_69_code
def yJ9_min_7cf53 : MethodName := ⟨RJ9, "min", "(II)I"⟩
def RJ0 : String := "java/lang/String"
def TJ0 : u_T := fun k => match k with
  | _ => ("", "", "", false)
def tyJ0 : Nat → FieldType := fun k => match k with
  | _ => .int
theorem nmJ0 : ∀ a, a < 0 → ∀ b, b < 0 → a ≠ b → (TJ0 a).2.1 ≠ (TJ0 b).2.1 := by decide +kernel
theorem tyJ0_ok : ∀ k, k < 0 → parseFieldDescriptor (TJ0 k).2.2.1 = some (tyJ0 k) := by decide +kernel
abbrev cJ0_length_8abf5 : ByteArray := prog_15_method_54_code
def yJ0_length_8abf5 : MethodName := ⟨RJ0, "length", "()I"⟩
abbrev cJ0_charAt_5068e : ByteArray := prog_15_method_56_code
def yJ0_charAt_5068e : MethodName := ⟨RJ0, "charAt", "(I)C"⟩
abbrev cJ0_indexOf_0f7a4 : ByteArray := prog_15_method_79_code
def yJ0_indexOf_0f7a4 : MethodName := ⟨RJ0, "indexOf", "(I)I"⟩
abbrev cJ0_indexOf_7cf53 : ByteArray := prog_15_method_80_code
def yJ0_indexOf_7cf53 : MethodName := ⟨RJ0, "indexOf", "(II)I"⟩
abbrev cJ0_coder_7d493 : ByteArray := prog_15_method_152_code
def yJ0_coder_7d493 : MethodName := ⟨RJ0, "coder", "()B"⟩
abbrev cJ0_isLatin1_aae02 : ByteArray := prog_15_method_154_code
def yJ0_isLatin1_aae02 : MethodName := ⟨RJ0, "isLatin1", "()Z"⟩
abbrev cJ0_checkIndex_df160 : ByteArray := prog_15_method_155_code
def yJ0_checkIndex_df160 : MethodName := ⟨RJ0, "checkIndex", "(II)V"⟩
abbrev cJ0_checkBoundsBeginEnd_23922 : ByteArray := prog_15_method_158_code
def yJ0_checkBoundsBeginEnd_23922 : MethodName := ⟨RJ0, "checkBoundsBeginEnd", "(III)V"⟩
def RJ1 : String := "java/lang/StringLatin1"
def TJ1 : u_T := fun k => match k with
  | _ => ("", "", "", false)
def tyJ1 : Nat → FieldType := fun k => match k with
  | _ => .int
theorem nmJ1 : ∀ a, a < 0 → ∀ b, b < 0 → a ≠ b → (TJ1 a).2.1 ≠ (TJ1 b).2.1 := by decide +kernel
theorem tyJ1_ok : ∀ k, k < 0 → parseFieldDescriptor (TJ1 k).2.2.1 = some (tyJ1 k) := by decide +kernel
abbrev cJ1_charAt_3b067 : ByteArray := prog_16_method_2_code
def yJ1_charAt_3b067 : MethodName := ⟨RJ1, "charAt", "([BI)C"⟩
abbrev cJ1_canEncode_9a6ad : ByteArray := prog_16_method_4_code
def yJ1_canEncode_9a6ad : MethodName := ⟨RJ1, "canEncode", "(I)Z"⟩
abbrev cJ1_indexOf_4cfef : ByteArray := prog_16_method_22_code
def yJ1_indexOf_4cfef : MethodName := ⟨RJ1, "indexOf", "([BIII)I"⟩
abbrev cJ1_indexOfChar_4cfef : ByteArray := prog_16_method_23_code
def yJ1_indexOfChar_4cfef : MethodName := ⟨RJ1, "indexOfChar", "([BIII)I"⟩
def RJ2 : String := "java/lang/StringUTF16"
def TJ2 : u_T := fun k => match k with
  | _ => ("", "", "", false)
def tyJ2 : Nat → FieldType := fun k => match k with
  | _ => .int
theorem nmJ2 : ∀ a, a < 0 → ∀ b, b < 0 → a ≠ b → (TJ2 a).2.1 ≠ (TJ2 b).2.1 := by decide +kernel
theorem tyJ2_ok : ∀ k, k < 0 → parseFieldDescriptor (TJ2 k).2.2.1 = some (tyJ2 k) := by decide +kernel
abbrev cJ2_getChar_3b067 : ByteArray := prog_17_method_5_code
def yJ2_getChar_3b067 : MethodName := ⟨RJ2, "getChar", "([BI)C"⟩
abbrev cJ2_length_9d52b : ByteArray := prog_17_method_6_code
def yJ2_length_9d52b : MethodName := ⟨RJ2, "length", "([B)I"⟩
abbrev cJ2_indexOf_4cfef : ByteArray := prog_17_method_40_code
def yJ2_indexOf_4cfef : MethodName := ⟨RJ2, "indexOf", "([BIII)I"⟩
abbrev cJ2_indexOfChar_4cfef : ByteArray := prog_17_method_47_code
def yJ2_indexOfChar_4cfef : MethodName := ⟨RJ2, "indexOfChar", "([BIII)I"⟩
abbrev cJ2_indexOfCharUnsafe_4cfef : ByteArray := prog_17_method_48_code
def yJ2_indexOfCharUnsafe_4cfef : MethodName := ⟨RJ2, "indexOfCharUnsafe", "([BIII)I"⟩
abbrev cJ2_indexOfSupplementary_4cfef : ByteArray := prog_17_method_49_code
def yJ2_indexOfSupplementary_4cfef : MethodName := ⟨RJ2, "indexOfSupplementary", "([BIII)I"⟩
abbrev cJ2_charAt_3b067 : ByteArray := prog_17_method_83_code
def yJ2_charAt_3b067 : MethodName := ⟨RJ2, "charAt", "([BI)C"⟩
abbrev cJ2_checkIndex_2214a : ByteArray := prog_17_method_91_code
def yJ2_checkIndex_2214a : MethodName := ⟨RJ2, "checkIndex", "(I[B)V"⟩
abbrev cJ2_checkBoundsBeginEnd_d044e : ByteArray := prog_17_method_93_code
def yJ2_checkBoundsBeginEnd_d044e : MethodName := ⟨RJ2, "checkBoundsBeginEnd", "(II[B)V"⟩
def RJ10 : String := "java/lang/System"
def TJ10 : u_T := fun k => match k with
  | _ => ("", "", "", false)
def tyJ10 : Nat → FieldType := fun k => match k with
  | _ => .int
theorem nmJ10 : ∀ a, a < 0 → ∀ b, b < 0 → a ≠ b → (TJ10 a).2.1 ≠ (TJ10 b).2.1 := by decide +kernel
theorem tyJ10_ok : ∀ k, k < 0 → parseFieldDescriptor (TJ10 k).2.2.1 = some (tyJ10 k) := by decide +kernel
def RJ3 : String := "jdk/internal/util/Preconditions"
def TJ3 : u_T := fun k => match k with
  | _ => ("", "", "", false)
def tyJ3 : Nat → FieldType := fun k => match k with
  | _ => .int
theorem nmJ3 : ∀ a, a < 0 → ∀ b, b < 0 → a ≠ b → (TJ3 a).2.1 ≠ (TJ3 b).2.1 := by decide +kernel
theorem tyJ3_ok : ∀ k, k < 0 → parseFieldDescriptor (TJ3 k).2.2.1 = some (tyJ3 k) := by decide +kernel
abbrev cJ3_checkIndex_8e157 : ByteArray := prog_19_method_11_code
def yJ3_checkIndex_8e157 : MethodName := ⟨RJ3, "checkIndex", "(IILjava/util/function/BiFunction;)I"⟩
abbrev cJ3_checkFromToIndex_8c36e : ByteArray := prog_19_method_12_code
def yJ3_checkFromToIndex_8c36e : MethodName := ⟨RJ3, "checkFromToIndex", "(IIILjava/util/function/BiFunction;)I"⟩
def RL : String := "FeatherCourtLaw"
abbrev cL_law : ByteArray := code
def yL_law : MethodName := ⟨RL, "law", "([I)Z"⟩
abbrev vwCl : List vw_C := [(RX0, TX0, 6), (RX1, TX1, 3), (RX2, TX2, 4), (RX3, TX3, 16), (RX4, TX4, 10), (RX5, TX5, 11), (RX6, TX6, 7), (RX7, TX7, 7), (RX8, TX8, 4), (RX9, TX9, 15), (RX10, TX10, 67)]
