section
-- ===== PART A: goes FIRST, ahead of the names: the tables' words, and 'selects' of the private methods out of them =====
/-- a private method of a class that the tables say can be made, by its rows of tables_1 -/
def lw_okq (q : MethodName × Nat) : Prop := (q.1.cls ≠ "java/lang/invoke/MethodHandle" ∧ q.1.cls ≠ "java/lang/invoke/VarHandle") ∧ Cond.instantiable q.1.cls q.2 ∈ tables_1 ∧ Cond.privateMethod q.1 ∈ tables_1 ∧ Cond.instanceMethod q.1 ∈ tables_1
theorem lw_p0 : lw_okq (⟨"HollowShire$Tape", "tellKind", "(I)V"⟩, 7) := ⟨⟨by decide +kernel, by decide +kernel⟩, List.mem_of_getElem? (i := 259) (by decide +kernel), List.mem_of_getElem? (i := 456) (by decide +kernel), List.mem_of_getElem? (i := 457) (by decide +kernel)⟩
theorem lw_p1 : lw_okq (⟨"HollowShire$Tape", "tellWord", "(I)V"⟩, 7) := ⟨⟨by decide +kernel, by decide +kernel⟩, List.mem_of_getElem? (i := 259) (by decide +kernel), List.mem_of_getElem? (i := 460) (by decide +kernel), List.mem_of_getElem? (i := 461) (by decide +kernel)⟩
theorem lw_p2 : lw_okq (⟨"HollowShire$Tape", "spells", "(ILjava/lang/String;)Z"⟩, 7) := ⟨⟨by decide +kernel, by decide +kernel⟩, List.mem_of_getElem? (i := 259) (by decide +kernel), List.mem_of_getElem? (i := 481) (by decide +kernel), List.mem_of_getElem? (i := 482) (by decide +kernel)⟩
theorem lw_p3 : lw_okq (⟨"HollowShire$Tape", "tellNumber", "(I)V"⟩, 7) := ⟨⟨by decide +kernel, by decide +kernel⟩, List.mem_of_getElem? (i := 259) (by decide +kernel), List.mem_of_getElem? (i := 487) (by decide +kernel), List.mem_of_getElem? (i := 488) (by decide +kernel)⟩
theorem lw_p4 : lw_okq (⟨"HollowShire$Reader", "expect", "(I)V"⟩, 5) := ⟨⟨by decide +kernel, by decide +kernel⟩, List.mem_of_getElem? (i := 289) (by decide +kernel), List.mem_of_getElem? (i := 502) (by decide +kernel), List.mem_of_getElem? (i := 503) (by decide +kernel)⟩
theorem lw_p5 : lw_okq (⟨"HollowShire$Reader", "advance", "()V"⟩, 5) := ⟨⟨by decide +kernel, by decide +kernel⟩, List.mem_of_getElem? (i := 289) (by decide +kernel), List.mem_of_getElem? (i := 506) (by decide +kernel), List.mem_of_getElem? (i := 507) (by decide +kernel)⟩
theorem lw_p6 : lw_okq (⟨"HollowShire$Reader", "refuse", "()V"⟩, 5) := ⟨⟨by decide +kernel, by decide +kernel⟩, List.mem_of_getElem? (i := 289) (by decide +kernel), List.mem_of_getElem? (i := 510) (by decide +kernel), List.mem_of_getElem? (i := 511) (by decide +kernel)⟩
theorem lw_p7 : lw_okq (⟨"HollowShire$Reader", "readOr", "(I)V"⟩, 5) := ⟨⟨by decide +kernel, by decide +kernel⟩, List.mem_of_getElem? (i := 289) (by decide +kernel), List.mem_of_getElem? (i := 518) (by decide +kernel), List.mem_of_getElem? (i := 519) (by decide +kernel)⟩
theorem lw_p8 : lw_okq (⟨"HollowShire$Reader", "readAnd", "(I)V"⟩, 5) := ⟨⟨by decide +kernel, by decide +kernel⟩, List.mem_of_getElem? (i := 289) (by decide +kernel), List.mem_of_getElem? (i := 522) (by decide +kernel), List.mem_of_getElem? (i := 523) (by decide +kernel)⟩
theorem lw_p9 : lw_okq (⟨"HollowShire$Reader", "readNot", "(I)V"⟩, 5) := ⟨⟨by decide +kernel, by decide +kernel⟩, List.mem_of_getElem? (i := 289) (by decide +kernel), List.mem_of_getElem? (i := 526) (by decide +kernel), List.mem_of_getElem? (i := 527) (by decide +kernel)⟩
theorem lw_p10 : lw_okq (⟨"HollowShire$Reader", "readSum", "(I)V"⟩, 5) := ⟨⟨by decide +kernel, by decide +kernel⟩, List.mem_of_getElem? (i := 289) (by decide +kernel), List.mem_of_getElem? (i := 534) (by decide +kernel), List.mem_of_getElem? (i := 535) (by decide +kernel)⟩
theorem lw_p11 : lw_okq (⟨"HollowShire$Reader", "readTerm", "(I)V"⟩, 5) := ⟨⟨by decide +kernel, by decide +kernel⟩, List.mem_of_getElem? (i := 289) (by decide +kernel), List.mem_of_getElem? (i := 538) (by decide +kernel), List.mem_of_getElem? (i := 539) (by decide +kernel)⟩
theorem lw_p12 : lw_okq (⟨"HollowShire$Reader", "readOne", "(I)V"⟩, 5) := ⟨⟨by decide +kernel, by decide +kernel⟩, List.mem_of_getElem? (i := 289) (by decide +kernel), List.mem_of_getElem? (i := 542) (by decide +kernel), List.mem_of_getElem? (i := 543) (by decide +kernel)⟩
theorem lw_p13 : lw_okq (⟨"HollowShire", "isHouse", "(I)Z"⟩, 14) := ⟨⟨by decide +kernel, by decide +kernel⟩, List.mem_of_getElem? (i := 21) (by decide +kernel), List.mem_of_getElem? (i := 644) (by decide +kernel), List.mem_of_getElem? (i := 645) (by decide +kernel)⟩
theorem lw_p14 : lw_okq (⟨"HollowShire", "monthsAreLeft", "(I)Z"⟩, 14) := ⟨⟨by decide +kernel, by decide +kernel⟩, List.mem_of_getElem? (i := 21) (by decide +kernel), List.mem_of_getElem? (i := 652) (by decide +kernel), List.mem_of_getElem? (i := 653) (by decide +kernel)⟩
theorem lw_p15 : lw_okq (⟨"HollowShire$Ground", "rainDown", "()V"⟩, 16) := ⟨⟨by decide +kernel, by decide +kernel⟩, List.mem_of_getElem? (i := 66) (by decide +kernel), List.mem_of_getElem? (i := 660) (by decide +kernel), List.mem_of_getElem? (i := 661) (by decide +kernel)⟩
def lw_privs_1 : List (MethodName × Nat) := [(⟨"HollowShire$Tape", "tellKind", "(I)V"⟩, 7), (⟨"HollowShire$Tape", "tellWord", "(I)V"⟩, 7), (⟨"HollowShire$Tape", "spells", "(ILjava/lang/String;)Z"⟩, 7), (⟨"HollowShire$Tape", "tellNumber", "(I)V"⟩, 7), (⟨"HollowShire$Reader", "expect", "(I)V"⟩, 5), (⟨"HollowShire$Reader", "advance", "()V"⟩, 5), (⟨"HollowShire$Reader", "refuse", "()V"⟩, 5), (⟨"HollowShire$Reader", "readOr", "(I)V"⟩, 5), (⟨"HollowShire$Reader", "readAnd", "(I)V"⟩, 5), (⟨"HollowShire$Reader", "readNot", "(I)V"⟩, 5), (⟨"HollowShire$Reader", "readSum", "(I)V"⟩, 5), (⟨"HollowShire$Reader", "readTerm", "(I)V"⟩, 5), (⟨"HollowShire$Reader", "readOne", "(I)V"⟩, 5), (⟨"HollowShire", "isHouse", "(I)Z"⟩, 14), (⟨"HollowShire", "monthsAreLeft", "(I)Z"⟩, 14), (⟨"HollowShire$Ground", "rainDown", "()V"⟩, 16)]
theorem lw_r1 : ∀ q ∈ lw_privs_1, lw_okq q := List.forall_mem_cons.mpr ⟨lw_p0, List.forall_mem_cons.mpr ⟨lw_p1, List.forall_mem_cons.mpr ⟨lw_p2, List.forall_mem_cons.mpr ⟨lw_p3, List.forall_mem_cons.mpr ⟨lw_p4, List.forall_mem_cons.mpr ⟨lw_p5, List.forall_mem_cons.mpr ⟨lw_p6, List.forall_mem_cons.mpr ⟨lw_p7, List.forall_mem_cons.mpr ⟨lw_p8, List.forall_mem_cons.mpr ⟨lw_p9, List.forall_mem_cons.mpr ⟨lw_p10, List.forall_mem_cons.mpr ⟨lw_p11, List.forall_mem_cons.mpr ⟨lw_p12, List.forall_mem_cons.mpr ⟨lw_p13, List.forall_mem_cons.mpr ⟨lw_p14, List.forall_mem_cons.mpr ⟨lw_p15, fun _ h => absurd h List.not_mem_nil⟩⟩⟩⟩⟩⟩⟩⟩⟩⟩⟩⟩⟩⟩⟩⟩
theorem lw_p16 : lw_okq (⟨"HollowShire$Ground", "pumpOut", "()V"⟩, 16) := ⟨⟨by decide +kernel, by decide +kernel⟩, List.mem_of_getElem? (i := 66) (by decide +kernel), List.mem_of_getElem? (i := 667) (by decide +kernel), List.mem_of_getElem? (i := 668) (by decide +kernel)⟩
theorem lw_p17 : lw_okq (⟨"HollowShire$Ground", "solve", "(II)V"⟩, 16) := ⟨⟨by decide +kernel, by decide +kernel⟩, List.mem_of_getElem? (i := 66) (by decide +kernel), List.mem_of_getElem? (i := 671) (by decide +kernel), List.mem_of_getElem? (i := 672) (by decide +kernel)⟩
theorem lw_p18 : lw_okq (⟨"HollowShire$Ground", "flow", "()V"⟩, 16) := ⟨⟨by decide +kernel, by decide +kernel⟩, List.mem_of_getElem? (i := 66) (by decide +kernel), List.mem_of_getElem? (i := 678) (by decide +kernel), List.mem_of_getElem? (i := 679) (by decide +kernel)⟩
theorem lw_p19 : lw_okq (⟨"HollowShire$Ground", "go", "(III)V"⟩, 16) := ⟨⟨by decide +kernel, by decide +kernel⟩, List.mem_of_getElem? (i := 66) (by decide +kernel), List.mem_of_getElem? (i := 682) (by decide +kernel), List.mem_of_getElem? (i := 683) (by decide +kernel)⟩
theorem lw_p20 : lw_okq (⟨"HollowShire$Ground", "letFall", "()V"⟩, 16) := ⟨⟨by decide +kernel, by decide +kernel⟩, List.mem_of_getElem? (i := 66) (by decide +kernel), List.mem_of_getElem? (i := 689) (by decide +kernel), List.mem_of_getElem? (i := 690) (by decide +kernel)⟩
theorem lw_p21 : lw_okq (⟨"HollowShire$Ground", "takeHouses", "(I)V"⟩, 16) := ⟨⟨by decide +kernel, by decide +kernel⟩, List.mem_of_getElem? (i := 66) (by decide +kernel), List.mem_of_getElem? (i := 695) (by decide +kernel), List.mem_of_getElem? (i := 696) (by decide +kernel)⟩
theorem lw_p22 : lw_okq (⟨"HollowShire", "isSign", "(I)Z"⟩, 14) := ⟨⟨by decide +kernel, by decide +kernel⟩, List.mem_of_getElem? (i := 21) (by decide +kernel), List.mem_of_getElem? (i := 715) (by decide +kernel), List.mem_of_getElem? (i := 716) (by decide +kernel)⟩
theorem lw_p23 : lw_okq (⟨"HollowShire", "isKnown", "(I)Z"⟩, 14) := ⟨⟨by decide +kernel, by decide +kernel⟩, List.mem_of_getElem? (i := 21) (by decide +kernel), List.mem_of_getElem? (i := 723) (by decide +kernel), List.mem_of_getElem? (i := 724) (by decide +kernel)⟩
theorem lw_p24 : lw_okq (⟨"HollowShire$Signs", "speaks", "(IIII)Z"⟩, 7) := ⟨⟨by decide +kernel, by decide +kernel⟩, List.mem_of_getElem? (i := 137) (by decide +kernel), List.mem_of_getElem? (i := 749) (by decide +kernel), List.mem_of_getElem? (i := 750) (by decide +kernel)⟩
theorem lw_p25 : lw_okq (⟨"HollowShire$Fit", "gatherNeeds", "(LHollowShire$Sheet;LHollowShire$Told;I)V"⟩, 13) := ⟨⟨by decide +kernel, by decide +kernel⟩, List.mem_of_getElem? (i := 201) (by decide +kernel), List.mem_of_getElem? (i := 796) (by decide +kernel), List.mem_of_getElem? (i := 797) (by decide +kernel)⟩
theorem lw_p26 : lw_okq (⟨"HollowShire$Fit", "takeSizes", "(I)Z"⟩, 13) := ⟨⟨by decide +kernel, by decide +kernel⟩, List.mem_of_getElem? (i := 201) (by decide +kernel), List.mem_of_getElem? (i := 806) (by decide +kernel), List.mem_of_getElem? (i := 807) (by decide +kernel)⟩
theorem lw_p27 : lw_okq (⟨"HollowShire$Fit", "meetsNeeds", "()Z"⟩, 13) := ⟨⟨by decide +kernel, by decide +kernel⟩, List.mem_of_getElem? (i := 201) (by decide +kernel), List.mem_of_getElem? (i := 810) (by decide +kernel), List.mem_of_getElem? (i := 811) (by decide +kernel)⟩
theorem lw_p28 : lw_okq (⟨"HollowShire$Fit", "weighUp", "()V"⟩, 13) := ⟨⟨by decide +kernel, by decide +kernel⟩, List.mem_of_getElem? (i := 201) (by decide +kernel), List.mem_of_getElem? (i := 814) (by decide +kernel), List.mem_of_getElem? (i := 815) (by decide +kernel)⟩
theorem lw_p29 : lw_okq (⟨"HollowShire", "ruled", "(III)I"⟩, 14) := ⟨⟨by decide +kernel, by decide +kernel⟩, List.mem_of_getElem? (i := 21) (by decide +kernel), List.mem_of_getElem? (i := 842) (by decide +kernel), List.mem_of_getElem? (i := 843) (by decide +kernel)⟩
theorem lw_p30 : lw_okq (⟨"HollowShire", "worthOfLook", "(II)I"⟩, 14) := ⟨⟨by decide +kernel, by decide +kernel⟩, List.mem_of_getElem? (i := 21) (by decide +kernel), List.mem_of_getElem? (i := 893) (by decide +kernel), List.mem_of_getElem? (i := 894) (by decide +kernel)⟩
theorem lw_p31 : lw_okq (⟨"HollowShire", "worthOfSet", "(LHollowShire$Sheet;I)I"⟩, 14) := ⟨⟨by decide +kernel, by decide +kernel⟩, List.mem_of_getElem? (i := 21) (by decide +kernel), List.mem_of_getElem? (i := 900) (by decide +kernel), List.mem_of_getElem? (i := 901) (by decide +kernel)⟩
def lw_privs_2 : List (MethodName × Nat) := [(⟨"HollowShire$Ground", "pumpOut", "()V"⟩, 16), (⟨"HollowShire$Ground", "solve", "(II)V"⟩, 16), (⟨"HollowShire$Ground", "flow", "()V"⟩, 16), (⟨"HollowShire$Ground", "go", "(III)V"⟩, 16), (⟨"HollowShire$Ground", "letFall", "()V"⟩, 16), (⟨"HollowShire$Ground", "takeHouses", "(I)V"⟩, 16), (⟨"HollowShire", "isSign", "(I)Z"⟩, 14), (⟨"HollowShire", "isKnown", "(I)Z"⟩, 14), (⟨"HollowShire$Signs", "speaks", "(IIII)Z"⟩, 7), (⟨"HollowShire$Fit", "gatherNeeds", "(LHollowShire$Sheet;LHollowShire$Told;I)V"⟩, 13), (⟨"HollowShire$Fit", "takeSizes", "(I)Z"⟩, 13), (⟨"HollowShire$Fit", "meetsNeeds", "()Z"⟩, 13), (⟨"HollowShire$Fit", "weighUp", "()V"⟩, 13), (⟨"HollowShire", "ruled", "(III)I"⟩, 14), (⟨"HollowShire", "worthOfLook", "(II)I"⟩, 14), (⟨"HollowShire", "worthOfSet", "(LHollowShire$Sheet;I)I"⟩, 14)]
theorem lw_r2 : ∀ q ∈ lw_privs_2, lw_okq q := List.forall_mem_cons.mpr ⟨lw_p16, List.forall_mem_cons.mpr ⟨lw_p17, List.forall_mem_cons.mpr ⟨lw_p18, List.forall_mem_cons.mpr ⟨lw_p19, List.forall_mem_cons.mpr ⟨lw_p20, List.forall_mem_cons.mpr ⟨lw_p21, List.forall_mem_cons.mpr ⟨lw_p22, List.forall_mem_cons.mpr ⟨lw_p23, List.forall_mem_cons.mpr ⟨lw_p24, List.forall_mem_cons.mpr ⟨lw_p25, List.forall_mem_cons.mpr ⟨lw_p26, List.forall_mem_cons.mpr ⟨lw_p27, List.forall_mem_cons.mpr ⟨lw_p28, List.forall_mem_cons.mpr ⟨lw_p29, List.forall_mem_cons.mpr ⟨lw_p30, List.forall_mem_cons.mpr ⟨lw_p31, fun _ h => absurd h List.not_mem_nil⟩⟩⟩⟩⟩⟩⟩⟩⟩⟩⟩⟩⟩⟩⟩⟩
theorem lw_p32 : lw_okq (⟨"HollowShire", "trueWarnings", "(I)I"⟩, 14) := ⟨⟨by decide +kernel, by decide +kernel⟩, List.mem_of_getElem? (i := 21) (by decide +kernel), List.mem_of_getElem? (i := 923) (by decide +kernel), List.mem_of_getElem? (i := 924) (by decide +kernel)⟩
theorem lw_p33 : lw_okq (⟨"HollowShire", "cameTrue", "(II)Z"⟩, 14) := ⟨⟨by decide +kernel, by decide +kernel⟩, List.mem_of_getElem? (i := 21) (by decide +kernel), List.mem_of_getElem? (i := 927) (by decide +kernel), List.mem_of_getElem? (i := 928) (by decide +kernel)⟩
theorem lw_p34 : lw_okq (⟨"HollowShire", "missedCells", "(I)I"⟩, 14) := ⟨⟨by decide +kernel, by decide +kernel⟩, List.mem_of_getElem? (i := 21) (by decide +kernel), List.mem_of_getElem? (i := 931) (by decide +kernel), List.mem_of_getElem? (i := 932) (by decide +kernel)⟩
theorem lw_p35 : lw_okq (⟨"HollowShire", "oldWarnings", "(I)I"⟩, 14) := ⟨⟨by decide +kernel, by decide +kernel⟩, List.mem_of_getElem? (i := 21) (by decide +kernel), List.mem_of_getElem? (i := 941) (by decide +kernel), List.mem_of_getElem? (i := 942) (by decide +kernel)⟩
theorem lw_p36 : lw_okq (⟨"HollowShire", "holdsHouses", "(LHollowShire$Sheet;)Z"⟩, 14) := ⟨⟨by decide +kernel, by decide +kernel⟩, List.mem_of_getElem? (i := 21) (by decide +kernel), List.mem_of_getElem? (i := 966) (by decide +kernel), List.mem_of_getElem? (i := 967) (by decide +kernel)⟩
theorem lw_p37 : lw_okq (⟨"HollowShire", "peopleToMove", "(I)I"⟩, 14) := ⟨⟨by decide +kernel, by decide +kernel⟩, List.mem_of_getElem? (i := 21) (by decide +kernel), List.mem_of_getElem? (i := 973) (by decide +kernel), List.mem_of_getElem? (i := 974) (by decide +kernel)⟩
theorem lw_p38 : lw_okq (⟨"HollowShire", "sparedBy", "(I)I"⟩, 14) := ⟨⟨by decide +kernel, by decide +kernel⟩, List.mem_of_getElem? (i := 21) (by decide +kernel), List.mem_of_getElem? (i := 977) (by decide +kernel), List.mem_of_getElem? (i := 978) (by decide +kernel)⟩
theorem lw_p39 : lw_okq (⟨"HollowShireModel", "isCell", "(I)Z"⟩, 77) := ⟨⟨by decide +kernel, by decide +kernel⟩, List.mem_of_getElem? (i := 1041) (by decide +kernel), List.mem_of_getElem? (i := 1283) (by decide +kernel), List.mem_of_getElem? (i := 1284) (by decide +kernel)⟩
theorem lw_p40 : lw_okq (⟨"HollowShireModel", "in", "(III)Z"⟩, 77) := ⟨⟨by decide +kernel, by decide +kernel⟩, List.mem_of_getElem? (i := 1041) (by decide +kernel), List.mem_of_getElem? (i := 1287) (by decide +kernel), List.mem_of_getElem? (i := 1288) (by decide +kernel)⟩
theorem lw_p41 : lw_okq (⟨"HollowShireModel", "isHouse", "(I)Z"⟩, 77) := ⟨⟨by decide +kernel, by decide +kernel⟩, List.mem_of_getElem? (i := 1041) (by decide +kernel), List.mem_of_getElem? (i := 1312) (by decide +kernel), List.mem_of_getElem? (i := 1313) (by decide +kernel)⟩
theorem lw_p42 : lw_okq (⟨"HollowShireModel", "goMonth", "()V"⟩, 77) := ⟨⟨by decide +kernel, by decide +kernel⟩, List.mem_of_getElem? (i := 1041) (by decide +kernel), List.mem_of_getElem? (i := 1320) (by decide +kernel), List.mem_of_getElem? (i := 1321) (by decide +kernel)⟩
theorem lw_p43 : lw_okq (⟨"HollowShireModel", "wentBy", "(II)V"⟩, 77) := ⟨⟨by decide +kernel, by decide +kernel⟩, List.mem_of_getElem? (i := 1041) (by decide +kernel), List.mem_of_getElem? (i := 1324) (by decide +kernel), List.mem_of_getElem? (i := 1325) (by decide +kernel)⟩
theorem lw_p44 : lw_okq (⟨"HollowShireModel", "between", "(II)V"⟩, 77) := ⟨⟨by decide +kernel, by decide +kernel⟩, List.mem_of_getElem? (i := 1041) (by decide +kernel), List.mem_of_getElem? (i := 1328) (by decide +kernel), List.mem_of_getElem? (i := 1329) (by decide +kernel)⟩
theorem lw_p45 : lw_okq (⟨"HollowShireModel", "harmOf", "(I)I"⟩, 77) := ⟨⟨by decide +kernel, by decide +kernel⟩, List.mem_of_getElem? (i := 1041) (by decide +kernel), List.mem_of_getElem? (i := 1332) (by decide +kernel), List.mem_of_getElem? (i := 1333) (by decide +kernel)⟩
theorem lw_p46 : lw_okq (⟨"HollowShireModel", "isSign", "(I)Z"⟩, 77) := ⟨⟨by decide +kernel, by decide +kernel⟩, List.mem_of_getElem? (i := 1041) (by decide +kernel), List.mem_of_getElem? (i := 1344) (by decide +kernel), List.mem_of_getElem? (i := 1345) (by decide +kernel)⟩
theorem lw_p47 : lw_okq (⟨"HollowShireModel", "isKnown", "(I)Z"⟩, 77) := ⟨⟨by decide +kernel, by decide +kernel⟩, List.mem_of_getElem? (i := 1041) (by decide +kernel), List.mem_of_getElem? (i := 1352) (by decide +kernel), List.mem_of_getElem? (i := 1353) (by decide +kernel)⟩
def lw_privs_3 : List (MethodName × Nat) := [(⟨"HollowShire", "trueWarnings", "(I)I"⟩, 14), (⟨"HollowShire", "cameTrue", "(II)Z"⟩, 14), (⟨"HollowShire", "missedCells", "(I)I"⟩, 14), (⟨"HollowShire", "oldWarnings", "(I)I"⟩, 14), (⟨"HollowShire", "holdsHouses", "(LHollowShire$Sheet;)Z"⟩, 14), (⟨"HollowShire", "peopleToMove", "(I)I"⟩, 14), (⟨"HollowShire", "sparedBy", "(I)I"⟩, 14), (⟨"HollowShireModel", "isCell", "(I)Z"⟩, 77), (⟨"HollowShireModel", "in", "(III)Z"⟩, 77), (⟨"HollowShireModel", "isHouse", "(I)Z"⟩, 77), (⟨"HollowShireModel", "goMonth", "()V"⟩, 77), (⟨"HollowShireModel", "wentBy", "(II)V"⟩, 77), (⟨"HollowShireModel", "between", "(II)V"⟩, 77), (⟨"HollowShireModel", "harmOf", "(I)I"⟩, 77), (⟨"HollowShireModel", "isSign", "(I)Z"⟩, 77), (⟨"HollowShireModel", "isKnown", "(I)Z"⟩, 77)]
theorem lw_r3 : ∀ q ∈ lw_privs_3, lw_okq q := List.forall_mem_cons.mpr ⟨lw_p32, List.forall_mem_cons.mpr ⟨lw_p33, List.forall_mem_cons.mpr ⟨lw_p34, List.forall_mem_cons.mpr ⟨lw_p35, List.forall_mem_cons.mpr ⟨lw_p36, List.forall_mem_cons.mpr ⟨lw_p37, List.forall_mem_cons.mpr ⟨lw_p38, List.forall_mem_cons.mpr ⟨lw_p39, List.forall_mem_cons.mpr ⟨lw_p40, List.forall_mem_cons.mpr ⟨lw_p41, List.forall_mem_cons.mpr ⟨lw_p42, List.forall_mem_cons.mpr ⟨lw_p43, List.forall_mem_cons.mpr ⟨lw_p44, List.forall_mem_cons.mpr ⟨lw_p45, List.forall_mem_cons.mpr ⟨lw_p46, List.forall_mem_cons.mpr ⟨lw_p47, fun _ h => absurd h List.not_mem_nil⟩⟩⟩⟩⟩⟩⟩⟩⟩⟩⟩⟩⟩⟩⟩⟩
theorem lw_p48 : lw_okq (⟨"HollowShireModel", "valueOf", "(II)I"⟩, 77) := ⟨⟨by decide +kernel, by decide +kernel⟩, List.mem_of_getElem? (i := 1041) (by decide +kernel), List.mem_of_getElem? (i := 1356) (by decide +kernel), List.mem_of_getElem? (i := 1357) (by decide +kernel)⟩
theorem lw_p49 : lw_okq (⟨"HollowShireModel", "leastOf", "(II)I"⟩, 77) := ⟨⟨by decide +kernel, by decide +kernel⟩, List.mem_of_getElem? (i := 1041) (by decide +kernel), List.mem_of_getElem? (i := 1360) (by decide +kernel), List.mem_of_getElem? (i := 1361) (by decide +kernel)⟩
theorem lw_p50 : lw_okq (⟨"HollowShireModel", "mostOf", "(II)I"⟩, 77) := ⟨⟨by decide +kernel, by decide +kernel⟩, List.mem_of_getElem? (i := 1041) (by decide +kernel), List.mem_of_getElem? (i := 1364) (by decide +kernel), List.mem_of_getElem? (i := 1365) (by decide +kernel)⟩
theorem lw_p51 : lw_okq (⟨"HollowShireModel", "trustOf", "(I)I"⟩, 77) := ⟨⟨by decide +kernel, by decide +kernel⟩, List.mem_of_getElem? (i := 1041) (by decide +kernel), List.mem_of_getElem? (i := 1368) (by decide +kernel), List.mem_of_getElem? (i := 1369) (by decide +kernel)⟩
theorem lw_p52 : lw_okq (⟨"HollowShireModel", "findSpan", "(III)V"⟩, 77) := ⟨⟨by decide +kernel, by decide +kernel⟩, List.mem_of_getElem? (i := 1041) (by decide +kernel), List.mem_of_getElem? (i := 1376) (by decide +kernel), List.mem_of_getElem? (i := 1377) (by decide +kernel)⟩
theorem lw_p53 : lw_okq (⟨"HollowShireModel", "isSheet", "(I)Z"⟩, 77) := ⟨⟨by decide +kernel, by decide +kernel⟩, List.mem_of_getElem? (i := 1041) (by decide +kernel), List.mem_of_getElem? (i := 1388) (by decide +kernel), List.mem_of_getElem? (i := 1389) (by decide +kernel)⟩
theorem lw_p54 : lw_okq (⟨"HollowShireModel", "isFit", "(I)Z"⟩, 77) := ⟨⟨by decide +kernel, by decide +kernel⟩, List.mem_of_getElem? (i := 1041) (by decide +kernel), List.mem_of_getElem? (i := 1392) (by decide +kernel), List.mem_of_getElem? (i := 1393) (by decide +kernel)⟩
theorem lw_p55 : lw_okq (⟨"HollowShireModel", "isNear", "(II)Z"⟩, 77) := ⟨⟨by decide +kernel, by decide +kernel⟩, List.mem_of_getElem? (i := 1041) (by decide +kernel), List.mem_of_getElem? (i := 1396) (by decide +kernel), List.mem_of_getElem? (i := 1397) (by decide +kernel)⟩
theorem lw_p56 : lw_okq (⟨"HollowShireModel", "goes", "(I)Z"⟩, 77) := ⟨⟨by decide +kernel, by decide +kernel⟩, List.mem_of_getElem? (i := 1041) (by decide +kernel), List.mem_of_getElem? (i := 1412) (by decide +kernel), List.mem_of_getElem? (i := 1413) (by decide +kernel)⟩
theorem lw_p57 : lw_okq (⟨"HollowShireModel", "step", "()V"⟩, 77) := ⟨⟨by decide +kernel, by decide +kernel⟩, List.mem_of_getElem? (i := 1041) (by decide +kernel), List.mem_of_getElem? (i := 1416) (by decide +kernel), List.mem_of_getElem? (i := 1417) (by decide +kernel)⟩
theorem lw_p58 : lw_okq (⟨"HollowShireModel", "byteAt", "(I)I"⟩, 77) := ⟨⟨by decide +kernel, by decide +kernel⟩, List.mem_of_getElem? (i := 1041) (by decide +kernel), List.mem_of_getElem? (i := 1420) (by decide +kernel), List.mem_of_getElem? (i := 1421) (by decide +kernel)⟩
theorem lw_p59 : lw_okq (⟨"HollowShireModel", "isLetter", "(I)Z"⟩, 77) := ⟨⟨by decide +kernel, by decide +kernel⟩, List.mem_of_getElem? (i := 1041) (by decide +kernel), List.mem_of_getElem? (i := 1424) (by decide +kernel), List.mem_of_getElem? (i := 1425) (by decide +kernel)⟩
theorem lw_p60 : lw_okq (⟨"HollowShireModel", "wordOf", "(J)I"⟩, 77) := ⟨⟨by decide +kernel, by decide +kernel⟩, List.mem_of_getElem? (i := 1041) (by decide +kernel), List.mem_of_getElem? (i := 1431) (by decide +kernel), List.mem_of_getElem? (i := 1432) (by decide +kernel)⟩
theorem lw_p61 : lw_okq (⟨"HollowShireModel", "isDigit", "(I)Z"⟩, 77) := ⟨⟨by decide +kernel, by decide +kernel⟩, List.mem_of_getElem? (i := 1041) (by decide +kernel), List.mem_of_getElem? (i := 1449) (by decide +kernel), List.mem_of_getElem? (i := 1450) (by decide +kernel)⟩
theorem lw_p62 : lw_okq (⟨"HollowShireModel", "isKey", "(I)Z"⟩, 77) := ⟨⟨by decide +kernel, by decide +kernel⟩, List.mem_of_getElem? (i := 1041) (by decide +kernel), List.mem_of_getElem? (i := 1453) (by decide +kernel), List.mem_of_getElem? (i := 1454) (by decide +kernel)⟩
theorem lw_p63 : lw_okq (⟨"HollowShireModel", "takesE", "()Z"⟩, 77) := ⟨⟨by decide +kernel, by decide +kernel⟩, List.mem_of_getElem? (i := 1041) (by decide +kernel), List.mem_of_getElem? (i := 1457) (by decide +kernel), List.mem_of_getElem? (i := 1458) (by decide +kernel)⟩
def lw_privs_4 : List (MethodName × Nat) := [(⟨"HollowShireModel", "valueOf", "(II)I"⟩, 77), (⟨"HollowShireModel", "leastOf", "(II)I"⟩, 77), (⟨"HollowShireModel", "mostOf", "(II)I"⟩, 77), (⟨"HollowShireModel", "trustOf", "(I)I"⟩, 77), (⟨"HollowShireModel", "findSpan", "(III)V"⟩, 77), (⟨"HollowShireModel", "isSheet", "(I)Z"⟩, 77), (⟨"HollowShireModel", "isFit", "(I)Z"⟩, 77), (⟨"HollowShireModel", "isNear", "(II)Z"⟩, 77), (⟨"HollowShireModel", "goes", "(I)Z"⟩, 77), (⟨"HollowShireModel", "step", "()V"⟩, 77), (⟨"HollowShireModel", "byteAt", "(I)I"⟩, 77), (⟨"HollowShireModel", "isLetter", "(I)Z"⟩, 77), (⟨"HollowShireModel", "wordOf", "(J)I"⟩, 77), (⟨"HollowShireModel", "isDigit", "(I)Z"⟩, 77), (⟨"HollowShireModel", "isKey", "(I)Z"⟩, 77), (⟨"HollowShireModel", "takesE", "()Z"⟩, 77)]
theorem lw_r4 : ∀ q ∈ lw_privs_4, lw_okq q := List.forall_mem_cons.mpr ⟨lw_p48, List.forall_mem_cons.mpr ⟨lw_p49, List.forall_mem_cons.mpr ⟨lw_p50, List.forall_mem_cons.mpr ⟨lw_p51, List.forall_mem_cons.mpr ⟨lw_p52, List.forall_mem_cons.mpr ⟨lw_p53, List.forall_mem_cons.mpr ⟨lw_p54, List.forall_mem_cons.mpr ⟨lw_p55, List.forall_mem_cons.mpr ⟨lw_p56, List.forall_mem_cons.mpr ⟨lw_p57, List.forall_mem_cons.mpr ⟨lw_p58, List.forall_mem_cons.mpr ⟨lw_p59, List.forall_mem_cons.mpr ⟨lw_p60, List.forall_mem_cons.mpr ⟨lw_p61, List.forall_mem_cons.mpr ⟨lw_p62, List.forall_mem_cons.mpr ⟨lw_p63, fun _ h => absurd h List.not_mem_nil⟩⟩⟩⟩⟩⟩⟩⟩⟩⟩⟩⟩⟩⟩⟩⟩
theorem lw_p64 : lw_okq (⟨"HollowShireModel", "opens", "(I)Z"⟩, 77) := ⟨⟨by decide +kernel, by decide +kernel⟩, List.mem_of_getElem? (i := 1041) (by decide +kernel), List.mem_of_getElem? (i := 1461) (by decide +kernel), List.mem_of_getElem? (i := 1462) (by decide +kernel)⟩
theorem lw_p65 : lw_okq (⟨"HollowShireModel", "push", "(I)V"⟩, 77) := ⟨⟨by decide +kernel, by decide +kernel⟩, List.mem_of_getElem? (i := 1041) (by decide +kernel), List.mem_of_getElem? (i := 1465) (by decide +kernel), List.mem_of_getElem? (i := 1466) (by decide +kernel)⟩
theorem lw_p66 : lw_okq (⟨"HollowShireModel", "settle", "(I)V"⟩, 77) := ⟨⟨by decide +kernel, by decide +kernel⟩, List.mem_of_getElem? (i := 1041) (by decide +kernel), List.mem_of_getElem? (i := 1469) (by decide +kernel), List.mem_of_getElem? (i := 1470) (by decide +kernel)⟩
theorem lw_p67 : lw_okq (⟨"HollowShireModel", "rankOf", "(I)I"⟩, 77) := ⟨⟨by decide +kernel, by decide +kernel⟩, List.mem_of_getElem? (i := 1041) (by decide +kernel), List.mem_of_getElem? (i := 1473) (by decide +kernel), List.mem_of_getElem? (i := 1474) (by decide +kernel)⟩
theorem lw_p68 : lw_okq (⟨"HollowShireModel", "work", "(I)V"⟩, 77) := ⟨⟨by decide +kernel, by decide +kernel⟩, List.mem_of_getElem? (i := 1041) (by decide +kernel), List.mem_of_getElem? (i := 1477) (by decide +kernel), List.mem_of_getElem? (i := 1478) (by decide +kernel)⟩
theorem lw_p69 : lw_okq (⟨"HollowShireModel", "joint", "()I"⟩, 77) := ⟨⟨by decide +kernel, by decide +kernel⟩, List.mem_of_getElem? (i := 1041) (by decide +kernel), List.mem_of_getElem? (i := 1481) (by decide +kernel), List.mem_of_getElem? (i := 1482) (by decide +kernel)⟩
theorem lw_p70 : lw_okq (⟨"HollowShireModel", "joins", "(I)Z"⟩, 77) := ⟨⟨by decide +kernel, by decide +kernel⟩, List.mem_of_getElem? (i := 1041) (by decide +kernel), List.mem_of_getElem? (i := 1485) (by decide +kernel), List.mem_of_getElem? (i := 1486) (by decide +kernel)⟩
theorem lw_p71 : lw_okq (⟨"HollowShireModel", "lawOf", "(III)I"⟩, 77) := ⟨⟨by decide +kernel, by decide +kernel⟩, List.mem_of_getElem? (i := 1041) (by decide +kernel), List.mem_of_getElem? (i := 1497) (by decide +kernel), List.mem_of_getElem? (i := 1498) (by decide +kernel)⟩
theorem lw_p72 : lw_okq (⟨"HollowShireModel", "findFacts", "(II)V"⟩, 77) := ⟨⟨by decide +kernel, by decide +kernel⟩, List.mem_of_getElem? (i := 1041) (by decide +kernel), List.mem_of_getElem? (i := 1501) (by decide +kernel), List.mem_of_getElem? (i := 1502) (by decide +kernel)⟩
theorem lw_p73 : lw_okq (⟨"HollowShireModel", "doubtOf", "(II)I"⟩, 77) := ⟨⟨by decide +kernel, by decide +kernel⟩, List.mem_of_getElem? (i := 1041) (by decide +kernel), List.mem_of_getElem? (i := 1505) (by decide +kernel), List.mem_of_getElem? (i := 1506) (by decide +kernel)⟩
theorem lw_p74 : lw_okq (⟨"HollowShireModel", "peopleIn", "(I)I"⟩, 77) := ⟨⟨by decide +kernel, by decide +kernel⟩, List.mem_of_getElem? (i := 1041) (by decide +kernel), List.mem_of_getElem? (i := 1509) (by decide +kernel), List.mem_of_getElem? (i := 1510) (by decide +kernel)⟩
theorem lw_p75 : lw_okq (⟨"HollowShireModel", "divisor", "(JJ)J"⟩, 77) := ⟨⟨by decide +kernel, by decide +kernel⟩, List.mem_of_getElem? (i := 1041) (by decide +kernel), List.mem_of_getElem? (i := 1536) (by decide +kernel), List.mem_of_getElem? (i := 1537) (by decide +kernel)⟩
theorem lw_p76 : lw_okq (⟨"HollowShireModel", "isTrue", "(II)Z"⟩, 77) := ⟨⟨by decide +kernel, by decide +kernel⟩, List.mem_of_getElem? (i := 1041) (by decide +kernel), List.mem_of_getElem? (i := 1548) (by decide +kernel), List.mem_of_getElem? (i := 1549) (by decide +kernel)⟩
theorem lw_p77 : lw_okq (⟨"HollowShireModel", "cellsFallen", "()I"⟩, 77) := ⟨⟨by decide +kernel, by decide +kernel⟩, List.mem_of_getElem? (i := 1041) (by decide +kernel), List.mem_of_getElem? (i := 1564) (by decide +kernel), List.mem_of_getElem? (i := 1565) (by decide +kernel)⟩
theorem lw_p78 : lw_okq (⟨"HollowShireModel", "keep", "(I)V"⟩, 77) := ⟨⟨by decide +kernel, by decide +kernel⟩, List.mem_of_getElem? (i := 1041) (by decide +kernel), List.mem_of_getElem? (i := 1568) (by decide +kernel), List.mem_of_getElem? (i := 1569) (by decide +kernel)⟩
theorem lw_p79 : lw_okq (⟨"HollowShireModel", "putBack", "(III)V"⟩, 77) := ⟨⟨by decide +kernel, by decide +kernel⟩, List.mem_of_getElem? (i := 1041) (by decide +kernel), List.mem_of_getElem? (i := 1572) (by decide +kernel), List.mem_of_getElem? (i := 1573) (by decide +kernel)⟩
def lw_privs_5 : List (MethodName × Nat) := [(⟨"HollowShireModel", "opens", "(I)Z"⟩, 77), (⟨"HollowShireModel", "push", "(I)V"⟩, 77), (⟨"HollowShireModel", "settle", "(I)V"⟩, 77), (⟨"HollowShireModel", "rankOf", "(I)I"⟩, 77), (⟨"HollowShireModel", "work", "(I)V"⟩, 77), (⟨"HollowShireModel", "joint", "()I"⟩, 77), (⟨"HollowShireModel", "joins", "(I)Z"⟩, 77), (⟨"HollowShireModel", "lawOf", "(III)I"⟩, 77), (⟨"HollowShireModel", "findFacts", "(II)V"⟩, 77), (⟨"HollowShireModel", "doubtOf", "(II)I"⟩, 77), (⟨"HollowShireModel", "peopleIn", "(I)I"⟩, 77), (⟨"HollowShireModel", "divisor", "(JJ)J"⟩, 77), (⟨"HollowShireModel", "isTrue", "(II)Z"⟩, 77), (⟨"HollowShireModel", "cellsFallen", "()I"⟩, 77), (⟨"HollowShireModel", "keep", "(I)V"⟩, 77), (⟨"HollowShireModel", "putBack", "(III)V"⟩, 77)]
theorem lw_r5 : ∀ q ∈ lw_privs_5, lw_okq q := List.forall_mem_cons.mpr ⟨lw_p64, List.forall_mem_cons.mpr ⟨lw_p65, List.forall_mem_cons.mpr ⟨lw_p66, List.forall_mem_cons.mpr ⟨lw_p67, List.forall_mem_cons.mpr ⟨lw_p68, List.forall_mem_cons.mpr ⟨lw_p69, List.forall_mem_cons.mpr ⟨lw_p70, List.forall_mem_cons.mpr ⟨lw_p71, List.forall_mem_cons.mpr ⟨lw_p72, List.forall_mem_cons.mpr ⟨lw_p73, List.forall_mem_cons.mpr ⟨lw_p74, List.forall_mem_cons.mpr ⟨lw_p75, List.forall_mem_cons.mpr ⟨lw_p76, List.forall_mem_cons.mpr ⟨lw_p77, List.forall_mem_cons.mpr ⟨lw_p78, List.forall_mem_cons.mpr ⟨lw_p79, fun _ h => absurd h List.not_mem_nil⟩⟩⟩⟩⟩⟩⟩⟩⟩⟩⟩⟩⟩⟩⟩⟩
theorem lw_p80 : lw_okq (⟨"HollowShireModel", "isOfKind", "(II)Z"⟩, 77) := ⟨⟨by decide +kernel, by decide +kernel⟩, List.mem_of_getElem? (i := 1041) (by decide +kernel), List.mem_of_getElem? (i := 1617) (by decide +kernel), List.mem_of_getElem? (i := 1618) (by decide +kernel)⟩
def lw_privs_6 : List (MethodName × Nat) := [(⟨"HollowShireModel", "isOfKind", "(II)Z"⟩, 77)]
theorem lw_r6 : ∀ q ∈ lw_privs_6, lw_okq q := List.forall_mem_cons.mpr ⟨lw_p80, fun _ h => absurd h List.not_mem_nil⟩
def lw_privs : List (MethodName × Nat) := lw_privs_1 ++ (lw_privs_2 ++ (lw_privs_3 ++ (lw_privs_4 ++ (lw_privs_5 ++ (lw_privs_6)))))
def lw_tbl : List Cond := k2_sels lw_privs ++ tables_1
theorem lw_privs_ok : ∀ q ∈ lw_privs, lw_okq q := by
  show ∀ q ∈ lw_privs_1 ++ (lw_privs_2 ++ (lw_privs_3 ++ (lw_privs_4 ++ (lw_privs_5 ++ (lw_privs_6))))), lw_okq q
  exact List.forall_mem_append.mpr ⟨lw_r1, List.forall_mem_append.mpr ⟨lw_r2, List.forall_mem_append.mpr ⟨lw_r3, List.forall_mem_append.mpr ⟨lw_r4, List.forall_mem_append.mpr ⟨lw_r5, lw_r6⟩⟩⟩⟩⟩
end
section
/-! ===== BEGIN words of one list among another's, by their places ===== -/
theorem goodIn_r {big : List Cond} (ws : List Cond) (ps : List Nat) (hp : ws = ps.filterMap (fun i => big[i]?)) (h : ws.all goodWord = true) : GoodIn big ws := by
  intro w hw
  have h1 := List.all_eq_true.mp h w hw
  rw [hp] at hw
  obtain ⟨i, -, hi⟩ := List.mem_filterMap.mp hw
  have hm : w ∈ big := by first | exact List.mem_of_getElem? hi | exact List.getElem?_mem hi
  exact ⟨hm, good_of_word h1⟩
theorem goodIn_app {big a b : List Cond} (ha : GoodIn big a) (hb : GoodIn big b) : GoodIn big (a ++ b) := fun w h => (List.mem_append.mp h).elim (ha w) (hb w)
theorem goodIn_ca {big a b : List Cond} {c : Cond} (ha : GoodIn big (c :: a)) (hb : GoodIn big b) : GoodIn big (c :: (a ++ b)) := fun w h => (List.mem_cons.mp h).elim (fun e => ha w (List.mem_cons.mpr (Or.inl e))) (fun h => (List.mem_append.mp h).elim (fun h => ha w (List.mem_cons.mpr (Or.inr h))) (hb w))
theorem goodIn_sub {big ws : List Cond} (hm : ∀ w ∈ ws, w ∈ big) (h : ws.all goodWord = true) : GoodIn big ws := fun w hw => ⟨hm w hw, good_of_word (List.all_eq_true.mp h w hw)⟩
/-! ===== END ===== -/

/-! ===== BEGIN printed: names, fields, word lists, decode rows ===== -/
def RX0 : String := "HollowShire$Built"
def TX0 : u_T := fun k => match k with
  | 0 => ("HollowShire$Built", "houses", "I", false)
  | 1 => ("HollowShire$Built", "pumps", "I", false)
  | 2 => ("HollowShire$Built", "houseCell", "[I", true)
  | 3 => ("HollowShire$Built", "worth", "[I", true)
  | 4 => ("HollowShire$Built", "people", "[I", true)
  | _ => ("HollowShire$Built", "pumpCell", "[I", true)
def tyX0 : Nat → FieldType := fun k => match k with
  | 0 => .int
  | 1 => .int
  | 2 => .array .int
  | 3 => .array .int
  | 4 => .array .int
  | _ => .array .int
abbrev wsX00 : List Cond := u_ws RX0 TX0 6
theorem nmX0 : ∀ a, a < 6 → ∀ b, b < 6 → a ≠ b → (TX0 a).2.1 ≠ (TX0 b).2.1 := by decide +kernel
theorem tyX0_ok : ∀ k, k < 6 → parseFieldDescriptor (TX0 k).2.2.1 = some (tyX0 k) := by decide +kernel
abbrev cX0_init : ByteArray := prog_2_method_1_code
def yX0_init : MethodName := ⟨RX0, "<init>", "()V"⟩
abbrev cX0_addHouse : ByteArray := prog_2_method_2_code
def yX0_addHouse : MethodName := ⟨RX0, "addHouse", "(III)I"⟩
abbrev cX0_addPump : ByteArray := prog_2_method_3_code
def yX0_addPump : MethodName := ⟨RX0, "addPump", "(I)I"⟩
def RX1 : String := "HollowShire$Fit"
def TX1 : u_T := fun k => match k with
  | 0 => ("HollowShire$Fit", "cells", "I", false)
  | 1 => ("HollowShire$Fit", "rivals", "I", false)
  | 2 => ("HollowShire$Fit", "fewest", "I", false)
  | 3 => ("HollowShire$Fit", "together", "I", false)
  | 4 => ("HollowShire$Fit", "best", "[I", true)
  | 5 => ("HollowShire$Fit", "least", "[I", true)
  | 6 => ("HollowShire$Fit", "greatest", "[I", true)
  | 7 => ("HollowShire$Fit", "low", "[I", true)
  | 8 => ("HollowShire$Fit", "high", "[I", true)
  | 9 => ("HollowShire$Fit", "sizes", "[I", true)
  | 10 => ("HollowShire$Fit", "needs", "I", false)
  | 11 => ("HollowShire$Fit", "needed", "[I", true)
  | _ => ("HollowShire$Fit", "neededOf", "[I", true)
def tyX1 : Nat → FieldType := fun k => match k with
  | 0 => .int
  | 1 => .int
  | 2 => .int
  | 3 => .int
  | 4 => .array .int
  | 5 => .array .int
  | 6 => .array .int
  | 7 => .array .int
  | 8 => .array .int
  | 9 => .array .int
  | 10 => .int
  | 11 => .array .int
  | _ => .array .int
abbrev wsX10 : List Cond := u_ws RX1 TX1 13
theorem nmX1 : ∀ a, a < 13 → ∀ b, b < 13 → a ≠ b → (TX1 a).2.1 ≠ (TX1 b).2.1 := by decide +kernel
theorem tyX1_ok : ∀ k, k < 13 → parseFieldDescriptor (TX1 k).2.2.1 = some (tyX1 k) := by decide +kernel
abbrev cX1_init : ByteArray := prog_3_method_1_code
def yX1_init : MethodName := ⟨RX1, "<init>", "()V"⟩
abbrev cX1_search : ByteArray := prog_3_method_2_code
def yX1_search : MethodName := ⟨RX1, "search", "(LHollowShire$Sheet;LHollowShire$Signs;LHollowShire$Told;I)V"⟩
abbrev cX1_gatherNeeds : ByteArray := prog_3_method_3_code
def yX1_gatherNeeds : MethodName := ⟨RX1, "gatherNeeds", "(LHollowShire$Sheet;LHollowShire$Told;I)V"⟩
abbrev cX1_takeSizes : ByteArray := prog_3_method_4_code
def yX1_takeSizes : MethodName := ⟨RX1, "takeSizes", "(I)Z"⟩
abbrev cX1_meetsNeeds : ByteArray := prog_3_method_5_code
def yX1_meetsNeeds : MethodName := ⟨RX1, "meetsNeeds", "()Z"⟩
abbrev cX1_weighUp : ByteArray := prog_3_method_6_code
def yX1_weighUp : MethodName := ⟨RX1, "weighUp", "()V"⟩
def RX2 : String := "HollowShire$Ground"
def TX2 : u_T := fun k => match k with
  | 0 => ("HollowShire$Ground", "built", "LHollowShire$Built;", true)
  | 1 => ("HollowShire$Ground", "month", "I", false)
  | 2 => ("HollowShire$Ground", "rain", "I", false)
  | 3 => ("HollowShire$Ground", "fallen", "I", false)
  | 4 => ("HollowShire$Ground", "harm", "I", false)
  | 5 => ("HollowShire$Ground", "rock", "[I", true)
  | 6 => ("HollowShire$Ground", "hollow", "[I", true)
  | 7 => ("HollowShire$Ground", "water", "[I", true)
  | 8 => ("HollowShire$Ground", "fell", "[I", true)
  | 9 => ("HollowShire$Ground", "fallsOf", "[I", true)
  | 10 => ("HollowShire$Ground", "monthsOf", "[I", true)
  | 11 => ("HollowShire$Ground", "pumped", "[I", true)
  | 12 => ("HollowShire$Ground", "gone", "[I", true)
  | 13 => ("HollowShire$Ground", "away", "[Z", true)
  | 14 => ("HollowShire$Ground", "goesDown", "[I", true)
  | _ => ("HollowShire$Ground", "goesAcross", "[I", true)
def tyX2 : Nat → FieldType := fun k => match k with
  | 0 => .object "HollowShire$Built"
  | 1 => .int
  | 2 => .int
  | 3 => .int
  | 4 => .int
  | 5 => .array .int
  | 6 => .array .int
  | 7 => .array .int
  | 8 => .array .int
  | 9 => .array .int
  | 10 => .array .int
  | 11 => .array .int
  | 12 => .array .int
  | 13 => .array .boolean
  | 14 => .array .int
  | _ => .array .int
abbrev wsX20 : List Cond := u_ws RX2 TX2 16
theorem nmX2 : ∀ a, a < 16 → ∀ b, b < 16 → a ≠ b → (TX2 a).2.1 ≠ (TX2 b).2.1 := by decide +kernel
theorem tyX2_ok : ∀ k, k < 16 → parseFieldDescriptor (TX2 k).2.2.1 = some (tyX2 k) := by decide +kernel
abbrev cX2_init : ByteArray := prog_4_method_1_code
def yX2_init : MethodName := ⟨RX2, "<init>", "(LHollowShire$Built;)V"⟩
abbrev cX2_become : ByteArray := prog_4_method_2_code
def yX2_become : MethodName := ⟨RX2, "become", "(LHollowShire$Ground;)V"⟩
abbrev cX2_hasFallen : ByteArray := prog_4_method_3_code
def yX2_hasFallen : MethodName := ⟨RX2, "hasFallen", "(I)Z"⟩
abbrev cX2_peopleAt : ByteArray := prog_4_method_4_code
def yX2_peopleAt : MethodName := ⟨RX2, "peopleAt", "(I)I"⟩
abbrev cX2_pumpsNear : ByteArray := prog_4_method_5_code
def yX2_pumpsNear : MethodName := ⟨RX2, "pumpsNear", "(I)I"⟩
abbrev cX2_harmOf : ByteArray := prog_4_method_6_code
def yX2_harmOf : MethodName := ⟨RX2, "harmOf", "(I)I"⟩
abbrev cX2_passMonths : ByteArray := prog_4_method_7_code
def yX2_passMonths : MethodName := ⟨RX2, "passMonths", "(I)V"⟩
abbrev cX2_rainDown : ByteArray := prog_4_method_8_code
def yX2_rainDown : MethodName := ⟨RX2, "rainDown", "()V"⟩
abbrev cX2_pumpOut : ByteArray := prog_4_method_9_code
def yX2_pumpOut : MethodName := ⟨RX2, "pumpOut", "()V"⟩
abbrev cX2_flow : ByteArray := prog_4_method_10_code
def yX2_flow : MethodName := ⟨RX2, "flow", "()V"⟩
abbrev cX2_go : ByteArray := prog_4_method_11_code
def yX2_go : MethodName := ⟨RX2, "go", "(III)V"⟩
abbrev cX2_solve : ByteArray := prog_4_method_12_code
def yX2_solve : MethodName := ⟨RX2, "solve", "(II)V"⟩
abbrev cX2_letFall : ByteArray := prog_4_method_13_code
def yX2_letFall : MethodName := ⟨RX2, "letFall", "()V"⟩
abbrev cX2_takeHouses : ByteArray := prog_4_method_14_code
def yX2_takeHouses : MethodName := ⟨RX2, "takeHouses", "(I)V"⟩
def RX3 : String := "HollowShire$Reader"
def TX3 : u_T := fun k => match k with
  | 0 => ("HollowShire$Reader", "made", "LHollowShire$Text;", true)
  | 1 => ("HollowShire$Reader", "tape", "LHollowShire$Tape;", true)
  | 2 => ("HollowShire$Reader", "next", "I", false)
  | 3 => ("HollowShire$Reader", "token", "I", false)
  | _ => ("HollowShire$Reader", "fault", "I", false)
def tyX3 : Nat → FieldType := fun k => match k with
  | 0 => .object "HollowShire$Text"
  | 1 => .object "HollowShire$Tape"
  | 2 => .int
  | 3 => .int
  | _ => .int
abbrev wsX30 : List Cond := u_ws RX3 TX3 5
theorem nmX3 : ∀ a, a < 5 → ∀ b, b < 5 → a ≠ b → (TX3 a).2.1 ≠ (TX3 b).2.1 := by decide +kernel
theorem tyX3_ok : ∀ k, k < 5 → parseFieldDescriptor (TX3 k).2.2.1 = some (tyX3 k) := by decide +kernel
abbrev cX3_init : ByteArray := prog_5_method_1_code
def yX3_init : MethodName := ⟨RX3, "<init>", "(LHollowShire$Tape;)V"⟩
abbrev cX3_read : ByteArray := prog_5_method_2_code
def yX3_read : MethodName := ⟨RX3, "read", "()I"⟩
abbrev cX3_readOr : ByteArray := prog_5_method_3_code
def yX3_readOr : MethodName := ⟨RX3, "readOr", "(I)V"⟩
abbrev cX3_readAnd : ByteArray := prog_5_method_4_code
def yX3_readAnd : MethodName := ⟨RX3, "readAnd", "(I)V"⟩
abbrev cX3_readNot : ByteArray := prog_5_method_5_code
def yX3_readNot : MethodName := ⟨RX3, "readNot", "(I)V"⟩
abbrev cX3_readSum : ByteArray := prog_5_method_6_code
def yX3_readSum : MethodName := ⟨RX3, "readSum", "(I)V"⟩
abbrev cX3_readTerm : ByteArray := prog_5_method_7_code
def yX3_readTerm : MethodName := ⟨RX3, "readTerm", "(I)V"⟩
abbrev cX3_readOne : ByteArray := prog_5_method_8_code
def yX3_readOne : MethodName := ⟨RX3, "readOne", "(I)V"⟩
abbrev cX3_expect : ByteArray := prog_5_method_9_code
def yX3_expect : MethodName := ⟨RX3, "expect", "(I)V"⟩
abbrev cX3_advance : ByteArray := prog_5_method_10_code
def yX3_advance : MethodName := ⟨RX3, "advance", "()V"⟩
abbrev cX3_refuse : ByteArray := prog_5_method_11_code
def yX3_refuse : MethodName := ⟨RX3, "refuse", "()V"⟩
def RX4 : String := "HollowShire$Rules"
def TX4 : u_T := fun k => match k with
  | 0 => ("HollowShire$Rules", "tape", "LHollowShire$Tape;", true)
  | 1 => ("HollowShire$Rules", "texts", "I", false)
  | 2 => ("HollowShire$Rules", "rule", "I", false)
  | 3 => ("HollowShire$Rules", "reader", "LHollowShire$Reader;", true)
  | 4 => ("HollowShire$Rules", "all", "[LHollowShire$Text;", true)
  | 5 => ("HollowShire$Rules", "named", "[I", true)
  | _ => ("HollowShire$Rules", "stack", "[I", true)
def tyX4 : Nat → FieldType := fun k => match k with
  | 0 => .object "HollowShire$Tape"
  | 1 => .int
  | 2 => .int
  | 3 => .object "HollowShire$Reader"
  | 4 => .array (.object "HollowShire$Text")
  | 5 => .array .int
  | _ => .array .int
abbrev wsX40 : List Cond := u_ws RX4 TX4 7
theorem nmX4 : ∀ a, a < 7 → ∀ b, b < 7 → a ≠ b → (TX4 a).2.1 ≠ (TX4 b).2.1 := by decide +kernel
theorem tyX4_ok : ∀ k, k < 7 → parseFieldDescriptor (TX4 k).2.2.1 = some (tyX4 k) := by decide +kernel
abbrev cX4_init : ByteArray := prog_6_method_1_code
def yX4_init : MethodName := ⟨RX4, "<init>", "()V"⟩
abbrev cX4_feedFirstText : ByteArray := prog_6_method_2_code
def yX4_feedFirstText : MethodName := ⟨RX4, "feedFirstText", "()V"⟩
abbrev cX4_takeTape : ByteArray := prog_6_method_3_code
def yX4_takeTape : MethodName := ⟨RX4, "takeTape", "()I"⟩
abbrev cX4_tellSpan : ByteArray := prog_6_method_4_code
def yX4_tellSpan : MethodName := ⟨RX4, "tellSpan", "(II)V"⟩
abbrev cX4_tellGround : ByteArray := prog_6_method_5_code
def yX4_tellGround : MethodName := ⟨RX4, "tellGround", "(LHollowShire$Ground;II)V"⟩
abbrev cX4_value : ByteArray := prog_6_method_6_code
def yX4_value : MethodName := ⟨RX4, "value", "(I)I"⟩
abbrev cX4_joined : ByteArray := prog_6_method_7_code
def yX4_joined : MethodName := ⟨RX4, "joined", "(III)I"⟩
def RX5 : String := "HollowShire$Sheet"
def TX5 : u_T := fun k => match k with
  | 0 => ("HollowShire$Sheet", "sort", "I", false)
  | 1 => ("HollowShire$Sheet", "size", "I", false)
  | _ => ("HollowShire$Sheet", "numbers", "[I", true)
def tyX5 : Nat → FieldType := fun k => match k with
  | 0 => .int
  | 1 => .int
  | _ => .array .int
abbrev wsX50 : List Cond := u_ws RX5 TX5 3
theorem nmX5 : ∀ a, a < 3 → ∀ b, b < 3 → a ≠ b → (TX5 a).2.1 ≠ (TX5 b).2.1 := by decide +kernel
theorem tyX5_ok : ∀ k, k < 3 → parseFieldDescriptor (TX5 k).2.2.1 = some (tyX5 k) := by decide +kernel
abbrev cX5_init : ByteArray := prog_7_method_1_code
def yX5_init : MethodName := ⟨RX5, "<init>", "()V"⟩
abbrev cX5_isMissing : ByteArray := prog_7_method_2_code
def yX5_isMissing : MethodName := ⟨RX5, "isMissing", "()Z"⟩
abbrev cX5_has : ByteArray := prog_7_method_3_code
def yX5_has : MethodName := ⟨RX5, "has", "(I)Z"⟩
abbrev cX5_begin : ByteArray := prog_7_method_4_code
def yX5_begin : MethodName := ⟨RX5, "begin", "(II)V"⟩
abbrev cX5_put : ByteArray := prog_7_method_5_code
def yX5_put : MethodName := ⟨RX5, "put", "(II)V"⟩
def RX6 : String := "HollowShire$Signs"
def TX6 : u_T := fun k => match k with
  | 0 => ("HollowShire$Signs", "size", "I", false)
  | 1 => ("HollowShire$Signs", "kind", "[I", true)
  | 2 => ("HollowShire$Signs", "cell", "[I", true)
  | 3 => ("HollowShire$Signs", "value", "[I", true)
  | 4 => ("HollowShire$Signs", "month", "[I", true)
  | 5 => ("HollowShire$Signs", "mended", "[I", true)
  | _ => ("HollowShire$Signs", "mendMonth", "[I", true)
def tyX6 : Nat → FieldType := fun k => match k with
  | 0 => .int
  | 1 => .array .int
  | 2 => .array .int
  | 3 => .array .int
  | 4 => .array .int
  | 5 => .array .int
  | _ => .array .int
abbrev wsX60 : List Cond := u_ws RX6 TX6 7
theorem nmX6 : ∀ a, a < 7 → ∀ b, b < 7 → a ≠ b → (TX6 a).2.1 ≠ (TX6 b).2.1 := by decide +kernel
theorem tyX6_ok : ∀ k, k < 7 → parseFieldDescriptor (TX6 k).2.2.1 = some (tyX6 k) := by decide +kernel
abbrev cX6_init : ByteArray := prog_8_method_1_code
def yX6_init : MethodName := ⟨RX6, "<init>", "()V"⟩
abbrev cX6_add : ByteArray := prog_8_method_2_code
def yX6_add : MethodName := ⟨RX6, "add", "(IIII)I"⟩
abbrev cX6_valueKnown : ByteArray := prog_8_method_3_code
def yX6_valueKnown : MethodName := ⟨RX6, "valueKnown", "(II)I"⟩
abbrev cX6_least : ByteArray := prog_8_method_4_code
def yX6_least : MethodName := ⟨RX6, "least", "(III)I"⟩
abbrev cX6_most : ByteArray := prog_8_method_5_code
def yX6_most : MethodName := ⟨RX6, "most", "(III)I"⟩
abbrev cX6_speaks : ByteArray := prog_8_method_6_code
def yX6_speaks : MethodName := ⟨RX6, "speaks", "(IIII)Z"⟩
abbrev cX6_leastBy : ByteArray := prog_8_method_7_code
def yX6_leastBy : MethodName := ⟨RX6, "leastBy", "(II)I"⟩
abbrev cX6_mostBy : ByteArray := prog_8_method_8_code
def yX6_mostBy : MethodName := ⟨RX6, "mostBy", "(II)I"⟩
abbrev cX6_trustIn : ByteArray := prog_8_method_9_code
def yX6_trustIn : MethodName := ⟨RX6, "trustIn", "(I)I"⟩
abbrev cX6_isOneOf : ByteArray := prog_8_method_10_code
def yX6_isOneOf : MethodName := ⟨RX6, "isOneOf", "(II)Z"⟩
def RX7 : String := "HollowShire$Tape"
def TX7 : u_T := fun k => match k with
  | 0 => ("HollowShire$Tape", "size", "I", false)
  | 1 => ("HollowShire$Tape", "tokens", "I", false)
  | 2 => ("HollowShire$Tape", "bytes", "[I", true)
  | 3 => ("HollowShire$Tape", "place", "[I", true)
  | 4 => ("HollowShire$Tape", "length", "[I", true)
  | 5 => ("HollowShire$Tape", "kind", "[I", true)
  | _ => ("HollowShire$Tape", "number", "[I", true)
def tyX7 : Nat → FieldType := fun k => match k with
  | 0 => .int
  | 1 => .int
  | 2 => .array .int
  | 3 => .array .int
  | 4 => .array .int
  | 5 => .array .int
  | _ => .array .int
abbrev wsX70 : List Cond := u_ws RX7 TX7 7
theorem nmX7 : ∀ a, a < 7 → ∀ b, b < 7 → a ≠ b → (TX7 a).2.1 ≠ (TX7 b).2.1 := by decide +kernel
theorem tyX7_ok : ∀ k, k < 7 → parseFieldDescriptor (TX7 k).2.2.1 = some (tyX7 k) := by decide +kernel
abbrev cX7_init : ByteArray := prog_9_method_1_code
def yX7_init : MethodName := ⟨RX7, "<init>", "()V"⟩
abbrev cX7_put : ByteArray := prog_9_method_2_code
def yX7_put : MethodName := ⟨RX7, "put", "(I)V"⟩
abbrev cX7_kindAt : ByteArray := prog_9_method_3_code
def yX7_kindAt : MethodName := ⟨RX7, "kindAt", "(I)I"⟩
abbrev cX7_placeAt : ByteArray := prog_9_method_4_code
def yX7_placeAt : MethodName := ⟨RX7, "placeAt", "(I)I"⟩
abbrev cX7_numberAt : ByteArray := prog_9_method_5_code
def yX7_numberAt : MethodName := ⟨RX7, "numberAt", "(I)I"⟩
abbrev cX7_split : ByteArray := prog_9_method_6_code
def yX7_split : MethodName := ⟨RX7, "split", "()V"⟩
abbrev cX7_goOn : ByteArray := prog_9_method_7_code
def yX7_goOn : MethodName := ⟨RX7, "goOn", "(II)Z"⟩
abbrev cX7_tellKind : ByteArray := prog_9_method_8_code
def yX7_tellKind : MethodName := ⟨RX7, "tellKind", "(I)V"⟩
abbrev cX7_tellWord : ByteArray := prog_9_method_9_code
def yX7_tellWord : MethodName := ⟨RX7, "tellWord", "(I)V"⟩
abbrev cX7_spells : ByteArray := prog_9_method_10_code
def yX7_spells : MethodName := ⟨RX7, "spells", "(ILjava/lang/String;)Z"⟩
abbrev cX7_tellNumber : ByteArray := prog_9_method_11_code
def yX7_tellNumber : MethodName := ⟨RX7, "tellNumber", "(I)V"⟩
abbrev cX7_isLetter : ByteArray := prog_9_method_12_code
def yX7_isLetter : MethodName := ⟨RX7, "isLetter", "(I)Z"⟩
abbrev cX7_isDigit : ByteArray := prog_9_method_13_code
def yX7_isDigit : MethodName := ⟨RX7, "isDigit", "(I)Z"⟩
abbrev cX7_isMark : ByteArray := prog_9_method_14_code
def yX7_isMark : MethodName := ⟨RX7, "isMark", "(I)Z"⟩
abbrev cX7_wordAt : ByteArray := prog_9_method_15_code
def yX7_wordAt : MethodName := ⟨RX7, "wordAt", "(I)Ljava/lang/String;"⟩
def RX8 : String := "HollowShire$Text"
def TX8 : u_T := fun k => match k with
  | 0 => ("HollowShire$Text", "steps", "I", false)
  | 1 => ("HollowShire$Text", "step", "[I", true)
  | _ => ("HollowShire$Text", "partEnd", "[I", true)
def tyX8 : Nat → FieldType := fun k => match k with
  | 0 => .int
  | 1 => .array .int
  | _ => .array .int
abbrev wsX80 : List Cond := u_ws RX8 TX8 3
theorem nmX8 : ∀ a, a < 3 → ∀ b, b < 3 → a ≠ b → (TX8 a).2.1 ≠ (TX8 b).2.1 := by decide +kernel
theorem tyX8_ok : ∀ k, k < 3 → parseFieldDescriptor (TX8 k).2.2.1 = some (tyX8 k) := by decide +kernel
abbrev cX8_init : ByteArray := prog_10_method_1_code
def yX8_init : MethodName := ⟨RX8, "<init>", "()V"⟩
abbrev cX8_add : ByteArray := prog_10_method_2_code
def yX8_add : MethodName := ⟨RX8, "add", "(I)V"⟩
abbrev cX8_become : ByteArray := prog_10_method_3_code
def yX8_become : MethodName := ⟨RX8, "become", "(LHollowShire$Text;)V"⟩
def RX9 : String := "HollowShire$Told"
def TX9 : u_T := fun k => match k with
  | 0 => ("HollowShire$Told", "size", "I", false)
  | 1 => ("HollowShire$Told", "cell", "[I", true)
  | 2 => ("HollowShire$Told", "much", "[I", true)
  | _ => ("HollowShire$Told", "month", "[I", true)
def tyX9 : Nat → FieldType := fun k => match k with
  | 0 => .int
  | 1 => .array .int
  | 2 => .array .int
  | _ => .array .int
abbrev wsX90 : List Cond := u_ws RX9 TX9 4
theorem nmX9 : ∀ a, a < 4 → ∀ b, b < 4 → a ≠ b → (TX9 a).2.1 ≠ (TX9 b).2.1 := by decide +kernel
theorem tyX9_ok : ∀ k, k < 4 → parseFieldDescriptor (TX9 k).2.2.1 = some (tyX9 k) := by decide +kernel
abbrev cX9_init : ByteArray := prog_11_method_1_code
def yX9_init : MethodName := ⟨RX9, "<init>", "(I)V"⟩
abbrev cX9_isFull : ByteArray := prog_11_method_2_code
def yX9_isFull : MethodName := ⟨RX9, "isFull", "()Z"⟩
abbrev cX9_add : ByteArray := prog_11_method_3_code
def yX9_add : MethodName := ⟨RX9, "add", "(III)I"⟩
def RX10 : String := "HollowShire"
def TX10 : u_T := fun k => match k with
  | 0 => ("HollowShire", "built", "LHollowShire$Built;", true)
  | 1 => ("HollowShire", "now", "LHollowShire$Ground;", true)
  | 2 => ("HollowShire", "aside", "LHollowShire$Ground;", true)
  | 3 => ("HollowShire", "kept", "LHollowShire$Ground;", true)
  | 4 => ("HollowShire", "isKept", "Z", false)
  | 5 => ("HollowShire", "signBook", "LHollowShire$Signs;", true)
  | 6 => ("HollowShire", "lostBook", "LHollowShire$Told;", true)
  | 7 => ("HollowShire", "warnBook", "LHollowShire$Told;", true)
  | 8 => ("HollowShire", "lastFit", "LHollowShire$Fit;", true)
  | 9 => ("HollowShire", "rules", "LHollowShire$Rules;", true)
  | 10 => ("HollowShire", "rows", "[LHollowShire$Sheet;", true)
  | 11 => ("HollowShire", "lookWorth", "[I", true)
  | 12 => ("HollowShire", "lookSet", "I", false)
  | _ => ("HollowShire", "planSet", "I", false)
def tyX10 : Nat → FieldType := fun k => match k with
  | 0 => .object "HollowShire$Built"
  | 1 => .object "HollowShire$Ground"
  | 2 => .object "HollowShire$Ground"
  | 3 => .object "HollowShire$Ground"
  | 4 => .boolean
  | 5 => .object "HollowShire$Signs"
  | 6 => .object "HollowShire$Told"
  | 7 => .object "HollowShire$Told"
  | 8 => .object "HollowShire$Fit"
  | 9 => .object "HollowShire$Rules"
  | 10 => .array (.object "HollowShire$Sheet")
  | 11 => .array .int
  | 12 => .int
  | _ => .int
abbrev wsX100 : List Cond := u_ws RX10 TX10 14
theorem nmX10 : ∀ a, a < 14 → ∀ b, b < 14 → a ≠ b → (TX10 a).2.1 ≠ (TX10 b).2.1 := by decide +kernel
theorem tyX10_ok : ∀ k, k < 14 → parseFieldDescriptor (TX10 k).2.2.1 = some (tyX10 k) := by decide +kernel
abbrev cX10_init : ByteArray := prog_1_method_1_code
def yX10_init : MethodName := ⟨RX10, "<init>", "()V"⟩
abbrev cX10_ground : ByteArray := prog_1_method_2_code
def yX10_ground : MethodName := ⟨RX10, "ground", "(III)I"⟩
abbrev cX10_house : ByteArray := prog_1_method_3_code
def yX10_house : MethodName := ⟨RX10, "house", "(III)I"⟩
abbrev cX10_pump : ByteArray := prog_1_method_4_code
def yX10_pump : MethodName := ⟨RX10, "pump", "(I)I"⟩
abbrev cX10_pumping : ByteArray := prog_1_method_5_code
def yX10_pumping : MethodName := ⟨RX10, "pumping", "(II)I"⟩
abbrev cX10_rain : ByteArray := prog_1_method_6_code
def yX10_rain : MethodName := ⟨RX10, "rain", "(I)I"⟩
abbrev cX10_move : ByteArray := prog_1_method_7_code
def yX10_move : MethodName := ⟨RX10, "move", "(I)I"⟩
abbrev cX10_run : ByteArray := prog_1_method_8_code
def yX10_run : MethodName := ⟨RX10, "run", "(I)I"⟩
abbrev cX10_sign : ByteArray := prog_1_method_9_code
def yX10_sign : MethodName := ⟨RX10, "sign", "(III)I"⟩
abbrev cX10_mend : ByteArray := prog_1_method_10_code
def yX10_mend : MethodName := ⟨RX10, "mend", "(II)I"⟩
abbrev cX10_signTold : ByteArray := prog_1_method_11_code
def yX10_signTold : MethodName := ⟨RX10, "signTold", "(III)I"⟩
abbrev cX10_span : ByteArray := prog_1_method_12_code
def yX10_span : MethodName := ⟨RX10, "span", "(III)I"⟩
abbrev cX10_lost : ByteArray := prog_1_method_13_code
def yX10_lost : MethodName := ⟨RX10, "lost", "(II)I"⟩
abbrev cX10_fit : ByteArray := prog_1_method_14_code
def yX10_fit : MethodName := ⟨RX10, "fit", "(II)I"⟩
abbrev cX10_fitTold : ByteArray := prog_1_method_15_code
def yX10_fitTold : MethodName := ⟨RX10, "fitTold", "(II)I"⟩
abbrev cX10_feed : ByteArray := prog_1_method_16_code
def yX10_feed : MethodName := ⟨RX10, "feed", "(JI)I"⟩
abbrev cX10_text : ByteArray := prog_1_method_17_code
def yX10_text : MethodName := ⟨RX10, "text", "()I"⟩
abbrev cX10_force : ByteArray := prog_1_method_18_code
def yX10_force : MethodName := ⟨RX10, "force", "(I)I"⟩
abbrev cX10_law : ByteArray := prog_1_method_19_code
def yX10_law : MethodName := ⟨RX10, "law", "(III)J"⟩
abbrev cX10_moved : ByteArray := prog_1_method_20_code
def yX10_moved : MethodName := ⟨RX10, "moved", "(I)J"⟩
abbrev cX10_part : ByteArray := prog_1_method_21_code
def yX10_part : MethodName := ⟨RX10, "part", "(II)J"⟩
abbrev cX10_looks : ByteArray := prog_1_method_22_code
def yX10_looks : MethodName := ⟨RX10, "looks", "(III)I"⟩
abbrev cX10_lookTold : ByteArray := prog_1_method_23_code
def yX10_lookTold : MethodName := ⟨RX10, "lookTold", "()I"⟩
abbrev cX10_often : ByteArray := prog_1_method_24_code
def yX10_often : MethodName := ⟨RX10, "often", "(II)J"⟩
abbrev cX10_warn : ByteArray := prog_1_method_25_code
def yX10_warn : MethodName := ⟨RX10, "warn", "(I)I"⟩
abbrev cX10_warned : ByteArray := prog_1_method_26_code
def yX10_warned : MethodName := ⟨RX10, "warned", "(II)I"⟩
abbrev cX10_cellTold : ByteArray := prog_1_method_27_code
def yX10_cellTold : MethodName := ⟨RX10, "cellTold", "(II)I"⟩
abbrev cX10_houseTold : ByteArray := prog_1_method_28_code
def yX10_houseTold : MethodName := ⟨RX10, "houseTold", "(II)I"⟩
abbrev cX10_beside : ByteArray := prog_1_method_29_code
def yX10_beside : MethodName := ⟨RX10, "beside", "(IIII)J"⟩
abbrev cX10_plan : ByteArray := prog_1_method_30_code
def yX10_plan : MethodName := ⟨RX10, "plan", "(III)J"⟩
abbrev cX10_planned : ByteArray := prog_1_method_31_code
def yX10_planned : MethodName := ⟨RX10, "planned", "()I"⟩
abbrev cX10_image : ByteArray := prog_1_method_32_code
def yX10_image : MethodName := ⟨RX10, "image", "()I"⟩
abbrev cX10_back : ByteArray := prog_1_method_33_code
def yX10_back : MethodName := ⟨RX10, "back", "()I"⟩
abbrev cX10_count : ByteArray := prog_1_method_34_code
def yX10_count : MethodName := ⟨RX10, "count", "(I)I"⟩
abbrev cX10_sheet : ByteArray := prog_1_method_35_code
def yX10_sheet : MethodName := ⟨RX10, "sheet", "(III)I"⟩
abbrev cX10_cell : ByteArray := prog_1_method_36_code
def yX10_cell : MethodName := ⟨RX10, "cell", "(III)I"⟩
abbrev cX10_copy : ByteArray := prog_1_method_37_code
def yX10_copy : MethodName := ⟨RX10, "copy", "(IIIII)I"⟩
abbrev cX10_signs : ByteArray := prog_1_method_38_code
def yX10_signs : MethodName := ⟨RX10, "signs", "(IIII)I"⟩
abbrev cX10_taken : ByteArray := prog_1_method_39_code
def yX10_taken : MethodName := ⟨RX10, "taken", "(III)I"⟩
abbrev cX10_within : ByteArray := prog_1_method_40_code
def yX10_within : MethodName := ⟨RX10, "within", "(III)Z"⟩
abbrev cX10_isCell : ByteArray := prog_1_method_41_code
def yX10_isCell : MethodName := ⟨RX10, "isCell", "(I)Z"⟩
abbrev cX10_isSheet : ByteArray := prog_1_method_42_code
def yX10_isSheet : MethodName := ⟨RX10, "isSheet", "(I)Z"⟩
abbrev cX10_isHouse : ByteArray := prog_1_method_43_code
def yX10_isHouse : MethodName := ⟨RX10, "isHouse", "(I)Z"⟩
abbrev cX10_isSign : ByteArray := prog_1_method_44_code
def yX10_isSign : MethodName := ⟨RX10, "isSign", "(I)Z"⟩
abbrev cX10_isKnown : ByteArray := prog_1_method_45_code
def yX10_isKnown : MethodName := ⟨RX10, "isKnown", "(I)Z"⟩
abbrev cX10_monthsAreLeft : ByteArray := prog_1_method_46_code
def yX10_monthsAreLeft : MethodName := ⟨RX10, "monthsAreLeft", "(I)Z"⟩
abbrev cX10_holdsUnlikeCells : ByteArray := prog_1_method_47_code
def yX10_holdsUnlikeCells : MethodName := ⟨RX10, "holdsUnlikeCells", "(LHollowShire$Sheet;)Z"⟩
abbrev cX10_holdsLooks : ByteArray := prog_1_method_48_code
def yX10_holdsLooks : MethodName := ⟨RX10, "holdsLooks", "(LHollowShire$Sheet;)Z"⟩
abbrev cX10_holdsHouses : ByteArray := prog_1_method_49_code
def yX10_holdsHouses : MethodName := ⟨RX10, "holdsHouses", "(LHollowShire$Sheet;)Z"⟩
abbrev cX10_isNear : ByteArray := prog_1_method_50_code
def yX10_isNear : MethodName := ⟨RX10, "isNear", "(II)Z"⟩
abbrev cX10_greatestShared : ByteArray := prog_1_method_51_code
def yX10_greatestShared : MethodName := ⟨RX10, "greatestShared", "(II)I"⟩
abbrev cX10_ruled : ByteArray := prog_1_method_52_code
def yX10_ruled : MethodName := ⟨RX10, "ruled", "(III)I"⟩
abbrev cX10_worthOfLook : ByteArray := prog_1_method_53_code
def yX10_worthOfLook : MethodName := ⟨RX10, "worthOfLook", "(II)I"⟩
abbrev cX10_priceOfSet : ByteArray := prog_1_method_54_code
def yX10_priceOfSet : MethodName := ⟨RX10, "priceOfSet", "(LHollowShire$Sheet;I)I"⟩
abbrev cX10_worthOfSet : ByteArray := prog_1_method_55_code
def yX10_worthOfSet : MethodName := ⟨RX10, "worthOfSet", "(LHollowShire$Sheet;I)I"⟩
abbrev cX10_cameTrue : ByteArray := prog_1_method_56_code
def yX10_cameTrue : MethodName := ⟨RX10, "cameTrue", "(II)Z"⟩
abbrev cX10_trueWarnings : ByteArray := prog_1_method_57_code
def yX10_trueWarnings : MethodName := ⟨RX10, "trueWarnings", "(I)I"⟩
abbrev cX10_oldWarnings : ByteArray := prog_1_method_58_code
def yX10_oldWarnings : MethodName := ⟨RX10, "oldWarnings", "(I)I"⟩
abbrev cX10_missedCells : ByteArray := prog_1_method_59_code
def yX10_missedCells : MethodName := ⟨RX10, "missedCells", "(I)I"⟩
abbrev cX10_housesOfSet : ByteArray := prog_1_method_60_code
def yX10_housesOfSet : MethodName := ⟨RX10, "housesOfSet", "(LHollowShire$Sheet;I)I"⟩
abbrev cX10_peopleToMove : ByteArray := prog_1_method_61_code
def yX10_peopleToMove : MethodName := ⟨RX10, "peopleToMove", "(I)I"⟩
abbrev cX10_sparedBy : ByteArray := prog_1_method_62_code
def yX10_sparedBy : MethodName := ⟨RX10, "sparedBy", "(I)I"⟩
def RX11 : String := "HollowShireModel"
def TX11 : u_T := fun k => match k with
  | 0 => ("HollowShireModel", "month", "I", false)
  | 1 => ("HollowShireModel", "rain", "I", false)
  | 2 => ("HollowShireModel", "harm", "I", false)
  | 3 => ("HollowShireModel", "houses", "I", false)
  | 4 => ("HollowShireModel", "pumps", "I", false)
  | 5 => ("HollowShireModel", "rock", "[I", true)
  | 6 => ("HollowShireModel", "hollow", "[I", true)
  | 7 => ("HollowShireModel", "water", "[I", true)
  | 8 => ("HollowShireModel", "fell", "[I", true)
  | 9 => ("HollowShireModel", "flows", "[I", true)
  | 10 => ("HollowShireModel", "solves", "[I", true)
  | 11 => ("HollowShireModel", "bears", "[I", true)
  | 12 => ("HollowShireModel", "counted", "[I", true)
  | 13 => ("HollowShireModel", "fallen", "[I", true)
  | 14 => ("HollowShireModel", "houseCell", "[I", true)
  | 15 => ("HollowShireModel", "worth", "[I", true)
  | 16 => ("HollowShireModel", "people", "[I", true)
  | 17 => ("HollowShireModel", "gone", "[I", true)
  | 18 => ("HollowShireModel", "pumpCell", "[I", true)
  | 19 => ("HollowShireModel", "pumping", "[I", true)
  | 20 => ("HollowShireModel", "isMoved", "[Z", true)
  | 21 => ("HollowShireModel", "signs", "I", false)
  | 22 => ("HollowShireModel", "signKind", "[I", true)
  | 23 => ("HollowShireModel", "signCell", "[I", true)
  | 24 => ("HollowShireModel", "signMonth", "[I", true)
  | 25 => ("HollowShireModel", "signValue", "[I", true)
  | 26 => ("HollowShireModel", "mendValue", "[I", true)
  | 27 => ("HollowShireModel", "mendMonth", "[I", true)
  | 28 => ("HollowShireModel", "spanLeast", "I", false)
  | 29 => ("HollowShireModel", "spanMost", "I", false)
  | 30 => ("HollowShireModel", "losts", "I", false)
  | 31 => ("HollowShireModel", "lostCell", "[I", true)
  | 32 => ("HollowShireModel", "lostMuch", "[I", true)
  | 33 => ("HollowShireModel", "lostMonth", "[I", true)
  | 34 => ("HollowShireModel", "fitMany", "I", false)
  | 35 => ("HollowShireModel", "rivals", "I", false)
  | 36 => ("HollowShireModel", "hasFit", "Z", false)
  | 37 => ("HollowShireModel", "sizes", "[I", true)
  | 38 => ("HollowShireModel", "fitCell", "[I", true)
  | 39 => ("HollowShireModel", "fitLeast", "[I", true)
  | 40 => ("HollowShireModel", "fitMost", "[I", true)
  | 41 => ("HollowShireModel", "size", "[I", true)
  | 42 => ("HollowShireModel", "bestSize", "[I", true)
  | 43 => ("HollowShireModel", "sureLeast", "[I", true)
  | 44 => ("HollowShireModel", "sureMost", "[I", true)
  | 45 => ("HollowShireModel", "texts", "I", false)
  | 46 => ("HollowShireModel", "rule", "I", false)
  | 47 => ("HollowShireModel", "fed", "I", false)
  | 48 => ("HollowShireModel", "text", "[I", true)
  | 49 => ("HollowShireModel", "textLong", "[I", true)
  | 50 => ("HollowShireModel", "base", "I", false)
  | 51 => ("HollowShireModel", "many", "I", false)
  | 52 => ("HollowShireModel", "at", "I", false)
  | 53 => ("HollowShireModel", "token", "I", false)
  | 54 => ("HollowShireModel", "tokenAt", "I", false)
  | 55 => ("HollowShireModel", "value", "I", false)
  | 56 => ("HollowShireModel", "waits", "[I", true)
  | 57 => ("HollowShireModel", "pile", "[I", true)
  | 58 => ("HollowShireModel", "facts", "[I", true)
  | 59 => ("HollowShireModel", "waiting", "I", false)
  | 60 => ("HollowShireModel", "piled", "I", false)
  | 61 => ("HollowShireModel", "open", "I", false)
  | 62 => ("HollowShireModel", "says", "[I", true)
  | 63 => ("HollowShireModel", "lookSet", "I", false)
  | 64 => ("HollowShireModel", "lookWorth", "[I", true)
  | 65 => ("HollowShireModel", "warnings", "I", false)
  | 66 => ("HollowShireModel", "warnCell", "[I", true)
  | 67 => ("HollowShireModel", "warnMonth", "[I", true)
  | 68 => ("HollowShireModel", "kept", "[I", true)
  | 69 => ("HollowShireModel", "keptHouses", "I", false)
  | 70 => ("HollowShireModel", "keptPumps", "I", false)
  | 71 => ("HollowShireModel", "hasImage", "Z", false)
  | 72 => ("HollowShireModel", "planSet", "I", false)
  | 73 => ("HollowShireModel", "sort", "[I", true)
  | 74 => ("HollowShireModel", "length", "[I", true)
  | 75 => ("HollowShireModel", "item", "[I", true)
  | _ => ("HollowShireModel", "aside", "[I", true)
def tyX11 : Nat → FieldType := fun k => match k with
  | 0 => .int
  | 1 => .int
  | 2 => .int
  | 3 => .int
  | 4 => .int
  | 5 => .array .int
  | 6 => .array .int
  | 7 => .array .int
  | 8 => .array .int
  | 9 => .array .int
  | 10 => .array .int
  | 11 => .array .int
  | 12 => .array .int
  | 13 => .array .int
  | 14 => .array .int
  | 15 => .array .int
  | 16 => .array .int
  | 17 => .array .int
  | 18 => .array .int
  | 19 => .array .int
  | 20 => .array .boolean
  | 21 => .int
  | 22 => .array .int
  | 23 => .array .int
  | 24 => .array .int
  | 25 => .array .int
  | 26 => .array .int
  | 27 => .array .int
  | 28 => .int
  | 29 => .int
  | 30 => .int
  | 31 => .array .int
  | 32 => .array .int
  | 33 => .array .int
  | 34 => .int
  | 35 => .int
  | 36 => .boolean
  | 37 => .array .int
  | 38 => .array .int
  | 39 => .array .int
  | 40 => .array .int
  | 41 => .array .int
  | 42 => .array .int
  | 43 => .array .int
  | 44 => .array .int
  | 45 => .int
  | 46 => .int
  | 47 => .int
  | 48 => .array .int
  | 49 => .array .int
  | 50 => .int
  | 51 => .int
  | 52 => .int
  | 53 => .int
  | 54 => .int
  | 55 => .int
  | 56 => .array .int
  | 57 => .array .int
  | 58 => .array .int
  | 59 => .int
  | 60 => .int
  | 61 => .int
  | 62 => .array .int
  | 63 => .int
  | 64 => .array .int
  | 65 => .int
  | 66 => .array .int
  | 67 => .array .int
  | 68 => .array .int
  | 69 => .int
  | 70 => .int
  | 71 => .boolean
  | 72 => .int
  | 73 => .array .int
  | 74 => .array .int
  | 75 => .array .int
  | _ => .array .int
abbrev wsX110 : List Cond := u_ws RX11 TX11 77
theorem nmX11 : ∀ a, a < 77 → ∀ b, b < 77 → a ≠ b → (TX11 a).2.1 ≠ (TX11 b).2.1 := by decide +kernel
theorem tyX11_ok : ∀ k, k < 77 → parseFieldDescriptor (TX11 k).2.2.1 = some (tyX11 k) := by decide +kernel
abbrev cX11_in : ByteArray := prog_13_method_1_code
def yX11_in : MethodName := ⟨RX11, "in", "(III)Z"⟩
abbrev cX11_isCell : ByteArray := prog_13_method_2_code
def yX11_isCell : MethodName := ⟨RX11, "isCell", "(I)Z"⟩
abbrev cX11_init : ByteArray := prog_13_method_3_code
def yX11_init : MethodName := ⟨RX11, "<init>", "()V"⟩
abbrev cX11_ground : ByteArray := prog_13_method_4_code
def yX11_ground : MethodName := ⟨RX11, "ground", "(III)I"⟩
abbrev cX11_house : ByteArray := prog_13_method_5_code
def yX11_house : MethodName := ⟨RX11, "house", "(III)I"⟩
abbrev cX11_pump : ByteArray := prog_13_method_6_code
def yX11_pump : MethodName := ⟨RX11, "pump", "(I)I"⟩
abbrev cX11_pumping : ByteArray := prog_13_method_7_code
def yX11_pumping : MethodName := ⟨RX11, "pumping", "(II)I"⟩
abbrev cX11_rain : ByteArray := prog_13_method_8_code
def yX11_rain : MethodName := ⟨RX11, "rain", "(I)I"⟩
abbrev cX11_isHouse : ByteArray := prog_13_method_9_code
def yX11_isHouse : MethodName := ⟨RX11, "isHouse", "(I)Z"⟩
abbrev cX11_move : ByteArray := prog_13_method_10_code
def yX11_move : MethodName := ⟨RX11, "move", "(I)I"⟩
abbrev cX11_wentBy : ByteArray := prog_13_method_11_code
def yX11_wentBy : MethodName := ⟨RX11, "wentBy", "(II)V"⟩
abbrev cX11_between : ByteArray := prog_13_method_12_code
def yX11_between : MethodName := ⟨RX11, "between", "(II)V"⟩
abbrev cX11_harmOf : ByteArray := prog_13_method_13_code
def yX11_harmOf : MethodName := ⟨RX11, "harmOf", "(I)I"⟩
abbrev cX11_goMonth : ByteArray := prog_13_method_14_code
def yX11_goMonth : MethodName := ⟨RX11, "goMonth", "()V"⟩
abbrev cX11_run : ByteArray := prog_13_method_15_code
def yX11_run : MethodName := ⟨RX11, "run", "(I)I"⟩
abbrev cX11_isKnown : ByteArray := prog_13_method_16_code
def yX11_isKnown : MethodName := ⟨RX11, "isKnown", "(I)Z"⟩
abbrev cX11_sign : ByteArray := prog_13_method_17_code
def yX11_sign : MethodName := ⟨RX11, "sign", "(III)I"⟩
abbrev cX11_isSign : ByteArray := prog_13_method_18_code
def yX11_isSign : MethodName := ⟨RX11, "isSign", "(I)Z"⟩
abbrev cX11_mend : ByteArray := prog_13_method_19_code
def yX11_mend : MethodName := ⟨RX11, "mend", "(II)I"⟩
abbrev cX11_valueOf : ByteArray := prog_13_method_20_code
def yX11_valueOf : MethodName := ⟨RX11, "valueOf", "(II)I"⟩
abbrev cX11_leastOf : ByteArray := prog_13_method_21_code
def yX11_leastOf : MethodName := ⟨RX11, "leastOf", "(II)I"⟩
abbrev cX11_mostOf : ByteArray := prog_13_method_22_code
def yX11_mostOf : MethodName := ⟨RX11, "mostOf", "(II)I"⟩
abbrev cX11_trustOf : ByteArray := prog_13_method_23_code
def yX11_trustOf : MethodName := ⟨RX11, "trustOf", "(I)I"⟩
abbrev cX11_signTold : ByteArray := prog_13_method_24_code
def yX11_signTold : MethodName := ⟨RX11, "signTold", "(III)I"⟩
abbrev cX11_findSpan : ByteArray := prog_13_method_25_code
def yX11_findSpan : MethodName := ⟨RX11, "findSpan", "(III)V"⟩
abbrev cX11_span : ByteArray := prog_13_method_26_code
def yX11_span : MethodName := ⟨RX11, "span", "(III)I"⟩
abbrev cX11_lost : ByteArray := prog_13_method_27_code
def yX11_lost : MethodName := ⟨RX11, "lost", "(II)I"⟩
abbrev cX11_isNear : ByteArray := prog_13_method_28_code
def yX11_isNear : MethodName := ⟨RX11, "isNear", "(II)Z"⟩
abbrev cX11_isFit : ByteArray := prog_13_method_29_code
def yX11_isFit : MethodName := ⟨RX11, "isFit", "(I)Z"⟩
abbrev cX11_fit : ByteArray := prog_13_method_30_code
def yX11_fit : MethodName := ⟨RX11, "fit", "(II)I"⟩
abbrev cX11_fitTold : ByteArray := prog_13_method_31_code
def yX11_fitTold : MethodName := ⟨RX11, "fitTold", "(II)I"⟩
abbrev cX11_feed : ByteArray := prog_13_method_32_code
def yX11_feed : MethodName := ⟨RX11, "feed", "(JI)I"⟩
abbrev cX11_byteAt : ByteArray := prog_13_method_33_code
def yX11_byteAt : MethodName := ⟨RX11, "byteAt", "(I)I"⟩
abbrev cX11_isLetter : ByteArray := prog_13_method_34_code
def yX11_isLetter : MethodName := ⟨RX11, "isLetter", "(I)Z"⟩
abbrev cX11_isDigit : ByteArray := prog_13_method_35_code
def yX11_isDigit : MethodName := ⟨RX11, "isDigit", "(I)Z"⟩
abbrev cX11_wordOf : ByteArray := prog_13_method_36_code
def yX11_wordOf : MethodName := ⟨RX11, "wordOf", "(J)I"⟩
abbrev cX11_step : ByteArray := prog_13_method_37_code
def yX11_step : MethodName := ⟨RX11, "step", "()V"⟩
abbrev cX11_isKey : ByteArray := prog_13_method_38_code
def yX11_isKey : MethodName := ⟨RX11, "isKey", "(I)Z"⟩
abbrev cX11_rankOf : ByteArray := prog_13_method_39_code
def yX11_rankOf : MethodName := ⟨RX11, "rankOf", "(I)I"⟩
abbrev cX11_work : ByteArray := prog_13_method_40_code
def yX11_work : MethodName := ⟨RX11, "work", "(I)V"⟩
abbrev cX11_settle : ByteArray := prog_13_method_41_code
def yX11_settle : MethodName := ⟨RX11, "settle", "(I)V"⟩
abbrev cX11_opens : ByteArray := prog_13_method_42_code
def yX11_opens : MethodName := ⟨RX11, "opens", "(I)Z"⟩
abbrev cX11_push : ByteArray := prog_13_method_43_code
def yX11_push : MethodName := ⟨RX11, "push", "(I)V"⟩
abbrev cX11_joins : ByteArray := prog_13_method_44_code
def yX11_joins : MethodName := ⟨RX11, "joins", "(I)Z"⟩
abbrev cX11_joint : ByteArray := prog_13_method_45_code
def yX11_joint : MethodName := ⟨RX11, "joint", "()I"⟩
abbrev cX11_takesE : ByteArray := prog_13_method_46_code
def yX11_takesE : MethodName := ⟨RX11, "takesE", "()Z"⟩
abbrev cX11_goes : ByteArray := prog_13_method_47_code
def yX11_goes : MethodName := ⟨RX11, "goes", "(I)Z"⟩
abbrev cX11_text : ByteArray := prog_13_method_48_code
def yX11_text : MethodName := ⟨RX11, "text", "()I"⟩
abbrev cX11_force : ByteArray := prog_13_method_49_code
def yX11_force : MethodName := ⟨RX11, "force", "(I)I"⟩
abbrev cX11_peopleIn : ByteArray := prog_13_method_50_code
def yX11_peopleIn : MethodName := ⟨RX11, "peopleIn", "(I)I"⟩
abbrev cX11_doubtOf : ByteArray := prog_13_method_51_code
def yX11_doubtOf : MethodName := ⟨RX11, "doubtOf", "(II)I"⟩
abbrev cX11_findFacts : ByteArray := prog_13_method_52_code
def yX11_findFacts : MethodName := ⟨RX11, "findFacts", "(II)V"⟩
abbrev cX11_lawOf : ByteArray := prog_13_method_53_code
def yX11_lawOf : MethodName := ⟨RX11, "lawOf", "(III)I"⟩
abbrev cX11_law : ByteArray := prog_13_method_54_code
def yX11_law : MethodName := ⟨RX11, "law", "(III)J"⟩
abbrev cX11_moved : ByteArray := prog_13_method_55_code
def yX11_moved : MethodName := ⟨RX11, "moved", "(I)J"⟩
abbrev cX11_part : ByteArray := prog_13_method_56_code
def yX11_part : MethodName := ⟨RX11, "part", "(II)J"⟩
abbrev cX11_looks : ByteArray := prog_13_method_57_code
def yX11_looks : MethodName := ⟨RX11, "looks", "(III)I"⟩
abbrev cX11_lookTold : ByteArray := prog_13_method_58_code
def yX11_lookTold : MethodName := ⟨RX11, "lookTold", "()I"⟩
abbrev cX11_divisor : ByteArray := prog_13_method_59_code
def yX11_divisor : MethodName := ⟨RX11, "divisor", "(JJ)J"⟩
abbrev cX11_often : ByteArray := prog_13_method_60_code
def yX11_often : MethodName := ⟨RX11, "often", "(II)J"⟩
abbrev cX11_warn : ByteArray := prog_13_method_61_code
def yX11_warn : MethodName := ⟨RX11, "warn", "(I)I"⟩
abbrev cX11_isTrue : ByteArray := prog_13_method_62_code
def yX11_isTrue : MethodName := ⟨RX11, "isTrue", "(II)Z"⟩
abbrev cX11_warned : ByteArray := prog_13_method_63_code
def yX11_warned : MethodName := ⟨RX11, "warned", "(II)I"⟩
abbrev cX11_cellTold : ByteArray := prog_13_method_64_code
def yX11_cellTold : MethodName := ⟨RX11, "cellTold", "(II)I"⟩
abbrev cX11_houseTold : ByteArray := prog_13_method_65_code
def yX11_houseTold : MethodName := ⟨RX11, "houseTold", "(II)I"⟩
abbrev cX11_cellsFallen : ByteArray := prog_13_method_66_code
def yX11_cellsFallen : MethodName := ⟨RX11, "cellsFallen", "()I"⟩
abbrev cX11_keep : ByteArray := prog_13_method_67_code
def yX11_keep : MethodName := ⟨RX11, "keep", "(I)V"⟩
abbrev cX11_putBack : ByteArray := prog_13_method_68_code
def yX11_putBack : MethodName := ⟨RX11, "putBack", "(III)V"⟩
abbrev cX11_beside : ByteArray := prog_13_method_69_code
def yX11_beside : MethodName := ⟨RX11, "beside", "(IIII)J"⟩
abbrev cX11_plan : ByteArray := prog_13_method_70_code
def yX11_plan : MethodName := ⟨RX11, "plan", "(III)J"⟩
abbrev cX11_planned : ByteArray := prog_13_method_71_code
def yX11_planned : MethodName := ⟨RX11, "planned", "()I"⟩
abbrev cX11_image : ByteArray := prog_13_method_72_code
def yX11_image : MethodName := ⟨RX11, "image", "()I"⟩
abbrev cX11_back : ByteArray := prog_13_method_73_code
def yX11_back : MethodName := ⟨RX11, "back", "()I"⟩
abbrev cX11_count : ByteArray := prog_13_method_74_code
def yX11_count : MethodName := ⟨RX11, "count", "(I)I"⟩
abbrev cX11_isSheet : ByteArray := prog_13_method_75_code
def yX11_isSheet : MethodName := ⟨RX11, "isSheet", "(I)Z"⟩
abbrev cX11_sheet : ByteArray := prog_13_method_76_code
def yX11_sheet : MethodName := ⟨RX11, "sheet", "(III)I"⟩
abbrev cX11_cell : ByteArray := prog_13_method_77_code
def yX11_cell : MethodName := ⟨RX11, "cell", "(III)I"⟩
abbrev cX11_copy : ByteArray := prog_13_method_78_code
def yX11_copy : MethodName := ⟨RX11, "copy", "(IIIII)I"⟩
abbrev cX11_signs : ByteArray := prog_13_method_79_code
def yX11_signs : MethodName := ⟨RX11, "signs", "(IIII)I"⟩
abbrev cX11_isOfKind : ByteArray := prog_13_method_80_code
def yX11_isOfKind : MethodName := ⟨RX11, "isOfKind", "(II)Z"⟩
abbrev cX11_taken : ByteArray := prog_13_method_81_code
def yX11_taken : MethodName := ⟨RX11, "taken", "(III)I"⟩
def RJ13 : String := "java/lang/Long"
def TJ13 : u_T := fun k => match k with
  | _ => ("", "", "", false)
def tyJ13 : Nat → FieldType := fun k => match k with
  | _ => .int
abbrev wsJ130 : List Cond := u_ws RJ13 TJ13 0
theorem nmJ13 : ∀ a, a < 0 → ∀ b, b < 0 → a ≠ b → (TJ13 a).2.1 ≠ (TJ13 b).2.1 := by decide +kernel
theorem tyJ13_ok : ∀ k, k < 0 → parseFieldDescriptor (TJ13 k).2.2.1 = some (tyJ13 k) := by decide +kernel
abbrev cJ13_bitCount_95d88 : ByteArray := prog_14_method_50_code
def yJ13_bitCount_95d88 : MethodName := ⟨RJ13, "bitCount", "(J)I"⟩
def RJ9 : String := "java/lang/Math"
def TJ9 : u_T := fun k => match k with
  | _ => ("", "", "", false)
def tyJ9 : Nat → FieldType := fun k => match k with
  | _ => .int
abbrev wsJ90 : List Cond := u_ws RJ9 TJ9 0
theorem nmJ9 : ∀ a, a < 0 → ∀ b, b < 0 → a ≠ b → (TJ9 a).2.1 ≠ (TJ9 b).2.1 := by decide +kernel
theorem tyJ9_ok : ∀ k, k < 0 → parseFieldDescriptor (TJ9 k).2.2.1 = some (tyJ9 k) := by decide +kernel
abbrev cJ9_abs_0f7a4 : ByteArray := prog_15_method_59_code
def yJ9_abs_0f7a4 : MethodName := ⟨RJ9, "abs", "(I)I"⟩
abbrev cJ9_max_7cf53 : ByteArray := prog_15_method_65_code
def yJ9_max_7cf53 : MethodName := ⟨RJ9, "max", "(II)I"⟩
abbrev cJ9_min_7cf53 : ByteArray := prog_15_method_69_code
def yJ9_min_7cf53 : MethodName := ⟨RJ9, "min", "(II)I"⟩
def RJ0 : String := "java/lang/String"
def TJ0 : u_T := fun k => match k with
  | _ => ("", "", "", false)
def tyJ0 : Nat → FieldType := fun k => match k with
  | _ => .int
abbrev wsJ00 : List Cond := u_ws RJ0 TJ0 0
theorem nmJ0 : ∀ a, a < 0 → ∀ b, b < 0 → a ≠ b → (TJ0 a).2.1 ≠ (TJ0 b).2.1 := by decide +kernel
theorem tyJ0_ok : ∀ k, k < 0 → parseFieldDescriptor (TJ0 k).2.2.1 = some (tyJ0 k) := by decide +kernel
abbrev cJ0_length_8abf5 : ByteArray := prog_16_method_54_code
def yJ0_length_8abf5 : MethodName := ⟨RJ0, "length", "()I"⟩
abbrev cJ0_charAt_5068e : ByteArray := prog_16_method_56_code
def yJ0_charAt_5068e : MethodName := ⟨RJ0, "charAt", "(I)C"⟩
abbrev cJ0_coder_7d493 : ByteArray := prog_16_method_152_code
def yJ0_coder_7d493 : MethodName := ⟨RJ0, "coder", "()B"⟩
abbrev cJ0_isLatin1_aae02 : ByteArray := prog_16_method_154_code
def yJ0_isLatin1_aae02 : MethodName := ⟨RJ0, "isLatin1", "()Z"⟩
abbrev cJ0_checkIndex_df160 : ByteArray := prog_16_method_155_code
def yJ0_checkIndex_df160 : MethodName := ⟨RJ0, "checkIndex", "(II)V"⟩
def RJ1 : String := "java/lang/StringLatin1"
def TJ1 : u_T := fun k => match k with
  | _ => ("", "", "", false)
def tyJ1 : Nat → FieldType := fun k => match k with
  | _ => .int
abbrev wsJ10 : List Cond := u_ws RJ1 TJ1 0
theorem nmJ1 : ∀ a, a < 0 → ∀ b, b < 0 → a ≠ b → (TJ1 a).2.1 ≠ (TJ1 b).2.1 := by decide +kernel
theorem tyJ1_ok : ∀ k, k < 0 → parseFieldDescriptor (TJ1 k).2.2.1 = some (tyJ1 k) := by decide +kernel
abbrev cJ1_charAt_3b067 : ByteArray := prog_17_method_2_code
def yJ1_charAt_3b067 : MethodName := ⟨RJ1, "charAt", "([BI)C"⟩
def RJ2 : String := "java/lang/StringUTF16"
def TJ2 : u_T := fun k => match k with
  | _ => ("", "", "", false)
def tyJ2 : Nat → FieldType := fun k => match k with
  | _ => .int
abbrev wsJ20 : List Cond := u_ws RJ2 TJ2 0
theorem nmJ2 : ∀ a, a < 0 → ∀ b, b < 0 → a ≠ b → (TJ2 a).2.1 ≠ (TJ2 b).2.1 := by decide +kernel
theorem tyJ2_ok : ∀ k, k < 0 → parseFieldDescriptor (TJ2 k).2.2.1 = some (tyJ2 k) := by decide +kernel
abbrev cJ2_getChar_3b067 : ByteArray := prog_18_method_5_code
def yJ2_getChar_3b067 : MethodName := ⟨RJ2, "getChar", "([BI)C"⟩
abbrev cJ2_length_9d52b : ByteArray := prog_18_method_6_code
def yJ2_length_9d52b : MethodName := ⟨RJ2, "length", "([B)I"⟩
abbrev cJ2_charAt_3b067 : ByteArray := prog_18_method_83_code
def yJ2_charAt_3b067 : MethodName := ⟨RJ2, "charAt", "([BI)C"⟩
abbrev cJ2_checkIndex_2214a : ByteArray := prog_18_method_91_code
def yJ2_checkIndex_2214a : MethodName := ⟨RJ2, "checkIndex", "(I[B)V"⟩
def RJ10 : String := "java/lang/System"
def TJ10 : u_T := fun k => match k with
  | _ => ("", "", "", false)
def tyJ10 : Nat → FieldType := fun k => match k with
  | _ => .int
abbrev wsJ100 : List Cond := u_ws RJ10 TJ10 0
theorem nmJ10 : ∀ a, a < 0 → ∀ b, b < 0 → a ≠ b → (TJ10 a).2.1 ≠ (TJ10 b).2.1 := by decide +kernel
theorem tyJ10_ok : ∀ k, k < 0 → parseFieldDescriptor (TJ10 k).2.2.1 = some (tyJ10 k) := by decide +kernel
def RJ3 : String := "jdk/internal/util/Preconditions"
def TJ3 : u_T := fun k => match k with
  | _ => ("", "", "", false)
def tyJ3 : Nat → FieldType := fun k => match k with
  | _ => .int
abbrev wsJ30 : List Cond := u_ws RJ3 TJ3 0
theorem nmJ3 : ∀ a, a < 0 → ∀ b, b < 0 → a ≠ b → (TJ3 a).2.1 ≠ (TJ3 b).2.1 := by decide +kernel
theorem tyJ3_ok : ∀ k, k < 0 → parseFieldDescriptor (TJ3 k).2.2.1 = some (tyJ3 k) := by decide +kernel
abbrev cJ3_checkIndex_8e157 : ByteArray := prog_20_method_11_code
def yJ3_checkIndex_8e157 : MethodName := ⟨RJ3, "checkIndex", "(IILjava/util/function/BiFunction;)I"⟩
def RL : String := "HollowShireLaw"
abbrev cL_law : ByteArray := code
def yL_law : MethodName := ⟨RL, "law", "([I)Z"⟩
end
section
/-! the words of the tables that hold in every state with these tables -/
def gw : List Cond := lw_tbl.filter goodWord
theorem gw_good : GoodIn gw gw := fun _ h => ⟨h, good_of_word (List.mem_filter.mp h).2⟩
theorem gw_at {w : Cond} (i : Nat) (h : lw_tbl[i]? = some w) (g : goodWord w = true) : w ∈ gw := List.mem_filter.mpr ⟨List.mem_of_getElem? h, g⟩
theorem gw_hts {args : Array Value} {s : State} (h : ∀ w ∈ lw_tbl, w.before args s = true) : ∀ w ∈ gw, w.before args s = true := fun w hw => h w (List.mem_filter.mp hw).1
theorem gw_of (ws : List Cond) (ps : List Nat) (hp : ws = ps.filterMap (fun i => lw_tbl[i]?)) (h : ws.all goodWord = true) : ∀ w ∈ ws, w ∈ gw := by
  intro w hw
  have h1 := List.all_eq_true.mp h w hw
  rw [hp] at hw
  obtain ⟨i, -, hi⟩ := List.mem_filterMap.mp hw
  exact gw_at i hi h1
abbrev clX : List vw_C := [(RX0, TX0, 6), (RX1, TX1, 13), (RX2, TX2, 16), (RX3, TX3, 5), (RX4, TX4, 7), (RX5, TX5, 3), (RX6, TX6, 7), (RX7, TX7, 7), (RX8, TX8, 3), (RX9, TX9, 4), (RX10, TX10, 14), (RX11, TX11, 77)]
def clN (c : Nat) : Nat := ([6, 13, 16, 5, 7, 3, 7, 7, 3, 4, 14, 77] : List Nat).getD c 0
/-- which fields are references -/
def refB : List (List Bool) := [[false, false, true, true, true, true], [false, false, false, false, true, true, true, true, true, true, false, true, true], [true, false, false, false, false, true, true, true, true, true, true, true, true, true, true, true], [true, true, false, false, false], [true, false, false, true, true, true, true], [false, false, true], [false, true, true, true, true, true, true], [false, false, true, true, true, true, true], [false, true, true], [false, true, true, true], [true, true, true, true, false, true, true, true, true, true, true, true, false, false], [false, false, false, false, false, true, true, true, true, true, true, true, true, true, true, true, true, true, true, true, true, false, true, true, true, true, true, true, false, false, false, true, true, true, false, false, false, true, true, true, true, true, true, true, true, false, false, false, true, true, false, false, false, false, false, false, true, true, true, false, false, false, true, false, true, false, true, true, true, false, false, false, false, true, true, true, true]]
def isR (c j : Nat) : Bool := (refB.getD c []).getD j false
/-! the world of one system: places 0, 1 .., each an object or an array; what the places hold: whole numbers (booleans among them); references stand -/
abbrev Sy : Type := List (Nat × Nat) × (Nat → Nat → Option Nat)
abbrev Wd : Type := Nat → Nat → Int32
abbrev Mi : Type := MethodName × ByteArray × Nat × Option FieldType
def cvt (ad : Nat → Nat) : Value → Value := fun v => match v with
  | .ref k => .ref (ad k)
  | v => v
theorem cvt_cat (ad : Nat → Nat) (v : Value) : (cvt ad v).category = v.category := by cases v <;> rfl
def entOf (cy : Nat → ClassId) (ad : Nat → Nat) (kd : Nat × Nat) (ik : Nat → Int32) (rk : Nat → Option Nat) : va_E :=
  if kd.1 < 20 then .inr (kd.1, (List.range (clN kd.1)).map fun j => if isR kd.1 j then va_rf ((rk j).map ad) else .int (ik j))
  else if kd.1 < 22 then .inl (cy kd.1, kd.2, .inl ik)
  else .inl (cy kd.1, kd.2, .inr (.inr (.inr (.inr fun j => (rk j).map ad))))
def wsO (cy : Nat → ClassId) (ad : Nat → Nat) (S : Sy) (I : Wd) : va_W := (List.range S.1.length).map fun k => (ad k, entOf cy ad (S.1.getD k (0, 0)) (I k) (S.2 k))
def tyL (cy : Nat → ClassId) : List (ClassId × FieldType) := [(cy 20, .int), (cy 21, .boolean), (cy 22, .object RX5), (cy 23, .object RX8)]
def Inj (S : Sy) (ad : Nat → Nat) : Prop := ∀ i j, i < S.1.length → j < S.1.length → ad i = ad j → i = j
def Aad (S : Sy) (ad : Nat → Nat) : Nat → Prop := fun q => ∃ k, k < S.1.length ∧ q = ad k
def rset (I : Wd) (k : Nat) (f : Nat → Int32) : Wd := fun a => if a = k then f else I a
/-- a place k of which place j becomes v -/
def ist (I : Wd) (k j : Nat) (v : Int32) : Wd := rset I k (upd (I k) j v)
theorem ws_at {cy : Nat → ClassId} {ad : Nat → Nat} {S : Sy} {I : Wd} {k : Nat} {kd : Nat × Nat} (h : S.1[k]? = some kd) : (wsO cy ad S I)[k]? = some (ad k, entOf cy ad kd (I k) (S.2 k)) := by
  have hl := (List.getElem?_eq_some_iff.mp h).1
  simp [wsO, List.getElem?_map, List.getElem?_range hl, List.getD, h]
theorem ws_set {cy : Nat → ClassId} {ad : Nat → Nat} {S : Sy} {I : Wd} {k : Nat} {kd : Nat × Nat} (h : S.1[k]? = some kd) (f : Nat → Int32) : (wsO cy ad S I).set k (ad k, entOf cy ad kd f (S.2 k)) = wsO cy ad S (rset I k f) := by
  have hl := (List.getElem?_eq_some_iff.mp h).1
  apply List.ext_getElem?
  intro j
  by_cases e : j = k
  · subst e
    rw [List.getElem?_set_self (by simpa [wsO] using hl), ws_at h]
    simp [rset]
  · rw [List.getElem?_set_ne (Ne.symm e)]
    simp only [wsO, List.getElem?_map, rset, if_neg e]
    cases hj : (List.range S.1.length)[j]? with
    | none => rfl
    | some q =>
      have hq : q = j := by
        have h2 := (List.getElem?_eq_some_iff.mp hj)
        obtain ⟨h3, h4⟩ := h2
        simp at h4
        exact h4.symm
      subst hq
      simp [if_neg e]
theorem ws_D {cy : Nat → ClassId} {ad : Nat → Nat} {S : Sy} {I : Wd} (h : Inj S ad) : va_D (Aad S ad) (wsO cy ad S I) := by
  have key : ∀ (i : Nat) (p : Nat × va_E), (wsO cy ad S I)[i]? = some p → i < S.1.length ∧ p.1 = ad i := by
    intro i p hp
    have hl := (List.getElem?_eq_some_iff.mp hp).1
    have hl2 : i < S.1.length := by simpa [wsO] using hl
    have h2 := ws_at (cy := cy) (ad := ad) (I := I) (List.getElem?_eq_getElem hl2)
    rw [h2] at hp
    cases hp
    exact ⟨hl2, rfl⟩
  refine ⟨fun i j p q hi hj hpq => ?_, fun k q hk => ?_⟩
  · obtain ⟨a1, a2⟩ := key i p hi
    obtain ⟨b1, b2⟩ := key j q hj
    exact h i j a1 b1 (by rw [← a2, ← b2, hpq])
  · obtain ⟨a1, a2⟩ := key k q hk
    exact ⟨k, a1, a2⟩
theorem fs_set {n j : Nat} {g : Nat → Value} (v : Value) : ((List.range n).map g).set j v = (List.range n).map (fun i => if i = j then v else g i) := by
  apply List.ext_getElem?
  intro i
  by_cases e : i = j
  · subst e
    by_cases hl : i < n
    · rw [List.getElem?_set_self (by simpa using hl)]
      simp [List.getElem?_map, List.getElem?_range hl]
    · rw [List.getElem?_eq_none (by simpa using hl), List.getElem?_eq_none (by simpa using hl)]
  · rw [List.getElem?_set_ne (Ne.symm e)]
    simp only [List.getElem?_map]
    cases hj : (List.range n)[i]? with
    | none => rfl
    | some q =>
      obtain ⟨h3, h4⟩ := List.getElem?_eq_some_iff.mp hj
      simp at h4
      subst h4
      simp [if_neg e]

/-! what lies outside: tables of numbers, texts, and what no state changes -/
def txO : List String := ["HollowShire$Rules", "HollowShire$Tape", "HollowShire$Tape", "HollowShire$Tape", "HollowShire$Tape", "HollowShire$Tape", "HollowShire$Tape", "HollowShire$Tape", "HollowShire$Tape", "HollowShire$Tape", "HollowShire$Tape", "HollowShire$Tape", "HollowShire$Tape", "HollowShire$Tape", "HollowShire$Tape"]
def txK : List Nat := [48, 75, 77, 79, 81, 83, 85, 87, 89, 91, 93, 95, 97, 99, 101]
def txT : List String := ["build doubt < 30 and rock < 2 ; move 60 < most or fell ; owe pump * 3 + rock ;", "build", "move", "owe", "o\x72", "and", "not", "doubt", "least", "most", "rock", "people", "pump", "fell", "month"]
def txL : List Nat := [78, 5, 4, 3, 2, 3, 3, 5, 5, 4, 4, 6, 4, 4, 5]
def txB : List (List Int32) := [[98, 117, 105, 108, 100, 32, 100, 111, 117, 98, 116, 32, 60, 32, 51, 48, 32, 97, 110, 100, 32, 114, 111, 99, 107, 32, 60, 32, 50, 32, 59, 32, 109, 111, 118, 101, 32, 54, 48, 32, 60, 32, 109, 111, 115, 116, 32, 111, 114, 32, 102, 101, 108, 108, 32, 59, 32, 111, 119, 101, 32, 112, 117, 109, 112, 32, 42, 32, 51, 32, 43, 32, 114, 111, 99, 107, 32, 59], [98, 117, 105, 108, 100], [109, 111, 118, 101], [111, 119, 101], [111, 114], [97, 110, 100], [110, 111, 116], [100, 111, 117, 98, 116], [108, 101, 97, 115, 116], [109, 111, 115, 116], [114, 111, 99, 107], [112, 101, 111, 112, 108, 101], [112, 117, 109, 112], [102, 101, 108, 108], [109, 111, 110, 116, 104]]
def ExS (A : Nat → Prop) (ad : Nat → Nat) (c n : String) (id : Nat) (vs : List Int32) (U : State) (H : Heap) : Prop := va_Z c n "[I" (.ref (ad id)) A U H ∧ va_T .int (ad id) vs.length (fun j => .int (vs.getD j 0)) A U H
def tbSolves : List Int32 := [0, 2, 5, 1]
def tbBears : List Int32 := [120, 90, 70, 60]
def tbAbove : List Int32 := [-1, 0, 0, 1, 2, 0]
def tbSizes : List Int32 := [0, 10, 25, 50, 100]
def Ext (A : Nat → Prop) (ad : Nat → Nat) (U : State) (H : Heap) : Prop :=
  (ExS A ad "HollowShire$Ground" "SOLVES" 1000 tbSolves U H ∧ ExS A ad "HollowShire$Ground" "BEARS" 1001 tbBears U H ∧ ExS A ad "HollowShire$Signs" "KIND_ABOVE" 1002 tbAbove U H ∧ ExS A ad "HollowShire$Fit" "SIZES" 1003 tbSizes U H) ∧
  (vk_S 15 txL txB (fun i => ad (1100 + i)) (fun i => ad (1200 + i)) A U H ∧ (∀ i, i < 15 → vk_R (txO.getD i "") (txK.getD i 0) (txT.getD i "") (ad (1100 + i)) U) ∧ va_Z "java/lang/String" "COMPACT_STRINGS" "Z" (.int 1) A U H) ∧
  (va_Nw (.methodLinkNest "HollowShire$Fit" 98 yX10_isNear "HollowShire") U ∧ va_Nw (.methodLinkNest "HollowShire$Ground" 86 yX10_isNear "HollowShire") U ∧ va_Nw (.methodLinkNest "HollowShire$Sheet" 26 yX10_within "HollowShire") U)
theorem ExS.warm {A : Nat → Prop} {ad : Nat → Nat} {c n : String} {id : Nat} {vs : List Int32} {s U : State} {H : Heap} (hW : s.WarmedH U.vm) (h : ExS A ad c n id vs s H) : ExS A ad c n id vs U H := ⟨va_Z.moved hW.alike h.1, va_T.moved hW.alike h.2⟩
theorem ExS.kept {A : Nat → Prop} {ad : Nat → Nat} {c n : String} {id : Nat} {vs : List Int32} {s : State} {H H1 : Heap} (hq : ∀ a : Nat, a < H.size → ¬ A a → H1[a]? = H[a]?) (h : ExS A ad c n id vs s H) : ExS A ad c n id vs s H1 := ⟨h.1.kept hq, h.2.kept hq⟩
theorem Ext.warm {A : Nat → Prop} {ad : Nat → Nat} {s U : State} {H : Heap} (hW : s.WarmedH U.vm) (h : Ext A ad s H) : Ext A ad U H := by
  obtain ⟨⟨a1, a2, a3, a4⟩, ⟨b1, b2, b3⟩, c1, c2, c3⟩ := h
  exact ⟨⟨a1.warm hW, a2.warm hW, a3.warm hW, a4.warm hW⟩, ⟨vk_S.moved hW.alike b1, fun i hi => (b2 i hi).warm hW, va_Z.moved hW.alike b3⟩, va_Nw.warmM hW c1, va_Nw.warmM hW c2, va_Nw.warmM hW c3⟩
theorem Ext.kept {A : Nat → Prop} {ad : Nat → Nat} {s : State} {H H1 : Heap} (hq : ∀ a : Nat, a < H.size → ¬ A a → H1[a]? = H[a]?) (h : Ext A ad s H) : Ext A ad s H1 := by
  obtain ⟨⟨a1, a2, a3, a4⟩, ⟨b1, b2, b3⟩, c⟩ := h
  exact ⟨⟨a1.kept hq, a2.kept hq, a3.kept hq, a4.kept hq⟩, ⟨b1.kept hq, b2, b3.kept hq⟩, c⟩
theorem Ext.same {A : Nat → Prop} {ad : Nat → Nat} {u U : State} {H : Heap} (hv : U.vm = u.vm) (h : Ext A ad u H) : Ext A ad U H := by
  obtain ⟨⟨a1, a2, a3, a4⟩, ⟨b1, b2, b3⟩, c1, c2, c3⟩ := h
  have al : u.vm.Alike U.vm := by rw [hv]; exact Vm.Alike.refl u.vm
  exact ⟨⟨⟨va_Z.moved al a1.1, va_T.moved al a1.2⟩, ⟨va_Z.moved al a2.1, va_T.moved al a2.2⟩, ⟨va_Z.moved al a3.1, va_T.moved al a3.2⟩, ⟨va_Z.moved al a4.1, va_T.moved al a4.2⟩⟩, ⟨vk_S.moved al b1, fun i hi => vk_R.same hv (b2 i hi), va_Z.moved al b3⟩, va_Nw.same rfl hv.symm c1, va_Nw.same rfl hv.symm c2, va_Nw.same rfl hv.symm c3⟩
/-! the judgements: a method's contract, and a frame's way to its end -/
def rmd (d : Nat) : Room := { frames := d, cells := 0, slots := 0, locals := 80 * d }
def Pcw (D : va_G) (cy : Nat → ClassId) (ad : Nat → Nat) (S : Sy) (As : List Value) (I : Wd) : Array Value → State → Prop := fun v U => v = (As.map (cvt ad)).toArray ∧ va_P D clX (wsO cy ad S I) U.heap ∧ va_K D clX (tyL cy) U ∧ Ext (Aad S ad) ad U U.heap
def Qcw (D : va_G) (cy : Nat → ClassId) (ad : Nat → Nat) (S : Sy) (r : Option Value) (I' : Wd) : Array Value → State → Outcome → State → Prop := fun _ st o t => o = .returned (r.map (cvt ad)) ∧ va_P D clX (wsO cy ad S I') t.heap ∧ va_F (Aad S ad) st t
def Cal (S : Sy) (M : Mi) (d : Nat) (As : List Value) (I : Wd) (r : Option Value) (I' : Wd) : Prop :=
  ∀ (l : Launch) (D : va_G) (cy : Nat → ClassId) (ad : Nat → Nat), Inj S ad → Met l M.1 (.code M.1 M.2.1 M.2.2.1 M.2.2.2 :: gw) (rmd d) (Pcw D cy ad S As I) (Qcw D cy ad S r I') 0 0 (Aad S ad)
def lvc (ad : Nat → Nat) (lv : List (Nat × Value)) : List (Nat × Value) := lv.map fun q => (q.1, cvt ad q.2)
def lk : List (Nat × Value) → Nat → Option Value
  | [], _ => none
  | q :: t, i => if q.1 = i then some q.2 else lk t i
theorem lk_mem {lv : List (Nat × Value)} {i : Nat} {v : Value} (h : lk lv i = some v) : (i, v) ∈ lv := by
  induction lv with
  | nil => cases h
  | cons q t ih =>
    unfold lk at h
    split at h
    · next e => cases h; rw [← e]; exact List.mem_cons_self
    · exact List.mem_cons_of_mem _ (ih h)
theorem lv_lk {ad : Nat → Nat} {ls : Array Slot} {n : Nat} {lv : List (Nat × Value)} (h : lv_has ls n (lvc ad lv)) {i : Nat} {v : Value} (hk : lk lv i = some v) : ls[i]? = some (.val (cvt ad v)) :=
  h.2.2 (i, cvt ad v) (List.mem_map.mpr ⟨(i, v), lk_mem hk, rfl⟩)
def lst1 (i : Nat) (v : Value) (lv : List (Nat × Value)) : List (Nat × Value) := (i, v) :: lv.filter (fun q => !(q.1 == i) && !(q.1 + 1 == i && q.2.category == 2))
def lst2 (i : Nat) (v : Value) (lv : List (Nat × Value)) : List (Nat × Value) := (i, v) :: lv.filter (fun q => !(q.1 == i) && (!(q.1 == i + 1) && !(q.1 + 1 == i && q.2.category == 2)))
theorem lvc_1 (ad : Nat → Nat) (i : Nat) (v : Value) (lv : List (Nat × Value)) : lst1 i (cvt ad v) (lvc ad lv) = lvc ad (lst1 i v lv) := by
  show _ :: _ = _ :: _
  congr 1
  simp only [lvc, List.filter_map]
  congr 1
  apply List.filter_congr
  intro q _
  simp [cvt_cat]
theorem lvc_2 (ad : Nat → Nat) (i : Nat) (v : Value) (lv : List (Nat × Value)) : lst2 i (cvt ad v) (lvc ad lv) = lvc ad (lst2 i v lv) := by
  show _ :: _ = _ :: _
  congr 1
  simp only [lvc, List.filter_map]
  congr 1
  apply List.filter_congr
  intro q _
  simp [cvt_cat]
theorem lvc_args (ad : Nat → Nat) : ∀ (As : List Value) (i : Nat), lv_args i (As.map (cvt ad)) = lvc ad (lv_args i As)
  | [], _ => rfl
  | v :: t, i => by
    show (i, cvt ad v) :: lv_args _ (t.map (cvt ad)) = (i, cvt ad v) :: lvc ad (lv_args _ t)
    rw [cvt_cat, lvc_args ad t]
theorem lg_len (ad : Nat → Nat) : ∀ As : List Value, (lg_sl (As.map (cvt ad))).length = (lg_sl As).length
  | [] => rfl
  | v :: t => by
    have ih := lg_len ad t
    show ((if (cvt ad v).category = 2 then [Slot.val (cvt ad v), .second] else [.val (cvt ad v)]) ++ lg_sl (t.map (cvt ad))).length = ((if v.category = 2 then [Slot.val v, .second] else [.val v]) ++ lg_sl t).length
    rw [List.length_append, List.length_append, ih, cvt_cat]
    split <;> rfl
abbrev Fx (M : Mi) (p : Program) (s : State) (m : MethodId) (args : Array Value) (meth : Method) (c : Code) : Prop :=
  p.tables.exec = Jvm.exec ∧ c.code = M.2.1 ∧ meth.sig.returnType = M.2.2.2 ∧ c.maxLocals = M.2.2.1 ∧ s.vm.findClass M.1.cls = some m.cls ∧ (∀ w ∈ gw, w.before args s = true) ∧ meth.locks = false
def Cx (S : Sy) (M : Mi) (p : Program) (s : State) (m : MethodId) (args : Array Value) (meth : Method) (c : Code) (D : va_G) (cy : Nat → ClassId) (ad : Nat → Nat) (I : Wd) (H : Heap) (locs : List Loc) (ls : Array Slot) (lv : List (Nat × Value)) : Prop :=
  Fx M p s m args meth c ∧ lv_has ls M.2.2.1 (lvc ad lv) ∧ Inj S ad ∧ va_K D clX (tyL cy) s ∧ Ext (Aad S ad) ad s s.heap ∧ va_P D clX (wsO cy ad S I) H ∧ va_S (Aad S ad) s.heap H locs
def Bd (S : Sy) (M : Mi) (d pc : Nat) (lv : List (Nat × Value)) (st : List Value) (I : Wd) (r : Option Value) (I' : Wd) : Prop :=
  ∀ (p : Program) (l : Launch) (e : Env) (s : State) (m : MethodId) (args : Array Value) (below : List Frame) (meth : Method) (c : Code) (D : va_G) (cy : Nat → ClassId) (ad : Nat → Nat) (H : Heap) (locs : List Loc) (ls : Array Slot),
    Cx S M p s m args meth c D cy ad I H locs ls lv → W p l e (rmd d) s m args below meth c H locs 0 0 (MQ below (Qcw D cy ad S r I') args s 0 0 (Aad S ad)) (F0 m pc ls (st.map (cvt ad)))
theorem Cal.of {S : Sy} {M : Mi} {d : Nat} {As : List Value} {I I' : Wd} {r : Option Value} (hp : plainName M.1.cls = true) (hn : (lg_sl As).length ≤ M.2.2.1) (h : Bd S M d 0 (lv_args 0 As) [] I r I') : Cal S M d As I r I' := by
  intro l D cy ad hi
  refine Met.ofW (cc := M.2.1) (maxL := M.2.2.1) (ret := M.2.2.2) hp rfl ?_
  intro p e s m args below meth c s₁ B hml hv
  obtain ⟨rfl, hP, hK, hE⟩ := hv
  have hts := atoms_spec (ws := Cond.code M.1 M.2.1 M.2.2.1 M.2.2.2 :: gw) B.pre
  have hlen := lg_len ad As
  have hl := lv_entry (As.map (cvt ad)) (n := M.2.2.1) (by rw [hlen]; exact hn)
  rw [lg_entry_eq]
  rw [lvc_args] at hl
  exact h p l e s m _ below meth c D cy ad s.heap [] _ ⟨⟨B.exec, B.bytes, B.returns, hml, findClass_of_methodNamed B.named, fun w hw => hts w (List.mem_cons_of_mem _ hw), B.notSynchronized⟩, hl, hi, hK, hE, hP, va_S.rf⟩
end
section
section BR
variable {S : Sy} {M : Mi} {d pc : Nat} {lv : List (Nat × Value)} {st : List Value} {I I' : Wd} {r : Option Value}
theorem b_iconst {n : Int} {v : Int32} (hd : decode M.2.1 pc = .ok (.iconst n, 1)) (hv : Int32.ofInt n = v) (kk : Bd S M d (pc + 1) lv (.int v :: st) I r I') : Bd S M d pc lv (st) I r I' :=
  fun p l e s m args below meth c D cy ad H locs ls X => lv_iconst X.1.1 X.1.2.1 hd hv (kk p l e s m args below meth c D cy ad H locs ls X)
theorem b_bipush {n : Int} {v : Int32} (hd : decode M.2.1 pc = .ok (.bipush n, 2)) (hv : (Int8.ofInt n).toInt32 = v) (kk : Bd S M d (pc + 2) lv (.int v :: st) I r I') : Bd S M d pc lv (st) I r I' :=
  fun p l e s m args below meth c D cy ad H locs ls X => lv_bipush X.1.1 X.1.2.1 hd hv (kk p l e s m args below meth c D cy ad H locs ls X)
theorem b_sipush {n : Int} {v : Int32} (hd : decode M.2.1 pc = .ok (.sipush n, 3)) (hv : (Int16.ofInt n).toInt32 = v) (kk : Bd S M d (pc + 3) lv (.int v :: st) I r I') : Bd S M d pc lv (st) I r I' :=
  fun p l e s m args below meth c D cy ad H locs ls X => lv_sipush X.1.1 X.1.2.1 hd hv (kk p l e s m args below meth c D cy ad H locs ls X)
theorem b_lconst {n : Fin 2} {v : Int64} (hd : decode M.2.1 pc = .ok (.lconst n, 1)) (hv : Int64.ofNat (n : Nat) = v) (kk : Bd S M d (pc + 1) lv (.long v :: st) I r I') : Bd S M d pc lv (st) I r I' :=
  fun p l e s m args below meth c D cy ad H locs ls X => lv_lconst X.1.1 X.1.2.1 hd hv (kk p l e s m args below meth c D cy ad H locs ls X)
theorem b_icm1 (hd : decode M.2.1 pc = .ok (.iconst (-1), 1)) (kk : Bd S M d (pc + 1) lv (.int (-1) :: st) I r I') : Bd S M d pc lv st I r I' := b_iconst hd (by decide) kk
theorem b_ic0 (hd : decode M.2.1 pc = .ok (.iconst 0, 1)) (kk : Bd S M d (pc + 1) lv (.int 0 :: st) I r I') : Bd S M d pc lv st I r I' := b_iconst hd (by decide) kk
theorem b_ic1 (hd : decode M.2.1 pc = .ok (.iconst 1, 1)) (kk : Bd S M d (pc + 1) lv (.int 1 :: st) I r I') : Bd S M d pc lv st I r I' := b_iconst hd (by decide) kk
theorem b_ic2 (hd : decode M.2.1 pc = .ok (.iconst 2, 1)) (kk : Bd S M d (pc + 1) lv (.int 2 :: st) I r I') : Bd S M d pc lv st I r I' := b_iconst hd (by decide) kk
theorem b_ic3 (hd : decode M.2.1 pc = .ok (.iconst 3, 1)) (kk : Bd S M d (pc + 1) lv (.int 3 :: st) I r I') : Bd S M d pc lv st I r I' := b_iconst hd (by decide) kk
theorem b_ic4 (hd : decode M.2.1 pc = .ok (.iconst 4, 1)) (kk : Bd S M d (pc + 1) lv (.int 4 :: st) I r I') : Bd S M d pc lv st I r I' := b_iconst hd (by decide) kk
theorem b_ic5 (hd : decode M.2.1 pc = .ok (.iconst 5, 1)) (kk : Bd S M d (pc + 1) lv (.int 5 :: st) I r I') : Bd S M d pc lv st I r I' := b_iconst hd (by decide) kk
theorem b_ldc {ix : Nat} {v : Int32} (hd : decode M.2.1 pc = .ok (.ldc ix, 2)) (hw : Cond.constant M.1.cls ix v ∈ gw) (kk : Bd S M d (pc + 2) lv (.int v :: st) I r I') : Bd S M d pc lv (st) I r I' :=
  fun p l e s m args below meth c D cy ad H locs ls X => lv_ldc X.1.1 X.1.2.1 X.1.2.2.2.2.1 (X.1.2.2.2.2.2.1 _ hw) hd (kk p l e s m args below meth c D cy ad H locs ls X)
theorem b_ldcw {ix : Nat} {v : Int32} (hd : decode M.2.1 pc = .ok (.ldc_w ix, 3)) (hw : Cond.constant M.1.cls ix v ∈ gw) (kk : Bd S M d (pc + 3) lv (.int v :: st) I r I') : Bd S M d pc lv (st) I r I' :=
  fun p l e s m args below meth c D cy ad H locs ls X => lv_ldcw X.1.1 X.1.2.1 X.1.2.2.2.2.1 (X.1.2.2.2.2.2.1 _ hw) hd (kk p l e s m args below meth c D cy ad H locs ls X)
theorem b_ldc2 {ix : Nat} {v : Int64} (hd : decode M.2.1 pc = .ok (.ldc2_w ix, 3)) (hw : Cond.constantLong M.1.cls ix v ∈ gw) (kk : Bd S M d (pc + 3) lv (.long v :: st) I r I') : Bd S M d pc lv (st) I r I' :=
  fun p l e s m args below meth c D cy ad H locs ls X => lv_ldc2 X.1.1 X.1.2.1 X.1.2.2.2.2.1 (X.1.2.2.2.2.2.1 _ hw) hd (kk p l e s m args below meth c D cy ad H locs ls X)
theorem b_iload_n {k : Fin 4} {i : Nat} {x : Int32} (hd : decode M.2.1 pc = .ok (.iload_n k, 1)) (hi : (k : Nat) = i) (hl : lk lv i = some (.int x)) (kk : Bd S M d (pc + 1) lv (.int x :: st) I r I') : Bd S M d pc lv (st) I r I' :=
  fun p l e s m args below meth c D cy ad H locs ls X => lv_iload_n X.1.1 X.1.2.1 hd hi (lv_lk X.2.1 hl) (kk p l e s m args below meth c D cy ad H locs ls X)
theorem b_iload {i : Nat} {x : Int32} (hd : decode M.2.1 pc = .ok (.iload i, 2)) (hl : lk lv i = some (.int x)) (kk : Bd S M d (pc + 2) lv (.int x :: st) I r I') : Bd S M d pc lv (st) I r I' :=
  fun p l e s m args below meth c D cy ad H locs ls X => lv_iload X.1.1 X.1.2.1 hd (lv_lk X.2.1 hl) (kk p l e s m args below meth c D cy ad H locs ls X)
theorem b_lload_n {k : Fin 4} {i : Nat} {x : Int64} (hd : decode M.2.1 pc = .ok (.lload_n k, 1)) (hi : (k : Nat) = i) (hl : lk lv i = some (.long x)) (kk : Bd S M d (pc + 1) lv (.long x :: st) I r I') : Bd S M d pc lv (st) I r I' :=
  fun p l e s m args below meth c D cy ad H locs ls X => lv_lload_n X.1.1 X.1.2.1 hd hi (lv_lk X.2.1 hl) (kk p l e s m args below meth c D cy ad H locs ls X)
theorem b_lload {i : Nat} {x : Int64} (hd : decode M.2.1 pc = .ok (.lload i, 2)) (hl : lk lv i = some (.long x)) (kk : Bd S M d (pc + 2) lv (.long x :: st) I r I') : Bd S M d pc lv (st) I r I' :=
  fun p l e s m args below meth c D cy ad H locs ls X => lv_lload X.1.1 X.1.2.1 hd (lv_lk X.2.1 hl) (kk p l e s m args below meth c D cy ad H locs ls X)
theorem b_aload_n {k : Fin 4} {i : Nat} {x : Nat} (hd : decode M.2.1 pc = .ok (.aload_n k, 1)) (hi : (k : Nat) = i) (hl : lk lv i = some (.ref x)) (kk : Bd S M d (pc + 1) lv (.ref x :: st) I r I') : Bd S M d pc lv (st) I r I' :=
  fun p l e s m args below meth c D cy ad H locs ls X => lv_aload_n X.1.1 X.1.2.1 hd hi (lv_lk X.2.1 hl) (kk p l e s m args below meth c D cy ad H locs ls X)
theorem b_aload {i : Nat} {x : Nat} (hd : decode M.2.1 pc = .ok (.aload i, 2)) (hl : lk lv i = some (.ref x)) (kk : Bd S M d (pc + 2) lv (.ref x :: st) I r I') : Bd S M d pc lv (st) I r I' :=
  fun p l e s m args below meth c D cy ad H locs ls X => lv_aload X.1.1 X.1.2.1 hd (lv_lk X.2.1 hl) (kk p l e s m args below meth c D cy ad H locs ls X)
theorem b_istore_n {k : Fin 4} {i : Nat} {x : Int32} {lv' : List (Nat × Value)} (hd : decode M.2.1 pc = .ok (.istore_n k, 1)) (hi : (k : Nat) = i) (hn : i < M.2.2.1) (hl : lst1 i (.int x) lv = lv') (kk : Bd S M d (pc + 1) lv' st I r I') : Bd S M d pc lv (.int x :: st) I r I' :=
  fun p l e s m args below meth c D cy ad H locs ls X => lv_istore_n X.1.1 X.1.2.1 hd hi X.2.1 hn (by rw [← hl, ← lvc_1]; rfl) (fun ls' h' => kk p l e s m args below meth c D cy ad H locs ls' ⟨X.1, h', X.2.2⟩)
theorem b_istore {i : Nat} {x : Int32} {lv' : List (Nat × Value)} (hd : decode M.2.1 pc = .ok (.istore i, 2)) (hn : i < M.2.2.1) (hl : lst1 i (.int x) lv = lv') (kk : Bd S M d (pc + 2) lv' st I r I') : Bd S M d pc lv (.int x :: st) I r I' :=
  fun p l e s m args below meth c D cy ad H locs ls X => lv_istore X.1.1 X.1.2.1 hd X.2.1 hn (by rw [← hl, ← lvc_1]; rfl) (fun ls' h' => kk p l e s m args below meth c D cy ad H locs ls' ⟨X.1, h', X.2.2⟩)
theorem b_astore_n {k : Fin 4} {i : Nat} {x : Nat} {lv' : List (Nat × Value)} (hd : decode M.2.1 pc = .ok (.astore_n k, 1)) (hi : (k : Nat) = i) (hn : i < M.2.2.1) (hl : lst1 i (.ref x) lv = lv') (kk : Bd S M d (pc + 1) lv' st I r I') : Bd S M d pc lv (.ref x :: st) I r I' :=
  fun p l e s m args below meth c D cy ad H locs ls X => lv_astore_n X.1.1 X.1.2.1 hd hi X.2.1 hn (by rw [← hl, ← lvc_1]; rfl) (fun ls' h' => kk p l e s m args below meth c D cy ad H locs ls' ⟨X.1, h', X.2.2⟩)
theorem b_astore {i : Nat} {x : Nat} {lv' : List (Nat × Value)} (hd : decode M.2.1 pc = .ok (.astore i, 2)) (hn : i < M.2.2.1) (hl : lst1 i (.ref x) lv = lv') (kk : Bd S M d (pc + 2) lv' st I r I') : Bd S M d pc lv (.ref x :: st) I r I' :=
  fun p l e s m args below meth c D cy ad H locs ls X => lv_astore X.1.1 X.1.2.1 hd X.2.1 hn (by rw [← hl, ← lvc_1]; rfl) (fun ls' h' => kk p l e s m args below meth c D cy ad H locs ls' ⟨X.1, h', X.2.2⟩)
theorem b_lstore_n {k : Fin 4} {i : Nat} {x : Int64} {lv' : List (Nat × Value)} (hd : decode M.2.1 pc = .ok (.lstore_n k, 1)) (hi : (k : Nat) = i) (hn : i < M.2.2.1 ∧ i + 1 < M.2.2.1) (hl : lst2 i (.long x) lv = lv') (kk : Bd S M d (pc + 1) lv' st I r I') : Bd S M d pc lv (.long x :: st) I r I' :=
  fun p l e s m args below meth c D cy ad H locs ls X => lv_lstore_n X.1.1 X.1.2.1 hd hi X.2.1 hn.2 (by rw [← hl, ← lvc_2]; rfl) (fun ls' h' => kk p l e s m args below meth c D cy ad H locs ls' ⟨X.1, h', X.2.2⟩)
theorem b_lstore {i : Nat} {x : Int64} {lv' : List (Nat × Value)} (hd : decode M.2.1 pc = .ok (.lstore i, 2)) (hn : i < M.2.2.1 ∧ i + 1 < M.2.2.1) (hl : lst2 i (.long x) lv = lv') (kk : Bd S M d (pc + 2) lv' st I r I') : Bd S M d pc lv (.long x :: st) I r I' :=
  fun p l e s m args below meth c D cy ad H locs ls X => lv_lstore X.1.1 X.1.2.1 hd X.2.1 hn.2 (by rw [← hl, ← lvc_2]; rfl) (fun ls' h' => kk p l e s m args below meth c D cy ad H locs ls' ⟨X.1, h', X.2.2⟩)
theorem b_iinc {i : Nat} {n : Int} {x v : Int32} {lv' : List (Nat × Value)} (hd : decode M.2.1 pc = .ok (.iinc i n, 3)) (hk : lk lv i = some (.int x)) (hv : x + Int32.ofInt n = v) (hn : i < M.2.2.1) (hl : lst1 i (.int v) lv = lv') (kk : Bd S M d (pc + 3) lv' st I r I') : Bd S M d pc lv st I r I' := by
  intro p l e s m args below meth c D cy ad H locs ls X
  have hm := lk_mem hk
  obtain ⟨q, hq⟩ := List.getElem?_of_mem hm
  have hq2 : (lvc ad lv)[q]? = some (i, .int x) := by rw [lvc, List.getElem?_map, hq]; rfl
  exact lv_iinc X.1.1 X.1.2.1 hd X.2.1 hq2 hv hn (by rw [← hl, ← lvc_1]; rfl) (fun ls' h' => kk p l e s m args below meth c D cy ad H locs ls' ⟨X.1, h', X.2.2⟩)
theorem b_iinc1 {i : Nat} {x : Int32} {lv' : List (Nat × Value)} (hd : decode M.2.1 pc = .ok (.iinc i 1, 3)) (hk : lk lv i = some (.int x)) (hn : i < M.2.2.1) (hl : lst1 i (.int (x + 1)) lv = lv') (kk : Bd S M d (pc + 3) lv' st I r I') : Bd S M d pc lv st I r I' := b_iinc (v := x + 1) hd hk rfl hn hl kk
theorem b_iadd {x y : Int32} (hd : decode M.2.1 pc = .ok (.iadd, 1)) (kk : Bd S M d (pc + 1) lv (.int (x + y) :: st) I r I') : Bd S M d pc lv (.int y :: .int x :: st) I r I' :=
  fun p l e s m args below meth c D cy ad H locs ls X => lv_iadd X.1.1 X.1.2.1 hd (kk p l e s m args below meth c D cy ad H locs ls X)
theorem b_isub {x y : Int32} (hd : decode M.2.1 pc = .ok (.isub, 1)) (kk : Bd S M d (pc + 1) lv (.int (x - y) :: st) I r I') : Bd S M d pc lv (.int y :: .int x :: st) I r I' :=
  fun p l e s m args below meth c D cy ad H locs ls X => lv_isub X.1.1 X.1.2.1 hd (kk p l e s m args below meth c D cy ad H locs ls X)
theorem b_imul {x y : Int32} (hd : decode M.2.1 pc = .ok (.imul, 1)) (kk : Bd S M d (pc + 1) lv (.int (x * y) :: st) I r I') : Bd S M d pc lv (.int y :: .int x :: st) I r I' :=
  fun p l e s m args below meth c D cy ad H locs ls X => lv_imul X.1.1 X.1.2.1 hd (kk p l e s m args below meth c D cy ad H locs ls X)
theorem b_iand {x y : Int32} (hd : decode M.2.1 pc = .ok (.iand, 1)) (kk : Bd S M d (pc + 1) lv (.int (x &&& y) :: st) I r I') : Bd S M d pc lv (.int y :: .int x :: st) I r I' :=
  fun p l e s m args below meth c D cy ad H locs ls X => lv_iand X.1.1 X.1.2.1 hd (kk p l e s m args below meth c D cy ad H locs ls X)
theorem b_ior {x y : Int32} (hd : decode M.2.1 pc = .ok (.ior, 1)) (kk : Bd S M d (pc + 1) lv (.int (x ||| y) :: st) I r I') : Bd S M d pc lv (.int y :: .int x :: st) I r I' :=
  fun p l e s m args below meth c D cy ad H locs ls X => lv_ior X.1.1 X.1.2.1 hd (kk p l e s m args below meth c D cy ad H locs ls X)
theorem b_ladd {x y : Int64} (hd : decode M.2.1 pc = .ok (.ladd, 1)) (kk : Bd S M d (pc + 1) lv (.long (x + y) :: st) I r I') : Bd S M d pc lv (.long y :: .long x :: st) I r I' :=
  fun p l e s m args below meth c D cy ad H locs ls X => lv_ladd X.1.1 X.1.2.1 hd (kk p l e s m args below meth c D cy ad H locs ls X)
theorem b_lsub {x y : Int64} (hd : decode M.2.1 pc = .ok (.lsub, 1)) (kk : Bd S M d (pc + 1) lv (.long (x - y) :: st) I r I') : Bd S M d pc lv (.long y :: .long x :: st) I r I' :=
  fun p l e s m args below meth c D cy ad H locs ls X => lv_lsub X.1.1 X.1.2.1 hd (kk p l e s m args below meth c D cy ad H locs ls X)
theorem b_lmul {x y : Int64} (hd : decode M.2.1 pc = .ok (.lmul, 1)) (kk : Bd S M d (pc + 1) lv (.long (x * y) :: st) I r I') : Bd S M d pc lv (.long y :: .long x :: st) I r I' :=
  fun p l e s m args below meth c D cy ad H locs ls X => lv_lmul X.1.1 X.1.2.1 hd (kk p l e s m args below meth c D cy ad H locs ls X)
theorem b_land {x y : Int64} (hd : decode M.2.1 pc = .ok (.land, 1)) (kk : Bd S M d (pc + 1) lv (.long (x &&& y) :: st) I r I') : Bd S M d pc lv (.long y :: .long x :: st) I r I' :=
  fun p l e s m args below meth c D cy ad H locs ls X => lv_land X.1.1 X.1.2.1 hd (kk p l e s m args below meth c D cy ad H locs ls X)
theorem b_lor {x y : Int64} (hd : decode M.2.1 pc = .ok (.lor, 1)) (kk : Bd S M d (pc + 1) lv (.long (x ||| y) :: st) I r I') : Bd S M d pc lv (.long y :: .long x :: st) I r I' :=
  fun p l e s m args below meth c D cy ad H locs ls X => lv_lor X.1.1 X.1.2.1 hd (kk p l e s m args below meth c D cy ad H locs ls X)
theorem b_idiv {x y : Int32} (hd : decode M.2.1 pc = .ok (.idiv, 1)) (hne : ¬ y = 0) (kk : Bd S M d (pc + 1) lv (.int (x / y) :: st) I r I') : Bd S M d pc lv (.int y :: .int x :: st) I r I' :=
  fun p l e s m args below meth c D cy ad H locs ls X => lv_idiv X.1.1 X.1.2.1 hd hne (kk p l e s m args below meth c D cy ad H locs ls X)
theorem b_irem {x y : Int32} (hd : decode M.2.1 pc = .ok (.irem, 1)) (hne : ¬ y = 0) (kk : Bd S M d (pc + 1) lv (.int (x - x / y * y) :: st) I r I') : Bd S M d pc lv (.int y :: .int x :: st) I r I' :=
  fun p l e s m args below meth c D cy ad H locs ls X => lv_irem X.1.1 X.1.2.1 hd hne (kk p l e s m args below meth c D cy ad H locs ls X)
theorem b_ldiv {x y : Int64} (hd : decode M.2.1 pc = .ok (.ldiv, 1)) (hne : ¬ y = 0) (kk : Bd S M d (pc + 1) lv (.long (x / y) :: st) I r I') : Bd S M d pc lv (.long y :: .long x :: st) I r I' :=
  fun p l e s m args below meth c D cy ad H locs ls X => lv_ldiv X.1.1 X.1.2.1 hd hne (kk p l e s m args below meth c D cy ad H locs ls X)
theorem b_lrem {x y : Int64} (hd : decode M.2.1 pc = .ok (.lrem, 1)) (hne : ¬ y = 0) (kk : Bd S M d (pc + 1) lv (.long (x - x / y * y) :: st) I r I') : Bd S M d pc lv (.long y :: .long x :: st) I r I' :=
  fun p l e s m args below meth c D cy ad H locs ls X => lv_lrem X.1.1 X.1.2.1 hd hne (kk p l e s m args below meth c D cy ad H locs ls X)
theorem b_ineg {x : Int32} (hd : decode M.2.1 pc = .ok (.ineg, 1)) (kk : Bd S M d (pc + 1) lv (.int (-x) :: st) I r I') : Bd S M d pc lv (.int x :: st) I r I' :=
  fun p l e s m args below meth c D cy ad H locs ls X => lv_ineg X.1.1 X.1.2.1 hd (kk p l e s m args below meth c D cy ad H locs ls X)
theorem b_ishl {x y : Int32} (hd : decode M.2.1 pc = .ok (.ishl, 1)) (kk : Bd S M d (pc + 1) lv (.int (x <<< (y &&& 31)) :: st) I r I') : Bd S M d pc lv (.int y :: .int x :: st) I r I' :=
  fun p l e s m args below meth c D cy ad H locs ls X => lv_ishl X.1.1 X.1.2.1 hd (kk p l e s m args below meth c D cy ad H locs ls X)
theorem b_ishr {x y : Int32} (hd : decode M.2.1 pc = .ok (.ishr, 1)) (kk : Bd S M d (pc + 1) lv (.int (x >>> (y &&& 31)) :: st) I r I') : Bd S M d pc lv (.int y :: .int x :: st) I r I' :=
  fun p l e s m args below meth c D cy ad H locs ls X => lv_ishr X.1.1 X.1.2.1 hd (kk p l e s m args below meth c D cy ad H locs ls X)
theorem b_lshl {x : Int64} {y : Int32} (hd : decode M.2.1 pc = .ok (.lshl, 1)) (kk : Bd S M d (pc + 1) lv (.long (x <<< (y.toInt64 &&& 63)) :: st) I r I') : Bd S M d pc lv (.int y :: .long x :: st) I r I' :=
  fun p l e s m args below meth c D cy ad H locs ls X => lv_lshl X.1.1 X.1.2.1 hd rfl (kk p l e s m args below meth c D cy ad H locs ls X)
theorem b_lshr {x : Int64} {y : Int32} (hd : decode M.2.1 pc = .ok (.lshr, 1)) (kk : Bd S M d (pc + 1) lv (.long (x >>> (y.toInt64 &&& 63)) :: st) I r I') : Bd S M d pc lv (.int y :: .long x :: st) I r I' :=
  fun p l e s m args below meth c D cy ad H locs ls X => lv_lshr X.1.1 X.1.2.1 hd rfl (kk p l e s m args below meth c D cy ad H locs ls X)
theorem b_lushr {x : Int64} {y : Int32} (hd : decode M.2.1 pc = .ok (.lushr, 1)) (kk : Bd S M d (pc + 1) lv (.long (x.toUInt64 >>> (y.toInt64.toUInt64 &&& Int64.toUInt64 63)).toInt64 :: st) I r I') : Bd S M d pc lv (.int y :: .long x :: st) I r I' :=
  fun p l e s m args below meth c D cy ad H locs ls X => lv_lushr X.1.1 X.1.2.1 hd rfl (kk p l e s m args below meth c D cy ad H locs ls X)
theorem b_l2i {x : Int64} (hd : decode M.2.1 pc = .ok (.l2i, 1)) (kk : Bd S M d (pc + 1) lv (.int x.toInt32 :: st) I r I') : Bd S M d pc lv (.long x :: st) I r I' :=
  fun p l e s m args below meth c D cy ad H locs ls X => lv_l2i X.1.1 X.1.2.1 hd rfl (kk p l e s m args below meth c D cy ad H locs ls X)
theorem b_i2l {x : Int32} (hd : decode M.2.1 pc = .ok (.i2l, 1)) (kk : Bd S M d (pc + 1) lv (.long x.toInt64 :: st) I r I') : Bd S M d pc lv (.int x :: st) I r I' :=
  fun p l e s m args below meth c D cy ad H locs ls X => lv_i2l X.1.1 X.1.2.1 hd rfl (kk p l e s m args below meth c D cy ad H locs ls X)
theorem b_i2b {x : Int32} (hd : decode M.2.1 pc = .ok (.i2b, 1)) (kk : Bd S M d (pc + 1) lv (.int x.toInt8.toInt32 :: st) I r I') : Bd S M d pc lv (.int x :: st) I r I' :=
  fun p l e s m args below meth c D cy ad H locs ls X => lv_i2b X.1.1 X.1.2.1 hd rfl (kk p l e s m args below meth c D cy ad H locs ls X)
theorem b_i2s {x : Int32} (hd : decode M.2.1 pc = .ok (.i2s, 1)) (kk : Bd S M d (pc + 1) lv (.int x.toInt16.toInt32 :: st) I r I') : Bd S M d pc lv (.int x :: st) I r I' :=
  fun p l e s m args below meth c D cy ad H locs ls X => lv_i2s X.1.1 X.1.2.1 hd rfl (kk p l e s m args below meth c D cy ad H locs ls X)
theorem b_lcmp {x y : Int64} (hd : decode M.2.1 pc = .ok (.lcmp, 1)) (kk : Bd S M d (pc + 1) lv (.int (lg_cmp x y) :: st) I r I') : Bd S M d pc lv (.long y :: .long x :: st) I r I' :=
  fun p l e s m args below meth c D cy ad H locs ls X => W.lcmp X.1.1 X.1.2.1 hd (kk p l e s m args below meth c D cy ad H locs ls X)
theorem b_dup {v : Value} (hd : decode M.2.1 pc = .ok (.dup, 1)) (hv : v.category = 1) (kk : Bd S M d (pc + 1) lv (v :: v :: st) I r I') : Bd S M d pc lv (v :: st) I r I' :=
  fun p l e s m args below meth c D cy ad H locs ls X => lv_dup X.1.1 X.1.2.1 hd (by rw [cvt_cat]; exact hv) (kk p l e s m args below meth c D cy ad H locs ls X)
theorem b_pop {v : Value} (hd : decode M.2.1 pc = .ok (.pop, 1)) (hv : v.category = 1) (kk : Bd S M d (pc + 1) lv (st) I r I') : Bd S M d pc lv (v :: st) I r I' :=
  fun p l e s m args below meth c D cy ad H locs ls X => lv_pop X.1.1 X.1.2.1 hd (by rw [cvt_cat]; exact hv) (kk p l e s m args below meth c D cy ad H locs ls X)
theorem b_dup2 {v u : Value} (hd : decode M.2.1 pc = .ok (.dup2, 1)) (hv : v.category = 1 ∧ u.category = 1) (kk : Bd S M d (pc + 1) lv (v :: u :: v :: u :: st) I r I') : Bd S M d pc lv (v :: u :: st) I r I' :=
  fun p l e s m args below meth c D cy ad H locs ls X => lv_dup2_11 X.1.1 X.1.2.1 hd (by rw [cvt_cat]; exact hv.1) (by rw [cvt_cat]; exact hv.2) (kk p l e s m args below meth c D cy ad H locs ls X)
theorem b_goto {off : Int} {tgt : Nat} (hd : decode M.2.1 pc = .ok (.goto off, 3)) (ht : (pc : Int) + off = (tgt : Int)) (kk : Bd S M d tgt lv (st) I r I') : Bd S M d pc lv (st) I r I' :=
  fun p l e s m args below meth c D cy ad H locs ls X => lv_goto X.1.1 X.1.2.1 hd ht (kk p l e s m args below meth c D cy ad H locs ls X)
theorem b_if_eq {x : Int32} {off : Int} {tgt : Nat} (hd : decode M.2.1 pc = .ok (.ifCond .eq off, 3)) (ht : (pc : Int) + off = (tgt : Int)) (kt : x = 0 → Bd S M d tgt lv st I r I') (kf : ¬ x = 0 → Bd S M d (pc + 3) lv st I r I') : Bd S M d pc lv (.int x :: st) I r I' :=
  fun p l e s m args below meth c D cy ad H locs ls X => lv_if_eq X.1.1 X.1.2.1 hd ht (fun h => kt h p l e s m args below meth c D cy ad H locs ls X) (fun h => kf h p l e s m args below meth c D cy ad H locs ls X)
theorem b_icmp_eq {x y : Int32} {off : Int} {tgt : Nat} (hd : decode M.2.1 pc = .ok (.if_icmp .eq off, 3)) (ht : (pc : Int) + off = (tgt : Int)) (kt : x = y → Bd S M d tgt lv st I r I') (kf : ¬ x = y → Bd S M d (pc + 3) lv st I r I') : Bd S M d pc lv (.int y :: .int x :: st) I r I' :=
  fun p l e s m args below meth c D cy ad H locs ls X => lv_icmp_eq X.1.1 X.1.2.1 hd ht (fun h => kt h p l e s m args below meth c D cy ad H locs ls X) (fun h => kf h p l e s m args below meth c D cy ad H locs ls X)
theorem b_if_ne {x : Int32} {off : Int} {tgt : Nat} (hd : decode M.2.1 pc = .ok (.ifCond .ne off, 3)) (ht : (pc : Int) + off = (tgt : Int)) (kt : ¬ x = 0 → Bd S M d tgt lv st I r I') (kf : x = 0 → Bd S M d (pc + 3) lv st I r I') : Bd S M d pc lv (.int x :: st) I r I' :=
  fun p l e s m args below meth c D cy ad H locs ls X => lv_if_ne X.1.1 X.1.2.1 hd ht (fun h => kt h p l e s m args below meth c D cy ad H locs ls X) (fun h => kf h p l e s m args below meth c D cy ad H locs ls X)
theorem b_icmp_ne {x y : Int32} {off : Int} {tgt : Nat} (hd : decode M.2.1 pc = .ok (.if_icmp .ne off, 3)) (ht : (pc : Int) + off = (tgt : Int)) (kt : ¬ x = y → Bd S M d tgt lv st I r I') (kf : x = y → Bd S M d (pc + 3) lv st I r I') : Bd S M d pc lv (.int y :: .int x :: st) I r I' :=
  fun p l e s m args below meth c D cy ad H locs ls X => lv_icmp_ne X.1.1 X.1.2.1 hd ht (fun h => kt h p l e s m args below meth c D cy ad H locs ls X) (fun h => kf h p l e s m args below meth c D cy ad H locs ls X)
theorem b_if_lt {x : Int32} {off : Int} {tgt : Nat} (hd : decode M.2.1 pc = .ok (.ifCond .lt off, 3)) (ht : (pc : Int) + off = (tgt : Int)) (kt : x < 0 → Bd S M d tgt lv st I r I') (kf : ¬ x < 0 → Bd S M d (pc + 3) lv st I r I') : Bd S M d pc lv (.int x :: st) I r I' :=
  fun p l e s m args below meth c D cy ad H locs ls X => lv_if_lt X.1.1 X.1.2.1 hd ht (fun h => kt h p l e s m args below meth c D cy ad H locs ls X) (fun h => kf h p l e s m args below meth c D cy ad H locs ls X)
theorem b_icmp_lt {x y : Int32} {off : Int} {tgt : Nat} (hd : decode M.2.1 pc = .ok (.if_icmp .lt off, 3)) (ht : (pc : Int) + off = (tgt : Int)) (kt : x < y → Bd S M d tgt lv st I r I') (kf : ¬ x < y → Bd S M d (pc + 3) lv st I r I') : Bd S M d pc lv (.int y :: .int x :: st) I r I' :=
  fun p l e s m args below meth c D cy ad H locs ls X => lv_icmp_lt X.1.1 X.1.2.1 hd ht (fun h => kt h p l e s m args below meth c D cy ad H locs ls X) (fun h => kf h p l e s m args below meth c D cy ad H locs ls X)
theorem b_if_ge {x : Int32} {off : Int} {tgt : Nat} (hd : decode M.2.1 pc = .ok (.ifCond .ge off, 3)) (ht : (pc : Int) + off = (tgt : Int)) (kt : 0 ≤ x → Bd S M d tgt lv st I r I') (kf : ¬ 0 ≤ x → Bd S M d (pc + 3) lv st I r I') : Bd S M d pc lv (.int x :: st) I r I' :=
  fun p l e s m args below meth c D cy ad H locs ls X => lv_if_ge X.1.1 X.1.2.1 hd ht (fun h => kt h p l e s m args below meth c D cy ad H locs ls X) (fun h => kf h p l e s m args below meth c D cy ad H locs ls X)
theorem b_icmp_ge {x y : Int32} {off : Int} {tgt : Nat} (hd : decode M.2.1 pc = .ok (.if_icmp .ge off, 3)) (ht : (pc : Int) + off = (tgt : Int)) (kt : y ≤ x → Bd S M d tgt lv st I r I') (kf : ¬ y ≤ x → Bd S M d (pc + 3) lv st I r I') : Bd S M d pc lv (.int y :: .int x :: st) I r I' :=
  fun p l e s m args below meth c D cy ad H locs ls X => lv_icmp_ge X.1.1 X.1.2.1 hd ht (fun h => kt h p l e s m args below meth c D cy ad H locs ls X) (fun h => kf h p l e s m args below meth c D cy ad H locs ls X)
theorem b_if_gt {x : Int32} {off : Int} {tgt : Nat} (hd : decode M.2.1 pc = .ok (.ifCond .gt off, 3)) (ht : (pc : Int) + off = (tgt : Int)) (kt : 0 < x → Bd S M d tgt lv st I r I') (kf : ¬ 0 < x → Bd S M d (pc + 3) lv st I r I') : Bd S M d pc lv (.int x :: st) I r I' :=
  fun p l e s m args below meth c D cy ad H locs ls X => lv_if_gt X.1.1 X.1.2.1 hd ht (fun h => kt h p l e s m args below meth c D cy ad H locs ls X) (fun h => kf h p l e s m args below meth c D cy ad H locs ls X)
theorem b_icmp_gt {x y : Int32} {off : Int} {tgt : Nat} (hd : decode M.2.1 pc = .ok (.if_icmp .gt off, 3)) (ht : (pc : Int) + off = (tgt : Int)) (kt : y < x → Bd S M d tgt lv st I r I') (kf : ¬ y < x → Bd S M d (pc + 3) lv st I r I') : Bd S M d pc lv (.int y :: .int x :: st) I r I' :=
  fun p l e s m args below meth c D cy ad H locs ls X => lv_icmp_gt X.1.1 X.1.2.1 hd ht (fun h => kt h p l e s m args below meth c D cy ad H locs ls X) (fun h => kf h p l e s m args below meth c D cy ad H locs ls X)
theorem b_if_le {x : Int32} {off : Int} {tgt : Nat} (hd : decode M.2.1 pc = .ok (.ifCond .le off, 3)) (ht : (pc : Int) + off = (tgt : Int)) (kt : x ≤ 0 → Bd S M d tgt lv st I r I') (kf : ¬ x ≤ 0 → Bd S M d (pc + 3) lv st I r I') : Bd S M d pc lv (.int x :: st) I r I' :=
  fun p l e s m args below meth c D cy ad H locs ls X => lv_if_le X.1.1 X.1.2.1 hd ht (fun h => kt h p l e s m args below meth c D cy ad H locs ls X) (fun h => kf h p l e s m args below meth c D cy ad H locs ls X)
theorem b_icmp_le {x y : Int32} {off : Int} {tgt : Nat} (hd : decode M.2.1 pc = .ok (.if_icmp .le off, 3)) (ht : (pc : Int) + off = (tgt : Int)) (kt : x ≤ y → Bd S M d tgt lv st I r I') (kf : ¬ x ≤ y → Bd S M d (pc + 3) lv st I r I') : Bd S M d pc lv (.int y :: .int x :: st) I r I' :=
  fun p l e s m args below meth c D cy ad H locs ls X => lv_icmp_le X.1.1 X.1.2.1 hd ht (fun h => kt h p l e s m args below meth c D cy ad H locs ls X) (fun h => kf h p l e s m args below meth c D cy ad H locs ls X)
end BR
end
section
/-! a field by its link: class ci's field j, at entry idx of own's pool -/
def FW (own : String) (idx ci j : Nat) (rf fin : Bool) (ty : FieldType) : Prop :=
  ∃ (C : String) (T : u_T) (N : Nat) (ty0 : Nat → FieldType), clX[ci]? = some (C, T, N) ∧ clN ci = N ∧ j < N ∧ (∀ w ∈ u_ws C T N, w ∈ gw) ∧ Cond.fieldLink own idx (T j).1 (T j).2.1 (T j).2.2.1 ∈ gw ∧ isR ci j = rf ∧ (T j).2.2.2 = fin ∧
    (∀ k, k < N → parseFieldDescriptor (T k).2.2.1 = some (ty0 k)) ∧ (∀ a, a < N → ∀ b, b < N → a ≠ b → (T a).2.1 ≠ (T b).2.1) ∧ parseFieldDescriptor (T j).2.2.1 = some ty ∧ ci < 20
/-- a method and its words -/
def MV (M : Mi) (na : Nat) : Prop := Cond.code M.1 M.2.1 M.2.2.1 M.2.2.2 ∈ gw ∧ Cond.initialized M.1.cls ∈ gw ∧ (M.1.cls ≠ "java/lang/invoke/MethodHandle" ∧ M.1.cls ≠ "java/lang/invoke/VarHandle") ∧ (parseMethodDescriptor M.1.desc).map (fun d => d.parameters.length) = some na ∧ M.2.2.1 ≤ 40
def MVi (M : Mi) : Prop := Cond.instanceMethod M.1 ∈ gw ∧ Cond.selects M.1.cls M.1 M.1 ∈ gw
def IsO (S : Sy) (k : Nat) (C : String) : Prop := ∃ (ci z : Nat) (q : vw_C), S.1[k]? = some (ci, z) ∧ ci < 20 ∧ clX[ci]? = some q ∧ q.1 = C
theorem ent_o {cy : Nat → ClassId} {ad : Nat → Nat} {ci z : Nat} {ik : Nat → Int32} {rk : Nat → Option Nat} (h : ci < 20) : entOf cy ad (ci, z) ik rk = .inr (ci, (List.range (clN ci)).map fun j => if isR ci j then va_rf ((rk j).map ad) else .int (ik j)) := by
  unfold entOf; rw [if_pos h]
theorem fs_at {n j : Nat} {g : Nat → Value} (h : j < n) : ((List.range n).map g)[j]? = some (g j) := by
  simp [List.getElem?_map, List.getElem?_range h]
section BH
variable {S : Sy} {M : Mi} {d pc : Nat} {lv : List (Nat × Value)} {st : List Value} {I I' : Wd} {r : Option Value}
theorem b_geti {k idx ci z j : Nat} {fin : Bool} {ty : FieldType} (hd : decode M.2.1 pc = .ok (.getfield idx, 3)) (hf : FW M.1.cls idx ci j false fin ty) (hsh : S.1[k]? = some (ci, z)) (kk : Bd S M d (pc + 3) lv (.int (I k j) :: st) I r I') : Bd S M d pc lv (.ref k :: st) I r I' := by
  intro p l e s m args below meth c D cy ad H locs ls X
  obtain ⟨C, T, N, ty0, h1, h2, h3, h4, h5, h6, h7, h8, h9, h10, h11⟩ := hf
  obtain ⟨⟨hx, hb, hr, hml, hown, hts, hlocks⟩, hl, hi, hK, hE, hP, hS⟩ := id X
  have he := ws_at (cy := cy) (ad := ad) (I := I) hsh
  rw [ent_o h11] at he
  refine va_get (D := D) (cl := clX) (tys := tyL cy) (ci := ci) (C := C) (T := T) (N := N) (v := .int (I k j)) hx hb hts h4 hown hK hP k he h1 j h3 (hts _ h5) (fun _ h => h) ?_ hd (kk p l e s m args below meth c D cy ad H locs ls X)
  rw [h2, fs_at h3, if_neg (by rw [h6]; decide)]
theorem b_geta {k idx ci z j q : Nat} {fin : Bool} {ty : FieldType} (hd : decode M.2.1 pc = .ok (.getfield idx, 3)) (hf : FW M.1.cls idx ci j true fin ty) (hsh : S.1[k]? = some (ci, z)) (hq : S.2 k j = some q) (kk : Bd S M d (pc + 3) lv (.ref q :: st) I r I') : Bd S M d pc lv (.ref k :: st) I r I' := by
  intro p l e s m args below meth c D cy ad H locs ls X
  obtain ⟨C, T, N, ty0, h1, h2, h3, h4, h5, h6, h7, h8, h9, h10, h11⟩ := hf
  obtain ⟨⟨hx, hb, hr, hml, hown, hts, hlocks⟩, hl, hi, hK, hE, hP, hS⟩ := id X
  have he := ws_at (cy := cy) (ad := ad) (I := I) hsh
  rw [ent_o h11] at he
  refine va_get (D := D) (cl := clX) (tys := tyL cy) (ci := ci) (C := C) (T := T) (N := N) (v := .ref (ad q)) hx hb hts h4 hown hK hP k he h1 j h3 (hts _ h5) (fun _ h => h) ?_ hd (kk p l e s m args below meth c D cy ad H locs ls X)
  rw [h2, fs_at h3, if_pos (by rw [h6]), hq]
  rfl
theorem b_putv {k idx ci z j : Nat} {ty : FieldType} {x : Int32} (hd : decode M.2.1 pc = .ok (.putfield idx, 3)) (hf : FW M.1.cls idx ci j false false ty) (hsh : S.1[k]? = some (ci, z)) (hn : narrow ty (.int x) = .int x) (hfit : fits ty (.int x) = true) (kk : Bd S M d (pc + 3) lv st (ist I k j x) r I') : Bd S M d pc lv (.int x :: .ref k :: st) I r I' := by
  intro p l e s m args below meth c D cy ad H locs ls X
  obtain ⟨C, T, N, ty0, h1, h2, h3, h4, h5, h6, h7, h8, h9, h10, h11⟩ := hf
  obtain ⟨hX1, hl, hi, hK, hE, hP, hS⟩ := id X
  obtain ⟨hx, hb, hr, hml, hown, hts, hlocks⟩ := id hX1
  have he := ws_at (cy := cy) (ad := ad) (I := I) hsh
  rw [ent_o h11] at he
  refine va_put (D := D) (cl := clX) (tys := tyL cy) (ci := ci) (C := C) (T := T) (N := N) (v := .int x) (ty := ty) hx hb hts h4 ty0 h8 h9 hown hK hP (ws_D hi) hS k he h1 j h3 (hts _ h5) (fun _ h => h) h7 h10 hn hfit (by simpa [h2] using h3) hd ?_
  intro H1 locs1 hP1 hD1 hS1
  have e2 : (wsO cy ad S I).set k (ad k, .inr (ci, ((List.range (clN ci)).map fun i => if isR ci i then va_rf ((S.2 k i).map ad) else .int (I k i)).set j (.int x))) = wsO cy ad S (ist I k j x) := by
    have e3 := ws_set (cy := cy) (ad := ad) (I := I) hsh (upd (I k) j x)
    rw [ent_o h11] at e3
    unfold ist
    rw [← e3, fs_set]
    congr 3
    refine congrArg (Prod.mk ci) ?_
    apply List.map_congr_left
    intro i _
    by_cases hij : i = j
    · subst hij; rw [if_pos rfl, if_neg (by rw [h6]; decide)]; simp [upd]
    · rw [if_neg hij]
      by_cases hR : isR ci i = true
      · rw [if_pos hR, if_pos hR]
      · rw [if_neg hR, if_neg hR]; simp [upd, hij]
  rw [e2] at hP1
  exact kk p l e s m args below meth c D cy ad H1 locs1 ls ⟨hX1, hl, hi, hK, hE, hP1, hS1⟩
theorem b_puti {k idx ci z j : Nat} {x : Int32} (hd : decode M.2.1 pc = .ok (.putfield idx, 3)) (hf : FW M.1.cls idx ci j false false .int) (hsh : S.1[k]? = some (ci, z)) (kk : Bd S M d (pc + 3) lv st (ist I k j x) r I') : Bd S M d pc lv (.int x :: .ref k :: st) I r I' := b_putv hd hf hsh rfl rfl kk
theorem b_put1 {k idx ci z j : Nat} (hd : decode M.2.1 pc = .ok (.putfield idx, 3)) (hf : FW M.1.cls idx ci j false false .boolean) (hsh : S.1[k]? = some (ci, z)) (kk : Bd S M d (pc + 3) lv st (ist I k j 1) r I') : Bd S M d pc lv (.int 1 :: .ref k :: st) I r I' := b_putv hd hf hsh rfl rfl kk
theorem b_put0 {k idx ci z j : Nat} (hd : decode M.2.1 pc = .ok (.putfield idx, 3)) (hf : FW M.1.cls idx ci j false false .boolean) (hsh : S.1[k]? = some (ci, z)) (kk : Bd S M d (pc + 3) lv st (ist I k j 0) r I') : Bd S M d pc lv (.int 0 :: .ref k :: st) I r I' := b_putv hd hf hsh rfl rfl kk
theorem ent_i {cy : Nat → ClassId} {ad : Nat → Nat} {n : Nat} {ik : Nat → Int32} {rk : Nat → Option Nat} : entOf cy ad (20, n) ik rk = .inl (cy 20, n, .inl ik) := rfl
theorem ent_z {cy : Nat → ClassId} {ad : Nat → Nat} {n : Nat} {ik : Nat → Int32} {rk : Nat → Option Nat} : entOf cy ad (21, n) ik rk = .inl (cy 21, n, .inl ik) := rfl
theorem b_iald {k n : Nat} {i : Int32} (hd : decode M.2.1 pc = .ok (.iaload, 1)) (hsh : S.1[k]? = some (20, n)) (hin : vp_in i n) (kk : Bd S M d (pc + 1) lv (.int (I k i.toNatClampNeg) :: st) I r I') : Bd S M d pc lv (.int i :: .ref k :: st) I r I' := by
  intro p l e s m args below meth c D cy ad H locs ls X
  obtain ⟨⟨hx, hb, hr, hml, hown, hts, hlocks⟩, hl, hi, hK, hE, hP, hS⟩ := id X
  exact va_iald hx hb hK hP k 0 (ws_at hsh) rfl hin hd (kk p l e s m args below meth c D cy ad H locs ls X)
theorem b_zald {k n : Nat} {i : Int32} (hd : decode M.2.1 pc = .ok (.baload, 1)) (hsh : S.1[k]? = some (21, n)) (hin : vp_in i n) (kk : Bd S M d (pc + 1) lv (.int (I k i.toNatClampNeg) :: st) I r I') : Bd S M d pc lv (.int i :: .ref k :: st) I r I' := by
  intro p l e s m args below meth c D cy ad H locs ls X
  obtain ⟨⟨hx, hb, hr, hml, hown, hts, hlocks⟩, hl, hi, hK, hE, hP, hS⟩ := id X
  exact va_zald hx hb hK hP k 1 (ws_at hsh) rfl hin hd (kk p l e s m args below meth c D cy ad H locs ls X)
theorem b_iast {k n : Nat} {i x : Int32} (hd : decode M.2.1 pc = .ok (.iastore, 1)) (hsh : S.1[k]? = some (20, n)) (hin : vp_in i n) (kk : Bd S M d (pc + 1) lv st (ist I k i.toNatClampNeg x) r I') : Bd S M d pc lv (.int x :: .int i :: .ref k :: st) I r I' := by
  intro p l e s m args below meth c D cy ad H locs ls X
  obtain ⟨hX1, hl, hi, hK, hE, hP, hS⟩ := id X
  obtain ⟨hx, hb, hr, hml, hown, hts, hlocks⟩ := id hX1
  refine va_iast hx hb hK hP (ws_D hi) hS k 0 (ws_at hsh) rfl hin hd ?_
  intro H1 locs1 hP1 hD1 hS1
  have e3 := ws_set (cy := cy) (ad := ad) (I := I) hsh (upd (I k) i.toNatClampNeg x)
  rw [ent_i] at e3
  rw [e3] at hP1
  exact kk p l e s m args below meth c D cy ad H1 locs1 ls ⟨hX1, hl, hi, hK, hE, hP1, hS1⟩
theorem b_zast {k n : Nat} {i x : Int32} (hd : decode M.2.1 pc = .ok (.bastore, 1)) (hsh : S.1[k]? = some (21, n)) (hin : vp_in i n) (hx01 : vp_nar .boolean x = x) (kk : Bd S M d (pc + 1) lv st (ist I k i.toNatClampNeg x) r I') : Bd S M d pc lv (.int x :: .int i :: .ref k :: st) I r I' := by
  intro p l e s m args below meth c D cy ad H locs ls X
  obtain ⟨hX1, hl, hi, hK, hE, hP, hS⟩ := id X
  obtain ⟨hx, hb, hr, hml, hown, hts, hlocks⟩ := id hX1
  refine va_zast hx hb hK hP (ws_D hi) hS k 1 (ws_at hsh) rfl hin hd ?_
  intro H1 locs1 hP1 hD1 hS1
  rw [hx01] at hP1
  have e3 := ws_set (cy := cy) (ad := ad) (I := I) hsh (upd (I k) i.toNatClampNeg x)
  rw [ent_z] at e3
  rw [e3] at hP1
  exact kk p l e s m args below meth c D cy ad H1 locs1 ls ⟨hX1, hl, hi, hK, hE, hP1, hS1⟩
/-- a row of references: what stands there -/
theorem b_aald {k n t q : Nat} {i : Int32} (hd : decode M.2.1 pc = .ok (.aaload, 1)) (hsh : S.1[k]? = some (t, n)) (ht : t = 22 ∨ t = 23) (hin : vp_in i n) (hq : S.2 k i.toNatClampNeg = some q) (kk : Bd S M d (pc + 1) lv (.ref q :: st) I r I') : Bd S M d pc lv (.int i :: .ref k :: st) I r I' := by
  intro p l e s m args below meth c D cy ad H locs ls X
  obtain ⟨⟨hx, hb, hr, hml, hown, hts, hlocks⟩, hl, hi, hK, hE, hP, hS⟩ := id X
  have kk2 := kk p l e s m args below meth c D cy ad H locs ls X
  have ev : cvt ad (.ref q) = va_rf ((S.2 k i.toNatClampNeg).map ad) := by rw [hq]; rfl
  rcases ht with rfl | rfl
  · exact va_aldq hx hb hK hP k 2 (ws_at hsh) rfl hin hd (by rw [← ev]; exact kk2)
  · exact va_aldq hx hb hK hP k 3 (ws_at hsh) rfl hin hd (by rw [← ev]; exact kk2)
/-- an array's length -/
theorem b_alen {k n t : Nat} {v : Int32} (hd : decode M.2.1 pc = .ok (.arraylength, 1)) (hsh : S.1[k]? = some (t, n)) (ht : t = 20 ∨ t = 21) (hv : Int32.ofNat n = v) (kk : Bd S M d (pc + 1) lv (.int v :: st) I r I') : Bd S M d pc lv (.ref k :: st) I r I' := by
  intro p l e s m args below meth c D cy ad H locs ls X
  obtain ⟨⟨hx, hb, hr, hml, hown, hts, hlocks⟩, hl, hi, hK, hE, hP, hS⟩ := id X
  have kk2 := kk p l e s m args below meth c D cy ad H locs ls X
  rcases ht with rfl | rfl
  · exact va_alen hx hb hK hP k 0 (ws_at hsh) rfl hv hd kk2
  · exact va_alen hx hb hK hP k 1 (ws_at hsh) rfl hv hd kk2
/-! returns -/
theorem Qcw.of {D : va_G} {cy : Nat → ClassId} {ad : Nat → Nat} {s t : State} {H : Heap} {locs : List Loc} {as : Array Value} (hP : va_P D clX (wsO cy ad S I) H) (hS : va_S (Aad S ad) s.heap H locs) (ht : t.heap = H) : Qcw D cy ad S r I as s (.returned (r.map (cvt ad))) t := ⟨rfl, by rw [ht]; exact hP, hS.F ht⟩
theorem b_iret {v : Int32} (hd : decode M.2.1 pc = .ok (.ireturn, 1)) (hty : M.2.2.2 = some .int) : Bd S M d pc lv [.int v] I (some (.int v)) I := by
  intro p l e s m args below meth c D cy ad H locs ls X
  obtain ⟨⟨hx, hb, hr, hml, hown, hts, hlocks⟩, hl, hi, hK, hE, hP, hS⟩ := id X
  exact W.iret (v := v) hx hb (hr.trans hty) (fun t ht hW => Qcw.of (r := some (.int v)) hP hS ht) hS.2.2 hd hlocks
theorem b_zret {v : Int32} {ty : FieldType} (hd : decode M.2.1 pc = .ok (.ireturn, 1)) (hty : M.2.2.2 = some ty) (hn : narrow ty (.int v) = .int v) : Bd S M d pc lv [.int v] I (some (.int v)) I := by
  intro p l e s m args below meth c D cy ad H locs ls X
  obtain ⟨⟨hx, hb, hr, hml, hown, hts, hlocks⟩, hl, hi, hK, hE, hP, hS⟩ := id X
  exact W.zret (v := v) hx hb (hr.trans hty) hn (fun t ht hW => Qcw.of (r := some (.int v)) hP hS ht) hS.2.2 hd hlocks
theorem b_lret {v : Int64} (hd : decode M.2.1 pc = .ok (.lreturn, 1)) (hty : M.2.2.2 = some .long) : Bd S M d pc lv [.long v] I (some (.long v)) I := by
  intro p l e s m args below meth c D cy ad H locs ls X
  obtain ⟨⟨hx, hb, hr, hml, hown, hts, hlocks⟩, hl, hi, hK, hE, hP, hS⟩ := id X
  exact W.lret (v := v) hx hb (hr.trans hty) (fun t ht hW => Qcw.of (r := some (.long v)) hP hS ht) hS.2.2 hd hlocks
theorem b_vret (hd : decode M.2.1 pc = .ok (.return_, 1)) (hty : M.2.2.2 = none) : Bd S M d pc lv [] I none I := by
  intro p l e s m args below meth c D cy ad H locs ls X
  obtain ⟨⟨hx, hb, hr, hml, hown, hts, hlocks⟩, hl, hi, hK, hE, hP, hS⟩ := id X
  exact W.vret hx hb (hr.trans hty) (fun t ht hW => Qcw.of (r := none) hP hS ht) hS.2.2 hd hlocks
theorem b_aret {k : Nat} {n : String} (hd : decode M.2.1 pc = .ok (.areturn, 1)) (hty : M.2.2.2 = some (.object n)) : Bd S M d pc lv [.ref k] I (some (.ref k)) I := by
  intro p l e s m args below meth c D cy ad H locs ls X
  obtain ⟨⟨hx, hb, hr, hml, hown, hts, hlocks⟩, hl, hi, hK, hE, hP, hS⟩ := id X
  exact W.aret (v := .ref (ad k)) hx hb (hr.trans hty) (Or.inl ⟨n, rfl⟩) (Or.inr ⟨_, rfl⟩) (fun t ht hW => Qcw.of (r := some (.ref k)) hP hS ht) hS.2.2 hd hlocks
/-- the end, put as an equation -/
theorem b_eq {r1 : Option Value} {I1 : Wd} (h : Bd S M d pc lv st I r1 I1) (h1 : r1 = r) (h2 : I1 = I') : Bd S M d pc lv st I r I' := h1 ▸ h2 ▸ h
/-! calls -/
theorem Pcw.blind {D : va_G} {cy : Nat → ClassId} {ad : Nat → Nat} {As : List Value} : FrameBlind (Pcw D cy ad S As I) := by
  intro a U g mk q
  obtain ⟨q0, qP, qK, qE⟩ := q
  exact ⟨q0, qP, va_K.moved (u := U) (U := U.calling g mk a) (Vm.Alike.refl U.vm) qK, Ext.same (u := U) (U := U.calling g mk a) rfl qE⟩
theorem Pcw.at {D : va_G} {cy : Nat → ClassId} {ad : Nat → Nat} {As : List Value} {s U : State} {H : Heap} {locs : List Loc} (hK : va_K D clX (tyL cy) s) (hE : Ext (Aad S ad) ad s s.heap) (hP : va_P D clX (wsO cy ad S I) H) (hS : va_S (Aad S ad) s.heap H locs) (hU : U.heap = H) (hW : s.WarmedH U.vm) : Pcw D cy ad S As I (As.map (cvt ad)).toArray U :=
  ⟨rfl, by rw [hU]; exact hP, va_K.moved hW.alike hK, by rw [hU]; exact (hE.warm hW).kept hS.2.1⟩
theorem go_on {p : Program} {l : Launch} {e : Env} {s : State} {m : MethodId} {args : Array Value} {below : List Frame} {meth : Method} {c : Code} {D : va_G} {cy : Nat → ClassId} {ad : Nat → Nat} {H : Heap} {locs : List Loc} {ls : Array Slot} {r1 : Option Value} {I1 : Wd} {rest st0 : List Value} {a : Array Value} (X : Cx S M p s m args meth c D cy ad I H locs ls lv)
    (run : va_Run p l e (rmd d) s m args below meth c H locs 0 0 0 0 (F0 m pc ls st0) (rest.map (cvt ad)) (Qcw D cy ad S r1 I1 a) (Aad S ad))
    (kk : Bd S M d (pc + 3) lv (r1.toList ++ rest) I1 r I') : W p l e (rmd d) s m args below meth c H locs 0 0 (MQ below (Qcw D cy ad S r I') args s 0 0 (Aad S ad)) (F0 m pc ls st0) := by
  obtain ⟨hX1, hl, hi, hK, hE, hP, hS⟩ := X
  intro T hT XS
  obtain ⟨v, st₀, t, T', L, h0, X', hL, e1, e2, ⟨hret, hP1, hF⟩, stp⟩ := run T hT XS
  have hv : v = r1.map (cvt ad) := Outcome.returned.inj hret
  subst hv
  have hz : H.size ≤ T'.heap.size := by rw [e1, ← h0]; exact hF.1
  have hkp : ∀ q : Nat, q < H.size → ¬ Aad S ad q → T'.heap[q]? = H[q]? := fun q h1 h2 => by rw [e1, ← h0]; exact hF.2 q (by rw [h0]; exact h1) h2
  obtain ⟨t2, a1, b1⟩ := kk p l e s m args below meth c D cy ad T'.heap (locs ++ L) ls ⟨hX1, hl, hi, hK, hE, by rw [e1]; exact hP1, Nat.le_trans hS.1 hz, fun q h1 h2 => by rw [hkp q (Nat.lt_of_lt_of_le h1 hS.1) h2]; exact hS.2.1 q h1 h2, fun q hq => by
    rcases List.mem_append.mp hq with h | h
    · exact hS.2.2 q h
    · exact hL q h⟩ T' rfl X'
  refine ⟨t2, stp t2 ?_, b1⟩
  have e3 : (r1.toList ++ rest).map (cvt ad) = (r1.map (cvt ad)).toList ++ rest.map (cvt ad) := by cases r1 <;> simp
  rw [e3] at a1
  exact a1
def csum (st : List Value) : Nat := (st.map fun v => v.category).sum
theorem csum_map (ad : Nat → Nat) (st : List Value) : ((st.map (cvt ad)).map fun v => v.category).sum = csum st := by
  simp only [csum, List.map_map]
  congr 1
  apply List.map_congr_left
  intro v _
  exact cvt_cat ad v
theorem good_call {na : Nat} {own : String} {idx : Nat} {M2 : Mi} (hl : Cond.methodLink own idx M2.1 ∈ gw) (hm : MV M2 na) (hmi : MVi M2) : GoodIn gw (wsV own idx M2.1.cls M2.1 (.code M2.1 M2.2.1 M2.2.2.1 M2.2.2.2 :: gw)) := by
  intro w hw
  refine gw_good w ?_
  simp only [wsV, List.cons_append, List.nil_append, List.mem_cons] at hw
  rcases hw with rfl | rfl | rfl | rfl | rfl | hw
  · exact hl
  · exact hmi.1
  · exact hmi.2
  · exact hm.2.1
  · exact hm.1
  · exact hw
theorem good_callS {na : Nat} {own : String} {idx : Nat} {M2 : Mi} (hl : Cond.methodLink own idx M2.1 ∈ gw) (hm : MV M2 na) (hms : Cond.static M2.1 ∈ gw) : GoodIn gw (va_wsS own idx M2.1 (.code M2.1 M2.2.1 M2.2.2.1 M2.2.2.2 :: gw)) := by
  intro w hw
  refine gw_good w ?_
  simp only [va_wsS, List.cons_append, List.nil_append, List.mem_cons] at hw
  rcases hw with rfl | rfl | rfl | rfl | hw
  · exact hl
  · exact hms
  · exact hm.2.1
  · exact hm.1
  · exact hw
theorem good_callN {na : Nat} {M2 : Mi} (hm : MV M2 na) : GoodIn gw (.code M2.1 M2.2.1 M2.2.2.1 M2.2.2.2 :: gw) := by
  intro w hw
  refine gw_good w ?_
  rcases List.mem_cons.mp hw with rfl | hw
  · exact hm.1
  · exact hw
theorem room_ok {d d2 nL : Nat} (h : d2 < d) (h2 : nL ≤ 40) : (rmd d2).frames + 1 ≤ (rmd d).frames ∧ 8 + (nL + 11) + (rmd d2).locals ≤ (rmd d).locals := by
  constructor
  · show d2 + 1 ≤ d; omega
  · show 8 + (nL + 11) + 80 * d2 ≤ 80 * d; omega
theorem b_invV {M2 : Mi} {na idx k d2 : Nat} {As rest : List Value} {r1 : Option Value} {I1 : Wd} (hd : decode M.2.1 pc = .ok (.invokevirtual idx, 3)) (hl : Cond.methodLink M.1.cls idx M2.1 ∈ gw) (hm : MV M2 na) (hmi : MVi M2) (hc : Cal S M2 d2 (.ref k :: As) I r1 I1) (hO : IsO S k M2.1.cls) (hst : st = As.reverse ++ .ref k :: rest) (hna : As.length = na) (hdd : d2 < d) (hcs : csum rest ≤ 8) (kk : Bd S M d (pc + 3) lv (r1.toList ++ rest) I1 r I') : Bd S M d pc lv st I r I' := by
  intro p l e s m args below meth c D cy ad H locs ls X
  obtain ⟨⟨hx, hb, hr, hml, hown, hts, hlocks⟩, hlv, hi, hK, hE, hP, hS⟩ := id X
  obtain ⟨ci, z, q, h1, h2, h3, h4⟩ := hO
  have he := ws_at (cy := cy) (ad := ad) (I := I) h1
  rw [ent_o h2] at he
  have hrec := va_recv hK hP h3 he
  rw [h4] at hrec
  subst hst
  refine go_on X (va_runV (As := As.map (cvt ad)) (b := ad k) (C := M2.1.cls) ⟨hx, hb, hml, hown, hts⟩ (hc l D cy ad hi) (cwV na hts (good_call hl hm hmi) rfl rfl rfl ⟨rfl, hm.2.2.1.1, hm.2.2.1.2, hm.2.2.2.1⟩ (room_ok hdd hm.2.2.2.2)) ⟨Pcw.blind, hrec, fun U hU hW => Pcw.at (As := .ref k :: As) hK hE hP hS hU hW⟩ rfl (by rw [List.length_map]; exact hna) hlv.1 (by simp [cvt]) (lv_room (by rw [csum_map]; exact hcs)) hd ⟨Nat.zero_le _, Nat.zero_le _⟩) kk
theorem b_invS {M2 : Mi} {na idx d2 : Nat} {As rest : List Value} {r1 : Option Value} {I1 : Wd} (hd : decode M.2.1 pc = .ok (.invokestatic idx, 3)) (hl : Cond.methodLink M.1.cls idx M2.1 ∈ gw) (hm : MV M2 na) (hms : Cond.static M2.1 ∈ gw) (hc : Cal S M2 d2 As I r1 I1) (hst : st = As.reverse ++ rest) (hna : As.length = na) (hdd : d2 < d) (hcs : csum rest ≤ 8) (kk : Bd S M d (pc + 3) lv (r1.toList ++ rest) I1 r I') : Bd S M d pc lv st I r I' := by
  intro p l e s m args below meth c D cy ad H locs ls X
  obtain ⟨⟨hx, hb, hr, hml, hown, hts, hlocks⟩, hlv, hi, hK, hE, hP, hS⟩ := id X
  subst hst
  refine go_on X (va_runS (As := As.map (cvt ad)) ⟨hx, hb, hml, hown, hts⟩ (hc l D cy ad hi) (va_cwS na hts (good_callS hl hm hms) rfl rfl rfl ⟨hm.2.2.1.1, hm.2.2.1.2, hm.2.2.2.1⟩ (room_ok hdd hm.2.2.2.2)) ⟨Pcw.blind, fun U hU hW => Pcw.at (As := As) hK hE hP hS hU hW⟩ rfl (by rw [List.length_map]; exact hna) hlv.1 (by simp) (lv_room (by rw [csum_map]; exact hcs)) hd ⟨Nat.zero_le _, Nat.zero_le _⟩) kk
/-- a private static method of the nest's host -/
theorem b_invN {M2 : Mi} {na idx d2 : Nat} {host : String} {As rest : List Value} {r1 : Option Value} {I1 : Wd} (hd : decode M.2.1 pc = .ok (.invokestatic idx, 3)) (hl : ∀ (A : Nat → Prop) (ad : Nat → Nat) (U : State) (H : Heap), Ext A ad U H → va_Nw (.methodLinkNest M.1.cls idx M2.1 host) U) (hm : MV M2 na) (hms : Cond.static M2.1 ∈ gw) (hc : Cal S M2 d2 As I r1 I1) (hst : st = As.reverse ++ rest) (hna : As.length = na) (hdd : d2 < d) (hcs : csum rest ≤ 8) (kk : Bd S M d (pc + 3) lv (r1.toList ++ rest) I1 r I') : Bd S M d pc lv st I r I' := by
  intro p l e s m args below meth c D cy ad H locs ls X
  obtain ⟨⟨hx, hb, hr, hml, hown, hts, hlocks⟩, hlv, hi, hK, hE, hP, hS⟩ := id X
  subst hst
  refine go_on X (va_runSN (As := As.map (cvt ad)) ⟨hx, hb, hml, hown, hts⟩ (hc l D cy ad hi) ⟨va_cnB na hts (good_callN hm) rfl rfl rfl (hl _ _ _ _ hE) (hts _ hm.2.1) ⟨hm.2.2.1.1, hm.2.2.1.2, hm.2.2.2.1⟩ (room_ok hdd hm.2.2.2.2), hts _ hms, trivial⟩ ⟨Pcw.blind, fun U hU hW => Pcw.at (As := As) hK hE hP hS hU hW⟩ rfl (by rw [List.length_map]; exact hna) hlv.1 (by simp) (lv_room (by rw [csum_map]; exact hcs)) hd ⟨Nat.zero_le _, Nat.zero_le _⟩) kk
end BH
end
section
theorem gw_tab {w : Cond} (h : w ∈ tables_1) (g : goodWord w = true) : w ∈ gw := List.mem_filter.mpr ⟨List.mem_append_right _ h, g⟩
theorem gw_prv {w : Cond} (h : w ∈ k2_sels lw_privs) (g : goodWord w = true) : w ∈ gw := List.mem_filter.mpr ⟨List.mem_append_left _ h, g⟩
theorem gw_t1 {w : Cond} (j : Nat) (h : tables_1_1[j]? = some w) (g : goodWord w = true) : w ∈ gw := gw_tab (List.mem_append_left _ (List.mem_of_getElem? h)) g
theorem gw_t2 {w : Cond} (j : Nat) (h : tables_1_2[j]? = some w) (g : goodWord w = true) : w ∈ gw := gw_tab (List.mem_append_right _ (List.mem_append_left _ (List.mem_of_getElem? h))) g
theorem gw_t3 {w : Cond} (j : Nat) (h : tables_1_3[j]? = some w) (g : goodWord w = true) : w ∈ gw := gw_tab (List.mem_append_right _ (List.mem_append_right _ (List.mem_append_left _ (List.mem_of_getElem? h)))) g
theorem gw_t4 {w : Cond} (j : Nat) (h : tables_1_4[j]? = some w) (g : goodWord w = true) : w ∈ gw := gw_tab (List.mem_append_right _ (List.mem_append_right _ (List.mem_append_right _ (List.mem_append_left _ (List.mem_of_getElem? h))))) g
theorem gw_t5 {w : Cond} (j : Nat) (h : tables_1_5[j]? = some w) (g : goodWord w = true) : w ∈ gw := gw_tab (List.mem_append_right _ (List.mem_append_right _ (List.mem_append_right _ (List.mem_append_right _ (List.mem_append_left _ (List.mem_of_getElem? h)))))) g
theorem gw_t6 {w : Cond} (j : Nat) (h : tables_1_6[j]? = some w) (g : goodWord w = true) : w ∈ gw := gw_tab (List.mem_append_right _ (List.mem_append_right _ (List.mem_append_right _ (List.mem_append_right _ (List.mem_append_right _ (List.mem_append_left _ (List.mem_of_getElem? h))))))) g
theorem gw_t7 {w : Cond} (j : Nat) (h : tables_1_7[j]? = some w) (g : goodWord w = true) : w ∈ gw := gw_tab (List.mem_append_right _ (List.mem_append_right _ (List.mem_append_right _ (List.mem_append_right _ (List.mem_append_right _ (List.mem_append_right _ (List.mem_of_getElem? h))))))) g
theorem gw_p1 {w : Cond} (j : Nat) (h : (k2_sels lw_privs_1)[j]? = some w) (g : goodWord w = true) : w ∈ gw := by
  obtain ⟨q, hq, e⟩ := List.mem_map.mp (List.mem_of_getElem? h)
  exact gw_prv (List.mem_map.mpr ⟨q, List.mem_append_left _ (hq), e⟩) g
theorem gw_p2 {w : Cond} (j : Nat) (h : (k2_sels lw_privs_2)[j]? = some w) (g : goodWord w = true) : w ∈ gw := by
  obtain ⟨q, hq, e⟩ := List.mem_map.mp (List.mem_of_getElem? h)
  exact gw_prv (List.mem_map.mpr ⟨q, List.mem_append_right _ (List.mem_append_left _ (hq)), e⟩) g
theorem gw_p3 {w : Cond} (j : Nat) (h : (k2_sels lw_privs_3)[j]? = some w) (g : goodWord w = true) : w ∈ gw := by
  obtain ⟨q, hq, e⟩ := List.mem_map.mp (List.mem_of_getElem? h)
  exact gw_prv (List.mem_map.mpr ⟨q, List.mem_append_right _ (List.mem_append_right _ (List.mem_append_left _ (hq))), e⟩) g
theorem gw_p4 {w : Cond} (j : Nat) (h : (k2_sels lw_privs_4)[j]? = some w) (g : goodWord w = true) : w ∈ gw := by
  obtain ⟨q, hq, e⟩ := List.mem_map.mp (List.mem_of_getElem? h)
  exact gw_prv (List.mem_map.mpr ⟨q, List.mem_append_right _ (List.mem_append_right _ (List.mem_append_right _ (List.mem_append_left _ (hq)))), e⟩) g
theorem gw_p5 {w : Cond} (j : Nat) (h : (k2_sels lw_privs_5)[j]? = some w) (g : goodWord w = true) : w ∈ gw := by
  obtain ⟨q, hq, e⟩ := List.mem_map.mp (List.mem_of_getElem? h)
  exact gw_prv (List.mem_map.mpr ⟨q, List.mem_append_right _ (List.mem_append_right _ (List.mem_append_right _ (List.mem_append_right _ (List.mem_append_left _ (hq))))), e⟩) g
theorem gw_p6 {w : Cond} (j : Nat) (h : (k2_sels lw_privs_6)[j]? = some w) (g : goodWord w = true) : w ∈ gw := by
  obtain ⟨q, hq, e⟩ := List.mem_map.mp (List.mem_of_getElem? h)
  exact gw_prv (List.mem_map.mpr ⟨q, List.mem_append_right _ (List.mem_append_right _ (List.mem_append_right _ (List.mem_append_right _ (List.mem_append_right _ (hq))))), e⟩) g
theorem iwX0 : ∀ w ∈ u_ws RX0 TX0 6, w ∈ gw := gw_of _ [132, 134, 136, 138, 140, 142] (by decide +kernel) (by decide +kernel)
theorem iwX1 : ∀ w ∈ u_ws RX1 TX1 13, w ∈ gw := gw_of _ [306, 308, 310, 312, 314, 316, 318, 320, 322, 324, 326, 328, 330] (by decide +kernel) (by decide +kernel)
theorem iwX2 : ∀ w ∈ u_ws RX2 TX2 16, w ∈ gw := gw_of _ [183, 185, 187, 189, 191, 193, 195, 197, 199, 201, 203, 205, 207, 209, 211, 213] (by decide +kernel) (by decide +kernel)
theorem iwX3 : ∀ w ∈ u_ws RX3 TX3 5, w ∈ gw := gw_of _ [401, 403, 405, 407, 409] (by decide +kernel) (by decide +kernel)
theorem iwX4 : ∀ w ∈ u_ws RX4 TX4 7, w ∈ gw := gw_of _ [425, 427, 429, 431, 433, 435, 437] (by decide +kernel) (by decide +kernel)
theorem iwX5 : ∀ w ∈ u_ws RX5 TX5 3, w ∈ gw := gw_of _ [455, 457, 459] (by decide +kernel) (by decide +kernel)
theorem iwX6 : ∀ w ∈ u_ws RX6 TX6 7, w ∈ gw := gw_of _ [237, 239, 241, 243, 245, 247, 249] (by decide +kernel) (by decide +kernel)
theorem iwX7 : ∀ w ∈ u_ws RX7 TX7 7, w ∈ gw := gw_of _ [354, 356, 358, 360, 362, 364, 366] (by decide +kernel) (by decide +kernel)
theorem iwX8 : ∀ w ∈ u_ws RX8 TX8 3, w ∈ gw := gw_of _ [388, 390, 392] (by decide +kernel) (by decide +kernel)
theorem iwX9 : ∀ w ∈ u_ws RX9 TX9 4, w ∈ gw := gw_of _ [272, 274, 276, 278] (by decide +kernel) (by decide +kernel)
theorem iwX10 : ∀ w ∈ u_ws RX10 TX10 14, w ∈ gw := gw_of _ [651, 653, 655, 657, 659, 661, 663, 665, 667, 669, 671, 673, 675, 677] (by decide +kernel) (by decide +kernel)
theorem iwX11 : ∀ w ∈ u_ws RX11 TX11 77, w ∈ gw := gw_of _ [1204, 1206, 1208, 1210, 1212, 1214, 1216, 1218, 1220, 1222, 1224, 1226, 1228, 1230, 1232, 1234, 1236, 1238, 1240, 1242, 1244, 1246, 1248, 1250, 1252, 1254, 1256, 1258, 1260, 1262, 1264, 1266, 1268, 1270, 1272, 1274, 1276, 1278, 1280, 1282, 1284, 1286, 1288, 1290, 1292, 1294, 1296, 1298, 1300, 1302, 1304, 1306, 1308, 1310, 1312, 1314, 1316, 1318, 1320, 1322, 1324, 1326, 1328, 1330, 1332, 1334, 1336, 1338, 1340, 1342, 1344, 1346, 1348, 1350, 1352, 1354, 1356] (by decide +kernel) (by decide +kernel)
theorem fwX10_10 : FW RX10 10 10 0 true true (.object "HollowShire$Built") := ⟨RX10, TX10, 14, tyX10, rfl, rfl, by decide, iwX10, gw_t3 76 rfl rfl, rfl, rfl, tyX10_ok, nmX10, by decide +kernel, by decide⟩
theorem fwX10_21 : FW RX10 21 10 1 true true (.object "HollowShire$Ground") := ⟨RX10, TX10, 14, tyX10, rfl, rfl, by decide, iwX10, gw_t3 77 rfl rfl, rfl, rfl, tyX10_ok, nmX10, by decide +kernel, by decide⟩
theorem fwX10_25 : FW RX10 25 10 2 true true (.object "HollowShire$Ground") := ⟨RX10, TX10, 14, tyX10, rfl, rfl, by decide, iwX10, gw_t3 78 rfl rfl, rfl, rfl, tyX10_ok, nmX10, by decide +kernel, by decide⟩
theorem fwX10_28 : FW RX10 28 10 3 true true (.object "HollowShire$Ground") := ⟨RX10, TX10, 14, tyX10, rfl, rfl, by decide, iwX10, gw_t3 79 rfl rfl, rfl, rfl, tyX10_ok, nmX10, by decide +kernel, by decide⟩
theorem fwX10_31 : FW RX10 31 10 4 false false .boolean := ⟨RX10, TX10, 14, tyX10, rfl, rfl, by decide, iwX10, gw_t3 80 rfl rfl, rfl, rfl, tyX10_ok, nmX10, by decide +kernel, by decide⟩
theorem fwX10_38 : FW RX10 38 10 5 true true (.object "HollowShire$Signs") := ⟨RX10, TX10, 14, tyX10, rfl, rfl, by decide, iwX10, gw_t3 81 rfl rfl, rfl, rfl, tyX10_ok, nmX10, by decide +kernel, by decide⟩
theorem fwX10_47 : FW RX10 47 10 6 true true (.object "HollowShire$Told") := ⟨RX10, TX10, 14, tyX10, rfl, rfl, by decide, iwX10, gw_t3 82 rfl rfl, rfl, rfl, tyX10_ok, nmX10, by decide +kernel, by decide⟩
theorem fwX10_51 : FW RX10 51 10 7 true true (.object "HollowShire$Told") := ⟨RX10, TX10, 14, tyX10, rfl, rfl, by decide, iwX10, gw_t3 83 rfl rfl, rfl, rfl, tyX10_ok, nmX10, by decide +kernel, by decide⟩
theorem fwX10_57 : FW RX10 57 10 8 true true (.object "HollowShire$Fit") := ⟨RX10, TX10, 14, tyX10, rfl, rfl, by decide, iwX10, gw_t3 84 rfl rfl, rfl, rfl, tyX10_ok, nmX10, by decide +kernel, by decide⟩
theorem fwX10_64 : FW RX10 64 10 9 true true (.object "HollowShire$Rules") := ⟨RX10, TX10, 14, tyX10, rfl, rfl, by decide, iwX10, gw_t3 85 rfl rfl, rfl, rfl, tyX10_ok, nmX10, by decide +kernel, by decide⟩
theorem fwX10_70 : FW RX10 70 10 10 true true (.array (.object "HollowShire$Sheet")) := ⟨RX10, TX10, 14, tyX10, rfl, rfl, by decide, iwX10, gw_t3 86 rfl rfl, rfl, rfl, tyX10_ok, nmX10, by decide +kernel, by decide⟩
theorem fwX10_74 : FW RX10 74 10 11 true true (.array .int) := ⟨RX10, TX10, 14, tyX10, rfl, rfl, by decide, iwX10, gw_t3 87 rfl rfl, rfl, rfl, tyX10_ok, nmX10, by decide +kernel, by decide⟩
theorem fwX10_78 : FW RX10 78 10 12 false false .int := ⟨RX10, TX10, 14, tyX10, rfl, rfl, by decide, iwX10, gw_t3 88 rfl rfl, rfl, rfl, tyX10_ok, nmX10, by decide +kernel, by decide⟩
theorem fwX10_82 : FW RX10 82 10 13 false false .int := ⟨RX10, TX10, 14, tyX10, rfl, rfl, by decide, iwX10, gw_t3 89 rfl rfl, rfl, rfl, tyX10_ok, nmX10, by decide +kernel, by decide⟩
theorem fwX10_104 : FW RX10 104 2 6 true true (.array .int) := ⟨RX2, TX2, 16, tyX2, rfl, rfl, by decide, iwX2, gw_t1 84 rfl rfl, rfl, rfl, tyX2_ok, nmX2, by decide +kernel, by decide⟩
theorem fwX10_107 : FW RX10 107 2 5 true true (.array .int) := ⟨RX2, TX2, 16, tyX2, rfl, rfl, by decide, iwX2, gw_t1 81 rfl rfl, rfl, rfl, tyX2_ok, nmX2, by decide +kernel, by decide⟩
theorem fwX10_111 : FW RX10 111 0 0 false false .int := ⟨RX0, TX0, 6, tyX0, rfl, rfl, by decide, iwX0, gw_t1 35 rfl rfl, rfl, rfl, tyX0_ok, nmX0, by decide +kernel, by decide⟩
theorem fwX10_118 : FW RX10 118 0 1 false false .int := ⟨RX0, TX0, 6, tyX0, rfl, rfl, by decide, iwX0, gw_t1 38 rfl rfl, rfl, rfl, tyX0_ok, nmX0, by decide +kernel, by decide⟩
theorem fwX10_125 : FW RX10 125 2 11 true true (.array .int) := ⟨RX2, TX2, 16, tyX2, rfl, rfl, by decide, iwX2, gw_t1 95 rfl rfl, rfl, rfl, tyX2_ok, nmX2, by decide +kernel, by decide⟩
theorem fwX10_128 : FW RX10 128 2 2 false false .int := ⟨RX2, TX2, 16, tyX2, rfl, rfl, by decide, iwX2, gw_t1 75 rfl rfl, rfl, rfl, tyX2_ok, nmX2, by decide +kernel, by decide⟩
theorem fwX10_134 : FW RX10 134 2 12 true true (.array .int) := ⟨RX2, TX2, 16, tyX2, rfl, rfl, by decide, iwX2, gw_t1 97 rfl rfl, rfl, rfl, tyX2_ok, nmX2, by decide +kernel, by decide⟩
theorem fwX10_137 : FW RX10 137 2 13 true true (.array .boolean) := ⟨RX2, TX2, 16, tyX2, rfl, rfl, by decide, iwX2, gw_t1 99 rfl rfl, rfl, rfl, tyX2_ok, nmX2, by decide +kernel, by decide⟩
theorem fwX10_141 : FW RX10 141 0 4 true true (.array .int) := ⟨RX0, TX0, 6, tyX0, rfl, rfl, by decide, iwX0, gw_t1 48 rfl rfl, rfl, rfl, tyX0_ok, nmX0, by decide +kernel, by decide⟩
theorem fwX10_150 : FW RX10 150 2 1 false false .int := ⟨RX2, TX2, 16, tyX2, rfl, rfl, by decide, iwX2, gw_t1 73 rfl rfl, rfl, rfl, tyX2_ok, nmX2, by decide +kernel, by decide⟩
theorem fwX10_153 : FW RX10 153 6 0 false false .int := ⟨RX6, TX6, 7, tyX6, rfl, rfl, by decide, iwX6, gw_t1 143 rfl rfl, rfl, rfl, tyX6_ok, nmX6, by decide +kernel, by decide⟩
theorem fwX10_163 : FW RX10 163 6 6 true true (.array .int) := ⟨RX6, TX6, 7, tyX6, rfl, rfl, by decide, iwX6, gw_t1 155 rfl rfl, rfl, rfl, tyX6_ok, nmX6, by decide +kernel, by decide⟩
theorem fwX10_166 : FW RX10 166 6 5 true true (.array .int) := ⟨RX6, TX6, 7, tyX6, rfl, rfl, by decide, iwX6, gw_t1 153 rfl rfl, rfl, rfl, tyX6_ok, nmX6, by decide +kernel, by decide⟩
theorem fwX10_169 : FW RX10 169 6 3 true true (.array .int) := ⟨RX6, TX6, 7, tyX6, rfl, rfl, by decide, iwX6, gw_t1 149 rfl rfl, rfl, rfl, tyX6_ok, nmX6, by decide +kernel, by decide⟩
theorem fwX10_175 : FW RX10 175 6 1 true true (.array .int) := ⟨RX6, TX6, 7, tyX6, rfl, rfl, by decide, iwX6, gw_t1 145 rfl rfl, rfl, rfl, tyX6_ok, nmX6, by decide +kernel, by decide⟩
theorem fwX10_182 : FW RX10 182 6 2 true true (.array .int) := ⟨RX6, TX6, 7, tyX6, rfl, rfl, by decide, iwX6, gw_t1 147 rfl rfl, rfl, rfl, tyX6_ok, nmX6, by decide +kernel, by decide⟩
theorem fwX10_185 : FW RX10 185 6 4 true true (.array .int) := ⟨RX6, TX6, 7, tyX6, rfl, rfl, by decide, iwX6, gw_t1 151 rfl rfl, rfl, rfl, tyX6_ok, nmX6, by decide +kernel, by decide⟩
theorem fwX10_214 : FW RX10 214 5 1 false false .int := ⟨RX5, TX5, 3, tyX5, rfl, rfl, by decide, iwX5, gw_t2 130 rfl rfl, rfl, rfl, tyX5_ok, nmX5, by decide +kernel, by decide⟩
theorem fwX10_223 : FW RX10 223 1 1 false false .int := ⟨RX1, TX1, 13, tyX1, rfl, rfl, by decide, iwX1, gw_t1 209 rfl rfl, rfl, rfl, tyX1_ok, nmX1, by decide +kernel, by decide⟩
theorem fwX10_226 : FW RX10 226 1 2 false false .int := ⟨RX1, TX1, 13, tyX1, rfl, rfl, by decide, iwX1, gw_t1 211 rfl rfl, rfl, rfl, tyX1_ok, nmX1, by decide +kernel, by decide⟩
theorem fwX10_229 : FW RX10 229 1 0 false false .int := ⟨RX1, TX1, 13, tyX1, rfl, rfl, by decide, iwX1, gw_t1 207 rfl rfl, rfl, rfl, tyX1_ok, nmX1, by decide +kernel, by decide⟩
theorem fwX10_232 : FW RX10 232 1 4 true true (.array .int) := ⟨RX1, TX1, 13, tyX1, rfl, rfl, by decide, iwX1, gw_t1 214 rfl rfl, rfl, rfl, tyX1_ok, nmX1, by decide +kernel, by decide⟩
theorem fwX10_235 : FW RX10 235 1 5 true true (.array .int) := ⟨RX1, TX1, 13, tyX1, rfl, rfl, by decide, iwX1, gw_t1 216 rfl rfl, rfl, rfl, tyX1_ok, nmX1, by decide +kernel, by decide⟩
theorem fwX10_237 : FW RX10 237 1 6 true true (.array .int) := ⟨RX1, TX1, 13, tyX1, rfl, rfl, by decide, iwX1, gw_t1 218 rfl rfl, rfl, rfl, tyX1_ok, nmX1, by decide +kernel, by decide⟩
theorem fwX10_240 : FW RX10 240 4 0 true true (.object "HollowShire$Tape") := ⟨RX4, TX4, 7, tyX4, rfl, rfl, by decide, iwX4, gw_t2 95 rfl rfl, rfl, rfl, tyX4_ok, nmX4, by decide +kernel, by decide⟩
theorem fwX10_244 : FW RX10 244 7 0 false false .int := ⟨RX7, TX7, 7, tyX7, rfl, rfl, by decide, iwX7, gw_t2 26 rfl rfl, rfl, rfl, tyX7_ok, nmX7, by decide +kernel, by decide⟩
theorem fwX10_250 : FW RX10 250 4 1 false false .int := ⟨RX4, TX4, 7, tyX4, rfl, rfl, by decide, iwX4, gw_t2 97 rfl rfl, rfl, rfl, tyX4_ok, nmX4, by decide +kernel, by decide⟩
theorem fwX10_253 : FW RX10 253 4 2 false false .int := ⟨RX4, TX4, 7, tyX4, rfl, rfl, by decide, iwX4, gw_t2 99 rfl rfl, rfl, rfl, tyX4_ok, nmX4, by decide +kernel, by decide⟩
theorem fwX10_266 : FW RX10 266 0 2 true true (.array .int) := ⟨RX0, TX0, 6, tyX0, rfl, rfl, by decide, iwX0, gw_t1 42 rfl rfl, rfl, rfl, tyX0_ok, nmX0, by decide +kernel, by decide⟩
theorem fwX10_284 : FW RX10 284 5 2 true true (.array .int) := ⟨RX5, TX5, 3, tyX5, rfl, rfl, by decide, iwX5, gw_t2 133 rfl rfl, rfl, rfl, tyX5_ok, nmX5, by decide +kernel, by decide⟩
theorem fwX10_297 : FW RX10 297 2 9 true true (.array .int) := ⟨RX2, TX2, 16, tyX2, rfl, rfl, by decide, iwX2, gw_t1 91 rfl rfl, rfl, rfl, tyX2_ok, nmX2, by decide +kernel, by decide⟩
theorem fwX10_300 : FW RX10 300 2 10 true true (.array .int) := ⟨RX2, TX2, 16, tyX2, rfl, rfl, by decide, iwX2, gw_t1 93 rfl rfl, rfl, rfl, tyX2_ok, nmX2, by decide +kernel, by decide⟩
theorem fwX10_315 : FW RX10 315 2 7 true true (.array .int) := ⟨RX2, TX2, 16, tyX2, rfl, rfl, by decide, iwX2, gw_t1 86 rfl rfl, rfl, rfl, tyX2_ok, nmX2, by decide +kernel, by decide⟩
theorem fwX10_318 : FW RX10 318 2 8 true true (.array .int) := ⟨RX2, TX2, 16, tyX2, rfl, rfl, by decide, iwX2, gw_t1 89 rfl rfl, rfl, rfl, tyX2_ok, nmX2, by decide +kernel, by decide⟩
theorem fwX10_321 : FW RX10 321 0 3 true true (.array .int) := ⟨RX0, TX0, 6, tyX0, rfl, rfl, by decide, iwX0, gw_t1 45 rfl rfl, rfl, rfl, tyX0_ok, nmX0, by decide +kernel, by decide⟩
theorem fwX10_328 : FW RX10 328 2 3 false false .int := ⟨RX2, TX2, 16, tyX2, rfl, rfl, by decide, iwX2, gw_t1 77 rfl rfl, rfl, rfl, tyX2_ok, nmX2, by decide +kernel, by decide⟩
theorem fwX10_331 : FW RX10 331 2 4 false false .int := ⟨RX2, TX2, 16, tyX2, rfl, rfl, by decide, iwX2, gw_t1 79 rfl rfl, rfl, rfl, tyX2_ok, nmX2, by decide +kernel, by decide⟩
theorem fwX10_346 : FW RX10 346 9 0 false false .int := ⟨RX9, TX9, 4, tyX9, rfl, rfl, by decide, iwX9, gw_t1 182 rfl rfl, rfl, rfl, tyX9_ok, nmX9, by decide +kernel, by decide⟩
theorem fwX10_347 : FW RX10 347 5 0 false false .int := ⟨RX5, TX5, 3, tyX5, rfl, rfl, by decide, iwX5, gw_t2 127 rfl rfl, rfl, rfl, tyX5_ok, nmX5, by decide +kernel, by decide⟩
theorem fwX10_372 : FW RX10 372 9 3 true true (.array .int) := ⟨RX9, TX9, 4, tyX9, rfl, rfl, by decide, iwX9, gw_t1 190 rfl rfl, rfl, rfl, tyX9_ok, nmX9, by decide +kernel, by decide⟩
theorem fwX10_385 : FW RX10 385 9 1 true true (.array .int) := ⟨RX9, TX9, 4, tyX9, rfl, rfl, by decide, iwX9, gw_t1 185 rfl rfl, rfl, rfl, tyX9_ok, nmX9, by decide +kernel, by decide⟩
theorem fwX0_9 : FW RX0 9 0 0 false false .int := ⟨RX0, TX0, 6, tyX0, rfl, rfl, by decide, iwX0, gw_t1 34 rfl rfl, rfl, rfl, tyX0_ok, nmX0, by decide +kernel, by decide⟩
theorem fwX0_15 : FW RX0 15 0 1 false false .int := ⟨RX0, TX0, 6, tyX0, rfl, rfl, by decide, iwX0, gw_t1 37 rfl rfl, rfl, rfl, tyX0_ok, nmX0, by decide +kernel, by decide⟩
theorem fwX0_18 : FW RX0 18 0 2 true true (.array .int) := ⟨RX0, TX0, 6, tyX0, rfl, rfl, by decide, iwX0, gw_t1 40 rfl rfl, rfl, rfl, tyX0_ok, nmX0, by decide +kernel, by decide⟩
theorem fwX0_22 : FW RX0 22 0 3 true true (.array .int) := ⟨RX0, TX0, 6, tyX0, rfl, rfl, by decide, iwX0, gw_t1 43 rfl rfl, rfl, rfl, tyX0_ok, nmX0, by decide +kernel, by decide⟩
theorem fwX0_25 : FW RX0 25 0 4 true true (.array .int) := ⟨RX0, TX0, 6, tyX0, rfl, rfl, by decide, iwX0, gw_t1 46 rfl rfl, rfl, rfl, tyX0_ok, nmX0, by decide +kernel, by decide⟩
theorem fwX0_28 : FW RX0 28 0 5 true true (.array .int) := ⟨RX0, TX0, 6, tyX0, rfl, rfl, by decide, iwX0, gw_t1 49 rfl rfl, rfl, rfl, tyX0_ok, nmX0, by decide +kernel, by decide⟩
theorem fwX1_9 : FW RX1 9 1 0 false false .int := ⟨RX1, TX1, 13, tyX1, rfl, rfl, by decide, iwX1, gw_t1 206 rfl rfl, rfl, rfl, tyX1_ok, nmX1, by decide +kernel, by decide⟩
theorem fwX1_15 : FW RX1 15 1 1 false false .int := ⟨RX1, TX1, 13, tyX1, rfl, rfl, by decide, iwX1, gw_t1 208 rfl rfl, rfl, rfl, tyX1_ok, nmX1, by decide +kernel, by decide⟩
theorem fwX1_18 : FW RX1 18 1 2 false false .int := ⟨RX1, TX1, 13, tyX1, rfl, rfl, by decide, iwX1, gw_t1 210 rfl rfl, rfl, rfl, tyX1_ok, nmX1, by decide +kernel, by decide⟩
theorem fwX1_21 : FW RX1 21 1 3 false false .int := ⟨RX1, TX1, 13, tyX1, rfl, rfl, by decide, iwX1, gw_t1 212 rfl rfl, rfl, rfl, tyX1_ok, nmX1, by decide +kernel, by decide⟩
theorem fwX1_24 : FW RX1 24 1 4 true true (.array .int) := ⟨RX1, TX1, 13, tyX1, rfl, rfl, by decide, iwX1, gw_t1 213 rfl rfl, rfl, rfl, tyX1_ok, nmX1, by decide +kernel, by decide⟩
theorem fwX1_28 : FW RX1 28 1 5 true true (.array .int) := ⟨RX1, TX1, 13, tyX1, rfl, rfl, by decide, iwX1, gw_t1 215 rfl rfl, rfl, rfl, tyX1_ok, nmX1, by decide +kernel, by decide⟩
theorem fwX1_31 : FW RX1 31 1 6 true true (.array .int) := ⟨RX1, TX1, 13, tyX1, rfl, rfl, by decide, iwX1, gw_t1 217 rfl rfl, rfl, rfl, tyX1_ok, nmX1, by decide +kernel, by decide⟩
theorem fwX1_34 : FW RX1 34 1 7 true true (.array .int) := ⟨RX1, TX1, 13, tyX1, rfl, rfl, by decide, iwX1, gw_t1 219 rfl rfl, rfl, rfl, tyX1_ok, nmX1, by decide +kernel, by decide⟩
theorem fwX1_37 : FW RX1 37 1 8 true true (.array .int) := ⟨RX1, TX1, 13, tyX1, rfl, rfl, by decide, iwX1, gw_t1 220 rfl rfl, rfl, rfl, tyX1_ok, nmX1, by decide +kernel, by decide⟩
theorem fwX1_40 : FW RX1 40 1 9 true true (.array .int) := ⟨RX1, TX1, 13, tyX1, rfl, rfl, by decide, iwX1, gw_t1 221 rfl rfl, rfl, rfl, tyX1_ok, nmX1, by decide +kernel, by decide⟩
theorem fwX1_43 : FW RX1 43 1 10 false false .int := ⟨RX1, TX1, 13, tyX1, rfl, rfl, by decide, iwX1, gw_t1 222 rfl rfl, rfl, rfl, tyX1_ok, nmX1, by decide +kernel, by decide⟩
theorem fwX1_46 : FW RX1 46 1 11 true true (.array .int) := ⟨RX1, TX1, 13, tyX1, rfl, rfl, by decide, iwX1, gw_t1 223 rfl rfl, rfl, rfl, tyX1_ok, nmX1, by decide +kernel, by decide⟩
theorem fwX1_49 : FW RX1 49 1 12 true true (.array .int) := ⟨RX1, TX1, 13, tyX1, rfl, rfl, by decide, iwX1, gw_t1 224 rfl rfl, rfl, rfl, tyX1_ok, nmX1, by decide +kernel, by decide⟩
theorem fwX1_52 : FW RX1 52 5 1 false false .int := ⟨RX5, TX5, 3, tyX5, rfl, rfl, by decide, iwX5, gw_t2 129 rfl rfl, rfl, rfl, tyX5_ok, nmX5, by decide +kernel, by decide⟩
theorem fwX1_63 : FW RX1 63 5 2 true true (.array .int) := ⟨RX5, TX5, 3, tyX5, rfl, rfl, by decide, iwX5, gw_t2 132 rfl rfl, rfl, rfl, tyX5_ok, nmX5, by decide +kernel, by decide⟩
theorem fwX1_92 : FW RX1 92 9 0 false false .int := ⟨RX9, TX9, 4, tyX9, rfl, rfl, by decide, iwX9, gw_t1 181 rfl rfl, rfl, rfl, tyX9_ok, nmX9, by decide +kernel, by decide⟩
theorem fwX1_95 : FW RX1 95 9 1 true true (.array .int) := ⟨RX9, TX9, 4, tyX9, rfl, rfl, by decide, iwX9, gw_t1 184 rfl rfl, rfl, rfl, tyX9_ok, nmX9, by decide +kernel, by decide⟩
theorem fwX1_102 : FW RX1 102 9 3 true true (.array .int) := ⟨RX9, TX9, 4, tyX9, rfl, rfl, by decide, iwX9, gw_t1 189 rfl rfl, rfl, rfl, tyX9_ok, nmX9, by decide +kernel, by decide⟩
theorem fwX1_105 : FW RX1 105 9 2 true true (.array .int) := ⟨RX9, TX9, 4, tyX9, rfl, rfl, by decide, iwX9, gw_t1 187 rfl rfl, rfl, rfl, tyX9_ok, nmX9, by decide +kernel, by decide⟩
theorem fwX2_9 : FW RX2 9 2 1 false false .int := ⟨RX2, TX2, 16, tyX2, rfl, rfl, by decide, iwX2, gw_t1 72 rfl rfl, rfl, rfl, tyX2_ok, nmX2, by decide +kernel, by decide⟩
theorem fwX2_15 : FW RX2 15 2 2 false false .int := ⟨RX2, TX2, 16, tyX2, rfl, rfl, by decide, iwX2, gw_t1 74 rfl rfl, rfl, rfl, tyX2_ok, nmX2, by decide +kernel, by decide⟩
theorem fwX2_18 : FW RX2 18 2 3 false false .int := ⟨RX2, TX2, 16, tyX2, rfl, rfl, by decide, iwX2, gw_t1 76 rfl rfl, rfl, rfl, tyX2_ok, nmX2, by decide +kernel, by decide⟩
theorem fwX2_21 : FW RX2 21 2 4 false false .int := ⟨RX2, TX2, 16, tyX2, rfl, rfl, by decide, iwX2, gw_t1 78 rfl rfl, rfl, rfl, tyX2_ok, nmX2, by decide +kernel, by decide⟩
theorem fwX2_24 : FW RX2 24 2 5 true true (.array .int) := ⟨RX2, TX2, 16, tyX2, rfl, rfl, by decide, iwX2, gw_t1 80 rfl rfl, rfl, rfl, tyX2_ok, nmX2, by decide +kernel, by decide⟩
theorem fwX2_28 : FW RX2 28 2 6 true true (.array .int) := ⟨RX2, TX2, 16, tyX2, rfl, rfl, by decide, iwX2, gw_t1 83 rfl rfl, rfl, rfl, tyX2_ok, nmX2, by decide +kernel, by decide⟩
theorem fwX2_31 : FW RX2 31 2 7 true true (.array .int) := ⟨RX2, TX2, 16, tyX2, rfl, rfl, by decide, iwX2, gw_t1 85 rfl rfl, rfl, rfl, tyX2_ok, nmX2, by decide +kernel, by decide⟩
theorem fwX2_34 : FW RX2 34 2 8 true true (.array .int) := ⟨RX2, TX2, 16, tyX2, rfl, rfl, by decide, iwX2, gw_t1 87 rfl rfl, rfl, rfl, tyX2_ok, nmX2, by decide +kernel, by decide⟩
theorem fwX2_37 : FW RX2 37 2 9 true true (.array .int) := ⟨RX2, TX2, 16, tyX2, rfl, rfl, by decide, iwX2, gw_t1 90 rfl rfl, rfl, rfl, tyX2_ok, nmX2, by decide +kernel, by decide⟩
theorem fwX2_40 : FW RX2 40 2 10 true true (.array .int) := ⟨RX2, TX2, 16, tyX2, rfl, rfl, by decide, iwX2, gw_t1 92 rfl rfl, rfl, rfl, tyX2_ok, nmX2, by decide +kernel, by decide⟩
theorem fwX2_43 : FW RX2 43 2 11 true true (.array .int) := ⟨RX2, TX2, 16, tyX2, rfl, rfl, by decide, iwX2, gw_t1 94 rfl rfl, rfl, rfl, tyX2_ok, nmX2, by decide +kernel, by decide⟩
theorem fwX2_46 : FW RX2 46 2 12 true true (.array .int) := ⟨RX2, TX2, 16, tyX2, rfl, rfl, by decide, iwX2, gw_t1 96 rfl rfl, rfl, rfl, tyX2_ok, nmX2, by decide +kernel, by decide⟩
theorem fwX2_49 : FW RX2 49 2 13 true true (.array .boolean) := ⟨RX2, TX2, 16, tyX2, rfl, rfl, by decide, iwX2, gw_t1 98 rfl rfl, rfl, rfl, tyX2_ok, nmX2, by decide +kernel, by decide⟩
theorem fwX2_53 : FW RX2 53 2 14 true true (.array .int) := ⟨RX2, TX2, 16, tyX2, rfl, rfl, by decide, iwX2, gw_t1 100 rfl rfl, rfl, rfl, tyX2_ok, nmX2, by decide +kernel, by decide⟩
theorem fwX2_56 : FW RX2 56 2 15 true true (.array .int) := ⟨RX2, TX2, 16, tyX2, rfl, rfl, by decide, iwX2, gw_t1 101 rfl rfl, rfl, rfl, tyX2_ok, nmX2, by decide +kernel, by decide⟩
theorem fwX2_59 : FW RX2 59 2 0 true true (.object "HollowShire$Built") := ⟨RX2, TX2, 16, tyX2, rfl, rfl, by decide, iwX2, gw_t1 71 rfl rfl, rfl, rfl, tyX2_ok, nmX2, by decide +kernel, by decide⟩
theorem fwX2_69 : FW RX2 69 0 0 false false .int := ⟨RX0, TX0, 6, tyX0, rfl, rfl, by decide, iwX0, gw_t1 36 rfl rfl, rfl, rfl, tyX0_ok, nmX0, by decide +kernel, by decide⟩
theorem fwX2_74 : FW RX2 74 0 2 true true (.array .int) := ⟨RX0, TX0, 6, tyX0, rfl, rfl, by decide, iwX0, gw_t1 41 rfl rfl, rfl, rfl, tyX0_ok, nmX0, by decide +kernel, by decide⟩
theorem fwX2_77 : FW RX2 77 0 4 true true (.array .int) := ⟨RX0, TX0, 6, tyX0, rfl, rfl, by decide, iwX0, gw_t1 47 rfl rfl, rfl, rfl, tyX0_ok, nmX0, by decide +kernel, by decide⟩
theorem fwX2_80 : FW RX2 80 0 1 false false .int := ⟨RX0, TX0, 6, tyX0, rfl, rfl, by decide, iwX0, gw_t1 39 rfl rfl, rfl, rfl, tyX0_ok, nmX0, by decide +kernel, by decide⟩
theorem fwX2_83 : FW RX2 83 0 5 true true (.array .int) := ⟨RX0, TX0, 6, tyX0, rfl, rfl, by decide, iwX0, gw_t1 50 rfl rfl, rfl, rfl, tyX0_ok, nmX0, by decide +kernel, by decide⟩
theorem fwX2_90 : FW RX2 90 0 3 true true (.array .int) := ⟨RX0, TX0, 6, tyX0, rfl, rfl, by decide, iwX0, gw_t1 44 rfl rfl, rfl, rfl, tyX0_ok, nmX0, by decide +kernel, by decide⟩
theorem fwX3_12 : FW RX3 12 3 0 true true (.object "HollowShire$Text") := ⟨RX3, TX3, 5, tyX3, rfl, rfl, by decide, iwX3, gw_t2 74 rfl rfl, rfl, rfl, tyX3_ok, nmX3, by decide +kernel, by decide⟩
theorem fwX3_18 : FW RX3 18 3 2 false false .int := ⟨RX3, TX3, 5, tyX3, rfl, rfl, by decide, iwX3, gw_t2 77 rfl rfl, rfl, rfl, tyX3_ok, nmX3, by decide +kernel, by decide⟩
theorem fwX3_24 : FW RX3 24 3 3 false false .int := ⟨RX3, TX3, 5, tyX3, rfl, rfl, by decide, iwX3, gw_t2 78 rfl rfl, rfl, rfl, tyX3_ok, nmX3, by decide +kernel, by decide⟩
theorem fwX3_27 : FW RX3 27 3 4 false false .int := ⟨RX3, TX3, 5, tyX3, rfl, rfl, by decide, iwX3, gw_t2 79 rfl rfl, rfl, rfl, tyX3_ok, nmX3, by decide +kernel, by decide⟩
theorem fwX3_30 : FW RX3 30 3 1 true true (.object "HollowShire$Tape") := ⟨RX3, TX3, 5, tyX3, rfl, rfl, by decide, iwX3, gw_t2 76 rfl rfl, rfl, rfl, tyX3_ok, nmX3, by decide +kernel, by decide⟩
theorem fwX3_34 : FW RX3 34 8 0 false false .int := ⟨RX8, TX8, 3, tyX8, rfl, rfl, by decide, iwX8, gw_t2 61 rfl rfl, rfl, rfl, tyX8_ok, nmX8, by decide +kernel, by decide⟩
theorem fwX3_48 : FW RX3 48 8 2 true true (.array .int) := ⟨RX8, TX8, 3, tyX8, rfl, rfl, by decide, iwX8, gw_t2 65 rfl rfl, rfl, rfl, tyX8_ok, nmX8, by decide +kernel, by decide⟩
theorem fwX4_12 : FW RX4 12 4 0 true true (.object "HollowShire$Tape") := ⟨RX4, TX4, 7, tyX4, rfl, rfl, by decide, iwX4, gw_t2 94 rfl rfl, rfl, rfl, tyX4_ok, nmX4, by decide +kernel, by decide⟩
theorem fwX4_18 : FW RX4 18 4 1 false false .int := ⟨RX4, TX4, 7, tyX4, rfl, rfl, by decide, iwX4, gw_t2 96 rfl rfl, rfl, rfl, tyX4_ok, nmX4, by decide +kernel, by decide⟩
theorem fwX4_22 : FW RX4 22 4 2 false false .int := ⟨RX4, TX4, 7, tyX4, rfl, rfl, by decide, iwX4, gw_t2 98 rfl rfl, rfl, rfl, tyX4_ok, nmX4, by decide +kernel, by decide⟩
theorem fwX4_30 : FW RX4 30 4 3 true true (.object "HollowShire$Reader") := ⟨RX4, TX4, 7, tyX4, rfl, rfl, by decide, iwX4, gw_t2 100 rfl rfl, rfl, rfl, tyX4_ok, nmX4, by decide +kernel, by decide⟩
theorem fwX4_36 : FW RX4 36 4 4 true true (.array (.object "HollowShire$Text")) := ⟨RX4, TX4, 7, tyX4, rfl, rfl, by decide, iwX4, gw_t2 101 rfl rfl, rfl, rfl, tyX4_ok, nmX4, by decide +kernel, by decide⟩
theorem fwX4_40 : FW RX4 40 4 5 true true (.array .int) := ⟨RX4, TX4, 7, tyX4, rfl, rfl, by decide, iwX4, gw_t2 102 rfl rfl, rfl, rfl, tyX4_ok, nmX4, by decide +kernel, by decide⟩
theorem fwX4_44 : FW RX4 44 4 6 true true (.array .int) := ⟨RX4, TX4, 7, tyX4, rfl, rfl, by decide, iwX4, gw_t2 103 rfl rfl, rfl, rfl, tyX4_ok, nmX4, by decide +kernel, by decide⟩
theorem fwX4_70 : FW RX4 70 7 0 false false .int := ⟨RX7, TX7, 7, tyX7, rfl, rfl, by decide, iwX7, gw_t2 25 rfl rfl, rfl, rfl, tyX7_ok, nmX7, by decide +kernel, by decide⟩
theorem fwX4_73 : FW RX4 73 3 0 true true (.object "HollowShire$Text") := ⟨RX3, TX3, 5, tyX3, rfl, rfl, by decide, iwX3, gw_t2 75 rfl rfl, rfl, rfl, tyX3_ok, nmX3, by decide +kernel, by decide⟩
theorem fwX4_87 : FW RX4 87 2 5 true true (.array .int) := ⟨RX2, TX2, 16, tyX2, rfl, rfl, by decide, iwX2, gw_t1 82 rfl rfl, rfl, rfl, tyX2_ok, nmX2, by decide +kernel, by decide⟩
theorem fwX4_103 : FW RX4 103 2 8 true true (.array .int) := ⟨RX2, TX2, 16, tyX2, rfl, rfl, by decide, iwX2, gw_t1 88 rfl rfl, rfl, rfl, tyX2_ok, nmX2, by decide +kernel, by decide⟩
theorem fwX4_106 : FW RX4 106 8 2 true true (.array .int) := ⟨RX8, TX8, 3, tyX8, rfl, rfl, by decide, iwX8, gw_t2 66 rfl rfl, rfl, rfl, tyX8_ok, nmX8, by decide +kernel, by decide⟩
theorem fwX4_109 : FW RX4 109 8 1 true true (.array .int) := ⟨RX8, TX8, 3, tyX8, rfl, rfl, by decide, iwX8, gw_t2 63 rfl rfl, rfl, rfl, tyX8_ok, nmX8, by decide +kernel, by decide⟩
theorem fwX5_11 : FW RX5 11 5 0 false false .int := ⟨RX5, TX5, 3, tyX5, rfl, rfl, by decide, iwX5, gw_t2 126 rfl rfl, rfl, rfl, tyX5_ok, nmX5, by decide +kernel, by decide⟩
theorem fwX5_15 : FW RX5 15 5 1 false false .int := ⟨RX5, TX5, 3, tyX5, rfl, rfl, by decide, iwX5, gw_t2 128 rfl rfl, rfl, rfl, tyX5_ok, nmX5, by decide +kernel, by decide⟩
theorem fwX5_18 : FW RX5 18 5 2 true true (.array .int) := ⟨RX5, TX5, 3, tyX5, rfl, rfl, by decide, iwX5, gw_t2 131 rfl rfl, rfl, rfl, tyX5_ok, nmX5, by decide +kernel, by decide⟩
theorem fwX6_9 : FW RX6 9 6 0 false false .int := ⟨RX6, TX6, 7, tyX6, rfl, rfl, by decide, iwX6, gw_t1 142 rfl rfl, rfl, rfl, tyX6_ok, nmX6, by decide +kernel, by decide⟩
theorem fwX6_15 : FW RX6 15 6 1 true true (.array .int) := ⟨RX6, TX6, 7, tyX6, rfl, rfl, by decide, iwX6, gw_t1 144 rfl rfl, rfl, rfl, tyX6_ok, nmX6, by decide +kernel, by decide⟩
theorem fwX6_19 : FW RX6 19 6 2 true true (.array .int) := ⟨RX6, TX6, 7, tyX6, rfl, rfl, by decide, iwX6, gw_t1 146 rfl rfl, rfl, rfl, tyX6_ok, nmX6, by decide +kernel, by decide⟩
theorem fwX6_22 : FW RX6 22 6 3 true true (.array .int) := ⟨RX6, TX6, 7, tyX6, rfl, rfl, by decide, iwX6, gw_t1 148 rfl rfl, rfl, rfl, tyX6_ok, nmX6, by decide +kernel, by decide⟩
theorem fwX6_25 : FW RX6 25 6 4 true true (.array .int) := ⟨RX6, TX6, 7, tyX6, rfl, rfl, by decide, iwX6, gw_t1 150 rfl rfl, rfl, rfl, tyX6_ok, nmX6, by decide +kernel, by decide⟩
theorem fwX6_28 : FW RX6 28 6 5 true true (.array .int) := ⟨RX6, TX6, 7, tyX6, rfl, rfl, by decide, iwX6, gw_t1 152 rfl rfl, rfl, rfl, tyX6_ok, nmX6, by decide +kernel, by decide⟩
theorem fwX6_31 : FW RX6 31 6 6 true true (.array .int) := ⟨RX6, TX6, 7, tyX6, rfl, rfl, by decide, iwX6, gw_t1 154 rfl rfl, rfl, rfl, tyX6_ok, nmX6, by decide +kernel, by decide⟩
theorem fwX7_9 : FW RX7 9 7 0 false false .int := ⟨RX7, TX7, 7, tyX7, rfl, rfl, by decide, iwX7, gw_t2 24 rfl rfl, rfl, rfl, tyX7_ok, nmX7, by decide +kernel, by decide⟩
theorem fwX7_15 : FW RX7 15 7 1 false false .int := ⟨RX7, TX7, 7, tyX7, rfl, rfl, by decide, iwX7, gw_t2 27 rfl rfl, rfl, rfl, tyX7_ok, nmX7, by decide +kernel, by decide⟩
theorem fwX7_18 : FW RX7 18 7 2 true true (.array .int) := ⟨RX7, TX7, 7, tyX7, rfl, rfl, by decide, iwX7, gw_t2 28 rfl rfl, rfl, rfl, tyX7_ok, nmX7, by decide +kernel, by decide⟩
theorem fwX7_22 : FW RX7 22 7 3 true true (.array .int) := ⟨RX7, TX7, 7, tyX7, rfl, rfl, by decide, iwX7, gw_t2 29 rfl rfl, rfl, rfl, tyX7_ok, nmX7, by decide +kernel, by decide⟩
theorem fwX7_25 : FW RX7 25 7 4 true true (.array .int) := ⟨RX7, TX7, 7, tyX7, rfl, rfl, by decide, iwX7, gw_t2 30 rfl rfl, rfl, rfl, tyX7_ok, nmX7, by decide +kernel, by decide⟩
theorem fwX7_28 : FW RX7 28 7 5 true true (.array .int) := ⟨RX7, TX7, 7, tyX7, rfl, rfl, by decide, iwX7, gw_t2 31 rfl rfl, rfl, rfl, tyX7_ok, nmX7, by decide +kernel, by decide⟩
theorem fwX7_31 : FW RX7 31 7 6 true true (.array .int) := ⟨RX7, TX7, 7, tyX7, rfl, rfl, by decide, iwX7, gw_t2 32 rfl rfl, rfl, rfl, tyX7_ok, nmX7, by decide +kernel, by decide⟩
theorem fwX8_9 : FW RX8 9 8 0 false false .int := ⟨RX8, TX8, 3, tyX8, rfl, rfl, by decide, iwX8, gw_t2 60 rfl rfl, rfl, rfl, tyX8_ok, nmX8, by decide +kernel, by decide⟩
theorem fwX8_15 : FW RX8 15 8 1 true true (.array .int) := ⟨RX8, TX8, 3, tyX8, rfl, rfl, by decide, iwX8, gw_t2 62 rfl rfl, rfl, rfl, tyX8_ok, nmX8, by decide +kernel, by decide⟩
theorem fwX8_19 : FW RX8 19 8 2 true true (.array .int) := ⟨RX8, TX8, 3, tyX8, rfl, rfl, by decide, iwX8, gw_t2 64 rfl rfl, rfl, rfl, tyX8_ok, nmX8, by decide +kernel, by decide⟩
theorem fwX9_9 : FW RX9 9 9 0 false false .int := ⟨RX9, TX9, 4, tyX9, rfl, rfl, by decide, iwX9, gw_t1 180 rfl rfl, rfl, rfl, tyX9_ok, nmX9, by decide +kernel, by decide⟩
theorem fwX9_21 : FW RX9 21 9 1 true true (.array .int) := ⟨RX9, TX9, 4, tyX9, rfl, rfl, by decide, iwX9, gw_t1 183 rfl rfl, rfl, rfl, tyX9_ok, nmX9, by decide +kernel, by decide⟩
theorem fwX9_25 : FW RX9 25 9 2 true true (.array .int) := ⟨RX9, TX9, 4, tyX9, rfl, rfl, by decide, iwX9, gw_t1 186 rfl rfl, rfl, rfl, tyX9_ok, nmX9, by decide +kernel, by decide⟩
theorem fwX9_28 : FW RX9 28 9 3 true true (.array .int) := ⟨RX9, TX9, 4, tyX9, rfl, rfl, by decide, iwX9, gw_t1 188 rfl rfl, rfl, rfl, tyX9_ok, nmX9, by decide +kernel, by decide⟩
theorem fwX11_13 : FW RX11 13 11 0 false false .int := ⟨RX11, TX11, 77, tyX11, rfl, rfl, by decide, iwX11, gw_t5 86 rfl rfl, rfl, rfl, tyX11_ok, nmX11, by decide +kernel, by decide⟩
theorem fwX11_17 : FW RX11 17 11 1 false false .int := ⟨RX11, TX11, 77, tyX11, rfl, rfl, by decide, iwX11, gw_t5 87 rfl rfl, rfl, rfl, tyX11_ok, nmX11, by decide +kernel, by decide⟩
theorem fwX11_20 : FW RX11 20 11 2 false false .int := ⟨RX11, TX11, 77, tyX11, rfl, rfl, by decide, iwX11, gw_t5 88 rfl rfl, rfl, rfl, tyX11_ok, nmX11, by decide +kernel, by decide⟩
theorem fwX11_23 : FW RX11 23 11 3 false false .int := ⟨RX11, TX11, 77, tyX11, rfl, rfl, by decide, iwX11, gw_t5 89 rfl rfl, rfl, rfl, tyX11_ok, nmX11, by decide +kernel, by decide⟩
theorem fwX11_26 : FW RX11 26 11 4 false false .int := ⟨RX11, TX11, 77, tyX11, rfl, rfl, by decide, iwX11, gw_t5 90 rfl rfl, rfl, rfl, tyX11_ok, nmX11, by decide +kernel, by decide⟩
theorem fwX11_29 : FW RX11 29 11 5 true true (.array .int) := ⟨RX11, TX11, 77, tyX11, rfl, rfl, by decide, iwX11, gw_t5 91 rfl rfl, rfl, rfl, tyX11_ok, nmX11, by decide +kernel, by decide⟩
theorem fwX11_33 : FW RX11 33 11 6 true true (.array .int) := ⟨RX11, TX11, 77, tyX11, rfl, rfl, by decide, iwX11, gw_t5 92 rfl rfl, rfl, rfl, tyX11_ok, nmX11, by decide +kernel, by decide⟩
theorem fwX11_36 : FW RX11 36 11 7 true true (.array .int) := ⟨RX11, TX11, 77, tyX11, rfl, rfl, by decide, iwX11, gw_t5 93 rfl rfl, rfl, rfl, tyX11_ok, nmX11, by decide +kernel, by decide⟩
theorem fwX11_39 : FW RX11 39 11 8 true true (.array .int) := ⟨RX11, TX11, 77, tyX11, rfl, rfl, by decide, iwX11, gw_t5 94 rfl rfl, rfl, rfl, tyX11_ok, nmX11, by decide +kernel, by decide⟩
theorem fwX11_42 : FW RX11 42 11 9 true true (.array .int) := ⟨RX11, TX11, 77, tyX11, rfl, rfl, by decide, iwX11, gw_t5 95 rfl rfl, rfl, rfl, tyX11_ok, nmX11, by decide +kernel, by decide⟩
theorem fwX11_45 : FW RX11 45 11 10 true true (.array .int) := ⟨RX11, TX11, 77, tyX11, rfl, rfl, by decide, iwX11, gw_t5 96 rfl rfl, rfl, rfl, tyX11_ok, nmX11, by decide +kernel, by decide⟩
theorem fwX11_48 : FW RX11 48 11 11 true true (.array .int) := ⟨RX11, TX11, 77, tyX11, rfl, rfl, by decide, iwX11, gw_t5 97 rfl rfl, rfl, rfl, tyX11_ok, nmX11, by decide +kernel, by decide⟩
theorem fwX11_51 : FW RX11 51 11 12 true true (.array .int) := ⟨RX11, TX11, 77, tyX11, rfl, rfl, by decide, iwX11, gw_t5 98 rfl rfl, rfl, rfl, tyX11_ok, nmX11, by decide +kernel, by decide⟩
theorem fwX11_54 : FW RX11 54 11 13 true true (.array .int) := ⟨RX11, TX11, 77, tyX11, rfl, rfl, by decide, iwX11, gw_t5 99 rfl rfl, rfl, rfl, tyX11_ok, nmX11, by decide +kernel, by decide⟩
theorem fwX11_57 : FW RX11 57 11 14 true true (.array .int) := ⟨RX11, TX11, 77, tyX11, rfl, rfl, by decide, iwX11, gw_t5 100 rfl rfl, rfl, rfl, tyX11_ok, nmX11, by decide +kernel, by decide⟩
theorem fwX11_60 : FW RX11 60 11 15 true true (.array .int) := ⟨RX11, TX11, 77, tyX11, rfl, rfl, by decide, iwX11, gw_t5 101 rfl rfl, rfl, rfl, tyX11_ok, nmX11, by decide +kernel, by decide⟩
theorem fwX11_63 : FW RX11 63 11 16 true true (.array .int) := ⟨RX11, TX11, 77, tyX11, rfl, rfl, by decide, iwX11, gw_t5 102 rfl rfl, rfl, rfl, tyX11_ok, nmX11, by decide +kernel, by decide⟩
theorem fwX11_66 : FW RX11 66 11 17 true true (.array .int) := ⟨RX11, TX11, 77, tyX11, rfl, rfl, by decide, iwX11, gw_t5 103 rfl rfl, rfl, rfl, tyX11_ok, nmX11, by decide +kernel, by decide⟩
theorem fwX11_69 : FW RX11 69 11 18 true true (.array .int) := ⟨RX11, TX11, 77, tyX11, rfl, rfl, by decide, iwX11, gw_t5 104 rfl rfl, rfl, rfl, tyX11_ok, nmX11, by decide +kernel, by decide⟩
theorem fwX11_72 : FW RX11 72 11 19 true true (.array .int) := ⟨RX11, TX11, 77, tyX11, rfl, rfl, by decide, iwX11, gw_t5 105 rfl rfl, rfl, rfl, tyX11_ok, nmX11, by decide +kernel, by decide⟩
theorem fwX11_75 : FW RX11 75 11 20 true true (.array .boolean) := ⟨RX11, TX11, 77, tyX11, rfl, rfl, by decide, iwX11, gw_t5 106 rfl rfl, rfl, rfl, tyX11_ok, nmX11, by decide +kernel, by decide⟩
theorem fwX11_79 : FW RX11 79 11 21 false false .int := ⟨RX11, TX11, 77, tyX11, rfl, rfl, by decide, iwX11, gw_t5 107 rfl rfl, rfl, rfl, tyX11_ok, nmX11, by decide +kernel, by decide⟩
theorem fwX11_82 : FW RX11 82 11 22 true true (.array .int) := ⟨RX11, TX11, 77, tyX11, rfl, rfl, by decide, iwX11, gw_t5 108 rfl rfl, rfl, rfl, tyX11_ok, nmX11, by decide +kernel, by decide⟩
theorem fwX11_85 : FW RX11 85 11 23 true true (.array .int) := ⟨RX11, TX11, 77, tyX11, rfl, rfl, by decide, iwX11, gw_t5 109 rfl rfl, rfl, rfl, tyX11_ok, nmX11, by decide +kernel, by decide⟩
theorem fwX11_88 : FW RX11 88 11 24 true true (.array .int) := ⟨RX11, TX11, 77, tyX11, rfl, rfl, by decide, iwX11, gw_t5 110 rfl rfl, rfl, rfl, tyX11_ok, nmX11, by decide +kernel, by decide⟩
theorem fwX11_91 : FW RX11 91 11 25 true true (.array .int) := ⟨RX11, TX11, 77, tyX11, rfl, rfl, by decide, iwX11, gw_t5 111 rfl rfl, rfl, rfl, tyX11_ok, nmX11, by decide +kernel, by decide⟩
theorem fwX11_94 : FW RX11 94 11 26 true true (.array .int) := ⟨RX11, TX11, 77, tyX11, rfl, rfl, by decide, iwX11, gw_t5 112 rfl rfl, rfl, rfl, tyX11_ok, nmX11, by decide +kernel, by decide⟩
theorem fwX11_97 : FW RX11 97 11 27 true true (.array .int) := ⟨RX11, TX11, 77, tyX11, rfl, rfl, by decide, iwX11, gw_t5 113 rfl rfl, rfl, rfl, tyX11_ok, nmX11, by decide +kernel, by decide⟩
theorem fwX11_100 : FW RX11 100 11 28 false false .int := ⟨RX11, TX11, 77, tyX11, rfl, rfl, by decide, iwX11, gw_t5 114 rfl rfl, rfl, rfl, tyX11_ok, nmX11, by decide +kernel, by decide⟩
theorem fwX11_103 : FW RX11 103 11 29 false false .int := ⟨RX11, TX11, 77, tyX11, rfl, rfl, by decide, iwX11, gw_t5 115 rfl rfl, rfl, rfl, tyX11_ok, nmX11, by decide +kernel, by decide⟩
theorem fwX11_106 : FW RX11 106 11 30 false false .int := ⟨RX11, TX11, 77, tyX11, rfl, rfl, by decide, iwX11, gw_t5 116 rfl rfl, rfl, rfl, tyX11_ok, nmX11, by decide +kernel, by decide⟩
theorem fwX11_109 : FW RX11 109 11 31 true true (.array .int) := ⟨RX11, TX11, 77, tyX11, rfl, rfl, by decide, iwX11, gw_t5 117 rfl rfl, rfl, rfl, tyX11_ok, nmX11, by decide +kernel, by decide⟩
theorem fwX11_112 : FW RX11 112 11 32 true true (.array .int) := ⟨RX11, TX11, 77, tyX11, rfl, rfl, by decide, iwX11, gw_t5 118 rfl rfl, rfl, rfl, tyX11_ok, nmX11, by decide +kernel, by decide⟩
theorem fwX11_115 : FW RX11 115 11 33 true true (.array .int) := ⟨RX11, TX11, 77, tyX11, rfl, rfl, by decide, iwX11, gw_t5 119 rfl rfl, rfl, rfl, tyX11_ok, nmX11, by decide +kernel, by decide⟩
theorem fwX11_118 : FW RX11 118 11 34 false false .int := ⟨RX11, TX11, 77, tyX11, rfl, rfl, by decide, iwX11, gw_t5 120 rfl rfl, rfl, rfl, tyX11_ok, nmX11, by decide +kernel, by decide⟩
theorem fwX11_121 : FW RX11 121 11 35 false false .int := ⟨RX11, TX11, 77, tyX11, rfl, rfl, by decide, iwX11, gw_t5 121 rfl rfl, rfl, rfl, tyX11_ok, nmX11, by decide +kernel, by decide⟩
theorem fwX11_124 : FW RX11 124 11 36 false false .boolean := ⟨RX11, TX11, 77, tyX11, rfl, rfl, by decide, iwX11, gw_t5 122 rfl rfl, rfl, rfl, tyX11_ok, nmX11, by decide +kernel, by decide⟩
theorem fwX11_128 : FW RX11 128 11 37 true true (.array .int) := ⟨RX11, TX11, 77, tyX11, rfl, rfl, by decide, iwX11, gw_t5 123 rfl rfl, rfl, rfl, tyX11_ok, nmX11, by decide +kernel, by decide⟩
theorem fwX11_131 : FW RX11 131 11 38 true true (.array .int) := ⟨RX11, TX11, 77, tyX11, rfl, rfl, by decide, iwX11, gw_t5 124 rfl rfl, rfl, rfl, tyX11_ok, nmX11, by decide +kernel, by decide⟩
theorem fwX11_134 : FW RX11 134 11 39 true true (.array .int) := ⟨RX11, TX11, 77, tyX11, rfl, rfl, by decide, iwX11, gw_t5 125 rfl rfl, rfl, rfl, tyX11_ok, nmX11, by decide +kernel, by decide⟩
theorem fwX11_137 : FW RX11 137 11 40 true true (.array .int) := ⟨RX11, TX11, 77, tyX11, rfl, rfl, by decide, iwX11, gw_t5 126 rfl rfl, rfl, rfl, tyX11_ok, nmX11, by decide +kernel, by decide⟩
theorem fwX11_140 : FW RX11 140 11 41 true true (.array .int) := ⟨RX11, TX11, 77, tyX11, rfl, rfl, by decide, iwX11, gw_t5 127 rfl rfl, rfl, rfl, tyX11_ok, nmX11, by decide +kernel, by decide⟩
theorem fwX11_143 : FW RX11 143 11 42 true true (.array .int) := ⟨RX11, TX11, 77, tyX11, rfl, rfl, by decide, iwX11, gw_t5 128 rfl rfl, rfl, rfl, tyX11_ok, nmX11, by decide +kernel, by decide⟩
theorem fwX11_146 : FW RX11 146 11 43 true true (.array .int) := ⟨RX11, TX11, 77, tyX11, rfl, rfl, by decide, iwX11, gw_t5 129 rfl rfl, rfl, rfl, tyX11_ok, nmX11, by decide +kernel, by decide⟩
theorem fwX11_149 : FW RX11 149 11 44 true true (.array .int) := ⟨RX11, TX11, 77, tyX11, rfl, rfl, by decide, iwX11, gw_t5 130 rfl rfl, rfl, rfl, tyX11_ok, nmX11, by decide +kernel, by decide⟩
theorem fwX11_152 : FW RX11 152 11 45 false false .int := ⟨RX11, TX11, 77, tyX11, rfl, rfl, by decide, iwX11, gw_t5 131 rfl rfl, rfl, rfl, tyX11_ok, nmX11, by decide +kernel, by decide⟩
theorem fwX11_155 : FW RX11 155 11 46 false false .int := ⟨RX11, TX11, 77, tyX11, rfl, rfl, by decide, iwX11, gw_t5 132 rfl rfl, rfl, rfl, tyX11_ok, nmX11, by decide +kernel, by decide⟩
theorem fwX11_158 : FW RX11 158 11 47 false false .int := ⟨RX11, TX11, 77, tyX11, rfl, rfl, by decide, iwX11, gw_t5 133 rfl rfl, rfl, rfl, tyX11_ok, nmX11, by decide +kernel, by decide⟩
theorem fwX11_161 : FW RX11 161 11 48 true true (.array .int) := ⟨RX11, TX11, 77, tyX11, rfl, rfl, by decide, iwX11, gw_t5 134 rfl rfl, rfl, rfl, tyX11_ok, nmX11, by decide +kernel, by decide⟩
theorem fwX11_164 : FW RX11 164 11 49 true true (.array .int) := ⟨RX11, TX11, 77, tyX11, rfl, rfl, by decide, iwX11, gw_t5 135 rfl rfl, rfl, rfl, tyX11_ok, nmX11, by decide +kernel, by decide⟩
theorem fwX11_167 : FW RX11 167 11 50 false false .int := ⟨RX11, TX11, 77, tyX11, rfl, rfl, by decide, iwX11, gw_t5 136 rfl rfl, rfl, rfl, tyX11_ok, nmX11, by decide +kernel, by decide⟩
theorem fwX11_170 : FW RX11 170 11 51 false false .int := ⟨RX11, TX11, 77, tyX11, rfl, rfl, by decide, iwX11, gw_t5 137 rfl rfl, rfl, rfl, tyX11_ok, nmX11, by decide +kernel, by decide⟩
theorem fwX11_173 : FW RX11 173 11 52 false false .int := ⟨RX11, TX11, 77, tyX11, rfl, rfl, by decide, iwX11, gw_t5 138 rfl rfl, rfl, rfl, tyX11_ok, nmX11, by decide +kernel, by decide⟩
theorem fwX11_176 : FW RX11 176 11 53 false false .int := ⟨RX11, TX11, 77, tyX11, rfl, rfl, by decide, iwX11, gw_t5 139 rfl rfl, rfl, rfl, tyX11_ok, nmX11, by decide +kernel, by decide⟩
theorem fwX11_179 : FW RX11 179 11 54 false false .int := ⟨RX11, TX11, 77, tyX11, rfl, rfl, by decide, iwX11, gw_t5 140 rfl rfl, rfl, rfl, tyX11_ok, nmX11, by decide +kernel, by decide⟩
theorem fwX11_182 : FW RX11 182 11 55 false false .int := ⟨RX11, TX11, 77, tyX11, rfl, rfl, by decide, iwX11, gw_t5 141 rfl rfl, rfl, rfl, tyX11_ok, nmX11, by decide +kernel, by decide⟩
theorem fwX11_185 : FW RX11 185 11 56 true true (.array .int) := ⟨RX11, TX11, 77, tyX11, rfl, rfl, by decide, iwX11, gw_t5 142 rfl rfl, rfl, rfl, tyX11_ok, nmX11, by decide +kernel, by decide⟩
theorem fwX11_188 : FW RX11 188 11 57 true true (.array .int) := ⟨RX11, TX11, 77, tyX11, rfl, rfl, by decide, iwX11, gw_t5 143 rfl rfl, rfl, rfl, tyX11_ok, nmX11, by decide +kernel, by decide⟩
theorem fwX11_191 : FW RX11 191 11 58 true true (.array .int) := ⟨RX11, TX11, 77, tyX11, rfl, rfl, by decide, iwX11, gw_t5 144 rfl rfl, rfl, rfl, tyX11_ok, nmX11, by decide +kernel, by decide⟩
theorem fwX11_194 : FW RX11 194 11 59 false false .int := ⟨RX11, TX11, 77, tyX11, rfl, rfl, by decide, iwX11, gw_t5 145 rfl rfl, rfl, rfl, tyX11_ok, nmX11, by decide +kernel, by decide⟩
theorem fwX11_197 : FW RX11 197 11 60 false false .int := ⟨RX11, TX11, 77, tyX11, rfl, rfl, by decide, iwX11, gw_t5 146 rfl rfl, rfl, rfl, tyX11_ok, nmX11, by decide +kernel, by decide⟩
theorem fwX11_200 : FW RX11 200 11 61 false false .int := ⟨RX11, TX11, 77, tyX11, rfl, rfl, by decide, iwX11, gw_t5 147 rfl rfl, rfl, rfl, tyX11_ok, nmX11, by decide +kernel, by decide⟩
theorem fwX11_203 : FW RX11 203 11 62 true true (.array .int) := ⟨RX11, TX11, 77, tyX11, rfl, rfl, by decide, iwX11, gw_t5 148 rfl rfl, rfl, rfl, tyX11_ok, nmX11, by decide +kernel, by decide⟩
theorem fwX11_206 : FW RX11 206 11 63 false false .int := ⟨RX11, TX11, 77, tyX11, rfl, rfl, by decide, iwX11, gw_t5 149 rfl rfl, rfl, rfl, tyX11_ok, nmX11, by decide +kernel, by decide⟩
theorem fwX11_209 : FW RX11 209 11 64 true true (.array .int) := ⟨RX11, TX11, 77, tyX11, rfl, rfl, by decide, iwX11, gw_t5 150 rfl rfl, rfl, rfl, tyX11_ok, nmX11, by decide +kernel, by decide⟩
theorem fwX11_212 : FW RX11 212 11 65 false false .int := ⟨RX11, TX11, 77, tyX11, rfl, rfl, by decide, iwX11, gw_t5 151 rfl rfl, rfl, rfl, tyX11_ok, nmX11, by decide +kernel, by decide⟩
theorem fwX11_215 : FW RX11 215 11 66 true true (.array .int) := ⟨RX11, TX11, 77, tyX11, rfl, rfl, by decide, iwX11, gw_t5 152 rfl rfl, rfl, rfl, tyX11_ok, nmX11, by decide +kernel, by decide⟩
theorem fwX11_218 : FW RX11 218 11 67 true true (.array .int) := ⟨RX11, TX11, 77, tyX11, rfl, rfl, by decide, iwX11, gw_t5 153 rfl rfl, rfl, rfl, tyX11_ok, nmX11, by decide +kernel, by decide⟩
theorem fwX11_221 : FW RX11 221 11 68 true true (.array .int) := ⟨RX11, TX11, 77, tyX11, rfl, rfl, by decide, iwX11, gw_t5 154 rfl rfl, rfl, rfl, tyX11_ok, nmX11, by decide +kernel, by decide⟩
theorem fwX11_224 : FW RX11 224 11 69 false false .int := ⟨RX11, TX11, 77, tyX11, rfl, rfl, by decide, iwX11, gw_t5 155 rfl rfl, rfl, rfl, tyX11_ok, nmX11, by decide +kernel, by decide⟩
theorem fwX11_227 : FW RX11 227 11 70 false false .int := ⟨RX11, TX11, 77, tyX11, rfl, rfl, by decide, iwX11, gw_t5 156 rfl rfl, rfl, rfl, tyX11_ok, nmX11, by decide +kernel, by decide⟩
theorem fwX11_230 : FW RX11 230 11 71 false false .boolean := ⟨RX11, TX11, 77, tyX11, rfl, rfl, by decide, iwX11, gw_t5 157 rfl rfl, rfl, rfl, tyX11_ok, nmX11, by decide +kernel, by decide⟩
theorem fwX11_233 : FW RX11 233 11 72 false false .int := ⟨RX11, TX11, 77, tyX11, rfl, rfl, by decide, iwX11, gw_t5 158 rfl rfl, rfl, rfl, tyX11_ok, nmX11, by decide +kernel, by decide⟩
theorem fwX11_236 : FW RX11 236 11 73 true true (.array .int) := ⟨RX11, TX11, 77, tyX11, rfl, rfl, by decide, iwX11, gw_t5 159 rfl rfl, rfl, rfl, tyX11_ok, nmX11, by decide +kernel, by decide⟩
theorem fwX11_239 : FW RX11 239 11 74 true true (.array .int) := ⟨RX11, TX11, 77, tyX11, rfl, rfl, by decide, iwX11, gw_t5 160 rfl rfl, rfl, rfl, tyX11_ok, nmX11, by decide +kernel, by decide⟩
theorem fwX11_242 : FW RX11 242 11 75 true true (.array .int) := ⟨RX11, TX11, 77, tyX11, rfl, rfl, by decide, iwX11, gw_t5 161 rfl rfl, rfl, rfl, tyX11_ok, nmX11, by decide +kernel, by decide⟩
theorem fwX11_245 : FW RX11 245 11 76 true true (.array .int) := ⟨RX11, TX11, 77, tyX11, rfl, rfl, by decide, iwX11, gw_t5 162 rfl rfl, rfl, rfl, tyX11_ok, nmX11, by decide +kernel, by decide⟩
def mX0_init : Mi := (yX0_init, cX0_init, 1, none)
theorem mvX0_init : MV mX0_init 0 := ⟨gw_t1 32 rfl rfl, gw_t1 2 rfl rfl, ⟨by decide, by decide⟩, by decide +kernel, by decide⟩
def mX0_addHouse : Mi := (yX0_addHouse, cX0_addHouse, 4, (some .int))
theorem mvX0_addHouse : MV mX0_addHouse 3 := ⟨gw_t3 142 rfl rfl, gw_t1 2 rfl rfl, ⟨by decide, by decide⟩, by decide +kernel, by decide⟩
theorem miX0_addHouse : MVi mX0_addHouse := ⟨gw_t3 140 rfl rfl, gw_t3 141 rfl rfl⟩
def mX0_addPump : Mi := (yX0_addPump, cX0_addPump, 2, (some .int))
theorem mvX0_addPump : MV mX0_addPump 1 := ⟨gw_t3 150 rfl rfl, gw_t1 2 rfl rfl, ⟨by decide, by decide⟩, by decide +kernel, by decide⟩
theorem miX0_addPump : MVi mX0_addPump := ⟨gw_t3 148 rfl rfl, gw_t3 149 rfl rfl⟩
def mX1_init : Mi := (yX1_init, cX1_init, 1, none)
theorem mvX1_init : MV mX1_init 0 := ⟨gw_t1 204 rfl rfl, gw_t1 7 rfl rfl, ⟨by decide, by decide⟩, by decide +kernel, by decide⟩
def mX1_search : Mi := (yX1_search, cX1_search, 7, none)
theorem mvX1_search : MV mX1_search 4 := ⟨gw_t4 71 rfl rfl, gw_t1 7 rfl rfl, ⟨by decide, by decide⟩, by decide +kernel, by decide⟩
theorem miX1_search : MVi mX1_search := ⟨gw_t4 69 rfl rfl, gw_t4 70 rfl rfl⟩
def mX1_gatherNeeds : Mi := (yX1_gatherNeeds, cX1_gatherNeeds, 7, none)
theorem mvX1_gatherNeeds : MV mX1_gatherNeeds 3 := ⟨gw_t4 78 rfl rfl, gw_t1 7 rfl rfl, ⟨by decide, by decide⟩, by decide +kernel, by decide⟩
theorem miX1_gatherNeeds : MVi mX1_gatherNeeds := ⟨gw_t4 77 rfl rfl, gw_p2 9 rfl rfl⟩
def mX1_takeSizes : Mi := (yX1_takeSizes, cX1_takeSizes, 4, (some .boolean))
theorem mvX1_takeSizes : MV mX1_takeSizes 1 := ⟨gw_t4 88 rfl rfl, gw_t1 7 rfl rfl, ⟨by decide, by decide⟩, by decide +kernel, by decide⟩
theorem miX1_takeSizes : MVi mX1_takeSizes := ⟨gw_t4 87 rfl rfl, gw_p2 10 rfl rfl⟩
def mX1_meetsNeeds : Mi := (yX1_meetsNeeds, cX1_meetsNeeds, 4, (some .boolean))
theorem mvX1_meetsNeeds : MV mX1_meetsNeeds 0 := ⟨gw_t4 92 rfl rfl, gw_t1 7 rfl rfl, ⟨by decide, by decide⟩, by decide +kernel, by decide⟩
theorem miX1_meetsNeeds : MVi mX1_meetsNeeds := ⟨gw_t4 91 rfl rfl, gw_p2 11 rfl rfl⟩
def mX1_weighUp : Mi := (yX1_weighUp, cX1_weighUp, 4, none)
theorem mvX1_weighUp : MV mX1_weighUp 0 := ⟨gw_t4 96 rfl rfl, gw_t1 7 rfl rfl, ⟨by decide, by decide⟩, by decide +kernel, by decide⟩
theorem miX1_weighUp : MVi mX1_weighUp := ⟨gw_t4 95 rfl rfl, gw_p2 12 rfl rfl⟩
def mX2_init : Mi := (yX2_init, cX2_init, 3, none)
theorem mvX2_init : MV mX2_init 1 := ⟨gw_t1 69 rfl rfl, gw_t1 3 rfl rfl, ⟨by decide, by decide⟩, by decide +kernel, by decide⟩
def mX2_become : Mi := (yX2_become, cX2_become, 2, none)
theorem mvX2_become : MV mX2_become 1 := ⟨gw_t4 239 rfl rfl, gw_t1 3 rfl rfl, ⟨by decide, by decide⟩, by decide +kernel, by decide⟩
theorem miX2_become : MVi mX2_become := ⟨gw_t4 237 rfl rfl, gw_t4 238 rfl rfl⟩
def mX2_hasFallen : Mi := (yX2_hasFallen, cX2_hasFallen, 2, (some .boolean))
theorem mvX2_hasFallen : MV mX2_hasFallen 1 := ⟨gw_t3 133 rfl rfl, gw_t1 3 rfl rfl, ⟨by decide, by decide⟩, by decide +kernel, by decide⟩
theorem miX2_hasFallen : MVi mX2_hasFallen := ⟨gw_t3 131 rfl rfl, gw_t3 132 rfl rfl⟩
def mX2_peopleAt : Mi := (yX2_peopleAt, cX2_peopleAt, 4, (some .int))
theorem mvX2_peopleAt : MV mX2_peopleAt 1 := ⟨gw_t4 137 rfl rfl, gw_t1 3 rfl rfl, ⟨by decide, by decide⟩, by decide +kernel, by decide⟩
theorem miX2_peopleAt : MVi mX2_peopleAt := ⟨gw_t4 135 rfl rfl, gw_t4 136 rfl rfl⟩
def mX2_pumpsNear : Mi := (yX2_pumpsNear, cX2_pumpsNear, 4, (some .int))
theorem mvX2_pumpsNear : MV mX2_pumpsNear 1 := ⟨gw_t4 141 rfl rfl, gw_t1 3 rfl rfl, ⟨by decide, by decide⟩, by decide +kernel, by decide⟩
theorem miX2_pumpsNear : MVi mX2_pumpsNear := ⟨gw_t4 139 rfl rfl, gw_t4 140 rfl rfl⟩
def mX2_harmOf : Mi := (yX2_harmOf, cX2_harmOf, 2, (some .int))
theorem mvX2_harmOf : MV mX2_harmOf 1 := ⟨gw_t3 221 rfl rfl, gw_t1 3 rfl rfl, ⟨by decide, by decide⟩, by decide +kernel, by decide⟩
theorem miX2_harmOf : MVi mX2_harmOf := ⟨gw_t3 219 rfl rfl, gw_t3 220 rfl rfl⟩
def mX2_passMonths : Mi := (yX2_passMonths, cX2_passMonths, 3, none)
theorem mvX2_passMonths : MV mX2_passMonths 1 := ⟨gw_t3 178 rfl rfl, gw_t1 3 rfl rfl, ⟨by decide, by decide⟩, by decide +kernel, by decide⟩
theorem miX2_passMonths : MVi mX2_passMonths := ⟨gw_t3 176 rfl rfl, gw_t3 177 rfl rfl⟩
def mX2_rainDown : Mi := (yX2_rainDown, cX2_rainDown, 2, none)
theorem mvX2_rainDown : MV mX2_rainDown 0 := ⟨gw_t3 182 rfl rfl, gw_t1 3 rfl rfl, ⟨by decide, by decide⟩, by decide +kernel, by decide⟩
theorem miX2_rainDown : MVi mX2_rainDown := ⟨gw_t3 181 rfl rfl, gw_p1 15 rfl rfl⟩
def mX2_pumpOut : Mi := (yX2_pumpOut, cX2_pumpOut, 4, none)
theorem mvX2_pumpOut : MV mX2_pumpOut 0 := ⟨gw_t3 189 rfl rfl, gw_t1 3 rfl rfl, ⟨by decide, by decide⟩, by decide +kernel, by decide⟩
theorem miX2_pumpOut : MVi mX2_pumpOut := ⟨gw_t3 188 rfl rfl, gw_p2 0 rfl rfl⟩
def mX2_flow : Mi := (yX2_flow, cX2_flow, 2, none)
theorem mvX2_flow : MV mX2_flow 0 := ⟨gw_t3 200 rfl rfl, gw_t1 3 rfl rfl, ⟨by decide, by decide⟩, by decide +kernel, by decide⟩
theorem miX2_flow : MVi mX2_flow := ⟨gw_t3 199 rfl rfl, gw_p2 2 rfl rfl⟩
def mX2_go : Mi := (yX2_go, cX2_go, 4, none)
theorem mvX2_go : MV mX2_go 3 := ⟨gw_t3 204 rfl rfl, gw_t1 3 rfl rfl, ⟨by decide, by decide⟩, by decide +kernel, by decide⟩
theorem miX2_go : MVi mX2_go := ⟨gw_t3 203 rfl rfl, gw_p2 3 rfl rfl⟩
def mX2_solve : Mi := (yX2_solve, cX2_solve, 3, none)
theorem mvX2_solve : MV mX2_solve 2 := ⟨gw_t3 193 rfl rfl, gw_t1 3 rfl rfl, ⟨by decide, by decide⟩, by decide +kernel, by decide⟩
theorem miX2_solve : MVi mX2_solve := ⟨gw_t3 192 rfl rfl, gw_p2 1 rfl rfl⟩
def mX2_letFall : Mi := (yX2_letFall, cX2_letFall, 2, none)
theorem mvX2_letFall : MV mX2_letFall 0 := ⟨gw_t3 211 rfl rfl, gw_t1 3 rfl rfl, ⟨by decide, by decide⟩, by decide +kernel, by decide⟩
theorem miX2_letFall : MVi mX2_letFall := ⟨gw_t3 210 rfl rfl, gw_p2 4 rfl rfl⟩
def mX2_takeHouses : Mi := (yX2_takeHouses, cX2_takeHouses, 3, none)
theorem mvX2_takeHouses : MV mX2_takeHouses 1 := ⟨gw_t3 217 rfl rfl, gw_t1 3 rfl rfl, ⟨by decide, by decide⟩, by decide +kernel, by decide⟩
theorem miX2_takeHouses : MVi mX2_takeHouses := ⟨gw_t3 216 rfl rfl, gw_p2 5 rfl rfl⟩
def mX3_init : Mi := (yX3_init, cX3_init, 2, none)
theorem mvX3_init : MV mX3_init 1 := ⟨gw_t2 52 rfl rfl, gw_t1 10 rfl rfl, ⟨by decide, by decide⟩, by decide +kernel, by decide⟩
def mX3_read : Mi := (yX3_read, cX3_read, 2, (some .int))
theorem mvX3_read : MV mX3_read 0 := ⟨gw_t3 16 rfl rfl, gw_t1 10 rfl rfl, ⟨by decide, by decide⟩, by decide +kernel, by decide⟩
theorem miX3_read : MVi mX3_read := ⟨gw_t3 14 rfl rfl, gw_t3 15 rfl rfl⟩
def mX3_readOr : Mi := (yX3_readOr, cX3_readOr, 3, none)
theorem mvX3_readOr : MV mX3_readOr 1 := ⟨gw_t3 40 rfl rfl, gw_t1 10 rfl rfl, ⟨by decide, by decide⟩, by decide +kernel, by decide⟩
theorem miX3_readOr : MVi mX3_readOr := ⟨gw_t3 39 rfl rfl, gw_p1 7 rfl rfl⟩
def mX3_readAnd : Mi := (yX3_readAnd, cX3_readAnd, 3, none)
theorem mvX3_readAnd : MV mX3_readAnd 1 := ⟨gw_t3 44 rfl rfl, gw_t1 10 rfl rfl, ⟨by decide, by decide⟩, by decide +kernel, by decide⟩
theorem miX3_readAnd : MVi mX3_readAnd := ⟨gw_t3 43 rfl rfl, gw_p1 8 rfl rfl⟩
def mX3_readNot : Mi := (yX3_readNot, cX3_readNot, 3, none)
theorem mvX3_readNot : MV mX3_readNot 1 := ⟨gw_t3 48 rfl rfl, gw_t1 10 rfl rfl, ⟨by decide, by decide⟩, by decide +kernel, by decide⟩
theorem miX3_readNot : MVi mX3_readNot := ⟨gw_t3 47 rfl rfl, gw_p1 9 rfl rfl⟩
def mX3_readSum : Mi := (yX3_readSum, cX3_readSum, 4, none)
theorem mvX3_readSum : MV mX3_readSum 1 := ⟨gw_t3 56 rfl rfl, gw_t1 10 rfl rfl, ⟨by decide, by decide⟩, by decide +kernel, by decide⟩
theorem miX3_readSum : MVi mX3_readSum := ⟨gw_t3 55 rfl rfl, gw_p1 10 rfl rfl⟩
def mX3_readTerm : Mi := (yX3_readTerm, cX3_readTerm, 3, none)
theorem mvX3_readTerm : MV mX3_readTerm 1 := ⟨gw_t3 60 rfl rfl, gw_t1 10 rfl rfl, ⟨by decide, by decide⟩, by decide +kernel, by decide⟩
theorem miX3_readTerm : MVi mX3_readTerm := ⟨gw_t3 59 rfl rfl, gw_p1 11 rfl rfl⟩
def mX3_readOne : Mi := (yX3_readOne, cX3_readOne, 2, none)
theorem mvX3_readOne : MV mX3_readOne 1 := ⟨gw_t3 64 rfl rfl, gw_t1 10 rfl rfl, ⟨by decide, by decide⟩, by decide +kernel, by decide⟩
theorem miX3_readOne : MVi mX3_readOne := ⟨gw_t3 63 rfl rfl, gw_p1 12 rfl rfl⟩
def mX3_expect : Mi := (yX3_expect, cX3_expect, 2, none)
theorem mvX3_expect : MV mX3_expect 1 := ⟨gw_t3 24 rfl rfl, gw_t1 10 rfl rfl, ⟨by decide, by decide⟩, by decide +kernel, by decide⟩
theorem miX3_expect : MVi mX3_expect := ⟨gw_t3 23 rfl rfl, gw_p1 4 rfl rfl⟩
def mX3_advance : Mi := (yX3_advance, cX3_advance, 1, none)
theorem mvX3_advance : MV mX3_advance 0 := ⟨gw_t3 28 rfl rfl, gw_t1 10 rfl rfl, ⟨by decide, by decide⟩, by decide +kernel, by decide⟩
theorem miX3_advance : MVi mX3_advance := ⟨gw_t3 27 rfl rfl, gw_p1 5 rfl rfl⟩
def mX3_refuse : Mi := (yX3_refuse, cX3_refuse, 1, none)
theorem mvX3_refuse : MV mX3_refuse 0 := ⟨gw_t3 32 rfl rfl, gw_t1 10 rfl rfl, ⟨by decide, by decide⟩, by decide +kernel, by decide⟩
theorem miX3_refuse : MVi mX3_refuse := ⟨gw_t3 31 rfl rfl, gw_p1 6 rfl rfl⟩
def mX4_init : Mi := (yX4_init, cX4_init, 2, none)
theorem mvX4_init : MV mX4_init 0 := ⟨gw_t2 16 rfl rfl, gw_t1 8 rfl rfl, ⟨by decide, by decide⟩, by decide +kernel, by decide⟩
def mX4_feedFirstText : Mi := (yX4_feedFirstText, cX4_feedFirstText, 2, none)
theorem mvX4_feedFirstText : MV mX4_feedFirstText 0 := ⟨gw_t2 144 rfl rfl, gw_t1 8 rfl rfl, ⟨by decide, by decide⟩, by decide +kernel, by decide⟩
theorem miX4_feedFirstText : MVi mX4_feedFirstText := ⟨gw_t2 142 rfl rfl, gw_t2 143 rfl rfl⟩
def mX4_takeTape : Mi := (yX4_takeTape, cX4_takeTape, 2, (some .int))
theorem mvX4_takeTape : MV mX4_takeTape 0 := ⟨gw_t2 201 rfl rfl, gw_t1 8 rfl rfl, ⟨by decide, by decide⟩, by decide +kernel, by decide⟩
theorem miX4_takeTape : MVi mX4_takeTape := ⟨gw_t2 199 rfl rfl, gw_t2 200 rfl rfl⟩
def mX4_tellSpan : Mi := (yX4_tellSpan, cX4_tellSpan, 3, none)
theorem mvX4_tellSpan : MV mX4_tellSpan 2 := ⟨gw_t4 128 rfl rfl, gw_t1 8 rfl rfl, ⟨by decide, by decide⟩, by decide +kernel, by decide⟩
theorem miX4_tellSpan : MVi mX4_tellSpan := ⟨gw_t4 126 rfl rfl, gw_t4 127 rfl rfl⟩
def mX4_tellGround : Mi := (yX4_tellGround, cX4_tellGround, 4, none)
theorem mvX4_tellGround : MV mX4_tellGround 3 := ⟨gw_t4 133 rfl rfl, gw_t1 8 rfl rfl, ⟨by decide, by decide⟩, by decide +kernel, by decide⟩
theorem miX4_tellGround : MVi mX4_tellGround := ⟨gw_t4 131 rfl rfl, gw_t4 132 rfl rfl⟩
def mX4_value : Mi := (yX4_value, cX4_value, 6, (some .int))
theorem mvX4_value : MV mX4_value 1 := ⟨gw_t4 147 rfl rfl, gw_t1 8 rfl rfl, ⟨by decide, by decide⟩, by decide +kernel, by decide⟩
theorem miX4_value : MVi mX4_value := ⟨gw_t4 145 rfl rfl, gw_t4 146 rfl rfl⟩
def mX4_joined : Mi := (yX4_joined, cX4_joined, 3, (some .int))
theorem mvX4_joined : MV mX4_joined 3 := ⟨gw_t4 150 rfl rfl, gw_t1 8 rfl rfl, ⟨by decide, by decide⟩, by decide +kernel, by decide⟩
theorem msX4_joined : Cond.static mX4_joined.1 ∈ gw := gw_t4 149 rfl rfl
def mX5_init : Mi := (yX5_init, cX5_init, 1, none)
theorem mvX5_init : MV mX5_init 0 := ⟨gw_t2 124 rfl rfl, gw_t1 12 rfl rfl, ⟨by decide, by decide⟩, by decide +kernel, by decide⟩
def mX5_isMissing : Mi := (yX5_isMissing, cX5_isMissing, 1, (some .boolean))
theorem mvX5_isMissing : MV mX5_isMissing 0 := ⟨gw_t4 64 rfl rfl, gw_t1 12 rfl rfl, ⟨by decide, by decide⟩, by decide +kernel, by decide⟩
theorem miX5_isMissing : MVi mX5_isMissing := ⟨gw_t4 62 rfl rfl, gw_t4 63 rfl rfl⟩
def mX5_has : Mi := (yX5_has, cX5_has, 2, (some .boolean))
theorem mvX5_has : MV mX5_has 1 := ⟨gw_t5 53 rfl rfl, gw_t1 12 rfl rfl, ⟨by decide, by decide⟩, by decide +kernel, by decide⟩
theorem miX5_has : MVi mX5_has := ⟨gw_t5 51 rfl rfl, gw_t5 52 rfl rfl⟩
def mX5_begin : Mi := (yX5_begin, cX5_begin, 4, none)
theorem mvX5_begin : MV mX5_begin 2 := ⟨gw_t5 43 rfl rfl, gw_t1 12 rfl rfl, ⟨by decide, by decide⟩, by decide +kernel, by decide⟩
theorem miX5_begin : MVi mX5_begin := ⟨gw_t5 41 rfl rfl, gw_t5 42 rfl rfl⟩
def mX5_put : Mi := (yX5_put, cX5_put, 3, none)
theorem mvX5_put : MV mX5_put 2 := ⟨gw_t5 59 rfl rfl, gw_t1 12 rfl rfl, ⟨by decide, by decide⟩, by decide +kernel, by decide⟩
theorem miX5_put : MVi mX5_put := ⟨gw_t5 57 rfl rfl, gw_t5 58 rfl rfl⟩
def mX6_init : Mi := (yX6_init, cX6_init, 1, none)
theorem mvX6_init : MV mX6_init 0 := ⟨gw_t1 140 rfl rfl, gw_t1 4 rfl rfl, ⟨by decide, by decide⟩, by decide +kernel, by decide⟩
def mX6_add : Mi := (yX6_add, cX6_add, 5, (some .int))
theorem mvX6_add : MV mX6_add 4 := ⟨gw_t3 229 rfl rfl, gw_t1 4 rfl rfl, ⟨by decide, by decide⟩, by decide +kernel, by decide⟩
theorem miX6_add : MVi mX6_add := ⟨gw_t3 227 rfl rfl, gw_t3 228 rfl rfl⟩
def mX6_valueKnown : Mi := (yX6_valueKnown, cX6_valueKnown, 3, (some .int))
theorem mvX6_valueKnown : MV mX6_valueKnown 2 := ⟨gw_t4 9 rfl rfl, gw_t1 4 rfl rfl, ⟨by decide, by decide⟩, by decide +kernel, by decide⟩
theorem miX6_valueKnown : MVi mX6_valueKnown := ⟨gw_t4 7 rfl rfl, gw_t4 8 rfl rfl⟩
def mX6_least : Mi := (yX6_least, cX6_least, 6, (some .int))
theorem mvX6_least : MV mX6_least 3 := ⟨gw_t4 27 rfl rfl, gw_t1 4 rfl rfl, ⟨by decide, by decide⟩, by decide +kernel, by decide⟩
theorem miX6_least : MVi mX6_least := ⟨gw_t4 25 rfl rfl, gw_t4 26 rfl rfl⟩
def mX6_most : Mi := (yX6_most, cX6_most, 6, (some .int))
theorem mvX6_most : MV mX6_most 3 := ⟨gw_t4 38 rfl rfl, gw_t1 4 rfl rfl, ⟨by decide, by decide⟩, by decide +kernel, by decide⟩
theorem miX6_most : MVi mX6_most := ⟨gw_t4 36 rfl rfl, gw_t4 37 rfl rfl⟩
def mX6_speaks : Mi := (yX6_speaks, cX6_speaks, 5, (some .boolean))
theorem mvX6_speaks : MV mX6_speaks 4 := ⟨gw_t4 31 rfl rfl, gw_t1 4 rfl rfl, ⟨by decide, by decide⟩, by decide +kernel, by decide⟩
theorem miX6_speaks : MVi mX6_speaks := ⟨gw_t4 30 rfl rfl, gw_p2 8 rfl rfl⟩
def mX6_leastBy : Mi := (yX6_leastBy, cX6_leastBy, 5, (some .int))
theorem mvX6_leastBy : MV mX6_leastBy 2 := ⟨gw_t4 12 rfl rfl, gw_t1 4 rfl rfl, ⟨by decide, by decide⟩, by decide +kernel, by decide⟩
theorem msX6_leastBy : Cond.static mX6_leastBy.1 ∈ gw := gw_t4 11 rfl rfl
def mX6_mostBy : Mi := (yX6_mostBy, cX6_mostBy, 3, (some .int))
theorem mvX6_mostBy : MV mX6_mostBy 2 := ⟨gw_t4 16 rfl rfl, gw_t1 4 rfl rfl, ⟨by decide, by decide⟩, by decide +kernel, by decide⟩
theorem msX6_mostBy : Cond.static mX6_mostBy.1 ∈ gw := gw_t4 15 rfl rfl
def mX6_trustIn : Mi := (yX6_trustIn, cX6_trustIn, 2, (some .int))
theorem mvX6_trustIn : MV mX6_trustIn 1 := ⟨gw_t4 19 rfl rfl, gw_t1 4 rfl rfl, ⟨by decide, by decide⟩, by decide +kernel, by decide⟩
theorem msX6_trustIn : Cond.static mX6_trustIn.1 ∈ gw := gw_t4 18 rfl rfl
def mX6_isOneOf : Mi := (yX6_isOneOf, cX6_isOneOf, 4, (some .boolean))
theorem mvX6_isOneOf : MV mX6_isOneOf 2 := ⟨gw_t5 77 rfl rfl, gw_t1 4 rfl rfl, ⟨by decide, by decide⟩, by decide +kernel, by decide⟩
theorem msX6_isOneOf : Cond.static mX6_isOneOf.1 ∈ gw := gw_t5 76 rfl rfl
def mX7_init : Mi := (yX7_init, cX7_init, 1, none)
theorem mvX7_init : MV mX7_init 0 := ⟨gw_t2 22 rfl rfl, gw_t1 9 rfl rfl, ⟨by decide, by decide⟩, by decide +kernel, by decide⟩
def mX7_put : Mi := (yX7_put, cX7_put, 2, none)
theorem mvX7_put : MV mX7_put 1 := ⟨gw_t2 197 rfl rfl, gw_t1 9 rfl rfl, ⟨by decide, by decide⟩, by decide +kernel, by decide⟩
theorem miX7_put : MVi mX7_put := ⟨gw_t2 195 rfl rfl, gw_t2 196 rfl rfl⟩
def mX7_kindAt : Mi := (yX7_kindAt, cX7_kindAt, 2, (some .int))
theorem mvX7_kindAt : MV mX7_kindAt 1 := ⟨gw_t3 20 rfl rfl, gw_t1 9 rfl rfl, ⟨by decide, by decide⟩, by decide +kernel, by decide⟩
theorem miX7_kindAt : MVi mX7_kindAt := ⟨gw_t3 18 rfl rfl, gw_t3 19 rfl rfl⟩
def mX7_placeAt : Mi := (yX7_placeAt, cX7_placeAt, 2, (some .int))
theorem mvX7_placeAt : MV mX7_placeAt 1 := ⟨gw_t3 36 rfl rfl, gw_t1 9 rfl rfl, ⟨by decide, by decide⟩, by decide +kernel, by decide⟩
theorem miX7_placeAt : MVi mX7_placeAt := ⟨gw_t3 34 rfl rfl, gw_t3 35 rfl rfl⟩
def mX7_numberAt : Mi := (yX7_numberAt, cX7_numberAt, 2, (some .int))
theorem mvX7_numberAt : MV mX7_numberAt 1 := ⟨gw_t3 68 rfl rfl, gw_t1 9 rfl rfl, ⟨by decide, by decide⟩, by decide +kernel, by decide⟩
theorem miX7_numberAt : MVi mX7_numberAt := ⟨gw_t3 66 rfl rfl, gw_t3 67 rfl rfl⟩
def mX7_split : Mi := (yX7_split, cX7_split, 3, none)
theorem mvX7_split : MV mX7_split 0 := ⟨gw_t2 205 rfl rfl, gw_t1 9 rfl rfl, ⟨by decide, by decide⟩, by decide +kernel, by decide⟩
theorem miX7_split : MVi mX7_split := ⟨gw_t2 203 rfl rfl, gw_t2 204 rfl rfl⟩
def mX7_goOn : Mi := (yX7_goOn, cX7_goOn, 2, (some .boolean))
theorem mvX7_goOn : MV mX7_goOn 2 := ⟨gw_t2 208 rfl rfl, gw_t1 9 rfl rfl, ⟨by decide, by decide⟩, by decide +kernel, by decide⟩
theorem msX7_goOn : Cond.static mX7_goOn.1 ∈ gw := gw_t2 207 rfl rfl
def mX7_tellKind : Mi := (yX7_tellKind, cX7_tellKind, 3, none)
theorem mvX7_tellKind : MV mX7_tellKind 1 := ⟨gw_t2 218 rfl rfl, gw_t1 9 rfl rfl, ⟨by decide, by decide⟩, by decide +kernel, by decide⟩
theorem miX7_tellKind : MVi mX7_tellKind := ⟨gw_t2 217 rfl rfl, gw_p1 0 rfl rfl⟩
def mX7_tellWord : Mi := (yX7_tellWord, cX7_tellWord, 3, none)
theorem mvX7_tellWord : MV mX7_tellWord 1 := ⟨gw_t2 222 rfl rfl, gw_t1 9 rfl rfl, ⟨by decide, by decide⟩, by decide +kernel, by decide⟩
theorem miX7_tellWord : MVi mX7_tellWord := ⟨gw_t2 221 rfl rfl, gw_p1 1 rfl rfl⟩
def mX7_spells : Mi := (yX7_spells, cX7_spells, 4, (some .boolean))
theorem mvX7_spells : MV mX7_spells 2 := ⟨gw_t3 3 rfl rfl, gw_t1 9 rfl rfl, ⟨by decide, by decide⟩, by decide +kernel, by decide⟩
theorem miX7_spells : MVi mX7_spells := ⟨gw_t3 2 rfl rfl, gw_p1 2 rfl rfl⟩
def mX7_tellNumber : Mi := (yX7_tellNumber, cX7_tellNumber, 3, none)
theorem mvX7_tellNumber : MV mX7_tellNumber 1 := ⟨gw_t3 9 rfl rfl, gw_t1 9 rfl rfl, ⟨by decide, by decide⟩, by decide +kernel, by decide⟩
theorem miX7_tellNumber : MVi mX7_tellNumber := ⟨gw_t3 8 rfl rfl, gw_p1 3 rfl rfl⟩
def mX7_isLetter : Mi := (yX7_isLetter, cX7_isLetter, 1, (some .boolean))
theorem mvX7_isLetter : MV mX7_isLetter 1 := ⟨gw_t2 211 rfl rfl, gw_t1 9 rfl rfl, ⟨by decide, by decide⟩, by decide +kernel, by decide⟩
theorem msX7_isLetter : Cond.static mX7_isLetter.1 ∈ gw := gw_t2 210 rfl rfl
def mX7_isDigit : Mi := (yX7_isDigit, cX7_isDigit, 1, (some .boolean))
theorem mvX7_isDigit : MV mX7_isDigit 1 := ⟨gw_t2 214 rfl rfl, gw_t1 9 rfl rfl, ⟨by decide, by decide⟩, by decide +kernel, by decide⟩
theorem msX7_isDigit : Cond.static mX7_isDigit.1 ∈ gw := gw_t2 213 rfl rfl
def mX7_isMark : Mi := (yX7_isMark, cX7_isMark, 1, (some .boolean))
theorem mvX7_isMark : MV mX7_isMark 1 := ⟨gw_t3 12 rfl rfl, gw_t1 9 rfl rfl, ⟨by decide, by decide⟩, by decide +kernel, by decide⟩
theorem msX7_isMark : Cond.static mX7_isMark.1 ∈ gw := gw_t3 11 rfl rfl
def mX7_wordAt : Mi := (yX7_wordAt, cX7_wordAt, 1, (some (.object "java/lang/String")))
theorem mvX7_wordAt : MV mX7_wordAt 1 := ⟨gw_t2 225 rfl rfl, gw_t1 9 rfl rfl, ⟨by decide, by decide⟩, by decide +kernel, by decide⟩
theorem msX7_wordAt : Cond.static mX7_wordAt.1 ∈ gw := gw_t2 224 rfl rfl
def mX8_init : Mi := (yX8_init, cX8_init, 1, none)
theorem mvX8_init : MV mX8_init 0 := ⟨gw_t2 58 rfl rfl, gw_t1 11 rfl rfl, ⟨by decide, by decide⟩, by decide +kernel, by decide⟩
def mX8_add : Mi := (yX8_add, cX8_add, 2, none)
theorem mvX8_add : MV mX8_add 1 := ⟨gw_t3 52 rfl rfl, gw_t1 11 rfl rfl, ⟨by decide, by decide⟩, by decide +kernel, by decide⟩
theorem miX8_add : MVi mX8_add := ⟨gw_t3 50 rfl rfl, gw_t3 51 rfl rfl⟩
def mX8_become : Mi := (yX8_become, cX8_become, 2, none)
theorem mvX8_become : MV mX8_become 1 := ⟨gw_t3 72 rfl rfl, gw_t1 11 rfl rfl, ⟨by decide, by decide⟩, by decide +kernel, by decide⟩
theorem miX8_become : MVi mX8_become := ⟨gw_t3 70 rfl rfl, gw_t3 71 rfl rfl⟩
def mX9_init : Mi := (yX9_init, cX9_init, 3, none)
theorem mvX9_init : MV mX9_init 1 := ⟨gw_t1 175 rfl rfl, gw_t1 5 rfl rfl, ⟨by decide, by decide⟩, by decide +kernel, by decide⟩
def mX9_isFull : Mi := (yX9_isFull, cX9_isFull, 1, (some .boolean))
theorem mvX9_isFull : MV mX9_isFull 0 := ⟨gw_t4 48 rfl rfl, gw_t1 5 rfl rfl, ⟨by decide, by decide⟩, by decide +kernel, by decide⟩
theorem miX9_isFull : MVi mX9_isFull := ⟨gw_t4 46 rfl rfl, gw_t4 47 rfl rfl⟩
def mX9_add : Mi := (yX9_add, cX9_add, 4, (some .int))
theorem mvX9_add : MV mX9_add 3 := ⟨gw_t4 52 rfl rfl, gw_t1 5 rfl rfl, ⟨by decide, by decide⟩, by decide +kernel, by decide⟩
theorem miX9_add : MVi mX9_add := ⟨gw_t4 50 rfl rfl, gw_t4 51 rfl rfl⟩
def mX10_init : Mi := (yX10_init, cX10_init, 2, none)
theorem mvX10_init : MV mX10_init 0 := ⟨gw_t1 24 rfl rfl, gw_t1 1 rfl rfl, ⟨by decide, by decide⟩, by decide +kernel, by decide⟩
def mX10_ground : Mi := (yX10_ground, cX10_ground, 5, (some .int))
theorem mvX10_ground : MV mX10_ground 3 := ⟨gw_t3 123 rfl rfl, gw_t1 1 rfl rfl, ⟨by decide, by decide⟩, by decide +kernel, by decide⟩
theorem miX10_ground : MVi mX10_ground := ⟨gw_t3 121 rfl rfl, gw_t3 122 rfl rfl⟩
def mX10_house : Mi := (yX10_house, cX10_house, 4, (some .int))
theorem mvX10_house : MV mX10_house 3 := ⟨gw_t3 137 rfl rfl, gw_t1 1 rfl rfl, ⟨by decide, by decide⟩, by decide +kernel, by decide⟩
theorem miX10_house : MVi mX10_house := ⟨gw_t3 135 rfl rfl, gw_t3 136 rfl rfl⟩
def mX10_pump : Mi := (yX10_pump, cX10_pump, 2, (some .int))
theorem mvX10_pump : MV mX10_pump 1 := ⟨gw_t3 146 rfl rfl, gw_t1 1 rfl rfl, ⟨by decide, by decide⟩, by decide +kernel, by decide⟩
theorem miX10_pump : MVi mX10_pump := ⟨gw_t3 144 rfl rfl, gw_t3 145 rfl rfl⟩
def mX10_pumping : Mi := (yX10_pumping, cX10_pumping, 4, (some .int))
theorem mvX10_pumping : MV mX10_pumping 2 := ⟨gw_t3 154 rfl rfl, gw_t1 1 rfl rfl, ⟨by decide, by decide⟩, by decide +kernel, by decide⟩
theorem miX10_pumping : MVi mX10_pumping := ⟨gw_t3 152 rfl rfl, gw_t3 153 rfl rfl⟩
def mX10_rain : Mi := (yX10_rain, cX10_rain, 3, (some .int))
theorem mvX10_rain : MV mX10_rain 1 := ⟨gw_t3 158 rfl rfl, gw_t1 1 rfl rfl, ⟨by decide, by decide⟩, by decide +kernel, by decide⟩
theorem miX10_rain : MVi mX10_rain := ⟨gw_t3 156 rfl rfl, gw_t3 157 rfl rfl⟩
def mX10_move : Mi := (yX10_move, cX10_move, 2, (some .int))
theorem mvX10_move : MV mX10_move 1 := ⟨gw_t3 162 rfl rfl, gw_t1 1 rfl rfl, ⟨by decide, by decide⟩, by decide +kernel, by decide⟩
theorem miX10_move : MVi mX10_move := ⟨gw_t3 160 rfl rfl, gw_t3 161 rfl rfl⟩
def mX10_run : Mi := (yX10_run, cX10_run, 2, (some .int))
theorem mvX10_run : MV mX10_run 1 := ⟨gw_t3 170 rfl rfl, gw_t1 1 rfl rfl, ⟨by decide, by decide⟩, by decide +kernel, by decide⟩
theorem miX10_run : MVi mX10_run := ⟨gw_t3 168 rfl rfl, gw_t3 169 rfl rfl⟩
def mX10_sign : Mi := (yX10_sign, cX10_sign, 4, (some .int))
theorem mvX10_sign : MV mX10_sign 3 := ⟨gw_t3 225 rfl rfl, gw_t1 1 rfl rfl, ⟨by decide, by decide⟩, by decide +kernel, by decide⟩
theorem miX10_sign : MVi mX10_sign := ⟨gw_t3 223 rfl rfl, gw_t3 224 rfl rfl⟩
def mX10_mend : Mi := (yX10_mend, cX10_mend, 3, (some .int))
theorem mvX10_mend : MV mX10_mend 2 := ⟨gw_t3 233 rfl rfl, gw_t1 1 rfl rfl, ⟨by decide, by decide⟩, by decide +kernel, by decide⟩
theorem miX10_mend : MVi mX10_mend := ⟨gw_t3 231 rfl rfl, gw_t3 232 rfl rfl⟩
def mX10_signTold : Mi := (yX10_signTold, cX10_signTold, 6, (some .int))
theorem mvX10_signTold : MV mX10_signTold 3 := ⟨gw_t4 1 rfl rfl, gw_t1 1 rfl rfl, ⟨by decide, by decide⟩, by decide +kernel, by decide⟩
theorem miX10_signTold : MVi mX10_signTold := ⟨gw_t3 239 rfl rfl, gw_t4 0 rfl rfl⟩
def mX10_span : Mi := (yX10_span, cX10_span, 7, (some .int))
theorem mvX10_span : MV mX10_span 3 := ⟨gw_t4 23 rfl rfl, gw_t1 1 rfl rfl, ⟨by decide, by decide⟩, by decide +kernel, by decide⟩
theorem miX10_span : MVi mX10_span := ⟨gw_t4 21 rfl rfl, gw_t4 22 rfl rfl⟩
def mX10_lost : Mi := (yX10_lost, cX10_lost, 3, (some .int))
theorem mvX10_lost : MV mX10_lost 2 := ⟨gw_t4 44 rfl rfl, gw_t1 1 rfl rfl, ⟨by decide, by decide⟩, by decide +kernel, by decide⟩
theorem miX10_lost : MVi mX10_lost := ⟨gw_t4 42 rfl rfl, gw_t4 43 rfl rfl⟩
def mX10_fit : Mi := (yX10_fit, cX10_fit, 4, (some .int))
theorem mvX10_fit : MV mX10_fit 2 := ⟨gw_t4 57 rfl rfl, gw_t1 1 rfl rfl, ⟨by decide, by decide⟩, by decide +kernel, by decide⟩
theorem miX10_fit : MVi mX10_fit := ⟨gw_t4 55 rfl rfl, gw_t4 56 rfl rfl⟩
def mX10_fitTold : Mi := (yX10_fitTold, cX10_fitTold, 3, (some .int))
theorem mvX10_fitTold : MV mX10_fitTold 2 := ⟨gw_t4 102 rfl rfl, gw_t1 1 rfl rfl, ⟨by decide, by decide⟩, by decide +kernel, by decide⟩
theorem miX10_fitTold : MVi mX10_fitTold := ⟨gw_t4 100 rfl rfl, gw_t4 101 rfl rfl⟩
def mX10_feed : Mi := (yX10_feed, cX10_feed, 5, (some .int))
theorem mvX10_feed : MV mX10_feed 2 := ⟨gw_t4 106 rfl rfl, gw_t1 1 rfl rfl, ⟨by decide, by decide⟩, by decide +kernel, by decide⟩
theorem miX10_feed : MVi mX10_feed := ⟨gw_t4 104 rfl rfl, gw_t4 105 rfl rfl⟩
def mX10_text : Mi := (yX10_text, cX10_text, 2, (some .int))
theorem mvX10_text : MV mX10_text 0 := ⟨gw_t4 111 rfl rfl, gw_t1 1 rfl rfl, ⟨by decide, by decide⟩, by decide +kernel, by decide⟩
theorem miX10_text : MVi mX10_text := ⟨gw_t4 109 rfl rfl, gw_t4 110 rfl rfl⟩
def mX10_force : Mi := (yX10_force, cX10_force, 3, (some .int))
theorem mvX10_force : MV mX10_force 1 := ⟨gw_t4 115 rfl rfl, gw_t1 1 rfl rfl, ⟨by decide, by decide⟩, by decide +kernel, by decide⟩
theorem miX10_force : MVi mX10_force := ⟨gw_t4 113 rfl rfl, gw_t4 114 rfl rfl⟩
def mX10_law : Mi := (yX10_law, cX10_law, 4, (some .long))
theorem mvX10_law : MV mX10_law 3 := ⟨gw_t4 119 rfl rfl, gw_t1 1 rfl rfl, ⟨by decide, by decide⟩, by decide +kernel, by decide⟩
theorem miX10_law : MVi mX10_law := ⟨gw_t4 117 rfl rfl, gw_t4 118 rfl rfl⟩
def mX10_moved : Mi := (yX10_moved, cX10_moved, 5, (some .long))
theorem mvX10_moved : MV mX10_moved 1 := ⟨gw_t4 154 rfl rfl, gw_t1 1 rfl rfl, ⟨by decide, by decide⟩, by decide +kernel, by decide⟩
theorem miX10_moved : MVi mX10_moved := ⟨gw_t4 152 rfl rfl, gw_t4 153 rfl rfl⟩
def mX10_part : Mi := (yX10_part, cX10_part, 7, (some .long))
theorem mvX10_part : MV mX10_part 2 := ⟨gw_t4 159 rfl rfl, gw_t1 1 rfl rfl, ⟨by decide, by decide⟩, by decide +kernel, by decide⟩
theorem miX10_part : MVi mX10_part := ⟨gw_t4 157 rfl rfl, gw_t4 158 rfl rfl⟩
def mX10_looks : Mi := (yX10_looks, cX10_looks, 9, (some .int))
theorem mvX10_looks : MV mX10_looks 3 := ⟨gw_t4 167 rfl rfl, gw_t1 1 rfl rfl, ⟨by decide, by decide⟩, by decide +kernel, by decide⟩
theorem miX10_looks : MVi mX10_looks := ⟨gw_t4 165 rfl rfl, gw_t4 166 rfl rfl⟩
def mX10_lookTold : Mi := (yX10_lookTold, cX10_lookTold, 1, (some .int))
theorem mvX10_lookTold : MV mX10_lookTold 0 := ⟨gw_t4 186 rfl rfl, gw_t1 1 rfl rfl, ⟨by decide, by decide⟩, by decide +kernel, by decide⟩
theorem miX10_lookTold : MVi mX10_lookTold := ⟨gw_t4 184 rfl rfl, gw_t4 185 rfl rfl⟩
def mX10_often : Mi := (yX10_often, cX10_often, 6, (some .long))
theorem mvX10_often : MV mX10_often 2 := ⟨gw_t4 190 rfl rfl, gw_t1 1 rfl rfl, ⟨by decide, by decide⟩, by decide +kernel, by decide⟩
theorem miX10_often : MVi mX10_often := ⟨gw_t4 188 rfl rfl, gw_t4 189 rfl rfl⟩
def mX10_warn : Mi := (yX10_warn, cX10_warn, 2, (some .int))
theorem mvX10_warn : MV mX10_warn 1 := ⟨gw_t4 197 rfl rfl, gw_t1 1 rfl rfl, ⟨by decide, by decide⟩, by decide +kernel, by decide⟩
theorem miX10_warn : MVi mX10_warn := ⟨gw_t4 195 rfl rfl, gw_t4 196 rfl rfl⟩
def mX10_warned : Mi := (yX10_warned, cX10_warned, 3, (some .int))
theorem mvX10_warned : MV mX10_warned 2 := ⟨gw_t4 201 rfl rfl, gw_t1 1 rfl rfl, ⟨by decide, by decide⟩, by decide +kernel, by decide⟩
theorem miX10_warned : MVi mX10_warned := ⟨gw_t4 199 rfl rfl, gw_t4 200 rfl rfl⟩
def mX10_cellTold : Mi := (yX10_cellTold, cX10_cellTold, 3, (some .int))
theorem mvX10_cellTold : MV mX10_cellTold 2 := ⟨gw_t4 227 rfl rfl, gw_t1 1 rfl rfl, ⟨by decide, by decide⟩, by decide +kernel, by decide⟩
theorem miX10_cellTold : MVi mX10_cellTold := ⟨gw_t4 225 rfl rfl, gw_t4 226 rfl rfl⟩
def mX10_houseTold : Mi := (yX10_houseTold, cX10_houseTold, 3, (some .int))
theorem mvX10_houseTold : MV mX10_houseTold 2 := ⟨gw_t4 231 rfl rfl, gw_t1 1 rfl rfl, ⟨by decide, by decide⟩, by decide +kernel, by decide⟩
theorem miX10_houseTold : MVi mX10_houseTold := ⟨gw_t4 229 rfl rfl, gw_t4 230 rfl rfl⟩
def mX10_beside : Mi := (yX10_beside, cX10_beside, 5, (some .long))
theorem mvX10_beside : MV mX10_beside 4 := ⟨gw_t4 235 rfl rfl, gw_t1 1 rfl rfl, ⟨by decide, by decide⟩, by decide +kernel, by decide⟩
theorem miX10_beside : MVi mX10_beside := ⟨gw_t4 233 rfl rfl, gw_t4 234 rfl rfl⟩
def mX10_plan : Mi := (yX10_plan, cX10_plan, 9, (some .long))
theorem mvX10_plan : MV mX10_plan 3 := ⟨gw_t5 4 rfl rfl, gw_t1 1 rfl rfl, ⟨by decide, by decide⟩, by decide +kernel, by decide⟩
theorem miX10_plan : MVi mX10_plan := ⟨gw_t5 2 rfl rfl, gw_t5 3 rfl rfl⟩
def mX10_planned : Mi := (yX10_planned, cX10_planned, 1, (some .int))
theorem mvX10_planned : MV mX10_planned 0 := ⟨gw_t5 23 rfl rfl, gw_t1 1 rfl rfl, ⟨by decide, by decide⟩, by decide +kernel, by decide⟩
theorem miX10_planned : MVi mX10_planned := ⟨gw_t5 21 rfl rfl, gw_t5 22 rfl rfl⟩
def mX10_image : Mi := (yX10_image, cX10_image, 1, (some .int))
theorem mvX10_image : MV mX10_image 0 := ⟨gw_t5 27 rfl rfl, gw_t1 1 rfl rfl, ⟨by decide, by decide⟩, by decide +kernel, by decide⟩
theorem miX10_image : MVi mX10_image := ⟨gw_t5 25 rfl rfl, gw_t5 26 rfl rfl⟩
def mX10_back : Mi := (yX10_back, cX10_back, 1, (some .int))
theorem mvX10_back : MV mX10_back 0 := ⟨gw_t5 31 rfl rfl, gw_t1 1 rfl rfl, ⟨by decide, by decide⟩, by decide +kernel, by decide⟩
theorem miX10_back : MVi mX10_back := ⟨gw_t5 29 rfl rfl, gw_t5 30 rfl rfl⟩
def mX10_count : Mi := (yX10_count, cX10_count, 2, (some .int))
theorem mvX10_count : MV mX10_count 1 := ⟨gw_t5 35 rfl rfl, gw_t1 1 rfl rfl, ⟨by decide, by decide⟩, by decide +kernel, by decide⟩
theorem miX10_count : MVi mX10_count := ⟨gw_t5 33 rfl rfl, gw_t5 34 rfl rfl⟩
def mX10_sheet : Mi := (yX10_sheet, cX10_sheet, 4, (some .int))
theorem mvX10_sheet : MV mX10_sheet 3 := ⟨gw_t5 39 rfl rfl, gw_t1 1 rfl rfl, ⟨by decide, by decide⟩, by decide +kernel, by decide⟩
theorem miX10_sheet : MVi mX10_sheet := ⟨gw_t5 37 rfl rfl, gw_t5 38 rfl rfl⟩
def mX10_cell : Mi := (yX10_cell, cX10_cell, 4, (some .int))
theorem mvX10_cell : MV mX10_cell 3 := ⟨gw_t5 49 rfl rfl, gw_t1 1 rfl rfl, ⟨by decide, by decide⟩, by decide +kernel, by decide⟩
theorem miX10_cell : MVi mX10_cell := ⟨gw_t5 47 rfl rfl, gw_t5 48 rfl rfl⟩
def mX10_copy : Mi := (yX10_copy, cX10_copy, 8, (some .int))
theorem mvX10_copy : MV mX10_copy 5 := ⟨gw_t5 64 rfl rfl, gw_t1 1 rfl rfl, ⟨by decide, by decide⟩, by decide +kernel, by decide⟩
theorem miX10_copy : MVi mX10_copy := ⟨gw_t5 62 rfl rfl, gw_t5 63 rfl rfl⟩
def mX10_signs : Mi := (yX10_signs, cX10_signs, 9, (some .int))
theorem mvX10_signs : MV mX10_signs 4 := ⟨gw_t5 69 rfl rfl, gw_t1 1 rfl rfl, ⟨by decide, by decide⟩, by decide +kernel, by decide⟩
theorem miX10_signs : MVi mX10_signs := ⟨gw_t5 67 rfl rfl, gw_t5 68 rfl rfl⟩
def mX10_taken : Mi := (yX10_taken, cX10_taken, 4, (some .int))
theorem mvX10_taken : MV mX10_taken 3 := ⟨gw_t5 74 rfl rfl, gw_t1 1 rfl rfl, ⟨by decide, by decide⟩, by decide +kernel, by decide⟩
theorem miX10_taken : MVi mX10_taken := ⟨gw_t5 72 rfl rfl, gw_t5 73 rfl rfl⟩
def mX10_within : Mi := (yX10_within, cX10_within, 3, (some .boolean))
theorem mvX10_within : MV mX10_within 3 := ⟨gw_t3 129 rfl rfl, gw_t1 1 rfl rfl, ⟨by decide, by decide⟩, by decide +kernel, by decide⟩
theorem msX10_within : Cond.static mX10_within.1 ∈ gw := gw_t3 128 rfl rfl
def mX10_isCell : Mi := (yX10_isCell, cX10_isCell, 1, (some .boolean))
theorem mvX10_isCell : MV mX10_isCell 1 := ⟨gw_t3 126 rfl rfl, gw_t1 1 rfl rfl, ⟨by decide, by decide⟩, by decide +kernel, by decide⟩
theorem msX10_isCell : Cond.static mX10_isCell.1 ∈ gw := gw_t3 125 rfl rfl
def mX10_isSheet : Mi := (yX10_isSheet, cX10_isSheet, 1, (some .boolean))
theorem mvX10_isSheet : MV mX10_isSheet 1 := ⟨gw_t4 60 rfl rfl, gw_t1 1 rfl rfl, ⟨by decide, by decide⟩, by decide +kernel, by decide⟩
theorem msX10_isSheet : Cond.static mX10_isSheet.1 ∈ gw := gw_t4 59 rfl rfl
def mX10_isHouse : Mi := (yX10_isHouse, cX10_isHouse, 2, (some .boolean))
theorem mvX10_isHouse : MV mX10_isHouse 1 := ⟨gw_t3 166 rfl rfl, gw_t1 1 rfl rfl, ⟨by decide, by decide⟩, by decide +kernel, by decide⟩
theorem miX10_isHouse : MVi mX10_isHouse := ⟨gw_t3 165 rfl rfl, gw_p1 13 rfl rfl⟩
def mX10_isSign : Mi := (yX10_isSign, cX10_isSign, 2, (some .boolean))
theorem mvX10_isSign : MV mX10_isSign 1 := ⟨gw_t3 237 rfl rfl, gw_t1 1 rfl rfl, ⟨by decide, by decide⟩, by decide +kernel, by decide⟩
theorem miX10_isSign : MVi mX10_isSign := ⟨gw_t3 236 rfl rfl, gw_p2 6 rfl rfl⟩
def mX10_isKnown : Mi := (yX10_isKnown, cX10_isKnown, 2, (some .boolean))
theorem mvX10_isKnown : MV mX10_isKnown 1 := ⟨gw_t4 5 rfl rfl, gw_t1 1 rfl rfl, ⟨by decide, by decide⟩, by decide +kernel, by decide⟩
theorem miX10_isKnown : MVi mX10_isKnown := ⟨gw_t4 4 rfl rfl, gw_p2 7 rfl rfl⟩
def mX10_monthsAreLeft : Mi := (yX10_monthsAreLeft, cX10_monthsAreLeft, 2, (some .boolean))
theorem mvX10_monthsAreLeft : MV mX10_monthsAreLeft 1 := ⟨gw_t3 174 rfl rfl, gw_t1 1 rfl rfl, ⟨by decide, by decide⟩, by decide +kernel, by decide⟩
theorem miX10_monthsAreLeft : MVi mX10_monthsAreLeft := ⟨gw_t3 173 rfl rfl, gw_p1 14 rfl rfl⟩
def mX10_holdsUnlikeCells : Mi := (yX10_holdsUnlikeCells, cX10_holdsUnlikeCells, 5, (some .boolean))
theorem mvX10_holdsUnlikeCells : MV mX10_holdsUnlikeCells 1 := ⟨gw_t4 67 rfl rfl, gw_t1 1 rfl rfl, ⟨by decide, by decide⟩, by decide +kernel, by decide⟩
theorem msX10_holdsUnlikeCells : Cond.static mX10_holdsUnlikeCells.1 ∈ gw := gw_t4 66 rfl rfl
def mX10_holdsLooks : Mi := (yX10_holdsLooks, cX10_holdsLooks, 2, (some .boolean))
theorem mvX10_holdsLooks : MV mX10_holdsLooks 1 := ⟨gw_t4 170 rfl rfl, gw_t1 1 rfl rfl, ⟨by decide, by decide⟩, by decide +kernel, by decide⟩
theorem msX10_holdsLooks : Cond.static mX10_holdsLooks.1 ∈ gw := gw_t4 169 rfl rfl
def mX10_holdsHouses : Mi := (yX10_holdsHouses, cX10_holdsHouses, 3, (some .boolean))
theorem mvX10_holdsHouses : MV mX10_holdsHouses 1 := ⟨gw_t5 8 rfl rfl, gw_t1 1 rfl rfl, ⟨by decide, by decide⟩, by decide +kernel, by decide⟩
theorem miX10_holdsHouses : MVi mX10_holdsHouses := ⟨gw_t5 7 rfl rfl, gw_p3 4 rfl rfl⟩
def mX10_isNear : Mi := (yX10_isNear, cX10_isNear, 4, (some .boolean))
theorem mvX10_isNear : MV mX10_isNear 2 := ⟨gw_t4 81 rfl rfl, gw_t1 1 rfl rfl, ⟨by decide, by decide⟩, by decide +kernel, by decide⟩
theorem msX10_isNear : Cond.static mX10_isNear.1 ∈ gw := gw_t4 80 rfl rfl
def mX10_greatestShared : Mi := (yX10_greatestShared, cX10_greatestShared, 4, (some .int))
theorem mvX10_greatestShared : MV mX10_greatestShared 2 := ⟨gw_t4 193 rfl rfl, gw_t1 1 rfl rfl, ⟨by decide, by decide⟩, by decide +kernel, by decide⟩
theorem msX10_greatestShared : Cond.static mX10_greatestShared.1 ∈ gw := gw_t4 192 rfl rfl
def mX10_ruled : Mi := (yX10_ruled, cX10_ruled, 6, (some .int))
theorem mvX10_ruled : MV mX10_ruled 3 := ⟨gw_t4 124 rfl rfl, gw_t1 1 rfl rfl, ⟨by decide, by decide⟩, by decide +kernel, by decide⟩
theorem miX10_ruled : MVi mX10_ruled := ⟨gw_t4 123 rfl rfl, gw_p2 13 rfl rfl⟩
def mX10_worthOfLook : Mi := (yX10_worthOfLook, cX10_worthOfLook, 4, (some .int))
theorem mvX10_worthOfLook : MV mX10_worthOfLook 2 := ⟨gw_t4 175 rfl rfl, gw_t1 1 rfl rfl, ⟨by decide, by decide⟩, by decide +kernel, by decide⟩
theorem miX10_worthOfLook : MVi mX10_worthOfLook := ⟨gw_t4 174 rfl rfl, gw_p2 14 rfl rfl⟩
def mX10_priceOfSet : Mi := (yX10_priceOfSet, cX10_priceOfSet, 4, (some .int))
theorem mvX10_priceOfSet : MV mX10_priceOfSet 2 := ⟨gw_t4 178 rfl rfl, gw_t1 1 rfl rfl, ⟨by decide, by decide⟩, by decide +kernel, by decide⟩
theorem msX10_priceOfSet : Cond.static mX10_priceOfSet.1 ∈ gw := gw_t4 177 rfl rfl
def mX10_worthOfSet : Mi := (yX10_worthOfSet, cX10_worthOfSet, 9, (some .int))
theorem mvX10_worthOfSet : MV mX10_worthOfSet 2 := ⟨gw_t4 182 rfl rfl, gw_t1 1 rfl rfl, ⟨by decide, by decide⟩, by decide +kernel, by decide⟩
theorem miX10_worthOfSet : MVi mX10_worthOfSet := ⟨gw_t4 181 rfl rfl, gw_p2 15 rfl rfl⟩
def mX10_cameTrue : Mi := (yX10_cameTrue, cX10_cameTrue, 5, (some .boolean))
theorem mvX10_cameTrue : MV mX10_cameTrue 2 := ⟨gw_t4 209 rfl rfl, gw_t1 1 rfl rfl, ⟨by decide, by decide⟩, by decide +kernel, by decide⟩
theorem miX10_cameTrue : MVi mX10_cameTrue := ⟨gw_t4 208 rfl rfl, gw_p3 1 rfl rfl⟩
def mX10_trueWarnings : Mi := (yX10_trueWarnings, cX10_trueWarnings, 4, (some .int))
theorem mvX10_trueWarnings : MV mX10_trueWarnings 1 := ⟨gw_t4 205 rfl rfl, gw_t1 1 rfl rfl, ⟨by decide, by decide⟩, by decide +kernel, by decide⟩
theorem miX10_trueWarnings : MVi mX10_trueWarnings := ⟨gw_t4 204 rfl rfl, gw_p3 0 rfl rfl⟩
def mX10_oldWarnings : Mi := (yX10_oldWarnings, cX10_oldWarnings, 5, (some .int))
theorem mvX10_oldWarnings : MV mX10_oldWarnings 1 := ⟨gw_t4 223 rfl rfl, gw_t1 1 rfl rfl, ⟨by decide, by decide⟩, by decide +kernel, by decide⟩
theorem miX10_oldWarnings : MVi mX10_oldWarnings := ⟨gw_t4 222 rfl rfl, gw_p3 3 rfl rfl⟩
def mX10_missedCells : Mi := (yX10_missedCells, cX10_missedCells, 5, (some .int))
theorem mvX10_missedCells : MV mX10_missedCells 1 := ⟨gw_t4 213 rfl rfl, gw_t1 1 rfl rfl, ⟨by decide, by decide⟩, by decide +kernel, by decide⟩
theorem miX10_missedCells : MVi mX10_missedCells := ⟨gw_t4 212 rfl rfl, gw_p3 2 rfl rfl⟩
def mX10_housesOfSet : Mi := (yX10_housesOfSet, cX10_housesOfSet, 4, (some .int))
theorem mvX10_housesOfSet : MV mX10_housesOfSet 2 := ⟨gw_t5 11 rfl rfl, gw_t1 1 rfl rfl, ⟨by decide, by decide⟩, by decide +kernel, by decide⟩
theorem msX10_housesOfSet : Cond.static mX10_housesOfSet.1 ∈ gw := gw_t5 10 rfl rfl
def mX10_peopleToMove : Mi := (yX10_peopleToMove, cX10_peopleToMove, 4, (some .int))
theorem mvX10_peopleToMove : MV mX10_peopleToMove 1 := ⟨gw_t5 15 rfl rfl, gw_t1 1 rfl rfl, ⟨by decide, by decide⟩, by decide +kernel, by decide⟩
theorem miX10_peopleToMove : MVi mX10_peopleToMove := ⟨gw_t5 14 rfl rfl, gw_p3 5 rfl rfl⟩
def mX10_sparedBy : Mi := (yX10_sparedBy, cX10_sparedBy, 5, (some .int))
theorem mvX10_sparedBy : MV mX10_sparedBy 1 := ⟨gw_t5 19 rfl rfl, gw_t1 1 rfl rfl, ⟨by decide, by decide⟩, by decide +kernel, by decide⟩
theorem miX10_sparedBy : MVi mX10_sparedBy := ⟨gw_t5 18 rfl rfl, gw_p3 6 rfl rfl⟩
def mX11_in : Mi := (yX11_in, cX11_in, 4, (some .boolean))
theorem mvX11_in : MV mX11_in 3 := ⟨gw_t6 89 rfl rfl, gw_t1 18 rfl rfl, ⟨by decide, by decide⟩, by decide +kernel, by decide⟩
theorem miX11_in : MVi mX11_in := ⟨gw_t6 88 rfl rfl, gw_p3 8 rfl rfl⟩
def mX11_isCell : Mi := (yX11_isCell, cX11_isCell, 2, (some .boolean))
theorem mvX11_isCell : MV mX11_isCell 1 := ⟨gw_t6 85 rfl rfl, gw_t1 18 rfl rfl, ⟨by decide, by decide⟩, by decide +kernel, by decide⟩
theorem miX11_isCell : MVi mX11_isCell := ⟨gw_t6 84 rfl rfl, gw_p3 7 rfl rfl⟩
def mX11_init : Mi := (yX11_init, cX11_init, 2, none)
theorem mvX11_init : MV mX11_init 0 := ⟨gw_t5 84 rfl rfl, gw_t1 18 rfl rfl, ⟨by decide, by decide⟩, by decide +kernel, by decide⟩
def mX11_ground : Mi := (yX11_ground, cX11_ground, 5, (some .int))
theorem mvX11_ground : MV mX11_ground 3 := ⟨gw_t6 81 rfl rfl, gw_t1 18 rfl rfl, ⟨by decide, by decide⟩, by decide +kernel, by decide⟩
theorem miX11_ground : MVi mX11_ground := ⟨gw_t6 79 rfl rfl, gw_t6 80 rfl rfl⟩
def mX11_house : Mi := (yX11_house, cX11_house, 4, (some .int))
theorem mvX11_house : MV mX11_house 3 := ⟨gw_t6 93 rfl rfl, gw_t1 18 rfl rfl, ⟨by decide, by decide⟩, by decide +kernel, by decide⟩
theorem miX11_house : MVi mX11_house := ⟨gw_t6 91 rfl rfl, gw_t6 92 rfl rfl⟩
def mX11_pump : Mi := (yX11_pump, cX11_pump, 2, (some .int))
theorem mvX11_pump : MV mX11_pump 1 := ⟨gw_t6 98 rfl rfl, gw_t1 18 rfl rfl, ⟨by decide, by decide⟩, by decide +kernel, by decide⟩
theorem miX11_pump : MVi mX11_pump := ⟨gw_t6 96 rfl rfl, gw_t6 97 rfl rfl⟩
def mX11_pumping : Mi := (yX11_pumping, cX11_pumping, 4, (some .int))
theorem mvX11_pumping : MV mX11_pumping 2 := ⟨gw_t6 102 rfl rfl, gw_t1 18 rfl rfl, ⟨by decide, by decide⟩, by decide +kernel, by decide⟩
theorem miX11_pumping : MVi mX11_pumping := ⟨gw_t6 100 rfl rfl, gw_t6 101 rfl rfl⟩
def mX11_rain : Mi := (yX11_rain, cX11_rain, 3, (some .int))
theorem mvX11_rain : MV mX11_rain 1 := ⟨gw_t6 106 rfl rfl, gw_t1 18 rfl rfl, ⟨by decide, by decide⟩, by decide +kernel, by decide⟩
theorem miX11_rain : MVi mX11_rain := ⟨gw_t6 104 rfl rfl, gw_t6 105 rfl rfl⟩
def mX11_isHouse : Mi := (yX11_isHouse, cX11_isHouse, 2, (some .boolean))
theorem mvX11_isHouse : MV mX11_isHouse 1 := ⟨gw_t6 114 rfl rfl, gw_t1 18 rfl rfl, ⟨by decide, by decide⟩, by decide +kernel, by decide⟩
theorem miX11_isHouse : MVi mX11_isHouse := ⟨gw_t6 113 rfl rfl, gw_p3 9 rfl rfl⟩
def mX11_move : Mi := (yX11_move, cX11_move, 2, (some .int))
theorem mvX11_move : MV mX11_move 1 := ⟨gw_t6 110 rfl rfl, gw_t1 18 rfl rfl, ⟨by decide, by decide⟩, by decide +kernel, by decide⟩
theorem miX11_move : MVi mX11_move := ⟨gw_t6 108 rfl rfl, gw_t6 109 rfl rfl⟩
def mX11_wentBy : Mi := (yX11_wentBy, cX11_wentBy, 3, none)
theorem mvX11_wentBy : MV mX11_wentBy 2 := ⟨gw_t6 126 rfl rfl, gw_t1 18 rfl rfl, ⟨by decide, by decide⟩, by decide +kernel, by decide⟩
theorem miX11_wentBy : MVi mX11_wentBy := ⟨gw_t6 125 rfl rfl, gw_p3 11 rfl rfl⟩
def mX11_between : Mi := (yX11_between, cX11_between, 4, none)
theorem mvX11_between : MV mX11_between 2 := ⟨gw_t6 130 rfl rfl, gw_t1 18 rfl rfl, ⟨by decide, by decide⟩, by decide +kernel, by decide⟩
theorem miX11_between : MVi mX11_between := ⟨gw_t6 129 rfl rfl, gw_p3 12 rfl rfl⟩
def mX11_harmOf : Mi := (yX11_harmOf, cX11_harmOf, 2, (some .int))
theorem mvX11_harmOf : MV mX11_harmOf 1 := ⟨gw_t6 134 rfl rfl, gw_t1 18 rfl rfl, ⟨by decide, by decide⟩, by decide +kernel, by decide⟩
theorem miX11_harmOf : MVi mX11_harmOf := ⟨gw_t6 133 rfl rfl, gw_p3 13 rfl rfl⟩
def mX11_goMonth : Mi := (yX11_goMonth, cX11_goMonth, 3, none)
theorem mvX11_goMonth : MV mX11_goMonth 0 := ⟨gw_t6 122 rfl rfl, gw_t1 18 rfl rfl, ⟨by decide, by decide⟩, by decide +kernel, by decide⟩
theorem miX11_goMonth : MVi mX11_goMonth := ⟨gw_t6 121 rfl rfl, gw_p3 10 rfl rfl⟩
def mX11_run : Mi := (yX11_run, cX11_run, 3, (some .int))
theorem mvX11_run : MV mX11_run 1 := ⟨gw_t6 118 rfl rfl, gw_t1 18 rfl rfl, ⟨by decide, by decide⟩, by decide +kernel, by decide⟩
theorem miX11_run : MVi mX11_run := ⟨gw_t6 116 rfl rfl, gw_t6 117 rfl rfl⟩
def mX11_isKnown : Mi := (yX11_isKnown, cX11_isKnown, 2, (some .boolean))
theorem mvX11_isKnown : MV mX11_isKnown 1 := ⟨gw_t6 154 rfl rfl, gw_t1 18 rfl rfl, ⟨by decide, by decide⟩, by decide +kernel, by decide⟩
theorem miX11_isKnown : MVi mX11_isKnown := ⟨gw_t6 153 rfl rfl, gw_p3 15 rfl rfl⟩
def mX11_sign : Mi := (yX11_sign, cX11_sign, 4, (some .int))
theorem mvX11_sign : MV mX11_sign 3 := ⟨gw_t6 138 rfl rfl, gw_t1 18 rfl rfl, ⟨by decide, by decide⟩, by decide +kernel, by decide⟩
theorem miX11_sign : MVi mX11_sign := ⟨gw_t6 136 rfl rfl, gw_t6 137 rfl rfl⟩
def mX11_isSign : Mi := (yX11_isSign, cX11_isSign, 2, (some .boolean))
theorem mvX11_isSign : MV mX11_isSign 1 := ⟨gw_t6 146 rfl rfl, gw_t1 18 rfl rfl, ⟨by decide, by decide⟩, by decide +kernel, by decide⟩
theorem miX11_isSign : MVi mX11_isSign := ⟨gw_t6 145 rfl rfl, gw_p3 14 rfl rfl⟩
def mX11_mend : Mi := (yX11_mend, cX11_mend, 3, (some .int))
theorem mvX11_mend : MV mX11_mend 2 := ⟨gw_t6 142 rfl rfl, gw_t1 18 rfl rfl, ⟨by decide, by decide⟩, by decide +kernel, by decide⟩
theorem miX11_mend : MVi mX11_mend := ⟨gw_t6 140 rfl rfl, gw_t6 141 rfl rfl⟩
def mX11_valueOf : Mi := (yX11_valueOf, cX11_valueOf, 3, (some .int))
theorem mvX11_valueOf : MV mX11_valueOf 2 := ⟨gw_t6 158 rfl rfl, gw_t1 18 rfl rfl, ⟨by decide, by decide⟩, by decide +kernel, by decide⟩
theorem miX11_valueOf : MVi mX11_valueOf := ⟨gw_t6 157 rfl rfl, gw_p4 0 rfl rfl⟩
def mX11_leastOf : Mi := (yX11_leastOf, cX11_leastOf, 5, (some .int))
theorem mvX11_leastOf : MV mX11_leastOf 2 := ⟨gw_t6 162 rfl rfl, gw_t1 18 rfl rfl, ⟨by decide, by decide⟩, by decide +kernel, by decide⟩
theorem miX11_leastOf : MVi mX11_leastOf := ⟨gw_t6 161 rfl rfl, gw_p4 1 rfl rfl⟩
def mX11_mostOf : Mi := (yX11_mostOf, cX11_mostOf, 3, (some .int))
theorem mvX11_mostOf : MV mX11_mostOf 2 := ⟨gw_t6 166 rfl rfl, gw_t1 18 rfl rfl, ⟨by decide, by decide⟩, by decide +kernel, by decide⟩
theorem miX11_mostOf : MVi mX11_mostOf := ⟨gw_t6 165 rfl rfl, gw_p4 2 rfl rfl⟩
def mX11_trustOf : Mi := (yX11_trustOf, cX11_trustOf, 2, (some .int))
theorem mvX11_trustOf : MV mX11_trustOf 1 := ⟨gw_t6 170 rfl rfl, gw_t1 18 rfl rfl, ⟨by decide, by decide⟩, by decide +kernel, by decide⟩
theorem miX11_trustOf : MVi mX11_trustOf := ⟨gw_t6 169 rfl rfl, gw_p4 3 rfl rfl⟩
def mX11_signTold : Mi := (yX11_signTold, cX11_signTold, 4, (some .int))
theorem mvX11_signTold : MV mX11_signTold 3 := ⟨gw_t6 150 rfl rfl, gw_t1 18 rfl rfl, ⟨by decide, by decide⟩, by decide +kernel, by decide⟩
theorem miX11_signTold : MVi mX11_signTold := ⟨gw_t6 148 rfl rfl, gw_t6 149 rfl rfl⟩
def mX11_findSpan : Mi := (yX11_findSpan, cX11_findSpan, 5, none)
theorem mvX11_findSpan : MV mX11_findSpan 3 := ⟨gw_t6 178 rfl rfl, gw_t1 18 rfl rfl, ⟨by decide, by decide⟩, by decide +kernel, by decide⟩
theorem miX11_findSpan : MVi mX11_findSpan := ⟨gw_t6 177 rfl rfl, gw_p4 4 rfl rfl⟩
def mX11_span : Mi := (yX11_span, cX11_span, 4, (some .int))
theorem mvX11_span : MV mX11_span 3 := ⟨gw_t6 174 rfl rfl, gw_t1 18 rfl rfl, ⟨by decide, by decide⟩, by decide +kernel, by decide⟩
theorem miX11_span : MVi mX11_span := ⟨gw_t6 172 rfl rfl, gw_t6 173 rfl rfl⟩
def mX11_lost : Mi := (yX11_lost, cX11_lost, 3, (some .int))
theorem mvX11_lost : MV mX11_lost 2 := ⟨gw_t6 182 rfl rfl, gw_t1 18 rfl rfl, ⟨by decide, by decide⟩, by decide +kernel, by decide⟩
theorem miX11_lost : MVi mX11_lost := ⟨gw_t6 180 rfl rfl, gw_t6 181 rfl rfl⟩
def mX11_isNear : Mi := (yX11_isNear, cX11_isNear, 5, (some .boolean))
theorem mvX11_isNear : MV mX11_isNear 2 := ⟨gw_t6 198 rfl rfl, gw_t1 18 rfl rfl, ⟨by decide, by decide⟩, by decide +kernel, by decide⟩
theorem miX11_isNear : MVi mX11_isNear := ⟨gw_t6 197 rfl rfl, gw_p4 7 rfl rfl⟩
def mX11_isFit : Mi := (yX11_isFit, cX11_isFit, 6, (some .boolean))
theorem mvX11_isFit : MV mX11_isFit 1 := ⟨gw_t6 194 rfl rfl, gw_t1 18 rfl rfl, ⟨by decide, by decide⟩, by decide +kernel, by decide⟩
theorem miX11_isFit : MVi mX11_isFit := ⟨gw_t6 193 rfl rfl, gw_p4 6 rfl rfl⟩
def mX11_fit : Mi := (yX11_fit, cX11_fit, 11, (some .int))
theorem mvX11_fit : MV mX11_fit 2 := ⟨gw_t6 186 rfl rfl, gw_t1 18 rfl rfl, ⟨by decide, by decide⟩, by decide +kernel, by decide⟩
theorem miX11_fit : MVi mX11_fit := ⟨gw_t6 184 rfl rfl, gw_t6 185 rfl rfl⟩
def mX11_fitTold : Mi := (yX11_fitTold, cX11_fitTold, 3, (some .int))
theorem mvX11_fitTold : MV mX11_fitTold 2 := ⟨gw_t6 202 rfl rfl, gw_t1 18 rfl rfl, ⟨by decide, by decide⟩, by decide +kernel, by decide⟩
theorem miX11_fitTold : MVi mX11_fitTold := ⟨gw_t6 200 rfl rfl, gw_t6 201 rfl rfl⟩
def mX11_feed : Mi := (yX11_feed, cX11_feed, 5, (some .int))
theorem mvX11_feed : MV mX11_feed 2 := ⟨gw_t6 206 rfl rfl, gw_t1 18 rfl rfl, ⟨by decide, by decide⟩, by decide +kernel, by decide⟩
theorem miX11_feed : MVi mX11_feed := ⟨gw_t6 204 rfl rfl, gw_t6 205 rfl rfl⟩
def mX11_byteAt : Mi := (yX11_byteAt, cX11_byteAt, 2, (some .int))
theorem mvX11_byteAt : MV mX11_byteAt 1 := ⟨gw_t6 222 rfl rfl, gw_t1 18 rfl rfl, ⟨by decide, by decide⟩, by decide +kernel, by decide⟩
theorem miX11_byteAt : MVi mX11_byteAt := ⟨gw_t6 221 rfl rfl, gw_p4 10 rfl rfl⟩
def mX11_isLetter : Mi := (yX11_isLetter, cX11_isLetter, 2, (some .boolean))
theorem mvX11_isLetter : MV mX11_isLetter 1 := ⟨gw_t6 226 rfl rfl, gw_t1 18 rfl rfl, ⟨by decide, by decide⟩, by decide +kernel, by decide⟩
theorem miX11_isLetter : MVi mX11_isLetter := ⟨gw_t6 225 rfl rfl, gw_p4 11 rfl rfl⟩
def mX11_isDigit : Mi := (yX11_isDigit, cX11_isDigit, 2, (some .boolean))
theorem mvX11_isDigit : MV mX11_isDigit 1 := ⟨gw_t7 11 rfl rfl, gw_t1 18 rfl rfl, ⟨by decide, by decide⟩, by decide +kernel, by decide⟩
theorem miX11_isDigit : MVi mX11_isDigit := ⟨gw_t7 10 rfl rfl, gw_p4 13 rfl rfl⟩
def mX11_wordOf : Mi := (yX11_wordOf, cX11_wordOf, 3, (some .int))
theorem mvX11_wordOf : MV mX11_wordOf 1 := ⟨gw_t6 233 rfl rfl, gw_t1 18 rfl rfl, ⟨by decide, by decide⟩, by decide +kernel, by decide⟩
theorem miX11_wordOf : MVi mX11_wordOf := ⟨gw_t6 232 rfl rfl, gw_p4 12 rfl rfl⟩
def mX11_step : Mi := (yX11_step, cX11_step, 5, none)
theorem mvX11_step : MV mX11_step 0 := ⟨gw_t6 218 rfl rfl, gw_t1 18 rfl rfl, ⟨by decide, by decide⟩, by decide +kernel, by decide⟩
theorem miX11_step : MVi mX11_step := ⟨gw_t6 217 rfl rfl, gw_p4 9 rfl rfl⟩
def mX11_isKey : Mi := (yX11_isKey, cX11_isKey, 2, (some .boolean))
theorem mvX11_isKey : MV mX11_isKey 1 := ⟨gw_t7 15 rfl rfl, gw_t1 18 rfl rfl, ⟨by decide, by decide⟩, by decide +kernel, by decide⟩
theorem miX11_isKey : MVi mX11_isKey := ⟨gw_t7 14 rfl rfl, gw_p4 14 rfl rfl⟩
def mX11_rankOf : Mi := (yX11_rankOf, cX11_rankOf, 2, (some .int))
theorem mvX11_rankOf : MV mX11_rankOf 1 := ⟨gw_t7 35 rfl rfl, gw_t1 18 rfl rfl, ⟨by decide, by decide⟩, by decide +kernel, by decide⟩
theorem miX11_rankOf : MVi mX11_rankOf := ⟨gw_t7 34 rfl rfl, gw_p5 3 rfl rfl⟩
def mX11_work : Mi := (yX11_work, cX11_work, 4, none)
theorem mvX11_work : MV mX11_work 1 := ⟨gw_t7 39 rfl rfl, gw_t1 18 rfl rfl, ⟨by decide, by decide⟩, by decide +kernel, by decide⟩
theorem miX11_work : MVi mX11_work := ⟨gw_t7 38 rfl rfl, gw_p5 4 rfl rfl⟩
def mX11_settle : Mi := (yX11_settle, cX11_settle, 2, none)
theorem mvX11_settle : MV mX11_settle 1 := ⟨gw_t7 31 rfl rfl, gw_t1 18 rfl rfl, ⟨by decide, by decide⟩, by decide +kernel, by decide⟩
theorem miX11_settle : MVi mX11_settle := ⟨gw_t7 30 rfl rfl, gw_p5 2 rfl rfl⟩
def mX11_opens : Mi := (yX11_opens, cX11_opens, 2, (some .boolean))
theorem mvX11_opens : MV mX11_opens 1 := ⟨gw_t7 23 rfl rfl, gw_t1 18 rfl rfl, ⟨by decide, by decide⟩, by decide +kernel, by decide⟩
theorem miX11_opens : MVi mX11_opens := ⟨gw_t7 22 rfl rfl, gw_p5 0 rfl rfl⟩
def mX11_push : Mi := (yX11_push, cX11_push, 2, none)
theorem mvX11_push : MV mX11_push 1 := ⟨gw_t7 27 rfl rfl, gw_t1 18 rfl rfl, ⟨by decide, by decide⟩, by decide +kernel, by decide⟩
theorem miX11_push : MVi mX11_push := ⟨gw_t7 26 rfl rfl, gw_p5 1 rfl rfl⟩
def mX11_joins : Mi := (yX11_joins, cX11_joins, 2, (some .boolean))
theorem mvX11_joins : MV mX11_joins 1 := ⟨gw_t7 47 rfl rfl, gw_t1 18 rfl rfl, ⟨by decide, by decide⟩, by decide +kernel, by decide⟩
theorem miX11_joins : MVi mX11_joins := ⟨gw_t7 46 rfl rfl, gw_p5 6 rfl rfl⟩
def mX11_joint : Mi := (yX11_joint, cX11_joint, 1, (some .int))
theorem mvX11_joint : MV mX11_joint 0 := ⟨gw_t7 43 rfl rfl, gw_t1 18 rfl rfl, ⟨by decide, by decide⟩, by decide +kernel, by decide⟩
theorem miX11_joint : MVi mX11_joint := ⟨gw_t7 42 rfl rfl, gw_p5 5 rfl rfl⟩
def mX11_takesE : Mi := (yX11_takesE, cX11_takesE, 4, (some .boolean))
theorem mvX11_takesE : MV mX11_takesE 0 := ⟨gw_t7 19 rfl rfl, gw_t1 18 rfl rfl, ⟨by decide, by decide⟩, by decide +kernel, by decide⟩
theorem miX11_takesE : MVi mX11_takesE := ⟨gw_t7 18 rfl rfl, gw_p4 15 rfl rfl⟩
def mX11_goes : Mi := (yX11_goes, cX11_goes, 3, (some .boolean))
theorem mvX11_goes : MV mX11_goes 1 := ⟨gw_t6 214 rfl rfl, gw_t1 18 rfl rfl, ⟨by decide, by decide⟩, by decide +kernel, by decide⟩
theorem miX11_goes : MVi mX11_goes := ⟨gw_t6 213 rfl rfl, gw_p4 8 rfl rfl⟩
def mX11_text : Mi := (yX11_text, cX11_text, 2, (some .int))
theorem mvX11_text : MV mX11_text 0 := ⟨gw_t6 210 rfl rfl, gw_t1 18 rfl rfl, ⟨by decide, by decide⟩, by decide +kernel, by decide⟩
theorem miX11_text : MVi mX11_text := ⟨gw_t6 208 rfl rfl, gw_t6 209 rfl rfl⟩
def mX11_force : Mi := (yX11_force, cX11_force, 3, (some .int))
theorem mvX11_force : MV mX11_force 1 := ⟨gw_t7 51 rfl rfl, gw_t1 18 rfl rfl, ⟨by decide, by decide⟩, by decide +kernel, by decide⟩
theorem miX11_force : MVi mX11_force := ⟨gw_t7 49 rfl rfl, gw_t7 50 rfl rfl⟩
def mX11_peopleIn : Mi := (yX11_peopleIn, cX11_peopleIn, 4, (some .int))
theorem mvX11_peopleIn : MV mX11_peopleIn 1 := ⟨gw_t7 71 rfl rfl, gw_t1 18 rfl rfl, ⟨by decide, by decide⟩, by decide +kernel, by decide⟩
theorem miX11_peopleIn : MVi mX11_peopleIn := ⟨gw_t7 70 rfl rfl, gw_p5 10 rfl rfl⟩
def mX11_doubtOf : Mi := (yX11_doubtOf, cX11_doubtOf, 3, (some .int))
theorem mvX11_doubtOf : MV mX11_doubtOf 2 := ⟨gw_t7 67 rfl rfl, gw_t1 18 rfl rfl, ⟨by decide, by decide⟩, by decide +kernel, by decide⟩
theorem miX11_doubtOf : MVi mX11_doubtOf := ⟨gw_t7 66 rfl rfl, gw_p5 9 rfl rfl⟩
def mX11_findFacts : Mi := (yX11_findFacts, cX11_findFacts, 4, none)
theorem mvX11_findFacts : MV mX11_findFacts 2 := ⟨gw_t7 63 rfl rfl, gw_t1 18 rfl rfl, ⟨by decide, by decide⟩, by decide +kernel, by decide⟩
theorem miX11_findFacts : MVi mX11_findFacts := ⟨gw_t7 62 rfl rfl, gw_p5 8 rfl rfl⟩
def mX11_lawOf : Mi := (yX11_lawOf, cX11_lawOf, 4, (some .int))
theorem mvX11_lawOf : MV mX11_lawOf 3 := ⟨gw_t7 59 rfl rfl, gw_t1 18 rfl rfl, ⟨by decide, by decide⟩, by decide +kernel, by decide⟩
theorem miX11_lawOf : MVi mX11_lawOf := ⟨gw_t7 58 rfl rfl, gw_p5 7 rfl rfl⟩
def mX11_law : Mi := (yX11_law, cX11_law, 4, (some .long))
theorem mvX11_law : MV mX11_law 3 := ⟨gw_t7 55 rfl rfl, gw_t1 18 rfl rfl, ⟨by decide, by decide⟩, by decide +kernel, by decide⟩
theorem miX11_law : MVi mX11_law := ⟨gw_t7 53 rfl rfl, gw_t7 54 rfl rfl⟩
def mX11_moved : Mi := (yX11_moved, cX11_moved, 5, (some .long))
theorem mvX11_moved : MV mX11_moved 1 := ⟨gw_t7 76 rfl rfl, gw_t1 18 rfl rfl, ⟨by decide, by decide⟩, by decide +kernel, by decide⟩
theorem miX11_moved : MVi mX11_moved := ⟨gw_t7 74 rfl rfl, gw_t7 75 rfl rfl⟩
def mX11_part : Mi := (yX11_part, cX11_part, 6, (some .long))
theorem mvX11_part : MV mX11_part 2 := ⟨gw_t7 80 rfl rfl, gw_t1 18 rfl rfl, ⟨by decide, by decide⟩, by decide +kernel, by decide⟩
theorem miX11_part : MVi mX11_part := ⟨gw_t7 78 rfl rfl, gw_t7 79 rfl rfl⟩
def mX11_looks : Mi := (yX11_looks, cX11_looks, 13, (some .int))
theorem mvX11_looks : MV mX11_looks 3 := ⟨gw_t7 85 rfl rfl, gw_t1 18 rfl rfl, ⟨by decide, by decide⟩, by decide +kernel, by decide⟩
theorem miX11_looks : MVi mX11_looks := ⟨gw_t7 83 rfl rfl, gw_t7 84 rfl rfl⟩
def mX11_lookTold : Mi := (yX11_lookTold, cX11_lookTold, 1, (some .int))
theorem mvX11_lookTold : MV mX11_lookTold 0 := ⟨gw_t7 90 rfl rfl, gw_t1 18 rfl rfl, ⟨by decide, by decide⟩, by decide +kernel, by decide⟩
theorem miX11_lookTold : MVi mX11_lookTold := ⟨gw_t7 88 rfl rfl, gw_t7 89 rfl rfl⟩
def mX11_divisor : Mi := (yX11_divisor, cX11_divisor, 11, (some .long))
theorem mvX11_divisor : MV mX11_divisor 2 := ⟨gw_t7 98 rfl rfl, gw_t1 18 rfl rfl, ⟨by decide, by decide⟩, by decide +kernel, by decide⟩
theorem miX11_divisor : MVi mX11_divisor := ⟨gw_t7 97 rfl rfl, gw_p5 11 rfl rfl⟩
def mX11_often : Mi := (yX11_often, cX11_often, 5, (some .long))
theorem mvX11_often : MV mX11_often 2 := ⟨gw_t7 94 rfl rfl, gw_t1 18 rfl rfl, ⟨by decide, by decide⟩, by decide +kernel, by decide⟩
theorem miX11_often : MVi mX11_often := ⟨gw_t7 92 rfl rfl, gw_t7 93 rfl rfl⟩
def mX11_warn : Mi := (yX11_warn, cX11_warn, 2, (some .int))
theorem mvX11_warn : MV mX11_warn 1 := ⟨gw_t7 102 rfl rfl, gw_t1 18 rfl rfl, ⟨by decide, by decide⟩, by decide +kernel, by decide⟩
theorem miX11_warn : MVi mX11_warn := ⟨gw_t7 100 rfl rfl, gw_t7 101 rfl rfl⟩
def mX11_isTrue : Mi := (yX11_isTrue, cX11_isTrue, 3, (some .boolean))
theorem mvX11_isTrue : MV mX11_isTrue 2 := ⟨gw_t7 110 rfl rfl, gw_t1 18 rfl rfl, ⟨by decide, by decide⟩, by decide +kernel, by decide⟩
theorem miX11_isTrue : MVi mX11_isTrue := ⟨gw_t7 109 rfl rfl, gw_p5 12 rfl rfl⟩
def mX11_warned : Mi := (yX11_warned, cX11_warned, 7, (some .int))
theorem mvX11_warned : MV mX11_warned 2 := ⟨gw_t7 106 rfl rfl, gw_t1 18 rfl rfl, ⟨by decide, by decide⟩, by decide +kernel, by decide⟩
theorem miX11_warned : MVi mX11_warned := ⟨gw_t7 104 rfl rfl, gw_t7 105 rfl rfl⟩
def mX11_cellTold : Mi := (yX11_cellTold, cX11_cellTold, 3, (some .int))
theorem mvX11_cellTold : MV mX11_cellTold 2 := ⟨gw_t7 114 rfl rfl, gw_t1 18 rfl rfl, ⟨by decide, by decide⟩, by decide +kernel, by decide⟩
theorem miX11_cellTold : MVi mX11_cellTold := ⟨gw_t7 112 rfl rfl, gw_t7 113 rfl rfl⟩
def mX11_houseTold : Mi := (yX11_houseTold, cX11_houseTold, 3, (some .int))
theorem mvX11_houseTold : MV mX11_houseTold 2 := ⟨gw_t7 118 rfl rfl, gw_t1 18 rfl rfl, ⟨by decide, by decide⟩, by decide +kernel, by decide⟩
theorem miX11_houseTold : MVi mX11_houseTold := ⟨gw_t7 116 rfl rfl, gw_t7 117 rfl rfl⟩
def mX11_cellsFallen : Mi := (yX11_cellsFallen, cX11_cellsFallen, 3, (some .int))
theorem mvX11_cellsFallen : MV mX11_cellsFallen 0 := ⟨gw_t7 126 rfl rfl, gw_t1 18 rfl rfl, ⟨by decide, by decide⟩, by decide +kernel, by decide⟩
theorem miX11_cellsFallen : MVi mX11_cellsFallen := ⟨gw_t7 125 rfl rfl, gw_p5 13 rfl rfl⟩
def mX11_keep : Mi := (yX11_keep, cX11_keep, 3, none)
theorem mvX11_keep : MV mX11_keep 1 := ⟨gw_t7 130 rfl rfl, gw_t1 18 rfl rfl, ⟨by decide, by decide⟩, by decide +kernel, by decide⟩
theorem miX11_keep : MVi mX11_keep := ⟨gw_t7 129 rfl rfl, gw_p5 14 rfl rfl⟩
def mX11_putBack : Mi := (yX11_putBack, cX11_putBack, 5, none)
theorem mvX11_putBack : MV mX11_putBack 3 := ⟨gw_t7 134 rfl rfl, gw_t1 18 rfl rfl, ⟨by decide, by decide⟩, by decide +kernel, by decide⟩
theorem miX11_putBack : MVi mX11_putBack := ⟨gw_t7 133 rfl rfl, gw_p5 15 rfl rfl⟩
def mX11_beside : Mi := (yX11_beside, cX11_beside, 9, (some .long))
theorem mvX11_beside : MV mX11_beside 4 := ⟨gw_t7 122 rfl rfl, gw_t1 18 rfl rfl, ⟨by decide, by decide⟩, by decide +kernel, by decide⟩
theorem miX11_beside : MVi mX11_beside := ⟨gw_t7 120 rfl rfl, gw_t7 121 rfl rfl⟩
def mX11_plan : Mi := (yX11_plan, cX11_plan, 13, (some .long))
theorem mvX11_plan : MV mX11_plan 3 := ⟨gw_t7 138 rfl rfl, gw_t1 18 rfl rfl, ⟨by decide, by decide⟩, by decide +kernel, by decide⟩
theorem miX11_plan : MVi mX11_plan := ⟨gw_t7 136 rfl rfl, gw_t7 137 rfl rfl⟩
def mX11_planned : Mi := (yX11_planned, cX11_planned, 1, (some .int))
theorem mvX11_planned : MV mX11_planned 0 := ⟨gw_t7 142 rfl rfl, gw_t1 18 rfl rfl, ⟨by decide, by decide⟩, by decide +kernel, by decide⟩
theorem miX11_planned : MVi mX11_planned := ⟨gw_t7 140 rfl rfl, gw_t7 141 rfl rfl⟩
def mX11_image : Mi := (yX11_image, cX11_image, 1, (some .int))
theorem mvX11_image : MV mX11_image 0 := ⟨gw_t7 146 rfl rfl, gw_t1 18 rfl rfl, ⟨by decide, by decide⟩, by decide +kernel, by decide⟩
theorem miX11_image : MVi mX11_image := ⟨gw_t7 144 rfl rfl, gw_t7 145 rfl rfl⟩
def mX11_back : Mi := (yX11_back, cX11_back, 1, (some .int))
theorem mvX11_back : MV mX11_back 0 := ⟨gw_t7 150 rfl rfl, gw_t1 18 rfl rfl, ⟨by decide, by decide⟩, by decide +kernel, by decide⟩
theorem miX11_back : MVi mX11_back := ⟨gw_t7 148 rfl rfl, gw_t7 149 rfl rfl⟩
def mX11_count : Mi := (yX11_count, cX11_count, 2, (some .int))
theorem mvX11_count : MV mX11_count 1 := ⟨gw_t7 154 rfl rfl, gw_t1 18 rfl rfl, ⟨by decide, by decide⟩, by decide +kernel, by decide⟩
theorem miX11_count : MVi mX11_count := ⟨gw_t7 152 rfl rfl, gw_t7 153 rfl rfl⟩
def mX11_isSheet : Mi := (yX11_isSheet, cX11_isSheet, 2, (some .boolean))
theorem mvX11_isSheet : MV mX11_isSheet 1 := ⟨gw_t6 190 rfl rfl, gw_t1 18 rfl rfl, ⟨by decide, by decide⟩, by decide +kernel, by decide⟩
theorem miX11_isSheet : MVi mX11_isSheet := ⟨gw_t6 189 rfl rfl, gw_p4 5 rfl rfl⟩
def mX11_sheet : Mi := (yX11_sheet, cX11_sheet, 5, (some .int))
theorem mvX11_sheet : MV mX11_sheet 3 := ⟨gw_t7 158 rfl rfl, gw_t1 18 rfl rfl, ⟨by decide, by decide⟩, by decide +kernel, by decide⟩
theorem miX11_sheet : MVi mX11_sheet := ⟨gw_t7 156 rfl rfl, gw_t7 157 rfl rfl⟩
def mX11_cell : Mi := (yX11_cell, cX11_cell, 4, (some .int))
theorem mvX11_cell : MV mX11_cell 3 := ⟨gw_t7 162 rfl rfl, gw_t1 18 rfl rfl, ⟨by decide, by decide⟩, by decide +kernel, by decide⟩
theorem miX11_cell : MVi mX11_cell := ⟨gw_t7 160 rfl rfl, gw_t7 161 rfl rfl⟩
def mX11_copy : Mi := (yX11_copy, cX11_copy, 7, (some .int))
theorem mvX11_copy : MV mX11_copy 5 := ⟨gw_t7 166 rfl rfl, gw_t1 18 rfl rfl, ⟨by decide, by decide⟩, by decide +kernel, by decide⟩
theorem miX11_copy : MVi mX11_copy := ⟨gw_t7 164 rfl rfl, gw_t7 165 rfl rfl⟩
def mX11_signs : Mi := (yX11_signs, cX11_signs, 8, (some .int))
theorem mvX11_signs : MV mX11_signs 4 := ⟨gw_t7 170 rfl rfl, gw_t1 18 rfl rfl, ⟨by decide, by decide⟩, by decide +kernel, by decide⟩
theorem miX11_signs : MVi mX11_signs := ⟨gw_t7 168 rfl rfl, gw_t7 169 rfl rfl⟩
def mX11_isOfKind : Mi := (yX11_isOfKind, cX11_isOfKind, 3, (some .boolean))
theorem mvX11_isOfKind : MV mX11_isOfKind 2 := ⟨gw_t7 179 rfl rfl, gw_t1 18 rfl rfl, ⟨by decide, by decide⟩, by decide +kernel, by decide⟩
theorem miX11_isOfKind : MVi mX11_isOfKind := ⟨gw_t7 178 rfl rfl, gw_p6 0 rfl rfl⟩
def mX11_taken : Mi := (yX11_taken, cX11_taken, 4, (some .int))
theorem mvX11_taken : MV mX11_taken 3 := ⟨gw_t7 175 rfl rfl, gw_t1 18 rfl rfl, ⟨by decide, by decide⟩, by decide +kernel, by decide⟩
theorem miX11_taken : MVi mX11_taken := ⟨gw_t7 173 rfl rfl, gw_t7 174 rfl rfl⟩
def mJ13_bitCount_95d88 : Mi := (yJ13_bitCount_95d88, cJ13_bitCount_95d88, 2, (some .int))
theorem mvJ13_bitCount_95d88 : MV mJ13_bitCount_95d88 1 := ⟨gw_t4 216 rfl rfl, gw_t1 19 rfl rfl, ⟨by decide, by decide⟩, by decide +kernel, by decide⟩
theorem msJ13_bitCount_95d88 : Cond.static mJ13_bitCount_95d88.1 ∈ gw := gw_t4 215 rfl rfl
def mJ9_abs_0f7a4 : Mi := (yJ9_abs_0f7a4, cJ9_abs_0f7a4, 1, (some .int))
theorem mvJ9_abs_0f7a4 : MV mJ9_abs_0f7a4 1 := ⟨gw_t3 207 rfl rfl, gw_t1 6 rfl rfl, ⟨by decide, by decide⟩, by decide +kernel, by decide⟩
theorem msJ9_abs_0f7a4 : Cond.static mJ9_abs_0f7a4.1 ∈ gw := gw_t3 206 rfl rfl
def mJ9_max_7cf53 : Mi := (yJ9_max_7cf53, cJ9_max_7cf53, 2, (some .int))
theorem mvJ9_max_7cf53 : MV mJ9_max_7cf53 2 := ⟨gw_t1 179 rfl rfl, gw_t1 6 rfl rfl, ⟨by decide, by decide⟩, by decide +kernel, by decide⟩
theorem msJ9_max_7cf53 : Cond.static mJ9_max_7cf53.1 ∈ gw := gw_t1 178 rfl rfl
def mJ9_min_7cf53 : Mi := (yJ9_min_7cf53, cJ9_min_7cf53, 2, (some .int))
theorem mvJ9_min_7cf53 : MV mJ9_min_7cf53 2 := ⟨gw_t3 185 rfl rfl, gw_t1 6 rfl rfl, ⟨by decide, by decide⟩, by decide +kernel, by decide⟩
theorem msJ9_min_7cf53 : Cond.static mJ9_min_7cf53.1 ∈ gw := gw_t3 184 rfl rfl
def mJ0_length_8abf5 : Mi := (yJ0_length_8abf5, cJ0_length_8abf5, 1, (some .int))
theorem mvJ0_length_8abf5 : MV mJ0_length_8abf5 0 := ⟨gw_t2 149 rfl rfl, gw_t1 13 rfl rfl, ⟨by decide, by decide⟩, by decide +kernel, by decide⟩
theorem miJ0_length_8abf5 : MVi mJ0_length_8abf5 := ⟨gw_t2 147 rfl rfl, gw_t2 148 rfl rfl⟩
def mJ0_charAt_5068e : Mi := (yJ0_charAt_5068e, cJ0_charAt_5068e, 2, (some .char))
theorem mvJ0_charAt_5068e : MV mJ0_charAt_5068e 1 := ⟨gw_t2 159 rfl rfl, gw_t1 13 rfl rfl, ⟨by decide, by decide⟩, by decide +kernel, by decide⟩
theorem miJ0_charAt_5068e : MVi mJ0_charAt_5068e := ⟨gw_t2 157 rfl rfl, gw_t2 158 rfl rfl⟩
def mJ0_coder_7d493 : Mi := (yJ0_coder_7d493, cJ0_coder_7d493, 1, (some .byte))
theorem mvJ0_coder_7d493 : MV mJ0_coder_7d493 0 := ⟨gw_t2 153 rfl rfl, gw_t1 13 rfl rfl, ⟨by decide, by decide⟩, by decide +kernel, by decide⟩
theorem miJ0_coder_7d493 : MVi mJ0_coder_7d493 := ⟨gw_t2 151 rfl rfl, gw_t2 152 rfl rfl⟩
def mJ0_isLatin1_aae02 : Mi := (yJ0_isLatin1_aae02, cJ0_isLatin1_aae02, 1, (some .boolean))
theorem mvJ0_isLatin1_aae02 : MV mJ0_isLatin1_aae02 0 := ⟨gw_t2 163 rfl rfl, gw_t1 13 rfl rfl, ⟨by decide, by decide⟩, by decide +kernel, by decide⟩
theorem miJ0_isLatin1_aae02 : MVi mJ0_isLatin1_aae02 := ⟨gw_t2 161 rfl rfl, gw_t2 162 rfl rfl⟩
def mJ0_checkIndex_df160 : Mi := (yJ0_checkIndex_df160, cJ0_checkIndex_df160, 2, none)
theorem mvJ0_checkIndex_df160 : MV mJ0_checkIndex_df160 2 := ⟨gw_t2 169 rfl rfl, gw_t1 13 rfl rfl, ⟨by decide, by decide⟩, by decide +kernel, by decide⟩
theorem msJ0_checkIndex_df160 : Cond.static mJ0_checkIndex_df160.1 ∈ gw := gw_t2 168 rfl rfl
def mJ1_charAt_3b067 : Mi := (yJ1_charAt_3b067, cJ1_charAt_3b067, 2, (some .char))
theorem mvJ1_charAt_3b067 : MV mJ1_charAt_3b067 2 := ⟨gw_t2 166 rfl rfl, gw_t1 14 rfl rfl, ⟨by decide, by decide⟩, by decide +kernel, by decide⟩
theorem msJ1_charAt_3b067 : Cond.static mJ1_charAt_3b067.1 ∈ gw := gw_t2 165 rfl rfl
def mJ2_getChar_3b067 : Mi := (yJ2_getChar_3b067, cJ2_getChar_3b067, 2, (some .char))
theorem mvJ2_getChar_3b067 : MV mJ2_getChar_3b067 2 := ⟨gw_t2 187 rfl rfl, gw_t1 16 rfl rfl, ⟨by decide, by decide⟩, by decide +kernel, by decide⟩
theorem msJ2_getChar_3b067 : Cond.static mJ2_getChar_3b067.1 ∈ gw := gw_t2 186 rfl rfl
def mJ2_length_9d52b : Mi := (yJ2_length_9d52b, cJ2_length_9d52b, 1, (some .int))
theorem mvJ2_length_9d52b : MV mJ2_length_9d52b 1 := ⟨gw_t2 183 rfl rfl, gw_t1 16 rfl rfl, ⟨by decide, by decide⟩, by decide +kernel, by decide⟩
theorem msJ2_length_9d52b : Cond.static mJ2_length_9d52b.1 ∈ gw := gw_t2 182 rfl rfl
def mJ2_charAt_3b067 : Mi := (yJ2_charAt_3b067, cJ2_charAt_3b067, 2, (some .char))
theorem mvJ2_charAt_3b067 : MV mJ2_charAt_3b067 2 := ⟨gw_t2 177 rfl rfl, gw_t1 16 rfl rfl, ⟨by decide, by decide⟩, by decide +kernel, by decide⟩
theorem msJ2_charAt_3b067 : Cond.static mJ2_charAt_3b067.1 ∈ gw := gw_t2 176 rfl rfl
def mJ2_checkIndex_2214a : Mi := (yJ2_checkIndex_2214a, cJ2_checkIndex_2214a, 2, none)
theorem mvJ2_checkIndex_2214a : MV mJ2_checkIndex_2214a 2 := ⟨gw_t2 180 rfl rfl, gw_t1 16 rfl rfl, ⟨by decide, by decide⟩, by decide +kernel, by decide⟩
theorem msJ2_checkIndex_2214a : Cond.static mJ2_checkIndex_2214a.1 ∈ gw := gw_t2 179 rfl rfl
def mJ3_checkIndex_8e157 : Mi := (yJ3_checkIndex_8e157, cJ3_checkIndex_8e157, 3, (some .int))
theorem mvJ3_checkIndex_8e157 : MV mJ3_checkIndex_8e157 3 := ⟨gw_t2 174 rfl rfl, gw_t1 15 rfl rfl, ⟨by decide, by decide⟩, by decide +kernel, by decide⟩
theorem msJ3_checkIndex_8e157 : Cond.static mJ3_checkIndex_8e157.1 ∈ gw := gw_t2 173 rfl rfl
theorem mlX10_18 : Cond.methodLink RX10 18 mX2_init.1 ∈ gw := gw_t1 67 rfl rfl
theorem mlX10_44 : Cond.methodLink RX10 44 mX9_init.1 ∈ gw := gw_t1 173 rfl rfl
theorem mlX10_63 : Cond.methodLink RX10 63 mX4_init.1 ∈ gw := gw_t2 14 rfl rfl
theorem mlX10_86 : Cond.methodLink RX10 86 mX4_feedFirstText.1 ∈ gw := gw_t2 141 rfl rfl
theorem mlX10_89 : Cond.methodLink RX10 89 mX4_takeTape.1 ∈ gw := gw_t2 198 rfl rfl
theorem mlX10_93 : Cond.methodLink RX10 93 mX10_isCell.1 ∈ gw := gw_t3 124 rfl rfl
theorem mlX10_97 : Cond.methodLink RX10 97 mX10_within.1 ∈ gw := gw_t3 127 rfl rfl
theorem mlX10_101 : Cond.methodLink RX10 101 mX2_hasFallen.1 ∈ gw := gw_t3 130 rfl rfl
theorem mlX10_114 : Cond.methodLink RX10 114 mX0_addHouse.1 ∈ gw := gw_t3 139 rfl rfl
theorem mlX10_121 : Cond.methodLink RX10 121 mX0_addPump.1 ∈ gw := gw_t3 147 rfl rfl
theorem mlX10_131 : Cond.methodLink RX10 131 mX10_isHouse.1 ∈ gw := gw_t3 163 rfl rfl
theorem mlX10_144 : Cond.methodLink RX10 144 mX10_monthsAreLeft.1 ∈ gw := gw_t3 171 rfl rfl
theorem mlX10_147 : Cond.methodLink RX10 147 mX2_passMonths.1 ∈ gw := gw_t3 175 rfl rfl
theorem mlX10_156 : Cond.methodLink RX10 156 mX6_add.1 ∈ gw := gw_t3 226 rfl rfl
theorem mlX10_160 : Cond.methodLink RX10 160 mX10_isSign.1 ∈ gw := gw_t3 234 rfl rfl
theorem mlX10_172 : Cond.methodLink RX10 172 mX10_isKnown.1 ∈ gw := gw_t4 2 rfl rfl
theorem mlX10_178 : Cond.methodLink RX10 178 mX6_valueKnown.1 ∈ gw := gw_t4 6 rfl rfl
theorem mlX10_187 : Cond.methodLink RX10 187 mX6_leastBy.1 ∈ gw := gw_t4 10 rfl rfl
theorem mlX10_190 : Cond.methodLink RX10 190 mX6_mostBy.1 ∈ gw := gw_t4 14 rfl rfl
theorem mlX10_193 : Cond.methodLink RX10 193 mX6_trustIn.1 ∈ gw := gw_t4 17 rfl rfl
theorem mlX10_196 : Cond.methodLink RX10 196 mX6_least.1 ∈ gw := gw_t4 24 rfl rfl
theorem mlX10_199 : Cond.methodLink RX10 199 mX6_most.1 ∈ gw := gw_t4 35 rfl rfl
theorem mlX10_202 : Cond.methodLink RX10 202 mX9_isFull.1 ∈ gw := gw_t4 45 rfl rfl
theorem mlX10_206 : Cond.methodLink RX10 206 mX9_add.1 ∈ gw := gw_t4 49 rfl rfl
theorem mlX10_208 : Cond.methodLink RX10 208 mX10_isSheet.1 ∈ gw := gw_t4 58 rfl rfl
theorem mlX10_211 : Cond.methodLink RX10 211 mX5_isMissing.1 ∈ gw := gw_t4 61 rfl rfl
theorem mlX10_215 : Cond.methodLink RX10 215 mX10_holdsUnlikeCells.1 ∈ gw := gw_t4 65 rfl rfl
theorem mlX10_219 : Cond.methodLink RX10 219 mX1_search.1 ∈ gw := gw_t4 68 rfl rfl
theorem mlX10_247 : Cond.methodLink RX10 247 mX7_put.1 ∈ gw := gw_t4 107 rfl rfl
theorem mlX10_258 : Cond.methodLink RX10 258 mX10_ruled.1 ∈ gw := gw_t4 121 rfl rfl
theorem mlX10_261 : Cond.methodLink RX10 261 mX2_peopleAt.1 ∈ gw := gw_t4 155 rfl rfl
theorem mlX10_269 : Cond.methodLink RX10 269 mJ9_min_7cf53.1 ∈ gw := gw_t4 161 rfl rfl
theorem mlX10_274 : Cond.methodLink RX10 274 mJ9_max_7cf53.1 ∈ gw := gw_t4 162 rfl rfl
theorem mlX10_277 : Cond.methodLink RX10 277 mX2_harmOf.1 ∈ gw := gw_t4 163 rfl rfl
theorem mlX10_280 : Cond.methodLink RX10 280 mX10_holdsLooks.1 ∈ gw := gw_t4 168 rfl rfl
theorem mlX10_287 : Cond.methodLink RX10 287 mX10_worthOfLook.1 ∈ gw := gw_t4 172 rfl rfl
theorem mlX10_290 : Cond.methodLink RX10 290 mX10_priceOfSet.1 ∈ gw := gw_t4 176 rfl rfl
theorem mlX10_294 : Cond.methodLink RX10 294 mX10_worthOfSet.1 ∈ gw := gw_t4 179 rfl rfl
theorem mlX10_303 : Cond.methodLink RX10 303 mX10_greatestShared.1 ∈ gw := gw_t4 191 rfl rfl
theorem mlX10_306 : Cond.methodLink RX10 306 mX10_trueWarnings.1 ∈ gw := gw_t4 202 rfl rfl
theorem mlX10_309 : Cond.methodLink RX10 309 mX10_missedCells.1 ∈ gw := gw_t4 210 rfl rfl
theorem mlX10_312 : Cond.methodLink RX10 312 mX10_oldWarnings.1 ∈ gw := gw_t4 220 rfl rfl
theorem mlX10_324 : Cond.methodLink RX10 324 mX2_become.1 ∈ gw := gw_t4 236 rfl rfl
theorem mlX10_334 : Cond.methodLink RX10 334 mX10_holdsHouses.1 ∈ gw := gw_t5 5 rfl rfl
theorem mlX10_337 : Cond.methodLink RX10 337 mX10_housesOfSet.1 ∈ gw := gw_t5 9 rfl rfl
theorem mlX10_340 : Cond.methodLink RX10 340 mX10_peopleToMove.1 ∈ gw := gw_t5 12 rfl rfl
theorem mlX10_343 : Cond.methodLink RX10 343 mX10_sparedBy.1 ∈ gw := gw_t5 16 rfl rfl
theorem mlX10_350 : Cond.methodLink RX10 350 mX5_begin.1 ∈ gw := gw_t5 40 rfl rfl
theorem mlX10_354 : Cond.methodLink RX10 354 mX5_has.1 ∈ gw := gw_t5 50 rfl rfl
theorem mlX10_357 : Cond.methodLink RX10 357 mX5_put.1 ∈ gw := gw_t5 56 rfl rfl
theorem mlX10_365 : Cond.methodLink RX10 365 mX10_sign.1 ∈ gw := gw_t5 70 rfl rfl
theorem mlX10_368 : Cond.methodLink RX10 368 mX6_isOneOf.1 ∈ gw := gw_t5 75 rfl rfl
theorem mlX10_373 : Cond.methodLink RX10 373 mJ9_abs_0f7a4.1 ∈ gw := gw_t4 82 rfl rfl
theorem mlX10_376 : Cond.methodLink RX10 376 mX4_tellSpan.1 ∈ gw := gw_t4 125 rfl rfl
theorem mlX10_379 : Cond.methodLink RX10 379 mX4_tellGround.1 ∈ gw := gw_t4 130 rfl rfl
theorem mlX10_383 : Cond.methodLink RX10 383 mX4_value.1 ∈ gw := gw_t4 144 rfl rfl
theorem mlX10_386 : Cond.methodLink RX10 386 mX10_cameTrue.1 ∈ gw := gw_t4 206 rfl rfl
theorem mlX10_389 : Cond.methodLink RX10 389 mJ13_bitCount_95d88.1 ∈ gw := gw_t4 214 rfl rfl
theorem mlX1_57 : Cond.methodLink RX1 57 mJ9_min_7cf53.1 ∈ gw := gw_t4 72 rfl rfl
theorem mlX1_66 : Cond.methodLink RX1 66 mX6_least.1 ∈ gw := gw_t4 73 rfl rfl
theorem mlX1_71 : Cond.methodLink RX1 71 mX6_most.1 ∈ gw := gw_t4 74 rfl rfl
theorem mlX1_74 : Cond.methodLink RX1 74 mX1_gatherNeeds.1 ∈ gw := gw_t4 75 rfl rfl
theorem mlX1_81 : Cond.methodLink RX1 81 mX1_takeSizes.1 ∈ gw := gw_t4 85 rfl rfl
theorem mlX1_85 : Cond.methodLink RX1 85 mX1_meetsNeeds.1 ∈ gw := gw_t4 89 rfl rfl
theorem mlX1_89 : Cond.methodLink RX1 89 mX1_weighUp.1 ∈ gw := gw_t4 93 rfl rfl
theorem mlX1_114 : Cond.methodLink RX1 114 mJ9_max_7cf53.1 ∈ gw := gw_t4 98 rfl rfl
theorem mlX2_93 : Cond.methodLink RX2 93 mX2_rainDown.1 ∈ gw := gw_t3 179 rfl rfl
theorem mlX2_96 : Cond.methodLink RX2 96 mX2_pumpOut.1 ∈ gw := gw_t3 186 rfl rfl
theorem mlX2_99 : Cond.methodLink RX2 99 mX2_flow.1 ∈ gw := gw_t3 197 rfl rfl
theorem mlX2_102 : Cond.methodLink RX2 102 mX2_letFall.1 ∈ gw := gw_t3 208 rfl rfl
theorem mlX2_105 : Cond.methodLink RX2 105 mJ9_min_7cf53.1 ∈ gw := gw_t3 183 rfl rfl
theorem mlX2_111 : Cond.methodLink RX2 111 mX2_solve.1 ∈ gw := gw_t3 190 rfl rfl
theorem mlX2_115 : Cond.methodLink RX2 115 mX2_go.1 ∈ gw := gw_t3 201 rfl rfl
theorem mlX2_119 : Cond.methodLink RX2 119 mJ9_abs_0f7a4.1 ∈ gw := gw_t3 205 rfl rfl
theorem mlX2_123 : Cond.methodLink RX2 123 mX2_hasFallen.1 ∈ gw := gw_t3 194 rfl rfl
theorem mlX2_133 : Cond.methodLink RX2 133 mX2_takeHouses.1 ∈ gw := gw_t3 214 rfl rfl
theorem mlX2_137 : Cond.methodLink RX2 137 mX2_harmOf.1 ∈ gw := gw_t3 218 rfl rfl
theorem mlX3_37 : Cond.methodLink RX3 37 mX7_kindAt.1 ∈ gw := gw_t3 17 rfl rfl
theorem mlX3_41 : Cond.methodLink RX3 41 mX3_expect.1 ∈ gw := gw_t3 21 rfl rfl
theorem mlX3_45 : Cond.methodLink RX3 45 mX3_readOr.1 ∈ gw := gw_t3 37 rfl rfl
theorem mlX3_52 : Cond.methodLink RX3 52 mX3_readAnd.1 ∈ gw := gw_t3 41 rfl rfl
theorem mlX3_55 : Cond.methodLink RX3 55 mX3_advance.1 ∈ gw := gw_t3 25 rfl rfl
theorem mlX3_58 : Cond.methodLink RX3 58 mX8_add.1 ∈ gw := gw_t3 49 rfl rfl
theorem mlX3_61 : Cond.methodLink RX3 61 mX3_readNot.1 ∈ gw := gw_t3 45 rfl rfl
theorem mlX3_64 : Cond.methodLink RX3 64 mX3_readSum.1 ∈ gw := gw_t3 53 rfl rfl
theorem mlX3_67 : Cond.methodLink RX3 67 mX3_readTerm.1 ∈ gw := gw_t3 57 rfl rfl
theorem mlX3_70 : Cond.methodLink RX3 70 mX3_readOne.1 ∈ gw := gw_t3 61 rfl rfl
theorem mlX3_73 : Cond.methodLink RX3 73 mX7_numberAt.1 ∈ gw := gw_t3 65 rfl rfl
theorem mlX3_76 : Cond.methodLink RX3 76 mX3_refuse.1 ∈ gw := gw_t3 29 rfl rfl
theorem mlX3_79 : Cond.methodLink RX3 79 mX7_placeAt.1 ∈ gw := gw_t3 33 rfl rfl
theorem mlX4_27 : Cond.methodLink RX4 27 mX3_init.1 ∈ gw := gw_t2 50 rfl rfl
theorem mlX4_50 : Cond.methodLink RX4 50 mJ0_length_8abf5.1 ∈ gw := gw_t2 146 rfl rfl
theorem mlX4_56 : Cond.methodLink RX4 56 mJ0_charAt_5068e.1 ∈ gw := gw_t2 156 rfl rfl
theorem mlX4_60 : Cond.methodLink RX4 60 mX7_put.1 ∈ gw := gw_t2 194 rfl rfl
theorem mlX4_64 : Cond.methodLink RX4 64 mX7_split.1 ∈ gw := gw_t2 202 rfl rfl
theorem mlX4_67 : Cond.methodLink RX4 67 mX3_read.1 ∈ gw := gw_t3 13 rfl rfl
theorem mlX4_77 : Cond.methodLink RX4 77 mX8_become.1 ∈ gw := gw_t3 69 rfl rfl
theorem mlX4_81 : Cond.methodLink RX4 81 mJ9_max_7cf53.1 ∈ gw := gw_t4 129 rfl rfl
theorem mlX4_92 : Cond.methodLink RX4 92 mX2_peopleAt.1 ∈ gw := gw_t4 134 rfl rfl
theorem mlX4_96 : Cond.methodLink RX4 96 mX2_pumpsNear.1 ∈ gw := gw_t4 138 rfl rfl
theorem mlX4_99 : Cond.methodLink RX4 99 mX2_hasFallen.1 ∈ gw := gw_t4 143 rfl rfl
theorem mlX4_112 : Cond.methodLink RX4 112 mX4_joined.1 ∈ gw := gw_t4 148 rfl rfl
theorem mlX5_22 : Cond.methodLink RX5 22 mX5_isMissing.1 ∈ gw := gw_t5 54 rfl rfl
theorem mlX5_30 : Cond.methodLink RX5 30 mJ9_min_7cf53.1 ∈ gw := gw_t5 44 rfl rfl
theorem mlX5_36 : Cond.methodLink RX5 36 mJ9_max_7cf53.1 ∈ gw := gw_t5 45 rfl rfl
theorem mlX5_39 : Cond.methodLink RX5 39 mX5_has.1 ∈ gw := gw_t5 60 rfl rfl
theorem mlX6_34 : Cond.methodLink RX6 34 mX6_speaks.1 ∈ gw := gw_t4 28 rfl rfl
theorem mlX6_38 : Cond.methodLink RX6 38 mX6_valueKnown.1 ∈ gw := gw_t4 33 rfl rfl
theorem mlX6_42 : Cond.methodLink RX6 42 mX6_leastBy.1 ∈ gw := gw_t4 34 rfl rfl
theorem mlX6_45 : Cond.methodLink RX6 45 mJ9_max_7cf53.1 ∈ gw := gw_t4 13 rfl rfl
theorem mlX6_50 : Cond.methodLink RX6 50 mX6_mostBy.1 ∈ gw := gw_t4 39 rfl rfl
theorem mlX6_53 : Cond.methodLink RX6 53 mJ9_min_7cf53.1 ∈ gw := gw_t4 40 rfl rfl
theorem mlX6_56 : Cond.methodLink RX6 56 mX6_trustIn.1 ∈ gw := gw_t4 32 rfl rfl
theorem mlX7_34 : Cond.methodLink RX7 34 mX7_goOn.1 ∈ gw := gw_t2 206 rfl rfl
theorem mlX7_38 : Cond.methodLink RX7 38 mX7_tellKind.1 ∈ gw := gw_t2 215 rfl rfl
theorem mlX7_42 : Cond.methodLink RX7 42 mX7_isLetter.1 ∈ gw := gw_t2 209 rfl rfl
theorem mlX7_46 : Cond.methodLink RX7 46 mX7_isDigit.1 ∈ gw := gw_t2 212 rfl rfl
theorem mlX7_49 : Cond.methodLink RX7 49 mX7_tellWord.1 ∈ gw := gw_t2 219 rfl rfl
theorem mlX7_52 : Cond.methodLink RX7 52 mX7_tellNumber.1 ∈ gw := gw_t3 6 rfl rfl
theorem mlX7_55 : Cond.methodLink RX7 55 mX7_isMark.1 ∈ gw := gw_t3 10 rfl rfl
theorem mlX7_58 : Cond.methodLink RX7 58 mX7_wordAt.1 ∈ gw := gw_t2 223 rfl rfl
theorem mlX7_62 : Cond.methodLink RX7 62 mX7_spells.1 ∈ gw := gw_t3 0 rfl rfl
theorem mlX7_66 : Cond.methodLink RX7 66 mJ0_length_8abf5.1 ∈ gw := gw_t3 4 rfl rfl
theorem mlX7_71 : Cond.methodLink RX7 71 mJ0_charAt_5068e.1 ∈ gw := gw_t3 5 rfl rfl
theorem mlX9_15 : Cond.methodLink RX9 15 mJ9_max_7cf53.1 ∈ gw := gw_t1 177 rfl rfl
theorem mlX9_31 : Cond.methodLink RX9 31 mX9_isFull.1 ∈ gw := gw_t4 53 rfl rfl
theorem mlX11_1 : Cond.methodLink RX11 1 mX11_in.1 ∈ gw := gw_t6 86 rfl rfl
theorem mlX11_248 : Cond.methodLink RX11 248 mX11_isCell.1 ∈ gw := gw_t6 82 rfl rfl
theorem mlX11_253 : Cond.methodLink RX11 253 mX11_isHouse.1 ∈ gw := gw_t6 111 rfl rfl
theorem mlX11_256 : Cond.methodLink RX11 256 mX11_wentBy.1 ∈ gw := gw_t6 123 rfl rfl
theorem mlX11_260 : Cond.methodLink RX11 260 mX11_between.1 ∈ gw := gw_t6 127 rfl rfl
theorem mlX11_263 : Cond.methodLink RX11 263 mX11_harmOf.1 ∈ gw := gw_t6 131 rfl rfl
theorem mlX11_267 : Cond.methodLink RX11 267 mX11_goMonth.1 ∈ gw := gw_t6 119 rfl rfl
theorem mlX11_270 : Cond.methodLink RX11 270 mX11_isSign.1 ∈ gw := gw_t6 143 rfl rfl
theorem mlX11_273 : Cond.methodLink RX11 273 mX11_valueOf.1 ∈ gw := gw_t6 155 rfl rfl
theorem mlX11_277 : Cond.methodLink RX11 277 mX11_isKnown.1 ∈ gw := gw_t6 151 rfl rfl
theorem mlX11_280 : Cond.methodLink RX11 280 mX11_leastOf.1 ∈ gw := gw_t6 159 rfl rfl
theorem mlX11_283 : Cond.methodLink RX11 283 mX11_mostOf.1 ∈ gw := gw_t6 163 rfl rfl
theorem mlX11_286 : Cond.methodLink RX11 286 mX11_trustOf.1 ∈ gw := gw_t6 167 rfl rfl
theorem mlX11_289 : Cond.methodLink RX11 289 mX11_findSpan.1 ∈ gw := gw_t6 175 rfl rfl
theorem mlX11_293 : Cond.methodLink RX11 293 mX11_isNear.1 ∈ gw := gw_t6 195 rfl rfl
theorem mlX11_297 : Cond.methodLink RX11 297 mX11_isSheet.1 ∈ gw := gw_t6 187 rfl rfl
theorem mlX11_300 : Cond.methodLink RX11 300 mX11_isFit.1 ∈ gw := gw_t6 191 rfl rfl
theorem mlX11_331 : Cond.methodLink RX11 331 mX11_byteAt.1 ∈ gw := gw_t6 219 rfl rfl
theorem mlX11_334 : Cond.methodLink RX11 334 mX11_isLetter.1 ∈ gw := gw_t6 223 rfl rfl
theorem mlX11_343 : Cond.methodLink RX11 343 mX11_wordOf.1 ∈ gw := gw_t6 230 rfl rfl
theorem mlX11_347 : Cond.methodLink RX11 347 mX11_isDigit.1 ∈ gw := gw_t7 8 rfl rfl
theorem mlX11_350 : Cond.methodLink RX11 350 mX11_rankOf.1 ∈ gw := gw_t7 32 rfl rfl
theorem mlX11_353 : Cond.methodLink RX11 353 mX11_work.1 ∈ gw := gw_t7 36 rfl rfl
theorem mlX11_357 : Cond.methodLink RX11 357 mX11_step.1 ∈ gw := gw_t6 215 rfl rfl
theorem mlX11_360 : Cond.methodLink RX11 360 mX11_settle.1 ∈ gw := gw_t7 28 rfl rfl
theorem mlX11_363 : Cond.methodLink RX11 363 mX11_isKey.1 ∈ gw := gw_t7 12 rfl rfl
theorem mlX11_366 : Cond.methodLink RX11 366 mX11_opens.1 ∈ gw := gw_t7 20 rfl rfl
theorem mlX11_369 : Cond.methodLink RX11 369 mX11_push.1 ∈ gw := gw_t7 24 rfl rfl
theorem mlX11_372 : Cond.methodLink RX11 372 mX11_joint.1 ∈ gw := gw_t7 40 rfl rfl
theorem mlX11_376 : Cond.methodLink RX11 376 mX11_joins.1 ∈ gw := gw_t7 44 rfl rfl
theorem mlX11_379 : Cond.methodLink RX11 379 mX11_takesE.1 ∈ gw := gw_t7 16 rfl rfl
theorem mlX11_383 : Cond.methodLink RX11 383 mX11_goes.1 ∈ gw := gw_t6 211 rfl rfl
theorem mlX11_386 : Cond.methodLink RX11 386 mX11_doubtOf.1 ∈ gw := gw_t7 64 rfl rfl
theorem mlX11_389 : Cond.methodLink RX11 389 mX11_peopleIn.1 ∈ gw := gw_t7 68 rfl rfl
theorem mlX11_392 : Cond.methodLink RX11 392 mX11_findFacts.1 ∈ gw := gw_t7 60 rfl rfl
theorem mlX11_395 : Cond.methodLink RX11 395 mX11_lawOf.1 ∈ gw := gw_t7 56 rfl rfl
theorem mlX11_404 : Cond.methodLink RX11 404 mX11_divisor.1 ∈ gw := gw_t7 95 rfl rfl
theorem mlX11_408 : Cond.methodLink RX11 408 mX11_isTrue.1 ∈ gw := gw_t7 107 rfl rfl
theorem mlX11_411 : Cond.methodLink RX11 411 mX11_cellsFallen.1 ∈ gw := gw_t7 123 rfl rfl
theorem mlX11_414 : Cond.methodLink RX11 414 mX11_keep.1 ∈ gw := gw_t7 127 rfl rfl
theorem mlX11_417 : Cond.methodLink RX11 417 mX11_putBack.1 ∈ gw := gw_t7 131 rfl rfl
theorem mlX11_420 : Cond.methodLink RX11 420 mX11_sign.1 ∈ gw := gw_t7 171 rfl rfl
theorem mlX11_423 : Cond.methodLink RX11 423 mX11_isOfKind.1 ∈ gw := gw_t7 176 rfl rfl
theorem mlJ0_335 : Cond.methodLink RJ0 335 mJ0_coder_7d493.1 ∈ gw := gw_t2 150 rfl rfl
theorem mlJ0_492 : Cond.methodLink RJ0 492 mJ0_isLatin1_aae02.1 ∈ gw := gw_t2 160 rfl rfl
theorem mlJ0_495 : Cond.methodLink RJ0 495 mJ1_charAt_3b067.1 ∈ gw := gw_t2 164 rfl rfl
theorem mlJ0_498 : Cond.methodLink RJ0 498 mJ2_charAt_3b067.1 ∈ gw := gw_t2 175 rfl rfl
theorem mlJ0_1059 : Cond.methodLink RJ0 1059 mJ3_checkIndex_8e157.1 ∈ gw := gw_t2 172 rfl rfl
theorem mlJ1_9 : Cond.methodLink RJ1 9 mJ0_checkIndex_df160.1 ∈ gw := gw_t2 167 rfl rfl
theorem mlJ2_48 : Cond.methodLink RJ2 48 mJ2_length_9d52b.1 ∈ gw := gw_t2 181 rfl rfl
theorem mlJ2_67 : Cond.methodLink RJ2 67 mJ2_checkIndex_2214a.1 ∈ gw := gw_t2 178 rfl rfl
theorem mlJ2_71 : Cond.methodLink RJ2 71 mJ2_getChar_3b067.1 ∈ gw := gw_t2 185 rfl rfl
theorem mlJ2_414 : Cond.methodLink RJ2 414 mJ0_checkIndex_df160.1 ∈ gw := gw_t2 184 rfl rfl
theorem kcX10_110 : Cond.constant RX10 110 (99999) ∈ gw := gw_t3 138 rfl rfl
theorem kcX10_256 : Cond.constantLong RX10 256 (-4611686018427387904) ∈ gw := gw_t4 120 rfl rfl
theorem kcX10_264 : Cond.constantLong RX10 264 (-3) ∈ gw := gw_t4 160 rfl rfl
theorem kcX10_283 : Cond.constant RX10 283 (1000000) ∈ gw := gw_t4 171 rfl rfl
theorem kcL_72 : Cond.constantLong RL 72 (4294967295) ∈ gw := gw_t7 180 rfl rfl
theorem kcX11_252 : Cond.constant RX11 252 (99999) ∈ gw := gw_t6 94 rfl rfl
theorem kcX11_303 : Cond.constantLong RX11 303 (2794884) ∈ gw := gw_t6 234 rfl rfl
theorem kcX11_305 : Cond.constantLong RX11 305 (442053) ∈ gw := gw_t6 235 rfl rfl
theorem kcX11_307 : Cond.constantLong RX11 307 (16101) ∈ gw := gw_t6 236 rfl rfl
theorem kcX11_309 : Cond.constantLong RX11 309 (498) ∈ gw := gw_t6 237 rfl rfl
theorem kcX11_311 : Cond.constantLong RX11 311 (1476) ∈ gw := gw_t6 238 rfl rfl
theorem kcX11_313 : Cond.constantLong RX11 313 (14836) ∈ gw := gw_t6 239 rfl rfl
theorem kcX11_315 : Cond.constantLong RX11 315 (4707412) ∈ gw := gw_t7 0 rfl rfl
theorem kcX11_317 : Cond.constantLong RX11 317 (12748404) ∈ gw := gw_t7 1 rfl rfl
theorem kcX11_319 : Cond.constantLong RX11 319 (441972) ∈ gw := gw_t7 2 rfl rfl
theorem kcX11_321 : Cond.constantLong RX11 321 (605291) ∈ gw := gw_t7 3 rfl rfl
theorem kcX11_323 : Cond.constantLong RX11 323 (542622085) ∈ gw := gw_t7 4 rfl rfl
theorem kcX11_325 : Cond.constantLong RX11 325 (546224) ∈ gw := gw_t7 5 rfl rfl
theorem kcX11_327 : Cond.constantLong RX11 327 (202124) ∈ gw := gw_t7 6 rfl rfl
theorem kcX11_329 : Cond.constantLong RX11 329 (14137992) ∈ gw := gw_t7 7 rfl rfl
theorem kcX11_337 : Cond.constantLong RX11 337 (32) ∈ gw := gw_t6 227 rfl rfl
theorem kcX11_339 : Cond.constantLong RX11 339 (96) ∈ gw := gw_t6 228 rfl rfl
theorem kcX11_341 : Cond.constantLong RX11 341 (-1) ∈ gw := gw_t6 229 rfl rfl
theorem kcX11_399 : Cond.constantLong RX11 399 (-4611686018427387904) ∈ gw := gw_t7 72 rfl rfl
theorem kcX11_401 : Cond.constantLong RX11 401 (-3) ∈ gw := gw_t7 81 rfl rfl
theorem kcX11_403 : Cond.constant RX11 403 (1000000) ∈ gw := gw_t7 86 rfl rfl
theorem kcJ13_314 : Cond.constantLong RJ13 314 (6148914691236517205) ∈ gw := gw_t4 217 rfl rfl
theorem kcJ13_316 : Cond.constantLong RJ13 316 (3689348814741910323) ∈ gw := gw_t4 218 rfl rfl
theorem kcJ13_318 : Cond.constantLong RJ13 318 (1085102592571150095) ∈ gw := gw_t4 219 rfl rfl
end
