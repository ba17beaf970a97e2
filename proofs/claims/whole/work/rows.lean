section
-- ===== PART A: goes FIRST, ahead of the names: the tables' words, and 'selects' of the private methods out of them =====
/-- a private method of a class that the tables say can be made, by its rows of tables_1 -/
def lw_okq (q : MethodName × Nat) : Prop := (q.1.cls ≠ "java/lang/invoke/MethodHandle" ∧ q.1.cls ≠ "java/lang/invoke/VarHandle") ∧ Cond.instantiable q.1.cls q.2 ∈ tables_1 ∧ Cond.privateMethod q.1 ∈ tables_1 ∧ Cond.instanceMethod q.1 ∈ tables_1
theorem lw_p0 : lw_okq (⟨"HollowShire$Tape", "tellKind", "(I)V"⟩, 7) := ⟨⟨by decide +kernel, by decide +kernel⟩, List.mem_of_getElem? (i := 259) (by decide +kernel), List.mem_of_getElem? (i := 456) (by decide +kernel), List.mem_of_getElem? (i := 457) (by decide +kernel)⟩
theorem lw_p1 : lw_okq (⟨"HollowShire$Tape", "tellWord", "(I)V"⟩, 7) := ⟨⟨by decide +kernel, by decide +kernel⟩, List.mem_of_getElem? (i := 259) (by decide +kernel), List.mem_of_getElem? (i := 460) (by decide +kernel), List.mem_of_getElem? (i := 461) (by decide +kernel)⟩
theorem lw_p2 : lw_okq (⟨"HollowShire$Tape", "spells", "(ILjava/lang/String;)Z"⟩, 7) := ⟨⟨by decide +kernel, by decide +kernel⟩, List.mem_of_getElem? (i := 259) (by decide +kernel), List.mem_of_getElem? (i := 481) (by decide +kernel), List.mem_of_getElem? (i := 482) (by decide +kernel)⟩
theorem lw_p3 : lw_okq (⟨"HollowShire$Tape", "tellNumber", "(I)V"⟩, 7) := ⟨⟨by decide +kernel, by decide +kernel⟩, List.mem_of_getElem? (i := 259) (by decide +kernel), List.mem_of_getElem? (i := 487) (by decide +kernel), List.mem_of_getElem? (i := 488) (by decide +kernel)⟩
theorem lw_p4 : lw_okq (⟨"HollowShire$Reader", "expect", "(I)V"⟩, 5) := ⟨⟨by decide +kernel, by decide +kernel⟩, List.mem_of_getElem? (i := 289) (by decide +kernel), List.mem_of_getElem? (i := 502) (by decide +kernel), List.mem_of_getElem? (i := 503) (by decide +kernel)⟩
theorem lw_p5 : lw_okq (⟨"HollowShire$Reader", "advance", "()V"⟩, 5) := ⟨⟨by decide +kernel, by decide +kernel⟩, List.mem_of_getElem? (i := 289) (by decide +kernel), List.mem_of_getElem? (i := 506) (by decide +kernel), List.mem_of_getElem? (i := 507) (by decide +kernel)⟩
theorem lw_p6 : lw_okq (⟨"HollowShire$Reader", "refuse", "()V"⟩, 5) := ⟨⟨by decide +kernel, by decide +kernel⟩, List.mem_of_getElem? (i := 289) (by decide +kernel), List.mem_of_getElem? (i := 510) (by decide +kernel), List.mem_of_getElem? (i := 511) (by decide +kernel)⟩
theorem lw_p7 : lw_okq (⟨"HollowShire$Reader", "readOr", "(I)V"⟩, 5) := ⟨⟨by decide +kernel, by decide +kernel⟩, List.mem_of_getElem? (i := 289) (by decide +kernel), List.mem_of_getElem? (i := 518) (by decide +kernel), List.mem_of_getElem? (i := 519) (by decide +kernel)⟩
theorem lw_p8 : lw_okq (⟨"HollowShire$Reader", "readAnd", "(I)V"⟩, 5) := ⟨⟨by decide +kernel, by decide +kernel⟩, List.mem_of_getElem? (i := 289) (by decide +kernel), List.mem_of_getElem? (i := 522) (by decide +kernel), List.mem_of_getElem? (i := 523) (by decide +kernel)⟩
theorem lw_p9 : lw_okq (⟨"HollowShire$Reader", "readNot", "(I)V"⟩, 5) := ⟨⟨by decide +kernel, by decide +kernel⟩, List.mem_of_getElem? (i := 289) (by decide +kernel), List.mem_of_getElem? (i := 526) (by decide +kernel), List.mem_of_getElem? (i := 527) (by decide +kernel)⟩
theorem lw_p10 : lw_okq (⟨"HollowShire$Reader", "readSum", "(I)V"⟩, 5) := ⟨⟨by decide +kernel, by decide +kernel⟩, List.mem_of_getElem? (i := 289) (by decide +kernel), List.mem_of_getElem? (i := 534) (by decide +kernel), List.mem_of_getElem? (i := 535) (by decide +kernel)⟩
theorem lw_p11 : lw_okq (⟨"HollowShire$Reader", "readTerm", "(I)V"⟩, 5) := ⟨⟨by decide +kernel, by decide +kernel⟩, List.mem_of_getElem? (i := 289) (by decide +kernel), List.mem_of_getElem? (i := 538) (by decide +kernel), List.mem_of_getElem? (i := 539) (by decide +kernel)⟩
theorem lw_p12 : lw_okq (⟨"HollowShire$Reader", "readOne", "(I)V"⟩, 5) := ⟨⟨by decide +kernel, by decide +kernel⟩, List.mem_of_getElem? (i := 289) (by decide +kernel), List.mem_of_getElem? (i := 542) (by decide +kernel), List.mem_of_getElem? (i := 543) (by decide +kernel)⟩
theorem lw_p13 : lw_okq (⟨"HollowShire", "isHouse", "(I)Z"⟩, 14) := ⟨⟨by decide +kernel, by decide +kernel⟩, List.mem_of_getElem? (i := 21) (by decide +kernel), List.mem_of_getElem? (i := 644) (by decide +kernel), List.mem_of_getElem? (i := 645) (by decide +kernel)⟩
theorem lw_p14 : lw_okq (⟨"HollowShire", "monthsAreLeft", "(I)Z"⟩, 14) := ⟨⟨by decide +kernel, by decide +kernel⟩, List.mem_of_getElem? (i := 21) (by decide +kernel), List.mem_of_getElem? (i := 652) (by decide +kernel), List.mem_of_getElem? (i := 653) (by decide +kernel)⟩
theorem lw_p15 : lw_okq (⟨"HollowShire$Ground", "rainDown", "()V"⟩, 16) := ⟨⟨by decide +kernel, by decide +kernel⟩, List.mem_of_getElem? (i := 66) (by decide +kernel), List.mem_of_getElem? (i := 660) (by decide +kernel), List.mem_of_getElem? (i := 661) (by decide +kernel)⟩
def lw_privs_1 : List (MethodName × Nat) := [(⟨"HollowShire$Tape", "tellKind", "(I)V"⟩, 7), (⟨"HollowShire$Tape", "tellWord", "(I)V"⟩, 7), (⟨"HollowShire$Tape", "spells", "(ILjava/lang/String;)Z"⟩, 7), (⟨"HollowShire$Tape", "tellNumber", "(I)V"⟩, 7), (⟨"HollowShire$Reader", "expect", "(I)V"⟩, 5), (⟨"HollowShire$Reader", "advance", "()V"⟩, 5), (⟨"HollowShire$Reader", "refuse", "()V"⟩, 5), (⟨"HollowShire$Reader", "readOr", "(I)V"⟩, 5), (⟨"HollowShire$Reader", "readAnd", "(I)V"⟩, 5), (⟨"HollowShire$Reader", "readNot", "(I)V"⟩, 5), (⟨"HollowShire$Reader", "readSum", "(I)V"⟩, 5), (⟨"HollowShire$Reader", "readTerm", "(I)V"⟩, 5), (⟨"HollowShire$Reader", "readOne", "(I)V"⟩, 5), (⟨"HollowShire", "isHouse", "(I)Z"⟩, 14), (⟨"HollowShire", "monthsAreLeft", "(I)Z"⟩, 14), (⟨"HollowShire$Ground", "rainDown", "()V"⟩, 16)]
theorem lw_r1 : ∀ q ∈ lw_privs_1, lw_okq q := List.forall_mem_cons.mpr ⟨lw_p0, List.forall_mem_cons.mpr ⟨lw_p1, List.forall_mem_cons.mpr ⟨lw_p2, List.forall_mem_cons.mpr ⟨lw_p3, List.forall_mem_cons.mpr ⟨lw_p4, List.forall_mem_cons.mpr ⟨lw_p5, List.forall_mem_cons.mpr ⟨lw_p6, List.forall_mem_cons.mpr ⟨lw_p7, List.forall_mem_cons.mpr ⟨lw_p8, List.forall_mem_cons.mpr ⟨lw_p9, List.forall_mem_cons.mpr ⟨lw_p10, List.forall_mem_cons.mpr ⟨lw_p11, List.forall_mem_cons.mpr ⟨lw_p12, List.forall_mem_cons.mpr ⟨lw_p13, List.forall_mem_cons.mpr ⟨lw_p14, List.forall_mem_cons.mpr ⟨lw_p15, fun _ h => absurd h List.not_mem_nil⟩⟩⟩⟩⟩⟩⟩⟩⟩⟩⟩⟩⟩⟩⟩⟩
theorem lw_p16 : lw_okq (⟨"HollowShire$Ground", "pumpOut", "()V"⟩, 16) := ⟨⟨by decide +kernel, by decide +kernel⟩, List.mem_of_getElem? (i := 66) (by decide +kernel), List.mem_of_getElem? (i := 667) (by decide +kernel), List.mem_of_getElem? (i := 668) (by decide +kernel)⟩
theorem lw_p17 : lw_okq (⟨"HollowShire$Ground", "solve", "(II)V"⟩, 16) := ⟨⟨by decide +kernel, by decide +kernel⟩, List.mem_of_getElem? (i := 66) (by decide +kernel), List.mem_of_getElem? (i := 671) (by decide +kernel), List.mem_of_getElem? (i := 672) (by decide +kernel)⟩
theorem lw_p18 : lw_okq (⟨"HollowShire$Ground", "flow", "()V"⟩, 16) := ⟨⟨by decide +kernel, by decide +kernel⟩, List.mem_of_getElem? (i := 66) (by decide +kernel), List.mem_of_getElem? (i := 678) (by decide +kernel), List.mem_of_getElem? (i := 679) (by decide +kernel)⟩
theorem lw_p19 : lw_okq (⟨"HollowShire$Ground", "go", "(III)V"⟩, 16) := ⟨⟨by decide +kernel, by decide +kernel⟩, List.mem_of_getElem? (i := 66) (by decide +kernel), List.mem_of_getElem? (i := 682) (by decide +kernel), List.mem_of_getElem? (i := 683) (by decide +kernel)⟩
theorem lw_p20 : lw_okq (⟨"HollowShire$Ground", "letFall", "()V"⟩, 16) := ⟨⟨by decide +kernel, by decide +kernel⟩, List.mem_of_getElem? (i := 66) (by decide +kernel), List.mem_of_getElem? (i := 689) (by decide +kernel), List.mem_of_getElem? (i := 690) (by decide +kernel)⟩
theorem lw_p21 : lw_okq (⟨"HollowShire$Ground", "takeHouses", "(I)V"⟩, 16) := ⟨⟨by decide +kernel, by decide +kernel⟩, List.mem_of_getElem? (i := 66) (by decide +kernel), List.mem_of_getElem? (i := 695) (by decide +kernel), List.mem_of_getElem? (i := 696) (by decide +kernel)⟩
theorem lw_p22 : lw_okq (⟨"HollowShire", "isSign", "(I)Z"⟩, 14) := ⟨⟨by decide +kernel, by decide +kernel⟩, List.mem_of_getElem? (i := 21) (by decide +kernel), List.mem_of_getElem? (i := 715) (by decide +kernel), List.mem_of_getElem? (i := 716) (by decide +kernel)⟩
theorem lw_p23 : lw_okq (⟨"HollowShire", "isKnown", "(I)Z"⟩, 14) := ⟨⟨by decide +kernel, by decide +kernel⟩, List.mem_of_getElem? (i := 21) (by decide +kernel), List.mem_of_getElem? (i := 723) (by decide +kernel), List.mem_of_getElem? (i := 724) (by decide +kernel)⟩
theorem lw_p24 : lw_okq (⟨"HollowShire$Signs", "speaks", "(IIII)Z"⟩, 7) := ⟨⟨by decide +kernel, by decide +kernel⟩, List.mem_of_getElem? (i := 137) (by decide +kernel), List.mem_of_getElem? (i := 749) (by decide +kernel), List.mem_of_getElem? (i := 750) (by decide +kernel)⟩
theorem lw_p25 : lw_okq (⟨"HollowShire$Fit", "gatherNeeds", "(LHollowShire$Sheet;LHollowShire$Told;I)V"⟩, 13) := ⟨⟨by decide +kernel, by decide +kernel⟩, List.mem_of_getElem? (i := 201) (by decide +kernel), List.mem_of_getElem? (i := 796) (by decide +kernel), List.mem_of_getElem? (i := 797) (by decide +kernel)⟩
theorem lw_p26 : lw_okq (⟨"HollowShire$Fit", "takeSizes", "(I)Z"⟩, 13) := ⟨⟨by decide +kernel, by decide +kernel⟩, List.mem_of_getElem? (i := 201) (by decide +kernel), List.mem_of_getElem? (i := 806) (by decide +kernel), List.mem_of_getElem? (i := 807) (by decide +kernel)⟩
theorem lw_p27 : lw_okq (⟨"HollowShire$Fit", "meetsNeeds", "()Z"⟩, 13) := ⟨⟨by decide +kernel, by decide +kernel⟩, List.mem_of_getElem? (i := 201) (by decide +kernel), List.mem_of_getElem? (i := 810) (by decide +kernel), List.mem_of_getElem? (i := 811) (by decide +kernel)⟩
theorem lw_p28 : lw_okq (⟨"HollowShire$Fit", "weighUp", "()V"⟩, 13) := ⟨⟨by decide +kernel, by decide +kernel⟩, List.mem_of_getElem? (i := 201) (by decide +kernel), List.mem_of_getElem? (i := 814) (by decide +kernel), List.mem_of_getElem? (i := 815) (by decide +kernel)⟩
theorem lw_p29 : lw_okq (⟨"HollowShire", "ruled", "(III)I"⟩, 14) := ⟨⟨by decide +kernel, by decide +kernel⟩, List.mem_of_getElem? (i := 21) (by decide +kernel), List.mem_of_getElem? (i := 842) (by decide +kernel), List.mem_of_getElem? (i := 843) (by decide +kernel)⟩
theorem lw_p30 : lw_okq (⟨"HollowShire", "worthOfLook", "(II)I"⟩, 14) := ⟨⟨by decide +kernel, by decide +kernel⟩, List.mem_of_getElem? (i := 21) (by decide +kernel), List.mem_of_getElem? (i := 893) (by decide +kernel), List.mem_of_getElem? (i := 894) (by decide +kernel)⟩
theorem lw_p31 : lw_okq (⟨"HollowShire", "worthOfSet", "(LHollowShire$Sheet;I)I"⟩, 14) := ⟨⟨by decide +kernel, by decide +kernel⟩, List.mem_of_getElem? (i := 21) (by decide +kernel), List.mem_of_getElem? (i := 900) (by decide +kernel), List.mem_of_getElem? (i := 901) (by decide +kernel)⟩
def lw_privs_2 : List (MethodName × Nat) := [(⟨"HollowShire$Ground", "pumpOut", "()V"⟩, 16), (⟨"HollowShire$Ground", "solve", "(II)V"⟩, 16), (⟨"HollowShire$Ground", "flow", "()V"⟩, 16), (⟨"HollowShire$Ground", "go", "(III)V"⟩, 16), (⟨"HollowShire$Ground", "letFall", "()V"⟩, 16), (⟨"HollowShire$Ground", "takeHouses", "(I)V"⟩, 16), (⟨"HollowShire", "isSign", "(I)Z"⟩, 14), (⟨"HollowShire", "isKnown", "(I)Z"⟩, 14), (⟨"HollowShire$Signs", "speaks", "(IIII)Z"⟩, 7), (⟨"HollowShire$Fit", "gatherNeeds", "(LHollowShire$Sheet;LHollowShire$Told;I)V"⟩, 13), (⟨"HollowShire$Fit", "takeSizes", "(I)Z"⟩, 13), (⟨"HollowShire$Fit", "meetsNeeds", "()Z"⟩, 13), (⟨"HollowShire$Fit", "weighUp", "()V"⟩, 13), (⟨"HollowShire", "ruled", "(III)I"⟩, 14), (⟨"HollowShire", "worthOfLook", "(II)I"⟩, 14), (⟨"HollowShire", "worthOfSet", "(LHollowShire$Sheet;I)I"⟩, 14)]
theorem lw_r2 : ∀ q ∈ lw_privs_2, lw_okq q := List.forall_mem_cons.mpr ⟨lw_p16, List.forall_mem_cons.mpr ⟨lw_p17, List.forall_mem_cons.mpr ⟨lw_p18, List.forall_mem_cons.mpr ⟨lw_p19, List.forall_mem_cons.mpr ⟨lw_p20, List.forall_mem_cons.mpr ⟨lw_p21, List.forall_mem_cons.mpr ⟨lw_p22, List.forall_mem_cons.mpr ⟨lw_p23, List.forall_mem_cons.mpr ⟨lw_p24, List.forall_mem_cons.mpr ⟨lw_p25, List.forall_mem_cons.mpr ⟨lw_p26, List.forall_mem_cons.mpr ⟨lw_p27, List.forall_mem_cons.mpr ⟨lw_p28, List.forall_mem_cons.mpr ⟨lw_p29, List.forall_mem_cons.mpr ⟨lw_p30, List.forall_mem_cons.mpr ⟨lw_p31, fun _ h => absurd h List.not_mem_nil⟩⟩⟩⟩⟩⟩⟩⟩⟩⟩⟩⟩⟩⟩⟩⟩
theorem lw_p32 : lw_okq (⟨"HollowShire", "trueWarnings", "(I)I"⟩, 14) := ⟨⟨by decide +kernel, by decide +kernel⟩, List.mem_of_getElem? (i := 21) (by decide +kernel), List.mem_of_getElem? (i := 923) (by decide +kernel), List.mem_of_getElem? (i := 924) (by decide +kernel)⟩
theorem lw_p33 : lw_okq (⟨"HollowShire", "cameTrue", "(II)Z"⟩, 14) := ⟨⟨by decide +kernel, by decide +kernel⟩, List.mem_of_getElem? (i := 21) (by decide +kernel), List.mem_of_getElem? (i := 927) (by decide +kernel), List.mem_of_getElem? (i := 928) (by decide +kernel)⟩
theorem lw_p34 : lw_okq (⟨"HollowShire", "missedCells", "(I)I"⟩, 14) := ⟨⟨by decide +kernel, by decide +kernel⟩, List.mem_of_getElem? (i := 21) (by decide +kernel), List.mem_of_getElem? (i := 931) (by decide +kernel), List.mem_of_getElem? (i := 932) (by decide +kernel)⟩
theorem lw_p35 : lw_okq (⟨"HollowShire", "oldWarnings", "(I)I"⟩, 14) := ⟨⟨by decide +kernel, by decide +kernel⟩, List.mem_of_getElem? (i := 21) (by decide +kernel), List.mem_of_getElem? (i := 941) (by decide +kernel), List.mem_of_getElem? (i := 942) (by decide +kernel)⟩
theorem lw_p36 : lw_okq (⟨"HollowShire", "holdsHouses", "(LHollowShire$Sheet;)Z"⟩, 14) := ⟨⟨by decide +kernel, by decide +kernel⟩, List.mem_of_getElem? (i := 21) (by decide +kernel), List.mem_of_getElem? (i := 966) (by decide +kernel), List.mem_of_getElem? (i := 967) (by decide +kernel)⟩
theorem lw_p37 : lw_okq (⟨"HollowShire", "peopleToMove", "(I)I"⟩, 14) := ⟨⟨by decide +kernel, by decide +kernel⟩, List.mem_of_getElem? (i := 21) (by decide +kernel), List.mem_of_getElem? (i := 973) (by decide +kernel), List.mem_of_getElem? (i := 974) (by decide +kernel)⟩
theorem lw_p38 : lw_okq (⟨"HollowShire", "sparedBy", "(I)I"⟩, 14) := ⟨⟨by decide +kernel, by decide +kernel⟩, List.mem_of_getElem? (i := 21) (by decide +kernel), List.mem_of_getElem? (i := 977) (by decide +kernel), List.mem_of_getElem? (i := 978) (by decide +kernel)⟩
theorem lw_p39 : lw_okq (⟨"HollowShireModel", "isCell", "(I)Z"⟩, 77) := ⟨⟨by decide +kernel, by decide +kernel⟩, List.mem_of_getElem? (i := 1041) (by decide +kernel), List.mem_of_getElem? (i := 1283) (by decide +kernel), List.mem_of_getElem? (i := 1284) (by decide +kernel)⟩
theorem lw_p40 : lw_okq (⟨"HollowShireModel", "in", "(III)Z"⟩, 77) := ⟨⟨by decide +kernel, by decide +kernel⟩, List.mem_of_getElem? (i := 1041) (by decide +kernel), List.mem_of_getElem? (i := 1287) (by decide +kernel), List.mem_of_getElem? (i := 1288) (by decide +kernel)⟩
theorem lw_p41 : lw_okq (⟨"HollowShireModel", "isHouse", "(I)Z"⟩, 77) := ⟨⟨by decide +kernel, by decide +kernel⟩, List.mem_of_getElem? (i := 1041) (by decide +kernel), List.mem_of_getElem? (i := 1312) (by decide +kernel), List.mem_of_getElem? (i := 1313) (by decide +kernel)⟩
theorem lw_p42 : lw_okq (⟨"HollowShireModel", "goMonth", "()V"⟩, 77) := ⟨⟨by decide +kernel, by decide +kernel⟩, List.mem_of_getElem? (i := 1041) (by decide +kernel), List.mem_of_getElem? (i := 1320) (by decide +kernel), List.mem_of_getElem? (i := 1321) (by decide +kernel)⟩
theorem lw_p43 : lw_okq (⟨"HollowShireModel", "wentBy", "(II)V"⟩, 77) := ⟨⟨by decide +kernel, by decide +kernel⟩, List.mem_of_getElem? (i := 1041) (by decide +kernel), List.mem_of_getElem? (i := 1324) (by decide +kernel), List.mem_of_getElem? (i := 1325) (by decide +kernel)⟩
theorem lw_p44 : lw_okq (⟨"HollowShireModel", "between", "(II)V"⟩, 77) := ⟨⟨by decide +kernel, by decide +kernel⟩, List.mem_of_getElem? (i := 1041) (by decide +kernel), List.mem_of_getElem? (i := 1328) (by decide +kernel), List.mem_of_getElem? (i := 1329) (by decide +kernel)⟩
theorem lw_p45 : lw_okq (⟨"HollowShireModel", "harmOf", "(I)I"⟩, 77) := ⟨⟨by decide +kernel, by decide +kernel⟩, List.mem_of_getElem? (i := 1041) (by decide +kernel), List.mem_of_getElem? (i := 1332) (by decide +kernel), List.mem_of_getElem? (i := 1333) (by decide +kernel)⟩
theorem lw_p46 : lw_okq (⟨"HollowShireModel", "isSign", "(I)Z"⟩, 77) := ⟨⟨by decide +kernel, by decide +kernel⟩, List.mem_of_getElem? (i := 1041) (by decide +kernel), List.mem_of_getElem? (i := 1344) (by decide +kernel), List.mem_of_getElem? (i := 1345) (by decide +kernel)⟩
theorem lw_p47 : lw_okq (⟨"HollowShireModel", "isKnown", "(I)Z"⟩, 77) := ⟨⟨by decide +kernel, by decide +kernel⟩, List.mem_of_getElem? (i := 1041) (by decide +kernel), List.mem_of_getElem? (i := 1352) (by decide +kernel), List.mem_of_getElem? (i := 1353) (by decide +kernel)⟩
def lw_privs_3 : List (MethodName × Nat) := [(⟨"HollowShire", "trueWarnings", "(I)I"⟩, 14), (⟨"HollowShire", "cameTrue", "(II)Z"⟩, 14), (⟨"HollowShire", "missedCells", "(I)I"⟩, 14), (⟨"HollowShire", "oldWarnings", "(I)I"⟩, 14), (⟨"HollowShire", "holdsHouses", "(LHollowShire$Sheet;)Z"⟩, 14), (⟨"HollowShire", "peopleToMove", "(I)I"⟩, 14), (⟨"HollowShire", "sparedBy", "(I)I"⟩, 14), (⟨"HollowShireModel", "isCell", "(I)Z"⟩, 77), (⟨"HollowShireModel", "in", "(III)Z"⟩, 77), (⟨"HollowShireModel", "isHouse", "(I)Z"⟩, 77), (⟨"HollowShireModel", "goMonth", "()V"⟩, 77), (⟨"HollowShireModel", "wentBy", "(II)V"⟩, 77), (⟨"HollowShireModel", "between", "(II)V"⟩, 77), (⟨"HollowShireModel", "harmOf", "(I)I"⟩, 77), (⟨"HollowShireModel", "isSign", "(I)Z"⟩, 77), (⟨"HollowShireModel", "isKnown", "(I)Z"⟩, 77)]
theorem lw_r3 : ∀ q ∈ lw_privs_3, lw_okq q := List.forall_mem_cons.mpr ⟨lw_p32, List.forall_mem_cons.mpr ⟨lw_p33, List.forall_mem_cons.mpr ⟨lw_p34, List.forall_mem_cons.mpr ⟨lw_p35, List.forall_mem_cons.mpr ⟨lw_p36, List.forall_mem_cons.mpr ⟨lw_p37, List.forall_mem_cons.mpr ⟨lw_p38, List.forall_mem_cons.mpr ⟨lw_p39, List.forall_mem_cons.mpr ⟨lw_p40, List.forall_mem_cons.mpr ⟨lw_p41, List.forall_mem_cons.mpr ⟨lw_p42, List.forall_mem_cons.mpr ⟨lw_p43, List.forall_mem_cons.mpr ⟨lw_p44, List.forall_mem_cons.mpr ⟨lw_p45, List.forall_mem_cons.mpr ⟨lw_p46, List.forall_mem_cons.mpr ⟨lw_p47, fun _ h => absurd h List.not_mem_nil⟩⟩⟩⟩⟩⟩⟩⟩⟩⟩⟩⟩⟩⟩⟩⟩
theorem lw_p48 : lw_okq (⟨"HollowShireModel", "valueOf", "(II)I"⟩, 77) := ⟨⟨by decide +kernel, by decide +kernel⟩, List.mem_of_getElem? (i := 1041) (by decide +kernel), List.mem_of_getElem? (i := 1356) (by decide +kernel), List.mem_of_getElem? (i := 1357) (by decide +kernel)⟩
theorem lw_p49 : lw_okq (⟨"HollowShireModel", "leastOf", "(II)I"⟩, 77) := ⟨⟨by decide +kernel, by decide +kernel⟩, List.mem_of_getElem? (i := 1041) (by decide +kernel), List.mem_of_getElem? (i := 1360) (by decide +kernel), List.mem_of_getElem? (i := 1361) (by decide +kernel)⟩
theorem lw_p50 : lw_okq (⟨"HollowShireModel", "mostOf", "(II)I"⟩, 77) := ⟨⟨by decide +kernel, by decide +kernel⟩, List.mem_of_getElem? (i := 1041) (by decide +kernel), List.mem_of_getElem? (i := 1364) (by decide +kernel), List.mem_of_getElem? (i := 1365) (by decide +kernel)⟩
theorem lw_p51 : lw_okq (⟨"HollowShireModel", "trustOf", "(I)I"⟩, 77) := ⟨⟨by decide +kernel, by decide +kernel⟩, List.mem_of_getElem? (i := 1041) (by decide +kernel), List.mem_of_getElem? (i := 1368) (by decide +kernel), List.mem_of_getElem? (i := 1369) (by decide +kernel)⟩
theorem lw_p52 : lw_okq (⟨"HollowShireModel", "findSpan", "(III)V"⟩, 77) := ⟨⟨by decide +kernel, by decide +kernel⟩, List.mem_of_getElem? (i := 1041) (by decide +kernel), List.mem_of_getElem? (i := 1376) (by decide +kernel), List.mem_of_getElem? (i := 1377) (by decide +kernel)⟩
theorem lw_p53 : lw_okq (⟨"HollowShireModel", "isSheet", "(I)Z"⟩, 77) := ⟨⟨by decide +kernel, by decide +kernel⟩, List.mem_of_getElem? (i := 1041) (by decide +kernel), List.mem_of_getElem? (i := 1388) (by decide +kernel), List.mem_of_getElem? (i := 1389) (by decide +kernel)⟩
theorem lw_p54 : lw_okq (⟨"HollowShireModel", "isFit", "(I)Z"⟩, 77) := ⟨⟨by decide +kernel, by decide +kernel⟩, List.mem_of_getElem? (i := 1041) (by decide +kernel), List.mem_of_getElem? (i := 1392) (by decide +kernel), List.mem_of_getElem? (i := 1393) (by decide +kernel)⟩
theorem lw_p55 : lw_okq (⟨"HollowShireModel", "isNear", "(II)Z"⟩, 77) := ⟨⟨by decide +kernel, by decide +kernel⟩, List.mem_of_getElem? (i := 1041) (by decide +kernel), List.mem_of_getElem? (i := 1396) (by decide +kernel), List.mem_of_getElem? (i := 1397) (by decide +kernel)⟩
theorem lw_p56 : lw_okq (⟨"HollowShireModel", "goes", "(I)Z"⟩, 77) := ⟨⟨by decide +kernel, by decide +kernel⟩, List.mem_of_getElem? (i := 1041) (by decide +kernel), List.mem_of_getElem? (i := 1412) (by decide +kernel), List.mem_of_getElem? (i := 1413) (by decide +kernel)⟩
theorem lw_p57 : lw_okq (⟨"HollowShireModel", "step", "()V"⟩, 77) := ⟨⟨by decide +kernel, by decide +kernel⟩, List.mem_of_getElem? (i := 1041) (by decide +kernel), List.mem_of_getElem? (i := 1416) (by decide +kernel), List.mem_of_getElem? (i := 1417) (by decide +kernel)⟩
theorem lw_p58 : lw_okq (⟨"HollowShireModel", "byteAt", "(I)I"⟩, 77) := ⟨⟨by decide +kernel, by decide +kernel⟩, List.mem_of_getElem? (i := 1041) (by decide +kernel), List.mem_of_getElem? (i := 1420) (by decide +kernel), List.mem_of_getElem? (i := 1421) (by decide +kernel)⟩
theorem lw_p59 : lw_okq (⟨"HollowShireModel", "isLetter", "(I)Z"⟩, 77) := ⟨⟨by decide +kernel, by decide +kernel⟩, List.mem_of_getElem? (i := 1041) (by decide +kernel), List.mem_of_getElem? (i := 1424) (by decide +kernel), List.mem_of_getElem? (i := 1425) (by decide +kernel)⟩
theorem lw_p60 : lw_okq (⟨"HollowShireModel", "wordOf", "(J)I"⟩, 77) := ⟨⟨by decide +kernel, by decide +kernel⟩, List.mem_of_getElem? (i := 1041) (by decide +kernel), List.mem_of_getElem? (i := 1431) (by decide +kernel), List.mem_of_getElem? (i := 1432) (by decide +kernel)⟩
theorem lw_p61 : lw_okq (⟨"HollowShireModel", "isDigit", "(I)Z"⟩, 77) := ⟨⟨by decide +kernel, by decide +kernel⟩, List.mem_of_getElem? (i := 1041) (by decide +kernel), List.mem_of_getElem? (i := 1449) (by decide +kernel), List.mem_of_getElem? (i := 1450) (by decide +kernel)⟩
theorem lw_p62 : lw_okq (⟨"HollowShireModel", "isKey", "(I)Z"⟩, 77) := ⟨⟨by decide +kernel, by decide +kernel⟩, List.mem_of_getElem? (i := 1041) (by decide +kernel), List.mem_of_getElem? (i := 1453) (by decide +kernel), List.mem_of_getElem? (i := 1454) (by decide +kernel)⟩
theorem lw_p63 : lw_okq (⟨"HollowShireModel", "takesE", "()Z"⟩, 77) := ⟨⟨by decide +kernel, by decide +kernel⟩, List.mem_of_getElem? (i := 1041) (by decide +kernel), List.mem_of_getElem? (i := 1457) (by decide +kernel), List.mem_of_getElem? (i := 1458) (by decide +kernel)⟩
def lw_privs_4 : List (MethodName × Nat) := [(⟨"HollowShireModel", "valueOf", "(II)I"⟩, 77), (⟨"HollowShireModel", "leastOf", "(II)I"⟩, 77), (⟨"HollowShireModel", "mostOf", "(II)I"⟩, 77), (⟨"HollowShireModel", "trustOf", "(I)I"⟩, 77), (⟨"HollowShireModel", "findSpan", "(III)V"⟩, 77), (⟨"HollowShireModel", "isSheet", "(I)Z"⟩, 77), (⟨"HollowShireModel", "isFit", "(I)Z"⟩, 77), (⟨"HollowShireModel", "isNear", "(II)Z"⟩, 77), (⟨"HollowShireModel", "goes", "(I)Z"⟩, 77), (⟨"HollowShireModel", "step", "()V"⟩, 77), (⟨"HollowShireModel", "byteAt", "(I)I"⟩, 77), (⟨"HollowShireModel", "isLetter", "(I)Z"⟩, 77), (⟨"HollowShireModel", "wordOf", "(J)I"⟩, 77), (⟨"HollowShireModel", "isDigit", "(I)Z"⟩, 77), (⟨"HollowShireModel", "isKey", "(I)Z"⟩, 77), (⟨"HollowShireModel", "takesE", "()Z"⟩, 77)]
theorem lw_r4 : ∀ q ∈ lw_privs_4, lw_okq q := List.forall_mem_cons.mpr ⟨lw_p48, List.forall_mem_cons.mpr ⟨lw_p49, List.forall_mem_cons.mpr ⟨lw_p50, List.forall_mem_cons.mpr ⟨lw_p51, List.forall_mem_cons.mpr ⟨lw_p52, List.forall_mem_cons.mpr ⟨lw_p53, List.forall_mem_cons.mpr ⟨lw_p54, List.forall_mem_cons.mpr ⟨lw_p55, List.forall_mem_cons.mpr ⟨lw_p56, List.forall_mem_cons.mpr ⟨lw_p57, List.forall_mem_cons.mpr ⟨lw_p58, List.forall_mem_cons.mpr ⟨lw_p59, List.forall_mem_cons.mpr ⟨lw_p60, List.forall_mem_cons.mpr ⟨lw_p61, List.forall_mem_cons.mpr ⟨lw_p62, List.forall_mem_cons.mpr ⟨lw_p63, fun _ h => absurd h List.not_mem_nil⟩⟩⟩⟩⟩⟩⟩⟩⟩⟩⟩⟩⟩⟩⟩⟩
theorem lw_p64 : lw_okq (⟨"HollowShireModel", "opens", "(I)Z"⟩, 77) := ⟨⟨by decide +kernel, by decide +kernel⟩, List.mem_of_getElem? (i := 1041) (by decide +kernel), List.mem_of_getElem? (i := 1461) (by decide +kernel), List.mem_of_getElem? (i := 1462) (by decide +kernel)⟩
theorem lw_p65 : lw_okq (⟨"HollowShireModel", "push", "(I)V"⟩, 77) := ⟨⟨by decide +kernel, by decide +kernel⟩, List.mem_of_getElem? (i := 1041) (by decide +kernel), List.mem_of_getElem? (i := 1465) (by decide +kernel), List.mem_of_getElem? (i := 1466) (by decide +kernel)⟩
theorem lw_p66 : lw_okq (⟨"HollowShireModel", "settle", "(I)V"⟩, 77) := ⟨⟨by decide +kernel, by decide +kernel⟩, List.mem_of_getElem? (i := 1041) (by decide +kernel), List.mem_of_getElem? (i := 1469) (by decide +kernel), List.mem_of_getElem? (i := 1470) (by decide +kernel)⟩
theorem lw_p67 : lw_okq (⟨"HollowShireModel", "rankOf", "(I)I"⟩, 77) := ⟨⟨by decide +kernel, by decide +kernel⟩, List.mem_of_getElem? (i := 1041) (by decide +kernel), List.mem_of_getElem? (i := 1473) (by decide +kernel), List.mem_of_getElem? (i := 1474) (by decide +kernel)⟩
theorem lw_p68 : lw_okq (⟨"HollowShireModel", "work", "(I)V"⟩, 77) := ⟨⟨by decide +kernel, by decide +kernel⟩, List.mem_of_getElem? (i := 1041) (by decide +kernel), List.mem_of_getElem? (i := 1477) (by decide +kernel), List.mem_of_getElem? (i := 1478) (by decide +kernel)⟩
theorem lw_p69 : lw_okq (⟨"HollowShireModel", "joint", "()I"⟩, 77) := ⟨⟨by decide +kernel, by decide +kernel⟩, List.mem_of_getElem? (i := 1041) (by decide +kernel), List.mem_of_getElem? (i := 1481) (by decide +kernel), List.mem_of_getElem? (i := 1482) (by decide +kernel)⟩
theorem lw_p70 : lw_okq (⟨"HollowShireModel", "joins", "(I)Z"⟩, 77) := ⟨⟨by decide +kernel, by decide +kernel⟩, List.mem_of_getElem? (i := 1041) (by decide +kernel), List.mem_of_getElem? (i := 1485) (by decide +kernel), List.mem_of_getElem? (i := 1486) (by decide +kernel)⟩
theorem lw_p71 : lw_okq (⟨"HollowShireModel", "lawOf", "(III)I"⟩, 77) := ⟨⟨by decide +kernel, by decide +kernel⟩, List.mem_of_getElem? (i := 1041) (by decide +kernel), List.mem_of_getElem? (i := 1497) (by decide +kernel), List.mem_of_getElem? (i := 1498) (by decide +kernel)⟩
theorem lw_p72 : lw_okq (⟨"HollowShireModel", "findFacts", "(II)V"⟩, 77) := ⟨⟨by decide +kernel, by decide +kernel⟩, List.mem_of_getElem? (i := 1041) (by decide +kernel), List.mem_of_getElem? (i := 1501) (by decide +kernel), List.mem_of_getElem? (i := 1502) (by decide +kernel)⟩
theorem lw_p73 : lw_okq (⟨"HollowShireModel", "doubtOf", "(II)I"⟩, 77) := ⟨⟨by decide +kernel, by decide +kernel⟩, List.mem_of_getElem? (i := 1041) (by decide +kernel), List.mem_of_getElem? (i := 1505) (by decide +kernel), List.mem_of_getElem? (i := 1506) (by decide +kernel)⟩
theorem lw_p74 : lw_okq (⟨"HollowShireModel", "peopleIn", "(I)I"⟩, 77) := ⟨⟨by decide +kernel, by decide +kernel⟩, List.mem_of_getElem? (i := 1041) (by decide +kernel), List.mem_of_getElem? (i := 1509) (by decide +kernel), List.mem_of_getElem? (i := 1510) (by decide +kernel)⟩
theorem lw_p75 : lw_okq (⟨"HollowShireModel", "divisor", "(JJ)J"⟩, 77) := ⟨⟨by decide +kernel, by decide +kernel⟩, List.mem_of_getElem? (i := 1041) (by decide +kernel), List.mem_of_getElem? (i := 1536) (by decide +kernel), List.mem_of_getElem? (i := 1537) (by decide +kernel)⟩
theorem lw_p76 : lw_okq (⟨"HollowShireModel", "isTrue", "(II)Z"⟩, 77) := ⟨⟨by decide +kernel, by decide +kernel⟩, List.mem_of_getElem? (i := 1041) (by decide +kernel), List.mem_of_getElem? (i := 1548) (by decide +kernel), List.mem_of_getElem? (i := 1549) (by decide +kernel)⟩
theorem lw_p77 : lw_okq (⟨"HollowShireModel", "cellsFallen", "()I"⟩, 77) := ⟨⟨by decide +kernel, by decide +kernel⟩, List.mem_of_getElem? (i := 1041) (by decide +kernel), List.mem_of_getElem? (i := 1564) (by decide +kernel), List.mem_of_getElem? (i := 1565) (by decide +kernel)⟩
theorem lw_p78 : lw_okq (⟨"HollowShireModel", "keep", "(I)V"⟩, 77) := ⟨⟨by decide +kernel, by decide +kernel⟩, List.mem_of_getElem? (i := 1041) (by decide +kernel), List.mem_of_getElem? (i := 1568) (by decide +kernel), List.mem_of_getElem? (i := 1569) (by decide +kernel)⟩
theorem lw_p79 : lw_okq (⟨"HollowShireModel", "putBack", "(III)V"⟩, 77) := ⟨⟨by decide +kernel, by decide +kernel⟩, List.mem_of_getElem? (i := 1041) (by decide +kernel), List.mem_of_getElem? (i := 1572) (by decide +kernel), List.mem_of_getElem? (i := 1573) (by decide +kernel)⟩
def lw_privs_5 : List (MethodName × Nat) := [(⟨"HollowShireModel", "opens", "(I)Z"⟩, 77), (⟨"HollowShireModel", "push", "(I)V"⟩, 77), (⟨"HollowShireModel", "settle", "(I)V"⟩, 77), (⟨"HollowShireModel", "rankOf", "(I)I"⟩, 77), (⟨"HollowShireModel", "work", "(I)V"⟩, 77), (⟨"HollowShireModel", "joint", "()I"⟩, 77), (⟨"HollowShireModel", "joins", "(I)Z"⟩, 77), (⟨"HollowShireModel", "lawOf", "(III)I"⟩, 77), (⟨"HollowShireModel", "findFacts", "(II)V"⟩, 77), (⟨"HollowShireModel", "doubtOf", "(II)I"⟩, 77), (⟨"HollowShireModel", "peopleIn", "(I)I"⟩, 77), (⟨"HollowShireModel", "divisor", "(JJ)J"⟩, 77), (⟨"HollowShireModel", "isTrue", "(II)Z"⟩, 77), (⟨"HollowShireModel", "cellsFallen", "()I"⟩, 77), (⟨"HollowShireModel", "keep", "(I)V"⟩, 77), (⟨"HollowShireModel", "putBack", "(III)V"⟩, 77)]
theorem lw_r5 : ∀ q ∈ lw_privs_5, lw_okq q := List.forall_mem_cons.mpr ⟨lw_p64, List.forall_mem_cons.mpr ⟨lw_p65, List.forall_mem_cons.mpr ⟨lw_p66, List.forall_mem_cons.mpr ⟨lw_p67, List.forall_mem_cons.mpr ⟨lw_p68, List.forall_mem_cons.mpr ⟨lw_p69, List.forall_mem_cons.mpr ⟨lw_p70, List.forall_mem_cons.mpr ⟨lw_p71, List.forall_mem_cons.mpr ⟨lw_p72, List.forall_mem_cons.mpr ⟨lw_p73, List.forall_mem_cons.mpr ⟨lw_p74, List.forall_mem_cons.mpr ⟨lw_p75, List.forall_mem_cons.mpr ⟨lw_p76, List.forall_mem_cons.mpr ⟨lw_p77, List.forall_mem_cons.mpr ⟨lw_p78, List.forall_mem_cons.mpr ⟨lw_p79, fun _ h => absurd h List.not_mem_nil⟩⟩⟩⟩⟩⟩⟩⟩⟩⟩⟩⟩⟩⟩⟩⟩
theorem lw_p80 : lw_okq (⟨"HollowShireModel", "isOfKind", "(II)Z"⟩, 77) := ⟨⟨by decide +kernel, by decide +kernel⟩, List.mem_of_getElem? (i := 1041) (by decide +kernel), List.mem_of_getElem? (i := 1617) (by decide +kernel), List.mem_of_getElem? (i := 1618) (by decide +kernel)⟩
def lw_privs_6 : List (MethodName × Nat) := [(⟨"HollowShireModel", "isOfKind", "(II)Z"⟩, 77)]
theorem lw_r6 : ∀ q ∈ lw_privs_6, lw_okq q := List.forall_mem_cons.mpr ⟨lw_p80, fun _ h => absurd h List.not_mem_nil⟩
def lw_privs : List (MethodName × Nat) := lw_privs_1 ++ (lw_privs_2 ++ (lw_privs_3 ++ (lw_privs_4 ++ (lw_privs_5 ++ (lw_privs_6)))))
def lw_tbl : List Cond := k2_sels lw_privs ++ tables_1
theorem lw_privs_ok : ∀ q ∈ lw_privs, lw_okq q := by
  show ∀ q ∈ lw_privs_1 ++ (lw_privs_2 ++ (lw_privs_3 ++ (lw_privs_4 ++ (lw_privs_5 ++ (lw_privs_6))))), lw_okq q
  exact List.forall_mem_append.mpr ⟨lw_r1, List.forall_mem_append.mpr ⟨lw_r2, List.forall_mem_append.mpr ⟨lw_r3, List.forall_mem_append.mpr ⟨lw_r4, List.forall_mem_append.mpr ⟨lw_r5, lw_r6⟩⟩⟩⟩⟩
end
section
/-! ===== BEGIN words of one list among another's, by their places ===== -/
theorem goodIn_r {big : List Cond} (ws : List Cond) (ps : List Nat) (hp : ws = ps.filterMap (fun i => big[i]?)) (h : ws.all goodWord = true) : GoodIn big ws := by
  intro w hw
  have h1 := List.all_eq_true.mp h w hw
  rw [hp] at hw
  obtain ⟨i, -, hi⟩ := List.mem_filterMap.mp hw
  have hm : w ∈ big := by first | exact List.mem_of_getElem? hi | exact List.getElem?_mem hi
  exact ⟨hm, good_of_word h1⟩
theorem goodIn_app {big a b : List Cond} (ha : GoodIn big a) (hb : GoodIn big b) : GoodIn big (a ++ b) := fun w h => (List.mem_append.mp h).elim (ha w) (hb w)
theorem goodIn_ca {big a b : List Cond} {c : Cond} (ha : GoodIn big (c :: a)) (hb : GoodIn big b) : GoodIn big (c :: (a ++ b)) := fun w h => (List.mem_cons.mp h).elim (fun e => ha w (List.mem_cons.mpr (Or.inl e))) (fun h => (List.mem_append.mp h).elim (fun h => ha w (List.mem_cons.mpr (Or.inr h))) (hb w))
theorem goodIn_sub {big ws : List Cond} (hm : ∀ w ∈ ws, w ∈ big) (h : ws.all goodWord = true) : GoodIn big ws := fun w hw => ⟨hm w hw, good_of_word (List.all_eq_true.mp h w hw)⟩
/-! ===== END ===== -/

/-! ===== BEGIN printed: names, fields, word lists, decode rows ===== -/
def RX0 : String := "HollowShire$Built"
def TX0 : u_T := fun k => match k with
  | 0 => ("HollowShire$Built", "houses", "I", false)
  | 1 => ("HollowShire$Built", "pumps", "I", false)
  | 2 => ("HollowShire$Built", "houseCell", "[I", true)
  | 3 => ("HollowShire$Built", "worth", "[I", true)
  | 4 => ("HollowShire$Built", "people", "[I", true)
  | _ => ("HollowShire$Built", "pumpCell", "[I", true)
def tyX0 : Nat → FieldType := fun k => match k with
  | 0 => .int
  | 1 => .int
  | 2 => .array .int
  | 3 => .array .int
  | 4 => .array .int
  | _ => .array .int
abbrev wsX00 : List Cond := u_ws RX0 TX0 6
theorem nmX0 : ∀ a, a < 6 → ∀ b, b < 6 → a ≠ b → (TX0 a).2.1 ≠ (TX0 b).2.1 := by decide +kernel
theorem tyX0_ok : ∀ k, k < 6 → parseFieldDescriptor (TX0 k).2.2.1 = some (tyX0 k) := by decide +kernel
abbrev cX0_init : ByteArray := prog_2_method_1_code
def yX0_init : MethodName := ⟨RX0, "<init>", "()V"⟩
abbrev cX0_addHouse : ByteArray := prog_2_method_2_code
def yX0_addHouse : MethodName := ⟨RX0, "addHouse", "(III)I"⟩
abbrev cX0_addPump : ByteArray := prog_2_method_3_code
def yX0_addPump : MethodName := ⟨RX0, "addPump", "(I)I"⟩
def RX1 : String := "HollowShire$Fit"
def TX1 : u_T := fun k => match k with
  | 0 => ("HollowShire$Fit", "cells", "I", false)
  | 1 => ("HollowShire$Fit", "rivals", "I", false)
  | 2 => ("HollowShire$Fit", "fewest", "I", false)
  | 3 => ("HollowShire$Fit", "together", "I", false)
  | 4 => ("HollowShire$Fit", "best", "[I", true)
  | 5 => ("HollowShire$Fit", "least", "[I", true)
  | 6 => ("HollowShire$Fit", "greatest", "[I", true)
  | 7 => ("HollowShire$Fit", "low", "[I", true)
  | 8 => ("HollowShire$Fit", "high", "[I", true)
  | 9 => ("HollowShire$Fit", "sizes", "[I", true)
  | 10 => ("HollowShire$Fit", "needs", "I", false)
  | 11 => ("HollowShire$Fit", "needed", "[I", true)
  | _ => ("HollowShire$Fit", "neededOf", "[I", true)
def tyX1 : Nat → FieldType := fun k => match k with
  | 0 => .int
  | 1 => .int
  | 2 => .int
  | 3 => .int
  | 4 => .array .int
  | 5 => .array .int
  | 6 => .array .int
  | 7 => .array .int
  | 8 => .array .int
  | 9 => .array .int
  | 10 => .int
  | 11 => .array .int
  | _ => .array .int
abbrev wsX10 : List Cond := u_ws RX1 TX1 13
theorem nmX1 : ∀ a, a < 13 → ∀ b, b < 13 → a ≠ b → (TX1 a).2.1 ≠ (TX1 b).2.1 := by decide +kernel
theorem tyX1_ok : ∀ k, k < 13 → parseFieldDescriptor (TX1 k).2.2.1 = some (tyX1 k) := by decide +kernel
abbrev cX1_init : ByteArray := prog_3_method_1_code
def yX1_init : MethodName := ⟨RX1, "<init>", "()V"⟩
abbrev cX1_search : ByteArray := prog_3_method_2_code
def yX1_search : MethodName := ⟨RX1, "search", "(LHollowShire$Sheet;LHollowShire$Signs;LHollowShire$Told;I)V"⟩
abbrev cX1_gatherNeeds : ByteArray := prog_3_method_3_code
def yX1_gatherNeeds : MethodName := ⟨RX1, "gatherNeeds", "(LHollowShire$Sheet;LHollowShire$Told;I)V"⟩
abbrev cX1_takeSizes : ByteArray := prog_3_method_4_code
def yX1_takeSizes : MethodName := ⟨RX1, "takeSizes", "(I)Z"⟩
abbrev cX1_meetsNeeds : ByteArray := prog_3_method_5_code
def yX1_meetsNeeds : MethodName := ⟨RX1, "meetsNeeds", "()Z"⟩
abbrev cX1_weighUp : ByteArray := prog_3_method_6_code
def yX1_weighUp : MethodName := ⟨RX1, "weighUp", "()V"⟩
def RX2 : String := "HollowShire$Ground"
def TX2 : u_T := fun k => match k with
  | 0 => ("HollowShire$Ground", "built", "LHollowShire$Built;", true)
  | 1 => ("HollowShire$Ground", "month", "I", false)
  | 2 => ("HollowShire$Ground", "rain", "I", false)
  | 3 => ("HollowShire$Ground", "fallen", "I", false)
  | 4 => ("HollowShire$Ground", "harm", "I", false)
  | 5 => ("HollowShire$Ground", "rock", "[I", true)
  | 6 => ("HollowShire$Ground", "hollow", "[I", true)
  | 7 => ("HollowShire$Ground", "water", "[I", true)
  | 8 => ("HollowShire$Ground", "fell", "[I", true)
  | 9 => ("HollowShire$Ground", "fallsOf", "[I", true)
  | 10 => ("HollowShire$Ground", "monthsOf", "[I", true)
  | 11 => ("HollowShire$Ground", "pumped", "[I", true)
  | 12 => ("HollowShire$Ground", "gone", "[I", true)
  | 13 => ("HollowShire$Ground", "away", "[Z", true)
  | 14 => ("HollowShire$Ground", "goesDown", "[I", true)
  | _ => ("HollowShire$Ground", "goesAcross", "[I", true)
def tyX2 : Nat → FieldType := fun k => match k with
  | 0 => .object "HollowShire$Built"
  | 1 => .int
  | 2 => .int
  | 3 => .int
  | 4 => .int
  | 5 => .array .int
  | 6 => .array .int
  | 7 => .array .int
  | 8 => .array .int
  | 9 => .array .int
  | 10 => .array .int
  | 11 => .array .int
  | 12 => .array .int
  | 13 => .array .boolean
  | 14 => .array .int
  | _ => .array .int
abbrev wsX20 : List Cond := u_ws RX2 TX2 16
theorem nmX2 : ∀ a, a < 16 → ∀ b, b < 16 → a ≠ b → (TX2 a).2.1 ≠ (TX2 b).2.1 := by decide +kernel
theorem tyX2_ok : ∀ k, k < 16 → parseFieldDescriptor (TX2 k).2.2.1 = some (tyX2 k) := by decide +kernel
abbrev cX2_init : ByteArray := prog_4_method_1_code
def yX2_init : MethodName := ⟨RX2, "<init>", "(LHollowShire$Built;)V"⟩
abbrev cX2_become : ByteArray := prog_4_method_2_code
def yX2_become : MethodName := ⟨RX2, "become", "(LHollowShire$Ground;)V"⟩
abbrev cX2_hasFallen : ByteArray := prog_4_method_3_code
def yX2_hasFallen : MethodName := ⟨RX2, "hasFallen", "(I)Z"⟩
abbrev cX2_peopleAt : ByteArray := prog_4_method_4_code
def yX2_peopleAt : MethodName := ⟨RX2, "peopleAt", "(I)I"⟩
abbrev cX2_pumpsNear : ByteArray := prog_4_method_5_code
def yX2_pumpsNear : MethodName := ⟨RX2, "pumpsNear", "(I)I"⟩
abbrev cX2_harmOf : ByteArray := prog_4_method_6_code
def yX2_harmOf : MethodName := ⟨RX2, "harmOf", "(I)I"⟩
abbrev cX2_passMonths : ByteArray := prog_4_method_7_code
def yX2_passMonths : MethodName := ⟨RX2, "passMonths", "(I)V"⟩
abbrev cX2_rainDown : ByteArray := prog_4_method_8_code
def yX2_rainDown : MethodName := ⟨RX2, "rainDown", "()V"⟩
abbrev cX2_pumpOut : ByteArray := prog_4_method_9_code
def yX2_pumpOut : MethodName := ⟨RX2, "pumpOut", "()V"⟩
abbrev cX2_flow : ByteArray := prog_4_method_10_code
def yX2_flow : MethodName := ⟨RX2, "flow", "()V"⟩
abbrev cX2_go : ByteArray := prog_4_method_11_code
def yX2_go : MethodName := ⟨RX2, "go", "(III)V"⟩
abbrev cX2_solve : ByteArray := prog_4_method_12_code
def yX2_solve : MethodName := ⟨RX2, "solve", "(II)V"⟩
abbrev cX2_letFall : ByteArray := prog_4_method_13_code
def yX2_letFall : MethodName := ⟨RX2, "letFall", "()V"⟩
abbrev cX2_takeHouses : ByteArray := prog_4_method_14_code
def yX2_takeHouses : MethodName := ⟨RX2, "takeHouses", "(I)V"⟩
def RX3 : String := "HollowShire$Reader"
def TX3 : u_T := fun k => match k with
  | 0 => ("HollowShire$Reader", "made", "LHollowShire$Text;", true)
  | 1 => ("HollowShire$Reader", "tape", "LHollowShire$Tape;", true)
  | 2 => ("HollowShire$Reader", "next", "I", false)
  | 3 => ("HollowShire$Reader", "token", "I", false)
  | _ => ("HollowShire$Reader", "fault", "I", false)
def tyX3 : Nat → FieldType := fun k => match k with
  | 0 => .object "HollowShire$Text"
  | 1 => .object "HollowShire$Tape"
  | 2 => .int
  | 3 => .int
  | _ => .int
abbrev wsX30 : List Cond := u_ws RX3 TX3 5
theorem nmX3 : ∀ a, a < 5 → ∀ b, b < 5 → a ≠ b → (TX3 a).2.1 ≠ (TX3 b).2.1 := by decide +kernel
theorem tyX3_ok : ∀ k, k < 5 → parseFieldDescriptor (TX3 k).2.2.1 = some (tyX3 k) := by decide +kernel
abbrev cX3_init : ByteArray := prog_5_method_1_code
def yX3_init : MethodName := ⟨RX3, "<init>", "(LHollowShire$Tape;)V"⟩
abbrev cX3_read : ByteArray := prog_5_method_2_code
def yX3_read : MethodName := ⟨RX3, "read", "()I"⟩
abbrev cX3_readOr : ByteArray := prog_5_method_3_code
def yX3_readOr : MethodName := ⟨RX3, "readOr", "(I)V"⟩
abbrev cX3_readAnd : ByteArray := prog_5_method_4_code
def yX3_readAnd : MethodName := ⟨RX3, "readAnd", "(I)V"⟩
abbrev cX3_readNot : ByteArray := prog_5_method_5_code
def yX3_readNot : MethodName := ⟨RX3, "readNot", "(I)V"⟩
abbrev cX3_readSum : ByteArray := prog_5_method_6_code
def yX3_readSum : MethodName := ⟨RX3, "readSum", "(I)V"⟩
abbrev cX3_readTerm : ByteArray := prog_5_method_7_code
def yX3_readTerm : MethodName := ⟨RX3, "readTerm", "(I)V"⟩
abbrev cX3_readOne : ByteArray := prog_5_method_8_code
def yX3_readOne : MethodName := ⟨RX3, "readOne", "(I)V"⟩
abbrev cX3_expect : ByteArray := prog_5_method_9_code
def yX3_expect : MethodName := ⟨RX3, "expect", "(I)V"⟩
abbrev cX3_advance : ByteArray := prog_5_method_10_code
def yX3_advance : MethodName := ⟨RX3, "advance", "()V"⟩
abbrev cX3_refuse : ByteArray := prog_5_method_11_code
def yX3_refuse : MethodName := ⟨RX3, "refuse", "()V"⟩
def RX4 : String := "HollowShire$Rules"
def TX4 : u_T := fun k => match k with
  | 0 => ("HollowShire$Rules", "tape", "LHollowShire$Tape;", true)
  | 1 => ("HollowShire$Rules", "texts", "I", false)
  | 2 => ("HollowShire$Rules", "rule", "I", false)
  | 3 => ("HollowShire$Rules", "reader", "LHollowShire$Reader;", true)
  | 4 => ("HollowShire$Rules", "all", "[LHollowShire$Text;", true)
  | 5 => ("HollowShire$Rules", "named", "[I", true)
  | _ => ("HollowShire$Rules", "stack", "[I", true)
def tyX4 : Nat → FieldType := fun k => match k with
  | 0 => .object "HollowShire$Tape"
  | 1 => .int
  | 2 => .int
  | 3 => .object "HollowShire$Reader"
  | 4 => .array (.object "HollowShire$Text")
  | 5 => .array .int
  | _ => .array .int
abbrev wsX40 : List Cond := u_ws RX4 TX4 7
theorem nmX4 : ∀ a, a < 7 → ∀ b, b < 7 → a ≠ b → (TX4 a).2.1 ≠ (TX4 b).2.1 := by decide +kernel
theorem tyX4_ok : ∀ k, k < 7 → parseFieldDescriptor (TX4 k).2.2.1 = some (tyX4 k) := by decide +kernel
abbrev cX4_init : ByteArray := prog_6_method_1_code
def yX4_init : MethodName := ⟨RX4, "<init>", "()V"⟩
abbrev cX4_feedFirstText : ByteArray := prog_6_method_2_code
def yX4_feedFirstText : MethodName := ⟨RX4, "feedFirstText", "()V"⟩
abbrev cX4_takeTape : ByteArray := prog_6_method_3_code
def yX4_takeTape : MethodName := ⟨RX4, "takeTape", "()I"⟩
abbrev cX4_tellSpan : ByteArray := prog_6_method_4_code
def yX4_tellSpan : MethodName := ⟨RX4, "tellSpan", "(II)V"⟩
abbrev cX4_tellGround : ByteArray := prog_6_method_5_code
def yX4_tellGround : MethodName := ⟨RX4, "tellGround", "(LHollowShire$Ground;II)V"⟩
abbrev cX4_value : ByteArray := prog_6_method_6_code
def yX4_value : MethodName := ⟨RX4, "value", "(I)I"⟩
abbrev cX4_joined : ByteArray := prog_6_method_7_code
def yX4_joined : MethodName := ⟨RX4, "joined", "(III)I"⟩
def RX5 : String := "HollowShire$Sheet"
def TX5 : u_T := fun k => match k with
  | 0 => ("HollowShire$Sheet", "sort", "I", false)
  | 1 => ("HollowShire$Sheet", "size", "I", false)
  | _ => ("HollowShire$Sheet", "numbers", "[I", true)
def tyX5 : Nat → FieldType := fun k => match k with
  | 0 => .int
  | 1 => .int
  | _ => .array .int
abbrev wsX50 : List Cond := u_ws RX5 TX5 3
theorem nmX5 : ∀ a, a < 3 → ∀ b, b < 3 → a ≠ b → (TX5 a).2.1 ≠ (TX5 b).2.1 := by decide +kernel
theorem tyX5_ok : ∀ k, k < 3 → parseFieldDescriptor (TX5 k).2.2.1 = some (tyX5 k) := by decide +kernel
abbrev cX5_init : ByteArray := prog_7_method_1_code
def yX5_init : MethodName := ⟨RX5, "<init>", "()V"⟩
abbrev cX5_isMissing : ByteArray := prog_7_method_2_code
def yX5_isMissing : MethodName := ⟨RX5, "isMissing", "()Z"⟩
abbrev cX5_has : ByteArray := prog_7_method_3_code
def yX5_has : MethodName := ⟨RX5, "has", "(I)Z"⟩
abbrev cX5_begin : ByteArray := prog_7_method_4_code
def yX5_begin : MethodName := ⟨RX5, "begin", "(II)V"⟩
abbrev cX5_put : ByteArray := prog_7_method_5_code
def yX5_put : MethodName := ⟨RX5, "put", "(II)V"⟩
def RX6 : String := "HollowShire$Signs"
def TX6 : u_T := fun k => match k with
  | 0 => ("HollowShire$Signs", "size", "I", false)
  | 1 => ("HollowShire$Signs", "kind", "[I", true)
  | 2 => ("HollowShire$Signs", "cell", "[I", true)
  | 3 => ("HollowShire$Signs", "value", "[I", true)
  | 4 => ("HollowShire$Signs", "month", "[I", true)
  | 5 => ("HollowShire$Signs", "mended", "[I", true)
  | _ => ("HollowShire$Signs", "mendMonth", "[I", true)
def tyX6 : Nat → FieldType := fun k => match k with
  | 0 => .int
  | 1 => .array .int
  | 2 => .array .int
  | 3 => .array .int
  | 4 => .array .int
  | 5 => .array .int
  | _ => .array .int
abbrev wsX60 : List Cond := u_ws RX6 TX6 7
theorem nmX6 : ∀ a, a < 7 → ∀ b, b < 7 → a ≠ b → (TX6 a).2.1 ≠ (TX6 b).2.1 := by decide +kernel
theorem tyX6_ok : ∀ k, k < 7 → parseFieldDescriptor (TX6 k).2.2.1 = some (tyX6 k) := by decide +kernel
abbrev cX6_init : ByteArray := prog_8_method_1_code
def yX6_init : MethodName := ⟨RX6, "<init>", "()V"⟩
abbrev cX6_add : ByteArray := prog_8_method_2_code
def yX6_add : MethodName := ⟨RX6, "add", "(IIII)I"⟩
abbrev cX6_valueKnown : ByteArray := prog_8_method_3_code
def yX6_valueKnown : MethodName := ⟨RX6, "valueKnown", "(II)I"⟩
abbrev cX6_least : ByteArray := prog_8_method_4_code
def yX6_least : MethodName := ⟨RX6, "least", "(III)I"⟩
abbrev cX6_most : ByteArray := prog_8_method_5_code
def yX6_most : MethodName := ⟨RX6, "most", "(III)I"⟩
abbrev cX6_speaks : ByteArray := prog_8_method_6_code
def yX6_speaks : MethodName := ⟨RX6, "speaks", "(IIII)Z"⟩
abbrev cX6_leastBy : ByteArray := prog_8_method_7_code
def yX6_leastBy : MethodName := ⟨RX6, "leastBy", "(II)I"⟩
abbrev cX6_mostBy : ByteArray := prog_8_method_8_code
def yX6_mostBy : MethodName := ⟨RX6, "mostBy", "(II)I"⟩
abbrev cX6_trustIn : ByteArray := prog_8_method_9_code
def yX6_trustIn : MethodName := ⟨RX6, "trustIn", "(I)I"⟩
abbrev cX6_isOneOf : ByteArray := prog_8_method_10_code
def yX6_isOneOf : MethodName := ⟨RX6, "isOneOf", "(II)Z"⟩
def RX7 : String := "HollowShire$Tape"
def TX7 : u_T := fun k => match k with
  | 0 => ("HollowShire$Tape", "size", "I", false)
  | 1 => ("HollowShire$Tape", "tokens", "I", false)
  | 2 => ("HollowShire$Tape", "bytes", "[I", true)
  | 3 => ("HollowShire$Tape", "place", "[I", true)
  | 4 => ("HollowShire$Tape", "length", "[I", true)
  | 5 => ("HollowShire$Tape", "kind", "[I", true)
  | _ => ("HollowShire$Tape", "number", "[I", true)
def tyX7 : Nat → FieldType := fun k => match k with
  | 0 => .int
  | 1 => .int
  | 2 => .array .int
  | 3 => .array .int
  | 4 => .array .int
  | 5 => .array .int
  | _ => .array .int
abbrev wsX70 : List Cond := u_ws RX7 TX7 7
theorem nmX7 : ∀ a, a < 7 → ∀ b, b < 7 → a ≠ b → (TX7 a).2.1 ≠ (TX7 b).2.1 := by decide +kernel
theorem tyX7_ok : ∀ k, k < 7 → parseFieldDescriptor (TX7 k).2.2.1 = some (tyX7 k) := by decide +kernel
abbrev cX7_init : ByteArray := prog_9_method_1_code
def yX7_init : MethodName := ⟨RX7, "<init>", "()V"⟩
abbrev cX7_put : ByteArray := prog_9_method_2_code
def yX7_put : MethodName := ⟨RX7, "put", "(I)V"⟩
abbrev cX7_kindAt : ByteArray := prog_9_method_3_code
def yX7_kindAt : MethodName := ⟨RX7, "kindAt", "(I)I"⟩
abbrev cX7_placeAt : ByteArray := prog_9_method_4_code
def yX7_placeAt : MethodName := ⟨RX7, "placeAt", "(I)I"⟩
abbrev cX7_numberAt : ByteArray := prog_9_method_5_code
def yX7_numberAt : MethodName := ⟨RX7, "numberAt", "(I)I"⟩
abbrev cX7_split : ByteArray := prog_9_method_6_code
def yX7_split : MethodName := ⟨RX7, "split", "()V"⟩
abbrev cX7_goOn : ByteArray := prog_9_method_7_code
def yX7_goOn : MethodName := ⟨RX7, "goOn", "(II)Z"⟩
abbrev cX7_tellKind : ByteArray := prog_9_method_8_code
def yX7_tellKind : MethodName := ⟨RX7, "tellKind", "(I)V"⟩
abbrev cX7_tellWord : ByteArray := prog_9_method_9_code
def yX7_tellWord : MethodName := ⟨RX7, "tellWord", "(I)V"⟩
abbrev cX7_spells : ByteArray := prog_9_method_10_code
def yX7_spells : MethodName := ⟨RX7, "spells", "(ILjava/lang/String;)Z"⟩
abbrev cX7_tellNumber : ByteArray := prog_9_method_11_code
def yX7_tellNumber : MethodName := ⟨RX7, "tellNumber", "(I)V"⟩
abbrev cX7_isLetter : ByteArray := prog_9_method_12_code
def yX7_isLetter : MethodName := ⟨RX7, "isLetter", "(I)Z"⟩
abbrev cX7_isDigit : ByteArray := prog_9_method_13_code
def yX7_isDigit : MethodName := ⟨RX7, "isDigit", "(I)Z"⟩
abbrev cX7_isMark : ByteArray := prog_9_method_14_code
def yX7_isMark : MethodName := ⟨RX7, "isMark", "(I)Z"⟩
abbrev cX7_wordAt : ByteArray := prog_9_method_15_code
def yX7_wordAt : MethodName := ⟨RX7, "wordAt", "(I)Ljava/lang/String;"⟩
def RX8 : String := "HollowShire$Text"
def TX8 : u_T := fun k => match k with
  | 0 => ("HollowShire$Text", "steps", "I", false)
  | 1 => ("HollowShire$Text", "step", "[I", true)
  | _ => ("HollowShire$Text", "partEnd", "[I", true)
def tyX8 : Nat → FieldType := fun k => match k with
  | 0 => .int
  | 1 => .array .int
  | _ => .array .int
abbrev wsX80 : List Cond := u_ws RX8 TX8 3
theorem nmX8 : ∀ a, a < 3 → ∀ b, b < 3 → a ≠ b → (TX8 a).2.1 ≠ (TX8 b).2.1 := by decide +kernel
theorem tyX8_ok : ∀ k, k < 3 → parseFieldDescriptor (TX8 k).2.2.1 = some (tyX8 k) := by decide +kernel
abbrev cX8_init : ByteArray := prog_10_method_1_code
def yX8_init : MethodName := ⟨RX8, "<init>", "()V"⟩
abbrev cX8_add : ByteArray := prog_10_method_2_code
def yX8_add : MethodName := ⟨RX8, "add", "(I)V"⟩
abbrev cX8_become : ByteArray := prog_10_method_3_code
def yX8_become : MethodName := ⟨RX8, "become", "(LHollowShire$Text;)V"⟩
def RX9 : String := "HollowShire$Told"
def TX9 : u_T := fun k => match k with
  | 0 => ("HollowShire$Told", "size", "I", false)
  | 1 => ("HollowShire$Told", "cell", "[I", true)
  | 2 => ("HollowShire$Told", "much", "[I", true)
  | _ => ("HollowShire$Told", "month", "[I", true)
def tyX9 : Nat → FieldType := fun k => match k with
  | 0 => .int
  | 1 => .array .int
  | 2 => .array .int
  | _ => .array .int
abbrev wsX90 : List Cond := u_ws RX9 TX9 4
theorem nmX9 : ∀ a, a < 4 → ∀ b, b < 4 → a ≠ b → (TX9 a).2.1 ≠ (TX9 b).2.1 := by decide +kernel
theorem tyX9_ok : ∀ k, k < 4 → parseFieldDescriptor (TX9 k).2.2.1 = some (tyX9 k) := by decide +kernel
abbrev cX9_init : ByteArray := prog_11_method_1_code
def yX9_init : MethodName := ⟨RX9, "<init>", "(I)V"⟩
abbrev cX9_isFull : ByteArray := prog_11_method_2_code
def yX9_isFull : MethodName := ⟨RX9, "isFull", "()Z"⟩
abbrev cX9_add : ByteArray := prog_11_method_3_code
def yX9_add : MethodName := ⟨RX9, "add", "(III)I"⟩
def RX10 : String := "HollowShire"
def TX10 : u_T := fun k => match k with
  | 0 => ("HollowShire", "built", "LHollowShire$Built;", true)
  | 1 => ("HollowShire", "now", "LHollowShire$Ground;", true)
  | 2 => ("HollowShire", "aside", "LHollowShire$Ground;", true)
  | 3 => ("HollowShire", "kept", "LHollowShire$Ground;", true)
  | 4 => ("HollowShire", "isKept", "Z", false)
  | 5 => ("HollowShire", "signBook", "LHollowShire$Signs;", true)
  | 6 => ("HollowShire", "lostBook", "LHollowShire$Told;", true)
  | 7 => ("HollowShire", "warnBook", "LHollowShire$Told;", true)
  | 8 => ("HollowShire", "lastFit", "LHollowShire$Fit;", true)
  | 9 => ("HollowShire", "rules", "LHollowShire$Rules;", true)
  | 10 => ("HollowShire", "rows", "[LHollowShire$Sheet;", true)
  | 11 => ("HollowShire", "lookWorth", "[I", true)
  | 12 => ("HollowShire", "lookSet", "I", false)
  | _ => ("HollowShire", "planSet", "I", false)
def tyX10 : Nat → FieldType := fun k => match k with
  | 0 => .object "HollowShire$Built"
  | 1 => .object "HollowShire$Ground"
  | 2 => .object "HollowShire$Ground"
  | 3 => .object "HollowShire$Ground"
  | 4 => .boolean
  | 5 => .object "HollowShire$Signs"
  | 6 => .object "HollowShire$Told"
  | 7 => .object "HollowShire$Told"
  | 8 => .object "HollowShire$Fit"
  | 9 => .object "HollowShire$Rules"
  | 10 => .array (.object "HollowShire$Sheet")
  | 11 => .array .int
  | 12 => .int
  | _ => .int
abbrev wsX100 : List Cond := u_ws RX10 TX10 14
theorem nmX10 : ∀ a, a < 14 → ∀ b, b < 14 → a ≠ b → (TX10 a).2.1 ≠ (TX10 b).2.1 := by decide +kernel
theorem tyX10_ok : ∀ k, k < 14 → parseFieldDescriptor (TX10 k).2.2.1 = some (tyX10 k) := by decide +kernel
abbrev cX10_init : ByteArray := prog_1_method_1_code
def yX10_init : MethodName := ⟨RX10, "<init>", "()V"⟩
abbrev cX10_ground : ByteArray := prog_1_method_2_code
def yX10_ground : MethodName := ⟨RX10, "ground", "(III)I"⟩
abbrev cX10_house : ByteArray := prog_1_method_3_code
def yX10_house : MethodName := ⟨RX10, "house", "(III)I"⟩
abbrev cX10_pump : ByteArray := prog_1_method_4_code
def yX10_pump : MethodName := ⟨RX10, "pump", "(I)I"⟩
abbrev cX10_pumping : ByteArray := prog_1_method_5_code
def yX10_pumping : MethodName := ⟨RX10, "pumping", "(II)I"⟩
abbrev cX10_rain : ByteArray := prog_1_method_6_code
def yX10_rain : MethodName := ⟨RX10, "rain", "(I)I"⟩
abbrev cX10_move : ByteArray := prog_1_method_7_code
def yX10_move : MethodName := ⟨RX10, "move", "(I)I"⟩
abbrev cX10_run : ByteArray := prog_1_method_8_code
def yX10_run : MethodName := ⟨RX10, "run", "(I)I"⟩
abbrev cX10_sign : ByteArray := prog_1_method_9_code
def yX10_sign : MethodName := ⟨RX10, "sign", "(III)I"⟩
abbrev cX10_mend : ByteArray := prog_1_method_10_code
def yX10_mend : MethodName := ⟨RX10, "mend", "(II)I"⟩
abbrev cX10_signTold : ByteArray := prog_1_method_11_code
def yX10_signTold : MethodName := ⟨RX10, "signTold", "(III)I"⟩
abbrev cX10_span : ByteArray := prog_1_method_12_code
def yX10_span : MethodName := ⟨RX10, "span", "(III)I"⟩
abbrev cX10_lost : ByteArray := prog_1_method_13_code
def yX10_lost : MethodName := ⟨RX10, "lost", "(II)I"⟩
abbrev cX10_fit : ByteArray := prog_1_method_14_code
def yX10_fit : MethodName := ⟨RX10, "fit", "(II)I"⟩
abbrev cX10_fitTold : ByteArray := prog_1_method_15_code
def yX10_fitTold : MethodName := ⟨RX10, "fitTold", "(II)I"⟩
abbrev cX10_feed : ByteArray := prog_1_method_16_code
def yX10_feed : MethodName := ⟨RX10, "feed", "(JI)I"⟩
abbrev cX10_text : ByteArray := prog_1_method_17_code
def yX10_text : MethodName := ⟨RX10, "text", "()I"⟩
abbrev cX10_force : ByteArray := prog_1_method_18_code
def yX10_force : MethodName := ⟨RX10, "force", "(I)I"⟩
abbrev cX10_law : ByteArray := prog_1_method_19_code
def yX10_law : MethodName := ⟨RX10, "law", "(III)J"⟩
abbrev cX10_moved : ByteArray := prog_1_method_20_code
def yX10_moved : MethodName := ⟨RX10, "moved", "(I)J"⟩
abbrev cX10_part : ByteArray := prog_1_method_21_code
def yX10_part : MethodName := ⟨RX10, "part", "(II)J"⟩
abbrev cX10_looks : ByteArray := prog_1_method_22_code
def yX10_looks : MethodName := ⟨RX10, "looks", "(III)I"⟩
abbrev cX10_lookTold : ByteArray := prog_1_method_23_code
def yX10_lookTold : MethodName := ⟨RX10, "lookTold", "()I"⟩
abbrev cX10_often : ByteArray := prog_1_method_24_code
def yX10_often : MethodName := ⟨RX10, "often", "(II)J"⟩
abbrev cX10_warn : ByteArray := prog_1_method_25_code
def yX10_warn : MethodName := ⟨RX10, "warn", "(I)I"⟩
abbrev cX10_warned : ByteArray := prog_1_method_26_code
def yX10_warned : MethodName := ⟨RX10, "warned", "(II)I"⟩
abbrev cX10_cellTold : ByteArray := prog_1_method_27_code
def yX10_cellTold : MethodName := ⟨RX10, "cellTold", "(II)I"⟩
abbrev cX10_houseTold : ByteArray := prog_1_method_28_code
def yX10_houseTold : MethodName := ⟨RX10, "houseTold", "(II)I"⟩
abbrev cX10_beside : ByteArray := prog_1_method_29_code
def yX10_beside : MethodName := ⟨RX10, "beside", "(IIII)J"⟩
abbrev cX10_plan : ByteArray := prog_1_method_30_code
def yX10_plan : MethodName := ⟨RX10, "plan", "(III)J"⟩
abbrev cX10_planned : ByteArray := prog_1_method_31_code
def yX10_planned : MethodName := ⟨RX10, "planned", "()I"⟩
abbrev cX10_image : ByteArray := prog_1_method_32_code
def yX10_image : MethodName := ⟨RX10, "image", "()I"⟩
abbrev cX10_back : ByteArray := prog_1_method_33_code
def yX10_back : MethodName := ⟨RX10, "back", "()I"⟩
abbrev cX10_count : ByteArray := prog_1_method_34_code
def yX10_count : MethodName := ⟨RX10, "count", "(I)I"⟩
abbrev cX10_sheet : ByteArray := prog_1_method_35_code
def yX10_sheet : MethodName := ⟨RX10, "sheet", "(III)I"⟩
abbrev cX10_cell : ByteArray := prog_1_method_36_code
def yX10_cell : MethodName := ⟨RX10, "cell", "(III)I"⟩
abbrev cX10_copy : ByteArray := prog_1_method_37_code
def yX10_copy : MethodName := ⟨RX10, "copy", "(IIIII)I"⟩
abbrev cX10_signs : ByteArray := prog_1_method_38_code
def yX10_signs : MethodName := ⟨RX10, "signs", "(IIII)I"⟩
abbrev cX10_taken : ByteArray := prog_1_method_39_code
def yX10_taken : MethodName := ⟨RX10, "taken", "(III)I"⟩
abbrev cX10_within : ByteArray := prog_1_method_40_code
def yX10_within : MethodName := ⟨RX10, "within", "(III)Z"⟩
abbrev cX10_isCell : ByteArray := prog_1_method_41_code
def yX10_isCell : MethodName := ⟨RX10, "isCell", "(I)Z"⟩
abbrev cX10_isSheet : ByteArray := prog_1_method_42_code
def yX10_isSheet : MethodName := ⟨RX10, "isSheet", "(I)Z"⟩
abbrev cX10_isHouse : ByteArray := prog_1_method_43_code
def yX10_isHouse : MethodName := ⟨RX10, "isHouse", "(I)Z"⟩
abbrev cX10_isSign : ByteArray := prog_1_method_44_code
def yX10_isSign : MethodName := ⟨RX10, "isSign", "(I)Z"⟩
abbrev cX10_isKnown : ByteArray := prog_1_method_45_code
def yX10_isKnown : MethodName := ⟨RX10, "isKnown", "(I)Z"⟩
abbrev cX10_monthsAreLeft : ByteArray := prog_1_method_46_code
def yX10_monthsAreLeft : MethodName := ⟨RX10, "monthsAreLeft", "(I)Z"⟩
abbrev cX10_holdsUnlikeCells : ByteArray := prog_1_method_47_code
def yX10_holdsUnlikeCells : MethodName := ⟨RX10, "holdsUnlikeCells", "(LHollowShire$Sheet;)Z"⟩
abbrev cX10_holdsLooks : ByteArray := prog_1_method_48_code
def yX10_holdsLooks : MethodName := ⟨RX10, "holdsLooks", "(LHollowShire$Sheet;)Z"⟩
abbrev cX10_holdsHouses : ByteArray := prog_1_method_49_code
def yX10_holdsHouses : MethodName := ⟨RX10, "holdsHouses", "(LHollowShire$Sheet;)Z"⟩
abbrev cX10_isNear : ByteArray := prog_1_method_50_code
def yX10_isNear : MethodName := ⟨RX10, "isNear", "(II)Z"⟩
abbrev cX10_greatestShared : ByteArray := prog_1_method_51_code
def yX10_greatestShared : MethodName := ⟨RX10, "greatestShared", "(II)I"⟩
abbrev cX10_ruled : ByteArray := prog_1_method_52_code
def yX10_ruled : MethodName := ⟨RX10, "ruled", "(III)I"⟩
abbrev cX10_worthOfLook : ByteArray := prog_1_method_53_code
def yX10_worthOfLook : MethodName := ⟨RX10, "worthOfLook", "(II)I"⟩
abbrev cX10_priceOfSet : ByteArray := prog_1_method_54_code
def yX10_priceOfSet : MethodName := ⟨RX10, "priceOfSet", "(LHollowShire$Sheet;I)I"⟩
abbrev cX10_worthOfSet : ByteArray := prog_1_method_55_code
def yX10_worthOfSet : MethodName := ⟨RX10, "worthOfSet", "(LHollowShire$Sheet;I)I"⟩
abbrev cX10_cameTrue : ByteArray := prog_1_method_56_code
def yX10_cameTrue : MethodName := ⟨RX10, "cameTrue", "(II)Z"⟩
abbrev cX10_trueWarnings : ByteArray := prog_1_method_57_code
def yX10_trueWarnings : MethodName := ⟨RX10, "trueWarnings", "(I)I"⟩
abbrev cX10_oldWarnings : ByteArray := prog_1_method_58_code
def yX10_oldWarnings : MethodName := ⟨RX10, "oldWarnings", "(I)I"⟩
abbrev cX10_missedCells : ByteArray := prog_1_method_59_code
def yX10_missedCells : MethodName := ⟨RX10, "missedCells", "(I)I"⟩
abbrev cX10_housesOfSet : ByteArray := prog_1_method_60_code
def yX10_housesOfSet : MethodName := ⟨RX10, "housesOfSet", "(LHollowShire$Sheet;I)I"⟩
abbrev cX10_peopleToMove : ByteArray := prog_1_method_61_code
def yX10_peopleToMove : MethodName := ⟨RX10, "peopleToMove", "(I)I"⟩
abbrev cX10_sparedBy : ByteArray := prog_1_method_62_code
def yX10_sparedBy : MethodName := ⟨RX10, "sparedBy", "(I)I"⟩
def RX11 : String := "HollowShireModel"
def TX11 : u_T := fun k => match k with
  | 0 => ("HollowShireModel", "month", "I", false)
  | 1 => ("HollowShireModel", "rain", "I", false)
  | 2 => ("HollowShireModel", "harm", "I", false)
  | 3 => ("HollowShireModel", "houses", "I", false)
  | 4 => ("HollowShireModel", "pumps", "I", false)
  | 5 => ("HollowShireModel", "rock", "[I", true)
  | 6 => ("HollowShireModel", "hollow", "[I", true)
  | 7 => ("HollowShireModel", "water", "[I", true)
  | 8 => ("HollowShireModel", "fell", "[I", true)
  | 9 => ("HollowShireModel", "flows", "[I", true)
  | 10 => ("HollowShireModel", "solves", "[I", true)
  | 11 => ("HollowShireModel", "bears", "[I", true)
  | 12 => ("HollowShireModel", "counted", "[I", true)
  | 13 => ("HollowShireModel", "fallen", "[I", true)
  | 14 => ("HollowShireModel", "houseCell", "[I", true)
  | 15 => ("HollowShireModel", "worth", "[I", true)
  | 16 => ("HollowShireModel", "people", "[I", true)
  | 17 => ("HollowShireModel", "gone", "[I", true)
  | 18 => ("HollowShireModel", "pumpCell", "[I", true)
  | 19 => ("HollowShireModel", "pumping", "[I", true)
  | 20 => ("HollowShireModel", "isMoved", "[Z", true)
  | 21 => ("HollowShireModel", "signs", "I", false)
  | 22 => ("HollowShireModel", "signKind", "[I", true)
  | 23 => ("HollowShireModel", "signCell", "[I", true)
  | 24 => ("HollowShireModel", "signMonth", "[I", true)
  | 25 => ("HollowShireModel", "signValue", "[I", true)
  | 26 => ("HollowShireModel", "mendValue", "[I", true)
  | 27 => ("HollowShireModel", "mendMonth", "[I", true)
  | 28 => ("HollowShireModel", "spanLeast", "I", false)
  | 29 => ("HollowShireModel", "spanMost", "I", false)
  | 30 => ("HollowShireModel", "losts", "I", false)
  | 31 => ("HollowShireModel", "lostCell", "[I", true)
  | 32 => ("HollowShireModel", "lostMuch", "[I", true)
  | 33 => ("HollowShireModel", "lostMonth", "[I", true)
  | 34 => ("HollowShireModel", "fitMany", "I", false)
  | 35 => ("HollowShireModel", "rivals", "I", false)
  | 36 => ("HollowShireModel", "hasFit", "Z", false)
  | 37 => ("HollowShireModel", "sizes", "[I", true)
  | 38 => ("HollowShireModel", "fitCell", "[I", true)
  | 39 => ("HollowShireModel", "fitLeast", "[I", true)
  | 40 => ("HollowShireModel", "fitMost", "[I", true)
  | 41 => ("HollowShireModel", "size", "[I", true)
  | 42 => ("HollowShireModel", "bestSize", "[I", true)
  | 43 => ("HollowShireModel", "sureLeast", "[I", true)
  | 44 => ("HollowShireModel", "sureMost", "[I", true)
  | 45 => ("HollowShireModel", "texts", "I", false)
  | 46 => ("HollowShireModel", "rule", "I", false)
  | 47 => ("HollowShireModel", "fed", "I", false)
  | 48 => ("HollowShireModel", "text", "[I", true)
  | 49 => ("HollowShireModel", "textLong", "[I", true)
  | 50 => ("HollowShireModel", "base", "I", false)
  | 51 => ("HollowShireModel", "many", "I", false)
  | 52 => ("HollowShireModel", "at", "I", false)
  | 53 => ("HollowShireModel", "token", "I", false)
  | 54 => ("HollowShireModel", "tokenAt", "I", false)
  | 55 => ("HollowShireModel", "value", "I", false)
  | 56 => ("HollowShireModel", "waits", "[I", true)
  | 57 => ("HollowShireModel", "pile", "[I", true)
  | 58 => ("HollowShireModel", "facts", "[I", true)
  | 59 => ("HollowShireModel", "waiting", "I", false)
  | 60 => ("HollowShireModel", "piled", "I", false)
  | 61 => ("HollowShireModel", "open", "I", false)
  | 62 => ("HollowShireModel", "says", "[I", true)
  | 63 => ("HollowShireModel", "lookSet", "I", false)
  | 64 => ("HollowShireModel", "lookWorth", "[I", true)
  | 65 => ("HollowShireModel", "warnings", "I", false)
  | 66 => ("HollowShireModel", "warnCell", "[I", true)
  | 67 => ("HollowShireModel", "warnMonth", "[I", true)
  | 68 => ("HollowShireModel", "kept", "[I", true)
  | 69 => ("HollowShireModel", "keptHouses", "I", false)
  | 70 => ("HollowShireModel", "keptPumps", "I", false)
  | 71 => ("HollowShireModel", "hasImage", "Z", false)
  | 72 => ("HollowShireModel", "planSet", "I", false)
  | 73 => ("HollowShireModel", "sort", "[I", true)
  | 74 => ("HollowShireModel", "length", "[I", true)
  | 75 => ("HollowShireModel", "item", "[I", true)
  | _ => ("HollowShireModel", "aside", "[I", true)
def tyX11 : Nat → FieldType := fun k => match k with
  | 0 => .int
  | 1 => .int
  | 2 => .int
  | 3 => .int
  | 4 => .int
  | 5 => .array .int
  | 6 => .array .int
  | 7 => .array .int
  | 8 => .array .int
  | 9 => .array .int
  | 10 => .array .int
  | 11 => .array .int
  | 12 => .array .int
  | 13 => .array .int
  | 14 => .array .int
  | 15 => .array .int
  | 16 => .array .int
  | 17 => .array .int
  | 18 => .array .int
  | 19 => .array .int
  | 20 => .array .boolean
  | 21 => .int
  | 22 => .array .int
  | 23 => .array .int
  | 24 => .array .int
  | 25 => .array .int
  | 26 => .array .int
  | 27 => .array .int
  | 28 => .int
  | 29 => .int
  | 30 => .int
  | 31 => .array .int
  | 32 => .array .int
  | 33 => .array .int
  | 34 => .int
  | 35 => .int
  | 36 => .boolean
  | 37 => .array .int
  | 38 => .array .int
  | 39 => .array .int
  | 40 => .array .int
  | 41 => .array .int
  | 42 => .array .int
  | 43 => .array .int
  | 44 => .array .int
  | 45 => .int
  | 46 => .int
  | 47 => .int
  | 48 => .array .int
  | 49 => .array .int
  | 50 => .int
  | 51 => .int
  | 52 => .int
  | 53 => .int
  | 54 => .int
  | 55 => .int
  | 56 => .array .int
  | 57 => .array .int
  | 58 => .array .int
  | 59 => .int
  | 60 => .int
  | 61 => .int
  | 62 => .array .int
  | 63 => .int
  | 64 => .array .int
  | 65 => .int
  | 66 => .array .int
  | 67 => .array .int
  | 68 => .array .int
  | 69 => .int
  | 70 => .int
  | 71 => .boolean
  | 72 => .int
  | 73 => .array .int
  | 74 => .array .int
  | 75 => .array .int
  | _ => .array .int
abbrev wsX110 : List Cond := u_ws RX11 TX11 77
theorem nmX11 : ∀ a, a < 77 → ∀ b, b < 77 → a ≠ b → (TX11 a).2.1 ≠ (TX11 b).2.1 := by decide +kernel
theorem tyX11_ok : ∀ k, k < 77 → parseFieldDescriptor (TX11 k).2.2.1 = some (tyX11 k) := by decide +kernel
abbrev cX11_in : ByteArray := prog_13_method_1_code
def yX11_in : MethodName := ⟨RX11, "in", "(III)Z"⟩
abbrev cX11_isCell : ByteArray := prog_13_method_2_code
def yX11_isCell : MethodName := ⟨RX11, "isCell", "(I)Z"⟩
abbrev cX11_init : ByteArray := prog_13_method_3_code
def yX11_init : MethodName := ⟨RX11, "<init>", "()V"⟩
abbrev cX11_ground : ByteArray := prog_13_method_4_code
def yX11_ground : MethodName := ⟨RX11, "ground", "(III)I"⟩
abbrev cX11_house : ByteArray := prog_13_method_5_code
def yX11_house : MethodName := ⟨RX11, "house", "(III)I"⟩
abbrev cX11_pump : ByteArray := prog_13_method_6_code
def yX11_pump : MethodName := ⟨RX11, "pump", "(I)I"⟩
abbrev cX11_pumping : ByteArray := prog_13_method_7_code
def yX11_pumping : MethodName := ⟨RX11, "pumping", "(II)I"⟩
abbrev cX11_rain : ByteArray := prog_13_method_8_code
def yX11_rain : MethodName := ⟨RX11, "rain", "(I)I"⟩
abbrev cX11_isHouse : ByteArray := prog_13_method_9_code
def yX11_isHouse : MethodName := ⟨RX11, "isHouse", "(I)Z"⟩
abbrev cX11_move : ByteArray := prog_13_method_10_code
def yX11_move : MethodName := ⟨RX11, "move", "(I)I"⟩
abbrev cX11_wentBy : ByteArray := prog_13_method_11_code
def yX11_wentBy : MethodName := ⟨RX11, "wentBy", "(II)V"⟩
abbrev cX11_between : ByteArray := prog_13_method_12_code
def yX11_between : MethodName := ⟨RX11, "between", "(II)V"⟩
abbrev cX11_harmOf : ByteArray := prog_13_method_13_code
def yX11_harmOf : MethodName := ⟨RX11, "harmOf", "(I)I"⟩
abbrev cX11_goMonth : ByteArray := prog_13_method_14_code
def yX11_goMonth : MethodName := ⟨RX11, "goMonth", "()V"⟩
abbrev cX11_run : ByteArray := prog_13_method_15_code
def yX11_run : MethodName := ⟨RX11, "run", "(I)I"⟩
abbrev cX11_isKnown : ByteArray := prog_13_method_16_code
def yX11_isKnown : MethodName := ⟨RX11, "isKnown", "(I)Z"⟩
abbrev cX11_sign : ByteArray := prog_13_method_17_code
def yX11_sign : MethodName := ⟨RX11, "sign", "(III)I"⟩
abbrev cX11_isSign : ByteArray := prog_13_method_18_code
def yX11_isSign : MethodName := ⟨RX11, "isSign", "(I)Z"⟩
abbrev cX11_mend : ByteArray := prog_13_method_19_code
def yX11_mend : MethodName := ⟨RX11, "mend", "(II)I"⟩
abbrev cX11_valueOf : ByteArray := prog_13_method_20_code
def yX11_valueOf : MethodName := ⟨RX11, "valueOf", "(II)I"⟩
abbrev cX11_leastOf : ByteArray := prog_13_method_21_code
def yX11_leastOf : MethodName := ⟨RX11, "leastOf", "(II)I"⟩
abbrev cX11_mostOf : ByteArray := prog_13_method_22_code
def yX11_mostOf : MethodName := ⟨RX11, "mostOf", "(II)I"⟩
abbrev cX11_trustOf : ByteArray := prog_13_method_23_code
def yX11_trustOf : MethodName := ⟨RX11, "trustOf", "(I)I"⟩
abbrev cX11_signTold : ByteArray := prog_13_method_24_code
def yX11_signTold : MethodName := ⟨RX11, "signTold", "(III)I"⟩
abbrev cX11_findSpan : ByteArray := prog_13_method_25_code
def yX11_findSpan : MethodName := ⟨RX11, "findSpan", "(III)V"⟩
abbrev cX11_span : ByteArray := prog_13_method_26_code
def yX11_span : MethodName := ⟨RX11, "span", "(III)I"⟩
abbrev cX11_lost : ByteArray := prog_13_method_27_code
def yX11_lost : MethodName := ⟨RX11, "lost", "(II)I"⟩
abbrev cX11_isNear : ByteArray := prog_13_method_28_code
def yX11_isNear : MethodName := ⟨RX11, "isNear", "(II)Z"⟩
abbrev cX11_isFit : ByteArray := prog_13_method_29_code
def yX11_isFit : MethodName := ⟨RX11, "isFit", "(I)Z"⟩
abbrev cX11_fit : ByteArray := prog_13_method_30_code
def yX11_fit : MethodName := ⟨RX11, "fit", "(II)I"⟩
abbrev cX11_fitTold : ByteArray := prog_13_method_31_code
def yX11_fitTold : MethodName := ⟨RX11, "fitTold", "(II)I"⟩
abbrev cX11_feed : ByteArray := prog_13_method_32_code
def yX11_feed : MethodName := ⟨RX11, "feed", "(JI)I"⟩
abbrev cX11_byteAt : ByteArray := prog_13_method_33_code
def yX11_byteAt : MethodName := ⟨RX11, "byteAt", "(I)I"⟩
abbrev cX11_isLetter : ByteArray := prog_13_method_34_code
def yX11_isLetter : MethodName := ⟨RX11, "isLetter", "(I)Z"⟩
abbrev cX11_isDigit : ByteArray := prog_13_method_35_code
def yX11_isDigit : MethodName := ⟨RX11, "isDigit", "(I)Z"⟩
abbrev cX11_wordOf : ByteArray := prog_13_method_36_code
def yX11_wordOf : MethodName := ⟨RX11, "wordOf", "(J)I"⟩
abbrev cX11_step : ByteArray := prog_13_method_37_code
def yX11_step : MethodName := ⟨RX11, "step", "()V"⟩
abbrev cX11_isKey : ByteArray := prog_13_method_38_code
def yX11_isKey : MethodName := ⟨RX11, "isKey", "(I)Z"⟩
abbrev cX11_rankOf : ByteArray := prog_13_method_39_code
def yX11_rankOf : MethodName := ⟨RX11, "rankOf", "(I)I"⟩
abbrev cX11_work : ByteArray := prog_13_method_40_code
def yX11_work : MethodName := ⟨RX11, "work", "(I)V"⟩
abbrev cX11_settle : ByteArray := prog_13_method_41_code
def yX11_settle : MethodName := ⟨RX11, "settle", "(I)V"⟩
abbrev cX11_opens : ByteArray := prog_13_method_42_code
def yX11_opens : MethodName := ⟨RX11, "opens", "(I)Z"⟩
abbrev cX11_push : ByteArray := prog_13_method_43_code
def yX11_push : MethodName := ⟨RX11, "push", "(I)V"⟩
abbrev cX11_joins : ByteArray := prog_13_method_44_code
def yX11_joins : MethodName := ⟨RX11, "joins", "(I)Z"⟩
abbrev cX11_joint : ByteArray := prog_13_method_45_code
def yX11_joint : MethodName := ⟨RX11, "joint", "()I"⟩
abbrev cX11_takesE : ByteArray := prog_13_method_46_code
def yX11_takesE : MethodName := ⟨RX11, "takesE", "()Z"⟩
abbrev cX11_goes : ByteArray := prog_13_method_47_code
def yX11_goes : MethodName := ⟨RX11, "goes", "(I)Z"⟩
abbrev cX11_text : ByteArray := prog_13_method_48_code
def yX11_text : MethodName := ⟨RX11, "text", "()I"⟩
abbrev cX11_force : ByteArray := prog_13_method_49_code
def yX11_force : MethodName := ⟨RX11, "force", "(I)I"⟩
abbrev cX11_peopleIn : ByteArray := prog_13_method_50_code
def yX11_peopleIn : MethodName := ⟨RX11, "peopleIn", "(I)I"⟩
abbrev cX11_doubtOf : ByteArray := prog_13_method_51_code
def yX11_doubtOf : MethodName := ⟨RX11, "doubtOf", "(II)I"⟩
abbrev cX11_findFacts : ByteArray := prog_13_method_52_code
def yX11_findFacts : MethodName := ⟨RX11, "findFacts", "(II)V"⟩
abbrev cX11_lawOf : ByteArray := prog_13_method_53_code
def yX11_lawOf : MethodName := ⟨RX11, "lawOf", "(III)I"⟩
abbrev cX11_law : ByteArray := prog_13_method_54_code
def yX11_law : MethodName := ⟨RX11, "law", "(III)J"⟩
abbrev cX11_moved : ByteArray := prog_13_method_55_code
def yX11_moved : MethodName := ⟨RX11, "moved", "(I)J"⟩
abbrev cX11_part : ByteArray := prog_13_method_56_code
def yX11_part : MethodName := ⟨RX11, "part", "(II)J"⟩
abbrev cX11_looks : ByteArray := prog_13_method_57_code
def yX11_looks : MethodName := ⟨RX11, "looks", "(III)I"⟩
abbrev cX11_lookTold : ByteArray := prog_13_method_58_code
def yX11_lookTold : MethodName := ⟨RX11, "lookTold", "()I"⟩
abbrev cX11_divisor : ByteArray := prog_13_method_59_code
def yX11_divisor : MethodName := ⟨RX11, "divisor", "(JJ)J"⟩
abbrev cX11_often : ByteArray := prog_13_method_60_code
def yX11_often : MethodName := ⟨RX11, "often", "(II)J"⟩
abbrev cX11_warn : ByteArray := prog_13_method_61_code
def yX11_warn : MethodName := ⟨RX11, "warn", "(I)I"⟩
abbrev cX11_isTrue : ByteArray := prog_13_method_62_code
def yX11_isTrue : MethodName := ⟨RX11, "isTrue", "(II)Z"⟩
abbrev cX11_warned : ByteArray := prog_13_method_63_code
def yX11_warned : MethodName := ⟨RX11, "warned", "(II)I"⟩
abbrev cX11_cellTold : ByteArray := prog_13_method_64_code
def yX11_cellTold : MethodName := ⟨RX11, "cellTold", "(II)I"⟩
abbrev cX11_houseTold : ByteArray := prog_13_method_65_code
def yX11_houseTold : MethodName := ⟨RX11, "houseTold", "(II)I"⟩
abbrev cX11_cellsFallen : ByteArray := prog_13_method_66_code
def yX11_cellsFallen : MethodName := ⟨RX11, "cellsFallen", "()I"⟩
abbrev cX11_keep : ByteArray := prog_13_method_67_code
def yX11_keep : MethodName := ⟨RX11, "keep", "(I)V"⟩
abbrev cX11_putBack : ByteArray := prog_13_method_68_code
def yX11_putBack : MethodName := ⟨RX11, "putBack", "(III)V"⟩
abbrev cX11_beside : ByteArray := prog_13_method_69_code
def yX11_beside : MethodName := ⟨RX11, "beside", "(IIII)J"⟩
abbrev cX11_plan : ByteArray := prog_13_method_70_code
def yX11_plan : MethodName := ⟨RX11, "plan", "(III)J"⟩
abbrev cX11_planned : ByteArray := prog_13_method_71_code
def yX11_planned : MethodName := ⟨RX11, "planned", "()I"⟩
abbrev cX11_image : ByteArray := prog_13_method_72_code
def yX11_image : MethodName := ⟨RX11, "image", "()I"⟩
abbrev cX11_back : ByteArray := prog_13_method_73_code
def yX11_back : MethodName := ⟨RX11, "back", "()I"⟩
abbrev cX11_count : ByteArray := prog_13_method_74_code
def yX11_count : MethodName := ⟨RX11, "count", "(I)I"⟩
abbrev cX11_isSheet : ByteArray := prog_13_method_75_code
def yX11_isSheet : MethodName := ⟨RX11, "isSheet", "(I)Z"⟩
abbrev cX11_sheet : ByteArray := prog_13_method_76_code
def yX11_sheet : MethodName := ⟨RX11, "sheet", "(III)I"⟩
abbrev cX11_cell : ByteArray := prog_13_method_77_code
def yX11_cell : MethodName := ⟨RX11, "cell", "(III)I"⟩
abbrev cX11_copy : ByteArray := prog_13_method_78_code
def yX11_copy : MethodName := ⟨RX11, "copy", "(IIIII)I"⟩
abbrev cX11_signs : ByteArray := prog_13_method_79_code
def yX11_signs : MethodName := ⟨RX11, "signs", "(IIII)I"⟩
abbrev cX11_isOfKind : ByteArray := prog_13_method_80_code
def yX11_isOfKind : MethodName := ⟨RX11, "isOfKind", "(II)Z"⟩
abbrev cX11_taken : ByteArray := prog_13_method_81_code
def yX11_taken : MethodName := ⟨RX11, "taken", "(III)I"⟩
def RJ13 : String := "java/lang/Long"
def TJ13 : u_T := fun k => match k with
  | _ => ("", "", "", false)
def tyJ13 : Nat → FieldType := fun k => match k with
  | _ => .int
abbrev wsJ130 : List Cond := u_ws RJ13 TJ13 0
theorem nmJ13 : ∀ a, a < 0 → ∀ b, b < 0 → a ≠ b → (TJ13 a).2.1 ≠ (TJ13 b).2.1 := by decide +kernel
theorem tyJ13_ok : ∀ k, k < 0 → parseFieldDescriptor (TJ13 k).2.2.1 = some (tyJ13 k) := by decide +kernel
abbrev cJ13_bitCount_95d88 : ByteArray := prog_14_method_50_code
def yJ13_bitCount_95d88 : MethodName := ⟨RJ13, "bitCount", "(J)I"⟩
def RJ9 : String := "java/lang/Math"
def TJ9 : u_T := fun k => match k with
  | _ => ("", "", "", false)
def tyJ9 : Nat → FieldType := fun k => match k with
  | _ => .int
abbrev wsJ90 : List Cond := u_ws RJ9 TJ9 0
theorem nmJ9 : ∀ a, a < 0 → ∀ b, b < 0 → a ≠ b → (TJ9 a).2.1 ≠ (TJ9 b).2.1 := by decide +kernel
theorem tyJ9_ok : ∀ k, k < 0 → parseFieldDescriptor (TJ9 k).2.2.1 = some (tyJ9 k) := by decide +kernel
abbrev cJ9_abs_0f7a4 : ByteArray := prog_15_method_59_code
def yJ9_abs_0f7a4 : MethodName := ⟨RJ9, "abs", "(I)I"⟩
abbrev cJ9_max_7cf53 : ByteArray := prog_15_method_65_code
def yJ9_max_7cf53 : MethodName := ⟨RJ9, "max", "(II)I"⟩
abbrev cJ9_min_7cf53 : ByteArray := prog_15_method_69_code
def yJ9_min_7cf53 : MethodName := ⟨RJ9, "min", "(II)I"⟩
def RJ0 : String := "java/lang/String"
def TJ0 : u_T := fun k => match k with
  | _ => ("", "", "", false)
def tyJ0 : Nat → FieldType := fun k => match k with
  | _ => .int
abbrev wsJ00 : List Cond := u_ws RJ0 TJ0 0
theorem nmJ0 : ∀ a, a < 0 → ∀ b, b < 0 → a ≠ b → (TJ0 a).2.1 ≠ (TJ0 b).2.1 := by decide +kernel
theorem tyJ0_ok : ∀ k, k < 0 → parseFieldDescriptor (TJ0 k).2.2.1 = some (tyJ0 k) := by decide +kernel
abbrev cJ0_length_8abf5 : ByteArray := prog_16_method_54_code
def yJ0_length_8abf5 : MethodName := ⟨RJ0, "length", "()I"⟩
abbrev cJ0_charAt_5068e : ByteArray := prog_16_method_56_code
def yJ0_charAt_5068e : MethodName := ⟨RJ0, "charAt", "(I)C"⟩
abbrev cJ0_coder_7d493 : ByteArray := prog_16_method_152_code
def yJ0_coder_7d493 : MethodName := ⟨RJ0, "coder", "()B"⟩
abbrev cJ0_isLatin1_aae02 : ByteArray := prog_16_method_154_code
def yJ0_isLatin1_aae02 : MethodName := ⟨RJ0, "isLatin1", "()Z"⟩
abbrev cJ0_checkIndex_df160 : ByteArray := prog_16_method_155_code
def yJ0_checkIndex_df160 : MethodName := ⟨RJ0, "checkIndex", "(II)V"⟩
def RJ1 : String := "java/lang/StringLatin1"
def TJ1 : u_T := fun k => match k with
  | _ => ("", "", "", false)
def tyJ1 : Nat → FieldType := fun k => match k with
  | _ => .int
abbrev wsJ10 : List Cond := u_ws RJ1 TJ1 0
theorem nmJ1 : ∀ a, a < 0 → ∀ b, b < 0 → a ≠ b → (TJ1 a).2.1 ≠ (TJ1 b).2.1 := by decide +kernel
theorem tyJ1_ok : ∀ k, k < 0 → parseFieldDescriptor (TJ1 k).2.2.1 = some (tyJ1 k) := by decide +kernel
abbrev cJ1_charAt_3b067 : ByteArray := prog_17_method_2_code
def yJ1_charAt_3b067 : MethodName := ⟨RJ1, "charAt", "([BI)C"⟩
def RJ2 : String := "java/lang/StringUTF16"
def TJ2 : u_T := fun k => match k with
  | _ => ("", "", "", false)
def tyJ2 : Nat → FieldType := fun k => match k with
  | _ => .int
abbrev wsJ20 : List Cond := u_ws RJ2 TJ2 0
theorem nmJ2 : ∀ a, a < 0 → ∀ b, b < 0 → a ≠ b → (TJ2 a).2.1 ≠ (TJ2 b).2.1 := by decide +kernel
theorem tyJ2_ok : ∀ k, k < 0 → parseFieldDescriptor (TJ2 k).2.2.1 = some (tyJ2 k) := by decide +kernel
abbrev cJ2_getChar_3b067 : ByteArray := prog_18_method_5_code
def yJ2_getChar_3b067 : MethodName := ⟨RJ2, "getChar", "([BI)C"⟩
abbrev cJ2_length_9d52b : ByteArray := prog_18_method_6_code
def yJ2_length_9d52b : MethodName := ⟨RJ2, "length", "([B)I"⟩
abbrev cJ2_charAt_3b067 : ByteArray := prog_18_method_83_code
def yJ2_charAt_3b067 : MethodName := ⟨RJ2, "charAt", "([BI)C"⟩
abbrev cJ2_checkIndex_2214a : ByteArray := prog_18_method_91_code
def yJ2_checkIndex_2214a : MethodName := ⟨RJ2, "checkIndex", "(I[B)V"⟩
def RJ10 : String := "java/lang/System"
def TJ10 : u_T := fun k => match k with
  | _ => ("", "", "", false)
def tyJ10 : Nat → FieldType := fun k => match k with
  | _ => .int
abbrev wsJ100 : List Cond := u_ws RJ10 TJ10 0
theorem nmJ10 : ∀ a, a < 0 → ∀ b, b < 0 → a ≠ b → (TJ10 a).2.1 ≠ (TJ10 b).2.1 := by decide +kernel
theorem tyJ10_ok : ∀ k, k < 0 → parseFieldDescriptor (TJ10 k).2.2.1 = some (tyJ10 k) := by decide +kernel
def RJ3 : String := "jdk/internal/util/Preconditions"
def TJ3 : u_T := fun k => match k with
  | _ => ("", "", "", false)
def tyJ3 : Nat → FieldType := fun k => match k with
  | _ => .int
abbrev wsJ30 : List Cond := u_ws RJ3 TJ3 0
theorem nmJ3 : ∀ a, a < 0 → ∀ b, b < 0 → a ≠ b → (TJ3 a).2.1 ≠ (TJ3 b).2.1 := by decide +kernel
theorem tyJ3_ok : ∀ k, k < 0 → parseFieldDescriptor (TJ3 k).2.2.1 = some (tyJ3 k) := by decide +kernel
abbrev cJ3_checkIndex_8e157 : ByteArray := prog_20_method_11_code
def yJ3_checkIndex_8e157 : MethodName := ⟨RJ3, "checkIndex", "(IILjava/util/function/BiFunction;)I"⟩
def RL : String := "HollowShireLaw"
abbrev cL_law : ByteArray := code
def yL_law : MethodName := ⟨RL, "law", "([I)Z"⟩
end
section
/-! the words of the tables that hold in every state with these tables -/
def gw : List Cond := lw_tbl.filter goodWord
theorem gw_good : GoodIn gw gw := fun _ h => ⟨h, good_of_word (List.mem_filter.mp h).2⟩
theorem gw_at {w : Cond} (i : Nat) (h : lw_tbl[i]? = some w) (g : goodWord w = true) : w ∈ gw := List.mem_filter.mpr ⟨List.mem_of_getElem? h, g⟩
theorem gw_hts {args : Array Value} {s : State} (h : ∀ w ∈ lw_tbl, w.before args s = true) : ∀ w ∈ gw, w.before args s = true := fun w hw => h w (List.mem_filter.mp hw).1
theorem gw_of (ws : List Cond) (ps : List Nat) (hp : ws = ps.filterMap (fun i => lw_tbl[i]?)) (h : ws.all goodWord = true) : ∀ w ∈ ws, w ∈ gw := by
  intro w hw
  have h1 := List.all_eq_true.mp h w hw
  rw [hp] at hw
  obtain ⟨i, -, hi⟩ := List.mem_filterMap.mp hw
  exact gw_at i hi h1
abbrev clX : List vw_C := [(RX0, TX0, 6), (RX1, TX1, 13), (RX2, TX2, 16), (RX3, TX3, 5), (RX4, TX4, 7), (RX5, TX5, 3), (RX6, TX6, 7), (RX7, TX7, 7), (RX8, TX8, 3), (RX9, TX9, 4), (RX10, TX10, 14), (RX11, TX11, 77)]
def clN (c : Nat) : Nat := ([6, 13, 16, 5, 7, 3, 7, 7, 3, 4, 14, 77] : List Nat).getD c 0
/-- which fields are references -/
def refB : List (List Bool) := [[false, false, true, true, true, true], [false, false, false, false, true, true, true, true, true, true, false, true, true], [true, false, false, false, false, true, true, true, true, true, true, true, true, true, true, true], [true, true, false, false, false], [true, false, false, true, true, true, true], [false, false, true], [false, true, true, true, true, true, true], [false, false, true, true, true, true, true], [false, true, true], [false, true, true, true], [true, true, true, true, false, true, true, true, true, true, true, true, false, false], [false, false, false, false, false, true, true, true, true, true, true, true, true, true, true, true, true, true, true, true, true, false, true, true, true, true, true, true, false, false, false, true, true, true, false, false, false, true, true, true, true, true, true, true, true, false, false, false, true, true, false, false, false, false, false, false, true, true, true, false, false, false, true, false, true, false, true, true, true, false, false, false, false, true, true, true, true]]
def isR (c j : Nat) : Bool := (refB.getD c []).getD j false
/-! the world of one system: places 0, 1 .., each an object or an array; what the places hold: whole numbers (booleans among them); references stand -/
abbrev Sy : Type := List (Nat × Nat) × (Nat → Nat → Option Nat)
abbrev Wd : Type := Nat → Nat → Int32
abbrev Mi : Type := MethodName × ByteArray × Nat × Option FieldType
def cvt (ad : Nat → Nat) : Value → Value := fun v => match v with
  | .ref k => .ref (ad k)
  | v => v
theorem cvt_cat (ad : Nat → Nat) (v : Value) : (cvt ad v).category = v.category := by cases v <;> rfl
def entOf (cy : Nat → ClassId) (ad : Nat → Nat) (kd : Nat × Nat) (ik : Nat → Int32) (rk : Nat → Option Nat) : va_E :=
  if kd.1 < 20 then .inr (kd.1, (List.range (clN kd.1)).map fun j => if isR kd.1 j then va_rf ((rk j).map ad) else .int (ik j))
  else if kd.1 < 22 then .inl (cy kd.1, kd.2, .inl ik)
  else .inl (cy kd.1, kd.2, .inr (.inr (.inr (.inr fun j => (rk j).map ad))))
def wsO (cy : Nat → ClassId) (ad : Nat → Nat) (S : Sy) (I : Wd) : va_W := (List.range S.1.length).map fun k => (ad k, entOf cy ad (S.1.getD k (0, 0)) (I k) (S.2 k))
def tyL (cy : Nat → ClassId) : List (ClassId × FieldType) := [(cy 20, .int), (cy 21, .boolean), (cy 22, .object RX5), (cy 23, .object RX8)]
def Inj (S : Sy) (ad : Nat → Nat) : Prop := ∀ i j, i < S.1.length → j < S.1.length → ad i = ad j → i = j
def Aad (S : Sy) (ad : Nat → Nat) : Nat → Prop := fun q => ∃ k, k < S.1.length ∧ q = ad k
def rset (I : Wd) (k : Nat) (f : Nat → Int32) : Wd := fun a => if a = k then f else I a
/-- a place k of which place j becomes v -/
def ist (I : Wd) (k j : Nat) (v : Int32) : Wd := rset I k (upd (I k) j v)
theorem ws_at {cy : Nat → ClassId} {ad : Nat → Nat} {S : Sy} {I : Wd} {k : Nat} {kd : Nat × Nat} (h : S.1[k]? = some kd) : (wsO cy ad S I)[k]? = some (ad k, entOf cy ad kd (I k) (S.2 k)) := by
  have hl := (List.getElem?_eq_some_iff.mp h).1
  simp [wsO, List.getElem?_map, List.getElem?_range hl, List.getD, h]
theorem ws_set {cy : Nat → ClassId} {ad : Nat → Nat} {S : Sy} {I : Wd} {k : Nat} {kd : Nat × Nat} (h : S.1[k]? = some kd) (f : Nat → Int32) : (wsO cy ad S I).set k (ad k, entOf cy ad kd f (S.2 k)) = wsO cy ad S (rset I k f) := by
  have hl := (List.getElem?_eq_some_iff.mp h).1
  apply List.ext_getElem?
  intro j
  by_cases e : j = k
  · subst e
    rw [List.getElem?_set_self (by simpa [wsO] using hl), ws_at h]
    simp [rset]
  · rw [List.getElem?_set_ne (Ne.symm e)]
    simp only [wsO, List.getElem?_map, rset, if_neg e]
    cases hj : (List.range S.1.length)[j]? with
    | none => rfl
    | some q =>
      have hq : q = j := by
        have h2 := (List.getElem?_eq_some_iff.mp hj)
        obtain ⟨h3, h4⟩ := h2
        simp at h4
        exact h4.symm
      subst hq
      simp [if_neg e]
theorem ws_D {cy : Nat → ClassId} {ad : Nat → Nat} {S : Sy} {I : Wd} (h : Inj S ad) : va_D (Aad S ad) (wsO cy ad S I) := by
  have key : ∀ (i : Nat) (p : Nat × va_E), (wsO cy ad S I)[i]? = some p → i < S.1.length ∧ p.1 = ad i := by
    intro i p hp
    have hl := (List.getElem?_eq_some_iff.mp hp).1
    have hl2 : i < S.1.length := by simpa [wsO] using hl
    have h2 := ws_at (cy := cy) (ad := ad) (I := I) (List.getElem?_eq_getElem hl2)
    rw [h2] at hp
    cases hp
    exact ⟨hl2, rfl⟩
  refine ⟨fun i j p q hi hj hpq => ?_, fun k q hk => ?_⟩
  · obtain ⟨a1, a2⟩ := key i p hi
    obtain ⟨b1, b2⟩ := key j q hj
    exact h i j a1 b1 (by rw [← a2, ← b2, hpq])
  · obtain ⟨a1, a2⟩ := key k q hk
    exact ⟨k, a1, a2⟩
theorem fs_set {n j : Nat} {g : Nat → Value} (v : Value) : ((List.range n).map g).set j v = (List.range n).map (fun i => if i = j then v else g i) := by
  apply List.ext_getElem?
  intro i
  by_cases e : i = j
  · subst e
    by_cases hl : i < n
    · rw [List.getElem?_set_self (by simpa using hl)]
      simp [List.getElem?_map, List.getElem?_range hl]
    · rw [List.getElem?_eq_none (by simpa using hl), List.getElem?_eq_none (by simpa using hl)]
  · rw [List.getElem?_set_ne (Ne.symm e)]
    simp only [List.getElem?_map]
    cases hj : (List.range n)[i]? with
    | none => rfl
    | some q =>
      obtain ⟨h3, h4⟩ := List.getElem?_eq_some_iff.mp hj
      simp at h4
      subst h4
      simp [if_neg e]

/-! what lies outside: tables of numbers, texts, and what no state changes -/
def txO : List String := ["HollowShire$Rules", "HollowShire$Tape", "HollowShire$Tape", "HollowShire$Tape", "HollowShire$Tape", "HollowShire$Tape", "HollowShire$Tape", "HollowShire$Tape", "HollowShire$Tape", "HollowShire$Tape", "HollowShire$Tape", "HollowShire$Tape", "HollowShire$Tape", "HollowShire$Tape", "HollowShire$Tape"]
def txK : List Nat := [48, 75, 77, 79, 81, 83, 85, 87, 89, 91, 93, 95, 97, 99, 101]
def txT : List String := ["build doubt < 30 and rock < 2 ; move 60 < most or fell ; owe pump * 3 + rock ;", "build", "move", "owe", "o\x72", "and", "not", "doubt", "least", "most", "rock", "people", "pump", "fell", "month"]
def txL : List Nat := [78, 5, 4, 3, 2, 3, 3, 5, 5, 4, 4, 6, 4, 4, 5]
def txB : List (List Int32) := [[98, 117, 105, 108, 100, 32, 100, 111, 117, 98, 116, 32, 60, 32, 51, 48, 32, 97, 110, 100, 32, 114, 111, 99, 107, 32, 60, 32, 50, 32, 59, 32, 109, 111, 118, 101, 32, 54, 48, 32, 60, 32, 109, 111, 115, 116, 32, 111, 114, 32, 102, 101, 108, 108, 32, 59, 32, 111, 119, 101, 32, 112, 117, 109, 112, 32, 42, 32, 51, 32, 43, 32, 114, 111, 99, 107, 32, 59], [98, 117, 105, 108, 100], [109, 111, 118, 101], [111, 119, 101], [111, 114], [97, 110, 100], [110, 111, 116], [100, 111, 117, 98, 116], [108, 101, 97, 115, 116], [109, 111, 115, 116], [114, 111, 99, 107], [112, 101, 111, 112, 108, 101], [112, 117, 109, 112], [102, 101, 108, 108], [109, 111, 110, 116, 104]]
def ExS (A : Nat → Prop) (ad : Nat → Nat) (c n : String) (id : Nat) (vs : List Int32) (U : State) (H : Heap) : Prop := va_Z c n "[I" (.ref (ad id)) A U H ∧ va_T .int (ad id) vs.length (fun j => .int (vs.getD j 0)) A U H
def tbSolves : List Int32 := [0, 2, 5, 1]
def tbBears : List Int32 := [120, 90, 70, 60]
def tbAbove : List Int32 := [-1, 0, 0, 1, 2, 0]
def tbSizes : List Int32 := [0, 10, 25, 50, 100]
def Ext (A : Nat → Prop) (ad : Nat → Nat) (U : State) (H : Heap) : Prop :=
  (ExS A ad "HollowShire$Ground" "SOLVES" 1000 tbSolves U H ∧ ExS A ad "HollowShire$Ground" "BEARS" 1001 tbBears U H ∧ ExS A ad "HollowShire$Signs" "KIND_ABOVE" 1002 tbAbove U H ∧ ExS A ad "HollowShire$Fit" "SIZES" 1003 tbSizes U H) ∧
  (vk_S 15 txL txB (fun i => ad (1100 + i)) (fun i => ad (1200 + i)) A U H ∧ (∀ i, i < 15 → vk_R (txO.getD i "") (txK.getD i 0) (txT.getD i "") (ad (1100 + i)) U) ∧ va_Z "java/lang/String" "COMPACT_STRINGS" "Z" (.int 1) A U H) ∧
  (va_Nw (.methodLinkNest "HollowShire$Fit" 98 yX10_isNear "HollowShire") U ∧ va_Nw (.methodLinkNest "HollowShire$Ground" 86 yX10_isNear "HollowShire") U ∧ va_Nw (.methodLinkNest "HollowShire$Sheet" 26 yX10_within "HollowShire") U)
theorem ExS.warm {A : Nat → Prop} {ad : Nat → Nat} {c n : String} {id : Nat} {vs : List Int32} {s U : State} {H : Heap} (hW : s.WarmedH U.vm) (h : ExS A ad c n id vs s H) : ExS A ad c n id vs U H := ⟨va_Z.moved hW.alike h.1, va_T.moved hW.alike h.2⟩
theorem ExS.kept {A : Nat → Prop} {ad : Nat → Nat} {c n : String} {id : Nat} {vs : List Int32} {s : State} {H H1 : Heap} (hq : ∀ a : Nat, a < H.size → ¬ A a → H1[a]? = H[a]?) (h : ExS A ad c n id vs s H) : ExS A ad c n id vs s H1 := ⟨h.1.kept hq, h.2.kept hq⟩
theorem Ext.warm {A : Nat → Prop} {ad : Nat → Nat} {s U : State} {H : Heap} (hW : s.WarmedH U.vm) (h : Ext A ad s H) : Ext A ad U H := by
  obtain ⟨⟨a1, a2, a3, a4⟩, ⟨b1, b2, b3⟩, c1, c2, c3⟩ := h
  exact ⟨⟨a1.warm hW, a2.warm hW, a3.warm hW, a4.warm hW⟩, ⟨vk_S.moved hW.alike b1, fun i hi => (b2 i hi).warm hW, va_Z.moved hW.alike b3⟩, va_Nw.warmM hW c1, va_Nw.warmM hW c2, va_Nw.warmM hW c3⟩
theorem Ext.kept {A : Nat → Prop} {ad : Nat → Nat} {s : State} {H H1 : Heap} (hq : ∀ a : Nat, a < H.size → ¬ A a → H1[a]? = H[a]?) (h : Ext A ad s H) : Ext A ad s H1 := by
  obtain ⟨⟨a1, a2, a3, a4⟩, ⟨b1, b2, b3⟩, c⟩ := h
  exact ⟨⟨a1.kept hq, a2.kept hq, a3.kept hq, a4.kept hq⟩, ⟨b1.kept hq, b2, b3.kept hq⟩, c⟩
theorem Ext.same {A : Nat → Prop} {ad : Nat → Nat} {u U : State} {H : Heap} (hv : U.vm = u.vm) (h : Ext A ad u H) : Ext A ad U H := by
  obtain ⟨⟨a1, a2, a3, a4⟩, ⟨b1, b2, b3⟩, c1, c2, c3⟩ := h
  have al : u.vm.Alike U.vm := by rw [hv]; exact Vm.Alike.refl u.vm
  exact ⟨⟨⟨va_Z.moved al a1.1, va_T.moved al a1.2⟩, ⟨va_Z.moved al a2.1, va_T.moved al a2.2⟩, ⟨va_Z.moved al a3.1, va_T.moved al a3.2⟩, ⟨va_Z.moved al a4.1, va_T.moved al a4.2⟩⟩, ⟨vk_S.moved al b1, fun i hi => vk_R.same hv (b2 i hi), va_Z.moved al b3⟩, va_Nw.same rfl hv.symm c1, va_Nw.same rfl hv.symm c2, va_Nw.same rfl hv.symm c3⟩
/-! the judgements: a method's contract, and a frame's way to its end -/
def rmd (d : Nat) : Room := { frames := d, cells := 0, slots := 0, locals := 80 * d }
def Pcw (D : va_G) (cy : Nat → ClassId) (ad : Nat → Nat) (S : Sy) (As : List Value) (I : Wd) : Array Value → State → Prop := fun v U => v = (As.map (cvt ad)).toArray ∧ va_P D clX (wsO cy ad S I) U.heap ∧ va_K D clX (tyL cy) U ∧ Ext (Aad S ad) ad U U.heap
def Qcw (D : va_G) (cy : Nat → ClassId) (ad : Nat → Nat) (S : Sy) (r : Option Value) (I' : Wd) : Array Value → State → Outcome → State → Prop := fun _ st o t => o = .returned (r.map (cvt ad)) ∧ va_P D clX (wsO cy ad S I') t.heap ∧ va_F (Aad S ad) st t
def Cal (S : Sy) (M : Mi) (d : Nat) (As : List Value) (I : Wd) (r : Option Value) (I' : Wd) : Prop :=
  ∀ (l : Launch) (D : va_G) (cy : Nat → ClassId) (ad : Nat → Nat), Inj S ad → Met l M.1 (.code M.1 M.2.1 M.2.2.1 M.2.2.2 :: gw) (rmd d) (Pcw D cy ad S As I) (Qcw D cy ad S r I') 0 0 (Aad S ad)
def lvc (ad : Nat → Nat) (lv : List (Nat × Value)) : List (Nat × Value) := lv.map fun q => (q.1, cvt ad q.2)
def lk : List (Nat × Value) → Nat → Option Value
  | [], _ => none
  | q :: t, i => if q.1 = i then some q.2 else lk t i
theorem lk_mem {lv : List (Nat × Value)} {i : Nat} {v : Value} (h : lk lv i = some v) : (i, v) ∈ lv := by
  induction lv with
  | nil => cases h
  | cons q t ih =>
    unfold lk at h
    split at h
    · next e => cases h; rw [← e]; exact List.mem_cons_self
    · exact List.mem_cons_of_mem _ (ih h)
theorem lv_lk {ad : Nat → Nat} {ls : Array Slot} {n : Nat} {lv : List (Nat × Value)} (h : lv_has ls n (lvc ad lv)) {i : Nat} {v : Value} (hk : lk lv i = some v) : ls[i]? = some (.val (cvt ad v)) :=
  h.2.2 (i, cvt ad v) (List.mem_map.mpr ⟨(i, v), lk_mem hk, rfl⟩)
def lst1 (i : Nat) (v : Value) (lv : List (Nat × Value)) : List (Nat × Value) := (i, v) :: lv.filter (fun q => !(q.1 == i) && !(q.1 + 1 == i && q.2.category == 2))
def lst2 (i : Nat) (v : Value) (lv : List (Nat × Value)) : List (Nat × Value) := (i, v) :: lv.filter (fun q => !(q.1 == i) && (!(q.1 == i + 1) && !(q.1 + 1 == i && q.2.category == 2)))
theorem lvc_1 (ad : Nat → Nat) (i : Nat) (v : Value) (lv : List (Nat × Value)) : lst1 i (cvt ad v) (lvc ad lv) = lvc ad (lst1 i v lv) := by
  show _ :: _ = _ :: _
  congr 1
  simp only [lvc, List.filter_map]
  congr 1
  apply List.filter_congr
  intro q _
  simp [cvt_cat]
theorem lvc_2 (ad : Nat → Nat) (i : Nat) (v : Value) (lv : List (Nat × Value)) : lst2 i (cvt ad v) (lvc ad lv) = lvc ad (lst2 i v lv) := by
  show _ :: _ = _ :: _
  congr 1
  simp only [lvc, List.filter_map]
  congr 1
  apply List.filter_congr
  intro q _
  simp [cvt_cat]
theorem lvc_args (ad : Nat → Nat) : ∀ (As : List Value) (i : Nat), lv_args i (As.map (cvt ad)) = lvc ad (lv_args i As)
  | [], _ => rfl
  | v :: t, i => by
    show (i, cvt ad v) :: lv_args _ (t.map (cvt ad)) = (i, cvt ad v) :: lvc ad (lv_args _ t)
    rw [cvt_cat, lvc_args ad t]
theorem lg_len (ad : Nat → Nat) : ∀ As : List Value, (lg_sl (As.map (cvt ad))).length = (lg_sl As).length
  | [] => rfl
  | v :: t => by
    have ih := lg_len ad t
    show ((if (cvt ad v).category = 2 then [Slot.val (cvt ad v), .second] else [.val (cvt ad v)]) ++ lg_sl (t.map (cvt ad))).length = ((if v.category = 2 then [Slot.val v, .second] else [.val v]) ++ lg_sl t).length
    rw [List.length_append, List.length_append, ih, cvt_cat]
    split <;> rfl
abbrev Fx (M : Mi) (p : Program) (s : State) (m : MethodId) (args : Array Value) (meth : Method) (c : Code) : Prop :=
  p.tables.exec = Jvm.exec ∧ c.code = M.2.1 ∧ meth.sig.returnType = M.2.2.2 ∧ c.maxLocals = M.2.2.1 ∧ s.vm.findClass M.1.cls = some m.cls ∧ (∀ w ∈ gw, w.before args s = true) ∧ meth.locks = false
def Cx (S : Sy) (M : Mi) (p : Program) (s : State) (m : MethodId) (args : Array Value) (meth : Method) (c : Code) (D : va_G) (cy : Nat → ClassId) (ad : Nat → Nat) (I : Wd) (H : Heap) (locs : List Loc) (ls : Array Slot) (lv : List (Nat × Value)) : Prop :=
  Fx M p s m args meth c ∧ lv_has ls M.2.2.1 (lvc ad lv) ∧ Inj S ad ∧ va_K D clX (tyL cy) s ∧ Ext (Aad S ad) ad s s.heap ∧ va_P D clX (wsO cy ad S I) H ∧ va_S (Aad S ad) s.heap H locs
def Bd (S : Sy) (M : Mi) (d pc : Nat) (lv : List (Nat × Value)) (st : List Value) (I : Wd) (r : Option Value) (I' : Wd) : Prop :=
  ∀ (p : Program) (l : Launch) (e : Env) (s : State) (m : MethodId) (args : Array Value) (below : List Frame) (meth : Method) (c : Code) (D : va_G) (cy : Nat → ClassId) (ad : Nat → Nat) (H : Heap) (locs : List Loc) (ls : Array Slot),
    Cx S M p s m args meth c D cy ad I H locs ls lv → W p l e (rmd d) s m args below meth c H locs 0 0 (MQ below (Qcw D cy ad S r I') args s 0 0 (Aad S ad)) (F0 m pc ls (st.map (cvt ad)))
theorem Cal.of {S : Sy} {M : Mi} {d : Nat} {As : List Value} {I I' : Wd} {r : Option Value} (hp : plainName M.1.cls = true) (hn : (lg_sl As).length ≤ M.2.2.1) (h : Bd S M d 0 (lv_args 0 As) [] I r I') : Cal S M d As I r I' := by
  intro l D cy ad hi
  refine Met.ofW (cc := M.2.1) (maxL := M.2.2.1) (ret := M.2.2.2) hp rfl ?_
  intro p e s m args below meth c s₁ B hml hv
  obtain ⟨rfl, hP, hK, hE⟩ := hv
  have hts := atoms_spec (ws := Cond.code M.1 M.2.1 M.2.2.1 M.2.2.2 :: gw) B.pre
  have hlen := lg_len ad As
  have hl := lv_entry (As.map (cvt ad)) (n := M.2.2.1) (by rw [hlen]; exact hn)
  rw [lg_entry_eq]
  rw [lvc_args] at hl
  exact h p l e s m _ below meth c D cy ad s.heap [] _ ⟨⟨B.exec, B.bytes, B.returns, hml, findClass_of_methodNamed B.named, fun w hw => hts w (List.mem_cons_of_mem _ hw), B.notSynchronized⟩, hl, hi, hK, hE, hP, va_S.rf⟩
end
section
section BR
variable {S : Sy} {M : Mi} {d pc : Nat} {lv : List (Nat × Value)} {st : List Value} {I I' : Wd} {r : Option Value}
theorem b_iconst {n : Int} {v : Int32} (hd : decode M.2.1 pc = .ok (.iconst n, 1)) (hv : Int32.ofInt n = v) (kk : Bd S M d (pc + 1) lv (.int v :: st) I r I') : Bd S M d pc lv (st) I r I' :=
  fun p l e s m args below meth c D cy ad H locs ls X => lv_iconst X.1.1 X.1.2.1 hd hv (kk p l e s m args below meth c D cy ad H locs ls X)
theorem b_bipush {n : Int} {v : Int32} (hd : decode M.2.1 pc = .ok (.bipush n, 2)) (hv : (Int8.ofInt n).toInt32 = v) (kk : Bd S M d (pc + 2) lv (.int v :: st) I r I') : Bd S M d pc lv (st) I r I' :=
  fun p l e s m args below meth c D cy ad H locs ls X => lv_bipush X.1.1 X.1.2.1 hd hv (kk p l e s m args below meth c D cy ad H locs ls X)
theorem b_sipush {n : Int} {v : Int32} (hd : decode M.2.1 pc = .ok (.sipush n, 3)) (hv : (Int16.ofInt n).toInt32 = v) (kk : Bd S M d (pc + 3) lv (.int v :: st) I r I') : Bd S M d pc lv (st) I r I' :=
  fun p l e s m args below meth c D cy ad H locs ls X => lv_sipush X.1.1 X.1.2.1 hd hv (kk p l e s m args below meth c D cy ad H locs ls X)
theorem b_lconst {n : Fin 2} {v : Int64} (hd : decode M.2.1 pc = .ok (.lconst n, 1)) (hv : Int64.ofNat (n : Nat) = v) (kk : Bd S M d (pc + 1) lv (.long v :: st) I r I') : Bd S M d pc lv (st) I r I' :=
  fun p l e s m args below meth c D cy ad H locs ls X => lv_lconst X.1.1 X.1.2.1 hd hv (kk p l e s m args below meth c D cy ad H locs ls X)
theorem b_icm1 (hd : decode M.2.1 pc = .ok (.iconst (-1), 1)) (kk : Bd S M d (pc + 1) lv (.int (-1) :: st) I r I') : Bd S M d pc lv st I r I' := b_iconst hd (by decide) kk
theorem b_ic0 (hd : decode M.2.1 pc = .ok (.iconst 0, 1)) (kk : Bd S M d (pc + 1) lv (.int 0 :: st) I r I') : Bd S M d pc lv st I r I' := b_iconst hd (by decide) kk
theorem b_ic1 (hd : decode M.2.1 pc = .ok (.iconst 1, 1)) (kk : Bd S M d (pc + 1) lv (.int 1 :: st) I r I') : Bd S M d pc lv st I r I' := b_iconst hd (by decide) kk
theorem b_ic2 (hd : decode M.2.1 pc = .ok (.iconst 2, 1)) (kk : Bd S M d (pc + 1) lv (.int 2 :: st) I r I') : Bd S M d pc lv st I r I' := b_iconst hd (by decide) kk
theorem b_ic3 (hd : decode M.2.1 pc = .ok (.iconst 3, 1)) (kk : Bd S M d (pc + 1) lv (.int 3 :: st) I r I') : Bd S M d pc lv st I r I' := b_iconst hd (by decide) kk
theorem b_ic4 (hd : decode M.2.1 pc = .ok (.iconst 4, 1)) (kk : Bd S M d (pc + 1) lv (.int 4 :: st) I r I') : Bd S M d pc lv st I r I' := b_iconst hd (by decide) kk
theorem b_ic5 (hd : decode M.2.1 pc = .ok (.iconst 5, 1)) (kk : Bd S M d (pc + 1) lv (.int 5 :: st) I r I') : Bd S M d pc lv st I r I' := b_iconst hd (by decide) kk
theorem b_ldc {ix : Nat} {v : Int32} (hd : decode M.2.1 pc = .ok (.ldc ix, 2)) (hw : Cond.constant M.1.cls ix v ∈ gw) (kk : Bd S M d (pc + 2) lv (.int v :: st) I r I') : Bd S M d pc lv (st) I r I' :=
  fun p l e s m args below meth c D cy ad H locs ls X => lv_ldc X.1.1 X.1.2.1 X.1.2.2.2.2.1 (X.1.2.2.2.2.2.1 _ hw) hd (kk p l e s m args below meth c D cy ad H locs ls X)
theorem b_ldcw {ix : Nat} {v : Int32} (hd : decode M.2.1 pc = .ok (.ldc_w ix, 3)) (hw : Cond.constant M.1.cls ix v ∈ gw) (kk : Bd S M d (pc + 3) lv (.int v :: st) I r I') : Bd S M d pc lv (st) I r I' :=
  fun p l e s m args below meth c D cy ad H locs ls X => lv_ldcw X.1.1 X.1.2.1 X.1.2.2.2.2.1 (X.1.2.2.2.2.2.1 _ hw) hd (kk p l e s m args below meth c D cy ad H locs ls X)
theorem b_ldc2 {ix : Nat} {v : Int64} (hd : decode M.2.1 pc = .ok (.ldc2_w ix, 3)) (hw : Cond.constantLong M.1.cls ix v ∈ gw) (kk : Bd S M d (pc + 3) lv (.long v :: st) I r I') : Bd S M d pc lv (st) I r I' :=
  fun p l e s m args below meth c D cy ad H locs ls X => lv_ldc2 X.1.1 X.1.2.1 X.1.2.2.2.2.1 (X.1.2.2.2.2.2.1 _ hw) hd (kk p l e s m args below meth c D cy ad H locs ls X)
theorem b_iload_n {k : Fin 4} {i : Nat} {x : Int32} (hd : decode M.2.1 pc = .ok (.iload_n k, 1)) (hi : (k : Nat) = i) (hl : lk lv i = some (.int x)) (kk : Bd S M d (pc + 1) lv (.int x :: st) I r I') : Bd S M d pc lv (st) I r I' :=
  fun p l e s m args below meth c D cy ad H locs ls X => lv_iload_n X.1.1 X.1.2.1 hd hi (lv_lk X.2.1 hl) (kk p l e s m args below meth c D cy ad H locs ls X)
theorem b_iload {i : Nat} {x : Int32} (hd : decode M.2.1 pc = .ok (.iload i, 2)) (hl : lk lv i = some (.int x)) (kk : Bd S M d (pc + 2) lv (.int x :: st) I r I') : Bd S M d pc lv (st) I r I' :=
  fun p l e s m args below meth c D cy ad H locs ls X => lv_iload X.1.1 X.1.2.1 hd (lv_lk X.2.1 hl) (kk p l e s m args below meth c D cy ad H locs ls X)
theorem b_lload_n {k : Fin 4} {i : Nat} {x : Int64} (hd : decode M.2.1 pc = .ok (.lload_n k, 1)) (hi : (k : Nat) = i) (hl : lk lv i = some (.long x)) (kk : Bd S M d (pc + 1) lv (.long x :: st) I r I') : Bd S M d pc lv (st) I r I' :=
  fun p l e s m args below meth c D cy ad H locs ls X => lv_lload_n X.1.1 X.1.2.1 hd hi (lv_lk X.2.1 hl) (kk p l e s m args below meth c D cy ad H locs ls X)
theorem b_lload {i : Nat} {x : Int64} (hd : decode M.2.1 pc = .ok (.lload i, 2)) (hl : lk lv i = some (.long x)) (kk : Bd S M d (pc + 2) lv (.long x :: st) I r I') : Bd S M d pc lv (st) I r I' :=
  fun p l e s m args below meth c D cy ad H locs ls X => lv_lload X.1.1 X.1.2.1 hd (lv_lk X.2.1 hl) (kk p l e s m args below meth c D cy ad H locs ls X)
theorem b_aload_n {k : Fin 4} {i : Nat} {x : Nat} (hd : decode M.2.1 pc = .ok (.aload_n k, 1)) (hi : (k : Nat) = i) (hl : lk lv i = some (.ref x)) (kk : Bd S M d (pc + 1) lv (.ref x :: st) I r I') : Bd S M d pc lv (st) I r I' :=
  fun p l e s m args below meth c D cy ad H locs ls X => lv_aload_n X.1.1 X.1.2.1 hd hi (lv_lk X.2.1 hl) (kk p l e s m args below meth c D cy ad H locs ls X)
theorem b_aload {i : Nat} {x : Nat} (hd : decode M.2.1 pc = .ok (.aload i, 2)) (hl : lk lv i = some (.ref x)) (kk : Bd S M d (pc + 2) lv (.ref x :: st) I r I') : Bd S M d pc lv (st) I r I' :=
  fun p l e s m args below meth c D cy ad H locs ls X => lv_aload X.1.1 X.1.2.1 hd (lv_lk X.2.1 hl) (kk p l e s m args below meth c D cy ad H locs ls X)
theorem b_istore_n {k : Fin 4} {i : Nat} {x : Int32} {lv' : List (Nat × Value)} (hd : decode M.2.1 pc = .ok (.istore_n k, 1)) (hi : (k : Nat) = i) (hn : i < M.2.2.1) (hl : lst1 i (.int x) lv = lv') (kk : Bd S M d (pc + 1) lv' st I r I') : Bd S M d pc lv (.int x :: st) I r I' :=
  fun p l e s m args below meth c D cy ad H locs ls X => lv_istore_n X.1.1 X.1.2.1 hd hi X.2.1 hn (by rw [← hl, ← lvc_1]; rfl) (fun ls' h' => kk p l e s m args below meth c D cy ad H locs ls' ⟨X.1, h', X.2.2⟩)
theorem b_istore {i : Nat} {x : Int32} {lv' : List (Nat × Value)} (hd : decode M.2.1 pc = .ok (.istore i, 2)) (hn : i < M.2.2.1) (hl : lst1 i (.int x) lv = lv') (kk : Bd S M d (pc + 2) lv' st I r I') : Bd S M d pc lv (.int x :: st) I r I' :=
  fun p l e s m args below meth c D cy ad H locs ls X => lv_istore X.1.1 X.1.2.1 hd X.2.1 hn (by rw [← hl, ← lvc_1]; rfl) (fun ls' h' => kk p l e s m args below meth c D cy ad H locs ls' ⟨X.1, h', X.2.2⟩)
theorem b_astore_n {k : Fin 4} {i : Nat} {x : Nat} {lv' : List (Nat × Value)} (hd : decode M.2.1 pc = .ok (.astore_n k, 1)) (hi : (k : Nat) = i) (hn : i < M.2.2.1) (hl : lst1 i (.ref x) lv = lv') (kk : Bd S M d (pc + 1) lv' st I r I') : Bd S M d pc lv (.ref x :: st) I r I' :=
  fun p l e s m args below meth c D cy ad H locs ls X => lv_astore_n X.1.1 X.1.2.1 hd hi X.2.1 hn (by rw [← hl, ← lvc_1]; rfl) (fun ls' h' => kk p l e s m args below meth c D cy ad H locs ls' ⟨X.1, h', X.2.2⟩)
theorem b_astore {i : Nat} {x : Nat} {lv' : List (Nat × Value)} (hd : decode M.2.1 pc = .ok (.astore i, 2)) (hn : i < M.2.2.1) (hl : lst1 i (.ref x) lv = lv') (kk : Bd S M d (pc + 2) lv' st I r I') : Bd S M d pc lv (.ref x :: st) I r I' :=
  fun p l e s m args below meth c D cy ad H locs ls X => lv_astore X.1.1 X.1.2.1 hd X.2.1 hn (by rw [← hl, ← lvc_1]; rfl) (fun ls' h' => kk p l e s m args below meth c D cy ad H locs ls' ⟨X.1, h', X.2.2⟩)
theorem b_lstore_n {k : Fin 4} {i : Nat} {x : Int64} {lv' : List (Nat × Value)} (hd : decode M.2.1 pc = .ok (.lstore_n k, 1)) (hi : (k : Nat) = i) (hn : i < M.2.2.1 ∧ i + 1 < M.2.2.1) (hl : lst2 i (.long x) lv = lv') (kk : Bd S M d (pc + 1) lv' st I r I') : Bd S M d pc lv (.long x :: st) I r I' :=
  fun p l e s m args below meth c D cy ad H locs ls X => lv_lstore_n X.1.1 X.1.2.1 hd hi X.2.1 hn.2 (by rw [← hl, ← lvc_2]; rfl) (fun ls' h' => kk p l e s m args below meth c D cy ad H locs ls' ⟨X.1, h', X.2.2⟩)
theorem b_lstore {i : Nat} {x : Int64} {lv' : List (Nat × Value)} (hd : decode M.2.1 pc = .ok (.lstore i, 2)) (hn : i < M.2.2.1 ∧ i + 1 < M.2.2.1) (hl : lst2 i (.long x) lv = lv') (kk : Bd S M d (pc + 2) lv' st I r I') : Bd S M d pc lv (.long x :: st) I r I' :=
  fun p l e s m args below meth c D cy ad H locs ls X => lv_lstore X.1.1 X.1.2.1 hd X.2.1 hn.2 (by rw [← hl, ← lvc_2]; rfl) (fun ls' h' => kk p l e s m args below meth c D cy ad H locs ls' ⟨X.1, h', X.2.2⟩)
theorem b_iinc {i : Nat} {n : Int} {x v : Int32} {lv' : List (Nat × Value)} (hd : decode M.2.1 pc = .ok (.iinc i n, 3)) (hk : lk lv i = some (.int x)) (hv : x + Int32.ofInt n = v) (hn : i < M.2.2.1) (hl : lst1 i (.int v) lv = lv') (kk : Bd S M d (pc + 3) lv' st I r I') : Bd S M d pc lv st I r I' := by
  intro p l e s m args below meth c D cy ad H locs ls X
  have hm := lk_mem hk
  obtain ⟨q, hq⟩ := List.getElem?_of_mem hm
  have hq2 : (lvc ad lv)[q]? = some (i, .int x) := by rw [lvc, List.getElem?_map, hq]; rfl
  exact lv_iinc X.1.1 X.1.2.1 hd X.2.1 hq2 hv hn (by rw [← hl, ← lvc_1]; rfl) (fun ls' h' => kk p l e s m args below meth c D cy ad H locs ls' ⟨X.1, h', X.2.2⟩)
theorem b_iinc1 {i : Nat} {x : Int32} {lv' : List (Nat × Value)} (hd : decode M.2.1 pc = .ok (.iinc i 1, 3)) (hk : lk lv i = some (.int x)) (hn : i < M.2.2.1) (hl : lst1 i (.int (x + 1)) lv = lv') (kk : Bd S M d (pc + 3) lv' st I r I') : Bd S M d pc lv st I r I' := b_iinc (v := x + 1) hd hk rfl hn hl kk
theorem b_iadd {x y : Int32} (hd : decode M.2.1 pc = .ok (.iadd, 1)) (kk : Bd S M d (pc + 1) lv (.int (x + y) :: st) I r I') : Bd S M d pc lv (.int y :: .int x :: st) I r I' :=
  fun p l e s m args below meth c D cy ad H locs ls X => lv_iadd X.1.1 X.1.2.1 hd (kk p l e s m args below meth c D cy ad H locs ls X)
theorem b_isub {x y : Int32} (hd : decode M.2.1 pc = .ok (.isub, 1)) (kk : Bd S M d (pc + 1) lv (.int (x - y) :: st) I r I') : Bd S M d pc lv (.int y :: .int x :: st) I r I' :=
  fun p l e s m args below meth c D cy ad H locs ls X => lv_isub X.1.1 X.1.2.1 hd (kk p l e s m args below meth c D cy ad H locs ls X)
theorem b_imul {x y : Int32} (hd : decode M.2.1 pc = .ok (.imul, 1)) (kk : Bd S M d (pc + 1) lv (.int (x * y) :: st) I r I') : Bd S M d pc lv (.int y :: .int x :: st) I r I' :=
  fun p l e s m args below meth c D cy ad H locs ls X => lv_imul X.1.1 X.1.2.1 hd (kk p l e s m args below meth c D cy ad H locs ls X)
theorem b_iand {x y : Int32} (hd : decode M.2.1 pc = .ok (.iand, 1)) (kk : Bd S M d (pc + 1) lv (.int (x &&& y) :: st) I r I') : Bd S M d pc lv (.int y :: .int x :: st) I r I' :=
  fun p l e s m args below meth c D cy ad H locs ls X => lv_iand X.1.1 X.1.2.1 hd (kk p l e s m args below meth c D cy ad H locs ls X)
theorem b_ior {x y : Int32} (hd : decode M.2.1 pc = .ok (.ior, 1)) (kk : Bd S M d (pc + 1) lv (.int (x ||| y) :: st) I r I') : Bd S M d pc lv (.int y :: .int x :: st) I r I' :=
  fun p l e s m args below meth c D cy ad H locs ls X => lv_ior X.1.1 X.1.2.1 hd (kk p l e s m args below meth c D cy ad H locs ls X)
theorem b_ladd {x y : Int64} (hd : decode M.2.1 pc = .ok (.ladd, 1)) (kk : Bd S M d (pc + 1) lv (.long (x + y) :: st) I r I') : Bd S M d pc lv (.long y :: .long x :: st) I r I' :=
  fun p l e s m args below meth c D cy ad H locs ls X => lv_ladd X.1.1 X.1.2.1 hd (kk p l e s m args below meth c D cy ad H locs ls X)
theorem b_lsub {x y : Int64} (hd : decode M.2.1 pc = .ok (.lsub, 1)) (kk : Bd S M d (pc + 1) lv (.long (x - y) :: st) I r I') : Bd S M d pc lv (.long y :: .long x :: st) I r I' :=
  fun p l e s m args below meth c D cy ad H locs ls X => lv_lsub X.1.1 X.1.2.1 hd (kk p l e s m args below meth c D cy ad H locs ls X)
theorem b_lmul {x y : Int64} (hd : decode M.2.1 pc = .ok (.lmul, 1)) (kk : Bd S M d (pc + 1) lv (.long (x * y) :: st) I r I') : Bd S M d pc lv (.long y :: .long x :: st) I r I' :=
  fun p l e s m args below meth c D cy ad H locs ls X => lv_lmul X.1.1 X.1.2.1 hd (kk p l e s m args below meth c D cy ad H locs ls X)
theorem b_land {x y : Int64} (hd : decode M.2.1 pc = .ok (.land, 1)) (kk : Bd S M d (pc + 1) lv (.long (x &&& y) :: st) I r I') : Bd S M d pc lv (.long y :: .long x :: st) I r I' :=
  fun p l e s m args below meth c D cy ad H locs ls X => lv_land X.1.1 X.1.2.1 hd (kk p l e s m args below meth c D cy ad H locs ls X)
theorem b_lor {x y : Int64} (hd : decode M.2.1 pc = .ok (.lor, 1)) (kk : Bd S M d (pc + 1) lv (.long (x ||| y) :: st) I r I') : Bd S M d pc lv (.long y :: .long x :: st) I r I' :=
  fun p l e s m args below meth c D cy ad H locs ls X => lv_lor X.1.1 X.1.2.1 hd (kk p l e s m args below meth c D cy ad H locs ls X)
theorem b_idiv {x y : Int32} (hd : decode M.2.1 pc = .ok (.idiv, 1)) (hne : ¬ y = 0) (kk : Bd S M d (pc + 1) lv (.int (x / y) :: st) I r I') : Bd S M d pc lv (.int y :: .int x :: st) I r I' :=
  fun p l e s m args below meth c D cy ad H locs ls X => lv_idiv X.1.1 X.1.2.1 hd hne (kk p l e s m args below meth c D cy ad H locs ls X)
theorem b_irem {x y : Int32} (hd : decode M.2.1 pc = .ok (.irem, 1)) (hne : ¬ y = 0) (kk : Bd S M d (pc + 1) lv (.int (x - x / y * y) :: st) I r I') : Bd S M d pc lv (.int y :: .int x :: st) I r I' :=
  fun p l e s m args below meth c D cy ad H locs ls X => lv_irem X.1.1 X.1.2.1 hd hne (kk p l e s m args below meth c D cy ad H locs ls X)
theorem b_ldiv {x y : Int64} (hd : decode M.2.1 pc = .ok (.ldiv, 1)) (hne : ¬ y = 0) (kk : Bd S M d (pc + 1) lv (.long (x / y) :: st) I r I') : Bd S M d pc lv (.long y :: .long x :: st) I r I' :=
  fun p l e s m args below meth c D cy ad H locs ls X => lv_ldiv X.1.1 X.1.2.1 hd hne (kk p l e s m args below meth c D cy ad H locs ls X)
theorem b_lrem {x y : Int64} (hd : decode M.2.1 pc = .ok (.lrem, 1)) (hne : ¬ y = 0) (kk : Bd S M d (pc + 1) lv (.long (x - x / y * y) :: st) I r I') : Bd S M d pc lv (.long y :: .long x :: st) I r I' :=
  fun p l e s m args below meth c D cy ad H locs ls X => lv_lrem X.1.1 X.1.2.1 hd hne (kk p l e s m args below meth c D cy ad H locs ls X)
theorem b_ineg {x : Int32} (hd : decode M.2.1 pc = .ok (.ineg, 1)) (kk : Bd S M d (pc + 1) lv (.int (-x) :: st) I r I') : Bd S M d pc lv (.int x :: st) I r I' :=
  fun p l e s m args below meth c D cy ad H locs ls X => lv_ineg X.1.1 X.1.2.1 hd (kk p l e s m args below meth c D cy ad H locs ls X)
theorem b_ishl {x y : Int32} (hd : decode M.2.1 pc = .ok (.ishl, 1)) (kk : Bd S M d (pc + 1) lv (.int (x <<< (y &&& 31)) :: st) I r I') : Bd S M d pc lv (.int y :: .int x :: st) I r I' :=
  fun p l e s m args below meth c D cy ad H locs ls X => lv_ishl X.1.1 X.1.2.1 hd (kk p l e s m args below meth c D cy ad H locs ls X)
theorem b_ishr {x y : Int32} (hd : decode M.2.1 pc = .ok (.ishr, 1)) (kk : Bd S M d (pc + 1) lv (.int (x >>> (y &&& 31)) :: st) I r I') : Bd S M d pc lv (.int y :: .int x :: st) I r I' :=
  fun p l e s m args below meth c D cy ad H locs ls X => lv_ishr X.1.1 X.1.2.1 hd (kk p l e s m args below meth c D cy ad H locs ls X)
theorem b_lshl {x : Int64} {y : Int32} (hd : decode M.2.1 pc = .ok (.lshl, 1)) (kk : Bd S M d (pc + 1) lv (.long (x <<< (y.toInt64 &&& 63)) :: st) I r I') : Bd S M d pc lv (.int y :: .long x :: st) I r I' :=
  fun p l e s m args below meth c D cy ad H locs ls X => lv_lshl X.1.1 X.1.2.1 hd rfl (kk p l e s m args below meth c D cy ad H locs ls X)
theorem b_lshr {x : Int64} {y : Int32} (hd : decode M.2.1 pc = .ok (.lshr, 1)) (kk : Bd S M d (pc + 1) lv (.long (x >>> (y.toInt64 &&& 63)) :: st) I r I') : Bd S M d pc lv (.int y :: .long x :: st) I r I' :=
  fun p l e s m args below meth c D cy ad H locs ls X => lv_lshr X.1.1 X.1.2.1 hd rfl (kk p l e s m args below meth c D cy ad H locs ls X)
theorem b_lushr {x : Int64} {y : Int32} (hd : decode M.2.1 pc = .ok (.lushr, 1)) (kk : Bd S M d (pc + 1) lv (.long (x.toUInt64 >>> (y.toInt64.toUInt64 &&& Int64.toUInt64 63)).toInt64 :: st) I r I') : Bd S M d pc lv (.int y :: .long x :: st) I r I' :=
  fun p l e s m args below meth c D cy ad H locs ls X => lv_lushr X.1.1 X.1.2.1 hd rfl (kk p l e s m args below meth c D cy ad H locs ls X)
theorem b_l2i {x : Int64} (hd : decode M.2.1 pc = .ok (.l2i, 1)) (kk : Bd S M d (pc + 1) lv (.int x.toInt32 :: st) I r I') : Bd S M d pc lv (.long x :: st) I r I' :=
  fun p l e s m args below meth c D cy ad H locs ls X => lv_l2i X.1.1 X.1.2.1 hd rfl (kk p l e s m args below meth c D cy ad H locs ls X)
theorem b_i2l {x : Int32} (hd : decode M.2.1 pc = .ok (.i2l, 1)) (kk : Bd S M d (pc + 1) lv (.long x.toInt64 :: st) I r I') : Bd S M d pc lv (.int x :: st) I r I' :=
  fun p l e s m args below meth c D cy ad H locs ls X => lv_i2l X.1.1 X.1.2.1 hd rfl (kk p l e s m args below meth c D cy ad H locs ls X)
theorem b_i2b {x : Int32} (hd : decode M.2.1 pc = .ok (.i2b, 1)) (kk : Bd S M d (pc + 1) lv (.int x.toInt8.toInt32 :: st) I r I') : Bd S M d pc lv (.int x :: st) I r I' :=
  fun p l e s m args below meth c D cy ad H locs ls X => lv_i2b X.1.1 X.1.2.1 hd rfl (kk p l e s m args below meth c D cy ad H locs ls X)
theorem b_i2s {x : Int32} (hd : decode M.2.1 pc = .ok (.i2s, 1)) (kk : Bd S M d (pc + 1) lv (.int x.toInt16.toInt32 :: st) I r I') : Bd S M d pc lv (.int x :: st) I r I' :=
  fun p l e s m args below meth c D cy ad H locs ls X => lv_i2s X.1.1 X.1.2.1 hd rfl (kk p l e s m args below meth c D cy ad H locs ls X)
theorem b_lcmp {x y : Int64} (hd : decode M.2.1 pc = .ok (.lcmp, 1)) (kk : Bd S M d (pc + 1) lv (.int (lg_cmp x y) :: st) I r I') : Bd S M d pc lv (.long y :: .long x :: st) I r I' :=
  fun p l e s m args below meth c D cy ad H locs ls X => W.lcmp X.1.1 X.1.2.1 hd (kk p l e s m args below meth c D cy ad H locs ls X)
theorem b_dup {v : Value} (hd : decode M.2.1 pc = .ok (.dup, 1)) (hv : v.category = 1) (kk : Bd S M d (pc + 1) lv (v :: v :: st) I r I') : Bd S M d pc lv (v :: st) I r I' :=
  fun p l e s m args below meth c D cy ad H locs ls X => lv_dup X.1.1 X.1.2.1 hd (by rw [cvt_cat]; exact hv) (kk p l e s m args below meth c D cy ad H locs ls X)
theorem b_pop {v : Value} (hd : decode M.2.1 pc = .ok (.pop, 1)) (hv : v.category = 1) (kk : Bd S M d (pc + 1) lv (st) I r I') : Bd S M d pc lv (v :: st) I r I' :=
  fun p l e s m args below meth c D cy ad H locs ls X => lv_pop X.1.1 X.1.2.1 hd (by rw [cvt_cat]; exact hv) (kk p l e s m args below meth c D cy ad H locs ls X)
theorem b_dup2 {v u : Value} (hd : decode M.2.1 pc = .ok (.dup2, 1)) (hv : v.category = 1 ∧ u.category = 1) (kk : Bd S M d (pc + 1) lv (v :: u :: v :: u :: st) I r I') : Bd S M d pc lv (v :: u :: st) I r I' :=
  fun p l e s m args below meth c D cy ad H locs ls X => lv_dup2_11 X.1.1 X.1.2.1 hd (by rw [cvt_cat]; exact hv.1) (by rw [cvt_cat]; exact hv.2) (kk p l e s m args below meth c D cy ad H locs ls X)
theorem b_goto {off : Int} {tgt : Nat} (hd : decode M.2.1 pc = .ok (.goto off, 3)) (ht : (pc : Int) + off = (tgt : Int)) (kk : Bd S M d tgt lv (st) I r I') : Bd S M d pc lv (st) I r I' :=
  fun p l e s m args below meth c D cy ad H locs ls X => lv_goto X.1.1 X.1.2.1 hd ht (kk p l e s m args below meth c D cy ad H locs ls X)
theorem b_if_eq {x : Int32} {off : Int} {tgt : Nat} (hd : decode M.2.1 pc = .ok (.ifCond .eq off, 3)) (ht : (pc : Int) + off = (tgt : Int)) (kt : x = 0 → Bd S M d tgt lv st I r I') (kf : ¬ x = 0 → Bd S M d (pc + 3) lv st I r I') : Bd S M d pc lv (.int x :: st) I r I' :=
  fun p l e s m args below meth c D cy ad H locs ls X => lv_if_eq X.1.1 X.1.2.1 hd ht (fun h => kt h p l e s m args below meth c D cy ad H locs ls X) (fun h => kf h p l e s m args below meth c D cy ad H locs ls X)
theorem b_icmp_eq {x y : Int32} {off : Int} {tgt : Nat} (hd : decode M.2.1 pc = .ok (.if_icmp .eq off, 3)) (ht : (pc : Int) + off = (tgt : Int)) (kt : x = y → Bd S M d tgt lv st I r I') (kf : ¬ x = y → Bd S M d (pc + 3) lv st I r I') : Bd S M d pc lv (.int y :: .int x :: st) I r I' :=
  fun p l e s m args below meth c D cy ad H locs ls X => lv_icmp_eq X.1.1 X.1.2.1 hd ht (fun h => kt h p l e s m args below meth c D cy ad H locs ls X) (fun h => kf h p l e s m args below meth c D cy ad H locs ls X)
theorem b_if_ne {x : Int32} {off : Int} {tgt : Nat} (hd : decode M.2.1 pc = .ok (.ifCond .ne off, 3)) (ht : (pc : Int) + off = (tgt : Int)) (kt : ¬ x = 0 → Bd S M d tgt lv st I r I') (kf : x = 0 → Bd S M d (pc + 3) lv st I r I') : Bd S M d pc lv (.int x :: st) I r I' :=
  fun p l e s m args below meth c D cy ad H locs ls X => lv_if_ne X.1.1 X.1.2.1 hd ht (fun h => kt h p l e s m args below meth c D cy ad H locs ls X) (fun h => kf h p l e s m args below meth c D cy ad H locs ls X)
theorem b_icmp_ne {x y : Int32} {off : Int} {tgt : Nat} (hd : decode M.2.1 pc = .ok (.if_icmp .ne off, 3)) (ht : (pc : Int) + off = (tgt : Int)) (kt : ¬ x = y → Bd S M d tgt lv st I r I') (kf : x = y → Bd S M d (pc + 3) lv st I r I') : Bd S M d pc lv (.int y :: .int x :: st) I r I' :=
  fun p l e s m args below meth c D cy ad H locs ls X => lv_icmp_ne X.1.1 X.1.2.1 hd ht (fun h => kt h p l e s m args below meth c D cy ad H locs ls X) (fun h => kf h p l e s m args below meth c D cy ad H locs ls X)
theorem b_if_lt {x : Int32} {off : Int} {tgt : Nat} (hd : decode M.2.1 pc = .ok (.ifCond .lt off, 3)) (ht : (pc : Int) + off = (tgt : Int)) (kt : x < 0 → Bd S M d tgt lv st I r I') (kf : ¬ x < 0 → Bd S M d (pc + 3) lv st I r I') : Bd S M d pc lv (.int x :: st) I r I' :=
  fun p l e s m args below meth c D cy ad H locs ls X => lv_if_lt X.1.1 X.1.2.1 hd ht (fun h => kt h p l e s m args below meth c D cy ad H locs ls X) (fun h => kf h p l e s m args below meth c D cy ad H locs ls X)
theorem b_icmp_lt {x y : Int32} {off : Int} {tgt : Nat} (hd : decode M.2.1 pc = .ok (.if_icmp .lt off, 3)) (ht : (pc : Int) + off = (tgt : Int)) (kt : x < y → Bd S M d tgt lv st I r I') (kf : ¬ x < y → Bd S M d (pc + 3) lv st I r I') : Bd S M d pc lv (.int y :: .int x :: st) I r I' :=
  fun p l e s m args below meth c D cy ad H locs ls X => lv_icmp_lt X.1.1 X.1.2.1 hd ht (fun h => kt h p l e s m args below meth c D cy ad H locs ls X) (fun h => kf h p l e s m args below meth c D cy ad H locs ls X)
theorem b_if_ge {x : Int32} {off : Int} {tgt : Nat} (hd : decode M.2.1 pc = .ok (.ifCond .ge off, 3)) (ht : (pc : Int) + off = (tgt : Int)) (kt : 0 ≤ x → Bd S M d tgt lv st I r I') (kf : ¬ 0 ≤ x → Bd S M d (pc + 3) lv st I r I') : Bd S M d pc lv (.int x :: st) I r I' :=
  fun p l e s m args below meth c D cy ad H locs ls X => lv_if_ge X.1.1 X.1.2.1 hd ht (fun h => kt h p l e s m args below meth c D cy ad H locs ls X) (fun h => kf h p l e s m args below meth c D cy ad H locs ls X)
theorem b_icmp_ge {x y : Int32} {off : Int} {tgt : Nat} (hd : decode M.2.1 pc = .ok (.if_icmp .ge off, 3)) (ht : (pc : Int) + off = (tgt : Int)) (kt : y ≤ x → Bd S M d tgt lv st I r I') (kf : ¬ y ≤ x → Bd S M d (pc + 3) lv st I r I') : Bd S M d pc lv (.int y :: .int x :: st) I r I' :=
  fun p l e s m args below meth c D cy ad H locs ls X => lv_icmp_ge X.1.1 X.1.2.1 hd ht (fun h => kt h p l e s m args below meth c D cy ad H locs ls X) (fun h => kf h p l e s m args below meth c D cy ad H locs ls X)
theorem b_if_gt {x : Int32} {off : Int} {tgt : Nat} (hd : decode M.2.1 pc = .ok (.ifCond .gt off, 3)) (ht : (pc : Int) + off = (tgt : Int)) (kt : 0 < x → Bd S M d tgt lv st I r I') (kf : ¬ 0 < x → Bd S M d (pc + 3) lv st I r I') : Bd S M d pc lv (.int x :: st) I r I' :=
  fun p l e s m args below meth c D cy ad H locs ls X => lv_if_gt X.1.1 X.1.2.1 hd ht (fun h => kt h p l e s m args below meth c D cy ad H locs ls X) (fun h => kf h p l e s m args below meth c D cy ad H locs ls X)
theorem b_icmp_gt {x y : Int32} {off : Int} {tgt : Nat} (hd : decode M.2.1 pc = .ok (.if_icmp .gt off, 3)) (ht : (pc : Int) + off = (tgt : Int)) (kt : y < x → Bd S M d tgt lv st I r I') (kf : ¬ y < x → Bd S M d (pc + 3) lv st I r I') : Bd S M d pc lv (.int y :: .int x :: st) I r I' :=
  fun p l e s m args below meth c D cy ad H locs ls X => lv_icmp_gt X.1.1 X.1.2.1 hd ht (fun h => kt h p l e s m args below meth c D cy ad H locs ls X) (fun h => kf h p l e s m args below meth c D cy ad H locs ls X)
theorem b_if_le {x : Int32} {off : Int} {tgt : Nat} (hd : decode M.2.1 pc = .ok (.ifCond .le off, 3)) (ht : (pc : Int) + off = (tgt : Int)) (kt : x ≤ 0 → Bd S M d tgt lv st I r I') (kf : ¬ x ≤ 0 → Bd S M d (pc + 3) lv st I r I') : Bd S M d pc lv (.int x :: st) I r I' :=
  fun p l e s m args below meth c D cy ad H locs ls X => lv_if_le X.1.1 X.1.2.1 hd ht (fun h => kt h p l e s m args below meth c D cy ad H locs ls X) (fun h => kf h p l e s m args below meth c D cy ad H locs ls X)
theorem b_icmp_le {x y : Int32} {off : Int} {tgt : Nat} (hd : decode M.2.1 pc = .ok (.if_icmp .le off, 3)) (ht : (pc : Int) + off = (tgt : Int)) (kt : x ≤ y → Bd S M d tgt lv st I r I') (kf : ¬ x ≤ y → Bd S M d (pc + 3) lv st I r I') : Bd S M d pc lv (.int y :: .int x :: st) I r I' :=
  fun p l e s m args below meth c D cy ad H locs ls X => lv_icmp_le X.1.1 X.1.2.1 hd ht (fun h => kt h p l e s m args below meth c D cy ad H locs ls X) (fun h => kf h p l e s m args below meth c D cy ad H locs ls X)
end BR
end
section
/-! a field by its link: class ci's field j, at entry idx of own's pool -/
def FW (own : String) (idx ci j : Nat) (rf fin : Bool) (ty : FieldType) : Prop :=
  ∃ (C : String) (T : u_T) (N : Nat) (ty0 : Nat → FieldType), clX[ci]? = some (C, T, N) ∧ clN ci = N ∧ j < N ∧ (∀ w ∈ u_ws C T N, w ∈ gw) ∧ Cond.fieldLink own idx (T j).1 (T j).2.1 (T j).2.2.1 ∈ gw ∧ isR ci j = rf ∧ (T j).2.2.2 = fin ∧
    (∀ k, k < N → parseFieldDescriptor (T k).2.2.1 = some (ty0 k)) ∧ (∀ a, a < N → ∀ b, b < N → a ≠ b → (T a).2.1 ≠ (T b).2.1) ∧ parseFieldDescriptor (T j).2.2.1 = some ty ∧ ci < 20
/-- a method and its words -/
def MV (M : Mi) (na : Nat) : Prop := Cond.code M.1 M.2.1 M.2.2.1 M.2.2.2 ∈ gw ∧ Cond.initialized M.1.cls ∈ gw ∧ (M.1.cls ≠ "java/lang/invoke/MethodHandle" ∧ M.1.cls ≠ "java/lang/invoke/VarHandle") ∧ (parseMethodDescriptor M.1.desc).map (fun d => d.parameters.length) = some na ∧ M.2.2.1 ≤ 40
def MVi (M : Mi) : Prop := Cond.instanceMethod M.1 ∈ gw ∧ Cond.selects M.1.cls M.1 M.1 ∈ gw
def IsO (S : Sy) (k : Nat) (C : String) : Prop := ∃ (ci z : Nat) (q : vw_C), S.1[k]? = some (ci, z) ∧ ci < 20 ∧ clX[ci]? = some q ∧ q.1 = C
theorem ent_o {cy : Nat → ClassId} {ad : Nat → Nat} {ci z : Nat} {ik : Nat → Int32} {rk : Nat → Option Nat} (h : ci < 20) : entOf cy ad (ci, z) ik rk = .inr (ci, (List.range (clN ci)).map fun j => if isR ci j then va_rf ((rk j).map ad) else .int (ik j)) := by
  unfold entOf; rw [if_pos h]
theorem fs_at {n j : Nat} {g : Nat → Value} (h : j < n) : ((List.range n).map g)[j]? = some (g j) := by
  simp [List.getElem?_map, List.getElem?_range h]
section BH
variable {S : Sy} {M : Mi} {d pc : Nat} {lv : List (Nat × Value)} {st : List Value} {I I' : Wd} {r : Option Value}
theorem b_geti {k idx ci z j : Nat} {fin : Bool} {ty : FieldType} (hd : decode M.2.1 pc = .ok (.getfield idx, 3)) (hf : FW M.1.cls idx ci j false fin ty) (hsh : S.1[k]? = some (ci, z)) (kk : Bd S M d (pc + 3) lv (.int (I k j) :: st) I r I') : Bd S M d pc lv (.ref k :: st) I r I' := by
  intro p l e s m args below meth c D cy ad H locs ls X
  obtain ⟨C, T, N, ty0, h1, h2, h3, h4, h5, h6, h7, h8, h9, h10, h11⟩ := hf
  obtain ⟨⟨hx, hb, hr, hml, hown, hts, hlocks⟩, hl, hi, hK, hE, hP, hS⟩ := id X
  have he := ws_at (cy := cy) (ad := ad) (I := I) hsh
  rw [ent_o h11] at he
  refine va_get (D := D) (cl := clX) (tys := tyL cy) (ci := ci) (C := C) (T := T) (N := N) (v := .int (I k j)) hx hb hts h4 hown hK hP k he h1 j h3 (hts _ h5) (fun _ h => h) ?_ hd (kk p l e s m args below meth c D cy ad H locs ls X)
  rw [h2, fs_at h3, if_neg (by rw [h6]; decide)]
theorem b_geta {k idx ci z j q : Nat} {fin : Bool} {ty : FieldType} (hd : decode M.2.1 pc = .ok (.getfield idx, 3)) (hf : FW M.1.cls idx ci j true fin ty) (hsh : S.1[k]? = some (ci, z)) (hq : S.2 k j = some q) (kk : Bd S M d (pc + 3) lv (.ref q :: st) I r I') : Bd S M d pc lv (.ref k :: st) I r I' := by
  intro p l e s m args below meth c D cy ad H locs ls X
  obtain ⟨C, T, N, ty0, h1, h2, h3, h4, h5, h6, h7, h8, h9, h10, h11⟩ := hf
  obtain ⟨⟨hx, hb, hr, hml, hown, hts, hlocks⟩, hl, hi, hK, hE, hP, hS⟩ := id X
  have he := ws_at (cy := cy) (ad := ad) (I := I) hsh
  rw [ent_o h11] at he
  refine va_get (D := D) (cl := clX) (tys := tyL cy) (ci := ci) (C := C) (T := T) (N := N) (v := .ref (ad q)) hx hb hts h4 hown hK hP k he h1 j h3 (hts _ h5) (fun _ h => h) ?_ hd (kk p l e s m args below meth c D cy ad H locs ls X)
  rw [h2, fs_at h3, if_pos (by rw [h6]), hq]
  rfl
theorem b_putv {k idx ci z j : Nat} {ty : FieldType} {x : Int32} (hd : decode M.2.1 pc = .ok (.putfield idx, 3)) (hf : FW M.1.cls idx ci j false false ty) (hsh : S.1[k]? = some (ci, z)) (hn : narrow ty (.int x) = .int x) (hfit : fits ty (.int x) = true) (kk : Bd S M d (pc + 3) lv st (ist I k j x) r I') : Bd S M d pc lv (.int x :: .ref k :: st) I r I' := by
  intro p l e s m args below meth c D cy ad H locs ls X
  obtain ⟨C, T, N, ty0, h1, h2, h3, h4, h5, h6, h7, h8, h9, h10, h11⟩ := hf
  obtain ⟨hX1, hl, hi, hK, hE, hP, hS⟩ := id X
  obtain ⟨hx, hb, hr, hml, hown, hts, hlocks⟩ := id hX1
  have he := ws_at (cy := cy) (ad := ad) (I := I) hsh
  rw [ent_o h11] at he
  refine va_put (D := D) (cl := clX) (tys := tyL cy) (ci := ci) (C := C) (T := T) (N := N) (v := .int x) (ty := ty) hx hb hts h4 ty0 h8 h9 hown hK hP (ws_D hi) hS k he h1 j h3 (hts _ h5) (fun _ h => h) h7 h10 hn hfit (by simpa [h2] using h3) hd ?_
  intro H1 locs1 hP1 hD1 hS1
  have e2 : (wsO cy ad S I).set k (ad k, .inr (ci, ((List.range (clN ci)).map fun i => if isR ci i then va_rf ((S.2 k i).map ad) else .int (I k i)).set j (.int x))) = wsO cy ad S (ist I k j x) := by
    have e3 := ws_set (cy := cy) (ad := ad) (I := I) hsh (upd (I k) j x)
    rw [ent_o h11] at e3
    unfold ist
    rw [← e3, fs_set]
    congr 3
    refine congrArg (Prod.mk ci) ?_
    apply List.map_congr_left
    intro i _
    by_cases hij : i = j
    · subst hij; rw [if_pos rfl, if_neg (by rw [h6]; decide)]; simp [upd]
    · rw [if_neg hij]
      by_cases hR : isR ci i = true
      · rw [if_pos hR, if_pos hR]
      · rw [if_neg hR, if_neg hR]; simp [upd, hij]
  rw [e2] at hP1
  exact kk p l e s m args below meth c D cy ad H1 locs1 ls ⟨hX1, hl, hi, hK, hE, hP1, hS1⟩
theorem b_puti {k idx ci z j : Nat} {x : Int32} (hd : decode M.2.1 pc = .ok (.putfield idx, 3)) (hf : FW M.1.cls idx ci j false false .int) (hsh : S.1[k]? = some (ci, z)) (kk : Bd S M d (pc + 3) lv st (ist I k j x) r I') : Bd S M d pc lv (.int x :: .ref k :: st) I r I' := b_putv hd hf hsh rfl rfl kk
theorem b_put1 {k idx ci z j : Nat} (hd : decode M.2.1 pc = .ok (.putfield idx, 3)) (hf : FW M.1.cls idx ci j false false .boolean) (hsh : S.1[k]? = some (ci, z)) (kk : Bd S M d (pc + 3) lv st (ist I k j 1) r I') : Bd S M d pc lv (.int 1 :: .ref k :: st) I r I' := b_putv hd hf hsh rfl rfl kk
theorem b_put0 {k idx ci z j : Nat} (hd : decode M.2.1 pc = .ok (.putfield idx, 3)) (hf : FW M.1.cls idx ci j false false .boolean) (hsh : S.1[k]? = some (ci, z)) (kk : Bd S M d (pc + 3) lv st (ist I k j 0) r I') : Bd S M d pc lv (.int 0 :: .ref k :: st) I r I' := b_putv hd hf hsh rfl rfl kk
theorem ent_i {cy : Nat → ClassId} {ad : Nat → Nat} {n : Nat} {ik : Nat → Int32} {rk : Nat → Option Nat} : entOf cy ad (20, n) ik rk = .inl (cy 20, n, .inl ik) := rfl
theorem ent_z {cy : Nat → ClassId} {ad : Nat → Nat} {n : Nat} {ik : Nat → Int32} {rk : Nat → Option Nat} : entOf cy ad (21, n) ik rk = .inl (cy 21, n, .inl ik) := rfl
theorem b_iald {k n : Nat} {i : Int32} (hd : decode M.2.1 pc = .ok (.iaload, 1)) (hsh : S.1[k]? = some (20, n)) (hin : vp_in i n) (kk : Bd S M d (pc + 1) lv (.int (I k i.toNatClampNeg) :: st) I r I') : Bd S M d pc lv (.int i :: .ref k :: st) I r I' := by
  intro p l e s m args below meth c D cy ad H locs ls X
  obtain ⟨⟨hx, hb, hr, hml, hown, hts, hlocks⟩, hl, hi, hK, hE, hP, hS⟩ := id X
  exact va_iald hx hb hK hP k 0 (ws_at hsh) rfl hin hd (kk p l e s m args below meth c D cy ad H locs ls X)
theorem b_zald {k n : Nat} {i : Int32} (hd : decode M.2.1 pc = .ok (.baload, 1)) (hsh : S.1[k]? = some (21, n)) (hin : vp_in i n) (kk : Bd S M d (pc + 1) lv (.int (I k i.toNatClampNeg) :: st) I r I') : Bd S M d pc lv (.int i :: .ref k :: st) I r I' := by
  intro p l e s m args below meth c D cy ad H locs ls X
  obtain ⟨⟨hx, hb, hr, hml, hown, hts, hlocks⟩, hl, hi, hK, hE, hP, hS⟩ := id X
  exact va_zald hx hb hK hP k 1 (ws_at hsh) rfl hin hd (kk p l e s m args below meth c D cy ad H locs ls X)
theorem b_iast {k n : Nat} {i x : Int32} (hd : decode M.2.1 pc = .ok (.iastore, 1)) (hsh : S.1[k]? = some (20, n)) (hin : vp_in i n) (kk : Bd S M d (pc + 1) lv st (ist I k i.toNatClampNeg x) r I') : Bd S M d pc lv (.int x :: .int i :: .ref k :: st) I r I' := by
  intro p l e s m args below meth c D cy ad H locs ls X
  obtain ⟨hX1, hl, hi, hK, hE, hP, hS⟩ := id X
  obtain ⟨hx, hb, hr, hml, hown, hts, hlocks⟩ := id hX1
  refine va_iast hx hb hK hP (ws_D hi) hS k 0 (ws_at hsh) rfl hin hd ?_
  intro H1 locs1 hP1 hD1 hS1
  have e3 := ws_set (cy := cy) (ad := ad) (I := I) hsh (upd (I k) i.toNatClampNeg x)
  rw [ent_i] at e3
  rw [e3] at hP1
  exact kk p l e s m args below meth c D cy ad H1 locs1 ls ⟨hX1, hl, hi, hK, hE, hP1, hS1⟩
theorem b_zast {k n : Nat} {i x : Int32} (hd : decode M.2.1 pc = .ok (.bastore, 1)) (hsh : S.1[k]? = some (21, n)) (hin : vp_in i n) (hx01 : vp_nar .boolean x = x) (kk : Bd S M d (pc + 1) lv st (ist I k i.toNatClampNeg x) r I') : Bd S M d pc lv (.int x :: .int i :: .ref k :: st) I r I' := by
  intro p l e s m args below meth c D cy ad H locs ls X
  obtain ⟨hX1, hl, hi, hK, hE, hP, hS⟩ := id X
  obtain ⟨hx, hb, hr, hml, hown, hts, hlocks⟩ := id hX1
  refine va_zast hx hb hK hP (ws_D hi) hS k 1 (ws_at hsh) rfl hin hd ?_
  intro H1 locs1 hP1 hD1 hS1
  rw [hx01] at hP1
  have e3 := ws_set (cy := cy) (ad := ad) (I := I) hsh (upd (I k) i.toNatClampNeg x)
  rw [ent_z] at e3
  rw [e3] at hP1
  exact kk p l e s m args below meth c D cy ad H1 locs1 ls ⟨hX1, hl, hi, hK, hE, hP1, hS1⟩
/-- a row of references: what stands there -/
theorem b_aald {k n t q : Nat} {i : Int32} (hd : decode M.2.1 pc = .ok (.aaload, 1)) (hsh : S.1[k]? = some (t, n)) (ht : t = 22 ∨ t = 23) (hin : vp_in i n) (hq : S.2 k i.toNatClampNeg = some q) (kk : Bd S M d (pc + 1) lv (.ref q :: st) I r I') : Bd S M d pc lv (.int i :: .ref k :: st) I r I' := by
  intro p l e s m args below meth c D cy ad H locs ls X
  obtain ⟨⟨hx, hb, hr, hml, hown, hts, hlocks⟩, hl, hi, hK, hE, hP, hS⟩ := id X
  have kk2 := kk p l e s m args below meth c D cy ad H locs ls X
  have ev : cvt ad (.ref q) = va_rf ((S.2 k i.toNatClampNeg).map ad) := by rw [hq]; rfl
  rcases ht with rfl | rfl
  · exact va_aldq hx hb hK hP k 2 (ws_at hsh) rfl hin hd (by rw [← ev]; exact kk2)
  · exact va_aldq hx hb hK hP k 3 (ws_at hsh) rfl hin hd (by rw [← ev]; exact kk2)
/-- an array's length -/
theorem b_alen {k n t : Nat} {v : Int32} (hd : decode M.2.1 pc = .ok (.arraylength, 1)) (hsh : S.1[k]? = some (t, n)) (ht : t = 20 ∨ t = 21) (hv : Int32.ofNat n = v) (kk : Bd S M d (pc + 1) lv (.int v :: st) I r I') : Bd S M d pc lv (.ref k :: st) I r I' := by
  intro p l e s m args below meth c D cy ad H locs ls X
  obtain ⟨⟨hx, hb, hr, hml, hown, hts, hlocks⟩, hl, hi, hK, hE, hP, hS⟩ := id X
  have kk2 := kk p l e s m args below meth c D cy ad H locs ls X
  rcases ht with rfl | rfl
  · exact va_alen hx hb hK hP k 0 (ws_at hsh) rfl hv hd kk2
  · exact va_alen hx hb hK hP k 1 (ws_at hsh) rfl hv hd kk2
/-! returns -/
theorem Qcw.of {D : va_G} {cy : Nat → ClassId} {ad : Nat → Nat} {s t : State} {H : Heap} {locs : List Loc} {as : Array Value} (hP : va_P D clX (wsO cy ad S I) H) (hS : va_S (Aad S ad) s.heap H locs) (ht : t.heap = H) : Qcw D cy ad S r I as s (.returned (r.map (cvt ad))) t := ⟨rfl, by rw [ht]; exact hP, hS.F ht⟩
theorem b_iret {v : Int32} (hd : decode M.2.1 pc = .ok (.ireturn, 1)) (hty : M.2.2.2 = some .int) : Bd S M d pc lv [.int v] I (some (.int v)) I := by
  intro p l e s m args below meth c D cy ad H locs ls X
  obtain ⟨⟨hx, hb, hr, hml, hown, hts, hlocks⟩, hl, hi, hK, hE, hP, hS⟩ := id X
  exact W.iret (v := v) hx hb (hr.trans hty) (fun t ht hW => Qcw.of (r := some (.int v)) hP hS ht) hS.2.2 hd hlocks
theorem b_zret {v : Int32} {ty : FieldType} (hd : decode M.2.1 pc = .ok (.ireturn, 1)) (hty : M.2.2.2 = some ty) (hn : narrow ty (.int v) = .int v) : Bd S M d pc lv [.int v] I (some (.int v)) I := by
  intro p l e s m args below meth c D cy ad H locs ls X
  obtain ⟨⟨hx, hb, hr, hml, hown, hts, hlocks⟩, hl, hi, hK, hE, hP, hS⟩ := id X
  exact W.zret (v := v) hx hb (hr.trans hty) hn (fun t ht hW => Qcw.of (r := some (.int v)) hP hS ht) hS.2.2 hd hlocks
theorem b_lret {v : Int64} (hd : decode M.2.1 pc = .ok (.lreturn, 1)) (hty : M.2.2.2 = some .long) : Bd S M d pc lv [.long v] I (some (.long v)) I := by
  intro p l e s m args below meth c D cy ad H locs ls X
  obtain ⟨⟨hx, hb, hr, hml, hown, hts, hlocks⟩, hl, hi, hK, hE, hP, hS⟩ := id X
  exact W.lret (v := v) hx hb (hr.trans hty) (fun t ht hW => Qcw.of (r := some (.long v)) hP hS ht) hS.2.2 hd hlocks
theorem b_vret (hd : decode M.2.1 pc = .ok (.return_, 1)) (hty : M.2.2.2 = none) : Bd S M d pc lv [] I none I := by
  intro p l e s m args below meth c D cy ad H locs ls X
  obtain ⟨⟨hx, hb, hr, hml, hown, hts, hlocks⟩, hl, hi, hK, hE, hP, hS⟩ := id X
  exact W.vret hx hb (hr.trans hty) (fun t ht hW => Qcw.of (r := none) hP hS ht) hS.2.2 hd hlocks
theorem b_aret {k : Nat} {n : String} (hd : decode M.2.1 pc = .ok (.areturn, 1)) (hty : M.2.2.2 = some (.object n)) : Bd S M d pc lv [.ref k] I (some (.ref k)) I := by
  intro p l e s m args below meth c D cy ad H locs ls X
  obtain ⟨⟨hx, hb, hr, hml, hown, hts, hlocks⟩, hl, hi, hK, hE, hP, hS⟩ := id X
  exact W.aret (v := .ref (ad k)) hx hb (hr.trans hty) (Or.inl ⟨n, rfl⟩) (Or.inr ⟨_, rfl⟩) (fun t ht hW => Qcw.of (r := some (.ref k)) hP hS ht) hS.2.2 hd hlocks
/-- the end, put as an equation -/
theorem b_eq {r1 : Option Value} {I1 : Wd} (h : Bd S M d pc lv st I r1 I1) (h1 : r1 = r) (h2 : I1 = I') : Bd S M d pc lv st I r I' := h1 ▸ h2 ▸ h
/-! calls -/
theorem Pcw.blind {D : va_G} {cy : Nat → ClassId} {ad : Nat → Nat} {As : List Value} : FrameBlind (Pcw D cy ad S As I) := by
  intro a U g mk q
  obtain ⟨q0, qP, qK, qE⟩ := q
  exact ⟨q0, qP, va_K.moved (u := U) (U := U.calling g mk a) (Vm.Alike.refl U.vm) qK, Ext.same (u := U) (U := U.calling g mk a) rfl qE⟩
theorem Pcw.at {D : va_G} {cy : Nat → ClassId} {ad : Nat → Nat} {As : List Value} {s U : State} {H : Heap} {locs : List Loc} (hK : va_K D clX (tyL cy) s) (hE : Ext (Aad S ad) ad s s.heap) (hP : va_P D clX (wsO cy ad S I) H) (hS : va_S (Aad S ad) s.heap H locs) (hU : U.heap = H) (hW : s.WarmedH U.vm) : Pcw D cy ad S As I (As.map (cvt ad)).toArray U :=
  ⟨rfl, by rw [hU]; exact hP, va_K.moved hW.alike hK, by rw [hU]; exact (hE.warm hW).kept hS.2.1⟩
theorem go_on {p : Program} {l : Launch} {e : Env} {s : State} {m : MethodId} {args : Array Value} {below : List Frame} {meth : Method} {c : Code} {D : va_G} {cy : Nat → ClassId} {ad : Nat → Nat} {H : Heap} {locs : List Loc} {ls : Array Slot} {r1 : Option Value} {I1 : Wd} {rest st0 : List Value} {a : Array Value} (X : Cx S M p s m args meth c D cy ad I H locs ls lv)
    (run : va_Run p l e (rmd d) s m args below meth c H locs 0 0 0 0 (F0 m pc ls st0) (rest.map (cvt ad)) (Qcw D cy ad S r1 I1 a) (Aad S ad))
    (kk : Bd S M d (pc + 3) lv (r1.toList ++ rest) I1 r I') : W p l e (rmd d) s m args below meth c H locs 0 0 (MQ below (Qcw D cy ad S r I') args s 0 0 (Aad S ad)) (F0 m pc ls st0) := by
  obtain ⟨hX1, hl, hi, hK, hE, hP, hS⟩ := X
  intro T hT XS
  obtain ⟨v, st₀, t, T', L, h0, X', hL, e1, e2, ⟨hret, hP1, hF⟩, stp⟩ := run T hT XS
  have hv : v = r1.map (cvt ad) := Outcome.returned.inj hret
  subst hv
  have hz : H.size ≤ T'.heap.size := by rw [e1, ← h0]; exact hF.1
  have hkp : ∀ q : Nat, q < H.size → ¬ Aad S ad q → T'.heap[q]? = H[q]? := fun q h1 h2 => by rw [e1, ← h0]; exact hF.2 q (by rw [h0]; exact h1) h2
  obtain ⟨t2, a1, b1⟩ := kk p l e s m args below meth c D cy ad T'.heap (locs ++ L) ls ⟨hX1, hl, hi, hK, hE, by rw [e1]; exact hP1, Nat.le_trans hS.1 hz, fun q h1 h2 => by rw [hkp q (Nat.lt_of_lt_of_le h1 hS.1) h2]; exact hS.2.1 q h1 h2, fun q hq => by
    rcases List.mem_append.mp hq with h | h
    · exact hS.2.2 q h
    · exact hL q h⟩ T' rfl X'
  refine ⟨t2, stp t2 ?_, b1⟩
  have e3 : (r1.toList ++ rest).map (cvt ad) = (r1.map (cvt ad)).toList ++ rest.map (cvt ad) := by cases r1 <;> simp
  rw [e3] at a1
  exact a1
def csum (st : List Value) : Nat := (st.map fun v => v.category).sum
theorem csum_map (ad : Nat → Nat) (st : List Value) : ((st.map (cvt ad)).map fun v => v.category).sum = csum st := by
  simp only [csum, List.map_map]
  congr 1
  apply List.map_congr_left
  intro v _
  exact cvt_cat ad v
theorem good_call {na : Nat} {own : String} {idx : Nat} {M2 : Mi} (hl : Cond.methodLink own idx M2.1 ∈ gw) (hm : MV M2 na) (hmi : MVi M2) : GoodIn gw (wsV own idx M2.1.cls M2.1 (.code M2.1 M2.2.1 M2.2.2.1 M2.2.2.2 :: gw)) := by
  intro w hw
  refine gw_good w ?_
  simp only [wsV, List.cons_append, List.nil_append, List.mem_cons] at hw
  rcases hw with rfl | rfl | rfl | rfl | rfl | hw
  · exact hl
  · exact hmi.1
  · exact hmi.2
  · exact hm.2.1
  · exact hm.1
  · exact hw
theorem good_callS {na : Nat} {own : String} {idx : Nat} {M2 : Mi} (hl : Cond.methodLink own idx M2.1 ∈ gw) (hm : MV M2 na) (hms : Cond.static M2.1 ∈ gw) : GoodIn gw (va_wsS own idx M2.1 (.code M2.1 M2.2.1 M2.2.2.1 M2.2.2.2 :: gw)) := by
  intro w hw
  refine gw_good w ?_
  simp only [va_wsS, List.cons_append, List.nil_append, List.mem_cons] at hw
  rcases hw with rfl | rfl | rfl | rfl | hw
  · exact hl
  · exact hms
  · exact hm.2.1
  · exact hm.1
  · exact hw
theorem good_callN {na : Nat} {M2 : Mi} (hm : MV M2 na) : GoodIn gw (.code M2.1 M2.2.1 M2.2.2.1 M2.2.2.2 :: gw) := by
  intro w hw
  refine gw_good w ?_
  rcases List.mem_cons.mp hw with rfl | hw
  · exact hm.1
  · exact hw
theorem room_ok {d d2 nL : Nat} (h : d2 < d) (h2 : nL ≤ 40) : (rmd d2).frames + 1 ≤ (rmd d).frames ∧ 8 + (nL + 11) + (rmd d2).locals ≤ (rmd d).locals := by
  constructor
  · show d2 + 1 ≤ d; omega
  · show 8 + (nL + 11) + 80 * d2 ≤ 80 * d; omega
theorem b_invV {M2 : Mi} {na idx k d2 : Nat} {As rest : List Value} {r1 : Option Value} {I1 : Wd} (hd : decode M.2.1 pc = .ok (.invokevirtual idx, 3)) (hl : Cond.methodLink M.1.cls idx M2.1 ∈ gw) (hm : MV M2 na) (hmi : MVi M2) (hc : Cal S M2 d2 (.ref k :: As) I r1 I1) (hO : IsO S k M2.1.cls) (hst : st = As.reverse ++ .ref k :: rest) (hna : As.length = na) (hdd : d2 < d) (hcs : csum rest ≤ 8) (kk : Bd S M d (pc + 3) lv (r1.toList ++ rest) I1 r I') : Bd S M d pc lv st I r I' := by
  intro p l e s m args below meth c D cy ad H locs ls X
  obtain ⟨⟨hx, hb, hr, hml, hown, hts, hlocks⟩, hlv, hi, hK, hE, hP, hS⟩ := id X
  obtain ⟨ci, z, q, h1, h2, h3, h4⟩ := hO
  have he := ws_at (cy := cy) (ad := ad) (I := I) h1
  rw [ent_o h2] at he
  have hrec := va_recv hK hP h3 he
  rw [h4] at hrec
  subst hst
  refine go_on X (va_runV (As := As.map (cvt ad)) (b := ad k) (C := M2.1.cls) ⟨hx, hb, hml, hown, hts⟩ (hc l D cy ad hi) (cwV na hts (good_call hl hm hmi) rfl rfl rfl ⟨rfl, hm.2.2.1.1, hm.2.2.1.2, hm.2.2.2.1⟩ (room_ok hdd hm.2.2.2.2)) ⟨Pcw.blind, hrec, fun U hU hW => Pcw.at (As := .ref k :: As) hK hE hP hS hU hW⟩ rfl (by rw [List.length_map]; exact hna) hlv.1 (by simp [cvt]) (lv_room (by rw [csum_map]; exact hcs)) hd ⟨Nat.zero_le _, Nat.zero_le _⟩) kk
theorem b_invS {M2 : Mi} {na idx d2 : Nat} {As rest : List Value} {r1 : Option Value} {I1 : Wd} (hd : decode M.2.1 pc = .ok (.invokestatic idx, 3)) (hl : Cond.methodLink M.1.cls idx M2.1 ∈ gw) (hm : MV M2 na) (hms : Cond.static M2.1 ∈ gw) (hc : Cal S M2 d2 As I r1 I1) (hst : st = As.reverse ++ rest) (hna : As.length = na) (hdd : d2 < d) (hcs : csum rest ≤ 8) (kk : Bd S M d (pc + 3) lv (r1.toList ++ rest) I1 r I') : Bd S M d pc lv st I r I' := by
  intro p l e s m args below meth c D cy ad H locs ls X
  obtain ⟨⟨hx, hb, hr, hml, hown, hts, hlocks⟩, hlv, hi, hK, hE, hP, hS⟩ := id X
  subst hst
  refine go_on X (va_runS (As := As.map (cvt ad)) ⟨hx, hb, hml, hown, hts⟩ (hc l D cy ad hi) (va_cwS na hts (good_callS hl hm hms) rfl rfl rfl ⟨hm.2.2.1.1, hm.2.2.1.2, hm.2.2.2.1⟩ (room_ok hdd hm.2.2.2.2)) ⟨Pcw.blind, fun U hU hW => Pcw.at (As := As) hK hE hP hS hU hW⟩ rfl (by rw [List.length_map]; exact hna) hlv.1 (by simp) (lv_room (by rw [csum_map]; exact hcs)) hd ⟨Nat.zero_le _, Nat.zero_le _⟩) kk
/-- a private static method of the nest's host -/
theorem b_invN {M2 : Mi} {na idx d2 : Nat} {host : String} {As rest : List Value} {r1 : Option Value} {I1 : Wd} (hd : decode M.2.1 pc = .ok (.invokestatic idx, 3)) (hl : ∀ (A : Nat → Prop) (ad : Nat → Nat) (U : State) (H : Heap), Ext A ad U H → va_Nw (.methodLinkNest M.1.cls idx M2.1 host) U) (hm : MV M2 na) (hms : Cond.static M2.1 ∈ gw) (hc : Cal S M2 d2 As I r1 I1) (hst : st = As.reverse ++ rest) (hna : As.length = na) (hdd : d2 < d) (hcs : csum rest ≤ 8) (kk : Bd S M d (pc + 3) lv (r1.toList ++ rest) I1 r I') : Bd S M d pc lv st I r I' := by
  intro p l e s m args below meth c D cy ad H locs ls X
  obtain ⟨⟨hx, hb, hr, hml, hown, hts, hlocks⟩, hlv, hi, hK, hE, hP, hS⟩ := id X
  subst hst
  refine go_on X (va_runSN (As := As.map (cvt ad)) ⟨hx, hb, hml, hown, hts⟩ (hc l D cy ad hi) ⟨va_cnB na hts (good_callN hm) rfl rfl rfl (hl _ _ _ _ hE) (hts _ hm.2.1) ⟨hm.2.2.1.1, hm.2.2.1.2, hm.2.2.2.1⟩ (room_ok hdd hm.2.2.2.2), hts _ hms, trivial⟩ ⟨Pcw.blind, fun U hU hW => Pcw.at (As := As) hK hE hP hS hU hW⟩ rfl (by rw [List.length_map]; exact hna) hlv.1 (by simp) (lv_room (by rw [csum_map]; exact hcs)) hd ⟨Nat.zero_le _, Nat.zero_le _⟩) kk
end BH
end
section
theorem gw_tab {w : Cond} (h : w ∈ tables_1) (g : goodWord w = true) : w ∈ gw := List.mem_filter.mpr ⟨List.mem_append_right _ h, g⟩
theorem gw_prv {w : Cond} (h : w ∈ k2_sels lw_privs) (g : goodWord w = true) : w ∈ gw := List.mem_filter.mpr ⟨List.mem_append_left _ h, g⟩
theorem gw_t1 {w : Cond} (j : Nat) (h : tables_1_1[j]? = some w) (g : goodWord w = true) : w ∈ gw := gw_tab (List.mem_append_left _ (List.mem_of_getElem? h)) g
theorem gw_t2 {w : Cond} (j : Nat) (h : tables_1_2[j]? = some w) (g : goodWord w = true) : w ∈ gw := gw_tab (List.mem_append_right _ (List.mem_append_left _ (List.mem_of_getElem? h))) g
theorem gw_t3 {w : Cond} (j : Nat) (h : tables_1_3[j]? = some w) (g : goodWord w = true) : w ∈ gw := gw_tab (List.mem_append_right _ (List.mem_append_right _ (List.mem_append_left _ (List.mem_of_getElem? h)))) g
theorem gw_t4 {w : Cond} (j : Nat) (h : tables_1_4[j]? = some w) (g : goodWord w = true) : w ∈ gw := gw_tab (List.mem_append_right _ (List.mem_append_right _ (List.mem_append_right _ (List.mem_append_left _ (List.mem_of_getElem? h))))) g
theorem gw_t5 {w : Cond} (j : Nat) (h : tables_1_5[j]? = some w) (g : goodWord w = true) : w ∈ gw := gw_tab (List.mem_append_right _ (List.mem_append_right _ (List.mem_append_right _ (List.mem_append_right _ (List.mem_append_left _ (List.mem_of_getElem? h)))))) g
theorem gw_t6 {w : Cond} (j : Nat) (h : tables_1_6[j]? = some w) (g : goodWord w = true) : w ∈ gw := gw_tab (List.mem_append_right _ (List.mem_append_right _ (List.mem_append_right _ (List.mem_append_right _ (List.mem_append_right _ (List.mem_append_left _ (List.mem_of_getElem? h))))))) g
theorem gw_t7 {w : Cond} (j : Nat) (h : tables_1_7[j]? = some w) (g : goodWord w = true) : w ∈ gw := gw_tab (List.mem_append_right _ (List.mem_append_right _ (List.mem_append_right _ (List.mem_append_right _ (List.mem_append_right _ (List.mem_append_right _ (List.mem_of_getElem? h))))))) g
theorem gw_p1 {w : Cond} (j : Nat) (h : (k2_sels lw_privs_1)[j]? = some w) (g : goodWord w = true) : w ∈ gw := by
  obtain ⟨q, hq, e⟩ := List.mem_map.mp (List.mem_of_getElem? h)
  exact gw_prv (List.mem_map.mpr ⟨q, List.mem_append_left _ (hq), e⟩) g
theorem gw_p2 {w : Cond} (j : Nat) (h : (k2_sels lw_privs_2)[j]? = some w) (g : goodWord w = true) : w ∈ gw := by
  obtain ⟨q, hq, e⟩ := List.mem_map.mp (List.mem_of_getElem? h)
  exact gw_prv (List.mem_map.mpr ⟨q, List.mem_append_right _ (List.mem_append_left _ (hq)), e⟩) g
theorem gw_p3 {w : Cond} (j : Nat) (h : (k2_sels lw_privs_3)[j]? = some w) (g : goodWord w = true) : w ∈ gw := by
  obtain ⟨q, hq, e⟩ := List.mem_map.mp (List.mem_of_getElem? h)
  exact gw_prv (List.mem_map.mpr ⟨q, List.mem_append_right _ (List.mem_append_right _ (List.mem_append_left _ (hq))), e⟩) g
theorem gw_p4 {w : Cond} (j : Nat) (h : (k2_sels lw_privs_4)[j]? = some w) (g : goodWord w = true) : w ∈ gw := by
  obtain ⟨q, hq, e⟩ := List.mem_map.mp (List.mem_of_getElem? h)
  exact gw_prv (List.mem_map.mpr ⟨q, List.mem_append_right _ (List.mem_append_right _ (List.mem_append_right _ (List.mem_append_left _ (hq)))), e⟩) g
theorem gw_p5 {w : Cond} (j : Nat) (h : (k2_sels lw_privs_5)[j]? = some w) (g : goodWord w = true) : w ∈ gw := by
  obtain ⟨q, hq, e⟩ := List.mem_map.mp (List.mem_of_getElem? h)
  exact gw_prv (List.mem_map.mpr ⟨q, List.mem_append_right _ (List.mem_append_right _ (List.mem_append_right _ (List.mem_append_right _ (List.mem_append_left _ (hq))))), e⟩) g
theorem gw_p6 {w : Cond} (j : Nat) (h : (k2_sels lw_privs_6)[j]? = some w) (g : goodWord w = true) : w ∈ gw := by
  obtain ⟨q, hq, e⟩ := List.mem_map.mp (List.mem_of_getElem? h)
  exact gw_prv (List.mem_map.mpr ⟨q, List.mem_append_right _ (List.mem_append_right _ (List.mem_append_right _ (List.mem_append_right _ (List.mem_append_right _ (hq))))), e⟩) g
theorem iwX0 : ∀ w ∈ u_ws RX0 TX0 6, w ∈ gw := gw_of _ [132, 134, 136, 138, 140, 142] (by decide +kernel) (by decide +kernel)
theorem iwX1 : ∀ w ∈ u_ws RX1 TX1 13, w ∈ gw := gw_of _ [306, 308, 310, 312, 314, 316, 318, 320, 322, 324, 326, 328, 330] (by decide +kernel) (by decide +kernel)
theorem iwX2 : ∀ w ∈ u_ws RX2 TX2 16, w ∈ gw := gw_of _ [183, 185, 187, 189, 191, 193, 195, 197, 199, 201, 203, 205, 207, 209, 211, 213] (by decide +kernel) (by decide +kernel)
theorem iwX3 : ∀ w ∈ u_ws RX3 TX3 5, w ∈ gw := gw_of _ [401, 403, 405, 407, 409] (by decide +kernel) (by decide +kernel)
theorem iwX4 : ∀ w ∈ u_ws RX4 TX4 7, w ∈ gw := gw_of _ [425, 427, 429, 431, 433, 435, 437] (by decide +kernel) (by decide +kernel)
theorem iwX5 : ∀ w ∈ u_ws RX5 TX5 3, w ∈ gw := gw_of _ [455, 457, 459] (by decide +kernel) (by decide +kernel)
theorem iwX6 : ∀ w ∈ u_ws RX6 TX6 7, w ∈ gw := gw_of _ [237, 239, 241, 243, 245, 247, 249] (by decide +kernel) (by decide +kernel)
theorem iwX7 : ∀ w ∈ u_ws RX7 TX7 7, w ∈ gw := gw_of _ [354, 356, 358, 360, 362, 364, 366] (by decide +kernel) (by decide +kernel)
theorem iwX8 : ∀ w ∈ u_ws RX8 TX8 3, w ∈ gw := gw_of _ [388, 390, 392] (by decide +kernel) (by decide +kernel)
theorem iwX9 : ∀ w ∈ u_ws RX9 TX9 4, w ∈ gw := gw_of _ [272, 274, 276, 278] (by decide +kernel) (by decide +kernel)
theorem iwX10 : ∀ w ∈ u_ws RX10 TX10 14, w ∈ gw := gw_of _ [651, 653, 655, 657, 659, 661, 663, 665, 667, 669, 671, 673, 675, 677] (by decide +kernel) (by decide +kernel)
theorem iwX11 : ∀ w ∈ u_ws RX11 TX11 77, w ∈ gw := gw_of _ [1204, 1206, 1208, 1210, 1212, 1214, 1216, 1218, 1220, 1222, 1224, 1226, 1228, 1230, 1232, 1234, 1236, 1238, 1240, 1242, 1244, 1246, 1248, 1250, 1252, 1254, 1256, 1258, 1260, 1262, 1264, 1266, 1268, 1270, 1272, 1274, 1276, 1278, 1280, 1282, 1284, 1286, 1288, 1290, 1292, 1294, 1296, 1298, 1300, 1302, 1304, 1306, 1308, 1310, 1312, 1314, 1316, 1318, 1320, 1322, 1324, 1326, 1328, 1330, 1332, 1334, 1336, 1338, 1340, 1342, 1344, 1346, 1348, 1350, 1352, 1354, 1356] (by decide +kernel) (by decide +kernel)
theorem fwX10_10 : FW RX10 10 10 0 true true (.object "HollowShire$Built") := ⟨RX10, TX10, 14, tyX10, rfl, rfl, by decide, iwX10, gw_t3 76 rfl rfl, rfl, rfl, tyX10_ok, nmX10, by decide +kernel, by decide⟩
theorem fwX10_21 : FW RX10 21 10 1 true true (.object "HollowShire$Ground") := ⟨RX10, TX10, 14, tyX10, rfl, rfl, by decide, iwX10, gw_t3 77 rfl rfl, rfl, rfl, tyX10_ok, nmX10, by decide +kernel, by decide⟩
theorem fwX10_25 : FW RX10 25 10 2 true true (.object "HollowShire$Ground") := ⟨RX10, TX10, 14, tyX10, rfl, rfl, by decide, iwX10, gw_t3 78 rfl rfl, rfl, rfl, tyX10_ok, nmX10, by decide +kernel, by decide⟩
theorem fwX10_28 : FW RX10 28 10 3 true true (.object "HollowShire$Ground") := ⟨RX10, TX10, 14, tyX10, rfl, rfl, by decide, iwX10, gw_t3 79 rfl rfl, rfl, rfl, tyX10_ok, nmX10, by decide +kernel, by decide⟩
theorem fwX10_31 : FW RX10 31 10 4 false false .boolean := ⟨RX10, TX10, 14, tyX10, rfl, rfl, by decide, iwX10, gw_t3 80 rfl rfl, rfl, rfl, tyX10_ok, nmX10, by decide +kernel, by decide⟩
theorem fwX10_38 : FW RX10 38 10 5 true true (.object "HollowShire$Signs") := ⟨RX10, TX10, 14, tyX10, rfl, rfl, by decide, iwX10, gw_t3 81 rfl rfl, rfl, rfl, tyX10_ok, nmX10, by decide +kernel, by decide⟩
theorem fwX10_47 : FW RX10 47 10 6 true true (.object "HollowShire$Told") := ⟨RX10, TX10, 14, tyX10, rfl, rfl, by decide, iwX10, gw_t3 82 rfl rfl, rfl, rfl, tyX10_ok, nmX10, by decide +kernel, by decide⟩
theorem fwX10_51 : FW RX10 51 10 7 true true (.object "HollowShire$Told") := ⟨RX10, TX10, 14, tyX10, rfl, rfl, by decide, iwX10, gw_t3 83 rfl rfl, rfl, rfl, tyX10_ok, nmX10, by decide +kernel, by decide⟩
theorem fwX10_57 : FW RX10 57 10 8 true true (.object "HollowShire$Fit") := ⟨RX10, TX10, 14, tyX10, rfl, rfl, by decide, iwX10, gw_t3 84 rfl rfl, rfl, rfl, tyX10_ok, nmX10, by decide +kernel, by decide⟩
theorem fwX10_64 : FW RX10 64 10 9 true true (.object "HollowShire$Rules") := ⟨RX10, TX10, 14, tyX10, rfl, rfl, by decide, iwX10, gw_t3 85 rfl rfl, rfl, rfl, tyX10_ok, nmX10, by decide +kernel, by decide⟩
theorem fwX10_70 : FW RX10 70 10 10 true true (.array (.object "HollowShire$Sheet")) := ⟨RX10, TX10, 14, tyX10, rfl, rfl, by decide, iwX10, gw_t3 86 rfl rfl, rfl, rfl, tyX10_ok, nmX10, by decide +kernel, by decide⟩
theorem fwX10_74 : FW RX10 74 10 11 true true (.array .int) := ⟨RX10, TX10, 14, tyX10, rfl, rfl, by decide, iwX10, gw_t3 87 rfl rfl, rfl, rfl, tyX10_ok, nmX10, by decide +kernel, by decide⟩
theorem fwX10_78 : FW RX10 78 10 12 false false .int := ⟨RX10, TX10, 14, tyX10, rfl, rfl, by decide, iwX10, gw_t3 88 rfl rfl, rfl, rfl, tyX10_ok, nmX10, by decide +kernel, by decide⟩
theorem fwX10_82 : FW RX10 82 10 13 false false .int := ⟨RX10, TX10, 14, tyX10, rfl, rfl, by decide, iwX10, gw_t3 89 rfl rfl, rfl, rfl, tyX10_ok, nmX10, by decide +kernel, by decide⟩
theorem fwX10_104 : FW RX10 104 2 6 true true (.array .int) := ⟨RX2, TX2, 16, tyX2, rfl, rfl, by decide, iwX2, gw_t1 84 rfl rfl, rfl, rfl, tyX2_ok, nmX2, by decide +kernel, by decide⟩
theorem fwX10_107 : FW RX10 107 2 5 true true (.array .int) := ⟨RX2, TX2, 16, tyX2, rfl, rfl, by decide, iwX2, gw_t1 81 rfl rfl, rfl, rfl, tyX2_ok, nmX2, by decide +kernel, by decide⟩
theorem fwX10_111 : FW RX10 111 0 0 false false .int := ⟨RX0, TX0, 6, tyX0, rfl, rfl, by decide, iwX0, gw_t1 35 rfl rfl, rfl, rfl, tyX0_ok, nmX0, by decide +kernel, by decide⟩
theorem fwX10_118 : FW RX10 118 0 1 false false .int := ⟨RX0, TX0, 6, tyX0, rfl, rfl, by decide, iwX0, gw_t1 38 rfl rfl, rfl, rfl, tyX0_ok, nmX0, by decide +kernel, by decide⟩
theorem fwX10_125 : FW RX10 125 2 11 true true (.array .int) := ⟨RX2, TX2, 16, tyX2, rfl, rfl, by decide, iwX2, gw_t1 95 rfl rfl, rfl, rfl, tyX2_ok, nmX2, by decide +kernel, by decide⟩
theorem fwX10_128 : FW RX10 128 2 2 false false .int := ⟨RX2, TX2, 16, tyX2, rfl, rfl, by decide, iwX2, gw_t1 75 rfl rfl, rfl, rfl, tyX2_ok, nmX2, by decide +kernel, by decide⟩
theorem fwX10_134 : FW RX10 134 2 12 true true (.array .int) := ⟨RX2, TX2, 16, tyX2, rfl, rfl, by decide, iwX2, gw_t1 97 rfl rfl, rfl, rfl, tyX2_ok, nmX2, by decide +kernel, by decide⟩
theorem fwX10_137 : FW RX10 137 2 13 true true (.array .boolean) := ⟨RX2, TX2, 16, tyX2, rfl, rfl, by decide, iwX2, gw_t1 99 rfl rfl, rfl, rfl, tyX2_ok, nmX2, by decide +kernel, by decide⟩
theorem fwX10_141 : FW RX10 141 0 4 true true (.array .int) := ⟨RX0, TX0, 6, tyX0, rfl, rfl, by decide, iwX0, gw_t1 48 rfl rfl, rfl, rfl, tyX0_ok, nmX0, by decide +kernel, by decide⟩
theorem fwX10_150 : FW RX10 150 2 1 false false .int := ⟨RX2, TX2, 16, tyX2, rfl, rfl, by decide, iwX2, gw_t1 73 rfl rfl, rfl, rfl, tyX2_ok, nmX2, by decide +kernel, by decide⟩
theorem fwX10_153 : FW RX10 153 6 0 false false .int := ⟨RX6, TX6, 7, tyX6, rfl, rfl, by decide, iwX6, gw_t1 143 rfl rfl, rfl, rfl, tyX6_ok, nmX6, by decide +kernel, by decide⟩
theorem fwX10_163 : FW RX10 163 6 6 true true (.array .int) := ⟨RX6, TX6, 7, tyX6, rfl, rfl, by decide, iwX6, gw_t1 155 rfl rfl, rfl, rfl, tyX6_ok, nmX6, by decide +kernel, by decide⟩
theorem fwX10_166 : FW RX10 166 6 5 true true (.array .int) := ⟨RX6, TX6, 7, tyX6, rfl, rfl, by decide, iwX6, gw_t1 153 rfl rfl, rfl, rfl, tyX6_ok, nmX6, by decide +kernel, by decide⟩
theorem fwX10_169 : FW RX10 169 6 3 true true (.array .int) := ⟨RX6, TX6, 7, tyX6, rfl, rfl, by decide, iwX6, gw_t1 149 rfl rfl, rfl, rfl, tyX6_ok, nmX6, by decide +kernel, by decide⟩
theorem fwX10_175 : FW RX10 175 6 1 true true (.array .int) := ⟨RX6, TX6, 7, tyX6, rfl, rfl, by decide, iwX6, gw_t1 145 rfl rfl, rfl, rfl, tyX6_ok, nmX6, by decide +kernel, by decide⟩
theorem fwX10_182 : FW RX10 182 6 2 true true (.array .int) := ⟨RX6, TX6, 7, tyX6, rfl, rfl, by decide, iwX6, gw_t1 147 rfl rfl, rfl, rfl, tyX6_ok, nmX6, by decide +kernel, by decide⟩
theorem fwX10_185 : FW RX10 185 6 4 true true (.array .int) := ⟨RX6, TX6, 7, tyX6, rfl, rfl, by decide, iwX6, gw_t1 151 rfl rfl, rfl, rfl, tyX6_ok, nmX6, by decide +kernel, by decide⟩
theorem fwX10_214 : FW RX10 214 5 1 false false .int := ⟨RX5, TX5, 3, tyX5, rfl, rfl, by decide, iwX5, gw_t2 130 rfl rfl, rfl, rfl, tyX5_ok, nmX5, by decide +kernel, by decide⟩
theorem fwX10_223 : FW RX10 223 1 1 false false .int := ⟨RX1, TX1, 13, tyX1, rfl, rfl, by decide, iwX1, gw_t1 209 rfl rfl, rfl, rfl, tyX1_ok, nmX1, by decide +kernel, by decide⟩
theorem fwX10_226 : FW RX10 226 1 2 false false .int := ⟨RX1, TX1, 13, tyX1, rfl, rfl, by decide, iwX1, gw_t1 211 rfl rfl, rfl, rfl, tyX1_ok, nmX1, by decide +kernel, by decide⟩
theorem fwX10_229 : FW RX10 229 1 0 false false .int := ⟨RX1, TX1, 13, tyX1, rfl, rfl, by decide, iwX1, gw_t1 207 rfl rfl, rfl, rfl, tyX1_ok, nmX1, by decide +kernel, by decide⟩
theorem fwX10_232 : FW RX10 232 1 4 true true (.array .int) := ⟨RX1, TX1, 13, tyX1, rfl, rfl, by decide, iwX1, gw_t1 214 rfl rfl, rfl, rfl, tyX1_ok, nmX1, by decide +kernel, by decide⟩
theorem fwX10_235 : FW RX10 235 1 5 true true (.array .int) := ⟨RX1, TX1, 13, tyX1, rfl, rfl, by decide, iwX1, gw_t1 216 rfl rfl, rfl, rfl, tyX1_ok, nmX1, by decide +kernel, by decide⟩
theorem fwX10_237 : FW RX10 237 1 6 true true (.array .int) := ⟨RX1, TX1, 13, tyX1, rfl, rfl, by decide, iwX1, gw_t1 218 rfl rfl, rfl, rfl, tyX1_ok, nmX1, by decide +kernel, by decide⟩
theorem fwX10_240 : FW RX10 240 4 0 true true (.object "HollowShire$Tape") := ⟨RX4, TX4, 7, tyX4, rfl, rfl, by decide, iwX4, gw_t2 95 rfl rfl, rfl, rfl, tyX4_ok, nmX4, by decide +kernel, by decide⟩
theorem fwX10_244 : FW RX10 244 7 0 false false .int := ⟨RX7, TX7, 7, tyX7, rfl, rfl, by decide, iwX7, gw_t2 26 rfl rfl, rfl, rfl, tyX7_ok, nmX7, by decide +kernel, by decide⟩
theorem fwX10_250 : FW RX10 250 4 1 false false .int := ⟨RX4, TX4, 7, tyX4, rfl, rfl, by decide, iwX4, gw_t2 97 rfl rfl, rfl, rfl, tyX4_ok, nmX4, by decide +kernel, by decide⟩
theorem fwX10_253 : FW RX10 253 4 2 false false .int := ⟨RX4, TX4, 7, tyX4, rfl, rfl, by decide, iwX4, gw_t2 99 rfl rfl, rfl, rfl, tyX4_ok, nmX4, by decide +kernel, by decide⟩
theorem fwX10_266 : FW RX10 266 0 2 true true (.array .int) := ⟨RX0, TX0, 6, tyX0, rfl, rfl, by decide, iwX0, gw_t1 42 rfl rfl, rfl, rfl, tyX0_ok, nmX0, by decide +kernel, by decide⟩
theorem fwX10_284 : FW RX10 284 5 2 true true (.array .int) := ⟨RX5, TX5, 3, tyX5, rfl, rfl, by decide, iwX5, gw_t2 133 rfl rfl, rfl, rfl, tyX5_ok, nmX5, by decide +kernel, by decide⟩
theorem fwX10_297 : FW RX10 297 2 9 true true (.array .int) := ⟨RX2, TX2, 16, tyX2, rfl, rfl, by decide, iwX2, gw_t1 91 rfl rfl, rfl, rfl, tyX2_ok, nmX2, by decide +kernel, by decide⟩
theorem fwX10_300 : FW RX10 300 2 10 true true (.array .int) := ⟨RX2, TX2, 16, tyX2, rfl, rfl, by decide, iwX2, gw_t1 93 rfl rfl, rfl, rfl, tyX2_ok, nmX2, by decide +kernel, by decide⟩
theorem fwX10_315 : FW RX10 315 2 7 true true (.array .int) := ⟨RX2, TX2, 16, tyX2, rfl, rfl, by decide, iwX2, gw_t1 86 rfl rfl, rfl, rfl, tyX2_ok, nmX2, by decide +kernel, by decide⟩
theorem fwX10_318 : FW RX10 318 2 8 true true (.array .int) := ⟨RX2, TX2, 16, tyX2, rfl, rfl, by decide, iwX2, gw_t1 89 rfl rfl, rfl, rfl, tyX2_ok, nmX2, by decide +kernel, by decide⟩
theorem fwX10_321 : FW RX10 321 0 3 true true (.array .int) := ⟨RX0, TX0, 6, tyX0, rfl, rfl, by decide, iwX0, gw_t1 45 rfl rfl, rfl, rfl, tyX0_ok, nmX0, by decide +kernel, by decide⟩
theorem fwX10_328 : FW RX10 328 2 3 false false .int := ⟨RX2, TX2, 16, tyX2, rfl, rfl, by decide, iwX2, gw_t1 77 rfl rfl, rfl, rfl, tyX2_ok, nmX2, by decide +kernel, by decide⟩
theorem fwX10_331 : FW RX10 331 2 4 false false .int := ⟨RX2, TX2, 16, tyX2, rfl, rfl, by decide, iwX2, gw_t1 79 rfl rfl, rfl, rfl, tyX2_ok, nmX2, by decide +kernel, by decide⟩
theorem fwX10_346 : FW RX10 346 9 0 false false .int := ⟨RX9, TX9, 4, tyX9, rfl, rfl, by decide, iwX9, gw_t1 182 rfl rfl, rfl, rfl, tyX9_ok, nmX9, by decide +kernel, by decide⟩
theorem fwX10_347 : FW RX10 347 5 0 false false .int := ⟨RX5, TX5, 3, tyX5, rfl, rfl, by decide, iwX5, gw_t2 127 rfl rfl, rfl, rfl, tyX5_ok, nmX5, by decide +kernel, by decide⟩
theorem fwX10_372 : FW RX10 372 9 3 true true (.array .int) := ⟨RX9, TX9, 4, tyX9, rfl, rfl, by decide, iwX9, gw_t1 190 rfl rfl, rfl, rfl, tyX9_ok, nmX9, by decide +kernel, by decide⟩
theorem fwX10_385 : FW RX10 385 9 1 true true (.array .int) := ⟨RX9, TX9, 4, tyX9, rfl, rfl, by decide, iwX9, gw_t1 185 rfl rfl, rfl, rfl, tyX9_ok, nmX9, by decide +kernel, by decide⟩
theorem fwX0_9 : FW RX0 9 0 0 false false .int := ⟨RX0, TX0, 6, tyX0, rfl, rfl, by decide, iwX0, gw_t1 34 rfl rfl, rfl, rfl, tyX0_ok, nmX0, by decide +kernel, by decide⟩
theorem fwX0_15 : FW RX0 15 0 1 false false .int := ⟨RX0, TX0, 6, tyX0, rfl, rfl, by decide, iwX0, gw_t1 37 rfl rfl, rfl, rfl, tyX0_ok, nmX0, by decide +kernel, by decide⟩
theorem fwX0_18 : FW RX0 18 0 2 true true (.array .int) := ⟨RX0, TX0, 6, tyX0, rfl, rfl, by decide, iwX0, gw_t1 40 rfl rfl, rfl, rfl, tyX0_ok, nmX0, by decide +kernel, by decide⟩
theorem fwX0_22 : FW RX0 22 0 3 true true (.array .int) := ⟨RX0, TX0, 6, tyX0, rfl, rfl, by decide, iwX0, gw_t1 43 rfl rfl, rfl, rfl, tyX0_ok, nmX0, by decide +kernel, by decide⟩
theorem fwX0_25 : FW RX0 25 0 4 true true (.array .int) := ⟨RX0, TX0, 6, tyX0, rfl, rfl, by decide, iwX0, gw_t1 46 rfl rfl, rfl, rfl, tyX0_ok, nmX0, by decide +kernel, by decide⟩
theorem fwX0_28 : FW RX0 28 0 5 true true (.array .int) := ⟨RX0, TX0, 6, tyX0, rfl, rfl, by decide, iwX0, gw_t1 49 rfl rfl, rfl, rfl, tyX0_ok, nmX0, by decide +kernel, by decide⟩
theorem fwX1_9 : FW RX1 9 1 0 false false .int := ⟨RX1, TX1, 13, tyX1, rfl, rfl, by decide, iwX1, gw_t1 206 rfl rfl, rfl, rfl, tyX1_ok, nmX1, by decide +kernel, by decide⟩
theorem fwX1_15 : FW RX1 15 1 1 false false .int := ⟨RX1, TX1, 13, tyX1, rfl, rfl, by decide, iwX1, gw_t1 208 rfl rfl, rfl, rfl, tyX1_ok, nmX1, by decide +kernel, by decide⟩
theorem fwX1_18 : FW RX1 18 1 2 false false .int := ⟨RX1, TX1, 13, tyX1, rfl, rfl, by decide, iwX1, gw_t1 210 rfl rfl, rfl, rfl, tyX1_ok, nmX1, by decide +kernel, by decide⟩
theorem fwX1_21 : FW RX1 21 1 3 false false .int := ⟨RX1, TX1, 13, tyX1, rfl, rfl, by decide, iwX1, gw_t1 212 rfl rfl, rfl, rfl, tyX1_ok, nmX1, by decide +kernel, by decide⟩
theorem fwX1_24 : FW RX1 24 1 4 true true (.array .int) := ⟨RX1, TX1, 13, tyX1, rfl, rfl, by decide, iwX1, gw_t1 213 rfl rfl, rfl, rfl, tyX1_ok, nmX1, by decide +kernel, by decide⟩
theorem fwX1_28 : FW RX1 28 1 5 true true (.array .int) := ⟨RX1, TX1, 13, tyX1, rfl, rfl, by decide, iwX1, gw_t1 215 rfl rfl, rfl, rfl, tyX1_ok, nmX1, by decide +kernel, by decide⟩
theorem fwX1_31 : FW RX1 31 1 6 true true (.array .int) := ⟨RX1, TX1, 13, tyX1, rfl, rfl, by decide, iwX1, gw_t1 217 rfl rfl, rfl, rfl, tyX1_ok, nmX1, by decide +kernel, by decide⟩
theorem fwX1_34 : FW RX1 34 1 7 true true (.array .int) := ⟨RX1, TX1, 13, tyX1, rfl, rfl, by decide, iwX1, gw_t1 219 rfl rfl, rfl, rfl, tyX1_ok, nmX1, by decide +kernel, by decide⟩
theorem fwX1_37 : FW RX1 37 1 8 true true (.array .int) := ⟨RX1, TX1, 13, tyX1, rfl, rfl, by decide, iwX1, gw_t1 220 rfl rfl, rfl, rfl, tyX1_ok, nmX1, by decide +kernel, by decide⟩
theorem fwX1_40 : FW RX1 40 1 9 true true (.array .int) := ⟨RX1, TX1, 13, tyX1, rfl, rfl, by decide, iwX1, gw_t1 221 rfl rfl, rfl, rfl, tyX1_ok, nmX1, by decide +kernel, by decide⟩
theorem fwX1_43 : FW RX1 43 1 10 false false .int := ⟨RX1, TX1, 13, tyX1, rfl, rfl, by decide, iwX1, gw_t1 222 rfl rfl, rfl, rfl, tyX1_ok, nmX1, by decide +kernel, by decide⟩
theorem fwX1_46 : FW RX1 46 1 11 true true (.array .int) := ⟨RX1, TX1, 13, tyX1, rfl, rfl, by decide, iwX1, gw_t1 223 rfl rfl, rfl, rfl, tyX1_ok, nmX1, by decide +kernel, by decide⟩
theorem fwX1_49 : FW RX1 49 1 12 true true (.array .int) := ⟨RX1, TX1, 13, tyX1, rfl, rfl, by decide, iwX1, gw_t1 224 rfl rfl, rfl, rfl, tyX1_ok, nmX1, by decide +kernel, by decide⟩
theorem fwX1_52 : FW RX1 52 5 1 false false .int := ⟨RX5, TX5, 3, tyX5, rfl, rfl, by decide, iwX5, gw_t2 129 rfl rfl, rfl, rfl, tyX5_ok, nmX5, by decide +kernel, by decide⟩
theorem fwX1_63 : FW RX1 63 5 2 true true (.array .int) := ⟨RX5, TX5, 3, tyX5, rfl, rfl, by decide, iwX5, gw_t2 132 rfl rfl, rfl, rfl, tyX5_ok, nmX5, by decide +kernel, by decide⟩
theorem fwX1_92 : FW RX1 92 9 0 false false .int := ⟨RX9, TX9, 4, tyX9, rfl, rfl, by decide, iwX9, gw_t1 181 rfl rfl, rfl, rfl, tyX9_ok, nmX9, by decide +kernel, by decide⟩
theorem fwX1_95 : FW RX1 95 9 1 true true (.array .int) := ⟨RX9, TX9, 4, tyX9, rfl, rfl, by decide, iwX9, gw_t1 184 rfl rfl, rfl, rfl, tyX9_ok, nmX9, by decide +kernel, by decide⟩
theorem fwX1_102 : FW RX1 102 9 3 true true (.array .int) := ⟨RX9, TX9, 4, tyX9, rfl, rfl, by decide, iwX9, gw_t1 189 rfl rfl, rfl, rfl, tyX9_ok, nmX9, by decide +kernel, by decide⟩
theorem fwX1_105 : FW RX1 105 9 2 true true (.array .int) := ⟨RX9, TX9, 4, tyX9, rfl, rfl, by decide, iwX9, gw_t1 187 rfl rfl, rfl, rfl, tyX9_ok, nmX9, by decide +kernel, by decide⟩
theorem fwX2_9 : FW RX2 9 2 1 false false .int := ⟨RX2, TX2, 16, tyX2, rfl, rfl, by decide, iwX2, gw_t1 72 rfl rfl, rfl, rfl, tyX2_ok, nmX2, by decide +kernel, by decide⟩
theorem fwX2_15 : FW RX2 15 2 2 false false .int := ⟨RX2, TX2, 16, tyX2, rfl, rfl, by decide, iwX2, gw_t1 74 rfl rfl, rfl, rfl, tyX2_ok, nmX2, by decide +kernel, by decide⟩
theorem fwX2_18 : FW RX2 18 2 3 false false .int := ⟨RX2, TX2, 16, tyX2, rfl, rfl, by decide, iwX2, gw_t1 76 rfl rfl, rfl, rfl, tyX2_ok, nmX2, by decide +kernel, by decide⟩
theorem fwX2_21 : FW RX2 21 2 4 false false .int := ⟨RX2, TX2, 16, tyX2, rfl, rfl, by decide, iwX2, gw_t1 78 rfl rfl, rfl, rfl, tyX2_ok, nmX2, by decide +kernel, by decide⟩
theorem fwX2_24 : FW RX2 24 2 5 true true (.array .int) := ⟨RX2, TX2, 16, tyX2, rfl, rfl, by decide, iwX2, gw_t1 80 rfl rfl, rfl, rfl, tyX2_ok, nmX2, by decide +kernel, by decide⟩
theorem fwX2_28 : FW RX2 28 2 6 true true (.array .int) := ⟨RX2, TX2, 16, tyX2, rfl, rfl, by decide, iwX2, gw_t1 83 rfl rfl, rfl, rfl, tyX2_ok, nmX2, by decide +kernel, by decide⟩
theorem fwX2_31 : FW RX2 31 2 7 true true (.array .int) := ⟨RX2, TX2, 16, tyX2, rfl, rfl, by decide, iwX2, gw_t1 85 rfl rfl, rfl, rfl, tyX2_ok, nmX2, by decide +kernel, by decide⟩
theorem fwX2_34 : FW RX2 34 2 8 true true (.array .int) := ⟨RX2, TX2, 16, tyX2, rfl, rfl, by decide, iwX2, gw_t1 87 rfl rfl, rfl, rfl, tyX2_ok, nmX2, by decide +kernel, by decide⟩
theorem fwX2_37 : FW RX2 37 2 9 true true (.array .int) := ⟨RX2, TX2, 16, tyX2, rfl, rfl, by decide, iwX2, gw_t1 90 rfl rfl, rfl, rfl, tyX2_ok, nmX2, by decide +kernel, by decide⟩
theorem fwX2_40 : FW RX2 40 2 10 true true (.array .int) := ⟨RX2, TX2, 16, tyX2, rfl, rfl, by decide, iwX2, gw_t1 92 rfl rfl, rfl, rfl, tyX2_ok, nmX2, by decide +kernel, by decide⟩
theorem fwX2_43 : FW RX2 43 2 11 true true (.array .int) := ⟨RX2, TX2, 16, tyX2, rfl, rfl, by decide, iwX2, gw_t1 94 rfl rfl, rfl, rfl, tyX2_ok, nmX2, by decide +kernel, by decide⟩
theorem fwX2_46 : FW RX2 46 2 12 true true (.array .int) := ⟨RX2, TX2, 16, tyX2, rfl, rfl, by decide, iwX2, gw_t1 96 rfl rfl, rfl, rfl, tyX2_ok, nmX2, by decide +kernel, by decide⟩
theorem fwX2_49 : FW RX2 49 2 13 true true (.array .boolean) := ⟨RX2, TX2, 16, tyX2, rfl, rfl, by decide, iwX2, gw_t1 98 rfl rfl, rfl, rfl, tyX2_ok, nmX2, by decide +kernel, by decide⟩
theorem fwX2_53 : FW RX2 53 2 14 true true (.array .int) := ⟨RX2, TX2, 16, tyX2, rfl, rfl, by decide, iwX2, gw_t1 100 rfl rfl, rfl, rfl, tyX2_ok, nmX2, by decide +kernel, by decide⟩
theorem fwX2_56 : FW RX2 56 2 15 true true (.array .int) := ⟨RX2, TX2, 16, tyX2, rfl, rfl, by decide, iwX2, gw_t1 101 rfl rfl, rfl, rfl, tyX2_ok, nmX2, by decide +kernel, by decide⟩
theorem fwX2_59 : FW RX2 59 2 0 true true (.object "HollowShire$Built") := ⟨RX2, TX2, 16, tyX2, rfl, rfl, by decide, iwX2, gw_t1 71 rfl rfl, rfl, rfl, tyX2_ok, nmX2, by decide +kernel, by decide⟩
theorem fwX2_69 : FW RX2 69 0 0 false false .int := ⟨RX0, TX0, 6, tyX0, rfl, rfl, by decide, iwX0, gw_t1 36 rfl rfl, rfl, rfl, tyX0_ok, nmX0, by decide +kernel, by decide⟩
theorem fwX2_74 : FW RX2 74 0 2 true true (.array .int) := ⟨RX0, TX0, 6, tyX0, rfl, rfl, by decide, iwX0, gw_t1 41 rfl rfl, rfl, rfl, tyX0_ok, nmX0, by decide +kernel, by decide⟩
theorem fwX2_77 : FW RX2 77 0 4 true true (.array .int) := ⟨RX0, TX0, 6, tyX0, rfl, rfl, by decide, iwX0, gw_t1 47 rfl rfl, rfl, rfl, tyX0_ok, nmX0, by decide +kernel, by decide⟩
theorem fwX2_80 : FW RX2 80 0 1 false false .int := ⟨RX0, TX0, 6, tyX0, rfl, rfl, by decide, iwX0, gw_t1 39 rfl rfl, rfl, rfl, tyX0_ok, nmX0, by decide +kernel, by decide⟩
theorem fwX2_83 : FW RX2 83 0 5 true true (.array .int) := ⟨RX0, TX0, 6, tyX0, rfl, rfl, by decide, iwX0, gw_t1 50 rfl rfl, rfl, rfl, tyX0_ok, nmX0, by decide +kernel, by decide⟩
theorem fwX2_90 : FW RX2 90 0 3 true true (.array .int) := ⟨RX0, TX0, 6, tyX0, rfl, rfl, by decide, iwX0, gw_t1 44 rfl rfl, rfl, rfl, tyX0_ok, nmX0, by decide +kernel, by decide⟩
theorem fwX3_12 : FW RX3 12 3 0 true true (.object "HollowShire$Text") := ⟨RX3, TX3, 5, tyX3, rfl, rfl, by decide, iwX3, gw_t2 74 rfl rfl, rfl, rfl, tyX3_ok, nmX3, by decide +kernel, by decide⟩
theorem fwX3_18 : FW RX3 18 3 2 false false .int := ⟨RX3, TX3, 5, tyX3, rfl, rfl, by decide, iwX3, gw_t2 77 rfl rfl, rfl, rfl, tyX3_ok, nmX3, by decide +kernel, by decide⟩
theorem fwX3_24 : FW RX3 24 3 3 false false .int := ⟨RX3, TX3, 5, tyX3, rfl, rfl, by decide, iwX3, gw_t2 78 rfl rfl, rfl, rfl, tyX3_ok, nmX3, by decide +kernel, by decide⟩
theorem fwX3_27 : FW RX3 27 3 4 false false .int := ⟨RX3, TX3, 5, tyX3, rfl, rfl, by decide, iwX3, gw_t2 79 rfl rfl, rfl, rfl, tyX3_ok, nmX3, by decide +kernel, by decide⟩
theorem fwX3_30 : FW RX3 30 3 1 true true (.object "HollowShire$Tape") := ⟨RX3, TX3, 5, tyX3, rfl, rfl, by decide, iwX3, gw_t2 76 rfl rfl, rfl, rfl, tyX3_ok, nmX3, by decide +kernel, by decide⟩
theorem fwX3_34 : FW RX3 34 8 0 false false .int := ⟨RX8, TX8, 3, tyX8, rfl, rfl, by decide, iwX8, gw_t2 61 rfl rfl, rfl, rfl, tyX8_ok, nmX8, by decide +kernel, by decide⟩
theorem fwX3_48 : FW RX3 48 8 2 true true (.array .int) := ⟨RX8, TX8, 3, tyX8, rfl, rfl, by decide, iwX8, gw_t2 65 rfl rfl, rfl, rfl, tyX8_ok, nmX8, by decide +kernel, by decide⟩
theorem fwX4_12 : FW RX4 12 4 0 true true (.object "HollowShire$Tape") := ⟨RX4, TX4, 7, tyX4, rfl, rfl, by decide, iwX4, gw_t2 94 rfl rfl, rfl, rfl, tyX4_ok, nmX4, by decide +kernel, by decide⟩
theorem fwX4_18 : FW RX4 18 4 1 false false .int := ⟨RX4, TX4, 7, tyX4, rfl, rfl, by decide, iwX4, gw_t2 96 rfl rfl, rfl, rfl, tyX4_ok, nmX4, by decide +kernel, by decide⟩
theorem fwX4_22 : FW RX4 22 4 2 false false .int := ⟨RX4, TX4, 7, tyX4, rfl, rfl, by decide, iwX4, gw_t2 98 rfl rfl, rfl, rfl, tyX4_ok, nmX4, by decide +kernel, by decide⟩
theorem fwX4_30 : FW RX4 30 4 3 true true (.object "HollowShire$Reader") := ⟨RX4, TX4, 7, tyX4, rfl, rfl, by decide, iwX4, gw_t2 100 rfl rfl, rfl, rfl, tyX4_ok, nmX4, by decide +kernel, by decide⟩
theorem fwX4_36 : FW RX4 36 4 4 true true (.array (.object "HollowShire$Text")) := ⟨RX4, TX4, 7, tyX4, rfl, rfl, by decide, iwX4, gw_t2 101 rfl rfl, rfl, rfl, tyX4_ok, nmX4, by decide +kernel, by decide⟩
theorem fwX4_40 : FW RX4 40 4 5 true true (.array .int) := ⟨RX4, TX4, 7, tyX4, rfl, rfl, by decide, iwX4, gw_t2 102 rfl rfl, rfl, rfl, tyX4_ok, nmX4, by decide +kernel, by decide⟩
theorem fwX4_44 : FW RX4 44 4 6 true true (.array .int) := ⟨RX4, TX4, 7, tyX4, rfl, rfl, by decide, iwX4, gw_t2 103 rfl rfl, rfl, rfl, tyX4_ok, nmX4, by decide +kernel, by decide⟩
theorem fwX4_70 : FW RX4 70 7 0 false false .int := ⟨RX7, TX7, 7, tyX7, rfl, rfl, by decide, iwX7, gw_t2 25 rfl rfl, rfl, rfl, tyX7_ok, nmX7, by decide +kernel, by decide⟩
theorem fwX4_73 : FW RX4 73 3 0 true true (.object "HollowShire$Text") := ⟨RX3, TX3, 5, tyX3, rfl, rfl, by decide, iwX3, gw_t2 75 rfl rfl, rfl, rfl, tyX3_ok, nmX3, by decide +kernel, by decide⟩
theorem fwX4_87 : FW RX4 87 2 5 true true (.array .int) := ⟨RX2, TX2, 16, tyX2, rfl, rfl, by decide, iwX2, gw_t1 82 rfl rfl, rfl, rfl, tyX2_ok, nmX2, by decide +kernel, by decide⟩
theorem fwX4_103 : FW RX4 103 2 8 true true (.array .int) := ⟨RX2, TX2, 16, tyX2, rfl, rfl, by decide, iwX2, gw_t1 88 rfl rfl, rfl, rfl, tyX2_ok, nmX2, by decide +kernel, by decide⟩
theorem fwX4_106 : FW RX4 106 8 2 true true (.array .int) := ⟨RX8, TX8, 3, tyX8, rfl, rfl, by decide, iwX8, gw_t2 66 rfl rfl, rfl, rfl, tyX8_ok, nmX8, by decide +kernel, by decide⟩
theorem fwX4_109 : FW RX4 109 8 1 true true (.array .int) := ⟨RX8, TX8, 3, tyX8, rfl, rfl, by decide, iwX8, gw_t2 63 rfl rfl, rfl, rfl, tyX8_ok, nmX8, by decide +kernel, by decide⟩
theorem fwX5_11 : FW RX5 11 5 0 false false .int := ⟨RX5, TX5, 3, tyX5, rfl, rfl, by decide, iwX5, gw_t2 126 rfl rfl, rfl, rfl, tyX5_ok, nmX5, by decide +kernel, by decide⟩
theorem fwX5_15 : FW RX5 15 5 1 false false .int := ⟨RX5, TX5, 3, tyX5, rfl, rfl, by decide, iwX5, gw_t2 128 rfl rfl, rfl, rfl, tyX5_ok, nmX5, by decide +kernel, by decide⟩
theorem fwX5_18 : FW RX5 18 5 2 true true (.array .int) := ⟨RX5, TX5, 3, tyX5, rfl, rfl, by decide, iwX5, gw_t2 131 rfl rfl, rfl, rfl, tyX5_ok, nmX5, by decide +kernel, by decide⟩
theorem fwX6_9 : FW RX6 9 6 0 false false .int := ⟨RX6, TX6, 7, tyX6, rfl, rfl, by decide, iwX6, gw_t1 142 rfl rfl, rfl, rfl, tyX6_ok, nmX6, by decide +kernel, by decide⟩
theorem fwX6_15 : FW RX6 15 6 1 true true (.array .int) := ⟨RX6, TX6, 7, tyX6, rfl, rfl, by decide, iwX6, gw_t1 144 rfl rfl, rfl, rfl, tyX6_ok, nmX6, by decide +kernel, by decide⟩
theorem fwX6_19 : FW RX6 19 6 2 true true (.array .int) := ⟨RX6, TX6, 7, tyX6, rfl, rfl, by decide, iwX6, gw_t1 146 rfl rfl, rfl, rfl, tyX6_ok, nmX6, by decide +kernel, by decide⟩
theorem fwX6_22 : FW RX6 22 6 3 true true (.array .int) := ⟨RX6, TX6, 7, tyX6, rfl, rfl, by decide, iwX6, gw_t1 148 rfl rfl, rfl, rfl, tyX6_ok, nmX6, by decide +kernel, by decide⟩
theorem fwX6_25 : FW RX6 25 6 4 true true (.array .int) := ⟨RX6, TX6, 7, tyX6, rfl, rfl, by decide, iwX6, gw_t1 150 rfl rfl, rfl, rfl, tyX6_ok, nmX6, by decide +kernel, by decide⟩
theorem fwX6_28 : FW RX6 28 6 5 true true (.array .int) := ⟨RX6, TX6, 7, tyX6, rfl, rfl, by decide, iwX6, gw_t1 152 rfl rfl, rfl, rfl, tyX6_ok, nmX6, by decide +kernel, by decide⟩
theorem fwX6_31 : FW RX6 31 6 6 true true (.array .int) := ⟨RX6, TX6, 7, tyX6, rfl, rfl, by decide, iwX6, gw_t1 154 rfl rfl, rfl, rfl, tyX6_ok, nmX6, by decide +kernel, by decide⟩
theorem fwX7_9 : FW RX7 9 7 0 false false .int := ⟨RX7, TX7, 7, tyX7, rfl, rfl, by decide, iwX7, gw_t2 24 rfl rfl, rfl, rfl, tyX7_ok, nmX7, by decide +kernel, by decide⟩
theorem fwX7_15 : FW RX7 15 7 1 false false .int := ⟨RX7, TX7, 7, tyX7, rfl, rfl, by decide, iwX7, gw_t2 27 rfl rfl, rfl, rfl, tyX7_ok, nmX7, by decide +kernel, by decide⟩
theorem fwX7_18 : FW RX7 18 7 2 true true (.array .int) := ⟨RX7, TX7, 7, tyX7, rfl, rfl, by decide, iwX7, gw_t2 28 rfl rfl, rfl, rfl, tyX7_ok, nmX7, by decide +kernel, by decide⟩
theorem fwX7_22 : FW RX7 22 7 3 true true (.array .int) := ⟨RX7, TX7, 7, tyX7, rfl, rfl, by decide, iwX7, gw_t2 29 rfl rfl, rfl, rfl, tyX7_ok, nmX7, by decide +kernel, by decide⟩
theorem fwX7_25 : FW RX7 25 7 4 true true (.array .int) := ⟨RX7, TX7, 7, tyX7, rfl, rfl, by decide, iwX7, gw_t2 30 rfl rfl, rfl, rfl, tyX7_ok, nmX7, by decide +kernel, by decide⟩
theorem fwX7_28 : FW RX7 28 7 5 true true (.array .int) := ⟨RX7, TX7, 7, tyX7, rfl, rfl, by decide, iwX7, gw_t2 31 rfl rfl, rfl, rfl, tyX7_ok, nmX7, by decide +kernel, by decide⟩
theorem fwX7_31 : FW RX7 31 7 6 true true (.array .int) := ⟨RX7, TX7, 7, tyX7, rfl, rfl, by decide, iwX7, gw_t2 32 rfl rfl, rfl, rfl, tyX7_ok, nmX7, by decide +kernel, by decide⟩
theorem fwX8_9 : FW RX8 9 8 0 false false .int := ⟨RX8, TX8, 3, tyX8, rfl, rfl, by decide, iwX8, gw_t2 60 rfl rfl, rfl, rfl, tyX8_ok, nmX8, by decide +kernel, by decide⟩
theorem fwX8_15 : FW RX8 15 8 1 true true (.array .int) := ⟨RX8, TX8, 3, tyX8, rfl, rfl, by decide, iwX8, gw_t2 62 rfl rfl, rfl, rfl, tyX8_ok, nmX8, by decide +kernel, by decide⟩
theorem fwX8_19 : FW RX8 19 8 2 true true (.array .int) := ⟨RX8, TX8, 3, tyX8, rfl, rfl, by decide, iwX8, gw_t2 64 rfl rfl, rfl, rfl, tyX8_ok, nmX8, by decide +kernel, by decide⟩
theorem fwX9_9 : FW RX9 9 9 0 false false .int := ⟨RX9, TX9, 4, tyX9, rfl, rfl, by decide, iwX9, gw_t1 180 rfl rfl, rfl, rfl, tyX9_ok, nmX9, by decide +kernel, by decide⟩
theorem fwX9_21 : FW RX9 21 9 1 true true (.array .int) := ⟨RX9, TX9, 4, tyX9, rfl, rfl, by decide, iwX9, gw_t1 183 rfl rfl, rfl, rfl, tyX9_ok, nmX9, by decide +kernel, by decide⟩
theorem fwX9_25 : FW RX9 25 9 2 true true (.array .int) := ⟨RX9, TX9, 4, tyX9, rfl, rfl, by decide, iwX9, gw_t1 186 rfl rfl, rfl, rfl, tyX9_ok, nmX9, by decide +kernel, by decide⟩
theorem fwX9_28 : FW RX9 28 9 3 true true (.array .int) := ⟨RX9, TX9, 4, tyX9, rfl, rfl, by decide, iwX9, gw_t1 188 rfl rfl, rfl, rfl, tyX9_ok, nmX9, by decide +kernel, by decide⟩
theorem fwX11_13 : FW RX11 13 11 0 false false .int := ⟨RX11, TX11, 77, tyX11, rfl, rfl, by decide, iwX11, gw_t5 86 rfl rfl, rfl, rfl, tyX11_ok, nmX11, by decide +kernel, by decide⟩
theorem fwX11_17 : FW RX11 17 11 1 false false .int := ⟨RX11, TX11, 77, tyX11, rfl, rfl, by decide, iwX11, gw_t5 87 rfl rfl, rfl, rfl, tyX11_ok, nmX11, by decide +kernel, by decide⟩
theorem fwX11_20 : FW RX11 20 11 2 false false .int := ⟨RX11, TX11, 77, tyX11, rfl, rfl, by decide, iwX11, gw_t5 88 rfl rfl, rfl, rfl, tyX11_ok, nmX11, by decide +kernel, by decide⟩
theorem fwX11_23 : FW RX11 23 11 3 false false .int := ⟨RX11, TX11, 77, tyX11, rfl, rfl, by decide, iwX11, gw_t5 89 rfl rfl, rfl, rfl, tyX11_ok, nmX11, by decide +kernel, by decide⟩
theorem fwX11_26 : FW RX11 26 11 4 false false .int := ⟨RX11, TX11, 77, tyX11, rfl, rfl, by decide, iwX11, gw_t5 90 rfl rfl, rfl, rfl, tyX11_ok, nmX11, by decide +kernel, by decide⟩
theorem fwX11_29 : FW RX11 29 11 5 true true (.array .int) := ⟨RX11, TX11, 77, tyX11, rfl, rfl, by decide, iwX11, gw_t5 91 rfl rfl, rfl, rfl, tyX11_ok, nmX11, by decide +kernel, by decide⟩
theorem fwX11_33 : FW RX11 33 11 6 true true (.array .int) := ⟨RX11, TX11, 77, tyX11, rfl, rfl, by decide, iwX11, gw_t5 92 rfl rfl, rfl, rfl, tyX11_ok, nmX11, by decide +kernel, by decide⟩
theorem fwX11_36 : FW RX11 36 11 7 true true (.array .int) := ⟨RX11, TX11, 77, tyX11, rfl, rfl, by decide, iwX11, gw_t5 93 rfl rfl, rfl, rfl, tyX11_ok, nmX11, by decide +kernel, by decide⟩
theorem fwX11_39 : FW RX11 39 11 8 true true (.array .int) := ⟨RX11, TX11, 77, tyX11, rfl, rfl, by decide, iwX11, gw_t5 94 rfl rfl, rfl, rfl, tyX11_ok, nmX11, by decide +kernel, by decide⟩
theorem fwX11_42 : FW RX11 42 11 9 true true (.array .int) := ⟨RX11, TX11, 77, tyX11, rfl, rfl, by decide, iwX11, gw_t5 95 rfl rfl, rfl, rfl, tyX11_ok, nmX11, by decide +kernel, by decide⟩
theorem fwX11_45 : FW RX11 45 11 10 true true (.array .int) := ⟨RX11, TX11, 77, tyX11, rfl, rfl, by decide, iwX11, gw_t5 96 rfl rfl, rfl, rfl, tyX11_ok, nmX11, by decide +kernel, by decide⟩
theorem fwX11_48 : FW RX11 48 11 11 true true (.array .int) := ⟨RX11, TX11, 77, tyX11, rfl, rfl, by decide, iwX11, gw_t5 97 rfl rfl, rfl, rfl, tyX11_ok, nmX11, by decide +kernel, by decide⟩
theorem fwX11_51 : FW RX11 51 11 12 true true (.array .int) := ⟨RX11, TX11, 77, tyX11, rfl, rfl, by decide, iwX11, gw_t5 98 rfl rfl, rfl, rfl, tyX11_ok, nmX11, by decide +kernel, by decide⟩
theorem fwX11_54 : FW RX11 54 11 13 true true (.array .int) := ⟨RX11, TX11, 77, tyX11, rfl, rfl, by decide, iwX11, gw_t5 99 rfl rfl, rfl, rfl, tyX11_ok, nmX11, by decide +kernel, by decide⟩
theorem fwX11_57 : FW RX11 57 11 14 true true (.array .int) := ⟨RX11, TX11, 77, tyX11, rfl, rfl, by decide, iwX11, gw_t5 100 rfl rfl, rfl, rfl, tyX11_ok, nmX11, by decide +kernel, by decide⟩
theorem fwX11_60 : FW RX11 60 11 15 true true (.array .int) := ⟨RX11, TX11, 77, tyX11, rfl, rfl, by decide, iwX11, gw_t5 101 rfl rfl, rfl, rfl, tyX11_ok, nmX11, by decide +kernel, by decide⟩
theorem fwX11_63 : FW RX11 63 11 16 true true (.array .int) := ⟨RX11, TX11, 77, tyX11, rfl, rfl, by decide, iwX11, gw_t5 102 rfl rfl, rfl, rfl, tyX11_ok, nmX11, by decide +kernel, by decide⟩
theorem fwX11_66 : FW RX11 66 11 17 true true (.array .int) := ⟨RX11, TX11, 77, tyX11, rfl, rfl, by decide, iwX11, gw_t5 103 rfl rfl, rfl, rfl, tyX11_ok, nmX11, by decide +kernel, by decide⟩
theorem fwX11_69 : FW RX11 69 11 18 true true (.array .int) := ⟨RX11, TX11, 77, tyX11, rfl, rfl, by decide, iwX11, gw_t5 104 rfl rfl, rfl, rfl, tyX11_ok, nmX11, by decide +kernel, by decide⟩
theorem fwX11_72 : FW RX11 72 11 19 true true (.array .int) := ⟨RX11, TX11, 77, tyX11, rfl, rfl, by decide, iwX11, gw_t5 105 rfl rfl, rfl, rfl, tyX11_ok, nmX11, by decide +kernel, by decide⟩
theorem fwX11_75 : FW RX11 75 11 20 true true (.array .boolean) := ⟨RX11, TX11, 77, tyX11, rfl, rfl, by decide, iwX11, gw_t5 106 rfl rfl, rfl, rfl, tyX11_ok, nmX11, by decide +kernel, by decide⟩
theorem fwX11_79 : FW RX11 79 11 21 false false .int := ⟨RX11, TX11, 77, tyX11, rfl, rfl, by decide, iwX11, gw_t5 107 rfl rfl, rfl, rfl, tyX11_ok, nmX11, by decide +kernel, by decide⟩
theorem fwX11_82 : FW RX11 82 11 22 true true (.array .int) := ⟨RX11, TX11, 77, tyX11, rfl, rfl, by decide, iwX11, gw_t5 108 rfl rfl, rfl, rfl, tyX11_ok, nmX11, by decide +kernel, by decide⟩
theorem fwX11_85 : FW RX11 85 11 23 true true (.array .int) := ⟨RX11, TX11, 77, tyX11, rfl, rfl, by decide, iwX11, gw_t5 109 rfl rfl, rfl, rfl, tyX11_ok, nmX11, by decide +kernel, by decide⟩
theorem fwX11_88 : FW RX11 88 11 24 true true (.array .int) := ⟨RX11, TX11, 77, tyX11, rfl, rfl, by decide, iwX11, gw_t5 110 rfl rfl, rfl, rfl, tyX11_ok, nmX11, by decide +kernel, by decide⟩
theorem fwX11_91 : FW RX11 91 11 25 true true (.array .int) := ⟨RX11, TX11, 77, tyX11, rfl, rfl, by decide, iwX11, gw_t5 111 rfl rfl, rfl, rfl, tyX11_ok, nmX11, by decide +kernel, by decide⟩
theorem fwX11_94 : FW RX11 94 11 26 true true (.array .int) := ⟨RX11, TX11, 77, tyX11, rfl, rfl, by decide, iwX11, gw_t5 112 rfl rfl, rfl, rfl, tyX11_ok, nmX11, by decide +kernel, by decide⟩
theorem fwX11_97 : FW RX11 97 11 27 true true (.array .int) := ⟨RX11, TX11, 77, tyX11, rfl, rfl, by decide, iwX11, gw_t5 113 rfl rfl, rfl, rfl, tyX11_ok, nmX11, by decide +kernel, by decide⟩
theorem fwX11_100 : FW RX11 100 11 28 false false .int := ⟨RX11, TX11, 77, tyX11, rfl, rfl, by decide, iwX11, gw_t5 114 rfl rfl, rfl, rfl, tyX11_ok, nmX11, by decide +kernel, by decide⟩
theorem fwX11_103 : FW RX11 103 11 29 false false .int := ⟨RX11, TX11, 77, tyX11, rfl, rfl, by decide, iwX11, gw_t5 115 rfl rfl, rfl, rfl, tyX11_ok, nmX11, by decide +kernel, by decide⟩
theorem fwX11_106 : FW RX11 106 11 30 false false .int := ⟨RX11, TX11, 77, tyX11, rfl, rfl, by decide, iwX11, gw_t5 116 rfl rfl, rfl, rfl, tyX11_ok, nmX11, by decide +kernel, by decide⟩
theorem fwX11_109 : FW RX11 109 11 31 true true (.array .int) := ⟨RX11, TX11, 77, tyX11, rfl, rfl, by decide, iwX11, gw_t5 117 rfl rfl, rfl, rfl, tyX11_ok, nmX11, by decide +kernel, by decide⟩
theorem fwX11_112 : FW RX11 112 11 32 true true (.array .int) := ⟨RX11, TX11, 77, tyX11, rfl, rfl, by decide, iwX11, gw_t5 118 rfl rfl, rfl, rfl, tyX11_ok, nmX11, by decide +kernel, by decide⟩
theorem fwX11_115 : FW RX11 115 11 33 true true (.array .int) := ⟨RX11, TX11, 77, tyX11, rfl, rfl, by decide, iwX11, gw_t5 119 rfl rfl, rfl, rfl, tyX11_ok, nmX11, by decide +kernel, by decide⟩
theorem fwX11_118 : FW RX11 118 11 34 false false .int := ⟨RX11, TX11, 77, tyX11, rfl, rfl, by decide, iwX11, gw_t5 120 rfl rfl, rfl, rfl, tyX11_ok, nmX11, by decide +kernel, by decide⟩
theorem fwX11_121 : FW RX11 121 11 35 false false .int := ⟨RX11, TX11, 77, tyX11, rfl, rfl, by decide, iwX11, gw_t5 121 rfl rfl, rfl, rfl, tyX11_ok, nmX11, by decide +kernel, by decide⟩
theorem fwX11_124 : FW RX11 124 11 36 false false .boolean := ⟨RX11, TX11, 77, tyX11, rfl, rfl, by decide, iwX11, gw_t5 122 rfl rfl, rfl, rfl, tyX11_ok, nmX11, by decide +kernel, by decide⟩
theorem fwX11_128 : FW RX11 128 11 37 true true (.array .int) := ⟨RX11, TX11, 77, tyX11, rfl, rfl, by decide, iwX11, gw_t5 123 rfl rfl, rfl, rfl, tyX11_ok, nmX11, by decide +kernel, by decide⟩
theorem fwX11_131 : FW RX11 131 11 38 true true (.array .int) := ⟨RX11, TX11, 77, tyX11, rfl, rfl, by decide, iwX11, gw_t5 124 rfl rfl, rfl, rfl, tyX11_ok, nmX11, by decide +kernel, by decide⟩
theorem fwX11_134 : FW RX11 134 11 39 true true (.array .int) := ⟨RX11, TX11, 77, tyX11, rfl, rfl, by decide, iwX11, gw_t5 125 rfl rfl, rfl, rfl, tyX11_ok, nmX11, by decide +kernel, by decide⟩
theorem fwX11_137 : FW RX11 137 11 40 true true (.array .int) := ⟨RX11, TX11, 77, tyX11, rfl, rfl, by decide, iwX11, gw_t5 126 rfl rfl, rfl, rfl, tyX11_ok, nmX11, by decide +kernel, by decide⟩
theorem fwX11_140 : FW RX11 140 11 41 true true (.array .int) := ⟨RX11, TX11, 77, tyX11, rfl, rfl, by decide, iwX11, gw_t5 127 rfl rfl, rfl, rfl, tyX11_ok, nmX11, by decide +kernel, by decide⟩
theorem fwX11_143 : FW RX11 143 11 42 true true (.array .int) := ⟨RX11, TX11, 77, tyX11, rfl, rfl, by decide, iwX11, gw_t5 128 rfl rfl, rfl, rfl, tyX11_ok, nmX11, by decide +kernel, by decide⟩
theorem fwX11_146 : FW RX11 146 11 43 true true (.array .int) := ⟨RX11, TX11, 77, tyX11, rfl, rfl, by decide, iwX11, gw_t5 129 rfl rfl, rfl, rfl, tyX11_ok, nmX11, by decide +kernel, by decide⟩
theorem fwX11_149 : FW RX11 149 11 44 true true (.array .int) := ⟨RX11, TX11, 77, tyX11, rfl, rfl, by decide, iwX11, gw_t5 130 rfl rfl, rfl, rfl, tyX11_ok, nmX11, by decide +kernel, by decide⟩
theorem fwX11_152 : FW RX11 152 11 45 false false .int := ⟨RX11, TX11, 77, tyX11, rfl, rfl, by decide, iwX11, gw_t5 131 rfl rfl, rfl, rfl, tyX11_ok, nmX11, by decide +kernel, by decide⟩
theorem fwX11_155 : FW RX11 155 11 46 false false .int := ⟨RX11, TX11, 77, tyX11, rfl, rfl, by decide, iwX11, gw_t5 132 rfl rfl, rfl, rfl, tyX11_ok, nmX11, by decide +kernel, by decide⟩
theorem fwX11_158 : FW RX11 158 11 47 false false .int := ⟨RX11, TX11, 77, tyX11, rfl, rfl, by decide, iwX11, gw_t5 133 rfl rfl, rfl, rfl, tyX11_ok, nmX11, by decide +kernel, by decide⟩
theorem fwX11_161 : FW RX11 161 11 48 true true (.array .int) := ⟨RX11, TX11, 77, tyX11, rfl, rfl, by decide, iwX11, gw_t5 134 rfl rfl, rfl, rfl, tyX11_ok, nmX11, by decide +kernel, by decide⟩
theorem fwX11_164 : FW RX11 164 11 49 true true (.array .int) := ⟨RX11, TX11, 77, tyX11, rfl, rfl, by decide, iwX11, gw_t5 135 rfl rfl, rfl, rfl, tyX11_ok, nmX11, by decide +kernel, by decide⟩
theorem fwX11_167 : FW RX11 167 11 50 false false .int := ⟨RX11, TX11, 77, tyX11, rfl, rfl, by decide, iwX11, gw_t5 136 rfl rfl, rfl, rfl, tyX11_ok, nmX11, by decide +kernel, by decide⟩
theorem fwX11_170 : FW RX11 170 11 51 false false .int := ⟨RX11, TX11, 77, tyX11, rfl, rfl, by decide, iwX11, gw_t5 137 rfl rfl, rfl, rfl, tyX11_ok, nmX11, by decide +kernel, by decide⟩
theorem fwX11_173 : FW RX11 173 11 52 false false .int := ⟨RX11, TX11, 77, tyX11, rfl, rfl, by decide, iwX11, gw_t5 138 rfl rfl, rfl, rfl, tyX11_ok, nmX11, by decide +kernel, by decide⟩
theorem fwX11_176 : FW RX11 176 11 53 false false .int := ⟨RX11, TX11, 77, tyX11, rfl, rfl, by decide, iwX11, gw_t5 139 rfl rfl, rfl, rfl, tyX11_ok, nmX11, by decide +kernel, by decide⟩
theorem fwX11_179 : FW RX11 179 11 54 false false .int := ⟨RX11, TX11, 77, tyX11, rfl, rfl, by decide, iwX11, gw_t5 140 rfl rfl, rfl, rfl, tyX11_ok, nmX11, by decide +kernel, by decide⟩
theorem fwX11_182 : FW RX11 182 11 55 false false .int := ⟨RX11, TX11, 77, tyX11, rfl, rfl, by decide, iwX11, gw_t5 141 rfl rfl, rfl, rfl, tyX11_ok, nmX11, by decide +kernel, by decide⟩
theorem fwX11_185 : FW RX11 185 11 56 true true (.array .int) := ⟨RX11, TX11, 77, tyX11, rfl, rfl, by decide, iwX11, gw_t5 142 rfl rfl, rfl, rfl, tyX11_ok, nmX11, by decide +kernel, by decide⟩
theorem fwX11_188 : FW RX11 188 11 57 true true (.array .int) := ⟨RX11, TX11, 77, tyX11, rfl, rfl, by decide, iwX11, gw_t5 143 rfl rfl, rfl, rfl, tyX11_ok, nmX11, by decide +kernel, by decide⟩
theorem fwX11_191 : FW RX11 191 11 58 true true (.array .int) := ⟨RX11, TX11, 77, tyX11, rfl, rfl, by decide, iwX11, gw_t5 144 rfl rfl, rfl, rfl, tyX11_ok, nmX11, by decide +kernel, by decide⟩
theorem fwX11_194 : FW RX11 194 11 59 false false .int := ⟨RX11, TX11, 77, tyX11, rfl, rfl, by decide, iwX11, gw_t5 145 rfl rfl, rfl, rfl, tyX11_ok, nmX11, by decide +kernel, by decide⟩
theorem fwX11_197 : FW RX11 197 11 60 false false .int := ⟨RX11, TX11, 77, tyX11, rfl, rfl, by decide, iwX11, gw_t5 146 rfl rfl, rfl, rfl, tyX11_ok, nmX11, by decide +kernel, by decide⟩
theorem fwX11_200 : FW RX11 200 11 61 false false .int := ⟨RX11, TX11, 77, tyX11, rfl, rfl, by decide, iwX11, gw_t5 147 rfl rfl, rfl, rfl, tyX11_ok, nmX11, by decide +kernel, by decide⟩
theorem fwX11_203 : FW RX11 203 11 62 true true (.array .int) := ⟨RX11, TX11, 77, tyX11, rfl, rfl, by decide, iwX11, gw_t5 148 rfl rfl, rfl, rfl, tyX11_ok, nmX11, by decide +kernel, by decide⟩
theorem fwX11_206 : FW RX11 206 11 63 false false .int := ⟨RX11, TX11, 77, tyX11, rfl, rfl, by decide, iwX11, gw_t5 149 rfl rfl, rfl, rfl, tyX11_ok, nmX11, by decide +kernel, by decide⟩
theorem fwX11_209 : FW RX11 209 11 64 true true (.array .int) := ⟨RX11, TX11, 77, tyX11, rfl, rfl, by decide, iwX11, gw_t5 150 rfl rfl, rfl, rfl, tyX11_ok, nmX11, by decide +kernel, by decide⟩
theorem fwX11_212 : FW RX11 212 11 65 false false .int := ⟨RX11, TX11, 77, tyX11, rfl, rfl, by decide, iwX11, gw_t5 151 rfl rfl, rfl, rfl, tyX11_ok, nmX11, by decide +kernel, by decide⟩
theorem fwX11_215 : FW RX11 215 11 66 true true (.array .int) := ⟨RX11, TX11, 77, tyX11, rfl, rfl, by decide, iwX11, gw_t5 152 rfl rfl, rfl, rfl, tyX11_ok, nmX11, by decide +kernel, by decide⟩
theorem fwX11_218 : FW RX11 218 11 67 true true (.array .int) := ⟨RX11, TX11, 77, tyX11, rfl, rfl, by decide, iwX11, gw_t5 153 rfl rfl, rfl, rfl, tyX11_ok, nmX11, by decide +kernel, by decide⟩
theorem fwX11_221 : FW RX11 221 11 68 true true (.array .int) := ⟨RX11, TX11, 77, tyX11, rfl, rfl, by decide, iwX11, gw_t5 154 rfl rfl, rfl, rfl, tyX11_ok, nmX11, by decide +kernel, by decide⟩
theorem fwX11_224 : FW RX11 224 11 69 false false .int := ⟨RX11, TX11, 77, tyX11, rfl, rfl, by decide, iwX11, gw_t5 155 rfl rfl, rfl, rfl, tyX11_ok, nmX11, by decide +kernel, by decide⟩
theorem fwX11_227 : FW RX11 227 11 70 false false .int := ⟨RX11, TX11, 77, tyX11, rfl, rfl, by decide, iwX11, gw_t5 156 rfl rfl, rfl, rfl, tyX11_ok, nmX11, by decide +kernel, by decide⟩
theorem fwX11_230 : FW RX11 230 11 71 false false .boolean := ⟨RX11, TX11, 77, tyX11, rfl, rfl, by decide, iwX11, gw_t5 157 rfl rfl, rfl, rfl, tyX11_ok, nmX11, by decide +kernel, by decide⟩
theorem fwX11_233 : FW RX11 233 11 72 false false .int := ⟨RX11, TX11, 77, tyX11, rfl, rfl, by decide, iwX11, gw_t5 158 rfl rfl, rfl, rfl, tyX11_ok, nmX11, by decide +kernel, by decide⟩
theorem fwX11_236 : FW RX11 236 11 73 true true (.array .int) := ⟨RX11, TX11, 77, tyX11, rfl, rfl, by decide, iwX11, gw_t5 159 rfl rfl, rfl, rfl, tyX11_ok, nmX11, by decide +kernel, by decide⟩
theorem fwX11_239 : FW RX11 239 11 74 true true (.array .int) := ⟨RX11, TX11, 77, tyX11, rfl, rfl, by decide, iwX11, gw_t5 160 rfl rfl, rfl, rfl, tyX11_ok, nmX11, by decide +kernel, by decide⟩
theorem fwX11_242 : FW RX11 242 11 75 true true (.array .int) := ⟨RX11, TX11, 77, tyX11, rfl, rfl, by decide, iwX11, gw_t5 161 rfl rfl, rfl, rfl, tyX11_ok, nmX11, by decide +kernel, by decide⟩
theorem fwX11_245 : FW RX11 245 11 76 true true (.array .int) := ⟨RX11, TX11, 77, tyX11, rfl, rfl, by decide, iwX11, gw_t5 162 rfl rfl, rfl, rfl, tyX11_ok, nmX11, by decide +kernel, by decide⟩
def mX0_init : Mi := (yX0_init, cX0_init, 1, none)
theorem mvX0_init : MV mX0_init 0 := ⟨gw_t1 32 rfl rfl, gw_t1 2 rfl rfl, ⟨by decide, by decide⟩, by decide +kernel, by decide⟩
def mX0_addHouse : Mi := (yX0_addHouse, cX0_addHouse, 4, (some .int))
theorem mvX0_addHouse : MV mX0_addHouse 3 := ⟨gw_t3 142 rfl rfl, gw_t1 2 rfl rfl, ⟨by decide, by decide⟩, by decide +kernel, by decide⟩
theorem miX0_addHouse : MVi mX0_addHouse := ⟨gw_t3 140 rfl rfl, gw_t3 141 rfl rfl⟩
def mX0_addPump : Mi := (yX0_addPump, cX0_addPump, 2, (some .int))
theorem mvX0_addPump : MV mX0_addPump 1 := ⟨gw_t3 150 rfl rfl, gw_t1 2 rfl rfl, ⟨by decide, by decide⟩, by decide +kernel, by decide⟩
theorem miX0_addPump : MVi mX0_addPump := ⟨gw_t3 148 rfl rfl, gw_t3 149 rfl rfl⟩
def mX1_init : Mi := (yX1_init, cX1_init, 1, none)
theorem mvX1_init : MV mX1_init 0 := ⟨gw_t1 204 rfl rfl, gw_t1 7 rfl rfl, ⟨by decide, by decide⟩, by decide +kernel, by decide⟩
def mX1_search : Mi := (yX1_search, cX1_search, 7, none)
theorem mvX1_search : MV mX1_search 4 := ⟨gw_t4 71 rfl rfl, gw_t1 7 rfl rfl, ⟨by decide, by decide⟩, by decide +kernel, by decide⟩
theorem miX1_search : MVi mX1_search := ⟨gw_t4 69 rfl rfl, gw_t4 70 rfl rfl⟩
def mX1_gatherNeeds : Mi := (yX1_gatherNeeds, cX1_gatherNeeds, 7, none)
theorem mvX1_gatherNeeds : MV mX1_gatherNeeds 3 := ⟨gw_t4 78 rfl rfl, gw_t1 7 rfl rfl, ⟨by decide, by decide⟩, by decide +kernel, by decide⟩
theorem miX1_gatherNeeds : MVi mX1_gatherNeeds := ⟨gw_t4 77 rfl rfl, gw_p2 9 rfl rfl⟩
def mX1_takeSizes : Mi := (yX1_takeSizes, cX1_takeSizes, 4, (some .boolean))
theorem mvX1_takeSizes : MV mX1_takeSizes 1 := ⟨gw_t4 88 rfl rfl, gw_t1 7 rfl rfl, ⟨by decide, by decide⟩, by decide +kernel, by decide⟩
theorem miX1_takeSizes : MVi mX1_takeSizes := ⟨gw_t4 87 rfl rfl, gw_p2 10 rfl rfl⟩
def mX1_meetsNeeds : Mi := (yX1_meetsNeeds, cX1_meetsNeeds, 4, (some .boolean))
theorem mvX1_meetsNeeds : MV mX1_meetsNeeds 0 := ⟨gw_t4 92 rfl rfl, gw_t1 7 rfl rfl, ⟨by decide, by decide⟩, by decide +kernel, by decide⟩
theorem miX1_meetsNeeds : MVi mX1_meetsNeeds := ⟨gw_t4 91 rfl rfl, gw_p2 11 rfl rfl⟩
def mX1_weighUp : Mi := (yX1_weighUp, cX1_weighUp, 4, none)
theorem mvX1_weighUp : MV mX1_weighUp 0 := ⟨gw_t4 96 rfl rfl, gw_t1 7 rfl rfl, ⟨by decide, by decide⟩, by decide +kernel, by decide⟩
theorem miX1_weighUp : MVi mX1_weighUp := ⟨gw_t4 95 rfl rfl, gw_p2 12 rfl rfl⟩
def mX2_init : Mi := (yX2_init, cX2_init, 3, none)
theorem mvX2_init : MV mX2_init 1 := ⟨gw_t1 69 rfl rfl, gw_t1 3 rfl rfl, ⟨by decide, by decide⟩, by decide +kernel, by decide⟩
def mX2_become : Mi := (yX2_become, cX2_become, 2, none)
theorem mvX2_become : MV mX2_become 1 := ⟨gw_t4 239 rfl rfl, gw_t1 3 rfl rfl, ⟨by decide, by decide⟩, by decide +kernel, by decide⟩
theorem miX2_become : MVi mX2_become := ⟨gw_t4 237 rfl rfl, gw_t4 238 rfl rfl⟩
def mX2_hasFallen : Mi := (yX2_hasFallen, cX2_hasFallen, 2, (some .boolean))
theorem mvX2_hasFallen : MV mX2_hasFallen 1 := ⟨gw_t3 133 rfl rfl, gw_t1 3 rfl rfl, ⟨by decide, by decide⟩, by decide +kernel, by decide⟩
theorem miX2_hasFallen : MVi mX2_hasFallen := ⟨gw_t3 131 rfl rfl, gw_t3 132 rfl rfl⟩
def mX2_peopleAt : Mi := (yX2_peopleAt, cX2_peopleAt, 4, (some .int))
theorem mvX2_peopleAt : MV mX2_peopleAt 1 := ⟨gw_t4 137 rfl rfl, gw_t1 3 rfl rfl, ⟨by decide, by decide⟩, by decide +kernel, by decide⟩
theorem miX2_peopleAt : MVi mX2_peopleAt := ⟨gw_t4 135 rfl rfl, gw_t4 136 rfl rfl⟩
def mX2_pumpsNear : Mi := (yX2_pumpsNear, cX2_pumpsNear, 4, (some .int))
theorem mvX2_pumpsNear : MV mX2_pumpsNear 1 := ⟨gw_t4 141 rfl rfl, gw_t1 3 rfl rfl, ⟨by decide, by decide⟩, by decide +kernel, by decide⟩
theorem miX2_pumpsNear : MVi mX2_pumpsNear := ⟨gw_t4 139 rfl rfl, gw_t4 140 rfl rfl⟩
def mX2_harmOf : Mi := (yX2_harmOf, cX2_harmOf, 2, (some .int))
theorem mvX2_harmOf : MV mX2_harmOf 1 := ⟨gw_t3 221 rfl rfl, gw_t1 3 rfl rfl, ⟨by decide, by decide⟩, by decide +kernel, by decide⟩
theorem miX2_harmOf : MVi mX2_harmOf := ⟨gw_t3 219 rfl rfl, gw_t3 220 rfl rfl⟩
def mX2_passMonths : Mi := (yX2_passMonths, cX2_passMonths, 3, none)
theorem mvX2_passMonths : MV mX2_passMonths 1 := ⟨gw_t3 178 rfl rfl, gw_t1 3 rfl rfl, ⟨by decide, by decide⟩, by decide +kernel, by decide⟩
theorem miX2_passMonths : MVi mX2_passMonths := ⟨gw_t3 176 rfl rfl, gw_t3 177 rfl rfl⟩
def mX2_rainDown : Mi := (yX2_rainDown, cX2_rainDown, 2, none)
theorem mvX2_rainDown : MV mX2_rainDown 0 := ⟨gw_t3 182 rfl rfl, gw_t1 3 rfl rfl, ⟨by decide, by decide⟩, by decide +kernel, by decide⟩
theorem miX2_rainDown : MVi mX2_rainDown := ⟨gw_t3 181 rfl rfl, gw_p1 15 rfl rfl⟩
def mX2_pumpOut : Mi := (yX2_pumpOut, cX2_pumpOut, 4, none)
theorem mvX2_pumpOut : MV mX2_pumpOut 0 := ⟨gw_t3 189 rfl rfl, gw_t1 3 rfl rfl, ⟨by decide, by decide⟩, by decide +kernel, by decide⟩
theorem miX2_pumpOut : MVi mX2_pumpOut := ⟨gw_t3 188 rfl rfl, gw_p2 0 rfl rfl⟩
def mX2_flow : Mi := (yX2_flow, cX2_flow, 2, none)
theorem mvX2_flow : MV mX2_flow 0 := ⟨gw_t3 200 rfl rfl, gw_t1 3 rfl rfl, ⟨by decide, by decide⟩, by decide +kernel, by decide⟩
theorem miX2_flow : MVi mX2_flow := ⟨gw_t3 199 rfl rfl, gw_p2 2 rfl rfl⟩
def mX2_go : Mi := (yX2_go, cX2_go, 4, none)
theorem mvX2_go : MV mX2_go 3 := ⟨gw_t3 204 rfl rfl, gw_t1 3 rfl rfl, ⟨by decide, by decide⟩, by decide +kernel, by decide⟩
theorem miX2_go : MVi mX2_go := ⟨gw_t3 203 rfl rfl, gw_p2 3 rfl rfl⟩
def mX2_solve : Mi := (yX2_solve, cX2_solve, 3, none)
theorem mvX2_solve : MV mX2_solve 2 := ⟨gw_t3 193 rfl rfl, gw_t1 3 rfl rfl, ⟨by decide, by decide⟩, by decide +kernel, by decide⟩
theorem miX2_solve : MVi mX2_solve := ⟨gw_t3 192 rfl rfl, gw_p2 1 rfl rfl⟩
def mX2_letFall : Mi := (yX2_letFall, cX2_letFall, 2, none)
theorem mvX2_letFall : MV mX2_letFall 0 := ⟨gw_t3 211 rfl rfl, gw_t1 3 rfl rfl, ⟨by decide, by decide⟩, by decide +kernel, by decide⟩
theorem miX2_letFall : MVi mX2_letFall := ⟨gw_t3 210 rfl rfl, gw_p2 4 rfl rfl⟩
def mX2_takeHouses : Mi := (yX2_takeHouses, cX2_takeHouses, 3, none)
theorem mvX2_takeHouses : MV mX2_takeHouses 1 := ⟨gw_t3 217 rfl rfl, gw_t1 3 rfl rfl, ⟨by decide, by decide⟩, by decide +kernel, by decide⟩
theorem miX2_takeHouses : MVi mX2_takeHouses := ⟨gw_t3 216 rfl rfl, gw_p2 5 rfl rfl⟩
def mX3_init : Mi := (yX3_init, cX3_init, 2, none)
theorem mvX3_init : MV mX3_init 1 := ⟨gw_t2 52 rfl rfl, gw_t1 10 rfl rfl, ⟨by decide, by decide⟩, by decide +kernel, by decide⟩
def mX3_read : Mi := (yX3_read, cX3_read, 2, (some .int))
theorem mvX3_read : MV mX3_read 0 := ⟨gw_t3 16 rfl rfl, gw_t1 10 rfl rfl, ⟨by decide, by decide⟩, by decide +kernel, by decide⟩
theorem miX3_read : MVi mX3_read := ⟨gw_t3 14 rfl rfl, gw_t3 15 rfl rfl⟩
def mX3_readOr : Mi := (yX3_readOr, cX3_readOr, 3, none)
theorem mvX3_readOr : MV mX3_readOr 1 := ⟨gw_t3 40 rfl rfl, gw_t1 10 rfl rfl, ⟨by decide, by decide⟩, by decide +kernel, by decide⟩
theorem miX3_readOr : MVi mX3_readOr := ⟨gw_t3 39 rfl rfl, gw_p1 7 rfl rfl⟩
def mX3_readAnd : Mi := (yX3_readAnd, cX3_readAnd, 3, none)
theorem mvX3_readAnd : MV mX3_readAnd 1 := ⟨gw_t3 44 rfl rfl, gw_t1 10 rfl rfl, ⟨by decide, by decide⟩, by decide +kernel, by decide⟩
theorem miX3_readAnd : MVi mX3_readAnd := ⟨gw_t3 43 rfl rfl, gw_p1 8 rfl rfl⟩
def mX3_readNot : Mi := (yX3_readNot, cX3_readNot, 3, none)
theorem mvX3_readNot : MV mX3_readNot 1 := ⟨gw_t3 48 rfl rfl, gw_t1 10 rfl rfl, ⟨by decide, by decide⟩, by decide +kernel, by decide⟩
theorem miX3_readNot : MVi mX3_readNot := ⟨gw_t3 47 rfl rfl, gw_p1 9 rfl rfl⟩
def mX3_readSum : Mi := (yX3_readSum, cX3_readSum, 4, none)
theorem mvX3_readSum : MV mX3_readSum 1 := ⟨gw_t3 56 rfl rfl, gw_t1 10 rfl rfl, ⟨by decide, by decide⟩, by decide +kernel, by decide⟩
theorem miX3_readSum : MVi mX3_readSum := ⟨gw_t3 55 rfl rfl, gw_p1 10 rfl rfl⟩
def mX3_readTerm : Mi := (yX3_readTerm, cX3_readTerm, 3, none)
theorem mvX3_readTerm : MV mX3_readTerm 1 := ⟨gw_t3 60 rfl rfl, gw_t1 10 rfl rfl, ⟨by decide, by decide⟩, by decide +kernel, by decide⟩
theorem miX3_readTerm : MVi mX3_readTerm := ⟨gw_t3 59 rfl rfl, gw_p1 11 rfl rfl⟩
def mX3_readOne : Mi := (yX3_readOne, cX3_readOne, 2, none)
theorem mvX3_readOne : MV mX3_readOne 1 := ⟨gw_t3 64 rfl rfl, gw_t1 10 rfl rfl, ⟨by decide, by decide⟩, by decide +kernel, by decide⟩
theorem miX3_readOne : MVi mX3_readOne := ⟨gw_t3 63 rfl rfl, gw_p1 12 rfl rfl⟩
def mX3_expect : Mi := (yX3_expect, cX3_expect, 2, none)
theorem mvX3_expect : MV mX3_expect 1 := ⟨gw_t3 24 rfl rfl, gw_t1 10 rfl rfl, ⟨by decide, by decide⟩, by decide +kernel, by decide⟩
theorem miX3_expect : MVi mX3_expect := ⟨gw_t3 23 rfl rfl, gw_p1 4 rfl rfl⟩
def mX3_advance : Mi := (yX3_advance, cX3_advance, 1, none)
theorem mvX3_advance : MV mX3_advance 0 := ⟨gw_t3 28 rfl rfl, gw_t1 10 rfl rfl, ⟨by decide, by decide⟩, by decide +kernel, by decide⟩
theorem miX3_advance : MVi mX3_advance := ⟨gw_t3 27 rfl rfl, gw_p1 5 rfl rfl⟩
def mX3_refuse : Mi := (yX3_refuse, cX3_refuse, 1, none)
theorem mvX3_refuse : MV mX3_refuse 0 := ⟨gw_t3 32 rfl rfl, gw_t1 10 rfl rfl, ⟨by decide, by decide⟩, by decide +kernel, by decide⟩
theorem miX3_refuse : MVi mX3_refuse := ⟨gw_t3 31 rfl rfl, gw_p1 6 rfl rfl⟩
def mX4_init : Mi := (yX4_init, cX4_init, 2, none)
theorem mvX4_init : MV mX4_init 0 := ⟨gw_t2 16 rfl rfl, gw_t1 8 rfl rfl, ⟨by decide, by decide⟩, by decide +kernel, by decide⟩
def mX4_feedFirstText : Mi := (yX4_feedFirstText, cX4_feedFirstText, 2, none)
theorem mvX4_feedFirstText : MV mX4_feedFirstText 0 := ⟨gw_t2 144 rfl rfl, gw_t1 8 rfl rfl, ⟨by decide, by decide⟩, by decide +kernel, by decide⟩
theorem miX4_feedFirstText : MVi mX4_feedFirstText := ⟨gw_t2 142 rfl rfl, gw_t2 143 rfl rfl⟩
def mX4_takeTape : Mi := (yX4_takeTape, cX4_takeTape, 2, (some .int))
theorem mvX4_takeTape : MV mX4_takeTape 0 := ⟨gw_t2 201 rfl rfl, gw_t1 8 rfl rfl, ⟨by decide, by decide⟩, by decide +kernel, by decide⟩
theorem miX4_takeTape : MVi mX4_takeTape := ⟨gw_t2 199 rfl rfl, gw_t2 200 rfl rfl⟩
def mX4_tellSpan : Mi := (yX4_tellSpan, cX4_tellSpan, 3, none)
theorem mvX4_tellSpan : MV mX4_tellSpan 2 := ⟨gw_t4 128 rfl rfl, gw_t1 8 rfl rfl, ⟨by decide, by decide⟩, by decide +kernel, by decide⟩
theorem miX4_tellSpan : MVi mX4_tellSpan := ⟨gw_t4 126 rfl rfl, gw_t4 127 rfl rfl⟩
def mX4_tellGround : Mi := (yX4_tellGround, cX4_tellGround, 4, none)
theorem mvX4_tellGround : MV mX4_tellGround 3 := ⟨gw_t4 133 rfl rfl, gw_t1 8 rfl rfl, ⟨by decide, by decide⟩, by decide +kernel, by decide⟩
theorem miX4_tellGround : MVi mX4_tellGround := ⟨gw_t4 131 rfl rfl, gw_t4 132 rfl rfl⟩
def mX4_value : Mi := (yX4_value, cX4_value, 6, (some .int))
theorem mvX4_value : MV mX4_value 1 := ⟨gw_t4 147 rfl rfl, gw_t1 8 rfl rfl, ⟨by decide, by decide⟩, by decide +kernel, by decide⟩
theorem miX4_value : MVi mX4_value := ⟨gw_t4 145 rfl rfl, gw_t4 146 rfl rfl⟩
def mX4_joined : Mi := (yX4_joined, cX4_joined, 3, (some .int))
theorem mvX4_joined : MV mX4_joined 3 := ⟨gw_t4 150 rfl rfl, gw_t1 8 rfl rfl, ⟨by decide, by decide⟩, by decide +kernel, by decide⟩
theorem msX4_joined : Cond.static mX4_joined.1 ∈ gw := gw_t4 149 rfl rfl
def mX5_init : Mi := (yX5_init, cX5_init, 1, none)
theorem mvX5_init : MV mX5_init 0 := ⟨gw_t2 124 rfl rfl, gw_t1 12 rfl rfl, ⟨by decide, by decide⟩, by decide +kernel, by decide⟩
def mX5_isMissing : Mi := (yX5_isMissing, cX5_isMissing, 1, (some .boolean))
theorem mvX5_isMissing : MV mX5_isMissing 0 := ⟨gw_t4 64 rfl rfl, gw_t1 12 rfl rfl, ⟨by decide, by decide⟩, by decide +kernel, by decide⟩
theorem miX5_isMissing : MVi mX5_isMissing := ⟨gw_t4 62 rfl rfl, gw_t4 63 rfl rfl⟩
def mX5_has : Mi := (yX5_has, cX5_has, 2, (some .boolean))
theorem mvX5_has : MV mX5_has 1 := ⟨gw_t5 53 rfl rfl, gw_t1 12 rfl rfl, ⟨by decide, by decide⟩, by decide +kernel, by decide⟩
theorem miX5_has : MVi mX5_has := ⟨gw_t5 51 rfl rfl, gw_t5 52 rfl rfl⟩
def mX5_begin : Mi := (yX5_begin, cX5_begin, 4, none)
theorem mvX5_begin : MV mX5_begin 2 := ⟨gw_t5 43 rfl rfl, gw_t1 12 rfl rfl, ⟨by decide, by decide⟩, by decide +kernel, by decide⟩
theorem miX5_begin : MVi mX5_begin := ⟨gw_t5 41 rfl rfl, gw_t5 42 rfl rfl⟩
def mX5_put : Mi := (yX5_put, cX5_put, 3, none)
theorem mvX5_put : MV mX5_put 2 := ⟨gw_t5 59 rfl rfl, gw_t1 12 rfl rfl, ⟨by decide, by decide⟩, by decide +kernel, by decide⟩
theorem miX5_put : MVi mX5_put := ⟨gw_t5 57 rfl rfl, gw_t5 58 rfl rfl⟩
def mX6_init : Mi := (yX6_init, cX6_init, 1, none)
theorem mvX6_init : MV mX6_init 0 := ⟨gw_t1 140 rfl rfl, gw_t1 4 rfl rfl, ⟨by decide, by decide⟩, by decide +kernel, by decide⟩
def mX6_add : Mi := (yX6_add, cX6_add, 5, (some .int))
theorem mvX6_add : MV mX6_add 4 := ⟨gw_t3 229 rfl rfl, gw_t1 4 rfl rfl, ⟨by decide, by decide⟩, by decide +kernel, by decide⟩
theorem miX6_add : MVi mX6_add := ⟨gw_t3 227 rfl rfl, gw_t3 228 rfl rfl⟩
def mX6_valueKnown : Mi := (yX6_valueKnown, cX6_valueKnown, 3, (some .int))
theorem mvX6_valueKnown : MV mX6_valueKnown 2 := ⟨gw_t4 9 rfl rfl, gw_t1 4 rfl rfl, ⟨by decide, by decide⟩, by decide +kernel, by decide⟩
theorem miX6_valueKnown : MVi mX6_valueKnown := ⟨gw_t4 7 rfl rfl, gw_t4 8 rfl rfl⟩
def mX6_least : Mi := (yX6_least, cX6_least, 6, (some .int))
theorem mvX6_least : MV mX6_least 3 := ⟨gw_t4 27 rfl rfl, gw_t1 4 rfl rfl, ⟨by decide, by decide⟩, by decide +kernel, by decide⟩
theorem miX6_least : MVi mX6_least := ⟨gw_t4 25 rfl rfl, gw_t4 26 rfl rfl⟩
def mX6_most : Mi := (yX6_most, cX6_most, 6, (some .int))
theorem mvX6_most : MV mX6_most 3 := ⟨gw_t4 38 rfl rfl, gw_t1 4 rfl rfl, ⟨by decide, by decide⟩, by decide +kernel, by decide⟩
theorem miX6_most : MVi mX6_most := ⟨gw_t4 36 rfl rfl, gw_t4 37 rfl rfl⟩
def mX6_speaks : Mi := (yX6_speaks, cX6_speaks, 5, (some .boolean))
theorem mvX6_speaks : MV mX6_speaks 4 := ⟨gw_t4 31 rfl rfl, gw_t1 4 rfl rfl, ⟨by decide, by decide⟩, by decide +kernel, by decide⟩
theorem miX6_speaks : MVi mX6_speaks := ⟨gw_t4 30 rfl rfl, gw_p2 8 rfl rfl⟩
def mX6_leastBy : Mi := (yX6_leastBy, cX6_leastBy, 5, (some .int))
theorem mvX6_leastBy : MV mX6_leastBy 2 := ⟨gw_t4 12 rfl rfl, gw_t1 4 rfl rfl, ⟨by decide, by decide⟩, by decide +kernel, by decide⟩
theorem msX6_leastBy : Cond.static mX6_leastBy.1 ∈ gw := gw_t4 11 rfl rfl
def mX6_mostBy : Mi := (yX6_mostBy, cX6_mostBy, 3, (some .int))
theorem mvX6_mostBy : MV mX6_mostBy 2 := ⟨gw_t4 16 rfl rfl, gw_t1 4 rfl rfl, ⟨by decide, by decide⟩, by decide +kernel, by decide⟩
theorem msX6_mostBy : Cond.static mX6_mostBy.1 ∈ gw := gw_t4 15 rfl rfl
def mX6_trustIn : Mi := (yX6_trustIn, cX6_trustIn, 2, (some .int))
theorem mvX6_trustIn : MV mX6_trustIn 1 := ⟨gw_t4 19 rfl rfl, gw_t1 4 rfl rfl, ⟨by decide, by decide⟩, by decide +kernel, by decide⟩
theorem msX6_trustIn : Cond.static mX6_trustIn.1 ∈ gw := gw_t4 18 rfl rfl
def mX6_isOneOf : Mi := (yX6_isOneOf, cX6_isOneOf, 4, (some .boolean))
theorem mvX6_isOneOf : MV mX6_isOneOf 2 := ⟨gw_t5 77 rfl rfl, gw_t1 4 rfl rfl, ⟨by decide, by decide⟩, by decide +kernel, by decide⟩
theorem msX6_isOneOf : Cond.static mX6_isOneOf.1 ∈ gw := gw_t5 76 rfl rfl
def mX7_init : Mi := (yX7_init, cX7_init, 1, none)
theorem mvX7_init : MV mX7_init 0 := ⟨gw_t2 22 rfl rfl, gw_t1 9 rfl rfl, ⟨by decide, by decide⟩, by decide +kernel, by decide⟩
def mX7_put : Mi := (yX7_put, cX7_put, 2, none)
theorem mvX7_put : MV mX7_put 1 := ⟨gw_t2 197 rfl rfl, gw_t1 9 rfl rfl, ⟨by decide, by decide⟩, by decide +kernel, by decide⟩
theorem miX7_put : MVi mX7_put := ⟨gw_t2 195 rfl rfl, gw_t2 196 rfl rfl⟩
def mX7_kindAt : Mi := (yX7_kindAt, cX7_kindAt, 2, (some .int))
theorem mvX7_kindAt : MV mX7_kindAt 1 := ⟨gw_t3 20 rfl rfl, gw_t1 9 rfl rfl, ⟨by decide, by decide⟩, by decide +kernel, by decide⟩
theorem miX7_kindAt : MVi mX7_kindAt := ⟨gw_t3 18 rfl rfl, gw_t3 19 rfl rfl⟩
def mX7_placeAt : Mi := (yX7_placeAt, cX7_placeAt, 2, (some .int))
theorem mvX7_placeAt : MV mX7_placeAt 1 := ⟨gw_t3 36 rfl rfl, gw_t1 9 rfl rfl, ⟨by decide, by decide⟩, by decide +kernel, by decide⟩
theorem miX7_placeAt : MVi mX7_placeAt := ⟨gw_t3 34 rfl rfl, gw_t3 35 rfl rfl⟩
def mX7_numberAt : Mi := (yX7_numberAt, cX7_numberAt, 2, (some .int))
theorem mvX7_numberAt : MV mX7_numberAt 1 := ⟨gw_t3 68 rfl rfl, gw_t1 9 rfl rfl, ⟨by decide, by decide⟩, by decide +kernel, by decide⟩
theorem miX7_numberAt : MVi mX7_numberAt := ⟨gw_t3 66 rfl rfl, gw_t3 67 rfl rfl⟩
def mX7_split : Mi := (yX7_split, cX7_split, 3, none)
theorem mvX7_split : MV mX7_split 0 := ⟨gw_t2 205 rfl rfl, gw_t1 9 rfl rfl, ⟨by decide, by decide⟩, by decide +kernel, by decide⟩
theorem miX7_split : MVi mX7_split := ⟨gw_t2 203 rfl rfl, gw_t2 204 rfl rfl⟩
def mX7_goOn : Mi := (yX7_goOn, cX7_goOn, 2, (some .boolean))
theorem mvX7_goOn : MV mX7_goOn 2 := ⟨gw_t2 208 rfl rfl, gw_t1 9 rfl rfl, ⟨by decide, by decide⟩, by decide +kernel, by decide⟩
theorem msX7_goOn : Cond.static mX7_goOn.1 ∈ gw := gw_t2 207 rfl rfl
def mX7_tellKind : Mi := (yX7_tellKind, cX7_tellKind, 3, none)
theorem mvX7_tellKind : MV mX7_tellKind 1 := ⟨gw_t2 218 rfl rfl, gw_t1 9 rfl rfl, ⟨by decide, by decide⟩, by decide +kernel, by decide⟩
theorem miX7_tellKind : MVi mX7_tellKind := ⟨gw_t2 217 rfl rfl, gw_p1 0 rfl rfl⟩
def mX7_tellWord : Mi := (yX7_tellWord, cX7_tellWord, 3, none)
theorem mvX7_tellWord : MV mX7_tellWord 1 := ⟨gw_t2 222 rfl rfl, gw_t1 9 rfl rfl, ⟨by decide, by decide⟩, by decide +kernel, by decide⟩
theorem miX7_tellWord : MVi mX7_tellWord := ⟨gw_t2 221 rfl rfl, gw_p1 1 rfl rfl⟩
def mX7_spells : Mi := (yX7_spells, cX7_spells, 4, (some .boolean))
theorem mvX7_spells : MV mX7_spells 2 := ⟨gw_t3 3 rfl rfl, gw_t1 9 rfl rfl, ⟨by decide, by decide⟩, by decide +kernel, by decide⟩
theorem miX7_spells : MVi mX7_spells := ⟨gw_t3 2 rfl rfl, gw_p1 2 rfl rfl⟩
def mX7_tellNumber : Mi := (yX7_tellNumber, cX7_tellNumber, 3, none)
theorem mvX7_tellNumber : MV mX7_tellNumber 1 := ⟨gw_t3 9 rfl rfl, gw_t1 9 rfl rfl, ⟨by decide, by decide⟩, by decide +kernel, by decide⟩
theorem miX7_tellNumber : MVi mX7_tellNumber := ⟨gw_t3 8 rfl rfl, gw_p1 3 rfl rfl⟩
def mX7_isLetter : Mi := (yX7_isLetter, cX7_isLetter, 1, (some .boolean))
theorem mvX7_isLetter : MV mX7_isLetter 1 := ⟨gw_t2 211 rfl rfl, gw_t1 9 rfl rfl, ⟨by decide, by decide⟩, by decide +kernel, by decide⟩
theorem msX7_isLetter : Cond.static mX7_isLetter.1 ∈ gw := gw_t2 210 rfl rfl
def mX7_isDigit : Mi := (yX7_isDigit, cX7_isDigit, 1, (some .boolean))
theorem mvX7_isDigit : MV mX7_isDigit 1 := ⟨gw_t2 214 rfl rfl, gw_t1 9 rfl rfl, ⟨by decide, by decide⟩, by decide +kernel, by decide⟩
theorem msX7_isDigit : Cond.static mX7_isDigit.1 ∈ gw := gw_t2 213 rfl rfl
def mX7_isMark : Mi := (yX7_isMark, cX7_isMark, 1, (some .boolean))
theorem mvX7_isMark : MV mX7_isMark 1 := ⟨gw_t3 12 rfl rfl, gw_t1 9 rfl rfl, ⟨by decide, by decide⟩, by decide +kernel, by decide⟩
theorem msX7_isMark : Cond.static mX7_isMark.1 ∈ gw := gw_t3 11 rfl rfl
def mX7_wordAt : Mi := (yX7_wordAt, cX7_wordAt, 1, (some (.object "java/lang/String")))
theorem mvX7_wordAt : MV mX7_wordAt 1 := ⟨gw_t2 225 rfl rfl, gw_t1 9 rfl rfl, ⟨by decide, by decide⟩, by decide +kernel, by decide⟩
theorem msX7_wordAt : Cond.static mX7_wordAt.1 ∈ gw := gw_t2 224 rfl rfl
def mX8_init : Mi := (yX8_init, cX8_init, 1, none)
theorem mvX8_init : MV mX8_init 0 := ⟨gw_t2 58 rfl rfl, gw_t1 11 rfl rfl, ⟨by decide, by decide⟩, by decide +kernel, by decide⟩
def mX8_add : Mi := (yX8_add, cX8_add, 2, none)
theorem mvX8_add : MV mX8_add 1 := ⟨gw_t3 52 rfl rfl, gw_t1 11 rfl rfl, ⟨by decide, by decide⟩, by decide +kernel, by decide⟩
theorem miX8_add : MVi mX8_add := ⟨gw_t3 50 rfl rfl, gw_t3 51 rfl rfl⟩
def mX8_become : Mi := (yX8_become, cX8_become, 2, none)
theorem mvX8_become : MV mX8_become 1 := ⟨gw_t3 72 rfl rfl, gw_t1 11 rfl rfl, ⟨by decide, by decide⟩, by decide +kernel, by decide⟩
theorem miX8_become : MVi mX8_become := ⟨gw_t3 70 rfl rfl, gw_t3 71 rfl rfl⟩
def mX9_init : Mi := (yX9_init, cX9_init, 3, none)
theorem mvX9_init : MV mX9_init 1 := ⟨gw_t1 175 rfl rfl, gw_t1 5 rfl rfl, ⟨by decide, by decide⟩, by decide +kernel, by decide⟩
def mX9_isFull : Mi := (yX9_isFull, cX9_isFull, 1, (some .boolean))
theorem mvX9_isFull : MV mX9_isFull 0 := ⟨gw_t4 48 rfl rfl, gw_t1 5 rfl rfl, ⟨by decide, by decide⟩, by decide +kernel, by decide⟩
theorem miX9_isFull : MVi mX9_isFull := ⟨gw_t4 46 rfl rfl, gw_t4 47 rfl rfl⟩
def mX9_add : Mi := (yX9_add, cX9_add, 4, (some .int))
theorem mvX9_add : MV mX9_add 3 := ⟨gw_t4 52 rfl rfl, gw_t1 5 rfl rfl, ⟨by decide, by decide⟩, by decide +kernel, by decide⟩
theorem miX9_add : MVi mX9_add := ⟨gw_t4 50 rfl rfl, gw_t4 51 rfl rfl⟩
def mX10_init : Mi := (yX10_init, cX10_init, 2, none)
theorem mvX10_init : MV mX10_init 0 := ⟨gw_t1 24 rfl rfl, gw_t1 1 rfl rfl, ⟨by decide, by decide⟩, by decide +kernel, by decide⟩
def mX10_ground : Mi := (yX10_ground, cX10_ground, 5, (some .int))
theorem mvX10_ground : MV mX10_ground 3 := ⟨gw_t3 123 rfl rfl, gw_t1 1 rfl rfl, ⟨by decide, by decide⟩, by decide +kernel, by decide⟩
theorem miX10_ground : MVi mX10_ground := ⟨gw_t3 121 rfl rfl, gw_t3 122 rfl rfl⟩
def mX10_house : Mi := (yX10_house, cX10_house, 4, (some .int))
theorem mvX10_house : MV mX10_house 3 := ⟨gw_t3 137 rfl rfl, gw_t1 1 rfl rfl, ⟨by decide, by decide⟩, by decide +kernel, by decide⟩
theorem miX10_house : MVi mX10_house := ⟨gw_t3 135 rfl rfl, gw_t3 136 rfl rfl⟩
def mX10_pump : Mi := (yX10_pump, cX10_pump, 2, (some .int))
theorem mvX10_pump : MV mX10_pump 1 := ⟨gw_t3 146 rfl rfl, gw_t1 1 rfl rfl, ⟨by decide, by decide⟩, by decide +kernel, by decide⟩
theorem miX10_pump : MVi mX10_pump := ⟨gw_t3 144 rfl rfl, gw_t3 145 rfl rfl⟩
def mX10_pumping : Mi := (yX10_pumping, cX10_pumping, 4, (some .int))
theorem mvX10_pumping : MV mX10_pumping 2 := ⟨gw_t3 154 rfl rfl, gw_t1 1 rfl rfl, ⟨by decide, by decide⟩, by decide +kernel, by decide⟩
theorem miX10_pumping : MVi mX10_pumping := ⟨gw_t3 152 rfl rfl, gw_t3 153 rfl rfl⟩
def mX10_rain : Mi := (yX10_rain, cX10_rain, 3, (some .int))
theorem mvX10_rain : MV mX10_rain 1 := ⟨gw_t3 158 rfl rfl, gw_t1 1 rfl rfl, ⟨by decide, by decide⟩, by decide +kernel, by decide⟩
theorem miX10_rain : MVi mX10_rain := ⟨gw_t3 156 rfl rfl, gw_t3 157 rfl rfl⟩
def mX10_move : Mi := (yX10_move, cX10_move, 2, (some .int))
theorem mvX10_move : MV mX10_move 1 := ⟨gw_t3 162 rfl rfl, gw_t1 1 rfl rfl, ⟨by decide, by decide⟩, by decide +kernel, by decide⟩
theorem miX10_move : MVi mX10_move := ⟨gw_t3 160 rfl rfl, gw_t3 161 rfl rfl⟩
def mX10_run : Mi := (yX10_run, cX10_run, 2, (some .int))
theorem mvX10_run : MV mX10_run 1 := ⟨gw_t3 170 rfl rfl, gw_t1 1 rfl rfl, ⟨by decide, by decide⟩, by decide +kernel, by decide⟩
theorem miX10_run : MVi mX10_run := ⟨gw_t3 168 rfl rfl, gw_t3 169 rfl rfl⟩
def mX10_sign : Mi := (yX10_sign, cX10_sign, 4, (some .int))
theorem mvX10_sign : MV mX10_sign 3 := ⟨gw_t3 225 rfl rfl, gw_t1 1 rfl rfl, ⟨by decide, by decide⟩, by decide +kernel, by decide⟩
theorem miX10_sign : MVi mX10_sign := ⟨gw_t3 223 rfl rfl, gw_t3 224 rfl rfl⟩
def mX10_mend : Mi := (yX10_mend, cX10_mend, 3, (some .int))
theorem mvX10_mend : MV mX10_mend 2 := ⟨gw_t3 233 rfl rfl, gw_t1 1 rfl rfl, ⟨by decide, by decide⟩, by decide +kernel, by decide⟩
theorem miX10_mend : MVi mX10_mend := ⟨gw_t3 231 rfl rfl, gw_t3 232 rfl rfl⟩
def mX10_signTold : Mi := (yX10_signTold, cX10_signTold, 6, (some .int))
theorem mvX10_signTold : MV mX10_signTold 3 := ⟨gw_t4 1 rfl rfl, gw_t1 1 rfl rfl, ⟨by decide, by decide⟩, by decide +kernel, by decide⟩
theorem miX10_signTold : MVi mX10_signTold := ⟨gw_t3 239 rfl rfl, gw_t4 0 rfl rfl⟩
def mX10_span : Mi := (yX10_span, cX10_span, 7, (some .int))
theorem mvX10_span : MV mX10_span 3 := ⟨gw_t4 23 rfl rfl, gw_t1 1 rfl rfl, ⟨by decide, by decide⟩, by decide +kernel, by decide⟩
theorem miX10_span : MVi mX10_span := ⟨gw_t4 21 rfl rfl, gw_t4 22 rfl rfl⟩
def mX10_lost : Mi := (yX10_lost, cX10_lost, 3, (some .int))
theorem mvX10_lost : MV mX10_lost 2 := ⟨gw_t4 44 rfl rfl, gw_t1 1 rfl rfl, ⟨by decide, by decide⟩, by decide +kernel, by decide⟩
theorem miX10_lost : MVi mX10_lost := ⟨gw_t4 42 rfl rfl, gw_t4 43 rfl rfl⟩
def mX10_fit : Mi := (yX10_fit, cX10_fit, 4, (some .int))
theorem mvX10_fit : MV mX10_fit 2 := ⟨gw_t4 57 rfl rfl, gw_t1 1 rfl rfl, ⟨by decide, by decide⟩, by decide +kernel, by decide⟩
theorem miX10_fit : MVi mX10_fit := ⟨gw_t4 55 rfl rfl, gw_t4 56 rfl rfl⟩
def mX10_fitTold : Mi := (yX10_fitTold, cX10_fitTold, 3, (some .int))
theorem mvX10_fitTold : MV mX10_fitTold 2 := ⟨gw_t4 102 rfl rfl, gw_t1 1 rfl rfl, ⟨by decide, by decide⟩, by decide +kernel, by decide⟩
theorem miX10_fitTold : MVi mX10_fitTold := ⟨gw_t4 100 rfl rfl, gw_t4 101 rfl rfl⟩
def mX10_feed : Mi := (yX10_feed, cX10_feed, 5, (some .int))
theorem mvX10_feed : MV mX10_feed 2 := ⟨gw_t4 106 rfl rfl, gw_t1 1 rfl rfl, ⟨by decide, by decide⟩, by decide +kernel, by decide⟩
theorem miX10_feed : MVi mX10_feed := ⟨gw_t4 104 rfl rfl, gw_t4 105 rfl rfl⟩
def mX10_text : Mi := (yX10_text, cX10_text, 2, (some .int))
theorem mvX10_text : MV mX10_text 0 := ⟨gw_t4 111 rfl rfl, gw_t1 1 rfl rfl, ⟨by decide, by decide⟩, by decide +kernel, by decide⟩
theorem miX10_text : MVi mX10_text := ⟨gw_t4 109 rfl rfl, gw_t4 110 rfl rfl⟩
def mX10_force : Mi := (yX10_force, cX10_force, 3, (some .int))
theorem mvX10_force : MV mX10_force 1 := ⟨gw_t4 115 rfl rfl, gw_t1 1 rfl rfl, ⟨by decide, by decide⟩, by decide +kernel, by decide⟩
theorem miX10_force : MVi mX10_force := ⟨gw_t4 113 rfl rfl, gw_t4 114 rfl rfl⟩
def mX10_law : Mi := (yX10_law, cX10_law, 4, (some .long))
theorem mvX10_law : MV mX10_law 3 := ⟨gw_t4 119 rfl rfl, gw_t1 1 rfl rfl, ⟨by decide, by decide⟩, by decide +kernel, by decide⟩
theorem miX10_law : MVi mX10_law := ⟨gw_t4 117 rfl rfl, gw_t4 118 rfl rfl⟩
def mX10_moved : Mi := (yX10_moved, cX10_moved, 5, (some .long))
theorem mvX10_moved : MV mX10_moved 1 := ⟨gw_t4 154 rfl rfl, gw_t1 1 rfl rfl, ⟨by decide, by decide⟩, by decide +kernel, by decide⟩
theorem miX10_moved : MVi mX10_moved := ⟨gw_t4 152 rfl rfl, gw_t4 153 rfl rfl⟩
def mX10_part : Mi := (yX10_part, cX10_part, 7, (some .long))
theorem mvX10_part : MV mX10_part 2 := ⟨gw_t4 159 rfl rfl, gw_t1 1 rfl rfl, ⟨by decide, by decide⟩, by decide +kernel, by decide⟩
theorem miX10_part : MVi mX10_part := ⟨gw_t4 157 rfl rfl, gw_t4 158 rfl rfl⟩
def mX10_looks : Mi := (yX10_looks, cX10_looks, 9, (some .int))
theorem mvX10_looks : MV mX10_looks 3 := ⟨gw_t4 167 rfl rfl, gw_t1 1 rfl rfl, ⟨by decide, by decide⟩, by decide +kernel, by decide⟩
theorem miX10_looks : MVi mX10_looks := ⟨gw_t4 165 rfl rfl, gw_t4 166 rfl rfl⟩
def mX10_lookTold : Mi := (yX10_lookTold, cX10_lookTold, 1, (some .int))
theorem mvX10_lookTold : MV mX10_lookTold 0 := ⟨gw_t4 186 rfl rfl, gw_t1 1 rfl rfl, ⟨by decide, by decide⟩, by decide +kernel, by decide⟩
theorem miX10_lookTold : MVi mX10_lookTold := ⟨gw_t4 184 rfl rfl, gw_t4 185 rfl rfl⟩
def mX10_often : Mi := (yX10_often, cX10_often, 6, (some .long))
theorem mvX10_often : MV mX10_often 2 := ⟨gw_t4 190 rfl rfl, gw_t1 1 rfl rfl, ⟨by decide, by decide⟩, by decide +kernel, by decide⟩
theorem miX10_often : MVi mX10_often := ⟨gw_t4 188 rfl rfl, gw_t4 189 rfl rfl⟩
def mX10_warn : Mi := (yX10_warn, cX10_warn, 2, (some .int))
theorem mvX10_warn : MV mX10_warn 1 := ⟨gw_t4 197 rfl rfl, gw_t1 1 rfl rfl, ⟨by decide, by decide⟩, by decide +kernel, by decide⟩
theorem miX10_warn : MVi mX10_warn := ⟨gw_t4 195 rfl rfl, gw_t4 196 rfl rfl⟩
def mX10_warned : Mi := (yX10_warned, cX10_warned, 3, (some .int))
theorem mvX10_warned : MV mX10_warned 2 := ⟨gw_t4 201 rfl rfl, gw_t1 1 rfl rfl, ⟨by decide, by decide⟩, by decide +kernel, by decide⟩
theorem miX10_warned : MVi mX10_warned := ⟨gw_t4 199 rfl rfl, gw_t4 200 rfl rfl⟩
def mX10_cellTold : Mi := (yX10_cellTold, cX10_cellTold, 3, (some .int))
theorem mvX10_cellTold : MV mX10_cellTold 2 := ⟨gw_t4 227 rfl rfl, gw_t1 1 rfl rfl, ⟨by decide, by decide⟩, by decide +kernel, by decide⟩
theorem miX10_cellTold : MVi mX10_cellTold := ⟨gw_t4 225 rfl rfl, gw_t4 226 rfl rfl⟩
def mX10_houseTold : Mi := (yX10_houseTold, cX10_houseTold, 3, (some .int))
theorem mvX10_houseTold : MV mX10_houseTold 2 := ⟨gw_t4 231 rfl rfl, gw_t1 1 rfl rfl, ⟨by decide, by decide⟩, by decide +kernel, by decide⟩
theorem miX10_houseTold : MVi mX10_houseTold := ⟨gw_t4 229 rfl rfl, gw_t4 230 rfl rfl⟩
def mX10_beside : Mi := (yX10_beside, cX10_beside, 5, (some .long))
theorem mvX10_beside : MV mX10_beside 4 := ⟨gw_t4 235 rfl rfl, gw_t1 1 rfl rfl, ⟨by decide, by decide⟩, by decide +kernel, by decide⟩
theorem miX10_beside : MVi mX10_beside := ⟨gw_t4 233 rfl rfl, gw_t4 234 rfl rfl⟩
def mX10_plan : Mi := (yX10_plan, cX10_plan, 9, (some .long))
theorem mvX10_plan : MV mX10_plan 3 := ⟨gw_t5 4 rfl rfl, gw_t1 1 rfl rfl, ⟨by decide, by decide⟩, by decide +kernel, by decide⟩
theorem miX10_plan : MVi mX10_plan := ⟨gw_t5 2 rfl rfl, gw_t5 3 rfl rfl⟩
def mX10_planned : Mi := (yX10_planned, cX10_planned, 1, (some .int))
theorem mvX10_planned : MV mX10_planned 0 := ⟨gw_t5 23 rfl rfl, gw_t1 1 rfl rfl, ⟨by decide, by decide⟩, by decide +kernel, by decide⟩
theorem miX10_planned : MVi mX10_planned := ⟨gw_t5 21 rfl rfl, gw_t5 22 rfl rfl⟩
def mX10_image : Mi := (yX10_image, cX10_image, 1, (some .int))
theorem mvX10_image : MV mX10_image 0 := ⟨gw_t5 27 rfl rfl, gw_t1 1 rfl rfl, ⟨by decide, by decide⟩, by decide +kernel, by decide⟩
theorem miX10_image : MVi mX10_image := ⟨gw_t5 25 rfl rfl, gw_t5 26 rfl rfl⟩
def mX10_back : Mi := (yX10_back, cX10_back, 1, (some .int))
theorem mvX10_back : MV mX10_back 0 := ⟨gw_t5 31 rfl rfl, gw_t1 1 rfl rfl, ⟨by decide, by decide⟩, by decide +kernel, by decide⟩
theorem miX10_back : MVi mX10_back := ⟨gw_t5 29 rfl rfl, gw_t5 30 rfl rfl⟩
def mX10_count : Mi := (yX10_count, cX10_count, 2, (some .int))
theorem mvX10_count : MV mX10_count 1 := ⟨gw_t5 35 rfl rfl, gw_t1 1 rfl rfl, ⟨by decide, by decide⟩, by decide +kernel, by decide⟩
theorem miX10_count : MVi mX10_count := ⟨gw_t5 33 rfl rfl, gw_t5 34 rfl rfl⟩
def mX10_sheet : Mi := (yX10_sheet, cX10_sheet, 4, (some .int))
theorem mvX10_sheet : MV mX10_sheet 3 := ⟨gw_t5 39 rfl rfl, gw_t1 1 rfl rfl, ⟨by decide, by decide⟩, by decide +kernel, by decide⟩
theorem miX10_sheet : MVi mX10_sheet := ⟨gw_t5 37 rfl rfl, gw_t5 38 rfl rfl⟩
def mX10_cell : Mi := (yX10_cell, cX10_cell, 4, (some .int))
theorem mvX10_cell : MV mX10_cell 3 := ⟨gw_t5 49 rfl rfl, gw_t1 1 rfl rfl, ⟨by decide, by decide⟩, by decide +kernel, by decide⟩
theorem miX10_cell : MVi mX10_cell := ⟨gw_t5 47 rfl rfl, gw_t5 48 rfl rfl⟩
def mX10_copy : Mi := (yX10_copy, cX10_copy, 8, (some .int))
theorem mvX10_copy : MV mX10_copy 5 := ⟨gw_t5 64 rfl rfl, gw_t1 1 rfl rfl, ⟨by decide, by decide⟩, by decide +kernel, by decide⟩
theorem miX10_copy : MVi mX10_copy := ⟨gw_t5 62 rfl rfl, gw_t5 63 rfl rfl⟩
def mX10_signs : Mi := (yX10_signs, cX10_signs, 9, (some .int))
theorem mvX10_signs : MV mX10_signs 4 := ⟨gw_t5 69 rfl rfl, gw_t1 1 rfl rfl, ⟨by decide, by decide⟩, by decide +kernel, by decide⟩
theorem miX10_signs : MVi mX10_signs := ⟨gw_t5 67 rfl rfl, gw_t5 68 rfl rfl⟩
def mX10_taken : Mi := (yX10_taken, cX10_taken, 4, (some .int))
theorem mvX10_taken : MV mX10_taken 3 := ⟨gw_t5 74 rfl rfl, gw_t1 1 rfl rfl, ⟨by decide, by decide⟩, by decide +kernel, by decide⟩
theorem miX10_taken : MVi mX10_taken := ⟨gw_t5 72 rfl rfl, gw_t5 73 rfl rfl⟩
def mX10_within : Mi := (yX10_within, cX10_within, 3, (some .boolean))
theorem mvX10_within : MV mX10_within 3 := ⟨gw_t3 129 rfl rfl, gw_t1 1 rfl rfl, ⟨by decide, by decide⟩, by decide +kernel, by decide⟩
theorem msX10_within : Cond.static mX10_within.1 ∈ gw := gw_t3 128 rfl rfl
def mX10_isCell : Mi := (yX10_isCell, cX10_isCell, 1, (some .boolean))
theorem mvX10_isCell : MV mX10_isCell 1 := ⟨gw_t3 126 rfl rfl, gw_t1 1 rfl rfl, ⟨by decide, by decide⟩, by decide +kernel, by decide⟩
theorem msX10_isCell : Cond.static mX10_isCell.1 ∈ gw := gw_t3 125 rfl rfl
def mX10_isSheet : Mi := (yX10_isSheet, cX10_isSheet, 1, (some .boolean))
theorem mvX10_isSheet : MV mX10_isSheet 1 := ⟨gw_t4 60 rfl rfl, gw_t1 1 rfl rfl, ⟨by decide, by decide⟩, by decide +kernel, by decide⟩
theorem msX10_isSheet : Cond.static mX10_isSheet.1 ∈ gw := gw_t4 59 rfl rfl
def mX10_isHouse : Mi := (yX10_isHouse, cX10_isHouse, 2, (some .boolean))
theorem mvX10_isHouse : MV mX10_isHouse 1 := ⟨gw_t3 166 rfl rfl, gw_t1 1 rfl rfl, ⟨by decide, by decide⟩, by decide +kernel, by decide⟩
theorem miX10_isHouse : MVi mX10_isHouse := ⟨gw_t3 165 rfl rfl, gw_p1 13 rfl rfl⟩
def mX10_isSign : Mi := (yX10_isSign, cX10_isSign, 2, (some .boolean))
theorem mvX10_isSign : MV mX10_isSign 1 := ⟨gw_t3 237 rfl rfl, gw_t1 1 rfl rfl, ⟨by decide, by decide⟩, by decide +kernel, by decide⟩
theorem miX10_isSign : MVi mX10_isSign := ⟨gw_t3 236 rfl rfl, gw_p2 6 rfl rfl⟩
def mX10_isKnown : Mi := (yX10_isKnown, cX10_isKnown, 2, (some .boolean))
theorem mvX10_isKnown : MV mX10_isKnown 1 := ⟨gw_t4 5 rfl rfl, gw_t1 1 rfl rfl, ⟨by decide, by decide⟩, by decide +kernel, by decide⟩
theorem miX10_isKnown : MVi mX10_isKnown := ⟨gw_t4 4 rfl rfl, gw_p2 7 rfl rfl⟩
def mX10_monthsAreLeft : Mi := (yX10_monthsAreLeft, cX10_monthsAreLeft, 2, (some .boolean))
theorem mvX10_monthsAreLeft : MV mX10_monthsAreLeft 1 := ⟨gw_t3 174 rfl rfl, gw_t1 1 rfl rfl, ⟨by decide, by decide⟩, by decide +kernel, by decide⟩
theorem miX10_monthsAreLeft : MVi mX10_monthsAreLeft := ⟨gw_t3 173 rfl rfl, gw_p1 14 rfl rfl⟩
def mX10_holdsUnlikeCells : Mi := (yX10_holdsUnlikeCells, cX10_holdsUnlikeCells, 5, (some .boolean))
theorem mvX10_holdsUnlikeCells : MV mX10_holdsUnlikeCells 1 := ⟨gw_t4 67 rfl rfl, gw_t1 1 rfl rfl, ⟨by decide, by decide⟩, by decide +kernel, by decide⟩
theorem msX10_holdsUnlikeCells : Cond.static mX10_holdsUnlikeCells.1 ∈ gw := gw_t4 66 rfl rfl
def mX10_holdsLooks : Mi := (yX10_holdsLooks, cX10_holdsLooks, 2, (some .boolean))
theorem mvX10_holdsLooks : MV mX10_holdsLooks 1 := ⟨gw_t4 170 rfl rfl, gw_t1 1 rfl rfl, ⟨by decide, by decide⟩, by decide +kernel, by decide⟩
theorem msX10_holdsLooks : Cond.static mX10_holdsLooks.1 ∈ gw := gw_t4 169 rfl rfl
def mX10_holdsHouses : Mi := (yX10_holdsHouses, cX10_holdsHouses, 3, (some .boolean))
theorem mvX10_holdsHouses : MV mX10_holdsHouses 1 := ⟨gw_t5 8 rfl rfl, gw_t1 1 rfl rfl, ⟨by decide, by decide⟩, by decide +kernel, by decide⟩
theorem miX10_holdsHouses : MVi mX10_holdsHouses := ⟨gw_t5 7 rfl rfl, gw_p3 4 rfl rfl⟩
def mX10_isNear : Mi := (yX10_isNear, cX10_isNear, 4, (some .boolean))
theorem mvX10_isNear : MV mX10_isNear 2 := ⟨gw_t4 81 rfl rfl, gw_t1 1 rfl rfl, ⟨by decide, by decide⟩, by decide +kernel, by decide⟩
theorem msX10_isNear : Cond.static mX10_isNear.1 ∈ gw := gw_t4 80 rfl rfl
def mX10_greatestShared : Mi := (yX10_greatestShared, cX10_greatestShared, 4, (some .int))
theorem mvX10_greatestShared : MV mX10_greatestShared 2 := ⟨gw_t4 193 rfl rfl, gw_t1 1 rfl rfl, ⟨by decide, by decide⟩, by decide +kernel, by decide⟩
theorem msX10_greatestShared : Cond.static mX10_greatestShared.1 ∈ gw := gw_t4 192 rfl rfl
def mX10_ruled : Mi := (yX10_ruled, cX10_ruled, 6, (some .int))
theorem mvX10_ruled : MV mX10_ruled 3 := ⟨gw_t4 124 rfl rfl, gw_t1 1 rfl rfl, ⟨by decide, by decide⟩, by decide +kernel, by decide⟩
theorem miX10_ruled : MVi mX10_ruled := ⟨gw_t4 123 rfl rfl, gw_p2 13 rfl rfl⟩
def mX10_worthOfLook : Mi := (yX10_worthOfLook, cX10_worthOfLook, 4, (some .int))
theorem mvX10_worthOfLook : MV mX10_worthOfLook 2 := ⟨gw_t4 175 rfl rfl, gw_t1 1 rfl rfl, ⟨by decide, by decide⟩, by decide +kernel, by decide⟩
theorem miX10_worthOfLook : MVi mX10_worthOfLook := ⟨gw_t4 174 rfl rfl, gw_p2 14 rfl rfl⟩
def mX10_priceOfSet : Mi := (yX10_priceOfSet, cX10_priceOfSet, 4, (some .int))
theorem mvX10_priceOfSet : MV mX10_priceOfSet 2 := ⟨gw_t4 178 rfl rfl, gw_t1 1 rfl rfl, ⟨by decide, by decide⟩, by decide +kernel, by decide⟩
theorem msX10_priceOfSet : Cond.static mX10_priceOfSet.1 ∈ gw := gw_t4 177 rfl rfl
def mX10_worthOfSet : Mi := (yX10_worthOfSet, cX10_worthOfSet, 9, (some .int))
theorem mvX10_worthOfSet : MV mX10_worthOfSet 2 := ⟨gw_t4 182 rfl rfl, gw_t1 1 rfl rfl, ⟨by decide, by decide⟩, by decide +kernel, by decide⟩
theorem miX10_worthOfSet : MVi mX10_worthOfSet := ⟨gw_t4 181 rfl rfl, gw_p2 15 rfl rfl⟩
def mX10_cameTrue : Mi := (yX10_cameTrue, cX10_cameTrue, 5, (some .boolean))
theorem mvX10_cameTrue : MV mX10_cameTrue 2 := ⟨gw_t4 209 rfl rfl, gw_t1 1 rfl rfl, ⟨by decide, by decide⟩, by decide +kernel, by decide⟩
theorem miX10_cameTrue : MVi mX10_cameTrue := ⟨gw_t4 208 rfl rfl, gw_p3 1 rfl rfl⟩
def mX10_trueWarnings : Mi := (yX10_trueWarnings, cX10_trueWarnings, 4, (some .int))
theorem mvX10_trueWarnings : MV mX10_trueWarnings 1 := ⟨gw_t4 205 rfl rfl, gw_t1 1 rfl rfl, ⟨by decide, by decide⟩, by decide +kernel, by decide⟩
theorem miX10_trueWarnings : MVi mX10_trueWarnings := ⟨gw_t4 204 rfl rfl, gw_p3 0 rfl rfl⟩
def mX10_oldWarnings : Mi := (yX10_oldWarnings, cX10_oldWarnings, 5, (some .int))
theorem mvX10_oldWarnings : MV mX10_oldWarnings 1 := ⟨gw_t4 223 rfl rfl, gw_t1 1 rfl rfl, ⟨by decide, by decide⟩, by decide +kernel, by decide⟩
theorem miX10_oldWarnings : MVi mX10_oldWarnings := ⟨gw_t4 222 rfl rfl, gw_p3 3 rfl rfl⟩
def mX10_missedCells : Mi := (yX10_missedCells, cX10_missedCells, 5, (some .int))
theorem mvX10_missedCells : MV mX10_missedCells 1 := ⟨gw_t4 213 rfl rfl, gw_t1 1 rfl rfl, ⟨by decide, by decide⟩, by decide +kernel, by decide⟩
theorem miX10_missedCells : MVi mX10_missedCells := ⟨gw_t4 212 rfl rfl, gw_p3 2 rfl rfl⟩
def mX10_housesOfSet : Mi := (yX10_housesOfSet, cX10_housesOfSet, 4, (some .int))
theorem mvX10_housesOfSet : MV mX10_housesOfSet 2 := ⟨gw_t5 11 rfl rfl, gw_t1 1 rfl rfl, ⟨by decide, by decide⟩, by decide +kernel, by decide⟩
theorem msX10_housesOfSet : Cond.static mX10_housesOfSet.1 ∈ gw := gw_t5 10 rfl rfl
def mX10_peopleToMove : Mi := (yX10_peopleToMove, cX10_peopleToMove, 4, (some .int))
theorem mvX10_peopleToMove : MV mX10_peopleToMove 1 := ⟨gw_t5 15 rfl rfl, gw_t1 1 rfl rfl, ⟨by decide, by decide⟩, by decide +kernel, by decide⟩
theorem miX10_peopleToMove : MVi mX10_peopleToMove := ⟨gw_t5 14 rfl rfl, gw_p3 5 rfl rfl⟩
def mX10_sparedBy : Mi := (yX10_sparedBy, cX10_sparedBy, 5, (some .int))
theorem mvX10_sparedBy : MV mX10_sparedBy 1 := ⟨gw_t5 19 rfl rfl, gw_t1 1 rfl rfl, ⟨by decide, by decide⟩, by decide +kernel, by decide⟩
theorem miX10_sparedBy : MVi mX10_sparedBy := ⟨gw_t5 18 rfl rfl, gw_p3 6 rfl rfl⟩
def mX11_in : Mi := (yX11_in, cX11_in, 4, (some .boolean))
theorem mvX11_in : MV mX11_in 3 := ⟨gw_t6 89 rfl rfl, gw_t1 18 rfl rfl, ⟨by decide, by decide⟩, by decide +kernel, by decide⟩
theorem miX11_in : MVi mX11_in := ⟨gw_t6 88 rfl rfl, gw_p3 8 rfl rfl⟩
def mX11_isCell : Mi := (yX11_isCell, cX11_isCell, 2, (some .boolean))
theorem mvX11_isCell : MV mX11_isCell 1 := ⟨gw_t6 85 rfl rfl, gw_t1 18 rfl rfl, ⟨by decide, by decide⟩, by decide +kernel, by decide⟩
theorem miX11_isCell : MVi mX11_isCell := ⟨gw_t6 84 rfl rfl, gw_p3 7 rfl rfl⟩
def mX11_init : Mi := (yX11_init, cX11_init, 2, none)
theorem mvX11_init : MV mX11_init 0 := ⟨gw_t5 84 rfl rfl, gw_t1 18 rfl rfl, ⟨by decide, by decide⟩, by decide +kernel, by decide⟩
def mX11_ground : Mi := (yX11_ground, cX11_ground, 5, (some .int))
theorem mvX11_ground : MV mX11_ground 3 := ⟨gw_t6 81 rfl rfl, gw_t1 18 rfl rfl, ⟨by decide, by decide⟩, by decide +kernel, by decide⟩
theorem miX11_ground : MVi mX11_ground := ⟨gw_t6 79 rfl rfl, gw_t6 80 rfl rfl⟩
def mX11_house : Mi := (yX11_house, cX11_house, 4, (some .int))
theorem mvX11_house : MV mX11_house 3 := ⟨gw_t6 93 rfl rfl, gw_t1 18 rfl rfl, ⟨by decide, by decide⟩, by decide +kernel, by decide⟩
theorem miX11_house : MVi mX11_house := ⟨gw_t6 91 rfl rfl, gw_t6 92 rfl rfl⟩
def mX11_pump : Mi := (yX11_pump, cX11_pump, 2, (some .int))
theorem mvX11_pump : MV mX11_pump 1 := ⟨gw_t6 98 rfl rfl, gw_t1 18 rfl rfl, ⟨by decide, by decide⟩, by decide +kernel, by decide⟩
theorem miX11_pump : MVi mX11_pump := ⟨gw_t6 96 rfl rfl, gw_t6 97 rfl rfl⟩
def mX11_pumping : Mi := (yX11_pumping, cX11_pumping, 4, (some .int))
theorem mvX11_pumping : MV mX11_pumping 2 := ⟨gw_t6 102 rfl rfl, gw_t1 18 rfl rfl, ⟨by decide, by decide⟩, by decide +kernel, by decide⟩
theorem miX11_pumping : MVi mX11_pumping := ⟨gw_t6 100 rfl rfl, gw_t6 101 rfl rfl⟩
def mX11_rain : Mi := (yX11_rain, cX11_rain, 3, (some .int))
theorem mvX11_rain : MV mX11_rain 1 := ⟨gw_t6 106 rfl rfl, gw_t1 18 rfl rfl, ⟨by decide, by decide⟩, by decide +kernel, by decide⟩
theorem miX11_rain : MVi mX11_rain := ⟨gw_t6 104 rfl rfl, gw_t6 105 rfl rfl⟩
def mX11_isHouse : Mi := (yX11_isHouse, cX11_isHouse, 2, (some .boolean))
theorem mvX11_isHouse : MV mX11_isHouse 1 := ⟨gw_t6 114 rfl rfl, gw_t1 18 rfl rfl, ⟨by decide, by decide⟩, by decide +kernel, by decide⟩
theorem miX11_isHouse : MVi mX11_isHouse := ⟨gw_t6 113 rfl rfl, gw_p3 9 rfl rfl⟩
def mX11_move : Mi := (yX11_move, cX11_move, 2, (some .int))
theorem mvX11_move : MV mX11_move 1 := ⟨gw_t6 110 rfl rfl, gw_t1 18 rfl rfl, ⟨by decide, by decide⟩, by decide +kernel, by decide⟩
theorem miX11_move : MVi mX11_move := ⟨gw_t6 108 rfl rfl, gw_t6 109 rfl rfl⟩
def mX11_wentBy : Mi := (yX11_wentBy, cX11_wentBy, 3, none)
theorem mvX11_wentBy : MV mX11_wentBy 2 := ⟨gw_t6 126 rfl rfl, gw_t1 18 rfl rfl, ⟨by decide, by decide⟩, by decide +kernel, by decide⟩
theorem miX11_wentBy : MVi mX11_wentBy := ⟨gw_t6 125 rfl rfl, gw_p3 11 rfl rfl⟩
def mX11_between : Mi := (yX11_between, cX11_between, 4, none)
theorem mvX11_between : MV mX11_between 2 := ⟨gw_t6 130 rfl rfl, gw_t1 18 rfl rfl, ⟨by decide, by decide⟩, by decide +kernel, by decide⟩
theorem miX11_between : MVi mX11_between := ⟨gw_t6 129 rfl rfl, gw_p3 12 rfl rfl⟩
def mX11_harmOf : Mi := (yX11_harmOf, cX11_harmOf, 2, (some .int))
theorem mvX11_harmOf : MV mX11_harmOf 1 := ⟨gw_t6 134 rfl rfl, gw_t1 18 rfl rfl, ⟨by decide, by decide⟩, by decide +kernel, by decide⟩
theorem miX11_harmOf : MVi mX11_harmOf := ⟨gw_t6 133 rfl rfl, gw_p3 13 rfl rfl⟩
def mX11_goMonth : Mi := (yX11_goMonth, cX11_goMonth, 3, none)
theorem mvX11_goMonth : MV mX11_goMonth 0 := ⟨gw_t6 122 rfl rfl, gw_t1 18 rfl rfl, ⟨by decide, by decide⟩, by decide +kernel, by decide⟩
theorem miX11_goMonth : MVi mX11_goMonth := ⟨gw_t6 121 rfl rfl, gw_p3 10 rfl rfl⟩
def mX11_run : Mi := (yX11_run, cX11_run, 3, (some .int))
theorem mvX11_run : MV mX11_run 1 := ⟨gw_t6 118 rfl rfl, gw_t1 18 rfl rfl, ⟨by decide, by decide⟩, by decide +kernel, by decide⟩
theorem miX11_run : MVi mX11_run := ⟨gw_t6 116 rfl rfl, gw_t6 117 rfl rfl⟩
def mX11_isKnown : Mi := (yX11_isKnown, cX11_isKnown, 2, (some .boolean))
theorem mvX11_isKnown : MV mX11_isKnown 1 := ⟨gw_t6 154 rfl rfl, gw_t1 18 rfl rfl, ⟨by decide, by decide⟩, by decide +kernel, by decide⟩
theorem miX11_isKnown : MVi mX11_isKnown := ⟨gw_t6 153 rfl rfl, gw_p3 15 rfl rfl⟩
def mX11_sign : Mi := (yX11_sign, cX11_sign, 4, (some .int))
theorem mvX11_sign : MV mX11_sign 3 := ⟨gw_t6 138 rfl rfl, gw_t1 18 rfl rfl, ⟨by decide, by decide⟩, by decide +kernel, by decide⟩
theorem miX11_sign : MVi mX11_sign := ⟨gw_t6 136 rfl rfl, gw_t6 137 rfl rfl⟩
def mX11_isSign : Mi := (yX11_isSign, cX11_isSign, 2, (some .boolean))
theorem mvX11_isSign : MV mX11_isSign 1 := ⟨gw_t6 146 rfl rfl, gw_t1 18 rfl rfl, ⟨by decide, by decide⟩, by decide +kernel, by decide⟩
theorem miX11_isSign : MVi mX11_isSign := ⟨gw_t6 145 rfl rfl, gw_p3 14 rfl rfl⟩
def mX11_mend : Mi := (yX11_mend, cX11_mend, 3, (some .int))
theorem mvX11_mend : MV mX11_mend 2 := ⟨gw_t6 142 rfl rfl, gw_t1 18 rfl rfl, ⟨by decide, by decide⟩, by decide +kernel, by decide⟩
theorem miX11_mend : MVi mX11_mend := ⟨gw_t6 140 rfl rfl, gw_t6 141 rfl rfl⟩
def mX11_valueOf : Mi := (yX11_valueOf, cX11_valueOf, 3, (some .int))
theorem mvX11_valueOf : MV mX11_valueOf 2 := ⟨gw_t6 158 rfl rfl, gw_t1 18 rfl rfl, ⟨by decide, by decide⟩, by decide +kernel, by decide⟩
theorem miX11_valueOf : MVi mX11_valueOf := ⟨gw_t6 157 rfl rfl, gw_p4 0 rfl rfl⟩
def mX11_leastOf : Mi := (yX11_leastOf, cX11_leastOf, 5, (some .int))
theorem mvX11_leastOf : MV mX11_leastOf 2 := ⟨gw_t6 162 rfl rfl, gw_t1 18 rfl rfl, ⟨by decide, by decide⟩, by decide +kernel, by decide⟩
theorem miX11_leastOf : MVi mX11_leastOf := ⟨gw_t6 161 rfl rfl, gw_p4 1 rfl rfl⟩
def mX11_mostOf : Mi := (yX11_mostOf, cX11_mostOf, 3, (some .int))
theorem mvX11_mostOf : MV mX11_mostOf 2 := ⟨gw_t6 166 rfl rfl, gw_t1 18 rfl rfl, ⟨by decide, by decide⟩, by decide +kernel, by decide⟩
theorem miX11_mostOf : MVi mX11_mostOf := ⟨gw_t6 165 rfl rfl, gw_p4 2 rfl rfl⟩
def mX11_trustOf : Mi := (yX11_trustOf, cX11_trustOf, 2, (some .int))
theorem mvX11_trustOf : MV mX11_trustOf 1 := ⟨gw_t6 170 rfl rfl, gw_t1 18 rfl rfl, ⟨by decide, by decide⟩, by decide +kernel, by decide⟩
theorem miX11_trustOf : MVi mX11_trustOf := ⟨gw_t6 169 rfl rfl, gw_p4 3 rfl rfl⟩
def mX11_signTold : Mi := (yX11_signTold, cX11_signTold, 4, (some .int))
theorem mvX11_signTold : MV mX11_signTold 3 := ⟨gw_t6 150 rfl rfl, gw_t1 18 rfl rfl, ⟨by decide, by decide⟩, by decide +kernel, by decide⟩
theorem miX11_signTold : MVi mX11_signTold := ⟨gw_t6 148 rfl rfl, gw_t6 149 rfl rfl⟩
def mX11_findSpan : Mi := (yX11_findSpan, cX11_findSpan, 5, none)
theorem mvX11_findSpan : MV mX11_findSpan 3 := ⟨gw_t6 178 rfl rfl, gw_t1 18 rfl rfl, ⟨by decide, by decide⟩, by decide +kernel, by decide⟩
theorem miX11_findSpan : MVi mX11_findSpan := ⟨gw_t6 177 rfl rfl, gw_p4 4 rfl rfl⟩
def mX11_span : Mi := (yX11_span, cX11_span, 4, (some .int))
theorem mvX11_span : MV mX11_span 3 := ⟨gw_t6 174 rfl rfl, gw_t1 18 rfl rfl, ⟨by decide, by decide⟩, by decide +kernel, by decide⟩
theorem miX11_span : MVi mX11_span := ⟨gw_t6 172 rfl rfl, gw_t6 173 rfl rfl⟩
def mX11_lost : Mi := (yX11_lost, cX11_lost, 3, (some .int))
theorem mvX11_lost : MV mX11_lost 2 := ⟨gw_t6 182 rfl rfl, gw_t1 18 rfl rfl, ⟨by decide, by decide⟩, by decide +kernel, by decide⟩
theorem miX11_lost : MVi mX11_lost := ⟨gw_t6 180 rfl rfl, gw_t6 181 rfl rfl⟩
def mX11_isNear : Mi := (yX11_isNear, cX11_isNear, 5, (some .boolean))
theorem mvX11_isNear : MV mX11_isNear 2 := ⟨gw_t6 198 rfl rfl, gw_t1 18 rfl rfl, ⟨by decide, by decide⟩, by decide +kernel, by decide⟩
theorem miX11_isNear : MVi mX11_isNear := ⟨gw_t6 197 rfl rfl, gw_p4 7 rfl rfl⟩
def mX11_isFit : Mi := (yX11_isFit, cX11_isFit, 6, (some .boolean))
theorem mvX11_isFit : MV mX11_isFit 1 := ⟨gw_t6 194 rfl rfl, gw_t1 18 rfl rfl, ⟨by decide, by decide⟩, by decide +kernel, by decide⟩
theorem miX11_isFit : MVi mX11_isFit := ⟨gw_t6 193 rfl rfl, gw_p4 6 rfl rfl⟩
def mX11_fit : Mi := (yX11_fit, cX11_fit, 11, (some .int))
theorem mvX11_fit : MV mX11_fit 2 := ⟨gw_t6 186 rfl rfl, gw_t1 18 rfl rfl, ⟨by decide, by decide⟩, by decide +kernel, by decide⟩
theorem miX11_fit : MVi mX11_fit := ⟨gw_t6 184 rfl rfl, gw_t6 185 rfl rfl⟩
def mX11_fitTold : Mi := (yX11_fitTold, cX11_fitTold, 3, (some .int))
theorem mvX11_fitTold : MV mX11_fitTold 2 := ⟨gw_t6 202 rfl rfl, gw_t1 18 rfl rfl, ⟨by decide, by decide⟩, by decide +kernel, by decide⟩
theorem miX11_fitTold : MVi mX11_fitTold := ⟨gw_t6 200 rfl rfl, gw_t6 201 rfl rfl⟩
def mX11_feed : Mi := (yX11_feed, cX11_feed, 5, (some .int))
theorem mvX11_feed : MV mX11_feed 2 := ⟨gw_t6 206 rfl rfl, gw_t1 18 rfl rfl, ⟨by decide, by decide⟩, by decide +kernel, by decide⟩
theorem miX11_feed : MVi mX11_feed := ⟨gw_t6 204 rfl rfl, gw_t6 205 rfl rfl⟩
def mX11_byteAt : Mi := (yX11_byteAt, cX11_byteAt, 2, (some .int))
theorem mvX11_byteAt : MV mX11_byteAt 1 := ⟨gw_t6 222 rfl rfl, gw_t1 18 rfl rfl, ⟨by decide, by decide⟩, by decide +kernel, by decide⟩
theorem miX11_byteAt : MVi mX11_byteAt := ⟨gw_t6 221 rfl rfl, gw_p4 10 rfl rfl⟩
def mX11_isLetter : Mi := (yX11_isLetter, cX11_isLetter, 2, (some .boolean))
theorem mvX11_isLetter : MV mX11_isLetter 1 := ⟨gw_t6 226 rfl rfl, gw_t1 18 rfl rfl, ⟨by decide, by decide⟩, by decide +kernel, by decide⟩
theorem miX11_isLetter : MVi mX11_isLetter := ⟨gw_t6 225 rfl rfl, gw_p4 11 rfl rfl⟩
def mX11_isDigit : Mi := (yX11_isDigit, cX11_isDigit, 2, (some .boolean))
theorem mvX11_isDigit : MV mX11_isDigit 1 := ⟨gw_t7 11 rfl rfl, gw_t1 18 rfl rfl, ⟨by decide, by decide⟩, by decide +kernel, by decide⟩
theorem miX11_isDigit : MVi mX11_isDigit := ⟨gw_t7 10 rfl rfl, gw_p4 13 rfl rfl⟩
def mX11_wordOf : Mi := (yX11_wordOf, cX11_wordOf, 3, (some .int))
theorem mvX11_wordOf : MV mX11_wordOf 1 := ⟨gw_t6 233 rfl rfl, gw_t1 18 rfl rfl, ⟨by decide, by decide⟩, by decide +kernel, by decide⟩
theorem miX11_wordOf : MVi mX11_wordOf := ⟨gw_t6 232 rfl rfl, gw_p4 12 rfl rfl⟩
def mX11_step : Mi := (yX11_step, cX11_step, 5, none)
theorem mvX11_step : MV mX11_step 0 := ⟨gw_t6 218 rfl rfl, gw_t1 18 rfl rfl, ⟨by decide, by decide⟩, by decide +kernel, by decide⟩
theorem miX11_step : MVi mX11_step := ⟨gw_t6 217 rfl rfl, gw_p4 9 rfl rfl⟩
def mX11_isKey : Mi := (yX11_isKey, cX11_isKey, 2, (some .boolean))
theorem mvX11_isKey : MV mX11_isKey 1 := ⟨gw_t7 15 rfl rfl, gw_t1 18 rfl rfl, ⟨by decide, by decide⟩, by decide +kernel, by decide⟩
theorem miX11_isKey : MVi mX11_isKey := ⟨gw_t7 14 rfl rfl, gw_p4 14 rfl rfl⟩
def mX11_rankOf : Mi := (yX11_rankOf, cX11_rankOf, 2, (some .int))
theorem mvX11_rankOf : MV mX11_rankOf 1 := ⟨gw_t7 35 rfl rfl, gw_t1 18 rfl rfl, ⟨by decide, by decide⟩, by decide +kernel, by decide⟩
theorem miX11_rankOf : MVi mX11_rankOf := ⟨gw_t7 34 rfl rfl, gw_p5 3 rfl rfl⟩
def mX11_work : Mi := (yX11_work, cX11_work, 4, none)
theorem mvX11_work : MV mX11_work 1 := ⟨gw_t7 39 rfl rfl, gw_t1 18 rfl rfl, ⟨by decide, by decide⟩, by decide +kernel, by decide⟩
theorem miX11_work : MVi mX11_work := ⟨gw_t7 38 rfl rfl, gw_p5 4 rfl rfl⟩
def mX11_settle : Mi := (yX11_settle, cX11_settle, 2, none)
theorem mvX11_settle : MV mX11_settle 1 := ⟨gw_t7 31 rfl rfl, gw_t1 18 rfl rfl, ⟨by decide, by decide⟩, by decide +kernel, by decide⟩
theorem miX11_settle : MVi mX11_settle := ⟨gw_t7 30 rfl rfl, gw_p5 2 rfl rfl⟩
def mX11_opens : Mi := (yX11_opens, cX11_opens, 2, (some .boolean))
theorem mvX11_opens : MV mX11_opens 1 := ⟨gw_t7 23 rfl rfl, gw_t1 18 rfl rfl, ⟨by decide, by decide⟩, by decide +kernel, by decide⟩
theorem miX11_opens : MVi mX11_opens := ⟨gw_t7 22 rfl rfl, gw_p5 0 rfl rfl⟩
def mX11_push : Mi := (yX11_push, cX11_push, 2, none)
theorem mvX11_push : MV mX11_push 1 := ⟨gw_t7 27 rfl rfl, gw_t1 18 rfl rfl, ⟨by decide, by decide⟩, by decide +kernel, by decide⟩
theorem miX11_push : MVi mX11_push := ⟨gw_t7 26 rfl rfl, gw_p5 1 rfl rfl⟩
def mX11_joins : Mi := (yX11_joins, cX11_joins, 2, (some .boolean))
theorem mvX11_joins : MV mX11_joins 1 := ⟨gw_t7 47 rfl rfl, gw_t1 18 rfl rfl, ⟨by decide, by decide⟩, by decide +kernel, by decide⟩
theorem miX11_joins : MVi mX11_joins := ⟨gw_t7 46 rfl rfl, gw_p5 6 rfl rfl⟩
def mX11_joint : Mi := (yX11_joint, cX11_joint, 1, (some .int))
theorem mvX11_joint : MV mX11_joint 0 := ⟨gw_t7 43 rfl rfl, gw_t1 18 rfl rfl, ⟨by decide, by decide⟩, by decide +kernel, by decide⟩
theorem miX11_joint : MVi mX11_joint := ⟨gw_t7 42 rfl rfl, gw_p5 5 rfl rfl⟩
def mX11_takesE : Mi := (yX11_takesE, cX11_takesE, 4, (some .boolean))
theorem mvX11_takesE : MV mX11_takesE 0 := ⟨gw_t7 19 rfl rfl, gw_t1 18 rfl rfl, ⟨by decide, by decide⟩, by decide +kernel, by decide⟩
theorem miX11_takesE : MVi mX11_takesE := ⟨gw_t7 18 rfl rfl, gw_p4 15 rfl rfl⟩
def mX11_goes : Mi := (yX11_goes, cX11_goes, 3, (some .boolean))
theorem mvX11_goes : MV mX11_goes 1 := ⟨gw_t6 214 rfl rfl, gw_t1 18 rfl rfl, ⟨by decide, by decide⟩, by decide +kernel, by decide⟩
theorem miX11_goes : MVi mX11_goes := ⟨gw_t6 213 rfl rfl, gw_p4 8 rfl rfl⟩
def mX11_text : Mi := (yX11_text, cX11_text, 2, (some .int))
theorem mvX11_text : MV mX11_text 0 := ⟨gw_t6 210 rfl rfl, gw_t1 18 rfl rfl, ⟨by decide, by decide⟩, by decide +kernel, by decide⟩
theorem miX11_text : MVi mX11_text := ⟨gw_t6 208 rfl rfl, gw_t6 209 rfl rfl⟩
def mX11_force : Mi := (yX11_force, cX11_force, 3, (some .int))
theorem mvX11_force : MV mX11_force 1 := ⟨gw_t7 51 rfl rfl, gw_t1 18 rfl rfl, ⟨by decide, by decide⟩, by decide +kernel, by decide⟩
theorem miX11_force : MVi mX11_force := ⟨gw_t7 49 rfl rfl, gw_t7 50 rfl rfl⟩
def mX11_peopleIn : Mi := (yX11_peopleIn, cX11_peopleIn, 4, (some .int))
theorem mvX11_peopleIn : MV mX11_peopleIn 1 := ⟨gw_t7 71 rfl rfl, gw_t1 18 rfl rfl, ⟨by decide, by decide⟩, by decide +kernel, by decide⟩
theorem miX11_peopleIn : MVi mX11_peopleIn := ⟨gw_t7 70 rfl rfl, gw_p5 10 rfl rfl⟩
def mX11_doubtOf : Mi := (yX11_doubtOf, cX11_doubtOf, 3, (some .int))
theorem mvX11_doubtOf : MV mX11_doubtOf 2 := ⟨gw_t7 67 rfl rfl, gw_t1 18 rfl rfl, ⟨by decide, by decide⟩, by decide +kernel, by decide⟩
theorem miX11_doubtOf : MVi mX11_doubtOf := ⟨gw_t7 66 rfl rfl, gw_p5 9 rfl rfl⟩
def mX11_findFacts : Mi := (yX11_findFacts, cX11_findFacts, 4, none)
theorem mvX11_findFacts : MV mX11_findFacts 2 := ⟨gw_t7 63 rfl rfl, gw_t1 18 rfl rfl, ⟨by decide, by decide⟩, by decide +kernel, by decide⟩
theorem miX11_findFacts : MVi mX11_findFacts := ⟨gw_t7 62 rfl rfl, gw_p5 8 rfl rfl⟩
def mX11_lawOf : Mi := (yX11_lawOf, cX11_lawOf, 4, (some .int))
theorem mvX11_lawOf : MV mX11_lawOf 3 := ⟨gw_t7 59 rfl rfl, gw_t1 18 rfl rfl, ⟨by decide, by decide⟩, by decide +kernel, by decide⟩
theorem miX11_lawOf : MVi mX11_lawOf := ⟨gw_t7 58 rfl rfl, gw_p5 7 rfl rfl⟩
def mX11_law : Mi := (yX11_law, cX11_law, 4, (some .long))
theorem mvX11_law : MV mX11_law 3 := ⟨gw_t7 55 rfl rfl, gw_t1 18 rfl rfl, ⟨by decide, by decide⟩, by decide +kernel, by decide⟩
theorem miX11_law : MVi mX11_law := ⟨gw_t7 53 rfl rfl, gw_t7 54 rfl rfl⟩
def mX11_moved : Mi := (yX11_moved, cX11_moved, 5, (some .long))
theorem mvX11_moved : MV mX11_moved 1 := ⟨gw_t7 76 rfl rfl, gw_t1 18 rfl rfl, ⟨by decide, by decide⟩, by decide +kernel, by decide⟩
theorem miX11_moved : MVi mX11_moved := ⟨gw_t7 74 rfl rfl, gw_t7 75 rfl rfl⟩
def mX11_part : Mi := (yX11_part, cX11_part, 6, (some .long))
theorem mvX11_part : MV mX11_part 2 := ⟨gw_t7 80 rfl rfl, gw_t1 18 rfl rfl, ⟨by decide, by decide⟩, by decide +kernel, by decide⟩
theorem miX11_part : MVi mX11_part := ⟨gw_t7 78 rfl rfl, gw_t7 79 rfl rfl⟩
def mX11_looks : Mi := (yX11_looks, cX11_looks, 13, (some .int))
theorem mvX11_looks : MV mX11_looks 3 := ⟨gw_t7 85 rfl rfl, gw_t1 18 rfl rfl, ⟨by decide, by decide⟩, by decide +kernel, by decide⟩
theorem miX11_looks : MVi mX11_looks := ⟨gw_t7 83 rfl rfl, gw_t7 84 rfl rfl⟩
def mX11_lookTold : Mi := (yX11_lookTold, cX11_lookTold, 1, (some .int))
theorem mvX11_lookTold : MV mX11_lookTold 0 := ⟨gw_t7 90 rfl rfl, gw_t1 18 rfl rfl, ⟨by decide, by decide⟩, by decide +kernel, by decide⟩
theorem miX11_lookTold : MVi mX11_lookTold := ⟨gw_t7 88 rfl rfl, gw_t7 89 rfl rfl⟩
def mX11_divisor : Mi := (yX11_divisor, cX11_divisor, 11, (some .long))
theorem mvX11_divisor : MV mX11_divisor 2 := ⟨gw_t7 98 rfl rfl, gw_t1 18 rfl rfl, ⟨by decide, by decide⟩, by decide +kernel, by decide⟩
theorem miX11_divisor : MVi mX11_divisor := ⟨gw_t7 97 rfl rfl, gw_p5 11 rfl rfl⟩
def mX11_often : Mi := (yX11_often, cX11_often, 5, (some .long))
theorem mvX11_often : MV mX11_often 2 := ⟨gw_t7 94 rfl rfl, gw_t1 18 rfl rfl, ⟨by decide, by decide⟩, by decide +kernel, by decide⟩
theorem miX11_often : MVi mX11_often := ⟨gw_t7 92 rfl rfl, gw_t7 93 rfl rfl⟩
def mX11_warn : Mi := (yX11_warn, cX11_warn, 2, (some .int))
theorem mvX11_warn : MV mX11_warn 1 := ⟨gw_t7 102 rfl rfl, gw_t1 18 rfl rfl, ⟨by decide, by decide⟩, by decide +kernel, by decide⟩
theorem miX11_warn : MVi mX11_warn := ⟨gw_t7 100 rfl rfl, gw_t7 101 rfl rfl⟩
def mX11_isTrue : Mi := (yX11_isTrue, cX11_isTrue, 3, (some .boolean))
theorem mvX11_isTrue : MV mX11_isTrue 2 := ⟨gw_t7 110 rfl rfl, gw_t1 18 rfl rfl, ⟨by decide, by decide⟩, by decide +kernel, by decide⟩
theorem miX11_isTrue : MVi mX11_isTrue := ⟨gw_t7 109 rfl rfl, gw_p5 12 rfl rfl⟩
def mX11_warned : Mi := (yX11_warned, cX11_warned, 7, (some .int))
theorem mvX11_warned : MV mX11_warned 2 := ⟨gw_t7 106 rfl rfl, gw_t1 18 rfl rfl, ⟨by decide, by decide⟩, by decide +kernel, by decide⟩
theorem miX11_warned : MVi mX11_warned := ⟨gw_t7 104 rfl rfl, gw_t7 105 rfl rfl⟩
def mX11_cellTold : Mi := (yX11_cellTold, cX11_cellTold, 3, (some .int))
theorem mvX11_cellTold : MV mX11_cellTold 2 := ⟨gw_t7 114 rfl rfl, gw_t1 18 rfl rfl, ⟨by decide, by decide⟩, by decide +kernel, by decide⟩
theorem miX11_cellTold : MVi mX11_cellTold := ⟨gw_t7 112 rfl rfl, gw_t7 113 rfl rfl⟩
def mX11_houseTold : Mi := (yX11_houseTold, cX11_houseTold, 3, (some .int))
theorem mvX11_houseTold : MV mX11_houseTold 2 := ⟨gw_t7 118 rfl rfl, gw_t1 18 rfl rfl, ⟨by decide, by decide⟩, by decide +kernel, by decide⟩
theorem miX11_houseTold : MVi mX11_houseTold := ⟨gw_t7 116 rfl rfl, gw_t7 117 rfl rfl⟩
def mX11_cellsFallen : Mi := (yX11_cellsFallen, cX11_cellsFallen, 3, (some .int))
theorem mvX11_cellsFallen : MV mX11_cellsFallen 0 := ⟨gw_t7 126 rfl rfl, gw_t1 18 rfl rfl, ⟨by decide, by decide⟩, by decide +kernel, by decide⟩
theorem miX11_cellsFallen : MVi mX11_cellsFallen := ⟨gw_t7 125 rfl rfl, gw_p5 13 rfl rfl⟩
def mX11_keep : Mi := (yX11_keep, cX11_keep, 3, none)
theorem mvX11_keep : MV mX11_keep 1 := ⟨gw_t7 130 rfl rfl, gw_t1 18 rfl rfl, ⟨by decide, by decide⟩, by decide +kernel, by decide⟩
theorem miX11_keep : MVi mX11_keep := ⟨gw_t7 129 rfl rfl, gw_p5 14 rfl rfl⟩
def mX11_putBack : Mi := (yX11_putBack, cX11_putBack, 5, none)
theorem mvX11_putBack : MV mX11_putBack 3 := ⟨gw_t7 134 rfl rfl, gw_t1 18 rfl rfl, ⟨by decide, by decide⟩, by decide +kernel, by decide⟩
theorem miX11_putBack : MVi mX11_putBack := ⟨gw_t7 133 rfl rfl, gw_p5 15 rfl rfl⟩
def mX11_beside : Mi := (yX11_beside, cX11_beside, 9, (some .long))
theorem mvX11_beside : MV mX11_beside 4 := ⟨gw_t7 122 rfl rfl, gw_t1 18 rfl rfl, ⟨by decide, by decide⟩, by decide +kernel, by decide⟩
theorem miX11_beside : MVi mX11_beside := ⟨gw_t7 120 rfl rfl, gw_t7 121 rfl rfl⟩
def mX11_plan : Mi := (yX11_plan, cX11_plan, 13, (some .long))
theorem mvX11_plan : MV mX11_plan 3 := ⟨gw_t7 138 rfl rfl, gw_t1 18 rfl rfl, ⟨by decide, by decide⟩, by decide +kernel, by decide⟩
theorem miX11_plan : MVi mX11_plan := ⟨gw_t7 136 rfl rfl, gw_t7 137 rfl rfl⟩
def mX11_planned : Mi := (yX11_planned, cX11_planned, 1, (some .int))
theorem mvX11_planned : MV mX11_planned 0 := ⟨gw_t7 142 rfl rfl, gw_t1 18 rfl rfl, ⟨by decide, by decide⟩, by decide +kernel, by decide⟩
theorem miX11_planned : MVi mX11_planned := ⟨gw_t7 140 rfl rfl, gw_t7 141 rfl rfl⟩
def mX11_image : Mi := (yX11_image, cX11_image, 1, (some .int))
theorem mvX11_image : MV mX11_image 0 := ⟨gw_t7 146 rfl rfl, gw_t1 18 rfl rfl, ⟨by decide, by decide⟩, by decide +kernel, by decide⟩
theorem miX11_image : MVi mX11_image := ⟨gw_t7 144 rfl rfl, gw_t7 145 rfl rfl⟩
def mX11_back : Mi := (yX11_back, cX11_back, 1, (some .int))
theorem mvX11_back : MV mX11_back 0 := ⟨gw_t7 150 rfl rfl, gw_t1 18 rfl rfl, ⟨by decide, by decide⟩, by decide +kernel, by decide⟩
theorem miX11_back : MVi mX11_back := ⟨gw_t7 148 rfl rfl, gw_t7 149 rfl rfl⟩
def mX11_count : Mi := (yX11_count, cX11_count, 2, (some .int))
theorem mvX11_count : MV mX11_count 1 := ⟨gw_t7 154 rfl rfl, gw_t1 18 rfl rfl, ⟨by decide, by decide⟩, by decide +kernel, by decide⟩
theorem miX11_count : MVi mX11_count := ⟨gw_t7 152 rfl rfl, gw_t7 153 rfl rfl⟩
def mX11_isSheet : Mi := (yX11_isSheet, cX11_isSheet, 2, (some .boolean))
theorem mvX11_isSheet : MV mX11_isSheet 1 := ⟨gw_t6 190 rfl rfl, gw_t1 18 rfl rfl, ⟨by decide, by decide⟩, by decide +kernel, by decide⟩
theorem miX11_isSheet : MVi mX11_isSheet := ⟨gw_t6 189 rfl rfl, gw_p4 5 rfl rfl⟩
def mX11_sheet : Mi := (yX11_sheet, cX11_sheet, 5, (some .int))
theorem mvX11_sheet : MV mX11_sheet 3 := ⟨gw_t7 158 rfl rfl, gw_t1 18 rfl rfl, ⟨by decide, by decide⟩, by decide +kernel, by decide⟩
theorem miX11_sheet : MVi mX11_sheet := ⟨gw_t7 156 rfl rfl, gw_t7 157 rfl rfl⟩
def mX11_cell : Mi := (yX11_cell, cX11_cell, 4, (some .int))
theorem mvX11_cell : MV mX11_cell 3 := ⟨gw_t7 162 rfl rfl, gw_t1 18 rfl rfl, ⟨by decide, by decide⟩, by decide +kernel, by decide⟩
theorem miX11_cell : MVi mX11_cell := ⟨gw_t7 160 rfl rfl, gw_t7 161 rfl rfl⟩
def mX11_copy : Mi := (yX11_copy, cX11_copy, 7, (some .int))
theorem mvX11_copy : MV mX11_copy 5 := ⟨gw_t7 166 rfl rfl, gw_t1 18 rfl rfl, ⟨by decide, by decide⟩, by decide +kernel, by decide⟩
theorem miX11_copy : MVi mX11_copy := ⟨gw_t7 164 rfl rfl, gw_t7 165 rfl rfl⟩
def mX11_signs : Mi := (yX11_signs, cX11_signs, 8, (some .int))
theorem mvX11_signs : MV mX11_signs 4 := ⟨gw_t7 170 rfl rfl, gw_t1 18 rfl rfl, ⟨by decide, by decide⟩, by decide +kernel, by decide⟩
theorem miX11_signs : MVi mX11_signs := ⟨gw_t7 168 rfl rfl, gw_t7 169 rfl rfl⟩
def mX11_isOfKind : Mi := (yX11_isOfKind, cX11_isOfKind, 3, (some .boolean))
theorem mvX11_isOfKind : MV mX11_isOfKind 2 := ⟨gw_t7 179 rfl rfl, gw_t1 18 rfl rfl, ⟨by decide, by decide⟩, by decide +kernel, by decide⟩
theorem miX11_isOfKind : MVi mX11_isOfKind := ⟨gw_t7 178 rfl rfl, gw_p6 0 rfl rfl⟩
def mX11_taken : Mi := (yX11_taken, cX11_taken, 4, (some .int))
theorem mvX11_taken : MV mX11_taken 3 := ⟨gw_t7 175 rfl rfl, gw_t1 18 rfl rfl, ⟨by decide, by decide⟩, by decide +kernel, by decide⟩
theorem miX11_taken : MVi mX11_taken := ⟨gw_t7 173 rfl rfl, gw_t7 174 rfl rfl⟩
def mJ13_bitCount_95d88 : Mi := (yJ13_bitCount_95d88, cJ13_bitCount_95d88, 2, (some .int))
theorem mvJ13_bitCount_95d88 : MV mJ13_bitCount_95d88 1 := ⟨gw_t4 216 rfl rfl, gw_t1 19 rfl rfl, ⟨by decide, by decide⟩, by decide +kernel, by decide⟩
theorem msJ13_bitCount_95d88 : Cond.static mJ13_bitCount_95d88.1 ∈ gw := gw_t4 215 rfl rfl
def mJ9_abs_0f7a4 : Mi := (yJ9_abs_0f7a4, cJ9_abs_0f7a4, 1, (some .int))
theorem mvJ9_abs_0f7a4 : MV mJ9_abs_0f7a4 1 := ⟨gw_t3 207 rfl rfl, gw_t1 6 rfl rfl, ⟨by decide, by decide⟩, by decide +kernel, by decide⟩
theorem msJ9_abs_0f7a4 : Cond.static mJ9_abs_0f7a4.1 ∈ gw := gw_t3 206 rfl rfl
def mJ9_max_7cf53 : Mi := (yJ9_max_7cf53, cJ9_max_7cf53, 2, (some .int))
theorem mvJ9_max_7cf53 : MV mJ9_max_7cf53 2 := ⟨gw_t1 179 rfl rfl, gw_t1 6 rfl rfl, ⟨by decide, by decide⟩, by decide +kernel, by decide⟩
theorem msJ9_max_7cf53 : Cond.static mJ9_max_7cf53.1 ∈ gw := gw_t1 178 rfl rfl
def mJ9_min_7cf53 : Mi := (yJ9_min_7cf53, cJ9_min_7cf53, 2, (some .int))
theorem mvJ9_min_7cf53 : MV mJ9_min_7cf53 2 := ⟨gw_t3 185 rfl rfl, gw_t1 6 rfl rfl, ⟨by decide, by decide⟩, by decide +kernel, by decide⟩
theorem msJ9_min_7cf53 : Cond.static mJ9_min_7cf53.1 ∈ gw := gw_t3 184 rfl rfl
def mJ0_length_8abf5 : Mi := (yJ0_length_8abf5, cJ0_length_8abf5, 1, (some .int))
theorem mvJ0_length_8abf5 : MV mJ0_length_8abf5 0 := ⟨gw_t2 149 rfl rfl, gw_t1 13 rfl rfl, ⟨by decide, by decide⟩, by decide +kernel, by decide⟩
theorem miJ0_length_8abf5 : MVi mJ0_length_8abf5 := ⟨gw_t2 147 rfl rfl, gw_t2 148 rfl rfl⟩
def mJ0_charAt_5068e : Mi := (yJ0_charAt_5068e, cJ0_charAt_5068e, 2, (some .char))
theorem mvJ0_charAt_5068e : MV mJ0_charAt_5068e 1 := ⟨gw_t2 159 rfl rfl, gw_t1 13 rfl rfl, ⟨by decide, by decide⟩, by decide +kernel, by decide⟩
theorem miJ0_charAt_5068e : MVi mJ0_charAt_5068e := ⟨gw_t2 157 rfl rfl, gw_t2 158 rfl rfl⟩
def mJ0_coder_7d493 : Mi := (yJ0_coder_7d493, cJ0_coder_7d493, 1, (some .byte))
theorem mvJ0_coder_7d493 : MV mJ0_coder_7d493 0 := ⟨gw_t2 153 rfl rfl, gw_t1 13 rfl rfl, ⟨by decide, by decide⟩, by decide +kernel, by decide⟩
theorem miJ0_coder_7d493 : MVi mJ0_coder_7d493 := ⟨gw_t2 151 rfl rfl, gw_t2 152 rfl rfl⟩
def mJ0_isLatin1_aae02 : Mi := (yJ0_isLatin1_aae02, cJ0_isLatin1_aae02, 1, (some .boolean))
theorem mvJ0_isLatin1_aae02 : MV mJ0_isLatin1_aae02 0 := ⟨gw_t2 163 rfl rfl, gw_t1 13 rfl rfl, ⟨by decide, by decide⟩, by decide +kernel, by decide⟩
theorem miJ0_isLatin1_aae02 : MVi mJ0_isLatin1_aae02 := ⟨gw_t2 161 rfl rfl, gw_t2 162 rfl rfl⟩
def mJ0_checkIndex_df160 : Mi := (yJ0_checkIndex_df160, cJ0_checkIndex_df160, 2, none)
theorem mvJ0_checkIndex_df160 : MV mJ0_checkIndex_df160 2 := ⟨gw_t2 169 rfl rfl, gw_t1 13 rfl rfl, ⟨by decide, by decide⟩, by decide +kernel, by decide⟩
theorem msJ0_checkIndex_df160 : Cond.static mJ0_checkIndex_df160.1 ∈ gw := gw_t2 168 rfl rfl
def mJ1_charAt_3b067 : Mi := (yJ1_charAt_3b067, cJ1_charAt_3b067, 2, (some .char))
theorem mvJ1_charAt_3b067 : MV mJ1_charAt_3b067 2 := ⟨gw_t2 166 rfl rfl, gw_t1 14 rfl rfl, ⟨by decide, by decide⟩, by decide +kernel, by decide⟩
theorem msJ1_charAt_3b067 : Cond.static mJ1_charAt_3b067.1 ∈ gw := gw_t2 165 rfl rfl
def mJ2_getChar_3b067 : Mi := (yJ2_getChar_3b067, cJ2_getChar_3b067, 2, (some .char))
theorem mvJ2_getChar_3b067 : MV mJ2_getChar_3b067 2 := ⟨gw_t2 187 rfl rfl, gw_t1 16 rfl rfl, ⟨by decide, by decide⟩, by decide +kernel, by decide⟩
theorem msJ2_getChar_3b067 : Cond.static mJ2_getChar_3b067.1 ∈ gw := gw_t2 186 rfl rfl
def mJ2_length_9d52b : Mi := (yJ2_length_9d52b, cJ2_length_9d52b, 1, (some .int))
theorem mvJ2_length_9d52b : MV mJ2_length_9d52b 1 := ⟨gw_t2 183 rfl rfl, gw_t1 16 rfl rfl, ⟨by decide, by decide⟩, by decide +kernel, by decide⟩
theorem msJ2_length_9d52b : Cond.static mJ2_length_9d52b.1 ∈ gw := gw_t2 182 rfl rfl
def mJ2_charAt_3b067 : Mi := (yJ2_charAt_3b067, cJ2_charAt_3b067, 2, (some .char))
theorem mvJ2_charAt_3b067 : MV mJ2_charAt_3b067 2 := ⟨gw_t2 177 rfl rfl, gw_t1 16 rfl rfl, ⟨by decide, by decide⟩, by decide +kernel, by decide⟩
theorem msJ2_charAt_3b067 : Cond.static mJ2_charAt_3b067.1 ∈ gw := gw_t2 176 rfl rfl
def mJ2_checkIndex_2214a : Mi := (yJ2_checkIndex_2214a, cJ2_checkIndex_2214a, 2, none)
theorem mvJ2_checkIndex_2214a : MV mJ2_checkIndex_2214a 2 := ⟨gw_t2 180 rfl rfl, gw_t1 16 rfl rfl, ⟨by decide, by decide⟩, by decide +kernel, by decide⟩
theorem msJ2_checkIndex_2214a : Cond.static mJ2_checkIndex_2214a.1 ∈ gw := gw_t2 179 rfl rfl
def mJ3_checkIndex_8e157 : Mi := (yJ3_checkIndex_8e157, cJ3_checkIndex_8e157, 3, (some .int))
theorem mvJ3_checkIndex_8e157 : MV mJ3_checkIndex_8e157 3 := ⟨gw_t2 174 rfl rfl, gw_t1 15 rfl rfl, ⟨by decide, by decide⟩, by decide +kernel, by decide⟩
theorem msJ3_checkIndex_8e157 : Cond.static mJ3_checkIndex_8e157.1 ∈ gw := gw_t2 173 rfl rfl
theorem mlX10_18 : Cond.methodLink RX10 18 mX2_init.1 ∈ gw := gw_t1 67 rfl rfl
theorem mlX10_44 : Cond.methodLink RX10 44 mX9_init.1 ∈ gw := gw_t1 173 rfl rfl
theorem mlX10_63 : Cond.methodLink RX10 63 mX4_init.1 ∈ gw := gw_t2 14 rfl rfl
theorem mlX10_86 : Cond.methodLink RX10 86 mX4_feedFirstText.1 ∈ gw := gw_t2 141 rfl rfl
theorem mlX10_89 : Cond.methodLink RX10 89 mX4_takeTape.1 ∈ gw := gw_t2 198 rfl rfl
theorem mlX10_93 : Cond.methodLink RX10 93 mX10_isCell.1 ∈ gw := gw_t3 124 rfl rfl
theorem mlX10_97 : Cond.methodLink RX10 97 mX10_within.1 ∈ gw := gw_t3 127 rfl rfl
theorem mlX10_101 : Cond.methodLink RX10 101 mX2_hasFallen.1 ∈ gw := gw_t3 130 rfl rfl
theorem mlX10_114 : Cond.methodLink RX10 114 mX0_addHouse.1 ∈ gw := gw_t3 139 rfl rfl
theorem mlX10_121 : Cond.methodLink RX10 121 mX0_addPump.1 ∈ gw := gw_t3 147 rfl rfl
theorem mlX10_131 : Cond.methodLink RX10 131 mX10_isHouse.1 ∈ gw := gw_t3 163 rfl rfl
theorem mlX10_144 : Cond.methodLink RX10 144 mX10_monthsAreLeft.1 ∈ gw := gw_t3 171 rfl rfl
theorem mlX10_147 : Cond.methodLink RX10 147 mX2_passMonths.1 ∈ gw := gw_t3 175 rfl rfl
theorem mlX10_156 : Cond.methodLink RX10 156 mX6_add.1 ∈ gw := gw_t3 226 rfl rfl
theorem mlX10_160 : Cond.methodLink RX10 160 mX10_isSign.1 ∈ gw := gw_t3 234 rfl rfl
theorem mlX10_172 : Cond.methodLink RX10 172 mX10_isKnown.1 ∈ gw := gw_t4 2 rfl rfl
theorem mlX10_178 : Cond.methodLink RX10 178 mX6_valueKnown.1 ∈ gw := gw_t4 6 rfl rfl
theorem mlX10_187 : Cond.methodLink RX10 187 mX6_leastBy.1 ∈ gw := gw_t4 10 rfl rfl
theorem mlX10_190 : Cond.methodLink RX10 190 mX6_mostBy.1 ∈ gw := gw_t4 14 rfl rfl
theorem mlX10_193 : Cond.methodLink RX10 193 mX6_trustIn.1 ∈ gw := gw_t4 17 rfl rfl
theorem mlX10_196 : Cond.methodLink RX10 196 mX6_least.1 ∈ gw := gw_t4 24 rfl rfl
theorem mlX10_199 : Cond.methodLink RX10 199 mX6_most.1 ∈ gw := gw_t4 35 rfl rfl
theorem mlX10_202 : Cond.methodLink RX10 202 mX9_isFull.1 ∈ gw := gw_t4 45 rfl rfl
theorem mlX10_206 : Cond.methodLink RX10 206 mX9_add.1 ∈ gw := gw_t4 49 rfl rfl
theorem mlX10_208 : Cond.methodLink RX10 208 mX10_isSheet.1 ∈ gw := gw_t4 58 rfl rfl
theorem mlX10_211 : Cond.methodLink RX10 211 mX5_isMissing.1 ∈ gw := gw_t4 61 rfl rfl
theorem mlX10_215 : Cond.methodLink RX10 215 mX10_holdsUnlikeCells.1 ∈ gw := gw_t4 65 rfl rfl
theorem mlX10_219 : Cond.methodLink RX10 219 mX1_search.1 ∈ gw := gw_t4 68 rfl rfl
theorem mlX10_247 : Cond.methodLink RX10 247 mX7_put.1 ∈ gw := gw_t4 107 rfl rfl
theorem mlX10_258 : Cond.methodLink RX10 258 mX10_ruled.1 ∈ gw := gw_t4 121 rfl rfl
theorem mlX10_261 : Cond.methodLink RX10 261 mX2_peopleAt.1 ∈ gw := gw_t4 155 rfl rfl
theorem mlX10_269 : Cond.methodLink RX10 269 mJ9_min_7cf53.1 ∈ gw := gw_t4 161 rfl rfl
theorem mlX10_274 : Cond.methodLink RX10 274 mJ9_max_7cf53.1 ∈ gw := gw_t4 162 rfl rfl
theorem mlX10_277 : Cond.methodLink RX10 277 mX2_harmOf.1 ∈ gw := gw_t4 163 rfl rfl
theorem mlX10_280 : Cond.methodLink RX10 280 mX10_holdsLooks.1 ∈ gw := gw_t4 168 rfl rfl
theorem mlX10_287 : Cond.methodLink RX10 287 mX10_worthOfLook.1 ∈ gw := gw_t4 172 rfl rfl
theorem mlX10_290 : Cond.methodLink RX10 290 mX10_priceOfSet.1 ∈ gw := gw_t4 176 rfl rfl
theorem mlX10_294 : Cond.methodLink RX10 294 mX10_worthOfSet.1 ∈ gw := gw_t4 179 rfl rfl
theorem mlX10_303 : Cond.methodLink RX10 303 mX10_greatestShared.1 ∈ gw := gw_t4 191 rfl rfl
theorem mlX10_306 : Cond.methodLink RX10 306 mX10_trueWarnings.1 ∈ gw := gw_t4 202 rfl rfl
theorem mlX10_309 : Cond.methodLink RX10 309 mX10_missedCells.1 ∈ gw := gw_t4 210 rfl rfl
theorem mlX10_312 : Cond.methodLink RX10 312 mX10_oldWarnings.1 ∈ gw := gw_t4 220 rfl rfl
theorem mlX10_324 : Cond.methodLink RX10 324 mX2_become.1 ∈ gw := gw_t4 236 rfl rfl
theorem mlX10_334 : Cond.methodLink RX10 334 mX10_holdsHouses.1 ∈ gw := gw_t5 5 rfl rfl
theorem mlX10_337 : Cond.methodLink RX10 337 mX10_housesOfSet.1 ∈ gw := gw_t5 9 rfl rfl
theorem mlX10_340 : Cond.methodLink RX10 340 mX10_peopleToMove.1 ∈ gw := gw_t5 12 rfl rfl
theorem mlX10_343 : Cond.methodLink RX10 343 mX10_sparedBy.1 ∈ gw := gw_t5 16 rfl rfl
theorem mlX10_350 : Cond.methodLink RX10 350 mX5_begin.1 ∈ gw := gw_t5 40 rfl rfl
theorem mlX10_354 : Cond.methodLink RX10 354 mX5_has.1 ∈ gw := gw_t5 50 rfl rfl
theorem mlX10_357 : Cond.methodLink RX10 357 mX5_put.1 ∈ gw := gw_t5 56 rfl rfl
theorem mlX10_365 : Cond.methodLink RX10 365 mX10_sign.1 ∈ gw := gw_t5 70 rfl rfl
theorem mlX10_368 : Cond.methodLink RX10 368 mX6_isOneOf.1 ∈ gw := gw_t5 75 rfl rfl
theorem mlX10_373 : Cond.methodLink RX10 373 mJ9_abs_0f7a4.1 ∈ gw := gw_t4 82 rfl rfl
theorem mlX10_376 : Cond.methodLink RX10 376 mX4_tellSpan.1 ∈ gw := gw_t4 125 rfl rfl
theorem mlX10_379 : Cond.methodLink RX10 379 mX4_tellGround.1 ∈ gw := gw_t4 130 rfl rfl
theorem mlX10_383 : Cond.methodLink RX10 383 mX4_value.1 ∈ gw := gw_t4 144 rfl rfl
theorem mlX10_386 : Cond.methodLink RX10 386 mX10_cameTrue.1 ∈ gw := gw_t4 206 rfl rfl
theorem mlX10_389 : Cond.methodLink RX10 389 mJ13_bitCount_95d88.1 ∈ gw := gw_t4 214 rfl rfl
theorem mlX1_57 : Cond.methodLink RX1 57 mJ9_min_7cf53.1 ∈ gw := gw_t4 72 rfl rfl
theorem mlX1_66 : Cond.methodLink RX1 66 mX6_least.1 ∈ gw := gw_t4 73 rfl rfl
theorem mlX1_71 : Cond.methodLink RX1 71 mX6_most.1 ∈ gw := gw_t4 74 rfl rfl
theorem mlX1_74 : Cond.methodLink RX1 74 mX1_gatherNeeds.1 ∈ gw := gw_t4 75 rfl rfl
theorem mlX1_81 : Cond.methodLink RX1 81 mX1_takeSizes.1 ∈ gw := gw_t4 85 rfl rfl
theorem mlX1_85 : Cond.methodLink RX1 85 mX1_meetsNeeds.1 ∈ gw := gw_t4 89 rfl rfl
theorem mlX1_89 : Cond.methodLink RX1 89 mX1_weighUp.1 ∈ gw := gw_t4 93 rfl rfl
theorem mlX1_114 : Cond.methodLink RX1 114 mJ9_max_7cf53.1 ∈ gw := gw_t4 98 rfl rfl
theorem mlX2_93 : Cond.methodLink RX2 93 mX2_rainDown.1 ∈ gw := gw_t3 179 rfl rfl
theorem mlX2_96 : Cond.methodLink RX2 96 mX2_pumpOut.1 ∈ gw := gw_t3 186 rfl rfl
theorem mlX2_99 : Cond.methodLink RX2 99 mX2_flow.1 ∈ gw := gw_t3 197 rfl rfl
theorem mlX2_102 : Cond.methodLink RX2 102 mX2_letFall.1 ∈ gw := gw_t3 208 rfl rfl
theorem mlX2_105 : Cond.methodLink RX2 105 mJ9_min_7cf53.1 ∈ gw := gw_t3 183 rfl rfl
theorem mlX2_111 : Cond.methodLink RX2 111 mX2_solve.1 ∈ gw := gw_t3 190 rfl rfl
theorem mlX2_115 : Cond.methodLink RX2 115 mX2_go.1 ∈ gw := gw_t3 201 rfl rfl
theorem mlX2_119 : Cond.methodLink RX2 119 mJ9_abs_0f7a4.1 ∈ gw := gw_t3 205 rfl rfl
theorem mlX2_123 : Cond.methodLink RX2 123 mX2_hasFallen.1 ∈ gw := gw_t3 194 rfl rfl
theorem mlX2_133 : Cond.methodLink RX2 133 mX2_takeHouses.1 ∈ gw := gw_t3 214 rfl rfl
theorem mlX2_137 : Cond.methodLink RX2 137 mX2_harmOf.1 ∈ gw := gw_t3 218 rfl rfl
theorem mlX3_37 : Cond.methodLink RX3 37 mX7_kindAt.1 ∈ gw := gw_t3 17 rfl rfl
theorem mlX3_41 : Cond.methodLink RX3 41 mX3_expect.1 ∈ gw := gw_t3 21 rfl rfl
theorem mlX3_45 : Cond.methodLink RX3 45 mX3_readOr.1 ∈ gw := gw_t3 37 rfl rfl
theorem mlX3_52 : Cond.methodLink RX3 52 mX3_readAnd.1 ∈ gw := gw_t3 41 rfl rfl
theorem mlX3_55 : Cond.methodLink RX3 55 mX3_advance.1 ∈ gw := gw_t3 25 rfl rfl
theorem mlX3_58 : Cond.methodLink RX3 58 mX8_add.1 ∈ gw := gw_t3 49 rfl rfl
theorem mlX3_61 : Cond.methodLink RX3 61 mX3_readNot.1 ∈ gw := gw_t3 45 rfl rfl
theorem mlX3_64 : Cond.methodLink RX3 64 mX3_readSum.1 ∈ gw := gw_t3 53 rfl rfl
theorem mlX3_67 : Cond.methodLink RX3 67 mX3_readTerm.1 ∈ gw := gw_t3 57 rfl rfl
theorem mlX3_70 : Cond.methodLink RX3 70 mX3_readOne.1 ∈ gw := gw_t3 61 rfl rfl
theorem mlX3_73 : Cond.methodLink RX3 73 mX7_numberAt.1 ∈ gw := gw_t3 65 rfl rfl
theorem mlX3_76 : Cond.methodLink RX3 76 mX3_refuse.1 ∈ gw := gw_t3 29 rfl rfl
theorem mlX3_79 : Cond.methodLink RX3 79 mX7_placeAt.1 ∈ gw := gw_t3 33 rfl rfl
theorem mlX4_27 : Cond.methodLink RX4 27 mX3_init.1 ∈ gw := gw_t2 50 rfl rfl
theorem mlX4_50 : Cond.methodLink RX4 50 mJ0_length_8abf5.1 ∈ gw := gw_t2 146 rfl rfl
theorem mlX4_56 : Cond.methodLink RX4 56 mJ0_charAt_5068e.1 ∈ gw := gw_t2 156 rfl rfl
theorem mlX4_60 : Cond.methodLink RX4 60 mX7_put.1 ∈ gw := gw_t2 194 rfl rfl
theorem mlX4_64 : Cond.methodLink RX4 64 mX7_split.1 ∈ gw := gw_t2 202 rfl rfl
theorem mlX4_67 : Cond.methodLink RX4 67 mX3_read.1 ∈ gw := gw_t3 13 rfl rfl
theorem mlX4_77 : Cond.methodLink RX4 77 mX8_become.1 ∈ gw := gw_t3 69 rfl rfl
theorem mlX4_81 : Cond.methodLink RX4 81 mJ9_max_7cf53.1 ∈ gw := gw_t4 129 rfl rfl
theorem mlX4_92 : Cond.methodLink RX4 92 mX2_peopleAt.1 ∈ gw := gw_t4 134 rfl rfl
theorem mlX4_96 : Cond.methodLink RX4 96 mX2_pumpsNear.1 ∈ gw := gw_t4 138 rfl rfl
theorem mlX4_99 : Cond.methodLink RX4 99 mX2_hasFallen.1 ∈ gw := gw_t4 143 rfl rfl
theorem mlX4_112 : Cond.methodLink RX4 112 mX4_joined.1 ∈ gw := gw_t4 148 rfl rfl
theorem mlX5_22 : Cond.methodLink RX5 22 mX5_isMissing.1 ∈ gw := gw_t5 54 rfl rfl
theorem mlX5_30 : Cond.methodLink RX5 30 mJ9_min_7cf53.1 ∈ gw := gw_t5 44 rfl rfl
theorem mlX5_36 : Cond.methodLink RX5 36 mJ9_max_7cf53.1 ∈ gw := gw_t5 45 rfl rfl
theorem mlX5_39 : Cond.methodLink RX5 39 mX5_has.1 ∈ gw := gw_t5 60 rfl rfl
theorem mlX6_34 : Cond.methodLink RX6 34 mX6_speaks.1 ∈ gw := gw_t4 28 rfl rfl
theorem mlX6_38 : Cond.methodLink RX6 38 mX6_valueKnown.1 ∈ gw := gw_t4 33 rfl rfl
theorem mlX6_42 : Cond.methodLink RX6 42 mX6_leastBy.1 ∈ gw := gw_t4 34 rfl rfl
theorem mlX6_45 : Cond.methodLink RX6 45 mJ9_max_7cf53.1 ∈ gw := gw_t4 13 rfl rfl
theorem mlX6_50 : Cond.methodLink RX6 50 mX6_mostBy.1 ∈ gw := gw_t4 39 rfl rfl
theorem mlX6_53 : Cond.methodLink RX6 53 mJ9_min_7cf53.1 ∈ gw := gw_t4 40 rfl rfl
theorem mlX6_56 : Cond.methodLink RX6 56 mX6_trustIn.1 ∈ gw := gw_t4 32 rfl rfl
theorem mlX7_34 : Cond.methodLink RX7 34 mX7_goOn.1 ∈ gw := gw_t2 206 rfl rfl
theorem mlX7_38 : Cond.methodLink RX7 38 mX7_tellKind.1 ∈ gw := gw_t2 215 rfl rfl
theorem mlX7_42 : Cond.methodLink RX7 42 mX7_isLetter.1 ∈ gw := gw_t2 209 rfl rfl
theorem mlX7_46 : Cond.methodLink RX7 46 mX7_isDigit.1 ∈ gw := gw_t2 212 rfl rfl
theorem mlX7_49 : Cond.methodLink RX7 49 mX7_tellWord.1 ∈ gw := gw_t2 219 rfl rfl
theorem mlX7_52 : Cond.methodLink RX7 52 mX7_tellNumber.1 ∈ gw := gw_t3 6 rfl rfl
theorem mlX7_55 : Cond.methodLink RX7 55 mX7_isMark.1 ∈ gw := gw_t3 10 rfl rfl
theorem mlX7_58 : Cond.methodLink RX7 58 mX7_wordAt.1 ∈ gw := gw_t2 223 rfl rfl
theorem mlX7_62 : Cond.methodLink RX7 62 mX7_spells.1 ∈ gw := gw_t3 0 rfl rfl
theorem mlX7_66 : Cond.methodLink RX7 66 mJ0_length_8abf5.1 ∈ gw := gw_t3 4 rfl rfl
theorem mlX7_71 : Cond.methodLink RX7 71 mJ0_charAt_5068e.1 ∈ gw := gw_t3 5 rfl rfl
theorem mlX9_15 : Cond.methodLink RX9 15 mJ9_max_7cf53.1 ∈ gw := gw_t1 177 rfl rfl
theorem mlX9_31 : Cond.methodLink RX9 31 mX9_isFull.1 ∈ gw := gw_t4 53 rfl rfl
theorem mlX11_1 : Cond.methodLink RX11 1 mX11_in.1 ∈ gw := gw_t6 86 rfl rfl
theorem mlX11_248 : Cond.methodLink RX11 248 mX11_isCell.1 ∈ gw := gw_t6 82 rfl rfl
theorem mlX11_253 : Cond.methodLink RX11 253 mX11_isHouse.1 ∈ gw := gw_t6 111 rfl rfl
theorem mlX11_256 : Cond.methodLink RX11 256 mX11_wentBy.1 ∈ gw := gw_t6 123 rfl rfl
theorem mlX11_260 : Cond.methodLink RX11 260 mX11_between.1 ∈ gw := gw_t6 127 rfl rfl
theorem mlX11_263 : Cond.methodLink RX11 263 mX11_harmOf.1 ∈ gw := gw_t6 131 rfl rfl
theorem mlX11_267 : Cond.methodLink RX11 267 mX11_goMonth.1 ∈ gw := gw_t6 119 rfl rfl
theorem mlX11_270 : Cond.methodLink RX11 270 mX11_isSign.1 ∈ gw := gw_t6 143 rfl rfl
theorem mlX11_273 : Cond.methodLink RX11 273 mX11_valueOf.1 ∈ gw := gw_t6 155 rfl rfl
theorem mlX11_277 : Cond.methodLink RX11 277 mX11_isKnown.1 ∈ gw := gw_t6 151 rfl rfl
theorem mlX11_280 : Cond.methodLink RX11 280 mX11_leastOf.1 ∈ gw := gw_t6 159 rfl rfl
theorem mlX11_283 : Cond.methodLink RX11 283 mX11_mostOf.1 ∈ gw := gw_t6 163 rfl rfl
theorem mlX11_286 : Cond.methodLink RX11 286 mX11_trustOf.1 ∈ gw := gw_t6 167 rfl rfl
theorem mlX11_289 : Cond.methodLink RX11 289 mX11_findSpan.1 ∈ gw := gw_t6 175 rfl rfl
theorem mlX11_293 : Cond.methodLink RX11 293 mX11_isNear.1 ∈ gw := gw_t6 195 rfl rfl
theorem mlX11_297 : Cond.methodLink RX11 297 mX11_isSheet.1 ∈ gw := gw_t6 187 rfl rfl
theorem mlX11_300 : Cond.methodLink RX11 300 mX11_isFit.1 ∈ gw := gw_t6 191 rfl rfl
theorem mlX11_331 : Cond.methodLink RX11 331 mX11_byteAt.1 ∈ gw := gw_t6 219 rfl rfl
theorem mlX11_334 : Cond.methodLink RX11 334 mX11_isLetter.1 ∈ gw := gw_t6 223 rfl rfl
theorem mlX11_343 : Cond.methodLink RX11 343 mX11_wordOf.1 ∈ gw := gw_t6 230 rfl rfl
theorem mlX11_347 : Cond.methodLink RX11 347 mX11_isDigit.1 ∈ gw := gw_t7 8 rfl rfl
theorem mlX11_350 : Cond.methodLink RX11 350 mX11_rankOf.1 ∈ gw := gw_t7 32 rfl rfl
theorem mlX11_353 : Cond.methodLink RX11 353 mX11_work.1 ∈ gw := gw_t7 36 rfl rfl
theorem mlX11_357 : Cond.methodLink RX11 357 mX11_step.1 ∈ gw := gw_t6 215 rfl rfl
theorem mlX11_360 : Cond.methodLink RX11 360 mX11_settle.1 ∈ gw := gw_t7 28 rfl rfl
theorem mlX11_363 : Cond.methodLink RX11 363 mX11_isKey.1 ∈ gw := gw_t7 12 rfl rfl
theorem mlX11_366 : Cond.methodLink RX11 366 mX11_opens.1 ∈ gw := gw_t7 20 rfl rfl
theorem mlX11_369 : Cond.methodLink RX11 369 mX11_push.1 ∈ gw := gw_t7 24 rfl rfl
theorem mlX11_372 : Cond.methodLink RX11 372 mX11_joint.1 ∈ gw := gw_t7 40 rfl rfl
theorem mlX11_376 : Cond.methodLink RX11 376 mX11_joins.1 ∈ gw := gw_t7 44 rfl rfl
theorem mlX11_379 : Cond.methodLink RX11 379 mX11_takesE.1 ∈ gw := gw_t7 16 rfl rfl
theorem mlX11_383 : Cond.methodLink RX11 383 mX11_goes.1 ∈ gw := gw_t6 211 rfl rfl
theorem mlX11_386 : Cond.methodLink RX11 386 mX11_doubtOf.1 ∈ gw := gw_t7 64 rfl rfl
theorem mlX11_389 : Cond.methodLink RX11 389 mX11_peopleIn.1 ∈ gw := gw_t7 68 rfl rfl
theorem mlX11_392 : Cond.methodLink RX11 392 mX11_findFacts.1 ∈ gw := gw_t7 60 rfl rfl
theorem mlX11_395 : Cond.methodLink RX11 395 mX11_lawOf.1 ∈ gw := gw_t7 56 rfl rfl
theorem mlX11_404 : Cond.methodLink RX11 404 mX11_divisor.1 ∈ gw := gw_t7 95 rfl rfl
theorem mlX11_408 : Cond.methodLink RX11 408 mX11_isTrue.1 ∈ gw := gw_t7 107 rfl rfl
theorem mlX11_411 : Cond.methodLink RX11 411 mX11_cellsFallen.1 ∈ gw := gw_t7 123 rfl rfl
theorem mlX11_414 : Cond.methodLink RX11 414 mX11_keep.1 ∈ gw := gw_t7 127 rfl rfl
theorem mlX11_417 : Cond.methodLink RX11 417 mX11_putBack.1 ∈ gw := gw_t7 131 rfl rfl
theorem mlX11_420 : Cond.methodLink RX11 420 mX11_sign.1 ∈ gw := gw_t7 171 rfl rfl
theorem mlX11_423 : Cond.methodLink RX11 423 mX11_isOfKind.1 ∈ gw := gw_t7 176 rfl rfl
theorem mlJ0_335 : Cond.methodLink RJ0 335 mJ0_coder_7d493.1 ∈ gw := gw_t2 150 rfl rfl
theorem mlJ0_492 : Cond.methodLink RJ0 492 mJ0_isLatin1_aae02.1 ∈ gw := gw_t2 160 rfl rfl
theorem mlJ0_495 : Cond.methodLink RJ0 495 mJ1_charAt_3b067.1 ∈ gw := gw_t2 164 rfl rfl
theorem mlJ0_498 : Cond.methodLink RJ0 498 mJ2_charAt_3b067.1 ∈ gw := gw_t2 175 rfl rfl
theorem mlJ0_1059 : Cond.methodLink RJ0 1059 mJ3_checkIndex_8e157.1 ∈ gw := gw_t2 172 rfl rfl
theorem mlJ1_9 : Cond.methodLink RJ1 9 mJ0_checkIndex_df160.1 ∈ gw := gw_t2 167 rfl rfl
theorem mlJ2_48 : Cond.methodLink RJ2 48 mJ2_length_9d52b.1 ∈ gw := gw_t2 181 rfl rfl
theorem mlJ2_67 : Cond.methodLink RJ2 67 mJ2_checkIndex_2214a.1 ∈ gw := gw_t2 178 rfl rfl
theorem mlJ2_71 : Cond.methodLink RJ2 71 mJ2_getChar_3b067.1 ∈ gw := gw_t2 185 rfl rfl
theorem mlJ2_414 : Cond.methodLink RJ2 414 mJ0_checkIndex_df160.1 ∈ gw := gw_t2 184 rfl rfl
theorem kcX10_110 : Cond.constant RX10 110 (99999) ∈ gw := gw_t3 138 rfl rfl
theorem kcX10_256 : Cond.constantLong RX10 256 (-4611686018427387904) ∈ gw := gw_t4 120 rfl rfl
theorem kcX10_264 : Cond.constantLong RX10 264 (-3) ∈ gw := gw_t4 160 rfl rfl
theorem kcX10_283 : Cond.constant RX10 283 (1000000) ∈ gw := gw_t4 171 rfl rfl
theorem kcL_72 : Cond.constantLong RL 72 (4294967295) ∈ gw := gw_t7 180 rfl rfl
theorem kcX11_252 : Cond.constant RX11 252 (99999) ∈ gw := gw_t6 94 rfl rfl
theorem kcX11_303 : Cond.constantLong RX11 303 (2794884) ∈ gw := gw_t6 234 rfl rfl
theorem kcX11_305 : Cond.constantLong RX11 305 (442053) ∈ gw := gw_t6 235 rfl rfl
theorem kcX11_307 : Cond.constantLong RX11 307 (16101) ∈ gw := gw_t6 236 rfl rfl
theorem kcX11_309 : Cond.constantLong RX11 309 (498) ∈ gw := gw_t6 237 rfl rfl
theorem kcX11_311 : Cond.constantLong RX11 311 (1476) ∈ gw := gw_t6 238 rfl rfl
theorem kcX11_313 : Cond.constantLong RX11 313 (14836) ∈ gw := gw_t6 239 rfl rfl
theorem kcX11_315 : Cond.constantLong RX11 315 (4707412) ∈ gw := gw_t7 0 rfl rfl
theorem kcX11_317 : Cond.constantLong RX11 317 (12748404) ∈ gw := gw_t7 1 rfl rfl
theorem kcX11_319 : Cond.constantLong RX11 319 (441972) ∈ gw := gw_t7 2 rfl rfl
theorem kcX11_321 : Cond.constantLong RX11 321 (605291) ∈ gw := gw_t7 3 rfl rfl
theorem kcX11_323 : Cond.constantLong RX11 323 (542622085) ∈ gw := gw_t7 4 rfl rfl
theorem kcX11_325 : Cond.constantLong RX11 325 (546224) ∈ gw := gw_t7 5 rfl rfl
theorem kcX11_327 : Cond.constantLong RX11 327 (202124) ∈ gw := gw_t7 6 rfl rfl
theorem kcX11_329 : Cond.constantLong RX11 329 (14137992) ∈ gw := gw_t7 7 rfl rfl
theorem kcX11_337 : Cond.constantLong RX11 337 (32) ∈ gw := gw_t6 227 rfl rfl
theorem kcX11_339 : Cond.constantLong RX11 339 (96) ∈ gw := gw_t6 228 rfl rfl
theorem kcX11_341 : Cond.constantLong RX11 341 (-1) ∈ gw := gw_t6 229 rfl rfl
theorem kcX11_399 : Cond.constantLong RX11 399 (-4611686018427387904) ∈ gw := gw_t7 72 rfl rfl
theorem kcX11_401 : Cond.constantLong RX11 401 (-3) ∈ gw := gw_t7 81 rfl rfl
theorem kcX11_403 : Cond.constant RX11 403 (1000000) ∈ gw := gw_t7 86 rfl rfl
theorem kcJ13_314 : Cond.constantLong RJ13 314 (6148914691236517205) ∈ gw := gw_t4 217 rfl rfl
theorem kcJ13_316 : Cond.constantLong RJ13 316 (3689348814741910323) ∈ gw := gw_t4 218 rfl rfl
theorem kcJ13_318 : Cond.constantLong RJ13 318 (1085102592571150095) ∈ gw := gw_t4 219 rfl rfl
end
section
/-! the places of the class -/
-- 0 hs; 1 built; 2 built.houseCell; 3 built.worth; 4 built.people; 5 built.pumpCell; 6 now; 7 now.rock; 8 now.hollow; 9 now.water; 10 now.fell; 11 now.fallsOf; 12 now.monthsOf; 13 now.pumped; 14 now.gone; 15 now.away; 16 now.goesDown; 17 now.goesAcross; 18 aside; 19 aside.rock; 20 aside.hollow; 21 aside.water; 22 aside.fell; 23 aside.fallsOf; 24 aside.monthsOf; 25 aside.pumped; 26 aside.gone; 27 aside.away; 28 aside.goesDown; 29 aside.goesAcross; 30 kept; 31 kept.rock; 32 kept.hollow; 33 kept.water; 34 kept.fell; 35 kept.fallsOf; 36 kept.monthsOf; 37 kept.pumped; 38 kept.gone; 39 kept.away; 40 kept.goesDown; 41 kept.goesAcross; 42 signBook; 43 signBook.kind; 44 signBook.cell; 45 signBook.value; 46 signBook.month; 47 signBook.mended; 48 signBook.mendMonth; 49 lostBook; 50 lostBook.cell; 51 lostBook.much; 52 lostBook.month; 53 warnBook; 54 warnBook.cell; 55 warnBook.much; 56 warnBook.month; 57 lastFit; 58 lastFit.best; 59 lastFit.least; 60 lastFit.greatest; 61 lastFit.low; 62 lastFit.high; 63 lastFit.sizes; 64 lastFit.needed; 65 lastFit.neededOf; 66 rules; 67 rules.tape; 68 rules.tape.bytes; 69 rules.tape.place; 70 rules.tape.length; 71 rules.tape.kind; 72 rules.tape.number; 73 rules.reader; 74 rules.reader.made; 75 rules.reader.made.step; 76 rules.reader.made.partEnd; 77 rules.all; 78 text0; 79 text0.step; 80 text0.partEnd; 81 text1; 82 text1.step; 83 text1.partEnd; 84 text2; 85 text2.step; 86 text2.partEnd; 87 text3; 88 text3.step; 89 text3.partEnd; 90 text4; 91 text4.step; 92 text4.partEnd; 93 text5; 94 text5.step; 95 text5.partEnd; 96 rules.named; 97 rules.stack; 98 rows; 99 sheet0; 100 sheet0.numbers; 101 sheet1; 102 sheet1.numbers; 103 sheet2; 104 sheet2.numbers; 105 sheet3; 106 sheet3.numbers; 107 lookWorth
def shC : List (Nat × Nat) := [(10, 0), (0, 0), (20, 14), (20, 14), (20, 14), (20, 6), (2, 0), (20, 64), (20, 64), (20, 64), (20, 64), (20, 4), (20, 4), (20, 6), (20, 14), (21, 14), (20, 64), (20, 64), (2, 0), (20, 64), (20, 64), (20, 64), (20, 64), (20, 4), (20, 4), (20, 6), (20, 14), (21, 14), (20, 64), (20, 64), (2, 0), (20, 64), (20, 64), (20, 64), (20, 64), (20, 4), (20, 4), (20, 6), (20, 14), (21, 14), (20, 64), (20, 64), (6, 0), (20, 30), (20, 30), (20, 30), (20, 30), (20, 30), (20, 30), (9, 0), (20, 8), (20, 8), (20, 8), (9, 0), (20, 30), (20, 30), (20, 30), (1, 0), (20, 5), (20, 5), (20, 5), (20, 5), (20, 5), (20, 5), (20, 8), (20, 8), (4, 0), (7, 0), (20, 160), (20, 160), (20, 160), (20, 160), (20, 160), (3, 0), (8, 0), (20, 160), (20, 3), (23, 6), (8, 0), (20, 160), (20, 3), (8, 0), (20, 160), (20, 3), (8, 0), (20, 160), (20, 3), (8, 0), (20, 160), (20, 3), (8, 0), (20, 160), (20, 3), (8, 0), (20, 160), (20, 3), (20, 8), (20, 160), (22, 4), (5, 0), (20, 40), (5, 0), (20, 40), (5, 0), (20, 40), (5, 0), (20, 40), (20, 8)]
def rtC : List (List (Option Nat)) := [[some 1, some 6, some 18, some 30, none, some 42, some 49, some 53, some 57, some 66, some 98, some 107, none, none], [none, none, some 2, some 3, some 4, some 5], [], [], [], [], [some 1, none, none, none, none, some 7, some 8, some 9, some 10, some 11, some 12, some 13, some 14, some 15, some 16, some 17], [], [], [], [], [], [], [], [], [], [], [], [some 1, none, none, none, none, some 19, some 20, some 21, some 22, some 23, some 24, some 25, some 26, some 27, some 28, some 29], [], [], [], [], [], [], [], [], [], [], [], [some 1, none, none, none, none, some 31, some 32, some 33, some 34, some 35, some 36, some 37, some 38, some 39, some 40, some 41], [], [], [], [], [], [], [], [], [], [], [], [none, some 43, some 44, some 45, some 46, some 47, some 48], [], [], [], [], [], [], [none, some 50, some 51, some 52], [], [], [], [none, some 54, some 55, some 56], [], [], [], [none, none, none, none, some 58, some 59, some 60, some 61, some 62, some 63, none, some 64, some 65], [], [], [], [], [], [], [], [], [some 67, none, none, some 73, some 77, some 96, some 97], [none, none, some 68, some 69, some 70, some 71, some 72], [], [], [], [], [], [some 74, some 67, none, none, none], [none, some 75, some 76], [], [], [some 78, some 81, some 84, some 87, some 90, some 93], [none, some 79, some 80], [], [], [none, some 82, some 83], [], [], [none, some 85, some 86], [], [], [none, some 88, some 89], [], [], [none, some 91, some 92], [], [], [none, some 94, some 95], [], [], [], [], [some 99, some 101, some 103, some 105], [none, none, some 100], [], [none, none, some 102], [], [none, none, some 104], [], [none, none, some 106], [], []]
def rfC (k j : Nat) : Option Nat := (rtC.getD k []).getD j none
def SyC : Sy := (shC, rfC)
theorem pC_0 : SyC.1[0]? = some (10, 0) := rfl
theorem oC_0 : IsO SyC 0 RX10 := ⟨10, 0, _, rfl, by decide, rfl, rfl⟩
theorem rC_0_0 : SyC.2 0 0 = some 1 := rfl
theorem rC_0_1 : SyC.2 0 1 = some 6 := rfl
theorem rC_0_2 : SyC.2 0 2 = some 18 := rfl
theorem rC_0_3 : SyC.2 0 3 = some 30 := rfl
theorem rC_0_5 : SyC.2 0 5 = some 42 := rfl
theorem rC_0_6 : SyC.2 0 6 = some 49 := rfl
theorem rC_0_7 : SyC.2 0 7 = some 53 := rfl
theorem rC_0_8 : SyC.2 0 8 = some 57 := rfl
theorem rC_0_9 : SyC.2 0 9 = some 66 := rfl
theorem rC_0_10 : SyC.2 0 10 = some 98 := rfl
theorem rC_0_11 : SyC.2 0 11 = some 107 := rfl
theorem pC_1 : SyC.1[1]? = some (0, 0) := rfl
theorem oC_1 : IsO SyC 1 RX0 := ⟨0, 0, _, rfl, by decide, rfl, rfl⟩
theorem rC_1_2 : SyC.2 1 2 = some 2 := rfl
theorem rC_1_3 : SyC.2 1 3 = some 3 := rfl
theorem rC_1_4 : SyC.2 1 4 = some 4 := rfl
theorem rC_1_5 : SyC.2 1 5 = some 5 := rfl
theorem pC_2 : SyC.1[2]? = some (20, 14) := rfl
theorem pC_3 : SyC.1[3]? = some (20, 14) := rfl
theorem pC_4 : SyC.1[4]? = some (20, 14) := rfl
theorem pC_5 : SyC.1[5]? = some (20, 6) := rfl
theorem pC_6 : SyC.1[6]? = some (2, 0) := rfl
theorem oC_6 : IsO SyC 6 RX2 := ⟨2, 0, _, rfl, by decide, rfl, rfl⟩
theorem rC_6_0 : SyC.2 6 0 = some 1 := rfl
theorem rC_6_5 : SyC.2 6 5 = some 7 := rfl
theorem rC_6_6 : SyC.2 6 6 = some 8 := rfl
theorem rC_6_7 : SyC.2 6 7 = some 9 := rfl
theorem rC_6_8 : SyC.2 6 8 = some 10 := rfl
theorem rC_6_9 : SyC.2 6 9 = some 11 := rfl
theorem rC_6_10 : SyC.2 6 10 = some 12 := rfl
theorem rC_6_11 : SyC.2 6 11 = some 13 := rfl
theorem rC_6_12 : SyC.2 6 12 = some 14 := rfl
theorem rC_6_13 : SyC.2 6 13 = some 15 := rfl
theorem rC_6_14 : SyC.2 6 14 = some 16 := rfl
theorem rC_6_15 : SyC.2 6 15 = some 17 := rfl
theorem pC_7 : SyC.1[7]? = some (20, 64) := rfl
theorem pC_8 : SyC.1[8]? = some (20, 64) := rfl
theorem pC_9 : SyC.1[9]? = some (20, 64) := rfl
theorem pC_10 : SyC.1[10]? = some (20, 64) := rfl
theorem pC_11 : SyC.1[11]? = some (20, 4) := rfl
theorem pC_12 : SyC.1[12]? = some (20, 4) := rfl
theorem pC_13 : SyC.1[13]? = some (20, 6) := rfl
theorem pC_14 : SyC.1[14]? = some (20, 14) := rfl
theorem pC_15 : SyC.1[15]? = some (21, 14) := rfl
theorem pC_16 : SyC.1[16]? = some (20, 64) := rfl
theorem pC_17 : SyC.1[17]? = some (20, 64) := rfl
theorem pC_18 : SyC.1[18]? = some (2, 0) := rfl
theorem oC_18 : IsO SyC 18 RX2 := ⟨2, 0, _, rfl, by decide, rfl, rfl⟩
theorem rC_18_0 : SyC.2 18 0 = some 1 := rfl
theorem rC_18_5 : SyC.2 18 5 = some 19 := rfl
theorem rC_18_6 : SyC.2 18 6 = some 20 := rfl
theorem rC_18_7 : SyC.2 18 7 = some 21 := rfl
theorem rC_18_8 : SyC.2 18 8 = some 22 := rfl
theorem rC_18_9 : SyC.2 18 9 = some 23 := rfl
theorem rC_18_10 : SyC.2 18 10 = some 24 := rfl
theorem rC_18_11 : SyC.2 18 11 = some 25 := rfl
theorem rC_18_12 : SyC.2 18 12 = some 26 := rfl
theorem rC_18_13 : SyC.2 18 13 = some 27 := rfl
theorem rC_18_14 : SyC.2 18 14 = some 28 := rfl
theorem rC_18_15 : SyC.2 18 15 = some 29 := rfl
theorem pC_19 : SyC.1[19]? = some (20, 64) := rfl
theorem pC_20 : SyC.1[20]? = some (20, 64) := rfl
theorem pC_21 : SyC.1[21]? = some (20, 64) := rfl
theorem pC_22 : SyC.1[22]? = some (20, 64) := rfl
theorem pC_23 : SyC.1[23]? = some (20, 4) := rfl
theorem pC_24 : SyC.1[24]? = some (20, 4) := rfl
theorem pC_25 : SyC.1[25]? = some (20, 6) := rfl
theorem pC_26 : SyC.1[26]? = some (20, 14) := rfl
theorem pC_27 : SyC.1[27]? = some (21, 14) := rfl
theorem pC_28 : SyC.1[28]? = some (20, 64) := rfl
theorem pC_29 : SyC.1[29]? = some (20, 64) := rfl
theorem pC_30 : SyC.1[30]? = some (2, 0) := rfl
theorem oC_30 : IsO SyC 30 RX2 := ⟨2, 0, _, rfl, by decide, rfl, rfl⟩
theorem rC_30_0 : SyC.2 30 0 = some 1 := rfl
theorem rC_30_5 : SyC.2 30 5 = some 31 := rfl
theorem rC_30_6 : SyC.2 30 6 = some 32 := rfl
theorem rC_30_7 : SyC.2 30 7 = some 33 := rfl
theorem rC_30_8 : SyC.2 30 8 = some 34 := rfl
theorem rC_30_9 : SyC.2 30 9 = some 35 := rfl
theorem rC_30_10 : SyC.2 30 10 = some 36 := rfl
theorem rC_30_11 : SyC.2 30 11 = some 37 := rfl
theorem rC_30_12 : SyC.2 30 12 = some 38 := rfl
theorem rC_30_13 : SyC.2 30 13 = some 39 := rfl
theorem rC_30_14 : SyC.2 30 14 = some 40 := rfl
theorem rC_30_15 : SyC.2 30 15 = some 41 := rfl
theorem pC_31 : SyC.1[31]? = some (20, 64) := rfl
theorem pC_32 : SyC.1[32]? = some (20, 64) := rfl
theorem pC_33 : SyC.1[33]? = some (20, 64) := rfl
theorem pC_34 : SyC.1[34]? = some (20, 64) := rfl
theorem pC_35 : SyC.1[35]? = some (20, 4) := rfl
theorem pC_36 : SyC.1[36]? = some (20, 4) := rfl
theorem pC_37 : SyC.1[37]? = some (20, 6) := rfl
theorem pC_38 : SyC.1[38]? = some (20, 14) := rfl
theorem pC_39 : SyC.1[39]? = some (21, 14) := rfl
theorem pC_40 : SyC.1[40]? = some (20, 64) := rfl
theorem pC_41 : SyC.1[41]? = some (20, 64) := rfl
theorem pC_42 : SyC.1[42]? = some (6, 0) := rfl
theorem oC_42 : IsO SyC 42 RX6 := ⟨6, 0, _, rfl, by decide, rfl, rfl⟩
theorem rC_42_1 : SyC.2 42 1 = some 43 := rfl
theorem rC_42_2 : SyC.2 42 2 = some 44 := rfl
theorem rC_42_3 : SyC.2 42 3 = some 45 := rfl
theorem rC_42_4 : SyC.2 42 4 = some 46 := rfl
theorem rC_42_5 : SyC.2 42 5 = some 47 := rfl
theorem rC_42_6 : SyC.2 42 6 = some 48 := rfl
theorem pC_43 : SyC.1[43]? = some (20, 30) := rfl
theorem pC_44 : SyC.1[44]? = some (20, 30) := rfl
theorem pC_45 : SyC.1[45]? = some (20, 30) := rfl
theorem pC_46 : SyC.1[46]? = some (20, 30) := rfl
theorem pC_47 : SyC.1[47]? = some (20, 30) := rfl
theorem pC_48 : SyC.1[48]? = some (20, 30) := rfl
theorem pC_49 : SyC.1[49]? = some (9, 0) := rfl
theorem oC_49 : IsO SyC 49 RX9 := ⟨9, 0, _, rfl, by decide, rfl, rfl⟩
theorem rC_49_1 : SyC.2 49 1 = some 50 := rfl
theorem rC_49_2 : SyC.2 49 2 = some 51 := rfl
theorem rC_49_3 : SyC.2 49 3 = some 52 := rfl
theorem pC_50 : SyC.1[50]? = some (20, 8) := rfl
theorem pC_51 : SyC.1[51]? = some (20, 8) := rfl
theorem pC_52 : SyC.1[52]? = some (20, 8) := rfl
theorem pC_53 : SyC.1[53]? = some (9, 0) := rfl
theorem oC_53 : IsO SyC 53 RX9 := ⟨9, 0, _, rfl, by decide, rfl, rfl⟩
theorem rC_53_1 : SyC.2 53 1 = some 54 := rfl
theorem rC_53_2 : SyC.2 53 2 = some 55 := rfl
theorem rC_53_3 : SyC.2 53 3 = some 56 := rfl
theorem pC_54 : SyC.1[54]? = some (20, 30) := rfl
theorem pC_55 : SyC.1[55]? = some (20, 30) := rfl
theorem pC_56 : SyC.1[56]? = some (20, 30) := rfl
theorem pC_57 : SyC.1[57]? = some (1, 0) := rfl
theorem oC_57 : IsO SyC 57 RX1 := ⟨1, 0, _, rfl, by decide, rfl, rfl⟩
theorem rC_57_4 : SyC.2 57 4 = some 58 := rfl
theorem rC_57_5 : SyC.2 57 5 = some 59 := rfl
theorem rC_57_6 : SyC.2 57 6 = some 60 := rfl
theorem rC_57_7 : SyC.2 57 7 = some 61 := rfl
theorem rC_57_8 : SyC.2 57 8 = some 62 := rfl
theorem rC_57_9 : SyC.2 57 9 = some 63 := rfl
theorem rC_57_11 : SyC.2 57 11 = some 64 := rfl
theorem rC_57_12 : SyC.2 57 12 = some 65 := rfl
theorem pC_58 : SyC.1[58]? = some (20, 5) := rfl
theorem pC_59 : SyC.1[59]? = some (20, 5) := rfl
theorem pC_60 : SyC.1[60]? = some (20, 5) := rfl
theorem pC_61 : SyC.1[61]? = some (20, 5) := rfl
theorem pC_62 : SyC.1[62]? = some (20, 5) := rfl
theorem pC_63 : SyC.1[63]? = some (20, 5) := rfl
theorem pC_64 : SyC.1[64]? = some (20, 8) := rfl
theorem pC_65 : SyC.1[65]? = some (20, 8) := rfl
theorem pC_66 : SyC.1[66]? = some (4, 0) := rfl
theorem oC_66 : IsO SyC 66 RX4 := ⟨4, 0, _, rfl, by decide, rfl, rfl⟩
theorem rC_66_0 : SyC.2 66 0 = some 67 := rfl
theorem rC_66_3 : SyC.2 66 3 = some 73 := rfl
theorem rC_66_4 : SyC.2 66 4 = some 77 := rfl
theorem rC_66_5 : SyC.2 66 5 = some 96 := rfl
theorem rC_66_6 : SyC.2 66 6 = some 97 := rfl
theorem pC_67 : SyC.1[67]? = some (7, 0) := rfl
theorem oC_67 : IsO SyC 67 RX7 := ⟨7, 0, _, rfl, by decide, rfl, rfl⟩
theorem rC_67_2 : SyC.2 67 2 = some 68 := rfl
theorem rC_67_3 : SyC.2 67 3 = some 69 := rfl
theorem rC_67_4 : SyC.2 67 4 = some 70 := rfl
theorem rC_67_5 : SyC.2 67 5 = some 71 := rfl
theorem rC_67_6 : SyC.2 67 6 = some 72 := rfl
theorem pC_68 : SyC.1[68]? = some (20, 160) := rfl
theorem pC_69 : SyC.1[69]? = some (20, 160) := rfl
theorem pC_70 : SyC.1[70]? = some (20, 160) := rfl
theorem pC_71 : SyC.1[71]? = some (20, 160) := rfl
theorem pC_72 : SyC.1[72]? = some (20, 160) := rfl
theorem pC_73 : SyC.1[73]? = some (3, 0) := rfl
theorem oC_73 : IsO SyC 73 RX3 := ⟨3, 0, _, rfl, by decide, rfl, rfl⟩
theorem rC_73_0 : SyC.2 73 0 = some 74 := rfl
theorem rC_73_1 : SyC.2 73 1 = some 67 := rfl
theorem pC_74 : SyC.1[74]? = some (8, 0) := rfl
theorem oC_74 : IsO SyC 74 RX8 := ⟨8, 0, _, rfl, by decide, rfl, rfl⟩
theorem rC_74_1 : SyC.2 74 1 = some 75 := rfl
theorem rC_74_2 : SyC.2 74 2 = some 76 := rfl
theorem pC_75 : SyC.1[75]? = some (20, 160) := rfl
theorem pC_76 : SyC.1[76]? = some (20, 3) := rfl
theorem pC_77 : SyC.1[77]? = some (23, 6) := rfl
theorem rC_77_0 : SyC.2 77 0 = some 78 := rfl
theorem rC_77_1 : SyC.2 77 1 = some 81 := rfl
theorem rC_77_2 : SyC.2 77 2 = some 84 := rfl
theorem rC_77_3 : SyC.2 77 3 = some 87 := rfl
theorem rC_77_4 : SyC.2 77 4 = some 90 := rfl
theorem rC_77_5 : SyC.2 77 5 = some 93 := rfl
theorem pC_78 : SyC.1[78]? = some (8, 0) := rfl
theorem oC_78 : IsO SyC 78 RX8 := ⟨8, 0, _, rfl, by decide, rfl, rfl⟩
theorem rC_78_1 : SyC.2 78 1 = some 79 := rfl
theorem rC_78_2 : SyC.2 78 2 = some 80 := rfl
theorem pC_79 : SyC.1[79]? = some (20, 160) := rfl
theorem pC_80 : SyC.1[80]? = some (20, 3) := rfl
theorem pC_81 : SyC.1[81]? = some (8, 0) := rfl
theorem oC_81 : IsO SyC 81 RX8 := ⟨8, 0, _, rfl, by decide, rfl, rfl⟩
theorem rC_81_1 : SyC.2 81 1 = some 82 := rfl
theorem rC_81_2 : SyC.2 81 2 = some 83 := rfl
theorem pC_82 : SyC.1[82]? = some (20, 160) := rfl
theorem pC_83 : SyC.1[83]? = some (20, 3) := rfl
theorem pC_84 : SyC.1[84]? = some (8, 0) := rfl
theorem oC_84 : IsO SyC 84 RX8 := ⟨8, 0, _, rfl, by decide, rfl, rfl⟩
theorem rC_84_1 : SyC.2 84 1 = some 85 := rfl
theorem rC_84_2 : SyC.2 84 2 = some 86 := rfl
theorem pC_85 : SyC.1[85]? = some (20, 160) := rfl
theorem pC_86 : SyC.1[86]? = some (20, 3) := rfl
theorem pC_87 : SyC.1[87]? = some (8, 0) := rfl
theorem oC_87 : IsO SyC 87 RX8 := ⟨8, 0, _, rfl, by decide, rfl, rfl⟩
theorem rC_87_1 : SyC.2 87 1 = some 88 := rfl
theorem rC_87_2 : SyC.2 87 2 = some 89 := rfl
theorem pC_88 : SyC.1[88]? = some (20, 160) := rfl
theorem pC_89 : SyC.1[89]? = some (20, 3) := rfl
theorem pC_90 : SyC.1[90]? = some (8, 0) := rfl
theorem oC_90 : IsO SyC 90 RX8 := ⟨8, 0, _, rfl, by decide, rfl, rfl⟩
theorem rC_90_1 : SyC.2 90 1 = some 91 := rfl
theorem rC_90_2 : SyC.2 90 2 = some 92 := rfl
theorem pC_91 : SyC.1[91]? = some (20, 160) := rfl
theorem pC_92 : SyC.1[92]? = some (20, 3) := rfl
theorem pC_93 : SyC.1[93]? = some (8, 0) := rfl
theorem oC_93 : IsO SyC 93 RX8 := ⟨8, 0, _, rfl, by decide, rfl, rfl⟩
theorem rC_93_1 : SyC.2 93 1 = some 94 := rfl
theorem rC_93_2 : SyC.2 93 2 = some 95 := rfl
theorem pC_94 : SyC.1[94]? = some (20, 160) := rfl
theorem pC_95 : SyC.1[95]? = some (20, 3) := rfl
theorem pC_96 : SyC.1[96]? = some (20, 8) := rfl
theorem pC_97 : SyC.1[97]? = some (20, 160) := rfl
theorem pC_98 : SyC.1[98]? = some (22, 4) := rfl
theorem rC_98_0 : SyC.2 98 0 = some 99 := rfl
theorem rC_98_1 : SyC.2 98 1 = some 101 := rfl
theorem rC_98_2 : SyC.2 98 2 = some 103 := rfl
theorem rC_98_3 : SyC.2 98 3 = some 105 := rfl
theorem pC_99 : SyC.1[99]? = some (5, 0) := rfl
theorem oC_99 : IsO SyC 99 RX5 := ⟨5, 0, _, rfl, by decide, rfl, rfl⟩
theorem rC_99_2 : SyC.2 99 2 = some 100 := rfl
theorem pC_100 : SyC.1[100]? = some (20, 40) := rfl
theorem pC_101 : SyC.1[101]? = some (5, 0) := rfl
theorem oC_101 : IsO SyC 101 RX5 := ⟨5, 0, _, rfl, by decide, rfl, rfl⟩
theorem rC_101_2 : SyC.2 101 2 = some 102 := rfl
theorem pC_102 : SyC.1[102]? = some (20, 40) := rfl
theorem pC_103 : SyC.1[103]? = some (5, 0) := rfl
theorem oC_103 : IsO SyC 103 RX5 := ⟨5, 0, _, rfl, by decide, rfl, rfl⟩
theorem rC_103_2 : SyC.2 103 2 = some 104 := rfl
theorem pC_104 : SyC.1[104]? = some (20, 40) := rfl
theorem pC_105 : SyC.1[105]? = some (5, 0) := rfl
theorem oC_105 : IsO SyC 105 RX5 := ⟨5, 0, _, rfl, by decide, rfl, rfl⟩
theorem rC_105_2 : SyC.2 105 2 = some 106 := rfl
theorem pC_106 : SyC.1[106]? = some (20, 40) := rfl
theorem pC_107 : SyC.1[107]? = some (20, 8) := rfl
/-! the places of the reference -/
-- 0 m; 1 m.rock; 2 m.hollow; 3 m.water; 4 m.fell; 5 m.flows; 6 m.solves; 7 m.bears; 8 m.counted; 9 m.fallen; 10 m.houseCell; 11 m.worth; 12 m.people; 13 m.gone; 14 m.pumpCell; 15 m.pumping; 16 m.isMoved; 17 m.signKind; 18 m.signCell; 19 m.signMonth; 20 m.signValue; 21 m.mendValue; 22 m.mendMonth; 23 m.lostCell; 24 m.lostMuch; 25 m.lostMonth; 26 m.sizes; 27 m.fitCell; 28 m.fitLeast; 29 m.fitMost; 30 m.size; 31 m.bestSize; 32 m.sureLeast; 33 m.sureMost; 34 m.text; 35 m.textLong; 36 m.waits; 37 m.pile; 38 m.facts; 39 m.says; 40 m.lookWorth; 41 m.warnCell; 42 m.warnMonth; 43 m.kept; 44 m.sort; 45 m.length; 46 m.item; 47 m.aside
def shM : List (Nat × Nat) := [(11, 0), (20, 64), (20, 64), (20, 64), (20, 64), (20, 64), (20, 4), (20, 4), (20, 4), (20, 4), (20, 14), (20, 14), (20, 14), (20, 14), (20, 6), (20, 6), (21, 14), (20, 30), (20, 30), (20, 30), (20, 30), (20, 30), (20, 30), (20, 8), (20, 8), (20, 8), (20, 5), (20, 5), (20, 5), (20, 5), (20, 5), (20, 5), (20, 5), (20, 5), (20, 1120), (20, 7), (20, 161), (20, 161), (20, 8), (20, 3), (20, 8), (20, 30), (20, 30), (20, 620), (20, 4), (20, 4), (20, 160), (20, 40)]
def rtM : List (List (Option Nat)) := [[none, none, none, none, none, some 1, some 2, some 3, some 4, some 5, some 6, some 7, some 8, some 9, some 10, some 11, some 12, some 13, some 14, some 15, some 16, none, some 17, some 18, some 19, some 20, some 21, some 22, none, none, none, some 23, some 24, some 25, none, none, none, some 26, some 27, some 28, some 29, some 30, some 31, some 32, some 33, none, none, none, some 34, some 35, none, none, none, none, none, none, some 36, some 37, some 38, none, none, none, some 39, none, some 40, none, some 41, some 42, some 43, none, none, none, none, some 44, some 45, some 46, some 47], [], [], [], [], [], [], [], [], [], [], [], [], [], [], [], [], [], [], [], [], [], [], [], [], [], [], [], [], [], [], [], [], [], [], [], [], [], [], [], [], [], [], [], [], [], [], []]
def rfM (k j : Nat) : Option Nat := (rtM.getD k []).getD j none
def SyM : Sy := (shM, rfM)
theorem pM_0 : SyM.1[0]? = some (11, 0) := rfl
theorem oM_0 : IsO SyM 0 RX11 := ⟨11, 0, _, rfl, by decide, rfl, rfl⟩
theorem rM_0_5 : SyM.2 0 5 = some 1 := rfl
theorem rM_0_6 : SyM.2 0 6 = some 2 := rfl
theorem rM_0_7 : SyM.2 0 7 = some 3 := rfl
theorem rM_0_8 : SyM.2 0 8 = some 4 := rfl
theorem rM_0_9 : SyM.2 0 9 = some 5 := rfl
theorem rM_0_10 : SyM.2 0 10 = some 6 := rfl
theorem rM_0_11 : SyM.2 0 11 = some 7 := rfl
theorem rM_0_12 : SyM.2 0 12 = some 8 := rfl
theorem rM_0_13 : SyM.2 0 13 = some 9 := rfl
theorem rM_0_14 : SyM.2 0 14 = some 10 := rfl
theorem rM_0_15 : SyM.2 0 15 = some 11 := rfl
theorem rM_0_16 : SyM.2 0 16 = some 12 := rfl
theorem rM_0_17 : SyM.2 0 17 = some 13 := rfl
theorem rM_0_18 : SyM.2 0 18 = some 14 := rfl
theorem rM_0_19 : SyM.2 0 19 = some 15 := rfl
theorem rM_0_20 : SyM.2 0 20 = some 16 := rfl
theorem rM_0_22 : SyM.2 0 22 = some 17 := rfl
theorem rM_0_23 : SyM.2 0 23 = some 18 := rfl
theorem rM_0_24 : SyM.2 0 24 = some 19 := rfl
theorem rM_0_25 : SyM.2 0 25 = some 20 := rfl
theorem rM_0_26 : SyM.2 0 26 = some 21 := rfl
theorem rM_0_27 : SyM.2 0 27 = some 22 := rfl
theorem rM_0_31 : SyM.2 0 31 = some 23 := rfl
theorem rM_0_32 : SyM.2 0 32 = some 24 := rfl
theorem rM_0_33 : SyM.2 0 33 = some 25 := rfl
theorem rM_0_37 : SyM.2 0 37 = some 26 := rfl
theorem rM_0_38 : SyM.2 0 38 = some 27 := rfl
theorem rM_0_39 : SyM.2 0 39 = some 28 := rfl
theorem rM_0_40 : SyM.2 0 40 = some 29 := rfl
theorem rM_0_41 : SyM.2 0 41 = some 30 := rfl
theorem rM_0_42 : SyM.2 0 42 = some 31 := rfl
theorem rM_0_43 : SyM.2 0 43 = some 32 := rfl
theorem rM_0_44 : SyM.2 0 44 = some 33 := rfl
theorem rM_0_48 : SyM.2 0 48 = some 34 := rfl
theorem rM_0_49 : SyM.2 0 49 = some 35 := rfl
theorem rM_0_56 : SyM.2 0 56 = some 36 := rfl
theorem rM_0_57 : SyM.2 0 57 = some 37 := rfl
theorem rM_0_58 : SyM.2 0 58 = some 38 := rfl
theorem rM_0_62 : SyM.2 0 62 = some 39 := rfl
theorem rM_0_64 : SyM.2 0 64 = some 40 := rfl
theorem rM_0_66 : SyM.2 0 66 = some 41 := rfl
theorem rM_0_67 : SyM.2 0 67 = some 42 := rfl
theorem rM_0_68 : SyM.2 0 68 = some 43 := rfl
theorem rM_0_73 : SyM.2 0 73 = some 44 := rfl
theorem rM_0_74 : SyM.2 0 74 = some 45 := rfl
theorem rM_0_75 : SyM.2 0 75 = some 46 := rfl
theorem rM_0_76 : SyM.2 0 76 = some 47 := rfl
theorem pM_1 : SyM.1[1]? = some (20, 64) := rfl
theorem pM_2 : SyM.1[2]? = some (20, 64) := rfl
theorem pM_3 : SyM.1[3]? = some (20, 64) := rfl
theorem pM_4 : SyM.1[4]? = some (20, 64) := rfl
theorem pM_5 : SyM.1[5]? = some (20, 64) := rfl
theorem pM_6 : SyM.1[6]? = some (20, 4) := rfl
theorem pM_7 : SyM.1[7]? = some (20, 4) := rfl
theorem pM_8 : SyM.1[8]? = some (20, 4) := rfl
theorem pM_9 : SyM.1[9]? = some (20, 4) := rfl
theorem pM_10 : SyM.1[10]? = some (20, 14) := rfl
theorem pM_11 : SyM.1[11]? = some (20, 14) := rfl
theorem pM_12 : SyM.1[12]? = some (20, 14) := rfl
theorem pM_13 : SyM.1[13]? = some (20, 14) := rfl
theorem pM_14 : SyM.1[14]? = some (20, 6) := rfl
theorem pM_15 : SyM.1[15]? = some (20, 6) := rfl
theorem pM_16 : SyM.1[16]? = some (21, 14) := rfl
theorem pM_17 : SyM.1[17]? = some (20, 30) := rfl
theorem pM_18 : SyM.1[18]? = some (20, 30) := rfl
theorem pM_19 : SyM.1[19]? = some (20, 30) := rfl
theorem pM_20 : SyM.1[20]? = some (20, 30) := rfl
theorem pM_21 : SyM.1[21]? = some (20, 30) := rfl
theorem pM_22 : SyM.1[22]? = some (20, 30) := rfl
theorem pM_23 : SyM.1[23]? = some (20, 8) := rfl
theorem pM_24 : SyM.1[24]? = some (20, 8) := rfl
theorem pM_25 : SyM.1[25]? = some (20, 8) := rfl
theorem pM_26 : SyM.1[26]? = some (20, 5) := rfl
theorem pM_27 : SyM.1[27]? = some (20, 5) := rfl
theorem pM_28 : SyM.1[28]? = some (20, 5) := rfl
theorem pM_29 : SyM.1[29]? = some (20, 5) := rfl
theorem pM_30 : SyM.1[30]? = some (20, 5) := rfl
theorem pM_31 : SyM.1[31]? = some (20, 5) := rfl
theorem pM_32 : SyM.1[32]? = some (20, 5) := rfl
theorem pM_33 : SyM.1[33]? = some (20, 5) := rfl
theorem pM_34 : SyM.1[34]? = some (20, 1120) := rfl
theorem pM_35 : SyM.1[35]? = some (20, 7) := rfl
theorem pM_36 : SyM.1[36]? = some (20, 161) := rfl
theorem pM_37 : SyM.1[37]? = some (20, 161) := rfl
theorem pM_38 : SyM.1[38]? = some (20, 8) := rfl
theorem pM_39 : SyM.1[39]? = some (20, 3) := rfl
theorem pM_40 : SyM.1[40]? = some (20, 8) := rfl
theorem pM_41 : SyM.1[41]? = some (20, 30) := rfl
theorem pM_42 : SyM.1[42]? = some (20, 30) := rfl
theorem pM_43 : SyM.1[43]? = some (20, 620) := rfl
theorem pM_44 : SyM.1[44]? = some (20, 4) := rfl
theorem pM_45 : SyM.1[45]? = some (20, 4) := rfl
theorem pM_46 : SyM.1[46]? = some (20, 160) := rfl
theorem pM_47 : SyM.1[47]? = some (20, 40) := rfl
end
section
/-! decode rows by tables; truth values; Math; copies; tables of the class; switches -/
def dec_ok (b : ByteArray) (l : List (Nat × Instr × Nat)) : Bool := l.all fun q => decide (decode b q.1 = .ok (q.2.1, q.2.2))
theorem dd {b : ByteArray} {l : List (Nat × Instr × Nat)} (h : dec_ok b l = true) (i : Nat) {pc n : Nat} {ins : Instr} (hi : l[i]? = some (pc, ins, n)) : decode b pc = .ok (ins, n) :=
  by
  have h1 := List.all_eq_true.mp h _ (List.mem_of_getElem? hi)
  have h2 : decide (decode b pc = .ok (ins, n)) = true := h1
  exact of_decide_eq_true h2
/-- 1 if so, else 0 -/
def bi (p : Prop) [Decidable p] : Int32 := if p then 1 else 0
theorem bi_t {p : Prop} [Decidable p] (h : p) : bi p = 1 := if_pos h
theorem bi_f {p : Prop} [Decidable p] (h : ¬ p) : bi p = 0 := if_neg h
theorem bi_0 {p : Prop} [Decidable p] : bi p = 0 ↔ ¬ p := by
  unfold bi; split
  · next h => exact ⟨fun e => absurd e (by decide), fun e => absurd h e⟩
  · next h => exact ⟨fun _ => h, fun _ => rfl⟩
theorem bi_n {p : Prop} [Decidable p] : ¬ bi p = 0 ↔ p := by rw [bi_0, Decidable.not_not]
theorem bi_c {p q : Prop} [Decidable p] [Decidable q] (h : p ↔ q) : bi p = bi q := by unfold bi; simp only [h]
theorem nar_bi {p : Prop} [Decidable p] : narrow .boolean (.int (bi p)) = .int (bi p) := by unfold bi; split <;> rfl
theorem zar_bi {p : Prop} [Decidable p] : vp_nar .boolean (bi p) = bi p := by unfold bi; split <;> rfl
section BM
variable {S : Sy} {M : Mi} {d pc : Nat} {lv : List (Nat × Value)} {st : List Value} {I I' : Wd} {r : Option Value}
theorem b_ifb_eq {c : Prop} [Decidable c] {off : Int} {tgt : Nat} (hd : decode M.2.1 pc = .ok (.ifCond .eq off, 3)) (ht : (pc : Int) + off = (tgt : Int)) (kt : ¬ c → Bd S M d tgt lv st I r I') (kf : c → Bd S M d (pc + 3) lv st I r I') : Bd S M d pc lv (.int (bi c) :: st) I r I' :=
  b_if_eq hd ht (fun h => kt (bi_0.mp h)) (fun h => kf (bi_n.mp h))
theorem b_ifb_ne {c : Prop} [Decidable c] {off : Int} {tgt : Nat} (hd : decode M.2.1 pc = .ok (.ifCond .ne off, 3)) (ht : (pc : Int) + off = (tgt : Int)) (kt : c → Bd S M d tgt lv st I r I') (kf : ¬ c → Bd S M d (pc + 3) lv st I r I') : Bd S M d pc lv (.int (bi c) :: st) I r I' :=
  b_if_ne hd ht (fun h => kt (bi_n.mp h)) (fun h => kf (bi_0.mp h))
theorem b_ifn_eq {c : Prop} [Decidable c] {off : Int} {tgt : Nat} (hd : decode M.2.1 pc = .ok (.ifCond .eq off, 3)) (ht : (pc : Int) + off = (tgt : Int)) (kt : c → Bd S M d tgt lv st I r I') (kf : ¬ c → Bd S M d (pc + 3) lv st I r I') : Bd S M d pc lv (.int (bi (¬ c)) :: st) I r I' :=
  b_ifb_eq hd ht (fun h => kt (Decidable.not_not.mp h)) kf
theorem b_ifn_ne {c : Prop} [Decidable c] {off : Int} {tgt : Nat} (hd : decode M.2.1 pc = .ok (.ifCond .ne off, 3)) (ht : (pc : Int) + off = (tgt : Int)) (kt : ¬ c → Bd S M d tgt lv st I r I') (kf : c → Bd S M d (pc + 3) lv st I r I') : Bd S M d pc lv (.int (bi (¬ c)) :: st) I r I' :=
  b_ifb_ne hd ht kt (fun h => kf (Decidable.not_not.mp h))
theorem b_mmax {idx : Nat} {x y : Int32} (hd : decode M.2.1 pc = .ok (.invokestatic idx, 3)) (hw : Cond.methodLink M.1.cls idx Lib.Math.max.name ∈ gw ∧ Cond.static Lib.Math.max.name ∈ gw ∧ Cond.initialized "java/lang/Math" ∈ gw ∧ Cond.code Lib.Math.max.name Lib.Math.max.code 2 (some .int) ∈ gw) (hr : csum st + 14 ≤ 80 * d) (kk : Bd S M d (pc + 3) lv (.int (if x < y then y else x) :: st) I r I') : Bd S M d pc lv (.int y :: .int x :: st) I r I' := by
  intro p l e s m args below meth c D cy ad H locs ls X
  obtain ⟨⟨hx, hb, hr', hml, hown, hts, hlocks⟩, hlv, hi, hK, hE, hP, hS⟩ := id X
  exact va_mmax hx hb (hml.trans hlv.1.symm) hown (hts _ hw.1) (hts _ hw.2.1) (hts _ hw.2.2.1) (hts _ hw.2.2.2) (show 1 ≤ d by omega) (by rw [csum_map]; show csum st + 13 ≤ 80 * d; omega) (Nat.zero_le _) (Nat.zero_le _) hd (kk p l e s m args below meth c D cy ad H locs ls X)
theorem b_mmin {idx : Nat} {x y : Int32} (hd : decode M.2.1 pc = .ok (.invokestatic idx, 3)) (hw : Cond.methodLink M.1.cls idx Lib.Math.min.name ∈ gw ∧ Cond.static Lib.Math.min.name ∈ gw ∧ Cond.initialized "java/lang/Math" ∈ gw ∧ Cond.code Lib.Math.min.name Lib.Math.min.code 2 (some .int) ∈ gw) (hr : csum st + 14 ≤ 80 * d) (kk : Bd S M d (pc + 3) lv (.int (if y < x then y else x) :: st) I r I') : Bd S M d pc lv (.int y :: .int x :: st) I r I' := by
  intro p l e s m args below meth c D cy ad H locs ls X
  obtain ⟨⟨hx, hb, hr', hml, hown, hts, hlocks⟩, hlv, hi, hK, hE, hP, hS⟩ := id X
  exact va_mmin hx hb (hml.trans hlv.1.symm) hown (hts _ hw.1) (hts _ hw.2.1) (hts _ hw.2.2.1) (hts _ hw.2.2.2) (show 1 ≤ d by omega) (by rw [csum_map]; show csum st + 13 ≤ 80 * d; omega) (Nat.zero_le _) (Nat.zero_le _) hd (kk p l e s m args below meth c D cy ad H locs ls X)
theorem b_mabs {idx : Nat} {x : Int32} (hd : decode M.2.1 pc = .ok (.invokestatic idx, 3)) (hw : Cond.methodLink M.1.cls idx Lib.Math.abs.name ∈ gw ∧ Cond.static Lib.Math.abs.name ∈ gw ∧ Cond.initialized "java/lang/Math" ∈ gw ∧ Cond.code Lib.Math.abs.name Lib.Math.abs.code 1 (some .int) ∈ gw) (hr : csum st + 14 ≤ 80 * d) (kk : Bd S M d (pc + 3) lv (.int (if 0 ≤ x then x else 0 - x) :: st) I r I') : Bd S M d pc lv (.int x :: st) I r I' := by
  intro p l e s m args below meth c D cy ad H locs ls X
  obtain ⟨⟨hx, hb, hr', hml, hown, hts, hlocks⟩, hlv, hi, hK, hE, hP, hS⟩ := id X
  exact va_mabs hx hb (hml.trans hlv.1.symm) hown (hts _ hw.1) (hts _ hw.2.1) (hts _ hw.2.2.1) (hts _ hw.2.2.2) (show 1 ≤ d by omega) (by rw [csum_map]; show csum st + 13 ≤ 80 * d; omega) (Nat.zero_le _) (Nat.zero_le _) hd (kk p l e s m args below meth c D cy ad H locs ls X)
/-- tables of the class: the static field, and a place of it -/
theorem b_gets0 {idx : Nat} (hd : decode M.2.1 pc = .ok (.getstatic idx, 3)) (hw : Cond.fieldLink M.1.cls idx "HollowShire$Ground" "SOLVES" "[I" ∈ gw) (kk : Bd S M d (pc + 3) lv (.ref 1000 :: st) I r I') : Bd S M d pc lv st I r I' := by
  intro p l e s m args below meth c D cy ad H locs ls X
  obtain ⟨⟨hx, hb, hr, hml, hown, hts, hlocks⟩, hl, hi, hK, hE, hP, hS⟩ := id X
  exact va_gets hx hb hE.1.1.1 hS hown (hts _ hw) (fun _ h => h) hd (kk p l e s m args below meth c D cy ad H locs ls X)
theorem b_gets1 {idx : Nat} (hd : decode M.2.1 pc = .ok (.getstatic idx, 3)) (hw : Cond.fieldLink M.1.cls idx "HollowShire$Ground" "BEARS" "[I" ∈ gw) (kk : Bd S M d (pc + 3) lv (.ref 1001 :: st) I r I') : Bd S M d pc lv st I r I' := by
  intro p l e s m args below meth c D cy ad H locs ls X
  obtain ⟨⟨hx, hb, hr, hml, hown, hts, hlocks⟩, hl, hi, hK, hE, hP, hS⟩ := id X
  exact va_gets hx hb hE.1.2.1.1 hS hown (hts _ hw) (fun _ h => h) hd (kk p l e s m args below meth c D cy ad H locs ls X)
theorem b_gets2 {idx : Nat} (hd : decode M.2.1 pc = .ok (.getstatic idx, 3)) (hw : Cond.fieldLink M.1.cls idx "HollowShire$Signs" "KIND_ABOVE" "[I" ∈ gw) (kk : Bd S M d (pc + 3) lv (.ref 1002 :: st) I r I') : Bd S M d pc lv st I r I' := by
  intro p l e s m args below meth c D cy ad H locs ls X
  obtain ⟨⟨hx, hb, hr, hml, hown, hts, hlocks⟩, hl, hi, hK, hE, hP, hS⟩ := id X
  exact va_gets hx hb hE.1.2.2.1.1 hS hown (hts _ hw) (fun _ h => h) hd (kk p l e s m args below meth c D cy ad H locs ls X)
theorem b_gets3 {idx : Nat} (hd : decode M.2.1 pc = .ok (.getstatic idx, 3)) (hw : Cond.fieldLink M.1.cls idx "HollowShire$Fit" "SIZES" "[I" ∈ gw) (kk : Bd S M d (pc + 3) lv (.ref 1003 :: st) I r I') : Bd S M d pc lv st I r I' := by
  intro p l e s m args below meth c D cy ad H locs ls X
  obtain ⟨⟨hx, hb, hr, hml, hown, hts, hlocks⟩, hl, hi, hK, hE, hP, hS⟩ := id X
  exact va_gets hx hb hE.1.2.2.2.1 hS hown (hts _ hw) (fun _ h => h) hd (kk p l e s m args below meth c D cy ad H locs ls X)
theorem b_tald0 {i : Int32} (hd : decode M.2.1 pc = .ok (.iaload, 1)) (hin : vp_in i 4) (kk : Bd S M d (pc + 1) lv (.int (tbSolves.getD i.toNatClampNeg 0) :: st) I r I') : Bd S M d pc lv (.int i :: .ref 1000 :: st) I r I' := by
  intro p l e s m args below meth c D cy ad H locs ls X
  obtain ⟨⟨hx, hb, hr, hml, hown, hts, hlocks⟩, hl, hi, hK, hE, hP, hS⟩ := id X
  exact va_ti hx hb hE.1.1.2 hS hin rfl hd (kk p l e s m args below meth c D cy ad H locs ls X)
theorem b_tald1 {i : Int32} (hd : decode M.2.1 pc = .ok (.iaload, 1)) (hin : vp_in i 4) (kk : Bd S M d (pc + 1) lv (.int (tbBears.getD i.toNatClampNeg 0) :: st) I r I') : Bd S M d pc lv (.int i :: .ref 1001 :: st) I r I' := by
  intro p l e s m args below meth c D cy ad H locs ls X
  obtain ⟨⟨hx, hb, hr, hml, hown, hts, hlocks⟩, hl, hi, hK, hE, hP, hS⟩ := id X
  exact va_ti hx hb hE.1.2.1.2 hS hin rfl hd (kk p l e s m args below meth c D cy ad H locs ls X)
theorem b_tald2 {i : Int32} (hd : decode M.2.1 pc = .ok (.iaload, 1)) (hin : vp_in i 6) (kk : Bd S M d (pc + 1) lv (.int (tbAbove.getD i.toNatClampNeg 0) :: st) I r I') : Bd S M d pc lv (.int i :: .ref 1002 :: st) I r I' := by
  intro p l e s m args below meth c D cy ad H locs ls X
  obtain ⟨⟨hx, hb, hr, hml, hown, hts, hlocks⟩, hl, hi, hK, hE, hP, hS⟩ := id X
  exact va_ti hx hb hE.1.2.2.1.2 hS hin rfl hd (kk p l e s m args below meth c D cy ad H locs ls X)
theorem b_tald3 {i : Int32} (hd : decode M.2.1 pc = .ok (.iaload, 1)) (hin : vp_in i 5) (kk : Bd S M d (pc + 1) lv (.int (tbSizes.getD i.toNatClampNeg 0) :: st) I r I') : Bd S M d pc lv (.int i :: .ref 1003 :: st) I r I' := by
  intro p l e s m args below meth c D cy ad H locs ls X
  obtain ⟨⟨hx, hb, hr, hml, hown, hts, hlocks⟩, hl, hi, hK, hE, hP, hS⟩ := id X
  exact va_ti hx hb hE.1.2.2.2.2 hS hin rfl hd (kk p l e s m args below meth c D cy ad H locs ls X)
theorem b_tlen3 {v : Int32} (hd : decode M.2.1 pc = .ok (.arraylength, 1)) (hv : (5 : Int32) = v) (kk : Bd S M d (pc + 1) lv (.int v :: st) I r I') : Bd S M d pc lv (.ref 1003 :: st) I r I' := by
  intro p l e s m args below meth c D cy ad H locs ls X
  obtain ⟨⟨hx, hb, hr, hml, hown, hts, hlocks⟩, hl, hi, hK, hE, hP, hS⟩ := id X
  exact va_tlen hx hb hE.1.2.2.2.2 hS (by subst hv; rfl) hd (kk p l e s m args below meth c D cy ad H locs ls X)
/-- a text -/
theorem b_ldcS {i idx : Nat} (hd : decode M.2.1 pc = .ok (.ldc idx, 2)) (hi15 : i < 15) (ho : txO.getD i "" = M.1.cls) (hk : txK.getD i 0 = idx) (kk : Bd S M d (pc + 2) lv (.ref (1100 + i) :: st) I r I') : Bd S M d pc lv st I r I' := by
  intro p l e s m args below meth c D cy ad H locs ls X
  obtain ⟨⟨hx, hb, hr, hml, hown, hts, hlocks⟩, hl, hi, hK, hE, hP, hS⟩ := id X
  have h1 := hE.2.1.2.1 i hi15
  rw [ho, hk] at h1
  exact va_ldcS hx hb hown h1 hd (kk p l e s m args below meth c D cy ad H locs ls X)
/-- switches, case by case -/
def swp (P : Nat → Prop) (x : Int32) (dfl : Nat) : List (Int32 × Nat) → Prop
  | [] => P dfl
  | q :: l => (x = q.1 → P q.2) ∧ (¬ x = q.1 → swp P x dfl l)
theorem swp_in {P : Nat → Prop} {x : Int32} {dfl : Nat} : ∀ {l : List (Int32 × Nat)}, swp P x dfl l → (∃ q ∈ l, x = q.1 ∧ P q.2) ∨ ((∀ q ∈ l, ¬ x = q.1) ∧ P dfl)
  | [], h => Or.inr ⟨fun _ h => absurd h List.not_mem_nil, h⟩
  | q :: l, h => by
    by_cases e : x = q.1
    · exact Or.inl ⟨q, List.mem_cons_self, e, h.1 e⟩
    · rcases swp_in (h.2 e) with ⟨q2, h1, h2, h3⟩ | ⟨h1, h2⟩
      · exact Or.inl ⟨q2, List.mem_cons_of_mem _ h1, h2, h3⟩
      · refine Or.inr ⟨fun q2 hq => ?_, h2⟩
        rcases List.mem_cons.mp hq with rfl | hq
        · exact e
        · exact h1 q2 hq
def tsw_ok (pc : Nat) (lo hi : Int) (offs : Array Int) (ts : List (Int32 × Nat)) : Bool :=
  decide ((ts.length : Int) = hi - lo + 1) && (List.range ts.length).all (fun i => match ts[i]?, offs[i]? with
    | some q, some o => decide (q.1.toInt = lo + (i : Int)) && decide ((pc : Int) + o = (q.2 : Int))
    | _, _ => false)
theorem b_tsw {dflt lo hi : Int} {offs : Array Int} {len : Nat} {x : Int32} {dfl : Nat} {ts : List (Int32 × Nat)} (hd : decode M.2.1 pc = .ok (.tableswitch dflt lo hi offs, len)) (hok : (tsw_ok pc lo hi offs ts && decide ((pc : Int) + dflt = (dfl : Int))) = true) (kk : swp (fun t => Bd S M d t lv st I r I') x dfl ts) : Bd S M d pc lv (.int x :: st) I r I' := by
  simp only [tsw_ok, Bool.and_eq_true, decide_eq_true_eq, List.all_eq_true, List.mem_range] at hok
  obtain ⟨⟨hlen, hall⟩, hdf⟩ := hok
  rcases swp_in kk with ⟨q, hq, hxq, hP⟩ | ⟨hno, hP⟩
  · obtain ⟨i, hi2⟩ := List.getElem?_of_mem hq
    have hil := (List.getElem?_eq_some_iff.mp hi2).1
    have h3 := hall i hil
    rw [hi2] at h3
    cases ho : offs[i]? with
    | none => rw [ho] at h3; cases h3
    | some o =>
      rw [ho] at h3
      simp only [Bool.and_eq_true, decide_eq_true_eq] at h3
      rw [← hxq] at h3
      intro p l e s m args below meth c D cy ad H locs ls X
      exact lv_tableIn (off := o) (tgt := q.2) X.1.1 X.1.2.1 hd (by omega) (by omega) (by rw [show (x.toInt - lo).toNat = i by omega]; exact ho) h3.2 (hP p l e s m args below meth c D cy ad H locs ls X)
  · intro p l e s m args below meth c D cy ad H locs ls X
    refine lv_tableOut X.1.1 X.1.2.1 hd ?_ hdf (hP p l e s m args below meth c D cy ad H locs ls X)
    rcases Int.lt_or_le x.toInt lo with h1 | h1
    · exact Or.inl h1
    rcases Int.lt_or_le hi x.toInt with h2 | h2
    · exact Or.inr h2
    have hil : (x.toInt - lo).toNat < ts.length := by omega
    have h3 := hall _ hil
    rw [List.getElem?_eq_getElem hil] at h3
    cases ho : offs[(x.toInt - lo).toNat]? with
    | none => rw [ho] at h3; cases h3
    | some o =>
      rw [ho] at h3
      simp only [Bool.and_eq_true, decide_eq_true_eq] at h3
      exact absurd (Int32.toInt_inj.mp (by rw [h3.1]; omega)) (hno _ (List.getElem_mem hil))
def lsw_ok (pc : Nat) (ps : List (Int × Int)) (ts : List (Int32 × Nat)) : Bool := match ps, ts with
  | [], [] => true
  | p :: ps, q :: ts => decide (q.1.toInt = p.1) && decide ((pc : Int) + p.2 = (q.2 : Int)) && lsw_ok pc ps ts
  | _, _ => false
theorem lsw_go {pc dfl : Nat} {dflt : Int} {x : Int32} {P : Nat → Prop} (hdf : (pc : Int) + dflt = (dfl : Int)) : ∀ {ps : List (Int × Int)} {ts : List (Int32 × Nat)}, lsw_ok pc ps ts = true → swp P x dfl ts → ∃ (off : Int) (tgt : Nat), Op.lookupswitch.offset ps dflt x.toInt = off ∧ (pc : Int) + off = (tgt : Int) ∧ P tgt
  | [], [], _, h => ⟨dflt, dfl, rfl, hdf, h⟩
  | [], _ :: _, h, _ => by cases h
  | _ :: _, [], h, _ => by cases h
  | (a, o) :: ps, q :: ts, h, hs => by
    simp only [lsw_ok, Bool.and_eq_true, decide_eq_true_eq] at h
    by_cases e : x = q.1
    · refine ⟨o, q.2, ?_, h.1.2, hs.1 e⟩
      have e2 : x.toInt = a := by rw [e]; exact h.1.1
      simp [Op.lookupswitch.offset, e2]
    · obtain ⟨off, tgt, h1, h2, h3⟩ := lsw_go hdf h.2 (hs.2 e)
      refine ⟨off, tgt, ?_, h2, h3⟩
      rw [lv_osw e h.1.1]
      exact h1
theorem b_lsw {dflt : Int} {ps : Array (Int × Int)} {len : Nat} {x : Int32} {dfl : Nat} {ts : List (Int32 × Nat)} (hd : decode M.2.1 pc = .ok (.lookupswitch dflt ps, len)) (hok : ((ps.toList.zip (ps.toList.drop 1)).all (fun (a, next) => a.1 < next.1) && lsw_ok pc ps.toList ts && decide ((pc : Int) + dflt = (dfl : Int))) = true) (kk : swp (fun t => Bd S M d t lv st I r I') x dfl ts) : Bd S M d pc lv (.int x :: st) I r I' := by
  simp only [Bool.and_eq_true, decide_eq_true_eq] at hok
  obtain ⟨⟨hz, hl⟩, hdf⟩ := hok
  obtain ⟨off, tgt, h1, h2, h3⟩ := lsw_go hdf hl kk
  intro p l e s m args below meth c D cy ad H locs ls X
  exact lv_lookup X.1.1 X.1.2.1 hd hz h1 h2 (h3 p l e s m args below meth c D cy ad H locs ls X)
/-- a copy between two rows of whole numbers -/
theorem b_copyT {k1 k0 n1 n0 t : Nat} {sp dp n : Int32} {idx : Nat} {ty : FieldType} (ht : (t = 20 ∧ ty = .int) ∨ (t = 21 ∧ ty = .boolean)) (hd : decode M.2.1 pc = .ok (.invokestatic idx, 3)) (hw : Cond.methodLink M.1.cls idx arraycopyName ∈ gw ∧ Cond.native arraycopyName ∈ gw ∧ Cond.static arraycopyName ∈ gw ∧ Cond.initialized "java/lang/System" ∈ gw) (h0 : S.1[k0]? = some (t, n0)) (h1 : S.1[k1]? = some (t, n1))
    (hc : ¬ sp < 0 ∧ ¬ dp < 0 ∧ ¬ n < 0 ∧ sp.toNatClampNeg + n.toNatClampNeg ≤ n0 ∧ dp.toNatClampNeg + n.toNatClampNeg ≤ n1 ∧ (∀ i, i < n.toNatClampNeg → fits ty (.int (I k0 (sp.toNatClampNeg + i))) = true) ∧ csum st + 40 ≤ 80 * d)
    (kk : Bd S M d (pc + 3) lv st (rset I k1 (va_cpy (I k0) (I k1) sp.toNatClampNeg dp.toNatClampNeg n.toNatClampNeg)) r I') : Bd S M d pc lv (.int n :: .int dp :: .ref k1 :: .int sp :: .ref k0 :: st) I r I' := by
  intro p l e s m args below meth c D cy ad H locs ls X
  obtain ⟨hX1, hl, hi, hK, hE, hP, hS⟩ := id X
  obtain ⟨hx, hb, hr, hml, hown, hts, hlocks⟩ := id hX1
  obtain ⟨c1, c2, c3, c4, c5, c6, c7⟩ := hc
  have hwd : nativeFrameWords "java/lang/System" "arraycopy" 5 + 11 ≤ 40 := by decide +kernel
  rcases ht with ⟨rfl, rfl⟩ | ⟨rfl, rfl⟩
  · refine va_copyi hx hb (hml.trans hl.1.symm) hown (hts _ hw.1) (hts _ hw.2.1) (hts _ hw.2.2.1) (hts _ hw.2.2.2) hK hP (ws_D hi) hS k0 k1 0 0 (ws_at h0) (ws_at h1) rfl rfl rfl c1 c2 c3 c4 c5 c6 (show 1 ≤ d by omega) (by rw [csum_map]; show csum st + _ ≤ 80 * d; omega) hd ?_
    intro H1 locs1 hP1 hD1 hS1
    have e3 := ws_set (cy := cy) (ad := ad) (I := I) h1 (va_cpy (I k0) (I k1) sp.toNatClampNeg dp.toNatClampNeg n.toNatClampNeg)
    rw [ent_i] at e3
    rw [e3] at hP1
    exact kk p l e s m args below meth c D cy ad H1 locs1 ls ⟨hX1, hl, hi, hK, hE, hP1, hS1⟩
  · refine va_copyi hx hb (hml.trans hl.1.symm) hown (hts _ hw.1) (hts _ hw.2.1) (hts _ hw.2.2.1) (hts _ hw.2.2.2) hK hP (ws_D hi) hS k0 k1 1 1 (ws_at h0) (ws_at h1) rfl rfl rfl c1 c2 c3 c4 c5 c6 (show 1 ≤ d by omega) (by rw [csum_map]; show csum st + _ ≤ 80 * d; omega) hd ?_
    intro H1 locs1 hP1 hD1 hS1
    have e3 := ws_set (cy := cy) (ad := ad) (I := I) h1 (va_cpy (I k0) (I k1) sp.toNatClampNeg dp.toNatClampNeg n.toNatClampNeg)
    rw [ent_z] at e3
    rw [e3] at hP1
    exact kk p l e s m args below meth c D cy ad H1 locs1 ls ⟨hX1, hl, hi, hK, hE, hP1, hS1⟩
/-- the four orders, told by 'less' alone -/
theorem b_ifL_ge {x : Int32} {off : Int} {tgt : Nat} (hd : decode M.2.1 pc = .ok (.ifCond .ge off, 3)) (ht : (pc : Int) + off = (tgt : Int)) (kt : ¬ x < 0 → Bd S M d tgt lv st I r I') (kf : x < 0 → Bd S M d (pc + 3) lv st I r I') : Bd S M d pc lv (.int x :: st) I r I' := b_if_ge hd ht (fun h => kt (Int32.not_lt.mpr h)) (fun h => kf (Int32.not_le.mp h))
theorem b_ifL_le {x : Int32} {off : Int} {tgt : Nat} (hd : decode M.2.1 pc = .ok (.ifCond .le off, 3)) (ht : (pc : Int) + off = (tgt : Int)) (kt : ¬ 0 < x → Bd S M d tgt lv st I r I') (kf : 0 < x → Bd S M d (pc + 3) lv st I r I') : Bd S M d pc lv (.int x :: st) I r I' := b_if_le hd ht (fun h => kt (Int32.not_lt.mpr h)) (fun h => kf (Int32.not_le.mp h))
theorem b_icmpL_ge {x y : Int32} {off : Int} {tgt : Nat} (hd : decode M.2.1 pc = .ok (.if_icmp .ge off, 3)) (ht : (pc : Int) + off = (tgt : Int)) (kt : ¬ x < y → Bd S M d tgt lv st I r I') (kf : x < y → Bd S M d (pc + 3) lv st I r I') : Bd S M d pc lv (.int y :: .int x :: st) I r I' := b_icmp_ge hd ht (fun h => kt (Int32.not_lt.mpr h)) (fun h => kf (Int32.not_le.mp h))
theorem b_icmpL_le {x y : Int32} {off : Int} {tgt : Nat} (hd : decode M.2.1 pc = .ok (.if_icmp .le off, 3)) (ht : (pc : Int) + off = (tgt : Int)) (kt : ¬ y < x → Bd S M d tgt lv st I r I') (kf : y < x → Bd S M d (pc + 3) lv st I r I') : Bd S M d pc lv (.int y :: .int x :: st) I r I' := b_icmp_le hd ht (fun h => kt (Int32.not_lt.mpr h)) (fun h => kf (Int32.not_le.mp h))
end BM
end
section
theorem wi_Math : Cond.initialized "java/lang/Math" ∈ gw := gw_t1 6 rfl rfl
theorem wi_System : Cond.initialized "java/lang/System" ∈ gw := gw_t1 17 rfl rfl
theorem wt_max : Cond.static Lib.Math.max.name ∈ gw := gw_t1 178 rfl rfl
theorem wc_max : Cond.code Lib.Math.max.name Lib.Math.max.code 2 (some .int) ∈ gw := gw_t1 179 rfl rfl
theorem wt_min : Cond.static Lib.Math.min.name ∈ gw := gw_t3 184 rfl rfl
theorem wc_min : Cond.code Lib.Math.min.name Lib.Math.min.code 2 (some .int) ∈ gw := gw_t3 185 rfl rfl
theorem wt_abs : Cond.static Lib.Math.abs.name ∈ gw := gw_t3 206 rfl rfl
theorem wc_abs : Cond.code Lib.Math.abs.name Lib.Math.abs.code 1 (some .int) ∈ gw := gw_t3 207 rfl rfl
theorem wt_copy : Cond.static arraycopyName ∈ gw := gw_t3 74 rfl rfl
theorem wn_copy : Cond.native arraycopyName ∈ gw := gw_t3 75 rfl rfl
theorem wlX10_269 : Cond.methodLink RX10 269 Lib.Math.min.name ∈ gw ∧ Cond.static Lib.Math.min.name ∈ gw ∧ Cond.initialized "java/lang/Math" ∈ gw ∧ Cond.code Lib.Math.min.name Lib.Math.min.code 2 (some .int) ∈ gw := ⟨gw_t4 161 rfl rfl, wt_min, wi_Math, wc_min⟩
theorem wlX10_274 : Cond.methodLink RX10 274 Lib.Math.max.name ∈ gw ∧ Cond.static Lib.Math.max.name ∈ gw ∧ Cond.initialized "java/lang/Math" ∈ gw ∧ Cond.code Lib.Math.max.name Lib.Math.max.code 2 (some .int) ∈ gw := ⟨gw_t4 162 rfl rfl, wt_max, wi_Math, wc_max⟩
theorem wlX10_359 : Cond.methodLink RX10 359 arraycopyName ∈ gw ∧ Cond.native arraycopyName ∈ gw ∧ Cond.static arraycopyName ∈ gw ∧ Cond.initialized "java/lang/System" ∈ gw := ⟨gw_t5 65 rfl rfl, wn_copy, wt_copy, wi_System⟩
theorem wlX10_373 : Cond.methodLink RX10 373 Lib.Math.abs.name ∈ gw ∧ Cond.static Lib.Math.abs.name ∈ gw ∧ Cond.initialized "java/lang/Math" ∈ gw ∧ Cond.code Lib.Math.abs.name Lib.Math.abs.code 1 (some .int) ∈ gw := ⟨gw_t4 82 rfl rfl, wt_abs, wi_Math, wc_abs⟩
theorem wlX1_57 : Cond.methodLink RX1 57 Lib.Math.min.name ∈ gw ∧ Cond.static Lib.Math.min.name ∈ gw ∧ Cond.initialized "java/lang/Math" ∈ gw ∧ Cond.code Lib.Math.min.name Lib.Math.min.code 2 (some .int) ∈ gw := ⟨gw_t4 72 rfl rfl, wt_min, wi_Math, wc_min⟩
theorem wlX1_108 : Cond.methodLink RX1 108 arraycopyName ∈ gw ∧ Cond.native arraycopyName ∈ gw ∧ Cond.static arraycopyName ∈ gw ∧ Cond.initialized "java/lang/System" ∈ gw := ⟨gw_t4 97 rfl rfl, wn_copy, wt_copy, wi_System⟩
theorem wlX1_114 : Cond.methodLink RX1 114 Lib.Math.max.name ∈ gw ∧ Cond.static Lib.Math.max.name ∈ gw ∧ Cond.initialized "java/lang/Math" ∈ gw ∧ Cond.code Lib.Math.max.name Lib.Math.max.code 2 (some .int) ∈ gw := ⟨gw_t4 98 rfl rfl, wt_max, wi_Math, wc_max⟩
theorem wlX2_63 : Cond.methodLink RX2 63 arraycopyName ∈ gw ∧ Cond.native arraycopyName ∈ gw ∧ Cond.static arraycopyName ∈ gw ∧ Cond.initialized "java/lang/System" ∈ gw := ⟨gw_t5 0 rfl rfl, wn_copy, wt_copy, wi_System⟩
theorem wlX2_105 : Cond.methodLink RX2 105 Lib.Math.min.name ∈ gw ∧ Cond.static Lib.Math.min.name ∈ gw ∧ Cond.initialized "java/lang/Math" ∈ gw ∧ Cond.code Lib.Math.min.name Lib.Math.min.code 2 (some .int) ∈ gw := ⟨gw_t3 183 rfl rfl, wt_min, wi_Math, wc_min⟩
theorem wlX2_119 : Cond.methodLink RX2 119 Lib.Math.abs.name ∈ gw ∧ Cond.static Lib.Math.abs.name ∈ gw ∧ Cond.initialized "java/lang/Math" ∈ gw ∧ Cond.code Lib.Math.abs.name Lib.Math.abs.code 1 (some .int) ∈ gw := ⟨gw_t3 205 rfl rfl, wt_abs, wi_Math, wc_abs⟩
theorem wlX4_81 : Cond.methodLink RX4 81 Lib.Math.max.name ∈ gw ∧ Cond.static Lib.Math.max.name ∈ gw ∧ Cond.initialized "java/lang/Math" ∈ gw ∧ Cond.code Lib.Math.max.name Lib.Math.max.code 2 (some .int) ∈ gw := ⟨gw_t4 129 rfl rfl, wt_max, wi_Math, wc_max⟩
theorem wlX5_30 : Cond.methodLink RX5 30 Lib.Math.min.name ∈ gw ∧ Cond.static Lib.Math.min.name ∈ gw ∧ Cond.initialized "java/lang/Math" ∈ gw ∧ Cond.code Lib.Math.min.name Lib.Math.min.code 2 (some .int) ∈ gw := ⟨gw_t5 44 rfl rfl, wt_min, wi_Math, wc_min⟩
theorem wlX5_36 : Cond.methodLink RX5 36 Lib.Math.max.name ∈ gw ∧ Cond.static Lib.Math.max.name ∈ gw ∧ Cond.initialized "java/lang/Math" ∈ gw ∧ Cond.code Lib.Math.max.name Lib.Math.max.code 2 (some .int) ∈ gw := ⟨gw_t5 45 rfl rfl, wt_max, wi_Math, wc_max⟩
theorem wlX6_45 : Cond.methodLink RX6 45 Lib.Math.max.name ∈ gw ∧ Cond.static Lib.Math.max.name ∈ gw ∧ Cond.initialized "java/lang/Math" ∈ gw ∧ Cond.code Lib.Math.max.name Lib.Math.max.code 2 (some .int) ∈ gw := ⟨gw_t4 13 rfl rfl, wt_max, wi_Math, wc_max⟩
theorem wlX6_53 : Cond.methodLink RX6 53 Lib.Math.min.name ∈ gw ∧ Cond.static Lib.Math.min.name ∈ gw ∧ Cond.initialized "java/lang/Math" ∈ gw ∧ Cond.code Lib.Math.min.name Lib.Math.min.code 2 (some .int) ∈ gw := ⟨gw_t4 40 rfl rfl, wt_min, wi_Math, wc_min⟩
theorem wlX8_22 : Cond.methodLink RX8 22 arraycopyName ∈ gw ∧ Cond.native arraycopyName ∈ gw ∧ Cond.static arraycopyName ∈ gw ∧ Cond.initialized "java/lang/System" ∈ gw := ⟨gw_t3 73 rfl rfl, wn_copy, wt_copy, wi_System⟩
theorem wlX9_15 : Cond.methodLink RX9 15 Lib.Math.max.name ∈ gw ∧ Cond.static Lib.Math.max.name ∈ gw ∧ Cond.initialized "java/lang/Math" ∈ gw ∧ Cond.code Lib.Math.max.name Lib.Math.max.code 2 (some .int) ∈ gw := ⟨gw_t1 177 rfl rfl, wt_max, wi_Math, wc_max⟩
theorem fsX1_78 : Cond.fieldLink RX1 78 "HollowShire$Fit" "SIZES" "[I" ∈ gw := gw_t4 83 rfl rfl
theorem fsX2_127 : Cond.fieldLink RX2 127 "HollowShire$Ground" "SOLVES" "[I" ∈ gw := gw_t3 195 rfl rfl
theorem fsX2_130 : Cond.fieldLink RX2 130 "HollowShire$Ground" "BEARS" "[I" ∈ gw := gw_t3 212 rfl rfl
theorem fsX6_60 : Cond.fieldLink RX6 60 "HollowShire$Signs" "KIND_ABOVE" "[I" ∈ gw := gw_t5 78 rfl rfl
end
section
/-! small words that the contracts speak with -/
abbrev inR (v lo hi : Int32) : Prop := ¬ v < lo ∧ ¬ hi < v
theorem inR_dec (v lo hi : Int32) : inR v lo hi ↔ ¬ v < lo ∧ ¬ hi < v := Iff.rfl
theorem vpn {x : Int32} {h n : Nat} (e : x = nI h) (hn : h < n) (hn2 : n < 2 ^ 31) : vp_in x n := by rw [e]; exact vp_in_nI hn hn2
theorem vp_lt {x : Int32} {n : Nat} (h : vp_in x n) : x.toNatClampNeg < n := Nat.not_le.mp fun q => h (Or.inr q)
theorem vpc {x : Int32} {n : Nat} {m : Int32} (h : inR x 0 m) (hm : m.toInt < n) : vp_in x n := by
  obtain ⟨h1, h2⟩ := h
  rw [vp_in_iff]
  rw [Int32.lt_iff_toInt_lt] at h1 h2
  have e0 : (0 : Int32).toInt = 0 := rfl
  omega
/-- a number in its range is a natural number -/
theorem nI_rng {x : Int32} {m : Int32} (h : inR x 0 m) : ∃ j : Nat, x = nI j ∧ (j : Int) ≤ m.toInt ∧ j < 2 ^ 31 := by
  obtain ⟨h1, h2⟩ := h
  obtain ⟨j, hj, e⟩ := nI_of h1
  refine ⟨j, e, ?_, hj⟩
  rw [Int32.lt_iff_toInt_lt, e, nI_toInt hj] at h2
  omega
theorem b_pick {S : Sy} {M : Mi} {d pc : Nat} {lv lv' : List (Nat × Value)} {st : List Value} {I I' : Wd} {r : Option Value} (ks : List Nat) (h : ks.filterMap (fun k => lv[k]?) = lv') (kk : Bd S M d pc lv' st I r I') : Bd S M d pc lv st I r I' := by
  intro p l e s m args below meth c D cy ad H locs ls X
  refine kk p l e s m args below meth c D cy ad H locs ls ⟨X.1, ⟨X.2.1.1, X.2.1.2.1, fun q hq => X.2.1.2.2 q ?_⟩, X.2.2⟩
  obtain ⟨q0, h0, rfl⟩ := List.mem_map.mp hq
  rw [← h] at h0
  obtain ⟨k, -, hk⟩ := List.mem_filterMap.mp h0
  exact List.mem_map.mpr ⟨q0, List.mem_of_getElem? hk, rfl⟩
/-! the three grounds, the texts, the sheets, the two books -/
def isG (g : Nat) : Prop := g = 6 ∨ g = 18 ∨ g = 30
theorem pG_0 {g : Nat} (h : isG g) : SyC.1[g]? = some (2, 0) := by rcases h with rfl | rfl | rfl <;> rfl
theorem pG_1 {g : Nat} (h : isG g) : SyC.1[g + 1]? = some (20, 64) := by rcases h with rfl | rfl | rfl <;> rfl
theorem pG_2 {g : Nat} (h : isG g) : SyC.1[g + 2]? = some (20, 64) := by rcases h with rfl | rfl | rfl <;> rfl
theorem pG_3 {g : Nat} (h : isG g) : SyC.1[g + 3]? = some (20, 64) := by rcases h with rfl | rfl | rfl <;> rfl
theorem pG_4 {g : Nat} (h : isG g) : SyC.1[g + 4]? = some (20, 64) := by rcases h with rfl | rfl | rfl <;> rfl
theorem pG_5 {g : Nat} (h : isG g) : SyC.1[g + 5]? = some (20, 4) := by rcases h with rfl | rfl | rfl <;> rfl
theorem pG_6 {g : Nat} (h : isG g) : SyC.1[g + 6]? = some (20, 4) := by rcases h with rfl | rfl | rfl <;> rfl
theorem pG_7 {g : Nat} (h : isG g) : SyC.1[g + 7]? = some (20, 6) := by rcases h with rfl | rfl | rfl <;> rfl
theorem pG_8 {g : Nat} (h : isG g) : SyC.1[g + 8]? = some (20, 14) := by rcases h with rfl | rfl | rfl <;> rfl
theorem pG_9 {g : Nat} (h : isG g) : SyC.1[g + 9]? = some (21, 14) := by rcases h with rfl | rfl | rfl <;> rfl
theorem pG_10 {g : Nat} (h : isG g) : SyC.1[g + 10]? = some (20, 64) := by rcases h with rfl | rfl | rfl <;> rfl
theorem pG_11 {g : Nat} (h : isG g) : SyC.1[g + 11]? = some (20, 64) := by rcases h with rfl | rfl | rfl <;> rfl
theorem rG_0 {g : Nat} (h : isG g) : SyC.2 g 0 = some (1) := by rcases h with rfl | rfl | rfl <;> rfl
theorem rG_5 {g : Nat} (h : isG g) : SyC.2 g 5 = some (g + 1) := by rcases h with rfl | rfl | rfl <;> rfl
theorem rG_6 {g : Nat} (h : isG g) : SyC.2 g 6 = some (g + 2) := by rcases h with rfl | rfl | rfl <;> rfl
theorem rG_7 {g : Nat} (h : isG g) : SyC.2 g 7 = some (g + 3) := by rcases h with rfl | rfl | rfl <;> rfl
theorem rG_8 {g : Nat} (h : isG g) : SyC.2 g 8 = some (g + 4) := by rcases h with rfl | rfl | rfl <;> rfl
theorem rG_9 {g : Nat} (h : isG g) : SyC.2 g 9 = some (g + 5) := by rcases h with rfl | rfl | rfl <;> rfl
theorem rG_10 {g : Nat} (h : isG g) : SyC.2 g 10 = some (g + 6) := by rcases h with rfl | rfl | rfl <;> rfl
theorem rG_11 {g : Nat} (h : isG g) : SyC.2 g 11 = some (g + 7) := by rcases h with rfl | rfl | rfl <;> rfl
theorem rG_12 {g : Nat} (h : isG g) : SyC.2 g 12 = some (g + 8) := by rcases h with rfl | rfl | rfl <;> rfl
theorem rG_13 {g : Nat} (h : isG g) : SyC.2 g 13 = some (g + 9) := by rcases h with rfl | rfl | rfl <;> rfl
theorem rG_14 {g : Nat} (h : isG g) : SyC.2 g 14 = some (g + 10) := by rcases h with rfl | rfl | rfl <;> rfl
theorem rG_15 {g : Nat} (h : isG g) : SyC.2 g 15 = some (g + 11) := by rcases h with rfl | rfl | rfl <;> rfl
theorem oG {g : Nat} (h : isG g) : IsO SyC g RX2 := by
  rcases h with rfl | rfl | rfl
  · exact oC_6
  · exact oC_18
  · exact oC_30
def isT (k : Nat) : Prop := k = 74 ∨ k = 78 ∨ k = 81 ∨ k = 84 ∨ k = 87 ∨ k = 90 ∨ k = 93
theorem pT_0 {k : Nat} (h : isT k) : SyC.1[k]? = some (8, 0) := by rcases h with rfl | rfl | rfl | rfl | rfl | rfl | rfl <;> rfl
theorem pT_1 {k : Nat} (h : isT k) : SyC.1[k + 1]? = some (20, 160) := by rcases h with rfl | rfl | rfl | rfl | rfl | rfl | rfl <;> rfl
theorem pT_2 {k : Nat} (h : isT k) : SyC.1[k + 2]? = some (20, 3) := by rcases h with rfl | rfl | rfl | rfl | rfl | rfl | rfl <;> rfl
theorem rT_1 {k : Nat} (h : isT k) : SyC.2 k 1 = some (k + 1) := by rcases h with rfl | rfl | rfl | rfl | rfl | rfl | rfl <;> rfl
theorem rT_2 {k : Nat} (h : isT k) : SyC.2 k 2 = some (k + 2) := by rcases h with rfl | rfl | rfl | rfl | rfl | rfl | rfl <;> rfl
theorem oT {k : Nat} (h : isT k) : IsO SyC k RX8 := by
  rcases h with rfl | rfl | rfl | rfl | rfl | rfl | rfl
  · exact oC_74
  · exact oC_78
  · exact oC_81
  · exact oC_84
  · exact oC_87
  · exact oC_90
  · exact oC_93
def isS (k : Nat) : Prop := k = 99 ∨ k = 101 ∨ k = 103 ∨ k = 105
theorem pS_0 {k : Nat} (h : isS k) : SyC.1[k]? = some (5, 0) := by rcases h with rfl | rfl | rfl | rfl <;> rfl
theorem pS_1 {k : Nat} (h : isS k) : SyC.1[k + 1]? = some (20, 40) := by rcases h with rfl | rfl | rfl | rfl <;> rfl
theorem rS_2 {k : Nat} (h : isS k) : SyC.2 k 2 = some (k + 1) := by rcases h with rfl | rfl | rfl | rfl <;> rfl
theorem oS {k : Nat} (h : isS k) : IsO SyC k RX5 := by
  rcases h with rfl | rfl | rfl | rfl
  · exact oC_99
  · exact oC_101
  · exact oC_103
  · exact oC_105
def isB (k : Nat) : Prop := k = 49 ∨ k = 53
theorem pB_0 {k : Nat} (h : isB k) : SyC.1[k]? = some (9, 0) := by rcases h with rfl | rfl <;> rfl
theorem rB_1 {k : Nat} (h : isB k) : SyC.2 k 1 = some (k + 1) := by rcases h with rfl | rfl <;> rfl
theorem rB_2 {k : Nat} (h : isB k) : SyC.2 k 2 = some (k + 2) := by rcases h with rfl | rfl <;> rfl
theorem rB_3 {k : Nat} (h : isB k) : SyC.2 k 3 = some (k + 3) := by rcases h with rfl | rfl <;> rfl
theorem oB {k : Nat} (h : isB k) : IsO SyC k RX9 := by
  rcases h with rfl | rfl
  · exact oC_49
  · exact oC_53

theorem lt_n {h N : Nat} (a : nI h < nI N) (hh : h < 2 ^ 31) (hN : N < 2 ^ 31) : h < N := (nI_ltI hh hN).mp a
theorem ge_n {h N : Nat} (a : ¬ nI h < nI N) (hN : N < 2 ^ 31) : N ≤ h := Nat.le_of_not_lt (fun q => a (nI_lt q hN))
def tX10_within : List (Nat × Instr × Nat) := [(0, .iload_n 0, 1), (1, .iload_n 1, 1), (2, .if_icmp .lt 12, 3), (5, .iload_n 0, 1), (6, .iload_n 2, 1), (7, .if_icmp .gt 7, 3), (10, .iconst 1, 1), (11, .goto 4, 3), (14, .iconst 0, 1), (15, .ireturn, 1)]
theorem dtX10_within : dec_ok mX10_within.2.1 tX10_within = true := by decide +kernel
set_option maxHeartbeats 4000000 in
theorem c_X10_within {I : Wd} {v lo hi : Int32} : Cal SyC mX10_within 0 [.int v, .int lo, .int hi] I (some (.int (bi (inR v lo hi)))) I := by
  refine Cal.of (by decide) (Nat.le_of_ble_eq_true rfl) ?_
  show Bd _ _ _ _ [(0, _), (1, _), (2, _)] _ _ _ _
  refine b_iload_n (pc := 0) (i := 0) (dd dtX10_within 0 rfl) rfl rfl ?_
  refine b_iload_n (pc := 1) (i := 1) (dd dtX10_within 1 rfl) rfl rfl ?_
  refine b_icmp_lt (pc := 2) (tgt := 14) (dd dtX10_within 2 rfl) (by decide) (fun h2 => ?_) (fun h2 => ?_)
  · refine b_ic0 (pc := 14) (dd dtX10_within 8 rfl) ?_
    refine b_eq (b_zret (dd dtX10_within 9 rfl) rfl (by first | rfl | exact nar_bi)) ?_ ?_
    · simp_all [bi]
    · rfl
  · refine b_iload_n (pc := 5) (i := 0) (dd dtX10_within 3 rfl) rfl rfl ?_
    refine b_iload_n (pc := 6) (i := 2) (dd dtX10_within 4 rfl) rfl rfl ?_
    refine b_icmp_gt (pc := 7) (tgt := 14) (dd dtX10_within 5 rfl) (by decide) (fun h7 => ?_) (fun h7 => ?_)
    · refine b_ic0 (pc := 14) (dd dtX10_within 8 rfl) ?_
      refine b_eq (b_zret (dd dtX10_within 9 rfl) rfl (by first | rfl | exact nar_bi)) ?_ ?_
      · simp_all [bi]
      · rfl
    · refine b_ic1 (pc := 10) (dd dtX10_within 6 rfl) ?_
      refine b_goto (pc := 11) (tgt := 15) (dd dtX10_within 7 rfl) (by decide) ?_
      refine b_eq (b_zret (dd dtX10_within 9 rfl) rfl (by first | rfl | exact nar_bi)) ?_ ?_
      · simp_all [bi]
      · rfl
def tX10_isCell : List (Nat × Instr × Nat) := [(0, .iload_n 0, 1), (1, .iconst 0, 1), (2, .bipush 63, 2), (4, .invokestatic 97, 3), (7, .ireturn, 1)]
theorem dtX10_isCell : dec_ok mX10_isCell.2.1 tX10_isCell = true := by decide +kernel
set_option maxHeartbeats 4000000 in
theorem c_X10_isCell {I : Wd} {c : Int32} : Cal SyC mX10_isCell 1 [.int c] I (some (.int (bi (inR c 0 63)))) I := by
  refine Cal.of (by decide) (Nat.le_of_ble_eq_true rfl) ?_
  show Bd _ _ _ _ [(0, _)] _ _ _ _
  refine b_iload_n (pc := 0) (i := 0) (dd dtX10_isCell 0 rfl) rfl rfl ?_
  refine b_ic0 (pc := 1) (dd dtX10_isCell 1 rfl) ?_
  refine b_bipush (pc := 2) (v := 63) (dd dtX10_isCell 2 rfl) (by decide) ?_
  refine b_invS (pc := 4) (dd dtX10_isCell 3 rfl) mlX10_97 mvX10_within msX10_within (c_X10_within) rfl rfl (by decide) (Nat.le_of_ble_eq_true rfl) ?_
  exact b_eq (b_zret (dd dtX10_isCell 4 rfl) rfl (by first | rfl | exact nar_bi)) rfl rfl
def tX10_isSheet : List (Nat × Instr × Nat) := [(0, .iload_n 0, 1), (1, .iconst 0, 1), (2, .iconst 3, 1), (3, .invokestatic 97, 3), (6, .ireturn, 1)]
theorem dtX10_isSheet : dec_ok mX10_isSheet.2.1 tX10_isSheet = true := by decide +kernel
set_option maxHeartbeats 4000000 in
theorem c_X10_isSheet {I : Wd} {c : Int32} : Cal SyC mX10_isSheet 1 [.int c] I (some (.int (bi (inR c 0 3)))) I := by
  refine Cal.of (by decide) (Nat.le_of_ble_eq_true rfl) ?_
  show Bd _ _ _ _ [(0, _)] _ _ _ _
  refine b_iload_n (pc := 0) (i := 0) (dd dtX10_isSheet 0 rfl) rfl rfl ?_
  refine b_ic0 (pc := 1) (dd dtX10_isSheet 1 rfl) ?_
  refine b_ic3 (pc := 2) (dd dtX10_isSheet 2 rfl) ?_
  refine b_invS (pc := 3) (dd dtX10_isSheet 3 rfl) mlX10_97 mvX10_within msX10_within (c_X10_within) rfl rfl (by decide) (Nat.le_of_ble_eq_true rfl) ?_
  exact b_eq (b_zret (dd dtX10_isSheet 4 rfl) rfl (by first | rfl | exact nar_bi)) rfl rfl
def tX10_isHouse : List (Nat × Instr × Nat) := [(0, .iload_n 1, 1), (1, .iconst 0, 1), (2, .aload_n 0, 1), (3, .getfield 10, 3), (6, .getfield 111, 3), (9, .iconst 1, 1), (10, .isub, 1), (11, .invokestatic 97, 3), (14, .ireturn, 1)]
theorem dtX10_isHouse : dec_ok mX10_isHouse.2.1 tX10_isHouse = true := by decide +kernel
set_option maxHeartbeats 4000000 in
theorem c_X10_isHouse {I : Wd} {c : Int32} : Cal SyC mX10_isHouse 1 [.ref 0, .int c] I (some (.int (bi (inR c 0 (I 1 0 - 1))))) I := by
  refine Cal.of (by decide) (Nat.le_of_ble_eq_true rfl) ?_
  show Bd _ _ _ _ [(0, _), (1, _)] _ _ _ _
  refine b_iload_n (pc := 0) (i := 1) (dd dtX10_isHouse 0 rfl) rfl rfl ?_
  refine b_ic0 (pc := 1) (dd dtX10_isHouse 1 rfl) ?_
  refine b_aload_n (pc := 2) (i := 0) (dd dtX10_isHouse 2 rfl) rfl rfl ?_
  refine b_geta (pc := 3) (dd dtX10_isHouse 3 rfl) fwX10_10 pC_0 rC_0_0 ?_
  refine b_geti (pc := 6) (dd dtX10_isHouse 4 rfl) fwX10_111 pC_1 ?_
  refine b_ic1 (pc := 9) (dd dtX10_isHouse 5 rfl) ?_
  refine b_isub (pc := 10) (dd dtX10_isHouse 6 rfl) ?_
  refine b_invS (pc := 11) (dd dtX10_isHouse 7 rfl) mlX10_97 mvX10_within msX10_within (c_X10_within) rfl rfl (by decide) (Nat.le_of_ble_eq_true rfl) ?_
  exact b_eq (b_zret (dd dtX10_isHouse 8 rfl) rfl (by first | rfl | exact nar_bi)) rfl rfl
def tX10_isSign : List (Nat × Instr × Nat) := [(0, .iload_n 1, 1), (1, .iconst 0, 1), (2, .aload_n 0, 1), (3, .getfield 38, 3), (6, .getfield 153, 3), (9, .iconst 1, 1), (10, .isub, 1), (11, .invokestatic 97, 3), (14, .ireturn, 1)]
theorem dtX10_isSign : dec_ok mX10_isSign.2.1 tX10_isSign = true := by decide +kernel
set_option maxHeartbeats 4000000 in
theorem c_X10_isSign {I : Wd} {c : Int32} : Cal SyC mX10_isSign 1 [.ref 0, .int c] I (some (.int (bi (inR c 0 (I 42 0 - 1))))) I := by
  refine Cal.of (by decide) (Nat.le_of_ble_eq_true rfl) ?_
  show Bd _ _ _ _ [(0, _), (1, _)] _ _ _ _
  refine b_iload_n (pc := 0) (i := 1) (dd dtX10_isSign 0 rfl) rfl rfl ?_
  refine b_ic0 (pc := 1) (dd dtX10_isSign 1 rfl) ?_
  refine b_aload_n (pc := 2) (i := 0) (dd dtX10_isSign 2 rfl) rfl rfl ?_
  refine b_geta (pc := 3) (dd dtX10_isSign 3 rfl) fwX10_38 pC_0 rC_0_5 ?_
  refine b_geti (pc := 6) (dd dtX10_isSign 4 rfl) fwX10_153 pC_42 ?_
  refine b_ic1 (pc := 9) (dd dtX10_isSign 5 rfl) ?_
  refine b_isub (pc := 10) (dd dtX10_isSign 6 rfl) ?_
  refine b_invS (pc := 11) (dd dtX10_isSign 7 rfl) mlX10_97 mvX10_within msX10_within (c_X10_within) rfl rfl (by decide) (Nat.le_of_ble_eq_true rfl) ?_
  exact b_eq (b_zret (dd dtX10_isSign 8 rfl) rfl (by first | rfl | exact nar_bi)) rfl rfl
def tX10_isKnown : List (Nat × Instr × Nat) := [(0, .iload_n 1, 1), (1, .iconst 0, 1), (2, .aload_n 0, 1), (3, .getfield 21, 3), (6, .getfield 150, 3), (9, .invokestatic 97, 3), (12, .ireturn, 1)]
theorem dtX10_isKnown : dec_ok mX10_isKnown.2.1 tX10_isKnown = true := by decide +kernel
set_option maxHeartbeats 4000000 in
theorem c_X10_isKnown {I : Wd} {c : Int32} : Cal SyC mX10_isKnown 1 [.ref 0, .int c] I (some (.int (bi (inR c 0 (I 6 1))))) I := by
  refine Cal.of (by decide) (Nat.le_of_ble_eq_true rfl) ?_
  show Bd _ _ _ _ [(0, _), (1, _)] _ _ _ _
  refine b_iload_n (pc := 0) (i := 1) (dd dtX10_isKnown 0 rfl) rfl rfl ?_
  refine b_ic0 (pc := 1) (dd dtX10_isKnown 1 rfl) ?_
  refine b_aload_n (pc := 2) (i := 0) (dd dtX10_isKnown 2 rfl) rfl rfl ?_
  refine b_geta (pc := 3) (dd dtX10_isKnown 3 rfl) fwX10_21 pC_0 rC_0_1 ?_
  refine b_geti (pc := 6) (dd dtX10_isKnown 4 rfl) fwX10_150 pC_6 ?_
  refine b_invS (pc := 9) (dd dtX10_isKnown 5 rfl) mlX10_97 mvX10_within msX10_within (c_X10_within) rfl rfl (by decide) (Nat.le_of_ble_eq_true rfl) ?_
  exact b_eq (b_zret (dd dtX10_isKnown 6 rfl) rfl (by first | rfl | exact nar_bi)) rfl rfl
def tX10_monthsAreLeft : List (Nat × Instr × Nat) := [(0, .iload_n 1, 1), (1, .sipush 1200, 3), (4, .aload_n 0, 1), (5, .getfield 21, 3), (8, .getfield 150, 3), (11, .isub, 1), (12, .if_icmp .gt 7, 3), (15, .iconst 1, 1), (16, .goto 4, 3), (19, .iconst 0, 1), (20, .ireturn, 1)]
theorem dtX10_monthsAreLeft : dec_ok mX10_monthsAreLeft.2.1 tX10_monthsAreLeft = true := by decide +kernel
set_option maxHeartbeats 4000000 in
theorem c_X10_monthsAreLeft {I : Wd} {n : Int32} : Cal SyC mX10_monthsAreLeft 0 [.ref 0, .int n] I (some (.int (bi (¬ 1200 - I 6 1 < n)))) I := by
  refine Cal.of (by decide) (Nat.le_of_ble_eq_true rfl) ?_
  show Bd _ _ _ _ [(0, _), (1, _)] _ _ _ _
  refine b_iload_n (pc := 0) (i := 1) (dd dtX10_monthsAreLeft 0 rfl) rfl rfl ?_
  refine b_sipush (pc := 1) (v := 1200) (dd dtX10_monthsAreLeft 1 rfl) (by decide) ?_
  refine b_aload_n (pc := 4) (i := 0) (dd dtX10_monthsAreLeft 2 rfl) rfl rfl ?_
  refine b_geta (pc := 5) (dd dtX10_monthsAreLeft 3 rfl) fwX10_21 pC_0 rC_0_1 ?_
  refine b_geti (pc := 8) (dd dtX10_monthsAreLeft 4 rfl) fwX10_150 pC_6 ?_
  refine b_isub (pc := 11) (dd dtX10_monthsAreLeft 5 rfl) ?_
  refine b_icmp_gt (pc := 12) (tgt := 19) (dd dtX10_monthsAreLeft 6 rfl) (by decide) (fun h12 => ?_) (fun h12 => ?_)
  · refine b_ic0 (pc := 19) (dd dtX10_monthsAreLeft 9 rfl) ?_
    refine b_eq (b_zret (dd dtX10_monthsAreLeft 10 rfl) rfl (by first | rfl | exact nar_bi)) ?_ ?_
    · simp_all [bi]
    · rfl
  · refine b_ic1 (pc := 15) (dd dtX10_monthsAreLeft 7 rfl) ?_
    refine b_goto (pc := 16) (tgt := 20) (dd dtX10_monthsAreLeft 8 rfl) (by decide) ?_
    refine b_eq (b_zret (dd dtX10_monthsAreLeft 10 rfl) rfl (by first | rfl | exact nar_bi)) ?_ ?_
    · simp_all [bi]
    · rfl
def tX2_hasFallen : List (Nat × Instr × Nat) := [(0, .aload_n 0, 1), (1, .getfield 34, 3), (4, .iload_n 1, 1), (5, .iaload, 1), (6, .ifCond .lt 7, 3), (9, .iconst 1, 1), (10, .goto 4, 3), (13, .iconst 0, 1), (14, .ireturn, 1)]
theorem dtX2_hasFallen : dec_ok mX2_hasFallen.2.1 tX2_hasFallen = true := by decide +kernel
set_option maxHeartbeats 4000000 in
theorem c_X2_hasFallen {I : Wd} {g : Nat} (hg : isG g) {c : Int32} (hc : vp_in c 64) : Cal SyC mX2_hasFallen 0 [.ref g, .int c] I (some (.int (bi (¬ I (g + 4) c.toNatClampNeg < 0)))) I := by
  refine Cal.of (by decide) (Nat.le_of_ble_eq_true rfl) ?_
  show Bd _ _ _ _ [(0, _), (1, _)] _ _ _ _
  refine b_aload_n (pc := 0) (i := 0) (dd dtX2_hasFallen 0 rfl) rfl rfl ?_
  refine b_geta (pc := 1) (dd dtX2_hasFallen 1 rfl) fwX2_34 (pG_0 hg) (rG_8 hg) ?_
  refine b_iload_n (pc := 4) (i := 1) (dd dtX2_hasFallen 2 rfl) rfl rfl ?_
  refine b_iald (pc := 5) (dd dtX2_hasFallen 3 rfl) (pG_4 hg) (by assumption) ?_
  refine b_if_lt (pc := 6) (tgt := 13) (dd dtX2_hasFallen 4 rfl) (by decide) (fun h6 => ?_) (fun h6 => ?_)
  · refine b_ic0 (pc := 13) (dd dtX2_hasFallen 7 rfl) ?_
    refine b_eq (b_zret (dd dtX2_hasFallen 8 rfl) rfl (by first | rfl | exact nar_bi)) ?_ ?_
    · simp_all [bi]
    · rfl
  · refine b_ic1 (pc := 9) (dd dtX2_hasFallen 5 rfl) ?_
    refine b_goto (pc := 10) (tgt := 14) (dd dtX2_hasFallen 6 rfl) (by decide) ?_
    refine b_eq (b_zret (dd dtX2_hasFallen 8 rfl) rfl (by first | rfl | exact nar_bi)) ?_ ?_
    · simp_all [bi]
    · rfl

/-- people of the first n houses that are in cell c, stand, and whose people are there -/
def sPeople (hc gone away ppl : Nat → Int32) (c : Int32) : Nat → Int32
  | 0 => 0
  | n + 1 => if hc n = c ∧ gone n < 0 ∧ away n = 0 then sPeople hc gone away ppl c n + ppl n else sPeople hc gone away ppl c n
def tX2_peopleAt : List (Nat × Instr × Nat) := [(0, .iconst 0, 1), (1, .istore_n 2, 1), (2, .iconst 0, 1), (3, .istore_n 3, 1), (4, .iload_n 3, 1), (5, .aload_n 0, 1), (6, .getfield 59, 3), (9, .getfield 69, 3), (12, .if_icmp .ge 52, 3), (15, .aload_n 0, 1), (16, .getfield 59, 3), (19, .getfield 74, 3), (22, .iload_n 3, 1), (23, .iaload, 1), (24, .iload_n 1, 1), (25, .if_icmp .ne 33, 3), (28, .aload_n 0, 1), (29, .getfield 46, 3), (32, .iload_n 3, 1), (33, .iaload, 1), (34, .ifCond .ge 24, 3), (37, .aload_n 0, 1), (38, .getfield 49, 3), (41, .iload_n 3, 1), (42, .baload, 1), (43, .ifCond .ne 15, 3), (46, .iload_n 2, 1), (47, .aload_n 0, 1), (48, .getfield 59, 3), (51, .getfield 77, 3), (54, .iload_n 3, 1), (55, .iaload, 1), (56, .iadd, 1), (57, .istore_n 2, 1), (58, .iinc 3 1, 3), (61, .goto (-57), 3), (64, .iload_n 2, 1), (65, .ireturn, 1)]
theorem dtX2_peopleAt : dec_ok mX2_peopleAt.2.1 tX2_peopleAt = true := by decide +kernel
set_option maxHeartbeats 4000000 in
theorem l_X2_peopleAt {I : Wd} {g N : Nat} (hg : isG g) {c : Int32} (hN : I 1 0 = nI N) (hN2 : N ≤ 14) : ∀ (n h : Nat) (x2 x3 : Int32), h ≤ N → N < h + n → x3 = nI h → x2 = (sPeople (I 2) (I (g + 8)) (I (g + 9)) (I 4) c h) → Bd SyC mX2_peopleAt 0 4 [(3, .int x3), (2, .int x2), (0, .ref g), (1, .int c)] [] I (some (.int (sPeople (I 2) (I (g + 8)) (I (g + 9)) (I 4) c N))) I := by
  intro n
  induction n with
  | zero => intro h x2 x3 h1 h2; omega
  | succ n ih =>
    intro h x2 x3 h1 h2 ex3 ex2
    subst ex3; subst ex2
    refine b_iload_n (pc := 4) (i := 3) (dd dtX2_peopleAt 4 rfl) rfl rfl ?_
    refine b_aload_n (pc := 5) (i := 0) (dd dtX2_peopleAt 5 rfl) rfl rfl ?_
    refine b_geta (pc := 6) (dd dtX2_peopleAt 6 rfl) fwX2_59 (pG_0 hg) (rG_0 hg) ?_
    refine b_geti (pc := 9) (dd dtX2_peopleAt 7 rfl) fwX2_69 pC_1 ?_
    refine b_icmpL_ge (pc := 12) (tgt := 64) (dd dtX2_peopleAt 8 rfl) (by decide) (fun h12 => ?_) (fun h12 => ?_)
    · rw [hN] at h12
      have he : h = N := Nat.le_antisymm h1 (ge_n h12 (by omega))
      subst he
      refine b_iload_n (pc := 64) (i := 2) (dd dtX2_peopleAt 36 rfl) rfl rfl ?_
      exact b_eq (b_iret (dd dtX2_peopleAt 37 rfl) rfl) rfl rfl
    · rw [hN] at h12
      have hlt := lt_n h12 (by omega) (by omega)
      refine b_aload_n (pc := 15) (i := 0) (dd dtX2_peopleAt 9 rfl) rfl rfl ?_
      refine b_geta (pc := 16) (dd dtX2_peopleAt 10 rfl) fwX2_59 (pG_0 hg) (rG_0 hg) ?_
      refine b_geta (pc := 19) (dd dtX2_peopleAt 11 rfl) fwX2_74 pC_1 rC_1_2 ?_
      refine b_iload_n (pc := 22) (i := 3) (dd dtX2_peopleAt 12 rfl) rfl rfl ?_
      refine b_iald (pc := 23) (dd dtX2_peopleAt 13 rfl) pC_2 (vpn rfl (show h < 14 by omega) (by decide)) ?_
      refine b_iload_n (pc := 24) (i := 1) (dd dtX2_peopleAt 14 rfl) rfl rfl ?_
      refine b_icmp_ne (pc := 25) (tgt := 58) (dd dtX2_peopleAt 15 rfl) (by decide) (fun h25 => ?_) (fun h25 => ?_)
      · refine b_iinc1 (pc := 58) (i := 3) (lv' := [(3, _), (2, _), (0, _), (1, _)]) (dd dtX2_peopleAt 34 rfl) rfl (Nat.le_of_ble_eq_true rfl) rfl ?_
        refine b_goto (pc := 61) (tgt := 4) (dd dtX2_peopleAt 35 rfl) (by decide) ?_
        rw [nI_1]
        refine ih (h + 1) _ _ hlt (by omega) rfl ?_
        simp only [nI_clamp (show h < 2 ^ 31 by omega)] at *
        simp [sPeople, -Int32.not_lt, -Int32.not_le, *]
      · refine b_aload_n (pc := 28) (i := 0) (dd dtX2_peopleAt 16 rfl) rfl rfl ?_
        refine b_geta (pc := 29) (dd dtX2_peopleAt 17 rfl) fwX2_46 (pG_0 hg) (rG_12 hg) ?_
        refine b_iload_n (pc := 32) (i := 3) (dd dtX2_peopleAt 18 rfl) rfl rfl ?_
        refine b_iald (pc := 33) (dd dtX2_peopleAt 19 rfl) (pG_8 hg) (vpn rfl (show h < 14 by omega) (by decide)) ?_
        refine b_ifL_ge (pc := 34) (tgt := 58) (dd dtX2_peopleAt 20 rfl) (by decide) (fun h34 => ?_) (fun h34 => ?_)
        · refine b_iinc1 (pc := 58) (i := 3) (lv' := [(3, _), (2, _), (0, _), (1, _)]) (dd dtX2_peopleAt 34 rfl) rfl (Nat.le_of_ble_eq_true rfl) rfl ?_
          refine b_goto (pc := 61) (tgt := 4) (dd dtX2_peopleAt 35 rfl) (by decide) ?_
          rw [nI_1]
          refine ih (h + 1) _ _ hlt (by omega) rfl ?_
          simp only [nI_clamp (show h < 2 ^ 31 by omega)] at *
          simp [sPeople, -Int32.not_lt, -Int32.not_le, *]
        · refine b_aload_n (pc := 37) (i := 0) (dd dtX2_peopleAt 21 rfl) rfl rfl ?_
          refine b_geta (pc := 38) (dd dtX2_peopleAt 22 rfl) fwX2_49 (pG_0 hg) (rG_13 hg) ?_
          refine b_iload_n (pc := 41) (i := 3) (dd dtX2_peopleAt 23 rfl) rfl rfl ?_
          refine b_zald (pc := 42) (dd dtX2_peopleAt 24 rfl) (pG_9 hg) (vpn rfl (show h < 14 by omega) (by decide)) ?_
          refine b_if_ne (pc := 43) (tgt := 58) (dd dtX2_peopleAt 25 rfl) (by decide) (fun h43 => ?_) (fun h43 => ?_)
          · refine b_iinc1 (pc := 58) (i := 3) (lv' := [(3, _), (2, _), (0, _), (1, _)]) (dd dtX2_peopleAt 34 rfl) rfl (Nat.le_of_ble_eq_true rfl) rfl ?_
            refine b_goto (pc := 61) (tgt := 4) (dd dtX2_peopleAt 35 rfl) (by decide) ?_
            rw [nI_1]
            refine ih (h + 1) _ _ hlt (by omega) rfl ?_
            simp only [nI_clamp (show h < 2 ^ 31 by omega)] at *
            simp [sPeople, -Int32.not_lt, -Int32.not_le, *]
          · refine b_iload_n (pc := 46) (i := 2) (dd dtX2_peopleAt 26 rfl) rfl rfl ?_
            refine b_aload_n (pc := 47) (i := 0) (dd dtX2_peopleAt 27 rfl) rfl rfl ?_
            refine b_geta (pc := 48) (dd dtX2_peopleAt 28 rfl) fwX2_59 (pG_0 hg) (rG_0 hg) ?_
            refine b_geta (pc := 51) (dd dtX2_peopleAt 29 rfl) fwX2_77 pC_1 rC_1_4 ?_
            refine b_iload_n (pc := 54) (i := 3) (dd dtX2_peopleAt 30 rfl) rfl rfl ?_
            refine b_iald (pc := 55) (dd dtX2_peopleAt 31 rfl) pC_4 (vpn rfl (show h < 14 by omega) (by decide)) ?_
            refine b_iadd (pc := 56) (dd dtX2_peopleAt 32 rfl) ?_
            refine b_istore_n (pc := 57) (i := 2) (lv' := [(2, _), (3, _), (0, _), (1, _)]) (dd dtX2_peopleAt 33 rfl) rfl (Nat.le_of_ble_eq_true rfl) rfl ?_
            refine b_iinc1 (pc := 58) (i := 3) (lv' := [(3, _), (2, _), (0, _), (1, _)]) (dd dtX2_peopleAt 34 rfl) rfl (Nat.le_of_ble_eq_true rfl) rfl ?_
            refine b_goto (pc := 61) (tgt := 4) (dd dtX2_peopleAt 35 rfl) (by decide) ?_
            rw [nI_1]
            refine ih (h + 1) _ _ hlt (by omega) rfl ?_
            simp only [nI_clamp (show h < 2 ^ 31 by omega)] at *
            simp [sPeople, -Int32.not_lt, -Int32.not_le, *]
set_option maxHeartbeats 4000000 in
theorem c_X2_peopleAt {I : Wd} {g N : Nat} (hg : isG g) {c : Int32} (hN : I 1 0 = nI N) (hN2 : N ≤ 14) : Cal SyC mX2_peopleAt 0 [.ref g, .int c] I (some (.int (sPeople (I 2) (I (g + 8)) (I (g + 9)) (I 4) c N))) I := by
  refine Cal.of (by decide) (Nat.le_of_ble_eq_true rfl) ?_
  show Bd _ _ _ _ [(0, _), (1, _)] _ _ _ _
  refine b_ic0 (pc := 0) (dd dtX2_peopleAt 0 rfl) ?_
  refine b_istore_n (pc := 1) (i := 2) (lv' := [(2, _), (0, _), (1, _)]) (dd dtX2_peopleAt 1 rfl) rfl (Nat.le_of_ble_eq_true rfl) rfl ?_
  refine b_ic0 (pc := 2) (dd dtX2_peopleAt 2 rfl) ?_
  refine b_istore_n (pc := 3) (i := 3) (lv' := [(3, _), (2, _), (0, _), (1, _)]) (dd dtX2_peopleAt 3 rfl) rfl (Nat.le_of_ble_eq_true rfl) rfl ?_
  exact l_X2_peopleAt hg hN hN2 (N + 1) 0 _ _ (Nat.zero_le _) (by omega) rfl rfl
end
section
/-! reading a world that was written -/
theorem ist_eq {I : Wd} {k j : Nat} {v : Int32} : ist I k j v k = upd (I k) j v := by simp [ist, rset]
theorem ist_ne {I : Wd} {k j a : Nat} {v : Int32} (h : a ≠ k) : ist I k j v a = I a := by simp [ist, rset, h]
theorem rset_eq {I : Wd} {k : Nat} {f : Nat → Int32} : rset I k f k = f := by simp [rset]
theorem rset_ne {I : Wd} {k a : Nat} {f : Nat → Int32} (h : a ≠ k) : rset I k f a = I a := by simp [rset, h]
theorem upd_eq {f : Nat → Int32} {k : Nat} {x : Int32} : upd f k x k = x := by simp [upd]
theorem upd_ne {f : Nat → Int32} {k j : Nat} {x : Int32} (h : j ≠ k) : upd f k x j = f j := by simp [upd, h]
def tX0_addHouse : List (Nat × Instr × Nat) := [(0, .aload_n 0, 1), (1, .getfield 9, 3), (4, .bipush 14, 2), (6, .if_icmp .lt 6, 3), (9, .bipush (-4), 2), (11, .ireturn, 1), (12, .aload_n 0, 1), (13, .getfield 18, 3), (16, .aload_n 0, 1), (17, .getfield 9, 3), (20, .iload_n 1, 1), (21, .iastore, 1), (22, .aload_n 0, 1), (23, .getfield 22, 3), (26, .aload_n 0, 1), (27, .getfield 9, 3), (30, .iload_n 2, 1), (31, .iastore, 1), (32, .aload_n 0, 1), (33, .getfield 25, 3), (36, .aload_n 0, 1), (37, .getfield 9, 3), (40, .iload_n 3, 1), (41, .iastore, 1), (42, .aload_n 0, 1), (43, .dup, 1), (44, .getfield 9, 3), (47, .iconst 1, 1), (48, .iadd, 1), (49, .putfield 9, 3), (52, .aload_n 0, 1), (53, .getfield 9, 3), (56, .iconst 1, 1), (57, .isub, 1), (58, .ireturn, 1)]
theorem dtX0_addHouse : dec_ok mX0_addHouse.2.1 tX0_addHouse = true := by decide +kernel
set_option maxHeartbeats 4000000 in
theorem c_X0_addHouse {I : Wd} {N : Nat} {c w p : Int32} (hN : I 1 0 = nI N) (hN2 : N < 14) : Cal SyC mX0_addHouse 0 [.ref 1, .int c, .int w, .int p] I (some (.int (nI N))) (ist (ist (ist (ist I 2 N c) 3 N w) 4 N p) 1 0 (nI (N + 1))) := by
  refine Cal.of (by decide) (Nat.le_of_ble_eq_true rfl) ?_
  show Bd _ _ _ _ [(0, _), (1, _), (2, _), (3, _)] _ _ _ _
  refine b_aload_n (pc := 0) (i := 0) (dd dtX0_addHouse 0 rfl) rfl rfl ?_
  refine b_geti (pc := 1) (dd dtX0_addHouse 1 rfl) fwX0_9 pC_1 ?_
  refine b_bipush (pc := 4) (v := 14) (dd dtX0_addHouse 2 rfl) (by decide) ?_
  rw [hN]
  refine b_icmp_lt (pc := 6) (tgt := 12) (dd dtX0_addHouse 3 rfl) (by decide) (fun h6 => ?_) (fun h6 => ?_)
  · refine b_aload_n (pc := 12) (i := 0) (dd dtX0_addHouse 6 rfl) rfl rfl ?_
    refine b_geta (pc := 13) (dd dtX0_addHouse 7 rfl) fwX0_18 pC_1 rC_1_2 ?_
    refine b_aload_n (pc := 16) (i := 0) (dd dtX0_addHouse 8 rfl) rfl rfl ?_
    refine b_geti (pc := 17) (dd dtX0_addHouse 9 rfl) fwX0_9 pC_1 ?_
    refine b_iload_n (pc := 20) (i := 1) (dd dtX0_addHouse 10 rfl) rfl rfl ?_
    refine b_iast (pc := 21) (dd dtX0_addHouse 11 rfl) pC_2 (by simp only [ist_eq, ist_ne, upd_eq, upd_ne, ne_eq, Nat.reduceEqDiff, not_false_eq_true, hN]; exact vpn rfl hN2 (by decide)) ?_
    refine b_aload_n (pc := 22) (i := 0) (dd dtX0_addHouse 12 rfl) rfl rfl ?_
    refine b_geta (pc := 23) (dd dtX0_addHouse 13 rfl) fwX0_22 pC_1 rC_1_3 ?_
    refine b_aload_n (pc := 26) (i := 0) (dd dtX0_addHouse 14 rfl) rfl rfl ?_
    refine b_geti (pc := 27) (dd dtX0_addHouse 15 rfl) fwX0_9 pC_1 ?_
    refine b_iload_n (pc := 30) (i := 2) (dd dtX0_addHouse 16 rfl) rfl rfl ?_
    refine b_iast (pc := 31) (dd dtX0_addHouse 17 rfl) pC_3 (by simp only [ist_eq, ist_ne, upd_eq, upd_ne, ne_eq, Nat.reduceEqDiff, not_false_eq_true, hN]; exact vpn rfl hN2 (by decide)) ?_
    refine b_aload_n (pc := 32) (i := 0) (dd dtX0_addHouse 18 rfl) rfl rfl ?_
    refine b_geta (pc := 33) (dd dtX0_addHouse 19 rfl) fwX0_25 pC_1 rC_1_4 ?_
    refine b_aload_n (pc := 36) (i := 0) (dd dtX0_addHouse 20 rfl) rfl rfl ?_
    refine b_geti (pc := 37) (dd dtX0_addHouse 21 rfl) fwX0_9 pC_1 ?_
    refine b_iload_n (pc := 40) (i := 3) (dd dtX0_addHouse 22 rfl) rfl rfl ?_
    refine b_iast (pc := 41) (dd dtX0_addHouse 23 rfl) pC_4 (by simp only [ist_eq, ist_ne, upd_eq, upd_ne, ne_eq, Nat.reduceEqDiff, not_false_eq_true, hN]; exact vpn rfl hN2 (by decide)) ?_
    refine b_aload_n (pc := 42) (i := 0) (dd dtX0_addHouse 24 rfl) rfl rfl ?_
    refine b_dup (pc := 43) (dd dtX0_addHouse 25 rfl) rfl ?_
    refine b_geti (pc := 44) (dd dtX0_addHouse 26 rfl) fwX0_9 pC_1 ?_
    refine b_ic1 (pc := 47) (dd dtX0_addHouse 27 rfl) ?_
    refine b_iadd (pc := 48) (dd dtX0_addHouse 28 rfl) ?_
    refine b_puti (pc := 49) (dd dtX0_addHouse 29 rfl) fwX0_9 pC_1 ?_
    refine b_aload_n (pc := 52) (i := 0) (dd dtX0_addHouse 30 rfl) rfl rfl ?_
    refine b_geti (pc := 53) (dd dtX0_addHouse 31 rfl) fwX0_9 pC_1 ?_
    refine b_ic1 (pc := 56) (dd dtX0_addHouse 32 rfl) ?_
    refine b_isub (pc := 57) (dd dtX0_addHouse 33 rfl) ?_
    refine b_eq (b_iret (dd dtX0_addHouse 34 rfl) rfl) ?_ ?_
    · simp [ist_eq, ist_ne, upd_eq, upd_ne, hN, nI_1, nI_pred]
    · simp [ist_eq, ist_ne, upd_eq, upd_ne, hN, nI_1, nI_clamp (show N < 2 ^ 31 by omega)]
  · exact absurd (nI_lt hN2 (by decide)) h6
def tX0_addPump : List (Nat × Instr × Nat) := [(0, .aload_n 0, 1), (1, .getfield 15, 3), (4, .bipush 6, 2), (6, .if_icmp .lt 6, 3), (9, .bipush (-4), 2), (11, .ireturn, 1), (12, .aload_n 0, 1), (13, .getfield 28, 3), (16, .aload_n 0, 1), (17, .getfield 15, 3), (20, .iload_n 1, 1), (21, .iastore, 1), (22, .aload_n 0, 1), (23, .dup, 1), (24, .getfield 15, 3), (27, .iconst 1, 1), (28, .iadd, 1), (29, .putfield 15, 3), (32, .aload_n 0, 1), (33, .getfield 15, 3), (36, .iconst 1, 1), (37, .isub, 1), (38, .ireturn, 1)]
theorem dtX0_addPump : dec_ok mX0_addPump.2.1 tX0_addPump = true := by decide +kernel
set_option maxHeartbeats 4000000 in
theorem c_X0_addPump {I : Wd} {N : Nat} {c : Int32} (hN : I 1 1 = nI N) (hN2 : N < 6) : Cal SyC mX0_addPump 0 [.ref 1, .int c] I (some (.int (nI N))) (ist (ist I 5 N c) 1 1 (nI (N + 1))) := by
  refine Cal.of (by decide) (Nat.le_of_ble_eq_true rfl) ?_
  show Bd _ _ _ _ [(0, _), (1, _)] _ _ _ _
  refine b_aload_n (pc := 0) (i := 0) (dd dtX0_addPump 0 rfl) rfl rfl ?_
  refine b_geti (pc := 1) (dd dtX0_addPump 1 rfl) fwX0_15 pC_1 ?_
  refine b_bipush (pc := 4) (v := 6) (dd dtX0_addPump 2 rfl) (by decide) ?_
  rw [hN]
  refine b_icmp_lt (pc := 6) (tgt := 12) (dd dtX0_addPump 3 rfl) (by decide) (fun h6 => ?_) (fun h6 => ?_)
  · refine b_aload_n (pc := 12) (i := 0) (dd dtX0_addPump 6 rfl) rfl rfl ?_
    refine b_geta (pc := 13) (dd dtX0_addPump 7 rfl) fwX0_28 pC_1 rC_1_5 ?_
    refine b_aload_n (pc := 16) (i := 0) (dd dtX0_addPump 8 rfl) rfl rfl ?_
    refine b_geti (pc := 17) (dd dtX0_addPump 9 rfl) fwX0_15 pC_1 ?_
    refine b_iload_n (pc := 20) (i := 1) (dd dtX0_addPump 10 rfl) rfl rfl ?_
    refine b_iast (pc := 21) (dd dtX0_addPump 11 rfl) pC_5 (by simp only [ist_eq, ist_ne, upd_eq, upd_ne, ne_eq, Nat.reduceEqDiff, not_false_eq_true, hN]; exact vpn rfl hN2 (by decide)) ?_
    refine b_aload_n (pc := 22) (i := 0) (dd dtX0_addPump 12 rfl) rfl rfl ?_
    refine b_dup (pc := 23) (dd dtX0_addPump 13 rfl) rfl ?_
    refine b_geti (pc := 24) (dd dtX0_addPump 14 rfl) fwX0_15 pC_1 ?_
    refine b_ic1 (pc := 27) (dd dtX0_addPump 15 rfl) ?_
    refine b_iadd (pc := 28) (dd dtX0_addPump 16 rfl) ?_
    refine b_puti (pc := 29) (dd dtX0_addPump 17 rfl) fwX0_15 pC_1 ?_
    refine b_aload_n (pc := 32) (i := 0) (dd dtX0_addPump 18 rfl) rfl rfl ?_
    refine b_geti (pc := 33) (dd dtX0_addPump 19 rfl) fwX0_15 pC_1 ?_
    refine b_ic1 (pc := 36) (dd dtX0_addPump 20 rfl) ?_
    refine b_isub (pc := 37) (dd dtX0_addPump 21 rfl) ?_
    refine b_eq (b_iret (dd dtX0_addPump 22 rfl) rfl) ?_ ?_
    · simp [ist_eq, ist_ne, upd_eq, upd_ne, hN, nI_1, nI_pred]
    · simp [ist_eq, ist_ne, upd_eq, upd_ne, hN, nI_1, nI_clamp (show N < 2 ^ 31 by omega)]
  · exact absurd (nI_lt hN2 (by decide)) h6

def sVal (mm md vl : Nat → Int32) (known : Int32) (k : Nat) : Int32 := if ¬ mm k < 0 ∧ ¬ known < mm k then md k else vl k
def sSg (v : Int32) : Int32 := if 0 < v then 1 else 0
def sLk (v : Int32) : Int32 := if v - 15 < 0 then 0 else v - 15
def sLeast (kind v : Int32) : Int32 := if kind = 1 then 2 * v else if kind = 2 then sLk v else if kind = 3 then 2 * v / 4 else if kind = 4 then sLk v / 2 else if kind = 5 then 10 * sSg v else sSg v
def sMost (kind v : Int32) : Int32 := if kind = 2 then v + 15 else if kind = 4 then v + 15 + 25 else 200
def sTrust (kind : Int32) : Int32 := if kind = 2 ∨ kind = 4 then 8 else if kind = 3 then 5 else if kind = 5 then 3 else 10
def tX6_valueKnown : List (Nat × Instr × Nat) := [(0, .aload_n 0, 1), (1, .getfield 31, 3), (4, .iload_n 1, 1), (5, .iaload, 1), (6, .ifCond .lt 22, 3), (9, .aload_n 0, 1), (10, .getfield 31, 3), (13, .iload_n 1, 1), (14, .iaload, 1), (15, .iload_n 2, 1), (16, .if_icmp .gt 12, 3), (19, .aload_n 0, 1), (20, .getfield 28, 3), (23, .iload_n 1, 1), (24, .iaload, 1), (25, .goto 9, 3), (28, .aload_n 0, 1), (29, .getfield 22, 3), (32, .iload_n 1, 1), (33, .iaload, 1), (34, .ireturn, 1)]
theorem dtX6_valueKnown : dec_ok mX6_valueKnown.2.1 tX6_valueKnown = true := by decide +kernel
set_option maxHeartbeats 4000000 in
theorem c_X6_valueKnown {I : Wd} {k known : Int32} (hk : vp_in k 30) : Cal SyC mX6_valueKnown 0 [.ref 42, .int k, .int known] I (some (.int (sVal (I 48) (I 47) (I 45) known k.toNatClampNeg))) I := by
  refine Cal.of (by decide) (Nat.le_of_ble_eq_true rfl) ?_
  show Bd _ _ _ _ [(0, _), (1, _), (2, _)] _ _ _ _
  refine b_aload_n (pc := 0) (i := 0) (dd dtX6_valueKnown 0 rfl) rfl rfl ?_
  refine b_geta (pc := 1) (dd dtX6_valueKnown 1 rfl) fwX6_31 pC_42 rC_42_6 ?_
  refine b_iload_n (pc := 4) (i := 1) (dd dtX6_valueKnown 2 rfl) rfl rfl ?_
  refine b_iald (pc := 5) (dd dtX6_valueKnown 3 rfl) pC_48 (by assumption) ?_
  refine b_if_lt (pc := 6) (tgt := 28) (dd dtX6_valueKnown 4 rfl) (by decide) (fun h6 => ?_) (fun h6 => ?_)
  · refine b_aload_n (pc := 28) (i := 0) (dd dtX6_valueKnown 16 rfl) rfl rfl ?_
    refine b_geta (pc := 29) (dd dtX6_valueKnown 17 rfl) fwX6_22 pC_42 rC_42_3 ?_
    refine b_iload_n (pc := 32) (i := 1) (dd dtX6_valueKnown 18 rfl) rfl rfl ?_
    refine b_iald (pc := 33) (dd dtX6_valueKnown 19 rfl) pC_45 (by assumption) ?_
    refine b_eq (b_iret (dd dtX6_valueKnown 20 rfl) rfl) ?_ ?_
    · simp [sVal, -Int32.not_lt, -Int32.not_le, *]
    · rfl
  · refine b_aload_n (pc := 9) (i := 0) (dd dtX6_valueKnown 5 rfl) rfl rfl ?_
    refine b_geta (pc := 10) (dd dtX6_valueKnown 6 rfl) fwX6_31 pC_42 rC_42_6 ?_
    refine b_iload_n (pc := 13) (i := 1) (dd dtX6_valueKnown 7 rfl) rfl rfl ?_
    refine b_iald (pc := 14) (dd dtX6_valueKnown 8 rfl) pC_48 (by assumption) ?_
    refine b_iload_n (pc := 15) (i := 2) (dd dtX6_valueKnown 9 rfl) rfl rfl ?_
    refine b_icmp_gt (pc := 16) (tgt := 28) (dd dtX6_valueKnown 10 rfl) (by decide) (fun h16 => ?_) (fun h16 => ?_)
    · refine b_aload_n (pc := 28) (i := 0) (dd dtX6_valueKnown 16 rfl) rfl rfl ?_
      refine b_geta (pc := 29) (dd dtX6_valueKnown 17 rfl) fwX6_22 pC_42 rC_42_3 ?_
      refine b_iload_n (pc := 32) (i := 1) (dd dtX6_valueKnown 18 rfl) rfl rfl ?_
      refine b_iald (pc := 33) (dd dtX6_valueKnown 19 rfl) pC_45 (by assumption) ?_
      refine b_eq (b_iret (dd dtX6_valueKnown 20 rfl) rfl) ?_ ?_
      · simp [sVal, -Int32.not_lt, -Int32.not_le, *]
      · rfl
    · refine b_aload_n (pc := 19) (i := 0) (dd dtX6_valueKnown 11 rfl) rfl rfl ?_
      refine b_geta (pc := 20) (dd dtX6_valueKnown 12 rfl) fwX6_28 pC_42 rC_42_5 ?_
      refine b_iload_n (pc := 23) (i := 1) (dd dtX6_valueKnown 13 rfl) rfl rfl ?_
      refine b_iald (pc := 24) (dd dtX6_valueKnown 14 rfl) pC_47 (by assumption) ?_
      refine b_goto (pc := 25) (tgt := 34) (dd dtX6_valueKnown 15 rfl) (by decide) ?_
      refine b_eq (b_iret (dd dtX6_valueKnown 20 rfl) rfl) ?_ ?_
      · simp [sVal, -Int32.not_lt, -Int32.not_le, *]
      · rfl
def tX6_trustIn : List (Nat × Instr × Nat) := [(0, .bipush 10, 2), (2, .istore_n 1, 1), (3, .iload_n 0, 1), (4, .tableswitch 42 2 5 #[32, 36, 32, 40], 32), (36, .iload_n 1, 1), (37, .iconst 2, 1), (38, .isub, 1), (39, .ireturn, 1), (40, .iload_n 1, 1), (41, .iconst 2, 1), (42, .idiv, 1), (43, .ireturn, 1), (44, .iconst 3, 1), (45, .ireturn, 1), (46, .iload_n 1, 1), (47, .ireturn, 1)]
theorem dtX6_trustIn : dec_ok mX6_trustIn.2.1 tX6_trustIn = true := by decide +kernel
set_option maxHeartbeats 4000000 in
theorem c_X6_trustIn {I : Wd} {k : Int32} : Cal SyC mX6_trustIn 0 [.int k] I (some (.int (sTrust k))) I := by
  refine Cal.of (by decide) (Nat.le_of_ble_eq_true rfl) ?_
  show Bd _ _ _ _ [(0, _)] _ _ _ _
  refine b_bipush (pc := 0) (v := 10) (dd dtX6_trustIn 0 rfl) (by decide) ?_
  refine b_istore_n (pc := 2) (i := 1) (lv' := [(1, _), (0, _)]) (dd dtX6_trustIn 1 rfl) rfl (Nat.le_of_ble_eq_true rfl) rfl ?_
  refine b_iload_n (pc := 3) (i := 0) (dd dtX6_trustIn 2 rfl) rfl rfl ?_
  refine b_tsw (pc := 4) (ts := [(2, 36), (3, 40), (4, 36), (5, 44)]) (dfl := 46) (dd dtX6_trustIn 3 rfl) (by decide +kernel) ⟨fun h4 => ?_, fun h4_2 => ⟨fun h4 => ?_, fun h4_3 => ⟨fun h4 => ?_, fun h4_4 => ⟨fun h4 => ?_, fun h4_5 => ?_⟩⟩⟩⟩
  · refine b_iload_n (pc := 36) (i := 1) (dd dtX6_trustIn 4 rfl) rfl rfl ?_
    refine b_ic2 (pc := 37) (dd dtX6_trustIn 5 rfl) ?_
    refine b_isub (pc := 38) (dd dtX6_trustIn 6 rfl) ?_
    refine b_eq (b_iret (dd dtX6_trustIn 7 rfl) rfl) ?_ ?_
    · simp [sTrust, *]; try decide
    · rfl
  · refine b_iload_n (pc := 40) (i := 1) (dd dtX6_trustIn 8 rfl) rfl rfl ?_
    refine b_ic2 (pc := 41) (dd dtX6_trustIn 9 rfl) ?_
    refine b_idiv (pc := 42) (dd dtX6_trustIn 10 rfl) (by decide) ?_
    refine b_eq (b_iret (dd dtX6_trustIn 11 rfl) rfl) ?_ ?_
    · simp [sTrust, *]; try decide
    · rfl
  · refine b_iload_n (pc := 36) (i := 1) (dd dtX6_trustIn 4 rfl) rfl rfl ?_
    refine b_ic2 (pc := 37) (dd dtX6_trustIn 5 rfl) ?_
    refine b_isub (pc := 38) (dd dtX6_trustIn 6 rfl) ?_
    refine b_eq (b_iret (dd dtX6_trustIn 7 rfl) rfl) ?_ ?_
    · simp [sTrust, *]; try decide
    · rfl
  · refine b_ic3 (pc := 44) (dd dtX6_trustIn 12 rfl) ?_
    refine b_eq (b_iret (dd dtX6_trustIn 13 rfl) rfl) ?_ ?_
    · simp [sTrust, *]; try decide
    · rfl
  · refine b_iload_n (pc := 46) (i := 1) (dd dtX6_trustIn 14 rfl) rfl rfl ?_
    refine b_eq (b_iret (dd dtX6_trustIn 15 rfl) rfl) ?_ ?_
    · simp [sTrust, *]; try decide
    · rfl
def tX6_leastBy : List (Nat × Instr × Nat) := [(0, .iload_n 1, 1), (1, .ifCond .le 7, 3), (4, .iconst 1, 1), (5, .goto 4, 3), (8, .iconst 0, 1), (9, .istore_n 2, 1), (10, .iconst 2, 1), (11, .iload_n 1, 1), (12, .imul, 1), (13, .istore_n 3, 1), (14, .iload_n 1, 1), (15, .bipush 15, 2), (17, .isub, 1), (18, .iconst 0, 1), (19, .invokestatic 45, 3), (22, .istore 4, 2), (24, .iload_n 0, 1), (25, .tableswitch 54 1 5 #[35, 37, 40, 44, 49], 35), (60, .iload_n 3, 1), (61, .ireturn, 1), (62, .iload 4, 2), (64, .ireturn, 1), (65, .iload_n 3, 1), (66, .iconst 4, 1), (67, .idiv, 1), (68, .ireturn, 1), (69, .iload 4, 2), (71, .iconst 2, 1), (72, .idiv, 1), (73, .ireturn, 1), (74, .bipush 10, 2), (76, .iload_n 2, 1), (77, .imul, 1), (78, .ireturn, 1), (79, .iload_n 2, 1), (80, .ireturn, 1)]
theorem dtX6_leastBy : dec_ok mX6_leastBy.2.1 tX6_leastBy = true := by decide +kernel
set_option maxHeartbeats 4000000 in
theorem c_X6_leastBy {I : Wd} {k v : Int32} : Cal SyC mX6_leastBy 1 [.int k, .int v] I (some (.int (sLeast k v))) I := by
  refine Cal.of (by decide) (Nat.le_of_ble_eq_true rfl) ?_
  show Bd _ _ _ _ [(0, _), (1, _)] _ _ _ _
  refine b_iload_n (pc := 0) (i := 1) (dd dtX6_leastBy 0 rfl) rfl rfl ?_
  refine b_ifL_le (pc := 1) (tgt := 8) (dd dtX6_leastBy 1 rfl) (by decide) (fun h1 => ?_) (fun h1 => ?_)
  · refine b_ic0 (pc := 8) (dd dtX6_leastBy 4 rfl) ?_
    refine b_istore_n (pc := 9) (i := 2) (lv' := [(2, _), (0, _), (1, _)]) (dd dtX6_leastBy 5 rfl) rfl (Nat.le_of_ble_eq_true rfl) rfl ?_
    refine b_ic2 (pc := 10) (dd dtX6_leastBy 6 rfl) ?_
    refine b_iload_n (pc := 11) (i := 1) (dd dtX6_leastBy 7 rfl) rfl rfl ?_
    refine b_imul (pc := 12) (dd dtX6_leastBy 8 rfl) ?_
    refine b_istore_n (pc := 13) (i := 3) (lv' := [(3, _), (2, _), (0, _), (1, _)]) (dd dtX6_leastBy 9 rfl) rfl (Nat.le_of_ble_eq_true rfl) rfl ?_
    refine b_iload_n (pc := 14) (i := 1) (dd dtX6_leastBy 10 rfl) rfl rfl ?_
    refine b_bipush (pc := 15) (v := 15) (dd dtX6_leastBy 11 rfl) (by decide) ?_
    refine b_isub (pc := 17) (dd dtX6_leastBy 12 rfl) ?_
    refine b_ic0 (pc := 18) (dd dtX6_leastBy 13 rfl) ?_
    refine b_mmax (pc := 19) (dd dtX6_leastBy 14 rfl) wlX6_45 (Nat.le_of_ble_eq_true rfl) ?_
    refine b_istore (pc := 22) (i := 4) (lv' := [(4, _), (3, _), (2, _), (0, _), (1, _)]) (dd dtX6_leastBy 15 rfl) (Nat.le_of_ble_eq_true rfl) rfl ?_
    refine b_iload_n (pc := 24) (i := 0) (dd dtX6_leastBy 16 rfl) rfl rfl ?_
    refine b_tsw (pc := 25) (ts := [(1, 60), (2, 62), (3, 65), (4, 69), (5, 74)]) (dfl := 79) (dd dtX6_leastBy 17 rfl) (by decide +kernel) ⟨fun h25 => ?_, fun h25_1 => ⟨fun h25 => ?_, fun h25_2 => ⟨fun h25 => ?_, fun h25_3 => ⟨fun h25 => ?_, fun h25_4 => ⟨fun h25 => ?_, fun h25_5 => ?_⟩⟩⟩⟩⟩
    · refine b_iload_n (pc := 60) (i := 3) (dd dtX6_leastBy 18 rfl) rfl rfl ?_
      refine b_eq (b_iret (dd dtX6_leastBy 19 rfl) rfl) ?_ ?_
      · simp [sLeast, sSg, sLk, -Int32.not_lt, -Int32.not_le, *]
      · rfl
    · refine b_iload (pc := 62) (i := 4) (dd dtX6_leastBy 20 rfl) rfl ?_
      refine b_eq (b_iret (dd dtX6_leastBy 21 rfl) rfl) ?_ ?_
      · simp [sLeast, sSg, sLk, -Int32.not_lt, -Int32.not_le, *]
      · rfl
    · refine b_iload_n (pc := 65) (i := 3) (dd dtX6_leastBy 22 rfl) rfl rfl ?_
      refine b_ic4 (pc := 66) (dd dtX6_leastBy 23 rfl) ?_
      refine b_idiv (pc := 67) (dd dtX6_leastBy 24 rfl) (by decide) ?_
      refine b_eq (b_iret (dd dtX6_leastBy 25 rfl) rfl) ?_ ?_
      · simp [sLeast, sSg, sLk, -Int32.not_lt, -Int32.not_le, *]
      · rfl
    · refine b_iload (pc := 69) (i := 4) (dd dtX6_leastBy 26 rfl) rfl ?_
      refine b_ic2 (pc := 71) (dd dtX6_leastBy 27 rfl) ?_
      refine b_idiv (pc := 72) (dd dtX6_leastBy 28 rfl) (by decide) ?_
      refine b_eq (b_iret (dd dtX6_leastBy 29 rfl) rfl) ?_ ?_
      · simp [sLeast, sSg, sLk, -Int32.not_lt, -Int32.not_le, *]
      · rfl
    · refine b_bipush (pc := 74) (v := 10) (dd dtX6_leastBy 30 rfl) (by decide) ?_
      refine b_iload_n (pc := 76) (i := 2) (dd dtX6_leastBy 31 rfl) rfl rfl ?_
      refine b_imul (pc := 77) (dd dtX6_leastBy 32 rfl) ?_
      refine b_eq (b_iret (dd dtX6_leastBy 33 rfl) rfl) ?_ ?_
      · simp [sLeast, sSg, sLk, -Int32.not_lt, -Int32.not_le, *]
      · rfl
    · refine b_iload_n (pc := 79) (i := 2) (dd dtX6_leastBy 34 rfl) rfl rfl ?_
      refine b_eq (b_iret (dd dtX6_leastBy 35 rfl) rfl) ?_ ?_
      · simp [sLeast, sSg, sLk, -Int32.not_lt, -Int32.not_le, *]
      · rfl
  · refine b_ic1 (pc := 4) (dd dtX6_leastBy 2 rfl) ?_
    refine b_goto (pc := 5) (tgt := 9) (dd dtX6_leastBy 3 rfl) (by decide) ?_
    refine b_istore_n (pc := 9) (i := 2) (lv' := [(2, _), (0, _), (1, _)]) (dd dtX6_leastBy 5 rfl) rfl (Nat.le_of_ble_eq_true rfl) rfl ?_
    refine b_ic2 (pc := 10) (dd dtX6_leastBy 6 rfl) ?_
    refine b_iload_n (pc := 11) (i := 1) (dd dtX6_leastBy 7 rfl) rfl rfl ?_
    refine b_imul (pc := 12) (dd dtX6_leastBy 8 rfl) ?_
    refine b_istore_n (pc := 13) (i := 3) (lv' := [(3, _), (2, _), (0, _), (1, _)]) (dd dtX6_leastBy 9 rfl) rfl (Nat.le_of_ble_eq_true rfl) rfl ?_
    refine b_iload_n (pc := 14) (i := 1) (dd dtX6_leastBy 10 rfl) rfl rfl ?_
    refine b_bipush (pc := 15) (v := 15) (dd dtX6_leastBy 11 rfl) (by decide) ?_
    refine b_isub (pc := 17) (dd dtX6_leastBy 12 rfl) ?_
    refine b_ic0 (pc := 18) (dd dtX6_leastBy 13 rfl) ?_
    refine b_mmax (pc := 19) (dd dtX6_leastBy 14 rfl) wlX6_45 (Nat.le_of_ble_eq_true rfl) ?_
    refine b_istore (pc := 22) (i := 4) (lv' := [(4, _), (3, _), (2, _), (0, _), (1, _)]) (dd dtX6_leastBy 15 rfl) (Nat.le_of_ble_eq_true rfl) rfl ?_
    refine b_iload_n (pc := 24) (i := 0) (dd dtX6_leastBy 16 rfl) rfl rfl ?_
    refine b_tsw (pc := 25) (ts := [(1, 60), (2, 62), (3, 65), (4, 69), (5, 74)]) (dfl := 79) (dd dtX6_leastBy 17 rfl) (by decide +kernel) ⟨fun h25 => ?_, fun h25_1 => ⟨fun h25 => ?_, fun h25_2 => ⟨fun h25 => ?_, fun h25_3 => ⟨fun h25 => ?_, fun h25_4 => ⟨fun h25 => ?_, fun h25_5 => ?_⟩⟩⟩⟩⟩
    · refine b_iload_n (pc := 60) (i := 3) (dd dtX6_leastBy 18 rfl) rfl rfl ?_
      refine b_eq (b_iret (dd dtX6_leastBy 19 rfl) rfl) ?_ ?_
      · simp [sLeast, sSg, sLk, -Int32.not_lt, -Int32.not_le, *]
      · rfl
    · refine b_iload (pc := 62) (i := 4) (dd dtX6_leastBy 20 rfl) rfl ?_
      refine b_eq (b_iret (dd dtX6_leastBy 21 rfl) rfl) ?_ ?_
      · simp [sLeast, sSg, sLk, -Int32.not_lt, -Int32.not_le, *]
      · rfl
    · refine b_iload_n (pc := 65) (i := 3) (dd dtX6_leastBy 22 rfl) rfl rfl ?_
      refine b_ic4 (pc := 66) (dd dtX6_leastBy 23 rfl) ?_
      refine b_idiv (pc := 67) (dd dtX6_leastBy 24 rfl) (by decide) ?_
      refine b_eq (b_iret (dd dtX6_leastBy 25 rfl) rfl) ?_ ?_
      · simp [sLeast, sSg, sLk, -Int32.not_lt, -Int32.not_le, *]
      · rfl
    · refine b_iload (pc := 69) (i := 4) (dd dtX6_leastBy 26 rfl) rfl ?_
      refine b_ic2 (pc := 71) (dd dtX6_leastBy 27 rfl) ?_
      refine b_idiv (pc := 72) (dd dtX6_leastBy 28 rfl) (by decide) ?_
      refine b_eq (b_iret (dd dtX6_leastBy 29 rfl) rfl) ?_ ?_
      · simp [sLeast, sSg, sLk, -Int32.not_lt, -Int32.not_le, *]
      · rfl
    · refine b_bipush (pc := 74) (v := 10) (dd dtX6_leastBy 30 rfl) (by decide) ?_
      refine b_iload_n (pc := 76) (i := 2) (dd dtX6_leastBy 31 rfl) rfl rfl ?_
      refine b_imul (pc := 77) (dd dtX6_leastBy 32 rfl) ?_
      refine b_eq (b_iret (dd dtX6_leastBy 33 rfl) rfl) ?_ ?_
      · simp [sLeast, sSg, sLk, -Int32.not_lt, -Int32.not_le, *]
      · rfl
    · refine b_iload_n (pc := 79) (i := 2) (dd dtX6_leastBy 34 rfl) rfl rfl ?_
      refine b_eq (b_iret (dd dtX6_leastBy 35 rfl) rfl) ?_ ?_
      · simp [sLeast, sSg, sLk, -Int32.not_lt, -Int32.not_le, *]
      · rfl
def tX6_mostBy : List (Nat × Instr × Nat) := [(0, .iload_n 1, 1), (1, .bipush 15, 2), (3, .iadd, 1), (4, .istore_n 2, 1), (5, .iload_n 0, 1), (6, .lookupswitch 33 #[(2, 26), (4, 28)], 26), (32, .iload_n 2, 1), (33, .ireturn, 1), (34, .iload_n 2, 1), (35, .bipush 25, 2), (37, .iadd, 1), (38, .ireturn, 1), (39, .sipush 200, 3), (42, .ireturn, 1)]
theorem dtX6_mostBy : dec_ok mX6_mostBy.2.1 tX6_mostBy = true := by decide +kernel
set_option maxHeartbeats 4000000 in
theorem c_X6_mostBy {I : Wd} {k v : Int32} : Cal SyC mX6_mostBy 0 [.int k, .int v] I (some (.int (sMost k v))) I := by
  refine Cal.of (by decide) (Nat.le_of_ble_eq_true rfl) ?_
  show Bd _ _ _ _ [(0, _), (1, _)] _ _ _ _
  refine b_iload_n (pc := 0) (i := 1) (dd dtX6_mostBy 0 rfl) rfl rfl ?_
  refine b_bipush (pc := 1) (v := 15) (dd dtX6_mostBy 1 rfl) (by decide) ?_
  refine b_iadd (pc := 3) (dd dtX6_mostBy 2 rfl) ?_
  refine b_istore_n (pc := 4) (i := 2) (lv' := [(2, _), (0, _), (1, _)]) (dd dtX6_mostBy 3 rfl) rfl (Nat.le_of_ble_eq_true rfl) rfl ?_
  refine b_iload_n (pc := 5) (i := 0) (dd dtX6_mostBy 4 rfl) rfl rfl ?_
  refine b_lsw (pc := 6) (ts := [(2, 32), (4, 34)]) (dfl := 39) (dd dtX6_mostBy 5 rfl) (by decide +kernel) ⟨fun h6 => ?_, fun h6_2 => ⟨fun h6 => ?_, fun h6_4 => ?_⟩⟩
  · refine b_iload_n (pc := 32) (i := 2) (dd dtX6_mostBy 6 rfl) rfl rfl ?_
    refine b_eq (b_iret (dd dtX6_mostBy 7 rfl) rfl) ?_ ?_
    · simp [sMost, -Int32.not_lt, -Int32.not_le, *]
    · rfl
  · refine b_iload_n (pc := 34) (i := 2) (dd dtX6_mostBy 8 rfl) rfl rfl ?_
    refine b_bipush (pc := 35) (v := 25) (dd dtX6_mostBy 9 rfl) (by decide) ?_
    refine b_iadd (pc := 37) (dd dtX6_mostBy 10 rfl) ?_
    refine b_eq (b_iret (dd dtX6_mostBy 11 rfl) rfl) ?_ ?_
    · simp [sMost, -Int32.not_lt, -Int32.not_le, *]
    · rfl
  · refine b_sipush (pc := 39) (v := 200) (dd dtX6_mostBy 12 rfl) (by decide) ?_
    refine b_eq (b_iret (dd dtX6_mostBy 13 rfl) rfl) ?_ ?_
    · simp [sMost, -Int32.not_lt, -Int32.not_le, *]
    · rfl
def tX6_speaks : List (Nat × Instr × Nat) := [(0, .aload_n 0, 1), (1, .getfield 19, 3), (4, .iload_n 1, 1), (5, .iaload, 1), (6, .iload_n 2, 1), (7, .if_icmp .ne 31, 3), (10, .aload_n 0, 1), (11, .getfield 25, 3), (14, .iload_n 1, 1), (15, .iaload, 1), (16, .iload_n 3, 1), (17, .if_icmp .gt 21, 3), (20, .aload_n 0, 1), (21, .getfield 15, 3), (24, .iload_n 1, 1), (25, .iaload, 1), (26, .invokestatic 56, 3), (29, .iload 4, 2), (31, .if_icmp .lt 7, 3), (34, .iconst 1, 1), (35, .goto 4, 3), (38, .iconst 0, 1), (39, .ireturn, 1)]
theorem dtX6_speaks : dec_ok mX6_speaks.2.1 tX6_speaks = true := by decide +kernel
set_option maxHeartbeats 4000000 in
theorem c_X6_speaks {I : Wd} {k c known tr : Int32} (hk : vp_in k 30) : Cal SyC mX6_speaks 1 [.ref 42, .int k, .int c, .int known, .int tr] I (some (.int (bi (I 44 k.toNatClampNeg = c ∧ ¬ known < I 46 k.toNatClampNeg ∧ ¬ sTrust (I 43 k.toNatClampNeg) < tr)))) I := by
  refine Cal.of (by decide) (Nat.le_of_ble_eq_true rfl) ?_
  show Bd _ _ _ _ [(0, _), (1, _), (2, _), (3, _), (4, _)] _ _ _ _
  refine b_aload_n (pc := 0) (i := 0) (dd dtX6_speaks 0 rfl) rfl rfl ?_
  refine b_geta (pc := 1) (dd dtX6_speaks 1 rfl) fwX6_19 pC_42 rC_42_2 ?_
  refine b_iload_n (pc := 4) (i := 1) (dd dtX6_speaks 2 rfl) rfl rfl ?_
  refine b_iald (pc := 5) (dd dtX6_speaks 3 rfl) pC_44 (by assumption) ?_
  refine b_iload_n (pc := 6) (i := 2) (dd dtX6_speaks 4 rfl) rfl rfl ?_
  refine b_icmp_ne (pc := 7) (tgt := 38) (dd dtX6_speaks 5 rfl) (by decide) (fun h7 => ?_) (fun h7 => ?_)
  · refine b_ic0 (pc := 38) (dd dtX6_speaks 21 rfl) ?_
    refine b_eq (b_zret (dd dtX6_speaks 22 rfl) rfl (by first | rfl | exact nar_bi)) ?_ ?_
    · simp [bi, -Int32.not_lt, -Int32.not_le, *]
    · rfl
  · refine b_aload_n (pc := 10) (i := 0) (dd dtX6_speaks 6 rfl) rfl rfl ?_
    refine b_geta (pc := 11) (dd dtX6_speaks 7 rfl) fwX6_25 pC_42 rC_42_4 ?_
    refine b_iload_n (pc := 14) (i := 1) (dd dtX6_speaks 8 rfl) rfl rfl ?_
    refine b_iald (pc := 15) (dd dtX6_speaks 9 rfl) pC_46 (by assumption) ?_
    refine b_iload_n (pc := 16) (i := 3) (dd dtX6_speaks 10 rfl) rfl rfl ?_
    refine b_icmp_gt (pc := 17) (tgt := 38) (dd dtX6_speaks 11 rfl) (by decide) (fun h17 => ?_) (fun h17 => ?_)
    · refine b_ic0 (pc := 38) (dd dtX6_speaks 21 rfl) ?_
      refine b_eq (b_zret (dd dtX6_speaks 22 rfl) rfl (by first | rfl | exact nar_bi)) ?_ ?_
      · simp [bi, -Int32.not_lt, -Int32.not_le, *]
      · rfl
    · refine b_aload_n (pc := 20) (i := 0) (dd dtX6_speaks 12 rfl) rfl rfl ?_
      refine b_geta (pc := 21) (dd dtX6_speaks 13 rfl) fwX6_15 pC_42 rC_42_1 ?_
      refine b_iload_n (pc := 24) (i := 1) (dd dtX6_speaks 14 rfl) rfl rfl ?_
      refine b_iald (pc := 25) (dd dtX6_speaks 15 rfl) pC_43 (by assumption) ?_
      refine b_invS (pc := 26) (dd dtX6_speaks 16 rfl) mlX6_56 mvX6_trustIn msX6_trustIn (c_X6_trustIn) rfl rfl (by decide) (Nat.le_of_ble_eq_true rfl) ?_
      refine b_iload (pc := 29) (i := 4) (dd dtX6_speaks 17 rfl) rfl ?_
      refine b_icmp_lt (pc := 31) (tgt := 38) (dd dtX6_speaks 18 rfl) (by decide) (fun h31 => ?_) (fun h31 => ?_)
      · refine b_ic0 (pc := 38) (dd dtX6_speaks 21 rfl) ?_
        refine b_eq (b_zret (dd dtX6_speaks 22 rfl) rfl (by first | rfl | exact nar_bi)) ?_ ?_
        · simp [bi, -Int32.not_lt, -Int32.not_le, *]
        · rfl
      · refine b_ic1 (pc := 34) (dd dtX6_speaks 19 rfl) ?_
        refine b_goto (pc := 35) (tgt := 39) (dd dtX6_speaks 20 rfl) (by decide) ?_
        refine b_eq (b_zret (dd dtX6_speaks 22 rfl) rfl (by first | rfl | exact nar_bi)) ?_ ?_
        · simp [bi, -Int32.not_lt, -Int32.not_le, *]
        · rfl

/-- the span of the first n signs -/
def sLo (kind cell mon val : Nat → Int32) (c known tr : Int32) : Nat → Int32
  | 0 => 0
  | n + 1 => if cell n = c ∧ ¬ known < mon n ∧ ¬ sTrust (kind n) < tr then (if sLo kind cell mon val c known tr n < sLeast (kind n) (val n) then sLeast (kind n) (val n) else sLo kind cell mon val c known tr n) else sLo kind cell mon val c known tr n
def sHi (kind cell mon val : Nat → Int32) (c known tr : Int32) : Nat → Int32
  | 0 => 200
  | n + 1 => if cell n = c ∧ ¬ known < mon n ∧ ¬ sTrust (kind n) < tr then (if sMost (kind n) (val n) < sHi kind cell mon val c known tr n then sMost (kind n) (val n) else sHi kind cell mon val c known tr n) else sHi kind cell mon val c known tr n
def tX6_least : List (Nat × Instr × Nat) := [(0, .iconst 0, 1), (1, .istore 4, 2), (3, .iconst 0, 1), (4, .istore 5, 2), (6, .iload 5, 2), (8, .aload_n 0, 1), (9, .getfield 9, 3), (12, .if_icmp .ge 45, 3), (15, .aload_n 0, 1), (16, .iload 5, 2), (18, .iload_n 1, 1), (19, .iload_n 2, 1), (20, .iload_n 3, 1), (21, .invokevirtual 34, 3), (24, .ifCond .eq 27, 3), (27, .iload 4, 2), (29, .aload_n 0, 1), (30, .getfield 15, 3), (33, .iload 5, 2), (35, .iaload, 1), (36, .aload_n 0, 1), (37, .iload 5, 2), (39, .iload_n 2, 1), (40, .invokevirtual 38, 3), (43, .invokestatic 42, 3), (46, .invokestatic 45, 3), (49, .istore 4, 2), (51, .iinc 5 1, 3), (54, .goto (-48), 3), (57, .iload 4, 2), (59, .ireturn, 1)]
theorem dtX6_least : dec_ok mX6_least.2.1 tX6_least = true := by decide +kernel
set_option maxHeartbeats 4000000 in
theorem l_X6_least {I : Wd} {N : Nat} {c known tr : Int32} (hN : I 42 0 = nI N) (hN2 : N ≤ 30) : ∀ (n h : Nat) (x5 : Int32) (x4 : Int32), h ≤ N → N < h + n → x5 = nI h → x4 = (sLo (I 43) (I 44) (I 46) (sVal (I 48) (I 47) (I 45) known) c known tr h) → Bd SyC mX6_least 2 6 [(5, .int x5), (4, .int x4), (0, .ref 42), (1, .int c), (2, .int known), (3, .int tr)] [] I (some (.int (sLo (I 43) (I 44) (I 46) (sVal (I 48) (I 47) (I 45) known) c known tr N))) I := by
  intro n
  induction n with
  | zero => intro h x5 x4 h1 h2; omega
  | succ n ih =>
    intro h x5 x4 h1 h2 e5 e4
    subst e5; subst e4
    refine b_iload (pc := 6) (i := 5) (dd dtX6_least 4 rfl) rfl ?_
    refine b_aload_n (pc := 8) (i := 0) (dd dtX6_least 5 rfl) rfl rfl ?_
    refine b_geti (pc := 9) (dd dtX6_least 6 rfl) fwX6_9 pC_42 ?_
    refine b_icmpL_ge (pc := 12) (tgt := 57) (dd dtX6_least 7 rfl) (by decide) (fun h12 => ?_) (fun h12 => ?_)
    · rw [hN] at h12
      have he : h = N := Nat.le_antisymm h1 (ge_n h12 (by omega))
      subst he
      refine b_iload (pc := 57) (i := 4) (dd dtX6_least 29 rfl) rfl ?_
      exact b_eq (b_iret (dd dtX6_least 30 rfl) rfl) rfl rfl
    · rw [hN] at h12
      have hlt : h < N := lt_n h12 (by omega) (by omega)
      refine b_aload_n (pc := 15) (i := 0) (dd dtX6_least 8 rfl) rfl rfl ?_
      refine b_iload (pc := 16) (i := 5) (dd dtX6_least 9 rfl) rfl ?_
      refine b_iload_n (pc := 18) (i := 1) (dd dtX6_least 10 rfl) rfl rfl ?_
      refine b_iload_n (pc := 19) (i := 2) (dd dtX6_least 11 rfl) rfl rfl ?_
      refine b_iload_n (pc := 20) (i := 3) (dd dtX6_least 12 rfl) rfl rfl ?_
      refine b_invV (pc := 21) (dd dtX6_least 13 rfl) mlX6_34 mvX6_speaks miX6_speaks (c_X6_speaks (vpn rfl (show h < 30 by omega) (by decide))) oC_42 rfl rfl (by decide) (Nat.le_of_ble_eq_true rfl) ?_
      refine b_ifb_eq (pc := 24) (tgt := 51) (dd dtX6_least 14 rfl) (by decide) (fun h24 => ?_) (fun h24 => ?_)
      · refine b_iinc1 (pc := 51) (i := 5) (lv' := [(5, _), (4, _), (0, _), (1, _), (2, _), (3, _)]) (dd dtX6_least 27 rfl) rfl (Nat.le_of_ble_eq_true rfl) rfl ?_
        refine b_goto (pc := 54) (tgt := 6) (dd dtX6_least 28 rfl) (by decide) ?_
        rw [nI_1]
        refine ih (h + 1) _ _ hlt (by omega) rfl ?_
        · simp only [nI_clamp (show h < 2 ^ 31 by omega)] at *
          simp [sLo, -Int32.not_lt, -Int32.not_le, *]
      · refine b_iload (pc := 27) (i := 4) (dd dtX6_least 15 rfl) rfl ?_
        refine b_aload_n (pc := 29) (i := 0) (dd dtX6_least 16 rfl) rfl rfl ?_
        refine b_geta (pc := 30) (dd dtX6_least 17 rfl) fwX6_15 pC_42 rC_42_1 ?_
        refine b_iload (pc := 33) (i := 5) (dd dtX6_least 18 rfl) rfl ?_
        refine b_iald (pc := 35) (dd dtX6_least 19 rfl) pC_43 (vpn rfl (show h < 30 by omega) (by decide)) ?_
        refine b_aload_n (pc := 36) (i := 0) (dd dtX6_least 20 rfl) rfl rfl ?_
        refine b_iload (pc := 37) (i := 5) (dd dtX6_least 21 rfl) rfl ?_
        refine b_iload_n (pc := 39) (i := 2) (dd dtX6_least 22 rfl) rfl rfl ?_
        refine b_invV (pc := 40) (dd dtX6_least 23 rfl) mlX6_38 mvX6_valueKnown miX6_valueKnown (c_X6_valueKnown (vpn rfl (show h < 30 by omega) (by decide))) oC_42 rfl rfl (by decide) (Nat.le_of_ble_eq_true rfl) ?_
        refine b_invS (pc := 43) (dd dtX6_least 24 rfl) mlX6_42 mvX6_leastBy msX6_leastBy (c_X6_leastBy) rfl rfl (by decide) (Nat.le_of_ble_eq_true rfl) ?_
        refine b_mmax (pc := 46) (dd dtX6_least 25 rfl) wlX6_45 (Nat.le_of_ble_eq_true rfl) ?_
        refine b_istore (pc := 49) (i := 4) (lv' := [(4, _), (5, _), (0, _), (1, _), (2, _), (3, _)]) (dd dtX6_least 26 rfl) (Nat.le_of_ble_eq_true rfl) rfl ?_
        refine b_iinc1 (pc := 51) (i := 5) (lv' := [(5, _), (4, _), (0, _), (1, _), (2, _), (3, _)]) (dd dtX6_least 27 rfl) rfl (Nat.le_of_ble_eq_true rfl) rfl ?_
        refine b_goto (pc := 54) (tgt := 6) (dd dtX6_least 28 rfl) (by decide) ?_
        rw [nI_1]
        refine ih (h + 1) _ _ hlt (by omega) rfl ?_
        · simp only [nI_clamp (show h < 2 ^ 31 by omega)] at *
          simp [sLo, -Int32.not_lt, -Int32.not_le, *]
set_option maxHeartbeats 4000000 in
theorem c_X6_least {I : Wd} {N : Nat} {c known tr : Int32} (hN : I 42 0 = nI N) (hN2 : N ≤ 30) : Cal SyC mX6_least 2 [.ref 42, .int c, .int known, .int tr] I (some (.int (sLo (I 43) (I 44) (I 46) (sVal (I 48) (I 47) (I 45) known) c known tr N))) I := by
  refine Cal.of (by decide) (Nat.le_of_ble_eq_true rfl) ?_
  show Bd _ _ _ _ [(0, _), (1, _), (2, _), (3, _)] _ _ _ _
  refine b_ic0 (pc := 0) (dd dtX6_least 0 rfl) ?_
  refine b_istore (pc := 1) (i := 4) (lv' := [(4, _), (0, _), (1, _), (2, _), (3, _)]) (dd dtX6_least 1 rfl) (Nat.le_of_ble_eq_true rfl) rfl ?_
  refine b_ic0 (pc := 3) (dd dtX6_least 2 rfl) ?_
  refine b_istore (pc := 4) (i := 5) (lv' := [(5, _), (4, _), (0, _), (1, _), (2, _), (3, _)]) (dd dtX6_least 3 rfl) (Nat.le_of_ble_eq_true rfl) rfl ?_
  exact l_X6_least hN hN2 (N + 1) 0 _ _ (Nat.zero_le _) (by omega) rfl rfl
def tX6_most : List (Nat × Instr × Nat) := [(0, .sipush 200, 3), (3, .istore 4, 2), (5, .iconst 0, 1), (6, .istore 5, 2), (8, .iload 5, 2), (10, .aload_n 0, 1), (11, .getfield 9, 3), (14, .if_icmp .ge 45, 3), (17, .aload_n 0, 1), (18, .iload 5, 2), (20, .iload_n 1, 1), (21, .iload_n 2, 1), (22, .iload_n 3, 1), (23, .invokevirtual 34, 3), (26, .ifCond .eq 27, 3), (29, .iload 4, 2), (31, .aload_n 0, 1), (32, .getfield 15, 3), (35, .iload 5, 2), (37, .iaload, 1), (38, .aload_n 0, 1), (39, .iload 5, 2), (41, .iload_n 2, 1), (42, .invokevirtual 38, 3), (45, .invokestatic 50, 3), (48, .invokestatic 53, 3), (51, .istore 4, 2), (53, .iinc 5 1, 3), (56, .goto (-48), 3), (59, .iload 4, 2), (61, .ireturn, 1)]
theorem dtX6_most : dec_ok mX6_most.2.1 tX6_most = true := by decide +kernel
set_option maxHeartbeats 4000000 in
theorem l_X6_most {I : Wd} {N : Nat} {c known tr : Int32} (hN : I 42 0 = nI N) (hN2 : N ≤ 30) : ∀ (n h : Nat) (x5 : Int32) (x4 : Int32), h ≤ N → N < h + n → x5 = nI h → x4 = (sHi (I 43) (I 44) (I 46) (sVal (I 48) (I 47) (I 45) known) c known tr h) → Bd SyC mX6_most 2 8 [(5, .int x5), (4, .int x4), (0, .ref 42), (1, .int c), (2, .int known), (3, .int tr)] [] I (some (.int (sHi (I 43) (I 44) (I 46) (sVal (I 48) (I 47) (I 45) known) c known tr N))) I := by
  intro n
  induction n with
  | zero => intro h x5 x4 h1 h2; omega
  | succ n ih =>
    intro h x5 x4 h1 h2 e5 e4
    subst e5; subst e4
    refine b_iload (pc := 8) (i := 5) (dd dtX6_most 4 rfl) rfl ?_
    refine b_aload_n (pc := 10) (i := 0) (dd dtX6_most 5 rfl) rfl rfl ?_
    refine b_geti (pc := 11) (dd dtX6_most 6 rfl) fwX6_9 pC_42 ?_
    refine b_icmpL_ge (pc := 14) (tgt := 59) (dd dtX6_most 7 rfl) (by decide) (fun h14 => ?_) (fun h14 => ?_)
    · rw [hN] at h14
      have he : h = N := Nat.le_antisymm h1 (ge_n h14 (by omega))
      subst he
      refine b_iload (pc := 59) (i := 4) (dd dtX6_most 29 rfl) rfl ?_
      exact b_eq (b_iret (dd dtX6_most 30 rfl) rfl) rfl rfl
    · rw [hN] at h14
      have hlt : h < N := lt_n h14 (by omega) (by omega)
      refine b_aload_n (pc := 17) (i := 0) (dd dtX6_most 8 rfl) rfl rfl ?_
      refine b_iload (pc := 18) (i := 5) (dd dtX6_most 9 rfl) rfl ?_
      refine b_iload_n (pc := 20) (i := 1) (dd dtX6_most 10 rfl) rfl rfl ?_
      refine b_iload_n (pc := 21) (i := 2) (dd dtX6_most 11 rfl) rfl rfl ?_
      refine b_iload_n (pc := 22) (i := 3) (dd dtX6_most 12 rfl) rfl rfl ?_
      refine b_invV (pc := 23) (dd dtX6_most 13 rfl) mlX6_34 mvX6_speaks miX6_speaks (c_X6_speaks (vpn rfl (show h < 30 by omega) (by decide))) oC_42 rfl rfl (by decide) (Nat.le_of_ble_eq_true rfl) ?_
      refine b_ifb_eq (pc := 26) (tgt := 53) (dd dtX6_most 14 rfl) (by decide) (fun h26 => ?_) (fun h26 => ?_)
      · refine b_iinc1 (pc := 53) (i := 5) (lv' := [(5, _), (4, _), (0, _), (1, _), (2, _), (3, _)]) (dd dtX6_most 27 rfl) rfl (Nat.le_of_ble_eq_true rfl) rfl ?_
        refine b_goto (pc := 56) (tgt := 8) (dd dtX6_most 28 rfl) (by decide) ?_
        rw [nI_1]
        refine ih (h + 1) _ _ hlt (by omega) rfl ?_
        · simp only [nI_clamp (show h < 2 ^ 31 by omega)] at *
          simp [sHi, -Int32.not_lt, -Int32.not_le, *]
      · refine b_iload (pc := 29) (i := 4) (dd dtX6_most 15 rfl) rfl ?_
        refine b_aload_n (pc := 31) (i := 0) (dd dtX6_most 16 rfl) rfl rfl ?_
        refine b_geta (pc := 32) (dd dtX6_most 17 rfl) fwX6_15 pC_42 rC_42_1 ?_
        refine b_iload (pc := 35) (i := 5) (dd dtX6_most 18 rfl) rfl ?_
        refine b_iald (pc := 37) (dd dtX6_most 19 rfl) pC_43 (vpn rfl (show h < 30 by omega) (by decide)) ?_
        refine b_aload_n (pc := 38) (i := 0) (dd dtX6_most 20 rfl) rfl rfl ?_
        refine b_iload (pc := 39) (i := 5) (dd dtX6_most 21 rfl) rfl ?_
        refine b_iload_n (pc := 41) (i := 2) (dd dtX6_most 22 rfl) rfl rfl ?_
        refine b_invV (pc := 42) (dd dtX6_most 23 rfl) mlX6_38 mvX6_valueKnown miX6_valueKnown (c_X6_valueKnown (vpn rfl (show h < 30 by omega) (by decide))) oC_42 rfl rfl (by decide) (Nat.le_of_ble_eq_true rfl) ?_
        refine b_invS (pc := 45) (dd dtX6_most 24 rfl) mlX6_50 mvX6_mostBy msX6_mostBy (c_X6_mostBy) rfl rfl (by decide) (Nat.le_of_ble_eq_true rfl) ?_
        refine b_mmin (pc := 48) (dd dtX6_most 25 rfl) wlX6_53 (Nat.le_of_ble_eq_true rfl) ?_
        refine b_istore (pc := 51) (i := 4) (lv' := [(4, _), (5, _), (0, _), (1, _), (2, _), (3, _)]) (dd dtX6_most 26 rfl) (Nat.le_of_ble_eq_true rfl) rfl ?_
        refine b_iinc1 (pc := 53) (i := 5) (lv' := [(5, _), (4, _), (0, _), (1, _), (2, _), (3, _)]) (dd dtX6_most 27 rfl) rfl (Nat.le_of_ble_eq_true rfl) rfl ?_
        refine b_goto (pc := 56) (tgt := 8) (dd dtX6_most 28 rfl) (by decide) ?_
        rw [nI_1]
        refine ih (h + 1) _ _ hlt (by omega) rfl ?_
        · simp only [nI_clamp (show h < 2 ^ 31 by omega)] at *
          simp [sHi, -Int32.not_lt, -Int32.not_le, *]
set_option maxHeartbeats 4000000 in
theorem c_X6_most {I : Wd} {N : Nat} {c known tr : Int32} (hN : I 42 0 = nI N) (hN2 : N ≤ 30) : Cal SyC mX6_most 2 [.ref 42, .int c, .int known, .int tr] I (some (.int (sHi (I 43) (I 44) (I 46) (sVal (I 48) (I 47) (I 45) known) c known tr N))) I := by
  refine Cal.of (by decide) (Nat.le_of_ble_eq_true rfl) ?_
  show Bd _ _ _ _ [(0, _), (1, _), (2, _), (3, _)] _ _ _ _
  refine b_sipush (pc := 0) (v := 200) (dd dtX6_most 0 rfl) (by decide) ?_
  refine b_istore (pc := 3) (i := 4) (lv' := [(4, _), (0, _), (1, _), (2, _), (3, _)]) (dd dtX6_most 1 rfl) (Nat.le_of_ble_eq_true rfl) rfl ?_
  refine b_ic0 (pc := 5) (dd dtX6_most 2 rfl) ?_
  refine b_istore (pc := 6) (i := 5) (lv' := [(5, _), (4, _), (0, _), (1, _), (2, _), (3, _)]) (dd dtX6_most 3 rfl) (Nat.le_of_ble_eq_true rfl) rfl ?_
  exact l_X6_most hN hN2 (N + 1) 0 _ _ (Nat.zero_le _) (by omega) rfl rfl
def tX6_add : List (Nat × Instr × Nat) := [(0, .aload_n 0, 1), (1, .getfield 9, 3), (4, .bipush 30, 2), (6, .if_icmp .lt 6, 3), (9, .bipush (-4), 2), (11, .ireturn, 1), (12, .aload_n 0, 1), (13, .getfield 15, 3), (16, .aload_n 0, 1), (17, .getfield 9, 3), (20, .iload_n 1, 1), (21, .iastore, 1), (22, .aload_n 0, 1), (23, .getfield 19, 3), (26, .aload_n 0, 1), (27, .getfield 9, 3), (30, .iload_n 2, 1), (31, .iastore, 1), (32, .aload_n 0, 1), (33, .getfield 22, 3), (36, .aload_n 0, 1), (37, .getfield 9, 3), (40, .iload_n 3, 1), (41, .iastore, 1), (42, .aload_n 0, 1), (43, .getfield 25, 3), (46, .aload_n 0, 1), (47, .getfield 9, 3), (50, .iload 4, 2), (52, .iastore, 1), (53, .aload_n 0, 1), (54, .getfield 31, 3), (57, .aload_n 0, 1), (58, .getfield 9, 3), (61, .iconst (-1), 1), (62, .iastore, 1), (63, .aload_n 0, 1), (64, .dup, 1), (65, .getfield 9, 3), (68, .iconst 1, 1), (69, .iadd, 1), (70, .putfield 9, 3), (73, .aload_n 0, 1), (74, .getfield 9, 3), (77, .iconst 1, 1), (78, .isub, 1), (79, .ireturn, 1)]
theorem dtX6_add : dec_ok mX6_add.2.1 tX6_add = true := by decide +kernel
set_option maxHeartbeats 4000000 in
theorem c_X6_add {I : Wd} {N : Nat} {k c v m : Int32} (hN : I 42 0 = nI N) (hN2 : N < 30) : Cal SyC mX6_add 0 [.ref 42, .int k, .int c, .int v, .int m] I (some (.int (nI N))) (ist (ist (ist (ist (ist (ist I 43 N k) 44 N c) 45 N v) 46 N m) 48 N (-1)) 42 0 (nI (N + 1))) := by
  refine Cal.of (by decide) (Nat.le_of_ble_eq_true rfl) ?_
  show Bd _ _ _ _ [(0, _), (1, _), (2, _), (3, _), (4, _)] _ _ _ _
  refine b_aload_n (pc := 0) (i := 0) (dd dtX6_add 0 rfl) rfl rfl ?_
  refine b_geti (pc := 1) (dd dtX6_add 1 rfl) fwX6_9 pC_42 ?_
  refine b_bipush (pc := 4) (v := 30) (dd dtX6_add 2 rfl) (by decide) ?_
  rw [hN]
  refine b_icmp_lt (pc := 6) (tgt := 12) (dd dtX6_add 3 rfl) (by decide) (fun h6 => ?_) (fun h6 => ?_)
  · refine b_aload_n (pc := 12) (i := 0) (dd dtX6_add 6 rfl) rfl rfl ?_
    refine b_geta (pc := 13) (dd dtX6_add 7 rfl) fwX6_15 pC_42 rC_42_1 ?_
    refine b_aload_n (pc := 16) (i := 0) (dd dtX6_add 8 rfl) rfl rfl ?_
    refine b_geti (pc := 17) (dd dtX6_add 9 rfl) fwX6_9 pC_42 ?_
    refine b_iload_n (pc := 20) (i := 1) (dd dtX6_add 10 rfl) rfl rfl ?_
    refine b_iast (pc := 21) (dd dtX6_add 11 rfl) pC_43 (by simp only [ist_eq, ist_ne, upd_eq, upd_ne, ne_eq, Nat.reduceEqDiff, not_false_eq_true, hN]; exact vpn rfl hN2 (by decide)) ?_
    refine b_aload_n (pc := 22) (i := 0) (dd dtX6_add 12 rfl) rfl rfl ?_
    refine b_geta (pc := 23) (dd dtX6_add 13 rfl) fwX6_19 pC_42 rC_42_2 ?_
    refine b_aload_n (pc := 26) (i := 0) (dd dtX6_add 14 rfl) rfl rfl ?_
    refine b_geti (pc := 27) (dd dtX6_add 15 rfl) fwX6_9 pC_42 ?_
    refine b_iload_n (pc := 30) (i := 2) (dd dtX6_add 16 rfl) rfl rfl ?_
    refine b_iast (pc := 31) (dd dtX6_add 17 rfl) pC_44 (by simp only [ist_eq, ist_ne, upd_eq, upd_ne, ne_eq, Nat.reduceEqDiff, not_false_eq_true, hN]; exact vpn rfl hN2 (by decide)) ?_
    refine b_aload_n (pc := 32) (i := 0) (dd dtX6_add 18 rfl) rfl rfl ?_
    refine b_geta (pc := 33) (dd dtX6_add 19 rfl) fwX6_22 pC_42 rC_42_3 ?_
    refine b_aload_n (pc := 36) (i := 0) (dd dtX6_add 20 rfl) rfl rfl ?_
    refine b_geti (pc := 37) (dd dtX6_add 21 rfl) fwX6_9 pC_42 ?_
    refine b_iload_n (pc := 40) (i := 3) (dd dtX6_add 22 rfl) rfl rfl ?_
    refine b_iast (pc := 41) (dd dtX6_add 23 rfl) pC_45 (by simp only [ist_eq, ist_ne, upd_eq, upd_ne, ne_eq, Nat.reduceEqDiff, not_false_eq_true, hN]; exact vpn rfl hN2 (by decide)) ?_
    refine b_aload_n (pc := 42) (i := 0) (dd dtX6_add 24 rfl) rfl rfl ?_
    refine b_geta (pc := 43) (dd dtX6_add 25 rfl) fwX6_25 pC_42 rC_42_4 ?_
    refine b_aload_n (pc := 46) (i := 0) (dd dtX6_add 26 rfl) rfl rfl ?_
    refine b_geti (pc := 47) (dd dtX6_add 27 rfl) fwX6_9 pC_42 ?_
    refine b_iload (pc := 50) (i := 4) (dd dtX6_add 28 rfl) rfl ?_
    refine b_iast (pc := 52) (dd dtX6_add 29 rfl) pC_46 (by simp only [ist_eq, ist_ne, upd_eq, upd_ne, ne_eq, Nat.reduceEqDiff, not_false_eq_true, hN]; exact vpn rfl hN2 (by decide)) ?_
    refine b_aload_n (pc := 53) (i := 0) (dd dtX6_add 30 rfl) rfl rfl ?_
    refine b_geta (pc := 54) (dd dtX6_add 31 rfl) fwX6_31 pC_42 rC_42_6 ?_
    refine b_aload_n (pc := 57) (i := 0) (dd dtX6_add 32 rfl) rfl rfl ?_
    refine b_geti (pc := 58) (dd dtX6_add 33 rfl) fwX6_9 pC_42 ?_
    refine b_icm1 (pc := 61) (dd dtX6_add 34 rfl) ?_
    refine b_iast (pc := 62) (dd dtX6_add 35 rfl) pC_48 (by simp only [ist_eq, ist_ne, upd_eq, upd_ne, ne_eq, Nat.reduceEqDiff, not_false_eq_true, hN]; exact vpn rfl hN2 (by decide)) ?_
    refine b_aload_n (pc := 63) (i := 0) (dd dtX6_add 36 rfl) rfl rfl ?_
    refine b_dup (pc := 64) (dd dtX6_add 37 rfl) rfl ?_
    refine b_geti (pc := 65) (dd dtX6_add 38 rfl) fwX6_9 pC_42 ?_
    refine b_ic1 (pc := 68) (dd dtX6_add 39 rfl) ?_
    refine b_iadd (pc := 69) (dd dtX6_add 40 rfl) ?_
    refine b_puti (pc := 70) (dd dtX6_add 41 rfl) fwX6_9 pC_42 ?_
    refine b_aload_n (pc := 73) (i := 0) (dd dtX6_add 42 rfl) rfl rfl ?_
    refine b_geti (pc := 74) (dd dtX6_add 43 rfl) fwX6_9 pC_42 ?_
    refine b_ic1 (pc := 77) (dd dtX6_add 44 rfl) ?_
    refine b_isub (pc := 78) (dd dtX6_add 45 rfl) ?_
    refine b_eq (b_iret (dd dtX6_add 46 rfl) rfl) ?_ ?_
    · simp [ist_eq, ist_ne, upd_eq, upd_ne, hN, nI_1, nI_pred]
    · simp [ist_eq, ist_ne, upd_eq, upd_ne, hN, nI_1, nI_clamp (show N < 2 ^ 31 by omega)]
  · exact absurd (nI_lt hN2 (by decide)) h6
end
section
/-! what the calls answer: the same words for both sides -/
theorem nIm1 {z : Nat} (h : z < 2 ^ 30) : (nI z - 1).toInt = (z : Int) - 1 := by
  have := pk_sub_toInt (a := z) (b := 1) h (by decide)
  simpa [nI] using this
theorem vpm {x : Int32} {z n : Nat} (h : inR x 0 (nI z - 1)) (hz : z ≤ n) (hn : n < 2 ^ 30) : vp_in x n := by
  refine vpc h ?_
  rw [nIm1 (by omega)]
  omega
/-- of a row with z things a place is there -/
theorem inR_n {x : Int32} {z : Nat} (h : inR x 0 (nI z - 1)) (hz : z < 2 ^ 30) : ∃ j : Nat, x = nI j ∧ j < z ∧ x.toNatClampNeg = j := by
  obtain ⟨j, e, h1, h2⟩ := nI_rng h
  rw [nIm1 hz] at h1
  exact ⟨j, e, by omega, by rw [e]; exact nI_clamp h2⟩
theorem nlt_lit {N : Nat} {k : Nat} (hN : N < 2 ^ 31) (hk : k < 2 ^ 31) : nI N < nI k ↔ N < k := nI_ltI hN hk
def vHouse (fell : Nat → Int32) (N : Nat) (c w p : Int32) : Int32 := if inR c 0 63 then (if inR w 1 99999 ∧ inR p 0 99 then (if fell c.toNatClampNeg < 0 then (if N < 14 then nI N else -4) else -3) else -2) else -1
abbrev okHouse (fell : Nat → Int32) (N : Nat) (c w p : Int32) : Prop := inR c 0 63 ∧ (inR w 1 99999 ∧ inR p 0 99) ∧ fell c.toNatClampNeg < 0 ∧ N < 14
def vGround (fell hollow : Nat → Int32) (c r h : Int32) : Int32 := if inR c 0 63 then (if inR r 0 3 ∧ inR h 0 200 then (if fell c.toNatClampNeg < 0 then hollow c.toNatClampNeg else -3) else -2) else -1
abbrev okGround (fell : Nat → Int32) (c r h : Int32) : Prop := inR c 0 63 ∧ (inR r 0 3 ∧ inR h 0 200) ∧ fell c.toNatClampNeg < 0
def vPump (P : Nat) (c : Int32) : Int32 := if inR c 0 63 then (if P < 6 then nI P else -4) else -1
abbrev okPump (P : Nat) (c : Int32) : Prop := inR c 0 63 ∧ P < 6
def vPumping (f : Nat → Int32) (np p n : Int32) : Int32 := if inR p 0 (np - 1) then (if inR n 0 50 then f p.toNatClampNeg else -2) else -1
abbrev okPumping (np p n : Int32) : Prop := inR p 0 (np - 1) ∧ inR n 0 50
def vRain (was n : Int32) : Int32 := if inR n 0 50 then was else -2
def vMove (gone away ppl : Nat → Int32) (nh h : Int32) : Int32 := if inR h 0 (nh - 1) then (if gone h.toNatClampNeg < 0 ∧ away h.toNatClampNeg = 0 then ppl h.toNatClampNeg else -3) else -1
abbrev okMove (gone away : Nat → Int32) (nh h : Int32) : Prop := inR h 0 (nh - 1) ∧ gone h.toNatClampNeg < 0 ∧ away h.toNatClampNeg = 0
def vSign (K : Nat) (k c v : Int32) : Int32 := if inR c 0 63 then (if inR k 0 5 ∧ inR v 0 99 then (if K < 30 then nI K else -4) else -2) else -1
abbrev okSign (K : Nat) (k c v : Int32) : Prop := inR c 0 63 ∧ (inR k 0 5 ∧ inR v 0 99) ∧ K < 30
def vMend (mm vl : Nat → Int32) (nk k v : Int32) : Int32 := if inR k 0 (nk - 1) then (if inR v 0 99 then (if mm k.toNatClampNeg < 0 then vl k.toNatClampNeg else -3) else -2) else -1
abbrev okMend (mm : Nat → Int32) (nk k v : Int32) : Prop := inR k 0 (nk - 1) ∧ inR v 0 99 ∧ mm k.toNatClampNeg < 0
def vSignTold (kind cell mon val : Nat → Int32) (nk month k what known : Int32) : Int32 := if inR k 0 (nk - 1) then (if inR known 0 month then (if what = 0 then kind k.toNatClampNeg else if what = 1 then cell k.toNatClampNeg else if what = 2 then mon k.toNatClampNeg else if what = 3 then val k.toNatClampNeg else if what = 4 then sLeast (kind k.toNatClampNeg) (val k.toNatClampNeg) else if what = 5 then sMost (kind k.toNatClampNeg) (val k.toNatClampNeg) else if what = 6 then sTrust (kind k.toNatClampNeg) else -2) else -2) else -1
def vSpan (kind cell mon val : Nat → Int32) (K : Nat) (month c known what : Int32) : Int32 := if inR c 0 63 then (if inR known 0 month ∧ inR what 0 3 then (if sHi kind cell mon val c known (if what < 2 then 0 else 8) K < sLo kind cell mon val c known (if what < 2 then 0 else 8) K then -3 else if what - what / 2 * 2 = 0 then sLo kind cell mon val c known (if what < 2 then 0 else 8) K else sHi kind cell mon val c known (if what < 2 then 0 else 8) K) else -2) else -1
def vLost (L : Nat) (c m : Int32) : Int32 := if inR c 0 63 then (if inR m 1 400 then (if L < 8 then nI L else -4) else -2) else -1
abbrev okLost (L : Nat) (c m : Int32) : Prop := inR c 0 63 ∧ inR m 1 400 ∧ L < 8
def vFitTold (best least great : Nat → Int32) (nc rivals i what : Int32) : Int32 := if inR i 0 (nc - 1) then (if inR what 0 3 then (if rivals = 0 then -3 else if what = 0 then best i.toNatClampNeg else if what = 1 then least i.toNatClampNeg else if what = 2 then great i.toNatClampNeg else rivals) else -2) else -1
def vForce (nt rule t : Int32) : Int32 := if inR t 0 (nt - 1) then rule else -2
def vWarn (fell : Nat → Int32) (Wn : Nat) (c : Int32) : Int32 := if inR c 0 63 then (if fell c.toNatClampNeg < 0 then (if Wn < 30 then nI Wn else -4) else -3) else -1
abbrev okWarn (fell : Nat → Int32) (Wn : Nat) (c : Int32) : Prop := inR c 0 63 ∧ fell c.toNatClampNeg < 0 ∧ Wn < 30
def vCellTold (rock water fell hollow : Nat → Int32) (ppl c what : Int32) : Int32 := if inR c 0 63 then (if what = 0 then rock c.toNatClampNeg else if what = 1 then water c.toNatClampNeg else if what = 2 then fell c.toNatClampNeg else if what = 3 then (if fell c.toNatClampNeg < 0 then -3 else hollow c.toNatClampNeg) else if what = 4 then ppl else -7) else -5
def vHouseTold (hc w p gone away : Nat → Int32) (nh h what : Int32) : Int32 := if inR h 0 (nh - 1) then (if what = 0 then hc h.toNatClampNeg else if what = 1 then w h.toNatClampNeg else if what = 2 then p h.toNatClampNeg else if what = 3 then gone h.toNatClampNeg else if what = 4 then (if away h.toNatClampNeg = 0 then 0 else 1) else -7) else -5
def vCount (month signs houses pumps fallen harm warns texts rule fed losts rain what : Int32) : Int32 := if what = 0 then month else if what = 1 then signs else if what = 2 then houses else if what = 3 then pumps else if what = 4 then fallen else if what = 5 then harm else if what = 6 then warns else if what = 7 then texts else if what = 8 then rule else if what = 9 then fed else if what = 10 then losts else if what = 11 then rain else -2
def tX9_isFull : List (Nat × Instr × Nat) := [(0, .aload_n 0, 1), (1, .getfield 9, 3), (4, .aload_n 0, 1), (5, .getfield 21, 3), (8, .arraylength, 1), (9, .if_icmp .lt 7, 3), (12, .iconst 1, 1), (13, .goto 4, 3), (16, .iconst 0, 1), (17, .ireturn, 1)]
theorem dtX9_isFull : dec_ok mX9_isFull.2.1 tX9_isFull = true := by decide +kernel
set_option maxHeartbeats 4000000 in
theorem c_X9_isFull_49 {I : Wd} {N : Nat} (hN : I 49 0 = nI N) (hN2 : N ≤ 8) : Cal SyC mX9_isFull 0 [.ref 49] I (some (.int (bi (¬ N < 8)))) I := by
  refine Cal.of (by decide) (Nat.le_of_ble_eq_true rfl) ?_
  show Bd _ _ _ _ [(0, _)] _ _ _ _
  refine b_aload_n (pc := 0) (i := 0) (dd dtX9_isFull 0 rfl) rfl rfl ?_
  refine b_geti (pc := 1) (dd dtX9_isFull 1 rfl) fwX9_9 pC_49 ?_
  refine b_aload_n (pc := 4) (i := 0) (dd dtX9_isFull 2 rfl) rfl rfl ?_
  refine b_geta (pc := 5) (dd dtX9_isFull 3 rfl) fwX9_21 pC_49 rC_49_1 ?_
  refine b_alen (pc := 8) (v := 8) (dd dtX9_isFull 4 rfl) pC_50 (by decide) (by decide) ?_
  rw [hN]
  refine b_icmp_lt (pc := 9) (tgt := 16) (dd dtX9_isFull 5 rfl) (by decide) (fun h9 => ?_) (fun h9 => ?_)
  · refine b_ic0 (pc := 16) (dd dtX9_isFull 8 rfl) ?_
    refine b_eq (b_zret (dd dtX9_isFull 9 rfl) rfl (by first | rfl | exact nar_bi)) ?_ ?_
    · rw [show (8 : Int32) = nI 8 from rfl, nlt_lit (by omega) (by decide)] at h9; simp [bi, *]
    · rfl
  · refine b_ic1 (pc := 12) (dd dtX9_isFull 6 rfl) ?_
    refine b_goto (pc := 13) (tgt := 17) (dd dtX9_isFull 7 rfl) (by decide) ?_
    refine b_eq (b_zret (dd dtX9_isFull 9 rfl) rfl (by first | rfl | exact nar_bi)) ?_ ?_
    · rw [show (8 : Int32) = nI 8 from rfl, nlt_lit (by omega) (by decide)] at h9; simp [bi, *]
    · rfl
def tX9_add : List (Nat × Instr × Nat) := [(0, .aload_n 0, 1), (1, .invokevirtual 31, 3), (4, .ifCond .eq 6, 3), (7, .bipush (-4), 2), (9, .ireturn, 1), (10, .aload_n 0, 1), (11, .getfield 21, 3), (14, .aload_n 0, 1), (15, .getfield 9, 3), (18, .iload_n 1, 1), (19, .iastore, 1), (20, .aload_n 0, 1), (21, .getfield 25, 3), (24, .aload_n 0, 1), (25, .getfield 9, 3), (28, .iload_n 2, 1), (29, .iastore, 1), (30, .aload_n 0, 1), (31, .getfield 28, 3), (34, .aload_n 0, 1), (35, .getfield 9, 3), (38, .iload_n 3, 1), (39, .iastore, 1), (40, .aload_n 0, 1), (41, .dup, 1), (42, .getfield 9, 3), (45, .iconst 1, 1), (46, .iadd, 1), (47, .putfield 9, 3), (50, .aload_n 0, 1), (51, .getfield 9, 3), (54, .iconst 1, 1), (55, .isub, 1), (56, .ireturn, 1)]
theorem dtX9_add : dec_ok mX9_add.2.1 tX9_add = true := by decide +kernel
set_option maxHeartbeats 4000000 in
theorem c_X9_add_49 {I : Wd} {N : Nat} {c u m : Int32} (hN : I 49 0 = nI N) (hN2 : N < 8) : Cal SyC mX9_add 1 [.ref 49, .int c, .int u, .int m] I (some (.int (nI N))) (ist (ist (ist (ist I 50 N c) 51 N u) 52 N m) 49 0 (nI (N + 1))) := by
  refine Cal.of (by decide) (Nat.le_of_ble_eq_true rfl) ?_
  show Bd _ _ _ _ [(0, _), (1, _), (2, _), (3, _)] _ _ _ _
  refine b_aload_n (pc := 0) (i := 0) (dd dtX9_add 0 rfl) rfl rfl ?_
  refine b_invV (pc := 1) (dd dtX9_add 1 rfl) mlX9_31 mvX9_isFull miX9_isFull (c_X9_isFull_49 hN (by omega)) oC_49 rfl rfl (by decide) (Nat.le_of_ble_eq_true rfl) ?_
  refine b_ifn_eq (pc := 4) (tgt := 10) (dd dtX9_add 2 rfl) (by decide) (fun h4 => ?_) (fun h4 => ?_)
  · refine b_aload_n (pc := 10) (i := 0) (dd dtX9_add 5 rfl) rfl rfl ?_
    refine b_geta (pc := 11) (dd dtX9_add 6 rfl) fwX9_21 pC_49 rC_49_1 ?_
    refine b_aload_n (pc := 14) (i := 0) (dd dtX9_add 7 rfl) rfl rfl ?_
    refine b_geti (pc := 15) (dd dtX9_add 8 rfl) fwX9_9 pC_49 ?_
    refine b_iload_n (pc := 18) (i := 1) (dd dtX9_add 9 rfl) rfl rfl ?_
    refine b_iast (pc := 19) (dd dtX9_add 10 rfl) pC_50 (by simp only [ist_eq, ist_ne, upd_eq, upd_ne, ne_eq, Nat.reduceEqDiff, not_false_eq_true, hN]; exact vpn rfl hN2 (by decide)) ?_
    refine b_aload_n (pc := 20) (i := 0) (dd dtX9_add 11 rfl) rfl rfl ?_
    refine b_geta (pc := 21) (dd dtX9_add 12 rfl) fwX9_25 pC_49 rC_49_2 ?_
    refine b_aload_n (pc := 24) (i := 0) (dd dtX9_add 13 rfl) rfl rfl ?_
    refine b_geti (pc := 25) (dd dtX9_add 14 rfl) fwX9_9 pC_49 ?_
    refine b_iload_n (pc := 28) (i := 2) (dd dtX9_add 15 rfl) rfl rfl ?_
    refine b_iast (pc := 29) (dd dtX9_add 16 rfl) pC_51 (by simp only [ist_eq, ist_ne, upd_eq, upd_ne, ne_eq, Nat.reduceEqDiff, not_false_eq_true, hN]; exact vpn rfl hN2 (by decide)) ?_
    refine b_aload_n (pc := 30) (i := 0) (dd dtX9_add 17 rfl) rfl rfl ?_
    refine b_geta (pc := 31) (dd dtX9_add 18 rfl) fwX9_28 pC_49 rC_49_3 ?_
    refine b_aload_n (pc := 34) (i := 0) (dd dtX9_add 19 rfl) rfl rfl ?_
    refine b_geti (pc := 35) (dd dtX9_add 20 rfl) fwX9_9 pC_49 ?_
    refine b_iload_n (pc := 38) (i := 3) (dd dtX9_add 21 rfl) rfl rfl ?_
    refine b_iast (pc := 39) (dd dtX9_add 22 rfl) pC_52 (by simp only [ist_eq, ist_ne, upd_eq, upd_ne, ne_eq, Nat.reduceEqDiff, not_false_eq_true, hN]; exact vpn rfl hN2 (by decide)) ?_
    refine b_aload_n (pc := 40) (i := 0) (dd dtX9_add 23 rfl) rfl rfl ?_
    refine b_dup (pc := 41) (dd dtX9_add 24 rfl) rfl ?_
    refine b_geti (pc := 42) (dd dtX9_add 25 rfl) fwX9_9 pC_49 ?_
    refine b_ic1 (pc := 45) (dd dtX9_add 26 rfl) ?_
    refine b_iadd (pc := 46) (dd dtX9_add 27 rfl) ?_
    refine b_puti (pc := 47) (dd dtX9_add 28 rfl) fwX9_9 pC_49 ?_
    refine b_aload_n (pc := 50) (i := 0) (dd dtX9_add 29 rfl) rfl rfl ?_
    refine b_geti (pc := 51) (dd dtX9_add 30 rfl) fwX9_9 pC_49 ?_
    refine b_ic1 (pc := 54) (dd dtX9_add 31 rfl) ?_
    refine b_isub (pc := 55) (dd dtX9_add 32 rfl) ?_
    refine b_eq (b_iret (dd dtX9_add 33 rfl) rfl) ?_ ?_
    · simp [ist_eq, ist_ne, upd_eq, upd_ne, hN, nI_1, nI_pred]
    · simp [ist_eq, ist_ne, upd_eq, upd_ne, hN, nI_1, nI_clamp (show N < 2 ^ 31 by omega)]
  · exact absurd hN2 h4
set_option maxHeartbeats 4000000 in
theorem c_X9_isFull_53 {I : Wd} {N : Nat} (hN : I 53 0 = nI N) (hN2 : N ≤ 30) : Cal SyC mX9_isFull 0 [.ref 53] I (some (.int (bi (¬ N < 30)))) I := by
  refine Cal.of (by decide) (Nat.le_of_ble_eq_true rfl) ?_
  show Bd _ _ _ _ [(0, _)] _ _ _ _
  refine b_aload_n (pc := 0) (i := 0) (dd dtX9_isFull 0 rfl) rfl rfl ?_
  refine b_geti (pc := 1) (dd dtX9_isFull 1 rfl) fwX9_9 pC_53 ?_
  refine b_aload_n (pc := 4) (i := 0) (dd dtX9_isFull 2 rfl) rfl rfl ?_
  refine b_geta (pc := 5) (dd dtX9_isFull 3 rfl) fwX9_21 pC_53 rC_53_1 ?_
  refine b_alen (pc := 8) (v := 30) (dd dtX9_isFull 4 rfl) pC_54 (by decide) (by decide) ?_
  rw [hN]
  refine b_icmp_lt (pc := 9) (tgt := 16) (dd dtX9_isFull 5 rfl) (by decide) (fun h9 => ?_) (fun h9 => ?_)
  · refine b_ic0 (pc := 16) (dd dtX9_isFull 8 rfl) ?_
    refine b_eq (b_zret (dd dtX9_isFull 9 rfl) rfl (by first | rfl | exact nar_bi)) ?_ ?_
    · rw [show (30 : Int32) = nI 30 from rfl, nlt_lit (by omega) (by decide)] at h9; simp [bi, *]
    · rfl
  · refine b_ic1 (pc := 12) (dd dtX9_isFull 6 rfl) ?_
    refine b_goto (pc := 13) (tgt := 17) (dd dtX9_isFull 7 rfl) (by decide) ?_
    refine b_eq (b_zret (dd dtX9_isFull 9 rfl) rfl (by first | rfl | exact nar_bi)) ?_ ?_
    · rw [show (30 : Int32) = nI 30 from rfl, nlt_lit (by omega) (by decide)] at h9; simp [bi, *]
    · rfl
set_option maxHeartbeats 4000000 in
theorem c_X9_add_53 {I : Wd} {N : Nat} {c u m : Int32} (hN : I 53 0 = nI N) (hN2 : N < 30) : Cal SyC mX9_add 1 [.ref 53, .int c, .int u, .int m] I (some (.int (nI N))) (ist (ist (ist (ist I 54 N c) 55 N u) 56 N m) 53 0 (nI (N + 1))) := by
  refine Cal.of (by decide) (Nat.le_of_ble_eq_true rfl) ?_
  show Bd _ _ _ _ [(0, _), (1, _), (2, _), (3, _)] _ _ _ _
  refine b_aload_n (pc := 0) (i := 0) (dd dtX9_add 0 rfl) rfl rfl ?_
  refine b_invV (pc := 1) (dd dtX9_add 1 rfl) mlX9_31 mvX9_isFull miX9_isFull (c_X9_isFull_53 hN (by omega)) oC_53 rfl rfl (by decide) (Nat.le_of_ble_eq_true rfl) ?_
  refine b_ifn_eq (pc := 4) (tgt := 10) (dd dtX9_add 2 rfl) (by decide) (fun h4 => ?_) (fun h4 => ?_)
  · refine b_aload_n (pc := 10) (i := 0) (dd dtX9_add 5 rfl) rfl rfl ?_
    refine b_geta (pc := 11) (dd dtX9_add 6 rfl) fwX9_21 pC_53 rC_53_1 ?_
    refine b_aload_n (pc := 14) (i := 0) (dd dtX9_add 7 rfl) rfl rfl ?_
    refine b_geti (pc := 15) (dd dtX9_add 8 rfl) fwX9_9 pC_53 ?_
    refine b_iload_n (pc := 18) (i := 1) (dd dtX9_add 9 rfl) rfl rfl ?_
    refine b_iast (pc := 19) (dd dtX9_add 10 rfl) pC_54 (by simp only [ist_eq, ist_ne, upd_eq, upd_ne, ne_eq, Nat.reduceEqDiff, not_false_eq_true, hN]; exact vpn rfl hN2 (by decide)) ?_
    refine b_aload_n (pc := 20) (i := 0) (dd dtX9_add 11 rfl) rfl rfl ?_
    refine b_geta (pc := 21) (dd dtX9_add 12 rfl) fwX9_25 pC_53 rC_53_2 ?_
    refine b_aload_n (pc := 24) (i := 0) (dd dtX9_add 13 rfl) rfl rfl ?_
    refine b_geti (pc := 25) (dd dtX9_add 14 rfl) fwX9_9 pC_53 ?_
    refine b_iload_n (pc := 28) (i := 2) (dd dtX9_add 15 rfl) rfl rfl ?_
    refine b_iast (pc := 29) (dd dtX9_add 16 rfl) pC_55 (by simp only [ist_eq, ist_ne, upd_eq, upd_ne, ne_eq, Nat.reduceEqDiff, not_false_eq_true, hN]; exact vpn rfl hN2 (by decide)) ?_
    refine b_aload_n (pc := 30) (i := 0) (dd dtX9_add 17 rfl) rfl rfl ?_
    refine b_geta (pc := 31) (dd dtX9_add 18 rfl) fwX9_28 pC_53 rC_53_3 ?_
    refine b_aload_n (pc := 34) (i := 0) (dd dtX9_add 19 rfl) rfl rfl ?_
    refine b_geti (pc := 35) (dd dtX9_add 20 rfl) fwX9_9 pC_53 ?_
    refine b_iload_n (pc := 38) (i := 3) (dd dtX9_add 21 rfl) rfl rfl ?_
    refine b_iast (pc := 39) (dd dtX9_add 22 rfl) pC_56 (by simp only [ist_eq, ist_ne, upd_eq, upd_ne, ne_eq, Nat.reduceEqDiff, not_false_eq_true, hN]; exact vpn rfl hN2 (by decide)) ?_
    refine b_aload_n (pc := 40) (i := 0) (dd dtX9_add 23 rfl) rfl rfl ?_
    refine b_dup (pc := 41) (dd dtX9_add 24 rfl) rfl ?_
    refine b_geti (pc := 42) (dd dtX9_add 25 rfl) fwX9_9 pC_53 ?_
    refine b_ic1 (pc := 45) (dd dtX9_add 26 rfl) ?_
    refine b_iadd (pc := 46) (dd dtX9_add 27 rfl) ?_
    refine b_puti (pc := 47) (dd dtX9_add 28 rfl) fwX9_9 pC_53 ?_
    refine b_aload_n (pc := 50) (i := 0) (dd dtX9_add 29 rfl) rfl rfl ?_
    refine b_geti (pc := 51) (dd dtX9_add 30 rfl) fwX9_9 pC_53 ?_
    refine b_ic1 (pc := 54) (dd dtX9_add 31 rfl) ?_
    refine b_isub (pc := 55) (dd dtX9_add 32 rfl) ?_
    refine b_eq (b_iret (dd dtX9_add 33 rfl) rfl) ?_ ?_
    · simp [ist_eq, ist_ne, upd_eq, upd_ne, hN, nI_1, nI_pred]
    · simp [ist_eq, ist_ne, upd_eq, upd_ne, hN, nI_1, nI_clamp (show N < 2 ^ 31 by omega)]
  · exact absurd hN2 h4
theorem c_X2_hasFallen_6 {I : Wd} {c : Int32} (hc : vp_in c 64) : Cal SyC mX2_hasFallen 0 [.ref 6, .int c] I (some (.int (bi (¬ I 10 c.toNatClampNeg < 0)))) I := c_X2_hasFallen (g := 6) (Or.inl rfl) hc
theorem c_X2_peopleAt_6 {I : Wd} {N : Nat} {c : Int32} (hN : I 1 0 = nI N) (hN2 : N ≤ 14) : Cal SyC mX2_peopleAt 0 [.ref 6, .int c] I (some (.int (sPeople (I 2) (I 14) (I 15) (I 4) c N))) I := c_X2_peopleAt (g := 6) (Or.inl rfl) hN hN2
def tX10_ground : List (Nat × Instr × Nat) := [(0, .iload_n 1, 1), (1, .invokestatic 93, 3), (4, .ifCond .ne 5, 3), (7, .iconst (-1), 1), (8, .ireturn, 1), (9, .iload_n 2, 1), (10, .iconst 0, 1), (11, .iconst 3, 1), (12, .invokestatic 97, 3), (15, .ifCond .eq 14, 3), (18, .iload_n 3, 1), (19, .iconst 0, 1), (20, .sipush 200, 3), (23, .invokestatic 97, 3), (26, .ifCond .ne 6, 3), (29, .bipush (-2), 2), (31, .ireturn, 1), (32, .aload_n 0, 1), (33, .getfield 21, 3), (36, .iload_n 1, 1), (37, .invokevirtual 101, 3), (40, .ifCond .eq 6, 3), (43, .bipush (-3), 2), (45, .ireturn, 1), (46, .aload_n 0, 1), (47, .getfield 21, 3), (50, .getfield 104, 3), (53, .iload_n 1, 1), (54, .iaload, 1), (55, .istore 4, 2), (57, .aload_n 0, 1), (58, .getfield 21, 3), (61, .getfield 107, 3), (64, .iload_n 1, 1), (65, .iload_n 2, 1), (66, .iastore, 1), (67, .aload_n 0, 1), (68, .getfield 21, 3), (71, .getfield 104, 3), (74, .iload_n 1, 1), (75, .iload_n 3, 1), (76, .iastore, 1), (77, .iload 4, 2), (79, .ireturn, 1)]
theorem dtX10_ground : dec_ok mX10_ground.2.1 tX10_ground = true := by decide +kernel
set_option maxHeartbeats 4000000 in
theorem c_X10_ground {I : Wd} {c r h : Int32} : Cal SyC mX10_ground 2 [.ref 0, .int c, .int r, .int h] I (some (.int (vGround (I 10) (I 8) c r h))) (if okGround (I 10) c r h then ist (ist I 7 c.toNatClampNeg r) 8 c.toNatClampNeg h else I) := by
  refine Cal.of (by decide) (Nat.le_of_ble_eq_true rfl) ?_
  show Bd _ _ _ _ [(0, _), (1, _), (2, _), (3, _)] _ _ _ _
  refine b_iload_n (pc := 0) (i := 1) (dd dtX10_ground 0 rfl) rfl rfl ?_
  refine b_invS (pc := 1) (dd dtX10_ground 1 rfl) mlX10_93 mvX10_isCell msX10_isCell (c_X10_isCell) rfl rfl (by decide) (Nat.le_of_ble_eq_true rfl) ?_
  refine b_ifb_ne (pc := 4) (tgt := 9) (dd dtX10_ground 2 rfl) (by decide) (fun h4 => ?_) (fun h4 => ?_)
  · refine b_iload_n (pc := 9) (i := 2) (dd dtX10_ground 5 rfl) rfl rfl ?_
    refine b_ic0 (pc := 10) (dd dtX10_ground 6 rfl) ?_
    refine b_ic3 (pc := 11) (dd dtX10_ground 7 rfl) ?_
    refine b_invS (pc := 12) (dd dtX10_ground 8 rfl) mlX10_97 mvX10_within msX10_within (c_X10_within) rfl rfl (by decide) (Nat.le_of_ble_eq_true rfl) ?_
    refine b_ifb_eq (pc := 15) (tgt := 29) (dd dtX10_ground 9 rfl) (by decide) (fun h15 => ?_) (fun h15 => ?_)
    · refine b_bipush (pc := 29) (v := -2) (dd dtX10_ground 15 rfl) (by decide) ?_
      refine b_eq (b_iret (dd dtX10_ground 16 rfl) rfl) ?_ ?_
      · (try clear hN); simp [inR, vGround, okGround, -Int32.not_lt, -Int32.not_le, *]
      · (try clear hN); simp [inR, vGround, okGround, -Int32.not_lt, -Int32.not_le, *]
    · refine b_iload_n (pc := 18) (i := 3) (dd dtX10_ground 10 rfl) rfl rfl ?_
      refine b_ic0 (pc := 19) (dd dtX10_ground 11 rfl) ?_
      refine b_sipush (pc := 20) (v := 200) (dd dtX10_ground 12 rfl) (by decide) ?_
      refine b_invS (pc := 23) (dd dtX10_ground 13 rfl) mlX10_97 mvX10_within msX10_within (c_X10_within) rfl rfl (by decide) (Nat.le_of_ble_eq_true rfl) ?_
      refine b_ifb_ne (pc := 26) (tgt := 32) (dd dtX10_ground 14 rfl) (by decide) (fun h26 => ?_) (fun h26 => ?_)
      · refine b_aload_n (pc := 32) (i := 0) (dd dtX10_ground 17 rfl) rfl rfl ?_
        refine b_geta (pc := 33) (dd dtX10_ground 18 rfl) fwX10_21 pC_0 rC_0_1 ?_
        refine b_iload_n (pc := 36) (i := 1) (dd dtX10_ground 19 rfl) rfl rfl ?_
        refine b_invV (pc := 37) (dd dtX10_ground 20 rfl) mlX10_101 mvX2_hasFallen miX2_hasFallen (c_X2_hasFallen_6 (vpc (by assumption) (by decide))) oC_6 rfl rfl (by decide) (Nat.le_of_ble_eq_true rfl) ?_
        refine b_ifn_eq (pc := 40) (tgt := 46) (dd dtX10_ground 21 rfl) (by decide) (fun h40 => ?_) (fun h40 => ?_)
        · refine b_aload_n (pc := 46) (i := 0) (dd dtX10_ground 24 rfl) rfl rfl ?_
          refine b_geta (pc := 47) (dd dtX10_ground 25 rfl) fwX10_21 pC_0 rC_0_1 ?_
          refine b_geta (pc := 50) (dd dtX10_ground 26 rfl) fwX10_104 pC_6 rC_6_6 ?_
          refine b_iload_n (pc := 53) (i := 1) (dd dtX10_ground 27 rfl) rfl rfl ?_
          refine b_iald (pc := 54) (dd dtX10_ground 28 rfl) pC_8 (vpc (by assumption) (by decide)) ?_
          refine b_istore (pc := 55) (i := 4) (lv' := [(4, _), (0, _), (1, _), (2, _), (3, _)]) (dd dtX10_ground 29 rfl) (Nat.le_of_ble_eq_true rfl) rfl ?_
          refine b_aload_n (pc := 57) (i := 0) (dd dtX10_ground 30 rfl) rfl rfl ?_
          refine b_geta (pc := 58) (dd dtX10_ground 31 rfl) fwX10_21 pC_0 rC_0_1 ?_
          refine b_geta (pc := 61) (dd dtX10_ground 32 rfl) fwX10_107 pC_6 rC_6_5 ?_
          refine b_iload_n (pc := 64) (i := 1) (dd dtX10_ground 33 rfl) rfl rfl ?_
          refine b_iload_n (pc := 65) (i := 2) (dd dtX10_ground 34 rfl) rfl rfl ?_
          refine b_iast (pc := 66) (dd dtX10_ground 35 rfl) pC_7 (vpc (by assumption) (by decide)) ?_
          refine b_aload_n (pc := 67) (i := 0) (dd dtX10_ground 36 rfl) rfl rfl ?_
          refine b_geta (pc := 68) (dd dtX10_ground 37 rfl) fwX10_21 pC_0 rC_0_1 ?_
          refine b_geta (pc := 71) (dd dtX10_ground 38 rfl) fwX10_104 pC_6 rC_6_6 ?_
          refine b_iload_n (pc := 74) (i := 1) (dd dtX10_ground 39 rfl) rfl rfl ?_
          refine b_iload_n (pc := 75) (i := 3) (dd dtX10_ground 40 rfl) rfl rfl ?_
          refine b_iast (pc := 76) (dd dtX10_ground 41 rfl) pC_8 (vpc (by assumption) (by decide)) ?_
          refine b_iload (pc := 77) (i := 4) (dd dtX10_ground 42 rfl) rfl ?_
          refine b_eq (b_iret (dd dtX10_ground 43 rfl) rfl) ?_ ?_
          · (try clear hN); simp [inR, vGround, okGround, -Int32.not_lt, -Int32.not_le, *]
          · (try clear hN); simp [inR, vGround, okGround, -Int32.not_lt, -Int32.not_le, *]
        · refine b_bipush (pc := 43) (v := -3) (dd dtX10_ground 22 rfl) (by decide) ?_
          refine b_eq (b_iret (dd dtX10_ground 23 rfl) rfl) ?_ ?_
          · (try clear hN); simp [inR, vGround, okGround, -Int32.not_lt, -Int32.not_le, *]
          · (try clear hN); simp [inR, vGround, okGround, -Int32.not_lt, -Int32.not_le, *]
      · refine b_bipush (pc := 29) (v := -2) (dd dtX10_ground 15 rfl) (by decide) ?_
        refine b_eq (b_iret (dd dtX10_ground 16 rfl) rfl) ?_ ?_
        · (try clear hN); simp [inR, vGround, okGround, -Int32.not_lt, -Int32.not_le, *]
        · (try clear hN); simp [inR, vGround, okGround, -Int32.not_lt, -Int32.not_le, *]
  · refine b_icm1 (pc := 7) (dd dtX10_ground 3 rfl) ?_
    refine b_eq (b_iret (dd dtX10_ground 4 rfl) rfl) ?_ ?_
    · (try clear hN); simp [inR, vGround, okGround, -Int32.not_lt, -Int32.not_le, *]
    · (try clear hN); simp [inR, vGround, okGround, -Int32.not_lt, -Int32.not_le, *]
def tX10_house : List (Nat × Instr × Nat) := [(0, .iload_n 1, 1), (1, .invokestatic 93, 3), (4, .ifCond .ne 5, 3), (7, .iconst (-1), 1), (8, .ireturn, 1), (9, .iload_n 2, 1), (10, .iconst 1, 1), (11, .ldc 110, 2), (13, .invokestatic 97, 3), (16, .ifCond .eq 13, 3), (19, .iload_n 3, 1), (20, .iconst 0, 1), (21, .bipush 99, 2), (23, .invokestatic 97, 3), (26, .ifCond .ne 6, 3), (29, .bipush (-2), 2), (31, .ireturn, 1), (32, .aload_n 0, 1), (33, .getfield 21, 3), (36, .iload_n 1, 1), (37, .invokevirtual 101, 3), (40, .ifCond .eq 6, 3), (43, .bipush (-3), 2), (45, .ireturn, 1), (46, .aload_n 0, 1), (47, .getfield 10, 3), (50, .getfield 111, 3), (53, .bipush 14, 2), (55, .if_icmp .lt 6, 3), (58, .bipush (-4), 2), (60, .ireturn, 1), (61, .aload_n 0, 1), (62, .getfield 10, 3), (65, .iload_n 1, 1), (66, .iload_n 2, 1), (67, .iload_n 3, 1), (68, .invokevirtual 114, 3), (71, .ireturn, 1)]
theorem dtX10_house : dec_ok mX10_house.2.1 tX10_house = true := by decide +kernel
set_option maxHeartbeats 4000000 in
theorem c_X10_house {I : Wd} {N : Nat} {c w p : Int32} (hN : I 1 0 = nI N) (hN2 : N ≤ 14) : Cal SyC mX10_house 2 [.ref 0, .int c, .int w, .int p] I (some (.int (vHouse (I 10) N c w p))) (if okHouse (I 10) N c w p then (ist (ist (ist (ist I 2 N c) 3 N w) 4 N p) 1 0 (nI (N + 1))) else I) := by
  refine Cal.of (by decide) (Nat.le_of_ble_eq_true rfl) ?_
  show Bd _ _ _ _ [(0, _), (1, _), (2, _), (3, _)] _ _ _ _
  refine b_iload_n (pc := 0) (i := 1) (dd dtX10_house 0 rfl) rfl rfl ?_
  refine b_invS (pc := 1) (dd dtX10_house 1 rfl) mlX10_93 mvX10_isCell msX10_isCell (c_X10_isCell) rfl rfl (by decide) (Nat.le_of_ble_eq_true rfl) ?_
  refine b_ifb_ne (pc := 4) (tgt := 9) (dd dtX10_house 2 rfl) (by decide) (fun h4 => ?_) (fun h4 => ?_)
  · refine b_iload_n (pc := 9) (i := 2) (dd dtX10_house 5 rfl) rfl rfl ?_
    refine b_ic1 (pc := 10) (dd dtX10_house 6 rfl) ?_
    refine b_ldc (pc := 11) (dd dtX10_house 7 rfl) kcX10_110 ?_
    refine b_invS (pc := 13) (dd dtX10_house 8 rfl) mlX10_97 mvX10_within msX10_within (c_X10_within) rfl rfl (by decide) (Nat.le_of_ble_eq_true rfl) ?_
    refine b_ifb_eq (pc := 16) (tgt := 29) (dd dtX10_house 9 rfl) (by decide) (fun h16 => ?_) (fun h16 => ?_)
    · refine b_bipush (pc := 29) (v := -2) (dd dtX10_house 15 rfl) (by decide) ?_
      refine b_eq (b_iret (dd dtX10_house 16 rfl) rfl) ?_ ?_
      · (try clear hN); simp [inR, vHouse, okHouse, -Int32.not_lt, -Int32.not_le, *]
      · (try clear hN); simp [inR, vHouse, okHouse, -Int32.not_lt, -Int32.not_le, *]
    · refine b_iload_n (pc := 19) (i := 3) (dd dtX10_house 10 rfl) rfl rfl ?_
      refine b_ic0 (pc := 20) (dd dtX10_house 11 rfl) ?_
      refine b_bipush (pc := 21) (v := 99) (dd dtX10_house 12 rfl) (by decide) ?_
      refine b_invS (pc := 23) (dd dtX10_house 13 rfl) mlX10_97 mvX10_within msX10_within (c_X10_within) rfl rfl (by decide) (Nat.le_of_ble_eq_true rfl) ?_
      refine b_ifb_ne (pc := 26) (tgt := 32) (dd dtX10_house 14 rfl) (by decide) (fun h26 => ?_) (fun h26 => ?_)
      · refine b_aload_n (pc := 32) (i := 0) (dd dtX10_house 17 rfl) rfl rfl ?_
        refine b_geta (pc := 33) (dd dtX10_house 18 rfl) fwX10_21 pC_0 rC_0_1 ?_
        refine b_iload_n (pc := 36) (i := 1) (dd dtX10_house 19 rfl) rfl rfl ?_
        refine b_invV (pc := 37) (dd dtX10_house 20 rfl) mlX10_101 mvX2_hasFallen miX2_hasFallen (c_X2_hasFallen_6 (vpc (by assumption) (by decide))) oC_6 rfl rfl (by decide) (Nat.le_of_ble_eq_true rfl) ?_
        refine b_ifn_eq (pc := 40) (tgt := 46) (dd dtX10_house 21 rfl) (by decide) (fun h40 => ?_) (fun h40 => ?_)
        · refine b_aload_n (pc := 46) (i := 0) (dd dtX10_house 24 rfl) rfl rfl ?_
          refine b_geta (pc := 47) (dd dtX10_house 25 rfl) fwX10_10 pC_0 rC_0_0 ?_
          refine b_geti (pc := 50) (dd dtX10_house 26 rfl) fwX10_111 pC_1 ?_
          refine b_bipush (pc := 53) (v := 14) (dd dtX10_house 27 rfl) (by decide) ?_
          rw [hN]
          refine b_icmp_lt (pc := 55) (tgt := 61) (dd dtX10_house 28 rfl) (by decide) (fun h55 => ?_) (fun h55 => ?_)
          · rw [show (14 : Int32) = nI 14 from rfl, nlt_lit (by omega) (by decide)] at h55
            refine b_aload_n (pc := 61) (i := 0) (dd dtX10_house 31 rfl) rfl rfl ?_
            refine b_geta (pc := 62) (dd dtX10_house 32 rfl) fwX10_10 pC_0 rC_0_0 ?_
            refine b_iload_n (pc := 65) (i := 1) (dd dtX10_house 33 rfl) rfl rfl ?_
            refine b_iload_n (pc := 66) (i := 2) (dd dtX10_house 34 rfl) rfl rfl ?_
            refine b_iload_n (pc := 67) (i := 3) (dd dtX10_house 35 rfl) rfl rfl ?_
            refine b_invV (pc := 68) (dd dtX10_house 36 rfl) mlX10_114 mvX0_addHouse miX0_addHouse (c_X0_addHouse hN (by assumption)) oC_1 rfl rfl (by decide) (Nat.le_of_ble_eq_true rfl) ?_
            refine b_eq (b_iret (dd dtX10_house 37 rfl) rfl) ?_ ?_
            · (try clear hN); simp [inR, vHouse, okHouse, -Int32.not_lt, -Int32.not_le, *]
            · (try clear hN); simp [inR, vHouse, okHouse, -Int32.not_lt, -Int32.not_le, *]
          · rw [show (14 : Int32) = nI 14 from rfl, nlt_lit (by omega) (by decide)] at h55
            refine b_bipush (pc := 58) (v := -4) (dd dtX10_house 29 rfl) (by decide) ?_
            refine b_eq (b_iret (dd dtX10_house 30 rfl) rfl) ?_ ?_
            · (try clear hN); simp [inR, vHouse, okHouse, -Int32.not_lt, -Int32.not_le, *]
            · (try clear hN); simp [inR, vHouse, okHouse, -Int32.not_lt, -Int32.not_le, *]
        · refine b_bipush (pc := 43) (v := -3) (dd dtX10_house 22 rfl) (by decide) ?_
          refine b_eq (b_iret (dd dtX10_house 23 rfl) rfl) ?_ ?_
          · (try clear hN); simp [inR, vHouse, okHouse, -Int32.not_lt, -Int32.not_le, *]
          · (try clear hN); simp [inR, vHouse, okHouse, -Int32.not_lt, -Int32.not_le, *]
      · refine b_bipush (pc := 29) (v := -2) (dd dtX10_house 15 rfl) (by decide) ?_
        refine b_eq (b_iret (dd dtX10_house 16 rfl) rfl) ?_ ?_
        · (try clear hN); simp [inR, vHouse, okHouse, -Int32.not_lt, -Int32.not_le, *]
        · (try clear hN); simp [inR, vHouse, okHouse, -Int32.not_lt, -Int32.not_le, *]
  · refine b_icm1 (pc := 7) (dd dtX10_house 3 rfl) ?_
    refine b_eq (b_iret (dd dtX10_house 4 rfl) rfl) ?_ ?_
    · (try clear hN); simp [inR, vHouse, okHouse, -Int32.not_lt, -Int32.not_le, *]
    · (try clear hN); simp [inR, vHouse, okHouse, -Int32.not_lt, -Int32.not_le, *]
def tX10_pump : List (Nat × Instr × Nat) := [(0, .iload_n 1, 1), (1, .invokestatic 93, 3), (4, .ifCond .ne 5, 3), (7, .iconst (-1), 1), (8, .ireturn, 1), (9, .aload_n 0, 1), (10, .getfield 10, 3), (13, .getfield 118, 3), (16, .bipush 6, 2), (18, .if_icmp .lt 6, 3), (21, .bipush (-4), 2), (23, .ireturn, 1), (24, .aload_n 0, 1), (25, .getfield 10, 3), (28, .iload_n 1, 1), (29, .invokevirtual 121, 3), (32, .ireturn, 1)]
theorem dtX10_pump : dec_ok mX10_pump.2.1 tX10_pump = true := by decide +kernel
set_option maxHeartbeats 4000000 in
theorem c_X10_pump {I : Wd} {P : Nat} {c : Int32} (hN : I 1 1 = nI P) (hN2 : P ≤ 6) : Cal SyC mX10_pump 2 [.ref 0, .int c] I (some (.int (vPump P c))) (if okPump P c then (ist (ist I 5 P c) 1 1 (nI (P + 1))) else I) := by
  refine Cal.of (by decide) (Nat.le_of_ble_eq_true rfl) ?_
  show Bd _ _ _ _ [(0, _), (1, _)] _ _ _ _
  refine b_iload_n (pc := 0) (i := 1) (dd dtX10_pump 0 rfl) rfl rfl ?_
  refine b_invS (pc := 1) (dd dtX10_pump 1 rfl) mlX10_93 mvX10_isCell msX10_isCell (c_X10_isCell) rfl rfl (by decide) (Nat.le_of_ble_eq_true rfl) ?_
  refine b_ifb_ne (pc := 4) (tgt := 9) (dd dtX10_pump 2 rfl) (by decide) (fun h4 => ?_) (fun h4 => ?_)
  · refine b_aload_n (pc := 9) (i := 0) (dd dtX10_pump 5 rfl) rfl rfl ?_
    refine b_geta (pc := 10) (dd dtX10_pump 6 rfl) fwX10_10 pC_0 rC_0_0 ?_
    refine b_geti (pc := 13) (dd dtX10_pump 7 rfl) fwX10_118 pC_1 ?_
    refine b_bipush (pc := 16) (v := 6) (dd dtX10_pump 8 rfl) (by decide) ?_
    rw [hN]
    refine b_icmp_lt (pc := 18) (tgt := 24) (dd dtX10_pump 9 rfl) (by decide) (fun h18 => ?_) (fun h18 => ?_)
    · rw [show (6 : Int32) = nI 6 from rfl, nlt_lit (by omega) (by decide)] at h18
      refine b_aload_n (pc := 24) (i := 0) (dd dtX10_pump 12 rfl) rfl rfl ?_
      refine b_geta (pc := 25) (dd dtX10_pump 13 rfl) fwX10_10 pC_0 rC_0_0 ?_
      refine b_iload_n (pc := 28) (i := 1) (dd dtX10_pump 14 rfl) rfl rfl ?_
      refine b_invV (pc := 29) (dd dtX10_pump 15 rfl) mlX10_121 mvX0_addPump miX0_addPump (c_X0_addPump hN (by assumption)) oC_1 rfl rfl (by decide) (Nat.le_of_ble_eq_true rfl) ?_
      refine b_eq (b_iret (dd dtX10_pump 16 rfl) rfl) ?_ ?_
      · (try clear hN); simp [inR, vPump, okPump, -Int32.not_lt, -Int32.not_le, *]
      · (try clear hN); simp [inR, vPump, okPump, -Int32.not_lt, -Int32.not_le, *]
    · rw [show (6 : Int32) = nI 6 from rfl, nlt_lit (by omega) (by decide)] at h18
      refine b_bipush (pc := 21) (v := -4) (dd dtX10_pump 10 rfl) (by decide) ?_
      refine b_eq (b_iret (dd dtX10_pump 11 rfl) rfl) ?_ ?_
      · (try clear hN); simp [inR, vPump, okPump, -Int32.not_lt, -Int32.not_le, *]
      · (try clear hN); simp [inR, vPump, okPump, -Int32.not_lt, -Int32.not_le, *]
  · refine b_icm1 (pc := 7) (dd dtX10_pump 3 rfl) ?_
    refine b_eq (b_iret (dd dtX10_pump 4 rfl) rfl) ?_ ?_
    · (try clear hN); simp [inR, vPump, okPump, -Int32.not_lt, -Int32.not_le, *]
    · (try clear hN); simp [inR, vPump, okPump, -Int32.not_lt, -Int32.not_le, *]
def tX10_pumping : List (Nat × Instr × Nat) := [(0, .iload_n 1, 1), (1, .iconst 0, 1), (2, .aload_n 0, 1), (3, .getfield 10, 3), (6, .getfield 118, 3), (9, .iconst 1, 1), (10, .isub, 1), (11, .invokestatic 97, 3), (14, .ifCond .ne 5, 3), (17, .iconst (-1), 1), (18, .ireturn, 1), (19, .iload_n 2, 1), (20, .iconst 0, 1), (21, .bipush 50, 2), (23, .invokestatic 97, 3), (26, .ifCond .ne 6, 3), (29, .bipush (-2), 2), (31, .ireturn, 1), (32, .aload_n 0, 1), (33, .getfield 21, 3), (36, .getfield 125, 3), (39, .iload_n 1, 1), (40, .iaload, 1), (41, .istore_n 3, 1), (42, .aload_n 0, 1), (43, .getfield 21, 3), (46, .getfield 125, 3), (49, .iload_n 1, 1), (50, .iload_n 2, 1), (51, .iastore, 1), (52, .iload_n 3, 1), (53, .ireturn, 1)]
theorem dtX10_pumping : dec_ok mX10_pumping.2.1 tX10_pumping = true := by decide +kernel
set_option maxHeartbeats 4000000 in
theorem c_X10_pumping {I : Wd} {P : Nat} {p n : Int32} (hN : I 1 1 = nI P) (hN2 : P ≤ 6) : Cal SyC mX10_pumping 1 [.ref 0, .int p, .int n] I (some (.int (vPumping (I 13) (I 1 1) p n))) (if okPumping (I 1 1) p n then ist I 13 p.toNatClampNeg n else I) := by
  refine Cal.of (by decide) (Nat.le_of_ble_eq_true rfl) ?_
  show Bd _ _ _ _ [(0, _), (1, _), (2, _)] _ _ _ _
  refine b_iload_n (pc := 0) (i := 1) (dd dtX10_pumping 0 rfl) rfl rfl ?_
  refine b_ic0 (pc := 1) (dd dtX10_pumping 1 rfl) ?_
  refine b_aload_n (pc := 2) (i := 0) (dd dtX10_pumping 2 rfl) rfl rfl ?_
  refine b_geta (pc := 3) (dd dtX10_pumping 3 rfl) fwX10_10 pC_0 rC_0_0 ?_
  refine b_geti (pc := 6) (dd dtX10_pumping 4 rfl) fwX10_118 pC_1 ?_
  refine b_ic1 (pc := 9) (dd dtX10_pumping 5 rfl) ?_
  refine b_isub (pc := 10) (dd dtX10_pumping 6 rfl) ?_
  refine b_invS (pc := 11) (dd dtX10_pumping 7 rfl) mlX10_97 mvX10_within msX10_within (c_X10_within) rfl rfl (by decide) (Nat.le_of_ble_eq_true rfl) ?_
  refine b_ifb_ne (pc := 14) (tgt := 19) (dd dtX10_pumping 8 rfl) (by decide) (fun h14 => ?_) (fun h14 => ?_)
  · refine b_iload_n (pc := 19) (i := 2) (dd dtX10_pumping 11 rfl) rfl rfl ?_
    refine b_ic0 (pc := 20) (dd dtX10_pumping 12 rfl) ?_
    refine b_bipush (pc := 21) (v := 50) (dd dtX10_pumping 13 rfl) (by decide) ?_
    refine b_invS (pc := 23) (dd dtX10_pumping 14 rfl) mlX10_97 mvX10_within msX10_within (c_X10_within) rfl rfl (by decide) (Nat.le_of_ble_eq_true rfl) ?_
    refine b_ifb_ne (pc := 26) (tgt := 32) (dd dtX10_pumping 15 rfl) (by decide) (fun h26 => ?_) (fun h26 => ?_)
    · refine b_aload_n (pc := 32) (i := 0) (dd dtX10_pumping 18 rfl) rfl rfl ?_
      refine b_geta (pc := 33) (dd dtX10_pumping 19 rfl) fwX10_21 pC_0 rC_0_1 ?_
      refine b_geta (pc := 36) (dd dtX10_pumping 20 rfl) fwX10_125 pC_6 rC_6_11 ?_
      refine b_iload_n (pc := 39) (i := 1) (dd dtX10_pumping 21 rfl) rfl rfl ?_
      refine b_iald (pc := 40) (dd dtX10_pumping 22 rfl) pC_13 (vpm (by rw [hN] at h14; exact h14) hN2 (by decide)) ?_
      refine b_istore_n (pc := 41) (i := 3) (lv' := [(3, _), (0, _), (1, _), (2, _)]) (dd dtX10_pumping 23 rfl) rfl (Nat.le_of_ble_eq_true rfl) rfl ?_
      refine b_aload_n (pc := 42) (i := 0) (dd dtX10_pumping 24 rfl) rfl rfl ?_
      refine b_geta (pc := 43) (dd dtX10_pumping 25 rfl) fwX10_21 pC_0 rC_0_1 ?_
      refine b_geta (pc := 46) (dd dtX10_pumping 26 rfl) fwX10_125 pC_6 rC_6_11 ?_
      refine b_iload_n (pc := 49) (i := 1) (dd dtX10_pumping 27 rfl) rfl rfl ?_
      refine b_iload_n (pc := 50) (i := 2) (dd dtX10_pumping 28 rfl) rfl rfl ?_
      refine b_iast (pc := 51) (dd dtX10_pumping 29 rfl) pC_13 (vpm (by rw [hN] at h14; exact h14) hN2 (by decide)) ?_
      refine b_iload_n (pc := 52) (i := 3) (dd dtX10_pumping 30 rfl) rfl rfl ?_
      refine b_eq (b_iret (dd dtX10_pumping 31 rfl) rfl) ?_ ?_
      · (try clear hN); simp [inR, vPumping, okPumping, -Int32.not_lt, -Int32.not_le, *]
      · (try clear hN); simp [inR, vPumping, okPumping, -Int32.not_lt, -Int32.not_le, *]
    · refine b_bipush (pc := 29) (v := -2) (dd dtX10_pumping 16 rfl) (by decide) ?_
      refine b_eq (b_iret (dd dtX10_pumping 17 rfl) rfl) ?_ ?_
      · (try clear hN); simp [inR, vPumping, okPumping, -Int32.not_lt, -Int32.not_le, *]
      · (try clear hN); simp [inR, vPumping, okPumping, -Int32.not_lt, -Int32.not_le, *]
  · refine b_icm1 (pc := 17) (dd dtX10_pumping 9 rfl) ?_
    refine b_eq (b_iret (dd dtX10_pumping 10 rfl) rfl) ?_ ?_
    · (try clear hN); simp [inR, vPumping, okPumping, -Int32.not_lt, -Int32.not_le, *]
    · (try clear hN); simp [inR, vPumping, okPumping, -Int32.not_lt, -Int32.not_le, *]
def tX10_rain : List (Nat × Instr × Nat) := [(0, .iload_n 1, 1), (1, .iconst 0, 1), (2, .bipush 50, 2), (4, .invokestatic 97, 3), (7, .ifCond .ne 6, 3), (10, .bipush (-2), 2), (12, .ireturn, 1), (13, .aload_n 0, 1), (14, .getfield 21, 3), (17, .getfield 128, 3), (20, .istore_n 2, 1), (21, .aload_n 0, 1), (22, .getfield 21, 3), (25, .iload_n 1, 1), (26, .putfield 128, 3), (29, .iload_n 2, 1), (30, .ireturn, 1)]
theorem dtX10_rain : dec_ok mX10_rain.2.1 tX10_rain = true := by decide +kernel
set_option maxHeartbeats 4000000 in
theorem c_X10_rain {I : Wd} {n : Int32} : Cal SyC mX10_rain 1 [.ref 0, .int n] I (some (.int (vRain (I 6 2) n))) (if inR n 0 50 then ist I 6 2 n else I) := by
  refine Cal.of (by decide) (Nat.le_of_ble_eq_true rfl) ?_
  show Bd _ _ _ _ [(0, _), (1, _)] _ _ _ _
  refine b_iload_n (pc := 0) (i := 1) (dd dtX10_rain 0 rfl) rfl rfl ?_
  refine b_ic0 (pc := 1) (dd dtX10_rain 1 rfl) ?_
  refine b_bipush (pc := 2) (v := 50) (dd dtX10_rain 2 rfl) (by decide) ?_
  refine b_invS (pc := 4) (dd dtX10_rain 3 rfl) mlX10_97 mvX10_within msX10_within (c_X10_within) rfl rfl (by decide) (Nat.le_of_ble_eq_true rfl) ?_
  refine b_ifb_ne (pc := 7) (tgt := 13) (dd dtX10_rain 4 rfl) (by decide) (fun h7 => ?_) (fun h7 => ?_)
  · refine b_aload_n (pc := 13) (i := 0) (dd dtX10_rain 7 rfl) rfl rfl ?_
    refine b_geta (pc := 14) (dd dtX10_rain 8 rfl) fwX10_21 pC_0 rC_0_1 ?_
    refine b_geti (pc := 17) (dd dtX10_rain 9 rfl) fwX10_128 pC_6 ?_
    refine b_istore_n (pc := 20) (i := 2) (lv' := [(2, _), (0, _), (1, _)]) (dd dtX10_rain 10 rfl) rfl (Nat.le_of_ble_eq_true rfl) rfl ?_
    refine b_aload_n (pc := 21) (i := 0) (dd dtX10_rain 11 rfl) rfl rfl ?_
    refine b_geta (pc := 22) (dd dtX10_rain 12 rfl) fwX10_21 pC_0 rC_0_1 ?_
    refine b_iload_n (pc := 25) (i := 1) (dd dtX10_rain 13 rfl) rfl rfl ?_
    refine b_puti (pc := 26) (dd dtX10_rain 14 rfl) fwX10_128 pC_6 ?_
    refine b_iload_n (pc := 29) (i := 2) (dd dtX10_rain 15 rfl) rfl rfl ?_
    refine b_eq (b_iret (dd dtX10_rain 16 rfl) rfl) ?_ ?_
    · (try clear hN); simp [inR, vRain, -Int32.not_lt, -Int32.not_le, *]
    · (try clear hN); simp [inR, vRain, -Int32.not_lt, -Int32.not_le, *]
  · refine b_bipush (pc := 10) (v := -2) (dd dtX10_rain 5 rfl) (by decide) ?_
    refine b_eq (b_iret (dd dtX10_rain 6 rfl) rfl) ?_ ?_
    · (try clear hN); simp [inR, vRain, -Int32.not_lt, -Int32.not_le, *]
    · (try clear hN); simp [inR, vRain, -Int32.not_lt, -Int32.not_le, *]
def tX10_move : List (Nat × Instr × Nat) := [(0, .aload_n 0, 1), (1, .iload_n 1, 1), (2, .invokevirtual 131, 3), (5, .ifCond .ne 5, 3), (8, .iconst (-1), 1), (9, .ireturn, 1), (10, .aload_n 0, 1), (11, .getfield 21, 3), (14, .getfield 134, 3), (17, .iload_n 1, 1), (18, .iaload, 1), (19, .ifCond .ge 15, 3), (22, .aload_n 0, 1), (23, .getfield 21, 3), (26, .getfield 137, 3), (29, .iload_n 1, 1), (30, .baload, 1), (31, .ifCond .eq 6, 3), (34, .bipush (-3), 2), (36, .ireturn, 1), (37, .aload_n 0, 1), (38, .getfield 21, 3), (41, .getfield 137, 3), (44, .iload_n 1, 1), (45, .iconst 1, 1), (46, .bastore, 1), (47, .aload_n 0, 1), (48, .getfield 10, 3), (51, .getfield 141, 3), (54, .iload_n 1, 1), (55, .iaload, 1), (56, .ireturn, 1)]
theorem dtX10_move : dec_ok mX10_move.2.1 tX10_move = true := by decide +kernel
set_option maxHeartbeats 4000000 in
theorem c_X10_move {I : Wd} {N : Nat} {h : Int32} (hN : I 1 0 = nI N) (hN2 : N ≤ 14) : Cal SyC mX10_move 2 [.ref 0, .int h] I (some (.int (vMove (I 14) (I 15) (I 4) (I 1 0) h))) (if okMove (I 14) (I 15) (I 1 0) h then ist I 15 h.toNatClampNeg 1 else I) := by
  refine Cal.of (by decide) (Nat.le_of_ble_eq_true rfl) ?_
  show Bd _ _ _ _ [(0, _), (1, _)] _ _ _ _
  refine b_aload_n (pc := 0) (i := 0) (dd dtX10_move 0 rfl) rfl rfl ?_
  refine b_iload_n (pc := 1) (i := 1) (dd dtX10_move 1 rfl) rfl rfl ?_
  refine b_invV (pc := 2) (dd dtX10_move 2 rfl) mlX10_131 mvX10_isHouse miX10_isHouse (c_X10_isHouse) oC_0 rfl rfl (by decide) (Nat.le_of_ble_eq_true rfl) ?_
  refine b_ifb_ne (pc := 5) (tgt := 10) (dd dtX10_move 3 rfl) (by decide) (fun h5 => ?_) (fun h5 => ?_)
  · refine b_aload_n (pc := 10) (i := 0) (dd dtX10_move 6 rfl) rfl rfl ?_
    refine b_geta (pc := 11) (dd dtX10_move 7 rfl) fwX10_21 pC_0 rC_0_1 ?_
    refine b_geta (pc := 14) (dd dtX10_move 8 rfl) fwX10_134 pC_6 rC_6_12 ?_
    refine b_iload_n (pc := 17) (i := 1) (dd dtX10_move 9 rfl) rfl rfl ?_
    refine b_iald (pc := 18) (dd dtX10_move 10 rfl) pC_14 (vpm (by rw [hN] at h5; exact h5) hN2 (by decide)) ?_
    refine b_ifL_ge (pc := 19) (tgt := 34) (dd dtX10_move 11 rfl) (by decide) (fun h19 => ?_) (fun h19 => ?_)
    · refine b_bipush (pc := 34) (v := -3) (dd dtX10_move 18 rfl) (by decide) ?_
      refine b_eq (b_iret (dd dtX10_move 19 rfl) rfl) ?_ ?_
      · (try clear hN); simp [inR, vMove, okMove, ist_eq, ist_ne, -Int32.not_lt, -Int32.not_le, *]
      · (try clear hN); simp [inR, vMove, okMove, ist_eq, ist_ne, -Int32.not_lt, -Int32.not_le, *]
    · refine b_aload_n (pc := 22) (i := 0) (dd dtX10_move 12 rfl) rfl rfl ?_
      refine b_geta (pc := 23) (dd dtX10_move 13 rfl) fwX10_21 pC_0 rC_0_1 ?_
      refine b_geta (pc := 26) (dd dtX10_move 14 rfl) fwX10_137 pC_6 rC_6_13 ?_
      refine b_iload_n (pc := 29) (i := 1) (dd dtX10_move 15 rfl) rfl rfl ?_
      refine b_zald (pc := 30) (dd dtX10_move 16 rfl) pC_15 (vpm (by rw [hN] at h5; exact h5) hN2 (by decide)) ?_
      refine b_if_eq (pc := 31) (tgt := 37) (dd dtX10_move 17 rfl) (by decide) (fun h31 => ?_) (fun h31 => ?_)
      · refine b_aload_n (pc := 37) (i := 0) (dd dtX10_move 20 rfl) rfl rfl ?_
        refine b_geta (pc := 38) (dd dtX10_move 21 rfl) fwX10_21 pC_0 rC_0_1 ?_
        refine b_geta (pc := 41) (dd dtX10_move 22 rfl) fwX10_137 pC_6 rC_6_13 ?_
        refine b_iload_n (pc := 44) (i := 1) (dd dtX10_move 23 rfl) rfl rfl ?_
        refine b_ic1 (pc := 45) (dd dtX10_move 24 rfl) ?_
        refine b_zast (pc := 46) (dd dtX10_move 25 rfl) pC_15 (vpm (by rw [hN] at h5; exact h5) hN2 (by decide)) (rfl) ?_
        refine b_aload_n (pc := 47) (i := 0) (dd dtX10_move 26 rfl) rfl rfl ?_
        refine b_geta (pc := 48) (dd dtX10_move 27 rfl) fwX10_10 pC_0 rC_0_0 ?_
        refine b_geta (pc := 51) (dd dtX10_move 28 rfl) fwX10_141 pC_1 rC_1_4 ?_
        refine b_iload_n (pc := 54) (i := 1) (dd dtX10_move 29 rfl) rfl rfl ?_
        refine b_iald (pc := 55) (dd dtX10_move 30 rfl) pC_4 (vpm (by rw [hN] at h5; exact h5) hN2 (by decide)) ?_
        refine b_eq (b_iret (dd dtX10_move 31 rfl) rfl) ?_ ?_
        · (try clear hN); simp [inR, vMove, okMove, ist_eq, ist_ne, -Int32.not_lt, -Int32.not_le, *]
        · (try clear hN); simp [inR, vMove, okMove, ist_eq, ist_ne, -Int32.not_lt, -Int32.not_le, *]
      · refine b_bipush (pc := 34) (v := -3) (dd dtX10_move 18 rfl) (by decide) ?_
        refine b_eq (b_iret (dd dtX10_move 19 rfl) rfl) ?_ ?_
        · (try clear hN); simp [inR, vMove, okMove, ist_eq, ist_ne, -Int32.not_lt, -Int32.not_le, *]
        · (try clear hN); simp [inR, vMove, okMove, ist_eq, ist_ne, -Int32.not_lt, -Int32.not_le, *]
  · refine b_icm1 (pc := 8) (dd dtX10_move 4 rfl) ?_
    refine b_eq (b_iret (dd dtX10_move 5 rfl) rfl) ?_ ?_
    · (try clear hN); simp [inR, vMove, okMove, ist_eq, ist_ne, -Int32.not_lt, -Int32.not_le, *]
    · (try clear hN); simp [inR, vMove, okMove, ist_eq, ist_ne, -Int32.not_lt, -Int32.not_le, *]
def tX10_sign : List (Nat × Instr × Nat) := [(0, .iload_n 2, 1), (1, .invokestatic 93, 3), (4, .ifCond .ne 5, 3), (7, .iconst (-1), 1), (8, .ireturn, 1), (9, .iload_n 1, 1), (10, .iconst 0, 1), (11, .iconst 5, 1), (12, .invokestatic 97, 3), (15, .ifCond .eq 13, 3), (18, .iload_n 3, 1), (19, .iconst 0, 1), (20, .bipush 99, 2), (22, .invokestatic 97, 3), (25, .ifCond .ne 6, 3), (28, .bipush (-2), 2), (30, .ireturn, 1), (31, .aload_n 0, 1), (32, .getfield 38, 3), (35, .getfield 153, 3), (38, .bipush 30, 2), (40, .if_icmp .lt 6, 3), (43, .bipush (-4), 2), (45, .ireturn, 1), (46, .aload_n 0, 1), (47, .getfield 38, 3), (50, .iload_n 1, 1), (51, .iload_n 2, 1), (52, .iload_n 3, 1), (53, .aload_n 0, 1), (54, .getfield 21, 3), (57, .getfield 150, 3), (60, .invokevirtual 156, 3), (63, .ireturn, 1)]
theorem dtX10_sign : dec_ok mX10_sign.2.1 tX10_sign = true := by decide +kernel
set_option maxHeartbeats 4000000 in
theorem c_X10_sign {I : Wd} {K : Nat} {k c v : Int32} (hN : I 42 0 = nI K) (hN2 : K ≤ 30) : Cal SyC mX10_sign 2 [.ref 0, .int k, .int c, .int v] I (some (.int (vSign K k c v))) (if okSign K k c v then (ist (ist (ist (ist (ist (ist I 43 K k) 44 K c) 45 K v) 46 K (I 6 1)) 48 K (-1)) 42 0 (nI (K + 1))) else I) := by
  refine Cal.of (by decide) (Nat.le_of_ble_eq_true rfl) ?_
  show Bd _ _ _ _ [(0, _), (1, _), (2, _), (3, _)] _ _ _ _
  refine b_iload_n (pc := 0) (i := 2) (dd dtX10_sign 0 rfl) rfl rfl ?_
  refine b_invS (pc := 1) (dd dtX10_sign 1 rfl) mlX10_93 mvX10_isCell msX10_isCell (c_X10_isCell) rfl rfl (by decide) (Nat.le_of_ble_eq_true rfl) ?_
  refine b_ifb_ne (pc := 4) (tgt := 9) (dd dtX10_sign 2 rfl) (by decide) (fun h4 => ?_) (fun h4 => ?_)
  · refine b_iload_n (pc := 9) (i := 1) (dd dtX10_sign 5 rfl) rfl rfl ?_
    refine b_ic0 (pc := 10) (dd dtX10_sign 6 rfl) ?_
    refine b_ic5 (pc := 11) (dd dtX10_sign 7 rfl) ?_
    refine b_invS (pc := 12) (dd dtX10_sign 8 rfl) mlX10_97 mvX10_within msX10_within (c_X10_within) rfl rfl (by decide) (Nat.le_of_ble_eq_true rfl) ?_
    refine b_ifb_eq (pc := 15) (tgt := 28) (dd dtX10_sign 9 rfl) (by decide) (fun h15 => ?_) (fun h15 => ?_)
    · refine b_bipush (pc := 28) (v := -2) (dd dtX10_sign 15 rfl) (by decide) ?_
      refine b_eq (b_iret (dd dtX10_sign 16 rfl) rfl) ?_ ?_
      · (try clear hN); simp [inR, vSign, okSign, -Int32.not_lt, -Int32.not_le, *]
      · (try clear hN); simp [inR, vSign, okSign, -Int32.not_lt, -Int32.not_le, *]
    · refine b_iload_n (pc := 18) (i := 3) (dd dtX10_sign 10 rfl) rfl rfl ?_
      refine b_ic0 (pc := 19) (dd dtX10_sign 11 rfl) ?_
      refine b_bipush (pc := 20) (v := 99) (dd dtX10_sign 12 rfl) (by decide) ?_
      refine b_invS (pc := 22) (dd dtX10_sign 13 rfl) mlX10_97 mvX10_within msX10_within (c_X10_within) rfl rfl (by decide) (Nat.le_of_ble_eq_true rfl) ?_
      refine b_ifb_ne (pc := 25) (tgt := 31) (dd dtX10_sign 14 rfl) (by decide) (fun h25 => ?_) (fun h25 => ?_)
      · refine b_aload_n (pc := 31) (i := 0) (dd dtX10_sign 17 rfl) rfl rfl ?_
        refine b_geta (pc := 32) (dd dtX10_sign 18 rfl) fwX10_38 pC_0 rC_0_5 ?_
        refine b_geti (pc := 35) (dd dtX10_sign 19 rfl) fwX10_153 pC_42 ?_
        refine b_bipush (pc := 38) (v := 30) (dd dtX10_sign 20 rfl) (by decide) ?_
        rw [hN]
        refine b_icmp_lt (pc := 40) (tgt := 46) (dd dtX10_sign 21 rfl) (by decide) (fun h40 => ?_) (fun h40 => ?_)
        · rw [show (30 : Int32) = nI 30 from rfl, nlt_lit (by omega) (by decide)] at h40
          refine b_aload_n (pc := 46) (i := 0) (dd dtX10_sign 24 rfl) rfl rfl ?_
          refine b_geta (pc := 47) (dd dtX10_sign 25 rfl) fwX10_38 pC_0 rC_0_5 ?_
          refine b_iload_n (pc := 50) (i := 1) (dd dtX10_sign 26 rfl) rfl rfl ?_
          refine b_iload_n (pc := 51) (i := 2) (dd dtX10_sign 27 rfl) rfl rfl ?_
          refine b_iload_n (pc := 52) (i := 3) (dd dtX10_sign 28 rfl) rfl rfl ?_
          refine b_aload_n (pc := 53) (i := 0) (dd dtX10_sign 29 rfl) rfl rfl ?_
          refine b_geta (pc := 54) (dd dtX10_sign 30 rfl) fwX10_21 pC_0 rC_0_1 ?_
          refine b_geti (pc := 57) (dd dtX10_sign 31 rfl) fwX10_150 pC_6 ?_
          refine b_invV (pc := 60) (dd dtX10_sign 32 rfl) mlX10_156 mvX6_add miX6_add (c_X6_add hN (by assumption)) oC_42 rfl rfl (by decide) (Nat.le_of_ble_eq_true rfl) ?_
          refine b_eq (b_iret (dd dtX10_sign 33 rfl) rfl) ?_ ?_
          · (try clear hN); simp [inR, vSign, okSign, -Int32.not_lt, -Int32.not_le, *]
          · (try clear hN); simp [inR, vSign, okSign, -Int32.not_lt, -Int32.not_le, *]
        · rw [show (30 : Int32) = nI 30 from rfl, nlt_lit (by omega) (by decide)] at h40
          refine b_bipush (pc := 43) (v := -4) (dd dtX10_sign 22 rfl) (by decide) ?_
          refine b_eq (b_iret (dd dtX10_sign 23 rfl) rfl) ?_ ?_
          · (try clear hN); simp [inR, vSign, okSign, -Int32.not_lt, -Int32.not_le, *]
          · (try clear hN); simp [inR, vSign, okSign, -Int32.not_lt, -Int32.not_le, *]
      · refine b_bipush (pc := 28) (v := -2) (dd dtX10_sign 15 rfl) (by decide) ?_
        refine b_eq (b_iret (dd dtX10_sign 16 rfl) rfl) ?_ ?_
        · (try clear hN); simp [inR, vSign, okSign, -Int32.not_lt, -Int32.not_le, *]
        · (try clear hN); simp [inR, vSign, okSign, -Int32.not_lt, -Int32.not_le, *]
  · refine b_icm1 (pc := 7) (dd dtX10_sign 3 rfl) ?_
    refine b_eq (b_iret (dd dtX10_sign 4 rfl) rfl) ?_ ?_
    · (try clear hN); simp [inR, vSign, okSign, -Int32.not_lt, -Int32.not_le, *]
    · (try clear hN); simp [inR, vSign, okSign, -Int32.not_lt, -Int32.not_le, *]
def tX10_mend : List (Nat × Instr × Nat) := [(0, .aload_n 0, 1), (1, .iload_n 1, 1), (2, .invokevirtual 160, 3), (5, .ifCond .ne 5, 3), (8, .iconst (-1), 1), (9, .ireturn, 1), (10, .iload_n 2, 1), (11, .iconst 0, 1), (12, .bipush 99, 2), (14, .invokestatic 97, 3), (17, .ifCond .ne 6, 3), (20, .bipush (-2), 2), (22, .ireturn, 1), (23, .aload_n 0, 1), (24, .getfield 38, 3), (27, .getfield 163, 3), (30, .iload_n 1, 1), (31, .iaload, 1), (32, .ifCond .lt 6, 3), (35, .bipush (-3), 2), (37, .ireturn, 1), (38, .aload_n 0, 1), (39, .getfield 38, 3), (42, .getfield 166, 3), (45, .iload_n 1, 1), (46, .iload_n 2, 1), (47, .iastore, 1), (48, .aload_n 0, 1), (49, .getfield 38, 3), (52, .getfield 163, 3), (55, .iload_n 1, 1), (56, .aload_n 0, 1), (57, .getfield 21, 3), (60, .getfield 150, 3), (63, .iastore, 1), (64, .aload_n 0, 1), (65, .getfield 38, 3), (68, .getfield 169, 3), (71, .iload_n 1, 1), (72, .iaload, 1), (73, .ireturn, 1)]
theorem dtX10_mend : dec_ok mX10_mend.2.1 tX10_mend = true := by decide +kernel
set_option maxHeartbeats 4000000 in
theorem c_X10_mend {I : Wd} {K : Nat} {k v : Int32} (hN : I 42 0 = nI K) (hN2 : K ≤ 30) : Cal SyC mX10_mend 2 [.ref 0, .int k, .int v] I (some (.int (vMend (I 48) (I 45) (I 42 0) k v))) (if okMend (I 48) (I 42 0) k v then ist (ist I 47 k.toNatClampNeg v) 48 k.toNatClampNeg (I 6 1) else I) := by
  refine Cal.of (by decide) (Nat.le_of_ble_eq_true rfl) ?_
  show Bd _ _ _ _ [(0, _), (1, _), (2, _)] _ _ _ _
  refine b_aload_n (pc := 0) (i := 0) (dd dtX10_mend 0 rfl) rfl rfl ?_
  refine b_iload_n (pc := 1) (i := 1) (dd dtX10_mend 1 rfl) rfl rfl ?_
  refine b_invV (pc := 2) (dd dtX10_mend 2 rfl) mlX10_160 mvX10_isSign miX10_isSign (c_X10_isSign) oC_0 rfl rfl (by decide) (Nat.le_of_ble_eq_true rfl) ?_
  refine b_ifb_ne (pc := 5) (tgt := 10) (dd dtX10_mend 3 rfl) (by decide) (fun h5 => ?_) (fun h5 => ?_)
  · refine b_iload_n (pc := 10) (i := 2) (dd dtX10_mend 6 rfl) rfl rfl ?_
    refine b_ic0 (pc := 11) (dd dtX10_mend 7 rfl) ?_
    refine b_bipush (pc := 12) (v := 99) (dd dtX10_mend 8 rfl) (by decide) ?_
    refine b_invS (pc := 14) (dd dtX10_mend 9 rfl) mlX10_97 mvX10_within msX10_within (c_X10_within) rfl rfl (by decide) (Nat.le_of_ble_eq_true rfl) ?_
    refine b_ifb_ne (pc := 17) (tgt := 23) (dd dtX10_mend 10 rfl) (by decide) (fun h17 => ?_) (fun h17 => ?_)
    · refine b_aload_n (pc := 23) (i := 0) (dd dtX10_mend 13 rfl) rfl rfl ?_
      refine b_geta (pc := 24) (dd dtX10_mend 14 rfl) fwX10_38 pC_0 rC_0_5 ?_
      refine b_geta (pc := 27) (dd dtX10_mend 15 rfl) fwX10_163 pC_42 rC_42_6 ?_
      refine b_iload_n (pc := 30) (i := 1) (dd dtX10_mend 16 rfl) rfl rfl ?_
      refine b_iald (pc := 31) (dd dtX10_mend 17 rfl) pC_48 (vpm (by rw [hN] at h5; exact h5) hN2 (by decide)) ?_
      refine b_if_lt (pc := 32) (tgt := 38) (dd dtX10_mend 18 rfl) (by decide) (fun h32 => ?_) (fun h32 => ?_)
      · refine b_aload_n (pc := 38) (i := 0) (dd dtX10_mend 21 rfl) rfl rfl ?_
        refine b_geta (pc := 39) (dd dtX10_mend 22 rfl) fwX10_38 pC_0 rC_0_5 ?_
        refine b_geta (pc := 42) (dd dtX10_mend 23 rfl) fwX10_166 pC_42 rC_42_5 ?_
        refine b_iload_n (pc := 45) (i := 1) (dd dtX10_mend 24 rfl) rfl rfl ?_
        refine b_iload_n (pc := 46) (i := 2) (dd dtX10_mend 25 rfl) rfl rfl ?_
        refine b_iast (pc := 47) (dd dtX10_mend 26 rfl) pC_47 (vpm (by rw [hN] at h5; exact h5) hN2 (by decide)) ?_
        refine b_aload_n (pc := 48) (i := 0) (dd dtX10_mend 27 rfl) rfl rfl ?_
        refine b_geta (pc := 49) (dd dtX10_mend 28 rfl) fwX10_38 pC_0 rC_0_5 ?_
        refine b_geta (pc := 52) (dd dtX10_mend 29 rfl) fwX10_163 pC_42 rC_42_6 ?_
        refine b_iload_n (pc := 55) (i := 1) (dd dtX10_mend 30 rfl) rfl rfl ?_
        refine b_aload_n (pc := 56) (i := 0) (dd dtX10_mend 31 rfl) rfl rfl ?_
        refine b_geta (pc := 57) (dd dtX10_mend 32 rfl) fwX10_21 pC_0 rC_0_1 ?_
        refine b_geti (pc := 60) (dd dtX10_mend 33 rfl) fwX10_150 pC_6 ?_
        refine b_iast (pc := 63) (dd dtX10_mend 34 rfl) pC_48 (vpm (by rw [hN] at h5; exact h5) hN2 (by decide)) ?_
        refine b_aload_n (pc := 64) (i := 0) (dd dtX10_mend 35 rfl) rfl rfl ?_
        refine b_geta (pc := 65) (dd dtX10_mend 36 rfl) fwX10_38 pC_0 rC_0_5 ?_
        refine b_geta (pc := 68) (dd dtX10_mend 37 rfl) fwX10_169 pC_42 rC_42_3 ?_
        refine b_iload_n (pc := 71) (i := 1) (dd dtX10_mend 38 rfl) rfl rfl ?_
        refine b_iald (pc := 72) (dd dtX10_mend 39 rfl) pC_45 (vpm (by rw [hN] at h5; exact h5) hN2 (by decide)) ?_
        refine b_eq (b_iret (dd dtX10_mend 40 rfl) rfl) ?_ ?_
        · (try clear hN); simp [inR, vMend, okMend, ist_eq, ist_ne, -Int32.not_lt, -Int32.not_le, *]
        · (try clear hN); simp [inR, vMend, okMend, ist_eq, ist_ne, -Int32.not_lt, -Int32.not_le, *]
      · refine b_bipush (pc := 35) (v := -3) (dd dtX10_mend 19 rfl) (by decide) ?_
        refine b_eq (b_iret (dd dtX10_mend 20 rfl) rfl) ?_ ?_
        · (try clear hN); simp [inR, vMend, okMend, ist_eq, ist_ne, -Int32.not_lt, -Int32.not_le, *]
        · (try clear hN); simp [inR, vMend, okMend, ist_eq, ist_ne, -Int32.not_lt, -Int32.not_le, *]
    · refine b_bipush (pc := 20) (v := -2) (dd dtX10_mend 11 rfl) (by decide) ?_
      refine b_eq (b_iret (dd dtX10_mend 12 rfl) rfl) ?_ ?_
      · (try clear hN); simp [inR, vMend, okMend, ist_eq, ist_ne, -Int32.not_lt, -Int32.not_le, *]
      · (try clear hN); simp [inR, vMend, okMend, ist_eq, ist_ne, -Int32.not_lt, -Int32.not_le, *]
  · refine b_icm1 (pc := 8) (dd dtX10_mend 4 rfl) ?_
    refine b_eq (b_iret (dd dtX10_mend 5 rfl) rfl) ?_ ?_
    · (try clear hN); simp [inR, vMend, okMend, ist_eq, ist_ne, -Int32.not_lt, -Int32.not_le, *]
    · (try clear hN); simp [inR, vMend, okMend, ist_eq, ist_ne, -Int32.not_lt, -Int32.not_le, *]
def tX10_signTold : List (Nat × Instr × Nat) := [(0, .aload_n 0, 1), (1, .iload_n 1, 1), (2, .invokevirtual 160, 3), (5, .ifCond .ne 5, 3), (8, .iconst (-1), 1), (9, .ireturn, 1), (10, .aload_n 0, 1), (11, .iload_n 3, 1), (12, .invokevirtual 172, 3), (15, .ifCond .ne 6, 3), (18, .bipush (-2), 2), (20, .ireturn, 1), (21, .aload_n 0, 1), (22, .getfield 38, 3), (25, .getfield 175, 3), (28, .iload_n 1, 1), (29, .iaload, 1), (30, .istore 4, 2), (32, .aload_n 0, 1), (33, .getfield 38, 3), (36, .iload_n 1, 1), (37, .iload_n 3, 1), (38, .invokevirtual 178, 3), (41, .istore 5, 2), (43, .iload_n 2, 1), (44, .tableswitch 92 0 6 #[44, 47, 57, 67, 70, 78, 86], 44), (88, .iload 4, 2), (90, .ireturn, 1), (91, .aload_n 0, 1), (92, .getfield 38, 3), (95, .getfield 182, 3), (98, .iload_n 1, 1), (99, .iaload, 1), (100, .ireturn, 1), (101, .aload_n 0, 1), (102, .getfield 38, 3), (105, .getfield 185, 3), (108, .iload_n 1, 1), (109, .iaload, 1), (110, .ireturn, 1), (111, .iload 5, 2), (113, .ireturn, 1), (114, .iload 4, 2), (116, .iload 5, 2), (118, .invokestatic 187, 3), (121, .ireturn, 1), (122, .iload 4, 2), (124, .iload 5, 2), (126, .invokestatic 190, 3), (129, .ireturn, 1), (130, .iload 4, 2), (132, .invokestatic 193, 3), (135, .ireturn, 1), (136, .bipush (-2), 2), (138, .ireturn, 1)]
theorem dtX10_signTold : dec_ok mX10_signTold.2.1 tX10_signTold = true := by decide +kernel
set_option maxHeartbeats 4000000 in
theorem c_X10_signTold {I : Wd} {K : Nat} {k what known : Int32} (hN : I 42 0 = nI K) (hN2 : K ≤ 30) : Cal SyC mX10_signTold 2 [.ref 0, .int k, .int what, .int known] I (some (.int (vSignTold (I 43) (I 44) (I 46) (sVal (I 48) (I 47) (I 45) known) (I 42 0) (I 6 1) k what known))) I := by
  refine Cal.of (by decide) (Nat.le_of_ble_eq_true rfl) ?_
  show Bd _ _ _ _ [(0, _), (1, _), (2, _), (3, _)] _ _ _ _
  refine b_aload_n (pc := 0) (i := 0) (dd dtX10_signTold 0 rfl) rfl rfl ?_
  refine b_iload_n (pc := 1) (i := 1) (dd dtX10_signTold 1 rfl) rfl rfl ?_
  refine b_invV (pc := 2) (dd dtX10_signTold 2 rfl) mlX10_160 mvX10_isSign miX10_isSign (c_X10_isSign) oC_0 rfl rfl (by decide) (Nat.le_of_ble_eq_true rfl) ?_
  refine b_ifb_ne (pc := 5) (tgt := 10) (dd dtX10_signTold 3 rfl) (by decide) (fun h5 => ?_) (fun h5 => ?_)
  · refine b_aload_n (pc := 10) (i := 0) (dd dtX10_signTold 6 rfl) rfl rfl ?_
    refine b_iload_n (pc := 11) (i := 3) (dd dtX10_signTold 7 rfl) rfl rfl ?_
    refine b_invV (pc := 12) (dd dtX10_signTold 8 rfl) mlX10_172 mvX10_isKnown miX10_isKnown (c_X10_isKnown) oC_0 rfl rfl (by decide) (Nat.le_of_ble_eq_true rfl) ?_
    refine b_ifb_ne (pc := 15) (tgt := 21) (dd dtX10_signTold 9 rfl) (by decide) (fun h15 => ?_) (fun h15 => ?_)
    · refine b_aload_n (pc := 21) (i := 0) (dd dtX10_signTold 12 rfl) rfl rfl ?_
      refine b_geta (pc := 22) (dd dtX10_signTold 13 rfl) fwX10_38 pC_0 rC_0_5 ?_
      refine b_geta (pc := 25) (dd dtX10_signTold 14 rfl) fwX10_175 pC_42 rC_42_1 ?_
      refine b_iload_n (pc := 28) (i := 1) (dd dtX10_signTold 15 rfl) rfl rfl ?_
      refine b_iald (pc := 29) (dd dtX10_signTold 16 rfl) pC_43 (vpm (by rw [hN] at h5; exact h5) hN2 (by decide)) ?_
      refine b_istore (pc := 30) (i := 4) (lv' := [(4, _), (0, _), (1, _), (2, _), (3, _)]) (dd dtX10_signTold 17 rfl) (Nat.le_of_ble_eq_true rfl) rfl ?_
      refine b_aload_n (pc := 32) (i := 0) (dd dtX10_signTold 18 rfl) rfl rfl ?_
      refine b_geta (pc := 33) (dd dtX10_signTold 19 rfl) fwX10_38 pC_0 rC_0_5 ?_
      refine b_iload_n (pc := 36) (i := 1) (dd dtX10_signTold 20 rfl) rfl rfl ?_
      refine b_iload_n (pc := 37) (i := 3) (dd dtX10_signTold 21 rfl) rfl rfl ?_
      refine b_invV (pc := 38) (dd dtX10_signTold 22 rfl) mlX10_178 mvX6_valueKnown miX6_valueKnown (c_X6_valueKnown (vpm (by rw [hN] at h5; exact h5) hN2 (by decide))) oC_42 rfl rfl (by decide) (Nat.le_of_ble_eq_true rfl) ?_
      refine b_istore (pc := 41) (i := 5) (lv' := [(5, _), (4, _), (0, _), (1, _), (2, _), (3, _)]) (dd dtX10_signTold 23 rfl) (Nat.le_of_ble_eq_true rfl) rfl ?_
      refine b_iload_n (pc := 43) (i := 2) (dd dtX10_signTold 24 rfl) rfl rfl ?_
      refine b_tsw (pc := 44) (ts := [(0, 88), (1, 91), (2, 101), (3, 111), (4, 114), (5, 122), (6, 130)]) (dfl := 136) (dd dtX10_signTold 25 rfl) (by decide +kernel) ⟨fun h44 => ?_, fun h44_0 => ⟨fun h44 => ?_, fun h44_1 => ⟨fun h44 => ?_, fun h44_2 => ⟨fun h44 => ?_, fun h44_3 => ⟨fun h44 => ?_, fun h44_4 => ⟨fun h44 => ?_, fun h44_5 => ⟨fun h44 => ?_, fun h44_6 => ?_⟩⟩⟩⟩⟩⟩⟩
      · refine b_iload (pc := 88) (i := 4) (dd dtX10_signTold 26 rfl) rfl ?_
        refine b_eq (b_iret (dd dtX10_signTold 27 rfl) rfl) ?_ ?_
        · (try clear hN); simp [inR, vSignTold, -Int32.not_lt, -Int32.not_le, *]
        · (try clear hN); simp [inR, vSignTold, -Int32.not_lt, -Int32.not_le, *]
      · refine b_aload_n (pc := 91) (i := 0) (dd dtX10_signTold 28 rfl) rfl rfl ?_
        refine b_geta (pc := 92) (dd dtX10_signTold 29 rfl) fwX10_38 pC_0 rC_0_5 ?_
        refine b_geta (pc := 95) (dd dtX10_signTold 30 rfl) fwX10_182 pC_42 rC_42_2 ?_
        refine b_iload_n (pc := 98) (i := 1) (dd dtX10_signTold 31 rfl) rfl rfl ?_
        refine b_iald (pc := 99) (dd dtX10_signTold 32 rfl) pC_44 (vpm (by rw [hN] at h5; exact h5) hN2 (by decide)) ?_
        refine b_eq (b_iret (dd dtX10_signTold 33 rfl) rfl) ?_ ?_
        · (try clear hN); simp [inR, vSignTold, -Int32.not_lt, -Int32.not_le, *]
        · (try clear hN); simp [inR, vSignTold, -Int32.not_lt, -Int32.not_le, *]
      · refine b_aload_n (pc := 101) (i := 0) (dd dtX10_signTold 34 rfl) rfl rfl ?_
        refine b_geta (pc := 102) (dd dtX10_signTold 35 rfl) fwX10_38 pC_0 rC_0_5 ?_
        refine b_geta (pc := 105) (dd dtX10_signTold 36 rfl) fwX10_185 pC_42 rC_42_4 ?_
        refine b_iload_n (pc := 108) (i := 1) (dd dtX10_signTold 37 rfl) rfl rfl ?_
        refine b_iald (pc := 109) (dd dtX10_signTold 38 rfl) pC_46 (vpm (by rw [hN] at h5; exact h5) hN2 (by decide)) ?_
        refine b_eq (b_iret (dd dtX10_signTold 39 rfl) rfl) ?_ ?_
        · (try clear hN); simp [inR, vSignTold, -Int32.not_lt, -Int32.not_le, *]
        · (try clear hN); simp [inR, vSignTold, -Int32.not_lt, -Int32.not_le, *]
      · refine b_iload (pc := 111) (i := 5) (dd dtX10_signTold 40 rfl) rfl ?_
        refine b_eq (b_iret (dd dtX10_signTold 41 rfl) rfl) ?_ ?_
        · (try clear hN); simp [inR, vSignTold, -Int32.not_lt, -Int32.not_le, *]
        · (try clear hN); simp [inR, vSignTold, -Int32.not_lt, -Int32.not_le, *]
      · refine b_iload (pc := 114) (i := 4) (dd dtX10_signTold 42 rfl) rfl ?_
        refine b_iload (pc := 116) (i := 5) (dd dtX10_signTold 43 rfl) rfl ?_
        refine b_invS (pc := 118) (dd dtX10_signTold 44 rfl) mlX10_187 mvX6_leastBy msX6_leastBy (c_X6_leastBy) rfl rfl (by decide) (Nat.le_of_ble_eq_true rfl) ?_
        refine b_eq (b_iret (dd dtX10_signTold 45 rfl) rfl) ?_ ?_
        · (try clear hN); simp [inR, vSignTold, -Int32.not_lt, -Int32.not_le, *]
        · (try clear hN); simp [inR, vSignTold, -Int32.not_lt, -Int32.not_le, *]
      · refine b_iload (pc := 122) (i := 4) (dd dtX10_signTold 46 rfl) rfl ?_
        refine b_iload (pc := 124) (i := 5) (dd dtX10_signTold 47 rfl) rfl ?_
        refine b_invS (pc := 126) (dd dtX10_signTold 48 rfl) mlX10_190 mvX6_mostBy msX6_mostBy (c_X6_mostBy) rfl rfl (by decide) (Nat.le_of_ble_eq_true rfl) ?_
        refine b_eq (b_iret (dd dtX10_signTold 49 rfl) rfl) ?_ ?_
        · (try clear hN); simp [inR, vSignTold, -Int32.not_lt, -Int32.not_le, *]
        · (try clear hN); simp [inR, vSignTold, -Int32.not_lt, -Int32.not_le, *]
      · refine b_iload (pc := 130) (i := 4) (dd dtX10_signTold 50 rfl) rfl ?_
        refine b_invS (pc := 132) (dd dtX10_signTold 51 rfl) mlX10_193 mvX6_trustIn msX6_trustIn (c_X6_trustIn) rfl rfl (by decide) (Nat.le_of_ble_eq_true rfl) ?_
        refine b_eq (b_iret (dd dtX10_signTold 52 rfl) rfl) ?_ ?_
        · (try clear hN); simp [inR, vSignTold, -Int32.not_lt, -Int32.not_le, *]
        · (try clear hN); simp [inR, vSignTold, -Int32.not_lt, -Int32.not_le, *]
      · refine b_bipush (pc := 136) (v := -2) (dd dtX10_signTold 53 rfl) (by decide) ?_
        refine b_eq (b_iret (dd dtX10_signTold 54 rfl) rfl) ?_ ?_
        · (try clear hN); simp [inR, vSignTold, -Int32.not_lt, -Int32.not_le, *]
        · (try clear hN); simp [inR, vSignTold, -Int32.not_lt, -Int32.not_le, *]
    · refine b_bipush (pc := 18) (v := -2) (dd dtX10_signTold 10 rfl) (by decide) ?_
      refine b_eq (b_iret (dd dtX10_signTold 11 rfl) rfl) ?_ ?_
      · (try clear hN); simp [inR, vSignTold, -Int32.not_lt, -Int32.not_le, *]
      · (try clear hN); simp [inR, vSignTold, -Int32.not_lt, -Int32.not_le, *]
  · refine b_icm1 (pc := 8) (dd dtX10_signTold 4 rfl) ?_
    refine b_eq (b_iret (dd dtX10_signTold 5 rfl) rfl) ?_ ?_
    · (try clear hN); simp [inR, vSignTold, -Int32.not_lt, -Int32.not_le, *]
    · (try clear hN); simp [inR, vSignTold, -Int32.not_lt, -Int32.not_le, *]
def tX10_span : List (Nat × Instr × Nat) := [(0, .iload_n 1, 1), (1, .invokestatic 93, 3), (4, .ifCond .ne 5, 3), (7, .iconst (-1), 1), (8, .ireturn, 1), (9, .aload_n 0, 1), (10, .iload_n 2, 1), (11, .invokevirtual 172, 3), (14, .ifCond .eq 12, 3), (17, .iload_n 3, 1), (18, .iconst 0, 1), (19, .iconst 3, 1), (20, .invokestatic 97, 3), (23, .ifCond .ne 6, 3), (26, .bipush (-2), 2), (28, .ireturn, 1), (29, .iload_n 3, 1), (30, .iconst 2, 1), (31, .if_icmp .lt 8, 3), (34, .bipush 8, 2), (36, .goto 4, 3), (39, .iconst 0, 1), (40, .istore 4, 2), (42, .aload_n 0, 1), (43, .getfield 38, 3), (46, .iload_n 1, 1), (47, .iload_n 2, 1), (48, .iload 4, 2), (50, .invokevirtual 196, 3), (53, .istore 5, 2), (55, .aload_n 0, 1), (56, .getfield 38, 3), (59, .iload_n 1, 1), (60, .iload_n 2, 1), (61, .iload 4, 2), (63, .invokevirtual 199, 3), (66, .istore 6, 2), (68, .iload 5, 2), (70, .iload 6, 2), (72, .if_icmp .le 6, 3), (75, .bipush (-3), 2), (77, .ireturn, 1), (78, .iload_n 3, 1), (79, .iconst 2, 1), (80, .irem, 1), (81, .ifCond .ne 8, 3), (84, .iload 5, 2), (86, .goto 5, 3), (89, .iload 6, 2), (91, .ireturn, 1)]
theorem dtX10_span : dec_ok mX10_span.2.1 tX10_span = true := by decide +kernel
set_option maxHeartbeats 4000000 in
theorem c_X10_span {I : Wd} {K : Nat} {c known what : Int32} (hN : I 42 0 = nI K) (hN2 : K ≤ 30) : Cal SyC mX10_span 3 [.ref 0, .int c, .int known, .int what] I (some (.int (vSpan (I 43) (I 44) (I 46) (sVal (I 48) (I 47) (I 45) known) K (I 6 1) c known what))) I := by
  refine Cal.of (by decide) (Nat.le_of_ble_eq_true rfl) ?_
  show Bd _ _ _ _ [(0, _), (1, _), (2, _), (3, _)] _ _ _ _
  refine b_iload_n (pc := 0) (i := 1) (dd dtX10_span 0 rfl) rfl rfl ?_
  refine b_invS (pc := 1) (dd dtX10_span 1 rfl) mlX10_93 mvX10_isCell msX10_isCell (c_X10_isCell) rfl rfl (by decide) (Nat.le_of_ble_eq_true rfl) ?_
  refine b_ifb_ne (pc := 4) (tgt := 9) (dd dtX10_span 2 rfl) (by decide) (fun h4 => ?_) (fun h4 => ?_)
  · refine b_aload_n (pc := 9) (i := 0) (dd dtX10_span 5 rfl) rfl rfl ?_
    refine b_iload_n (pc := 10) (i := 2) (dd dtX10_span 6 rfl) rfl rfl ?_
    refine b_invV (pc := 11) (dd dtX10_span 7 rfl) mlX10_172 mvX10_isKnown miX10_isKnown (c_X10_isKnown) oC_0 rfl rfl (by decide) (Nat.le_of_ble_eq_true rfl) ?_
    refine b_ifb_eq (pc := 14) (tgt := 26) (dd dtX10_span 8 rfl) (by decide) (fun h14 => ?_) (fun h14 => ?_)
    · refine b_bipush (pc := 26) (v := -2) (dd dtX10_span 14 rfl) (by decide) ?_
      refine b_eq (b_iret (dd dtX10_span 15 rfl) rfl) ?_ ?_
      · (try clear hN); simp [inR, vSpan, -Int32.not_lt, -Int32.not_le, *]
      · rfl
    · refine b_iload_n (pc := 17) (i := 3) (dd dtX10_span 9 rfl) rfl rfl ?_
      refine b_ic0 (pc := 18) (dd dtX10_span 10 rfl) ?_
      refine b_ic3 (pc := 19) (dd dtX10_span 11 rfl) ?_
      refine b_invS (pc := 20) (dd dtX10_span 12 rfl) mlX10_97 mvX10_within msX10_within (c_X10_within) rfl rfl (by decide) (Nat.le_of_ble_eq_true rfl) ?_
      refine b_ifb_ne (pc := 23) (tgt := 29) (dd dtX10_span 13 rfl) (by decide) (fun h23 => ?_) (fun h23 => ?_)
      · refine b_iload_n (pc := 29) (i := 3) (dd dtX10_span 16 rfl) rfl rfl ?_
        refine b_ic2 (pc := 30) (dd dtX10_span 17 rfl) ?_
        refine b_icmp_lt (pc := 31) (tgt := 39) (dd dtX10_span 18 rfl) (by decide) (fun h31 => ?_) (fun h31 => ?_)
        · refine b_ic0 (pc := 39) (dd dtX10_span 21 rfl) ?_
          refine b_istore (pc := 40) (i := 4) (lv' := [(4, _), (0, _), (1, _), (2, _), (3, _)]) (dd dtX10_span 22 rfl) (Nat.le_of_ble_eq_true rfl) rfl ?_
          refine b_aload_n (pc := 42) (i := 0) (dd dtX10_span 23 rfl) rfl rfl ?_
          refine b_geta (pc := 43) (dd dtX10_span 24 rfl) fwX10_38 pC_0 rC_0_5 ?_
          refine b_iload_n (pc := 46) (i := 1) (dd dtX10_span 25 rfl) rfl rfl ?_
          refine b_iload_n (pc := 47) (i := 2) (dd dtX10_span 26 rfl) rfl rfl ?_
          refine b_iload (pc := 48) (i := 4) (dd dtX10_span 27 rfl) rfl ?_
          refine b_invV (pc := 50) (dd dtX10_span 28 rfl) mlX10_196 mvX6_least miX6_least (c_X6_least hN hN2) oC_42 rfl rfl (by decide) (Nat.le_of_ble_eq_true rfl) ?_
          refine b_istore (pc := 53) (i := 5) (lv' := [(5, _), (4, _), (0, _), (1, _), (2, _), (3, _)]) (dd dtX10_span 29 rfl) (Nat.le_of_ble_eq_true rfl) rfl ?_
          refine b_aload_n (pc := 55) (i := 0) (dd dtX10_span 30 rfl) rfl rfl ?_
          refine b_geta (pc := 56) (dd dtX10_span 31 rfl) fwX10_38 pC_0 rC_0_5 ?_
          refine b_iload_n (pc := 59) (i := 1) (dd dtX10_span 32 rfl) rfl rfl ?_
          refine b_iload_n (pc := 60) (i := 2) (dd dtX10_span 33 rfl) rfl rfl ?_
          refine b_iload (pc := 61) (i := 4) (dd dtX10_span 34 rfl) rfl ?_
          refine b_invV (pc := 63) (dd dtX10_span 35 rfl) mlX10_199 mvX6_most miX6_most (c_X6_most hN hN2) oC_42 rfl rfl (by decide) (Nat.le_of_ble_eq_true rfl) ?_
          refine b_istore (pc := 66) (i := 6) (lv' := [(6, _), (5, _), (4, _), (0, _), (1, _), (2, _), (3, _)]) (dd dtX10_span 36 rfl) (Nat.le_of_ble_eq_true rfl) rfl ?_
          refine b_iload (pc := 68) (i := 5) (dd dtX10_span 37 rfl) rfl ?_
          refine b_iload (pc := 70) (i := 6) (dd dtX10_span 38 rfl) rfl ?_
          refine b_icmpL_le (pc := 72) (tgt := 78) (dd dtX10_span 39 rfl) (by decide) (fun h72 => ?_) (fun h72 => ?_)
          · refine b_iload_n (pc := 78) (i := 3) (dd dtX10_span 42 rfl) rfl rfl ?_
            refine b_ic2 (pc := 79) (dd dtX10_span 43 rfl) ?_
            refine b_irem (pc := 80) (dd dtX10_span 44 rfl) (by decide) ?_
            refine b_if_ne (pc := 81) (tgt := 89) (dd dtX10_span 45 rfl) (by decide) (fun h81 => ?_) (fun h81 => ?_)
            · refine b_iload (pc := 89) (i := 6) (dd dtX10_span 48 rfl) rfl ?_
              refine b_eq (b_iret (dd dtX10_span 49 rfl) rfl) ?_ ?_
              · (try clear hN); simp [inR, vSpan, -Int32.not_lt, -Int32.not_le, *]
              · rfl
            · refine b_iload (pc := 84) (i := 5) (dd dtX10_span 46 rfl) rfl ?_
              refine b_goto (pc := 86) (tgt := 91) (dd dtX10_span 47 rfl) (by decide) ?_
              refine b_eq (b_iret (dd dtX10_span 49 rfl) rfl) ?_ ?_
              · (try clear hN); simp [inR, vSpan, -Int32.not_lt, -Int32.not_le, *]
              · rfl
          · refine b_bipush (pc := 75) (v := -3) (dd dtX10_span 40 rfl) (by decide) ?_
            refine b_eq (b_iret (dd dtX10_span 41 rfl) rfl) ?_ ?_
            · (try clear hN); simp [inR, vSpan, -Int32.not_lt, -Int32.not_le, *]
            · rfl
        · refine b_bipush (pc := 34) (v := 8) (dd dtX10_span 19 rfl) (by decide) ?_
          refine b_goto (pc := 36) (tgt := 40) (dd dtX10_span 20 rfl) (by decide) ?_
          refine b_istore (pc := 40) (i := 4) (lv' := [(4, _), (0, _), (1, _), (2, _), (3, _)]) (dd dtX10_span 22 rfl) (Nat.le_of_ble_eq_true rfl) rfl ?_
          refine b_aload_n (pc := 42) (i := 0) (dd dtX10_span 23 rfl) rfl rfl ?_
          refine b_geta (pc := 43) (dd dtX10_span 24 rfl) fwX10_38 pC_0 rC_0_5 ?_
          refine b_iload_n (pc := 46) (i := 1) (dd dtX10_span 25 rfl) rfl rfl ?_
          refine b_iload_n (pc := 47) (i := 2) (dd dtX10_span 26 rfl) rfl rfl ?_
          refine b_iload (pc := 48) (i := 4) (dd dtX10_span 27 rfl) rfl ?_
          refine b_invV (pc := 50) (dd dtX10_span 28 rfl) mlX10_196 mvX6_least miX6_least (c_X6_least hN hN2) oC_42 rfl rfl (by decide) (Nat.le_of_ble_eq_true rfl) ?_
          refine b_istore (pc := 53) (i := 5) (lv' := [(5, _), (4, _), (0, _), (1, _), (2, _), (3, _)]) (dd dtX10_span 29 rfl) (Nat.le_of_ble_eq_true rfl) rfl ?_
          refine b_aload_n (pc := 55) (i := 0) (dd dtX10_span 30 rfl) rfl rfl ?_
          refine b_geta (pc := 56) (dd dtX10_span 31 rfl) fwX10_38 pC_0 rC_0_5 ?_
          refine b_iload_n (pc := 59) (i := 1) (dd dtX10_span 32 rfl) rfl rfl ?_
          refine b_iload_n (pc := 60) (i := 2) (dd dtX10_span 33 rfl) rfl rfl ?_
          refine b_iload (pc := 61) (i := 4) (dd dtX10_span 34 rfl) rfl ?_
          refine b_invV (pc := 63) (dd dtX10_span 35 rfl) mlX10_199 mvX6_most miX6_most (c_X6_most hN hN2) oC_42 rfl rfl (by decide) (Nat.le_of_ble_eq_true rfl) ?_
          refine b_istore (pc := 66) (i := 6) (lv' := [(6, _), (5, _), (4, _), (0, _), (1, _), (2, _), (3, _)]) (dd dtX10_span 36 rfl) (Nat.le_of_ble_eq_true rfl) rfl ?_
          refine b_iload (pc := 68) (i := 5) (dd dtX10_span 37 rfl) rfl ?_
          refine b_iload (pc := 70) (i := 6) (dd dtX10_span 38 rfl) rfl ?_
          refine b_icmpL_le (pc := 72) (tgt := 78) (dd dtX10_span 39 rfl) (by decide) (fun h72 => ?_) (fun h72 => ?_)
          · refine b_iload_n (pc := 78) (i := 3) (dd dtX10_span 42 rfl) rfl rfl ?_
            refine b_ic2 (pc := 79) (dd dtX10_span 43 rfl) ?_
            refine b_irem (pc := 80) (dd dtX10_span 44 rfl) (by decide) ?_
            refine b_if_ne (pc := 81) (tgt := 89) (dd dtX10_span 45 rfl) (by decide) (fun h81 => ?_) (fun h81 => ?_)
            · refine b_iload (pc := 89) (i := 6) (dd dtX10_span 48 rfl) rfl ?_
              refine b_eq (b_iret (dd dtX10_span 49 rfl) rfl) ?_ ?_
              · (try clear hN); simp [inR, vSpan, -Int32.not_lt, -Int32.not_le, *]
              · rfl
            · refine b_iload (pc := 84) (i := 5) (dd dtX10_span 46 rfl) rfl ?_
              refine b_goto (pc := 86) (tgt := 91) (dd dtX10_span 47 rfl) (by decide) ?_
              refine b_eq (b_iret (dd dtX10_span 49 rfl) rfl) ?_ ?_
              · (try clear hN); simp [inR, vSpan, -Int32.not_lt, -Int32.not_le, *]
              · rfl
          · refine b_bipush (pc := 75) (v := -3) (dd dtX10_span 40 rfl) (by decide) ?_
            refine b_eq (b_iret (dd dtX10_span 41 rfl) rfl) ?_ ?_
            · (try clear hN); simp [inR, vSpan, -Int32.not_lt, -Int32.not_le, *]
            · rfl
      · refine b_bipush (pc := 26) (v := -2) (dd dtX10_span 14 rfl) (by decide) ?_
        refine b_eq (b_iret (dd dtX10_span 15 rfl) rfl) ?_ ?_
        · (try clear hN); simp [inR, vSpan, -Int32.not_lt, -Int32.not_le, *]
        · rfl
  · refine b_icm1 (pc := 7) (dd dtX10_span 3 rfl) ?_
    refine b_eq (b_iret (dd dtX10_span 4 rfl) rfl) ?_ ?_
    · (try clear hN); simp [inR, vSpan, -Int32.not_lt, -Int32.not_le, *]
    · rfl
def tX10_lost : List (Nat × Instr × Nat) := [(0, .iload_n 1, 1), (1, .invokestatic 93, 3), (4, .ifCond .ne 5, 3), (7, .iconst (-1), 1), (8, .ireturn, 1), (9, .iload_n 2, 1), (10, .iconst 1, 1), (11, .sipush 400, 3), (14, .invokestatic 97, 3), (17, .ifCond .ne 6, 3), (20, .bipush (-2), 2), (22, .ireturn, 1), (23, .aload_n 0, 1), (24, .getfield 47, 3), (27, .invokevirtual 202, 3), (30, .ifCond .eq 6, 3), (33, .bipush (-4), 2), (35, .ireturn, 1), (36, .aload_n 0, 1), (37, .getfield 47, 3), (40, .iload_n 1, 1), (41, .iload_n 2, 1), (42, .aload_n 0, 1), (43, .getfield 21, 3), (46, .getfield 150, 3), (49, .invokevirtual 206, 3), (52, .ireturn, 1)]
theorem dtX10_lost : dec_ok mX10_lost.2.1 tX10_lost = true := by decide +kernel
set_option maxHeartbeats 4000000 in
theorem c_X10_lost {I : Wd} {L : Nat} {c u : Int32} (hN : I 49 0 = nI L) (hN2 : L ≤ 8) : Cal SyC mX10_lost 2 [.ref 0, .int c, .int u] I (some (.int (vLost L c u))) (if okLost L c u then (ist (ist (ist (ist I 50 L c) 51 L u) 52 L (I 6 1)) 49 0 (nI (L + 1))) else I) := by
  refine Cal.of (by decide) (Nat.le_of_ble_eq_true rfl) ?_
  show Bd _ _ _ _ [(0, _), (1, _), (2, _)] _ _ _ _
  refine b_iload_n (pc := 0) (i := 1) (dd dtX10_lost 0 rfl) rfl rfl ?_
  refine b_invS (pc := 1) (dd dtX10_lost 1 rfl) mlX10_93 mvX10_isCell msX10_isCell (c_X10_isCell) rfl rfl (by decide) (Nat.le_of_ble_eq_true rfl) ?_
  refine b_ifb_ne (pc := 4) (tgt := 9) (dd dtX10_lost 2 rfl) (by decide) (fun h4 => ?_) (fun h4 => ?_)
  · refine b_iload_n (pc := 9) (i := 2) (dd dtX10_lost 5 rfl) rfl rfl ?_
    refine b_ic1 (pc := 10) (dd dtX10_lost 6 rfl) ?_
    refine b_sipush (pc := 11) (v := 400) (dd dtX10_lost 7 rfl) (by decide) ?_
    refine b_invS (pc := 14) (dd dtX10_lost 8 rfl) mlX10_97 mvX10_within msX10_within (c_X10_within) rfl rfl (by decide) (Nat.le_of_ble_eq_true rfl) ?_
    refine b_ifb_ne (pc := 17) (tgt := 23) (dd dtX10_lost 9 rfl) (by decide) (fun h17 => ?_) (fun h17 => ?_)
    · refine b_aload_n (pc := 23) (i := 0) (dd dtX10_lost 12 rfl) rfl rfl ?_
      refine b_geta (pc := 24) (dd dtX10_lost 13 rfl) fwX10_47 pC_0 rC_0_6 ?_
      refine b_invV (pc := 27) (dd dtX10_lost 14 rfl) mlX10_202 mvX9_isFull miX9_isFull (c_X9_isFull_49 hN hN2) oC_49 rfl rfl (by decide) (Nat.le_of_ble_eq_true rfl) ?_
      refine b_ifn_eq (pc := 30) (tgt := 36) (dd dtX10_lost 15 rfl) (by decide) (fun h30 => ?_) (fun h30 => ?_)
      · refine b_aload_n (pc := 36) (i := 0) (dd dtX10_lost 18 rfl) rfl rfl ?_
        refine b_geta (pc := 37) (dd dtX10_lost 19 rfl) fwX10_47 pC_0 rC_0_6 ?_
        refine b_iload_n (pc := 40) (i := 1) (dd dtX10_lost 20 rfl) rfl rfl ?_
        refine b_iload_n (pc := 41) (i := 2) (dd dtX10_lost 21 rfl) rfl rfl ?_
        refine b_aload_n (pc := 42) (i := 0) (dd dtX10_lost 22 rfl) rfl rfl ?_
        refine b_geta (pc := 43) (dd dtX10_lost 23 rfl) fwX10_21 pC_0 rC_0_1 ?_
        refine b_geti (pc := 46) (dd dtX10_lost 24 rfl) fwX10_150 pC_6 ?_
        refine b_invV (pc := 49) (dd dtX10_lost 25 rfl) mlX10_206 mvX9_add miX9_add (c_X9_add_49 hN h30) oC_49 rfl rfl (by decide) (Nat.le_of_ble_eq_true rfl) ?_
        refine b_eq (b_iret (dd dtX10_lost 26 rfl) rfl) ?_ ?_
        · (try clear hN); simp [inR, vLost, okLost, -Int32.not_lt, -Int32.not_le, *]
        · (try clear hN); simp [inR, vLost, okLost, -Int32.not_lt, -Int32.not_le, *]
      · refine b_bipush (pc := 33) (v := -4) (dd dtX10_lost 16 rfl) (by decide) ?_
        refine b_eq (b_iret (dd dtX10_lost 17 rfl) rfl) ?_ ?_
        · (try clear hN); simp [inR, vLost, okLost, -Int32.not_lt, -Int32.not_le, *]
        · (try clear hN); simp [inR, vLost, okLost, -Int32.not_lt, -Int32.not_le, *]
    · refine b_bipush (pc := 20) (v := -2) (dd dtX10_lost 10 rfl) (by decide) ?_
      refine b_eq (b_iret (dd dtX10_lost 11 rfl) rfl) ?_ ?_
      · (try clear hN); simp [inR, vLost, okLost, -Int32.not_lt, -Int32.not_le, *]
      · (try clear hN); simp [inR, vLost, okLost, -Int32.not_lt, -Int32.not_le, *]
  · refine b_icm1 (pc := 7) (dd dtX10_lost 3 rfl) ?_
    refine b_eq (b_iret (dd dtX10_lost 4 rfl) rfl) ?_ ?_
    · (try clear hN); simp [inR, vLost, okLost, -Int32.not_lt, -Int32.not_le, *]
    · (try clear hN); simp [inR, vLost, okLost, -Int32.not_lt, -Int32.not_le, *]
def tX10_fitTold : List (Nat × Instr × Nat) := [(0, .iload_n 1, 1), (1, .iconst 0, 1), (2, .aload_n 0, 1), (3, .getfield 57, 3), (6, .getfield 229, 3), (9, .iconst 1, 1), (10, .isub, 1), (11, .invokestatic 97, 3), (14, .ifCond .ne 5, 3), (17, .iconst (-1), 1), (18, .ireturn, 1), (19, .iload_n 2, 1), (20, .iconst 0, 1), (21, .iconst 3, 1), (22, .invokestatic 97, 3), (25, .ifCond .ne 6, 3), (28, .bipush (-2), 2), (30, .ireturn, 1), (31, .aload_n 0, 1), (32, .getfield 57, 3), (35, .getfield 223, 3), (38, .ifCond .ne 6, 3), (41, .bipush (-3), 2), (43, .ireturn, 1), (44, .iload_n 2, 1), (45, .tableswitch 57 0 2 #[27, 37, 47], 27), (72, .aload_n 0, 1), (73, .getfield 57, 3), (76, .getfield 232, 3), (79, .iload_n 1, 1), (80, .iaload, 1), (81, .ireturn, 1), (82, .aload_n 0, 1), (83, .getfield 57, 3), (86, .getfield 235, 3), (89, .iload_n 1, 1), (90, .iaload, 1), (91, .ireturn, 1), (92, .aload_n 0, 1), (93, .getfield 57, 3), (96, .getfield 237, 3), (99, .iload_n 1, 1), (100, .iaload, 1), (101, .ireturn, 1), (102, .aload_n 0, 1), (103, .getfield 57, 3), (106, .getfield 223, 3), (109, .ireturn, 1)]
theorem dtX10_fitTold : dec_ok mX10_fitTold.2.1 tX10_fitTold = true := by decide +kernel
set_option maxHeartbeats 4000000 in
theorem c_X10_fitTold {I : Wd} {n : Nat} {i what : Int32} (hN : I 57 0 = nI n) (hN2 : n ≤ 5) : Cal SyC mX10_fitTold 1 [.ref 0, .int i, .int what] I (some (.int (vFitTold (I 58) (I 59) (I 60) (I 57 0) (I 57 1) i what))) I := by
  refine Cal.of (by decide) (Nat.le_of_ble_eq_true rfl) ?_
  show Bd _ _ _ _ [(0, _), (1, _), (2, _)] _ _ _ _
  refine b_iload_n (pc := 0) (i := 1) (dd dtX10_fitTold 0 rfl) rfl rfl ?_
  refine b_ic0 (pc := 1) (dd dtX10_fitTold 1 rfl) ?_
  refine b_aload_n (pc := 2) (i := 0) (dd dtX10_fitTold 2 rfl) rfl rfl ?_
  refine b_geta (pc := 3) (dd dtX10_fitTold 3 rfl) fwX10_57 pC_0 rC_0_8 ?_
  refine b_geti (pc := 6) (dd dtX10_fitTold 4 rfl) fwX10_229 pC_57 ?_
  refine b_ic1 (pc := 9) (dd dtX10_fitTold 5 rfl) ?_
  refine b_isub (pc := 10) (dd dtX10_fitTold 6 rfl) ?_
  refine b_invS (pc := 11) (dd dtX10_fitTold 7 rfl) mlX10_97 mvX10_within msX10_within (c_X10_within) rfl rfl (by decide) (Nat.le_of_ble_eq_true rfl) ?_
  refine b_ifb_ne (pc := 14) (tgt := 19) (dd dtX10_fitTold 8 rfl) (by decide) (fun h14 => ?_) (fun h14 => ?_)
  · refine b_iload_n (pc := 19) (i := 2) (dd dtX10_fitTold 11 rfl) rfl rfl ?_
    refine b_ic0 (pc := 20) (dd dtX10_fitTold 12 rfl) ?_
    refine b_ic3 (pc := 21) (dd dtX10_fitTold 13 rfl) ?_
    refine b_invS (pc := 22) (dd dtX10_fitTold 14 rfl) mlX10_97 mvX10_within msX10_within (c_X10_within) rfl rfl (by decide) (Nat.le_of_ble_eq_true rfl) ?_
    refine b_ifb_ne (pc := 25) (tgt := 31) (dd dtX10_fitTold 15 rfl) (by decide) (fun h25 => ?_) (fun h25 => ?_)
    · refine b_aload_n (pc := 31) (i := 0) (dd dtX10_fitTold 18 rfl) rfl rfl ?_
      refine b_geta (pc := 32) (dd dtX10_fitTold 19 rfl) fwX10_57 pC_0 rC_0_8 ?_
      refine b_geti (pc := 35) (dd dtX10_fitTold 20 rfl) fwX10_223 pC_57 ?_
      refine b_if_ne (pc := 38) (tgt := 44) (dd dtX10_fitTold 21 rfl) (by decide) (fun h38 => ?_) (fun h38 => ?_)
      · refine b_iload_n (pc := 44) (i := 2) (dd dtX10_fitTold 24 rfl) rfl rfl ?_
        refine b_tsw (pc := 45) (ts := [(0, 72), (1, 82), (2, 92)]) (dfl := 102) (dd dtX10_fitTold 25 rfl) (by decide +kernel) ⟨fun h45 => ?_, fun h45_0 => ⟨fun h45 => ?_, fun h45_1 => ⟨fun h45 => ?_, fun h45_2 => ?_⟩⟩⟩
        · refine b_aload_n (pc := 72) (i := 0) (dd dtX10_fitTold 26 rfl) rfl rfl ?_
          refine b_geta (pc := 73) (dd dtX10_fitTold 27 rfl) fwX10_57 pC_0 rC_0_8 ?_
          refine b_geta (pc := 76) (dd dtX10_fitTold 28 rfl) fwX10_232 pC_57 rC_57_4 ?_
          refine b_iload_n (pc := 79) (i := 1) (dd dtX10_fitTold 29 rfl) rfl rfl ?_
          refine b_iald (pc := 80) (dd dtX10_fitTold 30 rfl) pC_58 (vpm (by rw [hN] at h14; exact h14) hN2 (by decide)) ?_
          refine b_eq (b_iret (dd dtX10_fitTold 31 rfl) rfl) ?_ ?_
          · (try clear hN); simp [inR, vFitTold, -Int32.not_lt, -Int32.not_le, *]
          · (try clear hN); simp [inR, vFitTold, -Int32.not_lt, -Int32.not_le, *]
        · refine b_aload_n (pc := 82) (i := 0) (dd dtX10_fitTold 32 rfl) rfl rfl ?_
          refine b_geta (pc := 83) (dd dtX10_fitTold 33 rfl) fwX10_57 pC_0 rC_0_8 ?_
          refine b_geta (pc := 86) (dd dtX10_fitTold 34 rfl) fwX10_235 pC_57 rC_57_5 ?_
          refine b_iload_n (pc := 89) (i := 1) (dd dtX10_fitTold 35 rfl) rfl rfl ?_
          refine b_iald (pc := 90) (dd dtX10_fitTold 36 rfl) pC_59 (vpm (by rw [hN] at h14; exact h14) hN2 (by decide)) ?_
          refine b_eq (b_iret (dd dtX10_fitTold 37 rfl) rfl) ?_ ?_
          · (try clear hN); simp [inR, vFitTold, -Int32.not_lt, -Int32.not_le, *]
          · (try clear hN); simp [inR, vFitTold, -Int32.not_lt, -Int32.not_le, *]
        · refine b_aload_n (pc := 92) (i := 0) (dd dtX10_fitTold 38 rfl) rfl rfl ?_
          refine b_geta (pc := 93) (dd dtX10_fitTold 39 rfl) fwX10_57 pC_0 rC_0_8 ?_
          refine b_geta (pc := 96) (dd dtX10_fitTold 40 rfl) fwX10_237 pC_57 rC_57_6 ?_
          refine b_iload_n (pc := 99) (i := 1) (dd dtX10_fitTold 41 rfl) rfl rfl ?_
          refine b_iald (pc := 100) (dd dtX10_fitTold 42 rfl) pC_60 (vpm (by rw [hN] at h14; exact h14) hN2 (by decide)) ?_
          refine b_eq (b_iret (dd dtX10_fitTold 43 rfl) rfl) ?_ ?_
          · (try clear hN); simp [inR, vFitTold, -Int32.not_lt, -Int32.not_le, *]
          · (try clear hN); simp [inR, vFitTold, -Int32.not_lt, -Int32.not_le, *]
        · refine b_aload_n (pc := 102) (i := 0) (dd dtX10_fitTold 44 rfl) rfl rfl ?_
          refine b_geta (pc := 103) (dd dtX10_fitTold 45 rfl) fwX10_57 pC_0 rC_0_8 ?_
          refine b_geti (pc := 106) (dd dtX10_fitTold 46 rfl) fwX10_223 pC_57 ?_
          refine b_eq (b_iret (dd dtX10_fitTold 47 rfl) rfl) ?_ ?_
          · (try clear hN); simp [inR, vFitTold, -Int32.not_lt, -Int32.not_le, *]
          · (try clear hN); simp [inR, vFitTold, -Int32.not_lt, -Int32.not_le, *]
      · refine b_bipush (pc := 41) (v := -3) (dd dtX10_fitTold 22 rfl) (by decide) ?_
        refine b_eq (b_iret (dd dtX10_fitTold 23 rfl) rfl) ?_ ?_
        · (try clear hN); simp [inR, vFitTold, -Int32.not_lt, -Int32.not_le, *]
        · (try clear hN); simp [inR, vFitTold, -Int32.not_lt, -Int32.not_le, *]
    · refine b_bipush (pc := 28) (v := -2) (dd dtX10_fitTold 16 rfl) (by decide) ?_
      refine b_eq (b_iret (dd dtX10_fitTold 17 rfl) rfl) ?_ ?_
      · (try clear hN); simp [inR, vFitTold, -Int32.not_lt, -Int32.not_le, *]
      · (try clear hN); simp [inR, vFitTold, -Int32.not_lt, -Int32.not_le, *]
  · refine b_icm1 (pc := 17) (dd dtX10_fitTold 9 rfl) ?_
    refine b_eq (b_iret (dd dtX10_fitTold 10 rfl) rfl) ?_ ?_
    · (try clear hN); simp [inR, vFitTold, -Int32.not_lt, -Int32.not_le, *]
    · (try clear hN); simp [inR, vFitTold, -Int32.not_lt, -Int32.not_le, *]
def tX10_force : List (Nat × Instr × Nat) := [(0, .iload_n 1, 1), (1, .iconst 0, 1), (2, .aload_n 0, 1), (3, .getfield 64, 3), (6, .getfield 250, 3), (9, .iconst 1, 1), (10, .isub, 1), (11, .invokestatic 97, 3), (14, .ifCond .ne 6, 3), (17, .bipush (-2), 2), (19, .ireturn, 1), (20, .aload_n 0, 1), (21, .getfield 64, 3), (24, .getfield 253, 3), (27, .istore_n 2, 1), (28, .aload_n 0, 1), (29, .getfield 64, 3), (32, .iload_n 1, 1), (33, .putfield 253, 3), (36, .iload_n 2, 1), (37, .ireturn, 1)]
theorem dtX10_force : dec_ok mX10_force.2.1 tX10_force = true := by decide +kernel
set_option maxHeartbeats 4000000 in
theorem c_X10_force {I : Wd} {t : Int32} : Cal SyC mX10_force 1 [.ref 0, .int t] I (some (.int (vForce (I 66 1) (I 66 2) t))) (if inR t 0 (I 66 1 - 1) then ist I 66 2 t else I) := by
  refine Cal.of (by decide) (Nat.le_of_ble_eq_true rfl) ?_
  show Bd _ _ _ _ [(0, _), (1, _)] _ _ _ _
  refine b_iload_n (pc := 0) (i := 1) (dd dtX10_force 0 rfl) rfl rfl ?_
  refine b_ic0 (pc := 1) (dd dtX10_force 1 rfl) ?_
  refine b_aload_n (pc := 2) (i := 0) (dd dtX10_force 2 rfl) rfl rfl ?_
  refine b_geta (pc := 3) (dd dtX10_force 3 rfl) fwX10_64 pC_0 rC_0_9 ?_
  refine b_geti (pc := 6) (dd dtX10_force 4 rfl) fwX10_250 pC_66 ?_
  refine b_ic1 (pc := 9) (dd dtX10_force 5 rfl) ?_
  refine b_isub (pc := 10) (dd dtX10_force 6 rfl) ?_
  refine b_invS (pc := 11) (dd dtX10_force 7 rfl) mlX10_97 mvX10_within msX10_within (c_X10_within) rfl rfl (by decide) (Nat.le_of_ble_eq_true rfl) ?_
  refine b_ifb_ne (pc := 14) (tgt := 20) (dd dtX10_force 8 rfl) (by decide) (fun h14 => ?_) (fun h14 => ?_)
  · refine b_aload_n (pc := 20) (i := 0) (dd dtX10_force 11 rfl) rfl rfl ?_
    refine b_geta (pc := 21) (dd dtX10_force 12 rfl) fwX10_64 pC_0 rC_0_9 ?_
    refine b_geti (pc := 24) (dd dtX10_force 13 rfl) fwX10_253 pC_66 ?_
    refine b_istore_n (pc := 27) (i := 2) (lv' := [(2, _), (0, _), (1, _)]) (dd dtX10_force 14 rfl) rfl (Nat.le_of_ble_eq_true rfl) rfl ?_
    refine b_aload_n (pc := 28) (i := 0) (dd dtX10_force 15 rfl) rfl rfl ?_
    refine b_geta (pc := 29) (dd dtX10_force 16 rfl) fwX10_64 pC_0 rC_0_9 ?_
    refine b_iload_n (pc := 32) (i := 1) (dd dtX10_force 17 rfl) rfl rfl ?_
    refine b_puti (pc := 33) (dd dtX10_force 18 rfl) fwX10_253 pC_66 ?_
    refine b_iload_n (pc := 36) (i := 2) (dd dtX10_force 19 rfl) rfl rfl ?_
    refine b_eq (b_iret (dd dtX10_force 20 rfl) rfl) ?_ ?_
    · (try clear hN); simp [inR, vForce, -Int32.not_lt, -Int32.not_le, *]
    · (try clear hN); simp [inR, vForce, -Int32.not_lt, -Int32.not_le, *]
  · refine b_bipush (pc := 17) (v := -2) (dd dtX10_force 9 rfl) (by decide) ?_
    refine b_eq (b_iret (dd dtX10_force 10 rfl) rfl) ?_ ?_
    · (try clear hN); simp [inR, vForce, -Int32.not_lt, -Int32.not_le, *]
    · (try clear hN); simp [inR, vForce, -Int32.not_lt, -Int32.not_le, *]
def tX10_lookTold : List (Nat × Instr × Nat) := [(0, .aload_n 0, 1), (1, .getfield 78, 3), (4, .ireturn, 1)]
theorem dtX10_lookTold : dec_ok mX10_lookTold.2.1 tX10_lookTold = true := by decide +kernel
set_option maxHeartbeats 4000000 in
theorem c_X10_lookTold {I : Wd} : Cal SyC mX10_lookTold 0 [.ref 0] I (some (.int (I 0 12))) I := by
  refine Cal.of (by decide) (Nat.le_of_ble_eq_true rfl) ?_
  show Bd _ _ _ _ [(0, _)] _ _ _ _
  refine b_aload_n (pc := 0) (i := 0) (dd dtX10_lookTold 0 rfl) rfl rfl ?_
  refine b_geti (pc := 1) (dd dtX10_lookTold 1 rfl) fwX10_78 pC_0 ?_
  exact b_eq (b_iret (dd dtX10_lookTold 2 rfl) rfl) rfl rfl
def tX10_planned : List (Nat × Instr × Nat) := [(0, .aload_n 0, 1), (1, .getfield 82, 3), (4, .ireturn, 1)]
theorem dtX10_planned : dec_ok mX10_planned.2.1 tX10_planned = true := by decide +kernel
set_option maxHeartbeats 4000000 in
theorem c_X10_planned {I : Wd} : Cal SyC mX10_planned 0 [.ref 0] I (some (.int (I 0 13))) I := by
  refine Cal.of (by decide) (Nat.le_of_ble_eq_true rfl) ?_
  show Bd _ _ _ _ [(0, _)] _ _ _ _
  refine b_aload_n (pc := 0) (i := 0) (dd dtX10_planned 0 rfl) rfl rfl ?_
  refine b_geti (pc := 1) (dd dtX10_planned 1 rfl) fwX10_82 pC_0 ?_
  exact b_eq (b_iret (dd dtX10_planned 2 rfl) rfl) rfl rfl
def tX10_warn : List (Nat × Instr × Nat) := [(0, .iload_n 1, 1), (1, .invokestatic 93, 3), (4, .ifCond .ne 5, 3), (7, .iconst (-1), 1), (8, .ireturn, 1), (9, .aload_n 0, 1), (10, .getfield 21, 3), (13, .iload_n 1, 1), (14, .invokevirtual 101, 3), (17, .ifCond .eq 6, 3), (20, .bipush (-3), 2), (22, .ireturn, 1), (23, .aload_n 0, 1), (24, .getfield 51, 3), (27, .invokevirtual 202, 3), (30, .ifCond .eq 6, 3), (33, .bipush (-4), 2), (35, .ireturn, 1), (36, .aload_n 0, 1), (37, .getfield 51, 3), (40, .iload_n 1, 1), (41, .iconst 0, 1), (42, .aload_n 0, 1), (43, .getfield 21, 3), (46, .getfield 150, 3), (49, .invokevirtual 206, 3), (52, .ireturn, 1)]
theorem dtX10_warn : dec_ok mX10_warn.2.1 tX10_warn = true := by decide +kernel
set_option maxHeartbeats 4000000 in
theorem c_X10_warn {I : Wd} {N : Nat} {c : Int32} (hN : I 53 0 = nI N) (hN2 : N ≤ 30) : Cal SyC mX10_warn 2 [.ref 0, .int c] I (some (.int (vWarn (I 10) N c))) (if okWarn (I 10) N c then (ist (ist (ist (ist I 54 N c) 55 N 0) 56 N (I 6 1)) 53 0 (nI (N + 1))) else I) := by
  refine Cal.of (by decide) (Nat.le_of_ble_eq_true rfl) ?_
  show Bd _ _ _ _ [(0, _), (1, _)] _ _ _ _
  refine b_iload_n (pc := 0) (i := 1) (dd dtX10_warn 0 rfl) rfl rfl ?_
  refine b_invS (pc := 1) (dd dtX10_warn 1 rfl) mlX10_93 mvX10_isCell msX10_isCell (c_X10_isCell) rfl rfl (by decide) (Nat.le_of_ble_eq_true rfl) ?_
  refine b_ifb_ne (pc := 4) (tgt := 9) (dd dtX10_warn 2 rfl) (by decide) (fun h4 => ?_) (fun h4 => ?_)
  · refine b_aload_n (pc := 9) (i := 0) (dd dtX10_warn 5 rfl) rfl rfl ?_
    refine b_geta (pc := 10) (dd dtX10_warn 6 rfl) fwX10_21 pC_0 rC_0_1 ?_
    refine b_iload_n (pc := 13) (i := 1) (dd dtX10_warn 7 rfl) rfl rfl ?_
    refine b_invV (pc := 14) (dd dtX10_warn 8 rfl) mlX10_101 mvX2_hasFallen miX2_hasFallen (c_X2_hasFallen_6 (vpc (by assumption) (by decide))) oC_6 rfl rfl (by decide) (Nat.le_of_ble_eq_true rfl) ?_
    refine b_ifn_eq (pc := 17) (tgt := 23) (dd dtX10_warn 9 rfl) (by decide) (fun h17 => ?_) (fun h17 => ?_)
    · refine b_aload_n (pc := 23) (i := 0) (dd dtX10_warn 12 rfl) rfl rfl ?_
      refine b_geta (pc := 24) (dd dtX10_warn 13 rfl) fwX10_51 pC_0 rC_0_7 ?_
      refine b_invV (pc := 27) (dd dtX10_warn 14 rfl) mlX10_202 mvX9_isFull miX9_isFull (c_X9_isFull_53 hN hN2) oC_53 rfl rfl (by decide) (Nat.le_of_ble_eq_true rfl) ?_
      refine b_ifn_eq (pc := 30) (tgt := 36) (dd dtX10_warn 15 rfl) (by decide) (fun h30 => ?_) (fun h30 => ?_)
      · refine b_aload_n (pc := 36) (i := 0) (dd dtX10_warn 18 rfl) rfl rfl ?_
        refine b_geta (pc := 37) (dd dtX10_warn 19 rfl) fwX10_51 pC_0 rC_0_7 ?_
        refine b_iload_n (pc := 40) (i := 1) (dd dtX10_warn 20 rfl) rfl rfl ?_
        refine b_ic0 (pc := 41) (dd dtX10_warn 21 rfl) ?_
        refine b_aload_n (pc := 42) (i := 0) (dd dtX10_warn 22 rfl) rfl rfl ?_
        refine b_geta (pc := 43) (dd dtX10_warn 23 rfl) fwX10_21 pC_0 rC_0_1 ?_
        refine b_geti (pc := 46) (dd dtX10_warn 24 rfl) fwX10_150 pC_6 ?_
        refine b_invV (pc := 49) (dd dtX10_warn 25 rfl) mlX10_206 mvX9_add miX9_add (c_X9_add_53 hN h30) oC_53 rfl rfl (by decide) (Nat.le_of_ble_eq_true rfl) ?_
        refine b_eq (b_iret (dd dtX10_warn 26 rfl) rfl) ?_ ?_
        · (try clear hN); simp [inR, vWarn, okWarn, -Int32.not_lt, -Int32.not_le, *]
        · (try clear hN); simp [inR, vWarn, okWarn, -Int32.not_lt, -Int32.not_le, *]
      · refine b_bipush (pc := 33) (v := -4) (dd dtX10_warn 16 rfl) (by decide) ?_
        refine b_eq (b_iret (dd dtX10_warn 17 rfl) rfl) ?_ ?_
        · (try clear hN); simp [inR, vWarn, okWarn, -Int32.not_lt, -Int32.not_le, *]
        · (try clear hN); simp [inR, vWarn, okWarn, -Int32.not_lt, -Int32.not_le, *]
    · refine b_bipush (pc := 20) (v := -3) (dd dtX10_warn 10 rfl) (by decide) ?_
      refine b_eq (b_iret (dd dtX10_warn 11 rfl) rfl) ?_ ?_
      · (try clear hN); simp [inR, vWarn, okWarn, -Int32.not_lt, -Int32.not_le, *]
      · (try clear hN); simp [inR, vWarn, okWarn, -Int32.not_lt, -Int32.not_le, *]
  · refine b_icm1 (pc := 7) (dd dtX10_warn 3 rfl) ?_
    refine b_eq (b_iret (dd dtX10_warn 4 rfl) rfl) ?_ ?_
    · (try clear hN); simp [inR, vWarn, okWarn, -Int32.not_lt, -Int32.not_le, *]
    · (try clear hN); simp [inR, vWarn, okWarn, -Int32.not_lt, -Int32.not_le, *]
def tX10_cellTold : List (Nat × Instr × Nat) := [(0, .iload_n 1, 1), (1, .invokestatic 93, 3), (4, .ifCond .ne 6, 3), (7, .bipush (-5), 2), (9, .ireturn, 1), (10, .iload_n 2, 1), (11, .tableswitch 98 0 4 #[33, 43, 53, 63, 89], 33), (44, .aload_n 0, 1), (45, .getfield 21, 3), (48, .getfield 107, 3), (51, .iload_n 1, 1), (52, .iaload, 1), (53, .ireturn, 1), (54, .aload_n 0, 1), (55, .getfield 21, 3), (58, .getfield 315, 3), (61, .iload_n 1, 1), (62, .iaload, 1), (63, .ireturn, 1), (64, .aload_n 0, 1), (65, .getfield 21, 3), (68, .getfield 318, 3), (71, .iload_n 1, 1), (72, .iaload, 1), (73, .ireturn, 1), (74, .aload_n 0, 1), (75, .getfield 21, 3), (78, .iload_n 1, 1), (79, .invokevirtual 101, 3), (82, .ifCond .eq 15, 3), (85, .aload_n 0, 1), (86, .getfield 21, 3), (89, .getfield 104, 3), (92, .iload_n 1, 1), (93, .iaload, 1), (94, .goto 5, 3), (97, .bipush (-3), 2), (99, .ireturn, 1), (100, .aload_n 0, 1), (101, .getfield 21, 3), (104, .iload_n 1, 1), (105, .invokevirtual 261, 3), (108, .ireturn, 1), (109, .bipush (-7), 2), (111, .ireturn, 1)]
theorem dtX10_cellTold : dec_ok mX10_cellTold.2.1 tX10_cellTold = true := by decide +kernel
set_option maxHeartbeats 4000000 in
theorem c_X10_cellTold {I : Wd} {N : Nat} {c what : Int32} (hN : I 1 0 = nI N) (hN2 : N ≤ 14) : Cal SyC mX10_cellTold 2 [.ref 0, .int c, .int what] I (some (.int (vCellTold (I 7) (I 9) (I 10) (I 8) (sPeople (I 2) (I 14) (I 15) (I 4) c N) c what))) I := by
  refine Cal.of (by decide) (Nat.le_of_ble_eq_true rfl) ?_
  show Bd _ _ _ _ [(0, _), (1, _), (2, _)] _ _ _ _
  refine b_iload_n (pc := 0) (i := 1) (dd dtX10_cellTold 0 rfl) rfl rfl ?_
  refine b_invS (pc := 1) (dd dtX10_cellTold 1 rfl) mlX10_93 mvX10_isCell msX10_isCell (c_X10_isCell) rfl rfl (by decide) (Nat.le_of_ble_eq_true rfl) ?_
  refine b_ifb_ne (pc := 4) (tgt := 10) (dd dtX10_cellTold 2 rfl) (by decide) (fun h4 => ?_) (fun h4 => ?_)
  · refine b_iload_n (pc := 10) (i := 2) (dd dtX10_cellTold 5 rfl) rfl rfl ?_
    refine b_tsw (pc := 11) (ts := [(0, 44), (1, 54), (2, 64), (3, 74), (4, 100)]) (dfl := 109) (dd dtX10_cellTold 6 rfl) (by decide +kernel) ⟨fun h11 => ?_, fun h11_0 => ⟨fun h11 => ?_, fun h11_1 => ⟨fun h11 => ?_, fun h11_2 => ⟨fun h11 => ?_, fun h11_3 => ⟨fun h11 => ?_, fun h11_4 => ?_⟩⟩⟩⟩⟩
    · refine b_aload_n (pc := 44) (i := 0) (dd dtX10_cellTold 7 rfl) rfl rfl ?_
      refine b_geta (pc := 45) (dd dtX10_cellTold 8 rfl) fwX10_21 pC_0 rC_0_1 ?_
      refine b_geta (pc := 48) (dd dtX10_cellTold 9 rfl) fwX10_107 pC_6 rC_6_5 ?_
      refine b_iload_n (pc := 51) (i := 1) (dd dtX10_cellTold 10 rfl) rfl rfl ?_
      refine b_iald (pc := 52) (dd dtX10_cellTold 11 rfl) pC_7 (vpc (by assumption) (by decide)) ?_
      refine b_eq (b_iret (dd dtX10_cellTold 12 rfl) rfl) ?_ ?_
      · (try clear hN); simp [inR, vCellTold, -Int32.not_lt, -Int32.not_le, *]
      · (try clear hN); simp [inR, vCellTold, -Int32.not_lt, -Int32.not_le, *]
    · refine b_aload_n (pc := 54) (i := 0) (dd dtX10_cellTold 13 rfl) rfl rfl ?_
      refine b_geta (pc := 55) (dd dtX10_cellTold 14 rfl) fwX10_21 pC_0 rC_0_1 ?_
      refine b_geta (pc := 58) (dd dtX10_cellTold 15 rfl) fwX10_315 pC_6 rC_6_7 ?_
      refine b_iload_n (pc := 61) (i := 1) (dd dtX10_cellTold 16 rfl) rfl rfl ?_
      refine b_iald (pc := 62) (dd dtX10_cellTold 17 rfl) pC_9 (vpc (by assumption) (by decide)) ?_
      refine b_eq (b_iret (dd dtX10_cellTold 18 rfl) rfl) ?_ ?_
      · (try clear hN); simp [inR, vCellTold, -Int32.not_lt, -Int32.not_le, *]
      · (try clear hN); simp [inR, vCellTold, -Int32.not_lt, -Int32.not_le, *]
    · refine b_aload_n (pc := 64) (i := 0) (dd dtX10_cellTold 19 rfl) rfl rfl ?_
      refine b_geta (pc := 65) (dd dtX10_cellTold 20 rfl) fwX10_21 pC_0 rC_0_1 ?_
      refine b_geta (pc := 68) (dd dtX10_cellTold 21 rfl) fwX10_318 pC_6 rC_6_8 ?_
      refine b_iload_n (pc := 71) (i := 1) (dd dtX10_cellTold 22 rfl) rfl rfl ?_
      refine b_iald (pc := 72) (dd dtX10_cellTold 23 rfl) pC_10 (vpc (by assumption) (by decide)) ?_
      refine b_eq (b_iret (dd dtX10_cellTold 24 rfl) rfl) ?_ ?_
      · (try clear hN); simp [inR, vCellTold, -Int32.not_lt, -Int32.not_le, *]
      · (try clear hN); simp [inR, vCellTold, -Int32.not_lt, -Int32.not_le, *]
    · refine b_aload_n (pc := 74) (i := 0) (dd dtX10_cellTold 25 rfl) rfl rfl ?_
      refine b_geta (pc := 75) (dd dtX10_cellTold 26 rfl) fwX10_21 pC_0 rC_0_1 ?_
      refine b_iload_n (pc := 78) (i := 1) (dd dtX10_cellTold 27 rfl) rfl rfl ?_
      refine b_invV (pc := 79) (dd dtX10_cellTold 28 rfl) mlX10_101 mvX2_hasFallen miX2_hasFallen (c_X2_hasFallen_6 (vpc (by assumption) (by decide))) oC_6 rfl rfl (by decide) (Nat.le_of_ble_eq_true rfl) ?_
      refine b_ifn_eq (pc := 82) (tgt := 97) (dd dtX10_cellTold 29 rfl) (by decide) (fun h82 => ?_) (fun h82 => ?_)
      · refine b_bipush (pc := 97) (v := -3) (dd dtX10_cellTold 36 rfl) (by decide) ?_
        refine b_eq (b_iret (dd dtX10_cellTold 37 rfl) rfl) ?_ ?_
        · (try clear hN); simp [inR, vCellTold, -Int32.not_lt, -Int32.not_le, *]
        · (try clear hN); simp [inR, vCellTold, -Int32.not_lt, -Int32.not_le, *]
      · refine b_aload_n (pc := 85) (i := 0) (dd dtX10_cellTold 30 rfl) rfl rfl ?_
        refine b_geta (pc := 86) (dd dtX10_cellTold 31 rfl) fwX10_21 pC_0 rC_0_1 ?_
        refine b_geta (pc := 89) (dd dtX10_cellTold 32 rfl) fwX10_104 pC_6 rC_6_6 ?_
        refine b_iload_n (pc := 92) (i := 1) (dd dtX10_cellTold 33 rfl) rfl rfl ?_
        refine b_iald (pc := 93) (dd dtX10_cellTold 34 rfl) pC_8 (vpc (by assumption) (by decide)) ?_
        refine b_goto (pc := 94) (tgt := 99) (dd dtX10_cellTold 35 rfl) (by decide) ?_
        refine b_eq (b_iret (dd dtX10_cellTold 37 rfl) rfl) ?_ ?_
        · (try clear hN); simp [inR, vCellTold, -Int32.not_lt, -Int32.not_le, *]
        · (try clear hN); simp [inR, vCellTold, -Int32.not_lt, -Int32.not_le, *]
    · refine b_aload_n (pc := 100) (i := 0) (dd dtX10_cellTold 38 rfl) rfl rfl ?_
      refine b_geta (pc := 101) (dd dtX10_cellTold 39 rfl) fwX10_21 pC_0 rC_0_1 ?_
      refine b_iload_n (pc := 104) (i := 1) (dd dtX10_cellTold 40 rfl) rfl rfl ?_
      refine b_invV (pc := 105) (dd dtX10_cellTold 41 rfl) mlX10_261 mvX2_peopleAt miX2_peopleAt (c_X2_peopleAt_6 hN hN2) oC_6 rfl rfl (by decide) (Nat.le_of_ble_eq_true rfl) ?_
      refine b_eq (b_iret (dd dtX10_cellTold 42 rfl) rfl) ?_ ?_
      · (try clear hN); simp [inR, vCellTold, -Int32.not_lt, -Int32.not_le, *]
      · (try clear hN); simp [inR, vCellTold, -Int32.not_lt, -Int32.not_le, *]
    · refine b_bipush (pc := 109) (v := -7) (dd dtX10_cellTold 43 rfl) (by decide) ?_
      refine b_eq (b_iret (dd dtX10_cellTold 44 rfl) rfl) ?_ ?_
      · (try clear hN); simp [inR, vCellTold, -Int32.not_lt, -Int32.not_le, *]
      · (try clear hN); simp [inR, vCellTold, -Int32.not_lt, -Int32.not_le, *]
  · refine b_bipush (pc := 7) (v := -5) (dd dtX10_cellTold 3 rfl) (by decide) ?_
    refine b_eq (b_iret (dd dtX10_cellTold 4 rfl) rfl) ?_ ?_
    · (try clear hN); simp [inR, vCellTold, -Int32.not_lt, -Int32.not_le, *]
    · (try clear hN); simp [inR, vCellTold, -Int32.not_lt, -Int32.not_le, *]
def tX10_houseTold : List (Nat × Instr × Nat) := [(0, .aload_n 0, 1), (1, .iload_n 1, 1), (2, .invokevirtual 131, 3), (5, .ifCond .ne 6, 3), (8, .bipush (-5), 2), (10, .ireturn, 1), (11, .iload_n 2, 1), (12, .tableswitch 94 0 4 #[36, 46, 56, 66, 76], 36), (48, .aload_n 0, 1), (49, .getfield 10, 3), (52, .getfield 266, 3), (55, .iload_n 1, 1), (56, .iaload, 1), (57, .ireturn, 1), (58, .aload_n 0, 1), (59, .getfield 10, 3), (62, .getfield 321, 3), (65, .iload_n 1, 1), (66, .iaload, 1), (67, .ireturn, 1), (68, .aload_n 0, 1), (69, .getfield 10, 3), (72, .getfield 141, 3), (75, .iload_n 1, 1), (76, .iaload, 1), (77, .ireturn, 1), (78, .aload_n 0, 1), (79, .getfield 21, 3), (82, .getfield 134, 3), (85, .iload_n 1, 1), (86, .iaload, 1), (87, .ireturn, 1), (88, .aload_n 0, 1), (89, .getfield 21, 3), (92, .getfield 137, 3), (95, .iload_n 1, 1), (96, .baload, 1), (97, .ifCond .eq 7, 3), (100, .iconst 1, 1), (101, .goto 4, 3), (104, .iconst 0, 1), (105, .ireturn, 1), (106, .bipush (-7), 2), (108, .ireturn, 1)]
theorem dtX10_houseTold : dec_ok mX10_houseTold.2.1 tX10_houseTold = true := by decide +kernel
set_option maxHeartbeats 4000000 in
theorem c_X10_houseTold {I : Wd} {N : Nat} {h what : Int32} (hN : I 1 0 = nI N) (hN2 : N ≤ 14) : Cal SyC mX10_houseTold 2 [.ref 0, .int h, .int what] I (some (.int (vHouseTold (I 2) (I 3) (I 4) (I 14) (I 15) (I 1 0) h what))) I := by
  refine Cal.of (by decide) (Nat.le_of_ble_eq_true rfl) ?_
  show Bd _ _ _ _ [(0, _), (1, _), (2, _)] _ _ _ _
  refine b_aload_n (pc := 0) (i := 0) (dd dtX10_houseTold 0 rfl) rfl rfl ?_
  refine b_iload_n (pc := 1) (i := 1) (dd dtX10_houseTold 1 rfl) rfl rfl ?_
  refine b_invV (pc := 2) (dd dtX10_houseTold 2 rfl) mlX10_131 mvX10_isHouse miX10_isHouse (c_X10_isHouse) oC_0 rfl rfl (by decide) (Nat.le_of_ble_eq_true rfl) ?_
  refine b_ifb_ne (pc := 5) (tgt := 11) (dd dtX10_houseTold 3 rfl) (by decide) (fun h5 => ?_) (fun h5 => ?_)
  · refine b_iload_n (pc := 11) (i := 2) (dd dtX10_houseTold 6 rfl) rfl rfl ?_
    refine b_tsw (pc := 12) (ts := [(0, 48), (1, 58), (2, 68), (3, 78), (4, 88)]) (dfl := 106) (dd dtX10_houseTold 7 rfl) (by decide +kernel) ⟨fun h12 => ?_, fun h12_0 => ⟨fun h12 => ?_, fun h12_1 => ⟨fun h12 => ?_, fun h12_2 => ⟨fun h12 => ?_, fun h12_3 => ⟨fun h12 => ?_, fun h12_4 => ?_⟩⟩⟩⟩⟩
    · refine b_aload_n (pc := 48) (i := 0) (dd dtX10_houseTold 8 rfl) rfl rfl ?_
      refine b_geta (pc := 49) (dd dtX10_houseTold 9 rfl) fwX10_10 pC_0 rC_0_0 ?_
      refine b_geta (pc := 52) (dd dtX10_houseTold 10 rfl) fwX10_266 pC_1 rC_1_2 ?_
      refine b_iload_n (pc := 55) (i := 1) (dd dtX10_houseTold 11 rfl) rfl rfl ?_
      refine b_iald (pc := 56) (dd dtX10_houseTold 12 rfl) pC_2 (vpm (by rw [hN] at h5; exact h5) hN2 (by decide)) ?_
      refine b_eq (b_iret (dd dtX10_houseTold 13 rfl) rfl) ?_ ?_
      · (try clear hN); simp [inR, vHouseTold, -Int32.not_lt, -Int32.not_le, *]
      · (try clear hN); simp [inR, vHouseTold, -Int32.not_lt, -Int32.not_le, *]
    · refine b_aload_n (pc := 58) (i := 0) (dd dtX10_houseTold 14 rfl) rfl rfl ?_
      refine b_geta (pc := 59) (dd dtX10_houseTold 15 rfl) fwX10_10 pC_0 rC_0_0 ?_
      refine b_geta (pc := 62) (dd dtX10_houseTold 16 rfl) fwX10_321 pC_1 rC_1_3 ?_
      refine b_iload_n (pc := 65) (i := 1) (dd dtX10_houseTold 17 rfl) rfl rfl ?_
      refine b_iald (pc := 66) (dd dtX10_houseTold 18 rfl) pC_3 (vpm (by rw [hN] at h5; exact h5) hN2 (by decide)) ?_
      refine b_eq (b_iret (dd dtX10_houseTold 19 rfl) rfl) ?_ ?_
      · (try clear hN); simp [inR, vHouseTold, -Int32.not_lt, -Int32.not_le, *]
      · (try clear hN); simp [inR, vHouseTold, -Int32.not_lt, -Int32.not_le, *]
    · refine b_aload_n (pc := 68) (i := 0) (dd dtX10_houseTold 20 rfl) rfl rfl ?_
      refine b_geta (pc := 69) (dd dtX10_houseTold 21 rfl) fwX10_10 pC_0 rC_0_0 ?_
      refine b_geta (pc := 72) (dd dtX10_houseTold 22 rfl) fwX10_141 pC_1 rC_1_4 ?_
      refine b_iload_n (pc := 75) (i := 1) (dd dtX10_houseTold 23 rfl) rfl rfl ?_
      refine b_iald (pc := 76) (dd dtX10_houseTold 24 rfl) pC_4 (vpm (by rw [hN] at h5; exact h5) hN2 (by decide)) ?_
      refine b_eq (b_iret (dd dtX10_houseTold 25 rfl) rfl) ?_ ?_
      · (try clear hN); simp [inR, vHouseTold, -Int32.not_lt, -Int32.not_le, *]
      · (try clear hN); simp [inR, vHouseTold, -Int32.not_lt, -Int32.not_le, *]
    · refine b_aload_n (pc := 78) (i := 0) (dd dtX10_houseTold 26 rfl) rfl rfl ?_
      refine b_geta (pc := 79) (dd dtX10_houseTold 27 rfl) fwX10_21 pC_0 rC_0_1 ?_
      refine b_geta (pc := 82) (dd dtX10_houseTold 28 rfl) fwX10_134 pC_6 rC_6_12 ?_
      refine b_iload_n (pc := 85) (i := 1) (dd dtX10_houseTold 29 rfl) rfl rfl ?_
      refine b_iald (pc := 86) (dd dtX10_houseTold 30 rfl) pC_14 (vpm (by rw [hN] at h5; exact h5) hN2 (by decide)) ?_
      refine b_eq (b_iret (dd dtX10_houseTold 31 rfl) rfl) ?_ ?_
      · (try clear hN); simp [inR, vHouseTold, -Int32.not_lt, -Int32.not_le, *]
      · (try clear hN); simp [inR, vHouseTold, -Int32.not_lt, -Int32.not_le, *]
    · refine b_aload_n (pc := 88) (i := 0) (dd dtX10_houseTold 32 rfl) rfl rfl ?_
      refine b_geta (pc := 89) (dd dtX10_houseTold 33 rfl) fwX10_21 pC_0 rC_0_1 ?_
      refine b_geta (pc := 92) (dd dtX10_houseTold 34 rfl) fwX10_137 pC_6 rC_6_13 ?_
      refine b_iload_n (pc := 95) (i := 1) (dd dtX10_houseTold 35 rfl) rfl rfl ?_
      refine b_zald (pc := 96) (dd dtX10_houseTold 36 rfl) pC_15 (vpm (by rw [hN] at h5; exact h5) hN2 (by decide)) ?_
      refine b_if_eq (pc := 97) (tgt := 104) (dd dtX10_houseTold 37 rfl) (by decide) (fun h97 => ?_) (fun h97 => ?_)
      · refine b_ic0 (pc := 104) (dd dtX10_houseTold 40 rfl) ?_
        refine b_eq (b_iret (dd dtX10_houseTold 41 rfl) rfl) ?_ ?_
        · (try clear hN); simp [inR, vHouseTold, -Int32.not_lt, -Int32.not_le, *]
        · (try clear hN); simp [inR, vHouseTold, -Int32.not_lt, -Int32.not_le, *]
      · refine b_ic1 (pc := 100) (dd dtX10_houseTold 38 rfl) ?_
        refine b_goto (pc := 101) (tgt := 105) (dd dtX10_houseTold 39 rfl) (by decide) ?_
        refine b_eq (b_iret (dd dtX10_houseTold 41 rfl) rfl) ?_ ?_
        · (try clear hN); simp [inR, vHouseTold, -Int32.not_lt, -Int32.not_le, *]
        · (try clear hN); simp [inR, vHouseTold, -Int32.not_lt, -Int32.not_le, *]
    · refine b_bipush (pc := 106) (v := -7) (dd dtX10_houseTold 42 rfl) (by decide) ?_
      refine b_eq (b_iret (dd dtX10_houseTold 43 rfl) rfl) ?_ ?_
      · (try clear hN); simp [inR, vHouseTold, -Int32.not_lt, -Int32.not_le, *]
      · (try clear hN); simp [inR, vHouseTold, -Int32.not_lt, -Int32.not_le, *]
  · refine b_bipush (pc := 8) (v := -5) (dd dtX10_houseTold 4 rfl) (by decide) ?_
    refine b_eq (b_iret (dd dtX10_houseTold 5 rfl) rfl) ?_ ?_
    · (try clear hN); simp [inR, vHouseTold, -Int32.not_lt, -Int32.not_le, *]
    · (try clear hN); simp [inR, vHouseTold, -Int32.not_lt, -Int32.not_le, *]
def tX10_count : List (Nat × Instr × Nat) := [(0, .iload_n 1, 1), (1, .tableswitch 162 0 11 #[63, 71, 79, 87, 95, 103, 111, 119, 127, 135, 146, 154], 63), (64, .aload_n 0, 1), (65, .getfield 21, 3), (68, .getfield 150, 3), (71, .ireturn, 1), (72, .aload_n 0, 1), (73, .getfield 38, 3), (76, .getfield 153, 3), (79, .ireturn, 1), (80, .aload_n 0, 1), (81, .getfield 10, 3), (84, .getfield 111, 3), (87, .ireturn, 1), (88, .aload_n 0, 1), (89, .getfield 10, 3), (92, .getfield 118, 3), (95, .ireturn, 1), (96, .aload_n 0, 1), (97, .getfield 21, 3), (100, .getfield 328, 3), (103, .ireturn, 1), (104, .aload_n 0, 1), (105, .getfield 21, 3), (108, .getfield 331, 3), (111, .ireturn, 1), (112, .aload_n 0, 1), (113, .getfield 51, 3), (116, .getfield 346, 3), (119, .ireturn, 1), (120, .aload_n 0, 1), (121, .getfield 64, 3), (124, .getfield 250, 3), (127, .ireturn, 1), (128, .aload_n 0, 1), (129, .getfield 64, 3), (132, .getfield 253, 3), (135, .ireturn, 1), (136, .aload_n 0, 1), (137, .getfield 64, 3), (140, .getfield 240, 3), (143, .getfield 244, 3), (146, .ireturn, 1), (147, .aload_n 0, 1), (148, .getfield 47, 3), (151, .getfield 346, 3), (154, .ireturn, 1), (155, .aload_n 0, 1), (156, .getfield 21, 3), (159, .getfield 128, 3), (162, .ireturn, 1), (163, .bipush (-2), 2), (165, .ireturn, 1)]
theorem dtX10_count : dec_ok mX10_count.2.1 tX10_count = true := by decide +kernel
set_option maxHeartbeats 4000000 in
theorem c_X10_count {I : Wd} {what : Int32} : Cal SyC mX10_count 0 [.ref 0, .int what] I (some (.int (vCount (I 6 1) (I 42 0) (I 1 0) (I 1 1) (I 6 3) (I 6 4) (I 53 0) (I 66 1) (I 66 2) (I 67 0) (I 49 0) (I 6 2) what))) I := by
  refine Cal.of (by decide) (Nat.le_of_ble_eq_true rfl) ?_
  show Bd _ _ _ _ [(0, _), (1, _)] _ _ _ _
  refine b_iload_n (pc := 0) (i := 1) (dd dtX10_count 0 rfl) rfl rfl ?_
  refine b_tsw (pc := 1) (ts := [(0, 64), (1, 72), (2, 80), (3, 88), (4, 96), (5, 104), (6, 112), (7, 120), (8, 128), (9, 136), (10, 147), (11, 155)]) (dfl := 163) (dd dtX10_count 1 rfl) (by decide +kernel) ⟨fun h1 => ?_, fun h1_0 => ⟨fun h1 => ?_, fun h1_1 => ⟨fun h1 => ?_, fun h1_2 => ⟨fun h1 => ?_, fun h1_3 => ⟨fun h1 => ?_, fun h1_4 => ⟨fun h1 => ?_, fun h1_5 => ⟨fun h1 => ?_, fun h1_6 => ⟨fun h1 => ?_, fun h1_7 => ⟨fun h1 => ?_, fun h1_8 => ⟨fun h1 => ?_, fun h1_9 => ⟨fun h1 => ?_, fun h1_10 => ⟨fun h1 => ?_, fun h1_11 => ?_⟩⟩⟩⟩⟩⟩⟩⟩⟩⟩⟩⟩
  · refine b_aload_n (pc := 64) (i := 0) (dd dtX10_count 2 rfl) rfl rfl ?_
    refine b_geta (pc := 65) (dd dtX10_count 3 rfl) fwX10_21 pC_0 rC_0_1 ?_
    refine b_geti (pc := 68) (dd dtX10_count 4 rfl) fwX10_150 pC_6 ?_
    refine b_eq (b_iret (dd dtX10_count 5 rfl) rfl) ?_ ?_
    · (try clear hN); simp [inR, vCount, -Int32.not_lt, -Int32.not_le, *]
    · (try clear hN); simp [inR, vCount, -Int32.not_lt, -Int32.not_le, *]
  · refine b_aload_n (pc := 72) (i := 0) (dd dtX10_count 6 rfl) rfl rfl ?_
    refine b_geta (pc := 73) (dd dtX10_count 7 rfl) fwX10_38 pC_0 rC_0_5 ?_
    refine b_geti (pc := 76) (dd dtX10_count 8 rfl) fwX10_153 pC_42 ?_
    refine b_eq (b_iret (dd dtX10_count 9 rfl) rfl) ?_ ?_
    · (try clear hN); simp [inR, vCount, -Int32.not_lt, -Int32.not_le, *]
    · (try clear hN); simp [inR, vCount, -Int32.not_lt, -Int32.not_le, *]
  · refine b_aload_n (pc := 80) (i := 0) (dd dtX10_count 10 rfl) rfl rfl ?_
    refine b_geta (pc := 81) (dd dtX10_count 11 rfl) fwX10_10 pC_0 rC_0_0 ?_
    refine b_geti (pc := 84) (dd dtX10_count 12 rfl) fwX10_111 pC_1 ?_
    refine b_eq (b_iret (dd dtX10_count 13 rfl) rfl) ?_ ?_
    · (try clear hN); simp [inR, vCount, -Int32.not_lt, -Int32.not_le, *]
    · (try clear hN); simp [inR, vCount, -Int32.not_lt, -Int32.not_le, *]
  · refine b_aload_n (pc := 88) (i := 0) (dd dtX10_count 14 rfl) rfl rfl ?_
    refine b_geta (pc := 89) (dd dtX10_count 15 rfl) fwX10_10 pC_0 rC_0_0 ?_
    refine b_geti (pc := 92) (dd dtX10_count 16 rfl) fwX10_118 pC_1 ?_
    refine b_eq (b_iret (dd dtX10_count 17 rfl) rfl) ?_ ?_
    · (try clear hN); simp [inR, vCount, -Int32.not_lt, -Int32.not_le, *]
    · (try clear hN); simp [inR, vCount, -Int32.not_lt, -Int32.not_le, *]
  · refine b_aload_n (pc := 96) (i := 0) (dd dtX10_count 18 rfl) rfl rfl ?_
    refine b_geta (pc := 97) (dd dtX10_count 19 rfl) fwX10_21 pC_0 rC_0_1 ?_
    refine b_geti (pc := 100) (dd dtX10_count 20 rfl) fwX10_328 pC_6 ?_
    refine b_eq (b_iret (dd dtX10_count 21 rfl) rfl) ?_ ?_
    · (try clear hN); simp [inR, vCount, -Int32.not_lt, -Int32.not_le, *]
    · (try clear hN); simp [inR, vCount, -Int32.not_lt, -Int32.not_le, *]
  · refine b_aload_n (pc := 104) (i := 0) (dd dtX10_count 22 rfl) rfl rfl ?_
    refine b_geta (pc := 105) (dd dtX10_count 23 rfl) fwX10_21 pC_0 rC_0_1 ?_
    refine b_geti (pc := 108) (dd dtX10_count 24 rfl) fwX10_331 pC_6 ?_
    refine b_eq (b_iret (dd dtX10_count 25 rfl) rfl) ?_ ?_
    · (try clear hN); simp [inR, vCount, -Int32.not_lt, -Int32.not_le, *]
    · (try clear hN); simp [inR, vCount, -Int32.not_lt, -Int32.not_le, *]
  · refine b_aload_n (pc := 112) (i := 0) (dd dtX10_count 26 rfl) rfl rfl ?_
    refine b_geta (pc := 113) (dd dtX10_count 27 rfl) fwX10_51 pC_0 rC_0_7 ?_
    refine b_geti (pc := 116) (dd dtX10_count 28 rfl) fwX10_346 pC_53 ?_
    refine b_eq (b_iret (dd dtX10_count 29 rfl) rfl) ?_ ?_
    · (try clear hN); simp [inR, vCount, -Int32.not_lt, -Int32.not_le, *]
    · (try clear hN); simp [inR, vCount, -Int32.not_lt, -Int32.not_le, *]
  · refine b_aload_n (pc := 120) (i := 0) (dd dtX10_count 30 rfl) rfl rfl ?_
    refine b_geta (pc := 121) (dd dtX10_count 31 rfl) fwX10_64 pC_0 rC_0_9 ?_
    refine b_geti (pc := 124) (dd dtX10_count 32 rfl) fwX10_250 pC_66 ?_
    refine b_eq (b_iret (dd dtX10_count 33 rfl) rfl) ?_ ?_
    · (try clear hN); simp [inR, vCount, -Int32.not_lt, -Int32.not_le, *]
    · (try clear hN); simp [inR, vCount, -Int32.not_lt, -Int32.not_le, *]
  · refine b_aload_n (pc := 128) (i := 0) (dd dtX10_count 34 rfl) rfl rfl ?_
    refine b_geta (pc := 129) (dd dtX10_count 35 rfl) fwX10_64 pC_0 rC_0_9 ?_
    refine b_geti (pc := 132) (dd dtX10_count 36 rfl) fwX10_253 pC_66 ?_
    refine b_eq (b_iret (dd dtX10_count 37 rfl) rfl) ?_ ?_
    · (try clear hN); simp [inR, vCount, -Int32.not_lt, -Int32.not_le, *]
    · (try clear hN); simp [inR, vCount, -Int32.not_lt, -Int32.not_le, *]
  · refine b_aload_n (pc := 136) (i := 0) (dd dtX10_count 38 rfl) rfl rfl ?_
    refine b_geta (pc := 137) (dd dtX10_count 39 rfl) fwX10_64 pC_0 rC_0_9 ?_
    refine b_geta (pc := 140) (dd dtX10_count 40 rfl) fwX10_240 pC_66 rC_66_0 ?_
    refine b_geti (pc := 143) (dd dtX10_count 41 rfl) fwX10_244 pC_67 ?_
    refine b_eq (b_iret (dd dtX10_count 42 rfl) rfl) ?_ ?_
    · (try clear hN); simp [inR, vCount, -Int32.not_lt, -Int32.not_le, *]
    · (try clear hN); simp [inR, vCount, -Int32.not_lt, -Int32.not_le, *]
  · refine b_aload_n (pc := 147) (i := 0) (dd dtX10_count 43 rfl) rfl rfl ?_
    refine b_geta (pc := 148) (dd dtX10_count 44 rfl) fwX10_47 pC_0 rC_0_6 ?_
    refine b_geti (pc := 151) (dd dtX10_count 45 rfl) fwX10_346 pC_49 ?_
    refine b_eq (b_iret (dd dtX10_count 46 rfl) rfl) ?_ ?_
    · (try clear hN); simp [inR, vCount, -Int32.not_lt, -Int32.not_le, *]
    · (try clear hN); simp [inR, vCount, -Int32.not_lt, -Int32.not_le, *]
  · refine b_aload_n (pc := 155) (i := 0) (dd dtX10_count 47 rfl) rfl rfl ?_
    refine b_geta (pc := 156) (dd dtX10_count 48 rfl) fwX10_21 pC_0 rC_0_1 ?_
    refine b_geti (pc := 159) (dd dtX10_count 49 rfl) fwX10_128 pC_6 ?_
    refine b_eq (b_iret (dd dtX10_count 50 rfl) rfl) ?_ ?_
    · (try clear hN); simp [inR, vCount, -Int32.not_lt, -Int32.not_le, *]
    · (try clear hN); simp [inR, vCount, -Int32.not_lt, -Int32.not_le, *]
  · refine b_bipush (pc := 163) (v := -2) (dd dtX10_count 51 rfl) (by decide) ?_
    refine b_eq (b_iret (dd dtX10_count 52 rfl) rfl) ?_ ?_
    · (try clear hN); simp [inR, vCount, -Int32.not_lt, -Int32.not_le, *]
    · (try clear hN); simp [inR, vCount, -Int32.not_lt, -Int32.not_le, *]
end
section
/-! sheets -/
def fil {α : Type} (a b : Nat → α) (h : Nat) : Nat → α := fun i => if i < h then a i else b i
theorem fil_0 {α : Type} (a b : Nat → α) : fil a b 0 = b := by funext i; simp [fil]
theorem fil_s {a b : Nat → Int32} {h : Nat} {v : Int32} (hv : v = a h) : upd (fil a b h) h v = fil a b (h + 1) := by
  funext i
  unfold upd fil
  by_cases e : i = h
  · subst e; simp [hv]
  · by_cases l : i < h
    · simp [e, l, Nat.lt_succ_of_lt l]
    · simp [e, l, show ¬ i < h + 1 by omega]
theorem fil_in {α : Type} {a b : Nat → α} {h i : Nat} (l : i < h) : fil a b h i = a i := by simp [fil, l]
theorem fil_out {α : Type} {a b : Nat → α} {h i : Nat} (l : h ≤ i) : fil a b h i = b i := by simp [fil, show ¬ i < h by omega]
theorem rset_id {I : Wd} {k : Nat} : rset I k (I k) = I := by funext a; unfold rset; split <;> simp_all
theorem rset_rset {I : Wd} {k : Nat} {f g : Nat → Int32} : rset (rset I k f) k g = rset I k g := by funext a; unfold rset; split <;> rfl
theorem ist_rset {I : Wd} {k j : Nat} {f : Nat → Int32} {v : Int32} : ist (rset I k f) k j v = rset I k (upd f j v) := by unfold ist; rw [rset_rset, rset_eq]
theorem rset_comm {I : Wd} {k l : Nat} {f g : Nat → Int32} (h : k ≠ l) : rset (rset I k f) l g = rset (rset I l g) k f := by
  funext a; unfold rset
  by_cases e : a = l
  · subst e; simp [Ne.symm h]
  · simp [e]
def kS (s : Int32) : Nat := 99 + 2 * s.toNatClampNeg
theorem sheet_k {s : Int32} (h : inR s 0 3) : isS (kS s) ∧ vp_in s 4 ∧ SyC.2 98 s.toNatClampNeg = some (kS s) := by
  obtain ⟨j, e, h1, h2⟩ := nI_rng h
  have h3 : (3 : Int32).toInt = 3 := rfl
  have hj : j < 4 := by omega
  have hc : s.toNatClampNeg = j := by rw [e]; exact nI_clamp h2
  unfold kS
  rw [hc]
  refine ⟨?_, vpn e hj (by decide), ?_⟩
  · unfold isS; omega
  · rcases (show j = 0 ∨ j = 1 ∨ j = 2 ∨ j = 3 by omega) with rfl | rfl | rfl | rfl <;> rfl
def sNar (so v : Int32) : Int32 := if so = 0 then v.toInt8.toInt32 else if so = 1 then v.toInt16.toInt32 else v
/-- the sheet k begins anew -/
def wBegin (I : Wd) (k : Nat) (so n : Int32) : Wd := rset (ist (ist I k 0 so) k 1 n) (k + 1) (fil (fun _ => 0) (I (k + 1)) 40)
def vSheet (s so n : Int32) : Int32 := if inR s 0 3 ∧ inR so (-1) 2 then (if so = -1 then 1 else if 40 < n then -2 else if n < 0 then -14 else 1) else -2
abbrev okSheet (s so n : Int32) : Prop := (inR s 0 3 ∧ inR so (-1) 2) ∧ ¬ so = -1 ∧ ¬ 40 < n ∧ ¬ n < 0
def vCell (ms : Prop) [Decidable ms] (z : Nat) (s i : Int32) : Int32 := if inR s 0 3 then (if ms then -11 else if inR i 0 (nI z - 1) then 1 else -12) else -2
def vCopy (ms : Prop) [Decidable ms] (so so2 : Int32) (z z2 : Nat) (s i o j n : Int32) : Int32 := if inR s 0 3 ∧ inR o 0 3 then (if ms then -11 else if so = so2 then (if ¬ n < 0 ∧ inR i 0 (nI z - n) ∧ inR j 0 (nI z2 - n) then n else -12) else -13) else -2
abbrev okCopy (ms : Prop) (so so2 : Int32) (z z2 : Nat) (s i o j n : Int32) : Prop := (inR s 0 3 ∧ inR o 0 3) ∧ ¬ ms ∧ so = so2 ∧ ¬ n < 0 ∧ inR i 0 (nI z - n) ∧ inR j 0 (nI z2 - n)
theorem cpy_in {i n : Int32} {z : Nat} (hn : ¬ n < 0) (h : inR i 0 (nI z - n)) (hz : z ≤ 40) : ¬ i < 0 ∧ i.toNatClampNeg + n.toNatClampNeg ≤ z := by
  obtain ⟨h1, h2⟩ := h
  refine ⟨h1, ?_⟩
  obtain ⟨a, ha, ea⟩ := nI_of hn
  obtain ⟨b, hb, eb⟩ := nI_of h1
  rw [ea, eb, nI_clamp ha, nI_clamp hb]
  rw [Int32.lt_iff_toInt_lt, eb, ea, nI_toInt hb, Int32.toInt_sub, nI_toInt ha, nI_toInt (show z < 2 ^ 31 by omega)] at h2
  have e3 : ((z : Int) - (a : Int)).bmod (2 ^ 32) = (z : Int) - a := by
    apply Int.bmod_eq_of_le <;> omega
  rw [e3] at h2
  omega
def tX5_isMissing : List (Nat × Instr × Nat) := [(0, .aload_n 0, 1), (1, .getfield 11, 3), (4, .iconst (-1), 1), (5, .if_icmp .ne 7, 3), (8, .iconst 1, 1), (9, .goto 4, 3), (12, .iconst 0, 1), (13, .ireturn, 1)]
theorem dtX5_isMissing : dec_ok mX5_isMissing.2.1 tX5_isMissing = true := by decide +kernel
set_option maxHeartbeats 4000000 in
theorem c_X5_isMissing {I : Wd} {k : Nat} (hk : isS k) : Cal SyC mX5_isMissing 0 [.ref k] I (some (.int (bi (I k 0 = -1)))) I := by
  refine Cal.of (by decide) (Nat.le_of_ble_eq_true rfl) ?_
  show Bd _ _ _ _ [(0, _)] _ _ _ _
  refine b_aload_n (pc := 0) (i := 0) (dd dtX5_isMissing 0 rfl) rfl rfl ?_
  refine b_geti (pc := 1) (dd dtX5_isMissing 1 rfl) fwX5_11 (pS_0 hk) ?_
  refine b_icm1 (pc := 4) (dd dtX5_isMissing 2 rfl) ?_
  refine b_icmp_ne (pc := 5) (tgt := 12) (dd dtX5_isMissing 3 rfl) (by decide) (fun h5 => ?_) (fun h5 => ?_)
  · refine b_ic0 (pc := 12) (dd dtX5_isMissing 6 rfl) ?_
    refine b_eq (b_zret (dd dtX5_isMissing 7 rfl) rfl (by first | rfl | exact nar_bi)) ?_ ?_
    · simp [bi, *]
    · rfl
  · refine b_ic1 (pc := 8) (dd dtX5_isMissing 4 rfl) ?_
    refine b_goto (pc := 9) (tgt := 13) (dd dtX5_isMissing 5 rfl) (by decide) ?_
    refine b_eq (b_zret (dd dtX5_isMissing 7 rfl) rfl (by first | rfl | exact nar_bi)) ?_ ?_
    · simp [bi, *]
    · rfl
def tX5_has : List (Nat × Instr × Nat) := [(0, .aload_n 0, 1), (1, .invokevirtual 22, 3), (4, .ifCond .ne 21, 3), (7, .iload_n 1, 1), (8, .iconst 0, 1), (9, .aload_n 0, 1), (10, .getfield 15, 3), (13, .iconst 1, 1), (14, .isub, 1), (15, .invokestatic 26, 3), (18, .ifCond .eq 7, 3), (21, .iconst 1, 1), (22, .goto 4, 3), (25, .iconst 0, 1), (26, .ireturn, 1)]
theorem dtX5_has : dec_ok mX5_has.2.1 tX5_has = true := by decide +kernel
set_option maxHeartbeats 4000000 in
theorem c_X5_has {I : Wd} {k z : Nat} (hk : isS k) {i : Int32} (hz : I k 1 = nI z) : Cal SyC mX5_has 1 [.ref k, .int i] I (some (.int (bi (¬ I k 0 = -1 ∧ inR i 0 (nI z - 1))))) I := by
  refine Cal.of (by decide) (Nat.le_of_ble_eq_true rfl) ?_
  show Bd _ _ _ _ [(0, _), (1, _)] _ _ _ _
  refine b_aload_n (pc := 0) (i := 0) (dd dtX5_has 0 rfl) rfl rfl ?_
  refine b_invV (pc := 1) (dd dtX5_has 1 rfl) mlX5_22 mvX5_isMissing miX5_isMissing (c_X5_isMissing hk) (oS hk) rfl rfl (by decide) (Nat.le_of_ble_eq_true rfl) ?_
  refine b_ifb_ne (pc := 4) (tgt := 25) (dd dtX5_has 2 rfl) (by decide) (fun h4 => ?_) (fun h4 => ?_)
  · refine b_ic0 (pc := 25) (dd dtX5_has 13 rfl) ?_
    refine b_eq (b_zret (dd dtX5_has 14 rfl) rfl (by first | rfl | exact nar_bi)) ?_ ?_
    · (try clear hz); simp [bi, inR, -Int32.not_lt, -Int32.not_le, *]
    · rfl
  · refine b_iload_n (pc := 7) (i := 1) (dd dtX5_has 3 rfl) rfl rfl ?_
    refine b_ic0 (pc := 8) (dd dtX5_has 4 rfl) ?_
    refine b_aload_n (pc := 9) (i := 0) (dd dtX5_has 5 rfl) rfl rfl ?_
    refine b_geti (pc := 10) (dd dtX5_has 6 rfl) fwX5_15 (pS_0 hk) ?_
    refine b_ic1 (pc := 13) (dd dtX5_has 7 rfl) ?_
    refine b_isub (pc := 14) (dd dtX5_has 8 rfl) ?_
    rw [hz]
    refine b_invN (pc := 15) (M2 := mX10_within) (dd dtX5_has 9 rfl) (fun _ _ _ _ hE => hE.2.2.2.2) mvX10_within msX10_within (c_X10_within) rfl rfl (by decide) (Nat.le_of_ble_eq_true rfl) ?_
    refine b_ifb_eq (pc := 18) (tgt := 25) (dd dtX5_has 10 rfl) (by decide) (fun h18 => ?_) (fun h18 => ?_)
    · refine b_ic0 (pc := 25) (dd dtX5_has 13 rfl) ?_
      refine b_eq (b_zret (dd dtX5_has 14 rfl) rfl (by first | rfl | exact nar_bi)) ?_ ?_
      · (try clear hz); simp [bi, inR, -Int32.not_lt, -Int32.not_le, *]
      · rfl
    · refine b_ic1 (pc := 21) (dd dtX5_has 11 rfl) ?_
      refine b_goto (pc := 22) (tgt := 26) (dd dtX5_has 12 rfl) (by decide) ?_
      refine b_eq (b_zret (dd dtX5_has 14 rfl) rfl (by first | rfl | exact nar_bi)) ?_ ?_
      · (try clear hz); simp [bi, inR, -Int32.not_lt, -Int32.not_le, *]
      · rfl
theorem mx_n {n : Int32} (h : ¬ 40 < n) (h2 : ¬ n < 0) : (if (0 : Int32) < (if (40 : Int32) < n then 40 else n) then (if (40 : Int32) < n then 40 else n) else 0) = n := by
  rw [if_neg h]
  by_cases e : (0 : Int32) < n
  · rw [if_pos e]
  · rw [if_neg e]
    apply Int32.toInt_inj.mp
    rw [Int32.lt_iff_toInt_lt] at e h2
    have e0 : (0 : Int32).toInt = 0 := rfl
    omega
def tX5_begin : List (Nat × Instr × Nat) := [(0, .aload_n 0, 1), (1, .iload_n 1, 1), (2, .putfield 11, 3), (5, .aload_n 0, 1), (6, .iconst 0, 1), (7, .iload_n 2, 1), (8, .bipush 40, 2), (10, .invokestatic 30, 3), (13, .invokestatic 36, 3), (16, .putfield 15, 3), (19, .iconst 0, 1), (20, .istore_n 3, 1), (21, .iload_n 3, 1), (22, .bipush 40, 2), (24, .if_icmp .ge 16, 3), (27, .aload_n 0, 1), (28, .getfield 18, 3), (31, .iload_n 3, 1), (32, .iconst 0, 1), (33, .iastore, 1), (34, .iinc 3 1, 3), (37, .goto (-16), 3), (40, .return_, 1)]
theorem dtX5_begin : dec_ok mX5_begin.2.1 tX5_begin = true := by decide +kernel
set_option maxHeartbeats 4000000 in
theorem l_X5_begin {I : Wd} {k : Nat} (hk : isS k) {so q0 : Int32} : ∀ (n h : Nat) (x3 : Int32) (I2 : Wd), h ≤ 40 → 40 < h + n → x3 = nI h → I2 = (rset (ist (ist I k 0 so) k 1 q0) (k + 1) (fil (fun _ => 0) (I (k + 1)) h)) → Bd SyC mX5_begin 1 21 [(3, .int x3), (0, .ref k), (1, .int so), (2, .int q0)] [] I2 none (rset (ist (ist I k 0 so) k 1 q0) (k + 1) (fil (fun _ => 0) (I (k + 1)) 40)) := by
  intro n
  induction n with
  | zero => intro h x3 I2 h1 h2; omega
  | succ n ih =>
    intro h x3 I2 h1 h2 e3 eW
    subst e3; subst eW
    refine b_iload_n (pc := 21) (i := 3) (dd dtX5_begin 12 rfl) rfl rfl ?_
    refine b_bipush (pc := 22) (v := 40) (dd dtX5_begin 13 rfl) (by decide) ?_
    refine b_icmpL_ge (pc := 24) (tgt := 40) (dd dtX5_begin 14 rfl) (by decide) (fun h24 => ?_) (fun h24 => ?_)
    · rw [show (40 : Int32) = nI 40 from rfl] at h24
      have he : h = 40 := Nat.le_antisymm h1 (ge_n h24 (by omega))
      subst he
      exact b_eq (b_vret (dd dtX5_begin 22 rfl) rfl) rfl rfl
    · rw [show (40 : Int32) = nI 40 from rfl] at h24
      have hlt : h < 40 := lt_n h24 (by omega) (by omega)
      refine b_aload_n (pc := 27) (i := 0) (dd dtX5_begin 15 rfl) rfl rfl ?_
      refine b_geta (pc := 28) (dd dtX5_begin 16 rfl) fwX5_18 (pS_0 hk) (rS_2 hk) ?_
      refine b_iload_n (pc := 31) (i := 3) (dd dtX5_begin 17 rfl) rfl rfl ?_
      refine b_ic0 (pc := 32) (dd dtX5_begin 18 rfl) ?_
      refine b_iast (pc := 33) (dd dtX5_begin 19 rfl) (pS_1 hk) (vpn rfl (show h < 40 by omega) (by decide)) ?_
      refine b_iinc1 (pc := 34) (i := 3) (lv' := [(3, _), (0, _), (1, _), (2, _)]) (dd dtX5_begin 20 rfl) rfl (Nat.le_of_ble_eq_true rfl) rfl ?_
      refine b_goto (pc := 37) (tgt := 21) (dd dtX5_begin 21 rfl) (by decide) ?_
      rw [nI_1]
      refine ih (h + 1) _ _ hlt (by omega) rfl ?_
      · rw [nI_clamp (show h < 2 ^ 31 by omega), ist_rset, fil_s rfl]
set_option maxHeartbeats 4000000 in
theorem c_X5_begin {I : Wd} {k : Nat} (hk : isS k) {so n : Int32} (h1 : ¬ 40 < n) (h2 : ¬ n < 0) : Cal SyC mX5_begin 1 [.ref k, .int so, .int n] I none (wBegin I k so n) := by
  refine Cal.of (by decide) (Nat.le_of_ble_eq_true rfl) ?_
  show Bd _ _ _ _ [(0, _), (1, _), (2, _)] _ _ _ _
  refine b_aload_n (pc := 0) (i := 0) (dd dtX5_begin 0 rfl) rfl rfl ?_
  refine b_iload_n (pc := 1) (i := 1) (dd dtX5_begin 1 rfl) rfl rfl ?_
  refine b_puti (pc := 2) (dd dtX5_begin 2 rfl) fwX5_11 (pS_0 hk) ?_
  refine b_aload_n (pc := 5) (i := 0) (dd dtX5_begin 3 rfl) rfl rfl ?_
  refine b_ic0 (pc := 6) (dd dtX5_begin 4 rfl) ?_
  refine b_iload_n (pc := 7) (i := 2) (dd dtX5_begin 5 rfl) rfl rfl ?_
  refine b_bipush (pc := 8) (v := 40) (dd dtX5_begin 6 rfl) (by decide) ?_
  refine b_mmin (pc := 10) (dd dtX5_begin 7 rfl) wlX5_30 (Nat.le_of_ble_eq_true rfl) ?_
  refine b_mmax (pc := 13) (dd dtX5_begin 8 rfl) wlX5_36 (Nat.le_of_ble_eq_true rfl) ?_
  rw [mx_n h1 h2]
  refine b_puti (pc := 16) (dd dtX5_begin 9 rfl) fwX5_15 (pS_0 hk) ?_
  refine b_ic0 (pc := 19) (dd dtX5_begin 10 rfl) ?_
  refine b_istore_n (pc := 20) (i := 3) (lv' := [(3, _), (0, _), (1, _), (2, _)]) (dd dtX5_begin 11 rfl) rfl (Nat.le_of_ble_eq_true rfl) rfl ?_
  refine l_X5_begin hk (41) 0 _ _ (Nat.zero_le _) (by omega) rfl ?_
  rw [fil_0]
  refine (rset_id (I := ist (ist I k 0 so) k 1 n) (k := k + 1)).symm.trans ?_
  simp [ist_ne, ist_eq]
def tX5_put : List (Nat × Instr × Nat) := [(0, .aload_n 0, 1), (1, .iload_n 1, 1), (2, .invokevirtual 39, 3), (5, .ifCond .eq 64, 3), (8, .aload_n 0, 1), (9, .getfield 11, 3), (12, .lookupswitch 50 #[(0, 28), (1, 39)], 28), (40, .aload_n 0, 1), (41, .getfield 18, 3), (44, .iload_n 1, 1), (45, .iload_n 2, 1), (46, .i2b, 1), (47, .iastore, 1), (48, .goto 21, 3), (51, .aload_n 0, 1), (52, .getfield 18, 3), (55, .iload_n 1, 1), (56, .iload_n 2, 1), (57, .i2s, 1), (58, .iastore, 1), (59, .goto 10, 3), (62, .aload_n 0, 1), (63, .getfield 18, 3), (66, .iload_n 1, 1), (67, .iload_n 2, 1), (68, .iastore, 1), (69, .return_, 1)]
theorem dtX5_put : dec_ok mX5_put.2.1 tX5_put = true := by decide +kernel
set_option maxHeartbeats 4000000 in
theorem c_X5_put {I : Wd} {k z : Nat} (hk : isS k) {i v : Int32} (hz : I k 1 = nI z) (hz2 : z ≤ 40) (hm : ¬ I k 0 = -1) (hi : inR i 0 (nI z - 1)) : Cal SyC mX5_put 2 [.ref k, .int i, .int v] I none (ist I (k + 1) i.toNatClampNeg (sNar (I k 0) v)) := by
  refine Cal.of (by decide) (Nat.le_of_ble_eq_true rfl) ?_
  show Bd _ _ _ _ [(0, _), (1, _), (2, _)] _ _ _ _
  refine b_aload_n (pc := 0) (i := 0) (dd dtX5_put 0 rfl) rfl rfl ?_
  refine b_iload_n (pc := 1) (i := 1) (dd dtX5_put 1 rfl) rfl rfl ?_
  refine b_invV (pc := 2) (dd dtX5_put 2 rfl) mlX5_39 mvX5_has miX5_has (c_X5_has hk hz) (oS hk) rfl rfl (by decide) (Nat.le_of_ble_eq_true rfl) ?_
  refine b_ifb_eq (pc := 5) (tgt := 69) (dd dtX5_put 3 rfl) (by decide) (fun h5 => ?_) (fun h5 => ?_)
  · exact absurd ⟨hm, hi⟩ h5
  · refine b_aload_n (pc := 8) (i := 0) (dd dtX5_put 4 rfl) rfl rfl ?_
    refine b_geti (pc := 9) (dd dtX5_put 5 rfl) fwX5_11 (pS_0 hk) ?_
    refine b_lsw (pc := 12) (ts := [(0, 40), (1, 51)]) (dfl := 62) (dd dtX5_put 6 rfl) (by decide +kernel) ⟨fun h12 => ?_, fun h12_0 => ⟨fun h12 => ?_, fun h12_1 => ?_⟩⟩
    · refine b_aload_n (pc := 40) (i := 0) (dd dtX5_put 7 rfl) rfl rfl ?_
      refine b_geta (pc := 41) (dd dtX5_put 8 rfl) fwX5_18 (pS_0 hk) (rS_2 hk) ?_
      refine b_iload_n (pc := 44) (i := 1) (dd dtX5_put 9 rfl) rfl rfl ?_
      refine b_iload_n (pc := 45) (i := 2) (dd dtX5_put 10 rfl) rfl rfl ?_
      refine b_i2b (pc := 46) (dd dtX5_put 11 rfl) ?_
      refine b_iast (pc := 47) (dd dtX5_put 12 rfl) (pS_1 hk) (vpm hi hz2 (by decide)) ?_
      refine b_goto (pc := 48) (tgt := 69) (dd dtX5_put 13 rfl) (by decide) ?_
      refine b_eq (b_vret (dd dtX5_put 26 rfl) rfl) ?_ ?_
      · rfl
      · (try clear hz); simp [sNar, *]
    · refine b_aload_n (pc := 51) (i := 0) (dd dtX5_put 14 rfl) rfl rfl ?_
      refine b_geta (pc := 52) (dd dtX5_put 15 rfl) fwX5_18 (pS_0 hk) (rS_2 hk) ?_
      refine b_iload_n (pc := 55) (i := 1) (dd dtX5_put 16 rfl) rfl rfl ?_
      refine b_iload_n (pc := 56) (i := 2) (dd dtX5_put 17 rfl) rfl rfl ?_
      refine b_i2s (pc := 57) (dd dtX5_put 18 rfl) ?_
      refine b_iast (pc := 58) (dd dtX5_put 19 rfl) (pS_1 hk) (vpm hi hz2 (by decide)) ?_
      refine b_goto (pc := 59) (tgt := 69) (dd dtX5_put 20 rfl) (by decide) ?_
      refine b_eq (b_vret (dd dtX5_put 26 rfl) rfl) ?_ ?_
      · rfl
      · (try clear hz); simp [sNar, *]
    · refine b_aload_n (pc := 62) (i := 0) (dd dtX5_put 21 rfl) rfl rfl ?_
      refine b_geta (pc := 63) (dd dtX5_put 22 rfl) fwX5_18 (pS_0 hk) (rS_2 hk) ?_
      refine b_iload_n (pc := 66) (i := 1) (dd dtX5_put 23 rfl) rfl rfl ?_
      refine b_iload_n (pc := 67) (i := 2) (dd dtX5_put 24 rfl) rfl rfl ?_
      refine b_iast (pc := 68) (dd dtX5_put 25 rfl) (pS_1 hk) (vpm hi hz2 (by decide)) ?_
      refine b_eq (b_vret (dd dtX5_put 26 rfl) rfl) ?_ ?_
      · rfl
      · (try clear hz); simp [sNar, *]
def tX10_sheet : List (Nat × Instr × Nat) := [(0, .iload_n 1, 1), (1, .invokestatic 208, 3), (4, .ifCond .eq 12, 3), (7, .iload_n 2, 1), (8, .iconst (-1), 1), (9, .iconst 2, 1), (10, .invokestatic 97, 3), (13, .ifCond .ne 6, 3), (16, .bipush (-2), 2), (18, .ireturn, 1), (19, .iload_n 2, 1), (20, .iconst (-1), 1), (21, .if_icmp .ne 15, 3), (24, .aload_n 0, 1), (25, .getfield 70, 3), (28, .iload_n 1, 1), (29, .aaload, 1), (30, .iconst (-1), 1), (31, .putfield 347, 3), (34, .iconst 1, 1), (35, .ireturn, 1), (36, .iload_n 3, 1), (37, .bipush 40, 2), (39, .if_icmp .le 6, 3), (42, .bipush (-2), 2), (44, .ireturn, 1), (45, .iload_n 3, 1), (46, .ifCond .ge 6, 3), (49, .bipush (-14), 2), (51, .ireturn, 1), (52, .aload_n 0, 1), (53, .getfield 70, 3), (56, .iload_n 1, 1), (57, .aaload, 1), (58, .iload_n 2, 1), (59, .iload_n 3, 1), (60, .invokevirtual 350, 3), (63, .iconst 1, 1), (64, .ireturn, 1)]
theorem dtX10_sheet : dec_ok mX10_sheet.2.1 tX10_sheet = true := by decide +kernel
set_option maxHeartbeats 4000000 in
theorem c_X10_sheet {I : Wd} {s so n : Int32} : Cal SyC mX10_sheet 2 [.ref 0, .int s, .int so, .int n] I (some (.int (vSheet s so n))) (if okSheet s so n then wBegin I (kS s) so n else if (inR s 0 3 ∧ inR so (-1) 2) ∧ so = -1 then ist I (kS s) 0 (-1) else I) := by
  refine Cal.of (by decide) (Nat.le_of_ble_eq_true rfl) ?_
  show Bd _ _ _ _ [(0, _), (1, _), (2, _), (3, _)] _ _ _ _
  refine b_iload_n (pc := 0) (i := 1) (dd dtX10_sheet 0 rfl) rfl rfl ?_
  refine b_invS (pc := 1) (dd dtX10_sheet 1 rfl) mlX10_208 mvX10_isSheet msX10_isSheet (c_X10_isSheet) rfl rfl (by decide) (Nat.le_of_ble_eq_true rfl) ?_
  refine b_ifb_eq (pc := 4) (tgt := 16) (dd dtX10_sheet 2 rfl) (by decide) (fun h4 => ?_) (fun h4 => ?_)
  · refine b_bipush (pc := 16) (v := -2) (dd dtX10_sheet 8 rfl) (by decide) ?_
    refine b_eq (b_iret (dd dtX10_sheet 9 rfl) rfl) ?_ ?_
    · simp [inR, vSheet, -Int32.not_lt, -Int32.not_le, *]
    · simp [inR, okSheet, -Int32.not_lt, -Int32.not_le, *]
  · refine b_iload_n (pc := 7) (i := 2) (dd dtX10_sheet 3 rfl) rfl rfl ?_
    refine b_icm1 (pc := 8) (dd dtX10_sheet 4 rfl) ?_
    refine b_ic2 (pc := 9) (dd dtX10_sheet 5 rfl) ?_
    refine b_invS (pc := 10) (dd dtX10_sheet 6 rfl) mlX10_97 mvX10_within msX10_within (c_X10_within) rfl rfl (by decide) (Nat.le_of_ble_eq_true rfl) ?_
    refine b_ifb_ne (pc := 13) (tgt := 19) (dd dtX10_sheet 7 rfl) (by decide) (fun h13 => ?_) (fun h13 => ?_)
    · refine b_iload_n (pc := 19) (i := 2) (dd dtX10_sheet 10 rfl) rfl rfl ?_
      refine b_icm1 (pc := 20) (dd dtX10_sheet 11 rfl) ?_
      refine b_icmp_ne (pc := 21) (tgt := 36) (dd dtX10_sheet 12 rfl) (by decide) (fun h21 => ?_) (fun h21 => ?_)
      · refine b_iload_n (pc := 36) (i := 3) (dd dtX10_sheet 21 rfl) rfl rfl ?_
        refine b_bipush (pc := 37) (v := 40) (dd dtX10_sheet 22 rfl) (by decide) ?_
        refine b_icmpL_le (pc := 39) (tgt := 45) (dd dtX10_sheet 23 rfl) (by decide) (fun h39 => ?_) (fun h39 => ?_)
        · refine b_iload_n (pc := 45) (i := 3) (dd dtX10_sheet 26 rfl) rfl rfl ?_
          refine b_ifL_ge (pc := 46) (tgt := 52) (dd dtX10_sheet 27 rfl) (by decide) (fun h46 => ?_) (fun h46 => ?_)
          · refine b_aload_n (pc := 52) (i := 0) (dd dtX10_sheet 30 rfl) rfl rfl ?_
            refine b_geta (pc := 53) (dd dtX10_sheet 31 rfl) fwX10_70 pC_0 rC_0_10 ?_
            refine b_iload_n (pc := 56) (i := 1) (dd dtX10_sheet 32 rfl) rfl rfl ?_
            refine b_aald (pc := 57) (q := kS s) (dd dtX10_sheet 33 rfl) pC_98 (by decide) ((sheet_k h4).2.1) ((sheet_k h4).2.2) ?_
            refine b_iload_n (pc := 58) (i := 2) (dd dtX10_sheet 34 rfl) rfl rfl ?_
            refine b_iload_n (pc := 59) (i := 3) (dd dtX10_sheet 35 rfl) rfl rfl ?_
            refine b_invV (pc := 60) (dd dtX10_sheet 36 rfl) mlX10_350 mvX5_begin miX5_begin (c_X5_begin (sheet_k h4).1 h39 h46) (oS (sheet_k h4).1) rfl rfl (by decide) (Nat.le_of_ble_eq_true rfl) ?_
            refine b_ic1 (pc := 63) (dd dtX10_sheet 37 rfl) ?_
            refine b_eq (b_iret (dd dtX10_sheet 38 rfl) rfl) ?_ ?_
            · simp [inR, vSheet, -Int32.not_lt, -Int32.not_le, *]
            · simp [inR, okSheet, -Int32.not_lt, -Int32.not_le, *]
          · refine b_bipush (pc := 49) (v := -14) (dd dtX10_sheet 28 rfl) (by decide) ?_
            refine b_eq (b_iret (dd dtX10_sheet 29 rfl) rfl) ?_ ?_
            · simp [inR, vSheet, -Int32.not_lt, -Int32.not_le, *]
            · simp [inR, okSheet, -Int32.not_lt, -Int32.not_le, *]
        · refine b_bipush (pc := 42) (v := -2) (dd dtX10_sheet 24 rfl) (by decide) ?_
          refine b_eq (b_iret (dd dtX10_sheet 25 rfl) rfl) ?_ ?_
          · simp [inR, vSheet, -Int32.not_lt, -Int32.not_le, *]
          · simp [inR, okSheet, -Int32.not_lt, -Int32.not_le, *]
      · refine b_aload_n (pc := 24) (i := 0) (dd dtX10_sheet 13 rfl) rfl rfl ?_
        refine b_geta (pc := 25) (dd dtX10_sheet 14 rfl) fwX10_70 pC_0 rC_0_10 ?_
        refine b_iload_n (pc := 28) (i := 1) (dd dtX10_sheet 15 rfl) rfl rfl ?_
        refine b_aald (pc := 29) (q := kS s) (dd dtX10_sheet 16 rfl) pC_98 (by decide) ((sheet_k h4).2.1) ((sheet_k h4).2.2) ?_
        refine b_icm1 (pc := 30) (dd dtX10_sheet 17 rfl) ?_
        refine b_puti (pc := 31) (dd dtX10_sheet 18 rfl) fwX10_347 (pS_0 (sheet_k h4).1) ?_
        refine b_ic1 (pc := 34) (dd dtX10_sheet 19 rfl) ?_
        refine b_eq (b_iret (dd dtX10_sheet 20 rfl) rfl) ?_ ?_
        · simp [inR, vSheet, -Int32.not_lt, -Int32.not_le, *]
        · simp [inR, okSheet, -Int32.not_lt, -Int32.not_le, *]
    · refine b_bipush (pc := 16) (v := -2) (dd dtX10_sheet 8 rfl) (by decide) ?_
      refine b_eq (b_iret (dd dtX10_sheet 9 rfl) rfl) ?_ ?_
      · simp [inR, vSheet, -Int32.not_lt, -Int32.not_le, *]
      · simp [inR, okSheet, -Int32.not_lt, -Int32.not_le, *]
def tX10_cell : List (Nat × Instr × Nat) := [(0, .iload_n 1, 1), (1, .invokestatic 208, 3), (4, .ifCond .ne 6, 3), (7, .bipush (-2), 2), (9, .ireturn, 1), (10, .aload_n 0, 1), (11, .getfield 70, 3), (14, .iload_n 1, 1), (15, .aaload, 1), (16, .invokevirtual 211, 3), (19, .ifCond .eq 6, 3), (22, .bipush (-11), 2), (24, .ireturn, 1), (25, .aload_n 0, 1), (26, .getfield 70, 3), (29, .iload_n 1, 1), (30, .aaload, 1), (31, .iload_n 2, 1), (32, .invokevirtual 354, 3), (35, .ifCond .ne 6, 3), (38, .bipush (-12), 2), (40, .ireturn, 1), (41, .aload_n 0, 1), (42, .getfield 70, 3), (45, .iload_n 1, 1), (46, .aaload, 1), (47, .iload_n 2, 1), (48, .iload_n 3, 1), (49, .invokevirtual 357, 3), (52, .iconst 1, 1), (53, .ireturn, 1)]
theorem dtX10_cell : dec_ok mX10_cell.2.1 tX10_cell = true := by decide +kernel
set_option maxHeartbeats 4000000 in
theorem c_X10_cell {I : Wd} {s i v : Int32} {z : Nat} (hz0 : inR s 0 3 → I (kS s) 1 = nI z ∧ z ≤ 40) : Cal SyC mX10_cell 3 [.ref 0, .int s, .int i, .int v] I (some (.int (vCell (I (kS s) 0 = -1) z s i))) (if inR s 0 3 ∧ ¬ I (kS s) 0 = -1 ∧ inR i 0 (nI z - 1) then ist I (kS s + 1) i.toNatClampNeg (sNar (I (kS s) 0) v) else I) := by
  refine Cal.of (by decide) (Nat.le_of_ble_eq_true rfl) ?_
  show Bd _ _ _ _ [(0, _), (1, _), (2, _), (3, _)] _ _ _ _
  refine b_iload_n (pc := 0) (i := 1) (dd dtX10_cell 0 rfl) rfl rfl ?_
  refine b_invS (pc := 1) (dd dtX10_cell 1 rfl) mlX10_208 mvX10_isSheet msX10_isSheet (c_X10_isSheet) rfl rfl (by decide) (Nat.le_of_ble_eq_true rfl) ?_
  refine b_ifb_ne (pc := 4) (tgt := 10) (dd dtX10_cell 2 rfl) (by decide) (fun h4 => ?_) (fun h4 => ?_)
  · obtain ⟨hz, hz2⟩ := hz0 h4
    refine b_aload_n (pc := 10) (i := 0) (dd dtX10_cell 5 rfl) rfl rfl ?_
    refine b_geta (pc := 11) (dd dtX10_cell 6 rfl) fwX10_70 pC_0 rC_0_10 ?_
    refine b_iload_n (pc := 14) (i := 1) (dd dtX10_cell 7 rfl) rfl rfl ?_
    refine b_aald (pc := 15) (q := kS s) (dd dtX10_cell 8 rfl) pC_98 (by decide) ((sheet_k h4).2.1) ((sheet_k h4).2.2) ?_
    refine b_invV (pc := 16) (dd dtX10_cell 9 rfl) mlX10_211 mvX5_isMissing miX5_isMissing (c_X5_isMissing (sheet_k h4).1) (oS (sheet_k h4).1) rfl rfl (by decide) (Nat.le_of_ble_eq_true rfl) ?_
    refine b_ifb_eq (pc := 19) (tgt := 25) (dd dtX10_cell 10 rfl) (by decide) (fun h19 => ?_) (fun h19 => ?_)
    · refine b_aload_n (pc := 25) (i := 0) (dd dtX10_cell 13 rfl) rfl rfl ?_
      refine b_geta (pc := 26) (dd dtX10_cell 14 rfl) fwX10_70 pC_0 rC_0_10 ?_
      refine b_iload_n (pc := 29) (i := 1) (dd dtX10_cell 15 rfl) rfl rfl ?_
      refine b_aald (pc := 30) (q := kS s) (dd dtX10_cell 16 rfl) pC_98 (by decide) ((sheet_k h4).2.1) ((sheet_k h4).2.2) ?_
      refine b_iload_n (pc := 31) (i := 2) (dd dtX10_cell 17 rfl) rfl rfl ?_
      refine b_invV (pc := 32) (dd dtX10_cell 18 rfl) mlX10_354 mvX5_has miX5_has (c_X5_has (sheet_k h4).1 hz) (oS (sheet_k h4).1) rfl rfl (by decide) (Nat.le_of_ble_eq_true rfl) ?_
      refine b_ifb_ne (pc := 35) (tgt := 41) (dd dtX10_cell 19 rfl) (by decide) (fun h35 => ?_) (fun h35 => ?_)
      · refine b_aload_n (pc := 41) (i := 0) (dd dtX10_cell 22 rfl) rfl rfl ?_
        refine b_geta (pc := 42) (dd dtX10_cell 23 rfl) fwX10_70 pC_0 rC_0_10 ?_
        refine b_iload_n (pc := 45) (i := 1) (dd dtX10_cell 24 rfl) rfl rfl ?_
        refine b_aald (pc := 46) (q := kS s) (dd dtX10_cell 25 rfl) pC_98 (by decide) ((sheet_k h4).2.1) ((sheet_k h4).2.2) ?_
        refine b_iload_n (pc := 47) (i := 2) (dd dtX10_cell 26 rfl) rfl rfl ?_
        refine b_iload_n (pc := 48) (i := 3) (dd dtX10_cell 27 rfl) rfl rfl ?_
        refine b_invV (pc := 49) (dd dtX10_cell 28 rfl) mlX10_357 mvX5_put miX5_put (c_X5_put (sheet_k h4).1 hz hz2 h35.1 h35.2) (oS (sheet_k h4).1) rfl rfl (by decide) (Nat.le_of_ble_eq_true rfl) ?_
        refine b_ic1 (pc := 52) (dd dtX10_cell 29 rfl) ?_
        refine b_eq (b_iret (dd dtX10_cell 30 rfl) rfl) ?_ ?_
        · (try clear hz); (try clear hz0); simp [inR, vCell, -Int32.not_lt, -Int32.not_le, *]
        · (try clear hz); (try clear hz0); simp [inR, vCell, -Int32.not_lt, -Int32.not_le, *]
      · have h35q : ¬ inR i 0 (nI z - 1) := fun q => h35 ⟨h19, q⟩
        clear h35
        refine b_bipush (pc := 38) (v := -12) (dd dtX10_cell 20 rfl) (by decide) ?_
        refine b_eq (b_iret (dd dtX10_cell 21 rfl) rfl) ?_ ?_
        · (try clear hz); (try clear hz0); simp [inR, vCell, -Int32.not_lt, -Int32.not_le, *]
        · (try clear hz); (try clear hz0); simp [inR, vCell, -Int32.not_lt, -Int32.not_le, *]
    · refine b_bipush (pc := 22) (v := -11) (dd dtX10_cell 11 rfl) (by decide) ?_
      refine b_eq (b_iret (dd dtX10_cell 12 rfl) rfl) ?_ ?_
      · (try clear hz); (try clear hz0); simp [inR, vCell, -Int32.not_lt, -Int32.not_le, *]
      · (try clear hz); (try clear hz0); simp [inR, vCell, -Int32.not_lt, -Int32.not_le, *]
  · refine b_bipush (pc := 7) (v := -2) (dd dtX10_cell 3 rfl) (by decide) ?_
    refine b_eq (b_iret (dd dtX10_cell 4 rfl) rfl) ?_ ?_
    · (try clear hz); (try clear hz0); simp [inR, vCell, -Int32.not_lt, -Int32.not_le, *]
    · (try clear hz); (try clear hz0); simp [inR, vCell, -Int32.not_lt, -Int32.not_le, *]
def tX10_copy : List (Nat × Instr × Nat) := [(0, .iload_n 1, 1), (1, .invokestatic 208, 3), (4, .ifCond .eq 10, 3), (7, .iload_n 3, 1), (8, .invokestatic 208, 3), (11, .ifCond .ne 6, 3), (14, .bipush (-2), 2), (16, .ireturn, 1), (17, .aload_n 0, 1), (18, .getfield 70, 3), (21, .iload_n 1, 1), (22, .aaload, 1), (23, .astore 6, 2), (25, .aload_n 0, 1), (26, .getfield 70, 3), (29, .iload_n 3, 1), (30, .aaload, 1), (31, .astore 7, 2), (33, .aload 6, 2), (35, .invokevirtual 211, 3), (38, .ifCond .ne 11, 3), (41, .aload 7, 2), (43, .invokevirtual 211, 3), (46, .ifCond .eq 6, 3), (49, .bipush (-11), 2), (51, .ireturn, 1), (52, .aload 6, 2), (54, .getfield 347, 3), (57, .aload 7, 2), (59, .getfield 347, 3), (62, .if_icmp .eq 6, 3), (65, .bipush (-13), 2), (67, .ireturn, 1), (68, .iload 5, 2), (70, .ifCond .lt 36, 3), (73, .iload_n 2, 1), (74, .iconst 0, 1), (75, .aload 6, 2), (77, .getfield 214, 3), (80, .iload 5, 2), (82, .isub, 1), (83, .invokestatic 97, 3), (86, .ifCond .eq 20, 3), (89, .iload 4, 2), (91, .iconst 0, 1), (92, .aload 7, 2), (94, .getfield 214, 3), (97, .iload 5, 2), (99, .isub, 1), (100, .invokestatic 97, 3), (103, .ifCond .ne 6, 3), (106, .bipush (-12), 2), (108, .ireturn, 1), (109, .aload 6, 2), (111, .getfield 284, 3), (114, .iload_n 2, 1), (115, .aload 7, 2), (117, .getfield 284, 3), (120, .iload 4, 2), (122, .iload 5, 2), (124, .invokestatic 359, 3), (127, .iload 5, 2), (129, .ireturn, 1)]
theorem dtX10_copy : dec_ok mX10_copy.2.1 tX10_copy = true := by decide +kernel
set_option maxHeartbeats 4000000 in
theorem c_X10_copy {I : Wd} {s i o j n : Int32} {z z2 : Nat} (hz0 : inR s 0 3 → I (kS s) 1 = nI z ∧ z ≤ 40) (hy0 : inR o 0 3 → I (kS o) 1 = nI z2 ∧ z2 ≤ 40) : Cal SyC mX10_copy 2 [.ref 0, .int s, .int i, .int o, .int j, .int n] I (some (.int (vCopy (I (kS s) 0 = -1 ∨ I (kS o) 0 = -1) (I (kS s) 0) (I (kS o) 0) z z2 s i o j n))) (if okCopy (I (kS s) 0 = -1 ∨ I (kS o) 0 = -1) (I (kS s) 0) (I (kS o) 0) z z2 s i o j n then rset I (kS o + 1) (va_cpy (I (kS s + 1)) (I (kS o + 1)) i.toNatClampNeg j.toNatClampNeg n.toNatClampNeg) else I) := by
  refine Cal.of (by decide) (Nat.le_of_ble_eq_true rfl) ?_
  show Bd _ _ _ _ [(0, _), (1, _), (2, _), (3, _), (4, _), (5, _)] _ _ _ _
  refine b_iload_n (pc := 0) (i := 1) (dd dtX10_copy 0 rfl) rfl rfl ?_
  refine b_invS (pc := 1) (dd dtX10_copy 1 rfl) mlX10_208 mvX10_isSheet msX10_isSheet (c_X10_isSheet) rfl rfl (by decide) (Nat.le_of_ble_eq_true rfl) ?_
  refine b_ifb_eq (pc := 4) (tgt := 14) (dd dtX10_copy 2 rfl) (by decide) (fun h4 => ?_) (fun h4 => ?_)
  · refine b_bipush (pc := 14) (v := -2) (dd dtX10_copy 6 rfl) (by decide) ?_
    refine b_eq (b_iret (dd dtX10_copy 7 rfl) rfl) ?_ ?_
    · (try clear hz); (try clear hy); (try clear hz0); (try clear hy0); simp [inR, vCopy, -Int32.not_lt, -Int32.not_le, *]
    · (try clear hz); (try clear hy); (try clear hz0); (try clear hy0); simp [inR, okCopy, -Int32.not_lt, -Int32.not_le, *]
  · refine b_iload_n (pc := 7) (i := 3) (dd dtX10_copy 3 rfl) rfl rfl ?_
    refine b_invS (pc := 8) (dd dtX10_copy 4 rfl) mlX10_208 mvX10_isSheet msX10_isSheet (c_X10_isSheet) rfl rfl (by decide) (Nat.le_of_ble_eq_true rfl) ?_
    refine b_ifb_ne (pc := 11) (tgt := 17) (dd dtX10_copy 5 rfl) (by decide) (fun h11 => ?_) (fun h11 => ?_)
    · obtain ⟨hz, hz2⟩ := hz0 h4
      obtain ⟨hy, hy2⟩ := hy0 h11
      clear hz0 hy0
      refine b_aload_n (pc := 17) (i := 0) (dd dtX10_copy 8 rfl) rfl rfl ?_
      refine b_geta (pc := 18) (dd dtX10_copy 9 rfl) fwX10_70 pC_0 rC_0_10 ?_
      refine b_iload_n (pc := 21) (i := 1) (dd dtX10_copy 10 rfl) rfl rfl ?_
      refine b_aald (pc := 22) (q := kS s) (dd dtX10_copy 11 rfl) pC_98 (by decide) ((sheet_k h4).2.1) ((sheet_k h4).2.2) ?_
      refine b_astore (pc := 23) (i := 6) (lv' := [(6, _), (0, _), (1, _), (2, _), (3, _), (4, _), (5, _)]) (dd dtX10_copy 12 rfl) (Nat.le_of_ble_eq_true rfl) rfl ?_
      refine b_aload_n (pc := 25) (i := 0) (dd dtX10_copy 13 rfl) rfl rfl ?_
      refine b_geta (pc := 26) (dd dtX10_copy 14 rfl) fwX10_70 pC_0 rC_0_10 ?_
      refine b_iload_n (pc := 29) (i := 3) (dd dtX10_copy 15 rfl) rfl rfl ?_
      refine b_aald (pc := 30) (q := kS o) (dd dtX10_copy 16 rfl) pC_98 (by decide) ((sheet_k h11).2.1) ((sheet_k h11).2.2) ?_
      refine b_astore (pc := 31) (i := 7) (lv' := [(7, _), (6, _), (0, _), (1, _), (2, _), (3, _), (4, _), (5, _)]) (dd dtX10_copy 17 rfl) (Nat.le_of_ble_eq_true rfl) rfl ?_
      refine b_aload (pc := 33) (i := 6) (dd dtX10_copy 18 rfl) rfl ?_
      refine b_invV (pc := 35) (dd dtX10_copy 19 rfl) mlX10_211 mvX5_isMissing miX5_isMissing (c_X5_isMissing (sheet_k h4).1) (oS (sheet_k h4).1) rfl rfl (by decide) (Nat.le_of_ble_eq_true rfl) ?_
      refine b_ifb_ne (pc := 38) (tgt := 49) (dd dtX10_copy 20 rfl) (by decide) (fun h38 => ?_) (fun h38 => ?_)
      · refine b_bipush (pc := 49) (v := -11) (dd dtX10_copy 24 rfl) (by decide) ?_
        refine b_eq (b_iret (dd dtX10_copy 25 rfl) rfl) ?_ ?_
        · (try clear hz); (try clear hy); (try clear hz0); (try clear hy0); simp [inR, vCopy, -Int32.not_lt, -Int32.not_le, *]
        · (try clear hz); (try clear hy); (try clear hz0); (try clear hy0); simp [inR, okCopy, -Int32.not_lt, -Int32.not_le, *]
      · refine b_aload (pc := 41) (i := 7) (dd dtX10_copy 21 rfl) rfl ?_
        refine b_invV (pc := 43) (dd dtX10_copy 22 rfl) mlX10_211 mvX5_isMissing miX5_isMissing (c_X5_isMissing (sheet_k h11).1) (oS (sheet_k h11).1) rfl rfl (by decide) (Nat.le_of_ble_eq_true rfl) ?_
        refine b_ifb_eq (pc := 46) (tgt := 52) (dd dtX10_copy 23 rfl) (by decide) (fun h46 => ?_) (fun h46 => ?_)
        · refine b_aload (pc := 52) (i := 6) (dd dtX10_copy 26 rfl) rfl ?_
          refine b_geti (pc := 54) (dd dtX10_copy 27 rfl) fwX10_347 (pS_0 (sheet_k h4).1) ?_
          refine b_aload (pc := 57) (i := 7) (dd dtX10_copy 28 rfl) rfl ?_
          refine b_geti (pc := 59) (dd dtX10_copy 29 rfl) fwX10_347 (pS_0 (sheet_k h11).1) ?_
          refine b_icmp_eq (pc := 62) (tgt := 68) (dd dtX10_copy 30 rfl) (by decide) (fun h62 => ?_) (fun h62 => ?_)
          · refine b_iload (pc := 68) (i := 5) (dd dtX10_copy 33 rfl) rfl ?_
            refine b_if_lt (pc := 70) (tgt := 106) (dd dtX10_copy 34 rfl) (by decide) (fun h70 => ?_) (fun h70 => ?_)
            · refine b_bipush (pc := 106) (v := -12) (dd dtX10_copy 51 rfl) (by decide) ?_
              refine b_eq (b_iret (dd dtX10_copy 52 rfl) rfl) ?_ ?_
              · (try clear hz); (try clear hy); (try clear hz0); (try clear hy0); simp [inR, vCopy, -Int32.not_lt, -Int32.not_le, *]
              · (try clear hz); (try clear hy); (try clear hz0); (try clear hy0); simp [inR, okCopy, -Int32.not_lt, -Int32.not_le, *]
            · refine b_iload_n (pc := 73) (i := 2) (dd dtX10_copy 35 rfl) rfl rfl ?_
              refine b_ic0 (pc := 74) (dd dtX10_copy 36 rfl) ?_
              refine b_aload (pc := 75) (i := 6) (dd dtX10_copy 37 rfl) rfl ?_
              refine b_geti (pc := 77) (dd dtX10_copy 38 rfl) fwX10_214 (pS_0 (sheet_k h4).1) ?_
              refine b_iload (pc := 80) (i := 5) (dd dtX10_copy 39 rfl) rfl ?_
              refine b_isub (pc := 82) (dd dtX10_copy 40 rfl) ?_
              rw [hz]
              refine b_invS (pc := 83) (dd dtX10_copy 41 rfl) mlX10_97 mvX10_within msX10_within (c_X10_within) rfl rfl (by decide) (Nat.le_of_ble_eq_true rfl) ?_
              refine b_ifb_eq (pc := 86) (tgt := 106) (dd dtX10_copy 42 rfl) (by decide) (fun h86 => ?_) (fun h86 => ?_)
              · refine b_bipush (pc := 106) (v := -12) (dd dtX10_copy 51 rfl) (by decide) ?_
                refine b_eq (b_iret (dd dtX10_copy 52 rfl) rfl) ?_ ?_
                · (try clear hz); (try clear hy); (try clear hz0); (try clear hy0); simp [inR, vCopy, -Int32.not_lt, -Int32.not_le, *]
                · (try clear hz); (try clear hy); (try clear hz0); (try clear hy0); simp [inR, okCopy, -Int32.not_lt, -Int32.not_le, *]
              · refine b_iload (pc := 89) (i := 4) (dd dtX10_copy 43 rfl) rfl ?_
                refine b_ic0 (pc := 91) (dd dtX10_copy 44 rfl) ?_
                refine b_aload (pc := 92) (i := 7) (dd dtX10_copy 45 rfl) rfl ?_
                refine b_geti (pc := 94) (dd dtX10_copy 46 rfl) fwX10_214 (pS_0 (sheet_k h11).1) ?_
                refine b_iload (pc := 97) (i := 5) (dd dtX10_copy 47 rfl) rfl ?_
                refine b_isub (pc := 99) (dd dtX10_copy 48 rfl) ?_
                rw [hy]
                refine b_invS (pc := 100) (dd dtX10_copy 49 rfl) mlX10_97 mvX10_within msX10_within (c_X10_within) rfl rfl (by decide) (Nat.le_of_ble_eq_true rfl) ?_
                refine b_ifb_ne (pc := 103) (tgt := 109) (dd dtX10_copy 50 rfl) (by decide) (fun h103 => ?_) (fun h103 => ?_)
                · refine b_aload (pc := 109) (i := 6) (dd dtX10_copy 53 rfl) rfl ?_
                  refine b_geta (pc := 111) (dd dtX10_copy 54 rfl) fwX10_284 (pS_0 (sheet_k h4).1) (rS_2 (sheet_k h4).1) ?_
                  refine b_iload_n (pc := 114) (i := 2) (dd dtX10_copy 55 rfl) rfl rfl ?_
                  refine b_aload (pc := 115) (i := 7) (dd dtX10_copy 56 rfl) rfl ?_
                  refine b_geta (pc := 117) (dd dtX10_copy 57 rfl) fwX10_284 (pS_0 (sheet_k h11).1) (rS_2 (sheet_k h11).1) ?_
                  refine b_iload (pc := 120) (i := 4) (dd dtX10_copy 58 rfl) rfl ?_
                  refine b_iload (pc := 122) (i := 5) (dd dtX10_copy 59 rfl) rfl ?_
                  refine b_copyT (pc := 124) (Or.inl ⟨rfl, rfl⟩) (dd dtX10_copy 60 rfl) wlX10_359 (pS_1 (sheet_k h4).1) (pS_1 (sheet_k h11).1) ⟨(cpy_in h70 h86 hz2).1, (cpy_in h70 h103 hy2).1, h70, Nat.le_trans (cpy_in h70 h86 hz2).2 hz2, Nat.le_trans (cpy_in h70 h103 hy2).2 hy2, fun _ _ => rfl, Nat.le_of_ble_eq_true rfl⟩ ?_
                  refine b_iload (pc := 127) (i := 5) (dd dtX10_copy 61 rfl) rfl ?_
                  refine b_eq (b_iret (dd dtX10_copy 62 rfl) rfl) ?_ ?_
                  · (try clear hz); (try clear hy); (try clear hz0); (try clear hy0); simp [inR, vCopy, -Int32.not_lt, -Int32.not_le, *]
                  · (try clear hz); (try clear hy); (try clear hz0); (try clear hy0); simp [inR, okCopy, -Int32.not_lt, -Int32.not_le, *]
                · refine b_bipush (pc := 106) (v := -12) (dd dtX10_copy 51 rfl) (by decide) ?_
                  refine b_eq (b_iret (dd dtX10_copy 52 rfl) rfl) ?_ ?_
                  · (try clear hz); (try clear hy); (try clear hz0); (try clear hy0); simp [inR, vCopy, -Int32.not_lt, -Int32.not_le, *]
                  · (try clear hz); (try clear hy); (try clear hz0); (try clear hy0); simp [inR, okCopy, -Int32.not_lt, -Int32.not_le, *]
          · refine b_bipush (pc := 65) (v := -13) (dd dtX10_copy 31 rfl) (by decide) ?_
            refine b_eq (b_iret (dd dtX10_copy 32 rfl) rfl) ?_ ?_
            · (try clear hz); (try clear hy); (try clear hz0); (try clear hy0); simp [inR, vCopy, -Int32.not_lt, -Int32.not_le, *]
            · (try clear hz); (try clear hy); (try clear hz0); (try clear hy0); simp [inR, okCopy, -Int32.not_lt, -Int32.not_le, *]
        · refine b_bipush (pc := 49) (v := -11) (dd dtX10_copy 24 rfl) (by decide) ?_
          refine b_eq (b_iret (dd dtX10_copy 25 rfl) rfl) ?_ ?_
          · (try clear hz); (try clear hy); (try clear hz0); (try clear hy0); simp [inR, vCopy, -Int32.not_lt, -Int32.not_le, *]
          · (try clear hz); (try clear hy); (try clear hz0); (try clear hy0); simp [inR, okCopy, -Int32.not_lt, -Int32.not_le, *]
    · refine b_bipush (pc := 14) (v := -2) (dd dtX10_copy 6 rfl) (by decide) ?_
      refine b_eq (b_iret (dd dtX10_copy 7 rfl) rfl) ?_ ?_
      · (try clear hz); (try clear hy); (try clear hz0); (try clear hy0); simp [inR, vCopy, -Int32.not_lt, -Int32.not_le, *]
      · (try clear hz); (try clear hy); (try clear hz0); (try clear hy0); simp [inR, okCopy, -Int32.not_lt, -Int32.not_le, *]

/-- a kind and the kinds above it -/
def isOneN : Nat → Int32 → Int32 → Bool
  | 0, _, _ => false
  | n + 1, k, o => if k < 0 then false else if k < 6 then (if k = o then true else isOneN n (tbAbove.getD k.toNatClampNeg 0) o) else false
def tX6_isOneOf : List (Nat × Instr × Nat) := [(0, .iload_n 0, 1), (1, .istore_n 2, 1), (2, .iconst 0, 1), (3, .istore_n 3, 1), (4, .iload_n 3, 1), (5, .bipush 6, 2), (7, .if_icmp .ge 32, 3), (10, .iload_n 2, 1), (11, .ifCond .lt 28, 3), (14, .iload_n 2, 1), (15, .bipush 6, 2), (17, .if_icmp .ge 22, 3), (20, .iload_n 2, 1), (21, .iload_n 1, 1), (22, .if_icmp .ne 5, 3), (25, .iconst 1, 1), (26, .ireturn, 1), (27, .getstatic 60, 3), (30, .iload_n 2, 1), (31, .iaload, 1), (32, .istore_n 2, 1), (33, .iinc 3 1, 3), (36, .goto (-32), 3), (39, .iconst 0, 1), (40, .ireturn, 1)]
theorem dtX6_isOneOf : dec_ok mX6_isOneOf.2.1 tX6_isOneOf = true := by decide +kernel
set_option maxHeartbeats 4000000 in
theorem l_X6_isOneOf {I : Wd} {a b : Int32} : ∀ (n t : Nat) (x2 x3 : Int32), t + n = 6 → x3 = nI t → Bd SyC mX6_isOneOf 0 4 [(3, .int x3), (2, .int x2), (0, .int a), (1, .int b)] [] I (some (.int (bi (isOneN n x2 b = true)))) I := by
  intro n
  induction n with
  | zero =>
    intro t x2 x3 ht e3
    subst e3
    have ht : t = 6 := by omega
    subst ht
    refine b_iload_n (pc := 4) (i := 3) (dd dtX6_isOneOf 4 rfl) rfl rfl ?_
    refine b_bipush (pc := 5) (v := 6) (dd dtX6_isOneOf 5 rfl) (by decide) ?_
    refine b_icmpL_ge (pc := 7) (tgt := 39) (dd dtX6_isOneOf 6 rfl) (by decide) (fun h7 => ?_) (fun h7 => ?_)
    · refine b_ic0 (pc := 39) (dd dtX6_isOneOf 23 rfl) ?_
      refine b_eq (b_zret (dd dtX6_isOneOf 24 rfl) rfl (by first | rfl | exact nar_bi)) ?_ ?_
      · simp [bi, isOneN]
      · rfl
    · exact absurd h7 (by decide)
  | succ n ih =>
    intro t x2 x3 ht e3
    subst e3
    refine b_iload_n (pc := 4) (i := 3) (dd dtX6_isOneOf 4 rfl) rfl rfl ?_
    refine b_bipush (pc := 5) (v := 6) (dd dtX6_isOneOf 5 rfl) (by decide) ?_
    refine b_icmpL_ge (pc := 7) (tgt := 39) (dd dtX6_isOneOf 6 rfl) (by decide) (fun h7 => ?_) (fun h7 => ?_)
    · exact absurd (nI_lt (show t < 6 by omega) (by decide)) h7
    · refine b_iload_n (pc := 10) (i := 2) (dd dtX6_isOneOf 7 rfl) rfl rfl ?_
      refine b_if_lt (pc := 11) (tgt := 39) (dd dtX6_isOneOf 8 rfl) (by decide) (fun h11 => ?_) (fun h11 => ?_)
      · refine b_ic0 (pc := 39) (dd dtX6_isOneOf 23 rfl) ?_
        refine b_eq (b_zret (dd dtX6_isOneOf 24 rfl) rfl (by first | rfl | exact nar_bi)) ?_ ?_
        · simp [bi, isOneN, -Int32.not_lt, -Int32.not_le, *]
        · rfl
      · refine b_iload_n (pc := 14) (i := 2) (dd dtX6_isOneOf 9 rfl) rfl rfl ?_
        refine b_bipush (pc := 15) (v := 6) (dd dtX6_isOneOf 10 rfl) (by decide) ?_
        refine b_icmpL_ge (pc := 17) (tgt := 39) (dd dtX6_isOneOf 11 rfl) (by decide) (fun h17 => ?_) (fun h17 => ?_)
        · refine b_ic0 (pc := 39) (dd dtX6_isOneOf 23 rfl) ?_
          refine b_eq (b_zret (dd dtX6_isOneOf 24 rfl) rfl (by first | rfl | exact nar_bi)) ?_ ?_
          · simp [bi, isOneN, -Int32.not_lt, -Int32.not_le, *]
          · rfl
        · refine b_iload_n (pc := 20) (i := 2) (dd dtX6_isOneOf 12 rfl) rfl rfl ?_
          refine b_iload_n (pc := 21) (i := 1) (dd dtX6_isOneOf 13 rfl) rfl rfl ?_
          refine b_icmp_ne (pc := 22) (tgt := 27) (dd dtX6_isOneOf 14 rfl) (by decide) (fun h22 => ?_) (fun h22 => ?_)
          · refine b_gets2 (pc := 27) (dd dtX6_isOneOf 17 rfl) fsX6_60 ?_
            refine b_iload_n (pc := 30) (i := 2) (dd dtX6_isOneOf 18 rfl) rfl rfl ?_
            refine b_tald2 (pc := 31) (dd dtX6_isOneOf 19 rfl) (by rw [vp_in_iff]; rw [Int32.lt_iff_toInt_lt] at h11 h17; have e0 : (0 : Int32).toInt = 0 := rfl; have e6 : (6 : Int32).toInt = 6 := rfl; omega) ?_
            refine b_istore_n (pc := 32) (i := 2) (lv' := [(2, _), (3, _), (0, _), (1, _)]) (dd dtX6_isOneOf 20 rfl) rfl (Nat.le_of_ble_eq_true rfl) rfl ?_
            refine b_iinc1 (pc := 33) (i := 3) (lv' := [(3, _), (2, _), (0, _), (1, _)]) (dd dtX6_isOneOf 21 rfl) rfl (Nat.le_of_ble_eq_true rfl) rfl ?_
            refine b_goto (pc := 36) (tgt := 4) (dd dtX6_isOneOf 22 rfl) (by decide) ?_
            rw [nI_1]
            refine b_eq (ih (t + 1) _ _ (by omega) rfl) ?_ rfl
            simp [isOneN, -Int32.not_lt, -Int32.not_le, *]
          · refine b_ic1 (pc := 25) (dd dtX6_isOneOf 15 rfl) ?_
            refine b_eq (b_zret (dd dtX6_isOneOf 16 rfl) rfl (by first | rfl | exact nar_bi)) ?_ ?_
            · subst h22; simp [bi, isOneN, -Int32.not_lt, -Int32.not_le, h11, h17]
            · rfl
set_option maxHeartbeats 4000000 in
theorem c_X6_isOneOf {I : Wd} {a b : Int32} : Cal SyC mX6_isOneOf 0 [.int a, .int b] I (some (.int (bi (isOneN 6 a b = true)))) I := by
  refine Cal.of (by decide) (Nat.le_of_ble_eq_true rfl) ?_
  show Bd _ _ _ _ [(0, _), (1, _)] _ _ _ _
  refine b_iload_n (pc := 0) (i := 0) (dd dtX6_isOneOf 0 rfl) rfl rfl ?_
  refine b_istore_n (pc := 1) (i := 2) (lv' := [(2, _), (0, _), (1, _)]) (dd dtX6_isOneOf 1 rfl) rfl (Nat.le_of_ble_eq_true rfl) rfl ?_
  refine b_ic0 (pc := 2) (dd dtX6_isOneOf 2 rfl) ?_
  refine b_istore_n (pc := 3) (i := 3) (lv' := [(3, _), (2, _), (0, _), (1, _)]) (dd dtX6_isOneOf 3 rfl) rfl (Nat.le_of_ble_eq_true rfl) rfl ?_
  exact l_X6_isOneOf 6 0 _ _ (by omega) rfl
def vTaken (isOf : Int32 → Int32 → Prop) [∀ a b, Decidable (isOf a b)] (kind cell worth wmon : Nat → Int32) (nk nh nw what i q : Int32) : Int32 := if inR what 0 2 ∧ inR q 0 7 then (if what = 0 then (if inR i 0 (nk - 1) then (if isOf (kind i.toNatClampNeg) q then cell i.toNatClampNeg else -13) else -11) else if what = 1 then (if inR i 0 (nh - 1) then (if q = 6 then worth i.toNatClampNeg else -13) else -11) else (if inR i 0 (nw - 1) then (if q = 7 then wmon i.toNatClampNeg else -13) else -11)) else -2
def tX10_taken : List (Nat × Instr × Nat) := [(0, .iload_n 1, 1), (1, .iconst 0, 1), (2, .iconst 2, 1), (3, .invokestatic 97, 3), (6, .ifCond .eq 13, 3), (9, .iload_n 3, 1), (10, .iconst 0, 1), (11, .bipush 7, 2), (13, .invokestatic 97, 3), (16, .ifCond .ne 6, 3), (19, .bipush (-2), 2), (21, .ireturn, 1), (22, .iload_n 1, 1), (23, .lookupswitch 99 #[(0, 25), (1, 67)], 25), (48, .aload_n 0, 1), (49, .iload_n 2, 1), (50, .invokevirtual 160, 3), (53, .ifCond .ne 6, 3), (56, .bipush (-11), 2), (58, .ireturn, 1), (59, .aload_n 0, 1), (60, .getfield 38, 3), (63, .getfield 175, 3), (66, .iload_n 2, 1), (67, .iaload, 1), (68, .iload_n 3, 1), (69, .invokestatic 368, 3), (72, .ifCond .eq 15, 3), (75, .aload_n 0, 1), (76, .getfield 38, 3), (79, .getfield 182, 3), (82, .iload_n 2, 1), (83, .iaload, 1), (84, .goto 5, 3), (87, .bipush (-13), 2), (89, .ireturn, 1), (90, .aload_n 0, 1), (91, .iload_n 2, 1), (92, .invokevirtual 131, 3), (95, .ifCond .ne 6, 3), (98, .bipush (-11), 2), (100, .ireturn, 1), (101, .iload_n 3, 1), (102, .bipush 6, 2), (104, .if_icmp .ne 15, 3), (107, .aload_n 0, 1), (108, .getfield 10, 3), (111, .getfield 321, 3), (114, .iload_n 2, 1), (115, .iaload, 1), (116, .goto 5, 3), (119, .bipush (-13), 2), (121, .ireturn, 1), (122, .iload_n 2, 1), (123, .iconst 0, 1), (124, .aload_n 0, 1), (125, .getfield 51, 3), (128, .getfield 346, 3), (131, .iconst 1, 1), (132, .isub, 1), (133, .invokestatic 97, 3), (136, .ifCond .ne 6, 3), (139, .bipush (-11), 2), (141, .ireturn, 1), (142, .iload_n 3, 1), (143, .bipush 7, 2), (145, .if_icmp .ne 15, 3), (148, .aload_n 0, 1), (149, .getfield 51, 3), (152, .getfield 372, 3), (155, .iload_n 2, 1), (156, .iaload, 1), (157, .goto 5, 3), (160, .bipush (-13), 2), (162, .ireturn, 1)]
theorem dtX10_taken : dec_ok mX10_taken.2.1 tX10_taken = true := by decide +kernel
set_option maxHeartbeats 4000000 in
theorem c_X10_taken {I : Wd} {K N Wn : Nat} {what i q : Int32} (hK : I 42 0 = nI K) (hK2 : K ≤ 30) (hN : I 1 0 = nI N) (hN2 : N ≤ 14) (hW : I 53 0 = nI Wn) (hW2 : Wn ≤ 30) : Cal SyC mX10_taken 2 [.ref 0, .int what, .int i, .int q] I (some (.int (vTaken (fun a b => isOneN 6 a b = true) (I 43) (I 44) (I 3) (I 56) (I 42 0) (I 1 0) (I 53 0) what i q))) I := by
  refine Cal.of (by decide) (Nat.le_of_ble_eq_true rfl) ?_
  show Bd _ _ _ _ [(0, _), (1, _), (2, _), (3, _)] _ _ _ _
  refine b_iload_n (pc := 0) (i := 1) (dd dtX10_taken 0 rfl) rfl rfl ?_
  refine b_ic0 (pc := 1) (dd dtX10_taken 1 rfl) ?_
  refine b_ic2 (pc := 2) (dd dtX10_taken 2 rfl) ?_
  refine b_invS (pc := 3) (dd dtX10_taken 3 rfl) mlX10_97 mvX10_within msX10_within (c_X10_within) rfl rfl (by decide) (Nat.le_of_ble_eq_true rfl) ?_
  refine b_ifb_eq (pc := 6) (tgt := 19) (dd dtX10_taken 4 rfl) (by decide) (fun h6 => ?_) (fun h6 => ?_)
  · refine b_bipush (pc := 19) (v := -2) (dd dtX10_taken 10 rfl) (by decide) ?_
    refine b_eq (b_iret (dd dtX10_taken 11 rfl) rfl) ?_ ?_
    · (try clear hK); (try clear hN); (try clear hW); simp [inR, vTaken, -Int32.not_lt, -Int32.not_le, *]
    · rfl
  · refine b_iload_n (pc := 9) (i := 3) (dd dtX10_taken 5 rfl) rfl rfl ?_
    refine b_ic0 (pc := 10) (dd dtX10_taken 6 rfl) ?_
    refine b_bipush (pc := 11) (v := 7) (dd dtX10_taken 7 rfl) (by decide) ?_
    refine b_invS (pc := 13) (dd dtX10_taken 8 rfl) mlX10_97 mvX10_within msX10_within (c_X10_within) rfl rfl (by decide) (Nat.le_of_ble_eq_true rfl) ?_
    refine b_ifb_ne (pc := 16) (tgt := 22) (dd dtX10_taken 9 rfl) (by decide) (fun h16 => ?_) (fun h16 => ?_)
    · refine b_iload_n (pc := 22) (i := 1) (dd dtX10_taken 12 rfl) rfl rfl ?_
      refine b_lsw (pc := 23) (ts := [(0, 48), (1, 90)]) (dfl := 122) (dd dtX10_taken 13 rfl) (by decide +kernel) ⟨fun h23 => ?_, fun h23_0 => ⟨fun h23 => ?_, fun h23_1 => ?_⟩⟩
      · refine b_aload_n (pc := 48) (i := 0) (dd dtX10_taken 14 rfl) rfl rfl ?_
        refine b_iload_n (pc := 49) (i := 2) (dd dtX10_taken 15 rfl) rfl rfl ?_
        refine b_invV (pc := 50) (dd dtX10_taken 16 rfl) mlX10_160 mvX10_isSign miX10_isSign (c_X10_isSign) oC_0 rfl rfl (by decide) (Nat.le_of_ble_eq_true rfl) ?_
        refine b_ifb_ne (pc := 53) (tgt := 59) (dd dtX10_taken 17 rfl) (by decide) (fun h53 => ?_) (fun h53 => ?_)
        · refine b_aload_n (pc := 59) (i := 0) (dd dtX10_taken 20 rfl) rfl rfl ?_
          refine b_geta (pc := 60) (dd dtX10_taken 21 rfl) fwX10_38 pC_0 rC_0_5 ?_
          refine b_geta (pc := 63) (dd dtX10_taken 22 rfl) fwX10_175 pC_42 rC_42_1 ?_
          refine b_iload_n (pc := 66) (i := 2) (dd dtX10_taken 23 rfl) rfl rfl ?_
          refine b_iald (pc := 67) (dd dtX10_taken 24 rfl) pC_43 (vpm (by rw [hK] at h53; exact h53) hK2 (by decide)) ?_
          refine b_iload_n (pc := 68) (i := 3) (dd dtX10_taken 25 rfl) rfl rfl ?_
          refine b_invS (pc := 69) (dd dtX10_taken 26 rfl) mlX10_368 mvX6_isOneOf msX6_isOneOf (c_X6_isOneOf) rfl rfl (by decide) (Nat.le_of_ble_eq_true rfl) ?_
          refine b_ifb_eq (pc := 72) (tgt := 87) (dd dtX10_taken 27 rfl) (by decide) (fun h72 => ?_) (fun h72 => ?_)
          · refine b_bipush (pc := 87) (v := -13) (dd dtX10_taken 34 rfl) (by decide) ?_
            refine b_eq (b_iret (dd dtX10_taken 35 rfl) rfl) ?_ ?_
            · (try clear hK); (try clear hN); (try clear hW); simp [inR, vTaken, -Int32.not_lt, -Int32.not_le, *]
            · rfl
          · refine b_aload_n (pc := 75) (i := 0) (dd dtX10_taken 28 rfl) rfl rfl ?_
            refine b_geta (pc := 76) (dd dtX10_taken 29 rfl) fwX10_38 pC_0 rC_0_5 ?_
            refine b_geta (pc := 79) (dd dtX10_taken 30 rfl) fwX10_182 pC_42 rC_42_2 ?_
            refine b_iload_n (pc := 82) (i := 2) (dd dtX10_taken 31 rfl) rfl rfl ?_
            refine b_iald (pc := 83) (dd dtX10_taken 32 rfl) pC_44 (vpm (by rw [hK] at h53; exact h53) hK2 (by decide)) ?_
            refine b_goto (pc := 84) (tgt := 89) (dd dtX10_taken 33 rfl) (by decide) ?_
            refine b_eq (b_iret (dd dtX10_taken 35 rfl) rfl) ?_ ?_
            · (try clear hK); (try clear hN); (try clear hW); simp [inR, vTaken, -Int32.not_lt, -Int32.not_le, *]
            · rfl
        · refine b_bipush (pc := 56) (v := -11) (dd dtX10_taken 18 rfl) (by decide) ?_
          refine b_eq (b_iret (dd dtX10_taken 19 rfl) rfl) ?_ ?_
          · (try clear hK); (try clear hN); (try clear hW); simp [inR, vTaken, -Int32.not_lt, -Int32.not_le, *]
          · rfl
      · refine b_aload_n (pc := 90) (i := 0) (dd dtX10_taken 36 rfl) rfl rfl ?_
        refine b_iload_n (pc := 91) (i := 2) (dd dtX10_taken 37 rfl) rfl rfl ?_
        refine b_invV (pc := 92) (dd dtX10_taken 38 rfl) mlX10_131 mvX10_isHouse miX10_isHouse (c_X10_isHouse) oC_0 rfl rfl (by decide) (Nat.le_of_ble_eq_true rfl) ?_
        refine b_ifb_ne (pc := 95) (tgt := 101) (dd dtX10_taken 39 rfl) (by decide) (fun h95 => ?_) (fun h95 => ?_)
        · refine b_iload_n (pc := 101) (i := 3) (dd dtX10_taken 42 rfl) rfl rfl ?_
          refine b_bipush (pc := 102) (v := 6) (dd dtX10_taken 43 rfl) (by decide) ?_
          refine b_icmp_ne (pc := 104) (tgt := 119) (dd dtX10_taken 44 rfl) (by decide) (fun h104 => ?_) (fun h104 => ?_)
          · refine b_bipush (pc := 119) (v := -13) (dd dtX10_taken 51 rfl) (by decide) ?_
            refine b_eq (b_iret (dd dtX10_taken 52 rfl) rfl) ?_ ?_
            · (try clear hK); (try clear hN); (try clear hW); simp [inR, vTaken, -Int32.not_lt, -Int32.not_le, *]
            · rfl
          · refine b_aload_n (pc := 107) (i := 0) (dd dtX10_taken 45 rfl) rfl rfl ?_
            refine b_geta (pc := 108) (dd dtX10_taken 46 rfl) fwX10_10 pC_0 rC_0_0 ?_
            refine b_geta (pc := 111) (dd dtX10_taken 47 rfl) fwX10_321 pC_1 rC_1_3 ?_
            refine b_iload_n (pc := 114) (i := 2) (dd dtX10_taken 48 rfl) rfl rfl ?_
            refine b_iald (pc := 115) (dd dtX10_taken 49 rfl) pC_3 (vpm (by rw [hN] at h95; exact h95) hN2 (by decide)) ?_
            refine b_goto (pc := 116) (tgt := 121) (dd dtX10_taken 50 rfl) (by decide) ?_
            refine b_eq (b_iret (dd dtX10_taken 52 rfl) rfl) ?_ ?_
            · (try clear hK); (try clear hN); (try clear hW); simp [inR, vTaken, -Int32.not_lt, -Int32.not_le, *]
            · rfl
        · refine b_bipush (pc := 98) (v := -11) (dd dtX10_taken 40 rfl) (by decide) ?_
          refine b_eq (b_iret (dd dtX10_taken 41 rfl) rfl) ?_ ?_
          · (try clear hK); (try clear hN); (try clear hW); simp [inR, vTaken, -Int32.not_lt, -Int32.not_le, *]
          · rfl
      · refine b_iload_n (pc := 122) (i := 2) (dd dtX10_taken 53 rfl) rfl rfl ?_
        refine b_ic0 (pc := 123) (dd dtX10_taken 54 rfl) ?_
        refine b_aload_n (pc := 124) (i := 0) (dd dtX10_taken 55 rfl) rfl rfl ?_
        refine b_geta (pc := 125) (dd dtX10_taken 56 rfl) fwX10_51 pC_0 rC_0_7 ?_
        refine b_geti (pc := 128) (dd dtX10_taken 57 rfl) fwX10_346 pC_53 ?_
        refine b_ic1 (pc := 131) (dd dtX10_taken 58 rfl) ?_
        refine b_isub (pc := 132) (dd dtX10_taken 59 rfl) ?_
        refine b_invS (pc := 133) (dd dtX10_taken 60 rfl) mlX10_97 mvX10_within msX10_within (c_X10_within) rfl rfl (by decide) (Nat.le_of_ble_eq_true rfl) ?_
        refine b_ifb_ne (pc := 136) (tgt := 142) (dd dtX10_taken 61 rfl) (by decide) (fun h136 => ?_) (fun h136 => ?_)
        · refine b_iload_n (pc := 142) (i := 3) (dd dtX10_taken 64 rfl) rfl rfl ?_
          refine b_bipush (pc := 143) (v := 7) (dd dtX10_taken 65 rfl) (by decide) ?_
          refine b_icmp_ne (pc := 145) (tgt := 160) (dd dtX10_taken 66 rfl) (by decide) (fun h145 => ?_) (fun h145 => ?_)
          · refine b_bipush (pc := 160) (v := -13) (dd dtX10_taken 73 rfl) (by decide) ?_
            refine b_eq (b_iret (dd dtX10_taken 74 rfl) rfl) ?_ ?_
            · (try clear hK); (try clear hN); (try clear hW); simp [inR, vTaken, -Int32.not_lt, -Int32.not_le, *]
            · rfl
          · refine b_aload_n (pc := 148) (i := 0) (dd dtX10_taken 67 rfl) rfl rfl ?_
            refine b_geta (pc := 149) (dd dtX10_taken 68 rfl) fwX10_51 pC_0 rC_0_7 ?_
            refine b_geta (pc := 152) (dd dtX10_taken 69 rfl) fwX10_372 pC_53 rC_53_3 ?_
            refine b_iload_n (pc := 155) (i := 2) (dd dtX10_taken 70 rfl) rfl rfl ?_
            refine b_iald (pc := 156) (dd dtX10_taken 71 rfl) pC_56 (vpm (by rw [hW] at h136; exact h136) hW2 (by decide)) ?_
            refine b_goto (pc := 157) (tgt := 162) (dd dtX10_taken 72 rfl) (by decide) ?_
            refine b_eq (b_iret (dd dtX10_taken 74 rfl) rfl) ?_ ?_
            · (try clear hK); (try clear hN); (try clear hW); simp [inR, vTaken, -Int32.not_lt, -Int32.not_le, *]
            · rfl
        · refine b_bipush (pc := 139) (v := -11) (dd dtX10_taken 62 rfl) (by decide) ?_
          refine b_eq (b_iret (dd dtX10_taken 63 rfl) rfl) ?_ ?_
          · (try clear hK); (try clear hN); (try clear hW); simp [inR, vTaken, -Int32.not_lt, -Int32.not_le, *]
          · rfl
    · refine b_bipush (pc := 19) (v := -2) (dd dtX10_taken 10 rfl) (by decide) ?_
      refine b_eq (b_iret (dd dtX10_taken 11 rfl) rfl) ?_ ?_
      · (try clear hK); (try clear hN); (try clear hW); simp [inR, vTaken, -Int32.not_lt, -Int32.not_le, *]
      · rfl
end
section
/-! a month of a ground of the class, on its world -/
theorem isG.ge {g : Nat} (h : isG g) : 6 ≤ g := by unfold isG at h; omega
def FG (g : Nat) (I : Wd) (N P : Nat) : Prop := (I 1 0 = nI N ∧ N ≤ 14) ∧ (I 1 1 = nI P ∧ P ≤ 6) ∧ (∀ c, c < 64 → vp_in (I (g + 1) c) 4) ∧ ∀ p, p < P → vp_in (I 5 p) 64
theorem FG.of {g : Nat} {I J : Wd} {N P : Nat} (h : FG g I N P) (h1 : J 1 = I 1) (h5 : J 5 = I 5) (hr : J (g + 1) = I (g + 1)) : FG g J N P := by
  unfold FG; rw [h1, h5, hr]; exact h
def mn (x y : Int32) : Int32 := if y < x then y else x
def ab (x : Int32) : Int32 := if 0 ≤ x then x else 0 - x
def sHarm (w p away : Nat → Int32) (h : Nat) : Int32 := w h + (if away h = 0 then 1000 * p h else 0)
def solveW (g : Nat) (I : Wd) (c : Nat) (much : Int32) : Wd := if I (g + 4) c < 0 then ist I (g + 2) c (mn (I (g + 2) c + much * tbSolves.getD (I (g + 1) c).toNatClampNeg 0 / 10) 200) else I
def goW (g : Nat) (I : Wd) (a b : Nat) (n : Int32) : Wd := solveW g (solveW g (ist (ist I (g + 3) a (I (g + 3) a - n)) (g + 3) b ((ist I (g + 3) a (I (g + 3) a - n)) (g + 3) b + n)) a (ab n)) b (ab n)
def rainW (g : Nat) (I : Wd) : Wd := rset I (g + 3) (fil (fun c => mn (I (g + 3) c + I g 2) 9999) (I (g + 3)) 64)
def pump1 (g : Nat) (I : Wd) (p : Nat) : Wd := solveW g (ist I (g + 3) (I 5 p).toNatClampNeg (I (g + 3) (I 5 p).toNatClampNeg - mn (I (g + 7) p) (I (g + 3) (I 5 p).toNatClampNeg))) (I 5 p).toNatClampNeg (mn (I (g + 7) p) (I (g + 3) (I 5 p).toNatClampNeg))
def pumpW (g : Nat) (I : Wd) : Nat → Wd
  | 0 => I
  | p + 1 => pump1 g (pumpW g I p) p
def dnF (w : Nat → Int32) (c : Nat) : Int32 := if c + 8 < 64 then (w c - w (c + 8)) / 8 else 0
def acF (w : Nat → Int32) (c : Nat) : Int32 := if c % 8 < 7 then (w c - w (c + 1)) / 8 else 0
def measW (g : Nat) (I : Wd) (h : Nat) : Wd := rset (rset I (g + 10) (fil (dnF (I (g + 3))) (I (g + 10)) h)) (g + 11) (fil (acF (I (g + 3))) (I (g + 11)) h)
def flow1 (g : Nat) (I : Wd) (c : Nat) : Wd := if c + 8 < 64 then goW g I c (c + 8) (I (g + 10) c) else I
def flow2 (g : Nat) (I : Wd) (c : Nat) : Wd := if c % 8 < 7 then goW g I c (c + 1) (I (g + 11) c) else I
def flowW (g : Nat) (I : Wd) : Nat → Wd
  | 0 => I
  | c + 1 => flow2 g (flow1 g (flowW g I c) c) c
def take1 (g : Nat) (I : Wd) (c h : Nat) : Wd := if I 2 h = nI c ∧ I (g + 8) h < 0 then ist (ist I (g + 8) h (I g 1)) g 4 (I g 4 + sHarm (I 3) (I 4) (I (g + 9)) h) else I
def takeW (g : Nat) (I : Wd) (c : Nat) : Nat → Wd
  | 0 => I
  | h + 1 => take1 g (takeW g I c h) c h
def fall1 (g : Nat) (I : Wd) (N c : Nat) : Wd :=
  if I (g + 4) c < 0 then
    (if tbBears.getD (I (g + 1) c).toNatClampNeg 0 + I (g + 3) c / 20 < I (g + 2) c then
      takeW g (ist (ist (ist (ist I (g + 6) (I (g + 1) c).toNatClampNeg (I (g + 6) (I (g + 1) c).toNatClampNeg + 1)) (g + 4) c (I g 1)) g 3 (I g 3 + 1)) (g + 5) (I (g + 1) c).toNatClampNeg (I (g + 5) (I (g + 1) c).toNatClampNeg + 1)) c N
    else ist I (g + 6) (I (g + 1) c).toNatClampNeg (I (g + 6) (I (g + 1) c).toNatClampNeg + 1))
  else I
def fallW (g : Nat) (I : Wd) (N : Nat) : Nat → Wd
  | 0 => I
  | c + 1 => fall1 g (fallW g I N c) N c
def monthW (g N P : Nat) (I : Wd) : Wd := ist (fallW g (flowW g (measW g (pumpW g (rainW g I) P) 64) 64) N 64) g 1 ((fallW g (flowW g (measW g (pumpW g (rainW g I) P) 64) 64) N 64) g 1 + 1)
def monthsW (g N P : Nat) (I : Wd) : Nat → Wd
  | 0 => I
  | n + 1 => monthW g N P (monthsW g N P I n)
/-! what each leaves alone -/
theorem solveW_fr {g : Nat} {I : Wd} {c : Nat} {n : Int32} {a : Nat} (h : a ≠ g + 2) : solveW g I c n a = I a := by unfold solveW; split <;> simp [ist_ne h]
theorem goW_fr {g : Nat} {I : Wd} {x y : Nat} {n : Int32} {a : Nat} (h : a ≠ g + 2) (h3 : a ≠ g + 3) : goW g I x y n a = I a := by unfold goW; rw [solveW_fr h, solveW_fr h, ist_ne h3, ist_ne h3]
theorem rainW_fr {g : Nat} {I : Wd} {a : Nat} (h3 : a ≠ g + 3) : rainW g I a = I a := rset_ne h3
theorem pumpW_fr {g : Nat} {I : Wd} {p a : Nat} (h : a ≠ g + 2) (h3 : a ≠ g + 3) : pumpW g I p a = I a := by
  induction p with
  | zero => rfl
  | succ p ih => unfold pumpW pump1; rw [solveW_fr h, ist_ne h3, ih]
theorem measW_fr {g : Nat} {I : Wd} {h a : Nat} (h1 : a ≠ g + 10) (h2 : a ≠ g + 11) : measW g I h a = I a := by unfold measW; rw [rset_ne h2, rset_ne h1]
theorem flowW_fr {g : Nat} {I : Wd} {c a : Nat} (h : a ≠ g + 2) (h3 : a ≠ g + 3) : flowW g I c a = I a := by
  induction c with
  | zero => rfl
  | succ c ih => unfold flowW flow2 flow1; split <;> split <;> simp only [goW_fr h h3, ih]
theorem takeW_fr {g : Nat} {I : Wd} {c n a : Nat} (h8 : a ≠ g + 8) (h0 : a ≠ g) : takeW g I c n a = I a := by
  induction n with
  | zero => rfl
  | succ n ih => unfold takeW take1; split <;> simp only [ist_ne h0, ist_ne h8, ih]
theorem fallW_fr {g : Nat} {I : Wd} {N c a : Nat} (h0 : a ≠ g) (h4 : a ≠ g + 4) (h5 : a ≠ g + 5) (h6 : a ≠ g + 6) (h8 : a ≠ g + 8) : fallW g I N c a = I a := by
  induction c with
  | zero => rfl
  | succ c ih => unfold fallW fall1; split <;> (try split) <;> simp only [takeW_fr h8 h0, ist_ne h0, ist_ne h4, ist_ne h5, ist_ne h6, ih]
theorem monthW_fr {g N P : Nat} {I : Wd} {a : Nat} (h0 : a ≠ g) (h2 : a ≠ g + 2) (h3 : a ≠ g + 3) (h4 : a ≠ g + 4) (h5 : a ≠ g + 5) (h6 : a ≠ g + 6) (h8 : a ≠ g + 8) (h10 : a ≠ g + 10) (h11 : a ≠ g + 11) : monthW g N P I a = I a := by
  unfold monthW; rw [ist_ne h0, fallW_fr h0 h4 h5 h6 h8, flowW_fr h2 h3, measW_fr h10 h11, pumpW_fr h2 h3, rainW_fr h3]
theorem monthsW_fr {g N P n : Nat} {I : Wd} {a : Nat} (h0 : a ≠ g) (h2 : a ≠ g + 2) (h3 : a ≠ g + 3) (h4 : a ≠ g + 4) (h5 : a ≠ g + 5) (h6 : a ≠ g + 6) (h8 : a ≠ g + 8) (h10 : a ≠ g + 10) (h11 : a ≠ g + 11) : monthsW g N P I n a = I a := by
  induction n with
  | zero => rfl
  | succ n ih => unfold monthsW; rw [monthW_fr h0 h2 h3 h4 h5 h6 h8 h10 h11, ih]
def tX2_harmOf : List (Nat × Instr × Nat) := [(0, .aload_n 0, 1), (1, .getfield 59, 3), (4, .getfield 90, 3), (7, .iload_n 1, 1), (8, .iaload, 1), (9, .aload_n 0, 1), (10, .getfield 49, 3), (13, .iload_n 1, 1), (14, .baload, 1), (15, .ifCond .eq 7, 3), (18, .iconst 0, 1), (19, .goto 16, 3), (22, .sipush 1000, 3), (25, .aload_n 0, 1), (26, .getfield 59, 3), (29, .getfield 77, 3), (32, .iload_n 1, 1), (33, .iaload, 1), (34, .imul, 1), (35, .iadd, 1), (36, .ireturn, 1)]
theorem dtX2_harmOf : dec_ok mX2_harmOf.2.1 tX2_harmOf = true := by decide +kernel
set_option maxHeartbeats 4000000 in
theorem c_X2_harmOf {I : Wd} {g : Nat} (hg : isG g) {h : Int32} (hh : vp_in h 14) : Cal SyC mX2_harmOf 0 [.ref g, .int h] I (some (.int (sHarm (I 3) (I 4) (I (g + 9)) h.toNatClampNeg))) I := by
  refine Cal.of (by decide) (Nat.le_of_ble_eq_true rfl) ?_
  show Bd _ _ _ _ [(0, _), (1, _)] _ _ _ _
  refine b_aload_n (pc := 0) (i := 0) (dd dtX2_harmOf 0 rfl) rfl rfl ?_
  refine b_geta (pc := 1) (dd dtX2_harmOf 1 rfl) fwX2_59 (pG_0 hg) (rG_0 hg) ?_
  refine b_geta (pc := 4) (dd dtX2_harmOf 2 rfl) fwX2_90 pC_1 rC_1_3 ?_
  refine b_iload_n (pc := 7) (i := 1) (dd dtX2_harmOf 3 rfl) rfl rfl ?_
  refine b_iald (pc := 8) (dd dtX2_harmOf 4 rfl) pC_3 (by assumption) ?_
  refine b_aload_n (pc := 9) (i := 0) (dd dtX2_harmOf 5 rfl) rfl rfl ?_
  refine b_geta (pc := 10) (dd dtX2_harmOf 6 rfl) fwX2_49 (pG_0 hg) (rG_13 hg) ?_
  refine b_iload_n (pc := 13) (i := 1) (dd dtX2_harmOf 7 rfl) rfl rfl ?_
  refine b_zald (pc := 14) (dd dtX2_harmOf 8 rfl) (pG_9 hg) (by assumption) ?_
  refine b_if_eq (pc := 15) (tgt := 22) (dd dtX2_harmOf 9 rfl) (by decide) (fun h15 => ?_) (fun h15 => ?_)
  · refine b_sipush (pc := 22) (v := 1000) (dd dtX2_harmOf 12 rfl) (by decide) ?_
    refine b_aload_n (pc := 25) (i := 0) (dd dtX2_harmOf 13 rfl) rfl rfl ?_
    refine b_geta (pc := 26) (dd dtX2_harmOf 14 rfl) fwX2_59 (pG_0 hg) (rG_0 hg) ?_
    refine b_geta (pc := 29) (dd dtX2_harmOf 15 rfl) fwX2_77 pC_1 rC_1_4 ?_
    refine b_iload_n (pc := 32) (i := 1) (dd dtX2_harmOf 16 rfl) rfl rfl ?_
    refine b_iald (pc := 33) (dd dtX2_harmOf 17 rfl) pC_4 (by assumption) ?_
    refine b_imul (pc := 34) (dd dtX2_harmOf 18 rfl) ?_
    refine b_iadd (pc := 35) (dd dtX2_harmOf 19 rfl) ?_
    refine b_eq (b_iret (dd dtX2_harmOf 20 rfl) rfl) ?_ ?_
    · simp [sHarm, *]
    · rfl
  · refine b_ic0 (pc := 18) (dd dtX2_harmOf 10 rfl) ?_
    refine b_goto (pc := 19) (tgt := 35) (dd dtX2_harmOf 11 rfl) (by decide) ?_
    refine b_iadd (pc := 35) (dd dtX2_harmOf 19 rfl) ?_
    refine b_eq (b_iret (dd dtX2_harmOf 20 rfl) rfl) ?_ ?_
    · simp [sHarm, *]
    · rfl
def tX2_solve : List (Nat × Instr × Nat) := [(0, .aload_n 0, 1), (1, .iload_n 1, 1), (2, .invokevirtual 123, 3), (5, .ifCond .ne 37, 3), (8, .aload_n 0, 1), (9, .getfield 28, 3), (12, .iload_n 1, 1), (13, .aload_n 0, 1), (14, .getfield 28, 3), (17, .iload_n 1, 1), (18, .iaload, 1), (19, .iload_n 2, 1), (20, .getstatic 127, 3), (23, .aload_n 0, 1), (24, .getfield 24, 3), (27, .iload_n 1, 1), (28, .iaload, 1), (29, .iaload, 1), (30, .imul, 1), (31, .bipush 10, 2), (33, .idiv, 1), (34, .iadd, 1), (35, .sipush 200, 3), (38, .invokestatic 105, 3), (41, .iastore, 1), (42, .return_, 1)]
theorem dtX2_solve : dec_ok mX2_solve.2.1 tX2_solve = true := by decide +kernel
set_option maxHeartbeats 4000000 in
theorem c_X2_solve {I : Wd} {g : Nat} (hg : isG g) {c u : Int32} (hc : vp_in c 64) (hr : vp_in (I (g + 1) c.toNatClampNeg) 4) : Cal SyC mX2_solve 1 [.ref g, .int c, .int u] I none (solveW g I c.toNatClampNeg u) := by
  refine Cal.of (by decide) (Nat.le_of_ble_eq_true rfl) ?_
  show Bd _ _ _ _ [(0, _), (1, _), (2, _)] _ _ _ _
  refine b_aload_n (pc := 0) (i := 0) (dd dtX2_solve 0 rfl) rfl rfl ?_
  refine b_iload_n (pc := 1) (i := 1) (dd dtX2_solve 1 rfl) rfl rfl ?_
  refine b_invV (pc := 2) (dd dtX2_solve 2 rfl) mlX2_123 mvX2_hasFallen miX2_hasFallen (c_X2_hasFallen hg hc) (oG hg) rfl rfl (by decide) (Nat.le_of_ble_eq_true rfl) ?_
  refine b_ifn_ne (pc := 5) (tgt := 42) (dd dtX2_solve 3 rfl) (by decide) (fun h5 => ?_) (fun h5 => ?_)
  · refine b_eq (b_vret (dd dtX2_solve 25 rfl) rfl) ?_ ?_
    · rfl
    · simp [solveW, mn, *]
  · refine b_aload_n (pc := 8) (i := 0) (dd dtX2_solve 4 rfl) rfl rfl ?_
    refine b_geta (pc := 9) (dd dtX2_solve 5 rfl) fwX2_28 (pG_0 hg) (rG_6 hg) ?_
    refine b_iload_n (pc := 12) (i := 1) (dd dtX2_solve 6 rfl) rfl rfl ?_
    refine b_aload_n (pc := 13) (i := 0) (dd dtX2_solve 7 rfl) rfl rfl ?_
    refine b_geta (pc := 14) (dd dtX2_solve 8 rfl) fwX2_28 (pG_0 hg) (rG_6 hg) ?_
    refine b_iload_n (pc := 17) (i := 1) (dd dtX2_solve 9 rfl) rfl rfl ?_
    refine b_iald (pc := 18) (dd dtX2_solve 10 rfl) (pG_2 hg) (by assumption) ?_
    refine b_iload_n (pc := 19) (i := 2) (dd dtX2_solve 11 rfl) rfl rfl ?_
    refine b_gets0 (pc := 20) (dd dtX2_solve 12 rfl) fsX2_127 ?_
    refine b_aload_n (pc := 23) (i := 0) (dd dtX2_solve 13 rfl) rfl rfl ?_
    refine b_geta (pc := 24) (dd dtX2_solve 14 rfl) fwX2_24 (pG_0 hg) (rG_5 hg) ?_
    refine b_iload_n (pc := 27) (i := 1) (dd dtX2_solve 15 rfl) rfl rfl ?_
    refine b_iald (pc := 28) (dd dtX2_solve 16 rfl) (pG_1 hg) (by assumption) ?_
    refine b_tald0 (pc := 29) (dd dtX2_solve 17 rfl) (by assumption) ?_
    refine b_imul (pc := 30) (dd dtX2_solve 18 rfl) ?_
    refine b_bipush (pc := 31) (v := 10) (dd dtX2_solve 19 rfl) (by decide) ?_
    refine b_idiv (pc := 33) (dd dtX2_solve 20 rfl) (by decide) ?_
    refine b_iadd (pc := 34) (dd dtX2_solve 21 rfl) ?_
    refine b_sipush (pc := 35) (v := 200) (dd dtX2_solve 22 rfl) (by decide) ?_
    refine b_mmin (pc := 38) (dd dtX2_solve 23 rfl) wlX2_105 (Nat.le_of_ble_eq_true rfl) ?_
    refine b_iast (pc := 41) (dd dtX2_solve 24 rfl) (pG_2 hg) (by assumption) ?_
    refine b_eq (b_vret (dd dtX2_solve 25 rfl) rfl) ?_ ?_
    · rfl
    · simp [solveW, mn, *]
def tX2_go : List (Nat × Instr × Nat) := [(0, .aload_n 0, 1), (1, .getfield 31, 3), (4, .iload_n 1, 1), (5, .dup2, 1), (6, .iaload, 1), (7, .iload_n 3, 1), (8, .isub, 1), (9, .iastore, 1), (10, .aload_n 0, 1), (11, .getfield 31, 3), (14, .iload_n 2, 1), (15, .dup2, 1), (16, .iaload, 1), (17, .iload_n 3, 1), (18, .iadd, 1), (19, .iastore, 1), (20, .aload_n 0, 1), (21, .iload_n 1, 1), (22, .iload_n 3, 1), (23, .invokestatic 119, 3), (26, .invokevirtual 111, 3), (29, .aload_n 0, 1), (30, .iload_n 2, 1), (31, .iload_n 3, 1), (32, .invokestatic 119, 3), (35, .invokevirtual 111, 3), (38, .return_, 1)]
theorem dtX2_go : dec_ok mX2_go.2.1 tX2_go = true := by decide +kernel
set_option maxHeartbeats 4000000 in
theorem c_X2_go {I : Wd} {g : Nat} (hg : isG g) {a b n : Int32} (ha : vp_in a 64) (hb : vp_in b 64) (hr : ∀ c, c < 64 → vp_in (I (g + 1) c) 4) : Cal SyC mX2_go 2 [.ref g, .int a, .int b, .int n] I none (goW g I a.toNatClampNeg b.toNatClampNeg n) := by
  refine Cal.of (by decide) (Nat.le_of_ble_eq_true rfl) ?_
  show Bd _ _ _ _ [(0, _), (1, _), (2, _), (3, _)] _ _ _ _
  refine b_aload_n (pc := 0) (i := 0) (dd dtX2_go 0 rfl) rfl rfl ?_
  refine b_geta (pc := 1) (dd dtX2_go 1 rfl) fwX2_31 (pG_0 hg) (rG_7 hg) ?_
  refine b_iload_n (pc := 4) (i := 1) (dd dtX2_go 2 rfl) rfl rfl ?_
  refine b_dup2 (pc := 5) (dd dtX2_go 3 rfl) ⟨rfl, rfl⟩ ?_
  refine b_iald (pc := 6) (dd dtX2_go 4 rfl) (pG_3 hg) (by assumption) ?_
  refine b_iload_n (pc := 7) (i := 3) (dd dtX2_go 5 rfl) rfl rfl ?_
  refine b_isub (pc := 8) (dd dtX2_go 6 rfl) ?_
  refine b_iast (pc := 9) (dd dtX2_go 7 rfl) (pG_3 hg) (by assumption) ?_
  refine b_aload_n (pc := 10) (i := 0) (dd dtX2_go 8 rfl) rfl rfl ?_
  refine b_geta (pc := 11) (dd dtX2_go 9 rfl) fwX2_31 (pG_0 hg) (rG_7 hg) ?_
  refine b_iload_n (pc := 14) (i := 2) (dd dtX2_go 10 rfl) rfl rfl ?_
  refine b_dup2 (pc := 15) (dd dtX2_go 11 rfl) ⟨rfl, rfl⟩ ?_
  refine b_iald (pc := 16) (dd dtX2_go 12 rfl) (pG_3 hg) (by assumption) ?_
  refine b_iload_n (pc := 17) (i := 3) (dd dtX2_go 13 rfl) rfl rfl ?_
  refine b_iadd (pc := 18) (dd dtX2_go 14 rfl) ?_
  refine b_iast (pc := 19) (dd dtX2_go 15 rfl) (pG_3 hg) (by assumption) ?_
  refine b_aload_n (pc := 20) (i := 0) (dd dtX2_go 16 rfl) rfl rfl ?_
  refine b_iload_n (pc := 21) (i := 1) (dd dtX2_go 17 rfl) rfl rfl ?_
  refine b_iload_n (pc := 22) (i := 3) (dd dtX2_go 18 rfl) rfl rfl ?_
  refine b_mabs (pc := 23) (dd dtX2_go 19 rfl) wlX2_119 (Nat.le_of_ble_eq_true rfl) ?_
  refine b_invV (pc := 26) (dd dtX2_go 20 rfl) mlX2_111 mvX2_solve miX2_solve (c_X2_solve hg ha (by rw [ist_ne (by omega), ist_ne (by omega)]; exact hr _ (vp_lt ha))) (oG hg) rfl rfl (by decide) (Nat.le_of_ble_eq_true rfl) ?_
  refine b_aload_n (pc := 29) (i := 0) (dd dtX2_go 21 rfl) rfl rfl ?_
  refine b_iload_n (pc := 30) (i := 2) (dd dtX2_go 22 rfl) rfl rfl ?_
  refine b_iload_n (pc := 31) (i := 3) (dd dtX2_go 23 rfl) rfl rfl ?_
  refine b_mabs (pc := 32) (dd dtX2_go 24 rfl) wlX2_119 (Nat.le_of_ble_eq_true rfl) ?_
  refine b_invV (pc := 35) (dd dtX2_go 25 rfl) mlX2_111 mvX2_solve miX2_solve (c_X2_solve hg hb (by rw [solveW_fr (by omega), ist_ne (by omega), ist_ne (by omega)]; exact hr _ (vp_lt hb))) (oG hg) rfl rfl (by decide) (Nat.le_of_ble_eq_true rfl) ?_
  refine b_eq (b_vret (dd dtX2_go 26 rfl) rfl) ?_ ?_
  · rfl
  · rfl
def tX2_rainDown : List (Nat × Instr × Nat) := [(0, .iconst 0, 1), (1, .istore_n 1, 1), (2, .iload_n 1, 1), (3, .bipush 64, 2), (5, .if_icmp .ge 32, 3), (8, .aload_n 0, 1), (9, .getfield 31, 3), (12, .iload_n 1, 1), (13, .aload_n 0, 1), (14, .getfield 31, 3), (17, .iload_n 1, 1), (18, .iaload, 1), (19, .aload_n 0, 1), (20, .getfield 15, 3), (23, .iadd, 1), (24, .sipush 9999, 3), (27, .invokestatic 105, 3), (30, .iastore, 1), (31, .iinc 1 1, 3), (34, .goto (-32), 3), (37, .return_, 1)]
theorem dtX2_rainDown : dec_ok mX2_rainDown.2.1 tX2_rainDown = true := by decide +kernel
set_option maxHeartbeats 4000000 in
theorem l_X2_rainDown {I : Wd} {g : Nat} (hg : isG g) : ∀ (n h : Nat) (x1 : Int32) (I2 : Wd), h ≤ 64 → 64 < h + n → x1 = nI h → I2 = (rset I (g + 3) (fil (fun c => mn (I (g + 3) c + I g 2) 9999) (I (g + 3)) h)) → Bd SyC mX2_rainDown 1 2 [(1, .int x1), (0, .ref g)] [] I2 none (rset I (g + 3) (fil (fun c => mn (I (g + 3) c + I g 2) 9999) (I (g + 3)) 64)) := by
  intro n
  induction n with
  | zero => intro h x1 I2 h1 h2; omega
  | succ n ih =>
    intro h x1 I2 h1 h2 e1 eW
    subst e1; subst eW
    refine b_iload_n (pc := 2) (i := 1) (dd dtX2_rainDown 2 rfl) rfl rfl ?_
    refine b_bipush (pc := 3) (v := 64) (dd dtX2_rainDown 3 rfl) (by decide) ?_
    refine b_icmpL_ge (pc := 5) (tgt := 37) (dd dtX2_rainDown 4 rfl) (by decide) (fun h5 => ?_) (fun h5 => ?_)
    · rw [show (64 : Int32) = nI 64 from rfl] at h5
      have he : h = 64 := Nat.le_antisymm h1 (ge_n h5 (by omega))
      subst he
      exact b_eq (b_vret (dd dtX2_rainDown 20 rfl) rfl) rfl rfl
    · rw [show (64 : Int32) = nI 64 from rfl] at h5
      have hlt : h < 64 := lt_n h5 (by omega) (by omega)
      refine b_aload_n (pc := 8) (i := 0) (dd dtX2_rainDown 5 rfl) rfl rfl ?_
      refine b_geta (pc := 9) (dd dtX2_rainDown 6 rfl) fwX2_31 (pG_0 hg) (rG_7 hg) ?_
      refine b_iload_n (pc := 12) (i := 1) (dd dtX2_rainDown 7 rfl) rfl rfl ?_
      refine b_aload_n (pc := 13) (i := 0) (dd dtX2_rainDown 8 rfl) rfl rfl ?_
      refine b_geta (pc := 14) (dd dtX2_rainDown 9 rfl) fwX2_31 (pG_0 hg) (rG_7 hg) ?_
      refine b_iload_n (pc := 17) (i := 1) (dd dtX2_rainDown 10 rfl) rfl rfl ?_
      refine b_iald (pc := 18) (dd dtX2_rainDown 11 rfl) (pG_3 hg) (vpn rfl (show h < 64 by omega) (by decide)) ?_
      refine b_aload_n (pc := 19) (i := 0) (dd dtX2_rainDown 12 rfl) rfl rfl ?_
      refine b_geti (pc := 20) (dd dtX2_rainDown 13 rfl) fwX2_15 (pG_0 hg) ?_
      refine b_iadd (pc := 23) (dd dtX2_rainDown 14 rfl) ?_
      refine b_sipush (pc := 24) (v := 9999) (dd dtX2_rainDown 15 rfl) (by decide) ?_
      refine b_mmin (pc := 27) (dd dtX2_rainDown 16 rfl) wlX2_105 (Nat.le_of_ble_eq_true rfl) ?_
      refine b_iast (pc := 30) (dd dtX2_rainDown 17 rfl) (pG_3 hg) (vpn rfl (show h < 64 by omega) (by decide)) ?_
      refine b_iinc1 (pc := 31) (i := 1) (lv' := [(1, _), (0, _)]) (dd dtX2_rainDown 18 rfl) rfl (Nat.le_of_ble_eq_true rfl) rfl ?_
      refine b_goto (pc := 34) (tgt := 2) (dd dtX2_rainDown 19 rfl) (by decide) ?_
      rw [nI_1]
      refine ih (h + 1) _ _ hlt (by omega) rfl ?_
      · rw [nI_clamp (show h < 2 ^ 31 by omega), ist_rset]
        congr 1
        refine fil_s ?_
        simp only [rset_eq, rset_ne (show g ≠ g + 3 by omega), fil_out (Nat.le_refl h)]
        rfl
set_option maxHeartbeats 4000000 in
theorem c_X2_rainDown {I : Wd} {g : Nat} (hg : isG g) : Cal SyC mX2_rainDown 1 [.ref g] I none (rainW g I) := by
  refine Cal.of (by decide) (Nat.le_of_ble_eq_true rfl) ?_
  show Bd _ _ _ _ [(0, _)] _ _ _ _
  refine b_ic0 (pc := 0) (dd dtX2_rainDown 0 rfl) ?_
  refine b_istore_n (pc := 1) (i := 1) (lv' := [(1, _), (0, _)]) (dd dtX2_rainDown 1 rfl) rfl (Nat.le_of_ble_eq_true rfl) rfl ?_
  exact l_X2_rainDown hg 65 0 _ _ (Nat.zero_le _) (by omega) rfl (by rw [fil_0, rset_id])
def tX2_pumpOut : List (Nat × Instr × Nat) := [(0, .iconst 0, 1), (1, .istore_n 1, 1), (2, .iload_n 1, 1), (3, .aload_n 0, 1), (4, .getfield 59, 3), (7, .getfield 80, 3), (10, .if_icmp .ge 51, 3), (13, .aload_n 0, 1), (14, .getfield 59, 3), (17, .getfield 83, 3), (20, .iload_n 1, 1), (21, .iaload, 1), (22, .istore_n 2, 1), (23, .aload_n 0, 1), (24, .getfield 43, 3), (27, .iload_n 1, 1), (28, .iaload, 1), (29, .aload_n 0, 1), (30, .getfield 31, 3), (33, .iload_n 2, 1), (34, .iaload, 1), (35, .invokestatic 105, 3), (38, .istore_n 3, 1), (39, .aload_n 0, 1), (40, .getfield 31, 3), (43, .iload_n 2, 1), (44, .dup2, 1), (45, .iaload, 1), (46, .iload_n 3, 1), (47, .isub, 1), (48, .iastore, 1), (49, .aload_n 0, 1), (50, .iload_n 2, 1), (51, .iload_n 3, 1), (52, .invokevirtual 111, 3), (55, .iinc 1 1, 3), (58, .goto (-56), 3), (61, .return_, 1)]
theorem dtX2_pumpOut : dec_ok mX2_pumpOut.2.1 tX2_pumpOut = true := by decide +kernel
set_option maxHeartbeats 4000000 in
theorem l_X2_pumpOut {I : Wd} {g N P : Nat} (hg : isG g) (hF : FG g I N P) : ∀ (n h : Nat) (x1 : Int32) (I2 : Wd), h ≤ P → P < h + n → x1 = nI h → I2 = (pumpW g I h) → Bd SyC mX2_pumpOut 2 2 [(1, .int x1), (0, .ref g)] [] I2 none (pumpW g I P) := by
  intro n
  induction n with
  | zero => intro h x1 I2 h1 h2; omega
  | succ n ih =>
    intro h x1 I2 h1 h2 e1 eW
    subst e1; subst eW
    have h6 := hg.ge
    obtain ⟨⟨hN, hN2⟩, ⟨hP, hP2⟩, hr, hq⟩ := id hF
    have f1 : pumpW g I h 1 = I 1 := pumpW_fr (by omega) (by omega)
    have f5 : pumpW g I h 5 = I 5 := pumpW_fr (by omega) (by omega)
    have fr : pumpW g I h (g + 1) = I (g + 1) := pumpW_fr (by omega) (by omega)
    refine b_iload_n (pc := 2) (i := 1) (dd dtX2_pumpOut 2 rfl) rfl rfl ?_
    refine b_aload_n (pc := 3) (i := 0) (dd dtX2_pumpOut 3 rfl) rfl rfl ?_
    refine b_geta (pc := 4) (dd dtX2_pumpOut 4 rfl) fwX2_59 (pG_0 hg) (rG_0 hg) ?_
    refine b_geti (pc := 7) (dd dtX2_pumpOut 5 rfl) fwX2_80 pC_1 ?_
    refine b_icmpL_ge (pc := 10) (tgt := 61) (dd dtX2_pumpOut 6 rfl) (by decide) (fun h10 => ?_) (fun h10 => ?_)
    · rw [f1, hP] at h10
      have he : h = P := Nat.le_antisymm h1 (ge_n h10 (by omega))
      subst he
      exact b_eq (b_vret (dd dtX2_pumpOut 37 rfl) rfl) rfl rfl
    · rw [f1, hP] at h10
      have hlt : h < P := lt_n h10 (by omega) (by omega)
      have hq1 : vp_in (pumpW g I h 5 (nI h).toNatClampNeg) 64 := by rw [f5, nI_clamp (show h < 2 ^ 31 by omega)]; exact hq h hlt
      refine b_aload_n (pc := 13) (i := 0) (dd dtX2_pumpOut 7 rfl) rfl rfl ?_
      refine b_geta (pc := 14) (dd dtX2_pumpOut 8 rfl) fwX2_59 (pG_0 hg) (rG_0 hg) ?_
      refine b_geta (pc := 17) (dd dtX2_pumpOut 9 rfl) fwX2_83 pC_1 rC_1_5 ?_
      refine b_iload_n (pc := 20) (i := 1) (dd dtX2_pumpOut 10 rfl) rfl rfl ?_
      refine b_iald (pc := 21) (dd dtX2_pumpOut 11 rfl) pC_5 (vpn rfl (show h < 6 by omega) (by decide)) ?_
      refine b_istore_n (pc := 22) (i := 2) (lv' := [(2, _), (1, _), (0, _)]) (dd dtX2_pumpOut 12 rfl) rfl (Nat.le_of_ble_eq_true rfl) rfl ?_
      refine b_aload_n (pc := 23) (i := 0) (dd dtX2_pumpOut 13 rfl) rfl rfl ?_
      refine b_geta (pc := 24) (dd dtX2_pumpOut 14 rfl) fwX2_43 (pG_0 hg) (rG_11 hg) ?_
      refine b_iload_n (pc := 27) (i := 1) (dd dtX2_pumpOut 15 rfl) rfl rfl ?_
      refine b_iald (pc := 28) (dd dtX2_pumpOut 16 rfl) (pG_7 hg) (vpn rfl (show h < 6 by omega) (by decide)) ?_
      refine b_aload_n (pc := 29) (i := 0) (dd dtX2_pumpOut 17 rfl) rfl rfl ?_
      refine b_geta (pc := 30) (dd dtX2_pumpOut 18 rfl) fwX2_31 (pG_0 hg) (rG_7 hg) ?_
      refine b_iload_n (pc := 33) (i := 2) (dd dtX2_pumpOut 19 rfl) rfl rfl ?_
      refine b_iald (pc := 34) (dd dtX2_pumpOut 20 rfl) (pG_3 hg) (hq1) ?_
      refine b_mmin (pc := 35) (dd dtX2_pumpOut 21 rfl) wlX2_105 (Nat.le_of_ble_eq_true rfl) ?_
      refine b_istore_n (pc := 38) (i := 3) (lv' := [(3, _), (2, _), (1, _), (0, _)]) (dd dtX2_pumpOut 22 rfl) rfl (Nat.le_of_ble_eq_true rfl) rfl ?_
      refine b_aload_n (pc := 39) (i := 0) (dd dtX2_pumpOut 23 rfl) rfl rfl ?_
      refine b_geta (pc := 40) (dd dtX2_pumpOut 24 rfl) fwX2_31 (pG_0 hg) (rG_7 hg) ?_
      refine b_iload_n (pc := 43) (i := 2) (dd dtX2_pumpOut 25 rfl) rfl rfl ?_
      refine b_dup2 (pc := 44) (dd dtX2_pumpOut 26 rfl) ⟨rfl, rfl⟩ ?_
      refine b_iald (pc := 45) (dd dtX2_pumpOut 27 rfl) (pG_3 hg) (hq1) ?_
      refine b_iload_n (pc := 46) (i := 3) (dd dtX2_pumpOut 28 rfl) rfl rfl ?_
      refine b_isub (pc := 47) (dd dtX2_pumpOut 29 rfl) ?_
      refine b_iast (pc := 48) (dd dtX2_pumpOut 30 rfl) (pG_3 hg) (hq1) ?_
      refine b_aload_n (pc := 49) (i := 0) (dd dtX2_pumpOut 31 rfl) rfl rfl ?_
      refine b_iload_n (pc := 50) (i := 2) (dd dtX2_pumpOut 32 rfl) rfl rfl ?_
      refine b_iload_n (pc := 51) (i := 3) (dd dtX2_pumpOut 33 rfl) rfl rfl ?_
      refine b_invV (pc := 52) (dd dtX2_pumpOut 34 rfl) mlX2_111 mvX2_solve miX2_solve (c_X2_solve hg hq1 (by rw [ist_ne (by omega), fr]; exact hr _ (vp_lt hq1))) (oG hg) rfl rfl (by decide) (Nat.le_of_ble_eq_true rfl) ?_
      refine b_iinc1 (pc := 55) (i := 1) (lv' := [(1, _), (3, _), (2, _), (0, _)]) (dd dtX2_pumpOut 35 rfl) rfl (Nat.le_of_ble_eq_true rfl) rfl ?_
      refine b_goto (pc := 58) (tgt := 2) (dd dtX2_pumpOut 36 rfl) (by decide) ?_
      refine b_pick [0, 3] (lv' := [(1, _), (0, _)]) rfl ?_
      rw [nI_1]
      refine ih (h + 1) _ _ hlt (by omega) rfl ?_
      · simp only [nI_clamp (show h < 2 ^ 31 by omega)]
        rfl
set_option maxHeartbeats 4000000 in
theorem c_X2_pumpOut {I : Wd} {g N P : Nat} (hg : isG g) (hF : FG g I N P) : Cal SyC mX2_pumpOut 2 [.ref g] I none (pumpW g I P) := by
  refine Cal.of (by decide) (Nat.le_of_ble_eq_true rfl) ?_
  show Bd _ _ _ _ [(0, _)] _ _ _ _
  refine b_ic0 (pc := 0) (dd dtX2_pumpOut 0 rfl) ?_
  refine b_istore_n (pc := 1) (i := 1) (lv' := [(1, _), (0, _)]) (dd dtX2_pumpOut 1 rfl) rfl (Nat.le_of_ble_eq_true rfl) rfl ?_
  exact l_X2_pumpOut hg hF (P + 1) 0 _ _ (Nat.zero_le _) (by omega) rfl rfl
end
section
theorem nI_a (a b : Nat) : nI a + nI b = nI (a + b) := nI_add a b
theorem rem8 {h : Nat} (hh : h < 2 ^ 31) : nI h - nI h / 8 * 8 = nI (h % 8) := pk_rem (d := 8) hh (by decide) (by decide)
theorem add8 {h : Nat} : nI h + 8 = nI (h + 8) := nI_add h 8
theorem add1 {h : Nat} : nI h + 1 = nI (h + 1) := nI_add h 1
theorem lt64 {h : Nat} (hh : h < 2 ^ 31) : nI h < 64 ↔ h < 64 := nI_ltI hh (by decide)
theorem lt7 {h : Nat} (hh : h < 2 ^ 31) : nI h < 7 ↔ h < 7 := nI_ltI hh (by decide)
theorem dnF_t {w : Nat → Int32} {h : Nat} (q : h + 8 < 64) : dnF w h = (w h - w (h + 8)) / 8 := by unfold dnF; rw [if_pos q]
theorem dnF_f {w : Nat → Int32} {h : Nat} (q : ¬ h + 8 < 64) : dnF w h = 0 := by unfold dnF; rw [if_neg q]
theorem acF_t {w : Nat → Int32} {h : Nat} (q : h % 8 < 7) : acF w h = (w h - w (h + 1)) / 8 := by unfold acF; rw [if_pos q]
theorem acF_f {w : Nat → Int32} {h : Nat} (q : ¬ h % 8 < 7) : acF w h = 0 := by unfold acF; rw [if_neg q]
theorem meas_step {g : Nat} {I : Wd} {h : Nat} {v1 v2 : Int32} (h1 : v1 = dnF (I (g + 3)) h) (h2 : v2 = acF (I (g + 3)) h) : ist (ist (measW g I h) (g + 10) h v1) (g + 11) h v2 = measW g I (h + 1) := by
  have e1 : ist (measW g I h) (g + 10) h v1 = rset (rset I (g + 10) (fil (dnF (I (g + 3))) (I (g + 10)) (h + 1))) (g + 11) (fil (acF (I (g + 3))) (I (g + 11)) h) := by
    unfold measW
    rw [rset_comm (show g + 10 ≠ g + 11 by omega), ist_rset, rset_comm (show g + 11 ≠ g + 10 by omega), fil_s h1]
  rw [e1, ist_rset, fil_s h2]
  rfl
def tX2_flow : List (Nat × Instr × Nat) := [(0, .iconst 0, 1), (1, .istore_n 1, 1), (2, .iload_n 1, 1), (3, .bipush 64, 2), (5, .if_icmp .ge 84, 3), (8, .aload_n 0, 1), (9, .getfield 53, 3), (12, .iload_n 1, 1), (13, .iload_n 1, 1), (14, .bipush 8, 2), (16, .iadd, 1), (17, .bipush 64, 2), (19, .if_icmp .ge 25, 3), (22, .aload_n 0, 1), (23, .getfield 31, 3), (26, .iload_n 1, 1), (27, .iaload, 1), (28, .aload_n 0, 1), (29, .getfield 31, 3), (32, .iload_n 1, 1), (33, .bipush 8, 2), (35, .iadd, 1), (36, .iaload, 1), (37, .isub, 1), (38, .bipush 8, 2), (40, .idiv, 1), (41, .goto 4, 3), (44, .iconst 0, 1), (45, .iastore, 1), (46, .aload_n 0, 1), (47, .getfield 56, 3), (50, .iload_n 1, 1), (51, .iload_n 1, 1), (52, .bipush 8, 2), (54, .irem, 1), (55, .bipush 7, 2), (57, .if_icmp .ge 24, 3), (60, .aload_n 0, 1), (61, .getfield 31, 3), (64, .iload_n 1, 1), (65, .iaload, 1), (66, .aload_n 0, 1), (67, .getfield 31, 3), (70, .iload_n 1, 1), (71, .iconst 1, 1), (72, .iadd, 1), (73, .iaload, 1), (74, .isub, 1), (75, .bipush 8, 2), (77, .idiv, 1), (78, .goto 4, 3), (81, .iconst 0, 1), (82, .iastore, 1), (83, .iinc 1 1, 3), (86, .goto (-84), 3), (89, .iconst 0, 1), (90, .istore_n 1, 1), (91, .iload_n 1, 1), (92, .bipush 64, 2), (94, .if_icmp .ge 56, 3), (97, .iload_n 1, 1), (98, .bipush 8, 2), (100, .iadd, 1), (101, .bipush 64, 2), (103, .if_icmp .ge 18, 3), (106, .aload_n 0, 1), (107, .iload_n 1, 1), (108, .iload_n 1, 1), (109, .bipush 8, 2), (111, .iadd, 1), (112, .aload_n 0, 1), (113, .getfield 53, 3), (116, .iload_n 1, 1), (117, .iaload, 1), (118, .invokevirtual 115, 3), (121, .iload_n 1, 1), (122, .bipush 8, 2), (124, .irem, 1), (125, .bipush 7, 2), (127, .if_icmp .ge 17, 3), (130, .aload_n 0, 1), (131, .iload_n 1, 1), (132, .iload_n 1, 1), (133, .iconst 1, 1), (134, .iadd, 1), (135, .aload_n 0, 1), (136, .getfield 56, 3), (139, .iload_n 1, 1), (140, .iaload, 1), (141, .invokevirtual 115, 3), (144, .iinc 1 1, 3), (147, .goto (-56), 3), (150, .return_, 1)]
theorem dtX2_flow : dec_ok mX2_flow.2.1 tX2_flow = true := by decide +kernel
set_option maxHeartbeats 4000000 in
theorem l2_X2_flow {I : Wd} {g N P : Nat} (hg : isG g) (hF : FG g I N P) : ∀ (n h : Nat) (x1 : Int32) (I2 : Wd), h ≤ 64 → 64 < h + n → x1 = nI h → I2 = (flowW g I h) → Bd SyC mX2_flow 3 91 [(1, .int x1), (0, .ref g)] [] I2 none (flowW g I 64) := by
  intro n
  induction n with
  | zero => intro h x1 I2 h1 h2; omega
  | succ n ih =>
    intro h x1 I2 h1 h2 e1 eW
    subst e1; subst eW
    have h6 := hg.ge
    obtain ⟨⟨hN, hN2⟩, ⟨hP, hP2⟩, hr, hq⟩ := id hF
    have fr : flowW g I h (g + 1) = I (g + 1) := flowW_fr (by omega) (by omega)
    refine b_iload_n (pc := 91) (i := 1) (dd dtX2_flow 57 rfl) rfl rfl ?_
    refine b_bipush (pc := 92) (v := 64) (dd dtX2_flow 58 rfl) (by decide) ?_
    refine b_icmpL_ge (pc := 94) (tgt := 150) (dd dtX2_flow 59 rfl) (by decide) (fun h94 => ?_) (fun h94 => ?_)
    · rw [show (64 : Int32) = nI 64 from rfl] at h94
      have he : h = 64 := Nat.le_antisymm h1 (ge_n h94 (by omega))
      subst he
      exact b_eq (b_vret (dd dtX2_flow 92 rfl) rfl) rfl rfl
    · rw [show (64 : Int32) = nI 64 from rfl] at h94
      have hlt : h < 64 := lt_n h94 (by omega) (by omega)
      refine b_iload_n (pc := 97) (i := 1) (dd dtX2_flow 60 rfl) rfl rfl ?_
      refine b_bipush (pc := 98) (v := 8) (dd dtX2_flow 61 rfl) (by decide) ?_
      refine b_iadd (pc := 100) (dd dtX2_flow 62 rfl) ?_
      refine b_bipush (pc := 101) (v := 64) (dd dtX2_flow 63 rfl) (by decide) ?_
      refine b_icmpL_ge (pc := 103) (tgt := 121) (dd dtX2_flow 64 rfl) (by decide) (fun h103 => ?_) (fun h103 => ?_)
      · try rw [add8, lt64 (by omega)] at h103
        refine b_iload_n (pc := 121) (i := 1) (dd dtX2_flow 75 rfl) rfl rfl ?_
        refine b_bipush (pc := 122) (v := 8) (dd dtX2_flow 76 rfl) (by decide) ?_
        refine b_irem (pc := 124) (dd dtX2_flow 77 rfl) (by decide) ?_
        refine b_bipush (pc := 125) (v := 7) (dd dtX2_flow 78 rfl) (by decide) ?_
        refine b_icmpL_ge (pc := 127) (tgt := 144) (dd dtX2_flow 79 rfl) (by decide) (fun h127 => ?_) (fun h127 => ?_)
        · try rw [rem8 (by omega), lt7 (by omega)] at h127
          refine b_iinc1 (pc := 144) (i := 1) (lv' := [(1, _), (0, _)]) (dd dtX2_flow 90 rfl) rfl (Nat.le_of_ble_eq_true rfl) rfl ?_
          refine b_goto (pc := 147) (tgt := 91) (dd dtX2_flow 91 rfl) (by decide) ?_
          rw [nI_1]
          refine ih (h + 1) _ _ hlt (by omega) rfl ?_
          · try simp only [add8, add1, nI_clamp (show h < 2 ^ 31 by omega), nI_clamp (show h + 8 < 2 ^ 31 by omega), nI_clamp (show h + 1 < 2 ^ 31 by omega)]
            simp [flowW, flow1, flow2, *]
        · rw [rem8 (by omega), lt7 (by omega)] at h127
          refine b_aload_n (pc := 130) (i := 0) (dd dtX2_flow 80 rfl) rfl rfl ?_
          refine b_iload_n (pc := 131) (i := 1) (dd dtX2_flow 81 rfl) rfl rfl ?_
          refine b_iload_n (pc := 132) (i := 1) (dd dtX2_flow 82 rfl) rfl rfl ?_
          refine b_ic1 (pc := 133) (dd dtX2_flow 83 rfl) ?_
          refine b_iadd (pc := 134) (dd dtX2_flow 84 rfl) ?_
          refine b_aload_n (pc := 135) (i := 0) (dd dtX2_flow 85 rfl) rfl rfl ?_
          refine b_geta (pc := 136) (dd dtX2_flow 86 rfl) fwX2_56 (pG_0 hg) (rG_15 hg) ?_
          refine b_iload_n (pc := 139) (i := 1) (dd dtX2_flow 87 rfl) rfl rfl ?_
          refine b_iald (pc := 140) (dd dtX2_flow 88 rfl) (pG_11 hg) (vpn rfl (show h < 64 by omega) (by decide)) ?_
          refine b_invV (pc := 141) (dd dtX2_flow 89 rfl) mlX2_115 mvX2_go miX2_go (c_X2_go hg (vpn rfl (show h < 64 by omega) (by decide)) (by rw [add1]; exact vpn rfl (show h + 1 < 64 by omega) (by decide)) (by first | (rw [fr]; exact hr) | (rw [goW_fr (by omega) (by omega), fr]; exact hr))) (oG hg) rfl rfl (by decide) (Nat.le_of_ble_eq_true rfl) ?_
          try rw [rem8 (by omega), lt7 (by omega)] at h127
          refine b_iinc1 (pc := 144) (i := 1) (lv' := [(1, _), (0, _)]) (dd dtX2_flow 90 rfl) rfl (Nat.le_of_ble_eq_true rfl) rfl ?_
          refine b_goto (pc := 147) (tgt := 91) (dd dtX2_flow 91 rfl) (by decide) ?_
          rw [nI_1]
          refine ih (h + 1) _ _ hlt (by omega) rfl ?_
          · try simp only [add8, add1, nI_clamp (show h < 2 ^ 31 by omega), nI_clamp (show h + 8 < 2 ^ 31 by omega), nI_clamp (show h + 1 < 2 ^ 31 by omega)]
            simp [flowW, flow1, flow2, *]
      · rw [add8, lt64 (by omega)] at h103
        refine b_aload_n (pc := 106) (i := 0) (dd dtX2_flow 65 rfl) rfl rfl ?_
        refine b_iload_n (pc := 107) (i := 1) (dd dtX2_flow 66 rfl) rfl rfl ?_
        refine b_iload_n (pc := 108) (i := 1) (dd dtX2_flow 67 rfl) rfl rfl ?_
        refine b_bipush (pc := 109) (v := 8) (dd dtX2_flow 68 rfl) (by decide) ?_
        refine b_iadd (pc := 111) (dd dtX2_flow 69 rfl) ?_
        refine b_aload_n (pc := 112) (i := 0) (dd dtX2_flow 70 rfl) rfl rfl ?_
        refine b_geta (pc := 113) (dd dtX2_flow 71 rfl) fwX2_53 (pG_0 hg) (rG_14 hg) ?_
        refine b_iload_n (pc := 116) (i := 1) (dd dtX2_flow 72 rfl) rfl rfl ?_
        refine b_iald (pc := 117) (dd dtX2_flow 73 rfl) (pG_10 hg) (vpn rfl (show h < 64 by omega) (by decide)) ?_
        refine b_invV (pc := 118) (dd dtX2_flow 74 rfl) mlX2_115 mvX2_go miX2_go (c_X2_go hg (vpn rfl (show h < 64 by omega) (by decide)) (by rw [add8]; exact vpn rfl h103 (by decide)) (by rw [fr]; exact hr)) (oG hg) rfl rfl (by decide) (Nat.le_of_ble_eq_true rfl) ?_
        try rw [add8, lt64 (by omega)] at h103
        refine b_iload_n (pc := 121) (i := 1) (dd dtX2_flow 75 rfl) rfl rfl ?_
        refine b_bipush (pc := 122) (v := 8) (dd dtX2_flow 76 rfl) (by decide) ?_
        refine b_irem (pc := 124) (dd dtX2_flow 77 rfl) (by decide) ?_
        refine b_bipush (pc := 125) (v := 7) (dd dtX2_flow 78 rfl) (by decide) ?_
        refine b_icmpL_ge (pc := 127) (tgt := 144) (dd dtX2_flow 79 rfl) (by decide) (fun h127 => ?_) (fun h127 => ?_)
        · try rw [rem8 (by omega), lt7 (by omega)] at h127
          refine b_iinc1 (pc := 144) (i := 1) (lv' := [(1, _), (0, _)]) (dd dtX2_flow 90 rfl) rfl (Nat.le_of_ble_eq_true rfl) rfl ?_
          refine b_goto (pc := 147) (tgt := 91) (dd dtX2_flow 91 rfl) (by decide) ?_
          rw [nI_1]
          refine ih (h + 1) _ _ hlt (by omega) rfl ?_
          · try simp only [add8, add1, nI_clamp (show h < 2 ^ 31 by omega), nI_clamp (show h + 8 < 2 ^ 31 by omega), nI_clamp (show h + 1 < 2 ^ 31 by omega)]
            simp [flowW, flow1, flow2, *]
        · rw [rem8 (by omega), lt7 (by omega)] at h127
          refine b_aload_n (pc := 130) (i := 0) (dd dtX2_flow 80 rfl) rfl rfl ?_
          refine b_iload_n (pc := 131) (i := 1) (dd dtX2_flow 81 rfl) rfl rfl ?_
          refine b_iload_n (pc := 132) (i := 1) (dd dtX2_flow 82 rfl) rfl rfl ?_
          refine b_ic1 (pc := 133) (dd dtX2_flow 83 rfl) ?_
          refine b_iadd (pc := 134) (dd dtX2_flow 84 rfl) ?_
          refine b_aload_n (pc := 135) (i := 0) (dd dtX2_flow 85 rfl) rfl rfl ?_
          refine b_geta (pc := 136) (dd dtX2_flow 86 rfl) fwX2_56 (pG_0 hg) (rG_15 hg) ?_
          refine b_iload_n (pc := 139) (i := 1) (dd dtX2_flow 87 rfl) rfl rfl ?_
          refine b_iald (pc := 140) (dd dtX2_flow 88 rfl) (pG_11 hg) (vpn rfl (show h < 64 by omega) (by decide)) ?_
          refine b_invV (pc := 141) (dd dtX2_flow 89 rfl) mlX2_115 mvX2_go miX2_go (c_X2_go hg (vpn rfl (show h < 64 by omega) (by decide)) (by rw [add1]; exact vpn rfl (show h + 1 < 64 by omega) (by decide)) (by first | (rw [fr]; exact hr) | (rw [goW_fr (by omega) (by omega), fr]; exact hr))) (oG hg) rfl rfl (by decide) (Nat.le_of_ble_eq_true rfl) ?_
          try rw [rem8 (by omega), lt7 (by omega)] at h127
          refine b_iinc1 (pc := 144) (i := 1) (lv' := [(1, _), (0, _)]) (dd dtX2_flow 90 rfl) rfl (Nat.le_of_ble_eq_true rfl) rfl ?_
          refine b_goto (pc := 147) (tgt := 91) (dd dtX2_flow 91 rfl) (by decide) ?_
          rw [nI_1]
          refine ih (h + 1) _ _ hlt (by omega) rfl ?_
          · try simp only [add8, add1, nI_clamp (show h < 2 ^ 31 by omega), nI_clamp (show h + 8 < 2 ^ 31 by omega), nI_clamp (show h + 1 < 2 ^ 31 by omega)]
            simp [flowW, flow1, flow2, *]
set_option maxHeartbeats 4000000 in
theorem l1_X2_flow {I : Wd} {g N P : Nat} (hg : isG g) (hF : FG g I N P) : ∀ (n h : Nat) (x1 : Int32) (I2 : Wd), h ≤ 64 → 64 < h + n → x1 = nI h → I2 = (measW g I h) → Bd SyC mX2_flow 3 2 [(1, .int x1), (0, .ref g)] [] I2 none (flowW g (measW g I 64) 64) := by
  intro n
  induction n with
  | zero => intro h x1 I2 h1 h2; omega
  | succ n ih =>
    intro h x1 I2 h1 h2 e1 eW
    subst e1; subst eW
    have h6 := hg.ge
    obtain ⟨⟨hN, hN2⟩, ⟨hP, hP2⟩, hr, hq⟩ := id hF
    have f3 : measW g I h (g + 3) = I (g + 3) := measW_fr (by omega) (by omega)
    refine b_iload_n (pc := 2) (i := 1) (dd dtX2_flow 2 rfl) rfl rfl ?_
    refine b_bipush (pc := 3) (v := 64) (dd dtX2_flow 3 rfl) (by decide) ?_
    refine b_icmpL_ge (pc := 5) (tgt := 89) (dd dtX2_flow 4 rfl) (by decide) (fun h5 => ?_) (fun h5 => ?_)
    · rw [show (64 : Int32) = nI 64 from rfl] at h5
      have he : h = 64 := Nat.le_antisymm h1 (ge_n h5 (by omega))
      subst he
      refine b_ic0 (pc := 89) (dd dtX2_flow 55 rfl) ?_
      refine b_istore_n (pc := 90) (i := 1) (lv' := [(1, _), (0, _)]) (dd dtX2_flow 56 rfl) rfl (Nat.le_of_ble_eq_true rfl) rfl ?_
      refine l2_X2_flow (I := measW g I 64) hg (hF.of (measW_fr (by omega) (by omega)) (measW_fr (by omega) (by omega)) (measW_fr (by omega) (by omega))) 65 0 _ _ (Nat.zero_le _) (by omega) rfl rfl
    · rw [show (64 : Int32) = nI 64 from rfl] at h5
      have hlt : h < 64 := lt_n h5 (by omega) (by omega)
      refine b_aload_n (pc := 8) (i := 0) (dd dtX2_flow 5 rfl) rfl rfl ?_
      refine b_geta (pc := 9) (dd dtX2_flow 6 rfl) fwX2_53 (pG_0 hg) (rG_14 hg) ?_
      refine b_iload_n (pc := 12) (i := 1) (dd dtX2_flow 7 rfl) rfl rfl ?_
      refine b_iload_n (pc := 13) (i := 1) (dd dtX2_flow 8 rfl) rfl rfl ?_
      refine b_bipush (pc := 14) (v := 8) (dd dtX2_flow 9 rfl) (by decide) ?_
      refine b_iadd (pc := 16) (dd dtX2_flow 10 rfl) ?_
      refine b_bipush (pc := 17) (v := 64) (dd dtX2_flow 11 rfl) (by decide) ?_
      refine b_icmpL_ge (pc := 19) (tgt := 44) (dd dtX2_flow 12 rfl) (by decide) (fun h19 => ?_) (fun h19 => ?_)
      · rw [add8, lt64 (by omega)] at h19
        refine b_ic0 (pc := 44) (dd dtX2_flow 27 rfl) ?_
        refine b_iast (pc := 45) (dd dtX2_flow 28 rfl) (pG_10 hg) (vpn rfl (show h < 64 by omega) (by decide)) ?_
        refine b_aload_n (pc := 46) (i := 0) (dd dtX2_flow 29 rfl) rfl rfl ?_
        refine b_geta (pc := 47) (dd dtX2_flow 30 rfl) fwX2_56 (pG_0 hg) (rG_15 hg) ?_
        refine b_iload_n (pc := 50) (i := 1) (dd dtX2_flow 31 rfl) rfl rfl ?_
        refine b_iload_n (pc := 51) (i := 1) (dd dtX2_flow 32 rfl) rfl rfl ?_
        refine b_bipush (pc := 52) (v := 8) (dd dtX2_flow 33 rfl) (by decide) ?_
        refine b_irem (pc := 54) (dd dtX2_flow 34 rfl) (by decide) ?_
        refine b_bipush (pc := 55) (v := 7) (dd dtX2_flow 35 rfl) (by decide) ?_
        refine b_icmpL_ge (pc := 57) (tgt := 81) (dd dtX2_flow 36 rfl) (by decide) (fun h57 => ?_) (fun h57 => ?_)
        · rw [rem8 (by omega), lt7 (by omega)] at h57
          refine b_ic0 (pc := 81) (dd dtX2_flow 51 rfl) ?_
          refine b_iast (pc := 82) (dd dtX2_flow 52 rfl) (pG_11 hg) (vpn rfl (show h < 64 by omega) (by decide)) ?_
          refine b_iinc1 (pc := 83) (i := 1) (lv' := [(1, _), (0, _)]) (dd dtX2_flow 53 rfl) rfl (Nat.le_of_ble_eq_true rfl) rfl ?_
          refine b_goto (pc := 86) (tgt := 2) (dd dtX2_flow 54 rfl) (by decide) ?_
          rw [nI_1]
          refine ih (h + 1) _ _ hlt (by omega) rfl ?_
          · simp only [nI_clamp (show h < 2 ^ 31 by omega)]
            refine meas_step ?_ ?_
            · first | (rw [dnF_t h19, add8, nI_clamp (show h + 8 < 2 ^ 31 by omega), f3]) | (rw [dnF_f h19])
            · simp only [acF, h57, if_true, if_false, add1, nI_clamp (show h + 1 < 2 ^ 31 by omega), ist_ne (show g + 3 ≠ g + 10 by omega), f3]
        · rw [rem8 (by omega), lt7 (by omega)] at h57
          refine b_aload_n (pc := 60) (i := 0) (dd dtX2_flow 37 rfl) rfl rfl ?_
          refine b_geta (pc := 61) (dd dtX2_flow 38 rfl) fwX2_31 (pG_0 hg) (rG_7 hg) ?_
          refine b_iload_n (pc := 64) (i := 1) (dd dtX2_flow 39 rfl) rfl rfl ?_
          refine b_iald (pc := 65) (dd dtX2_flow 40 rfl) (pG_3 hg) (vpn rfl (show h < 64 by omega) (by decide)) ?_
          refine b_aload_n (pc := 66) (i := 0) (dd dtX2_flow 41 rfl) rfl rfl ?_
          refine b_geta (pc := 67) (dd dtX2_flow 42 rfl) fwX2_31 (pG_0 hg) (rG_7 hg) ?_
          refine b_iload_n (pc := 70) (i := 1) (dd dtX2_flow 43 rfl) rfl rfl ?_
          refine b_ic1 (pc := 71) (dd dtX2_flow 44 rfl) ?_
          refine b_iadd (pc := 72) (dd dtX2_flow 45 rfl) ?_
          refine b_iald (pc := 73) (dd dtX2_flow 46 rfl) (pG_3 hg) (by rw [add1]; exact vpn rfl (show h + 1 < 64 by omega) (by decide)) ?_
          refine b_isub (pc := 74) (dd dtX2_flow 47 rfl) ?_
          refine b_bipush (pc := 75) (v := 8) (dd dtX2_flow 48 rfl) (by decide) ?_
          refine b_idiv (pc := 77) (dd dtX2_flow 49 rfl) (by decide) ?_
          refine b_goto (pc := 78) (tgt := 82) (dd dtX2_flow 50 rfl) (by decide) ?_
          refine b_iast (pc := 82) (dd dtX2_flow 52 rfl) (pG_11 hg) (vpn rfl (show h < 64 by omega) (by decide)) ?_
          refine b_iinc1 (pc := 83) (i := 1) (lv' := [(1, _), (0, _)]) (dd dtX2_flow 53 rfl) rfl (Nat.le_of_ble_eq_true rfl) rfl ?_
          refine b_goto (pc := 86) (tgt := 2) (dd dtX2_flow 54 rfl) (by decide) ?_
          rw [nI_1]
          refine ih (h + 1) _ _ hlt (by omega) rfl ?_
          · simp only [nI_clamp (show h < 2 ^ 31 by omega)]
            refine meas_step ?_ ?_
            · first | (rw [dnF_t h19, add8, nI_clamp (show h + 8 < 2 ^ 31 by omega), f3]) | (rw [dnF_f h19])
            · simp only [acF, h57, if_true, if_false, add1, nI_clamp (show h + 1 < 2 ^ 31 by omega), ist_ne (show g + 3 ≠ g + 10 by omega), f3]
      · rw [add8, lt64 (by omega)] at h19
        refine b_aload_n (pc := 22) (i := 0) (dd dtX2_flow 13 rfl) rfl rfl ?_
        refine b_geta (pc := 23) (dd dtX2_flow 14 rfl) fwX2_31 (pG_0 hg) (rG_7 hg) ?_
        refine b_iload_n (pc := 26) (i := 1) (dd dtX2_flow 15 rfl) rfl rfl ?_
        refine b_iald (pc := 27) (dd dtX2_flow 16 rfl) (pG_3 hg) (vpn rfl (show h < 64 by omega) (by decide)) ?_
        refine b_aload_n (pc := 28) (i := 0) (dd dtX2_flow 17 rfl) rfl rfl ?_
        refine b_geta (pc := 29) (dd dtX2_flow 18 rfl) fwX2_31 (pG_0 hg) (rG_7 hg) ?_
        refine b_iload_n (pc := 32) (i := 1) (dd dtX2_flow 19 rfl) rfl rfl ?_
        refine b_bipush (pc := 33) (v := 8) (dd dtX2_flow 20 rfl) (by decide) ?_
        refine b_iadd (pc := 35) (dd dtX2_flow 21 rfl) ?_
        refine b_iald (pc := 36) (dd dtX2_flow 22 rfl) (pG_3 hg) (by rw [add8]; exact vpn rfl h19 (by decide)) ?_
        refine b_isub (pc := 37) (dd dtX2_flow 23 rfl) ?_
        refine b_bipush (pc := 38) (v := 8) (dd dtX2_flow 24 rfl) (by decide) ?_
        refine b_idiv (pc := 40) (dd dtX2_flow 25 rfl) (by decide) ?_
        refine b_goto (pc := 41) (tgt := 45) (dd dtX2_flow 26 rfl) (by decide) ?_
        refine b_iast (pc := 45) (dd dtX2_flow 28 rfl) (pG_10 hg) (vpn rfl (show h < 64 by omega) (by decide)) ?_
        refine b_aload_n (pc := 46) (i := 0) (dd dtX2_flow 29 rfl) rfl rfl ?_
        refine b_geta (pc := 47) (dd dtX2_flow 30 rfl) fwX2_56 (pG_0 hg) (rG_15 hg) ?_
        refine b_iload_n (pc := 50) (i := 1) (dd dtX2_flow 31 rfl) rfl rfl ?_
        refine b_iload_n (pc := 51) (i := 1) (dd dtX2_flow 32 rfl) rfl rfl ?_
        refine b_bipush (pc := 52) (v := 8) (dd dtX2_flow 33 rfl) (by decide) ?_
        refine b_irem (pc := 54) (dd dtX2_flow 34 rfl) (by decide) ?_
        refine b_bipush (pc := 55) (v := 7) (dd dtX2_flow 35 rfl) (by decide) ?_
        refine b_icmpL_ge (pc := 57) (tgt := 81) (dd dtX2_flow 36 rfl) (by decide) (fun h57 => ?_) (fun h57 => ?_)
        · rw [rem8 (by omega), lt7 (by omega)] at h57
          refine b_ic0 (pc := 81) (dd dtX2_flow 51 rfl) ?_
          refine b_iast (pc := 82) (dd dtX2_flow 52 rfl) (pG_11 hg) (vpn rfl (show h < 64 by omega) (by decide)) ?_
          refine b_iinc1 (pc := 83) (i := 1) (lv' := [(1, _), (0, _)]) (dd dtX2_flow 53 rfl) rfl (Nat.le_of_ble_eq_true rfl) rfl ?_
          refine b_goto (pc := 86) (tgt := 2) (dd dtX2_flow 54 rfl) (by decide) ?_
          rw [nI_1]
          refine ih (h + 1) _ _ hlt (by omega) rfl ?_
          · simp only [nI_clamp (show h < 2 ^ 31 by omega)]
            refine meas_step ?_ ?_
            · first | (rw [dnF_t h19, add8, nI_clamp (show h + 8 < 2 ^ 31 by omega), f3]) | (rw [dnF_f h19])
            · simp only [acF, h57, if_true, if_false, add1, nI_clamp (show h + 1 < 2 ^ 31 by omega), ist_ne (show g + 3 ≠ g + 10 by omega), f3]
        · rw [rem8 (by omega), lt7 (by omega)] at h57
          refine b_aload_n (pc := 60) (i := 0) (dd dtX2_flow 37 rfl) rfl rfl ?_
          refine b_geta (pc := 61) (dd dtX2_flow 38 rfl) fwX2_31 (pG_0 hg) (rG_7 hg) ?_
          refine b_iload_n (pc := 64) (i := 1) (dd dtX2_flow 39 rfl) rfl rfl ?_
          refine b_iald (pc := 65) (dd dtX2_flow 40 rfl) (pG_3 hg) (vpn rfl (show h < 64 by omega) (by decide)) ?_
          refine b_aload_n (pc := 66) (i := 0) (dd dtX2_flow 41 rfl) rfl rfl ?_
          refine b_geta (pc := 67) (dd dtX2_flow 42 rfl) fwX2_31 (pG_0 hg) (rG_7 hg) ?_
          refine b_iload_n (pc := 70) (i := 1) (dd dtX2_flow 43 rfl) rfl rfl ?_
          refine b_ic1 (pc := 71) (dd dtX2_flow 44 rfl) ?_
          refine b_iadd (pc := 72) (dd dtX2_flow 45 rfl) ?_
          refine b_iald (pc := 73) (dd dtX2_flow 46 rfl) (pG_3 hg) (by rw [add1]; exact vpn rfl (show h + 1 < 64 by omega) (by decide)) ?_
          refine b_isub (pc := 74) (dd dtX2_flow 47 rfl) ?_
          refine b_bipush (pc := 75) (v := 8) (dd dtX2_flow 48 rfl) (by decide) ?_
          refine b_idiv (pc := 77) (dd dtX2_flow 49 rfl) (by decide) ?_
          refine b_goto (pc := 78) (tgt := 82) (dd dtX2_flow 50 rfl) (by decide) ?_
          refine b_iast (pc := 82) (dd dtX2_flow 52 rfl) (pG_11 hg) (vpn rfl (show h < 64 by omega) (by decide)) ?_
          refine b_iinc1 (pc := 83) (i := 1) (lv' := [(1, _), (0, _)]) (dd dtX2_flow 53 rfl) rfl (Nat.le_of_ble_eq_true rfl) rfl ?_
          refine b_goto (pc := 86) (tgt := 2) (dd dtX2_flow 54 rfl) (by decide) ?_
          rw [nI_1]
          refine ih (h + 1) _ _ hlt (by omega) rfl ?_
          · simp only [nI_clamp (show h < 2 ^ 31 by omega)]
            refine meas_step ?_ ?_
            · first | (rw [dnF_t h19, add8, nI_clamp (show h + 8 < 2 ^ 31 by omega), f3]) | (rw [dnF_f h19])
            · simp only [acF, h57, if_true, if_false, add1, nI_clamp (show h + 1 < 2 ^ 31 by omega), ist_ne (show g + 3 ≠ g + 10 by omega), f3]
set_option maxHeartbeats 4000000 in
theorem c_X2_flow {I : Wd} {g N P : Nat} (hg : isG g) (hF : FG g I N P) : Cal SyC mX2_flow 3 [.ref g] I none (flowW g (measW g I 64) 64) := by
  refine Cal.of (by decide) (Nat.le_of_ble_eq_true rfl) ?_
  show Bd _ _ _ _ [(0, _)] _ _ _ _
  refine b_ic0 (pc := 0) (dd dtX2_flow 0 rfl) ?_
  refine b_istore_n (pc := 1) (i := 1) (lv' := [(1, _), (0, _)]) (dd dtX2_flow 1 rfl) rfl (Nat.le_of_ble_eq_true rfl) rfl ?_
  exact l1_X2_flow hg hF 65 0 _ _ (Nat.zero_le _) (by omega) rfl (by unfold measW; rw [fil_0, fil_0, rset_id, rset_id])
def tX2_takeHouses : List (Nat × Instr × Nat) := [(0, .iconst 0, 1), (1, .istore_n 2, 1), (2, .iload_n 2, 1), (3, .aload_n 0, 1), (4, .getfield 59, 3), (7, .getfield 69, 3), (10, .if_icmp .ge 55, 3), (13, .aload_n 0, 1), (14, .getfield 59, 3), (17, .getfield 74, 3), (20, .iload_n 2, 1), (21, .iaload, 1), (22, .iload_n 1, 1), (23, .if_icmp .ne 36, 3), (26, .aload_n 0, 1), (27, .getfield 46, 3), (30, .iload_n 2, 1), (31, .iaload, 1), (32, .ifCond .ge 27, 3), (35, .aload_n 0, 1), (36, .getfield 46, 3), (39, .iload_n 2, 1), (40, .aload_n 0, 1), (41, .getfield 9, 3), (44, .iastore, 1), (45, .aload_n 0, 1), (46, .dup, 1), (47, .getfield 21, 3), (50, .aload_n 0, 1), (51, .iload_n 2, 1), (52, .invokevirtual 137, 3), (55, .iadd, 1), (56, .putfield 21, 3), (59, .iinc 2 1, 3), (62, .goto (-60), 3), (65, .return_, 1)]
theorem dtX2_takeHouses : dec_ok mX2_takeHouses.2.1 tX2_takeHouses = true := by decide +kernel
set_option maxHeartbeats 4000000 in
theorem l_X2_takeHouses {I : Wd} {g N P : Nat} (hg : isG g) (hF : FG g I N P) {c : Nat} (hc : c < 64) : ∀ (n h : Nat) (x2 : Int32) (I2 : Wd), h ≤ N → N < h + n → x2 = nI h → I2 = (takeW g I c h) → Bd SyC mX2_takeHouses 1 2 [(2, .int x2), (0, .ref g), (1, .int (nI c))] [] I2 none (takeW g I c N) := by
  intro n
  induction n with
  | zero => intro h x2 I2 h1 h2; omega
  | succ n ih =>
    intro h x2 I2 h1 h2 e2 eW
    subst e2; subst eW
    have h6 := hg.ge
    obtain ⟨⟨hN, hN2⟩, ⟨hP, hP2⟩, hr, hq⟩ := id hF
    have f1 : takeW g I c h 1 = I 1 := takeW_fr (by omega) (by omega)
    refine b_iload_n (pc := 2) (i := 2) (dd dtX2_takeHouses 2 rfl) rfl rfl ?_
    refine b_aload_n (pc := 3) (i := 0) (dd dtX2_takeHouses 3 rfl) rfl rfl ?_
    refine b_geta (pc := 4) (dd dtX2_takeHouses 4 rfl) fwX2_59 (pG_0 hg) (rG_0 hg) ?_
    refine b_geti (pc := 7) (dd dtX2_takeHouses 5 rfl) fwX2_69 pC_1 ?_
    refine b_icmpL_ge (pc := 10) (tgt := 65) (dd dtX2_takeHouses 6 rfl) (by decide) (fun h10 => ?_) (fun h10 => ?_)
    · rw [f1, hN] at h10
      have he : h = N := Nat.le_antisymm h1 (ge_n h10 (by omega))
      subst he
      exact b_eq (b_vret (dd dtX2_takeHouses 35 rfl) rfl) rfl rfl
    · rw [f1, hN] at h10
      have hlt : h < N := lt_n h10 (by omega) (by omega)
      refine b_aload_n (pc := 13) (i := 0) (dd dtX2_takeHouses 7 rfl) rfl rfl ?_
      refine b_geta (pc := 14) (dd dtX2_takeHouses 8 rfl) fwX2_59 (pG_0 hg) (rG_0 hg) ?_
      refine b_geta (pc := 17) (dd dtX2_takeHouses 9 rfl) fwX2_74 pC_1 rC_1_2 ?_
      refine b_iload_n (pc := 20) (i := 2) (dd dtX2_takeHouses 10 rfl) rfl rfl ?_
      refine b_iald (pc := 21) (dd dtX2_takeHouses 11 rfl) pC_2 (vpn rfl (show h < 14 by omega) (by decide)) ?_
      refine b_iload_n (pc := 22) (i := 1) (dd dtX2_takeHouses 12 rfl) rfl rfl ?_
      refine b_icmp_ne (pc := 23) (tgt := 59) (dd dtX2_takeHouses 13 rfl) (by decide) (fun h23 => ?_) (fun h23 => ?_)
      · try simp only [nI_clamp (show h < 2 ^ 31 by omega)] at h23
        try simp only [nI_clamp (show h < 2 ^ 31 by omega)] at h32
        refine b_iinc1 (pc := 59) (i := 2) (lv' := [(2, _), (0, _), (1, _)]) (dd dtX2_takeHouses 33 rfl) rfl (Nat.le_of_ble_eq_true rfl) rfl ?_
        refine b_goto (pc := 62) (tgt := 2) (dd dtX2_takeHouses 34 rfl) (by decide) ?_
        rw [nI_1]
        refine ih (h + 1) _ _ hlt (by omega) rfl ?_
        · try simp only [nI_clamp (show h < 2 ^ 31 by omega)]
          simp [takeW, take1, ist_ne, ist_eq, -Int32.not_lt, -Int32.not_le, *]
      · simp only [nI_clamp (show h < 2 ^ 31 by omega)] at h23
        refine b_aload_n (pc := 26) (i := 0) (dd dtX2_takeHouses 14 rfl) rfl rfl ?_
        refine b_geta (pc := 27) (dd dtX2_takeHouses 15 rfl) fwX2_46 (pG_0 hg) (rG_12 hg) ?_
        refine b_iload_n (pc := 30) (i := 2) (dd dtX2_takeHouses 16 rfl) rfl rfl ?_
        refine b_iald (pc := 31) (dd dtX2_takeHouses 17 rfl) (pG_8 hg) (vpn rfl (show h < 14 by omega) (by decide)) ?_
        refine b_ifL_ge (pc := 32) (tgt := 59) (dd dtX2_takeHouses 18 rfl) (by decide) (fun h32 => ?_) (fun h32 => ?_)
        · try simp only [nI_clamp (show h < 2 ^ 31 by omega)] at h23
          try simp only [nI_clamp (show h < 2 ^ 31 by omega)] at h32
          refine b_iinc1 (pc := 59) (i := 2) (lv' := [(2, _), (0, _), (1, _)]) (dd dtX2_takeHouses 33 rfl) rfl (Nat.le_of_ble_eq_true rfl) rfl ?_
          refine b_goto (pc := 62) (tgt := 2) (dd dtX2_takeHouses 34 rfl) (by decide) ?_
          rw [nI_1]
          refine ih (h + 1) _ _ hlt (by omega) rfl ?_
          · try simp only [nI_clamp (show h < 2 ^ 31 by omega)]
            simp [takeW, take1, ist_ne, ist_eq, -Int32.not_lt, -Int32.not_le, *]
        · simp only [nI_clamp (show h < 2 ^ 31 by omega)] at h32
          refine b_aload_n (pc := 35) (i := 0) (dd dtX2_takeHouses 19 rfl) rfl rfl ?_
          refine b_geta (pc := 36) (dd dtX2_takeHouses 20 rfl) fwX2_46 (pG_0 hg) (rG_12 hg) ?_
          refine b_iload_n (pc := 39) (i := 2) (dd dtX2_takeHouses 21 rfl) rfl rfl ?_
          refine b_aload_n (pc := 40) (i := 0) (dd dtX2_takeHouses 22 rfl) rfl rfl ?_
          refine b_geti (pc := 41) (dd dtX2_takeHouses 23 rfl) fwX2_9 (pG_0 hg) ?_
          refine b_iast (pc := 44) (dd dtX2_takeHouses 24 rfl) (pG_8 hg) (vpn rfl (show h < 14 by omega) (by decide)) ?_
          refine b_aload_n (pc := 45) (i := 0) (dd dtX2_takeHouses 25 rfl) rfl rfl ?_
          refine b_dup (pc := 46) (dd dtX2_takeHouses 26 rfl) rfl ?_
          refine b_geti (pc := 47) (dd dtX2_takeHouses 27 rfl) fwX2_21 (pG_0 hg) ?_
          refine b_aload_n (pc := 50) (i := 0) (dd dtX2_takeHouses 28 rfl) rfl rfl ?_
          refine b_iload_n (pc := 51) (i := 2) (dd dtX2_takeHouses 29 rfl) rfl rfl ?_
          refine b_invV (pc := 52) (dd dtX2_takeHouses 30 rfl) mlX2_137 mvX2_harmOf miX2_harmOf (c_X2_harmOf hg (vpn rfl (show h < 14 by omega) (by decide))) (oG hg) rfl rfl (by decide) (Nat.le_of_ble_eq_true rfl) ?_
          refine b_iadd (pc := 55) (dd dtX2_takeHouses 31 rfl) ?_
          refine b_puti (pc := 56) (dd dtX2_takeHouses 32 rfl) fwX2_21 (pG_0 hg) ?_
          try simp only [nI_clamp (show h < 2 ^ 31 by omega)] at h23
          try simp only [nI_clamp (show h < 2 ^ 31 by omega)] at h32
          refine b_iinc1 (pc := 59) (i := 2) (lv' := [(2, _), (0, _), (1, _)]) (dd dtX2_takeHouses 33 rfl) rfl (Nat.le_of_ble_eq_true rfl) rfl ?_
          refine b_goto (pc := 62) (tgt := 2) (dd dtX2_takeHouses 34 rfl) (by decide) ?_
          rw [nI_1]
          refine ih (h + 1) _ _ hlt (by omega) rfl ?_
          · try simp only [nI_clamp (show h < 2 ^ 31 by omega)]
            simp [takeW, take1, ist_ne, ist_eq, -Int32.not_lt, -Int32.not_le, *]
set_option maxHeartbeats 4000000 in
theorem c_X2_takeHouses {I : Wd} {g N P : Nat} (hg : isG g) (hF : FG g I N P) {c : Nat} (hc : c < 64) : Cal SyC mX2_takeHouses 1 [.ref g, .int (nI c)] I none (takeW g I c N) := by
  refine Cal.of (by decide) (Nat.le_of_ble_eq_true rfl) ?_
  show Bd _ _ _ _ [(0, _), (1, _)] _ _ _ _
  refine b_ic0 (pc := 0) (dd dtX2_takeHouses 0 rfl) ?_
  refine b_istore_n (pc := 1) (i := 2) (lv' := [(2, _), (0, _), (1, _)]) (dd dtX2_takeHouses 1 rfl) rfl (Nat.le_of_ble_eq_true rfl) rfl ?_
  exact l_X2_takeHouses hg hF hc (N + 1) 0 _ _ (Nat.zero_le _) (by omega) rfl rfl
end
section
def tX2_letFall : List (Nat × Instr × Nat) := [(0, .iconst 0, 1), (1, .istore_n 1, 1), (2, .iload_n 1, 1), (3, .bipush 64, 2), (5, .if_icmp .ge 104, 3), (8, .aload_n 0, 1), (9, .iload_n 1, 1), (10, .invokevirtual 123, 3), (13, .ifCond .eq 6, 3), (16, .goto 87, 3), (19, .aload_n 0, 1), (20, .getfield 40, 3), (23, .aload_n 0, 1), (24, .getfield 24, 3), (27, .iload_n 1, 1), (28, .iaload, 1), (29, .dup2, 1), (30, .iaload, 1), (31, .iconst 1, 1), (32, .iadd, 1), (33, .iastore, 1), (34, .aload_n 0, 1), (35, .getfield 28, 3), (38, .iload_n 1, 1), (39, .iaload, 1), (40, .getstatic 130, 3), (43, .aload_n 0, 1), (44, .getfield 24, 3), (47, .iload_n 1, 1), (48, .iaload, 1), (49, .iaload, 1), (50, .aload_n 0, 1), (51, .getfield 31, 3), (54, .iload_n 1, 1), (55, .iaload, 1), (56, .bipush 20, 2), (58, .idiv, 1), (59, .iadd, 1), (60, .if_icmp .le 43, 3), (63, .aload_n 0, 1), (64, .getfield 34, 3), (67, .iload_n 1, 1), (68, .aload_n 0, 1), (69, .getfield 9, 3), (72, .iastore, 1), (73, .aload_n 0, 1), (74, .dup, 1), (75, .getfield 18, 3), (78, .iconst 1, 1), (79, .iadd, 1), (80, .putfield 18, 3), (83, .aload_n 0, 1), (84, .getfield 37, 3), (87, .aload_n 0, 1), (88, .getfield 24, 3), (91, .iload_n 1, 1), (92, .iaload, 1), (93, .dup2, 1), (94, .iaload, 1), (95, .iconst 1, 1), (96, .iadd, 1), (97, .iastore, 1), (98, .aload_n 0, 1), (99, .iload_n 1, 1), (100, .invokevirtual 133, 3), (103, .iinc 1 1, 3), (106, .goto (-104), 3), (109, .return_, 1)]
theorem dtX2_letFall : dec_ok mX2_letFall.2.1 tX2_letFall = true := by decide +kernel
set_option maxHeartbeats 4000000 in
theorem l_X2_letFall {I : Wd} {g N P : Nat} (hg : isG g) (hF : FG g I N P) : ∀ (n h : Nat) (x1 : Int32) (I2 : Wd), h ≤ 64 → 64 < h + n → x1 = nI h → I2 = (fallW g I N h) → Bd SyC mX2_letFall 2 2 [(1, .int x1), (0, .ref g)] [] I2 none (fallW g I N 64) := by
  intro n
  induction n with
  | zero => intro h x1 I2 h1 h2; omega
  | succ n ih =>
    intro h x1 I2 h1 h2 e1 eW
    subst e1; subst eW
    have h6 := hg.ge
    obtain ⟨⟨hN, hN2⟩, ⟨hP, hP2⟩, hr, hq⟩ := id hF
    have f1 : fallW g I N h 1 = I 1 := fallW_fr (by omega) (by omega) (by omega) (by omega) (by omega)
    have f5 : fallW g I N h 5 = I 5 := fallW_fr (by omega) (by omega) (by omega) (by omega) (by omega)
    have fr : fallW g I N h (g + 1) = I (g + 1) := fallW_fr (by omega) (by omega) (by omega) (by omega) (by omega)
    refine b_iload_n (pc := 2) (i := 1) (dd dtX2_letFall 2 rfl) rfl rfl ?_
    refine b_bipush (pc := 3) (v := 64) (dd dtX2_letFall 3 rfl) (by decide) ?_
    refine b_icmpL_ge (pc := 5) (tgt := 109) (dd dtX2_letFall 4 rfl) (by decide) (fun h5 => ?_) (fun h5 => ?_)
    · rw [show (64 : Int32) = nI 64 from rfl] at h5
      have he : h = 64 := Nat.le_antisymm h1 (ge_n h5 (by omega))
      subst he
      exact b_eq (b_vret (dd dtX2_letFall 67 rfl) rfl) rfl rfl
    · rw [show (64 : Int32) = nI 64 from rfl] at h5
      have hlt : h < 64 := lt_n h5 (by omega) (by omega)
      have hrh : vp_in (fallW g I N h (g + 1) (nI h).toNatClampNeg) 4 := by rw [fr, nI_clamp (show h < 2 ^ 31 by omega)]; exact hr h hlt
      refine b_aload_n (pc := 8) (i := 0) (dd dtX2_letFall 5 rfl) rfl rfl ?_
      refine b_iload_n (pc := 9) (i := 1) (dd dtX2_letFall 6 rfl) rfl rfl ?_
      refine b_invV (pc := 10) (dd dtX2_letFall 7 rfl) mlX2_123 mvX2_hasFallen miX2_hasFallen (c_X2_hasFallen hg (vpn rfl (show h < 64 by omega) (by decide))) (oG hg) rfl rfl (by decide) (Nat.le_of_ble_eq_true rfl) ?_
      refine b_ifn_eq (pc := 13) (tgt := 19) (dd dtX2_letFall 8 rfl) (by decide) (fun h13 => ?_) (fun h13 => ?_)
      · refine b_aload_n (pc := 19) (i := 0) (dd dtX2_letFall 10 rfl) rfl rfl ?_
        refine b_geta (pc := 20) (dd dtX2_letFall 11 rfl) fwX2_40 (pG_0 hg) (rG_10 hg) ?_
        refine b_aload_n (pc := 23) (i := 0) (dd dtX2_letFall 12 rfl) rfl rfl ?_
        refine b_geta (pc := 24) (dd dtX2_letFall 13 rfl) fwX2_24 (pG_0 hg) (rG_5 hg) ?_
        refine b_iload_n (pc := 27) (i := 1) (dd dtX2_letFall 14 rfl) rfl rfl ?_
        refine b_iald (pc := 28) (dd dtX2_letFall 15 rfl) (pG_1 hg) (vpn rfl (show h < 64 by omega) (by decide)) ?_
        refine b_dup2 (pc := 29) (dd dtX2_letFall 16 rfl) ⟨rfl, rfl⟩ ?_
        refine b_iald (pc := 30) (dd dtX2_letFall 17 rfl) (pG_6 hg) (hrh) ?_
        refine b_ic1 (pc := 31) (dd dtX2_letFall 18 rfl) ?_
        refine b_iadd (pc := 32) (dd dtX2_letFall 19 rfl) ?_
        refine b_iast (pc := 33) (dd dtX2_letFall 20 rfl) (pG_6 hg) (hrh) ?_
        refine b_aload_n (pc := 34) (i := 0) (dd dtX2_letFall 21 rfl) rfl rfl ?_
        refine b_geta (pc := 35) (dd dtX2_letFall 22 rfl) fwX2_28 (pG_0 hg) (rG_6 hg) ?_
        refine b_iload_n (pc := 38) (i := 1) (dd dtX2_letFall 23 rfl) rfl rfl ?_
        refine b_iald (pc := 39) (dd dtX2_letFall 24 rfl) (pG_2 hg) (vpn rfl (show h < 64 by omega) (by decide)) ?_
        refine b_gets1 (pc := 40) (dd dtX2_letFall 25 rfl) fsX2_130 ?_
        refine b_aload_n (pc := 43) (i := 0) (dd dtX2_letFall 26 rfl) rfl rfl ?_
        refine b_geta (pc := 44) (dd dtX2_letFall 27 rfl) fwX2_24 (pG_0 hg) (rG_5 hg) ?_
        refine b_iload_n (pc := 47) (i := 1) (dd dtX2_letFall 28 rfl) rfl rfl ?_
        refine b_iald (pc := 48) (dd dtX2_letFall 29 rfl) (pG_1 hg) (vpn rfl (show h < 64 by omega) (by decide)) ?_
        refine b_tald1 (pc := 49) (dd dtX2_letFall 30 rfl) (by rw [ist_ne (show g + 1 ≠ g + 6 by omega)]; exact hrh) ?_
        refine b_aload_n (pc := 50) (i := 0) (dd dtX2_letFall 31 rfl) rfl rfl ?_
        refine b_geta (pc := 51) (dd dtX2_letFall 32 rfl) fwX2_31 (pG_0 hg) (rG_7 hg) ?_
        refine b_iload_n (pc := 54) (i := 1) (dd dtX2_letFall 33 rfl) rfl rfl ?_
        refine b_iald (pc := 55) (dd dtX2_letFall 34 rfl) (pG_3 hg) (vpn rfl (show h < 64 by omega) (by decide)) ?_
        refine b_bipush (pc := 56) (v := 20) (dd dtX2_letFall 35 rfl) (by decide) ?_
        refine b_idiv (pc := 58) (dd dtX2_letFall 36 rfl) (by decide) ?_
        refine b_iadd (pc := 59) (dd dtX2_letFall 37 rfl) ?_
        refine b_icmpL_le (pc := 60) (tgt := 103) (dd dtX2_letFall 38 rfl) (by decide) (fun h60 => ?_) (fun h60 => ?_)
        · refine b_iinc1 (pc := 103) (i := 1) (lv' := [(1, _), (0, _)]) (dd dtX2_letFall 65 rfl) rfl (Nat.le_of_ble_eq_true rfl) rfl ?_
          refine b_goto (pc := 106) (tgt := 2) (dd dtX2_letFall 66 rfl) (by decide) ?_
          rw [nI_1]
          refine ih (h + 1) _ _ hlt (by omega) rfl ?_
          · try simp only [nI_clamp (show h < 2 ^ 31 by omega)] at h13
            try simp (disch := omega) only [ist_ne, nI_clamp (show h < 2 ^ 31 by omega)] at h60
            try simp only [nI_clamp (show h < 2 ^ 31 by omega)]
            show _ = fall1 g (fallW g I N h) N h
            unfold fall1
            first
              | rw [if_neg h13]
              | (rw [if_pos h13, if_neg h60])
              | (rw [if_pos h13, if_pos h60]; simp (disch := omega) only [ist_ne, ist_eq, upd_ne, ne_eq, Nat.reduceEqDiff, not_false_eq_true])
        · refine b_aload_n (pc := 63) (i := 0) (dd dtX2_letFall 39 rfl) rfl rfl ?_
          refine b_geta (pc := 64) (dd dtX2_letFall 40 rfl) fwX2_34 (pG_0 hg) (rG_8 hg) ?_
          refine b_iload_n (pc := 67) (i := 1) (dd dtX2_letFall 41 rfl) rfl rfl ?_
          refine b_aload_n (pc := 68) (i := 0) (dd dtX2_letFall 42 rfl) rfl rfl ?_
          refine b_geti (pc := 69) (dd dtX2_letFall 43 rfl) fwX2_9 (pG_0 hg) ?_
          refine b_iast (pc := 72) (dd dtX2_letFall 44 rfl) (pG_4 hg) (vpn rfl (show h < 64 by omega) (by decide)) ?_
          refine b_aload_n (pc := 73) (i := 0) (dd dtX2_letFall 45 rfl) rfl rfl ?_
          refine b_dup (pc := 74) (dd dtX2_letFall 46 rfl) rfl ?_
          refine b_geti (pc := 75) (dd dtX2_letFall 47 rfl) fwX2_18 (pG_0 hg) ?_
          refine b_ic1 (pc := 78) (dd dtX2_letFall 48 rfl) ?_
          refine b_iadd (pc := 79) (dd dtX2_letFall 49 rfl) ?_
          refine b_puti (pc := 80) (dd dtX2_letFall 50 rfl) fwX2_18 (pG_0 hg) ?_
          refine b_aload_n (pc := 83) (i := 0) (dd dtX2_letFall 51 rfl) rfl rfl ?_
          refine b_geta (pc := 84) (dd dtX2_letFall 52 rfl) fwX2_37 (pG_0 hg) (rG_9 hg) ?_
          refine b_aload_n (pc := 87) (i := 0) (dd dtX2_letFall 53 rfl) rfl rfl ?_
          refine b_geta (pc := 88) (dd dtX2_letFall 54 rfl) fwX2_24 (pG_0 hg) (rG_5 hg) ?_
          refine b_iload_n (pc := 91) (i := 1) (dd dtX2_letFall 55 rfl) rfl rfl ?_
          refine b_iald (pc := 92) (dd dtX2_letFall 56 rfl) (pG_1 hg) (vpn rfl (show h < 64 by omega) (by decide)) ?_
          refine b_dup2 (pc := 93) (dd dtX2_letFall 57 rfl) ⟨rfl, rfl⟩ ?_
          refine b_iald (pc := 94) (dd dtX2_letFall 58 rfl) (pG_5 hg) (by simp only [ist_ne (show g + 1 ≠ g + 6 by omega), ist_ne (show g + 1 ≠ g + 4 by omega), ist_ne (show g + 1 ≠ g by omega)]; exact hrh) ?_
          refine b_ic1 (pc := 95) (dd dtX2_letFall 59 rfl) ?_
          refine b_iadd (pc := 96) (dd dtX2_letFall 60 rfl) ?_
          refine b_iast (pc := 97) (dd dtX2_letFall 61 rfl) (pG_5 hg) (by simp only [ist_ne (show g + 1 ≠ g + 6 by omega), ist_ne (show g + 1 ≠ g + 4 by omega), ist_ne (show g + 1 ≠ g by omega)]; exact hrh) ?_
          refine b_aload_n (pc := 98) (i := 0) (dd dtX2_letFall 62 rfl) rfl rfl ?_
          refine b_iload_n (pc := 99) (i := 1) (dd dtX2_letFall 63 rfl) rfl rfl ?_
          refine b_invV (pc := 100) (dd dtX2_letFall 64 rfl) mlX2_133 mvX2_takeHouses miX2_takeHouses (c_X2_takeHouses hg (FG.of hF (by simp only [ist_ne (show 1 ≠ g + 5 by omega), ist_ne (show 1 ≠ g + 6 by omega), ist_ne (show 1 ≠ g + 4 by omega), ist_ne (show 1 ≠ g by omega), f1]) (by simp only [ist_ne (show 5 ≠ g + 5 by omega), ist_ne (show 5 ≠ g + 6 by omega), ist_ne (show 5 ≠ g + 4 by omega), ist_ne (show 5 ≠ g by omega), f5]) (by simp only [ist_ne (show g + 1 ≠ g + 5 by omega), ist_ne (show g + 1 ≠ g + 6 by omega), ist_ne (show g + 1 ≠ g + 4 by omega), ist_ne (show g + 1 ≠ g by omega), fr])) hlt) (oG hg) rfl rfl (by decide) (Nat.le_of_ble_eq_true rfl) ?_
          refine b_iinc1 (pc := 103) (i := 1) (lv' := [(1, _), (0, _)]) (dd dtX2_letFall 65 rfl) rfl (Nat.le_of_ble_eq_true rfl) rfl ?_
          refine b_goto (pc := 106) (tgt := 2) (dd dtX2_letFall 66 rfl) (by decide) ?_
          rw [nI_1]
          refine ih (h + 1) _ _ hlt (by omega) rfl ?_
          · try simp only [nI_clamp (show h < 2 ^ 31 by omega)] at h13
            try simp (disch := omega) only [ist_ne, nI_clamp (show h < 2 ^ 31 by omega)] at h60
            try simp only [nI_clamp (show h < 2 ^ 31 by omega)]
            show _ = fall1 g (fallW g I N h) N h
            unfold fall1
            first
              | rw [if_neg h13]
              | (rw [if_pos h13, if_neg h60])
              | (rw [if_pos h13, if_pos h60]; simp (disch := omega) only [ist_ne, ist_eq, upd_ne, ne_eq, Nat.reduceEqDiff, not_false_eq_true])
      · refine b_goto (pc := 16) (tgt := 103) (dd dtX2_letFall 9 rfl) (by decide) ?_
        refine b_iinc1 (pc := 103) (i := 1) (lv' := [(1, _), (0, _)]) (dd dtX2_letFall 65 rfl) rfl (Nat.le_of_ble_eq_true rfl) rfl ?_
        refine b_goto (pc := 106) (tgt := 2) (dd dtX2_letFall 66 rfl) (by decide) ?_
        rw [nI_1]
        refine ih (h + 1) _ _ hlt (by omega) rfl ?_
        · try simp only [nI_clamp (show h < 2 ^ 31 by omega)] at h13
          try simp (disch := omega) only [ist_ne, nI_clamp (show h < 2 ^ 31 by omega)] at h60
          try simp only [nI_clamp (show h < 2 ^ 31 by omega)]
          show _ = fall1 g (fallW g I N h) N h
          unfold fall1
          first
            | rw [if_neg h13]
            | (rw [if_pos h13, if_neg h60])
            | (rw [if_pos h13, if_pos h60]; simp (disch := omega) only [ist_ne, ist_eq, upd_ne, ne_eq, Nat.reduceEqDiff, not_false_eq_true])
set_option maxHeartbeats 4000000 in
theorem c_X2_letFall {I : Wd} {g N P : Nat} (hg : isG g) (hF : FG g I N P) : Cal SyC mX2_letFall 2 [.ref g] I none (fallW g I N 64) := by
  refine Cal.of (by decide) (Nat.le_of_ble_eq_true rfl) ?_
  show Bd _ _ _ _ [(0, _)] _ _ _ _
  refine b_ic0 (pc := 0) (dd dtX2_letFall 0 rfl) ?_
  refine b_istore_n (pc := 1) (i := 1) (lv' := [(1, _), (0, _)]) (dd dtX2_letFall 1 rfl) rfl (Nat.le_of_ble_eq_true rfl) rfl ?_
  exact l_X2_letFall hg hF 65 0 _ _ (Nat.zero_le _) (by omega) rfl rfl
def tX2_passMonths : List (Nat × Instr × Nat) := [(0, .iconst 0, 1), (1, .istore_n 2, 1), (2, .iload_n 2, 1), (3, .iload_n 1, 1), (4, .if_icmp .ge 35, 3), (7, .aload_n 0, 1), (8, .invokevirtual 93, 3), (11, .aload_n 0, 1), (12, .invokevirtual 96, 3), (15, .aload_n 0, 1), (16, .invokevirtual 99, 3), (19, .aload_n 0, 1), (20, .invokevirtual 102, 3), (23, .aload_n 0, 1), (24, .dup, 1), (25, .getfield 9, 3), (28, .iconst 1, 1), (29, .iadd, 1), (30, .putfield 9, 3), (33, .iinc 2 1, 3), (36, .goto (-34), 3), (39, .return_, 1)]
theorem dtX2_passMonths : dec_ok mX2_passMonths.2.1 tX2_passMonths = true := by decide +kernel
theorem FG.months {g : Nat} {I : Wd} {N P n : Nat} (hg : isG g) (hF : FG g I N P) : FG g (monthsW g N P I n) N P := by
  have h6 := hg.ge
  exact hF.of (monthsW_fr (by omega) (by omega) (by omega) (by omega) (by omega) (by omega) (by omega) (by omega) (by omega)) (monthsW_fr (by omega) (by omega) (by omega) (by omega) (by omega) (by omega) (by omega) (by omega) (by omega)) (monthsW_fr (by omega) (by omega) (by omega) (by omega) (by omega) (by omega) (by omega) (by omega) (by omega))
theorem FG.rain {g : Nat} {I : Wd} {N P : Nat} (hg : isG g) (hF : FG g I N P) : FG g (rainW g I) N P := by
  have h6 := hg.ge
  exact hF.of (rainW_fr (by omega)) (rainW_fr (by omega)) (rainW_fr (by omega))
theorem FG.pump {g : Nat} {I : Wd} {N P n : Nat} (hg : isG g) (hF : FG g I N P) : FG g (pumpW g I n) N P := by
  have h6 := hg.ge
  exact hF.of (pumpW_fr (by omega) (by omega)) (pumpW_fr (by omega) (by omega)) (pumpW_fr (by omega) (by omega))
theorem FG.flow {g : Nat} {I : Wd} {N P n : Nat} (hg : isG g) (hF : FG g I N P) : FG g (flowW g (measW g I n) n) N P := by
  have h6 := hg.ge
  refine hF.of ?_ ?_ ?_
  · rw [flowW_fr (by omega) (by omega), measW_fr (by omega) (by omega)]
  · rw [flowW_fr (by omega) (by omega), measW_fr (by omega) (by omega)]
  · rw [flowW_fr (by omega) (by omega), measW_fr (by omega) (by omega)]
set_option maxHeartbeats 4000000 in
theorem l_X2_passMonths {I : Wd} {g N P : Nat} (hg : isG g) (hF : FG g I N P) {n0 : Nat} (hn0 : n0 < 2 ^ 31) : ∀ (n h : Nat) (x2 : Int32) (I2 : Wd), h ≤ n0 → n0 < h + n → x2 = nI h → I2 = (monthsW g N P I h) → Bd SyC mX2_passMonths 4 2 [(2, .int x2), (0, .ref g), (1, .int (nI n0))] [] I2 none (monthsW g N P I n0) := by
  intro n
  induction n with
  | zero => intro h x2 I2 h1 h2; omega
  | succ n ih =>
    intro h x2 I2 h1 h2 e2 eW
    subst e2; subst eW
    have h6 := hg.ge
    have hM := FG.months (n := h) hg hF
    refine b_iload_n (pc := 2) (i := 2) (dd dtX2_passMonths 2 rfl) rfl rfl ?_
    refine b_iload_n (pc := 3) (i := 1) (dd dtX2_passMonths 3 rfl) rfl rfl ?_
    refine b_icmpL_ge (pc := 4) (tgt := 39) (dd dtX2_passMonths 4 rfl) (by decide) (fun h4 => ?_) (fun h4 => ?_)
    · have he : h = n0 := Nat.le_antisymm h1 (ge_n h4 (by omega))
      subst he
      exact b_eq (b_vret (dd dtX2_passMonths 21 rfl) rfl) rfl rfl
    · have hlt : h < n0 := lt_n h4 (by omega) (by omega)
      refine b_aload_n (pc := 7) (i := 0) (dd dtX2_passMonths 5 rfl) rfl rfl ?_
      refine b_invV (pc := 8) (dd dtX2_passMonths 6 rfl) mlX2_93 mvX2_rainDown miX2_rainDown (c_X2_rainDown hg) (oG hg) rfl rfl (by decide) (Nat.le_of_ble_eq_true rfl) ?_
      refine b_aload_n (pc := 11) (i := 0) (dd dtX2_passMonths 7 rfl) rfl rfl ?_
      refine b_invV (pc := 12) (dd dtX2_passMonths 8 rfl) mlX2_96 mvX2_pumpOut miX2_pumpOut (c_X2_pumpOut hg (hM.rain hg)) (oG hg) rfl rfl (by decide) (Nat.le_of_ble_eq_true rfl) ?_
      refine b_aload_n (pc := 15) (i := 0) (dd dtX2_passMonths 9 rfl) rfl rfl ?_
      refine b_invV (pc := 16) (dd dtX2_passMonths 10 rfl) mlX2_99 mvX2_flow miX2_flow (c_X2_flow hg ((hM.rain hg).pump hg)) (oG hg) rfl rfl (by decide) (Nat.le_of_ble_eq_true rfl) ?_
      refine b_aload_n (pc := 19) (i := 0) (dd dtX2_passMonths 11 rfl) rfl rfl ?_
      refine b_invV (pc := 20) (dd dtX2_passMonths 12 rfl) mlX2_102 mvX2_letFall miX2_letFall (c_X2_letFall hg (((hM.rain hg).pump hg).flow hg)) (oG hg) rfl rfl (by decide) (Nat.le_of_ble_eq_true rfl) ?_
      refine b_aload_n (pc := 23) (i := 0) (dd dtX2_passMonths 13 rfl) rfl rfl ?_
      refine b_dup (pc := 24) (dd dtX2_passMonths 14 rfl) rfl ?_
      refine b_geti (pc := 25) (dd dtX2_passMonths 15 rfl) fwX2_9 (pG_0 hg) ?_
      refine b_ic1 (pc := 28) (dd dtX2_passMonths 16 rfl) ?_
      refine b_iadd (pc := 29) (dd dtX2_passMonths 17 rfl) ?_
      refine b_puti (pc := 30) (dd dtX2_passMonths 18 rfl) fwX2_9 (pG_0 hg) ?_
      refine b_iinc1 (pc := 33) (i := 2) (lv' := [(2, _), (0, _), (1, _)]) (dd dtX2_passMonths 19 rfl) rfl (Nat.le_of_ble_eq_true rfl) rfl ?_
      refine b_goto (pc := 36) (tgt := 2) (dd dtX2_passMonths 20 rfl) (by decide) ?_
      rw [nI_1]
      refine ih (h + 1) _ _ hlt (by omega) rfl ?_
      · rfl
set_option maxHeartbeats 4000000 in
theorem c_X2_passMonths {I : Wd} {g N P : Nat} (hg : isG g) (hF : FG g I N P) {n0 : Nat} (hn0 : n0 < 2 ^ 31) : Cal SyC mX2_passMonths 4 [.ref g, .int (nI n0)] I none (monthsW g N P I n0) := by
  refine Cal.of (by decide) (Nat.le_of_ble_eq_true rfl) ?_
  show Bd _ _ _ _ [(0, _), (1, _)] _ _ _ _
  refine b_ic0 (pc := 0) (dd dtX2_passMonths 0 rfl) ?_
  refine b_istore_n (pc := 1) (i := 2) (lv' := [(2, _), (0, _), (1, _)]) (dd dtX2_passMonths 1 rfl) rfl (Nat.le_of_ble_eq_true rfl) rfl ?_
  exact l_X2_passMonths hg hF hn0 (n0 + 1) 0 _ _ (Nat.zero_le _) (by omega) rfl rfl
/-- ground g as ground k is -/
def becomeW (g k : Nat) (I : Wd) : Wd :=
  rset (rset (rset (rset (rset (rset (rset (rset (rset (ist (ist (ist (ist I g 1 (I k 1)) g 2 (I k 2)) g 3 (I k 3)) g 4 (I k 4)) (g + 1) (fil (I (k + 1)) (I (g + 1)) 64)) (g + 2) (fil (I (k + 2)) (I (g + 2)) 64)) (g + 3) (fil (I (k + 3)) (I (g + 3)) 64)) (g + 4) (fil (I (k + 4)) (I (g + 4)) 64)) (g + 5) (fil (I (k + 5)) (I (g + 5)) 4)) (g + 6) (fil (I (k + 6)) (I (g + 6)) 4)) (g + 7) (fil (I (k + 7)) (I (g + 7)) 6)) (g + 8) (fil (I (k + 8)) (I (g + 8)) 14)) (g + 9) (fil (I (k + 9)) (I (g + 9)) 14)
theorem cpy_fil {a b : Nat → Int32} {n : Nat} : va_cpy a b 0 0 n = fil a b n := by
  funext i; unfold va_cpy fil; simp
def tX2_become : List (Nat × Instr × Nat) := [(0, .aload_n 0, 1), (1, .aload_n 1, 1), (2, .getfield 9, 3), (5, .putfield 9, 3), (8, .aload_n 0, 1), (9, .aload_n 1, 1), (10, .getfield 15, 3), (13, .putfield 15, 3), (16, .aload_n 0, 1), (17, .aload_n 1, 1), (18, .getfield 18, 3), (21, .putfield 18, 3), (24, .aload_n 0, 1), (25, .aload_n 1, 1), (26, .getfield 21, 3), (29, .putfield 21, 3), (32, .aload_n 1, 1), (33, .getfield 24, 3), (36, .iconst 0, 1), (37, .aload_n 0, 1), (38, .getfield 24, 3), (41, .iconst 0, 1), (42, .bipush 64, 2), (44, .invokestatic 63, 3), (47, .aload_n 1, 1), (48, .getfield 28, 3), (51, .iconst 0, 1), (52, .aload_n 0, 1), (53, .getfield 28, 3), (56, .iconst 0, 1), (57, .bipush 64, 2), (59, .invokestatic 63, 3), (62, .aload_n 1, 1), (63, .getfield 31, 3), (66, .iconst 0, 1), (67, .aload_n 0, 1), (68, .getfield 31, 3), (71, .iconst 0, 1), (72, .bipush 64, 2), (74, .invokestatic 63, 3), (77, .aload_n 1, 1), (78, .getfield 34, 3), (81, .iconst 0, 1), (82, .aload_n 0, 1), (83, .getfield 34, 3), (86, .iconst 0, 1), (87, .bipush 64, 2), (89, .invokestatic 63, 3), (92, .aload_n 1, 1), (93, .getfield 37, 3), (96, .iconst 0, 1), (97, .aload_n 0, 1), (98, .getfield 37, 3), (101, .iconst 0, 1), (102, .iconst 4, 1), (103, .invokestatic 63, 3), (106, .aload_n 1, 1), (107, .getfield 40, 3), (110, .iconst 0, 1), (111, .aload_n 0, 1), (112, .getfield 40, 3), (115, .iconst 0, 1), (116, .iconst 4, 1), (117, .invokestatic 63, 3), (120, .aload_n 1, 1), (121, .getfield 43, 3), (124, .iconst 0, 1), (125, .aload_n 0, 1), (126, .getfield 43, 3), (129, .iconst 0, 1), (130, .bipush 6, 2), (132, .invokestatic 63, 3), (135, .aload_n 1, 1), (136, .getfield 46, 3), (139, .iconst 0, 1), (140, .aload_n 0, 1), (141, .getfield 46, 3), (144, .iconst 0, 1), (145, .bipush 14, 2), (147, .invokestatic 63, 3), (150, .aload_n 1, 1), (151, .getfield 49, 3), (154, .iconst 0, 1), (155, .aload_n 0, 1), (156, .getfield 49, 3), (159, .iconst 0, 1), (160, .bipush 14, 2), (162, .invokestatic 63, 3), (165, .return_, 1)]
theorem dtX2_become : dec_ok mX2_become.2.1 tX2_become = true := by decide +kernel
set_option maxHeartbeats 4000000 in
theorem c_X2_become {I : Wd} {g k : Nat} (hg : isG g) (hk : isG k) (hgk : g ≠ k) (hz1 : ∀ i, i < 14 → fits .boolean (.int (I (k + 9) i)) = true) : Cal SyC mX2_become 1 [.ref g, .ref k] I none (becomeW g k I) := by
  have hx : (g = 6 ∧ (k = 18 ∨ k = 30)) ∨ (g = 18 ∧ (k = 6 ∨ k = 30)) ∨ (g = 30 ∧ (k = 6 ∨ k = 18)) := by unfold isG at hg hk; omega
  refine Cal.of (by decide) (Nat.le_of_ble_eq_true rfl) ?_
  show Bd _ _ _ _ [(0, _), (1, _)] _ _ _ _
  refine b_aload_n (pc := 0) (i := 0) (dd dtX2_become 0 rfl) rfl rfl ?_
  refine b_aload_n (pc := 1) (i := 1) (dd dtX2_become 1 rfl) rfl rfl ?_
  refine b_geti (pc := 2) (dd dtX2_become 2 rfl) fwX2_9 (pG_0 hk) ?_
  refine b_puti (pc := 5) (dd dtX2_become 3 rfl) fwX2_9 (pG_0 hg) ?_
  refine b_aload_n (pc := 8) (i := 0) (dd dtX2_become 4 rfl) rfl rfl ?_
  refine b_aload_n (pc := 9) (i := 1) (dd dtX2_become 5 rfl) rfl rfl ?_
  refine b_geti (pc := 10) (dd dtX2_become 6 rfl) fwX2_15 (pG_0 hk) ?_
  refine b_puti (pc := 13) (dd dtX2_become 7 rfl) fwX2_15 (pG_0 hg) ?_
  refine b_aload_n (pc := 16) (i := 0) (dd dtX2_become 8 rfl) rfl rfl ?_
  refine b_aload_n (pc := 17) (i := 1) (dd dtX2_become 9 rfl) rfl rfl ?_
  refine b_geti (pc := 18) (dd dtX2_become 10 rfl) fwX2_18 (pG_0 hk) ?_
  refine b_puti (pc := 21) (dd dtX2_become 11 rfl) fwX2_18 (pG_0 hg) ?_
  refine b_aload_n (pc := 24) (i := 0) (dd dtX2_become 12 rfl) rfl rfl ?_
  refine b_aload_n (pc := 25) (i := 1) (dd dtX2_become 13 rfl) rfl rfl ?_
  refine b_geti (pc := 26) (dd dtX2_become 14 rfl) fwX2_21 (pG_0 hk) ?_
  refine b_puti (pc := 29) (dd dtX2_become 15 rfl) fwX2_21 (pG_0 hg) ?_
  refine b_aload_n (pc := 32) (i := 1) (dd dtX2_become 16 rfl) rfl rfl ?_
  refine b_geta (pc := 33) (dd dtX2_become 17 rfl) fwX2_24 (pG_0 hk) (rG_5 hk) ?_
  refine b_ic0 (pc := 36) (dd dtX2_become 18 rfl) ?_
  refine b_aload_n (pc := 37) (i := 0) (dd dtX2_become 19 rfl) rfl rfl ?_
  refine b_geta (pc := 38) (dd dtX2_become 20 rfl) fwX2_24 (pG_0 hg) (rG_5 hg) ?_
  refine b_ic0 (pc := 41) (dd dtX2_become 21 rfl) ?_
  refine b_bipush (pc := 42) (v := 64) (dd dtX2_become 22 rfl) (by decide) ?_
  refine b_copyT (pc := 44) (Or.inl ⟨rfl, rfl⟩) (dd dtX2_become 23 rfl) wlX2_63 (pG_1 hk) (pG_1 hg) ⟨by decide, by decide, by decide, by decide, by decide, fun _ _ => rfl, Nat.le_of_ble_eq_true rfl⟩ ?_
  refine b_aload_n (pc := 47) (i := 1) (dd dtX2_become 24 rfl) rfl rfl ?_
  refine b_geta (pc := 48) (dd dtX2_become 25 rfl) fwX2_28 (pG_0 hk) (rG_6 hk) ?_
  refine b_ic0 (pc := 51) (dd dtX2_become 26 rfl) ?_
  refine b_aload_n (pc := 52) (i := 0) (dd dtX2_become 27 rfl) rfl rfl ?_
  refine b_geta (pc := 53) (dd dtX2_become 28 rfl) fwX2_28 (pG_0 hg) (rG_6 hg) ?_
  refine b_ic0 (pc := 56) (dd dtX2_become 29 rfl) ?_
  refine b_bipush (pc := 57) (v := 64) (dd dtX2_become 30 rfl) (by decide) ?_
  refine b_copyT (pc := 59) (Or.inl ⟨rfl, rfl⟩) (dd dtX2_become 31 rfl) wlX2_63 (pG_2 hk) (pG_2 hg) ⟨by decide, by decide, by decide, by decide, by decide, fun _ _ => rfl, Nat.le_of_ble_eq_true rfl⟩ ?_
  refine b_aload_n (pc := 62) (i := 1) (dd dtX2_become 32 rfl) rfl rfl ?_
  refine b_geta (pc := 63) (dd dtX2_become 33 rfl) fwX2_31 (pG_0 hk) (rG_7 hk) ?_
  refine b_ic0 (pc := 66) (dd dtX2_become 34 rfl) ?_
  refine b_aload_n (pc := 67) (i := 0) (dd dtX2_become 35 rfl) rfl rfl ?_
  refine b_geta (pc := 68) (dd dtX2_become 36 rfl) fwX2_31 (pG_0 hg) (rG_7 hg) ?_
  refine b_ic0 (pc := 71) (dd dtX2_become 37 rfl) ?_
  refine b_bipush (pc := 72) (v := 64) (dd dtX2_become 38 rfl) (by decide) ?_
  refine b_copyT (pc := 74) (Or.inl ⟨rfl, rfl⟩) (dd dtX2_become 39 rfl) wlX2_63 (pG_3 hk) (pG_3 hg) ⟨by decide, by decide, by decide, by decide, by decide, fun _ _ => rfl, Nat.le_of_ble_eq_true rfl⟩ ?_
  refine b_aload_n (pc := 77) (i := 1) (dd dtX2_become 40 rfl) rfl rfl ?_
  refine b_geta (pc := 78) (dd dtX2_become 41 rfl) fwX2_34 (pG_0 hk) (rG_8 hk) ?_
  refine b_ic0 (pc := 81) (dd dtX2_become 42 rfl) ?_
  refine b_aload_n (pc := 82) (i := 0) (dd dtX2_become 43 rfl) rfl rfl ?_
  refine b_geta (pc := 83) (dd dtX2_become 44 rfl) fwX2_34 (pG_0 hg) (rG_8 hg) ?_
  refine b_ic0 (pc := 86) (dd dtX2_become 45 rfl) ?_
  refine b_bipush (pc := 87) (v := 64) (dd dtX2_become 46 rfl) (by decide) ?_
  refine b_copyT (pc := 89) (Or.inl ⟨rfl, rfl⟩) (dd dtX2_become 47 rfl) wlX2_63 (pG_4 hk) (pG_4 hg) ⟨by decide, by decide, by decide, by decide, by decide, fun _ _ => rfl, Nat.le_of_ble_eq_true rfl⟩ ?_
  refine b_aload_n (pc := 92) (i := 1) (dd dtX2_become 48 rfl) rfl rfl ?_
  refine b_geta (pc := 93) (dd dtX2_become 49 rfl) fwX2_37 (pG_0 hk) (rG_9 hk) ?_
  refine b_ic0 (pc := 96) (dd dtX2_become 50 rfl) ?_
  refine b_aload_n (pc := 97) (i := 0) (dd dtX2_become 51 rfl) rfl rfl ?_
  refine b_geta (pc := 98) (dd dtX2_become 52 rfl) fwX2_37 (pG_0 hg) (rG_9 hg) ?_
  refine b_ic0 (pc := 101) (dd dtX2_become 53 rfl) ?_
  refine b_ic4 (pc := 102) (dd dtX2_become 54 rfl) ?_
  refine b_copyT (pc := 103) (Or.inl ⟨rfl, rfl⟩) (dd dtX2_become 55 rfl) wlX2_63 (pG_5 hk) (pG_5 hg) ⟨by decide, by decide, by decide, by decide, by decide, fun _ _ => rfl, Nat.le_of_ble_eq_true rfl⟩ ?_
  refine b_aload_n (pc := 106) (i := 1) (dd dtX2_become 56 rfl) rfl rfl ?_
  refine b_geta (pc := 107) (dd dtX2_become 57 rfl) fwX2_40 (pG_0 hk) (rG_10 hk) ?_
  refine b_ic0 (pc := 110) (dd dtX2_become 58 rfl) ?_
  refine b_aload_n (pc := 111) (i := 0) (dd dtX2_become 59 rfl) rfl rfl ?_
  refine b_geta (pc := 112) (dd dtX2_become 60 rfl) fwX2_40 (pG_0 hg) (rG_10 hg) ?_
  refine b_ic0 (pc := 115) (dd dtX2_become 61 rfl) ?_
  refine b_ic4 (pc := 116) (dd dtX2_become 62 rfl) ?_
  refine b_copyT (pc := 117) (Or.inl ⟨rfl, rfl⟩) (dd dtX2_become 63 rfl) wlX2_63 (pG_6 hk) (pG_6 hg) ⟨by decide, by decide, by decide, by decide, by decide, fun _ _ => rfl, Nat.le_of_ble_eq_true rfl⟩ ?_
  refine b_aload_n (pc := 120) (i := 1) (dd dtX2_become 64 rfl) rfl rfl ?_
  refine b_geta (pc := 121) (dd dtX2_become 65 rfl) fwX2_43 (pG_0 hk) (rG_11 hk) ?_
  refine b_ic0 (pc := 124) (dd dtX2_become 66 rfl) ?_
  refine b_aload_n (pc := 125) (i := 0) (dd dtX2_become 67 rfl) rfl rfl ?_
  refine b_geta (pc := 126) (dd dtX2_become 68 rfl) fwX2_43 (pG_0 hg) (rG_11 hg) ?_
  refine b_ic0 (pc := 129) (dd dtX2_become 69 rfl) ?_
  refine b_bipush (pc := 130) (v := 6) (dd dtX2_become 70 rfl) (by decide) ?_
  refine b_copyT (pc := 132) (Or.inl ⟨rfl, rfl⟩) (dd dtX2_become 71 rfl) wlX2_63 (pG_7 hk) (pG_7 hg) ⟨by decide, by decide, by decide, by decide, by decide, fun _ _ => rfl, Nat.le_of_ble_eq_true rfl⟩ ?_
  refine b_aload_n (pc := 135) (i := 1) (dd dtX2_become 72 rfl) rfl rfl ?_
  refine b_geta (pc := 136) (dd dtX2_become 73 rfl) fwX2_46 (pG_0 hk) (rG_12 hk) ?_
  refine b_ic0 (pc := 139) (dd dtX2_become 74 rfl) ?_
  refine b_aload_n (pc := 140) (i := 0) (dd dtX2_become 75 rfl) rfl rfl ?_
  refine b_geta (pc := 141) (dd dtX2_become 76 rfl) fwX2_46 (pG_0 hg) (rG_12 hg) ?_
  refine b_ic0 (pc := 144) (dd dtX2_become 77 rfl) ?_
  refine b_bipush (pc := 145) (v := 14) (dd dtX2_become 78 rfl) (by decide) ?_
  refine b_copyT (pc := 147) (Or.inl ⟨rfl, rfl⟩) (dd dtX2_become 79 rfl) wlX2_63 (pG_8 hk) (pG_8 hg) ⟨by decide, by decide, by decide, by decide, by decide, fun _ _ => rfl, Nat.le_of_ble_eq_true rfl⟩ ?_
  refine b_aload_n (pc := 150) (i := 1) (dd dtX2_become 80 rfl) rfl rfl ?_
  refine b_geta (pc := 151) (dd dtX2_become 81 rfl) fwX2_49 (pG_0 hk) (rG_13 hk) ?_
  refine b_ic0 (pc := 154) (dd dtX2_become 82 rfl) ?_
  refine b_aload_n (pc := 155) (i := 0) (dd dtX2_become 83 rfl) rfl rfl ?_
  refine b_geta (pc := 156) (dd dtX2_become 84 rfl) fwX2_49 (pG_0 hg) (rG_13 hg) ?_
  refine b_ic0 (pc := 159) (dd dtX2_become 85 rfl) ?_
  refine b_bipush (pc := 160) (v := 14) (dd dtX2_become 86 rfl) (by decide) ?_
  refine b_copyT (pc := 162) (Or.inr ⟨rfl, rfl⟩) (dd dtX2_become 87 rfl) wlX2_63 (pG_9 hk) (pG_9 hg) ⟨by decide, by decide, by decide, by decide, by decide, fun i hi => by (simp (disch := omega) only [rset_ne, ist_ne]; rw [show (0 : Int32).toNatClampNeg = 0 from rfl, Nat.zero_add]; exact hz1 i hi), Nat.le_of_ble_eq_true rfl⟩ ?_
  refine b_eq (b_vret (dd dtX2_become 88 rfl) rfl) ?_ ?_
  · rfl
  · unfold becomeW
    simp (disch := omega) only [rset_ne, ist_ne, show (0 : Int32).toNatClampNeg = 0 from rfl, show (64 : Int32).toNatClampNeg = 64 from rfl, show (4 : Int32).toNatClampNeg = 4 from rfl, show (6 : Int32).toNatClampNeg = 6 from rfl, show (14 : Int32).toNatClampNeg = 14 from rfl, cpy_fil, ist_eq, upd_ne]
end
section
theorem nI_rng2 {x lo m : Int32} (h : inR x lo m) (h0 : 0 ≤ lo.toInt) : ∃ j : Nat, x = nI j ∧ lo.toInt ≤ j ∧ (j : Int) ≤ m.toInt ∧ j < 2 ^ 31 ∧ x.toNatClampNeg = j := by
  obtain ⟨h1, h2⟩ := h
  rw [Int32.lt_iff_toInt_lt] at h1 h2
  have h3 : ¬ x < 0 := by rw [Int32.lt_iff_toInt_lt]; have e0 : (0 : Int32).toInt = 0 := rfl; omega
  obtain ⟨j, hj, e⟩ := nI_of h3
  refine ⟨j, e, ?_, ?_, hj, by rw [e]; exact nI_clamp hj⟩
  · rw [e, nI_toInt hj] at h1; omega
  · rw [e, nI_toInt hj] at h2; omega
theorem mon60 {n : Int32} (h : inR n 1 60) : n = nI n.toNatClampNeg ∧ n.toNatClampNeg < 2 ^ 31 := by
  obtain ⟨j, e, -, -, h3, h4⟩ := nI_rng2 h (by decide)
  rw [h4]; exact ⟨e, h3⟩
theorem c_pass {I : Wd} {g N P : Nat} (hg : isG g) (hF : FG g I N P) {n : Int32} (h : inR n 1 60) : Cal SyC mX2_passMonths 4 [.ref g, .int n] I none (monthsW g N P I n.toNatClampNeg) := by
  obtain ⟨j, e, -, -, h3, h4⟩ := nI_rng2 h (by decide)
  subst e
  rw [h4]
  exact c_X2_passMonths hg hF h3
theorem ist_ist {I : Wd} {k j : Nat} {a b : Int32} : ist (ist I k j a) k j b = ist I k j b := by
  unfold ist; rw [rset_rset, rset_eq]; congr 1; funext i; unfold upd; split <;> rfl
def vRun (month n new : Int32) : Int32 := if inR n 1 60 then (if ¬ 1200 - month < n then new else -4) else -2
abbrev okBeside (month np n p u what : Int32) : Prop := (inR n 1 60 ∧ inR p (-1) (np - 1)) ∧ inR u 0 50 ∧ inR what 0 2 ∧ ¬ 1200 - month < n
def besideW (N P : Nat) (I : Wd) (n p u : Int32) : Wd := monthsW 18 N P (if p < 0 then becomeW 18 6 I else ist (becomeW 18 6 I) 25 p.toNatClampNeg u) n.toNatClampNeg
def vBeside (month np n p u what f h m : Int32) : Int64 := if okBeside month np n p u what then (if what = 0 then f.toInt64 else if what = 1 then h.toInt64 else m.toInt64) else -4611686018427387904
theorem becomeW_fr {g k : Nat} {I : Wd} {a : Nat} (h : a < g ∨ g + 9 < a) : becomeW g k I a = I a := by
  unfold becomeW; simp (disch := omega) only [rset_ne, ist_ne]
def tX10_run : List (Nat × Instr × Nat) := [(0, .iload_n 1, 1), (1, .iconst 1, 1), (2, .bipush 60, 2), (4, .invokestatic 97, 3), (7, .ifCond .ne 6, 3), (10, .bipush (-2), 2), (12, .ireturn, 1), (13, .aload_n 0, 1), (14, .iload_n 1, 1), (15, .invokevirtual 144, 3), (18, .ifCond .ne 6, 3), (21, .bipush (-4), 2), (23, .ireturn, 1), (24, .aload_n 0, 1), (25, .getfield 21, 3), (28, .iload_n 1, 1), (29, .invokevirtual 147, 3), (32, .aload_n 0, 1), (33, .getfield 21, 3), (36, .getfield 150, 3), (39, .ireturn, 1)]
theorem dtX10_run : dec_ok mX10_run.2.1 tX10_run = true := by decide +kernel
set_option maxHeartbeats 4000000 in
theorem c_X10_run {I : Wd} {N P : Nat} (hF : FG 6 I N P) {n : Int32} : Cal SyC mX10_run 5 [.ref 0, .int n] I (some (.int (vRun (I 6 1) n (monthsW 6 N P I n.toNatClampNeg 6 1)))) (if inR n 1 60 ∧ ¬ 1200 - I 6 1 < n then monthsW 6 N P I n.toNatClampNeg else I) := by
  refine Cal.of (by decide) (Nat.le_of_ble_eq_true rfl) ?_
  show Bd _ _ _ _ [(0, _), (1, _)] _ _ _ _
  refine b_iload_n (pc := 0) (i := 1) (dd dtX10_run 0 rfl) rfl rfl ?_
  refine b_ic1 (pc := 1) (dd dtX10_run 1 rfl) ?_
  refine b_bipush (pc := 2) (v := 60) (dd dtX10_run 2 rfl) (by decide) ?_
  refine b_invS (pc := 4) (dd dtX10_run 3 rfl) mlX10_97 mvX10_within msX10_within (c_X10_within) rfl rfl (by decide) (Nat.le_of_ble_eq_true rfl) ?_
  refine b_ifb_ne (pc := 7) (tgt := 13) (dd dtX10_run 4 rfl) (by decide) (fun h7 => ?_) (fun h7 => ?_)
  · refine b_aload_n (pc := 13) (i := 0) (dd dtX10_run 7 rfl) rfl rfl ?_
    refine b_iload_n (pc := 14) (i := 1) (dd dtX10_run 8 rfl) rfl rfl ?_
    refine b_invV (pc := 15) (dd dtX10_run 9 rfl) mlX10_144 mvX10_monthsAreLeft miX10_monthsAreLeft (c_X10_monthsAreLeft) oC_0 rfl rfl (by decide) (Nat.le_of_ble_eq_true rfl) ?_
    refine b_ifn_ne (pc := 18) (tgt := 24) (dd dtX10_run 10 rfl) (by decide) (fun h18 => ?_) (fun h18 => ?_)
    · refine b_aload_n (pc := 24) (i := 0) (dd dtX10_run 13 rfl) rfl rfl ?_
      refine b_geta (pc := 25) (dd dtX10_run 14 rfl) fwX10_21 pC_0 rC_0_1 ?_
      refine b_iload_n (pc := 28) (i := 1) (dd dtX10_run 15 rfl) rfl rfl ?_
      refine b_invV (pc := 29) (dd dtX10_run 16 rfl) mlX10_147 mvX2_passMonths miX2_passMonths (c_pass (Or.inl rfl) hF h7) oC_6 rfl rfl (by decide) (Nat.le_of_ble_eq_true rfl) ?_
      refine b_aload_n (pc := 32) (i := 0) (dd dtX10_run 17 rfl) rfl rfl ?_
      refine b_geta (pc := 33) (dd dtX10_run 18 rfl) fwX10_21 pC_0 rC_0_1 ?_
      refine b_geti (pc := 36) (dd dtX10_run 19 rfl) fwX10_150 pC_6 ?_
      refine b_eq (b_iret (dd dtX10_run 20 rfl) rfl) ?_ ?_
      · simp [inR, vRun, -Int32.not_lt, -Int32.not_le, *]
      · simp [inR, vRun, -Int32.not_lt, -Int32.not_le, *]
    · refine b_bipush (pc := 21) (v := -4) (dd dtX10_run 11 rfl) (by decide) ?_
      refine b_eq (b_iret (dd dtX10_run 12 rfl) rfl) ?_ ?_
      · simp [inR, vRun, -Int32.not_lt, -Int32.not_le, *]
      · simp [inR, vRun, -Int32.not_lt, -Int32.not_le, *]
  · refine b_bipush (pc := 10) (v := -2) (dd dtX10_run 5 rfl) (by decide) ?_
    refine b_eq (b_iret (dd dtX10_run 6 rfl) rfl) ?_ ?_
    · simp [inR, vRun, -Int32.not_lt, -Int32.not_le, *]
    · simp [inR, vRun, -Int32.not_lt, -Int32.not_le, *]
def tX10_image : List (Nat × Instr × Nat) := [(0, .aload_n 0, 1), (1, .getfield 28, 3), (4, .aload_n 0, 1), (5, .getfield 21, 3), (8, .invokevirtual 324, 3), (11, .aload_n 0, 1), (12, .iconst 1, 1), (13, .putfield 31, 3), (16, .aload_n 0, 1), (17, .getfield 21, 3), (20, .getfield 150, 3), (23, .ireturn, 1)]
theorem dtX10_image : dec_ok mX10_image.2.1 tX10_image = true := by decide +kernel
set_option maxHeartbeats 4000000 in
theorem c_X10_image {I : Wd} (hz : ∀ i, i < 14 → fits .boolean (.int (I 15 i)) = true) : Cal SyC mX10_image 2 [.ref 0] I (some (.int (I 6 1))) (ist (becomeW 30 6 I) 0 4 1) := by
  refine Cal.of (by decide) (Nat.le_of_ble_eq_true rfl) ?_
  show Bd _ _ _ _ [(0, _)] _ _ _ _
  refine b_aload_n (pc := 0) (i := 0) (dd dtX10_image 0 rfl) rfl rfl ?_
  refine b_geta (pc := 1) (dd dtX10_image 1 rfl) fwX10_28 pC_0 rC_0_3 ?_
  refine b_aload_n (pc := 4) (i := 0) (dd dtX10_image 2 rfl) rfl rfl ?_
  refine b_geta (pc := 5) (dd dtX10_image 3 rfl) fwX10_21 pC_0 rC_0_1 ?_
  refine b_invV (pc := 8) (dd dtX10_image 4 rfl) mlX10_324 mvX2_become miX2_become (c_X2_become (Or.inr (Or.inr rfl)) (Or.inl rfl) (by decide) hz) oC_30 rfl rfl (by decide) (Nat.le_of_ble_eq_true rfl) ?_
  refine b_aload_n (pc := 11) (i := 0) (dd dtX10_image 5 rfl) rfl rfl ?_
  refine b_ic1 (pc := 12) (dd dtX10_image 6 rfl) ?_
  refine b_put1 (pc := 13) (dd dtX10_image 7 rfl) fwX10_31 pC_0 ?_
  refine b_aload_n (pc := 16) (i := 0) (dd dtX10_image 8 rfl) rfl rfl ?_
  refine b_geta (pc := 17) (dd dtX10_image 9 rfl) fwX10_21 pC_0 rC_0_1 ?_
  refine b_geti (pc := 20) (dd dtX10_image 10 rfl) fwX10_150 pC_6 ?_
  refine b_eq (b_iret (dd dtX10_image 11 rfl) rfl) ?_ ?_
  · simp (disch := omega) only [ist_ne, becomeW_fr]
  · rfl
def tX10_back : List (Nat × Instr × Nat) := [(0, .aload_n 0, 1), (1, .getfield 31, 3), (4, .ifCond .ne 6, 3), (7, .bipush (-3), 2), (9, .ireturn, 1), (10, .aload_n 0, 1), (11, .getfield 21, 3), (14, .aload_n 0, 1), (15, .getfield 28, 3), (18, .invokevirtual 324, 3), (21, .aload_n 0, 1), (22, .getfield 21, 3), (25, .getfield 150, 3), (28, .ireturn, 1)]
theorem dtX10_back : dec_ok mX10_back.2.1 tX10_back = true := by decide +kernel
set_option maxHeartbeats 4000000 in
theorem c_X10_back {I : Wd} (hz : ∀ i, i < 14 → fits .boolean (.int (I 39 i)) = true) : Cal SyC mX10_back 2 [.ref 0] I (some (.int (if I 0 4 = 0 then -3 else I 30 1))) (if I 0 4 = 0 then I else becomeW 6 30 I) := by
  refine Cal.of (by decide) (Nat.le_of_ble_eq_true rfl) ?_
  show Bd _ _ _ _ [(0, _)] _ _ _ _
  refine b_aload_n (pc := 0) (i := 0) (dd dtX10_back 0 rfl) rfl rfl ?_
  refine b_geti (pc := 1) (dd dtX10_back 1 rfl) fwX10_31 pC_0 ?_
  refine b_if_ne (pc := 4) (tgt := 10) (dd dtX10_back 2 rfl) (by decide) (fun h4 => ?_) (fun h4 => ?_)
  · refine b_aload_n (pc := 10) (i := 0) (dd dtX10_back 5 rfl) rfl rfl ?_
    refine b_geta (pc := 11) (dd dtX10_back 6 rfl) fwX10_21 pC_0 rC_0_1 ?_
    refine b_aload_n (pc := 14) (i := 0) (dd dtX10_back 7 rfl) rfl rfl ?_
    refine b_geta (pc := 15) (dd dtX10_back 8 rfl) fwX10_28 pC_0 rC_0_3 ?_
    refine b_invV (pc := 18) (dd dtX10_back 9 rfl) mlX10_324 mvX2_become miX2_become (c_X2_become (Or.inl rfl) (Or.inr (Or.inr rfl)) (by decide) hz) oC_6 rfl rfl (by decide) (Nat.le_of_ble_eq_true rfl) ?_
    refine b_aload_n (pc := 21) (i := 0) (dd dtX10_back 10 rfl) rfl rfl ?_
    refine b_geta (pc := 22) (dd dtX10_back 11 rfl) fwX10_21 pC_0 rC_0_1 ?_
    refine b_geti (pc := 25) (dd dtX10_back 12 rfl) fwX10_150 pC_6 ?_
    refine b_eq (b_iret (dd dtX10_back 13 rfl) rfl) ?_ ?_
    · simp [becomeW, rset_ne, ist_ne, ist_eq, upd_ne, upd_eq, *]
    · simp [*]
  · refine b_bipush (pc := 7) (v := -3) (dd dtX10_back 3 rfl) (by decide) ?_
    refine b_eq (b_iret (dd dtX10_back 4 rfl) rfl) ?_ ?_
    · simp [becomeW, rset_ne, ist_ne, ist_eq, upd_ne, upd_eq, *]
    · simp [*]
def tX10_beside : List (Nat × Instr × Nat) := [(0, .iload_n 1, 1), (1, .iconst 1, 1), (2, .bipush 60, 2), (4, .invokestatic 97, 3), (7, .ifCond .eq 20, 3), (10, .iload_n 2, 1), (11, .iconst (-1), 1), (12, .aload_n 0, 1), (13, .getfield 10, 3), (16, .getfield 118, 3), (19, .iconst 1, 1), (20, .isub, 1), (21, .invokestatic 97, 3), (24, .ifCond .ne 7, 3), (27, .ldc2_w 256, 3), (30, .lreturn, 1), (31, .iload_n 3, 1), (32, .iconst 0, 1), (33, .bipush 50, 2), (35, .invokestatic 97, 3), (38, .ifCond .eq 21, 3), (41, .iload 4, 2), (43, .iconst 0, 1), (44, .iconst 2, 1), (45, .invokestatic 97, 3), (48, .ifCond .eq 11, 3), (51, .aload_n 0, 1), (52, .iload_n 1, 1), (53, .invokevirtual 144, 3), (56, .ifCond .ne 7, 3), (59, .ldc2_w 256, 3), (62, .lreturn, 1), (63, .aload_n 0, 1), (64, .getfield 25, 3), (67, .aload_n 0, 1), (68, .getfield 21, 3), (71, .invokevirtual 324, 3), (74, .iload_n 2, 1), (75, .ifCond .lt 13, 3), (78, .aload_n 0, 1), (79, .getfield 25, 3), (82, .getfield 125, 3), (85, .iload_n 2, 1), (86, .iload_n 3, 1), (87, .iastore, 1), (88, .aload_n 0, 1), (89, .getfield 25, 3), (92, .iload_n 1, 1), (93, .invokevirtual 147, 3), (96, .iload 4, 2), (98, .lookupswitch 60 #[(0, 26), (1, 43)], 26), (124, .aload_n 0, 1), (125, .getfield 25, 3), (128, .getfield 328, 3), (131, .aload_n 0, 1), (132, .getfield 21, 3), (135, .getfield 328, 3), (138, .isub, 1), (139, .i2l, 1), (140, .lreturn, 1), (141, .aload_n 0, 1), (142, .getfield 25, 3), (145, .getfield 331, 3), (148, .aload_n 0, 1), (149, .getfield 21, 3), (152, .getfield 331, 3), (155, .isub, 1), (156, .i2l, 1), (157, .lreturn, 1), (158, .aload_n 0, 1), (159, .getfield 25, 3), (162, .getfield 150, 3), (165, .i2l, 1), (166, .lreturn, 1)]
theorem dtX10_beside : dec_ok mX10_beside.2.1 tX10_beside = true := by decide +kernel
theorem inR_p {p : Int32} {I : Wd} {P : Nat} (h : inR p (-1) (I 1 1 - 1)) (h0 : ¬ p < 0) (hP : I 1 1 = nI P) (hP2 : P ≤ 6) : ∃ j : Nat, p = nI j ∧ j < P ∧ p.toNatClampNeg = j := by
  rw [hP] at h
  exact inR_n ⟨h0, h.2⟩ (by omega)
theorem FG.bes {I : Wd} {N P : Nat} (hF : FG 6 I N P) : FG 18 (becomeW 18 6 I) N P := by
  obtain ⟨h1, h2, h3, h4⟩ := hF
  refine ⟨?_, ?_, fun c hc => ?_, fun p hp => ?_⟩
  · rw [becomeW_fr (by omega)]; exact h1
  · rw [becomeW_fr (by omega)]; exact h2
  · have e : becomeW 18 6 I (18 + 1) = fil (I 7) (I 19) 64 := by unfold becomeW; simp (disch := omega) only [rset_ne, rset_eq]
    rw [e, fil_in hc]; exact h3 c hc
  · rw [becomeW_fr (by omega)]; exact h4 p hp
set_option maxHeartbeats 4000000 in
theorem c_X10_beside {I : Wd} {N P : Nat} (hF : FG 6 I N P) (hz : ∀ i, i < 14 → fits .boolean (.int (I 15 i)) = true) {n p u what : Int32} : Cal SyC mX10_beside 5 [.ref 0, .int n, .int p, .int u, .int what] I (some (.long (vBeside (I 6 1) (I 1 1) n p u what (besideW N P I n p u 18 3 - I 6 3) (besideW N P I n p u 18 4 - I 6 4) (besideW N P I n p u 18 1)))) (if okBeside (I 6 1) (I 1 1) n p u what then besideW N P I n p u else I) := by
  refine Cal.of (by decide) (Nat.le_of_ble_eq_true rfl) ?_
  show Bd _ _ _ _ [(0, _), (1, _), (2, _), (3, _), (4, _)] _ _ _ _
  refine b_iload_n (pc := 0) (i := 1) (dd dtX10_beside 0 rfl) rfl rfl ?_
  refine b_ic1 (pc := 1) (dd dtX10_beside 1 rfl) ?_
  refine b_bipush (pc := 2) (v := 60) (dd dtX10_beside 2 rfl) (by decide) ?_
  refine b_invS (pc := 4) (dd dtX10_beside 3 rfl) mlX10_97 mvX10_within msX10_within (c_X10_within) rfl rfl (by decide) (Nat.le_of_ble_eq_true rfl) ?_
  refine b_ifb_eq (pc := 7) (tgt := 27) (dd dtX10_beside 4 rfl) (by decide) (fun h7 => ?_) (fun h7 => ?_)
  · refine b_ldc2 (pc := 27) (dd dtX10_beside 14 rfl) kcX10_256 ?_
    refine b_eq (b_lret (dd dtX10_beside 15 rfl) rfl) ?_ ?_
    · simp [vBeside, okBeside, inR, besideW, -Int32.not_lt, -Int32.not_le, monthsW_fr, ist_ne, becomeW_fr, *]
    · simp [okBeside, inR, besideW, -Int32.not_lt, -Int32.not_le, *]
  · refine b_iload_n (pc := 10) (i := 2) (dd dtX10_beside 5 rfl) rfl rfl ?_
    refine b_icm1 (pc := 11) (dd dtX10_beside 6 rfl) ?_
    refine b_aload_n (pc := 12) (i := 0) (dd dtX10_beside 7 rfl) rfl rfl ?_
    refine b_geta (pc := 13) (dd dtX10_beside 8 rfl) fwX10_10 pC_0 rC_0_0 ?_
    refine b_geti (pc := 16) (dd dtX10_beside 9 rfl) fwX10_118 pC_1 ?_
    refine b_ic1 (pc := 19) (dd dtX10_beside 10 rfl) ?_
    refine b_isub (pc := 20) (dd dtX10_beside 11 rfl) ?_
    refine b_invS (pc := 21) (dd dtX10_beside 12 rfl) mlX10_97 mvX10_within msX10_within (c_X10_within) rfl rfl (by decide) (Nat.le_of_ble_eq_true rfl) ?_
    refine b_ifb_ne (pc := 24) (tgt := 31) (dd dtX10_beside 13 rfl) (by decide) (fun h24 => ?_) (fun h24 => ?_)
    · refine b_iload_n (pc := 31) (i := 3) (dd dtX10_beside 16 rfl) rfl rfl ?_
      refine b_ic0 (pc := 32) (dd dtX10_beside 17 rfl) ?_
      refine b_bipush (pc := 33) (v := 50) (dd dtX10_beside 18 rfl) (by decide) ?_
      refine b_invS (pc := 35) (dd dtX10_beside 19 rfl) mlX10_97 mvX10_within msX10_within (c_X10_within) rfl rfl (by decide) (Nat.le_of_ble_eq_true rfl) ?_
      refine b_ifb_eq (pc := 38) (tgt := 59) (dd dtX10_beside 20 rfl) (by decide) (fun h38 => ?_) (fun h38 => ?_)
      · refine b_ldc2 (pc := 59) (dd dtX10_beside 30 rfl) kcX10_256 ?_
        refine b_eq (b_lret (dd dtX10_beside 31 rfl) rfl) ?_ ?_
        · simp [vBeside, okBeside, inR, besideW, -Int32.not_lt, -Int32.not_le, monthsW_fr, ist_ne, becomeW_fr, *]
        · simp [okBeside, inR, besideW, -Int32.not_lt, -Int32.not_le, *]
      · refine b_iload (pc := 41) (i := 4) (dd dtX10_beside 21 rfl) rfl ?_
        refine b_ic0 (pc := 43) (dd dtX10_beside 22 rfl) ?_
        refine b_ic2 (pc := 44) (dd dtX10_beside 23 rfl) ?_
        refine b_invS (pc := 45) (dd dtX10_beside 24 rfl) mlX10_97 mvX10_within msX10_within (c_X10_within) rfl rfl (by decide) (Nat.le_of_ble_eq_true rfl) ?_
        refine b_ifb_eq (pc := 48) (tgt := 59) (dd dtX10_beside 25 rfl) (by decide) (fun h48 => ?_) (fun h48 => ?_)
        · refine b_ldc2 (pc := 59) (dd dtX10_beside 30 rfl) kcX10_256 ?_
          refine b_eq (b_lret (dd dtX10_beside 31 rfl) rfl) ?_ ?_
          · simp [vBeside, okBeside, inR, besideW, -Int32.not_lt, -Int32.not_le, monthsW_fr, ist_ne, becomeW_fr, *]
          · simp [okBeside, inR, besideW, -Int32.not_lt, -Int32.not_le, *]
        · refine b_aload_n (pc := 51) (i := 0) (dd dtX10_beside 26 rfl) rfl rfl ?_
          refine b_iload_n (pc := 52) (i := 1) (dd dtX10_beside 27 rfl) rfl rfl ?_
          refine b_invV (pc := 53) (dd dtX10_beside 28 rfl) mlX10_144 mvX10_monthsAreLeft miX10_monthsAreLeft (c_X10_monthsAreLeft) oC_0 rfl rfl (by decide) (Nat.le_of_ble_eq_true rfl) ?_
          refine b_ifn_ne (pc := 56) (tgt := 63) (dd dtX10_beside 29 rfl) (by decide) (fun h56 => ?_) (fun h56 => ?_)
          · refine b_aload_n (pc := 63) (i := 0) (dd dtX10_beside 32 rfl) rfl rfl ?_
            refine b_geta (pc := 64) (dd dtX10_beside 33 rfl) fwX10_25 pC_0 rC_0_2 ?_
            refine b_aload_n (pc := 67) (i := 0) (dd dtX10_beside 34 rfl) rfl rfl ?_
            refine b_geta (pc := 68) (dd dtX10_beside 35 rfl) fwX10_21 pC_0 rC_0_1 ?_
            refine b_invV (pc := 71) (dd dtX10_beside 36 rfl) mlX10_324 mvX2_become miX2_become (c_X2_become (Or.inr (Or.inl rfl)) (Or.inl rfl) (by decide) hz) oC_18 rfl rfl (by decide) (Nat.le_of_ble_eq_true rfl) ?_
            refine b_iload_n (pc := 74) (i := 2) (dd dtX10_beside 37 rfl) rfl rfl ?_
            refine b_if_lt (pc := 75) (tgt := 88) (dd dtX10_beside 38 rfl) (by decide) (fun h75 => ?_) (fun h75 => ?_)
            · refine b_aload_n (pc := 88) (i := 0) (dd dtX10_beside 45 rfl) rfl rfl ?_
              refine b_geta (pc := 89) (dd dtX10_beside 46 rfl) fwX10_25 pC_0 rC_0_2 ?_
              refine b_iload_n (pc := 92) (i := 1) (dd dtX10_beside 47 rfl) rfl rfl ?_
              refine b_invV (pc := 93) (dd dtX10_beside 48 rfl) mlX10_147 mvX2_passMonths miX2_passMonths (c_pass (Or.inr (Or.inl rfl)) (by first | exact FG.bes hF | exact (FG.bes hF).of (by simp (disch := omega) only [ist_ne]) (by simp (disch := omega) only [ist_ne]) (by simp (disch := omega) only [ist_ne])) h7) oC_18 rfl rfl (by decide) (Nat.le_of_ble_eq_true rfl) ?_
              refine b_iload (pc := 96) (i := 4) (dd dtX10_beside 49 rfl) rfl ?_
              refine b_lsw (pc := 98) (ts := [(0, 124), (1, 141)]) (dfl := 158) (dd dtX10_beside 50 rfl) (by decide +kernel) ⟨fun h98 => ?_, fun h98_0 => ⟨fun h98 => ?_, fun h98_1 => ?_⟩⟩
              · refine b_aload_n (pc := 124) (i := 0) (dd dtX10_beside 51 rfl) rfl rfl ?_
                refine b_geta (pc := 125) (dd dtX10_beside 52 rfl) fwX10_25 pC_0 rC_0_2 ?_
                refine b_geti (pc := 128) (dd dtX10_beside 53 rfl) fwX10_328 pC_18 ?_
                refine b_aload_n (pc := 131) (i := 0) (dd dtX10_beside 54 rfl) rfl rfl ?_
                refine b_geta (pc := 132) (dd dtX10_beside 55 rfl) fwX10_21 pC_0 rC_0_1 ?_
                refine b_geti (pc := 135) (dd dtX10_beside 56 rfl) fwX10_328 pC_6 ?_
                refine b_isub (pc := 138) (dd dtX10_beside 57 rfl) ?_
                refine b_i2l (pc := 139) (dd dtX10_beside 58 rfl) ?_
                refine b_eq (b_lret (dd dtX10_beside 59 rfl) rfl) ?_ ?_
                · simp [vBeside, okBeside, inR, besideW, -Int32.not_lt, -Int32.not_le, monthsW_fr, ist_ne, becomeW_fr, *]
                · simp [okBeside, inR, besideW, -Int32.not_lt, -Int32.not_le, *]
              · refine b_aload_n (pc := 141) (i := 0) (dd dtX10_beside 60 rfl) rfl rfl ?_
                refine b_geta (pc := 142) (dd dtX10_beside 61 rfl) fwX10_25 pC_0 rC_0_2 ?_
                refine b_geti (pc := 145) (dd dtX10_beside 62 rfl) fwX10_331 pC_18 ?_
                refine b_aload_n (pc := 148) (i := 0) (dd dtX10_beside 63 rfl) rfl rfl ?_
                refine b_geta (pc := 149) (dd dtX10_beside 64 rfl) fwX10_21 pC_0 rC_0_1 ?_
                refine b_geti (pc := 152) (dd dtX10_beside 65 rfl) fwX10_331 pC_6 ?_
                refine b_isub (pc := 155) (dd dtX10_beside 66 rfl) ?_
                refine b_i2l (pc := 156) (dd dtX10_beside 67 rfl) ?_
                refine b_eq (b_lret (dd dtX10_beside 68 rfl) rfl) ?_ ?_
                · simp [vBeside, okBeside, inR, besideW, -Int32.not_lt, -Int32.not_le, monthsW_fr, ist_ne, becomeW_fr, *]
                · simp [okBeside, inR, besideW, -Int32.not_lt, -Int32.not_le, *]
              · refine b_aload_n (pc := 158) (i := 0) (dd dtX10_beside 69 rfl) rfl rfl ?_
                refine b_geta (pc := 159) (dd dtX10_beside 70 rfl) fwX10_25 pC_0 rC_0_2 ?_
                refine b_geti (pc := 162) (dd dtX10_beside 71 rfl) fwX10_150 pC_18 ?_
                refine b_i2l (pc := 165) (dd dtX10_beside 72 rfl) ?_
                refine b_eq (b_lret (dd dtX10_beside 73 rfl) rfl) ?_ ?_
                · simp [vBeside, okBeside, inR, besideW, -Int32.not_lt, -Int32.not_le, monthsW_fr, ist_ne, becomeW_fr, *]
                · simp [okBeside, inR, besideW, -Int32.not_lt, -Int32.not_le, *]
            · obtain ⟨j, ej, hj1, hj2⟩ := inR_p (P := P) h24 h75 hF.2.1.1 hF.2.1.2
              have hP6 := hF.2.1.2
              have hp6 : vp_in p 6 := vpn ej (by omega) (by decide)
              clear ej hj2
              refine b_aload_n (pc := 78) (i := 0) (dd dtX10_beside 39 rfl) rfl rfl ?_
              refine b_geta (pc := 79) (dd dtX10_beside 40 rfl) fwX10_25 pC_0 rC_0_2 ?_
              refine b_geta (pc := 82) (dd dtX10_beside 41 rfl) fwX10_125 pC_18 rC_18_11 ?_
              refine b_iload_n (pc := 85) (i := 2) (dd dtX10_beside 42 rfl) rfl rfl ?_
              refine b_iload_n (pc := 86) (i := 3) (dd dtX10_beside 43 rfl) rfl rfl ?_
              refine b_iast (pc := 87) (dd dtX10_beside 44 rfl) pC_25 (hp6) ?_
              refine b_aload_n (pc := 88) (i := 0) (dd dtX10_beside 45 rfl) rfl rfl ?_
              refine b_geta (pc := 89) (dd dtX10_beside 46 rfl) fwX10_25 pC_0 rC_0_2 ?_
              refine b_iload_n (pc := 92) (i := 1) (dd dtX10_beside 47 rfl) rfl rfl ?_
              refine b_invV (pc := 93) (dd dtX10_beside 48 rfl) mlX10_147 mvX2_passMonths miX2_passMonths (c_pass (Or.inr (Or.inl rfl)) (by first | exact FG.bes hF | exact (FG.bes hF).of (by simp (disch := omega) only [ist_ne]) (by simp (disch := omega) only [ist_ne]) (by simp (disch := omega) only [ist_ne])) h7) oC_18 rfl rfl (by decide) (Nat.le_of_ble_eq_true rfl) ?_
              refine b_iload (pc := 96) (i := 4) (dd dtX10_beside 49 rfl) rfl ?_
              refine b_lsw (pc := 98) (ts := [(0, 124), (1, 141)]) (dfl := 158) (dd dtX10_beside 50 rfl) (by decide +kernel) ⟨fun h98 => ?_, fun h98_0 => ⟨fun h98 => ?_, fun h98_1 => ?_⟩⟩
              · refine b_aload_n (pc := 124) (i := 0) (dd dtX10_beside 51 rfl) rfl rfl ?_
                refine b_geta (pc := 125) (dd dtX10_beside 52 rfl) fwX10_25 pC_0 rC_0_2 ?_
                refine b_geti (pc := 128) (dd dtX10_beside 53 rfl) fwX10_328 pC_18 ?_
                refine b_aload_n (pc := 131) (i := 0) (dd dtX10_beside 54 rfl) rfl rfl ?_
                refine b_geta (pc := 132) (dd dtX10_beside 55 rfl) fwX10_21 pC_0 rC_0_1 ?_
                refine b_geti (pc := 135) (dd dtX10_beside 56 rfl) fwX10_328 pC_6 ?_
                refine b_isub (pc := 138) (dd dtX10_beside 57 rfl) ?_
                refine b_i2l (pc := 139) (dd dtX10_beside 58 rfl) ?_
                refine b_eq (b_lret (dd dtX10_beside 59 rfl) rfl) ?_ ?_
                · simp [vBeside, okBeside, inR, besideW, -Int32.not_lt, -Int32.not_le, monthsW_fr, ist_ne, becomeW_fr, *]
                · simp [okBeside, inR, besideW, -Int32.not_lt, -Int32.not_le, *]
              · refine b_aload_n (pc := 141) (i := 0) (dd dtX10_beside 60 rfl) rfl rfl ?_
                refine b_geta (pc := 142) (dd dtX10_beside 61 rfl) fwX10_25 pC_0 rC_0_2 ?_
                refine b_geti (pc := 145) (dd dtX10_beside 62 rfl) fwX10_331 pC_18 ?_
                refine b_aload_n (pc := 148) (i := 0) (dd dtX10_beside 63 rfl) rfl rfl ?_
                refine b_geta (pc := 149) (dd dtX10_beside 64 rfl) fwX10_21 pC_0 rC_0_1 ?_
                refine b_geti (pc := 152) (dd dtX10_beside 65 rfl) fwX10_331 pC_6 ?_
                refine b_isub (pc := 155) (dd dtX10_beside 66 rfl) ?_
                refine b_i2l (pc := 156) (dd dtX10_beside 67 rfl) ?_
                refine b_eq (b_lret (dd dtX10_beside 68 rfl) rfl) ?_ ?_
                · simp [vBeside, okBeside, inR, besideW, -Int32.not_lt, -Int32.not_le, monthsW_fr, ist_ne, becomeW_fr, *]
                · simp [okBeside, inR, besideW, -Int32.not_lt, -Int32.not_le, *]
              · refine b_aload_n (pc := 158) (i := 0) (dd dtX10_beside 69 rfl) rfl rfl ?_
                refine b_geta (pc := 159) (dd dtX10_beside 70 rfl) fwX10_25 pC_0 rC_0_2 ?_
                refine b_geti (pc := 162) (dd dtX10_beside 71 rfl) fwX10_150 pC_18 ?_
                refine b_i2l (pc := 165) (dd dtX10_beside 72 rfl) ?_
                refine b_eq (b_lret (dd dtX10_beside 73 rfl) rfl) ?_ ?_
                · simp [vBeside, okBeside, inR, besideW, -Int32.not_lt, -Int32.not_le, monthsW_fr, ist_ne, becomeW_fr, *]
                · simp [okBeside, inR, besideW, -Int32.not_lt, -Int32.not_le, *]
          · refine b_ldc2 (pc := 59) (dd dtX10_beside 30 rfl) kcX10_256 ?_
            refine b_eq (b_lret (dd dtX10_beside 31 rfl) rfl) ?_ ?_
            · simp [vBeside, okBeside, inR, besideW, -Int32.not_lt, -Int32.not_le, monthsW_fr, ist_ne, becomeW_fr, *]
            · simp [okBeside, inR, besideW, -Int32.not_lt, -Int32.not_le, *]
    · refine b_ldc2 (pc := 27) (dd dtX10_beside 14 rfl) kcX10_256 ?_
      refine b_eq (b_lret (dd dtX10_beside 15 rfl) rfl) ?_ ?_
      · simp [vBeside, okBeside, inR, besideW, -Int32.not_lt, -Int32.not_le, monthsW_fr, ist_ne, becomeW_fr, *]
      · simp [okBeside, inR, besideW, -Int32.not_lt, -Int32.not_le, *]
end
section
/-! warnings, chances -/
abbrev cT (fell wc wm : Nat → Int32) (m : Int32) (w : Nat) : Prop := ¬ fell (wc w).toNatClampNeg < 0 ∧ inR (fell (wc w).toNatClampNeg) (wm w) (wm w + m)
def sTw (fell wc wm : Nat → Int32) (m : Int32) : Nat → Int32
  | 0 => 0
  | n + 1 => sTw fell wc wm m n + (if cT fell wc wm m n then 1 else 0)
def sOw (fell wc wm : Nat → Int32) (month m : Int32) : Nat → Int32
  | 0 => 0
  | n + 1 => sOw fell wc wm month m n + (if m < month - wm n ∧ ¬ cT fell wc wm m n then 1 else 0)
def sMs (fell wc wm : Nat → Int32) (m : Int32) : Nat → Int64
  | 0 => 0
  | n + 1 => if cT fell wc wm m n then sMs fell wc wm m n ||| ((1 : Int64) <<< ((wc n).toInt64 &&& 63)) else sMs fell wc wm m n
def sGcd : Nat → Int32 → Int32 → Int32
  | 0, a, _ => a
  | n + 1, a, b => if 0 < b then sGcd n b (a - a / b * b) else a
def vOften (f mo : Nat → Int32) (r part : Int32) : Int64 := if inR r 0 3 ∧ inR part 0 1 then (if sGcd 100 (f r.toNatClampNeg) (mo r.toNatClampNeg) = 0 then part.toInt64 else if part = 0 then (f r.toNatClampNeg / sGcd 100 (f r.toNatClampNeg) (mo r.toNatClampNeg)).toInt64 else (mo r.toNatClampNeg / sGcd 100 (f r.toNatClampNeg) (mo r.toNatClampNeg)).toInt64) else -4611686018427387904
def tX10_cameTrue : List (Nat × Instr × Nat) := [(0, .aload_n 0, 1), (1, .getfield 21, 3), (4, .getfield 318, 3), (7, .aload_n 0, 1), (8, .getfield 51, 3), (11, .getfield 385, 3), (14, .iload_n 1, 1), (15, .iaload, 1), (16, .iaload, 1), (17, .istore_n 3, 1), (18, .aload_n 0, 1), (19, .getfield 51, 3), (22, .getfield 372, 3), (25, .iload_n 1, 1), (26, .iaload, 1), (27, .istore 4, 2), (29, .iload_n 3, 1), (30, .ifCond .lt 20, 3), (33, .iload_n 3, 1), (34, .iload 4, 2), (36, .iload 4, 2), (38, .iload_n 2, 1), (39, .iadd, 1), (40, .invokestatic 97, 3), (43, .ifCond .eq 7, 3), (46, .iconst 1, 1), (47, .goto 4, 3), (50, .iconst 0, 1), (51, .ireturn, 1)]
theorem dtX10_cameTrue : dec_ok mX10_cameTrue.2.1 tX10_cameTrue = true := by decide +kernel
set_option maxHeartbeats 4000000 in
theorem c_X10_cameTrue {I : Wd} {w m : Int32} (hw : vp_in w 30) (hc : vp_in (I 54 w.toNatClampNeg) 64) : Cal SyC mX10_cameTrue 1 [.ref 0, .int w, .int m] I (some (.int (bi (cT (I 10) (I 54) (I 56) m w.toNatClampNeg)))) I := by
  refine Cal.of (by decide) (Nat.le_of_ble_eq_true rfl) ?_
  show Bd _ _ _ _ [(0, _), (1, _), (2, _)] _ _ _ _
  refine b_aload_n (pc := 0) (i := 0) (dd dtX10_cameTrue 0 rfl) rfl rfl ?_
  refine b_geta (pc := 1) (dd dtX10_cameTrue 1 rfl) fwX10_21 pC_0 rC_0_1 ?_
  refine b_geta (pc := 4) (dd dtX10_cameTrue 2 rfl) fwX10_318 pC_6 rC_6_8 ?_
  refine b_aload_n (pc := 7) (i := 0) (dd dtX10_cameTrue 3 rfl) rfl rfl ?_
  refine b_geta (pc := 8) (dd dtX10_cameTrue 4 rfl) fwX10_51 pC_0 rC_0_7 ?_
  refine b_geta (pc := 11) (dd dtX10_cameTrue 5 rfl) fwX10_385 pC_53 rC_53_1 ?_
  refine b_iload_n (pc := 14) (i := 1) (dd dtX10_cameTrue 6 rfl) rfl rfl ?_
  refine b_iald (pc := 15) (dd dtX10_cameTrue 7 rfl) pC_54 (hw) ?_
  refine b_iald (pc := 16) (dd dtX10_cameTrue 8 rfl) pC_10 (hc) ?_
  refine b_istore_n (pc := 17) (i := 3) (lv' := [(3, _), (0, _), (1, _), (2, _)]) (dd dtX10_cameTrue 9 rfl) rfl (Nat.le_of_ble_eq_true rfl) rfl ?_
  refine b_aload_n (pc := 18) (i := 0) (dd dtX10_cameTrue 10 rfl) rfl rfl ?_
  refine b_geta (pc := 19) (dd dtX10_cameTrue 11 rfl) fwX10_51 pC_0 rC_0_7 ?_
  refine b_geta (pc := 22) (dd dtX10_cameTrue 12 rfl) fwX10_372 pC_53 rC_53_3 ?_
  refine b_iload_n (pc := 25) (i := 1) (dd dtX10_cameTrue 13 rfl) rfl rfl ?_
  refine b_iald (pc := 26) (dd dtX10_cameTrue 14 rfl) pC_56 (hw) ?_
  refine b_istore (pc := 27) (i := 4) (lv' := [(4, _), (3, _), (0, _), (1, _), (2, _)]) (dd dtX10_cameTrue 15 rfl) (Nat.le_of_ble_eq_true rfl) rfl ?_
  refine b_iload_n (pc := 29) (i := 3) (dd dtX10_cameTrue 16 rfl) rfl rfl ?_
  refine b_if_lt (pc := 30) (tgt := 50) (dd dtX10_cameTrue 17 rfl) (by decide) (fun h30 => ?_) (fun h30 => ?_)
  · refine b_ic0 (pc := 50) (dd dtX10_cameTrue 27 rfl) ?_
    refine b_eq (b_zret (dd dtX10_cameTrue 28 rfl) rfl (by first | rfl | exact nar_bi)) ?_ ?_
    · simp [bi, cT, inR, -Int32.not_lt, -Int32.not_le, *]
    · rfl
  · refine b_iload_n (pc := 33) (i := 3) (dd dtX10_cameTrue 18 rfl) rfl rfl ?_
    refine b_iload (pc := 34) (i := 4) (dd dtX10_cameTrue 19 rfl) rfl ?_
    refine b_iload (pc := 36) (i := 4) (dd dtX10_cameTrue 20 rfl) rfl ?_
    refine b_iload_n (pc := 38) (i := 2) (dd dtX10_cameTrue 21 rfl) rfl rfl ?_
    refine b_iadd (pc := 39) (dd dtX10_cameTrue 22 rfl) ?_
    refine b_invS (pc := 40) (dd dtX10_cameTrue 23 rfl) mlX10_97 mvX10_within msX10_within (c_X10_within) rfl rfl (by decide) (Nat.le_of_ble_eq_true rfl) ?_
    refine b_ifb_eq (pc := 43) (tgt := 50) (dd dtX10_cameTrue 24 rfl) (by decide) (fun h43 => ?_) (fun h43 => ?_)
    · refine b_ic0 (pc := 50) (dd dtX10_cameTrue 27 rfl) ?_
      refine b_eq (b_zret (dd dtX10_cameTrue 28 rfl) rfl (by first | rfl | exact nar_bi)) ?_ ?_
      · simp [bi, cT, inR, -Int32.not_lt, -Int32.not_le, *]
      · rfl
    · refine b_ic1 (pc := 46) (dd dtX10_cameTrue 25 rfl) ?_
      refine b_goto (pc := 47) (tgt := 51) (dd dtX10_cameTrue 26 rfl) (by decide) ?_
      refine b_eq (b_zret (dd dtX10_cameTrue 28 rfl) rfl (by first | rfl | exact nar_bi)) ?_ ?_
      · simp [bi, cT, inR, -Int32.not_lt, -Int32.not_le, *]
      · rfl
def tX10_trueWarnings : List (Nat × Instr × Nat) := [(0, .iconst 0, 1), (1, .istore_n 2, 1), (2, .iconst 0, 1), (3, .istore_n 3, 1), (4, .iload_n 3, 1), (5, .aload_n 0, 1), (6, .getfield 51, 3), (9, .getfield 346, 3), (12, .if_icmp .ge 26, 3), (15, .iload_n 2, 1), (16, .aload_n 0, 1), (17, .iload_n 3, 1), (18, .iload_n 1, 1), (19, .invokevirtual 386, 3), (22, .ifCond .eq 7, 3), (25, .iconst 1, 1), (26, .goto 4, 3), (29, .iconst 0, 1), (30, .iadd, 1), (31, .istore_n 2, 1), (32, .iinc 3 1, 3), (35, .goto (-31), 3), (38, .iload_n 2, 1), (39, .ireturn, 1)]
theorem dtX10_trueWarnings : dec_ok mX10_trueWarnings.2.1 tX10_trueWarnings = true := by decide +kernel
set_option maxHeartbeats 4000000 in
theorem l_X10_trueWarnings {I : Wd} {Wn : Nat} {m : Int32} (hW : I 53 0 = nI Wn) (hW2 : Wn ≤ 30) (hWc : ∀ w, w < Wn → vp_in (I 54 w) 64) : ∀ (n h : Nat) (x3 : Int32) (x2 : Int32), h ≤ Wn → Wn < h + n → x3 = nI h → x2 = (sTw (I 10) (I 54) (I 56) m h) → Bd SyC mX10_trueWarnings 2 4 [(3, .int x3), (2, .int x2), (0, .ref 0), (1, .int m)] [] I (some (.int (sTw (I 10) (I 54) (I 56) m Wn))) I := by
  intro n
  induction n with
  | zero => intro h x3 x2 h1 h2; omega
  | succ n ih =>
    intro h x3 x2 h1 h2 e3 e2
    subst e3; subst e2
    refine b_iload_n (pc := 4) (i := 3) (dd dtX10_trueWarnings 4 rfl) rfl rfl ?_
    refine b_aload_n (pc := 5) (i := 0) (dd dtX10_trueWarnings 5 rfl) rfl rfl ?_
    refine b_geta (pc := 6) (dd dtX10_trueWarnings 6 rfl) fwX10_51 pC_0 rC_0_7 ?_
    refine b_geti (pc := 9) (dd dtX10_trueWarnings 7 rfl) fwX10_346 pC_53 ?_
    refine b_icmpL_ge (pc := 12) (tgt := 38) (dd dtX10_trueWarnings 8 rfl) (by decide) (fun h12 => ?_) (fun h12 => ?_)
    · rw [hW] at h12
      have he : h = Wn := Nat.le_antisymm h1 (ge_n h12 (by omega))
      subst he
      refine b_iload_n (pc := 38) (i := 2) (dd dtX10_trueWarnings 22 rfl) rfl rfl ?_
      exact b_eq (b_iret (dd dtX10_trueWarnings 23 rfl) rfl) rfl rfl
    · rw [hW] at h12
      have hlt : h < Wn := lt_n h12 (by omega) (by omega)
      refine b_iload_n (pc := 15) (i := 2) (dd dtX10_trueWarnings 9 rfl) rfl rfl ?_
      refine b_aload_n (pc := 16) (i := 0) (dd dtX10_trueWarnings 10 rfl) rfl rfl ?_
      refine b_iload_n (pc := 17) (i := 3) (dd dtX10_trueWarnings 11 rfl) rfl rfl ?_
      refine b_iload_n (pc := 18) (i := 1) (dd dtX10_trueWarnings 12 rfl) rfl rfl ?_
      refine b_invV (pc := 19) (dd dtX10_trueWarnings 13 rfl) mlX10_386 mvX10_cameTrue miX10_cameTrue (c_X10_cameTrue (vpn rfl (show h < 30 by omega) (by decide)) (by rw [nI_clamp (show h < 2 ^ 31 by omega)]; exact hWc h hlt)) oC_0 rfl rfl (by decide) (Nat.le_of_ble_eq_true rfl) ?_
      refine b_ifb_eq (pc := 22) (tgt := 29) (dd dtX10_trueWarnings 14 rfl) (by decide) (fun h22 => ?_) (fun h22 => ?_)
      · refine b_ic0 (pc := 29) (dd dtX10_trueWarnings 17 rfl) ?_
        refine b_iadd (pc := 30) (dd dtX10_trueWarnings 18 rfl) ?_
        refine b_istore_n (pc := 31) (i := 2) (lv' := [(2, _), (3, _), (0, _), (1, _)]) (dd dtX10_trueWarnings 19 rfl) rfl (Nat.le_of_ble_eq_true rfl) rfl ?_
        refine b_iinc1 (pc := 32) (i := 3) (lv' := [(3, _), (2, _), (0, _), (1, _)]) (dd dtX10_trueWarnings 20 rfl) rfl (Nat.le_of_ble_eq_true rfl) rfl ?_
        refine b_goto (pc := 35) (tgt := 4) (dd dtX10_trueWarnings 21 rfl) (by decide) ?_
        rw [nI_1]
        refine ih (h + 1) _ _ hlt (by omega) rfl ?_
        · try simp only [nI_clamp (show h < 2 ^ 31 by omega)] at h22
          simp [sTw, *]
      · refine b_ic1 (pc := 25) (dd dtX10_trueWarnings 15 rfl) ?_
        refine b_goto (pc := 26) (tgt := 30) (dd dtX10_trueWarnings 16 rfl) (by decide) ?_
        refine b_iadd (pc := 30) (dd dtX10_trueWarnings 18 rfl) ?_
        refine b_istore_n (pc := 31) (i := 2) (lv' := [(2, _), (3, _), (0, _), (1, _)]) (dd dtX10_trueWarnings 19 rfl) rfl (Nat.le_of_ble_eq_true rfl) rfl ?_
        refine b_iinc1 (pc := 32) (i := 3) (lv' := [(3, _), (2, _), (0, _), (1, _)]) (dd dtX10_trueWarnings 20 rfl) rfl (Nat.le_of_ble_eq_true rfl) rfl ?_
        refine b_goto (pc := 35) (tgt := 4) (dd dtX10_trueWarnings 21 rfl) (by decide) ?_
        rw [nI_1]
        refine ih (h + 1) _ _ hlt (by omega) rfl ?_
        · try simp only [nI_clamp (show h < 2 ^ 31 by omega)] at h22
          simp [sTw, *]
set_option maxHeartbeats 4000000 in
theorem c_X10_trueWarnings {I : Wd} {Wn : Nat} {m : Int32} (hW : I 53 0 = nI Wn) (hW2 : Wn ≤ 30) (hWc : ∀ w, w < Wn → vp_in (I 54 w) 64) : Cal SyC mX10_trueWarnings 2 [.ref 0, .int m] I (some (.int (sTw (I 10) (I 54) (I 56) m Wn))) I := by
  refine Cal.of (by decide) (Nat.le_of_ble_eq_true rfl) ?_
  show Bd _ _ _ _ [(0, _), (1, _)] _ _ _ _
  refine b_ic0 (pc := 0) (dd dtX10_trueWarnings 0 rfl) ?_
  refine b_istore_n (pc := 1) (i := 2) (lv' := [(2, _), (0, _), (1, _)]) (dd dtX10_trueWarnings 1 rfl) rfl (Nat.le_of_ble_eq_true rfl) rfl ?_
  refine b_ic0 (pc := 2) (dd dtX10_trueWarnings 2 rfl) ?_
  refine b_istore_n (pc := 3) (i := 3) (lv' := [(3, _), (2, _), (0, _), (1, _)]) (dd dtX10_trueWarnings 3 rfl) rfl (Nat.le_of_ble_eq_true rfl) rfl ?_
  exact l_X10_trueWarnings hW hW2 hWc (Wn + 1) 0 _ _ (Nat.zero_le _) (by omega) rfl rfl
def tX10_oldWarnings : List (Nat × Instr × Nat) := [(0, .iconst 0, 1), (1, .istore_n 2, 1), (2, .iconst 0, 1), (3, .istore_n 3, 1), (4, .iload_n 3, 1), (5, .aload_n 0, 1), (6, .getfield 51, 3), (9, .getfield 346, 3), (12, .if_icmp .ge 59, 3), (15, .aload_n 0, 1), (16, .getfield 21, 3), (19, .getfield 150, 3), (22, .aload_n 0, 1), (23, .getfield 51, 3), (26, .getfield 372, 3), (29, .iload_n 3, 1), (30, .iaload, 1), (31, .isub, 1), (32, .iload_n 1, 1), (33, .if_icmp .le 7, 3), (36, .iconst 1, 1), (37, .goto 4, 3), (40, .iconst 0, 1), (41, .istore 4, 2), (43, .iload_n 2, 1), (44, .iload 4, 2), (46, .ifCond .eq 16, 3), (49, .aload_n 0, 1), (50, .iload_n 3, 1), (51, .iload_n 1, 1), (52, .invokevirtual 386, 3), (55, .ifCond .ne 7, 3), (58, .iconst 1, 1), (59, .goto 4, 3), (62, .iconst 0, 1), (63, .iadd, 1), (64, .istore_n 2, 1), (65, .iinc 3 1, 3), (68, .goto (-64), 3), (71, .iload_n 2, 1), (72, .ireturn, 1)]
theorem dtX10_oldWarnings : dec_ok mX10_oldWarnings.2.1 tX10_oldWarnings = true := by decide +kernel
set_option maxHeartbeats 4000000 in
theorem l_X10_oldWarnings {I : Wd} {Wn : Nat} {m : Int32} (hW : I 53 0 = nI Wn) (hW2 : Wn ≤ 30) (hWc : ∀ w, w < Wn → vp_in (I 54 w) 64) : ∀ (n h : Nat) (x3 : Int32) (x2 : Int32), h ≤ Wn → Wn < h + n → x3 = nI h → x2 = (sOw (I 10) (I 54) (I 56) (I 6 1) m h) → Bd SyC mX10_oldWarnings 2 4 [(3, .int x3), (2, .int x2), (0, .ref 0), (1, .int m)] [] I (some (.int (sOw (I 10) (I 54) (I 56) (I 6 1) m Wn))) I := by
  intro n
  induction n with
  | zero => intro h x3 x2 h1 h2; omega
  | succ n ih =>
    intro h x3 x2 h1 h2 e3 e2
    subst e3; subst e2
    refine b_iload_n (pc := 4) (i := 3) (dd dtX10_oldWarnings 4 rfl) rfl rfl ?_
    refine b_aload_n (pc := 5) (i := 0) (dd dtX10_oldWarnings 5 rfl) rfl rfl ?_
    refine b_geta (pc := 6) (dd dtX10_oldWarnings 6 rfl) fwX10_51 pC_0 rC_0_7 ?_
    refine b_geti (pc := 9) (dd dtX10_oldWarnings 7 rfl) fwX10_346 pC_53 ?_
    refine b_icmpL_ge (pc := 12) (tgt := 71) (dd dtX10_oldWarnings 8 rfl) (by decide) (fun h12 => ?_) (fun h12 => ?_)
    · rw [hW] at h12
      have he : h = Wn := Nat.le_antisymm h1 (ge_n h12 (by omega))
      subst he
      refine b_iload_n (pc := 71) (i := 2) (dd dtX10_oldWarnings 39 rfl) rfl rfl ?_
      exact b_eq (b_iret (dd dtX10_oldWarnings 40 rfl) rfl) rfl rfl
    · rw [hW] at h12
      have hlt : h < Wn := lt_n h12 (by omega) (by omega)
      refine b_aload_n (pc := 15) (i := 0) (dd dtX10_oldWarnings 9 rfl) rfl rfl ?_
      refine b_geta (pc := 16) (dd dtX10_oldWarnings 10 rfl) fwX10_21 pC_0 rC_0_1 ?_
      refine b_geti (pc := 19) (dd dtX10_oldWarnings 11 rfl) fwX10_150 pC_6 ?_
      refine b_aload_n (pc := 22) (i := 0) (dd dtX10_oldWarnings 12 rfl) rfl rfl ?_
      refine b_geta (pc := 23) (dd dtX10_oldWarnings 13 rfl) fwX10_51 pC_0 rC_0_7 ?_
      refine b_geta (pc := 26) (dd dtX10_oldWarnings 14 rfl) fwX10_372 pC_53 rC_53_3 ?_
      refine b_iload_n (pc := 29) (i := 3) (dd dtX10_oldWarnings 15 rfl) rfl rfl ?_
      refine b_iald (pc := 30) (dd dtX10_oldWarnings 16 rfl) pC_56 (vpn rfl (show h < 30 by omega) (by decide)) ?_
      refine b_isub (pc := 31) (dd dtX10_oldWarnings 17 rfl) ?_
      refine b_iload_n (pc := 32) (i := 1) (dd dtX10_oldWarnings 18 rfl) rfl rfl ?_
      refine b_icmpL_le (pc := 33) (tgt := 40) (dd dtX10_oldWarnings 19 rfl) (by decide) (fun h33 => ?_) (fun h33 => ?_)
      · refine b_ic0 (pc := 40) (dd dtX10_oldWarnings 22 rfl) ?_
        refine b_istore (pc := 41) (i := 4) (lv' := [(4, _), (3, _), (2, _), (0, _), (1, _)]) (dd dtX10_oldWarnings 23 rfl) (Nat.le_of_ble_eq_true rfl) rfl ?_
        refine b_iload_n (pc := 43) (i := 2) (dd dtX10_oldWarnings 24 rfl) rfl rfl ?_
        refine b_iload (pc := 44) (i := 4) (dd dtX10_oldWarnings 25 rfl) rfl ?_
        refine b_if_eq (pc := 46) (tgt := 62) (dd dtX10_oldWarnings 26 rfl) (by decide) (fun h46 => ?_) (fun h46 => absurd h46 (by decide))
        refine b_ic0 (pc := 62) (dd dtX10_oldWarnings 34 rfl) ?_
        refine b_iadd (pc := 63) (dd dtX10_oldWarnings 35 rfl) ?_
        refine b_istore_n (pc := 64) (i := 2) (lv' := [(2, _), (4, _), (3, _), (0, _), (1, _)]) (dd dtX10_oldWarnings 36 rfl) rfl (Nat.le_of_ble_eq_true rfl) rfl ?_
        refine b_iinc1 (pc := 65) (i := 3) (lv' := [(3, _), (2, _), (4, _), (0, _), (1, _)]) (dd dtX10_oldWarnings 37 rfl) rfl (Nat.le_of_ble_eq_true rfl) rfl ?_
        refine b_goto (pc := 68) (tgt := 4) (dd dtX10_oldWarnings 38 rfl) (by decide) ?_
        refine b_pick [0, 1, 3, 4] (lv' := [(3, _), (2, _), (0, _), (1, _)]) rfl ?_
        rw [nI_1]
        refine ih (h + 1) _ _ hlt (by omega) rfl ?_
        · try simp only [nI_clamp (show h < 2 ^ 31 by omega)] at h33
          try simp only [nI_clamp (show h < 2 ^ 31 by omega)] at h55
          simp [sOw, -Int32.not_lt, -Int32.not_le, *]
      · refine b_ic1 (pc := 36) (dd dtX10_oldWarnings 20 rfl) ?_
        refine b_goto (pc := 37) (tgt := 41) (dd dtX10_oldWarnings 21 rfl) (by decide) ?_
        refine b_istore (pc := 41) (i := 4) (lv' := [(4, _), (3, _), (2, _), (0, _), (1, _)]) (dd dtX10_oldWarnings 23 rfl) (Nat.le_of_ble_eq_true rfl) rfl ?_
        refine b_iload_n (pc := 43) (i := 2) (dd dtX10_oldWarnings 24 rfl) rfl rfl ?_
        refine b_iload (pc := 44) (i := 4) (dd dtX10_oldWarnings 25 rfl) rfl ?_
        refine b_if_eq (pc := 46) (tgt := 62) (dd dtX10_oldWarnings 26 rfl) (by decide) (fun h46 => absurd h46 (by decide)) (fun h46 => ?_)
        refine b_aload_n (pc := 49) (i := 0) (dd dtX10_oldWarnings 27 rfl) rfl rfl ?_
        refine b_iload_n (pc := 50) (i := 3) (dd dtX10_oldWarnings 28 rfl) rfl rfl ?_
        refine b_iload_n (pc := 51) (i := 1) (dd dtX10_oldWarnings 29 rfl) rfl rfl ?_
        refine b_invV (pc := 52) (dd dtX10_oldWarnings 30 rfl) mlX10_386 mvX10_cameTrue miX10_cameTrue (c_X10_cameTrue (vpn rfl (show h < 30 by omega) (by decide)) (by rw [nI_clamp (show h < 2 ^ 31 by omega)]; exact hWc h hlt)) oC_0 rfl rfl (by decide) (Nat.le_of_ble_eq_true rfl) ?_
        refine b_ifb_ne (pc := 55) (tgt := 62) (dd dtX10_oldWarnings 31 rfl) (by decide) (fun h55 => ?_) (fun h55 => ?_)
        · refine b_ic0 (pc := 62) (dd dtX10_oldWarnings 34 rfl) ?_
          refine b_iadd (pc := 63) (dd dtX10_oldWarnings 35 rfl) ?_
          refine b_istore_n (pc := 64) (i := 2) (lv' := [(2, _), (4, _), (3, _), (0, _), (1, _)]) (dd dtX10_oldWarnings 36 rfl) rfl (Nat.le_of_ble_eq_true rfl) rfl ?_
          refine b_iinc1 (pc := 65) (i := 3) (lv' := [(3, _), (2, _), (4, _), (0, _), (1, _)]) (dd dtX10_oldWarnings 37 rfl) rfl (Nat.le_of_ble_eq_true rfl) rfl ?_
          refine b_goto (pc := 68) (tgt := 4) (dd dtX10_oldWarnings 38 rfl) (by decide) ?_
          refine b_pick [0, 1, 3, 4] (lv' := [(3, _), (2, _), (0, _), (1, _)]) rfl ?_
          rw [nI_1]
          refine ih (h + 1) _ _ hlt (by omega) rfl ?_
          · try simp only [nI_clamp (show h < 2 ^ 31 by omega)] at h33
            try simp only [nI_clamp (show h < 2 ^ 31 by omega)] at h55
            simp [sOw, -Int32.not_lt, -Int32.not_le, *]
        · refine b_ic1 (pc := 58) (dd dtX10_oldWarnings 32 rfl) ?_
          refine b_goto (pc := 59) (tgt := 63) (dd dtX10_oldWarnings 33 rfl) (by decide) ?_
          refine b_iadd (pc := 63) (dd dtX10_oldWarnings 35 rfl) ?_
          refine b_istore_n (pc := 64) (i := 2) (lv' := [(2, _), (4, _), (3, _), (0, _), (1, _)]) (dd dtX10_oldWarnings 36 rfl) rfl (Nat.le_of_ble_eq_true rfl) rfl ?_
          refine b_iinc1 (pc := 65) (i := 3) (lv' := [(3, _), (2, _), (4, _), (0, _), (1, _)]) (dd dtX10_oldWarnings 37 rfl) rfl (Nat.le_of_ble_eq_true rfl) rfl ?_
          refine b_goto (pc := 68) (tgt := 4) (dd dtX10_oldWarnings 38 rfl) (by decide) ?_
          refine b_pick [0, 1, 3, 4] (lv' := [(3, _), (2, _), (0, _), (1, _)]) rfl ?_
          rw [nI_1]
          refine ih (h + 1) _ _ hlt (by omega) rfl ?_
          · try simp only [nI_clamp (show h < 2 ^ 31 by omega)] at h33
            try simp only [nI_clamp (show h < 2 ^ 31 by omega)] at h55
            simp [sOw, -Int32.not_lt, -Int32.not_le, *]
set_option maxHeartbeats 4000000 in
theorem c_X10_oldWarnings {I : Wd} {Wn : Nat} {m : Int32} (hW : I 53 0 = nI Wn) (hW2 : Wn ≤ 30) (hWc : ∀ w, w < Wn → vp_in (I 54 w) 64) : Cal SyC mX10_oldWarnings 2 [.ref 0, .int m] I (some (.int (sOw (I 10) (I 54) (I 56) (I 6 1) m Wn))) I := by
  refine Cal.of (by decide) (Nat.le_of_ble_eq_true rfl) ?_
  show Bd _ _ _ _ [(0, _), (1, _)] _ _ _ _
  refine b_ic0 (pc := 0) (dd dtX10_oldWarnings 0 rfl) ?_
  refine b_istore_n (pc := 1) (i := 2) (lv' := [(2, _), (0, _), (1, _)]) (dd dtX10_oldWarnings 1 rfl) rfl (Nat.le_of_ble_eq_true rfl) rfl ?_
  refine b_ic0 (pc := 2) (dd dtX10_oldWarnings 2 rfl) ?_
  refine b_istore_n (pc := 3) (i := 3) (lv' := [(3, _), (2, _), (0, _), (1, _)]) (dd dtX10_oldWarnings 3 rfl) rfl (Nat.le_of_ble_eq_true rfl) rfl ?_
  exact l_X10_oldWarnings hW hW2 hWc (Wn + 1) 0 _ _ (Nat.zero_le _) (by omega) rfl rfl
/-- the machine's way of counting bits -/
def us (x : Int64) (k : Int32) : Int64 := (x.toUInt64 >>> (k.toInt64.toUInt64 &&& Int64.toUInt64 63)).toInt64
def bc1 (x : Int64) : Int64 := x - (us x 1 &&& 6148914691236517205)
def bc2 (x : Int64) : Int64 := (x &&& 3689348814741910323) + (us x 2 &&& 3689348814741910323)
def bc3 (x : Int64) : Int64 := (x + us x 4) &&& 1085102592571150095
def bc4 (x : Int64) : Int64 := x + us x 8
def bc5 (x : Int64) : Int64 := x + us x 16
def bc6 (x : Int64) : Int64 := x + us x 32
def bcI (x : Int64) : Int32 := (bc6 (bc5 (bc4 (bc3 (bc2 (bc1 x)))))).toInt32 &&& 127
def tJ13_bitCount_95d88 : List (Nat × Instr × Nat) := [(0, .lload_n 0, 1), (1, .lload_n 0, 1), (2, .iconst 1, 1), (3, .lushr, 1), (4, .ldc2_w 314, 3), (7, .land, 1), (8, .lsub, 1), (9, .lstore_n 0, 1), (10, .lload_n 0, 1), (11, .ldc2_w 316, 3), (14, .land, 1), (15, .lload_n 0, 1), (16, .iconst 2, 1), (17, .lushr, 1), (18, .ldc2_w 316, 3), (21, .land, 1), (22, .ladd, 1), (23, .lstore_n 0, 1), (24, .lload_n 0, 1), (25, .lload_n 0, 1), (26, .iconst 4, 1), (27, .lushr, 1), (28, .ladd, 1), (29, .ldc2_w 318, 3), (32, .land, 1), (33, .lstore_n 0, 1), (34, .lload_n 0, 1), (35, .lload_n 0, 1), (36, .bipush 8, 2), (38, .lushr, 1), (39, .ladd, 1), (40, .lstore_n 0, 1), (41, .lload_n 0, 1), (42, .lload_n 0, 1), (43, .bipush 16, 2), (45, .lushr, 1), (46, .ladd, 1), (47, .lstore_n 0, 1), (48, .lload_n 0, 1), (49, .lload_n 0, 1), (50, .bipush 32, 2), (52, .lushr, 1), (53, .ladd, 1), (54, .lstore_n 0, 1), (55, .lload_n 0, 1), (56, .l2i, 1), (57, .bipush 127, 2), (59, .iand, 1), (60, .ireturn, 1)]
theorem dtJ13_bitCount_95d88 : dec_ok mJ13_bitCount_95d88.2.1 tJ13_bitCount_95d88 = true := by decide +kernel
set_option maxHeartbeats 4000000 in
theorem c_J13_bitCount_95d88 {S : Sy} {I : Wd} {x : Int64} : Cal S mJ13_bitCount_95d88 0 [.long x] I (some (.int (bcI x))) I := by
  refine Cal.of (by decide) (Nat.le_of_ble_eq_true rfl) ?_
  show Bd _ _ _ _ [(0, _)] _ _ _ _
  refine b_lload_n (pc := 0) (i := 0) (dd dtJ13_bitCount_95d88 0 rfl) rfl rfl ?_
  refine b_lload_n (pc := 1) (i := 0) (dd dtJ13_bitCount_95d88 1 rfl) rfl rfl ?_
  refine b_ic1 (pc := 2) (dd dtJ13_bitCount_95d88 2 rfl) ?_
  refine b_lushr (pc := 3) (dd dtJ13_bitCount_95d88 3 rfl) ?_
  refine b_ldc2 (pc := 4) (dd dtJ13_bitCount_95d88 4 rfl) kcJ13_314 ?_
  refine b_land (pc := 7) (dd dtJ13_bitCount_95d88 5 rfl) ?_
  refine b_lsub (pc := 8) (dd dtJ13_bitCount_95d88 6 rfl) ?_
  refine b_lstore_n (pc := 9) (i := 0) (lv' := [(0, _)]) (dd dtJ13_bitCount_95d88 7 rfl) rfl ⟨Nat.le_of_ble_eq_true rfl, Nat.le_of_ble_eq_true rfl⟩ rfl ?_
  refine b_lload_n (pc := 10) (i := 0) (dd dtJ13_bitCount_95d88 8 rfl) rfl rfl ?_
  refine b_ldc2 (pc := 11) (dd dtJ13_bitCount_95d88 9 rfl) kcJ13_316 ?_
  refine b_land (pc := 14) (dd dtJ13_bitCount_95d88 10 rfl) ?_
  refine b_lload_n (pc := 15) (i := 0) (dd dtJ13_bitCount_95d88 11 rfl) rfl rfl ?_
  refine b_ic2 (pc := 16) (dd dtJ13_bitCount_95d88 12 rfl) ?_
  refine b_lushr (pc := 17) (dd dtJ13_bitCount_95d88 13 rfl) ?_
  refine b_ldc2 (pc := 18) (dd dtJ13_bitCount_95d88 14 rfl) kcJ13_316 ?_
  refine b_land (pc := 21) (dd dtJ13_bitCount_95d88 15 rfl) ?_
  refine b_ladd (pc := 22) (dd dtJ13_bitCount_95d88 16 rfl) ?_
  refine b_lstore_n (pc := 23) (i := 0) (lv' := [(0, _)]) (dd dtJ13_bitCount_95d88 17 rfl) rfl ⟨Nat.le_of_ble_eq_true rfl, Nat.le_of_ble_eq_true rfl⟩ rfl ?_
  refine b_lload_n (pc := 24) (i := 0) (dd dtJ13_bitCount_95d88 18 rfl) rfl rfl ?_
  refine b_lload_n (pc := 25) (i := 0) (dd dtJ13_bitCount_95d88 19 rfl) rfl rfl ?_
  refine b_ic4 (pc := 26) (dd dtJ13_bitCount_95d88 20 rfl) ?_
  refine b_lushr (pc := 27) (dd dtJ13_bitCount_95d88 21 rfl) ?_
  refine b_ladd (pc := 28) (dd dtJ13_bitCount_95d88 22 rfl) ?_
  refine b_ldc2 (pc := 29) (dd dtJ13_bitCount_95d88 23 rfl) kcJ13_318 ?_
  refine b_land (pc := 32) (dd dtJ13_bitCount_95d88 24 rfl) ?_
  refine b_lstore_n (pc := 33) (i := 0) (lv' := [(0, _)]) (dd dtJ13_bitCount_95d88 25 rfl) rfl ⟨Nat.le_of_ble_eq_true rfl, Nat.le_of_ble_eq_true rfl⟩ rfl ?_
  refine b_lload_n (pc := 34) (i := 0) (dd dtJ13_bitCount_95d88 26 rfl) rfl rfl ?_
  refine b_lload_n (pc := 35) (i := 0) (dd dtJ13_bitCount_95d88 27 rfl) rfl rfl ?_
  refine b_bipush (pc := 36) (v := 8) (dd dtJ13_bitCount_95d88 28 rfl) (by decide) ?_
  refine b_lushr (pc := 38) (dd dtJ13_bitCount_95d88 29 rfl) ?_
  refine b_ladd (pc := 39) (dd dtJ13_bitCount_95d88 30 rfl) ?_
  refine b_lstore_n (pc := 40) (i := 0) (lv' := [(0, _)]) (dd dtJ13_bitCount_95d88 31 rfl) rfl ⟨Nat.le_of_ble_eq_true rfl, Nat.le_of_ble_eq_true rfl⟩ rfl ?_
  refine b_lload_n (pc := 41) (i := 0) (dd dtJ13_bitCount_95d88 32 rfl) rfl rfl ?_
  refine b_lload_n (pc := 42) (i := 0) (dd dtJ13_bitCount_95d88 33 rfl) rfl rfl ?_
  refine b_bipush (pc := 43) (v := 16) (dd dtJ13_bitCount_95d88 34 rfl) (by decide) ?_
  refine b_lushr (pc := 45) (dd dtJ13_bitCount_95d88 35 rfl) ?_
  refine b_ladd (pc := 46) (dd dtJ13_bitCount_95d88 36 rfl) ?_
  refine b_lstore_n (pc := 47) (i := 0) (lv' := [(0, _)]) (dd dtJ13_bitCount_95d88 37 rfl) rfl ⟨Nat.le_of_ble_eq_true rfl, Nat.le_of_ble_eq_true rfl⟩ rfl ?_
  refine b_lload_n (pc := 48) (i := 0) (dd dtJ13_bitCount_95d88 38 rfl) rfl rfl ?_
  refine b_lload_n (pc := 49) (i := 0) (dd dtJ13_bitCount_95d88 39 rfl) rfl rfl ?_
  refine b_bipush (pc := 50) (v := 32) (dd dtJ13_bitCount_95d88 40 rfl) (by decide) ?_
  refine b_lushr (pc := 52) (dd dtJ13_bitCount_95d88 41 rfl) ?_
  refine b_ladd (pc := 53) (dd dtJ13_bitCount_95d88 42 rfl) ?_
  refine b_lstore_n (pc := 54) (i := 0) (lv' := [(0, _)]) (dd dtJ13_bitCount_95d88 43 rfl) rfl ⟨Nat.le_of_ble_eq_true rfl, Nat.le_of_ble_eq_true rfl⟩ rfl ?_
  refine b_lload_n (pc := 55) (i := 0) (dd dtJ13_bitCount_95d88 44 rfl) rfl rfl ?_
  refine b_l2i (pc := 56) (dd dtJ13_bitCount_95d88 45 rfl) ?_
  refine b_bipush (pc := 57) (v := 127) (dd dtJ13_bitCount_95d88 46 rfl) (by decide) ?_
  refine b_iand (pc := 59) (dd dtJ13_bitCount_95d88 47 rfl) ?_
  refine b_eq (b_iret (dd dtJ13_bitCount_95d88 48 rfl) rfl) ?_ ?_
  · rfl
  · rfl
def tX10_missedCells : List (Nat × Instr × Nat) := [(0, .lconst 0, 1), (1, .lstore_n 2, 1), (2, .iconst 0, 1), (3, .istore 4, 2), (5, .iload 4, 2), (7, .aload_n 0, 1), (8, .getfield 51, 3), (11, .getfield 346, 3), (14, .if_icmp .ge 34, 3), (17, .aload_n 0, 1), (18, .iload 4, 2), (20, .iload_n 1, 1), (21, .invokevirtual 386, 3), (24, .ifCond .eq 18, 3), (27, .lload_n 2, 1), (28, .lconst 1, 1), (29, .aload_n 0, 1), (30, .getfield 51, 3), (33, .getfield 385, 3), (36, .iload 4, 2), (38, .iaload, 1), (39, .lshl, 1), (40, .lor, 1), (41, .lstore_n 2, 1), (42, .iinc 4 1, 3), (45, .goto (-40), 3), (48, .aload_n 0, 1), (49, .getfield 21, 3), (52, .getfield 328, 3), (55, .lload_n 2, 1), (56, .invokestatic 389, 3), (59, .isub, 1), (60, .ireturn, 1)]
theorem dtX10_missedCells : dec_ok mX10_missedCells.2.1 tX10_missedCells = true := by decide +kernel
set_option maxHeartbeats 4000000 in
theorem l_X10_missedCells {I : Wd} {Wn : Nat} {m : Int32} (hW : I 53 0 = nI Wn) (hW2 : Wn ≤ 30) (hWc : ∀ w, w < Wn → vp_in (I 54 w) 64) : ∀ (n h : Nat) (x4 : Int32) (x2 : Int64), h ≤ Wn → Wn < h + n → x4 = nI h → x2 = (sMs (I 10) (I 54) (I 56) m h) → Bd SyC mX10_missedCells 2 5 [(4, .int x4), (2, .long x2), (0, .ref 0), (1, .int m)] [] I (some (.int (I 6 3 - bcI (sMs (I 10) (I 54) (I 56) m Wn)))) I := by
  intro n
  induction n with
  | zero => intro h x4 x2 h1 h2; omega
  | succ n ih =>
    intro h x4 x2 h1 h2 e4 e2
    subst e4; subst e2
    refine b_iload (pc := 5) (i := 4) (dd dtX10_missedCells 4 rfl) rfl ?_
    refine b_aload_n (pc := 7) (i := 0) (dd dtX10_missedCells 5 rfl) rfl rfl ?_
    refine b_geta (pc := 8) (dd dtX10_missedCells 6 rfl) fwX10_51 pC_0 rC_0_7 ?_
    refine b_geti (pc := 11) (dd dtX10_missedCells 7 rfl) fwX10_346 pC_53 ?_
    refine b_icmpL_ge (pc := 14) (tgt := 48) (dd dtX10_missedCells 8 rfl) (by decide) (fun h14 => ?_) (fun h14 => ?_)
    · rw [hW] at h14
      have he : h = Wn := Nat.le_antisymm h1 (ge_n h14 (by omega))
      subst he
      refine b_aload_n (pc := 48) (i := 0) (dd dtX10_missedCells 26 rfl) rfl rfl ?_
      refine b_geta (pc := 49) (dd dtX10_missedCells 27 rfl) fwX10_21 pC_0 rC_0_1 ?_
      refine b_geti (pc := 52) (dd dtX10_missedCells 28 rfl) fwX10_328 pC_6 ?_
      refine b_lload_n (pc := 55) (i := 2) (dd dtX10_missedCells 29 rfl) rfl rfl ?_
      refine b_invS (pc := 56) (dd dtX10_missedCells 30 rfl) mlX10_389 mvJ13_bitCount_95d88 msJ13_bitCount_95d88 (c_J13_bitCount_95d88) rfl rfl (by decide) (Nat.le_of_ble_eq_true rfl) ?_
      refine b_isub (pc := 59) (dd dtX10_missedCells 31 rfl) ?_
      exact b_eq (b_iret (dd dtX10_missedCells 32 rfl) rfl) rfl rfl
    · rw [hW] at h14
      have hlt : h < Wn := lt_n h14 (by omega) (by omega)
      refine b_aload_n (pc := 17) (i := 0) (dd dtX10_missedCells 9 rfl) rfl rfl ?_
      refine b_iload (pc := 18) (i := 4) (dd dtX10_missedCells 10 rfl) rfl ?_
      refine b_iload_n (pc := 20) (i := 1) (dd dtX10_missedCells 11 rfl) rfl rfl ?_
      refine b_invV (pc := 21) (dd dtX10_missedCells 12 rfl) mlX10_386 mvX10_cameTrue miX10_cameTrue (c_X10_cameTrue (vpn rfl (show h < 30 by omega) (by decide)) (by rw [nI_clamp (show h < 2 ^ 31 by omega)]; exact hWc h hlt)) oC_0 rfl rfl (by decide) (Nat.le_of_ble_eq_true rfl) ?_
      refine b_ifb_eq (pc := 24) (tgt := 42) (dd dtX10_missedCells 13 rfl) (by decide) (fun h24 => ?_) (fun h24 => ?_)
      · refine b_iinc1 (pc := 42) (i := 4) (lv' := [(4, _), (2, _), (0, _), (1, _)]) (dd dtX10_missedCells 24 rfl) rfl (Nat.le_of_ble_eq_true rfl) rfl ?_
        refine b_goto (pc := 45) (tgt := 5) (dd dtX10_missedCells 25 rfl) (by decide) ?_
        rw [nI_1]
        refine ih (h + 1) _ _ hlt (by omega) rfl ?_
        · try simp only [nI_clamp (show h < 2 ^ 31 by omega)] at h24
          try simp only [nI_clamp (show h < 2 ^ 31 by omega)]
          simp only [sMs]
          first | rw [if_pos h24] | rw [if_neg h24]
      · refine b_lload_n (pc := 27) (i := 2) (dd dtX10_missedCells 14 rfl) rfl rfl ?_
        refine b_lconst (pc := 28) (v := 1) (dd dtX10_missedCells 15 rfl) (by decide) ?_
        refine b_aload_n (pc := 29) (i := 0) (dd dtX10_missedCells 16 rfl) rfl rfl ?_
        refine b_geta (pc := 30) (dd dtX10_missedCells 17 rfl) fwX10_51 pC_0 rC_0_7 ?_
        refine b_geta (pc := 33) (dd dtX10_missedCells 18 rfl) fwX10_385 pC_53 rC_53_1 ?_
        refine b_iload (pc := 36) (i := 4) (dd dtX10_missedCells 19 rfl) rfl ?_
        refine b_iald (pc := 38) (dd dtX10_missedCells 20 rfl) pC_54 (vpn rfl (show h < 30 by omega) (by decide)) ?_
        refine b_lshl (pc := 39) (dd dtX10_missedCells 21 rfl) ?_
        refine b_lor (pc := 40) (dd dtX10_missedCells 22 rfl) ?_
        refine b_lstore_n (pc := 41) (i := 2) (lv' := [(2, _), (4, _), (0, _), (1, _)]) (dd dtX10_missedCells 23 rfl) rfl ⟨Nat.le_of_ble_eq_true rfl, Nat.le_of_ble_eq_true rfl⟩ rfl ?_
        refine b_iinc1 (pc := 42) (i := 4) (lv' := [(4, _), (2, _), (0, _), (1, _)]) (dd dtX10_missedCells 24 rfl) rfl (Nat.le_of_ble_eq_true rfl) rfl ?_
        refine b_goto (pc := 45) (tgt := 5) (dd dtX10_missedCells 25 rfl) (by decide) ?_
        rw [nI_1]
        refine ih (h + 1) _ _ hlt (by omega) rfl ?_
        · try simp only [nI_clamp (show h < 2 ^ 31 by omega)] at h24
          try simp only [nI_clamp (show h < 2 ^ 31 by omega)]
          simp only [sMs]
          first | rw [if_pos h24] | rw [if_neg h24]
set_option maxHeartbeats 4000000 in
theorem c_X10_missedCells {I : Wd} {Wn : Nat} {m : Int32} (hW : I 53 0 = nI Wn) (hW2 : Wn ≤ 30) (hWc : ∀ w, w < Wn → vp_in (I 54 w) 64) : Cal SyC mX10_missedCells 2 [.ref 0, .int m] I (some (.int (I 6 3 - bcI (sMs (I 10) (I 54) (I 56) m Wn)))) I := by
  refine Cal.of (by decide) (Nat.le_of_ble_eq_true rfl) ?_
  show Bd _ _ _ _ [(0, _), (1, _)] _ _ _ _
  refine b_lconst (pc := 0) (v := 0) (dd dtX10_missedCells 0 rfl) (by decide) ?_
  refine b_lstore_n (pc := 1) (i := 2) (lv' := [(2, _), (0, _), (1, _)]) (dd dtX10_missedCells 1 rfl) rfl ⟨Nat.le_of_ble_eq_true rfl, Nat.le_of_ble_eq_true rfl⟩ rfl ?_
  refine b_ic0 (pc := 2) (dd dtX10_missedCells 2 rfl) ?_
  refine b_istore (pc := 3) (i := 4) (lv' := [(4, _), (2, _), (0, _), (1, _)]) (dd dtX10_missedCells 3 rfl) (Nat.le_of_ble_eq_true rfl) rfl ?_
  exact l_X10_missedCells hW hW2 hWc (Wn + 1) 0 _ _ (Nat.zero_le _) (by omega) rfl rfl
def vWarned (t mi old m what : Int32) : Int32 := if inR m 1 60 then (if what = 0 then t else if what = 1 then mi else if what = 2 then old else -2) else -2
def tX10_warned : List (Nat × Instr × Nat) := [(0, .iload_n 1, 1), (1, .iconst 1, 1), (2, .bipush 60, 2), (4, .invokestatic 97, 3), (7, .ifCond .ne 6, 3), (10, .bipush (-2), 2), (12, .ireturn, 1), (13, .iload_n 2, 1), (14, .tableswitch 44 0 2 #[26, 32, 38], 26), (40, .aload_n 0, 1), (41, .iload_n 1, 1), (42, .invokevirtual 306, 3), (45, .ireturn, 1), (46, .aload_n 0, 1), (47, .iload_n 1, 1), (48, .invokevirtual 309, 3), (51, .ireturn, 1), (52, .aload_n 0, 1), (53, .iload_n 1, 1), (54, .invokevirtual 312, 3), (57, .ireturn, 1), (58, .bipush (-2), 2), (60, .ireturn, 1)]
theorem dtX10_warned : dec_ok mX10_warned.2.1 tX10_warned = true := by decide +kernel
set_option maxHeartbeats 4000000 in
theorem c_X10_warned {I : Wd} {Wn : Nat} {m what : Int32} (hW : I 53 0 = nI Wn) (hW2 : Wn ≤ 30) (hWc : ∀ w, w < Wn → vp_in (I 54 w) 64) : Cal SyC mX10_warned 3 [.ref 0, .int m, .int what] I (some (.int (vWarned (sTw (I 10) (I 54) (I 56) m Wn) (I 6 3 - bcI (sMs (I 10) (I 54) (I 56) m Wn)) (sOw (I 10) (I 54) (I 56) (I 6 1) m Wn) m what))) I := by
  refine Cal.of (by decide) (Nat.le_of_ble_eq_true rfl) ?_
  show Bd _ _ _ _ [(0, _), (1, _), (2, _)] _ _ _ _
  refine b_iload_n (pc := 0) (i := 1) (dd dtX10_warned 0 rfl) rfl rfl ?_
  refine b_ic1 (pc := 1) (dd dtX10_warned 1 rfl) ?_
  refine b_bipush (pc := 2) (v := 60) (dd dtX10_warned 2 rfl) (by decide) ?_
  refine b_invS (pc := 4) (dd dtX10_warned 3 rfl) mlX10_97 mvX10_within msX10_within (c_X10_within) rfl rfl (by decide) (Nat.le_of_ble_eq_true rfl) ?_
  refine b_ifb_ne (pc := 7) (tgt := 13) (dd dtX10_warned 4 rfl) (by decide) (fun h7 => ?_) (fun h7 => ?_)
  · refine b_iload_n (pc := 13) (i := 2) (dd dtX10_warned 7 rfl) rfl rfl ?_
    refine b_tsw (pc := 14) (ts := [(0, 40), (1, 46), (2, 52)]) (dfl := 58) (dd dtX10_warned 8 rfl) (by decide +kernel) ⟨fun h14 => ?_, fun h14_0 => ⟨fun h14 => ?_, fun h14_1 => ⟨fun h14 => ?_, fun h14_2 => ?_⟩⟩⟩
    · refine b_aload_n (pc := 40) (i := 0) (dd dtX10_warned 9 rfl) rfl rfl ?_
      refine b_iload_n (pc := 41) (i := 1) (dd dtX10_warned 10 rfl) rfl rfl ?_
      refine b_invV (pc := 42) (dd dtX10_warned 11 rfl) mlX10_306 mvX10_trueWarnings miX10_trueWarnings (c_X10_trueWarnings hW hW2 hWc) oC_0 rfl rfl (by decide) (Nat.le_of_ble_eq_true rfl) ?_
      refine b_eq (b_iret (dd dtX10_warned 12 rfl) rfl) ?_ ?_
      · simp [inR, vWarned, -Int32.not_lt, -Int32.not_le, *]
      · rfl
    · refine b_aload_n (pc := 46) (i := 0) (dd dtX10_warned 13 rfl) rfl rfl ?_
      refine b_iload_n (pc := 47) (i := 1) (dd dtX10_warned 14 rfl) rfl rfl ?_
      refine b_invV (pc := 48) (dd dtX10_warned 15 rfl) mlX10_309 mvX10_missedCells miX10_missedCells (c_X10_missedCells hW hW2 hWc) oC_0 rfl rfl (by decide) (Nat.le_of_ble_eq_true rfl) ?_
      refine b_eq (b_iret (dd dtX10_warned 16 rfl) rfl) ?_ ?_
      · simp [inR, vWarned, -Int32.not_lt, -Int32.not_le, *]
      · rfl
    · refine b_aload_n (pc := 52) (i := 0) (dd dtX10_warned 17 rfl) rfl rfl ?_
      refine b_iload_n (pc := 53) (i := 1) (dd dtX10_warned 18 rfl) rfl rfl ?_
      refine b_invV (pc := 54) (dd dtX10_warned 19 rfl) mlX10_312 mvX10_oldWarnings miX10_oldWarnings (c_X10_oldWarnings hW hW2 hWc) oC_0 rfl rfl (by decide) (Nat.le_of_ble_eq_true rfl) ?_
      refine b_eq (b_iret (dd dtX10_warned 20 rfl) rfl) ?_ ?_
      · simp [inR, vWarned, -Int32.not_lt, -Int32.not_le, *]
      · rfl
    · refine b_bipush (pc := 58) (v := -2) (dd dtX10_warned 21 rfl) (by decide) ?_
      refine b_eq (b_iret (dd dtX10_warned 22 rfl) rfl) ?_ ?_
      · simp [inR, vWarned, -Int32.not_lt, -Int32.not_le, *]
      · rfl
  · refine b_bipush (pc := 10) (v := -2) (dd dtX10_warned 5 rfl) (by decide) ?_
    refine b_eq (b_iret (dd dtX10_warned 6 rfl) rfl) ?_ ?_
    · simp [inR, vWarned, -Int32.not_lt, -Int32.not_le, *]
    · rfl
def tX10_greatestShared : List (Nat × Instr × Nat) := [(0, .iconst 0, 1), (1, .istore_n 2, 1), (2, .iload_n 2, 1), (3, .bipush 100, 2), (5, .if_icmp .ge 21, 3), (8, .iload_n 1, 1), (9, .ifCond .le 17, 3), (12, .iload_n 0, 1), (13, .iload_n 1, 1), (14, .irem, 1), (15, .istore_n 3, 1), (16, .iload_n 1, 1), (17, .istore_n 0, 1), (18, .iload_n 3, 1), (19, .istore_n 1, 1), (20, .iinc 2 1, 3), (23, .goto (-21), 3), (26, .iload_n 0, 1), (27, .ireturn, 1)]
theorem dtX10_greatestShared : dec_ok mX10_greatestShared.2.1 tX10_greatestShared = true := by decide +kernel
set_option maxHeartbeats 4000000 in
theorem l_X10_greatestShared {I : Wd} : ∀ (n t : Nat) (a b x2 : Int32), t + n = 100 → x2 = nI t → Bd SyC mX10_greatestShared 0 2 [(2, .int x2), (0, .int a), (1, .int b)] [] I (some (.int (sGcd n a b))) I := by
  intro n
  induction n with
  | zero =>
    intro t a b x2 ht e2
    subst e2
    have ht : t = 100 := by omega
    subst ht
    refine b_iload_n (pc := 2) (i := 2) (dd dtX10_greatestShared 2 rfl) rfl rfl ?_
    refine b_bipush (pc := 3) (v := 100) (dd dtX10_greatestShared 3 rfl) (by decide) ?_
    refine b_icmpL_ge (pc := 5) (tgt := 26) (dd dtX10_greatestShared 4 rfl) (by decide) (fun h5 => ?_) (fun h5 => ?_)
    · refine b_iload_n (pc := 26) (i := 0) (dd dtX10_greatestShared 17 rfl) rfl rfl ?_
      exact b_eq (b_iret (dd dtX10_greatestShared 18 rfl) rfl) rfl rfl
    · exact absurd h5 (by decide)
  | succ n ih =>
    intro t a b x2 ht e2
    subst e2
    refine b_iload_n (pc := 2) (i := 2) (dd dtX10_greatestShared 2 rfl) rfl rfl ?_
    refine b_bipush (pc := 3) (v := 100) (dd dtX10_greatestShared 3 rfl) (by decide) ?_
    refine b_icmpL_ge (pc := 5) (tgt := 26) (dd dtX10_greatestShared 4 rfl) (by decide) (fun h5 => ?_) (fun h5 => ?_)
    · exact absurd (nI_lt (show t < 100 by omega) (by decide)) h5
    · refine b_iload_n (pc := 8) (i := 1) (dd dtX10_greatestShared 5 rfl) rfl rfl ?_
      refine b_ifL_le (pc := 9) (tgt := 26) (dd dtX10_greatestShared 6 rfl) (by decide) (fun h9 => ?_) (fun h9 => ?_)
      · refine b_iload_n (pc := 26) (i := 0) (dd dtX10_greatestShared 17 rfl) rfl rfl ?_
        refine b_eq (b_iret (dd dtX10_greatestShared 18 rfl) rfl) ?_ ?_
        · simp [sGcd, -Int32.not_lt, -Int32.not_le, *]
        · rfl
      · refine b_iload_n (pc := 12) (i := 0) (dd dtX10_greatestShared 7 rfl) rfl rfl ?_
        refine b_iload_n (pc := 13) (i := 1) (dd dtX10_greatestShared 8 rfl) rfl rfl ?_
        refine b_irem (pc := 14) (dd dtX10_greatestShared 9 rfl) (fun q => by rw [q] at h9; exact absurd h9 (by decide)) ?_
        refine b_istore_n (pc := 15) (i := 3) (lv' := [(3, _), (2, _), (0, _), (1, _)]) (dd dtX10_greatestShared 10 rfl) rfl (Nat.le_of_ble_eq_true rfl) rfl ?_
        refine b_iload_n (pc := 16) (i := 1) (dd dtX10_greatestShared 11 rfl) rfl rfl ?_
        refine b_istore_n (pc := 17) (i := 0) (lv' := [(0, _), (3, _), (2, _), (1, _)]) (dd dtX10_greatestShared 12 rfl) rfl (Nat.le_of_ble_eq_true rfl) rfl ?_
        refine b_iload_n (pc := 18) (i := 3) (dd dtX10_greatestShared 13 rfl) rfl rfl ?_
        refine b_istore_n (pc := 19) (i := 1) (lv' := [(1, _), (0, _), (3, _), (2, _)]) (dd dtX10_greatestShared 14 rfl) rfl (Nat.le_of_ble_eq_true rfl) rfl ?_
        refine b_iinc1 (pc := 20) (i := 2) (lv' := [(2, _), (1, _), (0, _), (3, _)]) (dd dtX10_greatestShared 15 rfl) rfl (Nat.le_of_ble_eq_true rfl) rfl ?_
        refine b_goto (pc := 23) (tgt := 2) (dd dtX10_greatestShared 16 rfl) (by decide) ?_
        refine b_pick [0, 2, 1] (lv' := [(2, _), (0, _), (1, _)]) rfl ?_
        rw [nI_1]
        refine b_eq (ih (t + 1) _ _ _ (by omega) rfl) ?_ rfl
        simp [sGcd, -Int32.not_lt, -Int32.not_le, *]
set_option maxHeartbeats 4000000 in
theorem c_X10_greatestShared {I : Wd} {a b : Int32} : Cal SyC mX10_greatestShared 0 [.int a, .int b] I (some (.int (sGcd 100 a b))) I := by
  refine Cal.of (by decide) (Nat.le_of_ble_eq_true rfl) ?_
  show Bd _ _ _ _ [(0, _), (1, _)] _ _ _ _
  refine b_ic0 (pc := 0) (dd dtX10_greatestShared 0 rfl) ?_
  refine b_istore_n (pc := 1) (i := 2) (lv' := [(2, _), (0, _), (1, _)]) (dd dtX10_greatestShared 1 rfl) rfl (Nat.le_of_ble_eq_true rfl) rfl ?_
  exact l_X10_greatestShared 100 0 _ _ _ (by omega) rfl
def tX10_often : List (Nat × Instr × Nat) := [(0, .iload_n 1, 1), (1, .iconst 0, 1), (2, .iconst 3, 1), (3, .invokestatic 97, 3), (6, .ifCond .eq 12, 3), (9, .iload_n 2, 1), (10, .iconst 0, 1), (11, .iconst 1, 1), (12, .invokestatic 97, 3), (15, .ifCond .ne 7, 3), (18, .ldc2_w 256, 3), (21, .lreturn, 1), (22, .aload_n 0, 1), (23, .getfield 21, 3), (26, .getfield 297, 3), (29, .iload_n 1, 1), (30, .iaload, 1), (31, .istore_n 3, 1), (32, .aload_n 0, 1), (33, .getfield 21, 3), (36, .getfield 300, 3), (39, .iload_n 1, 1), (40, .iaload, 1), (41, .istore 4, 2), (43, .iload_n 3, 1), (44, .iload 4, 2), (46, .invokestatic 303, 3), (49, .istore 5, 2), (51, .iload 5, 2), (53, .ifCond .ne 6, 3), (56, .iload_n 2, 1), (57, .i2l, 1), (58, .lreturn, 1), (59, .iload_n 2, 1), (60, .ifCond .ne 7, 3), (63, .iload_n 3, 1), (64, .goto 5, 3), (67, .iload 4, 2), (69, .iload 5, 2), (71, .idiv, 1), (72, .i2l, 1), (73, .lreturn, 1)]
theorem dtX10_often : dec_ok mX10_often.2.1 tX10_often = true := by decide +kernel
set_option maxHeartbeats 4000000 in
theorem c_X10_often {I : Wd} {r part : Int32} : Cal SyC mX10_often 1 [.ref 0, .int r, .int part] I (some (.long (vOften (I 11) (I 12) r part))) I := by
  refine Cal.of (by decide) (Nat.le_of_ble_eq_true rfl) ?_
  show Bd _ _ _ _ [(0, _), (1, _), (2, _)] _ _ _ _
  refine b_iload_n (pc := 0) (i := 1) (dd dtX10_often 0 rfl) rfl rfl ?_
  refine b_ic0 (pc := 1) (dd dtX10_often 1 rfl) ?_
  refine b_ic3 (pc := 2) (dd dtX10_often 2 rfl) ?_
  refine b_invS (pc := 3) (dd dtX10_often 3 rfl) mlX10_97 mvX10_within msX10_within (c_X10_within) rfl rfl (by decide) (Nat.le_of_ble_eq_true rfl) ?_
  refine b_ifb_eq (pc := 6) (tgt := 18) (dd dtX10_often 4 rfl) (by decide) (fun h6 => ?_) (fun h6 => ?_)
  · refine b_ldc2 (pc := 18) (dd dtX10_often 10 rfl) kcX10_256 ?_
    refine b_eq (b_lret (dd dtX10_often 11 rfl) rfl) ?_ ?_
    · simp [inR, vOften, -Int32.not_lt, -Int32.not_le, *]
    · rfl
  · refine b_iload_n (pc := 9) (i := 2) (dd dtX10_often 5 rfl) rfl rfl ?_
    refine b_ic0 (pc := 10) (dd dtX10_often 6 rfl) ?_
    refine b_ic1 (pc := 11) (dd dtX10_often 7 rfl) ?_
    refine b_invS (pc := 12) (dd dtX10_often 8 rfl) mlX10_97 mvX10_within msX10_within (c_X10_within) rfl rfl (by decide) (Nat.le_of_ble_eq_true rfl) ?_
    refine b_ifb_ne (pc := 15) (tgt := 22) (dd dtX10_often 9 rfl) (by decide) (fun h15 => ?_) (fun h15 => ?_)
    · refine b_aload_n (pc := 22) (i := 0) (dd dtX10_often 12 rfl) rfl rfl ?_
      refine b_geta (pc := 23) (dd dtX10_often 13 rfl) fwX10_21 pC_0 rC_0_1 ?_
      refine b_geta (pc := 26) (dd dtX10_often 14 rfl) fwX10_297 pC_6 rC_6_9 ?_
      refine b_iload_n (pc := 29) (i := 1) (dd dtX10_often 15 rfl) rfl rfl ?_
      refine b_iald (pc := 30) (dd dtX10_often 16 rfl) pC_11 (vpc h6 (by decide)) ?_
      refine b_istore_n (pc := 31) (i := 3) (lv' := [(3, _), (0, _), (1, _), (2, _)]) (dd dtX10_often 17 rfl) rfl (Nat.le_of_ble_eq_true rfl) rfl ?_
      refine b_aload_n (pc := 32) (i := 0) (dd dtX10_often 18 rfl) rfl rfl ?_
      refine b_geta (pc := 33) (dd dtX10_often 19 rfl) fwX10_21 pC_0 rC_0_1 ?_
      refine b_geta (pc := 36) (dd dtX10_often 20 rfl) fwX10_300 pC_6 rC_6_10 ?_
      refine b_iload_n (pc := 39) (i := 1) (dd dtX10_often 21 rfl) rfl rfl ?_
      refine b_iald (pc := 40) (dd dtX10_often 22 rfl) pC_12 (vpc h6 (by decide)) ?_
      refine b_istore (pc := 41) (i := 4) (lv' := [(4, _), (3, _), (0, _), (1, _), (2, _)]) (dd dtX10_often 23 rfl) (Nat.le_of_ble_eq_true rfl) rfl ?_
      refine b_iload_n (pc := 43) (i := 3) (dd dtX10_often 24 rfl) rfl rfl ?_
      refine b_iload (pc := 44) (i := 4) (dd dtX10_often 25 rfl) rfl ?_
      refine b_invS (pc := 46) (dd dtX10_often 26 rfl) mlX10_303 mvX10_greatestShared msX10_greatestShared (c_X10_greatestShared) rfl rfl (by decide) (Nat.le_of_ble_eq_true rfl) ?_
      refine b_istore (pc := 49) (i := 5) (lv' := [(5, _), (4, _), (3, _), (0, _), (1, _), (2, _)]) (dd dtX10_often 27 rfl) (Nat.le_of_ble_eq_true rfl) rfl ?_
      refine b_iload (pc := 51) (i := 5) (dd dtX10_often 28 rfl) rfl ?_
      refine b_if_ne (pc := 53) (tgt := 59) (dd dtX10_often 29 rfl) (by decide) (fun h53 => ?_) (fun h53 => ?_)
      · refine b_iload_n (pc := 59) (i := 2) (dd dtX10_often 33 rfl) rfl rfl ?_
        refine b_if_ne (pc := 60) (tgt := 67) (dd dtX10_often 34 rfl) (by decide) (fun h60 => ?_) (fun h60 => ?_)
        · refine b_iload (pc := 67) (i := 4) (dd dtX10_often 37 rfl) rfl ?_
          refine b_iload (pc := 69) (i := 5) (dd dtX10_often 38 rfl) rfl ?_
          refine b_idiv (pc := 71) (dd dtX10_often 39 rfl) (h53) ?_
          refine b_i2l (pc := 72) (dd dtX10_often 40 rfl) ?_
          refine b_eq (b_lret (dd dtX10_often 41 rfl) rfl) ?_ ?_
          · simp [inR, vOften, -Int32.not_lt, -Int32.not_le, *]
          · rfl
        · refine b_iload_n (pc := 63) (i := 3) (dd dtX10_often 35 rfl) rfl rfl ?_
          refine b_goto (pc := 64) (tgt := 69) (dd dtX10_often 36 rfl) (by decide) ?_
          refine b_iload (pc := 69) (i := 5) (dd dtX10_often 38 rfl) rfl ?_
          refine b_idiv (pc := 71) (dd dtX10_often 39 rfl) (h53) ?_
          refine b_i2l (pc := 72) (dd dtX10_often 40 rfl) ?_
          refine b_eq (b_lret (dd dtX10_often 41 rfl) rfl) ?_ ?_
          · simp [inR, vOften, -Int32.not_lt, -Int32.not_le, *]
          · rfl
      · refine b_iload_n (pc := 56) (i := 2) (dd dtX10_often 30 rfl) rfl rfl ?_
        refine b_i2l (pc := 57) (dd dtX10_often 31 rfl) ?_
        refine b_eq (b_lret (dd dtX10_often 32 rfl) rfl) ?_ ?_
        · simp [inR, vOften, -Int32.not_lt, -Int32.not_le, *]
        · rfl
    · refine b_ldc2 (pc := 18) (dd dtX10_often 10 rfl) kcX10_256 ?_
      refine b_eq (b_lret (dd dtX10_often 11 rfl) rfl) ?_ ?_
      · simp [inR, vOften, -Int32.not_lt, -Int32.not_le, *]
      · rfl
end
section
/-! plans -/
def bitS (set : Int32) (i : Nat) : Int32 := (set >>> (nI i &&& 31)) &&& 1
def sHs (nums : Nat → Int32) (set : Int32) : Nat → Int32
  | 0 => 0
  | i + 1 => if bitS set i = 0 then sHs nums set i else sHs nums set i ||| ((1 : Int32) <<< (nums i &&& 31))
def sPm (away ppl : Nat → Int32) (hs : Int32) : Nat → Int32
  | 0 => 0
  | h + 1 => if bitS hs h = 0 then sPm away ppl hs h else if away h = 0 then sPm away ppl hs h + ppl h else sPm away ppl hs h
def sSp (gone gone2 away ppl : Nat → Int32) (hs : Int32) : Nat → Int32
  | 0 => 0
  | h + 1 => if bitS hs h = 0 then sSp gone gone2 away ppl hs h else if away h = 0 then (if gone h < 0 ∧ ¬ gone2 h < 0 then sSp gone gone2 away ppl hs h + 1000 * ppl h else sSp gone gone2 away ppl hs h) else sSp gone gone2 away ppl hs h
def tX10_holdsHouses : List (Nat × Instr × Nat) := [(0, .aload_n 1, 1), (1, .getfield 214, 3), (4, .bipush 8, 2), (6, .if_icmp .le 5, 3), (9, .iconst 0, 1), (10, .ireturn, 1), (11, .iconst 0, 1), (12, .istore_n 2, 1), (13, .iload_n 2, 1), (14, .aload_n 1, 1), (15, .getfield 214, 3), (18, .if_icmp .ge 24, 3), (21, .aload_n 0, 1), (22, .aload_n 1, 1), (23, .getfield 284, 3), (26, .iload_n 2, 1), (27, .iaload, 1), (28, .invokevirtual 131, 3), (31, .ifCond .ne 5, 3), (34, .iconst 0, 1), (35, .ireturn, 1), (36, .iinc 2 1, 3), (39, .goto (-26), 3), (42, .iconst 1, 1), (43, .ireturn, 1)]
theorem dtX10_holdsHouses : dec_ok mX10_holdsHouses.2.1 tX10_holdsHouses = true := by decide +kernel
set_option maxHeartbeats 4000000 in
theorem l_X10_holdsHouses {I : Wd} {k z : Nat} (hk : isS k) (hz : I k 1 = nI z) (hz2 : z ≤ 40) (h8 : ¬ 8 < nI z) : ∀ (n h : Nat) (x2 : Int32), h ≤ z → z < h + n → x2 = nI h → (∀ i, i < h → inR (I (k + 1) i) 0 (I 1 0 - 1)) → Bd SyC mX10_holdsHouses 2 13 [(2, .int x2), (0, .ref 0), (1, .ref k)] [] I (some (.int (bi (¬ 8 < nI z ∧ ∀ i, i < z → inR (I (k + 1) i) 0 (I 1 0 - 1))))) I := by
  intro n
  induction n with
  | zero => intro h x2 h1 h2; omega
  | succ n ih =>
    intro h x2 h1 h2 e2 hI
    subst e2
    refine b_iload_n (pc := 13) (i := 2) (dd dtX10_holdsHouses 8 rfl) rfl rfl ?_
    refine b_aload_n (pc := 14) (i := 1) (dd dtX10_holdsHouses 9 rfl) rfl rfl ?_
    refine b_geti (pc := 15) (dd dtX10_holdsHouses 10 rfl) fwX10_214 (pS_0 hk) ?_
    refine b_icmpL_ge (pc := 18) (tgt := 42) (dd dtX10_holdsHouses 11 rfl) (by decide) (fun h18 => ?_) (fun h18 => ?_)
    · rw [hz] at h18
      have he : h = z := Nat.le_antisymm h1 (ge_n h18 (by omega))
      subst he
      refine b_ic1 (pc := 42) (dd dtX10_holdsHouses 23 rfl) ?_
      refine b_eq (b_zret (dd dtX10_holdsHouses 24 rfl) rfl (by first | rfl | exact nar_bi)) ?_ ?_
      · rw [bi_t ⟨h8, hI⟩]
      · rfl
    · rw [hz] at h18
      have hlt : h < z := lt_n h18 (by omega) (by omega)
      refine b_aload_n (pc := 21) (i := 0) (dd dtX10_holdsHouses 12 rfl) rfl rfl ?_
      refine b_aload_n (pc := 22) (i := 1) (dd dtX10_holdsHouses 13 rfl) rfl rfl ?_
      refine b_geta (pc := 23) (dd dtX10_holdsHouses 14 rfl) fwX10_284 (pS_0 hk) (rS_2 hk) ?_
      refine b_iload_n (pc := 26) (i := 2) (dd dtX10_holdsHouses 15 rfl) rfl rfl ?_
      refine b_iald (pc := 27) (dd dtX10_holdsHouses 16 rfl) (pS_1 hk) (vpn rfl (show h < 40 by omega) (by decide)) ?_
      refine b_invV (pc := 28) (dd dtX10_holdsHouses 17 rfl) mlX10_131 mvX10_isHouse miX10_isHouse (c_X10_isHouse) oC_0 rfl rfl (by decide) (Nat.le_of_ble_eq_true rfl) ?_
      refine b_ifb_ne (pc := 31) (tgt := 36) (dd dtX10_holdsHouses 18 rfl) (by decide) (fun h31 => ?_) (fun h31 => ?_)
      · simp only [nI_clamp (show h < 2 ^ 31 by omega)] at h31
        refine b_iinc1 (pc := 36) (i := 2) (lv' := [(2, _), (0, _), (1, _)]) (dd dtX10_holdsHouses 21 rfl) rfl (Nat.le_of_ble_eq_true rfl) rfl ?_
        refine b_goto (pc := 39) (tgt := 13) (dd dtX10_holdsHouses 22 rfl) (by decide) ?_
        rw [nI_1]
        refine ih (h + 1) _ hlt (by omega) rfl ?_
        · intro i hi
          rcases Nat.lt_succ_iff_lt_or_eq.mp hi with q | q
          · exact hI i q
          · subst q; exact h31
      · simp only [nI_clamp (show h < 2 ^ 31 by omega)] at h31
        have hno : ¬ (¬ 8 < nI z ∧ ∀ i, i < z → inR (I (k + 1) i) 0 (I 1 0 - 1)) := fun q => h31 (q.2 h hlt)
        refine b_ic0 (pc := 34) (dd dtX10_holdsHouses 19 rfl) ?_
        refine b_eq (b_zret (dd dtX10_holdsHouses 20 rfl) rfl (by first | rfl | exact nar_bi)) ?_ ?_
        · rw [bi_f hno]
        · rfl
set_option maxHeartbeats 4000000 in
theorem c_X10_holdsHouses {I : Wd} {k z : Nat} (hk : isS k) (hz : I k 1 = nI z) (hz2 : z ≤ 40) : Cal SyC mX10_holdsHouses 2 [.ref 0, .ref k] I (some (.int (bi (¬ 8 < nI z ∧ ∀ i, i < z → inR (I (k + 1) i) 0 (I 1 0 - 1))))) I := by
  refine Cal.of (by decide) (Nat.le_of_ble_eq_true rfl) ?_
  show Bd _ _ _ _ [(0, _), (1, _)] _ _ _ _
  refine b_aload_n (pc := 0) (i := 1) (dd dtX10_holdsHouses 0 rfl) rfl rfl ?_
  refine b_geti (pc := 1) (dd dtX10_holdsHouses 1 rfl) fwX10_214 (pS_0 hk) ?_
  refine b_bipush (pc := 4) (v := 8) (dd dtX10_holdsHouses 2 rfl) (by decide) ?_
  rw [hz]
  refine b_icmpL_le (pc := 6) (tgt := 11) (dd dtX10_holdsHouses 3 rfl) (by decide) (fun h6 => ?_) (fun h6 => ?_)
  · refine b_ic0 (pc := 11) (dd dtX10_holdsHouses 6 rfl) ?_
    refine b_istore_n (pc := 12) (i := 2) (lv' := [(2, _), (0, _), (1, _)]) (dd dtX10_holdsHouses 7 rfl) rfl (Nat.le_of_ble_eq_true rfl) rfl ?_
    exact l_X10_holdsHouses hk hz hz2 h6 (z + 1) 0 _ (Nat.zero_le _) (by omega) rfl (fun i hi => absurd hi (Nat.not_lt_zero i))
  · refine b_ic0 (pc := 9) (dd dtX10_holdsHouses 4 rfl) ?_
    refine b_eq (b_zret (dd dtX10_holdsHouses 5 rfl) rfl (by first | rfl | exact nar_bi)) ?_ ?_
    · rw [bi_f (fun q => q.1 h6)]
    · rfl
def tX10_housesOfSet : List (Nat × Instr × Nat) := [(0, .iconst 0, 1), (1, .istore_n 2, 1), (2, .iconst 0, 1), (3, .istore_n 3, 1), (4, .iload_n 3, 1), (5, .aload_n 0, 1), (6, .getfield 214, 3), (9, .if_icmp .ge 28, 3), (12, .iload_n 1, 1), (13, .iload_n 3, 1), (14, .ishr, 1), (15, .iconst 1, 1), (16, .iand, 1), (17, .ifCond .eq 14, 3), (20, .iload_n 2, 1), (21, .iconst 1, 1), (22, .aload_n 0, 1), (23, .getfield 284, 3), (26, .iload_n 3, 1), (27, .iaload, 1), (28, .ishl, 1), (29, .ior, 1), (30, .istore_n 2, 1), (31, .iinc 3 1, 3), (34, .goto (-30), 3), (37, .iload_n 2, 1), (38, .ireturn, 1)]
theorem dtX10_housesOfSet : dec_ok mX10_housesOfSet.2.1 tX10_housesOfSet = true := by decide +kernel
set_option maxHeartbeats 4000000 in
theorem l_X10_housesOfSet {I : Wd} {k z : Nat} (hk : isS k) (hz : I k 1 = nI z) (hz2 : z ≤ 40) {set : Int32} : ∀ (n h : Nat) (x3 : Int32) (x2 : Int32), h ≤ z → z < h + n → x3 = nI h → x2 = (sHs (I (k + 1)) set h) → Bd SyC mX10_housesOfSet 0 4 [(3, .int x3), (2, .int x2), (0, .ref k), (1, .int set)] [] I (some (.int (sHs (I (k + 1)) set z))) I := by
  intro n
  induction n with
  | zero => intro h x3 x2 h1 h2; omega
  | succ n ih =>
    intro h x3 x2 h1 h2 e3 e2
    subst e3; subst e2
    refine b_iload_n (pc := 4) (i := 3) (dd dtX10_housesOfSet 4 rfl) rfl rfl ?_
    refine b_aload_n (pc := 5) (i := 0) (dd dtX10_housesOfSet 5 rfl) rfl rfl ?_
    refine b_geti (pc := 6) (dd dtX10_housesOfSet 6 rfl) fwX10_214 (pS_0 hk) ?_
    refine b_icmpL_ge (pc := 9) (tgt := 37) (dd dtX10_housesOfSet 7 rfl) (by decide) (fun h9 => ?_) (fun h9 => ?_)
    · rw [hz] at h9
      have he : h = z := Nat.le_antisymm h1 (ge_n h9 (by omega))
      subst he
      refine b_iload_n (pc := 37) (i := 2) (dd dtX10_housesOfSet 25 rfl) rfl rfl ?_
      exact b_eq (b_iret (dd dtX10_housesOfSet 26 rfl) rfl) rfl rfl
    · rw [hz] at h9
      have hlt : h < z := lt_n h9 (by omega) (by omega)
      refine b_iload_n (pc := 12) (i := 1) (dd dtX10_housesOfSet 8 rfl) rfl rfl ?_
      refine b_iload_n (pc := 13) (i := 3) (dd dtX10_housesOfSet 9 rfl) rfl rfl ?_
      refine b_ishr (pc := 14) (dd dtX10_housesOfSet 10 rfl) ?_
      refine b_ic1 (pc := 15) (dd dtX10_housesOfSet 11 rfl) ?_
      refine b_iand (pc := 16) (dd dtX10_housesOfSet 12 rfl) ?_
      refine b_if_eq (pc := 17) (tgt := 31) (dd dtX10_housesOfSet 13 rfl) (by decide) (fun h17 => ?_) (fun h17 => ?_)
      · refine b_iinc1 (pc := 31) (i := 3) (lv' := [(3, _), (2, _), (0, _), (1, _)]) (dd dtX10_housesOfSet 23 rfl) rfl (Nat.le_of_ble_eq_true rfl) rfl ?_
        refine b_goto (pc := 34) (tgt := 4) (dd dtX10_housesOfSet 24 rfl) (by decide) ?_
        rw [nI_1]
        refine ih (h + 1) _ _ hlt (by omega) rfl ?_
        · try simp only [nI_clamp (show h < 2 ^ 31 by omega)]
          simp only [sHs]
          first | rw [if_pos (show bitS set h = 0 from h17)] | rw [if_neg (show ¬ bitS set h = 0 from h17)]
      · refine b_iload_n (pc := 20) (i := 2) (dd dtX10_housesOfSet 14 rfl) rfl rfl ?_
        refine b_ic1 (pc := 21) (dd dtX10_housesOfSet 15 rfl) ?_
        refine b_aload_n (pc := 22) (i := 0) (dd dtX10_housesOfSet 16 rfl) rfl rfl ?_
        refine b_geta (pc := 23) (dd dtX10_housesOfSet 17 rfl) fwX10_284 (pS_0 hk) (rS_2 hk) ?_
        refine b_iload_n (pc := 26) (i := 3) (dd dtX10_housesOfSet 18 rfl) rfl rfl ?_
        refine b_iald (pc := 27) (dd dtX10_housesOfSet 19 rfl) (pS_1 hk) (vpn rfl (show h < 40 by omega) (by decide)) ?_
        refine b_ishl (pc := 28) (dd dtX10_housesOfSet 20 rfl) ?_
        refine b_ior (pc := 29) (dd dtX10_housesOfSet 21 rfl) ?_
        refine b_istore_n (pc := 30) (i := 2) (lv' := [(2, _), (3, _), (0, _), (1, _)]) (dd dtX10_housesOfSet 22 rfl) rfl (Nat.le_of_ble_eq_true rfl) rfl ?_
        refine b_iinc1 (pc := 31) (i := 3) (lv' := [(3, _), (2, _), (0, _), (1, _)]) (dd dtX10_housesOfSet 23 rfl) rfl (Nat.le_of_ble_eq_true rfl) rfl ?_
        refine b_goto (pc := 34) (tgt := 4) (dd dtX10_housesOfSet 24 rfl) (by decide) ?_
        rw [nI_1]
        refine ih (h + 1) _ _ hlt (by omega) rfl ?_
        · try simp only [nI_clamp (show h < 2 ^ 31 by omega)]
          simp only [sHs]
          first | rw [if_pos (show bitS set h = 0 from h17)] | rw [if_neg (show ¬ bitS set h = 0 from h17)]
set_option maxHeartbeats 4000000 in
theorem c_X10_housesOfSet {I : Wd} {k z : Nat} (hk : isS k) (hz : I k 1 = nI z) (hz2 : z ≤ 40) {set : Int32} : Cal SyC mX10_housesOfSet 0 [.ref k, .int set] I (some (.int (sHs (I (k + 1)) set z))) I := by
  refine Cal.of (by decide) (Nat.le_of_ble_eq_true rfl) ?_
  show Bd _ _ _ _ [(0, _), (1, _)] _ _ _ _
  refine b_ic0 (pc := 0) (dd dtX10_housesOfSet 0 rfl) ?_
  refine b_istore_n (pc := 1) (i := 2) (lv' := [(2, _), (0, _), (1, _)]) (dd dtX10_housesOfSet 1 rfl) rfl (Nat.le_of_ble_eq_true rfl) rfl ?_
  refine b_ic0 (pc := 2) (dd dtX10_housesOfSet 2 rfl) ?_
  refine b_istore_n (pc := 3) (i := 3) (lv' := [(3, _), (2, _), (0, _), (1, _)]) (dd dtX10_housesOfSet 3 rfl) rfl (Nat.le_of_ble_eq_true rfl) rfl ?_
  exact l_X10_housesOfSet hk hz hz2 (z + 1) 0 _ _ (Nat.zero_le _) (by omega) rfl rfl
def tX10_peopleToMove : List (Nat × Instr × Nat) := [(0, .iconst 0, 1), (1, .istore_n 2, 1), (2, .iconst 0, 1), (3, .istore_n 3, 1), (4, .iload_n 3, 1), (5, .aload_n 0, 1), (6, .getfield 10, 3), (9, .getfield 111, 3), (12, .if_icmp .ge 41, 3), (15, .iload_n 1, 1), (16, .iload_n 3, 1), (17, .ishr, 1), (18, .iconst 1, 1), (19, .iand, 1), (20, .ifCond .eq 27, 3), (23, .aload_n 0, 1), (24, .getfield 21, 3), (27, .getfield 137, 3), (30, .iload_n 3, 1), (31, .baload, 1), (32, .ifCond .ne 15, 3), (35, .iload_n 2, 1), (36, .aload_n 0, 1), (37, .getfield 10, 3), (40, .getfield 141, 3), (43, .iload_n 3, 1), (44, .iaload, 1), (45, .iadd, 1), (46, .istore_n 2, 1), (47, .iinc 3 1, 3), (50, .goto (-46), 3), (53, .iload_n 2, 1), (54, .ireturn, 1)]
theorem dtX10_peopleToMove : dec_ok mX10_peopleToMove.2.1 tX10_peopleToMove = true := by decide +kernel
set_option maxHeartbeats 4000000 in
theorem l_X10_peopleToMove {I : Wd} {N : Nat} (hN : I 1 0 = nI N) (hN2 : N ≤ 14) {hs : Int32} : ∀ (n h : Nat) (x3 : Int32) (x2 : Int32), h ≤ N → N < h + n → x3 = nI h → x2 = (sPm (I 15) (I 4) hs h) → Bd SyC mX10_peopleToMove 0 4 [(3, .int x3), (2, .int x2), (0, .ref 0), (1, .int hs)] [] I (some (.int (sPm (I 15) (I 4) hs N))) I := by
  intro n
  induction n with
  | zero => intro h x3 x2 h1 h2; omega
  | succ n ih =>
    intro h x3 x2 h1 h2 e3 e2
    subst e3; subst e2
    refine b_iload_n (pc := 4) (i := 3) (dd dtX10_peopleToMove 4 rfl) rfl rfl ?_
    refine b_aload_n (pc := 5) (i := 0) (dd dtX10_peopleToMove 5 rfl) rfl rfl ?_
    refine b_geta (pc := 6) (dd dtX10_peopleToMove 6 rfl) fwX10_10 pC_0 rC_0_0 ?_
    refine b_geti (pc := 9) (dd dtX10_peopleToMove 7 rfl) fwX10_111 pC_1 ?_
    refine b_icmpL_ge (pc := 12) (tgt := 53) (dd dtX10_peopleToMove 8 rfl) (by decide) (fun h12 => ?_) (fun h12 => ?_)
    · rw [hN] at h12
      have he : h = N := Nat.le_antisymm h1 (ge_n h12 (by omega))
      subst he
      refine b_iload_n (pc := 53) (i := 2) (dd dtX10_peopleToMove 31 rfl) rfl rfl ?_
      exact b_eq (b_iret (dd dtX10_peopleToMove 32 rfl) rfl) rfl rfl
    · rw [hN] at h12
      have hlt : h < N := lt_n h12 (by omega) (by omega)
      refine b_iload_n (pc := 15) (i := 1) (dd dtX10_peopleToMove 9 rfl) rfl rfl ?_
      refine b_iload_n (pc := 16) (i := 3) (dd dtX10_peopleToMove 10 rfl) rfl rfl ?_
      refine b_ishr (pc := 17) (dd dtX10_peopleToMove 11 rfl) ?_
      refine b_ic1 (pc := 18) (dd dtX10_peopleToMove 12 rfl) ?_
      refine b_iand (pc := 19) (dd dtX10_peopleToMove 13 rfl) ?_
      refine b_if_eq (pc := 20) (tgt := 47) (dd dtX10_peopleToMove 14 rfl) (by decide) (fun h20 => ?_) (fun h20 => ?_)
      · refine b_iinc1 (pc := 47) (i := 3) (lv' := [(3, _), (2, _), (0, _), (1, _)]) (dd dtX10_peopleToMove 29 rfl) rfl (Nat.le_of_ble_eq_true rfl) rfl ?_
        refine b_goto (pc := 50) (tgt := 4) (dd dtX10_peopleToMove 30 rfl) (by decide) ?_
        rw [nI_1]
        refine ih (h + 1) _ _ hlt (by omega) rfl ?_
        · try simp only [nI_clamp (show h < 2 ^ 31 by omega)] at h20
          try simp only [nI_clamp (show h < 2 ^ 31 by omega)] at h32
          try simp only [nI_clamp (show h < 2 ^ 31 by omega)]
          simp [sPm, bitS, -Int32.not_lt, -Int32.not_le, *]
      · refine b_aload_n (pc := 23) (i := 0) (dd dtX10_peopleToMove 15 rfl) rfl rfl ?_
        refine b_geta (pc := 24) (dd dtX10_peopleToMove 16 rfl) fwX10_21 pC_0 rC_0_1 ?_
        refine b_geta (pc := 27) (dd dtX10_peopleToMove 17 rfl) fwX10_137 pC_6 rC_6_13 ?_
        refine b_iload_n (pc := 30) (i := 3) (dd dtX10_peopleToMove 18 rfl) rfl rfl ?_
        refine b_zald (pc := 31) (dd dtX10_peopleToMove 19 rfl) pC_15 (vpn rfl (show h < 14 by omega) (by decide)) ?_
        refine b_if_ne (pc := 32) (tgt := 47) (dd dtX10_peopleToMove 20 rfl) (by decide) (fun h32 => ?_) (fun h32 => ?_)
        · refine b_iinc1 (pc := 47) (i := 3) (lv' := [(3, _), (2, _), (0, _), (1, _)]) (dd dtX10_peopleToMove 29 rfl) rfl (Nat.le_of_ble_eq_true rfl) rfl ?_
          refine b_goto (pc := 50) (tgt := 4) (dd dtX10_peopleToMove 30 rfl) (by decide) ?_
          rw [nI_1]
          refine ih (h + 1) _ _ hlt (by omega) rfl ?_
          · try simp only [nI_clamp (show h < 2 ^ 31 by omega)] at h20
            try simp only [nI_clamp (show h < 2 ^ 31 by omega)] at h32
            try simp only [nI_clamp (show h < 2 ^ 31 by omega)]
            simp [sPm, bitS, -Int32.not_lt, -Int32.not_le, *]
        · refine b_iload_n (pc := 35) (i := 2) (dd dtX10_peopleToMove 21 rfl) rfl rfl ?_
          refine b_aload_n (pc := 36) (i := 0) (dd dtX10_peopleToMove 22 rfl) rfl rfl ?_
          refine b_geta (pc := 37) (dd dtX10_peopleToMove 23 rfl) fwX10_10 pC_0 rC_0_0 ?_
          refine b_geta (pc := 40) (dd dtX10_peopleToMove 24 rfl) fwX10_141 pC_1 rC_1_4 ?_
          refine b_iload_n (pc := 43) (i := 3) (dd dtX10_peopleToMove 25 rfl) rfl rfl ?_
          refine b_iald (pc := 44) (dd dtX10_peopleToMove 26 rfl) pC_4 (vpn rfl (show h < 14 by omega) (by decide)) ?_
          refine b_iadd (pc := 45) (dd dtX10_peopleToMove 27 rfl) ?_
          refine b_istore_n (pc := 46) (i := 2) (lv' := [(2, _), (3, _), (0, _), (1, _)]) (dd dtX10_peopleToMove 28 rfl) rfl (Nat.le_of_ble_eq_true rfl) rfl ?_
          refine b_iinc1 (pc := 47) (i := 3) (lv' := [(3, _), (2, _), (0, _), (1, _)]) (dd dtX10_peopleToMove 29 rfl) rfl (Nat.le_of_ble_eq_true rfl) rfl ?_
          refine b_goto (pc := 50) (tgt := 4) (dd dtX10_peopleToMove 30 rfl) (by decide) ?_
          rw [nI_1]
          refine ih (h + 1) _ _ hlt (by omega) rfl ?_
          · try simp only [nI_clamp (show h < 2 ^ 31 by omega)] at h20
            try simp only [nI_clamp (show h < 2 ^ 31 by omega)] at h32
            try simp only [nI_clamp (show h < 2 ^ 31 by omega)]
            simp [sPm, bitS, -Int32.not_lt, -Int32.not_le, *]
set_option maxHeartbeats 4000000 in
theorem c_X10_peopleToMove {I : Wd} {N : Nat} (hN : I 1 0 = nI N) (hN2 : N ≤ 14) {hs : Int32} : Cal SyC mX10_peopleToMove 0 [.ref 0, .int hs] I (some (.int (sPm (I 15) (I 4) hs N))) I := by
  refine Cal.of (by decide) (Nat.le_of_ble_eq_true rfl) ?_
  show Bd _ _ _ _ [(0, _), (1, _)] _ _ _ _
  refine b_ic0 (pc := 0) (dd dtX10_peopleToMove 0 rfl) ?_
  refine b_istore_n (pc := 1) (i := 2) (lv' := [(2, _), (0, _), (1, _)]) (dd dtX10_peopleToMove 1 rfl) rfl (Nat.le_of_ble_eq_true rfl) rfl ?_
  refine b_ic0 (pc := 2) (dd dtX10_peopleToMove 2 rfl) ?_
  refine b_istore_n (pc := 3) (i := 3) (lv' := [(3, _), (2, _), (0, _), (1, _)]) (dd dtX10_peopleToMove 3 rfl) rfl (Nat.le_of_ble_eq_true rfl) rfl ?_
  exact l_X10_peopleToMove hN hN2 (N + 1) 0 _ _ (Nat.zero_le _) (by omega) rfl rfl
def tX10_sparedBy : List (Nat × Instr × Nat) := [(0, .iconst 0, 1), (1, .istore_n 2, 1), (2, .iconst 0, 1), (3, .istore_n 3, 1), (4, .iload_n 3, 1), (5, .aload_n 0, 1), (6, .getfield 10, 3), (9, .getfield 111, 3), (12, .if_icmp .ge 81, 3), (15, .aload_n 0, 1), (16, .getfield 21, 3), (19, .getfield 134, 3), (22, .iload_n 3, 1), (23, .iaload, 1), (24, .ifCond .ge 19, 3), (27, .aload_n 0, 1), (28, .getfield 25, 3), (31, .getfield 134, 3), (34, .iload_n 3, 1), (35, .iaload, 1), (36, .ifCond .lt 7, 3), (39, .iconst 1, 1), (40, .goto 4, 3), (43, .iconst 0, 1), (44, .istore 4, 2), (46, .iload_n 1, 1), (47, .iload_n 3, 1), (48, .ishr, 1), (49, .iconst 1, 1), (50, .iand, 1), (51, .ifCond .eq 36, 3), (54, .aload_n 0, 1), (55, .getfield 21, 3), (58, .getfield 137, 3), (61, .iload_n 3, 1), (62, .baload, 1), (63, .ifCond .ne 24, 3), (66, .iload 4, 2), (68, .ifCond .eq 19, 3), (71, .iload_n 2, 1), (72, .sipush 1000, 3), (75, .aload_n 0, 1), (76, .getfield 10, 3), (79, .getfield 141, 3), (82, .iload_n 3, 1), (83, .iaload, 1), (84, .imul, 1), (85, .iadd, 1), (86, .istore_n 2, 1), (87, .iinc 3 1, 3), (90, .goto (-86), 3), (93, .iload_n 2, 1), (94, .ireturn, 1)]
theorem dtX10_sparedBy : dec_ok mX10_sparedBy.2.1 tX10_sparedBy = true := by decide +kernel
set_option maxHeartbeats 4000000 in
theorem l_X10_sparedBy {I : Wd} {N : Nat} (hN : I 1 0 = nI N) (hN2 : N ≤ 14) {hs : Int32} : ∀ (n h : Nat) (x3 : Int32) (x2 : Int32), h ≤ N → N < h + n → x3 = nI h → x2 = (sSp (I 14) (I 26) (I 15) (I 4) hs h) → Bd SyC mX10_sparedBy 0 4 [(3, .int x3), (2, .int x2), (0, .ref 0), (1, .int hs)] [] I (some (.int (sSp (I 14) (I 26) (I 15) (I 4) hs N))) I := by
  intro n
  induction n with
  | zero => intro h x3 x2 h1 h2; omega
  | succ n ih =>
    intro h x3 x2 h1 h2 e3 e2
    subst e3; subst e2
    refine b_iload_n (pc := 4) (i := 3) (dd dtX10_sparedBy 4 rfl) rfl rfl ?_
    refine b_aload_n (pc := 5) (i := 0) (dd dtX10_sparedBy 5 rfl) rfl rfl ?_
    refine b_geta (pc := 6) (dd dtX10_sparedBy 6 rfl) fwX10_10 pC_0 rC_0_0 ?_
    refine b_geti (pc := 9) (dd dtX10_sparedBy 7 rfl) fwX10_111 pC_1 ?_
    refine b_icmpL_ge (pc := 12) (tgt := 93) (dd dtX10_sparedBy 8 rfl) (by decide) (fun h12 => ?_) (fun h12 => ?_)
    · rw [hN] at h12
      have he : h = N := Nat.le_antisymm h1 (ge_n h12 (by omega))
      subst he
      refine b_iload_n (pc := 93) (i := 2) (dd dtX10_sparedBy 51 rfl) rfl rfl ?_
      exact b_eq (b_iret (dd dtX10_sparedBy 52 rfl) rfl) rfl rfl
    · rw [hN] at h12
      have hlt : h < N := lt_n h12 (by omega) (by omega)
      refine b_aload_n (pc := 15) (i := 0) (dd dtX10_sparedBy 9 rfl) rfl rfl ?_
      refine b_geta (pc := 16) (dd dtX10_sparedBy 10 rfl) fwX10_21 pC_0 rC_0_1 ?_
      refine b_geta (pc := 19) (dd dtX10_sparedBy 11 rfl) fwX10_134 pC_6 rC_6_12 ?_
      refine b_iload_n (pc := 22) (i := 3) (dd dtX10_sparedBy 12 rfl) rfl rfl ?_
      refine b_iald (pc := 23) (dd dtX10_sparedBy 13 rfl) pC_14 (vpn rfl (show h < 14 by omega) (by decide)) ?_
      refine b_ifL_ge (pc := 24) (tgt := 43) (dd dtX10_sparedBy 14 rfl) (by decide) (fun h24 => ?_) (fun h24 => ?_)
      · refine b_ic0 (pc := 43) (dd dtX10_sparedBy 23 rfl) ?_
        refine b_istore (pc := 44) (i := 4) (lv' := [(4, _), (3, _), (2, _), (0, _), (1, _)]) (dd dtX10_sparedBy 24 rfl) (Nat.le_of_ble_eq_true rfl) rfl ?_
        refine b_iload_n (pc := 46) (i := 1) (dd dtX10_sparedBy 25 rfl) rfl rfl ?_
        refine b_iload_n (pc := 47) (i := 3) (dd dtX10_sparedBy 26 rfl) rfl rfl ?_
        refine b_ishr (pc := 48) (dd dtX10_sparedBy 27 rfl) ?_
        refine b_ic1 (pc := 49) (dd dtX10_sparedBy 28 rfl) ?_
        refine b_iand (pc := 50) (dd dtX10_sparedBy 29 rfl) ?_
        refine b_if_eq (pc := 51) (tgt := 87) (dd dtX10_sparedBy 30 rfl) (by decide) (fun h51 => ?_) (fun h51 => ?_)
        · refine b_iinc1 (pc := 87) (i := 3) (lv' := [(3, _), (4, _), (2, _), (0, _), (1, _)]) (dd dtX10_sparedBy 49 rfl) rfl (Nat.le_of_ble_eq_true rfl) rfl ?_
          refine b_goto (pc := 90) (tgt := 4) (dd dtX10_sparedBy 50 rfl) (by decide) ?_
          refine b_pick [0, 2, 3, 4] (lv' := [(3, _), (2, _), (0, _), (1, _)]) rfl ?_
          rw [nI_1]
          refine ih (h + 1) _ _ hlt (by omega) rfl ?_
          · try simp only [nI_clamp (show h < 2 ^ 31 by omega)] at h24
            try simp only [nI_clamp (show h < 2 ^ 31 by omega)] at h36
            try simp only [nI_clamp (show h < 2 ^ 31 by omega)] at h51
            try simp only [nI_clamp (show h < 2 ^ 31 by omega)] at h63
            try simp only [nI_clamp (show h < 2 ^ 31 by omega)]
            simp [sSp, bitS, -Int32.not_lt, -Int32.not_le, *]
        · refine b_aload_n (pc := 54) (i := 0) (dd dtX10_sparedBy 31 rfl) rfl rfl ?_
          refine b_geta (pc := 55) (dd dtX10_sparedBy 32 rfl) fwX10_21 pC_0 rC_0_1 ?_
          refine b_geta (pc := 58) (dd dtX10_sparedBy 33 rfl) fwX10_137 pC_6 rC_6_13 ?_
          refine b_iload_n (pc := 61) (i := 3) (dd dtX10_sparedBy 34 rfl) rfl rfl ?_
          refine b_zald (pc := 62) (dd dtX10_sparedBy 35 rfl) pC_15 (vpn rfl (show h < 14 by omega) (by decide)) ?_
          refine b_if_ne (pc := 63) (tgt := 87) (dd dtX10_sparedBy 36 rfl) (by decide) (fun h63 => ?_) (fun h63 => ?_)
          · refine b_iinc1 (pc := 87) (i := 3) (lv' := [(3, _), (4, _), (2, _), (0, _), (1, _)]) (dd dtX10_sparedBy 49 rfl) rfl (Nat.le_of_ble_eq_true rfl) rfl ?_
            refine b_goto (pc := 90) (tgt := 4) (dd dtX10_sparedBy 50 rfl) (by decide) ?_
            refine b_pick [0, 2, 3, 4] (lv' := [(3, _), (2, _), (0, _), (1, _)]) rfl ?_
            rw [nI_1]
            refine ih (h + 1) _ _ hlt (by omega) rfl ?_
            · try simp only [nI_clamp (show h < 2 ^ 31 by omega)] at h24
              try simp only [nI_clamp (show h < 2 ^ 31 by omega)] at h36
              try simp only [nI_clamp (show h < 2 ^ 31 by omega)] at h51
              try simp only [nI_clamp (show h < 2 ^ 31 by omega)] at h63
              try simp only [nI_clamp (show h < 2 ^ 31 by omega)]
              simp [sSp, bitS, -Int32.not_lt, -Int32.not_le, *]
          · refine b_iload (pc := 66) (i := 4) (dd dtX10_sparedBy 37 rfl) rfl ?_
            refine b_if_eq (pc := 68) (tgt := 87) (dd dtX10_sparedBy 38 rfl) (by decide) (fun h68 => ?_) (fun h68 => absurd h68 (by decide))
            refine b_iinc1 (pc := 87) (i := 3) (lv' := [(3, _), (4, _), (2, _), (0, _), (1, _)]) (dd dtX10_sparedBy 49 rfl) rfl (Nat.le_of_ble_eq_true rfl) rfl ?_
            refine b_goto (pc := 90) (tgt := 4) (dd dtX10_sparedBy 50 rfl) (by decide) ?_
            refine b_pick [0, 2, 3, 4] (lv' := [(3, _), (2, _), (0, _), (1, _)]) rfl ?_
            rw [nI_1]
            refine ih (h + 1) _ _ hlt (by omega) rfl ?_
            · try simp only [nI_clamp (show h < 2 ^ 31 by omega)] at h24
              try simp only [nI_clamp (show h < 2 ^ 31 by omega)] at h36
              try simp only [nI_clamp (show h < 2 ^ 31 by omega)] at h51
              try simp only [nI_clamp (show h < 2 ^ 31 by omega)] at h63
              try simp only [nI_clamp (show h < 2 ^ 31 by omega)]
              simp [sSp, bitS, -Int32.not_lt, -Int32.not_le, *]
      · refine b_aload_n (pc := 27) (i := 0) (dd dtX10_sparedBy 15 rfl) rfl rfl ?_
        refine b_geta (pc := 28) (dd dtX10_sparedBy 16 rfl) fwX10_25 pC_0 rC_0_2 ?_
        refine b_geta (pc := 31) (dd dtX10_sparedBy 17 rfl) fwX10_134 pC_18 rC_18_12 ?_
        refine b_iload_n (pc := 34) (i := 3) (dd dtX10_sparedBy 18 rfl) rfl rfl ?_
        refine b_iald (pc := 35) (dd dtX10_sparedBy 19 rfl) pC_26 (vpn rfl (show h < 14 by omega) (by decide)) ?_
        refine b_if_lt (pc := 36) (tgt := 43) (dd dtX10_sparedBy 20 rfl) (by decide) (fun h36 => ?_) (fun h36 => ?_)
        · refine b_ic0 (pc := 43) (dd dtX10_sparedBy 23 rfl) ?_
          refine b_istore (pc := 44) (i := 4) (lv' := [(4, _), (3, _), (2, _), (0, _), (1, _)]) (dd dtX10_sparedBy 24 rfl) (Nat.le_of_ble_eq_true rfl) rfl ?_
          refine b_iload_n (pc := 46) (i := 1) (dd dtX10_sparedBy 25 rfl) rfl rfl ?_
          refine b_iload_n (pc := 47) (i := 3) (dd dtX10_sparedBy 26 rfl) rfl rfl ?_
          refine b_ishr (pc := 48) (dd dtX10_sparedBy 27 rfl) ?_
          refine b_ic1 (pc := 49) (dd dtX10_sparedBy 28 rfl) ?_
          refine b_iand (pc := 50) (dd dtX10_sparedBy 29 rfl) ?_
          refine b_if_eq (pc := 51) (tgt := 87) (dd dtX10_sparedBy 30 rfl) (by decide) (fun h51 => ?_) (fun h51 => ?_)
          · refine b_iinc1 (pc := 87) (i := 3) (lv' := [(3, _), (4, _), (2, _), (0, _), (1, _)]) (dd dtX10_sparedBy 49 rfl) rfl (Nat.le_of_ble_eq_true rfl) rfl ?_
            refine b_goto (pc := 90) (tgt := 4) (dd dtX10_sparedBy 50 rfl) (by decide) ?_
            refine b_pick [0, 2, 3, 4] (lv' := [(3, _), (2, _), (0, _), (1, _)]) rfl ?_
            rw [nI_1]
            refine ih (h + 1) _ _ hlt (by omega) rfl ?_
            · try simp only [nI_clamp (show h < 2 ^ 31 by omega)] at h24
              try simp only [nI_clamp (show h < 2 ^ 31 by omega)] at h36
              try simp only [nI_clamp (show h < 2 ^ 31 by omega)] at h51
              try simp only [nI_clamp (show h < 2 ^ 31 by omega)] at h63
              try simp only [nI_clamp (show h < 2 ^ 31 by omega)]
              simp [sSp, bitS, -Int32.not_lt, -Int32.not_le, *]
          · refine b_aload_n (pc := 54) (i := 0) (dd dtX10_sparedBy 31 rfl) rfl rfl ?_
            refine b_geta (pc := 55) (dd dtX10_sparedBy 32 rfl) fwX10_21 pC_0 rC_0_1 ?_
            refine b_geta (pc := 58) (dd dtX10_sparedBy 33 rfl) fwX10_137 pC_6 rC_6_13 ?_
            refine b_iload_n (pc := 61) (i := 3) (dd dtX10_sparedBy 34 rfl) rfl rfl ?_
            refine b_zald (pc := 62) (dd dtX10_sparedBy 35 rfl) pC_15 (vpn rfl (show h < 14 by omega) (by decide)) ?_
            refine b_if_ne (pc := 63) (tgt := 87) (dd dtX10_sparedBy 36 rfl) (by decide) (fun h63 => ?_) (fun h63 => ?_)
            · refine b_iinc1 (pc := 87) (i := 3) (lv' := [(3, _), (4, _), (2, _), (0, _), (1, _)]) (dd dtX10_sparedBy 49 rfl) rfl (Nat.le_of_ble_eq_true rfl) rfl ?_
              refine b_goto (pc := 90) (tgt := 4) (dd dtX10_sparedBy 50 rfl) (by decide) ?_
              refine b_pick [0, 2, 3, 4] (lv' := [(3, _), (2, _), (0, _), (1, _)]) rfl ?_
              rw [nI_1]
              refine ih (h + 1) _ _ hlt (by omega) rfl ?_
              · try simp only [nI_clamp (show h < 2 ^ 31 by omega)] at h24
                try simp only [nI_clamp (show h < 2 ^ 31 by omega)] at h36
                try simp only [nI_clamp (show h < 2 ^ 31 by omega)] at h51
                try simp only [nI_clamp (show h < 2 ^ 31 by omega)] at h63
                try simp only [nI_clamp (show h < 2 ^ 31 by omega)]
                simp [sSp, bitS, -Int32.not_lt, -Int32.not_le, *]
            · refine b_iload (pc := 66) (i := 4) (dd dtX10_sparedBy 37 rfl) rfl ?_
              refine b_if_eq (pc := 68) (tgt := 87) (dd dtX10_sparedBy 38 rfl) (by decide) (fun h68 => ?_) (fun h68 => absurd h68 (by decide))
              refine b_iinc1 (pc := 87) (i := 3) (lv' := [(3, _), (4, _), (2, _), (0, _), (1, _)]) (dd dtX10_sparedBy 49 rfl) rfl (Nat.le_of_ble_eq_true rfl) rfl ?_
              refine b_goto (pc := 90) (tgt := 4) (dd dtX10_sparedBy 50 rfl) (by decide) ?_
              refine b_pick [0, 2, 3, 4] (lv' := [(3, _), (2, _), (0, _), (1, _)]) rfl ?_
              rw [nI_1]
              refine ih (h + 1) _ _ hlt (by omega) rfl ?_
              · try simp only [nI_clamp (show h < 2 ^ 31 by omega)] at h24
                try simp only [nI_clamp (show h < 2 ^ 31 by omega)] at h36
                try simp only [nI_clamp (show h < 2 ^ 31 by omega)] at h51
                try simp only [nI_clamp (show h < 2 ^ 31 by omega)] at h63
                try simp only [nI_clamp (show h < 2 ^ 31 by omega)]
                simp [sSp, bitS, -Int32.not_lt, -Int32.not_le, *]
        · refine b_ic1 (pc := 39) (dd dtX10_sparedBy 21 rfl) ?_
          refine b_goto (pc := 40) (tgt := 44) (dd dtX10_sparedBy 22 rfl) (by decide) ?_
          refine b_istore (pc := 44) (i := 4) (lv' := [(4, _), (3, _), (2, _), (0, _), (1, _)]) (dd dtX10_sparedBy 24 rfl) (Nat.le_of_ble_eq_true rfl) rfl ?_
          refine b_iload_n (pc := 46) (i := 1) (dd dtX10_sparedBy 25 rfl) rfl rfl ?_
          refine b_iload_n (pc := 47) (i := 3) (dd dtX10_sparedBy 26 rfl) rfl rfl ?_
          refine b_ishr (pc := 48) (dd dtX10_sparedBy 27 rfl) ?_
          refine b_ic1 (pc := 49) (dd dtX10_sparedBy 28 rfl) ?_
          refine b_iand (pc := 50) (dd dtX10_sparedBy 29 rfl) ?_
          refine b_if_eq (pc := 51) (tgt := 87) (dd dtX10_sparedBy 30 rfl) (by decide) (fun h51 => ?_) (fun h51 => ?_)
          · refine b_iinc1 (pc := 87) (i := 3) (lv' := [(3, _), (4, _), (2, _), (0, _), (1, _)]) (dd dtX10_sparedBy 49 rfl) rfl (Nat.le_of_ble_eq_true rfl) rfl ?_
            refine b_goto (pc := 90) (tgt := 4) (dd dtX10_sparedBy 50 rfl) (by decide) ?_
            refine b_pick [0, 2, 3, 4] (lv' := [(3, _), (2, _), (0, _), (1, _)]) rfl ?_
            rw [nI_1]
            refine ih (h + 1) _ _ hlt (by omega) rfl ?_
            · try simp only [nI_clamp (show h < 2 ^ 31 by omega)] at h24
              try simp only [nI_clamp (show h < 2 ^ 31 by omega)] at h36
              try simp only [nI_clamp (show h < 2 ^ 31 by omega)] at h51
              try simp only [nI_clamp (show h < 2 ^ 31 by omega)] at h63
              try simp only [nI_clamp (show h < 2 ^ 31 by omega)]
              simp [sSp, bitS, -Int32.not_lt, -Int32.not_le, *]
          · refine b_aload_n (pc := 54) (i := 0) (dd dtX10_sparedBy 31 rfl) rfl rfl ?_
            refine b_geta (pc := 55) (dd dtX10_sparedBy 32 rfl) fwX10_21 pC_0 rC_0_1 ?_
            refine b_geta (pc := 58) (dd dtX10_sparedBy 33 rfl) fwX10_137 pC_6 rC_6_13 ?_
            refine b_iload_n (pc := 61) (i := 3) (dd dtX10_sparedBy 34 rfl) rfl rfl ?_
            refine b_zald (pc := 62) (dd dtX10_sparedBy 35 rfl) pC_15 (vpn rfl (show h < 14 by omega) (by decide)) ?_
            refine b_if_ne (pc := 63) (tgt := 87) (dd dtX10_sparedBy 36 rfl) (by decide) (fun h63 => ?_) (fun h63 => ?_)
            · refine b_iinc1 (pc := 87) (i := 3) (lv' := [(3, _), (4, _), (2, _), (0, _), (1, _)]) (dd dtX10_sparedBy 49 rfl) rfl (Nat.le_of_ble_eq_true rfl) rfl ?_
              refine b_goto (pc := 90) (tgt := 4) (dd dtX10_sparedBy 50 rfl) (by decide) ?_
              refine b_pick [0, 2, 3, 4] (lv' := [(3, _), (2, _), (0, _), (1, _)]) rfl ?_
              rw [nI_1]
              refine ih (h + 1) _ _ hlt (by omega) rfl ?_
              · try simp only [nI_clamp (show h < 2 ^ 31 by omega)] at h24
                try simp only [nI_clamp (show h < 2 ^ 31 by omega)] at h36
                try simp only [nI_clamp (show h < 2 ^ 31 by omega)] at h51
                try simp only [nI_clamp (show h < 2 ^ 31 by omega)] at h63
                try simp only [nI_clamp (show h < 2 ^ 31 by omega)]
                simp [sSp, bitS, -Int32.not_lt, -Int32.not_le, *]
            · refine b_iload (pc := 66) (i := 4) (dd dtX10_sparedBy 37 rfl) rfl ?_
              refine b_if_eq (pc := 68) (tgt := 87) (dd dtX10_sparedBy 38 rfl) (by decide) (fun h68 => absurd h68 (by decide)) (fun h68 => ?_)
              refine b_iload_n (pc := 71) (i := 2) (dd dtX10_sparedBy 39 rfl) rfl rfl ?_
              refine b_sipush (pc := 72) (v := 1000) (dd dtX10_sparedBy 40 rfl) (by decide) ?_
              refine b_aload_n (pc := 75) (i := 0) (dd dtX10_sparedBy 41 rfl) rfl rfl ?_
              refine b_geta (pc := 76) (dd dtX10_sparedBy 42 rfl) fwX10_10 pC_0 rC_0_0 ?_
              refine b_geta (pc := 79) (dd dtX10_sparedBy 43 rfl) fwX10_141 pC_1 rC_1_4 ?_
              refine b_iload_n (pc := 82) (i := 3) (dd dtX10_sparedBy 44 rfl) rfl rfl ?_
              refine b_iald (pc := 83) (dd dtX10_sparedBy 45 rfl) pC_4 (vpn rfl (show h < 14 by omega) (by decide)) ?_
              refine b_imul (pc := 84) (dd dtX10_sparedBy 46 rfl) ?_
              refine b_iadd (pc := 85) (dd dtX10_sparedBy 47 rfl) ?_
              refine b_istore_n (pc := 86) (i := 2) (lv' := [(2, _), (4, _), (3, _), (0, _), (1, _)]) (dd dtX10_sparedBy 48 rfl) rfl (Nat.le_of_ble_eq_true rfl) rfl ?_
              refine b_iinc1 (pc := 87) (i := 3) (lv' := [(3, _), (2, _), (4, _), (0, _), (1, _)]) (dd dtX10_sparedBy 49 rfl) rfl (Nat.le_of_ble_eq_true rfl) rfl ?_
              refine b_goto (pc := 90) (tgt := 4) (dd dtX10_sparedBy 50 rfl) (by decide) ?_
              refine b_pick [0, 1, 3, 4] (lv' := [(3, _), (2, _), (0, _), (1, _)]) rfl ?_
              rw [nI_1]
              refine ih (h + 1) _ _ hlt (by omega) rfl ?_
              · try simp only [nI_clamp (show h < 2 ^ 31 by omega)] at h24
                try simp only [nI_clamp (show h < 2 ^ 31 by omega)] at h36
                try simp only [nI_clamp (show h < 2 ^ 31 by omega)] at h51
                try simp only [nI_clamp (show h < 2 ^ 31 by omega)] at h63
                try simp only [nI_clamp (show h < 2 ^ 31 by omega)]
                simp [sSp, bitS, -Int32.not_lt, -Int32.not_le, *]
set_option maxHeartbeats 4000000 in
theorem c_X10_sparedBy {I : Wd} {N : Nat} (hN : I 1 0 = nI N) (hN2 : N ≤ 14) {hs : Int32} : Cal SyC mX10_sparedBy 0 [.ref 0, .int hs] I (some (.int (sSp (I 14) (I 26) (I 15) (I 4) hs N))) I := by
  refine Cal.of (by decide) (Nat.le_of_ble_eq_true rfl) ?_
  show Bd _ _ _ _ [(0, _), (1, _)] _ _ _ _
  refine b_ic0 (pc := 0) (dd dtX10_sparedBy 0 rfl) ?_
  refine b_istore_n (pc := 1) (i := 2) (lv' := [(2, _), (0, _), (1, _)]) (dd dtX10_sparedBy 1 rfl) rfl (Nat.le_of_ble_eq_true rfl) rfl ?_
  refine b_ic0 (pc := 2) (dd dtX10_sparedBy 2 rfl) ?_
  refine b_istore_n (pc := 3) (i := 3) (lv' := [(3, _), (2, _), (0, _), (1, _)]) (dd dtX10_sparedBy 3 rfl) rfl (Nat.le_of_ble_eq_true rfl) rfl ?_
  exact l_X10_sparedBy hN hN2 (N + 1) 0 _ _ (Nat.zero_le _) (by omega) rfl rfl
def plSp (I : Wd) (J : Wd) (k z N : Nat) (room : Int32) (set : Int32) : Int32 := if room < sPm (I 15) (I 4) (sHs (I (k + 1)) set z) N then 0 else sSp (I 14) (J 26) (I 15) (I 4) (sHs (I (k + 1)) set z) N
/-- the most that the sets ahead of h spare, and which set it is -/
def plS (I : Wd) (J : Wd) (k z N : Nat) (room : Int32) : Nat → Int32 × Int32
  | 0 => (0, 0)
  | h + 1 => if h = 0 then (0, 0) else if (plS I J k z N room h).1 < plSp I J k z N room (nI h) then (plSp I J k z N room (nI h), nI h) else plS I J k z N room h
theorem shl_n : ∀ z, z ≤ 8 → (1 : Int32) <<< (nI z &&& 31) = nI (2 ^ z) := by decide +kernel
theorem pow_n : ∀ z, z ≤ 8 → 1 ≤ 2 ^ z ∧ 2 ^ z ≤ 256 := by decide +kernel
abbrev okPlan (ms : Prop) (hh : Prop) (month s room n : Int32) : Prop := (inR s 0 3 ∧ ¬ ms) ∧ (hh ∧ inR room 0 999) ∧ inR n 1 60 ∧ ¬ 1200 - month < n
def tX10_plan : List (Nat × Instr × Nat) := [(0, .iload_n 1, 1), (1, .invokestatic 208, 3), (4, .ifCond .eq 15, 3), (7, .aload_n 0, 1), (8, .getfield 70, 3), (11, .iload_n 1, 1), (12, .aaload, 1), (13, .invokevirtual 211, 3), (16, .ifCond .eq 7, 3), (19, .ldc2_w 256, 3), (22, .lreturn, 1), (23, .aload_n 0, 1), (24, .getfield 70, 3), (27, .iload_n 1, 1), (28, .aaload, 1), (29, .astore 4, 2), (31, .aload_n 0, 1), (32, .aload 4, 2), (34, .invokevirtual 334, 3), (37, .ifCond .eq 14, 3), (40, .iload_n 2, 1), (41, .iconst 0, 1), (42, .sipush 999, 3), (45, .invokestatic 97, 3), (48, .ifCond .ne 7, 3), (51, .ldc2_w 256, 3), (54, .lreturn, 1), (55, .iload_n 3, 1), (56, .iconst 1, 1), (57, .bipush 60, 2), (59, .invokestatic 97, 3), (62, .ifCond .eq 11, 3), (65, .aload_n 0, 1), (66, .iload_n 3, 1), (67, .invokevirtual 144, 3), (70, .ifCond .ne 7, 3), (73, .ldc2_w 256, 3), (76, .lreturn, 1), (77, .aload_n 0, 1), (78, .getfield 25, 3), (81, .aload_n 0, 1), (82, .getfield 21, 3), (85, .invokevirtual 324, 3), (88, .aload_n 0, 1), (89, .getfield 25, 3), (92, .iload_n 3, 1), (93, .invokevirtual 147, 3), (96, .iconst 0, 1), (97, .istore 5, 2), (99, .aload_n 0, 1), (100, .iconst 0, 1), (101, .putfield 82, 3), (104, .iconst 1, 1), (105, .istore 6, 2), (107, .iload 6, 2), (109, .iconst 1, 1), (110, .aload 4, 2), (112, .getfield 214, 3), (115, .ishl, 1), (116, .if_icmp .ge 57, 3), (119, .aload 4, 2), (121, .iload 6, 2), (123, .invokestatic 337, 3), (126, .istore 7, 2), (128, .aload_n 0, 1), (129, .iload 7, 2), (131, .invokevirtual 340, 3), (134, .iload_n 2, 1), (135, .if_icmp .le 7, 3), (138, .iconst 0, 1), (139, .goto 9, 3), (142, .aload_n 0, 1), (143, .iload 7, 2), (145, .invokevirtual 343, 3), (148, .istore 8, 2), (150, .iload 8, 2), (152, .iload 5, 2), (154, .if_icmp .le 13, 3), (157, .iload 8, 2), (159, .istore 5, 2), (161, .aload_n 0, 1), (162, .iload 6, 2), (164, .putfield 82, 3), (167, .iinc 6 1, 3), (170, .goto (-63), 3), (173, .aload_n 0, 1), (174, .getfield 25, 3), (177, .getfield 331, 3), (180, .aload_n 0, 1), (181, .getfield 21, 3), (184, .getfield 331, 3), (187, .isub, 1), (188, .iload 5, 2), (190, .isub, 1), (191, .i2l, 1), (192, .lreturn, 1)]
theorem dtX10_plan : dec_ok mX10_plan.2.1 tX10_plan = true := by decide +kernel
set_option maxHeartbeats 4000000 in
theorem l_X10_plan {I J : Wd} {k z N : Nat} (hk : isS k) (hzJ : J k 1 = nI z) (hz8 : z ≤ 8) (hNJ : J 1 0 = nI N) (hN2 : N ≤ 14) (hJ : ∀ a, a ≠ 0 → a < 18 ∨ 29 < a → J a = I a) {room s n9 : Int32} : ∀ (n h : Nat) (x6 : Int32) (x5 : Int32) (I2 : Wd), h ≤ 2 ^ z → 2 ^ z < h + n → x6 = nI h → x5 = (plS I J k z N room h).1 → (1 ≤ h) → I2 = (ist J 0 13 (plS I J k z N room h).2) → Bd SyC mX10_plan 5 107 [(6, .int x6), (5, .int x5), (4, .ref k), (0, .ref 0), (1, .int s), (2, .int room), (3, .int n9)] [] I2 (some (.long (J 18 4 - J 6 4 - (plS I J k z N room (2 ^ z)).1).toInt64)) (ist J 0 13 (plS I J k z N room (2 ^ z)).2) := by
  intro n
  induction n with
  | zero => intro h x6 x5 I2 h1 h2; omega
  | succ n ih =>
    intro h x6 x5 I2 h1 h2 e6 e5 hI eW
    subst e6; subst e5; subst eW
    have hpw := pow_n z hz8
    have hz1 : (ist J 0 13 (plS I J k z N room h).2) k 1 = nI z := by rw [ist_ne (by unfold isS at hk; omega)]; exact hzJ
    have hN1 : (ist J 0 13 (plS I J k z N room h).2) 1 0 = nI N := by rw [ist_ne (by decide)]; exact hNJ
    have hkk : k + 1 ≠ 0 ∧ 29 < k + 1 := by unfold isS at hk; omega
    refine b_iload (pc := 107) (i := 6) (dd dtX10_plan 54 rfl) rfl ?_
    refine b_ic1 (pc := 109) (dd dtX10_plan 55 rfl) ?_
    refine b_aload (pc := 110) (i := 4) (dd dtX10_plan 56 rfl) rfl ?_
    refine b_geti (pc := 112) (dd dtX10_plan 57 rfl) fwX10_214 (pS_0 hk) ?_
    refine b_ishl (pc := 115) (dd dtX10_plan 58 rfl) ?_
    refine b_icmpL_ge (pc := 116) (tgt := 173) (dd dtX10_plan 59 rfl) (by decide) (fun h116 => ?_) (fun h116 => ?_)
    · rw [hz1, shl_n z hz8] at h116
      have he : h = 2 ^ z := Nat.le_antisymm h1 (ge_n h116 (by omega))
      subst he
      refine b_aload_n (pc := 173) (i := 0) (dd dtX10_plan 85 rfl) rfl rfl ?_
      refine b_geta (pc := 174) (dd dtX10_plan 86 rfl) fwX10_25 pC_0 rC_0_2 ?_
      refine b_geti (pc := 177) (dd dtX10_plan 87 rfl) fwX10_331 pC_18 ?_
      refine b_aload_n (pc := 180) (i := 0) (dd dtX10_plan 88 rfl) rfl rfl ?_
      refine b_geta (pc := 181) (dd dtX10_plan 89 rfl) fwX10_21 pC_0 rC_0_1 ?_
      refine b_geti (pc := 184) (dd dtX10_plan 90 rfl) fwX10_331 pC_6 ?_
      refine b_isub (pc := 187) (dd dtX10_plan 91 rfl) ?_
      refine b_iload (pc := 188) (i := 5) (dd dtX10_plan 92 rfl) rfl ?_
      refine b_isub (pc := 190) (dd dtX10_plan 93 rfl) ?_
      refine b_i2l (pc := 191) (dd dtX10_plan 94 rfl) ?_
      refine b_eq (b_lret (dd dtX10_plan 95 rfl) rfl) ?_ ?_
      · rfl
      · rfl
    · rw [hz1, shl_n z hz8] at h116
      have hlt : h < 2 ^ z := lt_n h116 (by omega) (by omega)
      refine b_aload (pc := 119) (i := 4) (dd dtX10_plan 60 rfl) rfl ?_
      refine b_iload (pc := 121) (i := 6) (dd dtX10_plan 61 rfl) rfl ?_
      refine b_invS (pc := 123) (dd dtX10_plan 62 rfl) mlX10_337 mvX10_housesOfSet msX10_housesOfSet (c_X10_housesOfSet hk hz1 (Nat.le_trans hz8 (by decide))) rfl rfl (by decide) (Nat.le_of_ble_eq_true rfl) ?_
      refine b_istore (pc := 126) (i := 7) (lv' := [(7, _), (6, _), (5, _), (4, _), (0, _), (1, _), (2, _), (3, _)]) (dd dtX10_plan 63 rfl) (Nat.le_of_ble_eq_true rfl) rfl ?_
      refine b_aload_n (pc := 128) (i := 0) (dd dtX10_plan 64 rfl) rfl rfl ?_
      refine b_iload (pc := 129) (i := 7) (dd dtX10_plan 65 rfl) rfl ?_
      refine b_invV (pc := 131) (dd dtX10_plan 66 rfl) mlX10_340 mvX10_peopleToMove miX10_peopleToMove (c_X10_peopleToMove hN1 hN2) oC_0 rfl rfl (by decide) (Nat.le_of_ble_eq_true rfl) ?_
      refine b_iload_n (pc := 134) (i := 2) (dd dtX10_plan 67 rfl) rfl rfl ?_
      refine b_icmpL_le (pc := 135) (tgt := 142) (dd dtX10_plan 68 rfl) (by decide) (fun h135 => ?_) (fun h135 => ?_)
      · simp (disch := omega) only [ist_ne, hJ _ hkk.1 (Or.inr hkk.2), hJ 15 (by decide) (Or.inl (by decide)), hJ 4 (by decide) (Or.inl (by decide)), hJ 14 (by decide) (Or.inl (by decide))] at h135
        refine b_aload_n (pc := 142) (i := 0) (dd dtX10_plan 71 rfl) rfl rfl ?_
        refine b_iload (pc := 143) (i := 7) (dd dtX10_plan 72 rfl) rfl ?_
        refine b_invV (pc := 145) (dd dtX10_plan 73 rfl) mlX10_343 mvX10_sparedBy miX10_sparedBy (c_X10_sparedBy hN1 hN2) oC_0 rfl rfl (by decide) (Nat.le_of_ble_eq_true rfl) ?_
        refine b_istore (pc := 148) (i := 8) (lv' := [(8, _), (7, _), (6, _), (5, _), (4, _), (0, _), (1, _), (2, _), (3, _)]) (dd dtX10_plan 74 rfl) (Nat.le_of_ble_eq_true rfl) rfl ?_
        refine b_iload (pc := 150) (i := 8) (dd dtX10_plan 75 rfl) rfl ?_
        refine b_iload (pc := 152) (i := 5) (dd dtX10_plan 76 rfl) rfl ?_
        refine b_icmpL_le (pc := 154) (tgt := 167) (dd dtX10_plan 77 rfl) (by decide) (fun h154 => ?_) (fun h154 => ?_)
        · try simp (disch := omega) only [ist_ne, hJ _ hkk.1 (Or.inr hkk.2), hJ 15 (by decide) (Or.inl (by decide)), hJ 4 (by decide) (Or.inl (by decide)), hJ 14 (by decide) (Or.inl (by decide))] at h154
          refine b_iinc1 (pc := 167) (i := 6) (lv' := [(6, _), (8, _), (7, _), (5, _), (4, _), (0, _), (1, _), (2, _), (3, _)]) (dd dtX10_plan 83 rfl) rfl (Nat.le_of_ble_eq_true rfl) rfl ?_
          refine b_goto (pc := 170) (tgt := 107) (dd dtX10_plan 84 rfl) (by decide) ?_
          refine b_pick [0, 3, 4, 5, 6, 7, 8] (lv' := [(6, _), (5, _), (4, _), (0, _), (1, _), (2, _), (3, _)]) rfl ?_
          try simp (disch := omega) only [ist_ne, hJ _ hkk.1 (Or.inr hkk.2), hJ 15 (by decide) (Or.inl (by decide)), hJ 4 (by decide) (Or.inl (by decide)), hJ 14 (by decide) (Or.inl (by decide))]
          rw [nI_1]
          refine ih (h + 1) _ _ _ hlt (by omega) rfl ?_ ?_ ?_
          · rw [plS, if_neg (show ¬ h = 0 by omega)]
            unfold plSp
            first | rw [if_pos h135] | rw [if_neg h135]
            first | rw [if_pos h154] | rw [if_neg h154]
          · omega
          · rw [plS, if_neg (show ¬ h = 0 by omega)]
            unfold plSp
            first | rw [if_pos h135] | rw [if_neg h135]
            first | (rw [if_pos h154, ist_ist]) | (rw [if_neg h154])
        · try simp (disch := omega) only [ist_ne, hJ _ hkk.1 (Or.inr hkk.2), hJ 15 (by decide) (Or.inl (by decide)), hJ 4 (by decide) (Or.inl (by decide)), hJ 14 (by decide) (Or.inl (by decide))] at h154
          refine b_iload (pc := 157) (i := 8) (dd dtX10_plan 78 rfl) rfl ?_
          refine b_istore (pc := 159) (i := 5) (lv' := [(5, _), (8, _), (7, _), (6, _), (4, _), (0, _), (1, _), (2, _), (3, _)]) (dd dtX10_plan 79 rfl) (Nat.le_of_ble_eq_true rfl) rfl ?_
          refine b_aload_n (pc := 161) (i := 0) (dd dtX10_plan 80 rfl) rfl rfl ?_
          refine b_iload (pc := 162) (i := 6) (dd dtX10_plan 81 rfl) rfl ?_
          refine b_puti (pc := 164) (dd dtX10_plan 82 rfl) fwX10_82 pC_0 ?_
          try simp (disch := omega) only [ist_ne, hJ _ hkk.1 (Or.inr hkk.2), hJ 15 (by decide) (Or.inl (by decide)), hJ 4 (by decide) (Or.inl (by decide)), hJ 14 (by decide) (Or.inl (by decide))] at h154
          refine b_iinc1 (pc := 167) (i := 6) (lv' := [(6, _), (5, _), (8, _), (7, _), (4, _), (0, _), (1, _), (2, _), (3, _)]) (dd dtX10_plan 83 rfl) rfl (Nat.le_of_ble_eq_true rfl) rfl ?_
          refine b_goto (pc := 170) (tgt := 107) (dd dtX10_plan 84 rfl) (by decide) ?_
          refine b_pick [0, 1, 4, 5, 6, 7, 8] (lv' := [(6, _), (5, _), (4, _), (0, _), (1, _), (2, _), (3, _)]) rfl ?_
          try simp (disch := omega) only [ist_ne, hJ _ hkk.1 (Or.inr hkk.2), hJ 15 (by decide) (Or.inl (by decide)), hJ 4 (by decide) (Or.inl (by decide)), hJ 14 (by decide) (Or.inl (by decide))]
          rw [nI_1]
          refine ih (h + 1) _ _ _ hlt (by omega) rfl ?_ ?_ ?_
          · rw [plS, if_neg (show ¬ h = 0 by omega)]
            unfold plSp
            first | rw [if_pos h135] | rw [if_neg h135]
            first | rw [if_pos h154] | rw [if_neg h154]
          · omega
          · rw [plS, if_neg (show ¬ h = 0 by omega)]
            unfold plSp
            first | rw [if_pos h135] | rw [if_neg h135]
            first | (rw [if_pos h154, ist_ist]) | (rw [if_neg h154])
      · simp (disch := omega) only [ist_ne, hJ _ hkk.1 (Or.inr hkk.2), hJ 15 (by decide) (Or.inl (by decide)), hJ 4 (by decide) (Or.inl (by decide)), hJ 14 (by decide) (Or.inl (by decide))] at h135
        refine b_ic0 (pc := 138) (dd dtX10_plan 69 rfl) ?_
        refine b_goto (pc := 139) (tgt := 148) (dd dtX10_plan 70 rfl) (by decide) ?_
        refine b_istore (pc := 148) (i := 8) (lv' := [(8, _), (7, _), (6, _), (5, _), (4, _), (0, _), (1, _), (2, _), (3, _)]) (dd dtX10_plan 74 rfl) (Nat.le_of_ble_eq_true rfl) rfl ?_
        refine b_iload (pc := 150) (i := 8) (dd dtX10_plan 75 rfl) rfl ?_
        refine b_iload (pc := 152) (i := 5) (dd dtX10_plan 76 rfl) rfl ?_
        refine b_icmpL_le (pc := 154) (tgt := 167) (dd dtX10_plan 77 rfl) (by decide) (fun h154 => ?_) (fun h154 => ?_)
        · try simp (disch := omega) only [ist_ne, hJ _ hkk.1 (Or.inr hkk.2), hJ 15 (by decide) (Or.inl (by decide)), hJ 4 (by decide) (Or.inl (by decide)), hJ 14 (by decide) (Or.inl (by decide))] at h154
          refine b_iinc1 (pc := 167) (i := 6) (lv' := [(6, _), (8, _), (7, _), (5, _), (4, _), (0, _), (1, _), (2, _), (3, _)]) (dd dtX10_plan 83 rfl) rfl (Nat.le_of_ble_eq_true rfl) rfl ?_
          refine b_goto (pc := 170) (tgt := 107) (dd dtX10_plan 84 rfl) (by decide) ?_
          refine b_pick [0, 3, 4, 5, 6, 7, 8] (lv' := [(6, _), (5, _), (4, _), (0, _), (1, _), (2, _), (3, _)]) rfl ?_
          try simp (disch := omega) only [ist_ne, hJ _ hkk.1 (Or.inr hkk.2), hJ 15 (by decide) (Or.inl (by decide)), hJ 4 (by decide) (Or.inl (by decide)), hJ 14 (by decide) (Or.inl (by decide))]
          rw [nI_1]
          refine ih (h + 1) _ _ _ hlt (by omega) rfl ?_ ?_ ?_
          · rw [plS, if_neg (show ¬ h = 0 by omega)]
            unfold plSp
            first | rw [if_pos h135] | rw [if_neg h135]
            first | rw [if_pos h154] | rw [if_neg h154]
          · omega
          · rw [plS, if_neg (show ¬ h = 0 by omega)]
            unfold plSp
            first | rw [if_pos h135] | rw [if_neg h135]
            first | (rw [if_pos h154, ist_ist]) | (rw [if_neg h154])
        · try simp (disch := omega) only [ist_ne, hJ _ hkk.1 (Or.inr hkk.2), hJ 15 (by decide) (Or.inl (by decide)), hJ 4 (by decide) (Or.inl (by decide)), hJ 14 (by decide) (Or.inl (by decide))] at h154
          refine b_iload (pc := 157) (i := 8) (dd dtX10_plan 78 rfl) rfl ?_
          refine b_istore (pc := 159) (i := 5) (lv' := [(5, _), (8, _), (7, _), (6, _), (4, _), (0, _), (1, _), (2, _), (3, _)]) (dd dtX10_plan 79 rfl) (Nat.le_of_ble_eq_true rfl) rfl ?_
          refine b_aload_n (pc := 161) (i := 0) (dd dtX10_plan 80 rfl) rfl rfl ?_
          refine b_iload (pc := 162) (i := 6) (dd dtX10_plan 81 rfl) rfl ?_
          refine b_puti (pc := 164) (dd dtX10_plan 82 rfl) fwX10_82 pC_0 ?_
          try simp (disch := omega) only [ist_ne, hJ _ hkk.1 (Or.inr hkk.2), hJ 15 (by decide) (Or.inl (by decide)), hJ 4 (by decide) (Or.inl (by decide)), hJ 14 (by decide) (Or.inl (by decide))] at h154
          refine b_iinc1 (pc := 167) (i := 6) (lv' := [(6, _), (5, _), (8, _), (7, _), (4, _), (0, _), (1, _), (2, _), (3, _)]) (dd dtX10_plan 83 rfl) rfl (Nat.le_of_ble_eq_true rfl) rfl ?_
          refine b_goto (pc := 170) (tgt := 107) (dd dtX10_plan 84 rfl) (by decide) ?_
          refine b_pick [0, 1, 4, 5, 6, 7, 8] (lv' := [(6, _), (5, _), (4, _), (0, _), (1, _), (2, _), (3, _)]) rfl ?_
          try simp (disch := omega) only [ist_ne, hJ _ hkk.1 (Or.inr hkk.2), hJ 15 (by decide) (Or.inl (by decide)), hJ 4 (by decide) (Or.inl (by decide)), hJ 14 (by decide) (Or.inl (by decide))]
          rw [nI_1]
          refine ih (h + 1) _ _ _ hlt (by omega) rfl ?_ ?_ ?_
          · rw [plS, if_neg (show ¬ h = 0 by omega)]
            unfold plSp
            first | rw [if_pos h135] | rw [if_neg h135]
            first | rw [if_pos h154] | rw [if_neg h154]
          · omega
          · rw [plS, if_neg (show ¬ h = 0 by omega)]
            unfold plSp
            first | rw [if_pos h135] | rw [if_neg h135]
            first | (rw [if_pos h154, ist_ist]) | (rw [if_neg h154])
end
section
def planJ (N P : Nat) (I : Wd) (n : Int32) : Wd := monthsW 18 N P (becomeW 18 6 I) n.toNatClampNeg
theorem planJ_fr {N P : Nat} {I : Wd} {n : Int32} {a : Nat} (h : a < 18 ∨ 29 < a) : planJ N P I n a = I a := by
  unfold planJ
  rw [monthsW_fr (by omega) (by omega) (by omega) (by omega) (by omega) (by omega) (by omega) (by omega) (by omega), becomeW_fr (by omega)]
abbrev hhP (I : Wd) (s : Int32) (z : Nat) : Prop := ¬ 8 < nI z ∧ ∀ i, i < z → inR (I (kS s + 1) i) 0 (I 1 0 - 1)
theorem le8 {z : Nat} (h : ¬ 8 < nI z) (hz : z ≤ 40) : z ≤ 8 := Nat.le_of_not_lt fun q => h (nI_lt q (by omega))
theorem kS_ge {s : Int32} : 99 ≤ kS s := Nat.le_add_right _ _
set_option maxHeartbeats 4000000 in
theorem c_X10_plan {I : Wd} {N P z : Nat} {s room n : Int32} (hF : FG 6 I N P) (hb : ∀ i, i < 14 → fits .boolean (.int (I 15 i)) = true) (hz0 : inR s 0 3 → I (kS s) 1 = nI z ∧ z ≤ 40) : Cal SyC mX10_plan 5 [.ref 0, .int s, .int room, .int n] I (some (.long (if okPlan (I (kS s) 0 = -1) (hhP I s z) (I 6 1) s room n then (planJ N P I n 18 4 - I 6 4 - (plS I (planJ N P I n) (kS s) z N room (2 ^ z)).1).toInt64 else -4611686018427387904))) (if okPlan (I (kS s) 0 = -1) (hhP I s z) (I 6 1) s room n then ist (planJ N P I n) 0 13 (plS I (planJ N P I n) (kS s) z N room (2 ^ z)).2 else I) := by
  refine Cal.of (by decide) (Nat.le_of_ble_eq_true rfl) ?_
  show Bd _ _ _ _ [(0, _), (1, _), (2, _), (3, _)] _ _ _ _
  refine b_iload_n (pc := 0) (i := 1) (dd dtX10_plan 0 rfl) rfl rfl ?_
  refine b_invS (pc := 1) (dd dtX10_plan 1 rfl) mlX10_208 mvX10_isSheet msX10_isSheet (c_X10_isSheet) rfl rfl (by decide) (Nat.le_of_ble_eq_true rfl) ?_
  refine b_ifb_eq (pc := 4) (tgt := 19) (dd dtX10_plan 2 rfl) (by decide) (fun h4 => ?_) (fun h4 => ?_)
  · refine b_ldc2 (pc := 19) (dd dtX10_plan 9 rfl) kcX10_256 ?_
    refine b_eq (b_lret (dd dtX10_plan 10 rfl) rfl) ?_ ?_
    · rw [if_neg]; rintro ⟨⟨q1, q2⟩, ⟨q3, q4⟩, q5, q6⟩; first | exact h4 q1 | exact q2 h16 | exact h37 q3 | exact h48 q4 | exact h62 q5 | exact q6 h70
    · rw [if_neg]; rintro ⟨⟨q1, q2⟩, ⟨q3, q4⟩, q5, q6⟩; first | exact h4 q1 | exact q2 h16 | exact h37 q3 | exact h48 q4 | exact h62 q5 | exact q6 h70
  · refine b_aload_n (pc := 7) (i := 0) (dd dtX10_plan 3 rfl) rfl rfl ?_
    refine b_geta (pc := 8) (dd dtX10_plan 4 rfl) fwX10_70 pC_0 rC_0_10 ?_
    refine b_iload_n (pc := 11) (i := 1) (dd dtX10_plan 5 rfl) rfl rfl ?_
    refine b_aald (pc := 12) (q := kS s) (dd dtX10_plan 6 rfl) pC_98 (by decide) ((sheet_k h4).2.1) ((sheet_k h4).2.2) ?_
    refine b_invV (pc := 13) (dd dtX10_plan 7 rfl) mlX10_211 mvX5_isMissing miX5_isMissing (c_X5_isMissing (sheet_k h4).1) (oS (sheet_k h4).1) rfl rfl (by decide) (Nat.le_of_ble_eq_true rfl) ?_
    refine b_ifb_eq (pc := 16) (tgt := 23) (dd dtX10_plan 8 rfl) (by decide) (fun h16 => ?_) (fun h16 => ?_)
    · obtain ⟨hz, hz2⟩ := hz0 h4
      clear hz0
      refine b_aload_n (pc := 23) (i := 0) (dd dtX10_plan 11 rfl) rfl rfl ?_
      refine b_geta (pc := 24) (dd dtX10_plan 12 rfl) fwX10_70 pC_0 rC_0_10 ?_
      refine b_iload_n (pc := 27) (i := 1) (dd dtX10_plan 13 rfl) rfl rfl ?_
      refine b_aald (pc := 28) (q := kS s) (dd dtX10_plan 14 rfl) pC_98 (by decide) ((sheet_k h4).2.1) ((sheet_k h4).2.2) ?_
      refine b_astore (pc := 29) (i := 4) (lv' := [(4, _), (0, _), (1, _), (2, _), (3, _)]) (dd dtX10_plan 15 rfl) (Nat.le_of_ble_eq_true rfl) rfl ?_
      refine b_aload_n (pc := 31) (i := 0) (dd dtX10_plan 16 rfl) rfl rfl ?_
      refine b_aload (pc := 32) (i := 4) (dd dtX10_plan 17 rfl) rfl ?_
      refine b_invV (pc := 34) (dd dtX10_plan 18 rfl) mlX10_334 mvX10_holdsHouses miX10_holdsHouses (c_X10_holdsHouses (sheet_k h4).1 hz hz2) oC_0 rfl rfl (by decide) (Nat.le_of_ble_eq_true rfl) ?_
      refine b_ifb_eq (pc := 37) (tgt := 51) (dd dtX10_plan 19 rfl) (by decide) (fun h37 => ?_) (fun h37 => ?_)
      · refine b_ldc2 (pc := 51) (dd dtX10_plan 25 rfl) kcX10_256 ?_
        refine b_eq (b_lret (dd dtX10_plan 26 rfl) rfl) ?_ ?_
        · rw [if_neg]; rintro ⟨⟨q1, q2⟩, ⟨q3, q4⟩, q5, q6⟩; first | exact h4 q1 | exact q2 h16 | exact h37 q3 | exact h48 q4 | exact h62 q5 | exact q6 h70
        · rw [if_neg]; rintro ⟨⟨q1, q2⟩, ⟨q3, q4⟩, q5, q6⟩; first | exact h4 q1 | exact q2 h16 | exact h37 q3 | exact h48 q4 | exact h62 q5 | exact q6 h70
      · refine b_iload_n (pc := 40) (i := 2) (dd dtX10_plan 20 rfl) rfl rfl ?_
        refine b_ic0 (pc := 41) (dd dtX10_plan 21 rfl) ?_
        refine b_sipush (pc := 42) (v := 999) (dd dtX10_plan 22 rfl) (by decide) ?_
        refine b_invS (pc := 45) (dd dtX10_plan 23 rfl) mlX10_97 mvX10_within msX10_within (c_X10_within) rfl rfl (by decide) (Nat.le_of_ble_eq_true rfl) ?_
        refine b_ifb_ne (pc := 48) (tgt := 55) (dd dtX10_plan 24 rfl) (by decide) (fun h48 => ?_) (fun h48 => ?_)
        · refine b_iload_n (pc := 55) (i := 3) (dd dtX10_plan 27 rfl) rfl rfl ?_
          refine b_ic1 (pc := 56) (dd dtX10_plan 28 rfl) ?_
          refine b_bipush (pc := 57) (v := 60) (dd dtX10_plan 29 rfl) (by decide) ?_
          refine b_invS (pc := 59) (dd dtX10_plan 30 rfl) mlX10_97 mvX10_within msX10_within (c_X10_within) rfl rfl (by decide) (Nat.le_of_ble_eq_true rfl) ?_
          refine b_ifb_eq (pc := 62) (tgt := 73) (dd dtX10_plan 31 rfl) (by decide) (fun h62 => ?_) (fun h62 => ?_)
          · refine b_ldc2 (pc := 73) (dd dtX10_plan 36 rfl) kcX10_256 ?_
            refine b_eq (b_lret (dd dtX10_plan 37 rfl) rfl) ?_ ?_
            · rw [if_neg]; rintro ⟨⟨q1, q2⟩, ⟨q3, q4⟩, q5, q6⟩; first | exact h4 q1 | exact q2 h16 | exact h37 q3 | exact h48 q4 | exact h62 q5 | exact q6 h70
            · rw [if_neg]; rintro ⟨⟨q1, q2⟩, ⟨q3, q4⟩, q5, q6⟩; first | exact h4 q1 | exact q2 h16 | exact h37 q3 | exact h48 q4 | exact h62 q5 | exact q6 h70
          · refine b_aload_n (pc := 65) (i := 0) (dd dtX10_plan 32 rfl) rfl rfl ?_
            refine b_iload_n (pc := 66) (i := 3) (dd dtX10_plan 33 rfl) rfl rfl ?_
            refine b_invV (pc := 67) (dd dtX10_plan 34 rfl) mlX10_144 mvX10_monthsAreLeft miX10_monthsAreLeft (c_X10_monthsAreLeft) oC_0 rfl rfl (by decide) (Nat.le_of_ble_eq_true rfl) ?_
            refine b_ifn_ne (pc := 70) (tgt := 77) (dd dtX10_plan 35 rfl) (by decide) (fun h70 => ?_) (fun h70 => ?_)
            · refine b_aload_n (pc := 77) (i := 0) (dd dtX10_plan 38 rfl) rfl rfl ?_
              refine b_geta (pc := 78) (dd dtX10_plan 39 rfl) fwX10_25 pC_0 rC_0_2 ?_
              refine b_aload_n (pc := 81) (i := 0) (dd dtX10_plan 40 rfl) rfl rfl ?_
              refine b_geta (pc := 82) (dd dtX10_plan 41 rfl) fwX10_21 pC_0 rC_0_1 ?_
              refine b_invV (pc := 85) (dd dtX10_plan 42 rfl) mlX10_324 mvX2_become miX2_become (c_X2_become (Or.inr (Or.inl rfl)) (Or.inl rfl) (by decide) hb) oC_18 rfl rfl (by decide) (Nat.le_of_ble_eq_true rfl) ?_
              refine b_aload_n (pc := 88) (i := 0) (dd dtX10_plan 43 rfl) rfl rfl ?_
              refine b_geta (pc := 89) (dd dtX10_plan 44 rfl) fwX10_25 pC_0 rC_0_2 ?_
              refine b_iload_n (pc := 92) (i := 3) (dd dtX10_plan 45 rfl) rfl rfl ?_
              refine b_invV (pc := 93) (dd dtX10_plan 46 rfl) mlX10_147 mvX2_passMonths miX2_passMonths (c_pass (Or.inr (Or.inl rfl)) (FG.bes hF) h62) oC_18 rfl rfl (by decide) (Nat.le_of_ble_eq_true rfl) ?_
              refine b_ic0 (pc := 96) (dd dtX10_plan 47 rfl) ?_
              refine b_istore (pc := 97) (i := 5) (lv' := [(5, _), (4, _), (0, _), (1, _), (2, _), (3, _)]) (dd dtX10_plan 48 rfl) (Nat.le_of_ble_eq_true rfl) rfl ?_
              refine b_aload_n (pc := 99) (i := 0) (dd dtX10_plan 49 rfl) rfl rfl ?_
              refine b_ic0 (pc := 100) (dd dtX10_plan 50 rfl) ?_
              refine b_puti (pc := 101) (dd dtX10_plan 51 rfl) fwX10_82 pC_0 ?_
              refine b_ic1 (pc := 104) (dd dtX10_plan 52 rfl) ?_
              refine b_istore (pc := 105) (i := 6) (lv' := [(6, _), (5, _), (4, _), (0, _), (1, _), (2, _), (3, _)]) (dd dtX10_plan 53 rfl) (Nat.le_of_ble_eq_true rfl) rfl ?_
              refine b_eq (l_X10_plan (I := I) (J := planJ N P I n) (sheet_k h4).1 (by rw [planJ_fr (Or.inr (Nat.lt_of_lt_of_le (by decide) kS_ge))]; exact hz) (le8 h37.1 hz2) (by rw [planJ_fr (Or.inl (by decide))]; exact hF.1.1) hF.1.2 (fun a _ ha => planJ_fr ha) (2 ^ z + 1) 1 _ _ _ (pow_n z (le8 h37.1 hz2)).1 (by omega) rfl rfl (Nat.le_refl _) rfl) ?_ ?_
              · rw [if_pos ⟨⟨h4, h16⟩, ⟨h37, h48⟩, h62, h70⟩, planJ_fr (a := 6) (Or.inl (by decide))]
              · rw [if_pos ⟨⟨h4, h16⟩, ⟨h37, h48⟩, h62, h70⟩]
            · refine b_ldc2 (pc := 73) (dd dtX10_plan 36 rfl) kcX10_256 ?_
              refine b_eq (b_lret (dd dtX10_plan 37 rfl) rfl) ?_ ?_
              · rw [if_neg]; rintro ⟨⟨q1, q2⟩, ⟨q3, q4⟩, q5, q6⟩; first | exact h4 q1 | exact q2 h16 | exact h37 q3 | exact h48 q4 | exact h62 q5 | exact q6 h70
              · rw [if_neg]; rintro ⟨⟨q1, q2⟩, ⟨q3, q4⟩, q5, q6⟩; first | exact h4 q1 | exact q2 h16 | exact h37 q3 | exact h48 q4 | exact h62 q5 | exact q6 h70
        · refine b_ldc2 (pc := 51) (dd dtX10_plan 25 rfl) kcX10_256 ?_
          refine b_eq (b_lret (dd dtX10_plan 26 rfl) rfl) ?_ ?_
          · rw [if_neg]; rintro ⟨⟨q1, q2⟩, ⟨q3, q4⟩, q5, q6⟩; first | exact h4 q1 | exact q2 h16 | exact h37 q3 | exact h48 q4 | exact h62 q5 | exact q6 h70
          · rw [if_neg]; rintro ⟨⟨q1, q2⟩, ⟨q3, q4⟩, q5, q6⟩; first | exact h4 q1 | exact q2 h16 | exact h37 q3 | exact h48 q4 | exact h62 q5 | exact q6 h70
    · refine b_ldc2 (pc := 19) (dd dtX10_plan 9 rfl) kcX10_256 ?_
      refine b_eq (b_lret (dd dtX10_plan 10 rfl) rfl) ?_ ?_
      · rw [if_neg]; rintro ⟨⟨q1, q2⟩, ⟨q3, q4⟩, q5, q6⟩; first | exact h4 q1 | exact q2 h16 | exact h37 q3 | exact h48 q4 | exact h62 q5 | exact q6 h70
      · rw [if_neg]; rintro ⟨⟨q1, q2⟩, ⟨q3, q4⟩, q5, q6⟩; first | exact h4 q1 | exact q2 h16 | exact h37 q3 | exact h48 q4 | exact h62 q5 | exact q6 h70
/-! looks -/
def sPr (nums : Nat → Int32) (set : Int32) : Nat → Int32
  | 0 => 0
  | i + 1 => if bitS set i = 0 then sPr nums set i else sPr nums set i + nums (2 * i + 1)
/-- worth of the set's first i looks, and the cells seen -/
def sWo (nums lw : Nat → Int32) (set : Int32) : Nat → Int32 × Int64
  | 0 => (0, 0)
  | i + 1 => if bitS set i = 0 then sWo nums lw set i else if (sWo nums lw set i).2 &&& ((1 : Int64) <<< ((nums (2 * i)).toInt64 &&& 63)) = 0 then ((sWo nums lw set i).1 + lw i, (sWo nums lw set i).2 ||| ((1 : Int64) <<< ((nums (2 * i)).toInt64 &&& 63))) else sWo nums lw set i
def lkW (I : Wd) (K N : Nat) (c known : Int32) : Int32 := (if 0 < sHi (I 43) (I 44) (I 46) (sVal (I 48) (I 47) (I 45) known) c known 0 K - sLo (I 43) (I 44) (I 46) (sVal (I 48) (I 47) (I 45) known) c known 0 K - 30 then sHi (I 43) (I 44) (I 46) (sVal (I 48) (I 47) (I 45) known) c known 0 K - sLo (I 43) (I 44) (I 46) (sVal (I 48) (I 47) (I 45) known) c known 0 K - 30 else 0) * (sPeople (I 2) (I 14) (I 15) (I 4) c N + 1)
theorem lcmp0 {x : Int64} : lg_cmp x 0 = 0 ↔ x = 0 := by
  unfold lg_cmp
  by_cases h1 : (0 : Int64) < x
  · rw [if_pos h1]
    exact ⟨fun e => absurd e (by decide), fun e => by subst e; exact absurd h1 (by decide)⟩
  · rw [if_neg h1]
    by_cases h2 : x = 0
    · rw [if_pos h2]; exact ⟨fun _ => h2, fun _ => rfl⟩
    · rw [if_neg h2]; exact ⟨fun e => absurd e (by decide), fun e => absurd e h2⟩
def tX10_worthOfLook : List (Nat × Instr × Nat) := [(0, .aload_n 0, 1), (1, .getfield 38, 3), (4, .iload_n 1, 1), (5, .iload_n 2, 1), (6, .iconst 0, 1), (7, .invokevirtual 199, 3), (10, .aload_n 0, 1), (11, .getfield 38, 3), (14, .iload_n 1, 1), (15, .iload_n 2, 1), (16, .iconst 0, 1), (17, .invokevirtual 196, 3), (20, .isub, 1), (21, .istore_n 3, 1), (22, .iconst 0, 1), (23, .iload_n 3, 1), (24, .bipush 30, 2), (26, .isub, 1), (27, .invokestatic 274, 3), (30, .aload_n 0, 1), (31, .getfield 21, 3), (34, .iload_n 1, 1), (35, .invokevirtual 261, 3), (38, .iconst 1, 1), (39, .iadd, 1), (40, .imul, 1), (41, .ireturn, 1)]
theorem dtX10_worthOfLook : dec_ok mX10_worthOfLook.2.1 tX10_worthOfLook = true := by decide +kernel
set_option maxHeartbeats 4000000 in
theorem c_X10_worthOfLook {I : Wd} {K N : Nat} {c known : Int32} (hK : I 42 0 = nI K) (hK2 : K ≤ 30) (hN : I 1 0 = nI N) (hN2 : N ≤ 14) : Cal SyC mX10_worthOfLook 3 [.ref 0, .int c, .int known] I (some (.int (lkW I K N c known))) I := by
  refine Cal.of (by decide) (Nat.le_of_ble_eq_true rfl) ?_
  show Bd _ _ _ _ [(0, _), (1, _), (2, _)] _ _ _ _
  refine b_aload_n (pc := 0) (i := 0) (dd dtX10_worthOfLook 0 rfl) rfl rfl ?_
  refine b_geta (pc := 1) (dd dtX10_worthOfLook 1 rfl) fwX10_38 pC_0 rC_0_5 ?_
  refine b_iload_n (pc := 4) (i := 1) (dd dtX10_worthOfLook 2 rfl) rfl rfl ?_
  refine b_iload_n (pc := 5) (i := 2) (dd dtX10_worthOfLook 3 rfl) rfl rfl ?_
  refine b_ic0 (pc := 6) (dd dtX10_worthOfLook 4 rfl) ?_
  refine b_invV (pc := 7) (dd dtX10_worthOfLook 5 rfl) mlX10_199 mvX6_most miX6_most (c_X6_most hK hK2) oC_42 rfl rfl (by decide) (Nat.le_of_ble_eq_true rfl) ?_
  refine b_aload_n (pc := 10) (i := 0) (dd dtX10_worthOfLook 6 rfl) rfl rfl ?_
  refine b_geta (pc := 11) (dd dtX10_worthOfLook 7 rfl) fwX10_38 pC_0 rC_0_5 ?_
  refine b_iload_n (pc := 14) (i := 1) (dd dtX10_worthOfLook 8 rfl) rfl rfl ?_
  refine b_iload_n (pc := 15) (i := 2) (dd dtX10_worthOfLook 9 rfl) rfl rfl ?_
  refine b_ic0 (pc := 16) (dd dtX10_worthOfLook 10 rfl) ?_
  refine b_invV (pc := 17) (dd dtX10_worthOfLook 11 rfl) mlX10_196 mvX6_least miX6_least (c_X6_least hK hK2) oC_42 rfl rfl (by decide) (Nat.le_of_ble_eq_true rfl) ?_
  refine b_isub (pc := 20) (dd dtX10_worthOfLook 12 rfl) ?_
  refine b_istore_n (pc := 21) (i := 3) (lv' := [(3, _), (0, _), (1, _), (2, _)]) (dd dtX10_worthOfLook 13 rfl) rfl (Nat.le_of_ble_eq_true rfl) rfl ?_
  refine b_ic0 (pc := 22) (dd dtX10_worthOfLook 14 rfl) ?_
  refine b_iload_n (pc := 23) (i := 3) (dd dtX10_worthOfLook 15 rfl) rfl rfl ?_
  refine b_bipush (pc := 24) (v := 30) (dd dtX10_worthOfLook 16 rfl) (by decide) ?_
  refine b_isub (pc := 26) (dd dtX10_worthOfLook 17 rfl) ?_
  refine b_mmax (pc := 27) (dd dtX10_worthOfLook 18 rfl) wlX10_274 (Nat.le_of_ble_eq_true rfl) ?_
  refine b_aload_n (pc := 30) (i := 0) (dd dtX10_worthOfLook 19 rfl) rfl rfl ?_
  refine b_geta (pc := 31) (dd dtX10_worthOfLook 20 rfl) fwX10_21 pC_0 rC_0_1 ?_
  refine b_iload_n (pc := 34) (i := 1) (dd dtX10_worthOfLook 21 rfl) rfl rfl ?_
  refine b_invV (pc := 35) (dd dtX10_worthOfLook 22 rfl) mlX10_261 mvX2_peopleAt miX2_peopleAt (c_X2_peopleAt_6 hN hN2) oC_6 rfl rfl (by decide) (Nat.le_of_ble_eq_true rfl) ?_
  refine b_ic1 (pc := 38) (dd dtX10_worthOfLook 23 rfl) ?_
  refine b_iadd (pc := 39) (dd dtX10_worthOfLook 24 rfl) ?_
  refine b_imul (pc := 40) (dd dtX10_worthOfLook 25 rfl) ?_
  refine b_eq (b_iret (dd dtX10_worthOfLook 26 rfl) rfl) ?_ ?_
  · rfl
  · rfl
def tX10_holdsLooks : List (Nat × Instr × Nat) := [(0, .aload_n 0, 1), (1, .getfield 214, 3), (4, .iconst 2, 1), (5, .irem, 1), (6, .ifCond .ne 12, 3), (9, .aload_n 0, 1), (10, .getfield 214, 3), (13, .bipush 16, 2), (15, .if_icmp .le 5, 3), (18, .iconst 0, 1), (19, .ireturn, 1), (20, .iconst 0, 1), (21, .istore_n 1, 1), (22, .iload_n 1, 1), (23, .iconst 1, 1), (24, .iadd, 1), (25, .aload_n 0, 1), (26, .getfield 214, 3), (29, .if_icmp .ge 41, 3), (32, .aload_n 0, 1), (33, .getfield 284, 3), (36, .iload_n 1, 1), (37, .iaload, 1), (38, .invokestatic 93, 3), (41, .ifCond .eq 21, 3), (44, .aload_n 0, 1), (45, .getfield 284, 3), (48, .iload_n 1, 1), (49, .iconst 1, 1), (50, .iadd, 1), (51, .iaload, 1), (52, .iconst 1, 1), (53, .sipush 9999, 3), (56, .invokestatic 97, 3), (59, .ifCond .ne 5, 3), (62, .iconst 0, 1), (63, .ireturn, 1), (64, .iinc 1 2, 3), (67, .goto (-45), 3), (70, .iconst 1, 1), (71, .ireturn, 1)]
theorem dtX10_holdsLooks : dec_ok mX10_holdsLooks.2.1 tX10_holdsLooks = true := by decide +kernel
theorem add1n {h : Nat} : nI h + 1 = nI (h + 1) := nI_add h 1
theorem rem2 {z : Nat} (hz : z < 2 ^ 31) : nI z - nI z / 2 * 2 = nI (z % 2) := pk_rem (d := 2) hz (by decide) (by decide)
theorem div2 {z : Nat} (hz : z < 2 ^ 31) : nI z / 2 = nI (z / 2) := pk_div (d := 2) hz (by decide) (by decide)
abbrev okL (nums : Nat → Int32) (z : Nat) : Prop := ∀ i, i < z / 2 → inR (nums (2 * i)) 0 63 ∧ inR (nums (2 * i + 1)) 1 9999
abbrev hlP (nums : Nat → Int32) (z : Nat) : Prop := (z % 2 = 0 ∧ z ≤ 16) ∧ okL nums z
set_option maxHeartbeats 4000000 in
theorem l_X10_holdsLooks {I : Wd} {k z : Nat} (hk : isS k) (hz : I k 1 = nI z) (hz2 : z ≤ 16) (he : z % 2 = 0) : ∀ (n t : Nat) (x1 : Int32), t ≤ z / 2 → z / 2 < t + n → x1 = nI (2 * t) → (∀ i, i < t → inR (I (k + 1) (2 * i)) 0 63 ∧ inR (I (k + 1) (2 * i + 1)) 1 9999) → Bd SyC mX10_holdsLooks 2 22 [(1, .int x1), (0, .ref k)] [] I (some (.int (bi (hlP (I (k + 1)) z)))) I := by
  intro n
  induction n with
  | zero => intro t x1 h1 h2; omega
  | succ n ih =>
    intro t x1 h1 h2 e1 hI
    subst e1
    refine b_iload_n (pc := 22) (i := 1) (dd dtX10_holdsLooks 13 rfl) rfl rfl ?_
    refine b_ic1 (pc := 23) (dd dtX10_holdsLooks 14 rfl) ?_
    refine b_iadd (pc := 24) (dd dtX10_holdsLooks 15 rfl) ?_
    refine b_aload_n (pc := 25) (i := 0) (dd dtX10_holdsLooks 16 rfl) rfl rfl ?_
    refine b_geti (pc := 26) (dd dtX10_holdsLooks 17 rfl) fwX10_214 (pS_0 hk) ?_
    rw [add1n, hz]
    refine b_icmpL_ge (pc := 29) (tgt := 70) (dd dtX10_holdsLooks 18 rfl) (by decide) (fun h29 => ?_) (fun h29 => ?_)
    · have ht : t = z / 2 := by have := ge_n h29 (by omega); omega
      subst ht
      refine b_ic1 (pc := 70) (dd dtX10_holdsLooks 39 rfl) ?_
      refine b_eq (b_zret (dd dtX10_holdsLooks 40 rfl) rfl (by first | rfl | exact nar_bi)) ?_ ?_
      · rw [bi_t ⟨⟨he, hz2⟩, hI⟩]
      · rfl
    · have ht : t < z / 2 := by have := lt_n h29 (by omega) (by omega); omega
      refine b_aload_n (pc := 32) (i := 0) (dd dtX10_holdsLooks 19 rfl) rfl rfl ?_
      refine b_geta (pc := 33) (dd dtX10_holdsLooks 20 rfl) fwX10_284 (pS_0 hk) (rS_2 hk) ?_
      refine b_iload_n (pc := 36) (i := 1) (dd dtX10_holdsLooks 21 rfl) rfl rfl ?_
      refine b_iald (pc := 37) (dd dtX10_holdsLooks 22 rfl) (pS_1 hk) (vpn rfl (show 2 * t < 40 by omega) (by decide)) ?_
      refine b_invS (pc := 38) (dd dtX10_holdsLooks 23 rfl) mlX10_93 mvX10_isCell msX10_isCell (c_X10_isCell) rfl rfl (by decide) (Nat.le_of_ble_eq_true rfl) ?_
      refine b_ifb_eq (pc := 41) (tgt := 62) (dd dtX10_holdsLooks 24 rfl) (by decide) (fun h41 => ?_) (fun h41 => ?_)
      · try simp only [nI_clamp (show 2 * t < 2 ^ 31 by omega)] at h41
        try simp only [add1n, nI_clamp (show 2 * t + 1 < 2 ^ 31 by omega)] at h59
        have hno : ¬ hlP (I (k + 1)) z := fun q => by first | exact h41 (q.2 t ht).1 | exact h59 (q.2 t ht).2
        refine b_ic0 (pc := 62) (dd dtX10_holdsLooks 35 rfl) ?_
        refine b_eq (b_zret (dd dtX10_holdsLooks 36 rfl) rfl (by first | rfl | exact nar_bi)) ?_ ?_
        · rw [bi_f hno]
        · rfl
      · refine b_aload_n (pc := 44) (i := 0) (dd dtX10_holdsLooks 25 rfl) rfl rfl ?_
        refine b_geta (pc := 45) (dd dtX10_holdsLooks 26 rfl) fwX10_284 (pS_0 hk) (rS_2 hk) ?_
        refine b_iload_n (pc := 48) (i := 1) (dd dtX10_holdsLooks 27 rfl) rfl rfl ?_
        refine b_ic1 (pc := 49) (dd dtX10_holdsLooks 28 rfl) ?_
        refine b_iadd (pc := 50) (dd dtX10_holdsLooks 29 rfl) ?_
        refine b_iald (pc := 51) (dd dtX10_holdsLooks 30 rfl) (pS_1 hk) (by rw [add1n]; exact vpn rfl (show 2 * t + 1 < 40 by omega) (by decide)) ?_
        refine b_ic1 (pc := 52) (dd dtX10_holdsLooks 31 rfl) ?_
        refine b_sipush (pc := 53) (v := 9999) (dd dtX10_holdsLooks 32 rfl) (by decide) ?_
        refine b_invS (pc := 56) (dd dtX10_holdsLooks 33 rfl) mlX10_97 mvX10_within msX10_within (c_X10_within) rfl rfl (by decide) (Nat.le_of_ble_eq_true rfl) ?_
        refine b_ifb_ne (pc := 59) (tgt := 64) (dd dtX10_holdsLooks 34 rfl) (by decide) (fun h59 => ?_) (fun h59 => ?_)
        · simp only [nI_clamp (show 2 * t < 2 ^ 31 by omega)] at h41
          simp only [add1n, nI_clamp (show 2 * t + 1 < 2 ^ 31 by omega)] at h59
          refine b_iinc (pc := 64) (i := 1) (v := _ + (2)) (lv' := [(1, _), (0, _)]) (dd dtX10_holdsLooks 37 rfl) rfl rfl (Nat.le_of_ble_eq_true rfl) rfl ?_
          refine b_goto (pc := 67) (tgt := 22) (dd dtX10_holdsLooks 38 rfl) (by decide) ?_
          refine ih (t + 1) _ ht (by omega) ?_ ?_
          · show nI (2 * t) + nI 2 = _
            rw [nI_add]; congr 1
          · intro i hi
            rcases Nat.lt_succ_iff_lt_or_eq.mp hi with q | q
            · exact hI i q
            · subst q; exact ⟨h41, h59⟩
        · try simp only [nI_clamp (show 2 * t < 2 ^ 31 by omega)] at h41
          try simp only [add1n, nI_clamp (show 2 * t + 1 < 2 ^ 31 by omega)] at h59
          have hno : ¬ hlP (I (k + 1)) z := fun q => by first | exact h41 (q.2 t ht).1 | exact h59 (q.2 t ht).2
          refine b_ic0 (pc := 62) (dd dtX10_holdsLooks 35 rfl) ?_
          refine b_eq (b_zret (dd dtX10_holdsLooks 36 rfl) rfl (by first | rfl | exact nar_bi)) ?_ ?_
          · rw [bi_f hno]
          · rfl
set_option maxHeartbeats 4000000 in
theorem c_X10_holdsLooks {I : Wd} {k z : Nat} (hk : isS k) (hz : I k 1 = nI z) (hz2 : z ≤ 40) : Cal SyC mX10_holdsLooks 2 [.ref k] I (some (.int (bi (hlP (I (k + 1)) z)))) I := by
  refine Cal.of (by decide) (Nat.le_of_ble_eq_true rfl) ?_
  show Bd _ _ _ _ [(0, _)] _ _ _ _
  refine b_aload_n (pc := 0) (i := 0) (dd dtX10_holdsLooks 0 rfl) rfl rfl ?_
  refine b_geti (pc := 1) (dd dtX10_holdsLooks 1 rfl) fwX10_214 (pS_0 hk) ?_
  refine b_ic2 (pc := 4) (dd dtX10_holdsLooks 2 rfl) ?_
  refine b_irem (pc := 5) (dd dtX10_holdsLooks 3 rfl) (by decide) ?_
  rw [hz, rem2 (by omega)]
  refine b_if_ne (pc := 6) (tgt := 18) (dd dtX10_holdsLooks 4 rfl) (by decide) (fun h6 => ?_) (fun h6 => ?_)
  · have hno : ¬ hlP (I (k + 1)) z := fun q => by first | (rw [q.1.1] at h6; exact h6 rfl) | exact absurd (nI_lt (Nat.lt_of_lt_of_le (lt_n h15 (by decide) (by omega)) q.1.2) (by decide)) (by decide)
    refine b_ic0 (pc := 18) (dd dtX10_holdsLooks 9 rfl) ?_
    refine b_eq (b_zret (dd dtX10_holdsLooks 10 rfl) rfl (by first | rfl | exact nar_bi)) ?_ ?_
    · rw [bi_f hno]
    · rfl
  · have h6e : z % 2 = 0 := by rcases Nat.mod_two_eq_zero_or_one z with q | q; exact q; rw [q] at h6; exact absurd h6 (by decide)
    refine b_aload_n (pc := 9) (i := 0) (dd dtX10_holdsLooks 5 rfl) rfl rfl ?_
    refine b_geti (pc := 10) (dd dtX10_holdsLooks 6 rfl) fwX10_214 (pS_0 hk) ?_
    refine b_bipush (pc := 13) (v := 16) (dd dtX10_holdsLooks 7 rfl) (by decide) ?_
    rw [hz, show (16 : Int32) = nI 16 from rfl]
    refine b_icmpL_le (pc := 15) (tgt := 20) (dd dtX10_holdsLooks 8 rfl) (by decide) (fun h15 => ?_) (fun h15 => ?_)
    · refine b_ic0 (pc := 20) (dd dtX10_holdsLooks 11 rfl) ?_
      refine b_istore_n (pc := 21) (i := 1) (lv' := [(1, _), (0, _)]) (dd dtX10_holdsLooks 12 rfl) rfl (Nat.le_of_ble_eq_true rfl) rfl ?_
      have hz16 : z ≤ 16 := ge_n h15 (by omega)
      exact l_X10_holdsLooks hk hz hz16 h6e (z / 2 + 1) 0 _ (Nat.zero_le _) (by omega) rfl (fun i hi => absurd hi (Nat.not_lt_zero i))
    · have hno : ¬ hlP (I (k + 1)) z := fun q => by first | (rw [q.1.1] at h6; exact h6 rfl) | exact absurd (nI_lt (Nat.lt_of_lt_of_le (lt_n h15 (by decide) (by omega)) q.1.2) (by decide)) (by decide)
      refine b_ic0 (pc := 18) (dd dtX10_holdsLooks 9 rfl) ?_
      refine b_eq (b_zret (dd dtX10_holdsLooks 10 rfl) rfl (by first | rfl | exact nar_bi)) ?_ ?_
      · rw [bi_f hno]
      · rfl
end
section
theorem mul2 {h : Nat} : (2 : Int32) * nI h = nI (2 * h) := pk_mul 2 h
theorem lt8 {h : Nat} (hh : h < 2 ^ 31) : nI h < 8 ↔ h < 8 := nI_ltI hh (by decide)
def tX10_priceOfSet : List (Nat × Instr × Nat) := [(0, .iconst 0, 1), (1, .istore_n 2, 1), (2, .iconst 0, 1), (3, .istore_n 3, 1), (4, .iconst 2, 1), (5, .iload_n 3, 1), (6, .imul, 1), (7, .iconst 1, 1), (8, .iadd, 1), (9, .aload_n 0, 1), (10, .getfield 214, 3), (13, .if_icmp .ge 30, 3), (16, .iload_n 1, 1), (17, .iload_n 3, 1), (18, .ishr, 1), (19, .iconst 1, 1), (20, .iand, 1), (21, .ifCond .eq 16, 3), (24, .iload_n 2, 1), (25, .aload_n 0, 1), (26, .getfield 284, 3), (29, .iconst 2, 1), (30, .iload_n 3, 1), (31, .imul, 1), (32, .iconst 1, 1), (33, .iadd, 1), (34, .iaload, 1), (35, .iadd, 1), (36, .istore_n 2, 1), (37, .iinc 3 1, 3), (40, .goto (-36), 3), (43, .iload_n 2, 1), (44, .ireturn, 1)]
theorem dtX10_priceOfSet : dec_ok mX10_priceOfSet.2.1 tX10_priceOfSet = true := by decide +kernel
set_option maxHeartbeats 4000000 in
theorem l_X10_priceOfSet {I : Wd} {k z : Nat} (hk : isS k) (hz : I k 1 = nI z) (hz2 : z ≤ 16) (hev : z % 2 = 0) {set : Int32} : ∀ (n h : Nat) (x3 x2 : Int32), h ≤ z / 2 → z / 2 < h + n → x3 = nI h → x2 = (sPr (I (k + 1)) set h) → Bd SyC mX10_priceOfSet 0 4 [(3, .int x3), (2, .int x2), (0, .ref k), (1, .int set)] [] I (some (.int (sPr (I (k + 1)) set (z / 2)))) I := by
  intro n
  induction n with
  | zero => intro h x3 x2 h1 h2; omega
  | succ n ih =>
    intro h x3 x2 h1 h2 e3 e2
    subst e3; subst e2
    refine b_ic2 (pc := 4) (dd dtX10_priceOfSet 4 rfl) ?_
    refine b_iload_n (pc := 5) (i := 3) (dd dtX10_priceOfSet 5 rfl) rfl rfl ?_
    refine b_imul (pc := 6) (dd dtX10_priceOfSet 6 rfl) ?_
    refine b_ic1 (pc := 7) (dd dtX10_priceOfSet 7 rfl) ?_
    refine b_iadd (pc := 8) (dd dtX10_priceOfSet 8 rfl) ?_
    refine b_aload_n (pc := 9) (i := 0) (dd dtX10_priceOfSet 9 rfl) rfl rfl ?_
    refine b_geti (pc := 10) (dd dtX10_priceOfSet 10 rfl) fwX10_214 (pS_0 hk) ?_
    rw [mul2, add1n, hz]
    refine b_icmpL_ge (pc := 13) (tgt := 43) (dd dtX10_priceOfSet 11 rfl) (by decide) (fun h13 => ?_) (fun h13 => ?_)
    · have ht : h = z / 2 := by have := ge_n h13 (by omega); omega
      subst ht
      refine b_iload_n (pc := 43) (i := 2) (dd dtX10_priceOfSet 31 rfl) rfl rfl ?_
      exact b_eq (b_iret (dd dtX10_priceOfSet 32 rfl) rfl) rfl rfl
    · have ht : h < z / 2 := by have := lt_n h13 (by omega) (by omega); omega
      refine b_iload_n (pc := 16) (i := 1) (dd dtX10_priceOfSet 12 rfl) rfl rfl ?_
      refine b_iload_n (pc := 17) (i := 3) (dd dtX10_priceOfSet 13 rfl) rfl rfl ?_
      refine b_ishr (pc := 18) (dd dtX10_priceOfSet 14 rfl) ?_
      refine b_ic1 (pc := 19) (dd dtX10_priceOfSet 15 rfl) ?_
      refine b_iand (pc := 20) (dd dtX10_priceOfSet 16 rfl) ?_
      refine b_if_eq (pc := 21) (tgt := 37) (dd dtX10_priceOfSet 17 rfl) (by decide) (fun h21 => ?_) (fun h21 => ?_)
      · refine b_iinc1 (pc := 37) (i := 3) (lv' := [(3, _), (2, _), (0, _), (1, _)]) (dd dtX10_priceOfSet 29 rfl) rfl (Nat.le_of_ble_eq_true rfl) rfl ?_
        refine b_goto (pc := 40) (tgt := 4) (dd dtX10_priceOfSet 30 rfl) (by decide) ?_
        rw [nI_1]
        refine ih (h + 1) _ _ ht (by omega) rfl ?_
        try simp only [mul2, add1n, nI_clamp (show 2 * h + 1 < 2 ^ 31 by omega)]
        simp only [sPr]
        first | rw [if_pos (show bitS set h = 0 from h21)] | rw [if_neg (show ¬ bitS set h = 0 from h21)]
      · refine b_iload_n (pc := 24) (i := 2) (dd dtX10_priceOfSet 18 rfl) rfl rfl ?_
        refine b_aload_n (pc := 25) (i := 0) (dd dtX10_priceOfSet 19 rfl) rfl rfl ?_
        refine b_geta (pc := 26) (dd dtX10_priceOfSet 20 rfl) fwX10_284 (pS_0 hk) (rS_2 hk) ?_
        refine b_ic2 (pc := 29) (dd dtX10_priceOfSet 21 rfl) ?_
        refine b_iload_n (pc := 30) (i := 3) (dd dtX10_priceOfSet 22 rfl) rfl rfl ?_
        refine b_imul (pc := 31) (dd dtX10_priceOfSet 23 rfl) ?_
        refine b_ic1 (pc := 32) (dd dtX10_priceOfSet 24 rfl) ?_
        refine b_iadd (pc := 33) (dd dtX10_priceOfSet 25 rfl) ?_
        refine b_iald (pc := 34) (dd dtX10_priceOfSet 26 rfl) (pS_1 hk) (by rw [mul2, add1n]; exact vpn rfl (show 2 * h + 1 < 40 by omega) (by decide)) ?_
        refine b_iadd (pc := 35) (dd dtX10_priceOfSet 27 rfl) ?_
        refine b_istore_n (pc := 36) (i := 2) (lv' := [(2, _), (3, _), (0, _), (1, _)]) (dd dtX10_priceOfSet 28 rfl) rfl (Nat.le_of_ble_eq_true rfl) rfl ?_
        refine b_iinc1 (pc := 37) (i := 3) (lv' := [(3, _), (2, _), (0, _), (1, _)]) (dd dtX10_priceOfSet 29 rfl) rfl (Nat.le_of_ble_eq_true rfl) rfl ?_
        refine b_goto (pc := 40) (tgt := 4) (dd dtX10_priceOfSet 30 rfl) (by decide) ?_
        rw [nI_1]
        refine ih (h + 1) _ _ ht (by omega) rfl ?_
        try simp only [mul2, add1n, nI_clamp (show 2 * h + 1 < 2 ^ 31 by omega)]
        simp only [sPr]
        first | rw [if_pos (show bitS set h = 0 from h21)] | rw [if_neg (show ¬ bitS set h = 0 from h21)]
set_option maxHeartbeats 4000000 in
theorem c_X10_priceOfSet {I : Wd} {k z : Nat} (hk : isS k) (hz : I k 1 = nI z) (hz2 : z ≤ 16) (hev : z % 2 = 0) {set : Int32} : Cal SyC mX10_priceOfSet 0 [.ref k, .int set] I (some (.int (sPr (I (k + 1)) set (z / 2)))) I := by
  refine Cal.of (by decide) (Nat.le_of_ble_eq_true rfl) ?_
  show Bd _ _ _ _ [(0, _), (1, _)] _ _ _ _
  refine b_ic0 (pc := 0) (dd dtX10_priceOfSet 0 rfl) ?_
  refine b_istore_n (pc := 1) (i := 2) (lv' := [(2, _), (0, _), (1, _)]) (dd dtX10_priceOfSet 1 rfl) rfl (Nat.le_of_ble_eq_true rfl) rfl ?_
  refine b_ic0 (pc := 2) (dd dtX10_priceOfSet 2 rfl) ?_
  refine b_istore_n (pc := 3) (i := 3) (lv' := [(3, _), (2, _), (0, _), (1, _)]) (dd dtX10_priceOfSet 3 rfl) rfl (Nat.le_of_ble_eq_true rfl) rfl ?_
  exact l_X10_priceOfSet hk hz hz2 hev (z / 2 + 1) 0 _ _ (Nat.zero_le _) (by omega) rfl rfl
def tX10_worthOfSet : List (Nat × Instr × Nat) := [(0, .lconst 0, 1), (1, .lstore_n 3, 1), (2, .iconst 0, 1), (3, .istore 5, 2), (5, .iconst 0, 1), (6, .istore 6, 2), (8, .iload 6, 2), (10, .bipush 8, 2), (12, .if_icmp .ge 68, 3), (15, .iconst 2, 1), (16, .iload 6, 2), (18, .imul, 1), (19, .aload_n 1, 1), (20, .getfield 214, 3), (23, .if_icmp .ge 57, 3), (26, .lconst 1, 1), (27, .aload_n 1, 1), (28, .getfield 284, 3), (31, .iconst 2, 1), (32, .iload 6, 2), (34, .imul, 1), (35, .iaload, 1), (36, .lshl, 1), (37, .lstore 7, 2), (39, .iload_n 2, 1), (40, .iload 6, 2), (42, .ishr, 1), (43, .iconst 1, 1), (44, .iand, 1), (45, .ifCond .eq 29, 3), (48, .lload_n 3, 1), (49, .lload 7, 2), (51, .land, 1), (52, .lconst 0, 1), (53, .lcmp, 1), (54, .ifCond .ne 20, 3), (57, .lload_n 3, 1), (58, .lload 7, 2), (60, .lor, 1), (61, .lstore_n 3, 1), (62, .iload 5, 2), (64, .aload_n 0, 1), (65, .getfield 74, 3), (68, .iload 6, 2), (70, .iaload, 1), (71, .iadd, 1), (72, .istore 5, 2), (74, .iinc 6 1, 3), (77, .goto (-69), 3), (80, .iload 5, 2), (82, .ireturn, 1)]
theorem dtX10_worthOfSet : dec_ok mX10_worthOfSet.2.1 tX10_worthOfSet = true := by decide +kernel
set_option maxHeartbeats 4000000 in
theorem l_X10_worthOfSet {I : Wd} {k z : Nat} (hk : isS k) (hz : I k 1 = nI z) (hz2 : z ≤ 16) (hev : z % 2 = 0) {set : Int32} : ∀ (n h : Nat) (x6 x5 : Int32) (x3 : Int64), h ≤ z / 2 → z / 2 < h + n → x6 = nI h → x5 = (sWo (I (k + 1)) (I 107) set h).1 → x3 = (sWo (I (k + 1)) (I 107) set h).2 → Bd SyC mX10_worthOfSet 0 8 [(6, .int x6), (5, .int x5), (3, .long x3), (0, .ref 0), (1, .ref k), (2, .int set)] [] I (some (.int (sWo (I (k + 1)) (I 107) set (z / 2)).1)) I := by
  intro n
  induction n with
  | zero => intro h x6 x5 x3 h1 h2; omega
  | succ n ih =>
    intro h x6 x5 x3 h1 h2 e6 e5 e3
    subst e6; subst e5; subst e3
    refine b_iload (pc := 8) (i := 6) (dd dtX10_worthOfSet 6 rfl) rfl ?_
    refine b_bipush (pc := 10) (v := 8) (dd dtX10_worthOfSet 7 rfl) (by decide) ?_
    refine b_icmpL_ge (pc := 12) (tgt := 80) (dd dtX10_worthOfSet 8 rfl) (by decide) (fun h12 => ?_) (fun h12 => ?_)
    · have ht : h = z / 2 := by first | (rw [lt8 (by omega)] at h12; omega) | (have := ge_n h23 (by omega); omega)
      subst ht
      refine b_iload (pc := 80) (i := 5) (dd dtX10_worthOfSet 49 rfl) rfl ?_
      exact b_eq (b_iret (dd dtX10_worthOfSet 50 rfl) rfl) rfl rfl
    · refine b_ic2 (pc := 15) (dd dtX10_worthOfSet 9 rfl) ?_
      refine b_iload (pc := 16) (i := 6) (dd dtX10_worthOfSet 10 rfl) rfl ?_
      refine b_imul (pc := 18) (dd dtX10_worthOfSet 11 rfl) ?_
      refine b_aload_n (pc := 19) (i := 1) (dd dtX10_worthOfSet 12 rfl) rfl rfl ?_
      refine b_geti (pc := 20) (dd dtX10_worthOfSet 13 rfl) fwX10_214 (pS_0 hk) ?_
      rw [mul2, hz]
      refine b_icmpL_ge (pc := 23) (tgt := 80) (dd dtX10_worthOfSet 14 rfl) (by decide) (fun h23 => ?_) (fun h23 => ?_)
      · have ht : h = z / 2 := by first | (rw [lt8 (by omega)] at h12; omega) | (have := ge_n h23 (by omega); omega)
        subst ht
        refine b_iload (pc := 80) (i := 5) (dd dtX10_worthOfSet 49 rfl) rfl ?_
        exact b_eq (b_iret (dd dtX10_worthOfSet 50 rfl) rfl) rfl rfl
      · have ht : h < z / 2 := by have := lt_n h23 (by omega) (by omega); omega
        refine b_lconst (pc := 26) (v := 1) (dd dtX10_worthOfSet 15 rfl) (by decide) ?_
        refine b_aload_n (pc := 27) (i := 1) (dd dtX10_worthOfSet 16 rfl) rfl rfl ?_
        refine b_geta (pc := 28) (dd dtX10_worthOfSet 17 rfl) fwX10_284 (pS_0 hk) (rS_2 hk) ?_
        refine b_ic2 (pc := 31) (dd dtX10_worthOfSet 18 rfl) ?_
        refine b_iload (pc := 32) (i := 6) (dd dtX10_worthOfSet 19 rfl) rfl ?_
        refine b_imul (pc := 34) (dd dtX10_worthOfSet 20 rfl) ?_
        refine b_iald (pc := 35) (dd dtX10_worthOfSet 21 rfl) (pS_1 hk) (by rw [mul2]; exact vpn rfl (show 2 * h < 40 by omega) (by decide)) ?_
        refine b_lshl (pc := 36) (dd dtX10_worthOfSet 22 rfl) ?_
        refine b_lstore (pc := 37) (i := 7) (lv' := [(7, _), (6, _), (5, _), (3, _), (0, _), (1, _), (2, _)]) (dd dtX10_worthOfSet 23 rfl) ⟨Nat.le_of_ble_eq_true rfl, Nat.le_of_ble_eq_true rfl⟩ rfl ?_
        refine b_iload_n (pc := 39) (i := 2) (dd dtX10_worthOfSet 24 rfl) rfl rfl ?_
        refine b_iload (pc := 40) (i := 6) (dd dtX10_worthOfSet 25 rfl) rfl ?_
        refine b_ishr (pc := 42) (dd dtX10_worthOfSet 26 rfl) ?_
        refine b_ic1 (pc := 43) (dd dtX10_worthOfSet 27 rfl) ?_
        refine b_iand (pc := 44) (dd dtX10_worthOfSet 28 rfl) ?_
        refine b_if_eq (pc := 45) (tgt := 74) (dd dtX10_worthOfSet 29 rfl) (by decide) (fun h45 => ?_) (fun h45 => ?_)
        · try rw [lcmp0] at h54
          refine b_iinc1 (pc := 74) (i := 6) (lv' := [(6, _), (7, _), (5, _), (3, _), (0, _), (1, _), (2, _)]) (dd dtX10_worthOfSet 47 rfl) rfl (Nat.le_of_ble_eq_true rfl) rfl ?_
          refine b_goto (pc := 77) (tgt := 8) (dd dtX10_worthOfSet 48 rfl) (by decide) ?_
          refine b_pick [0, 2, 3, 4, 5, 6] (lv' := [(6, _), (5, _), (3, _), (0, _), (1, _), (2, _)]) rfl ?_
          rw [nI_1]
          try simp only [mul2, nI_clamp (show 2 * h < 2 ^ 31 by omega), nI_clamp (show h < 2 ^ 31 by omega)] at h54
          refine ih (h + 1) _ _ _ ht (by omega) rfl ?_ ?_
          · try simp only [mul2, nI_clamp (show 2 * h < 2 ^ 31 by omega), nI_clamp (show h < 2 ^ 31 by omega)]
            simp only [sWo]
            first | rw [if_pos (show bitS set h = 0 from h45)] | (rw [if_neg (show ¬ bitS set h = 0 from h45)]; first | rw [if_pos h54] | rw [if_neg h54])
          · try simp only [mul2, nI_clamp (show 2 * h < 2 ^ 31 by omega), nI_clamp (show h < 2 ^ 31 by omega)]
            simp only [sWo]
            first | rw [if_pos (show bitS set h = 0 from h45)] | (rw [if_neg (show ¬ bitS set h = 0 from h45)]; first | rw [if_pos h54] | rw [if_neg h54])
        · refine b_lload_n (pc := 48) (i := 3) (dd dtX10_worthOfSet 30 rfl) rfl rfl ?_
          refine b_lload (pc := 49) (i := 7) (dd dtX10_worthOfSet 31 rfl) rfl ?_
          refine b_land (pc := 51) (dd dtX10_worthOfSet 32 rfl) ?_
          refine b_lconst (pc := 52) (v := 0) (dd dtX10_worthOfSet 33 rfl) (by decide) ?_
          refine b_lcmp (pc := 53) (dd dtX10_worthOfSet 34 rfl) ?_
          refine b_if_ne (pc := 54) (tgt := 74) (dd dtX10_worthOfSet 35 rfl) (by decide) (fun h54 => ?_) (fun h54 => ?_)
          · try rw [lcmp0] at h54
            refine b_iinc1 (pc := 74) (i := 6) (lv' := [(6, _), (7, _), (5, _), (3, _), (0, _), (1, _), (2, _)]) (dd dtX10_worthOfSet 47 rfl) rfl (Nat.le_of_ble_eq_true rfl) rfl ?_
            refine b_goto (pc := 77) (tgt := 8) (dd dtX10_worthOfSet 48 rfl) (by decide) ?_
            refine b_pick [0, 2, 3, 4, 5, 6] (lv' := [(6, _), (5, _), (3, _), (0, _), (1, _), (2, _)]) rfl ?_
            rw [nI_1]
            try simp only [mul2, nI_clamp (show 2 * h < 2 ^ 31 by omega), nI_clamp (show h < 2 ^ 31 by omega)] at h54
            refine ih (h + 1) _ _ _ ht (by omega) rfl ?_ ?_
            · try simp only [mul2, nI_clamp (show 2 * h < 2 ^ 31 by omega), nI_clamp (show h < 2 ^ 31 by omega)]
              simp only [sWo]
              first | rw [if_pos (show bitS set h = 0 from h45)] | (rw [if_neg (show ¬ bitS set h = 0 from h45)]; first | rw [if_pos h54] | rw [if_neg h54])
            · try simp only [mul2, nI_clamp (show 2 * h < 2 ^ 31 by omega), nI_clamp (show h < 2 ^ 31 by omega)]
              simp only [sWo]
              first | rw [if_pos (show bitS set h = 0 from h45)] | (rw [if_neg (show ¬ bitS set h = 0 from h45)]; first | rw [if_pos h54] | rw [if_neg h54])
          · rw [lcmp0] at h54
            refine b_lload_n (pc := 57) (i := 3) (dd dtX10_worthOfSet 36 rfl) rfl rfl ?_
            refine b_lload (pc := 58) (i := 7) (dd dtX10_worthOfSet 37 rfl) rfl ?_
            refine b_lor (pc := 60) (dd dtX10_worthOfSet 38 rfl) ?_
            refine b_lstore_n (pc := 61) (i := 3) (lv' := [(3, _), (7, _), (6, _), (5, _), (0, _), (1, _), (2, _)]) (dd dtX10_worthOfSet 39 rfl) rfl ⟨Nat.le_of_ble_eq_true rfl, Nat.le_of_ble_eq_true rfl⟩ rfl ?_
            refine b_iload (pc := 62) (i := 5) (dd dtX10_worthOfSet 40 rfl) rfl ?_
            refine b_aload_n (pc := 64) (i := 0) (dd dtX10_worthOfSet 41 rfl) rfl rfl ?_
            refine b_geta (pc := 65) (dd dtX10_worthOfSet 42 rfl) fwX10_74 pC_0 rC_0_11 ?_
            refine b_iload (pc := 68) (i := 6) (dd dtX10_worthOfSet 43 rfl) rfl ?_
            refine b_iald (pc := 70) (dd dtX10_worthOfSet 44 rfl) pC_107 (vpn rfl (show h < 8 by omega) (by decide)) ?_
            refine b_iadd (pc := 71) (dd dtX10_worthOfSet 45 rfl) ?_
            refine b_istore (pc := 72) (i := 5) (lv' := [(5, _), (3, _), (7, _), (6, _), (0, _), (1, _), (2, _)]) (dd dtX10_worthOfSet 46 rfl) (Nat.le_of_ble_eq_true rfl) rfl ?_
            try rw [lcmp0] at h54
            refine b_iinc1 (pc := 74) (i := 6) (lv' := [(6, _), (5, _), (3, _), (7, _), (0, _), (1, _), (2, _)]) (dd dtX10_worthOfSet 47 rfl) rfl (Nat.le_of_ble_eq_true rfl) rfl ?_
            refine b_goto (pc := 77) (tgt := 8) (dd dtX10_worthOfSet 48 rfl) (by decide) ?_
            refine b_pick [0, 1, 2, 4, 5, 6] (lv' := [(6, _), (5, _), (3, _), (0, _), (1, _), (2, _)]) rfl ?_
            rw [nI_1]
            try simp only [mul2, nI_clamp (show 2 * h < 2 ^ 31 by omega), nI_clamp (show h < 2 ^ 31 by omega)] at h54
            refine ih (h + 1) _ _ _ ht (by omega) rfl ?_ ?_
            · try simp only [mul2, nI_clamp (show 2 * h < 2 ^ 31 by omega), nI_clamp (show h < 2 ^ 31 by omega)]
              simp only [sWo]
              first | rw [if_pos (show bitS set h = 0 from h45)] | (rw [if_neg (show ¬ bitS set h = 0 from h45)]; first | rw [if_pos h54] | rw [if_neg h54])
            · try simp only [mul2, nI_clamp (show 2 * h < 2 ^ 31 by omega), nI_clamp (show h < 2 ^ 31 by omega)]
              simp only [sWo]
              first | rw [if_pos (show bitS set h = 0 from h45)] | (rw [if_neg (show ¬ bitS set h = 0 from h45)]; first | rw [if_pos h54] | rw [if_neg h54])
set_option maxHeartbeats 4000000 in
theorem c_X10_worthOfSet {I : Wd} {k z : Nat} (hk : isS k) (hz : I k 1 = nI z) (hz2 : z ≤ 16) (hev : z % 2 = 0) {set : Int32} : Cal SyC mX10_worthOfSet 0 [.ref 0, .ref k, .int set] I (some (.int (sWo (I (k + 1)) (I 107) set (z / 2)).1)) I := by
  refine Cal.of (by decide) (Nat.le_of_ble_eq_true rfl) ?_
  show Bd _ _ _ _ [(0, _), (1, _), (2, _)] _ _ _ _
  refine b_lconst (pc := 0) (v := 0) (dd dtX10_worthOfSet 0 rfl) (by decide) ?_
  refine b_lstore_n (pc := 1) (i := 3) (lv' := [(3, _), (0, _), (1, _), (2, _)]) (dd dtX10_worthOfSet 1 rfl) rfl ⟨Nat.le_of_ble_eq_true rfl, Nat.le_of_ble_eq_true rfl⟩ rfl ?_
  refine b_ic0 (pc := 2) (dd dtX10_worthOfSet 2 rfl) ?_
  refine b_istore (pc := 3) (i := 5) (lv' := [(5, _), (3, _), (0, _), (1, _), (2, _)]) (dd dtX10_worthOfSet 3 rfl) (Nat.le_of_ble_eq_true rfl) rfl ?_
  refine b_ic0 (pc := 5) (dd dtX10_worthOfSet 4 rfl) ?_
  refine b_istore (pc := 6) (i := 6) (lv' := [(6, _), (5, _), (3, _), (0, _), (1, _), (2, _)]) (dd dtX10_worthOfSet 5 rfl) (Nat.le_of_ble_eq_true rfl) rfl ?_
  exact l_X10_worthOfSet hk hz hz2 hev (z / 2 + 1) 0 _ _ _ (Nat.zero_le _) (by omega) rfl rfl rfl
def lwF (I : Wd) (k K N : Nat) (known : Int32) (i : Nat) : Int32 := lkW I K N (I (k + 1) (2 * i)) known
def lkFill (I : Wd) (k K N : Nat) (known : Int32) (h : Nat) : Wd := rset I 107 (fil (lwF I k K N known) (I 107) h)
theorem lkW_fill {I : Wd} {k K N h : Nat} {c kn kn2 : Int32} : lkW (lkFill I k K N kn h) K N c kn2 = lkW I K N c kn2 := by
  unfold lkW lkFill; simp (disch := decide) only [rset_ne]
def lkSp (nums lw : Nat → Int32) (m : Nat) (coin set : Int32) : Int32 := if coin < sPr nums set m then 0 else (sWo nums lw set m).1
/-- the most worth of the sets ahead of h, and which set it is -/
def lkS (nums lw : Nat → Int32) (m : Nat) (coin : Int32) : Nat → Int32 × Int32
  | 0 => (0, 0)
  | h + 1 => if h = 0 then (0, 0) else if (lkS nums lw m coin h).1 < lkSp nums lw m coin (nI h) then (lkSp nums lw m coin (nI h), nI h) else lkS nums lw m coin h
abbrev okLooks (ms : Prop) (hl : Prop) (month s coin known : Int32) : Prop := inR s 0 3 ∧ ¬ ms ∧ hl ∧ inR coin 0 1000000 ∧ inR known 0 month
def vLooks (ms : Prop) [Decidable ms] (hl : Prop) [Decidable hl] (month s coin known v : Int32) : Int32 := if inR s 0 3 then (if ms then -11 else if hl ∧ inR coin 0 1000000 ∧ inR known 0 month then v else -2) else -1
def tX10_looks : List (Nat × Instr × Nat) := [(0, .iload_n 1, 1), (1, .invokestatic 208, 3), (4, .ifCond .ne 5, 3), (7, .iconst (-1), 1), (8, .ireturn, 1), (9, .aload_n 0, 1), (10, .getfield 70, 3), (13, .iload_n 1, 1), (14, .aaload, 1), (15, .astore 4, 2), (17, .aload 4, 2), (19, .invokevirtual 211, 3), (22, .ifCond .eq 6, 3), (25, .bipush (-11), 2), (27, .ireturn, 1), (28, .aload 4, 2), (30, .invokestatic 280, 3), (33, .ifCond .eq 22, 3), (36, .iload_n 2, 1), (37, .iconst 0, 1), (38, .ldc_w 283, 3), (41, .invokestatic 97, 3), (44, .ifCond .eq 11, 3), (47, .aload_n 0, 1), (48, .iload_n 3, 1), (49, .invokevirtual 172, 3), (52, .ifCond .ne 6, 3), (55, .bipush (-2), 2), (57, .ireturn, 1), (58, .aload 4, 2), (60, .getfield 214, 3), (63, .iconst 2, 1), (64, .idiv, 1), (65, .istore 5, 2), (67, .iconst 0, 1), (68, .istore 6, 2), (70, .iload 6, 2), (72, .iload 5, 2), (74, .if_icmp .ge 38, 3), (77, .iload 6, 2), (79, .bipush 8, 2), (81, .if_icmp .ge 31, 3), (84, .aload_n 0, 1), (85, .getfield 74, 3), (88, .iload 6, 2), (90, .aload_n 0, 1), (91, .aload 4, 2), (93, .getfield 284, 3), (96, .iconst 2, 1), (97, .iload 6, 2), (99, .imul, 1), (100, .iaload, 1), (101, .iload_n 3, 1), (102, .invokevirtual 287, 3), (105, .iastore, 1), (106, .iinc 6 1, 3), (109, .goto (-39), 3), (112, .iconst 0, 1), (113, .istore 6, 2), (115, .aload_n 0, 1), (116, .iconst 0, 1), (117, .putfield 78, 3), (120, .iconst 1, 1), (121, .istore 7, 2), (123, .iload 7, 2), (125, .iconst 1, 1), (126, .iload 5, 2), (128, .ishl, 1), (129, .if_icmp .ge 51, 3), (132, .aload 4, 2), (134, .iload 7, 2), (136, .invokestatic 290, 3), (139, .iload_n 2, 1), (140, .if_icmp .le 7, 3), (143, .iconst 0, 1), (144, .goto 11, 3), (147, .aload_n 0, 1), (148, .aload 4, 2), (150, .iload 7, 2), (152, .invokevirtual 294, 3), (155, .istore 8, 2), (157, .iload 8, 2), (159, .iload 6, 2), (161, .if_icmp .le 13, 3), (164, .iload 8, 2), (166, .istore 6, 2), (168, .aload_n 0, 1), (169, .iload 7, 2), (171, .putfield 78, 3), (174, .iinc 7 1, 3), (177, .goto (-54), 3), (180, .iload 6, 2), (182, .ireturn, 1)]
theorem dtX10_looks : dec_ok mX10_looks.2.1 tX10_looks = true := by decide +kernel
set_option maxHeartbeats 4000000 in
theorem l2_X10_looks {I : Wd} {k z : Nat} (hk : isS k) (hz : I k 1 = nI z) (hz2 : z ≤ 16) (hev : z % 2 = 0) {J : Wd} {m : Nat} (hm : m ≤ 8) (hmz : m = z / 2) (hzJ : J k 1 = nI z) (hJn : J (k + 1) = I (k + 1)) {coin s kn : Int32} : ∀ (n h : Nat) (x7 : Int32) (x6 : Int32) (I2 : Wd), h ≤ 2 ^ m → 2 ^ m < h + n → x7 = nI h → x6 = (lkS (I (k + 1)) (J 107) m coin h).1 → (1 ≤ h) → I2 = (ist J 0 12 (lkS (I (k + 1)) (J 107) m coin h).2) → Bd SyC mX10_looks 4 123 [(7, .int x7), (6, .int x6), (5, .int (nI m)), (4, .ref k), (0, .ref 0), (1, .int s), (2, .int coin), (3, .int kn)] [] I2 (some (.int (lkS (I (k + 1)) (J 107) m coin (2 ^ m)).1)) (ist J 0 12 (lkS (I (k + 1)) (J 107) m coin (2 ^ m)).2) := by
  intro n
  induction n with
  | zero => intro h x7 x6 I2 h1 h2; omega
  | succ n ih =>
    intro h x7 x6 I2 h1 h2 e7 e6 hI eW
    subst e7; subst e6; subst eW
    have hpw := pow_n m hm
    have hkk : k ≠ 0 ∧ k + 1 ≠ 0 := by unfold isS at hk; omega
    have hz1 : (ist J 0 12 (lkS (I (k + 1)) (J 107) m coin h).2) k 1 = nI z := by rw [ist_ne hkk.1]; exact hzJ
    refine b_iload (pc := 123) (i := 7) (dd dtX10_looks 64 rfl) rfl ?_
    refine b_ic1 (pc := 125) (dd dtX10_looks 65 rfl) ?_
    refine b_iload (pc := 126) (i := 5) (dd dtX10_looks 66 rfl) rfl ?_
    refine b_ishl (pc := 128) (dd dtX10_looks 67 rfl) ?_
    refine b_icmpL_ge (pc := 129) (tgt := 180) (dd dtX10_looks 68 rfl) (by decide) (fun h129 => ?_) (fun h129 => ?_)
    · rw [shl_n m hm] at h129
      have he : h = 2 ^ m := Nat.le_antisymm h1 (ge_n h129 (by omega))
      subst he
      refine b_iload (pc := 180) (i := 6) (dd dtX10_looks 91 rfl) rfl ?_
      exact b_eq (b_iret (dd dtX10_looks 92 rfl) rfl) rfl rfl
    · rw [shl_n m hm] at h129
      have hlt : h < 2 ^ m := lt_n h129 (by omega) (by omega)
      refine b_aload (pc := 132) (i := 4) (dd dtX10_looks 69 rfl) rfl ?_
      refine b_iload (pc := 134) (i := 7) (dd dtX10_looks 70 rfl) rfl ?_
      refine b_invS (pc := 136) (dd dtX10_looks 71 rfl) mlX10_290 mvX10_priceOfSet msX10_priceOfSet (c_X10_priceOfSet hk hz1 hz2 hev) rfl rfl (by decide) (Nat.le_of_ble_eq_true rfl) ?_
      refine b_iload_n (pc := 139) (i := 2) (dd dtX10_looks 72 rfl) rfl rfl ?_
      refine b_icmpL_le (pc := 140) (tgt := 147) (dd dtX10_looks 73 rfl) (by decide) (fun h140 => ?_) (fun h140 => ?_)
      · simp (disch := omega) only [ist_ne, hJn] at h140
        rw [← hmz] at h140
        refine b_aload_n (pc := 147) (i := 0) (dd dtX10_looks 76 rfl) rfl rfl ?_
        refine b_aload (pc := 148) (i := 4) (dd dtX10_looks 77 rfl) rfl ?_
        refine b_iload (pc := 150) (i := 7) (dd dtX10_looks 78 rfl) rfl ?_
        refine b_invV (pc := 152) (dd dtX10_looks 79 rfl) mlX10_294 mvX10_worthOfSet miX10_worthOfSet (c_X10_worthOfSet hk hz1 hz2 hev) oC_0 rfl rfl (by decide) (Nat.le_of_ble_eq_true rfl) ?_
        refine b_istore (pc := 155) (i := 8) (lv' := [(8, _), (7, _), (6, _), (5, _), (4, _), (0, _), (1, _), (2, _), (3, _)]) (dd dtX10_looks 80 rfl) (Nat.le_of_ble_eq_true rfl) rfl ?_
        refine b_iload (pc := 157) (i := 8) (dd dtX10_looks 81 rfl) rfl ?_
        refine b_iload (pc := 159) (i := 6) (dd dtX10_looks 82 rfl) rfl ?_
        refine b_icmpL_le (pc := 161) (tgt := 174) (dd dtX10_looks 83 rfl) (by decide) (fun h161 => ?_) (fun h161 => ?_)
        · try simp (disch := omega) only [ist_ne, hJn] at h161
          try rw [← hmz] at h161
          refine b_iinc1 (pc := 174) (i := 7) (lv' := [(7, _), (8, _), (6, _), (5, _), (4, _), (0, _), (1, _), (2, _), (3, _)]) (dd dtX10_looks 89 rfl) rfl (Nat.le_of_ble_eq_true rfl) rfl ?_
          refine b_goto (pc := 177) (tgt := 123) (dd dtX10_looks 90 rfl) (by decide) ?_
          refine b_pick [0, 2, 3, 4, 5, 6, 7, 8] (lv' := [(7, _), (6, _), (5, _), (4, _), (0, _), (1, _), (2, _), (3, _)]) rfl ?_
          try simp (disch := omega) only [ist_ne, hJn]
          try rw [← hmz]
          rw [nI_1]
          refine ih (h + 1) _ _ _ hlt (by omega) rfl ?_ ?_ ?_
          · rw [lkS, if_neg (show ¬ h = 0 by omega)]
            unfold lkSp
            first | rw [if_pos h140] | rw [if_neg h140]
            first | rw [if_pos h161] | rw [if_neg h161]
          · omega
          · rw [lkS, if_neg (show ¬ h = 0 by omega)]
            unfold lkSp
            first | rw [if_pos h140] | rw [if_neg h140]
            first | (rw [if_pos h161, ist_ist]) | (rw [if_neg h161])
        · try simp (disch := omega) only [ist_ne, hJn] at h161
          try rw [← hmz] at h161
          refine b_iload (pc := 164) (i := 8) (dd dtX10_looks 84 rfl) rfl ?_
          refine b_istore (pc := 166) (i := 6) (lv' := [(6, _), (8, _), (7, _), (5, _), (4, _), (0, _), (1, _), (2, _), (3, _)]) (dd dtX10_looks 85 rfl) (Nat.le_of_ble_eq_true rfl) rfl ?_
          refine b_aload_n (pc := 168) (i := 0) (dd dtX10_looks 86 rfl) rfl rfl ?_
          refine b_iload (pc := 169) (i := 7) (dd dtX10_looks 87 rfl) rfl ?_
          refine b_puti (pc := 171) (dd dtX10_looks 88 rfl) fwX10_78 pC_0 ?_
          try simp (disch := omega) only [ist_ne, hJn] at h161
          try rw [← hmz] at h161
          refine b_iinc1 (pc := 174) (i := 7) (lv' := [(7, _), (6, _), (8, _), (5, _), (4, _), (0, _), (1, _), (2, _), (3, _)]) (dd dtX10_looks 89 rfl) rfl (Nat.le_of_ble_eq_true rfl) rfl ?_
          refine b_goto (pc := 177) (tgt := 123) (dd dtX10_looks 90 rfl) (by decide) ?_
          refine b_pick [0, 1, 3, 4, 5, 6, 7, 8] (lv' := [(7, _), (6, _), (5, _), (4, _), (0, _), (1, _), (2, _), (3, _)]) rfl ?_
          try simp (disch := omega) only [ist_ne, hJn]
          try rw [← hmz]
          rw [nI_1]
          refine ih (h + 1) _ _ _ hlt (by omega) rfl ?_ ?_ ?_
          · rw [lkS, if_neg (show ¬ h = 0 by omega)]
            unfold lkSp
            first | rw [if_pos h140] | rw [if_neg h140]
            first | rw [if_pos h161] | rw [if_neg h161]
          · omega
          · rw [lkS, if_neg (show ¬ h = 0 by omega)]
            unfold lkSp
            first | rw [if_pos h140] | rw [if_neg h140]
            first | (rw [if_pos h161, ist_ist]) | (rw [if_neg h161])
      · simp (disch := omega) only [ist_ne, hJn] at h140
        rw [← hmz] at h140
        refine b_ic0 (pc := 143) (dd dtX10_looks 74 rfl) ?_
        refine b_goto (pc := 144) (tgt := 155) (dd dtX10_looks 75 rfl) (by decide) ?_
        refine b_istore (pc := 155) (i := 8) (lv' := [(8, _), (7, _), (6, _), (5, _), (4, _), (0, _), (1, _), (2, _), (3, _)]) (dd dtX10_looks 80 rfl) (Nat.le_of_ble_eq_true rfl) rfl ?_
        refine b_iload (pc := 157) (i := 8) (dd dtX10_looks 81 rfl) rfl ?_
        refine b_iload (pc := 159) (i := 6) (dd dtX10_looks 82 rfl) rfl ?_
        refine b_icmpL_le (pc := 161) (tgt := 174) (dd dtX10_looks 83 rfl) (by decide) (fun h161 => ?_) (fun h161 => ?_)
        · try simp (disch := omega) only [ist_ne, hJn] at h161
          try rw [← hmz] at h161
          refine b_iinc1 (pc := 174) (i := 7) (lv' := [(7, _), (8, _), (6, _), (5, _), (4, _), (0, _), (1, _), (2, _), (3, _)]) (dd dtX10_looks 89 rfl) rfl (Nat.le_of_ble_eq_true rfl) rfl ?_
          refine b_goto (pc := 177) (tgt := 123) (dd dtX10_looks 90 rfl) (by decide) ?_
          refine b_pick [0, 2, 3, 4, 5, 6, 7, 8] (lv' := [(7, _), (6, _), (5, _), (4, _), (0, _), (1, _), (2, _), (3, _)]) rfl ?_
          try simp (disch := omega) only [ist_ne, hJn]
          try rw [← hmz]
          rw [nI_1]
          refine ih (h + 1) _ _ _ hlt (by omega) rfl ?_ ?_ ?_
          · rw [lkS, if_neg (show ¬ h = 0 by omega)]
            unfold lkSp
            first | rw [if_pos h140] | rw [if_neg h140]
            first | rw [if_pos h161] | rw [if_neg h161]
          · omega
          · rw [lkS, if_neg (show ¬ h = 0 by omega)]
            unfold lkSp
            first | rw [if_pos h140] | rw [if_neg h140]
            first | (rw [if_pos h161, ist_ist]) | (rw [if_neg h161])
        · try simp (disch := omega) only [ist_ne, hJn] at h161
          try rw [← hmz] at h161
          refine b_iload (pc := 164) (i := 8) (dd dtX10_looks 84 rfl) rfl ?_
          refine b_istore (pc := 166) (i := 6) (lv' := [(6, _), (8, _), (7, _), (5, _), (4, _), (0, _), (1, _), (2, _), (3, _)]) (dd dtX10_looks 85 rfl) (Nat.le_of_ble_eq_true rfl) rfl ?_
          refine b_aload_n (pc := 168) (i := 0) (dd dtX10_looks 86 rfl) rfl rfl ?_
          refine b_iload (pc := 169) (i := 7) (dd dtX10_looks 87 rfl) rfl ?_
          refine b_puti (pc := 171) (dd dtX10_looks 88 rfl) fwX10_78 pC_0 ?_
          try simp (disch := omega) only [ist_ne, hJn] at h161
          try rw [← hmz] at h161
          refine b_iinc1 (pc := 174) (i := 7) (lv' := [(7, _), (6, _), (8, _), (5, _), (4, _), (0, _), (1, _), (2, _), (3, _)]) (dd dtX10_looks 89 rfl) rfl (Nat.le_of_ble_eq_true rfl) rfl ?_
          refine b_goto (pc := 177) (tgt := 123) (dd dtX10_looks 90 rfl) (by decide) ?_
          refine b_pick [0, 1, 3, 4, 5, 6, 7, 8] (lv' := [(7, _), (6, _), (5, _), (4, _), (0, _), (1, _), (2, _), (3, _)]) rfl ?_
          try simp (disch := omega) only [ist_ne, hJn]
          try rw [← hmz]
          rw [nI_1]
          refine ih (h + 1) _ _ _ hlt (by omega) rfl ?_ ?_ ?_
          · rw [lkS, if_neg (show ¬ h = 0 by omega)]
            unfold lkSp
            first | rw [if_pos h140] | rw [if_neg h140]
            first | rw [if_pos h161] | rw [if_neg h161]
          · omega
          · rw [lkS, if_neg (show ¬ h = 0 by omega)]
            unfold lkSp
            first | rw [if_pos h140] | rw [if_neg h140]
            first | (rw [if_pos h161, ist_ist]) | (rw [if_neg h161])
end
section
set_option maxHeartbeats 4000000 in
theorem l1_X10_looks {I : Wd} {k z m K N : Nat} (hk : isS k) (hz : I k 1 = nI z) (hz2 : z ≤ 16) (hev : z % 2 = 0) (hm : m ≤ 8) (hmz : m = z / 2) (hK : I 42 0 = nI K) (hK2 : K ≤ 30) (hN : I 1 0 = nI N) (hN2 : N ≤ 14) {coin s kn : Int32} : ∀ (n h : Nat) (x6 : Int32) (I2 : Wd), h ≤ m → m < h + n → x6 = nI h → I2 = lkFill I k K N kn h → Bd SyC mX10_looks 4 70 [(6, .int x6), (5, .int (nI m)), (4, .ref k), (0, .ref 0), (1, .int s), (2, .int coin), (3, .int kn)] [] I2 (some (.int (lkS (I (k + 1)) (lkFill I k K N kn m 107) m coin (2 ^ m)).1)) (ist (lkFill I k K N kn m) 0 12 (lkS (I (k + 1)) (lkFill I k K N kn m 107) m coin (2 ^ m)).2) := by
  intro n
  induction n with
  | zero => intro h x6 I2 h1 h2; omega
  | succ n ih =>
    intro h x6 I2 h1 h2 e6 eW
    subst e6; subst eW
    have hkk : k < 107 ∧ k + 1 < 107 ∧ 99 ≤ k := by unfold isS at hk; omega
    have hwn : lkFill I k K N kn h (k + 1) = I (k + 1) := rset_ne (by omega)
    refine b_iload (pc := 70) (i := 6) (dd dtX10_looks 36 rfl) rfl ?_
    refine b_iload (pc := 72) (i := 5) (dd dtX10_looks 37 rfl) rfl ?_
    refine b_icmpL_ge (pc := 74) (tgt := 112) (dd dtX10_looks 38 rfl) (by decide) (fun h74 => ?_) (fun h74 => ?_)
    · have he : h = m := by first | (have := ge_n h74 (by omega); omega) | (rw [lt8 (by omega)] at h81; omega)
      subst he
      refine b_ic0 (pc := 112) (dd dtX10_looks 57 rfl) ?_
      refine b_istore (pc := 113) (i := 6) (lv' := [(6, _), (5, _), (4, _), (0, _), (1, _), (2, _), (3, _)]) (dd dtX10_looks 58 rfl) (Nat.le_of_ble_eq_true rfl) rfl ?_
      refine b_aload_n (pc := 115) (i := 0) (dd dtX10_looks 59 rfl) rfl rfl ?_
      refine b_ic0 (pc := 116) (dd dtX10_looks 60 rfl) ?_
      refine b_puti (pc := 117) (dd dtX10_looks 61 rfl) fwX10_78 pC_0 ?_
      refine b_ic1 (pc := 120) (dd dtX10_looks 62 rfl) ?_
      refine b_istore (pc := 121) (i := 7) (lv' := [(7, _), (6, _), (5, _), (4, _), (0, _), (1, _), (2, _), (3, _)]) (dd dtX10_looks 63 rfl) (Nat.le_of_ble_eq_true rfl) rfl ?_
      refine l2_X10_looks (I := I) (J := lkFill I k K N kn h) hk hz hz2 hev hm hmz (by rw [show lkFill I k K N kn h k = I k from rset_ne (by omega)]; exact hz) hwn (2 ^ h + 1) 1 _ _ _ (pow_n h hm).1 (by omega) rfl rfl (Nat.le_refl _) rfl
    · have hlt : h < m := lt_n h74 (by omega) (by omega)
      refine b_iload (pc := 77) (i := 6) (dd dtX10_looks 39 rfl) rfl ?_
      refine b_bipush (pc := 79) (v := 8) (dd dtX10_looks 40 rfl) (by decide) ?_
      refine b_icmpL_ge (pc := 81) (tgt := 112) (dd dtX10_looks 41 rfl) (by decide) (fun h81 => ?_) (fun h81 => ?_)
      · have he : h = m := by first | (have := ge_n h74 (by omega); omega) | (rw [lt8 (by omega)] at h81; omega)
        subst he
        refine b_ic0 (pc := 112) (dd dtX10_looks 57 rfl) ?_
        refine b_istore (pc := 113) (i := 6) (lv' := [(6, _), (5, _), (4, _), (0, _), (1, _), (2, _), (3, _)]) (dd dtX10_looks 58 rfl) (Nat.le_of_ble_eq_true rfl) rfl ?_
        refine b_aload_n (pc := 115) (i := 0) (dd dtX10_looks 59 rfl) rfl rfl ?_
        refine b_ic0 (pc := 116) (dd dtX10_looks 60 rfl) ?_
        refine b_puti (pc := 117) (dd dtX10_looks 61 rfl) fwX10_78 pC_0 ?_
        refine b_ic1 (pc := 120) (dd dtX10_looks 62 rfl) ?_
        refine b_istore (pc := 121) (i := 7) (lv' := [(7, _), (6, _), (5, _), (4, _), (0, _), (1, _), (2, _), (3, _)]) (dd dtX10_looks 63 rfl) (Nat.le_of_ble_eq_true rfl) rfl ?_
        refine l2_X10_looks (I := I) (J := lkFill I k K N kn h) hk hz hz2 hev hm hmz (by rw [show lkFill I k K N kn h k = I k from rset_ne (by omega)]; exact hz) hwn (2 ^ h + 1) 1 _ _ _ (pow_n h hm).1 (by omega) rfl rfl (Nat.le_refl _) rfl
      · refine b_aload_n (pc := 84) (i := 0) (dd dtX10_looks 42 rfl) rfl rfl ?_
        refine b_geta (pc := 85) (dd dtX10_looks 43 rfl) fwX10_74 pC_0 rC_0_11 ?_
        refine b_iload (pc := 88) (i := 6) (dd dtX10_looks 44 rfl) rfl ?_
        refine b_aload_n (pc := 90) (i := 0) (dd dtX10_looks 45 rfl) rfl rfl ?_
        refine b_aload (pc := 91) (i := 4) (dd dtX10_looks 46 rfl) rfl ?_
        refine b_geta (pc := 93) (dd dtX10_looks 47 rfl) fwX10_284 (pS_0 hk) (rS_2 hk) ?_
        refine b_ic2 (pc := 96) (dd dtX10_looks 48 rfl) ?_
        refine b_iload (pc := 97) (i := 6) (dd dtX10_looks 49 rfl) rfl ?_
        refine b_imul (pc := 99) (dd dtX10_looks 50 rfl) ?_
        refine b_iald (pc := 100) (dd dtX10_looks 51 rfl) (pS_1 hk) (by rw [mul2]; exact vpn rfl (show 2 * h < 40 by omega) (by decide)) ?_
        refine b_iload_n (pc := 101) (i := 3) (dd dtX10_looks 52 rfl) rfl rfl ?_
        refine b_invV (pc := 102) (dd dtX10_looks 53 rfl) mlX10_287 mvX10_worthOfLook miX10_worthOfLook (c_X10_worthOfLook (K := K) (N := N) (by unfold lkFill; rw [rset_ne (by decide)]; exact hK) hK2 (by unfold lkFill; rw [rset_ne (by decide)]; exact hN) hN2) oC_0 rfl rfl (by decide) (Nat.le_of_ble_eq_true rfl) ?_
        refine b_iast (pc := 105) (dd dtX10_looks 54 rfl) pC_107 (vpn rfl (show h < 8 by omega) (by decide)) ?_
        refine b_iinc1 (pc := 106) (i := 6) (lv' := [(6, _), (5, _), (4, _), (0, _), (1, _), (2, _), (3, _)]) (dd dtX10_looks 55 rfl) rfl (Nat.le_of_ble_eq_true rfl) rfl ?_
        refine b_goto (pc := 109) (tgt := 70) (dd dtX10_looks 56 rfl) (by decide) ?_
        rw [nI_1]
        refine ih (h + 1) _ _ hlt (by omega) rfl ?_
        rw [hwn, mul2, nI_clamp (show 2 * h < 2 ^ 31 by omega), nI_clamp (show h < 2 ^ 31 by omega), lkW_fill]
        unfold lkFill
        rw [ist_rset]
        exact congrArg (rset I 107) (fil_s rfl)
set_option maxHeartbeats 4000000 in
theorem c_X10_looks {I : Wd} {K N z : Nat} {s coin known : Int32} (hK : I 42 0 = nI K) (hK2 : K ≤ 30) (hN : I 1 0 = nI N) (hN2 : N ≤ 14) (hz0 : inR s 0 3 → I (kS s) 1 = nI z ∧ z ≤ 40) : Cal SyC mX10_looks 4 [.ref 0, .int s, .int coin, .int known] I (some (.int (vLooks (I (kS s) 0 = -1) (hlP (I (kS s + 1)) z) (I 6 1) s coin known (lkS (I (kS s + 1)) (lkFill I (kS s) K N known (z / 2) 107) (z / 2) coin (2 ^ (z / 2))).1))) (if okLooks (I (kS s) 0 = -1) (hlP (I (kS s + 1)) z) (I 6 1) s coin known then ist (lkFill I (kS s) K N known (z / 2)) 0 12 (lkS (I (kS s + 1)) (lkFill I (kS s) K N known (z / 2) 107) (z / 2) coin (2 ^ (z / 2))).2 else I) := by
  refine Cal.of (by decide) (Nat.le_of_ble_eq_true rfl) ?_
  show Bd _ _ _ _ [(0, _), (1, _), (2, _), (3, _)] _ _ _ _
  refine b_iload_n (pc := 0) (i := 1) (dd dtX10_looks 0 rfl) rfl rfl ?_
  refine b_invS (pc := 1) (dd dtX10_looks 1 rfl) mlX10_208 mvX10_isSheet msX10_isSheet (c_X10_isSheet) rfl rfl (by decide) (Nat.le_of_ble_eq_true rfl) ?_
  refine b_ifb_ne (pc := 4) (tgt := 9) (dd dtX10_looks 2 rfl) (by decide) (fun h4 => ?_) (fun h4 => ?_)
  · obtain ⟨hz, hz2⟩ := hz0 h4
    clear hz0
    refine b_aload_n (pc := 9) (i := 0) (dd dtX10_looks 5 rfl) rfl rfl ?_
    refine b_geta (pc := 10) (dd dtX10_looks 6 rfl) fwX10_70 pC_0 rC_0_10 ?_
    refine b_iload_n (pc := 13) (i := 1) (dd dtX10_looks 7 rfl) rfl rfl ?_
    refine b_aald (pc := 14) (q := kS s) (dd dtX10_looks 8 rfl) pC_98 (by decide) ((sheet_k h4).2.1) ((sheet_k h4).2.2) ?_
    refine b_astore (pc := 15) (i := 4) (lv' := [(4, _), (0, _), (1, _), (2, _), (3, _)]) (dd dtX10_looks 9 rfl) (Nat.le_of_ble_eq_true rfl) rfl ?_
    refine b_aload (pc := 17) (i := 4) (dd dtX10_looks 10 rfl) rfl ?_
    refine b_invV (pc := 19) (dd dtX10_looks 11 rfl) mlX10_211 mvX5_isMissing miX5_isMissing (c_X5_isMissing (sheet_k h4).1) (oS (sheet_k h4).1) rfl rfl (by decide) (Nat.le_of_ble_eq_true rfl) ?_
    refine b_ifb_eq (pc := 22) (tgt := 28) (dd dtX10_looks 12 rfl) (by decide) (fun h22 => ?_) (fun h22 => ?_)
    · refine b_aload (pc := 28) (i := 4) (dd dtX10_looks 15 rfl) rfl ?_
      refine b_invS (pc := 30) (dd dtX10_looks 16 rfl) mlX10_280 mvX10_holdsLooks msX10_holdsLooks (c_X10_holdsLooks (sheet_k h4).1 hz hz2) rfl rfl (by decide) (Nat.le_of_ble_eq_true rfl) ?_
      refine b_ifb_eq (pc := 33) (tgt := 55) (dd dtX10_looks 17 rfl) (by decide) (fun h33 => ?_) (fun h33 => ?_)
      · refine b_bipush (pc := 55) (v := -2) (dd dtX10_looks 27 rfl) (by decide) ?_
        refine b_eq (b_iret (dd dtX10_looks 28 rfl) rfl) ?_ ?_
        · unfold vLooks; rw [if_pos h4, if_neg h22, if_neg]; rintro ⟨q1, q2, q3⟩; first | exact h33 q1 | exact h44 q2 | exact h52 q3
        · rw [if_neg]; rintro ⟨q0, q9, q1, q2, q3⟩; first | exact h33 q1 | exact h44 q2 | exact h52 q3
      · refine b_iload_n (pc := 36) (i := 2) (dd dtX10_looks 18 rfl) rfl rfl ?_
        refine b_ic0 (pc := 37) (dd dtX10_looks 19 rfl) ?_
        refine b_ldcw (pc := 38) (dd dtX10_looks 20 rfl) kcX10_283 ?_
        refine b_invS (pc := 41) (dd dtX10_looks 21 rfl) mlX10_97 mvX10_within msX10_within (c_X10_within) rfl rfl (by decide) (Nat.le_of_ble_eq_true rfl) ?_
        refine b_ifb_eq (pc := 44) (tgt := 55) (dd dtX10_looks 22 rfl) (by decide) (fun h44 => ?_) (fun h44 => ?_)
        · refine b_bipush (pc := 55) (v := -2) (dd dtX10_looks 27 rfl) (by decide) ?_
          refine b_eq (b_iret (dd dtX10_looks 28 rfl) rfl) ?_ ?_
          · unfold vLooks; rw [if_pos h4, if_neg h22, if_neg]; rintro ⟨q1, q2, q3⟩; first | exact h33 q1 | exact h44 q2 | exact h52 q3
          · rw [if_neg]; rintro ⟨q0, q9, q1, q2, q3⟩; first | exact h33 q1 | exact h44 q2 | exact h52 q3
        · refine b_aload_n (pc := 47) (i := 0) (dd dtX10_looks 23 rfl) rfl rfl ?_
          refine b_iload_n (pc := 48) (i := 3) (dd dtX10_looks 24 rfl) rfl rfl ?_
          refine b_invV (pc := 49) (dd dtX10_looks 25 rfl) mlX10_172 mvX10_isKnown miX10_isKnown (c_X10_isKnown) oC_0 rfl rfl (by decide) (Nat.le_of_ble_eq_true rfl) ?_
          refine b_ifb_ne (pc := 52) (tgt := 58) (dd dtX10_looks 26 rfl) (by decide) (fun h52 => ?_) (fun h52 => ?_)
          · refine b_aload (pc := 58) (i := 4) (dd dtX10_looks 29 rfl) rfl ?_
            refine b_geti (pc := 60) (dd dtX10_looks 30 rfl) fwX10_214 (pS_0 (sheet_k h4).1) ?_
            refine b_ic2 (pc := 63) (dd dtX10_looks 31 rfl) ?_
            refine b_idiv (pc := 64) (dd dtX10_looks 32 rfl) (by decide) ?_
            rw [hz, div2 (show z < 2 ^ 31 by omega)]
            refine b_istore (pc := 65) (i := 5) (lv' := [(5, _), (4, _), (0, _), (1, _), (2, _), (3, _)]) (dd dtX10_looks 33 rfl) (Nat.le_of_ble_eq_true rfl) rfl ?_
            refine b_ic0 (pc := 67) (dd dtX10_looks 34 rfl) ?_
            refine b_istore (pc := 68) (i := 6) (lv' := [(6, _), (5, _), (4, _), (0, _), (1, _), (2, _), (3, _)]) (dd dtX10_looks 35 rfl) (Nat.le_of_ble_eq_true rfl) rfl ?_
            refine b_eq (l1_X10_looks (sheet_k h4).1 hz h33.1.2 h33.1.1 (by have := h33.1.2; omega) rfl hK hK2 hN hN2 (z / 2 + 1) 0 _ _ (Nat.zero_le _) (by omega) rfl (by unfold lkFill; rw [fil_0, rset_id])) ?_ ?_
            · unfold vLooks
              rw [if_pos h4, if_neg h22, if_pos ⟨h33, h44, h52⟩]
            · rw [if_pos ⟨h4, h22, h33, h44, h52⟩]
          · refine b_bipush (pc := 55) (v := -2) (dd dtX10_looks 27 rfl) (by decide) ?_
            refine b_eq (b_iret (dd dtX10_looks 28 rfl) rfl) ?_ ?_
            · unfold vLooks; rw [if_pos h4, if_neg h22, if_neg]; rintro ⟨q1, q2, q3⟩; first | exact h33 q1 | exact h44 q2 | exact h52 q3
            · rw [if_neg]; rintro ⟨q0, q9, q1, q2, q3⟩; first | exact h33 q1 | exact h44 q2 | exact h52 q3
    · refine b_bipush (pc := 25) (v := -11) (dd dtX10_looks 13 rfl) (by decide) ?_
      refine b_eq (b_iret (dd dtX10_looks 14 rfl) rfl) ?_ ?_
      · unfold vLooks; rw [if_pos h4, if_pos h22]
      · rw [if_neg (fun q => q.2.1 h22)]
  · refine b_icm1 (pc := 7) (dd dtX10_looks 3 rfl) ?_
    refine b_eq (b_iret (dd dtX10_looks 4 rfl) rfl) ?_ ?_
    · unfold vLooks; rw [if_neg h4]
    · rw [if_neg (fun q => h4 q.1)]
end
section
/-! near ones, unlike cells, fits -/
abbrev farP (a b : Int32) : Prop := 1 < ab ((a - a / 8 * 8) - (b - b / 8 * 8)) + ab (a / 8 - b / 8)
def sNr (pc pumped : Nat → Int32) (c : Int32) : Nat → Int32
  | 0 => 0
  | p + 1 => if 0 < pumped p then (if farP (pc p) c then sNr pc pumped c p else sNr pc pumped c p + 1) else sNr pc pumped c p
def uM (nums : Nat → Int32) : Nat → Int64
  | 0 => 0
  | i + 1 => uM nums i ||| ((1 : Int64) <<< ((nums i).toInt64 &&& 63))
abbrev ucP (nums : Nat → Int32) (z : Nat) : Prop := ∀ i, i < z → inR (nums i) 0 63 ∧ us (uM nums i) (nums i) &&& 1 = 0
def tX10_isNear : List (Nat × Instr × Nat) := [(0, .iload_n 0, 1), (1, .bipush 8, 2), (3, .irem, 1), (4, .iload_n 1, 1), (5, .bipush 8, 2), (7, .irem, 1), (8, .isub, 1), (9, .invokestatic 373, 3), (12, .istore_n 2, 1), (13, .iload_n 0, 1), (14, .bipush 8, 2), (16, .idiv, 1), (17, .iload_n 1, 1), (18, .bipush 8, 2), (20, .idiv, 1), (21, .isub, 1), (22, .invokestatic 373, 3), (25, .istore_n 3, 1), (26, .iload_n 2, 1), (27, .iload_n 3, 1), (28, .iadd, 1), (29, .iconst 1, 1), (30, .if_icmp .gt 7, 3), (33, .iconst 1, 1), (34, .goto 4, 3), (37, .iconst 0, 1), (38, .ireturn, 1)]
theorem dtX10_isNear : dec_ok mX10_isNear.2.1 tX10_isNear = true := by decide +kernel
set_option maxHeartbeats 4000000 in
theorem c_X10_isNear {I : Wd} {a b : Int32} : Cal SyC mX10_isNear 1 [.int a, .int b] I (some (.int (bi (¬ farP a b)))) I := by
  refine Cal.of (by decide) (Nat.le_of_ble_eq_true rfl) ?_
  show Bd _ _ _ _ [(0, _), (1, _)] _ _ _ _
  refine b_iload_n (pc := 0) (i := 0) (dd dtX10_isNear 0 rfl) rfl rfl ?_
  refine b_bipush (pc := 1) (v := 8) (dd dtX10_isNear 1 rfl) (by decide) ?_
  refine b_irem (pc := 3) (dd dtX10_isNear 2 rfl) (by decide) ?_
  refine b_iload_n (pc := 4) (i := 1) (dd dtX10_isNear 3 rfl) rfl rfl ?_
  refine b_bipush (pc := 5) (v := 8) (dd dtX10_isNear 4 rfl) (by decide) ?_
  refine b_irem (pc := 7) (dd dtX10_isNear 5 rfl) (by decide) ?_
  refine b_isub (pc := 8) (dd dtX10_isNear 6 rfl) ?_
  refine b_mabs (pc := 9) (dd dtX10_isNear 7 rfl) wlX10_373 (Nat.le_of_ble_eq_true rfl) ?_
  refine b_istore_n (pc := 12) (i := 2) (lv' := [(2, _), (0, _), (1, _)]) (dd dtX10_isNear 8 rfl) rfl (Nat.le_of_ble_eq_true rfl) rfl ?_
  refine b_iload_n (pc := 13) (i := 0) (dd dtX10_isNear 9 rfl) rfl rfl ?_
  refine b_bipush (pc := 14) (v := 8) (dd dtX10_isNear 10 rfl) (by decide) ?_
  refine b_idiv (pc := 16) (dd dtX10_isNear 11 rfl) (by decide) ?_
  refine b_iload_n (pc := 17) (i := 1) (dd dtX10_isNear 12 rfl) rfl rfl ?_
  refine b_bipush (pc := 18) (v := 8) (dd dtX10_isNear 13 rfl) (by decide) ?_
  refine b_idiv (pc := 20) (dd dtX10_isNear 14 rfl) (by decide) ?_
  refine b_isub (pc := 21) (dd dtX10_isNear 15 rfl) ?_
  refine b_mabs (pc := 22) (dd dtX10_isNear 16 rfl) wlX10_373 (Nat.le_of_ble_eq_true rfl) ?_
  refine b_istore_n (pc := 25) (i := 3) (lv' := [(3, _), (2, _), (0, _), (1, _)]) (dd dtX10_isNear 17 rfl) rfl (Nat.le_of_ble_eq_true rfl) rfl ?_
  refine b_iload_n (pc := 26) (i := 2) (dd dtX10_isNear 18 rfl) rfl rfl ?_
  refine b_iload_n (pc := 27) (i := 3) (dd dtX10_isNear 19 rfl) rfl rfl ?_
  refine b_iadd (pc := 28) (dd dtX10_isNear 20 rfl) ?_
  refine b_ic1 (pc := 29) (dd dtX10_isNear 21 rfl) ?_
  refine b_icmp_gt (pc := 30) (tgt := 37) (dd dtX10_isNear 22 rfl) (by decide) (fun h30 => ?_) (fun h30 => ?_)
  · refine b_ic0 (pc := 37) (dd dtX10_isNear 25 rfl) ?_
    refine b_eq (b_zret (dd dtX10_isNear 26 rfl) rfl (by first | rfl | exact nar_bi)) ?_ ?_
    · first | exact congrArg (fun x => some (Value.int x)) (bi_f (fun q => q h30)).symm | exact congrArg (fun x => some (Value.int x)) (bi_t h30).symm
    · rfl
  · refine b_ic1 (pc := 33) (dd dtX10_isNear 23 rfl) ?_
    refine b_goto (pc := 34) (tgt := 38) (dd dtX10_isNear 24 rfl) (by decide) ?_
    refine b_eq (b_zret (dd dtX10_isNear 26 rfl) rfl (by first | rfl | exact nar_bi)) ?_ ?_
    · first | exact congrArg (fun x => some (Value.int x)) (bi_f (fun q => q h30)).symm | exact congrArg (fun x => some (Value.int x)) (bi_t h30).symm
    · rfl
def tX2_pumpsNear : List (Nat × Instr × Nat) := [(0, .iconst 0, 1), (1, .istore_n 2, 1), (2, .iconst 0, 1), (3, .istore_n 3, 1), (4, .iload_n 3, 1), (5, .aload_n 0, 1), (6, .getfield 59, 3), (9, .getfield 80, 3), (12, .if_icmp .ge 37, 3), (15, .aload_n 0, 1), (16, .getfield 43, 3), (19, .iload_n 3, 1), (20, .iaload, 1), (21, .ifCond .le 22, 3), (24, .aload_n 0, 1), (25, .getfield 59, 3), (28, .getfield 83, 3), (31, .iload_n 3, 1), (32, .iaload, 1), (33, .iload_n 1, 1), (34, .invokestatic 86, 3), (37, .ifCond .eq 6, 3), (40, .iinc 2 1, 3), (43, .iinc 3 1, 3), (46, .goto (-42), 3), (49, .iload_n 2, 1), (50, .ireturn, 1)]
theorem dtX2_pumpsNear : dec_ok mX2_pumpsNear.2.1 tX2_pumpsNear = true := by decide +kernel
set_option maxHeartbeats 4000000 in
theorem l_X2_pumpsNear {I : Wd} {g P : Nat} (hg : isG g) {c : Int32} (hP : I 1 1 = nI P) (hP2 : P ≤ 6) : ∀ (n h : Nat) (x3 : Int32) (x2 : Int32), h ≤ P → P < h + n → x3 = nI h → x2 = (sNr (I 5) (I (g + 7)) c h) → Bd SyC mX2_pumpsNear 2 4 [(3, .int x3), (2, .int x2), (0, .ref g), (1, .int c)] [] I (some (.int (sNr (I 5) (I (g + 7)) c P))) I := by
  intro n
  induction n with
  | zero => intro h x3 x2 h1 h2; omega
  | succ n ih =>
    intro h x3 x2 h1 h2 e3 e2
    subst e3; subst e2
    refine b_iload_n (pc := 4) (i := 3) (dd dtX2_pumpsNear 4 rfl) rfl rfl ?_
    refine b_aload_n (pc := 5) (i := 0) (dd dtX2_pumpsNear 5 rfl) rfl rfl ?_
    refine b_geta (pc := 6) (dd dtX2_pumpsNear 6 rfl) fwX2_59 (pG_0 hg) (rG_0 hg) ?_
    refine b_geti (pc := 9) (dd dtX2_pumpsNear 7 rfl) fwX2_80 pC_1 ?_
    refine b_icmpL_ge (pc := 12) (tgt := 49) (dd dtX2_pumpsNear 8 rfl) (by decide) (fun h12 => ?_) (fun h12 => ?_)
    · rw [hP] at h12
      have he : h = P := Nat.le_antisymm h1 (ge_n h12 (by omega))
      subst he
      refine b_iload_n (pc := 49) (i := 2) (dd dtX2_pumpsNear 25 rfl) rfl rfl ?_
      exact b_eq (b_iret (dd dtX2_pumpsNear 26 rfl) rfl) rfl rfl
    · rw [hP] at h12
      have hlt : h < P := lt_n h12 (by omega) (by omega)
      refine b_aload_n (pc := 15) (i := 0) (dd dtX2_pumpsNear 9 rfl) rfl rfl ?_
      refine b_geta (pc := 16) (dd dtX2_pumpsNear 10 rfl) fwX2_43 (pG_0 hg) (rG_11 hg) ?_
      refine b_iload_n (pc := 19) (i := 3) (dd dtX2_pumpsNear 11 rfl) rfl rfl ?_
      refine b_iald (pc := 20) (dd dtX2_pumpsNear 12 rfl) (pG_7 hg) (vpn rfl (show h < 6 by omega) (by decide)) ?_
      refine b_ifL_le (pc := 21) (tgt := 43) (dd dtX2_pumpsNear 13 rfl) (by decide) (fun h21 => ?_) (fun h21 => ?_)
      · refine b_iinc1 (pc := 43) (i := 3) (lv' := [(3, _), (2, _), (0, _), (1, _)]) (dd dtX2_pumpsNear 23 rfl) rfl (Nat.le_of_ble_eq_true rfl) rfl ?_
        refine b_goto (pc := 46) (tgt := 4) (dd dtX2_pumpsNear 24 rfl) (by decide) ?_
        rw [nI_1]
        refine ih (h + 1) _ _ hlt (by omega) rfl ?_
        · try simp only [nI_clamp (show h < 2 ^ 31 by omega)] at h21
          try simp only [nI_clamp (show h < 2 ^ 31 by omega)] at h37
          simp [sNr, -Int32.not_lt, -Int32.not_le, *]
      · refine b_aload_n (pc := 24) (i := 0) (dd dtX2_pumpsNear 14 rfl) rfl rfl ?_
        refine b_geta (pc := 25) (dd dtX2_pumpsNear 15 rfl) fwX2_59 (pG_0 hg) (rG_0 hg) ?_
        refine b_geta (pc := 28) (dd dtX2_pumpsNear 16 rfl) fwX2_83 pC_1 rC_1_5 ?_
        refine b_iload_n (pc := 31) (i := 3) (dd dtX2_pumpsNear 17 rfl) rfl rfl ?_
        refine b_iald (pc := 32) (dd dtX2_pumpsNear 18 rfl) pC_5 (vpn rfl (show h < 6 by omega) (by decide)) ?_
        refine b_iload_n (pc := 33) (i := 1) (dd dtX2_pumpsNear 19 rfl) rfl rfl ?_
        refine b_invN (pc := 34) (M2 := mX10_isNear) (dd dtX2_pumpsNear 20 rfl) (fun _ _ _ _ hE => hE.2.2.2.1) mvX10_isNear msX10_isNear (c_X10_isNear) rfl rfl (by decide) (Nat.le_of_ble_eq_true rfl) ?_
        refine b_ifn_eq (pc := 37) (tgt := 43) (dd dtX2_pumpsNear 21 rfl) (by decide) (fun h37 => ?_) (fun h37 => ?_)
        · refine b_iinc1 (pc := 43) (i := 3) (lv' := [(3, _), (2, _), (0, _), (1, _)]) (dd dtX2_pumpsNear 23 rfl) rfl (Nat.le_of_ble_eq_true rfl) rfl ?_
          refine b_goto (pc := 46) (tgt := 4) (dd dtX2_pumpsNear 24 rfl) (by decide) ?_
          rw [nI_1]
          refine ih (h + 1) _ _ hlt (by omega) rfl ?_
          · try simp only [nI_clamp (show h < 2 ^ 31 by omega)] at h21
            try simp only [nI_clamp (show h < 2 ^ 31 by omega)] at h37
            simp [sNr, -Int32.not_lt, -Int32.not_le, *]
        · refine b_iinc1 (pc := 40) (i := 2) (lv' := [(2, _), (3, _), (0, _), (1, _)]) (dd dtX2_pumpsNear 22 rfl) rfl (Nat.le_of_ble_eq_true rfl) rfl ?_
          refine b_iinc1 (pc := 43) (i := 3) (lv' := [(3, _), (2, _), (0, _), (1, _)]) (dd dtX2_pumpsNear 23 rfl) rfl (Nat.le_of_ble_eq_true rfl) rfl ?_
          refine b_goto (pc := 46) (tgt := 4) (dd dtX2_pumpsNear 24 rfl) (by decide) ?_
          rw [nI_1]
          refine ih (h + 1) _ _ hlt (by omega) rfl ?_
          · try simp only [nI_clamp (show h < 2 ^ 31 by omega)] at h21
            try simp only [nI_clamp (show h < 2 ^ 31 by omega)] at h37
            simp [sNr, -Int32.not_lt, -Int32.not_le, *]
set_option maxHeartbeats 4000000 in
theorem c_X2_pumpsNear {I : Wd} {g P : Nat} (hg : isG g) {c : Int32} (hP : I 1 1 = nI P) (hP2 : P ≤ 6) : Cal SyC mX2_pumpsNear 2 [.ref g, .int c] I (some (.int (sNr (I 5) (I (g + 7)) c P))) I := by
  refine Cal.of (by decide) (Nat.le_of_ble_eq_true rfl) ?_
  show Bd _ _ _ _ [(0, _), (1, _)] _ _ _ _
  refine b_ic0 (pc := 0) (dd dtX2_pumpsNear 0 rfl) ?_
  refine b_istore_n (pc := 1) (i := 2) (lv' := [(2, _), (0, _), (1, _)]) (dd dtX2_pumpsNear 1 rfl) rfl (Nat.le_of_ble_eq_true rfl) rfl ?_
  refine b_ic0 (pc := 2) (dd dtX2_pumpsNear 2 rfl) ?_
  refine b_istore_n (pc := 3) (i := 3) (lv' := [(3, _), (2, _), (0, _), (1, _)]) (dd dtX2_pumpsNear 3 rfl) rfl (Nat.le_of_ble_eq_true rfl) rfl ?_
  exact l_X2_pumpsNear hg hP hP2 (P + 1) 0 _ _ (Nat.zero_le _) (by omega) rfl rfl
def tX10_holdsUnlikeCells : List (Nat × Instr × Nat) := [(0, .lconst 0, 1), (1, .lstore_n 1, 1), (2, .iconst 0, 1), (3, .istore_n 3, 1), (4, .iload_n 3, 1), (5, .aload_n 0, 1), (6, .getfield 214, 3), (9, .if_icmp .ge 45, 3), (12, .aload_n 0, 1), (13, .getfield 284, 3), (16, .iload_n 3, 1), (17, .iaload, 1), (18, .istore 4, 2), (20, .iload 4, 2), (22, .invokestatic 93, 3), (25, .ifCond .eq 14, 3), (28, .lload_n 1, 1), (29, .iload 4, 2), (31, .lushr, 1), (32, .lconst 1, 1), (33, .land, 1), (34, .lconst 0, 1), (35, .lcmp, 1), (36, .ifCond .eq 5, 3), (39, .iconst 0, 1), (40, .ireturn, 1), (41, .lload_n 1, 1), (42, .lconst 1, 1), (43, .iload 4, 2), (45, .lshl, 1), (46, .lor, 1), (47, .lstore_n 1, 1), (48, .iinc 3 1, 3), (51, .goto (-47), 3), (54, .iconst 1, 1), (55, .ireturn, 1)]
theorem dtX10_holdsUnlikeCells : dec_ok mX10_holdsUnlikeCells.2.1 tX10_holdsUnlikeCells = true := by decide +kernel
set_option maxHeartbeats 4000000 in
theorem l_X10_holdsUnlikeCells {I : Wd} {k z : Nat} (hk : isS k) (hz : I k 1 = nI z) (hz2 : z ≤ 40) : ∀ (n h : Nat) (x3 : Int32) (x1 : Int64), h ≤ z → z < h + n → x3 = nI h → x1 = uM (I (k + 1)) h → (ucP (I (k + 1)) h) → Bd SyC mX10_holdsUnlikeCells 2 4 [(3, .int x3), (1, .long x1), (0, .ref k)] [] I (some (.int (bi (ucP (I (k + 1)) z)))) I := by
  intro n
  induction n with
  | zero => intro h x3 x1 h1 h2; omega
  | succ n ih =>
    intro h x3 x1 h1 h2 e3 e1 hI
    subst e3; subst e1
    refine b_iload_n (pc := 4) (i := 3) (dd dtX10_holdsUnlikeCells 4 rfl) rfl rfl ?_
    refine b_aload_n (pc := 5) (i := 0) (dd dtX10_holdsUnlikeCells 5 rfl) rfl rfl ?_
    refine b_geti (pc := 6) (dd dtX10_holdsUnlikeCells 6 rfl) fwX10_214 (pS_0 hk) ?_
    refine b_icmpL_ge (pc := 9) (tgt := 54) (dd dtX10_holdsUnlikeCells 7 rfl) (by decide) (fun h9 => ?_) (fun h9 => ?_)
    · rw [hz] at h9
      have he : h = z := Nat.le_antisymm h1 (ge_n h9 (by omega))
      subst he
      refine b_ic1 (pc := 54) (dd dtX10_holdsUnlikeCells 34 rfl) ?_
      refine b_eq (b_zret (dd dtX10_holdsUnlikeCells 35 rfl) rfl (by first | rfl | exact nar_bi)) ?_ ?_
      · rw [bi_t hI]
      · rfl
    · rw [hz] at h9
      have hlt : h < z := lt_n h9 (by omega) (by omega)
      refine b_aload_n (pc := 12) (i := 0) (dd dtX10_holdsUnlikeCells 8 rfl) rfl rfl ?_
      refine b_geta (pc := 13) (dd dtX10_holdsUnlikeCells 9 rfl) fwX10_284 (pS_0 hk) (rS_2 hk) ?_
      refine b_iload_n (pc := 16) (i := 3) (dd dtX10_holdsUnlikeCells 10 rfl) rfl rfl ?_
      refine b_iald (pc := 17) (dd dtX10_holdsUnlikeCells 11 rfl) (pS_1 hk) (vpn rfl (show h < 40 by omega) (by decide)) ?_
      refine b_istore (pc := 18) (i := 4) (lv' := [(4, _), (3, _), (1, _), (0, _)]) (dd dtX10_holdsUnlikeCells 12 rfl) (Nat.le_of_ble_eq_true rfl) rfl ?_
      refine b_iload (pc := 20) (i := 4) (dd dtX10_holdsUnlikeCells 13 rfl) rfl ?_
      refine b_invS (pc := 22) (dd dtX10_holdsUnlikeCells 14 rfl) mlX10_93 mvX10_isCell msX10_isCell (c_X10_isCell) rfl rfl (by decide) (Nat.le_of_ble_eq_true rfl) ?_
      refine b_ifb_eq (pc := 25) (tgt := 39) (dd dtX10_holdsUnlikeCells 15 rfl) (by decide) (fun h25 => ?_) (fun h25 => ?_)
      · simp only [nI_clamp (show h < 2 ^ 31 by omega)] at h25
        try simp only [nI_clamp (show h < 2 ^ 31 by omega)] at h36
        have hno : ¬ ucP (I (k + 1)) z := fun q => by first | exact h25 (q h hlt).1 | (rw [lcmp0] at h36; exact h36 (q h hlt).2)
        refine b_ic0 (pc := 39) (dd dtX10_holdsUnlikeCells 24 rfl) ?_
        refine b_eq (b_zret (dd dtX10_holdsUnlikeCells 25 rfl) rfl (by first | rfl | exact nar_bi)) ?_ ?_
        · rw [bi_f hno]
        · rfl
      · refine b_lload_n (pc := 28) (i := 1) (dd dtX10_holdsUnlikeCells 16 rfl) rfl rfl ?_
        refine b_iload (pc := 29) (i := 4) (dd dtX10_holdsUnlikeCells 17 rfl) rfl ?_
        refine b_lushr (pc := 31) (dd dtX10_holdsUnlikeCells 18 rfl) ?_
        refine b_lconst (pc := 32) (v := 1) (dd dtX10_holdsUnlikeCells 19 rfl) (by decide) ?_
        refine b_land (pc := 33) (dd dtX10_holdsUnlikeCells 20 rfl) ?_
        refine b_lconst (pc := 34) (v := 0) (dd dtX10_holdsUnlikeCells 21 rfl) (by decide) ?_
        refine b_lcmp (pc := 35) (dd dtX10_holdsUnlikeCells 22 rfl) ?_
        refine b_if_eq (pc := 36) (tgt := 41) (dd dtX10_holdsUnlikeCells 23 rfl) (by decide) (fun h36 => ?_) (fun h36 => ?_)
        · simp only [nI_clamp (show h < 2 ^ 31 by omega)] at h25 h36
          rw [lcmp0] at h36
          refine b_lload_n (pc := 41) (i := 1) (dd dtX10_holdsUnlikeCells 26 rfl) rfl rfl ?_
          refine b_lconst (pc := 42) (v := 1) (dd dtX10_holdsUnlikeCells 27 rfl) (by decide) ?_
          refine b_iload (pc := 43) (i := 4) (dd dtX10_holdsUnlikeCells 28 rfl) rfl ?_
          refine b_lshl (pc := 45) (dd dtX10_holdsUnlikeCells 29 rfl) ?_
          refine b_lor (pc := 46) (dd dtX10_holdsUnlikeCells 30 rfl) ?_
          refine b_lstore_n (pc := 47) (i := 1) (lv' := [(1, _), (4, _), (3, _), (0, _)]) (dd dtX10_holdsUnlikeCells 31 rfl) rfl ⟨Nat.le_of_ble_eq_true rfl, Nat.le_of_ble_eq_true rfl⟩ rfl ?_
          refine b_iinc1 (pc := 48) (i := 3) (lv' := [(3, _), (1, _), (4, _), (0, _)]) (dd dtX10_holdsUnlikeCells 32 rfl) rfl (Nat.le_of_ble_eq_true rfl) rfl ?_
          refine b_goto (pc := 51) (tgt := 4) (dd dtX10_holdsUnlikeCells 33 rfl) (by decide) ?_
          refine b_pick [0, 1, 3] (lv' := [(3, _), (1, _), (0, _)]) rfl ?_
          rw [nI_1]
          refine ih (h + 1) _ _ hlt (by omega) rfl ?_ ?_
          · simp only [nI_clamp (show h < 2 ^ 31 by omega)]; rfl
          · intro i hi
            rcases Nat.lt_succ_iff_lt_or_eq.mp hi with q | q
            · exact hI i q
            · subst q; exact ⟨h25, h36⟩
        · simp only [nI_clamp (show h < 2 ^ 31 by omega)] at h25
          try simp only [nI_clamp (show h < 2 ^ 31 by omega)] at h36
          have hno : ¬ ucP (I (k + 1)) z := fun q => by first | exact h25 (q h hlt).1 | (rw [lcmp0] at h36; exact h36 (q h hlt).2)
          refine b_ic0 (pc := 39) (dd dtX10_holdsUnlikeCells 24 rfl) ?_
          refine b_eq (b_zret (dd dtX10_holdsUnlikeCells 25 rfl) rfl (by first | rfl | exact nar_bi)) ?_ ?_
          · rw [bi_f hno]
          · rfl
set_option maxHeartbeats 4000000 in
theorem c_X10_holdsUnlikeCells {I : Wd} {k z : Nat} (hk : isS k) (hz : I k 1 = nI z) (hz2 : z ≤ 40) : Cal SyC mX10_holdsUnlikeCells 2 [.ref k] I (some (.int (bi (ucP (I (k + 1)) z)))) I := by
  refine Cal.of (by decide) (Nat.le_of_ble_eq_true rfl) ?_
  show Bd _ _ _ _ [(0, _)] _ _ _ _
  refine b_lconst (pc := 0) (v := 0) (dd dtX10_holdsUnlikeCells 0 rfl) (by decide) ?_
  refine b_lstore_n (pc := 1) (i := 1) (lv' := [(1, _), (0, _)]) (dd dtX10_holdsUnlikeCells 1 rfl) rfl ⟨Nat.le_of_ble_eq_true rfl, Nat.le_of_ble_eq_true rfl⟩ rfl ?_
  refine b_ic0 (pc := 2) (dd dtX10_holdsUnlikeCells 2 rfl) ?_
  refine b_istore_n (pc := 3) (i := 3) (lv' := [(3, _), (1, _), (0, _)]) (dd dtX10_holdsUnlikeCells 3 rfl) rfl (Nat.le_of_ble_eq_true rfl) rfl ?_
  exact l_X10_holdsUnlikeCells hk hz hz2 (z + 1) 0 _ _ (Nat.zero_le _) (by omega) rfl rfl (fun i hi => absurd hi (Nat.not_lt_zero i))
def nrM (nums : Nat → Int32) (c : Int32) : Nat → Int32
  | 0 => 0
  | i + 1 => nrM nums c i ||| (if farP c (nums i) then 0 else (1 : Int32) <<< (nI i &&& 31))
def gat1 (nums : Nat → Int32) (z : Nat) (known : Int32) (J : Wd) (k : Nat) : Wd :=
  if nrM nums (J 50 k) z = 0 then J else if known < J 52 k then J else ist (ist (ist J 64 (J 57 10).toNatClampNeg (J 51 k)) 65 (J 57 10).toNatClampNeg (nrM nums (J 50 k) z)) 57 10 (J 57 10 + 1)
def gatW (nums : Nat → Int32) (z : Nat) (known : Int32) (J : Wd) : Nat → Wd
  | 0 => ist J 57 10 0
  | k + 1 => gat1 nums z known (gatW nums z known J k) k
theorem gatW_fr {nums : Nat → Int32} {z : Nat} {known : Int32} {J : Wd} {k a : Nat} (h : a ≠ 57) (h4 : a ≠ 64) (h5 : a ≠ 65) : gatW nums z known J k a = J a := by
  induction k with
  | zero => exact ist_ne h
  | succ k ih => unfold gatW gat1; split <;> (try split) <;> simp only [ist_ne h, ist_ne h4, ist_ne h5, ih]
theorem gatW_0 {nums : Nat → Int32} {z : Nat} {known : Int32} {J : Wd} {k j : Nat} (h : j ≠ 10) : gatW nums z known J k 57 j = J 57 j := by
  induction k with
  | zero => show ist J 57 10 0 57 j = _; rw [ist_eq, upd_ne h]
  | succ k ih =>
    unfold gatW gat1
    split
    · exact ih
    · split
      · exact ih
      · rw [ist_eq, upd_ne h, ist_ne (by decide), ist_ne (by decide)]; exact ih
theorem gatW_n {nums : Nat → Int32} {z : Nat} {known : Int32} {J : Wd} {k : Nat} : ∃ q, q ≤ k ∧ gatW nums z known J k 57 10 = nI q := by
  induction k with
  | zero => exact ⟨0, Nat.le_refl _, by show ist J 57 10 0 57 10 = _; rw [ist_eq, upd_eq]; rfl⟩
  | succ k ih =>
    obtain ⟨q, h1, h2⟩ := ih
    unfold gatW gat1
    split
    · exact ⟨q, by omega, h2⟩
    · split
      · exact ⟨q, by omega, h2⟩
      · exact ⟨q + 1, by omega, by rw [ist_eq, upd_eq, h2, nI_1]⟩
def tk : Nat → Nat → Wd → Bool × Wd
  | 0, _, J => (true, J)
  | i + 1, r, J => if tbSizes.getD (r % 5) 0 < J 61 i then (false, ist J 63 i (tbSizes.getD (r % 5) 0)) else if J 62 i < tbSizes.getD (r % 5) 0 then (false, ist J 63 i (tbSizes.getD (r % 5) 0)) else tk i (r / 5) (ist J 63 i (tbSizes.getD (r % 5) 0))
def sNd (nof sizes : Nat → Int32) (k : Nat) : Nat → Int32
  | 0 => 0
  | i + 1 => sNd nof sizes k i + (if bitS (nof k) i = 0 then 0 else sizes i)
abbrev mnP (J : Wd) (z q : Nat) : Prop := ∀ k, k < q → ¬ sNd (J 65) (J 63) k z < J 64 k
def sFew (sizes : Nat → Int32) : Nat → Int32
  | 0 => 0
  | i + 1 => sFew sizes i + (if 0 < sizes i then 1 else 0)
def sSum (sizes : Nat → Int32) : Nat → Int32
  | 0 => 0
  | i + 1 => sSum sizes i + sizes i
def wgNew (J : Wd) (z : Nat) : Wd := rset (rset (rset (ist (ist (ist J 57 1 1) 57 2 (sFew (J 63) z)) 57 3 (sSum (J 63) z)) 58 (fil (J 63) (J 58) 5)) 59 (fil (J 63) (J 59) 5)) 60 (fil (J 63) (J 60) 5)
def mx (x y : Int32) : Int32 := if x < y then y else x
def wgTie (J : Wd) (h : Nat) : Wd := rset (rset (ist J 57 1 (J 57 1 + 1)) 59 (fil (fun i => mn (J 59 i) (J 63 i)) (J 59) h)) 60 (fil (fun i => mx (J 60 i) (J 63 i)) (J 60) h)
def wgW (J : Wd) (z : Nat) : Wd :=
  if J 57 1 = 0 ∨ sFew (J 63) z < J 57 2 ∨ (sFew (J 63) z = J 57 2 ∧ sSum (J 63) z < J 57 3) then wgNew J z
  else if sFew (J 63) z = J 57 2 ∧ sSum (J 63) z = J 57 3 then wgTie J z else J
def sr1 (z q : Nat) (J : Wd) (h : Nat) : Wd := if (tk z h J).1 = true then (if mnP (tk z h J).2 z q then wgW (tk z h J).2 z else (tk z h J).2) else (tk z h J).2
def srW (z q : Nat) (J : Wd) : Nat → Wd
  | 0 => J
  | h + 1 => sr1 z q (srW z q J h) h
def loF (I : Wd) (K k : Nat) (known : Int32) (i : Nat) : Int32 := sLo (I 43) (I 44) (I 46) (sVal (I 48) (I 47) (I 45) known) (I (k + 1) i) known 0 K
def hiF (I : Wd) (K k : Nat) (known : Int32) (i : Nat) : Int32 := sHi (I 43) (I 44) (I 46) (sVal (I 48) (I 47) (I 45) known) (I (k + 1) i) known 0 K
def spW (I : Wd) (K k z : Nat) (known : Int32) (h : Nat) : Wd := rset (rset (ist (ist I 57 0 (nI z)) 57 1 0) 61 (fil (loF I K k known) (I 61) h)) 62 (fil (hiF I K k known) (I 62) h)
end
section
def tX1_gatherNeeds : List (Nat × Instr × Nat) := [(0, .aload_n 0, 1), (1, .iconst 0, 1), (2, .putfield 43, 3), (5, .iconst 0, 1), (6, .istore 4, 2), (8, .iload 4, 2), (10, .aload_n 2, 1), (11, .getfield 92, 3), (14, .if_icmp .ge 125, 3), (17, .aload_n 0, 1), (18, .getfield 43, 3), (21, .bipush 8, 2), (23, .if_icmp .ge 116, 3), (26, .iconst 0, 1), (27, .istore 5, 2), (29, .iconst 0, 1), (30, .istore 6, 2), (32, .iload 6, 2), (34, .aload_n 0, 1), (35, .getfield 9, 3), (38, .if_icmp .ge 42, 3), (41, .iload 5, 2), (43, .aload_n 2, 1), (44, .getfield 95, 3), (47, .iload 4, 2), (49, .iaload, 1), (50, .aload_n 1, 1), (51, .getfield 63, 3), (54, .iload 6, 2), (56, .iaload, 1), (57, .invokestatic 98, 3), (60, .ifCond .eq 10, 3), (63, .iconst 1, 1), (64, .iload 6, 2), (66, .ishl, 1), (67, .goto 4, 3), (70, .iconst 0, 1), (71, .ior, 1), (72, .istore 5, 2), (74, .iinc 6 1, 3), (77, .goto (-45), 3), (80, .iload 5, 2), (82, .ifCond .eq 51, 3), (85, .aload_n 2, 1), (86, .getfield 102, 3), (89, .iload 4, 2), (91, .iaload, 1), (92, .iload_n 3, 1), (93, .if_icmp .gt 40, 3), (96, .aload_n 0, 1), (97, .getfield 46, 3), (100, .aload_n 0, 1), (101, .getfield 43, 3), (104, .aload_n 2, 1), (105, .getfield 105, 3), (108, .iload 4, 2), (110, .iaload, 1), (111, .iastore, 1), (112, .aload_n 0, 1), (113, .getfield 49, 3), (116, .aload_n 0, 1), (117, .getfield 43, 3), (120, .iload 5, 2), (122, .iastore, 1), (123, .aload_n 0, 1), (124, .dup, 1), (125, .getfield 43, 3), (128, .iconst 1, 1), (129, .iadd, 1), (130, .putfield 43, 3), (133, .iinc 4 1, 3), (136, .goto (-128), 3), (139, .return_, 1)]
theorem dtX1_gatherNeeds : dec_ok mX1_gatherNeeds.2.1 tX1_gatherNeeds = true := by decide +kernel
theorem gat_step {nums : Nat → Int32} {z : Nat} {known : Int32} {J : Wd} {t : Nat} : gatW nums z known J (t + 1) = gat1 nums z known (gatW nums z known J t) t := rfl
set_option maxHeartbeats 4000000 in
theorem li_X1_gatherNeeds {J : Wd} {k z L : Nat} {known : Int32} (hk : isS k) (hz : J 57 0 = nI z) (hz2 : z ≤ 5) (hL : J 49 0 = nI L) (hL2 : L ≤ 8) (hk2 : k ≠ 57 ∧ k + 1 ≠ 57 ∧ k + 1 ≠ 64 ∧ k + 1 ≠ 65) {t : Nat} (ht : t < L) {r : Option Value} {I' : Wd} (kk : ∀ lv5 : Int32, lv5 = nrM (J (k + 1)) (J 50 t) z → Bd SyC mX1_gatherNeeds 2 80 [(5, .int lv5), (4, .int (nI t)), (0, .ref 57), (1, .ref k), (2, .ref 49), (3, .int known)] [] (gatW (J (k + 1)) z known J t) r I') : ∀ (n h : Nat) (x6 x5 : Int32), h ≤ z → z < h + n → x6 = nI h → x5 = (nrM (J (k + 1)) (J 50 t) h) → Bd SyC mX1_gatherNeeds 2 32 [(6, .int x6), (5, .int x5), (4, .int (nI t)), (0, .ref 57), (1, .ref k), (2, .ref 49), (3, .int known)] [] (gatW (J (k + 1)) z known J t) r I' := by
  intro n
  induction n with
  | zero => intro h x6 x5 h1 h2; omega
  | succ n ih =>
    intro h x6 x5 h1 h2 e6 e5
    subst e6; subst e5
    have f57 : gatW (J (k + 1)) z known J t 57 0 = nI z := by rw [gatW_0 (by decide)]; exact hz
    have fk : gatW (J (k + 1)) z known J t (k + 1) = J (k + 1) := gatW_fr hk2.2.1 hk2.2.2.1 hk2.2.2.2
    have f50 : gatW (J (k + 1)) z known J t 50 = J 50 := gatW_fr (by decide) (by decide) (by decide)
    refine b_iload (pc := 32) (i := 6) (dd dtX1_gatherNeeds 17 rfl) rfl ?_
    refine b_aload_n (pc := 34) (i := 0) (dd dtX1_gatherNeeds 18 rfl) rfl rfl ?_
    refine b_geti (pc := 35) (dd dtX1_gatherNeeds 19 rfl) fwX1_9 pC_57 ?_
    refine b_icmpL_ge (pc := 38) (tgt := 80) (dd dtX1_gatherNeeds 20 rfl) (by decide) (fun h38 => ?_) (fun h38 => ?_)
    · refine b_pick [1, 2, 3, 4, 5, 6] (lv' := [(5, _), (4, _), (0, _), (1, _), (2, _), (3, _)]) rfl ?_
      rw [f57] at h38
      have he : h = z := by have := ge_n h38 (by omega); omega
      subst he
      exact kk _ rfl
    · rw [f57] at h38
      have hlt : h < z := lt_n h38 (by omega) (by omega)
      refine b_iload (pc := 41) (i := 5) (dd dtX1_gatherNeeds 21 rfl) rfl ?_
      refine b_aload_n (pc := 43) (i := 2) (dd dtX1_gatherNeeds 22 rfl) rfl rfl ?_
      refine b_geta (pc := 44) (dd dtX1_gatherNeeds 23 rfl) fwX1_95 pC_49 rC_49_1 ?_
      refine b_iload (pc := 47) (i := 4) (dd dtX1_gatherNeeds 24 rfl) rfl ?_
      refine b_iald (pc := 49) (dd dtX1_gatherNeeds 25 rfl) pC_50 (vpn rfl (show t < 8 by omega) (by decide)) ?_
      refine b_aload_n (pc := 50) (i := 1) (dd dtX1_gatherNeeds 26 rfl) rfl rfl ?_
      refine b_geta (pc := 51) (dd dtX1_gatherNeeds 27 rfl) fwX1_63 (pS_0 hk) (rS_2 hk) ?_
      refine b_iload (pc := 54) (i := 6) (dd dtX1_gatherNeeds 28 rfl) rfl ?_
      refine b_iald (pc := 56) (dd dtX1_gatherNeeds 29 rfl) (pS_1 hk) (vpn rfl (show h < 40 by omega) (by decide)) ?_
      refine b_invN (pc := 57) (M2 := mX10_isNear) (dd dtX1_gatherNeeds 30 rfl) (fun _ _ _ _ hE => hE.2.2.1) mvX10_isNear msX10_isNear (c_X10_isNear) rfl rfl (by decide) (Nat.le_of_ble_eq_true rfl) ?_
      refine b_ifn_eq (pc := 60) (tgt := 70) (dd dtX1_gatherNeeds 31 rfl) (by decide) (fun h60 => ?_) (fun h60 => ?_)
      · refine b_ic0 (pc := 70) (dd dtX1_gatherNeeds 36 rfl) ?_
        refine b_ior (pc := 71) (dd dtX1_gatherNeeds 37 rfl) ?_
        refine b_istore (pc := 72) (i := 5) (lv' := [(5, _), (6, _), (4, _), (0, _), (1, _), (2, _), (3, _)]) (dd dtX1_gatherNeeds 38 rfl) (Nat.le_of_ble_eq_true rfl) rfl ?_
        refine b_iinc1 (pc := 74) (i := 6) (lv' := [(6, _), (5, _), (4, _), (0, _), (1, _), (2, _), (3, _)]) (dd dtX1_gatherNeeds 39 rfl) rfl (Nat.le_of_ble_eq_true rfl) rfl ?_
        refine b_goto (pc := 77) (tgt := 32) (dd dtX1_gatherNeeds 40 rfl) (by decide) ?_
        rw [nI_1]
        refine ih (h + 1) _ _ hlt (by omega) rfl ?_
        simp only [fk, f50, nI_clamp (show h < 2 ^ 31 by omega), nI_clamp (show t < 2 ^ 31 by omega)] at *
        simp only [nrM]
        first | rw [if_pos h60] | rw [if_neg h60]
      · refine b_ic1 (pc := 63) (dd dtX1_gatherNeeds 32 rfl) ?_
        refine b_iload (pc := 64) (i := 6) (dd dtX1_gatherNeeds 33 rfl) rfl ?_
        refine b_ishl (pc := 66) (dd dtX1_gatherNeeds 34 rfl) ?_
        refine b_goto (pc := 67) (tgt := 71) (dd dtX1_gatherNeeds 35 rfl) (by decide) ?_
        refine b_ior (pc := 71) (dd dtX1_gatherNeeds 37 rfl) ?_
        refine b_istore (pc := 72) (i := 5) (lv' := [(5, _), (6, _), (4, _), (0, _), (1, _), (2, _), (3, _)]) (dd dtX1_gatherNeeds 38 rfl) (Nat.le_of_ble_eq_true rfl) rfl ?_
        refine b_iinc1 (pc := 74) (i := 6) (lv' := [(6, _), (5, _), (4, _), (0, _), (1, _), (2, _), (3, _)]) (dd dtX1_gatherNeeds 39 rfl) rfl (Nat.le_of_ble_eq_true rfl) rfl ?_
        refine b_goto (pc := 77) (tgt := 32) (dd dtX1_gatherNeeds 40 rfl) (by decide) ?_
        rw [nI_1]
        refine ih (h + 1) _ _ hlt (by omega) rfl ?_
        simp only [fk, f50, nI_clamp (show h < 2 ^ 31 by omega), nI_clamp (show t < 2 ^ 31 by omega)] at *
        simp only [nrM]
        first | rw [if_pos h60] | rw [if_neg h60]
set_option maxHeartbeats 4000000 in
theorem l_X1_gatherNeeds {J : Wd} {k z L : Nat} {known : Int32} (hk : isS k) (hz : J 57 0 = nI z) (hz2 : z ≤ 5) (hL : J 49 0 = nI L) (hL2 : L ≤ 8) (hk2 : k ≠ 57 ∧ k + 1 ≠ 57 ∧ k + 1 ≠ 64 ∧ k + 1 ≠ 65) : ∀ (n h : Nat) (x4 : Int32) (I2 : Wd), h ≤ L → L < h + n → x4 = nI h → I2 = (gatW (J (k + 1)) z known J h) → Bd SyC mX1_gatherNeeds 2 8 [(4, .int x4), (0, .ref 57), (1, .ref k), (2, .ref 49), (3, .int known)] [] I2 none (gatW (J (k + 1)) z known J L) := by
  intro n
  induction n with
  | zero => intro h x4 I2 h1 h2; omega
  | succ n ih =>
    intro h x4 I2 h1 h2 e4 eW
    subst e4; subst eW
    obtain ⟨q, hq1, hq2⟩ := gatW_n (nums := J (k + 1)) (z := z) (known := known) (J := J) (k := h)
    have f49 : gatW (J (k + 1)) z known J h 49 = J 49 := gatW_fr (by decide) (by decide) (by decide)
    have f50 : gatW (J (k + 1)) z known J h 50 = J 50 := gatW_fr (by decide) (by decide) (by decide)
    have f51 : gatW (J (k + 1)) z known J h 51 = J 51 := gatW_fr (by decide) (by decide) (by decide)
    have f52 : gatW (J (k + 1)) z known J h 52 = J 52 := gatW_fr (by decide) (by decide) (by decide)
    refine b_iload (pc := 8) (i := 4) (dd dtX1_gatherNeeds 5 rfl) rfl ?_
    refine b_aload_n (pc := 10) (i := 2) (dd dtX1_gatherNeeds 6 rfl) rfl rfl ?_
    refine b_geti (pc := 11) (dd dtX1_gatherNeeds 7 rfl) fwX1_92 pC_49 ?_
    refine b_icmpL_ge (pc := 14) (tgt := 139) (dd dtX1_gatherNeeds 8 rfl) (by decide) (fun h14 => ?_) (fun h14 => ?_)
    · have he : h = L := by first | (rw [f49, hL] at h14; have := ge_n h14 (by omega); omega) | (exfalso; rw [hq2] at h23; exact h23 (nI_lt (show q < 8 by omega) (by decide)))
      subst he
      exact b_eq (b_vret (dd dtX1_gatherNeeds 72 rfl) rfl) rfl rfl
    · rw [f49, hL] at h14
      have hlt : h < L := lt_n h14 (by omega) (by omega)
      refine b_aload_n (pc := 17) (i := 0) (dd dtX1_gatherNeeds 9 rfl) rfl rfl ?_
      refine b_geti (pc := 18) (dd dtX1_gatherNeeds 10 rfl) fwX1_43 pC_57 ?_
      refine b_bipush (pc := 21) (v := 8) (dd dtX1_gatherNeeds 11 rfl) (by decide) ?_
      refine b_icmpL_ge (pc := 23) (tgt := 139) (dd dtX1_gatherNeeds 12 rfl) (by decide) (fun h23 => ?_) (fun h23 => ?_)
      · have he : h = L := by first | (rw [f49, hL] at h14; have := ge_n h14 (by omega); omega) | (exfalso; rw [hq2] at h23; exact h23 (nI_lt (show q < 8 by omega) (by decide)))
        subst he
        exact b_eq (b_vret (dd dtX1_gatherNeeds 72 rfl) rfl) rfl rfl
      · clear h23
        refine b_ic0 (pc := 26) (dd dtX1_gatherNeeds 13 rfl) ?_
        refine b_istore (pc := 27) (i := 5) (lv' := [(5, _), (4, _), (0, _), (1, _), (2, _), (3, _)]) (dd dtX1_gatherNeeds 14 rfl) (Nat.le_of_ble_eq_true rfl) rfl ?_
        refine b_ic0 (pc := 29) (dd dtX1_gatherNeeds 15 rfl) ?_
        refine b_istore (pc := 30) (i := 6) (lv' := [(6, _), (5, _), (4, _), (0, _), (1, _), (2, _), (3, _)]) (dd dtX1_gatherNeeds 16 rfl) (Nat.le_of_ble_eq_true rfl) rfl ?_
        refine li_X1_gatherNeeds hk hz hz2 hL hL2 hk2 hlt (fun lv5 elv => ?_) (z + 1) 0 _ _ (Nat.zero_le _) (by omega) rfl rfl
        subst elv
        refine b_iload (pc := 80) (i := 5) (dd dtX1_gatherNeeds 41 rfl) rfl ?_
        refine b_if_eq (pc := 82) (tgt := 133) (dd dtX1_gatherNeeds 42 rfl) (by decide) (fun h82 => ?_) (fun h82 => ?_)
        · refine b_iinc1 (pc := 133) (i := 4) (lv' := [(4, _), (5, _), (0, _), (1, _), (2, _), (3, _)]) (dd dtX1_gatherNeeds 70 rfl) rfl (Nat.le_of_ble_eq_true rfl) rfl ?_
          refine b_goto (pc := 136) (tgt := 8) (dd dtX1_gatherNeeds 71 rfl) (by decide) ?_
          refine b_pick [0, 2, 3, 4, 5] (lv' := [(4, _), (0, _), (1, _), (2, _), (3, _)]) rfl ?_
          rw [nI_1]
          refine ih (h + 1) _ _ hlt (by omega) rfl ?_
          rw [gat_step]
          unfold gat1
          try simp only [f52, nI_clamp (show h < 2 ^ 31 by omega)] at h93
          first
            | rw [f50, if_pos h82]
            | (rw [f50, f51, f52, if_neg h82]; first | rw [if_pos h93] | (rw [if_neg h93]; simp (disch := decide) only [ist_ne, nI_clamp (show h < 2 ^ 31 by omega), f51]))
        · refine b_aload_n (pc := 85) (i := 2) (dd dtX1_gatherNeeds 43 rfl) rfl rfl ?_
          refine b_geta (pc := 86) (dd dtX1_gatherNeeds 44 rfl) fwX1_102 pC_49 rC_49_3 ?_
          refine b_iload (pc := 89) (i := 4) (dd dtX1_gatherNeeds 45 rfl) rfl ?_
          refine b_iald (pc := 91) (dd dtX1_gatherNeeds 46 rfl) pC_52 (vpn rfl (show h < 8 by omega) (by decide)) ?_
          refine b_iload_n (pc := 92) (i := 3) (dd dtX1_gatherNeeds 47 rfl) rfl rfl ?_
          refine b_icmp_gt (pc := 93) (tgt := 133) (dd dtX1_gatherNeeds 48 rfl) (by decide) (fun h93 => ?_) (fun h93 => ?_)
          · refine b_iinc1 (pc := 133) (i := 4) (lv' := [(4, _), (5, _), (0, _), (1, _), (2, _), (3, _)]) (dd dtX1_gatherNeeds 70 rfl) rfl (Nat.le_of_ble_eq_true rfl) rfl ?_
            refine b_goto (pc := 136) (tgt := 8) (dd dtX1_gatherNeeds 71 rfl) (by decide) ?_
            refine b_pick [0, 2, 3, 4, 5] (lv' := [(4, _), (0, _), (1, _), (2, _), (3, _)]) rfl ?_
            rw [nI_1]
            refine ih (h + 1) _ _ hlt (by omega) rfl ?_
            rw [gat_step]
            unfold gat1
            try simp only [f52, nI_clamp (show h < 2 ^ 31 by omega)] at h93
            first
              | rw [f50, if_pos h82]
              | (rw [f50, f51, f52, if_neg h82]; first | rw [if_pos h93] | (rw [if_neg h93]; simp (disch := decide) only [ist_ne, nI_clamp (show h < 2 ^ 31 by omega), f51]))
          · refine b_aload_n (pc := 96) (i := 0) (dd dtX1_gatherNeeds 49 rfl) rfl rfl ?_
            refine b_geta (pc := 97) (dd dtX1_gatherNeeds 50 rfl) fwX1_46 pC_57 rC_57_11 ?_
            refine b_aload_n (pc := 100) (i := 0) (dd dtX1_gatherNeeds 51 rfl) rfl rfl ?_
            refine b_geti (pc := 101) (dd dtX1_gatherNeeds 52 rfl) fwX1_43 pC_57 ?_
            refine b_aload_n (pc := 104) (i := 2) (dd dtX1_gatherNeeds 53 rfl) rfl rfl ?_
            refine b_geta (pc := 105) (dd dtX1_gatherNeeds 54 rfl) fwX1_105 pC_49 rC_49_2 ?_
            refine b_iload (pc := 108) (i := 4) (dd dtX1_gatherNeeds 55 rfl) rfl ?_
            refine b_iald (pc := 110) (dd dtX1_gatherNeeds 56 rfl) pC_51 (vpn rfl (show h < 8 by omega) (by decide)) ?_
            refine b_iast (pc := 111) (dd dtX1_gatherNeeds 57 rfl) pC_64 (by simp (disch := decide) only [ist_ne, hq2]; exact vpn rfl (show q < 8 by omega) (by decide)) ?_
            refine b_aload_n (pc := 112) (i := 0) (dd dtX1_gatherNeeds 58 rfl) rfl rfl ?_
            refine b_geta (pc := 113) (dd dtX1_gatherNeeds 59 rfl) fwX1_49 pC_57 rC_57_12 ?_
            refine b_aload_n (pc := 116) (i := 0) (dd dtX1_gatherNeeds 60 rfl) rfl rfl ?_
            refine b_geti (pc := 117) (dd dtX1_gatherNeeds 61 rfl) fwX1_43 pC_57 ?_
            refine b_iload (pc := 120) (i := 5) (dd dtX1_gatherNeeds 62 rfl) rfl ?_
            refine b_iast (pc := 122) (dd dtX1_gatherNeeds 63 rfl) pC_65 (by simp (disch := decide) only [ist_ne, hq2]; exact vpn rfl (show q < 8 by omega) (by decide)) ?_
            refine b_aload_n (pc := 123) (i := 0) (dd dtX1_gatherNeeds 64 rfl) rfl rfl ?_
            refine b_dup (pc := 124) (dd dtX1_gatherNeeds 65 rfl) rfl ?_
            refine b_geti (pc := 125) (dd dtX1_gatherNeeds 66 rfl) fwX1_43 pC_57 ?_
            refine b_ic1 (pc := 128) (dd dtX1_gatherNeeds 67 rfl) ?_
            refine b_iadd (pc := 129) (dd dtX1_gatherNeeds 68 rfl) ?_
            refine b_puti (pc := 130) (dd dtX1_gatherNeeds 69 rfl) fwX1_43 pC_57 ?_
            refine b_iinc1 (pc := 133) (i := 4) (lv' := [(4, _), (5, _), (0, _), (1, _), (2, _), (3, _)]) (dd dtX1_gatherNeeds 70 rfl) rfl (Nat.le_of_ble_eq_true rfl) rfl ?_
            refine b_goto (pc := 136) (tgt := 8) (dd dtX1_gatherNeeds 71 rfl) (by decide) ?_
            refine b_pick [0, 2, 3, 4, 5] (lv' := [(4, _), (0, _), (1, _), (2, _), (3, _)]) rfl ?_
            rw [nI_1]
            refine ih (h + 1) _ _ hlt (by omega) rfl ?_
            rw [gat_step]
            unfold gat1
            try simp only [f52, nI_clamp (show h < 2 ^ 31 by omega)] at h93
            first
              | rw [f50, if_pos h82]
              | (rw [f50, f51, f52, if_neg h82]; first | rw [if_pos h93] | (rw [if_neg h93]; simp (disch := decide) only [ist_ne, nI_clamp (show h < 2 ^ 31 by omega), f51]))
set_option maxHeartbeats 4000000 in
theorem c_X1_gatherNeeds {J : Wd} {k z L : Nat} {known : Int32} (hk : isS k) (hz : J 57 0 = nI z) (hz2 : z ≤ 5) (hL : J 49 0 = nI L) (hL2 : L ≤ 8) : Cal SyC mX1_gatherNeeds 2 [.ref 57, .ref k, .ref 49, .int known] J none (gatW (J (k + 1)) z known J L) := by
  refine Cal.of (by decide) (Nat.le_of_ble_eq_true rfl) ?_
  show Bd _ _ _ _ [(0, _), (1, _), (2, _), (3, _)] _ _ _ _
  refine b_aload_n (pc := 0) (i := 0) (dd dtX1_gatherNeeds 0 rfl) rfl rfl ?_
  refine b_ic0 (pc := 1) (dd dtX1_gatherNeeds 1 rfl) ?_
  refine b_puti (pc := 2) (dd dtX1_gatherNeeds 2 rfl) fwX1_43 pC_57 ?_
  refine b_ic0 (pc := 5) (dd dtX1_gatherNeeds 3 rfl) ?_
  refine b_istore (pc := 6) (i := 4) (lv' := [(4, _), (0, _), (1, _), (2, _), (3, _)]) (dd dtX1_gatherNeeds 4 rfl) (Nat.le_of_ble_eq_true rfl) rfl ?_
  exact l_X1_gatherNeeds hk hz hz2 hL hL2 (by unfold isS at hk; omega) (L + 1) 0 _ _ (Nat.zero_le _) (by omega) rfl rfl
def tX1_takeSizes : List (Nat × Instr × Nat) := [(0, .iload_n 1, 1), (1, .istore_n 2, 1), (2, .aload_n 0, 1), (3, .getfield 9, 3), (6, .iconst 1, 1), (7, .isub, 1), (8, .istore_n 3, 1), (9, .iload_n 3, 1), (10, .ifCond .lt 64, 3), (13, .aload_n 0, 1), (14, .getfield 40, 3), (17, .iload_n 3, 1), (18, .getstatic 78, 3), (21, .iload_n 2, 1), (22, .getstatic 78, 3), (25, .arraylength, 1), (26, .irem, 1), (27, .iaload, 1), (28, .iastore, 1), (29, .iload_n 2, 1), (30, .getstatic 78, 3), (33, .arraylength, 1), (34, .idiv, 1), (35, .istore_n 2, 1), (36, .aload_n 0, 1), (37, .getfield 40, 3), (40, .iload_n 3, 1), (41, .iaload, 1), (42, .aload_n 0, 1), (43, .getfield 34, 3), (46, .iload_n 3, 1), (47, .iaload, 1), (48, .if_icmp .lt 18, 3), (51, .aload_n 0, 1), (52, .getfield 40, 3), (55, .iload_n 3, 1), (56, .iaload, 1), (57, .aload_n 0, 1), (58, .getfield 37, 3), (61, .iload_n 3, 1), (62, .iaload, 1), (63, .if_icmp .le 5, 3), (66, .iconst 0, 1), (67, .ireturn, 1), (68, .iinc 3 (-1), 3), (71, .goto (-62), 3), (74, .iconst 1, 1), (75, .ireturn, 1)]
theorem dtX1_takeSizes : dec_ok mX1_takeSizes.2.1 tX1_takeSizes = true := by decide +kernel
theorem tk_lo {i r : Nat} {J : Wd} (h : tbSizes.getD (r % 5) 0 < J 61 i) : tk (i + 1) r J = (false, ist J 63 i (tbSizes.getD (r % 5) 0)) := by simp only [tk]; rw [if_pos h]
theorem tk_hi {i r : Nat} {J : Wd} (h : ¬ tbSizes.getD (r % 5) 0 < J 61 i) (h2 : J 62 i < tbSizes.getD (r % 5) 0) : tk (i + 1) r J = (false, ist J 63 i (tbSizes.getD (r % 5) 0)) := by simp only [tk]; rw [if_neg h, if_pos h2]
theorem tk_go {i r : Nat} {J : Wd} (h : ¬ tbSizes.getD (r % 5) 0 < J 61 i) (h2 : ¬ J 62 i < tbSizes.getD (r % 5) 0) : tk (i + 1) r J = tk i (r / 5) (ist J 63 i (tbSizes.getD (r % 5) 0)) := by simp only [tk]; rw [if_neg h, if_neg h2]
theorem rem5 {r : Nat} (h : r < 2 ^ 31) : nI r - nI r / 5 * 5 = nI (r % 5) := pk_rem (d := 5) h (by decide) (by decide)
theorem div5 {r : Nat} (h : r < 2 ^ 31) : nI r / 5 = nI (r / 5) := pk_div (d := 5) h (by decide) (by decide)
set_option maxHeartbeats 4000000 in
theorem l_X1_takeSizes {n0 : Int32} : ∀ (i r : Nat) (x3 x2 : Int32) (J : Wd), i ≤ 5 → r < 2 ^ 31 → x3 = nI i - 1 → x2 = nI r → Bd SyC mX1_takeSizes 0 9 [(3, .int x3), (2, .int x2), (0, .ref 57), (1, .int n0)] [] J (some (.int (bi ((tk i r J).1 = true)))) (tk i r J).2 := by
  intro i
  induction i with
  | zero =>
    intro r x3 x2 J hi hr e3 e2
    subst e3; subst e2
    refine b_iload_n (pc := 9) (i := 3) (dd dtX1_takeSizes 7 rfl) rfl rfl ?_
    refine b_if_lt (pc := 10) (tgt := 74) (dd dtX1_takeSizes 8 rfl) (by decide) (fun h10 => ?_) (fun h10 => ?_)
    · refine b_ic1 (pc := 74) (dd dtX1_takeSizes 46 rfl) ?_
      refine b_eq (b_zret (dd dtX1_takeSizes 47 rfl) rfl (by first | rfl | exact nar_bi)) ?_ ?_
      · rfl
      · rfl
    · exact absurd (show nI 0 - 1 < 0 by decide) h10
  | succ i ih =>
    intro r x3 x2 J hi hr e3 e2
    rw [nI_pred] at e3
    subst e3; subst e2
    have hci : (nI i).toNatClampNeg = i := nI_clamp (by omega)
    have hrr := rem5 hr
    have hmm : r % 5 < 5 := Nat.mod_lt _ (by decide)
    refine b_iload_n (pc := 9) (i := 3) (dd dtX1_takeSizes 7 rfl) rfl rfl ?_
    refine b_if_lt (pc := 10) (tgt := 74) (dd dtX1_takeSizes 8 rfl) (by decide) (fun h10 => ?_) (fun h10 => ?_)
    · exact absurd h10 (nI_pos (by omega))
    · refine b_aload_n (pc := 13) (i := 0) (dd dtX1_takeSizes 9 rfl) rfl rfl ?_
      refine b_geta (pc := 14) (dd dtX1_takeSizes 10 rfl) fwX1_40 pC_57 rC_57_9 ?_
      refine b_iload_n (pc := 17) (i := 3) (dd dtX1_takeSizes 11 rfl) rfl rfl ?_
      refine b_gets3 (pc := 18) (dd dtX1_takeSizes 12 rfl) fsX1_78 ?_
      refine b_iload_n (pc := 21) (i := 2) (dd dtX1_takeSizes 13 rfl) rfl rfl ?_
      refine b_gets3 (pc := 22) (dd dtX1_takeSizes 14 rfl) fsX1_78 ?_
      refine b_tlen3 (pc := 25) (v := 5) (dd dtX1_takeSizes 15 rfl) rfl ?_
      refine b_irem (pc := 26) (dd dtX1_takeSizes 16 rfl) (by decide) ?_
      refine b_tald3 (pc := 27) (dd dtX1_takeSizes 17 rfl) (by rw [hrr]; exact vpn rfl hmm (by decide)) ?_
      refine b_iast (pc := 28) (dd dtX1_takeSizes 18 rfl) pC_63 (vpn rfl (show i < 5 by omega) (by decide)) ?_
      refine b_iload_n (pc := 29) (i := 2) (dd dtX1_takeSizes 19 rfl) rfl rfl ?_
      refine b_gets3 (pc := 30) (dd dtX1_takeSizes 20 rfl) fsX1_78 ?_
      refine b_tlen3 (pc := 33) (v := 5) (dd dtX1_takeSizes 21 rfl) rfl ?_
      refine b_idiv (pc := 34) (dd dtX1_takeSizes 22 rfl) (by decide) ?_
      refine b_istore_n (pc := 35) (i := 2) (lv' := [(2, _), (3, _), (0, _), (1, _)]) (dd dtX1_takeSizes 23 rfl) rfl (Nat.le_of_ble_eq_true rfl) rfl ?_
      refine b_aload_n (pc := 36) (i := 0) (dd dtX1_takeSizes 24 rfl) rfl rfl ?_
      refine b_geta (pc := 37) (dd dtX1_takeSizes 25 rfl) fwX1_40 pC_57 rC_57_9 ?_
      refine b_iload_n (pc := 40) (i := 3) (dd dtX1_takeSizes 26 rfl) rfl rfl ?_
      refine b_iald (pc := 41) (dd dtX1_takeSizes 27 rfl) pC_63 (vpn rfl (show i < 5 by omega) (by decide)) ?_
      refine b_aload_n (pc := 42) (i := 0) (dd dtX1_takeSizes 28 rfl) rfl rfl ?_
      refine b_geta (pc := 43) (dd dtX1_takeSizes 29 rfl) fwX1_34 pC_57 rC_57_7 ?_
      refine b_iload_n (pc := 46) (i := 3) (dd dtX1_takeSizes 30 rfl) rfl rfl ?_
      refine b_iald (pc := 47) (dd dtX1_takeSizes 31 rfl) pC_61 (vpn rfl (show i < 5 by omega) (by decide)) ?_
      refine b_icmp_lt (pc := 48) (tgt := 66) (dd dtX1_takeSizes 32 rfl) (by decide) (fun h48 => ?_) (fun h48 => ?_)
      · simp only [hrr, hci, nI_clamp (show r % 5 < 2 ^ 31 by omega), ist_eq, upd_eq, ist_ne (show (61 : Nat) ≠ 63 by decide), ist_ne (show (62 : Nat) ≠ 63 by decide)] at *
        refine b_ic0 (pc := 66) (dd dtX1_takeSizes 42 rfl) ?_
        refine b_eq (b_zret (dd dtX1_takeSizes 43 rfl) rfl (by first | rfl | exact nar_bi)) ?_ ?_
        · first | rw [tk_lo h48] | rw [tk_hi h48 h63]
          simp [bi]
        · first | rw [tk_lo h48] | rw [tk_hi h48 h63]
      · refine b_aload_n (pc := 51) (i := 0) (dd dtX1_takeSizes 33 rfl) rfl rfl ?_
        refine b_geta (pc := 52) (dd dtX1_takeSizes 34 rfl) fwX1_40 pC_57 rC_57_9 ?_
        refine b_iload_n (pc := 55) (i := 3) (dd dtX1_takeSizes 35 rfl) rfl rfl ?_
        refine b_iald (pc := 56) (dd dtX1_takeSizes 36 rfl) pC_63 (vpn rfl (show i < 5 by omega) (by decide)) ?_
        refine b_aload_n (pc := 57) (i := 0) (dd dtX1_takeSizes 37 rfl) rfl rfl ?_
        refine b_geta (pc := 58) (dd dtX1_takeSizes 38 rfl) fwX1_37 pC_57 rC_57_8 ?_
        refine b_iload_n (pc := 61) (i := 3) (dd dtX1_takeSizes 39 rfl) rfl rfl ?_
        refine b_iald (pc := 62) (dd dtX1_takeSizes 40 rfl) pC_62 (vpn rfl (show i < 5 by omega) (by decide)) ?_
        refine b_icmpL_le (pc := 63) (tgt := 68) (dd dtX1_takeSizes 41 rfl) (by decide) (fun h63 => ?_) (fun h63 => ?_)
        · simp only [hrr, hci, nI_clamp (show r % 5 < 2 ^ 31 by omega), ist_eq, upd_eq, ist_ne (show (61 : Nat) ≠ 63 by decide), ist_ne (show (62 : Nat) ≠ 63 by decide)] at *
          refine b_iinc (pc := 68) (i := 3) (v := _ + (-1)) (lv' := [(3, _), (2, _), (0, _), (1, _)]) (dd dtX1_takeSizes 44 rfl) rfl rfl (Nat.le_of_ble_eq_true rfl) rfl ?_
          refine b_goto (pc := 71) (tgt := 9) (dd dtX1_takeSizes 45 rfl) (by decide) ?_
          refine b_eq (ih (r / 5) _ _ _ (by omega) (by omega) ?_ (div5 hr)) ?_ ?_
          · rw [Int32.sub_eq_add_neg]
          · rw [tk_go h48 h63]
          · rw [tk_go h48 h63]
        · simp only [hrr, hci, nI_clamp (show r % 5 < 2 ^ 31 by omega), ist_eq, upd_eq, ist_ne (show (61 : Nat) ≠ 63 by decide), ist_ne (show (62 : Nat) ≠ 63 by decide)] at *
          refine b_ic0 (pc := 66) (dd dtX1_takeSizes 42 rfl) ?_
          refine b_eq (b_zret (dd dtX1_takeSizes 43 rfl) rfl (by first | rfl | exact nar_bi)) ?_ ?_
          · first | rw [tk_lo h48] | rw [tk_hi h48 h63]
            simp [bi]
          · first | rw [tk_lo h48] | rw [tk_hi h48 h63]
set_option maxHeartbeats 4000000 in
theorem c_X1_takeSizes {J : Wd} {z : Nat} (hz : J 57 0 = nI z) (hz2 : z ≤ 5) {r : Nat} (hr : r < 2 ^ 31) : Cal SyC mX1_takeSizes 0 [.ref 57, .int (nI r)] J (some (.int (bi ((tk z r J).1 = true)))) (tk z r J).2 := by
  refine Cal.of (by decide) (Nat.le_of_ble_eq_true rfl) ?_
  show Bd _ _ _ _ [(0, _), (1, _)] _ _ _ _
  refine b_iload_n (pc := 0) (i := 1) (dd dtX1_takeSizes 0 rfl) rfl rfl ?_
  refine b_istore_n (pc := 1) (i := 2) (lv' := [(2, _), (0, _), (1, _)]) (dd dtX1_takeSizes 1 rfl) rfl (Nat.le_of_ble_eq_true rfl) rfl ?_
  refine b_aload_n (pc := 2) (i := 0) (dd dtX1_takeSizes 2 rfl) rfl rfl ?_
  refine b_geti (pc := 3) (dd dtX1_takeSizes 3 rfl) fwX1_9 pC_57 ?_
  refine b_ic1 (pc := 6) (dd dtX1_takeSizes 4 rfl) ?_
  refine b_isub (pc := 7) (dd dtX1_takeSizes 5 rfl) ?_
  refine b_istore_n (pc := 8) (i := 3) (lv' := [(3, _), (2, _), (0, _), (1, _)]) (dd dtX1_takeSizes 6 rfl) rfl (Nat.le_of_ble_eq_true rfl) rfl ?_
  exact l_X1_takeSizes z r _ _ _ hz2 hr (by rw [hz]) rfl
end
section
def tX1_meetsNeeds : List (Nat × Instr × Nat) := [(0, .iconst 0, 1), (1, .istore_n 1, 1), (2, .iload_n 1, 1), (3, .aload_n 0, 1), (4, .getfield 43, 3), (7, .if_icmp .ge 65, 3), (10, .iconst 0, 1), (11, .istore_n 2, 1), (12, .iconst 0, 1), (13, .istore_n 3, 1), (14, .iload_n 3, 1), (15, .aload_n 0, 1), (16, .getfield 9, 3), (19, .if_icmp .ge 35, 3), (22, .iload_n 2, 1), (23, .aload_n 0, 1), (24, .getfield 49, 3), (27, .iload_n 1, 1), (28, .iaload, 1), (29, .iload_n 3, 1), (30, .ishr, 1), (31, .iconst 1, 1), (32, .iand, 1), (33, .ifCond .eq 12, 3), (36, .aload_n 0, 1), (37, .getfield 40, 3), (40, .iload_n 3, 1), (41, .iaload, 1), (42, .goto 4, 3), (45, .iconst 0, 1), (46, .iadd, 1), (47, .istore_n 2, 1), (48, .iinc 3 1, 3), (51, .goto (-37), 3), (54, .iload_n 2, 1), (55, .aload_n 0, 1), (56, .getfield 46, 3), (59, .iload_n 1, 1), (60, .iaload, 1), (61, .if_icmp .ge 5, 3), (64, .iconst 0, 1), (65, .ireturn, 1), (66, .iinc 1 1, 3), (69, .goto (-67), 3), (72, .iconst 1, 1), (73, .ireturn, 1)]
theorem dtX1_meetsNeeds : dec_ok mX1_meetsNeeds.2.1 tX1_meetsNeeds = true := by decide +kernel
set_option maxHeartbeats 4000000 in
theorem li_X1_meetsNeeds {J : Wd} {z q : Nat} (hz : J 57 0 = nI z) (hz2 : z ≤ 5) (hq : J 57 10 = nI q) (hq2 : q ≤ 8) {t : Nat} (ht : t < q) {r : Option Value} {I' : Wd} (kk : Bd SyC mX1_meetsNeeds 0 54 [(2, .int (sNd (J 65) (J 63) t z)), (1, .int (nI t)), (0, .ref 57)] [] J r I') : ∀ (n h : Nat) (x3 x2 : Int32), h ≤ z → z < h + n → x3 = nI h → x2 = sNd (J 65) (J 63) t h → Bd SyC mX1_meetsNeeds 0 14 [(3, .int x3), (2, .int x2), (1, .int (nI t)), (0, .ref 57)] [] J r I' := by
  intro n
  induction n with
  | zero => intro h x3 x2 h1 h2; omega
  | succ n ih =>
    intro h x3 x2 h1 h2 e3 e2
    subst e3; subst e2
    have hct : (nI t).toNatClampNeg = t := nI_clamp (by omega)
    refine b_iload_n (pc := 14) (i := 3) (dd dtX1_meetsNeeds 10 rfl) rfl rfl ?_
    refine b_aload_n (pc := 15) (i := 0) (dd dtX1_meetsNeeds 11 rfl) rfl rfl ?_
    refine b_geti (pc := 16) (dd dtX1_meetsNeeds 12 rfl) fwX1_9 pC_57 ?_
    refine b_icmpL_ge (pc := 19) (tgt := 54) (dd dtX1_meetsNeeds 13 rfl) (by decide) (fun h19 => ?_) (fun h19 => ?_)
    · refine b_pick [1, 2, 3] (lv' := [(2, _), (1, _), (0, _)]) rfl ?_
      rw [hz] at h19
      have he : h = z := by have := ge_n h19 (by omega); omega
      subst he
      exact kk
    · rw [hz] at h19
      have hlt : h < z := lt_n h19 (by omega) (by omega)
      refine b_iload_n (pc := 22) (i := 2) (dd dtX1_meetsNeeds 14 rfl) rfl rfl ?_
      refine b_aload_n (pc := 23) (i := 0) (dd dtX1_meetsNeeds 15 rfl) rfl rfl ?_
      refine b_geta (pc := 24) (dd dtX1_meetsNeeds 16 rfl) fwX1_49 pC_57 rC_57_12 ?_
      refine b_iload_n (pc := 27) (i := 1) (dd dtX1_meetsNeeds 17 rfl) rfl rfl ?_
      refine b_iald (pc := 28) (dd dtX1_meetsNeeds 18 rfl) pC_65 (vpn rfl (show t < 8 by omega) (by decide)) ?_
      refine b_iload_n (pc := 29) (i := 3) (dd dtX1_meetsNeeds 19 rfl) rfl rfl ?_
      refine b_ishr (pc := 30) (dd dtX1_meetsNeeds 20 rfl) ?_
      refine b_ic1 (pc := 31) (dd dtX1_meetsNeeds 21 rfl) ?_
      refine b_iand (pc := 32) (dd dtX1_meetsNeeds 22 rfl) ?_
      refine b_if_eq (pc := 33) (tgt := 45) (dd dtX1_meetsNeeds 23 rfl) (by decide) (fun h33 => ?_) (fun h33 => ?_)
      · refine b_ic0 (pc := 45) (dd dtX1_meetsNeeds 29 rfl) ?_
        refine b_iadd (pc := 46) (dd dtX1_meetsNeeds 30 rfl) ?_
        refine b_istore_n (pc := 47) (i := 2) (lv' := [(2, _), (3, _), (1, _), (0, _)]) (dd dtX1_meetsNeeds 31 rfl) rfl (Nat.le_of_ble_eq_true rfl) rfl ?_
        refine b_iinc1 (pc := 48) (i := 3) (lv' := [(3, _), (2, _), (1, _), (0, _)]) (dd dtX1_meetsNeeds 32 rfl) rfl (Nat.le_of_ble_eq_true rfl) rfl ?_
        refine b_goto (pc := 51) (tgt := 14) (dd dtX1_meetsNeeds 33 rfl) (by decide) ?_
        rw [nI_1]
        refine ih (h + 1) _ _ hlt (by omega) rfl ?_
        rw [hct] at h33
        try simp only [nI_clamp (show h < 2 ^ 31 by omega)]
        simp only [sNd]
        first | rw [if_pos (show bitS (J 65 t) h = 0 from h33)] | rw [if_neg (show ¬ bitS (J 65 t) h = 0 from h33)]
      · refine b_aload_n (pc := 36) (i := 0) (dd dtX1_meetsNeeds 24 rfl) rfl rfl ?_
        refine b_geta (pc := 37) (dd dtX1_meetsNeeds 25 rfl) fwX1_40 pC_57 rC_57_9 ?_
        refine b_iload_n (pc := 40) (i := 3) (dd dtX1_meetsNeeds 26 rfl) rfl rfl ?_
        refine b_iald (pc := 41) (dd dtX1_meetsNeeds 27 rfl) pC_63 (vpn rfl (show h < 5 by omega) (by decide)) ?_
        refine b_goto (pc := 42) (tgt := 46) (dd dtX1_meetsNeeds 28 rfl) (by decide) ?_
        refine b_iadd (pc := 46) (dd dtX1_meetsNeeds 30 rfl) ?_
        refine b_istore_n (pc := 47) (i := 2) (lv' := [(2, _), (3, _), (1, _), (0, _)]) (dd dtX1_meetsNeeds 31 rfl) rfl (Nat.le_of_ble_eq_true rfl) rfl ?_
        refine b_iinc1 (pc := 48) (i := 3) (lv' := [(3, _), (2, _), (1, _), (0, _)]) (dd dtX1_meetsNeeds 32 rfl) rfl (Nat.le_of_ble_eq_true rfl) rfl ?_
        refine b_goto (pc := 51) (tgt := 14) (dd dtX1_meetsNeeds 33 rfl) (by decide) ?_
        rw [nI_1]
        refine ih (h + 1) _ _ hlt (by omega) rfl ?_
        rw [hct] at h33
        try simp only [nI_clamp (show h < 2 ^ 31 by omega)]
        simp only [sNd]
        first | rw [if_pos (show bitS (J 65 t) h = 0 from h33)] | rw [if_neg (show ¬ bitS (J 65 t) h = 0 from h33)]
set_option maxHeartbeats 4000000 in
theorem l_X1_meetsNeeds {J : Wd} {z q : Nat} (hz : J 57 0 = nI z) (hz2 : z ≤ 5) (hq : J 57 10 = nI q) (hq2 : q ≤ 8) : ∀ (n h : Nat) (x1 : Int32), h ≤ q → q < h + n → x1 = nI h → (mnP J z h) → Bd SyC mX1_meetsNeeds 0 2 [(1, .int x1), (0, .ref 57)] [] J (some (.int (bi (mnP J z q)))) J := by
  intro n
  induction n with
  | zero => intro h x1 h1 h2; omega
  | succ n ih =>
    intro h x1 h1 h2 e1 hI
    subst e1
    refine b_iload_n (pc := 2) (i := 1) (dd dtX1_meetsNeeds 2 rfl) rfl rfl ?_
    refine b_aload_n (pc := 3) (i := 0) (dd dtX1_meetsNeeds 3 rfl) rfl rfl ?_
    refine b_geti (pc := 4) (dd dtX1_meetsNeeds 4 rfl) fwX1_43 pC_57 ?_
    refine b_icmpL_ge (pc := 7) (tgt := 72) (dd dtX1_meetsNeeds 5 rfl) (by decide) (fun h7 => ?_) (fun h7 => ?_)
    · rw [hq] at h7
      have he : h = q := Nat.le_antisymm h1 (ge_n h7 (by omega))
      subst he
      refine b_ic1 (pc := 72) (dd dtX1_meetsNeeds 44 rfl) ?_
      refine b_eq (b_zret (dd dtX1_meetsNeeds 45 rfl) rfl (by first | rfl | exact nar_bi)) ?_ ?_
      · rw [bi_t hI]
      · rfl
    · rw [hq] at h7
      have hlt : h < q := lt_n h7 (by omega) (by omega)
      refine b_ic0 (pc := 10) (dd dtX1_meetsNeeds 6 rfl) ?_
      refine b_istore_n (pc := 11) (i := 2) (lv' := [(2, _), (1, _), (0, _)]) (dd dtX1_meetsNeeds 7 rfl) rfl (Nat.le_of_ble_eq_true rfl) rfl ?_
      refine b_ic0 (pc := 12) (dd dtX1_meetsNeeds 8 rfl) ?_
      refine b_istore_n (pc := 13) (i := 3) (lv' := [(3, _), (2, _), (1, _), (0, _)]) (dd dtX1_meetsNeeds 9 rfl) rfl (Nat.le_of_ble_eq_true rfl) rfl ?_
      refine li_X1_meetsNeeds hz hz2 hq hq2 hlt ?_ (z + 1) 0 _ _ (Nat.zero_le _) (by omega) rfl rfl
      refine b_iload_n (pc := 54) (i := 2) (dd dtX1_meetsNeeds 34 rfl) rfl rfl ?_
      refine b_aload_n (pc := 55) (i := 0) (dd dtX1_meetsNeeds 35 rfl) rfl rfl ?_
      refine b_geta (pc := 56) (dd dtX1_meetsNeeds 36 rfl) fwX1_46 pC_57 rC_57_11 ?_
      refine b_iload_n (pc := 59) (i := 1) (dd dtX1_meetsNeeds 37 rfl) rfl rfl ?_
      refine b_iald (pc := 60) (dd dtX1_meetsNeeds 38 rfl) pC_64 (vpn rfl (show h < 8 by omega) (by decide)) ?_
      refine b_icmpL_ge (pc := 61) (tgt := 66) (dd dtX1_meetsNeeds 39 rfl) (by decide) (fun h61 => ?_) (fun h61 => ?_)
      · rw [nI_clamp (show h < 2 ^ 31 by omega)] at h61
        refine b_iinc1 (pc := 66) (i := 1) (lv' := [(1, _), (2, _), (0, _)]) (dd dtX1_meetsNeeds 42 rfl) rfl (Nat.le_of_ble_eq_true rfl) rfl ?_
        refine b_goto (pc := 69) (tgt := 2) (dd dtX1_meetsNeeds 43 rfl) (by decide) ?_
        refine b_pick [0, 2] (lv' := [(1, _), (0, _)]) rfl ?_
        rw [nI_1]
        refine ih (h + 1) _ hlt (by omega) rfl ?_
        intro i hi
        rcases Nat.lt_succ_iff_lt_or_eq.mp hi with p | p
        · exact hI i p
        · subst p; exact h61
      · rw [nI_clamp (show h < 2 ^ 31 by omega)] at h61
        have hno : ¬ mnP J z q := fun p => p h hlt h61
        refine b_ic0 (pc := 64) (dd dtX1_meetsNeeds 40 rfl) ?_
        refine b_eq (b_zret (dd dtX1_meetsNeeds 41 rfl) rfl (by first | rfl | exact nar_bi)) ?_ ?_
        · rw [bi_f hno]
        · rfl
set_option maxHeartbeats 4000000 in
theorem c_X1_meetsNeeds {J : Wd} {z q : Nat} (hz : J 57 0 = nI z) (hz2 : z ≤ 5) (hq : J 57 10 = nI q) (hq2 : q ≤ 8) : Cal SyC mX1_meetsNeeds 0 [.ref 57] J (some (.int (bi (mnP J z q)))) J := by
  refine Cal.of (by decide) (Nat.le_of_ble_eq_true rfl) ?_
  show Bd _ _ _ _ [(0, _)] _ _ _ _
  refine b_ic0 (pc := 0) (dd dtX1_meetsNeeds 0 rfl) ?_
  refine b_istore_n (pc := 1) (i := 1) (lv' := [(1, _), (0, _)]) (dd dtX1_meetsNeeds 1 rfl) rfl (Nat.le_of_ble_eq_true rfl) rfl ?_
  exact l_X1_meetsNeeds hz hz2 hq hq2 (q + 1) 0 _ (Nat.zero_le _) (by omega) rfl (fun i hi => absurd hi (Nat.not_lt_zero i))
def tX1_weighUp : List (Nat × Instr × Nat) := [(0, .iconst 0, 1), (1, .istore_n 1, 1), (2, .iconst 0, 1), (3, .istore_n 2, 1), (4, .iconst 0, 1), (5, .istore_n 3, 1), (6, .iload_n 3, 1), (7, .aload_n 0, 1), (8, .getfield 9, 3), (11, .if_icmp .ge 35, 3), (14, .iload_n 1, 1), (15, .aload_n 0, 1), (16, .getfield 40, 3), (19, .iload_n 3, 1), (20, .iaload, 1), (21, .ifCond .le 7, 3), (24, .iconst 1, 1), (25, .goto 4, 3), (28, .iconst 0, 1), (29, .iadd, 1), (30, .istore_n 1, 1), (31, .iload_n 2, 1), (32, .aload_n 0, 1), (33, .getfield 40, 3), (36, .iload_n 3, 1), (37, .iaload, 1), (38, .iadd, 1), (39, .istore_n 2, 1), (40, .iinc 3 1, 3), (43, .goto (-37), 3), (46, .aload_n 0, 1), (47, .getfield 15, 3), (50, .ifCond .eq 27, 3), (53, .iload_n 1, 1), (54, .aload_n 0, 1), (55, .getfield 18, 3), (58, .if_icmp .lt 19, 3), (61, .iload_n 1, 1), (62, .aload_n 0, 1), (63, .getfield 18, 3), (66, .if_icmp .ne 71, 3), (69, .iload_n 2, 1), (70, .aload_n 0, 1), (71, .getfield 21, 3), (74, .if_icmp .ge 63, 3), (77, .aload_n 0, 1), (78, .iconst 1, 1), (79, .putfield 15, 3), (82, .aload_n 0, 1), (83, .iload_n 1, 1), (84, .putfield 18, 3), (87, .aload_n 0, 1), (88, .iload_n 2, 1), (89, .putfield 21, 3), (92, .aload_n 0, 1), (93, .getfield 40, 3), (96, .iconst 0, 1), (97, .aload_n 0, 1), (98, .getfield 24, 3), (101, .iconst 0, 1), (102, .iconst 5, 1), (103, .invokestatic 108, 3), (106, .aload_n 0, 1), (107, .getfield 40, 3), (110, .iconst 0, 1), (111, .aload_n 0, 1), (112, .getfield 28, 3), (115, .iconst 0, 1), (116, .iconst 5, 1), (117, .invokestatic 108, 3), (120, .aload_n 0, 1), (121, .getfield 40, 3), (124, .iconst 0, 1), (125, .aload_n 0, 1), (126, .getfield 31, 3), (129, .iconst 0, 1), (130, .iconst 5, 1), (131, .invokestatic 108, 3), (134, .goto 87, 3), (137, .iload_n 1, 1), (138, .aload_n 0, 1), (139, .getfield 18, 3), (142, .if_icmp .ne 79, 3), (145, .iload_n 2, 1), (146, .aload_n 0, 1), (147, .getfield 21, 3), (150, .if_icmp .ne 71, 3), (153, .aload_n 0, 1), (154, .dup, 1), (155, .getfield 15, 3), (158, .iconst 1, 1), (159, .iadd, 1), (160, .putfield 15, 3), (163, .iconst 0, 1), (164, .istore_n 3, 1), (165, .iload_n 3, 1), (166, .aload_n 0, 1), (167, .getfield 9, 3), (170, .if_icmp .ge 51, 3), (173, .aload_n 0, 1), (174, .getfield 28, 3), (177, .iload_n 3, 1), (178, .aload_n 0, 1), (179, .getfield 28, 3), (182, .iload_n 3, 1), (183, .iaload, 1), (184, .aload_n 0, 1), (185, .getfield 40, 3), (188, .iload_n 3, 1), (189, .iaload, 1), (190, .invokestatic 57, 3), (193, .iastore, 1), (194, .aload_n 0, 1), (195, .getfield 31, 3), (198, .iload_n 3, 1), (199, .aload_n 0, 1), (200, .getfield 31, 3), (203, .iload_n 3, 1), (204, .iaload, 1), (205, .aload_n 0, 1), (206, .getfield 40, 3), (209, .iload_n 3, 1), (210, .iaload, 1), (211, .invokestatic 114, 3), (214, .iastore, 1), (215, .iinc 3 1, 3), (218, .goto (-53), 3), (221, .return_, 1)]
theorem dtX1_weighUp : dec_ok mX1_weighUp.2.1 tX1_weighUp = true := by decide +kernel
theorem sF_eq : True := trivial
set_option maxHeartbeats 4000000 in
theorem lt_X1_weighUp {J : Wd} {z : Nat} (hz : J 57 0 = nI z) (hz2 : z ≤ 5) {y1 y2 : Int32} : ∀ (n h : Nat) (x3 : Int32) (I2 : Wd), h ≤ z → z < h + n → x3 = nI h → I2 = (wgTie J h) → Bd SyC mX1_weighUp 1 165 [(3, .int x3), (2, .int y2), (1, .int y1), (0, .ref 57)] [] I2 none (wgTie J z) := by
  intro n
  induction n with
  | zero => intro h x3 I2 h1 h2; omega
  | succ n ih =>
    intro h x3 I2 h1 h2 e3 eW
    subst e3; subst eW
    have hzt : wgTie J h 57 0 = nI z := by unfold wgTie; simp (disch := decide) only [rset_ne, ist_eq, upd_ne, ne_eq, Nat.reduceEqDiff, not_false_eq_true]; exact hz
    have f63 : wgTie J h 63 = J 63 := by unfold wgTie; simp (disch := decide) only [rset_ne, ist_ne]
    have f59 : wgTie J h 59 h = J 59 h := by unfold wgTie; rw [rset_ne (by decide), rset_eq, fil_out (Nat.le_refl h)]
    have f60 : wgTie J h 60 h = J 60 h := by unfold wgTie; rw [rset_eq, fil_out (Nat.le_refl h)]
    refine b_iload_n (pc := 165) (i := 3) (dd dtX1_weighUp 95 rfl) rfl rfl ?_
    refine b_aload_n (pc := 166) (i := 0) (dd dtX1_weighUp 96 rfl) rfl rfl ?_
    refine b_geti (pc := 167) (dd dtX1_weighUp 97 rfl) fwX1_9 pC_57 ?_
    refine b_icmpL_ge (pc := 170) (tgt := 221) (dd dtX1_weighUp 98 rfl) (by decide) (fun h170 => ?_) (fun h170 => ?_)
    · rw [hzt] at h170
      have he : h = z := Nat.le_antisymm h1 (ge_n h170 (by omega))
      subst he
      exact b_eq (b_vret (dd dtX1_weighUp 127 rfl) rfl) rfl rfl
    · rw [hzt] at h170
      have hlt : h < z := lt_n h170 (by omega) (by omega)
      refine b_aload_n (pc := 173) (i := 0) (dd dtX1_weighUp 99 rfl) rfl rfl ?_
      refine b_geta (pc := 174) (dd dtX1_weighUp 100 rfl) fwX1_28 pC_57 rC_57_5 ?_
      refine b_iload_n (pc := 177) (i := 3) (dd dtX1_weighUp 101 rfl) rfl rfl ?_
      refine b_aload_n (pc := 178) (i := 0) (dd dtX1_weighUp 102 rfl) rfl rfl ?_
      refine b_geta (pc := 179) (dd dtX1_weighUp 103 rfl) fwX1_28 pC_57 rC_57_5 ?_
      refine b_iload_n (pc := 182) (i := 3) (dd dtX1_weighUp 104 rfl) rfl rfl ?_
      refine b_iald (pc := 183) (dd dtX1_weighUp 105 rfl) pC_59 (vpn rfl (show h < 5 by omega) (by decide)) ?_
      refine b_aload_n (pc := 184) (i := 0) (dd dtX1_weighUp 106 rfl) rfl rfl ?_
      refine b_geta (pc := 185) (dd dtX1_weighUp 107 rfl) fwX1_40 pC_57 rC_57_9 ?_
      refine b_iload_n (pc := 188) (i := 3) (dd dtX1_weighUp 108 rfl) rfl rfl ?_
      refine b_iald (pc := 189) (dd dtX1_weighUp 109 rfl) pC_63 (vpn rfl (show h < 5 by omega) (by decide)) ?_
      refine b_mmin (pc := 190) (dd dtX1_weighUp 110 rfl) wlX1_57 (Nat.le_of_ble_eq_true rfl) ?_
      refine b_iast (pc := 193) (dd dtX1_weighUp 111 rfl) pC_59 (vpn rfl (show h < 5 by omega) (by decide)) ?_
      refine b_aload_n (pc := 194) (i := 0) (dd dtX1_weighUp 112 rfl) rfl rfl ?_
      refine b_geta (pc := 195) (dd dtX1_weighUp 113 rfl) fwX1_31 pC_57 rC_57_6 ?_
      refine b_iload_n (pc := 198) (i := 3) (dd dtX1_weighUp 114 rfl) rfl rfl ?_
      refine b_aload_n (pc := 199) (i := 0) (dd dtX1_weighUp 115 rfl) rfl rfl ?_
      refine b_geta (pc := 200) (dd dtX1_weighUp 116 rfl) fwX1_31 pC_57 rC_57_6 ?_
      refine b_iload_n (pc := 203) (i := 3) (dd dtX1_weighUp 117 rfl) rfl rfl ?_
      refine b_iald (pc := 204) (dd dtX1_weighUp 118 rfl) pC_60 (vpn rfl (show h < 5 by omega) (by decide)) ?_
      refine b_aload_n (pc := 205) (i := 0) (dd dtX1_weighUp 119 rfl) rfl rfl ?_
      refine b_geta (pc := 206) (dd dtX1_weighUp 120 rfl) fwX1_40 pC_57 rC_57_9 ?_
      refine b_iload_n (pc := 209) (i := 3) (dd dtX1_weighUp 121 rfl) rfl rfl ?_
      refine b_iald (pc := 210) (dd dtX1_weighUp 122 rfl) pC_63 (vpn rfl (show h < 5 by omega) (by decide)) ?_
      refine b_mmax (pc := 211) (dd dtX1_weighUp 123 rfl) wlX1_114 (Nat.le_of_ble_eq_true rfl) ?_
      refine b_iast (pc := 214) (dd dtX1_weighUp 124 rfl) pC_60 (vpn rfl (show h < 5 by omega) (by decide)) ?_
      refine b_iinc1 (pc := 215) (i := 3) (lv' := [(3, _), (2, _), (1, _), (0, _)]) (dd dtX1_weighUp 125 rfl) rfl (Nat.le_of_ble_eq_true rfl) rfl ?_
      refine b_goto (pc := 218) (tgt := 165) (dd dtX1_weighUp 126 rfl) (by decide) ?_
      rw [nI_1]
      refine ih (h + 1) _ _ hlt (by omega) rfl ?_
      · simp only [nI_clamp (show h < 2 ^ 31 by omega)]
        rw [ist_ne (show (60 : Nat) ≠ 59 by decide), ist_ne (show (63 : Nat) ≠ 59 by decide), f59, f60, f63]
        unfold wgTie
        rw [rset_comm (show (59 : Nat) ≠ 60 by decide), ist_rset, rset_comm (show (60 : Nat) ≠ 59 by decide), ist_rset]
        exact congr (congrArg (fun a b => rset (rset (ist J 57 1 (J 57 1 + 1)) 59 a) 60 b) (fil_s rfl)) (fil_s rfl)
set_option maxHeartbeats 4000000 in
theorem l_X1_weighUp {J : Wd} {z : Nat} (hz : J 57 0 = nI z) (hz2 : z ≤ 5) : ∀ (n h : Nat) (x3 : Int32) (x2 : Int32) (x1 : Int32), h ≤ z → z < h + n → x3 = nI h → x2 = sSum (J 63) h → x1 = sFew (J 63) h → Bd SyC mX1_weighUp 1 6 [(3, .int x3), (2, .int x2), (1, .int x1), (0, .ref 57)] [] J none (wgW J z) := by
  intro n
  induction n with
  | zero => intro h x3 x2 x1 h1 h2; omega
  | succ n ih =>
    intro h x3 x2 x1 h1 h2 e3 e2 e1
    subst e3; subst e2; subst e1
    refine b_iload_n (pc := 6) (i := 3) (dd dtX1_weighUp 6 rfl) rfl rfl ?_
    refine b_aload_n (pc := 7) (i := 0) (dd dtX1_weighUp 7 rfl) rfl rfl ?_
    refine b_geti (pc := 8) (dd dtX1_weighUp 8 rfl) fwX1_9 pC_57 ?_
    refine b_icmpL_ge (pc := 11) (tgt := 46) (dd dtX1_weighUp 9 rfl) (by decide) (fun h11 => ?_) (fun h11 => ?_)
    · rw [hz] at h11
      have he : h = z := by have := ge_n h11 (by omega); omega
      subst he
      refine b_aload_n (pc := 46) (i := 0) (dd dtX1_weighUp 30 rfl) rfl rfl ?_
      refine b_geti (pc := 47) (dd dtX1_weighUp 31 rfl) fwX1_15 pC_57 ?_
      refine b_if_eq (pc := 50) (tgt := 77) (dd dtX1_weighUp 32 rfl) (by decide) (fun h50 => ?_) (fun h50 => ?_)
      · refine b_aload_n (pc := 77) (i := 0) (dd dtX1_weighUp 45 rfl) rfl rfl ?_
        refine b_ic1 (pc := 78) (dd dtX1_weighUp 46 rfl) ?_
        refine b_puti (pc := 79) (dd dtX1_weighUp 47 rfl) fwX1_15 pC_57 ?_
        refine b_aload_n (pc := 82) (i := 0) (dd dtX1_weighUp 48 rfl) rfl rfl ?_
        refine b_iload_n (pc := 83) (i := 1) (dd dtX1_weighUp 49 rfl) rfl rfl ?_
        refine b_puti (pc := 84) (dd dtX1_weighUp 50 rfl) fwX1_18 pC_57 ?_
        refine b_aload_n (pc := 87) (i := 0) (dd dtX1_weighUp 51 rfl) rfl rfl ?_
        refine b_iload_n (pc := 88) (i := 2) (dd dtX1_weighUp 52 rfl) rfl rfl ?_
        refine b_puti (pc := 89) (dd dtX1_weighUp 53 rfl) fwX1_21 pC_57 ?_
        refine b_aload_n (pc := 92) (i := 0) (dd dtX1_weighUp 54 rfl) rfl rfl ?_
        refine b_geta (pc := 93) (dd dtX1_weighUp 55 rfl) fwX1_40 pC_57 rC_57_9 ?_
        refine b_ic0 (pc := 96) (dd dtX1_weighUp 56 rfl) ?_
        refine b_aload_n (pc := 97) (i := 0) (dd dtX1_weighUp 57 rfl) rfl rfl ?_
        refine b_geta (pc := 98) (dd dtX1_weighUp 58 rfl) fwX1_24 pC_57 rC_57_4 ?_
        refine b_ic0 (pc := 101) (dd dtX1_weighUp 59 rfl) ?_
        refine b_ic5 (pc := 102) (dd dtX1_weighUp 60 rfl) ?_
        refine b_copyT (pc := 103) (Or.inl ⟨rfl, rfl⟩) (dd dtX1_weighUp 61 rfl) wlX1_108 pC_63 pC_58 ⟨by decide, by decide, by decide, by decide, by decide, fun _ _ => rfl, Nat.le_of_ble_eq_true rfl⟩ ?_
        refine b_aload_n (pc := 106) (i := 0) (dd dtX1_weighUp 62 rfl) rfl rfl ?_
        refine b_geta (pc := 107) (dd dtX1_weighUp 63 rfl) fwX1_40 pC_57 rC_57_9 ?_
        refine b_ic0 (pc := 110) (dd dtX1_weighUp 64 rfl) ?_
        refine b_aload_n (pc := 111) (i := 0) (dd dtX1_weighUp 65 rfl) rfl rfl ?_
        refine b_geta (pc := 112) (dd dtX1_weighUp 66 rfl) fwX1_28 pC_57 rC_57_5 ?_
        refine b_ic0 (pc := 115) (dd dtX1_weighUp 67 rfl) ?_
        refine b_ic5 (pc := 116) (dd dtX1_weighUp 68 rfl) ?_
        refine b_copyT (pc := 117) (Or.inl ⟨rfl, rfl⟩) (dd dtX1_weighUp 69 rfl) wlX1_108 pC_63 pC_59 ⟨by decide, by decide, by decide, by decide, by decide, fun _ _ => rfl, Nat.le_of_ble_eq_true rfl⟩ ?_
        refine b_aload_n (pc := 120) (i := 0) (dd dtX1_weighUp 70 rfl) rfl rfl ?_
        refine b_geta (pc := 121) (dd dtX1_weighUp 71 rfl) fwX1_40 pC_57 rC_57_9 ?_
        refine b_ic0 (pc := 124) (dd dtX1_weighUp 72 rfl) ?_
        refine b_aload_n (pc := 125) (i := 0) (dd dtX1_weighUp 73 rfl) rfl rfl ?_
        refine b_geta (pc := 126) (dd dtX1_weighUp 74 rfl) fwX1_31 pC_57 rC_57_6 ?_
        refine b_ic0 (pc := 129) (dd dtX1_weighUp 75 rfl) ?_
        refine b_ic5 (pc := 130) (dd dtX1_weighUp 76 rfl) ?_
        refine b_copyT (pc := 131) (Or.inl ⟨rfl, rfl⟩) (dd dtX1_weighUp 77 rfl) wlX1_108 pC_63 pC_60 ⟨by decide, by decide, by decide, by decide, by decide, fun _ _ => rfl, Nat.le_of_ble_eq_true rfl⟩ ?_
        refine b_goto (pc := 134) (tgt := 221) (dd dtX1_weighUp 78 rfl) (by decide) ?_
        refine b_eq (b_vret (dd dtX1_weighUp 127 rfl) rfl) ?_ ?_
        · rfl
        · unfold wgW
          first
            | (rw [if_pos (by first | exact Or.inl h50 | exact Or.inr (Or.inl h58) | exact Or.inr (Or.inr ⟨h66, h74⟩))]; unfold wgNew; simp (disch := decide) only [rset_ne, ist_ne, show (0 : Int32).toNatClampNeg = 0 from rfl, show (5 : Int32).toNatClampNeg = 5 from rfl, cpy_fil])
            | (rw [if_neg (by rintro (c | c | ⟨c, c2⟩); exact h50 c; exact h58 c; first | exact h74 c2 | exact h66 c), if_neg (by rintro ⟨c, c2⟩; first | exact h142 c | exact h150 c2 | exact h66 c)])
      · refine b_iload_n (pc := 53) (i := 1) (dd dtX1_weighUp 33 rfl) rfl rfl ?_
        refine b_aload_n (pc := 54) (i := 0) (dd dtX1_weighUp 34 rfl) rfl rfl ?_
        refine b_geti (pc := 55) (dd dtX1_weighUp 35 rfl) fwX1_18 pC_57 ?_
        refine b_icmp_lt (pc := 58) (tgt := 77) (dd dtX1_weighUp 36 rfl) (by decide) (fun h58 => ?_) (fun h58 => ?_)
        · refine b_aload_n (pc := 77) (i := 0) (dd dtX1_weighUp 45 rfl) rfl rfl ?_
          refine b_ic1 (pc := 78) (dd dtX1_weighUp 46 rfl) ?_
          refine b_puti (pc := 79) (dd dtX1_weighUp 47 rfl) fwX1_15 pC_57 ?_
          refine b_aload_n (pc := 82) (i := 0) (dd dtX1_weighUp 48 rfl) rfl rfl ?_
          refine b_iload_n (pc := 83) (i := 1) (dd dtX1_weighUp 49 rfl) rfl rfl ?_
          refine b_puti (pc := 84) (dd dtX1_weighUp 50 rfl) fwX1_18 pC_57 ?_
          refine b_aload_n (pc := 87) (i := 0) (dd dtX1_weighUp 51 rfl) rfl rfl ?_
          refine b_iload_n (pc := 88) (i := 2) (dd dtX1_weighUp 52 rfl) rfl rfl ?_
          refine b_puti (pc := 89) (dd dtX1_weighUp 53 rfl) fwX1_21 pC_57 ?_
          refine b_aload_n (pc := 92) (i := 0) (dd dtX1_weighUp 54 rfl) rfl rfl ?_
          refine b_geta (pc := 93) (dd dtX1_weighUp 55 rfl) fwX1_40 pC_57 rC_57_9 ?_
          refine b_ic0 (pc := 96) (dd dtX1_weighUp 56 rfl) ?_
          refine b_aload_n (pc := 97) (i := 0) (dd dtX1_weighUp 57 rfl) rfl rfl ?_
          refine b_geta (pc := 98) (dd dtX1_weighUp 58 rfl) fwX1_24 pC_57 rC_57_4 ?_
          refine b_ic0 (pc := 101) (dd dtX1_weighUp 59 rfl) ?_
          refine b_ic5 (pc := 102) (dd dtX1_weighUp 60 rfl) ?_
          refine b_copyT (pc := 103) (Or.inl ⟨rfl, rfl⟩) (dd dtX1_weighUp 61 rfl) wlX1_108 pC_63 pC_58 ⟨by decide, by decide, by decide, by decide, by decide, fun _ _ => rfl, Nat.le_of_ble_eq_true rfl⟩ ?_
          refine b_aload_n (pc := 106) (i := 0) (dd dtX1_weighUp 62 rfl) rfl rfl ?_
          refine b_geta (pc := 107) (dd dtX1_weighUp 63 rfl) fwX1_40 pC_57 rC_57_9 ?_
          refine b_ic0 (pc := 110) (dd dtX1_weighUp 64 rfl) ?_
          refine b_aload_n (pc := 111) (i := 0) (dd dtX1_weighUp 65 rfl) rfl rfl ?_
          refine b_geta (pc := 112) (dd dtX1_weighUp 66 rfl) fwX1_28 pC_57 rC_57_5 ?_
          refine b_ic0 (pc := 115) (dd dtX1_weighUp 67 rfl) ?_
          refine b_ic5 (pc := 116) (dd dtX1_weighUp 68 rfl) ?_
          refine b_copyT (pc := 117) (Or.inl ⟨rfl, rfl⟩) (dd dtX1_weighUp 69 rfl) wlX1_108 pC_63 pC_59 ⟨by decide, by decide, by decide, by decide, by decide, fun _ _ => rfl, Nat.le_of_ble_eq_true rfl⟩ ?_
          refine b_aload_n (pc := 120) (i := 0) (dd dtX1_weighUp 70 rfl) rfl rfl ?_
          refine b_geta (pc := 121) (dd dtX1_weighUp 71 rfl) fwX1_40 pC_57 rC_57_9 ?_
          refine b_ic0 (pc := 124) (dd dtX1_weighUp 72 rfl) ?_
          refine b_aload_n (pc := 125) (i := 0) (dd dtX1_weighUp 73 rfl) rfl rfl ?_
          refine b_geta (pc := 126) (dd dtX1_weighUp 74 rfl) fwX1_31 pC_57 rC_57_6 ?_
          refine b_ic0 (pc := 129) (dd dtX1_weighUp 75 rfl) ?_
          refine b_ic5 (pc := 130) (dd dtX1_weighUp 76 rfl) ?_
          refine b_copyT (pc := 131) (Or.inl ⟨rfl, rfl⟩) (dd dtX1_weighUp 77 rfl) wlX1_108 pC_63 pC_60 ⟨by decide, by decide, by decide, by decide, by decide, fun _ _ => rfl, Nat.le_of_ble_eq_true rfl⟩ ?_
          refine b_goto (pc := 134) (tgt := 221) (dd dtX1_weighUp 78 rfl) (by decide) ?_
          refine b_eq (b_vret (dd dtX1_weighUp 127 rfl) rfl) ?_ ?_
          · rfl
          · unfold wgW
            first
              | (rw [if_pos (by first | exact Or.inl h50 | exact Or.inr (Or.inl h58) | exact Or.inr (Or.inr ⟨h66, h74⟩))]; unfold wgNew; simp (disch := decide) only [rset_ne, ist_ne, show (0 : Int32).toNatClampNeg = 0 from rfl, show (5 : Int32).toNatClampNeg = 5 from rfl, cpy_fil])
              | (rw [if_neg (by rintro (c | c | ⟨c, c2⟩); exact h50 c; exact h58 c; first | exact h74 c2 | exact h66 c), if_neg (by rintro ⟨c, c2⟩; first | exact h142 c | exact h150 c2 | exact h66 c)])
        · refine b_iload_n (pc := 61) (i := 1) (dd dtX1_weighUp 37 rfl) rfl rfl ?_
          refine b_aload_n (pc := 62) (i := 0) (dd dtX1_weighUp 38 rfl) rfl rfl ?_
          refine b_geti (pc := 63) (dd dtX1_weighUp 39 rfl) fwX1_18 pC_57 ?_
          refine b_icmp_ne (pc := 66) (tgt := 137) (dd dtX1_weighUp 40 rfl) (by decide) (fun h66 => ?_) (fun h66 => ?_)
          · refine b_iload_n (pc := 137) (i := 1) (dd dtX1_weighUp 79 rfl) rfl rfl ?_
            refine b_aload_n (pc := 138) (i := 0) (dd dtX1_weighUp 80 rfl) rfl rfl ?_
            refine b_geti (pc := 139) (dd dtX1_weighUp 81 rfl) fwX1_18 pC_57 ?_
            refine b_icmp_ne (pc := 142) (tgt := 221) (dd dtX1_weighUp 82 rfl) (by decide) (fun h142 => ?_) (fun h142 => ?_)
            · refine b_eq (b_vret (dd dtX1_weighUp 127 rfl) rfl) ?_ ?_
              · rfl
              · unfold wgW
                first
                  | (rw [if_pos (by first | exact Or.inl h50 | exact Or.inr (Or.inl h58) | exact Or.inr (Or.inr ⟨h66, h74⟩))]; unfold wgNew; simp (disch := decide) only [rset_ne, ist_ne, show (0 : Int32).toNatClampNeg = 0 from rfl, show (5 : Int32).toNatClampNeg = 5 from rfl, cpy_fil])
                  | (rw [if_neg (by rintro (c | c | ⟨c, c2⟩); exact h50 c; exact h58 c; first | exact h74 c2 | exact h66 c), if_neg (by rintro ⟨c, c2⟩; first | exact h142 c | exact h150 c2 | exact h66 c)])
            · refine b_iload_n (pc := 145) (i := 2) (dd dtX1_weighUp 83 rfl) rfl rfl ?_
              refine b_aload_n (pc := 146) (i := 0) (dd dtX1_weighUp 84 rfl) rfl rfl ?_
              refine b_geti (pc := 147) (dd dtX1_weighUp 85 rfl) fwX1_21 pC_57 ?_
              refine b_icmp_ne (pc := 150) (tgt := 221) (dd dtX1_weighUp 86 rfl) (by decide) (fun h150 => ?_) (fun h150 => ?_)
              · refine b_eq (b_vret (dd dtX1_weighUp 127 rfl) rfl) ?_ ?_
                · rfl
                · unfold wgW
                  first
                    | (rw [if_pos (by first | exact Or.inl h50 | exact Or.inr (Or.inl h58) | exact Or.inr (Or.inr ⟨h66, h74⟩))]; unfold wgNew; simp (disch := decide) only [rset_ne, ist_ne, show (0 : Int32).toNatClampNeg = 0 from rfl, show (5 : Int32).toNatClampNeg = 5 from rfl, cpy_fil])
                    | (rw [if_neg (by rintro (c | c | ⟨c, c2⟩); exact h50 c; exact h58 c; first | exact h74 c2 | exact h66 c), if_neg (by rintro ⟨c, c2⟩; first | exact h142 c | exact h150 c2 | exact h66 c)])
              · refine b_aload_n (pc := 153) (i := 0) (dd dtX1_weighUp 87 rfl) rfl rfl ?_
                refine b_dup (pc := 154) (dd dtX1_weighUp 88 rfl) rfl ?_
                refine b_geti (pc := 155) (dd dtX1_weighUp 89 rfl) fwX1_15 pC_57 ?_
                refine b_ic1 (pc := 158) (dd dtX1_weighUp 90 rfl) ?_
                refine b_iadd (pc := 159) (dd dtX1_weighUp 91 rfl) ?_
                refine b_puti (pc := 160) (dd dtX1_weighUp 92 rfl) fwX1_15 pC_57 ?_
                refine b_ic0 (pc := 163) (dd dtX1_weighUp 93 rfl) ?_
                refine b_istore_n (pc := 164) (i := 3) (lv' := [(3, _), (2, _), (1, _), (0, _)]) (dd dtX1_weighUp 94 rfl) rfl (Nat.le_of_ble_eq_true rfl) rfl ?_
                refine b_eq (lt_X1_weighUp hz hz2 (h + 1) 0 _ _ (Nat.zero_le _) (by omega) rfl ?_) rfl ?_
                · unfold wgTie; rw [fil_0, fil_0]; rw [show J 59 = ist J 57 1 (J 57 1 + 1) 59 from (ist_ne (by decide)).symm, rset_id, show J 60 = ist J 57 1 (J 57 1 + 1) 60 from (ist_ne (by decide)).symm, rset_id]
                · unfold wgW; rw [if_neg (by rintro (c | c | ⟨c, c2⟩); exact h50 c; exact h58 c; first | exact h74 c2 | exact h66 c), if_pos ⟨h142, h150⟩]
          · refine b_iload_n (pc := 69) (i := 2) (dd dtX1_weighUp 41 rfl) rfl rfl ?_
            refine b_aload_n (pc := 70) (i := 0) (dd dtX1_weighUp 42 rfl) rfl rfl ?_
            refine b_geti (pc := 71) (dd dtX1_weighUp 43 rfl) fwX1_21 pC_57 ?_
            refine b_icmpL_ge (pc := 74) (tgt := 137) (dd dtX1_weighUp 44 rfl) (by decide) (fun h74 => ?_) (fun h74 => ?_)
            · refine b_iload_n (pc := 137) (i := 1) (dd dtX1_weighUp 79 rfl) rfl rfl ?_
              refine b_aload_n (pc := 138) (i := 0) (dd dtX1_weighUp 80 rfl) rfl rfl ?_
              refine b_geti (pc := 139) (dd dtX1_weighUp 81 rfl) fwX1_18 pC_57 ?_
              refine b_icmp_ne (pc := 142) (tgt := 221) (dd dtX1_weighUp 82 rfl) (by decide) (fun h142 => ?_) (fun h142 => ?_)
              · refine b_eq (b_vret (dd dtX1_weighUp 127 rfl) rfl) ?_ ?_
                · rfl
                · unfold wgW
                  first
                    | (rw [if_pos (by first | exact Or.inl h50 | exact Or.inr (Or.inl h58) | exact Or.inr (Or.inr ⟨h66, h74⟩))]; unfold wgNew; simp (disch := decide) only [rset_ne, ist_ne, show (0 : Int32).toNatClampNeg = 0 from rfl, show (5 : Int32).toNatClampNeg = 5 from rfl, cpy_fil])
                    | (rw [if_neg (by rintro (c | c | ⟨c, c2⟩); exact h50 c; exact h58 c; first | exact h74 c2 | exact h66 c), if_neg (by rintro ⟨c, c2⟩; first | exact h142 c | exact h150 c2 | exact h66 c)])
              · refine b_iload_n (pc := 145) (i := 2) (dd dtX1_weighUp 83 rfl) rfl rfl ?_
                refine b_aload_n (pc := 146) (i := 0) (dd dtX1_weighUp 84 rfl) rfl rfl ?_
                refine b_geti (pc := 147) (dd dtX1_weighUp 85 rfl) fwX1_21 pC_57 ?_
                refine b_icmp_ne (pc := 150) (tgt := 221) (dd dtX1_weighUp 86 rfl) (by decide) (fun h150 => ?_) (fun h150 => ?_)
                · refine b_eq (b_vret (dd dtX1_weighUp 127 rfl) rfl) ?_ ?_
                  · rfl
                  · unfold wgW
                    first
                      | (rw [if_pos (by first | exact Or.inl h50 | exact Or.inr (Or.inl h58) | exact Or.inr (Or.inr ⟨h66, h74⟩))]; unfold wgNew; simp (disch := decide) only [rset_ne, ist_ne, show (0 : Int32).toNatClampNeg = 0 from rfl, show (5 : Int32).toNatClampNeg = 5 from rfl, cpy_fil])
                      | (rw [if_neg (by rintro (c | c | ⟨c, c2⟩); exact h50 c; exact h58 c; first | exact h74 c2 | exact h66 c), if_neg (by rintro ⟨c, c2⟩; first | exact h142 c | exact h150 c2 | exact h66 c)])
                · refine b_aload_n (pc := 153) (i := 0) (dd dtX1_weighUp 87 rfl) rfl rfl ?_
                  refine b_dup (pc := 154) (dd dtX1_weighUp 88 rfl) rfl ?_
                  refine b_geti (pc := 155) (dd dtX1_weighUp 89 rfl) fwX1_15 pC_57 ?_
                  refine b_ic1 (pc := 158) (dd dtX1_weighUp 90 rfl) ?_
                  refine b_iadd (pc := 159) (dd dtX1_weighUp 91 rfl) ?_
                  refine b_puti (pc := 160) (dd dtX1_weighUp 92 rfl) fwX1_15 pC_57 ?_
                  refine b_ic0 (pc := 163) (dd dtX1_weighUp 93 rfl) ?_
                  refine b_istore_n (pc := 164) (i := 3) (lv' := [(3, _), (2, _), (1, _), (0, _)]) (dd dtX1_weighUp 94 rfl) rfl (Nat.le_of_ble_eq_true rfl) rfl ?_
                  refine b_eq (lt_X1_weighUp hz hz2 (h + 1) 0 _ _ (Nat.zero_le _) (by omega) rfl ?_) rfl ?_
                  · unfold wgTie; rw [fil_0, fil_0]; rw [show J 59 = ist J 57 1 (J 57 1 + 1) 59 from (ist_ne (by decide)).symm, rset_id, show J 60 = ist J 57 1 (J 57 1 + 1) 60 from (ist_ne (by decide)).symm, rset_id]
                  · unfold wgW; rw [if_neg (by rintro (c | c | ⟨c, c2⟩); exact h50 c; exact h58 c; first | exact h74 c2 | exact h66 c), if_pos ⟨h142, h150⟩]
            · refine b_aload_n (pc := 77) (i := 0) (dd dtX1_weighUp 45 rfl) rfl rfl ?_
              refine b_ic1 (pc := 78) (dd dtX1_weighUp 46 rfl) ?_
              refine b_puti (pc := 79) (dd dtX1_weighUp 47 rfl) fwX1_15 pC_57 ?_
              refine b_aload_n (pc := 82) (i := 0) (dd dtX1_weighUp 48 rfl) rfl rfl ?_
              refine b_iload_n (pc := 83) (i := 1) (dd dtX1_weighUp 49 rfl) rfl rfl ?_
              refine b_puti (pc := 84) (dd dtX1_weighUp 50 rfl) fwX1_18 pC_57 ?_
              refine b_aload_n (pc := 87) (i := 0) (dd dtX1_weighUp 51 rfl) rfl rfl ?_
              refine b_iload_n (pc := 88) (i := 2) (dd dtX1_weighUp 52 rfl) rfl rfl ?_
              refine b_puti (pc := 89) (dd dtX1_weighUp 53 rfl) fwX1_21 pC_57 ?_
              refine b_aload_n (pc := 92) (i := 0) (dd dtX1_weighUp 54 rfl) rfl rfl ?_
              refine b_geta (pc := 93) (dd dtX1_weighUp 55 rfl) fwX1_40 pC_57 rC_57_9 ?_
              refine b_ic0 (pc := 96) (dd dtX1_weighUp 56 rfl) ?_
              refine b_aload_n (pc := 97) (i := 0) (dd dtX1_weighUp 57 rfl) rfl rfl ?_
              refine b_geta (pc := 98) (dd dtX1_weighUp 58 rfl) fwX1_24 pC_57 rC_57_4 ?_
              refine b_ic0 (pc := 101) (dd dtX1_weighUp 59 rfl) ?_
              refine b_ic5 (pc := 102) (dd dtX1_weighUp 60 rfl) ?_
              refine b_copyT (pc := 103) (Or.inl ⟨rfl, rfl⟩) (dd dtX1_weighUp 61 rfl) wlX1_108 pC_63 pC_58 ⟨by decide, by decide, by decide, by decide, by decide, fun _ _ => rfl, Nat.le_of_ble_eq_true rfl⟩ ?_
              refine b_aload_n (pc := 106) (i := 0) (dd dtX1_weighUp 62 rfl) rfl rfl ?_
              refine b_geta (pc := 107) (dd dtX1_weighUp 63 rfl) fwX1_40 pC_57 rC_57_9 ?_
              refine b_ic0 (pc := 110) (dd dtX1_weighUp 64 rfl) ?_
              refine b_aload_n (pc := 111) (i := 0) (dd dtX1_weighUp 65 rfl) rfl rfl ?_
              refine b_geta (pc := 112) (dd dtX1_weighUp 66 rfl) fwX1_28 pC_57 rC_57_5 ?_
              refine b_ic0 (pc := 115) (dd dtX1_weighUp 67 rfl) ?_
              refine b_ic5 (pc := 116) (dd dtX1_weighUp 68 rfl) ?_
              refine b_copyT (pc := 117) (Or.inl ⟨rfl, rfl⟩) (dd dtX1_weighUp 69 rfl) wlX1_108 pC_63 pC_59 ⟨by decide, by decide, by decide, by decide, by decide, fun _ _ => rfl, Nat.le_of_ble_eq_true rfl⟩ ?_
              refine b_aload_n (pc := 120) (i := 0) (dd dtX1_weighUp 70 rfl) rfl rfl ?_
              refine b_geta (pc := 121) (dd dtX1_weighUp 71 rfl) fwX1_40 pC_57 rC_57_9 ?_
              refine b_ic0 (pc := 124) (dd dtX1_weighUp 72 rfl) ?_
              refine b_aload_n (pc := 125) (i := 0) (dd dtX1_weighUp 73 rfl) rfl rfl ?_
              refine b_geta (pc := 126) (dd dtX1_weighUp 74 rfl) fwX1_31 pC_57 rC_57_6 ?_
              refine b_ic0 (pc := 129) (dd dtX1_weighUp 75 rfl) ?_
              refine b_ic5 (pc := 130) (dd dtX1_weighUp 76 rfl) ?_
              refine b_copyT (pc := 131) (Or.inl ⟨rfl, rfl⟩) (dd dtX1_weighUp 77 rfl) wlX1_108 pC_63 pC_60 ⟨by decide, by decide, by decide, by decide, by decide, fun _ _ => rfl, Nat.le_of_ble_eq_true rfl⟩ ?_
              refine b_goto (pc := 134) (tgt := 221) (dd dtX1_weighUp 78 rfl) (by decide) ?_
              refine b_eq (b_vret (dd dtX1_weighUp 127 rfl) rfl) ?_ ?_
              · rfl
              · unfold wgW
                first
                  | (rw [if_pos (by first | exact Or.inl h50 | exact Or.inr (Or.inl h58) | exact Or.inr (Or.inr ⟨h66, h74⟩))]; unfold wgNew; simp (disch := decide) only [rset_ne, ist_ne, show (0 : Int32).toNatClampNeg = 0 from rfl, show (5 : Int32).toNatClampNeg = 5 from rfl, cpy_fil])
                  | (rw [if_neg (by rintro (c | c | ⟨c, c2⟩); exact h50 c; exact h58 c; first | exact h74 c2 | exact h66 c), if_neg (by rintro ⟨c, c2⟩; first | exact h142 c | exact h150 c2 | exact h66 c)])
    · rw [hz] at h11
      have hlt : h < z := lt_n h11 (by omega) (by omega)
      refine b_iload_n (pc := 14) (i := 1) (dd dtX1_weighUp 10 rfl) rfl rfl ?_
      refine b_aload_n (pc := 15) (i := 0) (dd dtX1_weighUp 11 rfl) rfl rfl ?_
      refine b_geta (pc := 16) (dd dtX1_weighUp 12 rfl) fwX1_40 pC_57 rC_57_9 ?_
      refine b_iload_n (pc := 19) (i := 3) (dd dtX1_weighUp 13 rfl) rfl rfl ?_
      refine b_iald (pc := 20) (dd dtX1_weighUp 14 rfl) pC_63 (vpn rfl (show h < 5 by omega) (by decide)) ?_
      refine b_ifL_le (pc := 21) (tgt := 28) (dd dtX1_weighUp 15 rfl) (by decide) (fun h21 => ?_) (fun h21 => ?_)
      · refine b_ic0 (pc := 28) (dd dtX1_weighUp 18 rfl) ?_
        refine b_iadd (pc := 29) (dd dtX1_weighUp 19 rfl) ?_
        refine b_istore_n (pc := 30) (i := 1) (lv' := [(1, _), (3, _), (2, _), (0, _)]) (dd dtX1_weighUp 20 rfl) rfl (Nat.le_of_ble_eq_true rfl) rfl ?_
        refine b_iload_n (pc := 31) (i := 2) (dd dtX1_weighUp 21 rfl) rfl rfl ?_
        refine b_aload_n (pc := 32) (i := 0) (dd dtX1_weighUp 22 rfl) rfl rfl ?_
        refine b_geta (pc := 33) (dd dtX1_weighUp 23 rfl) fwX1_40 pC_57 rC_57_9 ?_
        refine b_iload_n (pc := 36) (i := 3) (dd dtX1_weighUp 24 rfl) rfl rfl ?_
        refine b_iald (pc := 37) (dd dtX1_weighUp 25 rfl) pC_63 (vpn rfl (show h < 5 by omega) (by decide)) ?_
        refine b_iadd (pc := 38) (dd dtX1_weighUp 26 rfl) ?_
        refine b_istore_n (pc := 39) (i := 2) (lv' := [(2, _), (1, _), (3, _), (0, _)]) (dd dtX1_weighUp 27 rfl) rfl (Nat.le_of_ble_eq_true rfl) rfl ?_
        refine b_iinc1 (pc := 40) (i := 3) (lv' := [(3, _), (2, _), (1, _), (0, _)]) (dd dtX1_weighUp 28 rfl) rfl (Nat.le_of_ble_eq_true rfl) rfl ?_
        refine b_goto (pc := 43) (tgt := 6) (dd dtX1_weighUp 29 rfl) (by decide) ?_
        rw [nI_1]
        refine ih (h + 1) _ _ _ hlt (by omega) rfl ?_ ?_
        · simp only [nI_clamp (show h < 2 ^ 31 by omega)]; rfl
        · try simp only [nI_clamp (show h < 2 ^ 31 by omega)] at h21
          simp [sFew, *]
      · refine b_ic1 (pc := 24) (dd dtX1_weighUp 16 rfl) ?_
        refine b_goto (pc := 25) (tgt := 29) (dd dtX1_weighUp 17 rfl) (by decide) ?_
        refine b_iadd (pc := 29) (dd dtX1_weighUp 19 rfl) ?_
        refine b_istore_n (pc := 30) (i := 1) (lv' := [(1, _), (3, _), (2, _), (0, _)]) (dd dtX1_weighUp 20 rfl) rfl (Nat.le_of_ble_eq_true rfl) rfl ?_
        refine b_iload_n (pc := 31) (i := 2) (dd dtX1_weighUp 21 rfl) rfl rfl ?_
        refine b_aload_n (pc := 32) (i := 0) (dd dtX1_weighUp 22 rfl) rfl rfl ?_
        refine b_geta (pc := 33) (dd dtX1_weighUp 23 rfl) fwX1_40 pC_57 rC_57_9 ?_
        refine b_iload_n (pc := 36) (i := 3) (dd dtX1_weighUp 24 rfl) rfl rfl ?_
        refine b_iald (pc := 37) (dd dtX1_weighUp 25 rfl) pC_63 (vpn rfl (show h < 5 by omega) (by decide)) ?_
        refine b_iadd (pc := 38) (dd dtX1_weighUp 26 rfl) ?_
        refine b_istore_n (pc := 39) (i := 2) (lv' := [(2, _), (1, _), (3, _), (0, _)]) (dd dtX1_weighUp 27 rfl) rfl (Nat.le_of_ble_eq_true rfl) rfl ?_
        refine b_iinc1 (pc := 40) (i := 3) (lv' := [(3, _), (2, _), (1, _), (0, _)]) (dd dtX1_weighUp 28 rfl) rfl (Nat.le_of_ble_eq_true rfl) rfl ?_
        refine b_goto (pc := 43) (tgt := 6) (dd dtX1_weighUp 29 rfl) (by decide) ?_
        rw [nI_1]
        refine ih (h + 1) _ _ _ hlt (by omega) rfl ?_ ?_
        · simp only [nI_clamp (show h < 2 ^ 31 by omega)]; rfl
        · try simp only [nI_clamp (show h < 2 ^ 31 by omega)] at h21
          simp [sFew, *]
set_option maxHeartbeats 4000000 in
theorem c_X1_weighUp {J : Wd} {z : Nat} (hz : J 57 0 = nI z) (hz2 : z ≤ 5) : Cal SyC mX1_weighUp 1 [.ref 57] J none (wgW J z) := by
  refine Cal.of (by decide) (Nat.le_of_ble_eq_true rfl) ?_
  show Bd _ _ _ _ [(0, _)] _ _ _ _
  refine b_ic0 (pc := 0) (dd dtX1_weighUp 0 rfl) ?_
  refine b_istore_n (pc := 1) (i := 1) (lv' := [(1, _), (0, _)]) (dd dtX1_weighUp 1 rfl) rfl (Nat.le_of_ble_eq_true rfl) rfl ?_
  refine b_ic0 (pc := 2) (dd dtX1_weighUp 2 rfl) ?_
  refine b_istore_n (pc := 3) (i := 2) (lv' := [(2, _), (1, _), (0, _)]) (dd dtX1_weighUp 3 rfl) rfl (Nat.le_of_ble_eq_true rfl) rfl ?_
  refine b_ic0 (pc := 4) (dd dtX1_weighUp 4 rfl) ?_
  refine b_istore_n (pc := 5) (i := 3) (lv' := [(3, _), (2, _), (1, _), (0, _)]) (dd dtX1_weighUp 5 rfl) rfl (Nat.le_of_ble_eq_true rfl) rfl ?_
  exact l_X1_weighUp hz hz2 (z + 1) 0 _ _ _ (Nat.zero_le _) (by omega) rfl rfl rfl
end
section
def tX1_search : List (Nat × Instr × Nat) := [(0, .aload_n 0, 1), (1, .aload_n 1, 1), (2, .getfield 52, 3), (5, .iconst 5, 1), (6, .invokestatic 57, 3), (9, .putfield 9, 3), (12, .aload_n 0, 1), (13, .iconst 0, 1), (14, .putfield 15, 3), (17, .iconst 0, 1), (18, .istore 5, 2), (20, .iload 5, 2), (22, .aload_n 0, 1), (23, .getfield 9, 3), (26, .if_icmp .ge 51, 3), (29, .aload_n 0, 1), (30, .getfield 34, 3), (33, .iload 5, 2), (35, .aload_n 2, 1), (36, .aload_n 1, 1), (37, .getfield 63, 3), (40, .iload 5, 2), (42, .iaload, 1), (43, .iload 4, 2), (45, .iconst 0, 1), (46, .invokevirtual 66, 3), (49, .iastore, 1), (50, .aload_n 0, 1), (51, .getfield 37, 3), (54, .iload 5, 2), (56, .aload_n 2, 1), (57, .aload_n 1, 1), (58, .getfield 63, 3), (61, .iload 5, 2), (63, .iaload, 1), (64, .iload 4, 2), (66, .iconst 0, 1), (67, .invokevirtual 71, 3), (70, .iastore, 1), (71, .iinc 5 1, 3), (74, .goto (-54), 3), (77, .aload_n 0, 1), (78, .aload_n 1, 1), (79, .aload_n 3, 1), (80, .iload 4, 2), (82, .invokevirtual 74, 3), (85, .iconst 1, 1), (86, .istore 5, 2), (88, .iconst 0, 1), (89, .istore 6, 2), (91, .iload 6, 2), (93, .aload_n 0, 1), (94, .getfield 9, 3), (97, .if_icmp .ge 18, 3), (100, .iload 5, 2), (102, .getstatic 78, 3), (105, .arraylength, 1), (106, .imul, 1), (107, .istore 5, 2), (109, .iinc 6 1, 3), (112, .goto (-21), 3), (115, .iconst 0, 1), (116, .istore 6, 2), (118, .iload 6, 2), (120, .iload 5, 2), (122, .if_icmp .ge 29, 3), (125, .aload_n 0, 1), (126, .iload 6, 2), (128, .invokevirtual 81, 3), (131, .ifCond .eq 14, 3), (134, .aload_n 0, 1), (135, .invokevirtual 85, 3), (138, .ifCond .eq 7, 3), (141, .aload_n 0, 1), (142, .invokevirtual 89, 3), (145, .iinc 6 1, 3), (148, .goto (-30), 3), (151, .return_, 1)]
theorem dtX1_search : dec_ok mX1_search.2.1 tX1_search = true := by decide +kernel
/-- the world behind the last fit: its spans, its needs, then all sizes gone through -/
def fitJ (I : Wd) (K k z L : Nat) (known : Int32) : Wd := gatW (I (k + 1)) z known (spW I K k z known z) L
def fitQ (I : Wd) (K k z L : Nat) (known : Int32) : Nat := (fitJ I K k z L known 57 10).toNatClampNeg
def fitW (I : Wd) (K k z L : Nat) (known : Int32) : Wd := srW z (fitQ I K k z L known) (fitJ I K k z L known) (5 ^ z)
theorem spW_fr {I : Wd} {K k z h a : Nat} {known : Int32} (h1 : a ≠ 57) (h2 : a ≠ 61) (h3 : a ≠ 62) : spW I K k z known h a = I a := by
  unfold spW; rw [rset_ne h3, rset_ne h2, ist_ne h1, ist_ne h1]
theorem spW_57 {I : Wd} {K k z h : Nat} {known : Int32} : spW I K k z known h 57 0 = nI z ∧ spW I K k z known h 57 1 = 0 := by
  unfold spW
  rw [rset_ne (by decide), rset_ne (by decide)]
  exact ⟨by simp [ist_eq, upd_ne, upd_eq], by simp [ist_eq, upd_eq]⟩
theorem fitJ_fr {I : Wd} {K k z L a : Nat} {known : Int32} (h1 : a ≠ 57) (h2 : a ≠ 61) (h3 : a ≠ 62) (h4 : a ≠ 64) (h5 : a ≠ 65) : fitJ I K k z L known a = I a := by
  unfold fitJ; rw [gatW_fr h1 h4 h5, spW_fr h1 h2 h3]
theorem fitJ_57 {I : Wd} {K k z L : Nat} {known : Int32} : fitJ I K k z L known 57 0 = nI z ∧ fitJ I K k z L known 57 1 = 0 ∧ ∃ q, q ≤ L ∧ fitJ I K k z L known 57 10 = nI q := by
  unfold fitJ
  exact ⟨by rw [gatW_0 (by decide)]; exact spW_57.1, by rw [gatW_0 (by decide)]; exact spW_57.2, gatW_n⟩
theorem tk_fr {i r : Nat} {J : Wd} {a : Nat} (h : a ≠ 63) : (tk i r J).2 a = J a := by
  induction i generalizing r J with
  | zero => rfl
  | succ i ih => simp only [tk]; split
                 · exact ist_ne h
                 · split
                   · exact ist_ne h
                   · rw [ih, ist_ne h]
theorem wgW_0 {J : Wd} {z : Nat} : wgW J z 57 0 = J 57 0 ∧ wgW J z 57 10 = J 57 10 := by
  unfold wgW
  split
  · unfold wgNew; simp (disch := decide) only [rset_ne, ist_eq, upd_ne, ne_eq, Nat.reduceEqDiff, not_false_eq_true, and_self]
  · split
    · unfold wgTie; simp (disch := decide) only [rset_ne, ist_eq, upd_ne, ne_eq, Nat.reduceEqDiff, not_false_eq_true, and_self]
    · exact ⟨rfl, rfl⟩
theorem sr1_0 {z q : Nat} {J : Wd} {h : Nat} : sr1 z q J h 57 0 = J 57 0 ∧ sr1 z q J h 57 10 = J 57 10 := by
  unfold sr1
  split
  · split
    · rw [wgW_0.1, wgW_0.2, tk_fr (by decide)]; exact ⟨rfl, rfl⟩
    · rw [tk_fr (by decide)]; exact ⟨rfl, rfl⟩
  · rw [tk_fr (by decide)]; exact ⟨rfl, rfl⟩
theorem srW_0 {z q : Nat} {J : Wd} {h : Nat} : srW z q J h 57 0 = J 57 0 ∧ srW z q J h 57 10 = J 57 10 := by
  induction h with
  | zero => exact ⟨rfl, rfl⟩
  | succ h ih => rw [srW, sr1_0.1, sr1_0.2]; exact ih
theorem mn5 {z : Nat} (h : z ≤ 5) : (if (5 : Int32) < nI z then 5 else nI z) = nI z := if_neg (fun p => Nat.not_lt.mpr h (lt_n (h := 5) (N := z) p (by decide) (by omega)))
theorem pow5 : ∀ z, z ≤ 5 → 5 ^ z ≤ 3125 := by decide +kernel
set_option maxHeartbeats 4000000 in
theorem l3_X1_search {J : Wd} {k z q : Nat} {known : Int32} (hz : J 57 0 = nI z) (hz2 : z ≤ 5) (hq : J 57 10 = nI q) (hq2 : q ≤ 8) : ∀ (n h : Nat) (x6 : Int32) (I2 : Wd), h ≤ 5 ^ z → 5 ^ z < h + n → x6 = nI h → I2 = (srW z q J h) → Bd SyC mX1_search 4 118 [(6, .int x6), (5, .int (nI (5 ^ z))), (0, .ref 57), (1, .ref k), (2, .ref 42), (3, .ref 49), (4, .int known)] [] I2 none (srW z q J (5 ^ z)) := by
  intro n
  induction n with
  | zero => intro h x6 I2 h1 h2; omega
  | succ n ih =>
    intro h x6 I2 h1 h2 e6 eW
    subst e6; subst eW
    have hp := pow5 z hz2
    have g0 : srW z q J h 57 0 = nI z := by rw [srW_0.1]; exact hz
    have g1 : srW z q J h 57 10 = nI q := by rw [srW_0.2]; exact hq
    have g2 : (tk z h (srW z q J h)).2 57 0 = nI z := by rw [tk_fr (by decide)]; exact g0
    have g3 : (tk z h (srW z q J h)).2 57 10 = nI q := by rw [tk_fr (by decide)]; exact g1
    refine b_iload (pc := 118) (i := 6) (dd dtX1_search 63 rfl) rfl ?_
    refine b_iload (pc := 120) (i := 5) (dd dtX1_search 64 rfl) rfl ?_
    refine b_icmpL_ge (pc := 122) (tgt := 151) (dd dtX1_search 65 rfl) (by decide) (fun h122 => ?_) (fun h122 => ?_)
    · have he : h = 5 ^ z := Nat.le_antisymm h1 (ge_n h122 (by omega))
      subst he
      exact b_eq (b_vret (dd dtX1_search 77 rfl) rfl) rfl rfl
    · have hlt : h < 5 ^ z := lt_n h122 (by omega) (by omega)
      refine b_aload_n (pc := 125) (i := 0) (dd dtX1_search 66 rfl) rfl rfl ?_
      refine b_iload (pc := 126) (i := 6) (dd dtX1_search 67 rfl) rfl ?_
      refine b_invV (pc := 128) (dd dtX1_search 68 rfl) mlX1_81 mvX1_takeSizes miX1_takeSizes (c_X1_takeSizes g0 hz2 (by omega)) oC_57 rfl rfl (by decide) (Nat.le_of_ble_eq_true rfl) ?_
      refine b_ifb_eq (pc := 131) (tgt := 145) (dd dtX1_search 69 rfl) (by decide) (fun h131 => ?_) (fun h131 => ?_)
      · refine b_iinc1 (pc := 145) (i := 6) (lv' := [(6, _), (5, _), (0, _), (1, _), (2, _), (3, _), (4, _)]) (dd dtX1_search 75 rfl) rfl (Nat.le_of_ble_eq_true rfl) rfl ?_
        refine b_goto (pc := 148) (tgt := 118) (dd dtX1_search 76 rfl) (by decide) ?_
        rw [nI_1]
        refine ih (h + 1) _ _ hlt (by omega) rfl ?_
        · rw [srW]; unfold sr1
          first
            | rw [if_neg h131]
            | (rw [if_pos h131]; first | rw [if_neg h138] | rw [if_pos h138])
      · refine b_aload_n (pc := 134) (i := 0) (dd dtX1_search 70 rfl) rfl rfl ?_
        refine b_invV (pc := 135) (dd dtX1_search 71 rfl) mlX1_85 mvX1_meetsNeeds miX1_meetsNeeds (c_X1_meetsNeeds g2 hz2 g3 hq2) oC_57 rfl rfl (by decide) (Nat.le_of_ble_eq_true rfl) ?_
        refine b_ifb_eq (pc := 138) (tgt := 145) (dd dtX1_search 72 rfl) (by decide) (fun h138 => ?_) (fun h138 => ?_)
        · refine b_iinc1 (pc := 145) (i := 6) (lv' := [(6, _), (5, _), (0, _), (1, _), (2, _), (3, _), (4, _)]) (dd dtX1_search 75 rfl) rfl (Nat.le_of_ble_eq_true rfl) rfl ?_
          refine b_goto (pc := 148) (tgt := 118) (dd dtX1_search 76 rfl) (by decide) ?_
          rw [nI_1]
          refine ih (h + 1) _ _ hlt (by omega) rfl ?_
          · rw [srW]; unfold sr1
            first
              | rw [if_neg h131]
              | (rw [if_pos h131]; first | rw [if_neg h138] | rw [if_pos h138])
        · refine b_aload_n (pc := 141) (i := 0) (dd dtX1_search 73 rfl) rfl rfl ?_
          refine b_invV (pc := 142) (dd dtX1_search 74 rfl) mlX1_89 mvX1_weighUp miX1_weighUp (c_X1_weighUp g2 hz2) oC_57 rfl rfl (by decide) (Nat.le_of_ble_eq_true rfl) ?_
          refine b_iinc1 (pc := 145) (i := 6) (lv' := [(6, _), (5, _), (0, _), (1, _), (2, _), (3, _), (4, _)]) (dd dtX1_search 75 rfl) rfl (Nat.le_of_ble_eq_true rfl) rfl ?_
          refine b_goto (pc := 148) (tgt := 118) (dd dtX1_search 76 rfl) (by decide) ?_
          rw [nI_1]
          refine ih (h + 1) _ _ hlt (by omega) rfl ?_
          · rw [srW]; unfold sr1
            first
              | rw [if_neg h131]
              | (rw [if_pos h131]; first | rw [if_neg h138] | rw [if_pos h138])
set_option maxHeartbeats 4000000 in
theorem l2_X1_search {J : Wd} {k z q : Nat} {known : Int32} (hz : J 57 0 = nI z) (hz2 : z ≤ 5) (hq : J 57 10 = nI q) (hq2 : q ≤ 8) : ∀ (n h : Nat) (x6 : Int32) (x5 : Int32), h ≤ z → z < h + n → x6 = nI h → x5 = nI (5 ^ h) → Bd SyC mX1_search 4 91 [(6, .int x6), (5, .int x5), (0, .ref 57), (1, .ref k), (2, .ref 42), (3, .ref 49), (4, .int known)] [] J none (srW z q J (5 ^ z)) := by
  intro n
  induction n with
  | zero => intro h x6 x5 h1 h2; omega
  | succ n ih =>
    intro h x6 x5 h1 h2 e6 e5
    subst e6; subst e5
    refine b_iload (pc := 91) (i := 6) (dd dtX1_search 50 rfl) rfl ?_
    refine b_aload_n (pc := 93) (i := 0) (dd dtX1_search 51 rfl) rfl rfl ?_
    refine b_geti (pc := 94) (dd dtX1_search 52 rfl) fwX1_9 pC_57 ?_
    refine b_icmpL_ge (pc := 97) (tgt := 115) (dd dtX1_search 53 rfl) (by decide) (fun h97 => ?_) (fun h97 => ?_)
    · rw [hz] at h97
      have he : h = z := Nat.le_antisymm h1 (ge_n h97 (by omega))
      subst he
      refine b_ic0 (pc := 115) (dd dtX1_search 61 rfl) ?_
      refine b_istore (pc := 116) (i := 6) (lv' := [(6, _), (5, _), (0, _), (1, _), (2, _), (3, _), (4, _)]) (dd dtX1_search 62 rfl) (Nat.le_of_ble_eq_true rfl) rfl ?_
      exact l3_X1_search hz hz2 hq hq2 (5 ^ h + 1) 0 _ _ (Nat.zero_le _) (by omega) rfl rfl
    · rw [hz] at h97
      have hlt : h < z := lt_n h97 (by omega) (by omega)
      refine b_iload (pc := 100) (i := 5) (dd dtX1_search 54 rfl) rfl ?_
      refine b_gets3 (pc := 102) (dd dtX1_search 55 rfl) fsX1_78 ?_
      refine b_tlen3 (pc := 105) (v := 5) (dd dtX1_search 56 rfl) rfl ?_
      refine b_imul (pc := 106) (dd dtX1_search 57 rfl) ?_
      refine b_istore (pc := 107) (i := 5) (lv' := [(5, _), (6, _), (0, _), (1, _), (2, _), (3, _), (4, _)]) (dd dtX1_search 58 rfl) (Nat.le_of_ble_eq_true rfl) rfl ?_
      refine b_iinc1 (pc := 109) (i := 6) (lv' := [(6, _), (5, _), (0, _), (1, _), (2, _), (3, _), (4, _)]) (dd dtX1_search 59 rfl) rfl (Nat.le_of_ble_eq_true rfl) rfl ?_
      refine b_goto (pc := 112) (tgt := 91) (dd dtX1_search 60 rfl) (by decide) ?_
      rw [nI_1]
      refine ih (h + 1) _ _ hlt (by omega) rfl ?_
      · rw [Nat.pow_succ]; exact pk_mul _ 5
set_option maxHeartbeats 4000000 in
theorem l1_X1_search {I : Wd} {k z K L : Nat} {known : Int32} (hk : isS k) (hz : I k 1 = nI z) (hz2 : z ≤ 5) (hK : I 42 0 = nI K) (hK2 : K ≤ 30) (hL : I 49 0 = nI L) (hL2 : L ≤ 8) : ∀ (n h : Nat) (x5 : Int32) (I2 : Wd), h ≤ z → z < h + n → x5 = nI h → I2 = (spW I K k z known h) → Bd SyC mX1_search 4 20 [(5, .int x5), (0, .ref 57), (1, .ref k), (2, .ref 42), (3, .ref 49), (4, .int known)] [] I2 none (fitW I K k z L known) := by
  intro n
  induction n with
  | zero => intro h x5 I2 h1 h2; omega
  | succ n ih =>
    intro h x5 I2 h1 h2 e5 eW
    subst e5; subst eW
    have hkk : k ≠ 57 ∧ k ≠ 61 ∧ k ≠ 62 ∧ k + 1 ≠ 57 ∧ k + 1 ≠ 61 ∧ k + 1 ≠ 62 ∧ k + 1 ≠ 64 ∧ k + 1 ≠ 65 := by unfold isS at hk; omega
    have fk1 : spW I K k z known h (k + 1) = I (k + 1) := spW_fr hkk.2.2.2.1 hkk.2.2.2.2.1 hkk.2.2.2.2.2.1
    have f42 : spW I K k z known h 42 = I 42 := spW_fr (by decide) (by decide) (by decide)
    have f43 : spW I K k z known h 43 = I 43 := spW_fr (by decide) (by decide) (by decide)
    have f44 : spW I K k z known h 44 = I 44 := spW_fr (by decide) (by decide) (by decide)
    have f45 : spW I K k z known h 45 = I 45 := spW_fr (by decide) (by decide) (by decide)
    have f46 : spW I K k z known h 46 = I 46 := spW_fr (by decide) (by decide) (by decide)
    have f47 : spW I K k z known h 47 = I 47 := spW_fr (by decide) (by decide) (by decide)
    have f48 : spW I K k z known h 48 = I 48 := spW_fr (by decide) (by decide) (by decide)
    refine b_iload (pc := 20) (i := 5) (dd dtX1_search 11 rfl) rfl ?_
    refine b_aload_n (pc := 22) (i := 0) (dd dtX1_search 12 rfl) rfl rfl ?_
    refine b_geti (pc := 23) (dd dtX1_search 13 rfl) fwX1_9 pC_57 ?_
    refine b_icmpL_ge (pc := 26) (tgt := 77) (dd dtX1_search 14 rfl) (by decide) (fun h26 => ?_) (fun h26 => ?_)
    · rw [spW_57.1] at h26
      have he : h = z := Nat.le_antisymm h1 (ge_n h26 (by omega))
      subst he
      refine b_aload_n (pc := 77) (i := 0) (dd dtX1_search 41 rfl) rfl rfl ?_
      refine b_aload_n (pc := 78) (i := 1) (dd dtX1_search 42 rfl) rfl rfl ?_
      refine b_aload_n (pc := 79) (i := 3) (dd dtX1_search 43 rfl) rfl rfl ?_
      refine b_iload (pc := 80) (i := 4) (dd dtX1_search 44 rfl) rfl ?_
      refine b_invV (pc := 82) (dd dtX1_search 45 rfl) mlX1_74 mvX1_gatherNeeds miX1_gatherNeeds (c_X1_gatherNeeds hk spW_57.1 hz2 (by rw [spW_fr (by decide) (by decide) (by decide)]; exact hL) hL2) oC_57 rfl rfl (by decide) (Nat.le_of_ble_eq_true rfl) ?_
      refine b_ic1 (pc := 85) (dd dtX1_search 46 rfl) ?_
      refine b_istore (pc := 86) (i := 5) (lv' := [(5, _), (0, _), (1, _), (2, _), (3, _), (4, _)]) (dd dtX1_search 47 rfl) (Nat.le_of_ble_eq_true rfl) rfl ?_
      refine b_ic0 (pc := 88) (dd dtX1_search 48 rfl) ?_
      refine b_istore (pc := 89) (i := 6) (lv' := [(6, _), (5, _), (0, _), (1, _), (2, _), (3, _), (4, _)]) (dd dtX1_search 49 rfl) (Nat.le_of_ble_eq_true rfl) rfl ?_
      rw [fk1]
      obtain ⟨q, hq1, hq2⟩ := (fitJ_57 (I := I) (K := K) (k := k) (z := h) (L := L) (known := known)).2.2
      have hqq : fitQ I K k h L known = q := by unfold fitQ; rw [hq2]; exact nI_clamp (by omega)
      unfold fitW
      rw [hqq]
      exact l2_X1_search (J := fitJ I K k h L known) fitJ_57.1 hz2 hq2 (by omega) (h + 1) 0 _ _ (Nat.zero_le _) (by omega) rfl rfl
    · rw [spW_57.1] at h26
      have hlt : h < z := lt_n h26 (by omega) (by omega)
      refine b_aload_n (pc := 29) (i := 0) (dd dtX1_search 15 rfl) rfl rfl ?_
      refine b_geta (pc := 30) (dd dtX1_search 16 rfl) fwX1_34 pC_57 rC_57_7 ?_
      refine b_iload (pc := 33) (i := 5) (dd dtX1_search 17 rfl) rfl ?_
      refine b_aload_n (pc := 35) (i := 2) (dd dtX1_search 18 rfl) rfl rfl ?_
      refine b_aload_n (pc := 36) (i := 1) (dd dtX1_search 19 rfl) rfl rfl ?_
      refine b_geta (pc := 37) (dd dtX1_search 20 rfl) fwX1_63 (pS_0 hk) (rS_2 hk) ?_
      refine b_iload (pc := 40) (i := 5) (dd dtX1_search 21 rfl) rfl ?_
      refine b_iald (pc := 42) (dd dtX1_search 22 rfl) (pS_1 hk) (vpn rfl (show h < 40 by omega) (by decide)) ?_
      refine b_iload (pc := 43) (i := 4) (dd dtX1_search 23 rfl) rfl ?_
      refine b_ic0 (pc := 45) (dd dtX1_search 24 rfl) ?_
      refine b_invV (pc := 46) (dd dtX1_search 25 rfl) mlX1_66 mvX6_least miX6_least (c_X6_least (by rw [f42]; exact hK) hK2) oC_42 rfl rfl (by decide) (Nat.le_of_ble_eq_true rfl) ?_
      refine b_iast (pc := 49) (dd dtX1_search 26 rfl) pC_61 (vpn rfl (show h < 5 by omega) (by decide)) ?_
      refine b_aload_n (pc := 50) (i := 0) (dd dtX1_search 27 rfl) rfl rfl ?_
      refine b_geta (pc := 51) (dd dtX1_search 28 rfl) fwX1_37 pC_57 rC_57_8 ?_
      refine b_iload (pc := 54) (i := 5) (dd dtX1_search 29 rfl) rfl ?_
      refine b_aload_n (pc := 56) (i := 2) (dd dtX1_search 30 rfl) rfl rfl ?_
      refine b_aload_n (pc := 57) (i := 1) (dd dtX1_search 31 rfl) rfl rfl ?_
      refine b_geta (pc := 58) (dd dtX1_search 32 rfl) fwX1_63 (pS_0 hk) (rS_2 hk) ?_
      refine b_iload (pc := 61) (i := 5) (dd dtX1_search 33 rfl) rfl ?_
      refine b_iald (pc := 63) (dd dtX1_search 34 rfl) (pS_1 hk) (vpn rfl (show h < 40 by omega) (by decide)) ?_
      refine b_iload (pc := 64) (i := 4) (dd dtX1_search 35 rfl) rfl ?_
      refine b_ic0 (pc := 66) (dd dtX1_search 36 rfl) ?_
      refine b_invV (pc := 67) (dd dtX1_search 37 rfl) mlX1_71 mvX6_most miX6_most (c_X6_most (by rw [ist_ne (by decide), f42]; exact hK) hK2) oC_42 rfl rfl (by decide) (Nat.le_of_ble_eq_true rfl) ?_
      refine b_iast (pc := 70) (dd dtX1_search 38 rfl) pC_62 (vpn rfl (show h < 5 by omega) (by decide)) ?_
      refine b_iinc1 (pc := 71) (i := 5) (lv' := [(5, _), (0, _), (1, _), (2, _), (3, _), (4, _)]) (dd dtX1_search 39 rfl) rfl (Nat.le_of_ble_eq_true rfl) rfl ?_
      refine b_goto (pc := 74) (tgt := 20) (dd dtX1_search 40 rfl) (by decide) ?_
      rw [nI_1]
      refine ih (h + 1) _ _ hlt (by omega) rfl ?_
      · simp only [nI_clamp (show h < 2 ^ 31 by omega), fk1, f43, f44, f45, f46, f47, f48, ist_ne (show (43 : Nat) ≠ 61 by decide), ist_ne (show (44 : Nat) ≠ 61 by decide), ist_ne (show (45 : Nat) ≠ 61 by decide), ist_ne (show (46 : Nat) ≠ 61 by decide), ist_ne (show (47 : Nat) ≠ 61 by decide), ist_ne (show (48 : Nat) ≠ 61 by decide), ist_ne hkk.2.2.2.2.1]
        unfold spW
        rw [rset_comm (show (61 : Nat) ≠ 62 by decide), ist_rset, rset_comm (show (62 : Nat) ≠ 61 by decide), ist_rset]
        exact congr (congrArg (fun a b => rset (rset (ist (ist I 57 0 (nI z)) 57 1 0) 61 a) 62 b) (fil_s rfl)) (fil_s rfl)
set_option maxHeartbeats 4000000 in
theorem c_X1_search {I : Wd} {k z K L : Nat} {known : Int32} (hk : isS k) (hz : I k 1 = nI z) (hz2 : z ≤ 5) (hK : I 42 0 = nI K) (hK2 : K ≤ 30) (hL : I 49 0 = nI L) (hL2 : L ≤ 8) : Cal SyC mX1_search 4 [.ref 57, .ref k, .ref 42, .ref 49, .int known] I none (fitW I K k z L known) := by
  refine Cal.of (by decide) (Nat.le_of_ble_eq_true rfl) ?_
  show Bd _ _ _ _ [(0, _), (1, _), (2, _), (3, _), (4, _)] _ _ _ _
  refine b_aload_n (pc := 0) (i := 0) (dd dtX1_search 0 rfl) rfl rfl ?_
  refine b_aload_n (pc := 1) (i := 1) (dd dtX1_search 1 rfl) rfl rfl ?_
  refine b_geti (pc := 2) (dd dtX1_search 2 rfl) fwX1_52 (pS_0 hk) ?_
  refine b_ic5 (pc := 5) (dd dtX1_search 3 rfl) ?_
  refine b_mmin (pc := 6) (dd dtX1_search 4 rfl) wlX1_57 (Nat.le_of_ble_eq_true rfl) ?_
  rw [show (if (5 : Int32) < I k 1 then 5 else I k 1) = nI z by rw [hz]; exact mn5 hz2]
  refine b_puti (pc := 9) (dd dtX1_search 5 rfl) fwX1_9 pC_57 ?_
  refine b_aload_n (pc := 12) (i := 0) (dd dtX1_search 6 rfl) rfl rfl ?_
  refine b_ic0 (pc := 13) (dd dtX1_search 7 rfl) ?_
  refine b_puti (pc := 14) (dd dtX1_search 8 rfl) fwX1_15 pC_57 ?_
  refine b_ic0 (pc := 17) (dd dtX1_search 9 rfl) ?_
  refine b_istore (pc := 18) (i := 5) (lv' := [(5, _), (0, _), (1, _), (2, _), (3, _), (4, _)]) (dd dtX1_search 10 rfl) (Nat.le_of_ble_eq_true rfl) rfl ?_
  exact l1_X1_search hk hz hz2 hK hK2 hL hL2 (z + 1) 0 _ _ (Nat.zero_le _) (by omega) rfl (by unfold spW; rw [fil_0, fil_0]; rw [show I 61 = ist (ist I 57 0 (nI z)) 57 1 0 61 by rw [ist_ne (by decide), ist_ne (by decide)], rset_id, show I 62 = ist (ist I 57 0 (nI z)) 57 1 0 62 by rw [ist_ne (by decide), ist_ne (by decide)], rset_id])
abbrev okFit (ms : Prop) (nums : Nat → Int32) (z : Nat) (month s known : Int32) : Prop := inR s 0 3 ∧ ¬ ms ∧ inR (nI z) 1 5 ∧ inR known 0 month ∧ ucP nums z
def vFit (ms : Prop) [Decidable ms] (nums : Nat → Int32) (z : Nat) (month s known r f : Int32) : Int32 := if inR s 0 3 then (if ms then -11 else if inR (nI z) 1 5 ∧ inR known 0 month ∧ ucP nums z then (if 0 < r then f else -3) else -2) else -1
theorem le5 {z : Nat} (h : inR (nI z) 1 5) (hz : z ≤ 40) : z ≤ 5 := ge_n (h := 5) (N := z) (h.2) (by omega)
def tX10_fit : List (Nat × Instr × Nat) := [(0, .iload_n 1, 1), (1, .invokestatic 208, 3), (4, .ifCond .ne 5, 3), (7, .iconst (-1), 1), (8, .ireturn, 1), (9, .aload_n 0, 1), (10, .getfield 70, 3), (13, .iload_n 1, 1), (14, .aaload, 1), (15, .astore_n 3, 1), (16, .aload_n 3, 1), (17, .invokevirtual 211, 3), (20, .ifCond .eq 6, 3), (23, .bipush (-11), 2), (25, .ireturn, 1), (26, .aload_n 3, 1), (27, .getfield 214, 3), (30, .iconst 1, 1), (31, .iconst 5, 1), (32, .invokestatic 97, 3), (35, .ifCond .eq 18, 3), (38, .aload_n 0, 1), (39, .iload_n 2, 1), (40, .invokevirtual 172, 3), (43, .ifCond .eq 10, 3), (46, .aload_n 3, 1), (47, .invokestatic 215, 3), (50, .ifCond .ne 6, 3), (53, .bipush (-2), 2), (55, .ireturn, 1), (56, .aload_n 0, 1), (57, .getfield 57, 3), (60, .aload_n 3, 1), (61, .aload_n 0, 1), (62, .getfield 38, 3), (65, .aload_n 0, 1), (66, .getfield 47, 3), (69, .iload_n 2, 1), (70, .invokevirtual 219, 3), (73, .aload_n 0, 1), (74, .getfield 57, 3), (77, .getfield 223, 3), (80, .ifCond .le 13, 3), (83, .aload_n 0, 1), (84, .getfield 57, 3), (87, .getfield 226, 3), (90, .goto 5, 3), (93, .bipush (-3), 2), (95, .ireturn, 1)]
theorem dtX10_fit : dec_ok mX10_fit.2.1 tX10_fit = true := by decide +kernel
set_option maxHeartbeats 4000000 in
theorem c_X10_fit {I : Wd} {K L z : Nat} {s known : Int32} (hK : I 42 0 = nI K) (hK2 : K ≤ 30) (hL : I 49 0 = nI L) (hL2 : L ≤ 8) (hz0 : inR s 0 3 → I (kS s) 1 = nI z ∧ z ≤ 40) : Cal SyC mX10_fit 5 [.ref 0, .int s, .int known] I (some (.int (vFit (I (kS s) 0 = -1) (I (kS s + 1)) z (I 6 1) s known (fitW I K (kS s) z L known 57 1) (fitW I K (kS s) z L known 57 2)))) (if okFit (I (kS s) 0 = -1) (I (kS s + 1)) z (I 6 1) s known then fitW I K (kS s) z L known else I) := by
  refine Cal.of (by decide) (Nat.le_of_ble_eq_true rfl) ?_
  show Bd _ _ _ _ [(0, _), (1, _), (2, _)] _ _ _ _
  refine b_iload_n (pc := 0) (i := 1) (dd dtX10_fit 0 rfl) rfl rfl ?_
  refine b_invS (pc := 1) (dd dtX10_fit 1 rfl) mlX10_208 mvX10_isSheet msX10_isSheet (c_X10_isSheet) rfl rfl (by decide) (Nat.le_of_ble_eq_true rfl) ?_
  refine b_ifb_ne (pc := 4) (tgt := 9) (dd dtX10_fit 2 rfl) (by decide) (fun h4 => ?_) (fun h4 => ?_)
  · obtain ⟨hz, hz2⟩ := hz0 h4
    clear hz0
    refine b_aload_n (pc := 9) (i := 0) (dd dtX10_fit 5 rfl) rfl rfl ?_
    refine b_geta (pc := 10) (dd dtX10_fit 6 rfl) fwX10_70 pC_0 rC_0_10 ?_
    refine b_iload_n (pc := 13) (i := 1) (dd dtX10_fit 7 rfl) rfl rfl ?_
    refine b_aald (pc := 14) (q := kS s) (dd dtX10_fit 8 rfl) pC_98 (by decide) ((sheet_k h4).2.1) ((sheet_k h4).2.2) ?_
    refine b_astore_n (pc := 15) (i := 3) (lv' := [(3, _), (0, _), (1, _), (2, _)]) (dd dtX10_fit 9 rfl) rfl (Nat.le_of_ble_eq_true rfl) rfl ?_
    refine b_aload_n (pc := 16) (i := 3) (dd dtX10_fit 10 rfl) rfl rfl ?_
    refine b_invV (pc := 17) (dd dtX10_fit 11 rfl) mlX10_211 mvX5_isMissing miX5_isMissing (c_X5_isMissing (sheet_k h4).1) (oS (sheet_k h4).1) rfl rfl (by decide) (Nat.le_of_ble_eq_true rfl) ?_
    refine b_ifb_eq (pc := 20) (tgt := 26) (dd dtX10_fit 12 rfl) (by decide) (fun h20 => ?_) (fun h20 => ?_)
    · refine b_aload_n (pc := 26) (i := 3) (dd dtX10_fit 15 rfl) rfl rfl ?_
      refine b_geti (pc := 27) (dd dtX10_fit 16 rfl) fwX10_214 (pS_0 (sheet_k h4).1) ?_
      refine b_ic1 (pc := 30) (dd dtX10_fit 17 rfl) ?_
      refine b_ic5 (pc := 31) (dd dtX10_fit 18 rfl) ?_
      rw [hz]
      refine b_invS (pc := 32) (dd dtX10_fit 19 rfl) mlX10_97 mvX10_within msX10_within (c_X10_within) rfl rfl (by decide) (Nat.le_of_ble_eq_true rfl) ?_
      refine b_ifb_eq (pc := 35) (tgt := 53) (dd dtX10_fit 20 rfl) (by decide) (fun h35 => ?_) (fun h35 => ?_)
      · refine b_bipush (pc := 53) (v := -2) (dd dtX10_fit 28 rfl) (by decide) ?_
        refine b_eq (b_iret (dd dtX10_fit 29 rfl) rfl) ?_ ?_
        · unfold vFit; rw [if_pos h4, if_neg h20, if_neg]; rintro ⟨q1, q2, q3⟩; first | exact h35 q1 | exact h43 q2 | exact h50 q3
        · rw [if_neg]; rintro ⟨q0, q9, q1, q2, q3⟩; first | exact h35 q1 | exact h43 q2 | exact h50 q3
      · refine b_aload_n (pc := 38) (i := 0) (dd dtX10_fit 21 rfl) rfl rfl ?_
        refine b_iload_n (pc := 39) (i := 2) (dd dtX10_fit 22 rfl) rfl rfl ?_
        refine b_invV (pc := 40) (dd dtX10_fit 23 rfl) mlX10_172 mvX10_isKnown miX10_isKnown (c_X10_isKnown) oC_0 rfl rfl (by decide) (Nat.le_of_ble_eq_true rfl) ?_
        refine b_ifb_eq (pc := 43) (tgt := 53) (dd dtX10_fit 24 rfl) (by decide) (fun h43 => ?_) (fun h43 => ?_)
        · refine b_bipush (pc := 53) (v := -2) (dd dtX10_fit 28 rfl) (by decide) ?_
          refine b_eq (b_iret (dd dtX10_fit 29 rfl) rfl) ?_ ?_
          · unfold vFit; rw [if_pos h4, if_neg h20, if_neg]; rintro ⟨q1, q2, q3⟩; first | exact h35 q1 | exact h43 q2 | exact h50 q3
          · rw [if_neg]; rintro ⟨q0, q9, q1, q2, q3⟩; first | exact h35 q1 | exact h43 q2 | exact h50 q3
        · refine b_aload_n (pc := 46) (i := 3) (dd dtX10_fit 25 rfl) rfl rfl ?_
          refine b_invS (pc := 47) (dd dtX10_fit 26 rfl) mlX10_215 mvX10_holdsUnlikeCells msX10_holdsUnlikeCells (c_X10_holdsUnlikeCells (sheet_k h4).1 hz hz2) rfl rfl (by decide) (Nat.le_of_ble_eq_true rfl) ?_
          refine b_ifb_ne (pc := 50) (tgt := 56) (dd dtX10_fit 27 rfl) (by decide) (fun h50 => ?_) (fun h50 => ?_)
          · refine b_aload_n (pc := 56) (i := 0) (dd dtX10_fit 30 rfl) rfl rfl ?_
            refine b_geta (pc := 57) (dd dtX10_fit 31 rfl) fwX10_57 pC_0 rC_0_8 ?_
            refine b_aload_n (pc := 60) (i := 3) (dd dtX10_fit 32 rfl) rfl rfl ?_
            refine b_aload_n (pc := 61) (i := 0) (dd dtX10_fit 33 rfl) rfl rfl ?_
            refine b_geta (pc := 62) (dd dtX10_fit 34 rfl) fwX10_38 pC_0 rC_0_5 ?_
            refine b_aload_n (pc := 65) (i := 0) (dd dtX10_fit 35 rfl) rfl rfl ?_
            refine b_geta (pc := 66) (dd dtX10_fit 36 rfl) fwX10_47 pC_0 rC_0_6 ?_
            refine b_iload_n (pc := 69) (i := 2) (dd dtX10_fit 37 rfl) rfl rfl ?_
            refine b_invV (pc := 70) (dd dtX10_fit 38 rfl) mlX10_219 mvX1_search miX1_search (c_X1_search (sheet_k h4).1 hz (le5 h35 hz2) hK hK2 hL hL2) oC_57 rfl rfl (by decide) (Nat.le_of_ble_eq_true rfl) ?_
            refine b_aload_n (pc := 73) (i := 0) (dd dtX10_fit 39 rfl) rfl rfl ?_
            refine b_geta (pc := 74) (dd dtX10_fit 40 rfl) fwX10_57 pC_0 rC_0_8 ?_
            refine b_geti (pc := 77) (dd dtX10_fit 41 rfl) fwX10_223 pC_57 ?_
            refine b_ifL_le (pc := 80) (tgt := 93) (dd dtX10_fit 42 rfl) (by decide) (fun h80 => ?_) (fun h80 => ?_)
            · refine b_bipush (pc := 93) (v := -3) (dd dtX10_fit 47 rfl) (by decide) ?_
              refine b_eq (b_iret (dd dtX10_fit 48 rfl) rfl) ?_ ?_
              · unfold vFit; rw [if_pos h4, if_neg h20, if_pos ⟨h35, h43, h50⟩]; first | rw [if_pos h80] | rw [if_neg h80]
              · rw [if_pos ⟨h4, h20, h35, h43, h50⟩]
            · refine b_aload_n (pc := 83) (i := 0) (dd dtX10_fit 43 rfl) rfl rfl ?_
              refine b_geta (pc := 84) (dd dtX10_fit 44 rfl) fwX10_57 pC_0 rC_0_8 ?_
              refine b_geti (pc := 87) (dd dtX10_fit 45 rfl) fwX10_226 pC_57 ?_
              refine b_goto (pc := 90) (tgt := 95) (dd dtX10_fit 46 rfl) (by decide) ?_
              refine b_eq (b_iret (dd dtX10_fit 48 rfl) rfl) ?_ ?_
              · unfold vFit; rw [if_pos h4, if_neg h20, if_pos ⟨h35, h43, h50⟩]; first | rw [if_pos h80] | rw [if_neg h80]
              · rw [if_pos ⟨h4, h20, h35, h43, h50⟩]
          · refine b_bipush (pc := 53) (v := -2) (dd dtX10_fit 28 rfl) (by decide) ?_
            refine b_eq (b_iret (dd dtX10_fit 29 rfl) rfl) ?_ ?_
            · unfold vFit; rw [if_pos h4, if_neg h20, if_neg]; rintro ⟨q1, q2, q3⟩; first | exact h35 q1 | exact h43 q2 | exact h50 q3
            · rw [if_neg]; rintro ⟨q0, q9, q1, q2, q3⟩; first | exact h35 q1 | exact h43 q2 | exact h50 q3
    · refine b_bipush (pc := 23) (v := -11) (dd dtX10_fit 13 rfl) (by decide) ?_
      refine b_eq (b_iret (dd dtX10_fit 14 rfl) rfl) ?_ ?_
      · unfold vFit; rw [if_pos h4, if_pos h20]
      · rw [if_neg (fun q => q.2.1 h20)]
  · refine b_icm1 (pc := 7) (dd dtX10_fit 3 rfl) ?_
    refine b_eq (b_iret (dd dtX10_fit 4 rfl) rfl) ?_ ?_
    · unfold vFit; rw [if_neg h4]
    · rw [if_neg (fun q => h4 q.1)]
end
