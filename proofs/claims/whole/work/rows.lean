section
-- ===== PART A: goes FIRST, ahead of the names: the tables' words, and 'selects' of the private methods out of them =====
/-- a private method of a class that the tables say can be made, by its rows of tables_1 -/
def lw_okq (q : MethodName × Nat) : Prop := (q.1.cls ≠ "java/lang/invoke/MethodHandle" ∧ q.1.cls ≠ "java/lang/invoke/VarHandle") ∧ Cond.instantiable q.1.cls q.2 ∈ tables_1 ∧ Cond.privateMethod q.1 ∈ tables_1 ∧ Cond.instanceMethod q.1 ∈ tables_1
theorem lw_p0 : lw_okq (⟨"HollowShire$Tape", "tellKind", "(I)V"⟩, 7) := ⟨⟨by decide +kernel, by decide +kernel⟩, List.mem_of_getElem? (i := 259) (by decide +kernel), List.mem_of_getElem? (i := 456) (by decide +kernel), List.mem_of_getElem? (i := 457) (by decide +kernel)⟩
theorem lw_p1 : lw_okq (⟨"HollowShire$Tape", "tellWord", "(I)V"⟩, 7) := ⟨⟨by decide +kernel, by decide +kernel⟩, List.mem_of_getElem? (i := 259) (by decide +kernel), List.mem_of_getElem? (i := 460) (by decide +kernel), List.mem_of_getElem? (i := 461) (by decide +kernel)⟩
theorem lw_p2 : lw_okq (⟨"HollowShire$Tape", "spells", "(ILjava/lang/String;)Z"⟩, 7) := ⟨⟨by decide +kernel, by decide +kernel⟩, List.mem_of_getElem? (i := 259) (by decide +kernel), List.mem_of_getElem? (i := 481) (by decide +kernel), List.mem_of_getElem? (i := 482) (by decide +kernel)⟩
theorem lw_p3 : lw_okq (⟨"HollowShire$Tape", "tellNumber", "(I)V"⟩, 7) := ⟨⟨by decide +kernel, by decide +kernel⟩, List.mem_of_getElem? (i := 259) (by decide +kernel), List.mem_of_getElem? (i := 487) (by decide +kernel), List.mem_of_getElem? (i := 488) (by decide +kernel)⟩
theorem lw_p4 : lw_okq (⟨"HollowShire$Reader", "expect", "(I)V"⟩, 5) := ⟨⟨by decide +kernel, by decide +kernel⟩, List.mem_of_getElem? (i := 289) (by decide +kernel), List.mem_of_getElem? (i := 502) (by decide +kernel), List.mem_of_getElem? (i := 503) (by decide +kernel)⟩
theorem lw_p5 : lw_okq (⟨"HollowShire$Reader", "advance", "()V"⟩, 5) := ⟨⟨by decide +kernel, by decide +kernel⟩, List.mem_of_getElem? (i := 289) (by decide +kernel), List.mem_of_getElem? (i := 506) (by decide +kernel), List.mem_of_getElem? (i := 507) (by decide +kernel)⟩
theorem lw_p6 : lw_okq (⟨"HollowShire$Reader", "refuse", "()V"⟩, 5) := ⟨⟨by decide +kernel, by decide +kernel⟩, List.mem_of_getElem? (i := 289) (by decide +kernel), List.mem_of_getElem? (i := 510) (by decide +kernel), List.mem_of_getElem? (i := 511) (by decide +kernel)⟩
theorem lw_p7 : lw_okq (⟨"HollowShire$Reader", "readOr", "(I)V"⟩, 5) := ⟨⟨by decide +kernel, by decide +kernel⟩, List.mem_of_getElem? (i := 289) (by decide +kernel), List.mem_of_getElem? (i := 518) (by decide +kernel), List.mem_of_getElem? (i := 519) (by decide +kernel)⟩
theorem lw_p8 : lw_okq (⟨"HollowShire$Reader", "readAnd", "(I)V"⟩, 5) := ⟨⟨by decide +kernel, by decide +kernel⟩, List.mem_of_getElem? (i := 289) (by decide +kernel), List.mem_of_getElem? (i := 522) (by decide +kernel), List.mem_of_getElem? (i := 523) (by decide +kernel)⟩
theorem lw_p9 : lw_okq (⟨"HollowShire$Reader", "readNot", "(I)V"⟩, 5) := ⟨⟨by decide +kernel, by decide +kernel⟩, List.mem_of_getElem? (i := 289) (by decide +kernel), List.mem_of_getElem? (i := 526) (by decide +kernel), List.mem_of_getElem? (i := 527) (by decide +kernel)⟩
theorem lw_p10 : lw_okq (⟨"HollowShire$Reader", "readSum", "(I)V"⟩, 5) := ⟨⟨by decide +kernel, by decide +kernel⟩, List.mem_of_getElem? (i := 289) (by decide +kernel), List.mem_of_getElem? (i := 534) (by decide +kernel), List.mem_of_getElem? (i := 535) (by decide +kernel)⟩
theorem lw_p11 : lw_okq (⟨"HollowShire$Reader", "readTerm", "(I)V"⟩, 5) := ⟨⟨by decide +kernel, by decide +kernel⟩, List.mem_of_getElem? (i := 289) (by decide +kernel), List.mem_of_getElem? (i := 538) (by decide +kernel), List.mem_of_getElem? (i := 539) (by decide +kernel)⟩
theorem lw_p12 : lw_okq (⟨"HollowShire$Reader", "readOne", "(I)V"⟩, 5) := ⟨⟨by decide +kernel, by decide +kernel⟩, List.mem_of_getElem? (i := 289) (by decide +kernel), List.mem_of_getElem? (i := 542) (by decide +kernel), List.mem_of_getElem? (i := 543) (by decide +kernel)⟩
theorem lw_p13 : lw_okq (⟨"HollowShire", "isHouse", "(I)Z"⟩, 14) := ⟨⟨by decide +kernel, by decide +kernel⟩, List.mem_of_getElem? (i := 21) (by decide +kernel), List.mem_of_getElem? (i := 644) (by decide +kernel), List.mem_of_getElem? (i := 645) (by decide +kernel)⟩
theorem lw_p14 : lw_okq (⟨"HollowShire", "monthsAreLeft", "(I)Z"⟩, 14) := ⟨⟨by decide +kernel, by decide +kernel⟩, List.mem_of_getElem? (i := 21) (by decide +kernel), List.mem_of_getElem? (i := 652) (by decide +kernel), List.mem_of_getElem? (i := 653) (by decide +kernel)⟩
theorem lw_p15 : lw_okq (⟨"HollowShire$Ground", "rainDown", "()V"⟩, 16) := ⟨⟨by decide +kernel, by decide +kernel⟩, List.mem_of_getElem? (i := 66) (by decide +kernel), List.mem_of_getElem? (i := 660) (by decide +kernel), List.mem_of_getElem? (i := 661) (by decide +kernel)⟩
def lw_privs_1 : List (MethodName × Nat) := [(⟨"HollowShire$Tape", "tellKind", "(I)V"⟩, 7), (⟨"HollowShire$Tape", "tellWord", "(I)V"⟩, 7), (⟨"HollowShire$Tape", "spells", "(ILjava/lang/String;)Z"⟩, 7), (⟨"HollowShire$Tape", "tellNumber", "(I)V"⟩, 7), (⟨"HollowShire$Reader", "expect", "(I)V"⟩, 5), (⟨"HollowShire$Reader", "advance", "()V"⟩, 5), (⟨"HollowShire$Reader", "refuse", "()V"⟩, 5), (⟨"HollowShire$Reader", "readOr", "(I)V"⟩, 5), (⟨"HollowShire$Reader", "readAnd", "(I)V"⟩, 5), (⟨"HollowShire$Reader", "readNot", "(I)V"⟩, 5), (⟨"HollowShire$Reader", "readSum", "(I)V"⟩, 5), (⟨"HollowShire$Reader", "readTerm", "(I)V"⟩, 5), (⟨"HollowShire$Reader", "readOne", "(I)V"⟩, 5), (⟨"HollowShire", "isHouse", "(I)Z"⟩, 14), (⟨"HollowShire", "monthsAreLeft", "(I)Z"⟩, 14), (⟨"HollowShire$Ground", "rainDown", "()V"⟩, 16)]
theorem lw_r1 : ∀ q ∈ lw_privs_1, lw_okq q := List.forall_mem_cons.mpr ⟨lw_p0, List.forall_mem_cons.mpr ⟨lw_p1, List.forall_mem_cons.mpr ⟨lw_p2, List.forall_mem_cons.mpr ⟨lw_p3, List.forall_mem_cons.mpr ⟨lw_p4, List.forall_mem_cons.mpr ⟨lw_p5, List.forall_mem_cons.mpr ⟨lw_p6, List.forall_mem_cons.mpr ⟨lw_p7, List.forall_mem_cons.mpr ⟨lw_p8, List.forall_mem_cons.mpr ⟨lw_p9, List.forall_mem_cons.mpr ⟨lw_p10, List.forall_mem_cons.mpr ⟨lw_p11, List.forall_mem_cons.mpr ⟨lw_p12, List.forall_mem_cons.mpr ⟨lw_p13, List.forall_mem_cons.mpr ⟨lw_p14, List.forall_mem_cons.mpr ⟨lw_p15, fun _ h => absurd h List.not_mem_nil⟩⟩⟩⟩⟩⟩⟩⟩⟩⟩⟩⟩⟩⟩⟩⟩
theorem lw_p16 : lw_okq (⟨"HollowShire$Ground", "pumpOut", "()V"⟩, 16) := ⟨⟨by decide +kernel, by decide +kernel⟩, List.mem_of_getElem? (i := 66) (by decide +kernel), List.mem_of_getElem? (i := 667) (by decide +kernel), List.mem_of_getElem? (i := 668) (by decide +kernel)⟩
theorem lw_p17 : lw_okq (⟨"HollowShire$Ground", "solve", "(II)V"⟩, 16) := ⟨⟨by decide +kernel, by decide +kernel⟩, List.mem_of_getElem? (i := 66) (by decide +kernel), List.mem_of_getElem? (i := 671) (by decide +kernel), List.mem_of_getElem? (i := 672) (by decide +kernel)⟩
theorem lw_p18 : lw_okq (⟨"HollowShire$Ground", "flow", "()V"⟩, 16) := ⟨⟨by decide +kernel, by decide +kernel⟩, List.mem_of_getElem? (i := 66) (by decide +kernel), List.mem_of_getElem? (i := 678) (by decide +kernel), List.mem_of_getElem? (i := 679) (by decide +kernel)⟩
theorem lw_p19 : lw_okq (⟨"HollowShire$Ground", "go", "(III)V"⟩, 16) := ⟨⟨by decide +kernel, by decide +kernel⟩, List.mem_of_getElem? (i := 66) (by decide +kernel), List.mem_of_getElem? (i := 682) (by decide +kernel), List.mem_of_getElem? (i := 683) (by decide +kernel)⟩
theorem lw_p20 : lw_okq (⟨"HollowShire$Ground", "letFall", "()V"⟩, 16) := ⟨⟨by decide +kernel, by decide +kernel⟩, List.mem_of_getElem? (i := 66) (by decide +kernel), List.mem_of_getElem? (i := 689) (by decide +kernel), List.mem_of_getElem? (i := 690) (by decide +kernel)⟩
theorem lw_p21 : lw_okq (⟨"HollowShire$Ground", "takeHouses", "(I)V"⟩, 16) := ⟨⟨by decide +kernel, by decide +kernel⟩, List.mem_of_getElem? (i := 66) (by decide +kernel), List.mem_of_getElem? (i := 695) (by decide +kernel), List.mem_of_getElem? (i := 696) (by decide +kernel)⟩
theorem lw_p22 : lw_okq (⟨"HollowShire", "isSign", "(I)Z"⟩, 14) := ⟨⟨by decide +kernel, by decide +kernel⟩, List.mem_of_getElem? (i := 21) (by decide +kernel), List.mem_of_getElem? (i := 715) (by decide +kernel), List.mem_of_getElem? (i := 716) (by decide +kernel)⟩
theorem lw_p23 : lw_okq (⟨"HollowShire", "isKnown", "(I)Z"⟩, 14) := ⟨⟨by decide +kernel, by decide +kernel⟩, List.mem_of_getElem? (i := 21) (by decide +kernel), List.mem_of_getElem? (i := 723) (by decide +kernel), List.mem_of_getElem? (i := 724) (by decide +kernel)⟩
theorem lw_p24 : lw_okq (⟨"HollowShire$Signs", "speaks", "(IIII)Z"⟩, 7) := ⟨⟨by decide +kernel, by decide +kernel⟩, List.mem_of_getElem? (i := 137) (by decide +kernel), List.mem_of_getElem? (i := 749) (by decide +kernel), List.mem_of_getElem? (i := 750) (by decide +kernel)⟩
theorem lw_p25 : lw_okq (⟨"HollowShire$Fit", "gatherNeeds", "(LHollowShire$Sheet;LHollowShire$Told;I)V"⟩, 13) := ⟨⟨by decide +kernel, by decide +kernel⟩, List.mem_of_getElem? (i := 201) (by decide +kernel), List.mem_of_getElem? (i := 796) (by decide +kernel), List.mem_of_getElem? (i := 797) (by decide +kernel)⟩
theorem lw_p26 : lw_okq (⟨"HollowShire$Fit", "takeSizes", "(I)Z"⟩, 13) := ⟨⟨by decide +kernel, by decide +kernel⟩, List.mem_of_getElem? (i := 201) (by decide +kernel), List.mem_of_getElem? (i := 806) (by decide +kernel), List.mem_of_getElem? (i := 807) (by decide +kernel)⟩
theorem lw_p27 : lw_okq (⟨"HollowShire$Fit", "meetsNeeds", "()Z"⟩, 13) := ⟨⟨by decide +kernel, by decide +kernel⟩, List.mem_of_getElem? (i := 201) (by decide +kernel), List.mem_of_getElem? (i := 810) (by decide +kernel), List.mem_of_getElem? (i := 811) (by decide +kernel)⟩
theorem lw_p28 : lw_okq (⟨"HollowShire$Fit", "weighUp", "()V"⟩, 13) := ⟨⟨by decide +kernel, by decide +kernel⟩, List.mem_of_getElem? (i := 201) (by decide +kernel), List.mem_of_getElem? (i := 814) (by decide +kernel), List.mem_of_getElem? (i := 815) (by decide +kernel)⟩
theorem lw_p29 : lw_okq (⟨"HollowShire", "ruled", "(III)I"⟩, 14) := ⟨⟨by decide +kernel, by decide +kernel⟩, List.mem_of_getElem? (i := 21) (by decide +kernel), List.mem_of_getElem? (i := 842) (by decide +kernel), List.mem_of_getElem? (i := 843) (by decide +kernel)⟩
theorem lw_p30 : lw_okq (⟨"HollowShire", "worthOfLook", "(II)I"⟩, 14) := ⟨⟨by decide +kernel, by decide +kernel⟩, List.mem_of_getElem? (i := 21) (by decide +kernel), List.mem_of_getElem? (i := 893) (by decide +kernel), List.mem_of_getElem? (i := 894) (by decide +kernel)⟩
theorem lw_p31 : lw_okq (⟨"HollowShire", "worthOfSet", "(LHollowShire$Sheet;I)I"⟩, 14) := ⟨⟨by decide +kernel, by decide +kernel⟩, List.mem_of_getElem? (i := 21) (by decide +kernel), List.mem_of_getElem? (i := 900) (by decide +kernel), List.mem_of_getElem? (i := 901) (by decide +kernel)⟩
def lw_privs_2 : List (MethodName × Nat) := [(⟨"HollowShire$Ground", "pumpOut", "()V"⟩, 16), (⟨"HollowShire$Ground", "solve", "(II)V"⟩, 16), (⟨"HollowShire$Ground", "flow", "()V"⟩, 16), (⟨"HollowShire$Ground", "go", "(III)V"⟩, 16), (⟨"HollowShire$Ground", "letFall", "()V"⟩, 16), (⟨"HollowShire$Ground", "takeHouses", "(I)V"⟩, 16), (⟨"HollowShire", "isSign", "(I)Z"⟩, 14), (⟨"HollowShire", "isKnown", "(I)Z"⟩, 14), (⟨"HollowShire$Signs", "speaks", "(IIII)Z"⟩, 7), (⟨"HollowShire$Fit", "gatherNeeds", "(LHollowShire$Sheet;LHollowShire$Told;I)V"⟩, 13), (⟨"HollowShire$Fit", "takeSizes", "(I)Z"⟩, 13), (⟨"HollowShire$Fit", "meetsNeeds", "()Z"⟩, 13), (⟨"HollowShire$Fit", "weighUp", "()V"⟩, 13), (⟨"HollowShire", "ruled", "(III)I"⟩, 14), (⟨"HollowShire", "worthOfLook", "(II)I"⟩, 14), (⟨"HollowShire", "worthOfSet", "(LHollowShire$Sheet;I)I"⟩, 14)]
theorem lw_r2 : ∀ q ∈ lw_privs_2, lw_okq q := List.forall_mem_cons.mpr ⟨lw_p16, List.forall_mem_cons.mpr ⟨lw_p17, List.forall_mem_cons.mpr ⟨lw_p18, List.forall_mem_cons.mpr ⟨lw_p19, List.forall_mem_cons.mpr ⟨lw_p20, List.forall_mem_cons.mpr ⟨lw_p21, List.forall_mem_cons.mpr ⟨lw_p22, List.forall_mem_cons.mpr ⟨lw_p23, List.forall_mem_cons.mpr ⟨lw_p24, List.forall_mem_cons.mpr ⟨lw_p25, List.forall_mem_cons.mpr ⟨lw_p26, List.forall_mem_cons.mpr ⟨lw_p27, List.forall_mem_cons.mpr ⟨lw_p28, List.forall_mem_cons.mpr ⟨lw_p29, List.forall_mem_cons.mpr ⟨lw_p30, List.forall_mem_cons.mpr ⟨lw_p31, fun _ h => absurd h List.not_mem_nil⟩⟩⟩⟩⟩⟩⟩⟩⟩⟩⟩⟩⟩⟩⟩⟩
theorem lw_p32 : lw_okq (⟨"HollowShire", "trueWarnings", "(I)I"⟩, 14) := ⟨⟨by decide +kernel, by decide +kernel⟩, List.mem_of_getElem? (i := 21) (by decide +kernel), List.mem_of_getElem? (i := 923) (by decide +kernel), List.mem_of_getElem? (i := 924) (by decide +kernel)⟩
theorem lw_p33 : lw_okq (⟨"HollowShire", "cameTrue", "(II)Z"⟩, 14) := ⟨⟨by decide +kernel, by decide +kernel⟩, List.mem_of_getElem? (i := 21) (by decide +kernel), List.mem_of_getElem? (i := 927) (by decide +kernel), List.mem_of_getElem? (i := 928) (by decide +kernel)⟩
theorem lw_p34 : lw_okq (⟨"HollowShire", "missedCells", "(I)I"⟩, 14) := ⟨⟨by decide +kernel, by decide +kernel⟩, List.mem_of_getElem? (i := 21) (by decide +kernel), List.mem_of_getElem? (i := 931) (by decide +kernel), List.mem_of_getElem? (i := 932) (by decide +kernel)⟩
theorem lw_p35 : lw_okq (⟨"HollowShire", "oldWarnings", "(I)I"⟩, 14) := ⟨⟨by decide +kernel, by decide +kernel⟩, List.mem_of_getElem? (i := 21) (by decide +kernel), List.mem_of_getElem? (i := 941) (by decide +kernel), List.mem_of_getElem? (i := 942) (by decide +kernel)⟩
theorem lw_p36 : lw_okq (⟨"HollowShire", "holdsHouses", "(LHollowShire$Sheet;)Z"⟩, 14) := ⟨⟨by decide +kernel, by decide +kernel⟩, List.mem_of_getElem? (i := 21) (by decide +kernel), List.mem_of_getElem? (i := 966) (by decide +kernel), List.mem_of_getElem? (i := 967) (by decide +kernel)⟩
theorem lw_p37 : lw_okq (⟨"HollowShire", "peopleToMove", "(I)I"⟩, 14) := ⟨⟨by decide +kernel, by decide +kernel⟩, List.mem_of_getElem? (i := 21) (by decide +kernel), List.mem_of_getElem? (i := 973) (by decide +kernel), List.mem_of_getElem? (i := 974) (by decide +kernel)⟩
theorem lw_p38 : lw_okq (⟨"HollowShire", "sparedBy", "(I)I"⟩, 14) := ⟨⟨by decide +kernel, by decide +kernel⟩, List.mem_of_getElem? (i := 21) (by decide +kernel), List.mem_of_getElem? (i := 977) (by decide +kernel), List.mem_of_getElem? (i := 978) (by decide +kernel)⟩
theorem lw_p39 : lw_okq (⟨"HollowShireModel", "isCell", "(I)Z"⟩, 77) := ⟨⟨by decide +kernel, by decide +kernel⟩, List.mem_of_getElem? (i := 1041) (by decide +kernel), List.mem_of_getElem? (i := 1283) (by decide +kernel), List.mem_of_getElem? (i := 1284) (by decide +kernel)⟩
theorem lw_p40 : lw_okq (⟨"HollowShireModel", "in", "(III)Z"⟩, 77) := ⟨⟨by decide +kernel, by decide +kernel⟩, List.mem_of_getElem? (i := 1041) (by decide +kernel), List.mem_of_getElem? (i := 1287) (by decide +kernel), List.mem_of_getElem? (i := 1288) (by decide +kernel)⟩
theorem lw_p41 : lw_okq (⟨"HollowShireModel", "isHouse", "(I)Z"⟩, 77) := ⟨⟨by decide +kernel, by decide +kernel⟩, List.mem_of_getElem? (i := 1041) (by decide +kernel), List.mem_of_getElem? (i := 1312) (by decide +kernel), List.mem_of_getElem? (i := 1313) (by decide +kernel)⟩
theorem lw_p42 : lw_okq (⟨"HollowShireModel", "goMonth", "()V"⟩, 77) := ⟨⟨by decide +kernel, by decide +kernel⟩, List.mem_of_getElem? (i := 1041) (by decide +kernel), List.mem_of_getElem? (i := 1320) (by decide +kernel), List.mem_of_getElem? (i := 1321) (by decide +kernel)⟩
theorem lw_p43 : lw_okq (⟨"HollowShireModel", "wentBy", "(II)V"⟩, 77) := ⟨⟨by decide +kernel, by decide +kernel⟩, List.mem_of_getElem? (i := 1041) (by decide +kernel), List.mem_of_getElem? (i := 1324) (by decide +kernel), List.mem_of_getElem? (i := 1325) (by decide +kernel)⟩
theorem lw_p44 : lw_okq (⟨"HollowShireModel", "between", "(II)V"⟩, 77) := ⟨⟨by decide +kernel, by decide +kernel⟩, List.mem_of_getElem? (i := 1041) (by decide +kernel), List.mem_of_getElem? (i := 1328) (by decide +kernel), List.mem_of_getElem? (i := 1329) (by decide +kernel)⟩
theorem lw_p45 : lw_okq (⟨"HollowShireModel", "harmOf", "(I)I"⟩, 77) := ⟨⟨by decide +kernel, by decide +kernel⟩, List.mem_of_getElem? (i := 1041) (by decide +kernel), List.mem_of_getElem? (i := 1332) (by decide +kernel), List.mem_of_getElem? (i := 1333) (by decide +kernel)⟩
theorem lw_p46 : lw_okq (⟨"HollowShireModel", "isSign", "(I)Z"⟩, 77) := ⟨⟨by decide +kernel, by decide +kernel⟩, List.mem_of_getElem? (i := 1041) (by decide +kernel), List.mem_of_getElem? (i := 1344) (by decide +kernel), List.mem_of_getElem? (i := 1345) (by decide +kernel)⟩
theorem lw_p47 : lw_okq (⟨"HollowShireModel", "isKnown", "(I)Z"⟩, 77) := ⟨⟨by decide +kernel, by decide +kernel⟩, List.mem_of_getElem? (i := 1041) (by decide +kernel), List.mem_of_getElem? (i := 1352) (by decide +kernel), List.mem_of_getElem? (i := 1353) (by decide +kernel)⟩
def lw_privs_3 : List (MethodName × Nat) := [(⟨"HollowShire", "trueWarnings", "(I)I"⟩, 14), (⟨"HollowShire", "cameTrue", "(II)Z"⟩, 14), (⟨"HollowShire", "missedCells", "(I)I"⟩, 14), (⟨"HollowShire", "oldWarnings", "(I)I"⟩, 14), (⟨"HollowShire", "holdsHouses", "(LHollowShire$Sheet;)Z"⟩, 14), (⟨"HollowShire", "peopleToMove", "(I)I"⟩, 14), (⟨"HollowShire", "sparedBy", "(I)I"⟩, 14), (⟨"HollowShireModel", "isCell", "(I)Z"⟩, 77), (⟨"HollowShireModel", "in", "(III)Z"⟩, 77), (⟨"HollowShireModel", "isHouse", "(I)Z"⟩, 77), (⟨"HollowShireModel", "goMonth", "()V"⟩, 77), (⟨"HollowShireModel", "wentBy", "(II)V"⟩, 77), (⟨"HollowShireModel", "between", "(II)V"⟩, 77), (⟨"HollowShireModel", "harmOf", "(I)I"⟩, 77), (⟨"HollowShireModel", "isSign", "(I)Z"⟩, 77), (⟨"HollowShireModel", "isKnown", "(I)Z"⟩, 77)]
theorem lw_r3 : ∀ q ∈ lw_privs_3, lw_okq q := List.forall_mem_cons.mpr ⟨lw_p32, List.forall_mem_cons.mpr ⟨lw_p33, List.forall_mem_cons.mpr ⟨lw_p34, List.forall_mem_cons.mpr ⟨lw_p35, List.forall_mem_cons.mpr ⟨lw_p36, List.forall_mem_cons.mpr ⟨lw_p37, List.forall_mem_cons.mpr ⟨lw_p38, List.forall_mem_cons.mpr ⟨lw_p39, List.forall_mem_cons.mpr ⟨lw_p40, List.forall_mem_cons.mpr ⟨lw_p41, List.forall_mem_cons.mpr ⟨lw_p42, List.forall_mem_cons.mpr ⟨lw_p43, List.forall_mem_cons.mpr ⟨lw_p44, List.forall_mem_cons.mpr ⟨lw_p45, List.forall_mem_cons.mpr ⟨lw_p46, List.forall_mem_cons.mpr ⟨lw_p47, fun _ h => absurd h List.not_mem_nil⟩⟩⟩⟩⟩⟩⟩⟩⟩⟩⟩⟩⟩⟩⟩⟩
theorem lw_p48 : lw_okq (⟨"HollowShireModel", "valueOf", "(II)I"⟩, 77) := ⟨⟨by decide +kernel, by decide +kernel⟩, List.mem_of_getElem? (i := 1041) (by decide +kernel), List.mem_of_getElem? (i := 1356) (by decide +kernel), List.mem_of_getElem? (i := 1357) (by decide +kernel)⟩
theorem lw_p49 : lw_okq (⟨"HollowShireModel", "leastOf", "(II)I"⟩, 77) := ⟨⟨by decide +kernel, by decide +kernel⟩, List.mem_of_getElem? (i := 1041) (by decide +kernel), List.mem_of_getElem? (i := 1360) (by decide +kernel), List.mem_of_getElem? (i := 1361) (by decide +kernel)⟩
theorem lw_p50 : lw_okq (⟨"HollowShireModel", "mostOf", "(II)I"⟩, 77) := ⟨⟨by decide +kernel, by decide +kernel⟩, List.mem_of_getElem? (i := 1041) (by decide +kernel), List.mem_of_getElem? (i := 1364) (by decide +kernel), List.mem_of_getElem? (i := 1365) (by decide +kernel)⟩
theorem lw_p51 : lw_okq (⟨"HollowShireModel", "trustOf", "(I)I"⟩, 77) := ⟨⟨by decide +kernel, by decide +kernel⟩, List.mem_of_getElem? (i := 1041) (by decide +kernel), List.mem_of_getElem? (i := 1368) (by decide +kernel), List.mem_of_getElem? (i := 1369) (by decide +kernel)⟩
theorem lw_p52 : lw_okq (⟨"HollowShireModel", "findSpan", "(III)V"⟩, 77) := ⟨⟨by decide +kernel, by decide +kernel⟩, List.mem_of_getElem? (i := 1041) (by decide +kernel), List.mem_of_getElem? (i := 1376) (by decide +kernel), List.mem_of_getElem? (i := 1377) (by decide +kernel)⟩
theorem lw_p53 : lw_okq (⟨"HollowShireModel", "isSheet", "(I)Z"⟩, 77) := ⟨⟨by decide +kernel, by decide +kernel⟩, List.mem_of_getElem? (i := 1041) (by decide +kernel), List.mem_of_getElem? (i := 1388) (by decide +kernel), List.mem_of_getElem? (i := 1389) (by decide +kernel)⟩
theorem lw_p54 : lw_okq (⟨"HollowShireModel", "isFit", "(I)Z"⟩, 77) := ⟨⟨by decide +kernel, by decide +kernel⟩, List.mem_of_getElem? (i := 1041) (by decide +kernel), List.mem_of_getElem? (i := 1392) (by decide +kernel), List.mem_of_getElem? (i := 1393) (by decide +kernel)⟩
theorem lw_p55 : lw_okq (⟨"HollowShireModel", "isNear", "(II)Z"⟩, 77) := ⟨⟨by decide +kernel, by decide +kernel⟩, List.mem_of_getElem? (i := 1041) (by decide +kernel), List.mem_of_getElem? (i := 1396) (by decide +kernel), List.mem_of_getElem? (i := 1397) (by decide +kernel)⟩
theorem lw_p56 : lw_okq (⟨"HollowShireModel", "goes", "(I)Z"⟩, 77) := ⟨⟨by decide +kernel, by decide +kernel⟩, List.mem_of_getElem? (i := 1041) (by decide +kernel), List.mem_of_getElem? (i := 1412) (by decide +kernel), List.mem_of_getElem? (i := 1413) (by decide +kernel)⟩
theorem lw_p57 : lw_okq (⟨"HollowShireModel", "step", "()V"⟩, 77) := ⟨⟨by decide +kernel, by decide +kernel⟩, List.mem_of_getElem? (i := 1041) (by decide +kernel), List.mem_of_getElem? (i := 1416) (by decide +kernel), List.mem_of_getElem? (i := 1417) (by decide +kernel)⟩
theorem lw_p58 : lw_okq (⟨"HollowShireModel", "byteAt", "(I)I"⟩, 77) := ⟨⟨by decide +kernel, by decide +kernel⟩, List.mem_of_getElem? (i := 1041) (by decide +kernel), List.mem_of_getElem? (i := 1420) (by decide +kernel), List.mem_of_getElem? (i := 1421) (by decide +kernel)⟩
theorem lw_p59 : lw_okq (⟨"HollowShireModel", "isLetter", "(I)Z"⟩, 77) := ⟨⟨by decide +kernel, by decide +kernel⟩, List.mem_of_getElem? (i := 1041) (by decide +kernel), List.mem_of_getElem? (i := 1424) (by decide +kernel), List.mem_of_getElem? (i := 1425) (by decide +kernel)⟩
theorem lw_p60 : lw_okq (⟨"HollowShireModel", "wordOf", "(J)I"⟩, 77) := ⟨⟨by decide +kernel, by decide +kernel⟩, List.mem_of_getElem? (i := 1041) (by decide +kernel), List.mem_of_getElem? (i := 1431) (by decide +kernel), List.mem_of_getElem? (i := 1432) (by decide +kernel)⟩
theorem lw_p61 : lw_okq (⟨"HollowShireModel", "isDigit", "(I)Z"⟩, 77) := ⟨⟨by decide +kernel, by decide +kernel⟩, List.mem_of_getElem? (i := 1041) (by decide +kernel), List.mem_of_getElem? (i := 1449) (by decide +kernel), List.mem_of_getElem? (i := 1450) (by decide +kernel)⟩
theorem lw_p62 : lw_okq (⟨"HollowShireModel", "isKey", "(I)Z"⟩, 77) := ⟨⟨by decide +kernel, by decide +kernel⟩, List.mem_of_getElem? (i := 1041) (by decide +kernel), List.mem_of_getElem? (i := 1453) (by decide +kernel), List.mem_of_getElem? (i := 1454) (by decide +kernel)⟩
theorem lw_p63 : lw_okq (⟨"HollowShireModel", "takesE", "()Z"⟩, 77) := ⟨⟨by decide +kernel, by decide +kernel⟩, List.mem_of_getElem? (i := 1041) (by decide +kernel), List.mem_of_getElem? (i := 1457) (by decide +kernel), List.mem_of_getElem? (i := 1458) (by decide +kernel)⟩
def lw_privs_4 : List (MethodName × Nat) := [(⟨"HollowShireModel", "valueOf", "(II)I"⟩, 77), (⟨"HollowShireModel", "leastOf", "(II)I"⟩, 77), (⟨"HollowShireModel", "mostOf", "(II)I"⟩, 77), (⟨"HollowShireModel", "trustOf", "(I)I"⟩, 77), (⟨"HollowShireModel", "findSpan", "(III)V"⟩, 77), (⟨"HollowShireModel", "isSheet", "(I)Z"⟩, 77), (⟨"HollowShireModel", "isFit", "(I)Z"⟩, 77), (⟨"HollowShireModel", "isNear", "(II)Z"⟩, 77), (⟨"HollowShireModel", "goes", "(I)Z"⟩, 77), (⟨"HollowShireModel", "step", "()V"⟩, 77), (⟨"HollowShireModel", "byteAt", "(I)I"⟩, 77), (⟨"HollowShireModel", "isLetter", "(I)Z"⟩, 77), (⟨"HollowShireModel", "wordOf", "(J)I"⟩, 77), (⟨"HollowShireModel", "isDigit", "(I)Z"⟩, 77), (⟨"HollowShireModel", "isKey", "(I)Z"⟩, 77), (⟨"HollowShireModel", "takesE", "()Z"⟩, 77)]
theorem lw_r4 : ∀ q ∈ lw_privs_4, lw_okq q := List.forall_mem_cons.mpr ⟨lw_p48, List.forall_mem_cons.mpr ⟨lw_p49, List.forall_mem_cons.mpr ⟨lw_p50, List.forall_mem_cons.mpr ⟨lw_p51, List.forall_mem_cons.mpr ⟨lw_p52, List.forall_mem_cons.mpr ⟨lw_p53, List.forall_mem_cons.mpr ⟨lw_p54, List.forall_mem_cons.mpr ⟨lw_p55, List.forall_mem_cons.mpr ⟨lw_p56, List.forall_mem_cons.mpr ⟨lw_p57, List.forall_mem_cons.mpr ⟨lw_p58, List.forall_mem_cons.mpr ⟨lw_p59, List.forall_mem_cons.mpr ⟨lw_p60, List.forall_mem_cons.mpr ⟨lw_p61, List.forall_mem_cons.mpr ⟨lw_p62, List.forall_mem_cons.mpr ⟨lw_p63, fun _ h => absurd h List.not_mem_nil⟩⟩⟩⟩⟩⟩⟩⟩⟩⟩⟩⟩⟩⟩⟩⟩
theorem lw_p64 : lw_okq (⟨"HollowShireModel", "opens", "(I)Z"⟩, 77) := ⟨⟨by decide +kernel, by decide +kernel⟩, List.mem_of_getElem? (i := 1041) (by decide +kernel), List.mem_of_getElem? (i := 1461) (by decide +kernel), List.mem_of_getElem? (i := 1462) (by decide +kernel)⟩
theorem lw_p65 : lw_okq (⟨"HollowShireModel", "push", "(I)V"⟩, 77) := ⟨⟨by decide +kernel, by decide +kernel⟩, List.mem_of_getElem? (i := 1041) (by decide +kernel), List.mem_of_getElem? (i := 1465) (by decide +kernel), List.mem_of_getElem? (i := 1466) (by decide +kernel)⟩
theorem lw_p66 : lw_okq (⟨"HollowShireModel", "settle", "(I)V"⟩, 77) := ⟨⟨by decide +kernel, by decide +kernel⟩, List.mem_of_getElem? (i := 1041) (by decide +kernel), List.mem_of_getElem? (i := 1469) (by decide +kernel), List.mem_of_getElem? (i := 1470) (by decide +kernel)⟩
theorem lw_p67 : lw_okq (⟨"HollowShireModel", "rankOf", "(I)I"⟩, 77) := ⟨⟨by decide +kernel, by decide +kernel⟩, List.mem_of_getElem? (i := 1041) (by decide +kernel), List.mem_of_getElem? (i := 1473) (by decide +kernel), List.mem_of_getElem? (i := 1474) (by decide +kernel)⟩
theorem lw_p68 : lw_okq (⟨"HollowShireModel", "work", "(I)V"⟩, 77) := ⟨⟨by decide +kernel, by decide +kernel⟩, List.mem_of_getElem? (i := 1041) (by decide +kernel), List.mem_of_getElem? (i := 1477) (by decide +kernel), List.mem_of_getElem? (i := 1478) (by decide +kernel)⟩
theorem lw_p69 : lw_okq (⟨"HollowShireModel", "joint", "()I"⟩, 77) := ⟨⟨by decide +kernel, by decide +kernel⟩, List.mem_of_getElem? (i := 1041) (by decide +kernel), List.mem_of_getElem? (i := 1481) (by decide +kernel), List.mem_of_getElem? (i := 1482) (by decide +kernel)⟩
theorem lw_p70 : lw_okq (⟨"HollowShireModel", "joins", "(I)Z"⟩, 77) := ⟨⟨by decide +kernel, by decide +kernel⟩, List.mem_of_getElem? (i := 1041) (by decide +kernel), List.mem_of_getElem? (i := 1485) (by decide +kernel), List.mem_of_getElem? (i := 1486) (by decide +kernel)⟩
theorem lw_p71 : lw_okq (⟨"HollowShireModel", "lawOf", "(III)I"⟩, 77) := ⟨⟨by decide +kernel, by decide +kernel⟩, List.mem_of_getElem? (i := 1041) (by decide +kernel), List.mem_of_getElem? (i := 1497) (by decide +kernel), List.mem_of_getElem? (i := 1498) (by decide +kernel)⟩
theorem lw_p72 : lw_okq (⟨"HollowShireModel", "findFacts", "(II)V"⟩, 77) := ⟨⟨by decide +kernel, by decide +kernel⟩, List.mem_of_getElem? (i := 1041) (by decide +kernel), List.mem_of_getElem? (i := 1501) (by decide +kernel), List.mem_of_getElem? (i := 1502) (by decide +kernel)⟩
theorem lw_p73 : lw_okq (⟨"HollowShireModel", "doubtOf", "(II)I"⟩, 77) := ⟨⟨by decide +kernel, by decide +kernel⟩, List.mem_of_getElem? (i := 1041) (by decide +kernel), List.mem_of_getElem? (i := 1505) (by decide +kernel), List.mem_of_getElem? (i := 1506) (by decide +kernel)⟩
theorem lw_p74 : lw_okq (⟨"HollowShireModel", "peopleIn", "(I)I"⟩, 77) := ⟨⟨by decide +kernel, by decide +kernel⟩, List.mem_of_getElem? (i := 1041) (by decide +kernel), List.mem_of_getElem? (i := 1509) (by decide +kernel), List.mem_of_getElem? (i := 1510) (by decide +kernel)⟩
theorem lw_p75 : lw_okq (⟨"HollowShireModel", "divisor", "(JJ)J"⟩, 77) := ⟨⟨by decide +kernel, by decide +kernel⟩, List.mem_of_getElem? (i := 1041) (by decide +kernel), List.mem_of_getElem? (i := 1536) (by decide +kernel), List.mem_of_getElem? (i := 1537) (by decide +kernel)⟩
theorem lw_p76 : lw_okq (⟨"HollowShireModel", "isTrue", "(II)Z"⟩, 77) := ⟨⟨by decide +kernel, by decide +kernel⟩, List.mem_of_getElem? (i := 1041) (by decide +kernel), List.mem_of_getElem? (i := 1548) (by decide +kernel), List.mem_of_getElem? (i := 1549) (by decide +kernel)⟩
theorem lw_p77 : lw_okq (⟨"HollowShireModel", "cellsFallen", "()I"⟩, 77) := ⟨⟨by decide +kernel, by decide +kernel⟩, List.mem_of_getElem? (i := 1041) (by decide +kernel), List.mem_of_getElem? (i := 1564) (by decide +kernel), List.mem_of_getElem? (i := 1565) (by decide +kernel)⟩
theorem lw_p78 : lw_okq (⟨"HollowShireModel", "keep", "(I)V"⟩, 77) := ⟨⟨by decide +kernel, by decide +kernel⟩, List.mem_of_getElem? (i := 1041) (by decide +kernel), List.mem_of_getElem? (i := 1568) (by decide +kernel), List.mem_of_getElem? (i := 1569) (by decide +kernel)⟩
theorem lw_p79 : lw_okq (⟨"HollowShireModel", "putBack", "(III)V"⟩, 77) := ⟨⟨by decide +kernel, by decide +kernel⟩, List.mem_of_getElem? (i := 1041) (by decide +kernel), List.mem_of_getElem? (i := 1572) (by decide +kernel), List.mem_of_getElem? (i := 1573) (by decide +kernel)⟩
def lw_privs_5 : List (MethodName × Nat) := [(⟨"HollowShireModel", "opens", "(I)Z"⟩, 77), (⟨"HollowShireModel", "push", "(I)V"⟩, 77), (⟨"HollowShireModel", "settle", "(I)V"⟩, 77), (⟨"HollowShireModel", "rankOf", "(I)I"⟩, 77), (⟨"HollowShireModel", "work", "(I)V"⟩, 77), (⟨"HollowShireModel", "joint", "()I"⟩, 77), (⟨"HollowShireModel", "joins", "(I)Z"⟩, 77), (⟨"HollowShireModel", "lawOf", "(III)I"⟩, 77), (⟨"HollowShireModel", "findFacts", "(II)V"⟩, 77), (⟨"HollowShireModel", "doubtOf", "(II)I"⟩, 77), (⟨"HollowShireModel", "peopleIn", "(I)I"⟩, 77), (⟨"HollowShireModel", "divisor", "(JJ)J"⟩, 77), (⟨"HollowShireModel", "isTrue", "(II)Z"⟩, 77), (⟨"HollowShireModel", "cellsFallen", "()I"⟩, 77), (⟨"HollowShireModel", "keep", "(I)V"⟩, 77), (⟨"HollowShireModel", "putBack", "(III)V"⟩, 77)]
theorem lw_r5 : ∀ q ∈ lw_privs_5, lw_okq q := List.forall_mem_cons.mpr ⟨lw_p64, List.forall_mem_cons.mpr ⟨lw_p65, List.forall_mem_cons.mpr ⟨lw_p66, List.forall_mem_cons.mpr ⟨lw_p67, List.forall_mem_cons.mpr ⟨lw_p68, List.forall_mem_cons.mpr ⟨lw_p69, List.forall_mem_cons.mpr ⟨lw_p70, List.forall_mem_cons.mpr ⟨lw_p71, List.forall_mem_cons.mpr ⟨lw_p72, List.forall_mem_cons.mpr ⟨lw_p73, List.forall_mem_cons.mpr ⟨lw_p74, List.forall_mem_cons.mpr ⟨lw_p75, List.forall_mem_cons.mpr ⟨lw_p76, List.forall_mem_cons.mpr ⟨lw_p77, List.forall_mem_cons.mpr ⟨lw_p78, List.forall_mem_cons.mpr ⟨lw_p79, fun _ h => absurd h List.not_mem_nil⟩⟩⟩⟩⟩⟩⟩⟩⟩⟩⟩⟩⟩⟩⟩⟩
theorem lw_p80 : lw_okq (⟨"HollowShireModel", "isOfKind", "(II)Z"⟩, 77) := ⟨⟨by decide +kernel, by decide +kernel⟩, List.mem_of_getElem? (i := 1041) (by decide +kernel), List.mem_of_getElem? (i := 1617) (by decide +kernel), List.mem_of_getElem? (i := 1618) (by decide +kernel)⟩
def lw_privs_6 : List (MethodName × Nat) := [(⟨"HollowShireModel", "isOfKind", "(II)Z"⟩, 77)]
theorem lw_r6 : ∀ q ∈ lw_privs_6, lw_okq q := List.forall_mem_cons.mpr ⟨lw_p80, fun _ h => absurd h List.not_mem_nil⟩
def lw_privs : List (MethodName × Nat) := lw_privs_1 ++ (lw_privs_2 ++ (lw_privs_3 ++ (lw_privs_4 ++ (lw_privs_5 ++ (lw_privs_6)))))
def lw_tbl : List Cond := k2_sels lw_privs ++ tables_1
theorem lw_privs_ok : ∀ q ∈ lw_privs, lw_okq q := by
  show ∀ q ∈ lw_privs_1 ++ (lw_privs_2 ++ (lw_privs_3 ++ (lw_privs_4 ++ (lw_privs_5 ++ (lw_privs_6))))), lw_okq q
  exact List.forall_mem_append.mpr ⟨lw_r1, List.forall_mem_append.mpr ⟨lw_r2, List.forall_mem_append.mpr ⟨lw_r3, List.forall_mem_append.mpr ⟨lw_r4, List.forall_mem_append.mpr ⟨lw_r5, lw_r6⟩⟩⟩⟩⟩
end
section
/-! ===== BEGIN words of one list among another's, by their places ===== -/
theorem goodIn_r {big : List Cond} (ws : List Cond) (ps : List Nat) (hp : ws = ps.filterMap (fun i => big[i]?)) (h : ws.all goodWord = true) : GoodIn big ws := by
  intro w hw
  have h1 := List.all_eq_true.mp h w hw
  rw [hp] at hw
  obtain ⟨i, -, hi⟩ := List.mem_filterMap.mp hw
  have hm : w ∈ big := by first | exact List.mem_of_getElem? hi | exact List.getElem?_mem hi
  exact ⟨hm, good_of_word h1⟩
theorem goodIn_app {big a b : List Cond} (ha : GoodIn big a) (hb : GoodIn big b) : GoodIn big (a ++ b) := fun w h => (List.mem_append.mp h).elim (ha w) (hb w)
theorem goodIn_ca {big a b : List Cond} {c : Cond} (ha : GoodIn big (c :: a)) (hb : GoodIn big b) : GoodIn big (c :: (a ++ b)) := fun w h => (List.mem_cons.mp h).elim (fun e => ha w (List.mem_cons.mpr (Or.inl e))) (fun h => (List.mem_append.mp h).elim (fun h => ha w (List.mem_cons.mpr (Or.inr h))) (hb w))
theorem goodIn_sub {big ws : List Cond} (hm : ∀ w ∈ ws, w ∈ big) (h : ws.all goodWord = true) : GoodIn big ws := fun w hw => ⟨hm w hw, good_of_word (List.all_eq_true.mp h w hw)⟩
/-! ===== END ===== -/

/-! ===== BEGIN printed: names, fields, word lists, decode rows ===== -/
def RX0 : String := "HollowShire$Built"
def TX0 : u_T := fun k => match k with
  | 0 => ("HollowShire$Built", "houses", "I", false)
  | 1 => ("HollowShire$Built", "pumps", "I", false)
  | 2 => ("HollowShire$Built", "houseCell", "[I", true)
  | 3 => ("HollowShire$Built", "worth", "[I", true)
  | 4 => ("HollowShire$Built", "people", "[I", true)
  | _ => ("HollowShire$Built", "pumpCell", "[I", true)
def tyX0 : Nat → FieldType := fun k => match k with
  | 0 => .int
  | 1 => .int
  | 2 => .array .int
  | 3 => .array .int
  | 4 => .array .int
  | _ => .array .int
abbrev wsX00 : List Cond := u_ws RX0 TX0 6
theorem nmX0 : ∀ a, a < 6 → ∀ b, b < 6 → a ≠ b → (TX0 a).2.1 ≠ (TX0 b).2.1 := by decide +kernel
theorem tyX0_ok : ∀ k, k < 6 → parseFieldDescriptor (TX0 k).2.2.1 = some (tyX0 k) := by decide +kernel
abbrev cX0_init : ByteArray := prog_2_method_1_code
def yX0_init : MethodName := ⟨RX0, "<init>", "()V"⟩
abbrev cX0_addHouse : ByteArray := prog_2_method_2_code
def yX0_addHouse : MethodName := ⟨RX0, "addHouse", "(III)I"⟩
abbrev cX0_addPump : ByteArray := prog_2_method_3_code
def yX0_addPump : MethodName := ⟨RX0, "addPump", "(I)I"⟩
def RX1 : String := "HollowShire$Fit"
def TX1 : u_T := fun k => match k with
  | 0 => ("HollowShire$Fit", "cells", "I", false)
  | 1 => ("HollowShire$Fit", "rivals", "I", false)
  | 2 => ("HollowShire$Fit", "fewest", "I", false)
  | 3 => ("HollowShire$Fit", "together", "I", false)
  | 4 => ("HollowShire$Fit", "best", "[I", true)
  | 5 => ("HollowShire$Fit", "least", "[I", true)
  | 6 => ("HollowShire$Fit", "greatest", "[I", true)
  | 7 => ("HollowShire$Fit", "low", "[I", true)
  | 8 => ("HollowShire$Fit", "high", "[I", true)
  | 9 => ("HollowShire$Fit", "sizes", "[I", true)
  | 10 => ("HollowShire$Fit", "needs", "I", false)
  | 11 => ("HollowShire$Fit", "needed", "[I", true)
  | _ => ("HollowShire$Fit", "neededOf", "[I", true)
def tyX1 : Nat → FieldType := fun k => match k with
  | 0 => .int
  | 1 => .int
  | 2 => .int
  | 3 => .int
  | 4 => .array .int
  | 5 => .array .int
  | 6 => .array .int
  | 7 => .array .int
  | 8 => .array .int
  | 9 => .array .int
  | 10 => .int
  | 11 => .array .int
  | _ => .array .int
abbrev wsX10 : List Cond := u_ws RX1 TX1 13
theorem nmX1 : ∀ a, a < 13 → ∀ b, b < 13 → a ≠ b → (TX1 a).2.1 ≠ (TX1 b).2.1 := by decide +kernel
theorem tyX1_ok : ∀ k, k < 13 → parseFieldDescriptor (TX1 k).2.2.1 = some (tyX1 k) := by decide +kernel
abbrev cX1_init : ByteArray := prog_3_method_1_code
def yX1_init : MethodName := ⟨RX1, "<init>", "()V"⟩
abbrev cX1_search : ByteArray := prog_3_method_2_code
def yX1_search : MethodName := ⟨RX1, "search", "(LHollowShire$Sheet;LHollowShire$Signs;LHollowShire$Told;I)V"⟩
abbrev cX1_gatherNeeds : ByteArray := prog_3_method_3_code
def yX1_gatherNeeds : MethodName := ⟨RX1, "gatherNeeds", "(LHollowShire$Sheet;LHollowShire$Told;I)V"⟩
abbrev cX1_takeSizes : ByteArray := prog_3_method_4_code
def yX1_takeSizes : MethodName := ⟨RX1, "takeSizes", "(I)Z"⟩
abbrev cX1_meetsNeeds : ByteArray := prog_3_method_5_code
def yX1_meetsNeeds : MethodName := ⟨RX1, "meetsNeeds", "()Z"⟩
abbrev cX1_weighUp : ByteArray := prog_3_method_6_code
def yX1_weighUp : MethodName := ⟨RX1, "weighUp", "()V"⟩
def RX2 : String := "HollowShire$Ground"
def TX2 : u_T := fun k => match k with
  | 0 => ("HollowShire$Ground", "built", "LHollowShire$Built;", true)
  | 1 => ("HollowShire$Ground", "month", "I", false)
  | 2 => ("HollowShire$Ground", "rain", "I", false)
  | 3 => ("HollowShire$Ground", "fallen", "I", false)
  | 4 => ("HollowShire$Ground", "harm", "I", false)
  | 5 => ("HollowShire$Ground", "rock", "[I", true)
  | 6 => ("HollowShire$Ground", "hollow", "[I", true)
  | 7 => ("HollowShire$Ground", "water", "[I", true)
  | 8 => ("HollowShire$Ground", "fell", "[I", true)
  | 9 => ("HollowShire$Ground", "fallsOf", "[I", true)
  | 10 => ("HollowShire$Ground", "monthsOf", "[I", true)
  | 11 => ("HollowShire$Ground", "pumped", "[I", true)
  | 12 => ("HollowShire$Ground", "gone", "[I", true)
  | 13 => ("HollowShire$Ground", "away", "[Z", true)
  | 14 => ("HollowShire$Ground", "goesDown", "[I", true)
  | _ => ("HollowShire$Ground", "goesAcross", "[I", true)
def tyX2 : Nat → FieldType := fun k => match k with
  | 0 => .object "HollowShire$Built"
  | 1 => .int
  | 2 => .int
  | 3 => .int
  | 4 => .int
  | 5 => .array .int
  | 6 => .array .int
  | 7 => .array .int
  | 8 => .array .int
  | 9 => .array .int
  | 10 => .array .int
  | 11 => .array .int
  | 12 => .array .int
  | 13 => .array .boolean
  | 14 => .array .int
  | _ => .array .int
abbrev wsX20 : List Cond := u_ws RX2 TX2 16
theorem nmX2 : ∀ a, a < 16 → ∀ b, b < 16 → a ≠ b → (TX2 a).2.1 ≠ (TX2 b).2.1 := by decide +kernel
theorem tyX2_ok : ∀ k, k < 16 → parseFieldDescriptor (TX2 k).2.2.1 = some (tyX2 k) := by decide +kernel
abbrev cX2_init : ByteArray := prog_4_method_1_code
def yX2_init : MethodName := ⟨RX2, "<init>", "(LHollowShire$Built;)V"⟩
abbrev cX2_become : ByteArray := prog_4_method_2_code
def yX2_become : MethodName := ⟨RX2, "become", "(LHollowShire$Ground;)V"⟩
abbrev cX2_hasFallen : ByteArray := prog_4_method_3_code
def yX2_hasFallen : MethodName := ⟨RX2, "hasFallen", "(I)Z"⟩
abbrev cX2_peopleAt : ByteArray := prog_4_method_4_code
def yX2_peopleAt : MethodName := ⟨RX2, "peopleAt", "(I)I"⟩
abbrev cX2_pumpsNear : ByteArray := prog_4_method_5_code
def yX2_pumpsNear : MethodName := ⟨RX2, "pumpsNear", "(I)I"⟩
abbrev cX2_harmOf : ByteArray := prog_4_method_6_code
def yX2_harmOf : MethodName := ⟨RX2, "harmOf", "(I)I"⟩
abbrev cX2_passMonths : ByteArray := prog_4_method_7_code
def yX2_passMonths : MethodName := ⟨RX2, "passMonths", "(I)V"⟩
abbrev cX2_rainDown : ByteArray := prog_4_method_8_code
def yX2_rainDown : MethodName := ⟨RX2, "rainDown", "()V"⟩
abbrev cX2_pumpOut : ByteArray := prog_4_method_9_code
def yX2_pumpOut : MethodName := ⟨RX2, "pumpOut", "()V"⟩
abbrev cX2_flow : ByteArray := prog_4_method_10_code
def yX2_flow : MethodName := ⟨RX2, "flow", "()V"⟩
abbrev cX2_go : ByteArray := prog_4_method_11_code
def yX2_go : MethodName := ⟨RX2, "go", "(III)V"⟩
abbrev cX2_solve : ByteArray := prog_4_method_12_code
def yX2_solve : MethodName := ⟨RX2, "solve", "(II)V"⟩
abbrev cX2_letFall : ByteArray := prog_4_method_13_code
def yX2_letFall : MethodName := ⟨RX2, "letFall", "()V"⟩
abbrev cX2_takeHouses : ByteArray := prog_4_method_14_code
def yX2_takeHouses : MethodName := ⟨RX2, "takeHouses", "(I)V"⟩
def RX3 : String := "HollowShire$Reader"
def TX3 : u_T := fun k => match k with
  | 0 => ("HollowShire$Reader", "made", "LHollowShire$Text;", true)
  | 1 => ("HollowShire$Reader", "tape", "LHollowShire$Tape;", true)
  | 2 => ("HollowShire$Reader", "next", "I", false)
  | 3 => ("HollowShire$Reader", "token", "I", false)
  | _ => ("HollowShire$Reader", "fault", "I", false)
def tyX3 : Nat → FieldType := fun k => match k with
  | 0 => .object "HollowShire$Text"
  | 1 => .object "HollowShire$Tape"
  | 2 => .int
  | 3 => .int
  | _ => .int
abbrev wsX30 : List Cond := u_ws RX3 TX3 5
theorem nmX3 : ∀ a, a < 5 → ∀ b, b < 5 → a ≠ b → (TX3 a).2.1 ≠ (TX3 b).2.1 := by decide +kernel
theorem tyX3_ok : ∀ k, k < 5 → parseFieldDescriptor (TX3 k).2.2.1 = some (tyX3 k) := by decide +kernel
abbrev cX3_init : ByteArray := prog_5_method_1_code
def yX3_init : MethodName := ⟨RX3, "<init>", "(LHollowShire$Tape;)V"⟩
abbrev cX3_read : ByteArray := prog_5_method_2_code
def yX3_read : MethodName := ⟨RX3, "read", "()I"⟩
abbrev cX3_readOr : ByteArray := prog_5_method_3_code
def yX3_readOr : MethodName := ⟨RX3, "readOr", "(I)V"⟩
abbrev cX3_readAnd : ByteArray := prog_5_method_4_code
def yX3_readAnd : MethodName := ⟨RX3, "readAnd", "(I)V"⟩
abbrev cX3_readNot : ByteArray := prog_5_method_5_code
def yX3_readNot : MethodName := ⟨RX3, "readNot", "(I)V"⟩
abbrev cX3_readSum : ByteArray := prog_5_method_6_code
def yX3_readSum : MethodName := ⟨RX3, "readSum", "(I)V"⟩
abbrev cX3_readTerm : ByteArray := prog_5_method_7_code
def yX3_readTerm : MethodName := ⟨RX3, "readTerm", "(I)V"⟩
abbrev cX3_readOne : ByteArray := prog_5_method_8_code
def yX3_readOne : MethodName := ⟨RX3, "readOne", "(I)V"⟩
abbrev cX3_expect : ByteArray := prog_5_method_9_code
def yX3_expect : MethodName := ⟨RX3, "expect", "(I)V"⟩
abbrev cX3_advance : ByteArray := prog_5_method_10_code
def yX3_advance : MethodName := ⟨RX3, "advance", "()V"⟩
abbrev cX3_refuse : ByteArray := prog_5_method_11_code
def yX3_refuse : MethodName := ⟨RX3, "refuse", "()V"⟩
def RX4 : String := "HollowShire$Rules"
def TX4 : u_T := fun k => match k with
  | 0 => ("HollowShire$Rules", "tape", "LHollowShire$Tape;", true)
  | 1 => ("HollowShire$Rules", "texts", "I", false)
  | 2 => ("HollowShire$Rules", "rule", "I", false)
  | 3 => ("HollowShire$Rules", "reader", "LHollowShire$Reader;", true)
  | 4 => ("HollowShire$Rules", "all", "[LHollowShire$Text;", true)
  | 5 => ("HollowShire$Rules", "named", "[I", true)
  | _ => ("HollowShire$Rules", "stack", "[I", true)
def tyX4 : Nat → FieldType := fun k => match k with
  | 0 => .object "HollowShire$Tape"
  | 1 => .int
  | 2 => .int
  | 3 => .object "HollowShire$Reader"
  | 4 => .array (.object "HollowShire$Text")
  | 5 => .array .int
  | _ => .array .int
abbrev wsX40 : List Cond := u_ws RX4 TX4 7
theorem nmX4 : ∀ a, a < 7 → ∀ b, b < 7 → a ≠ b → (TX4 a).2.1 ≠ (TX4 b).2.1 := by decide +kernel
theorem tyX4_ok : ∀ k, k < 7 → parseFieldDescriptor (TX4 k).2.2.1 = some (tyX4 k) := by decide +kernel
abbrev cX4_init : ByteArray := prog_6_method_1_code
def yX4_init : MethodName := ⟨RX4, "<init>", "()V"⟩
abbrev cX4_feedFirstText : ByteArray := prog_6_method_2_code
def yX4_feedFirstText : MethodName := ⟨RX4, "feedFirstText", "()V"⟩
abbrev cX4_takeTape : ByteArray := prog_6_method_3_code
def yX4_takeTape : MethodName := ⟨RX4, "takeTape", "()I"⟩
abbrev cX4_tellSpan : ByteArray := prog_6_method_4_code
def yX4_tellSpan : MethodName := ⟨RX4, "tellSpan", "(II)V"⟩
abbrev cX4_tellGround : ByteArray := prog_6_method_5_code
def yX4_tellGround : MethodName := ⟨RX4, "tellGround", "(LHollowShire$Ground;II)V"⟩
abbrev cX4_value : ByteArray := prog_6_method_6_code
def yX4_value : MethodName := ⟨RX4, "value", "(I)I"⟩
abbrev cX4_joined : ByteArray := prog_6_method_7_code
def yX4_joined : MethodName := ⟨RX4, "joined", "(III)I"⟩
def RX5 : String := "HollowShire$Sheet"
def TX5 : u_T := fun k => match k with
  | 0 => ("HollowShire$Sheet", "sort", "I", false)
  | 1 => ("HollowShire$Sheet", "size", "I", false)
  | _ => ("HollowShire$Sheet", "numbers", "[I", true)
def tyX5 : Nat → FieldType := fun k => match k with
  | 0 => .int
  | 1 => .int
  | _ => .array .int
abbrev wsX50 : List Cond := u_ws RX5 TX5 3
theorem nmX5 : ∀ a, a < 3 → ∀ b, b < 3 → a ≠ b → (TX5 a).2.1 ≠ (TX5 b).2.1 := by decide +kernel
theorem tyX5_ok : ∀ k, k < 3 → parseFieldDescriptor (TX5 k).2.2.1 = some (tyX5 k) := by decide +kernel
abbrev cX5_init : ByteArray := prog_7_method_1_code
def yX5_init : MethodName := ⟨RX5, "<init>", "()V"⟩
abbrev cX5_isMissing : ByteArray := prog_7_method_2_code
def yX5_isMissing : MethodName := ⟨RX5, "isMissing", "()Z"⟩
abbrev cX5_has : ByteArray := prog_7_method_3_code
def yX5_has : MethodName := ⟨RX5, "has", "(I)Z"⟩
abbrev cX5_begin : ByteArray := prog_7_method_4_code
def yX5_begin : MethodName := ⟨RX5, "begin", "(II)V"⟩
abbrev cX5_put : ByteArray := prog_7_method_5_code
def yX5_put : MethodName := ⟨RX5, "put", "(II)V"⟩
def RX6 : String := "HollowShire$Signs"
def TX6 : u_T := fun k => match k with
  | 0 => ("HollowShire$Signs", "size", "I", false)
  | 1 => ("HollowShire$Signs", "kind", "[I", true)
  | 2 => ("HollowShire$Signs", "cell", "[I", true)
  | 3 => ("HollowShire$Signs", "value", "[I", true)
  | 4 => ("HollowShire$Signs", "month", "[I", true)
  | 5 => ("HollowShire$Signs", "mended", "[I", true)
  | _ => ("HollowShire$Signs", "mendMonth", "[I", true)
def tyX6 : Nat → FieldType := fun k => match k with
  | 0 => .int
  | 1 => .array .int
  | 2 => .array .int
  | 3 => .array .int
  | 4 => .array .int
  | 5 => .array .int
  | _ => .array .int
abbrev wsX60 : List Cond := u_ws RX6 TX6 7
theorem nmX6 : ∀ a, a < 7 → ∀ b, b < 7 → a ≠ b → (TX6 a).2.1 ≠ (TX6 b).2.1 := by decide +kernel
theorem tyX6_ok : ∀ k, k < 7 → parseFieldDescriptor (TX6 k).2.2.1 = some (tyX6 k) := by decide +kernel
abbrev cX6_init : ByteArray := prog_8_method_1_code
def yX6_init : MethodName := ⟨RX6, "<init>", "()V"⟩
abbrev cX6_add : ByteArray := prog_8_method_2_code
def yX6_add : MethodName := ⟨RX6, "add", "(IIII)I"⟩
abbrev cX6_valueKnown : ByteArray := prog_8_method_3_code
def yX6_valueKnown : MethodName := ⟨RX6, "valueKnown", "(II)I"⟩
abbrev cX6_least : ByteArray := prog_8_method_4_code
def yX6_least : MethodName := ⟨RX6, "least", "(III)I"⟩
abbrev cX6_most : ByteArray := prog_8_method_5_code
def yX6_most : MethodName := ⟨RX6, "most", "(III)I"⟩
abbrev cX6_speaks : ByteArray := prog_8_method_6_code
def yX6_speaks : MethodName := ⟨RX6, "speaks", "(IIII)Z"⟩
abbrev cX6_leastBy : ByteArray := prog_8_method_7_code
def yX6_leastBy : MethodName := ⟨RX6, "leastBy", "(II)I"⟩
abbrev cX6_mostBy : ByteArray := prog_8_method_8_code
def yX6_mostBy : MethodName := ⟨RX6, "mostBy", "(II)I"⟩
abbrev cX6_trustIn : ByteArray := prog_8_method_9_code
def yX6_trustIn : MethodName := ⟨RX6, "trustIn", "(I)I"⟩
abbrev cX6_isOneOf : ByteArray := prog_8_method_10_code
def yX6_isOneOf : MethodName := ⟨RX6, "isOneOf", "(II)Z"⟩
def RX7 : String := "HollowShire$Tape"
def TX7 : u_T := fun k => match k with
  | 0 => ("HollowShire$Tape", "size", "I", false)
  | 1 => ("HollowShire$Tape", "tokens", "I", false)
  | 2 => ("HollowShire$Tape", "bytes", "[I", true)
  | 3 => ("HollowShire$Tape", "place", "[I", true)
  | 4 => ("HollowShire$Tape", "length", "[I", true)
  | 5 => ("HollowShire$Tape", "kind", "[I", true)
  | _ => ("HollowShire$Tape", "number", "[I", true)
def tyX7 : Nat → FieldType := fun k => match k with
  | 0 => .int
  | 1 => .int
  | 2 => .array .int
  | 3 => .array .int
  | 4 => .array .int
  | 5 => .array .int
  | _ => .array .int
abbrev wsX70 : List Cond := u_ws RX7 TX7 7
theorem nmX7 : ∀ a, a < 7 → ∀ b, b < 7 → a ≠ b → (TX7 a).2.1 ≠ (TX7 b).2.1 := by decide +kernel
theorem tyX7_ok : ∀ k, k < 7 → parseFieldDescriptor (TX7 k).2.2.1 = some (tyX7 k) := by decide +kernel
abbrev cX7_init : ByteArray := prog_9_method_1_code
def yX7_init : MethodName := ⟨RX7, "<init>", "()V"⟩
abbrev cX7_put : ByteArray := prog_9_method_2_code
def yX7_put : MethodName := ⟨RX7, "put", "(I)V"⟩
abbrev cX7_kindAt : ByteArray := prog_9_method_3_code
def yX7_kindAt : MethodName := ⟨RX7, "kindAt", "(I)I"⟩
abbrev cX7_placeAt : ByteArray := prog_9_method_4_code
def yX7_placeAt : MethodName := ⟨RX7, "placeAt", "(I)I"⟩
abbrev cX7_numberAt : ByteArray := prog_9_method_5_code
def yX7_numberAt : MethodName := ⟨RX7, "numberAt", "(I)I"⟩
abbrev cX7_split : ByteArray := prog_9_method_6_code
def yX7_split : MethodName := ⟨RX7, "split", "()V"⟩
abbrev cX7_goOn : ByteArray := prog_9_method_7_code
def yX7_goOn : MethodName := ⟨RX7, "goOn", "(II)Z"⟩
abbrev cX7_tellKind : ByteArray := prog_9_method_8_code
def yX7_tellKind : MethodName := ⟨RX7, "tellKind", "(I)V"⟩
abbrev cX7_tellWord : ByteArray := prog_9_method_9_code
def yX7_tellWord : MethodName := ⟨RX7, "tellWord", "(I)V"⟩
abbrev cX7_spells : ByteArray := prog_9_method_10_code
def yX7_spells : MethodName := ⟨RX7, "spells", "(ILjava/lang/String;)Z"⟩
abbrev cX7_tellNumber : ByteArray := prog_9_method_11_code
def yX7_tellNumber : MethodName := ⟨RX7, "tellNumber", "(I)V"⟩
abbrev cX7_isLetter : ByteArray := prog_9_method_12_code
def yX7_isLetter : MethodName := ⟨RX7, "isLetter", "(I)Z"⟩
abbrev cX7_isDigit : ByteArray := prog_9_method_13_code
def yX7_isDigit : MethodName := ⟨RX7, "isDigit", "(I)Z"⟩
abbrev cX7_isMark : ByteArray := prog_9_method_14_code
def yX7_isMark : MethodName := ⟨RX7, "isMark", "(I)Z"⟩
abbrev cX7_wordAt : ByteArray := prog_9_method_15_code
def yX7_wordAt : MethodName := ⟨RX7, "wordAt", "(I)Ljava/lang/String;"⟩
def RX8 : String := "HollowShire$Text"
def TX8 : u_T := fun k => match k with
  | 0 => ("HollowShire$Text", "steps", "I", false)
  | 1 => ("HollowShire$Text", "step", "[I", true)
  | _ => ("HollowShire$Text", "partEnd", "[I", true)
def tyX8 : Nat → FieldType := fun k => match k with
  | 0 => .int
  | 1 => .array .int
  | _ => .array .int
abbrev wsX80 : List Cond := u_ws RX8 TX8 3
theorem nmX8 : ∀ a, a < 3 → ∀ b, b < 3 → a ≠ b → (TX8 a).2.1 ≠ (TX8 b).2.1 := by decide +kernel
theorem tyX8_ok : ∀ k, k < 3 → parseFieldDescriptor (TX8 k).2.2.1 = some (tyX8 k) := by decide +kernel
abbrev cX8_init : ByteArray := prog_10_method_1_code
def yX8_init : MethodName := ⟨RX8, "<init>", "()V"⟩
abbrev cX8_add : ByteArray := prog_10_method_2_code
def yX8_add : MethodName := ⟨RX8, "add", "(I)V"⟩
abbrev cX8_become : ByteArray := prog_10_method_3_code
def yX8_become : MethodName := ⟨RX8, "become", "(LHollowShire$Text;)V"⟩
def RX9 : String := "HollowShire$Told"
def TX9 : u_T := fun k => match k with
  | 0 => ("HollowShire$Told", "size", "I", false)
  | 1 => ("HollowShire$Told", "cell", "[I", true)
  | 2 => ("HollowShire$Told", "much", "[I", true)
  | _ => ("HollowShire$Told", "month", "[I", true)
def tyX9 : Nat → FieldType := fun k => match k with
  | 0 => .int
  | 1 => .array .int
  | 2 => .array .int
  | _ => .array .int
abbrev wsX90 : List Cond := u_ws RX9 TX9 4
theorem nmX9 : ∀ a, a < 4 → ∀ b, b < 4 → a ≠ b → (TX9 a).2.1 ≠ (TX9 b).2.1 := by decide +kernel
theorem tyX9_ok : ∀ k, k < 4 → parseFieldDescriptor (TX9 k).2.2.1 = some (tyX9 k) := by decide +kernel
abbrev cX9_init : ByteArray := prog_11_method_1_code
def yX9_init : MethodName := ⟨RX9, "<init>", "(I)V"⟩
abbrev cX9_isFull : ByteArray := prog_11_method_2_code
def yX9_isFull : MethodName := ⟨RX9, "isFull", "()Z"⟩
abbrev cX9_add : ByteArray := prog_11_method_3_code
def yX9_add : MethodName := ⟨RX9, "add", "(III)I"⟩
def RX10 : String := "HollowShire"
def TX10 : u_T := fun k => match k with
  | 0 => ("HollowShire", "built", "LHollowShire$Built;", true)
  | 1 => ("HollowShire", "now", "LHollowShire$Ground;", true)
  | 2 => ("HollowShire", "aside", "LHollowShire$Ground;", true)
  | 3 => ("HollowShire", "kept", "LHollowShire$Ground;", true)
  | 4 => ("HollowShire", "isKept", "Z", false)
  | 5 => ("HollowShire", "signBook", "LHollowShire$Signs;", true)
  | 6 => ("HollowShire", "lostBook", "LHollowShire$Told;", true)
  | 7 => ("HollowShire", "warnBook", "LHollowShire$Told;", true)
  | 8 => ("HollowShire", "lastFit", "LHollowShire$Fit;", true)
  | 9 => ("HollowShire", "rules", "LHollowShire$Rules;", true)
  | 10 => ("HollowShire", "rows", "[LHollowShire$Sheet;", true)
  | 11 => ("HollowShire", "lookWorth", "[I", true)
  | 12 => ("HollowShire", "lookSet", "I", false)
  | _ => ("HollowShire", "planSet", "I", false)
def tyX10 : Nat → FieldType := fun k => match k with
  | 0 => .object "HollowShire$Built"
  | 1 => .object "HollowShire$Ground"
  | 2 => .object "HollowShire$Ground"
  | 3 => .object "HollowShire$Ground"
  | 4 => .boolean
  | 5 => .object "HollowShire$Signs"
  | 6 => .object "HollowShire$Told"
  | 7 => .object "HollowShire$Told"
  | 8 => .object "HollowShire$Fit"
  | 9 => .object "HollowShire$Rules"
  | 10 => .array (.object "HollowShire$Sheet")
  | 11 => .array .int
  | 12 => .int
  | _ => .int
abbrev wsX100 : List Cond := u_ws RX10 TX10 14
theorem nmX10 : ∀ a, a < 14 → ∀ b, b < 14 → a ≠ b → (TX10 a).2.1 ≠ (TX10 b).2.1 := by decide +kernel
theorem tyX10_ok : ∀ k, k < 14 → parseFieldDescriptor (TX10 k).2.2.1 = some (tyX10 k) := by decide +kernel
abbrev cX10_init : ByteArray := prog_1_method_1_code
def yX10_init : MethodName := ⟨RX10, "<init>", "()V"⟩
abbrev cX10_ground : ByteArray := prog_1_method_2_code
def yX10_ground : MethodName := ⟨RX10, "ground", "(III)I"⟩
abbrev cX10_house : ByteArray := prog_1_method_3_code
def yX10_house : MethodName := ⟨RX10, "house", "(III)I"⟩
abbrev cX10_pump : ByteArray := prog_1_method_4_code
def yX10_pump : MethodName := ⟨RX10, "pump", "(I)I"⟩
abbrev cX10_pumping : ByteArray := prog_1_method_5_code
def yX10_pumping : MethodName := ⟨RX10, "pumping", "(II)I"⟩
abbrev cX10_rain : ByteArray := prog_1_method_6_code
def yX10_rain : MethodName := ⟨RX10, "rain", "(I)I"⟩
abbrev cX10_move : ByteArray := prog_1_method_7_code
def yX10_move : MethodName := ⟨RX10, "move", "(I)I"⟩
abbrev cX10_run : ByteArray := prog_1_method_8_code
def yX10_run : MethodName := ⟨RX10, "run", "(I)I"⟩
abbrev cX10_sign : ByteArray := prog_1_method_9_code
def yX10_sign : MethodName := ⟨RX10, "sign", "(III)I"⟩
abbrev cX10_mend : ByteArray := prog_1_method_10_code
def yX10_mend : MethodName := ⟨RX10, "mend", "(II)I"⟩
abbrev cX10_signTold : ByteArray := prog_1_method_11_code
def yX10_signTold : MethodName := ⟨RX10, "signTold", "(III)I"⟩
abbrev cX10_span : ByteArray := prog_1_method_12_code
def yX10_span : MethodName := ⟨RX10, "span", "(III)I"⟩
abbrev cX10_lost : ByteArray := prog_1_method_13_code
def yX10_lost : MethodName := ⟨RX10, "lost", "(II)I"⟩
abbrev cX10_fit : ByteArray := prog_1_method_14_code
def yX10_fit : MethodName := ⟨RX10, "fit", "(II)I"⟩
abbrev cX10_fitTold : ByteArray := prog_1_method_15_code
def yX10_fitTold : MethodName := ⟨RX10, "fitTold", "(II)I"⟩
abbrev cX10_feed : ByteArray := prog_1_method_16_code
def yX10_feed : MethodName := ⟨RX10, "feed", "(JI)I"⟩
abbrev cX10_text : ByteArray := prog_1_method_17_code
def yX10_text : MethodName := ⟨RX10, "text", "()I"⟩
abbrev cX10_force : ByteArray := prog_1_method_18_code
def yX10_force : MethodName := ⟨RX10, "force", "(I)I"⟩
abbrev cX10_law : ByteArray := prog_1_method_19_code
def yX10_law : MethodName := ⟨RX10, "law", "(III)J"⟩
abbrev cX10_moved : ByteArray := prog_1_method_20_code
def yX10_moved : MethodName := ⟨RX10, "moved", "(I)J"⟩
abbrev cX10_part : ByteArray := prog_1_method_21_code
def yX10_part : MethodName := ⟨RX10, "part", "(II)J"⟩
abbrev cX10_looks : ByteArray := prog_1_method_22_code
def yX10_looks : MethodName := ⟨RX10, "looks", "(III)I"⟩
abbrev cX10_lookTold : ByteArray := prog_1_method_23_code
def yX10_lookTold : MethodName := ⟨RX10, "lookTold", "()I"⟩
abbrev cX10_often : ByteArray := prog_1_method_24_code
def yX10_often : MethodName := ⟨RX10, "often", "(II)J"⟩
abbrev cX10_warn : ByteArray := prog_1_method_25_code
def yX10_warn : MethodName := ⟨RX10, "warn", "(I)I"⟩
abbrev cX10_warned : ByteArray := prog_1_method_26_code
def yX10_warned : MethodName := ⟨RX10, "warned", "(II)I"⟩
abbrev cX10_cellTold : ByteArray := prog_1_method_27_code
def yX10_cellTold : MethodName := ⟨RX10, "cellTold", "(II)I"⟩
abbrev cX10_houseTold : ByteArray := prog_1_method_28_code
def yX10_houseTold : MethodName := ⟨RX10, "houseTold", "(II)I"⟩
abbrev cX10_beside : ByteArray := prog_1_method_29_code
def yX10_beside : MethodName := ⟨RX10, "beside", "(IIII)J"⟩
abbrev cX10_plan : ByteArray := prog_1_method_30_code
def yX10_plan : MethodName := ⟨RX10, "plan", "(III)J"⟩
abbrev cX10_planned : ByteArray := prog_1_method_31_code
def yX10_planned : MethodName := ⟨RX10, "planned", "()I"⟩
abbrev cX10_image : ByteArray := prog_1_method_32_code
def yX10_image : MethodName := ⟨RX10, "image", "()I"⟩
abbrev cX10_back : ByteArray := prog_1_method_33_code
def yX10_back : MethodName := ⟨RX10, "back", "()I"⟩
abbrev cX10_count : ByteArray := prog_1_method_34_code
def yX10_count : MethodName := ⟨RX10, "count", "(I)I"⟩
abbrev cX10_sheet : ByteArray := prog_1_method_35_code
def yX10_sheet : MethodName := ⟨RX10, "sheet", "(III)I"⟩
abbrev cX10_cell : ByteArray := prog_1_method_36_code
def yX10_cell : MethodName := ⟨RX10, "cell", "(III)I"⟩
abbrev cX10_copy : ByteArray := prog_1_method_37_code
def yX10_copy : MethodName := ⟨RX10, "copy", "(IIIII)I"⟩
abbrev cX10_signs : ByteArray := prog_1_method_38_code
def yX10_signs : MethodName := ⟨RX10, "signs", "(IIII)I"⟩
abbrev cX10_taken : ByteArray := prog_1_method_39_code
def yX10_taken : MethodName := ⟨RX10, "taken", "(III)I"⟩
abbrev cX10_within : ByteArray := prog_1_method_40_code
def yX10_within : MethodName := ⟨RX10, "within", "(III)Z"⟩
abbrev cX10_isCell : ByteArray := prog_1_method_41_code
def yX10_isCell : MethodName := ⟨RX10, "isCell", "(I)Z"⟩
abbrev cX10_isSheet : ByteArray := prog_1_method_42_code
def yX10_isSheet : MethodName := ⟨RX10, "isSheet", "(I)Z"⟩
abbrev cX10_isHouse : ByteArray := prog_1_method_43_code
def yX10_isHouse : MethodName := ⟨RX10, "isHouse", "(I)Z"⟩
abbrev cX10_isSign : ByteArray := prog_1_method_44_code
def yX10_isSign : MethodName := ⟨RX10, "isSign", "(I)Z"⟩
abbrev cX10_isKnown : ByteArray := prog_1_method_45_code
def yX10_isKnown : MethodName := ⟨RX10, "isKnown", "(I)Z"⟩
abbrev cX10_monthsAreLeft : ByteArray := prog_1_method_46_code
def yX10_monthsAreLeft : MethodName := ⟨RX10, "monthsAreLeft", "(I)Z"⟩
abbrev cX10_holdsUnlikeCells : ByteArray := prog_1_method_47_code
def yX10_holdsUnlikeCells : MethodName := ⟨RX10, "holdsUnlikeCells", "(LHollowShire$Sheet;)Z"⟩
abbrev cX10_holdsLooks : ByteArray := prog_1_method_48_code
def yX10_holdsLooks : MethodName := ⟨RX10, "holdsLooks", "(LHollowShire$Sheet;)Z"⟩
abbrev cX10_holdsHouses : ByteArray := prog_1_method_49_code
def yX10_holdsHouses : MethodName := ⟨RX10, "holdsHouses", "(LHollowShire$Sheet;)Z"⟩
abbrev cX10_isNear : ByteArray := prog_1_method_50_code
def yX10_isNear : MethodName := ⟨RX10, "isNear", "(II)Z"⟩
abbrev cX10_greatestShared : ByteArray := prog_1_method_51_code
def yX10_greatestShared : MethodName := ⟨RX10, "greatestShared", "(II)I"⟩
abbrev cX10_ruled : ByteArray := prog_1_method_52_code
def yX10_ruled : MethodName := ⟨RX10, "ruled", "(III)I"⟩
abbrev cX10_worthOfLook : ByteArray := prog_1_method_53_code
def yX10_worthOfLook : MethodName := ⟨RX10, "worthOfLook", "(II)I"⟩
abbrev cX10_priceOfSet : ByteArray := prog_1_method_54_code
def yX10_priceOfSet : MethodName := ⟨RX10, "priceOfSet", "(LHollowShire$Sheet;I)I"⟩
abbrev cX10_worthOfSet : ByteArray := prog_1_method_55_code
def yX10_worthOfSet : MethodName := ⟨RX10, "worthOfSet", "(LHollowShire$Sheet;I)I"⟩
abbrev cX10_cameTrue : ByteArray := prog_1_method_56_code
def yX10_cameTrue : MethodName := ⟨RX10, "cameTrue", "(II)Z"⟩
abbrev cX10_trueWarnings : ByteArray := prog_1_method_57_code
def yX10_trueWarnings : MethodName := ⟨RX10, "trueWarnings", "(I)I"⟩
abbrev cX10_oldWarnings : ByteArray := prog_1_method_58_code
def yX10_oldWarnings : MethodName := ⟨RX10, "oldWarnings", "(I)I"⟩
abbrev cX10_missedCells : ByteArray := prog_1_method_59_code
def yX10_missedCells : MethodName := ⟨RX10, "missedCells", "(I)I"⟩
abbrev cX10_housesOfSet : ByteArray := prog_1_method_60_code
def yX10_housesOfSet : MethodName := ⟨RX10, "housesOfSet", "(LHollowShire$Sheet;I)I"⟩
abbrev cX10_peopleToMove : ByteArray := prog_1_method_61_code
def yX10_peopleToMove : MethodName := ⟨RX10, "peopleToMove", "(I)I"⟩
abbrev cX10_sparedBy : ByteArray := prog_1_method_62_code
def yX10_sparedBy : MethodName := ⟨RX10, "sparedBy", "(I)I"⟩
def RX11 : String := "HollowShireModel"
def TX11 : u_T := fun k => match k with
  | 0 => ("HollowShireModel", "month", "I", false)
  | 1 => ("HollowShireModel", "rain", "I", false)
  | 2 => ("HollowShireModel", "harm", "I", false)
  | 3 => ("HollowShireModel", "houses", "I", false)
  | 4 => ("HollowShireModel", "pumps", "I", false)
  | 5 => ("HollowShireModel", "rock", "[I", true)
  | 6 => ("HollowShireModel", "hollow", "[I", true)
  | 7 => ("HollowShireModel", "water", "[I", true)
  | 8 => ("HollowShireModel", "fell", "[I", true)
  | 9 => ("HollowShireModel", "flows", "[I", true)
  | 10 => ("HollowShireModel", "solves", "[I", true)
  | 11 => ("HollowShireModel", "bears", "[I", true)
  | 12 => ("HollowShireModel", "counted", "[I", true)
  | 13 => ("HollowShireModel", "fallen", "[I", true)
  | 14 => ("HollowShireModel", "houseCell", "[I", true)
  | 15 => ("HollowShireModel", "worth", "[I", true)
  | 16 => ("HollowShireModel", "people", "[I", true)
  | 17 => ("HollowShireModel", "gone", "[I", true)
  | 18 => ("HollowShireModel", "pumpCell", "[I", true)
  | 19 => ("HollowShireModel", "pumping", "[I", true)
  | 20 => ("HollowShireModel", "isMoved", "[Z", true)
  | 21 => ("HollowShireModel", "signs", "I", false)
  | 22 => ("HollowShireModel", "signKind", "[I", true)
  | 23 => ("HollowShireModel", "signCell", "[I", true)
  | 24 => ("HollowShireModel", "signMonth", "[I", true)
  | 25 => ("HollowShireModel", "signValue", "[I", true)
  | 26 => ("HollowShireModel", "mendValue", "[I", true)
  | 27 => ("HollowShireModel", "mendMonth", "[I", true)
  | 28 => ("HollowShireModel", "spanLeast", "I", false)
  | 29 => ("HollowShireModel", "spanMost", "I", false)
  | 30 => ("HollowShireModel", "losts", "I", false)
  | 31 => ("HollowShireModel", "lostCell", "[I", true)
  | 32 => ("HollowShireModel", "lostMuch", "[I", true)
  | 33 => ("HollowShireModel", "lostMonth", "[I", true)
  | 34 => ("HollowShireModel", "fitMany", "I", false)
  | 35 => ("HollowShireModel", "rivals", "I", false)
  | 36 => ("HollowShireModel", "hasFit", "Z", false)
  | 37 => ("HollowShireModel", "sizes", "[I", true)
  | 38 => ("HollowShireModel", "fitCell", "[I", true)
  | 39 => ("HollowShireModel", "fitLeast", "[I", true)
  | 40 => ("HollowShireModel", "fitMost", "[I", true)
  | 41 => ("HollowShireModel", "size", "[I", true)
  | 42 => ("HollowShireModel", "bestSize", "[I", true)
  | 43 => ("HollowShireModel", "sureLeast", "[I", true)
  | 44 => ("HollowShireModel", "sureMost", "[I", true)
  | 45 => ("HollowShireModel", "texts", "I", false)
  | 46 => ("HollowShireModel", "rule", "I", false)
  | 47 => ("HollowShireModel", "fed", "I", false)
  | 48 => ("HollowShireModel", "text", "[I", true)
  | 49 => ("HollowShireModel", "textLong", "[I", true)
  | 50 => ("HollowShireModel", "base", "I", false)
  | 51 => ("HollowShireModel", "many", "I", false)
  | 52 => ("HollowShireModel", "at", "I", false)
  | 53 => ("HollowShireModel", "token", "I", false)
  | 54 => ("HollowShireModel", "tokenAt", "I", false)
  | 55 => ("HollowShireModel", "value", "I", false)
  | 56 => ("HollowShireModel", "waits", "[I", true)
  | 57 => ("HollowShireModel", "pile", "[I", true)
  | 58 => ("HollowShireModel", "facts", "[I", true)
  | 59 => ("HollowShireModel", "waiting", "I", false)
  | 60 => ("HollowShireModel", "piled", "I", false)
  | 61 => ("HollowShireModel", "open", "I", false)
  | 62 => ("HollowShireModel", "says", "[I", true)
  | 63 => ("HollowShireModel", "lookSet", "I", false)
  | 64 => ("HollowShireModel", "lookWorth", "[I", true)
  | 65 => ("HollowShireModel", "warnings", "I", false)
  | 66 => ("HollowShireModel", "warnCell", "[I", true)
  | 67 => ("HollowShireModel", "warnMonth", "[I", true)
  | 68 => ("HollowShireModel", "kept", "[I", true)
  | 69 => ("HollowShireModel", "keptHouses", "I", false)
  | 70 => ("HollowShireModel", "keptPumps", "I", false)
  | 71 => ("HollowShireModel", "hasImage", "Z", false)
  | 72 => ("HollowShireModel", "planSet", "I", false)
  | 73 => ("HollowShireModel", "sort", "[I", true)
  | 74 => ("HollowShireModel", "length", "[I", true)
  | 75 => ("HollowShireModel", "item", "[I", true)
  | _ => ("HollowShireModel", "aside", "[I", true)
def tyX11 : Nat → FieldType := fun k => match k with
  | 0 => .int
  | 1 => .int
  | 2 => .int
  | 3 => .int
  | 4 => .int
  | 5 => .array .int
  | 6 => .array .int
  | 7 => .array .int
  | 8 => .array .int
  | 9 => .array .int
  | 10 => .array .int
  | 11 => .array .int
  | 12 => .array .int
  | 13 => .array .int
  | 14 => .array .int
  | 15 => .array .int
  | 16 => .array .int
  | 17 => .array .int
  | 18 => .array .int
  | 19 => .array .int
  | 20 => .array .boolean
  | 21 => .int
  | 22 => .array .int
  | 23 => .array .int
  | 24 => .array .int
  | 25 => .array .int
  | 26 => .array .int
  | 27 => .array .int
  | 28 => .int
  | 29 => .int
  | 30 => .int
  | 31 => .array .int
  | 32 => .array .int
  | 33 => .array .int
  | 34 => .int
  | 35 => .int
  | 36 => .boolean
  | 37 => .array .int
  | 38 => .array .int
  | 39 => .array .int
  | 40 => .array .int
  | 41 => .array .int
  | 42 => .array .int
  | 43 => .array .int
  | 44 => .array .int
  | 45 => .int
  | 46 => .int
  | 47 => .int
  | 48 => .array .int
  | 49 => .array .int
  | 50 => .int
  | 51 => .int
  | 52 => .int
  | 53 => .int
  | 54 => .int
  | 55 => .int
  | 56 => .array .int
  | 57 => .array .int
  | 58 => .array .int
  | 59 => .int
  | 60 => .int
  | 61 => .int
  | 62 => .array .int
  | 63 => .int
  | 64 => .array .int
  | 65 => .int
  | 66 => .array .int
  | 67 => .array .int
  | 68 => .array .int
  | 69 => .int
  | 70 => .int
  | 71 => .boolean
  | 72 => .int
  | 73 => .array .int
  | 74 => .array .int
  | 75 => .array .int
  | _ => .array .int
abbrev wsX110 : List Cond := u_ws RX11 TX11 77
theorem nmX11 : ∀ a, a < 77 → ∀ b, b < 77 → a ≠ b → (TX11 a).2.1 ≠ (TX11 b).2.1 := by decide +kernel
theorem tyX11_ok : ∀ k, k < 77 → parseFieldDescriptor (TX11 k).2.2.1 = some (tyX11 k) := by decide +kernel
abbrev cX11_in : ByteArray := prog_13_method_1_code
def yX11_in : MethodName := ⟨RX11, "in", "(III)Z"⟩
abbrev cX11_isCell : ByteArray := prog_13_method_2_code
def yX11_isCell : MethodName := ⟨RX11, "isCell", "(I)Z"⟩
abbrev cX11_init : ByteArray := prog_13_method_3_code
def yX11_init : MethodName := ⟨RX11, "<init>", "()V"⟩
abbrev cX11_ground : ByteArray := prog_13_method_4_code
def yX11_ground : MethodName := ⟨RX11, "ground", "(III)I"⟩
abbrev cX11_house : ByteArray := prog_13_method_5_code
def yX11_house : MethodName := ⟨RX11, "house", "(III)I"⟩
abbrev cX11_pump : ByteArray := prog_13_method_6_code
def yX11_pump : MethodName := ⟨RX11, "pump", "(I)I"⟩
abbrev cX11_pumping : ByteArray := prog_13_method_7_code
def yX11_pumping : MethodName := ⟨RX11, "pumping", "(II)I"⟩
abbrev cX11_rain : ByteArray := prog_13_method_8_code
def yX11_rain : MethodName := ⟨RX11, "rain", "(I)I"⟩
abbrev cX11_isHouse : ByteArray := prog_13_method_9_code
def yX11_isHouse : MethodName := ⟨RX11, "isHouse", "(I)Z"⟩
abbrev cX11_move : ByteArray := prog_13_method_10_code
def yX11_move : MethodName := ⟨RX11, "move", "(I)I"⟩
abbrev cX11_wentBy : ByteArray := prog_13_method_11_code
def yX11_wentBy : MethodName := ⟨RX11, "wentBy", "(II)V"⟩
abbrev cX11_between : ByteArray := prog_13_method_12_code
def yX11_between : MethodName := ⟨RX11, "between", "(II)V"⟩
abbrev cX11_harmOf : ByteArray := prog_13_method_13_code
def yX11_harmOf : MethodName := ⟨RX11, "harmOf", "(I)I"⟩
abbrev cX11_goMonth : ByteArray := prog_13_method_14_code
def yX11_goMonth : MethodName := ⟨RX11, "goMonth", "()V"⟩
abbrev cX11_run : ByteArray := prog_13_method_15_code
def yX11_run : MethodName := ⟨RX11, "run", "(I)I"⟩
abbrev cX11_isKnown : ByteArray := prog_13_method_16_code
def yX11_isKnown : MethodName := ⟨RX11, "isKnown", "(I)Z"⟩
abbrev cX11_sign : ByteArray := prog_13_method_17_code
def yX11_sign : MethodName := ⟨RX11, "sign", "(III)I"⟩
abbrev cX11_isSign : ByteArray := prog_13_method_18_code
def yX11_isSign : MethodName := ⟨RX11, "isSign", "(I)Z"⟩
abbrev cX11_mend : ByteArray := prog_13_method_19_code
def yX11_mend : MethodName := ⟨RX11, "mend", "(II)I"⟩
abbrev cX11_valueOf : ByteArray := prog_13_method_20_code
def yX11_valueOf : MethodName := ⟨RX11, "valueOf", "(II)I"⟩
abbrev cX11_leastOf : ByteArray := prog_13_method_21_code
def yX11_leastOf : MethodName := ⟨RX11, "leastOf", "(II)I"⟩
abbrev cX11_mostOf : ByteArray := prog_13_method_22_code
def yX11_mostOf : MethodName := ⟨RX11, "mostOf", "(II)I"⟩
abbrev cX11_trustOf : ByteArray := prog_13_method_23_code
def yX11_trustOf : MethodName := ⟨RX11, "trustOf", "(I)I"⟩
abbrev cX11_signTold : ByteArray := prog_13_method_24_code
def yX11_signTold : MethodName := ⟨RX11, "signTold", "(III)I"⟩
abbrev cX11_findSpan : ByteArray := prog_13_method_25_code
def yX11_findSpan : MethodName := ⟨RX11, "findSpan", "(III)V"⟩
abbrev cX11_span : ByteArray := prog_13_method_26_code
def yX11_span : MethodName := ⟨RX11, "span", "(III)I"⟩
abbrev cX11_lost : ByteArray := prog_13_method_27_code
def yX11_lost : MethodName := ⟨RX11, "lost", "(II)I"⟩
abbrev cX11_isNear : ByteArray := prog_13_method_28_code
def yX11_isNear : MethodName := ⟨RX11, "isNear", "(II)Z"⟩
abbrev cX11_isFit : ByteArray := prog_13_method_29_code
def yX11_isFit : MethodName := ⟨RX11, "isFit", "(I)Z"⟩
abbrev cX11_fit : ByteArray := prog_13_method_30_code
def yX11_fit : MethodName := ⟨RX11, "fit", "(II)I"⟩
abbrev cX11_fitTold : ByteArray := prog_13_method_31_code
def yX11_fitTold : MethodName := ⟨RX11, "fitTold", "(II)I"⟩
abbrev cX11_feed : ByteArray := prog_13_method_32_code
def yX11_feed : MethodName := ⟨RX11, "feed", "(JI)I"⟩
abbrev cX11_byteAt : ByteArray := prog_13_method_33_code
def yX11_byteAt : MethodName := ⟨RX11, "byteAt", "(I)I"⟩
abbrev cX11_isLetter : ByteArray := prog_13_method_34_code
def yX11_isLetter : MethodName := ⟨RX11, "isLetter", "(I)Z"⟩
abbrev cX11_isDigit : ByteArray := prog_13_method_35_code
def yX11_isDigit : MethodName := ⟨RX11, "isDigit", "(I)Z"⟩
abbrev cX11_wordOf : ByteArray := prog_13_method_36_code
def yX11_wordOf : MethodName := ⟨RX11, "wordOf", "(J)I"⟩
abbrev cX11_step : ByteArray := prog_13_method_37_code
def yX11_step : MethodName := ⟨RX11, "step", "()V"⟩
abbrev cX11_isKey : ByteArray := prog_13_method_38_code
def yX11_isKey : MethodName := ⟨RX11, "isKey", "(I)Z"⟩
abbrev cX11_rankOf : ByteArray := prog_13_method_39_code
def yX11_rankOf : MethodName := ⟨RX11, "rankOf", "(I)I"⟩
abbrev cX11_work : ByteArray := prog_13_method_40_code
def yX11_work : MethodName := ⟨RX11, "work", "(I)V"⟩
abbrev cX11_settle : ByteArray := prog_13_method_41_code
def yX11_settle : MethodName := ⟨RX11, "settle", "(I)V"⟩
abbrev cX11_opens : ByteArray := prog_13_method_42_code
def yX11_opens : MethodName := ⟨RX11, "opens", "(I)Z"⟩
abbrev cX11_push : ByteArray := prog_13_method_43_code
def yX11_push : MethodName := ⟨RX11, "push", "(I)V"⟩
abbrev cX11_joins : ByteArray := prog_13_method_44_code
def yX11_joins : MethodName := ⟨RX11, "joins", "(I)Z"⟩
abbrev cX11_joint : ByteArray := prog_13_method_45_code
def yX11_joint : MethodName := ⟨RX11, "joint", "()I"⟩
abbrev cX11_takesE : ByteArray := prog_13_method_46_code
def yX11_takesE : MethodName := ⟨RX11, "takesE", "()Z"⟩
abbrev cX11_goes : ByteArray := prog_13_method_47_code
def yX11_goes : MethodName := ⟨RX11, "goes", "(I)Z"⟩
abbrev cX11_text : ByteArray := prog_13_method_48_code
def yX11_text : MethodName := ⟨RX11, "text", "()I"⟩
abbrev cX11_force : ByteArray := prog_13_method_49_code
def yX11_force : MethodName := ⟨RX11, "force", "(I)I"⟩
abbrev cX11_peopleIn : ByteArray := prog_13_method_50_code
def yX11_peopleIn : MethodName := ⟨RX11, "peopleIn", "(I)I"⟩
abbrev cX11_doubtOf : ByteArray := prog_13_method_51_code
def yX11_doubtOf : MethodName := ⟨RX11, "doubtOf", "(II)I"⟩
abbrev cX11_findFacts : ByteArray := prog_13_method_52_code
def yX11_findFacts : MethodName := ⟨RX11, "findFacts", "(II)V"⟩
abbrev cX11_lawOf : ByteArray := prog_13_method_53_code
def yX11_lawOf : MethodName := ⟨RX11, "lawOf", "(III)I"⟩
abbrev cX11_law : ByteArray := prog_13_method_54_code
def yX11_law : MethodName := ⟨RX11, "law", "(III)J"⟩
abbrev cX11_moved : ByteArray := prog_13_method_55_code
def yX11_moved : MethodName := ⟨RX11, "moved", "(I)J"⟩
abbrev cX11_part : ByteArray := prog_13_method_56_code
def yX11_part : MethodName := ⟨RX11, "part", "(II)J"⟩
abbrev cX11_looks : ByteArray := prog_13_method_57_code
def yX11_looks : MethodName := ⟨RX11, "looks", "(III)I"⟩
abbrev cX11_lookTold : ByteArray := prog_13_method_58_code
def yX11_lookTold : MethodName := ⟨RX11, "lookTold", "()I"⟩
abbrev cX11_divisor : ByteArray := prog_13_method_59_code
def yX11_divisor : MethodName := ⟨RX11, "divisor", "(JJ)J"⟩
abbrev cX11_often : ByteArray := prog_13_method_60_code
def yX11_often : MethodName := ⟨RX11, "often", "(II)J"⟩
abbrev cX11_warn : ByteArray := prog_13_method_61_code
def yX11_warn : MethodName := ⟨RX11, "warn", "(I)I"⟩
abbrev cX11_isTrue : ByteArray := prog_13_method_62_code
def yX11_isTrue : MethodName := ⟨RX11, "isTrue", "(II)Z"⟩
abbrev cX11_warned : ByteArray := prog_13_method_63_code
def yX11_warned : MethodName := ⟨RX11, "warned", "(II)I"⟩
abbrev cX11_cellTold : ByteArray := prog_13_method_64_code
def yX11_cellTold : MethodName := ⟨RX11, "cellTold", "(II)I"⟩
abbrev cX11_houseTold : ByteArray := prog_13_method_65_code
def yX11_houseTold : MethodName := ⟨RX11, "houseTold", "(II)I"⟩
abbrev cX11_cellsFallen : ByteArray := prog_13_method_66_code
def yX11_cellsFallen : MethodName := ⟨RX11, "cellsFallen", "()I"⟩
abbrev cX11_keep : ByteArray := prog_13_method_67_code
def yX11_keep : MethodName := ⟨RX11, "keep", "(I)V"⟩
abbrev cX11_putBack : ByteArray := prog_13_method_68_code
def yX11_putBack : MethodName := ⟨RX11, "putBack", "(III)V"⟩
abbrev cX11_beside : ByteArray := prog_13_method_69_code
def yX11_beside : MethodName := ⟨RX11, "beside", "(IIII)J"⟩
abbrev cX11_plan : ByteArray := prog_13_method_70_code
def yX11_plan : MethodName := ⟨RX11, "plan", "(III)J"⟩
abbrev cX11_planned : ByteArray := prog_13_method_71_code
def yX11_planned : MethodName := ⟨RX11, "planned", "()I"⟩
abbrev cX11_image : ByteArray := prog_13_method_72_code
def yX11_image : MethodName := ⟨RX11, "image", "()I"⟩
abbrev cX11_back : ByteArray := prog_13_method_73_code
def yX11_back : MethodName := ⟨RX11, "back", "()I"⟩
abbrev cX11_count : ByteArray := prog_13_method_74_code
def yX11_count : MethodName := ⟨RX11, "count", "(I)I"⟩
abbrev cX11_isSheet : ByteArray := prog_13_method_75_code
def yX11_isSheet : MethodName := ⟨RX11, "isSheet", "(I)Z"⟩
abbrev cX11_sheet : ByteArray := prog_13_method_76_code
def yX11_sheet : MethodName := ⟨RX11, "sheet", "(III)I"⟩
abbrev cX11_cell : ByteArray := prog_13_method_77_code
def yX11_cell : MethodName := ⟨RX11, "cell", "(III)I"⟩
abbrev cX11_copy : ByteArray := prog_13_method_78_code
def yX11_copy : MethodName := ⟨RX11, "copy", "(IIIII)I"⟩
abbrev cX11_signs : ByteArray := prog_13_method_79_code
def yX11_signs : MethodName := ⟨RX11, "signs", "(IIII)I"⟩
abbrev cX11_isOfKind : ByteArray := prog_13_method_80_code
def yX11_isOfKind : MethodName := ⟨RX11, "isOfKind", "(II)Z"⟩
abbrev cX11_taken : ByteArray := prog_13_method_81_code
def yX11_taken : MethodName := ⟨RX11, "taken", "(III)I"⟩
def RJ13 : String := "java/lang/Long"
def TJ13 : u_T := fun k => match k with
  | _ => ("", "", "", false)
def tyJ13 : Nat → FieldType := fun k => match k with
  | _ => .int
abbrev wsJ130 : List Cond := u_ws RJ13 TJ13 0
theorem nmJ13 : ∀ a, a < 0 → ∀ b, b < 0 → a ≠ b → (TJ13 a).2.1 ≠ (TJ13 b).2.1 := by decide +kernel
theorem tyJ13_ok : ∀ k, k < 0 → parseFieldDescriptor (TJ13 k).2.2.1 = some (tyJ13 k) := by decide +kernel
abbrev cJ13_bitCount_95d88 : ByteArray := prog_14_method_50_code
def yJ13_bitCount_95d88 : MethodName := ⟨RJ13, "bitCount", "(J)I"⟩
def RJ9 : String := "java/lang/Math"
def TJ9 : u_T := fun k => match k with
  | _ => ("", "", "", false)
def tyJ9 : Nat → FieldType := fun k => match k with
  | _ => .int
abbrev wsJ90 : List Cond := u_ws RJ9 TJ9 0
theorem nmJ9 : ∀ a, a < 0 → ∀ b, b < 0 → a ≠ b → (TJ9 a).2.1 ≠ (TJ9 b).2.1 := by decide +kernel
theorem tyJ9_ok : ∀ k, k < 0 → parseFieldDescriptor (TJ9 k).2.2.1 = some (tyJ9 k) := by decide +kernel
abbrev cJ9_abs_0f7a4 : ByteArray := prog_15_method_59_code
def yJ9_abs_0f7a4 : MethodName := ⟨RJ9, "abs", "(I)I"⟩
abbrev cJ9_max_7cf53 : ByteArray := prog_15_method_65_code
def yJ9_max_7cf53 : MethodName := ⟨RJ9, "max", "(II)I"⟩
abbrev cJ9_min_7cf53 : ByteArray := prog_15_method_69_code
def yJ9_min_7cf53 : MethodName := ⟨RJ9, "min", "(II)I"⟩
def RJ0 : String := "java/lang/String"
def TJ0 : u_T := fun k => match k with
  | _ => ("", "", "", false)
def tyJ0 : Nat → FieldType := fun k => match k with
  | _ => .int
abbrev wsJ00 : List Cond := u_ws RJ0 TJ0 0
theorem nmJ0 : ∀ a, a < 0 → ∀ b, b < 0 → a ≠ b → (TJ0 a).2.1 ≠ (TJ0 b).2.1 := by decide +kernel
theorem tyJ0_ok : ∀ k, k < 0 → parseFieldDescriptor (TJ0 k).2.2.1 = some (tyJ0 k) := by decide +kernel
abbrev cJ0_length_8abf5 : ByteArray := prog_16_method_54_code
def yJ0_length_8abf5 : MethodName := ⟨RJ0, "length", "()I"⟩
abbrev cJ0_charAt_5068e : ByteArray := prog_16_method_56_code
def yJ0_charAt_5068e : MethodName := ⟨RJ0, "charAt", "(I)C"⟩
abbrev cJ0_coder_7d493 : ByteArray := prog_16_method_152_code
def yJ0_coder_7d493 : MethodName := ⟨RJ0, "coder", "()B"⟩
abbrev cJ0_isLatin1_aae02 : ByteArray := prog_16_method_154_code
def yJ0_isLatin1_aae02 : MethodName := ⟨RJ0, "isLatin1", "()Z"⟩
abbrev cJ0_checkIndex_df160 : ByteArray := prog_16_method_155_code
def yJ0_checkIndex_df160 : MethodName := ⟨RJ0, "checkIndex", "(II)V"⟩
def RJ1 : String := "java/lang/StringLatin1"
def TJ1 : u_T := fun k => match k with
  | _ => ("", "", "", false)
def tyJ1 : Nat → FieldType := fun k => match k with
  | _ => .int
abbrev wsJ10 : List Cond := u_ws RJ1 TJ1 0
theorem nmJ1 : ∀ a, a < 0 → ∀ b, b < 0 → a ≠ b → (TJ1 a).2.1 ≠ (TJ1 b).2.1 := by decide +kernel
theorem tyJ1_ok : ∀ k, k < 0 → parseFieldDescriptor (TJ1 k).2.2.1 = some (tyJ1 k) := by decide +kernel
abbrev cJ1_charAt_3b067 : ByteArray := prog_17_method_2_code
def yJ1_charAt_3b067 : MethodName := ⟨RJ1, "charAt", "([BI)C"⟩
def RJ2 : String := "java/lang/StringUTF16"
def TJ2 : u_T := fun k => match k with
  | _ => ("", "", "", false)
def tyJ2 : Nat → FieldType := fun k => match k with
  | _ => .int
abbrev wsJ20 : List Cond := u_ws RJ2 TJ2 0
theorem nmJ2 : ∀ a, a < 0 → ∀ b, b < 0 → a ≠ b → (TJ2 a).2.1 ≠ (TJ2 b).2.1 := by decide +kernel
theorem tyJ2_ok : ∀ k, k < 0 → parseFieldDescriptor (TJ2 k).2.2.1 = some (tyJ2 k) := by decide +kernel
abbrev cJ2_getChar_3b067 : ByteArray := prog_18_method_5_code
def yJ2_getChar_3b067 : MethodName := ⟨RJ2, "getChar", "([BI)C"⟩
abbrev cJ2_length_9d52b : ByteArray := prog_18_method_6_code
def yJ2_length_9d52b : MethodName := ⟨RJ2, "length", "([B)I"⟩
abbrev cJ2_charAt_3b067 : ByteArray := prog_18_method_83_code
def yJ2_charAt_3b067 : MethodName := ⟨RJ2, "charAt", "([BI)C"⟩
abbrev cJ2_checkIndex_2214a : ByteArray := prog_18_method_91_code
def yJ2_checkIndex_2214a : MethodName := ⟨RJ2, "checkIndex", "(I[B)V"⟩
def RJ10 : String := "java/lang/System"
def TJ10 : u_T := fun k => match k with
  | _ => ("", "", "", false)
def tyJ10 : Nat → FieldType := fun k => match k with
  | _ => .int
abbrev wsJ100 : List Cond := u_ws RJ10 TJ10 0
theorem nmJ10 : ∀ a, a < 0 → ∀ b, b < 0 → a ≠ b → (TJ10 a).2.1 ≠ (TJ10 b).2.1 := by decide +kernel
theorem tyJ10_ok : ∀ k, k < 0 → parseFieldDescriptor (TJ10 k).2.2.1 = some (tyJ10 k) := by decide +kernel
def RJ3 : String := "jdk/internal/util/Preconditions"
def TJ3 : u_T := fun k => match k with
  | _ => ("", "", "", false)
def tyJ3 : Nat → FieldType := fun k => match k with
  | _ => .int
abbrev wsJ30 : List Cond := u_ws RJ3 TJ3 0
theorem nmJ3 : ∀ a, a < 0 → ∀ b, b < 0 → a ≠ b → (TJ3 a).2.1 ≠ (TJ3 b).2.1 := by decide +kernel
theorem tyJ3_ok : ∀ k, k < 0 → parseFieldDescriptor (TJ3 k).2.2.1 = some (tyJ3 k) := by decide +kernel
abbrev cJ3_checkIndex_8e157 : ByteArray := prog_20_method_11_code
def yJ3_checkIndex_8e157 : MethodName := ⟨RJ3, "checkIndex", "(IILjava/util/function/BiFunction;)I"⟩
def RL : String := "HollowShireLaw"
abbrev cL_law : ByteArray := code
def yL_law : MethodName := ⟨RL, "law", "([I)Z"⟩
end
section
/-! the words of the tables that hold in every state with these tables -/
def gw : List Cond := lw_tbl.filter goodWord
theorem gw_good : GoodIn gw gw := fun _ h => ⟨h, good_of_word (List.mem_filter.mp h).2⟩
theorem gw_at {w : Cond} (i : Nat) (h : lw_tbl[i]? = some w) (g : goodWord w = true) : w ∈ gw := List.mem_filter.mpr ⟨List.mem_of_getElem? h, g⟩
theorem gw_hts {args : Array Value} {s : State} (h : ∀ w ∈ lw_tbl, w.before args s = true) : ∀ w ∈ gw, w.before args s = true := fun w hw => h w (List.mem_filter.mp hw).1
theorem gw_of (ws : List Cond) (ps : List Nat) (hp : ws = ps.filterMap (fun i => lw_tbl[i]?)) (h : ws.all goodWord = true) : ∀ w ∈ ws, w ∈ gw := by
  intro w hw
  have h1 := List.all_eq_true.mp h w hw
  rw [hp] at hw
  obtain ⟨i, -, hi⟩ := List.mem_filterMap.mp hw
  exact gw_at i hi h1
abbrev clX : List vw_C := [(RX0, TX0, 6), (RX1, TX1, 13), (RX2, TX2, 16), (RX3, TX3, 5), (RX4, TX4, 7), (RX5, TX5, 3), (RX6, TX6, 7), (RX7, TX7, 7), (RX8, TX8, 3), (RX9, TX9, 4), (RX10, TX10, 14), (RX11, TX11, 77)]
def clN (c : Nat) : Nat := ([6, 13, 16, 5, 7, 3, 7, 7, 3, 4, 14, 77] : List Nat).getD c 0
/-- which fields are references -/
def refB : List (List Bool) := [[false, false, true, true, true, true], [false, false, false, false, true, true, true, true, true, true, false, true, true], [true, false, false, false, false, true, true, true, true, true, true, true, true, true, true, true], [true, true, false, false, false], [true, false, false, true, true, true, true], [false, false, true], [false, true, true, true, true, true, true], [false, false, true, true, true, true, true], [false, true, true], [false, true, true, true], [true, true, true, true, false, true, true, true, true, true, true, true, false, false], [false, false, false, false, false, true, true, true, true, true, true, true, true, true, true, true, true, true, true, true, true, false, true, true, true, true, true, true, false, false, false, true, true, true, false, false, false, true, true, true, true, true, true, true, true, false, false, false, true, true, false, false, false, false, false, false, true, true, true, false, false, false, true, false, true, false, true, true, true, false, false, false, false, true, true, true, true]]
def isR (c j : Nat) : Bool := (refB.getD c []).getD j false
/-! the world of one system: places 0, 1 .., each an object or an array; what the places hold: whole numbers (booleans among them); references stand -/
abbrev Sy : Type := List (Nat × Nat) × (Nat → Nat → Option Nat)
abbrev Wd : Type := Nat → Nat → Int32
abbrev Mi : Type := MethodName × ByteArray × Nat × Option FieldType
def cvt (ad : Nat → Nat) : Value → Value := fun v => match v with
  | .ref k => .ref (ad k)
  | v => v
theorem cvt_cat (ad : Nat → Nat) (v : Value) : (cvt ad v).category = v.category := by cases v <;> rfl
def entOf (cy : Nat → ClassId) (ad : Nat → Nat) (kd : Nat × Nat) (ik : Nat → Int32) (rk : Nat → Option Nat) : va_E :=
  if kd.1 < 20 then .inr (kd.1, (List.range (clN kd.1)).map fun j => if isR kd.1 j then va_rf ((rk j).map ad) else .int (ik j))
  else if kd.1 < 22 then .inl (cy kd.1, kd.2, .inl ik)
  else .inl (cy kd.1, kd.2, .inr (.inr (.inr (.inr fun j => (rk j).map ad))))
def wsO (cy : Nat → ClassId) (ad : Nat → Nat) (S : Sy) (I : Wd) : va_W := (List.range S.1.length).map fun k => (ad k, entOf cy ad (S.1.getD k (0, 0)) (I k) (S.2 k))
def tyL (cy : Nat → ClassId) : List (ClassId × FieldType) := [(cy 20, .int), (cy 21, .boolean), (cy 22, .object RX5), (cy 23, .object RX8)]
def Inj (S : Sy) (ad : Nat → Nat) : Prop := ∀ i j, i < S.1.length → j < S.1.length → ad i = ad j → i = j
def Aad (S : Sy) (ad : Nat → Nat) : Nat → Prop := fun q => ∃ k, k < S.1.length ∧ q = ad k
def rset (I : Wd) (k : Nat) (f : Nat → Int32) : Wd := fun a => if a = k then f else I a
/-- a place k of which place j becomes v -/
def ist (I : Wd) (k j : Nat) (v : Int32) : Wd := rset I k (upd (I k) j v)
theorem ws_at {cy : Nat → ClassId} {ad : Nat → Nat} {S : Sy} {I : Wd} {k : Nat} {kd : Nat × Nat} (h : S.1[k]? = some kd) : (wsO cy ad S I)[k]? = some (ad k, entOf cy ad kd (I k) (S.2 k)) := by
  have hl := (List.getElem?_eq_some_iff.mp h).1
  simp [wsO, List.getElem?_map, List.getElem?_range hl, List.getD, h]
theorem ws_set {cy : Nat → ClassId} {ad : Nat → Nat} {S : Sy} {I : Wd} {k : Nat} {kd : Nat × Nat} (h : S.1[k]? = some kd) (f : Nat → Int32) : (wsO cy ad S I).set k (ad k, entOf cy ad kd f (S.2 k)) = wsO cy ad S (rset I k f) := by
  have hl := (List.getElem?_eq_some_iff.mp h).1
  apply List.ext_getElem?
  intro j
  by_cases e : j = k
  · subst e
    rw [List.getElem?_set_self (by simpa [wsO] using hl), ws_at h]
    simp [rset]
  · rw [List.getElem?_set_ne (Ne.symm e)]
    simp only [wsO, List.getElem?_map, rset, if_neg e]
    cases hj : (List.range S.1.length)[j]? with
    | none => rfl
    | some q =>
      have hq : q = j := by
        have h2 := (List.getElem?_eq_some_iff.mp hj)
        obtain ⟨h3, h4⟩ := h2
        simp at h4
        exact h4.symm
      subst hq
      simp [if_neg e]
theorem ws_D {cy : Nat → ClassId} {ad : Nat → Nat} {S : Sy} {I : Wd} (h : Inj S ad) : va_D (Aad S ad) (wsO cy ad S I) := by
  have key : ∀ (i : Nat) (p : Nat × va_E), (wsO cy ad S I)[i]? = some p → i < S.1.length ∧ p.1 = ad i := by
    intro i p hp
    have hl := (List.getElem?_eq_some_iff.mp hp).1
    have hl2 : i < S.1.length := by simpa [wsO] using hl
    have h2 := ws_at (cy := cy) (ad := ad) (I := I) (List.getElem?_eq_getElem hl2)
    rw [h2] at hp
    cases hp
    exact ⟨hl2, rfl⟩
  refine ⟨fun i j p q hi hj hpq => ?_, fun k q hk => ?_⟩
  · obtain ⟨a1, a2⟩ := key i p hi
    obtain ⟨b1, b2⟩ := key j q hj
    exact h i j a1 b1 (by rw [← a2, ← b2, hpq])
  · obtain ⟨a1, a2⟩ := key k q hk
    exact ⟨k, a1, a2⟩
theorem fs_set {n j : Nat} {g : Nat → Value} (v : Value) : ((List.range n).map g).set j v = (List.range n).map (fun i => if i = j then v else g i) := by
  apply List.ext_getElem?
  intro i
  by_cases e : i = j
  · subst e
    by_cases hl : i < n
    · rw [List.getElem?_set_self (by simpa using hl)]
      simp [List.getElem?_map, List.getElem?_range hl]
    · rw [List.getElem?_eq_none (by simpa using hl), List.getElem?_eq_none (by simpa using hl)]
  · rw [List.getElem?_set_ne (Ne.symm e)]
    simp only [List.getElem?_map]
    cases hj : (List.range n)[i]? with
    | none => rfl
    | some q =>
      obtain ⟨h3, h4⟩ := List.getElem?_eq_some_iff.mp hj
      simp at h4
      subst h4
      simp [if_neg e]

/-! what lies outside: tables of numbers, texts, and what no state changes -/
def txO : List String := ["HollowShire$Rules", "HollowShire$Tape", "HollowShire$Tape", "HollowShire$Tape", "HollowShire$Tape", "HollowShire$Tape", "HollowShire$Tape", "HollowShire$Tape", "HollowShire$Tape", "HollowShire$Tape", "HollowShire$Tape", "HollowShire$Tape", "HollowShire$Tape", "HollowShire$Tape", "HollowShire$Tape"]
def txK : List Nat := [48, 75, 77, 79, 81, 83, 85, 87, 89, 91, 93, 95, 97, 99, 101]
def txT : List String := ["build doubt < 30 and rock < 2 ; move 60 < most or fell ; owe pump * 3 + rock ;", "build", "move", "owe", "o\x72", "and", "not", "doubt", "least", "most", "rock", "people", "pump", "fell", "month"]
def txL : List Nat := [78, 5, 4, 3, 2, 3, 3, 5, 5, 4, 4, 6, 4, 4, 5]
def txB : List (List Int32) := [[98, 117, 105, 108, 100, 32, 100, 111, 117, 98, 116, 32, 60, 32, 51, 48, 32, 97, 110, 100, 32, 114, 111, 99, 107, 32, 60, 32, 50, 32, 59, 32, 109, 111, 118, 101, 32, 54, 48, 32, 60, 32, 109, 111, 115, 116, 32, 111, 114, 32, 102, 101, 108, 108, 32, 59, 32, 111, 119, 101, 32, 112, 117, 109, 112, 32, 42, 32, 51, 32, 43, 32, 114, 111, 99, 107, 32, 59], [98, 117, 105, 108, 100], [109, 111, 118, 101], [111, 119, 101], [111, 114], [97, 110, 100], [110, 111, 116], [100, 111, 117, 98, 116], [108, 101, 97, 115, 116], [109, 111, 115, 116], [114, 111, 99, 107], [112, 101, 111, 112, 108, 101], [112, 117, 109, 112], [102, 101, 108, 108], [109, 111, 110, 116, 104]]
def ExS (A : Nat → Prop) (ad : Nat → Nat) (c n : String) (id : Nat) (vs : List Int32) (U : State) (H : Heap) : Prop := va_Z c n "[I" (.ref (ad id)) A U H ∧ va_T .int (ad id) vs.length (fun j => .int (vs.getD j 0)) A U H
def tbSolves : List Int32 := [0, 2, 5, 1]
def tbBears : List Int32 := [120, 90, 70, 60]
def tbAbove : List Int32 := [-1, 0, 0, 1, 2, 0]
def tbSizes : List Int32 := [0, 10, 25, 50, 100]
def Ext (A : Nat → Prop) (ad : Nat → Nat) (U : State) (H : Heap) : Prop :=
  (ExS A ad "HollowShire$Ground" "SOLVES" 1000 tbSolves U H ∧ ExS A ad "HollowShire$Ground" "BEARS" 1001 tbBears U H ∧ ExS A ad "HollowShire$Signs" "KIND_ABOVE" 1002 tbAbove U H ∧ ExS A ad "HollowShire$Fit" "SIZES" 1003 tbSizes U H) ∧
  (vk_S 15 txL txB (fun i => ad (1100 + i)) (fun i => ad (1200 + i)) A U H ∧ (∀ i, i < 15 → vk_R (txO.getD i "") (txK.getD i 0) (txT.getD i "") (ad (1100 + i)) U) ∧ va_Z "java/lang/String" "COMPACT_STRINGS" "Z" (.int 1) A U H) ∧
  (va_Nw (.methodLinkNest "HollowShire$Fit" 98 yX10_isNear "HollowShire") U ∧ va_Nw (.methodLinkNest "HollowShire$Ground" 86 yX10_isNear "HollowShire") U ∧ va_Nw (.methodLinkNest "HollowShire$Sheet" 26 yX10_within "HollowShire") U)
theorem ExS.warm {A : Nat → Prop} {ad : Nat → Nat} {c n : String} {id : Nat} {vs : List Int32} {s U : State} {H : Heap} (hW : s.WarmedH U.vm) (h : ExS A ad c n id vs s H) : ExS A ad c n id vs U H := ⟨va_Z.moved hW.alike h.1, va_T.moved hW.alike h.2⟩
theorem ExS.kept {A : Nat → Prop} {ad : Nat → Nat} {c n : String} {id : Nat} {vs : List Int32} {s : State} {H H1 : Heap} (hq : ∀ a : Nat, a < H.size → ¬ A a → H1[a]? = H[a]?) (h : ExS A ad c n id vs s H) : ExS A ad c n id vs s H1 := ⟨h.1.kept hq, h.2.kept hq⟩
theorem Ext.warm {A : Nat → Prop} {ad : Nat → Nat} {s U : State} {H : Heap} (hW : s.WarmedH U.vm) (h : Ext A ad s H) : Ext A ad U H := by
  obtain ⟨⟨a1, a2, a3, a4⟩, ⟨b1, b2, b3⟩, c1, c2, c3⟩ := h
  exact ⟨⟨a1.warm hW, a2.warm hW, a3.warm hW, a4.warm hW⟩, ⟨vk_S.moved hW.alike b1, fun i hi => (b2 i hi).warm hW, va_Z.moved hW.alike b3⟩, va_Nw.warmM hW c1, va_Nw.warmM hW c2, va_Nw.warmM hW c3⟩
theorem Ext.kept {A : Nat → Prop} {ad : Nat → Nat} {s : State} {H H1 : Heap} (hq : ∀ a : Nat, a < H.size → ¬ A a → H1[a]? = H[a]?) (h : Ext A ad s H) : Ext A ad s H1 := by
  obtain ⟨⟨a1, a2, a3, a4⟩, ⟨b1, b2, b3⟩, c⟩ := h
  exact ⟨⟨a1.kept hq, a2.kept hq, a3.kept hq, a4.kept hq⟩, ⟨b1.kept hq, b2, b3.kept hq⟩, c⟩
theorem Ext.same {A : Nat → Prop} {ad : Nat → Nat} {u U : State} {H : Heap} (hv : U.vm = u.vm) (h : Ext A ad u H) : Ext A ad U H := by
  obtain ⟨⟨a1, a2, a3, a4⟩, ⟨b1, b2, b3⟩, c1, c2, c3⟩ := h
  have al : u.vm.Alike U.vm := by rw [hv]; exact Vm.Alike.refl u.vm
  exact ⟨⟨⟨va_Z.moved al a1.1, va_T.moved al a1.2⟩, ⟨va_Z.moved al a2.1, va_T.moved al a2.2⟩, ⟨va_Z.moved al a3.1, va_T.moved al a3.2⟩, ⟨va_Z.moved al a4.1, va_T.moved al a4.2⟩⟩, ⟨vk_S.moved al b1, fun i hi => vk_R.same hv (b2 i hi), va_Z.moved al b3⟩, va_Nw.same rfl hv.symm c1, va_Nw.same rfl hv.symm c2, va_Nw.same rfl hv.symm c3⟩
/-! the judgements: a method's contract, and a frame's way to its end -/
def rmd (d : Nat) : Room := { frames := d, cells := 0, slots := 0, locals := 80 * d }
def Pcw (D : va_G) (cy : Nat → ClassId) (ad : Nat → Nat) (S : Sy) (As : List Value) (I : Wd) : Array Value → State → Prop := fun v U => v = (As.map (cvt ad)).toArray ∧ va_P D clX (wsO cy ad S I) U.heap ∧ va_K D clX (tyL cy) U ∧ Ext (Aad S ad) ad U U.heap
def Qcw (D : va_G) (cy : Nat → ClassId) (ad : Nat → Nat) (S : Sy) (r : Option Value) (I' : Wd) : Array Value → State → Outcome → State → Prop := fun _ st o t => o = .returned (r.map (cvt ad)) ∧ va_P D clX (wsO cy ad S I') t.heap ∧ va_F (Aad S ad) st t
def Cal (S : Sy) (M : Mi) (d : Nat) (As : List Value) (I : Wd) (r : Option Value) (I' : Wd) : Prop :=
  ∀ (l : Launch) (D : va_G) (cy : Nat → ClassId) (ad : Nat → Nat), Inj S ad → Met l M.1 (.code M.1 M.2.1 M.2.2.1 M.2.2.2 :: gw) (rmd d) (Pcw D cy ad S As I) (Qcw D cy ad S r I') 0 0 (Aad S ad)
def lvc (ad : Nat → Nat) (lv : List (Nat × Value)) : List (Nat × Value) := lv.map fun q => (q.1, cvt ad q.2)
def lk : List (Nat × Value) → Nat → Option Value
  | [], _ => none
  | q :: t, i => if q.1 = i then some q.2 else lk t i
theorem lk_mem {lv : List (Nat × Value)} {i : Nat} {v : Value} (h : lk lv i = some v) : (i, v) ∈ lv := by
  induction lv with
  | nil => cases h
  | cons q t ih =>
    unfold lk at h
    split at h
    · next e => cases h; rw [← e]; exact List.mem_cons_self
    · exact List.mem_cons_of_mem _ (ih h)
theorem lv_lk {ad : Nat → Nat} {ls : Array Slot} {n : Nat} {lv : List (Nat × Value)} (h : lv_has ls n (lvc ad lv)) {i : Nat} {v : Value} (hk : lk lv i = some v) : ls[i]? = some (.val (cvt ad v)) :=
  h.2.2 (i, cvt ad v) (List.mem_map.mpr ⟨(i, v), lk_mem hk, rfl⟩)
def lst1 (i : Nat) (v : Value) (lv : List (Nat × Value)) : List (Nat × Value) := (i, v) :: lv.filter (fun q => !(q.1 == i) && !(q.1 + 1 == i && q.2.category == 2))
def lst2 (i : Nat) (v : Value) (lv : List (Nat × Value)) : List (Nat × Value) := (i, v) :: lv.filter (fun q => !(q.1 == i) && (!(q.1 == i + 1) && !(q.1 + 1 == i && q.2.category == 2)))
theorem lvc_1 (ad : Nat → Nat) (i : Nat) (v : Value) (lv : List (Nat × Value)) : lst1 i (cvt ad v) (lvc ad lv) = lvc ad (lst1 i v lv) := by
  show _ :: _ = _ :: _
  congr 1
  simp only [lvc, List.filter_map]
  congr 1
  apply List.filter_congr
  intro q _
  simp [cvt_cat]
theorem lvc_2 (ad : Nat → Nat) (i : Nat) (v : Value) (lv : List (Nat × Value)) : lst2 i (cvt ad v) (lvc ad lv) = lvc ad (lst2 i v lv) := by
  show _ :: _ = _ :: _
  congr 1
  simp only [lvc, List.filter_map]
  congr 1
  apply List.filter_congr
  intro q _
  simp [cvt_cat]
theorem lvc_args (ad : Nat → Nat) : ∀ (As : List Value) (i : Nat), lv_args i (As.map (cvt ad)) = lvc ad (lv_args i As)
  | [], _ => rfl
  | v :: t, i => by
    show (i, cvt ad v) :: lv_args _ (t.map (cvt ad)) = (i, cvt ad v) :: lvc ad (lv_args _ t)
    rw [cvt_cat, lvc_args ad t]
theorem lg_len (ad : Nat → Nat) : ∀ As : List Value, (lg_sl (As.map (cvt ad))).length = (lg_sl As).length
  | [] => rfl
  | v :: t => by
    have ih := lg_len ad t
    show ((if (cvt ad v).category = 2 then [Slot.val (cvt ad v), .second] else [.val (cvt ad v)]) ++ lg_sl (t.map (cvt ad))).length = ((if v.category = 2 then [Slot.val v, .second] else [.val v]) ++ lg_sl t).length
    rw [List.length_append, List.length_append, ih, cvt_cat]
    split <;> rfl
abbrev Fx (M : Mi) (p : Program) (s : State) (m : MethodId) (args : Array Value) (meth : Method) (c : Code) : Prop :=
  p.tables.exec = Jvm.exec ∧ c.code = M.2.1 ∧ meth.sig.returnType = M.2.2.2 ∧ c.maxLocals = M.2.2.1 ∧ s.vm.findClass M.1.cls = some m.cls ∧ (∀ w ∈ gw, w.before args s = true) ∧ meth.locks = false
def Cx (S : Sy) (M : Mi) (p : Program) (s : State) (m : MethodId) (args : Array Value) (meth : Method) (c : Code) (D : va_G) (cy : Nat → ClassId) (ad : Nat → Nat) (I : Wd) (H : Heap) (locs : List Loc) (ls : Array Slot) (lv : List (Nat × Value)) : Prop :=
  Fx M p s m args meth c ∧ lv_has ls M.2.2.1 (lvc ad lv) ∧ Inj S ad ∧ va_K D clX (tyL cy) s ∧ Ext (Aad S ad) ad s s.heap ∧ va_P D clX (wsO cy ad S I) H ∧ va_S (Aad S ad) s.heap H locs
def Bd (S : Sy) (M : Mi) (d pc : Nat) (lv : List (Nat × Value)) (st : List Value) (I : Wd) (r : Option Value) (I' : Wd) : Prop :=
  ∀ (p : Program) (l : Launch) (e : Env) (s : State) (m : MethodId) (args : Array Value) (below : List Frame) (meth : Method) (c : Code) (D : va_G) (cy : Nat → ClassId) (ad : Nat → Nat) (H : Heap) (locs : List Loc) (ls : Array Slot),
    Cx S M p s m args meth c D cy ad I H locs ls lv → W p l e (rmd d) s m args below meth c H locs 0 0 (MQ below (Qcw D cy ad S r I') args s 0 0 (Aad S ad)) (F0 m pc ls (st.map (cvt ad)))
theorem Cal.of {S : Sy} {M : Mi} {d : Nat} {As : List Value} {I I' : Wd} {r : Option Value} (hp : plainName M.1.cls = true) (hn : (lg_sl As).length ≤ M.2.2.1) (h : Bd S M d 0 (lv_args 0 As) [] I r I') : Cal S M d As I r I' := by
  intro l D cy ad hi
  refine Met.ofW (cc := M.2.1) (maxL := M.2.2.1) (ret := M.2.2.2) hp rfl ?_
  intro p e s m args below meth c s₁ B hml hv
  obtain ⟨rfl, hP, hK, hE⟩ := hv
  have hts := atoms_spec (ws := Cond.code M.1 M.2.1 M.2.2.1 M.2.2.2 :: gw) B.pre
  have hlen := lg_len ad As
  have hl := lv_entry (As.map (cvt ad)) (n := M.2.2.1) (by rw [hlen]; exact hn)
  rw [lg_entry_eq]
  rw [lvc_args] at hl
  exact h p l e s m _ below meth c D cy ad s.heap [] _ ⟨⟨B.exec, B.bytes, B.returns, hml, findClass_of_methodNamed B.named, fun w hw => hts w (List.mem_cons_of_mem _ hw), B.notSynchronized⟩, hl, hi, hK, hE, hP, va_S.rf⟩
end
section
section BR
variable {S : Sy} {M : Mi} {d pc : Nat} {lv : List (Nat × Value)} {st : List Value} {I I' : Wd} {r : Option Value}
theorem b_iconst {n : Int} {v : Int32} (hd : decode M.2.1 pc = .ok (.iconst n, 1)) (hv : Int32.ofInt n = v) (kk : Bd S M d (pc + 1) lv (.int v :: st) I r I') : Bd S M d pc lv (st) I r I' :=
  fun p l e s m args below meth c D cy ad H locs ls X => lv_iconst X.1.1 X.1.2.1 hd hv (kk p l e s m args below meth c D cy ad H locs ls X)
theorem b_bipush {n : Int} {v : Int32} (hd : decode M.2.1 pc = .ok (.bipush n, 2)) (hv : (Int8.ofInt n).toInt32 = v) (kk : Bd S M d (pc + 2) lv (.int v :: st) I r I') : Bd S M d pc lv (st) I r I' :=
  fun p l e s m args below meth c D cy ad H locs ls X => lv_bipush X.1.1 X.1.2.1 hd hv (kk p l e s m args below meth c D cy ad H locs ls X)
theorem b_sipush {n : Int} {v : Int32} (hd : decode M.2.1 pc = .ok (.sipush n, 3)) (hv : (Int16.ofInt n).toInt32 = v) (kk : Bd S M d (pc + 3) lv (.int v :: st) I r I') : Bd S M d pc lv (st) I r I' :=
  fun p l e s m args below meth c D cy ad H locs ls X => lv_sipush X.1.1 X.1.2.1 hd hv (kk p l e s m args below meth c D cy ad H locs ls X)
theorem b_lconst {n : Fin 2} {v : Int64} (hd : decode M.2.1 pc = .ok (.lconst n, 1)) (hv : Int64.ofNat (n : Nat) = v) (kk : Bd S M d (pc + 1) lv (.long v :: st) I r I') : Bd S M d pc lv (st) I r I' :=
  fun p l e s m args below meth c D cy ad H locs ls X => lv_lconst X.1.1 X.1.2.1 hd hv (kk p l e s m args below meth c D cy ad H locs ls X)
theorem b_icm1 (hd : decode M.2.1 pc = .ok (.iconst (-1), 1)) (kk : Bd S M d (pc + 1) lv (.int (-1) :: st) I r I') : Bd S M d pc lv st I r I' := b_iconst hd (by decide) kk
theorem b_ic0 (hd : decode M.2.1 pc = .ok (.iconst 0, 1)) (kk : Bd S M d (pc + 1) lv (.int 0 :: st) I r I') : Bd S M d pc lv st I r I' := b_iconst hd (by decide) kk
theorem b_ic1 (hd : decode M.2.1 pc = .ok (.iconst 1, 1)) (kk : Bd S M d (pc + 1) lv (.int 1 :: st) I r I') : Bd S M d pc lv st I r I' := b_iconst hd (by decide) kk
theorem b_ic2 (hd : decode M.2.1 pc = .ok (.iconst 2, 1)) (kk : Bd S M d (pc + 1) lv (.int 2 :: st) I r I') : Bd S M d pc lv st I r I' := b_iconst hd (by decide) kk
theorem b_ic3 (hd : decode M.2.1 pc = .ok (.iconst 3, 1)) (kk : Bd S M d (pc + 1) lv (.int 3 :: st) I r I') : Bd S M d pc lv st I r I' := b_iconst hd (by decide) kk
theorem b_ic4 (hd : decode M.2.1 pc = .ok (.iconst 4, 1)) (kk : Bd S M d (pc + 1) lv (.int 4 :: st) I r I') : Bd S M d pc lv st I r I' := b_iconst hd (by decide) kk
theorem b_ic5 (hd : decode M.2.1 pc = .ok (.iconst 5, 1)) (kk : Bd S M d (pc + 1) lv (.int 5 :: st) I r I') : Bd S M d pc lv st I r I' := b_iconst hd (by decide) kk
theorem b_ldc {ix : Nat} {v : Int32} (hd : decode M.2.1 pc = .ok (.ldc ix, 2)) (hw : Cond.constant M.1.cls ix v ∈ gw) (kk : Bd S M d (pc + 2) lv (.int v :: st) I r I') : Bd S M d pc lv (st) I r I' :=
  fun p l e s m args below meth c D cy ad H locs ls X => lv_ldc X.1.1 X.1.2.1 X.1.2.2.2.2.1 (X.1.2.2.2.2.2.1 _ hw) hd (kk p l e s m args below meth c D cy ad H locs ls X)
theorem b_ldcw {ix : Nat} {v : Int32} (hd : decode M.2.1 pc = .ok (.ldc_w ix, 3)) (hw : Cond.constant M.1.cls ix v ∈ gw) (kk : Bd S M d (pc + 3) lv (.int v :: st) I r I') : Bd S M d pc lv (st) I r I' :=
  fun p l e s m args below meth c D cy ad H locs ls X => lv_ldcw X.1.1 X.1.2.1 X.1.2.2.2.2.1 (X.1.2.2.2.2.2.1 _ hw) hd (kk p l e s m args below meth c D cy ad H locs ls X)
theorem b_ldc2 {ix : Nat} {v : Int64} (hd : decode M.2.1 pc = .ok (.ldc2_w ix, 3)) (hw : Cond.constantLong M.1.cls ix v ∈ gw) (kk : Bd S M d (pc + 3) lv (.long v :: st) I r I') : Bd S M d pc lv (st) I r I' :=
  fun p l e s m args below meth c D cy ad H locs ls X => lv_ldc2 X.1.1 X.1.2.1 X.1.2.2.2.2.1 (X.1.2.2.2.2.2.1 _ hw) hd (kk p l e s m args below meth c D cy ad H locs ls X)
theorem b_iload_n {k : Fin 4} {i : Nat} {x : Int32} (hd : decode M.2.1 pc = .ok (.iload_n k, 1)) (hi : (k : Nat) = i) (hl : lk lv i = some (.int x)) (kk : Bd S M d (pc + 1) lv (.int x :: st) I r I') : Bd S M d pc lv (st) I r I' :=
  fun p l e s m args below meth c D cy ad H locs ls X => lv_iload_n X.1.1 X.1.2.1 hd hi (lv_lk X.2.1 hl) (kk p l e s m args below meth c D cy ad H locs ls X)
theorem b_iload {i : Nat} {x : Int32} (hd : decode M.2.1 pc = .ok (.iload i, 2)) (hl : lk lv i = some (.int x)) (kk : Bd S M d (pc + 2) lv (.int x :: st) I r I') : Bd S M d pc lv (st) I r I' :=
  fun p l e s m args below meth c D cy ad H locs ls X => lv_iload X.1.1 X.1.2.1 hd (lv_lk X.2.1 hl) (kk p l e s m args below meth c D cy ad H locs ls X)
theorem b_lload_n {k : Fin 4} {i : Nat} {x : Int64} (hd : decode M.2.1 pc = .ok (.lload_n k, 1)) (hi : (k : Nat) = i) (hl : lk lv i = some (.long x)) (kk : Bd S M d (pc + 1) lv (.long x :: st) I r I') : Bd S M d pc lv (st) I r I' :=
  fun p l e s m args below meth c D cy ad H locs ls X => lv_lload_n X.1.1 X.1.2.1 hd hi (lv_lk X.2.1 hl) (kk p l e s m args below meth c D cy ad H locs ls X)
theorem b_lload {i : Nat} {x : Int64} (hd : decode M.2.1 pc = .ok (.lload i, 2)) (hl : lk lv i = some (.long x)) (kk : Bd S M d (pc + 2) lv (.long x :: st) I r I') : Bd S M d pc lv (st) I r I' :=
  fun p l e s m args below meth c D cy ad H locs ls X => lv_lload X.1.1 X.1.2.1 hd (lv_lk X.2.1 hl) (kk p l e s m args below meth c D cy ad H locs ls X)
theorem b_aload_n {k : Fin 4} {i : Nat} {x : Nat} (hd : decode M.2.1 pc = .ok (.aload_n k, 1)) (hi : (k : Nat) = i) (hl : lk lv i = some (.ref x)) (kk : Bd S M d (pc + 1) lv (.ref x :: st) I r I') : Bd S M d pc lv (st) I r I' :=
  fun p l e s m args below meth c D cy ad H locs ls X => lv_aload_n X.1.1 X.1.2.1 hd hi (lv_lk X.2.1 hl) (kk p l e s m args below meth c D cy ad H locs ls X)
theorem b_aload {i : Nat} {x : Nat} (hd : decode M.2.1 pc = .ok (.aload i, 2)) (hl : lk lv i = some (.ref x)) (kk : Bd S M d (pc + 2) lv (.ref x :: st) I r I') : Bd S M d pc lv (st) I r I' :=
  fun p l e s m args below meth c D cy ad H locs ls X => lv_aload X.1.1 X.1.2.1 hd (lv_lk X.2.1 hl) (kk p l e s m args below meth c D cy ad H locs ls X)
theorem b_istore_n {k : Fin 4} {i : Nat} {x : Int32} {lv' : List (Nat × Value)} (hd : decode M.2.1 pc = .ok (.istore_n k, 1)) (hi : (k : Nat) = i) (hn : i < M.2.2.1) (hl : lst1 i (.int x) lv = lv') (kk : Bd S M d (pc + 1) lv' st I r I') : Bd S M d pc lv (.int x :: st) I r I' :=
  fun p l e s m args below meth c D cy ad H locs ls X => lv_istore_n X.1.1 X.1.2.1 hd hi X.2.1 hn (by rw [← hl, ← lvc_1]; rfl) (fun ls' h' => kk p l e s m args below meth c D cy ad H locs ls' ⟨X.1, h', X.2.2⟩)
theorem b_istore {i : Nat} {x : Int32} {lv' : List (Nat × Value)} (hd : decode M.2.1 pc = .ok (.istore i, 2)) (hn : i < M.2.2.1) (hl : lst1 i (.int x) lv = lv') (kk : Bd S M d (pc + 2) lv' st I r I') : Bd S M d pc lv (.int x :: st) I r I' :=
  fun p l e s m args below meth c D cy ad H locs ls X => lv_istore X.1.1 X.1.2.1 hd X.2.1 hn (by rw [← hl, ← lvc_1]; rfl) (fun ls' h' => kk p l e s m args below meth c D cy ad H locs ls' ⟨X.1, h', X.2.2⟩)
theorem b_astore_n {k : Fin 4} {i : Nat} {x : Nat} {lv' : List (Nat × Value)} (hd : decode M.2.1 pc = .ok (.astore_n k, 1)) (hi : (k : Nat) = i) (hn : i < M.2.2.1) (hl : lst1 i (.ref x) lv = lv') (kk : Bd S M d (pc + 1) lv' st I r I') : Bd S M d pc lv (.ref x :: st) I r I' :=
  fun p l e s m args below meth c D cy ad H locs ls X => lv_astore_n X.1.1 X.1.2.1 hd hi X.2.1 hn (by rw [← hl, ← lvc_1]; rfl) (fun ls' h' => kk p l e s m args below meth c D cy ad H locs ls' ⟨X.1, h', X.2.2⟩)
theorem b_astore {i : Nat} {x : Nat} {lv' : List (Nat × Value)} (hd : decode M.2.1 pc = .ok (.astore i, 2)) (hn : i < M.2.2.1) (hl : lst1 i (.ref x) lv = lv') (kk : Bd S M d (pc + 2) lv' st I r I') : Bd S M d pc lv (.ref x :: st) I r I' :=
  fun p l e s m args below meth c D cy ad H locs ls X => lv_astore X.1.1 X.1.2.1 hd X.2.1 hn (by rw [← hl, ← lvc_1]; rfl) (fun ls' h' => kk p l e s m args below meth c D cy ad H locs ls' ⟨X.1, h', X.2.2⟩)
theorem b_lstore_n {k : Fin 4} {i : Nat} {x : Int64} {lv' : List (Nat × Value)} (hd : decode M.2.1 pc = .ok (.lstore_n k, 1)) (hi : (k : Nat) = i) (hn : i < M.2.2.1 ∧ i + 1 < M.2.2.1) (hl : lst2 i (.long x) lv = lv') (kk : Bd S M d (pc + 1) lv' st I r I') : Bd S M d pc lv (.long x :: st) I r I' :=
  fun p l e s m args below meth c D cy ad H locs ls X => lv_lstore_n X.1.1 X.1.2.1 hd hi X.2.1 hn.2 (by rw [← hl, ← lvc_2]; rfl) (fun ls' h' => kk p l e s m args below meth c D cy ad H locs ls' ⟨X.1, h', X.2.2⟩)
theorem b_lstore {i : Nat} {x : Int64} {lv' : List (Nat × Value)} (hd : decode M.2.1 pc = .ok (.lstore i, 2)) (hn : i < M.2.2.1 ∧ i + 1 < M.2.2.1) (hl : lst2 i (.long x) lv = lv') (kk : Bd S M d (pc + 2) lv' st I r I') : Bd S M d pc lv (.long x :: st) I r I' :=
  fun p l e s m args below meth c D cy ad H locs ls X => lv_lstore X.1.1 X.1.2.1 hd X.2.1 hn.2 (by rw [← hl, ← lvc_2]; rfl) (fun ls' h' => kk p l e s m args below meth c D cy ad H locs ls' ⟨X.1, h', X.2.2⟩)
theorem b_iinc {i : Nat} {n : Int} {x v : Int32} {lv' : List (Nat × Value)} (hd : decode M.2.1 pc = .ok (.iinc i n, 3)) (hk : lk lv i = some (.int x)) (hv : x + Int32.ofInt n = v) (hn : i < M.2.2.1) (hl : lst1 i (.int v) lv = lv') (kk : Bd S M d (pc + 3) lv' st I r I') : Bd S M d pc lv st I r I' := by
  intro p l e s m args below meth c D cy ad H locs ls X
  have hm := lk_mem hk
  obtain ⟨q, hq⟩ := List.getElem?_of_mem hm
  have hq2 : (lvc ad lv)[q]? = some (i, .int x) := by rw [lvc, List.getElem?_map, hq]; rfl
  exact lv_iinc X.1.1 X.1.2.1 hd X.2.1 hq2 hv hn (by rw [← hl, ← lvc_1]; rfl) (fun ls' h' => kk p l e s m args below meth c D cy ad H locs ls' ⟨X.1, h', X.2.2⟩)
theorem b_iinc1 {i : Nat} {x : Int32} {lv' : List (Nat × Value)} (hd : decode M.2.1 pc = .ok (.iinc i 1, 3)) (hk : lk lv i = some (.int x)) (hn : i < M.2.2.1) (hl : lst1 i (.int (x + 1)) lv = lv') (kk : Bd S M d (pc + 3) lv' st I r I') : Bd S M d pc lv st I r I' := b_iinc (v := x + 1) hd hk rfl hn hl kk
theorem b_iadd {x y : Int32} (hd : decode M.2.1 pc = .ok (.iadd, 1)) (kk : Bd S M d (pc + 1) lv (.int (x + y) :: st) I r I') : Bd S M d pc lv (.int y :: .int x :: st) I r I' :=
  fun p l e s m args below meth c D cy ad H locs ls X => lv_iadd X.1.1 X.1.2.1 hd (kk p l e s m args below meth c D cy ad H locs ls X)
theorem b_isub {x y : Int32} (hd : decode M.2.1 pc = .ok (.isub, 1)) (kk : Bd S M d (pc + 1) lv (.int (x - y) :: st) I r I') : Bd S M d pc lv (.int y :: .int x :: st) I r I' :=
  fun p l e s m args below meth c D cy ad H locs ls X => lv_isub X.1.1 X.1.2.1 hd (kk p l e s m args below meth c D cy ad H locs ls X)
theorem b_imul {x y : Int32} (hd : decode M.2.1 pc = .ok (.imul, 1)) (kk : Bd S M d (pc + 1) lv (.int (x * y) :: st) I r I') : Bd S M d pc lv (.int y :: .int x :: st) I r I' :=
  fun p l e s m args below meth c D cy ad H locs ls X => lv_imul X.1.1 X.1.2.1 hd (kk p l e s m args below meth c D cy ad H locs ls X)
theorem b_iand {x y : Int32} (hd : decode M.2.1 pc = .ok (.iand, 1)) (kk : Bd S M d (pc + 1) lv (.int (x &&& y) :: st) I r I') : Bd S M d pc lv (.int y :: .int x :: st) I r I' :=
  fun p l e s m args below meth c D cy ad H locs ls X => lv_iand X.1.1 X.1.2.1 hd (kk p l e s m args below meth c D cy ad H locs ls X)
theorem b_ior {x y : Int32} (hd : decode M.2.1 pc = .ok (.ior, 1)) (kk : Bd S M d (pc + 1) lv (.int (x ||| y) :: st) I r I') : Bd S M d pc lv (.int y :: .int x :: st) I r I' :=
  fun p l e s m args below meth c D cy ad H locs ls X => lv_ior X.1.1 X.1.2.1 hd (kk p l e s m args below meth c D cy ad H locs ls X)
theorem b_ladd {x y : Int64} (hd : decode M.2.1 pc = .ok (.ladd, 1)) (kk : Bd S M d (pc + 1) lv (.long (x + y) :: st) I r I') : Bd S M d pc lv (.long y :: .long x :: st) I r I' :=
  fun p l e s m args below meth c D cy ad H locs ls X => lv_ladd X.1.1 X.1.2.1 hd (kk p l e s m args below meth c D cy ad H locs ls X)
theorem b_lsub {x y : Int64} (hd : decode M.2.1 pc = .ok (.lsub, 1)) (kk : Bd S M d (pc + 1) lv (.long (x - y) :: st) I r I') : Bd S M d pc lv (.long y :: .long x :: st) I r I' :=
  fun p l e s m args below meth c D cy ad H locs ls X => lv_lsub X.1.1 X.1.2.1 hd (kk p l e s m args below meth c D cy ad H locs ls X)
theorem b_lmul {x y : Int64} (hd : decode M.2.1 pc = .ok (.lmul, 1)) (kk : Bd S M d (pc + 1) lv (.long (x * y) :: st) I r I') : Bd S M d pc lv (.long y :: .long x :: st) I r I' :=
  fun p l e s m args below meth c D cy ad H locs ls X => lv_lmul X.1.1 X.1.2.1 hd (kk p l e s m args below meth c D cy ad H locs ls X)
theorem b_land {x y : Int64} (hd : decode M.2.1 pc = .ok (.land, 1)) (kk : Bd S M d (pc + 1) lv (.long (x &&& y) :: st) I r I') : Bd S M d pc lv (.long y :: .long x :: st) I r I' :=
  fun p l e s m args below meth c D cy ad H locs ls X => lv_land X.1.1 X.1.2.1 hd (kk p l e s m args below meth c D cy ad H locs ls X)
theorem b_lor {x y : Int64} (hd : decode M.2.1 pc = .ok (.lor, 1)) (kk : Bd S M d (pc + 1) lv (.long (x ||| y) :: st) I r I') : Bd S M d pc lv (.long y :: .long x :: st) I r I' :=
  fun p l e s m args below meth c D cy ad H locs ls X => lv_lor X.1.1 X.1.2.1 hd (kk p l e s m args below meth c D cy ad H locs ls X)
theorem b_idiv {x y : Int32} (hd : decode M.2.1 pc = .ok (.idiv, 1)) (hne : ¬ y = 0) (kk : Bd S M d (pc + 1) lv (.int (x / y) :: st) I r I') : Bd S M d pc lv (.int y :: .int x :: st) I r I' :=
  fun p l e s m args below meth c D cy ad H locs ls X => lv_idiv X.1.1 X.1.2.1 hd hne (kk p l e s m args below meth c D cy ad H locs ls X)
theorem b_irem {x y : Int32} (hd : decode M.2.1 pc = .ok (.irem, 1)) (hne : ¬ y = 0) (kk : Bd S M d (pc + 1) lv (.int (x - x / y * y) :: st) I r I') : Bd S M d pc lv (.int y :: .int x :: st) I r I' :=
  fun p l e s m args below meth c D cy ad H locs ls X => lv_irem X.1.1 X.1.2.1 hd hne (kk p l e s m args below meth c D cy ad H locs ls X)
theorem b_ldiv {x y : Int64} (hd : decode M.2.1 pc = .ok (.ldiv, 1)) (hne : ¬ y = 0) (kk : Bd S M d (pc + 1) lv (.long (x / y) :: st) I r I') : Bd S M d pc lv (.long y :: .long x :: st) I r I' :=
  fun p l e s m args below meth c D cy ad H locs ls X => lv_ldiv X.1.1 X.1.2.1 hd hne (kk p l e s m args below meth c D cy ad H locs ls X)
theorem b_lrem {x y : Int64} (hd : decode M.2.1 pc = .ok (.lrem, 1)) (hne : ¬ y = 0) (kk : Bd S M d (pc + 1) lv (.long (x - x / y * y) :: st) I r I') : Bd S M d pc lv (.long y :: .long x :: st) I r I' :=
  fun p l e s m args below meth c D cy ad H locs ls X => lv_lrem X.1.1 X.1.2.1 hd hne (kk p l e s m args below meth c D cy ad H locs ls X)
theorem b_ineg {x : Int32} (hd : decode M.2.1 pc = .ok (.ineg, 1)) (kk : Bd S M d (pc + 1) lv (.int (-x) :: st) I r I') : Bd S M d pc lv (.int x :: st) I r I' :=
  fun p l e s m args below meth c D cy ad H locs ls X => lv_ineg X.1.1 X.1.2.1 hd (kk p l e s m args below meth c D cy ad H locs ls X)
theorem b_ishl {x y : Int32} (hd : decode M.2.1 pc = .ok (.ishl, 1)) (kk : Bd S M d (pc + 1) lv (.int (x <<< (y &&& 31)) :: st) I r I') : Bd S M d pc lv (.int y :: .int x :: st) I r I' :=
  fun p l e s m args below meth c D cy ad H locs ls X => lv_ishl X.1.1 X.1.2.1 hd (kk p l e s m args below meth c D cy ad H locs ls X)
theorem b_ishr {x y : Int32} (hd : decode M.2.1 pc = .ok (.ishr, 1)) (kk : Bd S M d (pc + 1) lv (.int (x >>> (y &&& 31)) :: st) I r I') : Bd S M d pc lv (.int y :: .int x :: st) I r I' :=
  fun p l e s m args below meth c D cy ad H locs ls X => lv_ishr X.1.1 X.1.2.1 hd (kk p l e s m args below meth c D cy ad H locs ls X)
theorem b_lshl {x : Int64} {y : Int32} (hd : decode M.2.1 pc = .ok (.lshl, 1)) (kk : Bd S M d (pc + 1) lv (.long (x <<< (y.toInt64 &&& 63)) :: st) I r I') : Bd S M d pc lv (.int y :: .long x :: st) I r I' :=
  fun p l e s m args below meth c D cy ad H locs ls X => lv_lshl X.1.1 X.1.2.1 hd rfl (kk p l e s m args below meth c D cy ad H locs ls X)
theorem b_lshr {x : Int64} {y : Int32} (hd : decode M.2.1 pc = .ok (.lshr, 1)) (kk : Bd S M d (pc + 1) lv (.long (x >>> (y.toInt64 &&& 63)) :: st) I r I') : Bd S M d pc lv (.int y :: .long x :: st) I r I' :=
  fun p l e s m args below meth c D cy ad H locs ls X => lv_lshr X.1.1 X.1.2.1 hd rfl (kk p l e s m args below meth c D cy ad H locs ls X)
theorem b_lushr {x : Int64} {y : Int32} (hd : decode M.2.1 pc = .ok (.lushr, 1)) (kk : Bd S M d (pc + 1) lv (.long (x.toUInt64 >>> (y.toInt64.toUInt64 &&& Int64.toUInt64 63)).toInt64 :: st) I r I') : Bd S M d pc lv (.int y :: .long x :: st) I r I' :=
  fun p l e s m args below meth c D cy ad H locs ls X => lv_lushr X.1.1 X.1.2.1 hd rfl (kk p l e s m args below meth c D cy ad H locs ls X)
theorem b_l2i {x : Int64} (hd : decode M.2.1 pc = .ok (.l2i, 1)) (kk : Bd S M d (pc + 1) lv (.int x.toInt32 :: st) I r I') : Bd S M d pc lv (.long x :: st) I r I' :=
  fun p l e s m args below meth c D cy ad H locs ls X => lv_l2i X.1.1 X.1.2.1 hd rfl (kk p l e s m args below meth c D cy ad H locs ls X)
theorem b_i2l {x : Int32} (hd : decode M.2.1 pc = .ok (.i2l, 1)) (kk : Bd S M d (pc + 1) lv (.long x.toInt64 :: st) I r I') : Bd S M d pc lv (.int x :: st) I r I' :=
  fun p l e s m args below meth c D cy ad H locs ls X => lv_i2l X.1.1 X.1.2.1 hd rfl (kk p l e s m args below meth c D cy ad H locs ls X)
theorem b_i2b {x : Int32} (hd : decode M.2.1 pc = .ok (.i2b, 1)) (kk : Bd S M d (pc + 1) lv (.int x.toInt8.toInt32 :: st) I r I') : Bd S M d pc lv (.int x :: st) I r I' :=
  fun p l e s m args below meth c D cy ad H locs ls X => lv_i2b X.1.1 X.1.2.1 hd rfl (kk p l e s m args below meth c D cy ad H locs ls X)
theorem b_i2s {x : Int32} (hd : decode M.2.1 pc = .ok (.i2s, 1)) (kk : Bd S M d (pc + 1) lv (.int x.toInt16.toInt32 :: st) I r I') : Bd S M d pc lv (.int x :: st) I r I' :=
  fun p l e s m args below meth c D cy ad H locs ls X => lv_i2s X.1.1 X.1.2.1 hd rfl (kk p l e s m args below meth c D cy ad H locs ls X)
theorem b_lcmp {x y : Int64} (hd : decode M.2.1 pc = .ok (.lcmp, 1)) (kk : Bd S M d (pc + 1) lv (.int (lg_cmp x y) :: st) I r I') : Bd S M d pc lv (.long y :: .long x :: st) I r I' :=
  fun p l e s m args below meth c D cy ad H locs ls X => W.lcmp X.1.1 X.1.2.1 hd (kk p l e s m args below meth c D cy ad H locs ls X)
theorem b_dup {v : Value} (hd : decode M.2.1 pc = .ok (.dup, 1)) (hv : v.category = 1) (kk : Bd S M d (pc + 1) lv (v :: v :: st) I r I') : Bd S M d pc lv (v :: st) I r I' :=
  fun p l e s m args below meth c D cy ad H locs ls X => lv_dup X.1.1 X.1.2.1 hd (by rw [cvt_cat]; exact hv) (kk p l e s m args below meth c D cy ad H locs ls X)
theorem b_pop {v : Value} (hd : decode M.2.1 pc = .ok (.pop, 1)) (hv : v.category = 1) (kk : Bd S M d (pc + 1) lv (st) I r I') : Bd S M d pc lv (v :: st) I r I' :=
  fun p l e s m args below meth c D cy ad H locs ls X => lv_pop X.1.1 X.1.2.1 hd (by rw [cvt_cat]; exact hv) (kk p l e s m args below meth c D cy ad H locs ls X)
theorem b_dup2 {v u : Value} (hd : decode M.2.1 pc = .ok (.dup2, 1)) (hv : v.category = 1 ∧ u.category = 1) (kk : Bd S M d (pc + 1) lv (v :: u :: v :: u :: st) I r I') : Bd S M d pc lv (v :: u :: st) I r I' :=
  fun p l e s m args below meth c D cy ad H locs ls X => lv_dup2_11 X.1.1 X.1.2.1 hd (by rw [cvt_cat]; exact hv.1) (by rw [cvt_cat]; exact hv.2) (kk p l e s m args below meth c D cy ad H locs ls X)
theorem b_goto {off : Int} {tgt : Nat} (hd : decode M.2.1 pc = .ok (.goto off, 3)) (ht : (pc : Int) + off = (tgt : Int)) (kk : Bd S M d tgt lv (st) I r I') : Bd S M d pc lv (st) I r I' :=
  fun p l e s m args below meth c D cy ad H locs ls X => lv_goto X.1.1 X.1.2.1 hd ht (kk p l e s m args below meth c D cy ad H locs ls X)
theorem b_if_eq {x : Int32} {off : Int} {tgt : Nat} (hd : decode M.2.1 pc = .ok (.ifCond .eq off, 3)) (ht : (pc : Int) + off = (tgt : Int)) (kt : x = 0 → Bd S M d tgt lv st I r I') (kf : ¬ x = 0 → Bd S M d (pc + 3) lv st I r I') : Bd S M d pc lv (.int x :: st) I r I' :=
  fun p l e s m args below meth c D cy ad H locs ls X => lv_if_eq X.1.1 X.1.2.1 hd ht (fun h => kt h p l e s m args below meth c D cy ad H locs ls X) (fun h => kf h p l e s m args below meth c D cy ad H locs ls X)
theorem b_icmp_eq {x y : Int32} {off : Int} {tgt : Nat} (hd : decode M.2.1 pc = .ok (.if_icmp .eq off, 3)) (ht : (pc : Int) + off = (tgt : Int)) (kt : x = y → Bd S M d tgt lv st I r I') (kf : ¬ x = y → Bd S M d (pc + 3) lv st I r I') : Bd S M d pc lv (.int y :: .int x :: st) I r I' :=
  fun p l e s m args below meth c D cy ad H locs ls X => lv_icmp_eq X.1.1 X.1.2.1 hd ht (fun h => kt h p l e s m args below meth c D cy ad H locs ls X) (fun h => kf h p l e s m args below meth c D cy ad H locs ls X)
theorem b_if_ne {x : Int32} {off : Int} {tgt : Nat} (hd : decode M.2.1 pc = .ok (.ifCond .ne off, 3)) (ht : (pc : Int) + off = (tgt : Int)) (kt : ¬ x = 0 → Bd S M d tgt lv st I r I') (kf : x = 0 → Bd S M d (pc + 3) lv st I r I') : Bd S M d pc lv (.int x :: st) I r I' :=
  fun p l e s m args below meth c D cy ad H locs ls X => lv_if_ne X.1.1 X.1.2.1 hd ht (fun h => kt h p l e s m args below meth c D cy ad H locs ls X) (fun h => kf h p l e s m args below meth c D cy ad H locs ls X)
theorem b_icmp_ne {x y : Int32} {off : Int} {tgt : Nat} (hd : decode M.2.1 pc = .ok (.if_icmp .ne off, 3)) (ht : (pc : Int) + off = (tgt : Int)) (kt : ¬ x = y → Bd S M d tgt lv st I r I') (kf : x = y → Bd S M d (pc + 3) lv st I r I') : Bd S M d pc lv (.int y :: .int x :: st) I r I' :=
  fun p l e s m args below meth c D cy ad H locs ls X => lv_icmp_ne X.1.1 X.1.2.1 hd ht (fun h => kt h p l e s m args below meth c D cy ad H locs ls X) (fun h => kf h p l e s m args below meth c D cy ad H locs ls X)
theorem b_if_lt {x : Int32} {off : Int} {tgt : Nat} (hd : decode M.2.1 pc = .ok (.ifCond .lt off, 3)) (ht : (pc : Int) + off = (tgt : Int)) (kt : x < 0 → Bd S M d tgt lv st I r I') (kf : ¬ x < 0 → Bd S M d (pc + 3) lv st I r I') : Bd S M d pc lv (.int x :: st) I r I' :=
  fun p l e s m args below meth c D cy ad H locs ls X => lv_if_lt X.1.1 X.1.2.1 hd ht (fun h => kt h p l e s m args below meth c D cy ad H locs ls X) (fun h => kf h p l e s m args below meth c D cy ad H locs ls X)
theorem b_icmp_lt {x y : Int32} {off : Int} {tgt : Nat} (hd : decode M.2.1 pc = .ok (.if_icmp .lt off, 3)) (ht : (pc : Int) + off = (tgt : Int)) (kt : x < y → Bd S M d tgt lv st I r I') (kf : ¬ x < y → Bd S M d (pc + 3) lv st I r I') : Bd S M d pc lv (.int y :: .int x :: st) I r I' :=
  fun p l e s m args below meth c D cy ad H locs ls X => lv_icmp_lt X.1.1 X.1.2.1 hd ht (fun h => kt h p l e s m args below meth c D cy ad H locs ls X) (fun h => kf h p l e s m args below meth c D cy ad H locs ls X)
theorem b_if_ge {x : Int32} {off : Int} {tgt : Nat} (hd : decode M.2.1 pc = .ok (.ifCond .ge off, 3)) (ht : (pc : Int) + off = (tgt : Int)) (kt : 0 ≤ x → Bd S M d tgt lv st I r I') (kf : ¬ 0 ≤ x → Bd S M d (pc + 3) lv st I r I') : Bd S M d pc lv (.int x :: st) I r I' :=
  fun p l e s m args below meth c D cy ad H locs ls X => lv_if_ge X.1.1 X.1.2.1 hd ht (fun h => kt h p l e s m args below meth c D cy ad H locs ls X) (fun h => kf h p l e s m args below meth c D cy ad H locs ls X)
theorem b_icmp_ge {x y : Int32} {off : Int} {tgt : Nat} (hd : decode M.2.1 pc = .ok (.if_icmp .ge off, 3)) (ht : (pc : Int) + off = (tgt : Int)) (kt : y ≤ x → Bd S M d tgt lv st I r I') (kf : ¬ y ≤ x → Bd S M d (pc + 3) lv st I r I') : Bd S M d pc lv (.int y :: .int x :: st) I r I' :=
  fun p l e s m args below meth c D cy ad H locs ls X => lv_icmp_ge X.1.1 X.1.2.1 hd ht (fun h => kt h p l e s m args below meth c D cy ad H locs ls X) (fun h => kf h p l e s m args below meth c D cy ad H locs ls X)
theorem b_if_gt {x : Int32} {off : Int} {tgt : Nat} (hd : decode M.2.1 pc = .ok (.ifCond .gt off, 3)) (ht : (pc : Int) + off = (tgt : Int)) (kt : 0 < x → Bd S M d tgt lv st I r I') (kf : ¬ 0 < x → Bd S M d (pc + 3) lv st I r I') : Bd S M d pc lv (.int x :: st) I r I' :=
  fun p l e s m args below meth c D cy ad H locs ls X => lv_if_gt X.1.1 X.1.2.1 hd ht (fun h => kt h p l e s m args below meth c D cy ad H locs ls X) (fun h => kf h p l e s m args below meth c D cy ad H locs ls X)
theorem b_icmp_gt {x y : Int32} {off : Int} {tgt : Nat} (hd : decode M.2.1 pc = .ok (.if_icmp .gt off, 3)) (ht : (pc : Int) + off = (tgt : Int)) (kt : y < x → Bd S M d tgt lv st I r I') (kf : ¬ y < x → Bd S M d (pc + 3) lv st I r I') : Bd S M d pc lv (.int y :: .int x :: st) I r I' :=
  fun p l e s m args below meth c D cy ad H locs ls X => lv_icmp_gt X.1.1 X.1.2.1 hd ht (fun h => kt h p l e s m args below meth c D cy ad H locs ls X) (fun h => kf h p l e s m args below meth c D cy ad H locs ls X)
theorem b_if_le {x : Int32} {off : Int} {tgt : Nat} (hd : decode M.2.1 pc = .ok (.ifCond .le off, 3)) (ht : (pc : Int) + off = (tgt : Int)) (kt : x ≤ 0 → Bd S M d tgt lv st I r I') (kf : ¬ x ≤ 0 → Bd S M d (pc + 3) lv st I r I') : Bd S M d pc lv (.int x :: st) I r I' :=
  fun p l e s m args below meth c D cy ad H locs ls X => lv_if_le X.1.1 X.1.2.1 hd ht (fun h => kt h p l e s m args below meth c D cy ad H locs ls X) (fun h => kf h p l e s m args below meth c D cy ad H locs ls X)
theorem b_icmp_le {x y : Int32} {off : Int} {tgt : Nat} (hd : decode M.2.1 pc = .ok (.if_icmp .le off, 3)) (ht : (pc : Int) + off = (tgt : Int)) (kt : x ≤ y → Bd S M d tgt lv st I r I') (kf : ¬ x ≤ y → Bd S M d (pc + 3) lv st I r I') : Bd S M d pc lv (.int y :: .int x :: st) I r I' :=
  fun p l e s m args below meth c D cy ad H locs ls X => lv_icmp_le X.1.1 X.1.2.1 hd ht (fun h => kt h p l e s m args below meth c D cy ad H locs ls X) (fun h => kf h p l e s m args below meth c D cy ad H locs ls X)
end BR
end
section
/-! a field by its link: class ci's field j, at entry idx of own's pool -/
def FW (own : String) (idx ci j : Nat) (rf fin : Bool) (ty : FieldType) : Prop :=
  ∃ (C : String) (T : u_T) (N : Nat) (ty0 : Nat → FieldType), clX[ci]? = some (C, T, N) ∧ clN ci = N ∧ j < N ∧ (∀ w ∈ u_ws C T N, w ∈ gw) ∧ Cond.fieldLink own idx (T j).1 (T j).2.1 (T j).2.2.1 ∈ gw ∧ isR ci j = rf ∧ (T j).2.2.2 = fin ∧
    (∀ k, k < N → parseFieldDescriptor (T k).2.2.1 = some (ty0 k)) ∧ (∀ a, a < N → ∀ b, b < N → a ≠ b → (T a).2.1 ≠ (T b).2.1) ∧ parseFieldDescriptor (T j).2.2.1 = some ty ∧ ci < 20
/-- a method and its words -/
def MV (M : Mi) (na : Nat) : Prop := Cond.code M.1 M.2.1 M.2.2.1 M.2.2.2 ∈ gw ∧ Cond.initialized M.1.cls ∈ gw ∧ (M.1.cls ≠ "java/lang/invoke/MethodHandle" ∧ M.1.cls ≠ "java/lang/invoke/VarHandle") ∧ (parseMethodDescriptor M.1.desc).map (fun d => d.parameters.length) = some na ∧ M.2.2.1 ≤ 40
def MVi (M : Mi) : Prop := Cond.instanceMethod M.1 ∈ gw ∧ Cond.selects M.1.cls M.1 M.1 ∈ gw
def IsO (S : Sy) (k : Nat) (C : String) : Prop := ∃ (ci z : Nat) (q : vw_C), S.1[k]? = some (ci, z) ∧ ci < 20 ∧ clX[ci]? = some q ∧ q.1 = C
theorem ent_o {cy : Nat → ClassId} {ad : Nat → Nat} {ci z : Nat} {ik : Nat → Int32} {rk : Nat → Option Nat} (h : ci < 20) : entOf cy ad (ci, z) ik rk = .inr (ci, (List.range (clN ci)).map fun j => if isR ci j then va_rf ((rk j).map ad) else .int (ik j)) := by
  unfold entOf; rw [if_pos h]
theorem fs_at {n j : Nat} {g : Nat → Value} (h : j < n) : ((List.range n).map g)[j]? = some (g j) := by
  simp [List.getElem?_map, List.getElem?_range h]
section BH
variable {S : Sy} {M : Mi} {d pc : Nat} {lv : List (Nat × Value)} {st : List Value} {I I' : Wd} {r : Option Value}
theorem b_geti {k idx ci z j : Nat} {fin : Bool} {ty : FieldType} (hd : decode M.2.1 pc = .ok (.getfield idx, 3)) (hf : FW M.1.cls idx ci j false fin ty) (hsh : S.1[k]? = some (ci, z)) (kk : Bd S M d (pc + 3) lv (.int (I k j) :: st) I r I') : Bd S M d pc lv (.ref k :: st) I r I' := by
  intro p l e s m args below meth c D cy ad H locs ls X
  obtain ⟨C, T, N, ty0, h1, h2, h3, h4, h5, h6, h7, h8, h9, h10, h11⟩ := hf
  obtain ⟨⟨hx, hb, hr, hml, hown, hts, hlocks⟩, hl, hi, hK, hE, hP, hS⟩ := id X
  have he := ws_at (cy := cy) (ad := ad) (I := I) hsh
  rw [ent_o h11] at he
  refine va_get (D := D) (cl := clX) (tys := tyL cy) (ci := ci) (C := C) (T := T) (N := N) (v := .int (I k j)) hx hb hts h4 hown hK hP k he h1 j h3 (hts _ h5) (fun _ h => h) ?_ hd (kk p l e s m args below meth c D cy ad H locs ls X)
  rw [h2, fs_at h3, if_neg (by rw [h6]; decide)]
theorem b_geta {k idx ci z j q : Nat} {fin : Bool} {ty : FieldType} (hd : decode M.2.1 pc = .ok (.getfield idx, 3)) (hf : FW M.1.cls idx ci j true fin ty) (hsh : S.1[k]? = some (ci, z)) (hq : S.2 k j = some q) (kk : Bd S M d (pc + 3) lv (.ref q :: st) I r I') : Bd S M d pc lv (.ref k :: st) I r I' := by
  intro p l e s m args below meth c D cy ad H locs ls X
  obtain ⟨C, T, N, ty0, h1, h2, h3, h4, h5, h6, h7, h8, h9, h10, h11⟩ := hf
  obtain ⟨⟨hx, hb, hr, hml, hown, hts, hlocks⟩, hl, hi, hK, hE, hP, hS⟩ := id X
  have he := ws_at (cy := cy) (ad := ad) (I := I) hsh
  rw [ent_o h11] at he
  refine va_get (D := D) (cl := clX) (tys := tyL cy) (ci := ci) (C := C) (T := T) (N := N) (v := .ref (ad q)) hx hb hts h4 hown hK hP k he h1 j h3 (hts _ h5) (fun _ h => h) ?_ hd (kk p l e s m args below meth c D cy ad H locs ls X)
  rw [h2, fs_at h3, if_pos (by rw [h6]), hq]
  rfl
theorem b_putv {k idx ci z j : Nat} {ty : FieldType} {x : Int32} (hd : decode M.2.1 pc = .ok (.putfield idx, 3)) (hf : FW M.1.cls idx ci j false false ty) (hsh : S.1[k]? = some (ci, z)) (hn : narrow ty (.int x) = .int x) (hfit : fits ty (.int x) = true) (kk : Bd S M d (pc + 3) lv st (ist I k j x) r I') : Bd S M d pc lv (.int x :: .ref k :: st) I r I' := by
  intro p l e s m args below meth c D cy ad H locs ls X
  obtain ⟨C, T, N, ty0, h1, h2, h3, h4, h5, h6, h7, h8, h9, h10, h11⟩ := hf
  obtain ⟨hX1, hl, hi, hK, hE, hP, hS⟩ := id X
  obtain ⟨hx, hb, hr, hml, hown, hts, hlocks⟩ := id hX1
  have he := ws_at (cy := cy) (ad := ad) (I := I) hsh
  rw [ent_o h11] at he
  refine va_put (D := D) (cl := clX) (tys := tyL cy) (ci := ci) (C := C) (T := T) (N := N) (v := .int x) (ty := ty) hx hb hts h4 ty0 h8 h9 hown hK hP (ws_D hi) hS k he h1 j h3 (hts _ h5) (fun _ h => h) h7 h10 hn hfit (by simpa [h2] using h3) hd ?_
  intro H1 locs1 hP1 hD1 hS1
  have e2 : (wsO cy ad S I).set k (ad k, .inr (ci, ((List.range (clN ci)).map fun i => if isR ci i then va_rf ((S.2 k i).map ad) else .int (I k i)).set j (.int x))) = wsO cy ad S (ist I k j x) := by
    have e3 := ws_set (cy := cy) (ad := ad) (I := I) hsh (upd (I k) j x)
    rw [ent_o h11] at e3
    unfold ist
    rw [← e3, fs_set]
    congr 3
    refine congrArg (Prod.mk ci) ?_
    apply List.map_congr_left
    intro i _
    by_cases hij : i = j
    · subst hij; rw [if_pos rfl, if_neg (by rw [h6]; decide)]; simp [upd]
    · rw [if_neg hij]
      by_cases hR : isR ci i = true
      · rw [if_pos hR, if_pos hR]
      · rw [if_neg hR, if_neg hR]; simp [upd, hij]
  rw [e2] at hP1
  exact kk p l e s m args below meth c D cy ad H1 locs1 ls ⟨hX1, hl, hi, hK, hE, hP1, hS1⟩
theorem b_puti {k idx ci z j : Nat} {x : Int32} (hd : decode M.2.1 pc = .ok (.putfield idx, 3)) (hf : FW M.1.cls idx ci j false false .int) (hsh : S.1[k]? = some (ci, z)) (kk : Bd S M d (pc + 3) lv st (ist I k j x) r I') : Bd S M d pc lv (.int x :: .ref k :: st) I r I' := b_putv hd hf hsh rfl rfl kk
theorem b_put1 {k idx ci z j : Nat} (hd : decode M.2.1 pc = .ok (.putfield idx, 3)) (hf : FW M.1.cls idx ci j false false .boolean) (hsh : S.1[k]? = some (ci, z)) (kk : Bd S M d (pc + 3) lv st (ist I k j 1) r I') : Bd S M d pc lv (.int 1 :: .ref k :: st) I r I' := b_putv hd hf hsh rfl rfl kk
theorem b_put0 {k idx ci z j : Nat} (hd : decode M.2.1 pc = .ok (.putfield idx, 3)) (hf : FW M.1.cls idx ci j false false .boolean) (hsh : S.1[k]? = some (ci, z)) (kk : Bd S M d (pc + 3) lv st (ist I k j 0) r I') : Bd S M d pc lv (.int 0 :: .ref k :: st) I r I' := b_putv hd hf hsh rfl rfl kk
theorem ent_i {cy : Nat → ClassId} {ad : Nat → Nat} {n : Nat} {ik : Nat → Int32} {rk : Nat → Option Nat} : entOf cy ad (20, n) ik rk = .inl (cy 20, n, .inl ik) := rfl
theorem ent_z {cy : Nat → ClassId} {ad : Nat → Nat} {n : Nat} {ik : Nat → Int32} {rk : Nat → Option Nat} : entOf cy ad (21, n) ik rk = .inl (cy 21, n, .inl ik) := rfl
theorem b_iald {k n : Nat} {i : Int32} (hd : decode M.2.1 pc = .ok (.iaload, 1)) (hsh : S.1[k]? = some (20, n)) (hin : vp_in i n) (kk : Bd S M d (pc + 1) lv (.int (I k i.toNatClampNeg) :: st) I r I') : Bd S M d pc lv (.int i :: .ref k :: st) I r I' := by
  intro p l e s m args below meth c D cy ad H locs ls X
  obtain ⟨⟨hx, hb, hr, hml, hown, hts, hlocks⟩, hl, hi, hK, hE, hP, hS⟩ := id X
  exact va_iald hx hb hK hP k 0 (ws_at hsh) rfl hin hd (kk p l e s m args below meth c D cy ad H locs ls X)
theorem b_zald {k n : Nat} {i : Int32} (hd : decode M.2.1 pc = .ok (.baload, 1)) (hsh : S.1[k]? = some (21, n)) (hin : vp_in i n) (kk : Bd S M d (pc + 1) lv (.int (I k i.toNatClampNeg) :: st) I r I') : Bd S M d pc lv (.int i :: .ref k :: st) I r I' := by
  intro p l e s m args below meth c D cy ad H locs ls X
  obtain ⟨⟨hx, hb, hr, hml, hown, hts, hlocks⟩, hl, hi, hK, hE, hP, hS⟩ := id X
  exact va_zald hx hb hK hP k 1 (ws_at hsh) rfl hin hd (kk p l e s m args below meth c D cy ad H locs ls X)
theorem b_iast {k n : Nat} {i x : Int32} (hd : decode M.2.1 pc = .ok (.iastore, 1)) (hsh : S.1[k]? = some (20, n)) (hin : vp_in i n) (kk : Bd S M d (pc + 1) lv st (ist I k i.toNatClampNeg x) r I') : Bd S M d pc lv (.int x :: .int i :: .ref k :: st) I r I' := by
  intro p l e s m args below meth c D cy ad H locs ls X
  obtain ⟨hX1, hl, hi, hK, hE, hP, hS⟩ := id X
  obtain ⟨hx, hb, hr, hml, hown, hts, hlocks⟩ := id hX1
  refine va_iast hx hb hK hP (ws_D hi) hS k 0 (ws_at hsh) rfl hin hd ?_
  intro H1 locs1 hP1 hD1 hS1
  have e3 := ws_set (cy := cy) (ad := ad) (I := I) hsh (upd (I k) i.toNatClampNeg x)
  rw [ent_i] at e3
  rw [e3] at hP1
  exact kk p l e s m args below meth c D cy ad H1 locs1 ls ⟨hX1, hl, hi, hK, hE, hP1, hS1⟩
theorem b_zast {k n : Nat} {i x : Int32} (hd : decode M.2.1 pc = .ok (.bastore, 1)) (hsh : S.1[k]? = some (21, n)) (hin : vp_in i n) (hx01 : vp_nar .boolean x = x) (kk : Bd S M d (pc + 1) lv st (ist I k i.toNatClampNeg x) r I') : Bd S M d pc lv (.int x :: .int i :: .ref k :: st) I r I' := by
  intro p l e s m args below meth c D cy ad H locs ls X
  obtain ⟨hX1, hl, hi, hK, hE, hP, hS⟩ := id X
  obtain ⟨hx, hb, hr, hml, hown, hts, hlocks⟩ := id hX1
  refine va_zast hx hb hK hP (ws_D hi) hS k 1 (ws_at hsh) rfl hin hd ?_
  intro H1 locs1 hP1 hD1 hS1
  rw [hx01] at hP1
  have e3 := ws_set (cy := cy) (ad := ad) (I := I) hsh (upd (I k) i.toNatClampNeg x)
  rw [ent_z] at e3
  rw [e3] at hP1
  exact kk p l e s m args below meth c D cy ad H1 locs1 ls ⟨hX1, hl, hi, hK, hE, hP1, hS1⟩
/-- a row of references: what stands there -/
theorem b_aald {k n t q : Nat} {i : Int32} (hd : decode M.2.1 pc = .ok (.aaload, 1)) (hsh : S.1[k]? = some (t, n)) (ht : t = 22 ∨ t = 23) (hin : vp_in i n) (hq : S.2 k i.toNatClampNeg = some q) (kk : Bd S M d (pc + 1) lv (.ref q :: st) I r I') : Bd S M d pc lv (.int i :: .ref k :: st) I r I' := by
  intro p l e s m args below meth c D cy ad H locs ls X
  obtain ⟨⟨hx, hb, hr, hml, hown, hts, hlocks⟩, hl, hi, hK, hE, hP, hS⟩ := id X
  have kk2 := kk p l e s m args below meth c D cy ad H locs ls X
  have ev : cvt ad (.ref q) = va_rf ((S.2 k i.toNatClampNeg).map ad) := by rw [hq]; rfl
  rcases ht with rfl | rfl
  · exact va_aldq hx hb hK hP k 2 (ws_at hsh) rfl hin hd (by rw [← ev]; exact kk2)
  · exact va_aldq hx hb hK hP k 3 (ws_at hsh) rfl hin hd (by rw [← ev]; exact kk2)
/-- an array's length -/
theorem b_alen {k n t : Nat} {v : Int32} (hd : decode M.2.1 pc = .ok (.arraylength, 1)) (hsh : S.1[k]? = some (t, n)) (ht : t = 20 ∨ t = 21) (hv : Int32.ofNat n = v) (kk : Bd S M d (pc + 1) lv (.int v :: st) I r I') : Bd S M d pc lv (.ref k :: st) I r I' := by
  intro p l e s m args below meth c D cy ad H locs ls X
  obtain ⟨⟨hx, hb, hr, hml, hown, hts, hlocks⟩, hl, hi, hK, hE, hP, hS⟩ := id X
  have kk2 := kk p l e s m args below meth c D cy ad H locs ls X
  rcases ht with rfl | rfl
  · exact va_alen hx hb hK hP k 0 (ws_at hsh) rfl hv hd kk2
  · exact va_alen hx hb hK hP k 1 (ws_at hsh) rfl hv hd kk2
/-! returns -/
theorem Qcw.of {D : va_G} {cy : Nat → ClassId} {ad : Nat → Nat} {s t : State} {H : Heap} {locs : List Loc} {as : Array Value} (hP : va_P D clX (wsO cy ad S I) H) (hS : va_S (Aad S ad) s.heap H locs) (ht : t.heap = H) : Qcw D cy ad S r I as s (.returned (r.map (cvt ad))) t := ⟨rfl, by rw [ht]; exact hP, hS.F ht⟩
theorem b_iret {v : Int32} (hd : decode M.2.1 pc = .ok (.ireturn, 1)) (hty : M.2.2.2 = some .int) : Bd S M d pc lv [.int v] I (some (.int v)) I := by
  intro p l e s m args below meth c D cy ad H locs ls X
  obtain ⟨⟨hx, hb, hr, hml, hown, hts, hlocks⟩, hl, hi, hK, hE, hP, hS⟩ := id X
  exact W.iret (v := v) hx hb (hr.trans hty) (fun t ht hW => Qcw.of (r := some (.int v)) hP hS ht) hS.2.2 hd hlocks
theorem b_zret {v : Int32} {ty : FieldType} (hd : decode M.2.1 pc = .ok (.ireturn, 1)) (hty : M.2.2.2 = some ty) (hn : narrow ty (.int v) = .int v) : Bd S M d pc lv [.int v] I (some (.int v)) I := by
  intro p l e s m args below meth c D cy ad H locs ls X
  obtain ⟨⟨hx, hb, hr, hml, hown, hts, hlocks⟩, hl, hi, hK, hE, hP, hS⟩ := id X
  exact W.zret (v := v) hx hb (hr.trans hty) hn (fun t ht hW => Qcw.of (r := some (.int v)) hP hS ht) hS.2.2 hd hlocks
theorem b_lret {v : Int64} (hd : decode M.2.1 pc = .ok (.lreturn, 1)) (hty : M.2.2.2 = some .long) : Bd S M d pc lv [.long v] I (some (.long v)) I := by
  intro p l e s m args below meth c D cy ad H locs ls X
  obtain ⟨⟨hx, hb, hr, hml, hown, hts, hlocks⟩, hl, hi, hK, hE, hP, hS⟩ := id X
  exact W.lret (v := v) hx hb (hr.trans hty) (fun t ht hW => Qcw.of (r := some (.long v)) hP hS ht) hS.2.2 hd hlocks
theorem b_vret (hd : decode M.2.1 pc = .ok (.return_, 1)) (hty : M.2.2.2 = none) : Bd S M d pc lv [] I none I := by
  intro p l e s m args below meth c D cy ad H locs ls X
  obtain ⟨⟨hx, hb, hr, hml, hown, hts, hlocks⟩, hl, hi, hK, hE, hP, hS⟩ := id X
  exact W.vret hx hb (hr.trans hty) (fun t ht hW => Qcw.of (r := none) hP hS ht) hS.2.2 hd hlocks
theorem b_aret {k : Nat} {n : String} (hd : decode M.2.1 pc = .ok (.areturn, 1)) (hty : M.2.2.2 = some (.object n)) : Bd S M d pc lv [.ref k] I (some (.ref k)) I := by
  intro p l e s m args below meth c D cy ad H locs ls X
  obtain ⟨⟨hx, hb, hr, hml, hown, hts, hlocks⟩, hl, hi, hK, hE, hP, hS⟩ := id X
  exact W.aret (v := .ref (ad k)) hx hb (hr.trans hty) (Or.inl ⟨n, rfl⟩) (Or.inr ⟨_, rfl⟩) (fun t ht hW => Qcw.of (r := some (.ref k)) hP hS ht) hS.2.2 hd hlocks
/-- the end, put as an equation -/
theorem b_eq {r1 : Option Value} {I1 : Wd} (h : Bd S M d pc lv st I r1 I1) (h1 : r1 = r) (h2 : I1 = I') : Bd S M d pc lv st I r I' := h1 ▸ h2 ▸ h
/-! calls -/
theorem Pcw.blind {D : va_G} {cy : Nat → ClassId} {ad : Nat → Nat} {As : List Value} : FrameBlind (Pcw D cy ad S As I) := by
  intro a U g mk q
  obtain ⟨q0, qP, qK, qE⟩ := q
  exact ⟨q0, qP, va_K.moved (u := U) (U := U.calling g mk a) (Vm.Alike.refl U.vm) qK, Ext.same (u := U) (U := U.calling g mk a) rfl qE⟩
theorem Pcw.at {D : va_G} {cy : Nat → ClassId} {ad : Nat → Nat} {As : List Value} {s U : State} {H : Heap} {locs : List Loc} (hK : va_K D clX (tyL cy) s) (hE : Ext (Aad S ad) ad s s.heap) (hP : va_P D clX (wsO cy ad S I) H) (hS : va_S (Aad S ad) s.heap H locs) (hU : U.heap = H) (hW : s.WarmedH U.vm) : Pcw D cy ad S As I (As.map (cvt ad)).toArray U :=
  ⟨rfl, by rw [hU]; exact hP, va_K.moved hW.alike hK, by rw [hU]; exact (hE.warm hW).kept hS.2.1⟩
theorem go_on {p : Program} {l : Launch} {e : Env} {s : State} {m : MethodId} {args : Array Value} {below : List Frame} {meth : Method} {c : Code} {D : va_G} {cy : Nat → ClassId} {ad : Nat → Nat} {H : Heap} {locs : List Loc} {ls : Array Slot} {r1 : Option Value} {I1 : Wd} {rest st0 : List Value} {a : Array Value} (X : Cx S M p s m args meth c D cy ad I H locs ls lv)
    (run : va_Run p l e (rmd d) s m args below meth c H locs 0 0 0 0 (F0 m pc ls st0) (rest.map (cvt ad)) (Qcw D cy ad S r1 I1 a) (Aad S ad))
    (kk : Bd S M d (pc + 3) lv (r1.toList ++ rest) I1 r I') : W p l e (rmd d) s m args below meth c H locs 0 0 (MQ below (Qcw D cy ad S r I') args s 0 0 (Aad S ad)) (F0 m pc ls st0) := by
  obtain ⟨hX1, hl, hi, hK, hE, hP, hS⟩ := X
  intro T hT XS
  obtain ⟨v, st₀, t, T', L, h0, X', hL, e1, e2, ⟨hret, hP1, hF⟩, stp⟩ := run T hT XS
  have hv : v = r1.map (cvt ad) := Outcome.returned.inj hret
  subst hv
  have hz : H.size ≤ T'.heap.size := by rw [e1, ← h0]; exact hF.1
  have hkp : ∀ q : Nat, q < H.size → ¬ Aad S ad q → T'.heap[q]? = H[q]? := fun q h1 h2 => by rw [e1, ← h0]; exact hF.2 q (by rw [h0]; exact h1) h2
  obtain ⟨t2, a1, b1⟩ := kk p l e s m args below meth c D cy ad T'.heap (locs ++ L) ls ⟨hX1, hl, hi, hK, hE, by rw [e1]; exact hP1, Nat.le_trans hS.1 hz, fun q h1 h2 => by rw [hkp q (Nat.lt_of_lt_of_le h1 hS.1) h2]; exact hS.2.1 q h1 h2, fun q hq => by
    rcases List.mem_append.mp hq with h | h
    · exact hS.2.2 q h
    · exact hL q h⟩ T' rfl X'
  refine ⟨t2, stp t2 ?_, b1⟩
  have e3 : (r1.toList ++ rest).map (cvt ad) = (r1.map (cvt ad)).toList ++ rest.map (cvt ad) := by cases r1 <;> simp
  rw [e3] at a1
  exact a1
def csum (st : List Value) : Nat := (st.map fun v => v.category).sum
theorem csum_map (ad : Nat → Nat) (st : List Value) : ((st.map (cvt ad)).map fun v => v.category).sum = csum st := by
  simp only [csum, List.map_map]
  congr 1
  apply List.map_congr_left
  intro v _
  exact cvt_cat ad v
theorem good_call {na : Nat} {own : String} {idx : Nat} {M2 : Mi} (hl : Cond.methodLink own idx M2.1 ∈ gw) (hm : MV M2 na) (hmi : MVi M2) : GoodIn gw (wsV own idx M2.1.cls M2.1 (.code M2.1 M2.2.1 M2.2.2.1 M2.2.2.2 :: gw)) := by
  intro w hw
  refine gw_good w ?_
  simp only [wsV, List.cons_append, List.nil_append, List.mem_cons] at hw
  rcases hw with rfl | rfl | rfl | rfl | rfl | hw
  · exact hl
  · exact hmi.1
  · exact hmi.2
  · exact hm.2.1
  · exact hm.1
  · exact hw
theorem good_callS {na : Nat} {own : String} {idx : Nat} {M2 : Mi} (hl : Cond.methodLink own idx M2.1 ∈ gw) (hm : MV M2 na) (hms : Cond.static M2.1 ∈ gw) : GoodIn gw (va_wsS own idx M2.1 (.code M2.1 M2.2.1 M2.2.2.1 M2.2.2.2 :: gw)) := by
  intro w hw
  refine gw_good w ?_
  simp only [va_wsS, List.cons_append, List.nil_append, List.mem_cons] at hw
  rcases hw with rfl | rfl | rfl | rfl | hw
  · exact hl
  · exact hms
  · exact hm.2.1
  · exact hm.1
  · exact hw
theorem good_callN {na : Nat} {M2 : Mi} (hm : MV M2 na) : GoodIn gw (.code M2.1 M2.2.1 M2.2.2.1 M2.2.2.2 :: gw) := by
  intro w hw
  refine gw_good w ?_
  rcases List.mem_cons.mp hw with rfl | hw
  · exact hm.1
  · exact hw
theorem room_ok {d d2 nL : Nat} (h : d2 < d) (h2 : nL ≤ 40) : (rmd d2).frames + 1 ≤ (rmd d).frames ∧ 8 + (nL + 11) + (rmd d2).locals ≤ (rmd d).locals := by
  constructor
  · show d2 + 1 ≤ d; omega
  · show 8 + (nL + 11) + 80 * d2 ≤ 80 * d; omega
theorem b_invV {M2 : Mi} {na idx k d2 : Nat} {As rest : List Value} {r1 : Option Value} {I1 : Wd} (hd : decode M.2.1 pc = .ok (.invokevirtual idx, 3)) (hl : Cond.methodLink M.1.cls idx M2.1 ∈ gw) (hm : MV M2 na) (hmi : MVi M2) (hc : Cal S M2 d2 (.ref k :: As) I r1 I1) (hO : IsO S k M2.1.cls) (hst : st = As.reverse ++ .ref k :: rest) (hna : As.length = na) (hdd : d2 < d) (hcs : csum rest ≤ 8) (kk : Bd S M d (pc + 3) lv (r1.toList ++ rest) I1 r I') : Bd S M d pc lv st I r I' := by
  intro p l e s m args below meth c D cy ad H locs ls X
  obtain ⟨⟨hx, hb, hr, hml, hown, hts, hlocks⟩, hlv, hi, hK, hE, hP, hS⟩ := id X
  obtain ⟨ci, z, q, h1, h2, h3, h4⟩ := hO
  have he := ws_at (cy := cy) (ad := ad) (I := I) h1
  rw [ent_o h2] at he
  have hrec := va_recv hK hP h3 he
  rw [h4] at hrec
  subst hst
  refine go_on X (va_runV (As := As.map (cvt ad)) (b := ad k) (C := M2.1.cls) ⟨hx, hb, hml, hown, hts⟩ (hc l D cy ad hi) (cwV na hts (good_call hl hm hmi) rfl rfl rfl ⟨rfl, hm.2.2.1.1, hm.2.2.1.2, hm.2.2.2.1⟩ (room_ok hdd hm.2.2.2.2)) ⟨Pcw.blind, hrec, fun U hU hW => Pcw.at (As := .ref k :: As) hK hE hP hS hU hW⟩ rfl (by rw [List.length_map]; exact hna) hlv.1 (by simp [cvt]) (lv_room (by rw [csum_map]; exact hcs)) hd ⟨Nat.zero_le _, Nat.zero_le _⟩) kk
theorem b_invS {M2 : Mi} {na idx d2 : Nat} {As rest : List Value} {r1 : Option Value} {I1 : Wd} (hd : decode M.2.1 pc = .ok (.invokestatic idx, 3)) (hl : Cond.methodLink M.1.cls idx M2.1 ∈ gw) (hm : MV M2 na) (hms : Cond.static M2.1 ∈ gw) (hc : Cal S M2 d2 As I r1 I1) (hst : st = As.reverse ++ rest) (hna : As.length = na) (hdd : d2 < d) (hcs : csum rest ≤ 8) (kk : Bd S M d (pc + 3) lv (r1.toList ++ rest) I1 r I') : Bd S M d pc lv st I r I' := by
  intro p l e s m args below meth c D cy ad H locs ls X
  obtain ⟨⟨hx, hb, hr, hml, hown, hts, hlocks⟩, hlv, hi, hK, hE, hP, hS⟩ := id X
  subst hst
  refine go_on X (va_runS (As := As.map (cvt ad)) ⟨hx, hb, hml, hown, hts⟩ (hc l D cy ad hi) (va_cwS na hts (good_callS hl hm hms) rfl rfl rfl ⟨hm.2.2.1.1, hm.2.2.1.2, hm.2.2.2.1⟩ (room_ok hdd hm.2.2.2.2)) ⟨Pcw.blind, fun U hU hW => Pcw.at (As := As) hK hE hP hS hU hW⟩ rfl (by rw [List.length_map]; exact hna) hlv.1 (by simp) (lv_room (by rw [csum_map]; exact hcs)) hd ⟨Nat.zero_le _, Nat.zero_le _⟩) kk
/-- a private static method of the nest's host -/
theorem b_invN {M2 : Mi} {na idx d2 : Nat} {host : String} {As rest : List Value} {r1 : Option Value} {I1 : Wd} (hd : decode M.2.1 pc = .ok (.invokestatic idx, 3)) (hl : ∀ (A : Nat → Prop) (ad : Nat → Nat) (U : State) (H : Heap), Ext A ad U H → va_Nw (.methodLinkNest M.1.cls idx M2.1 host) U) (hm : MV M2 na) (hms : Cond.static M2.1 ∈ gw) (hc : Cal S M2 d2 As I r1 I1) (hst : st = As.reverse ++ rest) (hna : As.length = na) (hdd : d2 < d) (hcs : csum rest ≤ 8) (kk : Bd S M d (pc + 3) lv (r1.toList ++ rest) I1 r I') : Bd S M d pc lv st I r I' := by
  intro p l e s m args below meth c D cy ad H locs ls X
  obtain ⟨⟨hx, hb, hr, hml, hown, hts, hlocks⟩, hlv, hi, hK, hE, hP, hS⟩ := id X
  subst hst
  refine go_on X (va_runSN (As := As.map (cvt ad)) ⟨hx, hb, hml, hown, hts⟩ (hc l D cy ad hi) ⟨va_cnB na hts (good_callN hm) rfl rfl rfl (hl _ _ _ _ hE) (hts _ hm.2.1) ⟨hm.2.2.1.1, hm.2.2.1.2, hm.2.2.2.1⟩ (room_ok hdd hm.2.2.2.2), hts _ hms, trivial⟩ ⟨Pcw.blind, fun U hU hW => Pcw.at (As := As) hK hE hP hS hU hW⟩ rfl (by rw [List.length_map]; exact hna) hlv.1 (by simp) (lv_room (by rw [csum_map]; exact hcs)) hd ⟨Nat.zero_le _, Nat.zero_le _⟩) kk
end BH
end
