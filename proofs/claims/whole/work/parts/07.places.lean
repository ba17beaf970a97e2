/-! the places of the class -/
-- 0 hs; 1 built; 2 built.houseCell; 3 built.worth; 4 built.people; 5 built.pumpCell; 6 now; 7 now.rock; 8 now.hollow; 9 now.water; 10 now.fell; 11 now.fallsOf; 12 now.monthsOf; 13 now.pumped; 14 now.gone; 15 now.away; 16 now.goesDown; 17 now.goesAcross; 18 aside; 19 aside.rock; 20 aside.hollow; 21 aside.water; 22 aside.fell; 23 aside.fallsOf; 24 aside.monthsOf; 25 aside.pumped; 26 aside.gone; 27 aside.away; 28 aside.goesDown; 29 aside.goesAcross; 30 kept; 31 kept.rock; 32 kept.hollow; 33 kept.water; 34 kept.fell; 35 kept.fallsOf; 36 kept.monthsOf; 37 kept.pumped; 38 kept.gone; 39 kept.away; 40 kept.goesDown; 41 kept.goesAcross; 42 signBook; 43 signBook.kind; 44 signBook.cell; 45 signBook.value; 46 signBook.month; 47 signBook.mended; 48 signBook.mendMonth; 49 lostBook; 50 lostBook.cell; 51 lostBook.much; 52 lostBook.month; 53 warnBook; 54 warnBook.cell; 55 warnBook.much; 56 warnBook.month; 57 lastFit; 58 lastFit.best; 59 lastFit.least; 60 lastFit.greatest; 61 lastFit.low; 62 lastFit.high; 63 lastFit.sizes; 64 lastFit.needed; 65 lastFit.neededOf; 66 rules; 67 rules.tape; 68 rules.tape.bytes; 69 rules.tape.place; 70 rules.tape.length; 71 rules.tape.kind; 72 rules.tape.number; 73 rules.reader; 74 rules.reader.made; 75 rules.reader.made.step; 76 rules.reader.made.partEnd; 77 rules.all; 78 text0; 79 text0.step; 80 text0.partEnd; 81 text1; 82 text1.step; 83 text1.partEnd; 84 text2; 85 text2.step; 86 text2.partEnd; 87 text3; 88 text3.step; 89 text3.partEnd; 90 text4; 91 text4.step; 92 text4.partEnd; 93 text5; 94 text5.step; 95 text5.partEnd; 96 rules.named; 97 rules.stack; 98 rows; 99 sheet0; 100 sheet0.numbers; 101 sheet1; 102 sheet1.numbers; 103 sheet2; 104 sheet2.numbers; 105 sheet3; 106 sheet3.numbers; 107 lookWorth
def shC : List (Nat × Nat) := [(10, 0), (0, 0), (20, 14), (20, 14), (20, 14), (20, 6), (2, 0), (20, 64), (20, 64), (20, 64), (20, 64), (20, 4), (20, 4), (20, 6), (20, 14), (21, 14), (20, 64), (20, 64), (2, 0), (20, 64), (20, 64), (20, 64), (20, 64), (20, 4), (20, 4), (20, 6), (20, 14), (21, 14), (20, 64), (20, 64), (2, 0), (20, 64), (20, 64), (20, 64), (20, 64), (20, 4), (20, 4), (20, 6), (20, 14), (21, 14), (20, 64), (20, 64), (6, 0), (20, 30), (20, 30), (20, 30), (20, 30), (20, 30), (20, 30), (9, 0), (20, 8), (20, 8), (20, 8), (9, 0), (20, 30), (20, 30), (20, 30), (1, 0), (20, 5), (20, 5), (20, 5), (20, 5), (20, 5), (20, 5), (20, 8), (20, 8), (4, 0), (7, 0), (20, 160), (20, 160), (20, 160), (20, 160), (20, 160), (3, 0), (8, 0), (20, 160), (20, 3), (23, 6), (8, 0), (20, 160), (20, 3), (8, 0), (20, 160), (20, 3), (8, 0), (20, 160), (20, 3), (8, 0), (20, 160), (20, 3), (8, 0), (20, 160), (20, 3), (8, 0), (20, 160), (20, 3), (20, 8), (20, 160), (22, 4), (5, 0), (20, 40), (5, 0), (20, 40), (5, 0), (20, 40), (5, 0), (20, 40), (20, 8)]
def rtC : List (List (Option Nat)) := [[some 1, some 6, some 18, some 30, none, some 42, some 49, some 53, some 57, some 66, some 98, some 107, none, none], [none, none, some 2, some 3, some 4, some 5], [], [], [], [], [some 1, none, none, none, none, some 7, some 8, some 9, some 10, some 11, some 12, some 13, some 14, some 15, some 16, some 17], [], [], [], [], [], [], [], [], [], [], [], [some 1, none, none, none, none, some 19, some 20, some 21, some 22, some 23, some 24, some 25, some 26, some 27, some 28, some 29], [], [], [], [], [], [], [], [], [], [], [], [some 1, none, none, none, none, some 31, some 32, some 33, some 34, some 35, some 36, some 37, some 38, some 39, some 40, some 41], [], [], [], [], [], [], [], [], [], [], [], [none, some 43, some 44, some 45, some 46, some 47, some 48], [], [], [], [], [], [], [none, some 50, some 51, some 52], [], [], [], [none, some 54, some 55, some 56], [], [], [], [none, none, none, none, some 58, some 59, some 60, some 61, some 62, some 63, none, some 64, some 65], [], [], [], [], [], [], [], [], [some 67, none, none, some 73, some 77, some 96, some 97], [none, none, some 68, some 69, some 70, some 71, some 72], [], [], [], [], [], [some 74, some 67, none, none, none], [none, some 75, some 76], [], [], [some 78, some 81, some 84, some 87, some 90, some 93], [none, some 79, some 80], [], [], [none, some 82, some 83], [], [], [none, some 85, some 86], [], [], [none, some 88, some 89], [], [], [none, some 91, some 92], [], [], [none, some 94, some 95], [], [], [], [], [some 99, some 101, some 103, some 105], [none, none, some 100], [], [none, none, some 102], [], [none, none, some 104], [], [none, none, some 106], [], []]
def rfC (k j : Nat) : Option Nat := (rtC.getD k []).getD j none
def SyC : Sy := (shC, rfC)
theorem pC_0 : SyC.1[0]? = some (10, 0) := rfl
theorem oC_0 : IsO SyC 0 RX10 := ⟨10, 0, _, rfl, by decide, rfl, rfl⟩
theorem rC_0_0 : SyC.2 0 0 = some 1 := rfl
theorem rC_0_1 : SyC.2 0 1 = some 6 := rfl
theorem rC_0_2 : SyC.2 0 2 = some 18 := rfl
theorem rC_0_3 : SyC.2 0 3 = some 30 := rfl
theorem rC_0_5 : SyC.2 0 5 = some 42 := rfl
theorem rC_0_6 : SyC.2 0 6 = some 49 := rfl
theorem rC_0_7 : SyC.2 0 7 = some 53 := rfl
theorem rC_0_8 : SyC.2 0 8 = some 57 := rfl
theorem rC_0_9 : SyC.2 0 9 = some 66 := rfl
theorem rC_0_10 : SyC.2 0 10 = some 98 := rfl
theorem rC_0_11 : SyC.2 0 11 = some 107 := rfl
theorem pC_1 : SyC.1[1]? = some (0, 0) := rfl
theorem oC_1 : IsO SyC 1 RX0 := ⟨0, 0, _, rfl, by decide, rfl, rfl⟩
theorem rC_1_2 : SyC.2 1 2 = some 2 := rfl
theorem rC_1_3 : SyC.2 1 3 = some 3 := rfl
theorem rC_1_4 : SyC.2 1 4 = some 4 := rfl
theorem rC_1_5 : SyC.2 1 5 = some 5 := rfl
theorem pC_2 : SyC.1[2]? = some (20, 14) := rfl
theorem pC_3 : SyC.1[3]? = some (20, 14) := rfl
theorem pC_4 : SyC.1[4]? = some (20, 14) := rfl
theorem pC_5 : SyC.1[5]? = some (20, 6) := rfl
theorem pC_6 : SyC.1[6]? = some (2, 0) := rfl
theorem oC_6 : IsO SyC 6 RX2 := ⟨2, 0, _, rfl, by decide, rfl, rfl⟩
theorem rC_6_0 : SyC.2 6 0 = some 1 := rfl
theorem rC_6_5 : SyC.2 6 5 = some 7 := rfl
theorem rC_6_6 : SyC.2 6 6 = some 8 := rfl
theorem rC_6_7 : SyC.2 6 7 = some 9 := rfl
theorem rC_6_8 : SyC.2 6 8 = some 10 := rfl
theorem rC_6_9 : SyC.2 6 9 = some 11 := rfl
theorem rC_6_10 : SyC.2 6 10 = some 12 := rfl
theorem rC_6_11 : SyC.2 6 11 = some 13 := rfl
theorem rC_6_12 : SyC.2 6 12 = some 14 := rfl
theorem rC_6_13 : SyC.2 6 13 = some 15 := rfl
theorem rC_6_14 : SyC.2 6 14 = some 16 := rfl
theorem rC_6_15 : SyC.2 6 15 = some 17 := rfl
theorem pC_7 : SyC.1[7]? = some (20, 64) := rfl
theorem pC_8 : SyC.1[8]? = some (20, 64) := rfl
theorem pC_9 : SyC.1[9]? = some (20, 64) := rfl
theorem pC_10 : SyC.1[10]? = some (20, 64) := rfl
theorem pC_11 : SyC.1[11]? = some (20, 4) := rfl
theorem pC_12 : SyC.1[12]? = some (20, 4) := rfl
theorem pC_13 : SyC.1[13]? = some (20, 6) := rfl
theorem pC_14 : SyC.1[14]? = some (20, 14) := rfl
theorem pC_15 : SyC.1[15]? = some (21, 14) := rfl
theorem pC_16 : SyC.1[16]? = some (20, 64) := rfl
theorem pC_17 : SyC.1[17]? = some (20, 64) := rfl
theorem pC_18 : SyC.1[18]? = some (2, 0) := rfl
theorem oC_18 : IsO SyC 18 RX2 := ⟨2, 0, _, rfl, by decide, rfl, rfl⟩
theorem rC_18_0 : SyC.2 18 0 = some 1 := rfl
theorem rC_18_5 : SyC.2 18 5 = some 19 := rfl
theorem rC_18_6 : SyC.2 18 6 = some 20 := rfl
theorem rC_18_7 : SyC.2 18 7 = some 21 := rfl
theorem rC_18_8 : SyC.2 18 8 = some 22 := rfl
theorem rC_18_9 : SyC.2 18 9 = some 23 := rfl
theorem rC_18_10 : SyC.2 18 10 = some 24 := rfl
theorem rC_18_11 : SyC.2 18 11 = some 25 := rfl
theorem rC_18_12 : SyC.2 18 12 = some 26 := rfl
theorem rC_18_13 : SyC.2 18 13 = some 27 := rfl
theorem rC_18_14 : SyC.2 18 14 = some 28 := rfl
theorem rC_18_15 : SyC.2 18 15 = some 29 := rfl
theorem pC_19 : SyC.1[19]? = some (20, 64) := rfl
theorem pC_20 : SyC.1[20]? = some (20, 64) := rfl
theorem pC_21 : SyC.1[21]? = some (20, 64) := rfl
theorem pC_22 : SyC.1[22]? = some (20, 64) := rfl
theorem pC_23 : SyC.1[23]? = some (20, 4) := rfl
theorem pC_24 : SyC.1[24]? = some (20, 4) := rfl
theorem pC_25 : SyC.1[25]? = some (20, 6) := rfl
theorem pC_26 : SyC.1[26]? = some (20, 14) := rfl
theorem pC_27 : SyC.1[27]? = some (21, 14) := rfl
theorem pC_28 : SyC.1[28]? = some (20, 64) := rfl
theorem pC_29 : SyC.1[29]? = some (20, 64) := rfl
theorem pC_30 : SyC.1[30]? = some (2, 0) := rfl
theorem oC_30 : IsO SyC 30 RX2 := ⟨2, 0, _, rfl, by decide, rfl, rfl⟩
theorem rC_30_0 : SyC.2 30 0 = some 1 := rfl
theorem rC_30_5 : SyC.2 30 5 = some 31 := rfl
theorem rC_30_6 : SyC.2 30 6 = some 32 := rfl
theorem rC_30_7 : SyC.2 30 7 = some 33 := rfl
theorem rC_30_8 : SyC.2 30 8 = some 34 := rfl
theorem rC_30_9 : SyC.2 30 9 = some 35 := rfl
theorem rC_30_10 : SyC.2 30 10 = some 36 := rfl
theorem rC_30_11 : SyC.2 30 11 = some 37 := rfl
theorem rC_30_12 : SyC.2 30 12 = some 38 := rfl
theorem rC_30_13 : SyC.2 30 13 = some 39 := rfl
theorem rC_30_14 : SyC.2 30 14 = some 40 := rfl
theorem rC_30_15 : SyC.2 30 15 = some 41 := rfl
theorem pC_31 : SyC.1[31]? = some (20, 64) := rfl
theorem pC_32 : SyC.1[32]? = some (20, 64) := rfl
theorem pC_33 : SyC.1[33]? = some (20, 64) := rfl
theorem pC_34 : SyC.1[34]? = some (20, 64) := rfl
theorem pC_35 : SyC.1[35]? = some (20, 4) := rfl
theorem pC_36 : SyC.1[36]? = some (20, 4) := rfl
theorem pC_37 : SyC.1[37]? = some (20, 6) := rfl
theorem pC_38 : SyC.1[38]? = some (20, 14) := rfl
theorem pC_39 : SyC.1[39]? = some (21, 14) := rfl
theorem pC_40 : SyC.1[40]? = some (20, 64) := rfl
theorem pC_41 : SyC.1[41]? = some (20, 64) := rfl
theorem pC_42 : SyC.1[42]? = some (6, 0) := rfl
theorem oC_42 : IsO SyC 42 RX6 := ⟨6, 0, _, rfl, by decide, rfl, rfl⟩
theorem rC_42_1 : SyC.2 42 1 = some 43 := rfl
theorem rC_42_2 : SyC.2 42 2 = some 44 := rfl
theorem rC_42_3 : SyC.2 42 3 = some 45 := rfl
theorem rC_42_4 : SyC.2 42 4 = some 46 := rfl
theorem rC_42_5 : SyC.2 42 5 = some 47 := rfl
theorem rC_42_6 : SyC.2 42 6 = some 48 := rfl
theorem pC_43 : SyC.1[43]? = some (20, 30) := rfl
theorem pC_44 : SyC.1[44]? = some (20, 30) := rfl
theorem pC_45 : SyC.1[45]? = some (20, 30) := rfl
theorem pC_46 : SyC.1[46]? = some (20, 30) := rfl
theorem pC_47 : SyC.1[47]? = some (20, 30) := rfl
theorem pC_48 : SyC.1[48]? = some (20, 30) := rfl
theorem pC_49 : SyC.1[49]? = some (9, 0) := rfl
theorem oC_49 : IsO SyC 49 RX9 := ⟨9, 0, _, rfl, by decide, rfl, rfl⟩
theorem rC_49_1 : SyC.2 49 1 = some 50 := rfl
theorem rC_49_2 : SyC.2 49 2 = some 51 := rfl
theorem rC_49_3 : SyC.2 49 3 = some 52 := rfl
theorem pC_50 : SyC.1[50]? = some (20, 8) := rfl
theorem pC_51 : SyC.1[51]? = some (20, 8) := rfl
theorem pC_52 : SyC.1[52]? = some (20, 8) := rfl
theorem pC_53 : SyC.1[53]? = some (9, 0) := rfl
theorem oC_53 : IsO SyC 53 RX9 := ⟨9, 0, _, rfl, by decide, rfl, rfl⟩
theorem rC_53_1 : SyC.2 53 1 = some 54 := rfl
theorem rC_53_2 : SyC.2 53 2 = some 55 := rfl
theorem rC_53_3 : SyC.2 53 3 = some 56 := rfl
theorem pC_54 : SyC.1[54]? = some (20, 30) := rfl
theorem pC_55 : SyC.1[55]? = some (20, 30) := rfl
theorem pC_56 : SyC.1[56]? = some (20, 30) := rfl
theorem pC_57 : SyC.1[57]? = some (1, 0) := rfl
theorem oC_57 : IsO SyC 57 RX1 := ⟨1, 0, _, rfl, by decide, rfl, rfl⟩
theorem rC_57_4 : SyC.2 57 4 = some 58 := rfl
theorem rC_57_5 : SyC.2 57 5 = some 59 := rfl
theorem rC_57_6 : SyC.2 57 6 = some 60 := rfl
theorem rC_57_7 : SyC.2 57 7 = some 61 := rfl
theorem rC_57_8 : SyC.2 57 8 = some 62 := rfl
theorem rC_57_9 : SyC.2 57 9 = some 63 := rfl
theorem rC_57_11 : SyC.2 57 11 = some 64 := rfl
theorem rC_57_12 : SyC.2 57 12 = some 65 := rfl
theorem pC_58 : SyC.1[58]? = some (20, 5) := rfl
theorem pC_59 : SyC.1[59]? = some (20, 5) := rfl
theorem pC_60 : SyC.1[60]? = some (20, 5) := rfl
theorem pC_61 : SyC.1[61]? = some (20, 5) := rfl
theorem pC_62 : SyC.1[62]? = some (20, 5) := rfl
theorem pC_63 : SyC.1[63]? = some (20, 5) := rfl
theorem pC_64 : SyC.1[64]? = some (20, 8) := rfl
theorem pC_65 : SyC.1[65]? = some (20, 8) := rfl
theorem pC_66 : SyC.1[66]? = some (4, 0) := rfl
theorem oC_66 : IsO SyC 66 RX4 := ⟨4, 0, _, rfl, by decide, rfl, rfl⟩
theorem rC_66_0 : SyC.2 66 0 = some 67 := rfl
theorem rC_66_3 : SyC.2 66 3 = some 73 := rfl
theorem rC_66_4 : SyC.2 66 4 = some 77 := rfl
theorem rC_66_5 : SyC.2 66 5 = some 96 := rfl
theorem rC_66_6 : SyC.2 66 6 = some 97 := rfl
theorem pC_67 : SyC.1[67]? = some (7, 0) := rfl
theorem oC_67 : IsO SyC 67 RX7 := ⟨7, 0, _, rfl, by decide, rfl, rfl⟩
theorem rC_67_2 : SyC.2 67 2 = some 68 := rfl
theorem rC_67_3 : SyC.2 67 3 = some 69 := rfl
theorem rC_67_4 : SyC.2 67 4 = some 70 := rfl
theorem rC_67_5 : SyC.2 67 5 = some 71 := rfl
theorem rC_67_6 : SyC.2 67 6 = some 72 := rfl
theorem pC_68 : SyC.1[68]? = some (20, 160) := rfl
theorem pC_69 : SyC.1[69]? = some (20, 160) := rfl
theorem pC_70 : SyC.1[70]? = some (20, 160) := rfl
theorem pC_71 : SyC.1[71]? = some (20, 160) := rfl
theorem pC_72 : SyC.1[72]? = some (20, 160) := rfl
theorem pC_73 : SyC.1[73]? = some (3, 0) := rfl
theorem oC_73 : IsO SyC 73 RX3 := ⟨3, 0, _, rfl, by decide, rfl, rfl⟩
theorem rC_73_0 : SyC.2 73 0 = some 74 := rfl
theorem rC_73_1 : SyC.2 73 1 = some 67 := rfl
theorem pC_74 : SyC.1[74]? = some (8, 0) := rfl
theorem oC_74 : IsO SyC 74 RX8 := ⟨8, 0, _, rfl, by decide, rfl, rfl⟩
theorem rC_74_1 : SyC.2 74 1 = some 75 := rfl
theorem rC_74_2 : SyC.2 74 2 = some 76 := rfl
theorem pC_75 : SyC.1[75]? = some (20, 160) := rfl
theorem pC_76 : SyC.1[76]? = some (20, 3) := rfl
theorem pC_77 : SyC.1[77]? = some (23, 6) := rfl
theorem rC_77_0 : SyC.2 77 0 = some 78 := rfl
theorem rC_77_1 : SyC.2 77 1 = some 81 := rfl
theorem rC_77_2 : SyC.2 77 2 = some 84 := rfl
theorem rC_77_3 : SyC.2 77 3 = some 87 := rfl
theorem rC_77_4 : SyC.2 77 4 = some 90 := rfl
theorem rC_77_5 : SyC.2 77 5 = some 93 := rfl
theorem pC_78 : SyC.1[78]? = some (8, 0) := rfl
theorem oC_78 : IsO SyC 78 RX8 := ⟨8, 0, _, rfl, by decide, rfl, rfl⟩
theorem rC_78_1 : SyC.2 78 1 = some 79 := rfl
theorem rC_78_2 : SyC.2 78 2 = some 80 := rfl
theorem pC_79 : SyC.1[79]? = some (20, 160) := rfl
theorem pC_80 : SyC.1[80]? = some (20, 3) := rfl
theorem pC_81 : SyC.1[81]? = some (8, 0) := rfl
theorem oC_81 : IsO SyC 81 RX8 := ⟨8, 0, _, rfl, by decide, rfl, rfl⟩
theorem rC_81_1 : SyC.2 81 1 = some 82 := rfl
theorem rC_81_2 : SyC.2 81 2 = some 83 := rfl
theorem pC_82 : SyC.1[82]? = some (20, 160) := rfl
theorem pC_83 : SyC.1[83]? = some (20, 3) := rfl
theorem pC_84 : SyC.1[84]? = some (8, 0) := rfl
theorem oC_84 : IsO SyC 84 RX8 := ⟨8, 0, _, rfl, by decide, rfl, rfl⟩
theorem rC_84_1 : SyC.2 84 1 = some 85 := rfl
theorem rC_84_2 : SyC.2 84 2 = some 86 := rfl
theorem pC_85 : SyC.1[85]? = some (20, 160) := rfl
theorem pC_86 : SyC.1[86]? = some (20, 3) := rfl
theorem pC_87 : SyC.1[87]? = some (8, 0) := rfl
theorem oC_87 : IsO SyC 87 RX8 := ⟨8, 0, _, rfl, by decide, rfl, rfl⟩
theorem rC_87_1 : SyC.2 87 1 = some 88 := rfl
theorem rC_87_2 : SyC.2 87 2 = some 89 := rfl
theorem pC_88 : SyC.1[88]? = some (20, 160) := rfl
theorem pC_89 : SyC.1[89]? = some (20, 3) := rfl
theorem pC_90 : SyC.1[90]? = some (8, 0) := rfl
theorem oC_90 : IsO SyC 90 RX8 := ⟨8, 0, _, rfl, by decide, rfl, rfl⟩
theorem rC_90_1 : SyC.2 90 1 = some 91 := rfl
theorem rC_90_2 : SyC.2 90 2 = some 92 := rfl
theorem pC_91 : SyC.1[91]? = some (20, 160) := rfl
theorem pC_92 : SyC.1[92]? = some (20, 3) := rfl
theorem pC_93 : SyC.1[93]? = some (8, 0) := rfl
theorem oC_93 : IsO SyC 93 RX8 := ⟨8, 0, _, rfl, by decide, rfl, rfl⟩
theorem rC_93_1 : SyC.2 93 1 = some 94 := rfl
theorem rC_93_2 : SyC.2 93 2 = some 95 := rfl
theorem pC_94 : SyC.1[94]? = some (20, 160) := rfl
theorem pC_95 : SyC.1[95]? = some (20, 3) := rfl
theorem pC_96 : SyC.1[96]? = some (20, 8) := rfl
theorem pC_97 : SyC.1[97]? = some (20, 160) := rfl
theorem pC_98 : SyC.1[98]? = some (22, 4) := rfl
theorem rC_98_0 : SyC.2 98 0 = some 99 := rfl
theorem rC_98_1 : SyC.2 98 1 = some 101 := rfl
theorem rC_98_2 : SyC.2 98 2 = some 103 := rfl
theorem rC_98_3 : SyC.2 98 3 = some 105 := rfl
theorem pC_99 : SyC.1[99]? = some (5, 0) := rfl
theorem oC_99 : IsO SyC 99 RX5 := ⟨5, 0, _, rfl, by decide, rfl, rfl⟩
theorem rC_99_2 : SyC.2 99 2 = some 100 := rfl
theorem pC_100 : SyC.1[100]? = some (20, 40) := rfl
theorem pC_101 : SyC.1[101]? = some (5, 0) := rfl
theorem oC_101 : IsO SyC 101 RX5 := ⟨5, 0, _, rfl, by decide, rfl, rfl⟩
theorem rC_101_2 : SyC.2 101 2 = some 102 := rfl
theorem pC_102 : SyC.1[102]? = some (20, 40) := rfl
theorem pC_103 : SyC.1[103]? = some (5, 0) := rfl
theorem oC_103 : IsO SyC 103 RX5 := ⟨5, 0, _, rfl, by decide, rfl, rfl⟩
theorem rC_103_2 : SyC.2 103 2 = some 104 := rfl
theorem pC_104 : SyC.1[104]? = some (20, 40) := rfl
theorem pC_105 : SyC.1[105]? = some (5, 0) := rfl
theorem oC_105 : IsO SyC 105 RX5 := ⟨5, 0, _, rfl, by decide, rfl, rfl⟩
theorem rC_105_2 : SyC.2 105 2 = some 106 := rfl
theorem pC_106 : SyC.1[106]? = some (20, 40) := rfl
theorem pC_107 : SyC.1[107]? = some (20, 8) := rfl
/-! the places of the reference -/
-- 0 m; 1 m.rock; 2 m.hollow; 3 m.water; 4 m.fell; 5 m.flows; 6 m.solves; 7 m.bears; 8 m.counted; 9 m.fallen; 10 m.houseCell; 11 m.worth; 12 m.people; 13 m.gone; 14 m.pumpCell; 15 m.pumping; 16 m.isMoved; 17 m.signKind; 18 m.signCell; 19 m.signMonth; 20 m.signValue; 21 m.mendValue; 22 m.mendMonth; 23 m.lostCell; 24 m.lostMuch; 25 m.lostMonth; 26 m.sizes; 27 m.fitCell; 28 m.fitLeast; 29 m.fitMost; 30 m.size; 31 m.bestSize; 32 m.sureLeast; 33 m.sureMost; 34 m.text; 35 m.textLong; 36 m.waits; 37 m.pile; 38 m.facts; 39 m.says; 40 m.lookWorth; 41 m.warnCell; 42 m.warnMonth; 43 m.kept; 44 m.sort; 45 m.length; 46 m.item; 47 m.aside
def shM : List (Nat × Nat) := [(11, 0), (20, 64), (20, 64), (20, 64), (20, 64), (20, 64), (20, 4), (20, 4), (20, 4), (20, 4), (20, 14), (20, 14), (20, 14), (20, 14), (20, 6), (20, 6), (21, 14), (20, 30), (20, 30), (20, 30), (20, 30), (20, 30), (20, 30), (20, 8), (20, 8), (20, 8), (20, 5), (20, 5), (20, 5), (20, 5), (20, 5), (20, 5), (20, 5), (20, 5), (20, 1120), (20, 7), (20, 161), (20, 161), (20, 8), (20, 3), (20, 8), (20, 30), (20, 30), (20, 620), (20, 4), (20, 4), (20, 160), (20, 40)]
def rtM : List (List (Option Nat)) := [[none, none, none, none, none, some 1, some 2, some 3, some 4, some 5, some 6, some 7, some 8, some 9, some 10, some 11, some 12, some 13, some 14, some 15, some 16, none, some 17, some 18, some 19, some 20, some 21, some 22, none, none, none, some 23, some 24, some 25, none, none, none, some 26, some 27, some 28, some 29, some 30, some 31, some 32, some 33, none, none, none, some 34, some 35, none, none, none, none, none, none, some 36, some 37, some 38, none, none, none, some 39, none, some 40, none, some 41, some 42, some 43, none, none, none, none, some 44, some 45, some 46, some 47], [], [], [], [], [], [], [], [], [], [], [], [], [], [], [], [], [], [], [], [], [], [], [], [], [], [], [], [], [], [], [], [], [], [], [], [], [], [], [], [], [], [], [], [], [], [], []]
def rfM (k j : Nat) : Option Nat := (rtM.getD k []).getD j none
def SyM : Sy := (shM, rfM)
theorem pM_0 : SyM.1[0]? = some (11, 0) := rfl
theorem oM_0 : IsO SyM 0 RX11 := ⟨11, 0, _, rfl, by decide, rfl, rfl⟩
theorem rM_0_5 : SyM.2 0 5 = some 1 := rfl
theorem rM_0_6 : SyM.2 0 6 = some 2 := rfl
theorem rM_0_7 : SyM.2 0 7 = some 3 := rfl
theorem rM_0_8 : SyM.2 0 8 = some 4 := rfl
theorem rM_0_9 : SyM.2 0 9 = some 5 := rfl
theorem rM_0_10 : SyM.2 0 10 = some 6 := rfl
theorem rM_0_11 : SyM.2 0 11 = some 7 := rfl
theorem rM_0_12 : SyM.2 0 12 = some 8 := rfl
theorem rM_0_13 : SyM.2 0 13 = some 9 := rfl
theorem rM_0_14 : SyM.2 0 14 = some 10 := rfl
theorem rM_0_15 : SyM.2 0 15 = some 11 := rfl
theorem rM_0_16 : SyM.2 0 16 = some 12 := rfl
theorem rM_0_17 : SyM.2 0 17 = some 13 := rfl
theorem rM_0_18 : SyM.2 0 18 = some 14 := rfl
theorem rM_0_19 : SyM.2 0 19 = some 15 := rfl
theorem rM_0_20 : SyM.2 0 20 = some 16 := rfl
theorem rM_0_22 : SyM.2 0 22 = some 17 := rfl
theorem rM_0_23 : SyM.2 0 23 = some 18 := rfl
theorem rM_0_24 : SyM.2 0 24 = some 19 := rfl
theorem rM_0_25 : SyM.2 0 25 = some 20 := rfl
theorem rM_0_26 : SyM.2 0 26 = some 21 := rfl
theorem rM_0_27 : SyM.2 0 27 = some 22 := rfl
theorem rM_0_31 : SyM.2 0 31 = some 23 := rfl
theorem rM_0_32 : SyM.2 0 32 = some 24 := rfl
theorem rM_0_33 : SyM.2 0 33 = some 25 := rfl
theorem rM_0_37 : SyM.2 0 37 = some 26 := rfl
theorem rM_0_38 : SyM.2 0 38 = some 27 := rfl
theorem rM_0_39 : SyM.2 0 39 = some 28 := rfl
theorem rM_0_40 : SyM.2 0 40 = some 29 := rfl
theorem rM_0_41 : SyM.2 0 41 = some 30 := rfl
theorem rM_0_42 : SyM.2 0 42 = some 31 := rfl
theorem rM_0_43 : SyM.2 0 43 = some 32 := rfl
theorem rM_0_44 : SyM.2 0 44 = some 33 := rfl
theorem rM_0_48 : SyM.2 0 48 = some 34 := rfl
theorem rM_0_49 : SyM.2 0 49 = some 35 := rfl
theorem rM_0_56 : SyM.2 0 56 = some 36 := rfl
theorem rM_0_57 : SyM.2 0 57 = some 37 := rfl
theorem rM_0_58 : SyM.2 0 58 = some 38 := rfl
theorem rM_0_62 : SyM.2 0 62 = some 39 := rfl
theorem rM_0_64 : SyM.2 0 64 = some 40 := rfl
theorem rM_0_66 : SyM.2 0 66 = some 41 := rfl
theorem rM_0_67 : SyM.2 0 67 = some 42 := rfl
theorem rM_0_68 : SyM.2 0 68 = some 43 := rfl
theorem rM_0_73 : SyM.2 0 73 = some 44 := rfl
theorem rM_0_74 : SyM.2 0 74 = some 45 := rfl
theorem rM_0_75 : SyM.2 0 75 = some 46 := rfl
theorem rM_0_76 : SyM.2 0 76 = some 47 := rfl
theorem pM_1 : SyM.1[1]? = some (20, 64) := rfl
theorem pM_2 : SyM.1[2]? = some (20, 64) := rfl
theorem pM_3 : SyM.1[3]? = some (20, 64) := rfl
theorem pM_4 : SyM.1[4]? = some (20, 64) := rfl
theorem pM_5 : SyM.1[5]? = some (20, 64) := rfl
theorem pM_6 : SyM.1[6]? = some (20, 4) := rfl
theorem pM_7 : SyM.1[7]? = some (20, 4) := rfl
theorem pM_8 : SyM.1[8]? = some (20, 4) := rfl
theorem pM_9 : SyM.1[9]? = some (20, 4) := rfl
theorem pM_10 : SyM.1[10]? = some (20, 14) := rfl
theorem pM_11 : SyM.1[11]? = some (20, 14) := rfl
theorem pM_12 : SyM.1[12]? = some (20, 14) := rfl
theorem pM_13 : SyM.1[13]? = some (20, 14) := rfl
theorem pM_14 : SyM.1[14]? = some (20, 6) := rfl
theorem pM_15 : SyM.1[15]? = some (20, 6) := rfl
theorem pM_16 : SyM.1[16]? = some (21, 14) := rfl
theorem pM_17 : SyM.1[17]? = some (20, 30) := rfl
theorem pM_18 : SyM.1[18]? = some (20, 30) := rfl
theorem pM_19 : SyM.1[19]? = some (20, 30) := rfl
theorem pM_20 : SyM.1[20]? = some (20, 30) := rfl
theorem pM_21 : SyM.1[21]? = some (20, 30) := rfl
theorem pM_22 : SyM.1[22]? = some (20, 30) := rfl
theorem pM_23 : SyM.1[23]? = some (20, 8) := rfl
theorem pM_24 : SyM.1[24]? = some (20, 8) := rfl
theorem pM_25 : SyM.1[25]? = some (20, 8) := rfl
theorem pM_26 : SyM.1[26]? = some (20, 5) := rfl
theorem pM_27 : SyM.1[27]? = some (20, 5) := rfl
theorem pM_28 : SyM.1[28]? = some (20, 5) := rfl
theorem pM_29 : SyM.1[29]? = some (20, 5) := rfl
theorem pM_30 : SyM.1[30]? = some (20, 5) := rfl
theorem pM_31 : SyM.1[31]? = some (20, 5) := rfl
theorem pM_32 : SyM.1[32]? = some (20, 5) := rfl
theorem pM_33 : SyM.1[33]? = some (20, 5) := rfl
theorem pM_34 : SyM.1[34]? = some (20, 1120) := rfl
theorem pM_35 : SyM.1[35]? = some (20, 7) := rfl
theorem pM_36 : SyM.1[36]? = some (20, 161) := rfl
theorem pM_37 : SyM.1[37]? = some (20, 161) := rfl
theorem pM_38 : SyM.1[38]? = some (20, 8) := rfl
theorem pM_39 : SyM.1[39]? = some (20, 3) := rfl
theorem pM_40 : SyM.1[40]? = some (20, 8) := rfl
theorem pM_41 : SyM.1[41]? = some (20, 30) := rfl
theorem pM_42 : SyM.1[42]? = some (20, 30) := rfl
theorem pM_43 : SyM.1[43]? = some (20, 620) := rfl
theorem pM_44 : SyM.1[44]? = some (20, 4) := rfl
theorem pM_45 : SyM.1[45]? = some (20, 4) := rfl
theorem pM_46 : SyM.1[46]? = some (20, 160) := rfl
theorem pM_47 : SyM.1[47]? = some (20, 40) := rfl
