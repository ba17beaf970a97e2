/-! the constructor of the reference -/
def tX11_init : List (Nat × Instr × Nat) := [(0, .aload_n 0, 1), (1, .invokespecial 7, 3), (4, .aload_n 0, 1), (5, .iconst 0, 1), (6, .putfield 13, 3), (9, .aload_n 0, 1), (10, .iconst 0, 1), (11, .putfield 17, 3), (14, .aload_n 0, 1), (15, .iconst 0, 1), (16, .putfield 20, 3), (19, .aload_n 0, 1), (20, .iconst 0, 1), (21, .putfield 23, 3), (24, .aload_n 0, 1), (25, .iconst 0, 1), (26, .putfield 26, 3), (29, .aload_n 0, 1), (30, .bipush 64, 2), (32, .newarray .int, 2), (34, .putfield 29, 3), (37, .aload_n 0, 1), (38, .bipush 64, 2), (40, .newarray .int, 2), (42, .putfield 33, 3), (45, .aload_n 0, 1), (46, .bipush 64, 2), (48, .newarray .int, 2), (50, .putfield 36, 3), (53, .aload_n 0, 1), (54, .bipush 64, 2), (56, .newarray .int, 2), (58, .putfield 39, 3), (61, .aload_n 0, 1), (62, .bipush 64, 2), (64, .newarray .int, 2), (66, .putfield 42, 3), (69, .aload_n 0, 1), (70, .iconst 4, 1), (71, .newarray .int, 2), (73, .dup, 1), (74, .iconst 0, 1), (75, .iconst 0, 1), (76, .iastore, 1), (77, .dup, 1), (78, .iconst 1, 1), (79, .iconst 2, 1), (80, .iastore, 1), (81, .dup, 1), (82, .iconst 2, 1), (83, .iconst 5, 1), (84, .iastore, 1), (85, .dup, 1), (86, .iconst 3, 1), (87, .iconst 1, 1), (88, .iastore, 1), (89, .putfield 45, 3), (92, .aload_n 0, 1), (93, .iconst 4, 1), (94, .newarray .int, 2), (96, .dup, 1), (97, .iconst 0, 1), (98, .bipush 120, 2), (100, .iastore, 1), (101, .dup, 1), (102, .iconst 1, 1), (103, .bipush 90, 2), (105, .iastore, 1), (106, .dup, 1), (107, .iconst 2, 1), (108, .bipush 70, 2), (110, .iastore, 1), (111, .dup, 1), (112, .iconst 3, 1), (113, .bipush 60, 2), (115, .iastore, 1), (116, .putfield 48, 3), (119, .aload_n 0, 1), (120, .iconst 4, 1), (121, .newarray .int, 2), (123, .putfield 51, 3), (126, .aload_n 0, 1), (127, .iconst 4, 1), (128, .newarray .int, 2), (130, .putfield 54, 3), (133, .aload_n 0, 1), (134, .bipush 14, 2), (136, .newarray .int, 2), (138, .putfield 57, 3), (141, .aload_n 0, 1), (142, .bipush 14, 2), (144, .newarray .int, 2), (146, .putfield 60, 3), (149, .aload_n 0, 1), (150, .bipush 14, 2), (152, .newarray .int, 2), (154, .putfield 63, 3), (157, .aload_n 0, 1), (158, .bipush 14, 2), (160, .newarray .int, 2), (162, .putfield 66, 3), (165, .aload_n 0, 1), (166, .bipush 6, 2), (168, .newarray .int, 2), (170, .putfield 69, 3), (173, .aload_n 0, 1), (174, .bipush 6, 2), (176, .newarray .int, 2), (178, .putfield 72, 3), (181, .aload_n 0, 1), (182, .bipush 14, 2), (184, .newarray .boolean, 2), (186, .putfield 75, 3), (189, .aload_n 0, 1), (190, .iconst 0, 1), (191, .putfield 79, 3), (194, .aload_n 0, 1), (195, .bipush 30, 2), (197, .newarray .int, 2), (199, .putfield 82, 3), (202, .aload_n 0, 1), (203, .bipush 30, 2), (205, .newarray .int, 2), (207, .putfield 85, 3), (210, .aload_n 0, 1), (211, .bipush 30, 2), (213, .newarray .int, 2), (215, .putfield 88, 3), (218, .aload_n 0, 1), (219, .bipush 30, 2), (221, .newarray .int, 2), (223, .putfield 91, 3), (226, .aload_n 0, 1), (227, .bipush 30, 2), (229, .newarray .int, 2), (231, .putfield 94, 3), (234, .aload_n 0, 1), (235, .bipush 30, 2), (237, .newarray .int, 2), (239, .putfield 97, 3), (242, .aload_n 0, 1), (243, .iconst 0, 1), (244, .putfield 100, 3), (247, .aload_n 0, 1), (248, .sipush 200, 3), (251, .putfield 103, 3), (254, .aload_n 0, 1), (255, .iconst 0, 1), (256, .putfield 106, 3), (259, .aload_n 0, 1), (260, .bipush 8, 2), (262, .newarray .int, 2), (264, .putfield 109, 3), (267, .aload_n 0, 1), (268, .bipush 8, 2), (270, .newarray .int, 2), (272, .putfield 112, 3), (275, .aload_n 0, 1), (276, .bipush 8, 2), (278, .newarray .int, 2), (280, .putfield 115, 3), (283, .aload_n 0, 1), (284, .iconst 0, 1), (285, .putfield 118, 3), (288, .aload_n 0, 1), (289, .iconst 0, 1), (290, .putfield 121, 3), (293, .aload_n 0, 1), (294, .iconst 0, 1), (295, .putfield 124, 3), (298, .aload_n 0, 1), (299, .iconst 5, 1), (300, .newarray .int, 2), (302, .dup, 1), (303, .iconst 0, 1), (304, .iconst 0, 1), (305, .iastore, 1), (306, .dup, 1), (307, .iconst 1, 1), (308, .bipush 10, 2), (310, .iastore, 1), (311, .dup, 1), (312, .iconst 2, 1), (313, .bipush 25, 2), (315, .iastore, 1), (316, .dup, 1), (317, .iconst 3, 1), (318, .bipush 50, 2), (320, .iastore, 1), (321, .dup, 1), (322, .iconst 4, 1), (323, .bipush 100, 2), (325, .iastore, 1), (326, .putfield 128, 3), (329, .aload_n 0, 1), (330, .iconst 5, 1), (331, .newarray .int, 2), (333, .putfield 131, 3), (336, .aload_n 0, 1), (337, .iconst 5, 1), (338, .newarray .int, 2), (340, .putfield 134, 3), (343, .aload_n 0, 1), (344, .iconst 5, 1), (345, .newarray .int, 2), (347, .putfield 137, 3), (350, .aload_n 0, 1), (351, .iconst 5, 1), (352, .newarray .int, 2), (354, .putfield 140, 3), (357, .aload_n 0, 1), (358, .iconst 5, 1), (359, .newarray .int, 2), (361, .putfield 143, 3), (364, .aload_n 0, 1), (365, .iconst 5, 1), (366, .newarray .int, 2), (368, .putfield 146, 3), (371, .aload_n 0, 1), (372, .iconst 5, 1), (373, .newarray .int, 2), (375, .putfield 149, 3), (378, .aload_n 0, 1), (379, .iconst 1, 1), (380, .putfield 152, 3), (383, .aload_n 0, 1), (384, .iconst 0, 1), (385, .putfield 155, 3), (388, .aload_n 0, 1), (389, .iconst 0, 1), (390, .putfield 158, 3), (393, .aload_n 0, 1), (394, .sipush 1120, 3), (397, .newarray .int, 2), (399, .putfield 161, 3), (402, .aload_n 0, 1), (403, .bipush 7, 2), (405, .newarray .int, 2), (407, .putfield 164, 3), (410, .aload_n 0, 1), (411, .iconst 0, 1), (412, .putfield 167, 3), (415, .aload_n 0, 1), (416, .iconst 0, 1), (417, .putfield 170, 3), (420, .aload_n 0, 1), (421, .iconst 0, 1), (422, .putfield 173, 3), (425, .aload_n 0, 1), (426, .iconst 0, 1), (427, .putfield 176, 3), (430, .aload_n 0, 1), (431, .iconst 0, 1), (432, .putfield 179, 3), (435, .aload_n 0, 1), (436, .iconst 0, 1), (437, .putfield 182, 3), (440, .aload_n 0, 1), (441, .sipush 161, 3), (444, .newarray .int, 2), (446, .putfield 185, 3), (449, .aload_n 0, 1), (450, .sipush 161, 3), (453, .newarray .int, 2), (455, .putfield 188, 3), (458, .aload_n 0, 1), (459, .bipush 8, 2), (461, .newarray .int, 2), (463, .putfield 191, 3), (466, .aload_n 0, 1), (467, .iconst 0, 1), (468, .putfield 194, 3), (471, .aload_n 0, 1), (472, .iconst 0, 1), (473, .putfield 197, 3), (476, .aload_n 0, 1), (477, .iconst 0, 1), (478, .putfield 200, 3), (481, .aload_n 0, 1), (482, .iconst 3, 1), (483, .newarray .int, 2), (485, .putfield 203, 3), (488, .aload_n 0, 1), (489, .iconst 0, 1), (490, .putfield 206, 3), (493, .aload_n 0, 1), (494, .bipush 8, 2), (496, .newarray .int, 2), (498, .putfield 209, 3), (501, .aload_n 0, 1), (502, .iconst 0, 1), (503, .putfield 212, 3), (506, .aload_n 0, 1), (507, .bipush 30, 2), (509, .newarray .int, 2), (511, .putfield 215, 3), (514, .aload_n 0, 1), (515, .bipush 30, 2), (517, .newarray .int, 2), (519, .putfield 218, 3), (522, .aload_n 0, 1), (523, .sipush 620, 3), (526, .newarray .int, 2), (528, .putfield 221, 3), (531, .aload_n 0, 1), (532, .iconst 0, 1), (533, .putfield 224, 3), (536, .aload_n 0, 1), (537, .iconst 0, 1), (538, .putfield 227, 3), (541, .aload_n 0, 1), (542, .iconst 0, 1), (543, .putfield 230, 3), (546, .aload_n 0, 1), (547, .iconst 0, 1), (548, .putfield 233, 3), (551, .aload_n 0, 1), (552, .iconst 4, 1), (553, .newarray .int, 2), (555, .dup, 1), (556, .iconst 0, 1), (557, .iconst (-1), 1), (558, .iastore, 1), (559, .dup, 1), (560, .iconst 1, 1), (561, .iconst (-1), 1), (562, .iastore, 1), (563, .dup, 1), (564, .iconst 2, 1), (565, .iconst (-1), 1), (566, .iastore, 1), (567, .dup, 1), (568, .iconst 3, 1), (569, .iconst (-1), 1), (570, .iastore, 1), (571, .putfield 236, 3), (574, .aload_n 0, 1), (575, .iconst 4, 1), (576, .newarray .int, 2), (578, .putfield 239, 3), (581, .aload_n 0, 1), (582, .sipush 160, 3), (585, .newarray .int, 2), (587, .putfield 242, 3), (590, .aload_n 0, 1), (591, .bipush 40, 2), (593, .newarray .int, 2), (595, .putfield 245, 3), (598, .iconst 0, 1), (599, .istore_n 1, 1), (600, .iload_n 1, 1), (601, .bipush 64, 2), (603, .if_icmp .ge 16, 3), (606, .aload_n 0, 1), (607, .getfield 39, 3), (610, .iload_n 1, 1), (611, .iconst (-1), 1), (612, .iastore, 1), (613, .iinc 1 1, 3), (616, .goto (-16), 3), (619, .return_, 1)]
theorem dtX11_init : dec_ok mX11_init.2.1 tX11_init = true := by decide +kernel
def lg_m (L : List (Nat × Nat × Nat)) : List (Nat × Nat × Nat) := ((0, 76, 47) :: ((0, 75, 46) :: ((0, 74, 45) :: ((0, 73, 44) :: ((0, 68, 43) :: ((0, 67, 42) :: ((0, 66, 41) :: ((0, 64, 40) :: ((0, 62, 39) :: ((0, 58, 38) :: ((0, 57, 37) :: ((0, 56, 36) :: ((0, 49, 35) :: ((0, 48, 34) :: ((0, 44, 33) :: ((0, 43, 32) :: ((0, 42, 31) :: ((0, 41, 30) :: ((0, 40, 29) :: ((0, 39, 28) :: ((0, 38, 27) :: ((0, 37, 26) :: ((0, 33, 25) :: ((0, 32, 24) :: ((0, 31, 23) :: ((0, 27, 22) :: ((0, 26, 21) :: ((0, 25, 20) :: ((0, 24, 19) :: ((0, 23, 18) :: ((0, 22, 17) :: ((0, 20, 16) :: ((0, 19, 15) :: ((0, 18, 14) :: ((0, 17, 13) :: ((0, 16, 12) :: ((0, 15, 11) :: ((0, 14, 10) :: ((0, 13, 9) :: ((0, 12, 8) :: ((0, 11, 7) :: ((0, 10, 6) :: ((0, 9, 5) :: ((0, 8, 4) :: ((0, 7, 3) :: ((0, 6, 2) :: ((0, 5, 1) :: L)))))))))))))))))))))))))))))))))))))))))))))))
def i0_m (I : Wd) : Wd := (rset (ist (ist (ist (ist (ist (ist (ist (ist (ist (ist (ist (ist (ist (ist (ist (ist (ist I 6 1 (2)) 6 2 (5)) 6 3 (1)) 7 0 (120)) 7 1 (90)) 7 2 (70)) 7 3 (60)) 0 29 (200)) 26 1 (10)) 26 2 (25)) 26 3 (50)) 26 4 (100)) 0 45 (1)) 44 0 (-1)) 44 1 (-1)) 44 2 (-1)) 44 3 (-1)) 4 (fmN 64))
set_option maxHeartbeats 16000000 in
theorem gc_m {I : Wd} (hz : ∀ a, 0 ≤ a → a ≤ 47 → I a = fun _ => 0) : Gal SyM qM mX11_init 1 47 3018 [.ref 0] 1 [] I 48 (lg_m []) (i0_m I) := by
  refine Gal.of (by decide) rfl (Nat.le_of_ble_eq_true rfl) ?_
  show Gd _ _ _ _ _ _ _ _ _ _ _ _ _ _ [(0, .ref 0)] _ _ _
  refine g_aload_n (pc := 0) (i := 0) (dd dtX11_init 0 rfl) rfl rfl ?_
  refine g_obj (pc := 1) (dd dtX11_init 1 rfl) woX11_7 (by decide) (by decide) ?_
  refine g_aload_n (pc := 4) (i := 0) (dd dtX11_init 2 rfl) rfl rfl ?_
  refine g_ic0 (pc := 5) (dd dtX11_init 3 rfl) ?_
  refine g_puts sqM (pc := 6) (i := 0) (dd dtX11_init 4 rfl) fwX11_13 rfl rfl rfl rfl (congrFun (hz 0 (by decide) (by decide)) _) ?_
  refine g_aload_n (pc := 9) (i := 0) (dd dtX11_init 5 rfl) rfl rfl ?_
  refine g_ic0 (pc := 10) (dd dtX11_init 6 rfl) ?_
  refine g_puts sqM (pc := 11) (i := 0) (dd dtX11_init 7 rfl) fwX11_17 rfl rfl rfl rfl (congrFun (hz 0 (by decide) (by decide)) _) ?_
  refine g_aload_n (pc := 14) (i := 0) (dd dtX11_init 8 rfl) rfl rfl ?_
  refine g_ic0 (pc := 15) (dd dtX11_init 9 rfl) ?_
  refine g_puts sqM (pc := 16) (i := 0) (dd dtX11_init 10 rfl) fwX11_20 rfl rfl rfl rfl (congrFun (hz 0 (by decide) (by decide)) _) ?_
  refine g_aload_n (pc := 19) (i := 0) (dd dtX11_init 11 rfl) rfl rfl ?_
  refine g_ic0 (pc := 20) (dd dtX11_init 12 rfl) ?_
  refine g_puts sqM (pc := 21) (i := 0) (dd dtX11_init 13 rfl) fwX11_23 rfl rfl rfl rfl (congrFun (hz 0 (by decide) (by decide)) _) ?_
  refine g_aload_n (pc := 24) (i := 0) (dd dtX11_init 14 rfl) rfl rfl ?_
  refine g_ic0 (pc := 25) (dd dtX11_init 15 rfl) ?_
  refine g_puts sqM (pc := 26) (i := 0) (dd dtX11_init 16 rfl) fwX11_26 rfl rfl rfl rfl (congrFun (hz 0 (by decide) (by decide)) _) ?_
  refine g_aload_n (pc := 29) (i := 0) (dd dtX11_init 17 rfl) rfl rfl ?_
  refine g_bipush (pc := 30) (v := 64) (dd dtX11_init 18 rfl) (by decide) ?_
  refine g_newI sqM (pc := 32) (k := 1) (dd dtX11_init 19 rfl) rfl rfl (hz 1 (by decide) (by decide)) (by decide) (by decide) (by decide) (by decide) (by decide) rfl rfl ?_
  refine g_puta sqM (pc := 34) (i := 0) (dd dtX11_init 20 rfl) fwX11_29 rfl rfl (by decide) (fun _ _ _ h => by cases h; rfl) (Or.inr ⟨_, rfl⟩) ?_
  refine g_aload_n (pc := 37) (i := 0) (dd dtX11_init 21 rfl) rfl rfl ?_
  refine g_bipush (pc := 38) (v := 64) (dd dtX11_init 22 rfl) (by decide) ?_
  refine g_newI sqM (pc := 40) (k := 2) (dd dtX11_init 23 rfl) rfl rfl (hz 2 (by decide) (by decide)) (by decide) (by decide) (by decide) (by decide) (by decide) rfl rfl ?_
  refine g_puta sqM (pc := 42) (i := 0) (dd dtX11_init 24 rfl) fwX11_33 rfl rfl (by decide) (fun _ _ _ h => by cases h; rfl) (Or.inr ⟨_, rfl⟩) ?_
  refine g_aload_n (pc := 45) (i := 0) (dd dtX11_init 25 rfl) rfl rfl ?_
  refine g_bipush (pc := 46) (v := 64) (dd dtX11_init 26 rfl) (by decide) ?_
  refine g_newI sqM (pc := 48) (k := 3) (dd dtX11_init 27 rfl) rfl rfl (hz 3 (by decide) (by decide)) (by decide) (by decide) (by decide) (by decide) (by decide) rfl rfl ?_
  refine g_puta sqM (pc := 50) (i := 0) (dd dtX11_init 28 rfl) fwX11_36 rfl rfl (by decide) (fun _ _ _ h => by cases h; rfl) (Or.inr ⟨_, rfl⟩) ?_
  refine g_aload_n (pc := 53) (i := 0) (dd dtX11_init 29 rfl) rfl rfl ?_
  refine g_bipush (pc := 54) (v := 64) (dd dtX11_init 30 rfl) (by decide) ?_
  refine g_newI sqM (pc := 56) (k := 4) (dd dtX11_init 31 rfl) rfl rfl (hz 4 (by decide) (by decide)) (by decide) (by decide) (by decide) (by decide) (by decide) rfl rfl ?_
  refine g_puta sqM (pc := 58) (i := 0) (dd dtX11_init 32 rfl) fwX11_39 rfl rfl (by decide) (fun _ _ _ h => by cases h; rfl) (Or.inr ⟨_, rfl⟩) ?_
  refine g_aload_n (pc := 61) (i := 0) (dd dtX11_init 33 rfl) rfl rfl ?_
  refine g_bipush (pc := 62) (v := 64) (dd dtX11_init 34 rfl) (by decide) ?_
  refine g_newI sqM (pc := 64) (k := 5) (dd dtX11_init 35 rfl) rfl rfl (hz 5 (by decide) (by decide)) (by decide) (by decide) (by decide) (by decide) (by decide) rfl rfl ?_
  refine g_puta sqM (pc := 66) (i := 0) (dd dtX11_init 36 rfl) fwX11_42 rfl rfl (by decide) (fun _ _ _ h => by cases h; rfl) (Or.inr ⟨_, rfl⟩) ?_
  refine g_aload_n (pc := 69) (i := 0) (dd dtX11_init 37 rfl) rfl rfl ?_
  refine g_ic4 (pc := 70) (dd dtX11_init 38 rfl) ?_
  refine g_newI sqM (pc := 71) (k := 6) (dd dtX11_init 39 rfl) rfl rfl (hz 6 (by decide) (by decide)) (by decide) (by decide) (by decide) (by decide) (by decide) rfl rfl ?_
  refine g_dup (pc := 73) (dd dtX11_init 40 rfl) rfl ?_
  refine g_ic0 (pc := 74) (dd dtX11_init 41 rfl) ?_
  refine g_ic0 (pc := 75) (dd dtX11_init 42 rfl) ?_
  refine g_iasts (pc := 76) (i := 6) (yi := 0) (congrFun (hz 6 (by decide) (by decide)) _) (by decide) sqM (dd dtX11_init 43 rfl) rfl rfl (by unfold vp_in; decide) ?_
  refine g_dup (pc := 77) (dd dtX11_init 44 rfl) rfl ?_
  refine g_ic1 (pc := 78) (dd dtX11_init 45 rfl) ?_
  refine g_ic2 (pc := 79) (dd dtX11_init 46 rfl) ?_
  refine g_iast (pc := 80) (i := 6) (yi := 1) (by decide) sqM (dd dtX11_init 47 rfl) rfl rfl (by unfold vp_in; decide) ?_
  refine g_dup (pc := 81) (dd dtX11_init 48 rfl) rfl ?_
  refine g_ic2 (pc := 82) (dd dtX11_init 49 rfl) ?_
  refine g_ic5 (pc := 83) (dd dtX11_init 50 rfl) ?_
  refine g_iast (pc := 84) (i := 6) (yi := 2) (by decide) sqM (dd dtX11_init 51 rfl) rfl rfl (by unfold vp_in; decide) ?_
  refine g_dup (pc := 85) (dd dtX11_init 52 rfl) rfl ?_
  refine g_ic3 (pc := 86) (dd dtX11_init 53 rfl) ?_
  refine g_ic1 (pc := 87) (dd dtX11_init 54 rfl) ?_
  refine g_iast (pc := 88) (i := 6) (yi := 3) (by decide) sqM (dd dtX11_init 55 rfl) rfl rfl (by unfold vp_in; decide) ?_
  refine g_puta sqM (pc := 89) (i := 0) (dd dtX11_init 56 rfl) fwX11_45 rfl rfl (by decide) (fun _ _ _ h => by cases h; rfl) (Or.inr ⟨_, rfl⟩) ?_
  refine g_aload_n (pc := 92) (i := 0) (dd dtX11_init 57 rfl) rfl rfl ?_
  refine g_ic4 (pc := 93) (dd dtX11_init 58 rfl) ?_
  refine g_newI sqM (pc := 94) (k := 7) (dd dtX11_init 59 rfl) rfl rfl (hz 7 (by decide) (by decide)) (by decide) (by decide) (by decide) (by decide) (by decide) rfl rfl ?_
  refine g_dup (pc := 96) (dd dtX11_init 60 rfl) rfl ?_
  refine g_ic0 (pc := 97) (dd dtX11_init 61 rfl) ?_
  refine g_bipush (pc := 98) (v := 120) (dd dtX11_init 62 rfl) (by decide) ?_
  refine g_iast (pc := 100) (i := 7) (yi := 0) (by decide) sqM (dd dtX11_init 63 rfl) rfl rfl (by unfold vp_in; decide) ?_
  refine g_dup (pc := 101) (dd dtX11_init 64 rfl) rfl ?_
  refine g_ic1 (pc := 102) (dd dtX11_init 65 rfl) ?_
  refine g_bipush (pc := 103) (v := 90) (dd dtX11_init 66 rfl) (by decide) ?_
  refine g_iast (pc := 105) (i := 7) (yi := 1) (by decide) sqM (dd dtX11_init 67 rfl) rfl rfl (by unfold vp_in; decide) ?_
  refine g_dup (pc := 106) (dd dtX11_init 68 rfl) rfl ?_
  refine g_ic2 (pc := 107) (dd dtX11_init 69 rfl) ?_
  refine g_bipush (pc := 108) (v := 70) (dd dtX11_init 70 rfl) (by decide) ?_
  refine g_iast (pc := 110) (i := 7) (yi := 2) (by decide) sqM (dd dtX11_init 71 rfl) rfl rfl (by unfold vp_in; decide) ?_
  refine g_dup (pc := 111) (dd dtX11_init 72 rfl) rfl ?_
  refine g_ic3 (pc := 112) (dd dtX11_init 73 rfl) ?_
  refine g_bipush (pc := 113) (v := 60) (dd dtX11_init 74 rfl) (by decide) ?_
  refine g_iast (pc := 115) (i := 7) (yi := 3) (by decide) sqM (dd dtX11_init 75 rfl) rfl rfl (by unfold vp_in; decide) ?_
  refine g_puta sqM (pc := 116) (i := 0) (dd dtX11_init 76 rfl) fwX11_48 rfl rfl (by decide) (fun _ _ _ h => by cases h; rfl) (Or.inr ⟨_, rfl⟩) ?_
  refine g_aload_n (pc := 119) (i := 0) (dd dtX11_init 77 rfl) rfl rfl ?_
  refine g_ic4 (pc := 120) (dd dtX11_init 78 rfl) ?_
  refine g_newI sqM (pc := 121) (k := 8) (dd dtX11_init 79 rfl) rfl rfl (hz 8 (by decide) (by decide)) (by decide) (by decide) (by decide) (by decide) (by decide) rfl rfl ?_
  refine g_puta sqM (pc := 123) (i := 0) (dd dtX11_init 80 rfl) fwX11_51 rfl rfl (by decide) (fun _ _ _ h => by cases h; rfl) (Or.inr ⟨_, rfl⟩) ?_
  refine g_aload_n (pc := 126) (i := 0) (dd dtX11_init 81 rfl) rfl rfl ?_
  refine g_ic4 (pc := 127) (dd dtX11_init 82 rfl) ?_
  refine g_newI sqM (pc := 128) (k := 9) (dd dtX11_init 83 rfl) rfl rfl (hz 9 (by decide) (by decide)) (by decide) (by decide) (by decide) (by decide) (by decide) rfl rfl ?_
  refine g_puta sqM (pc := 130) (i := 0) (dd dtX11_init 84 rfl) fwX11_54 rfl rfl (by decide) (fun _ _ _ h => by cases h; rfl) (Or.inr ⟨_, rfl⟩) ?_
  refine g_aload_n (pc := 133) (i := 0) (dd dtX11_init 85 rfl) rfl rfl ?_
  refine g_bipush (pc := 134) (v := 14) (dd dtX11_init 86 rfl) (by decide) ?_
  refine g_newI sqM (pc := 136) (k := 10) (dd dtX11_init 87 rfl) rfl rfl (hz 10 (by decide) (by decide)) (by decide) (by decide) (by decide) (by decide) (by decide) rfl rfl ?_
  refine g_puta sqM (pc := 138) (i := 0) (dd dtX11_init 88 rfl) fwX11_57 rfl rfl (by decide) (fun _ _ _ h => by cases h; rfl) (Or.inr ⟨_, rfl⟩) ?_
  refine g_aload_n (pc := 141) (i := 0) (dd dtX11_init 89 rfl) rfl rfl ?_
  refine g_bipush (pc := 142) (v := 14) (dd dtX11_init 90 rfl) (by decide) ?_
  refine g_newI sqM (pc := 144) (k := 11) (dd dtX11_init 91 rfl) rfl rfl (hz 11 (by decide) (by decide)) (by decide) (by decide) (by decide) (by decide) (by decide) rfl rfl ?_
  refine g_puta sqM (pc := 146) (i := 0) (dd dtX11_init 92 rfl) fwX11_60 rfl rfl (by decide) (fun _ _ _ h => by cases h; rfl) (Or.inr ⟨_, rfl⟩) ?_
  refine g_aload_n (pc := 149) (i := 0) (dd dtX11_init 93 rfl) rfl rfl ?_
  refine g_bipush (pc := 150) (v := 14) (dd dtX11_init 94 rfl) (by decide) ?_
  refine g_newI sqM (pc := 152) (k := 12) (dd dtX11_init 95 rfl) rfl rfl (hz 12 (by decide) (by decide)) (by decide) (by decide) (by decide) (by decide) (by decide) rfl rfl ?_
  refine g_puta sqM (pc := 154) (i := 0) (dd dtX11_init 96 rfl) fwX11_63 rfl rfl (by decide) (fun _ _ _ h => by cases h; rfl) (Or.inr ⟨_, rfl⟩) ?_
  refine g_aload_n (pc := 157) (i := 0) (dd dtX11_init 97 rfl) rfl rfl ?_
  refine g_bipush (pc := 158) (v := 14) (dd dtX11_init 98 rfl) (by decide) ?_
  refine g_newI sqM (pc := 160) (k := 13) (dd dtX11_init 99 rfl) rfl rfl (hz 13 (by decide) (by decide)) (by decide) (by decide) (by decide) (by decide) (by decide) rfl rfl ?_
  refine g_puta sqM (pc := 162) (i := 0) (dd dtX11_init 100 rfl) fwX11_66 rfl rfl (by decide) (fun _ _ _ h => by cases h; rfl) (Or.inr ⟨_, rfl⟩) ?_
  refine g_aload_n (pc := 165) (i := 0) (dd dtX11_init 101 rfl) rfl rfl ?_
  refine g_bipush (pc := 166) (v := 6) (dd dtX11_init 102 rfl) (by decide) ?_
  refine g_newI sqM (pc := 168) (k := 14) (dd dtX11_init 103 rfl) rfl rfl (hz 14 (by decide) (by decide)) (by decide) (by decide) (by decide) (by decide) (by decide) rfl rfl ?_
  refine g_puta sqM (pc := 170) (i := 0) (dd dtX11_init 104 rfl) fwX11_69 rfl rfl (by decide) (fun _ _ _ h => by cases h; rfl) (Or.inr ⟨_, rfl⟩) ?_
  refine g_aload_n (pc := 173) (i := 0) (dd dtX11_init 105 rfl) rfl rfl ?_
  refine g_bipush (pc := 174) (v := 6) (dd dtX11_init 106 rfl) (by decide) ?_
  refine g_newI sqM (pc := 176) (k := 15) (dd dtX11_init 107 rfl) rfl rfl (hz 15 (by decide) (by decide)) (by decide) (by decide) (by decide) (by decide) (by decide) rfl rfl ?_
  refine g_puta sqM (pc := 178) (i := 0) (dd dtX11_init 108 rfl) fwX11_72 rfl rfl (by decide) (fun _ _ _ h => by cases h; rfl) (Or.inr ⟨_, rfl⟩) ?_
  refine g_aload_n (pc := 181) (i := 0) (dd dtX11_init 109 rfl) rfl rfl ?_
  refine g_bipush (pc := 182) (v := 14) (dd dtX11_init 110 rfl) (by decide) ?_
  refine g_newZ sqM (pc := 184) (k := 16) (dd dtX11_init 111 rfl) rfl rfl (hz 16 (by decide) (by decide)) (by decide) (by decide) (by decide) (by decide) (by decide) rfl rfl ?_
  refine g_puta sqM (pc := 186) (i := 0) (dd dtX11_init 112 rfl) fwX11_75 rfl rfl (by decide) (fun _ _ _ h => by cases h; rfl) (Or.inr ⟨_, rfl⟩) ?_
  refine g_aload_n (pc := 189) (i := 0) (dd dtX11_init 113 rfl) rfl rfl ?_
  refine g_ic0 (pc := 190) (dd dtX11_init 114 rfl) ?_
  refine g_puts sqM (pc := 191) (i := 0) (dd dtX11_init 115 rfl) fwX11_79 rfl rfl rfl rfl (congrFun (hz 0 (by decide) (by decide)) _) ?_
  refine g_aload_n (pc := 194) (i := 0) (dd dtX11_init 116 rfl) rfl rfl ?_
  refine g_bipush (pc := 195) (v := 30) (dd dtX11_init 117 rfl) (by decide) ?_
  refine g_newI sqM (pc := 197) (k := 17) (dd dtX11_init 118 rfl) rfl rfl (hz 17 (by decide) (by decide)) (by decide) (by decide) (by decide) (by decide) (by decide) rfl rfl ?_
  refine g_puta sqM (pc := 199) (i := 0) (dd dtX11_init 119 rfl) fwX11_82 rfl rfl (by decide) (fun _ _ _ h => by cases h; rfl) (Or.inr ⟨_, rfl⟩) ?_
  refine g_aload_n (pc := 202) (i := 0) (dd dtX11_init 120 rfl) rfl rfl ?_
  refine g_bipush (pc := 203) (v := 30) (dd dtX11_init 121 rfl) (by decide) ?_
  refine g_newI sqM (pc := 205) (k := 18) (dd dtX11_init 122 rfl) rfl rfl (hz 18 (by decide) (by decide)) (by decide) (by decide) (by decide) (by decide) (by decide) rfl rfl ?_
  refine g_puta sqM (pc := 207) (i := 0) (dd dtX11_init 123 rfl) fwX11_85 rfl rfl (by decide) (fun _ _ _ h => by cases h; rfl) (Or.inr ⟨_, rfl⟩) ?_
  refine g_aload_n (pc := 210) (i := 0) (dd dtX11_init 124 rfl) rfl rfl ?_
  refine g_bipush (pc := 211) (v := 30) (dd dtX11_init 125 rfl) (by decide) ?_
  refine g_newI sqM (pc := 213) (k := 19) (dd dtX11_init 126 rfl) rfl rfl (hz 19 (by decide) (by decide)) (by decide) (by decide) (by decide) (by decide) (by decide) rfl rfl ?_
  refine g_puta sqM (pc := 215) (i := 0) (dd dtX11_init 127 rfl) fwX11_88 rfl rfl (by decide) (fun _ _ _ h => by cases h; rfl) (Or.inr ⟨_, rfl⟩) ?_
  refine g_aload_n (pc := 218) (i := 0) (dd dtX11_init 128 rfl) rfl rfl ?_
  refine g_bipush (pc := 219) (v := 30) (dd dtX11_init 129 rfl) (by decide) ?_
  refine g_newI sqM (pc := 221) (k := 20) (dd dtX11_init 130 rfl) rfl rfl (hz 20 (by decide) (by decide)) (by decide) (by decide) (by decide) (by decide) (by decide) rfl rfl ?_
  refine g_puta sqM (pc := 223) (i := 0) (dd dtX11_init 131 rfl) fwX11_91 rfl rfl (by decide) (fun _ _ _ h => by cases h; rfl) (Or.inr ⟨_, rfl⟩) ?_
  refine g_aload_n (pc := 226) (i := 0) (dd dtX11_init 132 rfl) rfl rfl ?_
  refine g_bipush (pc := 227) (v := 30) (dd dtX11_init 133 rfl) (by decide) ?_
  refine g_newI sqM (pc := 229) (k := 21) (dd dtX11_init 134 rfl) rfl rfl (hz 21 (by decide) (by decide)) (by decide) (by decide) (by decide) (by decide) (by decide) rfl rfl ?_
  refine g_puta sqM (pc := 231) (i := 0) (dd dtX11_init 135 rfl) fwX11_94 rfl rfl (by decide) (fun _ _ _ h => by cases h; rfl) (Or.inr ⟨_, rfl⟩) ?_
  refine g_aload_n (pc := 234) (i := 0) (dd dtX11_init 136 rfl) rfl rfl ?_
  refine g_bipush (pc := 235) (v := 30) (dd dtX11_init 137 rfl) (by decide) ?_
  refine g_newI sqM (pc := 237) (k := 22) (dd dtX11_init 138 rfl) rfl rfl (hz 22 (by decide) (by decide)) (by decide) (by decide) (by decide) (by decide) (by decide) rfl rfl ?_
  refine g_puta sqM (pc := 239) (i := 0) (dd dtX11_init 139 rfl) fwX11_97 rfl rfl (by decide) (fun _ _ _ h => by cases h; rfl) (Or.inr ⟨_, rfl⟩) ?_
  refine g_aload_n (pc := 242) (i := 0) (dd dtX11_init 140 rfl) rfl rfl ?_
  refine g_ic0 (pc := 243) (dd dtX11_init 141 rfl) ?_
  refine g_puts sqM (pc := 244) (i := 0) (dd dtX11_init 142 rfl) fwX11_100 rfl rfl rfl rfl (congrFun (hz 0 (by decide) (by decide)) _) ?_
  refine g_aload_n (pc := 247) (i := 0) (dd dtX11_init 143 rfl) rfl rfl ?_
  refine g_sipush (pc := 248) (v := 200) (dd dtX11_init 144 rfl) (by decide) ?_
  refine g_putv sqM (pc := 251) (i := 0) (dd dtX11_init 145 rfl) fwX11_103 rfl rfl rfl rfl ?_
  refine g_aload_n (pc := 254) (i := 0) (dd dtX11_init 146 rfl) rfl rfl ?_
  refine g_ic0 (pc := 255) (dd dtX11_init 147 rfl) ?_
  refine g_puts sqM (pc := 256) (i := 0) (dd dtX11_init 148 rfl) fwX11_106 rfl rfl rfl rfl (congrFun (hz 0 (by decide) (by decide)) _) ?_
  refine g_aload_n (pc := 259) (i := 0) (dd dtX11_init 149 rfl) rfl rfl ?_
  refine g_bipush (pc := 260) (v := 8) (dd dtX11_init 150 rfl) (by decide) ?_
  refine g_newI sqM (pc := 262) (k := 23) (dd dtX11_init 151 rfl) rfl rfl (hz 23 (by decide) (by decide)) (by decide) (by decide) (by decide) (by decide) (by decide) rfl rfl ?_
  refine g_puta sqM (pc := 264) (i := 0) (dd dtX11_init 152 rfl) fwX11_109 rfl rfl (by decide) (fun _ _ _ h => by cases h; rfl) (Or.inr ⟨_, rfl⟩) ?_
  refine g_aload_n (pc := 267) (i := 0) (dd dtX11_init 153 rfl) rfl rfl ?_
  refine g_bipush (pc := 268) (v := 8) (dd dtX11_init 154 rfl) (by decide) ?_
  refine g_newI sqM (pc := 270) (k := 24) (dd dtX11_init 155 rfl) rfl rfl (hz 24 (by decide) (by decide)) (by decide) (by decide) (by decide) (by decide) (by decide) rfl rfl ?_
  refine g_puta sqM (pc := 272) (i := 0) (dd dtX11_init 156 rfl) fwX11_112 rfl rfl (by decide) (fun _ _ _ h => by cases h; rfl) (Or.inr ⟨_, rfl⟩) ?_
  refine g_aload_n (pc := 275) (i := 0) (dd dtX11_init 157 rfl) rfl rfl ?_
  refine g_bipush (pc := 276) (v := 8) (dd dtX11_init 158 rfl) (by decide) ?_
  refine g_newI sqM (pc := 278) (k := 25) (dd dtX11_init 159 rfl) rfl rfl (hz 25 (by decide) (by decide)) (by decide) (by decide) (by decide) (by decide) (by decide) rfl rfl ?_
  refine g_puta sqM (pc := 280) (i := 0) (dd dtX11_init 160 rfl) fwX11_115 rfl rfl (by decide) (fun _ _ _ h => by cases h; rfl) (Or.inr ⟨_, rfl⟩) ?_
  refine g_aload_n (pc := 283) (i := 0) (dd dtX11_init 161 rfl) rfl rfl ?_
  refine g_ic0 (pc := 284) (dd dtX11_init 162 rfl) ?_
  refine g_puts sqM (pc := 285) (i := 0) (dd dtX11_init 163 rfl) fwX11_118 rfl rfl rfl rfl (congrFun (hz 0 (by decide) (by decide)) _) ?_
  refine g_aload_n (pc := 288) (i := 0) (dd dtX11_init 164 rfl) rfl rfl ?_
  refine g_ic0 (pc := 289) (dd dtX11_init 165 rfl) ?_
  refine g_puts sqM (pc := 290) (i := 0) (dd dtX11_init 166 rfl) fwX11_121 rfl rfl rfl rfl (congrFun (hz 0 (by decide) (by decide)) _) ?_
  refine g_aload_n (pc := 293) (i := 0) (dd dtX11_init 167 rfl) rfl rfl ?_
  refine g_ic0 (pc := 294) (dd dtX11_init 168 rfl) ?_
  refine g_puts sqM (pc := 295) (i := 0) (dd dtX11_init 169 rfl) fwX11_124 rfl rfl rfl rfl (congrFun (hz 0 (by decide) (by decide)) _) ?_
  refine g_aload_n (pc := 298) (i := 0) (dd dtX11_init 170 rfl) rfl rfl ?_
  refine g_ic5 (pc := 299) (dd dtX11_init 171 rfl) ?_
  refine g_newI sqM (pc := 300) (k := 26) (dd dtX11_init 172 rfl) rfl rfl (hz 26 (by decide) (by decide)) (by decide) (by decide) (by decide) (by decide) (by decide) rfl rfl ?_
  refine g_dup (pc := 302) (dd dtX11_init 173 rfl) rfl ?_
  refine g_ic0 (pc := 303) (dd dtX11_init 174 rfl) ?_
  refine g_ic0 (pc := 304) (dd dtX11_init 175 rfl) ?_
  refine g_iasts (pc := 305) (i := 26) (yi := 0) (congrFun (hz 26 (by decide) (by decide)) _) (by decide) sqM (dd dtX11_init 176 rfl) rfl rfl (by unfold vp_in; decide) ?_
  refine g_dup (pc := 306) (dd dtX11_init 177 rfl) rfl ?_
  refine g_ic1 (pc := 307) (dd dtX11_init 178 rfl) ?_
  refine g_bipush (pc := 308) (v := 10) (dd dtX11_init 179 rfl) (by decide) ?_
  refine g_iast (pc := 310) (i := 26) (yi := 1) (by decide) sqM (dd dtX11_init 180 rfl) rfl rfl (by unfold vp_in; decide) ?_
  refine g_dup (pc := 311) (dd dtX11_init 181 rfl) rfl ?_
  refine g_ic2 (pc := 312) (dd dtX11_init 182 rfl) ?_
  refine g_bipush (pc := 313) (v := 25) (dd dtX11_init 183 rfl) (by decide) ?_
  refine g_iast (pc := 315) (i := 26) (yi := 2) (by decide) sqM (dd dtX11_init 184 rfl) rfl rfl (by unfold vp_in; decide) ?_
  refine g_dup (pc := 316) (dd dtX11_init 185 rfl) rfl ?_
  refine g_ic3 (pc := 317) (dd dtX11_init 186 rfl) ?_
  refine g_bipush (pc := 318) (v := 50) (dd dtX11_init 187 rfl) (by decide) ?_
  refine g_iast (pc := 320) (i := 26) (yi := 3) (by decide) sqM (dd dtX11_init 188 rfl) rfl rfl (by unfold vp_in; decide) ?_
  refine g_dup (pc := 321) (dd dtX11_init 189 rfl) rfl ?_
  refine g_ic4 (pc := 322) (dd dtX11_init 190 rfl) ?_
  refine g_bipush (pc := 323) (v := 100) (dd dtX11_init 191 rfl) (by decide) ?_
  refine g_iast (pc := 325) (i := 26) (yi := 4) (by decide) sqM (dd dtX11_init 192 rfl) rfl rfl (by unfold vp_in; decide) ?_
  refine g_puta sqM (pc := 326) (i := 0) (dd dtX11_init 193 rfl) fwX11_128 rfl rfl (by decide) (fun _ _ _ h => by cases h; rfl) (Or.inr ⟨_, rfl⟩) ?_
  refine g_aload_n (pc := 329) (i := 0) (dd dtX11_init 194 rfl) rfl rfl ?_
  refine g_ic5 (pc := 330) (dd dtX11_init 195 rfl) ?_
  refine g_newI sqM (pc := 331) (k := 27) (dd dtX11_init 196 rfl) rfl rfl (hz 27 (by decide) (by decide)) (by decide) (by decide) (by decide) (by decide) (by decide) rfl rfl ?_
  refine g_puta sqM (pc := 333) (i := 0) (dd dtX11_init 197 rfl) fwX11_131 rfl rfl (by decide) (fun _ _ _ h => by cases h; rfl) (Or.inr ⟨_, rfl⟩) ?_
  refine g_aload_n (pc := 336) (i := 0) (dd dtX11_init 198 rfl) rfl rfl ?_
  refine g_ic5 (pc := 337) (dd dtX11_init 199 rfl) ?_
  refine g_newI sqM (pc := 338) (k := 28) (dd dtX11_init 200 rfl) rfl rfl (hz 28 (by decide) (by decide)) (by decide) (by decide) (by decide) (by decide) (by decide) rfl rfl ?_
  refine g_puta sqM (pc := 340) (i := 0) (dd dtX11_init 201 rfl) fwX11_134 rfl rfl (by decide) (fun _ _ _ h => by cases h; rfl) (Or.inr ⟨_, rfl⟩) ?_
  refine g_aload_n (pc := 343) (i := 0) (dd dtX11_init 202 rfl) rfl rfl ?_
  refine g_ic5 (pc := 344) (dd dtX11_init 203 rfl) ?_
  refine g_newI sqM (pc := 345) (k := 29) (dd dtX11_init 204 rfl) rfl rfl (hz 29 (by decide) (by decide)) (by decide) (by decide) (by decide) (by decide) (by decide) rfl rfl ?_
  refine g_puta sqM (pc := 347) (i := 0) (dd dtX11_init 205 rfl) fwX11_137 rfl rfl (by decide) (fun _ _ _ h => by cases h; rfl) (Or.inr ⟨_, rfl⟩) ?_
  refine g_aload_n (pc := 350) (i := 0) (dd dtX11_init 206 rfl) rfl rfl ?_
  refine g_ic5 (pc := 351) (dd dtX11_init 207 rfl) ?_
  refine g_newI sqM (pc := 352) (k := 30) (dd dtX11_init 208 rfl) rfl rfl (hz 30 (by decide) (by decide)) (by decide) (by decide) (by decide) (by decide) (by decide) rfl rfl ?_
  refine g_puta sqM (pc := 354) (i := 0) (dd dtX11_init 209 rfl) fwX11_140 rfl rfl (by decide) (fun _ _ _ h => by cases h; rfl) (Or.inr ⟨_, rfl⟩) ?_
  refine g_aload_n (pc := 357) (i := 0) (dd dtX11_init 210 rfl) rfl rfl ?_
  refine g_ic5 (pc := 358) (dd dtX11_init 211 rfl) ?_
  refine g_newI sqM (pc := 359) (k := 31) (dd dtX11_init 212 rfl) rfl rfl (hz 31 (by decide) (by decide)) (by decide) (by decide) (by decide) (by decide) (by decide) rfl rfl ?_
  refine g_puta sqM (pc := 361) (i := 0) (dd dtX11_init 213 rfl) fwX11_143 rfl rfl (by decide) (fun _ _ _ h => by cases h; rfl) (Or.inr ⟨_, rfl⟩) ?_
  refine g_aload_n (pc := 364) (i := 0) (dd dtX11_init 214 rfl) rfl rfl ?_
  refine g_ic5 (pc := 365) (dd dtX11_init 215 rfl) ?_
  refine g_newI sqM (pc := 366) (k := 32) (dd dtX11_init 216 rfl) rfl rfl (hz 32 (by decide) (by decide)) (by decide) (by decide) (by decide) (by decide) (by decide) rfl rfl ?_
  refine g_puta sqM (pc := 368) (i := 0) (dd dtX11_init 217 rfl) fwX11_146 rfl rfl (by decide) (fun _ _ _ h => by cases h; rfl) (Or.inr ⟨_, rfl⟩) ?_
  refine g_aload_n (pc := 371) (i := 0) (dd dtX11_init 218 rfl) rfl rfl ?_
  refine g_ic5 (pc := 372) (dd dtX11_init 219 rfl) ?_
  refine g_newI sqM (pc := 373) (k := 33) (dd dtX11_init 220 rfl) rfl rfl (hz 33 (by decide) (by decide)) (by decide) (by decide) (by decide) (by decide) (by decide) rfl rfl ?_
  refine g_puta sqM (pc := 375) (i := 0) (dd dtX11_init 221 rfl) fwX11_149 rfl rfl (by decide) (fun _ _ _ h => by cases h; rfl) (Or.inr ⟨_, rfl⟩) ?_
  refine g_aload_n (pc := 378) (i := 0) (dd dtX11_init 222 rfl) rfl rfl ?_
  refine g_ic1 (pc := 379) (dd dtX11_init 223 rfl) ?_
  refine g_putv sqM (pc := 380) (i := 0) (dd dtX11_init 224 rfl) fwX11_152 rfl rfl rfl rfl ?_
  refine g_aload_n (pc := 383) (i := 0) (dd dtX11_init 225 rfl) rfl rfl ?_
  refine g_ic0 (pc := 384) (dd dtX11_init 226 rfl) ?_
  refine g_puts sqM (pc := 385) (i := 0) (dd dtX11_init 227 rfl) fwX11_155 rfl rfl rfl rfl (congrFun (hz 0 (by decide) (by decide)) _) ?_
  refine g_aload_n (pc := 388) (i := 0) (dd dtX11_init 228 rfl) rfl rfl ?_
  refine g_ic0 (pc := 389) (dd dtX11_init 229 rfl) ?_
  refine g_puts sqM (pc := 390) (i := 0) (dd dtX11_init 230 rfl) fwX11_158 rfl rfl rfl rfl (congrFun (hz 0 (by decide) (by decide)) _) ?_
  refine g_aload_n (pc := 393) (i := 0) (dd dtX11_init 231 rfl) rfl rfl ?_
  refine g_sipush (pc := 394) (v := 1120) (dd dtX11_init 232 rfl) (by decide) ?_
  refine g_newI sqM (pc := 397) (k := 34) (dd dtX11_init 233 rfl) rfl rfl (hz 34 (by decide) (by decide)) (by decide) (by decide) (by decide) (by decide) (by decide) rfl rfl ?_
  refine g_puta sqM (pc := 399) (i := 0) (dd dtX11_init 234 rfl) fwX11_161 rfl rfl (by decide) (fun _ _ _ h => by cases h; rfl) (Or.inr ⟨_, rfl⟩) ?_
  refine g_aload_n (pc := 402) (i := 0) (dd dtX11_init 235 rfl) rfl rfl ?_
  refine g_bipush (pc := 403) (v := 7) (dd dtX11_init 236 rfl) (by decide) ?_
  refine g_newI sqM (pc := 405) (k := 35) (dd dtX11_init 237 rfl) rfl rfl (hz 35 (by decide) (by decide)) (by decide) (by decide) (by decide) (by decide) (by decide) rfl rfl ?_
  refine g_puta sqM (pc := 407) (i := 0) (dd dtX11_init 238 rfl) fwX11_164 rfl rfl (by decide) (fun _ _ _ h => by cases h; rfl) (Or.inr ⟨_, rfl⟩) ?_
  refine g_aload_n (pc := 410) (i := 0) (dd dtX11_init 239 rfl) rfl rfl ?_
  refine g_ic0 (pc := 411) (dd dtX11_init 240 rfl) ?_
  refine g_puts sqM (pc := 412) (i := 0) (dd dtX11_init 241 rfl) fwX11_167 rfl rfl rfl rfl (congrFun (hz 0 (by decide) (by decide)) _) ?_
  refine g_aload_n (pc := 415) (i := 0) (dd dtX11_init 242 rfl) rfl rfl ?_
  refine g_ic0 (pc := 416) (dd dtX11_init 243 rfl) ?_
  refine g_puts sqM (pc := 417) (i := 0) (dd dtX11_init 244 rfl) fwX11_170 rfl rfl rfl rfl (congrFun (hz 0 (by decide) (by decide)) _) ?_
  refine g_aload_n (pc := 420) (i := 0) (dd dtX11_init 245 rfl) rfl rfl ?_
  refine g_ic0 (pc := 421) (dd dtX11_init 246 rfl) ?_
  refine g_puts sqM (pc := 422) (i := 0) (dd dtX11_init 247 rfl) fwX11_173 rfl rfl rfl rfl (congrFun (hz 0 (by decide) (by decide)) _) ?_
  refine g_aload_n (pc := 425) (i := 0) (dd dtX11_init 248 rfl) rfl rfl ?_
  refine g_ic0 (pc := 426) (dd dtX11_init 249 rfl) ?_
  refine g_puts sqM (pc := 427) (i := 0) (dd dtX11_init 250 rfl) fwX11_176 rfl rfl rfl rfl (congrFun (hz 0 (by decide) (by decide)) _) ?_
  refine g_aload_n (pc := 430) (i := 0) (dd dtX11_init 251 rfl) rfl rfl ?_
  refine g_ic0 (pc := 431) (dd dtX11_init 252 rfl) ?_
  refine g_puts sqM (pc := 432) (i := 0) (dd dtX11_init 253 rfl) fwX11_179 rfl rfl rfl rfl (congrFun (hz 0 (by decide) (by decide)) _) ?_
  refine g_aload_n (pc := 435) (i := 0) (dd dtX11_init 254 rfl) rfl rfl ?_
  refine g_ic0 (pc := 436) (dd dtX11_init 255 rfl) ?_
  refine g_puts sqM (pc := 437) (i := 0) (dd dtX11_init 256 rfl) fwX11_182 rfl rfl rfl rfl (congrFun (hz 0 (by decide) (by decide)) _) ?_
  refine g_aload_n (pc := 440) (i := 0) (dd dtX11_init 257 rfl) rfl rfl ?_
  refine g_sipush (pc := 441) (v := 161) (dd dtX11_init 258 rfl) (by decide) ?_
  refine g_newI sqM (pc := 444) (k := 36) (dd dtX11_init 259 rfl) rfl rfl (hz 36 (by decide) (by decide)) (by decide) (by decide) (by decide) (by decide) (by decide) rfl rfl ?_
  refine g_puta sqM (pc := 446) (i := 0) (dd dtX11_init 260 rfl) fwX11_185 rfl rfl (by decide) (fun _ _ _ h => by cases h; rfl) (Or.inr ⟨_, rfl⟩) ?_
  refine g_aload_n (pc := 449) (i := 0) (dd dtX11_init 261 rfl) rfl rfl ?_
  refine g_sipush (pc := 450) (v := 161) (dd dtX11_init 262 rfl) (by decide) ?_
  refine g_newI sqM (pc := 453) (k := 37) (dd dtX11_init 263 rfl) rfl rfl (hz 37 (by decide) (by decide)) (by decide) (by decide) (by decide) (by decide) (by decide) rfl rfl ?_
  refine g_puta sqM (pc := 455) (i := 0) (dd dtX11_init 264 rfl) fwX11_188 rfl rfl (by decide) (fun _ _ _ h => by cases h; rfl) (Or.inr ⟨_, rfl⟩) ?_
  refine g_aload_n (pc := 458) (i := 0) (dd dtX11_init 265 rfl) rfl rfl ?_
  refine g_bipush (pc := 459) (v := 8) (dd dtX11_init 266 rfl) (by decide) ?_
  refine g_newI sqM (pc := 461) (k := 38) (dd dtX11_init 267 rfl) rfl rfl (hz 38 (by decide) (by decide)) (by decide) (by decide) (by decide) (by decide) (by decide) rfl rfl ?_
  refine g_puta sqM (pc := 463) (i := 0) (dd dtX11_init 268 rfl) fwX11_191 rfl rfl (by decide) (fun _ _ _ h => by cases h; rfl) (Or.inr ⟨_, rfl⟩) ?_
  refine g_aload_n (pc := 466) (i := 0) (dd dtX11_init 269 rfl) rfl rfl ?_
  refine g_ic0 (pc := 467) (dd dtX11_init 270 rfl) ?_
  refine g_puts sqM (pc := 468) (i := 0) (dd dtX11_init 271 rfl) fwX11_194 rfl rfl rfl rfl (congrFun (hz 0 (by decide) (by decide)) _) ?_
  refine g_aload_n (pc := 471) (i := 0) (dd dtX11_init 272 rfl) rfl rfl ?_
  refine g_ic0 (pc := 472) (dd dtX11_init 273 rfl) ?_
  refine g_puts sqM (pc := 473) (i := 0) (dd dtX11_init 274 rfl) fwX11_197 rfl rfl rfl rfl (congrFun (hz 0 (by decide) (by decide)) _) ?_
  refine g_aload_n (pc := 476) (i := 0) (dd dtX11_init 275 rfl) rfl rfl ?_
  refine g_ic0 (pc := 477) (dd dtX11_init 276 rfl) ?_
  refine g_puts sqM (pc := 478) (i := 0) (dd dtX11_init 277 rfl) fwX11_200 rfl rfl rfl rfl (congrFun (hz 0 (by decide) (by decide)) _) ?_
  refine g_aload_n (pc := 481) (i := 0) (dd dtX11_init 278 rfl) rfl rfl ?_
  refine g_ic3 (pc := 482) (dd dtX11_init 279 rfl) ?_
  refine g_newI sqM (pc := 483) (k := 39) (dd dtX11_init 280 rfl) rfl rfl (hz 39 (by decide) (by decide)) (by decide) (by decide) (by decide) (by decide) (by decide) rfl rfl ?_
  refine g_puta sqM (pc := 485) (i := 0) (dd dtX11_init 281 rfl) fwX11_203 rfl rfl (by decide) (fun _ _ _ h => by cases h; rfl) (Or.inr ⟨_, rfl⟩) ?_
  refine g_aload_n (pc := 488) (i := 0) (dd dtX11_init 282 rfl) rfl rfl ?_
  refine g_ic0 (pc := 489) (dd dtX11_init 283 rfl) ?_
  refine g_puts sqM (pc := 490) (i := 0) (dd dtX11_init 284 rfl) fwX11_206 rfl rfl rfl rfl (congrFun (hz 0 (by decide) (by decide)) _) ?_
  refine g_aload_n (pc := 493) (i := 0) (dd dtX11_init 285 rfl) rfl rfl ?_
  refine g_bipush (pc := 494) (v := 8) (dd dtX11_init 286 rfl) (by decide) ?_
  refine g_newI sqM (pc := 496) (k := 40) (dd dtX11_init 287 rfl) rfl rfl (hz 40 (by decide) (by decide)) (by decide) (by decide) (by decide) (by decide) (by decide) rfl rfl ?_
  refine g_puta sqM (pc := 498) (i := 0) (dd dtX11_init 288 rfl) fwX11_209 rfl rfl (by decide) (fun _ _ _ h => by cases h; rfl) (Or.inr ⟨_, rfl⟩) ?_
  refine g_aload_n (pc := 501) (i := 0) (dd dtX11_init 289 rfl) rfl rfl ?_
  refine g_ic0 (pc := 502) (dd dtX11_init 290 rfl) ?_
  refine g_puts sqM (pc := 503) (i := 0) (dd dtX11_init 291 rfl) fwX11_212 rfl rfl rfl rfl (congrFun (hz 0 (by decide) (by decide)) _) ?_
  refine g_aload_n (pc := 506) (i := 0) (dd dtX11_init 292 rfl) rfl rfl ?_
  refine g_bipush (pc := 507) (v := 30) (dd dtX11_init 293 rfl) (by decide) ?_
  refine g_newI sqM (pc := 509) (k := 41) (dd dtX11_init 294 rfl) rfl rfl (hz 41 (by decide) (by decide)) (by decide) (by decide) (by decide) (by decide) (by decide) rfl rfl ?_
  refine g_puta sqM (pc := 511) (i := 0) (dd dtX11_init 295 rfl) fwX11_215 rfl rfl (by decide) (fun _ _ _ h => by cases h; rfl) (Or.inr ⟨_, rfl⟩) ?_
  refine g_aload_n (pc := 514) (i := 0) (dd dtX11_init 296 rfl) rfl rfl ?_
  refine g_bipush (pc := 515) (v := 30) (dd dtX11_init 297 rfl) (by decide) ?_
  refine g_newI sqM (pc := 517) (k := 42) (dd dtX11_init 298 rfl) rfl rfl (hz 42 (by decide) (by decide)) (by decide) (by decide) (by decide) (by decide) (by decide) rfl rfl ?_
  refine g_puta sqM (pc := 519) (i := 0) (dd dtX11_init 299 rfl) fwX11_218 rfl rfl (by decide) (fun _ _ _ h => by cases h; rfl) (Or.inr ⟨_, rfl⟩) ?_
  refine g_aload_n (pc := 522) (i := 0) (dd dtX11_init 300 rfl) rfl rfl ?_
  refine g_sipush (pc := 523) (v := 620) (dd dtX11_init 301 rfl) (by decide) ?_
  refine g_newI sqM (pc := 526) (k := 43) (dd dtX11_init 302 rfl) rfl rfl (hz 43 (by decide) (by decide)) (by decide) (by decide) (by decide) (by decide) (by decide) rfl rfl ?_
  refine g_puta sqM (pc := 528) (i := 0) (dd dtX11_init 303 rfl) fwX11_221 rfl rfl (by decide) (fun _ _ _ h => by cases h; rfl) (Or.inr ⟨_, rfl⟩) ?_
  refine g_aload_n (pc := 531) (i := 0) (dd dtX11_init 304 rfl) rfl rfl ?_
  refine g_ic0 (pc := 532) (dd dtX11_init 305 rfl) ?_
  refine g_puts sqM (pc := 533) (i := 0) (dd dtX11_init 306 rfl) fwX11_224 rfl rfl rfl rfl (congrFun (hz 0 (by decide) (by decide)) _) ?_
  refine g_aload_n (pc := 536) (i := 0) (dd dtX11_init 307 rfl) rfl rfl ?_
  refine g_ic0 (pc := 537) (dd dtX11_init 308 rfl) ?_
  refine g_puts sqM (pc := 538) (i := 0) (dd dtX11_init 309 rfl) fwX11_227 rfl rfl rfl rfl (congrFun (hz 0 (by decide) (by decide)) _) ?_
  refine g_aload_n (pc := 541) (i := 0) (dd dtX11_init 310 rfl) rfl rfl ?_
  refine g_ic0 (pc := 542) (dd dtX11_init 311 rfl) ?_
  refine g_puts sqM (pc := 543) (i := 0) (dd dtX11_init 312 rfl) fwX11_230 rfl rfl rfl rfl (congrFun (hz 0 (by decide) (by decide)) _) ?_
  refine g_aload_n (pc := 546) (i := 0) (dd dtX11_init 313 rfl) rfl rfl ?_
  refine g_ic0 (pc := 547) (dd dtX11_init 314 rfl) ?_
  refine g_puts sqM (pc := 548) (i := 0) (dd dtX11_init 315 rfl) fwX11_233 rfl rfl rfl rfl (congrFun (hz 0 (by decide) (by decide)) _) ?_
  refine g_aload_n (pc := 551) (i := 0) (dd dtX11_init 316 rfl) rfl rfl ?_
  refine g_ic4 (pc := 552) (dd dtX11_init 317 rfl) ?_
  refine g_newI sqM (pc := 553) (k := 44) (dd dtX11_init 318 rfl) rfl rfl (hz 44 (by decide) (by decide)) (by decide) (by decide) (by decide) (by decide) (by decide) rfl rfl ?_
  refine g_dup (pc := 555) (dd dtX11_init 319 rfl) rfl ?_
  refine g_ic0 (pc := 556) (dd dtX11_init 320 rfl) ?_
  refine g_icm1 (pc := 557) (dd dtX11_init 321 rfl) ?_
  refine g_iast (pc := 558) (i := 44) (yi := 0) (by decide) sqM (dd dtX11_init 322 rfl) rfl rfl (by unfold vp_in; decide) ?_
  refine g_dup (pc := 559) (dd dtX11_init 323 rfl) rfl ?_
  refine g_ic1 (pc := 560) (dd dtX11_init 324 rfl) ?_
  refine g_icm1 (pc := 561) (dd dtX11_init 325 rfl) ?_
  refine g_iast (pc := 562) (i := 44) (yi := 1) (by decide) sqM (dd dtX11_init 326 rfl) rfl rfl (by unfold vp_in; decide) ?_
  refine g_dup (pc := 563) (dd dtX11_init 327 rfl) rfl ?_
  refine g_ic2 (pc := 564) (dd dtX11_init 328 rfl) ?_
  refine g_icm1 (pc := 565) (dd dtX11_init 329 rfl) ?_
  refine g_iast (pc := 566) (i := 44) (yi := 2) (by decide) sqM (dd dtX11_init 330 rfl) rfl rfl (by unfold vp_in; decide) ?_
  refine g_dup (pc := 567) (dd dtX11_init 331 rfl) rfl ?_
  refine g_ic3 (pc := 568) (dd dtX11_init 332 rfl) ?_
  refine g_icm1 (pc := 569) (dd dtX11_init 333 rfl) ?_
  refine g_iast (pc := 570) (i := 44) (yi := 3) (by decide) sqM (dd dtX11_init 334 rfl) rfl rfl (by unfold vp_in; decide) ?_
  refine g_puta sqM (pc := 571) (i := 0) (dd dtX11_init 335 rfl) fwX11_236 rfl rfl (by decide) (fun _ _ _ h => by cases h; rfl) (Or.inr ⟨_, rfl⟩) ?_
  refine g_aload_n (pc := 574) (i := 0) (dd dtX11_init 336 rfl) rfl rfl ?_
  refine g_ic4 (pc := 575) (dd dtX11_init 337 rfl) ?_
  refine g_newI sqM (pc := 576) (k := 45) (dd dtX11_init 338 rfl) rfl rfl (hz 45 (by decide) (by decide)) (by decide) (by decide) (by decide) (by decide) (by decide) rfl rfl ?_
  refine g_puta sqM (pc := 578) (i := 0) (dd dtX11_init 339 rfl) fwX11_239 rfl rfl (by decide) (fun _ _ _ h => by cases h; rfl) (Or.inr ⟨_, rfl⟩) ?_
  refine g_aload_n (pc := 581) (i := 0) (dd dtX11_init 340 rfl) rfl rfl ?_
  refine g_sipush (pc := 582) (v := 160) (dd dtX11_init 341 rfl) (by decide) ?_
  refine g_newI sqM (pc := 585) (k := 46) (dd dtX11_init 342 rfl) rfl rfl (hz 46 (by decide) (by decide)) (by decide) (by decide) (by decide) (by decide) (by decide) rfl rfl ?_
  refine g_puta sqM (pc := 587) (i := 0) (dd dtX11_init 343 rfl) fwX11_242 rfl rfl (by decide) (fun _ _ _ h => by cases h; rfl) (Or.inr ⟨_, rfl⟩) ?_
  refine g_aload_n (pc := 590) (i := 0) (dd dtX11_init 344 rfl) rfl rfl ?_
  refine g_bipush (pc := 591) (v := 40) (dd dtX11_init 345 rfl) (by decide) ?_
  refine g_newI sqM (pc := 593) (k := 47) (dd dtX11_init 346 rfl) rfl rfl (hz 47 (by decide) (by decide)) (by decide) (by decide) (by decide) (by decide) (by decide) rfl rfl ?_
  refine g_puta sqM (pc := 595) (i := 0) (dd dtX11_init 347 rfl) fwX11_245 rfl rfl (by decide) (fun _ _ _ h => by cases h; rfl) (Or.inr ⟨_, rfl⟩) ?_
  refine g_ic0 (pc := 598) (dd dtX11_init 348 rfl) ?_
  refine g_istore_n (pc := 599) (i := 1) (lv' := [(1, .int 0), (0, .ref 0)]) (dd dtX11_init 349 rfl) rfl (Nat.le_of_ble_eq_true rfl) rfl ?_
  refine g_eqI (rset_z (k := 4) (I := (ist (ist (ist (ist (ist (ist (ist (ist (ist (ist (ist (ist (ist (ist (ist (ist (ist I 6 1 (2)) 6 2 (5)) 6 3 (1)) 7 0 (120)) 7 1 (90)) 7 2 (70)) 7 3 (60)) 0 29 (200)) 26 1 (10)) 26 2 (25)) 26 3 (50)) 26 4 (100)) 0 45 (1)) 44 0 (-1)) 44 1 (-1)) 44 2 (-1)) 44 3 (-1))) (hz 4 (by decide) (by decide))) ?_
  refine g_fill (N := 64) (head := 600) (tgt := 619) (i := 1) (k := 4) (b := 0) (pb := 0) (pk := 4) (lvr := [(0, .ref 0)]) sqM (dd dtX11_init 350 rfl) rfl (dd dtX11_init 351 rfl) (by decide) (dd dtX11_init 352 rfl) (by decide) (dd dtX11_init 353 rfl) (dd dtX11_init 354 rfl) (dd dtX11_init 355 rfl) (dd dtX11_init 356 rfl) (dd dtX11_init 357 rfl) (dd dtX11_init 358 rfl) (dd dtX11_init 359 rfl) (by decide) (Nat.le_of_ble_eq_true rfl) (fun _ => rfl) (fun _ _ => rfl) fwX11_39 rfl rfl rfl rfl rfl (by decide) ?_ 64 0 rfl
  exact g_vret (pc := 619) (dd dtX11_init 360 rfl) rfl (by decide) (by decide) rfl rfl rfl
