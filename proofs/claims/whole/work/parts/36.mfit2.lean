/-! the reference's fit -/
def tkA : Nat → Nat → Int32 → Int32 → Wd → Int32 × Int32 × Wd
  | 0, _, n, s, W => (n, s, W)
  | i + 1, r, n, s, W => tkA i (r / 5) (n + (if 0 < tbSizes.getD (r % 5) 0 then 1 else 0)) (s + tbSizes.getD (r % 5) 0) (ist W 30 i (tbSizes.getD (r % 5) 0))
theorem tkA_fr {i r : Nat} {n s : Int32} {W : Wd} {a : Nat} (h : a ≠ 30) : (tkA i r n s W).2.2 a = W a := by
  induction i generalizing r n s W with
  | zero => rfl
  | succ i ih => unfold tkA; rw [ih, ist_ne h]
theorem tkA_s {i r : Nat} {n s : Int32} {W : Wd} : tkA (i + 1) r n s W = tkA i (r / 5) (n + (if 0 < tbSizes.getD (r % 5) 0 then 1 else 0)) (s + tbSizes.getD (r % 5) 0) (ist W 30 i (tbSizes.getD (r % 5) 0)) := rfl
def newM (W : Wd) (z : Nat) : Wd := rset (rset (rset (ist (ist W 0 36 1) 0 35 0) 31 (fil (W 30) (W 31) z)) 32 (fil (W 30) (W 32) z)) 33 (fil (W 30) (W 33) z)
def tieM (W : Wd) (z : Nat) : Wd := rset (rset W 32 (fil (fun k => lsM (W 30 k) (W 32 k)) (W 32) z)) 33 (fil (fun k => mx (W 33 k) (W 30 k)) (W 33) z)
def adM (W : Wd) (z : Nat) : Wd := tieM (ist W 0 35 (W 0 35 + 1)) z
abbrev skM (W : Wd) (n s f l : Int32) : Prop := ¬ W 0 36 = 0 ∧ (f < n ∨ (n = f ∧ l < s))
abbrev nwM (W : Wd) (n s f l : Int32) : Prop := W 0 36 = 0 ∨ n < f ∨ s < l
def mst (z L : Nat) (known : Int32) (v : Nat) (q : Int32 × Int32 × Wd) : Int32 × Int32 × Wd :=
  if skM q.2.2 (tkA z v 0 0 q.2.2).1 (tkA z v 0 0 q.2.2).2.1 q.1 q.2.1 then (q.1, q.2.1, (tkA z v 0 0 q.2.2).2.2)
  else if fitP (tkA z v 0 0 q.2.2).2.2 z L known then
    (if nwM q.2.2 (tkA z v 0 0 q.2.2).1 (tkA z v 0 0 q.2.2).2.1 q.1 q.2.1 then ((tkA z v 0 0 q.2.2).1, (tkA z v 0 0 q.2.2).2.1, adM (newM (tkA z v 0 0 q.2.2).2.2 z) z)
    else (q.1, q.2.1, adM (tkA z v 0 0 q.2.2).2.2 z))
  else (q.1, q.2.1, (tkA z v 0 0 q.2.2).2.2)
def mrun (z L : Nat) (known : Int32) (J : Wd) : Nat → Int32 × Int32 × Wd
  | 0 => (0, 0, J)
  | v + 1 => mst z L known v (mrun z L known J v)
def FF (J : Wd) (z L : Nat) : Prop := J 0 34 = nI z ∧ z ≤ 5 ∧ J 0 30 = nI L ∧ L ≤ 8 ∧ ∀ i, i < 5 → J 26 i = tbSizes.getD i 0
theorem FF.of {I J : Wd} {z L : Nat} (h : FF I z L) (h0 : J 0 34 = I 0 34) (h1 : J 0 30 = I 0 30) (h2 : J 26 = I 26) : FF J z L := by
  unfold FF; rw [h0, h1, h2]; exact h
theorem FF.tk {J : Wd} {z L i r : Nat} {n s : Int32} (h : FF J z L) : FF (tkA i r n s J).2.2 z L := h.of (by rw [tkA_fr (by decide)]) (by rw [tkA_fr (by decide)]) (tkA_fr (by decide))
theorem newM_fr {W : Wd} {z a : Nat} (h : a ≠ 0) (h1 : a ≠ 31) (h2 : a ≠ 32) (h3 : a ≠ 33) : newM W z a = W a := by unfold newM; rw [rset_ne h3, rset_ne h2, rset_ne h1, ist_ne h, ist_ne h]
theorem newM_0 {W : Wd} {z j : Nat} (h : j ≠ 35) (h2 : j ≠ 36) : newM W z 0 j = W 0 j := by unfold newM; rw [rset_ne (by decide), rset_ne (by decide), rset_ne (by decide), ist_eq, upd_ne h, ist_eq, upd_ne h2]
theorem adM_fr {W : Wd} {z a : Nat} (h : a ≠ 0) (h2 : a ≠ 32) (h3 : a ≠ 33) : adM W z a = W a := by unfold adM tieM; rw [rset_ne h3, rset_ne h2, ist_ne h]
theorem adM_0 {W : Wd} {z j : Nat} (h : j ≠ 35) : adM W z 0 j = W 0 j := by unfold adM tieM; rw [rset_ne (by decide), rset_ne (by decide), ist_eq, upd_ne h]
theorem FF.new {J : Wd} {z L : Nat} (h : FF J z L) : FF (newM J z) z L := h.of (newM_0 (by decide) (by decide)) (newM_0 (by decide) (by decide)) (newM_fr (by decide) (by decide) (by decide) (by decide))
theorem FF.ad {J : Wd} {z L : Nat} (h : FF J z L) : FF (adM J z) z L := h.of (adM_0 (by decide)) (adM_0 (by decide)) (adM_fr (by decide) (by decide) (by decide))
theorem FF.st {z L v : Nat} {known : Int32} {q : Int32 × Int32 × Wd} (h : FF q.2.2 z L) : FF (mst z L known v q).2.2 z L := by
  unfold mst; split
  · exact h.tk
  · split
    · split
      · exact h.tk.new.ad
      · exact h.tk.ad
    · exact h.tk
theorem FF.run {z L v : Nat} {known : Int32} {J : Wd} (h : FF J z L) : FF (mrun z L known J v).2.2 z L := by
  induction v with
  | zero => exact h
  | succ v ih => exact ih.st
theorem tie_step {W : Wd} {h : Nat} {v1 v2 : Int32} {q1 q2 : Nat} (hq1 : q1 = h) (hq2 : q2 = h) (h1 : v1 = lsM (W 30 h) (W 32 h)) (h2 : v2 = mx (W 33 h) (W 30 h)) : ist (ist (tieM W h) 32 q1 v1) 33 q2 v2 = tieM W (h + 1) := by
  rw [hq1, hq2]
  have e1 : ist (tieM W h) 32 h v1 = rset (rset W 32 (fil (fun k => lsM (W 30 k) (W 32 k)) (W 32) (h + 1))) 33 (fil (fun k => mx (W 33 k) (W 30 k)) (W 33) h) := by
    unfold tieM
    rw [rset_comm (show 32 ≠ 33 by decide), ist_rset, rset_comm (show 33 ≠ 32 by decide), fil_s h1]
  rw [e1, ist_rset, fil_s h2]
  rfl
def tX11_fit : List (Nat × Instr × Nat) := [(0, .aload_n 0, 1), (1, .iload_n 1, 1), (2, .invokevirtual 297, 3), (5, .ifCond .ne 5, 3), (8, .iconst (-1), 1), (9, .ireturn, 1), (10, .aload_n 0, 1), (11, .getfield 236, 3), (14, .iload_n 1, 1), (15, .iaload, 1), (16, .ifCond .ge 6, 3), (19, .bipush (-11), 2), (21, .ireturn, 1), (22, .aload_n 0, 1), (23, .aload_n 0, 1), (24, .getfield 239, 3), (27, .iload_n 1, 1), (28, .iaload, 1), (29, .iconst 1, 1), (30, .iconst 5, 1), (31, .invokevirtual 1, 3), (34, .ifCond .eq 11, 3), (37, .aload_n 0, 1), (38, .iload_n 2, 1), (39, .invokevirtual 277, 3), (42, .ifCond .ne 6, 3), (45, .bipush (-2), 2), (47, .ireturn, 1), (48, .iconst 0, 1), (49, .istore_n 3, 1), (50, .iload_n 3, 1), (51, .aload_n 0, 1), (52, .getfield 239, 3), (55, .iload_n 1, 1), (56, .iaload, 1), (57, .if_icmp .ge 74, 3), (60, .aload_n 0, 1), (61, .aload_n 0, 1), (62, .getfield 242, 3), (65, .bipush 40, 2), (67, .iload_n 1, 1), (68, .imul, 1), (69, .iload_n 3, 1), (70, .iadd, 1), (71, .iaload, 1), (72, .invokevirtual 248, 3), (75, .ifCond .ne 6, 3), (78, .bipush (-2), 2), (80, .ireturn, 1), (81, .iconst 0, 1), (82, .istore 4, 2), (84, .iload 4, 2), (86, .iload_n 3, 1), (87, .if_icmp .ge 38, 3), (90, .aload_n 0, 1), (91, .getfield 242, 3), (94, .bipush 40, 2), (96, .iload_n 1, 1), (97, .imul, 1), (98, .iload 4, 2), (100, .iadd, 1), (101, .iaload, 1), (102, .aload_n 0, 1), (103, .getfield 242, 3), (106, .bipush 40, 2), (108, .iload_n 1, 1), (109, .imul, 1), (110, .iload_n 3, 1), (111, .iadd, 1), (112, .iaload, 1), (113, .if_icmp .ne 6, 3), (116, .bipush (-2), 2), (118, .ireturn, 1), (119, .iinc 4 1, 3), (122, .goto (-38), 3), (125, .iinc 3 1, 3), (128, .goto (-78), 3), (131, .aload_n 0, 1), (132, .aload_n 0, 1), (133, .getfield 239, 3), (136, .iload_n 1, 1), (137, .iaload, 1), (138, .putfield 118, 3), (141, .iconst 0, 1), (142, .istore_n 3, 1), (143, .iload_n 3, 1), (144, .aload_n 0, 1), (145, .getfield 118, 3), (148, .if_icmp .ge 58, 3), (151, .aload_n 0, 1), (152, .getfield 131, 3), (155, .iload_n 3, 1), (156, .aload_n 0, 1), (157, .getfield 242, 3), (160, .bipush 40, 2), (162, .iload_n 1, 1), (163, .imul, 1), (164, .iload_n 3, 1), (165, .iadd, 1), (166, .iaload, 1), (167, .iastore, 1), (168, .aload_n 0, 1), (169, .aload_n 0, 1), (170, .getfield 131, 3), (173, .iload_n 3, 1), (174, .iaload, 1), (175, .iload_n 2, 1), (176, .iconst 0, 1), (177, .invokevirtual 289, 3), (180, .aload_n 0, 1), (181, .getfield 134, 3), (184, .iload_n 3, 1), (185, .aload_n 0, 1), (186, .getfield 100, 3), (189, .iastore, 1), (190, .aload_n 0, 1), (191, .getfield 137, 3), (194, .iload_n 3, 1), (195, .aload_n 0, 1), (196, .getfield 103, 3), (199, .iastore, 1), (200, .iinc 3 1, 3), (203, .goto (-60), 3), (206, .iconst 1, 1), (207, .istore_n 3, 1), (208, .iconst 0, 1), (209, .istore 4, 2), (211, .iload 4, 2), (213, .aload_n 0, 1), (214, .getfield 118, 3), (217, .if_icmp .ge 13, 3), (220, .iload_n 3, 1), (221, .iconst 5, 1), (222, .imul, 1), (223, .istore_n 3, 1), (224, .iinc 4 1, 3), (227, .goto (-16), 3), (230, .aload_n 0, 1), (231, .iconst 0, 1), (232, .putfield 124, 3), (235, .iconst 0, 1), (236, .istore 4, 2), (238, .iconst 0, 1), (239, .istore 5, 2), (241, .iconst 0, 1), (242, .istore 6, 2), (244, .iload 6, 2), (246, .iload_n 3, 1), (247, .if_icmp .ge 340, 3), (250, .iload 6, 2), (252, .istore 7, 2), (254, .iconst 0, 1), (255, .istore 8, 2), (257, .iconst 0, 1), (258, .istore 9, 2), (260, .aload_n 0, 1), (261, .getfield 118, 3), (264, .iconst 1, 1), (265, .isub, 1), (266, .istore 10, 2), (268, .iload 10, 2), (270, .ifCond .lt 63, 3), (273, .aload_n 0, 1), (274, .getfield 140, 3), (277, .iload 10, 2), (279, .aload_n 0, 1), (280, .getfield 128, 3), (283, .iload 7, 2), (285, .iconst 5, 1), (286, .irem, 1), (287, .iaload, 1), (288, .iastore, 1), (289, .iload 7, 2), (291, .iconst 5, 1), (292, .idiv, 1), (293, .istore 7, 2), (295, .iload 8, 2), (297, .aload_n 0, 1), (298, .getfield 140, 3), (301, .iload 10, 2), (303, .iaload, 1), (304, .ifCond .le 7, 3), (307, .iconst 1, 1), (308, .goto 4, 3), (311, .iconst 0, 1), (312, .iadd, 1), (313, .istore 8, 2), (315, .iload 9, 2), (317, .aload_n 0, 1), (318, .getfield 140, 3), (321, .iload 10, 2), (323, .iaload, 1), (324, .iadd, 1), (325, .istore 9, 2), (327, .iinc 10 (-1), 3), (330, .goto (-62), 3), (333, .aload_n 0, 1), (334, .getfield 124, 3), (337, .ifCond .eq 24, 3), (340, .iload 8, 2), (342, .iload 4, 2), (344, .if_icmp .gt 237, 3), (347, .iload 8, 2), (349, .iload 4, 2), (351, .if_icmp .ne 10, 3), (354, .iload 9, 2), (356, .iload 5, 2), (358, .if_icmp .gt 223, 3), (361, .aload_n 0, 1), (362, .iload_n 2, 1), (363, .invokevirtual 300, 3), (366, .ifCond .ne 6, 3), (369, .goto 212, 3), (372, .aload_n 0, 1), (373, .getfield 124, 3), (376, .ifCond .eq 17, 3), (379, .iload 8, 2), (381, .iload 4, 2), (383, .if_icmp .lt 10, 3), (386, .iload 9, 2), (388, .iload 5, 2), (390, .if_icmp .ge 81, 3), (393, .aload_n 0, 1), (394, .iconst 1, 1), (395, .putfield 124, 3), (398, .iload 8, 2), (400, .istore 4, 2), (402, .iload 9, 2), (404, .istore 5, 2), (406, .aload_n 0, 1), (407, .iconst 0, 1), (408, .putfield 121, 3), (411, .iconst 0, 1), (412, .istore 10, 2), (414, .iload 10, 2), (416, .aload_n 0, 1), (417, .getfield 118, 3), (420, .if_icmp .ge 51, 3), (423, .aload_n 0, 1), (424, .getfield 143, 3), (427, .iload 10, 2), (429, .aload_n 0, 1), (430, .getfield 140, 3), (433, .iload 10, 2), (435, .iaload, 1), (436, .iastore, 1), (437, .aload_n 0, 1), (438, .getfield 146, 3), (441, .iload 10, 2), (443, .aload_n 0, 1), (444, .getfield 140, 3), (447, .iload 10, 2), (449, .iaload, 1), (450, .iastore, 1), (451, .aload_n 0, 1), (452, .getfield 149, 3), (455, .iload 10, 2), (457, .aload_n 0, 1), (458, .getfield 140, 3), (461, .iload 10, 2), (463, .iaload, 1), (464, .iastore, 1), (465, .iinc 10 1, 3), (468, .goto (-54), 3), (471, .aload_n 0, 1), (472, .dup, 1), (473, .getfield 121, 3), (476, .iconst 1, 1), (477, .iadd, 1), (478, .putfield 121, 3), (481, .iconst 0, 1), (482, .istore 10, 2), (484, .iload 10, 2), (486, .aload_n 0, 1), (487, .getfield 118, 3), (490, .if_icmp .ge 91, 3), (493, .aload_n 0, 1), (494, .getfield 146, 3), (497, .iload 10, 2), (499, .aload_n 0, 1), (500, .getfield 140, 3), (503, .iload 10, 2), (505, .iaload, 1), (506, .aload_n 0, 1), (507, .getfield 146, 3), (510, .iload 10, 2), (512, .iaload, 1), (513, .if_icmp .ge 13, 3), (516, .aload_n 0, 1), (517, .getfield 140, 3), (520, .iload 10, 2), (522, .iaload, 1), (523, .goto 10, 3), (526, .aload_n 0, 1), (527, .getfield 146, 3), (530, .iload 10, 2), (532, .iaload, 1), (533, .iastore, 1), (534, .aload_n 0, 1), (535, .getfield 149, 3), (538, .iload 10, 2), (540, .aload_n 0, 1), (541, .getfield 140, 3), (544, .iload 10, 2), (546, .iaload, 1), (547, .aload_n 0, 1), (548, .getfield 149, 3), (551, .iload 10, 2), (553, .iaload, 1), (554, .if_icmp .le 13, 3), (557, .aload_n 0, 1), (558, .getfield 140, 3), (561, .iload 10, 2), (563, .iaload, 1), (564, .goto 10, 3), (567, .aload_n 0, 1), (568, .getfield 149, 3), (571, .iload 10, 2), (573, .iaload, 1), (574, .iastore, 1), (575, .iinc 10 1, 3), (578, .goto (-94), 3), (581, .iinc 6 1, 3), (584, .goto (-340), 3), (587, .aload_n 0, 1), (588, .getfield 124, 3), (591, .ifCond .eq 8, 3), (594, .iload 4, 2), (596, .goto 5, 3), (599, .bipush (-3), 2), (601, .ireturn, 1)]
theorem dtX11_fit : dec_ok mX11_fit.2.1 tX11_fit = true := by decide +kernel
set_option maxHeartbeats 4000000 in
theorem q484 {W : Wd} {z L v : Nat} {al s0 kn f l : Int32} (hF : FF W z L) {r : Option Value} {I9 : Wd} (kk : Bd SyM mX11_fit 3 244 [(6, .int (nI (v + 1))), (5, .int l), (4, .int f), (3, .int al), (0, .ref 0), (1, .int s0), (2, .int kn)] [] (tieM W z) r I9) : ∀ (n h : Nat) (x10 : Int32) (I2 : Wd), h ≤ z → z < h + n → x10 = nI h → I2 = (tieM W h) → Bd SyM mX11_fit 3 484 [(10, .int x10), (6, .int (nI v)), (5, .int l), (4, .int f), (3, .int al), (0, .ref 0), (1, .int s0), (2, .int kn)] [] I2 (r) I9 := by
  intro n
  induction n with
  | zero => intro h x10 I2 h1 h2; omega
  | succ n ih =>
    intro h x10 I2 h1 h2 e10 eW
    subst e10; subst eW
    obtain ⟨hz, hz2, hL, hL2, hS⟩ := id hF
    have f0 : tieM W h 0 = W 0 := by unfold tieM; rw [rset_ne (by decide), rset_ne (by decide)]
    refine b_iload (pc := 484) (i := 10) (dd dtX11_fit 272 rfl) rfl ?_
    refine b_aload_n (pc := 486) (i := 0) (dd dtX11_fit 273 rfl) rfl rfl ?_
    refine b_geti (pc := 487) (dd dtX11_fit 274 rfl) fwX11_118 pM_0 ?_
    refine b_icmpL_ge (pc := 490) (tgt := 581) (dd dtX11_fit 275 rfl) (by decide) (fun h490 => ?_) (fun h490 => ?_)
    · rw [f0, hz] at h490
      have he : h = z := Nat.le_antisymm h1 (ge_n h490 (by omega))
      subst he
      refine b_iinc1 (pc := 581) (i := 6) (lv' := [(6, _), (10, _), (5, _), (4, _), (3, _), (0, _), (1, _), (2, _)]) (dd dtX11_fit 322 rfl) rfl (Nat.le_of_ble_eq_true rfl) rfl ?_
      refine b_goto (pc := 584) (tgt := 244) (dd dtX11_fit 323 rfl) (by decide) ?_
      refine b_pick [0, 2, 3, 4, 5, 6, 7] (lv' := [(6, _), (5, _), (4, _), (3, _), (0, _), (1, _), (2, _)]) rfl ?_
      rw [nI_1]
      exact kk
    · rw [f0, hz] at h490
      have hlt : h < z := lt_n h490 (by omega) (by omega)
      refine b_aload_n (pc := 493) (i := 0) (dd dtX11_fit 276 rfl) rfl rfl ?_
      refine b_geta (pc := 494) (dd dtX11_fit 277 rfl) fwX11_146 pM_0 rM_0_43 ?_
      refine b_iload (pc := 497) (i := 10) (dd dtX11_fit 278 rfl) rfl ?_
      refine b_aload_n (pc := 499) (i := 0) (dd dtX11_fit 279 rfl) rfl rfl ?_
      refine b_geta (pc := 500) (dd dtX11_fit 280 rfl) fwX11_140 pM_0 rM_0_41 ?_
      refine b_iload (pc := 503) (i := 10) (dd dtX11_fit 281 rfl) rfl ?_
      refine b_iald (pc := 505) (dd dtX11_fit 282 rfl) pM_30 (vpn rfl (show h < 5 by omega) (by decide)) ?_
      refine b_aload_n (pc := 506) (i := 0) (dd dtX11_fit 283 rfl) rfl rfl ?_
      refine b_geta (pc := 507) (dd dtX11_fit 284 rfl) fwX11_146 pM_0 rM_0_43 ?_
      refine b_iload (pc := 510) (i := 10) (dd dtX11_fit 285 rfl) rfl ?_
      refine b_iald (pc := 512) (dd dtX11_fit 286 rfl) pM_32 (vpn rfl (show h < 5 by omega) (by decide)) ?_
      refine b_icmpL_ge (pc := 513) (tgt := 526) (dd dtX11_fit 287 rfl) (by decide) (fun h513 => ?_) (fun h513 => ?_)
      · refine b_aload_n (pc := 526) (i := 0) (dd dtX11_fit 293 rfl) rfl rfl ?_
        refine b_geta (pc := 527) (dd dtX11_fit 294 rfl) fwX11_146 pM_0 rM_0_43 ?_
        refine b_iload (pc := 530) (i := 10) (dd dtX11_fit 295 rfl) rfl ?_
        refine b_iald (pc := 532) (dd dtX11_fit 296 rfl) pM_32 (vpn rfl (show h < 5 by omega) (by decide)) ?_
        refine b_iast (pc := 533) (dd dtX11_fit 297 rfl) pM_32 (vpn rfl (show h < 5 by omega) (by decide)) ?_
        refine b_aload_n (pc := 534) (i := 0) (dd dtX11_fit 298 rfl) rfl rfl ?_
        refine b_geta (pc := 535) (dd dtX11_fit 299 rfl) fwX11_149 pM_0 rM_0_44 ?_
        refine b_iload (pc := 538) (i := 10) (dd dtX11_fit 300 rfl) rfl ?_
        refine b_aload_n (pc := 540) (i := 0) (dd dtX11_fit 301 rfl) rfl rfl ?_
        refine b_geta (pc := 541) (dd dtX11_fit 302 rfl) fwX11_140 pM_0 rM_0_41 ?_
        refine b_iload (pc := 544) (i := 10) (dd dtX11_fit 303 rfl) rfl ?_
        refine b_iald (pc := 546) (dd dtX11_fit 304 rfl) pM_30 (vpn rfl (show h < 5 by omega) (by decide)) ?_
        refine b_aload_n (pc := 547) (i := 0) (dd dtX11_fit 305 rfl) rfl rfl ?_
        refine b_geta (pc := 548) (dd dtX11_fit 306 rfl) fwX11_149 pM_0 rM_0_44 ?_
        refine b_iload (pc := 551) (i := 10) (dd dtX11_fit 307 rfl) rfl ?_
        refine b_iald (pc := 553) (dd dtX11_fit 308 rfl) pM_33 (vpn rfl (show h < 5 by omega) (by decide)) ?_
        refine b_icmpL_le (pc := 554) (tgt := 567) (dd dtX11_fit 309 rfl) (by decide) (fun h554 => ?_) (fun h554 => ?_)
        · refine b_aload_n (pc := 567) (i := 0) (dd dtX11_fit 315 rfl) rfl rfl ?_
          refine b_geta (pc := 568) (dd dtX11_fit 316 rfl) fwX11_149 pM_0 rM_0_44 ?_
          refine b_iload (pc := 571) (i := 10) (dd dtX11_fit 317 rfl) rfl ?_
          refine b_iald (pc := 573) (dd dtX11_fit 318 rfl) pM_33 (vpn rfl (show h < 5 by omega) (by decide)) ?_
          refine b_iast (pc := 574) (dd dtX11_fit 319 rfl) pM_33 (vpn rfl (show h < 5 by omega) (by decide)) ?_
          refine b_iinc1 (pc := 575) (i := 10) (lv' := [(10, _), (6, _), (5, _), (4, _), (3, _), (0, _), (1, _), (2, _)]) (dd dtX11_fit 320 rfl) rfl (Nat.le_of_ble_eq_true rfl) rfl ?_
          refine b_goto (pc := 578) (tgt := 484) (dd dtX11_fit 321 rfl) (by decide) ?_
          rw [nI_1]
          refine ih (h + 1) _ _ hlt (by omega) rfl ?_
          · try simp (disch := decide) only [nI_clamp (show h < 2 ^ 31 by omega), ist_ne, tieM, rset_ne, rset_eq, fil_out (Nat.le_refl h)] at h513
            try simp (disch := decide) only [nI_clamp (show h < 2 ^ 31 by omega), ist_ne, tieM, rset_ne, rset_eq, fil_out (Nat.le_refl h)] at h554
            exact tie_step (nI_clamp (show h < 2 ^ 31 by omega)) (nI_clamp (show h < 2 ^ 31 by omega)) (by simp (disch := decide) only [nI_clamp (show h < 2 ^ 31 by omega), ist_ne, tieM, rset_ne, rset_eq, fil_out (Nat.le_refl h)]; unfold lsM; first | rw [if_pos h513] | rw [if_neg h513]) (by simp (disch := decide) only [nI_clamp (show h < 2 ^ 31 by omega), ist_ne, tieM, rset_ne, rset_eq, fil_out (Nat.le_refl h)]; unfold mx; first | rw [if_pos h554] | rw [if_neg h554])
        · refine b_aload_n (pc := 557) (i := 0) (dd dtX11_fit 310 rfl) rfl rfl ?_
          refine b_geta (pc := 558) (dd dtX11_fit 311 rfl) fwX11_140 pM_0 rM_0_41 ?_
          refine b_iload (pc := 561) (i := 10) (dd dtX11_fit 312 rfl) rfl ?_
          refine b_iald (pc := 563) (dd dtX11_fit 313 rfl) pM_30 (vpn rfl (show h < 5 by omega) (by decide)) ?_
          refine b_goto (pc := 564) (tgt := 574) (dd dtX11_fit 314 rfl) (by decide) ?_
          refine b_iast (pc := 574) (dd dtX11_fit 319 rfl) pM_33 (vpn rfl (show h < 5 by omega) (by decide)) ?_
          refine b_iinc1 (pc := 575) (i := 10) (lv' := [(10, _), (6, _), (5, _), (4, _), (3, _), (0, _), (1, _), (2, _)]) (dd dtX11_fit 320 rfl) rfl (Nat.le_of_ble_eq_true rfl) rfl ?_
          refine b_goto (pc := 578) (tgt := 484) (dd dtX11_fit 321 rfl) (by decide) ?_
          rw [nI_1]
          refine ih (h + 1) _ _ hlt (by omega) rfl ?_
          · try simp (disch := decide) only [nI_clamp (show h < 2 ^ 31 by omega), ist_ne, tieM, rset_ne, rset_eq, fil_out (Nat.le_refl h)] at h513
            try simp (disch := decide) only [nI_clamp (show h < 2 ^ 31 by omega), ist_ne, tieM, rset_ne, rset_eq, fil_out (Nat.le_refl h)] at h554
            exact tie_step (nI_clamp (show h < 2 ^ 31 by omega)) (nI_clamp (show h < 2 ^ 31 by omega)) (by simp (disch := decide) only [nI_clamp (show h < 2 ^ 31 by omega), ist_ne, tieM, rset_ne, rset_eq, fil_out (Nat.le_refl h)]; unfold lsM; first | rw [if_pos h513] | rw [if_neg h513]) (by simp (disch := decide) only [nI_clamp (show h < 2 ^ 31 by omega), ist_ne, tieM, rset_ne, rset_eq, fil_out (Nat.le_refl h)]; unfold mx; first | rw [if_pos h554] | rw [if_neg h554])
      · refine b_aload_n (pc := 516) (i := 0) (dd dtX11_fit 288 rfl) rfl rfl ?_
        refine b_geta (pc := 517) (dd dtX11_fit 289 rfl) fwX11_140 pM_0 rM_0_41 ?_
        refine b_iload (pc := 520) (i := 10) (dd dtX11_fit 290 rfl) rfl ?_
        refine b_iald (pc := 522) (dd dtX11_fit 291 rfl) pM_30 (vpn rfl (show h < 5 by omega) (by decide)) ?_
        refine b_goto (pc := 523) (tgt := 533) (dd dtX11_fit 292 rfl) (by decide) ?_
        refine b_iast (pc := 533) (dd dtX11_fit 297 rfl) pM_32 (vpn rfl (show h < 5 by omega) (by decide)) ?_
        refine b_aload_n (pc := 534) (i := 0) (dd dtX11_fit 298 rfl) rfl rfl ?_
        refine b_geta (pc := 535) (dd dtX11_fit 299 rfl) fwX11_149 pM_0 rM_0_44 ?_
        refine b_iload (pc := 538) (i := 10) (dd dtX11_fit 300 rfl) rfl ?_
        refine b_aload_n (pc := 540) (i := 0) (dd dtX11_fit 301 rfl) rfl rfl ?_
        refine b_geta (pc := 541) (dd dtX11_fit 302 rfl) fwX11_140 pM_0 rM_0_41 ?_
        refine b_iload (pc := 544) (i := 10) (dd dtX11_fit 303 rfl) rfl ?_
        refine b_iald (pc := 546) (dd dtX11_fit 304 rfl) pM_30 (vpn rfl (show h < 5 by omega) (by decide)) ?_
        refine b_aload_n (pc := 547) (i := 0) (dd dtX11_fit 305 rfl) rfl rfl ?_
        refine b_geta (pc := 548) (dd dtX11_fit 306 rfl) fwX11_149 pM_0 rM_0_44 ?_
        refine b_iload (pc := 551) (i := 10) (dd dtX11_fit 307 rfl) rfl ?_
        refine b_iald (pc := 553) (dd dtX11_fit 308 rfl) pM_33 (vpn rfl (show h < 5 by omega) (by decide)) ?_
        refine b_icmpL_le (pc := 554) (tgt := 567) (dd dtX11_fit 309 rfl) (by decide) (fun h554 => ?_) (fun h554 => ?_)
        · refine b_aload_n (pc := 567) (i := 0) (dd dtX11_fit 315 rfl) rfl rfl ?_
          refine b_geta (pc := 568) (dd dtX11_fit 316 rfl) fwX11_149 pM_0 rM_0_44 ?_
          refine b_iload (pc := 571) (i := 10) (dd dtX11_fit 317 rfl) rfl ?_
          refine b_iald (pc := 573) (dd dtX11_fit 318 rfl) pM_33 (vpn rfl (show h < 5 by omega) (by decide)) ?_
          refine b_iast (pc := 574) (dd dtX11_fit 319 rfl) pM_33 (vpn rfl (show h < 5 by omega) (by decide)) ?_
          refine b_iinc1 (pc := 575) (i := 10) (lv' := [(10, _), (6, _), (5, _), (4, _), (3, _), (0, _), (1, _), (2, _)]) (dd dtX11_fit 320 rfl) rfl (Nat.le_of_ble_eq_true rfl) rfl ?_
          refine b_goto (pc := 578) (tgt := 484) (dd dtX11_fit 321 rfl) (by decide) ?_
          rw [nI_1]
          refine ih (h + 1) _ _ hlt (by omega) rfl ?_
          · try simp (disch := decide) only [nI_clamp (show h < 2 ^ 31 by omega), ist_ne, tieM, rset_ne, rset_eq, fil_out (Nat.le_refl h)] at h513
            try simp (disch := decide) only [nI_clamp (show h < 2 ^ 31 by omega), ist_ne, tieM, rset_ne, rset_eq, fil_out (Nat.le_refl h)] at h554
            exact tie_step (nI_clamp (show h < 2 ^ 31 by omega)) (nI_clamp (show h < 2 ^ 31 by omega)) (by simp (disch := decide) only [nI_clamp (show h < 2 ^ 31 by omega), ist_ne, tieM, rset_ne, rset_eq, fil_out (Nat.le_refl h)]; unfold lsM; first | rw [if_pos h513] | rw [if_neg h513]) (by simp (disch := decide) only [nI_clamp (show h < 2 ^ 31 by omega), ist_ne, tieM, rset_ne, rset_eq, fil_out (Nat.le_refl h)]; unfold mx; first | rw [if_pos h554] | rw [if_neg h554])
        · refine b_aload_n (pc := 557) (i := 0) (dd dtX11_fit 310 rfl) rfl rfl ?_
          refine b_geta (pc := 558) (dd dtX11_fit 311 rfl) fwX11_140 pM_0 rM_0_41 ?_
          refine b_iload (pc := 561) (i := 10) (dd dtX11_fit 312 rfl) rfl ?_
          refine b_iald (pc := 563) (dd dtX11_fit 313 rfl) pM_30 (vpn rfl (show h < 5 by omega) (by decide)) ?_
          refine b_goto (pc := 564) (tgt := 574) (dd dtX11_fit 314 rfl) (by decide) ?_
          refine b_iast (pc := 574) (dd dtX11_fit 319 rfl) pM_33 (vpn rfl (show h < 5 by omega) (by decide)) ?_
          refine b_iinc1 (pc := 575) (i := 10) (lv' := [(10, _), (6, _), (5, _), (4, _), (3, _), (0, _), (1, _), (2, _)]) (dd dtX11_fit 320 rfl) rfl (Nat.le_of_ble_eq_true rfl) rfl ?_
          refine b_goto (pc := 578) (tgt := 484) (dd dtX11_fit 321 rfl) (by decide) ?_
          rw [nI_1]
          refine ih (h + 1) _ _ hlt (by omega) rfl ?_
          · try simp (disch := decide) only [nI_clamp (show h < 2 ^ 31 by omega), ist_ne, tieM, rset_ne, rset_eq, fil_out (Nat.le_refl h)] at h513
            try simp (disch := decide) only [nI_clamp (show h < 2 ^ 31 by omega), ist_ne, tieM, rset_ne, rset_eq, fil_out (Nat.le_refl h)] at h554
            exact tie_step (nI_clamp (show h < 2 ^ 31 by omega)) (nI_clamp (show h < 2 ^ 31 by omega)) (by simp (disch := decide) only [nI_clamp (show h < 2 ^ 31 by omega), ist_ne, tieM, rset_ne, rset_eq, fil_out (Nat.le_refl h)]; unfold lsM; first | rw [if_pos h513] | rw [if_neg h513]) (by simp (disch := decide) only [nI_clamp (show h < 2 ^ 31 by omega), ist_ne, tieM, rset_ne, rset_eq, fil_out (Nat.le_refl h)]; unfold mx; first | rw [if_pos h554] | rw [if_neg h554])
set_option maxHeartbeats 4000000 in
theorem q471 {W : Wd} {z L v : Nat} {al s0 kn f l : Int32} (hF : FF W z L) {r : Option Value} {I9 : Wd} (kk : Bd SyM mX11_fit 3 244 [(6, .int (nI (v + 1))), (5, .int l), (4, .int f), (3, .int al), (0, .ref 0), (1, .int s0), (2, .int kn)] [] (adM W z) r I9) : Bd SyM mX11_fit 3 471 [(6, .int (nI v)), (5, .int l), (4, .int f), (3, .int al), (0, .ref 0), (1, .int s0), (2, .int kn)] [] W r I9 := by
  refine b_aload_n (pc := 471) (i := 0) (dd dtX11_fit 264 rfl) rfl rfl ?_
  refine b_dup (pc := 472) (dd dtX11_fit 265 rfl) rfl ?_
  refine b_geti (pc := 473) (dd dtX11_fit 266 rfl) fwX11_121 pM_0 ?_
  refine b_ic1 (pc := 476) (dd dtX11_fit 267 rfl) ?_
  refine b_iadd (pc := 477) (dd dtX11_fit 268 rfl) ?_
  refine b_puti (pc := 478) (dd dtX11_fit 269 rfl) fwX11_121 pM_0 ?_
  refine b_ic0 (pc := 481) (dd dtX11_fit 270 rfl) ?_
  refine b_istore (pc := 482) (i := 10) (lv' := [(10, _), (6, _), (5, _), (4, _), (3, _), (0, _), (1, _), (2, _)]) (dd dtX11_fit 271 rfl) (Nat.le_of_ble_eq_true rfl) rfl ?_
  refine q484 (hF.of ?_ ?_ ?_) kk (z + 1) 0 _ _ (Nat.zero_le _) (by omega) rfl ?_
  · rw [ist_eq, upd_ne (by decide)]
  · rw [ist_eq, upd_ne (by decide)]
  · rw [ist_ne (by decide)]
  · unfold tieM; rw [fil_0, fil_0, rset_id, rset_id]
theorem new_step {W : Wd} {h q : Nat} {v1 v2 v3 : Int32} (hq : q = h) (h1 : v1 = W 30 h) (h2 : v2 = W 30 h) (h3 : v3 = W 30 h) : ist (ist (ist (rset (rset (rset W 31 (fil (W 30) (W 31) h)) 32 (fil (W 30) (W 32) h)) 33 (fil (W 30) (W 33) h)) 31 q v1) 32 q v2) 33 q v3 = (rset (rset (rset W 31 (fil (W 30) (W 31) (h + 1))) 32 (fil (W 30) (W 32) (h + 1))) 33 (fil (W 30) (W 33) (h + 1))) := by
  subst hq
  rw [rset_comm (show 32 ≠ 33 by decide)]
  have e1 : ∀ (A B C : Nat → Int32), ist (rset (rset (rset W 31 A) 33 B) 32 C) 31 q v1 = rset (rset (rset W 31 (upd A q v1)) 32 C) 33 B := by
    intro A B C
    rw [rset_comm (show 31 ≠ 33 by decide), rset_comm (show 31 ≠ 32 by decide), ist_rset, rset_comm (show 33 ≠ 32 by decide), rset_comm (show 33 ≠ 31 by decide), rset_comm (show 32 ≠ 31 by decide)]
  have e2 : ∀ (A B C : Nat → Int32), ist (rset (rset (rset W 31 A) 32 B) 33 C) 32 q v2 = rset (rset (rset W 31 A) 32 (upd B q v2)) 33 C := by
    intro A B C
    rw [rset_comm (show 32 ≠ 33 by decide), ist_rset, rset_comm (show 33 ≠ 32 by decide)]
  rw [e1, e2, ist_rset, fil_s h1, fil_s h2, fil_s h3]
set_option maxHeartbeats 4000000 in
theorem q414 {W : Wd} {z L v : Nat} {al s0 kn f l : Int32} (hF : FF W z L) {r : Option Value} {I9 : Wd} (kk : Bd SyM mX11_fit 3 471 [(6, .int (nI v)), (5, .int l), (4, .int f), (3, .int al), (0, .ref 0), (1, .int s0), (2, .int kn)] [] (rset (rset (rset W 31 (fil (W 30) (W 31) z)) 32 (fil (W 30) (W 32) z)) 33 (fil (W 30) (W 33) z)) r I9) : ∀ (n h : Nat) (x10 : Int32) (I2 : Wd), h ≤ z → z < h + n → x10 = nI h → I2 = (rset (rset (rset W 31 (fil (W 30) (W 31) h)) 32 (fil (W 30) (W 32) h)) 33 (fil (W 30) (W 33) h)) → Bd SyM mX11_fit 3 414 [(10, .int x10), (6, .int (nI v)), (5, .int l), (4, .int f), (3, .int al), (0, .ref 0), (1, .int s0), (2, .int kn)] [] I2 (r) I9 := by
  intro n
  induction n with
  | zero => intro h x10 I2 h1 h2; omega
  | succ n ih =>
    intro h x10 I2 h1 h2 e10 eW
    subst e10; subst eW
    obtain ⟨hz, hz2, hL, hL2, hS⟩ := id hF
    have f0 : (rset (rset (rset W 31 (fil (W 30) (W 31) h)) 32 (fil (W 30) (W 32) h)) 33 (fil (W 30) (W 33) h)) 0 = W 0 := by rw [rset_ne (by decide), rset_ne (by decide), rset_ne (by decide)]
    refine b_iload (pc := 414) (i := 10) (dd dtX11_fit 234 rfl) rfl ?_
    refine b_aload_n (pc := 416) (i := 0) (dd dtX11_fit 235 rfl) rfl rfl ?_
    refine b_geti (pc := 417) (dd dtX11_fit 236 rfl) fwX11_118 pM_0 ?_
    refine b_icmpL_ge (pc := 420) (tgt := 471) (dd dtX11_fit 237 rfl) (by decide) (fun h420 => ?_) (fun h420 => ?_)
    · refine b_pick [1, 2, 3, 4, 5, 6, 7] (lv' := [(6, _), (5, _), (4, _), (3, _), (0, _), (1, _), (2, _)]) rfl ?_
      rw [f0, hz] at h420
      have he : h = z := Nat.le_antisymm h1 (ge_n h420 (by omega))
      subst he
      exact kk
    · rw [f0, hz] at h420
      have hlt : h < z := lt_n h420 (by omega) (by omega)
      refine b_aload_n (pc := 423) (i := 0) (dd dtX11_fit 238 rfl) rfl rfl ?_
      refine b_geta (pc := 424) (dd dtX11_fit 239 rfl) fwX11_143 pM_0 rM_0_42 ?_
      refine b_iload (pc := 427) (i := 10) (dd dtX11_fit 240 rfl) rfl ?_
      refine b_aload_n (pc := 429) (i := 0) (dd dtX11_fit 241 rfl) rfl rfl ?_
      refine b_geta (pc := 430) (dd dtX11_fit 242 rfl) fwX11_140 pM_0 rM_0_41 ?_
      refine b_iload (pc := 433) (i := 10) (dd dtX11_fit 243 rfl) rfl ?_
      refine b_iald (pc := 435) (dd dtX11_fit 244 rfl) pM_30 (vpn rfl (show h < 5 by omega) (by decide)) ?_
      refine b_iast (pc := 436) (dd dtX11_fit 245 rfl) pM_31 (vpn rfl (show h < 5 by omega) (by decide)) ?_
      refine b_aload_n (pc := 437) (i := 0) (dd dtX11_fit 246 rfl) rfl rfl ?_
      refine b_geta (pc := 438) (dd dtX11_fit 247 rfl) fwX11_146 pM_0 rM_0_43 ?_
      refine b_iload (pc := 441) (i := 10) (dd dtX11_fit 248 rfl) rfl ?_
      refine b_aload_n (pc := 443) (i := 0) (dd dtX11_fit 249 rfl) rfl rfl ?_
      refine b_geta (pc := 444) (dd dtX11_fit 250 rfl) fwX11_140 pM_0 rM_0_41 ?_
      refine b_iload (pc := 447) (i := 10) (dd dtX11_fit 251 rfl) rfl ?_
      refine b_iald (pc := 449) (dd dtX11_fit 252 rfl) pM_30 (vpn rfl (show h < 5 by omega) (by decide)) ?_
      refine b_iast (pc := 450) (dd dtX11_fit 253 rfl) pM_32 (vpn rfl (show h < 5 by omega) (by decide)) ?_
      refine b_aload_n (pc := 451) (i := 0) (dd dtX11_fit 254 rfl) rfl rfl ?_
      refine b_geta (pc := 452) (dd dtX11_fit 255 rfl) fwX11_149 pM_0 rM_0_44 ?_
      refine b_iload (pc := 455) (i := 10) (dd dtX11_fit 256 rfl) rfl ?_
      refine b_aload_n (pc := 457) (i := 0) (dd dtX11_fit 257 rfl) rfl rfl ?_
      refine b_geta (pc := 458) (dd dtX11_fit 258 rfl) fwX11_140 pM_0 rM_0_41 ?_
      refine b_iload (pc := 461) (i := 10) (dd dtX11_fit 259 rfl) rfl ?_
      refine b_iald (pc := 463) (dd dtX11_fit 260 rfl) pM_30 (vpn rfl (show h < 5 by omega) (by decide)) ?_
      refine b_iast (pc := 464) (dd dtX11_fit 261 rfl) pM_33 (vpn rfl (show h < 5 by omega) (by decide)) ?_
      refine b_iinc1 (pc := 465) (i := 10) (lv' := [(10, _), (6, _), (5, _), (4, _), (3, _), (0, _), (1, _), (2, _)]) (dd dtX11_fit 262 rfl) rfl (Nat.le_of_ble_eq_true rfl) rfl ?_
      refine b_goto (pc := 468) (tgt := 414) (dd dtX11_fit 263 rfl) (by decide) ?_
      rw [nI_1]
      refine ih (h + 1) _ _ hlt (by omega) rfl ?_
      · exact new_step (nI_clamp (show h < 2 ^ 31 by omega)) (by simp (disch := decide) only [nI_clamp (show h < 2 ^ 31 by omega), rset_ne]) (by simp (disch := decide) only [nI_clamp (show h < 2 ^ 31 by omega), rset_ne, ist_ne]) (by simp (disch := decide) only [nI_clamp (show h < 2 ^ 31 by omega), rset_ne, ist_ne])
theorem new_eq {W : Wd} {z : Nat} : (rset (rset (rset (ist (ist W 0 36 1) 0 35 0) 31 (fil ((ist (ist W 0 36 1) 0 35 0) 30) ((ist (ist W 0 36 1) 0 35 0) 31) z)) 32 (fil ((ist (ist W 0 36 1) 0 35 0) 30) ((ist (ist W 0 36 1) 0 35 0) 32) z)) 33 (fil ((ist (ist W 0 36 1) 0 35 0) 30) ((ist (ist W 0 36 1) 0 35 0) 33) z)) = newM W z := by
  unfold newM
  simp (disch := decide) only [ist_ne]
set_option maxHeartbeats 4000000 in
theorem q393 {W : Wd} {z L v : Nat} {al s0 kn f l : Int32} (hF : FF W z L) {r : Option Value} {I9 : Wd} {n s : Int32} (kk : Bd SyM mX11_fit 3 244 [(6, .int (nI (v + 1))), (5, .int s), (4, .int n), (3, .int al), (0, .ref 0), (1, .int s0), (2, .int kn)] [] (adM (newM W z) z) r I9) : Bd SyM mX11_fit 3 393 [(9, .int s), (8, .int n), (6, .int (nI v)), (5, .int l), (4, .int f), (3, .int al), (0, .ref 0), (1, .int s0), (2, .int kn)] [] W r I9 := by
  refine b_aload_n (pc := 393) (i := 0) (dd dtX11_fit 222 rfl) rfl rfl ?_
  refine b_ic1 (pc := 394) (dd dtX11_fit 223 rfl) ?_
  refine b_put1 (pc := 395) (dd dtX11_fit 224 rfl) fwX11_124 pM_0 ?_
  refine b_iload (pc := 398) (i := 8) (dd dtX11_fit 225 rfl) rfl ?_
  refine b_istore (pc := 400) (i := 4) (lv' := [(4, _), (9, _), (8, _), (6, _), (5, _), (3, _), (0, _), (1, _), (2, _)]) (dd dtX11_fit 226 rfl) (Nat.le_of_ble_eq_true rfl) rfl ?_
  refine b_iload (pc := 402) (i := 9) (dd dtX11_fit 227 rfl) rfl ?_
  refine b_istore (pc := 404) (i := 5) (lv' := [(5, _), (4, _), (9, _), (8, _), (6, _), (3, _), (0, _), (1, _), (2, _)]) (dd dtX11_fit 228 rfl) (Nat.le_of_ble_eq_true rfl) rfl ?_
  refine b_aload_n (pc := 406) (i := 0) (dd dtX11_fit 229 rfl) rfl rfl ?_
  refine b_ic0 (pc := 407) (dd dtX11_fit 230 rfl) ?_
  refine b_puti (pc := 408) (dd dtX11_fit 231 rfl) fwX11_121 pM_0 ?_
  refine b_ic0 (pc := 411) (dd dtX11_fit 232 rfl) ?_
  refine b_istore (pc := 412) (i := 10) (lv' := [(10, _), (5, _), (4, _), (9, _), (8, _), (6, _), (3, _), (0, _), (1, _), (2, _)]) (dd dtX11_fit 233 rfl) (Nat.le_of_ble_eq_true rfl) rfl ?_
  refine b_pick [0, 5, 1, 2, 6, 7, 8, 9] (lv' := [(10, _), (6, _), (5, _), (4, _), (3, _), (0, _), (1, _), (2, _)]) rfl ?_
  refine q414 (W := ist (ist W 0 36 1) 0 35 0) (hF.of ?_ ?_ ?_) (q471 (hF.new.of ?_ ?_ ?_) ?_) (z + 1) 0 _ _ (Nat.zero_le _) (by omega) rfl ?_
  · rw [ist_eq, upd_ne (by decide), ist_eq, upd_ne (by decide)]
  · rw [ist_eq, upd_ne (by decide), ist_eq, upd_ne (by decide)]
  · rw [ist_ne (by decide), ist_ne (by decide)]
  · rw [new_eq]
  · rw [new_eq]
  · rw [new_eq]
  · rw [new_eq]; exact kk
  · rw [fil_0, fil_0, fil_0, rset_id, rset_id, rset_id]
set_option maxHeartbeats 4000000 in
theorem q361 {W : Wd} {z L v : Nat} {al s0 kn f l : Int32} (hF : FF W z L) {r : Option Value} {I9 : Wd} {n s : Int32} (kA : ¬ fitP W z L kn → Bd SyM mX11_fit 3 244 [(6, .int (nI (v + 1))), (5, .int l), (4, .int f), (3, .int al), (0, .ref 0), (1, .int s0), (2, .int kn)] [] W r I9) (kB : fitP W z L kn → nwM W n s f l → Bd SyM mX11_fit 3 244 [(6, .int (nI (v + 1))), (5, .int s), (4, .int n), (3, .int al), (0, .ref 0), (1, .int s0), (2, .int kn)] [] (adM (newM W z) z) r I9) (kC : fitP W z L kn → ¬ nwM W n s f l → Bd SyM mX11_fit 3 244 [(6, .int (nI (v + 1))), (5, .int l), (4, .int f), (3, .int al), (0, .ref 0), (1, .int s0), (2, .int kn)] [] (adM W z) r I9) : Bd SyM mX11_fit 3 361 [(9, .int s), (8, .int n), (6, .int (nI v)), (5, .int l), (4, .int f), (3, .int al), (0, .ref 0), (1, .int s0), (2, .int kn)] [] W r I9 := by
  obtain ⟨hz, hz2, hL, hL2, hS⟩ := id hF
  refine b_aload_n (pc := 361) (i := 0) (dd dtX11_fit 208 rfl) rfl rfl ?_
  refine b_iload_n (pc := 362) (i := 2) (dd dtX11_fit 209 rfl) rfl rfl ?_
  refine b_invV (pc := 363) (dd dtX11_fit 210 rfl) mlX11_300 mvX11_isFit miX11_isFit (c_X11_isFit hz hz2 hL hL2) oM_0 rfl rfl (by decide) (Nat.le_of_ble_eq_true rfl) ?_
  refine b_ifb_ne (pc := 366) (tgt := 372) (dd dtX11_fit 211 rfl) (by decide) (fun h366 => ?_) (fun h366 => ?_)
  · refine b_aload_n (pc := 372) (i := 0) (dd dtX11_fit 213 rfl) rfl rfl ?_
    refine b_geti (pc := 373) (dd dtX11_fit 214 rfl) fwX11_124 pM_0 ?_
    refine b_if_eq (pc := 376) (tgt := 393) (dd dtX11_fit 215 rfl) (by decide) (fun h376 => ?_) (fun h376 => ?_)
    · refine q393 hF (kB h366 ?_)
      first | exact Or.inl h376 | exact Or.inr (Or.inl h383) | exact Or.inr (Or.inr h390)
    · refine b_iload (pc := 379) (i := 8) (dd dtX11_fit 216 rfl) rfl ?_
      refine b_iload (pc := 381) (i := 4) (dd dtX11_fit 217 rfl) rfl ?_
      refine b_icmp_lt (pc := 383) (tgt := 393) (dd dtX11_fit 218 rfl) (by decide) (fun h383 => ?_) (fun h383 => ?_)
      · refine q393 hF (kB h366 ?_)
        first | exact Or.inl h376 | exact Or.inr (Or.inl h383) | exact Or.inr (Or.inr h390)
      · refine b_iload (pc := 386) (i := 9) (dd dtX11_fit 219 rfl) rfl ?_
        refine b_iload (pc := 388) (i := 5) (dd dtX11_fit 220 rfl) rfl ?_
        refine b_icmpL_ge (pc := 390) (tgt := 471) (dd dtX11_fit 221 rfl) (by decide) (fun h390 => ?_) (fun h390 => ?_)
        · refine b_pick [2, 3, 4, 5, 6, 7, 8] (lv' := [(6, _), (5, _), (4, _), (3, _), (0, _), (1, _), (2, _)]) rfl ?_
          exact q471 hF (kC h366 (fun q => q.elim h376 (fun q => q.elim h383 h390)))
        · refine q393 hF (kB h366 ?_)
          first | exact Or.inl h376 | exact Or.inr (Or.inl h383) | exact Or.inr (Or.inr h390)
  · refine b_goto (pc := 369) (tgt := 581) (dd dtX11_fit 212 rfl) (by decide) ?_
    refine b_iinc1 (pc := 581) (i := 6) (lv' := [(6, _), (9, _), (8, _), (5, _), (4, _), (3, _), (0, _), (1, _), (2, _)]) (dd dtX11_fit 322 rfl) rfl (Nat.le_of_ble_eq_true rfl) rfl ?_
    refine b_goto (pc := 584) (tgt := 244) (dd dtX11_fit 323 rfl) (by decide) ?_
    refine b_pick [0, 3, 4, 5, 6, 7, 8] (lv' := [(6, _), (5, _), (4, _), (3, _), (0, _), (1, _), (2, _)]) rfl ?_
    rw [nI_1]
    exact kA h366
set_option maxHeartbeats 4000000 in
theorem q333 {W : Wd} {z L v : Nat} {al s0 kn f l : Int32} (hF : FF W z L) {r : Option Value} {I9 : Wd} {n s : Int32} (k0 : skM W n s f l → Bd SyM mX11_fit 3 244 [(6, .int (nI (v + 1))), (5, .int l), (4, .int f), (3, .int al), (0, .ref 0), (1, .int s0), (2, .int kn)] [] W r I9) (kA : ¬ skM W n s f l → ¬ fitP W z L kn → Bd SyM mX11_fit 3 244 [(6, .int (nI (v + 1))), (5, .int l), (4, .int f), (3, .int al), (0, .ref 0), (1, .int s0), (2, .int kn)] [] W r I9) (kB : ¬ skM W n s f l → fitP W z L kn → nwM W n s f l → Bd SyM mX11_fit 3 244 [(6, .int (nI (v + 1))), (5, .int s), (4, .int n), (3, .int al), (0, .ref 0), (1, .int s0), (2, .int kn)] [] (adM (newM W z) z) r I9) (kC : ¬ skM W n s f l → fitP W z L kn → ¬ nwM W n s f l → Bd SyM mX11_fit 3 244 [(6, .int (nI (v + 1))), (5, .int l), (4, .int f), (3, .int al), (0, .ref 0), (1, .int s0), (2, .int kn)] [] (adM W z) r I9) : Bd SyM mX11_fit 3 333 [(9, .int s), (8, .int n), (6, .int (nI v)), (5, .int l), (4, .int f), (3, .int al), (0, .ref 0), (1, .int s0), (2, .int kn)] [] W r I9 := by
  refine b_aload_n (pc := 333) (i := 0) (dd dtX11_fit 196 rfl) rfl rfl ?_
  refine b_geti (pc := 334) (dd dtX11_fit 197 rfl) fwX11_124 pM_0 ?_
  refine b_if_eq (pc := 337) (tgt := 361) (dd dtX11_fit 198 rfl) (by decide) (fun h337 => ?_) (fun h337 => ?_)
  · have hns : ¬ skM W n s f l := fun q => by first | exact q.1 h337 | exact q.2.elim h344 (fun q => h351 q.1) | exact q.2.elim h344 (fun q => h358 q.2)
    exact q361 hF (kA hns) (kB hns) (kC hns)
  · refine b_iload (pc := 340) (i := 8) (dd dtX11_fit 199 rfl) rfl ?_
    refine b_iload (pc := 342) (i := 4) (dd dtX11_fit 200 rfl) rfl ?_
    refine b_icmp_gt (pc := 344) (tgt := 581) (dd dtX11_fit 201 rfl) (by decide) (fun h344 => ?_) (fun h344 => ?_)
    · refine b_iinc1 (pc := 581) (i := 6) (lv' := [(6, _), (9, _), (8, _), (5, _), (4, _), (3, _), (0, _), (1, _), (2, _)]) (dd dtX11_fit 322 rfl) rfl (Nat.le_of_ble_eq_true rfl) rfl ?_
      refine b_goto (pc := 584) (tgt := 244) (dd dtX11_fit 323 rfl) (by decide) ?_
      refine b_pick [0, 3, 4, 5, 6, 7, 8] (lv' := [(6, _), (5, _), (4, _), (3, _), (0, _), (1, _), (2, _)]) rfl ?_
      rw [nI_1]
      refine k0 ⟨h337, ?_⟩
      first | exact Or.inl h344 | exact Or.inr ⟨h351, h358⟩
    · refine b_iload (pc := 347) (i := 8) (dd dtX11_fit 202 rfl) rfl ?_
      refine b_iload (pc := 349) (i := 4) (dd dtX11_fit 203 rfl) rfl ?_
      refine b_icmp_ne (pc := 351) (tgt := 361) (dd dtX11_fit 204 rfl) (by decide) (fun h351 => ?_) (fun h351 => ?_)
      · have hns : ¬ skM W n s f l := fun q => by first | exact q.1 h337 | exact q.2.elim h344 (fun q => h351 q.1) | exact q.2.elim h344 (fun q => h358 q.2)
        exact q361 hF (kA hns) (kB hns) (kC hns)
      · refine b_iload (pc := 354) (i := 9) (dd dtX11_fit 205 rfl) rfl ?_
        refine b_iload (pc := 356) (i := 5) (dd dtX11_fit 206 rfl) rfl ?_
        refine b_icmp_gt (pc := 358) (tgt := 581) (dd dtX11_fit 207 rfl) (by decide) (fun h358 => ?_) (fun h358 => ?_)
        · refine b_iinc1 (pc := 581) (i := 6) (lv' := [(6, _), (9, _), (8, _), (5, _), (4, _), (3, _), (0, _), (1, _), (2, _)]) (dd dtX11_fit 322 rfl) rfl (Nat.le_of_ble_eq_true rfl) rfl ?_
          refine b_goto (pc := 584) (tgt := 244) (dd dtX11_fit 323 rfl) (by decide) ?_
          refine b_pick [0, 3, 4, 5, 6, 7, 8] (lv' := [(6, _), (5, _), (4, _), (3, _), (0, _), (1, _), (2, _)]) rfl ?_
          rw [nI_1]
          refine k0 ⟨h337, ?_⟩
          first | exact Or.inl h344 | exact Or.inr ⟨h351, h358⟩
        · have hns : ¬ skM W n s f l := fun q => by first | exact q.1 h337 | exact q.2.elim h344 (fun q => h351 q.1) | exact q.2.elim h344 (fun q => h358 q.2)
          exact q361 hF (kA hns) (kB hns) (kC hns)
set_option maxHeartbeats 4000000 in
theorem q268 {W : Wd} {z L v : Nat} {al s0 kn f l : Int32}  (hz2 : z ≤ 5) {r : Option Value} {I9 : Wd} : ∀ (i rr : Nat) (x10 x9 x8 x7 : Int32) (W2 : Wd), i ≤ 5 → rr < 2 ^ 31 → x10 = nI i - 1 → x7 = nI rr → (∀ i, i < 5 → W2 26 i = tbSizes.getD i 0) → (Bd SyM mX11_fit 3 333 [(9, .int (tkA i rr x8 x9 W2).2.1), (8, .int (tkA i rr x8 x9 W2).1), (6, .int (nI v)), (5, .int l), (4, .int f), (3, .int al), (0, .ref 0), (1, .int s0), (2, .int kn)] [] (tkA i rr x8 x9 W2).2.2 r I9) → Bd SyM mX11_fit 3 268 [(10, .int x10), (9, .int x9), (8, .int x8), (7, .int x7), (6, .int (nI v)), (5, .int l), (4, .int f), (3, .int al), (0, .ref 0), (1, .int s0), (2, .int kn)] [] W2 r I9 := by
  intro i
  induction i with
  | zero =>
    intro rr x10 x9 x8 x7 W2 h1 hr e10 e7 hS kk
    subst e10; subst e7
    refine b_iload (pc := 268) (i := 10) (dd dtX11_fit 160 rfl) rfl ?_
    refine b_if_lt (pc := 270) (tgt := 333) (dd dtX11_fit 161 rfl) (by decide) (fun h270 => ?_) (fun h270 => ?_)
    · refine b_pick [1, 2, 4, 5, 6, 7, 8, 9, 10] (lv' := [(9, _), (8, _), (6, _), (5, _), (4, _), (3, _), (0, _), (1, _), (2, _)]) rfl ?_
      exact kk
    · exact absurd (show (nI 0 - 1 : Int32) < 0 by decide) h270
  | succ i ih =>
    intro rr x10 x9 x8 x7 W2 h1 hr e10 e7 hS kk
    subst e10; subst e7
    have hi5 : vp_in (nI (i + 1) - 1) 5 := by rw [nI_pred]; exact vpn rfl (by omega) (by decide)
    have hci : (nI (i + 1) - 1).toNatClampNeg = i := by rw [nI_pred]; exact nI_clamp (by omega)
    have hrc : (nI (rr % 5)).toNatClampNeg = rr % 5 := nI_clamp (by omega)
    have hr5 : vp_in (nI rr - nI rr / 5 * 5) 5 := by rw [rem5 hr]; exact vpn rfl (Nat.mod_lt _ (by decide)) (by decide)
    have hd : W2 26 (nI rr - nI rr / 5 * 5).toNatClampNeg = tbSizes.getD (rr % 5) 0 := by rw [rem5 hr, hrc]; exact hS _ (Nat.mod_lt _ (by decide))
    refine b_iload (pc := 268) (i := 10) (dd dtX11_fit 160 rfl) rfl ?_
    refine b_if_lt (pc := 270) (tgt := 333) (dd dtX11_fit 161 rfl) (by decide) (fun h270 => ?_) (fun h270 => ?_)
    · rw [nI_pred] at h270; exact absurd h270 (nI_pos (by omega))
    · refine b_aload_n (pc := 273) (i := 0) (dd dtX11_fit 162 rfl) rfl rfl ?_
      refine b_geta (pc := 274) (dd dtX11_fit 163 rfl) fwX11_140 pM_0 rM_0_41 ?_
      refine b_iload (pc := 277) (i := 10) (dd dtX11_fit 164 rfl) rfl ?_
      refine b_aload_n (pc := 279) (i := 0) (dd dtX11_fit 165 rfl) rfl rfl ?_
      refine b_geta (pc := 280) (dd dtX11_fit 166 rfl) fwX11_128 pM_0 rM_0_37 ?_
      refine b_iload (pc := 283) (i := 7) (dd dtX11_fit 167 rfl) rfl ?_
      refine b_ic5 (pc := 285) (dd dtX11_fit 168 rfl) ?_
      refine b_irem (pc := 286) (dd dtX11_fit 169 rfl) (by decide) ?_
      refine b_iald (pc := 287) (dd dtX11_fit 170 rfl) pM_26 (hr5) ?_
      refine b_iast (pc := 288) (dd dtX11_fit 171 rfl) pM_30 (hi5) ?_
      refine b_iload (pc := 289) (i := 7) (dd dtX11_fit 172 rfl) rfl ?_
      refine b_ic5 (pc := 291) (dd dtX11_fit 173 rfl) ?_
      refine b_idiv (pc := 292) (dd dtX11_fit 174 rfl) (by decide) ?_
      refine b_istore (pc := 293) (i := 7) (lv' := [(7, _), (10, _), (9, _), (8, _), (6, _), (5, _), (4, _), (3, _), (0, _), (1, _), (2, _)]) (dd dtX11_fit 175 rfl) (Nat.le_of_ble_eq_true rfl) rfl ?_
      refine b_iload (pc := 295) (i := 8) (dd dtX11_fit 176 rfl) rfl ?_
      refine b_aload_n (pc := 297) (i := 0) (dd dtX11_fit 177 rfl) rfl rfl ?_
      refine b_geta (pc := 298) (dd dtX11_fit 178 rfl) fwX11_140 pM_0 rM_0_41 ?_
      refine b_iload (pc := 301) (i := 10) (dd dtX11_fit 179 rfl) rfl ?_
      refine b_iald (pc := 303) (dd dtX11_fit 180 rfl) pM_30 (hi5) ?_
      refine b_ifL_le (pc := 304) (tgt := 311) (dd dtX11_fit 181 rfl) (by decide) (fun h304 => ?_) (fun h304 => ?_)
      · refine b_ic0 (pc := 311) (dd dtX11_fit 184 rfl) ?_
        refine b_iadd (pc := 312) (dd dtX11_fit 185 rfl) ?_
        refine b_istore (pc := 313) (i := 8) (lv' := [(8, _), (7, _), (10, _), (9, _), (6, _), (5, _), (4, _), (3, _), (0, _), (1, _), (2, _)]) (dd dtX11_fit 186 rfl) (Nat.le_of_ble_eq_true rfl) rfl ?_
        refine b_iload (pc := 315) (i := 9) (dd dtX11_fit 187 rfl) rfl ?_
        refine b_aload_n (pc := 317) (i := 0) (dd dtX11_fit 188 rfl) rfl rfl ?_
        refine b_geta (pc := 318) (dd dtX11_fit 189 rfl) fwX11_140 pM_0 rM_0_41 ?_
        refine b_iload (pc := 321) (i := 10) (dd dtX11_fit 190 rfl) rfl ?_
        refine b_iald (pc := 323) (dd dtX11_fit 191 rfl) pM_30 (hi5) ?_
        refine b_iadd (pc := 324) (dd dtX11_fit 192 rfl) ?_
        refine b_istore (pc := 325) (i := 9) (lv' := [(9, _), (8, _), (7, _), (10, _), (6, _), (5, _), (4, _), (3, _), (0, _), (1, _), (2, _)]) (dd dtX11_fit 193 rfl) (Nat.le_of_ble_eq_true rfl) rfl ?_
        refine b_iinc (pc := 327) (i := 10) (v := _ + (-1)) (lv' := [(10, _), (9, _), (8, _), (7, _), (6, _), (5, _), (4, _), (3, _), (0, _), (1, _), (2, _)]) (dd dtX11_fit 194 rfl) rfl rfl (Nat.le_of_ble_eq_true rfl) rfl ?_
        refine b_goto (pc := 330) (tgt := 268) (dd dtX11_fit 195 rfl) (by decide) ?_
        rw [nI_pred, div5 hr] at *
        refine ih (rr / 5) _ _ _ _ _ (by omega) (by omega) ?_ rfl ?_ ?_
        · exact (Int32.sub_eq_add_neg _ _).symm
        · intro j hj; rw [ist_ne (by decide)]; exact hS j hj
        · simp only [hd, ist_eq, upd_eq, nI_clamp (show i < 2 ^ 31 by omega)] at *; rw [tkA_s] at kk; (first | rw [if_neg h304] at kk | rw [if_pos h304] at kk); exact kk
      · refine b_ic1 (pc := 307) (dd dtX11_fit 182 rfl) ?_
        refine b_goto (pc := 308) (tgt := 312) (dd dtX11_fit 183 rfl) (by decide) ?_
        refine b_iadd (pc := 312) (dd dtX11_fit 185 rfl) ?_
        refine b_istore (pc := 313) (i := 8) (lv' := [(8, _), (7, _), (10, _), (9, _), (6, _), (5, _), (4, _), (3, _), (0, _), (1, _), (2, _)]) (dd dtX11_fit 186 rfl) (Nat.le_of_ble_eq_true rfl) rfl ?_
        refine b_iload (pc := 315) (i := 9) (dd dtX11_fit 187 rfl) rfl ?_
        refine b_aload_n (pc := 317) (i := 0) (dd dtX11_fit 188 rfl) rfl rfl ?_
        refine b_geta (pc := 318) (dd dtX11_fit 189 rfl) fwX11_140 pM_0 rM_0_41 ?_
        refine b_iload (pc := 321) (i := 10) (dd dtX11_fit 190 rfl) rfl ?_
        refine b_iald (pc := 323) (dd dtX11_fit 191 rfl) pM_30 (hi5) ?_
        refine b_iadd (pc := 324) (dd dtX11_fit 192 rfl) ?_
        refine b_istore (pc := 325) (i := 9) (lv' := [(9, _), (8, _), (7, _), (10, _), (6, _), (5, _), (4, _), (3, _), (0, _), (1, _), (2, _)]) (dd dtX11_fit 193 rfl) (Nat.le_of_ble_eq_true rfl) rfl ?_
        refine b_iinc (pc := 327) (i := 10) (v := _ + (-1)) (lv' := [(10, _), (9, _), (8, _), (7, _), (6, _), (5, _), (4, _), (3, _), (0, _), (1, _), (2, _)]) (dd dtX11_fit 194 rfl) rfl rfl (Nat.le_of_ble_eq_true rfl) rfl ?_
        refine b_goto (pc := 330) (tgt := 268) (dd dtX11_fit 195 rfl) (by decide) ?_
        rw [nI_pred, div5 hr] at *
        refine ih (rr / 5) _ _ _ _ _ (by omega) (by omega) ?_ rfl ?_ ?_
        · exact (Int32.sub_eq_add_neg _ _).symm
        · intro j hj; rw [ist_ne (by decide)]; exact hS j hj
        · simp only [hd, ist_eq, upd_eq, nI_clamp (show i < 2 ^ 31 by omega)] at *; rw [tkA_s] at kk; (first | rw [if_neg h304] at kk | rw [if_pos h304] at kk); exact kk
set_option maxHeartbeats 4000000 in
theorem q244 {J : Wd} {z L al : Nat} {kn s0 : Int32} (hF : FF J z L) (hal : al < 2 ^ 30) : ∀ (n h : Nat) (x6 : Int32) (x5 : Int32) (x4 : Int32) (I2 : Wd), h ≤ al → al < h + n → x6 = nI h → x5 = (mrun z L kn J h).2.1 → x4 = (mrun z L kn J h).1 → I2 = (mrun z L kn J h).2.2 → Bd SyM mX11_fit 3 244 [(6, .int x6), (5, .int x5), (4, .int x4), (3, .int (nI al)), (0, .ref 0), (1, .int s0), (2, .int kn)] [] I2 (some (.int (if (mrun z L kn J al).2.2 0 36 = 0 then -3 else (mrun z L kn J al).1))) (mrun z L kn J al).2.2 := by
  intro n
  induction n with
  | zero => intro h x6 x5 x4 I2 h1 h2; omega
  | succ n ih =>
    intro h x6 x5 x4 I2 h1 h2 e6 e5 e4 eW
    subst e6; subst e5; subst e4; subst eW
    have hG := FF.run (v := h) (known := kn) hF
    have hG2 := id hG
    obtain ⟨hz, hz2, hL, hL2, hS⟩ := id hG
    refine b_iload (pc := 244) (i := 6) (dd dtX11_fit 146 rfl) rfl ?_
    refine b_iload_n (pc := 246) (i := 3) (dd dtX11_fit 147 rfl) rfl rfl ?_
    refine b_icmpL_ge (pc := 247) (tgt := 587) (dd dtX11_fit 148 rfl) (by decide) (fun h247 => ?_) (fun h247 => ?_)
    · have he : h = al := Nat.le_antisymm h1 (ge_n h247 (by omega))
      subst he
      refine b_aload_n (pc := 587) (i := 0) (dd dtX11_fit 324 rfl) rfl rfl ?_
      refine b_geti (pc := 588) (dd dtX11_fit 325 rfl) fwX11_124 pM_0 ?_
      refine b_if_eq (pc := 591) (tgt := 599) (dd dtX11_fit 326 rfl) (by decide) (fun h591 => ?_) (fun h591 => ?_)
      · refine b_bipush (pc := 599) (v := -3) (dd dtX11_fit 329 rfl) (by decide) ?_
        refine b_eq (b_iret (dd dtX11_fit 330 rfl) rfl) ?_ ?_
        · first | rw [if_pos (by assumption)] | rw [if_neg (by assumption)]
        · rfl
      · refine b_iload (pc := 594) (i := 4) (dd dtX11_fit 327 rfl) rfl ?_
        refine b_goto (pc := 596) (tgt := 601) (dd dtX11_fit 328 rfl) (by decide) ?_
        refine b_eq (b_iret (dd dtX11_fit 330 rfl) rfl) ?_ ?_
        · first | rw [if_pos (by assumption)] | rw [if_neg (by assumption)]
        · rfl
    · have hlt : h < al := lt_n h247 (by omega) (by omega)
      refine b_iload (pc := 250) (i := 6) (dd dtX11_fit 149 rfl) rfl ?_
      refine b_istore (pc := 252) (i := 7) (lv' := [(7, _), (6, _), (5, _), (4, _), (3, _), (0, _), (1, _), (2, _)]) (dd dtX11_fit 150 rfl) (Nat.le_of_ble_eq_true rfl) rfl ?_
      refine b_ic0 (pc := 254) (dd dtX11_fit 151 rfl) ?_
      refine b_istore (pc := 255) (i := 8) (lv' := [(8, _), (7, _), (6, _), (5, _), (4, _), (3, _), (0, _), (1, _), (2, _)]) (dd dtX11_fit 152 rfl) (Nat.le_of_ble_eq_true rfl) rfl ?_
      refine b_ic0 (pc := 257) (dd dtX11_fit 153 rfl) ?_
      refine b_istore (pc := 258) (i := 9) (lv' := [(9, _), (8, _), (7, _), (6, _), (5, _), (4, _), (3, _), (0, _), (1, _), (2, _)]) (dd dtX11_fit 154 rfl) (Nat.le_of_ble_eq_true rfl) rfl ?_
      refine b_aload_n (pc := 260) (i := 0) (dd dtX11_fit 155 rfl) rfl rfl ?_
      refine b_geti (pc := 261) (dd dtX11_fit 156 rfl) fwX11_118 pM_0 ?_
      refine b_ic1 (pc := 264) (dd dtX11_fit 157 rfl) ?_
      refine b_isub (pc := 265) (dd dtX11_fit 158 rfl) ?_
      refine b_istore (pc := 266) (i := 10) (lv' := [(10, _), (9, _), (8, _), (7, _), (6, _), (5, _), (4, _), (3, _), (0, _), (1, _), (2, _)]) (dd dtX11_fit 159 rfl) (Nat.le_of_ble_eq_true rfl) rfl ?_
      rw [hz]
      refine q268 (W := (mrun z L kn J h).2.2) (L := L) hz2 z h _ _ _ _ _ hz2 (by omega) rfl rfl hS ?_
      have hgo : ∀ q, q = mst z L kn h (mrun z L kn J h) → Bd SyM mX11_fit 3 244 [(6, .int (nI (h + 1))), (5, .int q.2.1), (4, .int q.1), (3, .int (nI al)), (0, .ref 0), (1, .int s0), (2, .int kn)] [] q.2.2 (some (.int (if (mrun z L kn J al).2.2 0 36 = 0 then -3 else (mrun z L kn J al).1))) (mrun z L kn J al).2.2 := by
        intro q hq
        exact ih (h + 1) _ _ _ _ hlt (by omega) rfl (by rw [hq]; rfl) (by rw [hq]; rfl) (by rw [hq]; rfl)
      have t36 : (tkA z h 0 0 (mrun z L kn J h).2.2).2.2 0 36 = (mrun z L kn J h).2.2 0 36 := by rw [tkA_fr (by decide)]
      refine q333 (hG.tk) ?_ ?_ ?_ ?_
      · intro a; replace a : skM (mrun z L kn J h).2.2 (tkA z h 0 0 (mrun z L kn J h).2.2).1 (tkA z h 0 0 (mrun z L kn J h).2.2).2.1 (mrun z L kn J h).1 (mrun z L kn J h).2.1 := (by simpa only [skM, nwM, t36] using a); exact hgo (_, _, _) (by unfold mst; rw [if_pos a])
      · intro a b; replace a : ¬ skM (mrun z L kn J h).2.2 (tkA z h 0 0 (mrun z L kn J h).2.2).1 (tkA z h 0 0 (mrun z L kn J h).2.2).2.1 (mrun z L kn J h).1 (mrun z L kn J h).2.1 := (by simpa only [skM, nwM, t36] using a); exact hgo (_, _, _) (by unfold mst; rw [if_neg a, if_neg b])
      · intro a b c; replace a : ¬ skM (mrun z L kn J h).2.2 (tkA z h 0 0 (mrun z L kn J h).2.2).1 (tkA z h 0 0 (mrun z L kn J h).2.2).2.1 (mrun z L kn J h).1 (mrun z L kn J h).2.1 := (by simpa only [skM, nwM, t36] using a); replace c : nwM (mrun z L kn J h).2.2 (tkA z h 0 0 (mrun z L kn J h).2.2).1 (tkA z h 0 0 (mrun z L kn J h).2.2).2.1 (mrun z L kn J h).1 (mrun z L kn J h).2.1 := (by simpa only [skM, nwM, t36] using c); exact hgo (_, _, _) (by unfold mst; rw [if_neg a, if_pos b, if_pos c]; rfl)
      · intro a b c; replace a : ¬ skM (mrun z L kn J h).2.2 (tkA z h 0 0 (mrun z L kn J h).2.2).1 (tkA z h 0 0 (mrun z L kn J h).2.2).2.1 (mrun z L kn J h).1 (mrun z L kn J h).2.1 := (by simpa only [skM, nwM, t36] using a); replace c : ¬ nwM (mrun z L kn J h).2.2 (tkA z h 0 0 (mrun z L kn J h).2.2).1 (tkA z h 0 0 (mrun z L kn J h).2.2).2.1 (mrun z L kn J h).1 (mrun z L kn J h).2.1 := (by simpa only [skM, nwM, t36] using c); exact hgo (_, _, _) (by unfold mst; rw [if_neg a, if_pos b, if_neg c]; rfl)
