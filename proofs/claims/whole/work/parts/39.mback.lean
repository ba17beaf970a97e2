/-! the reference's images put back -/
def fl2 (J : Wd) (k1 k2 : Nat) (f1 f2 : Nat → Int32) (h : Nat) : Wd := rset (rset J k1 (fil f1 (J k1) h)) k2 (fil f2 (J k2) h)
theorem fl2_0 {J : Wd} {k1 k2 : Nat} {f1 f2 : Nat → Int32} : fl2 J k1 k2 f1 f2 0 = J := by unfold fl2; rw [fil_0, fil_0, rset_id, rset_id]
theorem fl2_s {J : Wd} {k1 k2 : Nat} {f1 f2 : Nat → Int32} {h : Nat} {v1 v2 : Int32} (hk : k1 ≠ k2) (h1 : v1 = f1 h) (h2 : v2 = f2 h) : ist (ist (fl2 J k1 k2 f1 f2 h) k1 h v1) k2 h v2 = fl2 J k1 k2 f1 f2 (h + 1) := by
  have e1 : ist (fl2 J k1 k2 f1 f2 h) k1 h v1 = rset (rset J k1 (fil f1 (J k1) (h + 1))) k2 (fil f2 (J k2) h) := by
    unfold fl2; rw [rset_comm hk, ist_rset, rset_comm (Ne.symm hk), fil_s h1]
  rw [e1, ist_rset, fil_s h2]; rfl
theorem fl2_fr {J : Wd} {k1 k2 : Nat} {f1 f2 : Nat → Int32} {h a : Nat} (h1 : a ≠ k1) (h2 : a ≠ k2) : fl2 J k1 k2 f1 f2 h a = J a := by unfold fl2; rw [rset_ne h2, rset_ne h1]
theorem fl2_1 {J : Wd} {k1 k2 : Nat} {f1 f2 : Nat → Int32} {h : Nat} (hk : k1 ≠ k2) : fl2 J k1 k2 f1 f2 h k1 = fil f1 (J k1) h := by unfold fl2; rw [rset_ne hk, rset_eq]
theorem fl2_2 {J : Wd} {k1 k2 : Nat} {f1 f2 : Nat → Int32} {h : Nat} : fl2 J k1 k2 f1 f2 h k2 = fil f2 (J k2) h := by unfold fl2; rw [rset_eq]
def pbD (b : Nat) (J : Wd) (h : Nat) : Wd := fl2 J 8 9 (fun r => J 43 (b + 300 + r)) (fun r => J 43 (b + 304 + r)) h
def pbC (b : Nat) (fp : Int32) (J : Wd) (h : Nat) : Wd := rset J 15 (fil (fun p => if nI p < fp then J 43 (b + 294 + p) else 0) (J 15) h)
def pbB (b : Nat) (fh : Int32) (J : Wd) (h : Nat) : Wd := fl2 J 13 16 (fun i => if nI i < fh then J 43 (b + 266 + i) else -1) (fun i => if nI i < fh ∧ J 43 (b + 280 + i) = 1 then 1 else 0) h
def pbA (b : Nat) (J : Wd) (h : Nat) : Wd := fl2 (fl2 J 1 2 (fun i => J 43 (b + 10 + i)) (fun i => J 43 (b + 74 + i)) h) 3 4 (fun i => J 43 (b + 138 + i)) (fun i => J 43 (b + 202 + i)) h
theorem pbA_s {b : Nat} {J : Wd} {h : Nat} {v1 v2 v3 v4 : Int32} (h1 : v1 = J 43 (b + 10 + h)) (h2 : v2 = J 43 (b + 74 + h)) (h3 : v3 = J 43 (b + 138 + h)) (h4 : v4 = J 43 (b + 202 + h)) : ist (ist (ist (ist (pbA b J h) 1 h v1) 2 h v2) 3 h v3) 4 h v4 = pbA b J (h + 1) := by
  have e : ∀ (W : Wd) (f3 f4 : Nat → Int32) (k : Nat) (v : Int32), k ≠ 3 → k ≠ 4 → ist (rset (rset W 3 f3) 4 f4) k h v = rset (rset (ist W k h v) 3 f3) 4 f4 := by
    intro W f3 f4 k v a3 a4
    unfold ist
    rw [rset_comm (Ne.symm a4), rset_comm (Ne.symm a3), rset_ne a4, rset_ne a3]
  unfold pbA
  have e2 : ∀ (W : Wd) (f3 f4 : Nat → Int32) (m : Nat) (k : Nat) (v : Int32), k ≠ 3 → k ≠ 4 → ist (fl2 W 3 4 f3 f4 m) k h v = fl2 (ist W k h v) 3 4 f3 f4 m := by
    intro W f3 f4 m k v a3 a4
    unfold fl2
    rw [e _ _ _ _ _ a3 a4, ist_ne (Ne.symm a3), ist_ne (Ne.symm a4)]
  rw [e2 _ _ _ _ _ _ (by decide) (by decide), e2 _ _ _ _ _ _ (by decide) (by decide), fl2_s (f1 := fun i => J 43 (b + 10 + i)) (f2 := fun i => J 43 (b + 74 + i)) (by decide) h1 h2, fl2_s (f1 := fun i => J 43 (b + 138 + i)) (f2 := fun i => J 43 (b + 202 + i)) (by decide) h3 h4]
theorem pbA_0 {b : Nat} {J : Wd} : pbA b J 0 = J := by unfold pbA; rw [fl2_0, fl2_0]
theorem pbA_fr {b : Nat} {J : Wd} {h a : Nat} (h1 : a ≠ 1) (h2 : a ≠ 2) (h3 : a ≠ 3) (h4 : a ≠ 4) : pbA b J h a = J a := by unfold pbA; rw [fl2_fr h3 h4, fl2_fr h1 h2]
theorem pbB_fr {b : Nat} {fh : Int32} {J : Wd} {h a : Nat} (h1 : a ≠ 13) (h2 : a ≠ 16) : pbB b fh J h a = J a := fl2_fr h1 h2
theorem pbC_fr {b : Nat} {fp : Int32} {J : Wd} {h a : Nat} (h1 : a ≠ 15) : pbC b fp J h a = J a := rset_ne h1
theorem pbD_fr {b : Nat} {J : Wd} {h a : Nat} (h1 : a ≠ 8) (h2 : a ≠ 9) : pbD b J h a = J a := fl2_fr h1 h2
theorem pbC_0 {b : Nat} {fp : Int32} {J : Wd} : pbC b fp J 0 = J := by unfold pbC; rw [fil_0, rset_id]
def pbZ (b : Nat) (J : Wd) : Wd := ist (ist (ist J 0 0 (J 43 b)) 0 1 (J 43 (b + 1))) 0 2 (J 43 (b + 2))
def putW (b : Nat) (fh fp : Int32) (N P : Nat) (J : Wd) : Wd := pbD b (pbC b fp (pbB b fh (pbA b (pbZ b J) 64) N) P) 4
def tX11_putBack : List (Nat × Instr × Nat) := [(0, .aload_n 0, 1), (1, .aload_n 0, 1), (2, .getfield 221, 3), (5, .iload_n 1, 1), (6, .iaload, 1), (7, .putfield 13, 3), (10, .aload_n 0, 1), (11, .aload_n 0, 1), (12, .getfield 221, 3), (15, .iload_n 1, 1), (16, .iconst 1, 1), (17, .iadd, 1), (18, .iaload, 1), (19, .putfield 17, 3), (22, .aload_n 0, 1), (23, .aload_n 0, 1), (24, .getfield 221, 3), (27, .iload_n 1, 1), (28, .iconst 2, 1), (29, .iadd, 1), (30, .iaload, 1), (31, .putfield 20, 3), (34, .iconst 0, 1), (35, .istore 4, 2), (37, .iload 4, 2), (39, .bipush 64, 2), (41, .if_icmp .ge 87, 3), (44, .aload_n 0, 1), (45, .getfield 29, 3), (48, .iload 4, 2), (50, .aload_n 0, 1), (51, .getfield 221, 3), (54, .iload_n 1, 1), (55, .bipush 10, 2), (57, .iadd, 1), (58, .iload 4, 2), (60, .iadd, 1), (61, .iaload, 1), (62, .iastore, 1), (63, .aload_n 0, 1), (64, .getfield 33, 3), (67, .iload 4, 2), (69, .aload_n 0, 1), (70, .getfield 221, 3), (73, .iload_n 1, 1), (74, .bipush 74, 2), (76, .iadd, 1), (77, .iload 4, 2), (79, .iadd, 1), (80, .iaload, 1), (81, .iastore, 1), (82, .aload_n 0, 1), (83, .getfield 36, 3), (86, .iload 4, 2), (88, .aload_n 0, 1), (89, .getfield 221, 3), (92, .iload_n 1, 1), (93, .sipush 138, 3), (96, .iadd, 1), (97, .iload 4, 2), (99, .iadd, 1), (100, .iaload, 1), (101, .iastore, 1), (102, .aload_n 0, 1), (103, .getfield 39, 3), (106, .iload 4, 2), (108, .aload_n 0, 1), (109, .getfield 221, 3), (112, .iload_n 1, 1), (113, .sipush 202, 3), (116, .iadd, 1), (117, .iload 4, 2), (119, .iadd, 1), (120, .iaload, 1), (121, .iastore, 1), (122, .iinc 4 1, 3), (125, .goto (-88), 3), (128, .iconst 0, 1), (129, .istore 4, 2), (131, .iload 4, 2), (133, .aload_n 0, 1), (134, .getfield 23, 3), (137, .if_icmp .ge 74, 3), (140, .aload_n 0, 1), (141, .getfield 66, 3), (144, .iload 4, 2), (146, .iload 4, 2), (148, .iload_n 2, 1), (149, .if_icmp .ge 19, 3), (152, .aload_n 0, 1), (153, .getfield 221, 3), (156, .iload_n 1, 1), (157, .sipush 266, 3), (160, .iadd, 1), (161, .iload 4, 2), (163, .iadd, 1), (164, .iaload, 1), (165, .goto 4, 3), (168, .iconst (-1), 1), (169, .iastore, 1), (170, .aload_n 0, 1), (171, .getfield 75, 3), (174, .iload 4, 2), (176, .iload 4, 2), (178, .iload_n 2, 1), (179, .if_icmp .ge 24, 3), (182, .aload_n 0, 1), (183, .getfield 221, 3), (186, .iload_n 1, 1), (187, .sipush 280, 3), (190, .iadd, 1), (191, .iload 4, 2), (193, .iadd, 1), (194, .iaload, 1), (195, .iconst 1, 1), (196, .if_icmp .ne 7, 3), (199, .iconst 1, 1), (200, .goto 4, 3), (203, .iconst 0, 1), (204, .bastore, 1), (205, .iinc 4 1, 3), (208, .goto (-77), 3), (211, .iconst 0, 1), (212, .istore 4, 2), (214, .iload 4, 2), (216, .aload_n 0, 1), (217, .getfield 26, 3), (220, .if_icmp .ge 39, 3), (223, .aload_n 0, 1), (224, .getfield 72, 3), (227, .iload 4, 2), (229, .iload 4, 2), (231, .iload_n 3, 1), (232, .if_icmp .ge 19, 3), (235, .aload_n 0, 1), (236, .getfield 221, 3), (239, .iload_n 1, 1), (240, .sipush 294, 3), (243, .iadd, 1), (244, .iload 4, 2), (246, .iadd, 1), (247, .iaload, 1), (248, .goto 4, 3), (251, .iconst 0, 1), (252, .iastore, 1), (253, .iinc 4 1, 3), (256, .goto (-42), 3), (259, .iconst 0, 1), (260, .istore 4, 2), (262, .iload 4, 2), (264, .iconst 4, 1), (265, .if_icmp .ge 49, 3), (268, .aload_n 0, 1), (269, .getfield 51, 3), (272, .iload 4, 2), (274, .aload_n 0, 1), (275, .getfield 221, 3), (278, .iload_n 1, 1), (279, .sipush 300, 3), (282, .iadd, 1), (283, .iload 4, 2), (285, .iadd, 1), (286, .iaload, 1), (287, .iastore, 1), (288, .aload_n 0, 1), (289, .getfield 54, 3), (292, .iload 4, 2), (294, .aload_n 0, 1), (295, .getfield 221, 3), (298, .iload_n 1, 1), (299, .sipush 304, 3), (302, .iadd, 1), (303, .iload 4, 2), (305, .iadd, 1), (306, .iaload, 1), (307, .iastore, 1), (308, .iinc 4 1, 3), (311, .goto (-49), 3), (314, .return_, 1)]
theorem dtX11_putBack : dec_ok mX11_putBack.2.1 tX11_putBack = true := by decide +kernel
set_option maxHeartbeats 4000000 in
theorem p262 {J : Wd} {b : Nat} {fh fp : Int32} (hb : b ≤ 310) : ∀ (n h : Nat) (x4 : Int32) (I2 : Wd), h ≤ 4 → 4 < h + n → x4 = nI h → I2 = (pbD b J h) → Bd SyM mX11_putBack 0 262 [(4, .int x4), (0, .ref 0), (1, .int (nI b)), (2, .int fh), (3, .int fp)] [] I2 none (pbD b J 4) := by
  intro n
  induction n with
  | zero => intro h x4 I2 h1 h2; omega
  | succ n ih =>
    intro h x4 I2 h1 h2 e4 eW
    subst e4; subst eW
    refine b_iload (pc := 262) (i := 4) (dd dtX11_putBack 149 rfl) rfl ?_
    refine b_ic4 (pc := 264) (dd dtX11_putBack 150 rfl) ?_
    refine b_icmpL_ge (pc := 265) (tgt := 314) (dd dtX11_putBack 151 rfl) (by decide) (fun h265 => ?_) (fun h265 => ?_)
    · rw [show (4 : Int32) = nI 4 from rfl] at h265
      have he : h = 4 := Nat.le_antisymm h1 (ge_n h265 (by omega))
      subst he
      exact b_eq (b_vret (dd dtX11_putBack 178 rfl) rfl) rfl rfl
    · rw [show (4 : Int32) = nI 4 from rfl] at h265
      have hlt : h < 4 := lt_n h265 (by omega) (by omega)
      refine b_aload_n (pc := 268) (i := 0) (dd dtX11_putBack 152 rfl) rfl rfl ?_
      refine b_geta (pc := 269) (dd dtX11_putBack 153 rfl) fwX11_51 pM_0 rM_0_12 ?_
      refine b_iload (pc := 272) (i := 4) (dd dtX11_putBack 154 rfl) rfl ?_
      refine b_aload_n (pc := 274) (i := 0) (dd dtX11_putBack 155 rfl) rfl rfl ?_
      refine b_geta (pc := 275) (dd dtX11_putBack 156 rfl) fwX11_221 pM_0 rM_0_68 ?_
      refine b_iload_n (pc := 278) (i := 1) (dd dtX11_putBack 157 rfl) rfl rfl ?_
      refine b_sipush (pc := 279) (v := 300) (dd dtX11_putBack 158 rfl) (by decide) ?_
      refine b_iadd (pc := 282) (dd dtX11_putBack 159 rfl) ?_
      refine b_iload (pc := 283) (i := 4) (dd dtX11_putBack 160 rfl) rfl ?_
      refine b_iadd (pc := 285) (dd dtX11_putBack 161 rfl) ?_
      refine b_iald (pc := 286) (dd dtX11_putBack 162 rfl) pM_43 (vk (show (300 : Int32) = nI 300 from rfl) (by omega)) ?_
      refine b_iast (pc := 287) (dd dtX11_putBack 163 rfl) pM_8 (vpn rfl (show h < 4 by omega) (by decide)) ?_
      refine b_aload_n (pc := 288) (i := 0) (dd dtX11_putBack 164 rfl) rfl rfl ?_
      refine b_geta (pc := 289) (dd dtX11_putBack 165 rfl) fwX11_54 pM_0 rM_0_13 ?_
      refine b_iload (pc := 292) (i := 4) (dd dtX11_putBack 166 rfl) rfl ?_
      refine b_aload_n (pc := 294) (i := 0) (dd dtX11_putBack 167 rfl) rfl rfl ?_
      refine b_geta (pc := 295) (dd dtX11_putBack 168 rfl) fwX11_221 pM_0 rM_0_68 ?_
      refine b_iload_n (pc := 298) (i := 1) (dd dtX11_putBack 169 rfl) rfl rfl ?_
      refine b_sipush (pc := 299) (v := 304) (dd dtX11_putBack 170 rfl) (by decide) ?_
      refine b_iadd (pc := 302) (dd dtX11_putBack 171 rfl) ?_
      refine b_iload (pc := 303) (i := 4) (dd dtX11_putBack 172 rfl) rfl ?_
      refine b_iadd (pc := 305) (dd dtX11_putBack 173 rfl) ?_
      refine b_iald (pc := 306) (dd dtX11_putBack 174 rfl) pM_43 (vk (show (304 : Int32) = nI 304 from rfl) (by omega)) ?_
      refine b_iast (pc := 307) (dd dtX11_putBack 175 rfl) pM_9 (vpn rfl (show h < 4 by omega) (by decide)) ?_
      refine b_iinc1 (pc := 308) (i := 4) (lv' := [(4, _), (0, _), (1, _), (2, _), (3, _)]) (dd dtX11_putBack 176 rfl) rfl (Nat.le_of_ble_eq_true rfl) rfl ?_
      refine b_goto (pc := 311) (tgt := 262) (dd dtX11_putBack 177 rfl) (by decide) ?_
      rw [nI_1]
      refine ih (h + 1) _ _ hlt (by omega) rfl ?_
      · simp (disch := decide) only [ist_ne, pbD_fr, nI_clamp (show h < 2 ^ 31 by omega), ck (show (300 : Int32) = nI 300 from rfl) (show b + 300 + h < 620 by omega), ck (show (304 : Int32) = nI 304 from rfl) (show b + 304 + h < 620 by omega)]
        exact fl2_s (by decide) rfl rfl
set_option maxHeartbeats 4000000 in
theorem p214 {J : Wd} {b : Nat} {fh fp : Int32} (hb : b ≤ 310) {P : Nat} (hP : J 0 4 = nI P) (hP2 : P ≤ 6) : ∀ (n h : Nat) (x4 : Int32) (I2 : Wd), h ≤ P → P < h + n → x4 = nI h → I2 = (pbC b fp J h) → Bd SyM mX11_putBack 0 214 [(4, .int x4), (0, .ref 0), (1, .int (nI b)), (2, .int fh), (3, .int fp)] [] I2 none (pbD b (pbC b fp J P) 4) := by
  intro n
  induction n with
  | zero => intro h x4 I2 h1 h2; omega
  | succ n ih =>
    intro h x4 I2 h1 h2 e4 eW
    subst e4; subst eW
    have f0 : pbC b fp J h 0 = J 0 := pbC_fr (by decide)
    refine b_iload (pc := 214) (i := 4) (dd dtX11_putBack 124 rfl) rfl ?_
    refine b_aload_n (pc := 216) (i := 0) (dd dtX11_putBack 125 rfl) rfl rfl ?_
    refine b_geti (pc := 217) (dd dtX11_putBack 126 rfl) fwX11_26 pM_0 ?_
    refine b_icmpL_ge (pc := 220) (tgt := 259) (dd dtX11_putBack 127 rfl) (by decide) (fun h220 => ?_) (fun h220 => ?_)
    · rw [f0, hP] at h220
      have he : h = P := Nat.le_antisymm h1 (ge_n h220 (by omega))
      subst he
      refine b_ic0 (pc := 259) (dd dtX11_putBack 147 rfl) ?_
      refine b_istore (pc := 260) (i := 4) (lv' := [(4, _), (0, _), (1, _), (2, _), (3, _)]) (dd dtX11_putBack 148 rfl) (Nat.le_of_ble_eq_true rfl) rfl ?_
      exact p262 hb 5 0 _ _ (Nat.zero_le _) (by omega) rfl (by unfold pbD; rw [fl2_0])
    · rw [f0, hP] at h220
      have hlt : h < P := lt_n h220 (by omega) (by omega)
      refine b_aload_n (pc := 223) (i := 0) (dd dtX11_putBack 128 rfl) rfl rfl ?_
      refine b_geta (pc := 224) (dd dtX11_putBack 129 rfl) fwX11_72 pM_0 rM_0_19 ?_
      refine b_iload (pc := 227) (i := 4) (dd dtX11_putBack 130 rfl) rfl ?_
      refine b_iload (pc := 229) (i := 4) (dd dtX11_putBack 131 rfl) rfl ?_
      refine b_iload_n (pc := 231) (i := 3) (dd dtX11_putBack 132 rfl) rfl rfl ?_
      refine b_icmpL_ge (pc := 232) (tgt := 251) (dd dtX11_putBack 133 rfl) (by decide) (fun h232 => ?_) (fun h232 => ?_)
      · refine b_ic0 (pc := 251) (dd dtX11_putBack 143 rfl) ?_
        refine b_iast (pc := 252) (dd dtX11_putBack 144 rfl) pM_15 (vpn rfl (show h < 6 by omega) (by decide)) ?_
        refine b_iinc1 (pc := 253) (i := 4) (lv' := [(4, _), (0, _), (1, _), (2, _), (3, _)]) (dd dtX11_putBack 145 rfl) rfl (Nat.le_of_ble_eq_true rfl) rfl ?_
        refine b_goto (pc := 256) (tgt := 214) (dd dtX11_putBack 146 rfl) (by decide) ?_
        rw [nI_1]
        refine ih (h + 1) _ _ hlt (by omega) rfl ?_
        · simp (disch := decide) only [pbC_fr, nI_clamp (show h < 2 ^ 31 by omega), ck (show (294 : Int32) = nI 294 from rfl) (show b + 294 + h < 620 by omega)]
          unfold pbC
          rw [ist_rset]
          congr 1
          refine fil_s ?_
          first | exact (if_pos h232).symm | exact (if_neg h232).symm
      · refine b_aload_n (pc := 235) (i := 0) (dd dtX11_putBack 134 rfl) rfl rfl ?_
        refine b_geta (pc := 236) (dd dtX11_putBack 135 rfl) fwX11_221 pM_0 rM_0_68 ?_
        refine b_iload_n (pc := 239) (i := 1) (dd dtX11_putBack 136 rfl) rfl rfl ?_
        refine b_sipush (pc := 240) (v := 294) (dd dtX11_putBack 137 rfl) (by decide) ?_
        refine b_iadd (pc := 243) (dd dtX11_putBack 138 rfl) ?_
        refine b_iload (pc := 244) (i := 4) (dd dtX11_putBack 139 rfl) rfl ?_
        refine b_iadd (pc := 246) (dd dtX11_putBack 140 rfl) ?_
        refine b_iald (pc := 247) (dd dtX11_putBack 141 rfl) pM_43 (vk (show (294 : Int32) = nI 294 from rfl) (by omega)) ?_
        refine b_goto (pc := 248) (tgt := 252) (dd dtX11_putBack 142 rfl) (by decide) ?_
        refine b_iast (pc := 252) (dd dtX11_putBack 144 rfl) pM_15 (vpn rfl (show h < 6 by omega) (by decide)) ?_
        refine b_iinc1 (pc := 253) (i := 4) (lv' := [(4, _), (0, _), (1, _), (2, _), (3, _)]) (dd dtX11_putBack 145 rfl) rfl (Nat.le_of_ble_eq_true rfl) rfl ?_
        refine b_goto (pc := 256) (tgt := 214) (dd dtX11_putBack 146 rfl) (by decide) ?_
        rw [nI_1]
        refine ih (h + 1) _ _ hlt (by omega) rfl ?_
        · simp (disch := decide) only [pbC_fr, nI_clamp (show h < 2 ^ 31 by omega), ck (show (294 : Int32) = nI 294 from rfl) (show b + 294 + h < 620 by omega)]
          unfold pbC
          rw [ist_rset]
          congr 1
          refine fil_s ?_
          first | exact (if_pos h232).symm | exact (if_neg h232).symm
set_option maxHeartbeats 4000000 in
theorem p131 {J : Wd} {b : Nat} {fh fp : Int32} (hb : b ≤ 310) {N P : Nat} (hN : J 0 3 = nI N) (hN2 : N ≤ 14) (hP : J 0 4 = nI P) (hP2 : P ≤ 6) : ∀ (n h : Nat) (x4 : Int32) (I2 : Wd), h ≤ N → N < h + n → x4 = nI h → I2 = (pbB b fh J h) → Bd SyM mX11_putBack 0 131 [(4, .int x4), (0, .ref 0), (1, .int (nI b)), (2, .int fh), (3, .int fp)] [] I2 none (pbD b (pbC b fp (pbB b fh J N) P) 4) := by
  intro n
  induction n with
  | zero => intro h x4 I2 h1 h2; omega
  | succ n ih =>
    intro h x4 I2 h1 h2 e4 eW
    subst e4; subst eW
    have f0 : pbB b fh J h 0 = J 0 := pbB_fr (by decide) (by decide)
    refine b_iload (pc := 131) (i := 4) (dd dtX11_putBack 79 rfl) rfl ?_
    refine b_aload_n (pc := 133) (i := 0) (dd dtX11_putBack 80 rfl) rfl rfl ?_
    refine b_geti (pc := 134) (dd dtX11_putBack 81 rfl) fwX11_23 pM_0 ?_
    refine b_icmpL_ge (pc := 137) (tgt := 211) (dd dtX11_putBack 82 rfl) (by decide) (fun h137 => ?_) (fun h137 => ?_)
    · rw [f0, hN] at h137
      have he : h = N := Nat.le_antisymm h1 (ge_n h137 (by omega))
      subst he
      refine b_ic0 (pc := 211) (dd dtX11_putBack 122 rfl) ?_
      refine b_istore (pc := 212) (i := 4) (lv' := [(4, _), (0, _), (1, _), (2, _), (3, _)]) (dd dtX11_putBack 123 rfl) (Nat.le_of_ble_eq_true rfl) rfl ?_
      exact p214 hb (by rw [f0]; exact hP) hP2 (P + 1) 0 _ _ (Nat.zero_le _) (by omega) rfl pbC_0.symm
    · rw [f0, hN] at h137
      have hlt : h < N := lt_n h137 (by omega) (by omega)
      refine b_aload_n (pc := 140) (i := 0) (dd dtX11_putBack 83 rfl) rfl rfl ?_
      refine b_geta (pc := 141) (dd dtX11_putBack 84 rfl) fwX11_66 pM_0 rM_0_17 ?_
      refine b_iload (pc := 144) (i := 4) (dd dtX11_putBack 85 rfl) rfl ?_
      refine b_iload (pc := 146) (i := 4) (dd dtX11_putBack 86 rfl) rfl ?_
      refine b_iload_n (pc := 148) (i := 2) (dd dtX11_putBack 87 rfl) rfl rfl ?_
      refine b_icmpL_ge (pc := 149) (tgt := 168) (dd dtX11_putBack 88 rfl) (by decide) (fun h149 => ?_) (fun h149 => ?_)
      · refine b_icm1 (pc := 168) (dd dtX11_putBack 98 rfl) ?_
        refine b_iast (pc := 169) (dd dtX11_putBack 99 rfl) pM_13 (vpn rfl (show h < 14 by omega) (by decide)) ?_
        refine b_aload_n (pc := 170) (i := 0) (dd dtX11_putBack 100 rfl) rfl rfl ?_
        refine b_geta (pc := 171) (dd dtX11_putBack 101 rfl) fwX11_75 pM_0 rM_0_20 ?_
        refine b_iload (pc := 174) (i := 4) (dd dtX11_putBack 102 rfl) rfl ?_
        refine b_iload (pc := 176) (i := 4) (dd dtX11_putBack 103 rfl) rfl ?_
        refine b_iload_n (pc := 178) (i := 2) (dd dtX11_putBack 104 rfl) rfl rfl ?_
        refine b_icmpL_ge (pc := 179) (tgt := 203) (dd dtX11_putBack 105 rfl) (by decide) (fun h179 => ?_) (fun h179 => ?_)
        · refine b_ic0 (pc := 203) (dd dtX11_putBack 118 rfl) ?_
          refine b_zast (pc := 204) (dd dtX11_putBack 119 rfl) pM_16 (vpn rfl (show h < 14 by omega) (by decide)) (by first | exact Or.inl rfl | exact Or.inr rfl | rfl | decide) ?_
          refine b_iinc1 (pc := 205) (i := 4) (lv' := [(4, _), (0, _), (1, _), (2, _), (3, _)]) (dd dtX11_putBack 120 rfl) rfl (Nat.le_of_ble_eq_true rfl) rfl ?_
          refine b_goto (pc := 208) (tgt := 131) (dd dtX11_putBack 121 rfl) (by decide) ?_
          rw [nI_1]
          refine ih (h + 1) _ _ hlt (by omega) rfl ?_
          · try simp (disch := decide) only [ist_ne, pbB_fr, ck (show (280 : Int32) = nI 280 from rfl) (show b + 280 + h < 620 by omega)] at h196
            simp (disch := decide) only [ist_ne, pbB_fr, nI_clamp (show h < 2 ^ 31 by omega), ck (show (266 : Int32) = nI 266 from rfl) (show b + 266 + h < 620 by omega)]
            first
              | contradiction
              | exact fl2_s (by decide) (if_pos h149).symm (if_pos ⟨h149, h196⟩).symm
              | exact fl2_s (by decide) (if_pos h149).symm (if_neg (fun q => h196 q.2)).symm
              | exact fl2_s (by decide) (if_neg h149).symm (if_neg (fun q => h149 q.1)).symm
        · refine b_aload_n (pc := 182) (i := 0) (dd dtX11_putBack 106 rfl) rfl rfl ?_
          refine b_geta (pc := 183) (dd dtX11_putBack 107 rfl) fwX11_221 pM_0 rM_0_68 ?_
          refine b_iload_n (pc := 186) (i := 1) (dd dtX11_putBack 108 rfl) rfl rfl ?_
          refine b_sipush (pc := 187) (v := 280) (dd dtX11_putBack 109 rfl) (by decide) ?_
          refine b_iadd (pc := 190) (dd dtX11_putBack 110 rfl) ?_
          refine b_iload (pc := 191) (i := 4) (dd dtX11_putBack 111 rfl) rfl ?_
          refine b_iadd (pc := 193) (dd dtX11_putBack 112 rfl) ?_
          refine b_iald (pc := 194) (dd dtX11_putBack 113 rfl) pM_43 (by first | exact (vk (show (280 : Int32) = nI 280 from rfl) (by omega))) ?_
          refine b_ic1 (pc := 195) (dd dtX11_putBack 114 rfl) ?_
          refine b_icmp_ne (pc := 196) (tgt := 203) (dd dtX11_putBack 115 rfl) (by decide) (fun h196 => ?_) (fun h196 => ?_)
          · refine b_ic0 (pc := 203) (dd dtX11_putBack 118 rfl) ?_
            refine b_zast (pc := 204) (dd dtX11_putBack 119 rfl) pM_16 (vpn rfl (show h < 14 by omega) (by decide)) (by first | exact Or.inl rfl | exact Or.inr rfl | rfl | decide) ?_
            refine b_iinc1 (pc := 205) (i := 4) (lv' := [(4, _), (0, _), (1, _), (2, _), (3, _)]) (dd dtX11_putBack 120 rfl) rfl (Nat.le_of_ble_eq_true rfl) rfl ?_
            refine b_goto (pc := 208) (tgt := 131) (dd dtX11_putBack 121 rfl) (by decide) ?_
            rw [nI_1]
            refine ih (h + 1) _ _ hlt (by omega) rfl ?_
            · try simp (disch := decide) only [ist_ne, pbB_fr, ck (show (280 : Int32) = nI 280 from rfl) (show b + 280 + h < 620 by omega)] at h196
              simp (disch := decide) only [ist_ne, pbB_fr, nI_clamp (show h < 2 ^ 31 by omega), ck (show (266 : Int32) = nI 266 from rfl) (show b + 266 + h < 620 by omega)]
              first
                | contradiction
                | exact fl2_s (by decide) (if_pos h149).symm (if_pos ⟨h149, h196⟩).symm
                | exact fl2_s (by decide) (if_pos h149).symm (if_neg (fun q => h196 q.2)).symm
                | exact fl2_s (by decide) (if_neg h149).symm (if_neg (fun q => h149 q.1)).symm
          · refine b_ic1 (pc := 199) (dd dtX11_putBack 116 rfl) ?_
            refine b_goto (pc := 200) (tgt := 204) (dd dtX11_putBack 117 rfl) (by decide) ?_
            refine b_zast (pc := 204) (dd dtX11_putBack 119 rfl) pM_16 (vpn rfl (show h < 14 by omega) (by decide)) (by first | exact Or.inl rfl | exact Or.inr rfl | rfl | decide) ?_
            refine b_iinc1 (pc := 205) (i := 4) (lv' := [(4, _), (0, _), (1, _), (2, _), (3, _)]) (dd dtX11_putBack 120 rfl) rfl (Nat.le_of_ble_eq_true rfl) rfl ?_
            refine b_goto (pc := 208) (tgt := 131) (dd dtX11_putBack 121 rfl) (by decide) ?_
            rw [nI_1]
            refine ih (h + 1) _ _ hlt (by omega) rfl ?_
            · try simp (disch := decide) only [ist_ne, pbB_fr, ck (show (280 : Int32) = nI 280 from rfl) (show b + 280 + h < 620 by omega)] at h196
              simp (disch := decide) only [ist_ne, pbB_fr, nI_clamp (show h < 2 ^ 31 by omega), ck (show (266 : Int32) = nI 266 from rfl) (show b + 266 + h < 620 by omega)]
              first
                | contradiction
                | exact fl2_s (by decide) (if_pos h149).symm (if_pos ⟨h149, h196⟩).symm
                | exact fl2_s (by decide) (if_pos h149).symm (if_neg (fun q => h196 q.2)).symm
                | exact fl2_s (by decide) (if_neg h149).symm (if_neg (fun q => h149 q.1)).symm
      · refine b_aload_n (pc := 152) (i := 0) (dd dtX11_putBack 89 rfl) rfl rfl ?_
        refine b_geta (pc := 153) (dd dtX11_putBack 90 rfl) fwX11_221 pM_0 rM_0_68 ?_
        refine b_iload_n (pc := 156) (i := 1) (dd dtX11_putBack 91 rfl) rfl rfl ?_
        refine b_sipush (pc := 157) (v := 266) (dd dtX11_putBack 92 rfl) (by decide) ?_
        refine b_iadd (pc := 160) (dd dtX11_putBack 93 rfl) ?_
        refine b_iload (pc := 161) (i := 4) (dd dtX11_putBack 94 rfl) rfl ?_
        refine b_iadd (pc := 163) (dd dtX11_putBack 95 rfl) ?_
        refine b_iald (pc := 164) (dd dtX11_putBack 96 rfl) pM_43 (vk (show (266 : Int32) = nI 266 from rfl) (by omega)) ?_
        refine b_goto (pc := 165) (tgt := 169) (dd dtX11_putBack 97 rfl) (by decide) ?_
        refine b_iast (pc := 169) (dd dtX11_putBack 99 rfl) pM_13 (vpn rfl (show h < 14 by omega) (by decide)) ?_
        refine b_aload_n (pc := 170) (i := 0) (dd dtX11_putBack 100 rfl) rfl rfl ?_
        refine b_geta (pc := 171) (dd dtX11_putBack 101 rfl) fwX11_75 pM_0 rM_0_20 ?_
        refine b_iload (pc := 174) (i := 4) (dd dtX11_putBack 102 rfl) rfl ?_
        refine b_iload (pc := 176) (i := 4) (dd dtX11_putBack 103 rfl) rfl ?_
        refine b_iload_n (pc := 178) (i := 2) (dd dtX11_putBack 104 rfl) rfl rfl ?_
        refine b_icmpL_ge (pc := 179) (tgt := 203) (dd dtX11_putBack 105 rfl) (by decide) (fun h179 => ?_) (fun h179 => ?_)
        · refine b_ic0 (pc := 203) (dd dtX11_putBack 118 rfl) ?_
          refine b_zast (pc := 204) (dd dtX11_putBack 119 rfl) pM_16 (vpn rfl (show h < 14 by omega) (by decide)) (by first | exact Or.inl rfl | exact Or.inr rfl | rfl | decide) ?_
          refine b_iinc1 (pc := 205) (i := 4) (lv' := [(4, _), (0, _), (1, _), (2, _), (3, _)]) (dd dtX11_putBack 120 rfl) rfl (Nat.le_of_ble_eq_true rfl) rfl ?_
          refine b_goto (pc := 208) (tgt := 131) (dd dtX11_putBack 121 rfl) (by decide) ?_
          rw [nI_1]
          refine ih (h + 1) _ _ hlt (by omega) rfl ?_
          · try simp (disch := decide) only [ist_ne, pbB_fr, ck (show (280 : Int32) = nI 280 from rfl) (show b + 280 + h < 620 by omega)] at h196
            simp (disch := decide) only [ist_ne, pbB_fr, nI_clamp (show h < 2 ^ 31 by omega), ck (show (266 : Int32) = nI 266 from rfl) (show b + 266 + h < 620 by omega)]
            first
              | contradiction
              | exact fl2_s (by decide) (if_pos h149).symm (if_pos ⟨h149, h196⟩).symm
              | exact fl2_s (by decide) (if_pos h149).symm (if_neg (fun q => h196 q.2)).symm
              | exact fl2_s (by decide) (if_neg h149).symm (if_neg (fun q => h149 q.1)).symm
        · refine b_aload_n (pc := 182) (i := 0) (dd dtX11_putBack 106 rfl) rfl rfl ?_
          refine b_geta (pc := 183) (dd dtX11_putBack 107 rfl) fwX11_221 pM_0 rM_0_68 ?_
          refine b_iload_n (pc := 186) (i := 1) (dd dtX11_putBack 108 rfl) rfl rfl ?_
          refine b_sipush (pc := 187) (v := 280) (dd dtX11_putBack 109 rfl) (by decide) ?_
          refine b_iadd (pc := 190) (dd dtX11_putBack 110 rfl) ?_
          refine b_iload (pc := 191) (i := 4) (dd dtX11_putBack 111 rfl) rfl ?_
          refine b_iadd (pc := 193) (dd dtX11_putBack 112 rfl) ?_
          refine b_iald (pc := 194) (dd dtX11_putBack 113 rfl) pM_43 (by first | exact (vk (show (280 : Int32) = nI 280 from rfl) (by omega))) ?_
          refine b_ic1 (pc := 195) (dd dtX11_putBack 114 rfl) ?_
          refine b_icmp_ne (pc := 196) (tgt := 203) (dd dtX11_putBack 115 rfl) (by decide) (fun h196 => ?_) (fun h196 => ?_)
          · refine b_ic0 (pc := 203) (dd dtX11_putBack 118 rfl) ?_
            refine b_zast (pc := 204) (dd dtX11_putBack 119 rfl) pM_16 (vpn rfl (show h < 14 by omega) (by decide)) (by first | exact Or.inl rfl | exact Or.inr rfl | rfl | decide) ?_
            refine b_iinc1 (pc := 205) (i := 4) (lv' := [(4, _), (0, _), (1, _), (2, _), (3, _)]) (dd dtX11_putBack 120 rfl) rfl (Nat.le_of_ble_eq_true rfl) rfl ?_
            refine b_goto (pc := 208) (tgt := 131) (dd dtX11_putBack 121 rfl) (by decide) ?_
            rw [nI_1]
            refine ih (h + 1) _ _ hlt (by omega) rfl ?_
            · try simp (disch := decide) only [ist_ne, pbB_fr, ck (show (280 : Int32) = nI 280 from rfl) (show b + 280 + h < 620 by omega)] at h196
              simp (disch := decide) only [ist_ne, pbB_fr, nI_clamp (show h < 2 ^ 31 by omega), ck (show (266 : Int32) = nI 266 from rfl) (show b + 266 + h < 620 by omega)]
              first
                | contradiction
                | exact fl2_s (by decide) (if_pos h149).symm (if_pos ⟨h149, h196⟩).symm
                | exact fl2_s (by decide) (if_pos h149).symm (if_neg (fun q => h196 q.2)).symm
                | exact fl2_s (by decide) (if_neg h149).symm (if_neg (fun q => h149 q.1)).symm
          · refine b_ic1 (pc := 199) (dd dtX11_putBack 116 rfl) ?_
            refine b_goto (pc := 200) (tgt := 204) (dd dtX11_putBack 117 rfl) (by decide) ?_
            refine b_zast (pc := 204) (dd dtX11_putBack 119 rfl) pM_16 (vpn rfl (show h < 14 by omega) (by decide)) (by first | exact Or.inl rfl | exact Or.inr rfl | rfl | decide) ?_
            refine b_iinc1 (pc := 205) (i := 4) (lv' := [(4, _), (0, _), (1, _), (2, _), (3, _)]) (dd dtX11_putBack 120 rfl) rfl (Nat.le_of_ble_eq_true rfl) rfl ?_
            refine b_goto (pc := 208) (tgt := 131) (dd dtX11_putBack 121 rfl) (by decide) ?_
            rw [nI_1]
            refine ih (h + 1) _ _ hlt (by omega) rfl ?_
            · try simp (disch := decide) only [ist_ne, pbB_fr, ck (show (280 : Int32) = nI 280 from rfl) (show b + 280 + h < 620 by omega)] at h196
              simp (disch := decide) only [ist_ne, pbB_fr, nI_clamp (show h < 2 ^ 31 by omega), ck (show (266 : Int32) = nI 266 from rfl) (show b + 266 + h < 620 by omega)]
              first
                | contradiction
                | exact fl2_s (by decide) (if_pos h149).symm (if_pos ⟨h149, h196⟩).symm
                | exact fl2_s (by decide) (if_pos h149).symm (if_neg (fun q => h196 q.2)).symm
                | exact fl2_s (by decide) (if_neg h149).symm (if_neg (fun q => h149 q.1)).symm
set_option maxHeartbeats 4000000 in
theorem p37 {J : Wd} {b : Nat} {fh fp : Int32} (hb : b ≤ 310) {N P : Nat} (hN : J 0 3 = nI N) (hN2 : N ≤ 14) (hP : J 0 4 = nI P) (hP2 : P ≤ 6) : ∀ (n h : Nat) (x4 : Int32) (I2 : Wd), h ≤ 64 → 64 < h + n → x4 = nI h → I2 = (pbA b J h) → Bd SyM mX11_putBack 0 37 [(4, .int x4), (0, .ref 0), (1, .int (nI b)), (2, .int fh), (3, .int fp)] [] I2 none (pbD b (pbC b fp (pbB b fh (pbA b J 64) N) P) 4) := by
  intro n
  induction n with
  | zero => intro h x4 I2 h1 h2; omega
  | succ n ih =>
    intro h x4 I2 h1 h2 e4 eW
    subst e4; subst eW
    have f0 : pbA b J h 0 = J 0 := pbA_fr (by decide) (by decide) (by decide) (by decide)
    refine b_iload (pc := 37) (i := 4) (dd dtX11_putBack 24 rfl) rfl ?_
    refine b_bipush (pc := 39) (v := 64) (dd dtX11_putBack 25 rfl) (by decide) ?_
    refine b_icmpL_ge (pc := 41) (tgt := 128) (dd dtX11_putBack 26 rfl) (by decide) (fun h41 => ?_) (fun h41 => ?_)
    · rw [show (64 : Int32) = nI 64 from rfl] at h41
      have he : h = 64 := Nat.le_antisymm h1 (ge_n h41 (by omega))
      subst he
      refine b_ic0 (pc := 128) (dd dtX11_putBack 77 rfl) ?_
      refine b_istore (pc := 129) (i := 4) (lv' := [(4, _), (0, _), (1, _), (2, _), (3, _)]) (dd dtX11_putBack 78 rfl) (Nat.le_of_ble_eq_true rfl) rfl ?_
      exact p131 hb (by rw [f0]; exact hN) hN2 (by rw [f0]; exact hP) hP2 (N + 1) 0 _ _ (Nat.zero_le _) (by omega) rfl (by unfold pbB; rw [fl2_0])
    · rw [show (64 : Int32) = nI 64 from rfl] at h41
      have hlt : h < 64 := lt_n h41 (by omega) (by omega)
      refine b_aload_n (pc := 44) (i := 0) (dd dtX11_putBack 27 rfl) rfl rfl ?_
      refine b_geta (pc := 45) (dd dtX11_putBack 28 rfl) fwX11_29 pM_0 rM_0_5 ?_
      refine b_iload (pc := 48) (i := 4) (dd dtX11_putBack 29 rfl) rfl ?_
      refine b_aload_n (pc := 50) (i := 0) (dd dtX11_putBack 30 rfl) rfl rfl ?_
      refine b_geta (pc := 51) (dd dtX11_putBack 31 rfl) fwX11_221 pM_0 rM_0_68 ?_
      refine b_iload_n (pc := 54) (i := 1) (dd dtX11_putBack 32 rfl) rfl rfl ?_
      refine b_bipush (pc := 55) (v := 10) (dd dtX11_putBack 33 rfl) (by decide) ?_
      refine b_iadd (pc := 57) (dd dtX11_putBack 34 rfl) ?_
      refine b_iload (pc := 58) (i := 4) (dd dtX11_putBack 35 rfl) rfl ?_
      refine b_iadd (pc := 60) (dd dtX11_putBack 36 rfl) ?_
      refine b_iald (pc := 61) (dd dtX11_putBack 37 rfl) pM_43 (vk (show (10 : Int32) = nI 10 from rfl) (by omega)) ?_
      refine b_iast (pc := 62) (dd dtX11_putBack 38 rfl) pM_1 (vpn rfl (show h < 64 by omega) (by decide)) ?_
      refine b_aload_n (pc := 63) (i := 0) (dd dtX11_putBack 39 rfl) rfl rfl ?_
      refine b_geta (pc := 64) (dd dtX11_putBack 40 rfl) fwX11_33 pM_0 rM_0_6 ?_
      refine b_iload (pc := 67) (i := 4) (dd dtX11_putBack 41 rfl) rfl ?_
      refine b_aload_n (pc := 69) (i := 0) (dd dtX11_putBack 42 rfl) rfl rfl ?_
      refine b_geta (pc := 70) (dd dtX11_putBack 43 rfl) fwX11_221 pM_0 rM_0_68 ?_
      refine b_iload_n (pc := 73) (i := 1) (dd dtX11_putBack 44 rfl) rfl rfl ?_
      refine b_bipush (pc := 74) (v := 74) (dd dtX11_putBack 45 rfl) (by decide) ?_
      refine b_iadd (pc := 76) (dd dtX11_putBack 46 rfl) ?_
      refine b_iload (pc := 77) (i := 4) (dd dtX11_putBack 47 rfl) rfl ?_
      refine b_iadd (pc := 79) (dd dtX11_putBack 48 rfl) ?_
      refine b_iald (pc := 80) (dd dtX11_putBack 49 rfl) pM_43 (vk (show (74 : Int32) = nI 74 from rfl) (by omega)) ?_
      refine b_iast (pc := 81) (dd dtX11_putBack 50 rfl) pM_2 (vpn rfl (show h < 64 by omega) (by decide)) ?_
      refine b_aload_n (pc := 82) (i := 0) (dd dtX11_putBack 51 rfl) rfl rfl ?_
      refine b_geta (pc := 83) (dd dtX11_putBack 52 rfl) fwX11_36 pM_0 rM_0_7 ?_
      refine b_iload (pc := 86) (i := 4) (dd dtX11_putBack 53 rfl) rfl ?_
      refine b_aload_n (pc := 88) (i := 0) (dd dtX11_putBack 54 rfl) rfl rfl ?_
      refine b_geta (pc := 89) (dd dtX11_putBack 55 rfl) fwX11_221 pM_0 rM_0_68 ?_
      refine b_iload_n (pc := 92) (i := 1) (dd dtX11_putBack 56 rfl) rfl rfl ?_
      refine b_sipush (pc := 93) (v := 138) (dd dtX11_putBack 57 rfl) (by decide) ?_
      refine b_iadd (pc := 96) (dd dtX11_putBack 58 rfl) ?_
      refine b_iload (pc := 97) (i := 4) (dd dtX11_putBack 59 rfl) rfl ?_
      refine b_iadd (pc := 99) (dd dtX11_putBack 60 rfl) ?_
      refine b_iald (pc := 100) (dd dtX11_putBack 61 rfl) pM_43 (vk (show (138 : Int32) = nI 138 from rfl) (by omega)) ?_
      refine b_iast (pc := 101) (dd dtX11_putBack 62 rfl) pM_3 (vpn rfl (show h < 64 by omega) (by decide)) ?_
      refine b_aload_n (pc := 102) (i := 0) (dd dtX11_putBack 63 rfl) rfl rfl ?_
      refine b_geta (pc := 103) (dd dtX11_putBack 64 rfl) fwX11_39 pM_0 rM_0_8 ?_
      refine b_iload (pc := 106) (i := 4) (dd dtX11_putBack 65 rfl) rfl ?_
      refine b_aload_n (pc := 108) (i := 0) (dd dtX11_putBack 66 rfl) rfl rfl ?_
      refine b_geta (pc := 109) (dd dtX11_putBack 67 rfl) fwX11_221 pM_0 rM_0_68 ?_
      refine b_iload_n (pc := 112) (i := 1) (dd dtX11_putBack 68 rfl) rfl rfl ?_
      refine b_sipush (pc := 113) (v := 202) (dd dtX11_putBack 69 rfl) (by decide) ?_
      refine b_iadd (pc := 116) (dd dtX11_putBack 70 rfl) ?_
      refine b_iload (pc := 117) (i := 4) (dd dtX11_putBack 71 rfl) rfl ?_
      refine b_iadd (pc := 119) (dd dtX11_putBack 72 rfl) ?_
      refine b_iald (pc := 120) (dd dtX11_putBack 73 rfl) pM_43 (vk (show (202 : Int32) = nI 202 from rfl) (by omega)) ?_
      refine b_iast (pc := 121) (dd dtX11_putBack 74 rfl) pM_4 (vpn rfl (show h < 64 by omega) (by decide)) ?_
      refine b_iinc1 (pc := 122) (i := 4) (lv' := [(4, _), (0, _), (1, _), (2, _), (3, _)]) (dd dtX11_putBack 75 rfl) rfl (Nat.le_of_ble_eq_true rfl) rfl ?_
      refine b_goto (pc := 125) (tgt := 37) (dd dtX11_putBack 76 rfl) (by decide) ?_
      rw [nI_1]
      refine ih (h + 1) _ _ hlt (by omega) rfl ?_
      · simp (disch := decide) only [ist_ne, pbA_fr, nI_clamp (show h < 2 ^ 31 by omega), ck (show (10 : Int32) = nI 10 from rfl) (show b + 10 + h < 620 by omega), ck (show (74 : Int32) = nI 74 from rfl) (show b + 74 + h < 620 by omega), ck (show (138 : Int32) = nI 138 from rfl) (show b + 138 + h < 620 by omega), ck (show (202 : Int32) = nI 202 from rfl) (show b + 202 + h < 620 by omega)]
        exact pbA_s rfl rfl rfl rfl
set_option maxHeartbeats 4000000 in
theorem c_X11_putBack {J : Wd} {b : Nat} {fh fp : Int32} {N P : Nat} (hb : b ≤ 310) (hN : J 0 3 = nI N) (hN2 : N ≤ 14) (hP : J 0 4 = nI P) (hP2 : P ≤ 6) : Cal SyM mX11_putBack 0 [.ref 0, .int (nI b), .int fh, .int fp] J none (putW b fh fp N P J) := by
  refine Cal.of (by decide) (Nat.le_of_ble_eq_true rfl) ?_
  show Bd _ _ _ _ [(0, _), (1, _), (2, _), (3, _)] _ _ _ _
  refine b_aload_n (pc := 0) (i := 0) (dd dtX11_putBack 0 rfl) rfl rfl ?_
  refine b_aload_n (pc := 1) (i := 0) (dd dtX11_putBack 1 rfl) rfl rfl ?_
  refine b_geta (pc := 2) (dd dtX11_putBack 2 rfl) fwX11_221 pM_0 rM_0_68 ?_
  refine b_iload_n (pc := 5) (i := 1) (dd dtX11_putBack 3 rfl) rfl rfl ?_
  refine b_iald (pc := 6) (dd dtX11_putBack 4 rfl) pM_43 (vpn rfl (show b < 620 by omega) (by decide)) ?_
  refine b_puti (pc := 7) (dd dtX11_putBack 5 rfl) fwX11_13 pM_0 ?_
  refine b_aload_n (pc := 10) (i := 0) (dd dtX11_putBack 6 rfl) rfl rfl ?_
  refine b_aload_n (pc := 11) (i := 0) (dd dtX11_putBack 7 rfl) rfl rfl ?_
  refine b_geta (pc := 12) (dd dtX11_putBack 8 rfl) fwX11_221 pM_0 rM_0_68 ?_
  refine b_iload_n (pc := 15) (i := 1) (dd dtX11_putBack 9 rfl) rfl rfl ?_
  refine b_ic1 (pc := 16) (dd dtX11_putBack 10 rfl) ?_
  refine b_iadd (pc := 17) (dd dtX11_putBack 11 rfl) ?_
  refine b_iald (pc := 18) (dd dtX11_putBack 12 rfl) pM_43 (by rw [nI_b1]; exact vpn rfl (show b + 1 < 620 by omega) (by decide)) ?_
  refine b_puti (pc := 19) (dd dtX11_putBack 13 rfl) fwX11_17 pM_0 ?_
  refine b_aload_n (pc := 22) (i := 0) (dd dtX11_putBack 14 rfl) rfl rfl ?_
  refine b_aload_n (pc := 23) (i := 0) (dd dtX11_putBack 15 rfl) rfl rfl ?_
  refine b_geta (pc := 24) (dd dtX11_putBack 16 rfl) fwX11_221 pM_0 rM_0_68 ?_
  refine b_iload_n (pc := 27) (i := 1) (dd dtX11_putBack 17 rfl) rfl rfl ?_
  refine b_ic2 (pc := 28) (dd dtX11_putBack 18 rfl) ?_
  refine b_iadd (pc := 29) (dd dtX11_putBack 19 rfl) ?_
  refine b_iald (pc := 30) (dd dtX11_putBack 20 rfl) pM_43 (by rw [nI_b2]; exact vpn rfl (show b + 2 < 620 by omega) (by decide)) ?_
  refine b_puti (pc := 31) (dd dtX11_putBack 21 rfl) fwX11_20 pM_0 ?_
  refine b_ic0 (pc := 34) (dd dtX11_putBack 22 rfl) ?_
  refine b_istore (pc := 35) (i := 4) (lv' := [(4, _), (0, _), (1, _), (2, _), (3, _)]) (dd dtX11_putBack 23 rfl) (Nat.le_of_ble_eq_true rfl) rfl ?_
  simp (disch := decide) only [ist_ne, nI_b1, nI_b2, nI_clamp (show b < 2 ^ 31 by omega), nI_clamp (show b + 1 < 2 ^ 31 by omega), nI_clamp (show b + 2 < 2 ^ 31 by omega)]
  exact p37 (J := pbZ b J) hb (by unfold pbZ; simp (disch := decide) only [ist_eq, upd_ne]; exact hN) hN2 (by unfold pbZ; simp (disch := decide) only [ist_eq, upd_ne]; exact hP) hP2 65 0 _ _ (Nat.zero_le _) (by omega) rfl pbA_0.symm
def tX11_image : List (Nat × Instr × Nat) := [(0, .aload_n 0, 1), (1, .sipush 310, 3), (4, .invokevirtual 414, 3), (7, .aload_n 0, 1), (8, .aload_n 0, 1), (9, .getfield 23, 3), (12, .putfield 224, 3), (15, .aload_n 0, 1), (16, .aload_n 0, 1), (17, .getfield 26, 3), (20, .putfield 227, 3), (23, .aload_n 0, 1), (24, .iconst 1, 1), (25, .putfield 230, 3), (28, .aload_n 0, 1), (29, .getfield 13, 3), (32, .ireturn, 1)]
theorem dtX11_image : dec_ok mX11_image.2.1 tX11_image = true := by decide +kernel
set_option maxHeartbeats 4000000 in
theorem c_X11_image {J : Wd} : Cal SyM mX11_image 1 [.ref 0] J (some (.int (J 0 0))) (ist (ist (ist (keepW J 310) 0 69 (J 0 3)) 0 70 (J 0 4)) 0 71 1) := by
  refine Cal.of (by decide) (Nat.le_of_ble_eq_true rfl) ?_
  show Bd _ _ _ _ [(0, _)] _ _ _ _
  refine b_aload_n (pc := 0) (i := 0) (dd dtX11_image 0 rfl) rfl rfl ?_
  refine b_sipush (pc := 1) (v := 310) (dd dtX11_image 1 rfl) (by decide) ?_
  refine b_invV (pc := 4) (dd dtX11_image 2 rfl) mlX11_414 mvX11_keep miX11_keep (c_X11_keep (b := 310) (by decide)) oM_0 rfl rfl (by decide) (Nat.le_of_ble_eq_true rfl) ?_
  refine b_aload_n (pc := 7) (i := 0) (dd dtX11_image 3 rfl) rfl rfl ?_
  refine b_aload_n (pc := 8) (i := 0) (dd dtX11_image 4 rfl) rfl rfl ?_
  refine b_geti (pc := 9) (dd dtX11_image 5 rfl) fwX11_23 pM_0 ?_
  refine b_puti (pc := 12) (dd dtX11_image 6 rfl) fwX11_224 pM_0 ?_
  refine b_aload_n (pc := 15) (i := 0) (dd dtX11_image 7 rfl) rfl rfl ?_
  refine b_aload_n (pc := 16) (i := 0) (dd dtX11_image 8 rfl) rfl rfl ?_
  refine b_geti (pc := 17) (dd dtX11_image 9 rfl) fwX11_26 pM_0 ?_
  refine b_puti (pc := 20) (dd dtX11_image 10 rfl) fwX11_227 pM_0 ?_
  refine b_aload_n (pc := 23) (i := 0) (dd dtX11_image 11 rfl) rfl rfl ?_
  refine b_ic1 (pc := 24) (dd dtX11_image 12 rfl) ?_
  refine b_put1 (pc := 25) (dd dtX11_image 13 rfl) fwX11_230 pM_0 ?_
  refine b_aload_n (pc := 28) (i := 0) (dd dtX11_image 14 rfl) rfl rfl ?_
  refine b_geti (pc := 29) (dd dtX11_image 15 rfl) fwX11_13 pM_0 ?_
  refine b_eq (b_iret (dd dtX11_image 16 rfl) rfl) ?_ ?_
  · simp (disch := decide) only [ist_eq, upd_ne, keepW_fr]
  · simp (disch := decide) only [ist_eq, upd_ne, keepW_fr]
def tX11_back : List (Nat × Instr × Nat) := [(0, .aload_n 0, 1), (1, .getfield 230, 3), (4, .ifCond .ne 6, 3), (7, .bipush (-3), 2), (9, .ireturn, 1), (10, .aload_n 0, 1), (11, .sipush 310, 3), (14, .aload_n 0, 1), (15, .getfield 224, 3), (18, .aload_n 0, 1), (19, .getfield 227, 3), (22, .invokevirtual 417, 3), (25, .aload_n 0, 1), (26, .getfield 13, 3), (29, .ireturn, 1)]
theorem dtX11_back : dec_ok mX11_back.2.1 tX11_back = true := by decide +kernel
set_option maxHeartbeats 4000000 in
theorem c_X11_back {J : Wd} {N P : Nat} (hN : J 0 3 = nI N) (hN2 : N ≤ 14) (hP : J 0 4 = nI P) (hP2 : P ≤ 6) : Cal SyM mX11_back 1 [.ref 0] J (some (.int (if J 0 71 = 0 then -3 else putW 310 (J 0 69) (J 0 70) N P J 0 0))) (if J 0 71 = 0 then J else putW 310 (J 0 69) (J 0 70) N P J) := by
  refine Cal.of (by decide) (Nat.le_of_ble_eq_true rfl) ?_
  show Bd _ _ _ _ [(0, _)] _ _ _ _
  refine b_aload_n (pc := 0) (i := 0) (dd dtX11_back 0 rfl) rfl rfl ?_
  refine b_geti (pc := 1) (dd dtX11_back 1 rfl) fwX11_230 pM_0 ?_
  refine b_if_ne (pc := 4) (tgt := 10) (dd dtX11_back 2 rfl) (by decide) (fun h4 => ?_) (fun h4 => ?_)
  · refine b_aload_n (pc := 10) (i := 0) (dd dtX11_back 5 rfl) rfl rfl ?_
    refine b_sipush (pc := 11) (v := 310) (dd dtX11_back 6 rfl) (by decide) ?_
    refine b_aload_n (pc := 14) (i := 0) (dd dtX11_back 7 rfl) rfl rfl ?_
    refine b_geti (pc := 15) (dd dtX11_back 8 rfl) fwX11_224 pM_0 ?_
    refine b_aload_n (pc := 18) (i := 0) (dd dtX11_back 9 rfl) rfl rfl ?_
    refine b_geti (pc := 19) (dd dtX11_back 10 rfl) fwX11_227 pM_0 ?_
    refine b_invV (pc := 22) (dd dtX11_back 11 rfl) mlX11_417 mvX11_putBack miX11_putBack (c_X11_putBack (b := 310) (by decide) hN hN2 hP hP2) oM_0 rfl rfl (by decide) (Nat.le_of_ble_eq_true rfl) ?_
    refine b_aload_n (pc := 25) (i := 0) (dd dtX11_back 12 rfl) rfl rfl ?_
    refine b_geti (pc := 26) (dd dtX11_back 13 rfl) fwX11_13 pM_0 ?_
    refine b_eq (b_iret (dd dtX11_back 14 rfl) rfl) ?_ ?_
    · (try clear hN hP); simp [*]
    · (try clear hN hP); simp [*]
  · refine b_bipush (pc := 7) (v := -3) (dd dtX11_back 3 rfl) (by decide) ?_
    refine b_eq (b_iret (dd dtX11_back 4 rfl) rfl) ?_ ?_
    · (try clear hN hP); simp [*]
    · (try clear hN hP); simp [*]
