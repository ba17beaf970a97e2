/-! the reference's looks -/
def it2 (J : Wd) (s : Int32) (k : Nat) : Int32 := itM J s (2 * k)
def it3 (J : Wd) (s : Int32) (k : Nat) : Int32 := itM J s (2 * k + 1)
abbrev okLM (J : Wd) (s : Int32) (n : Nat) : Prop := ∀ k, k < n → inR (it2 J s k) 0 63 ∧ inR (it3 J s k) 1 9999
def wthM (W : Wd) (K N : Nat) (c kn : Int32) : Int32 := if 30 < dbM W K c kn then (dbM W K c kn - 30) * (sPeople (W 10) (W 13) (W 16) (W 12) c N + 1) else 0
def lwM (K N : Nat) (s kn : Int32) (J : Wd) : Nat → Wd
  | 0 => J
  | k + 1 => ist (spanW (lwM K N s kn J k) K (it2 J s k) kn 0) 40 k (wthM (lwM K N s kn J k) K N (it2 J s k) kn)
theorem lwM_fr {K N k a : Nat} {s kn : Int32} {J : Wd} (h : a ≠ 0) (h4 : a ≠ 40) : lwM K N s kn J k a = J a := by
  induction k with
  | zero => rfl
  | succ k ih => unfold lwM; rw [ist_ne h4, spanW_fr h, ih]
theorem lwM_0 {K N k j : Nat} {s kn : Int32} {J : Wd} (h : j ≠ 28) (h2 : j ≠ 29) : lwM K N s kn J k 0 j = J 0 j := by
  induction k with
  | zero => rfl
  | succ k ih => unfold lwM; rw [ist_ne (by decide), spanW_0 h h2, ih]
def lqM (p2 p3 lw : Nat → Int32) (set : Int32) : Nat → Int32 × Int32 × Int64
  | 0 => (0, 0, 0)
  | k + 1 => if bitS set k = 0 then lqM p2 p3 lw set k else ((lqM p2 p3 lw set k).1 + p3 k, (lqM p2 p3 lw set k).2.1 + (if (lqM p2 p3 lw set k).2.2 >>> ((p2 k).toInt64 &&& 63) &&& 1 = 0 then lw k else 0), (lqM p2 p3 lw set k).2.2 ||| (1 <<< ((p2 k).toInt64 &&& 63)))
theorem lqM_a {p2 p3 lw : Nat → Int32} {set : Int32} {k : Nat} (h : bitS set k = 0) : lqM p2 p3 lw set (k + 1) = lqM p2 p3 lw set k := if_pos h
theorem lqM_b {p2 p3 lw : Nat → Int32} {set : Int32} {k : Nat} (h : ¬ bitS set k = 0) : lqM p2 p3 lw set (k + 1) = ((lqM p2 p3 lw set k).1 + p3 k, (lqM p2 p3 lw set k).2.1 + (if (lqM p2 p3 lw set k).2.2 >>> ((p2 k).toInt64 &&& 63) &&& 1 = 0 then lw k else 0), (lqM p2 p3 lw set k).2.2 ||| (1 <<< ((p2 k).toInt64 &&& 63))) := if_neg h
def lkM1 (p2 p3 lw : Nat → Int32) (n : Nat) (coin : Int32) (set : Nat) (q : Int32 × Int32) : Int32 × Int32 := if coin < (lqM p2 p3 lw (nI set) n).1 then q else if q.1 < (lqM p2 p3 lw (nI set) n).2.1 then ((lqM p2 p3 lw (nI set) n).2.1, nI set) else q
def lkM (p2 p3 lw : Nat → Int32) (n : Nat) (coin : Int32) (l0 : Int32) : Nat → Int32 × Int32
  | 0 => (-1, l0)
  | set + 1 => lkM1 p2 p3 lw n coin set (lkM p2 p3 lw n coin l0 set)
theorem ist_id {J : Wd} {k j : Nat} : ist J k j (J k j) = J := by
  unfold ist; rw [show upd (J k) j (J k j) = J k from by funext i; unfold upd; split <;> simp_all]; exact rset_id
def lkR (J : Wd) (K N z : Nat) (s coin kn : Int32) : Int32 × Int32 := lkM (it2 J s) (it3 J s) (lwM K N s kn J (z / 2) 40) (z / 2) coin (J 0 63) (2 ^ (z / 2))
theorem ix2 {s : Int32} (h : inR s 0 3) {k : Nat} (hk : k < 8) : 40 * s + 2 * nI k = nI (40 * s.toNatClampNeg + 2 * k) := by
  rw [show (2 : Int32) = nI 2 from rfl, pk_mul, ix40 h]
theorem vx2 {s : Int32} (h : inR s 0 3) {k : Nat} (hk : k < 8) : vp_in (40 * s + 2 * nI k) 160 := by rw [ix2 h hk]; exact vpn rfl (by have := (sx h).2; omega) (by decide)
theorem cx2 {s : Int32} (h : inR s 0 3) {k : Nat} (hk : k < 8) : (40 * s + 2 * nI k).toNatClampNeg = 40 * s.toNatClampNeg + 2 * k := by rw [ix2 h hk]; exact nI_clamp (by have := (sx h).2; omega)
theorem vx3 {s : Int32} (h : inR s 0 3) {k : Nat} (hk : k < 8) : vp_in (40 * s + 2 * nI k + 1) 160 := by rw [ix2 h hk, nI_1]; exact vpn rfl (by have := (sx h).2; omega) (by decide)
theorem cx3 {s : Int32} (h : inR s 0 3) {k : Nat} (hk : k < 8) : (40 * s + 2 * nI k + 1).toNatClampNeg = 40 * s.toNatClampNeg + (2 * k + 1) := by rw [ix2 h hk, nI_1]; exact (nI_clamp (by have := (sx h).2; omega)).trans (by omega)
abbrev okLkM (J : Wd) (z : Nat) (s coin kn : Int32) : Prop := (¬ 16 < nI z ∧ nI z - nI z / 2 * 2 = 0 ∧ inR coin 0 1000000 ∧ inR kn 0 (J 0 0)) ∧ okLM J s (z / 2)
def vLkM (J : Wd) (K N z : Nat) (s coin kn : Int32) : Int32 := if inR s 0 3 then (if J 44 s.toNatClampNeg < 0 then -11 else if okLkM J z s coin kn then (lkR J K N z s coin kn).1 else -2) else -1
def wLkM (J : Wd) (K N z : Nat) (s coin kn : Int32) : Wd := if inR s 0 3 ∧ ¬ J 44 s.toNatClampNeg < 0 ∧ okLkM J z s coin kn then ist (lwM K N s kn J (z / 2)) 0 63 (lkR J K N z s coin kn).2 else J
def tX11_looks : List (Nat × Instr × Nat) := [(0, .aload_n 0, 1), (1, .iload_n 1, 1), (2, .invokevirtual 297, 3), (5, .ifCond .ne 5, 3), (8, .iconst (-1), 1), (9, .ireturn, 1), (10, .aload_n 0, 1), (11, .getfield 236, 3), (14, .iload_n 1, 1), (15, .iaload, 1), (16, .ifCond .ge 6, 3), (19, .bipush (-11), 2), (21, .ireturn, 1), (22, .aload_n 0, 1), (23, .getfield 239, 3), (26, .iload_n 1, 1), (27, .iaload, 1), (28, .bipush 16, 2), (30, .if_icmp .gt 34, 3), (33, .aload_n 0, 1), (34, .getfield 239, 3), (37, .iload_n 1, 1), (38, .iaload, 1), (39, .iconst 2, 1), (40, .irem, 1), (41, .ifCond .ne 23, 3), (44, .aload_n 0, 1), (45, .iload_n 2, 1), (46, .iconst 0, 1), (47, .ldc_w 403, 3), (50, .invokevirtual 1, 3), (53, .ifCond .eq 11, 3), (56, .aload_n 0, 1), (57, .iload_n 3, 1), (58, .invokevirtual 277, 3), (61, .ifCond .ne 6, 3), (64, .bipush (-2), 2), (66, .ireturn, 1), (67, .aload_n 0, 1), (68, .getfield 239, 3), (71, .iload_n 1, 1), (72, .iaload, 1), (73, .iconst 2, 1), (74, .idiv, 1), (75, .istore 4, 2), (77, .iconst 0, 1), (78, .istore 5, 2), (80, .iload 5, 2), (82, .iload 4, 2), (84, .if_icmp .ge 60, 3), (87, .aload_n 0, 1), (88, .aload_n 0, 1), (89, .getfield 242, 3), (92, .bipush 40, 2), (94, .iload_n 1, 1), (95, .imul, 1), (96, .iconst 2, 1), (97, .iload 5, 2), (99, .imul, 1), (100, .iadd, 1), (101, .iaload, 1), (102, .invokevirtual 248, 3), (105, .ifCond .eq 30, 3), (108, .aload_n 0, 1), (109, .aload_n 0, 1), (110, .getfield 242, 3), (113, .bipush 40, 2), (115, .iload_n 1, 1), (116, .imul, 1), (117, .iconst 2, 1), (118, .iload 5, 2), (120, .imul, 1), (121, .iadd, 1), (122, .iconst 1, 1), (123, .iadd, 1), (124, .iaload, 1), (125, .iconst 1, 1), (126, .sipush 9999, 3), (129, .invokevirtual 1, 3), (132, .ifCond .ne 6, 3), (135, .bipush (-2), 2), (137, .ireturn, 1), (138, .iinc 5 1, 3), (141, .goto (-61), 3), (144, .iconst 0, 1), (145, .istore 5, 2), (147, .iload 5, 2), (149, .iload 4, 2), (151, .if_icmp .ge 66, 3), (154, .aload_n 0, 1), (155, .getfield 242, 3), (158, .bipush 40, 2), (160, .iload_n 1, 1), (161, .imul, 1), (162, .iconst 2, 1), (163, .iload 5, 2), (165, .imul, 1), (166, .iadd, 1), (167, .iaload, 1), (168, .istore 6, 2), (170, .aload_n 0, 1), (171, .iload 6, 2), (173, .iload_n 3, 1), (174, .invokevirtual 386, 3), (177, .istore 7, 2), (179, .aload_n 0, 1), (180, .getfield 209, 3), (183, .iload 5, 2), (185, .iload 7, 2), (187, .bipush 30, 2), (189, .if_icmp .le 20, 3), (192, .iload 7, 2), (194, .bipush 30, 2), (196, .isub, 1), (197, .aload_n 0, 1), (198, .iload 6, 2), (200, .invokevirtual 389, 3), (203, .iconst 1, 1), (204, .iadd, 1), (205, .imul, 1), (206, .goto 4, 3), (209, .iconst 0, 1), (210, .iastore, 1), (211, .iinc 5 1, 3), (214, .goto (-67), 3), (217, .iconst (-1), 1), (218, .istore 5, 2), (220, .iconst 0, 1), (221, .istore 6, 2), (223, .iload 6, 2), (225, .iconst 1, 1), (226, .iload 4, 2), (228, .ishl, 1), (229, .if_icmp .ge 147, 3), (232, .iconst 0, 1), (233, .istore 7, 2), (235, .iconst 0, 1), (236, .istore 8, 2), (238, .lconst 0, 1), (239, .lstore 9, 2), (241, .iconst 0, 1), (242, .istore 11, 2), (244, .iload 11, 2), (246, .iload 4, 2), (248, .if_icmp .ge 96, 3), (251, .iload 6, 2), (253, .iload 11, 2), (255, .ishr, 1), (256, .iconst 1, 1), (257, .iand, 1), (258, .ifCond .ne 6, 3), (261, .goto 77, 3), (264, .aload_n 0, 1), (265, .getfield 242, 3), (268, .bipush 40, 2), (270, .iload_n 1, 1), (271, .imul, 1), (272, .iconst 2, 1), (273, .iload 11, 2), (275, .imul, 1), (276, .iadd, 1), (277, .iaload, 1), (278, .istore 12, 2), (280, .iload 7, 2), (282, .aload_n 0, 1), (283, .getfield 242, 3), (286, .bipush 40, 2), (288, .iload_n 1, 1), (289, .imul, 1), (290, .iconst 2, 1), (291, .iload 11, 2), (293, .imul, 1), (294, .iadd, 1), (295, .iconst 1, 1), (296, .iadd, 1), (297, .iaload, 1), (298, .iadd, 1), (299, .istore 7, 2), (301, .iload 8, 2), (303, .lload 9, 2), (305, .iload 12, 2), (307, .lshr, 1), (308, .lconst 1, 1), (309, .land, 1), (310, .lconst 0, 1), (311, .lcmp, 1), (312, .ifCond .ne 13, 3), (315, .aload_n 0, 1), (316, .getfield 209, 3), (319, .iload 11, 2), (321, .iaload, 1), (322, .goto 4, 3), (325, .iconst 0, 1), (326, .iadd, 1), (327, .istore 8, 2), (329, .lload 9, 2), (331, .lconst 1, 1), (332, .iload 12, 2), (334, .lshl, 1), (335, .lor, 1), (336, .lstore 9, 2), (338, .iinc 11 1, 3), (341, .goto (-97), 3), (344, .iload 7, 2), (346, .iload_n 2, 1), (347, .if_icmp .gt 23, 3), (350, .iload 8, 2), (352, .iload 5, 2), (354, .if_icmp .gt 6, 3), (357, .goto 13, 3), (360, .iload 8, 2), (362, .istore 5, 2), (364, .aload_n 0, 1), (365, .iload 6, 2), (367, .putfield 206, 3), (370, .iinc 6 1, 3), (373, .goto (-150), 3), (376, .iload 5, 2), (378, .ireturn, 1)]
theorem dtX11_looks : dec_ok mX11_looks.2.1 tX11_looks = true := by decide +kernel
set_option maxHeartbeats 4000000 in
theorem s244 {W : Wd} {m : Nat} {s coin kn set most : Int32} {r : Option Value} {I9 : Wd} (hs : inR s 0 3) (hm : m ≤ 8) (kk : Bd SyM mX11_looks 4 344 [(9, .long (lqM (it2 W s) (it3 W s) (W 40) set m).2.2), (8, .int (lqM (it2 W s) (it3 W s) (W 40) set m).2.1), (7, .int (lqM (it2 W s) (it3 W s) (W 40) set m).1), (6, .int set), (5, .int most), (4, .int (nI m)), (0, .ref 0), (1, .int s), (2, .int coin), (3, .int kn)] [] W r I9) : ∀ (n h : Nat) (x11 : Int32) (x9 : Int64) (x8 : Int32) (x7 : Int32), h ≤ m → m < h + n → x11 = nI h → x9 = (lqM (it2 W s) (it3 W s) (W 40) set h).2.2 → x8 = (lqM (it2 W s) (it3 W s) (W 40) set h).2.1 → x7 = (lqM (it2 W s) (it3 W s) (W 40) set h).1 → Bd SyM mX11_looks 4 244 [(11, .int x11), (9, .long x9), (8, .int x8), (7, .int x7), (6, .int set), (5, .int most), (4, .int (nI m)), (0, .ref 0), (1, .int s), (2, .int coin), (3, .int kn)] [] W (r) I9 := by
  intro n
  induction n with
  | zero => intro h x11 x9 x8 x7 h1 h2; omega
  | succ n ih =>
    intro h x11 x9 x8 x7 h1 h2 e11 e9 e8 e7
    subst e11; subst e9; subst e8; subst e7
    refine b_iload (pc := 244) (i := 11) (dd dtX11_looks 142 rfl) rfl ?_
    refine b_iload (pc := 246) (i := 4) (dd dtX11_looks 143 rfl) rfl ?_
    refine b_icmpL_ge (pc := 248) (tgt := 344) (dd dtX11_looks 144 rfl) (by decide) (fun h248 => ?_) (fun h248 => ?_)
    · refine b_pick [1, 2, 3, 4, 5, 6, 7, 8, 9, 10] (lv' := [(9, _), (8, _), (7, _), (6, _), (5, _), (4, _), (0, _), (1, _), (2, _), (3, _)]) rfl ?_
      have he : h = m := Nat.le_antisymm h1 (ge_n h248 (by omega))
      subst he
      exact kk
    · have hlt : h < m := lt_n h248 (by omega) (by omega)
      refine b_iload (pc := 251) (i := 6) (dd dtX11_looks 145 rfl) rfl ?_
      refine b_iload (pc := 253) (i := 11) (dd dtX11_looks 146 rfl) rfl ?_
      refine b_ishr (pc := 255) (dd dtX11_looks 147 rfl) ?_
      refine b_ic1 (pc := 256) (dd dtX11_looks 148 rfl) ?_
      refine b_iand (pc := 257) (dd dtX11_looks 149 rfl) ?_
      refine b_if_ne (pc := 258) (tgt := 264) (dd dtX11_looks 150 rfl) (by decide) (fun h258 => ?_) (fun h258 => ?_)
      · refine b_aload_n (pc := 264) (i := 0) (dd dtX11_looks 152 rfl) rfl rfl ?_
        refine b_geta (pc := 265) (dd dtX11_looks 153 rfl) fwX11_242 pM_0 rM_0_75 ?_
        refine b_bipush (pc := 268) (v := 40) (dd dtX11_looks 154 rfl) (by decide) ?_
        refine b_iload_n (pc := 270) (i := 1) (dd dtX11_looks 155 rfl) rfl rfl ?_
        refine b_imul (pc := 271) (dd dtX11_looks 156 rfl) ?_
        refine b_ic2 (pc := 272) (dd dtX11_looks 157 rfl) ?_
        refine b_iload (pc := 273) (i := 11) (dd dtX11_looks 158 rfl) rfl ?_
        refine b_imul (pc := 275) (dd dtX11_looks 159 rfl) ?_
        refine b_iadd (pc := 276) (dd dtX11_looks 160 rfl) ?_
        refine b_iald (pc := 277) (dd dtX11_looks 161 rfl) pM_46 (vx2 hs (show h < 8 by omega)) ?_
        refine b_istore (pc := 278) (i := 12) (lv' := [(12, _), (11, _), (9, _), (8, _), (7, _), (6, _), (5, _), (4, _), (0, _), (1, _), (2, _), (3, _)]) (dd dtX11_looks 162 rfl) (Nat.le_of_ble_eq_true rfl) rfl ?_
        refine b_iload (pc := 280) (i := 7) (dd dtX11_looks 163 rfl) rfl ?_
        refine b_aload_n (pc := 282) (i := 0) (dd dtX11_looks 164 rfl) rfl rfl ?_
        refine b_geta (pc := 283) (dd dtX11_looks 165 rfl) fwX11_242 pM_0 rM_0_75 ?_
        refine b_bipush (pc := 286) (v := 40) (dd dtX11_looks 166 rfl) (by decide) ?_
        refine b_iload_n (pc := 288) (i := 1) (dd dtX11_looks 167 rfl) rfl rfl ?_
        refine b_imul (pc := 289) (dd dtX11_looks 168 rfl) ?_
        refine b_ic2 (pc := 290) (dd dtX11_looks 169 rfl) ?_
        refine b_iload (pc := 291) (i := 11) (dd dtX11_looks 170 rfl) rfl ?_
        refine b_imul (pc := 293) (dd dtX11_looks 171 rfl) ?_
        refine b_iadd (pc := 294) (dd dtX11_looks 172 rfl) ?_
        refine b_ic1 (pc := 295) (dd dtX11_looks 173 rfl) ?_
        refine b_iadd (pc := 296) (dd dtX11_looks 174 rfl) ?_
        refine b_iald (pc := 297) (dd dtX11_looks 175 rfl) pM_46 (vx3 hs (show h < 8 by omega)) ?_
        refine b_iadd (pc := 298) (dd dtX11_looks 176 rfl) ?_
        refine b_istore (pc := 299) (i := 7) (lv' := [(7, _), (12, _), (11, _), (9, _), (8, _), (6, _), (5, _), (4, _), (0, _), (1, _), (2, _), (3, _)]) (dd dtX11_looks 177 rfl) (Nat.le_of_ble_eq_true rfl) rfl ?_
        refine b_iload (pc := 301) (i := 8) (dd dtX11_looks 178 rfl) rfl ?_
        refine b_lload (pc := 303) (i := 9) (dd dtX11_looks 179 rfl) rfl ?_
        refine b_iload (pc := 305) (i := 12) (dd dtX11_looks 180 rfl) rfl ?_
        refine b_lshr (pc := 307) (dd dtX11_looks 181 rfl) ?_
        refine b_lconst (pc := 308) (v := 1) (dd dtX11_looks 182 rfl) (by decide) ?_
        refine b_land (pc := 309) (dd dtX11_looks 183 rfl) ?_
        refine b_lconst (pc := 310) (v := 0) (dd dtX11_looks 184 rfl) (by decide) ?_
        refine b_lcmp (pc := 311) (dd dtX11_looks 185 rfl) ?_
        refine b_if_ne (pc := 312) (tgt := 325) (dd dtX11_looks 186 rfl) (by decide) (fun h312 => ?_) (fun h312 => ?_)
        · refine b_ic0 (pc := 325) (dd dtX11_looks 192 rfl) ?_
          refine b_iadd (pc := 326) (dd dtX11_looks 193 rfl) ?_
          refine b_istore (pc := 327) (i := 8) (lv' := [(8, _), (7, _), (12, _), (11, _), (9, _), (6, _), (5, _), (4, _), (0, _), (1, _), (2, _), (3, _)]) (dd dtX11_looks 194 rfl) (Nat.le_of_ble_eq_true rfl) rfl ?_
          refine b_lload (pc := 329) (i := 9) (dd dtX11_looks 195 rfl) rfl ?_
          refine b_lconst (pc := 331) (v := 1) (dd dtX11_looks 196 rfl) (by decide) ?_
          refine b_iload (pc := 332) (i := 12) (dd dtX11_looks 197 rfl) rfl ?_
          refine b_lshl (pc := 334) (dd dtX11_looks 198 rfl) ?_
          refine b_lor (pc := 335) (dd dtX11_looks 199 rfl) ?_
          refine b_lstore (pc := 336) (i := 9) (lv' := [(9, _), (8, _), (7, _), (12, _), (11, _), (6, _), (5, _), (4, _), (0, _), (1, _), (2, _), (3, _)]) (dd dtX11_looks 200 rfl) ⟨Nat.le_of_ble_eq_true rfl, Nat.le_of_ble_eq_true rfl⟩ rfl ?_
          refine b_iinc1 (pc := 338) (i := 11) (lv' := [(11, _), (9, _), (8, _), (7, _), (12, _), (6, _), (5, _), (4, _), (0, _), (1, _), (2, _), (3, _)]) (dd dtX11_looks 201 rfl) rfl (Nat.le_of_ble_eq_true rfl) rfl ?_
          refine b_goto (pc := 341) (tgt := 244) (dd dtX11_looks 202 rfl) (by decide) ?_
          refine b_pick [0, 1, 2, 3, 5, 6, 7, 8, 9, 10, 11] (lv' := [(11, _), (9, _), (8, _), (7, _), (6, _), (5, _), (4, _), (0, _), (1, _), (2, _), (3, _)]) rfl ?_
          rw [nI_1]
          refine ih (h + 1) _ _ _ _ hlt (by omega) rfl ?_ ?_ ?_
          · try rw [lcmp0] at h312
            try simp only [cx2 hs (show h < 8 by omega), cx3 hs (show h < 8 by omega), nI_clamp (show h < 2 ^ 31 by omega)] at h312 ⊢
            first
              | rw [lqM_a (p2 := it2 W s) (p3 := it3 W s) (lw := W 40) (set := set) (k := h) h258]
              | (rw [lqM_b (p2 := it2 W s) (p3 := it3 W s) (lw := W 40) (set := set) (k := h) h258]; rfl)
          · try rw [lcmp0] at h312
            try simp only [cx2 hs (show h < 8 by omega), cx3 hs (show h < 8 by omega), nI_clamp (show h < 2 ^ 31 by omega)] at h312 ⊢
            first
              | rw [lqM_a (p2 := it2 W s) (p3 := it3 W s) (lw := W 40) (set := set) (k := h) h258]
              | (rw [lqM_b (p2 := it2 W s) (p3 := it3 W s) (lw := W 40) (set := set) (k := h) h258]; first | exact congrArg (fun t => (lqM (it2 W s) (it3 W s) (W 40) set h).2.1 + t) (if_pos h312).symm | exact congrArg (fun t => (lqM (it2 W s) (it3 W s) (W 40) set h).2.1 + t) (if_neg h312).symm)
          · try rw [lcmp0] at h312
            try simp only [cx2 hs (show h < 8 by omega), cx3 hs (show h < 8 by omega), nI_clamp (show h < 2 ^ 31 by omega)] at h312 ⊢
            first
              | rw [lqM_a (p2 := it2 W s) (p3 := it3 W s) (lw := W 40) (set := set) (k := h) h258]
              | (rw [lqM_b (p2 := it2 W s) (p3 := it3 W s) (lw := W 40) (set := set) (k := h) h258]; rfl)
        · refine b_aload_n (pc := 315) (i := 0) (dd dtX11_looks 187 rfl) rfl rfl ?_
          refine b_geta (pc := 316) (dd dtX11_looks 188 rfl) fwX11_209 pM_0 rM_0_64 ?_
          refine b_iload (pc := 319) (i := 11) (dd dtX11_looks 189 rfl) rfl ?_
          refine b_iald (pc := 321) (dd dtX11_looks 190 rfl) pM_40 (vpn rfl (show h < 8 by omega) (by decide)) ?_
          refine b_goto (pc := 322) (tgt := 326) (dd dtX11_looks 191 rfl) (by decide) ?_
          refine b_iadd (pc := 326) (dd dtX11_looks 193 rfl) ?_
          refine b_istore (pc := 327) (i := 8) (lv' := [(8, _), (7, _), (12, _), (11, _), (9, _), (6, _), (5, _), (4, _), (0, _), (1, _), (2, _), (3, _)]) (dd dtX11_looks 194 rfl) (Nat.le_of_ble_eq_true rfl) rfl ?_
          refine b_lload (pc := 329) (i := 9) (dd dtX11_looks 195 rfl) rfl ?_
          refine b_lconst (pc := 331) (v := 1) (dd dtX11_looks 196 rfl) (by decide) ?_
          refine b_iload (pc := 332) (i := 12) (dd dtX11_looks 197 rfl) rfl ?_
          refine b_lshl (pc := 334) (dd dtX11_looks 198 rfl) ?_
          refine b_lor (pc := 335) (dd dtX11_looks 199 rfl) ?_
          refine b_lstore (pc := 336) (i := 9) (lv' := [(9, _), (8, _), (7, _), (12, _), (11, _), (6, _), (5, _), (4, _), (0, _), (1, _), (2, _), (3, _)]) (dd dtX11_looks 200 rfl) ⟨Nat.le_of_ble_eq_true rfl, Nat.le_of_ble_eq_true rfl⟩ rfl ?_
          refine b_iinc1 (pc := 338) (i := 11) (lv' := [(11, _), (9, _), (8, _), (7, _), (12, _), (6, _), (5, _), (4, _), (0, _), (1, _), (2, _), (3, _)]) (dd dtX11_looks 201 rfl) rfl (Nat.le_of_ble_eq_true rfl) rfl ?_
          refine b_goto (pc := 341) (tgt := 244) (dd dtX11_looks 202 rfl) (by decide) ?_
          refine b_pick [0, 1, 2, 3, 5, 6, 7, 8, 9, 10, 11] (lv' := [(11, _), (9, _), (8, _), (7, _), (6, _), (5, _), (4, _), (0, _), (1, _), (2, _), (3, _)]) rfl ?_
          rw [nI_1]
          refine ih (h + 1) _ _ _ _ hlt (by omega) rfl ?_ ?_ ?_
          · try rw [lcmp0] at h312
            try simp only [cx2 hs (show h < 8 by omega), cx3 hs (show h < 8 by omega), nI_clamp (show h < 2 ^ 31 by omega)] at h312 ⊢
            first
              | rw [lqM_a (p2 := it2 W s) (p3 := it3 W s) (lw := W 40) (set := set) (k := h) h258]
              | (rw [lqM_b (p2 := it2 W s) (p3 := it3 W s) (lw := W 40) (set := set) (k := h) h258]; rfl)
          · try rw [lcmp0] at h312
            try simp only [cx2 hs (show h < 8 by omega), cx3 hs (show h < 8 by omega), nI_clamp (show h < 2 ^ 31 by omega)] at h312 ⊢
            first
              | rw [lqM_a (p2 := it2 W s) (p3 := it3 W s) (lw := W 40) (set := set) (k := h) h258]
              | (rw [lqM_b (p2 := it2 W s) (p3 := it3 W s) (lw := W 40) (set := set) (k := h) h258]; first | exact congrArg (fun t => (lqM (it2 W s) (it3 W s) (W 40) set h).2.1 + t) (if_pos h312).symm | exact congrArg (fun t => (lqM (it2 W s) (it3 W s) (W 40) set h).2.1 + t) (if_neg h312).symm)
          · try rw [lcmp0] at h312
            try simp only [cx2 hs (show h < 8 by omega), cx3 hs (show h < 8 by omega), nI_clamp (show h < 2 ^ 31 by omega)] at h312 ⊢
            first
              | rw [lqM_a (p2 := it2 W s) (p3 := it3 W s) (lw := W 40) (set := set) (k := h) h258]
              | (rw [lqM_b (p2 := it2 W s) (p3 := it3 W s) (lw := W 40) (set := set) (k := h) h258]; rfl)
      · refine b_goto (pc := 261) (tgt := 338) (dd dtX11_looks 151 rfl) (by decide) ?_
        refine b_iinc1 (pc := 338) (i := 11) (lv' := [(11, _), (9, _), (8, _), (7, _), (6, _), (5, _), (4, _), (0, _), (1, _), (2, _), (3, _)]) (dd dtX11_looks 201 rfl) rfl (Nat.le_of_ble_eq_true rfl) rfl ?_
        refine b_goto (pc := 341) (tgt := 244) (dd dtX11_looks 202 rfl) (by decide) ?_
        rw [nI_1]
        refine ih (h + 1) _ _ _ _ hlt (by omega) rfl ?_ ?_ ?_
        · try rw [lcmp0] at h312
          try simp only [cx2 hs (show h < 8 by omega), cx3 hs (show h < 8 by omega), nI_clamp (show h < 2 ^ 31 by omega)] at h312 ⊢
          first
            | rw [lqM_a (p2 := it2 W s) (p3 := it3 W s) (lw := W 40) (set := set) (k := h) h258]
            | (rw [lqM_b (p2 := it2 W s) (p3 := it3 W s) (lw := W 40) (set := set) (k := h) h258]; rfl)
        · try rw [lcmp0] at h312
          try simp only [cx2 hs (show h < 8 by omega), cx3 hs (show h < 8 by omega), nI_clamp (show h < 2 ^ 31 by omega)] at h312 ⊢
          first
            | rw [lqM_a (p2 := it2 W s) (p3 := it3 W s) (lw := W 40) (set := set) (k := h) h258]
            | (rw [lqM_b (p2 := it2 W s) (p3 := it3 W s) (lw := W 40) (set := set) (k := h) h258]; first | exact congrArg (fun t => (lqM (it2 W s) (it3 W s) (W 40) set h).2.1 + t) (if_pos h312).symm | exact congrArg (fun t => (lqM (it2 W s) (it3 W s) (W 40) set h).2.1 + t) (if_neg h312).symm)
        · try rw [lcmp0] at h312
          try simp only [cx2 hs (show h < 8 by omega), cx3 hs (show h < 8 by omega), nI_clamp (show h < 2 ^ 31 by omega)] at h312 ⊢
          first
            | rw [lqM_a (p2 := it2 W s) (p3 := it3 W s) (lw := W 40) (set := set) (k := h) h258]
            | (rw [lqM_b (p2 := it2 W s) (p3 := it3 W s) (lw := W 40) (set := set) (k := h) h258]; rfl)
set_option maxHeartbeats 4000000 in
theorem s223 {J : Wd} {m : Nat} {s coin kn : Int32} (hs : inR s 0 3) (hm : m ≤ 8) : ∀ (n h : Nat) (x6 : Int32) (x5 : Int32) (I2 : Wd), h ≤ 2 ^ m → 2 ^ m < h + n → x6 = nI h → x5 = (lkM (it2 J s) (it3 J s) (J 40) m coin (J 0 63) h).1 → I2 = (ist J 0 63 (lkM (it2 J s) (it3 J s) (J 40) m coin (J 0 63) h).2) → Bd SyM mX11_looks 4 223 [(6, .int x6), (5, .int x5), (4, .int (nI m)), (0, .ref 0), (1, .int s), (2, .int coin), (3, .int kn)] [] I2 (some (.int (lkM (it2 J s) (it3 J s) (J 40) m coin (J 0 63) (2 ^ m)).1)) (ist J 0 63 (lkM (it2 J s) (it3 J s) (J 40) m coin (J 0 63) (2 ^ m)).2) := by
  intro n
  induction n with
  | zero => intro h x6 x5 I2 h1 h2; omega
  | succ n ih =>
    intro h x6 x5 I2 h1 h2 e6 e5 eW
    subst e6; subst e5; subst eW
    have pw := pow_n m hm
    have e40 : (ist J 0 63 (lkM (it2 J s) (it3 J s) (J 40) m coin (J 0 63) h).2) 40 = J 40 := ist_ne (by decide)
    have e2 : it2 (ist J 0 63 (lkM (it2 J s) (it3 J s) (J 40) m coin (J 0 63) h).2) s = it2 J s := by funext k; unfold it2 itM; rw [ist_ne (by decide)]
    have e3 : it3 (ist J 0 63 (lkM (it2 J s) (it3 J s) (J 40) m coin (J 0 63) h).2) s = it3 J s := by funext k; unfold it3 itM; rw [ist_ne (by decide)]
    refine b_iload (pc := 223) (i := 6) (dd dtX11_looks 129 rfl) rfl ?_
    refine b_ic1 (pc := 225) (dd dtX11_looks 130 rfl) ?_
    refine b_iload (pc := 226) (i := 4) (dd dtX11_looks 131 rfl) rfl ?_
    refine b_ishl (pc := 228) (dd dtX11_looks 132 rfl) ?_
    refine b_icmpL_ge (pc := 229) (tgt := 376) (dd dtX11_looks 133 rfl) (by decide) (fun h229 => ?_) (fun h229 => ?_)
    · rw [shl_n m hm] at h229
      have he : h = 2 ^ m := Nat.le_antisymm h1 (ge_n h229 (by omega))
      subst he
      refine b_iload (pc := 376) (i := 5) (dd dtX11_looks 217 rfl) rfl ?_
      exact b_eq (b_iret (dd dtX11_looks 218 rfl) rfl) rfl rfl
    · rw [shl_n m hm] at h229
      have hlt : h < 2 ^ m := lt_n h229 (by omega) (by omega)
      refine b_ic0 (pc := 232) (dd dtX11_looks 134 rfl) ?_
      refine b_istore (pc := 233) (i := 7) (lv' := [(7, _), (6, _), (5, _), (4, _), (0, _), (1, _), (2, _), (3, _)]) (dd dtX11_looks 135 rfl) (Nat.le_of_ble_eq_true rfl) rfl ?_
      refine b_ic0 (pc := 235) (dd dtX11_looks 136 rfl) ?_
      refine b_istore (pc := 236) (i := 8) (lv' := [(8, _), (7, _), (6, _), (5, _), (4, _), (0, _), (1, _), (2, _), (3, _)]) (dd dtX11_looks 137 rfl) (Nat.le_of_ble_eq_true rfl) rfl ?_
      refine b_lconst (pc := 238) (v := 0) (dd dtX11_looks 138 rfl) (by decide) ?_
      refine b_lstore (pc := 239) (i := 9) (lv' := [(9, _), (8, _), (7, _), (6, _), (5, _), (4, _), (0, _), (1, _), (2, _), (3, _)]) (dd dtX11_looks 139 rfl) ⟨Nat.le_of_ble_eq_true rfl, Nat.le_of_ble_eq_true rfl⟩ rfl ?_
      refine b_ic0 (pc := 241) (dd dtX11_looks 140 rfl) ?_
      refine b_istore (pc := 242) (i := 11) (lv' := [(11, _), (9, _), (8, _), (7, _), (6, _), (5, _), (4, _), (0, _), (1, _), (2, _), (3, _)]) (dd dtX11_looks 141 rfl) (Nat.le_of_ble_eq_true rfl) rfl ?_
      refine s244 (W := (ist J 0 63 (lkM (it2 J s) (it3 J s) (J 40) m coin (J 0 63) h).2)) hs hm ?_ (m + 1) 0 _ _ _ _ (Nat.zero_le _) (by omega) rfl rfl rfl rfl
      simp only [e40, e2, e3]
      refine b_iload (pc := 344) (i := 7) (dd dtX11_looks 203 rfl) rfl ?_
      refine b_iload_n (pc := 346) (i := 2) (dd dtX11_looks 204 rfl) rfl rfl ?_
      refine b_icmp_gt (pc := 347) (tgt := 370) (dd dtX11_looks 205 rfl) (by decide) (fun h347 => ?_) (fun h347 => ?_)
      · refine b_iinc1 (pc := 370) (i := 6) (lv' := [(6, _), (9, _), (8, _), (7, _), (5, _), (4, _), (0, _), (1, _), (2, _), (3, _)]) (dd dtX11_looks 215 rfl) rfl (Nat.le_of_ble_eq_true rfl) rfl ?_
        refine b_goto (pc := 373) (tgt := 223) (dd dtX11_looks 216 rfl) (by decide) ?_
        refine b_pick [0, 4, 5, 6, 7, 8, 9] (lv' := [(6, _), (5, _), (4, _), (0, _), (1, _), (2, _), (3, _)]) rfl ?_
        rw [nI_1]
        refine ih (h + 1) _ _ _ hlt (by omega) rfl ?_ ?_
        · show _ = (lkM1 _ _ _ _ _ _ _).1
          unfold lkM1
          first
          | rw [if_pos h347]
          | (rw [if_neg h347]; first | rw [if_pos h354] | rw [if_neg h354])
        · show _ = ist J 0 63 (lkM1 _ _ _ _ _ _ _).2
          unfold lkM1
          first
          | rw [if_pos h347]
          | (rw [if_neg h347]; first | (rw [if_pos h354]; exact ist_ist) | rw [if_neg h354])
      · refine b_iload (pc := 350) (i := 8) (dd dtX11_looks 206 rfl) rfl ?_
        refine b_iload (pc := 352) (i := 5) (dd dtX11_looks 207 rfl) rfl ?_
        refine b_icmp_gt (pc := 354) (tgt := 360) (dd dtX11_looks 208 rfl) (by decide) (fun h354 => ?_) (fun h354 => ?_)
        · refine b_iload (pc := 360) (i := 8) (dd dtX11_looks 210 rfl) rfl ?_
          refine b_istore (pc := 362) (i := 5) (lv' := [(5, _), (9, _), (8, _), (7, _), (6, _), (4, _), (0, _), (1, _), (2, _), (3, _)]) (dd dtX11_looks 211 rfl) (Nat.le_of_ble_eq_true rfl) rfl ?_
          refine b_aload_n (pc := 364) (i := 0) (dd dtX11_looks 212 rfl) rfl rfl ?_
          refine b_iload (pc := 365) (i := 6) (dd dtX11_looks 213 rfl) rfl ?_
          refine b_puti (pc := 367) (dd dtX11_looks 214 rfl) fwX11_206 pM_0 ?_
          refine b_iinc1 (pc := 370) (i := 6) (lv' := [(6, _), (5, _), (9, _), (8, _), (7, _), (4, _), (0, _), (1, _), (2, _), (3, _)]) (dd dtX11_looks 215 rfl) rfl (Nat.le_of_ble_eq_true rfl) rfl ?_
          refine b_goto (pc := 373) (tgt := 223) (dd dtX11_looks 216 rfl) (by decide) ?_
          refine b_pick [0, 1, 5, 6, 7, 8, 9] (lv' := [(6, _), (5, _), (4, _), (0, _), (1, _), (2, _), (3, _)]) rfl ?_
          rw [nI_1]
          refine ih (h + 1) _ _ _ hlt (by omega) rfl ?_ ?_
          · show _ = (lkM1 _ _ _ _ _ _ _).1
            unfold lkM1
            first
            | rw [if_pos h347]
            | (rw [if_neg h347]; first | rw [if_pos h354] | rw [if_neg h354])
          · show _ = ist J 0 63 (lkM1 _ _ _ _ _ _ _).2
            unfold lkM1
            first
            | rw [if_pos h347]
            | (rw [if_neg h347]; first | (rw [if_pos h354]; exact ist_ist) | rw [if_neg h354])
        · refine b_goto (pc := 357) (tgt := 370) (dd dtX11_looks 209 rfl) (by decide) ?_
          refine b_iinc1 (pc := 370) (i := 6) (lv' := [(6, _), (9, _), (8, _), (7, _), (5, _), (4, _), (0, _), (1, _), (2, _), (3, _)]) (dd dtX11_looks 215 rfl) rfl (Nat.le_of_ble_eq_true rfl) rfl ?_
          refine b_goto (pc := 373) (tgt := 223) (dd dtX11_looks 216 rfl) (by decide) ?_
          refine b_pick [0, 4, 5, 6, 7, 8, 9] (lv' := [(6, _), (5, _), (4, _), (0, _), (1, _), (2, _), (3, _)]) rfl ?_
          rw [nI_1]
          refine ih (h + 1) _ _ _ hlt (by omega) rfl ?_ ?_
          · show _ = (lkM1 _ _ _ _ _ _ _).1
            unfold lkM1
            first
            | rw [if_pos h347]
            | (rw [if_neg h347]; first | rw [if_pos h354] | rw [if_neg h354])
          · show _ = ist J 0 63 (lkM1 _ _ _ _ _ _ _).2
            unfold lkM1
            first
            | rw [if_pos h347]
            | (rw [if_neg h347]; first | (rw [if_pos h354]; exact ist_ist) | rw [if_neg h354])
set_option maxHeartbeats 4000000 in
theorem s147 {J : Wd} {m K N : Nat} {s coin kn : Int32} (hs : inR s 0 3) (hm : m ≤ 8) (hK : J 0 21 = nI K) (hK2 : K ≤ 30) (hN : J 0 3 = nI N) (hN2 : N ≤ 14) : ∀ (n h : Nat) (x5 : Int32) (I2 : Wd), h ≤ m → m < h + n → x5 = nI h → I2 = (lwM K N s kn J h) → Bd SyM mX11_looks 4 147 [(5, .int x5), (4, .int (nI m)), (0, .ref 0), (1, .int s), (2, .int coin), (3, .int kn)] [] I2 (some (.int (lkM (it2 J s) (it3 J s) (lwM K N s kn J m 40) m coin (J 0 63) (2 ^ m)).1)) (ist (lwM K N s kn J m) 0 63 (lkM (it2 J s) (it3 J s) (lwM K N s kn J m 40) m coin (J 0 63) (2 ^ m)).2) := by
  intro n
  induction n with
  | zero => intro h x5 I2 h1 h2; omega
  | succ n ih =>
    intro h x5 I2 h1 h2 e5 eW
    subst e5; subst eW
    have f21 : lwM K N s kn J h 0 21 = nI K := by rw [lwM_0 (by decide) (by decide), hK]
    have f3 : lwM K N s kn J h 0 3 = nI N := by rw [lwM_0 (by decide) (by decide), hN]
    have f46 : lwM K N s kn J h 46 = J 46 := lwM_fr (by decide) (by decide)
    refine b_iload (pc := 147) (i := 5) (dd dtX11_looks 86 rfl) rfl ?_
    refine b_iload (pc := 149) (i := 4) (dd dtX11_looks 87 rfl) rfl ?_
    refine b_icmpL_ge (pc := 151) (tgt := 217) (dd dtX11_looks 88 rfl) (by decide) (fun h151 => ?_) (fun h151 => ?_)
    · have he : h = m := Nat.le_antisymm h1 (ge_n h151 (by omega))
      subst he
      refine b_icm1 (pc := 217) (dd dtX11_looks 125 rfl) ?_
      refine b_istore (pc := 218) (i := 5) (lv' := [(5, _), (4, _), (0, _), (1, _), (2, _), (3, _)]) (dd dtX11_looks 126 rfl) (Nat.le_of_ble_eq_true rfl) rfl ?_
      refine b_ic0 (pc := 220) (dd dtX11_looks 127 rfl) ?_
      refine b_istore (pc := 221) (i := 6) (lv' := [(6, _), (5, _), (4, _), (0, _), (1, _), (2, _), (3, _)]) (dd dtX11_looks 128 rfl) (Nat.le_of_ble_eq_true rfl) rfl ?_
      have e2 : it2 (lwM K N s kn J h) s = it2 J s := by funext k; unfold it2 itM; rw [f46]
      have e3 : it3 (lwM K N s kn J h) s = it3 J s := by funext k; unfold it3 itM; rw [f46]
      have e63 : lwM K N s kn J h 0 63 = J 0 63 := lwM_0 (by decide) (by decide)
      have kk := s223 (J := lwM K N s kn J h) (coin := coin) (kn := kn) hs hm (2 ^ h + 1) 0 _ _ _ (Nat.zero_le _) (by omega) rfl rfl ist_id.symm
      rw [e2, e3, e63] at kk
      exact kk
    · have hlt : h < m := lt_n h151 (by omega) (by omega)
      refine b_aload_n (pc := 154) (i := 0) (dd dtX11_looks 89 rfl) rfl rfl ?_
      refine b_geta (pc := 155) (dd dtX11_looks 90 rfl) fwX11_242 pM_0 rM_0_75 ?_
      refine b_bipush (pc := 158) (v := 40) (dd dtX11_looks 91 rfl) (by decide) ?_
      refine b_iload_n (pc := 160) (i := 1) (dd dtX11_looks 92 rfl) rfl rfl ?_
      refine b_imul (pc := 161) (dd dtX11_looks 93 rfl) ?_
      refine b_ic2 (pc := 162) (dd dtX11_looks 94 rfl) ?_
      refine b_iload (pc := 163) (i := 5) (dd dtX11_looks 95 rfl) rfl ?_
      refine b_imul (pc := 165) (dd dtX11_looks 96 rfl) ?_
      refine b_iadd (pc := 166) (dd dtX11_looks 97 rfl) ?_
      refine b_iald (pc := 167) (dd dtX11_looks 98 rfl) pM_46 (vx2 hs (show h < 8 by omega)) ?_
      refine b_istore (pc := 168) (i := 6) (lv' := [(6, _), (5, _), (4, _), (0, _), (1, _), (2, _), (3, _)]) (dd dtX11_looks 99 rfl) (Nat.le_of_ble_eq_true rfl) rfl ?_
      refine b_aload_n (pc := 170) (i := 0) (dd dtX11_looks 100 rfl) rfl rfl ?_
      refine b_iload (pc := 171) (i := 6) (dd dtX11_looks 101 rfl) rfl ?_
      refine b_iload_n (pc := 173) (i := 3) (dd dtX11_looks 102 rfl) rfl rfl ?_
      refine b_invV (pc := 174) (dd dtX11_looks 103 rfl) mlX11_386 mvX11_doubtOf miX11_doubtOf (c_X11_doubtOf f21 hK2) oM_0 rfl rfl (by decide) (Nat.le_of_ble_eq_true rfl) ?_
      refine b_istore (pc := 177) (i := 7) (lv' := [(7, _), (6, _), (5, _), (4, _), (0, _), (1, _), (2, _), (3, _)]) (dd dtX11_looks 104 rfl) (Nat.le_of_ble_eq_true rfl) rfl ?_
      refine b_aload_n (pc := 179) (i := 0) (dd dtX11_looks 105 rfl) rfl rfl ?_
      refine b_geta (pc := 180) (dd dtX11_looks 106 rfl) fwX11_209 pM_0 rM_0_64 ?_
      refine b_iload (pc := 183) (i := 5) (dd dtX11_looks 107 rfl) rfl ?_
      refine b_iload (pc := 185) (i := 7) (dd dtX11_looks 108 rfl) rfl ?_
      refine b_bipush (pc := 187) (v := 30) (dd dtX11_looks 109 rfl) (by decide) ?_
      refine b_icmpL_le (pc := 189) (tgt := 209) (dd dtX11_looks 110 rfl) (by decide) (fun h189 => ?_) (fun h189 => ?_)
      · refine b_ic0 (pc := 209) (dd dtX11_looks 121 rfl) ?_
        refine b_iast (pc := 210) (dd dtX11_looks 122 rfl) pM_40 (vpn rfl (show h < 8 by omega) (by decide)) ?_
        refine b_iinc1 (pc := 211) (i := 5) (lv' := [(5, _), (7, _), (6, _), (4, _), (0, _), (1, _), (2, _), (3, _)]) (dd dtX11_looks 123 rfl) rfl (Nat.le_of_ble_eq_true rfl) rfl ?_
        refine b_goto (pc := 214) (tgt := 147) (dd dtX11_looks 124 rfl) (by decide) ?_
        refine b_pick [0, 3, 4, 5, 6, 7] (lv' := [(5, _), (4, _), (0, _), (1, _), (2, _), (3, _)]) rfl ?_
        rw [nI_1]
        refine ih (h + 1) _ _ hlt (by omega) rfl ?_
        · simp only [f46, cx2 hs (show h < 8 by omega), nI_clamp (show h < 2 ^ 31 by omega)] at *
          show _ = ist (spanW (lwM K N s kn J h) K (it2 J s h) kn 0) 40 h (wthM (lwM K N s kn J h) K N (it2 J s h) kn)
          congr 1
          unfold wthM
          first
            | (rw [if_pos (show 30 < dbM (lwM K N s kn J h) K (it2 J s h) kn from h189)]; simp (disch := decide) only [spanW_fr]; rfl)
            | rw [if_neg (show ¬ 30 < dbM (lwM K N s kn J h) K (it2 J s h) kn from h189)]
      · refine b_iload (pc := 192) (i := 7) (dd dtX11_looks 111 rfl) rfl ?_
        refine b_bipush (pc := 194) (v := 30) (dd dtX11_looks 112 rfl) (by decide) ?_
        refine b_isub (pc := 196) (dd dtX11_looks 113 rfl) ?_
        refine b_aload_n (pc := 197) (i := 0) (dd dtX11_looks 114 rfl) rfl rfl ?_
        refine b_iload (pc := 198) (i := 6) (dd dtX11_looks 115 rfl) rfl ?_
        refine b_invV (pc := 200) (dd dtX11_looks 116 rfl) mlX11_389 mvX11_peopleIn miX11_peopleIn (c_X11_peopleIn (by rw [spanW_0 (by decide) (by decide)]; exact f3) hN2) oM_0 rfl rfl (by decide) (Nat.le_of_ble_eq_true rfl) ?_
        refine b_ic1 (pc := 203) (dd dtX11_looks 117 rfl) ?_
        refine b_iadd (pc := 204) (dd dtX11_looks 118 rfl) ?_
        refine b_imul (pc := 205) (dd dtX11_looks 119 rfl) ?_
        refine b_goto (pc := 206) (tgt := 210) (dd dtX11_looks 120 rfl) (by decide) ?_
        refine b_iast (pc := 210) (dd dtX11_looks 122 rfl) pM_40 (vpn rfl (show h < 8 by omega) (by decide)) ?_
        refine b_iinc1 (pc := 211) (i := 5) (lv' := [(5, _), (7, _), (6, _), (4, _), (0, _), (1, _), (2, _), (3, _)]) (dd dtX11_looks 123 rfl) rfl (Nat.le_of_ble_eq_true rfl) rfl ?_
        refine b_goto (pc := 214) (tgt := 147) (dd dtX11_looks 124 rfl) (by decide) ?_
        refine b_pick [0, 3, 4, 5, 6, 7] (lv' := [(5, _), (4, _), (0, _), (1, _), (2, _), (3, _)]) rfl ?_
        rw [nI_1]
        refine ih (h + 1) _ _ hlt (by omega) rfl ?_
        · simp only [f46, cx2 hs (show h < 8 by omega), nI_clamp (show h < 2 ^ 31 by omega)] at *
          show _ = ist (spanW (lwM K N s kn J h) K (it2 J s h) kn 0) 40 h (wthM (lwM K N s kn J h) K N (it2 J s h) kn)
          congr 1
          unfold wthM
          first
            | (rw [if_pos (show 30 < dbM (lwM K N s kn J h) K (it2 J s h) kn from h189)]; simp (disch := decide) only [spanW_fr]; rfl)
            | rw [if_neg (show ¬ 30 < dbM (lwM K N s kn J h) K (it2 J s h) kn from h189)]
set_option maxHeartbeats 4000000 in
theorem s80 {J : Wd} {m K N : Nat} {s coin kn : Int32} (hs : inR s 0 3) (hm : m ≤ 8) (hK : J 0 21 = nI K) (hK2 : K ≤ 30) (hN : J 0 3 = nI N) (hN2 : N ≤ 14) : ∀ (n h : Nat) (x5 : Int32), h ≤ m → m < h + n → x5 = nI h → (okLM J s h) → Bd SyM mX11_looks 4 80 [(5, .int x5), (4, .int (nI m)), (0, .ref 0), (1, .int s), (2, .int coin), (3, .int kn)] [] J (some (.int (if okLM J s m then (lkM (it2 J s) (it3 J s) (lwM K N s kn J m 40) m coin (J 0 63) (2 ^ m)).1 else -2))) (if okLM J s m then ist (lwM K N s kn J m) 0 63 (lkM (it2 J s) (it3 J s) (lwM K N s kn J m 40) m coin (J 0 63) (2 ^ m)).2 else J) := by
  intro n
  induction n with
  | zero => intro h x5 h1 h2; omega
  | succ n ih =>
    intro h x5 h1 h2 e5 hI
    subst e5
    refine b_iload (pc := 80) (i := 5) (dd dtX11_looks 47 rfl) rfl ?_
    refine b_iload (pc := 82) (i := 4) (dd dtX11_looks 48 rfl) rfl ?_
    refine b_icmpL_ge (pc := 84) (tgt := 144) (dd dtX11_looks 49 rfl) (by decide) (fun h84 => ?_) (fun h84 => ?_)
    · have he : h = m := Nat.le_antisymm h1 (ge_n h84 (by omega))
      subst he
      refine b_ic0 (pc := 144) (dd dtX11_looks 84 rfl) ?_
      refine b_istore (pc := 145) (i := 5) (lv' := [(5, _), (4, _), (0, _), (1, _), (2, _), (3, _)]) (dd dtX11_looks 85 rfl) (Nat.le_of_ble_eq_true rfl) rfl ?_
      rw [if_pos hI, if_pos hI]
      exact s147 hs hm hK hK2 hN hN2 (h + 1) 0 _ _ (Nat.zero_le _) (by omega) rfl rfl
    · have hlt : h < m := lt_n h84 (by omega) (by omega)
      refine b_aload_n (pc := 87) (i := 0) (dd dtX11_looks 50 rfl) rfl rfl ?_
      refine b_aload_n (pc := 88) (i := 0) (dd dtX11_looks 51 rfl) rfl rfl ?_
      refine b_geta (pc := 89) (dd dtX11_looks 52 rfl) fwX11_242 pM_0 rM_0_75 ?_
      refine b_bipush (pc := 92) (v := 40) (dd dtX11_looks 53 rfl) (by decide) ?_
      refine b_iload_n (pc := 94) (i := 1) (dd dtX11_looks 54 rfl) rfl rfl ?_
      refine b_imul (pc := 95) (dd dtX11_looks 55 rfl) ?_
      refine b_ic2 (pc := 96) (dd dtX11_looks 56 rfl) ?_
      refine b_iload (pc := 97) (i := 5) (dd dtX11_looks 57 rfl) rfl ?_
      refine b_imul (pc := 99) (dd dtX11_looks 58 rfl) ?_
      refine b_iadd (pc := 100) (dd dtX11_looks 59 rfl) ?_
      refine b_iald (pc := 101) (dd dtX11_looks 60 rfl) pM_46 (vx2 hs (show h < 8 by omega)) ?_
      refine b_invV (pc := 102) (dd dtX11_looks 61 rfl) mlX11_248 mvX11_isCell miX11_isCell (c_X11_isCell) oM_0 rfl rfl (by decide) (Nat.le_of_ble_eq_true rfl) ?_
      refine b_ifb_eq (pc := 105) (tgt := 135) (dd dtX11_looks 62 rfl) (by decide) (fun h105 => ?_) (fun h105 => ?_)
      · simp only [cx2 hs (show h < 8 by omega), cx3 hs (show h < 8 by omega)] at *
        have hno : ¬ okLM J s m := by
          intro q
          have q2 := q h hlt
          unfold it2 it3 itM at q2
          obtain ⟨a1, a2⟩ := q2
          contradiction
        rw [if_neg hno, if_neg hno]
        refine b_bipush (pc := 135) (v := -2) (dd dtX11_looks 80 rfl) (by decide) ?_
        exact b_eq (b_iret (dd dtX11_looks 81 rfl) rfl) rfl rfl
      · refine b_aload_n (pc := 108) (i := 0) (dd dtX11_looks 63 rfl) rfl rfl ?_
        refine b_aload_n (pc := 109) (i := 0) (dd dtX11_looks 64 rfl) rfl rfl ?_
        refine b_geta (pc := 110) (dd dtX11_looks 65 rfl) fwX11_242 pM_0 rM_0_75 ?_
        refine b_bipush (pc := 113) (v := 40) (dd dtX11_looks 66 rfl) (by decide) ?_
        refine b_iload_n (pc := 115) (i := 1) (dd dtX11_looks 67 rfl) rfl rfl ?_
        refine b_imul (pc := 116) (dd dtX11_looks 68 rfl) ?_
        refine b_ic2 (pc := 117) (dd dtX11_looks 69 rfl) ?_
        refine b_iload (pc := 118) (i := 5) (dd dtX11_looks 70 rfl) rfl ?_
        refine b_imul (pc := 120) (dd dtX11_looks 71 rfl) ?_
        refine b_iadd (pc := 121) (dd dtX11_looks 72 rfl) ?_
        refine b_ic1 (pc := 122) (dd dtX11_looks 73 rfl) ?_
        refine b_iadd (pc := 123) (dd dtX11_looks 74 rfl) ?_
        refine b_iald (pc := 124) (dd dtX11_looks 75 rfl) pM_46 (vx3 hs (show h < 8 by omega)) ?_
        refine b_ic1 (pc := 125) (dd dtX11_looks 76 rfl) ?_
        refine b_sipush (pc := 126) (v := 9999) (dd dtX11_looks 77 rfl) (by decide) ?_
        refine b_invV (pc := 129) (dd dtX11_looks 78 rfl) mlX11_1 mvX11_in miX11_in (c_X11_in) oM_0 rfl rfl (by decide) (Nat.le_of_ble_eq_true rfl) ?_
        refine b_ifb_ne (pc := 132) (tgt := 138) (dd dtX11_looks 79 rfl) (by decide) (fun h132 => ?_) (fun h132 => ?_)
        · refine b_iinc1 (pc := 138) (i := 5) (lv' := [(5, _), (4, _), (0, _), (1, _), (2, _), (3, _)]) (dd dtX11_looks 82 rfl) rfl (Nat.le_of_ble_eq_true rfl) rfl ?_
          refine b_goto (pc := 141) (tgt := 80) (dd dtX11_looks 83 rfl) (by decide) ?_
          rw [nI_1]
          refine ih (h + 1) _ hlt (by omega) rfl ?_
          · simp only [cx2 hs (show h < 8 by omega), cx3 hs (show h < 8 by omega)] at *
            intro k hk
            rcases Nat.lt_succ_iff_lt_or_eq.mp hk with q | q
            · exact hI k q
            · subst q; exact ⟨h105, h132⟩
        · simp only [cx2 hs (show h < 8 by omega), cx3 hs (show h < 8 by omega)] at *
          have hno : ¬ okLM J s m := by
            intro q
            have q2 := q h hlt
            unfold it2 it3 itM at q2
            obtain ⟨a1, a2⟩ := q2
            contradiction
          rw [if_neg hno, if_neg hno]
          refine b_bipush (pc := 135) (v := -2) (dd dtX11_looks 80 rfl) (by decide) ?_
          exact b_eq (b_iret (dd dtX11_looks 81 rfl) rfl) rfl rfl
set_option maxHeartbeats 4000000 in
theorem c_X11_looks {J : Wd} {K N z : Nat} {s coin kn : Int32} (hK : J 0 21 = nI K) (hK2 : K ≤ 30) (hN : J 0 3 = nI N) (hN2 : N ≤ 14) (hz0 : inR s 0 3 → J 45 s.toNatClampNeg = nI z ∧ z ≤ 40) : Cal SyM mX11_looks 4 [.ref 0, .int s, .int coin, .int kn] J (some (.int (vLkM J K N z s coin kn))) (wLkM J K N z s coin kn) := by
  refine Cal.of (by decide) (Nat.le_of_ble_eq_true rfl) ?_
  show Bd _ _ _ _ [(0, _), (1, _), (2, _), (3, _)] _ _ _ _
  refine b_aload_n (pc := 0) (i := 0) (dd dtX11_looks 0 rfl) rfl rfl ?_
  refine b_iload_n (pc := 1) (i := 1) (dd dtX11_looks 1 rfl) rfl rfl ?_
  refine b_invV (pc := 2) (dd dtX11_looks 2 rfl) mlX11_297 mvX11_isSheet miX11_isSheet (c_X11_isSheet) oM_0 rfl rfl (by decide) (Nat.le_of_ble_eq_true rfl) ?_
  refine b_ifb_ne (pc := 5) (tgt := 10) (dd dtX11_looks 3 rfl) (by decide) (fun h5 => ?_) (fun h5 => ?_)
  · obtain ⟨hz, hz2⟩ := hz0 h5
    clear hz0
    refine b_aload_n (pc := 10) (i := 0) (dd dtX11_looks 6 rfl) rfl rfl ?_
    refine b_geta (pc := 11) (dd dtX11_looks 7 rfl) fwX11_236 pM_0 rM_0_73 ?_
    refine b_iload_n (pc := 14) (i := 1) (dd dtX11_looks 8 rfl) rfl rfl ?_
    refine b_iald (pc := 15) (dd dtX11_looks 9 rfl) pM_44 (vs4 h5) ?_
    refine b_ifL_ge (pc := 16) (tgt := 22) (dd dtX11_looks 10 rfl) (by decide) (fun h16 => ?_) (fun h16 => ?_)
    · refine b_aload_n (pc := 22) (i := 0) (dd dtX11_looks 13 rfl) rfl rfl ?_
      refine b_geta (pc := 23) (dd dtX11_looks 14 rfl) fwX11_239 pM_0 rM_0_74 ?_
      refine b_iload_n (pc := 26) (i := 1) (dd dtX11_looks 15 rfl) rfl rfl ?_
      refine b_iald (pc := 27) (dd dtX11_looks 16 rfl) pM_45 (vs4 h5) ?_
      rw [hz]
      refine b_bipush (pc := 28) (v := 16) (dd dtX11_looks 17 rfl) (by decide) ?_
      refine b_icmp_gt (pc := 30) (tgt := 64) (dd dtX11_looks 18 rfl) (by decide) (fun h30 => ?_) (fun h30 => ?_)
      · refine b_bipush (pc := 64) (v := -2) (dd dtX11_looks 36 rfl) (by decide) ?_
        refine b_eq (b_iret (dd dtX11_looks 37 rfl) rfl) ?_ ?_
        · unfold vLkM; (first | (rw [if_neg (show ¬ inR s 0 3 from by assumption)]; done) | (rw [if_pos (show inR s 0 3 from by assumption)]; first | (rw [if_pos (by assumption)]; done) | (rw [if_neg (show ¬ J 44 s.toNatClampNeg < 0 from by assumption), if_neg (by intro q; obtain ⟨⟨a1, a2, a3, a4⟩, a5⟩ := q; contradiction)])))
        · unfold wLkM; rw [if_neg (by intro q; obtain ⟨b1, b2, ⟨a1, a2, a3, a4⟩, a5⟩ := q; contradiction)]
      · refine b_aload_n (pc := 33) (i := 0) (dd dtX11_looks 19 rfl) rfl rfl ?_
        refine b_geta (pc := 34) (dd dtX11_looks 20 rfl) fwX11_239 pM_0 rM_0_74 ?_
        refine b_iload_n (pc := 37) (i := 1) (dd dtX11_looks 21 rfl) rfl rfl ?_
        refine b_iald (pc := 38) (dd dtX11_looks 22 rfl) pM_45 (vs4 h5) ?_
        rw [hz]
        refine b_ic2 (pc := 39) (dd dtX11_looks 23 rfl) ?_
        refine b_irem (pc := 40) (dd dtX11_looks 24 rfl) (by decide) ?_
        refine b_if_ne (pc := 41) (tgt := 64) (dd dtX11_looks 25 rfl) (by decide) (fun h41 => ?_) (fun h41 => ?_)
        · refine b_bipush (pc := 64) (v := -2) (dd dtX11_looks 36 rfl) (by decide) ?_
          refine b_eq (b_iret (dd dtX11_looks 37 rfl) rfl) ?_ ?_
          · unfold vLkM; (first | (rw [if_neg (show ¬ inR s 0 3 from by assumption)]; done) | (rw [if_pos (show inR s 0 3 from by assumption)]; first | (rw [if_pos (by assumption)]; done) | (rw [if_neg (show ¬ J 44 s.toNatClampNeg < 0 from by assumption), if_neg (by intro q; obtain ⟨⟨a1, a2, a3, a4⟩, a5⟩ := q; contradiction)])))
          · unfold wLkM; rw [if_neg (by intro q; obtain ⟨b1, b2, ⟨a1, a2, a3, a4⟩, a5⟩ := q; contradiction)]
        · refine b_aload_n (pc := 44) (i := 0) (dd dtX11_looks 26 rfl) rfl rfl ?_
          refine b_iload_n (pc := 45) (i := 2) (dd dtX11_looks 27 rfl) rfl rfl ?_
          refine b_ic0 (pc := 46) (dd dtX11_looks 28 rfl) ?_
          refine b_ldcw (pc := 47) (dd dtX11_looks 29 rfl) kcX11_403 ?_
          refine b_invV (pc := 50) (dd dtX11_looks 30 rfl) mlX11_1 mvX11_in miX11_in (c_X11_in) oM_0 rfl rfl (by decide) (Nat.le_of_ble_eq_true rfl) ?_
          refine b_ifb_eq (pc := 53) (tgt := 64) (dd dtX11_looks 31 rfl) (by decide) (fun h53 => ?_) (fun h53 => ?_)
          · refine b_bipush (pc := 64) (v := -2) (dd dtX11_looks 36 rfl) (by decide) ?_
            refine b_eq (b_iret (dd dtX11_looks 37 rfl) rfl) ?_ ?_
            · unfold vLkM; (first | (rw [if_neg (show ¬ inR s 0 3 from by assumption)]; done) | (rw [if_pos (show inR s 0 3 from by assumption)]; first | (rw [if_pos (by assumption)]; done) | (rw [if_neg (show ¬ J 44 s.toNatClampNeg < 0 from by assumption), if_neg (by intro q; obtain ⟨⟨a1, a2, a3, a4⟩, a5⟩ := q; contradiction)])))
            · unfold wLkM; rw [if_neg (by intro q; obtain ⟨b1, b2, ⟨a1, a2, a3, a4⟩, a5⟩ := q; contradiction)]
          · refine b_aload_n (pc := 56) (i := 0) (dd dtX11_looks 32 rfl) rfl rfl ?_
            refine b_iload_n (pc := 57) (i := 3) (dd dtX11_looks 33 rfl) rfl rfl ?_
            refine b_invV (pc := 58) (dd dtX11_looks 34 rfl) mlX11_277 mvX11_isKnown miX11_isKnown (c_X11_isKnown) oM_0 rfl rfl (by decide) (Nat.le_of_ble_eq_true rfl) ?_
            refine b_ifb_ne (pc := 61) (tgt := 67) (dd dtX11_looks 35 rfl) (by decide) (fun h61 => ?_) (fun h61 => ?_)
            · refine b_aload_n (pc := 67) (i := 0) (dd dtX11_looks 38 rfl) rfl rfl ?_
              refine b_geta (pc := 68) (dd dtX11_looks 39 rfl) fwX11_239 pM_0 rM_0_74 ?_
              refine b_iload_n (pc := 71) (i := 1) (dd dtX11_looks 40 rfl) rfl rfl ?_
              refine b_iald (pc := 72) (dd dtX11_looks 41 rfl) pM_45 (vs4 h5) ?_
              rw [hz]
              refine b_ic2 (pc := 73) (dd dtX11_looks 42 rfl) ?_
              refine b_idiv (pc := 74) (dd dtX11_looks 43 rfl) (by decide) ?_
              refine b_istore (pc := 75) (i := 4) (lv' := [(4, _), (0, _), (1, _), (2, _), (3, _)]) (dd dtX11_looks 44 rfl) (Nat.le_of_ble_eq_true rfl) rfl ?_
              refine b_ic0 (pc := 77) (dd dtX11_looks 45 rfl) ?_
              refine b_istore (pc := 78) (i := 5) (lv' := [(5, _), (4, _), (0, _), (1, _), (2, _), (3, _)]) (dd dtX11_looks 46 rfl) (Nat.le_of_ble_eq_true rfl) rfl ?_
              have z16 : z ≤ 16 := ge_n (h := 16) (N := z) h30 (by omega)
              rw [show nI z / 2 = nI (z / 2) from pk_div (d := 2) (by omega) (by decide) (by decide)]
              refine b_eq (s80 h5 (show z / 2 ≤ 8 by omega) hK hK2 hN hN2 (z / 2 + 1) 0 _ (Nat.zero_le _) (by omega) rfl (fun j hj => absurd hj (Nat.not_lt_zero j))) ?_ ?_
              · unfold vLkM
                rw [if_pos h5, if_neg (show ¬ J 44 s.toNatClampNeg < 0 from by assumption)]
                by_cases hu : okLM J s (z / 2)
                · rw [if_pos hu, if_pos (show okLkM J z s coin kn from ⟨⟨h30, h41, h53, h61⟩, hu⟩)]; rfl
                · rw [if_neg hu, if_neg (fun q => hu q.2)]
              · unfold wLkM
                by_cases hu : okLM J s (z / 2)
                · rw [if_pos hu, if_pos (show inR s 0 3 ∧ ¬ J 44 s.toNatClampNeg < 0 ∧ okLkM J z s coin kn from ⟨h5, by assumption, ⟨h30, h41, h53, h61⟩, hu⟩)]; rfl
                · rw [if_neg hu, if_neg (fun q => hu q.2.2.2)]
            · refine b_bipush (pc := 64) (v := -2) (dd dtX11_looks 36 rfl) (by decide) ?_
              refine b_eq (b_iret (dd dtX11_looks 37 rfl) rfl) ?_ ?_
              · unfold vLkM; (first | (rw [if_neg (show ¬ inR s 0 3 from by assumption)]; done) | (rw [if_pos (show inR s 0 3 from by assumption)]; first | (rw [if_pos (by assumption)]; done) | (rw [if_neg (show ¬ J 44 s.toNatClampNeg < 0 from by assumption), if_neg (by intro q; obtain ⟨⟨a1, a2, a3, a4⟩, a5⟩ := q; contradiction)])))
              · unfold wLkM; rw [if_neg (by intro q; obtain ⟨b1, b2, ⟨a1, a2, a3, a4⟩, a5⟩ := q; contradiction)]
    · refine b_bipush (pc := 19) (v := -11) (dd dtX11_looks 11 rfl) (by decide) ?_
      refine b_eq (b_iret (dd dtX11_looks 12 rfl) rfl) ?_ ?_
      · unfold vLkM; (first | (rw [if_neg (show ¬ inR s 0 3 from by assumption)]; done) | (rw [if_pos (show inR s 0 3 from by assumption)]; first | (rw [if_pos (by assumption)]; done) | (rw [if_neg (show ¬ J 44 s.toNatClampNeg < 0 from by assumption), if_neg (by intro q; obtain ⟨⟨a1, a2, a3, a4⟩, a5⟩ := q; contradiction)])))
      · unfold wLkM; rw [if_neg (by intro q; obtain ⟨b1, b2, ⟨a1, a2, a3, a4⟩, a5⟩ := q; contradiction)]
  · refine b_icm1 (pc := 8) (dd dtX11_looks 4 rfl) ?_
    refine b_eq (b_iret (dd dtX11_looks 5 rfl) rfl) ?_ ?_
    · unfold vLkM; (first | (rw [if_neg (show ¬ inR s 0 3 from by assumption)]; done) | (rw [if_pos (show inR s 0 3 from by assumption)]; first | (rw [if_pos (by assumption)]; done) | (rw [if_neg (show ¬ J 44 s.toNatClampNeg < 0 from by assumption), if_neg (by intro q; obtain ⟨⟨a1, a2, a3, a4⟩, a5⟩ := q; contradiction)])))
    · unfold wLkM; rw [if_neg (by intro q; obtain ⟨b1, b2, ⟨a1, a2, a3, a4⟩, a5⟩ := q; contradiction)]
