def tX1_meetsNeeds : List (Nat × Instr × Nat) := [(0, .iconst 0, 1), (1, .istore_n 1, 1), (2, .iload_n 1, 1), (3, .aload_n 0, 1), (4, .getfield 43, 3), (7, .if_icmp .ge 65, 3), (10, .iconst 0, 1), (11, .istore_n 2, 1), (12, .iconst 0, 1), (13, .istore_n 3, 1), (14, .iload_n 3, 1), (15, .aload_n 0, 1), (16, .getfield 9, 3), (19, .if_icmp .ge 35, 3), (22, .iload_n 2, 1), (23, .aload_n 0, 1), (24, .getfield 49, 3), (27, .iload_n 1, 1), (28, .iaload, 1), (29, .iload_n 3, 1), (30, .ishr, 1), (31, .iconst 1, 1), (32, .iand, 1), (33, .ifCond .eq 12, 3), (36, .aload_n 0, 1), (37, .getfield 40, 3), (40, .iload_n 3, 1), (41, .iaload, 1), (42, .goto 4, 3), (45, .iconst 0, 1), (46, .iadd, 1), (47, .istore_n 2, 1), (48, .iinc 3 1, 3), (51, .goto (-37), 3), (54, .iload_n 2, 1), (55, .aload_n 0, 1), (56, .getfield 46, 3), (59, .iload_n 1, 1), (60, .iaload, 1), (61, .if_icmp .ge 5, 3), (64, .iconst 0, 1), (65, .ireturn, 1), (66, .iinc 1 1, 3), (69, .goto (-67), 3), (72, .iconst 1, 1), (73, .ireturn, 1)]
theorem dtX1_meetsNeeds : dec_ok mX1_meetsNeeds.2.1 tX1_meetsNeeds = true := by decide +kernel
set_option maxHeartbeats 4000000 in
theorem li_X1_meetsNeeds {J : Wd} {z q : Nat} (hz : J 57 0 = nI z) (hz2 : z ≤ 5) (hq : J 57 10 = nI q) (hq2 : q ≤ 8) {t : Nat} (ht : t < q) {r : Option Value} {I' : Wd} (kk : Bd SyC mX1_meetsNeeds 0 54 [(2, .int (sNd (J 65) (J 63) t z)), (1, .int (nI t)), (0, .ref 57)] [] J r I') : ∀ (n h : Nat) (x3 x2 : Int32), h ≤ z → z < h + n → x3 = nI h → x2 = sNd (J 65) (J 63) t h → Bd SyC mX1_meetsNeeds 0 14 [(3, .int x3), (2, .int x2), (1, .int (nI t)), (0, .ref 57)] [] J r I' := by
  intro n
  induction n with
  | zero => intro h x3 x2 h1 h2; omega
  | succ n ih =>
    intro h x3 x2 h1 h2 e3 e2
    subst e3; subst e2
    have hct : (nI t).toNatClampNeg = t := nI_clamp (by omega)
    refine b_iload_n (pc := 14) (i := 3) (dd dtX1_meetsNeeds 10 rfl) rfl rfl ?_
    refine b_aload_n (pc := 15) (i := 0) (dd dtX1_meetsNeeds 11 rfl) rfl rfl ?_
    refine b_geti (pc := 16) (dd dtX1_meetsNeeds 12 rfl) fwX1_9 pC_57 ?_
    refine b_icmpL_ge (pc := 19) (tgt := 54) (dd dtX1_meetsNeeds 13 rfl) (by decide) (fun h19 => ?_) (fun h19 => ?_)
    · refine b_pick [1, 2, 3] (lv' := [(2, _), (1, _), (0, _)]) rfl ?_
      rw [hz] at h19
      have he : h = z := by have := ge_n h19 (by omega); omega
      subst he
      exact kk
    · rw [hz] at h19
      have hlt : h < z := lt_n h19 (by omega) (by omega)
      refine b_iload_n (pc := 22) (i := 2) (dd dtX1_meetsNeeds 14 rfl) rfl rfl ?_
      refine b_aload_n (pc := 23) (i := 0) (dd dtX1_meetsNeeds 15 rfl) rfl rfl ?_
      refine b_geta (pc := 24) (dd dtX1_meetsNeeds 16 rfl) fwX1_49 pC_57 rC_57_12 ?_
      refine b_iload_n (pc := 27) (i := 1) (dd dtX1_meetsNeeds 17 rfl) rfl rfl ?_
      refine b_iald (pc := 28) (dd dtX1_meetsNeeds 18 rfl) pC_65 (vpn rfl (show t < 8 by omega) (by decide)) ?_
      refine b_iload_n (pc := 29) (i := 3) (dd dtX1_meetsNeeds 19 rfl) rfl rfl ?_
      refine b_ishr (pc := 30) (dd dtX1_meetsNeeds 20 rfl) ?_
      refine b_ic1 (pc := 31) (dd dtX1_meetsNeeds 21 rfl) ?_
      refine b_iand (pc := 32) (dd dtX1_meetsNeeds 22 rfl) ?_
      refine b_if_eq (pc := 33) (tgt := 45) (dd dtX1_meetsNeeds 23 rfl) (by decide) (fun h33 => ?_) (fun h33 => ?_)
      · refine b_ic0 (pc := 45) (dd dtX1_meetsNeeds 29 rfl) ?_
        refine b_iadd (pc := 46) (dd dtX1_meetsNeeds 30 rfl) ?_
        refine b_istore_n (pc := 47) (i := 2) (lv' := [(2, _), (3, _), (1, _), (0, _)]) (dd dtX1_meetsNeeds 31 rfl) rfl (Nat.le_of_ble_eq_true rfl) rfl ?_
        refine b_iinc1 (pc := 48) (i := 3) (lv' := [(3, _), (2, _), (1, _), (0, _)]) (dd dtX1_meetsNeeds 32 rfl) rfl (Nat.le_of_ble_eq_true rfl) rfl ?_
        refine b_goto (pc := 51) (tgt := 14) (dd dtX1_meetsNeeds 33 rfl) (by decide) ?_
        rw [nI_1]
        refine ih (h + 1) _ _ hlt (by omega) rfl ?_
        rw [hct] at h33
        try simp only [nI_clamp (show h < 2 ^ 31 by omega)]
        simp only [sNd]
        first | rw [if_pos (show bitS (J 65 t) h = 0 from h33)] | rw [if_neg (show ¬ bitS (J 65 t) h = 0 from h33)]
      · refine b_aload_n (pc := 36) (i := 0) (dd dtX1_meetsNeeds 24 rfl) rfl rfl ?_
        refine b_geta (pc := 37) (dd dtX1_meetsNeeds 25 rfl) fwX1_40 pC_57 rC_57_9 ?_
        refine b_iload_n (pc := 40) (i := 3) (dd dtX1_meetsNeeds 26 rfl) rfl rfl ?_
        refine b_iald (pc := 41) (dd dtX1_meetsNeeds 27 rfl) pC_63 (vpn rfl (show h < 5 by omega) (by decide)) ?_
        refine b_goto (pc := 42) (tgt := 46) (dd dtX1_meetsNeeds 28 rfl) (by decide) ?_
        refine b_iadd (pc := 46) (dd dtX1_meetsNeeds 30 rfl) ?_
        refine b_istore_n (pc := 47) (i := 2) (lv' := [(2, _), (3, _), (1, _), (0, _)]) (dd dtX1_meetsNeeds 31 rfl) rfl (Nat.le_of_ble_eq_true rfl) rfl ?_
        refine b_iinc1 (pc := 48) (i := 3) (lv' := [(3, _), (2, _), (1, _), (0, _)]) (dd dtX1_meetsNeeds 32 rfl) rfl (Nat.le_of_ble_eq_true rfl) rfl ?_
        refine b_goto (pc := 51) (tgt := 14) (dd dtX1_meetsNeeds 33 rfl) (by decide) ?_
        rw [nI_1]
        refine ih (h + 1) _ _ hlt (by omega) rfl ?_
        rw [hct] at h33
        try simp only [nI_clamp (show h < 2 ^ 31 by omega)]
        simp only [sNd]
        first | rw [if_pos (show bitS (J 65 t) h = 0 from h33)] | rw [if_neg (show ¬ bitS (J 65 t) h = 0 from h33)]
set_option maxHeartbeats 4000000 in
theorem l_X1_meetsNeeds {J : Wd} {z q : Nat} (hz : J 57 0 = nI z) (hz2 : z ≤ 5) (hq : J 57 10 = nI q) (hq2 : q ≤ 8) : ∀ (n h : Nat) (x1 : Int32), h ≤ q → q < h + n → x1 = nI h → (mnP J z h) → Bd SyC mX1_meetsNeeds 0 2 [(1, .int x1), (0, .ref 57)] [] J (some (.int (bi (mnP J z q)))) J := by
  intro n
  induction n with
  | zero => intro h x1 h1 h2; omega
  | succ n ih =>
    intro h x1 h1 h2 e1 hI
    subst e1
    refine b_iload_n (pc := 2) (i := 1) (dd dtX1_meetsNeeds 2 rfl) rfl rfl ?_
    refine b_aload_n (pc := 3) (i := 0) (dd dtX1_meetsNeeds 3 rfl) rfl rfl ?_
    refine b_geti (pc := 4) (dd dtX1_meetsNeeds 4 rfl) fwX1_43 pC_57 ?_
    refine b_icmpL_ge (pc := 7) (tgt := 72) (dd dtX1_meetsNeeds 5 rfl) (by decide) (fun h7 => ?_) (fun h7 => ?_)
    · rw [hq] at h7
      have he : h = q := Nat.le_antisymm h1 (ge_n h7 (by omega))
      subst he
      refine b_ic1 (pc := 72) (dd dtX1_meetsNeeds 44 rfl) ?_
      refine b_eq (b_zret (dd dtX1_meetsNeeds 45 rfl) rfl (by first | rfl | exact nar_bi)) ?_ ?_
      · rw [bi_t hI]
      · rfl
    · rw [hq] at h7
      have hlt : h < q := lt_n h7 (by omega) (by omega)
      refine b_ic0 (pc := 10) (dd dtX1_meetsNeeds 6 rfl) ?_
      refine b_istore_n (pc := 11) (i := 2) (lv' := [(2, _), (1, _), (0, _)]) (dd dtX1_meetsNeeds 7 rfl) rfl (Nat.le_of_ble_eq_true rfl) rfl ?_
      refine b_ic0 (pc := 12) (dd dtX1_meetsNeeds 8 rfl) ?_
      refine b_istore_n (pc := 13) (i := 3) (lv' := [(3, _), (2, _), (1, _), (0, _)]) (dd dtX1_meetsNeeds 9 rfl) rfl (Nat.le_of_ble_eq_true rfl) rfl ?_
      refine li_X1_meetsNeeds hz hz2 hq hq2 hlt ?_ (z + 1) 0 _ _ (Nat.zero_le _) (by omega) rfl rfl
      refine b_iload_n (pc := 54) (i := 2) (dd dtX1_meetsNeeds 34 rfl) rfl rfl ?_
      refine b_aload_n (pc := 55) (i := 0) (dd dtX1_meetsNeeds 35 rfl) rfl rfl ?_
      refine b_geta (pc := 56) (dd dtX1_meetsNeeds 36 rfl) fwX1_46 pC_57 rC_57_11 ?_
      refine b_iload_n (pc := 59) (i := 1) (dd dtX1_meetsNeeds 37 rfl) rfl rfl ?_
      refine b_iald (pc := 60) (dd dtX1_meetsNeeds 38 rfl) pC_64 (vpn rfl (show h < 8 by omega) (by decide)) ?_
      refine b_icmpL_ge (pc := 61) (tgt := 66) (dd dtX1_meetsNeeds 39 rfl) (by decide) (fun h61 => ?_) (fun h61 => ?_)
      · rw [nI_clamp (show h < 2 ^ 31 by omega)] at h61
        refine b_iinc1 (pc := 66) (i := 1) (lv' := [(1, _), (2, _), (0, _)]) (dd dtX1_meetsNeeds 42 rfl) rfl (Nat.le_of_ble_eq_true rfl) rfl ?_
        refine b_goto (pc := 69) (tgt := 2) (dd dtX1_meetsNeeds 43 rfl) (by decide) ?_
        refine b_pick [0, 2] (lv' := [(1, _), (0, _)]) rfl ?_
        rw [nI_1]
        refine ih (h + 1) _ hlt (by omega) rfl ?_
        intro i hi
        rcases Nat.lt_succ_iff_lt_or_eq.mp hi with p | p
        · exact hI i p
        · subst p; exact h61
      · rw [nI_clamp (show h < 2 ^ 31 by omega)] at h61
        have hno : ¬ mnP J z q := fun p => p h hlt h61
        refine b_ic0 (pc := 64) (dd dtX1_meetsNeeds 40 rfl) ?_
        refine b_eq (b_zret (dd dtX1_meetsNeeds 41 rfl) rfl (by first | rfl | exact nar_bi)) ?_ ?_
        · rw [bi_f hno]
        · rfl
set_option maxHeartbeats 4000000 in
theorem c_X1_meetsNeeds {J : Wd} {z q : Nat} (hz : J 57 0 = nI z) (hz2 : z ≤ 5) (hq : J 57 10 = nI q) (hq2 : q ≤ 8) : Cal SyC mX1_meetsNeeds 0 [.ref 57] J (some (.int (bi (mnP J z q)))) J := by
  refine Cal.of (by decide) (Nat.le_of_ble_eq_true rfl) ?_
  show Bd _ _ _ _ [(0, _)] _ _ _ _
  refine b_ic0 (pc := 0) (dd dtX1_meetsNeeds 0 rfl) ?_
  refine b_istore_n (pc := 1) (i := 1) (lv' := [(1, _), (0, _)]) (dd dtX1_meetsNeeds 1 rfl) rfl (Nat.le_of_ble_eq_true rfl) rfl ?_
  exact l_X1_meetsNeeds hz hz2 hq hq2 (q + 1) 0 _ (Nat.zero_le _) (by omega) rfl (fun i hi => absurd hi (Nat.not_lt_zero i))
def tX1_weighUp : List (Nat × Instr × Nat) := [(0, .iconst 0, 1), (1, .istore_n 1, 1), (2, .iconst 0, 1), (3, .istore_n 2, 1), (4, .iconst 0, 1), (5, .istore_n 3, 1), (6, .iload_n 3, 1), (7, .aload_n 0, 1), (8, .getfield 9, 3), (11, .if_icmp .ge 35, 3), (14, .iload_n 1, 1), (15, .aload_n 0, 1), (16, .getfield 40, 3), (19, .iload_n 3, 1), (20, .iaload, 1), (21, .ifCond .le 7, 3), (24, .iconst 1, 1), (25, .goto 4, 3), (28, .iconst 0, 1), (29, .iadd, 1), (30, .istore_n 1, 1), (31, .iload_n 2, 1), (32, .aload_n 0, 1), (33, .getfield 40, 3), (36, .iload_n 3, 1), (37, .iaload, 1), (38, .iadd, 1), (39, .istore_n 2, 1), (40, .iinc 3 1, 3), (43, .goto (-37), 3), (46, .aload_n 0, 1), (47, .getfield 15, 3), (50, .ifCond .eq 27, 3), (53, .iload_n 1, 1), (54, .aload_n 0, 1), (55, .getfield 18, 3), (58, .if_icmp .lt 19, 3), (61, .iload_n 1, 1), (62, .aload_n 0, 1), (63, .getfield 18, 3), (66, .if_icmp .ne 71, 3), (69, .iload_n 2, 1), (70, .aload_n 0, 1), (71, .getfield 21, 3), (74, .if_icmp .ge 63, 3), (77, .aload_n 0, 1), (78, .iconst 1, 1), (79, .putfield 15, 3), (82, .aload_n 0, 1), (83, .iload_n 1, 1), (84, .putfield 18, 3), (87, .aload_n 0, 1), (88, .iload_n 2, 1), (89, .putfield 21, 3), (92, .aload_n 0, 1), (93, .getfield 40, 3), (96, .iconst 0, 1), (97, .aload_n 0, 1), (98, .getfield 24, 3), (101, .iconst 0, 1), (102, .iconst 5, 1), (103, .invokestatic 108, 3), (106, .aload_n 0, 1), (107, .getfield 40, 3), (110, .iconst 0, 1), (111, .aload_n 0, 1), (112, .getfield 28, 3), (115, .iconst 0, 1), (116, .iconst 5, 1), (117, .invokestatic 108, 3), (120, .aload_n 0, 1), (121, .getfield 40, 3), (124, .iconst 0, 1), (125, .aload_n 0, 1), (126, .getfield 31, 3), (129, .iconst 0, 1), (130, .iconst 5, 1), (131, .invokestatic 108, 3), (134, .goto 87, 3), (137, .iload_n 1, 1), (138, .aload_n 0, 1), (139, .getfield 18, 3), (142, .if_icmp .ne 79, 3), (145, .iload_n 2, 1), (146, .aload_n 0, 1), (147, .getfield 21, 3), (150, .if_icmp .ne 71, 3), (153, .aload_n 0, 1), (154, .dup, 1), (155, .getfield 15, 3), (158, .iconst 1, 1), (159, .iadd, 1), (160, .putfield 15, 3), (163, .iconst 0, 1), (164, .istore_n 3, 1), (165, .iload_n 3, 1), (166, .aload_n 0, 1), (167, .getfield 9, 3), (170, .if_icmp .ge 51, 3), (173, .aload_n 0, 1), (174, .getfield 28, 3), (177, .iload_n 3, 1), (178, .aload_n 0, 1), (179, .getfield 28, 3), (182, .iload_n 3, 1), (183, .iaload, 1), (184, .aload_n 0, 1), (185, .getfield 40, 3), (188, .iload_n 3, 1), (189, .iaload, 1), (190, .invokestatic 57, 3), (193, .iastore, 1), (194, .aload_n 0, 1), (195, .getfield 31, 3), (198, .iload_n 3, 1), (199, .aload_n 0, 1), (200, .getfield 31, 3), (203, .iload_n 3, 1), (204, .iaload, 1), (205, .aload_n 0, 1), (206, .getfield 40, 3), (209, .iload_n 3, 1), (210, .iaload, 1), (211, .invokestatic 114, 3), (214, .iastore, 1), (215, .iinc 3 1, 3), (218, .goto (-53), 3), (221, .return_, 1)]
theorem dtX1_weighUp : dec_ok mX1_weighUp.2.1 tX1_weighUp = true := by decide +kernel
theorem sF_eq : True := trivial
set_option maxHeartbeats 4000000 in
theorem lt_X1_weighUp {J : Wd} {z : Nat} (hz : J 57 0 = nI z) (hz2 : z ≤ 5) {y1 y2 : Int32} : ∀ (n h : Nat) (x3 : Int32) (I2 : Wd), h ≤ z → z < h + n → x3 = nI h → I2 = (wgTie J h) → Bd SyC mX1_weighUp 1 165 [(3, .int x3), (2, .int y2), (1, .int y1), (0, .ref 57)] [] I2 none (wgTie J z) := by
  intro n
  induction n with
  | zero => intro h x3 I2 h1 h2; omega
  | succ n ih =>
    intro h x3 I2 h1 h2 e3 eW
    subst e3; subst eW
    have hzt : wgTie J h 57 0 = nI z := by unfold wgTie; simp (disch := decide) only [rset_ne, ist_eq, upd_ne, ne_eq, Nat.reduceEqDiff, not_false_eq_true]; exact hz
    have f63 : wgTie J h 63 = J 63 := by unfold wgTie; simp (disch := decide) only [rset_ne, ist_ne]
    have f59 : wgTie J h 59 h = J 59 h := by unfold wgTie; rw [rset_ne (by decide), rset_eq, fil_out (Nat.le_refl h)]
    have f60 : wgTie J h 60 h = J 60 h := by unfold wgTie; rw [rset_eq, fil_out (Nat.le_refl h)]
    refine b_iload_n (pc := 165) (i := 3) (dd dtX1_weighUp 95 rfl) rfl rfl ?_
    refine b_aload_n (pc := 166) (i := 0) (dd dtX1_weighUp 96 rfl) rfl rfl ?_
    refine b_geti (pc := 167) (dd dtX1_weighUp 97 rfl) fwX1_9 pC_57 ?_
    refine b_icmpL_ge (pc := 170) (tgt := 221) (dd dtX1_weighUp 98 rfl) (by decide) (fun h170 => ?_) (fun h170 => ?_)
    · rw [hzt] at h170
      have he : h = z := Nat.le_antisymm h1 (ge_n h170 (by omega))
      subst he
      exact b_eq (b_vret (dd dtX1_weighUp 127 rfl) rfl) rfl rfl
    · rw [hzt] at h170
      have hlt : h < z := lt_n h170 (by omega) (by omega)
      refine b_aload_n (pc := 173) (i := 0) (dd dtX1_weighUp 99 rfl) rfl rfl ?_
      refine b_geta (pc := 174) (dd dtX1_weighUp 100 rfl) fwX1_28 pC_57 rC_57_5 ?_
      refine b_iload_n (pc := 177) (i := 3) (dd dtX1_weighUp 101 rfl) rfl rfl ?_
      refine b_aload_n (pc := 178) (i := 0) (dd dtX1_weighUp 102 rfl) rfl rfl ?_
      refine b_geta (pc := 179) (dd dtX1_weighUp 103 rfl) fwX1_28 pC_57 rC_57_5 ?_
      refine b_iload_n (pc := 182) (i := 3) (dd dtX1_weighUp 104 rfl) rfl rfl ?_
      refine b_iald (pc := 183) (dd dtX1_weighUp 105 rfl) pC_59 (vpn rfl (show h < 5 by omega) (by decide)) ?_
      refine b_aload_n (pc := 184) (i := 0) (dd dtX1_weighUp 106 rfl) rfl rfl ?_
      refine b_geta (pc := 185) (dd dtX1_weighUp 107 rfl) fwX1_40 pC_57 rC_57_9 ?_
      refine b_iload_n (pc := 188) (i := 3) (dd dtX1_weighUp 108 rfl) rfl rfl ?_
      refine b_iald (pc := 189) (dd dtX1_weighUp 109 rfl) pC_63 (vpn rfl (show h < 5 by omega) (by decide)) ?_
      refine b_mmin (pc := 190) (dd dtX1_weighUp 110 rfl) wlX1_57 (Nat.le_of_ble_eq_true rfl) ?_
      refine b_iast (pc := 193) (dd dtX1_weighUp 111 rfl) pC_59 (vpn rfl (show h < 5 by omega) (by decide)) ?_
      refine b_aload_n (pc := 194) (i := 0) (dd dtX1_weighUp 112 rfl) rfl rfl ?_
      refine b_geta (pc := 195) (dd dtX1_weighUp 113 rfl) fwX1_31 pC_57 rC_57_6 ?_
      refine b_iload_n (pc := 198) (i := 3) (dd dtX1_weighUp 114 rfl) rfl rfl ?_
      refine b_aload_n (pc := 199) (i := 0) (dd dtX1_weighUp 115 rfl) rfl rfl ?_
      refine b_geta (pc := 200) (dd dtX1_weighUp 116 rfl) fwX1_31 pC_57 rC_57_6 ?_
      refine b_iload_n (pc := 203) (i := 3) (dd dtX1_weighUp 117 rfl) rfl rfl ?_
      refine b_iald (pc := 204) (dd dtX1_weighUp 118 rfl) pC_60 (vpn rfl (show h < 5 by omega) (by decide)) ?_
      refine b_aload_n (pc := 205) (i := 0) (dd dtX1_weighUp 119 rfl) rfl rfl ?_
      refine b_geta (pc := 206) (dd dtX1_weighUp 120 rfl) fwX1_40 pC_57 rC_57_9 ?_
      refine b_iload_n (pc := 209) (i := 3) (dd dtX1_weighUp 121 rfl) rfl rfl ?_
      refine b_iald (pc := 210) (dd dtX1_weighUp 122 rfl) pC_63 (vpn rfl (show h < 5 by omega) (by decide)) ?_
      refine b_mmax (pc := 211) (dd dtX1_weighUp 123 rfl) wlX1_114 (Nat.le_of_ble_eq_true rfl) ?_
      refine b_iast (pc := 214) (dd dtX1_weighUp 124 rfl) pC_60 (vpn rfl (show h < 5 by omega) (by decide)) ?_
      refine b_iinc1 (pc := 215) (i := 3) (lv' := [(3, _), (2, _), (1, _), (0, _)]) (dd dtX1_weighUp 125 rfl) rfl (Nat.le_of_ble_eq_true rfl) rfl ?_
      refine b_goto (pc := 218) (tgt := 165) (dd dtX1_weighUp 126 rfl) (by decide) ?_
      rw [nI_1]
      refine ih (h + 1) _ _ hlt (by omega) rfl ?_
      · simp only [nI_clamp (show h < 2 ^ 31 by omega)]
        rw [ist_ne (show (60 : Nat) ≠ 59 by decide), ist_ne (show (63 : Nat) ≠ 59 by decide), f59, f60, f63]
        unfold wgTie
        rw [rset_comm (show (59 : Nat) ≠ 60 by decide), ist_rset, rset_comm (show (60 : Nat) ≠ 59 by decide), ist_rset]
        exact congr (congrArg (fun a b => rset (rset (ist J 57 1 (J 57 1 + 1)) 59 a) 60 b) (fil_s rfl)) (fil_s rfl)
set_option maxHeartbeats 4000000 in
theorem l_X1_weighUp {J : Wd} {z : Nat} (hz : J 57 0 = nI z) (hz2 : z ≤ 5) : ∀ (n h : Nat) (x3 : Int32) (x2 : Int32) (x1 : Int32), h ≤ z → z < h + n → x3 = nI h → x2 = sSum (J 63) h → x1 = sFew (J 63) h → Bd SyC mX1_weighUp 1 6 [(3, .int x3), (2, .int x2), (1, .int x1), (0, .ref 57)] [] J none (wgW J z) := by
  intro n
  induction n with
  | zero => intro h x3 x2 x1 h1 h2; omega
  | succ n ih =>
    intro h x3 x2 x1 h1 h2 e3 e2 e1
    subst e3; subst e2; subst e1
    refine b_iload_n (pc := 6) (i := 3) (dd dtX1_weighUp 6 rfl) rfl rfl ?_
    refine b_aload_n (pc := 7) (i := 0) (dd dtX1_weighUp 7 rfl) rfl rfl ?_
    refine b_geti (pc := 8) (dd dtX1_weighUp 8 rfl) fwX1_9 pC_57 ?_
    refine b_icmpL_ge (pc := 11) (tgt := 46) (dd dtX1_weighUp 9 rfl) (by decide) (fun h11 => ?_) (fun h11 => ?_)
    · rw [hz] at h11
      have he : h = z := by have := ge_n h11 (by omega); omega
      subst he
      refine b_aload_n (pc := 46) (i := 0) (dd dtX1_weighUp 30 rfl) rfl rfl ?_
      refine b_geti (pc := 47) (dd dtX1_weighUp 31 rfl) fwX1_15 pC_57 ?_
      refine b_if_eq (pc := 50) (tgt := 77) (dd dtX1_weighUp 32 rfl) (by decide) (fun h50 => ?_) (fun h50 => ?_)
      · refine b_aload_n (pc := 77) (i := 0) (dd dtX1_weighUp 45 rfl) rfl rfl ?_
        refine b_ic1 (pc := 78) (dd dtX1_weighUp 46 rfl) ?_
        refine b_puti (pc := 79) (dd dtX1_weighUp 47 rfl) fwX1_15 pC_57 ?_
        refine b_aload_n (pc := 82) (i := 0) (dd dtX1_weighUp 48 rfl) rfl rfl ?_
        refine b_iload_n (pc := 83) (i := 1) (dd dtX1_weighUp 49 rfl) rfl rfl ?_
        refine b_puti (pc := 84) (dd dtX1_weighUp 50 rfl) fwX1_18 pC_57 ?_
        refine b_aload_n (pc := 87) (i := 0) (dd dtX1_weighUp 51 rfl) rfl rfl ?_
        refine b_iload_n (pc := 88) (i := 2) (dd dtX1_weighUp 52 rfl) rfl rfl ?_
        refine b_puti (pc := 89) (dd dtX1_weighUp 53 rfl) fwX1_21 pC_57 ?_
        refine b_aload_n (pc := 92) (i := 0) (dd dtX1_weighUp 54 rfl) rfl rfl ?_
        refine b_geta (pc := 93) (dd dtX1_weighUp 55 rfl) fwX1_40 pC_57 rC_57_9 ?_
        refine b_ic0 (pc := 96) (dd dtX1_weighUp 56 rfl) ?_
        refine b_aload_n (pc := 97) (i := 0) (dd dtX1_weighUp 57 rfl) rfl rfl ?_
        refine b_geta (pc := 98) (dd dtX1_weighUp 58 rfl) fwX1_24 pC_57 rC_57_4 ?_
        refine b_ic0 (pc := 101) (dd dtX1_weighUp 59 rfl) ?_
        refine b_ic5 (pc := 102) (dd dtX1_weighUp 60 rfl) ?_
        refine b_copyT (pc := 103) (Or.inl ⟨rfl, rfl⟩) (dd dtX1_weighUp 61 rfl) wlX1_108 pC_63 pC_58 ⟨by decide, by decide, by decide, by decide, by decide, fun _ _ => rfl, Nat.le_of_ble_eq_true rfl⟩ ?_
        refine b_aload_n (pc := 106) (i := 0) (dd dtX1_weighUp 62 rfl) rfl rfl ?_
        refine b_geta (pc := 107) (dd dtX1_weighUp 63 rfl) fwX1_40 pC_57 rC_57_9 ?_
        refine b_ic0 (pc := 110) (dd dtX1_weighUp 64 rfl) ?_
        refine b_aload_n (pc := 111) (i := 0) (dd dtX1_weighUp 65 rfl) rfl rfl ?_
        refine b_geta (pc := 112) (dd dtX1_weighUp 66 rfl) fwX1_28 pC_57 rC_57_5 ?_
        refine b_ic0 (pc := 115) (dd dtX1_weighUp 67 rfl) ?_
        refine b_ic5 (pc := 116) (dd dtX1_weighUp 68 rfl) ?_
        refine b_copyT (pc := 117) (Or.inl ⟨rfl, rfl⟩) (dd dtX1_weighUp 69 rfl) wlX1_108 pC_63 pC_59 ⟨by decide, by decide, by decide, by decide, by decide, fun _ _ => rfl, Nat.le_of_ble_eq_true rfl⟩ ?_
        refine b_aload_n (pc := 120) (i := 0) (dd dtX1_weighUp 70 rfl) rfl rfl ?_
        refine b_geta (pc := 121) (dd dtX1_weighUp 71 rfl) fwX1_40 pC_57 rC_57_9 ?_
        refine b_ic0 (pc := 124) (dd dtX1_weighUp 72 rfl) ?_
        refine b_aload_n (pc := 125) (i := 0) (dd dtX1_weighUp 73 rfl) rfl rfl ?_
        refine b_geta (pc := 126) (dd dtX1_weighUp 74 rfl) fwX1_31 pC_57 rC_57_6 ?_
        refine b_ic0 (pc := 129) (dd dtX1_weighUp 75 rfl) ?_
        refine b_ic5 (pc := 130) (dd dtX1_weighUp 76 rfl) ?_
        refine b_copyT (pc := 131) (Or.inl ⟨rfl, rfl⟩) (dd dtX1_weighUp 77 rfl) wlX1_108 pC_63 pC_60 ⟨by decide, by decide, by decide, by decide, by decide, fun _ _ => rfl, Nat.le_of_ble_eq_true rfl⟩ ?_
        refine b_goto (pc := 134) (tgt := 221) (dd dtX1_weighUp 78 rfl) (by decide) ?_
        refine b_eq (b_vret (dd dtX1_weighUp 127 rfl) rfl) ?_ ?_
        · rfl
        · unfold wgW
          first
            | (rw [if_pos (by first | exact Or.inl h50 | exact Or.inr (Or.inl h58) | exact Or.inr (Or.inr ⟨h66, h74⟩))]; unfold wgNew; simp (disch := decide) only [rset_ne, ist_ne, show (0 : Int32).toNatClampNeg = 0 from rfl, show (5 : Int32).toNatClampNeg = 5 from rfl, cpy_fil])
            | (rw [if_neg (by rintro (c | c | ⟨c, c2⟩); exact h50 c; exact h58 c; first | exact h74 c2 | exact h66 c), if_neg (by rintro ⟨c, c2⟩; first | exact h142 c | exact h150 c2 | exact h66 c)])
      · refine b_iload_n (pc := 53) (i := 1) (dd dtX1_weighUp 33 rfl) rfl rfl ?_
        refine b_aload_n (pc := 54) (i := 0) (dd dtX1_weighUp 34 rfl) rfl rfl ?_
        refine b_geti (pc := 55) (dd dtX1_weighUp 35 rfl) fwX1_18 pC_57 ?_
        refine b_icmp_lt (pc := 58) (tgt := 77) (dd dtX1_weighUp 36 rfl) (by decide) (fun h58 => ?_) (fun h58 => ?_)
        · refine b_aload_n (pc := 77) (i := 0) (dd dtX1_weighUp 45 rfl) rfl rfl ?_
          refine b_ic1 (pc := 78) (dd dtX1_weighUp 46 rfl) ?_
          refine b_puti (pc := 79) (dd dtX1_weighUp 47 rfl) fwX1_15 pC_57 ?_
          refine b_aload_n (pc := 82) (i := 0) (dd dtX1_weighUp 48 rfl) rfl rfl ?_
          refine b_iload_n (pc := 83) (i := 1) (dd dtX1_weighUp 49 rfl) rfl rfl ?_
          refine b_puti (pc := 84) (dd dtX1_weighUp 50 rfl) fwX1_18 pC_57 ?_
          refine b_aload_n (pc := 87) (i := 0) (dd dtX1_weighUp 51 rfl) rfl rfl ?_
          refine b_iload_n (pc := 88) (i := 2) (dd dtX1_weighUp 52 rfl) rfl rfl ?_
          refine b_puti (pc := 89) (dd dtX1_weighUp 53 rfl) fwX1_21 pC_57 ?_
          refine b_aload_n (pc := 92) (i := 0) (dd dtX1_weighUp 54 rfl) rfl rfl ?_
          refine b_geta (pc := 93) (dd dtX1_weighUp 55 rfl) fwX1_40 pC_57 rC_57_9 ?_
          refine b_ic0 (pc := 96) (dd dtX1_weighUp 56 rfl) ?_
          refine b_aload_n (pc := 97) (i := 0) (dd dtX1_weighUp 57 rfl) rfl rfl ?_
          refine b_geta (pc := 98) (dd dtX1_weighUp 58 rfl) fwX1_24 pC_57 rC_57_4 ?_
          refine b_ic0 (pc := 101) (dd dtX1_weighUp 59 rfl) ?_
          refine b_ic5 (pc := 102) (dd dtX1_weighUp 60 rfl) ?_
          refine b_copyT (pc := 103) (Or.inl ⟨rfl, rfl⟩) (dd dtX1_weighUp 61 rfl) wlX1_108 pC_63 pC_58 ⟨by decide, by decide, by decide, by decide, by decide, fun _ _ => rfl, Nat.le_of_ble_eq_true rfl⟩ ?_
          refine b_aload_n (pc := 106) (i := 0) (dd dtX1_weighUp 62 rfl) rfl rfl ?_
          refine b_geta (pc := 107) (dd dtX1_weighUp 63 rfl) fwX1_40 pC_57 rC_57_9 ?_
          refine b_ic0 (pc := 110) (dd dtX1_weighUp 64 rfl) ?_
          refine b_aload_n (pc := 111) (i := 0) (dd dtX1_weighUp 65 rfl) rfl rfl ?_
          refine b_geta (pc := 112) (dd dtX1_weighUp 66 rfl) fwX1_28 pC_57 rC_57_5 ?_
          refine b_ic0 (pc := 115) (dd dtX1_weighUp 67 rfl) ?_
          refine b_ic5 (pc := 116) (dd dtX1_weighUp 68 rfl) ?_
          refine b_copyT (pc := 117) (Or.inl ⟨rfl, rfl⟩) (dd dtX1_weighUp 69 rfl) wlX1_108 pC_63 pC_59 ⟨by decide, by decide, by decide, by decide, by decide, fun _ _ => rfl, Nat.le_of_ble_eq_true rfl⟩ ?_
          refine b_aload_n (pc := 120) (i := 0) (dd dtX1_weighUp 70 rfl) rfl rfl ?_
          refine b_geta (pc := 121) (dd dtX1_weighUp 71 rfl) fwX1_40 pC_57 rC_57_9 ?_
          refine b_ic0 (pc := 124) (dd dtX1_weighUp 72 rfl) ?_
          refine b_aload_n (pc := 125) (i := 0) (dd dtX1_weighUp 73 rfl) rfl rfl ?_
          refine b_geta (pc := 126) (dd dtX1_weighUp 74 rfl) fwX1_31 pC_57 rC_57_6 ?_
          refine b_ic0 (pc := 129) (dd dtX1_weighUp 75 rfl) ?_
          refine b_ic5 (pc := 130) (dd dtX1_weighUp 76 rfl) ?_
          refine b_copyT (pc := 131) (Or.inl ⟨rfl, rfl⟩) (dd dtX1_weighUp 77 rfl) wlX1_108 pC_63 pC_60 ⟨by decide, by decide, by decide, by decide, by decide, fun _ _ => rfl, Nat.le_of_ble_eq_true rfl⟩ ?_
          refine b_goto (pc := 134) (tgt := 221) (dd dtX1_weighUp 78 rfl) (by decide) ?_
          refine b_eq (b_vret (dd dtX1_weighUp 127 rfl) rfl) ?_ ?_
          · rfl
          · unfold wgW
            first
              | (rw [if_pos (by first | exact Or.inl h50 | exact Or.inr (Or.inl h58) | exact Or.inr (Or.inr ⟨h66, h74⟩))]; unfold wgNew; simp (disch := decide) only [rset_ne, ist_ne, show (0 : Int32).toNatClampNeg = 0 from rfl, show (5 : Int32).toNatClampNeg = 5 from rfl, cpy_fil])
              | (rw [if_neg (by rintro (c | c | ⟨c, c2⟩); exact h50 c; exact h58 c; first | exact h74 c2 | exact h66 c), if_neg (by rintro ⟨c, c2⟩; first | exact h142 c | exact h150 c2 | exact h66 c)])
        · refine b_iload_n (pc := 61) (i := 1) (dd dtX1_weighUp 37 rfl) rfl rfl ?_
          refine b_aload_n (pc := 62) (i := 0) (dd dtX1_weighUp 38 rfl) rfl rfl ?_
          refine b_geti (pc := 63) (dd dtX1_weighUp 39 rfl) fwX1_18 pC_57 ?_
          refine b_icmp_ne (pc := 66) (tgt := 137) (dd dtX1_weighUp 40 rfl) (by decide) (fun h66 => ?_) (fun h66 => ?_)
          · refine b_iload_n (pc := 137) (i := 1) (dd dtX1_weighUp 79 rfl) rfl rfl ?_
            refine b_aload_n (pc := 138) (i := 0) (dd dtX1_weighUp 80 rfl) rfl rfl ?_
            refine b_geti (pc := 139) (dd dtX1_weighUp 81 rfl) fwX1_18 pC_57 ?_
            refine b_icmp_ne (pc := 142) (tgt := 221) (dd dtX1_weighUp 82 rfl) (by decide) (fun h142 => ?_) (fun h142 => ?_)
            · refine b_eq (b_vret (dd dtX1_weighUp 127 rfl) rfl) ?_ ?_
              · rfl
              · unfold wgW
                first
                  | (rw [if_pos (by first | exact Or.inl h50 | exact Or.inr (Or.inl h58) | exact Or.inr (Or.inr ⟨h66, h74⟩))]; unfold wgNew; simp (disch := decide) only [rset_ne, ist_ne, show (0 : Int32).toNatClampNeg = 0 from rfl, show (5 : Int32).toNatClampNeg = 5 from rfl, cpy_fil])
                  | (rw [if_neg (by rintro (c | c | ⟨c, c2⟩); exact h50 c; exact h58 c; first | exact h74 c2 | exact h66 c), if_neg (by rintro ⟨c, c2⟩; first | exact h142 c | exact h150 c2 | exact h66 c)])
            · refine b_iload_n (pc := 145) (i := 2) (dd dtX1_weighUp 83 rfl) rfl rfl ?_
              refine b_aload_n (pc := 146) (i := 0) (dd dtX1_weighUp 84 rfl) rfl rfl ?_
              refine b_geti (pc := 147) (dd dtX1_weighUp 85 rfl) fwX1_21 pC_57 ?_
              refine b_icmp_ne (pc := 150) (tgt := 221) (dd dtX1_weighUp 86 rfl) (by decide) (fun h150 => ?_) (fun h150 => ?_)
              · refine b_eq (b_vret (dd dtX1_weighUp 127 rfl) rfl) ?_ ?_
                · rfl
                · unfold wgW
                  first
                    | (rw [if_pos (by first | exact Or.inl h50 | exact Or.inr (Or.inl h58) | exact Or.inr (Or.inr ⟨h66, h74⟩))]; unfold wgNew; simp (disch := decide) only [rset_ne, ist_ne, show (0 : Int32).toNatClampNeg = 0 from rfl, show (5 : Int32).toNatClampNeg = 5 from rfl, cpy_fil])
                    | (rw [if_neg (by rintro (c | c | ⟨c, c2⟩); exact h50 c; exact h58 c; first | exact h74 c2 | exact h66 c), if_neg (by rintro ⟨c, c2⟩; first | exact h142 c | exact h150 c2 | exact h66 c)])
              · refine b_aload_n (pc := 153) (i := 0) (dd dtX1_weighUp 87 rfl) rfl rfl ?_
                refine b_dup (pc := 154) (dd dtX1_weighUp 88 rfl) rfl ?_
                refine b_geti (pc := 155) (dd dtX1_weighUp 89 rfl) fwX1_15 pC_57 ?_
                refine b_ic1 (pc := 158) (dd dtX1_weighUp 90 rfl) ?_
                refine b_iadd (pc := 159) (dd dtX1_weighUp 91 rfl) ?_
                refine b_puti (pc := 160) (dd dtX1_weighUp 92 rfl) fwX1_15 pC_57 ?_
                refine b_ic0 (pc := 163) (dd dtX1_weighUp 93 rfl) ?_
                refine b_istore_n (pc := 164) (i := 3) (lv' := [(3, _), (2, _), (1, _), (0, _)]) (dd dtX1_weighUp 94 rfl) rfl (Nat.le_of_ble_eq_true rfl) rfl ?_
                refine b_eq (lt_X1_weighUp hz hz2 (h + 1) 0 _ _ (Nat.zero_le _) (by omega) rfl ?_) rfl ?_
                · unfold wgTie; rw [fil_0, fil_0]; rw [show J 59 = ist J 57 1 (J 57 1 + 1) 59 from (ist_ne (by decide)).symm, rset_id, show J 60 = ist J 57 1 (J 57 1 + 1) 60 from (ist_ne (by decide)).symm, rset_id]
                · unfold wgW; rw [if_neg (by rintro (c | c | ⟨c, c2⟩); exact h50 c; exact h58 c; first | exact h74 c2 | exact h66 c), if_pos ⟨h142, h150⟩]
          · refine b_iload_n (pc := 69) (i := 2) (dd dtX1_weighUp 41 rfl) rfl rfl ?_
            refine b_aload_n (pc := 70) (i := 0) (dd dtX1_weighUp 42 rfl) rfl rfl ?_
            refine b_geti (pc := 71) (dd dtX1_weighUp 43 rfl) fwX1_21 pC_57 ?_
            refine b_icmpL_ge (pc := 74) (tgt := 137) (dd dtX1_weighUp 44 rfl) (by decide) (fun h74 => ?_) (fun h74 => ?_)
            · refine b_iload_n (pc := 137) (i := 1) (dd dtX1_weighUp 79 rfl) rfl rfl ?_
              refine b_aload_n (pc := 138) (i := 0) (dd dtX1_weighUp 80 rfl) rfl rfl ?_
              refine b_geti (pc := 139) (dd dtX1_weighUp 81 rfl) fwX1_18 pC_57 ?_
              refine b_icmp_ne (pc := 142) (tgt := 221) (dd dtX1_weighUp 82 rfl) (by decide) (fun h142 => ?_) (fun h142 => ?_)
              · refine b_eq (b_vret (dd dtX1_weighUp 127 rfl) rfl) ?_ ?_
                · rfl
                · unfold wgW
                  first
                    | (rw [if_pos (by first | exact Or.inl h50 | exact Or.inr (Or.inl h58) | exact Or.inr (Or.inr ⟨h66, h74⟩))]; unfold wgNew; simp (disch := decide) only [rset_ne, ist_ne, show (0 : Int32).toNatClampNeg = 0 from rfl, show (5 : Int32).toNatClampNeg = 5 from rfl, cpy_fil])
                    | (rw [if_neg (by rintro (c | c | ⟨c, c2⟩); exact h50 c; exact h58 c; first | exact h74 c2 | exact h66 c), if_neg (by rintro ⟨c, c2⟩; first | exact h142 c | exact h150 c2 | exact h66 c)])
              · refine b_iload_n (pc := 145) (i := 2) (dd dtX1_weighUp 83 rfl) rfl rfl ?_
                refine b_aload_n (pc := 146) (i := 0) (dd dtX1_weighUp 84 rfl) rfl rfl ?_
                refine b_geti (pc := 147) (dd dtX1_weighUp 85 rfl) fwX1_21 pC_57 ?_
                refine b_icmp_ne (pc := 150) (tgt := 221) (dd dtX1_weighUp 86 rfl) (by decide) (fun h150 => ?_) (fun h150 => ?_)
                · refine b_eq (b_vret (dd dtX1_weighUp 127 rfl) rfl) ?_ ?_
                  · rfl
                  · unfold wgW
                    first
                      | (rw [if_pos (by first | exact Or.inl h50 | exact Or.inr (Or.inl h58) | exact Or.inr (Or.inr ⟨h66, h74⟩))]; unfold wgNew; simp (disch := decide) only [rset_ne, ist_ne, show (0 : Int32).toNatClampNeg = 0 from rfl, show (5 : Int32).toNatClampNeg = 5 from rfl, cpy_fil])
                      | (rw [if_neg (by rintro (c | c | ⟨c, c2⟩); exact h50 c; exact h58 c; first | exact h74 c2 | exact h66 c), if_neg (by rintro ⟨c, c2⟩; first | exact h142 c | exact h150 c2 | exact h66 c)])
                · refine b_aload_n (pc := 153) (i := 0) (dd dtX1_weighUp 87 rfl) rfl rfl ?_
                  refine b_dup (pc := 154) (dd dtX1_weighUp 88 rfl) rfl ?_
                  refine b_geti (pc := 155) (dd dtX1_weighUp 89 rfl) fwX1_15 pC_57 ?_
                  refine b_ic1 (pc := 158) (dd dtX1_weighUp 90 rfl) ?_
                  refine b_iadd (pc := 159) (dd dtX1_weighUp 91 rfl) ?_
                  refine b_puti (pc := 160) (dd dtX1_weighUp 92 rfl) fwX1_15 pC_57 ?_
                  refine b_ic0 (pc := 163) (dd dtX1_weighUp 93 rfl) ?_
                  refine b_istore_n (pc := 164) (i := 3) (lv' := [(3, _), (2, _), (1, _), (0, _)]) (dd dtX1_weighUp 94 rfl) rfl (Nat.le_of_ble_eq_true rfl) rfl ?_
                  refine b_eq (lt_X1_weighUp hz hz2 (h + 1) 0 _ _ (Nat.zero_le _) (by omega) rfl ?_) rfl ?_
                  · unfold wgTie; rw [fil_0, fil_0]; rw [show J 59 = ist J 57 1 (J 57 1 + 1) 59 from (ist_ne (by decide)).symm, rset_id, show J 60 = ist J 57 1 (J 57 1 + 1) 60 from (ist_ne (by decide)).symm, rset_id]
                  · unfold wgW; rw [if_neg (by rintro (c | c | ⟨c, c2⟩); exact h50 c; exact h58 c; first | exact h74 c2 | exact h66 c), if_pos ⟨h142, h150⟩]
            · refine b_aload_n (pc := 77) (i := 0) (dd dtX1_weighUp 45 rfl) rfl rfl ?_
              refine b_ic1 (pc := 78) (dd dtX1_weighUp 46 rfl) ?_
              refine b_puti (pc := 79) (dd dtX1_weighUp 47 rfl) fwX1_15 pC_57 ?_
              refine b_aload_n (pc := 82) (i := 0) (dd dtX1_weighUp 48 rfl) rfl rfl ?_
              refine b_iload_n (pc := 83) (i := 1) (dd dtX1_weighUp 49 rfl) rfl rfl ?_
              refine b_puti (pc := 84) (dd dtX1_weighUp 50 rfl) fwX1_18 pC_57 ?_
              refine b_aload_n (pc := 87) (i := 0) (dd dtX1_weighUp 51 rfl) rfl rfl ?_
              refine b_iload_n (pc := 88) (i := 2) (dd dtX1_weighUp 52 rfl) rfl rfl ?_
              refine b_puti (pc := 89) (dd dtX1_weighUp 53 rfl) fwX1_21 pC_57 ?_
              refine b_aload_n (pc := 92) (i := 0) (dd dtX1_weighUp 54 rfl) rfl rfl ?_
              refine b_geta (pc := 93) (dd dtX1_weighUp 55 rfl) fwX1_40 pC_57 rC_57_9 ?_
              refine b_ic0 (pc := 96) (dd dtX1_weighUp 56 rfl) ?_
              refine b_aload_n (pc := 97) (i := 0) (dd dtX1_weighUp 57 rfl) rfl rfl ?_
              refine b_geta (pc := 98) (dd dtX1_weighUp 58 rfl) fwX1_24 pC_57 rC_57_4 ?_
              refine b_ic0 (pc := 101) (dd dtX1_weighUp 59 rfl) ?_
              refine b_ic5 (pc := 102) (dd dtX1_weighUp 60 rfl) ?_
              refine b_copyT (pc := 103) (Or.inl ⟨rfl, rfl⟩) (dd dtX1_weighUp 61 rfl) wlX1_108 pC_63 pC_58 ⟨by decide, by decide, by decide, by decide, by decide, fun _ _ => rfl, Nat.le_of_ble_eq_true rfl⟩ ?_
              refine b_aload_n (pc := 106) (i := 0) (dd dtX1_weighUp 62 rfl) rfl rfl ?_
              refine b_geta (pc := 107) (dd dtX1_weighUp 63 rfl) fwX1_40 pC_57 rC_57_9 ?_
              refine b_ic0 (pc := 110) (dd dtX1_weighUp 64 rfl) ?_
              refine b_aload_n (pc := 111) (i := 0) (dd dtX1_weighUp 65 rfl) rfl rfl ?_
              refine b_geta (pc := 112) (dd dtX1_weighUp 66 rfl) fwX1_28 pC_57 rC_57_5 ?_
              refine b_ic0 (pc := 115) (dd dtX1_weighUp 67 rfl) ?_
              refine b_ic5 (pc := 116) (dd dtX1_weighUp 68 rfl) ?_
              refine b_copyT (pc := 117) (Or.inl ⟨rfl, rfl⟩) (dd dtX1_weighUp 69 rfl) wlX1_108 pC_63 pC_59 ⟨by decide, by decide, by decide, by decide, by decide, fun _ _ => rfl, Nat.le_of_ble_eq_true rfl⟩ ?_
              refine b_aload_n (pc := 120) (i := 0) (dd dtX1_weighUp 70 rfl) rfl rfl ?_
              refine b_geta (pc := 121) (dd dtX1_weighUp 71 rfl) fwX1_40 pC_57 rC_57_9 ?_
              refine b_ic0 (pc := 124) (dd dtX1_weighUp 72 rfl) ?_
              refine b_aload_n (pc := 125) (i := 0) (dd dtX1_weighUp 73 rfl) rfl rfl ?_
              refine b_geta (pc := 126) (dd dtX1_weighUp 74 rfl) fwX1_31 pC_57 rC_57_6 ?_
              refine b_ic0 (pc := 129) (dd dtX1_weighUp 75 rfl) ?_
              refine b_ic5 (pc := 130) (dd dtX1_weighUp 76 rfl) ?_
              refine b_copyT (pc := 131) (Or.inl ⟨rfl, rfl⟩) (dd dtX1_weighUp 77 rfl) wlX1_108 pC_63 pC_60 ⟨by decide, by decide, by decide, by decide, by decide, fun _ _ => rfl, Nat.le_of_ble_eq_true rfl⟩ ?_
              refine b_goto (pc := 134) (tgt := 221) (dd dtX1_weighUp 78 rfl) (by decide) ?_
              refine b_eq (b_vret (dd dtX1_weighUp 127 rfl) rfl) ?_ ?_
              · rfl
              · unfold wgW
                first
                  | (rw [if_pos (by first | exact Or.inl h50 | exact Or.inr (Or.inl h58) | exact Or.inr (Or.inr ⟨h66, h74⟩))]; unfold wgNew; simp (disch := decide) only [rset_ne, ist_ne, show (0 : Int32).toNatClampNeg = 0 from rfl, show (5 : Int32).toNatClampNeg = 5 from rfl, cpy_fil])
                  | (rw [if_neg (by rintro (c | c | ⟨c, c2⟩); exact h50 c; exact h58 c; first | exact h74 c2 | exact h66 c), if_neg (by rintro ⟨c, c2⟩; first | exact h142 c | exact h150 c2 | exact h66 c)])
    · rw [hz] at h11
      have hlt : h < z := lt_n h11 (by omega) (by omega)
      refine b_iload_n (pc := 14) (i := 1) (dd dtX1_weighUp 10 rfl) rfl rfl ?_
      refine b_aload_n (pc := 15) (i := 0) (dd dtX1_weighUp 11 rfl) rfl rfl ?_
      refine b_geta (pc := 16) (dd dtX1_weighUp 12 rfl) fwX1_40 pC_57 rC_57_9 ?_
      refine b_iload_n (pc := 19) (i := 3) (dd dtX1_weighUp 13 rfl) rfl rfl ?_
      refine b_iald (pc := 20) (dd dtX1_weighUp 14 rfl) pC_63 (vpn rfl (show h < 5 by omega) (by decide)) ?_
      refine b_ifL_le (pc := 21) (tgt := 28) (dd dtX1_weighUp 15 rfl) (by decide) (fun h21 => ?_) (fun h21 => ?_)
      · refine b_ic0 (pc := 28) (dd dtX1_weighUp 18 rfl) ?_
        refine b_iadd (pc := 29) (dd dtX1_weighUp 19 rfl) ?_
        refine b_istore_n (pc := 30) (i := 1) (lv' := [(1, _), (3, _), (2, _), (0, _)]) (dd dtX1_weighUp 20 rfl) rfl (Nat.le_of_ble_eq_true rfl) rfl ?_
        refine b_iload_n (pc := 31) (i := 2) (dd dtX1_weighUp 21 rfl) rfl rfl ?_
        refine b_aload_n (pc := 32) (i := 0) (dd dtX1_weighUp 22 rfl) rfl rfl ?_
        refine b_geta (pc := 33) (dd dtX1_weighUp 23 rfl) fwX1_40 pC_57 rC_57_9 ?_
        refine b_iload_n (pc := 36) (i := 3) (dd dtX1_weighUp 24 rfl) rfl rfl ?_
        refine b_iald (pc := 37) (dd dtX1_weighUp 25 rfl) pC_63 (vpn rfl (show h < 5 by omega) (by decide)) ?_
        refine b_iadd (pc := 38) (dd dtX1_weighUp 26 rfl) ?_
        refine b_istore_n (pc := 39) (i := 2) (lv' := [(2, _), (1, _), (3, _), (0, _)]) (dd dtX1_weighUp 27 rfl) rfl (Nat.le_of_ble_eq_true rfl) rfl ?_
        refine b_iinc1 (pc := 40) (i := 3) (lv' := [(3, _), (2, _), (1, _), (0, _)]) (dd dtX1_weighUp 28 rfl) rfl (Nat.le_of_ble_eq_true rfl) rfl ?_
        refine b_goto (pc := 43) (tgt := 6) (dd dtX1_weighUp 29 rfl) (by decide) ?_
        rw [nI_1]
        refine ih (h + 1) _ _ _ hlt (by omega) rfl ?_ ?_
        · simp only [nI_clamp (show h < 2 ^ 31 by omega)]; rfl
        · try simp only [nI_clamp (show h < 2 ^ 31 by omega)] at h21
          simp [sFew, *]
      · refine b_ic1 (pc := 24) (dd dtX1_weighUp 16 rfl) ?_
        refine b_goto (pc := 25) (tgt := 29) (dd dtX1_weighUp 17 rfl) (by decide) ?_
        refine b_iadd (pc := 29) (dd dtX1_weighUp 19 rfl) ?_
        refine b_istore_n (pc := 30) (i := 1) (lv' := [(1, _), (3, _), (2, _), (0, _)]) (dd dtX1_weighUp 20 rfl) rfl (Nat.le_of_ble_eq_true rfl) rfl ?_
        refine b_iload_n (pc := 31) (i := 2) (dd dtX1_weighUp 21 rfl) rfl rfl ?_
        refine b_aload_n (pc := 32) (i := 0) (dd dtX1_weighUp 22 rfl) rfl rfl ?_
        refine b_geta (pc := 33) (dd dtX1_weighUp 23 rfl) fwX1_40 pC_57 rC_57_9 ?_
        refine b_iload_n (pc := 36) (i := 3) (dd dtX1_weighUp 24 rfl) rfl rfl ?_
        refine b_iald (pc := 37) (dd dtX1_weighUp 25 rfl) pC_63 (vpn rfl (show h < 5 by omega) (by decide)) ?_
        refine b_iadd (pc := 38) (dd dtX1_weighUp 26 rfl) ?_
        refine b_istore_n (pc := 39) (i := 2) (lv' := [(2, _), (1, _), (3, _), (0, _)]) (dd dtX1_weighUp 27 rfl) rfl (Nat.le_of_ble_eq_true rfl) rfl ?_
        refine b_iinc1 (pc := 40) (i := 3) (lv' := [(3, _), (2, _), (1, _), (0, _)]) (dd dtX1_weighUp 28 rfl) rfl (Nat.le_of_ble_eq_true rfl) rfl ?_
        refine b_goto (pc := 43) (tgt := 6) (dd dtX1_weighUp 29 rfl) (by decide) ?_
        rw [nI_1]
        refine ih (h + 1) _ _ _ hlt (by omega) rfl ?_ ?_
        · simp only [nI_clamp (show h < 2 ^ 31 by omega)]; rfl
        · try simp only [nI_clamp (show h < 2 ^ 31 by omega)] at h21
          simp [sFew, *]
set_option maxHeartbeats 4000000 in
theorem c_X1_weighUp {J : Wd} {z : Nat} (hz : J 57 0 = nI z) (hz2 : z ≤ 5) : Cal SyC mX1_weighUp 1 [.ref 57] J none (wgW J z) := by
  refine Cal.of (by decide) (Nat.le_of_ble_eq_true rfl) ?_
  show Bd _ _ _ _ [(0, _)] _ _ _ _
  refine b_ic0 (pc := 0) (dd dtX1_weighUp 0 rfl) ?_
  refine b_istore_n (pc := 1) (i := 1) (lv' := [(1, _), (0, _)]) (dd dtX1_weighUp 1 rfl) rfl (Nat.le_of_ble_eq_true rfl) rfl ?_
  refine b_ic0 (pc := 2) (dd dtX1_weighUp 2 rfl) ?_
  refine b_istore_n (pc := 3) (i := 2) (lv' := [(2, _), (1, _), (0, _)]) (dd dtX1_weighUp 3 rfl) rfl (Nat.le_of_ble_eq_true rfl) rfl ?_
  refine b_ic0 (pc := 4) (dd dtX1_weighUp 4 rfl) ?_
  refine b_istore_n (pc := 5) (i := 3) (lv' := [(3, _), (2, _), (1, _), (0, _)]) (dd dtX1_weighUp 5 rfl) rfl (Nat.le_of_ble_eq_true rfl) rfl ?_
  exact l_X1_weighUp hz hz2 (z + 1) 0 _ _ _ (Nat.zero_le _) (by omega) rfl rfl rfl
