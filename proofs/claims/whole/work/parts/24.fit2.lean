def tX1_gatherNeeds : List (Nat × Instr × Nat) := [(0, .aload_n 0, 1), (1, .iconst 0, 1), (2, .putfield 43, 3), (5, .iconst 0, 1), (6, .istore 4, 2), (8, .iload 4, 2), (10, .aload_n 2, 1), (11, .getfield 92, 3), (14, .if_icmp .ge 125, 3), (17, .aload_n 0, 1), (18, .getfield 43, 3), (21, .bipush 8, 2), (23, .if_icmp .ge 116, 3), (26, .iconst 0, 1), (27, .istore 5, 2), (29, .iconst 0, 1), (30, .istore 6, 2), (32, .iload 6, 2), (34, .aload_n 0, 1), (35, .getfield 9, 3), (38, .if_icmp .ge 42, 3), (41, .iload 5, 2), (43, .aload_n 2, 1), (44, .getfield 95, 3), (47, .iload 4, 2), (49, .iaload, 1), (50, .aload_n 1, 1), (51, .getfield 63, 3), (54, .iload 6, 2), (56, .iaload, 1), (57, .invokestatic 98, 3), (60, .ifCond .eq 10, 3), (63, .iconst 1, 1), (64, .iload 6, 2), (66, .ishl, 1), (67, .goto 4, 3), (70, .iconst 0, 1), (71, .ior, 1), (72, .istore 5, 2), (74, .iinc 6 1, 3), (77, .goto (-45), 3), (80, .iload 5, 2), (82, .ifCond .eq 51, 3), (85, .aload_n 2, 1), (86, .getfield 102, 3), (89, .iload 4, 2), (91, .iaload, 1), (92, .iload_n 3, 1), (93, .if_icmp .gt 40, 3), (96, .aload_n 0, 1), (97, .getfield 46, 3), (100, .aload_n 0, 1), (101, .getfield 43, 3), (104, .aload_n 2, 1), (105, .getfield 105, 3), (108, .iload 4, 2), (110, .iaload, 1), (111, .iastore, 1), (112, .aload_n 0, 1), (113, .getfield 49, 3), (116, .aload_n 0, 1), (117, .getfield 43, 3), (120, .iload 5, 2), (122, .iastore, 1), (123, .aload_n 0, 1), (124, .dup, 1), (125, .getfield 43, 3), (128, .iconst 1, 1), (129, .iadd, 1), (130, .putfield 43, 3), (133, .iinc 4 1, 3), (136, .goto (-128), 3), (139, .return_, 1)]
theorem dtX1_gatherNeeds : dec_ok mX1_gatherNeeds.2.1 tX1_gatherNeeds = true := by decide +kernel
theorem gat_step {nums : Nat → Int32} {z : Nat} {known : Int32} {J : Wd} {t : Nat} : gatW nums z known J (t + 1) = gat1 nums z known (gatW nums z known J t) t := rfl
set_option maxHeartbeats 4000000 in
theorem li_X1_gatherNeeds {J : Wd} {k z L : Nat} {known : Int32} (hk : isS k) (hz : J 57 0 = nI z) (hz2 : z ≤ 5) (hL : J 49 0 = nI L) (hL2 : L ≤ 8) (hk2 : k ≠ 57 ∧ k + 1 ≠ 57 ∧ k + 1 ≠ 64 ∧ k + 1 ≠ 65) {t : Nat} (ht : t < L) {r : Option Value} {I' : Wd} (kk : ∀ lv5 : Int32, lv5 = nrM (J (k + 1)) (J 50 t) z → Bd SyC mX1_gatherNeeds 2 80 [(5, .int lv5), (4, .int (nI t)), (0, .ref 57), (1, .ref k), (2, .ref 49), (3, .int known)] [] (gatW (J (k + 1)) z known J t) r I') : ∀ (n h : Nat) (x6 x5 : Int32), h ≤ z → z < h + n → x6 = nI h → x5 = (nrM (J (k + 1)) (J 50 t) h) → Bd SyC mX1_gatherNeeds 2 32 [(6, .int x6), (5, .int x5), (4, .int (nI t)), (0, .ref 57), (1, .ref k), (2, .ref 49), (3, .int known)] [] (gatW (J (k + 1)) z known J t) r I' := by
  intro n
  induction n with
  | zero => intro h x6 x5 h1 h2; omega
  | succ n ih =>
    intro h x6 x5 h1 h2 e6 e5
    subst e6; subst e5
    have f57 : gatW (J (k + 1)) z known J t 57 0 = nI z := by rw [gatW_0 (by decide)]; exact hz
    have fk : gatW (J (k + 1)) z known J t (k + 1) = J (k + 1) := gatW_fr hk2.2.1 hk2.2.2.1 hk2.2.2.2
    have f50 : gatW (J (k + 1)) z known J t 50 = J 50 := gatW_fr (by decide) (by decide) (by decide)
    refine b_iload (pc := 32) (i := 6) (dd dtX1_gatherNeeds 17 rfl) rfl ?_
    refine b_aload_n (pc := 34) (i := 0) (dd dtX1_gatherNeeds 18 rfl) rfl rfl ?_
    refine b_geti (pc := 35) (dd dtX1_gatherNeeds 19 rfl) fwX1_9 pC_57 ?_
    refine b_icmpL_ge (pc := 38) (tgt := 80) (dd dtX1_gatherNeeds 20 rfl) (by decide) (fun h38 => ?_) (fun h38 => ?_)
    · refine b_pick [1, 2, 3, 4, 5, 6] (lv' := [(5, _), (4, _), (0, _), (1, _), (2, _), (3, _)]) rfl ?_
      rw [f57] at h38
      have he : h = z := by have := ge_n h38 (by omega); omega
      subst he
      exact kk _ rfl
    · rw [f57] at h38
      have hlt : h < z := lt_n h38 (by omega) (by omega)
      refine b_iload (pc := 41) (i := 5) (dd dtX1_gatherNeeds 21 rfl) rfl ?_
      refine b_aload_n (pc := 43) (i := 2) (dd dtX1_gatherNeeds 22 rfl) rfl rfl ?_
      refine b_geta (pc := 44) (dd dtX1_gatherNeeds 23 rfl) fwX1_95 pC_49 rC_49_1 ?_
      refine b_iload (pc := 47) (i := 4) (dd dtX1_gatherNeeds 24 rfl) rfl ?_
      refine b_iald (pc := 49) (dd dtX1_gatherNeeds 25 rfl) pC_50 (vpn rfl (show t < 8 by omega) (by decide)) ?_
      refine b_aload_n (pc := 50) (i := 1) (dd dtX1_gatherNeeds 26 rfl) rfl rfl ?_
      refine b_geta (pc := 51) (dd dtX1_gatherNeeds 27 rfl) fwX1_63 (pS_0 hk) (rS_2 hk) ?_
      refine b_iload (pc := 54) (i := 6) (dd dtX1_gatherNeeds 28 rfl) rfl ?_
      refine b_iald (pc := 56) (dd dtX1_gatherNeeds 29 rfl) (pS_1 hk) (vpn rfl (show h < 40 by omega) (by decide)) ?_
      refine b_invN (pc := 57) (M2 := mX10_isNear) (dd dtX1_gatherNeeds 30 rfl) (fun _ _ _ _ hE => hE.2.2.1) mvX10_isNear msX10_isNear (c_X10_isNear) rfl rfl (by decide) (Nat.le_of_ble_eq_true rfl) ?_
      refine b_ifn_eq (pc := 60) (tgt := 70) (dd dtX1_gatherNeeds 31 rfl) (by decide) (fun h60 => ?_) (fun h60 => ?_)
      · refine b_ic0 (pc := 70) (dd dtX1_gatherNeeds 36 rfl) ?_
        refine b_ior (pc := 71) (dd dtX1_gatherNeeds 37 rfl) ?_
        refine b_istore (pc := 72) (i := 5) (lv' := [(5, _), (6, _), (4, _), (0, _), (1, _), (2, _), (3, _)]) (dd dtX1_gatherNeeds 38 rfl) (Nat.le_of_ble_eq_true rfl) rfl ?_
        refine b_iinc1 (pc := 74) (i := 6) (lv' := [(6, _), (5, _), (4, _), (0, _), (1, _), (2, _), (3, _)]) (dd dtX1_gatherNeeds 39 rfl) rfl (Nat.le_of_ble_eq_true rfl) rfl ?_
        refine b_goto (pc := 77) (tgt := 32) (dd dtX1_gatherNeeds 40 rfl) (by decide) ?_
        rw [nI_1]
        refine ih (h + 1) _ _ hlt (by omega) rfl ?_
        simp only [fk, f50, nI_clamp (show h < 2 ^ 31 by omega), nI_clamp (show t < 2 ^ 31 by omega)] at *
        simp only [nrM]
        first | rw [if_pos h60] | rw [if_neg h60]
      · refine b_ic1 (pc := 63) (dd dtX1_gatherNeeds 32 rfl) ?_
        refine b_iload (pc := 64) (i := 6) (dd dtX1_gatherNeeds 33 rfl) rfl ?_
        refine b_ishl (pc := 66) (dd dtX1_gatherNeeds 34 rfl) ?_
        refine b_goto (pc := 67) (tgt := 71) (dd dtX1_gatherNeeds 35 rfl) (by decide) ?_
        refine b_ior (pc := 71) (dd dtX1_gatherNeeds 37 rfl) ?_
        refine b_istore (pc := 72) (i := 5) (lv' := [(5, _), (6, _), (4, _), (0, _), (1, _), (2, _), (3, _)]) (dd dtX1_gatherNeeds 38 rfl) (Nat.le_of_ble_eq_true rfl) rfl ?_
        refine b_iinc1 (pc := 74) (i := 6) (lv' := [(6, _), (5, _), (4, _), (0, _), (1, _), (2, _), (3, _)]) (dd dtX1_gatherNeeds 39 rfl) rfl (Nat.le_of_ble_eq_true rfl) rfl ?_
        refine b_goto (pc := 77) (tgt := 32) (dd dtX1_gatherNeeds 40 rfl) (by decide) ?_
        rw [nI_1]
        refine ih (h + 1) _ _ hlt (by omega) rfl ?_
        simp only [fk, f50, nI_clamp (show h < 2 ^ 31 by omega), nI_clamp (show t < 2 ^ 31 by omega)] at *
        simp only [nrM]
        first | rw [if_pos h60] | rw [if_neg h60]
set_option maxHeartbeats 4000000 in
theorem l_X1_gatherNeeds {J : Wd} {k z L : Nat} {known : Int32} (hk : isS k) (hz : J 57 0 = nI z) (hz2 : z ≤ 5) (hL : J 49 0 = nI L) (hL2 : L ≤ 8) (hk2 : k ≠ 57 ∧ k + 1 ≠ 57 ∧ k + 1 ≠ 64 ∧ k + 1 ≠ 65) : ∀ (n h : Nat) (x4 : Int32) (I2 : Wd), h ≤ L → L < h + n → x4 = nI h → I2 = (gatW (J (k + 1)) z known J h) → Bd SyC mX1_gatherNeeds 2 8 [(4, .int x4), (0, .ref 57), (1, .ref k), (2, .ref 49), (3, .int known)] [] I2 none (gatW (J (k + 1)) z known J L) := by
  intro n
  induction n with
  | zero => intro h x4 I2 h1 h2; omega
  | succ n ih =>
    intro h x4 I2 h1 h2 e4 eW
    subst e4; subst eW
    obtain ⟨q, hq1, hq2⟩ := gatW_n (nums := J (k + 1)) (z := z) (known := known) (J := J) (k := h)
    have f49 : gatW (J (k + 1)) z known J h 49 = J 49 := gatW_fr (by decide) (by decide) (by decide)
    have f50 : gatW (J (k + 1)) z known J h 50 = J 50 := gatW_fr (by decide) (by decide) (by decide)
    have f51 : gatW (J (k + 1)) z known J h 51 = J 51 := gatW_fr (by decide) (by decide) (by decide)
    have f52 : gatW (J (k + 1)) z known J h 52 = J 52 := gatW_fr (by decide) (by decide) (by decide)
    refine b_iload (pc := 8) (i := 4) (dd dtX1_gatherNeeds 5 rfl) rfl ?_
    refine b_aload_n (pc := 10) (i := 2) (dd dtX1_gatherNeeds 6 rfl) rfl rfl ?_
    refine b_geti (pc := 11) (dd dtX1_gatherNeeds 7 rfl) fwX1_92 pC_49 ?_
    refine b_icmpL_ge (pc := 14) (tgt := 139) (dd dtX1_gatherNeeds 8 rfl) (by decide) (fun h14 => ?_) (fun h14 => ?_)
    · have he : h = L := by first | (rw [f49, hL] at h14; have := ge_n h14 (by omega); omega) | (exfalso; rw [hq2] at h23; exact h23 (nI_lt (show q < 8 by omega) (by decide)))
      subst he
      exact b_eq (b_vret (dd dtX1_gatherNeeds 72 rfl) rfl) rfl rfl
    · rw [f49, hL] at h14
      have hlt : h < L := lt_n h14 (by omega) (by omega)
      refine b_aload_n (pc := 17) (i := 0) (dd dtX1_gatherNeeds 9 rfl) rfl rfl ?_
      refine b_geti (pc := 18) (dd dtX1_gatherNeeds 10 rfl) fwX1_43 pC_57 ?_
      refine b_bipush (pc := 21) (v := 8) (dd dtX1_gatherNeeds 11 rfl) (by decide) ?_
      refine b_icmpL_ge (pc := 23) (tgt := 139) (dd dtX1_gatherNeeds 12 rfl) (by decide) (fun h23 => ?_) (fun h23 => ?_)
      · have he : h = L := by first | (rw [f49, hL] at h14; have := ge_n h14 (by omega); omega) | (exfalso; rw [hq2] at h23; exact h23 (nI_lt (show q < 8 by omega) (by decide)))
        subst he
        exact b_eq (b_vret (dd dtX1_gatherNeeds 72 rfl) rfl) rfl rfl
      · clear h23
        refine b_ic0 (pc := 26) (dd dtX1_gatherNeeds 13 rfl) ?_
        refine b_istore (pc := 27) (i := 5) (lv' := [(5, _), (4, _), (0, _), (1, _), (2, _), (3, _)]) (dd dtX1_gatherNeeds 14 rfl) (Nat.le_of_ble_eq_true rfl) rfl ?_
        refine b_ic0 (pc := 29) (dd dtX1_gatherNeeds 15 rfl) ?_
        refine b_istore (pc := 30) (i := 6) (lv' := [(6, _), (5, _), (4, _), (0, _), (1, _), (2, _), (3, _)]) (dd dtX1_gatherNeeds 16 rfl) (Nat.le_of_ble_eq_true rfl) rfl ?_
        refine li_X1_gatherNeeds hk hz hz2 hL hL2 hk2 hlt (fun lv5 elv => ?_) (z + 1) 0 _ _ (Nat.zero_le _) (by omega) rfl rfl
        subst elv
        refine b_iload (pc := 80) (i := 5) (dd dtX1_gatherNeeds 41 rfl) rfl ?_
        refine b_if_eq (pc := 82) (tgt := 133) (dd dtX1_gatherNeeds 42 rfl) (by decide) (fun h82 => ?_) (fun h82 => ?_)
        · refine b_iinc1 (pc := 133) (i := 4) (lv' := [(4, _), (5, _), (0, _), (1, _), (2, _), (3, _)]) (dd dtX1_gatherNeeds 70 rfl) rfl (Nat.le_of_ble_eq_true rfl) rfl ?_
          refine b_goto (pc := 136) (tgt := 8) (dd dtX1_gatherNeeds 71 rfl) (by decide) ?_
          refine b_pick [0, 2, 3, 4, 5] (lv' := [(4, _), (0, _), (1, _), (2, _), (3, _)]) rfl ?_
          rw [nI_1]
          refine ih (h + 1) _ _ hlt (by omega) rfl ?_
          rw [gat_step]
          unfold gat1
          try simp only [f52, nI_clamp (show h < 2 ^ 31 by omega)] at h93
          first
            | rw [f50, if_pos h82]
            | (rw [f50, f51, f52, if_neg h82]; first | rw [if_pos h93] | (rw [if_neg h93]; simp (disch := decide) only [ist_ne, nI_clamp (show h < 2 ^ 31 by omega), f51]))
        · refine b_aload_n (pc := 85) (i := 2) (dd dtX1_gatherNeeds 43 rfl) rfl rfl ?_
          refine b_geta (pc := 86) (dd dtX1_gatherNeeds 44 rfl) fwX1_102 pC_49 rC_49_3 ?_
          refine b_iload (pc := 89) (i := 4) (dd dtX1_gatherNeeds 45 rfl) rfl ?_
          refine b_iald (pc := 91) (dd dtX1_gatherNeeds 46 rfl) pC_52 (vpn rfl (show h < 8 by omega) (by decide)) ?_
          refine b_iload_n (pc := 92) (i := 3) (dd dtX1_gatherNeeds 47 rfl) rfl rfl ?_
          refine b_icmp_gt (pc := 93) (tgt := 133) (dd dtX1_gatherNeeds 48 rfl) (by decide) (fun h93 => ?_) (fun h93 => ?_)
          · refine b_iinc1 (pc := 133) (i := 4) (lv' := [(4, _), (5, _), (0, _), (1, _), (2, _), (3, _)]) (dd dtX1_gatherNeeds 70 rfl) rfl (Nat.le_of_ble_eq_true rfl) rfl ?_
            refine b_goto (pc := 136) (tgt := 8) (dd dtX1_gatherNeeds 71 rfl) (by decide) ?_
            refine b_pick [0, 2, 3, 4, 5] (lv' := [(4, _), (0, _), (1, _), (2, _), (3, _)]) rfl ?_
            rw [nI_1]
            refine ih (h + 1) _ _ hlt (by omega) rfl ?_
            rw [gat_step]
            unfold gat1
            try simp only [f52, nI_clamp (show h < 2 ^ 31 by omega)] at h93
            first
              | rw [f50, if_pos h82]
              | (rw [f50, f51, f52, if_neg h82]; first | rw [if_pos h93] | (rw [if_neg h93]; simp (disch := decide) only [ist_ne, nI_clamp (show h < 2 ^ 31 by omega), f51]))
          · refine b_aload_n (pc := 96) (i := 0) (dd dtX1_gatherNeeds 49 rfl) rfl rfl ?_
            refine b_geta (pc := 97) (dd dtX1_gatherNeeds 50 rfl) fwX1_46 pC_57 rC_57_11 ?_
            refine b_aload_n (pc := 100) (i := 0) (dd dtX1_gatherNeeds 51 rfl) rfl rfl ?_
            refine b_geti (pc := 101) (dd dtX1_gatherNeeds 52 rfl) fwX1_43 pC_57 ?_
            refine b_aload_n (pc := 104) (i := 2) (dd dtX1_gatherNeeds 53 rfl) rfl rfl ?_
            refine b_geta (pc := 105) (dd dtX1_gatherNeeds 54 rfl) fwX1_105 pC_49 rC_49_2 ?_
            refine b_iload (pc := 108) (i := 4) (dd dtX1_gatherNeeds 55 rfl) rfl ?_
            refine b_iald (pc := 110) (dd dtX1_gatherNeeds 56 rfl) pC_51 (vpn rfl (show h < 8 by omega) (by decide)) ?_
            refine b_iast (pc := 111) (dd dtX1_gatherNeeds 57 rfl) pC_64 (by simp (disch := decide) only [ist_ne, hq2]; exact vpn rfl (show q < 8 by omega) (by decide)) ?_
            refine b_aload_n (pc := 112) (i := 0) (dd dtX1_gatherNeeds 58 rfl) rfl rfl ?_
            refine b_geta (pc := 113) (dd dtX1_gatherNeeds 59 rfl) fwX1_49 pC_57 rC_57_12 ?_
            refine b_aload_n (pc := 116) (i := 0) (dd dtX1_gatherNeeds 60 rfl) rfl rfl ?_
            refine b_geti (pc := 117) (dd dtX1_gatherNeeds 61 rfl) fwX1_43 pC_57 ?_
            refine b_iload (pc := 120) (i := 5) (dd dtX1_gatherNeeds 62 rfl) rfl ?_
            refine b_iast (pc := 122) (dd dtX1_gatherNeeds 63 rfl) pC_65 (by simp (disch := decide) only [ist_ne, hq2]; exact vpn rfl (show q < 8 by omega) (by decide)) ?_
            refine b_aload_n (pc := 123) (i := 0) (dd dtX1_gatherNeeds 64 rfl) rfl rfl ?_
            refine b_dup (pc := 124) (dd dtX1_gatherNeeds 65 rfl) rfl ?_
            refine b_geti (pc := 125) (dd dtX1_gatherNeeds 66 rfl) fwX1_43 pC_57 ?_
            refine b_ic1 (pc := 128) (dd dtX1_gatherNeeds 67 rfl) ?_
            refine b_iadd (pc := 129) (dd dtX1_gatherNeeds 68 rfl) ?_
            refine b_puti (pc := 130) (dd dtX1_gatherNeeds 69 rfl) fwX1_43 pC_57 ?_
            refine b_iinc1 (pc := 133) (i := 4) (lv' := [(4, _), (5, _), (0, _), (1, _), (2, _), (3, _)]) (dd dtX1_gatherNeeds 70 rfl) rfl (Nat.le_of_ble_eq_true rfl) rfl ?_
            refine b_goto (pc := 136) (tgt := 8) (dd dtX1_gatherNeeds 71 rfl) (by decide) ?_
            refine b_pick [0, 2, 3, 4, 5] (lv' := [(4, _), (0, _), (1, _), (2, _), (3, _)]) rfl ?_
            rw [nI_1]
            refine ih (h + 1) _ _ hlt (by omega) rfl ?_
            rw [gat_step]
            unfold gat1
            try simp only [f52, nI_clamp (show h < 2 ^ 31 by omega)] at h93
            first
              | rw [f50, if_pos h82]
              | (rw [f50, f51, f52, if_neg h82]; first | rw [if_pos h93] | (rw [if_neg h93]; simp (disch := decide) only [ist_ne, nI_clamp (show h < 2 ^ 31 by omega), f51]))
set_option maxHeartbeats 4000000 in
theorem c_X1_gatherNeeds {J : Wd} {k z L : Nat} {known : Int32} (hk : isS k) (hz : J 57 0 = nI z) (hz2 : z ≤ 5) (hL : J 49 0 = nI L) (hL2 : L ≤ 8) : Cal SyC mX1_gatherNeeds 2 [.ref 57, .ref k, .ref 49, .int known] J none (gatW (J (k + 1)) z known J L) := by
  refine Cal.of (by decide) (Nat.le_of_ble_eq_true rfl) ?_
  show Bd _ _ _ _ [(0, _), (1, _), (2, _), (3, _)] _ _ _ _
  refine b_aload_n (pc := 0) (i := 0) (dd dtX1_gatherNeeds 0 rfl) rfl rfl ?_
  refine b_ic0 (pc := 1) (dd dtX1_gatherNeeds 1 rfl) ?_
  refine b_puti (pc := 2) (dd dtX1_gatherNeeds 2 rfl) fwX1_43 pC_57 ?_
  refine b_ic0 (pc := 5) (dd dtX1_gatherNeeds 3 rfl) ?_
  refine b_istore (pc := 6) (i := 4) (lv' := [(4, _), (0, _), (1, _), (2, _), (3, _)]) (dd dtX1_gatherNeeds 4 rfl) (Nat.le_of_ble_eq_true rfl) rfl ?_
  exact l_X1_gatherNeeds hk hz hz2 hL hL2 (by unfold isS at hk; omega) (L + 1) 0 _ _ (Nat.zero_le _) (by omega) rfl rfl
def tX1_takeSizes : List (Nat × Instr × Nat) := [(0, .iload_n 1, 1), (1, .istore_n 2, 1), (2, .aload_n 0, 1), (3, .getfield 9, 3), (6, .iconst 1, 1), (7, .isub, 1), (8, .istore_n 3, 1), (9, .iload_n 3, 1), (10, .ifCond .lt 64, 3), (13, .aload_n 0, 1), (14, .getfield 40, 3), (17, .iload_n 3, 1), (18, .getstatic 78, 3), (21, .iload_n 2, 1), (22, .getstatic 78, 3), (25, .arraylength, 1), (26, .irem, 1), (27, .iaload, 1), (28, .iastore, 1), (29, .iload_n 2, 1), (30, .getstatic 78, 3), (33, .arraylength, 1), (34, .idiv, 1), (35, .istore_n 2, 1), (36, .aload_n 0, 1), (37, .getfield 40, 3), (40, .iload_n 3, 1), (41, .iaload, 1), (42, .aload_n 0, 1), (43, .getfield 34, 3), (46, .iload_n 3, 1), (47, .iaload, 1), (48, .if_icmp .lt 18, 3), (51, .aload_n 0, 1), (52, .getfield 40, 3), (55, .iload_n 3, 1), (56, .iaload, 1), (57, .aload_n 0, 1), (58, .getfield 37, 3), (61, .iload_n 3, 1), (62, .iaload, 1), (63, .if_icmp .le 5, 3), (66, .iconst 0, 1), (67, .ireturn, 1), (68, .iinc 3 (-1), 3), (71, .goto (-62), 3), (74, .iconst 1, 1), (75, .ireturn, 1)]
theorem dtX1_takeSizes : dec_ok mX1_takeSizes.2.1 tX1_takeSizes = true := by decide +kernel
theorem tk_lo {i r : Nat} {J : Wd} (h : tbSizes.getD (r % 5) 0 < J 61 i) : tk (i + 1) r J = (false, ist J 63 i (tbSizes.getD (r % 5) 0)) := by simp only [tk]; rw [if_pos h]
theorem tk_hi {i r : Nat} {J : Wd} (h : ¬ tbSizes.getD (r % 5) 0 < J 61 i) (h2 : J 62 i < tbSizes.getD (r % 5) 0) : tk (i + 1) r J = (false, ist J 63 i (tbSizes.getD (r % 5) 0)) := by simp only [tk]; rw [if_neg h, if_pos h2]
theorem tk_go {i r : Nat} {J : Wd} (h : ¬ tbSizes.getD (r % 5) 0 < J 61 i) (h2 : ¬ J 62 i < tbSizes.getD (r % 5) 0) : tk (i + 1) r J = tk i (r / 5) (ist J 63 i (tbSizes.getD (r % 5) 0)) := by simp only [tk]; rw [if_neg h, if_neg h2]
theorem rem5 {r : Nat} (h : r < 2 ^ 31) : nI r - nI r / 5 * 5 = nI (r % 5) := pk_rem (d := 5) h (by decide) (by decide)
theorem div5 {r : Nat} (h : r < 2 ^ 31) : nI r / 5 = nI (r / 5) := pk_div (d := 5) h (by decide) (by decide)
set_option maxHeartbeats 4000000 in
theorem l_X1_takeSizes {n0 : Int32} : ∀ (i r : Nat) (x3 x2 : Int32) (J : Wd), i ≤ 5 → r < 2 ^ 31 → x3 = nI i - 1 → x2 = nI r → Bd SyC mX1_takeSizes 0 9 [(3, .int x3), (2, .int x2), (0, .ref 57), (1, .int n0)] [] J (some (.int (bi ((tk i r J).1 = true)))) (tk i r J).2 := by
  intro i
  induction i with
  | zero =>
    intro r x3 x2 J hi hr e3 e2
    subst e3; subst e2
    refine b_iload_n (pc := 9) (i := 3) (dd dtX1_takeSizes 7 rfl) rfl rfl ?_
    refine b_if_lt (pc := 10) (tgt := 74) (dd dtX1_takeSizes 8 rfl) (by decide) (fun h10 => ?_) (fun h10 => ?_)
    · refine b_ic1 (pc := 74) (dd dtX1_takeSizes 46 rfl) ?_
      refine b_eq (b_zret (dd dtX1_takeSizes 47 rfl) rfl (by first | rfl | exact nar_bi)) ?_ ?_
      · rfl
      · rfl
    · exact absurd (show nI 0 - 1 < 0 by decide) h10
  | succ i ih =>
    intro r x3 x2 J hi hr e3 e2
    rw [nI_pred] at e3
    subst e3; subst e2
    have hci : (nI i).toNatClampNeg = i := nI_clamp (by omega)
    have hrr := rem5 hr
    have hmm : r % 5 < 5 := Nat.mod_lt _ (by decide)
    refine b_iload_n (pc := 9) (i := 3) (dd dtX1_takeSizes 7 rfl) rfl rfl ?_
    refine b_if_lt (pc := 10) (tgt := 74) (dd dtX1_takeSizes 8 rfl) (by decide) (fun h10 => ?_) (fun h10 => ?_)
    · exact absurd h10 (nI_pos (by omega))
    · refine b_aload_n (pc := 13) (i := 0) (dd dtX1_takeSizes 9 rfl) rfl rfl ?_
      refine b_geta (pc := 14) (dd dtX1_takeSizes 10 rfl) fwX1_40 pC_57 rC_57_9 ?_
      refine b_iload_n (pc := 17) (i := 3) (dd dtX1_takeSizes 11 rfl) rfl rfl ?_
      refine b_gets3 (pc := 18) (dd dtX1_takeSizes 12 rfl) fsX1_78 ?_
      refine b_iload_n (pc := 21) (i := 2) (dd dtX1_takeSizes 13 rfl) rfl rfl ?_
      refine b_gets3 (pc := 22) (dd dtX1_takeSizes 14 rfl) fsX1_78 ?_
      refine b_tlen3 (pc := 25) (v := 5) (dd dtX1_takeSizes 15 rfl) rfl ?_
      refine b_irem (pc := 26) (dd dtX1_takeSizes 16 rfl) (by decide) ?_
      refine b_tald3 (pc := 27) (dd dtX1_takeSizes 17 rfl) (by rw [hrr]; exact vpn rfl hmm (by decide)) ?_
      refine b_iast (pc := 28) (dd dtX1_takeSizes 18 rfl) pC_63 (vpn rfl (show i < 5 by omega) (by decide)) ?_
      refine b_iload_n (pc := 29) (i := 2) (dd dtX1_takeSizes 19 rfl) rfl rfl ?_
      refine b_gets3 (pc := 30) (dd dtX1_takeSizes 20 rfl) fsX1_78 ?_
      refine b_tlen3 (pc := 33) (v := 5) (dd dtX1_takeSizes 21 rfl) rfl ?_
      refine b_idiv (pc := 34) (dd dtX1_takeSizes 22 rfl) (by decide) ?_
      refine b_istore_n (pc := 35) (i := 2) (lv' := [(2, _), (3, _), (0, _), (1, _)]) (dd dtX1_takeSizes 23 rfl) rfl (Nat.le_of_ble_eq_true rfl) rfl ?_
      refine b_aload_n (pc := 36) (i := 0) (dd dtX1_takeSizes 24 rfl) rfl rfl ?_
      refine b_geta (pc := 37) (dd dtX1_takeSizes 25 rfl) fwX1_40 pC_57 rC_57_9 ?_
      refine b_iload_n (pc := 40) (i := 3) (dd dtX1_takeSizes 26 rfl) rfl rfl ?_
      refine b_iald (pc := 41) (dd dtX1_takeSizes 27 rfl) pC_63 (vpn rfl (show i < 5 by omega) (by decide)) ?_
      refine b_aload_n (pc := 42) (i := 0) (dd dtX1_takeSizes 28 rfl) rfl rfl ?_
      refine b_geta (pc := 43) (dd dtX1_takeSizes 29 rfl) fwX1_34 pC_57 rC_57_7 ?_
      refine b_iload_n (pc := 46) (i := 3) (dd dtX1_takeSizes 30 rfl) rfl rfl ?_
      refine b_iald (pc := 47) (dd dtX1_takeSizes 31 rfl) pC_61 (vpn rfl (show i < 5 by omega) (by decide)) ?_
      refine b_icmp_lt (pc := 48) (tgt := 66) (dd dtX1_takeSizes 32 rfl) (by decide) (fun h48 => ?_) (fun h48 => ?_)
      · simp only [hrr, hci, nI_clamp (show r % 5 < 2 ^ 31 by omega), ist_eq, upd_eq, ist_ne (show (61 : Nat) ≠ 63 by decide), ist_ne (show (62 : Nat) ≠ 63 by decide)] at *
        refine b_ic0 (pc := 66) (dd dtX1_takeSizes 42 rfl) ?_
        refine b_eq (b_zret (dd dtX1_takeSizes 43 rfl) rfl (by first | rfl | exact nar_bi)) ?_ ?_
        · first | rw [tk_lo h48] | rw [tk_hi h48 h63]
          simp [bi]
        · first | rw [tk_lo h48] | rw [tk_hi h48 h63]
      · refine b_aload_n (pc := 51) (i := 0) (dd dtX1_takeSizes 33 rfl) rfl rfl ?_
        refine b_geta (pc := 52) (dd dtX1_takeSizes 34 rfl) fwX1_40 pC_57 rC_57_9 ?_
        refine b_iload_n (pc := 55) (i := 3) (dd dtX1_takeSizes 35 rfl) rfl rfl ?_
        refine b_iald (pc := 56) (dd dtX1_takeSizes 36 rfl) pC_63 (vpn rfl (show i < 5 by omega) (by decide)) ?_
        refine b_aload_n (pc := 57) (i := 0) (dd dtX1_takeSizes 37 rfl) rfl rfl ?_
        refine b_geta (pc := 58) (dd dtX1_takeSizes 38 rfl) fwX1_37 pC_57 rC_57_8 ?_
        refine b_iload_n (pc := 61) (i := 3) (dd dtX1_takeSizes 39 rfl) rfl rfl ?_
        refine b_iald (pc := 62) (dd dtX1_takeSizes 40 rfl) pC_62 (vpn rfl (show i < 5 by omega) (by decide)) ?_
        refine b_icmpL_le (pc := 63) (tgt := 68) (dd dtX1_takeSizes 41 rfl) (by decide) (fun h63 => ?_) (fun h63 => ?_)
        · simp only [hrr, hci, nI_clamp (show r % 5 < 2 ^ 31 by omega), ist_eq, upd_eq, ist_ne (show (61 : Nat) ≠ 63 by decide), ist_ne (show (62 : Nat) ≠ 63 by decide)] at *
          refine b_iinc (pc := 68) (i := 3) (v := _ + (-1)) (lv' := [(3, _), (2, _), (0, _), (1, _)]) (dd dtX1_takeSizes 44 rfl) rfl rfl (Nat.le_of_ble_eq_true rfl) rfl ?_
          refine b_goto (pc := 71) (tgt := 9) (dd dtX1_takeSizes 45 rfl) (by decide) ?_
          refine b_eq (ih (r / 5) _ _ _ (by omega) (by omega) ?_ (div5 hr)) ?_ ?_
          · rw [Int32.sub_eq_add_neg]
          · rw [tk_go h48 h63]
          · rw [tk_go h48 h63]
        · simp only [hrr, hci, nI_clamp (show r % 5 < 2 ^ 31 by omega), ist_eq, upd_eq, ist_ne (show (61 : Nat) ≠ 63 by decide), ist_ne (show (62 : Nat) ≠ 63 by decide)] at *
          refine b_ic0 (pc := 66) (dd dtX1_takeSizes 42 rfl) ?_
          refine b_eq (b_zret (dd dtX1_takeSizes 43 rfl) rfl (by first | rfl | exact nar_bi)) ?_ ?_
          · first | rw [tk_lo h48] | rw [tk_hi h48 h63]
            simp [bi]
          · first | rw [tk_lo h48] | rw [tk_hi h48 h63]
set_option maxHeartbeats 4000000 in
theorem c_X1_takeSizes {J : Wd} {z : Nat} (hz : J 57 0 = nI z) (hz2 : z ≤ 5) {r : Nat} (hr : r < 2 ^ 31) : Cal SyC mX1_takeSizes 0 [.ref 57, .int (nI r)] J (some (.int (bi ((tk z r J).1 = true)))) (tk z r J).2 := by
  refine Cal.of (by decide) (Nat.le_of_ble_eq_true rfl) ?_
  show Bd _ _ _ _ [(0, _), (1, _)] _ _ _ _
  refine b_iload_n (pc := 0) (i := 1) (dd dtX1_takeSizes 0 rfl) rfl rfl ?_
  refine b_istore_n (pc := 1) (i := 2) (lv' := [(2, _), (0, _), (1, _)]) (dd dtX1_takeSizes 1 rfl) rfl (Nat.le_of_ble_eq_true rfl) rfl ?_
  refine b_aload_n (pc := 2) (i := 0) (dd dtX1_takeSizes 2 rfl) rfl rfl ?_
  refine b_geti (pc := 3) (dd dtX1_takeSizes 3 rfl) fwX1_9 pC_57 ?_
  refine b_ic1 (pc := 6) (dd dtX1_takeSizes 4 rfl) ?_
  refine b_isub (pc := 7) (dd dtX1_takeSizes 5 rfl) ?_
  refine b_istore_n (pc := 8) (i := 3) (lv' := [(3, _), (2, _), (0, _), (1, _)]) (dd dtX1_takeSizes 6 rfl) rfl (Nat.le_of_ble_eq_true rfl) rfl ?_
  exact l_X1_takeSizes z r _ _ _ hz2 hr (by rw [hz]) rfl
