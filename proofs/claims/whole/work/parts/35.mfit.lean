/-! fits of the reference -/
abbrev farM (a b : Int32) : Prop := 1 < (a - a / 8 * 8 - (b - b / 8 * 8)) * (a - a / 8 * 8 - (b - b / 8 * 8)) + (a / 8 - b / 8) * (a / 8 - b / 8)
def smM (fc sz : Nat → Int32) (c : Int32) : Nat → Int32
  | 0 => 0
  | k + 1 => if farM (fc k) c then smM fc sz c k else smM fc sz c k + sz k
def soM (fc : Nat → Int32) (c : Int32) : Nat → Int32
  | 0 => 0
  | k + 1 => if farM (fc k) c then soM fc c k else 1
abbrev inM (J : Wd) (n : Nat) : Prop := ∀ k, k < n → inR (J 30 k) (J 28 k) (J 29 k)
abbrev ndM (J : Wd) (z : Nat) (known : Int32) (n : Nat) : Prop := ∀ l, l < n → ¬ known < J 25 l → ¬ soM (J 27) (J 23 l) z = 0 → ¬ smM (J 27) (J 30) (J 23 l) z < J 24 l
abbrev fitP (J : Wd) (z L : Nat) (known : Int32) : Prop := inM J z ∧ ndM J z known L
def tX11_isNear : List (Nat × Instr × Nat) := [(0, .iload_n 1, 1), (1, .bipush 8, 2), (3, .irem, 1), (4, .iload_n 2, 1), (5, .bipush 8, 2), (7, .irem, 1), (8, .isub, 1), (9, .istore_n 3, 1), (10, .iload_n 1, 1), (11, .bipush 8, 2), (13, .idiv, 1), (14, .iload_n 2, 1), (15, .bipush 8, 2), (17, .idiv, 1), (18, .isub, 1), (19, .istore 4, 2), (21, .iload_n 3, 1), (22, .iload_n 3, 1), (23, .imul, 1), (24, .iload 4, 2), (26, .iload 4, 2), (28, .imul, 1), (29, .iadd, 1), (30, .iconst 1, 1), (31, .if_icmp .gt 7, 3), (34, .iconst 1, 1), (35, .goto 4, 3), (38, .iconst 0, 1), (39, .ireturn, 1)]
theorem dtX11_isNear : dec_ok mX11_isNear.2.1 tX11_isNear = true := by decide +kernel
set_option maxHeartbeats 4000000 in
theorem c_X11_isNear {J : Wd} {a b : Int32} : Cal SyM mX11_isNear 0 [.ref 0, .int a, .int b] J (some (.int (bi (¬ farM a b)))) J := by
  refine Cal.of (by decide) (Nat.le_of_ble_eq_true rfl) ?_
  show Bd _ _ _ _ [(0, _), (1, _), (2, _)] _ _ _ _
  refine b_iload_n (pc := 0) (i := 1) (dd dtX11_isNear 0 rfl) rfl rfl ?_
  refine b_bipush (pc := 1) (v := 8) (dd dtX11_isNear 1 rfl) (by decide) ?_
  refine b_irem (pc := 3) (dd dtX11_isNear 2 rfl) (by decide) ?_
  refine b_iload_n (pc := 4) (i := 2) (dd dtX11_isNear 3 rfl) rfl rfl ?_
  refine b_bipush (pc := 5) (v := 8) (dd dtX11_isNear 4 rfl) (by decide) ?_
  refine b_irem (pc := 7) (dd dtX11_isNear 5 rfl) (by decide) ?_
  refine b_isub (pc := 8) (dd dtX11_isNear 6 rfl) ?_
  refine b_istore_n (pc := 9) (i := 3) (lv' := [(3, _), (0, _), (1, _), (2, _)]) (dd dtX11_isNear 7 rfl) rfl (Nat.le_of_ble_eq_true rfl) rfl ?_
  refine b_iload_n (pc := 10) (i := 1) (dd dtX11_isNear 8 rfl) rfl rfl ?_
  refine b_bipush (pc := 11) (v := 8) (dd dtX11_isNear 9 rfl) (by decide) ?_
  refine b_idiv (pc := 13) (dd dtX11_isNear 10 rfl) (by decide) ?_
  refine b_iload_n (pc := 14) (i := 2) (dd dtX11_isNear 11 rfl) rfl rfl ?_
  refine b_bipush (pc := 15) (v := 8) (dd dtX11_isNear 12 rfl) (by decide) ?_
  refine b_idiv (pc := 17) (dd dtX11_isNear 13 rfl) (by decide) ?_
  refine b_isub (pc := 18) (dd dtX11_isNear 14 rfl) ?_
  refine b_istore (pc := 19) (i := 4) (lv' := [(4, _), (3, _), (0, _), (1, _), (2, _)]) (dd dtX11_isNear 15 rfl) (Nat.le_of_ble_eq_true rfl) rfl ?_
  refine b_iload_n (pc := 21) (i := 3) (dd dtX11_isNear 16 rfl) rfl rfl ?_
  refine b_iload_n (pc := 22) (i := 3) (dd dtX11_isNear 17 rfl) rfl rfl ?_
  refine b_imul (pc := 23) (dd dtX11_isNear 18 rfl) ?_
  refine b_iload (pc := 24) (i := 4) (dd dtX11_isNear 19 rfl) rfl ?_
  refine b_iload (pc := 26) (i := 4) (dd dtX11_isNear 20 rfl) rfl ?_
  refine b_imul (pc := 28) (dd dtX11_isNear 21 rfl) ?_
  refine b_iadd (pc := 29) (dd dtX11_isNear 22 rfl) ?_
  refine b_ic1 (pc := 30) (dd dtX11_isNear 23 rfl) ?_
  refine b_icmp_gt (pc := 31) (tgt := 38) (dd dtX11_isNear 24 rfl) (by decide) (fun h31 => ?_) (fun h31 => ?_)
  · refine b_ic0 (pc := 38) (dd dtX11_isNear 27 rfl) ?_
    refine b_eq (b_zret (dd dtX11_isNear 28 rfl) rfl (by first | rfl | exact nar_bi)) ?_ ?_
    · first | exact congrArg (fun x => some (Value.int x)) (bi_f (fun q => q h31)).symm | exact congrArg (fun x => some (Value.int x)) (bi_t h31).symm
    · rfl
  · refine b_ic1 (pc := 34) (dd dtX11_isNear 25 rfl) ?_
    refine b_goto (pc := 35) (tgt := 39) (dd dtX11_isNear 26 rfl) (by decide) ?_
    refine b_eq (b_zret (dd dtX11_isNear 28 rfl) rfl (by first | rfl | exact nar_bi)) ?_ ?_
    · first | exact congrArg (fun x => some (Value.int x)) (bi_f (fun q => q h31)).symm | exact congrArg (fun x => some (Value.int x)) (bi_t h31).symm
    · rfl
def tX11_isFit : List (Nat × Instr × Nat) := [(0, .iconst 0, 1), (1, .istore_n 2, 1), (2, .iload_n 2, 1), (3, .aload_n 0, 1), (4, .getfield 118, 3), (7, .if_icmp .ge 36, 3), (10, .aload_n 0, 1), (11, .aload_n 0, 1), (12, .getfield 140, 3), (15, .iload_n 2, 1), (16, .iaload, 1), (17, .aload_n 0, 1), (18, .getfield 134, 3), (21, .iload_n 2, 1), (22, .iaload, 1), (23, .aload_n 0, 1), (24, .getfield 137, 3), (27, .iload_n 2, 1), (28, .iaload, 1), (29, .invokevirtual 1, 3), (32, .ifCond .ne 5, 3), (35, .iconst 0, 1), (36, .ireturn, 1), (37, .iinc 2 1, 3), (40, .goto (-38), 3), (43, .iconst 0, 1), (44, .istore_n 2, 1), (45, .iload_n 2, 1), (46, .aload_n 0, 1), (47, .getfield 106, 3), (50, .if_icmp .ge 98, 3), (53, .aload_n 0, 1), (54, .getfield 115, 3), (57, .iload_n 2, 1), (58, .iaload, 1), (59, .iload_n 1, 1), (60, .if_icmp .le 6, 3), (63, .goto 79, 3), (66, .iconst 0, 1), (67, .istore_n 3, 1), (68, .iconst 0, 1), (69, .istore 4, 2), (71, .iconst 0, 1), (72, .istore 5, 2), (74, .iload 5, 2), (76, .aload_n 0, 1), (77, .getfield 118, 3), (80, .if_icmp .ge 45, 3), (83, .aload_n 0, 1), (84, .aload_n 0, 1), (85, .getfield 131, 3), (88, .iload 5, 2), (90, .iaload, 1), (91, .aload_n 0, 1), (92, .getfield 109, 3), (95, .iload_n 2, 1), (96, .iaload, 1), (97, .invokevirtual 293, 3), (100, .ifCond .ne 6, 3), (103, .goto 16, 3), (106, .iconst 1, 1), (107, .istore 4, 2), (109, .iload_n 3, 1), (110, .aload_n 0, 1), (111, .getfield 140, 3), (114, .iload 5, 2), (116, .iaload, 1), (117, .iadd, 1), (118, .istore_n 3, 1), (119, .iinc 5 1, 3), (122, .goto (-48), 3), (125, .iload 4, 2), (127, .ifCond .eq 15, 3), (130, .iload_n 3, 1), (131, .aload_n 0, 1), (132, .getfield 112, 3), (135, .iload_n 2, 1), (136, .iaload, 1), (137, .if_icmp .ge 5, 3), (140, .iconst 0, 1), (141, .ireturn, 1), (142, .iinc 2 1, 3), (145, .goto (-100), 3), (148, .iconst 1, 1), (149, .ireturn, 1)]
theorem dtX11_isFit : dec_ok mX11_isFit.2.1 tX11_isFit = true := by decide +kernel
set_option maxHeartbeats 4000000 in
theorem l3_X11_isFit {J : Wd} {z L : Nat} {known : Int32} (hz : J 0 34 = nI z) (hz2 : z ≤ 5) (hL : J 0 30 = nI L) (hL2 : L ≤ 8) {l : Nat} (hl : l < L) {r : Option Value} (kk : Bd SyM mX11_isFit 1 125 [(4, .int (soM (J 27) (J 23 l) z)), (3, .int (smM (J 27) (J 30) (J 23 l) z)), (2, .int (nI l)), (0, .ref 0), (1, .int known)] [] J r J) : ∀ (n h : Nat) (x5 x4 x3 : Int32), h ≤ z → z < h + n → x5 = nI h → x4 = soM (J 27) (J 23 l) h → x3 = smM (J 27) (J 30) (J 23 l) h → Bd SyM mX11_isFit 1 74 [(5, .int x5), (4, .int x4), (3, .int x3), (2, .int (nI l)), (0, .ref 0), (1, .int known)] [] J r J := by
  intro n
  induction n with
  | zero => intro h x5 x4 x3 h1 h2; omega
  | succ n ih =>
    intro h x5 x4 x3 h1 h2 e5 e4 e3
    subst e5; subst e4; subst e3
    refine b_iload (pc := 74) (i := 5) (dd dtX11_isFit 44 rfl) rfl ?_
    refine b_aload_n (pc := 76) (i := 0) (dd dtX11_isFit 45 rfl) rfl rfl ?_
    refine b_geti (pc := 77) (dd dtX11_isFit 46 rfl) fwX11_118 pM_0 ?_
    refine b_icmpL_ge (pc := 80) (tgt := 125) (dd dtX11_isFit 47 rfl) (by decide) (fun h80 => ?_) (fun h80 => ?_)
    · refine b_pick [1, 2, 3, 4, 5] (lv' := [(4, _), (3, _), (2, _), (0, _), (1, _)]) rfl ?_
      rw [hz] at h80
      have he : h = z := by have := ge_n h80 (by omega); omega
      subst he
      exact kk
    · rw [hz] at h80
      have hlt : h < z := lt_n h80 (by omega) (by omega)
      refine b_aload_n (pc := 83) (i := 0) (dd dtX11_isFit 48 rfl) rfl rfl ?_
      refine b_aload_n (pc := 84) (i := 0) (dd dtX11_isFit 49 rfl) rfl rfl ?_
      refine b_geta (pc := 85) (dd dtX11_isFit 50 rfl) fwX11_131 pM_0 rM_0_38 ?_
      refine b_iload (pc := 88) (i := 5) (dd dtX11_isFit 51 rfl) rfl ?_
      refine b_iald (pc := 90) (dd dtX11_isFit 52 rfl) pM_27 (vpn rfl (show h < 5 by omega) (by decide)) ?_
      refine b_aload_n (pc := 91) (i := 0) (dd dtX11_isFit 53 rfl) rfl rfl ?_
      refine b_geta (pc := 92) (dd dtX11_isFit 54 rfl) fwX11_109 pM_0 rM_0_31 ?_
      refine b_iload_n (pc := 95) (i := 2) (dd dtX11_isFit 55 rfl) rfl rfl ?_
      refine b_iald (pc := 96) (dd dtX11_isFit 56 rfl) pM_23 (vpn rfl (show l < 8 by omega) (by decide)) ?_
      refine b_invV (pc := 97) (dd dtX11_isFit 57 rfl) mlX11_293 mvX11_isNear miX11_isNear (c_X11_isNear) oM_0 rfl rfl (by decide) (Nat.le_of_ble_eq_true rfl) ?_
      refine b_ifn_ne (pc := 100) (tgt := 106) (dd dtX11_isFit 58 rfl) (by decide) (fun h100 => ?_) (fun h100 => ?_)
      · refine b_ic1 (pc := 106) (dd dtX11_isFit 60 rfl) ?_
        refine b_istore (pc := 107) (i := 4) (lv' := [(4, _), (5, _), (3, _), (2, _), (0, _), (1, _)]) (dd dtX11_isFit 61 rfl) (Nat.le_of_ble_eq_true rfl) rfl ?_
        refine b_iload_n (pc := 109) (i := 3) (dd dtX11_isFit 62 rfl) rfl rfl ?_
        refine b_aload_n (pc := 110) (i := 0) (dd dtX11_isFit 63 rfl) rfl rfl ?_
        refine b_geta (pc := 111) (dd dtX11_isFit 64 rfl) fwX11_140 pM_0 rM_0_41 ?_
        refine b_iload (pc := 114) (i := 5) (dd dtX11_isFit 65 rfl) rfl ?_
        refine b_iald (pc := 116) (dd dtX11_isFit 66 rfl) pM_30 (vpn rfl (show h < 5 by omega) (by decide)) ?_
        refine b_iadd (pc := 117) (dd dtX11_isFit 67 rfl) ?_
        refine b_istore_n (pc := 118) (i := 3) (lv' := [(3, _), (4, _), (5, _), (2, _), (0, _), (1, _)]) (dd dtX11_isFit 68 rfl) rfl (Nat.le_of_ble_eq_true rfl) rfl ?_
        refine b_iinc1 (pc := 119) (i := 5) (lv' := [(5, _), (3, _), (4, _), (2, _), (0, _), (1, _)]) (dd dtX11_isFit 69 rfl) rfl (Nat.le_of_ble_eq_true rfl) rfl ?_
        refine b_goto (pc := 122) (tgt := 74) (dd dtX11_isFit 70 rfl) (by decide) ?_
        refine b_pick [0, 2, 1, 3, 4, 5] (lv' := [(5, _), (4, _), (3, _), (2, _), (0, _), (1, _)]) rfl ?_
        rw [nI_1]
        simp only [nI_clamp (show h < 2 ^ 31 by omega), nI_clamp (show l < 2 ^ 31 by omega)] at h100 ⊢
        refine ih (h + 1) _ _ _ hlt (by omega) rfl ?_ ?_
        · simp only [soM]
          first | rw [if_pos h100] | rw [if_neg h100]
        · simp only [smM]
          first | rw [if_pos h100] | rw [if_neg h100]
      · refine b_goto (pc := 103) (tgt := 119) (dd dtX11_isFit 59 rfl) (by decide) ?_
        refine b_iinc1 (pc := 119) (i := 5) (lv' := [(5, _), (4, _), (3, _), (2, _), (0, _), (1, _)]) (dd dtX11_isFit 69 rfl) rfl (Nat.le_of_ble_eq_true rfl) rfl ?_
        refine b_goto (pc := 122) (tgt := 74) (dd dtX11_isFit 70 rfl) (by decide) ?_
        rw [nI_1]
        simp only [nI_clamp (show h < 2 ^ 31 by omega), nI_clamp (show l < 2 ^ 31 by omega)] at h100 ⊢
        refine ih (h + 1) _ _ _ hlt (by omega) rfl ?_ ?_
        · simp only [soM]
          first | rw [if_pos h100] | rw [if_neg h100]
        · simp only [smM]
          first | rw [if_pos h100] | rw [if_neg h100]
set_option maxHeartbeats 4000000 in
theorem l2_X11_isFit {J : Wd} {z L : Nat} {known : Int32} (hz : J 0 34 = nI z) (hz2 : z ≤ 5) (hL : J 0 30 = nI L) (hL2 : L ≤ 8) (hin0 : inM J z) : ∀ (n h : Nat) (x2 : Int32), h ≤ L → L < h + n → x2 = nI h → (ndM J z known h) → Bd SyM mX11_isFit 1 45 [(2, .int x2), (0, .ref 0), (1, .int known)] [] J (some (.int (bi (fitP J z L known)))) J := by
  intro n
  induction n with
  | zero => intro h x2 h1 h2; omega
  | succ n ih =>
    intro h x2 h1 h2 e2 hI
    subst e2
    refine b_iload_n (pc := 45) (i := 2) (dd dtX11_isFit 27 rfl) rfl rfl ?_
    refine b_aload_n (pc := 46) (i := 0) (dd dtX11_isFit 28 rfl) rfl rfl ?_
    refine b_geti (pc := 47) (dd dtX11_isFit 29 rfl) fwX11_106 pM_0 ?_
    refine b_icmpL_ge (pc := 50) (tgt := 148) (dd dtX11_isFit 30 rfl) (by decide) (fun h50 => ?_) (fun h50 => ?_)
    · rw [hL] at h50
      have he : h = L := Nat.le_antisymm h1 (ge_n h50 (by omega))
      subst he
      refine b_ic1 (pc := 148) (dd dtX11_isFit 83 rfl) ?_
      refine b_eq (b_zret (dd dtX11_isFit 84 rfl) rfl (by first | rfl | exact nar_bi)) ?_ ?_
      · rw [bi_t ⟨hin0, hI⟩]
      · rfl
    · rw [hL] at h50
      have hlt : h < L := lt_n h50 (by omega) (by omega)
      refine b_aload_n (pc := 53) (i := 0) (dd dtX11_isFit 31 rfl) rfl rfl ?_
      refine b_geta (pc := 54) (dd dtX11_isFit 32 rfl) fwX11_115 pM_0 rM_0_33 ?_
      refine b_iload_n (pc := 57) (i := 2) (dd dtX11_isFit 33 rfl) rfl rfl ?_
      refine b_iald (pc := 58) (dd dtX11_isFit 34 rfl) pM_25 (vpn rfl (show h < 8 by omega) (by decide)) ?_
      refine b_iload_n (pc := 59) (i := 1) (dd dtX11_isFit 35 rfl) rfl rfl ?_
      refine b_icmpL_le (pc := 60) (tgt := 66) (dd dtX11_isFit 36 rfl) (by decide) (fun h60 => ?_) (fun h60 => ?_)
      · refine b_ic0 (pc := 66) (dd dtX11_isFit 38 rfl) ?_
        refine b_istore_n (pc := 67) (i := 3) (lv' := [(3, _), (2, _), (0, _), (1, _)]) (dd dtX11_isFit 39 rfl) rfl (Nat.le_of_ble_eq_true rfl) rfl ?_
        refine b_ic0 (pc := 68) (dd dtX11_isFit 40 rfl) ?_
        refine b_istore (pc := 69) (i := 4) (lv' := [(4, _), (3, _), (2, _), (0, _), (1, _)]) (dd dtX11_isFit 41 rfl) (Nat.le_of_ble_eq_true rfl) rfl ?_
        refine b_ic0 (pc := 71) (dd dtX11_isFit 42 rfl) ?_
        refine b_istore (pc := 72) (i := 5) (lv' := [(5, _), (4, _), (3, _), (2, _), (0, _), (1, _)]) (dd dtX11_isFit 43 rfl) (Nat.le_of_ble_eq_true rfl) rfl ?_
        refine l3_X11_isFit hz hz2 hL hL2 hlt ?_ (z + 1) 0 _ _ _ (Nat.zero_le _) (by omega) rfl rfl rfl
        refine b_iload (pc := 125) (i := 4) (dd dtX11_isFit 71 rfl) rfl ?_
        refine b_if_eq (pc := 127) (tgt := 142) (dd dtX11_isFit 72 rfl) (by decide) (fun h127 => ?_) (fun h127 => ?_)
        · refine b_iinc1 (pc := 142) (i := 2) (lv' := [(2, _), (4, _), (3, _), (0, _), (1, _)]) (dd dtX11_isFit 81 rfl) rfl (Nat.le_of_ble_eq_true rfl) rfl ?_
          refine b_goto (pc := 145) (tgt := 45) (dd dtX11_isFit 82 rfl) (by decide) ?_
          refine b_pick [0, 3, 4] (lv' := [(2, _), (0, _), (1, _)]) rfl ?_
          rw [nI_1]
          refine ih (h + 1) _ hlt (by omega) rfl ?_
          try simp only [nI_clamp (show h < 2 ^ 31 by omega)] at h60
          try simp only [nI_clamp (show h < 2 ^ 31 by omega)] at h137
          intro l hl
          rcases Nat.lt_succ_iff_lt_or_eq.mp hl with q | q
          · exact hI l q
          · subst q
            first
            | exact fun _ q2 => absurd h127 q2
            | exact fun _ _ => h137
        · refine b_iload_n (pc := 130) (i := 3) (dd dtX11_isFit 73 rfl) rfl rfl ?_
          refine b_aload_n (pc := 131) (i := 0) (dd dtX11_isFit 74 rfl) rfl rfl ?_
          refine b_geta (pc := 132) (dd dtX11_isFit 75 rfl) fwX11_112 pM_0 rM_0_32 ?_
          refine b_iload_n (pc := 135) (i := 2) (dd dtX11_isFit 76 rfl) rfl rfl ?_
          refine b_iald (pc := 136) (dd dtX11_isFit 77 rfl) pM_24 (vpn rfl (show h < 8 by omega) (by decide)) ?_
          refine b_icmpL_ge (pc := 137) (tgt := 142) (dd dtX11_isFit 78 rfl) (by decide) (fun h137 => ?_) (fun h137 => ?_)
          · refine b_iinc1 (pc := 142) (i := 2) (lv' := [(2, _), (4, _), (3, _), (0, _), (1, _)]) (dd dtX11_isFit 81 rfl) rfl (Nat.le_of_ble_eq_true rfl) rfl ?_
            refine b_goto (pc := 145) (tgt := 45) (dd dtX11_isFit 82 rfl) (by decide) ?_
            refine b_pick [0, 3, 4] (lv' := [(2, _), (0, _), (1, _)]) rfl ?_
            rw [nI_1]
            refine ih (h + 1) _ hlt (by omega) rfl ?_
            try simp only [nI_clamp (show h < 2 ^ 31 by omega)] at h60
            try simp only [nI_clamp (show h < 2 ^ 31 by omega)] at h137
            intro l hl
            rcases Nat.lt_succ_iff_lt_or_eq.mp hl with q | q
            · exact hI l q
            · subst q
              first
              | exact fun _ q2 => absurd h127 q2
              | exact fun _ _ => h137
          · refine b_ic0 (pc := 140) (dd dtX11_isFit 79 rfl) ?_
            refine b_eq (b_zret (dd dtX11_isFit 80 rfl) rfl (by first | rfl | exact nar_bi)) ?_ ?_
            · simp only [nI_clamp (show h < 2 ^ 31 by omega)] at h60 h137
              rw [bi_f (fun q => q.2 h hlt h60 h127 h137)]
            · rfl
      · refine b_goto (pc := 63) (tgt := 142) (dd dtX11_isFit 37 rfl) (by decide) ?_
        refine b_iinc1 (pc := 142) (i := 2) (lv' := [(2, _), (0, _), (1, _)]) (dd dtX11_isFit 81 rfl) rfl (Nat.le_of_ble_eq_true rfl) rfl ?_
        refine b_goto (pc := 145) (tgt := 45) (dd dtX11_isFit 82 rfl) (by decide) ?_
        rw [nI_1]
        refine ih (h + 1) _ hlt (by omega) rfl ?_
        · try simp only [nI_clamp (show h < 2 ^ 31 by omega)] at h60
          try simp only [nI_clamp (show h < 2 ^ 31 by omega)] at h137
          intro l hl
          rcases Nat.lt_succ_iff_lt_or_eq.mp hl with q | q
          · exact hI l q
          · subst q
            first
            | exact fun q => absurd h60 q
            | exact fun _ q2 => absurd h127 q2
            | exact fun _ _ => h137
set_option maxHeartbeats 4000000 in
theorem l1_X11_isFit {J : Wd} {z L : Nat} {known : Int32} (hz : J 0 34 = nI z) (hz2 : z ≤ 5) (hL : J 0 30 = nI L) (hL2 : L ≤ 8) : ∀ (n h : Nat) (x2 : Int32), h ≤ z → z < h + n → x2 = nI h → (inM J h) → Bd SyM mX11_isFit 1 2 [(2, .int x2), (0, .ref 0), (1, .int known)] [] J (some (.int (bi (fitP J z L known)))) J := by
  intro n
  induction n with
  | zero => intro h x2 h1 h2; omega
  | succ n ih =>
    intro h x2 h1 h2 e2 hI
    subst e2
    refine b_iload_n (pc := 2) (i := 2) (dd dtX11_isFit 2 rfl) rfl rfl ?_
    refine b_aload_n (pc := 3) (i := 0) (dd dtX11_isFit 3 rfl) rfl rfl ?_
    refine b_geti (pc := 4) (dd dtX11_isFit 4 rfl) fwX11_118 pM_0 ?_
    refine b_icmpL_ge (pc := 7) (tgt := 43) (dd dtX11_isFit 5 rfl) (by decide) (fun h7 => ?_) (fun h7 => ?_)
    · rw [hz] at h7
      have he : h = z := Nat.le_antisymm h1 (ge_n h7 (by omega))
      subst he
      refine b_ic0 (pc := 43) (dd dtX11_isFit 25 rfl) ?_
      refine b_istore_n (pc := 44) (i := 2) (lv' := [(2, _), (0, _), (1, _)]) (dd dtX11_isFit 26 rfl) rfl (Nat.le_of_ble_eq_true rfl) rfl ?_
      exact l2_X11_isFit hz hz2 hL hL2 hI (L + 1) 0 _ (Nat.zero_le _) (by omega) rfl (fun l hl => absurd hl (Nat.not_lt_zero l))
    · rw [hz] at h7
      have hlt : h < z := lt_n h7 (by omega) (by omega)
      refine b_aload_n (pc := 10) (i := 0) (dd dtX11_isFit 6 rfl) rfl rfl ?_
      refine b_aload_n (pc := 11) (i := 0) (dd dtX11_isFit 7 rfl) rfl rfl ?_
      refine b_geta (pc := 12) (dd dtX11_isFit 8 rfl) fwX11_140 pM_0 rM_0_41 ?_
      refine b_iload_n (pc := 15) (i := 2) (dd dtX11_isFit 9 rfl) rfl rfl ?_
      refine b_iald (pc := 16) (dd dtX11_isFit 10 rfl) pM_30 (vpn rfl (show h < 5 by omega) (by decide)) ?_
      refine b_aload_n (pc := 17) (i := 0) (dd dtX11_isFit 11 rfl) rfl rfl ?_
      refine b_geta (pc := 18) (dd dtX11_isFit 12 rfl) fwX11_134 pM_0 rM_0_39 ?_
      refine b_iload_n (pc := 21) (i := 2) (dd dtX11_isFit 13 rfl) rfl rfl ?_
      refine b_iald (pc := 22) (dd dtX11_isFit 14 rfl) pM_28 (vpn rfl (show h < 5 by omega) (by decide)) ?_
      refine b_aload_n (pc := 23) (i := 0) (dd dtX11_isFit 15 rfl) rfl rfl ?_
      refine b_geta (pc := 24) (dd dtX11_isFit 16 rfl) fwX11_137 pM_0 rM_0_40 ?_
      refine b_iload_n (pc := 27) (i := 2) (dd dtX11_isFit 17 rfl) rfl rfl ?_
      refine b_iald (pc := 28) (dd dtX11_isFit 18 rfl) pM_29 (vpn rfl (show h < 5 by omega) (by decide)) ?_
      refine b_invV (pc := 29) (dd dtX11_isFit 19 rfl) mlX11_1 mvX11_in miX11_in (c_X11_in) oM_0 rfl rfl (by decide) (Nat.le_of_ble_eq_true rfl) ?_
      refine b_ifb_ne (pc := 32) (tgt := 37) (dd dtX11_isFit 20 rfl) (by decide) (fun h32 => ?_) (fun h32 => ?_)
      · refine b_iinc1 (pc := 37) (i := 2) (lv' := [(2, _), (0, _), (1, _)]) (dd dtX11_isFit 23 rfl) rfl (Nat.le_of_ble_eq_true rfl) rfl ?_
        refine b_goto (pc := 40) (tgt := 2) (dd dtX11_isFit 24 rfl) (by decide) ?_
        rw [nI_1]
        refine ih (h + 1) _ hlt (by omega) rfl ?_
        · simp only [nI_clamp (show h < 2 ^ 31 by omega)] at h32
          intro l hl
          rcases Nat.lt_succ_iff_lt_or_eq.mp hl with q | q
          · exact hI l q
          · subst q; exact h32
      · refine b_ic0 (pc := 35) (dd dtX11_isFit 21 rfl) ?_
        refine b_eq (b_zret (dd dtX11_isFit 22 rfl) rfl (by first | rfl | exact nar_bi)) ?_ ?_
        · simp only [nI_clamp (show h < 2 ^ 31 by omega)] at h32
          rw [bi_f (fun q => h32 (q.1 h hlt))]
        · rfl
set_option maxHeartbeats 4000000 in
theorem c_X11_isFit {J : Wd} {z L : Nat} {known : Int32} (hz : J 0 34 = nI z) (hz2 : z ≤ 5) (hL : J 0 30 = nI L) (hL2 : L ≤ 8) : Cal SyM mX11_isFit 1 [.ref 0, .int known] J (some (.int (bi (fitP J z L known)))) J := by
  refine Cal.of (by decide) (Nat.le_of_ble_eq_true rfl) ?_
  show Bd _ _ _ _ [(0, _), (1, _)] _ _ _ _
  refine b_ic0 (pc := 0) (dd dtX11_isFit 0 rfl) ?_
  refine b_istore_n (pc := 1) (i := 2) (lv' := [(2, _), (0, _), (1, _)]) (dd dtX11_isFit 1 rfl) rfl (Nat.le_of_ble_eq_true rfl) rfl ?_
  exact l1_X11_isFit hz hz2 hL hL2 (z + 1) 0 _ (Nat.zero_le _) (by omega) rfl (fun l hl => absurd hl (Nat.not_lt_zero l))
