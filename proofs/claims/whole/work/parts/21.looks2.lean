theorem mul2 {h : Nat} : (2 : Int32) * nI h = nI (2 * h) := pk_mul 2 h
theorem lt8 {h : Nat} (hh : h < 2 ^ 31) : nI h < 8 ↔ h < 8 := nI_ltI hh (by decide)
def tX10_priceOfSet : List (Nat × Instr × Nat) := [(0, .iconst 0, 1), (1, .istore_n 2, 1), (2, .iconst 0, 1), (3, .istore_n 3, 1), (4, .iconst 2, 1), (5, .iload_n 3, 1), (6, .imul, 1), (7, .iconst 1, 1), (8, .iadd, 1), (9, .aload_n 0, 1), (10, .getfield 214, 3), (13, .if_icmp .ge 30, 3), (16, .iload_n 1, 1), (17, .iload_n 3, 1), (18, .ishr, 1), (19, .iconst 1, 1), (20, .iand, 1), (21, .ifCond .eq 16, 3), (24, .iload_n 2, 1), (25, .aload_n 0, 1), (26, .getfield 284, 3), (29, .iconst 2, 1), (30, .iload_n 3, 1), (31, .imul, 1), (32, .iconst 1, 1), (33, .iadd, 1), (34, .iaload, 1), (35, .iadd, 1), (36, .istore_n 2, 1), (37, .iinc 3 1, 3), (40, .goto (-36), 3), (43, .iload_n 2, 1), (44, .ireturn, 1)]
theorem dtX10_priceOfSet : dec_ok mX10_priceOfSet.2.1 tX10_priceOfSet = true := by decide +kernel
set_option maxHeartbeats 4000000 in
theorem l_X10_priceOfSet {I : Wd} {k z : Nat} (hk : isS k) (hz : I k 1 = nI z) (hz2 : z ≤ 16) (hev : z % 2 = 0) {set : Int32} : ∀ (n h : Nat) (x3 x2 : Int32), h ≤ z / 2 → z / 2 < h + n → x3 = nI h → x2 = (sPr (I (k + 1)) set h) → Bd SyC mX10_priceOfSet 0 4 [(3, .int x3), (2, .int x2), (0, .ref k), (1, .int set)] [] I (some (.int (sPr (I (k + 1)) set (z / 2)))) I := by
  intro n
  induction n with
  | zero => intro h x3 x2 h1 h2; omega
  | succ n ih =>
    intro h x3 x2 h1 h2 e3 e2
    subst e3; subst e2
    refine b_ic2 (pc := 4) (dd dtX10_priceOfSet 4 rfl) ?_
    refine b_iload_n (pc := 5) (i := 3) (dd dtX10_priceOfSet 5 rfl) rfl rfl ?_
    refine b_imul (pc := 6) (dd dtX10_priceOfSet 6 rfl) ?_
    refine b_ic1 (pc := 7) (dd dtX10_priceOfSet 7 rfl) ?_
    refine b_iadd (pc := 8) (dd dtX10_priceOfSet 8 rfl) ?_
    refine b_aload_n (pc := 9) (i := 0) (dd dtX10_priceOfSet 9 rfl) rfl rfl ?_
    refine b_geti (pc := 10) (dd dtX10_priceOfSet 10 rfl) fwX10_214 (pS_0 hk) ?_
    rw [mul2, add1n, hz]
    refine b_icmpL_ge (pc := 13) (tgt := 43) (dd dtX10_priceOfSet 11 rfl) (by decide) (fun h13 => ?_) (fun h13 => ?_)
    · have ht : h = z / 2 := by have := ge_n h13 (by omega); omega
      subst ht
      refine b_iload_n (pc := 43) (i := 2) (dd dtX10_priceOfSet 31 rfl) rfl rfl ?_
      exact b_eq (b_iret (dd dtX10_priceOfSet 32 rfl) rfl) rfl rfl
    · have ht : h < z / 2 := by have := lt_n h13 (by omega) (by omega); omega
      refine b_iload_n (pc := 16) (i := 1) (dd dtX10_priceOfSet 12 rfl) rfl rfl ?_
      refine b_iload_n (pc := 17) (i := 3) (dd dtX10_priceOfSet 13 rfl) rfl rfl ?_
      refine b_ishr (pc := 18) (dd dtX10_priceOfSet 14 rfl) ?_
      refine b_ic1 (pc := 19) (dd dtX10_priceOfSet 15 rfl) ?_
      refine b_iand (pc := 20) (dd dtX10_priceOfSet 16 rfl) ?_
      refine b_if_eq (pc := 21) (tgt := 37) (dd dtX10_priceOfSet 17 rfl) (by decide) (fun h21 => ?_) (fun h21 => ?_)
      · refine b_iinc1 (pc := 37) (i := 3) (lv' := [(3, _), (2, _), (0, _), (1, _)]) (dd dtX10_priceOfSet 29 rfl) rfl (Nat.le_of_ble_eq_true rfl) rfl ?_
        refine b_goto (pc := 40) (tgt := 4) (dd dtX10_priceOfSet 30 rfl) (by decide) ?_
        rw [nI_1]
        refine ih (h + 1) _ _ ht (by omega) rfl ?_
        try simp only [mul2, add1n, nI_clamp (show 2 * h + 1 < 2 ^ 31 by omega)]
        simp only [sPr]
        first | rw [if_pos (show bitS set h = 0 from h21)] | rw [if_neg (show ¬ bitS set h = 0 from h21)]
      · refine b_iload_n (pc := 24) (i := 2) (dd dtX10_priceOfSet 18 rfl) rfl rfl ?_
        refine b_aload_n (pc := 25) (i := 0) (dd dtX10_priceOfSet 19 rfl) rfl rfl ?_
        refine b_geta (pc := 26) (dd dtX10_priceOfSet 20 rfl) fwX10_284 (pS_0 hk) (rS_2 hk) ?_
        refine b_ic2 (pc := 29) (dd dtX10_priceOfSet 21 rfl) ?_
        refine b_iload_n (pc := 30) (i := 3) (dd dtX10_priceOfSet 22 rfl) rfl rfl ?_
        refine b_imul (pc := 31) (dd dtX10_priceOfSet 23 rfl) ?_
        refine b_ic1 (pc := 32) (dd dtX10_priceOfSet 24 rfl) ?_
        refine b_iadd (pc := 33) (dd dtX10_priceOfSet 25 rfl) ?_
        refine b_iald (pc := 34) (dd dtX10_priceOfSet 26 rfl) (pS_1 hk) (by rw [mul2, add1n]; exact vpn rfl (show 2 * h + 1 < 40 by omega) (by decide)) ?_
        refine b_iadd (pc := 35) (dd dtX10_priceOfSet 27 rfl) ?_
        refine b_istore_n (pc := 36) (i := 2) (lv' := [(2, _), (3, _), (0, _), (1, _)]) (dd dtX10_priceOfSet 28 rfl) rfl (Nat.le_of_ble_eq_true rfl) rfl ?_
        refine b_iinc1 (pc := 37) (i := 3) (lv' := [(3, _), (2, _), (0, _), (1, _)]) (dd dtX10_priceOfSet 29 rfl) rfl (Nat.le_of_ble_eq_true rfl) rfl ?_
        refine b_goto (pc := 40) (tgt := 4) (dd dtX10_priceOfSet 30 rfl) (by decide) ?_
        rw [nI_1]
        refine ih (h + 1) _ _ ht (by omega) rfl ?_
        try simp only [mul2, add1n, nI_clamp (show 2 * h + 1 < 2 ^ 31 by omega)]
        simp only [sPr]
        first | rw [if_pos (show bitS set h = 0 from h21)] | rw [if_neg (show ¬ bitS set h = 0 from h21)]
set_option maxHeartbeats 4000000 in
theorem c_X10_priceOfSet {I : Wd} {k z : Nat} (hk : isS k) (hz : I k 1 = nI z) (hz2 : z ≤ 16) (hev : z % 2 = 0) {set : Int32} : Cal SyC mX10_priceOfSet 0 [.ref k, .int set] I (some (.int (sPr (I (k + 1)) set (z / 2)))) I := by
  refine Cal.of (by decide) (Nat.le_of_ble_eq_true rfl) ?_
  show Bd _ _ _ _ [(0, _), (1, _)] _ _ _ _
  refine b_ic0 (pc := 0) (dd dtX10_priceOfSet 0 rfl) ?_
  refine b_istore_n (pc := 1) (i := 2) (lv' := [(2, _), (0, _), (1, _)]) (dd dtX10_priceOfSet 1 rfl) rfl (Nat.le_of_ble_eq_true rfl) rfl ?_
  refine b_ic0 (pc := 2) (dd dtX10_priceOfSet 2 rfl) ?_
  refine b_istore_n (pc := 3) (i := 3) (lv' := [(3, _), (2, _), (0, _), (1, _)]) (dd dtX10_priceOfSet 3 rfl) rfl (Nat.le_of_ble_eq_true rfl) rfl ?_
  exact l_X10_priceOfSet hk hz hz2 hev (z / 2 + 1) 0 _ _ (Nat.zero_le _) (by omega) rfl rfl
def tX10_worthOfSet : List (Nat × Instr × Nat) := [(0, .lconst 0, 1), (1, .lstore_n 3, 1), (2, .iconst 0, 1), (3, .istore 5, 2), (5, .iconst 0, 1), (6, .istore 6, 2), (8, .iload 6, 2), (10, .bipush 8, 2), (12, .if_icmp .ge 68, 3), (15, .iconst 2, 1), (16, .iload 6, 2), (18, .imul, 1), (19, .aload_n 1, 1), (20, .getfield 214, 3), (23, .if_icmp .ge 57, 3), (26, .lconst 1, 1), (27, .aload_n 1, 1), (28, .getfield 284, 3), (31, .iconst 2, 1), (32, .iload 6, 2), (34, .imul, 1), (35, .iaload, 1), (36, .lshl, 1), (37, .lstore 7, 2), (39, .iload_n 2, 1), (40, .iload 6, 2), (42, .ishr, 1), (43, .iconst 1, 1), (44, .iand, 1), (45, .ifCond .eq 29, 3), (48, .lload_n 3, 1), (49, .lload 7, 2), (51, .land, 1), (52, .lconst 0, 1), (53, .lcmp, 1), (54, .ifCond .ne 20, 3), (57, .lload_n 3, 1), (58, .lload 7, 2), (60, .lor, 1), (61, .lstore_n 3, 1), (62, .iload 5, 2), (64, .aload_n 0, 1), (65, .getfield 74, 3), (68, .iload 6, 2), (70, .iaload, 1), (71, .iadd, 1), (72, .istore 5, 2), (74, .iinc 6 1, 3), (77, .goto (-69), 3), (80, .iload 5, 2), (82, .ireturn, 1)]
theorem dtX10_worthOfSet : dec_ok mX10_worthOfSet.2.1 tX10_worthOfSet = true := by decide +kernel
set_option maxHeartbeats 4000000 in
theorem l_X10_worthOfSet {I : Wd} {k z : Nat} (hk : isS k) (hz : I k 1 = nI z) (hz2 : z ≤ 16) (hev : z % 2 = 0) {set : Int32} : ∀ (n h : Nat) (x6 x5 : Int32) (x3 : Int64), h ≤ z / 2 → z / 2 < h + n → x6 = nI h → x5 = (sWo (I (k + 1)) (I 107) set h).1 → x3 = (sWo (I (k + 1)) (I 107) set h).2 → Bd SyC mX10_worthOfSet 0 8 [(6, .int x6), (5, .int x5), (3, .long x3), (0, .ref 0), (1, .ref k), (2, .int set)] [] I (some (.int (sWo (I (k + 1)) (I 107) set (z / 2)).1)) I := by
  intro n
  induction n with
  | zero => intro h x6 x5 x3 h1 h2; omega
  | succ n ih =>
    intro h x6 x5 x3 h1 h2 e6 e5 e3
    subst e6; subst e5; subst e3
    refine b_iload (pc := 8) (i := 6) (dd dtX10_worthOfSet 6 rfl) rfl ?_
    refine b_bipush (pc := 10) (v := 8) (dd dtX10_worthOfSet 7 rfl) (by decide) ?_
    refine b_icmpL_ge (pc := 12) (tgt := 80) (dd dtX10_worthOfSet 8 rfl) (by decide) (fun h12 => ?_) (fun h12 => ?_)
    · have ht : h = z / 2 := by first | (rw [lt8 (by omega)] at h12; omega) | (have := ge_n h23 (by omega); omega)
      subst ht
      refine b_iload (pc := 80) (i := 5) (dd dtX10_worthOfSet 49 rfl) rfl ?_
      exact b_eq (b_iret (dd dtX10_worthOfSet 50 rfl) rfl) rfl rfl
    · refine b_ic2 (pc := 15) (dd dtX10_worthOfSet 9 rfl) ?_
      refine b_iload (pc := 16) (i := 6) (dd dtX10_worthOfSet 10 rfl) rfl ?_
      refine b_imul (pc := 18) (dd dtX10_worthOfSet 11 rfl) ?_
      refine b_aload_n (pc := 19) (i := 1) (dd dtX10_worthOfSet 12 rfl) rfl rfl ?_
      refine b_geti (pc := 20) (dd dtX10_worthOfSet 13 rfl) fwX10_214 (pS_0 hk) ?_
      rw [mul2, hz]
      refine b_icmpL_ge (pc := 23) (tgt := 80) (dd dtX10_worthOfSet 14 rfl) (by decide) (fun h23 => ?_) (fun h23 => ?_)
      · have ht : h = z / 2 := by first | (rw [lt8 (by omega)] at h12; omega) | (have := ge_n h23 (by omega); omega)
        subst ht
        refine b_iload (pc := 80) (i := 5) (dd dtX10_worthOfSet 49 rfl) rfl ?_
        exact b_eq (b_iret (dd dtX10_worthOfSet 50 rfl) rfl) rfl rfl
      · have ht : h < z / 2 := by have := lt_n h23 (by omega) (by omega); omega
        refine b_lconst (pc := 26) (v := 1) (dd dtX10_worthOfSet 15 rfl) (by decide) ?_
        refine b_aload_n (pc := 27) (i := 1) (dd dtX10_worthOfSet 16 rfl) rfl rfl ?_
        refine b_geta (pc := 28) (dd dtX10_worthOfSet 17 rfl) fwX10_284 (pS_0 hk) (rS_2 hk) ?_
        refine b_ic2 (pc := 31) (dd dtX10_worthOfSet 18 rfl) ?_
        refine b_iload (pc := 32) (i := 6) (dd dtX10_worthOfSet 19 rfl) rfl ?_
        refine b_imul (pc := 34) (dd dtX10_worthOfSet 20 rfl) ?_
        refine b_iald (pc := 35) (dd dtX10_worthOfSet 21 rfl) (pS_1 hk) (by rw [mul2]; exact vpn rfl (show 2 * h < 40 by omega) (by decide)) ?_
        refine b_lshl (pc := 36) (dd dtX10_worthOfSet 22 rfl) ?_
        refine b_lstore (pc := 37) (i := 7) (lv' := [(7, _), (6, _), (5, _), (3, _), (0, _), (1, _), (2, _)]) (dd dtX10_worthOfSet 23 rfl) ⟨Nat.le_of_ble_eq_true rfl, Nat.le_of_ble_eq_true rfl⟩ rfl ?_
        refine b_iload_n (pc := 39) (i := 2) (dd dtX10_worthOfSet 24 rfl) rfl rfl ?_
        refine b_iload (pc := 40) (i := 6) (dd dtX10_worthOfSet 25 rfl) rfl ?_
        refine b_ishr (pc := 42) (dd dtX10_worthOfSet 26 rfl) ?_
        refine b_ic1 (pc := 43) (dd dtX10_worthOfSet 27 rfl) ?_
        refine b_iand (pc := 44) (dd dtX10_worthOfSet 28 rfl) ?_
        refine b_if_eq (pc := 45) (tgt := 74) (dd dtX10_worthOfSet 29 rfl) (by decide) (fun h45 => ?_) (fun h45 => ?_)
        · try rw [lcmp0] at h54
          refine b_iinc1 (pc := 74) (i := 6) (lv' := [(6, _), (7, _), (5, _), (3, _), (0, _), (1, _), (2, _)]) (dd dtX10_worthOfSet 47 rfl) rfl (Nat.le_of_ble_eq_true rfl) rfl ?_
          refine b_goto (pc := 77) (tgt := 8) (dd dtX10_worthOfSet 48 rfl) (by decide) ?_
          refine b_pick [0, 2, 3, 4, 5, 6] (lv' := [(6, _), (5, _), (3, _), (0, _), (1, _), (2, _)]) rfl ?_
          rw [nI_1]
          try simp only [mul2, nI_clamp (show 2 * h < 2 ^ 31 by omega), nI_clamp (show h < 2 ^ 31 by omega)] at h54
          refine ih (h + 1) _ _ _ ht (by omega) rfl ?_ ?_
          · try simp only [mul2, nI_clamp (show 2 * h < 2 ^ 31 by omega), nI_clamp (show h < 2 ^ 31 by omega)]
            simp only [sWo]
            first | rw [if_pos (show bitS set h = 0 from h45)] | (rw [if_neg (show ¬ bitS set h = 0 from h45)]; first | rw [if_pos h54] | rw [if_neg h54])
          · try simp only [mul2, nI_clamp (show 2 * h < 2 ^ 31 by omega), nI_clamp (show h < 2 ^ 31 by omega)]
            simp only [sWo]
            first | rw [if_pos (show bitS set h = 0 from h45)] | (rw [if_neg (show ¬ bitS set h = 0 from h45)]; first | rw [if_pos h54] | rw [if_neg h54])
        · refine b_lload_n (pc := 48) (i := 3) (dd dtX10_worthOfSet 30 rfl) rfl rfl ?_
          refine b_lload (pc := 49) (i := 7) (dd dtX10_worthOfSet 31 rfl) rfl ?_
          refine b_land (pc := 51) (dd dtX10_worthOfSet 32 rfl) ?_
          refine b_lconst (pc := 52) (v := 0) (dd dtX10_worthOfSet 33 rfl) (by decide) ?_
          refine b_lcmp (pc := 53) (dd dtX10_worthOfSet 34 rfl) ?_
          refine b_if_ne (pc := 54) (tgt := 74) (dd dtX10_worthOfSet 35 rfl) (by decide) (fun h54 => ?_) (fun h54 => ?_)
          · try rw [lcmp0] at h54
            refine b_iinc1 (pc := 74) (i := 6) (lv' := [(6, _), (7, _), (5, _), (3, _), (0, _), (1, _), (2, _)]) (dd dtX10_worthOfSet 47 rfl) rfl (Nat.le_of_ble_eq_true rfl) rfl ?_
            refine b_goto (pc := 77) (tgt := 8) (dd dtX10_worthOfSet 48 rfl) (by decide) ?_
            refine b_pick [0, 2, 3, 4, 5, 6] (lv' := [(6, _), (5, _), (3, _), (0, _), (1, _), (2, _)]) rfl ?_
            rw [nI_1]
            try simp only [mul2, nI_clamp (show 2 * h < 2 ^ 31 by omega), nI_clamp (show h < 2 ^ 31 by omega)] at h54
            refine ih (h + 1) _ _ _ ht (by omega) rfl ?_ ?_
            · try simp only [mul2, nI_clamp (show 2 * h < 2 ^ 31 by omega), nI_clamp (show h < 2 ^ 31 by omega)]
              simp only [sWo]
              first | rw [if_pos (show bitS set h = 0 from h45)] | (rw [if_neg (show ¬ bitS set h = 0 from h45)]; first | rw [if_pos h54] | rw [if_neg h54])
            · try simp only [mul2, nI_clamp (show 2 * h < 2 ^ 31 by omega), nI_clamp (show h < 2 ^ 31 by omega)]
              simp only [sWo]
              first | rw [if_pos (show bitS set h = 0 from h45)] | (rw [if_neg (show ¬ bitS set h = 0 from h45)]; first | rw [if_pos h54] | rw [if_neg h54])
          · rw [lcmp0] at h54
            refine b_lload_n (pc := 57) (i := 3) (dd dtX10_worthOfSet 36 rfl) rfl rfl ?_
            refine b_lload (pc := 58) (i := 7) (dd dtX10_worthOfSet 37 rfl) rfl ?_
            refine b_lor (pc := 60) (dd dtX10_worthOfSet 38 rfl) ?_
            refine b_lstore_n (pc := 61) (i := 3) (lv' := [(3, _), (7, _), (6, _), (5, _), (0, _), (1, _), (2, _)]) (dd dtX10_worthOfSet 39 rfl) rfl ⟨Nat.le_of_ble_eq_true rfl, Nat.le_of_ble_eq_true rfl⟩ rfl ?_
            refine b_iload (pc := 62) (i := 5) (dd dtX10_worthOfSet 40 rfl) rfl ?_
            refine b_aload_n (pc := 64) (i := 0) (dd dtX10_worthOfSet 41 rfl) rfl rfl ?_
            refine b_geta (pc := 65) (dd dtX10_worthOfSet 42 rfl) fwX10_74 pC_0 rC_0_11 ?_
            refine b_iload (pc := 68) (i := 6) (dd dtX10_worthOfSet 43 rfl) rfl ?_
            refine b_iald (pc := 70) (dd dtX10_worthOfSet 44 rfl) pC_107 (vpn rfl (show h < 8 by omega) (by decide)) ?_
            refine b_iadd (pc := 71) (dd dtX10_worthOfSet 45 rfl) ?_
            refine b_istore (pc := 72) (i := 5) (lv' := [(5, _), (3, _), (7, _), (6, _), (0, _), (1, _), (2, _)]) (dd dtX10_worthOfSet 46 rfl) (Nat.le_of_ble_eq_true rfl) rfl ?_
            try rw [lcmp0] at h54
            refine b_iinc1 (pc := 74) (i := 6) (lv' := [(6, _), (5, _), (3, _), (7, _), (0, _), (1, _), (2, _)]) (dd dtX10_worthOfSet 47 rfl) rfl (Nat.le_of_ble_eq_true rfl) rfl ?_
            refine b_goto (pc := 77) (tgt := 8) (dd dtX10_worthOfSet 48 rfl) (by decide) ?_
            refine b_pick [0, 1, 2, 4, 5, 6] (lv' := [(6, _), (5, _), (3, _), (0, _), (1, _), (2, _)]) rfl ?_
            rw [nI_1]
            try simp only [mul2, nI_clamp (show 2 * h < 2 ^ 31 by omega), nI_clamp (show h < 2 ^ 31 by omega)] at h54
            refine ih (h + 1) _ _ _ ht (by omega) rfl ?_ ?_
            · try simp only [mul2, nI_clamp (show 2 * h < 2 ^ 31 by omega), nI_clamp (show h < 2 ^ 31 by omega)]
              simp only [sWo]
              first | rw [if_pos (show bitS set h = 0 from h45)] | (rw [if_neg (show ¬ bitS set h = 0 from h45)]; first | rw [if_pos h54] | rw [if_neg h54])
            · try simp only [mul2, nI_clamp (show 2 * h < 2 ^ 31 by omega), nI_clamp (show h < 2 ^ 31 by omega)]
              simp only [sWo]
              first | rw [if_pos (show bitS set h = 0 from h45)] | (rw [if_neg (show ¬ bitS set h = 0 from h45)]; first | rw [if_pos h54] | rw [if_neg h54])
set_option maxHeartbeats 4000000 in
theorem c_X10_worthOfSet {I : Wd} {k z : Nat} (hk : isS k) (hz : I k 1 = nI z) (hz2 : z ≤ 16) (hev : z % 2 = 0) {set : Int32} : Cal SyC mX10_worthOfSet 0 [.ref 0, .ref k, .int set] I (some (.int (sWo (I (k + 1)) (I 107) set (z / 2)).1)) I := by
  refine Cal.of (by decide) (Nat.le_of_ble_eq_true rfl) ?_
  show Bd _ _ _ _ [(0, _), (1, _), (2, _)] _ _ _ _
  refine b_lconst (pc := 0) (v := 0) (dd dtX10_worthOfSet 0 rfl) (by decide) ?_
  refine b_lstore_n (pc := 1) (i := 3) (lv' := [(3, _), (0, _), (1, _), (2, _)]) (dd dtX10_worthOfSet 1 rfl) rfl ⟨Nat.le_of_ble_eq_true rfl, Nat.le_of_ble_eq_true rfl⟩ rfl ?_
  refine b_ic0 (pc := 2) (dd dtX10_worthOfSet 2 rfl) ?_
  refine b_istore (pc := 3) (i := 5) (lv' := [(5, _), (3, _), (0, _), (1, _), (2, _)]) (dd dtX10_worthOfSet 3 rfl) (Nat.le_of_ble_eq_true rfl) rfl ?_
  refine b_ic0 (pc := 5) (dd dtX10_worthOfSet 4 rfl) ?_
  refine b_istore (pc := 6) (i := 6) (lv' := [(6, _), (5, _), (3, _), (0, _), (1, _), (2, _)]) (dd dtX10_worthOfSet 5 rfl) (Nat.le_of_ble_eq_true rfl) rfl ?_
  exact l_X10_worthOfSet hk hz hz2 hev (z / 2 + 1) 0 _ _ _ (Nat.zero_le _) (by omega) rfl rfl rfl
def lwF (I : Wd) (k K N : Nat) (known : Int32) (i : Nat) : Int32 := lkW I K N (I (k + 1) (2 * i)) known
def lkFill (I : Wd) (k K N : Nat) (known : Int32) (h : Nat) : Wd := rset I 107 (fil (lwF I k K N known) (I 107) h)
theorem lkW_fill {I : Wd} {k K N h : Nat} {c kn kn2 : Int32} : lkW (lkFill I k K N kn h) K N c kn2 = lkW I K N c kn2 := by
  unfold lkW lkFill; simp (disch := decide) only [rset_ne]
def lkSp (nums lw : Nat → Int32) (m : Nat) (coin set : Int32) : Int32 := if coin < sPr nums set m then 0 else (sWo nums lw set m).1
/-- the most worth of the sets ahead of h, and which set it is -/
def lkS (nums lw : Nat → Int32) (m : Nat) (coin : Int32) : Nat → Int32 × Int32
  | 0 => (0, 0)
  | h + 1 => if h = 0 then (0, 0) else if (lkS nums lw m coin h).1 < lkSp nums lw m coin (nI h) then (lkSp nums lw m coin (nI h), nI h) else lkS nums lw m coin h
abbrev okLooks (ms : Prop) (hl : Prop) (month s coin known : Int32) : Prop := inR s 0 3 ∧ ¬ ms ∧ hl ∧ inR coin 0 1000000 ∧ inR known 0 month
def vLooks (ms : Prop) [Decidable ms] (hl : Prop) [Decidable hl] (month s coin known v : Int32) : Int32 := if inR s 0 3 then (if ms then -11 else if hl ∧ inR coin 0 1000000 ∧ inR known 0 month then v else -2) else -1
def tX10_looks : List (Nat × Instr × Nat) := [(0, .iload_n 1, 1), (1, .invokestatic 208, 3), (4, .ifCond .ne 5, 3), (7, .iconst (-1), 1), (8, .ireturn, 1), (9, .aload_n 0, 1), (10, .getfield 70, 3), (13, .iload_n 1, 1), (14, .aaload, 1), (15, .astore 4, 2), (17, .aload 4, 2), (19, .invokevirtual 211, 3), (22, .ifCond .eq 6, 3), (25, .bipush (-11), 2), (27, .ireturn, 1), (28, .aload 4, 2), (30, .invokestatic 280, 3), (33, .ifCond .eq 22, 3), (36, .iload_n 2, 1), (37, .iconst 0, 1), (38, .ldc_w 283, 3), (41, .invokestatic 97, 3), (44, .ifCond .eq 11, 3), (47, .aload_n 0, 1), (48, .iload_n 3, 1), (49, .invokevirtual 172, 3), (52, .ifCond .ne 6, 3), (55, .bipush (-2), 2), (57, .ireturn, 1), (58, .aload 4, 2), (60, .getfield 214, 3), (63, .iconst 2, 1), (64, .idiv, 1), (65, .istore 5, 2), (67, .iconst 0, 1), (68, .istore 6, 2), (70, .iload 6, 2), (72, .iload 5, 2), (74, .if_icmp .ge 38, 3), (77, .iload 6, 2), (79, .bipush 8, 2), (81, .if_icmp .ge 31, 3), (84, .aload_n 0, 1), (85, .getfield 74, 3), (88, .iload 6, 2), (90, .aload_n 0, 1), (91, .aload 4, 2), (93, .getfield 284, 3), (96, .iconst 2, 1), (97, .iload 6, 2), (99, .imul, 1), (100, .iaload, 1), (101, .iload_n 3, 1), (102, .invokevirtual 287, 3), (105, .iastore, 1), (106, .iinc 6 1, 3), (109, .goto (-39), 3), (112, .iconst 0, 1), (113, .istore 6, 2), (115, .aload_n 0, 1), (116, .iconst 0, 1), (117, .putfield 78, 3), (120, .iconst 1, 1), (121, .istore 7, 2), (123, .iload 7, 2), (125, .iconst 1, 1), (126, .iload 5, 2), (128, .ishl, 1), (129, .if_icmp .ge 51, 3), (132, .aload 4, 2), (134, .iload 7, 2), (136, .invokestatic 290, 3), (139, .iload_n 2, 1), (140, .if_icmp .le 7, 3), (143, .iconst 0, 1), (144, .goto 11, 3), (147, .aload_n 0, 1), (148, .aload 4, 2), (150, .iload 7, 2), (152, .invokevirtual 294, 3), (155, .istore 8, 2), (157, .iload 8, 2), (159, .iload 6, 2), (161, .if_icmp .le 13, 3), (164, .iload 8, 2), (166, .istore 6, 2), (168, .aload_n 0, 1), (169, .iload 7, 2), (171, .putfield 78, 3), (174, .iinc 7 1, 3), (177, .goto (-54), 3), (180, .iload 6, 2), (182, .ireturn, 1)]
theorem dtX10_looks : dec_ok mX10_looks.2.1 tX10_looks = true := by decide +kernel
set_option maxHeartbeats 4000000 in
theorem l2_X10_looks {I : Wd} {k z : Nat} (hk : isS k) (hz : I k 1 = nI z) (hz2 : z ≤ 16) (hev : z % 2 = 0) {J : Wd} {m : Nat} (hm : m ≤ 8) (hmz : m = z / 2) (hzJ : J k 1 = nI z) (hJn : J (k + 1) = I (k + 1)) {coin s kn : Int32} : ∀ (n h : Nat) (x7 : Int32) (x6 : Int32) (I2 : Wd), h ≤ 2 ^ m → 2 ^ m < h + n → x7 = nI h → x6 = (lkS (I (k + 1)) (J 107) m coin h).1 → (1 ≤ h) → I2 = (ist J 0 12 (lkS (I (k + 1)) (J 107) m coin h).2) → Bd SyC mX10_looks 4 123 [(7, .int x7), (6, .int x6), (5, .int (nI m)), (4, .ref k), (0, .ref 0), (1, .int s), (2, .int coin), (3, .int kn)] [] I2 (some (.int (lkS (I (k + 1)) (J 107) m coin (2 ^ m)).1)) (ist J 0 12 (lkS (I (k + 1)) (J 107) m coin (2 ^ m)).2) := by
  intro n
  induction n with
  | zero => intro h x7 x6 I2 h1 h2; omega
  | succ n ih =>
    intro h x7 x6 I2 h1 h2 e7 e6 hI eW
    subst e7; subst e6; subst eW
    have hpw := pow_n m hm
    have hkk : k ≠ 0 ∧ k + 1 ≠ 0 := by unfold isS at hk; omega
    have hz1 : (ist J 0 12 (lkS (I (k + 1)) (J 107) m coin h).2) k 1 = nI z := by rw [ist_ne hkk.1]; exact hzJ
    refine b_iload (pc := 123) (i := 7) (dd dtX10_looks 64 rfl) rfl ?_
    refine b_ic1 (pc := 125) (dd dtX10_looks 65 rfl) ?_
    refine b_iload (pc := 126) (i := 5) (dd dtX10_looks 66 rfl) rfl ?_
    refine b_ishl (pc := 128) (dd dtX10_looks 67 rfl) ?_
    refine b_icmpL_ge (pc := 129) (tgt := 180) (dd dtX10_looks 68 rfl) (by decide) (fun h129 => ?_) (fun h129 => ?_)
    · rw [shl_n m hm] at h129
      have he : h = 2 ^ m := Nat.le_antisymm h1 (ge_n h129 (by omega))
      subst he
      refine b_iload (pc := 180) (i := 6) (dd dtX10_looks 91 rfl) rfl ?_
      exact b_eq (b_iret (dd dtX10_looks 92 rfl) rfl) rfl rfl
    · rw [shl_n m hm] at h129
      have hlt : h < 2 ^ m := lt_n h129 (by omega) (by omega)
      refine b_aload (pc := 132) (i := 4) (dd dtX10_looks 69 rfl) rfl ?_
      refine b_iload (pc := 134) (i := 7) (dd dtX10_looks 70 rfl) rfl ?_
      refine b_invS (pc := 136) (dd dtX10_looks 71 rfl) mlX10_290 mvX10_priceOfSet msX10_priceOfSet (c_X10_priceOfSet hk hz1 hz2 hev) rfl rfl (by decide) (Nat.le_of_ble_eq_true rfl) ?_
      refine b_iload_n (pc := 139) (i := 2) (dd dtX10_looks 72 rfl) rfl rfl ?_
      refine b_icmpL_le (pc := 140) (tgt := 147) (dd dtX10_looks 73 rfl) (by decide) (fun h140 => ?_) (fun h140 => ?_)
      · simp (disch := omega) only [ist_ne, hJn] at h140
        rw [← hmz] at h140
        refine b_aload_n (pc := 147) (i := 0) (dd dtX10_looks 76 rfl) rfl rfl ?_
        refine b_aload (pc := 148) (i := 4) (dd dtX10_looks 77 rfl) rfl ?_
        refine b_iload (pc := 150) (i := 7) (dd dtX10_looks 78 rfl) rfl ?_
        refine b_invV (pc := 152) (dd dtX10_looks 79 rfl) mlX10_294 mvX10_worthOfSet miX10_worthOfSet (c_X10_worthOfSet hk hz1 hz2 hev) oC_0 rfl rfl (by decide) (Nat.le_of_ble_eq_true rfl) ?_
        refine b_istore (pc := 155) (i := 8) (lv' := [(8, _), (7, _), (6, _), (5, _), (4, _), (0, _), (1, _), (2, _), (3, _)]) (dd dtX10_looks 80 rfl) (Nat.le_of_ble_eq_true rfl) rfl ?_
        refine b_iload (pc := 157) (i := 8) (dd dtX10_looks 81 rfl) rfl ?_
        refine b_iload (pc := 159) (i := 6) (dd dtX10_looks 82 rfl) rfl ?_
        refine b_icmpL_le (pc := 161) (tgt := 174) (dd dtX10_looks 83 rfl) (by decide) (fun h161 => ?_) (fun h161 => ?_)
        · try simp (disch := omega) only [ist_ne, hJn] at h161
          try rw [← hmz] at h161
          refine b_iinc1 (pc := 174) (i := 7) (lv' := [(7, _), (8, _), (6, _), (5, _), (4, _), (0, _), (1, _), (2, _), (3, _)]) (dd dtX10_looks 89 rfl) rfl (Nat.le_of_ble_eq_true rfl) rfl ?_
          refine b_goto (pc := 177) (tgt := 123) (dd dtX10_looks 90 rfl) (by decide) ?_
          refine b_pick [0, 2, 3, 4, 5, 6, 7, 8] (lv' := [(7, _), (6, _), (5, _), (4, _), (0, _), (1, _), (2, _), (3, _)]) rfl ?_
          try simp (disch := omega) only [ist_ne, hJn]
          try rw [← hmz]
          rw [nI_1]
          refine ih (h + 1) _ _ _ hlt (by omega) rfl ?_ ?_ ?_
          · rw [lkS, if_neg (show ¬ h = 0 by omega)]
            unfold lkSp
            first | rw [if_pos h140] | rw [if_neg h140]
            first | rw [if_pos h161] | rw [if_neg h161]
          · omega
          · rw [lkS, if_neg (show ¬ h = 0 by omega)]
            unfold lkSp
            first | rw [if_pos h140] | rw [if_neg h140]
            first | (rw [if_pos h161, ist_ist]) | (rw [if_neg h161])
        · try simp (disch := omega) only [ist_ne, hJn] at h161
          try rw [← hmz] at h161
          refine b_iload (pc := 164) (i := 8) (dd dtX10_looks 84 rfl) rfl ?_
          refine b_istore (pc := 166) (i := 6) (lv' := [(6, _), (8, _), (7, _), (5, _), (4, _), (0, _), (1, _), (2, _), (3, _)]) (dd dtX10_looks 85 rfl) (Nat.le_of_ble_eq_true rfl) rfl ?_
          refine b_aload_n (pc := 168) (i := 0) (dd dtX10_looks 86 rfl) rfl rfl ?_
          refine b_iload (pc := 169) (i := 7) (dd dtX10_looks 87 rfl) rfl ?_
          refine b_puti (pc := 171) (dd dtX10_looks 88 rfl) fwX10_78 pC_0 ?_
          try simp (disch := omega) only [ist_ne, hJn] at h161
          try rw [← hmz] at h161
          refine b_iinc1 (pc := 174) (i := 7) (lv' := [(7, _), (6, _), (8, _), (5, _), (4, _), (0, _), (1, _), (2, _), (3, _)]) (dd dtX10_looks 89 rfl) rfl (Nat.le_of_ble_eq_true rfl) rfl ?_
          refine b_goto (pc := 177) (tgt := 123) (dd dtX10_looks 90 rfl) (by decide) ?_
          refine b_pick [0, 1, 3, 4, 5, 6, 7, 8] (lv' := [(7, _), (6, _), (5, _), (4, _), (0, _), (1, _), (2, _), (3, _)]) rfl ?_
          try simp (disch := omega) only [ist_ne, hJn]
          try rw [← hmz]
          rw [nI_1]
          refine ih (h + 1) _ _ _ hlt (by omega) rfl ?_ ?_ ?_
          · rw [lkS, if_neg (show ¬ h = 0 by omega)]
            unfold lkSp
            first | rw [if_pos h140] | rw [if_neg h140]
            first | rw [if_pos h161] | rw [if_neg h161]
          · omega
          · rw [lkS, if_neg (show ¬ h = 0 by omega)]
            unfold lkSp
            first | rw [if_pos h140] | rw [if_neg h140]
            first | (rw [if_pos h161, ist_ist]) | (rw [if_neg h161])
      · simp (disch := omega) only [ist_ne, hJn] at h140
        rw [← hmz] at h140
        refine b_ic0 (pc := 143) (dd dtX10_looks 74 rfl) ?_
        refine b_goto (pc := 144) (tgt := 155) (dd dtX10_looks 75 rfl) (by decide) ?_
        refine b_istore (pc := 155) (i := 8) (lv' := [(8, _), (7, _), (6, _), (5, _), (4, _), (0, _), (1, _), (2, _), (3, _)]) (dd dtX10_looks 80 rfl) (Nat.le_of_ble_eq_true rfl) rfl ?_
        refine b_iload (pc := 157) (i := 8) (dd dtX10_looks 81 rfl) rfl ?_
        refine b_iload (pc := 159) (i := 6) (dd dtX10_looks 82 rfl) rfl ?_
        refine b_icmpL_le (pc := 161) (tgt := 174) (dd dtX10_looks 83 rfl) (by decide) (fun h161 => ?_) (fun h161 => ?_)
        · try simp (disch := omega) only [ist_ne, hJn] at h161
          try rw [← hmz] at h161
          refine b_iinc1 (pc := 174) (i := 7) (lv' := [(7, _), (8, _), (6, _), (5, _), (4, _), (0, _), (1, _), (2, _), (3, _)]) (dd dtX10_looks 89 rfl) rfl (Nat.le_of_ble_eq_true rfl) rfl ?_
          refine b_goto (pc := 177) (tgt := 123) (dd dtX10_looks 90 rfl) (by decide) ?_
          refine b_pick [0, 2, 3, 4, 5, 6, 7, 8] (lv' := [(7, _), (6, _), (5, _), (4, _), (0, _), (1, _), (2, _), (3, _)]) rfl ?_
          try simp (disch := omega) only [ist_ne, hJn]
          try rw [← hmz]
          rw [nI_1]
          refine ih (h + 1) _ _ _ hlt (by omega) rfl ?_ ?_ ?_
          · rw [lkS, if_neg (show ¬ h = 0 by omega)]
            unfold lkSp
            first | rw [if_pos h140] | rw [if_neg h140]
            first | rw [if_pos h161] | rw [if_neg h161]
          · omega
          · rw [lkS, if_neg (show ¬ h = 0 by omega)]
            unfold lkSp
            first | rw [if_pos h140] | rw [if_neg h140]
            first | (rw [if_pos h161, ist_ist]) | (rw [if_neg h161])
        · try simp (disch := omega) only [ist_ne, hJn] at h161
          try rw [← hmz] at h161
          refine b_iload (pc := 164) (i := 8) (dd dtX10_looks 84 rfl) rfl ?_
          refine b_istore (pc := 166) (i := 6) (lv' := [(6, _), (8, _), (7, _), (5, _), (4, _), (0, _), (1, _), (2, _), (3, _)]) (dd dtX10_looks 85 rfl) (Nat.le_of_ble_eq_true rfl) rfl ?_
          refine b_aload_n (pc := 168) (i := 0) (dd dtX10_looks 86 rfl) rfl rfl ?_
          refine b_iload (pc := 169) (i := 7) (dd dtX10_looks 87 rfl) rfl ?_
          refine b_puti (pc := 171) (dd dtX10_looks 88 rfl) fwX10_78 pC_0 ?_
          try simp (disch := omega) only [ist_ne, hJn] at h161
          try rw [← hmz] at h161
          refine b_iinc1 (pc := 174) (i := 7) (lv' := [(7, _), (6, _), (8, _), (5, _), (4, _), (0, _), (1, _), (2, _), (3, _)]) (dd dtX10_looks 89 rfl) rfl (Nat.le_of_ble_eq_true rfl) rfl ?_
          refine b_goto (pc := 177) (tgt := 123) (dd dtX10_looks 90 rfl) (by decide) ?_
          refine b_pick [0, 1, 3, 4, 5, 6, 7, 8] (lv' := [(7, _), (6, _), (5, _), (4, _), (0, _), (1, _), (2, _), (3, _)]) rfl ?_
          try simp (disch := omega) only [ist_ne, hJn]
          try rw [← hmz]
          rw [nI_1]
          refine ih (h + 1) _ _ _ hlt (by omega) rfl ?_ ?_ ?_
          · rw [lkS, if_neg (show ¬ h = 0 by omega)]
            unfold lkSp
            first | rw [if_pos h140] | rw [if_neg h140]
            first | rw [if_pos h161] | rw [if_neg h161]
          · omega
          · rw [lkS, if_neg (show ¬ h = 0 by omega)]
            unfold lkSp
            first | rw [if_pos h140] | rw [if_neg h140]
            first | (rw [if_pos h161, ist_ist]) | (rw [if_neg h161])
