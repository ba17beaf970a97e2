def tX2_letFall : List (Nat × Instr × Nat) := [(0, .iconst 0, 1), (1, .istore_n 1, 1), (2, .iload_n 1, 1), (3, .bipush 64, 2), (5, .if_icmp .ge 104, 3), (8, .aload_n 0, 1), (9, .iload_n 1, 1), (10, .invokevirtual 123, 3), (13, .ifCond .eq 6, 3), (16, .goto 87, 3), (19, .aload_n 0, 1), (20, .getfield 40, 3), (23, .aload_n 0, 1), (24, .getfield 24, 3), (27, .iload_n 1, 1), (28, .iaload, 1), (29, .dup2, 1), (30, .iaload, 1), (31, .iconst 1, 1), (32, .iadd, 1), (33, .iastore, 1), (34, .aload_n 0, 1), (35, .getfield 28, 3), (38, .iload_n 1, 1), (39, .iaload, 1), (40, .getstatic 130, 3), (43, .aload_n 0, 1), (44, .getfield 24, 3), (47, .iload_n 1, 1), (48, .iaload, 1), (49, .iaload, 1), (50, .aload_n 0, 1), (51, .getfield 31, 3), (54, .iload_n 1, 1), (55, .iaload, 1), (56, .bipush 20, 2), (58, .idiv, 1), (59, .iadd, 1), (60, .if_icmp .le 43, 3), (63, .aload_n 0, 1), (64, .getfield 34, 3), (67, .iload_n 1, 1), (68, .aload_n 0, 1), (69, .getfield 9, 3), (72, .iastore, 1), (73, .aload_n 0, 1), (74, .dup, 1), (75, .getfield 18, 3), (78, .iconst 1, 1), (79, .iadd, 1), (80, .putfield 18, 3), (83, .aload_n 0, 1), (84, .getfield 37, 3), (87, .aload_n 0, 1), (88, .getfield 24, 3), (91, .iload_n 1, 1), (92, .iaload, 1), (93, .dup2, 1), (94, .iaload, 1), (95, .iconst 1, 1), (96, .iadd, 1), (97, .iastore, 1), (98, .aload_n 0, 1), (99, .iload_n 1, 1), (100, .invokevirtual 133, 3), (103, .iinc 1 1, 3), (106, .goto (-104), 3), (109, .return_, 1)]
theorem dtX2_letFall : dec_ok mX2_letFall.2.1 tX2_letFall = true := by decide +kernel
set_option maxHeartbeats 4000000 in
theorem l_X2_letFall {I : Wd} {g N P : Nat} (hg : isG g) (hF : FG g I N P) : ∀ (n h : Nat) (x1 : Int32) (I2 : Wd), h ≤ 64 → 64 < h + n → x1 = nI h → I2 = (fallW g I N h) → Bd SyC mX2_letFall 2 2 [(1, .int x1), (0, .ref g)] [] I2 none (fallW g I N 64) := by
  intro n
  induction n with
  | zero => intro h x1 I2 h1 h2; omega
  | succ n ih =>
    intro h x1 I2 h1 h2 e1 eW
    subst e1; subst eW
    have h6 := hg.ge
    obtain ⟨⟨hN, hN2⟩, ⟨hP, hP2⟩, hr, hq⟩ := id hF
    have f1 : fallW g I N h 1 = I 1 := fallW_fr (by omega) (by omega) (by omega) (by omega) (by omega)
    have f5 : fallW g I N h 5 = I 5 := fallW_fr (by omega) (by omega) (by omega) (by omega) (by omega)
    have fr : fallW g I N h (g + 1) = I (g + 1) := fallW_fr (by omega) (by omega) (by omega) (by omega) (by omega)
    refine b_iload_n (pc := 2) (i := 1) (dd dtX2_letFall 2 rfl) rfl rfl ?_
    refine b_bipush (pc := 3) (v := 64) (dd dtX2_letFall 3 rfl) (by decide) ?_
    refine b_icmpL_ge (pc := 5) (tgt := 109) (dd dtX2_letFall 4 rfl) (by decide) (fun h5 => ?_) (fun h5 => ?_)
    · rw [show (64 : Int32) = nI 64 from rfl] at h5
      have he : h = 64 := Nat.le_antisymm h1 (ge_n h5 (by omega))
      subst he
      exact b_eq (b_vret (dd dtX2_letFall 67 rfl) rfl) rfl rfl
    · rw [show (64 : Int32) = nI 64 from rfl] at h5
      have hlt : h < 64 := lt_n h5 (by omega) (by omega)
      have hrh : vp_in (fallW g I N h (g + 1) (nI h).toNatClampNeg) 4 := by rw [fr, nI_clamp (show h < 2 ^ 31 by omega)]; exact hr h hlt
      refine b_aload_n (pc := 8) (i := 0) (dd dtX2_letFall 5 rfl) rfl rfl ?_
      refine b_iload_n (pc := 9) (i := 1) (dd dtX2_letFall 6 rfl) rfl rfl ?_
      refine b_invV (pc := 10) (dd dtX2_letFall 7 rfl) mlX2_123 mvX2_hasFallen miX2_hasFallen (c_X2_hasFallen hg (vpn rfl (show h < 64 by omega) (by decide))) (oG hg) rfl rfl (by decide) (Nat.le_of_ble_eq_true rfl) ?_
      refine b_ifn_eq (pc := 13) (tgt := 19) (dd dtX2_letFall 8 rfl) (by decide) (fun h13 => ?_) (fun h13 => ?_)
      · refine b_aload_n (pc := 19) (i := 0) (dd dtX2_letFall 10 rfl) rfl rfl ?_
        refine b_geta (pc := 20) (dd dtX2_letFall 11 rfl) fwX2_40 (pG_0 hg) (rG_10 hg) ?_
        refine b_aload_n (pc := 23) (i := 0) (dd dtX2_letFall 12 rfl) rfl rfl ?_
        refine b_geta (pc := 24) (dd dtX2_letFall 13 rfl) fwX2_24 (pG_0 hg) (rG_5 hg) ?_
        refine b_iload_n (pc := 27) (i := 1) (dd dtX2_letFall 14 rfl) rfl rfl ?_
        refine b_iald (pc := 28) (dd dtX2_letFall 15 rfl) (pG_1 hg) (vpn rfl (show h < 64 by omega) (by decide)) ?_
        refine b_dup2 (pc := 29) (dd dtX2_letFall 16 rfl) ⟨rfl, rfl⟩ ?_
        refine b_iald (pc := 30) (dd dtX2_letFall 17 rfl) (pG_6 hg) (hrh) ?_
        refine b_ic1 (pc := 31) (dd dtX2_letFall 18 rfl) ?_
        refine b_iadd (pc := 32) (dd dtX2_letFall 19 rfl) ?_
        refine b_iast (pc := 33) (dd dtX2_letFall 20 rfl) (pG_6 hg) (hrh) ?_
        refine b_aload_n (pc := 34) (i := 0) (dd dtX2_letFall 21 rfl) rfl rfl ?_
        refine b_geta (pc := 35) (dd dtX2_letFall 22 rfl) fwX2_28 (pG_0 hg) (rG_6 hg) ?_
        refine b_iload_n (pc := 38) (i := 1) (dd dtX2_letFall 23 rfl) rfl rfl ?_
        refine b_iald (pc := 39) (dd dtX2_letFall 24 rfl) (pG_2 hg) (vpn rfl (show h < 64 by omega) (by decide)) ?_
        refine b_gets1 (pc := 40) (dd dtX2_letFall 25 rfl) fsX2_130 ?_
        refine b_aload_n (pc := 43) (i := 0) (dd dtX2_letFall 26 rfl) rfl rfl ?_
        refine b_geta (pc := 44) (dd dtX2_letFall 27 rfl) fwX2_24 (pG_0 hg) (rG_5 hg) ?_
        refine b_iload_n (pc := 47) (i := 1) (dd dtX2_letFall 28 rfl) rfl rfl ?_
        refine b_iald (pc := 48) (dd dtX2_letFall 29 rfl) (pG_1 hg) (vpn rfl (show h < 64 by omega) (by decide)) ?_
        refine b_tald1 (pc := 49) (dd dtX2_letFall 30 rfl) (by rw [ist_ne (show g + 1 ≠ g + 6 by omega)]; exact hrh) ?_
        refine b_aload_n (pc := 50) (i := 0) (dd dtX2_letFall 31 rfl) rfl rfl ?_
        refine b_geta (pc := 51) (dd dtX2_letFall 32 rfl) fwX2_31 (pG_0 hg) (rG_7 hg) ?_
        refine b_iload_n (pc := 54) (i := 1) (dd dtX2_letFall 33 rfl) rfl rfl ?_
        refine b_iald (pc := 55) (dd dtX2_letFall 34 rfl) (pG_3 hg) (vpn rfl (show h < 64 by omega) (by decide)) ?_
        refine b_bipush (pc := 56) (v := 20) (dd dtX2_letFall 35 rfl) (by decide) ?_
        refine b_idiv (pc := 58) (dd dtX2_letFall 36 rfl) (by decide) ?_
        refine b_iadd (pc := 59) (dd dtX2_letFall 37 rfl) ?_
        refine b_icmpL_le (pc := 60) (tgt := 103) (dd dtX2_letFall 38 rfl) (by decide) (fun h60 => ?_) (fun h60 => ?_)
        · refine b_iinc1 (pc := 103) (i := 1) (lv' := [(1, _), (0, _)]) (dd dtX2_letFall 65 rfl) rfl (Nat.le_of_ble_eq_true rfl) rfl ?_
          refine b_goto (pc := 106) (tgt := 2) (dd dtX2_letFall 66 rfl) (by decide) ?_
          rw [nI_1]
          refine ih (h + 1) _ _ hlt (by omega) rfl ?_
          · try simp only [nI_clamp (show h < 2 ^ 31 by omega)] at h13
            try simp (disch := omega) only [ist_ne, nI_clamp (show h < 2 ^ 31 by omega)] at h60
            try simp only [nI_clamp (show h < 2 ^ 31 by omega)]
            show _ = fall1 g (fallW g I N h) N h
            unfold fall1
            first
              | rw [if_neg h13]
              | (rw [if_pos h13, if_neg h60])
              | (rw [if_pos h13, if_pos h60]; simp (disch := omega) only [ist_ne, ist_eq, upd_ne, ne_eq, Nat.reduceEqDiff, not_false_eq_true])
        · refine b_aload_n (pc := 63) (i := 0) (dd dtX2_letFall 39 rfl) rfl rfl ?_
          refine b_geta (pc := 64) (dd dtX2_letFall 40 rfl) fwX2_34 (pG_0 hg) (rG_8 hg) ?_
          refine b_iload_n (pc := 67) (i := 1) (dd dtX2_letFall 41 rfl) rfl rfl ?_
          refine b_aload_n (pc := 68) (i := 0) (dd dtX2_letFall 42 rfl) rfl rfl ?_
          refine b_geti (pc := 69) (dd dtX2_letFall 43 rfl) fwX2_9 (pG_0 hg) ?_
          refine b_iast (pc := 72) (dd dtX2_letFall 44 rfl) (pG_4 hg) (vpn rfl (show h < 64 by omega) (by decide)) ?_
          refine b_aload_n (pc := 73) (i := 0) (dd dtX2_letFall 45 rfl) rfl rfl ?_
          refine b_dup (pc := 74) (dd dtX2_letFall 46 rfl) rfl ?_
          refine b_geti (pc := 75) (dd dtX2_letFall 47 rfl) fwX2_18 (pG_0 hg) ?_
          refine b_ic1 (pc := 78) (dd dtX2_letFall 48 rfl) ?_
          refine b_iadd (pc := 79) (dd dtX2_letFall 49 rfl) ?_
          refine b_puti (pc := 80) (dd dtX2_letFall 50 rfl) fwX2_18 (pG_0 hg) ?_
          refine b_aload_n (pc := 83) (i := 0) (dd dtX2_letFall 51 rfl) rfl rfl ?_
          refine b_geta (pc := 84) (dd dtX2_letFall 52 rfl) fwX2_37 (pG_0 hg) (rG_9 hg) ?_
          refine b_aload_n (pc := 87) (i := 0) (dd dtX2_letFall 53 rfl) rfl rfl ?_
          refine b_geta (pc := 88) (dd dtX2_letFall 54 rfl) fwX2_24 (pG_0 hg) (rG_5 hg) ?_
          refine b_iload_n (pc := 91) (i := 1) (dd dtX2_letFall 55 rfl) rfl rfl ?_
          refine b_iald (pc := 92) (dd dtX2_letFall 56 rfl) (pG_1 hg) (vpn rfl (show h < 64 by omega) (by decide)) ?_
          refine b_dup2 (pc := 93) (dd dtX2_letFall 57 rfl) ⟨rfl, rfl⟩ ?_
          refine b_iald (pc := 94) (dd dtX2_letFall 58 rfl) (pG_5 hg) (by simp only [ist_ne (show g + 1 ≠ g + 6 by omega), ist_ne (show g + 1 ≠ g + 4 by omega), ist_ne (show g + 1 ≠ g by omega)]; exact hrh) ?_
          refine b_ic1 (pc := 95) (dd dtX2_letFall 59 rfl) ?_
          refine b_iadd (pc := 96) (dd dtX2_letFall 60 rfl) ?_
          refine b_iast (pc := 97) (dd dtX2_letFall 61 rfl) (pG_5 hg) (by simp only [ist_ne (show g + 1 ≠ g + 6 by omega), ist_ne (show g + 1 ≠ g + 4 by omega), ist_ne (show g + 1 ≠ g by omega)]; exact hrh) ?_
          refine b_aload_n (pc := 98) (i := 0) (dd dtX2_letFall 62 rfl) rfl rfl ?_
          refine b_iload_n (pc := 99) (i := 1) (dd dtX2_letFall 63 rfl) rfl rfl ?_
          refine b_invV (pc := 100) (dd dtX2_letFall 64 rfl) mlX2_133 mvX2_takeHouses miX2_takeHouses (c_X2_takeHouses hg (FG.of hF (by simp only [ist_ne (show 1 ≠ g + 5 by omega), ist_ne (show 1 ≠ g + 6 by omega), ist_ne (show 1 ≠ g + 4 by omega), ist_ne (show 1 ≠ g by omega), f1]) (by simp only [ist_ne (show 5 ≠ g + 5 by omega), ist_ne (show 5 ≠ g + 6 by omega), ist_ne (show 5 ≠ g + 4 by omega), ist_ne (show 5 ≠ g by omega), f5]) (by simp only [ist_ne (show g + 1 ≠ g + 5 by omega), ist_ne (show g + 1 ≠ g + 6 by omega), ist_ne (show g + 1 ≠ g + 4 by omega), ist_ne (show g + 1 ≠ g by omega), fr])) hlt) (oG hg) rfl rfl (by decide) (Nat.le_of_ble_eq_true rfl) ?_
          refine b_iinc1 (pc := 103) (i := 1) (lv' := [(1, _), (0, _)]) (dd dtX2_letFall 65 rfl) rfl (Nat.le_of_ble_eq_true rfl) rfl ?_
          refine b_goto (pc := 106) (tgt := 2) (dd dtX2_letFall 66 rfl) (by decide) ?_
          rw [nI_1]
          refine ih (h + 1) _ _ hlt (by omega) rfl ?_
          · try simp only [nI_clamp (show h < 2 ^ 31 by omega)] at h13
            try simp (disch := omega) only [ist_ne, nI_clamp (show h < 2 ^ 31 by omega)] at h60
            try simp only [nI_clamp (show h < 2 ^ 31 by omega)]
            show _ = fall1 g (fallW g I N h) N h
            unfold fall1
            first
              | rw [if_neg h13]
              | (rw [if_pos h13, if_neg h60])
              | (rw [if_pos h13, if_pos h60]; simp (disch := omega) only [ist_ne, ist_eq, upd_ne, ne_eq, Nat.reduceEqDiff, not_false_eq_true])
      · refine b_goto (pc := 16) (tgt := 103) (dd dtX2_letFall 9 rfl) (by decide) ?_
        refine b_iinc1 (pc := 103) (i := 1) (lv' := [(1, _), (0, _)]) (dd dtX2_letFall 65 rfl) rfl (Nat.le_of_ble_eq_true rfl) rfl ?_
        refine b_goto (pc := 106) (tgt := 2) (dd dtX2_letFall 66 rfl) (by decide) ?_
        rw [nI_1]
        refine ih (h + 1) _ _ hlt (by omega) rfl ?_
        · try simp only [nI_clamp (show h < 2 ^ 31 by omega)] at h13
          try simp (disch := omega) only [ist_ne, nI_clamp (show h < 2 ^ 31 by omega)] at h60
          try simp only [nI_clamp (show h < 2 ^ 31 by omega)]
          show _ = fall1 g (fallW g I N h) N h
          unfold fall1
          first
            | rw [if_neg h13]
            | (rw [if_pos h13, if_neg h60])
            | (rw [if_pos h13, if_pos h60]; simp (disch := omega) only [ist_ne, ist_eq, upd_ne, ne_eq, Nat.reduceEqDiff, not_false_eq_true])
set_option maxHeartbeats 4000000 in
theorem c_X2_letFall {I : Wd} {g N P : Nat} (hg : isG g) (hF : FG g I N P) : Cal SyC mX2_letFall 2 [.ref g] I none (fallW g I N 64) := by
  refine Cal.of (by decide) (Nat.le_of_ble_eq_true rfl) ?_
  show Bd _ _ _ _ [(0, _)] _ _ _ _
  refine b_ic0 (pc := 0) (dd dtX2_letFall 0 rfl) ?_
  refine b_istore_n (pc := 1) (i := 1) (lv' := [(1, _), (0, _)]) (dd dtX2_letFall 1 rfl) rfl (Nat.le_of_ble_eq_true rfl) rfl ?_
  exact l_X2_letFall hg hF 65 0 _ _ (Nat.zero_le _) (by omega) rfl rfl
def tX2_passMonths : List (Nat × Instr × Nat) := [(0, .iconst 0, 1), (1, .istore_n 2, 1), (2, .iload_n 2, 1), (3, .iload_n 1, 1), (4, .if_icmp .ge 35, 3), (7, .aload_n 0, 1), (8, .invokevirtual 93, 3), (11, .aload_n 0, 1), (12, .invokevirtual 96, 3), (15, .aload_n 0, 1), (16, .invokevirtual 99, 3), (19, .aload_n 0, 1), (20, .invokevirtual 102, 3), (23, .aload_n 0, 1), (24, .dup, 1), (25, .getfield 9, 3), (28, .iconst 1, 1), (29, .iadd, 1), (30, .putfield 9, 3), (33, .iinc 2 1, 3), (36, .goto (-34), 3), (39, .return_, 1)]
theorem dtX2_passMonths : dec_ok mX2_passMonths.2.1 tX2_passMonths = true := by decide +kernel
theorem FG.months {g : Nat} {I : Wd} {N P n : Nat} (hg : isG g) (hF : FG g I N P) : FG g (monthsW g N P I n) N P := by
  have h6 := hg.ge
  exact hF.of (monthsW_fr (by omega) (by omega) (by omega) (by omega) (by omega) (by omega) (by omega) (by omega) (by omega)) (monthsW_fr (by omega) (by omega) (by omega) (by omega) (by omega) (by omega) (by omega) (by omega) (by omega)) (monthsW_fr (by omega) (by omega) (by omega) (by omega) (by omega) (by omega) (by omega) (by omega) (by omega))
theorem FG.rain {g : Nat} {I : Wd} {N P : Nat} (hg : isG g) (hF : FG g I N P) : FG g (rainW g I) N P := by
  have h6 := hg.ge
  exact hF.of (rainW_fr (by omega)) (rainW_fr (by omega)) (rainW_fr (by omega))
theorem FG.pump {g : Nat} {I : Wd} {N P n : Nat} (hg : isG g) (hF : FG g I N P) : FG g (pumpW g I n) N P := by
  have h6 := hg.ge
  exact hF.of (pumpW_fr (by omega) (by omega)) (pumpW_fr (by omega) (by omega)) (pumpW_fr (by omega) (by omega))
theorem FG.flow {g : Nat} {I : Wd} {N P n : Nat} (hg : isG g) (hF : FG g I N P) : FG g (flowW g (measW g I n) n) N P := by
  have h6 := hg.ge
  refine hF.of ?_ ?_ ?_
  · rw [flowW_fr (by omega) (by omega), measW_fr (by omega) (by omega)]
  · rw [flowW_fr (by omega) (by omega), measW_fr (by omega) (by omega)]
  · rw [flowW_fr (by omega) (by omega), measW_fr (by omega) (by omega)]
set_option maxHeartbeats 4000000 in
theorem l_X2_passMonths {I : Wd} {g N P : Nat} (hg : isG g) (hF : FG g I N P) {n0 : Nat} (hn0 : n0 < 2 ^ 31) : ∀ (n h : Nat) (x2 : Int32) (I2 : Wd), h ≤ n0 → n0 < h + n → x2 = nI h → I2 = (monthsW g N P I h) → Bd SyC mX2_passMonths 4 2 [(2, .int x2), (0, .ref g), (1, .int (nI n0))] [] I2 none (monthsW g N P I n0) := by
  intro n
  induction n with
  | zero => intro h x2 I2 h1 h2; omega
  | succ n ih =>
    intro h x2 I2 h1 h2 e2 eW
    subst e2; subst eW
    have h6 := hg.ge
    have hM := FG.months (n := h) hg hF
    refine b_iload_n (pc := 2) (i := 2) (dd dtX2_passMonths 2 rfl) rfl rfl ?_
    refine b_iload_n (pc := 3) (i := 1) (dd dtX2_passMonths 3 rfl) rfl rfl ?_
    refine b_icmpL_ge (pc := 4) (tgt := 39) (dd dtX2_passMonths 4 rfl) (by decide) (fun h4 => ?_) (fun h4 => ?_)
    · have he : h = n0 := Nat.le_antisymm h1 (ge_n h4 (by omega))
      subst he
      exact b_eq (b_vret (dd dtX2_passMonths 21 rfl) rfl) rfl rfl
    · have hlt : h < n0 := lt_n h4 (by omega) (by omega)
      refine b_aload_n (pc := 7) (i := 0) (dd dtX2_passMonths 5 rfl) rfl rfl ?_
      refine b_invV (pc := 8) (dd dtX2_passMonths 6 rfl) mlX2_93 mvX2_rainDown miX2_rainDown (c_X2_rainDown hg) (oG hg) rfl rfl (by decide) (Nat.le_of_ble_eq_true rfl) ?_
      refine b_aload_n (pc := 11) (i := 0) (dd dtX2_passMonths 7 rfl) rfl rfl ?_
      refine b_invV (pc := 12) (dd dtX2_passMonths 8 rfl) mlX2_96 mvX2_pumpOut miX2_pumpOut (c_X2_pumpOut hg (hM.rain hg)) (oG hg) rfl rfl (by decide) (Nat.le_of_ble_eq_true rfl) ?_
      refine b_aload_n (pc := 15) (i := 0) (dd dtX2_passMonths 9 rfl) rfl rfl ?_
      refine b_invV (pc := 16) (dd dtX2_passMonths 10 rfl) mlX2_99 mvX2_flow miX2_flow (c_X2_flow hg ((hM.rain hg).pump hg)) (oG hg) rfl rfl (by decide) (Nat.le_of_ble_eq_true rfl) ?_
      refine b_aload_n (pc := 19) (i := 0) (dd dtX2_passMonths 11 rfl) rfl rfl ?_
      refine b_invV (pc := 20) (dd dtX2_passMonths 12 rfl) mlX2_102 mvX2_letFall miX2_letFall (c_X2_letFall hg (((hM.rain hg).pump hg).flow hg)) (oG hg) rfl rfl (by decide) (Nat.le_of_ble_eq_true rfl) ?_
      refine b_aload_n (pc := 23) (i := 0) (dd dtX2_passMonths 13 rfl) rfl rfl ?_
      refine b_dup (pc := 24) (dd dtX2_passMonths 14 rfl) rfl ?_
      refine b_geti (pc := 25) (dd dtX2_passMonths 15 rfl) fwX2_9 (pG_0 hg) ?_
      refine b_ic1 (pc := 28) (dd dtX2_passMonths 16 rfl) ?_
      refine b_iadd (pc := 29) (dd dtX2_passMonths 17 rfl) ?_
      refine b_puti (pc := 30) (dd dtX2_passMonths 18 rfl) fwX2_9 (pG_0 hg) ?_
      refine b_iinc1 (pc := 33) (i := 2) (lv' := [(2, _), (0, _), (1, _)]) (dd dtX2_passMonths 19 rfl) rfl (Nat.le_of_ble_eq_true rfl) rfl ?_
      refine b_goto (pc := 36) (tgt := 2) (dd dtX2_passMonths 20 rfl) (by decide) ?_
      rw [nI_1]
      refine ih (h + 1) _ _ hlt (by omega) rfl ?_
      · rfl
set_option maxHeartbeats 4000000 in
theorem c_X2_passMonths {I : Wd} {g N P : Nat} (hg : isG g) (hF : FG g I N P) {n0 : Nat} (hn0 : n0 < 2 ^ 31) : Cal SyC mX2_passMonths 4 [.ref g, .int (nI n0)] I none (monthsW g N P I n0) := by
  refine Cal.of (by decide) (Nat.le_of_ble_eq_true rfl) ?_
  show Bd _ _ _ _ [(0, _), (1, _)] _ _ _ _
  refine b_ic0 (pc := 0) (dd dtX2_passMonths 0 rfl) ?_
  refine b_istore_n (pc := 1) (i := 2) (lv' := [(2, _), (0, _), (1, _)]) (dd dtX2_passMonths 1 rfl) rfl (Nat.le_of_ble_eq_true rfl) rfl ?_
  exact l_X2_passMonths hg hF hn0 (n0 + 1) 0 _ _ (Nat.zero_le _) (by omega) rfl rfl
/-- ground g as ground k is -/
def becomeW (g k : Nat) (I : Wd) : Wd :=
  rset (rset (rset (rset (rset (rset (rset (rset (rset (ist (ist (ist (ist I g 1 (I k 1)) g 2 (I k 2)) g 3 (I k 3)) g 4 (I k 4)) (g + 1) (fil (I (k + 1)) (I (g + 1)) 64)) (g + 2) (fil (I (k + 2)) (I (g + 2)) 64)) (g + 3) (fil (I (k + 3)) (I (g + 3)) 64)) (g + 4) (fil (I (k + 4)) (I (g + 4)) 64)) (g + 5) (fil (I (k + 5)) (I (g + 5)) 4)) (g + 6) (fil (I (k + 6)) (I (g + 6)) 4)) (g + 7) (fil (I (k + 7)) (I (g + 7)) 6)) (g + 8) (fil (I (k + 8)) (I (g + 8)) 14)) (g + 9) (fil (I (k + 9)) (I (g + 9)) 14)
theorem cpy_fil {a b : Nat → Int32} {n : Nat} : va_cpy a b 0 0 n = fil a b n := by
  funext i; unfold va_cpy fil; simp
def tX2_become : List (Nat × Instr × Nat) := [(0, .aload_n 0, 1), (1, .aload_n 1, 1), (2, .getfield 9, 3), (5, .putfield 9, 3), (8, .aload_n 0, 1), (9, .aload_n 1, 1), (10, .getfield 15, 3), (13, .putfield 15, 3), (16, .aload_n 0, 1), (17, .aload_n 1, 1), (18, .getfield 18, 3), (21, .putfield 18, 3), (24, .aload_n 0, 1), (25, .aload_n 1, 1), (26, .getfield 21, 3), (29, .putfield 21, 3), (32, .aload_n 1, 1), (33, .getfield 24, 3), (36, .iconst 0, 1), (37, .aload_n 0, 1), (38, .getfield 24, 3), (41, .iconst 0, 1), (42, .bipush 64, 2), (44, .invokestatic 63, 3), (47, .aload_n 1, 1), (48, .getfield 28, 3), (51, .iconst 0, 1), (52, .aload_n 0, 1), (53, .getfield 28, 3), (56, .iconst 0, 1), (57, .bipush 64, 2), (59, .invokestatic 63, 3), (62, .aload_n 1, 1), (63, .getfield 31, 3), (66, .iconst 0, 1), (67, .aload_n 0, 1), (68, .getfield 31, 3), (71, .iconst 0, 1), (72, .bipush 64, 2), (74, .invokestatic 63, 3), (77, .aload_n 1, 1), (78, .getfield 34, 3), (81, .iconst 0, 1), (82, .aload_n 0, 1), (83, .getfield 34, 3), (86, .iconst 0, 1), (87, .bipush 64, 2), (89, .invokestatic 63, 3), (92, .aload_n 1, 1), (93, .getfield 37, 3), (96, .iconst 0, 1), (97, .aload_n 0, 1), (98, .getfield 37, 3), (101, .iconst 0, 1), (102, .iconst 4, 1), (103, .invokestatic 63, 3), (106, .aload_n 1, 1), (107, .getfield 40, 3), (110, .iconst 0, 1), (111, .aload_n 0, 1), (112, .getfield 40, 3), (115, .iconst 0, 1), (116, .iconst 4, 1), (117, .invokestatic 63, 3), (120, .aload_n 1, 1), (121, .getfield 43, 3), (124, .iconst 0, 1), (125, .aload_n 0, 1), (126, .getfield 43, 3), (129, .iconst 0, 1), (130, .bipush 6, 2), (132, .invokestatic 63, 3), (135, .aload_n 1, 1), (136, .getfield 46, 3), (139, .iconst 0, 1), (140, .aload_n 0, 1), (141, .getfield 46, 3), (144, .iconst 0, 1), (145, .bipush 14, 2), (147, .invokestatic 63, 3), (150, .aload_n 1, 1), (151, .getfield 49, 3), (154, .iconst 0, 1), (155, .aload_n 0, 1), (156, .getfield 49, 3), (159, .iconst 0, 1), (160, .bipush 14, 2), (162, .invokestatic 63, 3), (165, .return_, 1)]
theorem dtX2_become : dec_ok mX2_become.2.1 tX2_become = true := by decide +kernel
set_option maxHeartbeats 4000000 in
theorem c_X2_become {I : Wd} {g k : Nat} (hg : isG g) (hk : isG k) (hgk : g ≠ k) (hz1 : ∀ i, i < 14 → fits .boolean (.int (I (k + 9) i)) = true) : Cal SyC mX2_become 1 [.ref g, .ref k] I none (becomeW g k I) := by
  have hx : (g = 6 ∧ (k = 18 ∨ k = 30)) ∨ (g = 18 ∧ (k = 6 ∨ k = 30)) ∨ (g = 30 ∧ (k = 6 ∨ k = 18)) := by unfold isG at hg hk; omega
  refine Cal.of (by decide) (Nat.le_of_ble_eq_true rfl) ?_
  show Bd _ _ _ _ [(0, _), (1, _)] _ _ _ _
  refine b_aload_n (pc := 0) (i := 0) (dd dtX2_become 0 rfl) rfl rfl ?_
  refine b_aload_n (pc := 1) (i := 1) (dd dtX2_become 1 rfl) rfl rfl ?_
  refine b_geti (pc := 2) (dd dtX2_become 2 rfl) fwX2_9 (pG_0 hk) ?_
  refine b_puti (pc := 5) (dd dtX2_become 3 rfl) fwX2_9 (pG_0 hg) ?_
  refine b_aload_n (pc := 8) (i := 0) (dd dtX2_become 4 rfl) rfl rfl ?_
  refine b_aload_n (pc := 9) (i := 1) (dd dtX2_become 5 rfl) rfl rfl ?_
  refine b_geti (pc := 10) (dd dtX2_become 6 rfl) fwX2_15 (pG_0 hk) ?_
  refine b_puti (pc := 13) (dd dtX2_become 7 rfl) fwX2_15 (pG_0 hg) ?_
  refine b_aload_n (pc := 16) (i := 0) (dd dtX2_become 8 rfl) rfl rfl ?_
  refine b_aload_n (pc := 17) (i := 1) (dd dtX2_become 9 rfl) rfl rfl ?_
  refine b_geti (pc := 18) (dd dtX2_become 10 rfl) fwX2_18 (pG_0 hk) ?_
  refine b_puti (pc := 21) (dd dtX2_become 11 rfl) fwX2_18 (pG_0 hg) ?_
  refine b_aload_n (pc := 24) (i := 0) (dd dtX2_become 12 rfl) rfl rfl ?_
  refine b_aload_n (pc := 25) (i := 1) (dd dtX2_become 13 rfl) rfl rfl ?_
  refine b_geti (pc := 26) (dd dtX2_become 14 rfl) fwX2_21 (pG_0 hk) ?_
  refine b_puti (pc := 29) (dd dtX2_become 15 rfl) fwX2_21 (pG_0 hg) ?_
  refine b_aload_n (pc := 32) (i := 1) (dd dtX2_become 16 rfl) rfl rfl ?_
  refine b_geta (pc := 33) (dd dtX2_become 17 rfl) fwX2_24 (pG_0 hk) (rG_5 hk) ?_
  refine b_ic0 (pc := 36) (dd dtX2_become 18 rfl) ?_
  refine b_aload_n (pc := 37) (i := 0) (dd dtX2_become 19 rfl) rfl rfl ?_
  refine b_geta (pc := 38) (dd dtX2_become 20 rfl) fwX2_24 (pG_0 hg) (rG_5 hg) ?_
  refine b_ic0 (pc := 41) (dd dtX2_become 21 rfl) ?_
  refine b_bipush (pc := 42) (v := 64) (dd dtX2_become 22 rfl) (by decide) ?_
  refine b_copyT (pc := 44) (Or.inl ⟨rfl, rfl⟩) (dd dtX2_become 23 rfl) wlX2_63 (pG_1 hk) (pG_1 hg) ⟨by decide, by decide, by decide, by decide, by decide, fun _ _ => rfl, Nat.le_of_ble_eq_true rfl⟩ ?_
  refine b_aload_n (pc := 47) (i := 1) (dd dtX2_become 24 rfl) rfl rfl ?_
  refine b_geta (pc := 48) (dd dtX2_become 25 rfl) fwX2_28 (pG_0 hk) (rG_6 hk) ?_
  refine b_ic0 (pc := 51) (dd dtX2_become 26 rfl) ?_
  refine b_aload_n (pc := 52) (i := 0) (dd dtX2_become 27 rfl) rfl rfl ?_
  refine b_geta (pc := 53) (dd dtX2_become 28 rfl) fwX2_28 (pG_0 hg) (rG_6 hg) ?_
  refine b_ic0 (pc := 56) (dd dtX2_become 29 rfl) ?_
  refine b_bipush (pc := 57) (v := 64) (dd dtX2_become 30 rfl) (by decide) ?_
  refine b_copyT (pc := 59) (Or.inl ⟨rfl, rfl⟩) (dd dtX2_become 31 rfl) wlX2_63 (pG_2 hk) (pG_2 hg) ⟨by decide, by decide, by decide, by decide, by decide, fun _ _ => rfl, Nat.le_of_ble_eq_true rfl⟩ ?_
  refine b_aload_n (pc := 62) (i := 1) (dd dtX2_become 32 rfl) rfl rfl ?_
  refine b_geta (pc := 63) (dd dtX2_become 33 rfl) fwX2_31 (pG_0 hk) (rG_7 hk) ?_
  refine b_ic0 (pc := 66) (dd dtX2_become 34 rfl) ?_
  refine b_aload_n (pc := 67) (i := 0) (dd dtX2_become 35 rfl) rfl rfl ?_
  refine b_geta (pc := 68) (dd dtX2_become 36 rfl) fwX2_31 (pG_0 hg) (rG_7 hg) ?_
  refine b_ic0 (pc := 71) (dd dtX2_become 37 rfl) ?_
  refine b_bipush (pc := 72) (v := 64) (dd dtX2_become 38 rfl) (by decide) ?_
  refine b_copyT (pc := 74) (Or.inl ⟨rfl, rfl⟩) (dd dtX2_become 39 rfl) wlX2_63 (pG_3 hk) (pG_3 hg) ⟨by decide, by decide, by decide, by decide, by decide, fun _ _ => rfl, Nat.le_of_ble_eq_true rfl⟩ ?_
  refine b_aload_n (pc := 77) (i := 1) (dd dtX2_become 40 rfl) rfl rfl ?_
  refine b_geta (pc := 78) (dd dtX2_become 41 rfl) fwX2_34 (pG_0 hk) (rG_8 hk) ?_
  refine b_ic0 (pc := 81) (dd dtX2_become 42 rfl) ?_
  refine b_aload_n (pc := 82) (i := 0) (dd dtX2_become 43 rfl) rfl rfl ?_
  refine b_geta (pc := 83) (dd dtX2_become 44 rfl) fwX2_34 (pG_0 hg) (rG_8 hg) ?_
  refine b_ic0 (pc := 86) (dd dtX2_become 45 rfl) ?_
  refine b_bipush (pc := 87) (v := 64) (dd dtX2_become 46 rfl) (by decide) ?_
  refine b_copyT (pc := 89) (Or.inl ⟨rfl, rfl⟩) (dd dtX2_become 47 rfl) wlX2_63 (pG_4 hk) (pG_4 hg) ⟨by decide, by decide, by decide, by decide, by decide, fun _ _ => rfl, Nat.le_of_ble_eq_true rfl⟩ ?_
  refine b_aload_n (pc := 92) (i := 1) (dd dtX2_become 48 rfl) rfl rfl ?_
  refine b_geta (pc := 93) (dd dtX2_become 49 rfl) fwX2_37 (pG_0 hk) (rG_9 hk) ?_
  refine b_ic0 (pc := 96) (dd dtX2_become 50 rfl) ?_
  refine b_aload_n (pc := 97) (i := 0) (dd dtX2_become 51 rfl) rfl rfl ?_
  refine b_geta (pc := 98) (dd dtX2_become 52 rfl) fwX2_37 (pG_0 hg) (rG_9 hg) ?_
  refine b_ic0 (pc := 101) (dd dtX2_become 53 rfl) ?_
  refine b_ic4 (pc := 102) (dd dtX2_become 54 rfl) ?_
  refine b_copyT (pc := 103) (Or.inl ⟨rfl, rfl⟩) (dd dtX2_become 55 rfl) wlX2_63 (pG_5 hk) (pG_5 hg) ⟨by decide, by decide, by decide, by decide, by decide, fun _ _ => rfl, Nat.le_of_ble_eq_true rfl⟩ ?_
  refine b_aload_n (pc := 106) (i := 1) (dd dtX2_become 56 rfl) rfl rfl ?_
  refine b_geta (pc := 107) (dd dtX2_become 57 rfl) fwX2_40 (pG_0 hk) (rG_10 hk) ?_
  refine b_ic0 (pc := 110) (dd dtX2_become 58 rfl) ?_
  refine b_aload_n (pc := 111) (i := 0) (dd dtX2_become 59 rfl) rfl rfl ?_
  refine b_geta (pc := 112) (dd dtX2_become 60 rfl) fwX2_40 (pG_0 hg) (rG_10 hg) ?_
  refine b_ic0 (pc := 115) (dd dtX2_become 61 rfl) ?_
  refine b_ic4 (pc := 116) (dd dtX2_become 62 rfl) ?_
  refine b_copyT (pc := 117) (Or.inl ⟨rfl, rfl⟩) (dd dtX2_become 63 rfl) wlX2_63 (pG_6 hk) (pG_6 hg) ⟨by decide, by decide, by decide, by decide, by decide, fun _ _ => rfl, Nat.le_of_ble_eq_true rfl⟩ ?_
  refine b_aload_n (pc := 120) (i := 1) (dd dtX2_become 64 rfl) rfl rfl ?_
  refine b_geta (pc := 121) (dd dtX2_become 65 rfl) fwX2_43 (pG_0 hk) (rG_11 hk) ?_
  refine b_ic0 (pc := 124) (dd dtX2_become 66 rfl) ?_
  refine b_aload_n (pc := 125) (i := 0) (dd dtX2_become 67 rfl) rfl rfl ?_
  refine b_geta (pc := 126) (dd dtX2_become 68 rfl) fwX2_43 (pG_0 hg) (rG_11 hg) ?_
  refine b_ic0 (pc := 129) (dd dtX2_become 69 rfl) ?_
  refine b_bipush (pc := 130) (v := 6) (dd dtX2_become 70 rfl) (by decide) ?_
  refine b_copyT (pc := 132) (Or.inl ⟨rfl, rfl⟩) (dd dtX2_become 71 rfl) wlX2_63 (pG_7 hk) (pG_7 hg) ⟨by decide, by decide, by decide, by decide, by decide, fun _ _ => rfl, Nat.le_of_ble_eq_true rfl⟩ ?_
  refine b_aload_n (pc := 135) (i := 1) (dd dtX2_become 72 rfl) rfl rfl ?_
  refine b_geta (pc := 136) (dd dtX2_become 73 rfl) fwX2_46 (pG_0 hk) (rG_12 hk) ?_
  refine b_ic0 (pc := 139) (dd dtX2_become 74 rfl) ?_
  refine b_aload_n (pc := 140) (i := 0) (dd dtX2_become 75 rfl) rfl rfl ?_
  refine b_geta (pc := 141) (dd dtX2_become 76 rfl) fwX2_46 (pG_0 hg) (rG_12 hg) ?_
  refine b_ic0 (pc := 144) (dd dtX2_become 77 rfl) ?_
  refine b_bipush (pc := 145) (v := 14) (dd dtX2_become 78 rfl) (by decide) ?_
  refine b_copyT (pc := 147) (Or.inl ⟨rfl, rfl⟩) (dd dtX2_become 79 rfl) wlX2_63 (pG_8 hk) (pG_8 hg) ⟨by decide, by decide, by decide, by decide, by decide, fun _ _ => rfl, Nat.le_of_ble_eq_true rfl⟩ ?_
  refine b_aload_n (pc := 150) (i := 1) (dd dtX2_become 80 rfl) rfl rfl ?_
  refine b_geta (pc := 151) (dd dtX2_become 81 rfl) fwX2_49 (pG_0 hk) (rG_13 hk) ?_
  refine b_ic0 (pc := 154) (dd dtX2_become 82 rfl) ?_
  refine b_aload_n (pc := 155) (i := 0) (dd dtX2_become 83 rfl) rfl rfl ?_
  refine b_geta (pc := 156) (dd dtX2_become 84 rfl) fwX2_49 (pG_0 hg) (rG_13 hg) ?_
  refine b_ic0 (pc := 159) (dd dtX2_become 85 rfl) ?_
  refine b_bipush (pc := 160) (v := 14) (dd dtX2_become 86 rfl) (by decide) ?_
  refine b_copyT (pc := 162) (Or.inr ⟨rfl, rfl⟩) (dd dtX2_become 87 rfl) wlX2_63 (pG_9 hk) (pG_9 hg) ⟨by decide, by decide, by decide, by decide, by decide, fun i hi => by (simp (disch := omega) only [rset_ne, ist_ne]; rw [show (0 : Int32).toNatClampNeg = 0 from rfl, Nat.zero_add]; exact hz1 i hi), Nat.le_of_ble_eq_true rfl⟩ ?_
  refine b_eq (b_vret (dd dtX2_become 88 rfl) rfl) ?_ ?_
  · rfl
  · unfold becomeW
    simp (disch := omega) only [rset_ne, ist_ne, show (0 : Int32).toNatClampNeg = 0 from rfl, show (64 : Int32).toNatClampNeg = 64 from rfl, show (4 : Int32).toNatClampNeg = 4 from rfl, show (6 : Int32).toNatClampNeg = 6 from rfl, show (14 : Int32).toNatClampNeg = 14 from rfl, cpy_fil, ist_eq, upd_ne]
