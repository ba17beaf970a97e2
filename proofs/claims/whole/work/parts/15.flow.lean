theorem nI_a (a b : Nat) : nI a + nI b = nI (a + b) := nI_add a b
theorem rem8 {h : Nat} (hh : h < 2 ^ 31) : nI h - nI h / 8 * 8 = nI (h % 8) := pk_rem (d := 8) hh (by decide) (by decide)
theorem add8 {h : Nat} : nI h + 8 = nI (h + 8) := nI_add h 8
theorem add1 {h : Nat} : nI h + 1 = nI (h + 1) := nI_add h 1
theorem lt64 {h : Nat} (hh : h < 2 ^ 31) : nI h < 64 ↔ h < 64 := nI_ltI hh (by decide)
theorem lt7 {h : Nat} (hh : h < 2 ^ 31) : nI h < 7 ↔ h < 7 := nI_ltI hh (by decide)
theorem dnF_t {w : Nat → Int32} {h : Nat} (q : h + 8 < 64) : dnF w h = (w h - w (h + 8)) / 8 := by unfold dnF; rw [if_pos q]
theorem dnF_f {w : Nat → Int32} {h : Nat} (q : ¬ h + 8 < 64) : dnF w h = 0 := by unfold dnF; rw [if_neg q]
theorem acF_t {w : Nat → Int32} {h : Nat} (q : h % 8 < 7) : acF w h = (w h - w (h + 1)) / 8 := by unfold acF; rw [if_pos q]
theorem acF_f {w : Nat → Int32} {h : Nat} (q : ¬ h % 8 < 7) : acF w h = 0 := by unfold acF; rw [if_neg q]
theorem meas_step {g : Nat} {I : Wd} {h : Nat} {v1 v2 : Int32} (h1 : v1 = dnF (I (g + 3)) h) (h2 : v2 = acF (I (g + 3)) h) : ist (ist (measW g I h) (g + 10) h v1) (g + 11) h v2 = measW g I (h + 1) := by
  have e1 : ist (measW g I h) (g + 10) h v1 = rset (rset I (g + 10) (fil (dnF (I (g + 3))) (I (g + 10)) (h + 1))) (g + 11) (fil (acF (I (g + 3))) (I (g + 11)) h) := by
    unfold measW
    rw [rset_comm (show g + 10 ≠ g + 11 by omega), ist_rset, rset_comm (show g + 11 ≠ g + 10 by omega), fil_s h1]
  rw [e1, ist_rset, fil_s h2]
  rfl
def tX2_flow : List (Nat × Instr × Nat) := [(0, .iconst 0, 1), (1, .istore_n 1, 1), (2, .iload_n 1, 1), (3, .bipush 64, 2), (5, .if_icmp .ge 84, 3), (8, .aload_n 0, 1), (9, .getfield 53, 3), (12, .iload_n 1, 1), (13, .iload_n 1, 1), (14, .bipush 8, 2), (16, .iadd, 1), (17, .bipush 64, 2), (19, .if_icmp .ge 25, 3), (22, .aload_n 0, 1), (23, .getfield 31, 3), (26, .iload_n 1, 1), (27, .iaload, 1), (28, .aload_n 0, 1), (29, .getfield 31, 3), (32, .iload_n 1, 1), (33, .bipush 8, 2), (35, .iadd, 1), (36, .iaload, 1), (37, .isub, 1), (38, .bipush 8, 2), (40, .idiv, 1), (41, .goto 4, 3), (44, .iconst 0, 1), (45, .iastore, 1), (46, .aload_n 0, 1), (47, .getfield 56, 3), (50, .iload_n 1, 1), (51, .iload_n 1, 1), (52, .bipush 8, 2), (54, .irem, 1), (55, .bipush 7, 2), (57, .if_icmp .ge 24, 3), (60, .aload_n 0, 1), (61, .getfield 31, 3), (64, .iload_n 1, 1), (65, .iaload, 1), (66, .aload_n 0, 1), (67, .getfield 31, 3), (70, .iload_n 1, 1), (71, .iconst 1, 1), (72, .iadd, 1), (73, .iaload, 1), (74, .isub, 1), (75, .bipush 8, 2), (77, .idiv, 1), (78, .goto 4, 3), (81, .iconst 0, 1), (82, .iastore, 1), (83, .iinc 1 1, 3), (86, .goto (-84), 3), (89, .iconst 0, 1), (90, .istore_n 1, 1), (91, .iload_n 1, 1), (92, .bipush 64, 2), (94, .if_icmp .ge 56, 3), (97, .iload_n 1, 1), (98, .bipush 8, 2), (100, .iadd, 1), (101, .bipush 64, 2), (103, .if_icmp .ge 18, 3), (106, .aload_n 0, 1), (107, .iload_n 1, 1), (108, .iload_n 1, 1), (109, .bipush 8, 2), (111, .iadd, 1), (112, .aload_n 0, 1), (113, .getfield 53, 3), (116, .iload_n 1, 1), (117, .iaload, 1), (118, .invokevirtual 115, 3), (121, .iload_n 1, 1), (122, .bipush 8, 2), (124, .irem, 1), (125, .bipush 7, 2), (127, .if_icmp .ge 17, 3), (130, .aload_n 0, 1), (131, .iload_n 1, 1), (132, .iload_n 1, 1), (133, .iconst 1, 1), (134, .iadd, 1), (135, .aload_n 0, 1), (136, .getfield 56, 3), (139, .iload_n 1, 1), (140, .iaload, 1), (141, .invokevirtual 115, 3), (144, .iinc 1 1, 3), (147, .goto (-56), 3), (150, .return_, 1)]
theorem dtX2_flow : dec_ok mX2_flow.2.1 tX2_flow = true := by decide +kernel
set_option maxHeartbeats 4000000 in
theorem l2_X2_flow {I : Wd} {g N P : Nat} (hg : isG g) (hF : FG g I N P) : ∀ (n h : Nat) (x1 : Int32) (I2 : Wd), h ≤ 64 → 64 < h + n → x1 = nI h → I2 = (flowW g I h) → Bd SyC mX2_flow 3 91 [(1, .int x1), (0, .ref g)] [] I2 none (flowW g I 64) := by
  intro n
  induction n with
  | zero => intro h x1 I2 h1 h2; omega
  | succ n ih =>
    intro h x1 I2 h1 h2 e1 eW
    subst e1; subst eW
    have h6 := hg.ge
    obtain ⟨⟨hN, hN2⟩, ⟨hP, hP2⟩, hr, hq⟩ := id hF
    have fr : flowW g I h (g + 1) = I (g + 1) := flowW_fr (by omega) (by omega)
    refine b_iload_n (pc := 91) (i := 1) (dd dtX2_flow 57 rfl) rfl rfl ?_
    refine b_bipush (pc := 92) (v := 64) (dd dtX2_flow 58 rfl) (by decide) ?_
    refine b_icmpL_ge (pc := 94) (tgt := 150) (dd dtX2_flow 59 rfl) (by decide) (fun h94 => ?_) (fun h94 => ?_)
    · rw [show (64 : Int32) = nI 64 from rfl] at h94
      have he : h = 64 := Nat.le_antisymm h1 (ge_n h94 (by omega))
      subst he
      exact b_eq (b_vret (dd dtX2_flow 92 rfl) rfl) rfl rfl
    · rw [show (64 : Int32) = nI 64 from rfl] at h94
      have hlt : h < 64 := lt_n h94 (by omega) (by omega)
      refine b_iload_n (pc := 97) (i := 1) (dd dtX2_flow 60 rfl) rfl rfl ?_
      refine b_bipush (pc := 98) (v := 8) (dd dtX2_flow 61 rfl) (by decide) ?_
      refine b_iadd (pc := 100) (dd dtX2_flow 62 rfl) ?_
      refine b_bipush (pc := 101) (v := 64) (dd dtX2_flow 63 rfl) (by decide) ?_
      refine b_icmpL_ge (pc := 103) (tgt := 121) (dd dtX2_flow 64 rfl) (by decide) (fun h103 => ?_) (fun h103 => ?_)
      · try rw [add8, lt64 (by omega)] at h103
        refine b_iload_n (pc := 121) (i := 1) (dd dtX2_flow 75 rfl) rfl rfl ?_
        refine b_bipush (pc := 122) (v := 8) (dd dtX2_flow 76 rfl) (by decide) ?_
        refine b_irem (pc := 124) (dd dtX2_flow 77 rfl) (by decide) ?_
        refine b_bipush (pc := 125) (v := 7) (dd dtX2_flow 78 rfl) (by decide) ?_
        refine b_icmpL_ge (pc := 127) (tgt := 144) (dd dtX2_flow 79 rfl) (by decide) (fun h127 => ?_) (fun h127 => ?_)
        · try rw [rem8 (by omega), lt7 (by omega)] at h127
          refine b_iinc1 (pc := 144) (i := 1) (lv' := [(1, _), (0, _)]) (dd dtX2_flow 90 rfl) rfl (Nat.le_of_ble_eq_true rfl) rfl ?_
          refine b_goto (pc := 147) (tgt := 91) (dd dtX2_flow 91 rfl) (by decide) ?_
          rw [nI_1]
          refine ih (h + 1) _ _ hlt (by omega) rfl ?_
          · try simp only [add8, add1, nI_clamp (show h < 2 ^ 31 by omega), nI_clamp (show h + 8 < 2 ^ 31 by omega), nI_clamp (show h + 1 < 2 ^ 31 by omega)]
            simp [flowW, flow1, flow2, *]
        · rw [rem8 (by omega), lt7 (by omega)] at h127
          refine b_aload_n (pc := 130) (i := 0) (dd dtX2_flow 80 rfl) rfl rfl ?_
          refine b_iload_n (pc := 131) (i := 1) (dd dtX2_flow 81 rfl) rfl rfl ?_
          refine b_iload_n (pc := 132) (i := 1) (dd dtX2_flow 82 rfl) rfl rfl ?_
          refine b_ic1 (pc := 133) (dd dtX2_flow 83 rfl) ?_
          refine b_iadd (pc := 134) (dd dtX2_flow 84 rfl) ?_
          refine b_aload_n (pc := 135) (i := 0) (dd dtX2_flow 85 rfl) rfl rfl ?_
          refine b_geta (pc := 136) (dd dtX2_flow 86 rfl) fwX2_56 (pG_0 hg) (rG_15 hg) ?_
          refine b_iload_n (pc := 139) (i := 1) (dd dtX2_flow 87 rfl) rfl rfl ?_
          refine b_iald (pc := 140) (dd dtX2_flow 88 rfl) (pG_11 hg) (vpn rfl (show h < 64 by omega) (by decide)) ?_
          refine b_invV (pc := 141) (dd dtX2_flow 89 rfl) mlX2_115 mvX2_go miX2_go (c_X2_go hg (vpn rfl (show h < 64 by omega) (by decide)) (by rw [add1]; exact vpn rfl (show h + 1 < 64 by omega) (by decide)) (by first | (rw [fr]; exact hr) | (rw [goW_fr (by omega) (by omega), fr]; exact hr))) (oG hg) rfl rfl (by decide) (Nat.le_of_ble_eq_true rfl) ?_
          try rw [rem8 (by omega), lt7 (by omega)] at h127
          refine b_iinc1 (pc := 144) (i := 1) (lv' := [(1, _), (0, _)]) (dd dtX2_flow 90 rfl) rfl (Nat.le_of_ble_eq_true rfl) rfl ?_
          refine b_goto (pc := 147) (tgt := 91) (dd dtX2_flow 91 rfl) (by decide) ?_
          rw [nI_1]
          refine ih (h + 1) _ _ hlt (by omega) rfl ?_
          · try simp only [add8, add1, nI_clamp (show h < 2 ^ 31 by omega), nI_clamp (show h + 8 < 2 ^ 31 by omega), nI_clamp (show h + 1 < 2 ^ 31 by omega)]
            simp [flowW, flow1, flow2, *]
      · rw [add8, lt64 (by omega)] at h103
        refine b_aload_n (pc := 106) (i := 0) (dd dtX2_flow 65 rfl) rfl rfl ?_
        refine b_iload_n (pc := 107) (i := 1) (dd dtX2_flow 66 rfl) rfl rfl ?_
        refine b_iload_n (pc := 108) (i := 1) (dd dtX2_flow 67 rfl) rfl rfl ?_
        refine b_bipush (pc := 109) (v := 8) (dd dtX2_flow 68 rfl) (by decide) ?_
        refine b_iadd (pc := 111) (dd dtX2_flow 69 rfl) ?_
        refine b_aload_n (pc := 112) (i := 0) (dd dtX2_flow 70 rfl) rfl rfl ?_
        refine b_geta (pc := 113) (dd dtX2_flow 71 rfl) fwX2_53 (pG_0 hg) (rG_14 hg) ?_
        refine b_iload_n (pc := 116) (i := 1) (dd dtX2_flow 72 rfl) rfl rfl ?_
        refine b_iald (pc := 117) (dd dtX2_flow 73 rfl) (pG_10 hg) (vpn rfl (show h < 64 by omega) (by decide)) ?_
        refine b_invV (pc := 118) (dd dtX2_flow 74 rfl) mlX2_115 mvX2_go miX2_go (c_X2_go hg (vpn rfl (show h < 64 by omega) (by decide)) (by rw [add8]; exact vpn rfl h103 (by decide)) (by rw [fr]; exact hr)) (oG hg) rfl rfl (by decide) (Nat.le_of_ble_eq_true rfl) ?_
        try rw [add8, lt64 (by omega)] at h103
        refine b_iload_n (pc := 121) (i := 1) (dd dtX2_flow 75 rfl) rfl rfl ?_
        refine b_bipush (pc := 122) (v := 8) (dd dtX2_flow 76 rfl) (by decide) ?_
        refine b_irem (pc := 124) (dd dtX2_flow 77 rfl) (by decide) ?_
        refine b_bipush (pc := 125) (v := 7) (dd dtX2_flow 78 rfl) (by decide) ?_
        refine b_icmpL_ge (pc := 127) (tgt := 144) (dd dtX2_flow 79 rfl) (by decide) (fun h127 => ?_) (fun h127 => ?_)
        · try rw [rem8 (by omega), lt7 (by omega)] at h127
          refine b_iinc1 (pc := 144) (i := 1) (lv' := [(1, _), (0, _)]) (dd dtX2_flow 90 rfl) rfl (Nat.le_of_ble_eq_true rfl) rfl ?_
          refine b_goto (pc := 147) (tgt := 91) (dd dtX2_flow 91 rfl) (by decide) ?_
          rw [nI_1]
          refine ih (h + 1) _ _ hlt (by omega) rfl ?_
          · try simp only [add8, add1, nI_clamp (show h < 2 ^ 31 by omega), nI_clamp (show h + 8 < 2 ^ 31 by omega), nI_clamp (show h + 1 < 2 ^ 31 by omega)]
            simp [flowW, flow1, flow2, *]
        · rw [rem8 (by omega), lt7 (by omega)] at h127
          refine b_aload_n (pc := 130) (i := 0) (dd dtX2_flow 80 rfl) rfl rfl ?_
          refine b_iload_n (pc := 131) (i := 1) (dd dtX2_flow 81 rfl) rfl rfl ?_
          refine b_iload_n (pc := 132) (i := 1) (dd dtX2_flow 82 rfl) rfl rfl ?_
          refine b_ic1 (pc := 133) (dd dtX2_flow 83 rfl) ?_
          refine b_iadd (pc := 134) (dd dtX2_flow 84 rfl) ?_
          refine b_aload_n (pc := 135) (i := 0) (dd dtX2_flow 85 rfl) rfl rfl ?_
          refine b_geta (pc := 136) (dd dtX2_flow 86 rfl) fwX2_56 (pG_0 hg) (rG_15 hg) ?_
          refine b_iload_n (pc := 139) (i := 1) (dd dtX2_flow 87 rfl) rfl rfl ?_
          refine b_iald (pc := 140) (dd dtX2_flow 88 rfl) (pG_11 hg) (vpn rfl (show h < 64 by omega) (by decide)) ?_
          refine b_invV (pc := 141) (dd dtX2_flow 89 rfl) mlX2_115 mvX2_go miX2_go (c_X2_go hg (vpn rfl (show h < 64 by omega) (by decide)) (by rw [add1]; exact vpn rfl (show h + 1 < 64 by omega) (by decide)) (by first | (rw [fr]; exact hr) | (rw [goW_fr (by omega) (by omega), fr]; exact hr))) (oG hg) rfl rfl (by decide) (Nat.le_of_ble_eq_true rfl) ?_
          try rw [rem8 (by omega), lt7 (by omega)] at h127
          refine b_iinc1 (pc := 144) (i := 1) (lv' := [(1, _), (0, _)]) (dd dtX2_flow 90 rfl) rfl (Nat.le_of_ble_eq_true rfl) rfl ?_
          refine b_goto (pc := 147) (tgt := 91) (dd dtX2_flow 91 rfl) (by decide) ?_
          rw [nI_1]
          refine ih (h + 1) _ _ hlt (by omega) rfl ?_
          · try simp only [add8, add1, nI_clamp (show h < 2 ^ 31 by omega), nI_clamp (show h + 8 < 2 ^ 31 by omega), nI_clamp (show h + 1 < 2 ^ 31 by omega)]
            simp [flowW, flow1, flow2, *]
set_option maxHeartbeats 4000000 in
theorem l1_X2_flow {I : Wd} {g N P : Nat} (hg : isG g) (hF : FG g I N P) : ∀ (n h : Nat) (x1 : Int32) (I2 : Wd), h ≤ 64 → 64 < h + n → x1 = nI h → I2 = (measW g I h) → Bd SyC mX2_flow 3 2 [(1, .int x1), (0, .ref g)] [] I2 none (flowW g (measW g I 64) 64) := by
  intro n
  induction n with
  | zero => intro h x1 I2 h1 h2; omega
  | succ n ih =>
    intro h x1 I2 h1 h2 e1 eW
    subst e1; subst eW
    have h6 := hg.ge
    obtain ⟨⟨hN, hN2⟩, ⟨hP, hP2⟩, hr, hq⟩ := id hF
    have f3 : measW g I h (g + 3) = I (g + 3) := measW_fr (by omega) (by omega)
    refine b_iload_n (pc := 2) (i := 1) (dd dtX2_flow 2 rfl) rfl rfl ?_
    refine b_bipush (pc := 3) (v := 64) (dd dtX2_flow 3 rfl) (by decide) ?_
    refine b_icmpL_ge (pc := 5) (tgt := 89) (dd dtX2_flow 4 rfl) (by decide) (fun h5 => ?_) (fun h5 => ?_)
    · rw [show (64 : Int32) = nI 64 from rfl] at h5
      have he : h = 64 := Nat.le_antisymm h1 (ge_n h5 (by omega))
      subst he
      refine b_ic0 (pc := 89) (dd dtX2_flow 55 rfl) ?_
      refine b_istore_n (pc := 90) (i := 1) (lv' := [(1, _), (0, _)]) (dd dtX2_flow 56 rfl) rfl (Nat.le_of_ble_eq_true rfl) rfl ?_
      refine l2_X2_flow (I := measW g I 64) hg (hF.of (measW_fr (by omega) (by omega)) (measW_fr (by omega) (by omega)) (measW_fr (by omega) (by omega))) 65 0 _ _ (Nat.zero_le _) (by omega) rfl rfl
    · rw [show (64 : Int32) = nI 64 from rfl] at h5
      have hlt : h < 64 := lt_n h5 (by omega) (by omega)
      refine b_aload_n (pc := 8) (i := 0) (dd dtX2_flow 5 rfl) rfl rfl ?_
      refine b_geta (pc := 9) (dd dtX2_flow 6 rfl) fwX2_53 (pG_0 hg) (rG_14 hg) ?_
      refine b_iload_n (pc := 12) (i := 1) (dd dtX2_flow 7 rfl) rfl rfl ?_
      refine b_iload_n (pc := 13) (i := 1) (dd dtX2_flow 8 rfl) rfl rfl ?_
      refine b_bipush (pc := 14) (v := 8) (dd dtX2_flow 9 rfl) (by decide) ?_
      refine b_iadd (pc := 16) (dd dtX2_flow 10 rfl) ?_
      refine b_bipush (pc := 17) (v := 64) (dd dtX2_flow 11 rfl) (by decide) ?_
      refine b_icmpL_ge (pc := 19) (tgt := 44) (dd dtX2_flow 12 rfl) (by decide) (fun h19 => ?_) (fun h19 => ?_)
      · rw [add8, lt64 (by omega)] at h19
        refine b_ic0 (pc := 44) (dd dtX2_flow 27 rfl) ?_
        refine b_iast (pc := 45) (dd dtX2_flow 28 rfl) (pG_10 hg) (vpn rfl (show h < 64 by omega) (by decide)) ?_
        refine b_aload_n (pc := 46) (i := 0) (dd dtX2_flow 29 rfl) rfl rfl ?_
        refine b_geta (pc := 47) (dd dtX2_flow 30 rfl) fwX2_56 (pG_0 hg) (rG_15 hg) ?_
        refine b_iload_n (pc := 50) (i := 1) (dd dtX2_flow 31 rfl) rfl rfl ?_
        refine b_iload_n (pc := 51) (i := 1) (dd dtX2_flow 32 rfl) rfl rfl ?_
        refine b_bipush (pc := 52) (v := 8) (dd dtX2_flow 33 rfl) (by decide) ?_
        refine b_irem (pc := 54) (dd dtX2_flow 34 rfl) (by decide) ?_
        refine b_bipush (pc := 55) (v := 7) (dd dtX2_flow 35 rfl) (by decide) ?_
        refine b_icmpL_ge (pc := 57) (tgt := 81) (dd dtX2_flow 36 rfl) (by decide) (fun h57 => ?_) (fun h57 => ?_)
        · rw [rem8 (by omega), lt7 (by omega)] at h57
          refine b_ic0 (pc := 81) (dd dtX2_flow 51 rfl) ?_
          refine b_iast (pc := 82) (dd dtX2_flow 52 rfl) (pG_11 hg) (vpn rfl (show h < 64 by omega) (by decide)) ?_
          refine b_iinc1 (pc := 83) (i := 1) (lv' := [(1, _), (0, _)]) (dd dtX2_flow 53 rfl) rfl (Nat.le_of_ble_eq_true rfl) rfl ?_
          refine b_goto (pc := 86) (tgt := 2) (dd dtX2_flow 54 rfl) (by decide) ?_
          rw [nI_1]
          refine ih (h + 1) _ _ hlt (by omega) rfl ?_
          · simp only [nI_clamp (show h < 2 ^ 31 by omega)]
            refine meas_step ?_ ?_
            · first | (rw [dnF_t h19, add8, nI_clamp (show h + 8 < 2 ^ 31 by omega), f3]) | (rw [dnF_f h19])
            · simp only [acF, h57, if_true, if_false, add1, nI_clamp (show h + 1 < 2 ^ 31 by omega), ist_ne (show g + 3 ≠ g + 10 by omega), f3]
        · rw [rem8 (by omega), lt7 (by omega)] at h57
          refine b_aload_n (pc := 60) (i := 0) (dd dtX2_flow 37 rfl) rfl rfl ?_
          refine b_geta (pc := 61) (dd dtX2_flow 38 rfl) fwX2_31 (pG_0 hg) (rG_7 hg) ?_
          refine b_iload_n (pc := 64) (i := 1) (dd dtX2_flow 39 rfl) rfl rfl ?_
          refine b_iald (pc := 65) (dd dtX2_flow 40 rfl) (pG_3 hg) (vpn rfl (show h < 64 by omega) (by decide)) ?_
          refine b_aload_n (pc := 66) (i := 0) (dd dtX2_flow 41 rfl) rfl rfl ?_
          refine b_geta (pc := 67) (dd dtX2_flow 42 rfl) fwX2_31 (pG_0 hg) (rG_7 hg) ?_
          refine b_iload_n (pc := 70) (i := 1) (dd dtX2_flow 43 rfl) rfl rfl ?_
          refine b_ic1 (pc := 71) (dd dtX2_flow 44 rfl) ?_
          refine b_iadd (pc := 72) (dd dtX2_flow 45 rfl) ?_
          refine b_iald (pc := 73) (dd dtX2_flow 46 rfl) (pG_3 hg) (by rw [add1]; exact vpn rfl (show h + 1 < 64 by omega) (by decide)) ?_
          refine b_isub (pc := 74) (dd dtX2_flow 47 rfl) ?_
          refine b_bipush (pc := 75) (v := 8) (dd dtX2_flow 48 rfl) (by decide) ?_
          refine b_idiv (pc := 77) (dd dtX2_flow 49 rfl) (by decide) ?_
          refine b_goto (pc := 78) (tgt := 82) (dd dtX2_flow 50 rfl) (by decide) ?_
          refine b_iast (pc := 82) (dd dtX2_flow 52 rfl) (pG_11 hg) (vpn rfl (show h < 64 by omega) (by decide)) ?_
          refine b_iinc1 (pc := 83) (i := 1) (lv' := [(1, _), (0, _)]) (dd dtX2_flow 53 rfl) rfl (Nat.le_of_ble_eq_true rfl) rfl ?_
          refine b_goto (pc := 86) (tgt := 2) (dd dtX2_flow 54 rfl) (by decide) ?_
          rw [nI_1]
          refine ih (h + 1) _ _ hlt (by omega) rfl ?_
          · simp only [nI_clamp (show h < 2 ^ 31 by omega)]
            refine meas_step ?_ ?_
            · first | (rw [dnF_t h19, add8, nI_clamp (show h + 8 < 2 ^ 31 by omega), f3]) | (rw [dnF_f h19])
            · simp only [acF, h57, if_true, if_false, add1, nI_clamp (show h + 1 < 2 ^ 31 by omega), ist_ne (show g + 3 ≠ g + 10 by omega), f3]
      · rw [add8, lt64 (by omega)] at h19
        refine b_aload_n (pc := 22) (i := 0) (dd dtX2_flow 13 rfl) rfl rfl ?_
        refine b_geta (pc := 23) (dd dtX2_flow 14 rfl) fwX2_31 (pG_0 hg) (rG_7 hg) ?_
        refine b_iload_n (pc := 26) (i := 1) (dd dtX2_flow 15 rfl) rfl rfl ?_
        refine b_iald (pc := 27) (dd dtX2_flow 16 rfl) (pG_3 hg) (vpn rfl (show h < 64 by omega) (by decide)) ?_
        refine b_aload_n (pc := 28) (i := 0) (dd dtX2_flow 17 rfl) rfl rfl ?_
        refine b_geta (pc := 29) (dd dtX2_flow 18 rfl) fwX2_31 (pG_0 hg) (rG_7 hg) ?_
        refine b_iload_n (pc := 32) (i := 1) (dd dtX2_flow 19 rfl) rfl rfl ?_
        refine b_bipush (pc := 33) (v := 8) (dd dtX2_flow 20 rfl) (by decide) ?_
        refine b_iadd (pc := 35) (dd dtX2_flow 21 rfl) ?_
        refine b_iald (pc := 36) (dd dtX2_flow 22 rfl) (pG_3 hg) (by rw [add8]; exact vpn rfl h19 (by decide)) ?_
        refine b_isub (pc := 37) (dd dtX2_flow 23 rfl) ?_
        refine b_bipush (pc := 38) (v := 8) (dd dtX2_flow 24 rfl) (by decide) ?_
        refine b_idiv (pc := 40) (dd dtX2_flow 25 rfl) (by decide) ?_
        refine b_goto (pc := 41) (tgt := 45) (dd dtX2_flow 26 rfl) (by decide) ?_
        refine b_iast (pc := 45) (dd dtX2_flow 28 rfl) (pG_10 hg) (vpn rfl (show h < 64 by omega) (by decide)) ?_
        refine b_aload_n (pc := 46) (i := 0) (dd dtX2_flow 29 rfl) rfl rfl ?_
        refine b_geta (pc := 47) (dd dtX2_flow 30 rfl) fwX2_56 (pG_0 hg) (rG_15 hg) ?_
        refine b_iload_n (pc := 50) (i := 1) (dd dtX2_flow 31 rfl) rfl rfl ?_
        refine b_iload_n (pc := 51) (i := 1) (dd dtX2_flow 32 rfl) rfl rfl ?_
        refine b_bipush (pc := 52) (v := 8) (dd dtX2_flow 33 rfl) (by decide) ?_
        refine b_irem (pc := 54) (dd dtX2_flow 34 rfl) (by decide) ?_
        refine b_bipush (pc := 55) (v := 7) (dd dtX2_flow 35 rfl) (by decide) ?_
        refine b_icmpL_ge (pc := 57) (tgt := 81) (dd dtX2_flow 36 rfl) (by decide) (fun h57 => ?_) (fun h57 => ?_)
        · rw [rem8 (by omega), lt7 (by omega)] at h57
          refine b_ic0 (pc := 81) (dd dtX2_flow 51 rfl) ?_
          refine b_iast (pc := 82) (dd dtX2_flow 52 rfl) (pG_11 hg) (vpn rfl (show h < 64 by omega) (by decide)) ?_
          refine b_iinc1 (pc := 83) (i := 1) (lv' := [(1, _), (0, _)]) (dd dtX2_flow 53 rfl) rfl (Nat.le_of_ble_eq_true rfl) rfl ?_
          refine b_goto (pc := 86) (tgt := 2) (dd dtX2_flow 54 rfl) (by decide) ?_
          rw [nI_1]
          refine ih (h + 1) _ _ hlt (by omega) rfl ?_
          · simp only [nI_clamp (show h < 2 ^ 31 by omega)]
            refine meas_step ?_ ?_
            · first | (rw [dnF_t h19, add8, nI_clamp (show h + 8 < 2 ^ 31 by omega), f3]) | (rw [dnF_f h19])
            · simp only [acF, h57, if_true, if_false, add1, nI_clamp (show h + 1 < 2 ^ 31 by omega), ist_ne (show g + 3 ≠ g + 10 by omega), f3]
        · rw [rem8 (by omega), lt7 (by omega)] at h57
          refine b_aload_n (pc := 60) (i := 0) (dd dtX2_flow 37 rfl) rfl rfl ?_
          refine b_geta (pc := 61) (dd dtX2_flow 38 rfl) fwX2_31 (pG_0 hg) (rG_7 hg) ?_
          refine b_iload_n (pc := 64) (i := 1) (dd dtX2_flow 39 rfl) rfl rfl ?_
          refine b_iald (pc := 65) (dd dtX2_flow 40 rfl) (pG_3 hg) (vpn rfl (show h < 64 by omega) (by decide)) ?_
          refine b_aload_n (pc := 66) (i := 0) (dd dtX2_flow 41 rfl) rfl rfl ?_
          refine b_geta (pc := 67) (dd dtX2_flow 42 rfl) fwX2_31 (pG_0 hg) (rG_7 hg) ?_
          refine b_iload_n (pc := 70) (i := 1) (dd dtX2_flow 43 rfl) rfl rfl ?_
          refine b_ic1 (pc := 71) (dd dtX2_flow 44 rfl) ?_
          refine b_iadd (pc := 72) (dd dtX2_flow 45 rfl) ?_
          refine b_iald (pc := 73) (dd dtX2_flow 46 rfl) (pG_3 hg) (by rw [add1]; exact vpn rfl (show h + 1 < 64 by omega) (by decide)) ?_
          refine b_isub (pc := 74) (dd dtX2_flow 47 rfl) ?_
          refine b_bipush (pc := 75) (v := 8) (dd dtX2_flow 48 rfl) (by decide) ?_
          refine b_idiv (pc := 77) (dd dtX2_flow 49 rfl) (by decide) ?_
          refine b_goto (pc := 78) (tgt := 82) (dd dtX2_flow 50 rfl) (by decide) ?_
          refine b_iast (pc := 82) (dd dtX2_flow 52 rfl) (pG_11 hg) (vpn rfl (show h < 64 by omega) (by decide)) ?_
          refine b_iinc1 (pc := 83) (i := 1) (lv' := [(1, _), (0, _)]) (dd dtX2_flow 53 rfl) rfl (Nat.le_of_ble_eq_true rfl) rfl ?_
          refine b_goto (pc := 86) (tgt := 2) (dd dtX2_flow 54 rfl) (by decide) ?_
          rw [nI_1]
          refine ih (h + 1) _ _ hlt (by omega) rfl ?_
          · simp only [nI_clamp (show h < 2 ^ 31 by omega)]
            refine meas_step ?_ ?_
            · first | (rw [dnF_t h19, add8, nI_clamp (show h + 8 < 2 ^ 31 by omega), f3]) | (rw [dnF_f h19])
            · simp only [acF, h57, if_true, if_false, add1, nI_clamp (show h + 1 < 2 ^ 31 by omega), ist_ne (show g + 3 ≠ g + 10 by omega), f3]
set_option maxHeartbeats 4000000 in
theorem c_X2_flow {I : Wd} {g N P : Nat} (hg : isG g) (hF : FG g I N P) : Cal SyC mX2_flow 3 [.ref g] I none (flowW g (measW g I 64) 64) := by
  refine Cal.of (by decide) (Nat.le_of_ble_eq_true rfl) ?_
  show Bd _ _ _ _ [(0, _)] _ _ _ _
  refine b_ic0 (pc := 0) (dd dtX2_flow 0 rfl) ?_
  refine b_istore_n (pc := 1) (i := 1) (lv' := [(1, _), (0, _)]) (dd dtX2_flow 1 rfl) rfl (Nat.le_of_ble_eq_true rfl) rfl ?_
  exact l1_X2_flow hg hF 65 0 _ _ (Nat.zero_le _) (by omega) rfl (by unfold measW; rw [fil_0, fil_0, rset_id, rset_id])
def tX2_takeHouses : List (Nat × Instr × Nat) := [(0, .iconst 0, 1), (1, .istore_n 2, 1), (2, .iload_n 2, 1), (3, .aload_n 0, 1), (4, .getfield 59, 3), (7, .getfield 69, 3), (10, .if_icmp .ge 55, 3), (13, .aload_n 0, 1), (14, .getfield 59, 3), (17, .getfield 74, 3), (20, .iload_n 2, 1), (21, .iaload, 1), (22, .iload_n 1, 1), (23, .if_icmp .ne 36, 3), (26, .aload_n 0, 1), (27, .getfield 46, 3), (30, .iload_n 2, 1), (31, .iaload, 1), (32, .ifCond .ge 27, 3), (35, .aload_n 0, 1), (36, .getfield 46, 3), (39, .iload_n 2, 1), (40, .aload_n 0, 1), (41, .getfield 9, 3), (44, .iastore, 1), (45, .aload_n 0, 1), (46, .dup, 1), (47, .getfield 21, 3), (50, .aload_n 0, 1), (51, .iload_n 2, 1), (52, .invokevirtual 137, 3), (55, .iadd, 1), (56, .putfield 21, 3), (59, .iinc 2 1, 3), (62, .goto (-60), 3), (65, .return_, 1)]
theorem dtX2_takeHouses : dec_ok mX2_takeHouses.2.1 tX2_takeHouses = true := by decide +kernel
set_option maxHeartbeats 4000000 in
theorem l_X2_takeHouses {I : Wd} {g N P : Nat} (hg : isG g) (hF : FG g I N P) {c : Nat} (hc : c < 64) : ∀ (n h : Nat) (x2 : Int32) (I2 : Wd), h ≤ N → N < h + n → x2 = nI h → I2 = (takeW g I c h) → Bd SyC mX2_takeHouses 1 2 [(2, .int x2), (0, .ref g), (1, .int (nI c))] [] I2 none (takeW g I c N) := by
  intro n
  induction n with
  | zero => intro h x2 I2 h1 h2; omega
  | succ n ih =>
    intro h x2 I2 h1 h2 e2 eW
    subst e2; subst eW
    have h6 := hg.ge
    obtain ⟨⟨hN, hN2⟩, ⟨hP, hP2⟩, hr, hq⟩ := id hF
    have f1 : takeW g I c h 1 = I 1 := takeW_fr (by omega) (by omega)
    refine b_iload_n (pc := 2) (i := 2) (dd dtX2_takeHouses 2 rfl) rfl rfl ?_
    refine b_aload_n (pc := 3) (i := 0) (dd dtX2_takeHouses 3 rfl) rfl rfl ?_
    refine b_geta (pc := 4) (dd dtX2_takeHouses 4 rfl) fwX2_59 (pG_0 hg) (rG_0 hg) ?_
    refine b_geti (pc := 7) (dd dtX2_takeHouses 5 rfl) fwX2_69 pC_1 ?_
    refine b_icmpL_ge (pc := 10) (tgt := 65) (dd dtX2_takeHouses 6 rfl) (by decide) (fun h10 => ?_) (fun h10 => ?_)
    · rw [f1, hN] at h10
      have he : h = N := Nat.le_antisymm h1 (ge_n h10 (by omega))
      subst he
      exact b_eq (b_vret (dd dtX2_takeHouses 35 rfl) rfl) rfl rfl
    · rw [f1, hN] at h10
      have hlt : h < N := lt_n h10 (by omega) (by omega)
      refine b_aload_n (pc := 13) (i := 0) (dd dtX2_takeHouses 7 rfl) rfl rfl ?_
      refine b_geta (pc := 14) (dd dtX2_takeHouses 8 rfl) fwX2_59 (pG_0 hg) (rG_0 hg) ?_
      refine b_geta (pc := 17) (dd dtX2_takeHouses 9 rfl) fwX2_74 pC_1 rC_1_2 ?_
      refine b_iload_n (pc := 20) (i := 2) (dd dtX2_takeHouses 10 rfl) rfl rfl ?_
      refine b_iald (pc := 21) (dd dtX2_takeHouses 11 rfl) pC_2 (vpn rfl (show h < 14 by omega) (by decide)) ?_
      refine b_iload_n (pc := 22) (i := 1) (dd dtX2_takeHouses 12 rfl) rfl rfl ?_
      refine b_icmp_ne (pc := 23) (tgt := 59) (dd dtX2_takeHouses 13 rfl) (by decide) (fun h23 => ?_) (fun h23 => ?_)
      · try simp only [nI_clamp (show h < 2 ^ 31 by omega)] at h23
        try simp only [nI_clamp (show h < 2 ^ 31 by omega)] at h32
        refine b_iinc1 (pc := 59) (i := 2) (lv' := [(2, _), (0, _), (1, _)]) (dd dtX2_takeHouses 33 rfl) rfl (Nat.le_of_ble_eq_true rfl) rfl ?_
        refine b_goto (pc := 62) (tgt := 2) (dd dtX2_takeHouses 34 rfl) (by decide) ?_
        rw [nI_1]
        refine ih (h + 1) _ _ hlt (by omega) rfl ?_
        · try simp only [nI_clamp (show h < 2 ^ 31 by omega)]
          simp [takeW, take1, ist_ne, ist_eq, -Int32.not_lt, -Int32.not_le, *]
      · simp only [nI_clamp (show h < 2 ^ 31 by omega)] at h23
        refine b_aload_n (pc := 26) (i := 0) (dd dtX2_takeHouses 14 rfl) rfl rfl ?_
        refine b_geta (pc := 27) (dd dtX2_takeHouses 15 rfl) fwX2_46 (pG_0 hg) (rG_12 hg) ?_
        refine b_iload_n (pc := 30) (i := 2) (dd dtX2_takeHouses 16 rfl) rfl rfl ?_
        refine b_iald (pc := 31) (dd dtX2_takeHouses 17 rfl) (pG_8 hg) (vpn rfl (show h < 14 by omega) (by decide)) ?_
        refine b_ifL_ge (pc := 32) (tgt := 59) (dd dtX2_takeHouses 18 rfl) (by decide) (fun h32 => ?_) (fun h32 => ?_)
        · try simp only [nI_clamp (show h < 2 ^ 31 by omega)] at h23
          try simp only [nI_clamp (show h < 2 ^ 31 by omega)] at h32
          refine b_iinc1 (pc := 59) (i := 2) (lv' := [(2, _), (0, _), (1, _)]) (dd dtX2_takeHouses 33 rfl) rfl (Nat.le_of_ble_eq_true rfl) rfl ?_
          refine b_goto (pc := 62) (tgt := 2) (dd dtX2_takeHouses 34 rfl) (by decide) ?_
          rw [nI_1]
          refine ih (h + 1) _ _ hlt (by omega) rfl ?_
          · try simp only [nI_clamp (show h < 2 ^ 31 by omega)]
            simp [takeW, take1, ist_ne, ist_eq, -Int32.not_lt, -Int32.not_le, *]
        · simp only [nI_clamp (show h < 2 ^ 31 by omega)] at h32
          refine b_aload_n (pc := 35) (i := 0) (dd dtX2_takeHouses 19 rfl) rfl rfl ?_
          refine b_geta (pc := 36) (dd dtX2_takeHouses 20 rfl) fwX2_46 (pG_0 hg) (rG_12 hg) ?_
          refine b_iload_n (pc := 39) (i := 2) (dd dtX2_takeHouses 21 rfl) rfl rfl ?_
          refine b_aload_n (pc := 40) (i := 0) (dd dtX2_takeHouses 22 rfl) rfl rfl ?_
          refine b_geti (pc := 41) (dd dtX2_takeHouses 23 rfl) fwX2_9 (pG_0 hg) ?_
          refine b_iast (pc := 44) (dd dtX2_takeHouses 24 rfl) (pG_8 hg) (vpn rfl (show h < 14 by omega) (by decide)) ?_
          refine b_aload_n (pc := 45) (i := 0) (dd dtX2_takeHouses 25 rfl) rfl rfl ?_
          refine b_dup (pc := 46) (dd dtX2_takeHouses 26 rfl) rfl ?_
          refine b_geti (pc := 47) (dd dtX2_takeHouses 27 rfl) fwX2_21 (pG_0 hg) ?_
          refine b_aload_n (pc := 50) (i := 0) (dd dtX2_takeHouses 28 rfl) rfl rfl ?_
          refine b_iload_n (pc := 51) (i := 2) (dd dtX2_takeHouses 29 rfl) rfl rfl ?_
          refine b_invV (pc := 52) (dd dtX2_takeHouses 30 rfl) mlX2_137 mvX2_harmOf miX2_harmOf (c_X2_harmOf hg (vpn rfl (show h < 14 by omega) (by decide))) (oG hg) rfl rfl (by decide) (Nat.le_of_ble_eq_true rfl) ?_
          refine b_iadd (pc := 55) (dd dtX2_takeHouses 31 rfl) ?_
          refine b_puti (pc := 56) (dd dtX2_takeHouses 32 rfl) fwX2_21 (pG_0 hg) ?_
          try simp only [nI_clamp (show h < 2 ^ 31 by omega)] at h23
          try simp only [nI_clamp (show h < 2 ^ 31 by omega)] at h32
          refine b_iinc1 (pc := 59) (i := 2) (lv' := [(2, _), (0, _), (1, _)]) (dd dtX2_takeHouses 33 rfl) rfl (Nat.le_of_ble_eq_true rfl) rfl ?_
          refine b_goto (pc := 62) (tgt := 2) (dd dtX2_takeHouses 34 rfl) (by decide) ?_
          rw [nI_1]
          refine ih (h + 1) _ _ hlt (by omega) rfl ?_
          · try simp only [nI_clamp (show h < 2 ^ 31 by omega)]
            simp [takeW, take1, ist_ne, ist_eq, -Int32.not_lt, -Int32.not_le, *]
set_option maxHeartbeats 4000000 in
theorem c_X2_takeHouses {I : Wd} {g N P : Nat} (hg : isG g) (hF : FG g I N P) {c : Nat} (hc : c < 64) : Cal SyC mX2_takeHouses 1 [.ref g, .int (nI c)] I none (takeW g I c N) := by
  refine Cal.of (by decide) (Nat.le_of_ble_eq_true rfl) ?_
  show Bd _ _ _ _ [(0, _), (1, _)] _ _ _ _
  refine b_ic0 (pc := 0) (dd dtX2_takeHouses 0 rfl) ?_
  refine b_istore_n (pc := 1) (i := 2) (lv' := [(2, _), (0, _), (1, _)]) (dd dtX2_takeHouses 1 rfl) rfl (Nat.le_of_ble_eq_true rfl) rfl ?_
  exact l_X2_takeHouses hg hF hc (N + 1) 0 _ _ (Nat.zero_le _) (by omega) rfl rfl
