/-! the reference: more of its calls -/
def spanW (I : Wd) (K : Nat) (c known tr : Int32) : Wd := ist (ist I 0 28 (mLo (I 17) (I 18) (I 19) (sVal (I 22) (I 21) (I 20) known) c known tr K)) 0 29 (mHi (I 17) (I 18) (I 19) (sVal (I 22) (I 21) (I 20) known) c known tr K)
theorem spanW_fr {I : Wd} {K a : Nat} {c known tr : Int32} (h : a ≠ 0) : spanW I K c known tr a = I a := by unfold spanW; rw [ist_ne h, ist_ne h]
theorem spanW_0 {I : Wd} {K j : Nat} {c known tr : Int32} (h : j ≠ 28) (h2 : j ≠ 29) : spanW I K c known tr 0 j = I 0 j := by unfold spanW; rw [ist_eq, upd_ne h2, ist_eq, upd_ne h]
theorem spanW_28 {I : Wd} {K : Nat} {c known tr : Int32} : spanW I K c known tr 0 28 = mLo (I 17) (I 18) (I 19) (sVal (I 22) (I 21) (I 20) known) c known tr K := by unfold spanW; rw [ist_eq, upd_ne (by decide), ist_eq, upd_eq]
theorem spanW_29 {I : Wd} {K : Nat} {c known tr : Int32} : spanW I K c known tr 0 29 = mHi (I 17) (I 18) (I 19) (sVal (I 22) (I 21) (I 20) known) c known tr K := by unfold spanW; rw [ist_eq, upd_eq]
theorem c_findSpan {I : Wd} {K : Nat} {c known tr : Int32} (hN : I 0 21 = nI K) (hN2 : K ≤ 30) : Cal SyM mX11_findSpan 2 [.ref 0, .int c, .int known, .int tr] I none (spanW I K c known tr) := c_X11_findSpan hN hN2
def tX11_span : List (Nat × Instr × Nat) := [(0, .aload_n 0, 1), (1, .iload_n 1, 1), (2, .invokevirtual 248, 3), (5, .ifCond .ne 5, 3), (8, .iconst (-1), 1), (9, .ireturn, 1), (10, .aload_n 0, 1), (11, .iload_n 2, 1), (12, .invokevirtual 277, 3), (15, .ifCond .eq 13, 3), (18, .aload_n 0, 1), (19, .iload_n 3, 1), (20, .iconst 0, 1), (21, .iconst 3, 1), (22, .invokevirtual 1, 3), (25, .ifCond .ne 6, 3), (28, .bipush (-2), 2), (30, .ireturn, 1), (31, .aload_n 0, 1), (32, .iload_n 1, 1), (33, .iload_n 2, 1), (34, .iload_n 3, 1), (35, .iconst 1, 1), (36, .if_icmp .le 8, 3), (39, .bipush 8, 2), (41, .goto 4, 3), (44, .iconst 0, 1), (45, .invokevirtual 289, 3), (48, .aload_n 0, 1), (49, .getfield 100, 3), (52, .aload_n 0, 1), (53, .getfield 103, 3), (56, .if_icmp .le 8, 3), (59, .bipush (-3), 2), (61, .goto 20, 3), (64, .iload_n 3, 1), (65, .iconst 2, 1), (66, .irem, 1), (67, .ifCond .ne 10, 3), (70, .aload_n 0, 1), (71, .getfield 100, 3), (74, .goto 7, 3), (77, .aload_n 0, 1), (78, .getfield 103, 3), (81, .ireturn, 1)]
theorem dtX11_span : dec_ok mX11_span.2.1 tX11_span = true := by decide +kernel
set_option maxHeartbeats 4000000 in
theorem c_X11_span {I : Wd} {K : Nat} {c known what : Int32} (hN : I 0 21 = nI K) (hN2 : K ≤ 30) : Cal SyM mX11_span 3 [.ref 0, .int c, .int known, .int what] I (some (.int (if inR c 0 63 then (if inR known 0 (I 0 0) ∧ inR what 0 3 then (if (mHi (I 17) (I 18) (I 19) (sVal (I 22) (I 21) (I 20) known) c known (if 1 < what then 8 else 0) K) < (mLo (I 17) (I 18) (I 19) (sVal (I 22) (I 21) (I 20) known) c known (if 1 < what then 8 else 0) K) then -3 else if what - what / 2 * 2 = 0 then (mLo (I 17) (I 18) (I 19) (sVal (I 22) (I 21) (I 20) known) c known (if 1 < what then 8 else 0) K) else (mHi (I 17) (I 18) (I 19) (sVal (I 22) (I 21) (I 20) known) c known (if 1 < what then 8 else 0) K)) else -2) else -1))) (if inR c 0 63 ∧ inR known 0 (I 0 0) ∧ inR what 0 3 then spanW I K c known (if 1 < what then 8 else 0) else I) := by
  refine Cal.of (by decide) (Nat.le_of_ble_eq_true rfl) ?_
  show Bd _ _ _ _ [(0, _), (1, _), (2, _), (3, _)] _ _ _ _
  refine b_aload_n (pc := 0) (i := 0) (dd dtX11_span 0 rfl) rfl rfl ?_
  refine b_iload_n (pc := 1) (i := 1) (dd dtX11_span 1 rfl) rfl rfl ?_
  refine b_invV (pc := 2) (dd dtX11_span 2 rfl) mlX11_248 mvX11_isCell miX11_isCell (c_X11_isCell) oM_0 rfl rfl (by decide) (Nat.le_of_ble_eq_true rfl) ?_
  refine b_ifb_ne (pc := 5) (tgt := 10) (dd dtX11_span 3 rfl) (by decide) (fun h5 => ?_) (fun h5 => ?_)
  · refine b_aload_n (pc := 10) (i := 0) (dd dtX11_span 6 rfl) rfl rfl ?_
    refine b_iload_n (pc := 11) (i := 2) (dd dtX11_span 7 rfl) rfl rfl ?_
    refine b_invV (pc := 12) (dd dtX11_span 8 rfl) mlX11_277 mvX11_isKnown miX11_isKnown (c_X11_isKnown) oM_0 rfl rfl (by decide) (Nat.le_of_ble_eq_true rfl) ?_
    refine b_ifb_eq (pc := 15) (tgt := 28) (dd dtX11_span 9 rfl) (by decide) (fun h15 => ?_) (fun h15 => ?_)
    · refine b_bipush (pc := 28) (v := -2) (dd dtX11_span 16 rfl) (by decide) ?_
      refine b_eq (b_iret (dd dtX11_span 17 rfl) rfl) ?_ ?_
      · (try clear hN); simp [inR, spanW_28, spanW_29, -Int32.not_lt, -Int32.not_le, *]
      · (try clear hN); simp [inR, spanW_28, spanW_29, -Int32.not_lt, -Int32.not_le, *]
    · refine b_aload_n (pc := 18) (i := 0) (dd dtX11_span 10 rfl) rfl rfl ?_
      refine b_iload_n (pc := 19) (i := 3) (dd dtX11_span 11 rfl) rfl rfl ?_
      refine b_ic0 (pc := 20) (dd dtX11_span 12 rfl) ?_
      refine b_ic3 (pc := 21) (dd dtX11_span 13 rfl) ?_
      refine b_invV (pc := 22) (dd dtX11_span 14 rfl) mlX11_1 mvX11_in miX11_in (c_X11_in) oM_0 rfl rfl (by decide) (Nat.le_of_ble_eq_true rfl) ?_
      refine b_ifb_ne (pc := 25) (tgt := 31) (dd dtX11_span 15 rfl) (by decide) (fun h25 => ?_) (fun h25 => ?_)
      · refine b_aload_n (pc := 31) (i := 0) (dd dtX11_span 18 rfl) rfl rfl ?_
        refine b_iload_n (pc := 32) (i := 1) (dd dtX11_span 19 rfl) rfl rfl ?_
        refine b_iload_n (pc := 33) (i := 2) (dd dtX11_span 20 rfl) rfl rfl ?_
        refine b_iload_n (pc := 34) (i := 3) (dd dtX11_span 21 rfl) rfl rfl ?_
        refine b_ic1 (pc := 35) (dd dtX11_span 22 rfl) ?_
        refine b_icmpL_le (pc := 36) (tgt := 44) (dd dtX11_span 23 rfl) (by decide) (fun h36 => ?_) (fun h36 => ?_)
        · refine b_ic0 (pc := 44) (dd dtX11_span 26 rfl) ?_
          refine b_invV (pc := 45) (dd dtX11_span 27 rfl) mlX11_289 mvX11_findSpan miX11_findSpan (c_findSpan hN hN2) oM_0 rfl rfl (by decide) (Nat.le_of_ble_eq_true rfl) ?_
          refine b_aload_n (pc := 48) (i := 0) (dd dtX11_span 28 rfl) rfl rfl ?_
          refine b_geti (pc := 49) (dd dtX11_span 29 rfl) fwX11_100 pM_0 ?_
          refine b_aload_n (pc := 52) (i := 0) (dd dtX11_span 30 rfl) rfl rfl ?_
          refine b_geti (pc := 53) (dd dtX11_span 31 rfl) fwX11_103 pM_0 ?_
          rw [spanW_28, spanW_29]
          refine b_icmpL_le (pc := 56) (tgt := 64) (dd dtX11_span 32 rfl) (by decide) (fun h56 => ?_) (fun h56 => ?_)
          · refine b_iload_n (pc := 64) (i := 3) (dd dtX11_span 35 rfl) rfl rfl ?_
            refine b_ic2 (pc := 65) (dd dtX11_span 36 rfl) ?_
            refine b_irem (pc := 66) (dd dtX11_span 37 rfl) (by decide) ?_
            refine b_if_ne (pc := 67) (tgt := 77) (dd dtX11_span 38 rfl) (by decide) (fun h67 => ?_) (fun h67 => ?_)
            · refine b_aload_n (pc := 77) (i := 0) (dd dtX11_span 42 rfl) rfl rfl ?_
              refine b_geti (pc := 78) (dd dtX11_span 43 rfl) fwX11_103 pM_0 ?_
              refine b_eq (b_iret (dd dtX11_span 44 rfl) rfl) ?_ ?_
              · (try clear hN); simp [inR, spanW_28, spanW_29, -Int32.not_lt, -Int32.not_le, *]
              · (try clear hN); simp [inR, spanW_28, spanW_29, -Int32.not_lt, -Int32.not_le, *]
            · refine b_aload_n (pc := 70) (i := 0) (dd dtX11_span 39 rfl) rfl rfl ?_
              refine b_geti (pc := 71) (dd dtX11_span 40 rfl) fwX11_100 pM_0 ?_
              refine b_goto (pc := 74) (tgt := 81) (dd dtX11_span 41 rfl) (by decide) ?_
              refine b_eq (b_iret (dd dtX11_span 44 rfl) rfl) ?_ ?_
              · (try clear hN); simp [inR, spanW_28, spanW_29, -Int32.not_lt, -Int32.not_le, *]
              · (try clear hN); simp [inR, spanW_28, spanW_29, -Int32.not_lt, -Int32.not_le, *]
          · refine b_bipush (pc := 59) (v := -3) (dd dtX11_span 33 rfl) (by decide) ?_
            refine b_goto (pc := 61) (tgt := 81) (dd dtX11_span 34 rfl) (by decide) ?_
            refine b_eq (b_iret (dd dtX11_span 44 rfl) rfl) ?_ ?_
            · (try clear hN); simp [inR, spanW_28, spanW_29, -Int32.not_lt, -Int32.not_le, *]
            · (try clear hN); simp [inR, spanW_28, spanW_29, -Int32.not_lt, -Int32.not_le, *]
        · refine b_bipush (pc := 39) (v := 8) (dd dtX11_span 24 rfl) (by decide) ?_
          refine b_goto (pc := 41) (tgt := 45) (dd dtX11_span 25 rfl) (by decide) ?_
          refine b_invV (pc := 45) (dd dtX11_span 27 rfl) mlX11_289 mvX11_findSpan miX11_findSpan (c_findSpan hN hN2) oM_0 rfl rfl (by decide) (Nat.le_of_ble_eq_true rfl) ?_
          refine b_aload_n (pc := 48) (i := 0) (dd dtX11_span 28 rfl) rfl rfl ?_
          refine b_geti (pc := 49) (dd dtX11_span 29 rfl) fwX11_100 pM_0 ?_
          refine b_aload_n (pc := 52) (i := 0) (dd dtX11_span 30 rfl) rfl rfl ?_
          refine b_geti (pc := 53) (dd dtX11_span 31 rfl) fwX11_103 pM_0 ?_
          rw [spanW_28, spanW_29]
          refine b_icmpL_le (pc := 56) (tgt := 64) (dd dtX11_span 32 rfl) (by decide) (fun h56 => ?_) (fun h56 => ?_)
          · refine b_iload_n (pc := 64) (i := 3) (dd dtX11_span 35 rfl) rfl rfl ?_
            refine b_ic2 (pc := 65) (dd dtX11_span 36 rfl) ?_
            refine b_irem (pc := 66) (dd dtX11_span 37 rfl) (by decide) ?_
            refine b_if_ne (pc := 67) (tgt := 77) (dd dtX11_span 38 rfl) (by decide) (fun h67 => ?_) (fun h67 => ?_)
            · refine b_aload_n (pc := 77) (i := 0) (dd dtX11_span 42 rfl) rfl rfl ?_
              refine b_geti (pc := 78) (dd dtX11_span 43 rfl) fwX11_103 pM_0 ?_
              refine b_eq (b_iret (dd dtX11_span 44 rfl) rfl) ?_ ?_
              · (try clear hN); simp [inR, spanW_28, spanW_29, -Int32.not_lt, -Int32.not_le, *]
              · (try clear hN); simp [inR, spanW_28, spanW_29, -Int32.not_lt, -Int32.not_le, *]
            · refine b_aload_n (pc := 70) (i := 0) (dd dtX11_span 39 rfl) rfl rfl ?_
              refine b_geti (pc := 71) (dd dtX11_span 40 rfl) fwX11_100 pM_0 ?_
              refine b_goto (pc := 74) (tgt := 81) (dd dtX11_span 41 rfl) (by decide) ?_
              refine b_eq (b_iret (dd dtX11_span 44 rfl) rfl) ?_ ?_
              · (try clear hN); simp [inR, spanW_28, spanW_29, -Int32.not_lt, -Int32.not_le, *]
              · (try clear hN); simp [inR, spanW_28, spanW_29, -Int32.not_lt, -Int32.not_le, *]
          · refine b_bipush (pc := 59) (v := -3) (dd dtX11_span 33 rfl) (by decide) ?_
            refine b_goto (pc := 61) (tgt := 81) (dd dtX11_span 34 rfl) (by decide) ?_
            refine b_eq (b_iret (dd dtX11_span 44 rfl) rfl) ?_ ?_
            · (try clear hN); simp [inR, spanW_28, spanW_29, -Int32.not_lt, -Int32.not_le, *]
            · (try clear hN); simp [inR, spanW_28, spanW_29, -Int32.not_lt, -Int32.not_le, *]
      · refine b_bipush (pc := 28) (v := -2) (dd dtX11_span 16 rfl) (by decide) ?_
        refine b_eq (b_iret (dd dtX11_span 17 rfl) rfl) ?_ ?_
        · (try clear hN); simp [inR, spanW_28, spanW_29, -Int32.not_lt, -Int32.not_le, *]
        · (try clear hN); simp [inR, spanW_28, spanW_29, -Int32.not_lt, -Int32.not_le, *]
  · refine b_icm1 (pc := 8) (dd dtX11_span 4 rfl) ?_
    refine b_eq (b_iret (dd dtX11_span 5 rfl) rfl) ?_ ?_
    · (try clear hN); simp [inR, spanW_28, spanW_29, -Int32.not_lt, -Int32.not_le, *]
    · (try clear hN); simp [inR, spanW_28, spanW_29, -Int32.not_lt, -Int32.not_le, *]
def tX11_lost : List (Nat × Instr × Nat) := [(0, .aload_n 0, 1), (1, .iload_n 1, 1), (2, .invokevirtual 248, 3), (5, .ifCond .ne 5, 3), (8, .iconst (-1), 1), (9, .ireturn, 1), (10, .aload_n 0, 1), (11, .iload_n 2, 1), (12, .iconst 1, 1), (13, .sipush 400, 3), (16, .invokevirtual 1, 3), (19, .ifCond .ne 6, 3), (22, .bipush (-2), 2), (24, .ireturn, 1), (25, .aload_n 0, 1), (26, .getfield 106, 3), (29, .bipush 8, 2), (31, .if_icmp .ne 6, 3), (34, .bipush (-4), 2), (36, .ireturn, 1), (37, .aload_n 0, 1), (38, .getfield 109, 3), (41, .aload_n 0, 1), (42, .getfield 106, 3), (45, .iload_n 1, 1), (46, .iastore, 1), (47, .aload_n 0, 1), (48, .getfield 112, 3), (51, .aload_n 0, 1), (52, .getfield 106, 3), (55, .iload_n 2, 1), (56, .iastore, 1), (57, .aload_n 0, 1), (58, .getfield 115, 3), (61, .aload_n 0, 1), (62, .getfield 106, 3), (65, .aload_n 0, 1), (66, .getfield 13, 3), (69, .iastore, 1), (70, .aload_n 0, 1), (71, .dup, 1), (72, .getfield 106, 3), (75, .iconst 1, 1), (76, .iadd, 1), (77, .putfield 106, 3), (80, .aload_n 0, 1), (81, .getfield 106, 3), (84, .iconst 1, 1), (85, .isub, 1), (86, .ireturn, 1)]
theorem dtX11_lost : dec_ok mX11_lost.2.1 tX11_lost = true := by decide +kernel
set_option maxHeartbeats 4000000 in
theorem c_X11_lost {I : Wd} {N : Nat} {c u : Int32} (hN : I 0 30 = nI N) (hN2 : N ≤ 8) : Cal SyM mX11_lost 2 [.ref 0, .int c, .int u] I (some (.int (vLost N c u))) (if okLost N c u then ist (ist (ist (ist I 23 N c) 24 N u) 25 N (I 0 0)) 0 30 (nI (N + 1)) else I) := by
  refine Cal.of (by decide) (Nat.le_of_ble_eq_true rfl) ?_
  show Bd _ _ _ _ [(0, _), (1, _), (2, _)] _ _ _ _
  refine b_aload_n (pc := 0) (i := 0) (dd dtX11_lost 0 rfl) rfl rfl ?_
  refine b_iload_n (pc := 1) (i := 1) (dd dtX11_lost 1 rfl) rfl rfl ?_
  refine b_invV (pc := 2) (dd dtX11_lost 2 rfl) mlX11_248 mvX11_isCell miX11_isCell (c_X11_isCell) oM_0 rfl rfl (by decide) (Nat.le_of_ble_eq_true rfl) ?_
  refine b_ifb_ne (pc := 5) (tgt := 10) (dd dtX11_lost 3 rfl) (by decide) (fun h5 => ?_) (fun h5 => ?_)
  · refine b_aload_n (pc := 10) (i := 0) (dd dtX11_lost 6 rfl) rfl rfl ?_
    refine b_iload_n (pc := 11) (i := 2) (dd dtX11_lost 7 rfl) rfl rfl ?_
    refine b_ic1 (pc := 12) (dd dtX11_lost 8 rfl) ?_
    refine b_sipush (pc := 13) (v := 400) (dd dtX11_lost 9 rfl) (by decide) ?_
    refine b_invV (pc := 16) (dd dtX11_lost 10 rfl) mlX11_1 mvX11_in miX11_in (c_X11_in) oM_0 rfl rfl (by decide) (Nat.le_of_ble_eq_true rfl) ?_
    refine b_ifb_ne (pc := 19) (tgt := 25) (dd dtX11_lost 11 rfl) (by decide) (fun h19 => ?_) (fun h19 => ?_)
    · refine b_aload_n (pc := 25) (i := 0) (dd dtX11_lost 14 rfl) rfl rfl ?_
      refine b_geti (pc := 26) (dd dtX11_lost 15 rfl) fwX11_106 pM_0 ?_
      refine b_bipush (pc := 29) (v := 8) (dd dtX11_lost 16 rfl) (by decide) ?_
      refine b_icmp_ne (pc := 31) (tgt := 37) (dd dtX11_lost 17 rfl) (by decide) (fun h31 => ?_) (fun h31 => ?_)
      · rw [hN] at h31
        have hne : N ≠ 8 := fun q => h31 (by rw [q]; rfl)
        have hlt : N < 8 := by omega
        refine b_aload_n (pc := 37) (i := 0) (dd dtX11_lost 20 rfl) rfl rfl ?_
        refine b_geta (pc := 38) (dd dtX11_lost 21 rfl) fwX11_109 pM_0 rM_0_31 ?_
        refine b_aload_n (pc := 41) (i := 0) (dd dtX11_lost 22 rfl) rfl rfl ?_
        refine b_geti (pc := 42) (dd dtX11_lost 23 rfl) fwX11_106 pM_0 ?_
        refine b_iload_n (pc := 45) (i := 1) (dd dtX11_lost 24 rfl) rfl rfl ?_
        refine b_iast (pc := 46) (dd dtX11_lost 25 rfl) pM_23 (by simp only [ist_eq, ist_ne, upd_eq, upd_ne, ne_eq, Nat.reduceEqDiff, not_false_eq_true, hN]; exact vpn rfl hlt (by decide)) ?_
        refine b_aload_n (pc := 47) (i := 0) (dd dtX11_lost 26 rfl) rfl rfl ?_
        refine b_geta (pc := 48) (dd dtX11_lost 27 rfl) fwX11_112 pM_0 rM_0_32 ?_
        refine b_aload_n (pc := 51) (i := 0) (dd dtX11_lost 28 rfl) rfl rfl ?_
        refine b_geti (pc := 52) (dd dtX11_lost 29 rfl) fwX11_106 pM_0 ?_
        refine b_iload_n (pc := 55) (i := 2) (dd dtX11_lost 30 rfl) rfl rfl ?_
        refine b_iast (pc := 56) (dd dtX11_lost 31 rfl) pM_24 (by simp only [ist_eq, ist_ne, upd_eq, upd_ne, ne_eq, Nat.reduceEqDiff, not_false_eq_true, hN]; exact vpn rfl hlt (by decide)) ?_
        refine b_aload_n (pc := 57) (i := 0) (dd dtX11_lost 32 rfl) rfl rfl ?_
        refine b_geta (pc := 58) (dd dtX11_lost 33 rfl) fwX11_115 pM_0 rM_0_33 ?_
        refine b_aload_n (pc := 61) (i := 0) (dd dtX11_lost 34 rfl) rfl rfl ?_
        refine b_geti (pc := 62) (dd dtX11_lost 35 rfl) fwX11_106 pM_0 ?_
        refine b_aload_n (pc := 65) (i := 0) (dd dtX11_lost 36 rfl) rfl rfl ?_
        refine b_geti (pc := 66) (dd dtX11_lost 37 rfl) fwX11_13 pM_0 ?_
        refine b_iast (pc := 69) (dd dtX11_lost 38 rfl) pM_25 (by simp only [ist_eq, ist_ne, upd_eq, upd_ne, ne_eq, Nat.reduceEqDiff, not_false_eq_true, hN]; exact vpn rfl hlt (by decide)) ?_
        refine b_aload_n (pc := 70) (i := 0) (dd dtX11_lost 39 rfl) rfl rfl ?_
        refine b_dup (pc := 71) (dd dtX11_lost 40 rfl) rfl ?_
        refine b_geti (pc := 72) (dd dtX11_lost 41 rfl) fwX11_106 pM_0 ?_
        refine b_ic1 (pc := 75) (dd dtX11_lost 42 rfl) ?_
        refine b_iadd (pc := 76) (dd dtX11_lost 43 rfl) ?_
        refine b_puti (pc := 77) (dd dtX11_lost 44 rfl) fwX11_106 pM_0 ?_
        refine b_aload_n (pc := 80) (i := 0) (dd dtX11_lost 45 rfl) rfl rfl ?_
        refine b_geti (pc := 81) (dd dtX11_lost 46 rfl) fwX11_106 pM_0 ?_
        refine b_ic1 (pc := 84) (dd dtX11_lost 47 rfl) ?_
        refine b_isub (pc := 85) (dd dtX11_lost 48 rfl) ?_
        refine b_eq (b_iret (dd dtX11_lost 49 rfl) rfl) ?_ ?_
        · simp [inR, vLost, okLost, ist_eq, ist_ne, upd_eq, upd_ne, nI_1, nI_pred, -Int32.not_lt, -Int32.not_le, *]
        · simp [inR, vLost, okLost, ist_eq, ist_ne, upd_eq, upd_ne, nI_1, nI_clamp (show N < 2 ^ 31 by omega), -Int32.not_lt, -Int32.not_le, *]
      · rw [hN] at h31
        have hge : N = 8 := (nI_eq (by omega) (by decide)).mp h31
        have hlt : ¬ N < 8 := by omega
        refine b_bipush (pc := 34) (v := -4) (dd dtX11_lost 18 rfl) (by decide) ?_
        refine b_eq (b_iret (dd dtX11_lost 19 rfl) rfl) ?_ ?_
        · (try clear hN); simp [inR, vLost, okLost, -Int32.not_lt, -Int32.not_le, *]
        · (try clear hN); simp [inR, vLost, okLost, -Int32.not_lt, -Int32.not_le, *]
    · refine b_bipush (pc := 22) (v := -2) (dd dtX11_lost 12 rfl) (by decide) ?_
      refine b_eq (b_iret (dd dtX11_lost 13 rfl) rfl) ?_ ?_
      · (try clear hN); simp [inR, vLost, okLost, -Int32.not_lt, -Int32.not_le, *]
      · (try clear hN); simp [inR, vLost, okLost, -Int32.not_lt, -Int32.not_le, *]
  · refine b_icm1 (pc := 8) (dd dtX11_lost 4 rfl) ?_
    refine b_eq (b_iret (dd dtX11_lost 5 rfl) rfl) ?_ ?_
    · (try clear hN); simp [inR, vLost, okLost, -Int32.not_lt, -Int32.not_le, *]
    · (try clear hN); simp [inR, vLost, okLost, -Int32.not_lt, -Int32.not_le, *]
def tX11_fitTold : List (Nat × Instr × Nat) := [(0, .aload_n 0, 1), (1, .iload_n 1, 1), (2, .iconst 0, 1), (3, .aload_n 0, 1), (4, .getfield 118, 3), (7, .iconst 1, 1), (8, .isub, 1), (9, .invokevirtual 1, 3), (12, .ifCond .ne 5, 3), (15, .iconst (-1), 1), (16, .ireturn, 1), (17, .aload_n 0, 1), (18, .iload_n 2, 1), (19, .iconst 0, 1), (20, .iconst 3, 1), (21, .invokevirtual 1, 3), (24, .ifCond .ne 6, 3), (27, .bipush (-2), 2), (29, .ireturn, 1), (30, .aload_n 0, 1), (31, .getfield 124, 3), (34, .ifCond .ne 6, 3), (37, .bipush (-3), 2), (39, .ireturn, 1), (40, .iload_n 2, 1), (41, .ifCond .ne 12, 3), (44, .aload_n 0, 1), (45, .getfield 143, 3), (48, .iload_n 1, 1), (49, .iaload, 1), (50, .goto 35, 3), (53, .iload_n 2, 1), (54, .iconst 1, 1), (55, .if_icmp .ne 12, 3), (58, .aload_n 0, 1), (59, .getfield 146, 3), (62, .iload_n 1, 1), (63, .iaload, 1), (64, .goto 21, 3), (67, .iload_n 2, 1), (68, .iconst 2, 1), (69, .if_icmp .ne 12, 3), (72, .aload_n 0, 1), (73, .getfield 149, 3), (76, .iload_n 1, 1), (77, .iaload, 1), (78, .goto 7, 3), (81, .aload_n 0, 1), (82, .getfield 121, 3), (85, .ireturn, 1)]
theorem dtX11_fitTold : dec_ok mX11_fitTold.2.1 tX11_fitTold = true := by decide +kernel
set_option maxHeartbeats 4000000 in
theorem c_X11_fitTold {I : Wd} {n : Nat} {i what : Int32} (hN : I 0 34 = nI n) (hN2 : n ≤ 5) : Cal SyM mX11_fitTold 1 [.ref 0, .int i, .int what] I (some (.int (if inR i 0 (I 0 34 - 1) then (if inR what 0 3 then (if I 0 36 = 0 then -3 else if what = 0 then I 31 i.toNatClampNeg else if what = 1 then I 32 i.toNatClampNeg else if what = 2 then I 33 i.toNatClampNeg else I 0 35) else -2) else -1))) I := by
  refine Cal.of (by decide) (Nat.le_of_ble_eq_true rfl) ?_
  show Bd _ _ _ _ [(0, _), (1, _), (2, _)] _ _ _ _
  refine b_aload_n (pc := 0) (i := 0) (dd dtX11_fitTold 0 rfl) rfl rfl ?_
  refine b_iload_n (pc := 1) (i := 1) (dd dtX11_fitTold 1 rfl) rfl rfl ?_
  refine b_ic0 (pc := 2) (dd dtX11_fitTold 2 rfl) ?_
  refine b_aload_n (pc := 3) (i := 0) (dd dtX11_fitTold 3 rfl) rfl rfl ?_
  refine b_geti (pc := 4) (dd dtX11_fitTold 4 rfl) fwX11_118 pM_0 ?_
  refine b_ic1 (pc := 7) (dd dtX11_fitTold 5 rfl) ?_
  refine b_isub (pc := 8) (dd dtX11_fitTold 6 rfl) ?_
  refine b_invV (pc := 9) (dd dtX11_fitTold 7 rfl) mlX11_1 mvX11_in miX11_in (c_X11_in) oM_0 rfl rfl (by decide) (Nat.le_of_ble_eq_true rfl) ?_
  refine b_ifb_ne (pc := 12) (tgt := 17) (dd dtX11_fitTold 8 rfl) (by decide) (fun h12 => ?_) (fun h12 => ?_)
  · refine b_aload_n (pc := 17) (i := 0) (dd dtX11_fitTold 11 rfl) rfl rfl ?_
    refine b_iload_n (pc := 18) (i := 2) (dd dtX11_fitTold 12 rfl) rfl rfl ?_
    refine b_ic0 (pc := 19) (dd dtX11_fitTold 13 rfl) ?_
    refine b_ic3 (pc := 20) (dd dtX11_fitTold 14 rfl) ?_
    refine b_invV (pc := 21) (dd dtX11_fitTold 15 rfl) mlX11_1 mvX11_in miX11_in (c_X11_in) oM_0 rfl rfl (by decide) (Nat.le_of_ble_eq_true rfl) ?_
    refine b_ifb_ne (pc := 24) (tgt := 30) (dd dtX11_fitTold 16 rfl) (by decide) (fun h24 => ?_) (fun h24 => ?_)
    · refine b_aload_n (pc := 30) (i := 0) (dd dtX11_fitTold 19 rfl) rfl rfl ?_
      refine b_geti (pc := 31) (dd dtX11_fitTold 20 rfl) fwX11_124 pM_0 ?_
      refine b_if_ne (pc := 34) (tgt := 40) (dd dtX11_fitTold 21 rfl) (by decide) (fun h34 => ?_) (fun h34 => ?_)
      · refine b_iload_n (pc := 40) (i := 2) (dd dtX11_fitTold 24 rfl) rfl rfl ?_
        refine b_if_ne (pc := 41) (tgt := 53) (dd dtX11_fitTold 25 rfl) (by decide) (fun h41 => ?_) (fun h41 => ?_)
        · refine b_iload_n (pc := 53) (i := 2) (dd dtX11_fitTold 31 rfl) rfl rfl ?_
          refine b_ic1 (pc := 54) (dd dtX11_fitTold 32 rfl) ?_
          refine b_icmp_ne (pc := 55) (tgt := 67) (dd dtX11_fitTold 33 rfl) (by decide) (fun h55 => ?_) (fun h55 => ?_)
          · refine b_iload_n (pc := 67) (i := 2) (dd dtX11_fitTold 39 rfl) rfl rfl ?_
            refine b_ic2 (pc := 68) (dd dtX11_fitTold 40 rfl) ?_
            refine b_icmp_ne (pc := 69) (tgt := 81) (dd dtX11_fitTold 41 rfl) (by decide) (fun h69 => ?_) (fun h69 => ?_)
            · refine b_aload_n (pc := 81) (i := 0) (dd dtX11_fitTold 47 rfl) rfl rfl ?_
              refine b_geti (pc := 82) (dd dtX11_fitTold 48 rfl) fwX11_121 pM_0 ?_
              refine b_eq (b_iret (dd dtX11_fitTold 49 rfl) rfl) ?_ ?_
              · (try clear hN); simp [inR, ite_true, -Int32.not_lt, -Int32.not_le, *]
              · (try clear hN); simp [inR, ite_true, -Int32.not_lt, -Int32.not_le, *]
            · refine b_aload_n (pc := 72) (i := 0) (dd dtX11_fitTold 42 rfl) rfl rfl ?_
              refine b_geta (pc := 73) (dd dtX11_fitTold 43 rfl) fwX11_149 pM_0 rM_0_44 ?_
              refine b_iload_n (pc := 76) (i := 1) (dd dtX11_fitTold 44 rfl) rfl rfl ?_
              refine b_iald (pc := 77) (dd dtX11_fitTold 45 rfl) pM_33 (vpm (by rw [hN] at h12; exact h12) hN2 (by decide)) ?_
              refine b_goto (pc := 78) (tgt := 85) (dd dtX11_fitTold 46 rfl) (by decide) ?_
              refine b_eq (b_iret (dd dtX11_fitTold 49 rfl) rfl) ?_ ?_
              · (try clear hN); simp [inR, ite_true, -Int32.not_lt, -Int32.not_le, *]
              · (try clear hN); simp [inR, ite_true, -Int32.not_lt, -Int32.not_le, *]
          · refine b_aload_n (pc := 58) (i := 0) (dd dtX11_fitTold 34 rfl) rfl rfl ?_
            refine b_geta (pc := 59) (dd dtX11_fitTold 35 rfl) fwX11_146 pM_0 rM_0_43 ?_
            refine b_iload_n (pc := 62) (i := 1) (dd dtX11_fitTold 36 rfl) rfl rfl ?_
            refine b_iald (pc := 63) (dd dtX11_fitTold 37 rfl) pM_32 (vpm (by rw [hN] at h12; exact h12) hN2 (by decide)) ?_
            refine b_goto (pc := 64) (tgt := 85) (dd dtX11_fitTold 38 rfl) (by decide) ?_
            refine b_eq (b_iret (dd dtX11_fitTold 49 rfl) rfl) ?_ ?_
            · (try clear hN); simp [inR, ite_true, -Int32.not_lt, -Int32.not_le, *]
            · (try clear hN); simp [inR, ite_true, -Int32.not_lt, -Int32.not_le, *]
        · refine b_aload_n (pc := 44) (i := 0) (dd dtX11_fitTold 26 rfl) rfl rfl ?_
          refine b_geta (pc := 45) (dd dtX11_fitTold 27 rfl) fwX11_143 pM_0 rM_0_42 ?_
          refine b_iload_n (pc := 48) (i := 1) (dd dtX11_fitTold 28 rfl) rfl rfl ?_
          refine b_iald (pc := 49) (dd dtX11_fitTold 29 rfl) pM_31 (vpm (by rw [hN] at h12; exact h12) hN2 (by decide)) ?_
          refine b_goto (pc := 50) (tgt := 85) (dd dtX11_fitTold 30 rfl) (by decide) ?_
          refine b_eq (b_iret (dd dtX11_fitTold 49 rfl) rfl) ?_ ?_
          · (try clear hN); simp [inR, ite_true, -Int32.not_lt, -Int32.not_le, *]
          · (try clear hN); simp [inR, ite_true, -Int32.not_lt, -Int32.not_le, *]
      · refine b_bipush (pc := 37) (v := -3) (dd dtX11_fitTold 22 rfl) (by decide) ?_
        refine b_eq (b_iret (dd dtX11_fitTold 23 rfl) rfl) ?_ ?_
        · (try clear hN); simp [inR, ite_true, -Int32.not_lt, -Int32.not_le, *]
        · (try clear hN); simp [inR, ite_true, -Int32.not_lt, -Int32.not_le, *]
    · refine b_bipush (pc := 27) (v := -2) (dd dtX11_fitTold 17 rfl) (by decide) ?_
      refine b_eq (b_iret (dd dtX11_fitTold 18 rfl) rfl) ?_ ?_
      · (try clear hN); simp [inR, ite_true, -Int32.not_lt, -Int32.not_le, *]
      · (try clear hN); simp [inR, ite_true, -Int32.not_lt, -Int32.not_le, *]
  · refine b_icm1 (pc := 15) (dd dtX11_fitTold 9 rfl) ?_
    refine b_eq (b_iret (dd dtX11_fitTold 10 rfl) rfl) ?_ ?_
    · (try clear hN); simp [inR, ite_true, -Int32.not_lt, -Int32.not_le, *]
    · (try clear hN); simp [inR, ite_true, -Int32.not_lt, -Int32.not_le, *]
def tX11_force : List (Nat × Instr × Nat) := [(0, .aload_n 0, 1), (1, .iload_n 1, 1), (2, .iconst 0, 1), (3, .aload_n 0, 1), (4, .getfield 152, 3), (7, .iconst 1, 1), (8, .isub, 1), (9, .invokevirtual 1, 3), (12, .ifCond .ne 6, 3), (15, .bipush (-2), 2), (17, .ireturn, 1), (18, .aload_n 0, 1), (19, .getfield 155, 3), (22, .istore_n 2, 1), (23, .aload_n 0, 1), (24, .iload_n 1, 1), (25, .putfield 155, 3), (28, .iload_n 2, 1), (29, .ireturn, 1)]
theorem dtX11_force : dec_ok mX11_force.2.1 tX11_force = true := by decide +kernel
set_option maxHeartbeats 4000000 in
theorem c_X11_force {I : Wd} {t : Int32} : Cal SyM mX11_force 1 [.ref 0, .int t] I (some (.int (vForce (I 0 45) (I 0 46) t))) (if inR t 0 (I 0 45 - 1) then ist I 0 46 t else I) := by
  refine Cal.of (by decide) (Nat.le_of_ble_eq_true rfl) ?_
  show Bd _ _ _ _ [(0, _), (1, _)] _ _ _ _
  refine b_aload_n (pc := 0) (i := 0) (dd dtX11_force 0 rfl) rfl rfl ?_
  refine b_iload_n (pc := 1) (i := 1) (dd dtX11_force 1 rfl) rfl rfl ?_
  refine b_ic0 (pc := 2) (dd dtX11_force 2 rfl) ?_
  refine b_aload_n (pc := 3) (i := 0) (dd dtX11_force 3 rfl) rfl rfl ?_
  refine b_geti (pc := 4) (dd dtX11_force 4 rfl) fwX11_152 pM_0 ?_
  refine b_ic1 (pc := 7) (dd dtX11_force 5 rfl) ?_
  refine b_isub (pc := 8) (dd dtX11_force 6 rfl) ?_
  refine b_invV (pc := 9) (dd dtX11_force 7 rfl) mlX11_1 mvX11_in miX11_in (c_X11_in) oM_0 rfl rfl (by decide) (Nat.le_of_ble_eq_true rfl) ?_
  refine b_ifb_ne (pc := 12) (tgt := 18) (dd dtX11_force 8 rfl) (by decide) (fun h12 => ?_) (fun h12 => ?_)
  · refine b_aload_n (pc := 18) (i := 0) (dd dtX11_force 11 rfl) rfl rfl ?_
    refine b_geti (pc := 19) (dd dtX11_force 12 rfl) fwX11_155 pM_0 ?_
    refine b_istore_n (pc := 22) (i := 2) (lv' := [(2, _), (0, _), (1, _)]) (dd dtX11_force 13 rfl) rfl (Nat.le_of_ble_eq_true rfl) rfl ?_
    refine b_aload_n (pc := 23) (i := 0) (dd dtX11_force 14 rfl) rfl rfl ?_
    refine b_iload_n (pc := 24) (i := 1) (dd dtX11_force 15 rfl) rfl rfl ?_
    refine b_puti (pc := 25) (dd dtX11_force 16 rfl) fwX11_155 pM_0 ?_
    refine b_iload_n (pc := 28) (i := 2) (dd dtX11_force 17 rfl) rfl rfl ?_
    refine b_eq (b_iret (dd dtX11_force 18 rfl) rfl) ?_ ?_
    · (try clear hN); simp [inR, vForce, -Int32.not_lt, -Int32.not_le, *]
    · (try clear hN); simp [inR, vForce, -Int32.not_lt, -Int32.not_le, *]
  · refine b_bipush (pc := 15) (v := -2) (dd dtX11_force 9 rfl) (by decide) ?_
    refine b_eq (b_iret (dd dtX11_force 10 rfl) rfl) ?_ ?_
    · (try clear hN); simp [inR, vForce, -Int32.not_lt, -Int32.not_le, *]
    · (try clear hN); simp [inR, vForce, -Int32.not_lt, -Int32.not_le, *]
def tX11_lookTold : List (Nat × Instr × Nat) := [(0, .aload_n 0, 1), (1, .getfield 206, 3), (4, .ireturn, 1)]
theorem dtX11_lookTold : dec_ok mX11_lookTold.2.1 tX11_lookTold = true := by decide +kernel
set_option maxHeartbeats 4000000 in
theorem c_X11_lookTold {I : Wd} : Cal SyM mX11_lookTold 0 [.ref 0] I (some (.int (I 0 63))) I := by
  refine Cal.of (by decide) (Nat.le_of_ble_eq_true rfl) ?_
  show Bd _ _ _ _ [(0, _)] _ _ _ _
  refine b_aload_n (pc := 0) (i := 0) (dd dtX11_lookTold 0 rfl) rfl rfl ?_
  refine b_geti (pc := 1) (dd dtX11_lookTold 1 rfl) fwX11_206 pM_0 ?_
  exact b_eq (b_iret (dd dtX11_lookTold 2 rfl) rfl) rfl rfl
def tX11_planned : List (Nat × Instr × Nat) := [(0, .aload_n 0, 1), (1, .getfield 233, 3), (4, .ireturn, 1)]
theorem dtX11_planned : dec_ok mX11_planned.2.1 tX11_planned = true := by decide +kernel
set_option maxHeartbeats 4000000 in
theorem c_X11_planned {I : Wd} : Cal SyM mX11_planned 0 [.ref 0] I (some (.int (I 0 72))) I := by
  refine Cal.of (by decide) (Nat.le_of_ble_eq_true rfl) ?_
  show Bd _ _ _ _ [(0, _)] _ _ _ _
  refine b_aload_n (pc := 0) (i := 0) (dd dtX11_planned 0 rfl) rfl rfl ?_
  refine b_geti (pc := 1) (dd dtX11_planned 1 rfl) fwX11_233 pM_0 ?_
  exact b_eq (b_iret (dd dtX11_planned 2 rfl) rfl) rfl rfl
def tX11_warn : List (Nat × Instr × Nat) := [(0, .aload_n 0, 1), (1, .iload_n 1, 1), (2, .invokevirtual 248, 3), (5, .ifCond .ne 5, 3), (8, .iconst (-1), 1), (9, .ireturn, 1), (10, .aload_n 0, 1), (11, .getfield 39, 3), (14, .iload_n 1, 1), (15, .iaload, 1), (16, .ifCond .lt 6, 3), (19, .bipush (-3), 2), (21, .ireturn, 1), (22, .aload_n 0, 1), (23, .getfield 212, 3), (26, .bipush 30, 2), (28, .if_icmp .ne 6, 3), (31, .bipush (-4), 2), (33, .ireturn, 1), (34, .aload_n 0, 1), (35, .getfield 215, 3), (38, .aload_n 0, 1), (39, .getfield 212, 3), (42, .iload_n 1, 1), (43, .iastore, 1), (44, .aload_n 0, 1), (45, .getfield 218, 3), (48, .aload_n 0, 1), (49, .getfield 212, 3), (52, .aload_n 0, 1), (53, .getfield 13, 3), (56, .iastore, 1), (57, .aload_n 0, 1), (58, .dup, 1), (59, .getfield 212, 3), (62, .iconst 1, 1), (63, .iadd, 1), (64, .putfield 212, 3), (67, .aload_n 0, 1), (68, .getfield 212, 3), (71, .iconst 1, 1), (72, .isub, 1), (73, .ireturn, 1)]
theorem dtX11_warn : dec_ok mX11_warn.2.1 tX11_warn = true := by decide +kernel
set_option maxHeartbeats 4000000 in
theorem c_X11_warn {I : Wd} {N : Nat} {c : Int32} (hN : I 0 65 = nI N) (hN2 : N ≤ 30) : Cal SyM mX11_warn 2 [.ref 0, .int c] I (some (.int (vWarn (I 4) N c))) (if okWarn (I 4) N c then ist (ist (ist I 41 N c) 42 N (I 0 0)) 0 65 (nI (N + 1)) else I) := by
  refine Cal.of (by decide) (Nat.le_of_ble_eq_true rfl) ?_
  show Bd _ _ _ _ [(0, _), (1, _)] _ _ _ _
  refine b_aload_n (pc := 0) (i := 0) (dd dtX11_warn 0 rfl) rfl rfl ?_
  refine b_iload_n (pc := 1) (i := 1) (dd dtX11_warn 1 rfl) rfl rfl ?_
  refine b_invV (pc := 2) (dd dtX11_warn 2 rfl) mlX11_248 mvX11_isCell miX11_isCell (c_X11_isCell) oM_0 rfl rfl (by decide) (Nat.le_of_ble_eq_true rfl) ?_
  refine b_ifb_ne (pc := 5) (tgt := 10) (dd dtX11_warn 3 rfl) (by decide) (fun h5 => ?_) (fun h5 => ?_)
  · refine b_aload_n (pc := 10) (i := 0) (dd dtX11_warn 6 rfl) rfl rfl ?_
    refine b_geta (pc := 11) (dd dtX11_warn 7 rfl) fwX11_39 pM_0 rM_0_8 ?_
    refine b_iload_n (pc := 14) (i := 1) (dd dtX11_warn 8 rfl) rfl rfl ?_
    refine b_iald (pc := 15) (dd dtX11_warn 9 rfl) pM_4 (vpc (by assumption) (by decide)) ?_
    refine b_if_lt (pc := 16) (tgt := 22) (dd dtX11_warn 10 rfl) (by decide) (fun h16 => ?_) (fun h16 => ?_)
    · refine b_aload_n (pc := 22) (i := 0) (dd dtX11_warn 13 rfl) rfl rfl ?_
      refine b_geti (pc := 23) (dd dtX11_warn 14 rfl) fwX11_212 pM_0 ?_
      refine b_bipush (pc := 26) (v := 30) (dd dtX11_warn 15 rfl) (by decide) ?_
      refine b_icmp_ne (pc := 28) (tgt := 34) (dd dtX11_warn 16 rfl) (by decide) (fun h28 => ?_) (fun h28 => ?_)
      · rw [hN] at h28
        have hne : N ≠ 30 := fun q => h28 (by rw [q]; rfl)
        have hlt : N < 30 := by omega
        refine b_aload_n (pc := 34) (i := 0) (dd dtX11_warn 19 rfl) rfl rfl ?_
        refine b_geta (pc := 35) (dd dtX11_warn 20 rfl) fwX11_215 pM_0 rM_0_66 ?_
        refine b_aload_n (pc := 38) (i := 0) (dd dtX11_warn 21 rfl) rfl rfl ?_
        refine b_geti (pc := 39) (dd dtX11_warn 22 rfl) fwX11_212 pM_0 ?_
        refine b_iload_n (pc := 42) (i := 1) (dd dtX11_warn 23 rfl) rfl rfl ?_
        refine b_iast (pc := 43) (dd dtX11_warn 24 rfl) pM_41 (by simp only [ist_eq, ist_ne, upd_eq, upd_ne, ne_eq, Nat.reduceEqDiff, not_false_eq_true, hN]; exact vpn rfl hlt (by decide)) ?_
        refine b_aload_n (pc := 44) (i := 0) (dd dtX11_warn 25 rfl) rfl rfl ?_
        refine b_geta (pc := 45) (dd dtX11_warn 26 rfl) fwX11_218 pM_0 rM_0_67 ?_
        refine b_aload_n (pc := 48) (i := 0) (dd dtX11_warn 27 rfl) rfl rfl ?_
        refine b_geti (pc := 49) (dd dtX11_warn 28 rfl) fwX11_212 pM_0 ?_
        refine b_aload_n (pc := 52) (i := 0) (dd dtX11_warn 29 rfl) rfl rfl ?_
        refine b_geti (pc := 53) (dd dtX11_warn 30 rfl) fwX11_13 pM_0 ?_
        refine b_iast (pc := 56) (dd dtX11_warn 31 rfl) pM_42 (by simp only [ist_eq, ist_ne, upd_eq, upd_ne, ne_eq, Nat.reduceEqDiff, not_false_eq_true, hN]; exact vpn rfl hlt (by decide)) ?_
        refine b_aload_n (pc := 57) (i := 0) (dd dtX11_warn 32 rfl) rfl rfl ?_
        refine b_dup (pc := 58) (dd dtX11_warn 33 rfl) rfl ?_
        refine b_geti (pc := 59) (dd dtX11_warn 34 rfl) fwX11_212 pM_0 ?_
        refine b_ic1 (pc := 62) (dd dtX11_warn 35 rfl) ?_
        refine b_iadd (pc := 63) (dd dtX11_warn 36 rfl) ?_
        refine b_puti (pc := 64) (dd dtX11_warn 37 rfl) fwX11_212 pM_0 ?_
        refine b_aload_n (pc := 67) (i := 0) (dd dtX11_warn 38 rfl) rfl rfl ?_
        refine b_geti (pc := 68) (dd dtX11_warn 39 rfl) fwX11_212 pM_0 ?_
        refine b_ic1 (pc := 71) (dd dtX11_warn 40 rfl) ?_
        refine b_isub (pc := 72) (dd dtX11_warn 41 rfl) ?_
        refine b_eq (b_iret (dd dtX11_warn 42 rfl) rfl) ?_ ?_
        · simp [inR, vWarn, okWarn, ist_eq, ist_ne, upd_eq, upd_ne, nI_1, nI_pred, -Int32.not_lt, -Int32.not_le, *]
        · simp [inR, vWarn, okWarn, ist_eq, ist_ne, upd_eq, upd_ne, nI_1, nI_clamp (show N < 2 ^ 31 by omega), -Int32.not_lt, -Int32.not_le, *]
      · rw [hN] at h28
        have hge : N = 30 := (nI_eq (by omega) (by decide)).mp h28
        have hlt : ¬ N < 30 := by omega
        refine b_bipush (pc := 31) (v := -4) (dd dtX11_warn 17 rfl) (by decide) ?_
        refine b_eq (b_iret (dd dtX11_warn 18 rfl) rfl) ?_ ?_
        · (try clear hN); simp [inR, vWarn, okWarn, -Int32.not_lt, -Int32.not_le, *]
        · (try clear hN); simp [inR, vWarn, okWarn, -Int32.not_lt, -Int32.not_le, *]
    · refine b_bipush (pc := 19) (v := -3) (dd dtX11_warn 11 rfl) (by decide) ?_
      refine b_eq (b_iret (dd dtX11_warn 12 rfl) rfl) ?_ ?_
      · (try clear hN); simp [inR, vWarn, okWarn, -Int32.not_lt, -Int32.not_le, *]
      · (try clear hN); simp [inR, vWarn, okWarn, -Int32.not_lt, -Int32.not_le, *]
  · refine b_icm1 (pc := 8) (dd dtX11_warn 4 rfl) ?_
    refine b_eq (b_iret (dd dtX11_warn 5 rfl) rfl) ?_ ?_
    · (try clear hN); simp [inR, vWarn, okWarn, -Int32.not_lt, -Int32.not_le, *]
    · (try clear hN); simp [inR, vWarn, okWarn, -Int32.not_lt, -Int32.not_le, *]
def tX11_isTrue : List (Nat × Instr × Nat) := [(0, .aload_n 0, 1), (1, .getfield 39, 3), (4, .aload_n 0, 1), (5, .getfield 215, 3), (8, .iload_n 1, 1), (9, .iaload, 1), (10, .iaload, 1), (11, .ifCond .lt 39, 3), (14, .aload_n 0, 1), (15, .aload_n 0, 1), (16, .getfield 39, 3), (19, .aload_n 0, 1), (20, .getfield 215, 3), (23, .iload_n 1, 1), (24, .iaload, 1), (25, .iaload, 1), (26, .aload_n 0, 1), (27, .getfield 218, 3), (30, .iload_n 1, 1), (31, .iaload, 1), (32, .aload_n 0, 1), (33, .getfield 218, 3), (36, .iload_n 1, 1), (37, .iaload, 1), (38, .iload_n 2, 1), (39, .iadd, 1), (40, .invokevirtual 1, 3), (43, .ifCond .eq 7, 3), (46, .iconst 1, 1), (47, .goto 4, 3), (50, .iconst 0, 1), (51, .ireturn, 1)]
theorem dtX11_isTrue : dec_ok mX11_isTrue.2.1 tX11_isTrue = true := by decide +kernel
set_option maxHeartbeats 4000000 in
theorem c_X11_isTrue {I : Wd} {w m : Int32} (hw : vp_in w 30) (hc : vp_in (I 41 w.toNatClampNeg) 64) : Cal SyM mX11_isTrue 1 [.ref 0, .int w, .int m] I (some (.int (bi (cT (I 4) (I 41) (I 42) m w.toNatClampNeg)))) I := by
  refine Cal.of (by decide) (Nat.le_of_ble_eq_true rfl) ?_
  show Bd _ _ _ _ [(0, _), (1, _), (2, _)] _ _ _ _
  refine b_aload_n (pc := 0) (i := 0) (dd dtX11_isTrue 0 rfl) rfl rfl ?_
  refine b_geta (pc := 1) (dd dtX11_isTrue 1 rfl) fwX11_39 pM_0 rM_0_8 ?_
  refine b_aload_n (pc := 4) (i := 0) (dd dtX11_isTrue 2 rfl) rfl rfl ?_
  refine b_geta (pc := 5) (dd dtX11_isTrue 3 rfl) fwX11_215 pM_0 rM_0_66 ?_
  refine b_iload_n (pc := 8) (i := 1) (dd dtX11_isTrue 4 rfl) rfl rfl ?_
  refine b_iald (pc := 9) (dd dtX11_isTrue 5 rfl) pM_41 (hw) ?_
  refine b_iald (pc := 10) (dd dtX11_isTrue 6 rfl) pM_4 (hc) ?_
  refine b_if_lt (pc := 11) (tgt := 50) (dd dtX11_isTrue 7 rfl) (by decide) (fun h11 => ?_) (fun h11 => ?_)
  · refine b_ic0 (pc := 50) (dd dtX11_isTrue 30 rfl) ?_
    refine b_eq (b_zret (dd dtX11_isTrue 31 rfl) rfl (by first | rfl | exact nar_bi)) ?_ ?_
    · simp [bi, cT, inR, -Int32.not_lt, -Int32.not_le, *]
    · rfl
  · refine b_aload_n (pc := 14) (i := 0) (dd dtX11_isTrue 8 rfl) rfl rfl ?_
    refine b_aload_n (pc := 15) (i := 0) (dd dtX11_isTrue 9 rfl) rfl rfl ?_
    refine b_geta (pc := 16) (dd dtX11_isTrue 10 rfl) fwX11_39 pM_0 rM_0_8 ?_
    refine b_aload_n (pc := 19) (i := 0) (dd dtX11_isTrue 11 rfl) rfl rfl ?_
    refine b_geta (pc := 20) (dd dtX11_isTrue 12 rfl) fwX11_215 pM_0 rM_0_66 ?_
    refine b_iload_n (pc := 23) (i := 1) (dd dtX11_isTrue 13 rfl) rfl rfl ?_
    refine b_iald (pc := 24) (dd dtX11_isTrue 14 rfl) pM_41 (hw) ?_
    refine b_iald (pc := 25) (dd dtX11_isTrue 15 rfl) pM_4 (hc) ?_
    refine b_aload_n (pc := 26) (i := 0) (dd dtX11_isTrue 16 rfl) rfl rfl ?_
    refine b_geta (pc := 27) (dd dtX11_isTrue 17 rfl) fwX11_218 pM_0 rM_0_67 ?_
    refine b_iload_n (pc := 30) (i := 1) (dd dtX11_isTrue 18 rfl) rfl rfl ?_
    refine b_iald (pc := 31) (dd dtX11_isTrue 19 rfl) pM_42 (hw) ?_
    refine b_aload_n (pc := 32) (i := 0) (dd dtX11_isTrue 20 rfl) rfl rfl ?_
    refine b_geta (pc := 33) (dd dtX11_isTrue 21 rfl) fwX11_218 pM_0 rM_0_67 ?_
    refine b_iload_n (pc := 36) (i := 1) (dd dtX11_isTrue 22 rfl) rfl rfl ?_
    refine b_iald (pc := 37) (dd dtX11_isTrue 23 rfl) pM_42 (hw) ?_
    refine b_iload_n (pc := 38) (i := 2) (dd dtX11_isTrue 24 rfl) rfl rfl ?_
    refine b_iadd (pc := 39) (dd dtX11_isTrue 25 rfl) ?_
    refine b_invV (pc := 40) (dd dtX11_isTrue 26 rfl) mlX11_1 mvX11_in miX11_in (c_X11_in) oM_0 rfl rfl (by decide) (Nat.le_of_ble_eq_true rfl) ?_
    refine b_ifb_eq (pc := 43) (tgt := 50) (dd dtX11_isTrue 27 rfl) (by decide) (fun h43 => ?_) (fun h43 => ?_)
    · refine b_ic0 (pc := 50) (dd dtX11_isTrue 30 rfl) ?_
      refine b_eq (b_zret (dd dtX11_isTrue 31 rfl) rfl (by first | rfl | exact nar_bi)) ?_ ?_
      · simp [bi, cT, inR, -Int32.not_lt, -Int32.not_le, *]
      · rfl
    · refine b_ic1 (pc := 46) (dd dtX11_isTrue 28 rfl) ?_
      refine b_goto (pc := 47) (tgt := 51) (dd dtX11_isTrue 29 rfl) (by decide) ?_
      refine b_eq (b_zret (dd dtX11_isTrue 31 rfl) rfl (by first | rfl | exact nar_bi)) ?_ ?_
      · simp [bi, cT, inR, -Int32.not_lt, -Int32.not_le, *]
      · rfl
def tX11_peopleIn : List (Nat × Instr × Nat) := [(0, .iconst 0, 1), (1, .istore_n 2, 1), (2, .iconst 0, 1), (3, .istore_n 3, 1), (4, .iload_n 3, 1), (5, .aload_n 0, 1), (6, .getfield 23, 3), (9, .if_icmp .ge 50, 3), (12, .iload_n 2, 1), (13, .aload_n 0, 1), (14, .getfield 57, 3), (17, .iload_n 3, 1), (18, .iaload, 1), (19, .iload_n 1, 1), (20, .if_icmp .ne 30, 3), (23, .aload_n 0, 1), (24, .getfield 66, 3), (27, .iload_n 3, 1), (28, .iaload, 1), (29, .ifCond .ge 21, 3), (32, .aload_n 0, 1), (33, .getfield 75, 3), (36, .iload_n 3, 1), (37, .baload, 1), (38, .ifCond .ne 12, 3), (41, .aload_n 0, 1), (42, .getfield 63, 3), (45, .iload_n 3, 1), (46, .iaload, 1), (47, .goto 4, 3), (50, .iconst 0, 1), (51, .iadd, 1), (52, .istore_n 2, 1), (53, .iinc 3 1, 3), (56, .goto (-52), 3), (59, .iload_n 2, 1), (60, .ireturn, 1)]
theorem dtX11_peopleIn : dec_ok mX11_peopleIn.2.1 tX11_peopleIn = true := by decide +kernel
set_option maxHeartbeats 4000000 in
theorem l_X11_peopleIn {I : Wd} {N : Nat} {c : Int32} (hN : I 0 3 = nI N) (hN2 : N ≤ 14) : ∀ (n h : Nat) (x3 : Int32) (x2 : Int32), h ≤ N → N < h + n → x3 = nI h → x2 = (sPeople (I 10) (I 13) (I 16) (I 12) c h) → Bd SyM mX11_peopleIn 0 4 [(3, .int x3), (2, .int x2), (0, .ref 0), (1, .int c)] [] I (some (.int (sPeople (I 10) (I 13) (I 16) (I 12) c N))) I := by
  intro n
  induction n with
  | zero => intro h x3 x2 h1 h2; omega
  | succ n ih =>
    intro h x3 x2 h1 h2 e3 e2
    subst e3; subst e2
    refine b_iload_n (pc := 4) (i := 3) (dd dtX11_peopleIn 4 rfl) rfl rfl ?_
    refine b_aload_n (pc := 5) (i := 0) (dd dtX11_peopleIn 5 rfl) rfl rfl ?_
    refine b_geti (pc := 6) (dd dtX11_peopleIn 6 rfl) fwX11_23 pM_0 ?_
    refine b_icmpL_ge (pc := 9) (tgt := 59) (dd dtX11_peopleIn 7 rfl) (by decide) (fun h9 => ?_) (fun h9 => ?_)
    · rw [hN] at h9
      have he : h = N := Nat.le_antisymm h1 (ge_n h9 (by omega))
      subst he
      refine b_iload_n (pc := 59) (i := 2) (dd dtX11_peopleIn 35 rfl) rfl rfl ?_
      exact b_eq (b_iret (dd dtX11_peopleIn 36 rfl) rfl) rfl rfl
    · rw [hN] at h9
      have hlt : h < N := lt_n h9 (by omega) (by omega)
      refine b_iload_n (pc := 12) (i := 2) (dd dtX11_peopleIn 8 rfl) rfl rfl ?_
      refine b_aload_n (pc := 13) (i := 0) (dd dtX11_peopleIn 9 rfl) rfl rfl ?_
      refine b_geta (pc := 14) (dd dtX11_peopleIn 10 rfl) fwX11_57 pM_0 rM_0_14 ?_
      refine b_iload_n (pc := 17) (i := 3) (dd dtX11_peopleIn 11 rfl) rfl rfl ?_
      refine b_iald (pc := 18) (dd dtX11_peopleIn 12 rfl) pM_10 (vpn rfl (show h < 14 by omega) (by decide)) ?_
      refine b_iload_n (pc := 19) (i := 1) (dd dtX11_peopleIn 13 rfl) rfl rfl ?_
      refine b_icmp_ne (pc := 20) (tgt := 50) (dd dtX11_peopleIn 14 rfl) (by decide) (fun h20 => ?_) (fun h20 => ?_)
      · refine b_ic0 (pc := 50) (dd dtX11_peopleIn 30 rfl) ?_
        refine b_iadd (pc := 51) (dd dtX11_peopleIn 31 rfl) ?_
        refine b_istore_n (pc := 52) (i := 2) (lv' := [(2, _), (3, _), (0, _), (1, _)]) (dd dtX11_peopleIn 32 rfl) rfl (Nat.le_of_ble_eq_true rfl) rfl ?_
        refine b_iinc1 (pc := 53) (i := 3) (lv' := [(3, _), (2, _), (0, _), (1, _)]) (dd dtX11_peopleIn 33 rfl) rfl (Nat.le_of_ble_eq_true rfl) rfl ?_
        refine b_goto (pc := 56) (tgt := 4) (dd dtX11_peopleIn 34 rfl) (by decide) ?_
        rw [nI_1]
        refine ih (h + 1) _ _ hlt (by omega) rfl ?_
        · simp only [nI_clamp (show h < 2 ^ 31 by omega)] at *
          simp [sPeople, -Int32.not_lt, -Int32.not_le, *]
      · refine b_aload_n (pc := 23) (i := 0) (dd dtX11_peopleIn 15 rfl) rfl rfl ?_
        refine b_geta (pc := 24) (dd dtX11_peopleIn 16 rfl) fwX11_66 pM_0 rM_0_17 ?_
        refine b_iload_n (pc := 27) (i := 3) (dd dtX11_peopleIn 17 rfl) rfl rfl ?_
        refine b_iald (pc := 28) (dd dtX11_peopleIn 18 rfl) pM_13 (vpn rfl (show h < 14 by omega) (by decide)) ?_
        refine b_ifL_ge (pc := 29) (tgt := 50) (dd dtX11_peopleIn 19 rfl) (by decide) (fun h29 => ?_) (fun h29 => ?_)
        · refine b_ic0 (pc := 50) (dd dtX11_peopleIn 30 rfl) ?_
          refine b_iadd (pc := 51) (dd dtX11_peopleIn 31 rfl) ?_
          refine b_istore_n (pc := 52) (i := 2) (lv' := [(2, _), (3, _), (0, _), (1, _)]) (dd dtX11_peopleIn 32 rfl) rfl (Nat.le_of_ble_eq_true rfl) rfl ?_
          refine b_iinc1 (pc := 53) (i := 3) (lv' := [(3, _), (2, _), (0, _), (1, _)]) (dd dtX11_peopleIn 33 rfl) rfl (Nat.le_of_ble_eq_true rfl) rfl ?_
          refine b_goto (pc := 56) (tgt := 4) (dd dtX11_peopleIn 34 rfl) (by decide) ?_
          rw [nI_1]
          refine ih (h + 1) _ _ hlt (by omega) rfl ?_
          · simp only [nI_clamp (show h < 2 ^ 31 by omega)] at *
            simp [sPeople, -Int32.not_lt, -Int32.not_le, *]
        · refine b_aload_n (pc := 32) (i := 0) (dd dtX11_peopleIn 20 rfl) rfl rfl ?_
          refine b_geta (pc := 33) (dd dtX11_peopleIn 21 rfl) fwX11_75 pM_0 rM_0_20 ?_
          refine b_iload_n (pc := 36) (i := 3) (dd dtX11_peopleIn 22 rfl) rfl rfl ?_
          refine b_zald (pc := 37) (dd dtX11_peopleIn 23 rfl) pM_16 (vpn rfl (show h < 14 by omega) (by decide)) ?_
          refine b_if_ne (pc := 38) (tgt := 50) (dd dtX11_peopleIn 24 rfl) (by decide) (fun h38 => ?_) (fun h38 => ?_)
          · refine b_ic0 (pc := 50) (dd dtX11_peopleIn 30 rfl) ?_
            refine b_iadd (pc := 51) (dd dtX11_peopleIn 31 rfl) ?_
            refine b_istore_n (pc := 52) (i := 2) (lv' := [(2, _), (3, _), (0, _), (1, _)]) (dd dtX11_peopleIn 32 rfl) rfl (Nat.le_of_ble_eq_true rfl) rfl ?_
            refine b_iinc1 (pc := 53) (i := 3) (lv' := [(3, _), (2, _), (0, _), (1, _)]) (dd dtX11_peopleIn 33 rfl) rfl (Nat.le_of_ble_eq_true rfl) rfl ?_
            refine b_goto (pc := 56) (tgt := 4) (dd dtX11_peopleIn 34 rfl) (by decide) ?_
            rw [nI_1]
            refine ih (h + 1) _ _ hlt (by omega) rfl ?_
            · simp only [nI_clamp (show h < 2 ^ 31 by omega)] at *
              simp [sPeople, -Int32.not_lt, -Int32.not_le, *]
          · refine b_aload_n (pc := 41) (i := 0) (dd dtX11_peopleIn 25 rfl) rfl rfl ?_
            refine b_geta (pc := 42) (dd dtX11_peopleIn 26 rfl) fwX11_63 pM_0 rM_0_16 ?_
            refine b_iload_n (pc := 45) (i := 3) (dd dtX11_peopleIn 27 rfl) rfl rfl ?_
            refine b_iald (pc := 46) (dd dtX11_peopleIn 28 rfl) pM_12 (vpn rfl (show h < 14 by omega) (by decide)) ?_
            refine b_goto (pc := 47) (tgt := 51) (dd dtX11_peopleIn 29 rfl) (by decide) ?_
            refine b_iadd (pc := 51) (dd dtX11_peopleIn 31 rfl) ?_
            refine b_istore_n (pc := 52) (i := 2) (lv' := [(2, _), (3, _), (0, _), (1, _)]) (dd dtX11_peopleIn 32 rfl) rfl (Nat.le_of_ble_eq_true rfl) rfl ?_
            refine b_iinc1 (pc := 53) (i := 3) (lv' := [(3, _), (2, _), (0, _), (1, _)]) (dd dtX11_peopleIn 33 rfl) rfl (Nat.le_of_ble_eq_true rfl) rfl ?_
            refine b_goto (pc := 56) (tgt := 4) (dd dtX11_peopleIn 34 rfl) (by decide) ?_
            rw [nI_1]
            refine ih (h + 1) _ _ hlt (by omega) rfl ?_
            · simp only [nI_clamp (show h < 2 ^ 31 by omega)] at *
              simp [sPeople, -Int32.not_lt, -Int32.not_le, *]
set_option maxHeartbeats 4000000 in
theorem c_X11_peopleIn {I : Wd} {N : Nat} {c : Int32} (hN : I 0 3 = nI N) (hN2 : N ≤ 14) : Cal SyM mX11_peopleIn 0 [.ref 0, .int c] I (some (.int (sPeople (I 10) (I 13) (I 16) (I 12) c N))) I := by
  refine Cal.of (by decide) (Nat.le_of_ble_eq_true rfl) ?_
  show Bd _ _ _ _ [(0, _), (1, _)] _ _ _ _
  refine b_ic0 (pc := 0) (dd dtX11_peopleIn 0 rfl) ?_
  refine b_istore_n (pc := 1) (i := 2) (lv' := [(2, _), (0, _), (1, _)]) (dd dtX11_peopleIn 1 rfl) rfl (Nat.le_of_ble_eq_true rfl) rfl ?_
  refine b_ic0 (pc := 2) (dd dtX11_peopleIn 2 rfl) ?_
  refine b_istore_n (pc := 3) (i := 3) (lv' := [(3, _), (2, _), (0, _), (1, _)]) (dd dtX11_peopleIn 3 rfl) rfl (Nat.le_of_ble_eq_true rfl) rfl ?_
  exact l_X11_peopleIn hN hN2 (N + 1) 0 _ _ (Nat.zero_le _) (by omega) rfl rfl
def tX11_cellTold : List (Nat × Instr × Nat) := [(0, .aload_n 0, 1), (1, .iload_n 1, 1), (2, .invokevirtual 248, 3), (5, .ifCond .ne 6, 3), (8, .bipush (-5), 2), (10, .ireturn, 1), (11, .iload_n 2, 1), (12, .tableswitch 84 0 4 #[36, 43, 50, 57, 78], 36), (48, .aload_n 0, 1), (49, .getfield 29, 3), (52, .iload_n 1, 1), (53, .iaload, 1), (54, .ireturn, 1), (55, .aload_n 0, 1), (56, .getfield 36, 3), (59, .iload_n 1, 1), (60, .iaload, 1), (61, .ireturn, 1), (62, .aload_n 0, 1), (63, .getfield 39, 3), (66, .iload_n 1, 1), (67, .iaload, 1), (68, .ireturn, 1), (69, .aload_n 0, 1), (70, .getfield 39, 3), (73, .iload_n 1, 1), (74, .iaload, 1), (75, .ifCond .ge 8, 3), (78, .bipush (-3), 2), (80, .goto 9, 3), (83, .aload_n 0, 1), (84, .getfield 33, 3), (87, .iload_n 1, 1), (88, .iaload, 1), (89, .ireturn, 1), (90, .aload_n 0, 1), (91, .iload_n 1, 1), (92, .invokevirtual 389, 3), (95, .ireturn, 1), (96, .bipush (-7), 2), (98, .ireturn, 1)]
theorem dtX11_cellTold : dec_ok mX11_cellTold.2.1 tX11_cellTold = true := by decide +kernel
set_option maxHeartbeats 4000000 in
theorem c_X11_cellTold {I : Wd} {N : Nat} {c what : Int32} (hN : I 0 3 = nI N) (hN2 : N ≤ 14) : Cal SyM mX11_cellTold 2 [.ref 0, .int c, .int what] I (some (.int (vCellTold (I 1) (I 3) (I 4) (I 2) (sPeople (I 10) (I 13) (I 16) (I 12) c N) c what))) I := by
  refine Cal.of (by decide) (Nat.le_of_ble_eq_true rfl) ?_
  show Bd _ _ _ _ [(0, _), (1, _), (2, _)] _ _ _ _
  refine b_aload_n (pc := 0) (i := 0) (dd dtX11_cellTold 0 rfl) rfl rfl ?_
  refine b_iload_n (pc := 1) (i := 1) (dd dtX11_cellTold 1 rfl) rfl rfl ?_
  refine b_invV (pc := 2) (dd dtX11_cellTold 2 rfl) mlX11_248 mvX11_isCell miX11_isCell (c_X11_isCell) oM_0 rfl rfl (by decide) (Nat.le_of_ble_eq_true rfl) ?_
  refine b_ifb_ne (pc := 5) (tgt := 11) (dd dtX11_cellTold 3 rfl) (by decide) (fun h5 => ?_) (fun h5 => ?_)
  · refine b_iload_n (pc := 11) (i := 2) (dd dtX11_cellTold 6 rfl) rfl rfl ?_
    refine b_tsw (pc := 12) (ts := [(0, 48), (1, 55), (2, 62), (3, 69), (4, 90)]) (dfl := 96) (dd dtX11_cellTold 7 rfl) (by decide +kernel) ⟨fun h12 => ?_, fun h12_0 => ⟨fun h12 => ?_, fun h12_1 => ⟨fun h12 => ?_, fun h12_2 => ⟨fun h12 => ?_, fun h12_3 => ⟨fun h12 => ?_, fun h12_4 => ?_⟩⟩⟩⟩⟩
    · refine b_aload_n (pc := 48) (i := 0) (dd dtX11_cellTold 8 rfl) rfl rfl ?_
      refine b_geta (pc := 49) (dd dtX11_cellTold 9 rfl) fwX11_29 pM_0 rM_0_5 ?_
      refine b_iload_n (pc := 52) (i := 1) (dd dtX11_cellTold 10 rfl) rfl rfl ?_
      refine b_iald (pc := 53) (dd dtX11_cellTold 11 rfl) pM_1 (vpc (by assumption) (by decide)) ?_
      refine b_eq (b_iret (dd dtX11_cellTold 12 rfl) rfl) ?_ ?_
      · (try clear hN); simp [inR, vCellTold, -Int32.not_lt, -Int32.not_le, *]
      · (try clear hN); simp [inR, vCellTold, -Int32.not_lt, -Int32.not_le, *]
    · refine b_aload_n (pc := 55) (i := 0) (dd dtX11_cellTold 13 rfl) rfl rfl ?_
      refine b_geta (pc := 56) (dd dtX11_cellTold 14 rfl) fwX11_36 pM_0 rM_0_7 ?_
      refine b_iload_n (pc := 59) (i := 1) (dd dtX11_cellTold 15 rfl) rfl rfl ?_
      refine b_iald (pc := 60) (dd dtX11_cellTold 16 rfl) pM_3 (vpc (by assumption) (by decide)) ?_
      refine b_eq (b_iret (dd dtX11_cellTold 17 rfl) rfl) ?_ ?_
      · (try clear hN); simp [inR, vCellTold, -Int32.not_lt, -Int32.not_le, *]
      · (try clear hN); simp [inR, vCellTold, -Int32.not_lt, -Int32.not_le, *]
    · refine b_aload_n (pc := 62) (i := 0) (dd dtX11_cellTold 18 rfl) rfl rfl ?_
      refine b_geta (pc := 63) (dd dtX11_cellTold 19 rfl) fwX11_39 pM_0 rM_0_8 ?_
      refine b_iload_n (pc := 66) (i := 1) (dd dtX11_cellTold 20 rfl) rfl rfl ?_
      refine b_iald (pc := 67) (dd dtX11_cellTold 21 rfl) pM_4 (vpc (by assumption) (by decide)) ?_
      refine b_eq (b_iret (dd dtX11_cellTold 22 rfl) rfl) ?_ ?_
      · (try clear hN); simp [inR, vCellTold, -Int32.not_lt, -Int32.not_le, *]
      · (try clear hN); simp [inR, vCellTold, -Int32.not_lt, -Int32.not_le, *]
    · refine b_aload_n (pc := 69) (i := 0) (dd dtX11_cellTold 23 rfl) rfl rfl ?_
      refine b_geta (pc := 70) (dd dtX11_cellTold 24 rfl) fwX11_39 pM_0 rM_0_8 ?_
      refine b_iload_n (pc := 73) (i := 1) (dd dtX11_cellTold 25 rfl) rfl rfl ?_
      refine b_iald (pc := 74) (dd dtX11_cellTold 26 rfl) pM_4 (vpc (by assumption) (by decide)) ?_
      refine b_ifL_ge (pc := 75) (tgt := 83) (dd dtX11_cellTold 27 rfl) (by decide) (fun h75 => ?_) (fun h75 => ?_)
      · refine b_aload_n (pc := 83) (i := 0) (dd dtX11_cellTold 30 rfl) rfl rfl ?_
        refine b_geta (pc := 84) (dd dtX11_cellTold 31 rfl) fwX11_33 pM_0 rM_0_6 ?_
        refine b_iload_n (pc := 87) (i := 1) (dd dtX11_cellTold 32 rfl) rfl rfl ?_
        refine b_iald (pc := 88) (dd dtX11_cellTold 33 rfl) pM_2 (vpc (by assumption) (by decide)) ?_
        refine b_eq (b_iret (dd dtX11_cellTold 34 rfl) rfl) ?_ ?_
        · (try clear hN); simp [inR, vCellTold, -Int32.not_lt, -Int32.not_le, *]
        · (try clear hN); simp [inR, vCellTold, -Int32.not_lt, -Int32.not_le, *]
      · refine b_bipush (pc := 78) (v := -3) (dd dtX11_cellTold 28 rfl) (by decide) ?_
        refine b_goto (pc := 80) (tgt := 89) (dd dtX11_cellTold 29 rfl) (by decide) ?_
        refine b_eq (b_iret (dd dtX11_cellTold 34 rfl) rfl) ?_ ?_
        · (try clear hN); simp [inR, vCellTold, -Int32.not_lt, -Int32.not_le, *]
        · (try clear hN); simp [inR, vCellTold, -Int32.not_lt, -Int32.not_le, *]
    · refine b_aload_n (pc := 90) (i := 0) (dd dtX11_cellTold 35 rfl) rfl rfl ?_
      refine b_iload_n (pc := 91) (i := 1) (dd dtX11_cellTold 36 rfl) rfl rfl ?_
      refine b_invV (pc := 92) (dd dtX11_cellTold 37 rfl) mlX11_389 mvX11_peopleIn miX11_peopleIn (c_X11_peopleIn hN hN2) oM_0 rfl rfl (by decide) (Nat.le_of_ble_eq_true rfl) ?_
      refine b_eq (b_iret (dd dtX11_cellTold 38 rfl) rfl) ?_ ?_
      · (try clear hN); simp [inR, vCellTold, -Int32.not_lt, -Int32.not_le, *]
      · (try clear hN); simp [inR, vCellTold, -Int32.not_lt, -Int32.not_le, *]
    · refine b_bipush (pc := 96) (v := -7) (dd dtX11_cellTold 39 rfl) (by decide) ?_
      refine b_eq (b_iret (dd dtX11_cellTold 40 rfl) rfl) ?_ ?_
      · (try clear hN); simp [inR, vCellTold, -Int32.not_lt, -Int32.not_le, *]
      · (try clear hN); simp [inR, vCellTold, -Int32.not_lt, -Int32.not_le, *]
  · refine b_bipush (pc := 8) (v := -5) (dd dtX11_cellTold 4 rfl) (by decide) ?_
    refine b_eq (b_iret (dd dtX11_cellTold 5 rfl) rfl) ?_ ?_
    · (try clear hN); simp [inR, vCellTold, -Int32.not_lt, -Int32.not_le, *]
    · (try clear hN); simp [inR, vCellTold, -Int32.not_lt, -Int32.not_le, *]
def tX11_houseTold : List (Nat × Instr × Nat) := [(0, .aload_n 0, 1), (1, .iload_n 1, 1), (2, .invokevirtual 253, 3), (5, .ifCond .ne 6, 3), (8, .bipush (-5), 2), (10, .ireturn, 1), (11, .iload_n 2, 1), (12, .tableswitch 79 0 4 #[36, 43, 50, 57, 64], 36), (48, .aload_n 0, 1), (49, .getfield 57, 3), (52, .iload_n 1, 1), (53, .iaload, 1), (54, .ireturn, 1), (55, .aload_n 0, 1), (56, .getfield 60, 3), (59, .iload_n 1, 1), (60, .iaload, 1), (61, .ireturn, 1), (62, .aload_n 0, 1), (63, .getfield 63, 3), (66, .iload_n 1, 1), (67, .iaload, 1), (68, .ireturn, 1), (69, .aload_n 0, 1), (70, .getfield 66, 3), (73, .iload_n 1, 1), (74, .iaload, 1), (75, .ireturn, 1), (76, .aload_n 0, 1), (77, .getfield 75, 3), (80, .iload_n 1, 1), (81, .baload, 1), (82, .ifCond .eq 7, 3), (85, .iconst 1, 1), (86, .goto 4, 3), (89, .iconst 0, 1), (90, .ireturn, 1), (91, .bipush (-7), 2), (93, .ireturn, 1)]
theorem dtX11_houseTold : dec_ok mX11_houseTold.2.1 tX11_houseTold = true := by decide +kernel
set_option maxHeartbeats 4000000 in
theorem c_X11_houseTold {I : Wd} {N : Nat} {h what : Int32} (hN : I 0 3 = nI N) (hN2 : N ≤ 14) : Cal SyM mX11_houseTold 2 [.ref 0, .int h, .int what] I (some (.int (vHouseTold (I 10) (I 11) (I 12) (I 13) (I 16) (I 0 3) h what))) I := by
  refine Cal.of (by decide) (Nat.le_of_ble_eq_true rfl) ?_
  show Bd _ _ _ _ [(0, _), (1, _), (2, _)] _ _ _ _
  refine b_aload_n (pc := 0) (i := 0) (dd dtX11_houseTold 0 rfl) rfl rfl ?_
  refine b_iload_n (pc := 1) (i := 1) (dd dtX11_houseTold 1 rfl) rfl rfl ?_
  refine b_invV (pc := 2) (dd dtX11_houseTold 2 rfl) mlX11_253 mvX11_isHouse miX11_isHouse (c_X11_isHouse) oM_0 rfl rfl (by decide) (Nat.le_of_ble_eq_true rfl) ?_
  refine b_ifb_ne (pc := 5) (tgt := 11) (dd dtX11_houseTold 3 rfl) (by decide) (fun h5 => ?_) (fun h5 => ?_)
  · refine b_iload_n (pc := 11) (i := 2) (dd dtX11_houseTold 6 rfl) rfl rfl ?_
    refine b_tsw (pc := 12) (ts := [(0, 48), (1, 55), (2, 62), (3, 69), (4, 76)]) (dfl := 91) (dd dtX11_houseTold 7 rfl) (by decide +kernel) ⟨fun h12 => ?_, fun h12_0 => ⟨fun h12 => ?_, fun h12_1 => ⟨fun h12 => ?_, fun h12_2 => ⟨fun h12 => ?_, fun h12_3 => ⟨fun h12 => ?_, fun h12_4 => ?_⟩⟩⟩⟩⟩
    · refine b_aload_n (pc := 48) (i := 0) (dd dtX11_houseTold 8 rfl) rfl rfl ?_
      refine b_geta (pc := 49) (dd dtX11_houseTold 9 rfl) fwX11_57 pM_0 rM_0_14 ?_
      refine b_iload_n (pc := 52) (i := 1) (dd dtX11_houseTold 10 rfl) rfl rfl ?_
      refine b_iald (pc := 53) (dd dtX11_houseTold 11 rfl) pM_10 (vpm (by rw [hN] at h5; exact h5) hN2 (by decide)) ?_
      refine b_eq (b_iret (dd dtX11_houseTold 12 rfl) rfl) ?_ ?_
      · (try clear hN); simp [inR, vHouseTold, -Int32.not_lt, -Int32.not_le, *]
      · (try clear hN); simp [inR, vHouseTold, -Int32.not_lt, -Int32.not_le, *]
    · refine b_aload_n (pc := 55) (i := 0) (dd dtX11_houseTold 13 rfl) rfl rfl ?_
      refine b_geta (pc := 56) (dd dtX11_houseTold 14 rfl) fwX11_60 pM_0 rM_0_15 ?_
      refine b_iload_n (pc := 59) (i := 1) (dd dtX11_houseTold 15 rfl) rfl rfl ?_
      refine b_iald (pc := 60) (dd dtX11_houseTold 16 rfl) pM_11 (vpm (by rw [hN] at h5; exact h5) hN2 (by decide)) ?_
      refine b_eq (b_iret (dd dtX11_houseTold 17 rfl) rfl) ?_ ?_
      · (try clear hN); simp [inR, vHouseTold, -Int32.not_lt, -Int32.not_le, *]
      · (try clear hN); simp [inR, vHouseTold, -Int32.not_lt, -Int32.not_le, *]
    · refine b_aload_n (pc := 62) (i := 0) (dd dtX11_houseTold 18 rfl) rfl rfl ?_
      refine b_geta (pc := 63) (dd dtX11_houseTold 19 rfl) fwX11_63 pM_0 rM_0_16 ?_
      refine b_iload_n (pc := 66) (i := 1) (dd dtX11_houseTold 20 rfl) rfl rfl ?_
      refine b_iald (pc := 67) (dd dtX11_houseTold 21 rfl) pM_12 (vpm (by rw [hN] at h5; exact h5) hN2 (by decide)) ?_
      refine b_eq (b_iret (dd dtX11_houseTold 22 rfl) rfl) ?_ ?_
      · (try clear hN); simp [inR, vHouseTold, -Int32.not_lt, -Int32.not_le, *]
      · (try clear hN); simp [inR, vHouseTold, -Int32.not_lt, -Int32.not_le, *]
    · refine b_aload_n (pc := 69) (i := 0) (dd dtX11_houseTold 23 rfl) rfl rfl ?_
      refine b_geta (pc := 70) (dd dtX11_houseTold 24 rfl) fwX11_66 pM_0 rM_0_17 ?_
      refine b_iload_n (pc := 73) (i := 1) (dd dtX11_houseTold 25 rfl) rfl rfl ?_
      refine b_iald (pc := 74) (dd dtX11_houseTold 26 rfl) pM_13 (vpm (by rw [hN] at h5; exact h5) hN2 (by decide)) ?_
      refine b_eq (b_iret (dd dtX11_houseTold 27 rfl) rfl) ?_ ?_
      · (try clear hN); simp [inR, vHouseTold, -Int32.not_lt, -Int32.not_le, *]
      · (try clear hN); simp [inR, vHouseTold, -Int32.not_lt, -Int32.not_le, *]
    · refine b_aload_n (pc := 76) (i := 0) (dd dtX11_houseTold 28 rfl) rfl rfl ?_
      refine b_geta (pc := 77) (dd dtX11_houseTold 29 rfl) fwX11_75 pM_0 rM_0_20 ?_
      refine b_iload_n (pc := 80) (i := 1) (dd dtX11_houseTold 30 rfl) rfl rfl ?_
      refine b_zald (pc := 81) (dd dtX11_houseTold 31 rfl) pM_16 (vpm (by rw [hN] at h5; exact h5) hN2 (by decide)) ?_
      refine b_if_eq (pc := 82) (tgt := 89) (dd dtX11_houseTold 32 rfl) (by decide) (fun h82 => ?_) (fun h82 => ?_)
      · refine b_ic0 (pc := 89) (dd dtX11_houseTold 35 rfl) ?_
        refine b_eq (b_iret (dd dtX11_houseTold 36 rfl) rfl) ?_ ?_
        · (try clear hN); simp [inR, vHouseTold, -Int32.not_lt, -Int32.not_le, *]
        · (try clear hN); simp [inR, vHouseTold, -Int32.not_lt, -Int32.not_le, *]
      · refine b_ic1 (pc := 85) (dd dtX11_houseTold 33 rfl) ?_
        refine b_goto (pc := 86) (tgt := 90) (dd dtX11_houseTold 34 rfl) (by decide) ?_
        refine b_eq (b_iret (dd dtX11_houseTold 36 rfl) rfl) ?_ ?_
        · (try clear hN); simp [inR, vHouseTold, -Int32.not_lt, -Int32.not_le, *]
        · (try clear hN); simp [inR, vHouseTold, -Int32.not_lt, -Int32.not_le, *]
    · refine b_bipush (pc := 91) (v := -7) (dd dtX11_houseTold 37 rfl) (by decide) ?_
      refine b_eq (b_iret (dd dtX11_houseTold 38 rfl) rfl) ?_ ?_
      · (try clear hN); simp [inR, vHouseTold, -Int32.not_lt, -Int32.not_le, *]
      · (try clear hN); simp [inR, vHouseTold, -Int32.not_lt, -Int32.not_le, *]
  · refine b_bipush (pc := 8) (v := -5) (dd dtX11_houseTold 4 rfl) (by decide) ?_
    refine b_eq (b_iret (dd dtX11_houseTold 5 rfl) rfl) ?_ ?_
    · (try clear hN); simp [inR, vHouseTold, -Int32.not_lt, -Int32.not_le, *]
    · (try clear hN); simp [inR, vHouseTold, -Int32.not_lt, -Int32.not_le, *]
def sCf (fell : Nat → Int32) : Nat → Int32
  | 0 => 0
  | n + 1 => sCf fell n + (if fell n < 0 then 0 else 1)
def tX11_cellsFallen : List (Nat × Instr × Nat) := [(0, .iconst 0, 1), (1, .istore_n 1, 1), (2, .iconst 0, 1), (3, .istore_n 2, 1), (4, .iload_n 2, 1), (5, .bipush 64, 2), (7, .if_icmp .ge 26, 3), (10, .iload_n 1, 1), (11, .aload_n 0, 1), (12, .getfield 39, 3), (15, .iload_n 2, 1), (16, .iaload, 1), (17, .ifCond .lt 7, 3), (20, .iconst 1, 1), (21, .goto 4, 3), (24, .iconst 0, 1), (25, .iadd, 1), (26, .istore_n 1, 1), (27, .iinc 2 1, 3), (30, .goto (-26), 3), (33, .iload_n 1, 1), (34, .ireturn, 1)]
theorem dtX11_cellsFallen : dec_ok mX11_cellsFallen.2.1 tX11_cellsFallen = true := by decide +kernel
set_option maxHeartbeats 4000000 in
theorem l_X11_cellsFallen {I : Wd} : ∀ (n h : Nat) (x2 : Int32) (x1 : Int32), h ≤ 64 → 64 < h + n → x2 = nI h → x1 = sCf (I 4) h → Bd SyM mX11_cellsFallen 0 4 [(2, .int x2), (1, .int x1), (0, .ref 0)] [] I (some (.int (sCf (I 4) 64))) I := by
  intro n
  induction n with
  | zero => intro h x2 x1 h1 h2; omega
  | succ n ih =>
    intro h x2 x1 h1 h2 e2 e1
    subst e2; subst e1
    refine b_iload_n (pc := 4) (i := 2) (dd dtX11_cellsFallen 4 rfl) rfl rfl ?_
    refine b_bipush (pc := 5) (v := 64) (dd dtX11_cellsFallen 5 rfl) (by decide) ?_
    refine b_icmpL_ge (pc := 7) (tgt := 33) (dd dtX11_cellsFallen 6 rfl) (by decide) (fun h7 => ?_) (fun h7 => ?_)
    · rw [show (64 : Int32) = nI 64 from rfl] at h7
      have he : h = 64 := Nat.le_antisymm h1 (ge_n h7 (by omega))
      subst he
      refine b_iload_n (pc := 33) (i := 1) (dd dtX11_cellsFallen 20 rfl) rfl rfl ?_
      exact b_eq (b_iret (dd dtX11_cellsFallen 21 rfl) rfl) rfl rfl
    · rw [show (64 : Int32) = nI 64 from rfl] at h7
      have hlt : h < 64 := lt_n h7 (by omega) (by omega)
      refine b_iload_n (pc := 10) (i := 1) (dd dtX11_cellsFallen 7 rfl) rfl rfl ?_
      refine b_aload_n (pc := 11) (i := 0) (dd dtX11_cellsFallen 8 rfl) rfl rfl ?_
      refine b_geta (pc := 12) (dd dtX11_cellsFallen 9 rfl) fwX11_39 pM_0 rM_0_8 ?_
      refine b_iload_n (pc := 15) (i := 2) (dd dtX11_cellsFallen 10 rfl) rfl rfl ?_
      refine b_iald (pc := 16) (dd dtX11_cellsFallen 11 rfl) pM_4 (vpn rfl (show h < 64 by omega) (by decide)) ?_
      refine b_if_lt (pc := 17) (tgt := 24) (dd dtX11_cellsFallen 12 rfl) (by decide) (fun h17 => ?_) (fun h17 => ?_)
      · refine b_ic0 (pc := 24) (dd dtX11_cellsFallen 15 rfl) ?_
        refine b_iadd (pc := 25) (dd dtX11_cellsFallen 16 rfl) ?_
        refine b_istore_n (pc := 26) (i := 1) (lv' := [(1, _), (2, _), (0, _)]) (dd dtX11_cellsFallen 17 rfl) rfl (Nat.le_of_ble_eq_true rfl) rfl ?_
        refine b_iinc1 (pc := 27) (i := 2) (lv' := [(2, _), (1, _), (0, _)]) (dd dtX11_cellsFallen 18 rfl) rfl (Nat.le_of_ble_eq_true rfl) rfl ?_
        refine b_goto (pc := 30) (tgt := 4) (dd dtX11_cellsFallen 19 rfl) (by decide) ?_
        rw [nI_1]
        refine ih (h + 1) _ _ hlt (by omega) rfl ?_
        · simp only [nI_clamp (show h < 2 ^ 31 by omega)] at h17
          simp only [sCf]
          first | rw [if_pos h17] | rw [if_neg h17]
      · refine b_ic1 (pc := 20) (dd dtX11_cellsFallen 13 rfl) ?_
        refine b_goto (pc := 21) (tgt := 25) (dd dtX11_cellsFallen 14 rfl) (by decide) ?_
        refine b_iadd (pc := 25) (dd dtX11_cellsFallen 16 rfl) ?_
        refine b_istore_n (pc := 26) (i := 1) (lv' := [(1, _), (2, _), (0, _)]) (dd dtX11_cellsFallen 17 rfl) rfl (Nat.le_of_ble_eq_true rfl) rfl ?_
        refine b_iinc1 (pc := 27) (i := 2) (lv' := [(2, _), (1, _), (0, _)]) (dd dtX11_cellsFallen 18 rfl) rfl (Nat.le_of_ble_eq_true rfl) rfl ?_
        refine b_goto (pc := 30) (tgt := 4) (dd dtX11_cellsFallen 19 rfl) (by decide) ?_
        rw [nI_1]
        refine ih (h + 1) _ _ hlt (by omega) rfl ?_
        · simp only [nI_clamp (show h < 2 ^ 31 by omega)] at h17
          simp only [sCf]
          first | rw [if_pos h17] | rw [if_neg h17]
set_option maxHeartbeats 4000000 in
theorem c_X11_cellsFallen {I : Wd} : Cal SyM mX11_cellsFallen 0 [.ref 0] I (some (.int (sCf (I 4) 64))) I := by
  refine Cal.of (by decide) (Nat.le_of_ble_eq_true rfl) ?_
  show Bd _ _ _ _ [(0, _)] _ _ _ _
  refine b_ic0 (pc := 0) (dd dtX11_cellsFallen 0 rfl) ?_
  refine b_istore_n (pc := 1) (i := 1) (lv' := [(1, _), (0, _)]) (dd dtX11_cellsFallen 1 rfl) rfl (Nat.le_of_ble_eq_true rfl) rfl ?_
  refine b_ic0 (pc := 2) (dd dtX11_cellsFallen 2 rfl) ?_
  refine b_istore_n (pc := 3) (i := 2) (lv' := [(2, _), (1, _), (0, _)]) (dd dtX11_cellsFallen 3 rfl) rfl (Nat.le_of_ble_eq_true rfl) rfl ?_
  exact l_X11_cellsFallen 65 0 _ _ (Nat.zero_le _) (by omega) rfl rfl
def tX11_count : List (Nat × Instr × Nat) := [(0, .iload_n 1, 1), (1, .tableswitch 123 0 11 #[63, 68, 73, 78, 83, 88, 93, 98, 103, 108, 113, 118], 63), (64, .aload_n 0, 1), (65, .getfield 13, 3), (68, .ireturn, 1), (69, .aload_n 0, 1), (70, .getfield 79, 3), (73, .ireturn, 1), (74, .aload_n 0, 1), (75, .getfield 23, 3), (78, .ireturn, 1), (79, .aload_n 0, 1), (80, .getfield 26, 3), (83, .ireturn, 1), (84, .aload_n 0, 1), (85, .invokevirtual 411, 3), (88, .ireturn, 1), (89, .aload_n 0, 1), (90, .getfield 20, 3), (93, .ireturn, 1), (94, .aload_n 0, 1), (95, .getfield 212, 3), (98, .ireturn, 1), (99, .aload_n 0, 1), (100, .getfield 152, 3), (103, .ireturn, 1), (104, .aload_n 0, 1), (105, .getfield 155, 3), (108, .ireturn, 1), (109, .aload_n 0, 1), (110, .getfield 158, 3), (113, .ireturn, 1), (114, .aload_n 0, 1), (115, .getfield 106, 3), (118, .ireturn, 1), (119, .aload_n 0, 1), (120, .getfield 17, 3), (123, .ireturn, 1), (124, .bipush (-2), 2), (126, .ireturn, 1)]
theorem dtX11_count : dec_ok mX11_count.2.1 tX11_count = true := by decide +kernel
set_option maxHeartbeats 4000000 in
theorem c_X11_count {I : Wd} {what : Int32} : Cal SyM mX11_count 1 [.ref 0, .int what] I (some (.int (vCount (I 0 0) (I 0 21) (I 0 3) (I 0 4) (sCf (I 4) 64) (I 0 2) (I 0 65) (I 0 45) (I 0 46) (I 0 47) (I 0 30) (I 0 1) what))) I := by
  refine Cal.of (by decide) (Nat.le_of_ble_eq_true rfl) ?_
  show Bd _ _ _ _ [(0, _), (1, _)] _ _ _ _
  refine b_iload_n (pc := 0) (i := 1) (dd dtX11_count 0 rfl) rfl rfl ?_
  refine b_tsw (pc := 1) (ts := [(0, 64), (1, 69), (2, 74), (3, 79), (4, 84), (5, 89), (6, 94), (7, 99), (8, 104), (9, 109), (10, 114), (11, 119)]) (dfl := 124) (dd dtX11_count 1 rfl) (by decide +kernel) ⟨fun h1 => ?_, fun h1_0 => ⟨fun h1 => ?_, fun h1_1 => ⟨fun h1 => ?_, fun h1_2 => ⟨fun h1 => ?_, fun h1_3 => ⟨fun h1 => ?_, fun h1_4 => ⟨fun h1 => ?_, fun h1_5 => ⟨fun h1 => ?_, fun h1_6 => ⟨fun h1 => ?_, fun h1_7 => ⟨fun h1 => ?_, fun h1_8 => ⟨fun h1 => ?_, fun h1_9 => ⟨fun h1 => ?_, fun h1_10 => ⟨fun h1 => ?_, fun h1_11 => ?_⟩⟩⟩⟩⟩⟩⟩⟩⟩⟩⟩⟩
  · refine b_aload_n (pc := 64) (i := 0) (dd dtX11_count 2 rfl) rfl rfl ?_
    refine b_geti (pc := 65) (dd dtX11_count 3 rfl) fwX11_13 pM_0 ?_
    refine b_eq (b_iret (dd dtX11_count 4 rfl) rfl) ?_ ?_
    · (try clear hN); simp [inR, vCount, -Int32.not_lt, -Int32.not_le, *]
    · (try clear hN); simp [inR, vCount, -Int32.not_lt, -Int32.not_le, *]
  · refine b_aload_n (pc := 69) (i := 0) (dd dtX11_count 5 rfl) rfl rfl ?_
    refine b_geti (pc := 70) (dd dtX11_count 6 rfl) fwX11_79 pM_0 ?_
    refine b_eq (b_iret (dd dtX11_count 7 rfl) rfl) ?_ ?_
    · (try clear hN); simp [inR, vCount, -Int32.not_lt, -Int32.not_le, *]
    · (try clear hN); simp [inR, vCount, -Int32.not_lt, -Int32.not_le, *]
  · refine b_aload_n (pc := 74) (i := 0) (dd dtX11_count 8 rfl) rfl rfl ?_
    refine b_geti (pc := 75) (dd dtX11_count 9 rfl) fwX11_23 pM_0 ?_
    refine b_eq (b_iret (dd dtX11_count 10 rfl) rfl) ?_ ?_
    · (try clear hN); simp [inR, vCount, -Int32.not_lt, -Int32.not_le, *]
    · (try clear hN); simp [inR, vCount, -Int32.not_lt, -Int32.not_le, *]
  · refine b_aload_n (pc := 79) (i := 0) (dd dtX11_count 11 rfl) rfl rfl ?_
    refine b_geti (pc := 80) (dd dtX11_count 12 rfl) fwX11_26 pM_0 ?_
    refine b_eq (b_iret (dd dtX11_count 13 rfl) rfl) ?_ ?_
    · (try clear hN); simp [inR, vCount, -Int32.not_lt, -Int32.not_le, *]
    · (try clear hN); simp [inR, vCount, -Int32.not_lt, -Int32.not_le, *]
  · refine b_aload_n (pc := 84) (i := 0) (dd dtX11_count 14 rfl) rfl rfl ?_
    refine b_invV (pc := 85) (dd dtX11_count 15 rfl) mlX11_411 mvX11_cellsFallen miX11_cellsFallen (c_X11_cellsFallen) oM_0 rfl rfl (by decide) (Nat.le_of_ble_eq_true rfl) ?_
    refine b_eq (b_iret (dd dtX11_count 16 rfl) rfl) ?_ ?_
    · (try clear hN); simp [inR, vCount, -Int32.not_lt, -Int32.not_le, *]
    · (try clear hN); simp [inR, vCount, -Int32.not_lt, -Int32.not_le, *]
  · refine b_aload_n (pc := 89) (i := 0) (dd dtX11_count 17 rfl) rfl rfl ?_
    refine b_geti (pc := 90) (dd dtX11_count 18 rfl) fwX11_20 pM_0 ?_
    refine b_eq (b_iret (dd dtX11_count 19 rfl) rfl) ?_ ?_
    · (try clear hN); simp [inR, vCount, -Int32.not_lt, -Int32.not_le, *]
    · (try clear hN); simp [inR, vCount, -Int32.not_lt, -Int32.not_le, *]
  · refine b_aload_n (pc := 94) (i := 0) (dd dtX11_count 20 rfl) rfl rfl ?_
    refine b_geti (pc := 95) (dd dtX11_count 21 rfl) fwX11_212 pM_0 ?_
    refine b_eq (b_iret (dd dtX11_count 22 rfl) rfl) ?_ ?_
    · (try clear hN); simp [inR, vCount, -Int32.not_lt, -Int32.not_le, *]
    · (try clear hN); simp [inR, vCount, -Int32.not_lt, -Int32.not_le, *]
  · refine b_aload_n (pc := 99) (i := 0) (dd dtX11_count 23 rfl) rfl rfl ?_
    refine b_geti (pc := 100) (dd dtX11_count 24 rfl) fwX11_152 pM_0 ?_
    refine b_eq (b_iret (dd dtX11_count 25 rfl) rfl) ?_ ?_
    · (try clear hN); simp [inR, vCount, -Int32.not_lt, -Int32.not_le, *]
    · (try clear hN); simp [inR, vCount, -Int32.not_lt, -Int32.not_le, *]
  · refine b_aload_n (pc := 104) (i := 0) (dd dtX11_count 26 rfl) rfl rfl ?_
    refine b_geti (pc := 105) (dd dtX11_count 27 rfl) fwX11_155 pM_0 ?_
    refine b_eq (b_iret (dd dtX11_count 28 rfl) rfl) ?_ ?_
    · (try clear hN); simp [inR, vCount, -Int32.not_lt, -Int32.not_le, *]
    · (try clear hN); simp [inR, vCount, -Int32.not_lt, -Int32.not_le, *]
  · refine b_aload_n (pc := 109) (i := 0) (dd dtX11_count 29 rfl) rfl rfl ?_
    refine b_geti (pc := 110) (dd dtX11_count 30 rfl) fwX11_158 pM_0 ?_
    refine b_eq (b_iret (dd dtX11_count 31 rfl) rfl) ?_ ?_
    · (try clear hN); simp [inR, vCount, -Int32.not_lt, -Int32.not_le, *]
    · (try clear hN); simp [inR, vCount, -Int32.not_lt, -Int32.not_le, *]
  · refine b_aload_n (pc := 114) (i := 0) (dd dtX11_count 32 rfl) rfl rfl ?_
    refine b_geti (pc := 115) (dd dtX11_count 33 rfl) fwX11_106 pM_0 ?_
    refine b_eq (b_iret (dd dtX11_count 34 rfl) rfl) ?_ ?_
    · (try clear hN); simp [inR, vCount, -Int32.not_lt, -Int32.not_le, *]
    · (try clear hN); simp [inR, vCount, -Int32.not_lt, -Int32.not_le, *]
  · refine b_aload_n (pc := 119) (i := 0) (dd dtX11_count 35 rfl) rfl rfl ?_
    refine b_geti (pc := 120) (dd dtX11_count 36 rfl) fwX11_17 pM_0 ?_
    refine b_eq (b_iret (dd dtX11_count 37 rfl) rfl) ?_ ?_
    · (try clear hN); simp [inR, vCount, -Int32.not_lt, -Int32.not_le, *]
    · (try clear hN); simp [inR, vCount, -Int32.not_lt, -Int32.not_le, *]
  · refine b_bipush (pc := 124) (v := -2) (dd dtX11_count 38 rfl) (by decide) ?_
    refine b_eq (b_iret (dd dtX11_count 39 rfl) rfl) ?_ ?_
    · (try clear hN); simp [inR, vCount, -Int32.not_lt, -Int32.not_le, *]
    · (try clear hN); simp [inR, vCount, -Int32.not_lt, -Int32.not_le, *]
def dbM (I : Wd) (K : Nat) (c known : Int32) : Int32 := (if mLo (I 17) (I 18) (I 19) (sVal (I 22) (I 21) (I 20) known) c known 0 K < mHi (I 17) (I 18) (I 19) (sVal (I 22) (I 21) (I 20) known) c known 0 K then mHi (I 17) (I 18) (I 19) (sVal (I 22) (I 21) (I 20) known) c known 0 K - mLo (I 17) (I 18) (I 19) (sVal (I 22) (I 21) (I 20) known) c known 0 K else 0)
def tX11_doubtOf : List (Nat × Instr × Nat) := [(0, .aload_n 0, 1), (1, .iload_n 1, 1), (2, .iload_n 2, 1), (3, .iconst 0, 1), (4, .invokevirtual 289, 3), (7, .aload_n 0, 1), (8, .getfield 103, 3), (11, .aload_n 0, 1), (12, .getfield 100, 3), (15, .if_icmp .le 15, 3), (18, .aload_n 0, 1), (19, .getfield 103, 3), (22, .aload_n 0, 1), (23, .getfield 100, 3), (26, .isub, 1), (27, .goto 4, 3), (30, .iconst 0, 1), (31, .ireturn, 1)]
theorem dtX11_doubtOf : dec_ok mX11_doubtOf.2.1 tX11_doubtOf = true := by decide +kernel
set_option maxHeartbeats 4000000 in
theorem c_X11_doubtOf {I : Wd} {K : Nat} {c known : Int32} (hN : I 0 21 = nI K) (hN2 : K ≤ 30) : Cal SyM mX11_doubtOf 3 [.ref 0, .int c, .int known] I (some (.int (dbM I K c known))) (spanW I K c known 0) := by
  refine Cal.of (by decide) (Nat.le_of_ble_eq_true rfl) ?_
  show Bd _ _ _ _ [(0, _), (1, _), (2, _)] _ _ _ _
  refine b_aload_n (pc := 0) (i := 0) (dd dtX11_doubtOf 0 rfl) rfl rfl ?_
  refine b_iload_n (pc := 1) (i := 1) (dd dtX11_doubtOf 1 rfl) rfl rfl ?_
  refine b_iload_n (pc := 2) (i := 2) (dd dtX11_doubtOf 2 rfl) rfl rfl ?_
  refine b_ic0 (pc := 3) (dd dtX11_doubtOf 3 rfl) ?_
  refine b_invV (pc := 4) (dd dtX11_doubtOf 4 rfl) mlX11_289 mvX11_findSpan miX11_findSpan (c_findSpan hN hN2) oM_0 rfl rfl (by decide) (Nat.le_of_ble_eq_true rfl) ?_
  refine b_aload_n (pc := 7) (i := 0) (dd dtX11_doubtOf 5 rfl) rfl rfl ?_
  refine b_geti (pc := 8) (dd dtX11_doubtOf 6 rfl) fwX11_103 pM_0 ?_
  refine b_aload_n (pc := 11) (i := 0) (dd dtX11_doubtOf 7 rfl) rfl rfl ?_
  refine b_geti (pc := 12) (dd dtX11_doubtOf 8 rfl) fwX11_100 pM_0 ?_
  rw [spanW_28, spanW_29]
  refine b_icmpL_le (pc := 15) (tgt := 30) (dd dtX11_doubtOf 9 rfl) (by decide) (fun h15 => ?_) (fun h15 => ?_)
  · refine b_ic0 (pc := 30) (dd dtX11_doubtOf 16 rfl) ?_
    refine b_eq (b_iret (dd dtX11_doubtOf 17 rfl) rfl) ?_ ?_
    · (try clear hN); simp [dbM, spanW_28, spanW_29, -Int32.not_lt, -Int32.not_le, *]
    · rfl
  · refine b_aload_n (pc := 18) (i := 0) (dd dtX11_doubtOf 10 rfl) rfl rfl ?_
    refine b_geti (pc := 19) (dd dtX11_doubtOf 11 rfl) fwX11_103 pM_0 ?_
    refine b_aload_n (pc := 22) (i := 0) (dd dtX11_doubtOf 12 rfl) rfl rfl ?_
    refine b_geti (pc := 23) (dd dtX11_doubtOf 13 rfl) fwX11_100 pM_0 ?_
    refine b_isub (pc := 26) (dd dtX11_doubtOf 14 rfl) ?_
    refine b_goto (pc := 27) (tgt := 31) (dd dtX11_doubtOf 15 rfl) (by decide) ?_
    refine b_eq (b_iret (dd dtX11_doubtOf 17 rfl) rfl) ?_ ?_
    · (try clear hN); simp [dbM, spanW_28, spanW_29, -Int32.not_lt, -Int32.not_le, *]
    · rfl
abbrev msP (fell wc wm : Nat → Int32) (m : Int32) (c n : Nat) : Prop := ¬ fell c < 0 ∧ ∀ w, w < n → ¬ (wc w = nI c ∧ cT fell wc wm m w)
def mMs (fell wc wm : Nat → Int32) (m : Int32) (Wn : Nat) : Nat → Int32
  | 0 => 0
  | c + 1 => mMs fell wc wm m Wn c + (if msP fell wc wm m c Wn then 1 else 0)
def tX11_warned : List (Nat × Instr × Nat) := [(0, .aload_n 0, 1), (1, .iload_n 1, 1), (2, .iconst 1, 1), (3, .bipush 60, 2), (5, .invokevirtual 1, 3), (8, .ifCond .eq 13, 3), (11, .aload_n 0, 1), (12, .iload_n 2, 1), (13, .iconst 0, 1), (14, .iconst 2, 1), (15, .invokevirtual 1, 3), (18, .ifCond .ne 6, 3), (21, .bipush (-2), 2), (23, .ireturn, 1), (24, .iconst 0, 1), (25, .istore_n 3, 1), (26, .iconst 0, 1), (27, .istore 4, 2), (29, .iload 4, 2), (31, .aload_n 0, 1), (32, .getfield 212, 3), (35, .if_icmp .ge 65, 3), (38, .iload_n 2, 1), (39, .iconst 1, 1), (40, .if_icmp .eq 60, 3), (43, .iload_n 3, 1), (44, .iload_n 2, 1), (45, .ifCond .ne 16, 3), (48, .aload_n 0, 1), (49, .iload 4, 2), (51, .iload_n 1, 1), (52, .invokevirtual 408, 3), (55, .ifCond .eq 36, 3), (58, .goto 29, 3), (61, .aload_n 0, 1), (62, .iload 4, 2), (64, .iload_n 1, 1), (65, .invokevirtual 408, 3), (68, .ifCond .ne 23, 3), (71, .aload_n 0, 1), (72, .getfield 13, 3), (75, .aload_n 0, 1), (76, .getfield 218, 3), (79, .iload 4, 2), (81, .iaload, 1), (82, .isub, 1), (83, .iload_n 1, 1), (84, .if_icmp .le 7, 3), (87, .iconst 1, 1), (88, .goto 4, 3), (91, .iconst 0, 1), (92, .iadd, 1), (93, .istore_n 3, 1), (94, .iinc 4 1, 3), (97, .goto (-68), 3), (100, .iconst 0, 1), (101, .istore 4, 2), (103, .iload 4, 2), (105, .bipush 64, 2), (107, .if_icmp .ge 96, 3), (110, .iload_n 2, 1), (111, .iconst 1, 1), (112, .if_icmp .ne 91, 3), (115, .aload_n 0, 1), (116, .getfield 39, 3), (119, .iload 4, 2), (121, .iaload, 1), (122, .ifCond .lt 7, 3), (125, .iconst 1, 1), (126, .goto 4, 3), (129, .iconst 0, 1), (130, .istore 5, 2), (132, .iconst 0, 1), (133, .istore 6, 2), (135, .iload 6, 2), (137, .aload_n 0, 1), (138, .getfield 212, 3), (141, .if_icmp .ge 43, 3), (144, .iload 5, 2), (146, .ifCond .eq 29, 3), (149, .aload_n 0, 1), (150, .getfield 215, 3), (153, .iload 6, 2), (155, .iaload, 1), (156, .iload 4, 2), (158, .if_icmp .ne 13, 3), (161, .aload_n 0, 1), (162, .iload 6, 2), (164, .iload_n 1, 1), (165, .invokevirtual 408, 3), (168, .ifCond .ne 7, 3), (171, .iconst 1, 1), (172, .goto 4, 3), (175, .iconst 0, 1), (176, .istore 5, 2), (178, .iinc 6 1, 3), (181, .goto (-46), 3), (184, .iload_n 3, 1), (185, .iload 5, 2), (187, .ifCond .eq 7, 3), (190, .iconst 1, 1), (191, .goto 4, 3), (194, .iconst 0, 1), (195, .iadd, 1), (196, .istore_n 3, 1), (197, .iinc 4 1, 3), (200, .goto (-97), 3), (203, .iload_n 3, 1), (204, .ireturn, 1)]
theorem dtX11_warned : dec_ok mX11_warned.2.1 tX11_warned = true := by decide +kernel
