theorem nI_rng2 {x lo m : Int32} (h : inR x lo m) (h0 : 0 ≤ lo.toInt) : ∃ j : Nat, x = nI j ∧ lo.toInt ≤ j ∧ (j : Int) ≤ m.toInt ∧ j < 2 ^ 31 ∧ x.toNatClampNeg = j := by
  obtain ⟨h1, h2⟩ := h
  rw [Int32.lt_iff_toInt_lt] at h1 h2
  have h3 : ¬ x < 0 := by rw [Int32.lt_iff_toInt_lt]; have e0 : (0 : Int32).toInt = 0 := rfl; omega
  obtain ⟨j, hj, e⟩ := nI_of h3
  refine ⟨j, e, ?_, ?_, hj, by rw [e]; exact nI_clamp hj⟩
  · rw [e, nI_toInt hj] at h1; omega
  · rw [e, nI_toInt hj] at h2; omega
theorem mon60 {n : Int32} (h : inR n 1 60) : n = nI n.toNatClampNeg ∧ n.toNatClampNeg < 2 ^ 31 := by
  obtain ⟨j, e, -, -, h3, h4⟩ := nI_rng2 h (by decide)
  rw [h4]; exact ⟨e, h3⟩
theorem c_pass {I : Wd} {g N P : Nat} (hg : isG g) (hF : FG g I N P) {n : Int32} (h : inR n 1 60) : Cal SyC mX2_passMonths 4 [.ref g, .int n] I none (monthsW g N P I n.toNatClampNeg) := by
  obtain ⟨j, e, -, -, h3, h4⟩ := nI_rng2 h (by decide)
  subst e
  rw [h4]
  exact c_X2_passMonths hg hF h3
theorem ist_ist {I : Wd} {k j : Nat} {a b : Int32} : ist (ist I k j a) k j b = ist I k j b := by
  unfold ist; rw [rset_rset, rset_eq]; congr 1; funext i; unfold upd; split <;> rfl
def vRun (month n new : Int32) : Int32 := if inR n 1 60 then (if ¬ 1200 - month < n then new else -4) else -2
abbrev okBeside (month np n p u what : Int32) : Prop := (inR n 1 60 ∧ inR p (-1) (np - 1)) ∧ inR u 0 50 ∧ inR what 0 2 ∧ ¬ 1200 - month < n
def besideW (N P : Nat) (I : Wd) (n p u : Int32) : Wd := monthsW 18 N P (if p < 0 then becomeW 18 6 I else ist (becomeW 18 6 I) 25 p.toNatClampNeg u) n.toNatClampNeg
def vBeside (month np n p u what f h m : Int32) : Int64 := if okBeside month np n p u what then (if what = 0 then f.toInt64 else if what = 1 then h.toInt64 else m.toInt64) else -4611686018427387904
theorem becomeW_fr {g k : Nat} {I : Wd} {a : Nat} (h : a < g ∨ g + 9 < a) : becomeW g k I a = I a := by
  unfold becomeW; simp (disch := omega) only [rset_ne, ist_ne]
def tX10_run : List (Nat × Instr × Nat) := [(0, .iload_n 1, 1), (1, .iconst 1, 1), (2, .bipush 60, 2), (4, .invokestatic 97, 3), (7, .ifCond .ne 6, 3), (10, .bipush (-2), 2), (12, .ireturn, 1), (13, .aload_n 0, 1), (14, .iload_n 1, 1), (15, .invokevirtual 144, 3), (18, .ifCond .ne 6, 3), (21, .bipush (-4), 2), (23, .ireturn, 1), (24, .aload_n 0, 1), (25, .getfield 21, 3), (28, .iload_n 1, 1), (29, .invokevirtual 147, 3), (32, .aload_n 0, 1), (33, .getfield 21, 3), (36, .getfield 150, 3), (39, .ireturn, 1)]
theorem dtX10_run : dec_ok mX10_run.2.1 tX10_run = true := by decide +kernel
set_option maxHeartbeats 4000000 in
theorem c_X10_run {I : Wd} {N P : Nat} (hF : FG 6 I N P) {n : Int32} : Cal SyC mX10_run 5 [.ref 0, .int n] I (some (.int (vRun (I 6 1) n (monthsW 6 N P I n.toNatClampNeg 6 1)))) (if inR n 1 60 ∧ ¬ 1200 - I 6 1 < n then monthsW 6 N P I n.toNatClampNeg else I) := by
  refine Cal.of (by decide) (Nat.le_of_ble_eq_true rfl) ?_
  show Bd _ _ _ _ [(0, _), (1, _)] _ _ _ _
  refine b_iload_n (pc := 0) (i := 1) (dd dtX10_run 0 rfl) rfl rfl ?_
  refine b_ic1 (pc := 1) (dd dtX10_run 1 rfl) ?_
  refine b_bipush (pc := 2) (v := 60) (dd dtX10_run 2 rfl) (by decide) ?_
  refine b_invS (pc := 4) (dd dtX10_run 3 rfl) mlX10_97 mvX10_within msX10_within (c_X10_within) rfl rfl (by decide) (Nat.le_of_ble_eq_true rfl) ?_
  refine b_ifb_ne (pc := 7) (tgt := 13) (dd dtX10_run 4 rfl) (by decide) (fun h7 => ?_) (fun h7 => ?_)
  · refine b_aload_n (pc := 13) (i := 0) (dd dtX10_run 7 rfl) rfl rfl ?_
    refine b_iload_n (pc := 14) (i := 1) (dd dtX10_run 8 rfl) rfl rfl ?_
    refine b_invV (pc := 15) (dd dtX10_run 9 rfl) mlX10_144 mvX10_monthsAreLeft miX10_monthsAreLeft (c_X10_monthsAreLeft) oC_0 rfl rfl (by decide) (Nat.le_of_ble_eq_true rfl) ?_
    refine b_ifn_ne (pc := 18) (tgt := 24) (dd dtX10_run 10 rfl) (by decide) (fun h18 => ?_) (fun h18 => ?_)
    · refine b_aload_n (pc := 24) (i := 0) (dd dtX10_run 13 rfl) rfl rfl ?_
      refine b_geta (pc := 25) (dd dtX10_run 14 rfl) fwX10_21 pC_0 rC_0_1 ?_
      refine b_iload_n (pc := 28) (i := 1) (dd dtX10_run 15 rfl) rfl rfl ?_
      refine b_invV (pc := 29) (dd dtX10_run 16 rfl) mlX10_147 mvX2_passMonths miX2_passMonths (c_pass (Or.inl rfl) hF h7) oC_6 rfl rfl (by decide) (Nat.le_of_ble_eq_true rfl) ?_
      refine b_aload_n (pc := 32) (i := 0) (dd dtX10_run 17 rfl) rfl rfl ?_
      refine b_geta (pc := 33) (dd dtX10_run 18 rfl) fwX10_21 pC_0 rC_0_1 ?_
      refine b_geti (pc := 36) (dd dtX10_run 19 rfl) fwX10_150 pC_6 ?_
      refine b_eq (b_iret (dd dtX10_run 20 rfl) rfl) ?_ ?_
      · simp [inR, vRun, -Int32.not_lt, -Int32.not_le, *]
      · simp [inR, vRun, -Int32.not_lt, -Int32.not_le, *]
    · refine b_bipush (pc := 21) (v := -4) (dd dtX10_run 11 rfl) (by decide) ?_
      refine b_eq (b_iret (dd dtX10_run 12 rfl) rfl) ?_ ?_
      · simp [inR, vRun, -Int32.not_lt, -Int32.not_le, *]
      · simp [inR, vRun, -Int32.not_lt, -Int32.not_le, *]
  · refine b_bipush (pc := 10) (v := -2) (dd dtX10_run 5 rfl) (by decide) ?_
    refine b_eq (b_iret (dd dtX10_run 6 rfl) rfl) ?_ ?_
    · simp [inR, vRun, -Int32.not_lt, -Int32.not_le, *]
    · simp [inR, vRun, -Int32.not_lt, -Int32.not_le, *]
def tX10_image : List (Nat × Instr × Nat) := [(0, .aload_n 0, 1), (1, .getfield 28, 3), (4, .aload_n 0, 1), (5, .getfield 21, 3), (8, .invokevirtual 324, 3), (11, .aload_n 0, 1), (12, .iconst 1, 1), (13, .putfield 31, 3), (16, .aload_n 0, 1), (17, .getfield 21, 3), (20, .getfield 150, 3), (23, .ireturn, 1)]
theorem dtX10_image : dec_ok mX10_image.2.1 tX10_image = true := by decide +kernel
set_option maxHeartbeats 4000000 in
theorem c_X10_image {I : Wd} (hz : ∀ i, i < 14 → fits .boolean (.int (I 15 i)) = true) : Cal SyC mX10_image 2 [.ref 0] I (some (.int (I 6 1))) (ist (becomeW 30 6 I) 0 4 1) := by
  refine Cal.of (by decide) (Nat.le_of_ble_eq_true rfl) ?_
  show Bd _ _ _ _ [(0, _)] _ _ _ _
  refine b_aload_n (pc := 0) (i := 0) (dd dtX10_image 0 rfl) rfl rfl ?_
  refine b_geta (pc := 1) (dd dtX10_image 1 rfl) fwX10_28 pC_0 rC_0_3 ?_
  refine b_aload_n (pc := 4) (i := 0) (dd dtX10_image 2 rfl) rfl rfl ?_
  refine b_geta (pc := 5) (dd dtX10_image 3 rfl) fwX10_21 pC_0 rC_0_1 ?_
  refine b_invV (pc := 8) (dd dtX10_image 4 rfl) mlX10_324 mvX2_become miX2_become (c_X2_become (Or.inr (Or.inr rfl)) (Or.inl rfl) (by decide) hz) oC_30 rfl rfl (by decide) (Nat.le_of_ble_eq_true rfl) ?_
  refine b_aload_n (pc := 11) (i := 0) (dd dtX10_image 5 rfl) rfl rfl ?_
  refine b_ic1 (pc := 12) (dd dtX10_image 6 rfl) ?_
  refine b_put1 (pc := 13) (dd dtX10_image 7 rfl) fwX10_31 pC_0 ?_
  refine b_aload_n (pc := 16) (i := 0) (dd dtX10_image 8 rfl) rfl rfl ?_
  refine b_geta (pc := 17) (dd dtX10_image 9 rfl) fwX10_21 pC_0 rC_0_1 ?_
  refine b_geti (pc := 20) (dd dtX10_image 10 rfl) fwX10_150 pC_6 ?_
  refine b_eq (b_iret (dd dtX10_image 11 rfl) rfl) ?_ ?_
  · simp (disch := omega) only [ist_ne, becomeW_fr]
  · rfl
def tX10_back : List (Nat × Instr × Nat) := [(0, .aload_n 0, 1), (1, .getfield 31, 3), (4, .ifCond .ne 6, 3), (7, .bipush (-3), 2), (9, .ireturn, 1), (10, .aload_n 0, 1), (11, .getfield 21, 3), (14, .aload_n 0, 1), (15, .getfield 28, 3), (18, .invokevirtual 324, 3), (21, .aload_n 0, 1), (22, .getfield 21, 3), (25, .getfield 150, 3), (28, .ireturn, 1)]
theorem dtX10_back : dec_ok mX10_back.2.1 tX10_back = true := by decide +kernel
set_option maxHeartbeats 4000000 in
theorem c_X10_back {I : Wd} (hz : ∀ i, i < 14 → fits .boolean (.int (I 39 i)) = true) : Cal SyC mX10_back 2 [.ref 0] I (some (.int (if I 0 4 = 0 then -3 else I 30 1))) (if I 0 4 = 0 then I else becomeW 6 30 I) := by
  refine Cal.of (by decide) (Nat.le_of_ble_eq_true rfl) ?_
  show Bd _ _ _ _ [(0, _)] _ _ _ _
  refine b_aload_n (pc := 0) (i := 0) (dd dtX10_back 0 rfl) rfl rfl ?_
  refine b_geti (pc := 1) (dd dtX10_back 1 rfl) fwX10_31 pC_0 ?_
  refine b_if_ne (pc := 4) (tgt := 10) (dd dtX10_back 2 rfl) (by decide) (fun h4 => ?_) (fun h4 => ?_)
  · refine b_aload_n (pc := 10) (i := 0) (dd dtX10_back 5 rfl) rfl rfl ?_
    refine b_geta (pc := 11) (dd dtX10_back 6 rfl) fwX10_21 pC_0 rC_0_1 ?_
    refine b_aload_n (pc := 14) (i := 0) (dd dtX10_back 7 rfl) rfl rfl ?_
    refine b_geta (pc := 15) (dd dtX10_back 8 rfl) fwX10_28 pC_0 rC_0_3 ?_
    refine b_invV (pc := 18) (dd dtX10_back 9 rfl) mlX10_324 mvX2_become miX2_become (c_X2_become (Or.inl rfl) (Or.inr (Or.inr rfl)) (by decide) hz) oC_6 rfl rfl (by decide) (Nat.le_of_ble_eq_true rfl) ?_
    refine b_aload_n (pc := 21) (i := 0) (dd dtX10_back 10 rfl) rfl rfl ?_
    refine b_geta (pc := 22) (dd dtX10_back 11 rfl) fwX10_21 pC_0 rC_0_1 ?_
    refine b_geti (pc := 25) (dd dtX10_back 12 rfl) fwX10_150 pC_6 ?_
    refine b_eq (b_iret (dd dtX10_back 13 rfl) rfl) ?_ ?_
    · simp [becomeW, rset_ne, ist_ne, ist_eq, upd_ne, upd_eq, *]
    · simp [*]
  · refine b_bipush (pc := 7) (v := -3) (dd dtX10_back 3 rfl) (by decide) ?_
    refine b_eq (b_iret (dd dtX10_back 4 rfl) rfl) ?_ ?_
    · simp [becomeW, rset_ne, ist_ne, ist_eq, upd_ne, upd_eq, *]
    · simp [*]
def tX10_beside : List (Nat × Instr × Nat) := [(0, .iload_n 1, 1), (1, .iconst 1, 1), (2, .bipush 60, 2), (4, .invokestatic 97, 3), (7, .ifCond .eq 20, 3), (10, .iload_n 2, 1), (11, .iconst (-1), 1), (12, .aload_n 0, 1), (13, .getfield 10, 3), (16, .getfield 118, 3), (19, .iconst 1, 1), (20, .isub, 1), (21, .invokestatic 97, 3), (24, .ifCond .ne 7, 3), (27, .ldc2_w 256, 3), (30, .lreturn, 1), (31, .iload_n 3, 1), (32, .iconst 0, 1), (33, .bipush 50, 2), (35, .invokestatic 97, 3), (38, .ifCond .eq 21, 3), (41, .iload 4, 2), (43, .iconst 0, 1), (44, .iconst 2, 1), (45, .invokestatic 97, 3), (48, .ifCond .eq 11, 3), (51, .aload_n 0, 1), (52, .iload_n 1, 1), (53, .invokevirtual 144, 3), (56, .ifCond .ne 7, 3), (59, .ldc2_w 256, 3), (62, .lreturn, 1), (63, .aload_n 0, 1), (64, .getfield 25, 3), (67, .aload_n 0, 1), (68, .getfield 21, 3), (71, .invokevirtual 324, 3), (74, .iload_n 2, 1), (75, .ifCond .lt 13, 3), (78, .aload_n 0, 1), (79, .getfield 25, 3), (82, .getfield 125, 3), (85, .iload_n 2, 1), (86, .iload_n 3, 1), (87, .iastore, 1), (88, .aload_n 0, 1), (89, .getfield 25, 3), (92, .iload_n 1, 1), (93, .invokevirtual 147, 3), (96, .iload 4, 2), (98, .lookupswitch 60 #[(0, 26), (1, 43)], 26), (124, .aload_n 0, 1), (125, .getfield 25, 3), (128, .getfield 328, 3), (131, .aload_n 0, 1), (132, .getfield 21, 3), (135, .getfield 328, 3), (138, .isub, 1), (139, .i2l, 1), (140, .lreturn, 1), (141, .aload_n 0, 1), (142, .getfield 25, 3), (145, .getfield 331, 3), (148, .aload_n 0, 1), (149, .getfield 21, 3), (152, .getfield 331, 3), (155, .isub, 1), (156, .i2l, 1), (157, .lreturn, 1), (158, .aload_n 0, 1), (159, .getfield 25, 3), (162, .getfield 150, 3), (165, .i2l, 1), (166, .lreturn, 1)]
theorem dtX10_beside : dec_ok mX10_beside.2.1 tX10_beside = true := by decide +kernel
theorem inR_p {p : Int32} {I : Wd} {P : Nat} (h : inR p (-1) (I 1 1 - 1)) (h0 : ¬ p < 0) (hP : I 1 1 = nI P) (hP2 : P ≤ 6) : ∃ j : Nat, p = nI j ∧ j < P ∧ p.toNatClampNeg = j := by
  rw [hP] at h
  exact inR_n ⟨h0, h.2⟩ (by omega)
theorem FG.bes {I : Wd} {N P : Nat} (hF : FG 6 I N P) : FG 18 (becomeW 18 6 I) N P := by
  obtain ⟨h1, h2, h3, h4⟩ := hF
  refine ⟨?_, ?_, fun c hc => ?_, fun p hp => ?_⟩
  · rw [becomeW_fr (by omega)]; exact h1
  · rw [becomeW_fr (by omega)]; exact h2
  · have e : becomeW 18 6 I (18 + 1) = fil (I 7) (I 19) 64 := by unfold becomeW; simp (disch := omega) only [rset_ne, rset_eq]
    rw [e, fil_in hc]; exact h3 c hc
  · rw [becomeW_fr (by omega)]; exact h4 p hp
set_option maxHeartbeats 4000000 in
theorem c_X10_beside {I : Wd} {N P : Nat} (hF : FG 6 I N P) (hz : ∀ i, i < 14 → fits .boolean (.int (I 15 i)) = true) {n p u what : Int32} : Cal SyC mX10_beside 5 [.ref 0, .int n, .int p, .int u, .int what] I (some (.long (vBeside (I 6 1) (I 1 1) n p u what (besideW N P I n p u 18 3 - I 6 3) (besideW N P I n p u 18 4 - I 6 4) (besideW N P I n p u 18 1)))) (if okBeside (I 6 1) (I 1 1) n p u what then besideW N P I n p u else I) := by
  refine Cal.of (by decide) (Nat.le_of_ble_eq_true rfl) ?_
  show Bd _ _ _ _ [(0, _), (1, _), (2, _), (3, _), (4, _)] _ _ _ _
  refine b_iload_n (pc := 0) (i := 1) (dd dtX10_beside 0 rfl) rfl rfl ?_
  refine b_ic1 (pc := 1) (dd dtX10_beside 1 rfl) ?_
  refine b_bipush (pc := 2) (v := 60) (dd dtX10_beside 2 rfl) (by decide) ?_
  refine b_invS (pc := 4) (dd dtX10_beside 3 rfl) mlX10_97 mvX10_within msX10_within (c_X10_within) rfl rfl (by decide) (Nat.le_of_ble_eq_true rfl) ?_
  refine b_ifb_eq (pc := 7) (tgt := 27) (dd dtX10_beside 4 rfl) (by decide) (fun h7 => ?_) (fun h7 => ?_)
  · refine b_ldc2 (pc := 27) (dd dtX10_beside 14 rfl) kcX10_256 ?_
    refine b_eq (b_lret (dd dtX10_beside 15 rfl) rfl) ?_ ?_
    · simp [vBeside, okBeside, inR, besideW, -Int32.not_lt, -Int32.not_le, monthsW_fr, ist_ne, becomeW_fr, *]
    · simp [okBeside, inR, besideW, -Int32.not_lt, -Int32.not_le, *]
  · refine b_iload_n (pc := 10) (i := 2) (dd dtX10_beside 5 rfl) rfl rfl ?_
    refine b_icm1 (pc := 11) (dd dtX10_beside 6 rfl) ?_
    refine b_aload_n (pc := 12) (i := 0) (dd dtX10_beside 7 rfl) rfl rfl ?_
    refine b_geta (pc := 13) (dd dtX10_beside 8 rfl) fwX10_10 pC_0 rC_0_0 ?_
    refine b_geti (pc := 16) (dd dtX10_beside 9 rfl) fwX10_118 pC_1 ?_
    refine b_ic1 (pc := 19) (dd dtX10_beside 10 rfl) ?_
    refine b_isub (pc := 20) (dd dtX10_beside 11 rfl) ?_
    refine b_invS (pc := 21) (dd dtX10_beside 12 rfl) mlX10_97 mvX10_within msX10_within (c_X10_within) rfl rfl (by decide) (Nat.le_of_ble_eq_true rfl) ?_
    refine b_ifb_ne (pc := 24) (tgt := 31) (dd dtX10_beside 13 rfl) (by decide) (fun h24 => ?_) (fun h24 => ?_)
    · refine b_iload_n (pc := 31) (i := 3) (dd dtX10_beside 16 rfl) rfl rfl ?_
      refine b_ic0 (pc := 32) (dd dtX10_beside 17 rfl) ?_
      refine b_bipush (pc := 33) (v := 50) (dd dtX10_beside 18 rfl) (by decide) ?_
      refine b_invS (pc := 35) (dd dtX10_beside 19 rfl) mlX10_97 mvX10_within msX10_within (c_X10_within) rfl rfl (by decide) (Nat.le_of_ble_eq_true rfl) ?_
      refine b_ifb_eq (pc := 38) (tgt := 59) (dd dtX10_beside 20 rfl) (by decide) (fun h38 => ?_) (fun h38 => ?_)
      · refine b_ldc2 (pc := 59) (dd dtX10_beside 30 rfl) kcX10_256 ?_
        refine b_eq (b_lret (dd dtX10_beside 31 rfl) rfl) ?_ ?_
        · simp [vBeside, okBeside, inR, besideW, -Int32.not_lt, -Int32.not_le, monthsW_fr, ist_ne, becomeW_fr, *]
        · simp [okBeside, inR, besideW, -Int32.not_lt, -Int32.not_le, *]
      · refine b_iload (pc := 41) (i := 4) (dd dtX10_beside 21 rfl) rfl ?_
        refine b_ic0 (pc := 43) (dd dtX10_beside 22 rfl) ?_
        refine b_ic2 (pc := 44) (dd dtX10_beside 23 rfl) ?_
        refine b_invS (pc := 45) (dd dtX10_beside 24 rfl) mlX10_97 mvX10_within msX10_within (c_X10_within) rfl rfl (by decide) (Nat.le_of_ble_eq_true rfl) ?_
        refine b_ifb_eq (pc := 48) (tgt := 59) (dd dtX10_beside 25 rfl) (by decide) (fun h48 => ?_) (fun h48 => ?_)
        · refine b_ldc2 (pc := 59) (dd dtX10_beside 30 rfl) kcX10_256 ?_
          refine b_eq (b_lret (dd dtX10_beside 31 rfl) rfl) ?_ ?_
          · simp [vBeside, okBeside, inR, besideW, -Int32.not_lt, -Int32.not_le, monthsW_fr, ist_ne, becomeW_fr, *]
          · simp [okBeside, inR, besideW, -Int32.not_lt, -Int32.not_le, *]
        · refine b_aload_n (pc := 51) (i := 0) (dd dtX10_beside 26 rfl) rfl rfl ?_
          refine b_iload_n (pc := 52) (i := 1) (dd dtX10_beside 27 rfl) rfl rfl ?_
          refine b_invV (pc := 53) (dd dtX10_beside 28 rfl) mlX10_144 mvX10_monthsAreLeft miX10_monthsAreLeft (c_X10_monthsAreLeft) oC_0 rfl rfl (by decide) (Nat.le_of_ble_eq_true rfl) ?_
          refine b_ifn_ne (pc := 56) (tgt := 63) (dd dtX10_beside 29 rfl) (by decide) (fun h56 => ?_) (fun h56 => ?_)
          · refine b_aload_n (pc := 63) (i := 0) (dd dtX10_beside 32 rfl) rfl rfl ?_
            refine b_geta (pc := 64) (dd dtX10_beside 33 rfl) fwX10_25 pC_0 rC_0_2 ?_
            refine b_aload_n (pc := 67) (i := 0) (dd dtX10_beside 34 rfl) rfl rfl ?_
            refine b_geta (pc := 68) (dd dtX10_beside 35 rfl) fwX10_21 pC_0 rC_0_1 ?_
            refine b_invV (pc := 71) (dd dtX10_beside 36 rfl) mlX10_324 mvX2_become miX2_become (c_X2_become (Or.inr (Or.inl rfl)) (Or.inl rfl) (by decide) hz) oC_18 rfl rfl (by decide) (Nat.le_of_ble_eq_true rfl) ?_
            refine b_iload_n (pc := 74) (i := 2) (dd dtX10_beside 37 rfl) rfl rfl ?_
            refine b_if_lt (pc := 75) (tgt := 88) (dd dtX10_beside 38 rfl) (by decide) (fun h75 => ?_) (fun h75 => ?_)
            · refine b_aload_n (pc := 88) (i := 0) (dd dtX10_beside 45 rfl) rfl rfl ?_
              refine b_geta (pc := 89) (dd dtX10_beside 46 rfl) fwX10_25 pC_0 rC_0_2 ?_
              refine b_iload_n (pc := 92) (i := 1) (dd dtX10_beside 47 rfl) rfl rfl ?_
              refine b_invV (pc := 93) (dd dtX10_beside 48 rfl) mlX10_147 mvX2_passMonths miX2_passMonths (c_pass (Or.inr (Or.inl rfl)) (by first | exact FG.bes hF | exact (FG.bes hF).of (by simp (disch := omega) only [ist_ne]) (by simp (disch := omega) only [ist_ne]) (by simp (disch := omega) only [ist_ne])) h7) oC_18 rfl rfl (by decide) (Nat.le_of_ble_eq_true rfl) ?_
              refine b_iload (pc := 96) (i := 4) (dd dtX10_beside 49 rfl) rfl ?_
              refine b_lsw (pc := 98) (ts := [(0, 124), (1, 141)]) (dfl := 158) (dd dtX10_beside 50 rfl) (by decide +kernel) ⟨fun h98 => ?_, fun h98_0 => ⟨fun h98 => ?_, fun h98_1 => ?_⟩⟩
              · refine b_aload_n (pc := 124) (i := 0) (dd dtX10_beside 51 rfl) rfl rfl ?_
                refine b_geta (pc := 125) (dd dtX10_beside 52 rfl) fwX10_25 pC_0 rC_0_2 ?_
                refine b_geti (pc := 128) (dd dtX10_beside 53 rfl) fwX10_328 pC_18 ?_
                refine b_aload_n (pc := 131) (i := 0) (dd dtX10_beside 54 rfl) rfl rfl ?_
                refine b_geta (pc := 132) (dd dtX10_beside 55 rfl) fwX10_21 pC_0 rC_0_1 ?_
                refine b_geti (pc := 135) (dd dtX10_beside 56 rfl) fwX10_328 pC_6 ?_
                refine b_isub (pc := 138) (dd dtX10_beside 57 rfl) ?_
                refine b_i2l (pc := 139) (dd dtX10_beside 58 rfl) ?_
                refine b_eq (b_lret (dd dtX10_beside 59 rfl) rfl) ?_ ?_
                · simp [vBeside, okBeside, inR, besideW, -Int32.not_lt, -Int32.not_le, monthsW_fr, ist_ne, becomeW_fr, *]
                · simp [okBeside, inR, besideW, -Int32.not_lt, -Int32.not_le, *]
              · refine b_aload_n (pc := 141) (i := 0) (dd dtX10_beside 60 rfl) rfl rfl ?_
                refine b_geta (pc := 142) (dd dtX10_beside 61 rfl) fwX10_25 pC_0 rC_0_2 ?_
                refine b_geti (pc := 145) (dd dtX10_beside 62 rfl) fwX10_331 pC_18 ?_
                refine b_aload_n (pc := 148) (i := 0) (dd dtX10_beside 63 rfl) rfl rfl ?_
                refine b_geta (pc := 149) (dd dtX10_beside 64 rfl) fwX10_21 pC_0 rC_0_1 ?_
                refine b_geti (pc := 152) (dd dtX10_beside 65 rfl) fwX10_331 pC_6 ?_
                refine b_isub (pc := 155) (dd dtX10_beside 66 rfl) ?_
                refine b_i2l (pc := 156) (dd dtX10_beside 67 rfl) ?_
                refine b_eq (b_lret (dd dtX10_beside 68 rfl) rfl) ?_ ?_
                · simp [vBeside, okBeside, inR, besideW, -Int32.not_lt, -Int32.not_le, monthsW_fr, ist_ne, becomeW_fr, *]
                · simp [okBeside, inR, besideW, -Int32.not_lt, -Int32.not_le, *]
              · refine b_aload_n (pc := 158) (i := 0) (dd dtX10_beside 69 rfl) rfl rfl ?_
                refine b_geta (pc := 159) (dd dtX10_beside 70 rfl) fwX10_25 pC_0 rC_0_2 ?_
                refine b_geti (pc := 162) (dd dtX10_beside 71 rfl) fwX10_150 pC_18 ?_
                refine b_i2l (pc := 165) (dd dtX10_beside 72 rfl) ?_
                refine b_eq (b_lret (dd dtX10_beside 73 rfl) rfl) ?_ ?_
                · simp [vBeside, okBeside, inR, besideW, -Int32.not_lt, -Int32.not_le, monthsW_fr, ist_ne, becomeW_fr, *]
                · simp [okBeside, inR, besideW, -Int32.not_lt, -Int32.not_le, *]
            · obtain ⟨j, ej, hj1, hj2⟩ := inR_p (P := P) h24 h75 hF.2.1.1 hF.2.1.2
              have hP6 := hF.2.1.2
              have hp6 : vp_in p 6 := vpn ej (by omega) (by decide)
              clear ej hj2
              refine b_aload_n (pc := 78) (i := 0) (dd dtX10_beside 39 rfl) rfl rfl ?_
              refine b_geta (pc := 79) (dd dtX10_beside 40 rfl) fwX10_25 pC_0 rC_0_2 ?_
              refine b_geta (pc := 82) (dd dtX10_beside 41 rfl) fwX10_125 pC_18 rC_18_11 ?_
              refine b_iload_n (pc := 85) (i := 2) (dd dtX10_beside 42 rfl) rfl rfl ?_
              refine b_iload_n (pc := 86) (i := 3) (dd dtX10_beside 43 rfl) rfl rfl ?_
              refine b_iast (pc := 87) (dd dtX10_beside 44 rfl) pC_25 (hp6) ?_
              refine b_aload_n (pc := 88) (i := 0) (dd dtX10_beside 45 rfl) rfl rfl ?_
              refine b_geta (pc := 89) (dd dtX10_beside 46 rfl) fwX10_25 pC_0 rC_0_2 ?_
              refine b_iload_n (pc := 92) (i := 1) (dd dtX10_beside 47 rfl) rfl rfl ?_
              refine b_invV (pc := 93) (dd dtX10_beside 48 rfl) mlX10_147 mvX2_passMonths miX2_passMonths (c_pass (Or.inr (Or.inl rfl)) (by first | exact FG.bes hF | exact (FG.bes hF).of (by simp (disch := omega) only [ist_ne]) (by simp (disch := omega) only [ist_ne]) (by simp (disch := omega) only [ist_ne])) h7) oC_18 rfl rfl (by decide) (Nat.le_of_ble_eq_true rfl) ?_
              refine b_iload (pc := 96) (i := 4) (dd dtX10_beside 49 rfl) rfl ?_
              refine b_lsw (pc := 98) (ts := [(0, 124), (1, 141)]) (dfl := 158) (dd dtX10_beside 50 rfl) (by decide +kernel) ⟨fun h98 => ?_, fun h98_0 => ⟨fun h98 => ?_, fun h98_1 => ?_⟩⟩
              · refine b_aload_n (pc := 124) (i := 0) (dd dtX10_beside 51 rfl) rfl rfl ?_
                refine b_geta (pc := 125) (dd dtX10_beside 52 rfl) fwX10_25 pC_0 rC_0_2 ?_
                refine b_geti (pc := 128) (dd dtX10_beside 53 rfl) fwX10_328 pC_18 ?_
                refine b_aload_n (pc := 131) (i := 0) (dd dtX10_beside 54 rfl) rfl rfl ?_
                refine b_geta (pc := 132) (dd dtX10_beside 55 rfl) fwX10_21 pC_0 rC_0_1 ?_
                refine b_geti (pc := 135) (dd dtX10_beside 56 rfl) fwX10_328 pC_6 ?_
                refine b_isub (pc := 138) (dd dtX10_beside 57 rfl) ?_
                refine b_i2l (pc := 139) (dd dtX10_beside 58 rfl) ?_
                refine b_eq (b_lret (dd dtX10_beside 59 rfl) rfl) ?_ ?_
                · simp [vBeside, okBeside, inR, besideW, -Int32.not_lt, -Int32.not_le, monthsW_fr, ist_ne, becomeW_fr, *]
                · simp [okBeside, inR, besideW, -Int32.not_lt, -Int32.not_le, *]
              · refine b_aload_n (pc := 141) (i := 0) (dd dtX10_beside 60 rfl) rfl rfl ?_
                refine b_geta (pc := 142) (dd dtX10_beside 61 rfl) fwX10_25 pC_0 rC_0_2 ?_
                refine b_geti (pc := 145) (dd dtX10_beside 62 rfl) fwX10_331 pC_18 ?_
                refine b_aload_n (pc := 148) (i := 0) (dd dtX10_beside 63 rfl) rfl rfl ?_
                refine b_geta (pc := 149) (dd dtX10_beside 64 rfl) fwX10_21 pC_0 rC_0_1 ?_
                refine b_geti (pc := 152) (dd dtX10_beside 65 rfl) fwX10_331 pC_6 ?_
                refine b_isub (pc := 155) (dd dtX10_beside 66 rfl) ?_
                refine b_i2l (pc := 156) (dd dtX10_beside 67 rfl) ?_
                refine b_eq (b_lret (dd dtX10_beside 68 rfl) rfl) ?_ ?_
                · simp [vBeside, okBeside, inR, besideW, -Int32.not_lt, -Int32.not_le, monthsW_fr, ist_ne, becomeW_fr, *]
                · simp [okBeside, inR, besideW, -Int32.not_lt, -Int32.not_le, *]
              · refine b_aload_n (pc := 158) (i := 0) (dd dtX10_beside 69 rfl) rfl rfl ?_
                refine b_geta (pc := 159) (dd dtX10_beside 70 rfl) fwX10_25 pC_0 rC_0_2 ?_
                refine b_geti (pc := 162) (dd dtX10_beside 71 rfl) fwX10_150 pC_18 ?_
                refine b_i2l (pc := 165) (dd dtX10_beside 72 rfl) ?_
                refine b_eq (b_lret (dd dtX10_beside 73 rfl) rfl) ?_ ?_
                · simp [vBeside, okBeside, inR, besideW, -Int32.not_lt, -Int32.not_le, monthsW_fr, ist_ne, becomeW_fr, *]
                · simp [okBeside, inR, besideW, -Int32.not_lt, -Int32.not_le, *]
          · refine b_ldc2 (pc := 59) (dd dtX10_beside 30 rfl) kcX10_256 ?_
            refine b_eq (b_lret (dd dtX10_beside 31 rfl) rfl) ?_ ?_
            · simp [vBeside, okBeside, inR, besideW, -Int32.not_lt, -Int32.not_le, monthsW_fr, ist_ne, becomeW_fr, *]
            · simp [okBeside, inR, besideW, -Int32.not_lt, -Int32.not_le, *]
    · refine b_ldc2 (pc := 27) (dd dtX10_beside 14 rfl) kcX10_256 ?_
      refine b_eq (b_lret (dd dtX10_beside 15 rfl) rfl) ?_ ?_
      · simp [vBeside, okBeside, inR, besideW, -Int32.not_lt, -Int32.not_le, monthsW_fr, ist_ne, becomeW_fr, *]
      · simp [okBeside, inR, besideW, -Int32.not_lt, -Int32.not_le, *]
