/-! texts of the machine: how long, which letter -/
def tJ0_coder_7d493 : List (Nat × Instr × Nat) := [(0, .getstatic 38, 3), (3, .ifCond .eq 10, 3), (6, .aload_n 0, 1), (7, .getfield 15, 3), (10, .goto 4, 3), (13, .iconst 1, 1), (14, .ireturn, 1)]
theorem dtJ0_coder_7d493 : dec_ok mJ0_coder_7d493.2.1 tJ0_coder_7d493 = true := by decide +kernel
def tJ0_length_8abf5 : List (Nat × Instr × Nat) := [(0, .aload_n 0, 1), (1, .getfield 9, 3), (4, .arraylength, 1), (5, .aload_n 0, 1), (6, .invokevirtual 335, 3), (9, .ishr, 1), (10, .ireturn, 1)]
theorem dtJ0_length_8abf5 : dec_ok mJ0_length_8abf5.2.1 tJ0_length_8abf5 = true := by decide +kernel
def tJ0_isLatin1_aae02 : List (Nat × Instr × Nat) := [(0, .getstatic 38, 3), (3, .ifCond .eq 14, 3), (6, .aload_n 0, 1), (7, .getfield 15, 3), (10, .ifCond .ne 7, 3), (13, .iconst 1, 1), (14, .goto 4, 3), (17, .iconst 0, 1), (18, .ireturn, 1)]
theorem dtJ0_isLatin1_aae02 : dec_ok mJ0_isLatin1_aae02.2.1 tJ0_isLatin1_aae02 = true := by decide +kernel
def tJ3_checkIndex_8e157 : List (Nat × Instr × Nat) := [(0, .iload_n 0, 1), (1, .ifCond .lt 8, 3), (4, .iload_n 0, 1), (5, .iload_n 1, 1), (6, .if_icmp .lt 10, 3), (9, .aload_n 2, 1), (10, .iload_n 0, 1), (11, .iload_n 1, 1), (12, .invokestatic 95, 3), (15, .athrow, 1), (16, .iload_n 0, 1), (17, .ireturn, 1)]
theorem dtJ3_checkIndex_8e157 : dec_ok mJ3_checkIndex_8e157.2.1 tJ3_checkIndex_8e157 = true := by decide +kernel
def tJ0_checkIndex_df160 : List (Nat × Instr × Nat) := [(0, .iload_n 0, 1), (1, .iload_n 1, 1), (2, .getstatic 1053, 3), (5, .invokestatic 1059, 3), (8, .pop, 1), (9, .return_, 1)]
theorem dtJ0_checkIndex_df160 : dec_ok mJ0_checkIndex_df160.2.1 tJ0_checkIndex_df160 = true := by decide +kernel
def tJ1_charAt_3b067 : List (Nat × Instr × Nat) := [(0, .iload_n 1, 1), (1, .aload_n 0, 1), (2, .arraylength, 1), (3, .invokestatic 9, 3), (6, .aload_n 0, 1), (7, .iload_n 1, 1), (8, .baload, 1), (9, .sipush 255, 3), (12, .iand, 1), (13, .i2c, 1), (14, .ireturn, 1)]
theorem dtJ1_charAt_3b067 : dec_ok mJ1_charAt_3b067.2.1 tJ1_charAt_3b067 = true := by decide +kernel
def tJ0_charAt_5068e : List (Nat × Instr × Nat) := [(0, .aload_n 0, 1), (1, .invokevirtual 492, 3), (4, .ifCond .eq 12, 3), (7, .aload_n 0, 1), (8, .getfield 9, 3), (11, .iload_n 1, 1), (12, .invokestatic 495, 3), (15, .ireturn, 1), (16, .aload_n 0, 1), (17, .getfield 9, 3), (20, .iload_n 1, 1), (21, .invokestatic 498, 3), (24, .ireturn, 1)]
theorem dtJ0_charAt_5068e : dec_ok mJ0_charAt_5068e.2.1 tJ0_charAt_5068e = true := by decide +kernel
theorem c_J0_coder {S : Sy} {I : Wd} {i : Nat} (hi : i < 15) : Cal S mJ0_coder_7d493 0 [.ref (1100 + i)] I (some (.int 0)) I := by
  refine Cal.of (by decide) (Nat.le_of_ble_eq_true rfl) ?_
  show Bd _ _ _ _ [(0, _)] _ _ _ _
  refine b_getsC (pc := 0) (dd dtJ0_coder_7d493 0 rfl) fsJ0_38 ?_
  refine b_if_eq (pc := 3) (tgt := 13) (dd dtJ0_coder_7d493 1 rfl) (by decide) (fun h => absurd h (by decide)) (fun h3 => ?_)
  refine b_aload_n (pc := 6) (i := 0) (dd dtJ0_coder_7d493 2 rfl) rfl rfl ?_
  refine b_strK (pc := 7) (dd dtJ0_coder_7d493 3 rfl) fsJ0_15 hi ?_
  refine b_goto (pc := 10) (tgt := 14) (dd dtJ0_coder_7d493 4 rfl) (by decide) ?_
  exact b_zret (pc := 14) (dd dtJ0_coder_7d493 6 rfl) rfl (by decide)
theorem tx_len : ∀ i, i < 15 → nI (txL.getD i 0) >>> ((0 : Int32) &&& 31) = nI (txL.getD i 0) := by decide +kernel
theorem c_J0_length {S : Sy} {I : Wd} {i : Nat} (hi : i < 15) : Cal S mJ0_length_8abf5 1 [.ref (1100 + i)] I (some (.int (nI (txL.getD i 0)))) I := by
  refine Cal.of (by decide) (Nat.le_of_ble_eq_true rfl) ?_
  show Bd _ _ _ _ [(0, _)] _ _ _ _
  refine b_aload_n (pc := 0) (i := 0) (dd dtJ0_length_8abf5 0 rfl) rfl rfl ?_
  refine b_strV (pc := 1) (dd dtJ0_length_8abf5 1 rfl) fsJ0_9 hi ?_
  refine b_strL (pc := 4) (dd dtJ0_length_8abf5 2 rfl) hi rfl ?_
  refine b_aload_n (pc := 5) (i := 0) (dd dtJ0_length_8abf5 3 rfl) rfl rfl ?_
  refine b_invT (pc := 6) (dd dtJ0_length_8abf5 4 rfl) mlJ0_335 mvJ0_coder_7d493 miJ0_coder_7d493 (c_J0_coder hi) rfl hi rfl rfl (by decide) (Nat.le_of_ble_eq_true rfl) ?_
  refine b_ishr (pc := 9) (dd dtJ0_length_8abf5 5 rfl) ?_
  rw [tx_len i hi]
  exact b_iret (pc := 10) (dd dtJ0_length_8abf5 6 rfl) rfl
theorem c_J0_isLatin1 {S : Sy} {I : Wd} {i : Nat} (hi : i < 15) : Cal S mJ0_isLatin1_aae02 0 [.ref (1100 + i)] I (some (.int 1)) I := by
  refine Cal.of (by decide) (Nat.le_of_ble_eq_true rfl) ?_
  show Bd _ _ _ _ [(0, _)] _ _ _ _
  refine b_getsC (pc := 0) (dd dtJ0_isLatin1_aae02 0 rfl) fsJ0_38 ?_
  refine b_if_eq (pc := 3) (tgt := 17) (dd dtJ0_isLatin1_aae02 1 rfl) (by decide) (fun h => absurd h (by decide)) (fun h3 => ?_)
  refine b_aload_n (pc := 6) (i := 0) (dd dtJ0_isLatin1_aae02 2 rfl) rfl rfl ?_
  refine b_strK (pc := 7) (dd dtJ0_isLatin1_aae02 3 rfl) fsJ0_15 hi ?_
  refine b_if_ne (pc := 10) (tgt := 17) (dd dtJ0_isLatin1_aae02 4 rfl) (by decide) (fun h => absurd rfl h) (fun h10 => ?_)
  refine b_ic1 (pc := 13) (dd dtJ0_isLatin1_aae02 5 rfl) ?_
  refine b_goto (pc := 14) (tgt := 18) (dd dtJ0_isLatin1_aae02 6 rfl) (by decide) ?_
  exact b_zret (pc := 18) (dd dtJ0_isLatin1_aae02 8 rfl) rfl (by decide)
theorem c_J3_checkR {S : Sy} {I : Wd} {x n : Int32} (h0 : ¬ x < 0) (hn : x < n) : Cal S mJ3_checkIndex_8e157 0 [.int x, .int n, .ref 1301] I (some (.int x)) I := by
  refine Cal.of (by decide) (Nat.le_of_ble_eq_true rfl) ?_
  show Bd _ _ _ _ [(0, _), (1, _), (2, _)] _ _ _ _
  refine b_iload_n (pc := 0) (i := 0) (dd dtJ3_checkIndex_8e157 0 rfl) rfl rfl ?_
  refine b_if_lt (pc := 1) (tgt := 9) (dd dtJ3_checkIndex_8e157 1 rfl) (by decide) (fun h => absurd h h0) (fun h1 => ?_)
  refine b_iload_n (pc := 4) (i := 0) (dd dtJ3_checkIndex_8e157 2 rfl) rfl rfl ?_
  refine b_iload_n (pc := 5) (i := 1) (dd dtJ3_checkIndex_8e157 3 rfl) rfl rfl ?_
  refine b_icmp_lt (pc := 6) (tgt := 16) (dd dtJ3_checkIndex_8e157 4 rfl) (by decide) (fun h6 => ?_) (fun h => absurd hn h)
  refine b_iload_n (pc := 16) (i := 0) (dd dtJ3_checkIndex_8e157 10 rfl) rfl rfl ?_
  exact b_iret (pc := 17) (dd dtJ3_checkIndex_8e157 11 rfl) rfl
theorem c_J3_checkN {S : Sy} {I : Wd} {x n : Int32} (h0 : ¬ x < 0) (hn : x < n) : Cal S mJ3_checkIndex_8e157 0 [.int x, .int n, .null] I (some (.int x)) I := by
  refine Cal.of (by decide) (Nat.le_of_ble_eq_true rfl) ?_
  show Bd _ _ _ _ [(0, _), (1, _), (2, _)] _ _ _ _
  refine b_iload_n (pc := 0) (i := 0) (dd dtJ3_checkIndex_8e157 0 rfl) rfl rfl ?_
  refine b_if_lt (pc := 1) (tgt := 9) (dd dtJ3_checkIndex_8e157 1 rfl) (by decide) (fun h => absurd h h0) (fun h1 => ?_)
  refine b_iload_n (pc := 4) (i := 0) (dd dtJ3_checkIndex_8e157 2 rfl) rfl rfl ?_
  refine b_iload_n (pc := 5) (i := 1) (dd dtJ3_checkIndex_8e157 3 rfl) rfl rfl ?_
  refine b_icmp_lt (pc := 6) (tgt := 16) (dd dtJ3_checkIndex_8e157 4 rfl) (by decide) (fun h6 => ?_) (fun h => absurd hn h)
  refine b_iload_n (pc := 16) (i := 0) (dd dtJ3_checkIndex_8e157 10 rfl) rfl rfl ?_
  exact b_iret (pc := 17) (dd dtJ3_checkIndex_8e157 11 rfl) rfl
theorem c_J0_checkIndex {S : Sy} {I : Wd} {x n : Int32} (h0 : ¬ x < 0) (hn : x < n) : Cal S mJ0_checkIndex_df160 1 [.int x, .int n] I none I := by
  refine Cal.of (by decide) (Nat.le_of_ble_eq_true rfl) ?_
  show Bd _ _ _ _ [(0, _), (1, _)] _ _ _ _
  refine b_iload_n (pc := 0) (i := 0) (dd dtJ0_checkIndex_df160 0 rfl) rfl rfl ?_
  refine b_iload_n (pc := 1) (i := 1) (dd dtJ0_checkIndex_df160 1 rfl) rfl rfl ?_
  refine b_getsF (pc := 2) (dd dtJ0_checkIndex_df160 2 rfl) fsJ0_1053 ?_ ?_
  · refine b_invS (pc := 5) (dd dtJ0_checkIndex_df160 3 rfl) mlJ0_1059 mvJ3_checkIndex_8e157 msJ3_checkIndex_8e157 (c_J3_checkR h0 hn) rfl rfl (by decide) (Nat.le_of_ble_eq_true rfl) ?_
    refine b_pop (pc := 8) (dd dtJ0_checkIndex_df160 4 rfl) rfl ?_
    exact b_vret (pc := 9) (dd dtJ0_checkIndex_df160 5 rfl) rfl
  · refine b_invS (pc := 5) (dd dtJ0_checkIndex_df160 3 rfl) mlJ0_1059 mvJ3_checkIndex_8e157 msJ3_checkIndex_8e157 (c_J3_checkN h0 hn) rfl rfl (by decide) (Nat.le_of_ble_eq_true rfl) ?_
    refine b_pop (pc := 8) (dd dtJ0_checkIndex_df160 4 rfl) rfl ?_
    exact b_vret (pc := 9) (dd dtJ0_checkIndex_df160 5 rfl) rfl
def chS (i j : Nat) : Int32 := (txB.getD i []).getD j 0
theorem tx_ch : ∀ i, i < 15 → ∀ j, j < txL.getD i 0 → ((((txB.getD i []).getD j 0) &&& 255).toUInt32 % 65536).toInt32 = chS i j ∧ narrow .char (.int (chS i j)) = .int (chS i j) := by decide +kernel
theorem tx_lb : ∀ i, i < 15 → txL.getD i 0 < 2 ^ 31 := by decide +kernel
theorem c_J1_charAt {S : Sy} {I : Wd} {i j : Nat} (hi : i < 15) (hj : j < txL.getD i 0) : Cal S mJ1_charAt_3b067 2 [.ref (1200 + i), .int (nI j)] I (some (.int (chS i j))) I := by
  have hb := tx_lb i hi
  refine Cal.of (by decide) (Nat.le_of_ble_eq_true rfl) ?_
  show Bd _ _ _ _ [(0, _), (1, _)] _ _ _ _
  refine b_iload_n (pc := 0) (i := 1) (dd dtJ1_charAt_3b067 0 rfl) rfl rfl ?_
  refine b_aload_n (pc := 1) (i := 0) (dd dtJ1_charAt_3b067 1 rfl) rfl rfl ?_
  refine b_strL (pc := 2) (dd dtJ1_charAt_3b067 2 rfl) hi rfl ?_
  refine b_invS (pc := 3) (dd dtJ1_charAt_3b067 3 rfl) mlJ1_9 mvJ0_checkIndex_df160 msJ0_checkIndex_df160 (c_J0_checkIndex (nI_pos (by omega)) (nI_lt hj hb)) rfl rfl (by decide) (Nat.le_of_ble_eq_true rfl) ?_
  refine b_aload_n (pc := 6) (i := 0) (dd dtJ1_charAt_3b067 4 rfl) rfl rfl ?_
  refine b_iload_n (pc := 7) (i := 1) (dd dtJ1_charAt_3b067 5 rfl) rfl rfl ?_
  refine b_strB (pc := 8) (dd dtJ1_charAt_3b067 6 rfl) hi (vpn rfl hj hb) ?_
  refine b_sipush (pc := 9) (v := 255) (dd dtJ1_charAt_3b067 7 rfl) (by decide) ?_
  refine b_iand (pc := 12) (dd dtJ1_charAt_3b067 8 rfl) ?_
  rw [nI_clamp (by omega)]
  refine b_i2c (pc := 13) (dd dtJ1_charAt_3b067 9 rfl) (tx_ch i hi j hj).1 ?_
  exact b_zret (pc := 14) (dd dtJ1_charAt_3b067 10 rfl) rfl (tx_ch i hi j hj).2
theorem c_J0_charAt {S : Sy} {I : Wd} {i j : Nat} (hi : i < 15) (hj : j < txL.getD i 0) : Cal S mJ0_charAt_5068e 3 [.ref (1100 + i), .int (nI j)] I (some (.int (chS i j))) I := by
  refine Cal.of (by decide) (Nat.le_of_ble_eq_true rfl) ?_
  show Bd _ _ _ _ [(0, _), (1, _)] _ _ _ _
  refine b_aload_n (pc := 0) (i := 0) (dd dtJ0_charAt_5068e 0 rfl) rfl rfl ?_
  refine b_invT (pc := 1) (dd dtJ0_charAt_5068e 1 rfl) mlJ0_492 mvJ0_isLatin1_aae02 miJ0_isLatin1_aae02 (c_J0_isLatin1 hi) rfl hi rfl rfl (by decide) (Nat.le_of_ble_eq_true rfl) ?_
  refine b_if_eq (pc := 4) (tgt := 16) (dd dtJ0_charAt_5068e 2 rfl) (by decide) (fun h => absurd h (by decide)) (fun h4 => ?_)
  refine b_aload_n (pc := 7) (i := 0) (dd dtJ0_charAt_5068e 3 rfl) rfl rfl ?_
  refine b_strV (pc := 8) (dd dtJ0_charAt_5068e 4 rfl) fsJ0_9 hi ?_
  refine b_iload_n (pc := 11) (i := 1) (dd dtJ0_charAt_5068e 5 rfl) rfl rfl ?_
  refine b_invS (pc := 12) (dd dtJ0_charAt_5068e 6 rfl) mlJ0_495 mvJ1_charAt_3b067 msJ1_charAt_3b067 (c_J1_charAt hi hj) rfl rfl (by decide) (Nat.le_of_ble_eq_true rfl) ?_
  exact b_zret (pc := 15) (dd dtJ0_charAt_5068e 7 rfl) rfl (tx_ch i hi j hj).2
