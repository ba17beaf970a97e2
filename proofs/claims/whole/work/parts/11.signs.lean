/-! reading a world that was written -/
theorem ist_eq {I : Wd} {k j : Nat} {v : Int32} : ist I k j v k = upd (I k) j v := by simp [ist, rset]
theorem ist_ne {I : Wd} {k j a : Nat} {v : Int32} (h : a ≠ k) : ist I k j v a = I a := by simp [ist, rset, h]
theorem rset_eq {I : Wd} {k : Nat} {f : Nat → Int32} : rset I k f k = f := by simp [rset]
theorem rset_ne {I : Wd} {k a : Nat} {f : Nat → Int32} (h : a ≠ k) : rset I k f a = I a := by simp [rset, h]
theorem upd_eq {f : Nat → Int32} {k : Nat} {x : Int32} : upd f k x k = x := by simp [upd]
theorem upd_ne {f : Nat → Int32} {k j : Nat} {x : Int32} (h : j ≠ k) : upd f k x j = f j := by simp [upd, h]
def tX0_addHouse : List (Nat × Instr × Nat) := [(0, .aload_n 0, 1), (1, .getfield 9, 3), (4, .bipush 14, 2), (6, .if_icmp .lt 6, 3), (9, .bipush (-4), 2), (11, .ireturn, 1), (12, .aload_n 0, 1), (13, .getfield 18, 3), (16, .aload_n 0, 1), (17, .getfield 9, 3), (20, .iload_n 1, 1), (21, .iastore, 1), (22, .aload_n 0, 1), (23, .getfield 22, 3), (26, .aload_n 0, 1), (27, .getfield 9, 3), (30, .iload_n 2, 1), (31, .iastore, 1), (32, .aload_n 0, 1), (33, .getfield 25, 3), (36, .aload_n 0, 1), (37, .getfield 9, 3), (40, .iload_n 3, 1), (41, .iastore, 1), (42, .aload_n 0, 1), (43, .dup, 1), (44, .getfield 9, 3), (47, .iconst 1, 1), (48, .iadd, 1), (49, .putfield 9, 3), (52, .aload_n 0, 1), (53, .getfield 9, 3), (56, .iconst 1, 1), (57, .isub, 1), (58, .ireturn, 1)]
theorem dtX0_addHouse : dec_ok mX0_addHouse.2.1 tX0_addHouse = true := by decide +kernel
set_option maxHeartbeats 4000000 in
theorem c_X0_addHouse {I : Wd} {N : Nat} {c w p : Int32} (hN : I 1 0 = nI N) (hN2 : N < 14) : Cal SyC mX0_addHouse 0 [.ref 1, .int c, .int w, .int p] I (some (.int (nI N))) (ist (ist (ist (ist I 2 N c) 3 N w) 4 N p) 1 0 (nI (N + 1))) := by
  refine Cal.of (by decide) (Nat.le_of_ble_eq_true rfl) ?_
  show Bd _ _ _ _ [(0, _), (1, _), (2, _), (3, _)] _ _ _ _
  refine b_aload_n (pc := 0) (i := 0) (dd dtX0_addHouse 0 rfl) rfl rfl ?_
  refine b_geti (pc := 1) (dd dtX0_addHouse 1 rfl) fwX0_9 pC_1 ?_
  refine b_bipush (pc := 4) (v := 14) (dd dtX0_addHouse 2 rfl) (by decide) ?_
  rw [hN]
  refine b_icmp_lt (pc := 6) (tgt := 12) (dd dtX0_addHouse 3 rfl) (by decide) (fun h6 => ?_) (fun h6 => ?_)
  · refine b_aload_n (pc := 12) (i := 0) (dd dtX0_addHouse 6 rfl) rfl rfl ?_
    refine b_geta (pc := 13) (dd dtX0_addHouse 7 rfl) fwX0_18 pC_1 rC_1_2 ?_
    refine b_aload_n (pc := 16) (i := 0) (dd dtX0_addHouse 8 rfl) rfl rfl ?_
    refine b_geti (pc := 17) (dd dtX0_addHouse 9 rfl) fwX0_9 pC_1 ?_
    refine b_iload_n (pc := 20) (i := 1) (dd dtX0_addHouse 10 rfl) rfl rfl ?_
    refine b_iast (pc := 21) (dd dtX0_addHouse 11 rfl) pC_2 (by simp only [ist_eq, ist_ne, upd_eq, upd_ne, ne_eq, Nat.reduceEqDiff, not_false_eq_true, hN]; exact vpn rfl hN2 (by decide)) ?_
    refine b_aload_n (pc := 22) (i := 0) (dd dtX0_addHouse 12 rfl) rfl rfl ?_
    refine b_geta (pc := 23) (dd dtX0_addHouse 13 rfl) fwX0_22 pC_1 rC_1_3 ?_
    refine b_aload_n (pc := 26) (i := 0) (dd dtX0_addHouse 14 rfl) rfl rfl ?_
    refine b_geti (pc := 27) (dd dtX0_addHouse 15 rfl) fwX0_9 pC_1 ?_
    refine b_iload_n (pc := 30) (i := 2) (dd dtX0_addHouse 16 rfl) rfl rfl ?_
    refine b_iast (pc := 31) (dd dtX0_addHouse 17 rfl) pC_3 (by simp only [ist_eq, ist_ne, upd_eq, upd_ne, ne_eq, Nat.reduceEqDiff, not_false_eq_true, hN]; exact vpn rfl hN2 (by decide)) ?_
    refine b_aload_n (pc := 32) (i := 0) (dd dtX0_addHouse 18 rfl) rfl rfl ?_
    refine b_geta (pc := 33) (dd dtX0_addHouse 19 rfl) fwX0_25 pC_1 rC_1_4 ?_
    refine b_aload_n (pc := 36) (i := 0) (dd dtX0_addHouse 20 rfl) rfl rfl ?_
    refine b_geti (pc := 37) (dd dtX0_addHouse 21 rfl) fwX0_9 pC_1 ?_
    refine b_iload_n (pc := 40) (i := 3) (dd dtX0_addHouse 22 rfl) rfl rfl ?_
    refine b_iast (pc := 41) (dd dtX0_addHouse 23 rfl) pC_4 (by simp only [ist_eq, ist_ne, upd_eq, upd_ne, ne_eq, Nat.reduceEqDiff, not_false_eq_true, hN]; exact vpn rfl hN2 (by decide)) ?_
    refine b_aload_n (pc := 42) (i := 0) (dd dtX0_addHouse 24 rfl) rfl rfl ?_
    refine b_dup (pc := 43) (dd dtX0_addHouse 25 rfl) rfl ?_
    refine b_geti (pc := 44) (dd dtX0_addHouse 26 rfl) fwX0_9 pC_1 ?_
    refine b_ic1 (pc := 47) (dd dtX0_addHouse 27 rfl) ?_
    refine b_iadd (pc := 48) (dd dtX0_addHouse 28 rfl) ?_
    refine b_puti (pc := 49) (dd dtX0_addHouse 29 rfl) fwX0_9 pC_1 ?_
    refine b_aload_n (pc := 52) (i := 0) (dd dtX0_addHouse 30 rfl) rfl rfl ?_
    refine b_geti (pc := 53) (dd dtX0_addHouse 31 rfl) fwX0_9 pC_1 ?_
    refine b_ic1 (pc := 56) (dd dtX0_addHouse 32 rfl) ?_
    refine b_isub (pc := 57) (dd dtX0_addHouse 33 rfl) ?_
    refine b_eq (b_iret (dd dtX0_addHouse 34 rfl) rfl) ?_ ?_
    · simp [ist_eq, ist_ne, upd_eq, upd_ne, hN, nI_1, nI_pred]
    · simp [ist_eq, ist_ne, upd_eq, upd_ne, hN, nI_1, nI_clamp (show N < 2 ^ 31 by omega)]
  · exact absurd (nI_lt hN2 (by decide)) h6
def tX0_addPump : List (Nat × Instr × Nat) := [(0, .aload_n 0, 1), (1, .getfield 15, 3), (4, .bipush 6, 2), (6, .if_icmp .lt 6, 3), (9, .bipush (-4), 2), (11, .ireturn, 1), (12, .aload_n 0, 1), (13, .getfield 28, 3), (16, .aload_n 0, 1), (17, .getfield 15, 3), (20, .iload_n 1, 1), (21, .iastore, 1), (22, .aload_n 0, 1), (23, .dup, 1), (24, .getfield 15, 3), (27, .iconst 1, 1), (28, .iadd, 1), (29, .putfield 15, 3), (32, .aload_n 0, 1), (33, .getfield 15, 3), (36, .iconst 1, 1), (37, .isub, 1), (38, .ireturn, 1)]
theorem dtX0_addPump : dec_ok mX0_addPump.2.1 tX0_addPump = true := by decide +kernel
set_option maxHeartbeats 4000000 in
theorem c_X0_addPump {I : Wd} {N : Nat} {c : Int32} (hN : I 1 1 = nI N) (hN2 : N < 6) : Cal SyC mX0_addPump 0 [.ref 1, .int c] I (some (.int (nI N))) (ist (ist I 5 N c) 1 1 (nI (N + 1))) := by
  refine Cal.of (by decide) (Nat.le_of_ble_eq_true rfl) ?_
  show Bd _ _ _ _ [(0, _), (1, _)] _ _ _ _
  refine b_aload_n (pc := 0) (i := 0) (dd dtX0_addPump 0 rfl) rfl rfl ?_
  refine b_geti (pc := 1) (dd dtX0_addPump 1 rfl) fwX0_15 pC_1 ?_
  refine b_bipush (pc := 4) (v := 6) (dd dtX0_addPump 2 rfl) (by decide) ?_
  rw [hN]
  refine b_icmp_lt (pc := 6) (tgt := 12) (dd dtX0_addPump 3 rfl) (by decide) (fun h6 => ?_) (fun h6 => ?_)
  · refine b_aload_n (pc := 12) (i := 0) (dd dtX0_addPump 6 rfl) rfl rfl ?_
    refine b_geta (pc := 13) (dd dtX0_addPump 7 rfl) fwX0_28 pC_1 rC_1_5 ?_
    refine b_aload_n (pc := 16) (i := 0) (dd dtX0_addPump 8 rfl) rfl rfl ?_
    refine b_geti (pc := 17) (dd dtX0_addPump 9 rfl) fwX0_15 pC_1 ?_
    refine b_iload_n (pc := 20) (i := 1) (dd dtX0_addPump 10 rfl) rfl rfl ?_
    refine b_iast (pc := 21) (dd dtX0_addPump 11 rfl) pC_5 (by simp only [ist_eq, ist_ne, upd_eq, upd_ne, ne_eq, Nat.reduceEqDiff, not_false_eq_true, hN]; exact vpn rfl hN2 (by decide)) ?_
    refine b_aload_n (pc := 22) (i := 0) (dd dtX0_addPump 12 rfl) rfl rfl ?_
    refine b_dup (pc := 23) (dd dtX0_addPump 13 rfl) rfl ?_
    refine b_geti (pc := 24) (dd dtX0_addPump 14 rfl) fwX0_15 pC_1 ?_
    refine b_ic1 (pc := 27) (dd dtX0_addPump 15 rfl) ?_
    refine b_iadd (pc := 28) (dd dtX0_addPump 16 rfl) ?_
    refine b_puti (pc := 29) (dd dtX0_addPump 17 rfl) fwX0_15 pC_1 ?_
    refine b_aload_n (pc := 32) (i := 0) (dd dtX0_addPump 18 rfl) rfl rfl ?_
    refine b_geti (pc := 33) (dd dtX0_addPump 19 rfl) fwX0_15 pC_1 ?_
    refine b_ic1 (pc := 36) (dd dtX0_addPump 20 rfl) ?_
    refine b_isub (pc := 37) (dd dtX0_addPump 21 rfl) ?_
    refine b_eq (b_iret (dd dtX0_addPump 22 rfl) rfl) ?_ ?_
    · simp [ist_eq, ist_ne, upd_eq, upd_ne, hN, nI_1, nI_pred]
    · simp [ist_eq, ist_ne, upd_eq, upd_ne, hN, nI_1, nI_clamp (show N < 2 ^ 31 by omega)]
  · exact absurd (nI_lt hN2 (by decide)) h6

def sVal (mm md vl : Nat → Int32) (known : Int32) (k : Nat) : Int32 := if ¬ mm k < 0 ∧ ¬ known < mm k then md k else vl k
def sSg (v : Int32) : Int32 := if 0 < v then 1 else 0
def sLk (v : Int32) : Int32 := if v - 15 < 0 then 0 else v - 15
def sLeast (kind v : Int32) : Int32 := if kind = 1 then 2 * v else if kind = 2 then sLk v else if kind = 3 then 2 * v / 4 else if kind = 4 then sLk v / 2 else if kind = 5 then 10 * sSg v else sSg v
def sMost (kind v : Int32) : Int32 := if kind = 2 then v + 15 else if kind = 4 then v + 15 + 25 else 200
def sTrust (kind : Int32) : Int32 := if kind = 2 ∨ kind = 4 then 8 else if kind = 3 then 5 else if kind = 5 then 3 else 10
def tX6_valueKnown : List (Nat × Instr × Nat) := [(0, .aload_n 0, 1), (1, .getfield 31, 3), (4, .iload_n 1, 1), (5, .iaload, 1), (6, .ifCond .lt 22, 3), (9, .aload_n 0, 1), (10, .getfield 31, 3), (13, .iload_n 1, 1), (14, .iaload, 1), (15, .iload_n 2, 1), (16, .if_icmp .gt 12, 3), (19, .aload_n 0, 1), (20, .getfield 28, 3), (23, .iload_n 1, 1), (24, .iaload, 1), (25, .goto 9, 3), (28, .aload_n 0, 1), (29, .getfield 22, 3), (32, .iload_n 1, 1), (33, .iaload, 1), (34, .ireturn, 1)]
theorem dtX6_valueKnown : dec_ok mX6_valueKnown.2.1 tX6_valueKnown = true := by decide +kernel
set_option maxHeartbeats 4000000 in
theorem c_X6_valueKnown {I : Wd} {k known : Int32} (hk : vp_in k 30) : Cal SyC mX6_valueKnown 0 [.ref 42, .int k, .int known] I (some (.int (sVal (I 48) (I 47) (I 45) known k.toNatClampNeg))) I := by
  refine Cal.of (by decide) (Nat.le_of_ble_eq_true rfl) ?_
  show Bd _ _ _ _ [(0, _), (1, _), (2, _)] _ _ _ _
  refine b_aload_n (pc := 0) (i := 0) (dd dtX6_valueKnown 0 rfl) rfl rfl ?_
  refine b_geta (pc := 1) (dd dtX6_valueKnown 1 rfl) fwX6_31 pC_42 rC_42_6 ?_
  refine b_iload_n (pc := 4) (i := 1) (dd dtX6_valueKnown 2 rfl) rfl rfl ?_
  refine b_iald (pc := 5) (dd dtX6_valueKnown 3 rfl) pC_48 (by assumption) ?_
  refine b_if_lt (pc := 6) (tgt := 28) (dd dtX6_valueKnown 4 rfl) (by decide) (fun h6 => ?_) (fun h6 => ?_)
  · refine b_aload_n (pc := 28) (i := 0) (dd dtX6_valueKnown 16 rfl) rfl rfl ?_
    refine b_geta (pc := 29) (dd dtX6_valueKnown 17 rfl) fwX6_22 pC_42 rC_42_3 ?_
    refine b_iload_n (pc := 32) (i := 1) (dd dtX6_valueKnown 18 rfl) rfl rfl ?_
    refine b_iald (pc := 33) (dd dtX6_valueKnown 19 rfl) pC_45 (by assumption) ?_
    refine b_eq (b_iret (dd dtX6_valueKnown 20 rfl) rfl) ?_ ?_
    · simp [sVal, -Int32.not_lt, -Int32.not_le, *]
    · rfl
  · refine b_aload_n (pc := 9) (i := 0) (dd dtX6_valueKnown 5 rfl) rfl rfl ?_
    refine b_geta (pc := 10) (dd dtX6_valueKnown 6 rfl) fwX6_31 pC_42 rC_42_6 ?_
    refine b_iload_n (pc := 13) (i := 1) (dd dtX6_valueKnown 7 rfl) rfl rfl ?_
    refine b_iald (pc := 14) (dd dtX6_valueKnown 8 rfl) pC_48 (by assumption) ?_
    refine b_iload_n (pc := 15) (i := 2) (dd dtX6_valueKnown 9 rfl) rfl rfl ?_
    refine b_icmp_gt (pc := 16) (tgt := 28) (dd dtX6_valueKnown 10 rfl) (by decide) (fun h16 => ?_) (fun h16 => ?_)
    · refine b_aload_n (pc := 28) (i := 0) (dd dtX6_valueKnown 16 rfl) rfl rfl ?_
      refine b_geta (pc := 29) (dd dtX6_valueKnown 17 rfl) fwX6_22 pC_42 rC_42_3 ?_
      refine b_iload_n (pc := 32) (i := 1) (dd dtX6_valueKnown 18 rfl) rfl rfl ?_
      refine b_iald (pc := 33) (dd dtX6_valueKnown 19 rfl) pC_45 (by assumption) ?_
      refine b_eq (b_iret (dd dtX6_valueKnown 20 rfl) rfl) ?_ ?_
      · simp [sVal, -Int32.not_lt, -Int32.not_le, *]
      · rfl
    · refine b_aload_n (pc := 19) (i := 0) (dd dtX6_valueKnown 11 rfl) rfl rfl ?_
      refine b_geta (pc := 20) (dd dtX6_valueKnown 12 rfl) fwX6_28 pC_42 rC_42_5 ?_
      refine b_iload_n (pc := 23) (i := 1) (dd dtX6_valueKnown 13 rfl) rfl rfl ?_
      refine b_iald (pc := 24) (dd dtX6_valueKnown 14 rfl) pC_47 (by assumption) ?_
      refine b_goto (pc := 25) (tgt := 34) (dd dtX6_valueKnown 15 rfl) (by decide) ?_
      refine b_eq (b_iret (dd dtX6_valueKnown 20 rfl) rfl) ?_ ?_
      · simp [sVal, -Int32.not_lt, -Int32.not_le, *]
      · rfl
def tX6_trustIn : List (Nat × Instr × Nat) := [(0, .bipush 10, 2), (2, .istore_n 1, 1), (3, .iload_n 0, 1), (4, .tableswitch 42 2 5 #[32, 36, 32, 40], 32), (36, .iload_n 1, 1), (37, .iconst 2, 1), (38, .isub, 1), (39, .ireturn, 1), (40, .iload_n 1, 1), (41, .iconst 2, 1), (42, .idiv, 1), (43, .ireturn, 1), (44, .iconst 3, 1), (45, .ireturn, 1), (46, .iload_n 1, 1), (47, .ireturn, 1)]
theorem dtX6_trustIn : dec_ok mX6_trustIn.2.1 tX6_trustIn = true := by decide +kernel
set_option maxHeartbeats 4000000 in
theorem c_X6_trustIn {I : Wd} {k : Int32} : Cal SyC mX6_trustIn 0 [.int k] I (some (.int (sTrust k))) I := by
  refine Cal.of (by decide) (Nat.le_of_ble_eq_true rfl) ?_
  show Bd _ _ _ _ [(0, _)] _ _ _ _
  refine b_bipush (pc := 0) (v := 10) (dd dtX6_trustIn 0 rfl) (by decide) ?_
  refine b_istore_n (pc := 2) (i := 1) (lv' := [(1, _), (0, _)]) (dd dtX6_trustIn 1 rfl) rfl (Nat.le_of_ble_eq_true rfl) rfl ?_
  refine b_iload_n (pc := 3) (i := 0) (dd dtX6_trustIn 2 rfl) rfl rfl ?_
  refine b_tsw (pc := 4) (ts := [(2, 36), (3, 40), (4, 36), (5, 44)]) (dfl := 46) (dd dtX6_trustIn 3 rfl) (by decide +kernel) ⟨fun h4 => ?_, fun h4_2 => ⟨fun h4 => ?_, fun h4_3 => ⟨fun h4 => ?_, fun h4_4 => ⟨fun h4 => ?_, fun h4_5 => ?_⟩⟩⟩⟩
  · refine b_iload_n (pc := 36) (i := 1) (dd dtX6_trustIn 4 rfl) rfl rfl ?_
    refine b_ic2 (pc := 37) (dd dtX6_trustIn 5 rfl) ?_
    refine b_isub (pc := 38) (dd dtX6_trustIn 6 rfl) ?_
    refine b_eq (b_iret (dd dtX6_trustIn 7 rfl) rfl) ?_ ?_
    · simp [sTrust, *]; try decide
    · rfl
  · refine b_iload_n (pc := 40) (i := 1) (dd dtX6_trustIn 8 rfl) rfl rfl ?_
    refine b_ic2 (pc := 41) (dd dtX6_trustIn 9 rfl) ?_
    refine b_idiv (pc := 42) (dd dtX6_trustIn 10 rfl) (by decide) ?_
    refine b_eq (b_iret (dd dtX6_trustIn 11 rfl) rfl) ?_ ?_
    · simp [sTrust, *]; try decide
    · rfl
  · refine b_iload_n (pc := 36) (i := 1) (dd dtX6_trustIn 4 rfl) rfl rfl ?_
    refine b_ic2 (pc := 37) (dd dtX6_trustIn 5 rfl) ?_
    refine b_isub (pc := 38) (dd dtX6_trustIn 6 rfl) ?_
    refine b_eq (b_iret (dd dtX6_trustIn 7 rfl) rfl) ?_ ?_
    · simp [sTrust, *]; try decide
    · rfl
  · refine b_ic3 (pc := 44) (dd dtX6_trustIn 12 rfl) ?_
    refine b_eq (b_iret (dd dtX6_trustIn 13 rfl) rfl) ?_ ?_
    · simp [sTrust, *]; try decide
    · rfl
  · refine b_iload_n (pc := 46) (i := 1) (dd dtX6_trustIn 14 rfl) rfl rfl ?_
    refine b_eq (b_iret (dd dtX6_trustIn 15 rfl) rfl) ?_ ?_
    · simp [sTrust, *]; try decide
    · rfl
def tX6_leastBy : List (Nat × Instr × Nat) := [(0, .iload_n 1, 1), (1, .ifCond .le 7, 3), (4, .iconst 1, 1), (5, .goto 4, 3), (8, .iconst 0, 1), (9, .istore_n 2, 1), (10, .iconst 2, 1), (11, .iload_n 1, 1), (12, .imul, 1), (13, .istore_n 3, 1), (14, .iload_n 1, 1), (15, .bipush 15, 2), (17, .isub, 1), (18, .iconst 0, 1), (19, .invokestatic 45, 3), (22, .istore 4, 2), (24, .iload_n 0, 1), (25, .tableswitch 54 1 5 #[35, 37, 40, 44, 49], 35), (60, .iload_n 3, 1), (61, .ireturn, 1), (62, .iload 4, 2), (64, .ireturn, 1), (65, .iload_n 3, 1), (66, .iconst 4, 1), (67, .idiv, 1), (68, .ireturn, 1), (69, .iload 4, 2), (71, .iconst 2, 1), (72, .idiv, 1), (73, .ireturn, 1), (74, .bipush 10, 2), (76, .iload_n 2, 1), (77, .imul, 1), (78, .ireturn, 1), (79, .iload_n 2, 1), (80, .ireturn, 1)]
theorem dtX6_leastBy : dec_ok mX6_leastBy.2.1 tX6_leastBy = true := by decide +kernel
set_option maxHeartbeats 4000000 in
theorem c_X6_leastBy {I : Wd} {k v : Int32} : Cal SyC mX6_leastBy 1 [.int k, .int v] I (some (.int (sLeast k v))) I := by
  refine Cal.of (by decide) (Nat.le_of_ble_eq_true rfl) ?_
  show Bd _ _ _ _ [(0, _), (1, _)] _ _ _ _
  refine b_iload_n (pc := 0) (i := 1) (dd dtX6_leastBy 0 rfl) rfl rfl ?_
  refine b_ifL_le (pc := 1) (tgt := 8) (dd dtX6_leastBy 1 rfl) (by decide) (fun h1 => ?_) (fun h1 => ?_)
  · refine b_ic0 (pc := 8) (dd dtX6_leastBy 4 rfl) ?_
    refine b_istore_n (pc := 9) (i := 2) (lv' := [(2, _), (0, _), (1, _)]) (dd dtX6_leastBy 5 rfl) rfl (Nat.le_of_ble_eq_true rfl) rfl ?_
    refine b_ic2 (pc := 10) (dd dtX6_leastBy 6 rfl) ?_
    refine b_iload_n (pc := 11) (i := 1) (dd dtX6_leastBy 7 rfl) rfl rfl ?_
    refine b_imul (pc := 12) (dd dtX6_leastBy 8 rfl) ?_
    refine b_istore_n (pc := 13) (i := 3) (lv' := [(3, _), (2, _), (0, _), (1, _)]) (dd dtX6_leastBy 9 rfl) rfl (Nat.le_of_ble_eq_true rfl) rfl ?_
    refine b_iload_n (pc := 14) (i := 1) (dd dtX6_leastBy 10 rfl) rfl rfl ?_
    refine b_bipush (pc := 15) (v := 15) (dd dtX6_leastBy 11 rfl) (by decide) ?_
    refine b_isub (pc := 17) (dd dtX6_leastBy 12 rfl) ?_
    refine b_ic0 (pc := 18) (dd dtX6_leastBy 13 rfl) ?_
    refine b_mmax (pc := 19) (dd dtX6_leastBy 14 rfl) wlX6_45 (Nat.le_of_ble_eq_true rfl) ?_
    refine b_istore (pc := 22) (i := 4) (lv' := [(4, _), (3, _), (2, _), (0, _), (1, _)]) (dd dtX6_leastBy 15 rfl) (Nat.le_of_ble_eq_true rfl) rfl ?_
    refine b_iload_n (pc := 24) (i := 0) (dd dtX6_leastBy 16 rfl) rfl rfl ?_
    refine b_tsw (pc := 25) (ts := [(1, 60), (2, 62), (3, 65), (4, 69), (5, 74)]) (dfl := 79) (dd dtX6_leastBy 17 rfl) (by decide +kernel) ⟨fun h25 => ?_, fun h25_1 => ⟨fun h25 => ?_, fun h25_2 => ⟨fun h25 => ?_, fun h25_3 => ⟨fun h25 => ?_, fun h25_4 => ⟨fun h25 => ?_, fun h25_5 => ?_⟩⟩⟩⟩⟩
    · refine b_iload_n (pc := 60) (i := 3) (dd dtX6_leastBy 18 rfl) rfl rfl ?_
      refine b_eq (b_iret (dd dtX6_leastBy 19 rfl) rfl) ?_ ?_
      · simp [sLeast, sSg, sLk, -Int32.not_lt, -Int32.not_le, *]
      · rfl
    · refine b_iload (pc := 62) (i := 4) (dd dtX6_leastBy 20 rfl) rfl ?_
      refine b_eq (b_iret (dd dtX6_leastBy 21 rfl) rfl) ?_ ?_
      · simp [sLeast, sSg, sLk, -Int32.not_lt, -Int32.not_le, *]
      · rfl
    · refine b_iload_n (pc := 65) (i := 3) (dd dtX6_leastBy 22 rfl) rfl rfl ?_
      refine b_ic4 (pc := 66) (dd dtX6_leastBy 23 rfl) ?_
      refine b_idiv (pc := 67) (dd dtX6_leastBy 24 rfl) (by decide) ?_
      refine b_eq (b_iret (dd dtX6_leastBy 25 rfl) rfl) ?_ ?_
      · simp [sLeast, sSg, sLk, -Int32.not_lt, -Int32.not_le, *]
      · rfl
    · refine b_iload (pc := 69) (i := 4) (dd dtX6_leastBy 26 rfl) rfl ?_
      refine b_ic2 (pc := 71) (dd dtX6_leastBy 27 rfl) ?_
      refine b_idiv (pc := 72) (dd dtX6_leastBy 28 rfl) (by decide) ?_
      refine b_eq (b_iret (dd dtX6_leastBy 29 rfl) rfl) ?_ ?_
      · simp [sLeast, sSg, sLk, -Int32.not_lt, -Int32.not_le, *]
      · rfl
    · refine b_bipush (pc := 74) (v := 10) (dd dtX6_leastBy 30 rfl) (by decide) ?_
      refine b_iload_n (pc := 76) (i := 2) (dd dtX6_leastBy 31 rfl) rfl rfl ?_
      refine b_imul (pc := 77) (dd dtX6_leastBy 32 rfl) ?_
      refine b_eq (b_iret (dd dtX6_leastBy 33 rfl) rfl) ?_ ?_
      · simp [sLeast, sSg, sLk, -Int32.not_lt, -Int32.not_le, *]
      · rfl
    · refine b_iload_n (pc := 79) (i := 2) (dd dtX6_leastBy 34 rfl) rfl rfl ?_
      refine b_eq (b_iret (dd dtX6_leastBy 35 rfl) rfl) ?_ ?_
      · simp [sLeast, sSg, sLk, -Int32.not_lt, -Int32.not_le, *]
      · rfl
  · refine b_ic1 (pc := 4) (dd dtX6_leastBy 2 rfl) ?_
    refine b_goto (pc := 5) (tgt := 9) (dd dtX6_leastBy 3 rfl) (by decide) ?_
    refine b_istore_n (pc := 9) (i := 2) (lv' := [(2, _), (0, _), (1, _)]) (dd dtX6_leastBy 5 rfl) rfl (Nat.le_of_ble_eq_true rfl) rfl ?_
    refine b_ic2 (pc := 10) (dd dtX6_leastBy 6 rfl) ?_
    refine b_iload_n (pc := 11) (i := 1) (dd dtX6_leastBy 7 rfl) rfl rfl ?_
    refine b_imul (pc := 12) (dd dtX6_leastBy 8 rfl) ?_
    refine b_istore_n (pc := 13) (i := 3) (lv' := [(3, _), (2, _), (0, _), (1, _)]) (dd dtX6_leastBy 9 rfl) rfl (Nat.le_of_ble_eq_true rfl) rfl ?_
    refine b_iload_n (pc := 14) (i := 1) (dd dtX6_leastBy 10 rfl) rfl rfl ?_
    refine b_bipush (pc := 15) (v := 15) (dd dtX6_leastBy 11 rfl) (by decide) ?_
    refine b_isub (pc := 17) (dd dtX6_leastBy 12 rfl) ?_
    refine b_ic0 (pc := 18) (dd dtX6_leastBy 13 rfl) ?_
    refine b_mmax (pc := 19) (dd dtX6_leastBy 14 rfl) wlX6_45 (Nat.le_of_ble_eq_true rfl) ?_
    refine b_istore (pc := 22) (i := 4) (lv' := [(4, _), (3, _), (2, _), (0, _), (1, _)]) (dd dtX6_leastBy 15 rfl) (Nat.le_of_ble_eq_true rfl) rfl ?_
    refine b_iload_n (pc := 24) (i := 0) (dd dtX6_leastBy 16 rfl) rfl rfl ?_
    refine b_tsw (pc := 25) (ts := [(1, 60), (2, 62), (3, 65), (4, 69), (5, 74)]) (dfl := 79) (dd dtX6_leastBy 17 rfl) (by decide +kernel) ⟨fun h25 => ?_, fun h25_1 => ⟨fun h25 => ?_, fun h25_2 => ⟨fun h25 => ?_, fun h25_3 => ⟨fun h25 => ?_, fun h25_4 => ⟨fun h25 => ?_, fun h25_5 => ?_⟩⟩⟩⟩⟩
    · refine b_iload_n (pc := 60) (i := 3) (dd dtX6_leastBy 18 rfl) rfl rfl ?_
      refine b_eq (b_iret (dd dtX6_leastBy 19 rfl) rfl) ?_ ?_
      · simp [sLeast, sSg, sLk, -Int32.not_lt, -Int32.not_le, *]
      · rfl
    · refine b_iload (pc := 62) (i := 4) (dd dtX6_leastBy 20 rfl) rfl ?_
      refine b_eq (b_iret (dd dtX6_leastBy 21 rfl) rfl) ?_ ?_
      · simp [sLeast, sSg, sLk, -Int32.not_lt, -Int32.not_le, *]
      · rfl
    · refine b_iload_n (pc := 65) (i := 3) (dd dtX6_leastBy 22 rfl) rfl rfl ?_
      refine b_ic4 (pc := 66) (dd dtX6_leastBy 23 rfl) ?_
      refine b_idiv (pc := 67) (dd dtX6_leastBy 24 rfl) (by decide) ?_
      refine b_eq (b_iret (dd dtX6_leastBy 25 rfl) rfl) ?_ ?_
      · simp [sLeast, sSg, sLk, -Int32.not_lt, -Int32.not_le, *]
      · rfl
    · refine b_iload (pc := 69) (i := 4) (dd dtX6_leastBy 26 rfl) rfl ?_
      refine b_ic2 (pc := 71) (dd dtX6_leastBy 27 rfl) ?_
      refine b_idiv (pc := 72) (dd dtX6_leastBy 28 rfl) (by decide) ?_
      refine b_eq (b_iret (dd dtX6_leastBy 29 rfl) rfl) ?_ ?_
      · simp [sLeast, sSg, sLk, -Int32.not_lt, -Int32.not_le, *]
      · rfl
    · refine b_bipush (pc := 74) (v := 10) (dd dtX6_leastBy 30 rfl) (by decide) ?_
      refine b_iload_n (pc := 76) (i := 2) (dd dtX6_leastBy 31 rfl) rfl rfl ?_
      refine b_imul (pc := 77) (dd dtX6_leastBy 32 rfl) ?_
      refine b_eq (b_iret (dd dtX6_leastBy 33 rfl) rfl) ?_ ?_
      · simp [sLeast, sSg, sLk, -Int32.not_lt, -Int32.not_le, *]
      · rfl
    · refine b_iload_n (pc := 79) (i := 2) (dd dtX6_leastBy 34 rfl) rfl rfl ?_
      refine b_eq (b_iret (dd dtX6_leastBy 35 rfl) rfl) ?_ ?_
      · simp [sLeast, sSg, sLk, -Int32.not_lt, -Int32.not_le, *]
      · rfl
def tX6_mostBy : List (Nat × Instr × Nat) := [(0, .iload_n 1, 1), (1, .bipush 15, 2), (3, .iadd, 1), (4, .istore_n 2, 1), (5, .iload_n 0, 1), (6, .lookupswitch 33 #[(2, 26), (4, 28)], 26), (32, .iload_n 2, 1), (33, .ireturn, 1), (34, .iload_n 2, 1), (35, .bipush 25, 2), (37, .iadd, 1), (38, .ireturn, 1), (39, .sipush 200, 3), (42, .ireturn, 1)]
theorem dtX6_mostBy : dec_ok mX6_mostBy.2.1 tX6_mostBy = true := by decide +kernel
set_option maxHeartbeats 4000000 in
theorem c_X6_mostBy {I : Wd} {k v : Int32} : Cal SyC mX6_mostBy 0 [.int k, .int v] I (some (.int (sMost k v))) I := by
  refine Cal.of (by decide) (Nat.le_of_ble_eq_true rfl) ?_
  show Bd _ _ _ _ [(0, _), (1, _)] _ _ _ _
  refine b_iload_n (pc := 0) (i := 1) (dd dtX6_mostBy 0 rfl) rfl rfl ?_
  refine b_bipush (pc := 1) (v := 15) (dd dtX6_mostBy 1 rfl) (by decide) ?_
  refine b_iadd (pc := 3) (dd dtX6_mostBy 2 rfl) ?_
  refine b_istore_n (pc := 4) (i := 2) (lv' := [(2, _), (0, _), (1, _)]) (dd dtX6_mostBy 3 rfl) rfl (Nat.le_of_ble_eq_true rfl) rfl ?_
  refine b_iload_n (pc := 5) (i := 0) (dd dtX6_mostBy 4 rfl) rfl rfl ?_
  refine b_lsw (pc := 6) (ts := [(2, 32), (4, 34)]) (dfl := 39) (dd dtX6_mostBy 5 rfl) (by decide +kernel) ⟨fun h6 => ?_, fun h6_2 => ⟨fun h6 => ?_, fun h6_4 => ?_⟩⟩
  · refine b_iload_n (pc := 32) (i := 2) (dd dtX6_mostBy 6 rfl) rfl rfl ?_
    refine b_eq (b_iret (dd dtX6_mostBy 7 rfl) rfl) ?_ ?_
    · simp [sMost, -Int32.not_lt, -Int32.not_le, *]
    · rfl
  · refine b_iload_n (pc := 34) (i := 2) (dd dtX6_mostBy 8 rfl) rfl rfl ?_
    refine b_bipush (pc := 35) (v := 25) (dd dtX6_mostBy 9 rfl) (by decide) ?_
    refine b_iadd (pc := 37) (dd dtX6_mostBy 10 rfl) ?_
    refine b_eq (b_iret (dd dtX6_mostBy 11 rfl) rfl) ?_ ?_
    · simp [sMost, -Int32.not_lt, -Int32.not_le, *]
    · rfl
  · refine b_sipush (pc := 39) (v := 200) (dd dtX6_mostBy 12 rfl) (by decide) ?_
    refine b_eq (b_iret (dd dtX6_mostBy 13 rfl) rfl) ?_ ?_
    · simp [sMost, -Int32.not_lt, -Int32.not_le, *]
    · rfl
def tX6_speaks : List (Nat × Instr × Nat) := [(0, .aload_n 0, 1), (1, .getfield 19, 3), (4, .iload_n 1, 1), (5, .iaload, 1), (6, .iload_n 2, 1), (7, .if_icmp .ne 31, 3), (10, .aload_n 0, 1), (11, .getfield 25, 3), (14, .iload_n 1, 1), (15, .iaload, 1), (16, .iload_n 3, 1), (17, .if_icmp .gt 21, 3), (20, .aload_n 0, 1), (21, .getfield 15, 3), (24, .iload_n 1, 1), (25, .iaload, 1), (26, .invokestatic 56, 3), (29, .iload 4, 2), (31, .if_icmp .lt 7, 3), (34, .iconst 1, 1), (35, .goto 4, 3), (38, .iconst 0, 1), (39, .ireturn, 1)]
theorem dtX6_speaks : dec_ok mX6_speaks.2.1 tX6_speaks = true := by decide +kernel
set_option maxHeartbeats 4000000 in
theorem c_X6_speaks {I : Wd} {k c known tr : Int32} (hk : vp_in k 30) : Cal SyC mX6_speaks 1 [.ref 42, .int k, .int c, .int known, .int tr] I (some (.int (bi (I 44 k.toNatClampNeg = c ∧ ¬ known < I 46 k.toNatClampNeg ∧ ¬ sTrust (I 43 k.toNatClampNeg) < tr)))) I := by
  refine Cal.of (by decide) (Nat.le_of_ble_eq_true rfl) ?_
  show Bd _ _ _ _ [(0, _), (1, _), (2, _), (3, _), (4, _)] _ _ _ _
  refine b_aload_n (pc := 0) (i := 0) (dd dtX6_speaks 0 rfl) rfl rfl ?_
  refine b_geta (pc := 1) (dd dtX6_speaks 1 rfl) fwX6_19 pC_42 rC_42_2 ?_
  refine b_iload_n (pc := 4) (i := 1) (dd dtX6_speaks 2 rfl) rfl rfl ?_
  refine b_iald (pc := 5) (dd dtX6_speaks 3 rfl) pC_44 (by assumption) ?_
  refine b_iload_n (pc := 6) (i := 2) (dd dtX6_speaks 4 rfl) rfl rfl ?_
  refine b_icmp_ne (pc := 7) (tgt := 38) (dd dtX6_speaks 5 rfl) (by decide) (fun h7 => ?_) (fun h7 => ?_)
  · refine b_ic0 (pc := 38) (dd dtX6_speaks 21 rfl) ?_
    refine b_eq (b_zret (dd dtX6_speaks 22 rfl) rfl (by first | rfl | exact nar_bi)) ?_ ?_
    · simp [bi, -Int32.not_lt, -Int32.not_le, *]
    · rfl
  · refine b_aload_n (pc := 10) (i := 0) (dd dtX6_speaks 6 rfl) rfl rfl ?_
    refine b_geta (pc := 11) (dd dtX6_speaks 7 rfl) fwX6_25 pC_42 rC_42_4 ?_
    refine b_iload_n (pc := 14) (i := 1) (dd dtX6_speaks 8 rfl) rfl rfl ?_
    refine b_iald (pc := 15) (dd dtX6_speaks 9 rfl) pC_46 (by assumption) ?_
    refine b_iload_n (pc := 16) (i := 3) (dd dtX6_speaks 10 rfl) rfl rfl ?_
    refine b_icmp_gt (pc := 17) (tgt := 38) (dd dtX6_speaks 11 rfl) (by decide) (fun h17 => ?_) (fun h17 => ?_)
    · refine b_ic0 (pc := 38) (dd dtX6_speaks 21 rfl) ?_
      refine b_eq (b_zret (dd dtX6_speaks 22 rfl) rfl (by first | rfl | exact nar_bi)) ?_ ?_
      · simp [bi, -Int32.not_lt, -Int32.not_le, *]
      · rfl
    · refine b_aload_n (pc := 20) (i := 0) (dd dtX6_speaks 12 rfl) rfl rfl ?_
      refine b_geta (pc := 21) (dd dtX6_speaks 13 rfl) fwX6_15 pC_42 rC_42_1 ?_
      refine b_iload_n (pc := 24) (i := 1) (dd dtX6_speaks 14 rfl) rfl rfl ?_
      refine b_iald (pc := 25) (dd dtX6_speaks 15 rfl) pC_43 (by assumption) ?_
      refine b_invS (pc := 26) (dd dtX6_speaks 16 rfl) mlX6_56 mvX6_trustIn msX6_trustIn (c_X6_trustIn) rfl rfl (by decide) (Nat.le_of_ble_eq_true rfl) ?_
      refine b_iload (pc := 29) (i := 4) (dd dtX6_speaks 17 rfl) rfl ?_
      refine b_icmp_lt (pc := 31) (tgt := 38) (dd dtX6_speaks 18 rfl) (by decide) (fun h31 => ?_) (fun h31 => ?_)
      · refine b_ic0 (pc := 38) (dd dtX6_speaks 21 rfl) ?_
        refine b_eq (b_zret (dd dtX6_speaks 22 rfl) rfl (by first | rfl | exact nar_bi)) ?_ ?_
        · simp [bi, -Int32.not_lt, -Int32.not_le, *]
        · rfl
      · refine b_ic1 (pc := 34) (dd dtX6_speaks 19 rfl) ?_
        refine b_goto (pc := 35) (tgt := 39) (dd dtX6_speaks 20 rfl) (by decide) ?_
        refine b_eq (b_zret (dd dtX6_speaks 22 rfl) rfl (by first | rfl | exact nar_bi)) ?_ ?_
        · simp [bi, -Int32.not_lt, -Int32.not_le, *]
        · rfl

/-- the span of the first n signs -/
def sLo (kind cell mon val : Nat → Int32) (c known tr : Int32) : Nat → Int32
  | 0 => 0
  | n + 1 => if cell n = c ∧ ¬ known < mon n ∧ ¬ sTrust (kind n) < tr then (if sLo kind cell mon val c known tr n < sLeast (kind n) (val n) then sLeast (kind n) (val n) else sLo kind cell mon val c known tr n) else sLo kind cell mon val c known tr n
def sHi (kind cell mon val : Nat → Int32) (c known tr : Int32) : Nat → Int32
  | 0 => 200
  | n + 1 => if cell n = c ∧ ¬ known < mon n ∧ ¬ sTrust (kind n) < tr then (if sMost (kind n) (val n) < sHi kind cell mon val c known tr n then sMost (kind n) (val n) else sHi kind cell mon val c known tr n) else sHi kind cell mon val c known tr n
def tX6_least : List (Nat × Instr × Nat) := [(0, .iconst 0, 1), (1, .istore 4, 2), (3, .iconst 0, 1), (4, .istore 5, 2), (6, .iload 5, 2), (8, .aload_n 0, 1), (9, .getfield 9, 3), (12, .if_icmp .ge 45, 3), (15, .aload_n 0, 1), (16, .iload 5, 2), (18, .iload_n 1, 1), (19, .iload_n 2, 1), (20, .iload_n 3, 1), (21, .invokevirtual 34, 3), (24, .ifCond .eq 27, 3), (27, .iload 4, 2), (29, .aload_n 0, 1), (30, .getfield 15, 3), (33, .iload 5, 2), (35, .iaload, 1), (36, .aload_n 0, 1), (37, .iload 5, 2), (39, .iload_n 2, 1), (40, .invokevirtual 38, 3), (43, .invokestatic 42, 3), (46, .invokestatic 45, 3), (49, .istore 4, 2), (51, .iinc 5 1, 3), (54, .goto (-48), 3), (57, .iload 4, 2), (59, .ireturn, 1)]
theorem dtX6_least : dec_ok mX6_least.2.1 tX6_least = true := by decide +kernel
set_option maxHeartbeats 4000000 in
theorem l_X6_least {I : Wd} {N : Nat} {c known tr : Int32} (hN : I 42 0 = nI N) (hN2 : N ≤ 30) : ∀ (n h : Nat) (x5 : Int32) (x4 : Int32), h ≤ N → N < h + n → x5 = nI h → x4 = (sLo (I 43) (I 44) (I 46) (sVal (I 48) (I 47) (I 45) known) c known tr h) → Bd SyC mX6_least 2 6 [(5, .int x5), (4, .int x4), (0, .ref 42), (1, .int c), (2, .int known), (3, .int tr)] [] I (some (.int (sLo (I 43) (I 44) (I 46) (sVal (I 48) (I 47) (I 45) known) c known tr N))) I := by
  intro n
  induction n with
  | zero => intro h x5 x4 h1 h2; omega
  | succ n ih =>
    intro h x5 x4 h1 h2 e5 e4
    subst e5; subst e4
    refine b_iload (pc := 6) (i := 5) (dd dtX6_least 4 rfl) rfl ?_
    refine b_aload_n (pc := 8) (i := 0) (dd dtX6_least 5 rfl) rfl rfl ?_
    refine b_geti (pc := 9) (dd dtX6_least 6 rfl) fwX6_9 pC_42 ?_
    refine b_icmpL_ge (pc := 12) (tgt := 57) (dd dtX6_least 7 rfl) (by decide) (fun h12 => ?_) (fun h12 => ?_)
    · rw [hN] at h12
      have he : h = N := Nat.le_antisymm h1 (ge_n h12 (by omega))
      subst he
      refine b_iload (pc := 57) (i := 4) (dd dtX6_least 29 rfl) rfl ?_
      exact b_eq (b_iret (dd dtX6_least 30 rfl) rfl) rfl rfl
    · rw [hN] at h12
      have hlt : h < N := lt_n h12 (by omega) (by omega)
      refine b_aload_n (pc := 15) (i := 0) (dd dtX6_least 8 rfl) rfl rfl ?_
      refine b_iload (pc := 16) (i := 5) (dd dtX6_least 9 rfl) rfl ?_
      refine b_iload_n (pc := 18) (i := 1) (dd dtX6_least 10 rfl) rfl rfl ?_
      refine b_iload_n (pc := 19) (i := 2) (dd dtX6_least 11 rfl) rfl rfl ?_
      refine b_iload_n (pc := 20) (i := 3) (dd dtX6_least 12 rfl) rfl rfl ?_
      refine b_invV (pc := 21) (dd dtX6_least 13 rfl) mlX6_34 mvX6_speaks miX6_speaks (c_X6_speaks (vpn rfl (show h < 30 by omega) (by decide))) oC_42 rfl rfl (by decide) (Nat.le_of_ble_eq_true rfl) ?_
      refine b_ifb_eq (pc := 24) (tgt := 51) (dd dtX6_least 14 rfl) (by decide) (fun h24 => ?_) (fun h24 => ?_)
      · refine b_iinc1 (pc := 51) (i := 5) (lv' := [(5, _), (4, _), (0, _), (1, _), (2, _), (3, _)]) (dd dtX6_least 27 rfl) rfl (Nat.le_of_ble_eq_true rfl) rfl ?_
        refine b_goto (pc := 54) (tgt := 6) (dd dtX6_least 28 rfl) (by decide) ?_
        rw [nI_1]
        refine ih (h + 1) _ _ hlt (by omega) rfl ?_
        · simp only [nI_clamp (show h < 2 ^ 31 by omega)] at *
          simp [sLo, -Int32.not_lt, -Int32.not_le, *]
      · refine b_iload (pc := 27) (i := 4) (dd dtX6_least 15 rfl) rfl ?_
        refine b_aload_n (pc := 29) (i := 0) (dd dtX6_least 16 rfl) rfl rfl ?_
        refine b_geta (pc := 30) (dd dtX6_least 17 rfl) fwX6_15 pC_42 rC_42_1 ?_
        refine b_iload (pc := 33) (i := 5) (dd dtX6_least 18 rfl) rfl ?_
        refine b_iald (pc := 35) (dd dtX6_least 19 rfl) pC_43 (vpn rfl (show h < 30 by omega) (by decide)) ?_
        refine b_aload_n (pc := 36) (i := 0) (dd dtX6_least 20 rfl) rfl rfl ?_
        refine b_iload (pc := 37) (i := 5) (dd dtX6_least 21 rfl) rfl ?_
        refine b_iload_n (pc := 39) (i := 2) (dd dtX6_least 22 rfl) rfl rfl ?_
        refine b_invV (pc := 40) (dd dtX6_least 23 rfl) mlX6_38 mvX6_valueKnown miX6_valueKnown (c_X6_valueKnown (vpn rfl (show h < 30 by omega) (by decide))) oC_42 rfl rfl (by decide) (Nat.le_of_ble_eq_true rfl) ?_
        refine b_invS (pc := 43) (dd dtX6_least 24 rfl) mlX6_42 mvX6_leastBy msX6_leastBy (c_X6_leastBy) rfl rfl (by decide) (Nat.le_of_ble_eq_true rfl) ?_
        refine b_mmax (pc := 46) (dd dtX6_least 25 rfl) wlX6_45 (Nat.le_of_ble_eq_true rfl) ?_
        refine b_istore (pc := 49) (i := 4) (lv' := [(4, _), (5, _), (0, _), (1, _), (2, _), (3, _)]) (dd dtX6_least 26 rfl) (Nat.le_of_ble_eq_true rfl) rfl ?_
        refine b_iinc1 (pc := 51) (i := 5) (lv' := [(5, _), (4, _), (0, _), (1, _), (2, _), (3, _)]) (dd dtX6_least 27 rfl) rfl (Nat.le_of_ble_eq_true rfl) rfl ?_
        refine b_goto (pc := 54) (tgt := 6) (dd dtX6_least 28 rfl) (by decide) ?_
        rw [nI_1]
        refine ih (h + 1) _ _ hlt (by omega) rfl ?_
        · simp only [nI_clamp (show h < 2 ^ 31 by omega)] at *
          simp [sLo, -Int32.not_lt, -Int32.not_le, *]
set_option maxHeartbeats 4000000 in
theorem c_X6_least {I : Wd} {N : Nat} {c known tr : Int32} (hN : I 42 0 = nI N) (hN2 : N ≤ 30) : Cal SyC mX6_least 2 [.ref 42, .int c, .int known, .int tr] I (some (.int (sLo (I 43) (I 44) (I 46) (sVal (I 48) (I 47) (I 45) known) c known tr N))) I := by
  refine Cal.of (by decide) (Nat.le_of_ble_eq_true rfl) ?_
  show Bd _ _ _ _ [(0, _), (1, _), (2, _), (3, _)] _ _ _ _
  refine b_ic0 (pc := 0) (dd dtX6_least 0 rfl) ?_
  refine b_istore (pc := 1) (i := 4) (lv' := [(4, _), (0, _), (1, _), (2, _), (3, _)]) (dd dtX6_least 1 rfl) (Nat.le_of_ble_eq_true rfl) rfl ?_
  refine b_ic0 (pc := 3) (dd dtX6_least 2 rfl) ?_
  refine b_istore (pc := 4) (i := 5) (lv' := [(5, _), (4, _), (0, _), (1, _), (2, _), (3, _)]) (dd dtX6_least 3 rfl) (Nat.le_of_ble_eq_true rfl) rfl ?_
  exact l_X6_least hN hN2 (N + 1) 0 _ _ (Nat.zero_le _) (by omega) rfl rfl
def tX6_most : List (Nat × Instr × Nat) := [(0, .sipush 200, 3), (3, .istore 4, 2), (5, .iconst 0, 1), (6, .istore 5, 2), (8, .iload 5, 2), (10, .aload_n 0, 1), (11, .getfield 9, 3), (14, .if_icmp .ge 45, 3), (17, .aload_n 0, 1), (18, .iload 5, 2), (20, .iload_n 1, 1), (21, .iload_n 2, 1), (22, .iload_n 3, 1), (23, .invokevirtual 34, 3), (26, .ifCond .eq 27, 3), (29, .iload 4, 2), (31, .aload_n 0, 1), (32, .getfield 15, 3), (35, .iload 5, 2), (37, .iaload, 1), (38, .aload_n 0, 1), (39, .iload 5, 2), (41, .iload_n 2, 1), (42, .invokevirtual 38, 3), (45, .invokestatic 50, 3), (48, .invokestatic 53, 3), (51, .istore 4, 2), (53, .iinc 5 1, 3), (56, .goto (-48), 3), (59, .iload 4, 2), (61, .ireturn, 1)]
theorem dtX6_most : dec_ok mX6_most.2.1 tX6_most = true := by decide +kernel
set_option maxHeartbeats 4000000 in
theorem l_X6_most {I : Wd} {N : Nat} {c known tr : Int32} (hN : I 42 0 = nI N) (hN2 : N ≤ 30) : ∀ (n h : Nat) (x5 : Int32) (x4 : Int32), h ≤ N → N < h + n → x5 = nI h → x4 = (sHi (I 43) (I 44) (I 46) (sVal (I 48) (I 47) (I 45) known) c known tr h) → Bd SyC mX6_most 2 8 [(5, .int x5), (4, .int x4), (0, .ref 42), (1, .int c), (2, .int known), (3, .int tr)] [] I (some (.int (sHi (I 43) (I 44) (I 46) (sVal (I 48) (I 47) (I 45) known) c known tr N))) I := by
  intro n
  induction n with
  | zero => intro h x5 x4 h1 h2; omega
  | succ n ih =>
    intro h x5 x4 h1 h2 e5 e4
    subst e5; subst e4
    refine b_iload (pc := 8) (i := 5) (dd dtX6_most 4 rfl) rfl ?_
    refine b_aload_n (pc := 10) (i := 0) (dd dtX6_most 5 rfl) rfl rfl ?_
    refine b_geti (pc := 11) (dd dtX6_most 6 rfl) fwX6_9 pC_42 ?_
    refine b_icmpL_ge (pc := 14) (tgt := 59) (dd dtX6_most 7 rfl) (by decide) (fun h14 => ?_) (fun h14 => ?_)
    · rw [hN] at h14
      have he : h = N := Nat.le_antisymm h1 (ge_n h14 (by omega))
      subst he
      refine b_iload (pc := 59) (i := 4) (dd dtX6_most 29 rfl) rfl ?_
      exact b_eq (b_iret (dd dtX6_most 30 rfl) rfl) rfl rfl
    · rw [hN] at h14
      have hlt : h < N := lt_n h14 (by omega) (by omega)
      refine b_aload_n (pc := 17) (i := 0) (dd dtX6_most 8 rfl) rfl rfl ?_
      refine b_iload (pc := 18) (i := 5) (dd dtX6_most 9 rfl) rfl ?_
      refine b_iload_n (pc := 20) (i := 1) (dd dtX6_most 10 rfl) rfl rfl ?_
      refine b_iload_n (pc := 21) (i := 2) (dd dtX6_most 11 rfl) rfl rfl ?_
      refine b_iload_n (pc := 22) (i := 3) (dd dtX6_most 12 rfl) rfl rfl ?_
      refine b_invV (pc := 23) (dd dtX6_most 13 rfl) mlX6_34 mvX6_speaks miX6_speaks (c_X6_speaks (vpn rfl (show h < 30 by omega) (by decide))) oC_42 rfl rfl (by decide) (Nat.le_of_ble_eq_true rfl) ?_
      refine b_ifb_eq (pc := 26) (tgt := 53) (dd dtX6_most 14 rfl) (by decide) (fun h26 => ?_) (fun h26 => ?_)
      · refine b_iinc1 (pc := 53) (i := 5) (lv' := [(5, _), (4, _), (0, _), (1, _), (2, _), (3, _)]) (dd dtX6_most 27 rfl) rfl (Nat.le_of_ble_eq_true rfl) rfl ?_
        refine b_goto (pc := 56) (tgt := 8) (dd dtX6_most 28 rfl) (by decide) ?_
        rw [nI_1]
        refine ih (h + 1) _ _ hlt (by omega) rfl ?_
        · simp only [nI_clamp (show h < 2 ^ 31 by omega)] at *
          simp [sHi, -Int32.not_lt, -Int32.not_le, *]
      · refine b_iload (pc := 29) (i := 4) (dd dtX6_most 15 rfl) rfl ?_
        refine b_aload_n (pc := 31) (i := 0) (dd dtX6_most 16 rfl) rfl rfl ?_
        refine b_geta (pc := 32) (dd dtX6_most 17 rfl) fwX6_15 pC_42 rC_42_1 ?_
        refine b_iload (pc := 35) (i := 5) (dd dtX6_most 18 rfl) rfl ?_
        refine b_iald (pc := 37) (dd dtX6_most 19 rfl) pC_43 (vpn rfl (show h < 30 by omega) (by decide)) ?_
        refine b_aload_n (pc := 38) (i := 0) (dd dtX6_most 20 rfl) rfl rfl ?_
        refine b_iload (pc := 39) (i := 5) (dd dtX6_most 21 rfl) rfl ?_
        refine b_iload_n (pc := 41) (i := 2) (dd dtX6_most 22 rfl) rfl rfl ?_
        refine b_invV (pc := 42) (dd dtX6_most 23 rfl) mlX6_38 mvX6_valueKnown miX6_valueKnown (c_X6_valueKnown (vpn rfl (show h < 30 by omega) (by decide))) oC_42 rfl rfl (by decide) (Nat.le_of_ble_eq_true rfl) ?_
        refine b_invS (pc := 45) (dd dtX6_most 24 rfl) mlX6_50 mvX6_mostBy msX6_mostBy (c_X6_mostBy) rfl rfl (by decide) (Nat.le_of_ble_eq_true rfl) ?_
        refine b_mmin (pc := 48) (dd dtX6_most 25 rfl) wlX6_53 (Nat.le_of_ble_eq_true rfl) ?_
        refine b_istore (pc := 51) (i := 4) (lv' := [(4, _), (5, _), (0, _), (1, _), (2, _), (3, _)]) (dd dtX6_most 26 rfl) (Nat.le_of_ble_eq_true rfl) rfl ?_
        refine b_iinc1 (pc := 53) (i := 5) (lv' := [(5, _), (4, _), (0, _), (1, _), (2, _), (3, _)]) (dd dtX6_most 27 rfl) rfl (Nat.le_of_ble_eq_true rfl) rfl ?_
        refine b_goto (pc := 56) (tgt := 8) (dd dtX6_most 28 rfl) (by decide) ?_
        rw [nI_1]
        refine ih (h + 1) _ _ hlt (by omega) rfl ?_
        · simp only [nI_clamp (show h < 2 ^ 31 by omega)] at *
          simp [sHi, -Int32.not_lt, -Int32.not_le, *]
set_option maxHeartbeats 4000000 in
theorem c_X6_most {I : Wd} {N : Nat} {c known tr : Int32} (hN : I 42 0 = nI N) (hN2 : N ≤ 30) : Cal SyC mX6_most 2 [.ref 42, .int c, .int known, .int tr] I (some (.int (sHi (I 43) (I 44) (I 46) (sVal (I 48) (I 47) (I 45) known) c known tr N))) I := by
  refine Cal.of (by decide) (Nat.le_of_ble_eq_true rfl) ?_
  show Bd _ _ _ _ [(0, _), (1, _), (2, _), (3, _)] _ _ _ _
  refine b_sipush (pc := 0) (v := 200) (dd dtX6_most 0 rfl) (by decide) ?_
  refine b_istore (pc := 3) (i := 4) (lv' := [(4, _), (0, _), (1, _), (2, _), (3, _)]) (dd dtX6_most 1 rfl) (Nat.le_of_ble_eq_true rfl) rfl ?_
  refine b_ic0 (pc := 5) (dd dtX6_most 2 rfl) ?_
  refine b_istore (pc := 6) (i := 5) (lv' := [(5, _), (4, _), (0, _), (1, _), (2, _), (3, _)]) (dd dtX6_most 3 rfl) (Nat.le_of_ble_eq_true rfl) rfl ?_
  exact l_X6_most hN hN2 (N + 1) 0 _ _ (Nat.zero_le _) (by omega) rfl rfl
def tX6_add : List (Nat × Instr × Nat) := [(0, .aload_n 0, 1), (1, .getfield 9, 3), (4, .bipush 30, 2), (6, .if_icmp .lt 6, 3), (9, .bipush (-4), 2), (11, .ireturn, 1), (12, .aload_n 0, 1), (13, .getfield 15, 3), (16, .aload_n 0, 1), (17, .getfield 9, 3), (20, .iload_n 1, 1), (21, .iastore, 1), (22, .aload_n 0, 1), (23, .getfield 19, 3), (26, .aload_n 0, 1), (27, .getfield 9, 3), (30, .iload_n 2, 1), (31, .iastore, 1), (32, .aload_n 0, 1), (33, .getfield 22, 3), (36, .aload_n 0, 1), (37, .getfield 9, 3), (40, .iload_n 3, 1), (41, .iastore, 1), (42, .aload_n 0, 1), (43, .getfield 25, 3), (46, .aload_n 0, 1), (47, .getfield 9, 3), (50, .iload 4, 2), (52, .iastore, 1), (53, .aload_n 0, 1), (54, .getfield 31, 3), (57, .aload_n 0, 1), (58, .getfield 9, 3), (61, .iconst (-1), 1), (62, .iastore, 1), (63, .aload_n 0, 1), (64, .dup, 1), (65, .getfield 9, 3), (68, .iconst 1, 1), (69, .iadd, 1), (70, .putfield 9, 3), (73, .aload_n 0, 1), (74, .getfield 9, 3), (77, .iconst 1, 1), (78, .isub, 1), (79, .ireturn, 1)]
theorem dtX6_add : dec_ok mX6_add.2.1 tX6_add = true := by decide +kernel
set_option maxHeartbeats 4000000 in
theorem c_X6_add {I : Wd} {N : Nat} {k c v m : Int32} (hN : I 42 0 = nI N) (hN2 : N < 30) : Cal SyC mX6_add 0 [.ref 42, .int k, .int c, .int v, .int m] I (some (.int (nI N))) (ist (ist (ist (ist (ist (ist I 43 N k) 44 N c) 45 N v) 46 N m) 48 N (-1)) 42 0 (nI (N + 1))) := by
  refine Cal.of (by decide) (Nat.le_of_ble_eq_true rfl) ?_
  show Bd _ _ _ _ [(0, _), (1, _), (2, _), (3, _), (4, _)] _ _ _ _
  refine b_aload_n (pc := 0) (i := 0) (dd dtX6_add 0 rfl) rfl rfl ?_
  refine b_geti (pc := 1) (dd dtX6_add 1 rfl) fwX6_9 pC_42 ?_
  refine b_bipush (pc := 4) (v := 30) (dd dtX6_add 2 rfl) (by decide) ?_
  rw [hN]
  refine b_icmp_lt (pc := 6) (tgt := 12) (dd dtX6_add 3 rfl) (by decide) (fun h6 => ?_) (fun h6 => ?_)
  · refine b_aload_n (pc := 12) (i := 0) (dd dtX6_add 6 rfl) rfl rfl ?_
    refine b_geta (pc := 13) (dd dtX6_add 7 rfl) fwX6_15 pC_42 rC_42_1 ?_
    refine b_aload_n (pc := 16) (i := 0) (dd dtX6_add 8 rfl) rfl rfl ?_
    refine b_geti (pc := 17) (dd dtX6_add 9 rfl) fwX6_9 pC_42 ?_
    refine b_iload_n (pc := 20) (i := 1) (dd dtX6_add 10 rfl) rfl rfl ?_
    refine b_iast (pc := 21) (dd dtX6_add 11 rfl) pC_43 (by simp only [ist_eq, ist_ne, upd_eq, upd_ne, ne_eq, Nat.reduceEqDiff, not_false_eq_true, hN]; exact vpn rfl hN2 (by decide)) ?_
    refine b_aload_n (pc := 22) (i := 0) (dd dtX6_add 12 rfl) rfl rfl ?_
    refine b_geta (pc := 23) (dd dtX6_add 13 rfl) fwX6_19 pC_42 rC_42_2 ?_
    refine b_aload_n (pc := 26) (i := 0) (dd dtX6_add 14 rfl) rfl rfl ?_
    refine b_geti (pc := 27) (dd dtX6_add 15 rfl) fwX6_9 pC_42 ?_
    refine b_iload_n (pc := 30) (i := 2) (dd dtX6_add 16 rfl) rfl rfl ?_
    refine b_iast (pc := 31) (dd dtX6_add 17 rfl) pC_44 (by simp only [ist_eq, ist_ne, upd_eq, upd_ne, ne_eq, Nat.reduceEqDiff, not_false_eq_true, hN]; exact vpn rfl hN2 (by decide)) ?_
    refine b_aload_n (pc := 32) (i := 0) (dd dtX6_add 18 rfl) rfl rfl ?_
    refine b_geta (pc := 33) (dd dtX6_add 19 rfl) fwX6_22 pC_42 rC_42_3 ?_
    refine b_aload_n (pc := 36) (i := 0) (dd dtX6_add 20 rfl) rfl rfl ?_
    refine b_geti (pc := 37) (dd dtX6_add 21 rfl) fwX6_9 pC_42 ?_
    refine b_iload_n (pc := 40) (i := 3) (dd dtX6_add 22 rfl) rfl rfl ?_
    refine b_iast (pc := 41) (dd dtX6_add 23 rfl) pC_45 (by simp only [ist_eq, ist_ne, upd_eq, upd_ne, ne_eq, Nat.reduceEqDiff, not_false_eq_true, hN]; exact vpn rfl hN2 (by decide)) ?_
    refine b_aload_n (pc := 42) (i := 0) (dd dtX6_add 24 rfl) rfl rfl ?_
    refine b_geta (pc := 43) (dd dtX6_add 25 rfl) fwX6_25 pC_42 rC_42_4 ?_
    refine b_aload_n (pc := 46) (i := 0) (dd dtX6_add 26 rfl) rfl rfl ?_
    refine b_geti (pc := 47) (dd dtX6_add 27 rfl) fwX6_9 pC_42 ?_
    refine b_iload (pc := 50) (i := 4) (dd dtX6_add 28 rfl) rfl ?_
    refine b_iast (pc := 52) (dd dtX6_add 29 rfl) pC_46 (by simp only [ist_eq, ist_ne, upd_eq, upd_ne, ne_eq, Nat.reduceEqDiff, not_false_eq_true, hN]; exact vpn rfl hN2 (by decide)) ?_
    refine b_aload_n (pc := 53) (i := 0) (dd dtX6_add 30 rfl) rfl rfl ?_
    refine b_geta (pc := 54) (dd dtX6_add 31 rfl) fwX6_31 pC_42 rC_42_6 ?_
    refine b_aload_n (pc := 57) (i := 0) (dd dtX6_add 32 rfl) rfl rfl ?_
    refine b_geti (pc := 58) (dd dtX6_add 33 rfl) fwX6_9 pC_42 ?_
    refine b_icm1 (pc := 61) (dd dtX6_add 34 rfl) ?_
    refine b_iast (pc := 62) (dd dtX6_add 35 rfl) pC_48 (by simp only [ist_eq, ist_ne, upd_eq, upd_ne, ne_eq, Nat.reduceEqDiff, not_false_eq_true, hN]; exact vpn rfl hN2 (by decide)) ?_
    refine b_aload_n (pc := 63) (i := 0) (dd dtX6_add 36 rfl) rfl rfl ?_
    refine b_dup (pc := 64) (dd dtX6_add 37 rfl) rfl ?_
    refine b_geti (pc := 65) (dd dtX6_add 38 rfl) fwX6_9 pC_42 ?_
    refine b_ic1 (pc := 68) (dd dtX6_add 39 rfl) ?_
    refine b_iadd (pc := 69) (dd dtX6_add 40 rfl) ?_
    refine b_puti (pc := 70) (dd dtX6_add 41 rfl) fwX6_9 pC_42 ?_
    refine b_aload_n (pc := 73) (i := 0) (dd dtX6_add 42 rfl) rfl rfl ?_
    refine b_geti (pc := 74) (dd dtX6_add 43 rfl) fwX6_9 pC_42 ?_
    refine b_ic1 (pc := 77) (dd dtX6_add 44 rfl) ?_
    refine b_isub (pc := 78) (dd dtX6_add 45 rfl) ?_
    refine b_eq (b_iret (dd dtX6_add 46 rfl) rfl) ?_ ?_
    · simp [ist_eq, ist_ne, upd_eq, upd_ne, hN, nI_1, nI_pred]
    · simp [ist_eq, ist_ne, upd_eq, upd_ne, hN, nI_1, nI_clamp (show N < 2 ^ 31 by omega)]
  · exact absurd (nI_lt hN2 (by decide)) h6
