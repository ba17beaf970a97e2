/-! the reference: signs, spans -/
def mLk (v : Int32) : Int32 := if 15 < v then v - 15 else 0
def mLeast (kind v : Int32) : Int32 := if kind = 1 then 2 * v else if kind = 2 then mLk v else if kind = 3 then 2 * v / 4 else if kind = 4 then mLk v / 2 else if kind = 5 then (if 0 < v then 10 else 0) else (if 0 < v then 1 else 0)
def mMost (kind v : Int32) : Int32 := if kind = 2 then v + 15 else if kind = 4 then v + 40 else 200
def mLo (kind cell mon val : Nat → Int32) (c known tr : Int32) : Nat → Int32
  | 0 => 0
  | n + 1 => if cell n = c ∧ ¬ known < mon n ∧ ¬ sTrust (kind n) < tr then (if mLo kind cell mon val c known tr n < mLeast (kind n) (val n) then mLeast (kind n) (val n) else mLo kind cell mon val c known tr n) else mLo kind cell mon val c known tr n
def mHi (kind cell mon val : Nat → Int32) (c known tr : Int32) : Nat → Int32
  | 0 => 200
  | n + 1 => if cell n = c ∧ ¬ known < mon n ∧ ¬ sTrust (kind n) < tr then (if mMost (kind n) (val n) < mHi kind cell mon val c known tr n then mMost (kind n) (val n) else mHi kind cell mon val c known tr n) else mHi kind cell mon val c known tr n
def tX11_in : List (Nat × Instr × Nat) := [(0, .iload_n 1, 1), (1, .iload_n 2, 1), (2, .if_icmp .lt 12, 3), (5, .iload_n 1, 1), (6, .iload_n 3, 1), (7, .if_icmp .gt 7, 3), (10, .iconst 1, 1), (11, .goto 4, 3), (14, .iconst 0, 1), (15, .ireturn, 1)]
theorem dtX11_in : dec_ok mX11_in.2.1 tX11_in = true := by decide +kernel
set_option maxHeartbeats 4000000 in
theorem c_X11_in {I : Wd} {v lo hi : Int32} : Cal SyM mX11_in 0 [.ref 0, .int v, .int lo, .int hi] I (some (.int (bi (inR v lo hi)))) I := by
  refine Cal.of (by decide) (Nat.le_of_ble_eq_true rfl) ?_
  show Bd _ _ _ _ [(0, _), (1, _), (2, _), (3, _)] _ _ _ _
  refine b_iload_n (pc := 0) (i := 1) (dd dtX11_in 0 rfl) rfl rfl ?_
  refine b_iload_n (pc := 1) (i := 2) (dd dtX11_in 1 rfl) rfl rfl ?_
  refine b_icmp_lt (pc := 2) (tgt := 14) (dd dtX11_in 2 rfl) (by decide) (fun h2 => ?_) (fun h2 => ?_)
  · refine b_ic0 (pc := 14) (dd dtX11_in 8 rfl) ?_
    refine b_eq (b_zret (dd dtX11_in 9 rfl) rfl (by first | rfl | exact nar_bi)) ?_ ?_
    · simp_all [bi]
    · rfl
  · refine b_iload_n (pc := 5) (i := 1) (dd dtX11_in 3 rfl) rfl rfl ?_
    refine b_iload_n (pc := 6) (i := 3) (dd dtX11_in 4 rfl) rfl rfl ?_
    refine b_icmp_gt (pc := 7) (tgt := 14) (dd dtX11_in 5 rfl) (by decide) (fun h7 => ?_) (fun h7 => ?_)
    · refine b_ic0 (pc := 14) (dd dtX11_in 8 rfl) ?_
      refine b_eq (b_zret (dd dtX11_in 9 rfl) rfl (by first | rfl | exact nar_bi)) ?_ ?_
      · simp_all [bi]
      · rfl
    · refine b_ic1 (pc := 10) (dd dtX11_in 6 rfl) ?_
      refine b_goto (pc := 11) (tgt := 15) (dd dtX11_in 7 rfl) (by decide) ?_
      refine b_eq (b_zret (dd dtX11_in 9 rfl) rfl (by first | rfl | exact nar_bi)) ?_ ?_
      · simp_all [bi]
      · rfl
def tX11_isCell : List (Nat × Instr × Nat) := [(0, .aload_n 0, 1), (1, .iload_n 1, 1), (2, .iconst 0, 1), (3, .bipush 63, 2), (5, .invokevirtual 1, 3), (8, .ireturn, 1)]
theorem dtX11_isCell : dec_ok mX11_isCell.2.1 tX11_isCell = true := by decide +kernel
set_option maxHeartbeats 4000000 in
theorem c_X11_isCell {I : Wd} {c : Int32} : Cal SyM mX11_isCell 1 [.ref 0, .int c] I (some (.int (bi (inR c 0 63)))) I := by
  refine Cal.of (by decide) (Nat.le_of_ble_eq_true rfl) ?_
  show Bd _ _ _ _ [(0, _), (1, _)] _ _ _ _
  refine b_aload_n (pc := 0) (i := 0) (dd dtX11_isCell 0 rfl) rfl rfl ?_
  refine b_iload_n (pc := 1) (i := 1) (dd dtX11_isCell 1 rfl) rfl rfl ?_
  refine b_ic0 (pc := 2) (dd dtX11_isCell 2 rfl) ?_
  refine b_bipush (pc := 3) (v := 63) (dd dtX11_isCell 3 rfl) (by decide) ?_
  refine b_invV (pc := 5) (dd dtX11_isCell 4 rfl) mlX11_1 mvX11_in miX11_in (c_X11_in) oM_0 rfl rfl (by decide) (Nat.le_of_ble_eq_true rfl) ?_
  exact b_eq (b_zret (dd dtX11_isCell 5 rfl) rfl (by first | rfl | exact nar_bi)) rfl rfl
def tX11_isSheet : List (Nat × Instr × Nat) := [(0, .aload_n 0, 1), (1, .iload_n 1, 1), (2, .iconst 0, 1), (3, .iconst 3, 1), (4, .invokevirtual 1, 3), (7, .ireturn, 1)]
theorem dtX11_isSheet : dec_ok mX11_isSheet.2.1 tX11_isSheet = true := by decide +kernel
set_option maxHeartbeats 4000000 in
theorem c_X11_isSheet {I : Wd} {c : Int32} : Cal SyM mX11_isSheet 1 [.ref 0, .int c] I (some (.int (bi (inR c 0 3)))) I := by
  refine Cal.of (by decide) (Nat.le_of_ble_eq_true rfl) ?_
  show Bd _ _ _ _ [(0, _), (1, _)] _ _ _ _
  refine b_aload_n (pc := 0) (i := 0) (dd dtX11_isSheet 0 rfl) rfl rfl ?_
  refine b_iload_n (pc := 1) (i := 1) (dd dtX11_isSheet 1 rfl) rfl rfl ?_
  refine b_ic0 (pc := 2) (dd dtX11_isSheet 2 rfl) ?_
  refine b_ic3 (pc := 3) (dd dtX11_isSheet 3 rfl) ?_
  refine b_invV (pc := 4) (dd dtX11_isSheet 4 rfl) mlX11_1 mvX11_in miX11_in (c_X11_in) oM_0 rfl rfl (by decide) (Nat.le_of_ble_eq_true rfl) ?_
  exact b_eq (b_zret (dd dtX11_isSheet 5 rfl) rfl (by first | rfl | exact nar_bi)) rfl rfl
def tX11_isLetter : List (Nat × Instr × Nat) := [(0, .aload_n 0, 1), (1, .iload_n 1, 1), (2, .bipush 97, 2), (4, .bipush 122, 2), (6, .invokevirtual 1, 3), (9, .ireturn, 1)]
theorem dtX11_isLetter : dec_ok mX11_isLetter.2.1 tX11_isLetter = true := by decide +kernel
set_option maxHeartbeats 4000000 in
theorem c_X11_isLetter {I : Wd} {c : Int32} : Cal SyM mX11_isLetter 1 [.ref 0, .int c] I (some (.int (bi (inR c 97 122)))) I := by
  refine Cal.of (by decide) (Nat.le_of_ble_eq_true rfl) ?_
  show Bd _ _ _ _ [(0, _), (1, _)] _ _ _ _
  refine b_aload_n (pc := 0) (i := 0) (dd dtX11_isLetter 0 rfl) rfl rfl ?_
  refine b_iload_n (pc := 1) (i := 1) (dd dtX11_isLetter 1 rfl) rfl rfl ?_
  refine b_bipush (pc := 2) (v := 97) (dd dtX11_isLetter 2 rfl) (by decide) ?_
  refine b_bipush (pc := 4) (v := 122) (dd dtX11_isLetter 3 rfl) (by decide) ?_
  refine b_invV (pc := 6) (dd dtX11_isLetter 4 rfl) mlX11_1 mvX11_in miX11_in (c_X11_in) oM_0 rfl rfl (by decide) (Nat.le_of_ble_eq_true rfl) ?_
  exact b_eq (b_zret (dd dtX11_isLetter 5 rfl) rfl (by first | rfl | exact nar_bi)) rfl rfl
def tX11_isDigit : List (Nat × Instr × Nat) := [(0, .aload_n 0, 1), (1, .iload_n 1, 1), (2, .bipush 48, 2), (4, .bipush 57, 2), (6, .invokevirtual 1, 3), (9, .ireturn, 1)]
theorem dtX11_isDigit : dec_ok mX11_isDigit.2.1 tX11_isDigit = true := by decide +kernel
set_option maxHeartbeats 4000000 in
theorem c_X11_isDigit {I : Wd} {c : Int32} : Cal SyM mX11_isDigit 1 [.ref 0, .int c] I (some (.int (bi (inR c 48 57)))) I := by
  refine Cal.of (by decide) (Nat.le_of_ble_eq_true rfl) ?_
  show Bd _ _ _ _ [(0, _), (1, _)] _ _ _ _
  refine b_aload_n (pc := 0) (i := 0) (dd dtX11_isDigit 0 rfl) rfl rfl ?_
  refine b_iload_n (pc := 1) (i := 1) (dd dtX11_isDigit 1 rfl) rfl rfl ?_
  refine b_bipush (pc := 2) (v := 48) (dd dtX11_isDigit 2 rfl) (by decide) ?_
  refine b_bipush (pc := 4) (v := 57) (dd dtX11_isDigit 3 rfl) (by decide) ?_
  refine b_invV (pc := 6) (dd dtX11_isDigit 4 rfl) mlX11_1 mvX11_in miX11_in (c_X11_in) oM_0 rfl rfl (by decide) (Nat.le_of_ble_eq_true rfl) ?_
  exact b_eq (b_zret (dd dtX11_isDigit 5 rfl) rfl (by first | rfl | exact nar_bi)) rfl rfl
def tX11_isHouse : List (Nat × Instr × Nat) := [(0, .aload_n 0, 1), (1, .iload_n 1, 1), (2, .iconst 0, 1), (3, .aload_n 0, 1), (4, .getfield 23, 3), (7, .iconst 1, 1), (8, .isub, 1), (9, .invokevirtual 1, 3), (12, .ireturn, 1)]
theorem dtX11_isHouse : dec_ok mX11_isHouse.2.1 tX11_isHouse = true := by decide +kernel
set_option maxHeartbeats 4000000 in
theorem c_X11_isHouse {I : Wd} {c : Int32} : Cal SyM mX11_isHouse 1 [.ref 0, .int c] I (some (.int (bi (inR c 0 (I 0 3 - 1))))) I := by
  refine Cal.of (by decide) (Nat.le_of_ble_eq_true rfl) ?_
  show Bd _ _ _ _ [(0, _), (1, _)] _ _ _ _
  refine b_aload_n (pc := 0) (i := 0) (dd dtX11_isHouse 0 rfl) rfl rfl ?_
  refine b_iload_n (pc := 1) (i := 1) (dd dtX11_isHouse 1 rfl) rfl rfl ?_
  refine b_ic0 (pc := 2) (dd dtX11_isHouse 2 rfl) ?_
  refine b_aload_n (pc := 3) (i := 0) (dd dtX11_isHouse 3 rfl) rfl rfl ?_
  refine b_geti (pc := 4) (dd dtX11_isHouse 4 rfl) fwX11_23 pM_0 ?_
  refine b_ic1 (pc := 7) (dd dtX11_isHouse 5 rfl) ?_
  refine b_isub (pc := 8) (dd dtX11_isHouse 6 rfl) ?_
  refine b_invV (pc := 9) (dd dtX11_isHouse 7 rfl) mlX11_1 mvX11_in miX11_in (c_X11_in) oM_0 rfl rfl (by decide) (Nat.le_of_ble_eq_true rfl) ?_
  exact b_eq (b_zret (dd dtX11_isHouse 8 rfl) rfl (by first | rfl | exact nar_bi)) rfl rfl
def tX11_isSign : List (Nat × Instr × Nat) := [(0, .aload_n 0, 1), (1, .iload_n 1, 1), (2, .iconst 0, 1), (3, .aload_n 0, 1), (4, .getfield 79, 3), (7, .iconst 1, 1), (8, .isub, 1), (9, .invokevirtual 1, 3), (12, .ireturn, 1)]
theorem dtX11_isSign : dec_ok mX11_isSign.2.1 tX11_isSign = true := by decide +kernel
set_option maxHeartbeats 4000000 in
theorem c_X11_isSign {I : Wd} {c : Int32} : Cal SyM mX11_isSign 1 [.ref 0, .int c] I (some (.int (bi (inR c 0 (I 0 21 - 1))))) I := by
  refine Cal.of (by decide) (Nat.le_of_ble_eq_true rfl) ?_
  show Bd _ _ _ _ [(0, _), (1, _)] _ _ _ _
  refine b_aload_n (pc := 0) (i := 0) (dd dtX11_isSign 0 rfl) rfl rfl ?_
  refine b_iload_n (pc := 1) (i := 1) (dd dtX11_isSign 1 rfl) rfl rfl ?_
  refine b_ic0 (pc := 2) (dd dtX11_isSign 2 rfl) ?_
  refine b_aload_n (pc := 3) (i := 0) (dd dtX11_isSign 3 rfl) rfl rfl ?_
  refine b_geti (pc := 4) (dd dtX11_isSign 4 rfl) fwX11_79 pM_0 ?_
  refine b_ic1 (pc := 7) (dd dtX11_isSign 5 rfl) ?_
  refine b_isub (pc := 8) (dd dtX11_isSign 6 rfl) ?_
  refine b_invV (pc := 9) (dd dtX11_isSign 7 rfl) mlX11_1 mvX11_in miX11_in (c_X11_in) oM_0 rfl rfl (by decide) (Nat.le_of_ble_eq_true rfl) ?_
  exact b_eq (b_zret (dd dtX11_isSign 8 rfl) rfl (by first | rfl | exact nar_bi)) rfl rfl
def tX11_isKnown : List (Nat × Instr × Nat) := [(0, .aload_n 0, 1), (1, .iload_n 1, 1), (2, .iconst 0, 1), (3, .aload_n 0, 1), (4, .getfield 13, 3), (7, .invokevirtual 1, 3), (10, .ireturn, 1)]
theorem dtX11_isKnown : dec_ok mX11_isKnown.2.1 tX11_isKnown = true := by decide +kernel
set_option maxHeartbeats 4000000 in
theorem c_X11_isKnown {I : Wd} {c : Int32} : Cal SyM mX11_isKnown 1 [.ref 0, .int c] I (some (.int (bi (inR c 0 (I 0 0))))) I := by
  refine Cal.of (by decide) (Nat.le_of_ble_eq_true rfl) ?_
  show Bd _ _ _ _ [(0, _), (1, _)] _ _ _ _
  refine b_aload_n (pc := 0) (i := 0) (dd dtX11_isKnown 0 rfl) rfl rfl ?_
  refine b_iload_n (pc := 1) (i := 1) (dd dtX11_isKnown 1 rfl) rfl rfl ?_
  refine b_ic0 (pc := 2) (dd dtX11_isKnown 2 rfl) ?_
  refine b_aload_n (pc := 3) (i := 0) (dd dtX11_isKnown 3 rfl) rfl rfl ?_
  refine b_geti (pc := 4) (dd dtX11_isKnown 4 rfl) fwX11_13 pM_0 ?_
  refine b_invV (pc := 7) (dd dtX11_isKnown 5 rfl) mlX11_1 mvX11_in miX11_in (c_X11_in) oM_0 rfl rfl (by decide) (Nat.le_of_ble_eq_true rfl) ?_
  exact b_eq (b_zret (dd dtX11_isKnown 6 rfl) rfl (by first | rfl | exact nar_bi)) rfl rfl
def tX11_ground : List (Nat × Instr × Nat) := [(0, .aload_n 0, 1), (1, .iload_n 1, 1), (2, .invokevirtual 248, 3), (5, .ifCond .ne 5, 3), (8, .iconst (-1), 1), (9, .ireturn, 1), (10, .aload_n 0, 1), (11, .iload_n 2, 1), (12, .iconst 0, 1), (13, .iconst 3, 1), (14, .invokevirtual 1, 3), (17, .ifCond .eq 15, 3), (20, .aload_n 0, 1), (21, .iload_n 3, 1), (22, .iconst 0, 1), (23, .sipush 200, 3), (26, .invokevirtual 1, 3), (29, .ifCond .ne 6, 3), (32, .bipush (-2), 2), (34, .ireturn, 1), (35, .aload_n 0, 1), (36, .getfield 39, 3), (39, .iload_n 1, 1), (40, .iaload, 1), (41, .ifCond .lt 6, 3), (44, .bipush (-3), 2), (46, .ireturn, 1), (47, .aload_n 0, 1), (48, .getfield 33, 3), (51, .iload_n 1, 1), (52, .iaload, 1), (53, .istore 4, 2), (55, .aload_n 0, 1), (56, .getfield 29, 3), (59, .iload_n 1, 1), (60, .iload_n 2, 1), (61, .iastore, 1), (62, .aload_n 0, 1), (63, .getfield 33, 3), (66, .iload_n 1, 1), (67, .iload_n 3, 1), (68, .iastore, 1), (69, .iload 4, 2), (71, .ireturn, 1)]
theorem dtX11_ground : dec_ok mX11_ground.2.1 tX11_ground = true := by decide +kernel
set_option maxHeartbeats 4000000 in
theorem c_X11_ground {I : Wd} {c r h : Int32} : Cal SyM mX11_ground 2 [.ref 0, .int c, .int r, .int h] I (some (.int (vGround (I 4) (I 2) c r h))) (if okGround (I 4) c r h then ist (ist I 1 c.toNatClampNeg r) 2 c.toNatClampNeg h else I) := by
  refine Cal.of (by decide) (Nat.le_of_ble_eq_true rfl) ?_
  show Bd _ _ _ _ [(0, _), (1, _), (2, _), (3, _)] _ _ _ _
  refine b_aload_n (pc := 0) (i := 0) (dd dtX11_ground 0 rfl) rfl rfl ?_
  refine b_iload_n (pc := 1) (i := 1) (dd dtX11_ground 1 rfl) rfl rfl ?_
  refine b_invV (pc := 2) (dd dtX11_ground 2 rfl) mlX11_248 mvX11_isCell miX11_isCell (c_X11_isCell) oM_0 rfl rfl (by decide) (Nat.le_of_ble_eq_true rfl) ?_
  refine b_ifb_ne (pc := 5) (tgt := 10) (dd dtX11_ground 3 rfl) (by decide) (fun h5 => ?_) (fun h5 => ?_)
  · refine b_aload_n (pc := 10) (i := 0) (dd dtX11_ground 6 rfl) rfl rfl ?_
    refine b_iload_n (pc := 11) (i := 2) (dd dtX11_ground 7 rfl) rfl rfl ?_
    refine b_ic0 (pc := 12) (dd dtX11_ground 8 rfl) ?_
    refine b_ic3 (pc := 13) (dd dtX11_ground 9 rfl) ?_
    refine b_invV (pc := 14) (dd dtX11_ground 10 rfl) mlX11_1 mvX11_in miX11_in (c_X11_in) oM_0 rfl rfl (by decide) (Nat.le_of_ble_eq_true rfl) ?_
    refine b_ifb_eq (pc := 17) (tgt := 32) (dd dtX11_ground 11 rfl) (by decide) (fun h17 => ?_) (fun h17 => ?_)
    · refine b_bipush (pc := 32) (v := -2) (dd dtX11_ground 18 rfl) (by decide) ?_
      refine b_eq (b_iret (dd dtX11_ground 19 rfl) rfl) ?_ ?_
      · (try clear hN); simp [inR, vGround, okGround, -Int32.not_lt, -Int32.not_le, *]
      · (try clear hN); simp [inR, vGround, okGround, -Int32.not_lt, -Int32.not_le, *]
    · refine b_aload_n (pc := 20) (i := 0) (dd dtX11_ground 12 rfl) rfl rfl ?_
      refine b_iload_n (pc := 21) (i := 3) (dd dtX11_ground 13 rfl) rfl rfl ?_
      refine b_ic0 (pc := 22) (dd dtX11_ground 14 rfl) ?_
      refine b_sipush (pc := 23) (v := 200) (dd dtX11_ground 15 rfl) (by decide) ?_
      refine b_invV (pc := 26) (dd dtX11_ground 16 rfl) mlX11_1 mvX11_in miX11_in (c_X11_in) oM_0 rfl rfl (by decide) (Nat.le_of_ble_eq_true rfl) ?_
      refine b_ifb_ne (pc := 29) (tgt := 35) (dd dtX11_ground 17 rfl) (by decide) (fun h29 => ?_) (fun h29 => ?_)
      · refine b_aload_n (pc := 35) (i := 0) (dd dtX11_ground 20 rfl) rfl rfl ?_
        refine b_geta (pc := 36) (dd dtX11_ground 21 rfl) fwX11_39 pM_0 rM_0_8 ?_
        refine b_iload_n (pc := 39) (i := 1) (dd dtX11_ground 22 rfl) rfl rfl ?_
        refine b_iald (pc := 40) (dd dtX11_ground 23 rfl) pM_4 (vpc (by assumption) (by decide)) ?_
        refine b_if_lt (pc := 41) (tgt := 47) (dd dtX11_ground 24 rfl) (by decide) (fun h41 => ?_) (fun h41 => ?_)
        · refine b_aload_n (pc := 47) (i := 0) (dd dtX11_ground 27 rfl) rfl rfl ?_
          refine b_geta (pc := 48) (dd dtX11_ground 28 rfl) fwX11_33 pM_0 rM_0_6 ?_
          refine b_iload_n (pc := 51) (i := 1) (dd dtX11_ground 29 rfl) rfl rfl ?_
          refine b_iald (pc := 52) (dd dtX11_ground 30 rfl) pM_2 (vpc (by assumption) (by decide)) ?_
          refine b_istore (pc := 53) (i := 4) (lv' := [(4, _), (0, _), (1, _), (2, _), (3, _)]) (dd dtX11_ground 31 rfl) (Nat.le_of_ble_eq_true rfl) rfl ?_
          refine b_aload_n (pc := 55) (i := 0) (dd dtX11_ground 32 rfl) rfl rfl ?_
          refine b_geta (pc := 56) (dd dtX11_ground 33 rfl) fwX11_29 pM_0 rM_0_5 ?_
          refine b_iload_n (pc := 59) (i := 1) (dd dtX11_ground 34 rfl) rfl rfl ?_
          refine b_iload_n (pc := 60) (i := 2) (dd dtX11_ground 35 rfl) rfl rfl ?_
          refine b_iast (pc := 61) (dd dtX11_ground 36 rfl) pM_1 (vpc (by assumption) (by decide)) ?_
          refine b_aload_n (pc := 62) (i := 0) (dd dtX11_ground 37 rfl) rfl rfl ?_
          refine b_geta (pc := 63) (dd dtX11_ground 38 rfl) fwX11_33 pM_0 rM_0_6 ?_
          refine b_iload_n (pc := 66) (i := 1) (dd dtX11_ground 39 rfl) rfl rfl ?_
          refine b_iload_n (pc := 67) (i := 3) (dd dtX11_ground 40 rfl) rfl rfl ?_
          refine b_iast (pc := 68) (dd dtX11_ground 41 rfl) pM_2 (vpc (by assumption) (by decide)) ?_
          refine b_iload (pc := 69) (i := 4) (dd dtX11_ground 42 rfl) rfl ?_
          refine b_eq (b_iret (dd dtX11_ground 43 rfl) rfl) ?_ ?_
          · (try clear hN); simp [inR, vGround, okGround, -Int32.not_lt, -Int32.not_le, *]
          · (try clear hN); simp [inR, vGround, okGround, -Int32.not_lt, -Int32.not_le, *]
        · refine b_bipush (pc := 44) (v := -3) (dd dtX11_ground 25 rfl) (by decide) ?_
          refine b_eq (b_iret (dd dtX11_ground 26 rfl) rfl) ?_ ?_
          · (try clear hN); simp [inR, vGround, okGround, -Int32.not_lt, -Int32.not_le, *]
          · (try clear hN); simp [inR, vGround, okGround, -Int32.not_lt, -Int32.not_le, *]
      · refine b_bipush (pc := 32) (v := -2) (dd dtX11_ground 18 rfl) (by decide) ?_
        refine b_eq (b_iret (dd dtX11_ground 19 rfl) rfl) ?_ ?_
        · (try clear hN); simp [inR, vGround, okGround, -Int32.not_lt, -Int32.not_le, *]
        · (try clear hN); simp [inR, vGround, okGround, -Int32.not_lt, -Int32.not_le, *]
  · refine b_icm1 (pc := 8) (dd dtX11_ground 4 rfl) ?_
    refine b_eq (b_iret (dd dtX11_ground 5 rfl) rfl) ?_ ?_
    · (try clear hN); simp [inR, vGround, okGround, -Int32.not_lt, -Int32.not_le, *]
    · (try clear hN); simp [inR, vGround, okGround, -Int32.not_lt, -Int32.not_le, *]
def tX11_house : List (Nat × Instr × Nat) := [(0, .aload_n 0, 1), (1, .iload_n 1, 1), (2, .invokevirtual 248, 3), (5, .ifCond .ne 5, 3), (8, .iconst (-1), 1), (9, .ireturn, 1), (10, .aload_n 0, 1), (11, .iload_n 2, 1), (12, .iconst 1, 1), (13, .ldc 252, 2), (15, .invokevirtual 1, 3), (18, .ifCond .eq 14, 3), (21, .aload_n 0, 1), (22, .iload_n 3, 1), (23, .iconst 0, 1), (24, .bipush 99, 2), (26, .invokevirtual 1, 3), (29, .ifCond .ne 6, 3), (32, .bipush (-2), 2), (34, .ireturn, 1), (35, .aload_n 0, 1), (36, .getfield 39, 3), (39, .iload_n 1, 1), (40, .iaload, 1), (41, .ifCond .lt 6, 3), (44, .bipush (-3), 2), (46, .ireturn, 1), (47, .aload_n 0, 1), (48, .getfield 23, 3), (51, .bipush 14, 2), (53, .if_icmp .ne 6, 3), (56, .bipush (-4), 2), (58, .ireturn, 1), (59, .aload_n 0, 1), (60, .getfield 57, 3), (63, .aload_n 0, 1), (64, .getfield 23, 3), (67, .iload_n 1, 1), (68, .iastore, 1), (69, .aload_n 0, 1), (70, .getfield 60, 3), (73, .aload_n 0, 1), (74, .getfield 23, 3), (77, .iload_n 2, 1), (78, .iastore, 1), (79, .aload_n 0, 1), (80, .getfield 63, 3), (83, .aload_n 0, 1), (84, .getfield 23, 3), (87, .iload_n 3, 1), (88, .iastore, 1), (89, .aload_n 0, 1), (90, .getfield 66, 3), (93, .aload_n 0, 1), (94, .getfield 23, 3), (97, .iconst (-1), 1), (98, .iastore, 1), (99, .aload_n 0, 1), (100, .getfield 75, 3), (103, .aload_n 0, 1), (104, .getfield 23, 3), (107, .iconst 0, 1), (108, .bastore, 1), (109, .aload_n 0, 1), (110, .dup, 1), (111, .getfield 23, 3), (114, .iconst 1, 1), (115, .iadd, 1), (116, .putfield 23, 3), (119, .aload_n 0, 1), (120, .getfield 23, 3), (123, .iconst 1, 1), (124, .isub, 1), (125, .ireturn, 1)]
theorem dtX11_house : dec_ok mX11_house.2.1 tX11_house = true := by decide +kernel
set_option maxHeartbeats 4000000 in
theorem c_X11_house {I : Wd} {N : Nat} {c w p : Int32} (hN : I 0 3 = nI N) (hN2 : N ≤ 14) : Cal SyM mX11_house 2 [.ref 0, .int c, .int w, .int p] I (some (.int (vHouse (I 4) N c w p))) (if okHouse (I 4) N c w p then ist (ist (ist (ist (ist (ist I 10 N c) 11 N w) 12 N p) 13 N (-1)) 16 N 0) 0 3 (nI (N + 1)) else I) := by
  refine Cal.of (by decide) (Nat.le_of_ble_eq_true rfl) ?_
  show Bd _ _ _ _ [(0, _), (1, _), (2, _), (3, _)] _ _ _ _
  refine b_aload_n (pc := 0) (i := 0) (dd dtX11_house 0 rfl) rfl rfl ?_
  refine b_iload_n (pc := 1) (i := 1) (dd dtX11_house 1 rfl) rfl rfl ?_
  refine b_invV (pc := 2) (dd dtX11_house 2 rfl) mlX11_248 mvX11_isCell miX11_isCell (c_X11_isCell) oM_0 rfl rfl (by decide) (Nat.le_of_ble_eq_true rfl) ?_
  refine b_ifb_ne (pc := 5) (tgt := 10) (dd dtX11_house 3 rfl) (by decide) (fun h5 => ?_) (fun h5 => ?_)
  · refine b_aload_n (pc := 10) (i := 0) (dd dtX11_house 6 rfl) rfl rfl ?_
    refine b_iload_n (pc := 11) (i := 2) (dd dtX11_house 7 rfl) rfl rfl ?_
    refine b_ic1 (pc := 12) (dd dtX11_house 8 rfl) ?_
    refine b_ldc (pc := 13) (dd dtX11_house 9 rfl) kcX11_252 ?_
    refine b_invV (pc := 15) (dd dtX11_house 10 rfl) mlX11_1 mvX11_in miX11_in (c_X11_in) oM_0 rfl rfl (by decide) (Nat.le_of_ble_eq_true rfl) ?_
    refine b_ifb_eq (pc := 18) (tgt := 32) (dd dtX11_house 11 rfl) (by decide) (fun h18 => ?_) (fun h18 => ?_)
    · refine b_bipush (pc := 32) (v := -2) (dd dtX11_house 18 rfl) (by decide) ?_
      refine b_eq (b_iret (dd dtX11_house 19 rfl) rfl) ?_ ?_
      · (try clear hN); simp [inR, vHouse, okHouse, -Int32.not_lt, -Int32.not_le, *]
      · (try clear hN); simp [inR, vHouse, okHouse, -Int32.not_lt, -Int32.not_le, *]
    · refine b_aload_n (pc := 21) (i := 0) (dd dtX11_house 12 rfl) rfl rfl ?_
      refine b_iload_n (pc := 22) (i := 3) (dd dtX11_house 13 rfl) rfl rfl ?_
      refine b_ic0 (pc := 23) (dd dtX11_house 14 rfl) ?_
      refine b_bipush (pc := 24) (v := 99) (dd dtX11_house 15 rfl) (by decide) ?_
      refine b_invV (pc := 26) (dd dtX11_house 16 rfl) mlX11_1 mvX11_in miX11_in (c_X11_in) oM_0 rfl rfl (by decide) (Nat.le_of_ble_eq_true rfl) ?_
      refine b_ifb_ne (pc := 29) (tgt := 35) (dd dtX11_house 17 rfl) (by decide) (fun h29 => ?_) (fun h29 => ?_)
      · refine b_aload_n (pc := 35) (i := 0) (dd dtX11_house 20 rfl) rfl rfl ?_
        refine b_geta (pc := 36) (dd dtX11_house 21 rfl) fwX11_39 pM_0 rM_0_8 ?_
        refine b_iload_n (pc := 39) (i := 1) (dd dtX11_house 22 rfl) rfl rfl ?_
        refine b_iald (pc := 40) (dd dtX11_house 23 rfl) pM_4 (vpc (by assumption) (by decide)) ?_
        refine b_if_lt (pc := 41) (tgt := 47) (dd dtX11_house 24 rfl) (by decide) (fun h41 => ?_) (fun h41 => ?_)
        · refine b_aload_n (pc := 47) (i := 0) (dd dtX11_house 27 rfl) rfl rfl ?_
          refine b_geti (pc := 48) (dd dtX11_house 28 rfl) fwX11_23 pM_0 ?_
          refine b_bipush (pc := 51) (v := 14) (dd dtX11_house 29 rfl) (by decide) ?_
          refine b_icmp_ne (pc := 53) (tgt := 59) (dd dtX11_house 30 rfl) (by decide) (fun h53 => ?_) (fun h53 => ?_)
          · rw [hN] at h53
            have hne : N ≠ 14 := fun q => h53 (by rw [q]; rfl)
            have hlt : N < 14 := by omega
            refine b_aload_n (pc := 59) (i := 0) (dd dtX11_house 33 rfl) rfl rfl ?_
            refine b_geta (pc := 60) (dd dtX11_house 34 rfl) fwX11_57 pM_0 rM_0_14 ?_
            refine b_aload_n (pc := 63) (i := 0) (dd dtX11_house 35 rfl) rfl rfl ?_
            refine b_geti (pc := 64) (dd dtX11_house 36 rfl) fwX11_23 pM_0 ?_
            refine b_iload_n (pc := 67) (i := 1) (dd dtX11_house 37 rfl) rfl rfl ?_
            refine b_iast (pc := 68) (dd dtX11_house 38 rfl) pM_10 (by simp only [ist_eq, ist_ne, upd_eq, upd_ne, ne_eq, Nat.reduceEqDiff, not_false_eq_true, hN]; exact vpn rfl hlt (by decide)) ?_
            refine b_aload_n (pc := 69) (i := 0) (dd dtX11_house 39 rfl) rfl rfl ?_
            refine b_geta (pc := 70) (dd dtX11_house 40 rfl) fwX11_60 pM_0 rM_0_15 ?_
            refine b_aload_n (pc := 73) (i := 0) (dd dtX11_house 41 rfl) rfl rfl ?_
            refine b_geti (pc := 74) (dd dtX11_house 42 rfl) fwX11_23 pM_0 ?_
            refine b_iload_n (pc := 77) (i := 2) (dd dtX11_house 43 rfl) rfl rfl ?_
            refine b_iast (pc := 78) (dd dtX11_house 44 rfl) pM_11 (by simp only [ist_eq, ist_ne, upd_eq, upd_ne, ne_eq, Nat.reduceEqDiff, not_false_eq_true, hN]; exact vpn rfl hlt (by decide)) ?_
            refine b_aload_n (pc := 79) (i := 0) (dd dtX11_house 45 rfl) rfl rfl ?_
            refine b_geta (pc := 80) (dd dtX11_house 46 rfl) fwX11_63 pM_0 rM_0_16 ?_
            refine b_aload_n (pc := 83) (i := 0) (dd dtX11_house 47 rfl) rfl rfl ?_
            refine b_geti (pc := 84) (dd dtX11_house 48 rfl) fwX11_23 pM_0 ?_
            refine b_iload_n (pc := 87) (i := 3) (dd dtX11_house 49 rfl) rfl rfl ?_
            refine b_iast (pc := 88) (dd dtX11_house 50 rfl) pM_12 (by simp only [ist_eq, ist_ne, upd_eq, upd_ne, ne_eq, Nat.reduceEqDiff, not_false_eq_true, hN]; exact vpn rfl hlt (by decide)) ?_
            refine b_aload_n (pc := 89) (i := 0) (dd dtX11_house 51 rfl) rfl rfl ?_
            refine b_geta (pc := 90) (dd dtX11_house 52 rfl) fwX11_66 pM_0 rM_0_17 ?_
            refine b_aload_n (pc := 93) (i := 0) (dd dtX11_house 53 rfl) rfl rfl ?_
            refine b_geti (pc := 94) (dd dtX11_house 54 rfl) fwX11_23 pM_0 ?_
            refine b_icm1 (pc := 97) (dd dtX11_house 55 rfl) ?_
            refine b_iast (pc := 98) (dd dtX11_house 56 rfl) pM_13 (by simp only [ist_eq, ist_ne, upd_eq, upd_ne, ne_eq, Nat.reduceEqDiff, not_false_eq_true, hN]; exact vpn rfl hlt (by decide)) ?_
            refine b_aload_n (pc := 99) (i := 0) (dd dtX11_house 57 rfl) rfl rfl ?_
            refine b_geta (pc := 100) (dd dtX11_house 58 rfl) fwX11_75 pM_0 rM_0_20 ?_
            refine b_aload_n (pc := 103) (i := 0) (dd dtX11_house 59 rfl) rfl rfl ?_
            refine b_geti (pc := 104) (dd dtX11_house 60 rfl) fwX11_23 pM_0 ?_
            refine b_ic0 (pc := 107) (dd dtX11_house 61 rfl) ?_
            refine b_zast (pc := 108) (dd dtX11_house 62 rfl) pM_16 (by simp only [ist_eq, ist_ne, upd_eq, upd_ne, ne_eq, Nat.reduceEqDiff, not_false_eq_true, hN]; exact vpn rfl hlt (by decide)) (by first | rfl | assumption) ?_
            refine b_aload_n (pc := 109) (i := 0) (dd dtX11_house 63 rfl) rfl rfl ?_
            refine b_dup (pc := 110) (dd dtX11_house 64 rfl) rfl ?_
            refine b_geti (pc := 111) (dd dtX11_house 65 rfl) fwX11_23 pM_0 ?_
            refine b_ic1 (pc := 114) (dd dtX11_house 66 rfl) ?_
            refine b_iadd (pc := 115) (dd dtX11_house 67 rfl) ?_
            refine b_puti (pc := 116) (dd dtX11_house 68 rfl) fwX11_23 pM_0 ?_
            refine b_aload_n (pc := 119) (i := 0) (dd dtX11_house 69 rfl) rfl rfl ?_
            refine b_geti (pc := 120) (dd dtX11_house 70 rfl) fwX11_23 pM_0 ?_
            refine b_ic1 (pc := 123) (dd dtX11_house 71 rfl) ?_
            refine b_isub (pc := 124) (dd dtX11_house 72 rfl) ?_
            refine b_eq (b_iret (dd dtX11_house 73 rfl) rfl) ?_ ?_
            · simp [inR, vHouse, okHouse, ist_eq, ist_ne, upd_eq, upd_ne, nI_1, nI_pred, -Int32.not_lt, -Int32.not_le, *]
            · simp [inR, vHouse, okHouse, ist_eq, ist_ne, upd_eq, upd_ne, nI_1, nI_clamp (show N < 2 ^ 31 by omega), -Int32.not_lt, -Int32.not_le, *]
          · rw [hN] at h53
            have hge : N = 14 := (nI_eq (by omega) (by decide)).mp h53
            have hlt : ¬ N < 14 := by omega
            refine b_bipush (pc := 56) (v := -4) (dd dtX11_house 31 rfl) (by decide) ?_
            refine b_eq (b_iret (dd dtX11_house 32 rfl) rfl) ?_ ?_
            · (try clear hN); simp [inR, vHouse, okHouse, -Int32.not_lt, -Int32.not_le, *]
            · (try clear hN); simp [inR, vHouse, okHouse, -Int32.not_lt, -Int32.not_le, *]
        · refine b_bipush (pc := 44) (v := -3) (dd dtX11_house 25 rfl) (by decide) ?_
          refine b_eq (b_iret (dd dtX11_house 26 rfl) rfl) ?_ ?_
          · (try clear hN); simp [inR, vHouse, okHouse, -Int32.not_lt, -Int32.not_le, *]
          · (try clear hN); simp [inR, vHouse, okHouse, -Int32.not_lt, -Int32.not_le, *]
      · refine b_bipush (pc := 32) (v := -2) (dd dtX11_house 18 rfl) (by decide) ?_
        refine b_eq (b_iret (dd dtX11_house 19 rfl) rfl) ?_ ?_
        · (try clear hN); simp [inR, vHouse, okHouse, -Int32.not_lt, -Int32.not_le, *]
        · (try clear hN); simp [inR, vHouse, okHouse, -Int32.not_lt, -Int32.not_le, *]
  · refine b_icm1 (pc := 8) (dd dtX11_house 4 rfl) ?_
    refine b_eq (b_iret (dd dtX11_house 5 rfl) rfl) ?_ ?_
    · (try clear hN); simp [inR, vHouse, okHouse, -Int32.not_lt, -Int32.not_le, *]
    · (try clear hN); simp [inR, vHouse, okHouse, -Int32.not_lt, -Int32.not_le, *]
def tX11_pump : List (Nat × Instr × Nat) := [(0, .aload_n 0, 1), (1, .iload_n 1, 1), (2, .invokevirtual 248, 3), (5, .ifCond .ne 5, 3), (8, .iconst (-1), 1), (9, .ireturn, 1), (10, .aload_n 0, 1), (11, .getfield 26, 3), (14, .bipush 6, 2), (16, .if_icmp .ne 6, 3), (19, .bipush (-4), 2), (21, .ireturn, 1), (22, .aload_n 0, 1), (23, .getfield 69, 3), (26, .aload_n 0, 1), (27, .getfield 26, 3), (30, .iload_n 1, 1), (31, .iastore, 1), (32, .aload_n 0, 1), (33, .getfield 72, 3), (36, .aload_n 0, 1), (37, .getfield 26, 3), (40, .iconst 0, 1), (41, .iastore, 1), (42, .aload_n 0, 1), (43, .dup, 1), (44, .getfield 26, 3), (47, .iconst 1, 1), (48, .iadd, 1), (49, .putfield 26, 3), (52, .aload_n 0, 1), (53, .getfield 26, 3), (56, .iconst 1, 1), (57, .isub, 1), (58, .ireturn, 1)]
theorem dtX11_pump : dec_ok mX11_pump.2.1 tX11_pump = true := by decide +kernel
set_option maxHeartbeats 4000000 in
theorem c_X11_pump {I : Wd} {N : Nat} {c : Int32} (hN : I 0 4 = nI N) (hN2 : N ≤ 6) : Cal SyM mX11_pump 2 [.ref 0, .int c] I (some (.int (vPump N c))) (if okPump N c then ist (ist (ist I 14 N c) 15 N 0) 0 4 (nI (N + 1)) else I) := by
  refine Cal.of (by decide) (Nat.le_of_ble_eq_true rfl) ?_
  show Bd _ _ _ _ [(0, _), (1, _)] _ _ _ _
  refine b_aload_n (pc := 0) (i := 0) (dd dtX11_pump 0 rfl) rfl rfl ?_
  refine b_iload_n (pc := 1) (i := 1) (dd dtX11_pump 1 rfl) rfl rfl ?_
  refine b_invV (pc := 2) (dd dtX11_pump 2 rfl) mlX11_248 mvX11_isCell miX11_isCell (c_X11_isCell) oM_0 rfl rfl (by decide) (Nat.le_of_ble_eq_true rfl) ?_
  refine b_ifb_ne (pc := 5) (tgt := 10) (dd dtX11_pump 3 rfl) (by decide) (fun h5 => ?_) (fun h5 => ?_)
  · refine b_aload_n (pc := 10) (i := 0) (dd dtX11_pump 6 rfl) rfl rfl ?_
    refine b_geti (pc := 11) (dd dtX11_pump 7 rfl) fwX11_26 pM_0 ?_
    refine b_bipush (pc := 14) (v := 6) (dd dtX11_pump 8 rfl) (by decide) ?_
    refine b_icmp_ne (pc := 16) (tgt := 22) (dd dtX11_pump 9 rfl) (by decide) (fun h16 => ?_) (fun h16 => ?_)
    · rw [hN] at h16
      have hne : N ≠ 6 := fun q => h16 (by rw [q]; rfl)
      have hlt : N < 6 := by omega
      refine b_aload_n (pc := 22) (i := 0) (dd dtX11_pump 12 rfl) rfl rfl ?_
      refine b_geta (pc := 23) (dd dtX11_pump 13 rfl) fwX11_69 pM_0 rM_0_18 ?_
      refine b_aload_n (pc := 26) (i := 0) (dd dtX11_pump 14 rfl) rfl rfl ?_
      refine b_geti (pc := 27) (dd dtX11_pump 15 rfl) fwX11_26 pM_0 ?_
      refine b_iload_n (pc := 30) (i := 1) (dd dtX11_pump 16 rfl) rfl rfl ?_
      refine b_iast (pc := 31) (dd dtX11_pump 17 rfl) pM_14 (by simp only [ist_eq, ist_ne, upd_eq, upd_ne, ne_eq, Nat.reduceEqDiff, not_false_eq_true, hN]; exact vpn rfl hlt (by decide)) ?_
      refine b_aload_n (pc := 32) (i := 0) (dd dtX11_pump 18 rfl) rfl rfl ?_
      refine b_geta (pc := 33) (dd dtX11_pump 19 rfl) fwX11_72 pM_0 rM_0_19 ?_
      refine b_aload_n (pc := 36) (i := 0) (dd dtX11_pump 20 rfl) rfl rfl ?_
      refine b_geti (pc := 37) (dd dtX11_pump 21 rfl) fwX11_26 pM_0 ?_
      refine b_ic0 (pc := 40) (dd dtX11_pump 22 rfl) ?_
      refine b_iast (pc := 41) (dd dtX11_pump 23 rfl) pM_15 (by simp only [ist_eq, ist_ne, upd_eq, upd_ne, ne_eq, Nat.reduceEqDiff, not_false_eq_true, hN]; exact vpn rfl hlt (by decide)) ?_
      refine b_aload_n (pc := 42) (i := 0) (dd dtX11_pump 24 rfl) rfl rfl ?_
      refine b_dup (pc := 43) (dd dtX11_pump 25 rfl) rfl ?_
      refine b_geti (pc := 44) (dd dtX11_pump 26 rfl) fwX11_26 pM_0 ?_
      refine b_ic1 (pc := 47) (dd dtX11_pump 27 rfl) ?_
      refine b_iadd (pc := 48) (dd dtX11_pump 28 rfl) ?_
      refine b_puti (pc := 49) (dd dtX11_pump 29 rfl) fwX11_26 pM_0 ?_
      refine b_aload_n (pc := 52) (i := 0) (dd dtX11_pump 30 rfl) rfl rfl ?_
      refine b_geti (pc := 53) (dd dtX11_pump 31 rfl) fwX11_26 pM_0 ?_
      refine b_ic1 (pc := 56) (dd dtX11_pump 32 rfl) ?_
      refine b_isub (pc := 57) (dd dtX11_pump 33 rfl) ?_
      refine b_eq (b_iret (dd dtX11_pump 34 rfl) rfl) ?_ ?_
      · simp [inR, vPump, okPump, ist_eq, ist_ne, upd_eq, upd_ne, nI_1, nI_pred, -Int32.not_lt, -Int32.not_le, *]
      · simp [inR, vPump, okPump, ist_eq, ist_ne, upd_eq, upd_ne, nI_1, nI_clamp (show N < 2 ^ 31 by omega), -Int32.not_lt, -Int32.not_le, *]
    · rw [hN] at h16
      have hge : N = 6 := (nI_eq (by omega) (by decide)).mp h16
      have hlt : ¬ N < 6 := by omega
      refine b_bipush (pc := 19) (v := -4) (dd dtX11_pump 10 rfl) (by decide) ?_
      refine b_eq (b_iret (dd dtX11_pump 11 rfl) rfl) ?_ ?_
      · (try clear hN); simp [inR, vPump, okPump, -Int32.not_lt, -Int32.not_le, *]
      · (try clear hN); simp [inR, vPump, okPump, -Int32.not_lt, -Int32.not_le, *]
  · refine b_icm1 (pc := 8) (dd dtX11_pump 4 rfl) ?_
    refine b_eq (b_iret (dd dtX11_pump 5 rfl) rfl) ?_ ?_
    · (try clear hN); simp [inR, vPump, okPump, -Int32.not_lt, -Int32.not_le, *]
    · (try clear hN); simp [inR, vPump, okPump, -Int32.not_lt, -Int32.not_le, *]
def tX11_pumping : List (Nat × Instr × Nat) := [(0, .aload_n 0, 1), (1, .iload_n 1, 1), (2, .iconst 0, 1), (3, .aload_n 0, 1), (4, .getfield 26, 3), (7, .iconst 1, 1), (8, .isub, 1), (9, .invokevirtual 1, 3), (12, .ifCond .ne 5, 3), (15, .iconst (-1), 1), (16, .ireturn, 1), (17, .aload_n 0, 1), (18, .iload_n 2, 1), (19, .iconst 0, 1), (20, .bipush 50, 2), (22, .invokevirtual 1, 3), (25, .ifCond .ne 6, 3), (28, .bipush (-2), 2), (30, .ireturn, 1), (31, .aload_n 0, 1), (32, .getfield 72, 3), (35, .iload_n 1, 1), (36, .iaload, 1), (37, .istore_n 3, 1), (38, .aload_n 0, 1), (39, .getfield 72, 3), (42, .iload_n 1, 1), (43, .iload_n 2, 1), (44, .iastore, 1), (45, .iload_n 3, 1), (46, .ireturn, 1)]
theorem dtX11_pumping : dec_ok mX11_pumping.2.1 tX11_pumping = true := by decide +kernel
set_option maxHeartbeats 4000000 in
theorem c_X11_pumping {I : Wd} {P : Nat} {p n : Int32} (hN : I 0 4 = nI P) (hN2 : P ≤ 6) : Cal SyM mX11_pumping 1 [.ref 0, .int p, .int n] I (some (.int (vPumping (I 15) (I 0 4) p n))) (if okPumping (I 0 4) p n then ist I 15 p.toNatClampNeg n else I) := by
  refine Cal.of (by decide) (Nat.le_of_ble_eq_true rfl) ?_
  show Bd _ _ _ _ [(0, _), (1, _), (2, _)] _ _ _ _
  refine b_aload_n (pc := 0) (i := 0) (dd dtX11_pumping 0 rfl) rfl rfl ?_
  refine b_iload_n (pc := 1) (i := 1) (dd dtX11_pumping 1 rfl) rfl rfl ?_
  refine b_ic0 (pc := 2) (dd dtX11_pumping 2 rfl) ?_
  refine b_aload_n (pc := 3) (i := 0) (dd dtX11_pumping 3 rfl) rfl rfl ?_
  refine b_geti (pc := 4) (dd dtX11_pumping 4 rfl) fwX11_26 pM_0 ?_
  refine b_ic1 (pc := 7) (dd dtX11_pumping 5 rfl) ?_
  refine b_isub (pc := 8) (dd dtX11_pumping 6 rfl) ?_
  refine b_invV (pc := 9) (dd dtX11_pumping 7 rfl) mlX11_1 mvX11_in miX11_in (c_X11_in) oM_0 rfl rfl (by decide) (Nat.le_of_ble_eq_true rfl) ?_
  refine b_ifb_ne (pc := 12) (tgt := 17) (dd dtX11_pumping 8 rfl) (by decide) (fun h12 => ?_) (fun h12 => ?_)
  · refine b_aload_n (pc := 17) (i := 0) (dd dtX11_pumping 11 rfl) rfl rfl ?_
    refine b_iload_n (pc := 18) (i := 2) (dd dtX11_pumping 12 rfl) rfl rfl ?_
    refine b_ic0 (pc := 19) (dd dtX11_pumping 13 rfl) ?_
    refine b_bipush (pc := 20) (v := 50) (dd dtX11_pumping 14 rfl) (by decide) ?_
    refine b_invV (pc := 22) (dd dtX11_pumping 15 rfl) mlX11_1 mvX11_in miX11_in (c_X11_in) oM_0 rfl rfl (by decide) (Nat.le_of_ble_eq_true rfl) ?_
    refine b_ifb_ne (pc := 25) (tgt := 31) (dd dtX11_pumping 16 rfl) (by decide) (fun h25 => ?_) (fun h25 => ?_)
    · refine b_aload_n (pc := 31) (i := 0) (dd dtX11_pumping 19 rfl) rfl rfl ?_
      refine b_geta (pc := 32) (dd dtX11_pumping 20 rfl) fwX11_72 pM_0 rM_0_19 ?_
      refine b_iload_n (pc := 35) (i := 1) (dd dtX11_pumping 21 rfl) rfl rfl ?_
      refine b_iald (pc := 36) (dd dtX11_pumping 22 rfl) pM_15 (vpm (by rw [hN] at h12; exact h12) hN2 (by decide)) ?_
      refine b_istore_n (pc := 37) (i := 3) (lv' := [(3, _), (0, _), (1, _), (2, _)]) (dd dtX11_pumping 23 rfl) rfl (Nat.le_of_ble_eq_true rfl) rfl ?_
      refine b_aload_n (pc := 38) (i := 0) (dd dtX11_pumping 24 rfl) rfl rfl ?_
      refine b_geta (pc := 39) (dd dtX11_pumping 25 rfl) fwX11_72 pM_0 rM_0_19 ?_
      refine b_iload_n (pc := 42) (i := 1) (dd dtX11_pumping 26 rfl) rfl rfl ?_
      refine b_iload_n (pc := 43) (i := 2) (dd dtX11_pumping 27 rfl) rfl rfl ?_
      refine b_iast (pc := 44) (dd dtX11_pumping 28 rfl) pM_15 (vpm (by rw [hN] at h12; exact h12) hN2 (by decide)) ?_
      refine b_iload_n (pc := 45) (i := 3) (dd dtX11_pumping 29 rfl) rfl rfl ?_
      refine b_eq (b_iret (dd dtX11_pumping 30 rfl) rfl) ?_ ?_
      · (try clear hN); simp [inR, vPumping, okPumping, -Int32.not_lt, -Int32.not_le, *]
      · (try clear hN); simp [inR, vPumping, okPumping, -Int32.not_lt, -Int32.not_le, *]
    · refine b_bipush (pc := 28) (v := -2) (dd dtX11_pumping 17 rfl) (by decide) ?_
      refine b_eq (b_iret (dd dtX11_pumping 18 rfl) rfl) ?_ ?_
      · (try clear hN); simp [inR, vPumping, okPumping, -Int32.not_lt, -Int32.not_le, *]
      · (try clear hN); simp [inR, vPumping, okPumping, -Int32.not_lt, -Int32.not_le, *]
  · refine b_icm1 (pc := 15) (dd dtX11_pumping 9 rfl) ?_
    refine b_eq (b_iret (dd dtX11_pumping 10 rfl) rfl) ?_ ?_
    · (try clear hN); simp [inR, vPumping, okPumping, -Int32.not_lt, -Int32.not_le, *]
    · (try clear hN); simp [inR, vPumping, okPumping, -Int32.not_lt, -Int32.not_le, *]
def tX11_rain : List (Nat × Instr × Nat) := [(0, .aload_n 0, 1), (1, .iload_n 1, 1), (2, .iconst 0, 1), (3, .bipush 50, 2), (5, .invokevirtual 1, 3), (8, .ifCond .ne 6, 3), (11, .bipush (-2), 2), (13, .ireturn, 1), (14, .aload_n 0, 1), (15, .getfield 17, 3), (18, .istore_n 2, 1), (19, .aload_n 0, 1), (20, .iload_n 1, 1), (21, .putfield 17, 3), (24, .iload_n 2, 1), (25, .ireturn, 1)]
theorem dtX11_rain : dec_ok mX11_rain.2.1 tX11_rain = true := by decide +kernel
set_option maxHeartbeats 4000000 in
theorem c_X11_rain {I : Wd} {n : Int32} : Cal SyM mX11_rain 1 [.ref 0, .int n] I (some (.int (vRain (I 0 1) n))) (if inR n 0 50 then ist I 0 1 n else I) := by
  refine Cal.of (by decide) (Nat.le_of_ble_eq_true rfl) ?_
  show Bd _ _ _ _ [(0, _), (1, _)] _ _ _ _
  refine b_aload_n (pc := 0) (i := 0) (dd dtX11_rain 0 rfl) rfl rfl ?_
  refine b_iload_n (pc := 1) (i := 1) (dd dtX11_rain 1 rfl) rfl rfl ?_
  refine b_ic0 (pc := 2) (dd dtX11_rain 2 rfl) ?_
  refine b_bipush (pc := 3) (v := 50) (dd dtX11_rain 3 rfl) (by decide) ?_
  refine b_invV (pc := 5) (dd dtX11_rain 4 rfl) mlX11_1 mvX11_in miX11_in (c_X11_in) oM_0 rfl rfl (by decide) (Nat.le_of_ble_eq_true rfl) ?_
  refine b_ifb_ne (pc := 8) (tgt := 14) (dd dtX11_rain 5 rfl) (by decide) (fun h8 => ?_) (fun h8 => ?_)
  · refine b_aload_n (pc := 14) (i := 0) (dd dtX11_rain 8 rfl) rfl rfl ?_
    refine b_geti (pc := 15) (dd dtX11_rain 9 rfl) fwX11_17 pM_0 ?_
    refine b_istore_n (pc := 18) (i := 2) (lv' := [(2, _), (0, _), (1, _)]) (dd dtX11_rain 10 rfl) rfl (Nat.le_of_ble_eq_true rfl) rfl ?_
    refine b_aload_n (pc := 19) (i := 0) (dd dtX11_rain 11 rfl) rfl rfl ?_
    refine b_iload_n (pc := 20) (i := 1) (dd dtX11_rain 12 rfl) rfl rfl ?_
    refine b_puti (pc := 21) (dd dtX11_rain 13 rfl) fwX11_17 pM_0 ?_
    refine b_iload_n (pc := 24) (i := 2) (dd dtX11_rain 14 rfl) rfl rfl ?_
    refine b_eq (b_iret (dd dtX11_rain 15 rfl) rfl) ?_ ?_
    · (try clear hN); simp [inR, vRain, -Int32.not_lt, -Int32.not_le, *]
    · (try clear hN); simp [inR, vRain, -Int32.not_lt, -Int32.not_le, *]
  · refine b_bipush (pc := 11) (v := -2) (dd dtX11_rain 6 rfl) (by decide) ?_
    refine b_eq (b_iret (dd dtX11_rain 7 rfl) rfl) ?_ ?_
    · (try clear hN); simp [inR, vRain, -Int32.not_lt, -Int32.not_le, *]
    · (try clear hN); simp [inR, vRain, -Int32.not_lt, -Int32.not_le, *]
def tX11_move : List (Nat × Instr × Nat) := [(0, .aload_n 0, 1), (1, .iload_n 1, 1), (2, .invokevirtual 253, 3), (5, .ifCond .ne 5, 3), (8, .iconst (-1), 1), (9, .ireturn, 1), (10, .aload_n 0, 1), (11, .getfield 66, 3), (14, .iload_n 1, 1), (15, .iaload, 1), (16, .ifCond .ge 12, 3), (19, .aload_n 0, 1), (20, .getfield 75, 3), (23, .iload_n 1, 1), (24, .baload, 1), (25, .ifCond .eq 6, 3), (28, .bipush (-3), 2), (30, .ireturn, 1), (31, .aload_n 0, 1), (32, .getfield 75, 3), (35, .iload_n 1, 1), (36, .iconst 1, 1), (37, .bastore, 1), (38, .aload_n 0, 1), (39, .getfield 63, 3), (42, .iload_n 1, 1), (43, .iaload, 1), (44, .ireturn, 1)]
theorem dtX11_move : dec_ok mX11_move.2.1 tX11_move = true := by decide +kernel
set_option maxHeartbeats 4000000 in
theorem c_X11_move {I : Wd} {N : Nat} {h : Int32} (hN : I 0 3 = nI N) (hN2 : N ≤ 14) : Cal SyM mX11_move 2 [.ref 0, .int h] I (some (.int (vMove (I 13) (I 16) (I 12) (I 0 3) h))) (if okMove (I 13) (I 16) (I 0 3) h then ist I 16 h.toNatClampNeg 1 else I) := by
  refine Cal.of (by decide) (Nat.le_of_ble_eq_true rfl) ?_
  show Bd _ _ _ _ [(0, _), (1, _)] _ _ _ _
  refine b_aload_n (pc := 0) (i := 0) (dd dtX11_move 0 rfl) rfl rfl ?_
  refine b_iload_n (pc := 1) (i := 1) (dd dtX11_move 1 rfl) rfl rfl ?_
  refine b_invV (pc := 2) (dd dtX11_move 2 rfl) mlX11_253 mvX11_isHouse miX11_isHouse (c_X11_isHouse) oM_0 rfl rfl (by decide) (Nat.le_of_ble_eq_true rfl) ?_
  refine b_ifb_ne (pc := 5) (tgt := 10) (dd dtX11_move 3 rfl) (by decide) (fun h5 => ?_) (fun h5 => ?_)
  · refine b_aload_n (pc := 10) (i := 0) (dd dtX11_move 6 rfl) rfl rfl ?_
    refine b_geta (pc := 11) (dd dtX11_move 7 rfl) fwX11_66 pM_0 rM_0_17 ?_
    refine b_iload_n (pc := 14) (i := 1) (dd dtX11_move 8 rfl) rfl rfl ?_
    refine b_iald (pc := 15) (dd dtX11_move 9 rfl) pM_13 (vpm (by rw [hN] at h5; exact h5) hN2 (by decide)) ?_
    refine b_ifL_ge (pc := 16) (tgt := 28) (dd dtX11_move 10 rfl) (by decide) (fun h16 => ?_) (fun h16 => ?_)
    · refine b_bipush (pc := 28) (v := -3) (dd dtX11_move 16 rfl) (by decide) ?_
      refine b_eq (b_iret (dd dtX11_move 17 rfl) rfl) ?_ ?_
      · (try clear hN); simp [inR, vMove, okMove, ist_eq, ist_ne, -Int32.not_lt, -Int32.not_le, *]
      · (try clear hN); simp [inR, vMove, okMove, ist_eq, ist_ne, -Int32.not_lt, -Int32.not_le, *]
    · refine b_aload_n (pc := 19) (i := 0) (dd dtX11_move 11 rfl) rfl rfl ?_
      refine b_geta (pc := 20) (dd dtX11_move 12 rfl) fwX11_75 pM_0 rM_0_20 ?_
      refine b_iload_n (pc := 23) (i := 1) (dd dtX11_move 13 rfl) rfl rfl ?_
      refine b_zald (pc := 24) (dd dtX11_move 14 rfl) pM_16 (vpm (by rw [hN] at h5; exact h5) hN2 (by decide)) ?_
      refine b_if_eq (pc := 25) (tgt := 31) (dd dtX11_move 15 rfl) (by decide) (fun h25 => ?_) (fun h25 => ?_)
      · refine b_aload_n (pc := 31) (i := 0) (dd dtX11_move 18 rfl) rfl rfl ?_
        refine b_geta (pc := 32) (dd dtX11_move 19 rfl) fwX11_75 pM_0 rM_0_20 ?_
        refine b_iload_n (pc := 35) (i := 1) (dd dtX11_move 20 rfl) rfl rfl ?_
        refine b_ic1 (pc := 36) (dd dtX11_move 21 rfl) ?_
        refine b_zast (pc := 37) (dd dtX11_move 22 rfl) pM_16 (vpm (by rw [hN] at h5; exact h5) hN2 (by decide)) (by first | rfl | assumption) ?_
        refine b_aload_n (pc := 38) (i := 0) (dd dtX11_move 23 rfl) rfl rfl ?_
        refine b_geta (pc := 39) (dd dtX11_move 24 rfl) fwX11_63 pM_0 rM_0_16 ?_
        refine b_iload_n (pc := 42) (i := 1) (dd dtX11_move 25 rfl) rfl rfl ?_
        refine b_iald (pc := 43) (dd dtX11_move 26 rfl) pM_12 (vpm (by rw [hN] at h5; exact h5) hN2 (by decide)) ?_
        refine b_eq (b_iret (dd dtX11_move 27 rfl) rfl) ?_ ?_
        · (try clear hN); simp [inR, vMove, okMove, ist_eq, ist_ne, -Int32.not_lt, -Int32.not_le, *]
        · (try clear hN); simp [inR, vMove, okMove, ist_eq, ist_ne, -Int32.not_lt, -Int32.not_le, *]
      · refine b_bipush (pc := 28) (v := -3) (dd dtX11_move 16 rfl) (by decide) ?_
        refine b_eq (b_iret (dd dtX11_move 17 rfl) rfl) ?_ ?_
        · (try clear hN); simp [inR, vMove, okMove, ist_eq, ist_ne, -Int32.not_lt, -Int32.not_le, *]
        · (try clear hN); simp [inR, vMove, okMove, ist_eq, ist_ne, -Int32.not_lt, -Int32.not_le, *]
  · refine b_icm1 (pc := 8) (dd dtX11_move 4 rfl) ?_
    refine b_eq (b_iret (dd dtX11_move 5 rfl) rfl) ?_ ?_
    · (try clear hN); simp [inR, vMove, okMove, ist_eq, ist_ne, -Int32.not_lt, -Int32.not_le, *]
    · (try clear hN); simp [inR, vMove, okMove, ist_eq, ist_ne, -Int32.not_lt, -Int32.not_le, *]
def tX11_sign : List (Nat × Instr × Nat) := [(0, .aload_n 0, 1), (1, .iload_n 2, 1), (2, .invokevirtual 248, 3), (5, .ifCond .ne 5, 3), (8, .iconst (-1), 1), (9, .ireturn, 1), (10, .aload_n 0, 1), (11, .iload_n 1, 1), (12, .iconst 0, 1), (13, .iconst 5, 1), (14, .invokevirtual 1, 3), (17, .ifCond .eq 14, 3), (20, .aload_n 0, 1), (21, .iload_n 3, 1), (22, .iconst 0, 1), (23, .bipush 99, 2), (25, .invokevirtual 1, 3), (28, .ifCond .ne 6, 3), (31, .bipush (-2), 2), (33, .ireturn, 1), (34, .aload_n 0, 1), (35, .getfield 79, 3), (38, .bipush 30, 2), (40, .if_icmp .ne 6, 3), (43, .bipush (-4), 2), (45, .ireturn, 1), (46, .aload_n 0, 1), (47, .getfield 82, 3), (50, .aload_n 0, 1), (51, .getfield 79, 3), (54, .iload_n 1, 1), (55, .iastore, 1), (56, .aload_n 0, 1), (57, .getfield 85, 3), (60, .aload_n 0, 1), (61, .getfield 79, 3), (64, .iload_n 2, 1), (65, .iastore, 1), (66, .aload_n 0, 1), (67, .getfield 91, 3), (70, .aload_n 0, 1), (71, .getfield 79, 3), (74, .iload_n 3, 1), (75, .iastore, 1), (76, .aload_n 0, 1), (77, .getfield 88, 3), (80, .aload_n 0, 1), (81, .getfield 79, 3), (84, .aload_n 0, 1), (85, .getfield 13, 3), (88, .iastore, 1), (89, .aload_n 0, 1), (90, .getfield 97, 3), (93, .aload_n 0, 1), (94, .getfield 79, 3), (97, .iconst (-1), 1), (98, .iastore, 1), (99, .aload_n 0, 1), (100, .dup, 1), (101, .getfield 79, 3), (104, .iconst 1, 1), (105, .iadd, 1), (106, .putfield 79, 3), (109, .aload_n 0, 1), (110, .getfield 79, 3), (113, .iconst 1, 1), (114, .isub, 1), (115, .ireturn, 1)]
theorem dtX11_sign : dec_ok mX11_sign.2.1 tX11_sign = true := by decide +kernel
set_option maxHeartbeats 4000000 in
theorem c_X11_sign {I : Wd} {N : Nat} {k c v : Int32} (hN : I 0 21 = nI N) (hN2 : N ≤ 30) : Cal SyM mX11_sign 2 [.ref 0, .int k, .int c, .int v] I (some (.int (vSign N k c v))) (if okSign N k c v then ist (ist (ist (ist (ist (ist I 17 N k) 18 N c) 20 N v) 19 N (I 0 0)) 22 N (-1)) 0 21 (nI (N + 1)) else I) := by
  refine Cal.of (by decide) (Nat.le_of_ble_eq_true rfl) ?_
  show Bd _ _ _ _ [(0, _), (1, _), (2, _), (3, _)] _ _ _ _
  refine b_aload_n (pc := 0) (i := 0) (dd dtX11_sign 0 rfl) rfl rfl ?_
  refine b_iload_n (pc := 1) (i := 2) (dd dtX11_sign 1 rfl) rfl rfl ?_
  refine b_invV (pc := 2) (dd dtX11_sign 2 rfl) mlX11_248 mvX11_isCell miX11_isCell (c_X11_isCell) oM_0 rfl rfl (by decide) (Nat.le_of_ble_eq_true rfl) ?_
  refine b_ifb_ne (pc := 5) (tgt := 10) (dd dtX11_sign 3 rfl) (by decide) (fun h5 => ?_) (fun h5 => ?_)
  · refine b_aload_n (pc := 10) (i := 0) (dd dtX11_sign 6 rfl) rfl rfl ?_
    refine b_iload_n (pc := 11) (i := 1) (dd dtX11_sign 7 rfl) rfl rfl ?_
    refine b_ic0 (pc := 12) (dd dtX11_sign 8 rfl) ?_
    refine b_ic5 (pc := 13) (dd dtX11_sign 9 rfl) ?_
    refine b_invV (pc := 14) (dd dtX11_sign 10 rfl) mlX11_1 mvX11_in miX11_in (c_X11_in) oM_0 rfl rfl (by decide) (Nat.le_of_ble_eq_true rfl) ?_
    refine b_ifb_eq (pc := 17) (tgt := 31) (dd dtX11_sign 11 rfl) (by decide) (fun h17 => ?_) (fun h17 => ?_)
    · refine b_bipush (pc := 31) (v := -2) (dd dtX11_sign 18 rfl) (by decide) ?_
      refine b_eq (b_iret (dd dtX11_sign 19 rfl) rfl) ?_ ?_
      · (try clear hN); simp [inR, vSign, okSign, -Int32.not_lt, -Int32.not_le, *]
      · (try clear hN); simp [inR, vSign, okSign, -Int32.not_lt, -Int32.not_le, *]
    · refine b_aload_n (pc := 20) (i := 0) (dd dtX11_sign 12 rfl) rfl rfl ?_
      refine b_iload_n (pc := 21) (i := 3) (dd dtX11_sign 13 rfl) rfl rfl ?_
      refine b_ic0 (pc := 22) (dd dtX11_sign 14 rfl) ?_
      refine b_bipush (pc := 23) (v := 99) (dd dtX11_sign 15 rfl) (by decide) ?_
      refine b_invV (pc := 25) (dd dtX11_sign 16 rfl) mlX11_1 mvX11_in miX11_in (c_X11_in) oM_0 rfl rfl (by decide) (Nat.le_of_ble_eq_true rfl) ?_
      refine b_ifb_ne (pc := 28) (tgt := 34) (dd dtX11_sign 17 rfl) (by decide) (fun h28 => ?_) (fun h28 => ?_)
      · refine b_aload_n (pc := 34) (i := 0) (dd dtX11_sign 20 rfl) rfl rfl ?_
        refine b_geti (pc := 35) (dd dtX11_sign 21 rfl) fwX11_79 pM_0 ?_
        refine b_bipush (pc := 38) (v := 30) (dd dtX11_sign 22 rfl) (by decide) ?_
        refine b_icmp_ne (pc := 40) (tgt := 46) (dd dtX11_sign 23 rfl) (by decide) (fun h40 => ?_) (fun h40 => ?_)
        · rw [hN] at h40
          have hne : N ≠ 30 := fun q => h40 (by rw [q]; rfl)
          have hlt : N < 30 := by omega
          refine b_aload_n (pc := 46) (i := 0) (dd dtX11_sign 26 rfl) rfl rfl ?_
          refine b_geta (pc := 47) (dd dtX11_sign 27 rfl) fwX11_82 pM_0 rM_0_22 ?_
          refine b_aload_n (pc := 50) (i := 0) (dd dtX11_sign 28 rfl) rfl rfl ?_
          refine b_geti (pc := 51) (dd dtX11_sign 29 rfl) fwX11_79 pM_0 ?_
          refine b_iload_n (pc := 54) (i := 1) (dd dtX11_sign 30 rfl) rfl rfl ?_
          refine b_iast (pc := 55) (dd dtX11_sign 31 rfl) pM_17 (by simp only [ist_eq, ist_ne, upd_eq, upd_ne, ne_eq, Nat.reduceEqDiff, not_false_eq_true, hN]; exact vpn rfl hlt (by decide)) ?_
          refine b_aload_n (pc := 56) (i := 0) (dd dtX11_sign 32 rfl) rfl rfl ?_
          refine b_geta (pc := 57) (dd dtX11_sign 33 rfl) fwX11_85 pM_0 rM_0_23 ?_
          refine b_aload_n (pc := 60) (i := 0) (dd dtX11_sign 34 rfl) rfl rfl ?_
          refine b_geti (pc := 61) (dd dtX11_sign 35 rfl) fwX11_79 pM_0 ?_
          refine b_iload_n (pc := 64) (i := 2) (dd dtX11_sign 36 rfl) rfl rfl ?_
          refine b_iast (pc := 65) (dd dtX11_sign 37 rfl) pM_18 (by simp only [ist_eq, ist_ne, upd_eq, upd_ne, ne_eq, Nat.reduceEqDiff, not_false_eq_true, hN]; exact vpn rfl hlt (by decide)) ?_
          refine b_aload_n (pc := 66) (i := 0) (dd dtX11_sign 38 rfl) rfl rfl ?_
          refine b_geta (pc := 67) (dd dtX11_sign 39 rfl) fwX11_91 pM_0 rM_0_25 ?_
          refine b_aload_n (pc := 70) (i := 0) (dd dtX11_sign 40 rfl) rfl rfl ?_
          refine b_geti (pc := 71) (dd dtX11_sign 41 rfl) fwX11_79 pM_0 ?_
          refine b_iload_n (pc := 74) (i := 3) (dd dtX11_sign 42 rfl) rfl rfl ?_
          refine b_iast (pc := 75) (dd dtX11_sign 43 rfl) pM_20 (by simp only [ist_eq, ist_ne, upd_eq, upd_ne, ne_eq, Nat.reduceEqDiff, not_false_eq_true, hN]; exact vpn rfl hlt (by decide)) ?_
          refine b_aload_n (pc := 76) (i := 0) (dd dtX11_sign 44 rfl) rfl rfl ?_
          refine b_geta (pc := 77) (dd dtX11_sign 45 rfl) fwX11_88 pM_0 rM_0_24 ?_
          refine b_aload_n (pc := 80) (i := 0) (dd dtX11_sign 46 rfl) rfl rfl ?_
          refine b_geti (pc := 81) (dd dtX11_sign 47 rfl) fwX11_79 pM_0 ?_
          refine b_aload_n (pc := 84) (i := 0) (dd dtX11_sign 48 rfl) rfl rfl ?_
          refine b_geti (pc := 85) (dd dtX11_sign 49 rfl) fwX11_13 pM_0 ?_
          refine b_iast (pc := 88) (dd dtX11_sign 50 rfl) pM_19 (by simp only [ist_eq, ist_ne, upd_eq, upd_ne, ne_eq, Nat.reduceEqDiff, not_false_eq_true, hN]; exact vpn rfl hlt (by decide)) ?_
          refine b_aload_n (pc := 89) (i := 0) (dd dtX11_sign 51 rfl) rfl rfl ?_
          refine b_geta (pc := 90) (dd dtX11_sign 52 rfl) fwX11_97 pM_0 rM_0_27 ?_
          refine b_aload_n (pc := 93) (i := 0) (dd dtX11_sign 53 rfl) rfl rfl ?_
          refine b_geti (pc := 94) (dd dtX11_sign 54 rfl) fwX11_79 pM_0 ?_
          refine b_icm1 (pc := 97) (dd dtX11_sign 55 rfl) ?_
          refine b_iast (pc := 98) (dd dtX11_sign 56 rfl) pM_22 (by simp only [ist_eq, ist_ne, upd_eq, upd_ne, ne_eq, Nat.reduceEqDiff, not_false_eq_true, hN]; exact vpn rfl hlt (by decide)) ?_
          refine b_aload_n (pc := 99) (i := 0) (dd dtX11_sign 57 rfl) rfl rfl ?_
          refine b_dup (pc := 100) (dd dtX11_sign 58 rfl) rfl ?_
          refine b_geti (pc := 101) (dd dtX11_sign 59 rfl) fwX11_79 pM_0 ?_
          refine b_ic1 (pc := 104) (dd dtX11_sign 60 rfl) ?_
          refine b_iadd (pc := 105) (dd dtX11_sign 61 rfl) ?_
          refine b_puti (pc := 106) (dd dtX11_sign 62 rfl) fwX11_79 pM_0 ?_
          refine b_aload_n (pc := 109) (i := 0) (dd dtX11_sign 63 rfl) rfl rfl ?_
          refine b_geti (pc := 110) (dd dtX11_sign 64 rfl) fwX11_79 pM_0 ?_
          refine b_ic1 (pc := 113) (dd dtX11_sign 65 rfl) ?_
          refine b_isub (pc := 114) (dd dtX11_sign 66 rfl) ?_
          refine b_eq (b_iret (dd dtX11_sign 67 rfl) rfl) ?_ ?_
          · simp [inR, vSign, okSign, ist_eq, ist_ne, upd_eq, upd_ne, nI_1, nI_pred, -Int32.not_lt, -Int32.not_le, *]
          · simp [inR, vSign, okSign, ist_eq, ist_ne, upd_eq, upd_ne, nI_1, nI_clamp (show N < 2 ^ 31 by omega), -Int32.not_lt, -Int32.not_le, *]
        · rw [hN] at h40
          have hge : N = 30 := (nI_eq (by omega) (by decide)).mp h40
          have hlt : ¬ N < 30 := by omega
          refine b_bipush (pc := 43) (v := -4) (dd dtX11_sign 24 rfl) (by decide) ?_
          refine b_eq (b_iret (dd dtX11_sign 25 rfl) rfl) ?_ ?_
          · (try clear hN); simp [inR, vSign, okSign, -Int32.not_lt, -Int32.not_le, *]
          · (try clear hN); simp [inR, vSign, okSign, -Int32.not_lt, -Int32.not_le, *]
      · refine b_bipush (pc := 31) (v := -2) (dd dtX11_sign 18 rfl) (by decide) ?_
        refine b_eq (b_iret (dd dtX11_sign 19 rfl) rfl) ?_ ?_
        · (try clear hN); simp [inR, vSign, okSign, -Int32.not_lt, -Int32.not_le, *]
        · (try clear hN); simp [inR, vSign, okSign, -Int32.not_lt, -Int32.not_le, *]
  · refine b_icm1 (pc := 8) (dd dtX11_sign 4 rfl) ?_
    refine b_eq (b_iret (dd dtX11_sign 5 rfl) rfl) ?_ ?_
    · (try clear hN); simp [inR, vSign, okSign, -Int32.not_lt, -Int32.not_le, *]
    · (try clear hN); simp [inR, vSign, okSign, -Int32.not_lt, -Int32.not_le, *]
def tX11_mend : List (Nat × Instr × Nat) := [(0, .aload_n 0, 1), (1, .iload_n 1, 1), (2, .invokevirtual 270, 3), (5, .ifCond .ne 5, 3), (8, .iconst (-1), 1), (9, .ireturn, 1), (10, .aload_n 0, 1), (11, .iload_n 2, 1), (12, .iconst 0, 1), (13, .bipush 99, 2), (15, .invokevirtual 1, 3), (18, .ifCond .ne 6, 3), (21, .bipush (-2), 2), (23, .ireturn, 1), (24, .aload_n 0, 1), (25, .getfield 97, 3), (28, .iload_n 1, 1), (29, .iaload, 1), (30, .ifCond .lt 6, 3), (33, .bipush (-3), 2), (35, .ireturn, 1), (36, .aload_n 0, 1), (37, .getfield 94, 3), (40, .iload_n 1, 1), (41, .iload_n 2, 1), (42, .iastore, 1), (43, .aload_n 0, 1), (44, .getfield 97, 3), (47, .iload_n 1, 1), (48, .aload_n 0, 1), (49, .getfield 13, 3), (52, .iastore, 1), (53, .aload_n 0, 1), (54, .getfield 91, 3), (57, .iload_n 1, 1), (58, .iaload, 1), (59, .ireturn, 1)]
theorem dtX11_mend : dec_ok mX11_mend.2.1 tX11_mend = true := by decide +kernel
set_option maxHeartbeats 4000000 in
theorem c_X11_mend {I : Wd} {K : Nat} {k v : Int32} (hN : I 0 21 = nI K) (hN2 : K ≤ 30) : Cal SyM mX11_mend 2 [.ref 0, .int k, .int v] I (some (.int (vMend (I 22) (I 20) (I 0 21) k v))) (if okMend (I 22) (I 0 21) k v then ist (ist I 21 k.toNatClampNeg v) 22 k.toNatClampNeg (I 0 0) else I) := by
  refine Cal.of (by decide) (Nat.le_of_ble_eq_true rfl) ?_
  show Bd _ _ _ _ [(0, _), (1, _), (2, _)] _ _ _ _
  refine b_aload_n (pc := 0) (i := 0) (dd dtX11_mend 0 rfl) rfl rfl ?_
  refine b_iload_n (pc := 1) (i := 1) (dd dtX11_mend 1 rfl) rfl rfl ?_
  refine b_invV (pc := 2) (dd dtX11_mend 2 rfl) mlX11_270 mvX11_isSign miX11_isSign (c_X11_isSign) oM_0 rfl rfl (by decide) (Nat.le_of_ble_eq_true rfl) ?_
  refine b_ifb_ne (pc := 5) (tgt := 10) (dd dtX11_mend 3 rfl) (by decide) (fun h5 => ?_) (fun h5 => ?_)
  · refine b_aload_n (pc := 10) (i := 0) (dd dtX11_mend 6 rfl) rfl rfl ?_
    refine b_iload_n (pc := 11) (i := 2) (dd dtX11_mend 7 rfl) rfl rfl ?_
    refine b_ic0 (pc := 12) (dd dtX11_mend 8 rfl) ?_
    refine b_bipush (pc := 13) (v := 99) (dd dtX11_mend 9 rfl) (by decide) ?_
    refine b_invV (pc := 15) (dd dtX11_mend 10 rfl) mlX11_1 mvX11_in miX11_in (c_X11_in) oM_0 rfl rfl (by decide) (Nat.le_of_ble_eq_true rfl) ?_
    refine b_ifb_ne (pc := 18) (tgt := 24) (dd dtX11_mend 11 rfl) (by decide) (fun h18 => ?_) (fun h18 => ?_)
    · refine b_aload_n (pc := 24) (i := 0) (dd dtX11_mend 14 rfl) rfl rfl ?_
      refine b_geta (pc := 25) (dd dtX11_mend 15 rfl) fwX11_97 pM_0 rM_0_27 ?_
      refine b_iload_n (pc := 28) (i := 1) (dd dtX11_mend 16 rfl) rfl rfl ?_
      refine b_iald (pc := 29) (dd dtX11_mend 17 rfl) pM_22 (vpm (by rw [hN] at h5; exact h5) hN2 (by decide)) ?_
      refine b_if_lt (pc := 30) (tgt := 36) (dd dtX11_mend 18 rfl) (by decide) (fun h30 => ?_) (fun h30 => ?_)
      · refine b_aload_n (pc := 36) (i := 0) (dd dtX11_mend 21 rfl) rfl rfl ?_
        refine b_geta (pc := 37) (dd dtX11_mend 22 rfl) fwX11_94 pM_0 rM_0_26 ?_
        refine b_iload_n (pc := 40) (i := 1) (dd dtX11_mend 23 rfl) rfl rfl ?_
        refine b_iload_n (pc := 41) (i := 2) (dd dtX11_mend 24 rfl) rfl rfl ?_
        refine b_iast (pc := 42) (dd dtX11_mend 25 rfl) pM_21 (vpm (by rw [hN] at h5; exact h5) hN2 (by decide)) ?_
        refine b_aload_n (pc := 43) (i := 0) (dd dtX11_mend 26 rfl) rfl rfl ?_
        refine b_geta (pc := 44) (dd dtX11_mend 27 rfl) fwX11_97 pM_0 rM_0_27 ?_
        refine b_iload_n (pc := 47) (i := 1) (dd dtX11_mend 28 rfl) rfl rfl ?_
        refine b_aload_n (pc := 48) (i := 0) (dd dtX11_mend 29 rfl) rfl rfl ?_
        refine b_geti (pc := 49) (dd dtX11_mend 30 rfl) fwX11_13 pM_0 ?_
        refine b_iast (pc := 52) (dd dtX11_mend 31 rfl) pM_22 (vpm (by rw [hN] at h5; exact h5) hN2 (by decide)) ?_
        refine b_aload_n (pc := 53) (i := 0) (dd dtX11_mend 32 rfl) rfl rfl ?_
        refine b_geta (pc := 54) (dd dtX11_mend 33 rfl) fwX11_91 pM_0 rM_0_25 ?_
        refine b_iload_n (pc := 57) (i := 1) (dd dtX11_mend 34 rfl) rfl rfl ?_
        refine b_iald (pc := 58) (dd dtX11_mend 35 rfl) pM_20 (vpm (by rw [hN] at h5; exact h5) hN2 (by decide)) ?_
        refine b_eq (b_iret (dd dtX11_mend 36 rfl) rfl) ?_ ?_
        · (try clear hN); simp [inR, vMend, okMend, ist_eq, ist_ne, -Int32.not_lt, -Int32.not_le, *]
        · (try clear hN); simp [inR, vMend, okMend, ist_eq, ist_ne, -Int32.not_lt, -Int32.not_le, *]
      · refine b_bipush (pc := 33) (v := -3) (dd dtX11_mend 19 rfl) (by decide) ?_
        refine b_eq (b_iret (dd dtX11_mend 20 rfl) rfl) ?_ ?_
        · (try clear hN); simp [inR, vMend, okMend, ist_eq, ist_ne, -Int32.not_lt, -Int32.not_le, *]
        · (try clear hN); simp [inR, vMend, okMend, ist_eq, ist_ne, -Int32.not_lt, -Int32.not_le, *]
    · refine b_bipush (pc := 21) (v := -2) (dd dtX11_mend 12 rfl) (by decide) ?_
      refine b_eq (b_iret (dd dtX11_mend 13 rfl) rfl) ?_ ?_
      · (try clear hN); simp [inR, vMend, okMend, ist_eq, ist_ne, -Int32.not_lt, -Int32.not_le, *]
      · (try clear hN); simp [inR, vMend, okMend, ist_eq, ist_ne, -Int32.not_lt, -Int32.not_le, *]
  · refine b_icm1 (pc := 8) (dd dtX11_mend 4 rfl) ?_
    refine b_eq (b_iret (dd dtX11_mend 5 rfl) rfl) ?_ ?_
    · (try clear hN); simp [inR, vMend, okMend, ist_eq, ist_ne, -Int32.not_lt, -Int32.not_le, *]
    · (try clear hN); simp [inR, vMend, okMend, ist_eq, ist_ne, -Int32.not_lt, -Int32.not_le, *]
def tX11_valueOf : List (Nat × Instr × Nat) := [(0, .aload_n 0, 1), (1, .getfield 97, 3), (4, .iload_n 1, 1), (5, .iaload, 1), (6, .ifCond .lt 22, 3), (9, .aload_n 0, 1), (10, .getfield 97, 3), (13, .iload_n 1, 1), (14, .iaload, 1), (15, .iload_n 2, 1), (16, .if_icmp .gt 12, 3), (19, .aload_n 0, 1), (20, .getfield 94, 3), (23, .iload_n 1, 1), (24, .iaload, 1), (25, .goto 9, 3), (28, .aload_n 0, 1), (29, .getfield 91, 3), (32, .iload_n 1, 1), (33, .iaload, 1), (34, .ireturn, 1)]
theorem dtX11_valueOf : dec_ok mX11_valueOf.2.1 tX11_valueOf = true := by decide +kernel
set_option maxHeartbeats 4000000 in
theorem c_X11_valueOf {I : Wd} {k known : Int32} (hk : vp_in k 30) : Cal SyM mX11_valueOf 0 [.ref 0, .int k, .int known] I (some (.int (sVal (I 22) (I 21) (I 20) known k.toNatClampNeg))) I := by
  refine Cal.of (by decide) (Nat.le_of_ble_eq_true rfl) ?_
  show Bd _ _ _ _ [(0, _), (1, _), (2, _)] _ _ _ _
  refine b_aload_n (pc := 0) (i := 0) (dd dtX11_valueOf 0 rfl) rfl rfl ?_
  refine b_geta (pc := 1) (dd dtX11_valueOf 1 rfl) fwX11_97 pM_0 rM_0_27 ?_
  refine b_iload_n (pc := 4) (i := 1) (dd dtX11_valueOf 2 rfl) rfl rfl ?_
  refine b_iald (pc := 5) (dd dtX11_valueOf 3 rfl) pM_22 (by assumption) ?_
  refine b_if_lt (pc := 6) (tgt := 28) (dd dtX11_valueOf 4 rfl) (by decide) (fun h6 => ?_) (fun h6 => ?_)
  · refine b_aload_n (pc := 28) (i := 0) (dd dtX11_valueOf 16 rfl) rfl rfl ?_
    refine b_geta (pc := 29) (dd dtX11_valueOf 17 rfl) fwX11_91 pM_0 rM_0_25 ?_
    refine b_iload_n (pc := 32) (i := 1) (dd dtX11_valueOf 18 rfl) rfl rfl ?_
    refine b_iald (pc := 33) (dd dtX11_valueOf 19 rfl) pM_20 (by assumption) ?_
    refine b_eq (b_iret (dd dtX11_valueOf 20 rfl) rfl) ?_ ?_
    · simp [sVal, -Int32.not_lt, -Int32.not_le, *]
    · rfl
  · refine b_aload_n (pc := 9) (i := 0) (dd dtX11_valueOf 5 rfl) rfl rfl ?_
    refine b_geta (pc := 10) (dd dtX11_valueOf 6 rfl) fwX11_97 pM_0 rM_0_27 ?_
    refine b_iload_n (pc := 13) (i := 1) (dd dtX11_valueOf 7 rfl) rfl rfl ?_
    refine b_iald (pc := 14) (dd dtX11_valueOf 8 rfl) pM_22 (by assumption) ?_
    refine b_iload_n (pc := 15) (i := 2) (dd dtX11_valueOf 9 rfl) rfl rfl ?_
    refine b_icmp_gt (pc := 16) (tgt := 28) (dd dtX11_valueOf 10 rfl) (by decide) (fun h16 => ?_) (fun h16 => ?_)
    · refine b_aload_n (pc := 28) (i := 0) (dd dtX11_valueOf 16 rfl) rfl rfl ?_
      refine b_geta (pc := 29) (dd dtX11_valueOf 17 rfl) fwX11_91 pM_0 rM_0_25 ?_
      refine b_iload_n (pc := 32) (i := 1) (dd dtX11_valueOf 18 rfl) rfl rfl ?_
      refine b_iald (pc := 33) (dd dtX11_valueOf 19 rfl) pM_20 (by assumption) ?_
      refine b_eq (b_iret (dd dtX11_valueOf 20 rfl) rfl) ?_ ?_
      · simp [sVal, -Int32.not_lt, -Int32.not_le, *]
      · rfl
    · refine b_aload_n (pc := 19) (i := 0) (dd dtX11_valueOf 11 rfl) rfl rfl ?_
      refine b_geta (pc := 20) (dd dtX11_valueOf 12 rfl) fwX11_94 pM_0 rM_0_26 ?_
      refine b_iload_n (pc := 23) (i := 1) (dd dtX11_valueOf 13 rfl) rfl rfl ?_
      refine b_iald (pc := 24) (dd dtX11_valueOf 14 rfl) pM_21 (by assumption) ?_
      refine b_goto (pc := 25) (tgt := 34) (dd dtX11_valueOf 15 rfl) (by decide) ?_
      refine b_eq (b_iret (dd dtX11_valueOf 20 rfl) rfl) ?_ ?_
      · simp [sVal, -Int32.not_lt, -Int32.not_le, *]
      · rfl
def tX11_leastOf : List (Nat × Instr × Nat) := [(0, .aload_n 0, 1), (1, .iload_n 1, 1), (2, .iload_n 2, 1), (3, .invokevirtual 273, 3), (6, .istore_n 3, 1), (7, .iload_n 3, 1), (8, .bipush 15, 2), (10, .if_icmp .le 10, 3), (13, .iload_n 3, 1), (14, .bipush 15, 2), (16, .isub, 1), (17, .goto 4, 3), (20, .iconst 0, 1), (21, .istore 4, 2), (23, .aload_n 0, 1), (24, .getfield 82, 3), (27, .iload_n 1, 1), (28, .iaload, 1), (29, .tableswitch 64 1 5 #[35, 39, 42, 48, 53], 35), (64, .iconst 2, 1), (65, .iload_n 3, 1), (66, .imul, 1), (67, .ireturn, 1), (68, .iload 4, 2), (70, .ireturn, 1), (71, .iconst 2, 1), (72, .iload_n 3, 1), (73, .imul, 1), (74, .iconst 4, 1), (75, .idiv, 1), (76, .ireturn, 1), (77, .iload 4, 2), (79, .iconst 2, 1), (80, .idiv, 1), (81, .ireturn, 1), (82, .iload_n 3, 1), (83, .ifCond .le 8, 3), (86, .bipush 10, 2), (88, .goto 4, 3), (91, .iconst 0, 1), (92, .ireturn, 1), (93, .iload_n 3, 1), (94, .ifCond .le 7, 3), (97, .iconst 1, 1), (98, .goto 4, 3), (101, .iconst 0, 1), (102, .ireturn, 1)]
theorem dtX11_leastOf : dec_ok mX11_leastOf.2.1 tX11_leastOf = true := by decide +kernel
set_option maxHeartbeats 4000000 in
theorem c_X11_leastOf {I : Wd} {k known : Int32} (hk : vp_in k 30) : Cal SyM mX11_leastOf 1 [.ref 0, .int k, .int known] I (some (.int (mLeast (I 17 k.toNatClampNeg) (sVal (I 22) (I 21) (I 20) known k.toNatClampNeg)))) I := by
  refine Cal.of (by decide) (Nat.le_of_ble_eq_true rfl) ?_
  show Bd _ _ _ _ [(0, _), (1, _), (2, _)] _ _ _ _
  refine b_aload_n (pc := 0) (i := 0) (dd dtX11_leastOf 0 rfl) rfl rfl ?_
  refine b_iload_n (pc := 1) (i := 1) (dd dtX11_leastOf 1 rfl) rfl rfl ?_
  refine b_iload_n (pc := 2) (i := 2) (dd dtX11_leastOf 2 rfl) rfl rfl ?_
  refine b_invV (pc := 3) (dd dtX11_leastOf 3 rfl) mlX11_273 mvX11_valueOf miX11_valueOf (c_X11_valueOf hk) oM_0 rfl rfl (by decide) (Nat.le_of_ble_eq_true rfl) ?_
  refine b_istore_n (pc := 6) (i := 3) (lv' := [(3, _), (0, _), (1, _), (2, _)]) (dd dtX11_leastOf 4 rfl) rfl (Nat.le_of_ble_eq_true rfl) rfl ?_
  refine b_iload_n (pc := 7) (i := 3) (dd dtX11_leastOf 5 rfl) rfl rfl ?_
  refine b_bipush (pc := 8) (v := 15) (dd dtX11_leastOf 6 rfl) (by decide) ?_
  refine b_icmpL_le (pc := 10) (tgt := 20) (dd dtX11_leastOf 7 rfl) (by decide) (fun h10 => ?_) (fun h10 => ?_)
  · refine b_ic0 (pc := 20) (dd dtX11_leastOf 12 rfl) ?_
    refine b_istore (pc := 21) (i := 4) (lv' := [(4, _), (3, _), (0, _), (1, _), (2, _)]) (dd dtX11_leastOf 13 rfl) (Nat.le_of_ble_eq_true rfl) rfl ?_
    refine b_aload_n (pc := 23) (i := 0) (dd dtX11_leastOf 14 rfl) rfl rfl ?_
    refine b_geta (pc := 24) (dd dtX11_leastOf 15 rfl) fwX11_82 pM_0 rM_0_22 ?_
    refine b_iload_n (pc := 27) (i := 1) (dd dtX11_leastOf 16 rfl) rfl rfl ?_
    refine b_iald (pc := 28) (dd dtX11_leastOf 17 rfl) pM_17 (by assumption) ?_
    refine b_tsw (pc := 29) (ts := [(1, 64), (2, 68), (3, 71), (4, 77), (5, 82)]) (dfl := 93) (dd dtX11_leastOf 18 rfl) (by decide +kernel) ⟨fun h29 => ?_, fun h29_1 => ⟨fun h29 => ?_, fun h29_2 => ⟨fun h29 => ?_, fun h29_3 => ⟨fun h29 => ?_, fun h29_4 => ⟨fun h29 => ?_, fun h29_5 => ?_⟩⟩⟩⟩⟩
    · refine b_ic2 (pc := 64) (dd dtX11_leastOf 19 rfl) ?_
      refine b_iload_n (pc := 65) (i := 3) (dd dtX11_leastOf 20 rfl) rfl rfl ?_
      refine b_imul (pc := 66) (dd dtX11_leastOf 21 rfl) ?_
      refine b_eq (b_iret (dd dtX11_leastOf 22 rfl) rfl) ?_ ?_
      · simp [mLeast, mLk, -Int32.not_lt, -Int32.not_le, *]
      · rfl
    · refine b_iload (pc := 68) (i := 4) (dd dtX11_leastOf 23 rfl) rfl ?_
      refine b_eq (b_iret (dd dtX11_leastOf 24 rfl) rfl) ?_ ?_
      · simp [mLeast, mLk, -Int32.not_lt, -Int32.not_le, *]
      · rfl
    · refine b_ic2 (pc := 71) (dd dtX11_leastOf 25 rfl) ?_
      refine b_iload_n (pc := 72) (i := 3) (dd dtX11_leastOf 26 rfl) rfl rfl ?_
      refine b_imul (pc := 73) (dd dtX11_leastOf 27 rfl) ?_
      refine b_ic4 (pc := 74) (dd dtX11_leastOf 28 rfl) ?_
      refine b_idiv (pc := 75) (dd dtX11_leastOf 29 rfl) (by decide) ?_
      refine b_eq (b_iret (dd dtX11_leastOf 30 rfl) rfl) ?_ ?_
      · simp [mLeast, mLk, -Int32.not_lt, -Int32.not_le, *]
      · rfl
    · refine b_iload (pc := 77) (i := 4) (dd dtX11_leastOf 31 rfl) rfl ?_
      refine b_ic2 (pc := 79) (dd dtX11_leastOf 32 rfl) ?_
      refine b_idiv (pc := 80) (dd dtX11_leastOf 33 rfl) (by decide) ?_
      refine b_eq (b_iret (dd dtX11_leastOf 34 rfl) rfl) ?_ ?_
      · simp [mLeast, mLk, -Int32.not_lt, -Int32.not_le, *]
      · rfl
    · refine b_iload_n (pc := 82) (i := 3) (dd dtX11_leastOf 35 rfl) rfl rfl ?_
      refine b_ifL_le (pc := 83) (tgt := 91) (dd dtX11_leastOf 36 rfl) (by decide) (fun h83 => ?_) (fun h83 => ?_)
      · refine b_ic0 (pc := 91) (dd dtX11_leastOf 39 rfl) ?_
        refine b_eq (b_iret (dd dtX11_leastOf 40 rfl) rfl) ?_ ?_
        · simp [mLeast, mLk, -Int32.not_lt, -Int32.not_le, *]
        · rfl
      · refine b_bipush (pc := 86) (v := 10) (dd dtX11_leastOf 37 rfl) (by decide) ?_
        refine b_goto (pc := 88) (tgt := 92) (dd dtX11_leastOf 38 rfl) (by decide) ?_
        refine b_eq (b_iret (dd dtX11_leastOf 40 rfl) rfl) ?_ ?_
        · simp [mLeast, mLk, -Int32.not_lt, -Int32.not_le, *]
        · rfl
    · refine b_iload_n (pc := 93) (i := 3) (dd dtX11_leastOf 41 rfl) rfl rfl ?_
      refine b_ifL_le (pc := 94) (tgt := 101) (dd dtX11_leastOf 42 rfl) (by decide) (fun h94 => ?_) (fun h94 => ?_)
      · refine b_ic0 (pc := 101) (dd dtX11_leastOf 45 rfl) ?_
        refine b_eq (b_iret (dd dtX11_leastOf 46 rfl) rfl) ?_ ?_
        · simp [mLeast, mLk, -Int32.not_lt, -Int32.not_le, *]
        · rfl
      · refine b_ic1 (pc := 97) (dd dtX11_leastOf 43 rfl) ?_
        refine b_goto (pc := 98) (tgt := 102) (dd dtX11_leastOf 44 rfl) (by decide) ?_
        refine b_eq (b_iret (dd dtX11_leastOf 46 rfl) rfl) ?_ ?_
        · simp [mLeast, mLk, -Int32.not_lt, -Int32.not_le, *]
        · rfl
  · refine b_iload_n (pc := 13) (i := 3) (dd dtX11_leastOf 8 rfl) rfl rfl ?_
    refine b_bipush (pc := 14) (v := 15) (dd dtX11_leastOf 9 rfl) (by decide) ?_
    refine b_isub (pc := 16) (dd dtX11_leastOf 10 rfl) ?_
    refine b_goto (pc := 17) (tgt := 21) (dd dtX11_leastOf 11 rfl) (by decide) ?_
    refine b_istore (pc := 21) (i := 4) (lv' := [(4, _), (3, _), (0, _), (1, _), (2, _)]) (dd dtX11_leastOf 13 rfl) (Nat.le_of_ble_eq_true rfl) rfl ?_
    refine b_aload_n (pc := 23) (i := 0) (dd dtX11_leastOf 14 rfl) rfl rfl ?_
    refine b_geta (pc := 24) (dd dtX11_leastOf 15 rfl) fwX11_82 pM_0 rM_0_22 ?_
    refine b_iload_n (pc := 27) (i := 1) (dd dtX11_leastOf 16 rfl) rfl rfl ?_
    refine b_iald (pc := 28) (dd dtX11_leastOf 17 rfl) pM_17 (by assumption) ?_
    refine b_tsw (pc := 29) (ts := [(1, 64), (2, 68), (3, 71), (4, 77), (5, 82)]) (dfl := 93) (dd dtX11_leastOf 18 rfl) (by decide +kernel) ⟨fun h29 => ?_, fun h29_1 => ⟨fun h29 => ?_, fun h29_2 => ⟨fun h29 => ?_, fun h29_3 => ⟨fun h29 => ?_, fun h29_4 => ⟨fun h29 => ?_, fun h29_5 => ?_⟩⟩⟩⟩⟩
    · refine b_ic2 (pc := 64) (dd dtX11_leastOf 19 rfl) ?_
      refine b_iload_n (pc := 65) (i := 3) (dd dtX11_leastOf 20 rfl) rfl rfl ?_
      refine b_imul (pc := 66) (dd dtX11_leastOf 21 rfl) ?_
      refine b_eq (b_iret (dd dtX11_leastOf 22 rfl) rfl) ?_ ?_
      · simp [mLeast, mLk, -Int32.not_lt, -Int32.not_le, *]
      · rfl
    · refine b_iload (pc := 68) (i := 4) (dd dtX11_leastOf 23 rfl) rfl ?_
      refine b_eq (b_iret (dd dtX11_leastOf 24 rfl) rfl) ?_ ?_
      · simp [mLeast, mLk, -Int32.not_lt, -Int32.not_le, *]
      · rfl
    · refine b_ic2 (pc := 71) (dd dtX11_leastOf 25 rfl) ?_
      refine b_iload_n (pc := 72) (i := 3) (dd dtX11_leastOf 26 rfl) rfl rfl ?_
      refine b_imul (pc := 73) (dd dtX11_leastOf 27 rfl) ?_
      refine b_ic4 (pc := 74) (dd dtX11_leastOf 28 rfl) ?_
      refine b_idiv (pc := 75) (dd dtX11_leastOf 29 rfl) (by decide) ?_
      refine b_eq (b_iret (dd dtX11_leastOf 30 rfl) rfl) ?_ ?_
      · simp [mLeast, mLk, -Int32.not_lt, -Int32.not_le, *]
      · rfl
    · refine b_iload (pc := 77) (i := 4) (dd dtX11_leastOf 31 rfl) rfl ?_
      refine b_ic2 (pc := 79) (dd dtX11_leastOf 32 rfl) ?_
      refine b_idiv (pc := 80) (dd dtX11_leastOf 33 rfl) (by decide) ?_
      refine b_eq (b_iret (dd dtX11_leastOf 34 rfl) rfl) ?_ ?_
      · simp [mLeast, mLk, -Int32.not_lt, -Int32.not_le, *]
      · rfl
    · refine b_iload_n (pc := 82) (i := 3) (dd dtX11_leastOf 35 rfl) rfl rfl ?_
      refine b_ifL_le (pc := 83) (tgt := 91) (dd dtX11_leastOf 36 rfl) (by decide) (fun h83 => ?_) (fun h83 => ?_)
      · refine b_ic0 (pc := 91) (dd dtX11_leastOf 39 rfl) ?_
        refine b_eq (b_iret (dd dtX11_leastOf 40 rfl) rfl) ?_ ?_
        · simp [mLeast, mLk, -Int32.not_lt, -Int32.not_le, *]
        · rfl
      · refine b_bipush (pc := 86) (v := 10) (dd dtX11_leastOf 37 rfl) (by decide) ?_
        refine b_goto (pc := 88) (tgt := 92) (dd dtX11_leastOf 38 rfl) (by decide) ?_
        refine b_eq (b_iret (dd dtX11_leastOf 40 rfl) rfl) ?_ ?_
        · simp [mLeast, mLk, -Int32.not_lt, -Int32.not_le, *]
        · rfl
    · refine b_iload_n (pc := 93) (i := 3) (dd dtX11_leastOf 41 rfl) rfl rfl ?_
      refine b_ifL_le (pc := 94) (tgt := 101) (dd dtX11_leastOf 42 rfl) (by decide) (fun h94 => ?_) (fun h94 => ?_)
      · refine b_ic0 (pc := 101) (dd dtX11_leastOf 45 rfl) ?_
        refine b_eq (b_iret (dd dtX11_leastOf 46 rfl) rfl) ?_ ?_
        · simp [mLeast, mLk, -Int32.not_lt, -Int32.not_le, *]
        · rfl
      · refine b_ic1 (pc := 97) (dd dtX11_leastOf 43 rfl) ?_
        refine b_goto (pc := 98) (tgt := 102) (dd dtX11_leastOf 44 rfl) (by decide) ?_
        refine b_eq (b_iret (dd dtX11_leastOf 46 rfl) rfl) ?_ ?_
        · simp [mLeast, mLk, -Int32.not_lt, -Int32.not_le, *]
        · rfl
def tX11_mostOf : List (Nat × Instr × Nat) := [(0, .aload_n 0, 1), (1, .getfield 82, 3), (4, .iload_n 1, 1), (5, .iaload, 1), (6, .iconst 2, 1), (7, .if_icmp .ne 15, 3), (10, .aload_n 0, 1), (11, .iload_n 1, 1), (12, .iload_n 2, 1), (13, .invokevirtual 273, 3), (16, .bipush 15, 2), (18, .iadd, 1), (19, .goto 28, 3), (22, .aload_n 0, 1), (23, .getfield 82, 3), (26, .iload_n 1, 1), (27, .iaload, 1), (28, .iconst 4, 1), (29, .if_icmp .ne 15, 3), (32, .aload_n 0, 1), (33, .iload_n 1, 1), (34, .iload_n 2, 1), (35, .invokevirtual 273, 3), (38, .bipush 40, 2), (40, .iadd, 1), (41, .goto 6, 3), (44, .sipush 200, 3), (47, .ireturn, 1)]
theorem dtX11_mostOf : dec_ok mX11_mostOf.2.1 tX11_mostOf = true := by decide +kernel
set_option maxHeartbeats 4000000 in
theorem c_X11_mostOf {I : Wd} {k known : Int32} (hk : vp_in k 30) : Cal SyM mX11_mostOf 1 [.ref 0, .int k, .int known] I (some (.int (mMost (I 17 k.toNatClampNeg) (sVal (I 22) (I 21) (I 20) known k.toNatClampNeg)))) I := by
  refine Cal.of (by decide) (Nat.le_of_ble_eq_true rfl) ?_
  show Bd _ _ _ _ [(0, _), (1, _), (2, _)] _ _ _ _
  refine b_aload_n (pc := 0) (i := 0) (dd dtX11_mostOf 0 rfl) rfl rfl ?_
  refine b_geta (pc := 1) (dd dtX11_mostOf 1 rfl) fwX11_82 pM_0 rM_0_22 ?_
  refine b_iload_n (pc := 4) (i := 1) (dd dtX11_mostOf 2 rfl) rfl rfl ?_
  refine b_iald (pc := 5) (dd dtX11_mostOf 3 rfl) pM_17 (by assumption) ?_
  refine b_ic2 (pc := 6) (dd dtX11_mostOf 4 rfl) ?_
  refine b_icmp_ne (pc := 7) (tgt := 22) (dd dtX11_mostOf 5 rfl) (by decide) (fun h7 => ?_) (fun h7 => ?_)
  · refine b_aload_n (pc := 22) (i := 0) (dd dtX11_mostOf 13 rfl) rfl rfl ?_
    refine b_geta (pc := 23) (dd dtX11_mostOf 14 rfl) fwX11_82 pM_0 rM_0_22 ?_
    refine b_iload_n (pc := 26) (i := 1) (dd dtX11_mostOf 15 rfl) rfl rfl ?_
    refine b_iald (pc := 27) (dd dtX11_mostOf 16 rfl) pM_17 (by assumption) ?_
    refine b_ic4 (pc := 28) (dd dtX11_mostOf 17 rfl) ?_
    refine b_icmp_ne (pc := 29) (tgt := 44) (dd dtX11_mostOf 18 rfl) (by decide) (fun h29 => ?_) (fun h29 => ?_)
    · refine b_sipush (pc := 44) (v := 200) (dd dtX11_mostOf 26 rfl) (by decide) ?_
      refine b_eq (b_iret (dd dtX11_mostOf 27 rfl) rfl) ?_ ?_
      · simp [mMost, *]
      · rfl
    · refine b_aload_n (pc := 32) (i := 0) (dd dtX11_mostOf 19 rfl) rfl rfl ?_
      refine b_iload_n (pc := 33) (i := 1) (dd dtX11_mostOf 20 rfl) rfl rfl ?_
      refine b_iload_n (pc := 34) (i := 2) (dd dtX11_mostOf 21 rfl) rfl rfl ?_
      refine b_invV (pc := 35) (dd dtX11_mostOf 22 rfl) mlX11_273 mvX11_valueOf miX11_valueOf (c_X11_valueOf hk) oM_0 rfl rfl (by decide) (Nat.le_of_ble_eq_true rfl) ?_
      refine b_bipush (pc := 38) (v := 40) (dd dtX11_mostOf 23 rfl) (by decide) ?_
      refine b_iadd (pc := 40) (dd dtX11_mostOf 24 rfl) ?_
      refine b_goto (pc := 41) (tgt := 47) (dd dtX11_mostOf 25 rfl) (by decide) ?_
      refine b_eq (b_iret (dd dtX11_mostOf 27 rfl) rfl) ?_ ?_
      · simp [mMost, *]
      · rfl
  · refine b_aload_n (pc := 10) (i := 0) (dd dtX11_mostOf 6 rfl) rfl rfl ?_
    refine b_iload_n (pc := 11) (i := 1) (dd dtX11_mostOf 7 rfl) rfl rfl ?_
    refine b_iload_n (pc := 12) (i := 2) (dd dtX11_mostOf 8 rfl) rfl rfl ?_
    refine b_invV (pc := 13) (dd dtX11_mostOf 9 rfl) mlX11_273 mvX11_valueOf miX11_valueOf (c_X11_valueOf hk) oM_0 rfl rfl (by decide) (Nat.le_of_ble_eq_true rfl) ?_
    refine b_bipush (pc := 16) (v := 15) (dd dtX11_mostOf 10 rfl) (by decide) ?_
    refine b_iadd (pc := 18) (dd dtX11_mostOf 11 rfl) ?_
    refine b_goto (pc := 19) (tgt := 47) (dd dtX11_mostOf 12 rfl) (by decide) ?_
    refine b_eq (b_iret (dd dtX11_mostOf 27 rfl) rfl) ?_ ?_
    · simp [mMost, *]
    · rfl
def tX11_trustOf : List (Nat × Instr × Nat) := [(0, .aload_n 0, 1), (1, .getfield 82, 3), (4, .iload_n 1, 1), (5, .iaload, 1), (6, .iconst 2, 1), (7, .if_icmp .eq 13, 3), (10, .aload_n 0, 1), (11, .getfield 82, 3), (14, .iload_n 1, 1), (15, .iaload, 1), (16, .iconst 4, 1), (17, .if_icmp .ne 8, 3), (20, .bipush 8, 2), (22, .goto 33, 3), (25, .aload_n 0, 1), (26, .getfield 82, 3), (29, .iload_n 1, 1), (30, .iaload, 1), (31, .iconst 3, 1), (32, .if_icmp .ne 7, 3), (35, .iconst 5, 1), (36, .goto 19, 3), (39, .aload_n 0, 1), (40, .getfield 82, 3), (43, .iload_n 1, 1), (44, .iaload, 1), (45, .iconst 5, 1), (46, .if_icmp .ne 7, 3), (49, .iconst 3, 1), (50, .goto 5, 3), (53, .bipush 10, 2), (55, .ireturn, 1)]
theorem dtX11_trustOf : dec_ok mX11_trustOf.2.1 tX11_trustOf = true := by decide +kernel
set_option maxHeartbeats 4000000 in
theorem c_X11_trustOf {I : Wd} {k : Int32} (hk : vp_in k 30) : Cal SyM mX11_trustOf 0 [.ref 0, .int k] I (some (.int (sTrust (I 17 k.toNatClampNeg)))) I := by
  refine Cal.of (by decide) (Nat.le_of_ble_eq_true rfl) ?_
  show Bd _ _ _ _ [(0, _), (1, _)] _ _ _ _
  refine b_aload_n (pc := 0) (i := 0) (dd dtX11_trustOf 0 rfl) rfl rfl ?_
  refine b_geta (pc := 1) (dd dtX11_trustOf 1 rfl) fwX11_82 pM_0 rM_0_22 ?_
  refine b_iload_n (pc := 4) (i := 1) (dd dtX11_trustOf 2 rfl) rfl rfl ?_
  refine b_iald (pc := 5) (dd dtX11_trustOf 3 rfl) pM_17 (by assumption) ?_
  refine b_ic2 (pc := 6) (dd dtX11_trustOf 4 rfl) ?_
  refine b_icmp_eq (pc := 7) (tgt := 20) (dd dtX11_trustOf 5 rfl) (by decide) (fun h7 => ?_) (fun h7 => ?_)
  · refine b_bipush (pc := 20) (v := 8) (dd dtX11_trustOf 12 rfl) (by decide) ?_
    refine b_goto (pc := 22) (tgt := 55) (dd dtX11_trustOf 13 rfl) (by decide) ?_
    refine b_eq (b_iret (dd dtX11_trustOf 31 rfl) rfl) ?_ ?_
    · simp [sTrust, *]
    · rfl
  · refine b_aload_n (pc := 10) (i := 0) (dd dtX11_trustOf 6 rfl) rfl rfl ?_
    refine b_geta (pc := 11) (dd dtX11_trustOf 7 rfl) fwX11_82 pM_0 rM_0_22 ?_
    refine b_iload_n (pc := 14) (i := 1) (dd dtX11_trustOf 8 rfl) rfl rfl ?_
    refine b_iald (pc := 15) (dd dtX11_trustOf 9 rfl) pM_17 (by assumption) ?_
    refine b_ic4 (pc := 16) (dd dtX11_trustOf 10 rfl) ?_
    refine b_icmp_ne (pc := 17) (tgt := 25) (dd dtX11_trustOf 11 rfl) (by decide) (fun h17 => ?_) (fun h17 => ?_)
    · refine b_aload_n (pc := 25) (i := 0) (dd dtX11_trustOf 14 rfl) rfl rfl ?_
      refine b_geta (pc := 26) (dd dtX11_trustOf 15 rfl) fwX11_82 pM_0 rM_0_22 ?_
      refine b_iload_n (pc := 29) (i := 1) (dd dtX11_trustOf 16 rfl) rfl rfl ?_
      refine b_iald (pc := 30) (dd dtX11_trustOf 17 rfl) pM_17 (by assumption) ?_
      refine b_ic3 (pc := 31) (dd dtX11_trustOf 18 rfl) ?_
      refine b_icmp_ne (pc := 32) (tgt := 39) (dd dtX11_trustOf 19 rfl) (by decide) (fun h32 => ?_) (fun h32 => ?_)
      · refine b_aload_n (pc := 39) (i := 0) (dd dtX11_trustOf 22 rfl) rfl rfl ?_
        refine b_geta (pc := 40) (dd dtX11_trustOf 23 rfl) fwX11_82 pM_0 rM_0_22 ?_
        refine b_iload_n (pc := 43) (i := 1) (dd dtX11_trustOf 24 rfl) rfl rfl ?_
        refine b_iald (pc := 44) (dd dtX11_trustOf 25 rfl) pM_17 (by assumption) ?_
        refine b_ic5 (pc := 45) (dd dtX11_trustOf 26 rfl) ?_
        refine b_icmp_ne (pc := 46) (tgt := 53) (dd dtX11_trustOf 27 rfl) (by decide) (fun h46 => ?_) (fun h46 => ?_)
        · refine b_bipush (pc := 53) (v := 10) (dd dtX11_trustOf 30 rfl) (by decide) ?_
          refine b_eq (b_iret (dd dtX11_trustOf 31 rfl) rfl) ?_ ?_
          · simp [sTrust, *]
          · rfl
        · refine b_ic3 (pc := 49) (dd dtX11_trustOf 28 rfl) ?_
          refine b_goto (pc := 50) (tgt := 55) (dd dtX11_trustOf 29 rfl) (by decide) ?_
          refine b_eq (b_iret (dd dtX11_trustOf 31 rfl) rfl) ?_ ?_
          · simp [sTrust, *]
          · rfl
      · refine b_ic5 (pc := 35) (dd dtX11_trustOf 20 rfl) ?_
        refine b_goto (pc := 36) (tgt := 55) (dd dtX11_trustOf 21 rfl) (by decide) ?_
        refine b_eq (b_iret (dd dtX11_trustOf 31 rfl) rfl) ?_ ?_
        · simp [sTrust, *]
        · rfl
    · refine b_bipush (pc := 20) (v := 8) (dd dtX11_trustOf 12 rfl) (by decide) ?_
      refine b_goto (pc := 22) (tgt := 55) (dd dtX11_trustOf 13 rfl) (by decide) ?_
      refine b_eq (b_iret (dd dtX11_trustOf 31 rfl) rfl) ?_ ?_
      · simp [sTrust, *]
      · rfl
def tX11_signTold : List (Nat × Instr × Nat) := [(0, .aload_n 0, 1), (1, .iload_n 1, 1), (2, .invokevirtual 270, 3), (5, .ifCond .ne 5, 3), (8, .iconst (-1), 1), (9, .ireturn, 1), (10, .aload_n 0, 1), (11, .iload_n 2, 1), (12, .iconst 0, 1), (13, .bipush 6, 2), (15, .invokevirtual 1, 3), (18, .ifCond .eq 11, 3), (21, .aload_n 0, 1), (22, .iload_n 3, 1), (23, .invokevirtual 277, 3), (26, .ifCond .ne 6, 3), (29, .bipush (-2), 2), (31, .ireturn, 1), (32, .iload_n 2, 1), (33, .tableswitch 81 0 5 #[39, 46, 53, 60, 67, 74], 39), (72, .aload_n 0, 1), (73, .getfield 82, 3), (76, .iload_n 1, 1), (77, .iaload, 1), (78, .ireturn, 1), (79, .aload_n 0, 1), (80, .getfield 85, 3), (83, .iload_n 1, 1), (84, .iaload, 1), (85, .ireturn, 1), (86, .aload_n 0, 1), (87, .getfield 88, 3), (90, .iload_n 1, 1), (91, .iaload, 1), (92, .ireturn, 1), (93, .aload_n 0, 1), (94, .iload_n 1, 1), (95, .iload_n 3, 1), (96, .invokevirtual 273, 3), (99, .ireturn, 1), (100, .aload_n 0, 1), (101, .iload_n 1, 1), (102, .iload_n 3, 1), (103, .invokevirtual 280, 3), (106, .ireturn, 1), (107, .aload_n 0, 1), (108, .iload_n 1, 1), (109, .iload_n 3, 1), (110, .invokevirtual 283, 3), (113, .ireturn, 1), (114, .aload_n 0, 1), (115, .iload_n 1, 1), (116, .invokevirtual 286, 3), (119, .ireturn, 1)]
theorem dtX11_signTold : dec_ok mX11_signTold.2.1 tX11_signTold = true := by decide +kernel
set_option maxHeartbeats 4000000 in
theorem c_X11_signTold {I : Wd} {K : Nat} {k what known : Int32} (hN : I 0 21 = nI K) (hN2 : K ≤ 30) : Cal SyM mX11_signTold 2 [.ref 0, .int k, .int what, .int known] I (some (.int (if inR k 0 (I 0 21 - 1) then (if inR what 0 6 ∧ inR known 0 (I 0 0) then (if what = 0 then I 17 k.toNatClampNeg else if what = 1 then I 18 k.toNatClampNeg else if what = 2 then I 19 k.toNatClampNeg else if what = 3 then (sVal (I 22) (I 21) (I 20) known k.toNatClampNeg) else if what = 4 then mLeast (I 17 k.toNatClampNeg) (sVal (I 22) (I 21) (I 20) known k.toNatClampNeg) else if what = 5 then mMost (I 17 k.toNatClampNeg) (sVal (I 22) (I 21) (I 20) known k.toNatClampNeg) else sTrust (I 17 k.toNatClampNeg)) else -2) else -1))) I := by
  refine Cal.of (by decide) (Nat.le_of_ble_eq_true rfl) ?_
  show Bd _ _ _ _ [(0, _), (1, _), (2, _), (3, _)] _ _ _ _
  refine b_aload_n (pc := 0) (i := 0) (dd dtX11_signTold 0 rfl) rfl rfl ?_
  refine b_iload_n (pc := 1) (i := 1) (dd dtX11_signTold 1 rfl) rfl rfl ?_
  refine b_invV (pc := 2) (dd dtX11_signTold 2 rfl) mlX11_270 mvX11_isSign miX11_isSign (c_X11_isSign) oM_0 rfl rfl (by decide) (Nat.le_of_ble_eq_true rfl) ?_
  refine b_ifb_ne (pc := 5) (tgt := 10) (dd dtX11_signTold 3 rfl) (by decide) (fun h5 => ?_) (fun h5 => ?_)
  · refine b_aload_n (pc := 10) (i := 0) (dd dtX11_signTold 6 rfl) rfl rfl ?_
    refine b_iload_n (pc := 11) (i := 2) (dd dtX11_signTold 7 rfl) rfl rfl ?_
    refine b_ic0 (pc := 12) (dd dtX11_signTold 8 rfl) ?_
    refine b_bipush (pc := 13) (v := 6) (dd dtX11_signTold 9 rfl) (by decide) ?_
    refine b_invV (pc := 15) (dd dtX11_signTold 10 rfl) mlX11_1 mvX11_in miX11_in (c_X11_in) oM_0 rfl rfl (by decide) (Nat.le_of_ble_eq_true rfl) ?_
    refine b_ifb_eq (pc := 18) (tgt := 29) (dd dtX11_signTold 11 rfl) (by decide) (fun h18 => ?_) (fun h18 => ?_)
    · refine b_bipush (pc := 29) (v := -2) (dd dtX11_signTold 16 rfl) (by decide) ?_
      refine b_eq (b_iret (dd dtX11_signTold 17 rfl) rfl) ?_ ?_
      · (try clear hN); simp [inR, ite_true, -Int32.not_lt, -Int32.not_le, *]
      · (try clear hN); simp [inR, ite_true, -Int32.not_lt, -Int32.not_le, *]
    · refine b_aload_n (pc := 21) (i := 0) (dd dtX11_signTold 12 rfl) rfl rfl ?_
      refine b_iload_n (pc := 22) (i := 3) (dd dtX11_signTold 13 rfl) rfl rfl ?_
      refine b_invV (pc := 23) (dd dtX11_signTold 14 rfl) mlX11_277 mvX11_isKnown miX11_isKnown (c_X11_isKnown) oM_0 rfl rfl (by decide) (Nat.le_of_ble_eq_true rfl) ?_
      refine b_ifb_ne (pc := 26) (tgt := 32) (dd dtX11_signTold 15 rfl) (by decide) (fun h26 => ?_) (fun h26 => ?_)
      · refine b_iload_n (pc := 32) (i := 2) (dd dtX11_signTold 18 rfl) rfl rfl ?_
        refine b_tsw (pc := 33) (ts := [(0, 72), (1, 79), (2, 86), (3, 93), (4, 100), (5, 107)]) (dfl := 114) (dd dtX11_signTold 19 rfl) (by decide +kernel) ⟨fun h33 => ?_, fun h33_0 => ⟨fun h33 => ?_, fun h33_1 => ⟨fun h33 => ?_, fun h33_2 => ⟨fun h33 => ?_, fun h33_3 => ⟨fun h33 => ?_, fun h33_4 => ⟨fun h33 => ?_, fun h33_5 => ?_⟩⟩⟩⟩⟩⟩
        · refine b_aload_n (pc := 72) (i := 0) (dd dtX11_signTold 20 rfl) rfl rfl ?_
          refine b_geta (pc := 73) (dd dtX11_signTold 21 rfl) fwX11_82 pM_0 rM_0_22 ?_
          refine b_iload_n (pc := 76) (i := 1) (dd dtX11_signTold 22 rfl) rfl rfl ?_
          refine b_iald (pc := 77) (dd dtX11_signTold 23 rfl) pM_17 (vpm (by rw [hN] at h5; exact h5) hN2 (by decide)) ?_
          refine b_eq (b_iret (dd dtX11_signTold 24 rfl) rfl) ?_ ?_
          · (try clear hN); simp [inR, ite_true, -Int32.not_lt, -Int32.not_le, *]
          · (try clear hN); simp [inR, ite_true, -Int32.not_lt, -Int32.not_le, *]
        · refine b_aload_n (pc := 79) (i := 0) (dd dtX11_signTold 25 rfl) rfl rfl ?_
          refine b_geta (pc := 80) (dd dtX11_signTold 26 rfl) fwX11_85 pM_0 rM_0_23 ?_
          refine b_iload_n (pc := 83) (i := 1) (dd dtX11_signTold 27 rfl) rfl rfl ?_
          refine b_iald (pc := 84) (dd dtX11_signTold 28 rfl) pM_18 (vpm (by rw [hN] at h5; exact h5) hN2 (by decide)) ?_
          refine b_eq (b_iret (dd dtX11_signTold 29 rfl) rfl) ?_ ?_
          · (try clear hN); simp [inR, ite_true, -Int32.not_lt, -Int32.not_le, *]
          · (try clear hN); simp [inR, ite_true, -Int32.not_lt, -Int32.not_le, *]
        · refine b_aload_n (pc := 86) (i := 0) (dd dtX11_signTold 30 rfl) rfl rfl ?_
          refine b_geta (pc := 87) (dd dtX11_signTold 31 rfl) fwX11_88 pM_0 rM_0_24 ?_
          refine b_iload_n (pc := 90) (i := 1) (dd dtX11_signTold 32 rfl) rfl rfl ?_
          refine b_iald (pc := 91) (dd dtX11_signTold 33 rfl) pM_19 (vpm (by rw [hN] at h5; exact h5) hN2 (by decide)) ?_
          refine b_eq (b_iret (dd dtX11_signTold 34 rfl) rfl) ?_ ?_
          · (try clear hN); simp [inR, ite_true, -Int32.not_lt, -Int32.not_le, *]
          · (try clear hN); simp [inR, ite_true, -Int32.not_lt, -Int32.not_le, *]
        · refine b_aload_n (pc := 93) (i := 0) (dd dtX11_signTold 35 rfl) rfl rfl ?_
          refine b_iload_n (pc := 94) (i := 1) (dd dtX11_signTold 36 rfl) rfl rfl ?_
          refine b_iload_n (pc := 95) (i := 3) (dd dtX11_signTold 37 rfl) rfl rfl ?_
          refine b_invV (pc := 96) (dd dtX11_signTold 38 rfl) mlX11_273 mvX11_valueOf miX11_valueOf (c_X11_valueOf (vpm (by rw [hN] at h5; exact h5) hN2 (by decide))) oM_0 rfl rfl (by decide) (Nat.le_of_ble_eq_true rfl) ?_
          refine b_eq (b_iret (dd dtX11_signTold 39 rfl) rfl) ?_ ?_
          · (try clear hN); simp [inR, ite_true, -Int32.not_lt, -Int32.not_le, *]
          · (try clear hN); simp [inR, ite_true, -Int32.not_lt, -Int32.not_le, *]
        · refine b_aload_n (pc := 100) (i := 0) (dd dtX11_signTold 40 rfl) rfl rfl ?_
          refine b_iload_n (pc := 101) (i := 1) (dd dtX11_signTold 41 rfl) rfl rfl ?_
          refine b_iload_n (pc := 102) (i := 3) (dd dtX11_signTold 42 rfl) rfl rfl ?_
          refine b_invV (pc := 103) (dd dtX11_signTold 43 rfl) mlX11_280 mvX11_leastOf miX11_leastOf (c_X11_leastOf (vpm (by rw [hN] at h5; exact h5) hN2 (by decide))) oM_0 rfl rfl (by decide) (Nat.le_of_ble_eq_true rfl) ?_
          refine b_eq (b_iret (dd dtX11_signTold 44 rfl) rfl) ?_ ?_
          · (try clear hN); simp [inR, ite_true, -Int32.not_lt, -Int32.not_le, *]
          · (try clear hN); simp [inR, ite_true, -Int32.not_lt, -Int32.not_le, *]
        · refine b_aload_n (pc := 107) (i := 0) (dd dtX11_signTold 45 rfl) rfl rfl ?_
          refine b_iload_n (pc := 108) (i := 1) (dd dtX11_signTold 46 rfl) rfl rfl ?_
          refine b_iload_n (pc := 109) (i := 3) (dd dtX11_signTold 47 rfl) rfl rfl ?_
          refine b_invV (pc := 110) (dd dtX11_signTold 48 rfl) mlX11_283 mvX11_mostOf miX11_mostOf (c_X11_mostOf (vpm (by rw [hN] at h5; exact h5) hN2 (by decide))) oM_0 rfl rfl (by decide) (Nat.le_of_ble_eq_true rfl) ?_
          refine b_eq (b_iret (dd dtX11_signTold 49 rfl) rfl) ?_ ?_
          · (try clear hN); simp [inR, ite_true, -Int32.not_lt, -Int32.not_le, *]
          · (try clear hN); simp [inR, ite_true, -Int32.not_lt, -Int32.not_le, *]
        · refine b_aload_n (pc := 114) (i := 0) (dd dtX11_signTold 50 rfl) rfl rfl ?_
          refine b_iload_n (pc := 115) (i := 1) (dd dtX11_signTold 51 rfl) rfl rfl ?_
          refine b_invV (pc := 116) (dd dtX11_signTold 52 rfl) mlX11_286 mvX11_trustOf miX11_trustOf (c_X11_trustOf (vpm (by rw [hN] at h5; exact h5) hN2 (by decide))) oM_0 rfl rfl (by decide) (Nat.le_of_ble_eq_true rfl) ?_
          refine b_eq (b_iret (dd dtX11_signTold 53 rfl) rfl) ?_ ?_
          · (try clear hN); simp [inR, ite_true, -Int32.not_lt, -Int32.not_le, *]
          · (try clear hN); simp [inR, ite_true, -Int32.not_lt, -Int32.not_le, *]
      · refine b_bipush (pc := 29) (v := -2) (dd dtX11_signTold 16 rfl) (by decide) ?_
        refine b_eq (b_iret (dd dtX11_signTold 17 rfl) rfl) ?_ ?_
        · (try clear hN); simp [inR, ite_true, -Int32.not_lt, -Int32.not_le, *]
        · (try clear hN); simp [inR, ite_true, -Int32.not_lt, -Int32.not_le, *]
  · refine b_icm1 (pc := 8) (dd dtX11_signTold 4 rfl) ?_
    refine b_eq (b_iret (dd dtX11_signTold 5 rfl) rfl) ?_ ?_
    · (try clear hN); simp [inR, ite_true, -Int32.not_lt, -Int32.not_le, *]
    · (try clear hN); simp [inR, ite_true, -Int32.not_lt, -Int32.not_le, *]
def tX11_findSpan : List (Nat × Instr × Nat) := [(0, .aload_n 0, 1), (1, .iconst 0, 1), (2, .putfield 100, 3), (5, .aload_n 0, 1), (6, .sipush 200, 3), (9, .putfield 103, 3), (12, .iconst 0, 1), (13, .istore 4, 2), (15, .iload 4, 2), (17, .aload_n 0, 1), (18, .getfield 79, 3), (21, .if_icmp .ge 108, 3), (24, .aload_n 0, 1), (25, .getfield 85, 3), (28, .iload 4, 2), (30, .iaload, 1), (31, .iload_n 1, 1), (32, .if_icmp .ne 91, 3), (35, .aload_n 0, 1), (36, .getfield 88, 3), (39, .iload 4, 2), (41, .iaload, 1), (42, .iload_n 2, 1), (43, .if_icmp .gt 80, 3), (46, .aload_n 0, 1), (47, .iload 4, 2), (49, .invokevirtual 286, 3), (52, .iload_n 3, 1), (53, .if_icmp .ge 6, 3), (56, .goto 67, 3), (59, .aload_n 0, 1), (60, .aload_n 0, 1), (61, .iload 4, 2), (63, .iload_n 2, 1), (64, .invokevirtual 280, 3), (67, .aload_n 0, 1), (68, .getfield 100, 3), (71, .if_icmp .le 13, 3), (74, .aload_n 0, 1), (75, .iload 4, 2), (77, .iload_n 2, 1), (78, .invokevirtual 280, 3), (81, .goto 7, 3), (84, .aload_n 0, 1), (85, .getfield 100, 3), (88, .putfield 100, 3), (91, .aload_n 0, 1), (92, .aload_n 0, 1), (93, .iload 4, 2), (95, .iload_n 2, 1), (96, .invokevirtual 283, 3), (99, .aload_n 0, 1), (100, .getfield 103, 3), (103, .if_icmp .ge 13, 3), (106, .aload_n 0, 1), (107, .iload 4, 2), (109, .iload_n 2, 1), (110, .invokevirtual 283, 3), (113, .goto 7, 3), (116, .aload_n 0, 1), (117, .getfield 103, 3), (120, .putfield 103, 3), (123, .iinc 4 1, 3), (126, .goto (-111), 3), (129, .return_, 1)]
theorem dtX11_findSpan : dec_ok mX11_findSpan.2.1 tX11_findSpan = true := by decide +kernel
theorem span_w {I : Wd} {a b a2 b2 : Int32} : ist (ist (ist (ist I 0 28 a) 0 29 b) 0 28 a2) 0 29 b2 = ist (ist I 0 28 a2) 0 29 b2 := by
  unfold ist
  simp only [rset_rset, rset_eq]
  congr 1
  funext i
  unfold upd
  by_cases h : i = 29
  · simp [h]
  · by_cases h2 : i = 28 <;> simp [h, h2]
set_option maxHeartbeats 4000000 in
theorem l_X11_findSpan {I : Wd} {K : Nat} {c known tr : Int32} (hN : I 0 21 = nI K) (hN2 : K ≤ 30) : ∀ (n h : Nat) (x4 : Int32) (I2 : Wd), h ≤ K → K < h + n → x4 = nI h → I2 = (ist (ist I 0 28 (mLo (I 17) (I 18) (I 19) (sVal (I 22) (I 21) (I 20) known) c known tr h)) 0 29 (mHi (I 17) (I 18) (I 19) (sVal (I 22) (I 21) (I 20) known) c known tr h)) → Bd SyM mX11_findSpan 2 15 [(4, .int x4), (0, .ref 0), (1, .int c), (2, .int known), (3, .int tr)] [] I2 none (ist (ist I 0 28 (mLo (I 17) (I 18) (I 19) (sVal (I 22) (I 21) (I 20) known) c known tr K)) 0 29 (mHi (I 17) (I 18) (I 19) (sVal (I 22) (I 21) (I 20) known) c known tr K)) := by
  intro n
  induction n with
  | zero => intro h x4 I2 h1 h2; omega
  | succ n ih =>
    intro h x4 I2 h1 h2 e4 eW
    subst e4; subst eW
    have g21 : (ist (ist I 0 28 (mLo (I 17) (I 18) (I 19) (sVal (I 22) (I 21) (I 20) known) c known tr h)) 0 29 (mHi (I 17) (I 18) (I 19) (sVal (I 22) (I 21) (I 20) known) c known tr h)) 0 21 = I 0 21 := by simp [ist_eq, upd_ne]
    refine b_iload (pc := 15) (i := 4) (dd dtX11_findSpan 8 rfl) rfl ?_
    refine b_aload_n (pc := 17) (i := 0) (dd dtX11_findSpan 9 rfl) rfl rfl ?_
    refine b_geti (pc := 18) (dd dtX11_findSpan 10 rfl) fwX11_79 pM_0 ?_
    refine b_icmpL_ge (pc := 21) (tgt := 129) (dd dtX11_findSpan 11 rfl) (by decide) (fun h21 => ?_) (fun h21 => ?_)
    · rw [g21, hN] at h21
      have he : h = K := Nat.le_antisymm h1 (ge_n h21 (by omega))
      subst he
      exact b_eq (b_vret (dd dtX11_findSpan 64 rfl) rfl) rfl rfl
    · rw [g21, hN] at h21
      have hlt : h < K := lt_n h21 (by omega) (by omega)
      refine b_aload_n (pc := 24) (i := 0) (dd dtX11_findSpan 12 rfl) rfl rfl ?_
      refine b_geta (pc := 25) (dd dtX11_findSpan 13 rfl) fwX11_85 pM_0 rM_0_23 ?_
      refine b_iload (pc := 28) (i := 4) (dd dtX11_findSpan 14 rfl) rfl ?_
      refine b_iald (pc := 30) (dd dtX11_findSpan 15 rfl) pM_18 (vpn rfl (show h < 30 by omega) (by decide)) ?_
      refine b_iload_n (pc := 31) (i := 1) (dd dtX11_findSpan 16 rfl) rfl rfl ?_
      refine b_icmp_ne (pc := 32) (tgt := 123) (dd dtX11_findSpan 17 rfl) (by decide) (fun h32 => ?_) (fun h32 => ?_)
      · try simp (disch := decide) only [ist_ne, ist_eq, upd_eq, upd_ne, nI_clamp (show h < 2 ^ 31 by omega)] at h32
        try simp (disch := decide) only [ist_ne, ist_eq, upd_eq, upd_ne, nI_clamp (show h < 2 ^ 31 by omega)] at h43
        try simp (disch := decide) only [ist_ne, ist_eq, upd_eq, upd_ne, nI_clamp (show h < 2 ^ 31 by omega)] at h53
        try simp (disch := decide) only [ist_ne, ist_eq, upd_eq, upd_ne, nI_clamp (show h < 2 ^ 31 by omega)] at h71
        try simp (disch := decide) only [ist_ne, ist_eq, upd_eq, upd_ne, nI_clamp (show h < 2 ^ 31 by omega)] at h103
        refine b_iinc1 (pc := 123) (i := 4) (lv' := [(4, _), (0, _), (1, _), (2, _), (3, _)]) (dd dtX11_findSpan 62 rfl) rfl (Nat.le_of_ble_eq_true rfl) rfl ?_
        refine b_goto (pc := 126) (tgt := 15) (dd dtX11_findSpan 63 rfl) (by decide) ?_
        rw [nI_1]
        refine ih (h + 1) _ _ hlt (by omega) rfl ?_
        · try simp (disch := decide) only [ist_ne, ist_eq, upd_eq, upd_ne, nI_clamp (show h < 2 ^ 31 by omega)]
          first
            | (rw [span_w]; simp [mLo, mHi, -Int32.not_lt, -Int32.not_le, *]; done)
            | (simp [mLo, mHi, -Int32.not_lt, -Int32.not_le, *]; done)
      · simp (disch := decide) only [ist_ne, ist_eq, upd_eq, upd_ne, nI_clamp (show h < 2 ^ 31 by omega)] at h32
        refine b_aload_n (pc := 35) (i := 0) (dd dtX11_findSpan 18 rfl) rfl rfl ?_
        refine b_geta (pc := 36) (dd dtX11_findSpan 19 rfl) fwX11_88 pM_0 rM_0_24 ?_
        refine b_iload (pc := 39) (i := 4) (dd dtX11_findSpan 20 rfl) rfl ?_
        refine b_iald (pc := 41) (dd dtX11_findSpan 21 rfl) pM_19 (vpn rfl (show h < 30 by omega) (by decide)) ?_
        refine b_iload_n (pc := 42) (i := 2) (dd dtX11_findSpan 22 rfl) rfl rfl ?_
        refine b_icmp_gt (pc := 43) (tgt := 123) (dd dtX11_findSpan 23 rfl) (by decide) (fun h43 => ?_) (fun h43 => ?_)
        · try simp (disch := decide) only [ist_ne, ist_eq, upd_eq, upd_ne, nI_clamp (show h < 2 ^ 31 by omega)] at h32
          try simp (disch := decide) only [ist_ne, ist_eq, upd_eq, upd_ne, nI_clamp (show h < 2 ^ 31 by omega)] at h43
          try simp (disch := decide) only [ist_ne, ist_eq, upd_eq, upd_ne, nI_clamp (show h < 2 ^ 31 by omega)] at h53
          try simp (disch := decide) only [ist_ne, ist_eq, upd_eq, upd_ne, nI_clamp (show h < 2 ^ 31 by omega)] at h71
          try simp (disch := decide) only [ist_ne, ist_eq, upd_eq, upd_ne, nI_clamp (show h < 2 ^ 31 by omega)] at h103
          refine b_iinc1 (pc := 123) (i := 4) (lv' := [(4, _), (0, _), (1, _), (2, _), (3, _)]) (dd dtX11_findSpan 62 rfl) rfl (Nat.le_of_ble_eq_true rfl) rfl ?_
          refine b_goto (pc := 126) (tgt := 15) (dd dtX11_findSpan 63 rfl) (by decide) ?_
          rw [nI_1]
          refine ih (h + 1) _ _ hlt (by omega) rfl ?_
          · try simp (disch := decide) only [ist_ne, ist_eq, upd_eq, upd_ne, nI_clamp (show h < 2 ^ 31 by omega)]
            first
              | (rw [span_w]; simp [mLo, mHi, -Int32.not_lt, -Int32.not_le, *]; done)
              | (simp [mLo, mHi, -Int32.not_lt, -Int32.not_le, *]; done)
        · simp (disch := decide) only [ist_ne, ist_eq, upd_eq, upd_ne, nI_clamp (show h < 2 ^ 31 by omega)] at h43
          refine b_aload_n (pc := 46) (i := 0) (dd dtX11_findSpan 24 rfl) rfl rfl ?_
          refine b_iload (pc := 47) (i := 4) (dd dtX11_findSpan 25 rfl) rfl ?_
          refine b_invV (pc := 49) (dd dtX11_findSpan 26 rfl) mlX11_286 mvX11_trustOf miX11_trustOf (c_X11_trustOf (vpn rfl (show h < 30 by omega) (by decide))) oM_0 rfl rfl (by decide) (Nat.le_of_ble_eq_true rfl) ?_
          refine b_iload_n (pc := 52) (i := 3) (dd dtX11_findSpan 27 rfl) rfl rfl ?_
          refine b_icmpL_ge (pc := 53) (tgt := 59) (dd dtX11_findSpan 28 rfl) (by decide) (fun h53 => ?_) (fun h53 => ?_)
          · simp (disch := decide) only [ist_ne, ist_eq, upd_eq, upd_ne, nI_clamp (show h < 2 ^ 31 by omega)] at h53
            refine b_aload_n (pc := 59) (i := 0) (dd dtX11_findSpan 30 rfl) rfl rfl ?_
            refine b_aload_n (pc := 60) (i := 0) (dd dtX11_findSpan 31 rfl) rfl rfl ?_
            refine b_iload (pc := 61) (i := 4) (dd dtX11_findSpan 32 rfl) rfl ?_
            refine b_iload_n (pc := 63) (i := 2) (dd dtX11_findSpan 33 rfl) rfl rfl ?_
            refine b_invV (pc := 64) (dd dtX11_findSpan 34 rfl) mlX11_280 mvX11_leastOf miX11_leastOf (c_X11_leastOf (vpn rfl (show h < 30 by omega) (by decide))) oM_0 rfl rfl (by decide) (Nat.le_of_ble_eq_true rfl) ?_
            refine b_aload_n (pc := 67) (i := 0) (dd dtX11_findSpan 35 rfl) rfl rfl ?_
            refine b_geti (pc := 68) (dd dtX11_findSpan 36 rfl) fwX11_100 pM_0 ?_
            refine b_icmpL_le (pc := 71) (tgt := 84) (dd dtX11_findSpan 37 rfl) (by decide) (fun h71 => ?_) (fun h71 => ?_)
            · refine b_aload_n (pc := 84) (i := 0) (dd dtX11_findSpan 43 rfl) rfl rfl ?_
              refine b_geti (pc := 85) (dd dtX11_findSpan 44 rfl) fwX11_100 pM_0 ?_
              refine b_puti (pc := 88) (dd dtX11_findSpan 45 rfl) fwX11_100 pM_0 ?_
              refine b_aload_n (pc := 91) (i := 0) (dd dtX11_findSpan 46 rfl) rfl rfl ?_
              refine b_aload_n (pc := 92) (i := 0) (dd dtX11_findSpan 47 rfl) rfl rfl ?_
              refine b_iload (pc := 93) (i := 4) (dd dtX11_findSpan 48 rfl) rfl ?_
              refine b_iload_n (pc := 95) (i := 2) (dd dtX11_findSpan 49 rfl) rfl rfl ?_
              refine b_invV (pc := 96) (dd dtX11_findSpan 50 rfl) mlX11_283 mvX11_mostOf miX11_mostOf (c_X11_mostOf (vpn rfl (show h < 30 by omega) (by decide))) oM_0 rfl rfl (by decide) (Nat.le_of_ble_eq_true rfl) ?_
              refine b_aload_n (pc := 99) (i := 0) (dd dtX11_findSpan 51 rfl) rfl rfl ?_
              refine b_geti (pc := 100) (dd dtX11_findSpan 52 rfl) fwX11_103 pM_0 ?_
              refine b_icmpL_ge (pc := 103) (tgt := 116) (dd dtX11_findSpan 53 rfl) (by decide) (fun h103 => ?_) (fun h103 => ?_)
              · refine b_aload_n (pc := 116) (i := 0) (dd dtX11_findSpan 59 rfl) rfl rfl ?_
                refine b_geti (pc := 117) (dd dtX11_findSpan 60 rfl) fwX11_103 pM_0 ?_
                refine b_puti (pc := 120) (dd dtX11_findSpan 61 rfl) fwX11_103 pM_0 ?_
                try simp (disch := decide) only [ist_ne, ist_eq, upd_eq, upd_ne, nI_clamp (show h < 2 ^ 31 by omega)] at h32
                try simp (disch := decide) only [ist_ne, ist_eq, upd_eq, upd_ne, nI_clamp (show h < 2 ^ 31 by omega)] at h43
                try simp (disch := decide) only [ist_ne, ist_eq, upd_eq, upd_ne, nI_clamp (show h < 2 ^ 31 by omega)] at h53
                try simp (disch := decide) only [ist_ne, ist_eq, upd_eq, upd_ne, nI_clamp (show h < 2 ^ 31 by omega)] at h71
                try simp (disch := decide) only [ist_ne, ist_eq, upd_eq, upd_ne, nI_clamp (show h < 2 ^ 31 by omega)] at h103
                refine b_iinc1 (pc := 123) (i := 4) (lv' := [(4, _), (0, _), (1, _), (2, _), (3, _)]) (dd dtX11_findSpan 62 rfl) rfl (Nat.le_of_ble_eq_true rfl) rfl ?_
                refine b_goto (pc := 126) (tgt := 15) (dd dtX11_findSpan 63 rfl) (by decide) ?_
                rw [nI_1]
                refine ih (h + 1) _ _ hlt (by omega) rfl ?_
                · try simp (disch := decide) only [ist_ne, ist_eq, upd_eq, upd_ne, nI_clamp (show h < 2 ^ 31 by omega)]
                  first
                    | (rw [span_w]; simp [mLo, mHi, -Int32.not_lt, -Int32.not_le, *]; done)
                    | (simp [mLo, mHi, -Int32.not_lt, -Int32.not_le, *]; done)
              · refine b_aload_n (pc := 106) (i := 0) (dd dtX11_findSpan 54 rfl) rfl rfl ?_
                refine b_iload (pc := 107) (i := 4) (dd dtX11_findSpan 55 rfl) rfl ?_
                refine b_iload_n (pc := 109) (i := 2) (dd dtX11_findSpan 56 rfl) rfl rfl ?_
                refine b_invV (pc := 110) (dd dtX11_findSpan 57 rfl) mlX11_283 mvX11_mostOf miX11_mostOf (c_X11_mostOf (vpn rfl (show h < 30 by omega) (by decide))) oM_0 rfl rfl (by decide) (Nat.le_of_ble_eq_true rfl) ?_
                refine b_goto (pc := 113) (tgt := 120) (dd dtX11_findSpan 58 rfl) (by decide) ?_
                refine b_puti (pc := 120) (dd dtX11_findSpan 61 rfl) fwX11_103 pM_0 ?_
                try simp (disch := decide) only [ist_ne, ist_eq, upd_eq, upd_ne, nI_clamp (show h < 2 ^ 31 by omega)] at h32
                try simp (disch := decide) only [ist_ne, ist_eq, upd_eq, upd_ne, nI_clamp (show h < 2 ^ 31 by omega)] at h43
                try simp (disch := decide) only [ist_ne, ist_eq, upd_eq, upd_ne, nI_clamp (show h < 2 ^ 31 by omega)] at h53
                try simp (disch := decide) only [ist_ne, ist_eq, upd_eq, upd_ne, nI_clamp (show h < 2 ^ 31 by omega)] at h71
                try simp (disch := decide) only [ist_ne, ist_eq, upd_eq, upd_ne, nI_clamp (show h < 2 ^ 31 by omega)] at h103
                refine b_iinc1 (pc := 123) (i := 4) (lv' := [(4, _), (0, _), (1, _), (2, _), (3, _)]) (dd dtX11_findSpan 62 rfl) rfl (Nat.le_of_ble_eq_true rfl) rfl ?_
                refine b_goto (pc := 126) (tgt := 15) (dd dtX11_findSpan 63 rfl) (by decide) ?_
                rw [nI_1]
                refine ih (h + 1) _ _ hlt (by omega) rfl ?_
                · try simp (disch := decide) only [ist_ne, ist_eq, upd_eq, upd_ne, nI_clamp (show h < 2 ^ 31 by omega)]
                  first
                    | (rw [span_w]; simp [mLo, mHi, -Int32.not_lt, -Int32.not_le, *]; done)
                    | (simp [mLo, mHi, -Int32.not_lt, -Int32.not_le, *]; done)
            · refine b_aload_n (pc := 74) (i := 0) (dd dtX11_findSpan 38 rfl) rfl rfl ?_
              refine b_iload (pc := 75) (i := 4) (dd dtX11_findSpan 39 rfl) rfl ?_
              refine b_iload_n (pc := 77) (i := 2) (dd dtX11_findSpan 40 rfl) rfl rfl ?_
              refine b_invV (pc := 78) (dd dtX11_findSpan 41 rfl) mlX11_280 mvX11_leastOf miX11_leastOf (c_X11_leastOf (vpn rfl (show h < 30 by omega) (by decide))) oM_0 rfl rfl (by decide) (Nat.le_of_ble_eq_true rfl) ?_
              refine b_goto (pc := 81) (tgt := 88) (dd dtX11_findSpan 42 rfl) (by decide) ?_
              refine b_puti (pc := 88) (dd dtX11_findSpan 45 rfl) fwX11_100 pM_0 ?_
              refine b_aload_n (pc := 91) (i := 0) (dd dtX11_findSpan 46 rfl) rfl rfl ?_
              refine b_aload_n (pc := 92) (i := 0) (dd dtX11_findSpan 47 rfl) rfl rfl ?_
              refine b_iload (pc := 93) (i := 4) (dd dtX11_findSpan 48 rfl) rfl ?_
              refine b_iload_n (pc := 95) (i := 2) (dd dtX11_findSpan 49 rfl) rfl rfl ?_
              refine b_invV (pc := 96) (dd dtX11_findSpan 50 rfl) mlX11_283 mvX11_mostOf miX11_mostOf (c_X11_mostOf (vpn rfl (show h < 30 by omega) (by decide))) oM_0 rfl rfl (by decide) (Nat.le_of_ble_eq_true rfl) ?_
              refine b_aload_n (pc := 99) (i := 0) (dd dtX11_findSpan 51 rfl) rfl rfl ?_
              refine b_geti (pc := 100) (dd dtX11_findSpan 52 rfl) fwX11_103 pM_0 ?_
              refine b_icmpL_ge (pc := 103) (tgt := 116) (dd dtX11_findSpan 53 rfl) (by decide) (fun h103 => ?_) (fun h103 => ?_)
              · refine b_aload_n (pc := 116) (i := 0) (dd dtX11_findSpan 59 rfl) rfl rfl ?_
                refine b_geti (pc := 117) (dd dtX11_findSpan 60 rfl) fwX11_103 pM_0 ?_
                refine b_puti (pc := 120) (dd dtX11_findSpan 61 rfl) fwX11_103 pM_0 ?_
                try simp (disch := decide) only [ist_ne, ist_eq, upd_eq, upd_ne, nI_clamp (show h < 2 ^ 31 by omega)] at h32
                try simp (disch := decide) only [ist_ne, ist_eq, upd_eq, upd_ne, nI_clamp (show h < 2 ^ 31 by omega)] at h43
                try simp (disch := decide) only [ist_ne, ist_eq, upd_eq, upd_ne, nI_clamp (show h < 2 ^ 31 by omega)] at h53
                try simp (disch := decide) only [ist_ne, ist_eq, upd_eq, upd_ne, nI_clamp (show h < 2 ^ 31 by omega)] at h71
                try simp (disch := decide) only [ist_ne, ist_eq, upd_eq, upd_ne, nI_clamp (show h < 2 ^ 31 by omega)] at h103
                refine b_iinc1 (pc := 123) (i := 4) (lv' := [(4, _), (0, _), (1, _), (2, _), (3, _)]) (dd dtX11_findSpan 62 rfl) rfl (Nat.le_of_ble_eq_true rfl) rfl ?_
                refine b_goto (pc := 126) (tgt := 15) (dd dtX11_findSpan 63 rfl) (by decide) ?_
                rw [nI_1]
                refine ih (h + 1) _ _ hlt (by omega) rfl ?_
                · try simp (disch := decide) only [ist_ne, ist_eq, upd_eq, upd_ne, nI_clamp (show h < 2 ^ 31 by omega)]
                  first
                    | (rw [span_w]; simp [mLo, mHi, -Int32.not_lt, -Int32.not_le, *]; done)
                    | (simp [mLo, mHi, -Int32.not_lt, -Int32.not_le, *]; done)
              · refine b_aload_n (pc := 106) (i := 0) (dd dtX11_findSpan 54 rfl) rfl rfl ?_
                refine b_iload (pc := 107) (i := 4) (dd dtX11_findSpan 55 rfl) rfl ?_
                refine b_iload_n (pc := 109) (i := 2) (dd dtX11_findSpan 56 rfl) rfl rfl ?_
                refine b_invV (pc := 110) (dd dtX11_findSpan 57 rfl) mlX11_283 mvX11_mostOf miX11_mostOf (c_X11_mostOf (vpn rfl (show h < 30 by omega) (by decide))) oM_0 rfl rfl (by decide) (Nat.le_of_ble_eq_true rfl) ?_
                refine b_goto (pc := 113) (tgt := 120) (dd dtX11_findSpan 58 rfl) (by decide) ?_
                refine b_puti (pc := 120) (dd dtX11_findSpan 61 rfl) fwX11_103 pM_0 ?_
                try simp (disch := decide) only [ist_ne, ist_eq, upd_eq, upd_ne, nI_clamp (show h < 2 ^ 31 by omega)] at h32
                try simp (disch := decide) only [ist_ne, ist_eq, upd_eq, upd_ne, nI_clamp (show h < 2 ^ 31 by omega)] at h43
                try simp (disch := decide) only [ist_ne, ist_eq, upd_eq, upd_ne, nI_clamp (show h < 2 ^ 31 by omega)] at h53
                try simp (disch := decide) only [ist_ne, ist_eq, upd_eq, upd_ne, nI_clamp (show h < 2 ^ 31 by omega)] at h71
                try simp (disch := decide) only [ist_ne, ist_eq, upd_eq, upd_ne, nI_clamp (show h < 2 ^ 31 by omega)] at h103
                refine b_iinc1 (pc := 123) (i := 4) (lv' := [(4, _), (0, _), (1, _), (2, _), (3, _)]) (dd dtX11_findSpan 62 rfl) rfl (Nat.le_of_ble_eq_true rfl) rfl ?_
                refine b_goto (pc := 126) (tgt := 15) (dd dtX11_findSpan 63 rfl) (by decide) ?_
                rw [nI_1]
                refine ih (h + 1) _ _ hlt (by omega) rfl ?_
                · try simp (disch := decide) only [ist_ne, ist_eq, upd_eq, upd_ne, nI_clamp (show h < 2 ^ 31 by omega)]
                  first
                    | (rw [span_w]; simp [mLo, mHi, -Int32.not_lt, -Int32.not_le, *]; done)
                    | (simp [mLo, mHi, -Int32.not_lt, -Int32.not_le, *]; done)
          · refine b_goto (pc := 56) (tgt := 123) (dd dtX11_findSpan 29 rfl) (by decide) ?_
            try simp (disch := decide) only [ist_ne, ist_eq, upd_eq, upd_ne, nI_clamp (show h < 2 ^ 31 by omega)] at h32
            try simp (disch := decide) only [ist_ne, ist_eq, upd_eq, upd_ne, nI_clamp (show h < 2 ^ 31 by omega)] at h43
            try simp (disch := decide) only [ist_ne, ist_eq, upd_eq, upd_ne, nI_clamp (show h < 2 ^ 31 by omega)] at h53
            try simp (disch := decide) only [ist_ne, ist_eq, upd_eq, upd_ne, nI_clamp (show h < 2 ^ 31 by omega)] at h71
            try simp (disch := decide) only [ist_ne, ist_eq, upd_eq, upd_ne, nI_clamp (show h < 2 ^ 31 by omega)] at h103
            refine b_iinc1 (pc := 123) (i := 4) (lv' := [(4, _), (0, _), (1, _), (2, _), (3, _)]) (dd dtX11_findSpan 62 rfl) rfl (Nat.le_of_ble_eq_true rfl) rfl ?_
            refine b_goto (pc := 126) (tgt := 15) (dd dtX11_findSpan 63 rfl) (by decide) ?_
            rw [nI_1]
            refine ih (h + 1) _ _ hlt (by omega) rfl ?_
            · try simp (disch := decide) only [ist_ne, ist_eq, upd_eq, upd_ne, nI_clamp (show h < 2 ^ 31 by omega)]
              first
                | (rw [span_w]; simp [mLo, mHi, -Int32.not_lt, -Int32.not_le, *]; done)
                | (simp [mLo, mHi, -Int32.not_lt, -Int32.not_le, *]; done)
set_option maxHeartbeats 4000000 in
theorem c_X11_findSpan {I : Wd} {K : Nat} {c known tr : Int32} (hN : I 0 21 = nI K) (hN2 : K ≤ 30) : Cal SyM mX11_findSpan 2 [.ref 0, .int c, .int known, .int tr] I none (ist (ist I 0 28 (mLo (I 17) (I 18) (I 19) (sVal (I 22) (I 21) (I 20) known) c known tr K)) 0 29 (mHi (I 17) (I 18) (I 19) (sVal (I 22) (I 21) (I 20) known) c known tr K)) := by
  refine Cal.of (by decide) (Nat.le_of_ble_eq_true rfl) ?_
  show Bd _ _ _ _ [(0, _), (1, _), (2, _), (3, _)] _ _ _ _
  refine b_aload_n (pc := 0) (i := 0) (dd dtX11_findSpan 0 rfl) rfl rfl ?_
  refine b_ic0 (pc := 1) (dd dtX11_findSpan 1 rfl) ?_
  refine b_puti (pc := 2) (dd dtX11_findSpan 2 rfl) fwX11_100 pM_0 ?_
  refine b_aload_n (pc := 5) (i := 0) (dd dtX11_findSpan 3 rfl) rfl rfl ?_
  refine b_sipush (pc := 6) (v := 200) (dd dtX11_findSpan 4 rfl) (by decide) ?_
  refine b_puti (pc := 9) (dd dtX11_findSpan 5 rfl) fwX11_103 pM_0 ?_
  refine b_ic0 (pc := 12) (dd dtX11_findSpan 6 rfl) ?_
  refine b_istore (pc := 13) (i := 4) (lv' := [(4, _), (0, _), (1, _), (2, _), (3, _)]) (dd dtX11_findSpan 7 rfl) (Nat.le_of_ble_eq_true rfl) rfl ?_
  exact l_X11_findSpan hN hN2 (K + 1) 0 _ _ (Nat.zero_le _) (by omega) rfl rfl
