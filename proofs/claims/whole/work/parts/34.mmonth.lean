/-! a month of the reference -/
def FM (J : Wd) (N P : Nat) : Prop := (J 0 3 = nI N ∧ N ≤ 14) ∧ (J 0 4 = nI P ∧ P ≤ 6) ∧ (∀ c, c < 64 → vp_in (J 1 c) 4) ∧ ∀ p, p < P → vp_in (J 14 p) 64
theorem FM.of {I J : Wd} {N P : Nat} (h : FM I N P) (h3 : J 0 3 = I 0 3) (h4 : J 0 4 = I 0 4) (h1 : J 1 = I 1) (h14 : J 14 = I 14) : FM J N P := by
  unfold FM; rw [h1, h3, h4, h14]; exact h
def abM (x : Int32) : Int32 := if x < 0 then -x else x
def wentM (J : Wd) (c : Nat) (u : Int32) : Wd := if J 4 c < 0 then ist J 2 c (mn (J 2 c + u * J 6 (J 1 c).toNatClampNeg / 10) 200) else J
def betM (J : Wd) (a b : Nat) : Wd := wentM (wentM (ist (ist J 5 a (J 5 a - (J 3 a - J 3 b) / 8)) 5 b ((ist J 5 a (J 5 a - (J 3 a - J 3 b) / 8)) 5 b + (J 3 a - J 3 b) / 8)) a (abM ((J 3 a - J 3 b) / 8))) b (abM ((J 3 a - J 3 b) / 8))
def capM (x : Int32) : Int32 := if 9999 < x then 9999 else x
def rainM (J : Wd) : Wd := rset J 3 (fil (fun c => capM (J 3 c + J 0 1)) (J 3) 64)
def lsM (x y : Int32) : Int32 := if x < y then x else y
def pmpM1 (J : Wd) (p : Nat) : Wd := wentM (ist J 3 (J 14 p).toNatClampNeg (J 3 (J 14 p).toNatClampNeg - lsM (J 15 p) (J 3 (J 14 p).toNatClampNeg))) (J 14 p).toNatClampNeg (lsM (J 15 p) (J 3 (J 14 p).toNatClampNeg))
def pmpM (J : Wd) : Nat → Wd
  | 0 => J
  | p + 1 => pmpM1 (pmpM J p) p
def zeroM (J : Wd) : Wd := rset J 5 (fil (fun _ => 0) (J 5) 64)
def bet1 (J : Wd) (c : Nat) : Wd := if c + 8 < 64 then betM J c (c + 8) else J
def bet2 (J : Wd) (c : Nat) : Wd := if c % 8 < 7 then betM J c (c + 1) else J
def betW (J : Wd) : Nat → Wd
  | 0 => J
  | c + 1 => bet2 (bet1 (betW J c) c) c
def addM (J : Wd) : Wd := rset J 3 (fil (fun c => J 3 c + J 5 c) (J 3) 64)
def tkM1 (J : Wd) (c h : Nat) : Wd := if J 10 h = nI c ∧ J 13 h < 0 then ist (ist J 13 h (J 0 0)) 0 2 (J 0 2 + sHarm (J 11) (J 12) (J 16) h) else J
def tkM (J : Wd) (c : Nat) : Nat → Wd
  | 0 => J
  | h + 1 => tkM1 (tkM J c h) c h
def flM1 (J : Wd) (N c : Nat) : Wd :=
  if J 4 c < 0 then
    (if J 7 (J 1 c).toNatClampNeg + J 3 c / 20 < J 2 c then
      tkM (ist (ist (ist J 8 (J 1 c).toNatClampNeg (J 8 (J 1 c).toNatClampNeg + 1)) 4 c (J 0 0)) 9 (J 1 c).toNatClampNeg (J 9 (J 1 c).toNatClampNeg + 1)) c N
    else ist J 8 (J 1 c).toNatClampNeg (J 8 (J 1 c).toNatClampNeg + 1))
  else J
def flM (J : Wd) (N : Nat) : Nat → Wd
  | 0 => J
  | c + 1 => flM1 (flM J N c) N c
def mT7 (J : Wd) : Wd := ist J 0 0 (J 0 0 + 1)
def mT6 (N : Nat) (J : Wd) : Wd := mT7 (flM J N 64)
def mT5 (N : Nat) (J : Wd) : Wd := mT6 N (addM J)
def mT4 (N : Nat) (J : Wd) : Wd := mT5 N (betW J 64)
def mT3 (N : Nat) (J : Wd) : Wd := mT4 N (zeroM J)
def mT2 (N P : Nat) (J : Wd) : Wd := mT3 N (pmpM J P)
def monM (N P : Nat) (J : Wd) : Wd := mT2 N P (rainM J)
def monsM (N P : Nat) (J : Wd) : Nat → Wd
  | 0 => J
  | n + 1 => monM N P (monsM N P J n)
theorem wentM_fr {J : Wd} {c : Nat} {u : Int32} {a : Nat} (h : a ≠ 2) : wentM J c u a = J a := by unfold wentM; split <;> simp [ist_ne h]
theorem betM_fr {J : Wd} {x y a : Nat} (h : a ≠ 2) (h5 : a ≠ 5) : betM J x y a = J a := by unfold betM; rw [wentM_fr h, wentM_fr h, ist_ne h5, ist_ne h5]
theorem rainM_fr {J : Wd} {a : Nat} (h : a ≠ 3) : rainM J a = J a := rset_ne h
theorem pmpM_fr {J : Wd} {p a : Nat} (h : a ≠ 2) (h3 : a ≠ 3) : pmpM J p a = J a := by
  induction p with
  | zero => rfl
  | succ p ih => unfold pmpM pmpM1; rw [wentM_fr h, ist_ne h3, ih]
theorem zeroM_fr {J : Wd} {a : Nat} (h : a ≠ 5) : zeroM J a = J a := rset_ne h
theorem betW_fr {J : Wd} {c a : Nat} (h : a ≠ 2) (h5 : a ≠ 5) : betW J c a = J a := by
  induction c with
  | zero => rfl
  | succ c ih => unfold betW bet2 bet1; split <;> split <;> simp only [betM_fr h h5, ih]
theorem addM_fr {J : Wd} {a : Nat} (h : a ≠ 3) : addM J a = J a := rset_ne h
theorem tkM_z {J : Wd} {c : Nat} : J = tkM J c 0 := rfl
theorem tkM_fr {J : Wd} {c n a : Nat} (h : a ≠ 13) (h0 : a ≠ 0) : tkM J c n a = J a := by
  induction n with
  | zero => rfl
  | succ n ih => unfold tkM tkM1; split <;> simp only [ist_ne h0, ist_ne h, ih]
theorem tkM_0 {J : Wd} {c n j : Nat} (h : j ≠ 2) : tkM J c n 0 j = J 0 j := by
  induction n with
  | zero => rfl
  | succ n ih =>
    unfold tkM tkM1; split
    · rw [ist_eq, upd_ne h, ist_ne (by decide), ih]
    · exact ih
theorem flM_fr {J : Wd} {N c a : Nat} (h0 : a ≠ 0) (h4 : a ≠ 4) (h8 : a ≠ 8) (h9 : a ≠ 9) (h13 : a ≠ 13) : flM J N c a = J a := by
  induction c with
  | zero => rfl
  | succ c ih => unfold flM flM1; split <;> (try split) <;> simp only [tkM_fr h13 h0, ist_ne h4, ist_ne h8, ist_ne h9, ih]
theorem flM_0 {J : Wd} {N c j : Nat} (h : j ≠ 2) : flM J N c 0 j = J 0 j := by
  induction c with
  | zero => rfl
  | succ c ih => unfold flM flM1; split <;> (try split) <;> simp only [tkM_0 h, ist_ne (show 0 ≠ 4 by decide), ist_ne (show 0 ≠ 8 by decide), ist_ne (show 0 ≠ 9 by decide), ih]
theorem FM.rain {J : Wd} {N P : Nat} (h : FM J N P) : FM (rainM J) N P := h.of (by rw [rainM_fr (by decide)]) (by rw [rainM_fr (by decide)]) (rainM_fr (by decide)) (rainM_fr (by decide))
theorem FM.pmp {J : Wd} {N P n : Nat} (h : FM J N P) : FM (pmpM J n) N P := h.of (by rw [pmpM_fr (by decide) (by decide)]) (by rw [pmpM_fr (by decide) (by decide)]) (pmpM_fr (by decide) (by decide)) (pmpM_fr (by decide) (by decide))
theorem FM.zero {J : Wd} {N P : Nat} (h : FM J N P) : FM (zeroM J) N P := h.of (by rw [zeroM_fr (by decide)]) (by rw [zeroM_fr (by decide)]) (zeroM_fr (by decide)) (zeroM_fr (by decide))
theorem FM.bet {J : Wd} {N P n : Nat} (h : FM J N P) : FM (betW J n) N P := h.of (by rw [betW_fr (by decide) (by decide)]) (by rw [betW_fr (by decide) (by decide)]) (betW_fr (by decide) (by decide)) (betW_fr (by decide) (by decide))
theorem FM.add {J : Wd} {N P : Nat} (h : FM J N P) : FM (addM J) N P := h.of (by rw [addM_fr (by decide)]) (by rw [addM_fr (by decide)]) (addM_fr (by decide)) (addM_fr (by decide))
theorem FM.fl {J : Wd} {N P n : Nat} (h : FM J N P) : FM (flM J N n) N P := h.of (flM_0 (by decide)) (flM_0 (by decide)) (flM_fr (by decide) (by decide) (by decide) (by decide) (by decide)) (flM_fr (by decide) (by decide) (by decide) (by decide) (by decide))
theorem FM.t7 {J : Wd} {N P : Nat} (h : FM J N P) : FM (mT7 J) N P := h.of (by unfold mT7; rw [ist_eq, upd_ne (by decide)]) (by unfold mT7; rw [ist_eq, upd_ne (by decide)]) (by unfold mT7; rw [ist_ne (by decide)]) (by unfold mT7; rw [ist_ne (by decide)])
theorem FM.mon {J : Wd} {N P : Nat} (h : FM J N P) : FM (monM N P J) N P := by
  unfold monM mT2 mT3 mT4 mT5 mT6
  exact h.rain.pmp.zero.bet.add.fl.t7
theorem FM.mons {J : Wd} {N P n : Nat} (h : FM J N P) : FM (monsM N P J n) N P := by
  induction n with
  | zero => exact h
  | succ n ih => exact ih.mon
def tX11_harmOf : List (Nat × Instr × Nat) := [(0, .aload_n 0, 1), (1, .getfield 60, 3), (4, .iload_n 1, 1), (5, .iaload, 1), (6, .aload_n 0, 1), (7, .getfield 75, 3), (10, .iload_n 1, 1), (11, .baload, 1), (12, .ifCond .eq 7, 3), (15, .iconst 0, 1), (16, .goto 13, 3), (19, .sipush 1000, 3), (22, .aload_n 0, 1), (23, .getfield 63, 3), (26, .iload_n 1, 1), (27, .iaload, 1), (28, .imul, 1), (29, .iadd, 1), (30, .ireturn, 1)]
theorem dtX11_harmOf : dec_ok mX11_harmOf.2.1 tX11_harmOf = true := by decide +kernel
set_option maxHeartbeats 4000000 in
theorem c_X11_harmOf {J : Wd} {h : Int32} (hh : vp_in h 14) : Cal SyM mX11_harmOf 0 [.ref 0, .int h] J (some (.int (sHarm (J 11) (J 12) (J 16) h.toNatClampNeg))) J := by
  refine Cal.of (by decide) (Nat.le_of_ble_eq_true rfl) ?_
  show Bd _ _ _ _ [(0, _), (1, _)] _ _ _ _
  refine b_aload_n (pc := 0) (i := 0) (dd dtX11_harmOf 0 rfl) rfl rfl ?_
  refine b_geta (pc := 1) (dd dtX11_harmOf 1 rfl) fwX11_60 pM_0 rM_0_15 ?_
  refine b_iload_n (pc := 4) (i := 1) (dd dtX11_harmOf 2 rfl) rfl rfl ?_
  refine b_iald (pc := 5) (dd dtX11_harmOf 3 rfl) pM_11 (by assumption) ?_
  refine b_aload_n (pc := 6) (i := 0) (dd dtX11_harmOf 4 rfl) rfl rfl ?_
  refine b_geta (pc := 7) (dd dtX11_harmOf 5 rfl) fwX11_75 pM_0 rM_0_20 ?_
  refine b_iload_n (pc := 10) (i := 1) (dd dtX11_harmOf 6 rfl) rfl rfl ?_
  refine b_zald (pc := 11) (dd dtX11_harmOf 7 rfl) pM_16 (by assumption) ?_
  refine b_if_eq (pc := 12) (tgt := 19) (dd dtX11_harmOf 8 rfl) (by decide) (fun h12 => ?_) (fun h12 => ?_)
  · refine b_sipush (pc := 19) (v := 1000) (dd dtX11_harmOf 11 rfl) (by decide) ?_
    refine b_aload_n (pc := 22) (i := 0) (dd dtX11_harmOf 12 rfl) rfl rfl ?_
    refine b_geta (pc := 23) (dd dtX11_harmOf 13 rfl) fwX11_63 pM_0 rM_0_16 ?_
    refine b_iload_n (pc := 26) (i := 1) (dd dtX11_harmOf 14 rfl) rfl rfl ?_
    refine b_iald (pc := 27) (dd dtX11_harmOf 15 rfl) pM_12 (by assumption) ?_
    refine b_imul (pc := 28) (dd dtX11_harmOf 16 rfl) ?_
    refine b_iadd (pc := 29) (dd dtX11_harmOf 17 rfl) ?_
    refine b_eq (b_iret (dd dtX11_harmOf 18 rfl) rfl) ?_ ?_
    · simp [sHarm, *]
    · rfl
  · refine b_ic0 (pc := 15) (dd dtX11_harmOf 9 rfl) ?_
    refine b_goto (pc := 16) (tgt := 29) (dd dtX11_harmOf 10 rfl) (by decide) ?_
    refine b_iadd (pc := 29) (dd dtX11_harmOf 17 rfl) ?_
    refine b_eq (b_iret (dd dtX11_harmOf 18 rfl) rfl) ?_ ?_
    · simp [sHarm, *]
    · rfl
theorem wentM_go {J : Wd} {c : Nat} {u : Int32} (h : J 4 c < 0) : wentM J c u = ist J 2 c (mn (J 2 c + u * J 6 (J 1 c).toNatClampNeg / 10) 200) := if_pos h
def tX11_wentBy : List (Nat × Instr × Nat) := [(0, .aload_n 0, 1), (1, .getfield 39, 3), (4, .iload_n 1, 1), (5, .iaload, 1), (6, .ifCond .lt 4, 3), (9, .return_, 1), (10, .aload_n 0, 1), (11, .getfield 33, 3), (14, .iload_n 1, 1), (15, .dup2, 1), (16, .iaload, 1), (17, .iload_n 2, 1), (18, .aload_n 0, 1), (19, .getfield 45, 3), (22, .aload_n 0, 1), (23, .getfield 29, 3), (26, .iload_n 1, 1), (27, .iaload, 1), (28, .iaload, 1), (29, .imul, 1), (30, .bipush 10, 2), (32, .idiv, 1), (33, .iadd, 1), (34, .iastore, 1), (35, .aload_n 0, 1), (36, .getfield 33, 3), (39, .iload_n 1, 1), (40, .iaload, 1), (41, .sipush 200, 3), (44, .if_icmp .le 12, 3), (47, .aload_n 0, 1), (48, .getfield 33, 3), (51, .iload_n 1, 1), (52, .sipush 200, 3), (55, .iastore, 1), (56, .return_, 1)]
theorem dtX11_wentBy : dec_ok mX11_wentBy.2.1 tX11_wentBy = true := by decide +kernel
set_option maxHeartbeats 4000000 in
theorem c_X11_wentBy {J : Wd} {c u : Int32} (hc : vp_in c 64) (hr : vp_in (J 1 c.toNatClampNeg) 4) : Cal SyM mX11_wentBy 0 [.ref 0, .int c, .int u] J none (wentM J c.toNatClampNeg u) := by
  refine Cal.of (by decide) (Nat.le_of_ble_eq_true rfl) ?_
  show Bd _ _ _ _ [(0, _), (1, _), (2, _)] _ _ _ _
  refine b_aload_n (pc := 0) (i := 0) (dd dtX11_wentBy 0 rfl) rfl rfl ?_
  refine b_geta (pc := 1) (dd dtX11_wentBy 1 rfl) fwX11_39 pM_0 rM_0_8 ?_
  refine b_iload_n (pc := 4) (i := 1) (dd dtX11_wentBy 2 rfl) rfl rfl ?_
  refine b_iald (pc := 5) (dd dtX11_wentBy 3 rfl) pM_4 (hc) ?_
  refine b_if_lt (pc := 6) (tgt := 10) (dd dtX11_wentBy 4 rfl) (by decide) (fun h6 => ?_) (fun h6 => ?_)
  · refine b_aload_n (pc := 10) (i := 0) (dd dtX11_wentBy 6 rfl) rfl rfl ?_
    refine b_geta (pc := 11) (dd dtX11_wentBy 7 rfl) fwX11_33 pM_0 rM_0_6 ?_
    refine b_iload_n (pc := 14) (i := 1) (dd dtX11_wentBy 8 rfl) rfl rfl ?_
    refine b_dup2 (pc := 15) (dd dtX11_wentBy 9 rfl) ⟨rfl, rfl⟩ ?_
    refine b_iald (pc := 16) (dd dtX11_wentBy 10 rfl) pM_2 (hc) ?_
    refine b_iload_n (pc := 17) (i := 2) (dd dtX11_wentBy 11 rfl) rfl rfl ?_
    refine b_aload_n (pc := 18) (i := 0) (dd dtX11_wentBy 12 rfl) rfl rfl ?_
    refine b_geta (pc := 19) (dd dtX11_wentBy 13 rfl) fwX11_45 pM_0 rM_0_10 ?_
    refine b_aload_n (pc := 22) (i := 0) (dd dtX11_wentBy 14 rfl) rfl rfl ?_
    refine b_geta (pc := 23) (dd dtX11_wentBy 15 rfl) fwX11_29 pM_0 rM_0_5 ?_
    refine b_iload_n (pc := 26) (i := 1) (dd dtX11_wentBy 16 rfl) rfl rfl ?_
    refine b_iald (pc := 27) (dd dtX11_wentBy 17 rfl) pM_1 (hc) ?_
    refine b_iald (pc := 28) (dd dtX11_wentBy 18 rfl) pM_6 (hr) ?_
    refine b_imul (pc := 29) (dd dtX11_wentBy 19 rfl) ?_
    refine b_bipush (pc := 30) (v := 10) (dd dtX11_wentBy 20 rfl) (by decide) ?_
    refine b_idiv (pc := 32) (dd dtX11_wentBy 21 rfl) (by decide) ?_
    refine b_iadd (pc := 33) (dd dtX11_wentBy 22 rfl) ?_
    refine b_iast (pc := 34) (dd dtX11_wentBy 23 rfl) pM_2 (hc) ?_
    refine b_aload_n (pc := 35) (i := 0) (dd dtX11_wentBy 24 rfl) rfl rfl ?_
    refine b_geta (pc := 36) (dd dtX11_wentBy 25 rfl) fwX11_33 pM_0 rM_0_6 ?_
    refine b_iload_n (pc := 39) (i := 1) (dd dtX11_wentBy 26 rfl) rfl rfl ?_
    refine b_iald (pc := 40) (dd dtX11_wentBy 27 rfl) pM_2 (hc) ?_
    refine b_sipush (pc := 41) (v := 200) (dd dtX11_wentBy 28 rfl) (by decide) ?_
    rw [ist_eq, upd_eq]
    refine b_icmpL_le (pc := 44) (tgt := 56) (dd dtX11_wentBy 29 rfl) (by decide) (fun h44 => ?_) (fun h44 => ?_)
    · refine b_eq (b_vret (dd dtX11_wentBy 35 rfl) rfl) ?_ ?_
      · rfl
      · rw [wentM_go (by assumption)]
        unfold mn
        first
          | (rw [if_pos (by assumption), ist_ist])
          | rw [if_neg (by assumption)]
    · refine b_aload_n (pc := 47) (i := 0) (dd dtX11_wentBy 30 rfl) rfl rfl ?_
      refine b_geta (pc := 48) (dd dtX11_wentBy 31 rfl) fwX11_33 pM_0 rM_0_6 ?_
      refine b_iload_n (pc := 51) (i := 1) (dd dtX11_wentBy 32 rfl) rfl rfl ?_
      refine b_sipush (pc := 52) (v := 200) (dd dtX11_wentBy 33 rfl) (by decide) ?_
      refine b_iast (pc := 55) (dd dtX11_wentBy 34 rfl) pM_2 (hc) ?_
      refine b_eq (b_vret (dd dtX11_wentBy 35 rfl) rfl) ?_ ?_
      · rfl
      · rw [wentM_go (by assumption)]
        unfold mn
        first
          | (rw [if_pos (by assumption), ist_ist])
          | rw [if_neg (by assumption)]
  · refine b_eq (b_vret (dd dtX11_wentBy 5 rfl) rfl) ?_ ?_
    · rfl
    · unfold wentM; rw [if_neg (by assumption)]
def tX11_between : List (Nat × Instr × Nat) := [(0, .aload_n 0, 1), (1, .getfield 36, 3), (4, .iload_n 1, 1), (5, .iaload, 1), (6, .aload_n 0, 1), (7, .getfield 36, 3), (10, .iload_n 2, 1), (11, .iaload, 1), (12, .isub, 1), (13, .bipush 8, 2), (15, .idiv, 1), (16, .istore_n 3, 1), (17, .aload_n 0, 1), (18, .getfield 42, 3), (21, .iload_n 1, 1), (22, .dup2, 1), (23, .iaload, 1), (24, .iload_n 3, 1), (25, .isub, 1), (26, .iastore, 1), (27, .aload_n 0, 1), (28, .getfield 42, 3), (31, .iload_n 2, 1), (32, .dup2, 1), (33, .iaload, 1), (34, .iload_n 3, 1), (35, .iadd, 1), (36, .iastore, 1), (37, .aload_n 0, 1), (38, .iload_n 1, 1), (39, .iload_n 3, 1), (40, .ifCond .ge 8, 3), (43, .iload_n 3, 1), (44, .ineg, 1), (45, .goto 4, 3), (48, .iload_n 3, 1), (49, .invokevirtual 256, 3), (52, .aload_n 0, 1), (53, .iload_n 2, 1), (54, .iload_n 3, 1), (55, .ifCond .ge 8, 3), (58, .iload_n 3, 1), (59, .ineg, 1), (60, .goto 4, 3), (63, .iload_n 3, 1), (64, .invokevirtual 256, 3), (67, .return_, 1)]
theorem dtX11_between : dec_ok mX11_between.2.1 tX11_between = true := by decide +kernel
set_option maxHeartbeats 4000000 in
theorem c_X11_between {J : Wd} {a b : Int32} (ha : vp_in a 64) (hb : vp_in b 64) (hr : ∀ c, c < 64 → vp_in (J 1 c) 4) : Cal SyM mX11_between 1 [.ref 0, .int a, .int b] J none (betM J a.toNatClampNeg b.toNatClampNeg) := by
  refine Cal.of (by decide) (Nat.le_of_ble_eq_true rfl) ?_
  show Bd _ _ _ _ [(0, _), (1, _), (2, _)] _ _ _ _
  refine b_aload_n (pc := 0) (i := 0) (dd dtX11_between 0 rfl) rfl rfl ?_
  refine b_geta (pc := 1) (dd dtX11_between 1 rfl) fwX11_36 pM_0 rM_0_7 ?_
  refine b_iload_n (pc := 4) (i := 1) (dd dtX11_between 2 rfl) rfl rfl ?_
  refine b_iald (pc := 5) (dd dtX11_between 3 rfl) pM_3 (ha) ?_
  refine b_aload_n (pc := 6) (i := 0) (dd dtX11_between 4 rfl) rfl rfl ?_
  refine b_geta (pc := 7) (dd dtX11_between 5 rfl) fwX11_36 pM_0 rM_0_7 ?_
  refine b_iload_n (pc := 10) (i := 2) (dd dtX11_between 6 rfl) rfl rfl ?_
  refine b_iald (pc := 11) (dd dtX11_between 7 rfl) pM_3 (hb) ?_
  refine b_isub (pc := 12) (dd dtX11_between 8 rfl) ?_
  refine b_bipush (pc := 13) (v := 8) (dd dtX11_between 9 rfl) (by decide) ?_
  refine b_idiv (pc := 15) (dd dtX11_between 10 rfl) (by decide) ?_
  refine b_istore_n (pc := 16) (i := 3) (lv' := [(3, _), (0, _), (1, _), (2, _)]) (dd dtX11_between 11 rfl) rfl (Nat.le_of_ble_eq_true rfl) rfl ?_
  refine b_aload_n (pc := 17) (i := 0) (dd dtX11_between 12 rfl) rfl rfl ?_
  refine b_geta (pc := 18) (dd dtX11_between 13 rfl) fwX11_42 pM_0 rM_0_9 ?_
  refine b_iload_n (pc := 21) (i := 1) (dd dtX11_between 14 rfl) rfl rfl ?_
  refine b_dup2 (pc := 22) (dd dtX11_between 15 rfl) ⟨rfl, rfl⟩ ?_
  refine b_iald (pc := 23) (dd dtX11_between 16 rfl) pM_5 (ha) ?_
  refine b_iload_n (pc := 24) (i := 3) (dd dtX11_between 17 rfl) rfl rfl ?_
  refine b_isub (pc := 25) (dd dtX11_between 18 rfl) ?_
  refine b_iast (pc := 26) (dd dtX11_between 19 rfl) pM_5 (ha) ?_
  refine b_aload_n (pc := 27) (i := 0) (dd dtX11_between 20 rfl) rfl rfl ?_
  refine b_geta (pc := 28) (dd dtX11_between 21 rfl) fwX11_42 pM_0 rM_0_9 ?_
  refine b_iload_n (pc := 31) (i := 2) (dd dtX11_between 22 rfl) rfl rfl ?_
  refine b_dup2 (pc := 32) (dd dtX11_between 23 rfl) ⟨rfl, rfl⟩ ?_
  refine b_iald (pc := 33) (dd dtX11_between 24 rfl) pM_5 (hb) ?_
  refine b_iload_n (pc := 34) (i := 3) (dd dtX11_between 25 rfl) rfl rfl ?_
  refine b_iadd (pc := 35) (dd dtX11_between 26 rfl) ?_
  refine b_iast (pc := 36) (dd dtX11_between 27 rfl) pM_5 (hb) ?_
  refine b_aload_n (pc := 37) (i := 0) (dd dtX11_between 28 rfl) rfl rfl ?_
  refine b_iload_n (pc := 38) (i := 1) (dd dtX11_between 29 rfl) rfl rfl ?_
  refine b_iload_n (pc := 39) (i := 3) (dd dtX11_between 30 rfl) rfl rfl ?_
  refine b_ifL_ge (pc := 40) (tgt := 48) (dd dtX11_between 31 rfl) (by decide) (fun h40 => ?_) (fun h40 => ?_)
  · refine b_iload_n (pc := 48) (i := 3) (dd dtX11_between 35 rfl) rfl rfl ?_
    refine b_invV (pc := 49) (dd dtX11_between 36 rfl) mlX11_256 mvX11_wentBy miX11_wentBy (c_X11_wentBy ha (by rw [ist_ne (by decide), ist_ne (by decide)]; exact hr _ (vp_lt ha))) oM_0 rfl rfl (by decide) (Nat.le_of_ble_eq_true rfl) ?_
    refine b_aload_n (pc := 52) (i := 0) (dd dtX11_between 37 rfl) rfl rfl ?_
    refine b_iload_n (pc := 53) (i := 2) (dd dtX11_between 38 rfl) rfl rfl ?_
    refine b_iload_n (pc := 54) (i := 3) (dd dtX11_between 39 rfl) rfl rfl ?_
    refine b_ifL_ge (pc := 55) (tgt := 63) (dd dtX11_between 40 rfl) (by decide) (fun h55 => ?_) (fun h55 => ?_)
    · refine b_iload_n (pc := 63) (i := 3) (dd dtX11_between 44 rfl) rfl rfl ?_
      refine b_invV (pc := 64) (dd dtX11_between 45 rfl) mlX11_256 mvX11_wentBy miX11_wentBy (c_X11_wentBy hb (by rw [wentM_fr (by decide), ist_ne (by decide), ist_ne (by decide)]; exact hr _ (vp_lt hb))) oM_0 rfl rfl (by decide) (Nat.le_of_ble_eq_true rfl) ?_
      refine b_eq (b_vret (dd dtX11_between 46 rfl) rfl) ?_ ?_
      · rfl
      · unfold betM abM
        first
          | contradiction
          | (rw [if_pos (by assumption)])
          | rw [if_neg (by assumption)]
    · refine b_iload_n (pc := 58) (i := 3) (dd dtX11_between 41 rfl) rfl rfl ?_
      refine b_ineg (pc := 59) (dd dtX11_between 42 rfl) ?_
      refine b_goto (pc := 60) (tgt := 64) (dd dtX11_between 43 rfl) (by decide) ?_
      refine b_invV (pc := 64) (dd dtX11_between 45 rfl) mlX11_256 mvX11_wentBy miX11_wentBy (c_X11_wentBy hb (by rw [wentM_fr (by decide), ist_ne (by decide), ist_ne (by decide)]; exact hr _ (vp_lt hb))) oM_0 rfl rfl (by decide) (Nat.le_of_ble_eq_true rfl) ?_
      refine b_eq (b_vret (dd dtX11_between 46 rfl) rfl) ?_ ?_
      · rfl
      · unfold betM abM
        first
          | contradiction
          | (rw [if_pos (by assumption)])
          | rw [if_neg (by assumption)]
  · refine b_iload_n (pc := 43) (i := 3) (dd dtX11_between 32 rfl) rfl rfl ?_
    refine b_ineg (pc := 44) (dd dtX11_between 33 rfl) ?_
    refine b_goto (pc := 45) (tgt := 49) (dd dtX11_between 34 rfl) (by decide) ?_
    refine b_invV (pc := 49) (dd dtX11_between 36 rfl) mlX11_256 mvX11_wentBy miX11_wentBy (c_X11_wentBy ha (by rw [ist_ne (by decide), ist_ne (by decide)]; exact hr _ (vp_lt ha))) oM_0 rfl rfl (by decide) (Nat.le_of_ble_eq_true rfl) ?_
    refine b_aload_n (pc := 52) (i := 0) (dd dtX11_between 37 rfl) rfl rfl ?_
    refine b_iload_n (pc := 53) (i := 2) (dd dtX11_between 38 rfl) rfl rfl ?_
    refine b_iload_n (pc := 54) (i := 3) (dd dtX11_between 39 rfl) rfl rfl ?_
    refine b_ifL_ge (pc := 55) (tgt := 63) (dd dtX11_between 40 rfl) (by decide) (fun h55 => ?_) (fun h55 => ?_)
    · refine b_iload_n (pc := 63) (i := 3) (dd dtX11_between 44 rfl) rfl rfl ?_
      refine b_invV (pc := 64) (dd dtX11_between 45 rfl) mlX11_256 mvX11_wentBy miX11_wentBy (c_X11_wentBy hb (by rw [wentM_fr (by decide), ist_ne (by decide), ist_ne (by decide)]; exact hr _ (vp_lt hb))) oM_0 rfl rfl (by decide) (Nat.le_of_ble_eq_true rfl) ?_
      refine b_eq (b_vret (dd dtX11_between 46 rfl) rfl) ?_ ?_
      · rfl
      · unfold betM abM
        first
          | contradiction
          | (rw [if_pos (by assumption)])
          | rw [if_neg (by assumption)]
    · refine b_iload_n (pc := 58) (i := 3) (dd dtX11_between 41 rfl) rfl rfl ?_
      refine b_ineg (pc := 59) (dd dtX11_between 42 rfl) ?_
      refine b_goto (pc := 60) (tgt := 64) (dd dtX11_between 43 rfl) (by decide) ?_
      refine b_invV (pc := 64) (dd dtX11_between 45 rfl) mlX11_256 mvX11_wentBy miX11_wentBy (c_X11_wentBy hb (by rw [wentM_fr (by decide), ist_ne (by decide), ist_ne (by decide)]; exact hr _ (vp_lt hb))) oM_0 rfl rfl (by decide) (Nat.le_of_ble_eq_true rfl) ?_
      refine b_eq (b_vret (dd dtX11_between 46 rfl) rfl) ?_ ?_
      · rfl
      · unfold betM abM
        first
          | contradiction
          | (rw [if_pos (by assumption)])
          | rw [if_neg (by assumption)]
def tX11_goMonth : List (Nat × Instr × Nat) := [(0, .iconst 0, 1), (1, .istore_n 1, 1), (2, .iload_n 1, 1), (3, .bipush 64, 2), (5, .if_icmp .ge 49, 3), (8, .aload_n 0, 1), (9, .getfield 36, 3), (12, .iload_n 1, 1), (13, .aload_n 0, 1), (14, .getfield 36, 3), (17, .iload_n 1, 1), (18, .iaload, 1), (19, .aload_n 0, 1), (20, .getfield 17, 3), (23, .iadd, 1), (24, .sipush 9999, 3), (27, .if_icmp .le 9, 3), (30, .sipush 9999, 3), (33, .goto 14, 3), (36, .aload_n 0, 1), (37, .getfield 36, 3), (40, .iload_n 1, 1), (41, .iaload, 1), (42, .aload_n 0, 1), (43, .getfield 17, 3), (46, .iadd, 1), (47, .iastore, 1), (48, .iinc 1 1, 3), (51, .goto (-49), 3), (54, .iconst 0, 1), (55, .istore_n 1, 1), (56, .iload_n 1, 1), (57, .aload_n 0, 1), (58, .getfield 26, 3), (61, .if_icmp .ge 76, 3), (64, .aload_n 0, 1), (65, .getfield 72, 3), (68, .iload_n 1, 1), (69, .iaload, 1), (70, .aload_n 0, 1), (71, .getfield 36, 3), (74, .aload_n 0, 1), (75, .getfield 69, 3), (78, .iload_n 1, 1), (79, .iaload, 1), (80, .iaload, 1), (81, .if_icmp .ge 12, 3), (84, .aload_n 0, 1), (85, .getfield 72, 3), (88, .iload_n 1, 1), (89, .iaload, 1), (90, .goto 14, 3), (93, .aload_n 0, 1), (94, .getfield 36, 3), (97, .aload_n 0, 1), (98, .getfield 69, 3), (101, .iload_n 1, 1), (102, .iaload, 1), (103, .iaload, 1), (104, .istore_n 2, 1), (105, .aload_n 0, 1), (106, .getfield 36, 3), (109, .aload_n 0, 1), (110, .getfield 69, 3), (113, .iload_n 1, 1), (114, .iaload, 1), (115, .dup2, 1), (116, .iaload, 1), (117, .iload_n 2, 1), (118, .isub, 1), (119, .iastore, 1), (120, .aload_n 0, 1), (121, .aload_n 0, 1), (122, .getfield 69, 3), (125, .iload_n 1, 1), (126, .iaload, 1), (127, .iload_n 2, 1), (128, .invokevirtual 256, 3), (131, .iinc 1 1, 3), (134, .goto (-78), 3), (137, .iconst 0, 1), (138, .istore_n 1, 1), (139, .iload_n 1, 1), (140, .bipush 64, 2), (142, .if_icmp .ge 16, 3), (145, .aload_n 0, 1), (146, .getfield 42, 3), (149, .iload_n 1, 1), (150, .iconst 0, 1), (151, .iastore, 1), (152, .iinc 1 1, 3), (155, .goto (-16), 3), (158, .iconst 0, 1), (159, .istore_n 1, 1), (160, .iload_n 1, 1), (161, .bipush 64, 2), (163, .if_icmp .ge 41, 3), (166, .iload_n 1, 1), (167, .bipush 56, 2), (169, .if_icmp .ge 12, 3), (172, .aload_n 0, 1), (173, .iload_n 1, 1), (174, .iload_n 1, 1), (175, .bipush 8, 2), (177, .iadd, 1), (178, .invokevirtual 260, 3), (181, .iload_n 1, 1), (182, .bipush 8, 2), (184, .irem, 1), (185, .bipush 7, 2), (187, .if_icmp .ge 11, 3), (190, .aload_n 0, 1), (191, .iload_n 1, 1), (192, .iload_n 1, 1), (193, .iconst 1, 1), (194, .iadd, 1), (195, .invokevirtual 260, 3), (198, .iinc 1 1, 3), (201, .goto (-41), 3), (204, .iconst 0, 1), (205, .istore_n 1, 1), (206, .iload_n 1, 1), (207, .bipush 64, 2), (209, .if_icmp .ge 24, 3), (212, .aload_n 0, 1), (213, .getfield 36, 3), (216, .iload_n 1, 1), (217, .dup2, 1), (218, .iaload, 1), (219, .aload_n 0, 1), (220, .getfield 42, 3), (223, .iload_n 1, 1), (224, .iaload, 1), (225, .iadd, 1), (226, .iastore, 1), (227, .iinc 1 1, 3), (230, .goto (-24), 3), (233, .iconst 0, 1), (234, .istore_n 1, 1), (235, .iload_n 1, 1), (236, .bipush 64, 2), (238, .if_icmp .ge 156, 3), (241, .aload_n 0, 1), (242, .getfield 39, 3), (245, .iload_n 1, 1), (246, .iaload, 1), (247, .ifCond .lt 6, 3), (250, .goto 138, 3), (253, .aload_n 0, 1), (254, .getfield 51, 3), (257, .aload_n 0, 1), (258, .getfield 29, 3), (261, .iload_n 1, 1), (262, .iaload, 1), (263, .dup2, 1), (264, .iaload, 1), (265, .iconst 1, 1), (266, .iadd, 1), (267, .iastore, 1), (268, .aload_n 0, 1), (269, .getfield 33, 3), (272, .iload_n 1, 1), (273, .iaload, 1), (274, .aload_n 0, 1), (275, .getfield 48, 3), (278, .aload_n 0, 1), (279, .getfield 29, 3), (282, .iload_n 1, 1), (283, .iaload, 1), (284, .iaload, 1), (285, .aload_n 0, 1), (286, .getfield 36, 3), (289, .iload_n 1, 1), (290, .iaload, 1), (291, .bipush 20, 2), (293, .idiv, 1), (294, .iadd, 1), (295, .if_icmp .gt 6, 3), (298, .goto 90, 3), (301, .aload_n 0, 1), (302, .getfield 39, 3), (305, .iload_n 1, 1), (306, .aload_n 0, 1), (307, .getfield 13, 3), (310, .iastore, 1), (311, .aload_n 0, 1), (312, .getfield 54, 3), (315, .aload_n 0, 1), (316, .getfield 29, 3), (319, .iload_n 1, 1), (320, .iaload, 1), (321, .dup2, 1), (322, .iaload, 1), (323, .iconst 1, 1), (324, .iadd, 1), (325, .iastore, 1), (326, .iconst 0, 1), (327, .istore_n 2, 1), (328, .iload_n 2, 1), (329, .aload_n 0, 1), (330, .getfield 23, 3), (333, .if_icmp .ge 55, 3), (336, .aload_n 0, 1), (337, .getfield 57, 3), (340, .iload_n 2, 1), (341, .iaload, 1), (342, .iload_n 1, 1), (343, .if_icmp .ne 39, 3), (346, .aload_n 0, 1), (347, .getfield 66, 3), (350, .iload_n 2, 1), (351, .iaload, 1), (352, .ifCond .lt 6, 3), (355, .goto 27, 3), (358, .aload_n 0, 1), (359, .getfield 66, 3), (362, .iload_n 2, 1), (363, .aload_n 0, 1), (364, .getfield 13, 3), (367, .iastore, 1), (368, .aload_n 0, 1), (369, .dup, 1), (370, .getfield 20, 3), (373, .aload_n 0, 1), (374, .iload_n 2, 1), (375, .invokevirtual 263, 3), (378, .iadd, 1), (379, .putfield 20, 3), (382, .iinc 2 1, 3), (385, .goto (-57), 3), (388, .iinc 1 1, 3), (391, .goto (-156), 3), (394, .aload_n 0, 1), (395, .dup, 1), (396, .getfield 13, 3), (399, .iconst 1, 1), (400, .iadd, 1), (401, .putfield 13, 3), (404, .return_, 1)]
theorem dtX11_goMonth : dec_ok mX11_goMonth.2.1 tX11_goMonth = true := by decide +kernel
set_option maxHeartbeats 4000000 in
theorem l7_X11_goMonth {J : Wd} {N P : Nat} (hF : FM J N P) {c : Nat} (hc : c < 64) {I9 : Wd} (kk : Bd SyM mX11_goMonth 2 388 [(1, .int (nI c)), (0, .ref 0)] [] (tkM J c N) none I9) : ∀ (n h : Nat) (x2 : Int32) (I2 : Wd), h ≤ N → N < h + n → x2 = nI h → I2 = (tkM J c h) → Bd SyM mX11_goMonth 2 328 [(2, .int x2), (0, .ref 0), (1, .int (nI c))] [] I2 none I9 := by
  intro n
  induction n with
  | zero => intro h x2 I2 h1 h2; omega
  | succ n ih =>
    intro h x2 I2 h1 h2 e2 eW
    subst e2; subst eW
    obtain ⟨⟨hN, hN2⟩, ⟨hP, hP2⟩, hr, hq⟩ := id hF
    have f3 : tkM J c h 0 3 = J 0 3 := tkM_0 (by decide)
    refine b_iload_n (pc := 328) (i := 2) (dd dtX11_goMonth 198 rfl) rfl rfl ?_
    refine b_aload_n (pc := 329) (i := 0) (dd dtX11_goMonth 199 rfl) rfl rfl ?_
    refine b_geti (pc := 330) (dd dtX11_goMonth 200 rfl) fwX11_23 pM_0 ?_
    refine b_icmpL_ge (pc := 333) (tgt := 388) (dd dtX11_goMonth 201 rfl) (by decide) (fun h333 => ?_) (fun h333 => ?_)
    · refine b_pick [2, 1] (lv' := [(1, _), (0, _)]) rfl ?_
      rw [f3, hN] at h333
      have he : h = N := Nat.le_antisymm h1 (ge_n h333 (by omega))
      subst he
      exact kk
    · rw [f3, hN] at h333
      have hlt : h < N := lt_n h333 (by omega) (by omega)
      refine b_aload_n (pc := 336) (i := 0) (dd dtX11_goMonth 202 rfl) rfl rfl ?_
      refine b_geta (pc := 337) (dd dtX11_goMonth 203 rfl) fwX11_57 pM_0 rM_0_14 ?_
      refine b_iload_n (pc := 340) (i := 2) (dd dtX11_goMonth 204 rfl) rfl rfl ?_
      refine b_iald (pc := 341) (dd dtX11_goMonth 205 rfl) pM_10 (vpn rfl (show h < 14 by omega) (by decide)) ?_
      refine b_iload_n (pc := 342) (i := 1) (dd dtX11_goMonth 206 rfl) rfl rfl ?_
      refine b_icmp_ne (pc := 343) (tgt := 382) (dd dtX11_goMonth 207 rfl) (by decide) (fun h343 => ?_) (fun h343 => ?_)
      · try simp only [nI_clamp (show h < 2 ^ 31 by omega)] at h343
        try simp only [nI_clamp (show h < 2 ^ 31 by omega)] at h352
        refine b_iinc1 (pc := 382) (i := 2) (lv' := [(2, _), (0, _), (1, _)]) (dd dtX11_goMonth 228 rfl) rfl (Nat.le_of_ble_eq_true rfl) rfl ?_
        refine b_goto (pc := 385) (tgt := 328) (dd dtX11_goMonth 229 rfl) (by decide) ?_
        rw [nI_1]
        refine ih (h + 1) _ _ hlt (by omega) rfl ?_
        · try simp only [nI_clamp (show h < 2 ^ 31 by omega)]
          simp [tkM, tkM1, ist_ne, ist_eq, upd_ne, -Int32.not_lt, -Int32.not_le, *]
      · simp only [nI_clamp (show h < 2 ^ 31 by omega)] at h343
        refine b_aload_n (pc := 346) (i := 0) (dd dtX11_goMonth 208 rfl) rfl rfl ?_
        refine b_geta (pc := 347) (dd dtX11_goMonth 209 rfl) fwX11_66 pM_0 rM_0_17 ?_
        refine b_iload_n (pc := 350) (i := 2) (dd dtX11_goMonth 210 rfl) rfl rfl ?_
        refine b_iald (pc := 351) (dd dtX11_goMonth 211 rfl) pM_13 (vpn rfl (show h < 14 by omega) (by decide)) ?_
        refine b_if_lt (pc := 352) (tgt := 358) (dd dtX11_goMonth 212 rfl) (by decide) (fun h352 => ?_) (fun h352 => ?_)
        · simp only [nI_clamp (show h < 2 ^ 31 by omega)] at h352
          refine b_aload_n (pc := 358) (i := 0) (dd dtX11_goMonth 214 rfl) rfl rfl ?_
          refine b_geta (pc := 359) (dd dtX11_goMonth 215 rfl) fwX11_66 pM_0 rM_0_17 ?_
          refine b_iload_n (pc := 362) (i := 2) (dd dtX11_goMonth 216 rfl) rfl rfl ?_
          refine b_aload_n (pc := 363) (i := 0) (dd dtX11_goMonth 217 rfl) rfl rfl ?_
          refine b_geti (pc := 364) (dd dtX11_goMonth 218 rfl) fwX11_13 pM_0 ?_
          refine b_iast (pc := 367) (dd dtX11_goMonth 219 rfl) pM_13 (vpn rfl (show h < 14 by omega) (by decide)) ?_
          refine b_aload_n (pc := 368) (i := 0) (dd dtX11_goMonth 220 rfl) rfl rfl ?_
          refine b_dup (pc := 369) (dd dtX11_goMonth 221 rfl) rfl ?_
          refine b_geti (pc := 370) (dd dtX11_goMonth 222 rfl) fwX11_20 pM_0 ?_
          refine b_aload_n (pc := 373) (i := 0) (dd dtX11_goMonth 223 rfl) rfl rfl ?_
          refine b_iload_n (pc := 374) (i := 2) (dd dtX11_goMonth 224 rfl) rfl rfl ?_
          refine b_invV (pc := 375) (dd dtX11_goMonth 225 rfl) mlX11_263 mvX11_harmOf miX11_harmOf (c_X11_harmOf (vpn rfl (show h < 14 by omega) (by decide))) oM_0 rfl rfl (by decide) (Nat.le_of_ble_eq_true rfl) ?_
          refine b_iadd (pc := 378) (dd dtX11_goMonth 226 rfl) ?_
          refine b_puti (pc := 379) (dd dtX11_goMonth 227 rfl) fwX11_20 pM_0 ?_
          try simp only [nI_clamp (show h < 2 ^ 31 by omega)] at h343
          try simp only [nI_clamp (show h < 2 ^ 31 by omega)] at h352
          refine b_iinc1 (pc := 382) (i := 2) (lv' := [(2, _), (0, _), (1, _)]) (dd dtX11_goMonth 228 rfl) rfl (Nat.le_of_ble_eq_true rfl) rfl ?_
          refine b_goto (pc := 385) (tgt := 328) (dd dtX11_goMonth 229 rfl) (by decide) ?_
          rw [nI_1]
          refine ih (h + 1) _ _ hlt (by omega) rfl ?_
          · try simp only [nI_clamp (show h < 2 ^ 31 by omega)]
            simp [tkM, tkM1, ist_ne, ist_eq, upd_ne, -Int32.not_lt, -Int32.not_le, *]
        · refine b_goto (pc := 355) (tgt := 382) (dd dtX11_goMonth 213 rfl) (by decide) ?_
          try simp only [nI_clamp (show h < 2 ^ 31 by omega)] at h343
          try simp only [nI_clamp (show h < 2 ^ 31 by omega)] at h352
          refine b_iinc1 (pc := 382) (i := 2) (lv' := [(2, _), (0, _), (1, _)]) (dd dtX11_goMonth 228 rfl) rfl (Nat.le_of_ble_eq_true rfl) rfl ?_
          refine b_goto (pc := 385) (tgt := 328) (dd dtX11_goMonth 229 rfl) (by decide) ?_
          rw [nI_1]
          refine ih (h + 1) _ _ hlt (by omega) rfl ?_
          · try simp only [nI_clamp (show h < 2 ^ 31 by omega)]
            simp [tkM, tkM1, ist_ne, ist_eq, upd_ne, -Int32.not_lt, -Int32.not_le, *]
set_option maxHeartbeats 4000000 in
theorem l6_X11_goMonth {J : Wd} {N P : Nat} (hF : FM J N P) : ∀ (n h : Nat) (x1 : Int32) (I2 : Wd), h ≤ 64 → 64 < h + n → x1 = nI h → I2 = (flM J N h) → Bd SyM mX11_goMonth 2 235 [(1, .int x1), (0, .ref 0)] [] I2 none (mT7 (flM J N 64)) := by
  intro n
  induction n with
  | zero => intro h x1 I2 h1 h2; omega
  | succ n ih =>
    intro h x1 I2 h1 h2 e1 eW
    subst e1; subst eW
    obtain ⟨⟨hN, hN2⟩, ⟨hP, hP2⟩, hr, hq⟩ := id hF
    have hG := hF.fl (n := h)
    refine b_iload_n (pc := 235) (i := 1) (dd dtX11_goMonth 139 rfl) rfl rfl ?_
    refine b_bipush (pc := 236) (v := 64) (dd dtX11_goMonth 140 rfl) (by decide) ?_
    refine b_icmpL_ge (pc := 238) (tgt := 394) (dd dtX11_goMonth 141 rfl) (by decide) (fun h238 => ?_) (fun h238 => ?_)
    · rw [show (64 : Int32) = nI 64 from rfl] at h238
      have he : h = 64 := Nat.le_antisymm h1 (ge_n h238 (by omega))
      subst he
      refine b_aload_n (pc := 394) (i := 0) (dd dtX11_goMonth 232 rfl) rfl rfl ?_
      refine b_dup (pc := 395) (dd dtX11_goMonth 233 rfl) rfl ?_
      refine b_geti (pc := 396) (dd dtX11_goMonth 234 rfl) fwX11_13 pM_0 ?_
      refine b_ic1 (pc := 399) (dd dtX11_goMonth 235 rfl) ?_
      refine b_iadd (pc := 400) (dd dtX11_goMonth 236 rfl) ?_
      refine b_puti (pc := 401) (dd dtX11_goMonth 237 rfl) fwX11_13 pM_0 ?_
      exact b_eq (b_vret (dd dtX11_goMonth 238 rfl) rfl) rfl rfl
    · rw [show (64 : Int32) = nI 64 from rfl] at h238
      have hlt : h < 64 := lt_n h238 (by omega) (by omega)
      have hrh : vp_in (flM J N h 1 (nI h).toNatClampNeg) 4 := by rw [nI_clamp (show h < 2 ^ 31 by omega)]; exact hG.2.2.1 h hlt
      refine b_aload_n (pc := 241) (i := 0) (dd dtX11_goMonth 142 rfl) rfl rfl ?_
      refine b_geta (pc := 242) (dd dtX11_goMonth 143 rfl) fwX11_39 pM_0 rM_0_8 ?_
      refine b_iload_n (pc := 245) (i := 1) (dd dtX11_goMonth 144 rfl) rfl rfl ?_
      refine b_iald (pc := 246) (dd dtX11_goMonth 145 rfl) pM_4 (vpn rfl (show h < 64 by omega) (by decide)) ?_
      refine b_if_lt (pc := 247) (tgt := 253) (dd dtX11_goMonth 146 rfl) (by decide) (fun h247 => ?_) (fun h247 => ?_)
      · simp only [nI_clamp (show h < 2 ^ 31 by omega)] at h247
        refine b_aload_n (pc := 253) (i := 0) (dd dtX11_goMonth 148 rfl) rfl rfl ?_
        refine b_geta (pc := 254) (dd dtX11_goMonth 149 rfl) fwX11_51 pM_0 rM_0_12 ?_
        refine b_aload_n (pc := 257) (i := 0) (dd dtX11_goMonth 150 rfl) rfl rfl ?_
        refine b_geta (pc := 258) (dd dtX11_goMonth 151 rfl) fwX11_29 pM_0 rM_0_5 ?_
        refine b_iload_n (pc := 261) (i := 1) (dd dtX11_goMonth 152 rfl) rfl rfl ?_
        refine b_iald (pc := 262) (dd dtX11_goMonth 153 rfl) pM_1 (vpn rfl (show h < 64 by omega) (by decide)) ?_
        refine b_dup2 (pc := 263) (dd dtX11_goMonth 154 rfl) ⟨rfl, rfl⟩ ?_
        refine b_iald (pc := 264) (dd dtX11_goMonth 155 rfl) pM_8 (hrh) ?_
        refine b_ic1 (pc := 265) (dd dtX11_goMonth 156 rfl) ?_
        refine b_iadd (pc := 266) (dd dtX11_goMonth 157 rfl) ?_
        refine b_iast (pc := 267) (dd dtX11_goMonth 158 rfl) pM_8 (hrh) ?_
        refine b_aload_n (pc := 268) (i := 0) (dd dtX11_goMonth 159 rfl) rfl rfl ?_
        refine b_geta (pc := 269) (dd dtX11_goMonth 160 rfl) fwX11_33 pM_0 rM_0_6 ?_
        refine b_iload_n (pc := 272) (i := 1) (dd dtX11_goMonth 161 rfl) rfl rfl ?_
        refine b_iald (pc := 273) (dd dtX11_goMonth 162 rfl) pM_2 (vpn rfl (show h < 64 by omega) (by decide)) ?_
        refine b_aload_n (pc := 274) (i := 0) (dd dtX11_goMonth 163 rfl) rfl rfl ?_
        refine b_geta (pc := 275) (dd dtX11_goMonth 164 rfl) fwX11_48 pM_0 rM_0_11 ?_
        refine b_aload_n (pc := 278) (i := 0) (dd dtX11_goMonth 165 rfl) rfl rfl ?_
        refine b_geta (pc := 279) (dd dtX11_goMonth 166 rfl) fwX11_29 pM_0 rM_0_5 ?_
        refine b_iload_n (pc := 282) (i := 1) (dd dtX11_goMonth 167 rfl) rfl rfl ?_
        refine b_iald (pc := 283) (dd dtX11_goMonth 168 rfl) pM_1 (vpn rfl (show h < 64 by omega) (by decide)) ?_
        refine b_iald (pc := 284) (dd dtX11_goMonth 169 rfl) pM_7 (by rw [ist_ne (by decide)]; exact hrh) ?_
        refine b_aload_n (pc := 285) (i := 0) (dd dtX11_goMonth 170 rfl) rfl rfl ?_
        refine b_geta (pc := 286) (dd dtX11_goMonth 171 rfl) fwX11_36 pM_0 rM_0_7 ?_
        refine b_iload_n (pc := 289) (i := 1) (dd dtX11_goMonth 172 rfl) rfl rfl ?_
        refine b_iald (pc := 290) (dd dtX11_goMonth 173 rfl) pM_3 (vpn rfl (show h < 64 by omega) (by decide)) ?_
        refine b_bipush (pc := 291) (v := 20) (dd dtX11_goMonth 174 rfl) (by decide) ?_
        refine b_idiv (pc := 293) (dd dtX11_goMonth 175 rfl) (by decide) ?_
        refine b_iadd (pc := 294) (dd dtX11_goMonth 176 rfl) ?_
        refine b_icmp_gt (pc := 295) (tgt := 301) (dd dtX11_goMonth 177 rfl) (by decide) (fun h295 => ?_) (fun h295 => ?_)
        · simp (disch := decide) only [ist_ne, ist_eq, nI_clamp (show h < 2 ^ 31 by omega)] at h295 ⊢
          refine b_aload_n (pc := 301) (i := 0) (dd dtX11_goMonth 179 rfl) rfl rfl ?_
          refine b_geta (pc := 302) (dd dtX11_goMonth 180 rfl) fwX11_39 pM_0 rM_0_8 ?_
          refine b_iload_n (pc := 305) (i := 1) (dd dtX11_goMonth 181 rfl) rfl rfl ?_
          refine b_aload_n (pc := 306) (i := 0) (dd dtX11_goMonth 182 rfl) rfl rfl ?_
          refine b_geti (pc := 307) (dd dtX11_goMonth 183 rfl) fwX11_13 pM_0 ?_
          refine b_iast (pc := 310) (dd dtX11_goMonth 184 rfl) pM_4 (vpn rfl (show h < 64 by omega) (by decide)) ?_
          refine b_aload_n (pc := 311) (i := 0) (dd dtX11_goMonth 185 rfl) rfl rfl ?_
          refine b_geta (pc := 312) (dd dtX11_goMonth 186 rfl) fwX11_54 pM_0 rM_0_13 ?_
          refine b_aload_n (pc := 315) (i := 0) (dd dtX11_goMonth 187 rfl) rfl rfl ?_
          refine b_geta (pc := 316) (dd dtX11_goMonth 188 rfl) fwX11_29 pM_0 rM_0_5 ?_
          refine b_iload_n (pc := 319) (i := 1) (dd dtX11_goMonth 189 rfl) rfl rfl ?_
          refine b_iald (pc := 320) (dd dtX11_goMonth 190 rfl) pM_1 (vpn rfl (show h < 64 by omega) (by decide)) ?_
          refine b_dup2 (pc := 321) (dd dtX11_goMonth 191 rfl) ⟨rfl, rfl⟩ ?_
          refine b_iald (pc := 322) (dd dtX11_goMonth 192 rfl) pM_9 (by simp (disch := decide) only [ist_ne]; exact hrh) ?_
          refine b_ic1 (pc := 323) (dd dtX11_goMonth 193 rfl) ?_
          refine b_iadd (pc := 324) (dd dtX11_goMonth 194 rfl) ?_
          refine b_iast (pc := 325) (dd dtX11_goMonth 195 rfl) pM_9 (by simp (disch := decide) only [ist_ne]; exact hrh) ?_
          refine b_ic0 (pc := 326) (dd dtX11_goMonth 196 rfl) ?_
          refine b_istore_n (pc := 327) (i := 2) (lv' := [(2, _), (1, _), (0, _)]) (dd dtX11_goMonth 197 rfl) rfl (Nat.le_of_ble_eq_true rfl) rfl ?_
          refine b_pick [0, 2, 1] (lv' := [(2, _), (0, _), (1, _)]) rfl ?_
          try simp (disch := decide) only [ist_ne, ist_eq, nI_clamp (show h < 2 ^ 31 by omega)]
          refine l7_X11_goMonth (FM.of hG ?_ ?_ ?_ ?_) hlt ?_ (N + 1) 0 _ _ (Nat.zero_le _) (by omega) rfl tkM_z
          · simp (disch := decide) only [ist_ne]
          · simp (disch := decide) only [ist_ne]
          · simp (disch := decide) only [ist_ne]
          · simp (disch := decide) only [ist_ne]
          refine b_iinc1 (pc := 388) (i := 1) (lv' := [(1, _), (0, _)]) (dd dtX11_goMonth 230 rfl) rfl (Nat.le_of_ble_eq_true rfl) rfl ?_
          refine b_goto (pc := 391) (tgt := 235) (dd dtX11_goMonth 231 rfl) (by decide) ?_
          rw [nI_1]
          refine ih (h + 1) _ _ hlt (by omega) rfl ?_
          show _ = flM1 (flM J N h) N h
          unfold flM1
          rw [if_pos h247, if_pos h295]
        · refine b_goto (pc := 298) (tgt := 388) (dd dtX11_goMonth 178 rfl) (by decide) ?_
          refine b_iinc1 (pc := 388) (i := 1) (lv' := [(1, _), (0, _)]) (dd dtX11_goMonth 230 rfl) rfl (Nat.le_of_ble_eq_true rfl) rfl ?_
          refine b_goto (pc := 391) (tgt := 235) (dd dtX11_goMonth 231 rfl) (by decide) ?_
          rw [nI_1]
          refine ih (h + 1) _ _ hlt (by omega) rfl ?_
          · try simp only [nI_clamp (show h < 2 ^ 31 by omega)] at h247
            try simp (disch := decide) only [ist_ne, nI_clamp (show h < 2 ^ 31 by omega)] at h295
            try simp only [nI_clamp (show h < 2 ^ 31 by omega)]
            show _ = flM1 (flM J N h) N h
            unfold flM1
            first
              | rw [if_neg h247]
              | (rw [if_pos h247, if_neg h295])
              | (rw [if_pos h247, if_pos h295])
      · refine b_goto (pc := 250) (tgt := 388) (dd dtX11_goMonth 147 rfl) (by decide) ?_
        refine b_iinc1 (pc := 388) (i := 1) (lv' := [(1, _), (0, _)]) (dd dtX11_goMonth 230 rfl) rfl (Nat.le_of_ble_eq_true rfl) rfl ?_
        refine b_goto (pc := 391) (tgt := 235) (dd dtX11_goMonth 231 rfl) (by decide) ?_
        rw [nI_1]
        refine ih (h + 1) _ _ hlt (by omega) rfl ?_
        · try simp only [nI_clamp (show h < 2 ^ 31 by omega)] at h247
          try simp (disch := decide) only [ist_ne, nI_clamp (show h < 2 ^ 31 by omega)] at h295
          try simp only [nI_clamp (show h < 2 ^ 31 by omega)]
          show _ = flM1 (flM J N h) N h
          unfold flM1
          first
            | rw [if_neg h247]
            | (rw [if_pos h247, if_neg h295])
            | (rw [if_pos h247, if_pos h295])
set_option maxHeartbeats 4000000 in
theorem l5_X11_goMonth {J : Wd} {N P : Nat} (hF : FM J N P) : ∀ (n h : Nat) (x1 : Int32) (I2 : Wd), h ≤ 64 → 64 < h + n → x1 = nI h → I2 = (rset J 3 (fil (fun c => J 3 c + J 5 c) (J 3) h)) → Bd SyM mX11_goMonth 2 206 [(1, .int x1), (0, .ref 0)] [] I2 none (mT5 N J) := by
  intro n
  induction n with
  | zero => intro h x1 I2 h1 h2; omega
  | succ n ih =>
    intro h x1 I2 h1 h2 e1 eW
    subst e1; subst eW
    refine b_iload_n (pc := 206) (i := 1) (dd dtX11_goMonth 121 rfl) rfl rfl ?_
    refine b_bipush (pc := 207) (v := 64) (dd dtX11_goMonth 122 rfl) (by decide) ?_
    refine b_icmpL_ge (pc := 209) (tgt := 233) (dd dtX11_goMonth 123 rfl) (by decide) (fun h209 => ?_) (fun h209 => ?_)
    · rw [show (64 : Int32) = nI 64 from rfl] at h209
      have he : h = 64 := Nat.le_antisymm h1 (ge_n h209 (by omega))
      subst he
      refine b_ic0 (pc := 233) (dd dtX11_goMonth 137 rfl) ?_
      refine b_istore_n (pc := 234) (i := 1) (lv' := [(1, _), (0, _)]) (dd dtX11_goMonth 138 rfl) rfl (Nat.le_of_ble_eq_true rfl) rfl ?_
      exact l6_X11_goMonth (J := addM J) hF.add 65 0 _ _ (Nat.zero_le _) (by omega) rfl rfl
    · rw [show (64 : Int32) = nI 64 from rfl] at h209
      have hlt : h < 64 := lt_n h209 (by omega) (by omega)
      refine b_aload_n (pc := 212) (i := 0) (dd dtX11_goMonth 124 rfl) rfl rfl ?_
      refine b_geta (pc := 213) (dd dtX11_goMonth 125 rfl) fwX11_36 pM_0 rM_0_7 ?_
      refine b_iload_n (pc := 216) (i := 1) (dd dtX11_goMonth 126 rfl) rfl rfl ?_
      refine b_dup2 (pc := 217) (dd dtX11_goMonth 127 rfl) ⟨rfl, rfl⟩ ?_
      refine b_iald (pc := 218) (dd dtX11_goMonth 128 rfl) pM_3 (vpn rfl (show h < 64 by omega) (by decide)) ?_
      refine b_aload_n (pc := 219) (i := 0) (dd dtX11_goMonth 129 rfl) rfl rfl ?_
      refine b_geta (pc := 220) (dd dtX11_goMonth 130 rfl) fwX11_42 pM_0 rM_0_9 ?_
      refine b_iload_n (pc := 223) (i := 1) (dd dtX11_goMonth 131 rfl) rfl rfl ?_
      refine b_iald (pc := 224) (dd dtX11_goMonth 132 rfl) pM_5 (vpn rfl (show h < 64 by omega) (by decide)) ?_
      refine b_iadd (pc := 225) (dd dtX11_goMonth 133 rfl) ?_
      refine b_iast (pc := 226) (dd dtX11_goMonth 134 rfl) pM_3 (vpn rfl (show h < 64 by omega) (by decide)) ?_
      refine b_iinc1 (pc := 227) (i := 1) (lv' := [(1, _), (0, _)]) (dd dtX11_goMonth 135 rfl) rfl (Nat.le_of_ble_eq_true rfl) rfl ?_
      refine b_goto (pc := 230) (tgt := 206) (dd dtX11_goMonth 136 rfl) (by decide) ?_
      rw [nI_1]
      refine ih (h + 1) _ _ hlt (by omega) rfl ?_
      · rw [nI_clamp (show h < 2 ^ 31 by omega), ist_rset]
        congr 1
        refine fil_s ?_
        simp only [rset_eq, rset_ne (show 5 ≠ 3 by decide), fil_out (Nat.le_refl h)]
set_option maxHeartbeats 4000000 in
theorem l4_X11_goMonth {J : Wd} {N P : Nat} (hF : FM J N P) : ∀ (n h : Nat) (x1 : Int32) (I2 : Wd), h ≤ 64 → 64 < h + n → x1 = nI h → I2 = (betW J h) → Bd SyM mX11_goMonth 2 160 [(1, .int x1), (0, .ref 0)] [] I2 none (mT4 N J) := by
  intro n
  induction n with
  | zero => intro h x1 I2 h1 h2; omega
  | succ n ih =>
    intro h x1 I2 h1 h2 e1 eW
    subst e1; subst eW
    obtain ⟨⟨hN, hN2⟩, ⟨hP, hP2⟩, hr, hq⟩ := id hF
    have hG := hF.bet (n := h)
    refine b_iload_n (pc := 160) (i := 1) (dd dtX11_goMonth 94 rfl) rfl rfl ?_
    refine b_bipush (pc := 161) (v := 64) (dd dtX11_goMonth 95 rfl) (by decide) ?_
    refine b_icmpL_ge (pc := 163) (tgt := 204) (dd dtX11_goMonth 96 rfl) (by decide) (fun h163 => ?_) (fun h163 => ?_)
    · rw [show (64 : Int32) = nI 64 from rfl] at h163
      have he : h = 64 := Nat.le_antisymm h1 (ge_n h163 (by omega))
      subst he
      refine b_ic0 (pc := 204) (dd dtX11_goMonth 119 rfl) ?_
      refine b_istore_n (pc := 205) (i := 1) (lv' := [(1, _), (0, _)]) (dd dtX11_goMonth 120 rfl) rfl (Nat.le_of_ble_eq_true rfl) rfl ?_
      exact l5_X11_goMonth (J := betW J 64) hF.bet 65 0 _ _ (Nat.zero_le _) (by omega) rfl (by rw [fil_0, rset_id])
    · rw [show (64 : Int32) = nI 64 from rfl] at h163
      have hlt : h < 64 := lt_n h163 (by omega) (by omega)
      refine b_iload_n (pc := 166) (i := 1) (dd dtX11_goMonth 97 rfl) rfl rfl ?_
      refine b_bipush (pc := 167) (v := 56) (dd dtX11_goMonth 98 rfl) (by decide) ?_
      refine b_icmpL_ge (pc := 169) (tgt := 181) (dd dtX11_goMonth 99 rfl) (by decide) (fun h169 => ?_) (fun h169 => ?_)
      · try rw [show (56 : Int32) = nI 56 from rfl, nI_ltI (by omega) (by decide)] at h169
        refine b_iload_n (pc := 181) (i := 1) (dd dtX11_goMonth 106 rfl) rfl rfl ?_
        refine b_bipush (pc := 182) (v := 8) (dd dtX11_goMonth 107 rfl) (by decide) ?_
        refine b_irem (pc := 184) (dd dtX11_goMonth 108 rfl) (by decide) ?_
        refine b_bipush (pc := 185) (v := 7) (dd dtX11_goMonth 109 rfl) (by decide) ?_
        refine b_icmpL_ge (pc := 187) (tgt := 198) (dd dtX11_goMonth 110 rfl) (by decide) (fun h187 => ?_) (fun h187 => ?_)
        · try rw [rem8 (by omega), lt7 (by omega)] at h187
          refine b_iinc1 (pc := 198) (i := 1) (lv' := [(1, _), (0, _)]) (dd dtX11_goMonth 117 rfl) rfl (Nat.le_of_ble_eq_true rfl) rfl ?_
          refine b_goto (pc := 201) (tgt := 160) (dd dtX11_goMonth 118 rfl) (by decide) ?_
          rw [nI_1]
          refine ih (h + 1) _ _ hlt (by omega) rfl ?_
          · try simp only [add8, add1, nI_clamp (show h < 2 ^ 31 by omega), nI_clamp (show h + 8 < 2 ^ 31 by omega), nI_clamp (show h + 1 < 2 ^ 31 by omega)]
            have q56 : h + 8 < 64 ↔ h < 56 := by omega
            simp [betW, bet1, bet2, *]
        · rw [rem8 (by omega), lt7 (by omega)] at h187
          refine b_aload_n (pc := 190) (i := 0) (dd dtX11_goMonth 111 rfl) rfl rfl ?_
          refine b_iload_n (pc := 191) (i := 1) (dd dtX11_goMonth 112 rfl) rfl rfl ?_
          refine b_iload_n (pc := 192) (i := 1) (dd dtX11_goMonth 113 rfl) rfl rfl ?_
          refine b_ic1 (pc := 193) (dd dtX11_goMonth 114 rfl) ?_
          refine b_iadd (pc := 194) (dd dtX11_goMonth 115 rfl) ?_
          refine b_invV (pc := 195) (dd dtX11_goMonth 116 rfl) mlX11_260 mvX11_between miX11_between (c_X11_between (vpn rfl (show h < 64 by omega) (by decide)) (by rw [add1]; exact vpn rfl (show h + 1 < 64 by omega) (by decide)) (by first | exact hG.2.2.1 | (rw [betM_fr (by decide) (by decide)]; exact hG.2.2.1))) oM_0 rfl rfl (by decide) (Nat.le_of_ble_eq_true rfl) ?_
          try rw [rem8 (by omega), lt7 (by omega)] at h187
          refine b_iinc1 (pc := 198) (i := 1) (lv' := [(1, _), (0, _)]) (dd dtX11_goMonth 117 rfl) rfl (Nat.le_of_ble_eq_true rfl) rfl ?_
          refine b_goto (pc := 201) (tgt := 160) (dd dtX11_goMonth 118 rfl) (by decide) ?_
          rw [nI_1]
          refine ih (h + 1) _ _ hlt (by omega) rfl ?_
          · try simp only [add8, add1, nI_clamp (show h < 2 ^ 31 by omega), nI_clamp (show h + 8 < 2 ^ 31 by omega), nI_clamp (show h + 1 < 2 ^ 31 by omega)]
            have q56 : h + 8 < 64 ↔ h < 56 := by omega
            simp [betW, bet1, bet2, *]
      · rw [show (56 : Int32) = nI 56 from rfl, nI_ltI (by omega) (by decide)] at h169
        refine b_aload_n (pc := 172) (i := 0) (dd dtX11_goMonth 100 rfl) rfl rfl ?_
        refine b_iload_n (pc := 173) (i := 1) (dd dtX11_goMonth 101 rfl) rfl rfl ?_
        refine b_iload_n (pc := 174) (i := 1) (dd dtX11_goMonth 102 rfl) rfl rfl ?_
        refine b_bipush (pc := 175) (v := 8) (dd dtX11_goMonth 103 rfl) (by decide) ?_
        refine b_iadd (pc := 177) (dd dtX11_goMonth 104 rfl) ?_
        refine b_invV (pc := 178) (dd dtX11_goMonth 105 rfl) mlX11_260 mvX11_between miX11_between (c_X11_between (vpn rfl (show h < 64 by omega) (by decide)) (by rw [add8]; exact vpn rfl (show h + 8 < 64 by omega) (by decide)) hG.2.2.1) oM_0 rfl rfl (by decide) (Nat.le_of_ble_eq_true rfl) ?_
        try rw [show (56 : Int32) = nI 56 from rfl, nI_ltI (by omega) (by decide)] at h169
        refine b_iload_n (pc := 181) (i := 1) (dd dtX11_goMonth 106 rfl) rfl rfl ?_
        refine b_bipush (pc := 182) (v := 8) (dd dtX11_goMonth 107 rfl) (by decide) ?_
        refine b_irem (pc := 184) (dd dtX11_goMonth 108 rfl) (by decide) ?_
        refine b_bipush (pc := 185) (v := 7) (dd dtX11_goMonth 109 rfl) (by decide) ?_
        refine b_icmpL_ge (pc := 187) (tgt := 198) (dd dtX11_goMonth 110 rfl) (by decide) (fun h187 => ?_) (fun h187 => ?_)
        · try rw [rem8 (by omega), lt7 (by omega)] at h187
          refine b_iinc1 (pc := 198) (i := 1) (lv' := [(1, _), (0, _)]) (dd dtX11_goMonth 117 rfl) rfl (Nat.le_of_ble_eq_true rfl) rfl ?_
          refine b_goto (pc := 201) (tgt := 160) (dd dtX11_goMonth 118 rfl) (by decide) ?_
          rw [nI_1]
          refine ih (h + 1) _ _ hlt (by omega) rfl ?_
          · try simp only [add8, add1, nI_clamp (show h < 2 ^ 31 by omega), nI_clamp (show h + 8 < 2 ^ 31 by omega), nI_clamp (show h + 1 < 2 ^ 31 by omega)]
            have q56 : h + 8 < 64 ↔ h < 56 := by omega
            simp [betW, bet1, bet2, *]
        · rw [rem8 (by omega), lt7 (by omega)] at h187
          refine b_aload_n (pc := 190) (i := 0) (dd dtX11_goMonth 111 rfl) rfl rfl ?_
          refine b_iload_n (pc := 191) (i := 1) (dd dtX11_goMonth 112 rfl) rfl rfl ?_
          refine b_iload_n (pc := 192) (i := 1) (dd dtX11_goMonth 113 rfl) rfl rfl ?_
          refine b_ic1 (pc := 193) (dd dtX11_goMonth 114 rfl) ?_
          refine b_iadd (pc := 194) (dd dtX11_goMonth 115 rfl) ?_
          refine b_invV (pc := 195) (dd dtX11_goMonth 116 rfl) mlX11_260 mvX11_between miX11_between (c_X11_between (vpn rfl (show h < 64 by omega) (by decide)) (by rw [add1]; exact vpn rfl (show h + 1 < 64 by omega) (by decide)) (by first | exact hG.2.2.1 | (rw [betM_fr (by decide) (by decide)]; exact hG.2.2.1))) oM_0 rfl rfl (by decide) (Nat.le_of_ble_eq_true rfl) ?_
          try rw [rem8 (by omega), lt7 (by omega)] at h187
          refine b_iinc1 (pc := 198) (i := 1) (lv' := [(1, _), (0, _)]) (dd dtX11_goMonth 117 rfl) rfl (Nat.le_of_ble_eq_true rfl) rfl ?_
          refine b_goto (pc := 201) (tgt := 160) (dd dtX11_goMonth 118 rfl) (by decide) ?_
          rw [nI_1]
          refine ih (h + 1) _ _ hlt (by omega) rfl ?_
          · try simp only [add8, add1, nI_clamp (show h < 2 ^ 31 by omega), nI_clamp (show h + 8 < 2 ^ 31 by omega), nI_clamp (show h + 1 < 2 ^ 31 by omega)]
            have q56 : h + 8 < 64 ↔ h < 56 := by omega
            simp [betW, bet1, bet2, *]
set_option maxHeartbeats 4000000 in
theorem l3_X11_goMonth {J : Wd} {N P : Nat} (hF : FM J N P) : ∀ (n h : Nat) (x1 : Int32) (I2 : Wd), h ≤ 64 → 64 < h + n → x1 = nI h → I2 = (rset J 5 (fil (fun _ => 0) (J 5) h)) → Bd SyM mX11_goMonth 2 139 [(1, .int x1), (0, .ref 0)] [] I2 none (mT3 N J) := by
  intro n
  induction n with
  | zero => intro h x1 I2 h1 h2; omega
  | succ n ih =>
    intro h x1 I2 h1 h2 e1 eW
    subst e1; subst eW
    refine b_iload_n (pc := 139) (i := 1) (dd dtX11_goMonth 82 rfl) rfl rfl ?_
    refine b_bipush (pc := 140) (v := 64) (dd dtX11_goMonth 83 rfl) (by decide) ?_
    refine b_icmpL_ge (pc := 142) (tgt := 158) (dd dtX11_goMonth 84 rfl) (by decide) (fun h142 => ?_) (fun h142 => ?_)
    · rw [show (64 : Int32) = nI 64 from rfl] at h142
      have he : h = 64 := Nat.le_antisymm h1 (ge_n h142 (by omega))
      subst he
      refine b_ic0 (pc := 158) (dd dtX11_goMonth 92 rfl) ?_
      refine b_istore_n (pc := 159) (i := 1) (lv' := [(1, _), (0, _)]) (dd dtX11_goMonth 93 rfl) rfl (Nat.le_of_ble_eq_true rfl) rfl ?_
      exact l4_X11_goMonth (J := zeroM J) hF.zero 65 0 _ _ (Nat.zero_le _) (by omega) rfl rfl
    · rw [show (64 : Int32) = nI 64 from rfl] at h142
      have hlt : h < 64 := lt_n h142 (by omega) (by omega)
      refine b_aload_n (pc := 145) (i := 0) (dd dtX11_goMonth 85 rfl) rfl rfl ?_
      refine b_geta (pc := 146) (dd dtX11_goMonth 86 rfl) fwX11_42 pM_0 rM_0_9 ?_
      refine b_iload_n (pc := 149) (i := 1) (dd dtX11_goMonth 87 rfl) rfl rfl ?_
      refine b_ic0 (pc := 150) (dd dtX11_goMonth 88 rfl) ?_
      refine b_iast (pc := 151) (dd dtX11_goMonth 89 rfl) pM_5 (vpn rfl (show h < 64 by omega) (by decide)) ?_
      refine b_iinc1 (pc := 152) (i := 1) (lv' := [(1, _), (0, _)]) (dd dtX11_goMonth 90 rfl) rfl (Nat.le_of_ble_eq_true rfl) rfl ?_
      refine b_goto (pc := 155) (tgt := 139) (dd dtX11_goMonth 91 rfl) (by decide) ?_
      rw [nI_1]
      refine ih (h + 1) _ _ hlt (by omega) rfl ?_
      · rw [nI_clamp (show h < 2 ^ 31 by omega), ist_rset, fil_s rfl]
set_option maxHeartbeats 4000000 in
theorem l2_X11_goMonth {J : Wd} {N P : Nat} (hF : FM J N P) : ∀ (n h : Nat) (x1 : Int32) (I2 : Wd), h ≤ P → P < h + n → x1 = nI h → I2 = (pmpM J h) → Bd SyM mX11_goMonth 2 56 [(1, .int x1), (0, .ref 0)] [] I2 none (mT2 N P J) := by
  intro n
  induction n with
  | zero => intro h x1 I2 h1 h2; omega
  | succ n ih =>
    intro h x1 I2 h1 h2 e1 eW
    subst e1; subst eW
    obtain ⟨⟨hN, hN2⟩, ⟨hP, hP2⟩, hr, hq⟩ := id hF
    have hG := hF.pmp (n := h)
    refine b_iload_n (pc := 56) (i := 1) (dd dtX11_goMonth 31 rfl) rfl rfl ?_
    refine b_aload_n (pc := 57) (i := 0) (dd dtX11_goMonth 32 rfl) rfl rfl ?_
    refine b_geti (pc := 58) (dd dtX11_goMonth 33 rfl) fwX11_26 pM_0 ?_
    refine b_icmpL_ge (pc := 61) (tgt := 137) (dd dtX11_goMonth 34 rfl) (by decide) (fun h61 => ?_) (fun h61 => ?_)
    · rw [hG.2.1.1] at h61
      have he : h = P := Nat.le_antisymm h1 (ge_n h61 (by omega))
      subst he
      refine b_ic0 (pc := 137) (dd dtX11_goMonth 80 rfl) ?_
      refine b_istore_n (pc := 138) (i := 1) (lv' := [(1, _), (0, _)]) (dd dtX11_goMonth 81 rfl) rfl (Nat.le_of_ble_eq_true rfl) rfl ?_
      exact l3_X11_goMonth (J := pmpM J h) hF.pmp 65 0 _ _ (Nat.zero_le _) (by omega) rfl (by rw [fil_0, rset_id])
    · rw [hG.2.1.1] at h61
      have hlt : h < P := lt_n h61 (by omega) (by omega)
      have hq1 : vp_in (pmpM J h 14 (nI h).toNatClampNeg) 64 := by rw [nI_clamp (show h < 2 ^ 31 by omega)]; exact hG.2.2.2 h hlt
      refine b_aload_n (pc := 64) (i := 0) (dd dtX11_goMonth 35 rfl) rfl rfl ?_
      refine b_geta (pc := 65) (dd dtX11_goMonth 36 rfl) fwX11_72 pM_0 rM_0_19 ?_
      refine b_iload_n (pc := 68) (i := 1) (dd dtX11_goMonth 37 rfl) rfl rfl ?_
      refine b_iald (pc := 69) (dd dtX11_goMonth 38 rfl) pM_15 (vpn rfl (show h < 6 by omega) (by decide)) ?_
      refine b_aload_n (pc := 70) (i := 0) (dd dtX11_goMonth 39 rfl) rfl rfl ?_
      refine b_geta (pc := 71) (dd dtX11_goMonth 40 rfl) fwX11_36 pM_0 rM_0_7 ?_
      refine b_aload_n (pc := 74) (i := 0) (dd dtX11_goMonth 41 rfl) rfl rfl ?_
      refine b_geta (pc := 75) (dd dtX11_goMonth 42 rfl) fwX11_69 pM_0 rM_0_18 ?_
      refine b_iload_n (pc := 78) (i := 1) (dd dtX11_goMonth 43 rfl) rfl rfl ?_
      refine b_iald (pc := 79) (dd dtX11_goMonth 44 rfl) pM_14 (vpn rfl (show h < 6 by omega) (by decide)) ?_
      refine b_iald (pc := 80) (dd dtX11_goMonth 45 rfl) pM_3 (hq1) ?_
      refine b_icmpL_ge (pc := 81) (tgt := 93) (dd dtX11_goMonth 46 rfl) (by decide) (fun h81 => ?_) (fun h81 => ?_)
      · refine b_aload_n (pc := 93) (i := 0) (dd dtX11_goMonth 52 rfl) rfl rfl ?_
        refine b_geta (pc := 94) (dd dtX11_goMonth 53 rfl) fwX11_36 pM_0 rM_0_7 ?_
        refine b_aload_n (pc := 97) (i := 0) (dd dtX11_goMonth 54 rfl) rfl rfl ?_
        refine b_geta (pc := 98) (dd dtX11_goMonth 55 rfl) fwX11_69 pM_0 rM_0_18 ?_
        refine b_iload_n (pc := 101) (i := 1) (dd dtX11_goMonth 56 rfl) rfl rfl ?_
        refine b_iald (pc := 102) (dd dtX11_goMonth 57 rfl) pM_14 (vpn rfl (show h < 6 by omega) (by decide)) ?_
        refine b_iald (pc := 103) (dd dtX11_goMonth 58 rfl) pM_3 (hq1) ?_
        refine b_istore_n (pc := 104) (i := 2) (lv' := [(2, _), (1, _), (0, _)]) (dd dtX11_goMonth 59 rfl) rfl (Nat.le_of_ble_eq_true rfl) rfl ?_
        refine b_aload_n (pc := 105) (i := 0) (dd dtX11_goMonth 60 rfl) rfl rfl ?_
        refine b_geta (pc := 106) (dd dtX11_goMonth 61 rfl) fwX11_36 pM_0 rM_0_7 ?_
        refine b_aload_n (pc := 109) (i := 0) (dd dtX11_goMonth 62 rfl) rfl rfl ?_
        refine b_geta (pc := 110) (dd dtX11_goMonth 63 rfl) fwX11_69 pM_0 rM_0_18 ?_
        refine b_iload_n (pc := 113) (i := 1) (dd dtX11_goMonth 64 rfl) rfl rfl ?_
        refine b_iald (pc := 114) (dd dtX11_goMonth 65 rfl) pM_14 (vpn rfl (show h < 6 by omega) (by decide)) ?_
        refine b_dup2 (pc := 115) (dd dtX11_goMonth 66 rfl) ⟨rfl, rfl⟩ ?_
        refine b_iald (pc := 116) (dd dtX11_goMonth 67 rfl) pM_3 (hq1) ?_
        refine b_iload_n (pc := 117) (i := 2) (dd dtX11_goMonth 68 rfl) rfl rfl ?_
        refine b_isub (pc := 118) (dd dtX11_goMonth 69 rfl) ?_
        refine b_iast (pc := 119) (dd dtX11_goMonth 70 rfl) pM_3 (hq1) ?_
        refine b_aload_n (pc := 120) (i := 0) (dd dtX11_goMonth 71 rfl) rfl rfl ?_
        refine b_aload_n (pc := 121) (i := 0) (dd dtX11_goMonth 72 rfl) rfl rfl ?_
        refine b_geta (pc := 122) (dd dtX11_goMonth 73 rfl) fwX11_69 pM_0 rM_0_18 ?_
        refine b_iload_n (pc := 125) (i := 1) (dd dtX11_goMonth 74 rfl) rfl rfl ?_
        refine b_iald (pc := 126) (dd dtX11_goMonth 75 rfl) pM_14 (vpn rfl (show h < 6 by omega) (by decide)) ?_
        refine b_iload_n (pc := 127) (i := 2) (dd dtX11_goMonth 76 rfl) rfl rfl ?_
        refine b_invV (pc := 128) (dd dtX11_goMonth 77 rfl) mlX11_256 mvX11_wentBy miX11_wentBy (c_X11_wentBy hq1 (by rw [ist_ne (by decide)]; exact hG.2.2.1 _ (vp_lt hq1))) oM_0 rfl rfl (by decide) (Nat.le_of_ble_eq_true rfl) ?_
        refine b_iinc1 (pc := 131) (i := 1) (lv' := [(1, _), (2, _), (0, _)]) (dd dtX11_goMonth 78 rfl) rfl (Nat.le_of_ble_eq_true rfl) rfl ?_
        refine b_goto (pc := 134) (tgt := 56) (dd dtX11_goMonth 79 rfl) (by decide) ?_
        refine b_pick [0, 2] (lv' := [(1, _), (0, _)]) rfl ?_
        rw [nI_1]
        refine ih (h + 1) _ _ hlt (by omega) rfl ?_
        · try simp only [nI_clamp (show h < 2 ^ 31 by omega)] at h81
          simp only [nI_clamp (show h < 2 ^ 31 by omega)]
          show _ = pmpM1 (pmpM J h) h
          unfold pmpM1 lsM
          first
            | rw [if_pos h81]
            | rw [if_neg h81]
      · refine b_aload_n (pc := 84) (i := 0) (dd dtX11_goMonth 47 rfl) rfl rfl ?_
        refine b_geta (pc := 85) (dd dtX11_goMonth 48 rfl) fwX11_72 pM_0 rM_0_19 ?_
        refine b_iload_n (pc := 88) (i := 1) (dd dtX11_goMonth 49 rfl) rfl rfl ?_
        refine b_iald (pc := 89) (dd dtX11_goMonth 50 rfl) pM_15 (vpn rfl (show h < 6 by omega) (by decide)) ?_
        refine b_goto (pc := 90) (tgt := 104) (dd dtX11_goMonth 51 rfl) (by decide) ?_
        refine b_istore_n (pc := 104) (i := 2) (lv' := [(2, _), (1, _), (0, _)]) (dd dtX11_goMonth 59 rfl) rfl (Nat.le_of_ble_eq_true rfl) rfl ?_
        refine b_aload_n (pc := 105) (i := 0) (dd dtX11_goMonth 60 rfl) rfl rfl ?_
        refine b_geta (pc := 106) (dd dtX11_goMonth 61 rfl) fwX11_36 pM_0 rM_0_7 ?_
        refine b_aload_n (pc := 109) (i := 0) (dd dtX11_goMonth 62 rfl) rfl rfl ?_
        refine b_geta (pc := 110) (dd dtX11_goMonth 63 rfl) fwX11_69 pM_0 rM_0_18 ?_
        refine b_iload_n (pc := 113) (i := 1) (dd dtX11_goMonth 64 rfl) rfl rfl ?_
        refine b_iald (pc := 114) (dd dtX11_goMonth 65 rfl) pM_14 (vpn rfl (show h < 6 by omega) (by decide)) ?_
        refine b_dup2 (pc := 115) (dd dtX11_goMonth 66 rfl) ⟨rfl, rfl⟩ ?_
        refine b_iald (pc := 116) (dd dtX11_goMonth 67 rfl) pM_3 (hq1) ?_
        refine b_iload_n (pc := 117) (i := 2) (dd dtX11_goMonth 68 rfl) rfl rfl ?_
        refine b_isub (pc := 118) (dd dtX11_goMonth 69 rfl) ?_
        refine b_iast (pc := 119) (dd dtX11_goMonth 70 rfl) pM_3 (hq1) ?_
        refine b_aload_n (pc := 120) (i := 0) (dd dtX11_goMonth 71 rfl) rfl rfl ?_
        refine b_aload_n (pc := 121) (i := 0) (dd dtX11_goMonth 72 rfl) rfl rfl ?_
        refine b_geta (pc := 122) (dd dtX11_goMonth 73 rfl) fwX11_69 pM_0 rM_0_18 ?_
        refine b_iload_n (pc := 125) (i := 1) (dd dtX11_goMonth 74 rfl) rfl rfl ?_
        refine b_iald (pc := 126) (dd dtX11_goMonth 75 rfl) pM_14 (vpn rfl (show h < 6 by omega) (by decide)) ?_
        refine b_iload_n (pc := 127) (i := 2) (dd dtX11_goMonth 76 rfl) rfl rfl ?_
        refine b_invV (pc := 128) (dd dtX11_goMonth 77 rfl) mlX11_256 mvX11_wentBy miX11_wentBy (c_X11_wentBy hq1 (by rw [ist_ne (by decide)]; exact hG.2.2.1 _ (vp_lt hq1))) oM_0 rfl rfl (by decide) (Nat.le_of_ble_eq_true rfl) ?_
        refine b_iinc1 (pc := 131) (i := 1) (lv' := [(1, _), (2, _), (0, _)]) (dd dtX11_goMonth 78 rfl) rfl (Nat.le_of_ble_eq_true rfl) rfl ?_
        refine b_goto (pc := 134) (tgt := 56) (dd dtX11_goMonth 79 rfl) (by decide) ?_
        refine b_pick [0, 2] (lv' := [(1, _), (0, _)]) rfl ?_
        rw [nI_1]
        refine ih (h + 1) _ _ hlt (by omega) rfl ?_
        · try simp only [nI_clamp (show h < 2 ^ 31 by omega)] at h81
          simp only [nI_clamp (show h < 2 ^ 31 by omega)]
          show _ = pmpM1 (pmpM J h) h
          unfold pmpM1 lsM
          first
            | rw [if_pos h81]
            | rw [if_neg h81]
set_option maxHeartbeats 4000000 in
theorem l1_X11_goMonth {J : Wd} {N P : Nat} (hF : FM J N P) : ∀ (n h : Nat) (x1 : Int32) (I2 : Wd), h ≤ 64 → 64 < h + n → x1 = nI h → I2 = (rset J 3 (fil (fun c => capM (J 3 c + J 0 1)) (J 3) h)) → Bd SyM mX11_goMonth 2 2 [(1, .int x1), (0, .ref 0)] [] I2 none (monM N P J) := by
  intro n
  induction n with
  | zero => intro h x1 I2 h1 h2; omega
  | succ n ih =>
    intro h x1 I2 h1 h2 e1 eW
    subst e1; subst eW
    refine b_iload_n (pc := 2) (i := 1) (dd dtX11_goMonth 2 rfl) rfl rfl ?_
    refine b_bipush (pc := 3) (v := 64) (dd dtX11_goMonth 3 rfl) (by decide) ?_
    refine b_icmpL_ge (pc := 5) (tgt := 54) (dd dtX11_goMonth 4 rfl) (by decide) (fun h5 => ?_) (fun h5 => ?_)
    · rw [show (64 : Int32) = nI 64 from rfl] at h5
      have he : h = 64 := Nat.le_antisymm h1 (ge_n h5 (by omega))
      subst he
      refine b_ic0 (pc := 54) (dd dtX11_goMonth 29 rfl) ?_
      refine b_istore_n (pc := 55) (i := 1) (lv' := [(1, _), (0, _)]) (dd dtX11_goMonth 30 rfl) rfl (Nat.le_of_ble_eq_true rfl) rfl ?_
      exact l2_X11_goMonth (J := rainM J) hF.rain (P + 1) 0 _ _ (Nat.zero_le _) (by omega) rfl rfl
    · rw [show (64 : Int32) = nI 64 from rfl] at h5
      have hlt : h < 64 := lt_n h5 (by omega) (by omega)
      refine b_aload_n (pc := 8) (i := 0) (dd dtX11_goMonth 5 rfl) rfl rfl ?_
      refine b_geta (pc := 9) (dd dtX11_goMonth 6 rfl) fwX11_36 pM_0 rM_0_7 ?_
      refine b_iload_n (pc := 12) (i := 1) (dd dtX11_goMonth 7 rfl) rfl rfl ?_
      refine b_aload_n (pc := 13) (i := 0) (dd dtX11_goMonth 8 rfl) rfl rfl ?_
      refine b_geta (pc := 14) (dd dtX11_goMonth 9 rfl) fwX11_36 pM_0 rM_0_7 ?_
      refine b_iload_n (pc := 17) (i := 1) (dd dtX11_goMonth 10 rfl) rfl rfl ?_
      refine b_iald (pc := 18) (dd dtX11_goMonth 11 rfl) pM_3 (vpn rfl (show h < 64 by omega) (by decide)) ?_
      refine b_aload_n (pc := 19) (i := 0) (dd dtX11_goMonth 12 rfl) rfl rfl ?_
      refine b_geti (pc := 20) (dd dtX11_goMonth 13 rfl) fwX11_17 pM_0 ?_
      refine b_iadd (pc := 23) (dd dtX11_goMonth 14 rfl) ?_
      refine b_sipush (pc := 24) (v := 9999) (dd dtX11_goMonth 15 rfl) (by decide) ?_
      refine b_icmpL_le (pc := 27) (tgt := 36) (dd dtX11_goMonth 16 rfl) (by decide) (fun h27 => ?_) (fun h27 => ?_)
      · refine b_aload_n (pc := 36) (i := 0) (dd dtX11_goMonth 19 rfl) rfl rfl ?_
        refine b_geta (pc := 37) (dd dtX11_goMonth 20 rfl) fwX11_36 pM_0 rM_0_7 ?_
        refine b_iload_n (pc := 40) (i := 1) (dd dtX11_goMonth 21 rfl) rfl rfl ?_
        refine b_iald (pc := 41) (dd dtX11_goMonth 22 rfl) pM_3 (vpn rfl (show h < 64 by omega) (by decide)) ?_
        refine b_aload_n (pc := 42) (i := 0) (dd dtX11_goMonth 23 rfl) rfl rfl ?_
        refine b_geti (pc := 43) (dd dtX11_goMonth 24 rfl) fwX11_17 pM_0 ?_
        refine b_iadd (pc := 46) (dd dtX11_goMonth 25 rfl) ?_
        refine b_iast (pc := 47) (dd dtX11_goMonth 26 rfl) pM_3 (vpn rfl (show h < 64 by omega) (by decide)) ?_
        refine b_iinc1 (pc := 48) (i := 1) (lv' := [(1, _), (0, _)]) (dd dtX11_goMonth 27 rfl) rfl (Nat.le_of_ble_eq_true rfl) rfl ?_
        refine b_goto (pc := 51) (tgt := 2) (dd dtX11_goMonth 28 rfl) (by decide) ?_
        rw [nI_1]
        refine ih (h + 1) _ _ hlt (by omega) rfl ?_
        · simp only [nI_clamp (show h < 2 ^ 31 by omega), rset_eq, rset_ne (show 0 ≠ 3 by decide), fil_out (Nat.le_refl h)] at h27
          rw [nI_clamp (show h < 2 ^ 31 by omega), ist_rset]
          congr 1
          refine fil_s ?_
          try simp only [rset_eq, rset_ne (show 0 ≠ 3 by decide), fil_out (Nat.le_refl h)]
          unfold capM
          first | rw [if_pos h27] | rw [if_neg h27]
      · refine b_sipush (pc := 30) (v := 9999) (dd dtX11_goMonth 17 rfl) (by decide) ?_
        refine b_goto (pc := 33) (tgt := 47) (dd dtX11_goMonth 18 rfl) (by decide) ?_
        refine b_iast (pc := 47) (dd dtX11_goMonth 26 rfl) pM_3 (vpn rfl (show h < 64 by omega) (by decide)) ?_
        refine b_iinc1 (pc := 48) (i := 1) (lv' := [(1, _), (0, _)]) (dd dtX11_goMonth 27 rfl) rfl (Nat.le_of_ble_eq_true rfl) rfl ?_
        refine b_goto (pc := 51) (tgt := 2) (dd dtX11_goMonth 28 rfl) (by decide) ?_
        rw [nI_1]
        refine ih (h + 1) _ _ hlt (by omega) rfl ?_
        · simp only [nI_clamp (show h < 2 ^ 31 by omega), rset_eq, rset_ne (show 0 ≠ 3 by decide), fil_out (Nat.le_refl h)] at h27
          rw [nI_clamp (show h < 2 ^ 31 by omega), ist_rset]
          congr 1
          refine fil_s ?_
          try simp only [rset_eq, rset_ne (show 0 ≠ 3 by decide), fil_out (Nat.le_refl h)]
          unfold capM
          first | rw [if_pos h27] | rw [if_neg h27]
set_option maxHeartbeats 4000000 in
theorem c_X11_goMonth {J : Wd} {N P : Nat} (hF : FM J N P) : Cal SyM mX11_goMonth 2 [.ref 0] J none (monM N P J) := by
  refine Cal.of (by decide) (Nat.le_of_ble_eq_true rfl) ?_
  show Bd _ _ _ _ [(0, _)] _ _ _ _
  refine b_ic0 (pc := 0) (dd dtX11_goMonth 0 rfl) ?_
  refine b_istore_n (pc := 1) (i := 1) (lv' := [(1, _), (0, _)]) (dd dtX11_goMonth 1 rfl) rfl (Nat.le_of_ble_eq_true rfl) rfl ?_
  exact l1_X11_goMonth hF 65 0 _ _ (Nat.zero_le _) (by omega) rfl (by rw [fil_0, rset_id])
def tX11_run : List (Nat × Instr × Nat) := [(0, .aload_n 0, 1), (1, .iload_n 1, 1), (2, .iconst 1, 1), (3, .bipush 60, 2), (5, .invokevirtual 1, 3), (8, .ifCond .ne 6, 3), (11, .bipush (-2), 2), (13, .ireturn, 1), (14, .aload_n 0, 1), (15, .getfield 13, 3), (18, .iload_n 1, 1), (19, .iadd, 1), (20, .sipush 1200, 3), (23, .if_icmp .le 6, 3), (26, .bipush (-4), 2), (28, .ireturn, 1), (29, .iconst 0, 1), (30, .istore_n 2, 1), (31, .iload_n 2, 1), (32, .iload_n 1, 1), (33, .if_icmp .ge 13, 3), (36, .aload_n 0, 1), (37, .invokevirtual 267, 3), (40, .iinc 2 1, 3), (43, .goto (-12), 3), (46, .aload_n 0, 1), (47, .getfield 13, 3), (50, .ireturn, 1)]
theorem dtX11_run : dec_ok mX11_run.2.1 tX11_run = true := by decide +kernel
set_option maxHeartbeats 4000000 in
theorem l_X11_run {J : Wd} {N P : Nat} (hF : FM J N P) {n0 : Nat} (hn0 : n0 ≤ 60) : ∀ (n h : Nat) (x2 : Int32) (I2 : Wd), h ≤ n0 → n0 < h + n → x2 = nI h → I2 = (monsM N P J h) → Bd SyM mX11_run 3 31 [(2, .int x2), (0, .ref 0), (1, .int (nI n0))] [] I2 (some (.int (monsM N P J n0 0 0))) (monsM N P J n0) := by
  intro n
  induction n with
  | zero => intro h x2 I2 h1 h2; omega
  | succ n ih =>
    intro h x2 I2 h1 h2 e2 eW
    subst e2; subst eW
    refine b_iload_n (pc := 31) (i := 2) (dd dtX11_run 18 rfl) rfl rfl ?_
    refine b_iload_n (pc := 32) (i := 1) (dd dtX11_run 19 rfl) rfl rfl ?_
    refine b_icmpL_ge (pc := 33) (tgt := 46) (dd dtX11_run 20 rfl) (by decide) (fun h33 => ?_) (fun h33 => ?_)
    · have he : h = n0 := Nat.le_antisymm h1 (ge_n h33 (by omega))
      subst he
      refine b_aload_n (pc := 46) (i := 0) (dd dtX11_run 25 rfl) rfl rfl ?_
      refine b_geti (pc := 47) (dd dtX11_run 26 rfl) fwX11_13 pM_0 ?_
      exact b_eq (b_iret (dd dtX11_run 27 rfl) rfl) rfl rfl
    · have hlt : h < n0 := lt_n h33 (by omega) (by omega)
      refine b_aload_n (pc := 36) (i := 0) (dd dtX11_run 21 rfl) rfl rfl ?_
      refine b_invV (pc := 37) (dd dtX11_run 22 rfl) mlX11_267 mvX11_goMonth miX11_goMonth (c_X11_goMonth hF.mons) oM_0 rfl rfl (by decide) (Nat.le_of_ble_eq_true rfl) ?_
      refine b_iinc1 (pc := 40) (i := 2) (lv' := [(2, _), (0, _), (1, _)]) (dd dtX11_run 23 rfl) rfl (Nat.le_of_ble_eq_true rfl) rfl ?_
      refine b_goto (pc := 43) (tgt := 31) (dd dtX11_run 24 rfl) (by decide) ?_
      rw [nI_1]
      refine ih (h + 1) _ _ hlt (by omega) rfl ?_
      · rfl
def mRunV (month n v : Int32) : Int32 := if inR n 1 60 then (if 1200 < month + n then -4 else v) else -2
theorem n60 {n : Int32} (h : inR n 1 60) : n = nI n.toNatClampNeg ∧ n.toNatClampNeg ≤ 60 := by
  obtain ⟨j, e, h1, h2, h3, h4⟩ := nI_rng2 h (by decide)
  rw [h4]; exact ⟨e, by have : (60 : Int32).toInt = 60 := rfl; omega⟩
set_option maxHeartbeats 4000000 in
theorem c_X11_run {J : Wd} {N P : Nat} (hF : FM J N P) {n : Int32} : Cal SyM mX11_run 3 [.ref 0, .int n] J (some (.int (mRunV (J 0 0) n (monsM N P J n.toNatClampNeg 0 0)))) (if inR n 1 60 ∧ ¬ 1200 < J 0 0 + n then monsM N P J n.toNatClampNeg else J) := by
  refine Cal.of (by decide) (Nat.le_of_ble_eq_true rfl) ?_
  show Bd _ _ _ _ [(0, _), (1, _)] _ _ _ _
  refine b_aload_n (pc := 0) (i := 0) (dd dtX11_run 0 rfl) rfl rfl ?_
  refine b_iload_n (pc := 1) (i := 1) (dd dtX11_run 1 rfl) rfl rfl ?_
  refine b_ic1 (pc := 2) (dd dtX11_run 2 rfl) ?_
  refine b_bipush (pc := 3) (v := 60) (dd dtX11_run 3 rfl) (by decide) ?_
  refine b_invV (pc := 5) (dd dtX11_run 4 rfl) mlX11_1 mvX11_in miX11_in (c_X11_in) oM_0 rfl rfl (by decide) (Nat.le_of_ble_eq_true rfl) ?_
  refine b_ifb_ne (pc := 8) (tgt := 14) (dd dtX11_run 5 rfl) (by decide) (fun h8 => ?_) (fun h8 => ?_)
  · refine b_aload_n (pc := 14) (i := 0) (dd dtX11_run 8 rfl) rfl rfl ?_
    refine b_geti (pc := 15) (dd dtX11_run 9 rfl) fwX11_13 pM_0 ?_
    refine b_iload_n (pc := 18) (i := 1) (dd dtX11_run 10 rfl) rfl rfl ?_
    refine b_iadd (pc := 19) (dd dtX11_run 11 rfl) ?_
    refine b_sipush (pc := 20) (v := 1200) (dd dtX11_run 12 rfl) (by decide) ?_
    refine b_icmpL_le (pc := 23) (tgt := 29) (dd dtX11_run 13 rfl) (by decide) (fun h23 => ?_) (fun h23 => ?_)
    · refine b_ic0 (pc := 29) (dd dtX11_run 16 rfl) ?_
      refine b_istore_n (pc := 30) (i := 2) (lv' := [(2, _), (0, _), (1, _)]) (dd dtX11_run 17 rfl) rfl (Nat.le_of_ble_eq_true rfl) rfl ?_
      unfold mRunV
      rw [if_pos h8, if_neg h23, if_pos (show inR n 1 60 ∧ ¬ 1200 < J 0 0 + n from ⟨h8, h23⟩)]
      obtain ⟨e, hn⟩ := n60 h8
      have kk := l_X11_run hF hn (n.toNatClampNeg + 1) 0 _ _ (Nat.zero_le _) (by omega) rfl rfl
      rw [← e] at kk
      exact kk
    · refine b_bipush (pc := 26) (v := -4) (dd dtX11_run 14 rfl) (by decide) ?_
      refine b_eq (b_iret (dd dtX11_run 15 rfl) rfl) ?_ ?_
      · simp [inR, mRunV, -Int32.not_lt, -Int32.not_le, *]
      · simp [inR, mRunV, -Int32.not_lt, -Int32.not_le, *]
  · refine b_bipush (pc := 11) (v := -2) (dd dtX11_run 6 rfl) (by decide) ?_
    refine b_eq (b_iret (dd dtX11_run 7 rfl) rfl) ?_ ?_
    · simp [inR, mRunV, -Int32.not_lt, -Int32.not_le, *]
    · simp [inR, mRunV, -Int32.not_lt, -Int32.not_le, *]
