/-! a month of a ground of the class, on its world -/
theorem isG.ge {g : Nat} (h : isG g) : 6 ≤ g := by unfold isG at h; omega
def FG (g : Nat) (I : Wd) (N P : Nat) : Prop := (I 1 0 = nI N ∧ N ≤ 14) ∧ (I 1 1 = nI P ∧ P ≤ 6) ∧ (∀ c, c < 64 → vp_in (I (g + 1) c) 4) ∧ ∀ p, p < P → vp_in (I 5 p) 64
theorem FG.of {g : Nat} {I J : Wd} {N P : Nat} (h : FG g I N P) (h1 : J 1 = I 1) (h5 : J 5 = I 5) (hr : J (g + 1) = I (g + 1)) : FG g J N P := by
  unfold FG; rw [h1, h5, hr]; exact h
def mn (x y : Int32) : Int32 := if y < x then y else x
def ab (x : Int32) : Int32 := if 0 ≤ x then x else 0 - x
def sHarm (w p away : Nat → Int32) (h : Nat) : Int32 := w h + (if away h = 0 then 1000 * p h else 0)
def solveW (g : Nat) (I : Wd) (c : Nat) (much : Int32) : Wd := if I (g + 4) c < 0 then ist I (g + 2) c (mn (I (g + 2) c + much * tbSolves.getD (I (g + 1) c).toNatClampNeg 0 / 10) 200) else I
def goW (g : Nat) (I : Wd) (a b : Nat) (n : Int32) : Wd := solveW g (solveW g (ist (ist I (g + 3) a (I (g + 3) a - n)) (g + 3) b ((ist I (g + 3) a (I (g + 3) a - n)) (g + 3) b + n)) a (ab n)) b (ab n)
def rainW (g : Nat) (I : Wd) : Wd := rset I (g + 3) (fil (fun c => mn (I (g + 3) c + I g 2) 9999) (I (g + 3)) 64)
def pump1 (g : Nat) (I : Wd) (p : Nat) : Wd := solveW g (ist I (g + 3) (I 5 p).toNatClampNeg (I (g + 3) (I 5 p).toNatClampNeg - mn (I (g + 7) p) (I (g + 3) (I 5 p).toNatClampNeg))) (I 5 p).toNatClampNeg (mn (I (g + 7) p) (I (g + 3) (I 5 p).toNatClampNeg))
def pumpW (g : Nat) (I : Wd) : Nat → Wd
  | 0 => I
  | p + 1 => pump1 g (pumpW g I p) p
def dnF (w : Nat → Int32) (c : Nat) : Int32 := if c + 8 < 64 then (w c - w (c + 8)) / 8 else 0
def acF (w : Nat → Int32) (c : Nat) : Int32 := if c % 8 < 7 then (w c - w (c + 1)) / 8 else 0
def measW (g : Nat) (I : Wd) (h : Nat) : Wd := rset (rset I (g + 10) (fil (dnF (I (g + 3))) (I (g + 10)) h)) (g + 11) (fil (acF (I (g + 3))) (I (g + 11)) h)
def flow1 (g : Nat) (I : Wd) (c : Nat) : Wd := if c + 8 < 64 then goW g I c (c + 8) (I (g + 10) c) else I
def flow2 (g : Nat) (I : Wd) (c : Nat) : Wd := if c % 8 < 7 then goW g I c (c + 1) (I (g + 11) c) else I
def flowW (g : Nat) (I : Wd) : Nat → Wd
  | 0 => I
  | c + 1 => flow2 g (flow1 g (flowW g I c) c) c
def take1 (g : Nat) (I : Wd) (c h : Nat) : Wd := if I 2 h = nI c ∧ I (g + 8) h < 0 then ist (ist I (g + 8) h (I g 1)) g 4 (I g 4 + sHarm (I 3) (I 4) (I (g + 9)) h) else I
def takeW (g : Nat) (I : Wd) (c : Nat) : Nat → Wd
  | 0 => I
  | h + 1 => take1 g (takeW g I c h) c h
def fall1 (g : Nat) (I : Wd) (N c : Nat) : Wd :=
  if I (g + 4) c < 0 then
    (if tbBears.getD (I (g + 1) c).toNatClampNeg 0 + I (g + 3) c / 20 < I (g + 2) c then
      takeW g (ist (ist (ist (ist I (g + 6) (I (g + 1) c).toNatClampNeg (I (g + 6) (I (g + 1) c).toNatClampNeg + 1)) (g + 4) c (I g 1)) g 3 (I g 3 + 1)) (g + 5) (I (g + 1) c).toNatClampNeg (I (g + 5) (I (g + 1) c).toNatClampNeg + 1)) c N
    else ist I (g + 6) (I (g + 1) c).toNatClampNeg (I (g + 6) (I (g + 1) c).toNatClampNeg + 1))
  else I
def fallW (g : Nat) (I : Wd) (N : Nat) : Nat → Wd
  | 0 => I
  | c + 1 => fall1 g (fallW g I N c) N c
def monthW (g N P : Nat) (I : Wd) : Wd := ist (fallW g (flowW g (measW g (pumpW g (rainW g I) P) 64) 64) N 64) g 1 ((fallW g (flowW g (measW g (pumpW g (rainW g I) P) 64) 64) N 64) g 1 + 1)
def monthsW (g N P : Nat) (I : Wd) : Nat → Wd
  | 0 => I
  | n + 1 => monthW g N P (monthsW g N P I n)
/-! what each leaves alone -/
theorem solveW_fr {g : Nat} {I : Wd} {c : Nat} {n : Int32} {a : Nat} (h : a ≠ g + 2) : solveW g I c n a = I a := by unfold solveW; split <;> simp [ist_ne h]
theorem goW_fr {g : Nat} {I : Wd} {x y : Nat} {n : Int32} {a : Nat} (h : a ≠ g + 2) (h3 : a ≠ g + 3) : goW g I x y n a = I a := by unfold goW; rw [solveW_fr h, solveW_fr h, ist_ne h3, ist_ne h3]
theorem rainW_fr {g : Nat} {I : Wd} {a : Nat} (h3 : a ≠ g + 3) : rainW g I a = I a := rset_ne h3
theorem pumpW_fr {g : Nat} {I : Wd} {p a : Nat} (h : a ≠ g + 2) (h3 : a ≠ g + 3) : pumpW g I p a = I a := by
  induction p with
  | zero => rfl
  | succ p ih => unfold pumpW pump1; rw [solveW_fr h, ist_ne h3, ih]
theorem measW_fr {g : Nat} {I : Wd} {h a : Nat} (h1 : a ≠ g + 10) (h2 : a ≠ g + 11) : measW g I h a = I a := by unfold measW; rw [rset_ne h2, rset_ne h1]
theorem flowW_fr {g : Nat} {I : Wd} {c a : Nat} (h : a ≠ g + 2) (h3 : a ≠ g + 3) : flowW g I c a = I a := by
  induction c with
  | zero => rfl
  | succ c ih => unfold flowW flow2 flow1; split <;> split <;> simp only [goW_fr h h3, ih]
theorem takeW_fr {g : Nat} {I : Wd} {c n a : Nat} (h8 : a ≠ g + 8) (h0 : a ≠ g) : takeW g I c n a = I a := by
  induction n with
  | zero => rfl
  | succ n ih => unfold takeW take1; split <;> simp only [ist_ne h0, ist_ne h8, ih]
theorem fallW_fr {g : Nat} {I : Wd} {N c a : Nat} (h0 : a ≠ g) (h4 : a ≠ g + 4) (h5 : a ≠ g + 5) (h6 : a ≠ g + 6) (h8 : a ≠ g + 8) : fallW g I N c a = I a := by
  induction c with
  | zero => rfl
  | succ c ih => unfold fallW fall1; split <;> (try split) <;> simp only [takeW_fr h8 h0, ist_ne h0, ist_ne h4, ist_ne h5, ist_ne h6, ih]
theorem monthW_fr {g N P : Nat} {I : Wd} {a : Nat} (h0 : a ≠ g) (h2 : a ≠ g + 2) (h3 : a ≠ g + 3) (h4 : a ≠ g + 4) (h5 : a ≠ g + 5) (h6 : a ≠ g + 6) (h8 : a ≠ g + 8) (h10 : a ≠ g + 10) (h11 : a ≠ g + 11) : monthW g N P I a = I a := by
  unfold monthW; rw [ist_ne h0, fallW_fr h0 h4 h5 h6 h8, flowW_fr h2 h3, measW_fr h10 h11, pumpW_fr h2 h3, rainW_fr h3]
theorem monthsW_fr {g N P n : Nat} {I : Wd} {a : Nat} (h0 : a ≠ g) (h2 : a ≠ g + 2) (h3 : a ≠ g + 3) (h4 : a ≠ g + 4) (h5 : a ≠ g + 5) (h6 : a ≠ g + 6) (h8 : a ≠ g + 8) (h10 : a ≠ g + 10) (h11 : a ≠ g + 11) : monthsW g N P I n a = I a := by
  induction n with
  | zero => rfl
  | succ n ih => unfold monthsW; rw [monthW_fr h0 h2 h3 h4 h5 h6 h8 h10 h11, ih]
def tX2_harmOf : List (Nat × Instr × Nat) := [(0, .aload_n 0, 1), (1, .getfield 59, 3), (4, .getfield 90, 3), (7, .iload_n 1, 1), (8, .iaload, 1), (9, .aload_n 0, 1), (10, .getfield 49, 3), (13, .iload_n 1, 1), (14, .baload, 1), (15, .ifCond .eq 7, 3), (18, .iconst 0, 1), (19, .goto 16, 3), (22, .sipush 1000, 3), (25, .aload_n 0, 1), (26, .getfield 59, 3), (29, .getfield 77, 3), (32, .iload_n 1, 1), (33, .iaload, 1), (34, .imul, 1), (35, .iadd, 1), (36, .ireturn, 1)]
theorem dtX2_harmOf : dec_ok mX2_harmOf.2.1 tX2_harmOf = true := by decide +kernel
set_option maxHeartbeats 4000000 in
theorem c_X2_harmOf {I : Wd} {g : Nat} (hg : isG g) {h : Int32} (hh : vp_in h 14) : Cal SyC mX2_harmOf 0 [.ref g, .int h] I (some (.int (sHarm (I 3) (I 4) (I (g + 9)) h.toNatClampNeg))) I := by
  refine Cal.of (by decide) (Nat.le_of_ble_eq_true rfl) ?_
  show Bd _ _ _ _ [(0, _), (1, _)] _ _ _ _
  refine b_aload_n (pc := 0) (i := 0) (dd dtX2_harmOf 0 rfl) rfl rfl ?_
  refine b_geta (pc := 1) (dd dtX2_harmOf 1 rfl) fwX2_59 (pG_0 hg) (rG_0 hg) ?_
  refine b_geta (pc := 4) (dd dtX2_harmOf 2 rfl) fwX2_90 pC_1 rC_1_3 ?_
  refine b_iload_n (pc := 7) (i := 1) (dd dtX2_harmOf 3 rfl) rfl rfl ?_
  refine b_iald (pc := 8) (dd dtX2_harmOf 4 rfl) pC_3 (by assumption) ?_
  refine b_aload_n (pc := 9) (i := 0) (dd dtX2_harmOf 5 rfl) rfl rfl ?_
  refine b_geta (pc := 10) (dd dtX2_harmOf 6 rfl) fwX2_49 (pG_0 hg) (rG_13 hg) ?_
  refine b_iload_n (pc := 13) (i := 1) (dd dtX2_harmOf 7 rfl) rfl rfl ?_
  refine b_zald (pc := 14) (dd dtX2_harmOf 8 rfl) (pG_9 hg) (by assumption) ?_
  refine b_if_eq (pc := 15) (tgt := 22) (dd dtX2_harmOf 9 rfl) (by decide) (fun h15 => ?_) (fun h15 => ?_)
  · refine b_sipush (pc := 22) (v := 1000) (dd dtX2_harmOf 12 rfl) (by decide) ?_
    refine b_aload_n (pc := 25) (i := 0) (dd dtX2_harmOf 13 rfl) rfl rfl ?_
    refine b_geta (pc := 26) (dd dtX2_harmOf 14 rfl) fwX2_59 (pG_0 hg) (rG_0 hg) ?_
    refine b_geta (pc := 29) (dd dtX2_harmOf 15 rfl) fwX2_77 pC_1 rC_1_4 ?_
    refine b_iload_n (pc := 32) (i := 1) (dd dtX2_harmOf 16 rfl) rfl rfl ?_
    refine b_iald (pc := 33) (dd dtX2_harmOf 17 rfl) pC_4 (by assumption) ?_
    refine b_imul (pc := 34) (dd dtX2_harmOf 18 rfl) ?_
    refine b_iadd (pc := 35) (dd dtX2_harmOf 19 rfl) ?_
    refine b_eq (b_iret (dd dtX2_harmOf 20 rfl) rfl) ?_ ?_
    · simp [sHarm, *]
    · rfl
  · refine b_ic0 (pc := 18) (dd dtX2_harmOf 10 rfl) ?_
    refine b_goto (pc := 19) (tgt := 35) (dd dtX2_harmOf 11 rfl) (by decide) ?_
    refine b_iadd (pc := 35) (dd dtX2_harmOf 19 rfl) ?_
    refine b_eq (b_iret (dd dtX2_harmOf 20 rfl) rfl) ?_ ?_
    · simp [sHarm, *]
    · rfl
def tX2_solve : List (Nat × Instr × Nat) := [(0, .aload_n 0, 1), (1, .iload_n 1, 1), (2, .invokevirtual 123, 3), (5, .ifCond .ne 37, 3), (8, .aload_n 0, 1), (9, .getfield 28, 3), (12, .iload_n 1, 1), (13, .aload_n 0, 1), (14, .getfield 28, 3), (17, .iload_n 1, 1), (18, .iaload, 1), (19, .iload_n 2, 1), (20, .getstatic 127, 3), (23, .aload_n 0, 1), (24, .getfield 24, 3), (27, .iload_n 1, 1), (28, .iaload, 1), (29, .iaload, 1), (30, .imul, 1), (31, .bipush 10, 2), (33, .idiv, 1), (34, .iadd, 1), (35, .sipush 200, 3), (38, .invokestatic 105, 3), (41, .iastore, 1), (42, .return_, 1)]
theorem dtX2_solve : dec_ok mX2_solve.2.1 tX2_solve = true := by decide +kernel
set_option maxHeartbeats 4000000 in
theorem c_X2_solve {I : Wd} {g : Nat} (hg : isG g) {c u : Int32} (hc : vp_in c 64) (hr : vp_in (I (g + 1) c.toNatClampNeg) 4) : Cal SyC mX2_solve 1 [.ref g, .int c, .int u] I none (solveW g I c.toNatClampNeg u) := by
  refine Cal.of (by decide) (Nat.le_of_ble_eq_true rfl) ?_
  show Bd _ _ _ _ [(0, _), (1, _), (2, _)] _ _ _ _
  refine b_aload_n (pc := 0) (i := 0) (dd dtX2_solve 0 rfl) rfl rfl ?_
  refine b_iload_n (pc := 1) (i := 1) (dd dtX2_solve 1 rfl) rfl rfl ?_
  refine b_invV (pc := 2) (dd dtX2_solve 2 rfl) mlX2_123 mvX2_hasFallen miX2_hasFallen (c_X2_hasFallen hg hc) (oG hg) rfl rfl (by decide) (Nat.le_of_ble_eq_true rfl) ?_
  refine b_ifn_ne (pc := 5) (tgt := 42) (dd dtX2_solve 3 rfl) (by decide) (fun h5 => ?_) (fun h5 => ?_)
  · refine b_eq (b_vret (dd dtX2_solve 25 rfl) rfl) ?_ ?_
    · rfl
    · simp [solveW, mn, *]
  · refine b_aload_n (pc := 8) (i := 0) (dd dtX2_solve 4 rfl) rfl rfl ?_
    refine b_geta (pc := 9) (dd dtX2_solve 5 rfl) fwX2_28 (pG_0 hg) (rG_6 hg) ?_
    refine b_iload_n (pc := 12) (i := 1) (dd dtX2_solve 6 rfl) rfl rfl ?_
    refine b_aload_n (pc := 13) (i := 0) (dd dtX2_solve 7 rfl) rfl rfl ?_
    refine b_geta (pc := 14) (dd dtX2_solve 8 rfl) fwX2_28 (pG_0 hg) (rG_6 hg) ?_
    refine b_iload_n (pc := 17) (i := 1) (dd dtX2_solve 9 rfl) rfl rfl ?_
    refine b_iald (pc := 18) (dd dtX2_solve 10 rfl) (pG_2 hg) (by assumption) ?_
    refine b_iload_n (pc := 19) (i := 2) (dd dtX2_solve 11 rfl) rfl rfl ?_
    refine b_gets0 (pc := 20) (dd dtX2_solve 12 rfl) fsX2_127 ?_
    refine b_aload_n (pc := 23) (i := 0) (dd dtX2_solve 13 rfl) rfl rfl ?_
    refine b_geta (pc := 24) (dd dtX2_solve 14 rfl) fwX2_24 (pG_0 hg) (rG_5 hg) ?_
    refine b_iload_n (pc := 27) (i := 1) (dd dtX2_solve 15 rfl) rfl rfl ?_
    refine b_iald (pc := 28) (dd dtX2_solve 16 rfl) (pG_1 hg) (by assumption) ?_
    refine b_tald0 (pc := 29) (dd dtX2_solve 17 rfl) (by assumption) ?_
    refine b_imul (pc := 30) (dd dtX2_solve 18 rfl) ?_
    refine b_bipush (pc := 31) (v := 10) (dd dtX2_solve 19 rfl) (by decide) ?_
    refine b_idiv (pc := 33) (dd dtX2_solve 20 rfl) (by decide) ?_
    refine b_iadd (pc := 34) (dd dtX2_solve 21 rfl) ?_
    refine b_sipush (pc := 35) (v := 200) (dd dtX2_solve 22 rfl) (by decide) ?_
    refine b_mmin (pc := 38) (dd dtX2_solve 23 rfl) wlX2_105 (Nat.le_of_ble_eq_true rfl) ?_
    refine b_iast (pc := 41) (dd dtX2_solve 24 rfl) (pG_2 hg) (by assumption) ?_
    refine b_eq (b_vret (dd dtX2_solve 25 rfl) rfl) ?_ ?_
    · rfl
    · simp [solveW, mn, *]
def tX2_go : List (Nat × Instr × Nat) := [(0, .aload_n 0, 1), (1, .getfield 31, 3), (4, .iload_n 1, 1), (5, .dup2, 1), (6, .iaload, 1), (7, .iload_n 3, 1), (8, .isub, 1), (9, .iastore, 1), (10, .aload_n 0, 1), (11, .getfield 31, 3), (14, .iload_n 2, 1), (15, .dup2, 1), (16, .iaload, 1), (17, .iload_n 3, 1), (18, .iadd, 1), (19, .iastore, 1), (20, .aload_n 0, 1), (21, .iload_n 1, 1), (22, .iload_n 3, 1), (23, .invokestatic 119, 3), (26, .invokevirtual 111, 3), (29, .aload_n 0, 1), (30, .iload_n 2, 1), (31, .iload_n 3, 1), (32, .invokestatic 119, 3), (35, .invokevirtual 111, 3), (38, .return_, 1)]
theorem dtX2_go : dec_ok mX2_go.2.1 tX2_go = true := by decide +kernel
set_option maxHeartbeats 4000000 in
theorem c_X2_go {I : Wd} {g : Nat} (hg : isG g) {a b n : Int32} (ha : vp_in a 64) (hb : vp_in b 64) (hr : ∀ c, c < 64 → vp_in (I (g + 1) c) 4) : Cal SyC mX2_go 2 [.ref g, .int a, .int b, .int n] I none (goW g I a.toNatClampNeg b.toNatClampNeg n) := by
  refine Cal.of (by decide) (Nat.le_of_ble_eq_true rfl) ?_
  show Bd _ _ _ _ [(0, _), (1, _), (2, _), (3, _)] _ _ _ _
  refine b_aload_n (pc := 0) (i := 0) (dd dtX2_go 0 rfl) rfl rfl ?_
  refine b_geta (pc := 1) (dd dtX2_go 1 rfl) fwX2_31 (pG_0 hg) (rG_7 hg) ?_
  refine b_iload_n (pc := 4) (i := 1) (dd dtX2_go 2 rfl) rfl rfl ?_
  refine b_dup2 (pc := 5) (dd dtX2_go 3 rfl) ⟨rfl, rfl⟩ ?_
  refine b_iald (pc := 6) (dd dtX2_go 4 rfl) (pG_3 hg) (by assumption) ?_
  refine b_iload_n (pc := 7) (i := 3) (dd dtX2_go 5 rfl) rfl rfl ?_
  refine b_isub (pc := 8) (dd dtX2_go 6 rfl) ?_
  refine b_iast (pc := 9) (dd dtX2_go 7 rfl) (pG_3 hg) (by assumption) ?_
  refine b_aload_n (pc := 10) (i := 0) (dd dtX2_go 8 rfl) rfl rfl ?_
  refine b_geta (pc := 11) (dd dtX2_go 9 rfl) fwX2_31 (pG_0 hg) (rG_7 hg) ?_
  refine b_iload_n (pc := 14) (i := 2) (dd dtX2_go 10 rfl) rfl rfl ?_
  refine b_dup2 (pc := 15) (dd dtX2_go 11 rfl) ⟨rfl, rfl⟩ ?_
  refine b_iald (pc := 16) (dd dtX2_go 12 rfl) (pG_3 hg) (by assumption) ?_
  refine b_iload_n (pc := 17) (i := 3) (dd dtX2_go 13 rfl) rfl rfl ?_
  refine b_iadd (pc := 18) (dd dtX2_go 14 rfl) ?_
  refine b_iast (pc := 19) (dd dtX2_go 15 rfl) (pG_3 hg) (by assumption) ?_
  refine b_aload_n (pc := 20) (i := 0) (dd dtX2_go 16 rfl) rfl rfl ?_
  refine b_iload_n (pc := 21) (i := 1) (dd dtX2_go 17 rfl) rfl rfl ?_
  refine b_iload_n (pc := 22) (i := 3) (dd dtX2_go 18 rfl) rfl rfl ?_
  refine b_mabs (pc := 23) (dd dtX2_go 19 rfl) wlX2_119 (Nat.le_of_ble_eq_true rfl) ?_
  refine b_invV (pc := 26) (dd dtX2_go 20 rfl) mlX2_111 mvX2_solve miX2_solve (c_X2_solve hg ha (by rw [ist_ne (by omega), ist_ne (by omega)]; exact hr _ (vp_lt ha))) (oG hg) rfl rfl (by decide) (Nat.le_of_ble_eq_true rfl) ?_
  refine b_aload_n (pc := 29) (i := 0) (dd dtX2_go 21 rfl) rfl rfl ?_
  refine b_iload_n (pc := 30) (i := 2) (dd dtX2_go 22 rfl) rfl rfl ?_
  refine b_iload_n (pc := 31) (i := 3) (dd dtX2_go 23 rfl) rfl rfl ?_
  refine b_mabs (pc := 32) (dd dtX2_go 24 rfl) wlX2_119 (Nat.le_of_ble_eq_true rfl) ?_
  refine b_invV (pc := 35) (dd dtX2_go 25 rfl) mlX2_111 mvX2_solve miX2_solve (c_X2_solve hg hb (by rw [solveW_fr (by omega), ist_ne (by omega), ist_ne (by omega)]; exact hr _ (vp_lt hb))) (oG hg) rfl rfl (by decide) (Nat.le_of_ble_eq_true rfl) ?_
  refine b_eq (b_vret (dd dtX2_go 26 rfl) rfl) ?_ ?_
  · rfl
  · rfl
def tX2_rainDown : List (Nat × Instr × Nat) := [(0, .iconst 0, 1), (1, .istore_n 1, 1), (2, .iload_n 1, 1), (3, .bipush 64, 2), (5, .if_icmp .ge 32, 3), (8, .aload_n 0, 1), (9, .getfield 31, 3), (12, .iload_n 1, 1), (13, .aload_n 0, 1), (14, .getfield 31, 3), (17, .iload_n 1, 1), (18, .iaload, 1), (19, .aload_n 0, 1), (20, .getfield 15, 3), (23, .iadd, 1), (24, .sipush 9999, 3), (27, .invokestatic 105, 3), (30, .iastore, 1), (31, .iinc 1 1, 3), (34, .goto (-32), 3), (37, .return_, 1)]
theorem dtX2_rainDown : dec_ok mX2_rainDown.2.1 tX2_rainDown = true := by decide +kernel
set_option maxHeartbeats 4000000 in
theorem l_X2_rainDown {I : Wd} {g : Nat} (hg : isG g) : ∀ (n h : Nat) (x1 : Int32) (I2 : Wd), h ≤ 64 → 64 < h + n → x1 = nI h → I2 = (rset I (g + 3) (fil (fun c => mn (I (g + 3) c + I g 2) 9999) (I (g + 3)) h)) → Bd SyC mX2_rainDown 1 2 [(1, .int x1), (0, .ref g)] [] I2 none (rset I (g + 3) (fil (fun c => mn (I (g + 3) c + I g 2) 9999) (I (g + 3)) 64)) := by
  intro n
  induction n with
  | zero => intro h x1 I2 h1 h2; omega
  | succ n ih =>
    intro h x1 I2 h1 h2 e1 eW
    subst e1; subst eW
    refine b_iload_n (pc := 2) (i := 1) (dd dtX2_rainDown 2 rfl) rfl rfl ?_
    refine b_bipush (pc := 3) (v := 64) (dd dtX2_rainDown 3 rfl) (by decide) ?_
    refine b_icmpL_ge (pc := 5) (tgt := 37) (dd dtX2_rainDown 4 rfl) (by decide) (fun h5 => ?_) (fun h5 => ?_)
    · rw [show (64 : Int32) = nI 64 from rfl] at h5
      have he : h = 64 := Nat.le_antisymm h1 (ge_n h5 (by omega))
      subst he
      exact b_eq (b_vret (dd dtX2_rainDown 20 rfl) rfl) rfl rfl
    · rw [show (64 : Int32) = nI 64 from rfl] at h5
      have hlt : h < 64 := lt_n h5 (by omega) (by omega)
      refine b_aload_n (pc := 8) (i := 0) (dd dtX2_rainDown 5 rfl) rfl rfl ?_
      refine b_geta (pc := 9) (dd dtX2_rainDown 6 rfl) fwX2_31 (pG_0 hg) (rG_7 hg) ?_
      refine b_iload_n (pc := 12) (i := 1) (dd dtX2_rainDown 7 rfl) rfl rfl ?_
      refine b_aload_n (pc := 13) (i := 0) (dd dtX2_rainDown 8 rfl) rfl rfl ?_
      refine b_geta (pc := 14) (dd dtX2_rainDown 9 rfl) fwX2_31 (pG_0 hg) (rG_7 hg) ?_
      refine b_iload_n (pc := 17) (i := 1) (dd dtX2_rainDown 10 rfl) rfl rfl ?_
      refine b_iald (pc := 18) (dd dtX2_rainDown 11 rfl) (pG_3 hg) (vpn rfl (show h < 64 by omega) (by decide)) ?_
      refine b_aload_n (pc := 19) (i := 0) (dd dtX2_rainDown 12 rfl) rfl rfl ?_
      refine b_geti (pc := 20) (dd dtX2_rainDown 13 rfl) fwX2_15 (pG_0 hg) ?_
      refine b_iadd (pc := 23) (dd dtX2_rainDown 14 rfl) ?_
      refine b_sipush (pc := 24) (v := 9999) (dd dtX2_rainDown 15 rfl) (by decide) ?_
      refine b_mmin (pc := 27) (dd dtX2_rainDown 16 rfl) wlX2_105 (Nat.le_of_ble_eq_true rfl) ?_
      refine b_iast (pc := 30) (dd dtX2_rainDown 17 rfl) (pG_3 hg) (vpn rfl (show h < 64 by omega) (by decide)) ?_
      refine b_iinc1 (pc := 31) (i := 1) (lv' := [(1, _), (0, _)]) (dd dtX2_rainDown 18 rfl) rfl (Nat.le_of_ble_eq_true rfl) rfl ?_
      refine b_goto (pc := 34) (tgt := 2) (dd dtX2_rainDown 19 rfl) (by decide) ?_
      rw [nI_1]
      refine ih (h + 1) _ _ hlt (by omega) rfl ?_
      · rw [nI_clamp (show h < 2 ^ 31 by omega), ist_rset]
        congr 1
        refine fil_s ?_
        simp only [rset_eq, rset_ne (show g ≠ g + 3 by omega), fil_out (Nat.le_refl h)]
        rfl
set_option maxHeartbeats 4000000 in
theorem c_X2_rainDown {I : Wd} {g : Nat} (hg : isG g) : Cal SyC mX2_rainDown 1 [.ref g] I none (rainW g I) := by
  refine Cal.of (by decide) (Nat.le_of_ble_eq_true rfl) ?_
  show Bd _ _ _ _ [(0, _)] _ _ _ _
  refine b_ic0 (pc := 0) (dd dtX2_rainDown 0 rfl) ?_
  refine b_istore_n (pc := 1) (i := 1) (lv' := [(1, _), (0, _)]) (dd dtX2_rainDown 1 rfl) rfl (Nat.le_of_ble_eq_true rfl) rfl ?_
  exact l_X2_rainDown hg 65 0 _ _ (Nat.zero_le _) (by omega) rfl (by rw [fil_0, rset_id])
def tX2_pumpOut : List (Nat × Instr × Nat) := [(0, .iconst 0, 1), (1, .istore_n 1, 1), (2, .iload_n 1, 1), (3, .aload_n 0, 1), (4, .getfield 59, 3), (7, .getfield 80, 3), (10, .if_icmp .ge 51, 3), (13, .aload_n 0, 1), (14, .getfield 59, 3), (17, .getfield 83, 3), (20, .iload_n 1, 1), (21, .iaload, 1), (22, .istore_n 2, 1), (23, .aload_n 0, 1), (24, .getfield 43, 3), (27, .iload_n 1, 1), (28, .iaload, 1), (29, .aload_n 0, 1), (30, .getfield 31, 3), (33, .iload_n 2, 1), (34, .iaload, 1), (35, .invokestatic 105, 3), (38, .istore_n 3, 1), (39, .aload_n 0, 1), (40, .getfield 31, 3), (43, .iload_n 2, 1), (44, .dup2, 1), (45, .iaload, 1), (46, .iload_n 3, 1), (47, .isub, 1), (48, .iastore, 1), (49, .aload_n 0, 1), (50, .iload_n 2, 1), (51, .iload_n 3, 1), (52, .invokevirtual 111, 3), (55, .iinc 1 1, 3), (58, .goto (-56), 3), (61, .return_, 1)]
theorem dtX2_pumpOut : dec_ok mX2_pumpOut.2.1 tX2_pumpOut = true := by decide +kernel
set_option maxHeartbeats 4000000 in
theorem l_X2_pumpOut {I : Wd} {g N P : Nat} (hg : isG g) (hF : FG g I N P) : ∀ (n h : Nat) (x1 : Int32) (I2 : Wd), h ≤ P → P < h + n → x1 = nI h → I2 = (pumpW g I h) → Bd SyC mX2_pumpOut 2 2 [(1, .int x1), (0, .ref g)] [] I2 none (pumpW g I P) := by
  intro n
  induction n with
  | zero => intro h x1 I2 h1 h2; omega
  | succ n ih =>
    intro h x1 I2 h1 h2 e1 eW
    subst e1; subst eW
    have h6 := hg.ge
    obtain ⟨⟨hN, hN2⟩, ⟨hP, hP2⟩, hr, hq⟩ := id hF
    have f1 : pumpW g I h 1 = I 1 := pumpW_fr (by omega) (by omega)
    have f5 : pumpW g I h 5 = I 5 := pumpW_fr (by omega) (by omega)
    have fr : pumpW g I h (g + 1) = I (g + 1) := pumpW_fr (by omega) (by omega)
    refine b_iload_n (pc := 2) (i := 1) (dd dtX2_pumpOut 2 rfl) rfl rfl ?_
    refine b_aload_n (pc := 3) (i := 0) (dd dtX2_pumpOut 3 rfl) rfl rfl ?_
    refine b_geta (pc := 4) (dd dtX2_pumpOut 4 rfl) fwX2_59 (pG_0 hg) (rG_0 hg) ?_
    refine b_geti (pc := 7) (dd dtX2_pumpOut 5 rfl) fwX2_80 pC_1 ?_
    refine b_icmpL_ge (pc := 10) (tgt := 61) (dd dtX2_pumpOut 6 rfl) (by decide) (fun h10 => ?_) (fun h10 => ?_)
    · rw [f1, hP] at h10
      have he : h = P := Nat.le_antisymm h1 (ge_n h10 (by omega))
      subst he
      exact b_eq (b_vret (dd dtX2_pumpOut 37 rfl) rfl) rfl rfl
    · rw [f1, hP] at h10
      have hlt : h < P := lt_n h10 (by omega) (by omega)
      have hq1 : vp_in (pumpW g I h 5 (nI h).toNatClampNeg) 64 := by rw [f5, nI_clamp (show h < 2 ^ 31 by omega)]; exact hq h hlt
      refine b_aload_n (pc := 13) (i := 0) (dd dtX2_pumpOut 7 rfl) rfl rfl ?_
      refine b_geta (pc := 14) (dd dtX2_pumpOut 8 rfl) fwX2_59 (pG_0 hg) (rG_0 hg) ?_
      refine b_geta (pc := 17) (dd dtX2_pumpOut 9 rfl) fwX2_83 pC_1 rC_1_5 ?_
      refine b_iload_n (pc := 20) (i := 1) (dd dtX2_pumpOut 10 rfl) rfl rfl ?_
      refine b_iald (pc := 21) (dd dtX2_pumpOut 11 rfl) pC_5 (vpn rfl (show h < 6 by omega) (by decide)) ?_
      refine b_istore_n (pc := 22) (i := 2) (lv' := [(2, _), (1, _), (0, _)]) (dd dtX2_pumpOut 12 rfl) rfl (Nat.le_of_ble_eq_true rfl) rfl ?_
      refine b_aload_n (pc := 23) (i := 0) (dd dtX2_pumpOut 13 rfl) rfl rfl ?_
      refine b_geta (pc := 24) (dd dtX2_pumpOut 14 rfl) fwX2_43 (pG_0 hg) (rG_11 hg) ?_
      refine b_iload_n (pc := 27) (i := 1) (dd dtX2_pumpOut 15 rfl) rfl rfl ?_
      refine b_iald (pc := 28) (dd dtX2_pumpOut 16 rfl) (pG_7 hg) (vpn rfl (show h < 6 by omega) (by decide)) ?_
      refine b_aload_n (pc := 29) (i := 0) (dd dtX2_pumpOut 17 rfl) rfl rfl ?_
      refine b_geta (pc := 30) (dd dtX2_pumpOut 18 rfl) fwX2_31 (pG_0 hg) (rG_7 hg) ?_
      refine b_iload_n (pc := 33) (i := 2) (dd dtX2_pumpOut 19 rfl) rfl rfl ?_
      refine b_iald (pc := 34) (dd dtX2_pumpOut 20 rfl) (pG_3 hg) (hq1) ?_
      refine b_mmin (pc := 35) (dd dtX2_pumpOut 21 rfl) wlX2_105 (Nat.le_of_ble_eq_true rfl) ?_
      refine b_istore_n (pc := 38) (i := 3) (lv' := [(3, _), (2, _), (1, _), (0, _)]) (dd dtX2_pumpOut 22 rfl) rfl (Nat.le_of_ble_eq_true rfl) rfl ?_
      refine b_aload_n (pc := 39) (i := 0) (dd dtX2_pumpOut 23 rfl) rfl rfl ?_
      refine b_geta (pc := 40) (dd dtX2_pumpOut 24 rfl) fwX2_31 (pG_0 hg) (rG_7 hg) ?_
      refine b_iload_n (pc := 43) (i := 2) (dd dtX2_pumpOut 25 rfl) rfl rfl ?_
      refine b_dup2 (pc := 44) (dd dtX2_pumpOut 26 rfl) ⟨rfl, rfl⟩ ?_
      refine b_iald (pc := 45) (dd dtX2_pumpOut 27 rfl) (pG_3 hg) (hq1) ?_
      refine b_iload_n (pc := 46) (i := 3) (dd dtX2_pumpOut 28 rfl) rfl rfl ?_
      refine b_isub (pc := 47) (dd dtX2_pumpOut 29 rfl) ?_
      refine b_iast (pc := 48) (dd dtX2_pumpOut 30 rfl) (pG_3 hg) (hq1) ?_
      refine b_aload_n (pc := 49) (i := 0) (dd dtX2_pumpOut 31 rfl) rfl rfl ?_
      refine b_iload_n (pc := 50) (i := 2) (dd dtX2_pumpOut 32 rfl) rfl rfl ?_
      refine b_iload_n (pc := 51) (i := 3) (dd dtX2_pumpOut 33 rfl) rfl rfl ?_
      refine b_invV (pc := 52) (dd dtX2_pumpOut 34 rfl) mlX2_111 mvX2_solve miX2_solve (c_X2_solve hg hq1 (by rw [ist_ne (by omega), fr]; exact hr _ (vp_lt hq1))) (oG hg) rfl rfl (by decide) (Nat.le_of_ble_eq_true rfl) ?_
      refine b_iinc1 (pc := 55) (i := 1) (lv' := [(1, _), (3, _), (2, _), (0, _)]) (dd dtX2_pumpOut 35 rfl) rfl (Nat.le_of_ble_eq_true rfl) rfl ?_
      refine b_goto (pc := 58) (tgt := 2) (dd dtX2_pumpOut 36 rfl) (by decide) ?_
      refine b_pick [0, 3] (lv' := [(1, _), (0, _)]) rfl ?_
      rw [nI_1]
      refine ih (h + 1) _ _ hlt (by omega) rfl ?_
      · simp only [nI_clamp (show h < 2 ^ 31 by omega)]
        rfl
set_option maxHeartbeats 4000000 in
theorem c_X2_pumpOut {I : Wd} {g N P : Nat} (hg : isG g) (hF : FG g I N P) : Cal SyC mX2_pumpOut 2 [.ref g] I none (pumpW g I P) := by
  refine Cal.of (by decide) (Nat.le_of_ble_eq_true rfl) ?_
  show Bd _ _ _ _ [(0, _)] _ _ _ _
  refine b_ic0 (pc := 0) (dd dtX2_pumpOut 0 rfl) ?_
  refine b_istore_n (pc := 1) (i := 1) (lv' := [(1, _), (0, _)]) (dd dtX2_pumpOut 1 rfl) rfl (Nat.le_of_ble_eq_true rfl) rfl ?_
  exact l_X2_pumpOut hg hF (P + 1) 0 _ _ (Nat.zero_le _) (by omega) rfl rfl
