/-! the reference: often, beside -/
theorem lcmp_i {x y : Int64} : lg_cmp x y < 0 ↔ x < y := by
  have tr : x < y ∨ x = y ∨ y < x := by
    rcases Int.lt_trichotomy x.toInt y.toInt with h | h | h
    · exact Or.inl (Int64.lt_iff_toInt_lt.mpr h)
    · exact Or.inr (Or.inl (Int64.toInt_inj.mp h))
    · exact Or.inr (Or.inr (Int64.lt_iff_toInt_lt.mpr h))
  unfold lg_cmp
  by_cases h1 : x > y
  · rw [if_pos h1]
    exact ⟨fun h => absurd h (by decide), fun h => absurd (Int64.lt_iff_toInt_lt.mp h) (by have := Int64.lt_iff_toInt_lt.mp h1; omega)⟩
  · rw [if_neg h1]
    by_cases h2 : x = y
    · rw [if_pos h2]
      exact ⟨fun h => absurd h (by decide), fun h => absurd (Int64.lt_iff_toInt_lt.mp h) (by rw [h2]; omega)⟩
    · rw [if_neg h2]
      exact ⟨fun _ => tr.elim id (fun q => q.elim (fun q => absurd q h2) (fun q => absurd q h1)), fun _ => by decide⟩
def tX11_divisor : List (Nat × Instr × Nat) := [(0, .lload_n 1, 1), (1, .lstore 5, 2), (3, .lload_n 3, 1), (4, .lstore 7, 2), (6, .lload 7, 2), (8, .lconst 0, 1), (9, .lcmp, 1), (10, .ifCond .eq 21, 3), (13, .lload 5, 2), (15, .lload 7, 2), (17, .lrem, 1), (18, .lstore 9, 2), (20, .lload 7, 2), (22, .lstore 5, 2), (24, .lload 9, 2), (26, .lstore 7, 2), (28, .goto (-22), 3), (31, .lload 5, 2), (33, .lreturn, 1)]
theorem dtX11_divisor : dec_ok mX11_divisor.2.1 tX11_divisor = true := by decide +kernel
set_option maxHeartbeats 4000000 in
theorem l_X11_divisor {J : Wd} {a b : Int64} : ∀ (n x y : Nat), y < n → x < 2 ^ 31 → y < 2 ^ 31 → Bd SyM mX11_divisor 0 6 [(5, .long (lN x)), (7, .long (lN y)), (0, .ref 0), (1, .long a), (3, .long b)] [] J (some (.long (lN (Nat.gcd x y)))) J := by
  intro n
  induction n with
  | zero => intro x y h1; omega
  | succ n ih =>
    intro x y h1 hx hy
    have hy0 : lg_cmp (lN y) 0 = 0 ↔ y = 0 := by rw [lcmp0, show (0 : Int64) = lN 0 from rfl, lN_eq hy (by decide)]
    rw [show (0 : Int64) = lN 0 from rfl] at hy0
    refine b_lload (pc := 6) (i := 7) (dd dtX11_divisor 4 rfl) rfl ?_
    refine b_lconst (pc := 8) (v := 0) (dd dtX11_divisor 5 rfl) (by decide) ?_
    refine b_lcmp (pc := 9) (dd dtX11_divisor 6 rfl) ?_
    refine b_if_eq (pc := 10) (tgt := 31) (dd dtX11_divisor 7 rfl) (by decide) (fun h10 => ?_) (fun h10 => ?_)
    · refine b_lload (pc := 31) (i := 5) (dd dtX11_divisor 17 rfl) rfl ?_
      refine b_eq (b_lret (dd dtX11_divisor 18 rfl) rfl) ?_ ?_
      · rw [hy0.mp h10, Nat.gcd_zero_right]
      · rfl
    · refine b_lload (pc := 13) (i := 5) (dd dtX11_divisor 8 rfl) rfl ?_
      refine b_lload (pc := 15) (i := 7) (dd dtX11_divisor 9 rfl) rfl ?_
      refine b_lrem (pc := 17) (dd dtX11_divisor 10 rfl) (fun q => h10 (hy0.mpr ((lN_eq hy (by decide)).mp q))) ?_
      refine b_lstore (pc := 18) (i := 9) (lv' := [(9, _), (5, _), (7, _), (0, _), (1, _), (3, _)]) (dd dtX11_divisor 11 rfl) ⟨Nat.le_of_ble_eq_true rfl, Nat.le_of_ble_eq_true rfl⟩ rfl ?_
      refine b_lload (pc := 20) (i := 7) (dd dtX11_divisor 12 rfl) rfl ?_
      refine b_lstore (pc := 22) (i := 5) (lv' := [(5, _), (9, _), (7, _), (0, _), (1, _), (3, _)]) (dd dtX11_divisor 13 rfl) ⟨Nat.le_of_ble_eq_true rfl, Nat.le_of_ble_eq_true rfl⟩ rfl ?_
      refine b_lload (pc := 24) (i := 9) (dd dtX11_divisor 14 rfl) rfl ?_
      refine b_lstore (pc := 26) (i := 7) (lv' := [(7, _), (5, _), (9, _), (0, _), (1, _), (3, _)]) (dd dtX11_divisor 15 rfl) ⟨Nat.le_of_ble_eq_true rfl, Nat.le_of_ble_eq_true rfl⟩ rfl ?_
      refine b_goto (pc := 28) (tgt := 6) (dd dtX11_divisor 16 rfl) (by decide) ?_
      refine b_pick [1, 0, 3, 4, 5] (lv' := [(5, _), (7, _), (0, _), (1, _), (3, _)]) rfl ?_
      have hp : 0 < y := Nat.pos_of_ne_zero (fun q => h10 (hy0.mpr q))
      rw [pk_lRem (by omega) hp (by omega)]
      have hm := Nat.mod_lt x hp
      refine b_eq (ih y (x % y) (by omega) hy (by omega)) ?_ rfl
      rw [show Nat.gcd y (x % y) = Nat.gcd x y from by rw [Nat.gcd_comm y, ← Nat.gcd_rec, Nat.gcd_comm]]
set_option maxHeartbeats 4000000 in
theorem c_X11_divisor {J : Wd} {x y : Nat} (hx : x < 2 ^ 31) (hy : y < 2 ^ 31) : Cal SyM mX11_divisor 0 [.ref 0, .long (lN x), .long (lN y)] J (some (.long (lN (Nat.gcd x y)))) J := by
  refine Cal.of (by decide) (Nat.le_of_ble_eq_true rfl) ?_
  show Bd _ _ _ _ [(0, _), (1, _), (3, _)] _ _ _ _
  refine b_lload_n (pc := 0) (i := 1) (dd dtX11_divisor 0 rfl) rfl rfl ?_
  refine b_lstore (pc := 1) (i := 5) (lv' := [(5, _), (0, _), (1, _), (3, _)]) (dd dtX11_divisor 1 rfl) ⟨Nat.le_of_ble_eq_true rfl, Nat.le_of_ble_eq_true rfl⟩ rfl ?_
  refine b_lload_n (pc := 3) (i := 3) (dd dtX11_divisor 2 rfl) rfl rfl ?_
  refine b_lstore (pc := 4) (i := 7) (lv' := [(7, _), (5, _), (0, _), (1, _), (3, _)]) (dd dtX11_divisor 3 rfl) ⟨Nat.le_of_ble_eq_true rfl, Nat.le_of_ble_eq_true rfl⟩ rfl ?_
  refine b_pick [1, 0, 2, 3, 4] (lv' := [(5, _), (7, _), (0, _), (1, _), (3, _)]) rfl ?_
  exact l_X11_divisor (y + 1) x y (by omega) hx hy
def oftM (f mo : Nat) (part : Int32) : Int64 := if mo = 0 then part.toInt64 else if part = 0 then lN f / lN (Nat.gcd f mo) else lN mo / lN (Nat.gcd f mo)
def tX11_often : List (Nat × Instr × Nat) := [(0, .aload_n 0, 1), (1, .iload_n 1, 1), (2, .iconst 0, 1), (3, .iconst 3, 1), (4, .invokevirtual 1, 3), (7, .ifCond .eq 13, 3), (10, .aload_n 0, 1), (11, .iload_n 2, 1), (12, .iconst 0, 1), (13, .iconst 1, 1), (14, .invokevirtual 1, 3), (17, .ifCond .ne 7, 3), (20, .ldc2_w 399, 3), (23, .lreturn, 1), (24, .aload_n 0, 1), (25, .getfield 51, 3), (28, .iload_n 1, 1), (29, .iaload, 1), (30, .ifCond .ne 6, 3), (33, .iload_n 2, 1), (34, .i2l, 1), (35, .lreturn, 1), (36, .aload_n 0, 1), (37, .aload_n 0, 1), (38, .getfield 54, 3), (41, .iload_n 1, 1), (42, .iaload, 1), (43, .i2l, 1), (44, .aload_n 0, 1), (45, .getfield 51, 3), (48, .iload_n 1, 1), (49, .iaload, 1), (50, .i2l, 1), (51, .invokevirtual 404, 3), (54, .lstore_n 3, 1), (55, .iload_n 2, 1), (56, .ifCond .ne 15, 3), (59, .aload_n 0, 1), (60, .getfield 54, 3), (63, .iload_n 1, 1), (64, .iaload, 1), (65, .i2l, 1), (66, .lload_n 3, 1), (67, .ldiv, 1), (68, .goto 12, 3), (71, .aload_n 0, 1), (72, .getfield 51, 3), (75, .iload_n 1, 1), (76, .iaload, 1), (77, .i2l, 1), (78, .lload_n 3, 1), (79, .ldiv, 1), (80, .lreturn, 1)]
theorem dtX11_often : dec_ok mX11_often.2.1 tX11_often = true := by decide +kernel
set_option maxHeartbeats 4000000 in
theorem c_X11_often {J : Wd} {r part : Int32} {f mo : Nat} (hf : inR r 0 3 → J 9 r.toNatClampNeg = nI f ∧ f < 2 ^ 31) (hm : inR r 0 3 → J 8 r.toNatClampNeg = nI mo ∧ mo < 2 ^ 31) : Cal SyM mX11_often 1 [.ref 0, .int r, .int part] J (some (.long (if inR r 0 3 ∧ inR part 0 1 then oftM f mo part else -4611686018427387904))) J := by
  refine Cal.of (by decide) (Nat.le_of_ble_eq_true rfl) ?_
  show Bd _ _ _ _ [(0, _), (1, _), (2, _)] _ _ _ _
  refine b_aload_n (pc := 0) (i := 0) (dd dtX11_often 0 rfl) rfl rfl ?_
  refine b_iload_n (pc := 1) (i := 1) (dd dtX11_often 1 rfl) rfl rfl ?_
  refine b_ic0 (pc := 2) (dd dtX11_often 2 rfl) ?_
  refine b_ic3 (pc := 3) (dd dtX11_often 3 rfl) ?_
  refine b_invV (pc := 4) (dd dtX11_often 4 rfl) mlX11_1 mvX11_in miX11_in (c_X11_in) oM_0 rfl rfl (by decide) (Nat.le_of_ble_eq_true rfl) ?_
  refine b_ifb_eq (pc := 7) (tgt := 20) (dd dtX11_often 5 rfl) (by decide) (fun h7 => ?_) (fun h7 => ?_)
  · refine b_ldc2 (pc := 20) (dd dtX11_often 12 rfl) kcX11_399 ?_
    refine b_eq (b_lret (dd dtX11_often 13 rfl) rfl) ?_ ?_
    · simp [inR, -Int32.not_lt, -Int32.not_le, *]
    · rfl
  · refine b_aload_n (pc := 10) (i := 0) (dd dtX11_often 6 rfl) rfl rfl ?_
    refine b_iload_n (pc := 11) (i := 2) (dd dtX11_often 7 rfl) rfl rfl ?_
    refine b_ic0 (pc := 12) (dd dtX11_often 8 rfl) ?_
    refine b_ic1 (pc := 13) (dd dtX11_often 9 rfl) ?_
    refine b_invV (pc := 14) (dd dtX11_often 10 rfl) mlX11_1 mvX11_in miX11_in (c_X11_in) oM_0 rfl rfl (by decide) (Nat.le_of_ble_eq_true rfl) ?_
    refine b_ifb_ne (pc := 17) (tgt := 24) (dd dtX11_often 11 rfl) (by decide) (fun h17 => ?_) (fun h17 => ?_)
    · obtain ⟨ef, lf⟩ := hf h7
      obtain ⟨em, lm⟩ := hm h7
      clear hf hm
      refine b_aload_n (pc := 24) (i := 0) (dd dtX11_often 14 rfl) rfl rfl ?_
      refine b_geta (pc := 25) (dd dtX11_often 15 rfl) fwX11_51 pM_0 rM_0_12 ?_
      refine b_iload_n (pc := 28) (i := 1) (dd dtX11_often 16 rfl) rfl rfl ?_
      refine b_iald (pc := 29) (dd dtX11_often 17 rfl) pM_8 (vs4 h7) ?_
      rw [em]
      refine b_if_ne (pc := 30) (tgt := 36) (dd dtX11_often 18 rfl) (by decide) (fun h30 => ?_) (fun h30 => ?_)
      · have hmo : ¬ mo = 0 := fun q => h30 (by rw [q]; rfl)
        refine b_aload_n (pc := 36) (i := 0) (dd dtX11_often 22 rfl) rfl rfl ?_
        refine b_aload_n (pc := 37) (i := 0) (dd dtX11_often 23 rfl) rfl rfl ?_
        refine b_geta (pc := 38) (dd dtX11_often 24 rfl) fwX11_54 pM_0 rM_0_13 ?_
        refine b_iload_n (pc := 41) (i := 1) (dd dtX11_often 25 rfl) rfl rfl ?_
        refine b_iald (pc := 42) (dd dtX11_often 26 rfl) pM_9 (vs4 h7) ?_
        refine b_i2l (pc := 43) (dd dtX11_often 27 rfl) ?_
        refine b_aload_n (pc := 44) (i := 0) (dd dtX11_often 28 rfl) rfl rfl ?_
        refine b_geta (pc := 45) (dd dtX11_often 29 rfl) fwX11_51 pM_0 rM_0_12 ?_
        refine b_iload_n (pc := 48) (i := 1) (dd dtX11_often 30 rfl) rfl rfl ?_
        refine b_iald (pc := 49) (dd dtX11_often 31 rfl) pM_8 (vs4 h7) ?_
        refine b_i2l (pc := 50) (dd dtX11_often 32 rfl) ?_
        rw [ef, em, nI_l lf, nI_l lm]
        refine b_invV (pc := 51) (dd dtX11_often 33 rfl) mlX11_404 mvX11_divisor miX11_divisor (c_X11_divisor lf lm) oM_0 rfl rfl (by decide) (Nat.le_of_ble_eq_true rfl) ?_
        refine b_lstore_n (pc := 54) (i := 3) (lv' := [(3, _), (0, _), (1, _), (2, _)]) (dd dtX11_often 34 rfl) rfl ⟨Nat.le_of_ble_eq_true rfl, Nat.le_of_ble_eq_true rfl⟩ rfl ?_
        refine b_iload_n (pc := 55) (i := 2) (dd dtX11_often 35 rfl) rfl rfl ?_
        refine b_if_ne (pc := 56) (tgt := 71) (dd dtX11_often 36 rfl) (by decide) (fun h56 => ?_) (fun h56 => ?_)
        · refine b_aload_n (pc := 71) (i := 0) (dd dtX11_often 45 rfl) rfl rfl ?_
          refine b_geta (pc := 72) (dd dtX11_often 46 rfl) fwX11_51 pM_0 rM_0_12 ?_
          refine b_iload_n (pc := 75) (i := 1) (dd dtX11_often 47 rfl) rfl rfl ?_
          refine b_iald (pc := 76) (dd dtX11_often 48 rfl) pM_8 (vs4 h7) ?_
          refine b_i2l (pc := 77) (dd dtX11_often 49 rfl) ?_
          refine b_lload_n (pc := 78) (i := 3) (dd dtX11_often 50 rfl) rfl rfl ?_
          rw [em, nI_l lm]
          refine b_ldiv (pc := 79) (dd dtX11_often 51 rfl) (fun q => absurd ((lN_eq (show Nat.gcd f mo < 2 ^ 31 by have := Nat.gcd_le_right f (Nat.pos_of_ne_zero hmo); omega) (by decide)).mp q) (fun q => hmo (Nat.eq_zero_of_gcd_eq_zero_right q))) ?_
          refine b_eq (b_lret (dd dtX11_often 52 rfl) rfl) ?_ ?_
          · rw [if_pos ⟨h7, h17⟩]; unfold oftM; rw [if_neg hmo]; first | rw [if_pos h56] | rw [if_neg h56]
          · rfl
        · refine b_aload_n (pc := 59) (i := 0) (dd dtX11_often 37 rfl) rfl rfl ?_
          refine b_geta (pc := 60) (dd dtX11_often 38 rfl) fwX11_54 pM_0 rM_0_13 ?_
          refine b_iload_n (pc := 63) (i := 1) (dd dtX11_often 39 rfl) rfl rfl ?_
          refine b_iald (pc := 64) (dd dtX11_often 40 rfl) pM_9 (vs4 h7) ?_
          refine b_i2l (pc := 65) (dd dtX11_often 41 rfl) ?_
          refine b_lload_n (pc := 66) (i := 3) (dd dtX11_often 42 rfl) rfl rfl ?_
          rw [ef, nI_l lf]
          refine b_ldiv (pc := 67) (dd dtX11_often 43 rfl) (fun q => absurd ((lN_eq (show Nat.gcd f mo < 2 ^ 31 by have := Nat.gcd_le_right f (Nat.pos_of_ne_zero hmo); omega) (by decide)).mp q) (fun q => hmo (Nat.eq_zero_of_gcd_eq_zero_right q))) ?_
          refine b_goto (pc := 68) (tgt := 80) (dd dtX11_often 44 rfl) (by decide) ?_
          refine b_eq (b_lret (dd dtX11_often 52 rfl) rfl) ?_ ?_
          · rw [if_pos ⟨h7, h17⟩]; unfold oftM; rw [if_neg hmo]; first | rw [if_pos h56] | rw [if_neg h56]
          · rfl
      · refine b_iload_n (pc := 33) (i := 2) (dd dtX11_often 19 rfl) rfl rfl ?_
        refine b_i2l (pc := 34) (dd dtX11_often 20 rfl) ?_
        refine b_eq (b_lret (dd dtX11_often 21 rfl) rfl) ?_ ?_
        · rw [if_pos ⟨h7, h17⟩]; unfold oftM; rw [if_pos ((nI_eq lm (by decide)).mp h30)]
        · rfl
    · refine b_ldc2 (pc := 20) (dd dtX11_often 12 rfl) kcX11_399 ?_
      refine b_eq (b_lret (dd dtX11_often 13 rfl) rfl) ?_ ?_
      · simp [inR, -Int32.not_lt, -Int32.not_le, *]
      · rfl
abbrev okBesM (J : Wd) (n p u what : Int32) : Prop := inR n 1 60 ∧ inR p (-1) (J 0 4 - 1) ∧ inR u 0 50 ∧ inR what 0 2 ∧ ¬ 1200 < J 0 0 + n
def besM1 (J : Wd) (p u : Int32) : Wd := if p < 0 then keepW J 0 else ist (keepW J 0) 15 p.toNatClampNeg u
def besM2 (J : Wd) (N P : Nat) (n p u : Int32) : Wd := monsM N P (besM1 J p u) n.toNatClampNeg
def besMV (J : Wd) (N P : Nat) (n p u what : Int32) : Int64 := if what = 0 then (sCf (besM2 J N P n p u 4) 64 - sCf (J 4) 64).toInt64 else if what = 1 then (besM2 J N P n p u 0 2 - J 0 2).toInt64 else (besM2 J N P n p u 0 0).toInt64
theorem FM.bes {J : Wd} {N P : Nat} {p u : Int32} (h : FM J N P) : FM (besM1 J p u) N P := by
  unfold besM1; split
  · exact h.of (by rw [keepW_fr (by decide)]) (by rw [keepW_fr (by decide)]) (keepW_fr (by decide)) (keepW_fr (by decide))
  · refine h.of ?_ ?_ ?_ ?_ <;> (simp (disch := decide) only [ist_ne]; rw [keepW_fr (by decide)])
def tX11_beside : List (Nat × Instr × Nat) := [(0, .aload_n 0, 1), (1, .iload_n 1, 1), (2, .iconst 1, 1), (3, .bipush 60, 2), (5, .invokevirtual 1, 3), (8, .ifCond .eq 52, 3), (11, .aload_n 0, 1), (12, .iload_n 2, 1), (13, .iconst (-1), 1), (14, .aload_n 0, 1), (15, .getfield 26, 3), (18, .iconst 1, 1), (19, .isub, 1), (20, .invokevirtual 1, 3), (23, .ifCond .eq 37, 3), (26, .aload_n 0, 1), (27, .iload_n 3, 1), (28, .iconst 0, 1), (29, .bipush 50, 2), (31, .invokevirtual 1, 3), (34, .ifCond .eq 26, 3), (37, .aload_n 0, 1), (38, .iload 4, 2), (40, .iconst 0, 1), (41, .iconst 2, 1), (42, .invokevirtual 1, 3), (45, .ifCond .eq 15, 3), (48, .aload_n 0, 1), (49, .getfield 13, 3), (52, .iload_n 1, 1), (53, .iadd, 1), (54, .sipush 1200, 3), (57, .if_icmp .le 7, 3), (60, .ldc2_w 399, 3), (63, .lreturn, 1), (64, .aload_n 0, 1), (65, .invokevirtual 411, 3), (68, .istore 5, 2), (70, .aload_n 0, 1), (71, .getfield 20, 3), (74, .istore 6, 2), (76, .aload_n 0, 1), (77, .iconst 0, 1), (78, .invokevirtual 414, 3), (81, .iload_n 2, 1), (82, .ifCond .lt 10, 3), (85, .aload_n 0, 1), (86, .getfield 72, 3), (89, .iload_n 2, 1), (90, .iload_n 3, 1), (91, .iastore, 1), (92, .iconst 0, 1), (93, .istore 7, 2), (95, .iload 7, 2), (97, .iload_n 1, 1), (98, .if_icmp .ge 13, 3), (101, .aload_n 0, 1), (102, .invokevirtual 267, 3), (105, .iinc 7 1, 3), (108, .goto (-13), 3), (111, .iload 4, 2), (113, .ifCond .ne 14, 3), (116, .aload_n 0, 1), (117, .invokevirtual 411, 3), (120, .iload 5, 2), (122, .isub, 1), (123, .i2l, 1), (124, .goto 25, 3), (127, .iload 4, 2), (129, .iconst 1, 1), (130, .if_icmp .ne 14, 3), (133, .aload_n 0, 1), (134, .getfield 20, 3), (137, .iload 6, 2), (139, .isub, 1), (140, .i2l, 1), (141, .goto 8, 3), (144, .aload_n 0, 1), (145, .getfield 13, 3), (148, .i2l, 1), (149, .lstore 7, 2), (151, .aload_n 0, 1), (152, .iconst 0, 1), (153, .aload_n 0, 1), (154, .getfield 23, 3), (157, .aload_n 0, 1), (158, .getfield 26, 3), (161, .invokevirtual 417, 3), (164, .lload 7, 2), (166, .lreturn, 1)]
theorem dtX11_beside : dec_ok mX11_beside.2.1 tX11_beside = true := by decide +kernel
set_option maxHeartbeats 4000000 in
theorem l_X11_beside {J : Wd} {N P : Nat} (hF : FM J N P) {n0 p u what cf hb : Int32} (hn0 : inR n0 1 60) {r : Option Value} {I9 : Wd} (kk : Bd SyM mX11_beside 3 111 [(0, .ref 0), (1, .int n0), (2, .int p), (3, .int u), (4, .int what), (5, .int cf), (6, .int hb)] [] (monsM N P J n0.toNatClampNeg) r I9) : ∀ (n h : Nat) (x7 : Int32) (I2 : Wd), h ≤ n0.toNatClampNeg → n0.toNatClampNeg < h + n → x7 = nI h → I2 = (monsM N P J h) → Bd SyM mX11_beside 3 95 [(7, .int x7), (0, .ref 0), (1, .int n0), (2, .int p), (3, .int u), (4, .int what), (5, .int cf), (6, .int hb)] [] I2 (r) I9 := by
  intro n
  induction n with
  | zero => intro h x7 I2 h1 h2; omega
  | succ n ih =>
    intro h x7 I2 h1 h2 e7 eW
    subst e7; subst eW
    have hn6 := (n60 hn0).2
    refine b_iload (pc := 95) (i := 7) (dd dtX11_beside 53 rfl) rfl ?_
    refine b_iload_n (pc := 97) (i := 1) (dd dtX11_beside 54 rfl) rfl rfl ?_
    refine b_icmpL_ge (pc := 98) (tgt := 111) (dd dtX11_beside 55 rfl) (by decide) (fun h98 => ?_) (fun h98 => ?_)
    · refine b_pick [1, 2, 3, 4, 5, 6, 7] (lv' := [(0, _), (1, _), (2, _), (3, _), (4, _), (5, _), (6, _)]) rfl ?_
      rw [(n60 hn0).1] at h98
      have he : h = n0.toNatClampNeg := Nat.le_antisymm h1 (ge_n h98 (by omega))
      rw [he]
      exact kk
    · rw [(n60 hn0).1] at h98
      have hlt : h < n0.toNatClampNeg := lt_n h98 (by omega) (by omega)
      refine b_aload_n (pc := 101) (i := 0) (dd dtX11_beside 56 rfl) rfl rfl ?_
      refine b_invV (pc := 102) (dd dtX11_beside 57 rfl) mlX11_267 mvX11_goMonth miX11_goMonth (c_X11_goMonth hF.mons) oM_0 rfl rfl (by decide) (Nat.le_of_ble_eq_true rfl) ?_
      refine b_iinc1 (pc := 105) (i := 7) (lv' := [(7, _), (0, _), (1, _), (2, _), (3, _), (4, _), (5, _), (6, _)]) (dd dtX11_beside 58 rfl) rfl (Nat.le_of_ble_eq_true rfl) rfl ?_
      refine b_goto (pc := 108) (tgt := 95) (dd dtX11_beside 59 rfl) (by decide) ?_
      rw [nI_1]
      refine ih (h + 1) _ _ hlt (by omega) rfl ?_
      · rfl
set_option maxHeartbeats 4000000 in
theorem c_X11_beside {J : Wd} {N P : Nat} (hF : FM J N P) {n p u what : Int32} : Cal SyM mX11_beside 3 [.ref 0, .int n, .int p, .int u, .int what] J (some (.long (if okBesM J n p u what then besMV J N P n p u what else -4611686018427387904))) (if okBesM J n p u what then putW 0 (nI N) (nI P) N P (besM2 J N P n p u) else J) := by
  refine Cal.of (by decide) (Nat.le_of_ble_eq_true rfl) ?_
  show Bd _ _ _ _ [(0, _), (1, _), (2, _), (3, _), (4, _)] _ _ _ _
  refine b_aload_n (pc := 0) (i := 0) (dd dtX11_beside 0 rfl) rfl rfl ?_
  refine b_iload_n (pc := 1) (i := 1) (dd dtX11_beside 1 rfl) rfl rfl ?_
  refine b_ic1 (pc := 2) (dd dtX11_beside 2 rfl) ?_
  refine b_bipush (pc := 3) (v := 60) (dd dtX11_beside 3 rfl) (by decide) ?_
  refine b_invV (pc := 5) (dd dtX11_beside 4 rfl) mlX11_1 mvX11_in miX11_in (c_X11_in) oM_0 rfl rfl (by decide) (Nat.le_of_ble_eq_true rfl) ?_
  refine b_ifb_eq (pc := 8) (tgt := 60) (dd dtX11_beside 5 rfl) (by decide) (fun h8 => ?_) (fun h8 => ?_)
  · refine b_ldc2 (pc := 60) (dd dtX11_beside 33 rfl) kcX11_399 ?_
    refine b_eq (b_lret (dd dtX11_beside 34 rfl) rfl) ?_ ?_
    · simp [okBesM, inR, -Int32.not_lt, -Int32.not_le, *]
    · simp [okBesM, inR, -Int32.not_lt, -Int32.not_le, *]
  · refine b_aload_n (pc := 11) (i := 0) (dd dtX11_beside 6 rfl) rfl rfl ?_
    refine b_iload_n (pc := 12) (i := 2) (dd dtX11_beside 7 rfl) rfl rfl ?_
    refine b_icm1 (pc := 13) (dd dtX11_beside 8 rfl) ?_
    refine b_aload_n (pc := 14) (i := 0) (dd dtX11_beside 9 rfl) rfl rfl ?_
    refine b_geti (pc := 15) (dd dtX11_beside 10 rfl) fwX11_26 pM_0 ?_
    refine b_ic1 (pc := 18) (dd dtX11_beside 11 rfl) ?_
    refine b_isub (pc := 19) (dd dtX11_beside 12 rfl) ?_
    refine b_invV (pc := 20) (dd dtX11_beside 13 rfl) mlX11_1 mvX11_in miX11_in (c_X11_in) oM_0 rfl rfl (by decide) (Nat.le_of_ble_eq_true rfl) ?_
    refine b_ifb_eq (pc := 23) (tgt := 60) (dd dtX11_beside 14 rfl) (by decide) (fun h23 => ?_) (fun h23 => ?_)
    · refine b_ldc2 (pc := 60) (dd dtX11_beside 33 rfl) kcX11_399 ?_
      refine b_eq (b_lret (dd dtX11_beside 34 rfl) rfl) ?_ ?_
      · simp [okBesM, inR, -Int32.not_lt, -Int32.not_le, *]
      · simp [okBesM, inR, -Int32.not_lt, -Int32.not_le, *]
    · refine b_aload_n (pc := 26) (i := 0) (dd dtX11_beside 15 rfl) rfl rfl ?_
      refine b_iload_n (pc := 27) (i := 3) (dd dtX11_beside 16 rfl) rfl rfl ?_
      refine b_ic0 (pc := 28) (dd dtX11_beside 17 rfl) ?_
      refine b_bipush (pc := 29) (v := 50) (dd dtX11_beside 18 rfl) (by decide) ?_
      refine b_invV (pc := 31) (dd dtX11_beside 19 rfl) mlX11_1 mvX11_in miX11_in (c_X11_in) oM_0 rfl rfl (by decide) (Nat.le_of_ble_eq_true rfl) ?_
      refine b_ifb_eq (pc := 34) (tgt := 60) (dd dtX11_beside 20 rfl) (by decide) (fun h34 => ?_) (fun h34 => ?_)
      · refine b_ldc2 (pc := 60) (dd dtX11_beside 33 rfl) kcX11_399 ?_
        refine b_eq (b_lret (dd dtX11_beside 34 rfl) rfl) ?_ ?_
        · simp [okBesM, inR, -Int32.not_lt, -Int32.not_le, *]
        · simp [okBesM, inR, -Int32.not_lt, -Int32.not_le, *]
      · refine b_aload_n (pc := 37) (i := 0) (dd dtX11_beside 21 rfl) rfl rfl ?_
        refine b_iload (pc := 38) (i := 4) (dd dtX11_beside 22 rfl) rfl ?_
        refine b_ic0 (pc := 40) (dd dtX11_beside 23 rfl) ?_
        refine b_ic2 (pc := 41) (dd dtX11_beside 24 rfl) ?_
        refine b_invV (pc := 42) (dd dtX11_beside 25 rfl) mlX11_1 mvX11_in miX11_in (c_X11_in) oM_0 rfl rfl (by decide) (Nat.le_of_ble_eq_true rfl) ?_
        refine b_ifb_eq (pc := 45) (tgt := 60) (dd dtX11_beside 26 rfl) (by decide) (fun h45 => ?_) (fun h45 => ?_)
        · refine b_ldc2 (pc := 60) (dd dtX11_beside 33 rfl) kcX11_399 ?_
          refine b_eq (b_lret (dd dtX11_beside 34 rfl) rfl) ?_ ?_
          · simp [okBesM, inR, -Int32.not_lt, -Int32.not_le, *]
          · simp [okBesM, inR, -Int32.not_lt, -Int32.not_le, *]
        · refine b_aload_n (pc := 48) (i := 0) (dd dtX11_beside 27 rfl) rfl rfl ?_
          refine b_geti (pc := 49) (dd dtX11_beside 28 rfl) fwX11_13 pM_0 ?_
          refine b_iload_n (pc := 52) (i := 1) (dd dtX11_beside 29 rfl) rfl rfl ?_
          refine b_iadd (pc := 53) (dd dtX11_beside 30 rfl) ?_
          refine b_sipush (pc := 54) (v := 1200) (dd dtX11_beside 31 rfl) (by decide) ?_
          refine b_icmpL_le (pc := 57) (tgt := 64) (dd dtX11_beside 32 rfl) (by decide) (fun h57 => ?_) (fun h57 => ?_)
          · refine b_aload_n (pc := 64) (i := 0) (dd dtX11_beside 35 rfl) rfl rfl ?_
            refine b_invV (pc := 65) (dd dtX11_beside 36 rfl) mlX11_411 mvX11_cellsFallen miX11_cellsFallen (c_X11_cellsFallen) oM_0 rfl rfl (by decide) (Nat.le_of_ble_eq_true rfl) ?_
            refine b_istore (pc := 68) (i := 5) (lv' := [(5, _), (0, _), (1, _), (2, _), (3, _), (4, _)]) (dd dtX11_beside 37 rfl) (Nat.le_of_ble_eq_true rfl) rfl ?_
            refine b_aload_n (pc := 70) (i := 0) (dd dtX11_beside 38 rfl) rfl rfl ?_
            refine b_geti (pc := 71) (dd dtX11_beside 39 rfl) fwX11_20 pM_0 ?_
            refine b_istore (pc := 74) (i := 6) (lv' := [(6, _), (5, _), (0, _), (1, _), (2, _), (3, _), (4, _)]) (dd dtX11_beside 40 rfl) (Nat.le_of_ble_eq_true rfl) rfl ?_
            refine b_aload_n (pc := 76) (i := 0) (dd dtX11_beside 41 rfl) rfl rfl ?_
            refine b_ic0 (pc := 77) (dd dtX11_beside 42 rfl) ?_
            refine b_invV (pc := 78) (dd dtX11_beside 43 rfl) mlX11_414 mvX11_keep miX11_keep (c_X11_keep (b := 0) (by decide)) oM_0 rfl rfl (by decide) (Nat.le_of_ble_eq_true rfl) ?_
            refine b_iload_n (pc := 81) (i := 2) (dd dtX11_beside 44 rfl) rfl rfl ?_
            refine b_if_lt (pc := 82) (tgt := 92) (dd dtX11_beside 45 rfl) (by decide) (fun h82 => ?_) (fun h82 => ?_)
            · refine b_ic0 (pc := 92) (dd dtX11_beside 51 rfl) ?_
              refine b_istore (pc := 93) (i := 7) (lv' := [(7, _), (6, _), (5, _), (0, _), (1, _), (2, _), (3, _), (4, _)]) (dd dtX11_beside 52 rfl) (Nat.le_of_ble_eq_true rfl) rfl ?_
              refine b_pick [0, 3, 4, 5, 6, 7, 2, 1] (lv' := [(7, _), (0, _), (1, _), (2, _), (3, _), (4, _), (5, _), (6, _)]) rfl ?_
              have hok : okBesM J n p u what := ⟨h8, h23, h34, h45, h57⟩
              rw [if_pos hok, if_pos hok]
              refine l_X11_beside (hF.bes (p := p) (u := u)) h8 ?_ (n.toNatClampNeg + 1) 0 _ _ (Nat.zero_le _) (by omega) rfl (by unfold besM1; first | rw [if_pos h82]; rfl | rw [if_neg h82]; rfl)
              have hM : FM (besM2 J N P n p u) N P := hF.bes.mons
              have hM2 := id hM
              obtain ⟨⟨hN, hN2⟩, ⟨hP, hP2⟩, hr, hq⟩ := hM
              show Bd _ _ _ _ _ _ (besM2 J N P n p u) _ _
              refine b_iload (pc := 111) (i := 4) (dd dtX11_beside 60 rfl) rfl ?_
              refine b_if_ne (pc := 113) (tgt := 127) (dd dtX11_beside 61 rfl) (by decide) (fun h113 => ?_) (fun h113 => ?_)
              · refine b_iload (pc := 127) (i := 4) (dd dtX11_beside 68 rfl) rfl ?_
                refine b_ic1 (pc := 129) (dd dtX11_beside 69 rfl) ?_
                refine b_icmp_ne (pc := 130) (tgt := 144) (dd dtX11_beside 70 rfl) (by decide) (fun h130 => ?_) (fun h130 => ?_)
                · refine b_aload_n (pc := 144) (i := 0) (dd dtX11_beside 77 rfl) rfl rfl ?_
                  refine b_geti (pc := 145) (dd dtX11_beside 78 rfl) fwX11_13 pM_0 ?_
                  refine b_i2l (pc := 148) (dd dtX11_beside 79 rfl) ?_
                  refine b_lstore (pc := 149) (i := 7) (lv' := [(7, _), (0, _), (1, _), (2, _), (3, _), (4, _), (5, _), (6, _)]) (dd dtX11_beside 80 rfl) ⟨Nat.le_of_ble_eq_true rfl, Nat.le_of_ble_eq_true rfl⟩ rfl ?_
                  refine b_aload_n (pc := 151) (i := 0) (dd dtX11_beside 81 rfl) rfl rfl ?_
                  refine b_ic0 (pc := 152) (dd dtX11_beside 82 rfl) ?_
                  refine b_aload_n (pc := 153) (i := 0) (dd dtX11_beside 83 rfl) rfl rfl ?_
                  refine b_geti (pc := 154) (dd dtX11_beside 84 rfl) fwX11_23 pM_0 ?_
                  refine b_aload_n (pc := 157) (i := 0) (dd dtX11_beside 85 rfl) rfl rfl ?_
                  refine b_geti (pc := 158) (dd dtX11_beside 86 rfl) fwX11_26 pM_0 ?_
                  rw [hN, hP]
                  refine b_invV (pc := 161) (dd dtX11_beside 87 rfl) mlX11_417 mvX11_putBack miX11_putBack (c_X11_putBack (b := 0) (by decide) hN hN2 hP hP2) oM_0 rfl rfl (by decide) (Nat.le_of_ble_eq_true rfl) ?_
                  refine b_lload (pc := 164) (i := 7) (dd dtX11_beside 88 rfl) rfl ?_
                  refine b_eq (b_lret (dd dtX11_beside 89 rfl) rfl) ?_ ?_
                  · unfold besMV; first | rw [if_pos h113] | (rw [if_neg h113]; first | rw [if_pos h130] | rw [if_neg h130])
                  · rfl
                · refine b_aload_n (pc := 133) (i := 0) (dd dtX11_beside 71 rfl) rfl rfl ?_
                  refine b_geti (pc := 134) (dd dtX11_beside 72 rfl) fwX11_20 pM_0 ?_
                  refine b_iload (pc := 137) (i := 6) (dd dtX11_beside 73 rfl) rfl ?_
                  refine b_isub (pc := 139) (dd dtX11_beside 74 rfl) ?_
                  refine b_i2l (pc := 140) (dd dtX11_beside 75 rfl) ?_
                  refine b_goto (pc := 141) (tgt := 149) (dd dtX11_beside 76 rfl) (by decide) ?_
                  refine b_lstore (pc := 149) (i := 7) (lv' := [(7, _), (0, _), (1, _), (2, _), (3, _), (4, _), (5, _), (6, _)]) (dd dtX11_beside 80 rfl) ⟨Nat.le_of_ble_eq_true rfl, Nat.le_of_ble_eq_true rfl⟩ rfl ?_
                  refine b_aload_n (pc := 151) (i := 0) (dd dtX11_beside 81 rfl) rfl rfl ?_
                  refine b_ic0 (pc := 152) (dd dtX11_beside 82 rfl) ?_
                  refine b_aload_n (pc := 153) (i := 0) (dd dtX11_beside 83 rfl) rfl rfl ?_
                  refine b_geti (pc := 154) (dd dtX11_beside 84 rfl) fwX11_23 pM_0 ?_
                  refine b_aload_n (pc := 157) (i := 0) (dd dtX11_beside 85 rfl) rfl rfl ?_
                  refine b_geti (pc := 158) (dd dtX11_beside 86 rfl) fwX11_26 pM_0 ?_
                  rw [hN, hP]
                  refine b_invV (pc := 161) (dd dtX11_beside 87 rfl) mlX11_417 mvX11_putBack miX11_putBack (c_X11_putBack (b := 0) (by decide) hN hN2 hP hP2) oM_0 rfl rfl (by decide) (Nat.le_of_ble_eq_true rfl) ?_
                  refine b_lload (pc := 164) (i := 7) (dd dtX11_beside 88 rfl) rfl ?_
                  refine b_eq (b_lret (dd dtX11_beside 89 rfl) rfl) ?_ ?_
                  · unfold besMV; first | rw [if_pos h113] | (rw [if_neg h113]; first | rw [if_pos h130] | rw [if_neg h130])
                  · rfl
              · refine b_aload_n (pc := 116) (i := 0) (dd dtX11_beside 62 rfl) rfl rfl ?_
                refine b_invV (pc := 117) (dd dtX11_beside 63 rfl) mlX11_411 mvX11_cellsFallen miX11_cellsFallen (c_X11_cellsFallen) oM_0 rfl rfl (by decide) (Nat.le_of_ble_eq_true rfl) ?_
                refine b_iload (pc := 120) (i := 5) (dd dtX11_beside 64 rfl) rfl ?_
                refine b_isub (pc := 122) (dd dtX11_beside 65 rfl) ?_
                refine b_i2l (pc := 123) (dd dtX11_beside 66 rfl) ?_
                refine b_goto (pc := 124) (tgt := 149) (dd dtX11_beside 67 rfl) (by decide) ?_
                refine b_lstore (pc := 149) (i := 7) (lv' := [(7, _), (0, _), (1, _), (2, _), (3, _), (4, _), (5, _), (6, _)]) (dd dtX11_beside 80 rfl) ⟨Nat.le_of_ble_eq_true rfl, Nat.le_of_ble_eq_true rfl⟩ rfl ?_
                refine b_aload_n (pc := 151) (i := 0) (dd dtX11_beside 81 rfl) rfl rfl ?_
                refine b_ic0 (pc := 152) (dd dtX11_beside 82 rfl) ?_
                refine b_aload_n (pc := 153) (i := 0) (dd dtX11_beside 83 rfl) rfl rfl ?_
                refine b_geti (pc := 154) (dd dtX11_beside 84 rfl) fwX11_23 pM_0 ?_
                refine b_aload_n (pc := 157) (i := 0) (dd dtX11_beside 85 rfl) rfl rfl ?_
                refine b_geti (pc := 158) (dd dtX11_beside 86 rfl) fwX11_26 pM_0 ?_
                rw [hN, hP]
                refine b_invV (pc := 161) (dd dtX11_beside 87 rfl) mlX11_417 mvX11_putBack miX11_putBack (c_X11_putBack (b := 0) (by decide) hN hN2 hP hP2) oM_0 rfl rfl (by decide) (Nat.le_of_ble_eq_true rfl) ?_
                refine b_lload (pc := 164) (i := 7) (dd dtX11_beside 88 rfl) rfl ?_
                refine b_eq (b_lret (dd dtX11_beside 89 rfl) rfl) ?_ ?_
                · unfold besMV; first | rw [if_pos h113] | (rw [if_neg h113]; first | rw [if_pos h130] | rw [if_neg h130])
                · rfl
            · refine b_aload_n (pc := 85) (i := 0) (dd dtX11_beside 46 rfl) rfl rfl ?_
              refine b_geta (pc := 86) (dd dtX11_beside 47 rfl) fwX11_72 pM_0 rM_0_19 ?_
              refine b_iload_n (pc := 89) (i := 2) (dd dtX11_beside 48 rfl) rfl rfl ?_
              refine b_iload_n (pc := 90) (i := 3) (dd dtX11_beside 49 rfl) rfl rfl ?_
              refine b_iast (pc := 91) (dd dtX11_beside 50 rfl) pM_15 (by have q2 := h23; rw [hF.2.1.1] at q2; have := hF.2.1.2; exact vpm ⟨h82, q2.2⟩ this (by decide)) ?_
              refine b_ic0 (pc := 92) (dd dtX11_beside 51 rfl) ?_
              refine b_istore (pc := 93) (i := 7) (lv' := [(7, _), (6, _), (5, _), (0, _), (1, _), (2, _), (3, _), (4, _)]) (dd dtX11_beside 52 rfl) (Nat.le_of_ble_eq_true rfl) rfl ?_
              refine b_pick [0, 3, 4, 5, 6, 7, 2, 1] (lv' := [(7, _), (0, _), (1, _), (2, _), (3, _), (4, _), (5, _), (6, _)]) rfl ?_
              have hok : okBesM J n p u what := ⟨h8, h23, h34, h45, h57⟩
              rw [if_pos hok, if_pos hok]
              refine l_X11_beside (hF.bes (p := p) (u := u)) h8 ?_ (n.toNatClampNeg + 1) 0 _ _ (Nat.zero_le _) (by omega) rfl (by unfold besM1; first | rw [if_pos h82]; rfl | rw [if_neg h82]; rfl)
              have hM : FM (besM2 J N P n p u) N P := hF.bes.mons
              have hM2 := id hM
              obtain ⟨⟨hN, hN2⟩, ⟨hP, hP2⟩, hr, hq⟩ := hM
              show Bd _ _ _ _ _ _ (besM2 J N P n p u) _ _
              refine b_iload (pc := 111) (i := 4) (dd dtX11_beside 60 rfl) rfl ?_
              refine b_if_ne (pc := 113) (tgt := 127) (dd dtX11_beside 61 rfl) (by decide) (fun h113 => ?_) (fun h113 => ?_)
              · refine b_iload (pc := 127) (i := 4) (dd dtX11_beside 68 rfl) rfl ?_
                refine b_ic1 (pc := 129) (dd dtX11_beside 69 rfl) ?_
                refine b_icmp_ne (pc := 130) (tgt := 144) (dd dtX11_beside 70 rfl) (by decide) (fun h130 => ?_) (fun h130 => ?_)
                · refine b_aload_n (pc := 144) (i := 0) (dd dtX11_beside 77 rfl) rfl rfl ?_
                  refine b_geti (pc := 145) (dd dtX11_beside 78 rfl) fwX11_13 pM_0 ?_
                  refine b_i2l (pc := 148) (dd dtX11_beside 79 rfl) ?_
                  refine b_lstore (pc := 149) (i := 7) (lv' := [(7, _), (0, _), (1, _), (2, _), (3, _), (4, _), (5, _), (6, _)]) (dd dtX11_beside 80 rfl) ⟨Nat.le_of_ble_eq_true rfl, Nat.le_of_ble_eq_true rfl⟩ rfl ?_
                  refine b_aload_n (pc := 151) (i := 0) (dd dtX11_beside 81 rfl) rfl rfl ?_
                  refine b_ic0 (pc := 152) (dd dtX11_beside 82 rfl) ?_
                  refine b_aload_n (pc := 153) (i := 0) (dd dtX11_beside 83 rfl) rfl rfl ?_
                  refine b_geti (pc := 154) (dd dtX11_beside 84 rfl) fwX11_23 pM_0 ?_
                  refine b_aload_n (pc := 157) (i := 0) (dd dtX11_beside 85 rfl) rfl rfl ?_
                  refine b_geti (pc := 158) (dd dtX11_beside 86 rfl) fwX11_26 pM_0 ?_
                  rw [hN, hP]
                  refine b_invV (pc := 161) (dd dtX11_beside 87 rfl) mlX11_417 mvX11_putBack miX11_putBack (c_X11_putBack (b := 0) (by decide) hN hN2 hP hP2) oM_0 rfl rfl (by decide) (Nat.le_of_ble_eq_true rfl) ?_
                  refine b_lload (pc := 164) (i := 7) (dd dtX11_beside 88 rfl) rfl ?_
                  refine b_eq (b_lret (dd dtX11_beside 89 rfl) rfl) ?_ ?_
                  · unfold besMV; first | rw [if_pos h113] | (rw [if_neg h113]; first | rw [if_pos h130] | rw [if_neg h130])
                  · rfl
                · refine b_aload_n (pc := 133) (i := 0) (dd dtX11_beside 71 rfl) rfl rfl ?_
                  refine b_geti (pc := 134) (dd dtX11_beside 72 rfl) fwX11_20 pM_0 ?_
                  refine b_iload (pc := 137) (i := 6) (dd dtX11_beside 73 rfl) rfl ?_
                  refine b_isub (pc := 139) (dd dtX11_beside 74 rfl) ?_
                  refine b_i2l (pc := 140) (dd dtX11_beside 75 rfl) ?_
                  refine b_goto (pc := 141) (tgt := 149) (dd dtX11_beside 76 rfl) (by decide) ?_
                  refine b_lstore (pc := 149) (i := 7) (lv' := [(7, _), (0, _), (1, _), (2, _), (3, _), (4, _), (5, _), (6, _)]) (dd dtX11_beside 80 rfl) ⟨Nat.le_of_ble_eq_true rfl, Nat.le_of_ble_eq_true rfl⟩ rfl ?_
                  refine b_aload_n (pc := 151) (i := 0) (dd dtX11_beside 81 rfl) rfl rfl ?_
                  refine b_ic0 (pc := 152) (dd dtX11_beside 82 rfl) ?_
                  refine b_aload_n (pc := 153) (i := 0) (dd dtX11_beside 83 rfl) rfl rfl ?_
                  refine b_geti (pc := 154) (dd dtX11_beside 84 rfl) fwX11_23 pM_0 ?_
                  refine b_aload_n (pc := 157) (i := 0) (dd dtX11_beside 85 rfl) rfl rfl ?_
                  refine b_geti (pc := 158) (dd dtX11_beside 86 rfl) fwX11_26 pM_0 ?_
                  rw [hN, hP]
                  refine b_invV (pc := 161) (dd dtX11_beside 87 rfl) mlX11_417 mvX11_putBack miX11_putBack (c_X11_putBack (b := 0) (by decide) hN hN2 hP hP2) oM_0 rfl rfl (by decide) (Nat.le_of_ble_eq_true rfl) ?_
                  refine b_lload (pc := 164) (i := 7) (dd dtX11_beside 88 rfl) rfl ?_
                  refine b_eq (b_lret (dd dtX11_beside 89 rfl) rfl) ?_ ?_
                  · unfold besMV; first | rw [if_pos h113] | (rw [if_neg h113]; first | rw [if_pos h130] | rw [if_neg h130])
                  · rfl
              · refine b_aload_n (pc := 116) (i := 0) (dd dtX11_beside 62 rfl) rfl rfl ?_
                refine b_invV (pc := 117) (dd dtX11_beside 63 rfl) mlX11_411 mvX11_cellsFallen miX11_cellsFallen (c_X11_cellsFallen) oM_0 rfl rfl (by decide) (Nat.le_of_ble_eq_true rfl) ?_
                refine b_iload (pc := 120) (i := 5) (dd dtX11_beside 64 rfl) rfl ?_
                refine b_isub (pc := 122) (dd dtX11_beside 65 rfl) ?_
                refine b_i2l (pc := 123) (dd dtX11_beside 66 rfl) ?_
                refine b_goto (pc := 124) (tgt := 149) (dd dtX11_beside 67 rfl) (by decide) ?_
                refine b_lstore (pc := 149) (i := 7) (lv' := [(7, _), (0, _), (1, _), (2, _), (3, _), (4, _), (5, _), (6, _)]) (dd dtX11_beside 80 rfl) ⟨Nat.le_of_ble_eq_true rfl, Nat.le_of_ble_eq_true rfl⟩ rfl ?_
                refine b_aload_n (pc := 151) (i := 0) (dd dtX11_beside 81 rfl) rfl rfl ?_
                refine b_ic0 (pc := 152) (dd dtX11_beside 82 rfl) ?_
                refine b_aload_n (pc := 153) (i := 0) (dd dtX11_beside 83 rfl) rfl rfl ?_
                refine b_geti (pc := 154) (dd dtX11_beside 84 rfl) fwX11_23 pM_0 ?_
                refine b_aload_n (pc := 157) (i := 0) (dd dtX11_beside 85 rfl) rfl rfl ?_
                refine b_geti (pc := 158) (dd dtX11_beside 86 rfl) fwX11_26 pM_0 ?_
                rw [hN, hP]
                refine b_invV (pc := 161) (dd dtX11_beside 87 rfl) mlX11_417 mvX11_putBack miX11_putBack (c_X11_putBack (b := 0) (by decide) hN hN2 hP hP2) oM_0 rfl rfl (by decide) (Nat.le_of_ble_eq_true rfl) ?_
                refine b_lload (pc := 164) (i := 7) (dd dtX11_beside 88 rfl) rfl ?_
                refine b_eq (b_lret (dd dtX11_beside 89 rfl) rfl) ?_ ?_
                · unfold besMV; first | rw [if_pos h113] | (rw [if_neg h113]; first | rw [if_pos h130] | rw [if_neg h130])
                · rfl
          · refine b_ldc2 (pc := 60) (dd dtX11_beside 33 rfl) kcX11_399 ?_
            refine b_eq (b_lret (dd dtX11_beside 34 rfl) rfl) ?_ ?_
            · simp [okBesM, inR, -Int32.not_lt, -Int32.not_le, *]
            · simp [okBesM, inR, -Int32.not_lt, -Int32.not_le, *]
