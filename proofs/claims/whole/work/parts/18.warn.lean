/-! warnings, chances -/
abbrev cT (fell wc wm : Nat → Int32) (m : Int32) (w : Nat) : Prop := ¬ fell (wc w).toNatClampNeg < 0 ∧ inR (fell (wc w).toNatClampNeg) (wm w) (wm w + m)
def sTw (fell wc wm : Nat → Int32) (m : Int32) : Nat → Int32
  | 0 => 0
  | n + 1 => sTw fell wc wm m n + (if cT fell wc wm m n then 1 else 0)
def sOw (fell wc wm : Nat → Int32) (month m : Int32) : Nat → Int32
  | 0 => 0
  | n + 1 => sOw fell wc wm month m n + (if m < month - wm n ∧ ¬ cT fell wc wm m n then 1 else 0)
def sMs (fell wc wm : Nat → Int32) (m : Int32) : Nat → Int64
  | 0 => 0
  | n + 1 => if cT fell wc wm m n then sMs fell wc wm m n ||| ((1 : Int64) <<< ((wc n).toInt64 &&& 63)) else sMs fell wc wm m n
def sGcd : Nat → Int32 → Int32 → Int32
  | 0, a, _ => a
  | n + 1, a, b => if 0 < b then sGcd n b (a - a / b * b) else a
def vOften (f mo : Nat → Int32) (r part : Int32) : Int64 := if inR r 0 3 ∧ inR part 0 1 then (if sGcd 100 (f r.toNatClampNeg) (mo r.toNatClampNeg) = 0 then part.toInt64 else if part = 0 then (f r.toNatClampNeg / sGcd 100 (f r.toNatClampNeg) (mo r.toNatClampNeg)).toInt64 else (mo r.toNatClampNeg / sGcd 100 (f r.toNatClampNeg) (mo r.toNatClampNeg)).toInt64) else -4611686018427387904
def tX10_cameTrue : List (Nat × Instr × Nat) := [(0, .aload_n 0, 1), (1, .getfield 21, 3), (4, .getfield 318, 3), (7, .aload_n 0, 1), (8, .getfield 51, 3), (11, .getfield 385, 3), (14, .iload_n 1, 1), (15, .iaload, 1), (16, .iaload, 1), (17, .istore_n 3, 1), (18, .aload_n 0, 1), (19, .getfield 51, 3), (22, .getfield 372, 3), (25, .iload_n 1, 1), (26, .iaload, 1), (27, .istore 4, 2), (29, .iload_n 3, 1), (30, .ifCond .lt 20, 3), (33, .iload_n 3, 1), (34, .iload 4, 2), (36, .iload 4, 2), (38, .iload_n 2, 1), (39, .iadd, 1), (40, .invokestatic 97, 3), (43, .ifCond .eq 7, 3), (46, .iconst 1, 1), (47, .goto 4, 3), (50, .iconst 0, 1), (51, .ireturn, 1)]
theorem dtX10_cameTrue : dec_ok mX10_cameTrue.2.1 tX10_cameTrue = true := by decide +kernel
set_option maxHeartbeats 4000000 in
theorem c_X10_cameTrue {I : Wd} {w m : Int32} (hw : vp_in w 30) (hc : vp_in (I 54 w.toNatClampNeg) 64) : Cal SyC mX10_cameTrue 1 [.ref 0, .int w, .int m] I (some (.int (bi (cT (I 10) (I 54) (I 56) m w.toNatClampNeg)))) I := by
  refine Cal.of (by decide) (Nat.le_of_ble_eq_true rfl) ?_
  show Bd _ _ _ _ [(0, _), (1, _), (2, _)] _ _ _ _
  refine b_aload_n (pc := 0) (i := 0) (dd dtX10_cameTrue 0 rfl) rfl rfl ?_
  refine b_geta (pc := 1) (dd dtX10_cameTrue 1 rfl) fwX10_21 pC_0 rC_0_1 ?_
  refine b_geta (pc := 4) (dd dtX10_cameTrue 2 rfl) fwX10_318 pC_6 rC_6_8 ?_
  refine b_aload_n (pc := 7) (i := 0) (dd dtX10_cameTrue 3 rfl) rfl rfl ?_
  refine b_geta (pc := 8) (dd dtX10_cameTrue 4 rfl) fwX10_51 pC_0 rC_0_7 ?_
  refine b_geta (pc := 11) (dd dtX10_cameTrue 5 rfl) fwX10_385 pC_53 rC_53_1 ?_
  refine b_iload_n (pc := 14) (i := 1) (dd dtX10_cameTrue 6 rfl) rfl rfl ?_
  refine b_iald (pc := 15) (dd dtX10_cameTrue 7 rfl) pC_54 (hw) ?_
  refine b_iald (pc := 16) (dd dtX10_cameTrue 8 rfl) pC_10 (hc) ?_
  refine b_istore_n (pc := 17) (i := 3) (lv' := [(3, _), (0, _), (1, _), (2, _)]) (dd dtX10_cameTrue 9 rfl) rfl (Nat.le_of_ble_eq_true rfl) rfl ?_
  refine b_aload_n (pc := 18) (i := 0) (dd dtX10_cameTrue 10 rfl) rfl rfl ?_
  refine b_geta (pc := 19) (dd dtX10_cameTrue 11 rfl) fwX10_51 pC_0 rC_0_7 ?_
  refine b_geta (pc := 22) (dd dtX10_cameTrue 12 rfl) fwX10_372 pC_53 rC_53_3 ?_
  refine b_iload_n (pc := 25) (i := 1) (dd dtX10_cameTrue 13 rfl) rfl rfl ?_
  refine b_iald (pc := 26) (dd dtX10_cameTrue 14 rfl) pC_56 (hw) ?_
  refine b_istore (pc := 27) (i := 4) (lv' := [(4, _), (3, _), (0, _), (1, _), (2, _)]) (dd dtX10_cameTrue 15 rfl) (Nat.le_of_ble_eq_true rfl) rfl ?_
  refine b_iload_n (pc := 29) (i := 3) (dd dtX10_cameTrue 16 rfl) rfl rfl ?_
  refine b_if_lt (pc := 30) (tgt := 50) (dd dtX10_cameTrue 17 rfl) (by decide) (fun h30 => ?_) (fun h30 => ?_)
  · refine b_ic0 (pc := 50) (dd dtX10_cameTrue 27 rfl) ?_
    refine b_eq (b_zret (dd dtX10_cameTrue 28 rfl) rfl (by first | rfl | exact nar_bi)) ?_ ?_
    · simp [bi, cT, inR, -Int32.not_lt, -Int32.not_le, *]
    · rfl
  · refine b_iload_n (pc := 33) (i := 3) (dd dtX10_cameTrue 18 rfl) rfl rfl ?_
    refine b_iload (pc := 34) (i := 4) (dd dtX10_cameTrue 19 rfl) rfl ?_
    refine b_iload (pc := 36) (i := 4) (dd dtX10_cameTrue 20 rfl) rfl ?_
    refine b_iload_n (pc := 38) (i := 2) (dd dtX10_cameTrue 21 rfl) rfl rfl ?_
    refine b_iadd (pc := 39) (dd dtX10_cameTrue 22 rfl) ?_
    refine b_invS (pc := 40) (dd dtX10_cameTrue 23 rfl) mlX10_97 mvX10_within msX10_within (c_X10_within) rfl rfl (by decide) (Nat.le_of_ble_eq_true rfl) ?_
    refine b_ifb_eq (pc := 43) (tgt := 50) (dd dtX10_cameTrue 24 rfl) (by decide) (fun h43 => ?_) (fun h43 => ?_)
    · refine b_ic0 (pc := 50) (dd dtX10_cameTrue 27 rfl) ?_
      refine b_eq (b_zret (dd dtX10_cameTrue 28 rfl) rfl (by first | rfl | exact nar_bi)) ?_ ?_
      · simp [bi, cT, inR, -Int32.not_lt, -Int32.not_le, *]
      · rfl
    · refine b_ic1 (pc := 46) (dd dtX10_cameTrue 25 rfl) ?_
      refine b_goto (pc := 47) (tgt := 51) (dd dtX10_cameTrue 26 rfl) (by decide) ?_
      refine b_eq (b_zret (dd dtX10_cameTrue 28 rfl) rfl (by first | rfl | exact nar_bi)) ?_ ?_
      · simp [bi, cT, inR, -Int32.not_lt, -Int32.not_le, *]
      · rfl
def tX10_trueWarnings : List (Nat × Instr × Nat) := [(0, .iconst 0, 1), (1, .istore_n 2, 1), (2, .iconst 0, 1), (3, .istore_n 3, 1), (4, .iload_n 3, 1), (5, .aload_n 0, 1), (6, .getfield 51, 3), (9, .getfield 346, 3), (12, .if_icmp .ge 26, 3), (15, .iload_n 2, 1), (16, .aload_n 0, 1), (17, .iload_n 3, 1), (18, .iload_n 1, 1), (19, .invokevirtual 386, 3), (22, .ifCond .eq 7, 3), (25, .iconst 1, 1), (26, .goto 4, 3), (29, .iconst 0, 1), (30, .iadd, 1), (31, .istore_n 2, 1), (32, .iinc 3 1, 3), (35, .goto (-31), 3), (38, .iload_n 2, 1), (39, .ireturn, 1)]
theorem dtX10_trueWarnings : dec_ok mX10_trueWarnings.2.1 tX10_trueWarnings = true := by decide +kernel
set_option maxHeartbeats 4000000 in
theorem l_X10_trueWarnings {I : Wd} {Wn : Nat} {m : Int32} (hW : I 53 0 = nI Wn) (hW2 : Wn ≤ 30) (hWc : ∀ w, w < Wn → vp_in (I 54 w) 64) : ∀ (n h : Nat) (x3 : Int32) (x2 : Int32), h ≤ Wn → Wn < h + n → x3 = nI h → x2 = (sTw (I 10) (I 54) (I 56) m h) → Bd SyC mX10_trueWarnings 2 4 [(3, .int x3), (2, .int x2), (0, .ref 0), (1, .int m)] [] I (some (.int (sTw (I 10) (I 54) (I 56) m Wn))) I := by
  intro n
  induction n with
  | zero => intro h x3 x2 h1 h2; omega
  | succ n ih =>
    intro h x3 x2 h1 h2 e3 e2
    subst e3; subst e2
    refine b_iload_n (pc := 4) (i := 3) (dd dtX10_trueWarnings 4 rfl) rfl rfl ?_
    refine b_aload_n (pc := 5) (i := 0) (dd dtX10_trueWarnings 5 rfl) rfl rfl ?_
    refine b_geta (pc := 6) (dd dtX10_trueWarnings 6 rfl) fwX10_51 pC_0 rC_0_7 ?_
    refine b_geti (pc := 9) (dd dtX10_trueWarnings 7 rfl) fwX10_346 pC_53 ?_
    refine b_icmpL_ge (pc := 12) (tgt := 38) (dd dtX10_trueWarnings 8 rfl) (by decide) (fun h12 => ?_) (fun h12 => ?_)
    · rw [hW] at h12
      have he : h = Wn := Nat.le_antisymm h1 (ge_n h12 (by omega))
      subst he
      refine b_iload_n (pc := 38) (i := 2) (dd dtX10_trueWarnings 22 rfl) rfl rfl ?_
      exact b_eq (b_iret (dd dtX10_trueWarnings 23 rfl) rfl) rfl rfl
    · rw [hW] at h12
      have hlt : h < Wn := lt_n h12 (by omega) (by omega)
      refine b_iload_n (pc := 15) (i := 2) (dd dtX10_trueWarnings 9 rfl) rfl rfl ?_
      refine b_aload_n (pc := 16) (i := 0) (dd dtX10_trueWarnings 10 rfl) rfl rfl ?_
      refine b_iload_n (pc := 17) (i := 3) (dd dtX10_trueWarnings 11 rfl) rfl rfl ?_
      refine b_iload_n (pc := 18) (i := 1) (dd dtX10_trueWarnings 12 rfl) rfl rfl ?_
      refine b_invV (pc := 19) (dd dtX10_trueWarnings 13 rfl) mlX10_386 mvX10_cameTrue miX10_cameTrue (c_X10_cameTrue (vpn rfl (show h < 30 by omega) (by decide)) (by rw [nI_clamp (show h < 2 ^ 31 by omega)]; exact hWc h hlt)) oC_0 rfl rfl (by decide) (Nat.le_of_ble_eq_true rfl) ?_
      refine b_ifb_eq (pc := 22) (tgt := 29) (dd dtX10_trueWarnings 14 rfl) (by decide) (fun h22 => ?_) (fun h22 => ?_)
      · refine b_ic0 (pc := 29) (dd dtX10_trueWarnings 17 rfl) ?_
        refine b_iadd (pc := 30) (dd dtX10_trueWarnings 18 rfl) ?_
        refine b_istore_n (pc := 31) (i := 2) (lv' := [(2, _), (3, _), (0, _), (1, _)]) (dd dtX10_trueWarnings 19 rfl) rfl (Nat.le_of_ble_eq_true rfl) rfl ?_
        refine b_iinc1 (pc := 32) (i := 3) (lv' := [(3, _), (2, _), (0, _), (1, _)]) (dd dtX10_trueWarnings 20 rfl) rfl (Nat.le_of_ble_eq_true rfl) rfl ?_
        refine b_goto (pc := 35) (tgt := 4) (dd dtX10_trueWarnings 21 rfl) (by decide) ?_
        rw [nI_1]
        refine ih (h + 1) _ _ hlt (by omega) rfl ?_
        · try simp only [nI_clamp (show h < 2 ^ 31 by omega)] at h22
          simp [sTw, *]
      · refine b_ic1 (pc := 25) (dd dtX10_trueWarnings 15 rfl) ?_
        refine b_goto (pc := 26) (tgt := 30) (dd dtX10_trueWarnings 16 rfl) (by decide) ?_
        refine b_iadd (pc := 30) (dd dtX10_trueWarnings 18 rfl) ?_
        refine b_istore_n (pc := 31) (i := 2) (lv' := [(2, _), (3, _), (0, _), (1, _)]) (dd dtX10_trueWarnings 19 rfl) rfl (Nat.le_of_ble_eq_true rfl) rfl ?_
        refine b_iinc1 (pc := 32) (i := 3) (lv' := [(3, _), (2, _), (0, _), (1, _)]) (dd dtX10_trueWarnings 20 rfl) rfl (Nat.le_of_ble_eq_true rfl) rfl ?_
        refine b_goto (pc := 35) (tgt := 4) (dd dtX10_trueWarnings 21 rfl) (by decide) ?_
        rw [nI_1]
        refine ih (h + 1) _ _ hlt (by omega) rfl ?_
        · try simp only [nI_clamp (show h < 2 ^ 31 by omega)] at h22
          simp [sTw, *]
set_option maxHeartbeats 4000000 in
theorem c_X10_trueWarnings {I : Wd} {Wn : Nat} {m : Int32} (hW : I 53 0 = nI Wn) (hW2 : Wn ≤ 30) (hWc : ∀ w, w < Wn → vp_in (I 54 w) 64) : Cal SyC mX10_trueWarnings 2 [.ref 0, .int m] I (some (.int (sTw (I 10) (I 54) (I 56) m Wn))) I := by
  refine Cal.of (by decide) (Nat.le_of_ble_eq_true rfl) ?_
  show Bd _ _ _ _ [(0, _), (1, _)] _ _ _ _
  refine b_ic0 (pc := 0) (dd dtX10_trueWarnings 0 rfl) ?_
  refine b_istore_n (pc := 1) (i := 2) (lv' := [(2, _), (0, _), (1, _)]) (dd dtX10_trueWarnings 1 rfl) rfl (Nat.le_of_ble_eq_true rfl) rfl ?_
  refine b_ic0 (pc := 2) (dd dtX10_trueWarnings 2 rfl) ?_
  refine b_istore_n (pc := 3) (i := 3) (lv' := [(3, _), (2, _), (0, _), (1, _)]) (dd dtX10_trueWarnings 3 rfl) rfl (Nat.le_of_ble_eq_true rfl) rfl ?_
  exact l_X10_trueWarnings hW hW2 hWc (Wn + 1) 0 _ _ (Nat.zero_le _) (by omega) rfl rfl
def tX10_oldWarnings : List (Nat × Instr × Nat) := [(0, .iconst 0, 1), (1, .istore_n 2, 1), (2, .iconst 0, 1), (3, .istore_n 3, 1), (4, .iload_n 3, 1), (5, .aload_n 0, 1), (6, .getfield 51, 3), (9, .getfield 346, 3), (12, .if_icmp .ge 59, 3), (15, .aload_n 0, 1), (16, .getfield 21, 3), (19, .getfield 150, 3), (22, .aload_n 0, 1), (23, .getfield 51, 3), (26, .getfield 372, 3), (29, .iload_n 3, 1), (30, .iaload, 1), (31, .isub, 1), (32, .iload_n 1, 1), (33, .if_icmp .le 7, 3), (36, .iconst 1, 1), (37, .goto 4, 3), (40, .iconst 0, 1), (41, .istore 4, 2), (43, .iload_n 2, 1), (44, .iload 4, 2), (46, .ifCond .eq 16, 3), (49, .aload_n 0, 1), (50, .iload_n 3, 1), (51, .iload_n 1, 1), (52, .invokevirtual 386, 3), (55, .ifCond .ne 7, 3), (58, .iconst 1, 1), (59, .goto 4, 3), (62, .iconst 0, 1), (63, .iadd, 1), (64, .istore_n 2, 1), (65, .iinc 3 1, 3), (68, .goto (-64), 3), (71, .iload_n 2, 1), (72, .ireturn, 1)]
theorem dtX10_oldWarnings : dec_ok mX10_oldWarnings.2.1 tX10_oldWarnings = true := by decide +kernel
set_option maxHeartbeats 4000000 in
theorem l_X10_oldWarnings {I : Wd} {Wn : Nat} {m : Int32} (hW : I 53 0 = nI Wn) (hW2 : Wn ≤ 30) (hWc : ∀ w, w < Wn → vp_in (I 54 w) 64) : ∀ (n h : Nat) (x3 : Int32) (x2 : Int32), h ≤ Wn → Wn < h + n → x3 = nI h → x2 = (sOw (I 10) (I 54) (I 56) (I 6 1) m h) → Bd SyC mX10_oldWarnings 2 4 [(3, .int x3), (2, .int x2), (0, .ref 0), (1, .int m)] [] I (some (.int (sOw (I 10) (I 54) (I 56) (I 6 1) m Wn))) I := by
  intro n
  induction n with
  | zero => intro h x3 x2 h1 h2; omega
  | succ n ih =>
    intro h x3 x2 h1 h2 e3 e2
    subst e3; subst e2
    refine b_iload_n (pc := 4) (i := 3) (dd dtX10_oldWarnings 4 rfl) rfl rfl ?_
    refine b_aload_n (pc := 5) (i := 0) (dd dtX10_oldWarnings 5 rfl) rfl rfl ?_
    refine b_geta (pc := 6) (dd dtX10_oldWarnings 6 rfl) fwX10_51 pC_0 rC_0_7 ?_
    refine b_geti (pc := 9) (dd dtX10_oldWarnings 7 rfl) fwX10_346 pC_53 ?_
    refine b_icmpL_ge (pc := 12) (tgt := 71) (dd dtX10_oldWarnings 8 rfl) (by decide) (fun h12 => ?_) (fun h12 => ?_)
    · rw [hW] at h12
      have he : h = Wn := Nat.le_antisymm h1 (ge_n h12 (by omega))
      subst he
      refine b_iload_n (pc := 71) (i := 2) (dd dtX10_oldWarnings 39 rfl) rfl rfl ?_
      exact b_eq (b_iret (dd dtX10_oldWarnings 40 rfl) rfl) rfl rfl
    · rw [hW] at h12
      have hlt : h < Wn := lt_n h12 (by omega) (by omega)
      refine b_aload_n (pc := 15) (i := 0) (dd dtX10_oldWarnings 9 rfl) rfl rfl ?_
      refine b_geta (pc := 16) (dd dtX10_oldWarnings 10 rfl) fwX10_21 pC_0 rC_0_1 ?_
      refine b_geti (pc := 19) (dd dtX10_oldWarnings 11 rfl) fwX10_150 pC_6 ?_
      refine b_aload_n (pc := 22) (i := 0) (dd dtX10_oldWarnings 12 rfl) rfl rfl ?_
      refine b_geta (pc := 23) (dd dtX10_oldWarnings 13 rfl) fwX10_51 pC_0 rC_0_7 ?_
      refine b_geta (pc := 26) (dd dtX10_oldWarnings 14 rfl) fwX10_372 pC_53 rC_53_3 ?_
      refine b_iload_n (pc := 29) (i := 3) (dd dtX10_oldWarnings 15 rfl) rfl rfl ?_
      refine b_iald (pc := 30) (dd dtX10_oldWarnings 16 rfl) pC_56 (vpn rfl (show h < 30 by omega) (by decide)) ?_
      refine b_isub (pc := 31) (dd dtX10_oldWarnings 17 rfl) ?_
      refine b_iload_n (pc := 32) (i := 1) (dd dtX10_oldWarnings 18 rfl) rfl rfl ?_
      refine b_icmpL_le (pc := 33) (tgt := 40) (dd dtX10_oldWarnings 19 rfl) (by decide) (fun h33 => ?_) (fun h33 => ?_)
      · refine b_ic0 (pc := 40) (dd dtX10_oldWarnings 22 rfl) ?_
        refine b_istore (pc := 41) (i := 4) (lv' := [(4, _), (3, _), (2, _), (0, _), (1, _)]) (dd dtX10_oldWarnings 23 rfl) (Nat.le_of_ble_eq_true rfl) rfl ?_
        refine b_iload_n (pc := 43) (i := 2) (dd dtX10_oldWarnings 24 rfl) rfl rfl ?_
        refine b_iload (pc := 44) (i := 4) (dd dtX10_oldWarnings 25 rfl) rfl ?_
        refine b_if_eq (pc := 46) (tgt := 62) (dd dtX10_oldWarnings 26 rfl) (by decide) (fun h46 => ?_) (fun h46 => absurd h46 (by decide))
        refine b_ic0 (pc := 62) (dd dtX10_oldWarnings 34 rfl) ?_
        refine b_iadd (pc := 63) (dd dtX10_oldWarnings 35 rfl) ?_
        refine b_istore_n (pc := 64) (i := 2) (lv' := [(2, _), (4, _), (3, _), (0, _), (1, _)]) (dd dtX10_oldWarnings 36 rfl) rfl (Nat.le_of_ble_eq_true rfl) rfl ?_
        refine b_iinc1 (pc := 65) (i := 3) (lv' := [(3, _), (2, _), (4, _), (0, _), (1, _)]) (dd dtX10_oldWarnings 37 rfl) rfl (Nat.le_of_ble_eq_true rfl) rfl ?_
        refine b_goto (pc := 68) (tgt := 4) (dd dtX10_oldWarnings 38 rfl) (by decide) ?_
        refine b_pick [0, 1, 3, 4] (lv' := [(3, _), (2, _), (0, _), (1, _)]) rfl ?_
        rw [nI_1]
        refine ih (h + 1) _ _ hlt (by omega) rfl ?_
        · try simp only [nI_clamp (show h < 2 ^ 31 by omega)] at h33
          try simp only [nI_clamp (show h < 2 ^ 31 by omega)] at h55
          simp [sOw, -Int32.not_lt, -Int32.not_le, *]
      · refine b_ic1 (pc := 36) (dd dtX10_oldWarnings 20 rfl) ?_
        refine b_goto (pc := 37) (tgt := 41) (dd dtX10_oldWarnings 21 rfl) (by decide) ?_
        refine b_istore (pc := 41) (i := 4) (lv' := [(4, _), (3, _), (2, _), (0, _), (1, _)]) (dd dtX10_oldWarnings 23 rfl) (Nat.le_of_ble_eq_true rfl) rfl ?_
        refine b_iload_n (pc := 43) (i := 2) (dd dtX10_oldWarnings 24 rfl) rfl rfl ?_
        refine b_iload (pc := 44) (i := 4) (dd dtX10_oldWarnings 25 rfl) rfl ?_
        refine b_if_eq (pc := 46) (tgt := 62) (dd dtX10_oldWarnings 26 rfl) (by decide) (fun h46 => absurd h46 (by decide)) (fun h46 => ?_)
        refine b_aload_n (pc := 49) (i := 0) (dd dtX10_oldWarnings 27 rfl) rfl rfl ?_
        refine b_iload_n (pc := 50) (i := 3) (dd dtX10_oldWarnings 28 rfl) rfl rfl ?_
        refine b_iload_n (pc := 51) (i := 1) (dd dtX10_oldWarnings 29 rfl) rfl rfl ?_
        refine b_invV (pc := 52) (dd dtX10_oldWarnings 30 rfl) mlX10_386 mvX10_cameTrue miX10_cameTrue (c_X10_cameTrue (vpn rfl (show h < 30 by omega) (by decide)) (by rw [nI_clamp (show h < 2 ^ 31 by omega)]; exact hWc h hlt)) oC_0 rfl rfl (by decide) (Nat.le_of_ble_eq_true rfl) ?_
        refine b_ifb_ne (pc := 55) (tgt := 62) (dd dtX10_oldWarnings 31 rfl) (by decide) (fun h55 => ?_) (fun h55 => ?_)
        · refine b_ic0 (pc := 62) (dd dtX10_oldWarnings 34 rfl) ?_
          refine b_iadd (pc := 63) (dd dtX10_oldWarnings 35 rfl) ?_
          refine b_istore_n (pc := 64) (i := 2) (lv' := [(2, _), (4, _), (3, _), (0, _), (1, _)]) (dd dtX10_oldWarnings 36 rfl) rfl (Nat.le_of_ble_eq_true rfl) rfl ?_
          refine b_iinc1 (pc := 65) (i := 3) (lv' := [(3, _), (2, _), (4, _), (0, _), (1, _)]) (dd dtX10_oldWarnings 37 rfl) rfl (Nat.le_of_ble_eq_true rfl) rfl ?_
          refine b_goto (pc := 68) (tgt := 4) (dd dtX10_oldWarnings 38 rfl) (by decide) ?_
          refine b_pick [0, 1, 3, 4] (lv' := [(3, _), (2, _), (0, _), (1, _)]) rfl ?_
          rw [nI_1]
          refine ih (h + 1) _ _ hlt (by omega) rfl ?_
          · try simp only [nI_clamp (show h < 2 ^ 31 by omega)] at h33
            try simp only [nI_clamp (show h < 2 ^ 31 by omega)] at h55
            simp [sOw, -Int32.not_lt, -Int32.not_le, *]
        · refine b_ic1 (pc := 58) (dd dtX10_oldWarnings 32 rfl) ?_
          refine b_goto (pc := 59) (tgt := 63) (dd dtX10_oldWarnings 33 rfl) (by decide) ?_
          refine b_iadd (pc := 63) (dd dtX10_oldWarnings 35 rfl) ?_
          refine b_istore_n (pc := 64) (i := 2) (lv' := [(2, _), (4, _), (3, _), (0, _), (1, _)]) (dd dtX10_oldWarnings 36 rfl) rfl (Nat.le_of_ble_eq_true rfl) rfl ?_
          refine b_iinc1 (pc := 65) (i := 3) (lv' := [(3, _), (2, _), (4, _), (0, _), (1, _)]) (dd dtX10_oldWarnings 37 rfl) rfl (Nat.le_of_ble_eq_true rfl) rfl ?_
          refine b_goto (pc := 68) (tgt := 4) (dd dtX10_oldWarnings 38 rfl) (by decide) ?_
          refine b_pick [0, 1, 3, 4] (lv' := [(3, _), (2, _), (0, _), (1, _)]) rfl ?_
          rw [nI_1]
          refine ih (h + 1) _ _ hlt (by omega) rfl ?_
          · try simp only [nI_clamp (show h < 2 ^ 31 by omega)] at h33
            try simp only [nI_clamp (show h < 2 ^ 31 by omega)] at h55
            simp [sOw, -Int32.not_lt, -Int32.not_le, *]
set_option maxHeartbeats 4000000 in
theorem c_X10_oldWarnings {I : Wd} {Wn : Nat} {m : Int32} (hW : I 53 0 = nI Wn) (hW2 : Wn ≤ 30) (hWc : ∀ w, w < Wn → vp_in (I 54 w) 64) : Cal SyC mX10_oldWarnings 2 [.ref 0, .int m] I (some (.int (sOw (I 10) (I 54) (I 56) (I 6 1) m Wn))) I := by
  refine Cal.of (by decide) (Nat.le_of_ble_eq_true rfl) ?_
  show Bd _ _ _ _ [(0, _), (1, _)] _ _ _ _
  refine b_ic0 (pc := 0) (dd dtX10_oldWarnings 0 rfl) ?_
  refine b_istore_n (pc := 1) (i := 2) (lv' := [(2, _), (0, _), (1, _)]) (dd dtX10_oldWarnings 1 rfl) rfl (Nat.le_of_ble_eq_true rfl) rfl ?_
  refine b_ic0 (pc := 2) (dd dtX10_oldWarnings 2 rfl) ?_
  refine b_istore_n (pc := 3) (i := 3) (lv' := [(3, _), (2, _), (0, _), (1, _)]) (dd dtX10_oldWarnings 3 rfl) rfl (Nat.le_of_ble_eq_true rfl) rfl ?_
  exact l_X10_oldWarnings hW hW2 hWc (Wn + 1) 0 _ _ (Nat.zero_le _) (by omega) rfl rfl
/-- the machine's way of counting bits -/
def us (x : Int64) (k : Int32) : Int64 := (x.toUInt64 >>> (k.toInt64.toUInt64 &&& Int64.toUInt64 63)).toInt64
def bc1 (x : Int64) : Int64 := x - (us x 1 &&& 6148914691236517205)
def bc2 (x : Int64) : Int64 := (x &&& 3689348814741910323) + (us x 2 &&& 3689348814741910323)
def bc3 (x : Int64) : Int64 := (x + us x 4) &&& 1085102592571150095
def bc4 (x : Int64) : Int64 := x + us x 8
def bc5 (x : Int64) : Int64 := x + us x 16
def bc6 (x : Int64) : Int64 := x + us x 32
def bcI (x : Int64) : Int32 := (bc6 (bc5 (bc4 (bc3 (bc2 (bc1 x)))))).toInt32 &&& 127
def tJ13_bitCount_95d88 : List (Nat × Instr × Nat) := [(0, .lload_n 0, 1), (1, .lload_n 0, 1), (2, .iconst 1, 1), (3, .lushr, 1), (4, .ldc2_w 314, 3), (7, .land, 1), (8, .lsub, 1), (9, .lstore_n 0, 1), (10, .lload_n 0, 1), (11, .ldc2_w 316, 3), (14, .land, 1), (15, .lload_n 0, 1), (16, .iconst 2, 1), (17, .lushr, 1), (18, .ldc2_w 316, 3), (21, .land, 1), (22, .ladd, 1), (23, .lstore_n 0, 1), (24, .lload_n 0, 1), (25, .lload_n 0, 1), (26, .iconst 4, 1), (27, .lushr, 1), (28, .ladd, 1), (29, .ldc2_w 318, 3), (32, .land, 1), (33, .lstore_n 0, 1), (34, .lload_n 0, 1), (35, .lload_n 0, 1), (36, .bipush 8, 2), (38, .lushr, 1), (39, .ladd, 1), (40, .lstore_n 0, 1), (41, .lload_n 0, 1), (42, .lload_n 0, 1), (43, .bipush 16, 2), (45, .lushr, 1), (46, .ladd, 1), (47, .lstore_n 0, 1), (48, .lload_n 0, 1), (49, .lload_n 0, 1), (50, .bipush 32, 2), (52, .lushr, 1), (53, .ladd, 1), (54, .lstore_n 0, 1), (55, .lload_n 0, 1), (56, .l2i, 1), (57, .bipush 127, 2), (59, .iand, 1), (60, .ireturn, 1)]
theorem dtJ13_bitCount_95d88 : dec_ok mJ13_bitCount_95d88.2.1 tJ13_bitCount_95d88 = true := by decide +kernel
set_option maxHeartbeats 4000000 in
theorem c_J13_bitCount_95d88 {S : Sy} {I : Wd} {x : Int64} : Cal S mJ13_bitCount_95d88 0 [.long x] I (some (.int (bcI x))) I := by
  refine Cal.of (by decide) (Nat.le_of_ble_eq_true rfl) ?_
  show Bd _ _ _ _ [(0, _)] _ _ _ _
  refine b_lload_n (pc := 0) (i := 0) (dd dtJ13_bitCount_95d88 0 rfl) rfl rfl ?_
  refine b_lload_n (pc := 1) (i := 0) (dd dtJ13_bitCount_95d88 1 rfl) rfl rfl ?_
  refine b_ic1 (pc := 2) (dd dtJ13_bitCount_95d88 2 rfl) ?_
  refine b_lushr (pc := 3) (dd dtJ13_bitCount_95d88 3 rfl) ?_
  refine b_ldc2 (pc := 4) (dd dtJ13_bitCount_95d88 4 rfl) kcJ13_314 ?_
  refine b_land (pc := 7) (dd dtJ13_bitCount_95d88 5 rfl) ?_
  refine b_lsub (pc := 8) (dd dtJ13_bitCount_95d88 6 rfl) ?_
  refine b_lstore_n (pc := 9) (i := 0) (lv' := [(0, _)]) (dd dtJ13_bitCount_95d88 7 rfl) rfl ⟨Nat.le_of_ble_eq_true rfl, Nat.le_of_ble_eq_true rfl⟩ rfl ?_
  refine b_lload_n (pc := 10) (i := 0) (dd dtJ13_bitCount_95d88 8 rfl) rfl rfl ?_
  refine b_ldc2 (pc := 11) (dd dtJ13_bitCount_95d88 9 rfl) kcJ13_316 ?_
  refine b_land (pc := 14) (dd dtJ13_bitCount_95d88 10 rfl) ?_
  refine b_lload_n (pc := 15) (i := 0) (dd dtJ13_bitCount_95d88 11 rfl) rfl rfl ?_
  refine b_ic2 (pc := 16) (dd dtJ13_bitCount_95d88 12 rfl) ?_
  refine b_lushr (pc := 17) (dd dtJ13_bitCount_95d88 13 rfl) ?_
  refine b_ldc2 (pc := 18) (dd dtJ13_bitCount_95d88 14 rfl) kcJ13_316 ?_
  refine b_land (pc := 21) (dd dtJ13_bitCount_95d88 15 rfl) ?_
  refine b_ladd (pc := 22) (dd dtJ13_bitCount_95d88 16 rfl) ?_
  refine b_lstore_n (pc := 23) (i := 0) (lv' := [(0, _)]) (dd dtJ13_bitCount_95d88 17 rfl) rfl ⟨Nat.le_of_ble_eq_true rfl, Nat.le_of_ble_eq_true rfl⟩ rfl ?_
  refine b_lload_n (pc := 24) (i := 0) (dd dtJ13_bitCount_95d88 18 rfl) rfl rfl ?_
  refine b_lload_n (pc := 25) (i := 0) (dd dtJ13_bitCount_95d88 19 rfl) rfl rfl ?_
  refine b_ic4 (pc := 26) (dd dtJ13_bitCount_95d88 20 rfl) ?_
  refine b_lushr (pc := 27) (dd dtJ13_bitCount_95d88 21 rfl) ?_
  refine b_ladd (pc := 28) (dd dtJ13_bitCount_95d88 22 rfl) ?_
  refine b_ldc2 (pc := 29) (dd dtJ13_bitCount_95d88 23 rfl) kcJ13_318 ?_
  refine b_land (pc := 32) (dd dtJ13_bitCount_95d88 24 rfl) ?_
  refine b_lstore_n (pc := 33) (i := 0) (lv' := [(0, _)]) (dd dtJ13_bitCount_95d88 25 rfl) rfl ⟨Nat.le_of_ble_eq_true rfl, Nat.le_of_ble_eq_true rfl⟩ rfl ?_
  refine b_lload_n (pc := 34) (i := 0) (dd dtJ13_bitCount_95d88 26 rfl) rfl rfl ?_
  refine b_lload_n (pc := 35) (i := 0) (dd dtJ13_bitCount_95d88 27 rfl) rfl rfl ?_
  refine b_bipush (pc := 36) (v := 8) (dd dtJ13_bitCount_95d88 28 rfl) (by decide) ?_
  refine b_lushr (pc := 38) (dd dtJ13_bitCount_95d88 29 rfl) ?_
  refine b_ladd (pc := 39) (dd dtJ13_bitCount_95d88 30 rfl) ?_
  refine b_lstore_n (pc := 40) (i := 0) (lv' := [(0, _)]) (dd dtJ13_bitCount_95d88 31 rfl) rfl ⟨Nat.le_of_ble_eq_true rfl, Nat.le_of_ble_eq_true rfl⟩ rfl ?_
  refine b_lload_n (pc := 41) (i := 0) (dd dtJ13_bitCount_95d88 32 rfl) rfl rfl ?_
  refine b_lload_n (pc := 42) (i := 0) (dd dtJ13_bitCount_95d88 33 rfl) rfl rfl ?_
  refine b_bipush (pc := 43) (v := 16) (dd dtJ13_bitCount_95d88 34 rfl) (by decide) ?_
  refine b_lushr (pc := 45) (dd dtJ13_bitCount_95d88 35 rfl) ?_
  refine b_ladd (pc := 46) (dd dtJ13_bitCount_95d88 36 rfl) ?_
  refine b_lstore_n (pc := 47) (i := 0) (lv' := [(0, _)]) (dd dtJ13_bitCount_95d88 37 rfl) rfl ⟨Nat.le_of_ble_eq_true rfl, Nat.le_of_ble_eq_true rfl⟩ rfl ?_
  refine b_lload_n (pc := 48) (i := 0) (dd dtJ13_bitCount_95d88 38 rfl) rfl rfl ?_
  refine b_lload_n (pc := 49) (i := 0) (dd dtJ13_bitCount_95d88 39 rfl) rfl rfl ?_
  refine b_bipush (pc := 50) (v := 32) (dd dtJ13_bitCount_95d88 40 rfl) (by decide) ?_
  refine b_lushr (pc := 52) (dd dtJ13_bitCount_95d88 41 rfl) ?_
  refine b_ladd (pc := 53) (dd dtJ13_bitCount_95d88 42 rfl) ?_
  refine b_lstore_n (pc := 54) (i := 0) (lv' := [(0, _)]) (dd dtJ13_bitCount_95d88 43 rfl) rfl ⟨Nat.le_of_ble_eq_true rfl, Nat.le_of_ble_eq_true rfl⟩ rfl ?_
  refine b_lload_n (pc := 55) (i := 0) (dd dtJ13_bitCount_95d88 44 rfl) rfl rfl ?_
  refine b_l2i (pc := 56) (dd dtJ13_bitCount_95d88 45 rfl) ?_
  refine b_bipush (pc := 57) (v := 127) (dd dtJ13_bitCount_95d88 46 rfl) (by decide) ?_
  refine b_iand (pc := 59) (dd dtJ13_bitCount_95d88 47 rfl) ?_
  refine b_eq (b_iret (dd dtJ13_bitCount_95d88 48 rfl) rfl) ?_ ?_
  · rfl
  · rfl
def tX10_missedCells : List (Nat × Instr × Nat) := [(0, .lconst 0, 1), (1, .lstore_n 2, 1), (2, .iconst 0, 1), (3, .istore 4, 2), (5, .iload 4, 2), (7, .aload_n 0, 1), (8, .getfield 51, 3), (11, .getfield 346, 3), (14, .if_icmp .ge 34, 3), (17, .aload_n 0, 1), (18, .iload 4, 2), (20, .iload_n 1, 1), (21, .invokevirtual 386, 3), (24, .ifCond .eq 18, 3), (27, .lload_n 2, 1), (28, .lconst 1, 1), (29, .aload_n 0, 1), (30, .getfield 51, 3), (33, .getfield 385, 3), (36, .iload 4, 2), (38, .iaload, 1), (39, .lshl, 1), (40, .lor, 1), (41, .lstore_n 2, 1), (42, .iinc 4 1, 3), (45, .goto (-40), 3), (48, .aload_n 0, 1), (49, .getfield 21, 3), (52, .getfield 328, 3), (55, .lload_n 2, 1), (56, .invokestatic 389, 3), (59, .isub, 1), (60, .ireturn, 1)]
theorem dtX10_missedCells : dec_ok mX10_missedCells.2.1 tX10_missedCells = true := by decide +kernel
set_option maxHeartbeats 4000000 in
theorem l_X10_missedCells {I : Wd} {Wn : Nat} {m : Int32} (hW : I 53 0 = nI Wn) (hW2 : Wn ≤ 30) (hWc : ∀ w, w < Wn → vp_in (I 54 w) 64) : ∀ (n h : Nat) (x4 : Int32) (x2 : Int64), h ≤ Wn → Wn < h + n → x4 = nI h → x2 = (sMs (I 10) (I 54) (I 56) m h) → Bd SyC mX10_missedCells 2 5 [(4, .int x4), (2, .long x2), (0, .ref 0), (1, .int m)] [] I (some (.int (I 6 3 - bcI (sMs (I 10) (I 54) (I 56) m Wn)))) I := by
  intro n
  induction n with
  | zero => intro h x4 x2 h1 h2; omega
  | succ n ih =>
    intro h x4 x2 h1 h2 e4 e2
    subst e4; subst e2
    refine b_iload (pc := 5) (i := 4) (dd dtX10_missedCells 4 rfl) rfl ?_
    refine b_aload_n (pc := 7) (i := 0) (dd dtX10_missedCells 5 rfl) rfl rfl ?_
    refine b_geta (pc := 8) (dd dtX10_missedCells 6 rfl) fwX10_51 pC_0 rC_0_7 ?_
    refine b_geti (pc := 11) (dd dtX10_missedCells 7 rfl) fwX10_346 pC_53 ?_
    refine b_icmpL_ge (pc := 14) (tgt := 48) (dd dtX10_missedCells 8 rfl) (by decide) (fun h14 => ?_) (fun h14 => ?_)
    · rw [hW] at h14
      have he : h = Wn := Nat.le_antisymm h1 (ge_n h14 (by omega))
      subst he
      refine b_aload_n (pc := 48) (i := 0) (dd dtX10_missedCells 26 rfl) rfl rfl ?_
      refine b_geta (pc := 49) (dd dtX10_missedCells 27 rfl) fwX10_21 pC_0 rC_0_1 ?_
      refine b_geti (pc := 52) (dd dtX10_missedCells 28 rfl) fwX10_328 pC_6 ?_
      refine b_lload_n (pc := 55) (i := 2) (dd dtX10_missedCells 29 rfl) rfl rfl ?_
      refine b_invS (pc := 56) (dd dtX10_missedCells 30 rfl) mlX10_389 mvJ13_bitCount_95d88 msJ13_bitCount_95d88 (c_J13_bitCount_95d88) rfl rfl (by decide) (Nat.le_of_ble_eq_true rfl) ?_
      refine b_isub (pc := 59) (dd dtX10_missedCells 31 rfl) ?_
      exact b_eq (b_iret (dd dtX10_missedCells 32 rfl) rfl) rfl rfl
    · rw [hW] at h14
      have hlt : h < Wn := lt_n h14 (by omega) (by omega)
      refine b_aload_n (pc := 17) (i := 0) (dd dtX10_missedCells 9 rfl) rfl rfl ?_
      refine b_iload (pc := 18) (i := 4) (dd dtX10_missedCells 10 rfl) rfl ?_
      refine b_iload_n (pc := 20) (i := 1) (dd dtX10_missedCells 11 rfl) rfl rfl ?_
      refine b_invV (pc := 21) (dd dtX10_missedCells 12 rfl) mlX10_386 mvX10_cameTrue miX10_cameTrue (c_X10_cameTrue (vpn rfl (show h < 30 by omega) (by decide)) (by rw [nI_clamp (show h < 2 ^ 31 by omega)]; exact hWc h hlt)) oC_0 rfl rfl (by decide) (Nat.le_of_ble_eq_true rfl) ?_
      refine b_ifb_eq (pc := 24) (tgt := 42) (dd dtX10_missedCells 13 rfl) (by decide) (fun h24 => ?_) (fun h24 => ?_)
      · refine b_iinc1 (pc := 42) (i := 4) (lv' := [(4, _), (2, _), (0, _), (1, _)]) (dd dtX10_missedCells 24 rfl) rfl (Nat.le_of_ble_eq_true rfl) rfl ?_
        refine b_goto (pc := 45) (tgt := 5) (dd dtX10_missedCells 25 rfl) (by decide) ?_
        rw [nI_1]
        refine ih (h + 1) _ _ hlt (by omega) rfl ?_
        · try simp only [nI_clamp (show h < 2 ^ 31 by omega)] at h24
          try simp only [nI_clamp (show h < 2 ^ 31 by omega)]
          simp only [sMs]
          first | rw [if_pos h24] | rw [if_neg h24]
      · refine b_lload_n (pc := 27) (i := 2) (dd dtX10_missedCells 14 rfl) rfl rfl ?_
        refine b_lconst (pc := 28) (v := 1) (dd dtX10_missedCells 15 rfl) (by decide) ?_
        refine b_aload_n (pc := 29) (i := 0) (dd dtX10_missedCells 16 rfl) rfl rfl ?_
        refine b_geta (pc := 30) (dd dtX10_missedCells 17 rfl) fwX10_51 pC_0 rC_0_7 ?_
        refine b_geta (pc := 33) (dd dtX10_missedCells 18 rfl) fwX10_385 pC_53 rC_53_1 ?_
        refine b_iload (pc := 36) (i := 4) (dd dtX10_missedCells 19 rfl) rfl ?_
        refine b_iald (pc := 38) (dd dtX10_missedCells 20 rfl) pC_54 (vpn rfl (show h < 30 by omega) (by decide)) ?_
        refine b_lshl (pc := 39) (dd dtX10_missedCells 21 rfl) ?_
        refine b_lor (pc := 40) (dd dtX10_missedCells 22 rfl) ?_
        refine b_lstore_n (pc := 41) (i := 2) (lv' := [(2, _), (4, _), (0, _), (1, _)]) (dd dtX10_missedCells 23 rfl) rfl ⟨Nat.le_of_ble_eq_true rfl, Nat.le_of_ble_eq_true rfl⟩ rfl ?_
        refine b_iinc1 (pc := 42) (i := 4) (lv' := [(4, _), (2, _), (0, _), (1, _)]) (dd dtX10_missedCells 24 rfl) rfl (Nat.le_of_ble_eq_true rfl) rfl ?_
        refine b_goto (pc := 45) (tgt := 5) (dd dtX10_missedCells 25 rfl) (by decide) ?_
        rw [nI_1]
        refine ih (h + 1) _ _ hlt (by omega) rfl ?_
        · try simp only [nI_clamp (show h < 2 ^ 31 by omega)] at h24
          try simp only [nI_clamp (show h < 2 ^ 31 by omega)]
          simp only [sMs]
          first | rw [if_pos h24] | rw [if_neg h24]
set_option maxHeartbeats 4000000 in
theorem c_X10_missedCells {I : Wd} {Wn : Nat} {m : Int32} (hW : I 53 0 = nI Wn) (hW2 : Wn ≤ 30) (hWc : ∀ w, w < Wn → vp_in (I 54 w) 64) : Cal SyC mX10_missedCells 2 [.ref 0, .int m] I (some (.int (I 6 3 - bcI (sMs (I 10) (I 54) (I 56) m Wn)))) I := by
  refine Cal.of (by decide) (Nat.le_of_ble_eq_true rfl) ?_
  show Bd _ _ _ _ [(0, _), (1, _)] _ _ _ _
  refine b_lconst (pc := 0) (v := 0) (dd dtX10_missedCells 0 rfl) (by decide) ?_
  refine b_lstore_n (pc := 1) (i := 2) (lv' := [(2, _), (0, _), (1, _)]) (dd dtX10_missedCells 1 rfl) rfl ⟨Nat.le_of_ble_eq_true rfl, Nat.le_of_ble_eq_true rfl⟩ rfl ?_
  refine b_ic0 (pc := 2) (dd dtX10_missedCells 2 rfl) ?_
  refine b_istore (pc := 3) (i := 4) (lv' := [(4, _), (2, _), (0, _), (1, _)]) (dd dtX10_missedCells 3 rfl) (Nat.le_of_ble_eq_true rfl) rfl ?_
  exact l_X10_missedCells hW hW2 hWc (Wn + 1) 0 _ _ (Nat.zero_le _) (by omega) rfl rfl
def vWarned (t mi old m what : Int32) : Int32 := if inR m 1 60 then (if what = 0 then t else if what = 1 then mi else if what = 2 then old else -2) else -2
def tX10_warned : List (Nat × Instr × Nat) := [(0, .iload_n 1, 1), (1, .iconst 1, 1), (2, .bipush 60, 2), (4, .invokestatic 97, 3), (7, .ifCond .ne 6, 3), (10, .bipush (-2), 2), (12, .ireturn, 1), (13, .iload_n 2, 1), (14, .tableswitch 44 0 2 #[26, 32, 38], 26), (40, .aload_n 0, 1), (41, .iload_n 1, 1), (42, .invokevirtual 306, 3), (45, .ireturn, 1), (46, .aload_n 0, 1), (47, .iload_n 1, 1), (48, .invokevirtual 309, 3), (51, .ireturn, 1), (52, .aload_n 0, 1), (53, .iload_n 1, 1), (54, .invokevirtual 312, 3), (57, .ireturn, 1), (58, .bipush (-2), 2), (60, .ireturn, 1)]
theorem dtX10_warned : dec_ok mX10_warned.2.1 tX10_warned = true := by decide +kernel
set_option maxHeartbeats 4000000 in
theorem c_X10_warned {I : Wd} {Wn : Nat} {m what : Int32} (hW : I 53 0 = nI Wn) (hW2 : Wn ≤ 30) (hWc : ∀ w, w < Wn → vp_in (I 54 w) 64) : Cal SyC mX10_warned 3 [.ref 0, .int m, .int what] I (some (.int (vWarned (sTw (I 10) (I 54) (I 56) m Wn) (I 6 3 - bcI (sMs (I 10) (I 54) (I 56) m Wn)) (sOw (I 10) (I 54) (I 56) (I 6 1) m Wn) m what))) I := by
  refine Cal.of (by decide) (Nat.le_of_ble_eq_true rfl) ?_
  show Bd _ _ _ _ [(0, _), (1, _), (2, _)] _ _ _ _
  refine b_iload_n (pc := 0) (i := 1) (dd dtX10_warned 0 rfl) rfl rfl ?_
  refine b_ic1 (pc := 1) (dd dtX10_warned 1 rfl) ?_
  refine b_bipush (pc := 2) (v := 60) (dd dtX10_warned 2 rfl) (by decide) ?_
  refine b_invS (pc := 4) (dd dtX10_warned 3 rfl) mlX10_97 mvX10_within msX10_within (c_X10_within) rfl rfl (by decide) (Nat.le_of_ble_eq_true rfl) ?_
  refine b_ifb_ne (pc := 7) (tgt := 13) (dd dtX10_warned 4 rfl) (by decide) (fun h7 => ?_) (fun h7 => ?_)
  · refine b_iload_n (pc := 13) (i := 2) (dd dtX10_warned 7 rfl) rfl rfl ?_
    refine b_tsw (pc := 14) (ts := [(0, 40), (1, 46), (2, 52)]) (dfl := 58) (dd dtX10_warned 8 rfl) (by decide +kernel) ⟨fun h14 => ?_, fun h14_0 => ⟨fun h14 => ?_, fun h14_1 => ⟨fun h14 => ?_, fun h14_2 => ?_⟩⟩⟩
    · refine b_aload_n (pc := 40) (i := 0) (dd dtX10_warned 9 rfl) rfl rfl ?_
      refine b_iload_n (pc := 41) (i := 1) (dd dtX10_warned 10 rfl) rfl rfl ?_
      refine b_invV (pc := 42) (dd dtX10_warned 11 rfl) mlX10_306 mvX10_trueWarnings miX10_trueWarnings (c_X10_trueWarnings hW hW2 hWc) oC_0 rfl rfl (by decide) (Nat.le_of_ble_eq_true rfl) ?_
      refine b_eq (b_iret (dd dtX10_warned 12 rfl) rfl) ?_ ?_
      · simp [inR, vWarned, -Int32.not_lt, -Int32.not_le, *]
      · rfl
    · refine b_aload_n (pc := 46) (i := 0) (dd dtX10_warned 13 rfl) rfl rfl ?_
      refine b_iload_n (pc := 47) (i := 1) (dd dtX10_warned 14 rfl) rfl rfl ?_
      refine b_invV (pc := 48) (dd dtX10_warned 15 rfl) mlX10_309 mvX10_missedCells miX10_missedCells (c_X10_missedCells hW hW2 hWc) oC_0 rfl rfl (by decide) (Nat.le_of_ble_eq_true rfl) ?_
      refine b_eq (b_iret (dd dtX10_warned 16 rfl) rfl) ?_ ?_
      · simp [inR, vWarned, -Int32.not_lt, -Int32.not_le, *]
      · rfl
    · refine b_aload_n (pc := 52) (i := 0) (dd dtX10_warned 17 rfl) rfl rfl ?_
      refine b_iload_n (pc := 53) (i := 1) (dd dtX10_warned 18 rfl) rfl rfl ?_
      refine b_invV (pc := 54) (dd dtX10_warned 19 rfl) mlX10_312 mvX10_oldWarnings miX10_oldWarnings (c_X10_oldWarnings hW hW2 hWc) oC_0 rfl rfl (by decide) (Nat.le_of_ble_eq_true rfl) ?_
      refine b_eq (b_iret (dd dtX10_warned 20 rfl) rfl) ?_ ?_
      · simp [inR, vWarned, -Int32.not_lt, -Int32.not_le, *]
      · rfl
    · refine b_bipush (pc := 58) (v := -2) (dd dtX10_warned 21 rfl) (by decide) ?_
      refine b_eq (b_iret (dd dtX10_warned 22 rfl) rfl) ?_ ?_
      · simp [inR, vWarned, -Int32.not_lt, -Int32.not_le, *]
      · rfl
  · refine b_bipush (pc := 10) (v := -2) (dd dtX10_warned 5 rfl) (by decide) ?_
    refine b_eq (b_iret (dd dtX10_warned 6 rfl) rfl) ?_ ?_
    · simp [inR, vWarned, -Int32.not_lt, -Int32.not_le, *]
    · rfl
def tX10_greatestShared : List (Nat × Instr × Nat) := [(0, .iconst 0, 1), (1, .istore_n 2, 1), (2, .iload_n 2, 1), (3, .bipush 100, 2), (5, .if_icmp .ge 21, 3), (8, .iload_n 1, 1), (9, .ifCond .le 17, 3), (12, .iload_n 0, 1), (13, .iload_n 1, 1), (14, .irem, 1), (15, .istore_n 3, 1), (16, .iload_n 1, 1), (17, .istore_n 0, 1), (18, .iload_n 3, 1), (19, .istore_n 1, 1), (20, .iinc 2 1, 3), (23, .goto (-21), 3), (26, .iload_n 0, 1), (27, .ireturn, 1)]
theorem dtX10_greatestShared : dec_ok mX10_greatestShared.2.1 tX10_greatestShared = true := by decide +kernel
set_option maxHeartbeats 4000000 in
theorem l_X10_greatestShared {I : Wd} : ∀ (n t : Nat) (a b x2 : Int32), t + n = 100 → x2 = nI t → Bd SyC mX10_greatestShared 0 2 [(2, .int x2), (0, .int a), (1, .int b)] [] I (some (.int (sGcd n a b))) I := by
  intro n
  induction n with
  | zero =>
    intro t a b x2 ht e2
    subst e2
    have ht : t = 100 := by omega
    subst ht
    refine b_iload_n (pc := 2) (i := 2) (dd dtX10_greatestShared 2 rfl) rfl rfl ?_
    refine b_bipush (pc := 3) (v := 100) (dd dtX10_greatestShared 3 rfl) (by decide) ?_
    refine b_icmpL_ge (pc := 5) (tgt := 26) (dd dtX10_greatestShared 4 rfl) (by decide) (fun h5 => ?_) (fun h5 => ?_)
    · refine b_iload_n (pc := 26) (i := 0) (dd dtX10_greatestShared 17 rfl) rfl rfl ?_
      exact b_eq (b_iret (dd dtX10_greatestShared 18 rfl) rfl) rfl rfl
    · exact absurd h5 (by decide)
  | succ n ih =>
    intro t a b x2 ht e2
    subst e2
    refine b_iload_n (pc := 2) (i := 2) (dd dtX10_greatestShared 2 rfl) rfl rfl ?_
    refine b_bipush (pc := 3) (v := 100) (dd dtX10_greatestShared 3 rfl) (by decide) ?_
    refine b_icmpL_ge (pc := 5) (tgt := 26) (dd dtX10_greatestShared 4 rfl) (by decide) (fun h5 => ?_) (fun h5 => ?_)
    · exact absurd (nI_lt (show t < 100 by omega) (by decide)) h5
    · refine b_iload_n (pc := 8) (i := 1) (dd dtX10_greatestShared 5 rfl) rfl rfl ?_
      refine b_ifL_le (pc := 9) (tgt := 26) (dd dtX10_greatestShared 6 rfl) (by decide) (fun h9 => ?_) (fun h9 => ?_)
      · refine b_iload_n (pc := 26) (i := 0) (dd dtX10_greatestShared 17 rfl) rfl rfl ?_
        refine b_eq (b_iret (dd dtX10_greatestShared 18 rfl) rfl) ?_ ?_
        · simp [sGcd, -Int32.not_lt, -Int32.not_le, *]
        · rfl
      · refine b_iload_n (pc := 12) (i := 0) (dd dtX10_greatestShared 7 rfl) rfl rfl ?_
        refine b_iload_n (pc := 13) (i := 1) (dd dtX10_greatestShared 8 rfl) rfl rfl ?_
        refine b_irem (pc := 14) (dd dtX10_greatestShared 9 rfl) (fun q => by rw [q] at h9; exact absurd h9 (by decide)) ?_
        refine b_istore_n (pc := 15) (i := 3) (lv' := [(3, _), (2, _), (0, _), (1, _)]) (dd dtX10_greatestShared 10 rfl) rfl (Nat.le_of_ble_eq_true rfl) rfl ?_
        refine b_iload_n (pc := 16) (i := 1) (dd dtX10_greatestShared 11 rfl) rfl rfl ?_
        refine b_istore_n (pc := 17) (i := 0) (lv' := [(0, _), (3, _), (2, _), (1, _)]) (dd dtX10_greatestShared 12 rfl) rfl (Nat.le_of_ble_eq_true rfl) rfl ?_
        refine b_iload_n (pc := 18) (i := 3) (dd dtX10_greatestShared 13 rfl) rfl rfl ?_
        refine b_istore_n (pc := 19) (i := 1) (lv' := [(1, _), (0, _), (3, _), (2, _)]) (dd dtX10_greatestShared 14 rfl) rfl (Nat.le_of_ble_eq_true rfl) rfl ?_
        refine b_iinc1 (pc := 20) (i := 2) (lv' := [(2, _), (1, _), (0, _), (3, _)]) (dd dtX10_greatestShared 15 rfl) rfl (Nat.le_of_ble_eq_true rfl) rfl ?_
        refine b_goto (pc := 23) (tgt := 2) (dd dtX10_greatestShared 16 rfl) (by decide) ?_
        refine b_pick [0, 2, 1] (lv' := [(2, _), (0, _), (1, _)]) rfl ?_
        rw [nI_1]
        refine b_eq (ih (t + 1) _ _ _ (by omega) rfl) ?_ rfl
        simp [sGcd, -Int32.not_lt, -Int32.not_le, *]
set_option maxHeartbeats 4000000 in
theorem c_X10_greatestShared {I : Wd} {a b : Int32} : Cal SyC mX10_greatestShared 0 [.int a, .int b] I (some (.int (sGcd 100 a b))) I := by
  refine Cal.of (by decide) (Nat.le_of_ble_eq_true rfl) ?_
  show Bd _ _ _ _ [(0, _), (1, _)] _ _ _ _
  refine b_ic0 (pc := 0) (dd dtX10_greatestShared 0 rfl) ?_
  refine b_istore_n (pc := 1) (i := 2) (lv' := [(2, _), (0, _), (1, _)]) (dd dtX10_greatestShared 1 rfl) rfl (Nat.le_of_ble_eq_true rfl) rfl ?_
  exact l_X10_greatestShared 100 0 _ _ _ (by omega) rfl
def tX10_often : List (Nat × Instr × Nat) := [(0, .iload_n 1, 1), (1, .iconst 0, 1), (2, .iconst 3, 1), (3, .invokestatic 97, 3), (6, .ifCond .eq 12, 3), (9, .iload_n 2, 1), (10, .iconst 0, 1), (11, .iconst 1, 1), (12, .invokestatic 97, 3), (15, .ifCond .ne 7, 3), (18, .ldc2_w 256, 3), (21, .lreturn, 1), (22, .aload_n 0, 1), (23, .getfield 21, 3), (26, .getfield 297, 3), (29, .iload_n 1, 1), (30, .iaload, 1), (31, .istore_n 3, 1), (32, .aload_n 0, 1), (33, .getfield 21, 3), (36, .getfield 300, 3), (39, .iload_n 1, 1), (40, .iaload, 1), (41, .istore 4, 2), (43, .iload_n 3, 1), (44, .iload 4, 2), (46, .invokestatic 303, 3), (49, .istore 5, 2), (51, .iload 5, 2), (53, .ifCond .ne 6, 3), (56, .iload_n 2, 1), (57, .i2l, 1), (58, .lreturn, 1), (59, .iload_n 2, 1), (60, .ifCond .ne 7, 3), (63, .iload_n 3, 1), (64, .goto 5, 3), (67, .iload 4, 2), (69, .iload 5, 2), (71, .idiv, 1), (72, .i2l, 1), (73, .lreturn, 1)]
theorem dtX10_often : dec_ok mX10_often.2.1 tX10_often = true := by decide +kernel
set_option maxHeartbeats 4000000 in
theorem c_X10_often {I : Wd} {r part : Int32} : Cal SyC mX10_often 1 [.ref 0, .int r, .int part] I (some (.long (vOften (I 11) (I 12) r part))) I := by
  refine Cal.of (by decide) (Nat.le_of_ble_eq_true rfl) ?_
  show Bd _ _ _ _ [(0, _), (1, _), (2, _)] _ _ _ _
  refine b_iload_n (pc := 0) (i := 1) (dd dtX10_often 0 rfl) rfl rfl ?_
  refine b_ic0 (pc := 1) (dd dtX10_often 1 rfl) ?_
  refine b_ic3 (pc := 2) (dd dtX10_often 2 rfl) ?_
  refine b_invS (pc := 3) (dd dtX10_often 3 rfl) mlX10_97 mvX10_within msX10_within (c_X10_within) rfl rfl (by decide) (Nat.le_of_ble_eq_true rfl) ?_
  refine b_ifb_eq (pc := 6) (tgt := 18) (dd dtX10_often 4 rfl) (by decide) (fun h6 => ?_) (fun h6 => ?_)
  · refine b_ldc2 (pc := 18) (dd dtX10_often 10 rfl) kcX10_256 ?_
    refine b_eq (b_lret (dd dtX10_often 11 rfl) rfl) ?_ ?_
    · simp [inR, vOften, -Int32.not_lt, -Int32.not_le, *]
    · rfl
  · refine b_iload_n (pc := 9) (i := 2) (dd dtX10_often 5 rfl) rfl rfl ?_
    refine b_ic0 (pc := 10) (dd dtX10_often 6 rfl) ?_
    refine b_ic1 (pc := 11) (dd dtX10_often 7 rfl) ?_
    refine b_invS (pc := 12) (dd dtX10_often 8 rfl) mlX10_97 mvX10_within msX10_within (c_X10_within) rfl rfl (by decide) (Nat.le_of_ble_eq_true rfl) ?_
    refine b_ifb_ne (pc := 15) (tgt := 22) (dd dtX10_often 9 rfl) (by decide) (fun h15 => ?_) (fun h15 => ?_)
    · refine b_aload_n (pc := 22) (i := 0) (dd dtX10_often 12 rfl) rfl rfl ?_
      refine b_geta (pc := 23) (dd dtX10_often 13 rfl) fwX10_21 pC_0 rC_0_1 ?_
      refine b_geta (pc := 26) (dd dtX10_often 14 rfl) fwX10_297 pC_6 rC_6_9 ?_
      refine b_iload_n (pc := 29) (i := 1) (dd dtX10_often 15 rfl) rfl rfl ?_
      refine b_iald (pc := 30) (dd dtX10_often 16 rfl) pC_11 (vpc h6 (by decide)) ?_
      refine b_istore_n (pc := 31) (i := 3) (lv' := [(3, _), (0, _), (1, _), (2, _)]) (dd dtX10_often 17 rfl) rfl (Nat.le_of_ble_eq_true rfl) rfl ?_
      refine b_aload_n (pc := 32) (i := 0) (dd dtX10_often 18 rfl) rfl rfl ?_
      refine b_geta (pc := 33) (dd dtX10_often 19 rfl) fwX10_21 pC_0 rC_0_1 ?_
      refine b_geta (pc := 36) (dd dtX10_often 20 rfl) fwX10_300 pC_6 rC_6_10 ?_
      refine b_iload_n (pc := 39) (i := 1) (dd dtX10_often 21 rfl) rfl rfl ?_
      refine b_iald (pc := 40) (dd dtX10_often 22 rfl) pC_12 (vpc h6 (by decide)) ?_
      refine b_istore (pc := 41) (i := 4) (lv' := [(4, _), (3, _), (0, _), (1, _), (2, _)]) (dd dtX10_often 23 rfl) (Nat.le_of_ble_eq_true rfl) rfl ?_
      refine b_iload_n (pc := 43) (i := 3) (dd dtX10_often 24 rfl) rfl rfl ?_
      refine b_iload (pc := 44) (i := 4) (dd dtX10_often 25 rfl) rfl ?_
      refine b_invS (pc := 46) (dd dtX10_often 26 rfl) mlX10_303 mvX10_greatestShared msX10_greatestShared (c_X10_greatestShared) rfl rfl (by decide) (Nat.le_of_ble_eq_true rfl) ?_
      refine b_istore (pc := 49) (i := 5) (lv' := [(5, _), (4, _), (3, _), (0, _), (1, _), (2, _)]) (dd dtX10_often 27 rfl) (Nat.le_of_ble_eq_true rfl) rfl ?_
      refine b_iload (pc := 51) (i := 5) (dd dtX10_often 28 rfl) rfl ?_
      refine b_if_ne (pc := 53) (tgt := 59) (dd dtX10_often 29 rfl) (by decide) (fun h53 => ?_) (fun h53 => ?_)
      · refine b_iload_n (pc := 59) (i := 2) (dd dtX10_often 33 rfl) rfl rfl ?_
        refine b_if_ne (pc := 60) (tgt := 67) (dd dtX10_often 34 rfl) (by decide) (fun h60 => ?_) (fun h60 => ?_)
        · refine b_iload (pc := 67) (i := 4) (dd dtX10_often 37 rfl) rfl ?_
          refine b_iload (pc := 69) (i := 5) (dd dtX10_often 38 rfl) rfl ?_
          refine b_idiv (pc := 71) (dd dtX10_often 39 rfl) (h53) ?_
          refine b_i2l (pc := 72) (dd dtX10_often 40 rfl) ?_
          refine b_eq (b_lret (dd dtX10_often 41 rfl) rfl) ?_ ?_
          · simp [inR, vOften, -Int32.not_lt, -Int32.not_le, *]
          · rfl
        · refine b_iload_n (pc := 63) (i := 3) (dd dtX10_often 35 rfl) rfl rfl ?_
          refine b_goto (pc := 64) (tgt := 69) (dd dtX10_often 36 rfl) (by decide) ?_
          refine b_iload (pc := 69) (i := 5) (dd dtX10_often 38 rfl) rfl ?_
          refine b_idiv (pc := 71) (dd dtX10_often 39 rfl) (h53) ?_
          refine b_i2l (pc := 72) (dd dtX10_often 40 rfl) ?_
          refine b_eq (b_lret (dd dtX10_often 41 rfl) rfl) ?_ ?_
          · simp [inR, vOften, -Int32.not_lt, -Int32.not_le, *]
          · rfl
      · refine b_iload_n (pc := 56) (i := 2) (dd dtX10_often 30 rfl) rfl rfl ?_
        refine b_i2l (pc := 57) (dd dtX10_often 31 rfl) ?_
        refine b_eq (b_lret (dd dtX10_often 32 rfl) rfl) ?_ ?_
        · simp [inR, vOften, -Int32.not_lt, -Int32.not_le, *]
        · rfl
    · refine b_ldc2 (pc := 18) (dd dtX10_often 10 rfl) kcX10_256 ?_
      refine b_eq (b_lret (dd dtX10_often 11 rfl) rfl) ?_ ?_
      · simp [inR, vOften, -Int32.not_lt, -Int32.not_le, *]
      · rfl
