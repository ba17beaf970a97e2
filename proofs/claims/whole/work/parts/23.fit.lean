/-! near ones, unlike cells, fits -/
abbrev farP (a b : Int32) : Prop := 1 < ab ((a - a / 8 * 8) - (b - b / 8 * 8)) + ab (a / 8 - b / 8)
def sNr (pc pumped : Nat → Int32) (c : Int32) : Nat → Int32
  | 0 => 0
  | p + 1 => if 0 < pumped p then (if farP (pc p) c then sNr pc pumped c p else sNr pc pumped c p + 1) else sNr pc pumped c p
def uM (nums : Nat → Int32) : Nat → Int64
  | 0 => 0
  | i + 1 => uM nums i ||| ((1 : Int64) <<< ((nums i).toInt64 &&& 63))
abbrev ucP (nums : Nat → Int32) (z : Nat) : Prop := ∀ i, i < z → inR (nums i) 0 63 ∧ us (uM nums i) (nums i) &&& 1 = 0
def tX10_isNear : List (Nat × Instr × Nat) := [(0, .iload_n 0, 1), (1, .bipush 8, 2), (3, .irem, 1), (4, .iload_n 1, 1), (5, .bipush 8, 2), (7, .irem, 1), (8, .isub, 1), (9, .invokestatic 373, 3), (12, .istore_n 2, 1), (13, .iload_n 0, 1), (14, .bipush 8, 2), (16, .idiv, 1), (17, .iload_n 1, 1), (18, .bipush 8, 2), (20, .idiv, 1), (21, .isub, 1), (22, .invokestatic 373, 3), (25, .istore_n 3, 1), (26, .iload_n 2, 1), (27, .iload_n 3, 1), (28, .iadd, 1), (29, .iconst 1, 1), (30, .if_icmp .gt 7, 3), (33, .iconst 1, 1), (34, .goto 4, 3), (37, .iconst 0, 1), (38, .ireturn, 1)]
theorem dtX10_isNear : dec_ok mX10_isNear.2.1 tX10_isNear = true := by decide +kernel
set_option maxHeartbeats 4000000 in
theorem c_X10_isNear {I : Wd} {a b : Int32} : Cal SyC mX10_isNear 1 [.int a, .int b] I (some (.int (bi (¬ farP a b)))) I := by
  refine Cal.of (by decide) (Nat.le_of_ble_eq_true rfl) ?_
  show Bd _ _ _ _ [(0, _), (1, _)] _ _ _ _
  refine b_iload_n (pc := 0) (i := 0) (dd dtX10_isNear 0 rfl) rfl rfl ?_
  refine b_bipush (pc := 1) (v := 8) (dd dtX10_isNear 1 rfl) (by decide) ?_
  refine b_irem (pc := 3) (dd dtX10_isNear 2 rfl) (by decide) ?_
  refine b_iload_n (pc := 4) (i := 1) (dd dtX10_isNear 3 rfl) rfl rfl ?_
  refine b_bipush (pc := 5) (v := 8) (dd dtX10_isNear 4 rfl) (by decide) ?_
  refine b_irem (pc := 7) (dd dtX10_isNear 5 rfl) (by decide) ?_
  refine b_isub (pc := 8) (dd dtX10_isNear 6 rfl) ?_
  refine b_mabs (pc := 9) (dd dtX10_isNear 7 rfl) wlX10_373 (Nat.le_of_ble_eq_true rfl) ?_
  refine b_istore_n (pc := 12) (i := 2) (lv' := [(2, _), (0, _), (1, _)]) (dd dtX10_isNear 8 rfl) rfl (Nat.le_of_ble_eq_true rfl) rfl ?_
  refine b_iload_n (pc := 13) (i := 0) (dd dtX10_isNear 9 rfl) rfl rfl ?_
  refine b_bipush (pc := 14) (v := 8) (dd dtX10_isNear 10 rfl) (by decide) ?_
  refine b_idiv (pc := 16) (dd dtX10_isNear 11 rfl) (by decide) ?_
  refine b_iload_n (pc := 17) (i := 1) (dd dtX10_isNear 12 rfl) rfl rfl ?_
  refine b_bipush (pc := 18) (v := 8) (dd dtX10_isNear 13 rfl) (by decide) ?_
  refine b_idiv (pc := 20) (dd dtX10_isNear 14 rfl) (by decide) ?_
  refine b_isub (pc := 21) (dd dtX10_isNear 15 rfl) ?_
  refine b_mabs (pc := 22) (dd dtX10_isNear 16 rfl) wlX10_373 (Nat.le_of_ble_eq_true rfl) ?_
  refine b_istore_n (pc := 25) (i := 3) (lv' := [(3, _), (2, _), (0, _), (1, _)]) (dd dtX10_isNear 17 rfl) rfl (Nat.le_of_ble_eq_true rfl) rfl ?_
  refine b_iload_n (pc := 26) (i := 2) (dd dtX10_isNear 18 rfl) rfl rfl ?_
  refine b_iload_n (pc := 27) (i := 3) (dd dtX10_isNear 19 rfl) rfl rfl ?_
  refine b_iadd (pc := 28) (dd dtX10_isNear 20 rfl) ?_
  refine b_ic1 (pc := 29) (dd dtX10_isNear 21 rfl) ?_
  refine b_icmp_gt (pc := 30) (tgt := 37) (dd dtX10_isNear 22 rfl) (by decide) (fun h30 => ?_) (fun h30 => ?_)
  · refine b_ic0 (pc := 37) (dd dtX10_isNear 25 rfl) ?_
    refine b_eq (b_zret (dd dtX10_isNear 26 rfl) rfl (by first | rfl | exact nar_bi)) ?_ ?_
    · first | exact congrArg (fun x => some (Value.int x)) (bi_f (fun q => q h30)).symm | exact congrArg (fun x => some (Value.int x)) (bi_t h30).symm
    · rfl
  · refine b_ic1 (pc := 33) (dd dtX10_isNear 23 rfl) ?_
    refine b_goto (pc := 34) (tgt := 38) (dd dtX10_isNear 24 rfl) (by decide) ?_
    refine b_eq (b_zret (dd dtX10_isNear 26 rfl) rfl (by first | rfl | exact nar_bi)) ?_ ?_
    · first | exact congrArg (fun x => some (Value.int x)) (bi_f (fun q => q h30)).symm | exact congrArg (fun x => some (Value.int x)) (bi_t h30).symm
    · rfl
def tX2_pumpsNear : List (Nat × Instr × Nat) := [(0, .iconst 0, 1), (1, .istore_n 2, 1), (2, .iconst 0, 1), (3, .istore_n 3, 1), (4, .iload_n 3, 1), (5, .aload_n 0, 1), (6, .getfield 59, 3), (9, .getfield 80, 3), (12, .if_icmp .ge 37, 3), (15, .aload_n 0, 1), (16, .getfield 43, 3), (19, .iload_n 3, 1), (20, .iaload, 1), (21, .ifCond .le 22, 3), (24, .aload_n 0, 1), (25, .getfield 59, 3), (28, .getfield 83, 3), (31, .iload_n 3, 1), (32, .iaload, 1), (33, .iload_n 1, 1), (34, .invokestatic 86, 3), (37, .ifCond .eq 6, 3), (40, .iinc 2 1, 3), (43, .iinc 3 1, 3), (46, .goto (-42), 3), (49, .iload_n 2, 1), (50, .ireturn, 1)]
theorem dtX2_pumpsNear : dec_ok mX2_pumpsNear.2.1 tX2_pumpsNear = true := by decide +kernel
set_option maxHeartbeats 4000000 in
theorem l_X2_pumpsNear {I : Wd} {g P : Nat} (hg : isG g) {c : Int32} (hP : I 1 1 = nI P) (hP2 : P ≤ 6) : ∀ (n h : Nat) (x3 : Int32) (x2 : Int32), h ≤ P → P < h + n → x3 = nI h → x2 = (sNr (I 5) (I (g + 7)) c h) → Bd SyC mX2_pumpsNear 2 4 [(3, .int x3), (2, .int x2), (0, .ref g), (1, .int c)] [] I (some (.int (sNr (I 5) (I (g + 7)) c P))) I := by
  intro n
  induction n with
  | zero => intro h x3 x2 h1 h2; omega
  | succ n ih =>
    intro h x3 x2 h1 h2 e3 e2
    subst e3; subst e2
    refine b_iload_n (pc := 4) (i := 3) (dd dtX2_pumpsNear 4 rfl) rfl rfl ?_
    refine b_aload_n (pc := 5) (i := 0) (dd dtX2_pumpsNear 5 rfl) rfl rfl ?_
    refine b_geta (pc := 6) (dd dtX2_pumpsNear 6 rfl) fwX2_59 (pG_0 hg) (rG_0 hg) ?_
    refine b_geti (pc := 9) (dd dtX2_pumpsNear 7 rfl) fwX2_80 pC_1 ?_
    refine b_icmpL_ge (pc := 12) (tgt := 49) (dd dtX2_pumpsNear 8 rfl) (by decide) (fun h12 => ?_) (fun h12 => ?_)
    · rw [hP] at h12
      have he : h = P := Nat.le_antisymm h1 (ge_n h12 (by omega))
      subst he
      refine b_iload_n (pc := 49) (i := 2) (dd dtX2_pumpsNear 25 rfl) rfl rfl ?_
      exact b_eq (b_iret (dd dtX2_pumpsNear 26 rfl) rfl) rfl rfl
    · rw [hP] at h12
      have hlt : h < P := lt_n h12 (by omega) (by omega)
      refine b_aload_n (pc := 15) (i := 0) (dd dtX2_pumpsNear 9 rfl) rfl rfl ?_
      refine b_geta (pc := 16) (dd dtX2_pumpsNear 10 rfl) fwX2_43 (pG_0 hg) (rG_11 hg) ?_
      refine b_iload_n (pc := 19) (i := 3) (dd dtX2_pumpsNear 11 rfl) rfl rfl ?_
      refine b_iald (pc := 20) (dd dtX2_pumpsNear 12 rfl) (pG_7 hg) (vpn rfl (show h < 6 by omega) (by decide)) ?_
      refine b_ifL_le (pc := 21) (tgt := 43) (dd dtX2_pumpsNear 13 rfl) (by decide) (fun h21 => ?_) (fun h21 => ?_)
      · refine b_iinc1 (pc := 43) (i := 3) (lv' := [(3, _), (2, _), (0, _), (1, _)]) (dd dtX2_pumpsNear 23 rfl) rfl (Nat.le_of_ble_eq_true rfl) rfl ?_
        refine b_goto (pc := 46) (tgt := 4) (dd dtX2_pumpsNear 24 rfl) (by decide) ?_
        rw [nI_1]
        refine ih (h + 1) _ _ hlt (by omega) rfl ?_
        · try simp only [nI_clamp (show h < 2 ^ 31 by omega)] at h21
          try simp only [nI_clamp (show h < 2 ^ 31 by omega)] at h37
          simp [sNr, -Int32.not_lt, -Int32.not_le, *]
      · refine b_aload_n (pc := 24) (i := 0) (dd dtX2_pumpsNear 14 rfl) rfl rfl ?_
        refine b_geta (pc := 25) (dd dtX2_pumpsNear 15 rfl) fwX2_59 (pG_0 hg) (rG_0 hg) ?_
        refine b_geta (pc := 28) (dd dtX2_pumpsNear 16 rfl) fwX2_83 pC_1 rC_1_5 ?_
        refine b_iload_n (pc := 31) (i := 3) (dd dtX2_pumpsNear 17 rfl) rfl rfl ?_
        refine b_iald (pc := 32) (dd dtX2_pumpsNear 18 rfl) pC_5 (vpn rfl (show h < 6 by omega) (by decide)) ?_
        refine b_iload_n (pc := 33) (i := 1) (dd dtX2_pumpsNear 19 rfl) rfl rfl ?_
        refine b_invN (pc := 34) (M2 := mX10_isNear) (dd dtX2_pumpsNear 20 rfl) (fun _ _ _ _ hE => hE.2.2.2.1) mvX10_isNear msX10_isNear (c_X10_isNear) rfl rfl (by decide) (Nat.le_of_ble_eq_true rfl) ?_
        refine b_ifn_eq (pc := 37) (tgt := 43) (dd dtX2_pumpsNear 21 rfl) (by decide) (fun h37 => ?_) (fun h37 => ?_)
        · refine b_iinc1 (pc := 43) (i := 3) (lv' := [(3, _), (2, _), (0, _), (1, _)]) (dd dtX2_pumpsNear 23 rfl) rfl (Nat.le_of_ble_eq_true rfl) rfl ?_
          refine b_goto (pc := 46) (tgt := 4) (dd dtX2_pumpsNear 24 rfl) (by decide) ?_
          rw [nI_1]
          refine ih (h + 1) _ _ hlt (by omega) rfl ?_
          · try simp only [nI_clamp (show h < 2 ^ 31 by omega)] at h21
            try simp only [nI_clamp (show h < 2 ^ 31 by omega)] at h37
            simp [sNr, -Int32.not_lt, -Int32.not_le, *]
        · refine b_iinc1 (pc := 40) (i := 2) (lv' := [(2, _), (3, _), (0, _), (1, _)]) (dd dtX2_pumpsNear 22 rfl) rfl (Nat.le_of_ble_eq_true rfl) rfl ?_
          refine b_iinc1 (pc := 43) (i := 3) (lv' := [(3, _), (2, _), (0, _), (1, _)]) (dd dtX2_pumpsNear 23 rfl) rfl (Nat.le_of_ble_eq_true rfl) rfl ?_
          refine b_goto (pc := 46) (tgt := 4) (dd dtX2_pumpsNear 24 rfl) (by decide) ?_
          rw [nI_1]
          refine ih (h + 1) _ _ hlt (by omega) rfl ?_
          · try simp only [nI_clamp (show h < 2 ^ 31 by omega)] at h21
            try simp only [nI_clamp (show h < 2 ^ 31 by omega)] at h37
            simp [sNr, -Int32.not_lt, -Int32.not_le, *]
set_option maxHeartbeats 4000000 in
theorem c_X2_pumpsNear {I : Wd} {g P : Nat} (hg : isG g) {c : Int32} (hP : I 1 1 = nI P) (hP2 : P ≤ 6) : Cal SyC mX2_pumpsNear 2 [.ref g, .int c] I (some (.int (sNr (I 5) (I (g + 7)) c P))) I := by
  refine Cal.of (by decide) (Nat.le_of_ble_eq_true rfl) ?_
  show Bd _ _ _ _ [(0, _), (1, _)] _ _ _ _
  refine b_ic0 (pc := 0) (dd dtX2_pumpsNear 0 rfl) ?_
  refine b_istore_n (pc := 1) (i := 2) (lv' := [(2, _), (0, _), (1, _)]) (dd dtX2_pumpsNear 1 rfl) rfl (Nat.le_of_ble_eq_true rfl) rfl ?_
  refine b_ic0 (pc := 2) (dd dtX2_pumpsNear 2 rfl) ?_
  refine b_istore_n (pc := 3) (i := 3) (lv' := [(3, _), (2, _), (0, _), (1, _)]) (dd dtX2_pumpsNear 3 rfl) rfl (Nat.le_of_ble_eq_true rfl) rfl ?_
  exact l_X2_pumpsNear hg hP hP2 (P + 1) 0 _ _ (Nat.zero_le _) (by omega) rfl rfl
def tX10_holdsUnlikeCells : List (Nat × Instr × Nat) := [(0, .lconst 0, 1), (1, .lstore_n 1, 1), (2, .iconst 0, 1), (3, .istore_n 3, 1), (4, .iload_n 3, 1), (5, .aload_n 0, 1), (6, .getfield 214, 3), (9, .if_icmp .ge 45, 3), (12, .aload_n 0, 1), (13, .getfield 284, 3), (16, .iload_n 3, 1), (17, .iaload, 1), (18, .istore 4, 2), (20, .iload 4, 2), (22, .invokestatic 93, 3), (25, .ifCond .eq 14, 3), (28, .lload_n 1, 1), (29, .iload 4, 2), (31, .lushr, 1), (32, .lconst 1, 1), (33, .land, 1), (34, .lconst 0, 1), (35, .lcmp, 1), (36, .ifCond .eq 5, 3), (39, .iconst 0, 1), (40, .ireturn, 1), (41, .lload_n 1, 1), (42, .lconst 1, 1), (43, .iload 4, 2), (45, .lshl, 1), (46, .lor, 1), (47, .lstore_n 1, 1), (48, .iinc 3 1, 3), (51, .goto (-47), 3), (54, .iconst 1, 1), (55, .ireturn, 1)]
theorem dtX10_holdsUnlikeCells : dec_ok mX10_holdsUnlikeCells.2.1 tX10_holdsUnlikeCells = true := by decide +kernel
set_option maxHeartbeats 4000000 in
theorem l_X10_holdsUnlikeCells {I : Wd} {k z : Nat} (hk : isS k) (hz : I k 1 = nI z) (hz2 : z ≤ 40) : ∀ (n h : Nat) (x3 : Int32) (x1 : Int64), h ≤ z → z < h + n → x3 = nI h → x1 = uM (I (k + 1)) h → (ucP (I (k + 1)) h) → Bd SyC mX10_holdsUnlikeCells 2 4 [(3, .int x3), (1, .long x1), (0, .ref k)] [] I (some (.int (bi (ucP (I (k + 1)) z)))) I := by
  intro n
  induction n with
  | zero => intro h x3 x1 h1 h2; omega
  | succ n ih =>
    intro h x3 x1 h1 h2 e3 e1 hI
    subst e3; subst e1
    refine b_iload_n (pc := 4) (i := 3) (dd dtX10_holdsUnlikeCells 4 rfl) rfl rfl ?_
    refine b_aload_n (pc := 5) (i := 0) (dd dtX10_holdsUnlikeCells 5 rfl) rfl rfl ?_
    refine b_geti (pc := 6) (dd dtX10_holdsUnlikeCells 6 rfl) fwX10_214 (pS_0 hk) ?_
    refine b_icmpL_ge (pc := 9) (tgt := 54) (dd dtX10_holdsUnlikeCells 7 rfl) (by decide) (fun h9 => ?_) (fun h9 => ?_)
    · rw [hz] at h9
      have he : h = z := Nat.le_antisymm h1 (ge_n h9 (by omega))
      subst he
      refine b_ic1 (pc := 54) (dd dtX10_holdsUnlikeCells 34 rfl) ?_
      refine b_eq (b_zret (dd dtX10_holdsUnlikeCells 35 rfl) rfl (by first | rfl | exact nar_bi)) ?_ ?_
      · rw [bi_t hI]
      · rfl
    · rw [hz] at h9
      have hlt : h < z := lt_n h9 (by omega) (by omega)
      refine b_aload_n (pc := 12) (i := 0) (dd dtX10_holdsUnlikeCells 8 rfl) rfl rfl ?_
      refine b_geta (pc := 13) (dd dtX10_holdsUnlikeCells 9 rfl) fwX10_284 (pS_0 hk) (rS_2 hk) ?_
      refine b_iload_n (pc := 16) (i := 3) (dd dtX10_holdsUnlikeCells 10 rfl) rfl rfl ?_
      refine b_iald (pc := 17) (dd dtX10_holdsUnlikeCells 11 rfl) (pS_1 hk) (vpn rfl (show h < 40 by omega) (by decide)) ?_
      refine b_istore (pc := 18) (i := 4) (lv' := [(4, _), (3, _), (1, _), (0, _)]) (dd dtX10_holdsUnlikeCells 12 rfl) (Nat.le_of_ble_eq_true rfl) rfl ?_
      refine b_iload (pc := 20) (i := 4) (dd dtX10_holdsUnlikeCells 13 rfl) rfl ?_
      refine b_invS (pc := 22) (dd dtX10_holdsUnlikeCells 14 rfl) mlX10_93 mvX10_isCell msX10_isCell (c_X10_isCell) rfl rfl (by decide) (Nat.le_of_ble_eq_true rfl) ?_
      refine b_ifb_eq (pc := 25) (tgt := 39) (dd dtX10_holdsUnlikeCells 15 rfl) (by decide) (fun h25 => ?_) (fun h25 => ?_)
      · simp only [nI_clamp (show h < 2 ^ 31 by omega)] at h25
        try simp only [nI_clamp (show h < 2 ^ 31 by omega)] at h36
        have hno : ¬ ucP (I (k + 1)) z := fun q => by first | exact h25 (q h hlt).1 | (rw [lcmp0] at h36; exact h36 (q h hlt).2)
        refine b_ic0 (pc := 39) (dd dtX10_holdsUnlikeCells 24 rfl) ?_
        refine b_eq (b_zret (dd dtX10_holdsUnlikeCells 25 rfl) rfl (by first | rfl | exact nar_bi)) ?_ ?_
        · rw [bi_f hno]
        · rfl
      · refine b_lload_n (pc := 28) (i := 1) (dd dtX10_holdsUnlikeCells 16 rfl) rfl rfl ?_
        refine b_iload (pc := 29) (i := 4) (dd dtX10_holdsUnlikeCells 17 rfl) rfl ?_
        refine b_lushr (pc := 31) (dd dtX10_holdsUnlikeCells 18 rfl) ?_
        refine b_lconst (pc := 32) (v := 1) (dd dtX10_holdsUnlikeCells 19 rfl) (by decide) ?_
        refine b_land (pc := 33) (dd dtX10_holdsUnlikeCells 20 rfl) ?_
        refine b_lconst (pc := 34) (v := 0) (dd dtX10_holdsUnlikeCells 21 rfl) (by decide) ?_
        refine b_lcmp (pc := 35) (dd dtX10_holdsUnlikeCells 22 rfl) ?_
        refine b_if_eq (pc := 36) (tgt := 41) (dd dtX10_holdsUnlikeCells 23 rfl) (by decide) (fun h36 => ?_) (fun h36 => ?_)
        · simp only [nI_clamp (show h < 2 ^ 31 by omega)] at h25 h36
          rw [lcmp0] at h36
          refine b_lload_n (pc := 41) (i := 1) (dd dtX10_holdsUnlikeCells 26 rfl) rfl rfl ?_
          refine b_lconst (pc := 42) (v := 1) (dd dtX10_holdsUnlikeCells 27 rfl) (by decide) ?_
          refine b_iload (pc := 43) (i := 4) (dd dtX10_holdsUnlikeCells 28 rfl) rfl ?_
          refine b_lshl (pc := 45) (dd dtX10_holdsUnlikeCells 29 rfl) ?_
          refine b_lor (pc := 46) (dd dtX10_holdsUnlikeCells 30 rfl) ?_
          refine b_lstore_n (pc := 47) (i := 1) (lv' := [(1, _), (4, _), (3, _), (0, _)]) (dd dtX10_holdsUnlikeCells 31 rfl) rfl ⟨Nat.le_of_ble_eq_true rfl, Nat.le_of_ble_eq_true rfl⟩ rfl ?_
          refine b_iinc1 (pc := 48) (i := 3) (lv' := [(3, _), (1, _), (4, _), (0, _)]) (dd dtX10_holdsUnlikeCells 32 rfl) rfl (Nat.le_of_ble_eq_true rfl) rfl ?_
          refine b_goto (pc := 51) (tgt := 4) (dd dtX10_holdsUnlikeCells 33 rfl) (by decide) ?_
          refine b_pick [0, 1, 3] (lv' := [(3, _), (1, _), (0, _)]) rfl ?_
          rw [nI_1]
          refine ih (h + 1) _ _ hlt (by omega) rfl ?_ ?_
          · simp only [nI_clamp (show h < 2 ^ 31 by omega)]; rfl
          · intro i hi
            rcases Nat.lt_succ_iff_lt_or_eq.mp hi with q | q
            · exact hI i q
            · subst q; exact ⟨h25, h36⟩
        · simp only [nI_clamp (show h < 2 ^ 31 by omega)] at h25
          try simp only [nI_clamp (show h < 2 ^ 31 by omega)] at h36
          have hno : ¬ ucP (I (k + 1)) z := fun q => by first | exact h25 (q h hlt).1 | (rw [lcmp0] at h36; exact h36 (q h hlt).2)
          refine b_ic0 (pc := 39) (dd dtX10_holdsUnlikeCells 24 rfl) ?_
          refine b_eq (b_zret (dd dtX10_holdsUnlikeCells 25 rfl) rfl (by first | rfl | exact nar_bi)) ?_ ?_
          · rw [bi_f hno]
          · rfl
set_option maxHeartbeats 4000000 in
theorem c_X10_holdsUnlikeCells {I : Wd} {k z : Nat} (hk : isS k) (hz : I k 1 = nI z) (hz2 : z ≤ 40) : Cal SyC mX10_holdsUnlikeCells 2 [.ref k] I (some (.int (bi (ucP (I (k + 1)) z)))) I := by
  refine Cal.of (by decide) (Nat.le_of_ble_eq_true rfl) ?_
  show Bd _ _ _ _ [(0, _)] _ _ _ _
  refine b_lconst (pc := 0) (v := 0) (dd dtX10_holdsUnlikeCells 0 rfl) (by decide) ?_
  refine b_lstore_n (pc := 1) (i := 1) (lv' := [(1, _), (0, _)]) (dd dtX10_holdsUnlikeCells 1 rfl) rfl ⟨Nat.le_of_ble_eq_true rfl, Nat.le_of_ble_eq_true rfl⟩ rfl ?_
  refine b_ic0 (pc := 2) (dd dtX10_holdsUnlikeCells 2 rfl) ?_
  refine b_istore_n (pc := 3) (i := 3) (lv' := [(3, _), (1, _), (0, _)]) (dd dtX10_holdsUnlikeCells 3 rfl) rfl (Nat.le_of_ble_eq_true rfl) rfl ?_
  exact l_X10_holdsUnlikeCells hk hz hz2 (z + 1) 0 _ _ (Nat.zero_le _) (by omega) rfl rfl (fun i hi => absurd hi (Nat.not_lt_zero i))
def nrM (nums : Nat → Int32) (c : Int32) : Nat → Int32
  | 0 => 0
  | i + 1 => nrM nums c i ||| (if farP c (nums i) then 0 else (1 : Int32) <<< (nI i &&& 31))
def gat1 (nums : Nat → Int32) (z : Nat) (known : Int32) (J : Wd) (k : Nat) : Wd :=
  if nrM nums (J 50 k) z = 0 then J else if known < J 52 k then J else ist (ist (ist J 64 (J 57 10).toNatClampNeg (J 51 k)) 65 (J 57 10).toNatClampNeg (nrM nums (J 50 k) z)) 57 10 (J 57 10 + 1)
def gatW (nums : Nat → Int32) (z : Nat) (known : Int32) (J : Wd) : Nat → Wd
  | 0 => ist J 57 10 0
  | k + 1 => gat1 nums z known (gatW nums z known J k) k
theorem gatW_fr {nums : Nat → Int32} {z : Nat} {known : Int32} {J : Wd} {k a : Nat} (h : a ≠ 57) (h4 : a ≠ 64) (h5 : a ≠ 65) : gatW nums z known J k a = J a := by
  induction k with
  | zero => exact ist_ne h
  | succ k ih => unfold gatW gat1; split <;> (try split) <;> simp only [ist_ne h, ist_ne h4, ist_ne h5, ih]
theorem gatW_0 {nums : Nat → Int32} {z : Nat} {known : Int32} {J : Wd} {k j : Nat} (h : j ≠ 10) : gatW nums z known J k 57 j = J 57 j := by
  induction k with
  | zero => show ist J 57 10 0 57 j = _; rw [ist_eq, upd_ne h]
  | succ k ih =>
    unfold gatW gat1
    split
    · exact ih
    · split
      · exact ih
      · rw [ist_eq, upd_ne h, ist_ne (by decide), ist_ne (by decide)]; exact ih
theorem gatW_n {nums : Nat → Int32} {z : Nat} {known : Int32} {J : Wd} {k : Nat} : ∃ q, q ≤ k ∧ gatW nums z known J k 57 10 = nI q := by
  induction k with
  | zero => exact ⟨0, Nat.le_refl _, by show ist J 57 10 0 57 10 = _; rw [ist_eq, upd_eq]; rfl⟩
  | succ k ih =>
    obtain ⟨q, h1, h2⟩ := ih
    unfold gatW gat1
    split
    · exact ⟨q, by omega, h2⟩
    · split
      · exact ⟨q, by omega, h2⟩
      · exact ⟨q + 1, by omega, by rw [ist_eq, upd_eq, h2, nI_1]⟩
def tk : Nat → Nat → Wd → Bool × Wd
  | 0, _, J => (true, J)
  | i + 1, r, J => if tbSizes.getD (r % 5) 0 < J 61 i then (false, ist J 63 i (tbSizes.getD (r % 5) 0)) else if J 62 i < tbSizes.getD (r % 5) 0 then (false, ist J 63 i (tbSizes.getD (r % 5) 0)) else tk i (r / 5) (ist J 63 i (tbSizes.getD (r % 5) 0))
def sNd (nof sizes : Nat → Int32) (k : Nat) : Nat → Int32
  | 0 => 0
  | i + 1 => sNd nof sizes k i + (if bitS (nof k) i = 0 then 0 else sizes i)
abbrev mnP (J : Wd) (z q : Nat) : Prop := ∀ k, k < q → ¬ sNd (J 65) (J 63) k z < J 64 k
def sFew (sizes : Nat → Int32) : Nat → Int32
  | 0 => 0
  | i + 1 => sFew sizes i + (if 0 < sizes i then 1 else 0)
def sSum (sizes : Nat → Int32) : Nat → Int32
  | 0 => 0
  | i + 1 => sSum sizes i + sizes i
def wgNew (J : Wd) (z : Nat) : Wd := rset (rset (rset (ist (ist (ist J 57 1 1) 57 2 (sFew (J 63) z)) 57 3 (sSum (J 63) z)) 58 (fil (J 63) (J 58) 5)) 59 (fil (J 63) (J 59) 5)) 60 (fil (J 63) (J 60) 5)
def mx (x y : Int32) : Int32 := if x < y then y else x
def wgTie (J : Wd) (h : Nat) : Wd := rset (rset (ist J 57 1 (J 57 1 + 1)) 59 (fil (fun i => mn (J 59 i) (J 63 i)) (J 59) h)) 60 (fil (fun i => mx (J 60 i) (J 63 i)) (J 60) h)
def wgW (J : Wd) (z : Nat) : Wd :=
  if J 57 1 = 0 ∨ sFew (J 63) z < J 57 2 ∨ (sFew (J 63) z = J 57 2 ∧ sSum (J 63) z < J 57 3) then wgNew J z
  else if sFew (J 63) z = J 57 2 ∧ sSum (J 63) z = J 57 3 then wgTie J z else J
def sr1 (z q : Nat) (J : Wd) (h : Nat) : Wd := if (tk z h J).1 = true then (if mnP (tk z h J).2 z q then wgW (tk z h J).2 z else (tk z h J).2) else (tk z h J).2
def srW (z q : Nat) (J : Wd) : Nat → Wd
  | 0 => J
  | h + 1 => sr1 z q (srW z q J h) h
def loF (I : Wd) (K k : Nat) (known : Int32) (i : Nat) : Int32 := sLo (I 43) (I 44) (I 46) (sVal (I 48) (I 47) (I 45) known) (I (k + 1) i) known 0 K
def hiF (I : Wd) (K k : Nat) (known : Int32) (i : Nat) : Int32 := sHi (I 43) (I 44) (I 46) (sVal (I 48) (I 47) (I 45) known) (I (k + 1) i) known 0 K
def spW (I : Wd) (K k z : Nat) (known : Int32) (h : Nat) : Wd := rset (rset (ist (ist I 57 0 (nI z)) 57 1 0) 61 (fil (loF I K k known) (I 61) h)) 62 (fil (hiF I K k known) (I 62) h)
