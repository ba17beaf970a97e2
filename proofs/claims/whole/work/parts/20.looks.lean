def planJ (N P : Nat) (I : Wd) (n : Int32) : Wd := monthsW 18 N P (becomeW 18 6 I) n.toNatClampNeg
theorem planJ_fr {N P : Nat} {I : Wd} {n : Int32} {a : Nat} (h : a < 18 ∨ 29 < a) : planJ N P I n a = I a := by
  unfold planJ
  rw [monthsW_fr (by omega) (by omega) (by omega) (by omega) (by omega) (by omega) (by omega) (by omega) (by omega), becomeW_fr (by omega)]
abbrev hhP (I : Wd) (s : Int32) (z : Nat) : Prop := ¬ 8 < nI z ∧ ∀ i, i < z → inR (I (kS s + 1) i) 0 (I 1 0 - 1)
theorem le8 {z : Nat} (h : ¬ 8 < nI z) (hz : z ≤ 40) : z ≤ 8 := Nat.le_of_not_lt fun q => h (nI_lt q (by omega))
theorem kS_ge {s : Int32} : 99 ≤ kS s := Nat.le_add_right _ _
set_option maxHeartbeats 4000000 in
theorem c_X10_plan {I : Wd} {N P z : Nat} {s room n : Int32} (hF : FG 6 I N P) (hb : ∀ i, i < 14 → fits .boolean (.int (I 15 i)) = true) (hz0 : inR s 0 3 → I (kS s) 1 = nI z ∧ z ≤ 40) : Cal SyC mX10_plan 5 [.ref 0, .int s, .int room, .int n] I (some (.long (if okPlan (I (kS s) 0 = -1) (hhP I s z) (I 6 1) s room n then (planJ N P I n 18 4 - I 6 4 - (plS I (planJ N P I n) (kS s) z N room (2 ^ z)).1).toInt64 else -4611686018427387904))) (if okPlan (I (kS s) 0 = -1) (hhP I s z) (I 6 1) s room n then ist (planJ N P I n) 0 13 (plS I (planJ N P I n) (kS s) z N room (2 ^ z)).2 else I) := by
  refine Cal.of (by decide) (Nat.le_of_ble_eq_true rfl) ?_
  show Bd _ _ _ _ [(0, _), (1, _), (2, _), (3, _)] _ _ _ _
  refine b_iload_n (pc := 0) (i := 1) (dd dtX10_plan 0 rfl) rfl rfl ?_
  refine b_invS (pc := 1) (dd dtX10_plan 1 rfl) mlX10_208 mvX10_isSheet msX10_isSheet (c_X10_isSheet) rfl rfl (by decide) (Nat.le_of_ble_eq_true rfl) ?_
  refine b_ifb_eq (pc := 4) (tgt := 19) (dd dtX10_plan 2 rfl) (by decide) (fun h4 => ?_) (fun h4 => ?_)
  · refine b_ldc2 (pc := 19) (dd dtX10_plan 9 rfl) kcX10_256 ?_
    refine b_eq (b_lret (dd dtX10_plan 10 rfl) rfl) ?_ ?_
    · rw [if_neg]; rintro ⟨⟨q1, q2⟩, ⟨q3, q4⟩, q5, q6⟩; first | exact h4 q1 | exact q2 h16 | exact h37 q3 | exact h48 q4 | exact h62 q5 | exact q6 h70
    · rw [if_neg]; rintro ⟨⟨q1, q2⟩, ⟨q3, q4⟩, q5, q6⟩; first | exact h4 q1 | exact q2 h16 | exact h37 q3 | exact h48 q4 | exact h62 q5 | exact q6 h70
  · refine b_aload_n (pc := 7) (i := 0) (dd dtX10_plan 3 rfl) rfl rfl ?_
    refine b_geta (pc := 8) (dd dtX10_plan 4 rfl) fwX10_70 pC_0 rC_0_10 ?_
    refine b_iload_n (pc := 11) (i := 1) (dd dtX10_plan 5 rfl) rfl rfl ?_
    refine b_aald (pc := 12) (q := kS s) (dd dtX10_plan 6 rfl) pC_98 (by decide) ((sheet_k h4).2.1) ((sheet_k h4).2.2) ?_
    refine b_invV (pc := 13) (dd dtX10_plan 7 rfl) mlX10_211 mvX5_isMissing miX5_isMissing (c_X5_isMissing (sheet_k h4).1) (oS (sheet_k h4).1) rfl rfl (by decide) (Nat.le_of_ble_eq_true rfl) ?_
    refine b_ifb_eq (pc := 16) (tgt := 23) (dd dtX10_plan 8 rfl) (by decide) (fun h16 => ?_) (fun h16 => ?_)
    · obtain ⟨hz, hz2⟩ := hz0 h4
      clear hz0
      refine b_aload_n (pc := 23) (i := 0) (dd dtX10_plan 11 rfl) rfl rfl ?_
      refine b_geta (pc := 24) (dd dtX10_plan 12 rfl) fwX10_70 pC_0 rC_0_10 ?_
      refine b_iload_n (pc := 27) (i := 1) (dd dtX10_plan 13 rfl) rfl rfl ?_
      refine b_aald (pc := 28) (q := kS s) (dd dtX10_plan 14 rfl) pC_98 (by decide) ((sheet_k h4).2.1) ((sheet_k h4).2.2) ?_
      refine b_astore (pc := 29) (i := 4) (lv' := [(4, _), (0, _), (1, _), (2, _), (3, _)]) (dd dtX10_plan 15 rfl) (Nat.le_of_ble_eq_true rfl) rfl ?_
      refine b_aload_n (pc := 31) (i := 0) (dd dtX10_plan 16 rfl) rfl rfl ?_
      refine b_aload (pc := 32) (i := 4) (dd dtX10_plan 17 rfl) rfl ?_
      refine b_invV (pc := 34) (dd dtX10_plan 18 rfl) mlX10_334 mvX10_holdsHouses miX10_holdsHouses (c_X10_holdsHouses (sheet_k h4).1 hz hz2) oC_0 rfl rfl (by decide) (Nat.le_of_ble_eq_true rfl) ?_
      refine b_ifb_eq (pc := 37) (tgt := 51) (dd dtX10_plan 19 rfl) (by decide) (fun h37 => ?_) (fun h37 => ?_)
      · refine b_ldc2 (pc := 51) (dd dtX10_plan 25 rfl) kcX10_256 ?_
        refine b_eq (b_lret (dd dtX10_plan 26 rfl) rfl) ?_ ?_
        · rw [if_neg]; rintro ⟨⟨q1, q2⟩, ⟨q3, q4⟩, q5, q6⟩; first | exact h4 q1 | exact q2 h16 | exact h37 q3 | exact h48 q4 | exact h62 q5 | exact q6 h70
        · rw [if_neg]; rintro ⟨⟨q1, q2⟩, ⟨q3, q4⟩, q5, q6⟩; first | exact h4 q1 | exact q2 h16 | exact h37 q3 | exact h48 q4 | exact h62 q5 | exact q6 h70
      · refine b_iload_n (pc := 40) (i := 2) (dd dtX10_plan 20 rfl) rfl rfl ?_
        refine b_ic0 (pc := 41) (dd dtX10_plan 21 rfl) ?_
        refine b_sipush (pc := 42) (v := 999) (dd dtX10_plan 22 rfl) (by decide) ?_
        refine b_invS (pc := 45) (dd dtX10_plan 23 rfl) mlX10_97 mvX10_within msX10_within (c_X10_within) rfl rfl (by decide) (Nat.le_of_ble_eq_true rfl) ?_
        refine b_ifb_ne (pc := 48) (tgt := 55) (dd dtX10_plan 24 rfl) (by decide) (fun h48 => ?_) (fun h48 => ?_)
        · refine b_iload_n (pc := 55) (i := 3) (dd dtX10_plan 27 rfl) rfl rfl ?_
          refine b_ic1 (pc := 56) (dd dtX10_plan 28 rfl) ?_
          refine b_bipush (pc := 57) (v := 60) (dd dtX10_plan 29 rfl) (by decide) ?_
          refine b_invS (pc := 59) (dd dtX10_plan 30 rfl) mlX10_97 mvX10_within msX10_within (c_X10_within) rfl rfl (by decide) (Nat.le_of_ble_eq_true rfl) ?_
          refine b_ifb_eq (pc := 62) (tgt := 73) (dd dtX10_plan 31 rfl) (by decide) (fun h62 => ?_) (fun h62 => ?_)
          · refine b_ldc2 (pc := 73) (dd dtX10_plan 36 rfl) kcX10_256 ?_
            refine b_eq (b_lret (dd dtX10_plan 37 rfl) rfl) ?_ ?_
            · rw [if_neg]; rintro ⟨⟨q1, q2⟩, ⟨q3, q4⟩, q5, q6⟩; first | exact h4 q1 | exact q2 h16 | exact h37 q3 | exact h48 q4 | exact h62 q5 | exact q6 h70
            · rw [if_neg]; rintro ⟨⟨q1, q2⟩, ⟨q3, q4⟩, q5, q6⟩; first | exact h4 q1 | exact q2 h16 | exact h37 q3 | exact h48 q4 | exact h62 q5 | exact q6 h70
          · refine b_aload_n (pc := 65) (i := 0) (dd dtX10_plan 32 rfl) rfl rfl ?_
            refine b_iload_n (pc := 66) (i := 3) (dd dtX10_plan 33 rfl) rfl rfl ?_
            refine b_invV (pc := 67) (dd dtX10_plan 34 rfl) mlX10_144 mvX10_monthsAreLeft miX10_monthsAreLeft (c_X10_monthsAreLeft) oC_0 rfl rfl (by decide) (Nat.le_of_ble_eq_true rfl) ?_
            refine b_ifn_ne (pc := 70) (tgt := 77) (dd dtX10_plan 35 rfl) (by decide) (fun h70 => ?_) (fun h70 => ?_)
            · refine b_aload_n (pc := 77) (i := 0) (dd dtX10_plan 38 rfl) rfl rfl ?_
              refine b_geta (pc := 78) (dd dtX10_plan 39 rfl) fwX10_25 pC_0 rC_0_2 ?_
              refine b_aload_n (pc := 81) (i := 0) (dd dtX10_plan 40 rfl) rfl rfl ?_
              refine b_geta (pc := 82) (dd dtX10_plan 41 rfl) fwX10_21 pC_0 rC_0_1 ?_
              refine b_invV (pc := 85) (dd dtX10_plan 42 rfl) mlX10_324 mvX2_become miX2_become (c_X2_become (Or.inr (Or.inl rfl)) (Or.inl rfl) (by decide) hb) oC_18 rfl rfl (by decide) (Nat.le_of_ble_eq_true rfl) ?_
              refine b_aload_n (pc := 88) (i := 0) (dd dtX10_plan 43 rfl) rfl rfl ?_
              refine b_geta (pc := 89) (dd dtX10_plan 44 rfl) fwX10_25 pC_0 rC_0_2 ?_
              refine b_iload_n (pc := 92) (i := 3) (dd dtX10_plan 45 rfl) rfl rfl ?_
              refine b_invV (pc := 93) (dd dtX10_plan 46 rfl) mlX10_147 mvX2_passMonths miX2_passMonths (c_pass (Or.inr (Or.inl rfl)) (FG.bes hF) h62) oC_18 rfl rfl (by decide) (Nat.le_of_ble_eq_true rfl) ?_
              refine b_ic0 (pc := 96) (dd dtX10_plan 47 rfl) ?_
              refine b_istore (pc := 97) (i := 5) (lv' := [(5, _), (4, _), (0, _), (1, _), (2, _), (3, _)]) (dd dtX10_plan 48 rfl) (Nat.le_of_ble_eq_true rfl) rfl ?_
              refine b_aload_n (pc := 99) (i := 0) (dd dtX10_plan 49 rfl) rfl rfl ?_
              refine b_ic0 (pc := 100) (dd dtX10_plan 50 rfl) ?_
              refine b_puti (pc := 101) (dd dtX10_plan 51 rfl) fwX10_82 pC_0 ?_
              refine b_ic1 (pc := 104) (dd dtX10_plan 52 rfl) ?_
              refine b_istore (pc := 105) (i := 6) (lv' := [(6, _), (5, _), (4, _), (0, _), (1, _), (2, _), (3, _)]) (dd dtX10_plan 53 rfl) (Nat.le_of_ble_eq_true rfl) rfl ?_
              refine b_eq (l_X10_plan (I := I) (J := planJ N P I n) (sheet_k h4).1 (by rw [planJ_fr (Or.inr (Nat.lt_of_lt_of_le (by decide) kS_ge))]; exact hz) (le8 h37.1 hz2) (by rw [planJ_fr (Or.inl (by decide))]; exact hF.1.1) hF.1.2 (fun a _ ha => planJ_fr ha) (2 ^ z + 1) 1 _ _ _ (pow_n z (le8 h37.1 hz2)).1 (by omega) rfl rfl (Nat.le_refl _) rfl) ?_ ?_
              · rw [if_pos ⟨⟨h4, h16⟩, ⟨h37, h48⟩, h62, h70⟩, planJ_fr (a := 6) (Or.inl (by decide))]
              · rw [if_pos ⟨⟨h4, h16⟩, ⟨h37, h48⟩, h62, h70⟩]
            · refine b_ldc2 (pc := 73) (dd dtX10_plan 36 rfl) kcX10_256 ?_
              refine b_eq (b_lret (dd dtX10_plan 37 rfl) rfl) ?_ ?_
              · rw [if_neg]; rintro ⟨⟨q1, q2⟩, ⟨q3, q4⟩, q5, q6⟩; first | exact h4 q1 | exact q2 h16 | exact h37 q3 | exact h48 q4 | exact h62 q5 | exact q6 h70
              · rw [if_neg]; rintro ⟨⟨q1, q2⟩, ⟨q3, q4⟩, q5, q6⟩; first | exact h4 q1 | exact q2 h16 | exact h37 q3 | exact h48 q4 | exact h62 q5 | exact q6 h70
        · refine b_ldc2 (pc := 51) (dd dtX10_plan 25 rfl) kcX10_256 ?_
          refine b_eq (b_lret (dd dtX10_plan 26 rfl) rfl) ?_ ?_
          · rw [if_neg]; rintro ⟨⟨q1, q2⟩, ⟨q3, q4⟩, q5, q6⟩; first | exact h4 q1 | exact q2 h16 | exact h37 q3 | exact h48 q4 | exact h62 q5 | exact q6 h70
          · rw [if_neg]; rintro ⟨⟨q1, q2⟩, ⟨q3, q4⟩, q5, q6⟩; first | exact h4 q1 | exact q2 h16 | exact h37 q3 | exact h48 q4 | exact h62 q5 | exact q6 h70
    · refine b_ldc2 (pc := 19) (dd dtX10_plan 9 rfl) kcX10_256 ?_
      refine b_eq (b_lret (dd dtX10_plan 10 rfl) rfl) ?_ ?_
      · rw [if_neg]; rintro ⟨⟨q1, q2⟩, ⟨q3, q4⟩, q5, q6⟩; first | exact h4 q1 | exact q2 h16 | exact h37 q3 | exact h48 q4 | exact h62 q5 | exact q6 h70
      · rw [if_neg]; rintro ⟨⟨q1, q2⟩, ⟨q3, q4⟩, q5, q6⟩; first | exact h4 q1 | exact q2 h16 | exact h37 q3 | exact h48 q4 | exact h62 q5 | exact q6 h70
/-! looks -/
def sPr (nums : Nat → Int32) (set : Int32) : Nat → Int32
  | 0 => 0
  | i + 1 => if bitS set i = 0 then sPr nums set i else sPr nums set i + nums (2 * i + 1)
/-- worth of the set's first i looks, and the cells seen -/
def sWo (nums lw : Nat → Int32) (set : Int32) : Nat → Int32 × Int64
  | 0 => (0, 0)
  | i + 1 => if bitS set i = 0 then sWo nums lw set i else if (sWo nums lw set i).2 &&& ((1 : Int64) <<< ((nums (2 * i)).toInt64 &&& 63)) = 0 then ((sWo nums lw set i).1 + lw i, (sWo nums lw set i).2 ||| ((1 : Int64) <<< ((nums (2 * i)).toInt64 &&& 63))) else sWo nums lw set i
def lkW (I : Wd) (K N : Nat) (c known : Int32) : Int32 := (if 0 < sHi (I 43) (I 44) (I 46) (sVal (I 48) (I 47) (I 45) known) c known 0 K - sLo (I 43) (I 44) (I 46) (sVal (I 48) (I 47) (I 45) known) c known 0 K - 30 then sHi (I 43) (I 44) (I 46) (sVal (I 48) (I 47) (I 45) known) c known 0 K - sLo (I 43) (I 44) (I 46) (sVal (I 48) (I 47) (I 45) known) c known 0 K - 30 else 0) * (sPeople (I 2) (I 14) (I 15) (I 4) c N + 1)
theorem lcmp0 {x : Int64} : lg_cmp x 0 = 0 ↔ x = 0 := by
  unfold lg_cmp
  by_cases h1 : (0 : Int64) < x
  · rw [if_pos h1]
    exact ⟨fun e => absurd e (by decide), fun e => by subst e; exact absurd h1 (by decide)⟩
  · rw [if_neg h1]
    by_cases h2 : x = 0
    · rw [if_pos h2]; exact ⟨fun _ => h2, fun _ => rfl⟩
    · rw [if_neg h2]; exact ⟨fun e => absurd e (by decide), fun e => absurd e h2⟩
def tX10_worthOfLook : List (Nat × Instr × Nat) := [(0, .aload_n 0, 1), (1, .getfield 38, 3), (4, .iload_n 1, 1), (5, .iload_n 2, 1), (6, .iconst 0, 1), (7, .invokevirtual 199, 3), (10, .aload_n 0, 1), (11, .getfield 38, 3), (14, .iload_n 1, 1), (15, .iload_n 2, 1), (16, .iconst 0, 1), (17, .invokevirtual 196, 3), (20, .isub, 1), (21, .istore_n 3, 1), (22, .iconst 0, 1), (23, .iload_n 3, 1), (24, .bipush 30, 2), (26, .isub, 1), (27, .invokestatic 274, 3), (30, .aload_n 0, 1), (31, .getfield 21, 3), (34, .iload_n 1, 1), (35, .invokevirtual 261, 3), (38, .iconst 1, 1), (39, .iadd, 1), (40, .imul, 1), (41, .ireturn, 1)]
theorem dtX10_worthOfLook : dec_ok mX10_worthOfLook.2.1 tX10_worthOfLook = true := by decide +kernel
set_option maxHeartbeats 4000000 in
theorem c_X10_worthOfLook {I : Wd} {K N : Nat} {c known : Int32} (hK : I 42 0 = nI K) (hK2 : K ≤ 30) (hN : I 1 0 = nI N) (hN2 : N ≤ 14) : Cal SyC mX10_worthOfLook 3 [.ref 0, .int c, .int known] I (some (.int (lkW I K N c known))) I := by
  refine Cal.of (by decide) (Nat.le_of_ble_eq_true rfl) ?_
  show Bd _ _ _ _ [(0, _), (1, _), (2, _)] _ _ _ _
  refine b_aload_n (pc := 0) (i := 0) (dd dtX10_worthOfLook 0 rfl) rfl rfl ?_
  refine b_geta (pc := 1) (dd dtX10_worthOfLook 1 rfl) fwX10_38 pC_0 rC_0_5 ?_
  refine b_iload_n (pc := 4) (i := 1) (dd dtX10_worthOfLook 2 rfl) rfl rfl ?_
  refine b_iload_n (pc := 5) (i := 2) (dd dtX10_worthOfLook 3 rfl) rfl rfl ?_
  refine b_ic0 (pc := 6) (dd dtX10_worthOfLook 4 rfl) ?_
  refine b_invV (pc := 7) (dd dtX10_worthOfLook 5 rfl) mlX10_199 mvX6_most miX6_most (c_X6_most hK hK2) oC_42 rfl rfl (by decide) (Nat.le_of_ble_eq_true rfl) ?_
  refine b_aload_n (pc := 10) (i := 0) (dd dtX10_worthOfLook 6 rfl) rfl rfl ?_
  refine b_geta (pc := 11) (dd dtX10_worthOfLook 7 rfl) fwX10_38 pC_0 rC_0_5 ?_
  refine b_iload_n (pc := 14) (i := 1) (dd dtX10_worthOfLook 8 rfl) rfl rfl ?_
  refine b_iload_n (pc := 15) (i := 2) (dd dtX10_worthOfLook 9 rfl) rfl rfl ?_
  refine b_ic0 (pc := 16) (dd dtX10_worthOfLook 10 rfl) ?_
  refine b_invV (pc := 17) (dd dtX10_worthOfLook 11 rfl) mlX10_196 mvX6_least miX6_least (c_X6_least hK hK2) oC_42 rfl rfl (by decide) (Nat.le_of_ble_eq_true rfl) ?_
  refine b_isub (pc := 20) (dd dtX10_worthOfLook 12 rfl) ?_
  refine b_istore_n (pc := 21) (i := 3) (lv' := [(3, _), (0, _), (1, _), (2, _)]) (dd dtX10_worthOfLook 13 rfl) rfl (Nat.le_of_ble_eq_true rfl) rfl ?_
  refine b_ic0 (pc := 22) (dd dtX10_worthOfLook 14 rfl) ?_
  refine b_iload_n (pc := 23) (i := 3) (dd dtX10_worthOfLook 15 rfl) rfl rfl ?_
  refine b_bipush (pc := 24) (v := 30) (dd dtX10_worthOfLook 16 rfl) (by decide) ?_
  refine b_isub (pc := 26) (dd dtX10_worthOfLook 17 rfl) ?_
  refine b_mmax (pc := 27) (dd dtX10_worthOfLook 18 rfl) wlX10_274 (Nat.le_of_ble_eq_true rfl) ?_
  refine b_aload_n (pc := 30) (i := 0) (dd dtX10_worthOfLook 19 rfl) rfl rfl ?_
  refine b_geta (pc := 31) (dd dtX10_worthOfLook 20 rfl) fwX10_21 pC_0 rC_0_1 ?_
  refine b_iload_n (pc := 34) (i := 1) (dd dtX10_worthOfLook 21 rfl) rfl rfl ?_
  refine b_invV (pc := 35) (dd dtX10_worthOfLook 22 rfl) mlX10_261 mvX2_peopleAt miX2_peopleAt (c_X2_peopleAt_6 hN hN2) oC_6 rfl rfl (by decide) (Nat.le_of_ble_eq_true rfl) ?_
  refine b_ic1 (pc := 38) (dd dtX10_worthOfLook 23 rfl) ?_
  refine b_iadd (pc := 39) (dd dtX10_worthOfLook 24 rfl) ?_
  refine b_imul (pc := 40) (dd dtX10_worthOfLook 25 rfl) ?_
  refine b_eq (b_iret (dd dtX10_worthOfLook 26 rfl) rfl) ?_ ?_
  · rfl
  · rfl
def tX10_holdsLooks : List (Nat × Instr × Nat) := [(0, .aload_n 0, 1), (1, .getfield 214, 3), (4, .iconst 2, 1), (5, .irem, 1), (6, .ifCond .ne 12, 3), (9, .aload_n 0, 1), (10, .getfield 214, 3), (13, .bipush 16, 2), (15, .if_icmp .le 5, 3), (18, .iconst 0, 1), (19, .ireturn, 1), (20, .iconst 0, 1), (21, .istore_n 1, 1), (22, .iload_n 1, 1), (23, .iconst 1, 1), (24, .iadd, 1), (25, .aload_n 0, 1), (26, .getfield 214, 3), (29, .if_icmp .ge 41, 3), (32, .aload_n 0, 1), (33, .getfield 284, 3), (36, .iload_n 1, 1), (37, .iaload, 1), (38, .invokestatic 93, 3), (41, .ifCond .eq 21, 3), (44, .aload_n 0, 1), (45, .getfield 284, 3), (48, .iload_n 1, 1), (49, .iconst 1, 1), (50, .iadd, 1), (51, .iaload, 1), (52, .iconst 1, 1), (53, .sipush 9999, 3), (56, .invokestatic 97, 3), (59, .ifCond .ne 5, 3), (62, .iconst 0, 1), (63, .ireturn, 1), (64, .iinc 1 2, 3), (67, .goto (-45), 3), (70, .iconst 1, 1), (71, .ireturn, 1)]
theorem dtX10_holdsLooks : dec_ok mX10_holdsLooks.2.1 tX10_holdsLooks = true := by decide +kernel
theorem add1n {h : Nat} : nI h + 1 = nI (h + 1) := nI_add h 1
theorem rem2 {z : Nat} (hz : z < 2 ^ 31) : nI z - nI z / 2 * 2 = nI (z % 2) := pk_rem (d := 2) hz (by decide) (by decide)
theorem div2 {z : Nat} (hz : z < 2 ^ 31) : nI z / 2 = nI (z / 2) := pk_div (d := 2) hz (by decide) (by decide)
abbrev okL (nums : Nat → Int32) (z : Nat) : Prop := ∀ i, i < z / 2 → inR (nums (2 * i)) 0 63 ∧ inR (nums (2 * i + 1)) 1 9999
abbrev hlP (nums : Nat → Int32) (z : Nat) : Prop := (z % 2 = 0 ∧ z ≤ 16) ∧ okL nums z
set_option maxHeartbeats 4000000 in
theorem l_X10_holdsLooks {I : Wd} {k z : Nat} (hk : isS k) (hz : I k 1 = nI z) (hz2 : z ≤ 16) (he : z % 2 = 0) : ∀ (n t : Nat) (x1 : Int32), t ≤ z / 2 → z / 2 < t + n → x1 = nI (2 * t) → (∀ i, i < t → inR (I (k + 1) (2 * i)) 0 63 ∧ inR (I (k + 1) (2 * i + 1)) 1 9999) → Bd SyC mX10_holdsLooks 2 22 [(1, .int x1), (0, .ref k)] [] I (some (.int (bi (hlP (I (k + 1)) z)))) I := by
  intro n
  induction n with
  | zero => intro t x1 h1 h2; omega
  | succ n ih =>
    intro t x1 h1 h2 e1 hI
    subst e1
    refine b_iload_n (pc := 22) (i := 1) (dd dtX10_holdsLooks 13 rfl) rfl rfl ?_
    refine b_ic1 (pc := 23) (dd dtX10_holdsLooks 14 rfl) ?_
    refine b_iadd (pc := 24) (dd dtX10_holdsLooks 15 rfl) ?_
    refine b_aload_n (pc := 25) (i := 0) (dd dtX10_holdsLooks 16 rfl) rfl rfl ?_
    refine b_geti (pc := 26) (dd dtX10_holdsLooks 17 rfl) fwX10_214 (pS_0 hk) ?_
    rw [add1n, hz]
    refine b_icmpL_ge (pc := 29) (tgt := 70) (dd dtX10_holdsLooks 18 rfl) (by decide) (fun h29 => ?_) (fun h29 => ?_)
    · have ht : t = z / 2 := by have := ge_n h29 (by omega); omega
      subst ht
      refine b_ic1 (pc := 70) (dd dtX10_holdsLooks 39 rfl) ?_
      refine b_eq (b_zret (dd dtX10_holdsLooks 40 rfl) rfl (by first | rfl | exact nar_bi)) ?_ ?_
      · rw [bi_t ⟨⟨he, hz2⟩, hI⟩]
      · rfl
    · have ht : t < z / 2 := by have := lt_n h29 (by omega) (by omega); omega
      refine b_aload_n (pc := 32) (i := 0) (dd dtX10_holdsLooks 19 rfl) rfl rfl ?_
      refine b_geta (pc := 33) (dd dtX10_holdsLooks 20 rfl) fwX10_284 (pS_0 hk) (rS_2 hk) ?_
      refine b_iload_n (pc := 36) (i := 1) (dd dtX10_holdsLooks 21 rfl) rfl rfl ?_
      refine b_iald (pc := 37) (dd dtX10_holdsLooks 22 rfl) (pS_1 hk) (vpn rfl (show 2 * t < 40 by omega) (by decide)) ?_
      refine b_invS (pc := 38) (dd dtX10_holdsLooks 23 rfl) mlX10_93 mvX10_isCell msX10_isCell (c_X10_isCell) rfl rfl (by decide) (Nat.le_of_ble_eq_true rfl) ?_
      refine b_ifb_eq (pc := 41) (tgt := 62) (dd dtX10_holdsLooks 24 rfl) (by decide) (fun h41 => ?_) (fun h41 => ?_)
      · try simp only [nI_clamp (show 2 * t < 2 ^ 31 by omega)] at h41
        try simp only [add1n, nI_clamp (show 2 * t + 1 < 2 ^ 31 by omega)] at h59
        have hno : ¬ hlP (I (k + 1)) z := fun q => by first | exact h41 (q.2 t ht).1 | exact h59 (q.2 t ht).2
        refine b_ic0 (pc := 62) (dd dtX10_holdsLooks 35 rfl) ?_
        refine b_eq (b_zret (dd dtX10_holdsLooks 36 rfl) rfl (by first | rfl | exact nar_bi)) ?_ ?_
        · rw [bi_f hno]
        · rfl
      · refine b_aload_n (pc := 44) (i := 0) (dd dtX10_holdsLooks 25 rfl) rfl rfl ?_
        refine b_geta (pc := 45) (dd dtX10_holdsLooks 26 rfl) fwX10_284 (pS_0 hk) (rS_2 hk) ?_
        refine b_iload_n (pc := 48) (i := 1) (dd dtX10_holdsLooks 27 rfl) rfl rfl ?_
        refine b_ic1 (pc := 49) (dd dtX10_holdsLooks 28 rfl) ?_
        refine b_iadd (pc := 50) (dd dtX10_holdsLooks 29 rfl) ?_
        refine b_iald (pc := 51) (dd dtX10_holdsLooks 30 rfl) (pS_1 hk) (by rw [add1n]; exact vpn rfl (show 2 * t + 1 < 40 by omega) (by decide)) ?_
        refine b_ic1 (pc := 52) (dd dtX10_holdsLooks 31 rfl) ?_
        refine b_sipush (pc := 53) (v := 9999) (dd dtX10_holdsLooks 32 rfl) (by decide) ?_
        refine b_invS (pc := 56) (dd dtX10_holdsLooks 33 rfl) mlX10_97 mvX10_within msX10_within (c_X10_within) rfl rfl (by decide) (Nat.le_of_ble_eq_true rfl) ?_
        refine b_ifb_ne (pc := 59) (tgt := 64) (dd dtX10_holdsLooks 34 rfl) (by decide) (fun h59 => ?_) (fun h59 => ?_)
        · simp only [nI_clamp (show 2 * t < 2 ^ 31 by omega)] at h41
          simp only [add1n, nI_clamp (show 2 * t + 1 < 2 ^ 31 by omega)] at h59
          refine b_iinc (pc := 64) (i := 1) (v := _ + (2)) (lv' := [(1, _), (0, _)]) (dd dtX10_holdsLooks 37 rfl) rfl rfl (Nat.le_of_ble_eq_true rfl) rfl ?_
          refine b_goto (pc := 67) (tgt := 22) (dd dtX10_holdsLooks 38 rfl) (by decide) ?_
          refine ih (t + 1) _ ht (by omega) ?_ ?_
          · show nI (2 * t) + nI 2 = _
            rw [nI_add]; congr 1
          · intro i hi
            rcases Nat.lt_succ_iff_lt_or_eq.mp hi with q | q
            · exact hI i q
            · subst q; exact ⟨h41, h59⟩
        · try simp only [nI_clamp (show 2 * t < 2 ^ 31 by omega)] at h41
          try simp only [add1n, nI_clamp (show 2 * t + 1 < 2 ^ 31 by omega)] at h59
          have hno : ¬ hlP (I (k + 1)) z := fun q => by first | exact h41 (q.2 t ht).1 | exact h59 (q.2 t ht).2
          refine b_ic0 (pc := 62) (dd dtX10_holdsLooks 35 rfl) ?_
          refine b_eq (b_zret (dd dtX10_holdsLooks 36 rfl) rfl (by first | rfl | exact nar_bi)) ?_ ?_
          · rw [bi_f hno]
          · rfl
set_option maxHeartbeats 4000000 in
theorem c_X10_holdsLooks {I : Wd} {k z : Nat} (hk : isS k) (hz : I k 1 = nI z) (hz2 : z ≤ 40) : Cal SyC mX10_holdsLooks 2 [.ref k] I (some (.int (bi (hlP (I (k + 1)) z)))) I := by
  refine Cal.of (by decide) (Nat.le_of_ble_eq_true rfl) ?_
  show Bd _ _ _ _ [(0, _)] _ _ _ _
  refine b_aload_n (pc := 0) (i := 0) (dd dtX10_holdsLooks 0 rfl) rfl rfl ?_
  refine b_geti (pc := 1) (dd dtX10_holdsLooks 1 rfl) fwX10_214 (pS_0 hk) ?_
  refine b_ic2 (pc := 4) (dd dtX10_holdsLooks 2 rfl) ?_
  refine b_irem (pc := 5) (dd dtX10_holdsLooks 3 rfl) (by decide) ?_
  rw [hz, rem2 (by omega)]
  refine b_if_ne (pc := 6) (tgt := 18) (dd dtX10_holdsLooks 4 rfl) (by decide) (fun h6 => ?_) (fun h6 => ?_)
  · have hno : ¬ hlP (I (k + 1)) z := fun q => by first | (rw [q.1.1] at h6; exact h6 rfl) | exact absurd (nI_lt (Nat.lt_of_lt_of_le (lt_n h15 (by decide) (by omega)) q.1.2) (by decide)) (by decide)
    refine b_ic0 (pc := 18) (dd dtX10_holdsLooks 9 rfl) ?_
    refine b_eq (b_zret (dd dtX10_holdsLooks 10 rfl) rfl (by first | rfl | exact nar_bi)) ?_ ?_
    · rw [bi_f hno]
    · rfl
  · have h6e : z % 2 = 0 := by rcases Nat.mod_two_eq_zero_or_one z with q | q; exact q; rw [q] at h6; exact absurd h6 (by decide)
    refine b_aload_n (pc := 9) (i := 0) (dd dtX10_holdsLooks 5 rfl) rfl rfl ?_
    refine b_geti (pc := 10) (dd dtX10_holdsLooks 6 rfl) fwX10_214 (pS_0 hk) ?_
    refine b_bipush (pc := 13) (v := 16) (dd dtX10_holdsLooks 7 rfl) (by decide) ?_
    rw [hz, show (16 : Int32) = nI 16 from rfl]
    refine b_icmpL_le (pc := 15) (tgt := 20) (dd dtX10_holdsLooks 8 rfl) (by decide) (fun h15 => ?_) (fun h15 => ?_)
    · refine b_ic0 (pc := 20) (dd dtX10_holdsLooks 11 rfl) ?_
      refine b_istore_n (pc := 21) (i := 1) (lv' := [(1, _), (0, _)]) (dd dtX10_holdsLooks 12 rfl) rfl (Nat.le_of_ble_eq_true rfl) rfl ?_
      have hz16 : z ≤ 16 := ge_n h15 (by omega)
      exact l_X10_holdsLooks hk hz hz16 h6e (z / 2 + 1) 0 _ (Nat.zero_le _) (by omega) rfl (fun i hi => absurd hi (Nat.not_lt_zero i))
    · have hno : ¬ hlP (I (k + 1)) z := fun q => by first | (rw [q.1.1] at h6; exact h6 rfl) | exact absurd (nI_lt (Nat.lt_of_lt_of_le (lt_n h15 (by decide) (by omega)) q.1.2) (by decide)) (by decide)
      refine b_ic0 (pc := 18) (dd dtX10_holdsLooks 9 rfl) ?_
      refine b_eq (b_zret (dd dtX10_holdsLooks 10 rfl) rfl (by first | rfl | exact nar_bi)) ?_ ?_
      · rw [bi_f hno]
      · rfl
