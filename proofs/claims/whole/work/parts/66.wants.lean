/-! takesE -/
def b2 (x : Bool) : Int32 := if x = true then 1 else 0
def WE (wants : Bool) (ws ps : List Int32) (o : Nat) : Prop := (if wants = true then nb ws else nb ws + 1) ≤ ps.length ∧ o = nu ws ∧ ∀ w, w ∈ ws → isW w
theorem WE.f {ws ps : List Int32} {o : Nat} (h : WE false ws ps o) : WF ws ps o := h
theorem WE.op {ws ps : List Int32} {o : Nat} {w : Int32} (h : WE true ws ps o) (hw : w = 40 ∨ w = 126 ∨ w = 33) : WE true (w :: ws) ps (o + 1) := by
  have hu : isU3 w := by rcases hw with q | q | q <;> simp [isU3, q]
  have h1 : nb ws ≤ ps.length := h.1
  refine ⟨?_, ?_, fun v hv => ?_⟩
  · show (if isU3 w then 0 else 1) + nb ws ≤ ps.length
    rw [if_pos hu]; omega
  · show o + 1 = (if isU3 w then 1 else 0) + nu ws
    rw [if_pos hu, h.2.1]; omega
  · rcases List.mem_cons.mp hv with e | e
    · subst e; rcases hw with q | q | q <;> simp [isW, q]
    · exact h.2.2 v e
theorem WE.jo {ws ps : List Int32} {o : Nat} {w : Int32} (h : WF ws ps o) (hw : w = 42 ∨ w = 43 ∨ w = 45 ∨ w = 60 ∨ w = 61 ∨ w = 38 ∨ w = 124) : WE true (w :: ws) ps o := by
  have hu : ¬ isU3 w := by rcases hw with q | q | q | q | q | q | q <;> subst q <;> decide
  refine ⟨?_, ?_, fun v hv => ?_⟩
  · show (if isU3 w then 0 else 1) + nb ws ≤ ps.length
    rw [if_neg hu]; have := h.1; omega
  · show o = (if isU3 w then 1 else 0) + nu ws
    rw [if_neg hu, h.2.1]; omega
  · rcases List.mem_cons.mp hv with e | e
    · subst e; rcases hw with q | q | q | q | q | q | q <;> subst q <;> decide
    · exact h.2.2 v e
theorem WE.vl {ws ps : List Int32} {o : Nat} {v : Int32} (h : WE true ws ps o) : WF ws (v :: ps) o := ⟨Nat.succ_le_succ h.1, h.2.1, h.2.2⟩
theorem jt_v {k : Int32} (h : ¬ jt k = 0) : jt k = 42 ∨ jt k = 43 ∨ jt k = 45 ∨ jt k = 60 ∨ jt k = 61 ∨ jt k = 38 ∨ jt k = 124 := by
  unfold jt at h ⊢
  by_cases q : k = 42 ∨ k = 43 ∨ k = 45 ∨ k = 60 ∨ k = 61
  · rw [if_pos q]
    rcases q with q | q | q | q | q <;> simp [q]
  · rw [if_neg q] at h ⊢
    by_cases q1 : k = 304
    · rw [if_pos q1]; simp
    · rw [if_neg q1] at h ⊢
      by_cases q2 : k = 303
      · rw [if_pos q2]; simp
      · rw [if_neg q2] at h; exact absurd rfl h
theorem jr_pos {w : Int32} (hw : w = 42 ∨ w = 43 ∨ w = 45 ∨ w = 60 ∨ w = 61 ∨ w = 38 ∨ w = 124) : 0 < jrF w ∧ 0 < w := by rcases hw with q | q | q | q | q | q | q <;> subst q <;> decide
theorem top40 {w : Int32} (h : rankF w < 1) (hw : isW w) : w = 40 := by
  rcases hw with q | q | q | q | q | q | q | q | q | q <;> subst q <;> first | rfl | exact absurd h (by decide)
def tX11_takesE : List (Nat × Instr × Nat) := [(0, .aload_n 0, 1), (1, .iconst 0, 1), (2, .putfield 194, 3), (5, .aload_n 0, 1), (6, .iconst 0, 1), (7, .putfield 197, 3), (10, .aload_n 0, 1), (11, .iconst 0, 1), (12, .putfield 200, 3), (15, .iconst 1, 1), (16, .istore_n 1, 1), (17, .iconst 1, 1), (18, .istore_n 2, 1), (19, .iload_n 1, 1), (20, .ifCond .eq 89, 3), (23, .aload_n 0, 1), (24, .getfield 176, 3), (27, .bipush 40, 2), (29, .if_icmp .eq 24, 3), (32, .aload_n 0, 1), (33, .getfield 176, 3), (36, .bipush 45, 2), (38, .if_icmp .eq 15, 3), (41, .iload_n 2, 1), (42, .ifCond .eq 67, 3), (45, .aload_n 0, 1), (46, .iconst 5, 1), (47, .invokevirtual 363, 3), (50, .ifCond .eq 59, 3), (53, .aload_n 0, 1), (54, .getfield 176, 3), (57, .bipush 40, 2), (59, .if_icmp .ne 8, 3), (62, .bipush 40, 2), (64, .goto 19, 3), (67, .aload_n 0, 1), (68, .getfield 176, 3), (71, .bipush 45, 2), (73, .if_icmp .ne 8, 3), (76, .bipush 126, 2), (78, .goto 5, 3), (81, .bipush 33, 2), (83, .istore_n 3, 1), (84, .aload_n 0, 1), (85, .iload_n 3, 1), (86, .invokevirtual 366, 3), (89, .ifCond .ne 5, 3), (92, .iconst 0, 1), (93, .ireturn, 1), (94, .iload_n 3, 1), (95, .bipush 126, 2), (97, .if_icmp .eq 7, 3), (100, .iconst 1, 1), (101, .goto 4, 3), (104, .iconst 0, 1), (105, .istore_n 2, 1), (106, .goto (-87), 3), (109, .iload_n 1, 1), (110, .ifCond .eq 55, 3), (113, .aload_n 0, 1), (114, .getfield 176, 3), (117, .iconst 1, 1), (118, .if_icmp .eq 11, 3), (121, .aload_n 0, 1), (122, .getfield 176, 3), (125, .iconst 2, 1), (126, .if_icmp .ne 39, 3), (129, .aload_n 0, 1), (130, .aload_n 0, 1), (131, .getfield 176, 3), (134, .iconst 1, 1), (135, .if_icmp .ne 10, 3), (138, .aload_n 0, 1), (139, .getfield 182, 3), (142, .goto 15, 3), (145, .aload_n 0, 1), (146, .getfield 191, 3), (149, .aload_n 0, 1), (150, .getfield 182, 3), (153, .bipush 10, 2), (155, .isub, 1), (156, .iaload, 1), (157, .invokevirtual 369, 3), (160, .iconst 0, 1), (161, .istore_n 1, 1), (162, .goto (-143), 3), (165, .iload_n 1, 1), (166, .ifCond .eq 5, 3), (169, .iconst 0, 1), (170, .ireturn, 1), (171, .aload_n 0, 1), (172, .invokevirtual 372, 3), (175, .ifCond .le 41, 3), (178, .aload_n 0, 1), (179, .invokevirtual 372, 3), (182, .istore_n 3, 1), (183, .aload_n 0, 1), (184, .iload_n 3, 1), (185, .invokevirtual 376, 3), (188, .ifCond .ne 5, 3), (191, .iconst 0, 1), (192, .ireturn, 1), (193, .iconst 1, 1), (194, .istore_n 1, 1), (195, .iload_n 3, 1), (196, .bipush 38, 2), (198, .if_icmp .eq 9, 3), (201, .iload_n 3, 1), (202, .bipush 124, 2), (204, .if_icmp .ne 7, 3), (207, .iconst 1, 1), (208, .goto 4, 3), (211, .iconst 0, 1), (212, .istore_n 2, 1), (213, .goto (-194), 3), (216, .aload_n 0, 1), (217, .iconst 1, 1), (218, .invokevirtual 360, 3), (221, .aload_n 0, 1), (222, .getfield 194, 3), (225, .ifCond .ne 5, 3), (228, .iconst 1, 1), (229, .ireturn, 1), (230, .aload_n 0, 1), (231, .getfield 176, 3), (234, .bipush 41, 2), (236, .if_icmp .eq 5, 3), (239, .iconst 0, 1), (240, .ireturn, 1), (241, .aload_n 0, 1), (242, .dup, 1), (243, .getfield 194, 3), (246, .iconst 1, 1), (247, .isub, 1), (248, .putfield 194, 3), (251, .aload_n 0, 1), (252, .dup, 1), (253, .getfield 200, 3), (256, .iconst 1, 1), (257, .isub, 1), (258, .putfield 200, 3), (261, .aload_n 0, 1), (262, .bipush 7, 2), (264, .invokevirtual 360, 3), (267, .aload_n 0, 1), (268, .invokevirtual 357, 3), (271, .goto (-252), 3)]
theorem dtX11_takesE : dec_ok mX11_takesE.2.1 tX11_takesE = true := by decide +kernel
set_option maxHeartbeats 4000000 in
theorem p_op_py {J0 : Wd} {ba n : Nat} {b mb kd nm pl : Nat → Int32} {T : Nat} (hM : MB J0 ba n mb) (hBR : ∀ i, i < n → BRel (b i) (mb i)) (hT : TokOK b n kd nm pl T) (hT6 : T ≤ 160) {J : Wd} {t f : Nat} {ws ps : List Int32} {o : Nat} {mn : Bool} (ih : ∀ (t : Nat) (ws ps : List Int32) (o : Nat) (wants mn : Bool) (x2 x1 : Int32) (J : Wd), t + f = T + 1 → x2 = b2 mn → x1 = b2 wants → MX b n kd nm pl T J0 J t ws ps o → ws.length ≤ t → ps.length ≤ t → o ≤ 5 → WE wants ws ps o → BdQ SyM mX11_takesE 5 19 [(2, .int x2), (1, .int x1), (0, .ref 0)] [] J (fun r J' => r = some (.int (b2 (mE kd nm (J0 38) T f t ws ps o wants mn).1)) ∧ Fr6 J0 J' ∧ MTk b n kd nm pl T J' (mE kd nm (J0 38) T f t ws ps o wants mn).2.1 ∧ Stk (J' 37) (mE kd nm (J0 38) T f t ws ps o wants mn).2.2)) (htf : t + (f + 1) = T + 1) (hX : MX b n kd nm pl T J0 J t ws ps o) (hwl : ws.length ≤ t) (hpl2 : ps.length ≤ t) (ho5 : o ≤ 5) {x1 : Int32} (hwt : x1 = b2 true) (hWE : WE true ws ps o) (htT : t < T) (hk : kdA kd T t = 40) (hop : opK (kdA kd T t) mn) (ho : o = 5) : BdQ SyM mX11_takesE 5 53 [(2, .int (b2 mn)), (1, .int x1), (0, .ref 0)] [] J (fun r J' => r = some (.int (b2 (mE kd nm (J0 38) T (f + 1) t ws ps o true mn).1)) ∧ Fr6 J0 J' ∧ MTk b n kd nm pl T J' (mE kd nm (J0 38) T (f + 1) t ws ps o true mn).2.1 ∧ Stk (J' 37) (mE kd nm (J0 38) T (f + 1) t ws ps o true mn).2.2) := by
  have tk : J 0 53 = 40 := (tk_mk hX.2.1.tr (by decide)).mpr hk
  refine BdQ.l (fun _ _ k => b_aload_n (pc := 53) (i := 0) (dd dtX11_takesE 29 rfl) rfl rfl k) ?_
  refine BdQ.l (fun _ _ k => b_geti (pc := 54) (dd dtX11_takesE 30 rfl) fwX11_176 pM_0 k) ?_
  refine BdQ.l (fun _ _ k => b_bipush (pc := 57) (v := 40) (dd dtX11_takesE 31 rfl) (by decide) k) ?_
  refine BdQ.c (fun _ _ k1 k2 => b_icmp_ne (pc := 59) (tgt := 67) (dd dtX11_takesE 32 rfl) (by decide) k1 k2) (fun h59 => ?_) (fun h59 => ?_)
  · exact absurd tk h59
  · refine BdQ.l (fun _ _ k => b_bipush (pc := 62) (v := 40) (dd dtX11_takesE 33 rfl) (by decide) k) ?_
    refine BdQ.l (fun _ _ k => b_goto (pc := 64) (tgt := 83) (dd dtX11_takesE 34 rfl) (by decide) k) ?_
    refine BdQ.l (fun _ _ k => b_istore_n (pc := 83) (i := 3) (lv' := [(3, _), (2, _), (1, _), (0, _)]) (dd dtX11_takesE 42 rfl) rfl (Nat.le_of_ble_eq_true rfl) rfl k) ?_
    refine BdQ.l (fun _ _ k => b_aload_n (pc := 84) (i := 0) (dd dtX11_takesE 43 rfl) rfl rfl k) ?_
    refine BdQ.l (fun _ _ k => b_iload_n (pc := 85) (i := 3) (dd dtX11_takesE 44 rfl) rfl rfl k) ?_
    obtain ⟨_, I86, ⟨rfl, R86⟩, k86⟩ := CalQ.to (q_opens (w := 40) hM hBR hT hX htT (by omega) ho5) (fun r J' h => h.1 ho)
    refine BdQ.l (fun _ _ k => b_invV (pc := 86) (dd dtX11_takesE 45 rfl) mlX11_366 mvX11_opens miX11_opens (k86) oM_0 rfl rfl (by decide) (Nat.le_of_ble_eq_true rfl) k) ?_
    refine BdQ.c (fun _ _ k1 k2 => b_if_ne (pc := 89) (tgt := 94) (dd dtX11_takesE 46 rfl) (by decide) k1 k2) (fun h89 => ?_) (fun h89 => ?_)
    · exact absurd rfl h89
    · refine BdQ.l (fun _ _ k => b_ic0 (pc := 92) (dd dtX11_takesE 47 rfl) k) ?_
      refine ⟨_, _, ?_, b_zret (dd dtX11_takesE 48 rfl) rfl (by decide)⟩
      rw [mE_op5 hop ho]
      exact ⟨rfl, R86.1, R86.2.1, R86.2.2.2.2.2.1⟩
set_option maxHeartbeats 4000000 in
theorem p_op_pn {J0 : Wd} {ba n : Nat} {b mb kd nm pl : Nat → Int32} {T : Nat} (hM : MB J0 ba n mb) (hBR : ∀ i, i < n → BRel (b i) (mb i)) (hT : TokOK b n kd nm pl T) (hT6 : T ≤ 160) {J : Wd} {t f : Nat} {ws ps : List Int32} {o : Nat} {mn : Bool} (ih : ∀ (t : Nat) (ws ps : List Int32) (o : Nat) (wants mn : Bool) (x2 x1 : Int32) (J : Wd), t + f = T + 1 → x2 = b2 mn → x1 = b2 wants → MX b n kd nm pl T J0 J t ws ps o → ws.length ≤ t → ps.length ≤ t → o ≤ 5 → WE wants ws ps o → BdQ SyM mX11_takesE 5 19 [(2, .int x2), (1, .int x1), (0, .ref 0)] [] J (fun r J' => r = some (.int (b2 (mE kd nm (J0 38) T f t ws ps o wants mn).1)) ∧ Fr6 J0 J' ∧ MTk b n kd nm pl T J' (mE kd nm (J0 38) T f t ws ps o wants mn).2.1 ∧ Stk (J' 37) (mE kd nm (J0 38) T f t ws ps o wants mn).2.2)) (htf : t + (f + 1) = T + 1) (hX : MX b n kd nm pl T J0 J t ws ps o) (hwl : ws.length ≤ t) (hpl2 : ps.length ≤ t) (ho5 : o ≤ 5) {x1 : Int32} (hwt : x1 = b2 true) (hWE : WE true ws ps o) (htT : t < T) (hk : kdA kd T t = 40) (hop : opK (kdA kd T t) mn) (ho : ¬ o = 5) : BdQ SyM mX11_takesE 5 53 [(2, .int (b2 mn)), (1, .int x1), (0, .ref 0)] [] J (fun r J' => r = some (.int (b2 (mE kd nm (J0 38) T (f + 1) t ws ps o true mn).1)) ∧ Fr6 J0 J' ∧ MTk b n kd nm pl T J' (mE kd nm (J0 38) T (f + 1) t ws ps o true mn).2.1 ∧ Stk (J' 37) (mE kd nm (J0 38) T (f + 1) t ws ps o true mn).2.2) := by
  have tk : J 0 53 = 40 := (tk_mk hX.2.1.tr (by decide)).mpr hk
  refine BdQ.l (fun _ _ k => b_aload_n (pc := 53) (i := 0) (dd dtX11_takesE 29 rfl) rfl rfl k) ?_
  refine BdQ.l (fun _ _ k => b_geti (pc := 54) (dd dtX11_takesE 30 rfl) fwX11_176 pM_0 k) ?_
  refine BdQ.l (fun _ _ k => b_bipush (pc := 57) (v := 40) (dd dtX11_takesE 31 rfl) (by decide) k) ?_
  refine BdQ.c (fun _ _ k1 k2 => b_icmp_ne (pc := 59) (tgt := 67) (dd dtX11_takesE 32 rfl) (by decide) k1 k2) (fun h59 => ?_) (fun h59 => ?_)
  · exact absurd tk h59
  · refine BdQ.l (fun _ _ k => b_bipush (pc := 62) (v := 40) (dd dtX11_takesE 33 rfl) (by decide) k) ?_
    refine BdQ.l (fun _ _ k => b_goto (pc := 64) (tgt := 83) (dd dtX11_takesE 34 rfl) (by decide) k) ?_
    refine BdQ.l (fun _ _ k => b_istore_n (pc := 83) (i := 3) (lv' := [(3, _), (2, _), (1, _), (0, _)]) (dd dtX11_takesE 42 rfl) rfl (Nat.le_of_ble_eq_true rfl) rfl k) ?_
    refine BdQ.l (fun _ _ k => b_aload_n (pc := 84) (i := 0) (dd dtX11_takesE 43 rfl) rfl rfl k) ?_
    refine BdQ.l (fun _ _ k => b_iload_n (pc := 85) (i := 3) (dd dtX11_takesE 44 rfl) rfl rfl k) ?_
    obtain ⟨_, I86, ⟨rfl, R86⟩, k86⟩ := CalQ.to (q_opens (w := 40) hM hBR hT hX htT (by omega) ho5) (fun r J' h => h.2 ho)
    refine BdQ.l (fun _ _ k => b_invV (pc := 86) (dd dtX11_takesE 45 rfl) mlX11_366 mvX11_opens miX11_opens (k86) oM_0 rfl rfl (by decide) (Nat.le_of_ble_eq_true rfl) k) ?_
    refine BdQ.c (fun _ _ k1 k2 => b_if_ne (pc := 89) (tgt := 94) (dd dtX11_takesE 46 rfl) (by decide) k1 k2) (fun h89 => ?_) (fun h89 => ?_)
    · refine BdQ.l (fun _ _ k => b_iload_n (pc := 94) (i := 3) (dd dtX11_takesE 49 rfl) rfl rfl k) ?_
      refine BdQ.l (fun _ _ k => b_bipush (pc := 95) (v := 126) (dd dtX11_takesE 50 rfl) (by decide) k) ?_
      refine BdQ.b (fun _ _ k1 k2 => b_icmp_eq (pc := 97) (tgt := 104) (dd dtX11_takesE 51 rfl) (by decide) k1 k2) (fun h97 => ?_) (fun h97 => ?_)
      · exact absurd h97 (by decide)
      · refine BdQ.l (fun _ _ k => b_ic1 (pc := 100) (dd dtX11_takesE 52 rfl) k) ?_
        refine BdQ.l (fun _ _ k => b_goto (pc := 101) (tgt := 105) (dd dtX11_takesE 53 rfl) (by decide) k) ?_
        refine BdQ.l (fun _ _ k => b_istore_n (pc := 105) (i := 2) (lv' := [(2, _), (3, _), (1, _), (0, _)]) (dd dtX11_takesE 55 rfl) rfl (Nat.le_of_ble_eq_true rfl) rfl k) ?_
        refine BdQ.l (fun _ _ k => b_goto (pc := 106) (tgt := 19) (dd dtX11_takesE 56 rfl) (by decide) k) ?_
        refine BdQ.l (fun _ _ k => b_pick [0, 2, 3] (lv' := [(2, _), (1, _), (0, _)]) rfl k) ?_
        rw [mE_op hop ho, show opW (kdA kd T t) = 40 from by rw [hk]; rfl, show decide (¬ kdA kd T t = 45) = true from by rw [hk]; rfl]
        exact ih (t + 1) (40 :: ws) ps (o + 1) true true _ _ I86 (by omega) rfl hwt R86 (by have : (40 :: ws).length = ws.length + 1 := rfl; omega) (by omega) (by omega) (hWE.op (by decide))
    · exact absurd h89 (by decide)
set_option maxHeartbeats 4000000 in
theorem p_op_my {J0 : Wd} {ba n : Nat} {b mb kd nm pl : Nat → Int32} {T : Nat} (hM : MB J0 ba n mb) (hBR : ∀ i, i < n → BRel (b i) (mb i)) (hT : TokOK b n kd nm pl T) (hT6 : T ≤ 160) {J : Wd} {t f : Nat} {ws ps : List Int32} {o : Nat} {mn : Bool} (ih : ∀ (t : Nat) (ws ps : List Int32) (o : Nat) (wants mn : Bool) (x2 x1 : Int32) (J : Wd), t + f = T + 1 → x2 = b2 mn → x1 = b2 wants → MX b n kd nm pl T J0 J t ws ps o → ws.length ≤ t → ps.length ≤ t → o ≤ 5 → WE wants ws ps o → BdQ SyM mX11_takesE 5 19 [(2, .int x2), (1, .int x1), (0, .ref 0)] [] J (fun r J' => r = some (.int (b2 (mE kd nm (J0 38) T f t ws ps o wants mn).1)) ∧ Fr6 J0 J' ∧ MTk b n kd nm pl T J' (mE kd nm (J0 38) T f t ws ps o wants mn).2.1 ∧ Stk (J' 37) (mE kd nm (J0 38) T f t ws ps o wants mn).2.2)) (htf : t + (f + 1) = T + 1) (hX : MX b n kd nm pl T J0 J t ws ps o) (hwl : ws.length ≤ t) (hpl2 : ps.length ≤ t) (ho5 : o ≤ 5) {x1 : Int32} (hwt : x1 = b2 true) (hWE : WE true ws ps o) (htT : t < T) (hk : kdA kd T t = 45) (hop : opK (kdA kd T t) mn) (ho : o = 5) : BdQ SyM mX11_takesE 5 53 [(2, .int (b2 mn)), (1, .int x1), (0, .ref 0)] [] J (fun r J' => r = some (.int (b2 (mE kd nm (J0 38) T (f + 1) t ws ps o true mn).1)) ∧ Fr6 J0 J' ∧ MTk b n kd nm pl T J' (mE kd nm (J0 38) T (f + 1) t ws ps o true mn).2.1 ∧ Stk (J' 37) (mE kd nm (J0 38) T (f + 1) t ws ps o true mn).2.2) := by
  have tk : J 0 53 = 45 := (tk_mk hX.2.1.tr (by decide)).mpr hk
  refine BdQ.l (fun _ _ k => b_aload_n (pc := 53) (i := 0) (dd dtX11_takesE 29 rfl) rfl rfl k) ?_
  refine BdQ.l (fun _ _ k => b_geti (pc := 54) (dd dtX11_takesE 30 rfl) fwX11_176 pM_0 k) ?_
  refine BdQ.l (fun _ _ k => b_bipush (pc := 57) (v := 40) (dd dtX11_takesE 31 rfl) (by decide) k) ?_
  refine BdQ.c (fun _ _ k1 k2 => b_icmp_ne (pc := 59) (tgt := 67) (dd dtX11_takesE 32 rfl) (by decide) k1 k2) (fun h59 => ?_) (fun h59 => ?_)
  · refine BdQ.l (fun _ _ k => b_aload_n (pc := 67) (i := 0) (dd dtX11_takesE 35 rfl) rfl rfl k) ?_
    refine BdQ.l (fun _ _ k => b_geti (pc := 68) (dd dtX11_takesE 36 rfl) fwX11_176 pM_0 k) ?_
    refine BdQ.l (fun _ _ k => b_bipush (pc := 71) (v := 45) (dd dtX11_takesE 37 rfl) (by decide) k) ?_
    refine BdQ.c (fun _ _ k1 k2 => b_icmp_ne (pc := 73) (tgt := 81) (dd dtX11_takesE 38 rfl) (by decide) k1 k2) (fun h73 => ?_) (fun h73 => ?_)
    · exact absurd tk h73
    · refine BdQ.l (fun _ _ k => b_bipush (pc := 76) (v := 126) (dd dtX11_takesE 39 rfl) (by decide) k) ?_
      refine BdQ.l (fun _ _ k => b_goto (pc := 78) (tgt := 83) (dd dtX11_takesE 40 rfl) (by decide) k) ?_
      refine BdQ.l (fun _ _ k => b_istore_n (pc := 83) (i := 3) (lv' := [(3, _), (2, _), (1, _), (0, _)]) (dd dtX11_takesE 42 rfl) rfl (Nat.le_of_ble_eq_true rfl) rfl k) ?_
      refine BdQ.l (fun _ _ k => b_aload_n (pc := 84) (i := 0) (dd dtX11_takesE 43 rfl) rfl rfl k) ?_
      refine BdQ.l (fun _ _ k => b_iload_n (pc := 85) (i := 3) (dd dtX11_takesE 44 rfl) rfl rfl k) ?_
      obtain ⟨_, I86, ⟨rfl, R86⟩, k86⟩ := CalQ.to (q_opens (w := 126) hM hBR hT hX htT (by omega) ho5) (fun r J' h => h.1 ho)
      refine BdQ.l (fun _ _ k => b_invV (pc := 86) (dd dtX11_takesE 45 rfl) mlX11_366 mvX11_opens miX11_opens (k86) oM_0 rfl rfl (by decide) (Nat.le_of_ble_eq_true rfl) k) ?_
      refine BdQ.c (fun _ _ k1 k2 => b_if_ne (pc := 89) (tgt := 94) (dd dtX11_takesE 46 rfl) (by decide) k1 k2) (fun h89 => ?_) (fun h89 => ?_)
      · exact absurd rfl h89
      · refine BdQ.l (fun _ _ k => b_ic0 (pc := 92) (dd dtX11_takesE 47 rfl) k) ?_
        refine ⟨_, _, ?_, b_zret (dd dtX11_takesE 48 rfl) rfl (by decide)⟩
        rw [mE_op5 hop ho]
        exact ⟨rfl, R86.1, R86.2.1, R86.2.2.2.2.2.1⟩
  · exact absurd (h59.symm.trans tk) (by decide)
set_option maxHeartbeats 4000000 in
theorem p_op_mn {J0 : Wd} {ba n : Nat} {b mb kd nm pl : Nat → Int32} {T : Nat} (hM : MB J0 ba n mb) (hBR : ∀ i, i < n → BRel (b i) (mb i)) (hT : TokOK b n kd nm pl T) (hT6 : T ≤ 160) {J : Wd} {t f : Nat} {ws ps : List Int32} {o : Nat} {mn : Bool} (ih : ∀ (t : Nat) (ws ps : List Int32) (o : Nat) (wants mn : Bool) (x2 x1 : Int32) (J : Wd), t + f = T + 1 → x2 = b2 mn → x1 = b2 wants → MX b n kd nm pl T J0 J t ws ps o → ws.length ≤ t → ps.length ≤ t → o ≤ 5 → WE wants ws ps o → BdQ SyM mX11_takesE 5 19 [(2, .int x2), (1, .int x1), (0, .ref 0)] [] J (fun r J' => r = some (.int (b2 (mE kd nm (J0 38) T f t ws ps o wants mn).1)) ∧ Fr6 J0 J' ∧ MTk b n kd nm pl T J' (mE kd nm (J0 38) T f t ws ps o wants mn).2.1 ∧ Stk (J' 37) (mE kd nm (J0 38) T f t ws ps o wants mn).2.2)) (htf : t + (f + 1) = T + 1) (hX : MX b n kd nm pl T J0 J t ws ps o) (hwl : ws.length ≤ t) (hpl2 : ps.length ≤ t) (ho5 : o ≤ 5) {x1 : Int32} (hwt : x1 = b2 true) (hWE : WE true ws ps o) (htT : t < T) (hk : kdA kd T t = 45) (hop : opK (kdA kd T t) mn) (ho : ¬ o = 5) : BdQ SyM mX11_takesE 5 53 [(2, .int (b2 mn)), (1, .int x1), (0, .ref 0)] [] J (fun r J' => r = some (.int (b2 (mE kd nm (J0 38) T (f + 1) t ws ps o true mn).1)) ∧ Fr6 J0 J' ∧ MTk b n kd nm pl T J' (mE kd nm (J0 38) T (f + 1) t ws ps o true mn).2.1 ∧ Stk (J' 37) (mE kd nm (J0 38) T (f + 1) t ws ps o true mn).2.2) := by
  have tk : J 0 53 = 45 := (tk_mk hX.2.1.tr (by decide)).mpr hk
  refine BdQ.l (fun _ _ k => b_aload_n (pc := 53) (i := 0) (dd dtX11_takesE 29 rfl) rfl rfl k) ?_
  refine BdQ.l (fun _ _ k => b_geti (pc := 54) (dd dtX11_takesE 30 rfl) fwX11_176 pM_0 k) ?_
  refine BdQ.l (fun _ _ k => b_bipush (pc := 57) (v := 40) (dd dtX11_takesE 31 rfl) (by decide) k) ?_
  refine BdQ.c (fun _ _ k1 k2 => b_icmp_ne (pc := 59) (tgt := 67) (dd dtX11_takesE 32 rfl) (by decide) k1 k2) (fun h59 => ?_) (fun h59 => ?_)
  · refine BdQ.l (fun _ _ k => b_aload_n (pc := 67) (i := 0) (dd dtX11_takesE 35 rfl) rfl rfl k) ?_
    refine BdQ.l (fun _ _ k => b_geti (pc := 68) (dd dtX11_takesE 36 rfl) fwX11_176 pM_0 k) ?_
    refine BdQ.l (fun _ _ k => b_bipush (pc := 71) (v := 45) (dd dtX11_takesE 37 rfl) (by decide) k) ?_
    refine BdQ.c (fun _ _ k1 k2 => b_icmp_ne (pc := 73) (tgt := 81) (dd dtX11_takesE 38 rfl) (by decide) k1 k2) (fun h73 => ?_) (fun h73 => ?_)
    · exact absurd tk h73
    · refine BdQ.l (fun _ _ k => b_bipush (pc := 76) (v := 126) (dd dtX11_takesE 39 rfl) (by decide) k) ?_
      refine BdQ.l (fun _ _ k => b_goto (pc := 78) (tgt := 83) (dd dtX11_takesE 40 rfl) (by decide) k) ?_
      refine BdQ.l (fun _ _ k => b_istore_n (pc := 83) (i := 3) (lv' := [(3, _), (2, _), (1, _), (0, _)]) (dd dtX11_takesE 42 rfl) rfl (Nat.le_of_ble_eq_true rfl) rfl k) ?_
      refine BdQ.l (fun _ _ k => b_aload_n (pc := 84) (i := 0) (dd dtX11_takesE 43 rfl) rfl rfl k) ?_
      refine BdQ.l (fun _ _ k => b_iload_n (pc := 85) (i := 3) (dd dtX11_takesE 44 rfl) rfl rfl k) ?_
      obtain ⟨_, I86, ⟨rfl, R86⟩, k86⟩ := CalQ.to (q_opens (w := 126) hM hBR hT hX htT (by omega) ho5) (fun r J' h => h.2 ho)
      refine BdQ.l (fun _ _ k => b_invV (pc := 86) (dd dtX11_takesE 45 rfl) mlX11_366 mvX11_opens miX11_opens (k86) oM_0 rfl rfl (by decide) (Nat.le_of_ble_eq_true rfl) k) ?_
      refine BdQ.c (fun _ _ k1 k2 => b_if_ne (pc := 89) (tgt := 94) (dd dtX11_takesE 46 rfl) (by decide) k1 k2) (fun h89 => ?_) (fun h89 => ?_)
      · refine BdQ.l (fun _ _ k => b_iload_n (pc := 94) (i := 3) (dd dtX11_takesE 49 rfl) rfl rfl k) ?_
        refine BdQ.l (fun _ _ k => b_bipush (pc := 95) (v := 126) (dd dtX11_takesE 50 rfl) (by decide) k) ?_
        refine BdQ.b (fun _ _ k1 k2 => b_icmp_eq (pc := 97) (tgt := 104) (dd dtX11_takesE 51 rfl) (by decide) k1 k2) (fun h97 => ?_) (fun h97 => ?_)
        · refine BdQ.l (fun _ _ k => b_ic0 (pc := 104) (dd dtX11_takesE 54 rfl) k) ?_
          refine BdQ.l (fun _ _ k => b_istore_n (pc := 105) (i := 2) (lv' := [(2, _), (3, _), (1, _), (0, _)]) (dd dtX11_takesE 55 rfl) rfl (Nat.le_of_ble_eq_true rfl) rfl k) ?_
          refine BdQ.l (fun _ _ k => b_goto (pc := 106) (tgt := 19) (dd dtX11_takesE 56 rfl) (by decide) k) ?_
          refine BdQ.l (fun _ _ k => b_pick [0, 2, 3] (lv' := [(2, _), (1, _), (0, _)]) rfl k) ?_
          rw [mE_op hop ho, show opW (kdA kd T t) = 126 from by rw [hk]; rfl, show decide (¬ kdA kd T t = 45) = false from by rw [hk]; rfl]
          exact ih (t + 1) (126 :: ws) ps (o + 1) true false _ _ I86 (by omega) rfl hwt R86 (by have : (126 :: ws).length = ws.length + 1 := rfl; omega) (by omega) (by omega) (hWE.op (by decide))
        · exact absurd rfl h97
      · exact absurd h89 (by decide)
  · exact absurd (h59.symm.trans tk) (by decide)
set_option maxHeartbeats 4000000 in
theorem p_op_ny {J0 : Wd} {ba n : Nat} {b mb kd nm pl : Nat → Int32} {T : Nat} (hM : MB J0 ba n mb) (hBR : ∀ i, i < n → BRel (b i) (mb i)) (hT : TokOK b n kd nm pl T) (hT6 : T ≤ 160) {J : Wd} {t f : Nat} {ws ps : List Int32} {o : Nat} {mn : Bool} (ih : ∀ (t : Nat) (ws ps : List Int32) (o : Nat) (wants mn : Bool) (x2 x1 : Int32) (J : Wd), t + f = T + 1 → x2 = b2 mn → x1 = b2 wants → MX b n kd nm pl T J0 J t ws ps o → ws.length ≤ t → ps.length ≤ t → o ≤ 5 → WE wants ws ps o → BdQ SyM mX11_takesE 5 19 [(2, .int x2), (1, .int x1), (0, .ref 0)] [] J (fun r J' => r = some (.int (b2 (mE kd nm (J0 38) T f t ws ps o wants mn).1)) ∧ Fr6 J0 J' ∧ MTk b n kd nm pl T J' (mE kd nm (J0 38) T f t ws ps o wants mn).2.1 ∧ Stk (J' 37) (mE kd nm (J0 38) T f t ws ps o wants mn).2.2)) (htf : t + (f + 1) = T + 1) (hX : MX b n kd nm pl T J0 J t ws ps o) (hwl : ws.length ≤ t) (hpl2 : ps.length ≤ t) (ho5 : o ≤ 5) {x1 : Int32} (hwt : x1 = b2 true) (hWE : WE true ws ps o) (htT : t < T) (hk : kdA kd T t = 305) (hop : opK (kdA kd T t) mn) (ho : o = 5) : BdQ SyM mX11_takesE 5 53 [(2, .int (b2 mn)), (1, .int x1), (0, .ref 0)] [] J (fun r J' => r = some (.int (b2 (mE kd nm (J0 38) T (f + 1) t ws ps o true mn).1)) ∧ Fr6 J0 J' ∧ MTk b n kd nm pl T J' (mE kd nm (J0 38) T (f + 1) t ws ps o true mn).2.1 ∧ Stk (J' 37) (mE kd nm (J0 38) T (f + 1) t ws ps o true mn).2.2) := by
  refine BdQ.l (fun _ _ k => b_aload_n (pc := 53) (i := 0) (dd dtX11_takesE 29 rfl) rfl rfl k) ?_
  refine BdQ.l (fun _ _ k => b_geti (pc := 54) (dd dtX11_takesE 30 rfl) fwX11_176 pM_0 k) ?_
  refine BdQ.l (fun _ _ k => b_bipush (pc := 57) (v := 40) (dd dtX11_takesE 31 rfl) (by decide) k) ?_
  refine BdQ.c (fun _ _ k1 k2 => b_icmp_ne (pc := 59) (tgt := 67) (dd dtX11_takesE 32 rfl) (by decide) k1 k2) (fun h59 => ?_) (fun h59 => ?_)
  · refine BdQ.l (fun _ _ k => b_aload_n (pc := 67) (i := 0) (dd dtX11_takesE 35 rfl) rfl rfl k) ?_
    refine BdQ.l (fun _ _ k => b_geti (pc := 68) (dd dtX11_takesE 36 rfl) fwX11_176 pM_0 k) ?_
    refine BdQ.l (fun _ _ k => b_bipush (pc := 71) (v := 45) (dd dtX11_takesE 37 rfl) (by decide) k) ?_
    refine BdQ.c (fun _ _ k1 k2 => b_icmp_ne (pc := 73) (tgt := 81) (dd dtX11_takesE 38 rfl) (by decide) k1 k2) (fun h73 => ?_) (fun h73 => ?_)
    · refine BdQ.l (fun _ _ k => b_bipush (pc := 81) (v := 33) (dd dtX11_takesE 41 rfl) (by decide) k) ?_
      refine BdQ.l (fun _ _ k => b_istore_n (pc := 83) (i := 3) (lv' := [(3, _), (2, _), (1, _), (0, _)]) (dd dtX11_takesE 42 rfl) rfl (Nat.le_of_ble_eq_true rfl) rfl k) ?_
      refine BdQ.l (fun _ _ k => b_aload_n (pc := 84) (i := 0) (dd dtX11_takesE 43 rfl) rfl rfl k) ?_
      refine BdQ.l (fun _ _ k => b_iload_n (pc := 85) (i := 3) (dd dtX11_takesE 44 rfl) rfl rfl k) ?_
      obtain ⟨_, I86, ⟨rfl, R86⟩, k86⟩ := CalQ.to (q_opens (w := 33) hM hBR hT hX htT (by omega) ho5) (fun r J' h => h.1 ho)
      refine BdQ.l (fun _ _ k => b_invV (pc := 86) (dd dtX11_takesE 45 rfl) mlX11_366 mvX11_opens miX11_opens (k86) oM_0 rfl rfl (by decide) (Nat.le_of_ble_eq_true rfl) k) ?_
      refine BdQ.c (fun _ _ k1 k2 => b_if_ne (pc := 89) (tgt := 94) (dd dtX11_takesE 46 rfl) (by decide) k1 k2) (fun h89 => ?_) (fun h89 => ?_)
      · exact absurd rfl h89
      · refine BdQ.l (fun _ _ k => b_ic0 (pc := 92) (dd dtX11_takesE 47 rfl) k) ?_
        refine ⟨_, _, ?_, b_zret (dd dtX11_takesE 48 rfl) rfl (by decide)⟩
        rw [mE_op5 hop ho]
        exact ⟨rfl, R86.1, R86.2.1, R86.2.2.2.2.2.1⟩
    · exact absurd ((tk_mk hX.2.1.tr (by decide)).mp h73) (by rw [hk]; decide)
  · exact absurd ((tk_mk hX.2.1.tr (by decide)).mp h59) (by rw [hk]; decide)
set_option maxHeartbeats 4000000 in
theorem p_op_nn {J0 : Wd} {ba n : Nat} {b mb kd nm pl : Nat → Int32} {T : Nat} (hM : MB J0 ba n mb) (hBR : ∀ i, i < n → BRel (b i) (mb i)) (hT : TokOK b n kd nm pl T) (hT6 : T ≤ 160) {J : Wd} {t f : Nat} {ws ps : List Int32} {o : Nat} {mn : Bool} (ih : ∀ (t : Nat) (ws ps : List Int32) (o : Nat) (wants mn : Bool) (x2 x1 : Int32) (J : Wd), t + f = T + 1 → x2 = b2 mn → x1 = b2 wants → MX b n kd nm pl T J0 J t ws ps o → ws.length ≤ t → ps.length ≤ t → o ≤ 5 → WE wants ws ps o → BdQ SyM mX11_takesE 5 19 [(2, .int x2), (1, .int x1), (0, .ref 0)] [] J (fun r J' => r = some (.int (b2 (mE kd nm (J0 38) T f t ws ps o wants mn).1)) ∧ Fr6 J0 J' ∧ MTk b n kd nm pl T J' (mE kd nm (J0 38) T f t ws ps o wants mn).2.1 ∧ Stk (J' 37) (mE kd nm (J0 38) T f t ws ps o wants mn).2.2)) (htf : t + (f + 1) = T + 1) (hX : MX b n kd nm pl T J0 J t ws ps o) (hwl : ws.length ≤ t) (hpl2 : ps.length ≤ t) (ho5 : o ≤ 5) {x1 : Int32} (hwt : x1 = b2 true) (hWE : WE true ws ps o) (htT : t < T) (hk : kdA kd T t = 305) (hop : opK (kdA kd T t) mn) (ho : ¬ o = 5) : BdQ SyM mX11_takesE 5 53 [(2, .int (b2 mn)), (1, .int x1), (0, .ref 0)] [] J (fun r J' => r = some (.int (b2 (mE kd nm (J0 38) T (f + 1) t ws ps o true mn).1)) ∧ Fr6 J0 J' ∧ MTk b n kd nm pl T J' (mE kd nm (J0 38) T (f + 1) t ws ps o true mn).2.1 ∧ Stk (J' 37) (mE kd nm (J0 38) T (f + 1) t ws ps o true mn).2.2) := by
  refine BdQ.l (fun _ _ k => b_aload_n (pc := 53) (i := 0) (dd dtX11_takesE 29 rfl) rfl rfl k) ?_
  refine BdQ.l (fun _ _ k => b_geti (pc := 54) (dd dtX11_takesE 30 rfl) fwX11_176 pM_0 k) ?_
  refine BdQ.l (fun _ _ k => b_bipush (pc := 57) (v := 40) (dd dtX11_takesE 31 rfl) (by decide) k) ?_
  refine BdQ.c (fun _ _ k1 k2 => b_icmp_ne (pc := 59) (tgt := 67) (dd dtX11_takesE 32 rfl) (by decide) k1 k2) (fun h59 => ?_) (fun h59 => ?_)
  · refine BdQ.l (fun _ _ k => b_aload_n (pc := 67) (i := 0) (dd dtX11_takesE 35 rfl) rfl rfl k) ?_
    refine BdQ.l (fun _ _ k => b_geti (pc := 68) (dd dtX11_takesE 36 rfl) fwX11_176 pM_0 k) ?_
    refine BdQ.l (fun _ _ k => b_bipush (pc := 71) (v := 45) (dd dtX11_takesE 37 rfl) (by decide) k) ?_
    refine BdQ.c (fun _ _ k1 k2 => b_icmp_ne (pc := 73) (tgt := 81) (dd dtX11_takesE 38 rfl) (by decide) k1 k2) (fun h73 => ?_) (fun h73 => ?_)
    · refine BdQ.l (fun _ _ k => b_bipush (pc := 81) (v := 33) (dd dtX11_takesE 41 rfl) (by decide) k) ?_
      refine BdQ.l (fun _ _ k => b_istore_n (pc := 83) (i := 3) (lv' := [(3, _), (2, _), (1, _), (0, _)]) (dd dtX11_takesE 42 rfl) rfl (Nat.le_of_ble_eq_true rfl) rfl k) ?_
      refine BdQ.l (fun _ _ k => b_aload_n (pc := 84) (i := 0) (dd dtX11_takesE 43 rfl) rfl rfl k) ?_
      refine BdQ.l (fun _ _ k => b_iload_n (pc := 85) (i := 3) (dd dtX11_takesE 44 rfl) rfl rfl k) ?_
      obtain ⟨_, I86, ⟨rfl, R86⟩, k86⟩ := CalQ.to (q_opens (w := 33) hM hBR hT hX htT (by omega) ho5) (fun r J' h => h.2 ho)
      refine BdQ.l (fun _ _ k => b_invV (pc := 86) (dd dtX11_takesE 45 rfl) mlX11_366 mvX11_opens miX11_opens (k86) oM_0 rfl rfl (by decide) (Nat.le_of_ble_eq_true rfl) k) ?_
      refine BdQ.c (fun _ _ k1 k2 => b_if_ne (pc := 89) (tgt := 94) (dd dtX11_takesE 46 rfl) (by decide) k1 k2) (fun h89 => ?_) (fun h89 => ?_)
      · refine BdQ.l (fun _ _ k => b_iload_n (pc := 94) (i := 3) (dd dtX11_takesE 49 rfl) rfl rfl k) ?_
        refine BdQ.l (fun _ _ k => b_bipush (pc := 95) (v := 126) (dd dtX11_takesE 50 rfl) (by decide) k) ?_
        refine BdQ.b (fun _ _ k1 k2 => b_icmp_eq (pc := 97) (tgt := 104) (dd dtX11_takesE 51 rfl) (by decide) k1 k2) (fun h97 => ?_) (fun h97 => ?_)
        · exact absurd h97 (by decide)
        · refine BdQ.l (fun _ _ k => b_ic1 (pc := 100) (dd dtX11_takesE 52 rfl) k) ?_
          refine BdQ.l (fun _ _ k => b_goto (pc := 101) (tgt := 105) (dd dtX11_takesE 53 rfl) (by decide) k) ?_
          refine BdQ.l (fun _ _ k => b_istore_n (pc := 105) (i := 2) (lv' := [(2, _), (3, _), (1, _), (0, _)]) (dd dtX11_takesE 55 rfl) rfl (Nat.le_of_ble_eq_true rfl) rfl k) ?_
          refine BdQ.l (fun _ _ k => b_goto (pc := 106) (tgt := 19) (dd dtX11_takesE 56 rfl) (by decide) k) ?_
          refine BdQ.l (fun _ _ k => b_pick [0, 2, 3] (lv' := [(2, _), (1, _), (0, _)]) rfl k) ?_
          rw [mE_op hop ho, show opW (kdA kd T t) = 33 from by rw [hk]; rfl, show decide (¬ kdA kd T t = 45) = true from by rw [hk]; rfl]
          exact ih (t + 1) (33 :: ws) ps (o + 1) true true _ _ I86 (by omega) rfl hwt R86 (by have : (33 :: ws).length = ws.length + 1 := rfl; omega) (by omega) (by omega) (hWE.op (by decide))
      · exact absurd h89 (by decide)
    · exact absurd ((tk_mk hX.2.1.tr (by decide)).mp h73) (by rw [hk]; decide)
  · exact absurd ((tk_mk hX.2.1.tr (by decide)).mp h59) (by rw [hk]; decide)
theorem p_op {J0 : Wd} {ba n : Nat} {b mb kd nm pl : Nat → Int32} {T : Nat} (hM : MB J0 ba n mb) (hBR : ∀ i, i < n → BRel (b i) (mb i)) (hT : TokOK b n kd nm pl T) (hT6 : T ≤ 160) {J : Wd} {t f : Nat} {ws ps : List Int32} {o : Nat} {mn : Bool} (ih : ∀ (t : Nat) (ws ps : List Int32) (o : Nat) (wants mn : Bool) (x2 x1 : Int32) (J : Wd), t + f = T + 1 → x2 = b2 mn → x1 = b2 wants → MX b n kd nm pl T J0 J t ws ps o → ws.length ≤ t → ps.length ≤ t → o ≤ 5 → WE wants ws ps o → BdQ SyM mX11_takesE 5 19 [(2, .int x2), (1, .int x1), (0, .ref 0)] [] J (fun r J' => r = some (.int (b2 (mE kd nm (J0 38) T f t ws ps o wants mn).1)) ∧ Fr6 J0 J' ∧ MTk b n kd nm pl T J' (mE kd nm (J0 38) T f t ws ps o wants mn).2.1 ∧ Stk (J' 37) (mE kd nm (J0 38) T f t ws ps o wants mn).2.2)) (htf : t + (f + 1) = T + 1) (hX : MX b n kd nm pl T J0 J t ws ps o) (hwl : ws.length ≤ t) (hpl2 : ps.length ≤ t) (ho5 : o ≤ 5) {x1 : Int32} (hwt : x1 = b2 true) (hWE : WE true ws ps o) (htT : t < T) (hop : opK (kdA kd T t) mn) : BdQ SyM mX11_takesE 5 53 [(2, .int (b2 mn)), (1, .int x1), (0, .ref 0)] [] J (fun r J' => r = some (.int (b2 (mE kd nm (J0 38) T (f + 1) t ws ps o true mn).1)) ∧ Fr6 J0 J' ∧ MTk b n kd nm pl T J' (mE kd nm (J0 38) T (f + 1) t ws ps o true mn).2.1 ∧ Stk (J' 37) (mE kd nm (J0 38) T (f + 1) t ws ps o true mn).2.2) := by
  by_cases ho : o = 5
  · rcases id hop with hk | hk | hk
    · exact p_op_py hM hBR hT hT6 ih htf hX hwl hpl2 ho5 hwt hWE htT hk hop ho
    · exact p_op_my hM hBR hT hT6 ih htf hX hwl hpl2 ho5 hwt hWE htT hk hop ho
    · exact p_op_ny hM hBR hT hT6 ih htf hX hwl hpl2 ho5 hwt hWE htT hk.2 hop ho
  · rcases id hop with hk | hk | hk
    · exact p_op_pn hM hBR hT hT6 ih htf hX hwl hpl2 ho5 hwt hWE htT hk hop ho
    · exact p_op_mn hM hBR hT hT6 ih htf hX hwl hpl2 ho5 hwt hWE htT hk hop ho
    · exact p_op_nn hM hBR hT hT6 ih htf hX hwl hpl2 ho5 hwt hWE htT hk.2 hop ho
set_option maxHeartbeats 4000000 in
theorem p_vl_num {J0 : Wd} {ba n : Nat} {b mb kd nm pl : Nat → Int32} {T : Nat} (hM : MB J0 ba n mb) (hBR : ∀ i, i < n → BRel (b i) (mb i)) (hT : TokOK b n kd nm pl T) (hT6 : T ≤ 160) {J : Wd} {t f : Nat} {ws ps : List Int32} {o : Nat} {mn : Bool} (ih : ∀ (t : Nat) (ws ps : List Int32) (o : Nat) (wants mn : Bool) (x2 x1 : Int32) (J : Wd), t + f = T + 1 → x2 = b2 mn → x1 = b2 wants → MX b n kd nm pl T J0 J t ws ps o → ws.length ≤ t → ps.length ≤ t → o ≤ 5 → WE wants ws ps o → BdQ SyM mX11_takesE 5 19 [(2, .int x2), (1, .int x1), (0, .ref 0)] [] J (fun r J' => r = some (.int (b2 (mE kd nm (J0 38) T f t ws ps o wants mn).1)) ∧ Fr6 J0 J' ∧ MTk b n kd nm pl T J' (mE kd nm (J0 38) T f t ws ps o wants mn).2.1 ∧ Stk (J' 37) (mE kd nm (J0 38) T f t ws ps o wants mn).2.2)) (htf : t + (f + 1) = T + 1) (hX : MX b n kd nm pl T J0 J t ws ps o) (hwl : ws.length ≤ t) (hpl2 : ps.length ≤ t) (ho5 : o ≤ 5) {x1 : Int32} (hwt : x1 = b2 true) (hWE : WE true ws ps o) (hk : kdA kd T t = 2) : BdQ SyM mX11_takesE 5 109 [(2, .int (b2 mn)), (1, .int x1), (0, .ref 0)] [] J (fun r J' => r = some (.int (b2 (mE kd nm (J0 38) T (f + 1) t ws ps o true mn).1)) ∧ Fr6 J0 J' ∧ MTk b n kd nm pl T J' (mE kd nm (J0 38) T (f + 1) t ws ps o true mn).2.1 ∧ Stk (J' 37) (mE kd nm (J0 38) T (f + 1) t ws ps o true mn).2.2) := by
  have hkv : kdA kd T t = 2 ∨ kdA kd T t = 3 := Or.inl hk
  have htT : t < T := kdA_lt (kd := kd) (fun q => by rw [q] at hk; exact absurd hk (by decide))
  have hno : ¬ opK (kdA kd T t) mn := by rw [hk]; exact fun q => q.elim (fun z => absurd z (by decide)) (fun q => q.elim (fun z => absurd z (by decide)) (fun z => absurd z.2 (by decide)))
  obtain ⟨_, I157, ⟨rfl, R157⟩, k157⟩ := q_push (v := vlF kd nm (J0 38) T t) hM hBR hT hX htT (by omega) (Nat.succ_le_of_lt (by omega : ps.length < 160)) hWE.vl
  have hms := ms_wf (k := 7) (by decide) ws (vlF kd nm (J0 38) T t :: ps) o hWE.vl
  have hlen : (vlF kd nm (J0 38) T t :: ps).length = ps.length + 1 := rfl
  refine BdQ.l (fun _ _ k => b_iload_n (pc := 109) (i := 1) (dd dtX11_takesE 57 rfl) rfl rfl k) ?_
  refine BdQ.b (fun _ _ k1 k2 => b_if_eq (pc := 110) (tgt := 165) (dd dtX11_takesE 58 rfl) (by decide) k1 k2) (fun h110 => ?_) (fun h110 => ?_)
  · exact absurd h110 (by rw [hwt]; decide)
  · refine BdQ.l (fun _ _ k => b_aload_n (pc := 113) (i := 0) (dd dtX11_takesE 59 rfl) rfl rfl k) ?_
    refine BdQ.l (fun _ _ k => b_geti (pc := 114) (dd dtX11_takesE 60 rfl) fwX11_176 pM_0 k) ?_
    refine BdQ.l (fun _ _ k => b_ic1 (pc := 117) (dd dtX11_takesE 61 rfl) k) ?_
    refine BdQ.b (fun _ _ k1 k2 => b_icmp_eq (pc := 118) (tgt := 129) (dd dtX11_takesE 62 rfl) (by decide) k1 k2) (fun h118 => ?_) (fun h118 => ?_)
    · refine BdQ.l (fun _ _ k => b_aload_n (pc := 129) (i := 0) (dd dtX11_takesE 67 rfl) rfl rfl k) ?_
      refine BdQ.l (fun _ _ k => b_aload_n (pc := 130) (i := 0) (dd dtX11_takesE 68 rfl) rfl rfl k) ?_
      refine BdQ.l (fun _ _ k => b_geti (pc := 131) (dd dtX11_takesE 69 rfl) fwX11_176 pM_0 k) ?_
      refine BdQ.l (fun _ _ k => b_ic1 (pc := 134) (dd dtX11_takesE 70 rfl) k) ?_
      refine BdQ.c (fun _ _ k1 k2 => b_icmp_ne (pc := 135) (tgt := 145) (dd dtX11_takesE 71 rfl) (by decide) k1 k2) (fun h135 => ?_) (fun h135 => ?_)
      · exact absurd ((tk_1 hX.2.1.tr).mpr hk) h135
      · refine BdQ.l (fun _ _ k => b_aload_n (pc := 138) (i := 0) (dd dtX11_takesE 72 rfl) rfl rfl k) ?_
        refine BdQ.l (fun _ _ k => b_geti (pc := 139) (dd dtX11_takesE 73 rfl) fwX11_182 pM_0 k) ?_
        refine BdQ.l (fun _ _ k => b_goto (pc := 142) (tgt := 157) (dd dtX11_takesE 74 rfl) (by decide) k) ?_
        rw [show J 0 55 = vlF kd nm (J0 38) T t from by unfold vlF; rw [if_pos hk]; exact (tk_v2 hX.2.1.tr hk).1]
        refine BdQ.l (fun _ _ k => b_invV (pc := 157) (dd dtX11_takesE 82 rfl) mlX11_369 mvX11_push miX11_push (k157) oM_0 rfl rfl (by decide) (Nat.le_of_ble_eq_true rfl) k) ?_
        refine BdQ.l (fun _ _ k => b_ic0 (pc := 160) (dd dtX11_takesE 83 rfl) k) ?_
        refine BdQ.l (fun _ _ k => b_istore_n (pc := 161) (i := 1) (lv' := [(1, _), (2, _), (0, _)]) (dd dtX11_takesE 84 rfl) rfl (Nat.le_of_ble_eq_true rfl) rfl k) ?_
        refine BdQ.l (fun _ _ k => b_goto (pc := 162) (tgt := 19) (dd dtX11_takesE 85 rfl) (by decide) k) ?_
        refine BdQ.l (fun _ _ k => b_pick [1, 0, 2] (lv' := [(2, _), (1, _), (0, _)]) rfl k) ?_
        rw [mE_vl hno hkv]
        exact ih (t + 1) _ _ _ false mn _ _ I157 (by omega) rfl rfl R157 (by omega) (by omega) (by omega) hms.1
    · exact absurd ((tk_1 hX.2.1.tr).mpr hk) h118
set_option maxHeartbeats 4000000 in
theorem p_vl_name {J0 : Wd} {ba n : Nat} {b mb kd nm pl : Nat → Int32} {T : Nat} (hM : MB J0 ba n mb) (hBR : ∀ i, i < n → BRel (b i) (mb i)) (hT : TokOK b n kd nm pl T) (hT6 : T ≤ 160) {J : Wd} {t f : Nat} {ws ps : List Int32} {o : Nat} {mn : Bool} (ih : ∀ (t : Nat) (ws ps : List Int32) (o : Nat) (wants mn : Bool) (x2 x1 : Int32) (J : Wd), t + f = T + 1 → x2 = b2 mn → x1 = b2 wants → MX b n kd nm pl T J0 J t ws ps o → ws.length ≤ t → ps.length ≤ t → o ≤ 5 → WE wants ws ps o → BdQ SyM mX11_takesE 5 19 [(2, .int x2), (1, .int x1), (0, .ref 0)] [] J (fun r J' => r = some (.int (b2 (mE kd nm (J0 38) T f t ws ps o wants mn).1)) ∧ Fr6 J0 J' ∧ MTk b n kd nm pl T J' (mE kd nm (J0 38) T f t ws ps o wants mn).2.1 ∧ Stk (J' 37) (mE kd nm (J0 38) T f t ws ps o wants mn).2.2)) (htf : t + (f + 1) = T + 1) (hX : MX b n kd nm pl T J0 J t ws ps o) (hwl : ws.length ≤ t) (hpl2 : ps.length ≤ t) (ho5 : o ≤ 5) {x1 : Int32} (hwt : x1 = b2 true) (hWE : WE true ws ps o) (hk : kdA kd T t = 3) : BdQ SyM mX11_takesE 5 109 [(2, .int (b2 mn)), (1, .int x1), (0, .ref 0)] [] J (fun r J' => r = some (.int (b2 (mE kd nm (J0 38) T (f + 1) t ws ps o true mn).1)) ∧ Fr6 J0 J' ∧ MTk b n kd nm pl T J' (mE kd nm (J0 38) T (f + 1) t ws ps o true mn).2.1 ∧ Stk (J' 37) (mE kd nm (J0 38) T (f + 1) t ws ps o true mn).2.2) := by
  have hkv : kdA kd T t = 2 ∨ kdA kd T t = 3 := Or.inr hk
  have htT : t < T := kdA_lt (kd := kd) (fun q => by rw [q] at hk; exact absurd hk (by decide))
  have hno : ¬ opK (kdA kd T t) mn := by rw [hk]; exact fun q => q.elim (fun z => absurd z (by decide)) (fun q => q.elim (fun z => absurd z (by decide)) (fun z => absurd z.2 (by decide)))
  obtain ⟨_, I157, ⟨rfl, R157⟩, k157⟩ := q_push (v := vlF kd nm (J0 38) T t) hM hBR hT hX htT (by omega) (Nat.succ_le_of_lt (by omega : ps.length < 160)) hWE.vl
  have hms := ms_wf (k := 7) (by decide) ws (vlF kd nm (J0 38) T t :: ps) o hWE.vl
  have hlen : (vlF kd nm (J0 38) T t :: ps).length = ps.length + 1 := rfl
  obtain ⟨i, i8, i1, i2⟩ := tk_v3 hX.2.1.tr hk
  refine BdQ.l (fun _ _ k => b_iload_n (pc := 109) (i := 1) (dd dtX11_takesE 57 rfl) rfl rfl k) ?_
  refine BdQ.b (fun _ _ k1 k2 => b_if_eq (pc := 110) (tgt := 165) (dd dtX11_takesE 58 rfl) (by decide) k1 k2) (fun h110 => ?_) (fun h110 => ?_)
  · exact absurd h110 (by rw [hwt]; decide)
  · refine BdQ.l (fun _ _ k => b_aload_n (pc := 113) (i := 0) (dd dtX11_takesE 59 rfl) rfl rfl k) ?_
    refine BdQ.l (fun _ _ k => b_geti (pc := 114) (dd dtX11_takesE 60 rfl) fwX11_176 pM_0 k) ?_
    refine BdQ.l (fun _ _ k => b_ic1 (pc := 117) (dd dtX11_takesE 61 rfl) k) ?_
    refine BdQ.b (fun _ _ k1 k2 => b_icmp_eq (pc := 118) (tgt := 129) (dd dtX11_takesE 62 rfl) (by decide) k1 k2) (fun h118 => ?_) (fun h118 => ?_)
    · exact absurd (((tk_1 hX.2.1.tr).mp h118).symm.trans hk) (by decide)
    · refine BdQ.l (fun _ _ k => b_aload_n (pc := 121) (i := 0) (dd dtX11_takesE 63 rfl) rfl rfl k) ?_
      refine BdQ.l (fun _ _ k => b_geti (pc := 122) (dd dtX11_takesE 64 rfl) fwX11_176 pM_0 k) ?_
      refine BdQ.l (fun _ _ k => b_ic2 (pc := 125) (dd dtX11_takesE 65 rfl) k) ?_
      refine BdQ.c (fun _ _ k1 k2 => b_icmp_ne (pc := 126) (tgt := 165) (dd dtX11_takesE 66 rfl) (by decide) k1 k2) (fun h126 => ?_) (fun h126 => ?_)
      · exact absurd ((tk_2 hX.2.1.tr).mpr hk) h126
      · refine BdQ.l (fun _ _ k => b_aload_n (pc := 129) (i := 0) (dd dtX11_takesE 67 rfl) rfl rfl k) ?_
        refine BdQ.l (fun _ _ k => b_aload_n (pc := 130) (i := 0) (dd dtX11_takesE 68 rfl) rfl rfl k) ?_
        refine BdQ.l (fun _ _ k => b_geti (pc := 131) (dd dtX11_takesE 69 rfl) fwX11_176 pM_0 k) ?_
        refine BdQ.l (fun _ _ k => b_ic1 (pc := 134) (dd dtX11_takesE 70 rfl) k) ?_
        refine BdQ.c (fun _ _ k1 k2 => b_icmp_ne (pc := 135) (tgt := 145) (dd dtX11_takesE 71 rfl) (by decide) k1 k2) (fun h135 => ?_) (fun h135 => ?_)
        · refine BdQ.l (fun _ _ k => b_aload_n (pc := 145) (i := 0) (dd dtX11_takesE 75 rfl) rfl rfl k) ?_
          refine BdQ.l (fun _ _ k => b_geta (pc := 146) (dd dtX11_takesE 76 rfl) fwX11_191 pM_0 rM_0_58 k) ?_
          refine BdQ.l (fun _ _ k => b_aload_n (pc := 149) (i := 0) (dd dtX11_takesE 77 rfl) rfl rfl k) ?_
          refine BdQ.l (fun _ _ k => b_geti (pc := 150) (dd dtX11_takesE 78 rfl) fwX11_182 pM_0 k) ?_
          rw [i2]
          refine BdQ.l (fun _ _ k => b_bipush (pc := 153) (v := 10) (dd dtX11_takesE 79 rfl) (by decide) k) ?_
          refine BdQ.l (fun _ _ k => b_isub (pc := 155) (dd dtX11_takesE 80 rfl) k) ?_
          rw [show nI (i + 10) - 10 = nI i from by rw [Nat.add_comm i 10]; exact nI_subp 10 i]
          refine BdQ.l (fun _ _ k => b_iald (pc := 156) (dd dtX11_takesE 81 rfl) pM_38 (vpn rfl i8 (by decide)) k) ?_
          rw [nI_clamp (show i < 2 ^ 31 by omega), hX.1.1 38 (by decide) (by decide) (by decide), show J0 38 i = vlF kd nm (J0 38) T t from by unfold vlF; rw [if_neg (by rw [hk]; decide), i1, nI_clamp (show i < 2 ^ 31 by omega)]]
          refine BdQ.l (fun _ _ k => b_invV (pc := 157) (dd dtX11_takesE 82 rfl) mlX11_369 mvX11_push miX11_push (k157) oM_0 rfl rfl (by decide) (Nat.le_of_ble_eq_true rfl) k) ?_
          refine BdQ.l (fun _ _ k => b_ic0 (pc := 160) (dd dtX11_takesE 83 rfl) k) ?_
          refine BdQ.l (fun _ _ k => b_istore_n (pc := 161) (i := 1) (lv' := [(1, _), (2, _), (0, _)]) (dd dtX11_takesE 84 rfl) rfl (Nat.le_of_ble_eq_true rfl) rfl k) ?_
          refine BdQ.l (fun _ _ k => b_goto (pc := 162) (tgt := 19) (dd dtX11_takesE 85 rfl) (by decide) k) ?_
          refine BdQ.l (fun _ _ k => b_pick [1, 0, 2] (lv' := [(2, _), (1, _), (0, _)]) rfl k) ?_
          rw [mE_vl hno hkv]
          exact ih (t + 1) _ _ _ false mn _ _ I157 (by omega) rfl rfl R157 (by omega) (by omega) (by omega) hms.1
        · exact absurd (((tk_1 hX.2.1.tr).mp h135).symm.trans hk) (by decide)
set_option maxHeartbeats 4000000 in
theorem p_vl_no {J0 : Wd} {ba n : Nat} {b mb kd nm pl : Nat → Int32} {T : Nat} (hM : MB J0 ba n mb) (hBR : ∀ i, i < n → BRel (b i) (mb i)) (hT : TokOK b n kd nm pl T) (hT6 : T ≤ 160) {J : Wd} {t f : Nat} {ws ps : List Int32} {o : Nat} {mn : Bool} (ih : ∀ (t : Nat) (ws ps : List Int32) (o : Nat) (wants mn : Bool) (x2 x1 : Int32) (J : Wd), t + f = T + 1 → x2 = b2 mn → x1 = b2 wants → MX b n kd nm pl T J0 J t ws ps o → ws.length ≤ t → ps.length ≤ t → o ≤ 5 → WE wants ws ps o → BdQ SyM mX11_takesE 5 19 [(2, .int x2), (1, .int x1), (0, .ref 0)] [] J (fun r J' => r = some (.int (b2 (mE kd nm (J0 38) T f t ws ps o wants mn).1)) ∧ Fr6 J0 J' ∧ MTk b n kd nm pl T J' (mE kd nm (J0 38) T f t ws ps o wants mn).2.1 ∧ Stk (J' 37) (mE kd nm (J0 38) T f t ws ps o wants mn).2.2)) (htf : t + (f + 1) = T + 1) (hX : MX b n kd nm pl T J0 J t ws ps o) (hwl : ws.length ≤ t) (hpl2 : ps.length ≤ t) (ho5 : o ≤ 5) {x1 : Int32} (hwt : x1 = b2 true) (hWE : WE true ws ps o) (hno : ¬ opK (kdA kd T t) mn) (hnv : ¬ (kdA kd T t = 2 ∨ kdA kd T t = 3)) : BdQ SyM mX11_takesE 5 109 [(2, .int (b2 mn)), (1, .int x1), (0, .ref 0)] [] J (fun r J' => r = some (.int (b2 (mE kd nm (J0 38) T (f + 1) t ws ps o true mn).1)) ∧ Fr6 J0 J' ∧ MTk b n kd nm pl T J' (mE kd nm (J0 38) T (f + 1) t ws ps o true mn).2.1 ∧ Stk (J' 37) (mE kd nm (J0 38) T (f + 1) t ws ps o true mn).2.2) := by
  refine BdQ.l (fun _ _ k => b_iload_n (pc := 109) (i := 1) (dd dtX11_takesE 57 rfl) rfl rfl k) ?_
  refine BdQ.b (fun _ _ k1 k2 => b_if_eq (pc := 110) (tgt := 165) (dd dtX11_takesE 58 rfl) (by decide) k1 k2) (fun h110 => ?_) (fun h110 => ?_)
  · exact absurd h110 (by rw [hwt]; decide)
  · refine BdQ.l (fun _ _ k => b_aload_n (pc := 113) (i := 0) (dd dtX11_takesE 59 rfl) rfl rfl k) ?_
    refine BdQ.l (fun _ _ k => b_geti (pc := 114) (dd dtX11_takesE 60 rfl) fwX11_176 pM_0 k) ?_
    refine BdQ.l (fun _ _ k => b_ic1 (pc := 117) (dd dtX11_takesE 61 rfl) k) ?_
    refine BdQ.b (fun _ _ k1 k2 => b_icmp_eq (pc := 118) (tgt := 129) (dd dtX11_takesE 62 rfl) (by decide) k1 k2) (fun h118 => ?_) (fun h118 => ?_)
    · exact absurd (Or.inl ((tk_1 hX.2.1.tr).mp h118)) hnv
    · refine BdQ.l (fun _ _ k => b_aload_n (pc := 121) (i := 0) (dd dtX11_takesE 63 rfl) rfl rfl k) ?_
      refine BdQ.l (fun _ _ k => b_geti (pc := 122) (dd dtX11_takesE 64 rfl) fwX11_176 pM_0 k) ?_
      refine BdQ.l (fun _ _ k => b_ic2 (pc := 125) (dd dtX11_takesE 65 rfl) k) ?_
      refine BdQ.c (fun _ _ k1 k2 => b_icmp_ne (pc := 126) (tgt := 165) (dd dtX11_takesE 66 rfl) (by decide) k1 k2) (fun h126 => ?_) (fun h126 => ?_)
      · refine BdQ.l (fun _ _ k => b_iload_n (pc := 165) (i := 1) (dd dtX11_takesE 86 rfl) rfl rfl k) ?_
        refine BdQ.b (fun _ _ k1 k2 => b_if_eq (pc := 166) (tgt := 171) (dd dtX11_takesE 87 rfl) (by decide) k1 k2) (fun h166 => ?_) (fun h166 => ?_)
        · exact absurd h166 (by rw [hwt]; decide)
        · refine BdQ.l (fun _ _ k => b_ic0 (pc := 169) (dd dtX11_takesE 88 rfl) k) ?_
          refine ⟨_, _, ?_, b_zret (dd dtX11_takesE 89 rfl) rfl (by decide)⟩
          rw [mE_no hno hnv]
          exact ⟨rfl, hX.1, hX.2.1, hX.2.2.2.2.2.1⟩
      · exact absurd (Or.inr ((tk_2 hX.2.1.tr).mp h126)) hnv
theorem p_vl {J0 : Wd} {ba n : Nat} {b mb kd nm pl : Nat → Int32} {T : Nat} (hM : MB J0 ba n mb) (hBR : ∀ i, i < n → BRel (b i) (mb i)) (hT : TokOK b n kd nm pl T) (hT6 : T ≤ 160) {J : Wd} {t f : Nat} {ws ps : List Int32} {o : Nat} {mn : Bool} (ih : ∀ (t : Nat) (ws ps : List Int32) (o : Nat) (wants mn : Bool) (x2 x1 : Int32) (J : Wd), t + f = T + 1 → x2 = b2 mn → x1 = b2 wants → MX b n kd nm pl T J0 J t ws ps o → ws.length ≤ t → ps.length ≤ t → o ≤ 5 → WE wants ws ps o → BdQ SyM mX11_takesE 5 19 [(2, .int x2), (1, .int x1), (0, .ref 0)] [] J (fun r J' => r = some (.int (b2 (mE kd nm (J0 38) T f t ws ps o wants mn).1)) ∧ Fr6 J0 J' ∧ MTk b n kd nm pl T J' (mE kd nm (J0 38) T f t ws ps o wants mn).2.1 ∧ Stk (J' 37) (mE kd nm (J0 38) T f t ws ps o wants mn).2.2)) (htf : t + (f + 1) = T + 1) (hX : MX b n kd nm pl T J0 J t ws ps o) (hwl : ws.length ≤ t) (hpl2 : ps.length ≤ t) (ho5 : o ≤ 5) {x1 : Int32} (hwt : x1 = b2 true) (hWE : WE true ws ps o) (hno : ¬ opK (kdA kd T t) mn) : BdQ SyM mX11_takesE 5 109 [(2, .int (b2 mn)), (1, .int x1), (0, .ref 0)] [] J (fun r J' => r = some (.int (b2 (mE kd nm (J0 38) T (f + 1) t ws ps o true mn).1)) ∧ Fr6 J0 J' ∧ MTk b n kd nm pl T J' (mE kd nm (J0 38) T (f + 1) t ws ps o true mn).2.1 ∧ Stk (J' 37) (mE kd nm (J0 38) T (f + 1) t ws ps o true mn).2.2) := by
  by_cases h2 : kdA kd T t = 2
  · exact p_vl_num hM hBR hT hT6 ih htf hX hwl hpl2 ho5 hwt hWE h2
  · by_cases h3 : kdA kd T t = 3
    · exact p_vl_name hM hBR hT hT6 ih htf hX hwl hpl2 ho5 hwt hWE h3
    · exact p_vl_no hM hBR hT hT6 ih htf hX hwl hpl2 ho5 hwt hWE hno (fun q => q.elim h2 h3)
theorem key305 {k v tok val : Int32} (h : TR k v tok val) : (tok = 3 ∧ val = 5) ↔ k = 305 := tk_key h (u := 5) (by decide)
set_option maxHeartbeats 4000000 in
theorem p_w19 {J0 : Wd} {ba n : Nat} {b mb kd nm pl : Nat → Int32} {T : Nat} (hM : MB J0 ba n mb) (hBR : ∀ i, i < n → BRel (b i) (mb i)) (hT : TokOK b n kd nm pl T) (hT6 : T ≤ 160) {J : Wd} {t f : Nat} {ws ps : List Int32} {o : Nat} {mn : Bool} (ih : ∀ (t : Nat) (ws ps : List Int32) (o : Nat) (wants mn : Bool) (x2 x1 : Int32) (J : Wd), t + f = T + 1 → x2 = b2 mn → x1 = b2 wants → MX b n kd nm pl T J0 J t ws ps o → ws.length ≤ t → ps.length ≤ t → o ≤ 5 → WE wants ws ps o → BdQ SyM mX11_takesE 5 19 [(2, .int x2), (1, .int x1), (0, .ref 0)] [] J (fun r J' => r = some (.int (b2 (mE kd nm (J0 38) T f t ws ps o wants mn).1)) ∧ Fr6 J0 J' ∧ MTk b n kd nm pl T J' (mE kd nm (J0 38) T f t ws ps o wants mn).2.1 ∧ Stk (J' 37) (mE kd nm (J0 38) T f t ws ps o wants mn).2.2)) (htf : t + (f + 1) = T + 1) (hX : MX b n kd nm pl T J0 J t ws ps o) (hwl : ws.length ≤ t) (hpl2 : ps.length ≤ t) (ho5 : o ≤ 5) {x1 : Int32} (hwt : x1 = b2 true) (hWE : WE true ws ps o) : BdQ SyM mX11_takesE 5 19 [(2, .int (b2 mn)), (1, .int x1), (0, .ref 0)] [] J (fun r J' => r = some (.int (b2 (mE kd nm (J0 38) T (f + 1) t ws ps o true mn).1)) ∧ Fr6 J0 J' ∧ MTk b n kd nm pl T J' (mE kd nm (J0 38) T (f + 1) t ws ps o true mn).2.1 ∧ Stk (J' 37) (mE kd nm (J0 38) T (f + 1) t ws ps o true mn).2.2) := by
  have hgo := (fun (hop : opK (kdA kd T t) mn) => p_op hM hBR hT hT6 ih htf hX hwl hpl2 ho5 hwt hWE (kdA_lt (kd := kd) (fun q => by rcases hop with z | z | z <;> first | (rw [q] at z; exact absurd z (by decide)) | exact absurd (q.symm.trans z.2) (by decide))) hop)
  have hvl := p_vl (mn := mn) hM hBR hT hT6 ih htf hX hwl hpl2 ho5 hwt hWE
  refine BdQ.l (fun _ _ k => b_iload_n (pc := 19) (i := 1) (dd dtX11_takesE 13 rfl) rfl rfl k) ?_
  refine BdQ.b (fun _ _ k1 k2 => b_if_eq (pc := 20) (tgt := 109) (dd dtX11_takesE 14 rfl) (by decide) k1 k2) (fun h20 => ?_) (fun h20 => ?_)
  · exact absurd h20 (by rw [hwt]; decide)
  · refine BdQ.l (fun _ _ k => b_aload_n (pc := 23) (i := 0) (dd dtX11_takesE 15 rfl) rfl rfl k) ?_
    refine BdQ.l (fun _ _ k => b_geti (pc := 24) (dd dtX11_takesE 16 rfl) fwX11_176 pM_0 k) ?_
    refine BdQ.l (fun _ _ k => b_bipush (pc := 27) (v := 40) (dd dtX11_takesE 17 rfl) (by decide) k) ?_
    refine BdQ.b (fun _ _ k1 k2 => b_icmp_eq (pc := 29) (tgt := 53) (dd dtX11_takesE 18 rfl) (by decide) k1 k2) (fun h29 => ?_) (fun h29 => ?_)
    · first
      | exact hgo (Or.inl ((tk_mk hX.2.1.tr (by decide)).mp h29))
      | exact hgo (Or.inr (Or.inl ((tk_mk hX.2.1.tr (by decide)).mp h38)))
      | exact hgo (Or.inr (Or.inr ⟨by unfold b2 at h42; split at h42 <;> first | assumption | exact absurd rfl h42, (key305 hX.2.1.tr).mp h50⟩))
    · refine BdQ.l (fun _ _ k => b_aload_n (pc := 32) (i := 0) (dd dtX11_takesE 19 rfl) rfl rfl k) ?_
      refine BdQ.l (fun _ _ k => b_geti (pc := 33) (dd dtX11_takesE 20 rfl) fwX11_176 pM_0 k) ?_
      refine BdQ.l (fun _ _ k => b_bipush (pc := 36) (v := 45) (dd dtX11_takesE 21 rfl) (by decide) k) ?_
      refine BdQ.b (fun _ _ k1 k2 => b_icmp_eq (pc := 38) (tgt := 53) (dd dtX11_takesE 22 rfl) (by decide) k1 k2) (fun h38 => ?_) (fun h38 => ?_)
      · first
        | exact hgo (Or.inl ((tk_mk hX.2.1.tr (by decide)).mp h29))
        | exact hgo (Or.inr (Or.inl ((tk_mk hX.2.1.tr (by decide)).mp h38)))
        | exact hgo (Or.inr (Or.inr ⟨by unfold b2 at h42; split at h42 <;> first | assumption | exact absurd rfl h42, (key305 hX.2.1.tr).mp h50⟩))
      · refine BdQ.l (fun _ _ k => b_iload_n (pc := 41) (i := 2) (dd dtX11_takesE 23 rfl) rfl rfl k) ?_
        refine BdQ.b (fun _ _ k1 k2 => b_if_eq (pc := 42) (tgt := 109) (dd dtX11_takesE 24 rfl) (by decide) k1 k2) (fun h42 => ?_) (fun h42 => ?_)
        · first
          | exact hvl (fun q => q.elim (fun z => h29 ((tk_mk hX.2.1.tr (by decide)).mpr z)) (fun q => q.elim (fun z => h38 ((tk_mk hX.2.1.tr (by decide)).mpr z)) (fun z => h50 ((key305 hX.2.1.tr).mpr z.2))))
          | exact hvl (fun q => q.elim (fun z => h29 ((tk_mk hX.2.1.tr (by decide)).mpr z)) (fun q => q.elim (fun z => h38 ((tk_mk hX.2.1.tr (by decide)).mpr z)) (fun z => absurd h42 (by rw [z.1]; decide))))
        · refine BdQ.l (fun _ _ k => b_aload_n (pc := 45) (i := 0) (dd dtX11_takesE 25 rfl) rfl rfl k) ?_
          refine BdQ.l (fun _ _ k => b_ic5 (pc := 46) (dd dtX11_takesE 26 rfl) k) ?_
          refine BdQ.l (fun _ _ k => b_invV (pc := 47) (dd dtX11_takesE 27 rfl) mlX11_363 mvX11_isKey miX11_isKey (c_X11_isKey) oM_0 rfl rfl (by decide) (Nat.le_of_ble_eq_true rfl) k) ?_
          refine BdQ.c (fun _ _ k1 k2 => b_ifb_eq (pc := 50) (tgt := 109) (dd dtX11_takesE 28 rfl) (by decide) k1 k2) (fun h50 => ?_) (fun h50 => ?_)
          · first
            | exact hvl (fun q => q.elim (fun z => h29 ((tk_mk hX.2.1.tr (by decide)).mpr z)) (fun q => q.elim (fun z => h38 ((tk_mk hX.2.1.tr (by decide)).mpr z)) (fun z => h50 ((key305 hX.2.1.tr).mpr z.2))))
            | exact hvl (fun q => q.elim (fun z => h29 ((tk_mk hX.2.1.tr (by decide)).mpr z)) (fun q => q.elim (fun z => h38 ((tk_mk hX.2.1.tr (by decide)).mpr z)) (fun z => absurd h42 (by rw [z.1]; decide))))
          · first
            | exact hgo (Or.inl ((tk_mk hX.2.1.tr (by decide)).mp h29))
            | exact hgo (Or.inr (Or.inl ((tk_mk hX.2.1.tr (by decide)).mp h38)))
            | exact hgo (Or.inr (Or.inr ⟨by unfold b2 at h42; split at h42 <;> first | assumption | exact absurd rfl h42, (key305 hX.2.1.tr).mp h50⟩))
