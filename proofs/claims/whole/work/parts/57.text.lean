/-! the tape fed -/
def tX7_put : List (Nat × Instr × Nat) := [(0, .aload_n 0, 1), (1, .getfield 9, 3), (4, .sipush 160, 3), (7, .if_icmp .ge 23, 3), (10, .aload_n 0, 1), (11, .getfield 18, 3), (14, .aload_n 0, 1), (15, .getfield 9, 3), (18, .iload_n 1, 1), (19, .iastore, 1), (20, .aload_n 0, 1), (21, .dup, 1), (22, .getfield 9, 3), (25, .iconst 1, 1), (26, .iadd, 1), (27, .putfield 9, 3), (30, .return_, 1)]
theorem dtX7_put : dec_ok mX7_put.2.1 tX7_put = true := by decide +kernel
set_option maxHeartbeats 4000000 in
theorem c_X7_put {I : Wd} {s : Nat} {v : Int32} (hs : I 67 0 = nI s) (hs2 : s < 160) : Cal SyC mX7_put 0 [.ref 67, .int v] I none (ist (ist I 68 s v) 67 0 (nI (s + 1))) := by
  refine Cal.of (by decide) (Nat.le_of_ble_eq_true rfl) ?_
  show Bd _ _ _ _ [(0, _), (1, _)] _ _ _ _
  refine b_aload_n (pc := 0) (i := 0) (dd dtX7_put 0 rfl) rfl rfl ?_
  refine b_geti (pc := 1) (dd dtX7_put 1 rfl) fwX7_9 pC_67 ?_
  refine b_sipush (pc := 4) (v := 160) (dd dtX7_put 2 rfl) (by decide) ?_
  refine b_icmpL_ge (pc := 7) (tgt := 30) (dd dtX7_put 3 rfl) (by decide) (fun h7 => ?_) (fun h7 => ?_)
  · exact absurd (by rw [hs]; exact nI_lt (b := 160) hs2 (by decide)) h7
  · refine b_aload_n (pc := 10) (i := 0) (dd dtX7_put 4 rfl) rfl rfl ?_
    refine b_geta (pc := 11) (dd dtX7_put 5 rfl) fwX7_18 pC_67 rC_67_2 ?_
    refine b_aload_n (pc := 14) (i := 0) (dd dtX7_put 6 rfl) rfl rfl ?_
    refine b_geti (pc := 15) (dd dtX7_put 7 rfl) fwX7_9 pC_67 ?_
    refine b_iload_n (pc := 18) (i := 1) (dd dtX7_put 8 rfl) rfl rfl ?_
    rw [hs]
    refine b_iast (pc := 19) (dd dtX7_put 9 rfl) pC_68 (vpn rfl hs2 (by decide)) ?_
    refine b_aload_n (pc := 20) (i := 0) (dd dtX7_put 10 rfl) rfl rfl ?_
    refine b_dup (pc := 21) (dd dtX7_put 11 rfl) rfl ?_
    refine b_geti (pc := 22) (dd dtX7_put 12 rfl) fwX7_9 pC_67 ?_
    refine b_ic1 (pc := 25) (dd dtX7_put 13 rfl) ?_
    refine b_iadd (pc := 26) (dd dtX7_put 14 rfl) ?_
    refine b_puti (pc := 27) (dd dtX7_put 15 rfl) fwX7_9 pC_67 ?_
    refine b_eq (b_vret (dd dtX7_put 16 rfl) rfl) ?_ ?_
    · rfl
    · rw [nI_clamp (show s < 2 ^ 31 by omega)]; simp only [ist_ne (show (67 : Nat) ≠ 68 by decide), hs, nI_1]
def bytC (w : Int64) (m : Nat) : Int32 := (w.toUInt64 >>> ((8 * nI m).toInt64.toUInt64 &&& Int64.toUInt64 63)).toInt64.toInt32 &&& 255
def FdW (I : Wd) (s k q : Nat) (w : Int64) (W : Wd) : Prop := (∀ a, a ≠ 67 → a ≠ 68 → W a = I a) ∧ W 67 0 = nI (s + q) ∧ (∀ i, i < s → W 68 i = I 68 i) ∧ ∀ j, j < q → W 68 (s + j) = bytC w (k - 1 - j)
theorem FdW.s {I W : Wd} {s k q : Nat} {w : Int64} (h : FdW I s k q w W) (hq : q < k) : FdW I s k (q + 1) w (ist (ist W 68 (s + q) (bytC w (k - 1 - q))) 67 0 (nI (s + q + 1))) := by
  obtain ⟨h1, h2, h3, h4⟩ := h
  refine ⟨fun a a1 a2 => by rw [ist_ne a1, ist_ne a2]; exact h1 a a1 a2, by rw [ist_eq, upd_eq]; rfl, fun i hi => ?_, fun j hj => ?_⟩
  · rw [ist_ne (by decide), ist_eq, upd_ne (by omega)]; exact h3 i hi
  · rw [ist_ne (by decide), ist_eq]
    by_cases e : j = q
    · subst e; rw [upd_eq]
    · rw [upd_ne (by omega)]; exact h4 j (by omega)
def vFeed (s : Nat) (n : Int32) : Int32 := if inR n 1 8 then (if 160 < nI s + n then -4 else nI s + n) else -2
theorem n18 {n : Int32} (h : inR n 1 8) : ∃ k, n = nI k ∧ 1 ≤ k ∧ k ≤ 8 := by
  obtain ⟨j, e, h1, h2, h3, h4⟩ := nI_rng2 h (by decide)
  have a1 : (1 : Int32).toInt = 1 := rfl
  have a8 : (8 : Int32).toInt = 8 := rfl
  exact ⟨j, e, by omega, by omega⟩
def tX10_feed : List (Nat × Instr × Nat) := [(0, .iload_n 3, 1), (1, .iconst 1, 1), (2, .bipush 8, 2), (4, .invokestatic 97, 3), (7, .ifCond .ne 6, 3), (10, .bipush (-2), 2), (12, .ireturn, 1), (13, .aload_n 0, 1), (14, .getfield 64, 3), (17, .getfield 240, 3), (20, .getfield 244, 3), (23, .iload_n 3, 1), (24, .iadd, 1), (25, .sipush 160, 3), (28, .if_icmp .le 6, 3), (31, .bipush (-4), 2), (33, .ireturn, 1), (34, .iload_n 3, 1), (35, .iconst 1, 1), (36, .isub, 1), (37, .istore 4, 2), (39, .iload 4, 2), (41, .ifCond .lt 31, 3), (44, .aload_n 0, 1), (45, .getfield 64, 3), (48, .getfield 240, 3), (51, .lload_n 1, 1), (52, .bipush 8, 2), (54, .iload 4, 2), (56, .imul, 1), (57, .lushr, 1), (58, .l2i, 1), (59, .sipush 255, 3), (62, .iand, 1), (63, .invokevirtual 247, 3), (66, .iinc 4 (-1), 3), (69, .goto (-30), 3), (72, .aload_n 0, 1), (73, .getfield 64, 3), (76, .getfield 240, 3), (79, .getfield 244, 3), (82, .ireturn, 1)]
theorem dtX10_feed : dec_ok mX10_feed.2.1 tX10_feed = true := by decide +kernel
set_option maxHeartbeats 1000000 in
theorem lr_feed {I : Wd} {s k : Nat} {w : Int64} {n : Int32} (hsk : s + k ≤ 160) : ∀ (m q : Nat) (x4 : Int32) (W : Wd), q + m = k → x4 = nI m - 1 → FdW I s k q w W → BdQ SyC mX10_feed 1 39 [(4, .int x4), (0, .ref 0), (1, .long w), (3, .int n)] [] W (fun r I' => r = some (.int (nI (s + k))) ∧ FdW I s k k w I') := by
  intro m
  induction m with
  | zero =>
    intro q x4 W hq e4 hF
    subst e4
    refine BdQ.l (fun _ _ k => b_iload (pc := 39) (i := 4) (dd dtX10_feed 21 rfl) rfl k) ?_
    refine BdQ.b (fun _ _ k1 k2 => b_if_lt (pc := 41) (tgt := 72) (dd dtX10_feed 22 rfl) (by decide) k1 k2) (fun h41 => ?_) (fun h41 => ?_)
    · refine BdQ.l (fun _ _ k => b_aload_n (pc := 72) (i := 0) (dd dtX10_feed 37 rfl) rfl rfl k) ?_
      refine BdQ.l (fun _ _ k => b_geta (pc := 73) (dd dtX10_feed 38 rfl) fwX10_64 pC_0 rC_0_9 k) ?_
      refine BdQ.l (fun _ _ k => b_geta (pc := 76) (dd dtX10_feed 39 rfl) fwX10_240 pC_66 rC_66_0 k) ?_
      refine BdQ.l (fun _ _ k => b_geti (pc := 79) (dd dtX10_feed 40 rfl) fwX10_244 pC_67 k) ?_
      refine ⟨_, _, ?_, b_iret (dd dtX10_feed 41 rfl) rfl⟩
      have hq : q = k := by omega
      subst hq
      exact ⟨by rw [hF.2.1], hF⟩
    · exact absurd (by decide) h41
  | succ m ih =>
    intro q x4 W hq e4 hF
    subst e4
    rw [nI_pred]
    refine BdQ.l (fun _ _ k => b_iload (pc := 39) (i := 4) (dd dtX10_feed 21 rfl) rfl k) ?_
    refine BdQ.b (fun _ _ k1 k2 => b_if_lt (pc := 41) (tgt := 72) (dd dtX10_feed 22 rfl) (by decide) k1 k2) (fun h41 => ?_) (fun h41 => ?_)
    · exact absurd h41 (nI_pos (by omega))
    · refine BdQ.l (fun _ _ k => b_aload_n (pc := 44) (i := 0) (dd dtX10_feed 23 rfl) rfl rfl k) ?_
      refine BdQ.l (fun _ _ k => b_geta (pc := 45) (dd dtX10_feed 24 rfl) fwX10_64 pC_0 rC_0_9 k) ?_
      refine BdQ.l (fun _ _ k => b_geta (pc := 48) (dd dtX10_feed 25 rfl) fwX10_240 pC_66 rC_66_0 k) ?_
      refine BdQ.l (fun _ _ k => b_lload_n (pc := 51) (i := 1) (dd dtX10_feed 26 rfl) rfl rfl k) ?_
      refine BdQ.l (fun _ _ k => b_bipush (pc := 52) (v := 8) (dd dtX10_feed 27 rfl) (by decide) k) ?_
      refine BdQ.l (fun _ _ k => b_iload (pc := 54) (i := 4) (dd dtX10_feed 28 rfl) rfl k) ?_
      refine BdQ.l (fun _ _ k => b_imul (pc := 56) (dd dtX10_feed 29 rfl) k) ?_
      refine BdQ.l (fun _ _ k => b_lushr (pc := 57) (dd dtX10_feed 30 rfl) k) ?_
      refine BdQ.l (fun _ _ k => b_l2i (pc := 58) (dd dtX10_feed 31 rfl) k) ?_
      refine BdQ.l (fun _ _ k => b_sipush (pc := 59) (v := 255) (dd dtX10_feed 32 rfl) (by decide) k) ?_
      refine BdQ.l (fun _ _ k => b_iand (pc := 62) (dd dtX10_feed 33 rfl) k) ?_
      refine BdQ.l (fun _ _ k => b_invV (pc := 63) (dd dtX10_feed 34 rfl) mlX10_247 mvX7_put miX7_put (c_X7_put (s := s + q) hF.2.1 (by omega)) oC_67 rfl rfl (by decide) (Nat.le_of_ble_eq_true rfl) k) ?_
      refine BdQ.l (fun _ _ k => b_iinc (pc := 66) (i := 4) (v := _ + (-1)) (lv' := [(4, _), (0, _), (1, _), (3, _)]) (dd dtX10_feed 35 rfl) rfl rfl (Nat.le_of_ble_eq_true rfl) rfl k) ?_
      refine BdQ.l (fun _ _ k => b_goto (pc := 69) (tgt := 39) (dd dtX10_feed 36 rfl) (by decide) k) ?_
      rw [show nI m + (-1) = nI m - 1 from (Int32.sub_eq_add_neg _ _).symm]
      refine ih (q + 1) _ _ (by omega) rfl ?_
      have kk := hF.s (show q < k by omega)
      rw [show k - 1 - q = m by omega] at kk
      exact kk
set_option maxHeartbeats 4000000 in
theorem q_feed {I : Wd} {s : Nat} {w : Int64} {n : Int32} (hs : I 67 0 = nI s) (hs2 : s ≤ 160) : CalQ SyC mX10_feed 1 [.ref 0, .long w, .int n] I (fun r I' => r = some (.int (vFeed s n)) ∧ ((inR n 1 8 ∧ ¬ 160 < nI s + n) → ∃ k, n = nI k ∧ s + k ≤ 160 ∧ FdW I s k k w I') ∧ (¬ (inR n 1 8 ∧ ¬ 160 < nI s + n) → I' = I)) := by
  refine CalQ.of (by decide) (Nat.le_of_ble_eq_true rfl) ?_
  show BdQ _ _ _ _ [(0, _), (1, _), (3, _)] _ _ _
  refine BdQ.l (fun _ _ k => b_iload_n (pc := 0) (i := 3) (dd dtX10_feed 0 rfl) rfl rfl k) ?_
  refine BdQ.l (fun _ _ k => b_ic1 (pc := 1) (dd dtX10_feed 1 rfl) k) ?_
  refine BdQ.l (fun _ _ k => b_bipush (pc := 2) (v := 8) (dd dtX10_feed 2 rfl) (by decide) k) ?_
  refine BdQ.l (fun _ _ k => b_invS (pc := 4) (dd dtX10_feed 3 rfl) mlX10_97 mvX10_within msX10_within (c_X10_within) rfl rfl (by decide) (Nat.le_of_ble_eq_true rfl) k) ?_
  refine BdQ.b (fun _ _ k1 k2 => b_ifb_ne (pc := 7) (tgt := 13) (dd dtX10_feed 4 rfl) (by decide) k1 k2) (fun h7 => ?_) (fun h7 => ?_)
  · refine BdQ.l (fun _ _ k => b_aload_n (pc := 13) (i := 0) (dd dtX10_feed 7 rfl) rfl rfl k) ?_
    refine BdQ.l (fun _ _ k => b_geta (pc := 14) (dd dtX10_feed 8 rfl) fwX10_64 pC_0 rC_0_9 k) ?_
    refine BdQ.l (fun _ _ k => b_geta (pc := 17) (dd dtX10_feed 9 rfl) fwX10_240 pC_66 rC_66_0 k) ?_
    refine BdQ.l (fun _ _ k => b_geti (pc := 20) (dd dtX10_feed 10 rfl) fwX10_244 pC_67 k) ?_
    refine BdQ.l (fun _ _ k => b_iload_n (pc := 23) (i := 3) (dd dtX10_feed 11 rfl) rfl rfl k) ?_
    rw [hs]
    refine BdQ.l (fun _ _ k => b_iadd (pc := 24) (dd dtX10_feed 12 rfl) k) ?_
    refine BdQ.l (fun _ _ k => b_sipush (pc := 25) (v := 160) (dd dtX10_feed 13 rfl) (by decide) k) ?_
    refine BdQ.c (fun _ _ k1 k2 => b_icmpL_le (pc := 28) (tgt := 34) (dd dtX10_feed 14 rfl) (by decide) k1 k2) (fun h28 => ?_) (fun h28 => ?_)
    · refine BdQ.l (fun _ _ k => b_iload_n (pc := 34) (i := 3) (dd dtX10_feed 17 rfl) rfl rfl k) ?_
      refine BdQ.l (fun _ _ k => b_ic1 (pc := 35) (dd dtX10_feed 18 rfl) k) ?_
      refine BdQ.l (fun _ _ k => b_isub (pc := 36) (dd dtX10_feed 19 rfl) k) ?_
      refine BdQ.l (fun _ _ k => b_istore (pc := 37) (i := 4) (lv' := [(4, _), (0, _), (1, _), (3, _)]) (dd dtX10_feed 20 rfl) (Nat.le_of_ble_eq_true rfl) rfl k) ?_
      obtain ⟨k, rfl, hk1, hk8⟩ := n18 h7
      have hle : s + k ≤ 160 := by
        rw [nI_add] at h28
        exact Nat.le_of_not_lt (fun q => h28 (nI_lt (a := 160) q (by omega)))
      refine BdQ.to (lr_feed hle k 0 _ _ (by omega) rfl ⟨fun _ _ _ => rfl, hs, fun _ _ => rfl, fun j hj => absurd hj (Nat.not_lt_zero _)⟩) ?_
      rintro r I' ⟨h0, h1⟩
      exact ⟨by rw [h0, vFeed, if_pos h7, if_neg h28, nI_add], fun _ => ⟨k, rfl, hle, h1⟩, fun q => absurd ⟨h7, h28⟩ q⟩
    · refine BdQ.l (fun _ _ k => b_bipush (pc := 31) (v := -4) (dd dtX10_feed 15 rfl) (by decide) k) ?_
      refine ⟨_, _, ?_, b_iret (dd dtX10_feed 16 rfl) rfl⟩
      first
      | exact ⟨by rw [vFeed, if_neg h7], fun q => absurd q.1 h7, fun _ => rfl⟩
      | exact ⟨by rw [vFeed, if_pos h7, if_pos h28], fun q => absurd h28 q.2, fun _ => rfl⟩
  · refine BdQ.l (fun _ _ k => b_bipush (pc := 10) (v := -2) (dd dtX10_feed 5 rfl) (by decide) k) ?_
    refine ⟨_, _, ?_, b_iret (dd dtX10_feed 6 rfl) rfl⟩
    first
    | exact ⟨by rw [vFeed, if_neg h7], fun q => absurd q.1 h7, fun _ => rfl⟩
    | exact ⟨by rw [vFeed, if_pos h7, if_pos h28], fun q => absurd h28 q.2, fun _ => rfl⟩
def tX4_feedFirstText : List (Nat × Instr × Nat) := [(0, .iconst 0, 1), (1, .istore_n 1, 1), (2, .iload_n 1, 1), (3, .ldc 48, 2), (5, .invokevirtual 50, 3), (8, .if_icmp .ge 22, 3), (11, .aload_n 0, 1), (12, .getfield 12, 3), (15, .ldc 48, 2), (17, .iload_n 1, 1), (18, .invokevirtual 56, 3), (21, .invokevirtual 60, 3), (24, .iinc 1 1, 3), (27, .goto (-25), 3), (30, .return_, 1)]
theorem dtX4_feedFirstText : dec_ok mX4_feedFirstText.2.1 tX4_feedFirstText = true := by decide +kernel
set_option maxHeartbeats 1000000 in
theorem lr_first {I : Wd} : ∀ (m q : Nat) (x1 : Int32) (W : Wd), q + m = 78 → x1 = nI q → (∀ a, a ≠ 67 → a ≠ 68 → W a = I a) → W 67 0 = nI q → (∀ i, i < q → W 68 i = chS 0 i) → BdQ SyC mX4_feedFirstText 4 2 [(1, .int x1), (0, .ref 66)] [] W (fun r I' => r = none ∧ (∀ a, a ≠ 67 → a ≠ 68 → I' a = I a) ∧ I' 67 0 = nI 78 ∧ ∀ i, i < 78 → I' 68 i = chS 0 i) := by
  intro m
  induction m with
  | zero =>
    intro q x1 W hq e1 hF h0 hb
    subst e1
    refine BdQ.l (fun _ _ k => b_iload_n (pc := 2) (i := 1) (dd dtX4_feedFirstText 2 rfl) rfl rfl k) ?_
    refine BdQ.l (fun _ _ k => b_ldcS (pc := 3) (i := 0) (dd dtX4_feedFirstText 3 rfl) (by decide) rfl rfl k) ?_
    refine BdQ.l (fun _ _ k => b_invT (pc := 5) (dd dtX4_feedFirstText 4 rfl) mlX4_50 mvJ0_length_8abf5 miJ0_length_8abf5 (c_J0_length (show 0 < 15 by decide)) rfl (show 0 < 15 by decide) rfl rfl (by decide) (Nat.le_of_ble_eq_true rfl) k) ?_
    refine BdQ.c (fun _ _ k1 k2 => b_icmpL_ge (pc := 8) (tgt := 30) (dd dtX4_feedFirstText 5 rfl) (by decide) k1 k2) (fun h8 => ?_) (fun h8 => ?_)
    · refine ⟨_, _, ?_, b_vret (dd dtX4_feedFirstText 14 rfl) rfl⟩
      have hq : q = 78 := by omega
      subst hq
      exact ⟨rfl, hF, h0, hb⟩
    · exact absurd h8 (by rw [show q = 78 by omega]; decide)
  | succ m ih =>
    intro q x1 W hq e1 hF h0 hb
    subst e1
    refine BdQ.l (fun _ _ k => b_iload_n (pc := 2) (i := 1) (dd dtX4_feedFirstText 2 rfl) rfl rfl k) ?_
    refine BdQ.l (fun _ _ k => b_ldcS (pc := 3) (i := 0) (dd dtX4_feedFirstText 3 rfl) (by decide) rfl rfl k) ?_
    refine BdQ.l (fun _ _ k => b_invT (pc := 5) (dd dtX4_feedFirstText 4 rfl) mlX4_50 mvJ0_length_8abf5 miJ0_length_8abf5 (c_J0_length (show 0 < 15 by decide)) rfl (show 0 < 15 by decide) rfl rfl (by decide) (Nat.le_of_ble_eq_true rfl) k) ?_
    refine BdQ.c (fun _ _ k1 k2 => b_icmpL_ge (pc := 8) (tgt := 30) (dd dtX4_feedFirstText 5 rfl) (by decide) k1 k2) (fun h8 => ?_) (fun h8 => ?_)
    · exact absurd (nI_lt (show q < 78 by omega) (by decide)) h8
    · refine BdQ.l (fun _ _ k => b_aload_n (pc := 11) (i := 0) (dd dtX4_feedFirstText 6 rfl) rfl rfl k) ?_
      refine BdQ.l (fun _ _ k => b_geta (pc := 12) (dd dtX4_feedFirstText 7 rfl) fwX4_12 pC_66 rC_66_0 k) ?_
      refine BdQ.l (fun _ _ k => b_ldcS (pc := 15) (i := 0) (dd dtX4_feedFirstText 8 rfl) (by decide) rfl rfl k) ?_
      refine BdQ.l (fun _ _ k => b_iload_n (pc := 17) (i := 1) (dd dtX4_feedFirstText 9 rfl) rfl rfl k) ?_
      refine BdQ.l (fun _ _ k => b_invT (pc := 18) (dd dtX4_feedFirstText 10 rfl) mlX4_56 mvJ0_charAt_5068e miJ0_charAt_5068e (c_J0_charAt (show 0 < 15 by decide) (show q < txL.getD 0 0 from (by omega : q < 78))) rfl (show 0 < 15 by decide) rfl rfl (by decide) (Nat.le_of_ble_eq_true rfl) k) ?_
      refine BdQ.l (fun _ _ k => b_invV (pc := 21) (dd dtX4_feedFirstText 11 rfl) mlX4_60 mvX7_put miX7_put (c_X7_put (s := q) h0 (by omega)) oC_67 rfl rfl (by decide) (Nat.le_of_ble_eq_true rfl) k) ?_
      refine BdQ.l (fun _ _ k => b_iinc1 (pc := 24) (i := 1) (lv' := [(1, _), (0, _)]) (dd dtX4_feedFirstText 12 rfl) rfl (Nat.le_of_ble_eq_true rfl) rfl k) ?_
      refine BdQ.l (fun _ _ k => b_goto (pc := 27) (tgt := 2) (dd dtX4_feedFirstText 13 rfl) (by decide) k) ?_
      rw [nI_1]
      refine ih (q + 1) _ _ (by omega) rfl (fun a a1 a2 => by rw [ist_ne a1, ist_ne a2]; exact hF a a1 a2) (by rw [ist_eq, upd_eq]) (fun i hi => ?_)
      rw [ist_ne (by decide), ist_eq]
      by_cases e : i = q
      · subst e; rw [upd_eq]
      · rw [upd_ne e]; exact hb i (by omega)
set_option maxHeartbeats 4000000 in
theorem q_first {I : Wd} (h0 : I 67 0 = 0) : CalQ SyC mX4_feedFirstText 4 [.ref 66] I (fun r I' => r = none ∧ (∀ a, a ≠ 67 → a ≠ 68 → I' a = I a) ∧ I' 67 0 = nI 78 ∧ ∀ i, i < 78 → I' 68 i = chS 0 i) := by
  refine CalQ.of (by decide) (Nat.le_of_ble_eq_true rfl) ?_
  show BdQ _ _ _ _ [(0, _)] _ _ _
  refine BdQ.l (fun _ _ k => b_ic0 (pc := 0) (dd dtX4_feedFirstText 0 rfl) k) ?_
  refine BdQ.l (fun _ _ k => b_istore_n (pc := 1) (i := 1) (lv' := [(1, _), (0, _)]) (dd dtX4_feedFirstText 1 rfl) rfl (Nat.le_of_ble_eq_true rfl) rfl k) ?_
  exact lr_first 78 0 _ _ (by omega) rfl (fun _ _ _ => rfl) h0 (fun i hi => absurd hi (Nat.not_lt_zero _))
def tX10_text : List (Nat × Instr × Nat) := [(0, .aload_n 0, 1), (1, .getfield 64, 3), (4, .getfield 250, 3), (7, .bipush 6, 2), (9, .if_icmp .lt 6, 3), (12, .bipush (-4), 2), (14, .ireturn, 1), (15, .aload_n 0, 1), (16, .getfield 64, 3), (19, .invokevirtual 89, 3), (22, .istore_n 1, 1), (23, .iload_n 1, 1), (24, .ifCond .lt 10, 3), (27, .bipush (-100), 2), (29, .iload_n 1, 1), (30, .isub, 1), (31, .goto 12, 3), (34, .aload_n 0, 1), (35, .getfield 64, 3), (38, .getfield 250, 3), (41, .iconst 1, 1), (42, .isub, 1), (43, .ireturn, 1)]
theorem dtX10_text : dec_ok mX10_text.2.1 tX10_text = true := by decide +kernel
set_option maxHeartbeats 4000000 in
theorem q_text {I : Wd} {n X : Nat} (hn : I 67 0 = nI n) (hn2 : n ≤ 160) (hX : I 66 1 = nI X) (hX2 : X ≤ 6) : CalQ SyC mX10_text 62 [.ref 0] I (fun r I' => (X = 6 → r = some (.int (-4)) ∧ I' = I) ∧ (X < 6 → (∀ a, a ≠ 66 → a ≠ 67 → (a < 69 ∨ 76 < a) → (a < 78 + 3 * X ∨ 80 + 3 * X < a) → I' a = I a) ∧ I' 67 0 = 0 ∧ I' 66 2 = I 66 2 ∧ ∃ B T, T = cnt (I 68) n ∧ TokOK (I 68) n (B 71) (B 72) (B 69) T ∧ TB B T ∧ B 67 0 = nI n ∧ r = some (.int (if finF B T (sP (B 71) (B 72) T 3) < 0 then nI X else -100 - finF B T (sP (B 71) (B 72) T 3))) ∧ (finF B T (sP (B 71) (B 72) T 3) < 0 → I' 66 1 = nI (X + 1) ∧ ∃ c E, ParsE (B 71) (B 72) T c E ∧ TxW I' (78 + 3 * X) c E) ∧ (¬ finF B T (sP (B 71) (B 72) T 3) < 0 → I' 66 1 = nI X))) := by
  refine CalQ.of (by decide) (Nat.le_of_ble_eq_true rfl) ?_
  show BdQ _ _ _ _ [(0, _)] _ _ _
  refine BdQ.l (fun _ _ k => b_aload_n (pc := 0) (i := 0) (dd dtX10_text 0 rfl) rfl rfl k) ?_
  refine BdQ.l (fun _ _ k => b_geta (pc := 1) (dd dtX10_text 1 rfl) fwX10_64 pC_0 rC_0_9 k) ?_
  refine BdQ.l (fun _ _ k => b_geti (pc := 4) (dd dtX10_text 2 rfl) fwX10_250 pC_66 k) ?_
  refine BdQ.l (fun _ _ k => b_bipush (pc := 7) (v := 6) (dd dtX10_text 3 rfl) (by decide) k) ?_
  rw [hX]
  refine BdQ.b (fun _ _ k1 k2 => b_icmp_lt (pc := 9) (tgt := 15) (dd dtX10_text 4 rfl) (by decide) k1 k2) (fun h9 => ?_) (fun h9 => ?_)
  · refine BdQ.l (fun _ _ k => b_aload_n (pc := 15) (i := 0) (dd dtX10_text 7 rfl) rfl rfl k) ?_
    refine BdQ.l (fun _ _ k => b_geta (pc := 16) (dd dtX10_text 8 rfl) fwX10_64 pC_0 rC_0_9 k) ?_
    have hlt : X < 6 := lt_n (N := 6) h9 (by omega) (by decide)
    obtain ⟨_, I19, ⟨f1, f2, f3, B, T, g1, g2, g3, g4, rfl, g5, g6⟩, k19⟩ := q_take hn hn2 hX hlt
    refine BdQ.l (fun _ _ k => b_invV (pc := 19) (dd dtX10_text 9 rfl) mlX10_89 mvX4_takeTape miX4_takeTape (k19) oC_66 rfl rfl (by decide) (Nat.le_of_ble_eq_true rfl) k) ?_
    refine BdQ.l (fun _ _ k => b_istore_n (pc := 22) (i := 1) (lv' := [(1, _), (0, _)]) (dd dtX10_text 10 rfl) rfl (Nat.le_of_ble_eq_true rfl) rfl k) ?_
    refine BdQ.l (fun _ _ k => b_iload_n (pc := 23) (i := 1) (dd dtX10_text 11 rfl) rfl rfl k) ?_
    refine BdQ.b (fun _ _ k1 k2 => b_if_lt (pc := 24) (tgt := 34) (dd dtX10_text 12 rfl) (by decide) k1 k2) (fun h24 => ?_) (fun h24 => ?_)
    · refine BdQ.l (fun _ _ k => b_aload_n (pc := 34) (i := 0) (dd dtX10_text 17 rfl) rfl rfl k) ?_
      refine BdQ.l (fun _ _ k => b_geta (pc := 35) (dd dtX10_text 18 rfl) fwX10_64 pC_0 rC_0_9 k) ?_
      refine BdQ.l (fun _ _ k => b_geti (pc := 38) (dd dtX10_text 19 rfl) fwX10_250 pC_66 k) ?_
      refine BdQ.l (fun _ _ k => b_ic1 (pc := 41) (dd dtX10_text 20 rfl) k) ?_
      refine BdQ.l (fun _ _ k => b_isub (pc := 42) (dd dtX10_text 21 rfl) k) ?_
      refine ⟨_, _, ?_, b_iret (dd dtX10_text 22 rfl) rfl⟩
      first
      | (have hx6 : X = 6 := by
           apply Classical.byContradiction; intro q
           exact h9 (nI_lt (b := 6) (show X < 6 by omega) (by decide))
         exact ⟨fun _ => ⟨rfl, rfl⟩, fun q => absurd hx6 (by omega)⟩)
      | (refine ⟨fun q => absurd hlt (by omega), fun _ => ⟨f1, f2, f3, B, T, g1, g2, g3, g4, ?_, g5, g6⟩⟩
         first
         | rw [if_neg h24]
         | (rw [if_pos h24, (g5 h24).1, nI_pred]))
    · refine BdQ.l (fun _ _ k => b_bipush (pc := 27) (v := -100) (dd dtX10_text 13 rfl) (by decide) k) ?_
      refine BdQ.l (fun _ _ k => b_iload_n (pc := 29) (i := 1) (dd dtX10_text 14 rfl) rfl rfl k) ?_
      refine BdQ.l (fun _ _ k => b_isub (pc := 30) (dd dtX10_text 15 rfl) k) ?_
      refine BdQ.l (fun _ _ k => b_goto (pc := 31) (tgt := 43) (dd dtX10_text 16 rfl) (by decide) k) ?_
      refine ⟨_, _, ?_, b_iret (dd dtX10_text 22 rfl) rfl⟩
      first
      | (have hx6 : X = 6 := by
           apply Classical.byContradiction; intro q
           exact h9 (nI_lt (b := 6) (show X < 6 by omega) (by decide))
         exact ⟨fun _ => ⟨rfl, rfl⟩, fun q => absurd hx6 (by omega)⟩)
      | (refine ⟨fun q => absurd hlt (by omega), fun _ => ⟨f1, f2, f3, B, T, g1, g2, g3, g4, ?_, g5, g6⟩⟩
         first
         | rw [if_neg h24]
         | (rw [if_pos h24, (g5 h24).1, nI_pred]))
  · refine BdQ.l (fun _ _ k => b_bipush (pc := 12) (v := -4) (dd dtX10_text 5 rfl) (by decide) k) ?_
    refine ⟨_, _, ?_, b_iret (dd dtX10_text 6 rfl) rfl⟩
    first
    | (have hx6 : X = 6 := by
         apply Classical.byContradiction; intro q
         exact h9 (nI_lt (b := 6) (show X < 6 by omega) (by decide))
       exact ⟨fun _ => ⟨rfl, rfl⟩, fun q => absurd hx6 (by omega)⟩)
    | (refine ⟨fun q => absurd hlt (by omega), fun _ => ⟨f1, f2, f3, B, T, g1, g2, g3, g4, ?_, g5, g6⟩⟩
       first
       | rw [if_neg h24]
       | (rw [if_pos h24, (g5 h24).1, nI_pred]))
