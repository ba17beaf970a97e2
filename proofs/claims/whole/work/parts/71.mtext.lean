/-! the reference's tape -/
def bytM (w : Int64) (m : Nat) : Int32 := (w >>> ((8 * nI m).toInt64 &&& 63)).toInt32.toInt8.toInt32
def FdM (J : Wd) (s k q : Nat) (w : Int64) (W : Wd) : Prop := (∀ a, a ≠ 0 → a ≠ 34 → W a = J a) ∧ (∀ j, j ≠ 47 → W 0 j = J 0 j) ∧ W 0 47 = nI (s + q) ∧ (∀ i, i < 960 + s → W 34 i = J 34 i) ∧ ∀ j, j < q → W 34 (960 + (s + j)) = bytM w (k - 1 - j)
theorem FdM.s {J W : Wd} {s k q : Nat} {w : Int64} (h : FdM J s k q w W) (hq : q < k) : FdM J s k (q + 1) w (ist (ist W 34 (960 + (s + q)) (bytM w (k - 1 - q))) 0 47 (nI (s + q + 1))) := by
  obtain ⟨h1, h2, h3, h4, h5⟩ := h
  refine ⟨fun a a1 a2 => by rw [ist_ne a1, ist_ne a2]; exact h1 a a1 a2, fun j hj => by rw [ist_eq, upd_ne hj, ist_ne (by decide)]; exact h2 j hj, by rw [ist_eq, upd_eq]; rfl, fun i hi => ?_, fun j hj => ?_⟩
  · rw [ist_ne (by decide), ist_eq, upd_ne (by omega)]; exact h4 i hi
  · rw [ist_ne (by decide), ist_eq]
    by_cases e : j = q
    · subst e; rw [upd_eq]
    · rw [upd_ne (by omega)]; exact h5 j (by omega)
def tX11_feed : List (Nat × Instr × Nat) := [(0, .aload_n 0, 1), (1, .iload_n 3, 1), (2, .iconst 1, 1), (3, .bipush 8, 2), (5, .invokevirtual 1, 3), (8, .ifCond .ne 6, 3), (11, .bipush (-2), 2), (13, .ireturn, 1), (14, .aload_n 0, 1), (15, .getfield 158, 3), (18, .iload_n 3, 1), (19, .iadd, 1), (20, .sipush 160, 3), (23, .if_icmp .le 6, 3), (26, .bipush (-4), 2), (28, .ireturn, 1), (29, .iload_n 3, 1), (30, .iconst 1, 1), (31, .isub, 1), (32, .istore 4, 2), (34, .iload 4, 2), (36, .ifCond .lt 41, 3), (39, .aload_n 0, 1), (40, .getfield 161, 3), (43, .sipush 960, 3), (46, .aload_n 0, 1), (47, .getfield 158, 3), (50, .iadd, 1), (51, .lload_n 1, 1), (52, .bipush 8, 2), (54, .iload 4, 2), (56, .imul, 1), (57, .lshr, 1), (58, .l2i, 1), (59, .i2b, 1), (60, .iastore, 1), (61, .aload_n 0, 1), (62, .dup, 1), (63, .getfield 158, 3), (66, .iconst 1, 1), (67, .iadd, 1), (68, .putfield 158, 3), (71, .iinc 4 (-1), 3), (74, .goto (-40), 3), (77, .aload_n 0, 1), (78, .getfield 158, 3), (81, .ireturn, 1)]
theorem dtX11_feed : dec_ok mX11_feed.2.1 tX11_feed = true := by decide +kernel
set_option maxHeartbeats 1000000 in
theorem lr_feedM {J : Wd} {s k : Nat} {w : Int64} {n : Int32} (hsk : s + k ≤ 160) : ∀ (m q : Nat) (x4 : Int32) (W : Wd), q + m = k → x4 = nI m - 1 → FdM J s k q w W → BdQ SyM mX11_feed 1 34 [(4, .int x4), (0, .ref 0), (1, .long w), (3, .int n)] [] W (fun r J' => r = some (.int (nI (s + k))) ∧ FdM J s k k w J') := by
  intro m
  induction m with
  | zero =>
    intro q x4 W hq e4 hF
    subst e4
    refine BdQ.l (fun _ _ k => b_iload (pc := 34) (i := 4) (dd dtX11_feed 20 rfl) rfl k) ?_
    refine BdQ.b (fun _ _ k1 k2 => b_if_lt (pc := 36) (tgt := 77) (dd dtX11_feed 21 rfl) (by decide) k1 k2) (fun h36 => ?_) (fun h36 => ?_)
    · refine BdQ.l (fun _ _ k => b_aload_n (pc := 77) (i := 0) (dd dtX11_feed 44 rfl) rfl rfl k) ?_
      refine BdQ.l (fun _ _ k => b_geti (pc := 78) (dd dtX11_feed 45 rfl) fwX11_158 pM_0 k) ?_
      refine ⟨_, _, ?_, b_iret (dd dtX11_feed 46 rfl) rfl⟩
      have hq : q = k := by omega
      subst hq
      exact ⟨by rw [hF.2.2.1], hF⟩
    · exact absurd (by decide) h36
  | succ m ih =>
    intro q x4 W hq e4 hF
    subst e4
    rw [nI_pred]
    refine BdQ.l (fun _ _ k => b_iload (pc := 34) (i := 4) (dd dtX11_feed 20 rfl) rfl k) ?_
    refine BdQ.b (fun _ _ k1 k2 => b_if_lt (pc := 36) (tgt := 77) (dd dtX11_feed 21 rfl) (by decide) k1 k2) (fun h36 => ?_) (fun h36 => ?_)
    · exact absurd h36 (nI_pos (by omega))
    · refine BdQ.l (fun _ _ k => b_aload_n (pc := 39) (i := 0) (dd dtX11_feed 22 rfl) rfl rfl k) ?_
      refine BdQ.l (fun _ _ k => b_geta (pc := 40) (dd dtX11_feed 23 rfl) fwX11_161 pM_0 rM_0_48 k) ?_
      refine BdQ.l (fun _ _ k => b_sipush (pc := 43) (v := 960) (dd dtX11_feed 24 rfl) (by decide) k) ?_
      refine BdQ.l (fun _ _ k => b_aload_n (pc := 46) (i := 0) (dd dtX11_feed 25 rfl) rfl rfl k) ?_
      refine BdQ.l (fun _ _ k => b_geti (pc := 47) (dd dtX11_feed 26 rfl) fwX11_158 pM_0 k) ?_
      refine BdQ.l (fun _ _ k => b_iadd (pc := 50) (dd dtX11_feed 27 rfl) k) ?_
      rw [hF.2.2.1, show (960 : Int32) + nI (s + q) = nI (960 + (s + q)) from nI_add 960 (s + q)]
      refine BdQ.l (fun _ _ k => b_lload_n (pc := 51) (i := 1) (dd dtX11_feed 28 rfl) rfl rfl k) ?_
      refine BdQ.l (fun _ _ k => b_bipush (pc := 52) (v := 8) (dd dtX11_feed 29 rfl) (by decide) k) ?_
      refine BdQ.l (fun _ _ k => b_iload (pc := 54) (i := 4) (dd dtX11_feed 30 rfl) rfl k) ?_
      refine BdQ.l (fun _ _ k => b_imul (pc := 56) (dd dtX11_feed 31 rfl) k) ?_
      refine BdQ.l (fun _ _ k => b_lshr (pc := 57) (dd dtX11_feed 32 rfl) k) ?_
      refine BdQ.l (fun _ _ k => b_l2i (pc := 58) (dd dtX11_feed 33 rfl) k) ?_
      refine BdQ.l (fun _ _ k => b_i2b (pc := 59) (dd dtX11_feed 34 rfl) k) ?_
      refine BdQ.l (fun _ _ k => b_iast (pc := 60) (dd dtX11_feed 35 rfl) pM_34 (vpn rfl (show 960 + (s + q) < 1120 by omega) (by decide)) k) ?_
      refine BdQ.l (fun _ _ k => b_aload_n (pc := 61) (i := 0) (dd dtX11_feed 36 rfl) rfl rfl k) ?_
      refine BdQ.l (fun _ _ k => b_dup (pc := 62) (dd dtX11_feed 37 rfl) rfl k) ?_
      refine BdQ.l (fun _ _ k => b_geti (pc := 63) (dd dtX11_feed 38 rfl) fwX11_158 pM_0 k) ?_
      refine BdQ.l (fun _ _ k => b_ic1 (pc := 66) (dd dtX11_feed 39 rfl) k) ?_
      refine BdQ.l (fun _ _ k => b_iadd (pc := 67) (dd dtX11_feed 40 rfl) k) ?_
      refine BdQ.l (fun _ _ k => b_puti (pc := 68) (dd dtX11_feed 41 rfl) fwX11_158 pM_0 k) ?_
      refine BdQ.l (fun _ _ k => b_iinc (pc := 71) (i := 4) (v := _ + (-1)) (lv' := [(4, _), (0, _), (1, _), (3, _)]) (dd dtX11_feed 42 rfl) rfl rfl (Nat.le_of_ble_eq_true rfl) rfl k) ?_
      refine BdQ.l (fun _ _ k => b_goto (pc := 74) (tgt := 34) (dd dtX11_feed 43 rfl) (by decide) k) ?_
      rw [show nI m + (-1) = nI m - 1 from (Int32.sub_eq_add_neg _ _).symm, nI_clamp (show 960 + (s + q) < 2 ^ 31 by omega), ist_ne (show (0 : Nat) ≠ 34 by decide), hF.2.2.1, nI_1]
      refine ih (q + 1) _ _ (by omega) rfl ?_
      have kk := hF.s (show q < k by omega)
      rw [show k - 1 - q = m by omega] at kk
      exact kk
set_option maxHeartbeats 4000000 in
theorem q_feedM {J : Wd} {s : Nat} {w : Int64} {n : Int32} (hs : J 0 47 = nI s) (hs2 : s ≤ 160) : CalQ SyM mX11_feed 1 [.ref 0, .long w, .int n] J (fun r J' => r = some (.int (vFeed s n)) ∧ ((inR n 1 8 ∧ ¬ 160 < nI s + n) → ∃ k, n = nI k ∧ s + k ≤ 160 ∧ FdM J s k k w J') ∧ (¬ (inR n 1 8 ∧ ¬ 160 < nI s + n) → J' = J)) := by
  refine CalQ.of (by decide) (Nat.le_of_ble_eq_true rfl) ?_
  show BdQ _ _ _ _ [(0, _), (1, _), (3, _)] _ _ _
  refine BdQ.l (fun _ _ k => b_aload_n (pc := 0) (i := 0) (dd dtX11_feed 0 rfl) rfl rfl k) ?_
  refine BdQ.l (fun _ _ k => b_iload_n (pc := 1) (i := 3) (dd dtX11_feed 1 rfl) rfl rfl k) ?_
  refine BdQ.l (fun _ _ k => b_ic1 (pc := 2) (dd dtX11_feed 2 rfl) k) ?_
  refine BdQ.l (fun _ _ k => b_bipush (pc := 3) (v := 8) (dd dtX11_feed 3 rfl) (by decide) k) ?_
  refine BdQ.l (fun _ _ k => b_invV (pc := 5) (dd dtX11_feed 4 rfl) mlX11_1 mvX11_in miX11_in (c_X11_in) oM_0 rfl rfl (by decide) (Nat.le_of_ble_eq_true rfl) k) ?_
  refine BdQ.b (fun _ _ k1 k2 => b_ifb_ne (pc := 8) (tgt := 14) (dd dtX11_feed 5 rfl) (by decide) k1 k2) (fun h8 => ?_) (fun h8 => ?_)
  · refine BdQ.l (fun _ _ k => b_aload_n (pc := 14) (i := 0) (dd dtX11_feed 8 rfl) rfl rfl k) ?_
    refine BdQ.l (fun _ _ k => b_geti (pc := 15) (dd dtX11_feed 9 rfl) fwX11_158 pM_0 k) ?_
    rw [hs]
    refine BdQ.l (fun _ _ k => b_iload_n (pc := 18) (i := 3) (dd dtX11_feed 10 rfl) rfl rfl k) ?_
    refine BdQ.l (fun _ _ k => b_iadd (pc := 19) (dd dtX11_feed 11 rfl) k) ?_
    refine BdQ.l (fun _ _ k => b_sipush (pc := 20) (v := 160) (dd dtX11_feed 12 rfl) (by decide) k) ?_
    refine BdQ.c (fun _ _ k1 k2 => b_icmpL_le (pc := 23) (tgt := 29) (dd dtX11_feed 13 rfl) (by decide) k1 k2) (fun h23 => ?_) (fun h23 => ?_)
    · refine BdQ.l (fun _ _ k => b_iload_n (pc := 29) (i := 3) (dd dtX11_feed 16 rfl) rfl rfl k) ?_
      refine BdQ.l (fun _ _ k => b_ic1 (pc := 30) (dd dtX11_feed 17 rfl) k) ?_
      refine BdQ.l (fun _ _ k => b_isub (pc := 31) (dd dtX11_feed 18 rfl) k) ?_
      refine BdQ.l (fun _ _ k => b_istore (pc := 32) (i := 4) (lv' := [(4, _), (0, _), (1, _), (3, _)]) (dd dtX11_feed 19 rfl) (Nat.le_of_ble_eq_true rfl) rfl k) ?_
      obtain ⟨k, rfl, hk1, hk8⟩ := n18 h8
      have hle : s + k ≤ 160 := by
        rw [nI_add] at h23
        exact Nat.le_of_not_lt (fun q => h23 (nI_lt (a := 160) q (by omega)))
      refine BdQ.to (lr_feedM hle k 0 _ _ (by omega) rfl ⟨fun _ _ _ => rfl, fun _ _ => rfl, hs, fun _ _ => rfl, fun j hj => absurd hj (Nat.not_lt_zero _)⟩) ?_
      rintro r I' ⟨h0, h1⟩
      exact ⟨by rw [h0, vFeed, if_pos h8, if_neg h23, nI_add], fun _ => ⟨k, rfl, hle, h1⟩, fun q => absurd ⟨h8, h23⟩ q⟩
    · refine BdQ.l (fun _ _ k => b_bipush (pc := 26) (v := -4) (dd dtX11_feed 14 rfl) (by decide) k) ?_
      refine ⟨_, _, ?_, b_iret (dd dtX11_feed 15 rfl) rfl⟩
      first
      | exact ⟨by rw [vFeed, if_neg h8], fun q => absurd q.1 h8, fun _ => rfl⟩
      | exact ⟨by rw [vFeed, if_pos h8, if_pos h23], fun q => absurd h23 q.2, fun _ => rfl⟩
  · refine BdQ.l (fun _ _ k => b_bipush (pc := 11) (v := -2) (dd dtX11_feed 6 rfl) (by decide) k) ?_
    refine ⟨_, _, ?_, b_iret (dd dtX11_feed 7 rfl) rfl⟩
    first
    | exact ⟨by rw [vFeed, if_neg h8], fun q => absurd q.1 h8, fun _ => rfl⟩
    | exact ⟨by rw [vFeed, if_pos h8, if_pos h23], fun q => absurd h23 q.2, fun _ => rfl⟩
def TxM (J J' : Wd) (X n i : Nat) : Prop := (∀ a, a ≠ 0 → a ≠ 34 → (a < 35 ∨ 39 < a) → J' a = J a) ∧ (∀ j, j ≠ 45 → j ≠ 47 → (j < 50 ∨ 61 < j) → J' 0 j = J 0 j) ∧ J' 0 47 = 0 ∧ (∀ q, q ≠ X → q ≠ 6 → J' 35 q = J 35 q) ∧ (∀ q, (q < 160 * X ∨ 160 * X + 160 ≤ q) → J' 34 q = J 34 q) ∧ ∀ q, q < i → J' 34 (160 * X + q) = J 34 (960 + q)
def tX11_text : List (Nat × Instr × Nat) := [(0, .aload_n 0, 1), (1, .getfield 152, 3), (4, .bipush 6, 2), (6, .if_icmp .ne 6, 3), (9, .bipush (-4), 2), (11, .ireturn, 1), (12, .aload_n 0, 1), (13, .getfield 164, 3), (16, .bipush 6, 2), (18, .aload_n 0, 1), (19, .getfield 158, 3), (22, .iastore, 1), (23, .aload_n 0, 1), (24, .iconst 0, 1), (25, .putfield 158, 3), (28, .aload_n 0, 1), (29, .bipush 6, 2), (31, .invokevirtual 383, 3), (34, .ifCond .ne 11, 3), (37, .bipush (-100), 2), (39, .aload_n 0, 1), (40, .getfield 179, 3), (43, .isub, 1), (44, .ireturn, 1), (45, .aload_n 0, 1), (46, .getfield 164, 3), (49, .aload_n 0, 1), (50, .getfield 152, 3), (53, .aload_n 0, 1), (54, .getfield 164, 3), (57, .bipush 6, 2), (59, .iaload, 1), (60, .iastore, 1), (61, .iconst 0, 1), (62, .istore_n 1, 1), (63, .iload_n 1, 1), (64, .aload_n 0, 1), (65, .getfield 164, 3), (68, .bipush 6, 2), (70, .iaload, 1), (71, .if_icmp .ge 34, 3), (74, .aload_n 0, 1), (75, .getfield 161, 3), (78, .sipush 160, 3), (81, .aload_n 0, 1), (82, .getfield 152, 3), (85, .imul, 1), (86, .iload_n 1, 1), (87, .iadd, 1), (88, .aload_n 0, 1), (89, .getfield 161, 3), (92, .sipush 960, 3), (95, .iload_n 1, 1), (96, .iadd, 1), (97, .iaload, 1), (98, .iastore, 1), (99, .iinc 1 1, 3), (102, .goto (-39), 3), (105, .aload_n 0, 1), (106, .dup, 1), (107, .getfield 152, 3), (110, .iconst 1, 1), (111, .iadd, 1), (112, .putfield 152, 3), (115, .aload_n 0, 1), (116, .getfield 152, 3), (119, .iconst 1, 1), (120, .isub, 1), (121, .ireturn, 1)]
theorem dtX11_text : dec_ok mX11_text.2.1 tX11_text = true := by decide +kernel
set_option maxHeartbeats 2000000 in
theorem lr_textM {J : Wd} {X n : Nat} (hX0 : 1 ≤ X) (hX : X < 6) (hn2 : n ≤ 160) : ∀ (m i : Nat) (x1 : Int32) (W : Wd), i + m = n → x1 = nI i → TxM J W X n i → W 35 6 = nI n → W 35 X = nI n → W 0 45 = nI X → BdQ SyM mX11_text 7 63 [(1, .int x1), (0, .ref 0)] [] W (fun r J' => r = some (.int (nI X)) ∧ J' 0 45 = nI (X + 1) ∧ J' 35 X = nI n ∧ TxM J J' X n n) := by
  intro m
  induction m with
  | zero =>
    intro i x1 W hi e1 hF h356 h35X h45
    subst e1
    refine BdQ.l (fun _ _ k => b_iload_n (pc := 63) (i := 1) (dd dtX11_text 35 rfl) rfl rfl k) ?_
    refine BdQ.l (fun _ _ k => b_aload_n (pc := 64) (i := 0) (dd dtX11_text 36 rfl) rfl rfl k) ?_
    refine BdQ.l (fun _ _ k => b_geta (pc := 65) (dd dtX11_text 37 rfl) fwX11_164 pM_0 rM_0_49 k) ?_
    refine BdQ.l (fun _ _ k => b_bipush (pc := 68) (v := 6) (dd dtX11_text 38 rfl) (by decide) k) ?_
    refine BdQ.l (fun _ _ k => b_iald (pc := 70) (dd dtX11_text 39 rfl) pM_35 (vpn (h := 6) rfl (by decide) (by decide)) k) ?_
    rw [show (6 : Int32).toNatClampNeg = 6 from rfl, h356]
    refine BdQ.c (fun _ _ k1 k2 => b_icmpL_ge (pc := 71) (tgt := 105) (dd dtX11_text 40 rfl) (by decide) k1 k2) (fun h71 => ?_) (fun h71 => ?_)
    · refine BdQ.l (fun _ _ k => b_aload_n (pc := 105) (i := 0) (dd dtX11_text 58 rfl) rfl rfl k) ?_
      refine BdQ.l (fun _ _ k => b_dup (pc := 106) (dd dtX11_text 59 rfl) rfl k) ?_
      refine BdQ.l (fun _ _ k => b_geti (pc := 107) (dd dtX11_text 60 rfl) fwX11_152 pM_0 k) ?_
      refine BdQ.l (fun _ _ k => b_ic1 (pc := 110) (dd dtX11_text 61 rfl) k) ?_
      rw [h45]
      refine BdQ.l (fun _ _ k => b_iadd (pc := 111) (dd dtX11_text 62 rfl) k) ?_
      refine BdQ.l (fun _ _ k => b_puti (pc := 112) (dd dtX11_text 63 rfl) fwX11_152 pM_0 k) ?_
      refine BdQ.l (fun _ _ k => b_aload_n (pc := 115) (i := 0) (dd dtX11_text 64 rfl) rfl rfl k) ?_
      refine BdQ.l (fun _ _ k => b_geti (pc := 116) (dd dtX11_text 65 rfl) fwX11_152 pM_0 k) ?_
      rw [ist_eq, upd_eq, nI_1]
      refine BdQ.l (fun _ _ k => b_ic1 (pc := 119) (dd dtX11_text 66 rfl) k) ?_
      refine BdQ.l (fun _ _ k => b_isub (pc := 120) (dd dtX11_text 67 rfl) k) ?_
      refine ⟨_, _, ?_, b_iret (dd dtX11_text 68 rfl) rfl⟩
      have hin : i = n := by omega
      subst hin
      rw [nI_pred]
      obtain ⟨f1, f2, f3, f4, f5, f6⟩ := hF
      refine ⟨rfl, by rw [ist_eq, upd_eq], by rw [ist_ne (by decide)]; exact h35X, fun a a1 a2 a3 => by rw [ist_ne a1]; exact f1 a a1 a2 a3, fun j j1 j2 j3 => by rw [ist_eq, upd_ne j1]; exact f2 j j1 j2 j3, by rw [ist_eq, upd_ne (by decide)]; exact f3, fun q q1 q2 => by rw [ist_ne (by decide)]; exact f4 q q1 q2, fun q hq => by rw [ist_ne (by decide)]; exact f5 q hq, fun q hq => by rw [ist_ne (by decide)]; exact f6 q hq⟩
    · exact absurd h71 (by rw [show i = n by omega]; exact Int32.lt_irrefl)
  | succ m ih =>
    intro i x1 W hi e1 hF h356 h35X h45
    subst e1
    refine BdQ.l (fun _ _ k => b_iload_n (pc := 63) (i := 1) (dd dtX11_text 35 rfl) rfl rfl k) ?_
    refine BdQ.l (fun _ _ k => b_aload_n (pc := 64) (i := 0) (dd dtX11_text 36 rfl) rfl rfl k) ?_
    refine BdQ.l (fun _ _ k => b_geta (pc := 65) (dd dtX11_text 37 rfl) fwX11_164 pM_0 rM_0_49 k) ?_
    refine BdQ.l (fun _ _ k => b_bipush (pc := 68) (v := 6) (dd dtX11_text 38 rfl) (by decide) k) ?_
    refine BdQ.l (fun _ _ k => b_iald (pc := 70) (dd dtX11_text 39 rfl) pM_35 (vpn (h := 6) rfl (by decide) (by decide)) k) ?_
    rw [show (6 : Int32).toNatClampNeg = 6 from rfl, h356]
    refine BdQ.c (fun _ _ k1 k2 => b_icmpL_ge (pc := 71) (tgt := 105) (dd dtX11_text 40 rfl) (by decide) k1 k2) (fun h71 => ?_) (fun h71 => ?_)
    · exact absurd (nI_lt (show i < n by omega) (by omega)) h71
    · refine BdQ.l (fun _ _ k => b_aload_n (pc := 74) (i := 0) (dd dtX11_text 41 rfl) rfl rfl k) ?_
      refine BdQ.l (fun _ _ k => b_geta (pc := 75) (dd dtX11_text 42 rfl) fwX11_161 pM_0 rM_0_48 k) ?_
      refine BdQ.l (fun _ _ k => b_sipush (pc := 78) (v := 160) (dd dtX11_text 43 rfl) (by decide) k) ?_
      refine BdQ.l (fun _ _ k => b_aload_n (pc := 81) (i := 0) (dd dtX11_text 44 rfl) rfl rfl k) ?_
      refine BdQ.l (fun _ _ k => b_geti (pc := 82) (dd dtX11_text 45 rfl) fwX11_152 pM_0 k) ?_
      rw [h45]
      refine BdQ.l (fun _ _ k => b_imul (pc := 85) (dd dtX11_text 46 rfl) k) ?_
      rw [show (160 : Int32) = nI 160 from rfl, pk_mul]
      refine BdQ.l (fun _ _ k => b_iload_n (pc := 86) (i := 1) (dd dtX11_text 47 rfl) rfl rfl k) ?_
      refine BdQ.l (fun _ _ k => b_iadd (pc := 87) (dd dtX11_text 48 rfl) k) ?_
      rw [nI_add]
      refine BdQ.l (fun _ _ k => b_aload_n (pc := 88) (i := 0) (dd dtX11_text 49 rfl) rfl rfl k) ?_
      refine BdQ.l (fun _ _ k => b_geta (pc := 89) (dd dtX11_text 50 rfl) fwX11_161 pM_0 rM_0_48 k) ?_
      refine BdQ.l (fun _ _ k => b_sipush (pc := 92) (v := 960) (dd dtX11_text 51 rfl) (by decide) k) ?_
      refine BdQ.l (fun _ _ k => b_iload_n (pc := 95) (i := 1) (dd dtX11_text 52 rfl) rfl rfl k) ?_
      refine BdQ.l (fun _ _ k => b_iadd (pc := 96) (dd dtX11_text 53 rfl) k) ?_
      rw [show (960 : Int32) + nI i = nI (960 + i) from nI_add 960 i]
      refine BdQ.l (fun _ _ k => b_iald (pc := 97) (dd dtX11_text 54 rfl) pM_34 (vpn rfl (show 960 + i < 1120 by omega) (by decide)) k) ?_
      refine BdQ.l (fun _ _ k => b_iast (pc := 98) (dd dtX11_text 55 rfl) pM_34 (vpn rfl (show 160 * X + i < 1120 by omega) (by decide)) k) ?_
      refine BdQ.l (fun _ _ k => b_iinc1 (pc := 99) (i := 1) (lv' := [(1, _), (0, _)]) (dd dtX11_text 56 rfl) rfl (Nat.le_of_ble_eq_true rfl) rfl k) ?_
      refine BdQ.l (fun _ _ k => b_goto (pc := 102) (tgt := 63) (dd dtX11_text 57 rfl) (by decide) k) ?_
      rw [nI_1, nI_clamp (show 160 * X + i < 2 ^ 31 by omega), nI_clamp (show 960 + i < 2 ^ 31 by omega)]
      obtain ⟨f1, f2, f3, f4, f5, f6⟩ := hF
      refine ih (i + 1) _ _ (by omega) rfl ⟨fun a a1 a2 a3 => by rw [ist_ne a2]; exact f1 a a1 a2 a3, fun j j1 j2 j3 => by rw [ist_ne (by decide)]; exact f2 j j1 j2 j3, by rw [ist_ne (by decide)]; exact f3, fun q q1 q2 => by rw [ist_ne (by decide)]; exact f4 q q1 q2, fun q hq => by rw [ist_eq, upd_ne (by omega)]; exact f5 q hq, fun q hq => ?_⟩ (by rw [ist_ne (by decide)]; exact h356) (by rw [ist_ne (by decide)]; exact h35X) (by rw [ist_ne (by decide)]; exact h45)
      rw [ist_eq]
      by_cases e : q = i
      · subst e; rw [upd_eq]; exact f5 _ (by omega)
      · rw [upd_ne (by omega)]; exact f6 q (by omega)
set_option maxHeartbeats 4000000 in
theorem q_textMa {J : Wd} {n X : Nat} {b kd nm pl : Nat → Int32} {T : Nat} (hn : J 0 47 = nI n) (hn2 : n ≤ 160) (hX : J 0 45 = nI X) (hX0 : 1 ≤ X) (hX2 : X ≤ 6) (hBR : ∀ i, i < n → BRel (b i) (J 34 (960 + i))) (hT : TokOK b n kd nm pl T) (hg : gF kd nm (J 38) T 3 0 = none) : CalQ SyM mX11_text 7 [.ref 0] J (fun r J' => (X = 6 → r = some (.int (-4)) ∧ J' = J) ∧ (X < 6 → (gF kd nm (J 38) T 3 0 = none → r = some (.int (nI X)) ∧ J' 0 45 = nI (X + 1) ∧ J' 35 X = nI n ∧ TxM J J' X n n) ∧ ∀ e, gF kd nm (J 38) T 3 0 = some e → r = some (.int (-100 - plX pl T n e)) ∧ J' 0 45 = nI X ∧ TxM J J' X n 0)) := by
  refine CalQ.of (by decide) (Nat.le_of_ble_eq_true rfl) ?_
  show BdQ _ _ _ _ [(0, _)] _ _ _
  refine BdQ.l (fun _ _ k => b_aload_n (pc := 0) (i := 0) (dd dtX11_text 0 rfl) rfl rfl k) ?_
  refine BdQ.l (fun _ _ k => b_geti (pc := 1) (dd dtX11_text 1 rfl) fwX11_152 pM_0 k) ?_
  rw [hX]
  refine BdQ.l (fun _ _ k => b_bipush (pc := 4) (v := 6) (dd dtX11_text 2 rfl) (by decide) k) ?_
  refine BdQ.c (fun _ _ k1 k2 => b_icmp_ne (pc := 6) (tgt := 12) (dd dtX11_text 3 rfl) (by decide) k1 k2) (fun h6 => ?_) (fun h6 => ?_)
  · refine BdQ.l (fun _ _ k => b_aload_n (pc := 12) (i := 0) (dd dtX11_text 6 rfl) rfl rfl k) ?_
    refine BdQ.l (fun _ _ k => b_geta (pc := 13) (dd dtX11_text 7 rfl) fwX11_164 pM_0 rM_0_49 k) ?_
    refine BdQ.l (fun _ _ k => b_bipush (pc := 16) (v := 6) (dd dtX11_text 8 rfl) (by decide) k) ?_
    refine BdQ.l (fun _ _ k => b_aload_n (pc := 18) (i := 0) (dd dtX11_text 9 rfl) rfl rfl k) ?_
    refine BdQ.l (fun _ _ k => b_geti (pc := 19) (dd dtX11_text 10 rfl) fwX11_158 pM_0 k) ?_
    refine BdQ.l (fun _ _ k => b_iast (pc := 22) (dd dtX11_text 11 rfl) pM_35 (vpn (h := 6) rfl (by decide) (by decide)) k) ?_
    refine BdQ.l (fun _ _ k => b_aload_n (pc := 23) (i := 0) (dd dtX11_text 12 rfl) rfl rfl k) ?_
    refine BdQ.l (fun _ _ k => b_ic0 (pc := 24) (dd dtX11_text 13 rfl) k) ?_
    refine BdQ.l (fun _ _ k => b_puti (pc := 25) (dd dtX11_text 14 rfl) fwX11_158 pM_0 k) ?_
    refine BdQ.l (fun _ _ k => b_aload_n (pc := 28) (i := 0) (dd dtX11_text 15 rfl) rfl rfl k) ?_
    refine BdQ.l (fun _ _ k => b_bipush (pc := 29) (v := 6) (dd dtX11_text 16 rfl) (by decide) k) ?_
    rw [show (6 : Int32).toNatClampNeg = 6 from rfl]
    have hlt : X < 6 := Nat.lt_of_le_of_ne hX2 (fun q => h6 (congrArg nI q))
    have hn' : (ist (ist J 35 6 (J 0 47)) 0 47 0) 35 6 = nI n := by rw [ist_ne (by decide), ist_eq, upd_eq]; exact hn
    obtain ⟨_, I31, ⟨F31, S31⟩, k31⟩ := q_goes (J0 := ist (ist J 35 6 (J 0 47)) 0 47 0) (k := 6) (b := b) (kd := kd) (nm := nm) (pl := pl) (T := T) (by decide) hn' hn2 (fun i hi => by rw [ist_ne (by decide), ist_ne (by decide)]; exact hBR i hi) hT
    have h38 : (ist (ist J 35 6 (J 0 47)) 0 47 0) 38 = J 38 := by rw [ist_ne (by decide), ist_ne (by decide)]
    rw [h38] at S31
    have hT0 : TxM J I31 X n 0 := by
      refine ⟨fun a a1 a2 a3 => ?_, fun j j1 j2 j3 => ?_, ?_, fun q q1 q2 => ?_, fun q hq => ?_, fun q hq => absurd hq (Nat.not_lt_zero _)⟩
      · rw [F31.1 a a1 (by omega) (by omega) (by omega), ist_ne a1, ist_ne (by omega)]
      · rw [F31.2 j j3, ist_eq, upd_ne j2, ist_ne (by decide)]
      · rw [F31.2 47 (by omega), ist_eq, upd_eq]
      · rw [F31.1 35 (by decide) (by decide) (by decide) (by decide), ist_ne (by decide), ist_eq, upd_ne q2]
      · rw [F31.1 34 (by decide) (by decide) (by decide) (by decide), ist_ne (by decide), ist_ne (by decide)]
    have h45 : I31 0 45 = nI X := by rw [F31.2 45 (by omega), ist_eq, upd_ne (by decide), ist_ne (by decide)]; exact hX
    have h356 : I31 35 6 = nI n := by rw [F31.1 35 (by decide) (by decide) (by decide) (by decide)]; exact hn'
    obtain ⟨rfl, V31⟩ := S31.1 hg
    refine BdQ.l (fun _ _ k => b_invV (pc := 31) (dd dtX11_text 17 rfl) mlX11_383 mvX11_goes miX11_goes (k31) oM_0 rfl rfl (by decide) (Nat.le_of_ble_eq_true rfl) k) ?_
    refine BdQ.c (fun _ _ k1 k2 => b_if_ne (pc := 34) (tgt := 45) (dd dtX11_text 18 rfl) (by decide) k1 k2) (fun h34 => ?_) (fun h34 => ?_)
    · refine BdQ.l (fun _ _ k => b_aload_n (pc := 45) (i := 0) (dd dtX11_text 24 rfl) rfl rfl k) ?_
      refine BdQ.l (fun _ _ k => b_geta (pc := 46) (dd dtX11_text 25 rfl) fwX11_164 pM_0 rM_0_49 k) ?_
      refine BdQ.l (fun _ _ k => b_aload_n (pc := 49) (i := 0) (dd dtX11_text 26 rfl) rfl rfl k) ?_
      refine BdQ.l (fun _ _ k => b_geti (pc := 50) (dd dtX11_text 27 rfl) fwX11_152 pM_0 k) ?_
      refine BdQ.l (fun _ _ k => b_aload_n (pc := 53) (i := 0) (dd dtX11_text 28 rfl) rfl rfl k) ?_
      refine BdQ.l (fun _ _ k => b_geta (pc := 54) (dd dtX11_text 29 rfl) fwX11_164 pM_0 rM_0_49 k) ?_
      refine BdQ.l (fun _ _ k => b_bipush (pc := 57) (v := 6) (dd dtX11_text 30 rfl) (by decide) k) ?_
      refine BdQ.l (fun _ _ k => b_iald (pc := 59) (dd dtX11_text 31 rfl) pM_35 (vpn (h := 6) rfl (by decide) (by decide)) k) ?_
      rw [h45, show (6 : Int32).toNatClampNeg = 6 from rfl, h356]
      refine BdQ.l (fun _ _ k => b_iast (pc := 60) (dd dtX11_text 32 rfl) pM_35 (vpn rfl (show X < 7 by omega) (by decide)) k) ?_
      refine BdQ.l (fun _ _ k => b_ic0 (pc := 61) (dd dtX11_text 33 rfl) k) ?_
      refine BdQ.l (fun _ _ k => b_istore_n (pc := 62) (i := 1) (lv' := [(1, _), (0, _)]) (dd dtX11_text 34 rfl) rfl (Nat.le_of_ble_eq_true rfl) rfl k) ?_
      rw [nI_clamp (show X < 2 ^ 31 by omega)]
      obtain ⟨f1, f2, f3, f4, f5, f6⟩ := hT0
      refine BdQ.to (lr_textM (J := J) hX0 hlt hn2 n 0 _ _ (by omega) rfl ⟨fun a a1 a2 a3 => by rw [ist_ne (by omega)]; exact f1 a a1 a2 a3, fun j j1 j2 j3 => by rw [ist_ne (by decide)]; exact f2 j j1 j2 j3, by rw [ist_ne (by decide)]; exact f3, fun q q1 q2 => by rw [ist_eq, upd_ne q1]; exact f4 q q1 q2, fun q hq => by rw [ist_ne (by decide)]; exact f5 q hq, fun q hq => absurd hq (Nat.not_lt_zero _)⟩ (by rw [ist_eq, upd_ne (by omega)]; exact h356) (by rw [ist_eq, upd_eq]) (by rw [ist_ne (by decide)]; exact h45)) ?_
      rintro r J' ⟨h0, h1⟩
      exact ⟨fun q => absurd hlt (by omega), fun _ => ⟨fun _ => ⟨h0, h1⟩, fun e q => (by rw [hg] at q; cases q)⟩⟩
    · exact absurd h34 (by decide)
  · refine BdQ.l (fun _ _ k => b_bipush (pc := 9) (v := -4) (dd dtX11_text 4 rfl) (by decide) k) ?_
    refine ⟨_, _, ?_, b_iret (dd dtX11_text 5 rfl) rfl⟩
    have h6b : nI X = 6 := h6
    have hx6 : X = 6 := (nI_eq (b := 6) (by omega) (by decide)).mp h6b
    exact ⟨fun _ => ⟨rfl, rfl⟩, fun q => absurd hx6 (by omega)⟩
set_option maxHeartbeats 4000000 in
theorem q_textMb {J : Wd} {n X : Nat} {b kd nm pl : Nat → Int32} {T : Nat} (hn : J 0 47 = nI n) (hn2 : n ≤ 160) (hX : J 0 45 = nI X) (hX0 : 1 ≤ X) (hX2 : X ≤ 6) (hBR : ∀ i, i < n → BRel (b i) (J 34 (960 + i))) (hT : TokOK b n kd nm pl T) {e0 : Nat} (hg : gF kd nm (J 38) T 3 0 = some e0) : CalQ SyM mX11_text 7 [.ref 0] J (fun r J' => (X = 6 → r = some (.int (-4)) ∧ J' = J) ∧ (X < 6 → (gF kd nm (J 38) T 3 0 = none → r = some (.int (nI X)) ∧ J' 0 45 = nI (X + 1) ∧ J' 35 X = nI n ∧ TxM J J' X n n) ∧ ∀ e, gF kd nm (J 38) T 3 0 = some e → r = some (.int (-100 - plX pl T n e)) ∧ J' 0 45 = nI X ∧ TxM J J' X n 0)) := by
  refine CalQ.of (by decide) (Nat.le_of_ble_eq_true rfl) ?_
  show BdQ _ _ _ _ [(0, _)] _ _ _
  refine BdQ.l (fun _ _ k => b_aload_n (pc := 0) (i := 0) (dd dtX11_text 0 rfl) rfl rfl k) ?_
  refine BdQ.l (fun _ _ k => b_geti (pc := 1) (dd dtX11_text 1 rfl) fwX11_152 pM_0 k) ?_
  rw [hX]
  refine BdQ.l (fun _ _ k => b_bipush (pc := 4) (v := 6) (dd dtX11_text 2 rfl) (by decide) k) ?_
  refine BdQ.c (fun _ _ k1 k2 => b_icmp_ne (pc := 6) (tgt := 12) (dd dtX11_text 3 rfl) (by decide) k1 k2) (fun h6 => ?_) (fun h6 => ?_)
  · refine BdQ.l (fun _ _ k => b_aload_n (pc := 12) (i := 0) (dd dtX11_text 6 rfl) rfl rfl k) ?_
    refine BdQ.l (fun _ _ k => b_geta (pc := 13) (dd dtX11_text 7 rfl) fwX11_164 pM_0 rM_0_49 k) ?_
    refine BdQ.l (fun _ _ k => b_bipush (pc := 16) (v := 6) (dd dtX11_text 8 rfl) (by decide) k) ?_
    refine BdQ.l (fun _ _ k => b_aload_n (pc := 18) (i := 0) (dd dtX11_text 9 rfl) rfl rfl k) ?_
    refine BdQ.l (fun _ _ k => b_geti (pc := 19) (dd dtX11_text 10 rfl) fwX11_158 pM_0 k) ?_
    refine BdQ.l (fun _ _ k => b_iast (pc := 22) (dd dtX11_text 11 rfl) pM_35 (vpn (h := 6) rfl (by decide) (by decide)) k) ?_
    refine BdQ.l (fun _ _ k => b_aload_n (pc := 23) (i := 0) (dd dtX11_text 12 rfl) rfl rfl k) ?_
    refine BdQ.l (fun _ _ k => b_ic0 (pc := 24) (dd dtX11_text 13 rfl) k) ?_
    refine BdQ.l (fun _ _ k => b_puti (pc := 25) (dd dtX11_text 14 rfl) fwX11_158 pM_0 k) ?_
    refine BdQ.l (fun _ _ k => b_aload_n (pc := 28) (i := 0) (dd dtX11_text 15 rfl) rfl rfl k) ?_
    refine BdQ.l (fun _ _ k => b_bipush (pc := 29) (v := 6) (dd dtX11_text 16 rfl) (by decide) k) ?_
    rw [show (6 : Int32).toNatClampNeg = 6 from rfl]
    have hlt : X < 6 := Nat.lt_of_le_of_ne hX2 (fun q => h6 (congrArg nI q))
    have hn' : (ist (ist J 35 6 (J 0 47)) 0 47 0) 35 6 = nI n := by rw [ist_ne (by decide), ist_eq, upd_eq]; exact hn
    obtain ⟨_, I31, ⟨F31, S31⟩, k31⟩ := q_goes (J0 := ist (ist J 35 6 (J 0 47)) 0 47 0) (k := 6) (b := b) (kd := kd) (nm := nm) (pl := pl) (T := T) (by decide) hn' hn2 (fun i hi => by rw [ist_ne (by decide), ist_ne (by decide)]; exact hBR i hi) hT
    have h38 : (ist (ist J 35 6 (J 0 47)) 0 47 0) 38 = J 38 := by rw [ist_ne (by decide), ist_ne (by decide)]
    rw [h38] at S31
    have hT0 : TxM J I31 X n 0 := by
      refine ⟨fun a a1 a2 a3 => ?_, fun j j1 j2 j3 => ?_, ?_, fun q q1 q2 => ?_, fun q hq => ?_, fun q hq => absurd hq (Nat.not_lt_zero _)⟩
      · rw [F31.1 a a1 (by omega) (by omega) (by omega), ist_ne a1, ist_ne (by omega)]
      · rw [F31.2 j j3, ist_eq, upd_ne j2, ist_ne (by decide)]
      · rw [F31.2 47 (by omega), ist_eq, upd_eq]
      · rw [F31.1 35 (by decide) (by decide) (by decide) (by decide), ist_ne (by decide), ist_eq, upd_ne q2]
      · rw [F31.1 34 (by decide) (by decide) (by decide) (by decide), ist_ne (by decide), ist_ne (by decide)]
    have h45 : I31 0 45 = nI X := by rw [F31.2 45 (by omega), ist_eq, upd_ne (by decide), ist_ne (by decide)]; exact hX
    have h356 : I31 35 6 = nI n := by rw [F31.1 35 (by decide) (by decide) (by decide) (by decide)]; exact hn'
    obtain ⟨rfl, V31⟩ := S31.2 e0 hg
    refine BdQ.l (fun _ _ k => b_invV (pc := 31) (dd dtX11_text 17 rfl) mlX11_383 mvX11_goes miX11_goes (k31) oM_0 rfl rfl (by decide) (Nat.le_of_ble_eq_true rfl) k) ?_
    refine BdQ.c (fun _ _ k1 k2 => b_if_ne (pc := 34) (tgt := 45) (dd dtX11_text 18 rfl) (by decide) k1 k2) (fun h34 => ?_) (fun h34 => ?_)
    · exact absurd rfl h34
    · refine BdQ.l (fun _ _ k => b_bipush (pc := 37) (v := -100) (dd dtX11_text 19 rfl) (by decide) k) ?_
      refine BdQ.l (fun _ _ k => b_aload_n (pc := 39) (i := 0) (dd dtX11_text 20 rfl) rfl rfl k) ?_
      refine BdQ.l (fun _ _ k => b_geti (pc := 40) (dd dtX11_text 21 rfl) fwX11_179 pM_0 k) ?_
      refine BdQ.l (fun _ _ k => b_isub (pc := 43) (dd dtX11_text 22 rfl) k) ?_
      refine ⟨_, _, ?_, b_iret (dd dtX11_text 23 rfl) rfl⟩
      first
      | (have h6b : nI X = 6 := h6
         have hx6 : X = 6 := (nI_eq (b := 6) (by omega) (by decide)).mp h6b
         exact ⟨fun _ => ⟨rfl, rfl⟩, fun q => absurd hx6 (by omega)⟩)
      | (refine ⟨fun q => absurd hlt (by omega), fun _ => ⟨fun q => (by rw [hg] at q; cases q), fun e q => ?_⟩⟩
         rw [hg] at q
         cases q
         rw [V31]
         exact ⟨rfl, h45, hT0⟩)
  · refine BdQ.l (fun _ _ k => b_bipush (pc := 9) (v := -4) (dd dtX11_text 4 rfl) (by decide) k) ?_
    refine ⟨_, _, ?_, b_iret (dd dtX11_text 5 rfl) rfl⟩
    first
    | (have h6b : nI X = 6 := h6
       have hx6 : X = 6 := (nI_eq (b := 6) (by omega) (by decide)).mp h6b
       exact ⟨fun _ => ⟨rfl, rfl⟩, fun q => absurd hx6 (by omega)⟩)
    | (refine ⟨fun q => absurd hlt (by omega), fun _ => ⟨fun q => (by rw [hg] at q; cases q), fun e q => ?_⟩⟩
       rw [hg] at q
       cases q
       rw [V31]
       exact ⟨rfl, h45, hT0⟩)
theorem q_textM {J : Wd} {n X : Nat} {b kd nm pl : Nat → Int32} {T : Nat} (hn : J 0 47 = nI n) (hn2 : n ≤ 160) (hX : J 0 45 = nI X) (hX0 : 1 ≤ X) (hX2 : X ≤ 6) (hBR : ∀ i, i < n → BRel (b i) (J 34 (960 + i))) (hT : TokOK b n kd nm pl T) : CalQ SyM mX11_text 7 [.ref 0] J (fun r J' => (X = 6 → r = some (.int (-4)) ∧ J' = J) ∧ (X < 6 → (gF kd nm (J 38) T 3 0 = none → r = some (.int (nI X)) ∧ J' 0 45 = nI (X + 1) ∧ J' 35 X = nI n ∧ TxM J J' X n n) ∧ ∀ e, gF kd nm (J 38) T 3 0 = some e → r = some (.int (-100 - plX pl T n e)) ∧ J' 0 45 = nI X ∧ TxM J J' X n 0)) := by
  cases hg : gF kd nm (J 38) T 3 0 with
  | none =>
    refine CalQ.to (q_textMa hn hn2 hX hX0 hX2 hBR hT hg) ?_
    rw [hg]; exact fun r J' h => h
  | some e =>
    refine CalQ.to (q_textMb hn hn2 hX hX0 hX2 hBR hT hg) ?_
    rw [hg]; exact fun r J' h => h
