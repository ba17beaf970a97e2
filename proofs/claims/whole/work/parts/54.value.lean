/-! what a text comes to -/
def eJoin (s a b : Int32) : Int32 := if s = -11 then (if ¬ a = 0 ∨ ¬ b = 0 then 1 else 0) else if s = -12 then (if ¬ a = 0 ∧ ¬ b = 0 then 1 else 0) else if s = -14 then (if a < b then 1 else 0) else if s = -15 then (if a = b then 1 else 0) else if s = -16 then a + b else if s = -17 then a - b else a * b
def eUn (s : Int32) (a : Int32) : Int32 := if s = -13 then (if a = 0 then 1 else 0) else -a
def eStep (f : Nat → Int32) (s : Int32) (stk : List Int32) : List Int32 :=
  if ¬ s < -8 then (if s < 0 then f (-1 - s).toNatClampNeg else s) :: stk
  else if s = -13 ∨ s = -19 then (match stk with
    | [] => []
    | a :: t => eUn s a :: t)
  else (match stk with
    | b :: a :: t => eJoin s a b :: t
    | t => t)
def ev (f : Nat → Int32) : List Int32 → List Int32 → List Int32
  | [], stk => stk
  | s :: c, stk => ev f c (eStep f s stk)
def Stk (f : Nat → Int32) : List Int32 → Prop
  | [] => True
  | v :: t => f t.length = v ∧ Stk f t
theorem Stk.up {f : Nat → Int32} {k : Nat} {x : Int32} : ∀ {l : List Int32}, Stk f l → l.length ≤ k → Stk (upd f k x) l
  | [], _, _ => trivial
  | v :: t, h, hk => by
    have hk2 : t.length + 1 ≤ k := hk
    exact ⟨by rw [upd_ne (by omega)]; exact h.1, h.2.up (by omega)⟩
theorem Stk.push {f : Nat → Int32} {l : List Int32} {x : Int32} (h : Stk f l) : Stk (upd f l.length x) (x :: l) := ⟨by rw [upd_eq], h.up (Nat.le_refl _)⟩
theorem one_of {stk : List Int32} (h : ¬ nI stk.length < 1) : ∃ a t, stk = a :: t := by
  cases stk with
  | nil => exact absurd h (by decide)
  | cons a t => exact ⟨a, t, rfl⟩
theorem two_of {stk : List Int32} (h : ¬ nI stk.length < 2) : ∃ b a t, stk = b :: a :: t := by
  cases stk with
  | nil => exact absurd h (by decide)
  | cons b t =>
    cases t with
    | nil => exact absurd h (by simp only [List.length_cons, List.length_nil]; decide)
    | cons a t => exact ⟨b, a, t, rfl⟩
theorem nI_dec (n : Nat) : nI (n + 1) + (-1) = nI n := by rw [← nI_pred n]; exact (Int32.sub_eq_add_neg _ _).symm
theorem nm_in {s : Int32} (h54 : ¬ s < -8) (h71 : s < 0) : vp_in (-1 - s) 8 := by
  rw [Int32.lt_iff_toInt_lt] at h54 h71
  have e0 : (0 : Int32).toInt = 0 := rfl
  have e8 : (-8 : Int32).toInt = -8 := rfl
  have e1 : (-1 : Int32).toInt = -1 := rfl
  rw [e8] at h54
  rw [e0] at h71
  rw [vp_in_iff, Int32.toInt_sub, e1]
  have hb : ((-1 : Int) - s.toInt).bmod (2 ^ 32) = -1 - s.toInt := by apply Int.bmod_eq_of_le <;> omega
  rw [hb]
  omega
theorem less_of {stk : List Int32} {m : Nat} (h : nI stk.length < nI m) (h1 : stk.length < 2 ^ 31) (h2 : m < 2 ^ 31) : stk.length < m := lt_n h h1 h2
theorem eStep_p {f : Nat → Int32} {s : Int32} {stk : List Int32} (h : ¬ s < -8) : eStep f s stk = (if s < 0 then f (-1 - s).toNatClampNeg else s) :: stk := if_pos h
theorem eStep_u {f : Nat → Int32} {s a : Int32} {t : List Int32} (h : s < -8) (hs : s = -13 ∨ s = -19) : eStep f s (a :: t) = eUn s a :: t := by unfold eStep; rw [if_neg (fun q => q h), if_pos hs]
theorem eStep_j {f : Nat → Int32} {s a b : Int32} {t : List Int32} (h : s < -8) (hs : ¬ s = -13) (hs2 : ¬ s = -19) : eStep f s (b :: a :: t) = eJoin s a b :: t := by unfold eStep; rw [if_neg (fun q => q h), if_neg (fun q => q.elim hs hs2)]
theorem eStep_z {f : Nat → Int32} {s : Int32} {stk : List Int32} (h : s < -8) (h1 : stk.length < 2) (h2 : ¬ s = -13 ∨ stk.length < 1) (h3 : ¬ s = -19 ∨ stk.length < 1) : eStep f s stk = stk := by
  unfold eStep
  rw [if_neg (fun q => q h)]
  cases stk with
  | nil => split <;> rfl
  | cons a t =>
    cases t with
    | nil => rw [if_neg (fun q => q.elim (h2.resolve_right (by simp)) (h3.resolve_right (by simp)))]
    | cons b t => simp at h1; omega
theorem seg_s {c : List Int32} {i m : Nat} (h : i < c.length) : (c.drop i).take (m + 1) = c.getD i 0 :: (c.drop (i + 1)).take m := by
  rw [List.drop_eq_getElem_cons h, List.take_succ_cons]
  simp [List.getD, h]
def tX4_joined : List (Nat × Instr × Nat) := [(0, .iload_n 0, 1), (1, .tableswitch 101 (-17) (-11) #[97, 93, 82, 71, 101, 57, 43], 43), (44, .iload_n 1, 1), (45, .ifCond .ne 7, 3), (48, .iload_n 2, 1), (49, .ifCond .eq 7, 3), (52, .iconst 1, 1), (53, .goto 4, 3), (56, .iconst 0, 1), (57, .ireturn, 1), (58, .iload_n 1, 1), (59, .ifCond .eq 11, 3), (62, .iload_n 2, 1), (63, .ifCond .eq 7, 3), (66, .iconst 1, 1), (67, .goto 4, 3), (70, .iconst 0, 1), (71, .ireturn, 1), (72, .iload_n 1, 1), (73, .iload_n 2, 1), (74, .if_icmp .ge 7, 3), (77, .iconst 1, 1), (78, .goto 4, 3), (81, .iconst 0, 1), (82, .ireturn, 1), (83, .iload_n 1, 1), (84, .iload_n 2, 1), (85, .if_icmp .ne 7, 3), (88, .iconst 1, 1), (89, .goto 4, 3), (92, .iconst 0, 1), (93, .ireturn, 1), (94, .iload_n 1, 1), (95, .iload_n 2, 1), (96, .iadd, 1), (97, .ireturn, 1), (98, .iload_n 1, 1), (99, .iload_n 2, 1), (100, .isub, 1), (101, .ireturn, 1), (102, .iload_n 1, 1), (103, .iload_n 2, 1), (104, .imul, 1), (105, .ireturn, 1)]
theorem dtX4_joined : dec_ok mX4_joined.2.1 tX4_joined = true := by decide +kernel
set_option maxHeartbeats 4000000 in
theorem c_X4_joined {I : Wd} {s a b : Int32} : Cal SyC mX4_joined 0 [.int s, .int a, .int b] I (some (.int (eJoin s a b))) I := by
  refine Cal.of (by decide) (Nat.le_of_ble_eq_true rfl) ?_
  show Bd _ _ _ _ [(0, _), (1, _), (2, _)] _ _ _ _
  refine b_iload_n (pc := 0) (i := 0) (dd dtX4_joined 0 rfl) rfl rfl ?_
  refine b_tsw (pc := 1) (ts := [(-17, 98), (-16, 94), (-15, 83), (-14, 72), (-13, 102), (-12, 58), (-11, 44)]) (dfl := 102) (dd dtX4_joined 1 rfl) (by decide +kernel) ⟨fun h1 => ?_, fun h1_917 => ⟨fun h1 => ?_, fun h1_916 => ⟨fun h1 => ?_, fun h1_915 => ⟨fun h1 => ?_, fun h1_914 => ⟨fun h1 => ?_, fun h1_913 => ⟨fun h1 => ?_, fun h1_912 => ⟨fun h1 => ?_, fun h1_911 => ?_⟩⟩⟩⟩⟩⟩⟩
  · refine b_iload_n (pc := 98) (i := 1) (dd dtX4_joined 36 rfl) rfl rfl ?_
    refine b_iload_n (pc := 99) (i := 2) (dd dtX4_joined 37 rfl) rfl rfl ?_
    refine b_isub (pc := 100) (dd dtX4_joined 38 rfl) ?_
    refine b_eq (b_iret (dd dtX4_joined 39 rfl) rfl) ?_ ?_
    · simp [eJoin, *]
    · rfl
  · refine b_iload_n (pc := 94) (i := 1) (dd dtX4_joined 32 rfl) rfl rfl ?_
    refine b_iload_n (pc := 95) (i := 2) (dd dtX4_joined 33 rfl) rfl rfl ?_
    refine b_iadd (pc := 96) (dd dtX4_joined 34 rfl) ?_
    refine b_eq (b_iret (dd dtX4_joined 35 rfl) rfl) ?_ ?_
    · simp [eJoin, *]
    · rfl
  · refine b_iload_n (pc := 83) (i := 1) (dd dtX4_joined 25 rfl) rfl rfl ?_
    refine b_iload_n (pc := 84) (i := 2) (dd dtX4_joined 26 rfl) rfl rfl ?_
    refine b_icmp_ne (pc := 85) (tgt := 92) (dd dtX4_joined 27 rfl) (by decide) (fun h85 => ?_) (fun h85 => ?_)
    · refine b_ic0 (pc := 92) (dd dtX4_joined 30 rfl) ?_
      refine b_eq (b_iret (dd dtX4_joined 31 rfl) rfl) ?_ ?_
      · simp [eJoin, *]
      · rfl
    · refine b_ic1 (pc := 88) (dd dtX4_joined 28 rfl) ?_
      refine b_goto (pc := 89) (tgt := 93) (dd dtX4_joined 29 rfl) (by decide) ?_
      refine b_eq (b_iret (dd dtX4_joined 31 rfl) rfl) ?_ ?_
      · simp [eJoin, *]
      · rfl
  · refine b_iload_n (pc := 72) (i := 1) (dd dtX4_joined 18 rfl) rfl rfl ?_
    refine b_iload_n (pc := 73) (i := 2) (dd dtX4_joined 19 rfl) rfl rfl ?_
    refine b_icmpL_ge (pc := 74) (tgt := 81) (dd dtX4_joined 20 rfl) (by decide) (fun h74 => ?_) (fun h74 => ?_)
    · refine b_ic0 (pc := 81) (dd dtX4_joined 23 rfl) ?_
      refine b_eq (b_iret (dd dtX4_joined 24 rfl) rfl) ?_ ?_
      · simp [eJoin, *]
      · rfl
    · refine b_ic1 (pc := 77) (dd dtX4_joined 21 rfl) ?_
      refine b_goto (pc := 78) (tgt := 82) (dd dtX4_joined 22 rfl) (by decide) ?_
      refine b_eq (b_iret (dd dtX4_joined 24 rfl) rfl) ?_ ?_
      · simp [eJoin, *]
      · rfl
  · refine b_iload_n (pc := 102) (i := 1) (dd dtX4_joined 40 rfl) rfl rfl ?_
    refine b_iload_n (pc := 103) (i := 2) (dd dtX4_joined 41 rfl) rfl rfl ?_
    refine b_imul (pc := 104) (dd dtX4_joined 42 rfl) ?_
    refine b_eq (b_iret (dd dtX4_joined 43 rfl) rfl) ?_ ?_
    · simp [eJoin, *]
    · rfl
  · refine b_iload_n (pc := 58) (i := 1) (dd dtX4_joined 10 rfl) rfl rfl ?_
    refine b_if_eq (pc := 59) (tgt := 70) (dd dtX4_joined 11 rfl) (by decide) (fun h59 => ?_) (fun h59 => ?_)
    · refine b_ic0 (pc := 70) (dd dtX4_joined 16 rfl) ?_
      refine b_eq (b_iret (dd dtX4_joined 17 rfl) rfl) ?_ ?_
      · simp [eJoin, *]
      · rfl
    · refine b_iload_n (pc := 62) (i := 2) (dd dtX4_joined 12 rfl) rfl rfl ?_
      refine b_if_eq (pc := 63) (tgt := 70) (dd dtX4_joined 13 rfl) (by decide) (fun h63 => ?_) (fun h63 => ?_)
      · refine b_ic0 (pc := 70) (dd dtX4_joined 16 rfl) ?_
        refine b_eq (b_iret (dd dtX4_joined 17 rfl) rfl) ?_ ?_
        · simp [eJoin, *]
        · rfl
      · refine b_ic1 (pc := 66) (dd dtX4_joined 14 rfl) ?_
        refine b_goto (pc := 67) (tgt := 71) (dd dtX4_joined 15 rfl) (by decide) ?_
        refine b_eq (b_iret (dd dtX4_joined 17 rfl) rfl) ?_ ?_
        · simp [eJoin, *]
        · rfl
  · refine b_iload_n (pc := 44) (i := 1) (dd dtX4_joined 2 rfl) rfl rfl ?_
    refine b_if_ne (pc := 45) (tgt := 52) (dd dtX4_joined 3 rfl) (by decide) (fun h45 => ?_) (fun h45 => ?_)
    · refine b_ic1 (pc := 52) (dd dtX4_joined 6 rfl) ?_
      refine b_goto (pc := 53) (tgt := 57) (dd dtX4_joined 7 rfl) (by decide) ?_
      refine b_eq (b_iret (dd dtX4_joined 9 rfl) rfl) ?_ ?_
      · simp [eJoin, *]
      · rfl
    · refine b_iload_n (pc := 48) (i := 2) (dd dtX4_joined 4 rfl) rfl rfl ?_
      refine b_if_eq (pc := 49) (tgt := 56) (dd dtX4_joined 5 rfl) (by decide) (fun h49 => ?_) (fun h49 => ?_)
      · refine b_ic0 (pc := 56) (dd dtX4_joined 8 rfl) ?_
        refine b_eq (b_iret (dd dtX4_joined 9 rfl) rfl) ?_ ?_
        · simp [eJoin, *]
        · rfl
      · refine b_ic1 (pc := 52) (dd dtX4_joined 6 rfl) ?_
        refine b_goto (pc := 53) (tgt := 57) (dd dtX4_joined 7 rfl) (by decide) ?_
        refine b_eq (b_iret (dd dtX4_joined 9 rfl) rfl) ?_ ?_
        · simp [eJoin, *]
        · rfl
  · refine b_iload_n (pc := 102) (i := 1) (dd dtX4_joined 40 rfl) rfl rfl ?_
    refine b_iload_n (pc := 103) (i := 2) (dd dtX4_joined 41 rfl) rfl rfl ?_
    refine b_imul (pc := 104) (dd dtX4_joined 42 rfl) ?_
    refine b_eq (b_iret (dd dtX4_joined 43 rfl) rfl) ?_ ?_
    · simp [eJoin, *]
    · rfl
def tX4_value : List (Nat × Instr × Nat) := [(0, .aload_n 0, 1), (1, .getfield 36, 3), (4, .aload_n 0, 1), (5, .getfield 22, 3), (8, .aaload, 1), (9, .astore_n 2, 1), (10, .iconst 0, 1), (11, .istore_n 3, 1), (12, .iload_n 1, 1), (13, .ifCond .ne 7, 3), (16, .iconst 0, 1), (17, .goto 11, 3), (20, .aload_n 2, 1), (21, .getfield 106, 3), (24, .iload_n 1, 1), (25, .iconst 1, 1), (26, .isub, 1), (27, .iaload, 1), (28, .istore 4, 2), (30, .iload 4, 2), (32, .aload_n 2, 1), (33, .getfield 106, 3), (36, .iload_n 1, 1), (37, .iaload, 1), (38, .if_icmp .ge 169, 3), (41, .aload_n 2, 1), (42, .getfield 109, 3), (45, .iload 4, 2), (47, .iaload, 1), (48, .istore 5, 2), (50, .iload 5, 2), (52, .bipush (-8), 2), (54, .if_icmp .lt 41, 3), (57, .iload_n 3, 1), (58, .sipush 160, 3), (61, .if_icmp .ge 34, 3), (64, .aload_n 0, 1), (65, .getfield 44, 3), (68, .iload_n 3, 1), (69, .iload 5, 2), (71, .ifCond .lt 8, 3), (74, .iload 5, 2), (76, .goto 12, 3), (79, .aload_n 0, 1), (80, .getfield 40, 3), (83, .iconst (-1), 1), (84, .iload 5, 2), (86, .isub, 1), (87, .iaload, 1), (88, .iastore, 1), (89, .iinc 3 1, 3), (92, .goto 109, 3), (95, .iload 5, 2), (97, .bipush (-13), 2), (99, .if_icmp .ne 35, 3), (102, .iload_n 3, 1), (103, .iconst 1, 1), (104, .if_icmp .lt 30, 3), (107, .aload_n 0, 1), (108, .getfield 44, 3), (111, .iload_n 3, 1), (112, .iconst 1, 1), (113, .isub, 1), (114, .aload_n 0, 1), (115, .getfield 44, 3), (118, .iload_n 3, 1), (119, .iconst 1, 1), (120, .isub, 1), (121, .iaload, 1), (122, .ifCond .ne 7, 3), (125, .iconst 1, 1), (126, .goto 4, 3), (129, .iconst 0, 1), (130, .iastore, 1), (131, .goto 70, 3), (134, .iload 5, 2), (136, .bipush (-19), 2), (138, .if_icmp .ne 28, 3), (141, .iload_n 3, 1), (142, .iconst 1, 1), (143, .if_icmp .lt 23, 3), (146, .aload_n 0, 1), (147, .getfield 44, 3), (150, .iload_n 3, 1), (151, .iconst 1, 1), (152, .isub, 1), (153, .aload_n 0, 1), (154, .getfield 44, 3), (157, .iload_n 3, 1), (158, .iconst 1, 1), (159, .isub, 1), (160, .iaload, 1), (161, .ineg, 1), (162, .iastore, 1), (163, .goto 38, 3), (166, .iload_n 3, 1), (167, .iconst 2, 1), (168, .if_icmp .lt 33, 3), (171, .iinc 3 (-1), 3), (174, .aload_n 0, 1), (175, .getfield 44, 3), (178, .iload_n 3, 1), (179, .iconst 1, 1), (180, .isub, 1), (181, .iload 5, 2), (183, .aload_n 0, 1), (184, .getfield 44, 3), (187, .iload_n 3, 1), (188, .iconst 1, 1), (189, .isub, 1), (190, .iaload, 1), (191, .aload_n 0, 1), (192, .getfield 44, 3), (195, .iload_n 3, 1), (196, .iaload, 1), (197, .invokestatic 112, 3), (200, .iastore, 1), (201, .iinc 4 1, 3), (204, .goto (-174), 3), (207, .aload_n 0, 1), (208, .getfield 44, 3), (211, .iconst 0, 1), (212, .iaload, 1), (213, .ireturn, 1)]
theorem dtX4_value : dec_ok mX4_value.2.1 tX4_value = true := by decide +kernel
set_option maxHeartbeats 2000000 in
theorem lr_value {I : Wd} {k p : Nat} {c : List Int32} {E : Nat → Nat} {v : Int32} (hk : isT k) (hk2 : 77 < k ∧ k < 94) (hp : p < 3) (hX : TxW I k c E) (hE : E p ≤ c.length) : ∀ (m i : Nat) (x4 x3 : Int32) (stk : List Int32) (W : Wd), i + m = E p → x4 = nI i → x3 = nI stk.length → stk.length ≤ i → (∀ a, a ≠ 97 → W a = I a) → Stk (W 97) stk → ev (I 96) ((c.drop i).take m) stk = [v] → BdQ SyC mX4_value 1 30 [(4, .int x4), (3, .int x3), (2, .ref k), (0, .ref 66), (1, .int (nI p))] [] W (fun r I' => r = some (.int v) ∧ ∀ a, a ≠ 97 → I' a = I a) := by
  intro m
  induction m with
  | zero =>
    intro i x4 x3 stk W hi e4 e3 hl hW hS hev
    subst e4; subst e3
    have hc160 : c.length ≤ 160 := hX.2.1
    refine BdQ.l (fun _ _ k => b_iload (pc := 30) (i := 4) (dd dtX4_value 19 rfl) rfl k) ?_
    refine BdQ.l (fun _ _ k => b_aload_n (pc := 32) (i := 2) (dd dtX4_value 20 rfl) rfl rfl k) ?_
    refine BdQ.l (fun _ _ k => b_geta (pc := 33) (dd dtX4_value 21 rfl) fwX4_106 (pT_0 hk) (rT_2 hk) k) ?_
    refine BdQ.l (fun _ _ k => b_iload_n (pc := 36) (i := 1) (dd dtX4_value 22 rfl) rfl rfl k) ?_
    refine BdQ.l (fun _ _ k => b_iald (pc := 37) (dd dtX4_value 23 rfl) (pT_2 hk) (vpn rfl hp (by decide)) k) ?_
    rw [hW (k + 2) (by omega), nI_clamp (show p < 2 ^ 31 by omega), hX.2.2.2 p hp]
    refine BdQ.c (fun _ _ k1 k2 => b_icmpL_ge (pc := 38) (tgt := 207) (dd dtX4_value 24 rfl) (by decide) k1 k2) (fun h38 => ?_) (fun h38 => ?_)
    · refine BdQ.l (fun _ _ k => b_aload_n (pc := 207) (i := 0) (dd dtX4_value 119 rfl) rfl rfl k) ?_
      refine BdQ.l (fun _ _ k => b_geta (pc := 208) (dd dtX4_value 120 rfl) fwX4_44 pC_66 rC_66_6 k) ?_
      refine BdQ.l (fun _ _ k => b_ic0 (pc := 211) (dd dtX4_value 121 rfl) k) ?_
      refine BdQ.l (fun _ _ k => b_iald (pc := 212) (dd dtX4_value 122 rfl) pC_97 (vpn (h := 0) rfl (by decide) (by decide)) k) ?_
      have hv : stk = [v] := hev
      subst hv
      rw [show W 97 (0 : Int32).toNatClampNeg = v from hS.1]
      refine ⟨_, _, ?_, b_iret (dd dtX4_value 123 rfl) rfl⟩
      exact ⟨rfl, hW⟩
    · exact absurd h38 (by rw [show i = E p by omega]; exact Int32.lt_irrefl)
  | succ m ih =>
    intro i x4 x3 stk W hi e4 e3 hl hW hS hev
    subst e4; subst e3
    have hc160 : c.length ≤ 160 := hX.2.1
    refine BdQ.l (fun _ _ k => b_iload (pc := 30) (i := 4) (dd dtX4_value 19 rfl) rfl k) ?_
    refine BdQ.l (fun _ _ k => b_aload_n (pc := 32) (i := 2) (dd dtX4_value 20 rfl) rfl rfl k) ?_
    refine BdQ.l (fun _ _ k => b_geta (pc := 33) (dd dtX4_value 21 rfl) fwX4_106 (pT_0 hk) (rT_2 hk) k) ?_
    refine BdQ.l (fun _ _ k => b_iload_n (pc := 36) (i := 1) (dd dtX4_value 22 rfl) rfl rfl k) ?_
    refine BdQ.l (fun _ _ k => b_iald (pc := 37) (dd dtX4_value 23 rfl) (pT_2 hk) (vpn rfl hp (by decide)) k) ?_
    rw [hW (k + 2) (by omega), nI_clamp (show p < 2 ^ 31 by omega), hX.2.2.2 p hp]
    refine BdQ.c (fun _ _ k1 k2 => b_icmpL_ge (pc := 38) (tgt := 207) (dd dtX4_value 24 rfl) (by decide) k1 k2) (fun h38 => ?_) (fun h38 => ?_)
    · exact absurd (nI_lt (show i < E p by omega) (by have := hX.2.1; omega)) h38
    · refine BdQ.l (fun _ _ k => b_aload_n (pc := 41) (i := 2) (dd dtX4_value 25 rfl) rfl rfl k) ?_
      refine BdQ.l (fun _ _ k => b_geta (pc := 42) (dd dtX4_value 26 rfl) fwX4_109 (pT_0 hk) (rT_1 hk) k) ?_
      refine BdQ.l (fun _ _ k => b_iload (pc := 45) (i := 4) (dd dtX4_value 27 rfl) rfl k) ?_
      refine BdQ.l (fun _ _ k => b_iald (pc := 47) (dd dtX4_value 28 rfl) (pT_1 hk) (vpn rfl (show i < 160 by have := hX.2.1; omega) (by decide)) k) ?_
      rw [nI_clamp (show i < 2 ^ 31 by omega), hW (k + 1) (by omega), hX.2.2.1 i (by omega)]
      rw [seg_s (show i < c.length by omega)] at hev
      replace hev : ev (I 96) _ (eStep (I 96) (c.getD i 0) stk) = [v] := hev
      generalize c.getD i 0 = s at hev ⊢
      refine BdQ.l (fun _ _ k => b_istore (pc := 48) (i := 5) (lv' := [(5, _), (4, _), (3, _), (2, _), (0, _), (1, _)]) (dd dtX4_value 29 rfl) (Nat.le_of_ble_eq_true rfl) rfl k) ?_
      refine BdQ.l (fun _ _ k => b_iload (pc := 50) (i := 5) (dd dtX4_value 30 rfl) rfl k) ?_
      refine BdQ.l (fun _ _ k => b_bipush (pc := 52) (v := -8) (dd dtX4_value 31 rfl) (by decide) k) ?_
      refine BdQ.b (fun _ _ k1 k2 => b_icmp_lt (pc := 54) (tgt := 95) (dd dtX4_value 32 rfl) (by decide) k1 k2) (fun h54 => ?_) (fun h54 => ?_)
      · refine BdQ.l (fun _ _ k => b_iload (pc := 95) (i := 5) (dd dtX4_value 52 rfl) rfl k) ?_
        refine BdQ.l (fun _ _ k => b_bipush (pc := 97) (v := -13) (dd dtX4_value 53 rfl) (by decide) k) ?_
        refine BdQ.c (fun _ _ k1 k2 => b_icmp_ne (pc := 99) (tgt := 134) (dd dtX4_value 54 rfl) (by decide) k1 k2) (fun h99 => ?_) (fun h99 => ?_)
        · refine BdQ.l (fun _ _ k => b_iload (pc := 134) (i := 5) (dd dtX4_value 75 rfl) rfl k) ?_
          refine BdQ.l (fun _ _ k => b_bipush (pc := 136) (v := -19) (dd dtX4_value 76 rfl) (by decide) k) ?_
          refine BdQ.c (fun _ _ k1 k2 => b_icmp_ne (pc := 138) (tgt := 166) (dd dtX4_value 77 rfl) (by decide) k1 k2) (fun h138 => ?_) (fun h138 => ?_)
          · refine BdQ.l (fun _ _ k => b_iload_n (pc := 166) (i := 3) (dd dtX4_value 95 rfl) rfl rfl k) ?_
            refine BdQ.l (fun _ _ k => b_ic2 (pc := 167) (dd dtX4_value 96 rfl) k) ?_
            refine BdQ.b (fun _ _ k1 k2 => b_icmp_lt (pc := 168) (tgt := 201) (dd dtX4_value 97 rfl) (by decide) k1 k2) (fun h168 => ?_) (fun h168 => ?_)
            · refine BdQ.l (fun _ _ k => b_iinc1 (pc := 201) (i := 4) (lv' := [(4, _), (5, _), (3, _), (2, _), (0, _), (1, _)]) (dd dtX4_value 117 rfl) rfl (Nat.le_of_ble_eq_true rfl) rfl k) ?_
              refine BdQ.l (fun _ _ k => b_goto (pc := 204) (tgt := 30) (dd dtX4_value 118 rfl) (by decide) k) ?_
              refine BdQ.l (fun _ _ k => b_pick [0, 2, 3, 4, 5] (lv' := [(4, _), (3, _), (2, _), (0, _), (1, _)]) rfl k) ?_
              rw [nI_1]
              first
              | (rw [nI_clamp (show stk.length < 2 ^ 31 by omega), nI_1]
                 refine ih (i + 1) _ _ (_ :: stk) _ (by omega) rfl rfl (by simp only [List.length_cons]; omega) (fun a ha => by rw [ist_ne ha]; exact hW a ha) (by rw [ist_eq]; exact hS.push) ?_
                 rw [eStep_p h54] at hev
                 first
                 | (rw [if_pos h71] at hev; exact hev)
                 | (rw [if_neg h71] at hev; exact hev))
              | (rw [nI_clamp (show t.length < 2 ^ 31 by omega)]
                 rw [eStep_u h54 (Or.inl h99)] at hev
                 refine ih (i + 1) _ _ (_ :: t) _ (by omega) rfl (by first | rfl | rw [List.length_cons]) (by simp only [List.length_cons]; omega) (fun a ha => by rw [ist_ne ha]; exact hW a ha) (by rw [ist_eq]; exact hS.2.push) ?_
                 rw [h99] at hev
                 unfold eUn at hev
                 rw [if_pos rfl] at hev
                 first
                 | (rw [if_pos h122] at hev; exact hev)
                 | (rw [if_neg h122] at hev; exact hev))
              | (rw [nI_clamp (show t.length < 2 ^ 31 by omega)]
                 rw [eStep_u h54 (Or.inr h138)] at hev
                 refine ih (i + 1) _ _ (_ :: t) _ (by omega) rfl (by first | rfl | rw [List.length_cons]) (by simp only [List.length_cons]; omega) (fun a ha => by rw [ist_ne ha]; exact hW a ha) (by rw [ist_eq]; exact hS.2.push) ?_
                 rw [h138] at hev
                 unfold eUn at hev
                 rw [if_neg (by decide)] at hev
                 exact hev)
              | (rw [nI_clamp (show t.length < 2 ^ 31 by omega)]
                 rw [eStep_j h54 (fun q => by first | exact h99 q | exact absurd (less_of (m := 1) h104 (by omega) (by decide)) (by simp)) (fun q => by first | exact h138 q | exact absurd (less_of (m := 1) h143 (by omega) (by decide)) (by simp))] at hev
                 exact ih (i + 1) _ _ (_ :: t) _ (by omega) rfl (by first | rfl | rw [List.length_cons]) (by simp only [List.length_cons]; omega) (fun a ha => by rw [ist_ne ha]; exact hW a ha) (by rw [ist_eq]; exact hS.2.2.push) hev)
              | (have q1 := less_of (m := 2) h168 (by omega) (by decide)
                 rw [eStep_z h54 q1 (by first | exact Or.inl h99 | exact Or.inr (less_of (m := 1) h104 (by omega) (by decide))) (by first | exact Or.inl h138 | exact Or.inr (less_of (m := 1) h143 (by omega) (by decide)))] at hev
                 exact ih (i + 1) _ _ stk _ (by omega) rfl rfl (by omega) hW hS hev)
            · obtain ⟨b, a, t, rfl⟩ := two_of h168
              have hl2 : t.length + 1 + 1 ≤ i := hl
              have hb : W 97 (t.length + 1) = b := hS.1
              rw [List.length_cons, List.length_cons]
              refine BdQ.l (fun _ _ k => b_iinc (pc := 171) (i := 3) (v := _ + (-1)) (lv' := [(3, _), (5, _), (4, _), (2, _), (0, _), (1, _)]) (dd dtX4_value 98 rfl) rfl rfl (Nat.le_of_ble_eq_true rfl) rfl k) ?_
              rw [nI_dec]
              refine BdQ.l (fun _ _ k => b_aload_n (pc := 174) (i := 0) (dd dtX4_value 99 rfl) rfl rfl k) ?_
              refine BdQ.l (fun _ _ k => b_geta (pc := 175) (dd dtX4_value 100 rfl) fwX4_44 pC_66 rC_66_6 k) ?_
              refine BdQ.l (fun _ _ k => b_iload_n (pc := 178) (i := 3) (dd dtX4_value 101 rfl) rfl rfl k) ?_
              refine BdQ.l (fun _ _ k => b_ic1 (pc := 179) (dd dtX4_value 102 rfl) k) ?_
              refine BdQ.l (fun _ _ k => b_isub (pc := 180) (dd dtX4_value 103 rfl) k) ?_
              rw [nI_pred]
              refine BdQ.l (fun _ _ k => b_iload (pc := 181) (i := 5) (dd dtX4_value 104 rfl) rfl k) ?_
              refine BdQ.l (fun _ _ k => b_aload_n (pc := 183) (i := 0) (dd dtX4_value 105 rfl) rfl rfl k) ?_
              refine BdQ.l (fun _ _ k => b_geta (pc := 184) (dd dtX4_value 106 rfl) fwX4_44 pC_66 rC_66_6 k) ?_
              refine BdQ.l (fun _ _ k => b_iload_n (pc := 187) (i := 3) (dd dtX4_value 107 rfl) rfl rfl k) ?_
              refine BdQ.l (fun _ _ k => b_ic1 (pc := 188) (dd dtX4_value 108 rfl) k) ?_
              refine BdQ.l (fun _ _ k => b_isub (pc := 189) (dd dtX4_value 109 rfl) k) ?_
              rw [nI_pred]
              refine BdQ.l (fun _ _ k => b_iald (pc := 190) (dd dtX4_value 110 rfl) pC_97 (vpn rfl (show t.length < 160 by omega) (by decide)) k) ?_
              rw [nI_clamp (show t.length < 2 ^ 31 by omega), hS.2.1]
              refine BdQ.l (fun _ _ k => b_aload_n (pc := 191) (i := 0) (dd dtX4_value 111 rfl) rfl rfl k) ?_
              refine BdQ.l (fun _ _ k => b_geta (pc := 192) (dd dtX4_value 112 rfl) fwX4_44 pC_66 rC_66_6 k) ?_
              refine BdQ.l (fun _ _ k => b_iload_n (pc := 195) (i := 3) (dd dtX4_value 113 rfl) rfl rfl k) ?_
              refine BdQ.l (fun _ _ k => b_iald (pc := 196) (dd dtX4_value 114 rfl) pC_97 (vpn rfl (show t.length + 1 < 160 by omega) (by decide)) k) ?_
              rw [nI_clamp (show t.length + 1 < 2 ^ 31 by omega), hb]
              refine BdQ.l (fun _ _ k => b_invS (pc := 197) (dd dtX4_value 115 rfl) mlX4_112 mvX4_joined msX4_joined (c_X4_joined) rfl rfl (by decide) (Nat.le_of_ble_eq_true rfl) k) ?_
              refine BdQ.l (fun _ _ k => b_iast (pc := 200) (dd dtX4_value 116 rfl) pC_97 (vpn rfl (show t.length < 160 by omega) (by decide)) k) ?_
              refine BdQ.l (fun _ _ k => b_iinc1 (pc := 201) (i := 4) (lv' := [(4, _), (3, _), (5, _), (2, _), (0, _), (1, _)]) (dd dtX4_value 117 rfl) rfl (Nat.le_of_ble_eq_true rfl) rfl k) ?_
              refine BdQ.l (fun _ _ k => b_goto (pc := 204) (tgt := 30) (dd dtX4_value 118 rfl) (by decide) k) ?_
              refine BdQ.l (fun _ _ k => b_pick [0, 1, 3, 4, 5] (lv' := [(4, _), (3, _), (2, _), (0, _), (1, _)]) rfl k) ?_
              rw [nI_1]
              first
              | (rw [nI_clamp (show stk.length < 2 ^ 31 by omega), nI_1]
                 refine ih (i + 1) _ _ (_ :: stk) _ (by omega) rfl rfl (by simp only [List.length_cons]; omega) (fun a ha => by rw [ist_ne ha]; exact hW a ha) (by rw [ist_eq]; exact hS.push) ?_
                 rw [eStep_p h54] at hev
                 first
                 | (rw [if_pos h71] at hev; exact hev)
                 | (rw [if_neg h71] at hev; exact hev))
              | (rw [nI_clamp (show t.length < 2 ^ 31 by omega)]
                 rw [eStep_u h54 (Or.inl h99)] at hev
                 refine ih (i + 1) _ _ (_ :: t) _ (by omega) rfl (by first | rfl | rw [List.length_cons]) (by simp only [List.length_cons]; omega) (fun a ha => by rw [ist_ne ha]; exact hW a ha) (by rw [ist_eq]; exact hS.2.push) ?_
                 rw [h99] at hev
                 unfold eUn at hev
                 rw [if_pos rfl] at hev
                 first
                 | (rw [if_pos h122] at hev; exact hev)
                 | (rw [if_neg h122] at hev; exact hev))
              | (rw [nI_clamp (show t.length < 2 ^ 31 by omega)]
                 rw [eStep_u h54 (Or.inr h138)] at hev
                 refine ih (i + 1) _ _ (_ :: t) _ (by omega) rfl (by first | rfl | rw [List.length_cons]) (by simp only [List.length_cons]; omega) (fun a ha => by rw [ist_ne ha]; exact hW a ha) (by rw [ist_eq]; exact hS.2.push) ?_
                 rw [h138] at hev
                 unfold eUn at hev
                 rw [if_neg (by decide)] at hev
                 exact hev)
              | (rw [nI_clamp (show t.length < 2 ^ 31 by omega)]
                 rw [eStep_j h54 (fun q => by first | exact h99 q | exact absurd (less_of (m := 1) h104 (by omega) (by decide)) (by simp)) (fun q => by first | exact h138 q | exact absurd (less_of (m := 1) h143 (by omega) (by decide)) (by simp))] at hev
                 exact ih (i + 1) _ _ (_ :: t) _ (by omega) rfl (by first | rfl | rw [List.length_cons]) (by simp only [List.length_cons]; omega) (fun a ha => by rw [ist_ne ha]; exact hW a ha) (by rw [ist_eq]; exact hS.2.2.push) hev)
              | (have q1 := less_of (m := 2) h168 (by omega) (by decide)
                 rw [eStep_z h54 q1 (by first | exact Or.inl h99 | exact Or.inr (less_of (m := 1) h104 (by omega) (by decide))) (by first | exact Or.inl h138 | exact Or.inr (less_of (m := 1) h143 (by omega) (by decide)))] at hev
                 exact ih (i + 1) _ _ stk _ (by omega) rfl rfl (by omega) hW hS hev)
          · refine BdQ.l (fun _ _ k => b_iload_n (pc := 141) (i := 3) (dd dtX4_value 78 rfl) rfl rfl k) ?_
            refine BdQ.l (fun _ _ k => b_ic1 (pc := 142) (dd dtX4_value 79 rfl) k) ?_
            refine BdQ.b (fun _ _ k1 k2 => b_icmp_lt (pc := 143) (tgt := 166) (dd dtX4_value 80 rfl) (by decide) k1 k2) (fun h143 => ?_) (fun h143 => ?_)
            · refine BdQ.l (fun _ _ k => b_iload_n (pc := 166) (i := 3) (dd dtX4_value 95 rfl) rfl rfl k) ?_
              refine BdQ.l (fun _ _ k => b_ic2 (pc := 167) (dd dtX4_value 96 rfl) k) ?_
              refine BdQ.b (fun _ _ k1 k2 => b_icmp_lt (pc := 168) (tgt := 201) (dd dtX4_value 97 rfl) (by decide) k1 k2) (fun h168 => ?_) (fun h168 => ?_)
              · refine BdQ.l (fun _ _ k => b_iinc1 (pc := 201) (i := 4) (lv' := [(4, _), (5, _), (3, _), (2, _), (0, _), (1, _)]) (dd dtX4_value 117 rfl) rfl (Nat.le_of_ble_eq_true rfl) rfl k) ?_
                refine BdQ.l (fun _ _ k => b_goto (pc := 204) (tgt := 30) (dd dtX4_value 118 rfl) (by decide) k) ?_
                refine BdQ.l (fun _ _ k => b_pick [0, 2, 3, 4, 5] (lv' := [(4, _), (3, _), (2, _), (0, _), (1, _)]) rfl k) ?_
                rw [nI_1]
                first
                | (rw [nI_clamp (show stk.length < 2 ^ 31 by omega), nI_1]
                   refine ih (i + 1) _ _ (_ :: stk) _ (by omega) rfl rfl (by simp only [List.length_cons]; omega) (fun a ha => by rw [ist_ne ha]; exact hW a ha) (by rw [ist_eq]; exact hS.push) ?_
                   rw [eStep_p h54] at hev
                   first
                   | (rw [if_pos h71] at hev; exact hev)
                   | (rw [if_neg h71] at hev; exact hev))
                | (rw [nI_clamp (show t.length < 2 ^ 31 by omega)]
                   rw [eStep_u h54 (Or.inl h99)] at hev
                   refine ih (i + 1) _ _ (_ :: t) _ (by omega) rfl (by first | rfl | rw [List.length_cons]) (by simp only [List.length_cons]; omega) (fun a ha => by rw [ist_ne ha]; exact hW a ha) (by rw [ist_eq]; exact hS.2.push) ?_
                   rw [h99] at hev
                   unfold eUn at hev
                   rw [if_pos rfl] at hev
                   first
                   | (rw [if_pos h122] at hev; exact hev)
                   | (rw [if_neg h122] at hev; exact hev))
                | (rw [nI_clamp (show t.length < 2 ^ 31 by omega)]
                   rw [eStep_u h54 (Or.inr h138)] at hev
                   refine ih (i + 1) _ _ (_ :: t) _ (by omega) rfl (by first | rfl | rw [List.length_cons]) (by simp only [List.length_cons]; omega) (fun a ha => by rw [ist_ne ha]; exact hW a ha) (by rw [ist_eq]; exact hS.2.push) ?_
                   rw [h138] at hev
                   unfold eUn at hev
                   rw [if_neg (by decide)] at hev
                   exact hev)
                | (rw [nI_clamp (show t.length < 2 ^ 31 by omega)]
                   rw [eStep_j h54 (fun q => by first | exact h99 q | exact absurd (less_of (m := 1) h104 (by omega) (by decide)) (by simp)) (fun q => by first | exact h138 q | exact absurd (less_of (m := 1) h143 (by omega) (by decide)) (by simp))] at hev
                   exact ih (i + 1) _ _ (_ :: t) _ (by omega) rfl (by first | rfl | rw [List.length_cons]) (by simp only [List.length_cons]; omega) (fun a ha => by rw [ist_ne ha]; exact hW a ha) (by rw [ist_eq]; exact hS.2.2.push) hev)
                | (have q1 := less_of (m := 2) h168 (by omega) (by decide)
                   rw [eStep_z h54 q1 (by first | exact Or.inl h99 | exact Or.inr (less_of (m := 1) h104 (by omega) (by decide))) (by first | exact Or.inl h138 | exact Or.inr (less_of (m := 1) h143 (by omega) (by decide)))] at hev
                   exact ih (i + 1) _ _ stk _ (by omega) rfl rfl (by omega) hW hS hev)
              · obtain ⟨b, a, t, rfl⟩ := two_of h168
                have hl2 : t.length + 1 + 1 ≤ i := hl
                have hb : W 97 (t.length + 1) = b := hS.1
                rw [List.length_cons, List.length_cons]
                refine BdQ.l (fun _ _ k => b_iinc (pc := 171) (i := 3) (v := _ + (-1)) (lv' := [(3, _), (5, _), (4, _), (2, _), (0, _), (1, _)]) (dd dtX4_value 98 rfl) rfl rfl (Nat.le_of_ble_eq_true rfl) rfl k) ?_
                rw [nI_dec]
                refine BdQ.l (fun _ _ k => b_aload_n (pc := 174) (i := 0) (dd dtX4_value 99 rfl) rfl rfl k) ?_
                refine BdQ.l (fun _ _ k => b_geta (pc := 175) (dd dtX4_value 100 rfl) fwX4_44 pC_66 rC_66_6 k) ?_
                refine BdQ.l (fun _ _ k => b_iload_n (pc := 178) (i := 3) (dd dtX4_value 101 rfl) rfl rfl k) ?_
                refine BdQ.l (fun _ _ k => b_ic1 (pc := 179) (dd dtX4_value 102 rfl) k) ?_
                refine BdQ.l (fun _ _ k => b_isub (pc := 180) (dd dtX4_value 103 rfl) k) ?_
                rw [nI_pred]
                refine BdQ.l (fun _ _ k => b_iload (pc := 181) (i := 5) (dd dtX4_value 104 rfl) rfl k) ?_
                refine BdQ.l (fun _ _ k => b_aload_n (pc := 183) (i := 0) (dd dtX4_value 105 rfl) rfl rfl k) ?_
                refine BdQ.l (fun _ _ k => b_geta (pc := 184) (dd dtX4_value 106 rfl) fwX4_44 pC_66 rC_66_6 k) ?_
                refine BdQ.l (fun _ _ k => b_iload_n (pc := 187) (i := 3) (dd dtX4_value 107 rfl) rfl rfl k) ?_
                refine BdQ.l (fun _ _ k => b_ic1 (pc := 188) (dd dtX4_value 108 rfl) k) ?_
                refine BdQ.l (fun _ _ k => b_isub (pc := 189) (dd dtX4_value 109 rfl) k) ?_
                rw [nI_pred]
                refine BdQ.l (fun _ _ k => b_iald (pc := 190) (dd dtX4_value 110 rfl) pC_97 (vpn rfl (show t.length < 160 by omega) (by decide)) k) ?_
                rw [nI_clamp (show t.length < 2 ^ 31 by omega), hS.2.1]
                refine BdQ.l (fun _ _ k => b_aload_n (pc := 191) (i := 0) (dd dtX4_value 111 rfl) rfl rfl k) ?_
                refine BdQ.l (fun _ _ k => b_geta (pc := 192) (dd dtX4_value 112 rfl) fwX4_44 pC_66 rC_66_6 k) ?_
                refine BdQ.l (fun _ _ k => b_iload_n (pc := 195) (i := 3) (dd dtX4_value 113 rfl) rfl rfl k) ?_
                refine BdQ.l (fun _ _ k => b_iald (pc := 196) (dd dtX4_value 114 rfl) pC_97 (vpn rfl (show t.length + 1 < 160 by omega) (by decide)) k) ?_
                rw [nI_clamp (show t.length + 1 < 2 ^ 31 by omega), hb]
                refine BdQ.l (fun _ _ k => b_invS (pc := 197) (dd dtX4_value 115 rfl) mlX4_112 mvX4_joined msX4_joined (c_X4_joined) rfl rfl (by decide) (Nat.le_of_ble_eq_true rfl) k) ?_
                refine BdQ.l (fun _ _ k => b_iast (pc := 200) (dd dtX4_value 116 rfl) pC_97 (vpn rfl (show t.length < 160 by omega) (by decide)) k) ?_
                refine BdQ.l (fun _ _ k => b_iinc1 (pc := 201) (i := 4) (lv' := [(4, _), (3, _), (5, _), (2, _), (0, _), (1, _)]) (dd dtX4_value 117 rfl) rfl (Nat.le_of_ble_eq_true rfl) rfl k) ?_
                refine BdQ.l (fun _ _ k => b_goto (pc := 204) (tgt := 30) (dd dtX4_value 118 rfl) (by decide) k) ?_
                refine BdQ.l (fun _ _ k => b_pick [0, 1, 3, 4, 5] (lv' := [(4, _), (3, _), (2, _), (0, _), (1, _)]) rfl k) ?_
                rw [nI_1]
                first
                | (rw [nI_clamp (show stk.length < 2 ^ 31 by omega), nI_1]
                   refine ih (i + 1) _ _ (_ :: stk) _ (by omega) rfl rfl (by simp only [List.length_cons]; omega) (fun a ha => by rw [ist_ne ha]; exact hW a ha) (by rw [ist_eq]; exact hS.push) ?_
                   rw [eStep_p h54] at hev
                   first
                   | (rw [if_pos h71] at hev; exact hev)
                   | (rw [if_neg h71] at hev; exact hev))
                | (rw [nI_clamp (show t.length < 2 ^ 31 by omega)]
                   rw [eStep_u h54 (Or.inl h99)] at hev
                   refine ih (i + 1) _ _ (_ :: t) _ (by omega) rfl (by first | rfl | rw [List.length_cons]) (by simp only [List.length_cons]; omega) (fun a ha => by rw [ist_ne ha]; exact hW a ha) (by rw [ist_eq]; exact hS.2.push) ?_
                   rw [h99] at hev
                   unfold eUn at hev
                   rw [if_pos rfl] at hev
                   first
                   | (rw [if_pos h122] at hev; exact hev)
                   | (rw [if_neg h122] at hev; exact hev))
                | (rw [nI_clamp (show t.length < 2 ^ 31 by omega)]
                   rw [eStep_u h54 (Or.inr h138)] at hev
                   refine ih (i + 1) _ _ (_ :: t) _ (by omega) rfl (by first | rfl | rw [List.length_cons]) (by simp only [List.length_cons]; omega) (fun a ha => by rw [ist_ne ha]; exact hW a ha) (by rw [ist_eq]; exact hS.2.push) ?_
                   rw [h138] at hev
                   unfold eUn at hev
                   rw [if_neg (by decide)] at hev
                   exact hev)
                | (rw [nI_clamp (show t.length < 2 ^ 31 by omega)]
                   rw [eStep_j h54 (fun q => by first | exact h99 q | exact absurd (less_of (m := 1) h104 (by omega) (by decide)) (by simp)) (fun q => by first | exact h138 q | exact absurd (less_of (m := 1) h143 (by omega) (by decide)) (by simp))] at hev
                   exact ih (i + 1) _ _ (_ :: t) _ (by omega) rfl (by first | rfl | rw [List.length_cons]) (by simp only [List.length_cons]; omega) (fun a ha => by rw [ist_ne ha]; exact hW a ha) (by rw [ist_eq]; exact hS.2.2.push) hev)
                | (have q1 := less_of (m := 2) h168 (by omega) (by decide)
                   rw [eStep_z h54 q1 (by first | exact Or.inl h99 | exact Or.inr (less_of (m := 1) h104 (by omega) (by decide))) (by first | exact Or.inl h138 | exact Or.inr (less_of (m := 1) h143 (by omega) (by decide)))] at hev
                   exact ih (i + 1) _ _ stk _ (by omega) rfl rfl (by omega) hW hS hev)
            · obtain ⟨a, t, rfl⟩ := one_of h143
              have hl2 : t.length + 1 ≤ i := hl
              rw [List.length_cons]
              refine BdQ.l (fun _ _ k => b_aload_n (pc := 146) (i := 0) (dd dtX4_value 81 rfl) rfl rfl k) ?_
              refine BdQ.l (fun _ _ k => b_geta (pc := 147) (dd dtX4_value 82 rfl) fwX4_44 pC_66 rC_66_6 k) ?_
              refine BdQ.l (fun _ _ k => b_iload_n (pc := 150) (i := 3) (dd dtX4_value 83 rfl) rfl rfl k) ?_
              refine BdQ.l (fun _ _ k => b_ic1 (pc := 151) (dd dtX4_value 84 rfl) k) ?_
              refine BdQ.l (fun _ _ k => b_isub (pc := 152) (dd dtX4_value 85 rfl) k) ?_
              rw [nI_pred]
              refine BdQ.l (fun _ _ k => b_aload_n (pc := 153) (i := 0) (dd dtX4_value 86 rfl) rfl rfl k) ?_
              refine BdQ.l (fun _ _ k => b_geta (pc := 154) (dd dtX4_value 87 rfl) fwX4_44 pC_66 rC_66_6 k) ?_
              refine BdQ.l (fun _ _ k => b_iload_n (pc := 157) (i := 3) (dd dtX4_value 88 rfl) rfl rfl k) ?_
              refine BdQ.l (fun _ _ k => b_ic1 (pc := 158) (dd dtX4_value 89 rfl) k) ?_
              refine BdQ.l (fun _ _ k => b_isub (pc := 159) (dd dtX4_value 90 rfl) k) ?_
              rw [nI_pred]
              refine BdQ.l (fun _ _ k => b_iald (pc := 160) (dd dtX4_value 91 rfl) pC_97 (vpn rfl (show t.length < 160 by omega) (by decide)) k) ?_
              rw [nI_clamp (show t.length < 2 ^ 31 by omega), hS.1]
              refine BdQ.l (fun _ _ k => b_ineg (pc := 161) (dd dtX4_value 92 rfl) k) ?_
              refine BdQ.l (fun _ _ k => b_iast (pc := 162) (dd dtX4_value 93 rfl) pC_97 (vpn rfl (show t.length < 160 by omega) (by decide)) k) ?_
              refine BdQ.l (fun _ _ k => b_goto (pc := 163) (tgt := 201) (dd dtX4_value 94 rfl) (by decide) k) ?_
              refine BdQ.l (fun _ _ k => b_iinc1 (pc := 201) (i := 4) (lv' := [(4, _), (5, _), (3, _), (2, _), (0, _), (1, _)]) (dd dtX4_value 117 rfl) rfl (Nat.le_of_ble_eq_true rfl) rfl k) ?_
              refine BdQ.l (fun _ _ k => b_goto (pc := 204) (tgt := 30) (dd dtX4_value 118 rfl) (by decide) k) ?_
              refine BdQ.l (fun _ _ k => b_pick [0, 2, 3, 4, 5] (lv' := [(4, _), (3, _), (2, _), (0, _), (1, _)]) rfl k) ?_
              rw [nI_1]
              first
              | (rw [nI_clamp (show stk.length < 2 ^ 31 by omega), nI_1]
                 refine ih (i + 1) _ _ (_ :: stk) _ (by omega) rfl rfl (by simp only [List.length_cons]; omega) (fun a ha => by rw [ist_ne ha]; exact hW a ha) (by rw [ist_eq]; exact hS.push) ?_
                 rw [eStep_p h54] at hev
                 first
                 | (rw [if_pos h71] at hev; exact hev)
                 | (rw [if_neg h71] at hev; exact hev))
              | (rw [nI_clamp (show t.length < 2 ^ 31 by omega)]
                 rw [eStep_u h54 (Or.inl h99)] at hev
                 refine ih (i + 1) _ _ (_ :: t) _ (by omega) rfl (by first | rfl | rw [List.length_cons]) (by simp only [List.length_cons]; omega) (fun a ha => by rw [ist_ne ha]; exact hW a ha) (by rw [ist_eq]; exact hS.2.push) ?_
                 rw [h99] at hev
                 unfold eUn at hev
                 rw [if_pos rfl] at hev
                 first
                 | (rw [if_pos h122] at hev; exact hev)
                 | (rw [if_neg h122] at hev; exact hev))
              | (rw [nI_clamp (show t.length < 2 ^ 31 by omega)]
                 rw [eStep_u h54 (Or.inr h138)] at hev
                 refine ih (i + 1) _ _ (_ :: t) _ (by omega) rfl (by first | rfl | rw [List.length_cons]) (by simp only [List.length_cons]; omega) (fun a ha => by rw [ist_ne ha]; exact hW a ha) (by rw [ist_eq]; exact hS.2.push) ?_
                 rw [h138] at hev
                 unfold eUn at hev
                 rw [if_neg (by decide)] at hev
                 exact hev)
              | (rw [nI_clamp (show t.length < 2 ^ 31 by omega)]
                 rw [eStep_j h54 (fun q => by first | exact h99 q | exact absurd (less_of (m := 1) h104 (by omega) (by decide)) (by simp)) (fun q => by first | exact h138 q | exact absurd (less_of (m := 1) h143 (by omega) (by decide)) (by simp))] at hev
                 exact ih (i + 1) _ _ (_ :: t) _ (by omega) rfl (by first | rfl | rw [List.length_cons]) (by simp only [List.length_cons]; omega) (fun a ha => by rw [ist_ne ha]; exact hW a ha) (by rw [ist_eq]; exact hS.2.2.push) hev)
              | (have q1 := less_of (m := 2) h168 (by omega) (by decide)
                 rw [eStep_z h54 q1 (by first | exact Or.inl h99 | exact Or.inr (less_of (m := 1) h104 (by omega) (by decide))) (by first | exact Or.inl h138 | exact Or.inr (less_of (m := 1) h143 (by omega) (by decide)))] at hev
                 exact ih (i + 1) _ _ stk _ (by omega) rfl rfl (by omega) hW hS hev)
        · refine BdQ.l (fun _ _ k => b_iload_n (pc := 102) (i := 3) (dd dtX4_value 55 rfl) rfl rfl k) ?_
          refine BdQ.l (fun _ _ k => b_ic1 (pc := 103) (dd dtX4_value 56 rfl) k) ?_
          refine BdQ.b (fun _ _ k1 k2 => b_icmp_lt (pc := 104) (tgt := 134) (dd dtX4_value 57 rfl) (by decide) k1 k2) (fun h104 => ?_) (fun h104 => ?_)
          · refine BdQ.l (fun _ _ k => b_iload (pc := 134) (i := 5) (dd dtX4_value 75 rfl) rfl k) ?_
            refine BdQ.l (fun _ _ k => b_bipush (pc := 136) (v := -19) (dd dtX4_value 76 rfl) (by decide) k) ?_
            refine BdQ.c (fun _ _ k1 k2 => b_icmp_ne (pc := 138) (tgt := 166) (dd dtX4_value 77 rfl) (by decide) k1 k2) (fun h138 => ?_) (fun h138 => ?_)
            · refine BdQ.l (fun _ _ k => b_iload_n (pc := 166) (i := 3) (dd dtX4_value 95 rfl) rfl rfl k) ?_
              refine BdQ.l (fun _ _ k => b_ic2 (pc := 167) (dd dtX4_value 96 rfl) k) ?_
              refine BdQ.b (fun _ _ k1 k2 => b_icmp_lt (pc := 168) (tgt := 201) (dd dtX4_value 97 rfl) (by decide) k1 k2) (fun h168 => ?_) (fun h168 => ?_)
              · refine BdQ.l (fun _ _ k => b_iinc1 (pc := 201) (i := 4) (lv' := [(4, _), (5, _), (3, _), (2, _), (0, _), (1, _)]) (dd dtX4_value 117 rfl) rfl (Nat.le_of_ble_eq_true rfl) rfl k) ?_
                refine BdQ.l (fun _ _ k => b_goto (pc := 204) (tgt := 30) (dd dtX4_value 118 rfl) (by decide) k) ?_
                refine BdQ.l (fun _ _ k => b_pick [0, 2, 3, 4, 5] (lv' := [(4, _), (3, _), (2, _), (0, _), (1, _)]) rfl k) ?_
                rw [nI_1]
                first
                | (rw [nI_clamp (show stk.length < 2 ^ 31 by omega), nI_1]
                   refine ih (i + 1) _ _ (_ :: stk) _ (by omega) rfl rfl (by simp only [List.length_cons]; omega) (fun a ha => by rw [ist_ne ha]; exact hW a ha) (by rw [ist_eq]; exact hS.push) ?_
                   rw [eStep_p h54] at hev
                   first
                   | (rw [if_pos h71] at hev; exact hev)
                   | (rw [if_neg h71] at hev; exact hev))
                | (rw [nI_clamp (show t.length < 2 ^ 31 by omega)]
                   rw [eStep_u h54 (Or.inl h99)] at hev
                   refine ih (i + 1) _ _ (_ :: t) _ (by omega) rfl (by first | rfl | rw [List.length_cons]) (by simp only [List.length_cons]; omega) (fun a ha => by rw [ist_ne ha]; exact hW a ha) (by rw [ist_eq]; exact hS.2.push) ?_
                   rw [h99] at hev
                   unfold eUn at hev
                   rw [if_pos rfl] at hev
                   first
                   | (rw [if_pos h122] at hev; exact hev)
                   | (rw [if_neg h122] at hev; exact hev))
                | (rw [nI_clamp (show t.length < 2 ^ 31 by omega)]
                   rw [eStep_u h54 (Or.inr h138)] at hev
                   refine ih (i + 1) _ _ (_ :: t) _ (by omega) rfl (by first | rfl | rw [List.length_cons]) (by simp only [List.length_cons]; omega) (fun a ha => by rw [ist_ne ha]; exact hW a ha) (by rw [ist_eq]; exact hS.2.push) ?_
                   rw [h138] at hev
                   unfold eUn at hev
                   rw [if_neg (by decide)] at hev
                   exact hev)
                | (rw [nI_clamp (show t.length < 2 ^ 31 by omega)]
                   rw [eStep_j h54 (fun q => by first | exact h99 q | exact absurd (less_of (m := 1) h104 (by omega) (by decide)) (by simp)) (fun q => by first | exact h138 q | exact absurd (less_of (m := 1) h143 (by omega) (by decide)) (by simp))] at hev
                   exact ih (i + 1) _ _ (_ :: t) _ (by omega) rfl (by first | rfl | rw [List.length_cons]) (by simp only [List.length_cons]; omega) (fun a ha => by rw [ist_ne ha]; exact hW a ha) (by rw [ist_eq]; exact hS.2.2.push) hev)
                | (have q1 := less_of (m := 2) h168 (by omega) (by decide)
                   rw [eStep_z h54 q1 (by first | exact Or.inl h99 | exact Or.inr (less_of (m := 1) h104 (by omega) (by decide))) (by first | exact Or.inl h138 | exact Or.inr (less_of (m := 1) h143 (by omega) (by decide)))] at hev
                   exact ih (i + 1) _ _ stk _ (by omega) rfl rfl (by omega) hW hS hev)
              · obtain ⟨b, a, t, rfl⟩ := two_of h168
                have hl2 : t.length + 1 + 1 ≤ i := hl
                have hb : W 97 (t.length + 1) = b := hS.1
                rw [List.length_cons, List.length_cons]
                refine BdQ.l (fun _ _ k => b_iinc (pc := 171) (i := 3) (v := _ + (-1)) (lv' := [(3, _), (5, _), (4, _), (2, _), (0, _), (1, _)]) (dd dtX4_value 98 rfl) rfl rfl (Nat.le_of_ble_eq_true rfl) rfl k) ?_
                rw [nI_dec]
                refine BdQ.l (fun _ _ k => b_aload_n (pc := 174) (i := 0) (dd dtX4_value 99 rfl) rfl rfl k) ?_
                refine BdQ.l (fun _ _ k => b_geta (pc := 175) (dd dtX4_value 100 rfl) fwX4_44 pC_66 rC_66_6 k) ?_
                refine BdQ.l (fun _ _ k => b_iload_n (pc := 178) (i := 3) (dd dtX4_value 101 rfl) rfl rfl k) ?_
                refine BdQ.l (fun _ _ k => b_ic1 (pc := 179) (dd dtX4_value 102 rfl) k) ?_
                refine BdQ.l (fun _ _ k => b_isub (pc := 180) (dd dtX4_value 103 rfl) k) ?_
                rw [nI_pred]
                refine BdQ.l (fun _ _ k => b_iload (pc := 181) (i := 5) (dd dtX4_value 104 rfl) rfl k) ?_
                refine BdQ.l (fun _ _ k => b_aload_n (pc := 183) (i := 0) (dd dtX4_value 105 rfl) rfl rfl k) ?_
                refine BdQ.l (fun _ _ k => b_geta (pc := 184) (dd dtX4_value 106 rfl) fwX4_44 pC_66 rC_66_6 k) ?_
                refine BdQ.l (fun _ _ k => b_iload_n (pc := 187) (i := 3) (dd dtX4_value 107 rfl) rfl rfl k) ?_
                refine BdQ.l (fun _ _ k => b_ic1 (pc := 188) (dd dtX4_value 108 rfl) k) ?_
                refine BdQ.l (fun _ _ k => b_isub (pc := 189) (dd dtX4_value 109 rfl) k) ?_
                rw [nI_pred]
                refine BdQ.l (fun _ _ k => b_iald (pc := 190) (dd dtX4_value 110 rfl) pC_97 (vpn rfl (show t.length < 160 by omega) (by decide)) k) ?_
                rw [nI_clamp (show t.length < 2 ^ 31 by omega), hS.2.1]
                refine BdQ.l (fun _ _ k => b_aload_n (pc := 191) (i := 0) (dd dtX4_value 111 rfl) rfl rfl k) ?_
                refine BdQ.l (fun _ _ k => b_geta (pc := 192) (dd dtX4_value 112 rfl) fwX4_44 pC_66 rC_66_6 k) ?_
                refine BdQ.l (fun _ _ k => b_iload_n (pc := 195) (i := 3) (dd dtX4_value 113 rfl) rfl rfl k) ?_
                refine BdQ.l (fun _ _ k => b_iald (pc := 196) (dd dtX4_value 114 rfl) pC_97 (vpn rfl (show t.length + 1 < 160 by omega) (by decide)) k) ?_
                rw [nI_clamp (show t.length + 1 < 2 ^ 31 by omega), hb]
                refine BdQ.l (fun _ _ k => b_invS (pc := 197) (dd dtX4_value 115 rfl) mlX4_112 mvX4_joined msX4_joined (c_X4_joined) rfl rfl (by decide) (Nat.le_of_ble_eq_true rfl) k) ?_
                refine BdQ.l (fun _ _ k => b_iast (pc := 200) (dd dtX4_value 116 rfl) pC_97 (vpn rfl (show t.length < 160 by omega) (by decide)) k) ?_
                refine BdQ.l (fun _ _ k => b_iinc1 (pc := 201) (i := 4) (lv' := [(4, _), (3, _), (5, _), (2, _), (0, _), (1, _)]) (dd dtX4_value 117 rfl) rfl (Nat.le_of_ble_eq_true rfl) rfl k) ?_
                refine BdQ.l (fun _ _ k => b_goto (pc := 204) (tgt := 30) (dd dtX4_value 118 rfl) (by decide) k) ?_
                refine BdQ.l (fun _ _ k => b_pick [0, 1, 3, 4, 5] (lv' := [(4, _), (3, _), (2, _), (0, _), (1, _)]) rfl k) ?_
                rw [nI_1]
                first
                | (rw [nI_clamp (show stk.length < 2 ^ 31 by omega), nI_1]
                   refine ih (i + 1) _ _ (_ :: stk) _ (by omega) rfl rfl (by simp only [List.length_cons]; omega) (fun a ha => by rw [ist_ne ha]; exact hW a ha) (by rw [ist_eq]; exact hS.push) ?_
                   rw [eStep_p h54] at hev
                   first
                   | (rw [if_pos h71] at hev; exact hev)
                   | (rw [if_neg h71] at hev; exact hev))
                | (rw [nI_clamp (show t.length < 2 ^ 31 by omega)]
                   rw [eStep_u h54 (Or.inl h99)] at hev
                   refine ih (i + 1) _ _ (_ :: t) _ (by omega) rfl (by first | rfl | rw [List.length_cons]) (by simp only [List.length_cons]; omega) (fun a ha => by rw [ist_ne ha]; exact hW a ha) (by rw [ist_eq]; exact hS.2.push) ?_
                   rw [h99] at hev
                   unfold eUn at hev
                   rw [if_pos rfl] at hev
                   first
                   | (rw [if_pos h122] at hev; exact hev)
                   | (rw [if_neg h122] at hev; exact hev))
                | (rw [nI_clamp (show t.length < 2 ^ 31 by omega)]
                   rw [eStep_u h54 (Or.inr h138)] at hev
                   refine ih (i + 1) _ _ (_ :: t) _ (by omega) rfl (by first | rfl | rw [List.length_cons]) (by simp only [List.length_cons]; omega) (fun a ha => by rw [ist_ne ha]; exact hW a ha) (by rw [ist_eq]; exact hS.2.push) ?_
                   rw [h138] at hev
                   unfold eUn at hev
                   rw [if_neg (by decide)] at hev
                   exact hev)
                | (rw [nI_clamp (show t.length < 2 ^ 31 by omega)]
                   rw [eStep_j h54 (fun q => by first | exact h99 q | exact absurd (less_of (m := 1) h104 (by omega) (by decide)) (by simp)) (fun q => by first | exact h138 q | exact absurd (less_of (m := 1) h143 (by omega) (by decide)) (by simp))] at hev
                   exact ih (i + 1) _ _ (_ :: t) _ (by omega) rfl (by first | rfl | rw [List.length_cons]) (by simp only [List.length_cons]; omega) (fun a ha => by rw [ist_ne ha]; exact hW a ha) (by rw [ist_eq]; exact hS.2.2.push) hev)
                | (have q1 := less_of (m := 2) h168 (by omega) (by decide)
                   rw [eStep_z h54 q1 (by first | exact Or.inl h99 | exact Or.inr (less_of (m := 1) h104 (by omega) (by decide))) (by first | exact Or.inl h138 | exact Or.inr (less_of (m := 1) h143 (by omega) (by decide)))] at hev
                   exact ih (i + 1) _ _ stk _ (by omega) rfl rfl (by omega) hW hS hev)
            · refine BdQ.l (fun _ _ k => b_iload_n (pc := 141) (i := 3) (dd dtX4_value 78 rfl) rfl rfl k) ?_
              refine BdQ.l (fun _ _ k => b_ic1 (pc := 142) (dd dtX4_value 79 rfl) k) ?_
              refine BdQ.b (fun _ _ k1 k2 => b_icmp_lt (pc := 143) (tgt := 166) (dd dtX4_value 80 rfl) (by decide) k1 k2) (fun h143 => ?_) (fun h143 => ?_)
              · refine BdQ.l (fun _ _ k => b_iload_n (pc := 166) (i := 3) (dd dtX4_value 95 rfl) rfl rfl k) ?_
                refine BdQ.l (fun _ _ k => b_ic2 (pc := 167) (dd dtX4_value 96 rfl) k) ?_
                refine BdQ.b (fun _ _ k1 k2 => b_icmp_lt (pc := 168) (tgt := 201) (dd dtX4_value 97 rfl) (by decide) k1 k2) (fun h168 => ?_) (fun h168 => ?_)
                · refine BdQ.l (fun _ _ k => b_iinc1 (pc := 201) (i := 4) (lv' := [(4, _), (5, _), (3, _), (2, _), (0, _), (1, _)]) (dd dtX4_value 117 rfl) rfl (Nat.le_of_ble_eq_true rfl) rfl k) ?_
                  refine BdQ.l (fun _ _ k => b_goto (pc := 204) (tgt := 30) (dd dtX4_value 118 rfl) (by decide) k) ?_
                  refine BdQ.l (fun _ _ k => b_pick [0, 2, 3, 4, 5] (lv' := [(4, _), (3, _), (2, _), (0, _), (1, _)]) rfl k) ?_
                  rw [nI_1]
                  first
                  | (rw [nI_clamp (show stk.length < 2 ^ 31 by omega), nI_1]
                     refine ih (i + 1) _ _ (_ :: stk) _ (by omega) rfl rfl (by simp only [List.length_cons]; omega) (fun a ha => by rw [ist_ne ha]; exact hW a ha) (by rw [ist_eq]; exact hS.push) ?_
                     rw [eStep_p h54] at hev
                     first
                     | (rw [if_pos h71] at hev; exact hev)
                     | (rw [if_neg h71] at hev; exact hev))
                  | (rw [nI_clamp (show t.length < 2 ^ 31 by omega)]
                     rw [eStep_u h54 (Or.inl h99)] at hev
                     refine ih (i + 1) _ _ (_ :: t) _ (by omega) rfl (by first | rfl | rw [List.length_cons]) (by simp only [List.length_cons]; omega) (fun a ha => by rw [ist_ne ha]; exact hW a ha) (by rw [ist_eq]; exact hS.2.push) ?_
                     rw [h99] at hev
                     unfold eUn at hev
                     rw [if_pos rfl] at hev
                     first
                     | (rw [if_pos h122] at hev; exact hev)
                     | (rw [if_neg h122] at hev; exact hev))
                  | (rw [nI_clamp (show t.length < 2 ^ 31 by omega)]
                     rw [eStep_u h54 (Or.inr h138)] at hev
                     refine ih (i + 1) _ _ (_ :: t) _ (by omega) rfl (by first | rfl | rw [List.length_cons]) (by simp only [List.length_cons]; omega) (fun a ha => by rw [ist_ne ha]; exact hW a ha) (by rw [ist_eq]; exact hS.2.push) ?_
                     rw [h138] at hev
                     unfold eUn at hev
                     rw [if_neg (by decide)] at hev
                     exact hev)
                  | (rw [nI_clamp (show t.length < 2 ^ 31 by omega)]
                     rw [eStep_j h54 (fun q => by first | exact h99 q | exact absurd (less_of (m := 1) h104 (by omega) (by decide)) (by simp)) (fun q => by first | exact h138 q | exact absurd (less_of (m := 1) h143 (by omega) (by decide)) (by simp))] at hev
                     exact ih (i + 1) _ _ (_ :: t) _ (by omega) rfl (by first | rfl | rw [List.length_cons]) (by simp only [List.length_cons]; omega) (fun a ha => by rw [ist_ne ha]; exact hW a ha) (by rw [ist_eq]; exact hS.2.2.push) hev)
                  | (have q1 := less_of (m := 2) h168 (by omega) (by decide)
                     rw [eStep_z h54 q1 (by first | exact Or.inl h99 | exact Or.inr (less_of (m := 1) h104 (by omega) (by decide))) (by first | exact Or.inl h138 | exact Or.inr (less_of (m := 1) h143 (by omega) (by decide)))] at hev
                     exact ih (i + 1) _ _ stk _ (by omega) rfl rfl (by omega) hW hS hev)
                · obtain ⟨b, a, t, rfl⟩ := two_of h168
                  have hl2 : t.length + 1 + 1 ≤ i := hl
                  have hb : W 97 (t.length + 1) = b := hS.1
                  rw [List.length_cons, List.length_cons]
                  refine BdQ.l (fun _ _ k => b_iinc (pc := 171) (i := 3) (v := _ + (-1)) (lv' := [(3, _), (5, _), (4, _), (2, _), (0, _), (1, _)]) (dd dtX4_value 98 rfl) rfl rfl (Nat.le_of_ble_eq_true rfl) rfl k) ?_
                  rw [nI_dec]
                  refine BdQ.l (fun _ _ k => b_aload_n (pc := 174) (i := 0) (dd dtX4_value 99 rfl) rfl rfl k) ?_
                  refine BdQ.l (fun _ _ k => b_geta (pc := 175) (dd dtX4_value 100 rfl) fwX4_44 pC_66 rC_66_6 k) ?_
                  refine BdQ.l (fun _ _ k => b_iload_n (pc := 178) (i := 3) (dd dtX4_value 101 rfl) rfl rfl k) ?_
                  refine BdQ.l (fun _ _ k => b_ic1 (pc := 179) (dd dtX4_value 102 rfl) k) ?_
                  refine BdQ.l (fun _ _ k => b_isub (pc := 180) (dd dtX4_value 103 rfl) k) ?_
                  rw [nI_pred]
                  refine BdQ.l (fun _ _ k => b_iload (pc := 181) (i := 5) (dd dtX4_value 104 rfl) rfl k) ?_
                  refine BdQ.l (fun _ _ k => b_aload_n (pc := 183) (i := 0) (dd dtX4_value 105 rfl) rfl rfl k) ?_
                  refine BdQ.l (fun _ _ k => b_geta (pc := 184) (dd dtX4_value 106 rfl) fwX4_44 pC_66 rC_66_6 k) ?_
                  refine BdQ.l (fun _ _ k => b_iload_n (pc := 187) (i := 3) (dd dtX4_value 107 rfl) rfl rfl k) ?_
                  refine BdQ.l (fun _ _ k => b_ic1 (pc := 188) (dd dtX4_value 108 rfl) k) ?_
                  refine BdQ.l (fun _ _ k => b_isub (pc := 189) (dd dtX4_value 109 rfl) k) ?_
                  rw [nI_pred]
                  refine BdQ.l (fun _ _ k => b_iald (pc := 190) (dd dtX4_value 110 rfl) pC_97 (vpn rfl (show t.length < 160 by omega) (by decide)) k) ?_
                  rw [nI_clamp (show t.length < 2 ^ 31 by omega), hS.2.1]
                  refine BdQ.l (fun _ _ k => b_aload_n (pc := 191) (i := 0) (dd dtX4_value 111 rfl) rfl rfl k) ?_
                  refine BdQ.l (fun _ _ k => b_geta (pc := 192) (dd dtX4_value 112 rfl) fwX4_44 pC_66 rC_66_6 k) ?_
                  refine BdQ.l (fun _ _ k => b_iload_n (pc := 195) (i := 3) (dd dtX4_value 113 rfl) rfl rfl k) ?_
                  refine BdQ.l (fun _ _ k => b_iald (pc := 196) (dd dtX4_value 114 rfl) pC_97 (vpn rfl (show t.length + 1 < 160 by omega) (by decide)) k) ?_
                  rw [nI_clamp (show t.length + 1 < 2 ^ 31 by omega), hb]
                  refine BdQ.l (fun _ _ k => b_invS (pc := 197) (dd dtX4_value 115 rfl) mlX4_112 mvX4_joined msX4_joined (c_X4_joined) rfl rfl (by decide) (Nat.le_of_ble_eq_true rfl) k) ?_
                  refine BdQ.l (fun _ _ k => b_iast (pc := 200) (dd dtX4_value 116 rfl) pC_97 (vpn rfl (show t.length < 160 by omega) (by decide)) k) ?_
                  refine BdQ.l (fun _ _ k => b_iinc1 (pc := 201) (i := 4) (lv' := [(4, _), (3, _), (5, _), (2, _), (0, _), (1, _)]) (dd dtX4_value 117 rfl) rfl (Nat.le_of_ble_eq_true rfl) rfl k) ?_
                  refine BdQ.l (fun _ _ k => b_goto (pc := 204) (tgt := 30) (dd dtX4_value 118 rfl) (by decide) k) ?_
                  refine BdQ.l (fun _ _ k => b_pick [0, 1, 3, 4, 5] (lv' := [(4, _), (3, _), (2, _), (0, _), (1, _)]) rfl k) ?_
                  rw [nI_1]
                  first
                  | (rw [nI_clamp (show stk.length < 2 ^ 31 by omega), nI_1]
                     refine ih (i + 1) _ _ (_ :: stk) _ (by omega) rfl rfl (by simp only [List.length_cons]; omega) (fun a ha => by rw [ist_ne ha]; exact hW a ha) (by rw [ist_eq]; exact hS.push) ?_
                     rw [eStep_p h54] at hev
                     first
                     | (rw [if_pos h71] at hev; exact hev)
                     | (rw [if_neg h71] at hev; exact hev))
                  | (rw [nI_clamp (show t.length < 2 ^ 31 by omega)]
                     rw [eStep_u h54 (Or.inl h99)] at hev
                     refine ih (i + 1) _ _ (_ :: t) _ (by omega) rfl (by first | rfl | rw [List.length_cons]) (by simp only [List.length_cons]; omega) (fun a ha => by rw [ist_ne ha]; exact hW a ha) (by rw [ist_eq]; exact hS.2.push) ?_
                     rw [h99] at hev
                     unfold eUn at hev
                     rw [if_pos rfl] at hev
                     first
                     | (rw [if_pos h122] at hev; exact hev)
                     | (rw [if_neg h122] at hev; exact hev))
                  | (rw [nI_clamp (show t.length < 2 ^ 31 by omega)]
                     rw [eStep_u h54 (Or.inr h138)] at hev
                     refine ih (i + 1) _ _ (_ :: t) _ (by omega) rfl (by first | rfl | rw [List.length_cons]) (by simp only [List.length_cons]; omega) (fun a ha => by rw [ist_ne ha]; exact hW a ha) (by rw [ist_eq]; exact hS.2.push) ?_
                     rw [h138] at hev
                     unfold eUn at hev
                     rw [if_neg (by decide)] at hev
                     exact hev)
                  | (rw [nI_clamp (show t.length < 2 ^ 31 by omega)]
                     rw [eStep_j h54 (fun q => by first | exact h99 q | exact absurd (less_of (m := 1) h104 (by omega) (by decide)) (by simp)) (fun q => by first | exact h138 q | exact absurd (less_of (m := 1) h143 (by omega) (by decide)) (by simp))] at hev
                     exact ih (i + 1) _ _ (_ :: t) _ (by omega) rfl (by first | rfl | rw [List.length_cons]) (by simp only [List.length_cons]; omega) (fun a ha => by rw [ist_ne ha]; exact hW a ha) (by rw [ist_eq]; exact hS.2.2.push) hev)
                  | (have q1 := less_of (m := 2) h168 (by omega) (by decide)
                     rw [eStep_z h54 q1 (by first | exact Or.inl h99 | exact Or.inr (less_of (m := 1) h104 (by omega) (by decide))) (by first | exact Or.inl h138 | exact Or.inr (less_of (m := 1) h143 (by omega) (by decide)))] at hev
                     exact ih (i + 1) _ _ stk _ (by omega) rfl rfl (by omega) hW hS hev)
              · obtain ⟨a, t, rfl⟩ := one_of h143
                have hl2 : t.length + 1 ≤ i := hl
                rw [List.length_cons]
                refine BdQ.l (fun _ _ k => b_aload_n (pc := 146) (i := 0) (dd dtX4_value 81 rfl) rfl rfl k) ?_
                refine BdQ.l (fun _ _ k => b_geta (pc := 147) (dd dtX4_value 82 rfl) fwX4_44 pC_66 rC_66_6 k) ?_
                refine BdQ.l (fun _ _ k => b_iload_n (pc := 150) (i := 3) (dd dtX4_value 83 rfl) rfl rfl k) ?_
                refine BdQ.l (fun _ _ k => b_ic1 (pc := 151) (dd dtX4_value 84 rfl) k) ?_
                refine BdQ.l (fun _ _ k => b_isub (pc := 152) (dd dtX4_value 85 rfl) k) ?_
                rw [nI_pred]
                refine BdQ.l (fun _ _ k => b_aload_n (pc := 153) (i := 0) (dd dtX4_value 86 rfl) rfl rfl k) ?_
                refine BdQ.l (fun _ _ k => b_geta (pc := 154) (dd dtX4_value 87 rfl) fwX4_44 pC_66 rC_66_6 k) ?_
                refine BdQ.l (fun _ _ k => b_iload_n (pc := 157) (i := 3) (dd dtX4_value 88 rfl) rfl rfl k) ?_
                refine BdQ.l (fun _ _ k => b_ic1 (pc := 158) (dd dtX4_value 89 rfl) k) ?_
                refine BdQ.l (fun _ _ k => b_isub (pc := 159) (dd dtX4_value 90 rfl) k) ?_
                rw [nI_pred]
                refine BdQ.l (fun _ _ k => b_iald (pc := 160) (dd dtX4_value 91 rfl) pC_97 (vpn rfl (show t.length < 160 by omega) (by decide)) k) ?_
                rw [nI_clamp (show t.length < 2 ^ 31 by omega), hS.1]
                refine BdQ.l (fun _ _ k => b_ineg (pc := 161) (dd dtX4_value 92 rfl) k) ?_
                refine BdQ.l (fun _ _ k => b_iast (pc := 162) (dd dtX4_value 93 rfl) pC_97 (vpn rfl (show t.length < 160 by omega) (by decide)) k) ?_
                refine BdQ.l (fun _ _ k => b_goto (pc := 163) (tgt := 201) (dd dtX4_value 94 rfl) (by decide) k) ?_
                refine BdQ.l (fun _ _ k => b_iinc1 (pc := 201) (i := 4) (lv' := [(4, _), (5, _), (3, _), (2, _), (0, _), (1, _)]) (dd dtX4_value 117 rfl) rfl (Nat.le_of_ble_eq_true rfl) rfl k) ?_
                refine BdQ.l (fun _ _ k => b_goto (pc := 204) (tgt := 30) (dd dtX4_value 118 rfl) (by decide) k) ?_
                refine BdQ.l (fun _ _ k => b_pick [0, 2, 3, 4, 5] (lv' := [(4, _), (3, _), (2, _), (0, _), (1, _)]) rfl k) ?_
                rw [nI_1]
                first
                | (rw [nI_clamp (show stk.length < 2 ^ 31 by omega), nI_1]
                   refine ih (i + 1) _ _ (_ :: stk) _ (by omega) rfl rfl (by simp only [List.length_cons]; omega) (fun a ha => by rw [ist_ne ha]; exact hW a ha) (by rw [ist_eq]; exact hS.push) ?_
                   rw [eStep_p h54] at hev
                   first
                   | (rw [if_pos h71] at hev; exact hev)
                   | (rw [if_neg h71] at hev; exact hev))
                | (rw [nI_clamp (show t.length < 2 ^ 31 by omega)]
                   rw [eStep_u h54 (Or.inl h99)] at hev
                   refine ih (i + 1) _ _ (_ :: t) _ (by omega) rfl (by first | rfl | rw [List.length_cons]) (by simp only [List.length_cons]; omega) (fun a ha => by rw [ist_ne ha]; exact hW a ha) (by rw [ist_eq]; exact hS.2.push) ?_
                   rw [h99] at hev
                   unfold eUn at hev
                   rw [if_pos rfl] at hev
                   first
                   | (rw [if_pos h122] at hev; exact hev)
                   | (rw [if_neg h122] at hev; exact hev))
                | (rw [nI_clamp (show t.length < 2 ^ 31 by omega)]
                   rw [eStep_u h54 (Or.inr h138)] at hev
                   refine ih (i + 1) _ _ (_ :: t) _ (by omega) rfl (by first | rfl | rw [List.length_cons]) (by simp only [List.length_cons]; omega) (fun a ha => by rw [ist_ne ha]; exact hW a ha) (by rw [ist_eq]; exact hS.2.push) ?_
                   rw [h138] at hev
                   unfold eUn at hev
                   rw [if_neg (by decide)] at hev
                   exact hev)
                | (rw [nI_clamp (show t.length < 2 ^ 31 by omega)]
                   rw [eStep_j h54 (fun q => by first | exact h99 q | exact absurd (less_of (m := 1) h104 (by omega) (by decide)) (by simp)) (fun q => by first | exact h138 q | exact absurd (less_of (m := 1) h143 (by omega) (by decide)) (by simp))] at hev
                   exact ih (i + 1) _ _ (_ :: t) _ (by omega) rfl (by first | rfl | rw [List.length_cons]) (by simp only [List.length_cons]; omega) (fun a ha => by rw [ist_ne ha]; exact hW a ha) (by rw [ist_eq]; exact hS.2.2.push) hev)
                | (have q1 := less_of (m := 2) h168 (by omega) (by decide)
                   rw [eStep_z h54 q1 (by first | exact Or.inl h99 | exact Or.inr (less_of (m := 1) h104 (by omega) (by decide))) (by first | exact Or.inl h138 | exact Or.inr (less_of (m := 1) h143 (by omega) (by decide)))] at hev
                   exact ih (i + 1) _ _ stk _ (by omega) rfl rfl (by omega) hW hS hev)
          · obtain ⟨a, t, rfl⟩ := one_of h104
            have hl2 : t.length + 1 ≤ i := hl
            rw [List.length_cons]
            refine BdQ.l (fun _ _ k => b_aload_n (pc := 107) (i := 0) (dd dtX4_value 58 rfl) rfl rfl k) ?_
            refine BdQ.l (fun _ _ k => b_geta (pc := 108) (dd dtX4_value 59 rfl) fwX4_44 pC_66 rC_66_6 k) ?_
            refine BdQ.l (fun _ _ k => b_iload_n (pc := 111) (i := 3) (dd dtX4_value 60 rfl) rfl rfl k) ?_
            refine BdQ.l (fun _ _ k => b_ic1 (pc := 112) (dd dtX4_value 61 rfl) k) ?_
            refine BdQ.l (fun _ _ k => b_isub (pc := 113) (dd dtX4_value 62 rfl) k) ?_
            rw [nI_pred]
            refine BdQ.l (fun _ _ k => b_aload_n (pc := 114) (i := 0) (dd dtX4_value 63 rfl) rfl rfl k) ?_
            refine BdQ.l (fun _ _ k => b_geta (pc := 115) (dd dtX4_value 64 rfl) fwX4_44 pC_66 rC_66_6 k) ?_
            refine BdQ.l (fun _ _ k => b_iload_n (pc := 118) (i := 3) (dd dtX4_value 65 rfl) rfl rfl k) ?_
            refine BdQ.l (fun _ _ k => b_ic1 (pc := 119) (dd dtX4_value 66 rfl) k) ?_
            refine BdQ.l (fun _ _ k => b_isub (pc := 120) (dd dtX4_value 67 rfl) k) ?_
            rw [nI_pred]
            refine BdQ.l (fun _ _ k => b_iald (pc := 121) (dd dtX4_value 68 rfl) pC_97 (vpn rfl (show t.length < 160 by omega) (by decide)) k) ?_
            rw [nI_clamp (show t.length < 2 ^ 31 by omega), hS.1]
            refine BdQ.c (fun _ _ k1 k2 => b_if_ne (pc := 122) (tgt := 129) (dd dtX4_value 69 rfl) (by decide) k1 k2) (fun h122 => ?_) (fun h122 => ?_)
            · refine BdQ.l (fun _ _ k => b_ic0 (pc := 129) (dd dtX4_value 72 rfl) k) ?_
              refine BdQ.l (fun _ _ k => b_iast (pc := 130) (dd dtX4_value 73 rfl) pC_97 (vpn rfl (show t.length < 160 by omega) (by decide)) k) ?_
              refine BdQ.l (fun _ _ k => b_goto (pc := 131) (tgt := 201) (dd dtX4_value 74 rfl) (by decide) k) ?_
              refine BdQ.l (fun _ _ k => b_iinc1 (pc := 201) (i := 4) (lv' := [(4, _), (5, _), (3, _), (2, _), (0, _), (1, _)]) (dd dtX4_value 117 rfl) rfl (Nat.le_of_ble_eq_true rfl) rfl k) ?_
              refine BdQ.l (fun _ _ k => b_goto (pc := 204) (tgt := 30) (dd dtX4_value 118 rfl) (by decide) k) ?_
              refine BdQ.l (fun _ _ k => b_pick [0, 2, 3, 4, 5] (lv' := [(4, _), (3, _), (2, _), (0, _), (1, _)]) rfl k) ?_
              rw [nI_1]
              first
              | (rw [nI_clamp (show stk.length < 2 ^ 31 by omega), nI_1]
                 refine ih (i + 1) _ _ (_ :: stk) _ (by omega) rfl rfl (by simp only [List.length_cons]; omega) (fun a ha => by rw [ist_ne ha]; exact hW a ha) (by rw [ist_eq]; exact hS.push) ?_
                 rw [eStep_p h54] at hev
                 first
                 | (rw [if_pos h71] at hev; exact hev)
                 | (rw [if_neg h71] at hev; exact hev))
              | (rw [nI_clamp (show t.length < 2 ^ 31 by omega)]
                 rw [eStep_u h54 (Or.inl h99)] at hev
                 refine ih (i + 1) _ _ (_ :: t) _ (by omega) rfl (by first | rfl | rw [List.length_cons]) (by simp only [List.length_cons]; omega) (fun a ha => by rw [ist_ne ha]; exact hW a ha) (by rw [ist_eq]; exact hS.2.push) ?_
                 rw [h99] at hev
                 unfold eUn at hev
                 rw [if_pos rfl] at hev
                 first
                 | (rw [if_pos h122] at hev; exact hev)
                 | (rw [if_neg h122] at hev; exact hev))
              | (rw [nI_clamp (show t.length < 2 ^ 31 by omega)]
                 rw [eStep_u h54 (Or.inr h138)] at hev
                 refine ih (i + 1) _ _ (_ :: t) _ (by omega) rfl (by first | rfl | rw [List.length_cons]) (by simp only [List.length_cons]; omega) (fun a ha => by rw [ist_ne ha]; exact hW a ha) (by rw [ist_eq]; exact hS.2.push) ?_
                 rw [h138] at hev
                 unfold eUn at hev
                 rw [if_neg (by decide)] at hev
                 exact hev)
              | (rw [nI_clamp (show t.length < 2 ^ 31 by omega)]
                 rw [eStep_j h54 (fun q => by first | exact h99 q | exact absurd (less_of (m := 1) h104 (by omega) (by decide)) (by simp)) (fun q => by first | exact h138 q | exact absurd (less_of (m := 1) h143 (by omega) (by decide)) (by simp))] at hev
                 exact ih (i + 1) _ _ (_ :: t) _ (by omega) rfl (by first | rfl | rw [List.length_cons]) (by simp only [List.length_cons]; omega) (fun a ha => by rw [ist_ne ha]; exact hW a ha) (by rw [ist_eq]; exact hS.2.2.push) hev)
              | (have q1 := less_of (m := 2) h168 (by omega) (by decide)
                 rw [eStep_z h54 q1 (by first | exact Or.inl h99 | exact Or.inr (less_of (m := 1) h104 (by omega) (by decide))) (by first | exact Or.inl h138 | exact Or.inr (less_of (m := 1) h143 (by omega) (by decide)))] at hev
                 exact ih (i + 1) _ _ stk _ (by omega) rfl rfl (by omega) hW hS hev)
            · refine BdQ.l (fun _ _ k => b_ic1 (pc := 125) (dd dtX4_value 70 rfl) k) ?_
              refine BdQ.l (fun _ _ k => b_goto (pc := 126) (tgt := 130) (dd dtX4_value 71 rfl) (by decide) k) ?_
              refine BdQ.l (fun _ _ k => b_iast (pc := 130) (dd dtX4_value 73 rfl) pC_97 (vpn rfl (show t.length < 160 by omega) (by decide)) k) ?_
              refine BdQ.l (fun _ _ k => b_goto (pc := 131) (tgt := 201) (dd dtX4_value 74 rfl) (by decide) k) ?_
              refine BdQ.l (fun _ _ k => b_iinc1 (pc := 201) (i := 4) (lv' := [(4, _), (5, _), (3, _), (2, _), (0, _), (1, _)]) (dd dtX4_value 117 rfl) rfl (Nat.le_of_ble_eq_true rfl) rfl k) ?_
              refine BdQ.l (fun _ _ k => b_goto (pc := 204) (tgt := 30) (dd dtX4_value 118 rfl) (by decide) k) ?_
              refine BdQ.l (fun _ _ k => b_pick [0, 2, 3, 4, 5] (lv' := [(4, _), (3, _), (2, _), (0, _), (1, _)]) rfl k) ?_
              rw [nI_1]
              first
              | (rw [nI_clamp (show stk.length < 2 ^ 31 by omega), nI_1]
                 refine ih (i + 1) _ _ (_ :: stk) _ (by omega) rfl rfl (by simp only [List.length_cons]; omega) (fun a ha => by rw [ist_ne ha]; exact hW a ha) (by rw [ist_eq]; exact hS.push) ?_
                 rw [eStep_p h54] at hev
                 first
                 | (rw [if_pos h71] at hev; exact hev)
                 | (rw [if_neg h71] at hev; exact hev))
              | (rw [nI_clamp (show t.length < 2 ^ 31 by omega)]
                 rw [eStep_u h54 (Or.inl h99)] at hev
                 refine ih (i + 1) _ _ (_ :: t) _ (by omega) rfl (by first | rfl | rw [List.length_cons]) (by simp only [List.length_cons]; omega) (fun a ha => by rw [ist_ne ha]; exact hW a ha) (by rw [ist_eq]; exact hS.2.push) ?_
                 rw [h99] at hev
                 unfold eUn at hev
                 rw [if_pos rfl] at hev
                 first
                 | (rw [if_pos h122] at hev; exact hev)
                 | (rw [if_neg h122] at hev; exact hev))
              | (rw [nI_clamp (show t.length < 2 ^ 31 by omega)]
                 rw [eStep_u h54 (Or.inr h138)] at hev
                 refine ih (i + 1) _ _ (_ :: t) _ (by omega) rfl (by first | rfl | rw [List.length_cons]) (by simp only [List.length_cons]; omega) (fun a ha => by rw [ist_ne ha]; exact hW a ha) (by rw [ist_eq]; exact hS.2.push) ?_
                 rw [h138] at hev
                 unfold eUn at hev
                 rw [if_neg (by decide)] at hev
                 exact hev)
              | (rw [nI_clamp (show t.length < 2 ^ 31 by omega)]
                 rw [eStep_j h54 (fun q => by first | exact h99 q | exact absurd (less_of (m := 1) h104 (by omega) (by decide)) (by simp)) (fun q => by first | exact h138 q | exact absurd (less_of (m := 1) h143 (by omega) (by decide)) (by simp))] at hev
                 exact ih (i + 1) _ _ (_ :: t) _ (by omega) rfl (by first | rfl | rw [List.length_cons]) (by simp only [List.length_cons]; omega) (fun a ha => by rw [ist_ne ha]; exact hW a ha) (by rw [ist_eq]; exact hS.2.2.push) hev)
              | (have q1 := less_of (m := 2) h168 (by omega) (by decide)
                 rw [eStep_z h54 q1 (by first | exact Or.inl h99 | exact Or.inr (less_of (m := 1) h104 (by omega) (by decide))) (by first | exact Or.inl h138 | exact Or.inr (less_of (m := 1) h143 (by omega) (by decide)))] at hev
                 exact ih (i + 1) _ _ stk _ (by omega) rfl rfl (by omega) hW hS hev)
      · refine BdQ.l (fun _ _ k => b_iload_n (pc := 57) (i := 3) (dd dtX4_value 33 rfl) rfl rfl k) ?_
        refine BdQ.l (fun _ _ k => b_sipush (pc := 58) (v := 160) (dd dtX4_value 34 rfl) (by decide) k) ?_
        refine BdQ.c (fun _ _ k1 k2 => b_icmpL_ge (pc := 61) (tgt := 95) (dd dtX4_value 35 rfl) (by decide) k1 k2) (fun h61 => ?_) (fun h61 => ?_)
        · exact absurd (nI_lt (show stk.length < 160 by have := hX.2.1; omega) (by decide)) h61
        · refine BdQ.l (fun _ _ k => b_aload_n (pc := 64) (i := 0) (dd dtX4_value 36 rfl) rfl rfl k) ?_
          refine BdQ.l (fun _ _ k => b_geta (pc := 65) (dd dtX4_value 37 rfl) fwX4_44 pC_66 rC_66_6 k) ?_
          refine BdQ.l (fun _ _ k => b_iload_n (pc := 68) (i := 3) (dd dtX4_value 38 rfl) rfl rfl k) ?_
          refine BdQ.l (fun _ _ k => b_iload (pc := 69) (i := 5) (dd dtX4_value 39 rfl) rfl k) ?_
          refine BdQ.b (fun _ _ k1 k2 => b_if_lt (pc := 71) (tgt := 79) (dd dtX4_value 40 rfl) (by decide) k1 k2) (fun h71 => ?_) (fun h71 => ?_)
          · refine BdQ.l (fun _ _ k => b_aload_n (pc := 79) (i := 0) (dd dtX4_value 43 rfl) rfl rfl k) ?_
            refine BdQ.l (fun _ _ k => b_geta (pc := 80) (dd dtX4_value 44 rfl) fwX4_40 pC_66 rC_66_5 k) ?_
            refine BdQ.l (fun _ _ k => b_icm1 (pc := 83) (dd dtX4_value 45 rfl) k) ?_
            refine BdQ.l (fun _ _ k => b_iload (pc := 84) (i := 5) (dd dtX4_value 46 rfl) rfl k) ?_
            refine BdQ.l (fun _ _ k => b_isub (pc := 86) (dd dtX4_value 47 rfl) k) ?_
            refine BdQ.l (fun _ _ k => b_iald (pc := 87) (dd dtX4_value 48 rfl) pC_96 (nm_in h54 h71) k) ?_
            first
            | rw [hW 96 (by decide)]
            | skip
            refine BdQ.l (fun _ _ k => b_iast (pc := 88) (dd dtX4_value 49 rfl) pC_97 (vpn rfl (show stk.length < 160 by have := hX.2.1; omega) (by decide)) k) ?_
            refine BdQ.l (fun _ _ k => b_iinc1 (pc := 89) (i := 3) (lv' := [(3, _), (5, _), (4, _), (2, _), (0, _), (1, _)]) (dd dtX4_value 50 rfl) rfl (Nat.le_of_ble_eq_true rfl) rfl k) ?_
            refine BdQ.l (fun _ _ k => b_goto (pc := 92) (tgt := 201) (dd dtX4_value 51 rfl) (by decide) k) ?_
            refine BdQ.l (fun _ _ k => b_iinc1 (pc := 201) (i := 4) (lv' := [(4, _), (3, _), (5, _), (2, _), (0, _), (1, _)]) (dd dtX4_value 117 rfl) rfl (Nat.le_of_ble_eq_true rfl) rfl k) ?_
            refine BdQ.l (fun _ _ k => b_goto (pc := 204) (tgt := 30) (dd dtX4_value 118 rfl) (by decide) k) ?_
            refine BdQ.l (fun _ _ k => b_pick [0, 1, 3, 4, 5] (lv' := [(4, _), (3, _), (2, _), (0, _), (1, _)]) rfl k) ?_
            rw [nI_1]
            first
            | (rw [nI_clamp (show stk.length < 2 ^ 31 by omega), nI_1]
               refine ih (i + 1) _ _ (_ :: stk) _ (by omega) rfl rfl (by simp only [List.length_cons]; omega) (fun a ha => by rw [ist_ne ha]; exact hW a ha) (by rw [ist_eq]; exact hS.push) ?_
               rw [eStep_p h54] at hev
               first
               | (rw [if_pos h71] at hev; exact hev)
               | (rw [if_neg h71] at hev; exact hev))
            | (rw [nI_clamp (show t.length < 2 ^ 31 by omega)]
               rw [eStep_u h54 (Or.inl h99)] at hev
               refine ih (i + 1) _ _ (_ :: t) _ (by omega) rfl (by first | rfl | rw [List.length_cons]) (by simp only [List.length_cons]; omega) (fun a ha => by rw [ist_ne ha]; exact hW a ha) (by rw [ist_eq]; exact hS.2.push) ?_
               rw [h99] at hev
               unfold eUn at hev
               rw [if_pos rfl] at hev
               first
               | (rw [if_pos h122] at hev; exact hev)
               | (rw [if_neg h122] at hev; exact hev))
            | (rw [nI_clamp (show t.length < 2 ^ 31 by omega)]
               rw [eStep_u h54 (Or.inr h138)] at hev
               refine ih (i + 1) _ _ (_ :: t) _ (by omega) rfl (by first | rfl | rw [List.length_cons]) (by simp only [List.length_cons]; omega) (fun a ha => by rw [ist_ne ha]; exact hW a ha) (by rw [ist_eq]; exact hS.2.push) ?_
               rw [h138] at hev
               unfold eUn at hev
               rw [if_neg (by decide)] at hev
               exact hev)
            | (rw [nI_clamp (show t.length < 2 ^ 31 by omega)]
               rw [eStep_j h54 (fun q => by first | exact h99 q | exact absurd (less_of (m := 1) h104 (by omega) (by decide)) (by simp)) (fun q => by first | exact h138 q | exact absurd (less_of (m := 1) h143 (by omega) (by decide)) (by simp))] at hev
               exact ih (i + 1) _ _ (_ :: t) _ (by omega) rfl (by first | rfl | rw [List.length_cons]) (by simp only [List.length_cons]; omega) (fun a ha => by rw [ist_ne ha]; exact hW a ha) (by rw [ist_eq]; exact hS.2.2.push) hev)
            | (have q1 := less_of (m := 2) h168 (by omega) (by decide)
               rw [eStep_z h54 q1 (by first | exact Or.inl h99 | exact Or.inr (less_of (m := 1) h104 (by omega) (by decide))) (by first | exact Or.inl h138 | exact Or.inr (less_of (m := 1) h143 (by omega) (by decide)))] at hev
               exact ih (i + 1) _ _ stk _ (by omega) rfl rfl (by omega) hW hS hev)
          · refine BdQ.l (fun _ _ k => b_iload (pc := 74) (i := 5) (dd dtX4_value 41 rfl) rfl k) ?_
            refine BdQ.l (fun _ _ k => b_goto (pc := 76) (tgt := 88) (dd dtX4_value 42 rfl) (by decide) k) ?_
            first
            | rw [hW 96 (by decide)]
            | skip
            refine BdQ.l (fun _ _ k => b_iast (pc := 88) (dd dtX4_value 49 rfl) pC_97 (vpn rfl (show stk.length < 160 by have := hX.2.1; omega) (by decide)) k) ?_
            refine BdQ.l (fun _ _ k => b_iinc1 (pc := 89) (i := 3) (lv' := [(3, _), (5, _), (4, _), (2, _), (0, _), (1, _)]) (dd dtX4_value 50 rfl) rfl (Nat.le_of_ble_eq_true rfl) rfl k) ?_
            refine BdQ.l (fun _ _ k => b_goto (pc := 92) (tgt := 201) (dd dtX4_value 51 rfl) (by decide) k) ?_
            refine BdQ.l (fun _ _ k => b_iinc1 (pc := 201) (i := 4) (lv' := [(4, _), (3, _), (5, _), (2, _), (0, _), (1, _)]) (dd dtX4_value 117 rfl) rfl (Nat.le_of_ble_eq_true rfl) rfl k) ?_
            refine BdQ.l (fun _ _ k => b_goto (pc := 204) (tgt := 30) (dd dtX4_value 118 rfl) (by decide) k) ?_
            refine BdQ.l (fun _ _ k => b_pick [0, 1, 3, 4, 5] (lv' := [(4, _), (3, _), (2, _), (0, _), (1, _)]) rfl k) ?_
            rw [nI_1]
            first
            | (rw [nI_clamp (show stk.length < 2 ^ 31 by omega), nI_1]
               refine ih (i + 1) _ _ (_ :: stk) _ (by omega) rfl rfl (by simp only [List.length_cons]; omega) (fun a ha => by rw [ist_ne ha]; exact hW a ha) (by rw [ist_eq]; exact hS.push) ?_
               rw [eStep_p h54] at hev
               first
               | (rw [if_pos h71] at hev; exact hev)
               | (rw [if_neg h71] at hev; exact hev))
            | (rw [nI_clamp (show t.length < 2 ^ 31 by omega)]
               rw [eStep_u h54 (Or.inl h99)] at hev
               refine ih (i + 1) _ _ (_ :: t) _ (by omega) rfl (by first | rfl | rw [List.length_cons]) (by simp only [List.length_cons]; omega) (fun a ha => by rw [ist_ne ha]; exact hW a ha) (by rw [ist_eq]; exact hS.2.push) ?_
               rw [h99] at hev
               unfold eUn at hev
               rw [if_pos rfl] at hev
               first
               | (rw [if_pos h122] at hev; exact hev)
               | (rw [if_neg h122] at hev; exact hev))
            | (rw [nI_clamp (show t.length < 2 ^ 31 by omega)]
               rw [eStep_u h54 (Or.inr h138)] at hev
               refine ih (i + 1) _ _ (_ :: t) _ (by omega) rfl (by first | rfl | rw [List.length_cons]) (by simp only [List.length_cons]; omega) (fun a ha => by rw [ist_ne ha]; exact hW a ha) (by rw [ist_eq]; exact hS.2.push) ?_
               rw [h138] at hev
               unfold eUn at hev
               rw [if_neg (by decide)] at hev
               exact hev)
            | (rw [nI_clamp (show t.length < 2 ^ 31 by omega)]
               rw [eStep_j h54 (fun q => by first | exact h99 q | exact absurd (less_of (m := 1) h104 (by omega) (by decide)) (by simp)) (fun q => by first | exact h138 q | exact absurd (less_of (m := 1) h143 (by omega) (by decide)) (by simp))] at hev
               exact ih (i + 1) _ _ (_ :: t) _ (by omega) rfl (by first | rfl | rw [List.length_cons]) (by simp only [List.length_cons]; omega) (fun a ha => by rw [ist_ne ha]; exact hW a ha) (by rw [ist_eq]; exact hS.2.2.push) hev)
            | (have q1 := less_of (m := 2) h168 (by omega) (by decide)
               rw [eStep_z h54 q1 (by first | exact Or.inl h99 | exact Or.inr (less_of (m := 1) h104 (by omega) (by decide))) (by first | exact Or.inl h138 | exact Or.inr (less_of (m := 1) h143 (by omega) (by decide)))] at hev
               exact ih (i + 1) _ _ stk _ (by omega) rfl rfl (by omega) hW hS hev)
