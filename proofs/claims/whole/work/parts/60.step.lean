/-! the reference's step from token to token -/
def MT (k v tok val : Int32) : Prop := (k = 1 ∧ tok = -1) ∨ (k = 2 ∧ tok = 1 ∧ val = v ∧ ¬ v < 0) ∨ (k = 3 ∧ tok = 2 ∧ ∃ i, i < 8 ∧ v = nI i ∧ val = nI (i + 10)) ∨ (∃ w, w < 6 ∧ k = nI (300 + w) ∧ tok = 3 ∧ val = nI w) ∨ (mkP k ∧ tok = k)
def PS (b : Nat → Int32) (n : Nat) (J : Wd) (p t : Nat) : Prop := J 0 52 = nI p ∧ p ≤ n ∧ (p < n → ¬ (0 < p ∧ goP (b (p - 1)) (b p))) ∧ cnt b p = t
def MTk (b : Nat → Int32) (n : Nat) (kd nm pl : Nat → Int32) (T : Nat) (J : Wd) (t : Nat) : Prop := t ≤ T ∧ (t < T → J 0 54 = pl t ∧ MT (kd t) (nm t) (J 0 53) (J 0 55) ∧ ∃ p, PS b n J p (t + 1)) ∧ (t = T → J 0 53 = 0 ∧ J 0 54 = nI n)
theorem br_r {x y lo hi : Int32} (h : BRel x y) (h1 : ¬ lo < 0) (h2 : hi < 128) : inR y lo hi ↔ inR x lo hi := by
  rcases h with h | ⟨a, c⟩
  · subst h; exact Iff.rfl
  · rw [Int32.lt_iff_toInt_lt] at h1 h2 a c
    have e0 : (0 : Int32).toInt = 0 := rfl
    constructor
    · intro q; exfalso; have := q.1; rw [Int32.lt_iff_toInt_lt] at this; omega
    · intro q; exfalso; have := q.2; rw [Int32.lt_iff_toInt_lt] at this; omega
theorem br_v {x y lo hi : Int32} (h : BRel x y) (h2 : hi < 128) (hx : inR x lo hi) : y = x := by
  rcases h with h | ⟨a, c⟩
  · exact h.symm
  · rw [Int32.lt_iff_toInt_lt] at h2 a
    exfalso; have := hx.2; rw [Int32.lt_iff_toInt_lt] at this; omega
theorem br_e {x y k : Int32} (h : BRel x y) (h1 : ¬ k < 0) (h2 : k < 128) : y = k ↔ x = k := by
  rcases h with h | ⟨a, c⟩
  · rw [h]
  · constructor
    · intro q; subst q; exact absurd c h1
    · intro q; subst q; exact absurd h2 a
theorem br_m {x y : Int32} (h : BRel x y) : mkP y ↔ mkP x := by
  unfold mkP
  rw [br_e h (k := 40) (by decide) (by decide), br_e h (k := 41) (by decide) (by decide), br_e h (k := 59) (by decide) (by decide), br_e h (k := 43) (by decide) (by decide), br_e h (k := 45) (by decide) (by decide), br_e h (k := 42) (by decide) (by decide), br_e h (k := 60) (by decide) (by decide), br_e h (k := 61) (by decide) (by decide)]
theorem mk_v {x y : Int32} (h : BRel x y) (hm : mkP x) : y = x := by
  rcases h with h | ⟨a, c⟩
  · exact h.symm
  · exfalso
    rcases hm with h | h | h | h | h | h | h | h <;> subst h <;> exact absurd (by decide) a
theorem run_let {b : Nat → Int32} {n j e : Nat} (h : RE b n j e) (hl : inR (b j) 97 122) : ∀ q, j + q < e → inR (b (j + q)) 97 122 := by
  intro q
  induction q with
  | zero => intro _; exact hl
  | succ q ih =>
    intro hq
    have h1 := ih (by omega)
    rcases h.2.2.1 (j + (q + 1)) (by omega) hq with g | g
    · exact g.2
    · exfalso
      rw [show j + (q + 1) - 1 = j + q by omega] at g
      have a := g.1.2
      have c := h1.1
      rw [Int32.lt_iff_toInt_lt] at a c
      have e1 : (57 : Int32).toInt = 57 := rfl
      have e2 : (97 : Int32).toInt = 97 := rfl
      omega
theorem run_dig {b : Nat → Int32} {n j e : Nat} (h : RE b n j e) (hl : inR (b j) 48 57) : ∀ q, j + q < e → inR (b (j + q)) 48 57 := by
  intro q
  induction q with
  | zero => intro _; exact hl
  | succ q ih =>
    intro hq
    have h1 := ih (by omega)
    rcases h.2.2.1 (j + (q + 1)) (by omega) hq with g | g
    · exfalso
      rw [show j + (q + 1) - 1 = j + q by omega] at g
      have a := g.1.1
      have c := h1.2
      rw [Int32.lt_iff_toInt_lt] at a c
      have e1 : (57 : Int32).toInt = 57 := rfl
      have e2 : (97 : Int32).toInt = 97 := rfl
      omega
    · exact g.2
theorem MT_let {b : Nat → Int32} {p l : Nat} {kd nm V : Int32} (hq : ∀ q, q < l → inR (b (p + q)) 97 122) (hK : (∃ w, w < 14 ∧ spP b p l (w + 1) ∧ ((w < 6 ∧ kd = nI (300 + w)) ∨ (¬ w < 6 ∧ kd = 3 ∧ nm = nI (w - 6)))) ∨ ((∀ w, w < 14 → ¬ spP b p l (w + 1)) ∧ kd = 1)) (hV : (6 < l ∧ V = -1) ∨ (¬ 6 < l ∧ V = wordF (enL b p l))) : (V < 0 → MT kd nm (-1) V) ∧ (¬ V < 0 → V < 10 → MT kd nm 3 V) ∧ (¬ V < 0 → ¬ V < 10 → MT kd nm 2 V) := by
  rcases hK with ⟨w, hw, hs, hk⟩ | ⟨hs, hk⟩
  · obtain ⟨h1, h2⟩ := word_y hw hs
    have hV2 : V = nI (if w < 6 then w else w + 4) := by
      rcases hV with ⟨a, c⟩ | ⟨a, c⟩
      · omega
      · rw [c, h1]
    rcases hk with ⟨h3, h4⟩ | ⟨h3, h4, h5⟩
    · rw [if_pos h3] at hV2
      subst hV2
      refine ⟨fun q => absurd q (nI_pos (by omega)), fun _ _ => Or.inr (Or.inr (Or.inr (Or.inl ⟨w, h3, h4, rfl, rfl⟩))), fun _ q => absurd (nI_lt (b := 10) (by omega) (by decide)) q⟩
    · rw [if_neg h3] at hV2
      subst hV2
      refine ⟨fun q => absurd q (nI_pos (by omega)), fun _ q => absurd (lt_n (N := 10) q (by omega) (by decide)) (by omega), fun _ _ => Or.inr (Or.inr (Or.inl ⟨h4, rfl, w - 6, by omega, h5, by congr 1; omega⟩))⟩
  · have hV2 : V = -1 := by
      rcases hV with ⟨a, c⟩ | ⟨a, c⟩
      · exact c
      · rw [c]; exact word_n (by omega) hq hs
    subst hV2
    exact ⟨fun _ => Or.inl ⟨hk, rfl⟩, fun q => absurd (by decide) q, fun q => absurd (by decide) q⟩
theorem nI_subp (p q : Nat) : nI (p + q) - nI p = nI q := by
  rw [Nat.add_comm, ← nI_add]
  exact Int32.add_sub_cancel _ _
def tX11_step : List (Nat × Instr × Nat) := [(0, .aload_n 0, 1), (1, .aload_n 0, 1), (2, .getfield 173, 3), (5, .invokevirtual 331, 3), (8, .bipush 32, 2), (10, .if_icmp .eq 16, 3), (13, .aload_n 0, 1), (14, .aload_n 0, 1), (15, .getfield 173, 3), (18, .invokevirtual 331, 3), (21, .bipush 10, 2), (23, .if_icmp .ne 16, 3), (26, .aload_n 0, 1), (27, .dup, 1), (28, .getfield 173, 3), (31, .iconst 1, 1), (32, .iadd, 1), (33, .putfield 173, 3), (36, .goto (-36), 3), (39, .aload_n 0, 1), (40, .aload_n 0, 1), (41, .getfield 173, 3), (44, .putfield 179, 3), (47, .aload_n 0, 1), (48, .aload_n 0, 1), (49, .getfield 173, 3), (52, .invokevirtual 331, 3), (55, .istore_n 1, 1), (56, .aload_n 0, 1), (57, .getfield 173, 3), (60, .aload_n 0, 1), (61, .getfield 170, 3), (64, .if_icmp .ne 11, 3), (67, .aload_n 0, 1), (68, .iconst 0, 1), (69, .putfield 176, 3), (72, .goto 311, 3), (75, .aload_n 0, 1), (76, .iload_n 1, 1), (77, .invokevirtual 334, 3), (80, .ifCond .eq 124, 3), (83, .lconst 0, 1), (84, .lstore_n 2, 1), (85, .iconst 0, 1), (86, .istore 4, 2), (88, .aload_n 0, 1), (89, .aload_n 0, 1), (90, .aload_n 0, 1), (91, .getfield 173, 3), (94, .invokevirtual 331, 3), (97, .invokevirtual 334, 3), (100, .ifCond .eq 52, 3), (103, .iload 4, 2), (105, .bipush 6, 2), (107, .if_icmp .ge 25, 3), (110, .ldc2_w 337, 3), (113, .lload_n 2, 1), (114, .lmul, 1), (115, .aload_n 0, 1), (116, .aload_n 0, 1), (117, .getfield 173, 3), (120, .invokevirtual 331, 3), (123, .i2l, 1), (124, .ladd, 1), (125, .ldc2_w 339, 3), (128, .lsub, 1), (129, .goto 6, 3), (132, .ldc2_w 341, 3), (135, .lstore_n 2, 1), (136, .iinc 4 1, 3), (139, .aload_n 0, 1), (140, .dup, 1), (141, .getfield 173, 3), (144, .iconst 1, 1), (145, .iadd, 1), (146, .putfield 173, 3), (149, .goto (-61), 3), (152, .aload_n 0, 1), (153, .iload 4, 2), (155, .bipush 6, 2), (157, .if_icmp .le 7, 3), (160, .iconst (-1), 1), (161, .goto 8, 3), (164, .aload_n 0, 1), (165, .lload_n 2, 1), (166, .invokevirtual 343, 3), (169, .putfield 182, 3), (172, .aload_n 0, 1), (173, .aload_n 0, 1), (174, .getfield 182, 3), (177, .ifCond .ge 7, 3), (180, .iconst (-1), 1), (181, .goto 17, 3), (184, .aload_n 0, 1), (185, .getfield 182, 3), (188, .bipush 10, 2), (190, .if_icmp .ge 7, 3), (193, .iconst 3, 1), (194, .goto 4, 3), (197, .iconst 2, 1), (198, .putfield 176, 3), (201, .goto 182, 3), (204, .aload_n 0, 1), (205, .iload_n 1, 1), (206, .invokevirtual 347, 3), (209, .ifCond .eq 97, 3), (212, .aload_n 0, 1), (213, .iconst 0, 1), (214, .putfield 182, 3), (217, .aload_n 0, 1), (218, .aload_n 0, 1), (219, .aload_n 0, 1), (220, .getfield 173, 3), (223, .invokevirtual 331, 3), (226, .invokevirtual 347, 3), (229, .ifCond .eq 52, 3), (232, .aload_n 0, 1), (233, .getfield 173, 3), (236, .aload_n 0, 1), (237, .getfield 179, 3), (240, .isub, 1), (241, .iconst 4, 1), (242, .if_icmp .ge 26, 3), (245, .aload_n 0, 1), (246, .bipush 10, 2), (248, .aload_n 0, 1), (249, .getfield 182, 3), (252, .imul, 1), (253, .aload_n 0, 1), (254, .aload_n 0, 1), (255, .getfield 173, 3), (258, .invokevirtual 331, 3), (261, .iadd, 1), (262, .bipush 48, 2), (264, .isub, 1), (265, .putfield 182, 3), (268, .aload_n 0, 1), (269, .dup, 1), (270, .getfield 173, 3), (273, .iconst 1, 1), (274, .iadd, 1), (275, .putfield 173, 3), (278, .goto (-61), 3), (281, .aload_n 0, 1), (282, .aload_n 0, 1), (283, .getfield 173, 3), (286, .aload_n 0, 1), (287, .getfield 179, 3), (290, .isub, 1), (291, .iconst 4, 1), (292, .if_icmp .le 7, 3), (295, .iconst (-1), 1), (296, .goto 4, 3), (299, .iconst 1, 1), (300, .putfield 176, 3), (303, .goto 80, 3), (306, .iload_n 1, 1), (307, .bipush 40, 2), (309, .if_icmp .eq 45, 3), (312, .iload_n 1, 1), (313, .bipush 41, 2), (315, .if_icmp .eq 39, 3), (318, .iload_n 1, 1), (319, .bipush 59, 2), (321, .if_icmp .eq 33, 3), (324, .iload_n 1, 1), (325, .bipush 43, 2), (327, .if_icmp .eq 27, 3), (330, .iload_n 1, 1), (331, .bipush 45, 2), (333, .if_icmp .eq 21, 3), (336, .iload_n 1, 1), (337, .bipush 42, 2), (339, .if_icmp .eq 15, 3), (342, .iload_n 1, 1), (343, .bipush 60, 2), (345, .if_icmp .eq 9, 3), (348, .iload_n 1, 1), (349, .bipush 61, 2), (351, .if_icmp .ne 7, 3), (354, .iconst 1, 1), (355, .goto 4, 3), (358, .iconst 0, 1), (359, .istore_n 2, 1), (360, .aload_n 0, 1), (361, .iload_n 2, 1), (362, .ifCond .eq 7, 3), (365, .iload_n 1, 1), (366, .goto 4, 3), (369, .iconst (-1), 1), (370, .putfield 176, 3), (373, .aload_n 0, 1), (374, .dup, 1), (375, .getfield 173, 3), (378, .iconst 1, 1), (379, .iadd, 1), (380, .putfield 173, 3), (383, .return_, 1)]
theorem dtX11_step : dec_ok mX11_step.2.1 tX11_step = true := by decide +kernel
theorem not_let {J0 : Wd} {ba n : Nat} {b mb : Nat → Int32} (hM : MB J0 ba n mb) (hBR : ∀ i, i < n → BRel (b i) (mb i)) {p e : Nat} (hE : RE b n p e) (hl : inR (b p) 97 122) : ¬ inR (mb e) 97 122 := by
  rcases hE.2.2.2 with h | h
  · rw [h, hM.2.2.2.2.2]; decide
  · by_cases hen : e = n
    · rw [hen, hM.2.2.2.2.2]; decide
    · have hlt : e < n := Nat.lt_of_le_of_ne hE.2.1 hen
      rw [br_r (hBR e hlt) (by decide) (by decide)]
      intro q
      have h1 := hE.1
      have k := run_let hE hl (e - 1 - p) (by omega)
      rw [show p + (e - 1 - p) = e - 1 by omega] at k
      exact h (Or.inl ⟨k, q⟩)
theorem not_dig {J0 : Wd} {ba n : Nat} {b mb : Nat → Int32} (hM : MB J0 ba n mb) (hBR : ∀ i, i < n → BRel (b i) (mb i)) {p e : Nat} (hE : RE b n p e) (hl : inR (b p) 48 57) : ¬ inR (mb e) 48 57 := by
  rcases hE.2.2.2 with h | h
  · rw [h, hM.2.2.2.2.2]; decide
  · by_cases hen : e = n
    · rw [hen, hM.2.2.2.2.2]; decide
    · have hlt : e < n := Nat.lt_of_le_of_ne hE.2.1 hen
      rw [br_r (hBR e hlt) (by decide) (by decide)]
      intro q
      have h1 := hE.1
      have k := run_dig hE hl (e - 1 - p) (by omega)
      rw [show p + (e - 1 - p) = e - 1 by omega] at k
      exact h (Or.inr ⟨k, q⟩)
theorem RE_bnd {b : Nat → Int32} {n p e : Nat} (hE : RE b n p e) (h : e < n) : ¬ (0 < e ∧ goP (b (e - 1)) (b e)) := fun q => by
  rcases hE.2.2.2 with z | z
  · omega
  · exact z q.2
set_option maxHeartbeats 2000000 in
theorem lr_let {J0 : Wd} {ba n : Nat} {b mb kd nm pl : Nat → Int32} {T : Nat} (hM : MB J0 ba n mb) (hBR : ∀ i, i < n → BRel (b i) (mb i)) (hT : TokOK b n kd nm pl T) {t p e : Nat} {c : Int32} (hp : p < n) (hst : isSt b p) (ht : cnt b p = t) (hlt : t < T) (hpl : pl t = nI p) (hE : RE b n p e) (hl : inR (b p) 97 122) (hK : (∃ w, w < 14 ∧ spP b p (e - p) (w + 1) ∧ ((w < 6 ∧ kd t = nI (300 + w)) ∨ (¬ w < 6 ∧ kd t = 3 ∧ nm t = nI (w - 6)))) ∨ ((∀ w, w < 14 → ¬ spP b p (e - p) (w + 1)) ∧ kd t = 1)) : ∀ (m q : Nat) (x4 : Int32) (x2 : Int64) (W : Wd), q + m = e - p → x4 = nI q → x2 = enL b p q → Fr4 J0 W → W 0 52 = nI (p + q) → W 0 54 = nI p → BdQ SyM mX11_step 3 88 [(4, .int x4), (2, .long x2), (1, .int c), (0, .ref 0)] [] W (fun r J' => r = none ∧ Fr4 J0 J' ∧ MTk b n kd nm pl T J' t) := by
  intro m
  induction m with
  | zero =>
    intro q x4 x2 W hq e4 e2 hF h52 h54
    subst e4; subst e2
    refine BdQ.l (fun _ _ k => b_aload_n (pc := 88) (i := 0) (dd dtX11_step 45 rfl) rfl rfl k) ?_
    refine BdQ.l (fun _ _ k => b_aload_n (pc := 89) (i := 0) (dd dtX11_step 46 rfl) rfl rfl k) ?_
    refine BdQ.l (fun _ _ k => b_aload_n (pc := 90) (i := 0) (dd dtX11_step 47 rfl) rfl rfl k) ?_
    refine BdQ.l (fun _ _ k => b_geti (pc := 91) (dd dtX11_step 48 rfl) fwX11_173 pM_0 k) ?_
    refine BdQ.l (fun _ _ k => b_invV (pc := 94) (dd dtX11_step 49 rfl) mlX11_331 mvX11_byteAt miX11_byteAt (c_X11_byteAt (hM.fr hF) h52 (by have := hE.2.1; have := hE.1; omega)) oM_0 rfl rfl (by decide) (Nat.le_of_ble_eq_true rfl) k) ?_
    refine BdQ.l (fun _ _ k => b_invV (pc := 97) (dd dtX11_step 50 rfl) mlX11_334 mvX11_isLetter miX11_isLetter (c_X11_isLetter) oM_0 rfl rfl (by decide) (Nat.le_of_ble_eq_true rfl) k) ?_
    refine BdQ.c (fun _ _ k1 k2 => b_ifb_eq (pc := 100) (tgt := 152) (dd dtX11_step 51 rfl) (by decide) k1 k2) (fun h100 => ?_) (fun h100 => ?_)
    · have hql : q = e - p := by omega
      subst hql
      refine BdQ.l (fun _ _ k => b_aload_n (pc := 152) (i := 0) (dd dtX11_step 77 rfl) rfl rfl k) ?_
      refine BdQ.l (fun _ _ k => b_iload (pc := 153) (i := 4) (dd dtX11_step 78 rfl) rfl k) ?_
      refine BdQ.l (fun _ _ k => b_bipush (pc := 155) (v := 6) (dd dtX11_step 79 rfl) (by decide) k) ?_
      refine BdQ.c (fun _ _ k1 k2 => b_icmpL_le (pc := 157) (tgt := 164) (dd dtX11_step 80 rfl) (by decide) k1 k2) (fun h157 => ?_) (fun h157 => ?_)
      · refine BdQ.l (fun _ _ k => b_aload_n (pc := 164) (i := 0) (dd dtX11_step 83 rfl) rfl rfl k) ?_
        refine BdQ.l (fun _ _ k => b_lload_n (pc := 165) (i := 2) (dd dtX11_step 84 rfl) rfl rfl k) ?_
        refine BdQ.l (fun _ _ k => b_invV (pc := 166) (dd dtX11_step 85 rfl) mlX11_343 mvX11_wordOf miX11_wordOf (c_X11_wordOf) oM_0 rfl rfl (by decide) (Nat.le_of_ble_eq_true rfl) k) ?_
        refine BdQ.l (fun _ _ k => b_puti (pc := 169) (dd dtX11_step 86 rfl) fwX11_182 pM_0 k) ?_
        refine BdQ.l (fun _ _ k => b_aload_n (pc := 172) (i := 0) (dd dtX11_step 87 rfl) rfl rfl k) ?_
        refine BdQ.l (fun _ _ k => b_aload_n (pc := 173) (i := 0) (dd dtX11_step 88 rfl) rfl rfl k) ?_
        refine BdQ.l (fun _ _ k => b_geti (pc := 174) (dd dtX11_step 89 rfl) fwX11_182 pM_0 k) ?_
        rw [ist_eq, upd_eq]
        refine BdQ.c (fun _ _ k1 k2 => b_ifL_ge (pc := 177) (tgt := 184) (dd dtX11_step 90 rfl) (by decide) k1 k2) (fun h177 => ?_) (fun h177 => ?_)
        · refine BdQ.l (fun _ _ k => b_aload_n (pc := 184) (i := 0) (dd dtX11_step 93 rfl) rfl rfl k) ?_
          refine BdQ.l (fun _ _ k => b_geti (pc := 185) (dd dtX11_step 94 rfl) fwX11_182 pM_0 k) ?_
          rw [ist_eq, upd_eq]
          refine BdQ.l (fun _ _ k => b_bipush (pc := 188) (v := 10) (dd dtX11_step 95 rfl) (by decide) k) ?_
          refine BdQ.c (fun _ _ k1 k2 => b_icmpL_ge (pc := 190) (tgt := 197) (dd dtX11_step 96 rfl) (by decide) k1 k2) (fun h190 => ?_) (fun h190 => ?_)
          · refine BdQ.l (fun _ _ k => b_ic2 (pc := 197) (dd dtX11_step 99 rfl) k) ?_
            refine BdQ.l (fun _ _ k => b_puti (pc := 198) (dd dtX11_step 100 rfl) fwX11_176 pM_0 k) ?_
            refine BdQ.l (fun _ _ k => b_goto (pc := 201) (tgt := 383) (dd dtX11_step 101 rfl) (by decide) k) ?_
            refine ⟨_, _, ?_, b_vret (dd dtX11_step 197 rfl) rfl⟩
            have h1 := hE.1
            have h2 := hE.2.1
            have h3 := hM.2.2.2.1
            have hq := fun (q : Nat) (hq : q < e - p) => run_let hE hl q (by omega)
            refine ⟨rfl, (hF.p (by decide)).p (by decide), Nat.le_of_lt hlt, fun _ => ⟨?_, ?_, e, ?_, hE.2.1, RE_bnd hE, by rw [hE.cnt hst, ht]⟩, fun q => absurd q (by omega)⟩
            · rw [ist_eq, upd_ne (by decide), ist_eq, upd_ne (by decide), h54, hpl]
            · rw [ist_eq, upd_eq, upd_ne (by decide), ist_eq, upd_eq]
              first
              | exact (MT_let hq hK (Or.inl ⟨lt_n (h := 6) h157 (by decide) (by omega), rfl⟩)).1 h177
              | exact absurd (by decide) h177
              | exact (MT_let hq hK (Or.inr ⟨fun z => h157 (nI_lt (a := 6) z (by omega)), rfl⟩)).1 h177
              | exact (MT_let hq hK (Or.inr ⟨fun z => h157 (nI_lt (a := 6) z (by omega)), rfl⟩)).2.1 h177 h190
              | exact (MT_let hq hK (Or.inr ⟨fun z => h157 (nI_lt (a := 6) z (by omega)), rfl⟩)).2.2 h177 h190
            · rw [ist_eq, upd_ne (by decide), ist_eq, upd_ne (by decide), h52, show p + (e - p) = e by omega]
          · refine BdQ.l (fun _ _ k => b_ic3 (pc := 193) (dd dtX11_step 97 rfl) k) ?_
            refine BdQ.l (fun _ _ k => b_goto (pc := 194) (tgt := 198) (dd dtX11_step 98 rfl) (by decide) k) ?_
            refine BdQ.l (fun _ _ k => b_puti (pc := 198) (dd dtX11_step 100 rfl) fwX11_176 pM_0 k) ?_
            refine BdQ.l (fun _ _ k => b_goto (pc := 201) (tgt := 383) (dd dtX11_step 101 rfl) (by decide) k) ?_
            refine ⟨_, _, ?_, b_vret (dd dtX11_step 197 rfl) rfl⟩
            have h1 := hE.1
            have h2 := hE.2.1
            have h3 := hM.2.2.2.1
            have hq := fun (q : Nat) (hq : q < e - p) => run_let hE hl q (by omega)
            refine ⟨rfl, (hF.p (by decide)).p (by decide), Nat.le_of_lt hlt, fun _ => ⟨?_, ?_, e, ?_, hE.2.1, RE_bnd hE, by rw [hE.cnt hst, ht]⟩, fun q => absurd q (by omega)⟩
            · rw [ist_eq, upd_ne (by decide), ist_eq, upd_ne (by decide), h54, hpl]
            · rw [ist_eq, upd_eq, upd_ne (by decide), ist_eq, upd_eq]
              first
              | exact (MT_let hq hK (Or.inl ⟨lt_n (h := 6) h157 (by decide) (by omega), rfl⟩)).1 h177
              | exact absurd (by decide) h177
              | exact (MT_let hq hK (Or.inr ⟨fun z => h157 (nI_lt (a := 6) z (by omega)), rfl⟩)).1 h177
              | exact (MT_let hq hK (Or.inr ⟨fun z => h157 (nI_lt (a := 6) z (by omega)), rfl⟩)).2.1 h177 h190
              | exact (MT_let hq hK (Or.inr ⟨fun z => h157 (nI_lt (a := 6) z (by omega)), rfl⟩)).2.2 h177 h190
            · rw [ist_eq, upd_ne (by decide), ist_eq, upd_ne (by decide), h52, show p + (e - p) = e by omega]
        · refine BdQ.l (fun _ _ k => b_icm1 (pc := 180) (dd dtX11_step 91 rfl) k) ?_
          refine BdQ.l (fun _ _ k => b_goto (pc := 181) (tgt := 198) (dd dtX11_step 92 rfl) (by decide) k) ?_
          refine BdQ.l (fun _ _ k => b_puti (pc := 198) (dd dtX11_step 100 rfl) fwX11_176 pM_0 k) ?_
          refine BdQ.l (fun _ _ k => b_goto (pc := 201) (tgt := 383) (dd dtX11_step 101 rfl) (by decide) k) ?_
          refine ⟨_, _, ?_, b_vret (dd dtX11_step 197 rfl) rfl⟩
          have h1 := hE.1
          have h2 := hE.2.1
          have h3 := hM.2.2.2.1
          have hq := fun (q : Nat) (hq : q < e - p) => run_let hE hl q (by omega)
          refine ⟨rfl, (hF.p (by decide)).p (by decide), Nat.le_of_lt hlt, fun _ => ⟨?_, ?_, e, ?_, hE.2.1, RE_bnd hE, by rw [hE.cnt hst, ht]⟩, fun q => absurd q (by omega)⟩
          · rw [ist_eq, upd_ne (by decide), ist_eq, upd_ne (by decide), h54, hpl]
          · rw [ist_eq, upd_eq, upd_ne (by decide), ist_eq, upd_eq]
            first
            | exact (MT_let hq hK (Or.inl ⟨lt_n (h := 6) h157 (by decide) (by omega), rfl⟩)).1 h177
            | exact absurd (by decide) h177
            | exact (MT_let hq hK (Or.inr ⟨fun z => h157 (nI_lt (a := 6) z (by omega)), rfl⟩)).1 h177
            | exact (MT_let hq hK (Or.inr ⟨fun z => h157 (nI_lt (a := 6) z (by omega)), rfl⟩)).2.1 h177 h190
            | exact (MT_let hq hK (Or.inr ⟨fun z => h157 (nI_lt (a := 6) z (by omega)), rfl⟩)).2.2 h177 h190
          · rw [ist_eq, upd_ne (by decide), ist_eq, upd_ne (by decide), h52, show p + (e - p) = e by omega]
      · refine BdQ.l (fun _ _ k => b_icm1 (pc := 160) (dd dtX11_step 81 rfl) k) ?_
        refine BdQ.l (fun _ _ k => b_goto (pc := 161) (tgt := 169) (dd dtX11_step 82 rfl) (by decide) k) ?_
        refine BdQ.l (fun _ _ k => b_puti (pc := 169) (dd dtX11_step 86 rfl) fwX11_182 pM_0 k) ?_
        refine BdQ.l (fun _ _ k => b_aload_n (pc := 172) (i := 0) (dd dtX11_step 87 rfl) rfl rfl k) ?_
        refine BdQ.l (fun _ _ k => b_aload_n (pc := 173) (i := 0) (dd dtX11_step 88 rfl) rfl rfl k) ?_
        refine BdQ.l (fun _ _ k => b_geti (pc := 174) (dd dtX11_step 89 rfl) fwX11_182 pM_0 k) ?_
        rw [ist_eq, upd_eq]
        refine BdQ.c (fun _ _ k1 k2 => b_ifL_ge (pc := 177) (tgt := 184) (dd dtX11_step 90 rfl) (by decide) k1 k2) (fun h177 => ?_) (fun h177 => ?_)
        · refine BdQ.l (fun _ _ k => b_aload_n (pc := 184) (i := 0) (dd dtX11_step 93 rfl) rfl rfl k) ?_
          refine BdQ.l (fun _ _ k => b_geti (pc := 185) (dd dtX11_step 94 rfl) fwX11_182 pM_0 k) ?_
          rw [ist_eq, upd_eq]
          refine BdQ.l (fun _ _ k => b_bipush (pc := 188) (v := 10) (dd dtX11_step 95 rfl) (by decide) k) ?_
          refine BdQ.c (fun _ _ k1 k2 => b_icmpL_ge (pc := 190) (tgt := 197) (dd dtX11_step 96 rfl) (by decide) k1 k2) (fun h190 => ?_) (fun h190 => ?_)
          · refine BdQ.l (fun _ _ k => b_ic2 (pc := 197) (dd dtX11_step 99 rfl) k) ?_
            refine BdQ.l (fun _ _ k => b_puti (pc := 198) (dd dtX11_step 100 rfl) fwX11_176 pM_0 k) ?_
            refine BdQ.l (fun _ _ k => b_goto (pc := 201) (tgt := 383) (dd dtX11_step 101 rfl) (by decide) k) ?_
            refine ⟨_, _, ?_, b_vret (dd dtX11_step 197 rfl) rfl⟩
            have h1 := hE.1
            have h2 := hE.2.1
            have h3 := hM.2.2.2.1
            have hq := fun (q : Nat) (hq : q < e - p) => run_let hE hl q (by omega)
            refine ⟨rfl, (hF.p (by decide)).p (by decide), Nat.le_of_lt hlt, fun _ => ⟨?_, ?_, e, ?_, hE.2.1, RE_bnd hE, by rw [hE.cnt hst, ht]⟩, fun q => absurd q (by omega)⟩
            · rw [ist_eq, upd_ne (by decide), ist_eq, upd_ne (by decide), h54, hpl]
            · rw [ist_eq, upd_eq, upd_ne (by decide), ist_eq, upd_eq]
              first
              | exact (MT_let hq hK (Or.inl ⟨lt_n (h := 6) h157 (by decide) (by omega), rfl⟩)).1 h177
              | exact absurd (by decide) h177
              | exact (MT_let hq hK (Or.inr ⟨fun z => h157 (nI_lt (a := 6) z (by omega)), rfl⟩)).1 h177
              | exact (MT_let hq hK (Or.inr ⟨fun z => h157 (nI_lt (a := 6) z (by omega)), rfl⟩)).2.1 h177 h190
              | exact (MT_let hq hK (Or.inr ⟨fun z => h157 (nI_lt (a := 6) z (by omega)), rfl⟩)).2.2 h177 h190
            · rw [ist_eq, upd_ne (by decide), ist_eq, upd_ne (by decide), h52, show p + (e - p) = e by omega]
          · refine BdQ.l (fun _ _ k => b_ic3 (pc := 193) (dd dtX11_step 97 rfl) k) ?_
            refine BdQ.l (fun _ _ k => b_goto (pc := 194) (tgt := 198) (dd dtX11_step 98 rfl) (by decide) k) ?_
            refine BdQ.l (fun _ _ k => b_puti (pc := 198) (dd dtX11_step 100 rfl) fwX11_176 pM_0 k) ?_
            refine BdQ.l (fun _ _ k => b_goto (pc := 201) (tgt := 383) (dd dtX11_step 101 rfl) (by decide) k) ?_
            refine ⟨_, _, ?_, b_vret (dd dtX11_step 197 rfl) rfl⟩
            have h1 := hE.1
            have h2 := hE.2.1
            have h3 := hM.2.2.2.1
            have hq := fun (q : Nat) (hq : q < e - p) => run_let hE hl q (by omega)
            refine ⟨rfl, (hF.p (by decide)).p (by decide), Nat.le_of_lt hlt, fun _ => ⟨?_, ?_, e, ?_, hE.2.1, RE_bnd hE, by rw [hE.cnt hst, ht]⟩, fun q => absurd q (by omega)⟩
            · rw [ist_eq, upd_ne (by decide), ist_eq, upd_ne (by decide), h54, hpl]
            · rw [ist_eq, upd_eq, upd_ne (by decide), ist_eq, upd_eq]
              first
              | exact (MT_let hq hK (Or.inl ⟨lt_n (h := 6) h157 (by decide) (by omega), rfl⟩)).1 h177
              | exact absurd (by decide) h177
              | exact (MT_let hq hK (Or.inr ⟨fun z => h157 (nI_lt (a := 6) z (by omega)), rfl⟩)).1 h177
              | exact (MT_let hq hK (Or.inr ⟨fun z => h157 (nI_lt (a := 6) z (by omega)), rfl⟩)).2.1 h177 h190
              | exact (MT_let hq hK (Or.inr ⟨fun z => h157 (nI_lt (a := 6) z (by omega)), rfl⟩)).2.2 h177 h190
            · rw [ist_eq, upd_ne (by decide), ist_eq, upd_ne (by decide), h52, show p + (e - p) = e by omega]
        · refine BdQ.l (fun _ _ k => b_icm1 (pc := 180) (dd dtX11_step 91 rfl) k) ?_
          refine BdQ.l (fun _ _ k => b_goto (pc := 181) (tgt := 198) (dd dtX11_step 92 rfl) (by decide) k) ?_
          refine BdQ.l (fun _ _ k => b_puti (pc := 198) (dd dtX11_step 100 rfl) fwX11_176 pM_0 k) ?_
          refine BdQ.l (fun _ _ k => b_goto (pc := 201) (tgt := 383) (dd dtX11_step 101 rfl) (by decide) k) ?_
          refine ⟨_, _, ?_, b_vret (dd dtX11_step 197 rfl) rfl⟩
          have h1 := hE.1
          have h2 := hE.2.1
          have h3 := hM.2.2.2.1
          have hq := fun (q : Nat) (hq : q < e - p) => run_let hE hl q (by omega)
          refine ⟨rfl, (hF.p (by decide)).p (by decide), Nat.le_of_lt hlt, fun _ => ⟨?_, ?_, e, ?_, hE.2.1, RE_bnd hE, by rw [hE.cnt hst, ht]⟩, fun q => absurd q (by omega)⟩
          · rw [ist_eq, upd_ne (by decide), ist_eq, upd_ne (by decide), h54, hpl]
          · rw [ist_eq, upd_eq, upd_ne (by decide), ist_eq, upd_eq]
            first
            | exact (MT_let hq hK (Or.inl ⟨lt_n (h := 6) h157 (by decide) (by omega), rfl⟩)).1 h177
            | exact absurd (by decide) h177
            | exact (MT_let hq hK (Or.inr ⟨fun z => h157 (nI_lt (a := 6) z (by omega)), rfl⟩)).1 h177
            | exact (MT_let hq hK (Or.inr ⟨fun z => h157 (nI_lt (a := 6) z (by omega)), rfl⟩)).2.1 h177 h190
            | exact (MT_let hq hK (Or.inr ⟨fun z => h157 (nI_lt (a := 6) z (by omega)), rfl⟩)).2.2 h177 h190
          · rw [ist_eq, upd_ne (by decide), ist_eq, upd_ne (by decide), h52, show p + (e - p) = e by omega]
    · exact absurd h100 (by rw [show p + q = e by have := hE.1; omega]; exact not_let hM hBR hE hl)
  | succ m ih =>
    intro q x4 x2 W hq e4 e2 hF h52 h54
    subst e4; subst e2
    have h1 := hE.1
    have h2 := hE.2.1
    have h3 := hM.2.2.2.1
    have hq1 := run_let hE hl q (by omega)
    refine BdQ.l (fun _ _ k => b_aload_n (pc := 88) (i := 0) (dd dtX11_step 45 rfl) rfl rfl k) ?_
    refine BdQ.l (fun _ _ k => b_aload_n (pc := 89) (i := 0) (dd dtX11_step 46 rfl) rfl rfl k) ?_
    refine BdQ.l (fun _ _ k => b_aload_n (pc := 90) (i := 0) (dd dtX11_step 47 rfl) rfl rfl k) ?_
    refine BdQ.l (fun _ _ k => b_geti (pc := 91) (dd dtX11_step 48 rfl) fwX11_173 pM_0 k) ?_
    refine BdQ.l (fun _ _ k => b_invV (pc := 94) (dd dtX11_step 49 rfl) mlX11_331 mvX11_byteAt miX11_byteAt (c_X11_byteAt (hM.fr hF) h52 (by omega)) oM_0 rfl rfl (by decide) (Nat.le_of_ble_eq_true rfl) k) ?_
    refine BdQ.l (fun _ _ k => b_invV (pc := 97) (dd dtX11_step 50 rfl) mlX11_334 mvX11_isLetter miX11_isLetter (c_X11_isLetter) oM_0 rfl rfl (by decide) (Nat.le_of_ble_eq_true rfl) k) ?_
    refine BdQ.c (fun _ _ k1 k2 => b_ifb_eq (pc := 100) (tgt := 152) (dd dtX11_step 51 rfl) (by decide) k1 k2) (fun h100 => ?_) (fun h100 => ?_)
    · exact absurd ((br_r (hBR (p + q) (by omega)) (by decide) (by decide)).mpr hq1) h100
    · refine BdQ.l (fun _ _ k => b_iload (pc := 103) (i := 4) (dd dtX11_step 52 rfl) rfl k) ?_
      refine BdQ.l (fun _ _ k => b_bipush (pc := 105) (v := 6) (dd dtX11_step 53 rfl) (by decide) k) ?_
      refine BdQ.c (fun _ _ k1 k2 => b_icmpL_ge (pc := 107) (tgt := 132) (dd dtX11_step 54 rfl) (by decide) k1 k2) (fun h107 => ?_) (fun h107 => ?_)
      · refine BdQ.l (fun _ _ k => b_ldc2 (pc := 132) (dd dtX11_step 67 rfl) kcX11_341 k) ?_
        refine BdQ.l (fun _ _ k => b_lstore_n (pc := 135) (i := 2) (lv' := [(2, _), (4, _), (1, _), (0, _)]) (dd dtX11_step 68 rfl) rfl ⟨Nat.le_of_ble_eq_true rfl, Nat.le_of_ble_eq_true rfl⟩ rfl k) ?_
        refine BdQ.l (fun _ _ k => b_iinc1 (pc := 136) (i := 4) (lv' := [(4, _), (2, _), (1, _), (0, _)]) (dd dtX11_step 69 rfl) rfl (Nat.le_of_ble_eq_true rfl) rfl k) ?_
        refine BdQ.l (fun _ _ k => b_aload_n (pc := 139) (i := 0) (dd dtX11_step 70 rfl) rfl rfl k) ?_
        refine BdQ.l (fun _ _ k => b_dup (pc := 140) (dd dtX11_step 71 rfl) rfl k) ?_
        refine BdQ.l (fun _ _ k => b_geti (pc := 141) (dd dtX11_step 72 rfl) fwX11_173 pM_0 k) ?_
        refine BdQ.l (fun _ _ k => b_ic1 (pc := 144) (dd dtX11_step 73 rfl) k) ?_
        refine BdQ.l (fun _ _ k => b_iadd (pc := 145) (dd dtX11_step 74 rfl) k) ?_
        refine BdQ.l (fun _ _ k => b_puti (pc := 146) (dd dtX11_step 75 rfl) fwX11_173 pM_0 k) ?_
        refine BdQ.l (fun _ _ k => b_goto (pc := 149) (tgt := 88) (dd dtX11_step 76 rfl) (by decide) k) ?_
        rw [nI_1, h52, nI_1]
        refine ih (q + 1) _ _ _ (by omega) rfl ?_ (hF.p (by decide)) (by rw [ist_eq, upd_eq]; rfl) (by rw [ist_eq, upd_ne (by decide)]; exact h54)
        first
        | (have hz : q < 6 := lt_n (N := 6) h107 (by omega) (by decide)
           exact (if_pos hz).symm)
        | (have hz : ¬ q < 6 := fun z => h107 (nI_lt (b := 6) z (by decide))
           exact (if_neg hz).symm)
      · refine BdQ.l (fun _ _ k => b_ldc2 (pc := 110) (dd dtX11_step 55 rfl) kcX11_337 k) ?_
        refine BdQ.l (fun _ _ k => b_lload_n (pc := 113) (i := 2) (dd dtX11_step 56 rfl) rfl rfl k) ?_
        refine BdQ.l (fun _ _ k => b_lmul (pc := 114) (dd dtX11_step 57 rfl) k) ?_
        refine BdQ.l (fun _ _ k => b_aload_n (pc := 115) (i := 0) (dd dtX11_step 58 rfl) rfl rfl k) ?_
        refine BdQ.l (fun _ _ k => b_aload_n (pc := 116) (i := 0) (dd dtX11_step 59 rfl) rfl rfl k) ?_
        refine BdQ.l (fun _ _ k => b_geti (pc := 117) (dd dtX11_step 60 rfl) fwX11_173 pM_0 k) ?_
        refine BdQ.l (fun _ _ k => b_invV (pc := 120) (dd dtX11_step 61 rfl) mlX11_331 mvX11_byteAt miX11_byteAt (c_X11_byteAt (hM.fr hF) h52 (by omega)) oM_0 rfl rfl (by decide) (Nat.le_of_ble_eq_true rfl) k) ?_
        rw [br_v (hBR (p + q) (by omega)) (by decide) hq1]
        refine BdQ.l (fun _ _ k => b_i2l (pc := 123) (dd dtX11_step 62 rfl) k) ?_
        refine BdQ.l (fun _ _ k => b_ladd (pc := 124) (dd dtX11_step 63 rfl) k) ?_
        refine BdQ.l (fun _ _ k => b_ldc2 (pc := 125) (dd dtX11_step 64 rfl) kcX11_339 k) ?_
        refine BdQ.l (fun _ _ k => b_lsub (pc := 128) (dd dtX11_step 65 rfl) k) ?_
        refine BdQ.l (fun _ _ k => b_goto (pc := 129) (tgt := 135) (dd dtX11_step 66 rfl) (by decide) k) ?_
        refine BdQ.l (fun _ _ k => b_lstore_n (pc := 135) (i := 2) (lv' := [(2, _), (4, _), (1, _), (0, _)]) (dd dtX11_step 68 rfl) rfl ⟨Nat.le_of_ble_eq_true rfl, Nat.le_of_ble_eq_true rfl⟩ rfl k) ?_
        refine BdQ.l (fun _ _ k => b_iinc1 (pc := 136) (i := 4) (lv' := [(4, _), (2, _), (1, _), (0, _)]) (dd dtX11_step 69 rfl) rfl (Nat.le_of_ble_eq_true rfl) rfl k) ?_
        refine BdQ.l (fun _ _ k => b_aload_n (pc := 139) (i := 0) (dd dtX11_step 70 rfl) rfl rfl k) ?_
        refine BdQ.l (fun _ _ k => b_dup (pc := 140) (dd dtX11_step 71 rfl) rfl k) ?_
        refine BdQ.l (fun _ _ k => b_geti (pc := 141) (dd dtX11_step 72 rfl) fwX11_173 pM_0 k) ?_
        refine BdQ.l (fun _ _ k => b_ic1 (pc := 144) (dd dtX11_step 73 rfl) k) ?_
        refine BdQ.l (fun _ _ k => b_iadd (pc := 145) (dd dtX11_step 74 rfl) k) ?_
        refine BdQ.l (fun _ _ k => b_puti (pc := 146) (dd dtX11_step 75 rfl) fwX11_173 pM_0 k) ?_
        refine BdQ.l (fun _ _ k => b_goto (pc := 149) (tgt := 88) (dd dtX11_step 76 rfl) (by decide) k) ?_
        rw [nI_1, h52, nI_1]
        refine ih (q + 1) _ _ _ (by omega) rfl ?_ (hF.p (by decide)) (by rw [ist_eq, upd_eq]; rfl) (by rw [ist_eq, upd_ne (by decide)]; exact h54)
        first
        | (have hz : q < 6 := lt_n (N := 6) h107 (by omega) (by decide)
           exact (if_pos hz).symm)
        | (have hz : ¬ q < 6 := fun z => h107 (nI_lt (b := 6) z (by decide))
           exact (if_neg hz).symm)
set_option maxHeartbeats 2000000 in
theorem lr_dig {J0 : Wd} {ba n : Nat} {b mb kd nm pl : Nat → Int32} {T : Nat} (hM : MB J0 ba n mb) (hBR : ∀ i, i < n → BRel (b i) (mb i)) (hT : TokOK b n kd nm pl T) {t p e : Nat} {c : Int32} (hp : p < n) (hst : isSt b p) (ht : cnt b p = t) (hlt : t < T) (hpl : pl t = nI p) (hE : RE b n p e) (hl : inR (b p) 48 57) (hK : (4 < e - p ∧ kd t = 1) ∨ (¬ 4 < e - p ∧ kd t = 2 ∧ nm t = nv b p (e - p))) : ∀ (m q : Nat) (W : Wd), q + m = e - p → Fr4 J0 W → W 0 52 = nI (p + q) → W 0 54 = nI p → W 0 55 = nv b p (min q 4) → BdQ SyM mX11_step 3 217 [(1, .int c), (0, .ref 0)] [] W (fun r J' => r = none ∧ Fr4 J0 J' ∧ MTk b n kd nm pl T J' t) := by
  intro m
  induction m with
  | zero =>
    intro q W hq hF h52 h54 h55
    refine BdQ.l (fun _ _ k => b_aload_n (pc := 217) (i := 0) (dd dtX11_step 109 rfl) rfl rfl k) ?_
    refine BdQ.l (fun _ _ k => b_aload_n (pc := 218) (i := 0) (dd dtX11_step 110 rfl) rfl rfl k) ?_
    refine BdQ.l (fun _ _ k => b_aload_n (pc := 219) (i := 0) (dd dtX11_step 111 rfl) rfl rfl k) ?_
    refine BdQ.l (fun _ _ k => b_geti (pc := 220) (dd dtX11_step 112 rfl) fwX11_173 pM_0 k) ?_
    refine BdQ.l (fun _ _ k => b_invV (pc := 223) (dd dtX11_step 113 rfl) mlX11_331 mvX11_byteAt miX11_byteAt (c_X11_byteAt (hM.fr hF) h52 (by have := hE.2.1; have := hE.1; omega)) oM_0 rfl rfl (by decide) (Nat.le_of_ble_eq_true rfl) k) ?_
    refine BdQ.l (fun _ _ k => b_invV (pc := 226) (dd dtX11_step 114 rfl) mlX11_347 mvX11_isDigit miX11_isDigit (c_X11_isDigit) oM_0 rfl rfl (by decide) (Nat.le_of_ble_eq_true rfl) k) ?_
    refine BdQ.c (fun _ _ k1 k2 => b_ifb_eq (pc := 229) (tgt := 281) (dd dtX11_step 115 rfl) (by decide) k1 k2) (fun h229 => ?_) (fun h229 => ?_)
    · have h1 := hE.1
      have h2 := hE.2.1
      have h3 := hM.2.2.2.1
      have hql : q = e - p := by omega
      subst hql
      refine BdQ.l (fun _ _ k => b_aload_n (pc := 281) (i := 0) (dd dtX11_step 143 rfl) rfl rfl k) ?_
      refine BdQ.l (fun _ _ k => b_aload_n (pc := 282) (i := 0) (dd dtX11_step 144 rfl) rfl rfl k) ?_
      refine BdQ.l (fun _ _ k => b_geti (pc := 283) (dd dtX11_step 145 rfl) fwX11_173 pM_0 k) ?_
      refine BdQ.l (fun _ _ k => b_aload_n (pc := 286) (i := 0) (dd dtX11_step 146 rfl) rfl rfl k) ?_
      refine BdQ.l (fun _ _ k => b_geti (pc := 287) (dd dtX11_step 147 rfl) fwX11_179 pM_0 k) ?_
      refine BdQ.l (fun _ _ k => b_isub (pc := 290) (dd dtX11_step 148 rfl) k) ?_
      rw [h52, h54, nI_subp]
      refine BdQ.l (fun _ _ k => b_ic4 (pc := 291) (dd dtX11_step 149 rfl) k) ?_
      refine BdQ.c (fun _ _ k1 k2 => b_icmpL_le (pc := 292) (tgt := 299) (dd dtX11_step 150 rfl) (by decide) k1 k2) (fun h292 => ?_) (fun h292 => ?_)
      · refine BdQ.l (fun _ _ k => b_ic1 (pc := 299) (dd dtX11_step 153 rfl) k) ?_
        refine BdQ.l (fun _ _ k => b_puti (pc := 300) (dd dtX11_step 154 rfl) fwX11_176 pM_0 k) ?_
        refine BdQ.l (fun _ _ k => b_goto (pc := 303) (tgt := 383) (dd dtX11_step 155 rfl) (by decide) k) ?_
        refine ⟨_, _, ?_, b_vret (dd dtX11_step 197 rfl) rfl⟩
        refine ⟨rfl, hF.p (by decide), Nat.le_of_lt hlt, fun _ => ⟨?_, ?_, e, ?_, hE.2.1, RE_bnd hE, by rw [hE.cnt hst, ht]⟩, fun q => absurd q (by omega)⟩
        · rw [ist_eq, upd_ne (by decide), h54, hpl]
        · rw [ist_eq, upd_eq, upd_ne (by decide), h55]
          first
          | (have hz : 4 < e - p := lt_n (h := 4) h292 (by decide) (by omega)
             rcases hK with ⟨k1, k2⟩ | ⟨k1, k2⟩
             · exact Or.inl ⟨k2, rfl⟩
             · exact absurd hz k1)
          | (have hz : ¬ 4 < e - p := fun z => h292 (nI_lt (a := 4) z (by omega))
             rcases hK with ⟨k1, k2⟩ | ⟨k1, k2, k3⟩
             · exact absurd k1 hz
             · rw [show min (e - p) 4 = e - p by omega]
               obtain ⟨k, ek, hk⟩ := nv_in (e - p) (by omega) (fun q hq => run_dig hE hl q (by omega))
               have h10 : 10 ^ (e - p) ≤ 10 ^ 4 := Nat.pow_le_pow_right (by decide) (by omega)
               exact Or.inr (Or.inl ⟨k2, rfl, k3.symm, by rw [k3, ek]; exact nI_pos (by omega)⟩))
        · rw [ist_eq, upd_ne (by decide), h52, show p + (e - p) = e by omega]
      · refine BdQ.l (fun _ _ k => b_icm1 (pc := 295) (dd dtX11_step 151 rfl) k) ?_
        refine BdQ.l (fun _ _ k => b_goto (pc := 296) (tgt := 300) (dd dtX11_step 152 rfl) (by decide) k) ?_
        refine BdQ.l (fun _ _ k => b_puti (pc := 300) (dd dtX11_step 154 rfl) fwX11_176 pM_0 k) ?_
        refine BdQ.l (fun _ _ k => b_goto (pc := 303) (tgt := 383) (dd dtX11_step 155 rfl) (by decide) k) ?_
        refine ⟨_, _, ?_, b_vret (dd dtX11_step 197 rfl) rfl⟩
        refine ⟨rfl, hF.p (by decide), Nat.le_of_lt hlt, fun _ => ⟨?_, ?_, e, ?_, hE.2.1, RE_bnd hE, by rw [hE.cnt hst, ht]⟩, fun q => absurd q (by omega)⟩
        · rw [ist_eq, upd_ne (by decide), h54, hpl]
        · rw [ist_eq, upd_eq, upd_ne (by decide), h55]
          first
          | (have hz : 4 < e - p := lt_n (h := 4) h292 (by decide) (by omega)
             rcases hK with ⟨k1, k2⟩ | ⟨k1, k2⟩
             · exact Or.inl ⟨k2, rfl⟩
             · exact absurd hz k1)
          | (have hz : ¬ 4 < e - p := fun z => h292 (nI_lt (a := 4) z (by omega))
             rcases hK with ⟨k1, k2⟩ | ⟨k1, k2, k3⟩
             · exact absurd k1 hz
             · rw [show min (e - p) 4 = e - p by omega]
               obtain ⟨k, ek, hk⟩ := nv_in (e - p) (by omega) (fun q hq => run_dig hE hl q (by omega))
               have h10 : 10 ^ (e - p) ≤ 10 ^ 4 := Nat.pow_le_pow_right (by decide) (by omega)
               exact Or.inr (Or.inl ⟨k2, rfl, k3.symm, by rw [k3, ek]; exact nI_pos (by omega)⟩))
        · rw [ist_eq, upd_ne (by decide), h52, show p + (e - p) = e by omega]
    · exact absurd h229 (by rw [show p + q = e by have := hE.1; omega]; exact not_dig hM hBR hE hl)
  | succ m ih =>
    intro q W hq hF h52 h54 h55
    have h1 := hE.1
    have h2 := hE.2.1
    have h3 := hM.2.2.2.1
    have hq1 := run_dig hE hl q (by omega)
    refine BdQ.l (fun _ _ k => b_aload_n (pc := 217) (i := 0) (dd dtX11_step 109 rfl) rfl rfl k) ?_
    refine BdQ.l (fun _ _ k => b_aload_n (pc := 218) (i := 0) (dd dtX11_step 110 rfl) rfl rfl k) ?_
    refine BdQ.l (fun _ _ k => b_aload_n (pc := 219) (i := 0) (dd dtX11_step 111 rfl) rfl rfl k) ?_
    refine BdQ.l (fun _ _ k => b_geti (pc := 220) (dd dtX11_step 112 rfl) fwX11_173 pM_0 k) ?_
    refine BdQ.l (fun _ _ k => b_invV (pc := 223) (dd dtX11_step 113 rfl) mlX11_331 mvX11_byteAt miX11_byteAt (c_X11_byteAt (hM.fr hF) h52 (by omega)) oM_0 rfl rfl (by decide) (Nat.le_of_ble_eq_true rfl) k) ?_
    refine BdQ.l (fun _ _ k => b_invV (pc := 226) (dd dtX11_step 114 rfl) mlX11_347 mvX11_isDigit miX11_isDigit (c_X11_isDigit) oM_0 rfl rfl (by decide) (Nat.le_of_ble_eq_true rfl) k) ?_
    refine BdQ.c (fun _ _ k1 k2 => b_ifb_eq (pc := 229) (tgt := 281) (dd dtX11_step 115 rfl) (by decide) k1 k2) (fun h229 => ?_) (fun h229 => ?_)
    · exact absurd ((br_r (hBR (p + q) (by omega)) (by decide) (by decide)).mpr hq1) h229
    · refine BdQ.l (fun _ _ k => b_aload_n (pc := 232) (i := 0) (dd dtX11_step 116 rfl) rfl rfl k) ?_
      refine BdQ.l (fun _ _ k => b_geti (pc := 233) (dd dtX11_step 117 rfl) fwX11_173 pM_0 k) ?_
      refine BdQ.l (fun _ _ k => b_aload_n (pc := 236) (i := 0) (dd dtX11_step 118 rfl) rfl rfl k) ?_
      refine BdQ.l (fun _ _ k => b_geti (pc := 237) (dd dtX11_step 119 rfl) fwX11_179 pM_0 k) ?_
      refine BdQ.l (fun _ _ k => b_isub (pc := 240) (dd dtX11_step 120 rfl) k) ?_
      rw [h52, h54, nI_subp]
      refine BdQ.l (fun _ _ k => b_ic4 (pc := 241) (dd dtX11_step 121 rfl) k) ?_
      refine BdQ.c (fun _ _ k1 k2 => b_icmpL_ge (pc := 242) (tgt := 268) (dd dtX11_step 122 rfl) (by decide) k1 k2) (fun h242 => ?_) (fun h242 => ?_)
      · refine BdQ.l (fun _ _ k => b_aload_n (pc := 268) (i := 0) (dd dtX11_step 136 rfl) rfl rfl k) ?_
        refine BdQ.l (fun _ _ k => b_dup (pc := 269) (dd dtX11_step 137 rfl) rfl k) ?_
        refine BdQ.l (fun _ _ k => b_geti (pc := 270) (dd dtX11_step 138 rfl) fwX11_173 pM_0 k) ?_
        refine BdQ.l (fun _ _ k => b_ic1 (pc := 273) (dd dtX11_step 139 rfl) k) ?_
        refine BdQ.l (fun _ _ k => b_iadd (pc := 274) (dd dtX11_step 140 rfl) k) ?_
        refine BdQ.l (fun _ _ k => b_puti (pc := 275) (dd dtX11_step 141 rfl) fwX11_173 pM_0 k) ?_
        refine BdQ.l (fun _ _ k => b_goto (pc := 278) (tgt := 217) (dd dtX11_step 142 rfl) (by decide) k) ?_
        first
        | (have hz : q < 4 := lt_n (N := 4) h242 (by omega) (by decide)
           rw [ist_eq, upd_ne (show (52 : Nat) ≠ 55 by decide), h52, nI_1]
           refine ih (q + 1) _ (by omega) ((hF.p (by decide)).p (by decide)) (by rw [ist_eq, upd_eq]; rfl) (by rw [ist_eq, upd_ne (by decide), ist_eq, upd_ne (by decide)]; exact h54) ?_
           rw [ist_eq, upd_ne (by decide), ist_eq, upd_eq, h55, show min q 4 = q by omega, show min (q + 1) 4 = q + 1 by omega, Int32.mul_comm]
           rfl)
        | (have hz : ¬ q < 4 := fun z => h242 (nI_lt (b := 4) z (by decide))
           rw [h52, nI_1]
           refine ih (q + 1) _ (by omega) (hF.p (by decide)) (by rw [ist_eq, upd_eq]; rfl) (by rw [ist_eq, upd_ne (by decide)]; exact h54) ?_
           rw [ist_eq, upd_ne (by decide), h55, show min q 4 = 4 by omega, show min (q + 1) 4 = 4 by omega])
      · refine BdQ.l (fun _ _ k => b_aload_n (pc := 245) (i := 0) (dd dtX11_step 123 rfl) rfl rfl k) ?_
        refine BdQ.l (fun _ _ k => b_bipush (pc := 246) (v := 10) (dd dtX11_step 124 rfl) (by decide) k) ?_
        refine BdQ.l (fun _ _ k => b_aload_n (pc := 248) (i := 0) (dd dtX11_step 125 rfl) rfl rfl k) ?_
        refine BdQ.l (fun _ _ k => b_geti (pc := 249) (dd dtX11_step 126 rfl) fwX11_182 pM_0 k) ?_
        refine BdQ.l (fun _ _ k => b_imul (pc := 252) (dd dtX11_step 127 rfl) k) ?_
        refine BdQ.l (fun _ _ k => b_aload_n (pc := 253) (i := 0) (dd dtX11_step 128 rfl) rfl rfl k) ?_
        refine BdQ.l (fun _ _ k => b_aload_n (pc := 254) (i := 0) (dd dtX11_step 129 rfl) rfl rfl k) ?_
        refine BdQ.l (fun _ _ k => b_geti (pc := 255) (dd dtX11_step 130 rfl) fwX11_173 pM_0 k) ?_
        refine BdQ.l (fun _ _ k => b_invV (pc := 258) (dd dtX11_step 131 rfl) mlX11_331 mvX11_byteAt miX11_byteAt (c_X11_byteAt (hM.fr hF) h52 (by omega)) oM_0 rfl rfl (by decide) (Nat.le_of_ble_eq_true rfl) k) ?_
        rw [br_v (hBR (p + q) (by omega)) (by decide) hq1]
        refine BdQ.l (fun _ _ k => b_iadd (pc := 261) (dd dtX11_step 132 rfl) k) ?_
        refine BdQ.l (fun _ _ k => b_bipush (pc := 262) (v := 48) (dd dtX11_step 133 rfl) (by decide) k) ?_
        refine BdQ.l (fun _ _ k => b_isub (pc := 264) (dd dtX11_step 134 rfl) k) ?_
        refine BdQ.l (fun _ _ k => b_puti (pc := 265) (dd dtX11_step 135 rfl) fwX11_182 pM_0 k) ?_
        refine BdQ.l (fun _ _ k => b_aload_n (pc := 268) (i := 0) (dd dtX11_step 136 rfl) rfl rfl k) ?_
        refine BdQ.l (fun _ _ k => b_dup (pc := 269) (dd dtX11_step 137 rfl) rfl k) ?_
        refine BdQ.l (fun _ _ k => b_geti (pc := 270) (dd dtX11_step 138 rfl) fwX11_173 pM_0 k) ?_
        refine BdQ.l (fun _ _ k => b_ic1 (pc := 273) (dd dtX11_step 139 rfl) k) ?_
        refine BdQ.l (fun _ _ k => b_iadd (pc := 274) (dd dtX11_step 140 rfl) k) ?_
        refine BdQ.l (fun _ _ k => b_puti (pc := 275) (dd dtX11_step 141 rfl) fwX11_173 pM_0 k) ?_
        refine BdQ.l (fun _ _ k => b_goto (pc := 278) (tgt := 217) (dd dtX11_step 142 rfl) (by decide) k) ?_
        first
        | (have hz : q < 4 := lt_n (N := 4) h242 (by omega) (by decide)
           rw [ist_eq, upd_ne (show (52 : Nat) ≠ 55 by decide), h52, nI_1]
           refine ih (q + 1) _ (by omega) ((hF.p (by decide)).p (by decide)) (by rw [ist_eq, upd_eq]; rfl) (by rw [ist_eq, upd_ne (by decide), ist_eq, upd_ne (by decide)]; exact h54) ?_
           rw [ist_eq, upd_ne (by decide), ist_eq, upd_eq, h55, show min q 4 = q by omega, show min (q + 1) 4 = q + 1 by omega, Int32.mul_comm]
           rfl)
        | (have hz : ¬ q < 4 := fun z => h242 (nI_lt (b := 4) z (by decide))
           rw [h52, nI_1]
           refine ih (q + 1) _ (by omega) (hF.p (by decide)) (by rw [ist_eq, upd_eq]; rfl) (by rw [ist_eq, upd_ne (by decide)]; exact h54) ?_
           rw [ist_eq, upd_ne (by decide), h55, show min q 4 = 4 by omega, show min (q + 1) 4 = 4 by omega])
