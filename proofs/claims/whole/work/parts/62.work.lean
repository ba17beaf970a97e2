/-! what waits, what is piled -/
def jnW (w a b : Int32) : Int32 := if w = 43 then a + b else if w = 45 then a - b else if w = 42 then a * b else if w = 60 then (if a < b then 1 else 0) else if w = 61 then (if a = b then 1 else 0) else if w = 38 then (if ¬ a = 0 ∧ ¬ b = 0 then 1 else 0) else (if ¬ a = 0 ∨ ¬ b = 0 then 1 else 0)
def unW (w a : Int32) : Int32 := if w = 126 then -a else if a = 0 then 1 else 0
abbrev isU2 (w : Int32) : Prop := w = 33 ∨ w = 126
def mW (w : Int32) (ps : List Int32) : List Int32 := if isU2 w then (match ps with
    | a :: t => unW w a :: t
    | [] => [])
  else (match ps with
    | b :: a :: t => jnW w a b :: t
    | t => t)
def msettle (k : Int32) : List Int32 → List Int32 → Nat → List Int32 × List Int32 × Nat
  | [], ps, o => ([], ps, o)
  | w :: ws, ps, o => if rankF w < k then (w :: ws, ps, o) else msettle k ws (mW w ps) (if isU2 w then o - 1 else o)
abbrev isW (w : Int32) : Prop := w = 40 ∨ w = 126 ∨ w = 33 ∨ w = 42 ∨ w = 43 ∨ w = 45 ∨ w = 60 ∨ w = 61 ∨ w = 38 ∨ w = 124
abbrev isU3 (w : Int32) : Prop := w = 40 ∨ w = 33 ∨ w = 126
def nb : List Int32 → Nat
  | [] => 0
  | w :: ws => (if isU3 w then 0 else 1) + nb ws
def nu : List Int32 → Nat
  | [] => 0
  | w :: ws => (if isU3 w then 1 else 0) + nu ws
/-- enough is piled for what waits -/
def WF (ws ps : List Int32) (o : Nat) : Prop := nb ws + 1 ≤ ps.length ∧ o = nu ws ∧ ∀ w, w ∈ ws → isW w
def MR (J : Wd) (ws ps : List Int32) (o : Nat) : Prop := J 0 59 = nI ws.length ∧ Stk (J 36) ws ∧ J 0 60 = nI ps.length ∧ Stk (J 37) ps ∧ J 0 61 = nI o
def Fr5 (J J' : Wd) : Prop := (∀ a, a ≠ 0 → a ≠ 36 → a ≠ 37 → J' a = J a) ∧ ∀ j, (j < 59 ∨ 61 < j) → J' 0 j = J 0 j
theorem Fr5.r {J : Wd} : Fr5 J J := ⟨fun _ _ _ _ => rfl, fun _ _ => rfl⟩
theorem Fr5.t {J K L : Wd} (h : Fr5 J K) (h2 : Fr5 K L) : Fr5 J L := ⟨fun a a1 a2 a3 => (h2.1 a a1 a2 a3).trans (h.1 a a1 a2 a3), fun j hj => (h2.2 j hj).trans (h.2 j hj)⟩
theorem Fr5.f {J W : Wd} (h : Fr5 J W) {j : Nat} {v : Int32} (hj : 59 ≤ j ∧ j ≤ 61) : Fr5 J (ist W 0 j v) := by
  refine ⟨fun a a1 a2 a3 => by rw [ist_ne a1]; exact h.1 a a1 a2 a3, fun i hi => ?_⟩
  rw [ist_eq, upd_ne (by omega)]
  exact h.2 i hi
theorem Fr5.s {J W : Wd} (h : Fr5 J W) {k j : Nat} {v : Int32} (hk : k = 36 ∨ k = 37) : Fr5 J (ist W k j v) := by
  refine ⟨fun a a1 a2 a3 => by rw [ist_ne (by omega)]; exact h.1 a a1 a2 a3, fun i hi => ?_⟩
  rw [ist_ne (by omega)]
  exact h.2 i hi
theorem and_intro_w {a b : Int32} (h1 : ¬ a = 0) (h2 : ¬ b = 0) : ¬ a = 0 ∧ ¬ b = 0 := ⟨h1, h2⟩
theorem and_neg1_w {a b : Int32} (h1 : a = 0) : ¬ (¬ a = 0 ∧ ¬ b = 0) := fun q => q.1 h1
theorem and_neg2_w {a b : Int32} (h1 : b = 0) : ¬ (¬ a = 0 ∧ ¬ b = 0) := fun q => q.2 h1
theorem or_1_w {a b : Int32} (h1 : ¬ a = 0) : ¬ a = 0 ∨ ¬ b = 0 := Or.inl h1
theorem or_2_w {a b : Int32} (h1 : ¬ b = 0) : ¬ a = 0 ∨ ¬ b = 0 := Or.inr h1
theorem or_n_w {a b : Int32} (h1 : a = 0) (h2 : b = 0) : ¬ (¬ a = 0 ∨ ¬ b = 0) := fun q => q.elim (fun z => z h1) (fun z => z h2)
theorem Stk.low {f : Nat → Int32} {v : Int32} {l : List Int32} {x : Int32} (h : Stk f (v :: l)) : Stk (upd f l.length x) (x :: l) := h.2.push
def tX11_work : List (Nat × Instr × Nat) := [(0, .iload_n 1, 1), (1, .bipush 33, 2), (3, .if_icmp .eq 9, 3), (6, .iload_n 1, 1), (7, .bipush 126, 2), (9, .if_icmp .ne 65, 3), (12, .aload_n 0, 1), (13, .getfield 188, 3), (16, .aload_n 0, 1), (17, .getfield 197, 3), (20, .iconst 1, 1), (21, .isub, 1), (22, .iload_n 1, 1), (23, .bipush 126, 2), (25, .if_icmp .ne 18, 3), (28, .aload_n 0, 1), (29, .getfield 188, 3), (32, .aload_n 0, 1), (33, .getfield 197, 3), (36, .iconst 1, 1), (37, .isub, 1), (38, .iaload, 1), (39, .ineg, 1), (40, .goto 22, 3), (43, .aload_n 0, 1), (44, .getfield 188, 3), (47, .aload_n 0, 1), (48, .getfield 197, 3), (51, .iconst 1, 1), (52, .isub, 1), (53, .iaload, 1), (54, .ifCond .ne 7, 3), (57, .iconst 1, 1), (58, .goto 4, 3), (61, .iconst 0, 1), (62, .iastore, 1), (63, .aload_n 0, 1), (64, .dup, 1), (65, .getfield 200, 3), (68, .iconst 1, 1), (69, .isub, 1), (70, .putfield 200, 3), (73, .return_, 1), (74, .aload_n 0, 1), (75, .dup, 1), (76, .getfield 197, 3), (79, .iconst 1, 1), (80, .isub, 1), (81, .putfield 197, 3), (84, .aload_n 0, 1), (85, .getfield 188, 3), (88, .aload_n 0, 1), (89, .getfield 197, 3), (92, .iconst 1, 1), (93, .isub, 1), (94, .iaload, 1), (95, .istore_n 2, 1), (96, .aload_n 0, 1), (97, .getfield 188, 3), (100, .aload_n 0, 1), (101, .getfield 197, 3), (104, .iaload, 1), (105, .istore_n 3, 1), (106, .aload_n 0, 1), (107, .getfield 188, 3), (110, .aload_n 0, 1), (111, .getfield 197, 3), (114, .iconst 1, 1), (115, .isub, 1), (116, .iload_n 1, 1), (117, .bipush 43, 2), (119, .if_icmp .ne 9, 3), (122, .iload_n 2, 1), (123, .iload_n 3, 1), (124, .iadd, 1), (125, .goto 100, 3), (128, .iload_n 1, 1), (129, .bipush 45, 2), (131, .if_icmp .ne 9, 3), (134, .iload_n 2, 1), (135, .iload_n 3, 1), (136, .isub, 1), (137, .goto 88, 3), (140, .iload_n 1, 1), (141, .bipush 42, 2), (143, .if_icmp .ne 9, 3), (146, .iload_n 2, 1), (147, .iload_n 3, 1), (148, .imul, 1), (149, .goto 76, 3), (152, .iload_n 1, 1), (153, .bipush 60, 2), (155, .if_icmp .ne 16, 3), (158, .iload_n 2, 1), (159, .iload_n 3, 1), (160, .if_icmp .ge 7, 3), (163, .iconst 1, 1), (164, .goto 61, 3), (167, .iconst 0, 1), (168, .goto 57, 3), (171, .iload_n 1, 1), (172, .bipush 61, 2), (174, .if_icmp .ne 16, 3), (177, .iload_n 2, 1), (178, .iload_n 3, 1), (179, .if_icmp .ne 7, 3), (182, .iconst 1, 1), (183, .goto 42, 3), (186, .iconst 0, 1), (187, .goto 38, 3), (190, .iload_n 1, 1), (191, .bipush 38, 2), (193, .if_icmp .ne 19, 3), (196, .iload_n 2, 1), (197, .ifCond .eq 11, 3), (200, .iload_n 3, 1), (201, .ifCond .eq 7, 3), (204, .iconst 1, 1), (205, .goto 20, 3), (208, .iconst 0, 1), (209, .goto 16, 3), (212, .iload_n 2, 1), (213, .ifCond .ne 7, 3), (216, .iload_n 3, 1), (217, .ifCond .eq 7, 3), (220, .iconst 1, 1), (221, .goto 4, 3), (224, .iconst 0, 1), (225, .iastore, 1), (226, .return_, 1)]
theorem dtX11_work : dec_ok mX11_work.2.1 tX11_work = true := by decide +kernel
set_option maxHeartbeats 4000000 in
theorem q_work1 {J : Wd} {ws t : List Int32} {a w : Int32} {o : Nat} (hw : isU2 w) (hR : MR J ws (a :: t) o) (ho : 1 ≤ o) (hl : t.length < 160) : CalQ SyM mX11_work 0 [.ref 0, .int w] J (fun r J' => r = none ∧ Fr5 J J' ∧ MR J' ws (unW w a :: t) (o - 1)) := by
  refine CalQ.of (by decide) (Nat.le_of_ble_eq_true rfl) ?_
  show BdQ _ _ _ _ [(0, _), (1, _)] _ _ _
  obtain ⟨r1, r2, r3, r4, r5⟩ := hR
  have r3b : J 0 60 = nI (t.length + 1) := r3
  refine BdQ.l (fun _ _ k => b_iload_n (pc := 0) (i := 1) (dd dtX11_work 0 rfl) rfl rfl k) ?_
  refine BdQ.l (fun _ _ k => b_bipush (pc := 1) (v := 33) (dd dtX11_work 1 rfl) (by decide) k) ?_
  refine BdQ.b (fun _ _ k1 k2 => b_icmp_eq (pc := 3) (tgt := 12) (dd dtX11_work 2 rfl) (by decide) k1 k2) (fun h3 => ?_) (fun h3 => ?_)
  · refine BdQ.l (fun _ _ k => b_aload_n (pc := 12) (i := 0) (dd dtX11_work 6 rfl) rfl rfl k) ?_
    refine BdQ.l (fun _ _ k => b_geta (pc := 13) (dd dtX11_work 7 rfl) fwX11_188 pM_0 rM_0_57 k) ?_
    refine BdQ.l (fun _ _ k => b_aload_n (pc := 16) (i := 0) (dd dtX11_work 8 rfl) rfl rfl k) ?_
    refine BdQ.l (fun _ _ k => b_geti (pc := 17) (dd dtX11_work 9 rfl) fwX11_197 pM_0 k) ?_
    refine BdQ.l (fun _ _ k => b_ic1 (pc := 20) (dd dtX11_work 10 rfl) k) ?_
    rw [r3b]
    refine BdQ.l (fun _ _ k => b_isub (pc := 21) (dd dtX11_work 11 rfl) k) ?_
    rw [nI_pred]
    refine BdQ.l (fun _ _ k => b_iload_n (pc := 22) (i := 1) (dd dtX11_work 12 rfl) rfl rfl k) ?_
    refine BdQ.l (fun _ _ k => b_bipush (pc := 23) (v := 126) (dd dtX11_work 13 rfl) (by decide) k) ?_
    refine BdQ.c (fun _ _ k1 k2 => b_icmp_ne (pc := 25) (tgt := 43) (dd dtX11_work 14 rfl) (by decide) k1 k2) (fun h25 => ?_) (fun h25 => ?_)
    · refine BdQ.l (fun _ _ k => b_aload_n (pc := 43) (i := 0) (dd dtX11_work 24 rfl) rfl rfl k) ?_
      refine BdQ.l (fun _ _ k => b_geta (pc := 44) (dd dtX11_work 25 rfl) fwX11_188 pM_0 rM_0_57 k) ?_
      refine BdQ.l (fun _ _ k => b_aload_n (pc := 47) (i := 0) (dd dtX11_work 26 rfl) rfl rfl k) ?_
      refine BdQ.l (fun _ _ k => b_geti (pc := 48) (dd dtX11_work 27 rfl) fwX11_197 pM_0 k) ?_
      rw [r3b]
      refine BdQ.l (fun _ _ k => b_ic1 (pc := 51) (dd dtX11_work 28 rfl) k) ?_
      refine BdQ.l (fun _ _ k => b_isub (pc := 52) (dd dtX11_work 29 rfl) k) ?_
      rw [nI_pred]
      refine BdQ.l (fun _ _ k => b_iald (pc := 53) (dd dtX11_work 30 rfl) pM_37 (vpn rfl (show t.length < 161 by omega) (by decide)) k) ?_
      rw [nI_clamp (show t.length < 2 ^ 31 by omega), r4.1]
      refine BdQ.c (fun _ _ k1 k2 => b_if_ne (pc := 54) (tgt := 61) (dd dtX11_work 31 rfl) (by decide) k1 k2) (fun h54 => ?_) (fun h54 => ?_)
      · refine BdQ.l (fun _ _ k => b_ic0 (pc := 61) (dd dtX11_work 34 rfl) k) ?_
        refine BdQ.l (fun _ _ k => b_iast (pc := 62) (dd dtX11_work 35 rfl) pM_37 (vpn rfl (show t.length < 161 by omega) (by decide)) k) ?_
        refine BdQ.l (fun _ _ k => b_aload_n (pc := 63) (i := 0) (dd dtX11_work 36 rfl) rfl rfl k) ?_
        refine BdQ.l (fun _ _ k => b_dup (pc := 64) (dd dtX11_work 37 rfl) rfl k) ?_
        refine BdQ.l (fun _ _ k => b_geti (pc := 65) (dd dtX11_work 38 rfl) fwX11_200 pM_0 k) ?_
        refine BdQ.l (fun _ _ k => b_ic1 (pc := 68) (dd dtX11_work 39 rfl) k) ?_
        refine BdQ.l (fun _ _ k => b_isub (pc := 69) (dd dtX11_work 40 rfl) k) ?_
        refine BdQ.l (fun _ _ k => b_puti (pc := 70) (dd dtX11_work 41 rfl) fwX11_200 pM_0 k) ?_
        refine ⟨_, _, ?_, b_vret (dd dtX11_work 42 rfl) rfl⟩
        rw [nI_clamp (show t.length < 2 ^ 31 by omega)]
        refine ⟨rfl, (Fr5.r.s (Or.inr rfl)).f (by decide), ?_, ?_, ?_, ?_, ?_⟩
        · rw [ist_eq, upd_ne (by decide), ist_ne (by decide)]; exact r1
        · rw [ist_ne (by decide), ist_ne (by decide)]; exact r2
        · rw [ist_eq, upd_ne (by decide), ist_ne (by decide)]; exact r3
        · rw [ist_ne (by decide), ist_eq]
          unfold unW
          first
          | (rw [if_pos h25]; exact r4.low)
          | (rw [if_neg h25, if_pos h54]; exact r4.low)
          | (rw [if_neg h25, if_neg h54]; exact r4.low)
        · rw [ist_eq, upd_eq, ist_ne (by decide), r5, nI_m1 ho]
      · refine BdQ.l (fun _ _ k => b_ic1 (pc := 57) (dd dtX11_work 32 rfl) k) ?_
        refine BdQ.l (fun _ _ k => b_goto (pc := 58) (tgt := 62) (dd dtX11_work 33 rfl) (by decide) k) ?_
        refine BdQ.l (fun _ _ k => b_iast (pc := 62) (dd dtX11_work 35 rfl) pM_37 (vpn rfl (show t.length < 161 by omega) (by decide)) k) ?_
        refine BdQ.l (fun _ _ k => b_aload_n (pc := 63) (i := 0) (dd dtX11_work 36 rfl) rfl rfl k) ?_
        refine BdQ.l (fun _ _ k => b_dup (pc := 64) (dd dtX11_work 37 rfl) rfl k) ?_
        refine BdQ.l (fun _ _ k => b_geti (pc := 65) (dd dtX11_work 38 rfl) fwX11_200 pM_0 k) ?_
        refine BdQ.l (fun _ _ k => b_ic1 (pc := 68) (dd dtX11_work 39 rfl) k) ?_
        refine BdQ.l (fun _ _ k => b_isub (pc := 69) (dd dtX11_work 40 rfl) k) ?_
        refine BdQ.l (fun _ _ k => b_puti (pc := 70) (dd dtX11_work 41 rfl) fwX11_200 pM_0 k) ?_
        refine ⟨_, _, ?_, b_vret (dd dtX11_work 42 rfl) rfl⟩
        rw [nI_clamp (show t.length < 2 ^ 31 by omega)]
        refine ⟨rfl, (Fr5.r.s (Or.inr rfl)).f (by decide), ?_, ?_, ?_, ?_, ?_⟩
        · rw [ist_eq, upd_ne (by decide), ist_ne (by decide)]; exact r1
        · rw [ist_ne (by decide), ist_ne (by decide)]; exact r2
        · rw [ist_eq, upd_ne (by decide), ist_ne (by decide)]; exact r3
        · rw [ist_ne (by decide), ist_eq]
          unfold unW
          first
          | (rw [if_pos h25]; exact r4.low)
          | (rw [if_neg h25, if_pos h54]; exact r4.low)
          | (rw [if_neg h25, if_neg h54]; exact r4.low)
        · rw [ist_eq, upd_eq, ist_ne (by decide), r5, nI_m1 ho]
    · refine BdQ.l (fun _ _ k => b_aload_n (pc := 28) (i := 0) (dd dtX11_work 15 rfl) rfl rfl k) ?_
      refine BdQ.l (fun _ _ k => b_geta (pc := 29) (dd dtX11_work 16 rfl) fwX11_188 pM_0 rM_0_57 k) ?_
      refine BdQ.l (fun _ _ k => b_aload_n (pc := 32) (i := 0) (dd dtX11_work 17 rfl) rfl rfl k) ?_
      refine BdQ.l (fun _ _ k => b_geti (pc := 33) (dd dtX11_work 18 rfl) fwX11_197 pM_0 k) ?_
      rw [r3b]
      refine BdQ.l (fun _ _ k => b_ic1 (pc := 36) (dd dtX11_work 19 rfl) k) ?_
      refine BdQ.l (fun _ _ k => b_isub (pc := 37) (dd dtX11_work 20 rfl) k) ?_
      rw [nI_pred]
      refine BdQ.l (fun _ _ k => b_iald (pc := 38) (dd dtX11_work 21 rfl) pM_37 (vpn rfl (show t.length < 161 by omega) (by decide)) k) ?_
      rw [nI_clamp (show t.length < 2 ^ 31 by omega), r4.1]
      refine BdQ.l (fun _ _ k => b_ineg (pc := 39) (dd dtX11_work 22 rfl) k) ?_
      refine BdQ.l (fun _ _ k => b_goto (pc := 40) (tgt := 62) (dd dtX11_work 23 rfl) (by decide) k) ?_
      refine BdQ.l (fun _ _ k => b_iast (pc := 62) (dd dtX11_work 35 rfl) pM_37 (vpn rfl (show t.length < 161 by omega) (by decide)) k) ?_
      refine BdQ.l (fun _ _ k => b_aload_n (pc := 63) (i := 0) (dd dtX11_work 36 rfl) rfl rfl k) ?_
      refine BdQ.l (fun _ _ k => b_dup (pc := 64) (dd dtX11_work 37 rfl) rfl k) ?_
      refine BdQ.l (fun _ _ k => b_geti (pc := 65) (dd dtX11_work 38 rfl) fwX11_200 pM_0 k) ?_
      refine BdQ.l (fun _ _ k => b_ic1 (pc := 68) (dd dtX11_work 39 rfl) k) ?_
      refine BdQ.l (fun _ _ k => b_isub (pc := 69) (dd dtX11_work 40 rfl) k) ?_
      refine BdQ.l (fun _ _ k => b_puti (pc := 70) (dd dtX11_work 41 rfl) fwX11_200 pM_0 k) ?_
      refine ⟨_, _, ?_, b_vret (dd dtX11_work 42 rfl) rfl⟩
      rw [nI_clamp (show t.length < 2 ^ 31 by omega)]
      refine ⟨rfl, (Fr5.r.s (Or.inr rfl)).f (by decide), ?_, ?_, ?_, ?_, ?_⟩
      · rw [ist_eq, upd_ne (by decide), ist_ne (by decide)]; exact r1
      · rw [ist_ne (by decide), ist_ne (by decide)]; exact r2
      · rw [ist_eq, upd_ne (by decide), ist_ne (by decide)]; exact r3
      · rw [ist_ne (by decide), ist_eq]
        unfold unW
        first
        | (rw [if_pos h25]; exact r4.low)
        | (rw [if_neg h25, if_pos h54]; exact r4.low)
        | (rw [if_neg h25, if_neg h54]; exact r4.low)
      · rw [ist_eq, upd_eq, ist_ne (by decide), r5, nI_m1 ho]
  · refine BdQ.l (fun _ _ k => b_iload_n (pc := 6) (i := 1) (dd dtX11_work 3 rfl) rfl rfl k) ?_
    refine BdQ.l (fun _ _ k => b_bipush (pc := 7) (v := 126) (dd dtX11_work 4 rfl) (by decide) k) ?_
    refine BdQ.c (fun _ _ k1 k2 => b_icmp_ne (pc := 9) (tgt := 74) (dd dtX11_work 5 rfl) (by decide) k1 k2) (fun h9 => ?_) (fun h9 => ?_)
    · exact absurd hw (fun q => q.elim h3 h9)
    · refine BdQ.l (fun _ _ k => b_aload_n (pc := 12) (i := 0) (dd dtX11_work 6 rfl) rfl rfl k) ?_
      refine BdQ.l (fun _ _ k => b_geta (pc := 13) (dd dtX11_work 7 rfl) fwX11_188 pM_0 rM_0_57 k) ?_
      refine BdQ.l (fun _ _ k => b_aload_n (pc := 16) (i := 0) (dd dtX11_work 8 rfl) rfl rfl k) ?_
      refine BdQ.l (fun _ _ k => b_geti (pc := 17) (dd dtX11_work 9 rfl) fwX11_197 pM_0 k) ?_
      refine BdQ.l (fun _ _ k => b_ic1 (pc := 20) (dd dtX11_work 10 rfl) k) ?_
      rw [r3b]
      refine BdQ.l (fun _ _ k => b_isub (pc := 21) (dd dtX11_work 11 rfl) k) ?_
      rw [nI_pred]
      refine BdQ.l (fun _ _ k => b_iload_n (pc := 22) (i := 1) (dd dtX11_work 12 rfl) rfl rfl k) ?_
      refine BdQ.l (fun _ _ k => b_bipush (pc := 23) (v := 126) (dd dtX11_work 13 rfl) (by decide) k) ?_
      refine BdQ.c (fun _ _ k1 k2 => b_icmp_ne (pc := 25) (tgt := 43) (dd dtX11_work 14 rfl) (by decide) k1 k2) (fun h25 => ?_) (fun h25 => ?_)
      · refine BdQ.l (fun _ _ k => b_aload_n (pc := 43) (i := 0) (dd dtX11_work 24 rfl) rfl rfl k) ?_
        refine BdQ.l (fun _ _ k => b_geta (pc := 44) (dd dtX11_work 25 rfl) fwX11_188 pM_0 rM_0_57 k) ?_
        refine BdQ.l (fun _ _ k => b_aload_n (pc := 47) (i := 0) (dd dtX11_work 26 rfl) rfl rfl k) ?_
        refine BdQ.l (fun _ _ k => b_geti (pc := 48) (dd dtX11_work 27 rfl) fwX11_197 pM_0 k) ?_
        rw [r3b]
        refine BdQ.l (fun _ _ k => b_ic1 (pc := 51) (dd dtX11_work 28 rfl) k) ?_
        refine BdQ.l (fun _ _ k => b_isub (pc := 52) (dd dtX11_work 29 rfl) k) ?_
        rw [nI_pred]
        refine BdQ.l (fun _ _ k => b_iald (pc := 53) (dd dtX11_work 30 rfl) pM_37 (vpn rfl (show t.length < 161 by omega) (by decide)) k) ?_
        rw [nI_clamp (show t.length < 2 ^ 31 by omega), r4.1]
        refine BdQ.c (fun _ _ k1 k2 => b_if_ne (pc := 54) (tgt := 61) (dd dtX11_work 31 rfl) (by decide) k1 k2) (fun h54 => ?_) (fun h54 => ?_)
        · refine BdQ.l (fun _ _ k => b_ic0 (pc := 61) (dd dtX11_work 34 rfl) k) ?_
          refine BdQ.l (fun _ _ k => b_iast (pc := 62) (dd dtX11_work 35 rfl) pM_37 (vpn rfl (show t.length < 161 by omega) (by decide)) k) ?_
          refine BdQ.l (fun _ _ k => b_aload_n (pc := 63) (i := 0) (dd dtX11_work 36 rfl) rfl rfl k) ?_
          refine BdQ.l (fun _ _ k => b_dup (pc := 64) (dd dtX11_work 37 rfl) rfl k) ?_
          refine BdQ.l (fun _ _ k => b_geti (pc := 65) (dd dtX11_work 38 rfl) fwX11_200 pM_0 k) ?_
          refine BdQ.l (fun _ _ k => b_ic1 (pc := 68) (dd dtX11_work 39 rfl) k) ?_
          refine BdQ.l (fun _ _ k => b_isub (pc := 69) (dd dtX11_work 40 rfl) k) ?_
          refine BdQ.l (fun _ _ k => b_puti (pc := 70) (dd dtX11_work 41 rfl) fwX11_200 pM_0 k) ?_
          refine ⟨_, _, ?_, b_vret (dd dtX11_work 42 rfl) rfl⟩
          rw [nI_clamp (show t.length < 2 ^ 31 by omega)]
          refine ⟨rfl, (Fr5.r.s (Or.inr rfl)).f (by decide), ?_, ?_, ?_, ?_, ?_⟩
          · rw [ist_eq, upd_ne (by decide), ist_ne (by decide)]; exact r1
          · rw [ist_ne (by decide), ist_ne (by decide)]; exact r2
          · rw [ist_eq, upd_ne (by decide), ist_ne (by decide)]; exact r3
          · rw [ist_ne (by decide), ist_eq]
            unfold unW
            first
            | (rw [if_pos h25]; exact r4.low)
            | (rw [if_neg h25, if_pos h54]; exact r4.low)
            | (rw [if_neg h25, if_neg h54]; exact r4.low)
          · rw [ist_eq, upd_eq, ist_ne (by decide), r5, nI_m1 ho]
        · refine BdQ.l (fun _ _ k => b_ic1 (pc := 57) (dd dtX11_work 32 rfl) k) ?_
          refine BdQ.l (fun _ _ k => b_goto (pc := 58) (tgt := 62) (dd dtX11_work 33 rfl) (by decide) k) ?_
          refine BdQ.l (fun _ _ k => b_iast (pc := 62) (dd dtX11_work 35 rfl) pM_37 (vpn rfl (show t.length < 161 by omega) (by decide)) k) ?_
          refine BdQ.l (fun _ _ k => b_aload_n (pc := 63) (i := 0) (dd dtX11_work 36 rfl) rfl rfl k) ?_
          refine BdQ.l (fun _ _ k => b_dup (pc := 64) (dd dtX11_work 37 rfl) rfl k) ?_
          refine BdQ.l (fun _ _ k => b_geti (pc := 65) (dd dtX11_work 38 rfl) fwX11_200 pM_0 k) ?_
          refine BdQ.l (fun _ _ k => b_ic1 (pc := 68) (dd dtX11_work 39 rfl) k) ?_
          refine BdQ.l (fun _ _ k => b_isub (pc := 69) (dd dtX11_work 40 rfl) k) ?_
          refine BdQ.l (fun _ _ k => b_puti (pc := 70) (dd dtX11_work 41 rfl) fwX11_200 pM_0 k) ?_
          refine ⟨_, _, ?_, b_vret (dd dtX11_work 42 rfl) rfl⟩
          rw [nI_clamp (show t.length < 2 ^ 31 by omega)]
          refine ⟨rfl, (Fr5.r.s (Or.inr rfl)).f (by decide), ?_, ?_, ?_, ?_, ?_⟩
          · rw [ist_eq, upd_ne (by decide), ist_ne (by decide)]; exact r1
          · rw [ist_ne (by decide), ist_ne (by decide)]; exact r2
          · rw [ist_eq, upd_ne (by decide), ist_ne (by decide)]; exact r3
          · rw [ist_ne (by decide), ist_eq]
            unfold unW
            first
            | (rw [if_pos h25]; exact r4.low)
            | (rw [if_neg h25, if_pos h54]; exact r4.low)
            | (rw [if_neg h25, if_neg h54]; exact r4.low)
          · rw [ist_eq, upd_eq, ist_ne (by decide), r5, nI_m1 ho]
      · refine BdQ.l (fun _ _ k => b_aload_n (pc := 28) (i := 0) (dd dtX11_work 15 rfl) rfl rfl k) ?_
        refine BdQ.l (fun _ _ k => b_geta (pc := 29) (dd dtX11_work 16 rfl) fwX11_188 pM_0 rM_0_57 k) ?_
        refine BdQ.l (fun _ _ k => b_aload_n (pc := 32) (i := 0) (dd dtX11_work 17 rfl) rfl rfl k) ?_
        refine BdQ.l (fun _ _ k => b_geti (pc := 33) (dd dtX11_work 18 rfl) fwX11_197 pM_0 k) ?_
        rw [r3b]
        refine BdQ.l (fun _ _ k => b_ic1 (pc := 36) (dd dtX11_work 19 rfl) k) ?_
        refine BdQ.l (fun _ _ k => b_isub (pc := 37) (dd dtX11_work 20 rfl) k) ?_
        rw [nI_pred]
        refine BdQ.l (fun _ _ k => b_iald (pc := 38) (dd dtX11_work 21 rfl) pM_37 (vpn rfl (show t.length < 161 by omega) (by decide)) k) ?_
        rw [nI_clamp (show t.length < 2 ^ 31 by omega), r4.1]
        refine BdQ.l (fun _ _ k => b_ineg (pc := 39) (dd dtX11_work 22 rfl) k) ?_
        refine BdQ.l (fun _ _ k => b_goto (pc := 40) (tgt := 62) (dd dtX11_work 23 rfl) (by decide) k) ?_
        refine BdQ.l (fun _ _ k => b_iast (pc := 62) (dd dtX11_work 35 rfl) pM_37 (vpn rfl (show t.length < 161 by omega) (by decide)) k) ?_
        refine BdQ.l (fun _ _ k => b_aload_n (pc := 63) (i := 0) (dd dtX11_work 36 rfl) rfl rfl k) ?_
        refine BdQ.l (fun _ _ k => b_dup (pc := 64) (dd dtX11_work 37 rfl) rfl k) ?_
        refine BdQ.l (fun _ _ k => b_geti (pc := 65) (dd dtX11_work 38 rfl) fwX11_200 pM_0 k) ?_
        refine BdQ.l (fun _ _ k => b_ic1 (pc := 68) (dd dtX11_work 39 rfl) k) ?_
        refine BdQ.l (fun _ _ k => b_isub (pc := 69) (dd dtX11_work 40 rfl) k) ?_
        refine BdQ.l (fun _ _ k => b_puti (pc := 70) (dd dtX11_work 41 rfl) fwX11_200 pM_0 k) ?_
        refine ⟨_, _, ?_, b_vret (dd dtX11_work 42 rfl) rfl⟩
        rw [nI_clamp (show t.length < 2 ^ 31 by omega)]
        refine ⟨rfl, (Fr5.r.s (Or.inr rfl)).f (by decide), ?_, ?_, ?_, ?_, ?_⟩
        · rw [ist_eq, upd_ne (by decide), ist_ne (by decide)]; exact r1
        · rw [ist_ne (by decide), ist_ne (by decide)]; exact r2
        · rw [ist_eq, upd_ne (by decide), ist_ne (by decide)]; exact r3
        · rw [ist_ne (by decide), ist_eq]
          unfold unW
          first
          | (rw [if_pos h25]; exact r4.low)
          | (rw [if_neg h25, if_pos h54]; exact r4.low)
          | (rw [if_neg h25, if_neg h54]; exact r4.low)
        · rw [ist_eq, upd_eq, ist_ne (by decide), r5, nI_m1 ho]
set_option maxHeartbeats 4000000 in
theorem q_work2 {J : Wd} {ws t : List Int32} {a b w : Int32} {o : Nat} (hw : ¬ isU2 w) (hR : MR J ws (b :: a :: t) o) (hl : t.length + 1 < 160) : CalQ SyM mX11_work 0 [.ref 0, .int w] J (fun r J' => r = none ∧ Fr5 J J' ∧ MR J' ws (jnW w a b :: t) o) := by
  refine CalQ.of (by decide) (Nat.le_of_ble_eq_true rfl) ?_
  show BdQ _ _ _ _ [(0, _), (1, _)] _ _ _
  obtain ⟨r1, r2, r3, r4, r5⟩ := hR
  have r3b : J 0 60 = nI (t.length + 1 + 1) := r3
  have hb : J 37 (t.length + 1) = b := r4.1
  have ha : J 37 t.length = a := r4.2.1
  refine BdQ.l (fun _ _ k => b_iload_n (pc := 0) (i := 1) (dd dtX11_work 0 rfl) rfl rfl k) ?_
  refine BdQ.l (fun _ _ k => b_bipush (pc := 1) (v := 33) (dd dtX11_work 1 rfl) (by decide) k) ?_
  refine BdQ.b (fun _ _ k1 k2 => b_icmp_eq (pc := 3) (tgt := 12) (dd dtX11_work 2 rfl) (by decide) k1 k2) (fun h3 => ?_) (fun h3 => ?_)
  · exact absurd (Or.inl h3) hw
  · refine BdQ.l (fun _ _ k => b_iload_n (pc := 6) (i := 1) (dd dtX11_work 3 rfl) rfl rfl k) ?_
    refine BdQ.l (fun _ _ k => b_bipush (pc := 7) (v := 126) (dd dtX11_work 4 rfl) (by decide) k) ?_
    refine BdQ.c (fun _ _ k1 k2 => b_icmp_ne (pc := 9) (tgt := 74) (dd dtX11_work 5 rfl) (by decide) k1 k2) (fun h9 => ?_) (fun h9 => ?_)
    · refine BdQ.l (fun _ _ k => b_aload_n (pc := 74) (i := 0) (dd dtX11_work 43 rfl) rfl rfl k) ?_
      refine BdQ.l (fun _ _ k => b_dup (pc := 75) (dd dtX11_work 44 rfl) rfl k) ?_
      refine BdQ.l (fun _ _ k => b_geti (pc := 76) (dd dtX11_work 45 rfl) fwX11_197 pM_0 k) ?_
      refine BdQ.l (fun _ _ k => b_ic1 (pc := 79) (dd dtX11_work 46 rfl) k) ?_
      refine BdQ.l (fun _ _ k => b_isub (pc := 80) (dd dtX11_work 47 rfl) k) ?_
      rw [r3b, nI_pred]
      refine BdQ.l (fun _ _ k => b_puti (pc := 81) (dd dtX11_work 48 rfl) fwX11_197 pM_0 k) ?_
      refine BdQ.l (fun _ _ k => b_aload_n (pc := 84) (i := 0) (dd dtX11_work 49 rfl) rfl rfl k) ?_
      refine BdQ.l (fun _ _ k => b_geta (pc := 85) (dd dtX11_work 50 rfl) fwX11_188 pM_0 rM_0_57 k) ?_
      refine BdQ.l (fun _ _ k => b_aload_n (pc := 88) (i := 0) (dd dtX11_work 51 rfl) rfl rfl k) ?_
      refine BdQ.l (fun _ _ k => b_geti (pc := 89) (dd dtX11_work 52 rfl) fwX11_197 pM_0 k) ?_
      rw [ist_eq, upd_eq]
      refine BdQ.l (fun _ _ k => b_ic1 (pc := 92) (dd dtX11_work 53 rfl) k) ?_
      refine BdQ.l (fun _ _ k => b_isub (pc := 93) (dd dtX11_work 54 rfl) k) ?_
      rw [nI_pred]
      refine BdQ.l (fun _ _ k => b_iald (pc := 94) (dd dtX11_work 55 rfl) pM_37 (vpn rfl (show t.length < 161 by omega) (by decide)) k) ?_
      rw [nI_clamp (show t.length < 2 ^ 31 by omega), ist_ne (show (37 : Nat) ≠ 0 by decide), ha]
      refine BdQ.l (fun _ _ k => b_istore_n (pc := 95) (i := 2) (lv' := [(2, _), (0, _), (1, _)]) (dd dtX11_work 56 rfl) rfl (Nat.le_of_ble_eq_true rfl) rfl k) ?_
      refine BdQ.l (fun _ _ k => b_aload_n (pc := 96) (i := 0) (dd dtX11_work 57 rfl) rfl rfl k) ?_
      refine BdQ.l (fun _ _ k => b_geta (pc := 97) (dd dtX11_work 58 rfl) fwX11_188 pM_0 rM_0_57 k) ?_
      refine BdQ.l (fun _ _ k => b_aload_n (pc := 100) (i := 0) (dd dtX11_work 59 rfl) rfl rfl k) ?_
      refine BdQ.l (fun _ _ k => b_geti (pc := 101) (dd dtX11_work 60 rfl) fwX11_197 pM_0 k) ?_
      rw [ist_eq, upd_eq]
      refine BdQ.l (fun _ _ k => b_iald (pc := 104) (dd dtX11_work 61 rfl) pM_37 (vpn rfl (show t.length + 1 < 161 by omega) (by decide)) k) ?_
      rw [nI_clamp (show t.length + 1 < 2 ^ 31 by omega), ist_ne (show (37 : Nat) ≠ 0 by decide), hb]
      refine BdQ.l (fun _ _ k => b_istore_n (pc := 105) (i := 3) (lv' := [(3, _), (2, _), (0, _), (1, _)]) (dd dtX11_work 62 rfl) rfl (Nat.le_of_ble_eq_true rfl) rfl k) ?_
      refine BdQ.l (fun _ _ k => b_aload_n (pc := 106) (i := 0) (dd dtX11_work 63 rfl) rfl rfl k) ?_
      refine BdQ.l (fun _ _ k => b_geta (pc := 107) (dd dtX11_work 64 rfl) fwX11_188 pM_0 rM_0_57 k) ?_
      refine BdQ.l (fun _ _ k => b_aload_n (pc := 110) (i := 0) (dd dtX11_work 65 rfl) rfl rfl k) ?_
      refine BdQ.l (fun _ _ k => b_geti (pc := 111) (dd dtX11_work 66 rfl) fwX11_197 pM_0 k) ?_
      rw [ist_eq, upd_eq]
      refine BdQ.l (fun _ _ k => b_ic1 (pc := 114) (dd dtX11_work 67 rfl) k) ?_
      refine BdQ.l (fun _ _ k => b_isub (pc := 115) (dd dtX11_work 68 rfl) k) ?_
      rw [nI_pred]
      refine BdQ.l (fun _ _ k => b_iload_n (pc := 116) (i := 1) (dd dtX11_work 69 rfl) rfl rfl k) ?_
      refine BdQ.l (fun _ _ k => b_bipush (pc := 117) (v := 43) (dd dtX11_work 70 rfl) (by decide) k) ?_
      refine BdQ.c (fun _ _ k1 k2 => b_icmp_ne (pc := 119) (tgt := 128) (dd dtX11_work 71 rfl) (by decide) k1 k2) (fun h119 => ?_) (fun h119 => ?_)
      · refine BdQ.l (fun _ _ k => b_iload_n (pc := 128) (i := 1) (dd dtX11_work 76 rfl) rfl rfl k) ?_
        refine BdQ.l (fun _ _ k => b_bipush (pc := 129) (v := 45) (dd dtX11_work 77 rfl) (by decide) k) ?_
        refine BdQ.c (fun _ _ k1 k2 => b_icmp_ne (pc := 131) (tgt := 140) (dd dtX11_work 78 rfl) (by decide) k1 k2) (fun h131 => ?_) (fun h131 => ?_)
        · refine BdQ.l (fun _ _ k => b_iload_n (pc := 140) (i := 1) (dd dtX11_work 83 rfl) rfl rfl k) ?_
          refine BdQ.l (fun _ _ k => b_bipush (pc := 141) (v := 42) (dd dtX11_work 84 rfl) (by decide) k) ?_
          refine BdQ.c (fun _ _ k1 k2 => b_icmp_ne (pc := 143) (tgt := 152) (dd dtX11_work 85 rfl) (by decide) k1 k2) (fun h143 => ?_) (fun h143 => ?_)
          · refine BdQ.l (fun _ _ k => b_iload_n (pc := 152) (i := 1) (dd dtX11_work 90 rfl) rfl rfl k) ?_
            refine BdQ.l (fun _ _ k => b_bipush (pc := 153) (v := 60) (dd dtX11_work 91 rfl) (by decide) k) ?_
            refine BdQ.c (fun _ _ k1 k2 => b_icmp_ne (pc := 155) (tgt := 171) (dd dtX11_work 92 rfl) (by decide) k1 k2) (fun h155 => ?_) (fun h155 => ?_)
            · refine BdQ.l (fun _ _ k => b_iload_n (pc := 171) (i := 1) (dd dtX11_work 100 rfl) rfl rfl k) ?_
              refine BdQ.l (fun _ _ k => b_bipush (pc := 172) (v := 61) (dd dtX11_work 101 rfl) (by decide) k) ?_
              refine BdQ.c (fun _ _ k1 k2 => b_icmp_ne (pc := 174) (tgt := 190) (dd dtX11_work 102 rfl) (by decide) k1 k2) (fun h174 => ?_) (fun h174 => ?_)
              · refine BdQ.l (fun _ _ k => b_iload_n (pc := 190) (i := 1) (dd dtX11_work 110 rfl) rfl rfl k) ?_
                refine BdQ.l (fun _ _ k => b_bipush (pc := 191) (v := 38) (dd dtX11_work 111 rfl) (by decide) k) ?_
                refine BdQ.c (fun _ _ k1 k2 => b_icmp_ne (pc := 193) (tgt := 212) (dd dtX11_work 112 rfl) (by decide) k1 k2) (fun h193 => ?_) (fun h193 => ?_)
                · refine BdQ.l (fun _ _ k => b_iload_n (pc := 212) (i := 2) (dd dtX11_work 121 rfl) rfl rfl k) ?_
                  refine BdQ.c (fun _ _ k1 k2 => b_if_ne (pc := 213) (tgt := 220) (dd dtX11_work 122 rfl) (by decide) k1 k2) (fun h213 => ?_) (fun h213 => ?_)
                  · refine BdQ.l (fun _ _ k => b_ic1 (pc := 220) (dd dtX11_work 125 rfl) k) ?_
                    refine BdQ.l (fun _ _ k => b_goto (pc := 221) (tgt := 225) (dd dtX11_work 126 rfl) (by decide) k) ?_
                    refine BdQ.l (fun _ _ k => b_iast (pc := 225) (dd dtX11_work 128 rfl) pM_37 (vpn rfl (show t.length < 161 by omega) (by decide)) k) ?_
                    refine ⟨_, _, ?_, b_vret (dd dtX11_work 129 rfl) rfl⟩
                    rw [nI_clamp (show t.length < 2 ^ 31 by omega)]
                    refine ⟨rfl, (Fr5.r.f (by decide)).s (Or.inr rfl), ?_, ?_, ?_, ?_, ?_⟩
                    · rw [ist_ne (by decide), ist_eq, upd_ne (by decide)]; exact r1
                    · rw [ist_ne (by decide), ist_ne (by decide)]; exact r2
                    · rw [ist_ne (by decide), ist_eq, upd_eq]; rfl
                    · rw [ist_eq, ist_ne (by decide)]
                      unfold jnW
                      first
                      | (rw [if_pos h119]; exact r4.2.low)
                      | (rw [if_neg h119, if_pos h131]; exact r4.2.low)
                      | (rw [if_neg h119, if_neg h131, if_pos h143]; exact r4.2.low)
                      | (rw [if_neg h119, if_neg h131, if_neg h143, if_pos h155, if_pos h160]; exact r4.2.low)
                      | (rw [if_neg h119, if_neg h131, if_neg h143, if_pos h155, if_neg h160]; exact r4.2.low)
                      | (rw [if_neg h119, if_neg h131, if_neg h143, if_neg h155, if_pos h174, if_pos h179]; exact r4.2.low)
                      | (rw [if_neg h119, if_neg h131, if_neg h143, if_neg h155, if_pos h174, if_neg h179]; exact r4.2.low)
                      | (have hz := and_intro_w h197 h201
                         rw [if_neg h119, if_neg h131, if_neg h143, if_neg h155, if_neg h174, if_pos h193, if_pos hz]; exact r4.2.low)
                      | (have hz := and_neg1_w (b := b) h197
                         rw [if_neg h119, if_neg h131, if_neg h143, if_neg h155, if_neg h174, if_pos h193, if_neg hz]; exact r4.2.low)
                      | (have hz := and_neg2_w (a := a) h201
                         rw [if_neg h119, if_neg h131, if_neg h143, if_neg h155, if_neg h174, if_pos h193, if_neg hz]; exact r4.2.low)
                      | (have hz := or_1_w (b := b) h213
                         rw [if_neg h119, if_neg h131, if_neg h143, if_neg h155, if_neg h174, if_neg h193, if_pos hz]; exact r4.2.low)
                      | (have hz := or_2_w (a := a) h217
                         rw [if_neg h119, if_neg h131, if_neg h143, if_neg h155, if_neg h174, if_neg h193, if_pos hz]; exact r4.2.low)
                      | (have hz := or_n_w h213 h217
                         rw [if_neg h119, if_neg h131, if_neg h143, if_neg h155, if_neg h174, if_neg h193, if_neg hz]; exact r4.2.low)
                    · rw [ist_ne (by decide), ist_eq, upd_ne (by decide)]; exact r5
                  · refine BdQ.l (fun _ _ k => b_iload_n (pc := 216) (i := 3) (dd dtX11_work 123 rfl) rfl rfl k) ?_
                    refine BdQ.b (fun _ _ k1 k2 => b_if_eq (pc := 217) (tgt := 224) (dd dtX11_work 124 rfl) (by decide) k1 k2) (fun h217 => ?_) (fun h217 => ?_)
                    · refine BdQ.l (fun _ _ k => b_ic0 (pc := 224) (dd dtX11_work 127 rfl) k) ?_
                      refine BdQ.l (fun _ _ k => b_iast (pc := 225) (dd dtX11_work 128 rfl) pM_37 (vpn rfl (show t.length < 161 by omega) (by decide)) k) ?_
                      refine ⟨_, _, ?_, b_vret (dd dtX11_work 129 rfl) rfl⟩
                      rw [nI_clamp (show t.length < 2 ^ 31 by omega)]
                      refine ⟨rfl, (Fr5.r.f (by decide)).s (Or.inr rfl), ?_, ?_, ?_, ?_, ?_⟩
                      · rw [ist_ne (by decide), ist_eq, upd_ne (by decide)]; exact r1
                      · rw [ist_ne (by decide), ist_ne (by decide)]; exact r2
                      · rw [ist_ne (by decide), ist_eq, upd_eq]; rfl
                      · rw [ist_eq, ist_ne (by decide)]
                        unfold jnW
                        first
                        | (rw [if_pos h119]; exact r4.2.low)
                        | (rw [if_neg h119, if_pos h131]; exact r4.2.low)
                        | (rw [if_neg h119, if_neg h131, if_pos h143]; exact r4.2.low)
                        | (rw [if_neg h119, if_neg h131, if_neg h143, if_pos h155, if_pos h160]; exact r4.2.low)
                        | (rw [if_neg h119, if_neg h131, if_neg h143, if_pos h155, if_neg h160]; exact r4.2.low)
                        | (rw [if_neg h119, if_neg h131, if_neg h143, if_neg h155, if_pos h174, if_pos h179]; exact r4.2.low)
                        | (rw [if_neg h119, if_neg h131, if_neg h143, if_neg h155, if_pos h174, if_neg h179]; exact r4.2.low)
                        | (have hz := and_intro_w h197 h201
                           rw [if_neg h119, if_neg h131, if_neg h143, if_neg h155, if_neg h174, if_pos h193, if_pos hz]; exact r4.2.low)
                        | (have hz := and_neg1_w (b := b) h197
                           rw [if_neg h119, if_neg h131, if_neg h143, if_neg h155, if_neg h174, if_pos h193, if_neg hz]; exact r4.2.low)
                        | (have hz := and_neg2_w (a := a) h201
                           rw [if_neg h119, if_neg h131, if_neg h143, if_neg h155, if_neg h174, if_pos h193, if_neg hz]; exact r4.2.low)
                        | (have hz := or_1_w (b := b) h213
                           rw [if_neg h119, if_neg h131, if_neg h143, if_neg h155, if_neg h174, if_neg h193, if_pos hz]; exact r4.2.low)
                        | (have hz := or_2_w (a := a) h217
                           rw [if_neg h119, if_neg h131, if_neg h143, if_neg h155, if_neg h174, if_neg h193, if_pos hz]; exact r4.2.low)
                        | (have hz := or_n_w h213 h217
                           rw [if_neg h119, if_neg h131, if_neg h143, if_neg h155, if_neg h174, if_neg h193, if_neg hz]; exact r4.2.low)
                      · rw [ist_ne (by decide), ist_eq, upd_ne (by decide)]; exact r5
                    · refine BdQ.l (fun _ _ k => b_ic1 (pc := 220) (dd dtX11_work 125 rfl) k) ?_
                      refine BdQ.l (fun _ _ k => b_goto (pc := 221) (tgt := 225) (dd dtX11_work 126 rfl) (by decide) k) ?_
                      refine BdQ.l (fun _ _ k => b_iast (pc := 225) (dd dtX11_work 128 rfl) pM_37 (vpn rfl (show t.length < 161 by omega) (by decide)) k) ?_
                      refine ⟨_, _, ?_, b_vret (dd dtX11_work 129 rfl) rfl⟩
                      rw [nI_clamp (show t.length < 2 ^ 31 by omega)]
                      refine ⟨rfl, (Fr5.r.f (by decide)).s (Or.inr rfl), ?_, ?_, ?_, ?_, ?_⟩
                      · rw [ist_ne (by decide), ist_eq, upd_ne (by decide)]; exact r1
                      · rw [ist_ne (by decide), ist_ne (by decide)]; exact r2
                      · rw [ist_ne (by decide), ist_eq, upd_eq]; rfl
                      · rw [ist_eq, ist_ne (by decide)]
                        unfold jnW
                        first
                        | (rw [if_pos h119]; exact r4.2.low)
                        | (rw [if_neg h119, if_pos h131]; exact r4.2.low)
                        | (rw [if_neg h119, if_neg h131, if_pos h143]; exact r4.2.low)
                        | (rw [if_neg h119, if_neg h131, if_neg h143, if_pos h155, if_pos h160]; exact r4.2.low)
                        | (rw [if_neg h119, if_neg h131, if_neg h143, if_pos h155, if_neg h160]; exact r4.2.low)
                        | (rw [if_neg h119, if_neg h131, if_neg h143, if_neg h155, if_pos h174, if_pos h179]; exact r4.2.low)
                        | (rw [if_neg h119, if_neg h131, if_neg h143, if_neg h155, if_pos h174, if_neg h179]; exact r4.2.low)
                        | (have hz := and_intro_w h197 h201
                           rw [if_neg h119, if_neg h131, if_neg h143, if_neg h155, if_neg h174, if_pos h193, if_pos hz]; exact r4.2.low)
                        | (have hz := and_neg1_w (b := b) h197
                           rw [if_neg h119, if_neg h131, if_neg h143, if_neg h155, if_neg h174, if_pos h193, if_neg hz]; exact r4.2.low)
                        | (have hz := and_neg2_w (a := a) h201
                           rw [if_neg h119, if_neg h131, if_neg h143, if_neg h155, if_neg h174, if_pos h193, if_neg hz]; exact r4.2.low)
                        | (have hz := or_1_w (b := b) h213
                           rw [if_neg h119, if_neg h131, if_neg h143, if_neg h155, if_neg h174, if_neg h193, if_pos hz]; exact r4.2.low)
                        | (have hz := or_2_w (a := a) h217
                           rw [if_neg h119, if_neg h131, if_neg h143, if_neg h155, if_neg h174, if_neg h193, if_pos hz]; exact r4.2.low)
                        | (have hz := or_n_w h213 h217
                           rw [if_neg h119, if_neg h131, if_neg h143, if_neg h155, if_neg h174, if_neg h193, if_neg hz]; exact r4.2.low)
                      · rw [ist_ne (by decide), ist_eq, upd_ne (by decide)]; exact r5
                · refine BdQ.l (fun _ _ k => b_iload_n (pc := 196) (i := 2) (dd dtX11_work 113 rfl) rfl rfl k) ?_
                  refine BdQ.b (fun _ _ k1 k2 => b_if_eq (pc := 197) (tgt := 208) (dd dtX11_work 114 rfl) (by decide) k1 k2) (fun h197 => ?_) (fun h197 => ?_)
                  · refine BdQ.l (fun _ _ k => b_ic0 (pc := 208) (dd dtX11_work 119 rfl) k) ?_
                    refine BdQ.l (fun _ _ k => b_goto (pc := 209) (tgt := 225) (dd dtX11_work 120 rfl) (by decide) k) ?_
                    refine BdQ.l (fun _ _ k => b_iast (pc := 225) (dd dtX11_work 128 rfl) pM_37 (vpn rfl (show t.length < 161 by omega) (by decide)) k) ?_
                    refine ⟨_, _, ?_, b_vret (dd dtX11_work 129 rfl) rfl⟩
                    rw [nI_clamp (show t.length < 2 ^ 31 by omega)]
                    refine ⟨rfl, (Fr5.r.f (by decide)).s (Or.inr rfl), ?_, ?_, ?_, ?_, ?_⟩
                    · rw [ist_ne (by decide), ist_eq, upd_ne (by decide)]; exact r1
                    · rw [ist_ne (by decide), ist_ne (by decide)]; exact r2
                    · rw [ist_ne (by decide), ist_eq, upd_eq]; rfl
                    · rw [ist_eq, ist_ne (by decide)]
                      unfold jnW
                      first
                      | (rw [if_pos h119]; exact r4.2.low)
                      | (rw [if_neg h119, if_pos h131]; exact r4.2.low)
                      | (rw [if_neg h119, if_neg h131, if_pos h143]; exact r4.2.low)
                      | (rw [if_neg h119, if_neg h131, if_neg h143, if_pos h155, if_pos h160]; exact r4.2.low)
                      | (rw [if_neg h119, if_neg h131, if_neg h143, if_pos h155, if_neg h160]; exact r4.2.low)
                      | (rw [if_neg h119, if_neg h131, if_neg h143, if_neg h155, if_pos h174, if_pos h179]; exact r4.2.low)
                      | (rw [if_neg h119, if_neg h131, if_neg h143, if_neg h155, if_pos h174, if_neg h179]; exact r4.2.low)
                      | (have hz := and_intro_w h197 h201
                         rw [if_neg h119, if_neg h131, if_neg h143, if_neg h155, if_neg h174, if_pos h193, if_pos hz]; exact r4.2.low)
                      | (have hz := and_neg1_w (b := b) h197
                         rw [if_neg h119, if_neg h131, if_neg h143, if_neg h155, if_neg h174, if_pos h193, if_neg hz]; exact r4.2.low)
                      | (have hz := and_neg2_w (a := a) h201
                         rw [if_neg h119, if_neg h131, if_neg h143, if_neg h155, if_neg h174, if_pos h193, if_neg hz]; exact r4.2.low)
                      | (have hz := or_1_w (b := b) h213
                         rw [if_neg h119, if_neg h131, if_neg h143, if_neg h155, if_neg h174, if_neg h193, if_pos hz]; exact r4.2.low)
                      | (have hz := or_2_w (a := a) h217
                         rw [if_neg h119, if_neg h131, if_neg h143, if_neg h155, if_neg h174, if_neg h193, if_pos hz]; exact r4.2.low)
                      | (have hz := or_n_w h213 h217
                         rw [if_neg h119, if_neg h131, if_neg h143, if_neg h155, if_neg h174, if_neg h193, if_neg hz]; exact r4.2.low)
                    · rw [ist_ne (by decide), ist_eq, upd_ne (by decide)]; exact r5
                  · refine BdQ.l (fun _ _ k => b_iload_n (pc := 200) (i := 3) (dd dtX11_work 115 rfl) rfl rfl k) ?_
                    refine BdQ.b (fun _ _ k1 k2 => b_if_eq (pc := 201) (tgt := 208) (dd dtX11_work 116 rfl) (by decide) k1 k2) (fun h201 => ?_) (fun h201 => ?_)
                    · refine BdQ.l (fun _ _ k => b_ic0 (pc := 208) (dd dtX11_work 119 rfl) k) ?_
                      refine BdQ.l (fun _ _ k => b_goto (pc := 209) (tgt := 225) (dd dtX11_work 120 rfl) (by decide) k) ?_
                      refine BdQ.l (fun _ _ k => b_iast (pc := 225) (dd dtX11_work 128 rfl) pM_37 (vpn rfl (show t.length < 161 by omega) (by decide)) k) ?_
                      refine ⟨_, _, ?_, b_vret (dd dtX11_work 129 rfl) rfl⟩
                      rw [nI_clamp (show t.length < 2 ^ 31 by omega)]
                      refine ⟨rfl, (Fr5.r.f (by decide)).s (Or.inr rfl), ?_, ?_, ?_, ?_, ?_⟩
                      · rw [ist_ne (by decide), ist_eq, upd_ne (by decide)]; exact r1
                      · rw [ist_ne (by decide), ist_ne (by decide)]; exact r2
                      · rw [ist_ne (by decide), ist_eq, upd_eq]; rfl
                      · rw [ist_eq, ist_ne (by decide)]
                        unfold jnW
                        first
                        | (rw [if_pos h119]; exact r4.2.low)
                        | (rw [if_neg h119, if_pos h131]; exact r4.2.low)
                        | (rw [if_neg h119, if_neg h131, if_pos h143]; exact r4.2.low)
                        | (rw [if_neg h119, if_neg h131, if_neg h143, if_pos h155, if_pos h160]; exact r4.2.low)
                        | (rw [if_neg h119, if_neg h131, if_neg h143, if_pos h155, if_neg h160]; exact r4.2.low)
                        | (rw [if_neg h119, if_neg h131, if_neg h143, if_neg h155, if_pos h174, if_pos h179]; exact r4.2.low)
                        | (rw [if_neg h119, if_neg h131, if_neg h143, if_neg h155, if_pos h174, if_neg h179]; exact r4.2.low)
                        | (have hz := and_intro_w h197 h201
                           rw [if_neg h119, if_neg h131, if_neg h143, if_neg h155, if_neg h174, if_pos h193, if_pos hz]; exact r4.2.low)
                        | (have hz := and_neg1_w (b := b) h197
                           rw [if_neg h119, if_neg h131, if_neg h143, if_neg h155, if_neg h174, if_pos h193, if_neg hz]; exact r4.2.low)
                        | (have hz := and_neg2_w (a := a) h201
                           rw [if_neg h119, if_neg h131, if_neg h143, if_neg h155, if_neg h174, if_pos h193, if_neg hz]; exact r4.2.low)
                        | (have hz := or_1_w (b := b) h213
                           rw [if_neg h119, if_neg h131, if_neg h143, if_neg h155, if_neg h174, if_neg h193, if_pos hz]; exact r4.2.low)
                        | (have hz := or_2_w (a := a) h217
                           rw [if_neg h119, if_neg h131, if_neg h143, if_neg h155, if_neg h174, if_neg h193, if_pos hz]; exact r4.2.low)
                        | (have hz := or_n_w h213 h217
                           rw [if_neg h119, if_neg h131, if_neg h143, if_neg h155, if_neg h174, if_neg h193, if_neg hz]; exact r4.2.low)
                      · rw [ist_ne (by decide), ist_eq, upd_ne (by decide)]; exact r5
                    · refine BdQ.l (fun _ _ k => b_ic1 (pc := 204) (dd dtX11_work 117 rfl) k) ?_
                      refine BdQ.l (fun _ _ k => b_goto (pc := 205) (tgt := 225) (dd dtX11_work 118 rfl) (by decide) k) ?_
                      refine BdQ.l (fun _ _ k => b_iast (pc := 225) (dd dtX11_work 128 rfl) pM_37 (vpn rfl (show t.length < 161 by omega) (by decide)) k) ?_
                      refine ⟨_, _, ?_, b_vret (dd dtX11_work 129 rfl) rfl⟩
                      rw [nI_clamp (show t.length < 2 ^ 31 by omega)]
                      refine ⟨rfl, (Fr5.r.f (by decide)).s (Or.inr rfl), ?_, ?_, ?_, ?_, ?_⟩
                      · rw [ist_ne (by decide), ist_eq, upd_ne (by decide)]; exact r1
                      · rw [ist_ne (by decide), ist_ne (by decide)]; exact r2
                      · rw [ist_ne (by decide), ist_eq, upd_eq]; rfl
                      · rw [ist_eq, ist_ne (by decide)]
                        unfold jnW
                        first
                        | (rw [if_pos h119]; exact r4.2.low)
                        | (rw [if_neg h119, if_pos h131]; exact r4.2.low)
                        | (rw [if_neg h119, if_neg h131, if_pos h143]; exact r4.2.low)
                        | (rw [if_neg h119, if_neg h131, if_neg h143, if_pos h155, if_pos h160]; exact r4.2.low)
                        | (rw [if_neg h119, if_neg h131, if_neg h143, if_pos h155, if_neg h160]; exact r4.2.low)
                        | (rw [if_neg h119, if_neg h131, if_neg h143, if_neg h155, if_pos h174, if_pos h179]; exact r4.2.low)
                        | (rw [if_neg h119, if_neg h131, if_neg h143, if_neg h155, if_pos h174, if_neg h179]; exact r4.2.low)
                        | (have hz := and_intro_w h197 h201
                           rw [if_neg h119, if_neg h131, if_neg h143, if_neg h155, if_neg h174, if_pos h193, if_pos hz]; exact r4.2.low)
                        | (have hz := and_neg1_w (b := b) h197
                           rw [if_neg h119, if_neg h131, if_neg h143, if_neg h155, if_neg h174, if_pos h193, if_neg hz]; exact r4.2.low)
                        | (have hz := and_neg2_w (a := a) h201
                           rw [if_neg h119, if_neg h131, if_neg h143, if_neg h155, if_neg h174, if_pos h193, if_neg hz]; exact r4.2.low)
                        | (have hz := or_1_w (b := b) h213
                           rw [if_neg h119, if_neg h131, if_neg h143, if_neg h155, if_neg h174, if_neg h193, if_pos hz]; exact r4.2.low)
                        | (have hz := or_2_w (a := a) h217
                           rw [if_neg h119, if_neg h131, if_neg h143, if_neg h155, if_neg h174, if_neg h193, if_pos hz]; exact r4.2.low)
                        | (have hz := or_n_w h213 h217
                           rw [if_neg h119, if_neg h131, if_neg h143, if_neg h155, if_neg h174, if_neg h193, if_neg hz]; exact r4.2.low)
                      · rw [ist_ne (by decide), ist_eq, upd_ne (by decide)]; exact r5
              · refine BdQ.l (fun _ _ k => b_iload_n (pc := 177) (i := 2) (dd dtX11_work 103 rfl) rfl rfl k) ?_
                refine BdQ.l (fun _ _ k => b_iload_n (pc := 178) (i := 3) (dd dtX11_work 104 rfl) rfl rfl k) ?_
                refine BdQ.c (fun _ _ k1 k2 => b_icmp_ne (pc := 179) (tgt := 186) (dd dtX11_work 105 rfl) (by decide) k1 k2) (fun h179 => ?_) (fun h179 => ?_)
                · refine BdQ.l (fun _ _ k => b_ic0 (pc := 186) (dd dtX11_work 108 rfl) k) ?_
                  refine BdQ.l (fun _ _ k => b_goto (pc := 187) (tgt := 225) (dd dtX11_work 109 rfl) (by decide) k) ?_
                  refine BdQ.l (fun _ _ k => b_iast (pc := 225) (dd dtX11_work 128 rfl) pM_37 (vpn rfl (show t.length < 161 by omega) (by decide)) k) ?_
                  refine ⟨_, _, ?_, b_vret (dd dtX11_work 129 rfl) rfl⟩
                  rw [nI_clamp (show t.length < 2 ^ 31 by omega)]
                  refine ⟨rfl, (Fr5.r.f (by decide)).s (Or.inr rfl), ?_, ?_, ?_, ?_, ?_⟩
                  · rw [ist_ne (by decide), ist_eq, upd_ne (by decide)]; exact r1
                  · rw [ist_ne (by decide), ist_ne (by decide)]; exact r2
                  · rw [ist_ne (by decide), ist_eq, upd_eq]; rfl
                  · rw [ist_eq, ist_ne (by decide)]
                    unfold jnW
                    first
                    | (rw [if_pos h119]; exact r4.2.low)
                    | (rw [if_neg h119, if_pos h131]; exact r4.2.low)
                    | (rw [if_neg h119, if_neg h131, if_pos h143]; exact r4.2.low)
                    | (rw [if_neg h119, if_neg h131, if_neg h143, if_pos h155, if_pos h160]; exact r4.2.low)
                    | (rw [if_neg h119, if_neg h131, if_neg h143, if_pos h155, if_neg h160]; exact r4.2.low)
                    | (rw [if_neg h119, if_neg h131, if_neg h143, if_neg h155, if_pos h174, if_pos h179]; exact r4.2.low)
                    | (rw [if_neg h119, if_neg h131, if_neg h143, if_neg h155, if_pos h174, if_neg h179]; exact r4.2.low)
                    | (have hz := and_intro_w h197 h201
                       rw [if_neg h119, if_neg h131, if_neg h143, if_neg h155, if_neg h174, if_pos h193, if_pos hz]; exact r4.2.low)
                    | (have hz := and_neg1_w (b := b) h197
                       rw [if_neg h119, if_neg h131, if_neg h143, if_neg h155, if_neg h174, if_pos h193, if_neg hz]; exact r4.2.low)
                    | (have hz := and_neg2_w (a := a) h201
                       rw [if_neg h119, if_neg h131, if_neg h143, if_neg h155, if_neg h174, if_pos h193, if_neg hz]; exact r4.2.low)
                    | (have hz := or_1_w (b := b) h213
                       rw [if_neg h119, if_neg h131, if_neg h143, if_neg h155, if_neg h174, if_neg h193, if_pos hz]; exact r4.2.low)
                    | (have hz := or_2_w (a := a) h217
                       rw [if_neg h119, if_neg h131, if_neg h143, if_neg h155, if_neg h174, if_neg h193, if_pos hz]; exact r4.2.low)
                    | (have hz := or_n_w h213 h217
                       rw [if_neg h119, if_neg h131, if_neg h143, if_neg h155, if_neg h174, if_neg h193, if_neg hz]; exact r4.2.low)
                  · rw [ist_ne (by decide), ist_eq, upd_ne (by decide)]; exact r5
                · refine BdQ.l (fun _ _ k => b_ic1 (pc := 182) (dd dtX11_work 106 rfl) k) ?_
                  refine BdQ.l (fun _ _ k => b_goto (pc := 183) (tgt := 225) (dd dtX11_work 107 rfl) (by decide) k) ?_
                  refine BdQ.l (fun _ _ k => b_iast (pc := 225) (dd dtX11_work 128 rfl) pM_37 (vpn rfl (show t.length < 161 by omega) (by decide)) k) ?_
                  refine ⟨_, _, ?_, b_vret (dd dtX11_work 129 rfl) rfl⟩
                  rw [nI_clamp (show t.length < 2 ^ 31 by omega)]
                  refine ⟨rfl, (Fr5.r.f (by decide)).s (Or.inr rfl), ?_, ?_, ?_, ?_, ?_⟩
                  · rw [ist_ne (by decide), ist_eq, upd_ne (by decide)]; exact r1
                  · rw [ist_ne (by decide), ist_ne (by decide)]; exact r2
                  · rw [ist_ne (by decide), ist_eq, upd_eq]; rfl
                  · rw [ist_eq, ist_ne (by decide)]
                    unfold jnW
                    first
                    | (rw [if_pos h119]; exact r4.2.low)
                    | (rw [if_neg h119, if_pos h131]; exact r4.2.low)
                    | (rw [if_neg h119, if_neg h131, if_pos h143]; exact r4.2.low)
                    | (rw [if_neg h119, if_neg h131, if_neg h143, if_pos h155, if_pos h160]; exact r4.2.low)
                    | (rw [if_neg h119, if_neg h131, if_neg h143, if_pos h155, if_neg h160]; exact r4.2.low)
                    | (rw [if_neg h119, if_neg h131, if_neg h143, if_neg h155, if_pos h174, if_pos h179]; exact r4.2.low)
                    | (rw [if_neg h119, if_neg h131, if_neg h143, if_neg h155, if_pos h174, if_neg h179]; exact r4.2.low)
                    | (have hz := and_intro_w h197 h201
                       rw [if_neg h119, if_neg h131, if_neg h143, if_neg h155, if_neg h174, if_pos h193, if_pos hz]; exact r4.2.low)
                    | (have hz := and_neg1_w (b := b) h197
                       rw [if_neg h119, if_neg h131, if_neg h143, if_neg h155, if_neg h174, if_pos h193, if_neg hz]; exact r4.2.low)
                    | (have hz := and_neg2_w (a := a) h201
                       rw [if_neg h119, if_neg h131, if_neg h143, if_neg h155, if_neg h174, if_pos h193, if_neg hz]; exact r4.2.low)
                    | (have hz := or_1_w (b := b) h213
                       rw [if_neg h119, if_neg h131, if_neg h143, if_neg h155, if_neg h174, if_neg h193, if_pos hz]; exact r4.2.low)
                    | (have hz := or_2_w (a := a) h217
                       rw [if_neg h119, if_neg h131, if_neg h143, if_neg h155, if_neg h174, if_neg h193, if_pos hz]; exact r4.2.low)
                    | (have hz := or_n_w h213 h217
                       rw [if_neg h119, if_neg h131, if_neg h143, if_neg h155, if_neg h174, if_neg h193, if_neg hz]; exact r4.2.low)
                  · rw [ist_ne (by decide), ist_eq, upd_ne (by decide)]; exact r5
            · refine BdQ.l (fun _ _ k => b_iload_n (pc := 158) (i := 2) (dd dtX11_work 93 rfl) rfl rfl k) ?_
              refine BdQ.l (fun _ _ k => b_iload_n (pc := 159) (i := 3) (dd dtX11_work 94 rfl) rfl rfl k) ?_
              refine BdQ.c (fun _ _ k1 k2 => b_icmpL_ge (pc := 160) (tgt := 167) (dd dtX11_work 95 rfl) (by decide) k1 k2) (fun h160 => ?_) (fun h160 => ?_)
              · refine BdQ.l (fun _ _ k => b_ic0 (pc := 167) (dd dtX11_work 98 rfl) k) ?_
                refine BdQ.l (fun _ _ k => b_goto (pc := 168) (tgt := 225) (dd dtX11_work 99 rfl) (by decide) k) ?_
                refine BdQ.l (fun _ _ k => b_iast (pc := 225) (dd dtX11_work 128 rfl) pM_37 (vpn rfl (show t.length < 161 by omega) (by decide)) k) ?_
                refine ⟨_, _, ?_, b_vret (dd dtX11_work 129 rfl) rfl⟩
                rw [nI_clamp (show t.length < 2 ^ 31 by omega)]
                refine ⟨rfl, (Fr5.r.f (by decide)).s (Or.inr rfl), ?_, ?_, ?_, ?_, ?_⟩
                · rw [ist_ne (by decide), ist_eq, upd_ne (by decide)]; exact r1
                · rw [ist_ne (by decide), ist_ne (by decide)]; exact r2
                · rw [ist_ne (by decide), ist_eq, upd_eq]; rfl
                · rw [ist_eq, ist_ne (by decide)]
                  unfold jnW
                  first
                  | (rw [if_pos h119]; exact r4.2.low)
                  | (rw [if_neg h119, if_pos h131]; exact r4.2.low)
                  | (rw [if_neg h119, if_neg h131, if_pos h143]; exact r4.2.low)
                  | (rw [if_neg h119, if_neg h131, if_neg h143, if_pos h155, if_pos h160]; exact r4.2.low)
                  | (rw [if_neg h119, if_neg h131, if_neg h143, if_pos h155, if_neg h160]; exact r4.2.low)
                  | (rw [if_neg h119, if_neg h131, if_neg h143, if_neg h155, if_pos h174, if_pos h179]; exact r4.2.low)
                  | (rw [if_neg h119, if_neg h131, if_neg h143, if_neg h155, if_pos h174, if_neg h179]; exact r4.2.low)
                  | (have hz := and_intro_w h197 h201
                     rw [if_neg h119, if_neg h131, if_neg h143, if_neg h155, if_neg h174, if_pos h193, if_pos hz]; exact r4.2.low)
                  | (have hz := and_neg1_w (b := b) h197
                     rw [if_neg h119, if_neg h131, if_neg h143, if_neg h155, if_neg h174, if_pos h193, if_neg hz]; exact r4.2.low)
                  | (have hz := and_neg2_w (a := a) h201
                     rw [if_neg h119, if_neg h131, if_neg h143, if_neg h155, if_neg h174, if_pos h193, if_neg hz]; exact r4.2.low)
                  | (have hz := or_1_w (b := b) h213
                     rw [if_neg h119, if_neg h131, if_neg h143, if_neg h155, if_neg h174, if_neg h193, if_pos hz]; exact r4.2.low)
                  | (have hz := or_2_w (a := a) h217
                     rw [if_neg h119, if_neg h131, if_neg h143, if_neg h155, if_neg h174, if_neg h193, if_pos hz]; exact r4.2.low)
                  | (have hz := or_n_w h213 h217
                     rw [if_neg h119, if_neg h131, if_neg h143, if_neg h155, if_neg h174, if_neg h193, if_neg hz]; exact r4.2.low)
                · rw [ist_ne (by decide), ist_eq, upd_ne (by decide)]; exact r5
              · refine BdQ.l (fun _ _ k => b_ic1 (pc := 163) (dd dtX11_work 96 rfl) k) ?_
                refine BdQ.l (fun _ _ k => b_goto (pc := 164) (tgt := 225) (dd dtX11_work 97 rfl) (by decide) k) ?_
                refine BdQ.l (fun _ _ k => b_iast (pc := 225) (dd dtX11_work 128 rfl) pM_37 (vpn rfl (show t.length < 161 by omega) (by decide)) k) ?_
                refine ⟨_, _, ?_, b_vret (dd dtX11_work 129 rfl) rfl⟩
                rw [nI_clamp (show t.length < 2 ^ 31 by omega)]
                refine ⟨rfl, (Fr5.r.f (by decide)).s (Or.inr rfl), ?_, ?_, ?_, ?_, ?_⟩
                · rw [ist_ne (by decide), ist_eq, upd_ne (by decide)]; exact r1
                · rw [ist_ne (by decide), ist_ne (by decide)]; exact r2
                · rw [ist_ne (by decide), ist_eq, upd_eq]; rfl
                · rw [ist_eq, ist_ne (by decide)]
                  unfold jnW
                  first
                  | (rw [if_pos h119]; exact r4.2.low)
                  | (rw [if_neg h119, if_pos h131]; exact r4.2.low)
                  | (rw [if_neg h119, if_neg h131, if_pos h143]; exact r4.2.low)
                  | (rw [if_neg h119, if_neg h131, if_neg h143, if_pos h155, if_pos h160]; exact r4.2.low)
                  | (rw [if_neg h119, if_neg h131, if_neg h143, if_pos h155, if_neg h160]; exact r4.2.low)
                  | (rw [if_neg h119, if_neg h131, if_neg h143, if_neg h155, if_pos h174, if_pos h179]; exact r4.2.low)
                  | (rw [if_neg h119, if_neg h131, if_neg h143, if_neg h155, if_pos h174, if_neg h179]; exact r4.2.low)
                  | (have hz := and_intro_w h197 h201
                     rw [if_neg h119, if_neg h131, if_neg h143, if_neg h155, if_neg h174, if_pos h193, if_pos hz]; exact r4.2.low)
                  | (have hz := and_neg1_w (b := b) h197
                     rw [if_neg h119, if_neg h131, if_neg h143, if_neg h155, if_neg h174, if_pos h193, if_neg hz]; exact r4.2.low)
                  | (have hz := and_neg2_w (a := a) h201
                     rw [if_neg h119, if_neg h131, if_neg h143, if_neg h155, if_neg h174, if_pos h193, if_neg hz]; exact r4.2.low)
                  | (have hz := or_1_w (b := b) h213
                     rw [if_neg h119, if_neg h131, if_neg h143, if_neg h155, if_neg h174, if_neg h193, if_pos hz]; exact r4.2.low)
                  | (have hz := or_2_w (a := a) h217
                     rw [if_neg h119, if_neg h131, if_neg h143, if_neg h155, if_neg h174, if_neg h193, if_pos hz]; exact r4.2.low)
                  | (have hz := or_n_w h213 h217
                     rw [if_neg h119, if_neg h131, if_neg h143, if_neg h155, if_neg h174, if_neg h193, if_neg hz]; exact r4.2.low)
                · rw [ist_ne (by decide), ist_eq, upd_ne (by decide)]; exact r5
          · refine BdQ.l (fun _ _ k => b_iload_n (pc := 146) (i := 2) (dd dtX11_work 86 rfl) rfl rfl k) ?_
            refine BdQ.l (fun _ _ k => b_iload_n (pc := 147) (i := 3) (dd dtX11_work 87 rfl) rfl rfl k) ?_
            refine BdQ.l (fun _ _ k => b_imul (pc := 148) (dd dtX11_work 88 rfl) k) ?_
            refine BdQ.l (fun _ _ k => b_goto (pc := 149) (tgt := 225) (dd dtX11_work 89 rfl) (by decide) k) ?_
            refine BdQ.l (fun _ _ k => b_iast (pc := 225) (dd dtX11_work 128 rfl) pM_37 (vpn rfl (show t.length < 161 by omega) (by decide)) k) ?_
            refine ⟨_, _, ?_, b_vret (dd dtX11_work 129 rfl) rfl⟩
            rw [nI_clamp (show t.length < 2 ^ 31 by omega)]
            refine ⟨rfl, (Fr5.r.f (by decide)).s (Or.inr rfl), ?_, ?_, ?_, ?_, ?_⟩
            · rw [ist_ne (by decide), ist_eq, upd_ne (by decide)]; exact r1
            · rw [ist_ne (by decide), ist_ne (by decide)]; exact r2
            · rw [ist_ne (by decide), ist_eq, upd_eq]; rfl
            · rw [ist_eq, ist_ne (by decide)]
              unfold jnW
              first
              | (rw [if_pos h119]; exact r4.2.low)
              | (rw [if_neg h119, if_pos h131]; exact r4.2.low)
              | (rw [if_neg h119, if_neg h131, if_pos h143]; exact r4.2.low)
              | (rw [if_neg h119, if_neg h131, if_neg h143, if_pos h155, if_pos h160]; exact r4.2.low)
              | (rw [if_neg h119, if_neg h131, if_neg h143, if_pos h155, if_neg h160]; exact r4.2.low)
              | (rw [if_neg h119, if_neg h131, if_neg h143, if_neg h155, if_pos h174, if_pos h179]; exact r4.2.low)
              | (rw [if_neg h119, if_neg h131, if_neg h143, if_neg h155, if_pos h174, if_neg h179]; exact r4.2.low)
              | (have hz := and_intro_w h197 h201
                 rw [if_neg h119, if_neg h131, if_neg h143, if_neg h155, if_neg h174, if_pos h193, if_pos hz]; exact r4.2.low)
              | (have hz := and_neg1_w (b := b) h197
                 rw [if_neg h119, if_neg h131, if_neg h143, if_neg h155, if_neg h174, if_pos h193, if_neg hz]; exact r4.2.low)
              | (have hz := and_neg2_w (a := a) h201
                 rw [if_neg h119, if_neg h131, if_neg h143, if_neg h155, if_neg h174, if_pos h193, if_neg hz]; exact r4.2.low)
              | (have hz := or_1_w (b := b) h213
                 rw [if_neg h119, if_neg h131, if_neg h143, if_neg h155, if_neg h174, if_neg h193, if_pos hz]; exact r4.2.low)
              | (have hz := or_2_w (a := a) h217
                 rw [if_neg h119, if_neg h131, if_neg h143, if_neg h155, if_neg h174, if_neg h193, if_pos hz]; exact r4.2.low)
              | (have hz := or_n_w h213 h217
                 rw [if_neg h119, if_neg h131, if_neg h143, if_neg h155, if_neg h174, if_neg h193, if_neg hz]; exact r4.2.low)
            · rw [ist_ne (by decide), ist_eq, upd_ne (by decide)]; exact r5
        · refine BdQ.l (fun _ _ k => b_iload_n (pc := 134) (i := 2) (dd dtX11_work 79 rfl) rfl rfl k) ?_
          refine BdQ.l (fun _ _ k => b_iload_n (pc := 135) (i := 3) (dd dtX11_work 80 rfl) rfl rfl k) ?_
          refine BdQ.l (fun _ _ k => b_isub (pc := 136) (dd dtX11_work 81 rfl) k) ?_
          refine BdQ.l (fun _ _ k => b_goto (pc := 137) (tgt := 225) (dd dtX11_work 82 rfl) (by decide) k) ?_
          refine BdQ.l (fun _ _ k => b_iast (pc := 225) (dd dtX11_work 128 rfl) pM_37 (vpn rfl (show t.length < 161 by omega) (by decide)) k) ?_
          refine ⟨_, _, ?_, b_vret (dd dtX11_work 129 rfl) rfl⟩
          rw [nI_clamp (show t.length < 2 ^ 31 by omega)]
          refine ⟨rfl, (Fr5.r.f (by decide)).s (Or.inr rfl), ?_, ?_, ?_, ?_, ?_⟩
          · rw [ist_ne (by decide), ist_eq, upd_ne (by decide)]; exact r1
          · rw [ist_ne (by decide), ist_ne (by decide)]; exact r2
          · rw [ist_ne (by decide), ist_eq, upd_eq]; rfl
          · rw [ist_eq, ist_ne (by decide)]
            unfold jnW
            first
            | (rw [if_pos h119]; exact r4.2.low)
            | (rw [if_neg h119, if_pos h131]; exact r4.2.low)
            | (rw [if_neg h119, if_neg h131, if_pos h143]; exact r4.2.low)
            | (rw [if_neg h119, if_neg h131, if_neg h143, if_pos h155, if_pos h160]; exact r4.2.low)
            | (rw [if_neg h119, if_neg h131, if_neg h143, if_pos h155, if_neg h160]; exact r4.2.low)
            | (rw [if_neg h119, if_neg h131, if_neg h143, if_neg h155, if_pos h174, if_pos h179]; exact r4.2.low)
            | (rw [if_neg h119, if_neg h131, if_neg h143, if_neg h155, if_pos h174, if_neg h179]; exact r4.2.low)
            | (have hz := and_intro_w h197 h201
               rw [if_neg h119, if_neg h131, if_neg h143, if_neg h155, if_neg h174, if_pos h193, if_pos hz]; exact r4.2.low)
            | (have hz := and_neg1_w (b := b) h197
               rw [if_neg h119, if_neg h131, if_neg h143, if_neg h155, if_neg h174, if_pos h193, if_neg hz]; exact r4.2.low)
            | (have hz := and_neg2_w (a := a) h201
               rw [if_neg h119, if_neg h131, if_neg h143, if_neg h155, if_neg h174, if_pos h193, if_neg hz]; exact r4.2.low)
            | (have hz := or_1_w (b := b) h213
               rw [if_neg h119, if_neg h131, if_neg h143, if_neg h155, if_neg h174, if_neg h193, if_pos hz]; exact r4.2.low)
            | (have hz := or_2_w (a := a) h217
               rw [if_neg h119, if_neg h131, if_neg h143, if_neg h155, if_neg h174, if_neg h193, if_pos hz]; exact r4.2.low)
            | (have hz := or_n_w h213 h217
               rw [if_neg h119, if_neg h131, if_neg h143, if_neg h155, if_neg h174, if_neg h193, if_neg hz]; exact r4.2.low)
          · rw [ist_ne (by decide), ist_eq, upd_ne (by decide)]; exact r5
      · refine BdQ.l (fun _ _ k => b_iload_n (pc := 122) (i := 2) (dd dtX11_work 72 rfl) rfl rfl k) ?_
        refine BdQ.l (fun _ _ k => b_iload_n (pc := 123) (i := 3) (dd dtX11_work 73 rfl) rfl rfl k) ?_
        refine BdQ.l (fun _ _ k => b_iadd (pc := 124) (dd dtX11_work 74 rfl) k) ?_
        refine BdQ.l (fun _ _ k => b_goto (pc := 125) (tgt := 225) (dd dtX11_work 75 rfl) (by decide) k) ?_
        refine BdQ.l (fun _ _ k => b_iast (pc := 225) (dd dtX11_work 128 rfl) pM_37 (vpn rfl (show t.length < 161 by omega) (by decide)) k) ?_
        refine ⟨_, _, ?_, b_vret (dd dtX11_work 129 rfl) rfl⟩
        rw [nI_clamp (show t.length < 2 ^ 31 by omega)]
        refine ⟨rfl, (Fr5.r.f (by decide)).s (Or.inr rfl), ?_, ?_, ?_, ?_, ?_⟩
        · rw [ist_ne (by decide), ist_eq, upd_ne (by decide)]; exact r1
        · rw [ist_ne (by decide), ist_ne (by decide)]; exact r2
        · rw [ist_ne (by decide), ist_eq, upd_eq]; rfl
        · rw [ist_eq, ist_ne (by decide)]
          unfold jnW
          first
          | (rw [if_pos h119]; exact r4.2.low)
          | (rw [if_neg h119, if_pos h131]; exact r4.2.low)
          | (rw [if_neg h119, if_neg h131, if_pos h143]; exact r4.2.low)
          | (rw [if_neg h119, if_neg h131, if_neg h143, if_pos h155, if_pos h160]; exact r4.2.low)
          | (rw [if_neg h119, if_neg h131, if_neg h143, if_pos h155, if_neg h160]; exact r4.2.low)
          | (rw [if_neg h119, if_neg h131, if_neg h143, if_neg h155, if_pos h174, if_pos h179]; exact r4.2.low)
          | (rw [if_neg h119, if_neg h131, if_neg h143, if_neg h155, if_pos h174, if_neg h179]; exact r4.2.low)
          | (have hz := and_intro_w h197 h201
             rw [if_neg h119, if_neg h131, if_neg h143, if_neg h155, if_neg h174, if_pos h193, if_pos hz]; exact r4.2.low)
          | (have hz := and_neg1_w (b := b) h197
             rw [if_neg h119, if_neg h131, if_neg h143, if_neg h155, if_neg h174, if_pos h193, if_neg hz]; exact r4.2.low)
          | (have hz := and_neg2_w (a := a) h201
             rw [if_neg h119, if_neg h131, if_neg h143, if_neg h155, if_neg h174, if_pos h193, if_neg hz]; exact r4.2.low)
          | (have hz := or_1_w (b := b) h213
             rw [if_neg h119, if_neg h131, if_neg h143, if_neg h155, if_neg h174, if_neg h193, if_pos hz]; exact r4.2.low)
          | (have hz := or_2_w (a := a) h217
             rw [if_neg h119, if_neg h131, if_neg h143, if_neg h155, if_neg h174, if_neg h193, if_pos hz]; exact r4.2.low)
          | (have hz := or_n_w h213 h217
             rw [if_neg h119, if_neg h131, if_neg h143, if_neg h155, if_neg h174, if_neg h193, if_neg hz]; exact r4.2.low)
        · rw [ist_ne (by decide), ist_eq, upd_ne (by decide)]; exact r5
    · exact absurd (Or.inr h9) hw
