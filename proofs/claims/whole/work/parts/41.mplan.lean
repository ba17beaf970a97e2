/-! the reference's plan -/
theorem put_fr {b N P a : Nat} {fh fp : Int32} {W : Wd} (h0 : a ≠ 0) (h1 : a ≠ 1) (h2 : a ≠ 2) (h3 : a ≠ 3) (h4 : a ≠ 4) (h8 : a ≠ 8) (h9 : a ≠ 9) (h13 : a ≠ 13) (h15 : a ≠ 15) (h16 : a ≠ 16) : putW b fh fp N P W a = W a := by
  unfold putW
  rw [pbD_fr h8 h9, pbC_fr h15, pbB_fr h13 h16, pbA_fr h1 h2 h3 h4]
  unfold pbZ; simp only [ist_ne h0]
theorem put_0 {b N P : Nat} {fh fp : Int32} {W : Wd} : putW b fh fp N P W 0 = upd (upd (upd (W 0) 0 (W 43 b)) 1 (W 43 (b + 1))) 2 (W 43 (b + 2)) := by
  unfold putW
  rw [pbD_fr (by decide) (by decide), pbC_fr (by decide), pbB_fr (by decide) (by decide), pbA_fr (by decide) (by decide) (by decide) (by decide)]
  unfold pbZ; simp only [ist_eq]
theorem pbZ_fr {b a : Nat} {W : Wd} (h : a ≠ 0) : pbZ b W a = W a := by unfold pbZ; simp only [ist_ne h]
theorem put_c {b N P i : Nat} {fh fp : Int32} {W : Wd} (hi : i < 64) : putW b fh fp N P W 1 i = W 43 (b + 10 + i) ∧ putW b fh fp N P W 2 i = W 43 (b + 74 + i) ∧ putW b fh fp N P W 3 i = W 43 (b + 138 + i) ∧ putW b fh fp N P W 4 i = W 43 (b + 202 + i) := by
  unfold putW
  refine ⟨?_, ?_, ?_, ?_⟩ <;> (rw [pbD_fr (by decide) (by decide), pbC_fr (by decide), pbB_fr (by decide) (by decide)]; unfold pbA; simp (disch := decide) only [fl2_fr, fl2_1, fl2_2]; rw [fil_in hi, pbZ_fr (by decide)])
theorem put_h {b N P i : Nat} {fh fp : Int32} {W : Wd} (hi : i < N) : putW b fh fp N P W 13 i = (if nI i < fh then W 43 (b + 266 + i) else -1) ∧ putW b fh fp N P W 16 i = (if nI i < fh ∧ W 43 (b + 280 + i) = 1 then 1 else 0) := by
  unfold putW
  refine ⟨?_, ?_⟩ <;> (rw [pbD_fr (by decide) (by decide), pbC_fr (by decide)]; unfold pbB; simp (disch := decide) only [fl2_1, fl2_2]; rw [fil_in hi, pbA_fr (by decide) (by decide) (by decide) (by decide), pbZ_fr (by decide)])
theorem put_p {b N P i : Nat} {fh fp : Int32} {W : Wd} (hi : i < P) : putW b fh fp N P W 15 i = (if nI i < fp then W 43 (b + 294 + i) else 0) := by
  unfold putW
  rw [pbD_fr (by decide) (by decide)]; unfold pbC; rw [rset_eq, fil_in hi, pbB_fr (by decide) (by decide), pbA_fr (by decide) (by decide) (by decide) (by decide), pbZ_fr (by decide)]
theorem put_r {b N P i : Nat} {fh fp : Int32} {W : Wd} (hi : i < 4) : putW b fh fp N P W 8 i = W 43 (b + 300 + i) ∧ putW b fh fp N P W 9 i = W 43 (b + 304 + i) := by
  unfold putW pbD
  refine ⟨?_, ?_⟩ <;> (simp (disch := decide) only [fl2_1, fl2_2]; rw [fil_in hi, pbC_fr (by decide), pbB_fr (by decide) (by decide), pbA_fr (by decide) (by decide) (by decide) (by decide), pbZ_fr (by decide)])
/-- the same state, what is only used within a call left aside -/
def SameM (N P : Nat) (W V : Wd) : Prop := (∀ j, V 0 j = W 0 j) ∧ (∀ i, i < 64 → V 1 i = W 1 i ∧ V 2 i = W 2 i ∧ V 3 i = W 3 i ∧ V 4 i = W 4 i) ∧ (∀ i, i < N → V 13 i = W 13 i ∧ V 16 i = W 16 i) ∧ (∀ i, i < P → V 15 i = W 15 i) ∧ (∀ i, i < 4 → V 8 i = W 8 i ∧ V 9 i = W 9 i) ∧ (∀ x, 308 ≤ x → V 43 x = W 43 x) ∧ ∀ a, 9 < a → a ≠ 13 → a ≠ 15 → a ≠ 16 → a ≠ 43 → V a = W a
theorem SameM.refl {N P : Nat} {W : Wd} : SameM N P W W := ⟨fun _ => rfl, fun _ _ => ⟨rfl, rfl, rfl, rfl⟩, fun _ _ => ⟨rfl, rfl⟩, fun _ _ => rfl, fun _ _ => ⟨rfl, rfl⟩, fun _ _ => rfl, fun _ _ _ _ _ _ => rfl⟩
theorem SameM.trans {N P : Nat} {W V U : Wd} (h : SameM N P W V) (k : SameM N P V U) : SameM N P W U := by
  obtain ⟨a1, a2, a3, a4, a5, a6, a7⟩ := h
  obtain ⟨b1, b2, b3, b4, b5, b6, b7⟩ := k
  refine ⟨fun j => (b1 j).trans (a1 j), fun i hi => ?_, fun i hi => ?_, fun i hi => (b4 i hi).trans (a4 i hi), fun i hi => ?_, fun x hx => (b6 x hx).trans (a6 x hx), fun a h1 h2 h3 h4 h5 => (b7 a h1 h2 h3 h4 h5).trans (a7 a h1 h2 h3 h4 h5)⟩
  · exact ⟨(b2 i hi).1.trans (a2 i hi).1, (b2 i hi).2.1.trans (a2 i hi).2.1, (b2 i hi).2.2.1.trans (a2 i hi).2.2.1, (b2 i hi).2.2.2.trans (a2 i hi).2.2.2⟩
  · exact ⟨(b3 i hi).1.trans (a3 i hi).1, (b3 i hi).2.trans (a3 i hi).2⟩
  · exact ⟨(b5 i hi).1.trans (a5 i hi).1, (b5 i hi).2.trans (a5 i hi).2⟩
theorem SameM.fm {N P : Nat} {W V : Wd} (h : SameM N P W V) (hF : FM W N P) : FM V N P := by
  obtain ⟨a1, a2, a3, a4, a5, a6, a7⟩ := h
  unfold FM at hF ⊢
  rw [a1, a1, a7 14 (by decide) (by decide) (by decide) (by decide) (by decide)]
  exact ⟨hF.1, hF.2.1, fun c hc => by rw [(a2 c hc).1]; exact hF.2.2.1 c hc, hF.2.2.2⟩
theorem monM_fr {N P a : Nat} {J : Wd} (h0 : a ≠ 0) (h2 : a ≠ 2) (h3 : a ≠ 3) (h4 : a ≠ 4) (h5 : a ≠ 5) (h8 : a ≠ 8) (h9 : a ≠ 9) (h13 : a ≠ 13) : monM N P J a = J a := by
  unfold monM mT2 mT3 mT4 mT5 mT6 mT7
  rw [ist_ne h0, flM_fr h0 h4 h8 h9 h13, addM_fr h3, betW_fr h2 h5, zeroM_fr h5, pmpM_fr h2 h3, rainM_fr h3]
theorem monM_0 {N P j : Nat} {J : Wd} (h0 : j ≠ 0) (h2 : j ≠ 2) : monM N P J 0 j = J 0 j := by
  unfold monM mT2 mT3 mT4 mT5 mT6 mT7
  rw [ist_eq, upd_ne h0, flM_0 h2, addM_fr (by decide), betW_fr (by decide) (by decide), zeroM_fr (by decide), pmpM_fr (by decide) (by decide), rainM_fr (by decide)]
theorem monsM_fr {N P n a : Nat} {J : Wd} (h0 : a ≠ 0) (h2 : a ≠ 2) (h3 : a ≠ 3) (h4 : a ≠ 4) (h5 : a ≠ 5) (h8 : a ≠ 8) (h9 : a ≠ 9) (h13 : a ≠ 13) : monsM N P J n a = J a := by
  induction n with
  | zero => rfl
  | succ n ih => unfold monsM; rw [monM_fr h0 h2 h3 h4 h5 h8 h9 h13, ih]
theorem monsM_0 {N P n j : Nat} {J : Wd} (h0 : j ≠ 0) (h2 : j ≠ 2) : monsM N P J n 0 j = J 0 j := by
  induction n with
  | zero => rfl
  | succ n ih => unfold monsM; rw [monM_0 h0 h2, ih]
/-- what was kept and put back is as it was -/
theorem restore {N P : Nat} {W V : Wd} (hN : N ≤ 14) (hP : P ≤ 6) (hb : ∀ i, i < N → W 16 i = 0 ∨ W 16 i = 1) (hk : V 43 = keepF W 0) (h0 : ∀ j, 2 < j → V 0 j = W 0 j) (hfr : ∀ a, 9 < a → a ≠ 13 → a ≠ 15 → a ≠ 16 → a ≠ 43 → V a = W a) : SameM N P W (putW 0 (nI N) (nI P) N P V) := by
  have kk := @keep_at W 0
  refine ⟨fun j => ?_, fun i hi => ?_, fun i hi => ?_, fun i hi => ?_, fun i hi => ?_, fun x hx => ?_, fun a h1 h2 h3 h4 h5 => ?_⟩
  · rw [put_0, hk]
    have k0 := @keep_at W 0 0
    simp only [Nat.zero_add] at k0
    by_cases e2 : j = 2
    · subst e2; rw [upd_eq, Nat.zero_add]; exact k0.2.2.1
    · rw [upd_ne e2]
      by_cases e1 : j = 1
      · subst e1; rw [upd_eq, Nat.zero_add]; exact k0.2.1
      · rw [upd_ne e1]
        by_cases e0 : j = 0
        · subst e0; rw [upd_eq]; exact k0.1
        · rw [upd_ne e0]; exact h0 j (by omega)
  · have p := @put_c 0 N P i (nI N) (nI P) V hi
    have k := (@kk i).2.2.2.1 hi
    rw [hk] at p
    exact ⟨p.1.trans k.1, p.2.1.trans k.2.1, p.2.2.1.trans k.2.2.1, p.2.2.2.trans k.2.2.2⟩
  · have p := @put_h 0 N P i (nI N) (nI P) V hi
    have k := (@kk i).2.2.2.2.1 (by omega)
    have hl : nI i < nI N := nI_lt hi (by omega)
    rw [hk, k.1, k.2, if_pos hl] at p
    refine ⟨p.1, p.2.trans ?_⟩
    unfold mvF
    rcases hb i hi with e | e
    · rw [e, if_pos rfl, if_neg (fun q => absurd q.2 (by decide))]
    · rw [e, if_pos (show nI i < nI N ∧ (if (1 : Int32) = 0 then (0 : Int32) else 1) = 1 from ⟨hl, by decide⟩)]
  · have p := @put_p 0 N P i (nI N) (nI P) V hi
    have k := (@kk i).2.2.2.2.2.1 (by omega)
    rw [hk, k, if_pos (nI_lt hi (by omega))] at p
    exact p
  · have p := @put_r 0 N P i (nI N) (nI P) V hi
    have k := (@kk i).2.2.2.2.2.2 hi
    rw [hk] at p
    exact ⟨p.1.trans k.1, p.2.trans k.2⟩
  · rw [put_fr (by decide) (by decide) (by decide) (by decide) (by decide) (by decide) (by decide) (by decide) (by decide) (by decide), hk]
    exact keep_off (Or.inr (by omega))
  · rw [put_fr (by omega) (by omega) (by omega) (by omega) (by omega) (by omega) (by omega) h2 h3 h4]
    exact hfr a h1 h2 h3 h4 h5
def bitH (s h : Int32) : Int32 := (s >>> (h &&& 31)) &&& 1
def pnM (it aw ppl : Nat → Int32) (set : Int32) : Nat → Int32 × Int32
  | 0 => (0, 0)
  | k + 1 => if bitS set k = 0 then pnM it aw ppl set k else if bitH (pnM it aw ppl set k).2 (it k) = 1 then pnM it aw ppl set k else ((pnM it aw ppl set k).1 + (if aw (it k).toNatClampNeg = 0 then ppl (it k).toNatClampNeg else 0), (pnM it aw ppl set k).2 ||| (1 <<< (it k &&& 31)))
theorem pnM_a {it aw ppl : Nat → Int32} {set : Int32} {k : Nat} (h : bitS set k = 0) : pnM it aw ppl set (k + 1) = pnM it aw ppl set k := if_pos h
theorem pnM_b {it aw ppl : Nat → Int32} {set : Int32} {k : Nat} (h : ¬ bitS set k = 0) (h2 : bitH (pnM it aw ppl set k).2 (it k) = 1) : pnM it aw ppl set (k + 1) = pnM it aw ppl set k := (if_neg h).trans (if_pos h2)
theorem pnM_c {it aw ppl : Nat → Int32} {set : Int32} {k : Nat} (h : ¬ bitS set k = 0) (h2 : ¬ bitH (pnM it aw ppl set k).2 (it k) = 1) : pnM it aw ppl set (k + 1) = ((pnM it aw ppl set k).1 + (if aw (it k).toNatClampNeg = 0 then ppl (it k).toNatClampNeg else 0), (pnM it aw ppl set k).2 ||| (1 <<< (it k &&& 31))) := (if_neg h).trans (if_neg h2)
/-- the set's houses are moved -/
def mvW (W : Wd) (seen : Int32) (h : Nat) : Wd := rset W 16 (fil (fun i => if ¬ W 16 i = 0 ∨ bitH seen (nI i) = 1 then 1 else 0) (W 16) h)
def plM3 (N P : Nat) (W : Wd) (n seen : Int32) : Wd := monsM N P (mvW (keepW W 0) seen N) n.toNatClampNeg
def plM4 (N P : Nat) (W : Wd) (n seen : Int32) : Wd := putW 0 (nI N) (nI P) N P (plM3 N P W n seen)
def plM1 (N P z : Nat) (s room n hb : Int32) (set : Nat) (q : Int64 × Int32 × Wd) : Int64 × Int32 × Wd :=
  if room < (pnM (itM q.2.2 s) (q.2.2 16) (q.2.2 12) (nI set) z).1 then q
  else if ¬ q.1 < 0 ∧ ¬ (plM3 N P q.2.2 n (pnM (itM q.2.2 s) (q.2.2 16) (q.2.2 12) (nI set) z).2 0 2 - hb).toInt64 < q.1 then (q.1, q.2.1, plM4 N P q.2.2 n (pnM (itM q.2.2 s) (q.2.2 16) (q.2.2 12) (nI set) z).2)
  else ((plM3 N P q.2.2 n (pnM (itM q.2.2 s) (q.2.2 16) (q.2.2 12) (nI set) z).2 0 2 - hb).toInt64, nI set, plM4 N P q.2.2 n (pnM (itM q.2.2 s) (q.2.2 16) (q.2.2 12) (nI set) z).2)
def plM (N P z : Nat) (s room n hb : Int32) (J : Wd) : Nat → Int64 × Int32 × Wd
  | 0 => (-1, 0, J)
  | set + 1 => plM1 N P z s room n hb set (plM N P z s room n hb J set)
theorem same4 {N P : Nat} {W : Wd} {n seen : Int32} (hN : N ≤ 14) (hP : P ≤ 6) (hb : ∀ i, i < N → W 16 i = 0 ∨ W 16 i = 1) : SameM N P W (plM4 N P W n seen) := by
  refine restore hN hP hb ?_ (fun j hj => ?_) (fun a h1 h2 h3 h4 h5 => ?_)
  · unfold plM3; rw [monsM_fr (by decide) (by decide) (by decide) (by decide) (by decide) (by decide) (by decide) (by decide)]; unfold mvW; rw [rset_ne (by decide)]; unfold keepW; rw [rset_eq]
  · unfold plM3; rw [monsM_0 (by omega) (by omega)]; unfold mvW; rw [rset_ne (by decide), keepW_fr (by decide)]
  · unfold plM3; rw [monsM_fr (by omega) (by omega) (by omega) (by omega) (by omega) (by omega) (by omega) (by omega)]; unfold mvW; rw [rset_ne h4, keepW_fr h5]
theorem SameM.b {N P : Nat} {W V : Wd} (h : SameM N P W V) (hb : ∀ i, i < N → W 16 i = 0 ∨ W 16 i = 1) : ∀ i, i < N → V 16 i = 0 ∨ V 16 i = 1 := fun i hi => by rw [(h.2.2.1 i hi).2]; exact hb i hi
theorem same1 {N P z set : Nat} {s room n hb : Int32} {q : Int64 × Int32 × Wd} (hN : N ≤ 14) (hP : P ≤ 6) (hb2 : ∀ i, i < N → q.2.2 16 i = 0 ∨ q.2.2 16 i = 1) : SameM N P q.2.2 (plM1 N P z s room n hb set q).2.2 := by
  unfold plM1
  split
  · exact SameM.refl
  · split <;> exact same4 hN hP hb2
theorem sameR {N P z set : Nat} {s room n hb : Int32} {J : Wd} (hN : N ≤ 14) (hP : P ≤ 6) (hb2 : ∀ i, i < N → J 16 i = 0 ∨ J 16 i = 1) : SameM N P J (plM N P z s room n hb J set).2.2 := by
  induction set with
  | zero => exact SameM.refl
  | succ set ih => exact ih.trans (same1 hN hP (ih.b hb2))
def tX11_plan : List (Nat × Instr × Nat) := [(0, .aload_n 0, 1), (1, .iload_n 1, 1), (2, .invokevirtual 297, 3), (5, .ifCond .eq 58, 3), (8, .aload_n 0, 1), (9, .getfield 236, 3), (12, .iload_n 1, 1), (13, .iaload, 1), (14, .ifCond .lt 49, 3), (17, .aload_n 0, 1), (18, .getfield 239, 3), (21, .iload_n 1, 1), (22, .iaload, 1), (23, .bipush 8, 2), (25, .if_icmp .gt 38, 3), (28, .aload_n 0, 1), (29, .iload_n 2, 1), (30, .iconst 0, 1), (31, .sipush 999, 3), (34, .invokevirtual 1, 3), (37, .ifCond .eq 26, 3), (40, .aload_n 0, 1), (41, .iload_n 3, 1), (42, .iconst 1, 1), (43, .bipush 60, 2), (45, .invokevirtual 1, 3), (48, .ifCond .eq 15, 3), (51, .aload_n 0, 1), (52, .getfield 13, 3), (55, .iload_n 3, 1), (56, .iadd, 1), (57, .sipush 1200, 3), (60, .if_icmp .le 7, 3), (63, .ldc2_w 399, 3), (66, .lreturn, 1), (67, .iconst 0, 1), (68, .istore 4, 2), (70, .iload 4, 2), (72, .aload_n 0, 1), (73, .getfield 239, 3), (76, .iload_n 1, 1), (77, .iaload, 1), (78, .if_icmp .ge 32, 3), (81, .aload_n 0, 1), (82, .aload_n 0, 1), (83, .getfield 242, 3), (86, .bipush 40, 2), (88, .iload_n 1, 1), (89, .imul, 1), (90, .iload 4, 2), (92, .iadd, 1), (93, .iaload, 1), (94, .invokevirtual 253, 3), (97, .ifCond .ne 7, 3), (100, .ldc2_w 399, 3), (103, .lreturn, 1), (104, .iinc 4 1, 3), (107, .goto (-37), 3), (110, .ldc2_w 341, 3), (113, .lstore 4, 2), (115, .iconst 0, 1), (116, .istore 6, 2), (118, .aload_n 0, 1), (119, .getfield 20, 3), (122, .istore 7, 2), (124, .iconst 0, 1), (125, .istore 8, 2), (127, .iload 8, 2), (129, .iconst 1, 1), (130, .aload_n 0, 1), (131, .getfield 239, 3), (134, .iload_n 1, 1), (135, .iaload, 1), (136, .ishl, 1), (137, .if_icmp .ge 241, 3), (140, .iconst 0, 1), (141, .istore 9, 2), (143, .iconst 0, 1), (144, .istore 10, 2), (146, .iconst 0, 1), (147, .istore 11, 2), (149, .iload 11, 2), (151, .aload_n 0, 1), (152, .getfield 239, 3), (155, .iload_n 1, 1), (156, .iaload, 1), (157, .if_icmp .ge 82, 3), (160, .aload_n 0, 1), (161, .getfield 242, 3), (164, .bipush 40, 2), (166, .iload_n 1, 1), (167, .imul, 1), (168, .iload 11, 2), (170, .iadd, 1), (171, .iaload, 1), (172, .istore 12, 2), (174, .iload 8, 2), (176, .iload 11, 2), (178, .ishr, 1), (179, .iconst 1, 1), (180, .iand, 1), (181, .ifCond .eq 52, 3), (184, .iload 10, 2), (186, .iload 12, 2), (188, .ishr, 1), (189, .iconst 1, 1), (190, .iand, 1), (191, .iconst 1, 1), (192, .if_icmp .ne 6, 3), (195, .goto 38, 3), (198, .iload 10, 2), (200, .iconst 1, 1), (201, .iload 12, 2), (203, .ishl, 1), (204, .ior, 1), (205, .istore 10, 2), (207, .iload 9, 2), (209, .aload_n 0, 1), (210, .getfield 75, 3), (213, .iload 12, 2), (215, .baload, 1), (216, .ifCond .eq 7, 3), (219, .iconst 0, 1), (220, .goto 10, 3), (223, .aload_n 0, 1), (224, .getfield 63, 3), (227, .iload 12, 2), (229, .iaload, 1), (230, .iadd, 1), (231, .istore 9, 2), (233, .iinc 11 1, 3), (236, .goto (-87), 3), (239, .iload 9, 2), (241, .iload_n 2, 1), (242, .if_icmp .le 6, 3), (245, .goto 127, 3), (248, .aload_n 0, 1), (249, .iconst 0, 1), (250, .invokevirtual 414, 3), (253, .iconst 0, 1), (254, .istore 11, 2), (256, .iload 11, 2), (258, .aload_n 0, 1), (259, .getfield 23, 3), (262, .if_icmp .ge 42, 3), (265, .aload_n 0, 1), (266, .getfield 75, 3), (269, .iload 11, 2), (271, .aload_n 0, 1), (272, .getfield 75, 3), (275, .iload 11, 2), (277, .baload, 1), (278, .ifCond .ne 14, 3), (281, .iload 10, 2), (283, .iload 11, 2), (285, .ishr, 1), (286, .iconst 1, 1), (287, .iand, 1), (288, .iconst 1, 1), (289, .if_icmp .ne 7, 3), (292, .iconst 1, 1), (293, .goto 4, 3), (296, .iconst 0, 1), (297, .bastore, 1), (298, .iinc 11 1, 3), (301, .goto (-45), 3), (304, .iconst 0, 1), (305, .istore 11, 2), (307, .iload 11, 2), (309, .iload_n 3, 1), (310, .if_icmp .ge 13, 3), (313, .aload_n 0, 1), (314, .invokevirtual 267, 3), (317, .iinc 11 1, 3), (320, .goto (-13), 3), (323, .aload_n 0, 1), (324, .getfield 20, 3), (327, .iload 7, 2), (329, .isub, 1), (330, .i2l, 1), (331, .lstore 11, 2), (333, .aload_n 0, 1), (334, .iconst 0, 1), (335, .aload_n 0, 1), (336, .getfield 23, 3), (339, .aload_n 0, 1), (340, .getfield 26, 3), (343, .invokevirtual 417, 3), (346, .lload 4, 2), (348, .lconst 0, 1), (349, .lcmp, 1), (350, .ifCond .lt 14, 3), (353, .lload 11, 2), (355, .lload 4, 2), (357, .lcmp, 1), (358, .ifCond .lt 6, 3), (361, .goto 11, 3), (364, .lload 11, 2), (366, .lstore 4, 2), (368, .iload 8, 2), (370, .istore 6, 2), (372, .iinc 8 1, 3), (375, .goto (-248), 3), (378, .aload_n 0, 1), (379, .iload 6, 2), (381, .putfield 233, 3), (384, .lload 4, 2), (386, .lreturn, 1)]
theorem dtX11_plan : dec_ok mX11_plan.2.1 tX11_plan = true := by decide +kernel
set_option maxHeartbeats 4000000 in
theorem r149 {W : Wd} {N P z set : Nat} {s room n0 hb bs : Int32} {be : Int64} {r : Option Value} {I9 : Wd} (hs : inR s 0 3) (hz : W 45 s.toNatClampNeg = nI z) (hz2 : z ≤ 8) (hN : W 0 3 = nI N) (hN2 : N ≤ 14) (hi : ∀ k, k < z → inR (itM W s k) 0 (W 0 3 - 1)) (kk : Bd SyM mX11_plan 3 239 [(10, .int (pnM (itM W s) (W 16) (W 12) (nI set) z).2), (9, .int (pnM (itM W s) (W 16) (W 12) (nI set) z).1), (8, .int (nI set)), (7, .int hb), (6, .int bs), (4, .long be), (0, .ref 0), (1, .int s), (2, .int room), (3, .int n0)] [] W r I9) : ∀ (n h : Nat) (x11 : Int32) (x10 : Int32) (x9 : Int32), h ≤ z → z < h + n → x11 = nI h → x10 = (pnM (itM W s) (W 16) (W 12) (nI set) h).2 → x9 = (pnM (itM W s) (W 16) (W 12) (nI set) h).1 → Bd SyM mX11_plan 3 149 [(11, .int x11), (10, .int x10), (9, .int x9), (8, .int (nI set)), (7, .int hb), (6, .int bs), (4, .long be), (0, .ref 0), (1, .int s), (2, .int room), (3, .int n0)] [] W (r) I9 := by
  intro n
  induction n with
  | zero => intro h x11 x10 x9 h1 h2; omega
  | succ n ih =>
    intro h x11 x10 x9 h1 h2 e11 e10 e9
    subst e11; subst e10; subst e9
    refine b_iload (pc := 149) (i := 11) (dd dtX11_plan 81 rfl) rfl ?_
    refine b_aload_n (pc := 151) (i := 0) (dd dtX11_plan 82 rfl) rfl rfl ?_
    refine b_geta (pc := 152) (dd dtX11_plan 83 rfl) fwX11_239 pM_0 rM_0_74 ?_
    refine b_iload_n (pc := 155) (i := 1) (dd dtX11_plan 84 rfl) rfl rfl ?_
    refine b_iald (pc := 156) (dd dtX11_plan 85 rfl) pM_45 (vs4 hs) ?_
    refine b_icmpL_ge (pc := 157) (tgt := 239) (dd dtX11_plan 86 rfl) (by decide) (fun h157 => ?_) (fun h157 => ?_)
    · refine b_pick [1, 2, 3, 4, 5, 6, 7, 8, 9, 10] (lv' := [(10, _), (9, _), (8, _), (7, _), (6, _), (4, _), (0, _), (1, _), (2, _), (3, _)]) rfl ?_
      rw [hz] at h157
      have he : h = z := Nat.le_antisymm h1 (ge_n h157 (by omega))
      subst he
      exact kk
    · rw [hz] at h157
      have hlt : h < z := lt_n h157 (by omega) (by omega)
      have hcx := cx40 hs (show h < 40 by omega)
      refine b_aload_n (pc := 160) (i := 0) (dd dtX11_plan 87 rfl) rfl rfl ?_
      refine b_geta (pc := 161) (dd dtX11_plan 88 rfl) fwX11_242 pM_0 rM_0_75 ?_
      refine b_bipush (pc := 164) (v := 40) (dd dtX11_plan 89 rfl) (by decide) ?_
      refine b_iload_n (pc := 166) (i := 1) (dd dtX11_plan 90 rfl) rfl rfl ?_
      refine b_imul (pc := 167) (dd dtX11_plan 91 rfl) ?_
      refine b_iload (pc := 168) (i := 11) (dd dtX11_plan 92 rfl) rfl ?_
      refine b_iadd (pc := 170) (dd dtX11_plan 93 rfl) ?_
      refine b_iald (pc := 171) (dd dtX11_plan 94 rfl) pM_46 (vx40 hs (show h < 40 by omega)) ?_
      refine b_istore (pc := 172) (i := 12) (lv' := [(12, _), (11, _), (10, _), (9, _), (8, _), (7, _), (6, _), (4, _), (0, _), (1, _), (2, _), (3, _)]) (dd dtX11_plan 95 rfl) (Nat.le_of_ble_eq_true rfl) rfl ?_
      refine b_iload (pc := 174) (i := 8) (dd dtX11_plan 96 rfl) rfl ?_
      refine b_iload (pc := 176) (i := 11) (dd dtX11_plan 97 rfl) rfl ?_
      refine b_ishr (pc := 178) (dd dtX11_plan 98 rfl) ?_
      refine b_ic1 (pc := 179) (dd dtX11_plan 99 rfl) ?_
      refine b_iand (pc := 180) (dd dtX11_plan 100 rfl) ?_
      refine b_if_eq (pc := 181) (tgt := 233) (dd dtX11_plan 101 rfl) (by decide) (fun h181 => ?_) (fun h181 => ?_)
      · refine b_iinc1 (pc := 233) (i := 11) (lv' := [(11, _), (12, _), (10, _), (9, _), (8, _), (7, _), (6, _), (4, _), (0, _), (1, _), (2, _), (3, _)]) (dd dtX11_plan 130 rfl) rfl (Nat.le_of_ble_eq_true rfl) rfl ?_
        refine b_goto (pc := 236) (tgt := 149) (dd dtX11_plan 131 rfl) (by decide) ?_
        refine b_pick [0, 2, 3, 4, 5, 6, 7, 8, 9, 10, 11] (lv' := [(11, _), (10, _), (9, _), (8, _), (7, _), (6, _), (4, _), (0, _), (1, _), (2, _), (3, _)]) rfl ?_
        rw [nI_1]
        refine ih (h + 1) _ _ _ hlt (by omega) rfl ?_ ?_
        · try simp only [hcx] at *
          first
            | rw [pnM_a (it := itM W s) (aw := W 16) (ppl := W 12) (set := nI set) (k := h) h181]
            | rw [pnM_b (it := itM W s) (aw := W 16) (ppl := W 12) (set := nI set) (k := h) h181 h192]
            | (rw [pnM_c (it := itM W s) (aw := W 16) (ppl := W 12) (set := nI set) (k := h) h181 h192]; rfl)
        · try simp only [hcx] at *
          first
            | rw [pnM_a (it := itM W s) (aw := W 16) (ppl := W 12) (set := nI set) (k := h) h181]
            | rw [pnM_b (it := itM W s) (aw := W 16) (ppl := W 12) (set := nI set) (k := h) h181 h192]
            | (rw [pnM_c (it := itM W s) (aw := W 16) (ppl := W 12) (set := nI set) (k := h) h181 h192]; first | exact congrArg (fun t => (pnM (itM W s) (W 16) (W 12) (nI set) h).1 + t) (if_pos h216).symm | exact congrArg (fun t => (pnM (itM W s) (W 16) (W 12) (nI set) h).1 + t) (if_neg h216).symm)
      · refine b_iload (pc := 184) (i := 10) (dd dtX11_plan 102 rfl) rfl ?_
        refine b_iload (pc := 186) (i := 12) (dd dtX11_plan 103 rfl) rfl ?_
        refine b_ishr (pc := 188) (dd dtX11_plan 104 rfl) ?_
        refine b_ic1 (pc := 189) (dd dtX11_plan 105 rfl) ?_
        refine b_iand (pc := 190) (dd dtX11_plan 106 rfl) ?_
        refine b_ic1 (pc := 191) (dd dtX11_plan 107 rfl) ?_
        refine b_icmp_ne (pc := 192) (tgt := 198) (dd dtX11_plan 108 rfl) (by decide) (fun h192 => ?_) (fun h192 => ?_)
        · refine b_iload (pc := 198) (i := 10) (dd dtX11_plan 110 rfl) rfl ?_
          refine b_ic1 (pc := 200) (dd dtX11_plan 111 rfl) ?_
          refine b_iload (pc := 201) (i := 12) (dd dtX11_plan 112 rfl) rfl ?_
          refine b_ishl (pc := 203) (dd dtX11_plan 113 rfl) ?_
          refine b_ior (pc := 204) (dd dtX11_plan 114 rfl) ?_
          refine b_istore (pc := 205) (i := 10) (lv' := [(10, _), (12, _), (11, _), (9, _), (8, _), (7, _), (6, _), (4, _), (0, _), (1, _), (2, _), (3, _)]) (dd dtX11_plan 115 rfl) (Nat.le_of_ble_eq_true rfl) rfl ?_
          refine b_iload (pc := 207) (i := 9) (dd dtX11_plan 116 rfl) rfl ?_
          refine b_aload_n (pc := 209) (i := 0) (dd dtX11_plan 117 rfl) rfl rfl ?_
          refine b_geta (pc := 210) (dd dtX11_plan 118 rfl) fwX11_75 pM_0 rM_0_20 ?_
          refine b_iload (pc := 213) (i := 12) (dd dtX11_plan 119 rfl) rfl ?_
          refine b_zald (pc := 215) (dd dtX11_plan 120 rfl) pM_16 (by rw [cx40 hs (show h < 40 by omega)]; have q := hi h hlt; rw [hN] at q; exact vpm q hN2 (by decide)) ?_
          refine b_if_eq (pc := 216) (tgt := 223) (dd dtX11_plan 121 rfl) (by decide) (fun h216 => ?_) (fun h216 => ?_)
          · refine b_aload_n (pc := 223) (i := 0) (dd dtX11_plan 124 rfl) rfl rfl ?_
            refine b_geta (pc := 224) (dd dtX11_plan 125 rfl) fwX11_63 pM_0 rM_0_16 ?_
            refine b_iload (pc := 227) (i := 12) (dd dtX11_plan 126 rfl) rfl ?_
            refine b_iald (pc := 229) (dd dtX11_plan 127 rfl) pM_12 (by rw [cx40 hs (show h < 40 by omega)]; have q := hi h hlt; rw [hN] at q; exact vpm q hN2 (by decide)) ?_
            refine b_iadd (pc := 230) (dd dtX11_plan 128 rfl) ?_
            refine b_istore (pc := 231) (i := 9) (lv' := [(9, _), (10, _), (12, _), (11, _), (8, _), (7, _), (6, _), (4, _), (0, _), (1, _), (2, _), (3, _)]) (dd dtX11_plan 129 rfl) (Nat.le_of_ble_eq_true rfl) rfl ?_
            refine b_iinc1 (pc := 233) (i := 11) (lv' := [(11, _), (9, _), (10, _), (12, _), (8, _), (7, _), (6, _), (4, _), (0, _), (1, _), (2, _), (3, _)]) (dd dtX11_plan 130 rfl) rfl (Nat.le_of_ble_eq_true rfl) rfl ?_
            refine b_goto (pc := 236) (tgt := 149) (dd dtX11_plan 131 rfl) (by decide) ?_
            refine b_pick [0, 2, 1, 4, 5, 6, 7, 8, 9, 10, 11] (lv' := [(11, _), (10, _), (9, _), (8, _), (7, _), (6, _), (4, _), (0, _), (1, _), (2, _), (3, _)]) rfl ?_
            rw [nI_1]
            refine ih (h + 1) _ _ _ hlt (by omega) rfl ?_ ?_
            · try simp only [hcx] at *
              first
                | rw [pnM_a (it := itM W s) (aw := W 16) (ppl := W 12) (set := nI set) (k := h) h181]
                | rw [pnM_b (it := itM W s) (aw := W 16) (ppl := W 12) (set := nI set) (k := h) h181 h192]
                | (rw [pnM_c (it := itM W s) (aw := W 16) (ppl := W 12) (set := nI set) (k := h) h181 h192]; rfl)
            · try simp only [hcx] at *
              first
                | rw [pnM_a (it := itM W s) (aw := W 16) (ppl := W 12) (set := nI set) (k := h) h181]
                | rw [pnM_b (it := itM W s) (aw := W 16) (ppl := W 12) (set := nI set) (k := h) h181 h192]
                | (rw [pnM_c (it := itM W s) (aw := W 16) (ppl := W 12) (set := nI set) (k := h) h181 h192]; first | exact congrArg (fun t => (pnM (itM W s) (W 16) (W 12) (nI set) h).1 + t) (if_pos h216).symm | exact congrArg (fun t => (pnM (itM W s) (W 16) (W 12) (nI set) h).1 + t) (if_neg h216).symm)
          · refine b_ic0 (pc := 219) (dd dtX11_plan 122 rfl) ?_
            refine b_goto (pc := 220) (tgt := 230) (dd dtX11_plan 123 rfl) (by decide) ?_
            refine b_iadd (pc := 230) (dd dtX11_plan 128 rfl) ?_
            refine b_istore (pc := 231) (i := 9) (lv' := [(9, _), (10, _), (12, _), (11, _), (8, _), (7, _), (6, _), (4, _), (0, _), (1, _), (2, _), (3, _)]) (dd dtX11_plan 129 rfl) (Nat.le_of_ble_eq_true rfl) rfl ?_
            refine b_iinc1 (pc := 233) (i := 11) (lv' := [(11, _), (9, _), (10, _), (12, _), (8, _), (7, _), (6, _), (4, _), (0, _), (1, _), (2, _), (3, _)]) (dd dtX11_plan 130 rfl) rfl (Nat.le_of_ble_eq_true rfl) rfl ?_
            refine b_goto (pc := 236) (tgt := 149) (dd dtX11_plan 131 rfl) (by decide) ?_
            refine b_pick [0, 2, 1, 4, 5, 6, 7, 8, 9, 10, 11] (lv' := [(11, _), (10, _), (9, _), (8, _), (7, _), (6, _), (4, _), (0, _), (1, _), (2, _), (3, _)]) rfl ?_
            rw [nI_1]
            refine ih (h + 1) _ _ _ hlt (by omega) rfl ?_ ?_
            · try simp only [hcx] at *
              first
                | rw [pnM_a (it := itM W s) (aw := W 16) (ppl := W 12) (set := nI set) (k := h) h181]
                | rw [pnM_b (it := itM W s) (aw := W 16) (ppl := W 12) (set := nI set) (k := h) h181 h192]
                | (rw [pnM_c (it := itM W s) (aw := W 16) (ppl := W 12) (set := nI set) (k := h) h181 h192]; rfl)
            · try simp only [hcx] at *
              first
                | rw [pnM_a (it := itM W s) (aw := W 16) (ppl := W 12) (set := nI set) (k := h) h181]
                | rw [pnM_b (it := itM W s) (aw := W 16) (ppl := W 12) (set := nI set) (k := h) h181 h192]
                | (rw [pnM_c (it := itM W s) (aw := W 16) (ppl := W 12) (set := nI set) (k := h) h181 h192]; first | exact congrArg (fun t => (pnM (itM W s) (W 16) (W 12) (nI set) h).1 + t) (if_pos h216).symm | exact congrArg (fun t => (pnM (itM W s) (W 16) (W 12) (nI set) h).1 + t) (if_neg h216).symm)
        · refine b_goto (pc := 195) (tgt := 233) (dd dtX11_plan 109 rfl) (by decide) ?_
          refine b_iinc1 (pc := 233) (i := 11) (lv' := [(11, _), (12, _), (10, _), (9, _), (8, _), (7, _), (6, _), (4, _), (0, _), (1, _), (2, _), (3, _)]) (dd dtX11_plan 130 rfl) rfl (Nat.le_of_ble_eq_true rfl) rfl ?_
          refine b_goto (pc := 236) (tgt := 149) (dd dtX11_plan 131 rfl) (by decide) ?_
          refine b_pick [0, 2, 3, 4, 5, 6, 7, 8, 9, 10, 11] (lv' := [(11, _), (10, _), (9, _), (8, _), (7, _), (6, _), (4, _), (0, _), (1, _), (2, _), (3, _)]) rfl ?_
          rw [nI_1]
          refine ih (h + 1) _ _ _ hlt (by omega) rfl ?_ ?_
          · try simp only [hcx] at *
            first
              | rw [pnM_a (it := itM W s) (aw := W 16) (ppl := W 12) (set := nI set) (k := h) h181]
              | rw [pnM_b (it := itM W s) (aw := W 16) (ppl := W 12) (set := nI set) (k := h) h181 h192]
              | (rw [pnM_c (it := itM W s) (aw := W 16) (ppl := W 12) (set := nI set) (k := h) h181 h192]; rfl)
          · try simp only [hcx] at *
            first
              | rw [pnM_a (it := itM W s) (aw := W 16) (ppl := W 12) (set := nI set) (k := h) h181]
              | rw [pnM_b (it := itM W s) (aw := W 16) (ppl := W 12) (set := nI set) (k := h) h181 h192]
              | (rw [pnM_c (it := itM W s) (aw := W 16) (ppl := W 12) (set := nI set) (k := h) h181 h192]; first | exact congrArg (fun t => (pnM (itM W s) (W 16) (W 12) (nI set) h).1 + t) (if_pos h216).symm | exact congrArg (fun t => (pnM (itM W s) (W 16) (W 12) (nI set) h).1 + t) (if_neg h216).symm)
set_option maxHeartbeats 4000000 in
theorem r307 {W : Wd} {N P z set : Nat} {s room n0 hb bs : Int32} {be : Int64} {r : Option Value} {I9 : Wd} {sn nd : Int32} (hF : FM W N P) (hn0 : inR n0 1 60) (kk : Bd SyM mX11_plan 3 323 [(10, .int sn), (9, .int nd), (8, .int (nI set)), (7, .int hb), (6, .int bs), (4, .long be), (0, .ref 0), (1, .int s), (2, .int room), (3, .int n0)] [] (monsM N P W n0.toNatClampNeg) r I9) : ∀ (n h : Nat) (x11 : Int32) (I2 : Wd), h ≤ n0.toNatClampNeg → n0.toNatClampNeg < h + n → x11 = nI h → I2 = (monsM N P W h) → Bd SyM mX11_plan 3 307 [(11, .int x11), (10, .int sn), (9, .int nd), (8, .int (nI set)), (7, .int hb), (6, .int bs), (4, .long be), (0, .ref 0), (1, .int s), (2, .int room), (3, .int n0)] [] I2 (r) I9 := by
  intro n
  induction n with
  | zero => intro h x11 I2 h1 h2; omega
  | succ n ih =>
    intro h x11 I2 h1 h2 e11 eW
    subst e11; subst eW
    have hn6 := (n60 hn0).2
    refine b_iload (pc := 307) (i := 11) (dd dtX11_plan 168 rfl) rfl ?_
    refine b_iload_n (pc := 309) (i := 3) (dd dtX11_plan 169 rfl) rfl rfl ?_
    refine b_icmpL_ge (pc := 310) (tgt := 323) (dd dtX11_plan 170 rfl) (by decide) (fun h310 => ?_) (fun h310 => ?_)
    · refine b_pick [1, 2, 3, 4, 5, 6, 7, 8, 9, 10] (lv' := [(10, _), (9, _), (8, _), (7, _), (6, _), (4, _), (0, _), (1, _), (2, _), (3, _)]) rfl ?_
      rw [(n60 hn0).1] at h310
      have he : h = n0.toNatClampNeg := Nat.le_antisymm h1 (ge_n h310 (by omega))
      rw [he]
      exact kk
    · rw [(n60 hn0).1] at h310
      have hlt : h < n0.toNatClampNeg := lt_n h310 (by omega) (by omega)
      refine b_aload_n (pc := 313) (i := 0) (dd dtX11_plan 171 rfl) rfl rfl ?_
      refine b_invV (pc := 314) (dd dtX11_plan 172 rfl) mlX11_267 mvX11_goMonth miX11_goMonth (c_X11_goMonth hF.mons) oM_0 rfl rfl (by decide) (Nat.le_of_ble_eq_true rfl) ?_
      refine b_iinc1 (pc := 317) (i := 11) (lv' := [(11, _), (10, _), (9, _), (8, _), (7, _), (6, _), (4, _), (0, _), (1, _), (2, _), (3, _)]) (dd dtX11_plan 173 rfl) rfl (Nat.le_of_ble_eq_true rfl) rfl ?_
      refine b_goto (pc := 320) (tgt := 307) (dd dtX11_plan 174 rfl) (by decide) ?_
      rw [nI_1]
      refine ih (h + 1) _ _ hlt (by omega) rfl ?_
      · rfl
set_option maxHeartbeats 4000000 in
theorem r256 {W : Wd} {N P z set : Nat} {s room n0 hb bs : Int32} {be : Int64} {r : Option Value} {I9 : Wd} {sn nd : Int32} (hN : W 0 3 = nI N) (hN2 : N ≤ 14) (kk : Bd SyM mX11_plan 3 304 [(10, .int sn), (9, .int nd), (8, .int (nI set)), (7, .int hb), (6, .int bs), (4, .long be), (0, .ref 0), (1, .int s), (2, .int room), (3, .int n0)] [] (mvW W sn N) r I9) : ∀ (n h : Nat) (x11 : Int32) (I2 : Wd), h ≤ N → N < h + n → x11 = nI h → I2 = (mvW W sn h) → Bd SyM mX11_plan 3 256 [(11, .int x11), (10, .int sn), (9, .int nd), (8, .int (nI set)), (7, .int hb), (6, .int bs), (4, .long be), (0, .ref 0), (1, .int s), (2, .int room), (3, .int n0)] [] I2 (r) I9 := by
  intro n
  induction n with
  | zero => intro h x11 I2 h1 h2; omega
  | succ n ih =>
    intro h x11 I2 h1 h2 e11 eW
    subst e11; subst eW
    have f0 : mvW W sn h 0 = W 0 := rset_ne (by decide)
    have f16 : mvW W sn h 16 h = W 16 h := by unfold mvW; rw [rset_eq, fil_out (Nat.le_refl h)]
    refine b_iload (pc := 256) (i := 11) (dd dtX11_plan 141 rfl) rfl ?_
    refine b_aload_n (pc := 258) (i := 0) (dd dtX11_plan 142 rfl) rfl rfl ?_
    refine b_geti (pc := 259) (dd dtX11_plan 143 rfl) fwX11_23 pM_0 ?_
    refine b_icmpL_ge (pc := 262) (tgt := 304) (dd dtX11_plan 144 rfl) (by decide) (fun h262 => ?_) (fun h262 => ?_)
    · refine b_pick [1, 2, 3, 4, 5, 6, 7, 8, 9, 10] (lv' := [(10, _), (9, _), (8, _), (7, _), (6, _), (4, _), (0, _), (1, _), (2, _), (3, _)]) rfl ?_
      rw [f0, hN] at h262
      have he : h = N := Nat.le_antisymm h1 (ge_n h262 (by omega))
      subst he
      exact kk
    · rw [f0, hN] at h262
      have hlt : h < N := lt_n h262 (by omega) (by omega)
      refine b_aload_n (pc := 265) (i := 0) (dd dtX11_plan 145 rfl) rfl rfl ?_
      refine b_geta (pc := 266) (dd dtX11_plan 146 rfl) fwX11_75 pM_0 rM_0_20 ?_
      refine b_iload (pc := 269) (i := 11) (dd dtX11_plan 147 rfl) rfl ?_
      refine b_aload_n (pc := 271) (i := 0) (dd dtX11_plan 148 rfl) rfl rfl ?_
      refine b_geta (pc := 272) (dd dtX11_plan 149 rfl) fwX11_75 pM_0 rM_0_20 ?_
      refine b_iload (pc := 275) (i := 11) (dd dtX11_plan 150 rfl) rfl ?_
      refine b_zald (pc := 277) (dd dtX11_plan 151 rfl) pM_16 (vpn rfl (show h < 14 by omega) (by decide)) ?_
      refine b_if_ne (pc := 278) (tgt := 292) (dd dtX11_plan 152 rfl) (by decide) (fun h278 => ?_) (fun h278 => ?_)
      · refine b_ic1 (pc := 292) (dd dtX11_plan 160 rfl) ?_
        refine b_goto (pc := 293) (tgt := 297) (dd dtX11_plan 161 rfl) (by decide) ?_
        refine b_zast (pc := 297) (dd dtX11_plan 163 rfl) pM_16 (vpn rfl (show h < 14 by omega) (by decide)) (by first | exact Or.inl rfl | exact Or.inr rfl | rfl | decide) ?_
        refine b_iinc1 (pc := 298) (i := 11) (lv' := [(11, _), (10, _), (9, _), (8, _), (7, _), (6, _), (4, _), (0, _), (1, _), (2, _), (3, _)]) (dd dtX11_plan 164 rfl) rfl (Nat.le_of_ble_eq_true rfl) rfl ?_
        refine b_goto (pc := 301) (tgt := 256) (dd dtX11_plan 165 rfl) (by decide) ?_
        rw [nI_1]
        refine ih (h + 1) _ _ hlt (by omega) rfl ?_
        · simp only [nI_clamp (show h < 2 ^ 31 by omega), f16] at *
          unfold mvW
          rw [ist_rset]
          congr 1
          refine fil_s ?_
          first
            | exact (if_pos (Or.inl h278)).symm
            | exact (if_pos (Or.inr (show bitH sn (nI h) = 1 from h289))).symm
            | exact (if_neg (fun q => q.elim (fun a => a h278) (fun a => h289 a))).symm
            | exact (if_neg (fun q => q.elim h278 (fun a => h289 a))).symm
      · refine b_iload (pc := 281) (i := 10) (dd dtX11_plan 153 rfl) rfl ?_
        refine b_iload (pc := 283) (i := 11) (dd dtX11_plan 154 rfl) rfl ?_
        refine b_ishr (pc := 285) (dd dtX11_plan 155 rfl) ?_
        refine b_ic1 (pc := 286) (dd dtX11_plan 156 rfl) ?_
        refine b_iand (pc := 287) (dd dtX11_plan 157 rfl) ?_
        refine b_ic1 (pc := 288) (dd dtX11_plan 158 rfl) ?_
        refine b_icmp_ne (pc := 289) (tgt := 296) (dd dtX11_plan 159 rfl) (by decide) (fun h289 => ?_) (fun h289 => ?_)
        · refine b_ic0 (pc := 296) (dd dtX11_plan 162 rfl) ?_
          refine b_zast (pc := 297) (dd dtX11_plan 163 rfl) pM_16 (vpn rfl (show h < 14 by omega) (by decide)) (by first | exact Or.inl rfl | exact Or.inr rfl | rfl | decide) ?_
          refine b_iinc1 (pc := 298) (i := 11) (lv' := [(11, _), (10, _), (9, _), (8, _), (7, _), (6, _), (4, _), (0, _), (1, _), (2, _), (3, _)]) (dd dtX11_plan 164 rfl) rfl (Nat.le_of_ble_eq_true rfl) rfl ?_
          refine b_goto (pc := 301) (tgt := 256) (dd dtX11_plan 165 rfl) (by decide) ?_
          rw [nI_1]
          refine ih (h + 1) _ _ hlt (by omega) rfl ?_
          · simp only [nI_clamp (show h < 2 ^ 31 by omega), f16] at *
            unfold mvW
            rw [ist_rset]
            congr 1
            refine fil_s ?_
            first
              | exact (if_pos (Or.inl h278)).symm
              | exact (if_pos (Or.inr (show bitH sn (nI h) = 1 from h289))).symm
              | exact (if_neg (fun q => q.elim (fun a => a h278) (fun a => h289 a))).symm
              | exact (if_neg (fun q => q.elim h278 (fun a => h289 a))).symm
        · refine b_ic1 (pc := 292) (dd dtX11_plan 160 rfl) ?_
          refine b_goto (pc := 293) (tgt := 297) (dd dtX11_plan 161 rfl) (by decide) ?_
          refine b_zast (pc := 297) (dd dtX11_plan 163 rfl) pM_16 (vpn rfl (show h < 14 by omega) (by decide)) (by first | exact Or.inl rfl | exact Or.inr rfl | rfl | decide) ?_
          refine b_iinc1 (pc := 298) (i := 11) (lv' := [(11, _), (10, _), (9, _), (8, _), (7, _), (6, _), (4, _), (0, _), (1, _), (2, _), (3, _)]) (dd dtX11_plan 164 rfl) rfl (Nat.le_of_ble_eq_true rfl) rfl ?_
          refine b_goto (pc := 301) (tgt := 256) (dd dtX11_plan 165 rfl) (by decide) ?_
          rw [nI_1]
          refine ih (h + 1) _ _ hlt (by omega) rfl ?_
          · simp only [nI_clamp (show h < 2 ^ 31 by omega), f16] at *
            unfold mvW
            rw [ist_rset]
            congr 1
            refine fil_s ?_
            first
              | exact (if_pos (Or.inl h278)).symm
              | exact (if_pos (Or.inr (show bitH sn (nI h) = 1 from h289))).symm
              | exact (if_neg (fun q => q.elim (fun a => a h278) (fun a => h289 a))).symm
              | exact (if_neg (fun q => q.elim h278 (fun a => h289 a))).symm
