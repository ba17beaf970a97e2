/-! the tape is split into tokens -/
def SPL (I : Wd) (n i : Nat) (W : Wd) : Prop := (∀ a, a ≠ 67 → a ≠ 69 → a ≠ 70 → W a = I a) ∧ W 67 0 = nI n ∧ W 67 1 = nI (cnt (I 68) i) ∧ ∀ j, j < i → isSt (I 68) j → W 69 (cnt (I 68) j) = nI j ∧ ∃ e, RE (I 68) i j e ∧ W 70 (cnt (I 68) j) = nI (e - j)
theorem SPL.go {I W : Wd} {n i : Nat} (h : SPL I n i W) (hi : 0 < i) (g : goP (I 68 (i - 1)) (I 68 i)) : SPL I n (i + 1) (ist W 70 (cnt (I 68) i - 1) (W 70 (cnt (I 68) i - 1) + 1)) := by
  obtain ⟨f, k0, k1, hs⟩ := h
  have hn : ¬ isSt (I 68) i := fun q => q.2.2 ⟨hi, g⟩
  refine ⟨fun a h1 h2 h3 => by rw [ist_ne h3]; exact f a h1 h2 h3, ?_, ?_, fun j hj hj2 => ?_⟩
  · rw [ist_ne (by decide)]; exact k0
  · rw [ist_ne (by decide), cnt_n hn]; exact k1
  · have hji : j < i := by
      by_cases e : j = i
      · subst e; exact absurd hj2 hn
      · omega
    obtain ⟨p1, e, p2, p3⟩ := hs j hji hj2
    refine ⟨by rw [ist_ne (by decide)]; exact p1, ?_⟩
    rw [ist_eq]
    rcases RE_last p2 hj2 g hi with ⟨q1, q2⟩ | ⟨q1, q2⟩
    · subst q1
      refine ⟨e + 1, RE_go p2 g, ?_⟩
      have hc : cnt (I 68) e - 1 = cnt (I 68) j := by omega
      rw [hc, upd_eq, p3, nI_1]
      congr 1; have := p2.1; omega
    · refine ⟨e, RE_st p2 (Or.inl q1), ?_⟩
      rw [upd_ne (by omega)]
      exact p3
theorem SPL.blank {I W : Wd} {n i : Nat} (h : SPL I n i W) (hb : I 68 i = 32 ∨ I 68 i = 10) : SPL I n (i + 1) W := by
  obtain ⟨f, k0, k1, hs⟩ := h
  have hn : ¬ isSt (I 68) i := fun q => by
    rcases hb with hb | hb
    · exact q.1 hb
    · exact q.2.1 hb
  have hg : ∀ x, ¬ goP x (I 68 i) := fun x q => by
    have := (goP_nb q).2
    rcases hb with hb | hb
    · exact this.1 hb
    · exact this.2 hb
  refine ⟨f, k0, by rw [cnt_n hn]; exact k1, fun j hj hj2 => ?_⟩
  have hji : j < i := by
    by_cases e : j = i
    · subst e; exact absurd hj2 hn
    · omega
  obtain ⟨p1, e, p2, p3⟩ := hs j hji hj2
  exact ⟨p1, e, RE_st p2 (Or.inr (hg _)), p3⟩
theorem SPL.new {I W : Wd} {n i : Nat} (h : SPL I n i W) (hs2 : isSt (I 68) i) : SPL I n (i + 1) (ist (ist (ist W 69 (cnt (I 68) i) (nI i)) 70 (cnt (I 68) i) 1) 67 1 (nI (cnt (I 68) i + 1))) := by
  obtain ⟨f, k0, k1, hs⟩ := h
  refine ⟨fun a h1 h2 h3 => by rw [ist_ne h1, ist_ne h3, ist_ne h2]; exact f a h1 h2 h3, ?_, ?_, fun j hj hj2 => ?_⟩
  · rw [ist_eq, upd_ne (by decide), ist_ne (by decide), ist_ne (by decide)]; exact k0
  · rw [ist_eq, upd_eq, cnt_y hs2]
  · rw [ist_ne (show (69 : Nat) ≠ 67 by decide), ist_ne (show (70 : Nat) ≠ 67 by decide), ist_ne (show (69 : Nat) ≠ 70 by decide), ist_eq, ist_eq]
    by_cases e : j = i
    · subst e
      exact ⟨by rw [upd_eq], j + 1, RE_new, by rw [upd_eq, show j + 1 - j = 1 by omega]; rfl⟩
    · have hji : j < i := by omega
      have hc : cnt (I 68) j < cnt (I 68) i := by have := cnt_y hj2; have := cnt_mono (b := I 68) (show j + 1 ≤ i by omega); omega
      obtain ⟨p1, e, p2, p3⟩ := hs j hji hj2
      refine ⟨by rw [upd_ne (by omega)]; exact p1, e, RE_st p2 ?_, ?_⟩
      · by_cases ei : e < i
        · exact Or.inl ei
        · exact Or.inr (fun q => hs2.2.2 ⟨by omega, q⟩)
      · rw [ist_ne (by decide), upd_ne (by omega)]; exact p3
theorem nI_m1 {i : Nat} (h : 0 < i) : nI i - 1 = nI (i - 1) := by
  obtain ⟨k, rfl⟩ : ∃ k, i = k + 1 := ⟨i - 1, by omega⟩
  exact nI_pred k
theorem pos_n {i : Nat} (h : 0 < nI i) (h2 : i < 2 ^ 31) : 0 < i := by
  apply Classical.byContradiction; intro q
  rw [show i = 0 by omega] at h
  exact absurd h (by decide)
def tX7_split : List (Nat × Instr × Nat) := [(0, .aload_n 0, 1), (1, .iconst 0, 1), (2, .putfield 15, 3), (5, .iconst 0, 1), (6, .istore_n 1, 1), (7, .iload_n 1, 1), (8, .aload_n 0, 1), (9, .getfield 9, 3), (12, .if_icmp .ge 109, 3), (15, .iload_n 1, 1), (16, .sipush 160, 3), (19, .if_icmp .ge 102, 3), (22, .aload_n 0, 1), (23, .getfield 18, 3), (26, .iload_n 1, 1), (27, .iaload, 1), (28, .istore_n 2, 1), (29, .iload_n 1, 1), (30, .ifCond .le 43, 3), (33, .aload_n 0, 1), (34, .getfield 15, 3), (37, .ifCond .le 36, 3), (40, .aload_n 0, 1), (41, .getfield 18, 3), (44, .iload_n 1, 1), (45, .iconst 1, 1), (46, .isub, 1), (47, .iaload, 1), (48, .iload_n 2, 1), (49, .invokestatic 34, 3), (52, .ifCond .eq 21, 3), (55, .aload_n 0, 1), (56, .getfield 25, 3), (59, .aload_n 0, 1), (60, .getfield 15, 3), (63, .iconst 1, 1), (64, .isub, 1), (65, .dup2, 1), (66, .iaload, 1), (67, .iconst 1, 1), (68, .iadd, 1), (69, .iastore, 1), (70, .goto 45, 3), (73, .iload_n 2, 1), (74, .bipush 32, 2), (76, .if_icmp .eq 39, 3), (79, .iload_n 2, 1), (80, .bipush 10, 2), (82, .if_icmp .eq 33, 3), (85, .aload_n 0, 1), (86, .getfield 22, 3), (89, .aload_n 0, 1), (90, .getfield 15, 3), (93, .iload_n 1, 1), (94, .iastore, 1), (95, .aload_n 0, 1), (96, .getfield 25, 3), (99, .aload_n 0, 1), (100, .getfield 15, 3), (103, .iconst 1, 1), (104, .iastore, 1), (105, .aload_n 0, 1), (106, .dup, 1), (107, .getfield 15, 3), (110, .iconst 1, 1), (111, .iadd, 1), (112, .putfield 15, 3), (115, .iinc 1 1, 3), (118, .goto (-111), 3), (121, .iconst 0, 1), (122, .istore_n 1, 1), (123, .iload_n 1, 1), (124, .aload_n 0, 1), (125, .getfield 15, 3), (128, .if_icmp .ge 14, 3), (131, .aload_n 0, 1), (132, .iload_n 1, 1), (133, .invokevirtual 38, 3), (136, .iinc 1 1, 3), (139, .goto (-16), 3), (142, .return_, 1)]
theorem dtX7_split : dec_ok mX7_split.2.1 tX7_split = true := by decide +kernel
theorem ist67 {W : Wd} {a b : Nat} {v x y : Int32} (h : W 67 1 = v) (h1 : a ≠ 67) (h2 : b ≠ 67) {i j : Nat} : (ist (ist W a i x) b j y) 67 1 = v := by rw [ist_ne (Ne.symm h2), ist_ne (Ne.symm h1)]; exact h
set_option maxHeartbeats 4000000 in
theorem p_split73 {I W : Wd} {n i : Nat} {Q : Option Value → Wd → Prop} (hn2 : n ≤ 160) (hi : i < n) (hS : SPL I n i W) (kk : ∀ W, SPL I n (i + 1) W → BdQ SyC mX7_split 7 7 [(1, .int (nI (i + 1))), (0, .ref 67)] [] W Q) (hng : ¬ (0 < i ∧ goP (I 68 (i - 1)) (I 68 i))) : BdQ SyC mX7_split 7 73 [(2, .int (I 68 i)), (1, .int (nI i)), (0, .ref 67)] [] W Q := by
  have hc := cnt_le (b := I 68) (i := i)
  refine BdQ.l (fun _ _ k => b_iload_n (pc := 73) (i := 2) (dd dtX7_split 43 rfl) rfl rfl k) ?_
  refine BdQ.l (fun _ _ k => b_bipush (pc := 74) (v := 32) (dd dtX7_split 44 rfl) (by decide) k) ?_
  refine BdQ.b (fun _ _ k1 k2 => b_icmp_eq (pc := 76) (tgt := 115) (dd dtX7_split 45 rfl) (by decide) k1 k2) (fun h76 => ?_) (fun h76 => ?_)
  · refine BdQ.l (fun _ _ k => b_iinc1 (pc := 115) (i := 1) (lv' := [(1, _), (2, _), (0, _)]) (dd dtX7_split 67 rfl) rfl (Nat.le_of_ble_eq_true rfl) rfl k) ?_
    refine BdQ.l (fun _ _ k => b_goto (pc := 118) (tgt := 7) (dd dtX7_split 68 rfl) (by decide) k) ?_
    refine BdQ.l (fun _ _ k => b_pick [0, 2] (lv' := [(1, _), (0, _)]) rfl k) ?_
    rw [nI_1]
    first
    | exact kk _ (hS.blank (by first | exact Or.inl h76 | exact Or.inr h82))
    | exact kk _ (hS.new ⟨h76, h82, hng⟩)
  · refine BdQ.l (fun _ _ k => b_iload_n (pc := 79) (i := 2) (dd dtX7_split 46 rfl) rfl rfl k) ?_
    refine BdQ.l (fun _ _ k => b_bipush (pc := 80) (v := 10) (dd dtX7_split 47 rfl) (by decide) k) ?_
    refine BdQ.b (fun _ _ k1 k2 => b_icmp_eq (pc := 82) (tgt := 115) (dd dtX7_split 48 rfl) (by decide) k1 k2) (fun h82 => ?_) (fun h82 => ?_)
    · refine BdQ.l (fun _ _ k => b_iinc1 (pc := 115) (i := 1) (lv' := [(1, _), (2, _), (0, _)]) (dd dtX7_split 67 rfl) rfl (Nat.le_of_ble_eq_true rfl) rfl k) ?_
      refine BdQ.l (fun _ _ k => b_goto (pc := 118) (tgt := 7) (dd dtX7_split 68 rfl) (by decide) k) ?_
      refine BdQ.l (fun _ _ k => b_pick [0, 2] (lv' := [(1, _), (0, _)]) rfl k) ?_
      rw [nI_1]
      first
      | exact kk _ (hS.blank (by first | exact Or.inl h76 | exact Or.inr h82))
      | exact kk _ (hS.new ⟨h76, h82, hng⟩)
    · refine BdQ.l (fun _ _ k => b_aload_n (pc := 85) (i := 0) (dd dtX7_split 49 rfl) rfl rfl k) ?_
      refine BdQ.l (fun _ _ k => b_geta (pc := 86) (dd dtX7_split 50 rfl) fwX7_22 pC_67 rC_67_3 k) ?_
      refine BdQ.l (fun _ _ k => b_aload_n (pc := 89) (i := 0) (dd dtX7_split 51 rfl) rfl rfl k) ?_
      refine BdQ.l (fun _ _ k => b_geti (pc := 90) (dd dtX7_split 52 rfl) fwX7_15 pC_67 k) ?_
      rw [hS.2.2.1]
      refine BdQ.l (fun _ _ k => b_iload_n (pc := 93) (i := 1) (dd dtX7_split 53 rfl) rfl rfl k) ?_
      refine BdQ.l (fun _ _ k => b_iast (pc := 94) (dd dtX7_split 54 rfl) pC_69 (vpn rfl (show cnt (I 68) i < 160 by omega) (by decide)) k) ?_
      rw [nI_clamp (show cnt (I 68) i < 2 ^ 31 by omega)]
      refine BdQ.l (fun _ _ k => b_aload_n (pc := 95) (i := 0) (dd dtX7_split 55 rfl) rfl rfl k) ?_
      refine BdQ.l (fun _ _ k => b_geta (pc := 96) (dd dtX7_split 56 rfl) fwX7_25 pC_67 rC_67_4 k) ?_
      refine BdQ.l (fun _ _ k => b_aload_n (pc := 99) (i := 0) (dd dtX7_split 57 rfl) rfl rfl k) ?_
      refine BdQ.l (fun _ _ k => b_geti (pc := 100) (dd dtX7_split 58 rfl) fwX7_15 pC_67 k) ?_
      rw [ist_ne (show (67 : Nat) ≠ 69 by decide), hS.2.2.1]
      refine BdQ.l (fun _ _ k => b_ic1 (pc := 103) (dd dtX7_split 59 rfl) k) ?_
      refine BdQ.l (fun _ _ k => b_iast (pc := 104) (dd dtX7_split 60 rfl) pC_70 (vpn rfl (show cnt (I 68) i < 160 by omega) (by decide)) k) ?_
      rw [nI_clamp (show cnt (I 68) i < 2 ^ 31 by omega)]
      refine BdQ.l (fun _ _ k => b_aload_n (pc := 105) (i := 0) (dd dtX7_split 61 rfl) rfl rfl k) ?_
      refine BdQ.l (fun _ _ k => b_dup (pc := 106) (dd dtX7_split 62 rfl) rfl k) ?_
      refine BdQ.l (fun _ _ k => b_geti (pc := 107) (dd dtX7_split 63 rfl) fwX7_15 pC_67 k) ?_
      rw [ist67 hS.2.2.1 (by decide) (by decide)]
      refine BdQ.l (fun _ _ k => b_ic1 (pc := 110) (dd dtX7_split 64 rfl) k) ?_
      refine BdQ.l (fun _ _ k => b_iadd (pc := 111) (dd dtX7_split 65 rfl) k) ?_
      rw [nI_1]
      refine BdQ.l (fun _ _ k => b_puti (pc := 112) (dd dtX7_split 66 rfl) fwX7_15 pC_67 k) ?_
      refine BdQ.l (fun _ _ k => b_iinc1 (pc := 115) (i := 1) (lv' := [(1, _), (2, _), (0, _)]) (dd dtX7_split 67 rfl) rfl (Nat.le_of_ble_eq_true rfl) rfl k) ?_
      refine BdQ.l (fun _ _ k => b_goto (pc := 118) (tgt := 7) (dd dtX7_split 68 rfl) (by decide) k) ?_
      refine BdQ.l (fun _ _ k => b_pick [0, 2] (lv' := [(1, _), (0, _)]) rfl k) ?_
      rw [nI_1]
      first
      | exact kk _ (hS.blank (by first | exact Or.inl h76 | exact Or.inr h82))
      | exact kk _ (hS.new ⟨h76, h82, hng⟩)
set_option maxHeartbeats 4000000 in
theorem p_split7 {I W : Wd} {n i : Nat} {Q : Option Value → Wd → Prop} (hn2 : n ≤ 160) (hi : i < n) (hS : SPL I n i W) (kk : ∀ W, SPL I n (i + 1) W → BdQ SyC mX7_split 7 7 [(1, .int (nI (i + 1))), (0, .ref 67)] [] W Q) : BdQ SyC mX7_split 7 7 [(1, .int (nI i)), (0, .ref 67)] [] W Q := by
  have hc := cnt_le (b := I 68) (i := i)
  refine BdQ.l (fun _ _ k => b_iload_n (pc := 7) (i := 1) (dd dtX7_split 5 rfl) rfl rfl k) ?_
  refine BdQ.l (fun _ _ k => b_aload_n (pc := 8) (i := 0) (dd dtX7_split 6 rfl) rfl rfl k) ?_
  refine BdQ.l (fun _ _ k => b_geti (pc := 9) (dd dtX7_split 7 rfl) fwX7_9 pC_67 k) ?_
  rw [hS.2.1]
  refine BdQ.c (fun _ _ k1 k2 => b_icmpL_ge (pc := 12) (tgt := 121) (dd dtX7_split 8 rfl) (by decide) k1 k2) (fun h12 => ?_) (fun h12 => ?_)
  · exact absurd (nI_lt hi (by omega)) h12
  · refine BdQ.l (fun _ _ k => b_iload_n (pc := 15) (i := 1) (dd dtX7_split 9 rfl) rfl rfl k) ?_
    refine BdQ.l (fun _ _ k => b_sipush (pc := 16) (v := 160) (dd dtX7_split 10 rfl) (by decide) k) ?_
    refine BdQ.c (fun _ _ k1 k2 => b_icmpL_ge (pc := 19) (tgt := 121) (dd dtX7_split 11 rfl) (by decide) k1 k2) (fun h19 => ?_) (fun h19 => ?_)
    · exact absurd (nI_lt (show i < 160 by omega) (by decide)) h19
    · refine BdQ.l (fun _ _ k => b_aload_n (pc := 22) (i := 0) (dd dtX7_split 12 rfl) rfl rfl k) ?_
      refine BdQ.l (fun _ _ k => b_geta (pc := 23) (dd dtX7_split 13 rfl) fwX7_18 pC_67 rC_67_2 k) ?_
      refine BdQ.l (fun _ _ k => b_iload_n (pc := 26) (i := 1) (dd dtX7_split 14 rfl) rfl rfl k) ?_
      refine BdQ.l (fun _ _ k => b_iald (pc := 27) (dd dtX7_split 15 rfl) pC_68 (vpn rfl (show i < 160 by omega) (by decide)) k) ?_
      rw [nI_clamp (show i < 2 ^ 31 by omega), hS.1 68 (by decide) (by decide) (by decide)]
      refine BdQ.l (fun _ _ k => b_istore_n (pc := 28) (i := 2) (lv' := [(2, _), (1, _), (0, _)]) (dd dtX7_split 16 rfl) rfl (Nat.le_of_ble_eq_true rfl) rfl k) ?_
      refine BdQ.l (fun _ _ k => b_iload_n (pc := 29) (i := 1) (dd dtX7_split 17 rfl) rfl rfl k) ?_
      refine BdQ.c (fun _ _ k1 k2 => b_ifL_le (pc := 30) (tgt := 73) (dd dtX7_split 18 rfl) (by decide) k1 k2) (fun h30 => ?_) (fun h30 => ?_)
      · first
        | exact p_split73 hn2 hi hS kk (fun q => h52 q.2)
        | exact p_split73 hn2 hi hS kk (fun q => h37 (nI_lt (a := 0) (show 0 < cnt (I 68) i from Nat.pos_of_ne_zero (fun z => cnt0 z q.1 q.2)) (by omega)))
        | exact p_split73 hn2 hi hS kk (fun q => h30 (nI_lt (a := 0) q.1 (by omega)))
      · refine BdQ.l (fun _ _ k => b_aload_n (pc := 33) (i := 0) (dd dtX7_split 19 rfl) rfl rfl k) ?_
        refine BdQ.l (fun _ _ k => b_geti (pc := 34) (dd dtX7_split 20 rfl) fwX7_15 pC_67 k) ?_
        rw [hS.2.2.1]
        refine BdQ.c (fun _ _ k1 k2 => b_ifL_le (pc := 37) (tgt := 73) (dd dtX7_split 21 rfl) (by decide) k1 k2) (fun h37 => ?_) (fun h37 => ?_)
        · first
          | exact p_split73 hn2 hi hS kk (fun q => h52 q.2)
          | exact p_split73 hn2 hi hS kk (fun q => h37 (nI_lt (a := 0) (show 0 < cnt (I 68) i from Nat.pos_of_ne_zero (fun z => cnt0 z q.1 q.2)) (by omega)))
          | exact p_split73 hn2 hi hS kk (fun q => h30 (nI_lt (a := 0) q.1 (by omega)))
        · refine BdQ.l (fun _ _ k => b_aload_n (pc := 40) (i := 0) (dd dtX7_split 22 rfl) rfl rfl k) ?_
          refine BdQ.l (fun _ _ k => b_geta (pc := 41) (dd dtX7_split 23 rfl) fwX7_18 pC_67 rC_67_2 k) ?_
          refine BdQ.l (fun _ _ k => b_iload_n (pc := 44) (i := 1) (dd dtX7_split 24 rfl) rfl rfl k) ?_
          refine BdQ.l (fun _ _ k => b_ic1 (pc := 45) (dd dtX7_split 25 rfl) k) ?_
          refine BdQ.l (fun _ _ k => b_isub (pc := 46) (dd dtX7_split 26 rfl) k) ?_
          have hi0 := pos_n h30 (by omega)
          rw [nI_m1 hi0]
          refine BdQ.l (fun _ _ k => b_iald (pc := 47) (dd dtX7_split 27 rfl) pC_68 (vpn rfl (show i - 1 < 160 by omega) (by decide)) k) ?_
          rw [nI_clamp (show i - 1 < 2 ^ 31 by omega), hS.1 68 (by decide) (by decide) (by decide)]
          refine BdQ.l (fun _ _ k => b_iload_n (pc := 48) (i := 2) (dd dtX7_split 28 rfl) rfl rfl k) ?_
          refine BdQ.l (fun _ _ k => b_invS (pc := 49) (dd dtX7_split 29 rfl) mlX7_34 mvX7_goOn msX7_goOn (c_X7_goOn) rfl rfl (by decide) (Nat.le_of_ble_eq_true rfl) k) ?_
          refine BdQ.c (fun _ _ k1 k2 => b_ifb_eq (pc := 52) (tgt := 73) (dd dtX7_split 30 rfl) (by decide) k1 k2) (fun h52 => ?_) (fun h52 => ?_)
          · first
            | exact p_split73 hn2 hi hS kk (fun q => h52 q.2)
            | exact p_split73 hn2 hi hS kk (fun q => h37 (nI_lt (a := 0) (show 0 < cnt (I 68) i from Nat.pos_of_ne_zero (fun z => cnt0 z q.1 q.2)) (by omega)))
            | exact p_split73 hn2 hi hS kk (fun q => h30 (nI_lt (a := 0) q.1 (by omega)))
          · refine BdQ.l (fun _ _ k => b_aload_n (pc := 55) (i := 0) (dd dtX7_split 31 rfl) rfl rfl k) ?_
            refine BdQ.l (fun _ _ k => b_geta (pc := 56) (dd dtX7_split 32 rfl) fwX7_25 pC_67 rC_67_4 k) ?_
            refine BdQ.l (fun _ _ k => b_aload_n (pc := 59) (i := 0) (dd dtX7_split 33 rfl) rfl rfl k) ?_
            refine BdQ.l (fun _ _ k => b_geti (pc := 60) (dd dtX7_split 34 rfl) fwX7_15 pC_67 k) ?_
            refine BdQ.l (fun _ _ k => b_ic1 (pc := 63) (dd dtX7_split 35 rfl) k) ?_
            refine BdQ.l (fun _ _ k => b_isub (pc := 64) (dd dtX7_split 36 rfl) k) ?_
            refine BdQ.l (fun _ _ k => b_dup2 (pc := 65) (dd dtX7_split 37 rfl) ⟨rfl, rfl⟩ k) ?_
            rw [hS.2.2.1, nI_m1 (pos_n h37 (by omega))]
            refine BdQ.l (fun _ _ k => b_iald (pc := 66) (dd dtX7_split 38 rfl) pC_70 (vpn rfl (show cnt (I 68) i - 1 < 160 by omega) (by decide)) k) ?_
            rw [nI_clamp (show cnt (I 68) i - 1 < 2 ^ 31 by omega)]
            refine BdQ.l (fun _ _ k => b_ic1 (pc := 67) (dd dtX7_split 39 rfl) k) ?_
            refine BdQ.l (fun _ _ k => b_iadd (pc := 68) (dd dtX7_split 40 rfl) k) ?_
            refine BdQ.l (fun _ _ k => b_iast (pc := 69) (dd dtX7_split 41 rfl) pC_70 (vpn rfl (show cnt (I 68) i - 1 < 160 by omega) (by decide)) k) ?_
            refine BdQ.l (fun _ _ k => b_goto (pc := 70) (tgt := 115) (dd dtX7_split 42 rfl) (by decide) k) ?_
            refine BdQ.l (fun _ _ k => b_iinc1 (pc := 115) (i := 1) (lv' := [(1, _), (2, _), (0, _)]) (dd dtX7_split 67 rfl) rfl (Nat.le_of_ble_eq_true rfl) rfl k) ?_
            refine BdQ.l (fun _ _ k => b_goto (pc := 118) (tgt := 7) (dd dtX7_split 68 rfl) (by decide) k) ?_
            refine BdQ.l (fun _ _ k => b_pick [0, 2] (lv' := [(1, _), (0, _)]) rfl k) ?_
            rw [nI_1, nI_clamp (show cnt (I 68) i - 1 < 2 ^ 31 by omega)]
            exact kk _ (hS.go hi0 h52)
theorem lr_split1 {I : Wd} {n : Nat} {Q : Option Value → Wd → Prop} (hn2 : n ≤ 160) (kk : ∀ W, SPL I n n W → BdQ SyC mX7_split 7 7 [(1, .int (nI n)), (0, .ref 67)] [] W Q) : ∀ (m i : Nat) (W : Wd), i + m = n → SPL I n i W → BdQ SyC mX7_split 7 7 [(1, .int (nI i)), (0, .ref 67)] [] W Q := by
  intro m
  induction m with
  | zero => intro i W hi hS; rw [show i = n by omega] at hS ⊢; exact kk W hS
  | succ m ih => intro i W hi hS; exact p_split7 hn2 (by omega) hS (fun W h => ih (i + 1) W (by omega) h)
theorem cnt_ex {b : Nat → Int32} {t : Nat} : ∀ n, t < cnt b n → ∃ j, j < n ∧ isSt b j ∧ cnt b j = t := by
  intro n
  induction n with
  | zero => intro h; exact absurd h (Nat.not_lt_zero _)
  | succ n ih =>
    intro h
    by_cases q : isSt b n
    · rw [cnt_y q] at h
      by_cases e : t = cnt b n
      · exact ⟨n, by omega, q, e.symm⟩
      · obtain ⟨j, h1, h2, h3⟩ := ih (by omega)
        exact ⟨j, by omega, h2, h3⟩
    · rw [cnt_n q] at h
      obtain ⟨j, h1, h2, h3⟩ := ih h
      exact ⟨j, by omega, h2, h3⟩
theorem cnt_inj {b : Nat → Int32} {j k : Nat} (hj : isSt b j) (hk : isSt b k) (h : cnt b j = cnt b k) : j = k := by
  have a1 := cnt_y hj
  have a2 := cnt_y hk
  rcases Nat.lt_trichotomy j k with q | q | q
  · have := cnt_mono (b := b) (show j + 1 ≤ k by omega); omega
  · exact q
  · have := cnt_mono (b := b) (show k + 1 ≤ j by omega); omega
set_option maxHeartbeats 1000000 in
theorem lr_split2 {I W0 : Wd} {n : Nat} (hn2 : n ≤ 160) (hS : SPL I n n W0) : ∀ (m t : Nat) (x1 : Int32) (W : Wd), t + m = cnt (I 68) n → x1 = nI t → (∀ a, a ≠ 71 → a ≠ 72 → W a = W0 a) → (∀ j, j < n → isSt (I 68) j → cnt (I 68) j < t → ∃ e, RE (I 68) n j e ∧ KindOK (I 68) j (e - j) (W 71 (cnt (I 68) j)) (W 72 (cnt (I 68) j))) → BdQ SyC mX7_split 7 123 [(1, .int x1), (0, .ref 67)] [] W (fun r I' => r = none ∧ (∀ a, a ≠ 71 → a ≠ 72 → I' a = W0 a) ∧ TokOK (I 68) n (I' 71) (I' 72) (I' 69) (cnt (I 68) n)) := by
  intro m
  induction m with
  | zero =>
    intro t x1 W ht e1 hF hK
    subst e1
    refine BdQ.l (fun _ _ k => b_iload_n (pc := 123) (i := 1) (dd dtX7_split 71 rfl) rfl rfl k) ?_
    refine BdQ.l (fun _ _ k => b_aload_n (pc := 124) (i := 0) (dd dtX7_split 72 rfl) rfl rfl k) ?_
    refine BdQ.l (fun _ _ k => b_geti (pc := 125) (dd dtX7_split 73 rfl) fwX7_15 pC_67 k) ?_
    rw [hF 67 (by decide) (by decide), hS.2.2.1]
    refine BdQ.c (fun _ _ k1 k2 => b_icmpL_ge (pc := 128) (tgt := 142) (dd dtX7_split 74 rfl) (by decide) k1 k2) (fun h128 => ?_) (fun h128 => ?_)
    · refine ⟨_, _, ?_, b_vret (dd dtX7_split 80 rfl) rfl⟩
      refine ⟨rfl, hF, rfl, fun j hj hs => ⟨?_, ?_⟩⟩
      · rw [hF 69 (by decide) (by decide)]; exact (hS.2.2.2 j hj hs).1
      · exact hK j hj hs (by have := cnt_y hs; have := cnt_mono (b := I 68) (show j + 1 ≤ n by omega); omega)
    · exact absurd h128 (by rw [show t = cnt (I 68) n by omega]; exact Int32.lt_irrefl)
  | succ m ih =>
    intro t x1 W ht e1 hF hK
    subst e1
    refine BdQ.l (fun _ _ k => b_iload_n (pc := 123) (i := 1) (dd dtX7_split 71 rfl) rfl rfl k) ?_
    refine BdQ.l (fun _ _ k => b_aload_n (pc := 124) (i := 0) (dd dtX7_split 72 rfl) rfl rfl k) ?_
    refine BdQ.l (fun _ _ k => b_geti (pc := 125) (dd dtX7_split 73 rfl) fwX7_15 pC_67 k) ?_
    rw [hF 67 (by decide) (by decide), hS.2.2.1]
    refine BdQ.c (fun _ _ k1 k2 => b_icmpL_ge (pc := 128) (tgt := 142) (dd dtX7_split 74 rfl) (by decide) k1 k2) (fun h128 => ?_) (fun h128 => ?_)
    · exact absurd (nI_lt (show t < cnt (I 68) n by omega) (by have := cnt_le (b := I 68) (i := n); omega)) h128
    · refine BdQ.l (fun _ _ k => b_aload_n (pc := 131) (i := 0) (dd dtX7_split 75 rfl) rfl rfl k) ?_
      refine BdQ.l (fun _ _ k => b_iload_n (pc := 132) (i := 1) (dd dtX7_split 76 rfl) rfl rfl k) ?_
      have hc := cnt_le (b := I 68) (i := n)
      obtain ⟨j0, j1, j2, j3⟩ := cnt_ex n (show t < cnt (I 68) n by omega)
      obtain ⟨p1, e0, p2, p3⟩ := hS.2.2.2 j0 j1 j2
      obtain ⟨_, I133, ⟨rfl, R133⟩, k133⟩ := q_kind (I := W) (t := t) (j := j0) (l := e0 - j0) (n := n) (by omega) (by rw [hF 69 (by decide) (by decide), ← j3]; exact p1) (by rw [hF 70 (by decide) (by decide), ← j3]; exact p3) (by rw [hF 67 (by decide) (by decide)]; exact hS.2.1) (by have := p2.1; have := p2.2.1; omega) hn2 (by have := p2.1; omega)
      refine BdQ.l (fun _ _ k => b_invV (pc := 133) (dd dtX7_split 77 rfl) mlX7_38 mvX7_tellKind miX7_tellKind (k133) oC_67 rfl rfl (by decide) (Nat.le_of_ble_eq_true rfl) k) ?_
      refine BdQ.l (fun _ _ k => b_iinc1 (pc := 136) (i := 1) (lv' := [(1, _), (0, _)]) (dd dtX7_split 78 rfl) rfl (Nat.le_of_ble_eq_true rfl) rfl k) ?_
      refine BdQ.l (fun _ _ k => b_goto (pc := 139) (tgt := 123) (dd dtX7_split 79 rfl) (by decide) k) ?_
      rw [nI_1]
      rw [hF 68 (by decide) (by decide), hS.1 68 (by decide) (by decide) (by decide)] at R133
      refine ih (t + 1) _ _ (by omega) rfl (fun a h1 h2 => by rw [R133.1.1 a h1 h2]; exact hF a h1 h2) (fun j hj hs hc2 => ?_)
      by_cases e : cnt (I 68) j = t
      · have ej : j = j0 := cnt_inj hs j2 (by rw [e, j3])
        subst ej
        exact ⟨e0, p2, by rw [e]; exact R133.2⟩
      · obtain ⟨e1, q1, q2⟩ := hK j hj hs (by omega)
        exact ⟨e1, q1, by rw [(R133.1.2 _ e).1, (R133.1.2 _ e).2]; exact q2⟩
theorem p_split121 {I W : Wd} {n : Nat} (hn2 : n ≤ 160) (hS : SPL I n n W) : BdQ SyC mX7_split 7 7 [(1, .int (nI n)), (0, .ref 67)] [] W (fun r I' => r = none ∧ (∀ a, a ≠ 67 → a ≠ 69 → a ≠ 70 → a ≠ 71 → a ≠ 72 → I' a = I a) ∧ I' 67 0 = nI n ∧ I' 67 1 = nI (cnt (I 68) n) ∧ TokOK (I 68) n (I' 71) (I' 72) (I' 69) (cnt (I 68) n)) := by
  refine BdQ.l (fun _ _ k => b_iload_n (pc := 7) (i := 1) (dd dtX7_split 5 rfl) rfl rfl k) ?_
  refine BdQ.l (fun _ _ k => b_aload_n (pc := 8) (i := 0) (dd dtX7_split 6 rfl) rfl rfl k) ?_
  refine BdQ.l (fun _ _ k => b_geti (pc := 9) (dd dtX7_split 7 rfl) fwX7_9 pC_67 k) ?_
  rw [hS.2.1]
  refine BdQ.c (fun _ _ k1 k2 => b_icmpL_ge (pc := 12) (tgt := 121) (dd dtX7_split 8 rfl) (by decide) k1 k2) (fun h12 => ?_) (fun h12 => ?_)
  · refine BdQ.l (fun _ _ k => b_ic0 (pc := 121) (dd dtX7_split 69 rfl) k) ?_
    refine BdQ.l (fun _ _ k => b_istore_n (pc := 122) (i := 1) (lv' := [(1, _), (0, _)]) (dd dtX7_split 70 rfl) rfl (Nat.le_of_ble_eq_true rfl) rfl k) ?_
    refine BdQ.to (lr_split2 hn2 hS (cnt (I 68) n) 0 _ _ (by omega) rfl (fun _ _ _ => rfl) (fun j hj hs hc => absurd hc (Nat.not_lt_zero _))) ?_
    rintro r I' ⟨h0, h1, h2⟩
    refine ⟨h0, fun a a1 a2 a3 a4 a5 => by rw [h1 a a4 a5]; exact hS.1 a a1 a2 a3, ?_, ?_, h2⟩
    · rw [h1 67 (by decide) (by decide)]; exact hS.2.1
    · rw [h1 67 (by decide) (by decide)]; exact hS.2.2.1
  · exact absurd h12 Int32.lt_irrefl
set_option maxHeartbeats 4000000 in
theorem q_split {I : Wd} {n : Nat} (hn : I 67 0 = nI n) (hn2 : n ≤ 160) : CalQ SyC mX7_split 7 [.ref 67] I (fun r I' => r = none ∧ (∀ a, a ≠ 67 → a ≠ 69 → a ≠ 70 → a ≠ 71 → a ≠ 72 → I' a = I a) ∧ I' 67 0 = nI n ∧ I' 67 1 = nI (cnt (I 68) n) ∧ TokOK (I 68) n (I' 71) (I' 72) (I' 69) (cnt (I 68) n)) := by
  refine CalQ.of (by decide) (Nat.le_of_ble_eq_true rfl) ?_
  show BdQ _ _ _ _ [(0, _)] _ _ _
  refine BdQ.l (fun _ _ k => b_aload_n (pc := 0) (i := 0) (dd dtX7_split 0 rfl) rfl rfl k) ?_
  refine BdQ.l (fun _ _ k => b_ic0 (pc := 1) (dd dtX7_split 1 rfl) k) ?_
  refine BdQ.l (fun _ _ k => b_puti (pc := 2) (dd dtX7_split 2 rfl) fwX7_15 pC_67 k) ?_
  refine BdQ.l (fun _ _ k => b_ic0 (pc := 5) (dd dtX7_split 3 rfl) k) ?_
  refine BdQ.l (fun _ _ k => b_istore_n (pc := 6) (i := 1) (lv' := [(1, _), (0, _)]) (dd dtX7_split 4 rfl) rfl (Nat.le_of_ble_eq_true rfl) rfl k) ?_
  refine lr_split1 hn2 (fun W h => p_split121 hn2 h) n 0 _ (by omega) ?_
  refine ⟨fun a h1 h2 h3 => by rw [ist_ne h1], ?_, ?_, fun j hj => absurd hj (Nat.not_lt_zero _)⟩
  · rw [ist_eq, upd_ne (by decide)]; exact hn
  · rw [ist_eq, upd_eq]; rfl
