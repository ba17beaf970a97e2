/-! of what kind a token is -/
def tX7_spells : List (Nat × Instr × Nat) := [(0, .aload_n 2, 1), (1, .invokevirtual 66, 3), (4, .aload_n 0, 1), (5, .getfield 25, 3), (8, .iload_n 1, 1), (9, .iaload, 1), (10, .if_icmp .eq 5, 3), (13, .iconst 0, 1), (14, .ireturn, 1), (15, .iconst 0, 1), (16, .istore_n 3, 1), (17, .iload_n 3, 1), (18, .aload_n 2, 1), (19, .invokevirtual 66, 3), (22, .if_icmp .ge 47, 3), (25, .aload_n 0, 1), (26, .getfield 22, 3), (29, .iload_n 1, 1), (30, .iaload, 1), (31, .iload_n 3, 1), (32, .iadd, 1), (33, .aload_n 0, 1), (34, .getfield 9, 3), (37, .if_icmp .ge 32, 3), (40, .aload_n 2, 1), (41, .iload_n 3, 1), (42, .invokevirtual 71, 3), (45, .aload_n 0, 1), (46, .getfield 18, 3), (49, .aload_n 0, 1), (50, .getfield 22, 3), (53, .iload_n 1, 1), (54, .iaload, 1), (55, .iload_n 3, 1), (56, .iadd, 1), (57, .iaload, 1), (58, .if_icmp .eq 5, 3), (61, .iconst 0, 1), (62, .ireturn, 1), (63, .iinc 3 1, 3), (66, .goto (-49), 3), (69, .iconst 1, 1), (70, .ireturn, 1)]
theorem dtX7_spells : dec_ok mX7_spells.2.1 tX7_spells = true := by decide +kernel
set_option maxHeartbeats 1000000 in
theorem lr_spells {I : Wd} {t j l n i : Nat} (hi : i < 15) (ht : t < 160) (hj : I 69 t = nI j) (hl : I 70 t = nI l) (hn : I 67 0 = nI n) (hjl : j + l ≤ n) (hn2 : n ≤ 160) (htl : txL.getD i 0 = l) : ∀ (m q : Nat) (x3 : Int32), q + m = l → x3 = nI q → (∀ p, p < q → chS i p = I 68 (j + p)) → Bd SyC mX7_spells 4 17 [(3, .int x3), (0, .ref 67), (1, .int (nI t)), (2, .ref (1100 + i))] [] I (some (.int (bi (spP (I 68) j l i)))) I := by
  intro m
  induction m with
  | zero =>
    intro q x3 hq e3 ha
    subst e3
    refine b_iload_n (pc := 17) (i := 3) (dd dtX7_spells 11 rfl) rfl rfl ?_
    refine b_aload_n (pc := 18) (i := 2) (dd dtX7_spells 12 rfl) rfl rfl ?_
    refine b_invT (pc := 19) (dd dtX7_spells 13 rfl) mlX7_66 mvJ0_length_8abf5 miJ0_length_8abf5 (c_J0_length hi) rfl hi rfl rfl (by decide) (Nat.le_of_ble_eq_true rfl) ?_
    refine b_icmpL_ge (pc := 22) (tgt := 69) (dd dtX7_spells 14 rfl) (by decide) (fun h22 => ?_) (fun h22 => ?_)
    · refine b_ic1 (pc := 69) (dd dtX7_spells 41 rfl) ?_
      refine b_eq (b_zret (dd dtX7_spells 42 rfl) rfl (by first | rfl | exact nar_bi)) ?_ ?_
      · rw [bi_t (show spP (I 68) j l i from ⟨htl, fun p hp => ha p (by omega)⟩)]
      · rfl
    · exact absurd h22 (by rw [htl, show q = l by omega]; exact Int32.lt_irrefl)
  | succ m ih =>
    intro q x3 hq e3 ha
    subst e3
    refine b_iload_n (pc := 17) (i := 3) (dd dtX7_spells 11 rfl) rfl rfl ?_
    refine b_aload_n (pc := 18) (i := 2) (dd dtX7_spells 12 rfl) rfl rfl ?_
    refine b_invT (pc := 19) (dd dtX7_spells 13 rfl) mlX7_66 mvJ0_length_8abf5 miJ0_length_8abf5 (c_J0_length hi) rfl hi rfl rfl (by decide) (Nat.le_of_ble_eq_true rfl) ?_
    refine b_icmpL_ge (pc := 22) (tgt := 69) (dd dtX7_spells 14 rfl) (by decide) (fun h22 => ?_) (fun h22 => ?_)
    · exact absurd (nI_lt (show q < txL.getD i 0 by omega) (by omega)) h22
    · refine b_aload_n (pc := 25) (i := 0) (dd dtX7_spells 15 rfl) rfl rfl ?_
      refine b_geta (pc := 26) (dd dtX7_spells 16 rfl) fwX7_22 pC_67 rC_67_3 ?_
      refine b_iload_n (pc := 29) (i := 1) (dd dtX7_spells 17 rfl) rfl rfl ?_
      refine b_iald (pc := 30) (dd dtX7_spells 18 rfl) pC_69 (vpn rfl ht (by decide)) ?_
      rw [nI_clamp (show t < 2 ^ 31 by omega), hj]
      refine b_iload_n (pc := 31) (i := 3) (dd dtX7_spells 19 rfl) rfl rfl ?_
      refine b_iadd (pc := 32) (dd dtX7_spells 20 rfl) ?_
      rw [nI_add]
      refine b_aload_n (pc := 33) (i := 0) (dd dtX7_spells 21 rfl) rfl rfl ?_
      refine b_geti (pc := 34) (dd dtX7_spells 22 rfl) fwX7_9 pC_67 ?_
      rw [hn]
      refine b_icmpL_ge (pc := 37) (tgt := 69) (dd dtX7_spells 23 rfl) (by decide) (fun h37 => ?_) (fun h37 => ?_)
      · exact absurd (nI_lt (show j + q < n by omega) (by omega)) h37
      · refine b_aload_n (pc := 40) (i := 2) (dd dtX7_spells 24 rfl) rfl rfl ?_
        refine b_iload_n (pc := 41) (i := 3) (dd dtX7_spells 25 rfl) rfl rfl ?_
        refine b_invT (pc := 42) (dd dtX7_spells 26 rfl) mlX7_71 mvJ0_charAt_5068e miJ0_charAt_5068e (c_J0_charAt hi (by rw [htl]; omega)) rfl hi rfl rfl (by decide) (Nat.le_of_ble_eq_true rfl) ?_
        refine b_aload_n (pc := 45) (i := 0) (dd dtX7_spells 27 rfl) rfl rfl ?_
        refine b_geta (pc := 46) (dd dtX7_spells 28 rfl) fwX7_18 pC_67 rC_67_2 ?_
        refine b_aload_n (pc := 49) (i := 0) (dd dtX7_spells 29 rfl) rfl rfl ?_
        refine b_geta (pc := 50) (dd dtX7_spells 30 rfl) fwX7_22 pC_67 rC_67_3 ?_
        refine b_iload_n (pc := 53) (i := 1) (dd dtX7_spells 31 rfl) rfl rfl ?_
        refine b_iald (pc := 54) (dd dtX7_spells 32 rfl) pC_69 (vpn rfl ht (by decide)) ?_
        rw [nI_clamp (show t < 2 ^ 31 by omega), hj]
        refine b_iload_n (pc := 55) (i := 3) (dd dtX7_spells 33 rfl) rfl rfl ?_
        refine b_iadd (pc := 56) (dd dtX7_spells 34 rfl) ?_
        rw [nI_add]
        refine b_iald (pc := 57) (dd dtX7_spells 35 rfl) pC_68 (vpn rfl (show j + q < 160 by omega) (by decide)) ?_
        rw [nI_clamp (show j + q < 2 ^ 31 by omega)]
        refine b_icmp_eq (pc := 58) (tgt := 63) (dd dtX7_spells 36 rfl) (by decide) (fun h58 => ?_) (fun h58 => ?_)
        · refine b_iinc1 (pc := 63) (i := 3) (lv' := [(3, _), (0, _), (1, _), (2, _)]) (dd dtX7_spells 39 rfl) rfl (Nat.le_of_ble_eq_true rfl) rfl ?_
          refine b_goto (pc := 66) (tgt := 17) (dd dtX7_spells 40 rfl) (by decide) ?_
          rw [nI_1]
          refine ih (q + 1) _ (by omega) rfl (fun p hp => ?_)
          by_cases e : p = q
          · subst e; exact h58
          · exact ha p (by omega)
        · refine b_ic0 (pc := 61) (dd dtX7_spells 37 rfl) ?_
          refine b_eq (b_zret (dd dtX7_spells 38 rfl) rfl (by first | rfl | exact nar_bi)) ?_ ?_
          · rw [bi_f (show ¬ spP (I 68) j l i from fun z => h58 (z.2 q (by omega)))]
          · rfl
set_option maxHeartbeats 4000000 in
theorem c_X7_spells {I : Wd} {t j l n i : Nat} (hi : i < 15) (ht : t < 160) (hj : I 69 t = nI j) (hl : I 70 t = nI l) (hn : I 67 0 = nI n) (hjl : j + l ≤ n) (hn2 : n ≤ 160) : Cal SyC mX7_spells 4 [.ref 67, .int (nI t), .ref (1100 + i)] I (some (.int (bi (spP (I 68) j l i)))) I := by
  refine Cal.of (by decide) (Nat.le_of_ble_eq_true rfl) ?_
  show Bd _ _ _ _ [(0, _), (1, _), (2, _)] _ _ _ _
  refine b_aload_n (pc := 0) (i := 2) (dd dtX7_spells 0 rfl) rfl rfl ?_
  refine b_invT (pc := 1) (dd dtX7_spells 1 rfl) mlX7_66 mvJ0_length_8abf5 miJ0_length_8abf5 (c_J0_length hi) rfl hi rfl rfl (by decide) (Nat.le_of_ble_eq_true rfl) ?_
  refine b_aload_n (pc := 4) (i := 0) (dd dtX7_spells 2 rfl) rfl rfl ?_
  refine b_geta (pc := 5) (dd dtX7_spells 3 rfl) fwX7_25 pC_67 rC_67_4 ?_
  refine b_iload_n (pc := 8) (i := 1) (dd dtX7_spells 4 rfl) rfl rfl ?_
  refine b_iald (pc := 9) (dd dtX7_spells 5 rfl) pC_70 (vpn rfl ht (by decide)) ?_
  rw [nI_clamp (show t < 2 ^ 31 by omega), hl]
  refine b_icmp_eq (pc := 10) (tgt := 15) (dd dtX7_spells 6 rfl) (by decide) (fun h10 => ?_) (fun h10 => ?_)
  · refine b_ic0 (pc := 15) (dd dtX7_spells 9 rfl) ?_
    refine b_istore_n (pc := 16) (i := 3) (lv' := [(3, _), (0, _), (1, _), (2, _)]) (dd dtX7_spells 10 rfl) rfl (Nat.le_of_ble_eq_true rfl) rfl ?_
    exact lr_spells hi ht hj hl hn hjl hn2 ((nI_eq (tx_lb i hi) (by omega)).mp h10) l 0 _ (by omega) rfl (fun p hp => absurd hp (Nat.not_lt_zero _))
  · refine b_ic0 (pc := 13) (dd dtX7_spells 7 rfl) ?_
    refine b_eq (b_zret (dd dtX7_spells 8 rfl) rfl (by first | rfl | exact nar_bi)) ?_ ?_
    · rw [bi_f (show ¬ spP (I 68) j l i from fun z => h10 (congrArg nI z.1))]
    · rfl
theorem upd_upd {f : Nat → Int32} {t : Nat} {a c : Int32} : upd (upd f t a) t c = upd f t c := by funext i; simp only [upd]; split <;> rfl
def FrT (I I' : Wd) (t : Nat) : Prop := (∀ a, a ≠ 71 → a ≠ 72 → I' a = I a) ∧ ∀ q, q ≠ t → I' 71 q = I 71 q ∧ I' 72 q = I 72 q
theorem FrT.r {I : Wd} {t : Nat} : FrT I I t := ⟨fun _ _ _ => rfl, fun _ _ => ⟨rfl, rfl⟩⟩
theorem FrT.k {I W : Wd} {t : Nat} {v : Int32} (h : FrT I W t) : FrT I (ist W 71 t v) t := by
  refine ⟨fun a h1 h2 => by rw [ist_ne h1]; exact h.1 a h1 h2, fun q hq => ⟨?_, ?_⟩⟩
  · rw [ist_eq, upd_ne hq]; exact (h.2 q hq).1
  · rw [ist_ne (by decide)]; exact (h.2 q hq).2
theorem FrT.n {I W : Wd} {t : Nat} {v : Int32} (h : FrT I W t) : FrT I (ist W 72 t v) t := by
  refine ⟨fun a h1 h2 => by rw [ist_ne h2]; exact h.1 a h1 h2, fun q hq => ⟨?_, ?_⟩⟩
  · rw [ist_ne (by decide)]; exact (h.2 q hq).1
  · rw [ist_eq, upd_ne hq]; exact (h.2 q hq).2
def tX7_tellNumber : List (Nat × Instr × Nat) := [(0, .aload_n 0, 1), (1, .getfield 28, 3), (4, .iload_n 1, 1), (5, .aload_n 0, 1), (6, .getfield 25, 3), (9, .iload_n 1, 1), (10, .iaload, 1), (11, .iconst 4, 1), (12, .if_icmp .le 7, 3), (15, .iconst 1, 1), (16, .goto 4, 3), (19, .iconst 2, 1), (20, .iastore, 1), (21, .aload_n 0, 1), (22, .getfield 31, 3), (25, .iload_n 1, 1), (26, .iconst 0, 1), (27, .iastore, 1), (28, .iconst 0, 1), (29, .istore_n 2, 1), (30, .iload_n 2, 1), (31, .aload_n 0, 1), (32, .getfield 25, 3), (35, .iload_n 1, 1), (36, .iaload, 1), (37, .if_icmp .ge 46, 3), (40, .iload_n 2, 1), (41, .iconst 4, 1), (42, .if_icmp .ge 41, 3), (45, .aload_n 0, 1), (46, .getfield 31, 3), (49, .iload_n 1, 1), (50, .aload_n 0, 1), (51, .getfield 31, 3), (54, .iload_n 1, 1), (55, .iaload, 1), (56, .bipush 10, 2), (58, .imul, 1), (59, .aload_n 0, 1), (60, .getfield 18, 3), (63, .aload_n 0, 1), (64, .getfield 22, 3), (67, .iload_n 1, 1), (68, .iaload, 1), (69, .iload_n 2, 1), (70, .iadd, 1), (71, .iaload, 1), (72, .iadd, 1), (73, .bipush 48, 2), (75, .isub, 1), (76, .iastore, 1), (77, .iinc 2 1, 3), (80, .goto (-50), 3), (83, .return_, 1)]
theorem dtX7_tellNumber : dec_ok mX7_tellNumber.2.1 tX7_tellNumber = true := by decide +kernel
set_option maxHeartbeats 1000000 in
theorem lr_number {I : Wd} {t j l n : Nat} (ht : t < 160) (hj : I 69 t = nI j) (hl : I 70 t = nI l) (hjl : j + l ≤ n) (hn2 : n ≤ 160) {kk : Int32} : ∀ (m i : Nat) (x2 : Int32) (W : Wd), i + m = min l 4 → x2 = nI i → FrT I W t → W 71 t = kk → W 72 t = nv (I 68) j i → BdQ SyC mX7_tellNumber 0 30 [(2, .int x2), (0, .ref 67), (1, .int (nI t))] [] W (fun r I' => r = none ∧ FrT I I' t ∧ I' 71 t = kk ∧ I' 72 t = nv (I 68) j (min l 4)) := by
  intro m
  induction m with
  | zero =>
    intro i x2 W hi e2 hF h71 h72
    subst e2
    refine BdQ.l (fun _ _ k => b_iload_n (pc := 30) (i := 2) (dd dtX7_tellNumber 20 rfl) rfl rfl k) ?_
    refine BdQ.l (fun _ _ k => b_aload_n (pc := 31) (i := 0) (dd dtX7_tellNumber 21 rfl) rfl rfl k) ?_
    refine BdQ.l (fun _ _ k => b_geta (pc := 32) (dd dtX7_tellNumber 22 rfl) fwX7_25 pC_67 rC_67_4 k) ?_
    refine BdQ.l (fun _ _ k => b_iload_n (pc := 35) (i := 1) (dd dtX7_tellNumber 23 rfl) rfl rfl k) ?_
    refine BdQ.l (fun _ _ k => b_iald (pc := 36) (dd dtX7_tellNumber 24 rfl) pC_70 (vpn rfl ht (by decide)) k) ?_
    rw [nI_clamp (show t < 2 ^ 31 by omega), hF.1 70 (by decide) (by decide), hl]
    refine BdQ.c (fun _ _ k1 k2 => b_icmpL_ge (pc := 37) (tgt := 83) (dd dtX7_tellNumber 25 rfl) (by decide) k1 k2) (fun h37 => ?_) (fun h37 => ?_)
    · refine ⟨_, _, ?_, b_vret (dd dtX7_tellNumber 53 rfl) rfl⟩
      exact ⟨rfl, hF, h71, by rw [h72, show i = min l 4 by omega]⟩
    · refine BdQ.l (fun _ _ k => b_iload_n (pc := 40) (i := 2) (dd dtX7_tellNumber 26 rfl) rfl rfl k) ?_
      refine BdQ.l (fun _ _ k => b_ic4 (pc := 41) (dd dtX7_tellNumber 27 rfl) k) ?_
      refine BdQ.c (fun _ _ k1 k2 => b_icmpL_ge (pc := 42) (tgt := 83) (dd dtX7_tellNumber 28 rfl) (by decide) k1 k2) (fun h42 => ?_) (fun h42 => ?_)
      · refine ⟨_, _, ?_, b_vret (dd dtX7_tellNumber 53 rfl) rfl⟩
        exact ⟨rfl, hF, h71, by rw [h72, show i = min l 4 by omega]⟩
      · exact absurd (lt_n (N := 4) h42 (by omega) (by decide)) (by have := lt_n h37 (by omega) (by omega); omega)
  | succ m ih =>
    intro i x2 W hi e2 hF h71 h72
    subst e2
    refine BdQ.l (fun _ _ k => b_iload_n (pc := 30) (i := 2) (dd dtX7_tellNumber 20 rfl) rfl rfl k) ?_
    refine BdQ.l (fun _ _ k => b_aload_n (pc := 31) (i := 0) (dd dtX7_tellNumber 21 rfl) rfl rfl k) ?_
    refine BdQ.l (fun _ _ k => b_geta (pc := 32) (dd dtX7_tellNumber 22 rfl) fwX7_25 pC_67 rC_67_4 k) ?_
    refine BdQ.l (fun _ _ k => b_iload_n (pc := 35) (i := 1) (dd dtX7_tellNumber 23 rfl) rfl rfl k) ?_
    refine BdQ.l (fun _ _ k => b_iald (pc := 36) (dd dtX7_tellNumber 24 rfl) pC_70 (vpn rfl ht (by decide)) k) ?_
    rw [nI_clamp (show t < 2 ^ 31 by omega), hF.1 70 (by decide) (by decide), hl]
    refine BdQ.c (fun _ _ k1 k2 => b_icmpL_ge (pc := 37) (tgt := 83) (dd dtX7_tellNumber 25 rfl) (by decide) k1 k2) (fun h37 => ?_) (fun h37 => ?_)
    · exact absurd (nI_lt (show i < l by omega) (by omega)) h37
    · refine BdQ.l (fun _ _ k => b_iload_n (pc := 40) (i := 2) (dd dtX7_tellNumber 26 rfl) rfl rfl k) ?_
      refine BdQ.l (fun _ _ k => b_ic4 (pc := 41) (dd dtX7_tellNumber 27 rfl) k) ?_
      refine BdQ.c (fun _ _ k1 k2 => b_icmpL_ge (pc := 42) (tgt := 83) (dd dtX7_tellNumber 28 rfl) (by decide) k1 k2) (fun h42 => ?_) (fun h42 => ?_)
      · exact absurd (nI_lt (show i < 4 by omega) (by decide)) h42
      · refine BdQ.l (fun _ _ k => b_aload_n (pc := 45) (i := 0) (dd dtX7_tellNumber 29 rfl) rfl rfl k) ?_
        refine BdQ.l (fun _ _ k => b_geta (pc := 46) (dd dtX7_tellNumber 30 rfl) fwX7_31 pC_67 rC_67_6 k) ?_
        refine BdQ.l (fun _ _ k => b_iload_n (pc := 49) (i := 1) (dd dtX7_tellNumber 31 rfl) rfl rfl k) ?_
        refine BdQ.l (fun _ _ k => b_aload_n (pc := 50) (i := 0) (dd dtX7_tellNumber 32 rfl) rfl rfl k) ?_
        refine BdQ.l (fun _ _ k => b_geta (pc := 51) (dd dtX7_tellNumber 33 rfl) fwX7_31 pC_67 rC_67_6 k) ?_
        refine BdQ.l (fun _ _ k => b_iload_n (pc := 54) (i := 1) (dd dtX7_tellNumber 34 rfl) rfl rfl k) ?_
        refine BdQ.l (fun _ _ k => b_iald (pc := 55) (dd dtX7_tellNumber 35 rfl) pC_72 (vpn rfl ht (by decide)) k) ?_
        rw [nI_clamp (show t < 2 ^ 31 by omega), h72]
        refine BdQ.l (fun _ _ k => b_bipush (pc := 56) (v := 10) (dd dtX7_tellNumber 36 rfl) (by decide) k) ?_
        refine BdQ.l (fun _ _ k => b_imul (pc := 58) (dd dtX7_tellNumber 37 rfl) k) ?_
        refine BdQ.l (fun _ _ k => b_aload_n (pc := 59) (i := 0) (dd dtX7_tellNumber 38 rfl) rfl rfl k) ?_
        refine BdQ.l (fun _ _ k => b_geta (pc := 60) (dd dtX7_tellNumber 39 rfl) fwX7_18 pC_67 rC_67_2 k) ?_
        refine BdQ.l (fun _ _ k => b_aload_n (pc := 63) (i := 0) (dd dtX7_tellNumber 40 rfl) rfl rfl k) ?_
        refine BdQ.l (fun _ _ k => b_geta (pc := 64) (dd dtX7_tellNumber 41 rfl) fwX7_22 pC_67 rC_67_3 k) ?_
        refine BdQ.l (fun _ _ k => b_iload_n (pc := 67) (i := 1) (dd dtX7_tellNumber 42 rfl) rfl rfl k) ?_
        refine BdQ.l (fun _ _ k => b_iald (pc := 68) (dd dtX7_tellNumber 43 rfl) pC_69 (vpn rfl ht (by decide)) k) ?_
        rw [nI_clamp (show t < 2 ^ 31 by omega), hF.1 69 (by decide) (by decide), hj]
        refine BdQ.l (fun _ _ k => b_iload_n (pc := 69) (i := 2) (dd dtX7_tellNumber 44 rfl) rfl rfl k) ?_
        refine BdQ.l (fun _ _ k => b_iadd (pc := 70) (dd dtX7_tellNumber 45 rfl) k) ?_
        rw [nI_add]
        refine BdQ.l (fun _ _ k => b_iald (pc := 71) (dd dtX7_tellNumber 46 rfl) pC_68 (vpn rfl (show j + i < 160 by omega) (by decide)) k) ?_
        rw [nI_clamp (show j + i < 2 ^ 31 by omega), hF.1 68 (by decide) (by decide)]
        refine BdQ.l (fun _ _ k => b_iadd (pc := 72) (dd dtX7_tellNumber 47 rfl) k) ?_
        refine BdQ.l (fun _ _ k => b_bipush (pc := 73) (v := 48) (dd dtX7_tellNumber 48 rfl) (by decide) k) ?_
        refine BdQ.l (fun _ _ k => b_isub (pc := 75) (dd dtX7_tellNumber 49 rfl) k) ?_
        refine BdQ.l (fun _ _ k => b_iast (pc := 76) (dd dtX7_tellNumber 50 rfl) pC_72 (vpn rfl ht (by decide)) k) ?_
        refine BdQ.l (fun _ _ k => b_iinc1 (pc := 77) (i := 2) (lv' := [(2, _), (0, _), (1, _)]) (dd dtX7_tellNumber 51 rfl) rfl (Nat.le_of_ble_eq_true rfl) rfl k) ?_
        refine BdQ.l (fun _ _ k => b_goto (pc := 80) (tgt := 30) (dd dtX7_tellNumber 52 rfl) (by decide) k) ?_
        rw [nI_1, nI_clamp (show t < 2 ^ 31 by omega)]
        refine ih (i + 1) _ _ (by omega) rfl hF.n ?_ ?_
        · rw [ist_ne (by decide)]; exact h71
        · rw [ist_eq, upd_eq]; rfl
set_option maxHeartbeats 4000000 in
theorem q_number {I : Wd} {t j l n : Nat} (ht : t < 160) (hj : I 69 t = nI j) (hl : I 70 t = nI l) (hjl : j + l ≤ n) (hn2 : n ≤ 160) : CalQ SyC mX7_tellNumber 0 [.ref 67, .int (nI t)] I (fun r I' => r = none ∧ FrT I I' t ∧ I' 71 t = (if 4 < l then 1 else 2) ∧ I' 72 t = nv (I 68) j (min l 4)) := by
  refine CalQ.of (by decide) (Nat.le_of_ble_eq_true rfl) ?_
  show BdQ _ _ _ _ [(0, _), (1, _)] _ _ _
  refine BdQ.l (fun _ _ k => b_aload_n (pc := 0) (i := 0) (dd dtX7_tellNumber 0 rfl) rfl rfl k) ?_
  refine BdQ.l (fun _ _ k => b_geta (pc := 1) (dd dtX7_tellNumber 1 rfl) fwX7_28 pC_67 rC_67_5 k) ?_
  refine BdQ.l (fun _ _ k => b_iload_n (pc := 4) (i := 1) (dd dtX7_tellNumber 2 rfl) rfl rfl k) ?_
  refine BdQ.l (fun _ _ k => b_aload_n (pc := 5) (i := 0) (dd dtX7_tellNumber 3 rfl) rfl rfl k) ?_
  refine BdQ.l (fun _ _ k => b_geta (pc := 6) (dd dtX7_tellNumber 4 rfl) fwX7_25 pC_67 rC_67_4 k) ?_
  refine BdQ.l (fun _ _ k => b_iload_n (pc := 9) (i := 1) (dd dtX7_tellNumber 5 rfl) rfl rfl k) ?_
  refine BdQ.l (fun _ _ k => b_iald (pc := 10) (dd dtX7_tellNumber 6 rfl) pC_70 (vpn rfl ht (by decide)) k) ?_
  rw [nI_clamp (show t < 2 ^ 31 by omega), hl]
  refine BdQ.l (fun _ _ k => b_ic4 (pc := 11) (dd dtX7_tellNumber 7 rfl) k) ?_
  refine BdQ.c (fun _ _ k1 k2 => b_icmpL_le (pc := 12) (tgt := 19) (dd dtX7_tellNumber 8 rfl) (by decide) k1 k2) (fun h12 => ?_) (fun h12 => ?_)
  · have hk : ¬ 4 < l := fun q => h12 (nI_lt (a := 4) q (by omega))
    rw [if_neg hk]
    refine BdQ.l (fun _ _ k => b_ic2 (pc := 19) (dd dtX7_tellNumber 11 rfl) k) ?_
    refine BdQ.l (fun _ _ k => b_iast (pc := 20) (dd dtX7_tellNumber 12 rfl) pC_71 (vpn rfl ht (by decide)) k) ?_
    refine BdQ.l (fun _ _ k => b_aload_n (pc := 21) (i := 0) (dd dtX7_tellNumber 13 rfl) rfl rfl k) ?_
    refine BdQ.l (fun _ _ k => b_geta (pc := 22) (dd dtX7_tellNumber 14 rfl) fwX7_31 pC_67 rC_67_6 k) ?_
    refine BdQ.l (fun _ _ k => b_iload_n (pc := 25) (i := 1) (dd dtX7_tellNumber 15 rfl) rfl rfl k) ?_
    refine BdQ.l (fun _ _ k => b_ic0 (pc := 26) (dd dtX7_tellNumber 16 rfl) k) ?_
    refine BdQ.l (fun _ _ k => b_iast (pc := 27) (dd dtX7_tellNumber 17 rfl) pC_72 (vpn rfl ht (by decide)) k) ?_
    refine BdQ.l (fun _ _ k => b_ic0 (pc := 28) (dd dtX7_tellNumber 18 rfl) k) ?_
    refine BdQ.l (fun _ _ k => b_istore_n (pc := 29) (i := 2) (lv' := [(2, _), (0, _), (1, _)]) (dd dtX7_tellNumber 19 rfl) rfl (Nat.le_of_ble_eq_true rfl) rfl k) ?_
    rw [nI_clamp (show t < 2 ^ 31 by omega)]
    refine lr_number ht hj hl hjl hn2 (min l 4) 0 _ _ (by omega) rfl FrT.r.k.n ?_ ?_
    · rw [ist_ne (by decide), ist_eq, upd_eq]
    · rw [ist_eq, upd_eq]; rfl
  · have hk : 4 < l := lt_n (h := 4) h12 (by decide) (by omega)
    rw [if_pos hk]
    refine BdQ.l (fun _ _ k => b_ic1 (pc := 15) (dd dtX7_tellNumber 9 rfl) k) ?_
    refine BdQ.l (fun _ _ k => b_goto (pc := 16) (tgt := 20) (dd dtX7_tellNumber 10 rfl) (by decide) k) ?_
    refine BdQ.l (fun _ _ k => b_iast (pc := 20) (dd dtX7_tellNumber 12 rfl) pC_71 (vpn rfl ht (by decide)) k) ?_
    refine BdQ.l (fun _ _ k => b_aload_n (pc := 21) (i := 0) (dd dtX7_tellNumber 13 rfl) rfl rfl k) ?_
    refine BdQ.l (fun _ _ k => b_geta (pc := 22) (dd dtX7_tellNumber 14 rfl) fwX7_31 pC_67 rC_67_6 k) ?_
    refine BdQ.l (fun _ _ k => b_iload_n (pc := 25) (i := 1) (dd dtX7_tellNumber 15 rfl) rfl rfl k) ?_
    refine BdQ.l (fun _ _ k => b_ic0 (pc := 26) (dd dtX7_tellNumber 16 rfl) k) ?_
    refine BdQ.l (fun _ _ k => b_iast (pc := 27) (dd dtX7_tellNumber 17 rfl) pC_72 (vpn rfl ht (by decide)) k) ?_
    refine BdQ.l (fun _ _ k => b_ic0 (pc := 28) (dd dtX7_tellNumber 18 rfl) k) ?_
    refine BdQ.l (fun _ _ k => b_istore_n (pc := 29) (i := 2) (lv' := [(2, _), (0, _), (1, _)]) (dd dtX7_tellNumber 19 rfl) rfl (Nat.le_of_ble_eq_true rfl) rfl k) ?_
    rw [nI_clamp (show t < 2 ^ 31 by omega)]
    refine lr_number ht hj hl hjl hn2 (min l 4) 0 _ _ (by omega) rfl FrT.r.k.n ?_ ?_
    · rw [ist_ne (by decide), ist_eq, upd_eq]
    · rw [ist_eq, upd_eq]; rfl
def tX7_tellWord : List (Nat × Instr × Nat) := [(0, .aload_n 0, 1), (1, .getfield 28, 3), (4, .iload_n 1, 1), (5, .iconst 1, 1), (6, .iastore, 1), (7, .iconst 0, 1), (8, .istore_n 2, 1), (9, .iload_n 2, 1), (10, .bipush 14, 2), (12, .if_icmp .ge 52, 3), (15, .aload_n 0, 1), (16, .iload_n 1, 1), (17, .iload_n 2, 1), (18, .invokestatic 58, 3), (21, .invokevirtual 62, 3), (24, .ifCond .eq 34, 3), (27, .aload_n 0, 1), (28, .getfield 28, 3), (31, .iload_n 1, 1), (32, .iload_n 2, 1), (33, .bipush 6, 2), (35, .if_icmp .ge 11, 3), (38, .sipush 300, 3), (41, .iload_n 2, 1), (42, .iadd, 1), (43, .goto 4, 3), (46, .iconst 3, 1), (47, .iastore, 1), (48, .aload_n 0, 1), (49, .getfield 31, 3), (52, .iload_n 1, 1), (53, .iload_n 2, 1), (54, .bipush 6, 2), (56, .isub, 1), (57, .iastore, 1), (58, .iinc 2 1, 3), (61, .goto (-52), 3), (64, .return_, 1)]
theorem dtX7_tellWord : dec_ok mX7_tellWord.2.1 tX7_tellWord = true := by decide +kernel
def KW (b : Nat → Int32) (j l w : Nat) (kd nm : Int32) : Prop := (∃ v, v < w ∧ spP b j l (v + 1) ∧ ((v < 6 ∧ kd = nI (300 + v)) ∨ (¬ v < 6 ∧ kd = 3 ∧ nm = nI (v - 6)))) ∨ ((∀ v, v < w → ¬ spP b j l (v + 1)) ∧ kd = 1)
theorem KW.n {b : Nat → Int32} {j l w : Nat} {kd nm : Int32} (h : KW b j l w kd nm) (hs : ¬ spP b j l (w + 1)) : KW b j l (w + 1) kd nm := by
  rcases h with ⟨v, h1, h2, h3⟩ | ⟨h1, h2⟩
  · exact Or.inl ⟨v, by omega, h2, h3⟩
  · refine Or.inr ⟨fun v hv => ?_, h2⟩
    by_cases e : v = w
    · subst e; exact hs
    · exact h1 v (by omega)
theorem pk_sub6 {w : Nat} (h : 6 ≤ w) (h2 : w < 100) : nI w - 6 = nI (w - 6) := by
  obtain ⟨v, rfl⟩ : ∃ v, w = v + 6 := ⟨w - 6, by omega⟩
  rw [Nat.add_sub_cancel, ← nI_add, show nI 6 = (6 : Int32) from rfl]
  exact Int32.add_sub_cancel _ _
set_option maxHeartbeats 1000000 in
theorem lr_word {I : Wd} {t j l n : Nat} (ht : t < 160) (hj : I 69 t = nI j) (hl : I 70 t = nI l) (hn : I 67 0 = nI n) (hjl : j + l ≤ n) (hn2 : n ≤ 160) : ∀ (m w : Nat) (x2 : Int32) (W : Wd), w + m = 14 → x2 = nI w → FrT I W t → KW (I 68) j l w (W 71 t) (W 72 t) → BdQ SyC mX7_tellWord 5 9 [(2, .int x2), (0, .ref 67), (1, .int (nI t))] [] W (fun r I' => r = none ∧ FrT I I' t ∧ KW (I 68) j l 14 (I' 71 t) (I' 72 t)) := by
  intro m
  induction m with
  | zero =>
    intro w x2 W hi e2 hF hK
    subst e2
    refine BdQ.l (fun _ _ k => b_iload_n (pc := 9) (i := 2) (dd dtX7_tellWord 7 rfl) rfl rfl k) ?_
    refine BdQ.l (fun _ _ k => b_bipush (pc := 10) (v := 14) (dd dtX7_tellWord 8 rfl) (by decide) k) ?_
    refine BdQ.c (fun _ _ k1 k2 => b_icmpL_ge (pc := 12) (tgt := 64) (dd dtX7_tellWord 9 rfl) (by decide) k1 k2) (fun h12 => ?_) (fun h12 => ?_)
    · refine ⟨_, _, ?_, b_vret (dd dtX7_tellWord 37 rfl) rfl⟩
      exact ⟨rfl, hF, by rw [show w = 14 by omega] at hK; exact hK⟩
    · exact absurd h12 (by rw [show w = 14 by omega]; decide)
  | succ m ih =>
    intro w x2 W hi e2 hF hK
    subst e2
    refine BdQ.l (fun _ _ k => b_iload_n (pc := 9) (i := 2) (dd dtX7_tellWord 7 rfl) rfl rfl k) ?_
    refine BdQ.l (fun _ _ k => b_bipush (pc := 10) (v := 14) (dd dtX7_tellWord 8 rfl) (by decide) k) ?_
    refine BdQ.c (fun _ _ k1 k2 => b_icmpL_ge (pc := 12) (tgt := 64) (dd dtX7_tellWord 9 rfl) (by decide) k1 k2) (fun h12 => ?_) (fun h12 => ?_)
    · exact absurd (nI_lt (show w < 14 by omega) (by decide)) h12
    · refine BdQ.l (fun _ _ k => b_aload_n (pc := 15) (i := 0) (dd dtX7_tellWord 10 rfl) rfl rfl k) ?_
      refine BdQ.l (fun _ _ k => b_iload_n (pc := 16) (i := 1) (dd dtX7_tellWord 11 rfl) rfl rfl k) ?_
      refine BdQ.l (fun _ _ k => b_iload_n (pc := 17) (i := 2) (dd dtX7_tellWord 12 rfl) rfl rfl k) ?_
      refine BdQ.l (fun _ _ k => b_invS (pc := 18) (dd dtX7_tellWord 13 rfl) mlX7_58 mvX7_wordAt msX7_wordAt (c_X7_wordAt (show w < 14 by omega)) rfl rfl (by decide) (Nat.le_of_ble_eq_true rfl) k) ?_
      refine BdQ.l (fun _ _ k => b_invV (pc := 21) (dd dtX7_tellWord 14 rfl) mlX7_62 mvX7_spells miX7_spells (c_X7_spells (i := w + 1) (by omega) ht (by rw [hF.1 69 (by decide) (by decide)]; exact hj) (by rw [hF.1 70 (by decide) (by decide)]; exact hl) (by rw [hF.1 67 (by decide) (by decide)]; exact hn) hjl hn2) oC_67 rfl rfl (by decide) (Nat.le_of_ble_eq_true rfl) k) ?_
      rw [hF.1 68 (by decide) (by decide)]
      refine BdQ.c (fun _ _ k1 k2 => b_ifb_eq (pc := 24) (tgt := 58) (dd dtX7_tellWord 15 rfl) (by decide) k1 k2) (fun h24 => ?_) (fun h24 => ?_)
      · refine BdQ.l (fun _ _ k => b_iinc1 (pc := 58) (i := 2) (lv' := [(2, _), (0, _), (1, _)]) (dd dtX7_tellWord 35 rfl) rfl (Nat.le_of_ble_eq_true rfl) rfl k) ?_
        refine BdQ.l (fun _ _ k => b_goto (pc := 61) (tgt := 9) (dd dtX7_tellWord 36 rfl) (by decide) k) ?_
        rw [nI_1]
        first
        | exact ih (w + 1) _ _ (by omega) rfl hF (hK.n h24)
        | (rw [nI_clamp (show t < 2 ^ 31 by omega)]
           refine ih (w + 1) _ _ (by omega) rfl hF.k.n (Or.inl ⟨w, by omega, h24, ?_⟩)
           rw [ist_ne (show (71 : Nat) ≠ 72 by decide), ist_eq, ist_eq, upd_eq, upd_eq]
           first
           | exact Or.inl ⟨lt_n (N := 6) h35 (by omega) (by decide), nI_add 300 w⟩
           | exact Or.inr ⟨fun q => h35 (nI_lt (b := 6) q (by decide)), rfl, pk_sub6 (by have := ge_n (N := 6) h35 (by decide); omega) (by omega)⟩)
      · refine BdQ.l (fun _ _ k => b_aload_n (pc := 27) (i := 0) (dd dtX7_tellWord 16 rfl) rfl rfl k) ?_
        refine BdQ.l (fun _ _ k => b_geta (pc := 28) (dd dtX7_tellWord 17 rfl) fwX7_28 pC_67 rC_67_5 k) ?_
        refine BdQ.l (fun _ _ k => b_iload_n (pc := 31) (i := 1) (dd dtX7_tellWord 18 rfl) rfl rfl k) ?_
        refine BdQ.l (fun _ _ k => b_iload_n (pc := 32) (i := 2) (dd dtX7_tellWord 19 rfl) rfl rfl k) ?_
        refine BdQ.l (fun _ _ k => b_bipush (pc := 33) (v := 6) (dd dtX7_tellWord 20 rfl) (by decide) k) ?_
        refine BdQ.c (fun _ _ k1 k2 => b_icmpL_ge (pc := 35) (tgt := 46) (dd dtX7_tellWord 21 rfl) (by decide) k1 k2) (fun h35 => ?_) (fun h35 => ?_)
        · refine BdQ.l (fun _ _ k => b_ic3 (pc := 46) (dd dtX7_tellWord 26 rfl) k) ?_
          refine BdQ.l (fun _ _ k => b_iast (pc := 47) (dd dtX7_tellWord 27 rfl) pC_71 (vpn rfl ht (by decide)) k) ?_
          refine BdQ.l (fun _ _ k => b_aload_n (pc := 48) (i := 0) (dd dtX7_tellWord 28 rfl) rfl rfl k) ?_
          refine BdQ.l (fun _ _ k => b_geta (pc := 49) (dd dtX7_tellWord 29 rfl) fwX7_31 pC_67 rC_67_6 k) ?_
          refine BdQ.l (fun _ _ k => b_iload_n (pc := 52) (i := 1) (dd dtX7_tellWord 30 rfl) rfl rfl k) ?_
          refine BdQ.l (fun _ _ k => b_iload_n (pc := 53) (i := 2) (dd dtX7_tellWord 31 rfl) rfl rfl k) ?_
          refine BdQ.l (fun _ _ k => b_bipush (pc := 54) (v := 6) (dd dtX7_tellWord 32 rfl) (by decide) k) ?_
          refine BdQ.l (fun _ _ k => b_isub (pc := 56) (dd dtX7_tellWord 33 rfl) k) ?_
          refine BdQ.l (fun _ _ k => b_iast (pc := 57) (dd dtX7_tellWord 34 rfl) pC_72 (vpn rfl ht (by decide)) k) ?_
          refine BdQ.l (fun _ _ k => b_iinc1 (pc := 58) (i := 2) (lv' := [(2, _), (0, _), (1, _)]) (dd dtX7_tellWord 35 rfl) rfl (Nat.le_of_ble_eq_true rfl) rfl k) ?_
          refine BdQ.l (fun _ _ k => b_goto (pc := 61) (tgt := 9) (dd dtX7_tellWord 36 rfl) (by decide) k) ?_
          rw [nI_1]
          first
          | exact ih (w + 1) _ _ (by omega) rfl hF (hK.n h24)
          | (rw [nI_clamp (show t < 2 ^ 31 by omega)]
             refine ih (w + 1) _ _ (by omega) rfl hF.k.n (Or.inl ⟨w, by omega, h24, ?_⟩)
             rw [ist_ne (show (71 : Nat) ≠ 72 by decide), ist_eq, ist_eq, upd_eq, upd_eq]
             first
             | exact Or.inl ⟨lt_n (N := 6) h35 (by omega) (by decide), nI_add 300 w⟩
             | exact Or.inr ⟨fun q => h35 (nI_lt (b := 6) q (by decide)), rfl, pk_sub6 (by have := ge_n (N := 6) h35 (by decide); omega) (by omega)⟩)
        · refine BdQ.l (fun _ _ k => b_sipush (pc := 38) (v := 300) (dd dtX7_tellWord 22 rfl) (by decide) k) ?_
          refine BdQ.l (fun _ _ k => b_iload_n (pc := 41) (i := 2) (dd dtX7_tellWord 23 rfl) rfl rfl k) ?_
          refine BdQ.l (fun _ _ k => b_iadd (pc := 42) (dd dtX7_tellWord 24 rfl) k) ?_
          refine BdQ.l (fun _ _ k => b_goto (pc := 43) (tgt := 47) (dd dtX7_tellWord 25 rfl) (by decide) k) ?_
          refine BdQ.l (fun _ _ k => b_iast (pc := 47) (dd dtX7_tellWord 27 rfl) pC_71 (vpn rfl ht (by decide)) k) ?_
          refine BdQ.l (fun _ _ k => b_aload_n (pc := 48) (i := 0) (dd dtX7_tellWord 28 rfl) rfl rfl k) ?_
          refine BdQ.l (fun _ _ k => b_geta (pc := 49) (dd dtX7_tellWord 29 rfl) fwX7_31 pC_67 rC_67_6 k) ?_
          refine BdQ.l (fun _ _ k => b_iload_n (pc := 52) (i := 1) (dd dtX7_tellWord 30 rfl) rfl rfl k) ?_
          refine BdQ.l (fun _ _ k => b_iload_n (pc := 53) (i := 2) (dd dtX7_tellWord 31 rfl) rfl rfl k) ?_
          refine BdQ.l (fun _ _ k => b_bipush (pc := 54) (v := 6) (dd dtX7_tellWord 32 rfl) (by decide) k) ?_
          refine BdQ.l (fun _ _ k => b_isub (pc := 56) (dd dtX7_tellWord 33 rfl) k) ?_
          refine BdQ.l (fun _ _ k => b_iast (pc := 57) (dd dtX7_tellWord 34 rfl) pC_72 (vpn rfl ht (by decide)) k) ?_
          refine BdQ.l (fun _ _ k => b_iinc1 (pc := 58) (i := 2) (lv' := [(2, _), (0, _), (1, _)]) (dd dtX7_tellWord 35 rfl) rfl (Nat.le_of_ble_eq_true rfl) rfl k) ?_
          refine BdQ.l (fun _ _ k => b_goto (pc := 61) (tgt := 9) (dd dtX7_tellWord 36 rfl) (by decide) k) ?_
          rw [nI_1]
          first
          | exact ih (w + 1) _ _ (by omega) rfl hF (hK.n h24)
          | (rw [nI_clamp (show t < 2 ^ 31 by omega)]
             refine ih (w + 1) _ _ (by omega) rfl hF.k.n (Or.inl ⟨w, by omega, h24, ?_⟩)
             rw [ist_ne (show (71 : Nat) ≠ 72 by decide), ist_eq, ist_eq, upd_eq, upd_eq]
             first
             | exact Or.inl ⟨lt_n (N := 6) h35 (by omega) (by decide), nI_add 300 w⟩
             | exact Or.inr ⟨fun q => h35 (nI_lt (b := 6) q (by decide)), rfl, pk_sub6 (by have := ge_n (N := 6) h35 (by decide); omega) (by omega)⟩)
set_option maxHeartbeats 4000000 in
theorem q_word {I : Wd} {t j l n : Nat} (ht : t < 160) (hj : I 69 t = nI j) (hl : I 70 t = nI l) (hn : I 67 0 = nI n) (hjl : j + l ≤ n) (hn2 : n ≤ 160) : CalQ SyC mX7_tellWord 5 [.ref 67, .int (nI t)] I (fun r I' => r = none ∧ FrT I I' t ∧ KW (I 68) j l 14 (I' 71 t) (I' 72 t)) := by
  refine CalQ.of (by decide) (Nat.le_of_ble_eq_true rfl) ?_
  show BdQ _ _ _ _ [(0, _), (1, _)] _ _ _
  refine BdQ.l (fun _ _ k => b_aload_n (pc := 0) (i := 0) (dd dtX7_tellWord 0 rfl) rfl rfl k) ?_
  refine BdQ.l (fun _ _ k => b_geta (pc := 1) (dd dtX7_tellWord 1 rfl) fwX7_28 pC_67 rC_67_5 k) ?_
  refine BdQ.l (fun _ _ k => b_iload_n (pc := 4) (i := 1) (dd dtX7_tellWord 2 rfl) rfl rfl k) ?_
  refine BdQ.l (fun _ _ k => b_ic1 (pc := 5) (dd dtX7_tellWord 3 rfl) k) ?_
  refine BdQ.l (fun _ _ k => b_iast (pc := 6) (dd dtX7_tellWord 4 rfl) pC_71 (vpn rfl ht (by decide)) k) ?_
  refine BdQ.l (fun _ _ k => b_ic0 (pc := 7) (dd dtX7_tellWord 5 rfl) k) ?_
  refine BdQ.l (fun _ _ k => b_istore_n (pc := 8) (i := 2) (lv' := [(2, _), (0, _), (1, _)]) (dd dtX7_tellWord 6 rfl) rfl (Nat.le_of_ble_eq_true rfl) rfl k) ?_
  rw [nI_clamp (show t < 2 ^ 31 by omega)]
  refine lr_word ht hj hl hn hjl hn2 14 0 _ _ (by omega) rfl FrT.r.k (Or.inr ⟨fun v hv => absurd hv (Nat.not_lt_zero _), ?_⟩)
  rw [ist_eq, upd_eq]
def tX7_tellKind : List (Nat × Instr × Nat) := [(0, .aload_n 0, 1), (1, .getfield 18, 3), (4, .aload_n 0, 1), (5, .getfield 22, 3), (8, .iload_n 1, 1), (9, .iaload, 1), (10, .iaload, 1), (11, .istore_n 2, 1), (12, .iload_n 2, 1), (13, .invokestatic 42, 3), (16, .ifCond .eq 11, 3), (19, .aload_n 0, 1), (20, .iload_n 1, 1), (21, .invokevirtual 49, 3), (24, .goto 36, 3), (27, .iload_n 2, 1), (28, .invokestatic 46, 3), (31, .ifCond .eq 11, 3), (34, .aload_n 0, 1), (35, .iload_n 1, 1), (36, .invokevirtual 52, 3), (39, .goto 21, 3), (42, .aload_n 0, 1), (43, .getfield 28, 3), (46, .iload_n 1, 1), (47, .iload_n 2, 1), (48, .invokestatic 55, 3), (51, .ifCond .eq 7, 3), (54, .iload_n 2, 1), (55, .goto 4, 3), (58, .iconst 1, 1), (59, .iastore, 1), (60, .return_, 1)]
theorem dtX7_tellKind : dec_ok mX7_tellKind.2.1 tX7_tellKind = true := by decide +kernel
set_option maxHeartbeats 4000000 in
theorem q_kind {I : Wd} {t j l n : Nat} (ht : t < 160) (hj : I 69 t = nI j) (hl : I 70 t = nI l) (hn : I 67 0 = nI n) (hjl : j + l ≤ n) (hn2 : n ≤ 160) (hl1 : 1 ≤ l) : CalQ SyC mX7_tellKind 6 [.ref 67, .int (nI t)] I (fun r I' => r = none ∧ FrT I I' t ∧ KindOK (I 68) j l (I' 71 t) (I' 72 t)) := by
  refine CalQ.of (by decide) (Nat.le_of_ble_eq_true rfl) ?_
  show BdQ _ _ _ _ [(0, _), (1, _)] _ _ _
  refine BdQ.l (fun _ _ k => b_aload_n (pc := 0) (i := 0) (dd dtX7_tellKind 0 rfl) rfl rfl k) ?_
  refine BdQ.l (fun _ _ k => b_geta (pc := 1) (dd dtX7_tellKind 1 rfl) fwX7_18 pC_67 rC_67_2 k) ?_
  refine BdQ.l (fun _ _ k => b_aload_n (pc := 4) (i := 0) (dd dtX7_tellKind 2 rfl) rfl rfl k) ?_
  refine BdQ.l (fun _ _ k => b_geta (pc := 5) (dd dtX7_tellKind 3 rfl) fwX7_22 pC_67 rC_67_3 k) ?_
  refine BdQ.l (fun _ _ k => b_iload_n (pc := 8) (i := 1) (dd dtX7_tellKind 4 rfl) rfl rfl k) ?_
  refine BdQ.l (fun _ _ k => b_iald (pc := 9) (dd dtX7_tellKind 5 rfl) pC_69 (vpn rfl ht (by decide)) k) ?_
  rw [nI_clamp (show t < 2 ^ 31 by omega), hj]
  refine BdQ.l (fun _ _ k => b_iald (pc := 10) (dd dtX7_tellKind 6 rfl) pC_68 (vpn rfl (show j < 160 by omega) (by decide)) k) ?_
  rw [nI_clamp (show j < 2 ^ 31 by omega)]
  refine BdQ.l (fun _ _ k => b_istore_n (pc := 11) (i := 2) (lv' := [(2, _), (0, _), (1, _)]) (dd dtX7_tellKind 7 rfl) rfl (Nat.le_of_ble_eq_true rfl) rfl k) ?_
  refine BdQ.l (fun _ _ k => b_iload_n (pc := 12) (i := 2) (dd dtX7_tellKind 8 rfl) rfl rfl k) ?_
  refine BdQ.l (fun _ _ k => b_invS (pc := 13) (dd dtX7_tellKind 9 rfl) mlX7_42 mvX7_isLetter msX7_isLetter (c_X7_isLetter) rfl rfl (by decide) (Nat.le_of_ble_eq_true rfl) k) ?_
  refine BdQ.c (fun _ _ k1 k2 => b_ifb_eq (pc := 16) (tgt := 27) (dd dtX7_tellKind 10 rfl) (by decide) k1 k2) (fun h16 => ?_) (fun h16 => ?_)
  · refine BdQ.l (fun _ _ k => b_iload_n (pc := 27) (i := 2) (dd dtX7_tellKind 15 rfl) rfl rfl k) ?_
    refine BdQ.l (fun _ _ k => b_invS (pc := 28) (dd dtX7_tellKind 16 rfl) mlX7_46 mvX7_isDigit msX7_isDigit (c_X7_isDigit) rfl rfl (by decide) (Nat.le_of_ble_eq_true rfl) k) ?_
    refine BdQ.c (fun _ _ k1 k2 => b_ifb_eq (pc := 31) (tgt := 42) (dd dtX7_tellKind 17 rfl) (by decide) k1 k2) (fun h31 => ?_) (fun h31 => ?_)
    · refine BdQ.l (fun _ _ k => b_aload_n (pc := 42) (i := 0) (dd dtX7_tellKind 22 rfl) rfl rfl k) ?_
      refine BdQ.l (fun _ _ k => b_geta (pc := 43) (dd dtX7_tellKind 23 rfl) fwX7_28 pC_67 rC_67_5 k) ?_
      refine BdQ.l (fun _ _ k => b_iload_n (pc := 46) (i := 1) (dd dtX7_tellKind 24 rfl) rfl rfl k) ?_
      refine BdQ.l (fun _ _ k => b_iload_n (pc := 47) (i := 2) (dd dtX7_tellKind 25 rfl) rfl rfl k) ?_
      refine BdQ.l (fun _ _ k => b_invS (pc := 48) (dd dtX7_tellKind 26 rfl) mlX7_55 mvX7_isMark msX7_isMark (c_X7_isMark) rfl rfl (by decide) (Nat.le_of_ble_eq_true rfl) k) ?_
      refine BdQ.c (fun _ _ k1 k2 => b_ifb_eq (pc := 51) (tgt := 58) (dd dtX7_tellKind 27 rfl) (by decide) k1 k2) (fun h51 => ?_) (fun h51 => ?_)
      · refine BdQ.l (fun _ _ k => b_ic1 (pc := 58) (dd dtX7_tellKind 30 rfl) k) ?_
        refine BdQ.l (fun _ _ k => b_iast (pc := 59) (dd dtX7_tellKind 31 rfl) pC_71 (vpn rfl ht (by decide)) k) ?_
        refine ⟨_, _, ?_, b_vret (dd dtX7_tellKind 32 rfl) rfl⟩
        first
        | exact ⟨rfl, R21.1, Or.inl ⟨h16, R21.2⟩⟩
        | (refine ⟨rfl, R36.1, Or.inr (Or.inl ⟨h16, h31, ?_⟩)⟩
           by_cases q : 4 < l
           · exact Or.inl ⟨q, by rw [R36.2.1, if_pos q]⟩
           · exact Or.inr ⟨q, by rw [R36.2.1, if_neg q], by rw [R36.2.2, show min l 4 = l by omega]⟩)
        | (rw [nI_clamp (show t < 2 ^ 31 by omega)]
           refine ⟨rfl, FrT.r.k, Or.inr (Or.inr ⟨h16, h31, ?_⟩)⟩
           rw [ist_eq, upd_eq]
           first
           | rw [if_pos h51]
           | rw [if_neg h51])
      · refine BdQ.l (fun _ _ k => b_iload_n (pc := 54) (i := 2) (dd dtX7_tellKind 28 rfl) rfl rfl k) ?_
        refine BdQ.l (fun _ _ k => b_goto (pc := 55) (tgt := 59) (dd dtX7_tellKind 29 rfl) (by decide) k) ?_
        refine BdQ.l (fun _ _ k => b_iast (pc := 59) (dd dtX7_tellKind 31 rfl) pC_71 (vpn rfl ht (by decide)) k) ?_
        refine ⟨_, _, ?_, b_vret (dd dtX7_tellKind 32 rfl) rfl⟩
        first
        | exact ⟨rfl, R21.1, Or.inl ⟨h16, R21.2⟩⟩
        | (refine ⟨rfl, R36.1, Or.inr (Or.inl ⟨h16, h31, ?_⟩)⟩
           by_cases q : 4 < l
           · exact Or.inl ⟨q, by rw [R36.2.1, if_pos q]⟩
           · exact Or.inr ⟨q, by rw [R36.2.1, if_neg q], by rw [R36.2.2, show min l 4 = l by omega]⟩)
        | (rw [nI_clamp (show t < 2 ^ 31 by omega)]
           refine ⟨rfl, FrT.r.k, Or.inr (Or.inr ⟨h16, h31, ?_⟩)⟩
           rw [ist_eq, upd_eq]
           first
           | rw [if_pos h51]
           | rw [if_neg h51])
    · refine BdQ.l (fun _ _ k => b_aload_n (pc := 34) (i := 0) (dd dtX7_tellKind 18 rfl) rfl rfl k) ?_
      refine BdQ.l (fun _ _ k => b_iload_n (pc := 35) (i := 1) (dd dtX7_tellKind 19 rfl) rfl rfl k) ?_
      obtain ⟨_, I36, ⟨rfl, R36⟩, k36⟩ := q_number ht hj hl hjl hn2
      refine BdQ.l (fun _ _ k => b_invV (pc := 36) (dd dtX7_tellKind 20 rfl) mlX7_52 mvX7_tellNumber miX7_tellNumber (k36) oC_67 rfl rfl (by decide) (Nat.le_of_ble_eq_true rfl) k) ?_
      refine BdQ.l (fun _ _ k => b_goto (pc := 39) (tgt := 60) (dd dtX7_tellKind 21 rfl) (by decide) k) ?_
      refine ⟨_, _, ?_, b_vret (dd dtX7_tellKind 32 rfl) rfl⟩
      first
      | exact ⟨rfl, R21.1, Or.inl ⟨h16, R21.2⟩⟩
      | (refine ⟨rfl, R36.1, Or.inr (Or.inl ⟨h16, h31, ?_⟩)⟩
         by_cases q : 4 < l
         · exact Or.inl ⟨q, by rw [R36.2.1, if_pos q]⟩
         · exact Or.inr ⟨q, by rw [R36.2.1, if_neg q], by rw [R36.2.2, show min l 4 = l by omega]⟩)
      | (rw [nI_clamp (show t < 2 ^ 31 by omega)]
         refine ⟨rfl, FrT.r.k, Or.inr (Or.inr ⟨h16, h31, ?_⟩)⟩
         rw [ist_eq, upd_eq]
         first
         | rw [if_pos h51]
         | rw [if_neg h51])
  · refine BdQ.l (fun _ _ k => b_aload_n (pc := 19) (i := 0) (dd dtX7_tellKind 11 rfl) rfl rfl k) ?_
    refine BdQ.l (fun _ _ k => b_iload_n (pc := 20) (i := 1) (dd dtX7_tellKind 12 rfl) rfl rfl k) ?_
    obtain ⟨_, I21, ⟨rfl, R21⟩, k21⟩ := q_word ht hj hl hn hjl hn2
    refine BdQ.l (fun _ _ k => b_invV (pc := 21) (dd dtX7_tellKind 13 rfl) mlX7_49 mvX7_tellWord miX7_tellWord (k21) oC_67 rfl rfl (by decide) (Nat.le_of_ble_eq_true rfl) k) ?_
    refine BdQ.l (fun _ _ k => b_goto (pc := 24) (tgt := 60) (dd dtX7_tellKind 14 rfl) (by decide) k) ?_
    refine ⟨_, _, ?_, b_vret (dd dtX7_tellKind 32 rfl) rfl⟩
    first
    | exact ⟨rfl, R21.1, Or.inl ⟨h16, R21.2⟩⟩
    | (refine ⟨rfl, R36.1, Or.inr (Or.inl ⟨h16, h31, ?_⟩)⟩
       by_cases q : 4 < l
       · exact Or.inl ⟨q, by rw [R36.2.1, if_pos q]⟩
       · exact Or.inr ⟨q, by rw [R36.2.1, if_neg q], by rw [R36.2.2, show min l 4 = l by omega]⟩)
    | (rw [nI_clamp (show t < 2 ^ 31 by omega)]
       refine ⟨rfl, FrT.r.k, Or.inr (Or.inr ⟨h16, h31, ?_⟩)⟩
       rw [ist_eq, upd_eq]
       first
       | rw [if_pos h51]
       | rw [if_neg h51])
