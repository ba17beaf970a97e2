def tX1_search : List (Nat × Instr × Nat) := [(0, .aload_n 0, 1), (1, .aload_n 1, 1), (2, .getfield 52, 3), (5, .iconst 5, 1), (6, .invokestatic 57, 3), (9, .putfield 9, 3), (12, .aload_n 0, 1), (13, .iconst 0, 1), (14, .putfield 15, 3), (17, .iconst 0, 1), (18, .istore 5, 2), (20, .iload 5, 2), (22, .aload_n 0, 1), (23, .getfield 9, 3), (26, .if_icmp .ge 51, 3), (29, .aload_n 0, 1), (30, .getfield 34, 3), (33, .iload 5, 2), (35, .aload_n 2, 1), (36, .aload_n 1, 1), (37, .getfield 63, 3), (40, .iload 5, 2), (42, .iaload, 1), (43, .iload 4, 2), (45, .iconst 0, 1), (46, .invokevirtual 66, 3), (49, .iastore, 1), (50, .aload_n 0, 1), (51, .getfield 37, 3), (54, .iload 5, 2), (56, .aload_n 2, 1), (57, .aload_n 1, 1), (58, .getfield 63, 3), (61, .iload 5, 2), (63, .iaload, 1), (64, .iload 4, 2), (66, .iconst 0, 1), (67, .invokevirtual 71, 3), (70, .iastore, 1), (71, .iinc 5 1, 3), (74, .goto (-54), 3), (77, .aload_n 0, 1), (78, .aload_n 1, 1), (79, .aload_n 3, 1), (80, .iload 4, 2), (82, .invokevirtual 74, 3), (85, .iconst 1, 1), (86, .istore 5, 2), (88, .iconst 0, 1), (89, .istore 6, 2), (91, .iload 6, 2), (93, .aload_n 0, 1), (94, .getfield 9, 3), (97, .if_icmp .ge 18, 3), (100, .iload 5, 2), (102, .getstatic 78, 3), (105, .arraylength, 1), (106, .imul, 1), (107, .istore 5, 2), (109, .iinc 6 1, 3), (112, .goto (-21), 3), (115, .iconst 0, 1), (116, .istore 6, 2), (118, .iload 6, 2), (120, .iload 5, 2), (122, .if_icmp .ge 29, 3), (125, .aload_n 0, 1), (126, .iload 6, 2), (128, .invokevirtual 81, 3), (131, .ifCond .eq 14, 3), (134, .aload_n 0, 1), (135, .invokevirtual 85, 3), (138, .ifCond .eq 7, 3), (141, .aload_n 0, 1), (142, .invokevirtual 89, 3), (145, .iinc 6 1, 3), (148, .goto (-30), 3), (151, .return_, 1)]
theorem dtX1_search : dec_ok mX1_search.2.1 tX1_search = true := by decide +kernel
/-- the world behind the last fit: its spans, its needs, then all sizes gone through -/
def fitJ (I : Wd) (K k z L : Nat) (known : Int32) : Wd := gatW (I (k + 1)) z known (spW I K k z known z) L
def fitQ (I : Wd) (K k z L : Nat) (known : Int32) : Nat := (fitJ I K k z L known 57 10).toNatClampNeg
def fitW (I : Wd) (K k z L : Nat) (known : Int32) : Wd := srW z (fitQ I K k z L known) (fitJ I K k z L known) (5 ^ z)
theorem spW_fr {I : Wd} {K k z h a : Nat} {known : Int32} (h1 : a ≠ 57) (h2 : a ≠ 61) (h3 : a ≠ 62) : spW I K k z known h a = I a := by
  unfold spW; rw [rset_ne h3, rset_ne h2, ist_ne h1, ist_ne h1]
theorem spW_57 {I : Wd} {K k z h : Nat} {known : Int32} : spW I K k z known h 57 0 = nI z ∧ spW I K k z known h 57 1 = 0 := by
  unfold spW
  rw [rset_ne (by decide), rset_ne (by decide)]
  exact ⟨by simp [ist_eq, upd_ne, upd_eq], by simp [ist_eq, upd_eq]⟩
theorem fitJ_fr {I : Wd} {K k z L a : Nat} {known : Int32} (h1 : a ≠ 57) (h2 : a ≠ 61) (h3 : a ≠ 62) (h4 : a ≠ 64) (h5 : a ≠ 65) : fitJ I K k z L known a = I a := by
  unfold fitJ; rw [gatW_fr h1 h4 h5, spW_fr h1 h2 h3]
theorem fitJ_57 {I : Wd} {K k z L : Nat} {known : Int32} : fitJ I K k z L known 57 0 = nI z ∧ fitJ I K k z L known 57 1 = 0 ∧ ∃ q, q ≤ L ∧ fitJ I K k z L known 57 10 = nI q := by
  unfold fitJ
  exact ⟨by rw [gatW_0 (by decide)]; exact spW_57.1, by rw [gatW_0 (by decide)]; exact spW_57.2, gatW_n⟩
theorem tk_fr {i r : Nat} {J : Wd} {a : Nat} (h : a ≠ 63) : (tk i r J).2 a = J a := by
  induction i generalizing r J with
  | zero => rfl
  | succ i ih => simp only [tk]; split
                 · exact ist_ne h
                 · split
                   · exact ist_ne h
                   · rw [ih, ist_ne h]
theorem wgW_0 {J : Wd} {z : Nat} : wgW J z 57 0 = J 57 0 ∧ wgW J z 57 10 = J 57 10 := by
  unfold wgW
  split
  · unfold wgNew; simp (disch := decide) only [rset_ne, ist_eq, upd_ne, ne_eq, Nat.reduceEqDiff, not_false_eq_true, and_self]
  · split
    · unfold wgTie; simp (disch := decide) only [rset_ne, ist_eq, upd_ne, ne_eq, Nat.reduceEqDiff, not_false_eq_true, and_self]
    · exact ⟨rfl, rfl⟩
theorem sr1_0 {z q : Nat} {J : Wd} {h : Nat} : sr1 z q J h 57 0 = J 57 0 ∧ sr1 z q J h 57 10 = J 57 10 := by
  unfold sr1
  split
  · split
    · rw [wgW_0.1, wgW_0.2, tk_fr (by decide)]; exact ⟨rfl, rfl⟩
    · rw [tk_fr (by decide)]; exact ⟨rfl, rfl⟩
  · rw [tk_fr (by decide)]; exact ⟨rfl, rfl⟩
theorem srW_0 {z q : Nat} {J : Wd} {h : Nat} : srW z q J h 57 0 = J 57 0 ∧ srW z q J h 57 10 = J 57 10 := by
  induction h with
  | zero => exact ⟨rfl, rfl⟩
  | succ h ih => rw [srW, sr1_0.1, sr1_0.2]; exact ih
theorem mn5 {z : Nat} (h : z ≤ 5) : (if (5 : Int32) < nI z then 5 else nI z) = nI z := if_neg (fun p => Nat.not_lt.mpr h (lt_n (h := 5) (N := z) p (by decide) (by omega)))
theorem pow5 : ∀ z, z ≤ 5 → 5 ^ z ≤ 3125 := by decide +kernel
set_option maxHeartbeats 4000000 in
theorem l3_X1_search {J : Wd} {k z q : Nat} {known : Int32} (hz : J 57 0 = nI z) (hz2 : z ≤ 5) (hq : J 57 10 = nI q) (hq2 : q ≤ 8) : ∀ (n h : Nat) (x6 : Int32) (I2 : Wd), h ≤ 5 ^ z → 5 ^ z < h + n → x6 = nI h → I2 = (srW z q J h) → Bd SyC mX1_search 4 118 [(6, .int x6), (5, .int (nI (5 ^ z))), (0, .ref 57), (1, .ref k), (2, .ref 42), (3, .ref 49), (4, .int known)] [] I2 none (srW z q J (5 ^ z)) := by
  intro n
  induction n with
  | zero => intro h x6 I2 h1 h2; omega
  | succ n ih =>
    intro h x6 I2 h1 h2 e6 eW
    subst e6; subst eW
    have hp := pow5 z hz2
    have g0 : srW z q J h 57 0 = nI z := by rw [srW_0.1]; exact hz
    have g1 : srW z q J h 57 10 = nI q := by rw [srW_0.2]; exact hq
    have g2 : (tk z h (srW z q J h)).2 57 0 = nI z := by rw [tk_fr (by decide)]; exact g0
    have g3 : (tk z h (srW z q J h)).2 57 10 = nI q := by rw [tk_fr (by decide)]; exact g1
    refine b_iload (pc := 118) (i := 6) (dd dtX1_search 63 rfl) rfl ?_
    refine b_iload (pc := 120) (i := 5) (dd dtX1_search 64 rfl) rfl ?_
    refine b_icmpL_ge (pc := 122) (tgt := 151) (dd dtX1_search 65 rfl) (by decide) (fun h122 => ?_) (fun h122 => ?_)
    · have he : h = 5 ^ z := Nat.le_antisymm h1 (ge_n h122 (by omega))
      subst he
      exact b_eq (b_vret (dd dtX1_search 77 rfl) rfl) rfl rfl
    · have hlt : h < 5 ^ z := lt_n h122 (by omega) (by omega)
      refine b_aload_n (pc := 125) (i := 0) (dd dtX1_search 66 rfl) rfl rfl ?_
      refine b_iload (pc := 126) (i := 6) (dd dtX1_search 67 rfl) rfl ?_
      refine b_invV (pc := 128) (dd dtX1_search 68 rfl) mlX1_81 mvX1_takeSizes miX1_takeSizes (c_X1_takeSizes g0 hz2 (by omega)) oC_57 rfl rfl (by decide) (Nat.le_of_ble_eq_true rfl) ?_
      refine b_ifb_eq (pc := 131) (tgt := 145) (dd dtX1_search 69 rfl) (by decide) (fun h131 => ?_) (fun h131 => ?_)
      · refine b_iinc1 (pc := 145) (i := 6) (lv' := [(6, _), (5, _), (0, _), (1, _), (2, _), (3, _), (4, _)]) (dd dtX1_search 75 rfl) rfl (Nat.le_of_ble_eq_true rfl) rfl ?_
        refine b_goto (pc := 148) (tgt := 118) (dd dtX1_search 76 rfl) (by decide) ?_
        rw [nI_1]
        refine ih (h + 1) _ _ hlt (by omega) rfl ?_
        · rw [srW]; unfold sr1
          first
            | rw [if_neg h131]
            | (rw [if_pos h131]; first | rw [if_neg h138] | rw [if_pos h138])
      · refine b_aload_n (pc := 134) (i := 0) (dd dtX1_search 70 rfl) rfl rfl ?_
        refine b_invV (pc := 135) (dd dtX1_search 71 rfl) mlX1_85 mvX1_meetsNeeds miX1_meetsNeeds (c_X1_meetsNeeds g2 hz2 g3 hq2) oC_57 rfl rfl (by decide) (Nat.le_of_ble_eq_true rfl) ?_
        refine b_ifb_eq (pc := 138) (tgt := 145) (dd dtX1_search 72 rfl) (by decide) (fun h138 => ?_) (fun h138 => ?_)
        · refine b_iinc1 (pc := 145) (i := 6) (lv' := [(6, _), (5, _), (0, _), (1, _), (2, _), (3, _), (4, _)]) (dd dtX1_search 75 rfl) rfl (Nat.le_of_ble_eq_true rfl) rfl ?_
          refine b_goto (pc := 148) (tgt := 118) (dd dtX1_search 76 rfl) (by decide) ?_
          rw [nI_1]
          refine ih (h + 1) _ _ hlt (by omega) rfl ?_
          · rw [srW]; unfold sr1
            first
              | rw [if_neg h131]
              | (rw [if_pos h131]; first | rw [if_neg h138] | rw [if_pos h138])
        · refine b_aload_n (pc := 141) (i := 0) (dd dtX1_search 73 rfl) rfl rfl ?_
          refine b_invV (pc := 142) (dd dtX1_search 74 rfl) mlX1_89 mvX1_weighUp miX1_weighUp (c_X1_weighUp g2 hz2) oC_57 rfl rfl (by decide) (Nat.le_of_ble_eq_true rfl) ?_
          refine b_iinc1 (pc := 145) (i := 6) (lv' := [(6, _), (5, _), (0, _), (1, _), (2, _), (3, _), (4, _)]) (dd dtX1_search 75 rfl) rfl (Nat.le_of_ble_eq_true rfl) rfl ?_
          refine b_goto (pc := 148) (tgt := 118) (dd dtX1_search 76 rfl) (by decide) ?_
          rw [nI_1]
          refine ih (h + 1) _ _ hlt (by omega) rfl ?_
          · rw [srW]; unfold sr1
            first
              | rw [if_neg h131]
              | (rw [if_pos h131]; first | rw [if_neg h138] | rw [if_pos h138])
set_option maxHeartbeats 4000000 in
theorem l2_X1_search {J : Wd} {k z q : Nat} {known : Int32} (hz : J 57 0 = nI z) (hz2 : z ≤ 5) (hq : J 57 10 = nI q) (hq2 : q ≤ 8) : ∀ (n h : Nat) (x6 : Int32) (x5 : Int32), h ≤ z → z < h + n → x6 = nI h → x5 = nI (5 ^ h) → Bd SyC mX1_search 4 91 [(6, .int x6), (5, .int x5), (0, .ref 57), (1, .ref k), (2, .ref 42), (3, .ref 49), (4, .int known)] [] J none (srW z q J (5 ^ z)) := by
  intro n
  induction n with
  | zero => intro h x6 x5 h1 h2; omega
  | succ n ih =>
    intro h x6 x5 h1 h2 e6 e5
    subst e6; subst e5
    refine b_iload (pc := 91) (i := 6) (dd dtX1_search 50 rfl) rfl ?_
    refine b_aload_n (pc := 93) (i := 0) (dd dtX1_search 51 rfl) rfl rfl ?_
    refine b_geti (pc := 94) (dd dtX1_search 52 rfl) fwX1_9 pC_57 ?_
    refine b_icmpL_ge (pc := 97) (tgt := 115) (dd dtX1_search 53 rfl) (by decide) (fun h97 => ?_) (fun h97 => ?_)
    · rw [hz] at h97
      have he : h = z := Nat.le_antisymm h1 (ge_n h97 (by omega))
      subst he
      refine b_ic0 (pc := 115) (dd dtX1_search 61 rfl) ?_
      refine b_istore (pc := 116) (i := 6) (lv' := [(6, _), (5, _), (0, _), (1, _), (2, _), (3, _), (4, _)]) (dd dtX1_search 62 rfl) (Nat.le_of_ble_eq_true rfl) rfl ?_
      exact l3_X1_search hz hz2 hq hq2 (5 ^ h + 1) 0 _ _ (Nat.zero_le _) (by omega) rfl rfl
    · rw [hz] at h97
      have hlt : h < z := lt_n h97 (by omega) (by omega)
      refine b_iload (pc := 100) (i := 5) (dd dtX1_search 54 rfl) rfl ?_
      refine b_gets3 (pc := 102) (dd dtX1_search 55 rfl) fsX1_78 ?_
      refine b_tlen3 (pc := 105) (v := 5) (dd dtX1_search 56 rfl) rfl ?_
      refine b_imul (pc := 106) (dd dtX1_search 57 rfl) ?_
      refine b_istore (pc := 107) (i := 5) (lv' := [(5, _), (6, _), (0, _), (1, _), (2, _), (3, _), (4, _)]) (dd dtX1_search 58 rfl) (Nat.le_of_ble_eq_true rfl) rfl ?_
      refine b_iinc1 (pc := 109) (i := 6) (lv' := [(6, _), (5, _), (0, _), (1, _), (2, _), (3, _), (4, _)]) (dd dtX1_search 59 rfl) rfl (Nat.le_of_ble_eq_true rfl) rfl ?_
      refine b_goto (pc := 112) (tgt := 91) (dd dtX1_search 60 rfl) (by decide) ?_
      rw [nI_1]
      refine ih (h + 1) _ _ hlt (by omega) rfl ?_
      · rw [Nat.pow_succ]; exact pk_mul _ 5
set_option maxHeartbeats 4000000 in
theorem l1_X1_search {I : Wd} {k z K L : Nat} {known : Int32} (hk : isS k) (hz : I k 1 = nI z) (hz2 : z ≤ 5) (hK : I 42 0 = nI K) (hK2 : K ≤ 30) (hL : I 49 0 = nI L) (hL2 : L ≤ 8) : ∀ (n h : Nat) (x5 : Int32) (I2 : Wd), h ≤ z → z < h + n → x5 = nI h → I2 = (spW I K k z known h) → Bd SyC mX1_search 4 20 [(5, .int x5), (0, .ref 57), (1, .ref k), (2, .ref 42), (3, .ref 49), (4, .int known)] [] I2 none (fitW I K k z L known) := by
  intro n
  induction n with
  | zero => intro h x5 I2 h1 h2; omega
  | succ n ih =>
    intro h x5 I2 h1 h2 e5 eW
    subst e5; subst eW
    have hkk : k ≠ 57 ∧ k ≠ 61 ∧ k ≠ 62 ∧ k + 1 ≠ 57 ∧ k + 1 ≠ 61 ∧ k + 1 ≠ 62 ∧ k + 1 ≠ 64 ∧ k + 1 ≠ 65 := by unfold isS at hk; omega
    have fk1 : spW I K k z known h (k + 1) = I (k + 1) := spW_fr hkk.2.2.2.1 hkk.2.2.2.2.1 hkk.2.2.2.2.2.1
    have f42 : spW I K k z known h 42 = I 42 := spW_fr (by decide) (by decide) (by decide)
    have f43 : spW I K k z known h 43 = I 43 := spW_fr (by decide) (by decide) (by decide)
    have f44 : spW I K k z known h 44 = I 44 := spW_fr (by decide) (by decide) (by decide)
    have f45 : spW I K k z known h 45 = I 45 := spW_fr (by decide) (by decide) (by decide)
    have f46 : spW I K k z known h 46 = I 46 := spW_fr (by decide) (by decide) (by decide)
    have f47 : spW I K k z known h 47 = I 47 := spW_fr (by decide) (by decide) (by decide)
    have f48 : spW I K k z known h 48 = I 48 := spW_fr (by decide) (by decide) (by decide)
    refine b_iload (pc := 20) (i := 5) (dd dtX1_search 11 rfl) rfl ?_
    refine b_aload_n (pc := 22) (i := 0) (dd dtX1_search 12 rfl) rfl rfl ?_
    refine b_geti (pc := 23) (dd dtX1_search 13 rfl) fwX1_9 pC_57 ?_
    refine b_icmpL_ge (pc := 26) (tgt := 77) (dd dtX1_search 14 rfl) (by decide) (fun h26 => ?_) (fun h26 => ?_)
    · rw [spW_57.1] at h26
      have he : h = z := Nat.le_antisymm h1 (ge_n h26 (by omega))
      subst he
      refine b_aload_n (pc := 77) (i := 0) (dd dtX1_search 41 rfl) rfl rfl ?_
      refine b_aload_n (pc := 78) (i := 1) (dd dtX1_search 42 rfl) rfl rfl ?_
      refine b_aload_n (pc := 79) (i := 3) (dd dtX1_search 43 rfl) rfl rfl ?_
      refine b_iload (pc := 80) (i := 4) (dd dtX1_search 44 rfl) rfl ?_
      refine b_invV (pc := 82) (dd dtX1_search 45 rfl) mlX1_74 mvX1_gatherNeeds miX1_gatherNeeds (c_X1_gatherNeeds hk spW_57.1 hz2 (by rw [spW_fr (by decide) (by decide) (by decide)]; exact hL) hL2) oC_57 rfl rfl (by decide) (Nat.le_of_ble_eq_true rfl) ?_
      refine b_ic1 (pc := 85) (dd dtX1_search 46 rfl) ?_
      refine b_istore (pc := 86) (i := 5) (lv' := [(5, _), (0, _), (1, _), (2, _), (3, _), (4, _)]) (dd dtX1_search 47 rfl) (Nat.le_of_ble_eq_true rfl) rfl ?_
      refine b_ic0 (pc := 88) (dd dtX1_search 48 rfl) ?_
      refine b_istore (pc := 89) (i := 6) (lv' := [(6, _), (5, _), (0, _), (1, _), (2, _), (3, _), (4, _)]) (dd dtX1_search 49 rfl) (Nat.le_of_ble_eq_true rfl) rfl ?_
      rw [fk1]
      obtain ⟨q, hq1, hq2⟩ := (fitJ_57 (I := I) (K := K) (k := k) (z := h) (L := L) (known := known)).2.2
      have hqq : fitQ I K k h L known = q := by unfold fitQ; rw [hq2]; exact nI_clamp (by omega)
      unfold fitW
      rw [hqq]
      exact l2_X1_search (J := fitJ I K k h L known) fitJ_57.1 hz2 hq2 (by omega) (h + 1) 0 _ _ (Nat.zero_le _) (by omega) rfl rfl
    · rw [spW_57.1] at h26
      have hlt : h < z := lt_n h26 (by omega) (by omega)
      refine b_aload_n (pc := 29) (i := 0) (dd dtX1_search 15 rfl) rfl rfl ?_
      refine b_geta (pc := 30) (dd dtX1_search 16 rfl) fwX1_34 pC_57 rC_57_7 ?_
      refine b_iload (pc := 33) (i := 5) (dd dtX1_search 17 rfl) rfl ?_
      refine b_aload_n (pc := 35) (i := 2) (dd dtX1_search 18 rfl) rfl rfl ?_
      refine b_aload_n (pc := 36) (i := 1) (dd dtX1_search 19 rfl) rfl rfl ?_
      refine b_geta (pc := 37) (dd dtX1_search 20 rfl) fwX1_63 (pS_0 hk) (rS_2 hk) ?_
      refine b_iload (pc := 40) (i := 5) (dd dtX1_search 21 rfl) rfl ?_
      refine b_iald (pc := 42) (dd dtX1_search 22 rfl) (pS_1 hk) (vpn rfl (show h < 40 by omega) (by decide)) ?_
      refine b_iload (pc := 43) (i := 4) (dd dtX1_search 23 rfl) rfl ?_
      refine b_ic0 (pc := 45) (dd dtX1_search 24 rfl) ?_
      refine b_invV (pc := 46) (dd dtX1_search 25 rfl) mlX1_66 mvX6_least miX6_least (c_X6_least (by rw [f42]; exact hK) hK2) oC_42 rfl rfl (by decide) (Nat.le_of_ble_eq_true rfl) ?_
      refine b_iast (pc := 49) (dd dtX1_search 26 rfl) pC_61 (vpn rfl (show h < 5 by omega) (by decide)) ?_
      refine b_aload_n (pc := 50) (i := 0) (dd dtX1_search 27 rfl) rfl rfl ?_
      refine b_geta (pc := 51) (dd dtX1_search 28 rfl) fwX1_37 pC_57 rC_57_8 ?_
      refine b_iload (pc := 54) (i := 5) (dd dtX1_search 29 rfl) rfl ?_
      refine b_aload_n (pc := 56) (i := 2) (dd dtX1_search 30 rfl) rfl rfl ?_
      refine b_aload_n (pc := 57) (i := 1) (dd dtX1_search 31 rfl) rfl rfl ?_
      refine b_geta (pc := 58) (dd dtX1_search 32 rfl) fwX1_63 (pS_0 hk) (rS_2 hk) ?_
      refine b_iload (pc := 61) (i := 5) (dd dtX1_search 33 rfl) rfl ?_
      refine b_iald (pc := 63) (dd dtX1_search 34 rfl) (pS_1 hk) (vpn rfl (show h < 40 by omega) (by decide)) ?_
      refine b_iload (pc := 64) (i := 4) (dd dtX1_search 35 rfl) rfl ?_
      refine b_ic0 (pc := 66) (dd dtX1_search 36 rfl) ?_
      refine b_invV (pc := 67) (dd dtX1_search 37 rfl) mlX1_71 mvX6_most miX6_most (c_X6_most (by rw [ist_ne (by decide), f42]; exact hK) hK2) oC_42 rfl rfl (by decide) (Nat.le_of_ble_eq_true rfl) ?_
      refine b_iast (pc := 70) (dd dtX1_search 38 rfl) pC_62 (vpn rfl (show h < 5 by omega) (by decide)) ?_
      refine b_iinc1 (pc := 71) (i := 5) (lv' := [(5, _), (0, _), (1, _), (2, _), (3, _), (4, _)]) (dd dtX1_search 39 rfl) rfl (Nat.le_of_ble_eq_true rfl) rfl ?_
      refine b_goto (pc := 74) (tgt := 20) (dd dtX1_search 40 rfl) (by decide) ?_
      rw [nI_1]
      refine ih (h + 1) _ _ hlt (by omega) rfl ?_
      · simp only [nI_clamp (show h < 2 ^ 31 by omega), fk1, f43, f44, f45, f46, f47, f48, ist_ne (show (43 : Nat) ≠ 61 by decide), ist_ne (show (44 : Nat) ≠ 61 by decide), ist_ne (show (45 : Nat) ≠ 61 by decide), ist_ne (show (46 : Nat) ≠ 61 by decide), ist_ne (show (47 : Nat) ≠ 61 by decide), ist_ne (show (48 : Nat) ≠ 61 by decide), ist_ne hkk.2.2.2.2.1]
        unfold spW
        rw [rset_comm (show (61 : Nat) ≠ 62 by decide), ist_rset, rset_comm (show (62 : Nat) ≠ 61 by decide), ist_rset]
        exact congr (congrArg (fun a b => rset (rset (ist (ist I 57 0 (nI z)) 57 1 0) 61 a) 62 b) (fil_s rfl)) (fil_s rfl)
set_option maxHeartbeats 4000000 in
theorem c_X1_search {I : Wd} {k z K L : Nat} {known : Int32} (hk : isS k) (hz : I k 1 = nI z) (hz2 : z ≤ 5) (hK : I 42 0 = nI K) (hK2 : K ≤ 30) (hL : I 49 0 = nI L) (hL2 : L ≤ 8) : Cal SyC mX1_search 4 [.ref 57, .ref k, .ref 42, .ref 49, .int known] I none (fitW I K k z L known) := by
  refine Cal.of (by decide) (Nat.le_of_ble_eq_true rfl) ?_
  show Bd _ _ _ _ [(0, _), (1, _), (2, _), (3, _), (4, _)] _ _ _ _
  refine b_aload_n (pc := 0) (i := 0) (dd dtX1_search 0 rfl) rfl rfl ?_
  refine b_aload_n (pc := 1) (i := 1) (dd dtX1_search 1 rfl) rfl rfl ?_
  refine b_geti (pc := 2) (dd dtX1_search 2 rfl) fwX1_52 (pS_0 hk) ?_
  refine b_ic5 (pc := 5) (dd dtX1_search 3 rfl) ?_
  refine b_mmin (pc := 6) (dd dtX1_search 4 rfl) wlX1_57 (Nat.le_of_ble_eq_true rfl) ?_
  rw [show (if (5 : Int32) < I k 1 then 5 else I k 1) = nI z by rw [hz]; exact mn5 hz2]
  refine b_puti (pc := 9) (dd dtX1_search 5 rfl) fwX1_9 pC_57 ?_
  refine b_aload_n (pc := 12) (i := 0) (dd dtX1_search 6 rfl) rfl rfl ?_
  refine b_ic0 (pc := 13) (dd dtX1_search 7 rfl) ?_
  refine b_puti (pc := 14) (dd dtX1_search 8 rfl) fwX1_15 pC_57 ?_
  refine b_ic0 (pc := 17) (dd dtX1_search 9 rfl) ?_
  refine b_istore (pc := 18) (i := 5) (lv' := [(5, _), (0, _), (1, _), (2, _), (3, _), (4, _)]) (dd dtX1_search 10 rfl) (Nat.le_of_ble_eq_true rfl) rfl ?_
  exact l1_X1_search hk hz hz2 hK hK2 hL hL2 (z + 1) 0 _ _ (Nat.zero_le _) (by omega) rfl (by unfold spW; rw [fil_0, fil_0]; rw [show I 61 = ist (ist I 57 0 (nI z)) 57 1 0 61 by rw [ist_ne (by decide), ist_ne (by decide)], rset_id, show I 62 = ist (ist I 57 0 (nI z)) 57 1 0 62 by rw [ist_ne (by decide), ist_ne (by decide)], rset_id])
abbrev okFit (ms : Prop) (nums : Nat → Int32) (z : Nat) (month s known : Int32) : Prop := inR s 0 3 ∧ ¬ ms ∧ inR (nI z) 1 5 ∧ inR known 0 month ∧ ucP nums z
def vFit (ms : Prop) [Decidable ms] (nums : Nat → Int32) (z : Nat) (month s known r f : Int32) : Int32 := if inR s 0 3 then (if ms then -11 else if inR (nI z) 1 5 ∧ inR known 0 month ∧ ucP nums z then (if 0 < r then f else -3) else -2) else -1
theorem le5 {z : Nat} (h : inR (nI z) 1 5) (hz : z ≤ 40) : z ≤ 5 := ge_n (h := 5) (N := z) (h.2) (by omega)
def tX10_fit : List (Nat × Instr × Nat) := [(0, .iload_n 1, 1), (1, .invokestatic 208, 3), (4, .ifCond .ne 5, 3), (7, .iconst (-1), 1), (8, .ireturn, 1), (9, .aload_n 0, 1), (10, .getfield 70, 3), (13, .iload_n 1, 1), (14, .aaload, 1), (15, .astore_n 3, 1), (16, .aload_n 3, 1), (17, .invokevirtual 211, 3), (20, .ifCond .eq 6, 3), (23, .bipush (-11), 2), (25, .ireturn, 1), (26, .aload_n 3, 1), (27, .getfield 214, 3), (30, .iconst 1, 1), (31, .iconst 5, 1), (32, .invokestatic 97, 3), (35, .ifCond .eq 18, 3), (38, .aload_n 0, 1), (39, .iload_n 2, 1), (40, .invokevirtual 172, 3), (43, .ifCond .eq 10, 3), (46, .aload_n 3, 1), (47, .invokestatic 215, 3), (50, .ifCond .ne 6, 3), (53, .bipush (-2), 2), (55, .ireturn, 1), (56, .aload_n 0, 1), (57, .getfield 57, 3), (60, .aload_n 3, 1), (61, .aload_n 0, 1), (62, .getfield 38, 3), (65, .aload_n 0, 1), (66, .getfield 47, 3), (69, .iload_n 2, 1), (70, .invokevirtual 219, 3), (73, .aload_n 0, 1), (74, .getfield 57, 3), (77, .getfield 223, 3), (80, .ifCond .le 13, 3), (83, .aload_n 0, 1), (84, .getfield 57, 3), (87, .getfield 226, 3), (90, .goto 5, 3), (93, .bipush (-3), 2), (95, .ireturn, 1)]
theorem dtX10_fit : dec_ok mX10_fit.2.1 tX10_fit = true := by decide +kernel
set_option maxHeartbeats 4000000 in
theorem c_X10_fit {I : Wd} {K L z : Nat} {s known : Int32} (hK : I 42 0 = nI K) (hK2 : K ≤ 30) (hL : I 49 0 = nI L) (hL2 : L ≤ 8) (hz0 : inR s 0 3 → I (kS s) 1 = nI z ∧ z ≤ 40) : Cal SyC mX10_fit 5 [.ref 0, .int s, .int known] I (some (.int (vFit (I (kS s) 0 = -1) (I (kS s + 1)) z (I 6 1) s known (fitW I K (kS s) z L known 57 1) (fitW I K (kS s) z L known 57 2)))) (if okFit (I (kS s) 0 = -1) (I (kS s + 1)) z (I 6 1) s known then fitW I K (kS s) z L known else I) := by
  refine Cal.of (by decide) (Nat.le_of_ble_eq_true rfl) ?_
  show Bd _ _ _ _ [(0, _), (1, _), (2, _)] _ _ _ _
  refine b_iload_n (pc := 0) (i := 1) (dd dtX10_fit 0 rfl) rfl rfl ?_
  refine b_invS (pc := 1) (dd dtX10_fit 1 rfl) mlX10_208 mvX10_isSheet msX10_isSheet (c_X10_isSheet) rfl rfl (by decide) (Nat.le_of_ble_eq_true rfl) ?_
  refine b_ifb_ne (pc := 4) (tgt := 9) (dd dtX10_fit 2 rfl) (by decide) (fun h4 => ?_) (fun h4 => ?_)
  · obtain ⟨hz, hz2⟩ := hz0 h4
    clear hz0
    refine b_aload_n (pc := 9) (i := 0) (dd dtX10_fit 5 rfl) rfl rfl ?_
    refine b_geta (pc := 10) (dd dtX10_fit 6 rfl) fwX10_70 pC_0 rC_0_10 ?_
    refine b_iload_n (pc := 13) (i := 1) (dd dtX10_fit 7 rfl) rfl rfl ?_
    refine b_aald (pc := 14) (q := kS s) (dd dtX10_fit 8 rfl) pC_98 (by decide) ((sheet_k h4).2.1) ((sheet_k h4).2.2) ?_
    refine b_astore_n (pc := 15) (i := 3) (lv' := [(3, _), (0, _), (1, _), (2, _)]) (dd dtX10_fit 9 rfl) rfl (Nat.le_of_ble_eq_true rfl) rfl ?_
    refine b_aload_n (pc := 16) (i := 3) (dd dtX10_fit 10 rfl) rfl rfl ?_
    refine b_invV (pc := 17) (dd dtX10_fit 11 rfl) mlX10_211 mvX5_isMissing miX5_isMissing (c_X5_isMissing (sheet_k h4).1) (oS (sheet_k h4).1) rfl rfl (by decide) (Nat.le_of_ble_eq_true rfl) ?_
    refine b_ifb_eq (pc := 20) (tgt := 26) (dd dtX10_fit 12 rfl) (by decide) (fun h20 => ?_) (fun h20 => ?_)
    · refine b_aload_n (pc := 26) (i := 3) (dd dtX10_fit 15 rfl) rfl rfl ?_
      refine b_geti (pc := 27) (dd dtX10_fit 16 rfl) fwX10_214 (pS_0 (sheet_k h4).1) ?_
      refine b_ic1 (pc := 30) (dd dtX10_fit 17 rfl) ?_
      refine b_ic5 (pc := 31) (dd dtX10_fit 18 rfl) ?_
      rw [hz]
      refine b_invS (pc := 32) (dd dtX10_fit 19 rfl) mlX10_97 mvX10_within msX10_within (c_X10_within) rfl rfl (by decide) (Nat.le_of_ble_eq_true rfl) ?_
      refine b_ifb_eq (pc := 35) (tgt := 53) (dd dtX10_fit 20 rfl) (by decide) (fun h35 => ?_) (fun h35 => ?_)
      · refine b_bipush (pc := 53) (v := -2) (dd dtX10_fit 28 rfl) (by decide) ?_
        refine b_eq (b_iret (dd dtX10_fit 29 rfl) rfl) ?_ ?_
        · unfold vFit; rw [if_pos h4, if_neg h20, if_neg]; rintro ⟨q1, q2, q3⟩; first | exact h35 q1 | exact h43 q2 | exact h50 q3
        · rw [if_neg]; rintro ⟨q0, q9, q1, q2, q3⟩; first | exact h35 q1 | exact h43 q2 | exact h50 q3
      · refine b_aload_n (pc := 38) (i := 0) (dd dtX10_fit 21 rfl) rfl rfl ?_
        refine b_iload_n (pc := 39) (i := 2) (dd dtX10_fit 22 rfl) rfl rfl ?_
        refine b_invV (pc := 40) (dd dtX10_fit 23 rfl) mlX10_172 mvX10_isKnown miX10_isKnown (c_X10_isKnown) oC_0 rfl rfl (by decide) (Nat.le_of_ble_eq_true rfl) ?_
        refine b_ifb_eq (pc := 43) (tgt := 53) (dd dtX10_fit 24 rfl) (by decide) (fun h43 => ?_) (fun h43 => ?_)
        · refine b_bipush (pc := 53) (v := -2) (dd dtX10_fit 28 rfl) (by decide) ?_
          refine b_eq (b_iret (dd dtX10_fit 29 rfl) rfl) ?_ ?_
          · unfold vFit; rw [if_pos h4, if_neg h20, if_neg]; rintro ⟨q1, q2, q3⟩; first | exact h35 q1 | exact h43 q2 | exact h50 q3
          · rw [if_neg]; rintro ⟨q0, q9, q1, q2, q3⟩; first | exact h35 q1 | exact h43 q2 | exact h50 q3
        · refine b_aload_n (pc := 46) (i := 3) (dd dtX10_fit 25 rfl) rfl rfl ?_
          refine b_invS (pc := 47) (dd dtX10_fit 26 rfl) mlX10_215 mvX10_holdsUnlikeCells msX10_holdsUnlikeCells (c_X10_holdsUnlikeCells (sheet_k h4).1 hz hz2) rfl rfl (by decide) (Nat.le_of_ble_eq_true rfl) ?_
          refine b_ifb_ne (pc := 50) (tgt := 56) (dd dtX10_fit 27 rfl) (by decide) (fun h50 => ?_) (fun h50 => ?_)
          · refine b_aload_n (pc := 56) (i := 0) (dd dtX10_fit 30 rfl) rfl rfl ?_
            refine b_geta (pc := 57) (dd dtX10_fit 31 rfl) fwX10_57 pC_0 rC_0_8 ?_
            refine b_aload_n (pc := 60) (i := 3) (dd dtX10_fit 32 rfl) rfl rfl ?_
            refine b_aload_n (pc := 61) (i := 0) (dd dtX10_fit 33 rfl) rfl rfl ?_
            refine b_geta (pc := 62) (dd dtX10_fit 34 rfl) fwX10_38 pC_0 rC_0_5 ?_
            refine b_aload_n (pc := 65) (i := 0) (dd dtX10_fit 35 rfl) rfl rfl ?_
            refine b_geta (pc := 66) (dd dtX10_fit 36 rfl) fwX10_47 pC_0 rC_0_6 ?_
            refine b_iload_n (pc := 69) (i := 2) (dd dtX10_fit 37 rfl) rfl rfl ?_
            refine b_invV (pc := 70) (dd dtX10_fit 38 rfl) mlX10_219 mvX1_search miX1_search (c_X1_search (sheet_k h4).1 hz (le5 h35 hz2) hK hK2 hL hL2) oC_57 rfl rfl (by decide) (Nat.le_of_ble_eq_true rfl) ?_
            refine b_aload_n (pc := 73) (i := 0) (dd dtX10_fit 39 rfl) rfl rfl ?_
            refine b_geta (pc := 74) (dd dtX10_fit 40 rfl) fwX10_57 pC_0 rC_0_8 ?_
            refine b_geti (pc := 77) (dd dtX10_fit 41 rfl) fwX10_223 pC_57 ?_
            refine b_ifL_le (pc := 80) (tgt := 93) (dd dtX10_fit 42 rfl) (by decide) (fun h80 => ?_) (fun h80 => ?_)
            · refine b_bipush (pc := 93) (v := -3) (dd dtX10_fit 47 rfl) (by decide) ?_
              refine b_eq (b_iret (dd dtX10_fit 48 rfl) rfl) ?_ ?_
              · unfold vFit; rw [if_pos h4, if_neg h20, if_pos ⟨h35, h43, h50⟩]; first | rw [if_pos h80] | rw [if_neg h80]
              · rw [if_pos ⟨h4, h20, h35, h43, h50⟩]
            · refine b_aload_n (pc := 83) (i := 0) (dd dtX10_fit 43 rfl) rfl rfl ?_
              refine b_geta (pc := 84) (dd dtX10_fit 44 rfl) fwX10_57 pC_0 rC_0_8 ?_
              refine b_geti (pc := 87) (dd dtX10_fit 45 rfl) fwX10_226 pC_57 ?_
              refine b_goto (pc := 90) (tgt := 95) (dd dtX10_fit 46 rfl) (by decide) ?_
              refine b_eq (b_iret (dd dtX10_fit 48 rfl) rfl) ?_ ?_
              · unfold vFit; rw [if_pos h4, if_neg h20, if_pos ⟨h35, h43, h50⟩]; first | rw [if_pos h80] | rw [if_neg h80]
              · rw [if_pos ⟨h4, h20, h35, h43, h50⟩]
          · refine b_bipush (pc := 53) (v := -2) (dd dtX10_fit 28 rfl) (by decide) ?_
            refine b_eq (b_iret (dd dtX10_fit 29 rfl) rfl) ?_ ?_
            · unfold vFit; rw [if_pos h4, if_neg h20, if_neg]; rintro ⟨q1, q2, q3⟩; first | exact h35 q1 | exact h43 q2 | exact h50 q3
            · rw [if_neg]; rintro ⟨q0, q9, q1, q2, q3⟩; first | exact h35 q1 | exact h43 q2 | exact h50 q3
    · refine b_bipush (pc := 23) (v := -11) (dd dtX10_fit 13 rfl) (by decide) ?_
      refine b_eq (b_iret (dd dtX10_fit 14 rfl) rfl) ?_ ?_
      · unfold vFit; rw [if_pos h4, if_pos h20]
      · rw [if_neg (fun q => q.2.1 h20)]
  · refine b_icm1 (pc := 7) (dd dtX10_fit 3 rfl) ?_
    refine b_eq (b_iret (dd dtX10_fit 4 rfl) rfl) ?_ ?_
    · unfold vFit; rw [if_neg h4]
    · rw [if_neg (fun q => h4 q.1)]
