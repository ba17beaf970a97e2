/-! plans -/
def bitS (set : Int32) (i : Nat) : Int32 := (set >>> (nI i &&& 31)) &&& 1
def sHs (nums : Nat → Int32) (set : Int32) : Nat → Int32
  | 0 => 0
  | i + 1 => if bitS set i = 0 then sHs nums set i else sHs nums set i ||| ((1 : Int32) <<< (nums i &&& 31))
def sPm (away ppl : Nat → Int32) (hs : Int32) : Nat → Int32
  | 0 => 0
  | h + 1 => if bitS hs h = 0 then sPm away ppl hs h else if away h = 0 then sPm away ppl hs h + ppl h else sPm away ppl hs h
def sSp (gone gone2 away ppl : Nat → Int32) (hs : Int32) : Nat → Int32
  | 0 => 0
  | h + 1 => if bitS hs h = 0 then sSp gone gone2 away ppl hs h else if away h = 0 then (if gone h < 0 ∧ ¬ gone2 h < 0 then sSp gone gone2 away ppl hs h + 1000 * ppl h else sSp gone gone2 away ppl hs h) else sSp gone gone2 away ppl hs h
def tX10_holdsHouses : List (Nat × Instr × Nat) := [(0, .aload_n 1, 1), (1, .getfield 214, 3), (4, .bipush 8, 2), (6, .if_icmp .le 5, 3), (9, .iconst 0, 1), (10, .ireturn, 1), (11, .iconst 0, 1), (12, .istore_n 2, 1), (13, .iload_n 2, 1), (14, .aload_n 1, 1), (15, .getfield 214, 3), (18, .if_icmp .ge 24, 3), (21, .aload_n 0, 1), (22, .aload_n 1, 1), (23, .getfield 284, 3), (26, .iload_n 2, 1), (27, .iaload, 1), (28, .invokevirtual 131, 3), (31, .ifCond .ne 5, 3), (34, .iconst 0, 1), (35, .ireturn, 1), (36, .iinc 2 1, 3), (39, .goto (-26), 3), (42, .iconst 1, 1), (43, .ireturn, 1)]
theorem dtX10_holdsHouses : dec_ok mX10_holdsHouses.2.1 tX10_holdsHouses = true := by decide +kernel
set_option maxHeartbeats 4000000 in
theorem l_X10_holdsHouses {I : Wd} {k z : Nat} (hk : isS k) (hz : I k 1 = nI z) (hz2 : z ≤ 40) (h8 : ¬ 8 < nI z) : ∀ (n h : Nat) (x2 : Int32), h ≤ z → z < h + n → x2 = nI h → (∀ i, i < h → inR (I (k + 1) i) 0 (I 1 0 - 1)) → Bd SyC mX10_holdsHouses 2 13 [(2, .int x2), (0, .ref 0), (1, .ref k)] [] I (some (.int (bi (¬ 8 < nI z ∧ ∀ i, i < z → inR (I (k + 1) i) 0 (I 1 0 - 1))))) I := by
  intro n
  induction n with
  | zero => intro h x2 h1 h2; omega
  | succ n ih =>
    intro h x2 h1 h2 e2 hI
    subst e2
    refine b_iload_n (pc := 13) (i := 2) (dd dtX10_holdsHouses 8 rfl) rfl rfl ?_
    refine b_aload_n (pc := 14) (i := 1) (dd dtX10_holdsHouses 9 rfl) rfl rfl ?_
    refine b_geti (pc := 15) (dd dtX10_holdsHouses 10 rfl) fwX10_214 (pS_0 hk) ?_
    refine b_icmpL_ge (pc := 18) (tgt := 42) (dd dtX10_holdsHouses 11 rfl) (by decide) (fun h18 => ?_) (fun h18 => ?_)
    · rw [hz] at h18
      have he : h = z := Nat.le_antisymm h1 (ge_n h18 (by omega))
      subst he
      refine b_ic1 (pc := 42) (dd dtX10_holdsHouses 23 rfl) ?_
      refine b_eq (b_zret (dd dtX10_holdsHouses 24 rfl) rfl (by first | rfl | exact nar_bi)) ?_ ?_
      · rw [bi_t ⟨h8, hI⟩]
      · rfl
    · rw [hz] at h18
      have hlt : h < z := lt_n h18 (by omega) (by omega)
      refine b_aload_n (pc := 21) (i := 0) (dd dtX10_holdsHouses 12 rfl) rfl rfl ?_
      refine b_aload_n (pc := 22) (i := 1) (dd dtX10_holdsHouses 13 rfl) rfl rfl ?_
      refine b_geta (pc := 23) (dd dtX10_holdsHouses 14 rfl) fwX10_284 (pS_0 hk) (rS_2 hk) ?_
      refine b_iload_n (pc := 26) (i := 2) (dd dtX10_holdsHouses 15 rfl) rfl rfl ?_
      refine b_iald (pc := 27) (dd dtX10_holdsHouses 16 rfl) (pS_1 hk) (vpn rfl (show h < 40 by omega) (by decide)) ?_
      refine b_invV (pc := 28) (dd dtX10_holdsHouses 17 rfl) mlX10_131 mvX10_isHouse miX10_isHouse (c_X10_isHouse) oC_0 rfl rfl (by decide) (Nat.le_of_ble_eq_true rfl) ?_
      refine b_ifb_ne (pc := 31) (tgt := 36) (dd dtX10_holdsHouses 18 rfl) (by decide) (fun h31 => ?_) (fun h31 => ?_)
      · simp only [nI_clamp (show h < 2 ^ 31 by omega)] at h31
        refine b_iinc1 (pc := 36) (i := 2) (lv' := [(2, _), (0, _), (1, _)]) (dd dtX10_holdsHouses 21 rfl) rfl (Nat.le_of_ble_eq_true rfl) rfl ?_
        refine b_goto (pc := 39) (tgt := 13) (dd dtX10_holdsHouses 22 rfl) (by decide) ?_
        rw [nI_1]
        refine ih (h + 1) _ hlt (by omega) rfl ?_
        · intro i hi
          rcases Nat.lt_succ_iff_lt_or_eq.mp hi with q | q
          · exact hI i q
          · subst q; exact h31
      · simp only [nI_clamp (show h < 2 ^ 31 by omega)] at h31
        have hno : ¬ (¬ 8 < nI z ∧ ∀ i, i < z → inR (I (k + 1) i) 0 (I 1 0 - 1)) := fun q => h31 (q.2 h hlt)
        refine b_ic0 (pc := 34) (dd dtX10_holdsHouses 19 rfl) ?_
        refine b_eq (b_zret (dd dtX10_holdsHouses 20 rfl) rfl (by first | rfl | exact nar_bi)) ?_ ?_
        · rw [bi_f hno]
        · rfl
set_option maxHeartbeats 4000000 in
theorem c_X10_holdsHouses {I : Wd} {k z : Nat} (hk : isS k) (hz : I k 1 = nI z) (hz2 : z ≤ 40) : Cal SyC mX10_holdsHouses 2 [.ref 0, .ref k] I (some (.int (bi (¬ 8 < nI z ∧ ∀ i, i < z → inR (I (k + 1) i) 0 (I 1 0 - 1))))) I := by
  refine Cal.of (by decide) (Nat.le_of_ble_eq_true rfl) ?_
  show Bd _ _ _ _ [(0, _), (1, _)] _ _ _ _
  refine b_aload_n (pc := 0) (i := 1) (dd dtX10_holdsHouses 0 rfl) rfl rfl ?_
  refine b_geti (pc := 1) (dd dtX10_holdsHouses 1 rfl) fwX10_214 (pS_0 hk) ?_
  refine b_bipush (pc := 4) (v := 8) (dd dtX10_holdsHouses 2 rfl) (by decide) ?_
  rw [hz]
  refine b_icmpL_le (pc := 6) (tgt := 11) (dd dtX10_holdsHouses 3 rfl) (by decide) (fun h6 => ?_) (fun h6 => ?_)
  · refine b_ic0 (pc := 11) (dd dtX10_holdsHouses 6 rfl) ?_
    refine b_istore_n (pc := 12) (i := 2) (lv' := [(2, _), (0, _), (1, _)]) (dd dtX10_holdsHouses 7 rfl) rfl (Nat.le_of_ble_eq_true rfl) rfl ?_
    exact l_X10_holdsHouses hk hz hz2 h6 (z + 1) 0 _ (Nat.zero_le _) (by omega) rfl (fun i hi => absurd hi (Nat.not_lt_zero i))
  · refine b_ic0 (pc := 9) (dd dtX10_holdsHouses 4 rfl) ?_
    refine b_eq (b_zret (dd dtX10_holdsHouses 5 rfl) rfl (by first | rfl | exact nar_bi)) ?_ ?_
    · rw [bi_f (fun q => q.1 h6)]
    · rfl
def tX10_housesOfSet : List (Nat × Instr × Nat) := [(0, .iconst 0, 1), (1, .istore_n 2, 1), (2, .iconst 0, 1), (3, .istore_n 3, 1), (4, .iload_n 3, 1), (5, .aload_n 0, 1), (6, .getfield 214, 3), (9, .if_icmp .ge 28, 3), (12, .iload_n 1, 1), (13, .iload_n 3, 1), (14, .ishr, 1), (15, .iconst 1, 1), (16, .iand, 1), (17, .ifCond .eq 14, 3), (20, .iload_n 2, 1), (21, .iconst 1, 1), (22, .aload_n 0, 1), (23, .getfield 284, 3), (26, .iload_n 3, 1), (27, .iaload, 1), (28, .ishl, 1), (29, .ior, 1), (30, .istore_n 2, 1), (31, .iinc 3 1, 3), (34, .goto (-30), 3), (37, .iload_n 2, 1), (38, .ireturn, 1)]
theorem dtX10_housesOfSet : dec_ok mX10_housesOfSet.2.1 tX10_housesOfSet = true := by decide +kernel
set_option maxHeartbeats 4000000 in
theorem l_X10_housesOfSet {I : Wd} {k z : Nat} (hk : isS k) (hz : I k 1 = nI z) (hz2 : z ≤ 40) {set : Int32} : ∀ (n h : Nat) (x3 : Int32) (x2 : Int32), h ≤ z → z < h + n → x3 = nI h → x2 = (sHs (I (k + 1)) set h) → Bd SyC mX10_housesOfSet 0 4 [(3, .int x3), (2, .int x2), (0, .ref k), (1, .int set)] [] I (some (.int (sHs (I (k + 1)) set z))) I := by
  intro n
  induction n with
  | zero => intro h x3 x2 h1 h2; omega
  | succ n ih =>
    intro h x3 x2 h1 h2 e3 e2
    subst e3; subst e2
    refine b_iload_n (pc := 4) (i := 3) (dd dtX10_housesOfSet 4 rfl) rfl rfl ?_
    refine b_aload_n (pc := 5) (i := 0) (dd dtX10_housesOfSet 5 rfl) rfl rfl ?_
    refine b_geti (pc := 6) (dd dtX10_housesOfSet 6 rfl) fwX10_214 (pS_0 hk) ?_
    refine b_icmpL_ge (pc := 9) (tgt := 37) (dd dtX10_housesOfSet 7 rfl) (by decide) (fun h9 => ?_) (fun h9 => ?_)
    · rw [hz] at h9
      have he : h = z := Nat.le_antisymm h1 (ge_n h9 (by omega))
      subst he
      refine b_iload_n (pc := 37) (i := 2) (dd dtX10_housesOfSet 25 rfl) rfl rfl ?_
      exact b_eq (b_iret (dd dtX10_housesOfSet 26 rfl) rfl) rfl rfl
    · rw [hz] at h9
      have hlt : h < z := lt_n h9 (by omega) (by omega)
      refine b_iload_n (pc := 12) (i := 1) (dd dtX10_housesOfSet 8 rfl) rfl rfl ?_
      refine b_iload_n (pc := 13) (i := 3) (dd dtX10_housesOfSet 9 rfl) rfl rfl ?_
      refine b_ishr (pc := 14) (dd dtX10_housesOfSet 10 rfl) ?_
      refine b_ic1 (pc := 15) (dd dtX10_housesOfSet 11 rfl) ?_
      refine b_iand (pc := 16) (dd dtX10_housesOfSet 12 rfl) ?_
      refine b_if_eq (pc := 17) (tgt := 31) (dd dtX10_housesOfSet 13 rfl) (by decide) (fun h17 => ?_) (fun h17 => ?_)
      · refine b_iinc1 (pc := 31) (i := 3) (lv' := [(3, _), (2, _), (0, _), (1, _)]) (dd dtX10_housesOfSet 23 rfl) rfl (Nat.le_of_ble_eq_true rfl) rfl ?_
        refine b_goto (pc := 34) (tgt := 4) (dd dtX10_housesOfSet 24 rfl) (by decide) ?_
        rw [nI_1]
        refine ih (h + 1) _ _ hlt (by omega) rfl ?_
        · try simp only [nI_clamp (show h < 2 ^ 31 by omega)]
          simp only [sHs]
          first | rw [if_pos (show bitS set h = 0 from h17)] | rw [if_neg (show ¬ bitS set h = 0 from h17)]
      · refine b_iload_n (pc := 20) (i := 2) (dd dtX10_housesOfSet 14 rfl) rfl rfl ?_
        refine b_ic1 (pc := 21) (dd dtX10_housesOfSet 15 rfl) ?_
        refine b_aload_n (pc := 22) (i := 0) (dd dtX10_housesOfSet 16 rfl) rfl rfl ?_
        refine b_geta (pc := 23) (dd dtX10_housesOfSet 17 rfl) fwX10_284 (pS_0 hk) (rS_2 hk) ?_
        refine b_iload_n (pc := 26) (i := 3) (dd dtX10_housesOfSet 18 rfl) rfl rfl ?_
        refine b_iald (pc := 27) (dd dtX10_housesOfSet 19 rfl) (pS_1 hk) (vpn rfl (show h < 40 by omega) (by decide)) ?_
        refine b_ishl (pc := 28) (dd dtX10_housesOfSet 20 rfl) ?_
        refine b_ior (pc := 29) (dd dtX10_housesOfSet 21 rfl) ?_
        refine b_istore_n (pc := 30) (i := 2) (lv' := [(2, _), (3, _), (0, _), (1, _)]) (dd dtX10_housesOfSet 22 rfl) rfl (Nat.le_of_ble_eq_true rfl) rfl ?_
        refine b_iinc1 (pc := 31) (i := 3) (lv' := [(3, _), (2, _), (0, _), (1, _)]) (dd dtX10_housesOfSet 23 rfl) rfl (Nat.le_of_ble_eq_true rfl) rfl ?_
        refine b_goto (pc := 34) (tgt := 4) (dd dtX10_housesOfSet 24 rfl) (by decide) ?_
        rw [nI_1]
        refine ih (h + 1) _ _ hlt (by omega) rfl ?_
        · try simp only [nI_clamp (show h < 2 ^ 31 by omega)]
          simp only [sHs]
          first | rw [if_pos (show bitS set h = 0 from h17)] | rw [if_neg (show ¬ bitS set h = 0 from h17)]
set_option maxHeartbeats 4000000 in
theorem c_X10_housesOfSet {I : Wd} {k z : Nat} (hk : isS k) (hz : I k 1 = nI z) (hz2 : z ≤ 40) {set : Int32} : Cal SyC mX10_housesOfSet 0 [.ref k, .int set] I (some (.int (sHs (I (k + 1)) set z))) I := by
  refine Cal.of (by decide) (Nat.le_of_ble_eq_true rfl) ?_
  show Bd _ _ _ _ [(0, _), (1, _)] _ _ _ _
  refine b_ic0 (pc := 0) (dd dtX10_housesOfSet 0 rfl) ?_
  refine b_istore_n (pc := 1) (i := 2) (lv' := [(2, _), (0, _), (1, _)]) (dd dtX10_housesOfSet 1 rfl) rfl (Nat.le_of_ble_eq_true rfl) rfl ?_
  refine b_ic0 (pc := 2) (dd dtX10_housesOfSet 2 rfl) ?_
  refine b_istore_n (pc := 3) (i := 3) (lv' := [(3, _), (2, _), (0, _), (1, _)]) (dd dtX10_housesOfSet 3 rfl) rfl (Nat.le_of_ble_eq_true rfl) rfl ?_
  exact l_X10_housesOfSet hk hz hz2 (z + 1) 0 _ _ (Nat.zero_le _) (by omega) rfl rfl
def tX10_peopleToMove : List (Nat × Instr × Nat) := [(0, .iconst 0, 1), (1, .istore_n 2, 1), (2, .iconst 0, 1), (3, .istore_n 3, 1), (4, .iload_n 3, 1), (5, .aload_n 0, 1), (6, .getfield 10, 3), (9, .getfield 111, 3), (12, .if_icmp .ge 41, 3), (15, .iload_n 1, 1), (16, .iload_n 3, 1), (17, .ishr, 1), (18, .iconst 1, 1), (19, .iand, 1), (20, .ifCond .eq 27, 3), (23, .aload_n 0, 1), (24, .getfield 21, 3), (27, .getfield 137, 3), (30, .iload_n 3, 1), (31, .baload, 1), (32, .ifCond .ne 15, 3), (35, .iload_n 2, 1), (36, .aload_n 0, 1), (37, .getfield 10, 3), (40, .getfield 141, 3), (43, .iload_n 3, 1), (44, .iaload, 1), (45, .iadd, 1), (46, .istore_n 2, 1), (47, .iinc 3 1, 3), (50, .goto (-46), 3), (53, .iload_n 2, 1), (54, .ireturn, 1)]
theorem dtX10_peopleToMove : dec_ok mX10_peopleToMove.2.1 tX10_peopleToMove = true := by decide +kernel
set_option maxHeartbeats 4000000 in
theorem l_X10_peopleToMove {I : Wd} {N : Nat} (hN : I 1 0 = nI N) (hN2 : N ≤ 14) {hs : Int32} : ∀ (n h : Nat) (x3 : Int32) (x2 : Int32), h ≤ N → N < h + n → x3 = nI h → x2 = (sPm (I 15) (I 4) hs h) → Bd SyC mX10_peopleToMove 0 4 [(3, .int x3), (2, .int x2), (0, .ref 0), (1, .int hs)] [] I (some (.int (sPm (I 15) (I 4) hs N))) I := by
  intro n
  induction n with
  | zero => intro h x3 x2 h1 h2; omega
  | succ n ih =>
    intro h x3 x2 h1 h2 e3 e2
    subst e3; subst e2
    refine b_iload_n (pc := 4) (i := 3) (dd dtX10_peopleToMove 4 rfl) rfl rfl ?_
    refine b_aload_n (pc := 5) (i := 0) (dd dtX10_peopleToMove 5 rfl) rfl rfl ?_
    refine b_geta (pc := 6) (dd dtX10_peopleToMove 6 rfl) fwX10_10 pC_0 rC_0_0 ?_
    refine b_geti (pc := 9) (dd dtX10_peopleToMove 7 rfl) fwX10_111 pC_1 ?_
    refine b_icmpL_ge (pc := 12) (tgt := 53) (dd dtX10_peopleToMove 8 rfl) (by decide) (fun h12 => ?_) (fun h12 => ?_)
    · rw [hN] at h12
      have he : h = N := Nat.le_antisymm h1 (ge_n h12 (by omega))
      subst he
      refine b_iload_n (pc := 53) (i := 2) (dd dtX10_peopleToMove 31 rfl) rfl rfl ?_
      exact b_eq (b_iret (dd dtX10_peopleToMove 32 rfl) rfl) rfl rfl
    · rw [hN] at h12
      have hlt : h < N := lt_n h12 (by omega) (by omega)
      refine b_iload_n (pc := 15) (i := 1) (dd dtX10_peopleToMove 9 rfl) rfl rfl ?_
      refine b_iload_n (pc := 16) (i := 3) (dd dtX10_peopleToMove 10 rfl) rfl rfl ?_
      refine b_ishr (pc := 17) (dd dtX10_peopleToMove 11 rfl) ?_
      refine b_ic1 (pc := 18) (dd dtX10_peopleToMove 12 rfl) ?_
      refine b_iand (pc := 19) (dd dtX10_peopleToMove 13 rfl) ?_
      refine b_if_eq (pc := 20) (tgt := 47) (dd dtX10_peopleToMove 14 rfl) (by decide) (fun h20 => ?_) (fun h20 => ?_)
      · refine b_iinc1 (pc := 47) (i := 3) (lv' := [(3, _), (2, _), (0, _), (1, _)]) (dd dtX10_peopleToMove 29 rfl) rfl (Nat.le_of_ble_eq_true rfl) rfl ?_
        refine b_goto (pc := 50) (tgt := 4) (dd dtX10_peopleToMove 30 rfl) (by decide) ?_
        rw [nI_1]
        refine ih (h + 1) _ _ hlt (by omega) rfl ?_
        · try simp only [nI_clamp (show h < 2 ^ 31 by omega)] at h20
          try simp only [nI_clamp (show h < 2 ^ 31 by omega)] at h32
          try simp only [nI_clamp (show h < 2 ^ 31 by omega)]
          simp [sPm, bitS, -Int32.not_lt, -Int32.not_le, *]
      · refine b_aload_n (pc := 23) (i := 0) (dd dtX10_peopleToMove 15 rfl) rfl rfl ?_
        refine b_geta (pc := 24) (dd dtX10_peopleToMove 16 rfl) fwX10_21 pC_0 rC_0_1 ?_
        refine b_geta (pc := 27) (dd dtX10_peopleToMove 17 rfl) fwX10_137 pC_6 rC_6_13 ?_
        refine b_iload_n (pc := 30) (i := 3) (dd dtX10_peopleToMove 18 rfl) rfl rfl ?_
        refine b_zald (pc := 31) (dd dtX10_peopleToMove 19 rfl) pC_15 (vpn rfl (show h < 14 by omega) (by decide)) ?_
        refine b_if_ne (pc := 32) (tgt := 47) (dd dtX10_peopleToMove 20 rfl) (by decide) (fun h32 => ?_) (fun h32 => ?_)
        · refine b_iinc1 (pc := 47) (i := 3) (lv' := [(3, _), (2, _), (0, _), (1, _)]) (dd dtX10_peopleToMove 29 rfl) rfl (Nat.le_of_ble_eq_true rfl) rfl ?_
          refine b_goto (pc := 50) (tgt := 4) (dd dtX10_peopleToMove 30 rfl) (by decide) ?_
          rw [nI_1]
          refine ih (h + 1) _ _ hlt (by omega) rfl ?_
          · try simp only [nI_clamp (show h < 2 ^ 31 by omega)] at h20
            try simp only [nI_clamp (show h < 2 ^ 31 by omega)] at h32
            try simp only [nI_clamp (show h < 2 ^ 31 by omega)]
            simp [sPm, bitS, -Int32.not_lt, -Int32.not_le, *]
        · refine b_iload_n (pc := 35) (i := 2) (dd dtX10_peopleToMove 21 rfl) rfl rfl ?_
          refine b_aload_n (pc := 36) (i := 0) (dd dtX10_peopleToMove 22 rfl) rfl rfl ?_
          refine b_geta (pc := 37) (dd dtX10_peopleToMove 23 rfl) fwX10_10 pC_0 rC_0_0 ?_
          refine b_geta (pc := 40) (dd dtX10_peopleToMove 24 rfl) fwX10_141 pC_1 rC_1_4 ?_
          refine b_iload_n (pc := 43) (i := 3) (dd dtX10_peopleToMove 25 rfl) rfl rfl ?_
          refine b_iald (pc := 44) (dd dtX10_peopleToMove 26 rfl) pC_4 (vpn rfl (show h < 14 by omega) (by decide)) ?_
          refine b_iadd (pc := 45) (dd dtX10_peopleToMove 27 rfl) ?_
          refine b_istore_n (pc := 46) (i := 2) (lv' := [(2, _), (3, _), (0, _), (1, _)]) (dd dtX10_peopleToMove 28 rfl) rfl (Nat.le_of_ble_eq_true rfl) rfl ?_
          refine b_iinc1 (pc := 47) (i := 3) (lv' := [(3, _), (2, _), (0, _), (1, _)]) (dd dtX10_peopleToMove 29 rfl) rfl (Nat.le_of_ble_eq_true rfl) rfl ?_
          refine b_goto (pc := 50) (tgt := 4) (dd dtX10_peopleToMove 30 rfl) (by decide) ?_
          rw [nI_1]
          refine ih (h + 1) _ _ hlt (by omega) rfl ?_
          · try simp only [nI_clamp (show h < 2 ^ 31 by omega)] at h20
            try simp only [nI_clamp (show h < 2 ^ 31 by omega)] at h32
            try simp only [nI_clamp (show h < 2 ^ 31 by omega)]
            simp [sPm, bitS, -Int32.not_lt, -Int32.not_le, *]
set_option maxHeartbeats 4000000 in
theorem c_X10_peopleToMove {I : Wd} {N : Nat} (hN : I 1 0 = nI N) (hN2 : N ≤ 14) {hs : Int32} : Cal SyC mX10_peopleToMove 0 [.ref 0, .int hs] I (some (.int (sPm (I 15) (I 4) hs N))) I := by
  refine Cal.of (by decide) (Nat.le_of_ble_eq_true rfl) ?_
  show Bd _ _ _ _ [(0, _), (1, _)] _ _ _ _
  refine b_ic0 (pc := 0) (dd dtX10_peopleToMove 0 rfl) ?_
  refine b_istore_n (pc := 1) (i := 2) (lv' := [(2, _), (0, _), (1, _)]) (dd dtX10_peopleToMove 1 rfl) rfl (Nat.le_of_ble_eq_true rfl) rfl ?_
  refine b_ic0 (pc := 2) (dd dtX10_peopleToMove 2 rfl) ?_
  refine b_istore_n (pc := 3) (i := 3) (lv' := [(3, _), (2, _), (0, _), (1, _)]) (dd dtX10_peopleToMove 3 rfl) rfl (Nat.le_of_ble_eq_true rfl) rfl ?_
  exact l_X10_peopleToMove hN hN2 (N + 1) 0 _ _ (Nat.zero_le _) (by omega) rfl rfl
def tX10_sparedBy : List (Nat × Instr × Nat) := [(0, .iconst 0, 1), (1, .istore_n 2, 1), (2, .iconst 0, 1), (3, .istore_n 3, 1), (4, .iload_n 3, 1), (5, .aload_n 0, 1), (6, .getfield 10, 3), (9, .getfield 111, 3), (12, .if_icmp .ge 81, 3), (15, .aload_n 0, 1), (16, .getfield 21, 3), (19, .getfield 134, 3), (22, .iload_n 3, 1), (23, .iaload, 1), (24, .ifCond .ge 19, 3), (27, .aload_n 0, 1), (28, .getfield 25, 3), (31, .getfield 134, 3), (34, .iload_n 3, 1), (35, .iaload, 1), (36, .ifCond .lt 7, 3), (39, .iconst 1, 1), (40, .goto 4, 3), (43, .iconst 0, 1), (44, .istore 4, 2), (46, .iload_n 1, 1), (47, .iload_n 3, 1), (48, .ishr, 1), (49, .iconst 1, 1), (50, .iand, 1), (51, .ifCond .eq 36, 3), (54, .aload_n 0, 1), (55, .getfield 21, 3), (58, .getfield 137, 3), (61, .iload_n 3, 1), (62, .baload, 1), (63, .ifCond .ne 24, 3), (66, .iload 4, 2), (68, .ifCond .eq 19, 3), (71, .iload_n 2, 1), (72, .sipush 1000, 3), (75, .aload_n 0, 1), (76, .getfield 10, 3), (79, .getfield 141, 3), (82, .iload_n 3, 1), (83, .iaload, 1), (84, .imul, 1), (85, .iadd, 1), (86, .istore_n 2, 1), (87, .iinc 3 1, 3), (90, .goto (-86), 3), (93, .iload_n 2, 1), (94, .ireturn, 1)]
theorem dtX10_sparedBy : dec_ok mX10_sparedBy.2.1 tX10_sparedBy = true := by decide +kernel
set_option maxHeartbeats 4000000 in
theorem l_X10_sparedBy {I : Wd} {N : Nat} (hN : I 1 0 = nI N) (hN2 : N ≤ 14) {hs : Int32} : ∀ (n h : Nat) (x3 : Int32) (x2 : Int32), h ≤ N → N < h + n → x3 = nI h → x2 = (sSp (I 14) (I 26) (I 15) (I 4) hs h) → Bd SyC mX10_sparedBy 0 4 [(3, .int x3), (2, .int x2), (0, .ref 0), (1, .int hs)] [] I (some (.int (sSp (I 14) (I 26) (I 15) (I 4) hs N))) I := by
  intro n
  induction n with
  | zero => intro h x3 x2 h1 h2; omega
  | succ n ih =>
    intro h x3 x2 h1 h2 e3 e2
    subst e3; subst e2
    refine b_iload_n (pc := 4) (i := 3) (dd dtX10_sparedBy 4 rfl) rfl rfl ?_
    refine b_aload_n (pc := 5) (i := 0) (dd dtX10_sparedBy 5 rfl) rfl rfl ?_
    refine b_geta (pc := 6) (dd dtX10_sparedBy 6 rfl) fwX10_10 pC_0 rC_0_0 ?_
    refine b_geti (pc := 9) (dd dtX10_sparedBy 7 rfl) fwX10_111 pC_1 ?_
    refine b_icmpL_ge (pc := 12) (tgt := 93) (dd dtX10_sparedBy 8 rfl) (by decide) (fun h12 => ?_) (fun h12 => ?_)
    · rw [hN] at h12
      have he : h = N := Nat.le_antisymm h1 (ge_n h12 (by omega))
      subst he
      refine b_iload_n (pc := 93) (i := 2) (dd dtX10_sparedBy 51 rfl) rfl rfl ?_
      exact b_eq (b_iret (dd dtX10_sparedBy 52 rfl) rfl) rfl rfl
    · rw [hN] at h12
      have hlt : h < N := lt_n h12 (by omega) (by omega)
      refine b_aload_n (pc := 15) (i := 0) (dd dtX10_sparedBy 9 rfl) rfl rfl ?_
      refine b_geta (pc := 16) (dd dtX10_sparedBy 10 rfl) fwX10_21 pC_0 rC_0_1 ?_
      refine b_geta (pc := 19) (dd dtX10_sparedBy 11 rfl) fwX10_134 pC_6 rC_6_12 ?_
      refine b_iload_n (pc := 22) (i := 3) (dd dtX10_sparedBy 12 rfl) rfl rfl ?_
      refine b_iald (pc := 23) (dd dtX10_sparedBy 13 rfl) pC_14 (vpn rfl (show h < 14 by omega) (by decide)) ?_
      refine b_ifL_ge (pc := 24) (tgt := 43) (dd dtX10_sparedBy 14 rfl) (by decide) (fun h24 => ?_) (fun h24 => ?_)
      · refine b_ic0 (pc := 43) (dd dtX10_sparedBy 23 rfl) ?_
        refine b_istore (pc := 44) (i := 4) (lv' := [(4, _), (3, _), (2, _), (0, _), (1, _)]) (dd dtX10_sparedBy 24 rfl) (Nat.le_of_ble_eq_true rfl) rfl ?_
        refine b_iload_n (pc := 46) (i := 1) (dd dtX10_sparedBy 25 rfl) rfl rfl ?_
        refine b_iload_n (pc := 47) (i := 3) (dd dtX10_sparedBy 26 rfl) rfl rfl ?_
        refine b_ishr (pc := 48) (dd dtX10_sparedBy 27 rfl) ?_
        refine b_ic1 (pc := 49) (dd dtX10_sparedBy 28 rfl) ?_
        refine b_iand (pc := 50) (dd dtX10_sparedBy 29 rfl) ?_
        refine b_if_eq (pc := 51) (tgt := 87) (dd dtX10_sparedBy 30 rfl) (by decide) (fun h51 => ?_) (fun h51 => ?_)
        · refine b_iinc1 (pc := 87) (i := 3) (lv' := [(3, _), (4, _), (2, _), (0, _), (1, _)]) (dd dtX10_sparedBy 49 rfl) rfl (Nat.le_of_ble_eq_true rfl) rfl ?_
          refine b_goto (pc := 90) (tgt := 4) (dd dtX10_sparedBy 50 rfl) (by decide) ?_
          refine b_pick [0, 2, 3, 4] (lv' := [(3, _), (2, _), (0, _), (1, _)]) rfl ?_
          rw [nI_1]
          refine ih (h + 1) _ _ hlt (by omega) rfl ?_
          · try simp only [nI_clamp (show h < 2 ^ 31 by omega)] at h24
            try simp only [nI_clamp (show h < 2 ^ 31 by omega)] at h36
            try simp only [nI_clamp (show h < 2 ^ 31 by omega)] at h51
            try simp only [nI_clamp (show h < 2 ^ 31 by omega)] at h63
            try simp only [nI_clamp (show h < 2 ^ 31 by omega)]
            simp [sSp, bitS, -Int32.not_lt, -Int32.not_le, *]
        · refine b_aload_n (pc := 54) (i := 0) (dd dtX10_sparedBy 31 rfl) rfl rfl ?_
          refine b_geta (pc := 55) (dd dtX10_sparedBy 32 rfl) fwX10_21 pC_0 rC_0_1 ?_
          refine b_geta (pc := 58) (dd dtX10_sparedBy 33 rfl) fwX10_137 pC_6 rC_6_13 ?_
          refine b_iload_n (pc := 61) (i := 3) (dd dtX10_sparedBy 34 rfl) rfl rfl ?_
          refine b_zald (pc := 62) (dd dtX10_sparedBy 35 rfl) pC_15 (vpn rfl (show h < 14 by omega) (by decide)) ?_
          refine b_if_ne (pc := 63) (tgt := 87) (dd dtX10_sparedBy 36 rfl) (by decide) (fun h63 => ?_) (fun h63 => ?_)
          · refine b_iinc1 (pc := 87) (i := 3) (lv' := [(3, _), (4, _), (2, _), (0, _), (1, _)]) (dd dtX10_sparedBy 49 rfl) rfl (Nat.le_of_ble_eq_true rfl) rfl ?_
            refine b_goto (pc := 90) (tgt := 4) (dd dtX10_sparedBy 50 rfl) (by decide) ?_
            refine b_pick [0, 2, 3, 4] (lv' := [(3, _), (2, _), (0, _), (1, _)]) rfl ?_
            rw [nI_1]
            refine ih (h + 1) _ _ hlt (by omega) rfl ?_
            · try simp only [nI_clamp (show h < 2 ^ 31 by omega)] at h24
              try simp only [nI_clamp (show h < 2 ^ 31 by omega)] at h36
              try simp only [nI_clamp (show h < 2 ^ 31 by omega)] at h51
              try simp only [nI_clamp (show h < 2 ^ 31 by omega)] at h63
              try simp only [nI_clamp (show h < 2 ^ 31 by omega)]
              simp [sSp, bitS, -Int32.not_lt, -Int32.not_le, *]
          · refine b_iload (pc := 66) (i := 4) (dd dtX10_sparedBy 37 rfl) rfl ?_
            refine b_if_eq (pc := 68) (tgt := 87) (dd dtX10_sparedBy 38 rfl) (by decide) (fun h68 => ?_) (fun h68 => absurd h68 (by decide))
            refine b_iinc1 (pc := 87) (i := 3) (lv' := [(3, _), (4, _), (2, _), (0, _), (1, _)]) (dd dtX10_sparedBy 49 rfl) rfl (Nat.le_of_ble_eq_true rfl) rfl ?_
            refine b_goto (pc := 90) (tgt := 4) (dd dtX10_sparedBy 50 rfl) (by decide) ?_
            refine b_pick [0, 2, 3, 4] (lv' := [(3, _), (2, _), (0, _), (1, _)]) rfl ?_
            rw [nI_1]
            refine ih (h + 1) _ _ hlt (by omega) rfl ?_
            · try simp only [nI_clamp (show h < 2 ^ 31 by omega)] at h24
              try simp only [nI_clamp (show h < 2 ^ 31 by omega)] at h36
              try simp only [nI_clamp (show h < 2 ^ 31 by omega)] at h51
              try simp only [nI_clamp (show h < 2 ^ 31 by omega)] at h63
              try simp only [nI_clamp (show h < 2 ^ 31 by omega)]
              simp [sSp, bitS, -Int32.not_lt, -Int32.not_le, *]
      · refine b_aload_n (pc := 27) (i := 0) (dd dtX10_sparedBy 15 rfl) rfl rfl ?_
        refine b_geta (pc := 28) (dd dtX10_sparedBy 16 rfl) fwX10_25 pC_0 rC_0_2 ?_
        refine b_geta (pc := 31) (dd dtX10_sparedBy 17 rfl) fwX10_134 pC_18 rC_18_12 ?_
        refine b_iload_n (pc := 34) (i := 3) (dd dtX10_sparedBy 18 rfl) rfl rfl ?_
        refine b_iald (pc := 35) (dd dtX10_sparedBy 19 rfl) pC_26 (vpn rfl (show h < 14 by omega) (by decide)) ?_
        refine b_if_lt (pc := 36) (tgt := 43) (dd dtX10_sparedBy 20 rfl) (by decide) (fun h36 => ?_) (fun h36 => ?_)
        · refine b_ic0 (pc := 43) (dd dtX10_sparedBy 23 rfl) ?_
          refine b_istore (pc := 44) (i := 4) (lv' := [(4, _), (3, _), (2, _), (0, _), (1, _)]) (dd dtX10_sparedBy 24 rfl) (Nat.le_of_ble_eq_true rfl) rfl ?_
          refine b_iload_n (pc := 46) (i := 1) (dd dtX10_sparedBy 25 rfl) rfl rfl ?_
          refine b_iload_n (pc := 47) (i := 3) (dd dtX10_sparedBy 26 rfl) rfl rfl ?_
          refine b_ishr (pc := 48) (dd dtX10_sparedBy 27 rfl) ?_
          refine b_ic1 (pc := 49) (dd dtX10_sparedBy 28 rfl) ?_
          refine b_iand (pc := 50) (dd dtX10_sparedBy 29 rfl) ?_
          refine b_if_eq (pc := 51) (tgt := 87) (dd dtX10_sparedBy 30 rfl) (by decide) (fun h51 => ?_) (fun h51 => ?_)
          · refine b_iinc1 (pc := 87) (i := 3) (lv' := [(3, _), (4, _), (2, _), (0, _), (1, _)]) (dd dtX10_sparedBy 49 rfl) rfl (Nat.le_of_ble_eq_true rfl) rfl ?_
            refine b_goto (pc := 90) (tgt := 4) (dd dtX10_sparedBy 50 rfl) (by decide) ?_
            refine b_pick [0, 2, 3, 4] (lv' := [(3, _), (2, _), (0, _), (1, _)]) rfl ?_
            rw [nI_1]
            refine ih (h + 1) _ _ hlt (by omega) rfl ?_
            · try simp only [nI_clamp (show h < 2 ^ 31 by omega)] at h24
              try simp only [nI_clamp (show h < 2 ^ 31 by omega)] at h36
              try simp only [nI_clamp (show h < 2 ^ 31 by omega)] at h51
              try simp only [nI_clamp (show h < 2 ^ 31 by omega)] at h63
              try simp only [nI_clamp (show h < 2 ^ 31 by omega)]
              simp [sSp, bitS, -Int32.not_lt, -Int32.not_le, *]
          · refine b_aload_n (pc := 54) (i := 0) (dd dtX10_sparedBy 31 rfl) rfl rfl ?_
            refine b_geta (pc := 55) (dd dtX10_sparedBy 32 rfl) fwX10_21 pC_0 rC_0_1 ?_
            refine b_geta (pc := 58) (dd dtX10_sparedBy 33 rfl) fwX10_137 pC_6 rC_6_13 ?_
            refine b_iload_n (pc := 61) (i := 3) (dd dtX10_sparedBy 34 rfl) rfl rfl ?_
            refine b_zald (pc := 62) (dd dtX10_sparedBy 35 rfl) pC_15 (vpn rfl (show h < 14 by omega) (by decide)) ?_
            refine b_if_ne (pc := 63) (tgt := 87) (dd dtX10_sparedBy 36 rfl) (by decide) (fun h63 => ?_) (fun h63 => ?_)
            · refine b_iinc1 (pc := 87) (i := 3) (lv' := [(3, _), (4, _), (2, _), (0, _), (1, _)]) (dd dtX10_sparedBy 49 rfl) rfl (Nat.le_of_ble_eq_true rfl) rfl ?_
              refine b_goto (pc := 90) (tgt := 4) (dd dtX10_sparedBy 50 rfl) (by decide) ?_
              refine b_pick [0, 2, 3, 4] (lv' := [(3, _), (2, _), (0, _), (1, _)]) rfl ?_
              rw [nI_1]
              refine ih (h + 1) _ _ hlt (by omega) rfl ?_
              · try simp only [nI_clamp (show h < 2 ^ 31 by omega)] at h24
                try simp only [nI_clamp (show h < 2 ^ 31 by omega)] at h36
                try simp only [nI_clamp (show h < 2 ^ 31 by omega)] at h51
                try simp only [nI_clamp (show h < 2 ^ 31 by omega)] at h63
                try simp only [nI_clamp (show h < 2 ^ 31 by omega)]
                simp [sSp, bitS, -Int32.not_lt, -Int32.not_le, *]
            · refine b_iload (pc := 66) (i := 4) (dd dtX10_sparedBy 37 rfl) rfl ?_
              refine b_if_eq (pc := 68) (tgt := 87) (dd dtX10_sparedBy 38 rfl) (by decide) (fun h68 => ?_) (fun h68 => absurd h68 (by decide))
              refine b_iinc1 (pc := 87) (i := 3) (lv' := [(3, _), (4, _), (2, _), (0, _), (1, _)]) (dd dtX10_sparedBy 49 rfl) rfl (Nat.le_of_ble_eq_true rfl) rfl ?_
              refine b_goto (pc := 90) (tgt := 4) (dd dtX10_sparedBy 50 rfl) (by decide) ?_
              refine b_pick [0, 2, 3, 4] (lv' := [(3, _), (2, _), (0, _), (1, _)]) rfl ?_
              rw [nI_1]
              refine ih (h + 1) _ _ hlt (by omega) rfl ?_
              · try simp only [nI_clamp (show h < 2 ^ 31 by omega)] at h24
                try simp only [nI_clamp (show h < 2 ^ 31 by omega)] at h36
                try simp only [nI_clamp (show h < 2 ^ 31 by omega)] at h51
                try simp only [nI_clamp (show h < 2 ^ 31 by omega)] at h63
                try simp only [nI_clamp (show h < 2 ^ 31 by omega)]
                simp [sSp, bitS, -Int32.not_lt, -Int32.not_le, *]
        · refine b_ic1 (pc := 39) (dd dtX10_sparedBy 21 rfl) ?_
          refine b_goto (pc := 40) (tgt := 44) (dd dtX10_sparedBy 22 rfl) (by decide) ?_
          refine b_istore (pc := 44) (i := 4) (lv' := [(4, _), (3, _), (2, _), (0, _), (1, _)]) (dd dtX10_sparedBy 24 rfl) (Nat.le_of_ble_eq_true rfl) rfl ?_
          refine b_iload_n (pc := 46) (i := 1) (dd dtX10_sparedBy 25 rfl) rfl rfl ?_
          refine b_iload_n (pc := 47) (i := 3) (dd dtX10_sparedBy 26 rfl) rfl rfl ?_
          refine b_ishr (pc := 48) (dd dtX10_sparedBy 27 rfl) ?_
          refine b_ic1 (pc := 49) (dd dtX10_sparedBy 28 rfl) ?_
          refine b_iand (pc := 50) (dd dtX10_sparedBy 29 rfl) ?_
          refine b_if_eq (pc := 51) (tgt := 87) (dd dtX10_sparedBy 30 rfl) (by decide) (fun h51 => ?_) (fun h51 => ?_)
          · refine b_iinc1 (pc := 87) (i := 3) (lv' := [(3, _), (4, _), (2, _), (0, _), (1, _)]) (dd dtX10_sparedBy 49 rfl) rfl (Nat.le_of_ble_eq_true rfl) rfl ?_
            refine b_goto (pc := 90) (tgt := 4) (dd dtX10_sparedBy 50 rfl) (by decide) ?_
            refine b_pick [0, 2, 3, 4] (lv' := [(3, _), (2, _), (0, _), (1, _)]) rfl ?_
            rw [nI_1]
            refine ih (h + 1) _ _ hlt (by omega) rfl ?_
            · try simp only [nI_clamp (show h < 2 ^ 31 by omega)] at h24
              try simp only [nI_clamp (show h < 2 ^ 31 by omega)] at h36
              try simp only [nI_clamp (show h < 2 ^ 31 by omega)] at h51
              try simp only [nI_clamp (show h < 2 ^ 31 by omega)] at h63
              try simp only [nI_clamp (show h < 2 ^ 31 by omega)]
              simp [sSp, bitS, -Int32.not_lt, -Int32.not_le, *]
          · refine b_aload_n (pc := 54) (i := 0) (dd dtX10_sparedBy 31 rfl) rfl rfl ?_
            refine b_geta (pc := 55) (dd dtX10_sparedBy 32 rfl) fwX10_21 pC_0 rC_0_1 ?_
            refine b_geta (pc := 58) (dd dtX10_sparedBy 33 rfl) fwX10_137 pC_6 rC_6_13 ?_
            refine b_iload_n (pc := 61) (i := 3) (dd dtX10_sparedBy 34 rfl) rfl rfl ?_
            refine b_zald (pc := 62) (dd dtX10_sparedBy 35 rfl) pC_15 (vpn rfl (show h < 14 by omega) (by decide)) ?_
            refine b_if_ne (pc := 63) (tgt := 87) (dd dtX10_sparedBy 36 rfl) (by decide) (fun h63 => ?_) (fun h63 => ?_)
            · refine b_iinc1 (pc := 87) (i := 3) (lv' := [(3, _), (4, _), (2, _), (0, _), (1, _)]) (dd dtX10_sparedBy 49 rfl) rfl (Nat.le_of_ble_eq_true rfl) rfl ?_
              refine b_goto (pc := 90) (tgt := 4) (dd dtX10_sparedBy 50 rfl) (by decide) ?_
              refine b_pick [0, 2, 3, 4] (lv' := [(3, _), (2, _), (0, _), (1, _)]) rfl ?_
              rw [nI_1]
              refine ih (h + 1) _ _ hlt (by omega) rfl ?_
              · try simp only [nI_clamp (show h < 2 ^ 31 by omega)] at h24
                try simp only [nI_clamp (show h < 2 ^ 31 by omega)] at h36
                try simp only [nI_clamp (show h < 2 ^ 31 by omega)] at h51
                try simp only [nI_clamp (show h < 2 ^ 31 by omega)] at h63
                try simp only [nI_clamp (show h < 2 ^ 31 by omega)]
                simp [sSp, bitS, -Int32.not_lt, -Int32.not_le, *]
            · refine b_iload (pc := 66) (i := 4) (dd dtX10_sparedBy 37 rfl) rfl ?_
              refine b_if_eq (pc := 68) (tgt := 87) (dd dtX10_sparedBy 38 rfl) (by decide) (fun h68 => absurd h68 (by decide)) (fun h68 => ?_)
              refine b_iload_n (pc := 71) (i := 2) (dd dtX10_sparedBy 39 rfl) rfl rfl ?_
              refine b_sipush (pc := 72) (v := 1000) (dd dtX10_sparedBy 40 rfl) (by decide) ?_
              refine b_aload_n (pc := 75) (i := 0) (dd dtX10_sparedBy 41 rfl) rfl rfl ?_
              refine b_geta (pc := 76) (dd dtX10_sparedBy 42 rfl) fwX10_10 pC_0 rC_0_0 ?_
              refine b_geta (pc := 79) (dd dtX10_sparedBy 43 rfl) fwX10_141 pC_1 rC_1_4 ?_
              refine b_iload_n (pc := 82) (i := 3) (dd dtX10_sparedBy 44 rfl) rfl rfl ?_
              refine b_iald (pc := 83) (dd dtX10_sparedBy 45 rfl) pC_4 (vpn rfl (show h < 14 by omega) (by decide)) ?_
              refine b_imul (pc := 84) (dd dtX10_sparedBy 46 rfl) ?_
              refine b_iadd (pc := 85) (dd dtX10_sparedBy 47 rfl) ?_
              refine b_istore_n (pc := 86) (i := 2) (lv' := [(2, _), (4, _), (3, _), (0, _), (1, _)]) (dd dtX10_sparedBy 48 rfl) rfl (Nat.le_of_ble_eq_true rfl) rfl ?_
              refine b_iinc1 (pc := 87) (i := 3) (lv' := [(3, _), (2, _), (4, _), (0, _), (1, _)]) (dd dtX10_sparedBy 49 rfl) rfl (Nat.le_of_ble_eq_true rfl) rfl ?_
              refine b_goto (pc := 90) (tgt := 4) (dd dtX10_sparedBy 50 rfl) (by decide) ?_
              refine b_pick [0, 1, 3, 4] (lv' := [(3, _), (2, _), (0, _), (1, _)]) rfl ?_
              rw [nI_1]
              refine ih (h + 1) _ _ hlt (by omega) rfl ?_
              · try simp only [nI_clamp (show h < 2 ^ 31 by omega)] at h24
                try simp only [nI_clamp (show h < 2 ^ 31 by omega)] at h36
                try simp only [nI_clamp (show h < 2 ^ 31 by omega)] at h51
                try simp only [nI_clamp (show h < 2 ^ 31 by omega)] at h63
                try simp only [nI_clamp (show h < 2 ^ 31 by omega)]
                simp [sSp, bitS, -Int32.not_lt, -Int32.not_le, *]
set_option maxHeartbeats 4000000 in
theorem c_X10_sparedBy {I : Wd} {N : Nat} (hN : I 1 0 = nI N) (hN2 : N ≤ 14) {hs : Int32} : Cal SyC mX10_sparedBy 0 [.ref 0, .int hs] I (some (.int (sSp (I 14) (I 26) (I 15) (I 4) hs N))) I := by
  refine Cal.of (by decide) (Nat.le_of_ble_eq_true rfl) ?_
  show Bd _ _ _ _ [(0, _), (1, _)] _ _ _ _
  refine b_ic0 (pc := 0) (dd dtX10_sparedBy 0 rfl) ?_
  refine b_istore_n (pc := 1) (i := 2) (lv' := [(2, _), (0, _), (1, _)]) (dd dtX10_sparedBy 1 rfl) rfl (Nat.le_of_ble_eq_true rfl) rfl ?_
  refine b_ic0 (pc := 2) (dd dtX10_sparedBy 2 rfl) ?_
  refine b_istore_n (pc := 3) (i := 3) (lv' := [(3, _), (2, _), (0, _), (1, _)]) (dd dtX10_sparedBy 3 rfl) rfl (Nat.le_of_ble_eq_true rfl) rfl ?_
  exact l_X10_sparedBy hN hN2 (N + 1) 0 _ _ (Nat.zero_le _) (by omega) rfl rfl
def plSp (I : Wd) (J : Wd) (k z N : Nat) (room : Int32) (set : Int32) : Int32 := if room < sPm (I 15) (I 4) (sHs (I (k + 1)) set z) N then 0 else sSp (I 14) (J 26) (I 15) (I 4) (sHs (I (k + 1)) set z) N
/-- the most that the sets ahead of h spare, and which set it is -/
def plS (I : Wd) (J : Wd) (k z N : Nat) (room : Int32) : Nat → Int32 × Int32
  | 0 => (0, 0)
  | h + 1 => if h = 0 then (0, 0) else if (plS I J k z N room h).1 < plSp I J k z N room (nI h) then (plSp I J k z N room (nI h), nI h) else plS I J k z N room h
theorem shl_n : ∀ z, z ≤ 8 → (1 : Int32) <<< (nI z &&& 31) = nI (2 ^ z) := by decide +kernel
theorem pow_n : ∀ z, z ≤ 8 → 1 ≤ 2 ^ z ∧ 2 ^ z ≤ 256 := by decide +kernel
abbrev okPlan (ms : Prop) (hh : Prop) (month s room n : Int32) : Prop := (inR s 0 3 ∧ ¬ ms) ∧ (hh ∧ inR room 0 999) ∧ inR n 1 60 ∧ ¬ 1200 - month < n
def tX10_plan : List (Nat × Instr × Nat) := [(0, .iload_n 1, 1), (1, .invokestatic 208, 3), (4, .ifCond .eq 15, 3), (7, .aload_n 0, 1), (8, .getfield 70, 3), (11, .iload_n 1, 1), (12, .aaload, 1), (13, .invokevirtual 211, 3), (16, .ifCond .eq 7, 3), (19, .ldc2_w 256, 3), (22, .lreturn, 1), (23, .aload_n 0, 1), (24, .getfield 70, 3), (27, .iload_n 1, 1), (28, .aaload, 1), (29, .astore 4, 2), (31, .aload_n 0, 1), (32, .aload 4, 2), (34, .invokevirtual 334, 3), (37, .ifCond .eq 14, 3), (40, .iload_n 2, 1), (41, .iconst 0, 1), (42, .sipush 999, 3), (45, .invokestatic 97, 3), (48, .ifCond .ne 7, 3), (51, .ldc2_w 256, 3), (54, .lreturn, 1), (55, .iload_n 3, 1), (56, .iconst 1, 1), (57, .bipush 60, 2), (59, .invokestatic 97, 3), (62, .ifCond .eq 11, 3), (65, .aload_n 0, 1), (66, .iload_n 3, 1), (67, .invokevirtual 144, 3), (70, .ifCond .ne 7, 3), (73, .ldc2_w 256, 3), (76, .lreturn, 1), (77, .aload_n 0, 1), (78, .getfield 25, 3), (81, .aload_n 0, 1), (82, .getfield 21, 3), (85, .invokevirtual 324, 3), (88, .aload_n 0, 1), (89, .getfield 25, 3), (92, .iload_n 3, 1), (93, .invokevirtual 147, 3), (96, .iconst 0, 1), (97, .istore 5, 2), (99, .aload_n 0, 1), (100, .iconst 0, 1), (101, .putfield 82, 3), (104, .iconst 1, 1), (105, .istore 6, 2), (107, .iload 6, 2), (109, .iconst 1, 1), (110, .aload 4, 2), (112, .getfield 214, 3), (115, .ishl, 1), (116, .if_icmp .ge 57, 3), (119, .aload 4, 2), (121, .iload 6, 2), (123, .invokestatic 337, 3), (126, .istore 7, 2), (128, .aload_n 0, 1), (129, .iload 7, 2), (131, .invokevirtual 340, 3), (134, .iload_n 2, 1), (135, .if_icmp .le 7, 3), (138, .iconst 0, 1), (139, .goto 9, 3), (142, .aload_n 0, 1), (143, .iload 7, 2), (145, .invokevirtual 343, 3), (148, .istore 8, 2), (150, .iload 8, 2), (152, .iload 5, 2), (154, .if_icmp .le 13, 3), (157, .iload 8, 2), (159, .istore 5, 2), (161, .aload_n 0, 1), (162, .iload 6, 2), (164, .putfield 82, 3), (167, .iinc 6 1, 3), (170, .goto (-63), 3), (173, .aload_n 0, 1), (174, .getfield 25, 3), (177, .getfield 331, 3), (180, .aload_n 0, 1), (181, .getfield 21, 3), (184, .getfield 331, 3), (187, .isub, 1), (188, .iload 5, 2), (190, .isub, 1), (191, .i2l, 1), (192, .lreturn, 1)]
theorem dtX10_plan : dec_ok mX10_plan.2.1 tX10_plan = true := by decide +kernel
set_option maxHeartbeats 4000000 in
theorem l_X10_plan {I J : Wd} {k z N : Nat} (hk : isS k) (hzJ : J k 1 = nI z) (hz8 : z ≤ 8) (hNJ : J 1 0 = nI N) (hN2 : N ≤ 14) (hJ : ∀ a, a ≠ 0 → a < 18 ∨ 29 < a → J a = I a) {room s n9 : Int32} : ∀ (n h : Nat) (x6 : Int32) (x5 : Int32) (I2 : Wd), h ≤ 2 ^ z → 2 ^ z < h + n → x6 = nI h → x5 = (plS I J k z N room h).1 → (1 ≤ h) → I2 = (ist J 0 13 (plS I J k z N room h).2) → Bd SyC mX10_plan 5 107 [(6, .int x6), (5, .int x5), (4, .ref k), (0, .ref 0), (1, .int s), (2, .int room), (3, .int n9)] [] I2 (some (.long (J 18 4 - J 6 4 - (plS I J k z N room (2 ^ z)).1).toInt64)) (ist J 0 13 (plS I J k z N room (2 ^ z)).2) := by
  intro n
  induction n with
  | zero => intro h x6 x5 I2 h1 h2; omega
  | succ n ih =>
    intro h x6 x5 I2 h1 h2 e6 e5 hI eW
    subst e6; subst e5; subst eW
    have hpw := pow_n z hz8
    have hz1 : (ist J 0 13 (plS I J k z N room h).2) k 1 = nI z := by rw [ist_ne (by unfold isS at hk; omega)]; exact hzJ
    have hN1 : (ist J 0 13 (plS I J k z N room h).2) 1 0 = nI N := by rw [ist_ne (by decide)]; exact hNJ
    have hkk : k + 1 ≠ 0 ∧ 29 < k + 1 := by unfold isS at hk; omega
    refine b_iload (pc := 107) (i := 6) (dd dtX10_plan 54 rfl) rfl ?_
    refine b_ic1 (pc := 109) (dd dtX10_plan 55 rfl) ?_
    refine b_aload (pc := 110) (i := 4) (dd dtX10_plan 56 rfl) rfl ?_
    refine b_geti (pc := 112) (dd dtX10_plan 57 rfl) fwX10_214 (pS_0 hk) ?_
    refine b_ishl (pc := 115) (dd dtX10_plan 58 rfl) ?_
    refine b_icmpL_ge (pc := 116) (tgt := 173) (dd dtX10_plan 59 rfl) (by decide) (fun h116 => ?_) (fun h116 => ?_)
    · rw [hz1, shl_n z hz8] at h116
      have he : h = 2 ^ z := Nat.le_antisymm h1 (ge_n h116 (by omega))
      subst he
      refine b_aload_n (pc := 173) (i := 0) (dd dtX10_plan 85 rfl) rfl rfl ?_
      refine b_geta (pc := 174) (dd dtX10_plan 86 rfl) fwX10_25 pC_0 rC_0_2 ?_
      refine b_geti (pc := 177) (dd dtX10_plan 87 rfl) fwX10_331 pC_18 ?_
      refine b_aload_n (pc := 180) (i := 0) (dd dtX10_plan 88 rfl) rfl rfl ?_
      refine b_geta (pc := 181) (dd dtX10_plan 89 rfl) fwX10_21 pC_0 rC_0_1 ?_
      refine b_geti (pc := 184) (dd dtX10_plan 90 rfl) fwX10_331 pC_6 ?_
      refine b_isub (pc := 187) (dd dtX10_plan 91 rfl) ?_
      refine b_iload (pc := 188) (i := 5) (dd dtX10_plan 92 rfl) rfl ?_
      refine b_isub (pc := 190) (dd dtX10_plan 93 rfl) ?_
      refine b_i2l (pc := 191) (dd dtX10_plan 94 rfl) ?_
      refine b_eq (b_lret (dd dtX10_plan 95 rfl) rfl) ?_ ?_
      · rfl
      · rfl
    · rw [hz1, shl_n z hz8] at h116
      have hlt : h < 2 ^ z := lt_n h116 (by omega) (by omega)
      refine b_aload (pc := 119) (i := 4) (dd dtX10_plan 60 rfl) rfl ?_
      refine b_iload (pc := 121) (i := 6) (dd dtX10_plan 61 rfl) rfl ?_
      refine b_invS (pc := 123) (dd dtX10_plan 62 rfl) mlX10_337 mvX10_housesOfSet msX10_housesOfSet (c_X10_housesOfSet hk hz1 (Nat.le_trans hz8 (by decide))) rfl rfl (by decide) (Nat.le_of_ble_eq_true rfl) ?_
      refine b_istore (pc := 126) (i := 7) (lv' := [(7, _), (6, _), (5, _), (4, _), (0, _), (1, _), (2, _), (3, _)]) (dd dtX10_plan 63 rfl) (Nat.le_of_ble_eq_true rfl) rfl ?_
      refine b_aload_n (pc := 128) (i := 0) (dd dtX10_plan 64 rfl) rfl rfl ?_
      refine b_iload (pc := 129) (i := 7) (dd dtX10_plan 65 rfl) rfl ?_
      refine b_invV (pc := 131) (dd dtX10_plan 66 rfl) mlX10_340 mvX10_peopleToMove miX10_peopleToMove (c_X10_peopleToMove hN1 hN2) oC_0 rfl rfl (by decide) (Nat.le_of_ble_eq_true rfl) ?_
      refine b_iload_n (pc := 134) (i := 2) (dd dtX10_plan 67 rfl) rfl rfl ?_
      refine b_icmpL_le (pc := 135) (tgt := 142) (dd dtX10_plan 68 rfl) (by decide) (fun h135 => ?_) (fun h135 => ?_)
      · simp (disch := omega) only [ist_ne, hJ _ hkk.1 (Or.inr hkk.2), hJ 15 (by decide) (Or.inl (by decide)), hJ 4 (by decide) (Or.inl (by decide)), hJ 14 (by decide) (Or.inl (by decide))] at h135
        refine b_aload_n (pc := 142) (i := 0) (dd dtX10_plan 71 rfl) rfl rfl ?_
        refine b_iload (pc := 143) (i := 7) (dd dtX10_plan 72 rfl) rfl ?_
        refine b_invV (pc := 145) (dd dtX10_plan 73 rfl) mlX10_343 mvX10_sparedBy miX10_sparedBy (c_X10_sparedBy hN1 hN2) oC_0 rfl rfl (by decide) (Nat.le_of_ble_eq_true rfl) ?_
        refine b_istore (pc := 148) (i := 8) (lv' := [(8, _), (7, _), (6, _), (5, _), (4, _), (0, _), (1, _), (2, _), (3, _)]) (dd dtX10_plan 74 rfl) (Nat.le_of_ble_eq_true rfl) rfl ?_
        refine b_iload (pc := 150) (i := 8) (dd dtX10_plan 75 rfl) rfl ?_
        refine b_iload (pc := 152) (i := 5) (dd dtX10_plan 76 rfl) rfl ?_
        refine b_icmpL_le (pc := 154) (tgt := 167) (dd dtX10_plan 77 rfl) (by decide) (fun h154 => ?_) (fun h154 => ?_)
        · try simp (disch := omega) only [ist_ne, hJ _ hkk.1 (Or.inr hkk.2), hJ 15 (by decide) (Or.inl (by decide)), hJ 4 (by decide) (Or.inl (by decide)), hJ 14 (by decide) (Or.inl (by decide))] at h154
          refine b_iinc1 (pc := 167) (i := 6) (lv' := [(6, _), (8, _), (7, _), (5, _), (4, _), (0, _), (1, _), (2, _), (3, _)]) (dd dtX10_plan 83 rfl) rfl (Nat.le_of_ble_eq_true rfl) rfl ?_
          refine b_goto (pc := 170) (tgt := 107) (dd dtX10_plan 84 rfl) (by decide) ?_
          refine b_pick [0, 3, 4, 5, 6, 7, 8] (lv' := [(6, _), (5, _), (4, _), (0, _), (1, _), (2, _), (3, _)]) rfl ?_
          try simp (disch := omega) only [ist_ne, hJ _ hkk.1 (Or.inr hkk.2), hJ 15 (by decide) (Or.inl (by decide)), hJ 4 (by decide) (Or.inl (by decide)), hJ 14 (by decide) (Or.inl (by decide))]
          rw [nI_1]
          refine ih (h + 1) _ _ _ hlt (by omega) rfl ?_ ?_ ?_
          · rw [plS, if_neg (show ¬ h = 0 by omega)]
            unfold plSp
            first | rw [if_pos h135] | rw [if_neg h135]
            first | rw [if_pos h154] | rw [if_neg h154]
          · omega
          · rw [plS, if_neg (show ¬ h = 0 by omega)]
            unfold plSp
            first | rw [if_pos h135] | rw [if_neg h135]
            first | (rw [if_pos h154, ist_ist]) | (rw [if_neg h154])
        · try simp (disch := omega) only [ist_ne, hJ _ hkk.1 (Or.inr hkk.2), hJ 15 (by decide) (Or.inl (by decide)), hJ 4 (by decide) (Or.inl (by decide)), hJ 14 (by decide) (Or.inl (by decide))] at h154
          refine b_iload (pc := 157) (i := 8) (dd dtX10_plan 78 rfl) rfl ?_
          refine b_istore (pc := 159) (i := 5) (lv' := [(5, _), (8, _), (7, _), (6, _), (4, _), (0, _), (1, _), (2, _), (3, _)]) (dd dtX10_plan 79 rfl) (Nat.le_of_ble_eq_true rfl) rfl ?_
          refine b_aload_n (pc := 161) (i := 0) (dd dtX10_plan 80 rfl) rfl rfl ?_
          refine b_iload (pc := 162) (i := 6) (dd dtX10_plan 81 rfl) rfl ?_
          refine b_puti (pc := 164) (dd dtX10_plan 82 rfl) fwX10_82 pC_0 ?_
          try simp (disch := omega) only [ist_ne, hJ _ hkk.1 (Or.inr hkk.2), hJ 15 (by decide) (Or.inl (by decide)), hJ 4 (by decide) (Or.inl (by decide)), hJ 14 (by decide) (Or.inl (by decide))] at h154
          refine b_iinc1 (pc := 167) (i := 6) (lv' := [(6, _), (5, _), (8, _), (7, _), (4, _), (0, _), (1, _), (2, _), (3, _)]) (dd dtX10_plan 83 rfl) rfl (Nat.le_of_ble_eq_true rfl) rfl ?_
          refine b_goto (pc := 170) (tgt := 107) (dd dtX10_plan 84 rfl) (by decide) ?_
          refine b_pick [0, 1, 4, 5, 6, 7, 8] (lv' := [(6, _), (5, _), (4, _), (0, _), (1, _), (2, _), (3, _)]) rfl ?_
          try simp (disch := omega) only [ist_ne, hJ _ hkk.1 (Or.inr hkk.2), hJ 15 (by decide) (Or.inl (by decide)), hJ 4 (by decide) (Or.inl (by decide)), hJ 14 (by decide) (Or.inl (by decide))]
          rw [nI_1]
          refine ih (h + 1) _ _ _ hlt (by omega) rfl ?_ ?_ ?_
          · rw [plS, if_neg (show ¬ h = 0 by omega)]
            unfold plSp
            first | rw [if_pos h135] | rw [if_neg h135]
            first | rw [if_pos h154] | rw [if_neg h154]
          · omega
          · rw [plS, if_neg (show ¬ h = 0 by omega)]
            unfold plSp
            first | rw [if_pos h135] | rw [if_neg h135]
            first | (rw [if_pos h154, ist_ist]) | (rw [if_neg h154])
      · simp (disch := omega) only [ist_ne, hJ _ hkk.1 (Or.inr hkk.2), hJ 15 (by decide) (Or.inl (by decide)), hJ 4 (by decide) (Or.inl (by decide)), hJ 14 (by decide) (Or.inl (by decide))] at h135
        refine b_ic0 (pc := 138) (dd dtX10_plan 69 rfl) ?_
        refine b_goto (pc := 139) (tgt := 148) (dd dtX10_plan 70 rfl) (by decide) ?_
        refine b_istore (pc := 148) (i := 8) (lv' := [(8, _), (7, _), (6, _), (5, _), (4, _), (0, _), (1, _), (2, _), (3, _)]) (dd dtX10_plan 74 rfl) (Nat.le_of_ble_eq_true rfl) rfl ?_
        refine b_iload (pc := 150) (i := 8) (dd dtX10_plan 75 rfl) rfl ?_
        refine b_iload (pc := 152) (i := 5) (dd dtX10_plan 76 rfl) rfl ?_
        refine b_icmpL_le (pc := 154) (tgt := 167) (dd dtX10_plan 77 rfl) (by decide) (fun h154 => ?_) (fun h154 => ?_)
        · try simp (disch := omega) only [ist_ne, hJ _ hkk.1 (Or.inr hkk.2), hJ 15 (by decide) (Or.inl (by decide)), hJ 4 (by decide) (Or.inl (by decide)), hJ 14 (by decide) (Or.inl (by decide))] at h154
          refine b_iinc1 (pc := 167) (i := 6) (lv' := [(6, _), (8, _), (7, _), (5, _), (4, _), (0, _), (1, _), (2, _), (3, _)]) (dd dtX10_plan 83 rfl) rfl (Nat.le_of_ble_eq_true rfl) rfl ?_
          refine b_goto (pc := 170) (tgt := 107) (dd dtX10_plan 84 rfl) (by decide) ?_
          refine b_pick [0, 3, 4, 5, 6, 7, 8] (lv' := [(6, _), (5, _), (4, _), (0, _), (1, _), (2, _), (3, _)]) rfl ?_
          try simp (disch := omega) only [ist_ne, hJ _ hkk.1 (Or.inr hkk.2), hJ 15 (by decide) (Or.inl (by decide)), hJ 4 (by decide) (Or.inl (by decide)), hJ 14 (by decide) (Or.inl (by decide))]
          rw [nI_1]
          refine ih (h + 1) _ _ _ hlt (by omega) rfl ?_ ?_ ?_
          · rw [plS, if_neg (show ¬ h = 0 by omega)]
            unfold plSp
            first | rw [if_pos h135] | rw [if_neg h135]
            first | rw [if_pos h154] | rw [if_neg h154]
          · omega
          · rw [plS, if_neg (show ¬ h = 0 by omega)]
            unfold plSp
            first | rw [if_pos h135] | rw [if_neg h135]
            first | (rw [if_pos h154, ist_ist]) | (rw [if_neg h154])
        · try simp (disch := omega) only [ist_ne, hJ _ hkk.1 (Or.inr hkk.2), hJ 15 (by decide) (Or.inl (by decide)), hJ 4 (by decide) (Or.inl (by decide)), hJ 14 (by decide) (Or.inl (by decide))] at h154
          refine b_iload (pc := 157) (i := 8) (dd dtX10_plan 78 rfl) rfl ?_
          refine b_istore (pc := 159) (i := 5) (lv' := [(5, _), (8, _), (7, _), (6, _), (4, _), (0, _), (1, _), (2, _), (3, _)]) (dd dtX10_plan 79 rfl) (Nat.le_of_ble_eq_true rfl) rfl ?_
          refine b_aload_n (pc := 161) (i := 0) (dd dtX10_plan 80 rfl) rfl rfl ?_
          refine b_iload (pc := 162) (i := 6) (dd dtX10_plan 81 rfl) rfl ?_
          refine b_puti (pc := 164) (dd dtX10_plan 82 rfl) fwX10_82 pC_0 ?_
          try simp (disch := omega) only [ist_ne, hJ _ hkk.1 (Or.inr hkk.2), hJ 15 (by decide) (Or.inl (by decide)), hJ 4 (by decide) (Or.inl (by decide)), hJ 14 (by decide) (Or.inl (by decide))] at h154
          refine b_iinc1 (pc := 167) (i := 6) (lv' := [(6, _), (5, _), (8, _), (7, _), (4, _), (0, _), (1, _), (2, _), (3, _)]) (dd dtX10_plan 83 rfl) rfl (Nat.le_of_ble_eq_true rfl) rfl ?_
          refine b_goto (pc := 170) (tgt := 107) (dd dtX10_plan 84 rfl) (by decide) ?_
          refine b_pick [0, 1, 4, 5, 6, 7, 8] (lv' := [(6, _), (5, _), (4, _), (0, _), (1, _), (2, _), (3, _)]) rfl ?_
          try simp (disch := omega) only [ist_ne, hJ _ hkk.1 (Or.inr hkk.2), hJ 15 (by decide) (Or.inl (by decide)), hJ 4 (by decide) (Or.inl (by decide)), hJ 14 (by decide) (Or.inl (by decide))]
          rw [nI_1]
          refine ih (h + 1) _ _ _ hlt (by omega) rfl ?_ ?_ ?_
          · rw [plS, if_neg (show ¬ h = 0 by omega)]
            unfold plSp
            first | rw [if_pos h135] | rw [if_neg h135]
            first | rw [if_pos h154] | rw [if_neg h154]
          · omega
          · rw [plS, if_neg (show ¬ h = 0 by omega)]
            unfold plSp
            first | rw [if_pos h135] | rw [if_neg h135]
            first | (rw [if_pos h154, ist_ist]) | (rw [if_neg h154])
