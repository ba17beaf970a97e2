/-! small words that the contracts speak with -/
abbrev inR (v lo hi : Int32) : Prop := ¬ v < lo ∧ ¬ hi < v
theorem inR_dec (v lo hi : Int32) : inR v lo hi ↔ ¬ v < lo ∧ ¬ hi < v := Iff.rfl
theorem vpn {x : Int32} {h n : Nat} (e : x = nI h) (hn : h < n) (hn2 : n < 2 ^ 31) : vp_in x n := by rw [e]; exact vp_in_nI hn hn2
theorem vp_lt {x : Int32} {n : Nat} (h : vp_in x n) : x.toNatClampNeg < n := Nat.not_le.mp fun q => h (Or.inr q)
theorem vpc {x : Int32} {n : Nat} {m : Int32} (h : inR x 0 m) (hm : m.toInt < n) : vp_in x n := by
  obtain ⟨h1, h2⟩ := h
  rw [vp_in_iff]
  rw [Int32.lt_iff_toInt_lt] at h1 h2
  have e0 : (0 : Int32).toInt = 0 := rfl
  omega
/-- a number in its range is a natural number -/
theorem nI_rng {x : Int32} {m : Int32} (h : inR x 0 m) : ∃ j : Nat, x = nI j ∧ (j : Int) ≤ m.toInt ∧ j < 2 ^ 31 := by
  obtain ⟨h1, h2⟩ := h
  obtain ⟨j, hj, e⟩ := nI_of h1
  refine ⟨j, e, ?_, hj⟩
  rw [Int32.lt_iff_toInt_lt, e, nI_toInt hj] at h2
  omega
theorem b_pick {S : Sy} {M : Mi} {d pc : Nat} {lv lv' : List (Nat × Value)} {st : List Value} {I I' : Wd} {r : Option Value} (ks : List Nat) (h : ks.filterMap (fun k => lv[k]?) = lv') (kk : Bd S M d pc lv' st I r I') : Bd S M d pc lv st I r I' := by
  intro p l e s m args below meth c D cy ad H locs ls X
  refine kk p l e s m args below meth c D cy ad H locs ls ⟨X.1, ⟨X.2.1.1, X.2.1.2.1, fun q hq => X.2.1.2.2 q ?_⟩, X.2.2⟩
  obtain ⟨q0, h0, rfl⟩ := List.mem_map.mp hq
  rw [← h] at h0
  obtain ⟨k, -, hk⟩ := List.mem_filterMap.mp h0
  exact List.mem_map.mpr ⟨q0, List.mem_of_getElem? hk, rfl⟩
/-! the three grounds, the texts, the sheets, the two books -/
def isG (g : Nat) : Prop := g = 6 ∨ g = 18 ∨ g = 30
theorem pG_0 {g : Nat} (h : isG g) : SyC.1[g]? = some (2, 0) := by rcases h with rfl | rfl | rfl <;> rfl
theorem pG_1 {g : Nat} (h : isG g) : SyC.1[g + 1]? = some (20, 64) := by rcases h with rfl | rfl | rfl <;> rfl
theorem pG_2 {g : Nat} (h : isG g) : SyC.1[g + 2]? = some (20, 64) := by rcases h with rfl | rfl | rfl <;> rfl
theorem pG_3 {g : Nat} (h : isG g) : SyC.1[g + 3]? = some (20, 64) := by rcases h with rfl | rfl | rfl <;> rfl
theorem pG_4 {g : Nat} (h : isG g) : SyC.1[g + 4]? = some (20, 64) := by rcases h with rfl | rfl | rfl <;> rfl
theorem pG_5 {g : Nat} (h : isG g) : SyC.1[g + 5]? = some (20, 4) := by rcases h with rfl | rfl | rfl <;> rfl
theorem pG_6 {g : Nat} (h : isG g) : SyC.1[g + 6]? = some (20, 4) := by rcases h with rfl | rfl | rfl <;> rfl
theorem pG_7 {g : Nat} (h : isG g) : SyC.1[g + 7]? = some (20, 6) := by rcases h with rfl | rfl | rfl <;> rfl
theorem pG_8 {g : Nat} (h : isG g) : SyC.1[g + 8]? = some (20, 14) := by rcases h with rfl | rfl | rfl <;> rfl
theorem pG_9 {g : Nat} (h : isG g) : SyC.1[g + 9]? = some (21, 14) := by rcases h with rfl | rfl | rfl <;> rfl
theorem pG_10 {g : Nat} (h : isG g) : SyC.1[g + 10]? = some (20, 64) := by rcases h with rfl | rfl | rfl <;> rfl
theorem pG_11 {g : Nat} (h : isG g) : SyC.1[g + 11]? = some (20, 64) := by rcases h with rfl | rfl | rfl <;> rfl
theorem rG_0 {g : Nat} (h : isG g) : SyC.2 g 0 = some (1) := by rcases h with rfl | rfl | rfl <;> rfl
theorem rG_5 {g : Nat} (h : isG g) : SyC.2 g 5 = some (g + 1) := by rcases h with rfl | rfl | rfl <;> rfl
theorem rG_6 {g : Nat} (h : isG g) : SyC.2 g 6 = some (g + 2) := by rcases h with rfl | rfl | rfl <;> rfl
theorem rG_7 {g : Nat} (h : isG g) : SyC.2 g 7 = some (g + 3) := by rcases h with rfl | rfl | rfl <;> rfl
theorem rG_8 {g : Nat} (h : isG g) : SyC.2 g 8 = some (g + 4) := by rcases h with rfl | rfl | rfl <;> rfl
theorem rG_9 {g : Nat} (h : isG g) : SyC.2 g 9 = some (g + 5) := by rcases h with rfl | rfl | rfl <;> rfl
theorem rG_10 {g : Nat} (h : isG g) : SyC.2 g 10 = some (g + 6) := by rcases h with rfl | rfl | rfl <;> rfl
theorem rG_11 {g : Nat} (h : isG g) : SyC.2 g 11 = some (g + 7) := by rcases h with rfl | rfl | rfl <;> rfl
theorem rG_12 {g : Nat} (h : isG g) : SyC.2 g 12 = some (g + 8) := by rcases h with rfl | rfl | rfl <;> rfl
theorem rG_13 {g : Nat} (h : isG g) : SyC.2 g 13 = some (g + 9) := by rcases h with rfl | rfl | rfl <;> rfl
theorem rG_14 {g : Nat} (h : isG g) : SyC.2 g 14 = some (g + 10) := by rcases h with rfl | rfl | rfl <;> rfl
theorem rG_15 {g : Nat} (h : isG g) : SyC.2 g 15 = some (g + 11) := by rcases h with rfl | rfl | rfl <;> rfl
theorem oG {g : Nat} (h : isG g) : IsO SyC g RX2 := by
  rcases h with rfl | rfl | rfl
  · exact oC_6
  · exact oC_18
  · exact oC_30
def isT (k : Nat) : Prop := k = 74 ∨ k = 78 ∨ k = 81 ∨ k = 84 ∨ k = 87 ∨ k = 90 ∨ k = 93
theorem pT_0 {k : Nat} (h : isT k) : SyC.1[k]? = some (8, 0) := by rcases h with rfl | rfl | rfl | rfl | rfl | rfl | rfl <;> rfl
theorem pT_1 {k : Nat} (h : isT k) : SyC.1[k + 1]? = some (20, 160) := by rcases h with rfl | rfl | rfl | rfl | rfl | rfl | rfl <;> rfl
theorem pT_2 {k : Nat} (h : isT k) : SyC.1[k + 2]? = some (20, 3) := by rcases h with rfl | rfl | rfl | rfl | rfl | rfl | rfl <;> rfl
theorem rT_1 {k : Nat} (h : isT k) : SyC.2 k 1 = some (k + 1) := by rcases h with rfl | rfl | rfl | rfl | rfl | rfl | rfl <;> rfl
theorem rT_2 {k : Nat} (h : isT k) : SyC.2 k 2 = some (k + 2) := by rcases h with rfl | rfl | rfl | rfl | rfl | rfl | rfl <;> rfl
theorem oT {k : Nat} (h : isT k) : IsO SyC k RX8 := by
  rcases h with rfl | rfl | rfl | rfl | rfl | rfl | rfl
  · exact oC_74
  · exact oC_78
  · exact oC_81
  · exact oC_84
  · exact oC_87
  · exact oC_90
  · exact oC_93
def isS (k : Nat) : Prop := k = 99 ∨ k = 101 ∨ k = 103 ∨ k = 105
theorem pS_0 {k : Nat} (h : isS k) : SyC.1[k]? = some (5, 0) := by rcases h with rfl | rfl | rfl | rfl <;> rfl
theorem pS_1 {k : Nat} (h : isS k) : SyC.1[k + 1]? = some (20, 40) := by rcases h with rfl | rfl | rfl | rfl <;> rfl
theorem rS_2 {k : Nat} (h : isS k) : SyC.2 k 2 = some (k + 1) := by rcases h with rfl | rfl | rfl | rfl <;> rfl
theorem oS {k : Nat} (h : isS k) : IsO SyC k RX5 := by
  rcases h with rfl | rfl | rfl | rfl
  · exact oC_99
  · exact oC_101
  · exact oC_103
  · exact oC_105
def isB (k : Nat) : Prop := k = 49 ∨ k = 53
theorem pB_0 {k : Nat} (h : isB k) : SyC.1[k]? = some (9, 0) := by rcases h with rfl | rfl <;> rfl
theorem rB_1 {k : Nat} (h : isB k) : SyC.2 k 1 = some (k + 1) := by rcases h with rfl | rfl <;> rfl
theorem rB_2 {k : Nat} (h : isB k) : SyC.2 k 2 = some (k + 2) := by rcases h with rfl | rfl <;> rfl
theorem rB_3 {k : Nat} (h : isB k) : SyC.2 k 3 = some (k + 3) := by rcases h with rfl | rfl <;> rfl
theorem oB {k : Nat} (h : isB k) : IsO SyC k RX9 := by
  rcases h with rfl | rfl
  · exact oC_49
  · exact oC_53

theorem lt_n {h N : Nat} (a : nI h < nI N) (hh : h < 2 ^ 31) (hN : N < 2 ^ 31) : h < N := (nI_ltI hh hN).mp a
theorem ge_n {h N : Nat} (a : ¬ nI h < nI N) (hN : N < 2 ^ 31) : N ≤ h := Nat.le_of_not_lt (fun q => a (nI_lt q hN))
def tX10_within : List (Nat × Instr × Nat) := [(0, .iload_n 0, 1), (1, .iload_n 1, 1), (2, .if_icmp .lt 12, 3), (5, .iload_n 0, 1), (6, .iload_n 2, 1), (7, .if_icmp .gt 7, 3), (10, .iconst 1, 1), (11, .goto 4, 3), (14, .iconst 0, 1), (15, .ireturn, 1)]
theorem dtX10_within : dec_ok mX10_within.2.1 tX10_within = true := by decide +kernel
set_option maxHeartbeats 4000000 in
theorem c_X10_within {I : Wd} {v lo hi : Int32} : Cal SyC mX10_within 0 [.int v, .int lo, .int hi] I (some (.int (bi (inR v lo hi)))) I := by
  refine Cal.of (by decide) (Nat.le_of_ble_eq_true rfl) ?_
  show Bd _ _ _ _ [(0, _), (1, _), (2, _)] _ _ _ _
  refine b_iload_n (pc := 0) (i := 0) (dd dtX10_within 0 rfl) rfl rfl ?_
  refine b_iload_n (pc := 1) (i := 1) (dd dtX10_within 1 rfl) rfl rfl ?_
  refine b_icmp_lt (pc := 2) (tgt := 14) (dd dtX10_within 2 rfl) (by decide) (fun h2 => ?_) (fun h2 => ?_)
  · refine b_ic0 (pc := 14) (dd dtX10_within 8 rfl) ?_
    refine b_eq (b_zret (dd dtX10_within 9 rfl) rfl (by first | rfl | exact nar_bi)) ?_ ?_
    · simp_all [bi]
    · rfl
  · refine b_iload_n (pc := 5) (i := 0) (dd dtX10_within 3 rfl) rfl rfl ?_
    refine b_iload_n (pc := 6) (i := 2) (dd dtX10_within 4 rfl) rfl rfl ?_
    refine b_icmp_gt (pc := 7) (tgt := 14) (dd dtX10_within 5 rfl) (by decide) (fun h7 => ?_) (fun h7 => ?_)
    · refine b_ic0 (pc := 14) (dd dtX10_within 8 rfl) ?_
      refine b_eq (b_zret (dd dtX10_within 9 rfl) rfl (by first | rfl | exact nar_bi)) ?_ ?_
      · simp_all [bi]
      · rfl
    · refine b_ic1 (pc := 10) (dd dtX10_within 6 rfl) ?_
      refine b_goto (pc := 11) (tgt := 15) (dd dtX10_within 7 rfl) (by decide) ?_
      refine b_eq (b_zret (dd dtX10_within 9 rfl) rfl (by first | rfl | exact nar_bi)) ?_ ?_
      · simp_all [bi]
      · rfl
def tX10_isCell : List (Nat × Instr × Nat) := [(0, .iload_n 0, 1), (1, .iconst 0, 1), (2, .bipush 63, 2), (4, .invokestatic 97, 3), (7, .ireturn, 1)]
theorem dtX10_isCell : dec_ok mX10_isCell.2.1 tX10_isCell = true := by decide +kernel
set_option maxHeartbeats 4000000 in
theorem c_X10_isCell {I : Wd} {c : Int32} : Cal SyC mX10_isCell 1 [.int c] I (some (.int (bi (inR c 0 63)))) I := by
  refine Cal.of (by decide) (Nat.le_of_ble_eq_true rfl) ?_
  show Bd _ _ _ _ [(0, _)] _ _ _ _
  refine b_iload_n (pc := 0) (i := 0) (dd dtX10_isCell 0 rfl) rfl rfl ?_
  refine b_ic0 (pc := 1) (dd dtX10_isCell 1 rfl) ?_
  refine b_bipush (pc := 2) (v := 63) (dd dtX10_isCell 2 rfl) (by decide) ?_
  refine b_invS (pc := 4) (dd dtX10_isCell 3 rfl) mlX10_97 mvX10_within msX10_within (c_X10_within) rfl rfl (by decide) (Nat.le_of_ble_eq_true rfl) ?_
  exact b_eq (b_zret (dd dtX10_isCell 4 rfl) rfl (by first | rfl | exact nar_bi)) rfl rfl
def tX10_isSheet : List (Nat × Instr × Nat) := [(0, .iload_n 0, 1), (1, .iconst 0, 1), (2, .iconst 3, 1), (3, .invokestatic 97, 3), (6, .ireturn, 1)]
theorem dtX10_isSheet : dec_ok mX10_isSheet.2.1 tX10_isSheet = true := by decide +kernel
set_option maxHeartbeats 4000000 in
theorem c_X10_isSheet {I : Wd} {c : Int32} : Cal SyC mX10_isSheet 1 [.int c] I (some (.int (bi (inR c 0 3)))) I := by
  refine Cal.of (by decide) (Nat.le_of_ble_eq_true rfl) ?_
  show Bd _ _ _ _ [(0, _)] _ _ _ _
  refine b_iload_n (pc := 0) (i := 0) (dd dtX10_isSheet 0 rfl) rfl rfl ?_
  refine b_ic0 (pc := 1) (dd dtX10_isSheet 1 rfl) ?_
  refine b_ic3 (pc := 2) (dd dtX10_isSheet 2 rfl) ?_
  refine b_invS (pc := 3) (dd dtX10_isSheet 3 rfl) mlX10_97 mvX10_within msX10_within (c_X10_within) rfl rfl (by decide) (Nat.le_of_ble_eq_true rfl) ?_
  exact b_eq (b_zret (dd dtX10_isSheet 4 rfl) rfl (by first | rfl | exact nar_bi)) rfl rfl
def tX10_isHouse : List (Nat × Instr × Nat) := [(0, .iload_n 1, 1), (1, .iconst 0, 1), (2, .aload_n 0, 1), (3, .getfield 10, 3), (6, .getfield 111, 3), (9, .iconst 1, 1), (10, .isub, 1), (11, .invokestatic 97, 3), (14, .ireturn, 1)]
theorem dtX10_isHouse : dec_ok mX10_isHouse.2.1 tX10_isHouse = true := by decide +kernel
set_option maxHeartbeats 4000000 in
theorem c_X10_isHouse {I : Wd} {c : Int32} : Cal SyC mX10_isHouse 1 [.ref 0, .int c] I (some (.int (bi (inR c 0 (I 1 0 - 1))))) I := by
  refine Cal.of (by decide) (Nat.le_of_ble_eq_true rfl) ?_
  show Bd _ _ _ _ [(0, _), (1, _)] _ _ _ _
  refine b_iload_n (pc := 0) (i := 1) (dd dtX10_isHouse 0 rfl) rfl rfl ?_
  refine b_ic0 (pc := 1) (dd dtX10_isHouse 1 rfl) ?_
  refine b_aload_n (pc := 2) (i := 0) (dd dtX10_isHouse 2 rfl) rfl rfl ?_
  refine b_geta (pc := 3) (dd dtX10_isHouse 3 rfl) fwX10_10 pC_0 rC_0_0 ?_
  refine b_geti (pc := 6) (dd dtX10_isHouse 4 rfl) fwX10_111 pC_1 ?_
  refine b_ic1 (pc := 9) (dd dtX10_isHouse 5 rfl) ?_
  refine b_isub (pc := 10) (dd dtX10_isHouse 6 rfl) ?_
  refine b_invS (pc := 11) (dd dtX10_isHouse 7 rfl) mlX10_97 mvX10_within msX10_within (c_X10_within) rfl rfl (by decide) (Nat.le_of_ble_eq_true rfl) ?_
  exact b_eq (b_zret (dd dtX10_isHouse 8 rfl) rfl (by first | rfl | exact nar_bi)) rfl rfl
def tX10_isSign : List (Nat × Instr × Nat) := [(0, .iload_n 1, 1), (1, .iconst 0, 1), (2, .aload_n 0, 1), (3, .getfield 38, 3), (6, .getfield 153, 3), (9, .iconst 1, 1), (10, .isub, 1), (11, .invokestatic 97, 3), (14, .ireturn, 1)]
theorem dtX10_isSign : dec_ok mX10_isSign.2.1 tX10_isSign = true := by decide +kernel
set_option maxHeartbeats 4000000 in
theorem c_X10_isSign {I : Wd} {c : Int32} : Cal SyC mX10_isSign 1 [.ref 0, .int c] I (some (.int (bi (inR c 0 (I 42 0 - 1))))) I := by
  refine Cal.of (by decide) (Nat.le_of_ble_eq_true rfl) ?_
  show Bd _ _ _ _ [(0, _), (1, _)] _ _ _ _
  refine b_iload_n (pc := 0) (i := 1) (dd dtX10_isSign 0 rfl) rfl rfl ?_
  refine b_ic0 (pc := 1) (dd dtX10_isSign 1 rfl) ?_
  refine b_aload_n (pc := 2) (i := 0) (dd dtX10_isSign 2 rfl) rfl rfl ?_
  refine b_geta (pc := 3) (dd dtX10_isSign 3 rfl) fwX10_38 pC_0 rC_0_5 ?_
  refine b_geti (pc := 6) (dd dtX10_isSign 4 rfl) fwX10_153 pC_42 ?_
  refine b_ic1 (pc := 9) (dd dtX10_isSign 5 rfl) ?_
  refine b_isub (pc := 10) (dd dtX10_isSign 6 rfl) ?_
  refine b_invS (pc := 11) (dd dtX10_isSign 7 rfl) mlX10_97 mvX10_within msX10_within (c_X10_within) rfl rfl (by decide) (Nat.le_of_ble_eq_true rfl) ?_
  exact b_eq (b_zret (dd dtX10_isSign 8 rfl) rfl (by first | rfl | exact nar_bi)) rfl rfl
def tX10_isKnown : List (Nat × Instr × Nat) := [(0, .iload_n 1, 1), (1, .iconst 0, 1), (2, .aload_n 0, 1), (3, .getfield 21, 3), (6, .getfield 150, 3), (9, .invokestatic 97, 3), (12, .ireturn, 1)]
theorem dtX10_isKnown : dec_ok mX10_isKnown.2.1 tX10_isKnown = true := by decide +kernel
set_option maxHeartbeats 4000000 in
theorem c_X10_isKnown {I : Wd} {c : Int32} : Cal SyC mX10_isKnown 1 [.ref 0, .int c] I (some (.int (bi (inR c 0 (I 6 1))))) I := by
  refine Cal.of (by decide) (Nat.le_of_ble_eq_true rfl) ?_
  show Bd _ _ _ _ [(0, _), (1, _)] _ _ _ _
  refine b_iload_n (pc := 0) (i := 1) (dd dtX10_isKnown 0 rfl) rfl rfl ?_
  refine b_ic0 (pc := 1) (dd dtX10_isKnown 1 rfl) ?_
  refine b_aload_n (pc := 2) (i := 0) (dd dtX10_isKnown 2 rfl) rfl rfl ?_
  refine b_geta (pc := 3) (dd dtX10_isKnown 3 rfl) fwX10_21 pC_0 rC_0_1 ?_
  refine b_geti (pc := 6) (dd dtX10_isKnown 4 rfl) fwX10_150 pC_6 ?_
  refine b_invS (pc := 9) (dd dtX10_isKnown 5 rfl) mlX10_97 mvX10_within msX10_within (c_X10_within) rfl rfl (by decide) (Nat.le_of_ble_eq_true rfl) ?_
  exact b_eq (b_zret (dd dtX10_isKnown 6 rfl) rfl (by first | rfl | exact nar_bi)) rfl rfl
def tX10_monthsAreLeft : List (Nat × Instr × Nat) := [(0, .iload_n 1, 1), (1, .sipush 1200, 3), (4, .aload_n 0, 1), (5, .getfield 21, 3), (8, .getfield 150, 3), (11, .isub, 1), (12, .if_icmp .gt 7, 3), (15, .iconst 1, 1), (16, .goto 4, 3), (19, .iconst 0, 1), (20, .ireturn, 1)]
theorem dtX10_monthsAreLeft : dec_ok mX10_monthsAreLeft.2.1 tX10_monthsAreLeft = true := by decide +kernel
set_option maxHeartbeats 4000000 in
theorem c_X10_monthsAreLeft {I : Wd} {n : Int32} : Cal SyC mX10_monthsAreLeft 0 [.ref 0, .int n] I (some (.int (bi (¬ 1200 - I 6 1 < n)))) I := by
  refine Cal.of (by decide) (Nat.le_of_ble_eq_true rfl) ?_
  show Bd _ _ _ _ [(0, _), (1, _)] _ _ _ _
  refine b_iload_n (pc := 0) (i := 1) (dd dtX10_monthsAreLeft 0 rfl) rfl rfl ?_
  refine b_sipush (pc := 1) (v := 1200) (dd dtX10_monthsAreLeft 1 rfl) (by decide) ?_
  refine b_aload_n (pc := 4) (i := 0) (dd dtX10_monthsAreLeft 2 rfl) rfl rfl ?_
  refine b_geta (pc := 5) (dd dtX10_monthsAreLeft 3 rfl) fwX10_21 pC_0 rC_0_1 ?_
  refine b_geti (pc := 8) (dd dtX10_monthsAreLeft 4 rfl) fwX10_150 pC_6 ?_
  refine b_isub (pc := 11) (dd dtX10_monthsAreLeft 5 rfl) ?_
  refine b_icmp_gt (pc := 12) (tgt := 19) (dd dtX10_monthsAreLeft 6 rfl) (by decide) (fun h12 => ?_) (fun h12 => ?_)
  · refine b_ic0 (pc := 19) (dd dtX10_monthsAreLeft 9 rfl) ?_
    refine b_eq (b_zret (dd dtX10_monthsAreLeft 10 rfl) rfl (by first | rfl | exact nar_bi)) ?_ ?_
    · simp_all [bi]
    · rfl
  · refine b_ic1 (pc := 15) (dd dtX10_monthsAreLeft 7 rfl) ?_
    refine b_goto (pc := 16) (tgt := 20) (dd dtX10_monthsAreLeft 8 rfl) (by decide) ?_
    refine b_eq (b_zret (dd dtX10_monthsAreLeft 10 rfl) rfl (by first | rfl | exact nar_bi)) ?_ ?_
    · simp_all [bi]
    · rfl
def tX2_hasFallen : List (Nat × Instr × Nat) := [(0, .aload_n 0, 1), (1, .getfield 34, 3), (4, .iload_n 1, 1), (5, .iaload, 1), (6, .ifCond .lt 7, 3), (9, .iconst 1, 1), (10, .goto 4, 3), (13, .iconst 0, 1), (14, .ireturn, 1)]
theorem dtX2_hasFallen : dec_ok mX2_hasFallen.2.1 tX2_hasFallen = true := by decide +kernel
set_option maxHeartbeats 4000000 in
theorem c_X2_hasFallen {I : Wd} {g : Nat} (hg : isG g) {c : Int32} (hc : vp_in c 64) : Cal SyC mX2_hasFallen 0 [.ref g, .int c] I (some (.int (bi (¬ I (g + 4) c.toNatClampNeg < 0)))) I := by
  refine Cal.of (by decide) (Nat.le_of_ble_eq_true rfl) ?_
  show Bd _ _ _ _ [(0, _), (1, _)] _ _ _ _
  refine b_aload_n (pc := 0) (i := 0) (dd dtX2_hasFallen 0 rfl) rfl rfl ?_
  refine b_geta (pc := 1) (dd dtX2_hasFallen 1 rfl) fwX2_34 (pG_0 hg) (rG_8 hg) ?_
  refine b_iload_n (pc := 4) (i := 1) (dd dtX2_hasFallen 2 rfl) rfl rfl ?_
  refine b_iald (pc := 5) (dd dtX2_hasFallen 3 rfl) (pG_4 hg) (by assumption) ?_
  refine b_if_lt (pc := 6) (tgt := 13) (dd dtX2_hasFallen 4 rfl) (by decide) (fun h6 => ?_) (fun h6 => ?_)
  · refine b_ic0 (pc := 13) (dd dtX2_hasFallen 7 rfl) ?_
    refine b_eq (b_zret (dd dtX2_hasFallen 8 rfl) rfl (by first | rfl | exact nar_bi)) ?_ ?_
    · simp_all [bi]
    · rfl
  · refine b_ic1 (pc := 9) (dd dtX2_hasFallen 5 rfl) ?_
    refine b_goto (pc := 10) (tgt := 14) (dd dtX2_hasFallen 6 rfl) (by decide) ?_
    refine b_eq (b_zret (dd dtX2_hasFallen 8 rfl) rfl (by first | rfl | exact nar_bi)) ?_ ?_
    · simp_all [bi]
    · rfl

/-- people of the first n houses that are in cell c, stand, and whose people are there -/
def sPeople (hc gone away ppl : Nat → Int32) (c : Int32) : Nat → Int32
  | 0 => 0
  | n + 1 => if hc n = c ∧ gone n < 0 ∧ away n = 0 then sPeople hc gone away ppl c n + ppl n else sPeople hc gone away ppl c n
def tX2_peopleAt : List (Nat × Instr × Nat) := [(0, .iconst 0, 1), (1, .istore_n 2, 1), (2, .iconst 0, 1), (3, .istore_n 3, 1), (4, .iload_n 3, 1), (5, .aload_n 0, 1), (6, .getfield 59, 3), (9, .getfield 69, 3), (12, .if_icmp .ge 52, 3), (15, .aload_n 0, 1), (16, .getfield 59, 3), (19, .getfield 74, 3), (22, .iload_n 3, 1), (23, .iaload, 1), (24, .iload_n 1, 1), (25, .if_icmp .ne 33, 3), (28, .aload_n 0, 1), (29, .getfield 46, 3), (32, .iload_n 3, 1), (33, .iaload, 1), (34, .ifCond .ge 24, 3), (37, .aload_n 0, 1), (38, .getfield 49, 3), (41, .iload_n 3, 1), (42, .baload, 1), (43, .ifCond .ne 15, 3), (46, .iload_n 2, 1), (47, .aload_n 0, 1), (48, .getfield 59, 3), (51, .getfield 77, 3), (54, .iload_n 3, 1), (55, .iaload, 1), (56, .iadd, 1), (57, .istore_n 2, 1), (58, .iinc 3 1, 3), (61, .goto (-57), 3), (64, .iload_n 2, 1), (65, .ireturn, 1)]
theorem dtX2_peopleAt : dec_ok mX2_peopleAt.2.1 tX2_peopleAt = true := by decide +kernel
set_option maxHeartbeats 4000000 in
theorem l_X2_peopleAt {I : Wd} {g N : Nat} (hg : isG g) {c : Int32} (hN : I 1 0 = nI N) (hN2 : N ≤ 14) : ∀ (n h : Nat) (x2 x3 : Int32), h ≤ N → N < h + n → x3 = nI h → x2 = (sPeople (I 2) (I (g + 8)) (I (g + 9)) (I 4) c h) → Bd SyC mX2_peopleAt 0 4 [(3, .int x3), (2, .int x2), (0, .ref g), (1, .int c)] [] I (some (.int (sPeople (I 2) (I (g + 8)) (I (g + 9)) (I 4) c N))) I := by
  intro n
  induction n with
  | zero => intro h x2 x3 h1 h2; omega
  | succ n ih =>
    intro h x2 x3 h1 h2 ex3 ex2
    subst ex3; subst ex2
    refine b_iload_n (pc := 4) (i := 3) (dd dtX2_peopleAt 4 rfl) rfl rfl ?_
    refine b_aload_n (pc := 5) (i := 0) (dd dtX2_peopleAt 5 rfl) rfl rfl ?_
    refine b_geta (pc := 6) (dd dtX2_peopleAt 6 rfl) fwX2_59 (pG_0 hg) (rG_0 hg) ?_
    refine b_geti (pc := 9) (dd dtX2_peopleAt 7 rfl) fwX2_69 pC_1 ?_
    refine b_icmpL_ge (pc := 12) (tgt := 64) (dd dtX2_peopleAt 8 rfl) (by decide) (fun h12 => ?_) (fun h12 => ?_)
    · rw [hN] at h12
      have he : h = N := Nat.le_antisymm h1 (ge_n h12 (by omega))
      subst he
      refine b_iload_n (pc := 64) (i := 2) (dd dtX2_peopleAt 36 rfl) rfl rfl ?_
      exact b_eq (b_iret (dd dtX2_peopleAt 37 rfl) rfl) rfl rfl
    · rw [hN] at h12
      have hlt := lt_n h12 (by omega) (by omega)
      refine b_aload_n (pc := 15) (i := 0) (dd dtX2_peopleAt 9 rfl) rfl rfl ?_
      refine b_geta (pc := 16) (dd dtX2_peopleAt 10 rfl) fwX2_59 (pG_0 hg) (rG_0 hg) ?_
      refine b_geta (pc := 19) (dd dtX2_peopleAt 11 rfl) fwX2_74 pC_1 rC_1_2 ?_
      refine b_iload_n (pc := 22) (i := 3) (dd dtX2_peopleAt 12 rfl) rfl rfl ?_
      refine b_iald (pc := 23) (dd dtX2_peopleAt 13 rfl) pC_2 (vpn rfl (show h < 14 by omega) (by decide)) ?_
      refine b_iload_n (pc := 24) (i := 1) (dd dtX2_peopleAt 14 rfl) rfl rfl ?_
      refine b_icmp_ne (pc := 25) (tgt := 58) (dd dtX2_peopleAt 15 rfl) (by decide) (fun h25 => ?_) (fun h25 => ?_)
      · refine b_iinc1 (pc := 58) (i := 3) (lv' := [(3, _), (2, _), (0, _), (1, _)]) (dd dtX2_peopleAt 34 rfl) rfl (Nat.le_of_ble_eq_true rfl) rfl ?_
        refine b_goto (pc := 61) (tgt := 4) (dd dtX2_peopleAt 35 rfl) (by decide) ?_
        rw [nI_1]
        refine ih (h + 1) _ _ hlt (by omega) rfl ?_
        simp only [nI_clamp (show h < 2 ^ 31 by omega)] at *
        simp [sPeople, -Int32.not_lt, -Int32.not_le, *]
      · refine b_aload_n (pc := 28) (i := 0) (dd dtX2_peopleAt 16 rfl) rfl rfl ?_
        refine b_geta (pc := 29) (dd dtX2_peopleAt 17 rfl) fwX2_46 (pG_0 hg) (rG_12 hg) ?_
        refine b_iload_n (pc := 32) (i := 3) (dd dtX2_peopleAt 18 rfl) rfl rfl ?_
        refine b_iald (pc := 33) (dd dtX2_peopleAt 19 rfl) (pG_8 hg) (vpn rfl (show h < 14 by omega) (by decide)) ?_
        refine b_ifL_ge (pc := 34) (tgt := 58) (dd dtX2_peopleAt 20 rfl) (by decide) (fun h34 => ?_) (fun h34 => ?_)
        · refine b_iinc1 (pc := 58) (i := 3) (lv' := [(3, _), (2, _), (0, _), (1, _)]) (dd dtX2_peopleAt 34 rfl) rfl (Nat.le_of_ble_eq_true rfl) rfl ?_
          refine b_goto (pc := 61) (tgt := 4) (dd dtX2_peopleAt 35 rfl) (by decide) ?_
          rw [nI_1]
          refine ih (h + 1) _ _ hlt (by omega) rfl ?_
          simp only [nI_clamp (show h < 2 ^ 31 by omega)] at *
          simp [sPeople, -Int32.not_lt, -Int32.not_le, *]
        · refine b_aload_n (pc := 37) (i := 0) (dd dtX2_peopleAt 21 rfl) rfl rfl ?_
          refine b_geta (pc := 38) (dd dtX2_peopleAt 22 rfl) fwX2_49 (pG_0 hg) (rG_13 hg) ?_
          refine b_iload_n (pc := 41) (i := 3) (dd dtX2_peopleAt 23 rfl) rfl rfl ?_
          refine b_zald (pc := 42) (dd dtX2_peopleAt 24 rfl) (pG_9 hg) (vpn rfl (show h < 14 by omega) (by decide)) ?_
          refine b_if_ne (pc := 43) (tgt := 58) (dd dtX2_peopleAt 25 rfl) (by decide) (fun h43 => ?_) (fun h43 => ?_)
          · refine b_iinc1 (pc := 58) (i := 3) (lv' := [(3, _), (2, _), (0, _), (1, _)]) (dd dtX2_peopleAt 34 rfl) rfl (Nat.le_of_ble_eq_true rfl) rfl ?_
            refine b_goto (pc := 61) (tgt := 4) (dd dtX2_peopleAt 35 rfl) (by decide) ?_
            rw [nI_1]
            refine ih (h + 1) _ _ hlt (by omega) rfl ?_
            simp only [nI_clamp (show h < 2 ^ 31 by omega)] at *
            simp [sPeople, -Int32.not_lt, -Int32.not_le, *]
          · refine b_iload_n (pc := 46) (i := 2) (dd dtX2_peopleAt 26 rfl) rfl rfl ?_
            refine b_aload_n (pc := 47) (i := 0) (dd dtX2_peopleAt 27 rfl) rfl rfl ?_
            refine b_geta (pc := 48) (dd dtX2_peopleAt 28 rfl) fwX2_59 (pG_0 hg) (rG_0 hg) ?_
            refine b_geta (pc := 51) (dd dtX2_peopleAt 29 rfl) fwX2_77 pC_1 rC_1_4 ?_
            refine b_iload_n (pc := 54) (i := 3) (dd dtX2_peopleAt 30 rfl) rfl rfl ?_
            refine b_iald (pc := 55) (dd dtX2_peopleAt 31 rfl) pC_4 (vpn rfl (show h < 14 by omega) (by decide)) ?_
            refine b_iadd (pc := 56) (dd dtX2_peopleAt 32 rfl) ?_
            refine b_istore_n (pc := 57) (i := 2) (lv' := [(2, _), (3, _), (0, _), (1, _)]) (dd dtX2_peopleAt 33 rfl) rfl (Nat.le_of_ble_eq_true rfl) rfl ?_
            refine b_iinc1 (pc := 58) (i := 3) (lv' := [(3, _), (2, _), (0, _), (1, _)]) (dd dtX2_peopleAt 34 rfl) rfl (Nat.le_of_ble_eq_true rfl) rfl ?_
            refine b_goto (pc := 61) (tgt := 4) (dd dtX2_peopleAt 35 rfl) (by decide) ?_
            rw [nI_1]
            refine ih (h + 1) _ _ hlt (by omega) rfl ?_
            simp only [nI_clamp (show h < 2 ^ 31 by omega)] at *
            simp [sPeople, -Int32.not_lt, -Int32.not_le, *]
set_option maxHeartbeats 4000000 in
theorem c_X2_peopleAt {I : Wd} {g N : Nat} (hg : isG g) {c : Int32} (hN : I 1 0 = nI N) (hN2 : N ≤ 14) : Cal SyC mX2_peopleAt 0 [.ref g, .int c] I (some (.int (sPeople (I 2) (I (g + 8)) (I (g + 9)) (I 4) c N))) I := by
  refine Cal.of (by decide) (Nat.le_of_ble_eq_true rfl) ?_
  show Bd _ _ _ _ [(0, _), (1, _)] _ _ _ _
  refine b_ic0 (pc := 0) (dd dtX2_peopleAt 0 rfl) ?_
  refine b_istore_n (pc := 1) (i := 2) (lv' := [(2, _), (0, _), (1, _)]) (dd dtX2_peopleAt 1 rfl) rfl (Nat.le_of_ble_eq_true rfl) rfl ?_
  refine b_ic0 (pc := 2) (dd dtX2_peopleAt 2 rfl) ?_
  refine b_istore_n (pc := 3) (i := 3) (lv' := [(3, _), (2, _), (0, _), (1, _)]) (dd dtX2_peopleAt 3 rfl) rfl (Nat.le_of_ble_eq_true rfl) rfl ?_
  exact l_X2_peopleAt hg hN hN2 (N + 1) 0 _ _ (Nat.zero_le _) (by omega) rfl rfl
