/-! the reference reads: its small ones -/
/-- a byte as the class and as the reference has it -/
def BRel (x y : Int32) : Prop := x = y ∨ (¬ x < 128 ∧ y < 0)
def MB (J : Wd) (ba n : Nat) (mb : Nat → Int32) : Prop := J 0 50 = nI ba ∧ J 0 51 = nI n ∧ ba + n ≤ 1120 ∧ n ≤ 160 ∧ (∀ i, i < n → J 34 (ba + i) = mb i) ∧ mb n = -1
def Fr4 (J J' : Wd) : Prop := (∀ a, a ≠ 0 → J' a = J a) ∧ ∀ j, (j < 52 ∨ 55 < j) → J' 0 j = J 0 j
theorem Fr4.r {J : Wd} : Fr4 J J := ⟨fun _ _ => rfl, fun _ _ => rfl⟩
theorem Fr4.p {J W : Wd} (h : Fr4 J W) {j : Nat} {v : Int32} (hj : 52 ≤ j ∧ j ≤ 55) : Fr4 J (ist W 0 j v) := by
  refine ⟨fun a ha => by rw [ist_ne ha]; exact h.1 a ha, fun i hi => ?_⟩
  rw [ist_eq, upd_ne (by omega)]
  exact h.2 i hi
theorem MB.fr {J W : Wd} {ba n : Nat} {mb : Nat → Int32} (h : MB J ba n mb) (hW : Fr4 J W) : MB W ba n mb := by
  unfold MB at h ⊢
  rw [hW.2 50 (by omega), hW.2 51 (by omega), hW.1 34 (by decide)]
  exact h
def wordF (x : Int64) : Int32 := if x = 2794884 then 0 else if x = 442053 then 1 else if x = 16101 then 2 else if x = 498 then 3 else if x = 1476 then 4 else if x = 14836 then 5 else if x = 4707412 then 10 else if x = 12748404 then 11 else if x = 441972 then 12 else if x = 605291 then 13 else if x = 542622085 then 14 else if x = 546224 then 15 else if x = 202124 then 16 else if x = 14137992 then 17 else -1
def jntF (tok val : Int32) : Int32 := if tok = 42 ∨ tok = 43 ∨ tok = 45 ∨ tok = 60 ∨ tok = 61 then tok else if tok = 3 ∧ val = 4 then 38 else if tok = 3 ∧ val = 3 then 124 else 0
def rankF (w : Int32) : Int32 := if w = 124 then 1 else if w = 38 then 2 else if w = 33 then 3 else if w = 60 then 4 else if w = 61 then 4 else if w = 43 then 5 else if w = 45 then 5 else if w = 42 then 6 else if w = 126 then 7 else 0
def tX11_byteAt : List (Nat × Instr × Nat) := [(0, .iload_n 1, 1), (1, .aload_n 0, 1), (2, .getfield 170, 3), (5, .if_icmp .ge 17, 3), (8, .aload_n 0, 1), (9, .getfield 161, 3), (12, .aload_n 0, 1), (13, .getfield 167, 3), (16, .iload_n 1, 1), (17, .iadd, 1), (18, .iaload, 1), (19, .goto 4, 3), (22, .iconst (-1), 1), (23, .ireturn, 1)]
theorem dtX11_byteAt : dec_ok mX11_byteAt.2.1 tX11_byteAt = true := by decide +kernel
set_option maxHeartbeats 4000000 in
theorem c_X11_byteAt {J : Wd} {ba n i : Nat} {mb : Nat → Int32} {x : Int32} (hJ : MB J ba n mb) (hx : x = nI i) (hi : i ≤ n) : Cal SyM mX11_byteAt 0 [.ref 0, .int x] J (some (.int (mb i))) J := by
  refine Cal.of (by decide) (Nat.le_of_ble_eq_true rfl) ?_
  show Bd _ _ _ _ [(0, _), (1, _)] _ _ _ _
  subst hx
  obtain ⟨j0, j1, j2, j3, j4, j5⟩ := hJ
  refine b_iload_n (pc := 0) (i := 1) (dd dtX11_byteAt 0 rfl) rfl rfl ?_
  refine b_aload_n (pc := 1) (i := 0) (dd dtX11_byteAt 1 rfl) rfl rfl ?_
  refine b_geti (pc := 2) (dd dtX11_byteAt 2 rfl) fwX11_170 pM_0 ?_
  refine b_icmpL_ge (pc := 5) (tgt := 22) (dd dtX11_byteAt 3 rfl) (by decide) (fun h5 => ?_) (fun h5 => ?_)
  · rw [j1] at h5
    have hge := ge_n h5 (by omega)
    have hin : i = n := by omega
    subst hin
    rw [j5]
    refine b_icm1 (pc := 22) (dd dtX11_byteAt 12 rfl) ?_
    exact b_eq (b_iret (dd dtX11_byteAt 13 rfl) rfl) rfl rfl
  · rw [j1] at h5
    have hlt := lt_n h5 (by omega) (by omega)
    refine b_aload_n (pc := 8) (i := 0) (dd dtX11_byteAt 4 rfl) rfl rfl ?_
    refine b_geta (pc := 9) (dd dtX11_byteAt 5 rfl) fwX11_161 pM_0 rM_0_48 ?_
    refine b_aload_n (pc := 12) (i := 0) (dd dtX11_byteAt 6 rfl) rfl rfl ?_
    refine b_geti (pc := 13) (dd dtX11_byteAt 7 rfl) fwX11_167 pM_0 ?_
    refine b_iload_n (pc := 16) (i := 1) (dd dtX11_byteAt 8 rfl) rfl rfl ?_
    refine b_iadd (pc := 17) (dd dtX11_byteAt 9 rfl) ?_
    rw [j0, nI_add]
    refine b_iald (pc := 18) (dd dtX11_byteAt 10 rfl) pM_34 (vpn rfl (show ba + i < 1120 by omega) (by decide)) ?_
    rw [nI_clamp (show ba + i < 2 ^ 31 by omega), j4 i hlt]
    refine b_goto (pc := 19) (tgt := 23) (dd dtX11_byteAt 11 rfl) (by decide) ?_
    exact b_eq (b_iret (dd dtX11_byteAt 13 rfl) rfl) rfl rfl
def tX11_isKey : List (Nat × Instr × Nat) := [(0, .aload_n 0, 1), (1, .getfield 176, 3), (4, .iconst 3, 1), (5, .if_icmp .ne 15, 3), (8, .aload_n 0, 1), (9, .getfield 182, 3), (12, .iload_n 1, 1), (13, .if_icmp .ne 7, 3), (16, .iconst 1, 1), (17, .goto 4, 3), (20, .iconst 0, 1), (21, .ireturn, 1)]
theorem dtX11_isKey : dec_ok mX11_isKey.2.1 tX11_isKey = true := by decide +kernel
set_option maxHeartbeats 4000000 in
theorem c_X11_isKey {J : Wd} {k : Int32} : Cal SyM mX11_isKey 0 [.ref 0, .int k] J (some (.int (bi (J 0 53 = 3 ∧ J 0 55 = k)))) J := by
  refine Cal.of (by decide) (Nat.le_of_ble_eq_true rfl) ?_
  show Bd _ _ _ _ [(0, _), (1, _)] _ _ _ _
  refine b_aload_n (pc := 0) (i := 0) (dd dtX11_isKey 0 rfl) rfl rfl ?_
  refine b_geti (pc := 1) (dd dtX11_isKey 1 rfl) fwX11_176 pM_0 ?_
  refine b_ic3 (pc := 4) (dd dtX11_isKey 2 rfl) ?_
  refine b_icmp_ne (pc := 5) (tgt := 20) (dd dtX11_isKey 3 rfl) (by decide) (fun h5 => ?_) (fun h5 => ?_)
  · refine b_ic0 (pc := 20) (dd dtX11_isKey 10 rfl) ?_
    refine b_eq (b_zret (dd dtX11_isKey 11 rfl) rfl (by first | rfl | exact nar_bi)) ?_ ?_
    · simp [bi, *]
    · rfl
  · refine b_aload_n (pc := 8) (i := 0) (dd dtX11_isKey 4 rfl) rfl rfl ?_
    refine b_geti (pc := 9) (dd dtX11_isKey 5 rfl) fwX11_182 pM_0 ?_
    refine b_iload_n (pc := 12) (i := 1) (dd dtX11_isKey 6 rfl) rfl rfl ?_
    refine b_icmp_ne (pc := 13) (tgt := 20) (dd dtX11_isKey 7 rfl) (by decide) (fun h13 => ?_) (fun h13 => ?_)
    · refine b_ic0 (pc := 20) (dd dtX11_isKey 10 rfl) ?_
      refine b_eq (b_zret (dd dtX11_isKey 11 rfl) rfl (by first | rfl | exact nar_bi)) ?_ ?_
      · simp [bi, *]
      · rfl
    · refine b_ic1 (pc := 16) (dd dtX11_isKey 8 rfl) ?_
      refine b_goto (pc := 17) (tgt := 21) (dd dtX11_isKey 9 rfl) (by decide) ?_
      refine b_eq (b_zret (dd dtX11_isKey 11 rfl) rfl (by first | rfl | exact nar_bi)) ?_ ?_
      · simp [bi, *]
      · rfl
