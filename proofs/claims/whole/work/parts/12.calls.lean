/-! what the calls answer: the same words for both sides -/
theorem nIm1 {z : Nat} (h : z < 2 ^ 30) : (nI z - 1).toInt = (z : Int) - 1 := by
  have := pk_sub_toInt (a := z) (b := 1) h (by decide)
  simpa [nI] using this
theorem vpm {x : Int32} {z n : Nat} (h : inR x 0 (nI z - 1)) (hz : z ≤ n) (hn : n < 2 ^ 30) : vp_in x n := by
  refine vpc h ?_
  rw [nIm1 (by omega)]
  omega
/-- of a row with z things a place is there -/
theorem inR_n {x : Int32} {z : Nat} (h : inR x 0 (nI z - 1)) (hz : z < 2 ^ 30) : ∃ j : Nat, x = nI j ∧ j < z ∧ x.toNatClampNeg = j := by
  obtain ⟨j, e, h1, h2⟩ := nI_rng h
  rw [nIm1 hz] at h1
  exact ⟨j, e, by omega, by rw [e]; exact nI_clamp h2⟩
theorem nlt_lit {N : Nat} {k : Nat} (hN : N < 2 ^ 31) (hk : k < 2 ^ 31) : nI N < nI k ↔ N < k := nI_ltI hN hk
def vHouse (fell : Nat → Int32) (N : Nat) (c w p : Int32) : Int32 := if inR c 0 63 then (if inR w 1 99999 ∧ inR p 0 99 then (if fell c.toNatClampNeg < 0 then (if N < 14 then nI N else -4) else -3) else -2) else -1
abbrev okHouse (fell : Nat → Int32) (N : Nat) (c w p : Int32) : Prop := inR c 0 63 ∧ (inR w 1 99999 ∧ inR p 0 99) ∧ fell c.toNatClampNeg < 0 ∧ N < 14
def vGround (fell hollow : Nat → Int32) (c r h : Int32) : Int32 := if inR c 0 63 then (if inR r 0 3 ∧ inR h 0 200 then (if fell c.toNatClampNeg < 0 then hollow c.toNatClampNeg else -3) else -2) else -1
abbrev okGround (fell : Nat → Int32) (c r h : Int32) : Prop := inR c 0 63 ∧ (inR r 0 3 ∧ inR h 0 200) ∧ fell c.toNatClampNeg < 0
def vPump (P : Nat) (c : Int32) : Int32 := if inR c 0 63 then (if P < 6 then nI P else -4) else -1
abbrev okPump (P : Nat) (c : Int32) : Prop := inR c 0 63 ∧ P < 6
def vPumping (f : Nat → Int32) (np p n : Int32) : Int32 := if inR p 0 (np - 1) then (if inR n 0 50 then f p.toNatClampNeg else -2) else -1
abbrev okPumping (np p n : Int32) : Prop := inR p 0 (np - 1) ∧ inR n 0 50
def vRain (was n : Int32) : Int32 := if inR n 0 50 then was else -2
def vMove (gone away ppl : Nat → Int32) (nh h : Int32) : Int32 := if inR h 0 (nh - 1) then (if gone h.toNatClampNeg < 0 ∧ away h.toNatClampNeg = 0 then ppl h.toNatClampNeg else -3) else -1
abbrev okMove (gone away : Nat → Int32) (nh h : Int32) : Prop := inR h 0 (nh - 1) ∧ gone h.toNatClampNeg < 0 ∧ away h.toNatClampNeg = 0
def vSign (K : Nat) (k c v : Int32) : Int32 := if inR c 0 63 then (if inR k 0 5 ∧ inR v 0 99 then (if K < 30 then nI K else -4) else -2) else -1
abbrev okSign (K : Nat) (k c v : Int32) : Prop := inR c 0 63 ∧ (inR k 0 5 ∧ inR v 0 99) ∧ K < 30
def vMend (mm vl : Nat → Int32) (nk k v : Int32) : Int32 := if inR k 0 (nk - 1) then (if inR v 0 99 then (if mm k.toNatClampNeg < 0 then vl k.toNatClampNeg else -3) else -2) else -1
abbrev okMend (mm : Nat → Int32) (nk k v : Int32) : Prop := inR k 0 (nk - 1) ∧ inR v 0 99 ∧ mm k.toNatClampNeg < 0
def vSignTold (kind cell mon val : Nat → Int32) (nk month k what known : Int32) : Int32 := if inR k 0 (nk - 1) then (if inR known 0 month then (if what = 0 then kind k.toNatClampNeg else if what = 1 then cell k.toNatClampNeg else if what = 2 then mon k.toNatClampNeg else if what = 3 then val k.toNatClampNeg else if what = 4 then sLeast (kind k.toNatClampNeg) (val k.toNatClampNeg) else if what = 5 then sMost (kind k.toNatClampNeg) (val k.toNatClampNeg) else if what = 6 then sTrust (kind k.toNatClampNeg) else -2) else -2) else -1
def vSpan (kind cell mon val : Nat → Int32) (K : Nat) (month c known what : Int32) : Int32 := if inR c 0 63 then (if inR known 0 month ∧ inR what 0 3 then (if sHi kind cell mon val c known (if what < 2 then 0 else 8) K < sLo kind cell mon val c known (if what < 2 then 0 else 8) K then -3 else if what - what / 2 * 2 = 0 then sLo kind cell mon val c known (if what < 2 then 0 else 8) K else sHi kind cell mon val c known (if what < 2 then 0 else 8) K) else -2) else -1
def vLost (L : Nat) (c m : Int32) : Int32 := if inR c 0 63 then (if inR m 1 400 then (if L < 8 then nI L else -4) else -2) else -1
abbrev okLost (L : Nat) (c m : Int32) : Prop := inR c 0 63 ∧ inR m 1 400 ∧ L < 8
def vFitTold (best least great : Nat → Int32) (nc rivals i what : Int32) : Int32 := if inR i 0 (nc - 1) then (if inR what 0 3 then (if rivals = 0 then -3 else if what = 0 then best i.toNatClampNeg else if what = 1 then least i.toNatClampNeg else if what = 2 then great i.toNatClampNeg else rivals) else -2) else -1
def vForce (nt rule t : Int32) : Int32 := if inR t 0 (nt - 1) then rule else -2
def vWarn (fell : Nat → Int32) (Wn : Nat) (c : Int32) : Int32 := if inR c 0 63 then (if fell c.toNatClampNeg < 0 then (if Wn < 30 then nI Wn else -4) else -3) else -1
abbrev okWarn (fell : Nat → Int32) (Wn : Nat) (c : Int32) : Prop := inR c 0 63 ∧ fell c.toNatClampNeg < 0 ∧ Wn < 30
def vCellTold (rock water fell hollow : Nat → Int32) (ppl c what : Int32) : Int32 := if inR c 0 63 then (if what = 0 then rock c.toNatClampNeg else if what = 1 then water c.toNatClampNeg else if what = 2 then fell c.toNatClampNeg else if what = 3 then (if fell c.toNatClampNeg < 0 then -3 else hollow c.toNatClampNeg) else if what = 4 then ppl else -7) else -5
def vHouseTold (hc w p gone away : Nat → Int32) (nh h what : Int32) : Int32 := if inR h 0 (nh - 1) then (if what = 0 then hc h.toNatClampNeg else if what = 1 then w h.toNatClampNeg else if what = 2 then p h.toNatClampNeg else if what = 3 then gone h.toNatClampNeg else if what = 4 then (if away h.toNatClampNeg = 0 then 0 else 1) else -7) else -5
def vCount (month signs houses pumps fallen harm warns texts rule fed losts rain what : Int32) : Int32 := if what = 0 then month else if what = 1 then signs else if what = 2 then houses else if what = 3 then pumps else if what = 4 then fallen else if what = 5 then harm else if what = 6 then warns else if what = 7 then texts else if what = 8 then rule else if what = 9 then fed else if what = 10 then losts else if what = 11 then rain else -2
def tX9_isFull : List (Nat × Instr × Nat) := [(0, .aload_n 0, 1), (1, .getfield 9, 3), (4, .aload_n 0, 1), (5, .getfield 21, 3), (8, .arraylength, 1), (9, .if_icmp .lt 7, 3), (12, .iconst 1, 1), (13, .goto 4, 3), (16, .iconst 0, 1), (17, .ireturn, 1)]
theorem dtX9_isFull : dec_ok mX9_isFull.2.1 tX9_isFull = true := by decide +kernel
set_option maxHeartbeats 4000000 in
theorem c_X9_isFull_49 {I : Wd} {N : Nat} (hN : I 49 0 = nI N) (hN2 : N ≤ 8) : Cal SyC mX9_isFull 0 [.ref 49] I (some (.int (bi (¬ N < 8)))) I := by
  refine Cal.of (by decide) (Nat.le_of_ble_eq_true rfl) ?_
  show Bd _ _ _ _ [(0, _)] _ _ _ _
  refine b_aload_n (pc := 0) (i := 0) (dd dtX9_isFull 0 rfl) rfl rfl ?_
  refine b_geti (pc := 1) (dd dtX9_isFull 1 rfl) fwX9_9 pC_49 ?_
  refine b_aload_n (pc := 4) (i := 0) (dd dtX9_isFull 2 rfl) rfl rfl ?_
  refine b_geta (pc := 5) (dd dtX9_isFull 3 rfl) fwX9_21 pC_49 rC_49_1 ?_
  refine b_alen (pc := 8) (v := 8) (dd dtX9_isFull 4 rfl) pC_50 (by decide) (by decide) ?_
  rw [hN]
  refine b_icmp_lt (pc := 9) (tgt := 16) (dd dtX9_isFull 5 rfl) (by decide) (fun h9 => ?_) (fun h9 => ?_)
  · refine b_ic0 (pc := 16) (dd dtX9_isFull 8 rfl) ?_
    refine b_eq (b_zret (dd dtX9_isFull 9 rfl) rfl (by first | rfl | exact nar_bi)) ?_ ?_
    · rw [show (8 : Int32) = nI 8 from rfl, nlt_lit (by omega) (by decide)] at h9; simp [bi, *]
    · rfl
  · refine b_ic1 (pc := 12) (dd dtX9_isFull 6 rfl) ?_
    refine b_goto (pc := 13) (tgt := 17) (dd dtX9_isFull 7 rfl) (by decide) ?_
    refine b_eq (b_zret (dd dtX9_isFull 9 rfl) rfl (by first | rfl | exact nar_bi)) ?_ ?_
    · rw [show (8 : Int32) = nI 8 from rfl, nlt_lit (by omega) (by decide)] at h9; simp [bi, *]
    · rfl
def tX9_add : List (Nat × Instr × Nat) := [(0, .aload_n 0, 1), (1, .invokevirtual 31, 3), (4, .ifCond .eq 6, 3), (7, .bipush (-4), 2), (9, .ireturn, 1), (10, .aload_n 0, 1), (11, .getfield 21, 3), (14, .aload_n 0, 1), (15, .getfield 9, 3), (18, .iload_n 1, 1), (19, .iastore, 1), (20, .aload_n 0, 1), (21, .getfield 25, 3), (24, .aload_n 0, 1), (25, .getfield 9, 3), (28, .iload_n 2, 1), (29, .iastore, 1), (30, .aload_n 0, 1), (31, .getfield 28, 3), (34, .aload_n 0, 1), (35, .getfield 9, 3), (38, .iload_n 3, 1), (39, .iastore, 1), (40, .aload_n 0, 1), (41, .dup, 1), (42, .getfield 9, 3), (45, .iconst 1, 1), (46, .iadd, 1), (47, .putfield 9, 3), (50, .aload_n 0, 1), (51, .getfield 9, 3), (54, .iconst 1, 1), (55, .isub, 1), (56, .ireturn, 1)]
theorem dtX9_add : dec_ok mX9_add.2.1 tX9_add = true := by decide +kernel
set_option maxHeartbeats 4000000 in
theorem c_X9_add_49 {I : Wd} {N : Nat} {c u m : Int32} (hN : I 49 0 = nI N) (hN2 : N < 8) : Cal SyC mX9_add 1 [.ref 49, .int c, .int u, .int m] I (some (.int (nI N))) (ist (ist (ist (ist I 50 N c) 51 N u) 52 N m) 49 0 (nI (N + 1))) := by
  refine Cal.of (by decide) (Nat.le_of_ble_eq_true rfl) ?_
  show Bd _ _ _ _ [(0, _), (1, _), (2, _), (3, _)] _ _ _ _
  refine b_aload_n (pc := 0) (i := 0) (dd dtX9_add 0 rfl) rfl rfl ?_
  refine b_invV (pc := 1) (dd dtX9_add 1 rfl) mlX9_31 mvX9_isFull miX9_isFull (c_X9_isFull_49 hN (by omega)) oC_49 rfl rfl (by decide) (Nat.le_of_ble_eq_true rfl) ?_
  refine b_ifn_eq (pc := 4) (tgt := 10) (dd dtX9_add 2 rfl) (by decide) (fun h4 => ?_) (fun h4 => ?_)
  · refine b_aload_n (pc := 10) (i := 0) (dd dtX9_add 5 rfl) rfl rfl ?_
    refine b_geta (pc := 11) (dd dtX9_add 6 rfl) fwX9_21 pC_49 rC_49_1 ?_
    refine b_aload_n (pc := 14) (i := 0) (dd dtX9_add 7 rfl) rfl rfl ?_
    refine b_geti (pc := 15) (dd dtX9_add 8 rfl) fwX9_9 pC_49 ?_
    refine b_iload_n (pc := 18) (i := 1) (dd dtX9_add 9 rfl) rfl rfl ?_
    refine b_iast (pc := 19) (dd dtX9_add 10 rfl) pC_50 (by simp only [ist_eq, ist_ne, upd_eq, upd_ne, ne_eq, Nat.reduceEqDiff, not_false_eq_true, hN]; exact vpn rfl hN2 (by decide)) ?_
    refine b_aload_n (pc := 20) (i := 0) (dd dtX9_add 11 rfl) rfl rfl ?_
    refine b_geta (pc := 21) (dd dtX9_add 12 rfl) fwX9_25 pC_49 rC_49_2 ?_
    refine b_aload_n (pc := 24) (i := 0) (dd dtX9_add 13 rfl) rfl rfl ?_
    refine b_geti (pc := 25) (dd dtX9_add 14 rfl) fwX9_9 pC_49 ?_
    refine b_iload_n (pc := 28) (i := 2) (dd dtX9_add 15 rfl) rfl rfl ?_
    refine b_iast (pc := 29) (dd dtX9_add 16 rfl) pC_51 (by simp only [ist_eq, ist_ne, upd_eq, upd_ne, ne_eq, Nat.reduceEqDiff, not_false_eq_true, hN]; exact vpn rfl hN2 (by decide)) ?_
    refine b_aload_n (pc := 30) (i := 0) (dd dtX9_add 17 rfl) rfl rfl ?_
    refine b_geta (pc := 31) (dd dtX9_add 18 rfl) fwX9_28 pC_49 rC_49_3 ?_
    refine b_aload_n (pc := 34) (i := 0) (dd dtX9_add 19 rfl) rfl rfl ?_
    refine b_geti (pc := 35) (dd dtX9_add 20 rfl) fwX9_9 pC_49 ?_
    refine b_iload_n (pc := 38) (i := 3) (dd dtX9_add 21 rfl) rfl rfl ?_
    refine b_iast (pc := 39) (dd dtX9_add 22 rfl) pC_52 (by simp only [ist_eq, ist_ne, upd_eq, upd_ne, ne_eq, Nat.reduceEqDiff, not_false_eq_true, hN]; exact vpn rfl hN2 (by decide)) ?_
    refine b_aload_n (pc := 40) (i := 0) (dd dtX9_add 23 rfl) rfl rfl ?_
    refine b_dup (pc := 41) (dd dtX9_add 24 rfl) rfl ?_
    refine b_geti (pc := 42) (dd dtX9_add 25 rfl) fwX9_9 pC_49 ?_
    refine b_ic1 (pc := 45) (dd dtX9_add 26 rfl) ?_
    refine b_iadd (pc := 46) (dd dtX9_add 27 rfl) ?_
    refine b_puti (pc := 47) (dd dtX9_add 28 rfl) fwX9_9 pC_49 ?_
    refine b_aload_n (pc := 50) (i := 0) (dd dtX9_add 29 rfl) rfl rfl ?_
    refine b_geti (pc := 51) (dd dtX9_add 30 rfl) fwX9_9 pC_49 ?_
    refine b_ic1 (pc := 54) (dd dtX9_add 31 rfl) ?_
    refine b_isub (pc := 55) (dd dtX9_add 32 rfl) ?_
    refine b_eq (b_iret (dd dtX9_add 33 rfl) rfl) ?_ ?_
    · simp [ist_eq, ist_ne, upd_eq, upd_ne, hN, nI_1, nI_pred]
    · simp [ist_eq, ist_ne, upd_eq, upd_ne, hN, nI_1, nI_clamp (show N < 2 ^ 31 by omega)]
  · exact absurd hN2 h4
set_option maxHeartbeats 4000000 in
theorem c_X9_isFull_53 {I : Wd} {N : Nat} (hN : I 53 0 = nI N) (hN2 : N ≤ 30) : Cal SyC mX9_isFull 0 [.ref 53] I (some (.int (bi (¬ N < 30)))) I := by
  refine Cal.of (by decide) (Nat.le_of_ble_eq_true rfl) ?_
  show Bd _ _ _ _ [(0, _)] _ _ _ _
  refine b_aload_n (pc := 0) (i := 0) (dd dtX9_isFull 0 rfl) rfl rfl ?_
  refine b_geti (pc := 1) (dd dtX9_isFull 1 rfl) fwX9_9 pC_53 ?_
  refine b_aload_n (pc := 4) (i := 0) (dd dtX9_isFull 2 rfl) rfl rfl ?_
  refine b_geta (pc := 5) (dd dtX9_isFull 3 rfl) fwX9_21 pC_53 rC_53_1 ?_
  refine b_alen (pc := 8) (v := 30) (dd dtX9_isFull 4 rfl) pC_54 (by decide) (by decide) ?_
  rw [hN]
  refine b_icmp_lt (pc := 9) (tgt := 16) (dd dtX9_isFull 5 rfl) (by decide) (fun h9 => ?_) (fun h9 => ?_)
  · refine b_ic0 (pc := 16) (dd dtX9_isFull 8 rfl) ?_
    refine b_eq (b_zret (dd dtX9_isFull 9 rfl) rfl (by first | rfl | exact nar_bi)) ?_ ?_
    · rw [show (30 : Int32) = nI 30 from rfl, nlt_lit (by omega) (by decide)] at h9; simp [bi, *]
    · rfl
  · refine b_ic1 (pc := 12) (dd dtX9_isFull 6 rfl) ?_
    refine b_goto (pc := 13) (tgt := 17) (dd dtX9_isFull 7 rfl) (by decide) ?_
    refine b_eq (b_zret (dd dtX9_isFull 9 rfl) rfl (by first | rfl | exact nar_bi)) ?_ ?_
    · rw [show (30 : Int32) = nI 30 from rfl, nlt_lit (by omega) (by decide)] at h9; simp [bi, *]
    · rfl
set_option maxHeartbeats 4000000 in
theorem c_X9_add_53 {I : Wd} {N : Nat} {c u m : Int32} (hN : I 53 0 = nI N) (hN2 : N < 30) : Cal SyC mX9_add 1 [.ref 53, .int c, .int u, .int m] I (some (.int (nI N))) (ist (ist (ist (ist I 54 N c) 55 N u) 56 N m) 53 0 (nI (N + 1))) := by
  refine Cal.of (by decide) (Nat.le_of_ble_eq_true rfl) ?_
  show Bd _ _ _ _ [(0, _), (1, _), (2, _), (3, _)] _ _ _ _
  refine b_aload_n (pc := 0) (i := 0) (dd dtX9_add 0 rfl) rfl rfl ?_
  refine b_invV (pc := 1) (dd dtX9_add 1 rfl) mlX9_31 mvX9_isFull miX9_isFull (c_X9_isFull_53 hN (by omega)) oC_53 rfl rfl (by decide) (Nat.le_of_ble_eq_true rfl) ?_
  refine b_ifn_eq (pc := 4) (tgt := 10) (dd dtX9_add 2 rfl) (by decide) (fun h4 => ?_) (fun h4 => ?_)
  · refine b_aload_n (pc := 10) (i := 0) (dd dtX9_add 5 rfl) rfl rfl ?_
    refine b_geta (pc := 11) (dd dtX9_add 6 rfl) fwX9_21 pC_53 rC_53_1 ?_
    refine b_aload_n (pc := 14) (i := 0) (dd dtX9_add 7 rfl) rfl rfl ?_
    refine b_geti (pc := 15) (dd dtX9_add 8 rfl) fwX9_9 pC_53 ?_
    refine b_iload_n (pc := 18) (i := 1) (dd dtX9_add 9 rfl) rfl rfl ?_
    refine b_iast (pc := 19) (dd dtX9_add 10 rfl) pC_54 (by simp only [ist_eq, ist_ne, upd_eq, upd_ne, ne_eq, Nat.reduceEqDiff, not_false_eq_true, hN]; exact vpn rfl hN2 (by decide)) ?_
    refine b_aload_n (pc := 20) (i := 0) (dd dtX9_add 11 rfl) rfl rfl ?_
    refine b_geta (pc := 21) (dd dtX9_add 12 rfl) fwX9_25 pC_53 rC_53_2 ?_
    refine b_aload_n (pc := 24) (i := 0) (dd dtX9_add 13 rfl) rfl rfl ?_
    refine b_geti (pc := 25) (dd dtX9_add 14 rfl) fwX9_9 pC_53 ?_
    refine b_iload_n (pc := 28) (i := 2) (dd dtX9_add 15 rfl) rfl rfl ?_
    refine b_iast (pc := 29) (dd dtX9_add 16 rfl) pC_55 (by simp only [ist_eq, ist_ne, upd_eq, upd_ne, ne_eq, Nat.reduceEqDiff, not_false_eq_true, hN]; exact vpn rfl hN2 (by decide)) ?_
    refine b_aload_n (pc := 30) (i := 0) (dd dtX9_add 17 rfl) rfl rfl ?_
    refine b_geta (pc := 31) (dd dtX9_add 18 rfl) fwX9_28 pC_53 rC_53_3 ?_
    refine b_aload_n (pc := 34) (i := 0) (dd dtX9_add 19 rfl) rfl rfl ?_
    refine b_geti (pc := 35) (dd dtX9_add 20 rfl) fwX9_9 pC_53 ?_
    refine b_iload_n (pc := 38) (i := 3) (dd dtX9_add 21 rfl) rfl rfl ?_
    refine b_iast (pc := 39) (dd dtX9_add 22 rfl) pC_56 (by simp only [ist_eq, ist_ne, upd_eq, upd_ne, ne_eq, Nat.reduceEqDiff, not_false_eq_true, hN]; exact vpn rfl hN2 (by decide)) ?_
    refine b_aload_n (pc := 40) (i := 0) (dd dtX9_add 23 rfl) rfl rfl ?_
    refine b_dup (pc := 41) (dd dtX9_add 24 rfl) rfl ?_
    refine b_geti (pc := 42) (dd dtX9_add 25 rfl) fwX9_9 pC_53 ?_
    refine b_ic1 (pc := 45) (dd dtX9_add 26 rfl) ?_
    refine b_iadd (pc := 46) (dd dtX9_add 27 rfl) ?_
    refine b_puti (pc := 47) (dd dtX9_add 28 rfl) fwX9_9 pC_53 ?_
    refine b_aload_n (pc := 50) (i := 0) (dd dtX9_add 29 rfl) rfl rfl ?_
    refine b_geti (pc := 51) (dd dtX9_add 30 rfl) fwX9_9 pC_53 ?_
    refine b_ic1 (pc := 54) (dd dtX9_add 31 rfl) ?_
    refine b_isub (pc := 55) (dd dtX9_add 32 rfl) ?_
    refine b_eq (b_iret (dd dtX9_add 33 rfl) rfl) ?_ ?_
    · simp [ist_eq, ist_ne, upd_eq, upd_ne, hN, nI_1, nI_pred]
    · simp [ist_eq, ist_ne, upd_eq, upd_ne, hN, nI_1, nI_clamp (show N < 2 ^ 31 by omega)]
  · exact absurd hN2 h4
theorem c_X2_hasFallen_6 {I : Wd} {c : Int32} (hc : vp_in c 64) : Cal SyC mX2_hasFallen 0 [.ref 6, .int c] I (some (.int (bi (¬ I 10 c.toNatClampNeg < 0)))) I := c_X2_hasFallen (g := 6) (Or.inl rfl) hc
theorem c_X2_peopleAt_6 {I : Wd} {N : Nat} {c : Int32} (hN : I 1 0 = nI N) (hN2 : N ≤ 14) : Cal SyC mX2_peopleAt 0 [.ref 6, .int c] I (some (.int (sPeople (I 2) (I 14) (I 15) (I 4) c N))) I := c_X2_peopleAt (g := 6) (Or.inl rfl) hN hN2
def tX10_ground : List (Nat × Instr × Nat) := [(0, .iload_n 1, 1), (1, .invokestatic 93, 3), (4, .ifCond .ne 5, 3), (7, .iconst (-1), 1), (8, .ireturn, 1), (9, .iload_n 2, 1), (10, .iconst 0, 1), (11, .iconst 3, 1), (12, .invokestatic 97, 3), (15, .ifCond .eq 14, 3), (18, .iload_n 3, 1), (19, .iconst 0, 1), (20, .sipush 200, 3), (23, .invokestatic 97, 3), (26, .ifCond .ne 6, 3), (29, .bipush (-2), 2), (31, .ireturn, 1), (32, .aload_n 0, 1), (33, .getfield 21, 3), (36, .iload_n 1, 1), (37, .invokevirtual 101, 3), (40, .ifCond .eq 6, 3), (43, .bipush (-3), 2), (45, .ireturn, 1), (46, .aload_n 0, 1), (47, .getfield 21, 3), (50, .getfield 104, 3), (53, .iload_n 1, 1), (54, .iaload, 1), (55, .istore 4, 2), (57, .aload_n 0, 1), (58, .getfield 21, 3), (61, .getfield 107, 3), (64, .iload_n 1, 1), (65, .iload_n 2, 1), (66, .iastore, 1), (67, .aload_n 0, 1), (68, .getfield 21, 3), (71, .getfield 104, 3), (74, .iload_n 1, 1), (75, .iload_n 3, 1), (76, .iastore, 1), (77, .iload 4, 2), (79, .ireturn, 1)]
theorem dtX10_ground : dec_ok mX10_ground.2.1 tX10_ground = true := by decide +kernel
set_option maxHeartbeats 4000000 in
theorem c_X10_ground {I : Wd} {c r h : Int32} : Cal SyC mX10_ground 2 [.ref 0, .int c, .int r, .int h] I (some (.int (vGround (I 10) (I 8) c r h))) (if okGround (I 10) c r h then ist (ist I 7 c.toNatClampNeg r) 8 c.toNatClampNeg h else I) := by
  refine Cal.of (by decide) (Nat.le_of_ble_eq_true rfl) ?_
  show Bd _ _ _ _ [(0, _), (1, _), (2, _), (3, _)] _ _ _ _
  refine b_iload_n (pc := 0) (i := 1) (dd dtX10_ground 0 rfl) rfl rfl ?_
  refine b_invS (pc := 1) (dd dtX10_ground 1 rfl) mlX10_93 mvX10_isCell msX10_isCell (c_X10_isCell) rfl rfl (by decide) (Nat.le_of_ble_eq_true rfl) ?_
  refine b_ifb_ne (pc := 4) (tgt := 9) (dd dtX10_ground 2 rfl) (by decide) (fun h4 => ?_) (fun h4 => ?_)
  · refine b_iload_n (pc := 9) (i := 2) (dd dtX10_ground 5 rfl) rfl rfl ?_
    refine b_ic0 (pc := 10) (dd dtX10_ground 6 rfl) ?_
    refine b_ic3 (pc := 11) (dd dtX10_ground 7 rfl) ?_
    refine b_invS (pc := 12) (dd dtX10_ground 8 rfl) mlX10_97 mvX10_within msX10_within (c_X10_within) rfl rfl (by decide) (Nat.le_of_ble_eq_true rfl) ?_
    refine b_ifb_eq (pc := 15) (tgt := 29) (dd dtX10_ground 9 rfl) (by decide) (fun h15 => ?_) (fun h15 => ?_)
    · refine b_bipush (pc := 29) (v := -2) (dd dtX10_ground 15 rfl) (by decide) ?_
      refine b_eq (b_iret (dd dtX10_ground 16 rfl) rfl) ?_ ?_
      · (try clear hN); simp [inR, vGround, okGround, -Int32.not_lt, -Int32.not_le, *]
      · (try clear hN); simp [inR, vGround, okGround, -Int32.not_lt, -Int32.not_le, *]
    · refine b_iload_n (pc := 18) (i := 3) (dd dtX10_ground 10 rfl) rfl rfl ?_
      refine b_ic0 (pc := 19) (dd dtX10_ground 11 rfl) ?_
      refine b_sipush (pc := 20) (v := 200) (dd dtX10_ground 12 rfl) (by decide) ?_
      refine b_invS (pc := 23) (dd dtX10_ground 13 rfl) mlX10_97 mvX10_within msX10_within (c_X10_within) rfl rfl (by decide) (Nat.le_of_ble_eq_true rfl) ?_
      refine b_ifb_ne (pc := 26) (tgt := 32) (dd dtX10_ground 14 rfl) (by decide) (fun h26 => ?_) (fun h26 => ?_)
      · refine b_aload_n (pc := 32) (i := 0) (dd dtX10_ground 17 rfl) rfl rfl ?_
        refine b_geta (pc := 33) (dd dtX10_ground 18 rfl) fwX10_21 pC_0 rC_0_1 ?_
        refine b_iload_n (pc := 36) (i := 1) (dd dtX10_ground 19 rfl) rfl rfl ?_
        refine b_invV (pc := 37) (dd dtX10_ground 20 rfl) mlX10_101 mvX2_hasFallen miX2_hasFallen (c_X2_hasFallen_6 (vpc (by assumption) (by decide))) oC_6 rfl rfl (by decide) (Nat.le_of_ble_eq_true rfl) ?_
        refine b_ifn_eq (pc := 40) (tgt := 46) (dd dtX10_ground 21 rfl) (by decide) (fun h40 => ?_) (fun h40 => ?_)
        · refine b_aload_n (pc := 46) (i := 0) (dd dtX10_ground 24 rfl) rfl rfl ?_
          refine b_geta (pc := 47) (dd dtX10_ground 25 rfl) fwX10_21 pC_0 rC_0_1 ?_
          refine b_geta (pc := 50) (dd dtX10_ground 26 rfl) fwX10_104 pC_6 rC_6_6 ?_
          refine b_iload_n (pc := 53) (i := 1) (dd dtX10_ground 27 rfl) rfl rfl ?_
          refine b_iald (pc := 54) (dd dtX10_ground 28 rfl) pC_8 (vpc (by assumption) (by decide)) ?_
          refine b_istore (pc := 55) (i := 4) (lv' := [(4, _), (0, _), (1, _), (2, _), (3, _)]) (dd dtX10_ground 29 rfl) (Nat.le_of_ble_eq_true rfl) rfl ?_
          refine b_aload_n (pc := 57) (i := 0) (dd dtX10_ground 30 rfl) rfl rfl ?_
          refine b_geta (pc := 58) (dd dtX10_ground 31 rfl) fwX10_21 pC_0 rC_0_1 ?_
          refine b_geta (pc := 61) (dd dtX10_ground 32 rfl) fwX10_107 pC_6 rC_6_5 ?_
          refine b_iload_n (pc := 64) (i := 1) (dd dtX10_ground 33 rfl) rfl rfl ?_
          refine b_iload_n (pc := 65) (i := 2) (dd dtX10_ground 34 rfl) rfl rfl ?_
          refine b_iast (pc := 66) (dd dtX10_ground 35 rfl) pC_7 (vpc (by assumption) (by decide)) ?_
          refine b_aload_n (pc := 67) (i := 0) (dd dtX10_ground 36 rfl) rfl rfl ?_
          refine b_geta (pc := 68) (dd dtX10_ground 37 rfl) fwX10_21 pC_0 rC_0_1 ?_
          refine b_geta (pc := 71) (dd dtX10_ground 38 rfl) fwX10_104 pC_6 rC_6_6 ?_
          refine b_iload_n (pc := 74) (i := 1) (dd dtX10_ground 39 rfl) rfl rfl ?_
          refine b_iload_n (pc := 75) (i := 3) (dd dtX10_ground 40 rfl) rfl rfl ?_
          refine b_iast (pc := 76) (dd dtX10_ground 41 rfl) pC_8 (vpc (by assumption) (by decide)) ?_
          refine b_iload (pc := 77) (i := 4) (dd dtX10_ground 42 rfl) rfl ?_
          refine b_eq (b_iret (dd dtX10_ground 43 rfl) rfl) ?_ ?_
          · (try clear hN); simp [inR, vGround, okGround, -Int32.not_lt, -Int32.not_le, *]
          · (try clear hN); simp [inR, vGround, okGround, -Int32.not_lt, -Int32.not_le, *]
        · refine b_bipush (pc := 43) (v := -3) (dd dtX10_ground 22 rfl) (by decide) ?_
          refine b_eq (b_iret (dd dtX10_ground 23 rfl) rfl) ?_ ?_
          · (try clear hN); simp [inR, vGround, okGround, -Int32.not_lt, -Int32.not_le, *]
          · (try clear hN); simp [inR, vGround, okGround, -Int32.not_lt, -Int32.not_le, *]
      · refine b_bipush (pc := 29) (v := -2) (dd dtX10_ground 15 rfl) (by decide) ?_
        refine b_eq (b_iret (dd dtX10_ground 16 rfl) rfl) ?_ ?_
        · (try clear hN); simp [inR, vGround, okGround, -Int32.not_lt, -Int32.not_le, *]
        · (try clear hN); simp [inR, vGround, okGround, -Int32.not_lt, -Int32.not_le, *]
  · refine b_icm1 (pc := 7) (dd dtX10_ground 3 rfl) ?_
    refine b_eq (b_iret (dd dtX10_ground 4 rfl) rfl) ?_ ?_
    · (try clear hN); simp [inR, vGround, okGround, -Int32.not_lt, -Int32.not_le, *]
    · (try clear hN); simp [inR, vGround, okGround, -Int32.not_lt, -Int32.not_le, *]
def tX10_house : List (Nat × Instr × Nat) := [(0, .iload_n 1, 1), (1, .invokestatic 93, 3), (4, .ifCond .ne 5, 3), (7, .iconst (-1), 1), (8, .ireturn, 1), (9, .iload_n 2, 1), (10, .iconst 1, 1), (11, .ldc 110, 2), (13, .invokestatic 97, 3), (16, .ifCond .eq 13, 3), (19, .iload_n 3, 1), (20, .iconst 0, 1), (21, .bipush 99, 2), (23, .invokestatic 97, 3), (26, .ifCond .ne 6, 3), (29, .bipush (-2), 2), (31, .ireturn, 1), (32, .aload_n 0, 1), (33, .getfield 21, 3), (36, .iload_n 1, 1), (37, .invokevirtual 101, 3), (40, .ifCond .eq 6, 3), (43, .bipush (-3), 2), (45, .ireturn, 1), (46, .aload_n 0, 1), (47, .getfield 10, 3), (50, .getfield 111, 3), (53, .bipush 14, 2), (55, .if_icmp .lt 6, 3), (58, .bipush (-4), 2), (60, .ireturn, 1), (61, .aload_n 0, 1), (62, .getfield 10, 3), (65, .iload_n 1, 1), (66, .iload_n 2, 1), (67, .iload_n 3, 1), (68, .invokevirtual 114, 3), (71, .ireturn, 1)]
theorem dtX10_house : dec_ok mX10_house.2.1 tX10_house = true := by decide +kernel
set_option maxHeartbeats 4000000 in
theorem c_X10_house {I : Wd} {N : Nat} {c w p : Int32} (hN : I 1 0 = nI N) (hN2 : N ≤ 14) : Cal SyC mX10_house 2 [.ref 0, .int c, .int w, .int p] I (some (.int (vHouse (I 10) N c w p))) (if okHouse (I 10) N c w p then (ist (ist (ist (ist I 2 N c) 3 N w) 4 N p) 1 0 (nI (N + 1))) else I) := by
  refine Cal.of (by decide) (Nat.le_of_ble_eq_true rfl) ?_
  show Bd _ _ _ _ [(0, _), (1, _), (2, _), (3, _)] _ _ _ _
  refine b_iload_n (pc := 0) (i := 1) (dd dtX10_house 0 rfl) rfl rfl ?_
  refine b_invS (pc := 1) (dd dtX10_house 1 rfl) mlX10_93 mvX10_isCell msX10_isCell (c_X10_isCell) rfl rfl (by decide) (Nat.le_of_ble_eq_true rfl) ?_
  refine b_ifb_ne (pc := 4) (tgt := 9) (dd dtX10_house 2 rfl) (by decide) (fun h4 => ?_) (fun h4 => ?_)
  · refine b_iload_n (pc := 9) (i := 2) (dd dtX10_house 5 rfl) rfl rfl ?_
    refine b_ic1 (pc := 10) (dd dtX10_house 6 rfl) ?_
    refine b_ldc (pc := 11) (dd dtX10_house 7 rfl) kcX10_110 ?_
    refine b_invS (pc := 13) (dd dtX10_house 8 rfl) mlX10_97 mvX10_within msX10_within (c_X10_within) rfl rfl (by decide) (Nat.le_of_ble_eq_true rfl) ?_
    refine b_ifb_eq (pc := 16) (tgt := 29) (dd dtX10_house 9 rfl) (by decide) (fun h16 => ?_) (fun h16 => ?_)
    · refine b_bipush (pc := 29) (v := -2) (dd dtX10_house 15 rfl) (by decide) ?_
      refine b_eq (b_iret (dd dtX10_house 16 rfl) rfl) ?_ ?_
      · (try clear hN); simp [inR, vHouse, okHouse, -Int32.not_lt, -Int32.not_le, *]
      · (try clear hN); simp [inR, vHouse, okHouse, -Int32.not_lt, -Int32.not_le, *]
    · refine b_iload_n (pc := 19) (i := 3) (dd dtX10_house 10 rfl) rfl rfl ?_
      refine b_ic0 (pc := 20) (dd dtX10_house 11 rfl) ?_
      refine b_bipush (pc := 21) (v := 99) (dd dtX10_house 12 rfl) (by decide) ?_
      refine b_invS (pc := 23) (dd dtX10_house 13 rfl) mlX10_97 mvX10_within msX10_within (c_X10_within) rfl rfl (by decide) (Nat.le_of_ble_eq_true rfl) ?_
      refine b_ifb_ne (pc := 26) (tgt := 32) (dd dtX10_house 14 rfl) (by decide) (fun h26 => ?_) (fun h26 => ?_)
      · refine b_aload_n (pc := 32) (i := 0) (dd dtX10_house 17 rfl) rfl rfl ?_
        refine b_geta (pc := 33) (dd dtX10_house 18 rfl) fwX10_21 pC_0 rC_0_1 ?_
        refine b_iload_n (pc := 36) (i := 1) (dd dtX10_house 19 rfl) rfl rfl ?_
        refine b_invV (pc := 37) (dd dtX10_house 20 rfl) mlX10_101 mvX2_hasFallen miX2_hasFallen (c_X2_hasFallen_6 (vpc (by assumption) (by decide))) oC_6 rfl rfl (by decide) (Nat.le_of_ble_eq_true rfl) ?_
        refine b_ifn_eq (pc := 40) (tgt := 46) (dd dtX10_house 21 rfl) (by decide) (fun h40 => ?_) (fun h40 => ?_)
        · refine b_aload_n (pc := 46) (i := 0) (dd dtX10_house 24 rfl) rfl rfl ?_
          refine b_geta (pc := 47) (dd dtX10_house 25 rfl) fwX10_10 pC_0 rC_0_0 ?_
          refine b_geti (pc := 50) (dd dtX10_house 26 rfl) fwX10_111 pC_1 ?_
          refine b_bipush (pc := 53) (v := 14) (dd dtX10_house 27 rfl) (by decide) ?_
          rw [hN]
          refine b_icmp_lt (pc := 55) (tgt := 61) (dd dtX10_house 28 rfl) (by decide) (fun h55 => ?_) (fun h55 => ?_)
          · rw [show (14 : Int32) = nI 14 from rfl, nlt_lit (by omega) (by decide)] at h55
            refine b_aload_n (pc := 61) (i := 0) (dd dtX10_house 31 rfl) rfl rfl ?_
            refine b_geta (pc := 62) (dd dtX10_house 32 rfl) fwX10_10 pC_0 rC_0_0 ?_
            refine b_iload_n (pc := 65) (i := 1) (dd dtX10_house 33 rfl) rfl rfl ?_
            refine b_iload_n (pc := 66) (i := 2) (dd dtX10_house 34 rfl) rfl rfl ?_
            refine b_iload_n (pc := 67) (i := 3) (dd dtX10_house 35 rfl) rfl rfl ?_
            refine b_invV (pc := 68) (dd dtX10_house 36 rfl) mlX10_114 mvX0_addHouse miX0_addHouse (c_X0_addHouse hN (by assumption)) oC_1 rfl rfl (by decide) (Nat.le_of_ble_eq_true rfl) ?_
            refine b_eq (b_iret (dd dtX10_house 37 rfl) rfl) ?_ ?_
            · (try clear hN); simp [inR, vHouse, okHouse, -Int32.not_lt, -Int32.not_le, *]
            · (try clear hN); simp [inR, vHouse, okHouse, -Int32.not_lt, -Int32.not_le, *]
          · rw [show (14 : Int32) = nI 14 from rfl, nlt_lit (by omega) (by decide)] at h55
            refine b_bipush (pc := 58) (v := -4) (dd dtX10_house 29 rfl) (by decide) ?_
            refine b_eq (b_iret (dd dtX10_house 30 rfl) rfl) ?_ ?_
            · (try clear hN); simp [inR, vHouse, okHouse, -Int32.not_lt, -Int32.not_le, *]
            · (try clear hN); simp [inR, vHouse, okHouse, -Int32.not_lt, -Int32.not_le, *]
        · refine b_bipush (pc := 43) (v := -3) (dd dtX10_house 22 rfl) (by decide) ?_
          refine b_eq (b_iret (dd dtX10_house 23 rfl) rfl) ?_ ?_
          · (try clear hN); simp [inR, vHouse, okHouse, -Int32.not_lt, -Int32.not_le, *]
          · (try clear hN); simp [inR, vHouse, okHouse, -Int32.not_lt, -Int32.not_le, *]
      · refine b_bipush (pc := 29) (v := -2) (dd dtX10_house 15 rfl) (by decide) ?_
        refine b_eq (b_iret (dd dtX10_house 16 rfl) rfl) ?_ ?_
        · (try clear hN); simp [inR, vHouse, okHouse, -Int32.not_lt, -Int32.not_le, *]
        · (try clear hN); simp [inR, vHouse, okHouse, -Int32.not_lt, -Int32.not_le, *]
  · refine b_icm1 (pc := 7) (dd dtX10_house 3 rfl) ?_
    refine b_eq (b_iret (dd dtX10_house 4 rfl) rfl) ?_ ?_
    · (try clear hN); simp [inR, vHouse, okHouse, -Int32.not_lt, -Int32.not_le, *]
    · (try clear hN); simp [inR, vHouse, okHouse, -Int32.not_lt, -Int32.not_le, *]
def tX10_pump : List (Nat × Instr × Nat) := [(0, .iload_n 1, 1), (1, .invokestatic 93, 3), (4, .ifCond .ne 5, 3), (7, .iconst (-1), 1), (8, .ireturn, 1), (9, .aload_n 0, 1), (10, .getfield 10, 3), (13, .getfield 118, 3), (16, .bipush 6, 2), (18, .if_icmp .lt 6, 3), (21, .bipush (-4), 2), (23, .ireturn, 1), (24, .aload_n 0, 1), (25, .getfield 10, 3), (28, .iload_n 1, 1), (29, .invokevirtual 121, 3), (32, .ireturn, 1)]
theorem dtX10_pump : dec_ok mX10_pump.2.1 tX10_pump = true := by decide +kernel
set_option maxHeartbeats 4000000 in
theorem c_X10_pump {I : Wd} {P : Nat} {c : Int32} (hN : I 1 1 = nI P) (hN2 : P ≤ 6) : Cal SyC mX10_pump 2 [.ref 0, .int c] I (some (.int (vPump P c))) (if okPump P c then (ist (ist I 5 P c) 1 1 (nI (P + 1))) else I) := by
  refine Cal.of (by decide) (Nat.le_of_ble_eq_true rfl) ?_
  show Bd _ _ _ _ [(0, _), (1, _)] _ _ _ _
  refine b_iload_n (pc := 0) (i := 1) (dd dtX10_pump 0 rfl) rfl rfl ?_
  refine b_invS (pc := 1) (dd dtX10_pump 1 rfl) mlX10_93 mvX10_isCell msX10_isCell (c_X10_isCell) rfl rfl (by decide) (Nat.le_of_ble_eq_true rfl) ?_
  refine b_ifb_ne (pc := 4) (tgt := 9) (dd dtX10_pump 2 rfl) (by decide) (fun h4 => ?_) (fun h4 => ?_)
  · refine b_aload_n (pc := 9) (i := 0) (dd dtX10_pump 5 rfl) rfl rfl ?_
    refine b_geta (pc := 10) (dd dtX10_pump 6 rfl) fwX10_10 pC_0 rC_0_0 ?_
    refine b_geti (pc := 13) (dd dtX10_pump 7 rfl) fwX10_118 pC_1 ?_
    refine b_bipush (pc := 16) (v := 6) (dd dtX10_pump 8 rfl) (by decide) ?_
    rw [hN]
    refine b_icmp_lt (pc := 18) (tgt := 24) (dd dtX10_pump 9 rfl) (by decide) (fun h18 => ?_) (fun h18 => ?_)
    · rw [show (6 : Int32) = nI 6 from rfl, nlt_lit (by omega) (by decide)] at h18
      refine b_aload_n (pc := 24) (i := 0) (dd dtX10_pump 12 rfl) rfl rfl ?_
      refine b_geta (pc := 25) (dd dtX10_pump 13 rfl) fwX10_10 pC_0 rC_0_0 ?_
      refine b_iload_n (pc := 28) (i := 1) (dd dtX10_pump 14 rfl) rfl rfl ?_
      refine b_invV (pc := 29) (dd dtX10_pump 15 rfl) mlX10_121 mvX0_addPump miX0_addPump (c_X0_addPump hN (by assumption)) oC_1 rfl rfl (by decide) (Nat.le_of_ble_eq_true rfl) ?_
      refine b_eq (b_iret (dd dtX10_pump 16 rfl) rfl) ?_ ?_
      · (try clear hN); simp [inR, vPump, okPump, -Int32.not_lt, -Int32.not_le, *]
      · (try clear hN); simp [inR, vPump, okPump, -Int32.not_lt, -Int32.not_le, *]
    · rw [show (6 : Int32) = nI 6 from rfl, nlt_lit (by omega) (by decide)] at h18
      refine b_bipush (pc := 21) (v := -4) (dd dtX10_pump 10 rfl) (by decide) ?_
      refine b_eq (b_iret (dd dtX10_pump 11 rfl) rfl) ?_ ?_
      · (try clear hN); simp [inR, vPump, okPump, -Int32.not_lt, -Int32.not_le, *]
      · (try clear hN); simp [inR, vPump, okPump, -Int32.not_lt, -Int32.not_le, *]
  · refine b_icm1 (pc := 7) (dd dtX10_pump 3 rfl) ?_
    refine b_eq (b_iret (dd dtX10_pump 4 rfl) rfl) ?_ ?_
    · (try clear hN); simp [inR, vPump, okPump, -Int32.not_lt, -Int32.not_le, *]
    · (try clear hN); simp [inR, vPump, okPump, -Int32.not_lt, -Int32.not_le, *]
def tX10_pumping : List (Nat × Instr × Nat) := [(0, .iload_n 1, 1), (1, .iconst 0, 1), (2, .aload_n 0, 1), (3, .getfield 10, 3), (6, .getfield 118, 3), (9, .iconst 1, 1), (10, .isub, 1), (11, .invokestatic 97, 3), (14, .ifCond .ne 5, 3), (17, .iconst (-1), 1), (18, .ireturn, 1), (19, .iload_n 2, 1), (20, .iconst 0, 1), (21, .bipush 50, 2), (23, .invokestatic 97, 3), (26, .ifCond .ne 6, 3), (29, .bipush (-2), 2), (31, .ireturn, 1), (32, .aload_n 0, 1), (33, .getfield 21, 3), (36, .getfield 125, 3), (39, .iload_n 1, 1), (40, .iaload, 1), (41, .istore_n 3, 1), (42, .aload_n 0, 1), (43, .getfield 21, 3), (46, .getfield 125, 3), (49, .iload_n 1, 1), (50, .iload_n 2, 1), (51, .iastore, 1), (52, .iload_n 3, 1), (53, .ireturn, 1)]
theorem dtX10_pumping : dec_ok mX10_pumping.2.1 tX10_pumping = true := by decide +kernel
set_option maxHeartbeats 4000000 in
theorem c_X10_pumping {I : Wd} {P : Nat} {p n : Int32} (hN : I 1 1 = nI P) (hN2 : P ≤ 6) : Cal SyC mX10_pumping 1 [.ref 0, .int p, .int n] I (some (.int (vPumping (I 13) (I 1 1) p n))) (if okPumping (I 1 1) p n then ist I 13 p.toNatClampNeg n else I) := by
  refine Cal.of (by decide) (Nat.le_of_ble_eq_true rfl) ?_
  show Bd _ _ _ _ [(0, _), (1, _), (2, _)] _ _ _ _
  refine b_iload_n (pc := 0) (i := 1) (dd dtX10_pumping 0 rfl) rfl rfl ?_
  refine b_ic0 (pc := 1) (dd dtX10_pumping 1 rfl) ?_
  refine b_aload_n (pc := 2) (i := 0) (dd dtX10_pumping 2 rfl) rfl rfl ?_
  refine b_geta (pc := 3) (dd dtX10_pumping 3 rfl) fwX10_10 pC_0 rC_0_0 ?_
  refine b_geti (pc := 6) (dd dtX10_pumping 4 rfl) fwX10_118 pC_1 ?_
  refine b_ic1 (pc := 9) (dd dtX10_pumping 5 rfl) ?_
  refine b_isub (pc := 10) (dd dtX10_pumping 6 rfl) ?_
  refine b_invS (pc := 11) (dd dtX10_pumping 7 rfl) mlX10_97 mvX10_within msX10_within (c_X10_within) rfl rfl (by decide) (Nat.le_of_ble_eq_true rfl) ?_
  refine b_ifb_ne (pc := 14) (tgt := 19) (dd dtX10_pumping 8 rfl) (by decide) (fun h14 => ?_) (fun h14 => ?_)
  · refine b_iload_n (pc := 19) (i := 2) (dd dtX10_pumping 11 rfl) rfl rfl ?_
    refine b_ic0 (pc := 20) (dd dtX10_pumping 12 rfl) ?_
    refine b_bipush (pc := 21) (v := 50) (dd dtX10_pumping 13 rfl) (by decide) ?_
    refine b_invS (pc := 23) (dd dtX10_pumping 14 rfl) mlX10_97 mvX10_within msX10_within (c_X10_within) rfl rfl (by decide) (Nat.le_of_ble_eq_true rfl) ?_
    refine b_ifb_ne (pc := 26) (tgt := 32) (dd dtX10_pumping 15 rfl) (by decide) (fun h26 => ?_) (fun h26 => ?_)
    · refine b_aload_n (pc := 32) (i := 0) (dd dtX10_pumping 18 rfl) rfl rfl ?_
      refine b_geta (pc := 33) (dd dtX10_pumping 19 rfl) fwX10_21 pC_0 rC_0_1 ?_
      refine b_geta (pc := 36) (dd dtX10_pumping 20 rfl) fwX10_125 pC_6 rC_6_11 ?_
      refine b_iload_n (pc := 39) (i := 1) (dd dtX10_pumping 21 rfl) rfl rfl ?_
      refine b_iald (pc := 40) (dd dtX10_pumping 22 rfl) pC_13 (vpm (by rw [hN] at h14; exact h14) hN2 (by decide)) ?_
      refine b_istore_n (pc := 41) (i := 3) (lv' := [(3, _), (0, _), (1, _), (2, _)]) (dd dtX10_pumping 23 rfl) rfl (Nat.le_of_ble_eq_true rfl) rfl ?_
      refine b_aload_n (pc := 42) (i := 0) (dd dtX10_pumping 24 rfl) rfl rfl ?_
      refine b_geta (pc := 43) (dd dtX10_pumping 25 rfl) fwX10_21 pC_0 rC_0_1 ?_
      refine b_geta (pc := 46) (dd dtX10_pumping 26 rfl) fwX10_125 pC_6 rC_6_11 ?_
      refine b_iload_n (pc := 49) (i := 1) (dd dtX10_pumping 27 rfl) rfl rfl ?_
      refine b_iload_n (pc := 50) (i := 2) (dd dtX10_pumping 28 rfl) rfl rfl ?_
      refine b_iast (pc := 51) (dd dtX10_pumping 29 rfl) pC_13 (vpm (by rw [hN] at h14; exact h14) hN2 (by decide)) ?_
      refine b_iload_n (pc := 52) (i := 3) (dd dtX10_pumping 30 rfl) rfl rfl ?_
      refine b_eq (b_iret (dd dtX10_pumping 31 rfl) rfl) ?_ ?_
      · (try clear hN); simp [inR, vPumping, okPumping, -Int32.not_lt, -Int32.not_le, *]
      · (try clear hN); simp [inR, vPumping, okPumping, -Int32.not_lt, -Int32.not_le, *]
    · refine b_bipush (pc := 29) (v := -2) (dd dtX10_pumping 16 rfl) (by decide) ?_
      refine b_eq (b_iret (dd dtX10_pumping 17 rfl) rfl) ?_ ?_
      · (try clear hN); simp [inR, vPumping, okPumping, -Int32.not_lt, -Int32.not_le, *]
      · (try clear hN); simp [inR, vPumping, okPumping, -Int32.not_lt, -Int32.not_le, *]
  · refine b_icm1 (pc := 17) (dd dtX10_pumping 9 rfl) ?_
    refine b_eq (b_iret (dd dtX10_pumping 10 rfl) rfl) ?_ ?_
    · (try clear hN); simp [inR, vPumping, okPumping, -Int32.not_lt, -Int32.not_le, *]
    · (try clear hN); simp [inR, vPumping, okPumping, -Int32.not_lt, -Int32.not_le, *]
def tX10_rain : List (Nat × Instr × Nat) := [(0, .iload_n 1, 1), (1, .iconst 0, 1), (2, .bipush 50, 2), (4, .invokestatic 97, 3), (7, .ifCond .ne 6, 3), (10, .bipush (-2), 2), (12, .ireturn, 1), (13, .aload_n 0, 1), (14, .getfield 21, 3), (17, .getfield 128, 3), (20, .istore_n 2, 1), (21, .aload_n 0, 1), (22, .getfield 21, 3), (25, .iload_n 1, 1), (26, .putfield 128, 3), (29, .iload_n 2, 1), (30, .ireturn, 1)]
theorem dtX10_rain : dec_ok mX10_rain.2.1 tX10_rain = true := by decide +kernel
set_option maxHeartbeats 4000000 in
theorem c_X10_rain {I : Wd} {n : Int32} : Cal SyC mX10_rain 1 [.ref 0, .int n] I (some (.int (vRain (I 6 2) n))) (if inR n 0 50 then ist I 6 2 n else I) := by
  refine Cal.of (by decide) (Nat.le_of_ble_eq_true rfl) ?_
  show Bd _ _ _ _ [(0, _), (1, _)] _ _ _ _
  refine b_iload_n (pc := 0) (i := 1) (dd dtX10_rain 0 rfl) rfl rfl ?_
  refine b_ic0 (pc := 1) (dd dtX10_rain 1 rfl) ?_
  refine b_bipush (pc := 2) (v := 50) (dd dtX10_rain 2 rfl) (by decide) ?_
  refine b_invS (pc := 4) (dd dtX10_rain 3 rfl) mlX10_97 mvX10_within msX10_within (c_X10_within) rfl rfl (by decide) (Nat.le_of_ble_eq_true rfl) ?_
  refine b_ifb_ne (pc := 7) (tgt := 13) (dd dtX10_rain 4 rfl) (by decide) (fun h7 => ?_) (fun h7 => ?_)
  · refine b_aload_n (pc := 13) (i := 0) (dd dtX10_rain 7 rfl) rfl rfl ?_
    refine b_geta (pc := 14) (dd dtX10_rain 8 rfl) fwX10_21 pC_0 rC_0_1 ?_
    refine b_geti (pc := 17) (dd dtX10_rain 9 rfl) fwX10_128 pC_6 ?_
    refine b_istore_n (pc := 20) (i := 2) (lv' := [(2, _), (0, _), (1, _)]) (dd dtX10_rain 10 rfl) rfl (Nat.le_of_ble_eq_true rfl) rfl ?_
    refine b_aload_n (pc := 21) (i := 0) (dd dtX10_rain 11 rfl) rfl rfl ?_
    refine b_geta (pc := 22) (dd dtX10_rain 12 rfl) fwX10_21 pC_0 rC_0_1 ?_
    refine b_iload_n (pc := 25) (i := 1) (dd dtX10_rain 13 rfl) rfl rfl ?_
    refine b_puti (pc := 26) (dd dtX10_rain 14 rfl) fwX10_128 pC_6 ?_
    refine b_iload_n (pc := 29) (i := 2) (dd dtX10_rain 15 rfl) rfl rfl ?_
    refine b_eq (b_iret (dd dtX10_rain 16 rfl) rfl) ?_ ?_
    · (try clear hN); simp [inR, vRain, -Int32.not_lt, -Int32.not_le, *]
    · (try clear hN); simp [inR, vRain, -Int32.not_lt, -Int32.not_le, *]
  · refine b_bipush (pc := 10) (v := -2) (dd dtX10_rain 5 rfl) (by decide) ?_
    refine b_eq (b_iret (dd dtX10_rain 6 rfl) rfl) ?_ ?_
    · (try clear hN); simp [inR, vRain, -Int32.not_lt, -Int32.not_le, *]
    · (try clear hN); simp [inR, vRain, -Int32.not_lt, -Int32.not_le, *]
def tX10_move : List (Nat × Instr × Nat) := [(0, .aload_n 0, 1), (1, .iload_n 1, 1), (2, .invokevirtual 131, 3), (5, .ifCond .ne 5, 3), (8, .iconst (-1), 1), (9, .ireturn, 1), (10, .aload_n 0, 1), (11, .getfield 21, 3), (14, .getfield 134, 3), (17, .iload_n 1, 1), (18, .iaload, 1), (19, .ifCond .ge 15, 3), (22, .aload_n 0, 1), (23, .getfield 21, 3), (26, .getfield 137, 3), (29, .iload_n 1, 1), (30, .baload, 1), (31, .ifCond .eq 6, 3), (34, .bipush (-3), 2), (36, .ireturn, 1), (37, .aload_n 0, 1), (38, .getfield 21, 3), (41, .getfield 137, 3), (44, .iload_n 1, 1), (45, .iconst 1, 1), (46, .bastore, 1), (47, .aload_n 0, 1), (48, .getfield 10, 3), (51, .getfield 141, 3), (54, .iload_n 1, 1), (55, .iaload, 1), (56, .ireturn, 1)]
theorem dtX10_move : dec_ok mX10_move.2.1 tX10_move = true := by decide +kernel
set_option maxHeartbeats 4000000 in
theorem c_X10_move {I : Wd} {N : Nat} {h : Int32} (hN : I 1 0 = nI N) (hN2 : N ≤ 14) : Cal SyC mX10_move 2 [.ref 0, .int h] I (some (.int (vMove (I 14) (I 15) (I 4) (I 1 0) h))) (if okMove (I 14) (I 15) (I 1 0) h then ist I 15 h.toNatClampNeg 1 else I) := by
  refine Cal.of (by decide) (Nat.le_of_ble_eq_true rfl) ?_
  show Bd _ _ _ _ [(0, _), (1, _)] _ _ _ _
  refine b_aload_n (pc := 0) (i := 0) (dd dtX10_move 0 rfl) rfl rfl ?_
  refine b_iload_n (pc := 1) (i := 1) (dd dtX10_move 1 rfl) rfl rfl ?_
  refine b_invV (pc := 2) (dd dtX10_move 2 rfl) mlX10_131 mvX10_isHouse miX10_isHouse (c_X10_isHouse) oC_0 rfl rfl (by decide) (Nat.le_of_ble_eq_true rfl) ?_
  refine b_ifb_ne (pc := 5) (tgt := 10) (dd dtX10_move 3 rfl) (by decide) (fun h5 => ?_) (fun h5 => ?_)
  · refine b_aload_n (pc := 10) (i := 0) (dd dtX10_move 6 rfl) rfl rfl ?_
    refine b_geta (pc := 11) (dd dtX10_move 7 rfl) fwX10_21 pC_0 rC_0_1 ?_
    refine b_geta (pc := 14) (dd dtX10_move 8 rfl) fwX10_134 pC_6 rC_6_12 ?_
    refine b_iload_n (pc := 17) (i := 1) (dd dtX10_move 9 rfl) rfl rfl ?_
    refine b_iald (pc := 18) (dd dtX10_move 10 rfl) pC_14 (vpm (by rw [hN] at h5; exact h5) hN2 (by decide)) ?_
    refine b_ifL_ge (pc := 19) (tgt := 34) (dd dtX10_move 11 rfl) (by decide) (fun h19 => ?_) (fun h19 => ?_)
    · refine b_bipush (pc := 34) (v := -3) (dd dtX10_move 18 rfl) (by decide) ?_
      refine b_eq (b_iret (dd dtX10_move 19 rfl) rfl) ?_ ?_
      · (try clear hN); simp [inR, vMove, okMove, ist_eq, ist_ne, -Int32.not_lt, -Int32.not_le, *]
      · (try clear hN); simp [inR, vMove, okMove, ist_eq, ist_ne, -Int32.not_lt, -Int32.not_le, *]
    · refine b_aload_n (pc := 22) (i := 0) (dd dtX10_move 12 rfl) rfl rfl ?_
      refine b_geta (pc := 23) (dd dtX10_move 13 rfl) fwX10_21 pC_0 rC_0_1 ?_
      refine b_geta (pc := 26) (dd dtX10_move 14 rfl) fwX10_137 pC_6 rC_6_13 ?_
      refine b_iload_n (pc := 29) (i := 1) (dd dtX10_move 15 rfl) rfl rfl ?_
      refine b_zald (pc := 30) (dd dtX10_move 16 rfl) pC_15 (vpm (by rw [hN] at h5; exact h5) hN2 (by decide)) ?_
      refine b_if_eq (pc := 31) (tgt := 37) (dd dtX10_move 17 rfl) (by decide) (fun h31 => ?_) (fun h31 => ?_)
      · refine b_aload_n (pc := 37) (i := 0) (dd dtX10_move 20 rfl) rfl rfl ?_
        refine b_geta (pc := 38) (dd dtX10_move 21 rfl) fwX10_21 pC_0 rC_0_1 ?_
        refine b_geta (pc := 41) (dd dtX10_move 22 rfl) fwX10_137 pC_6 rC_6_13 ?_
        refine b_iload_n (pc := 44) (i := 1) (dd dtX10_move 23 rfl) rfl rfl ?_
        refine b_ic1 (pc := 45) (dd dtX10_move 24 rfl) ?_
        refine b_zast (pc := 46) (dd dtX10_move 25 rfl) pC_15 (vpm (by rw [hN] at h5; exact h5) hN2 (by decide)) (rfl) ?_
        refine b_aload_n (pc := 47) (i := 0) (dd dtX10_move 26 rfl) rfl rfl ?_
        refine b_geta (pc := 48) (dd dtX10_move 27 rfl) fwX10_10 pC_0 rC_0_0 ?_
        refine b_geta (pc := 51) (dd dtX10_move 28 rfl) fwX10_141 pC_1 rC_1_4 ?_
        refine b_iload_n (pc := 54) (i := 1) (dd dtX10_move 29 rfl) rfl rfl ?_
        refine b_iald (pc := 55) (dd dtX10_move 30 rfl) pC_4 (vpm (by rw [hN] at h5; exact h5) hN2 (by decide)) ?_
        refine b_eq (b_iret (dd dtX10_move 31 rfl) rfl) ?_ ?_
        · (try clear hN); simp [inR, vMove, okMove, ist_eq, ist_ne, -Int32.not_lt, -Int32.not_le, *]
        · (try clear hN); simp [inR, vMove, okMove, ist_eq, ist_ne, -Int32.not_lt, -Int32.not_le, *]
      · refine b_bipush (pc := 34) (v := -3) (dd dtX10_move 18 rfl) (by decide) ?_
        refine b_eq (b_iret (dd dtX10_move 19 rfl) rfl) ?_ ?_
        · (try clear hN); simp [inR, vMove, okMove, ist_eq, ist_ne, -Int32.not_lt, -Int32.not_le, *]
        · (try clear hN); simp [inR, vMove, okMove, ist_eq, ist_ne, -Int32.not_lt, -Int32.not_le, *]
  · refine b_icm1 (pc := 8) (dd dtX10_move 4 rfl) ?_
    refine b_eq (b_iret (dd dtX10_move 5 rfl) rfl) ?_ ?_
    · (try clear hN); simp [inR, vMove, okMove, ist_eq, ist_ne, -Int32.not_lt, -Int32.not_le, *]
    · (try clear hN); simp [inR, vMove, okMove, ist_eq, ist_ne, -Int32.not_lt, -Int32.not_le, *]
def tX10_sign : List (Nat × Instr × Nat) := [(0, .iload_n 2, 1), (1, .invokestatic 93, 3), (4, .ifCond .ne 5, 3), (7, .iconst (-1), 1), (8, .ireturn, 1), (9, .iload_n 1, 1), (10, .iconst 0, 1), (11, .iconst 5, 1), (12, .invokestatic 97, 3), (15, .ifCond .eq 13, 3), (18, .iload_n 3, 1), (19, .iconst 0, 1), (20, .bipush 99, 2), (22, .invokestatic 97, 3), (25, .ifCond .ne 6, 3), (28, .bipush (-2), 2), (30, .ireturn, 1), (31, .aload_n 0, 1), (32, .getfield 38, 3), (35, .getfield 153, 3), (38, .bipush 30, 2), (40, .if_icmp .lt 6, 3), (43, .bipush (-4), 2), (45, .ireturn, 1), (46, .aload_n 0, 1), (47, .getfield 38, 3), (50, .iload_n 1, 1), (51, .iload_n 2, 1), (52, .iload_n 3, 1), (53, .aload_n 0, 1), (54, .getfield 21, 3), (57, .getfield 150, 3), (60, .invokevirtual 156, 3), (63, .ireturn, 1)]
theorem dtX10_sign : dec_ok mX10_sign.2.1 tX10_sign = true := by decide +kernel
set_option maxHeartbeats 4000000 in
theorem c_X10_sign {I : Wd} {K : Nat} {k c v : Int32} (hN : I 42 0 = nI K) (hN2 : K ≤ 30) : Cal SyC mX10_sign 2 [.ref 0, .int k, .int c, .int v] I (some (.int (vSign K k c v))) (if okSign K k c v then (ist (ist (ist (ist (ist (ist I 43 K k) 44 K c) 45 K v) 46 K (I 6 1)) 48 K (-1)) 42 0 (nI (K + 1))) else I) := by
  refine Cal.of (by decide) (Nat.le_of_ble_eq_true rfl) ?_
  show Bd _ _ _ _ [(0, _), (1, _), (2, _), (3, _)] _ _ _ _
  refine b_iload_n (pc := 0) (i := 2) (dd dtX10_sign 0 rfl) rfl rfl ?_
  refine b_invS (pc := 1) (dd dtX10_sign 1 rfl) mlX10_93 mvX10_isCell msX10_isCell (c_X10_isCell) rfl rfl (by decide) (Nat.le_of_ble_eq_true rfl) ?_
  refine b_ifb_ne (pc := 4) (tgt := 9) (dd dtX10_sign 2 rfl) (by decide) (fun h4 => ?_) (fun h4 => ?_)
  · refine b_iload_n (pc := 9) (i := 1) (dd dtX10_sign 5 rfl) rfl rfl ?_
    refine b_ic0 (pc := 10) (dd dtX10_sign 6 rfl) ?_
    refine b_ic5 (pc := 11) (dd dtX10_sign 7 rfl) ?_
    refine b_invS (pc := 12) (dd dtX10_sign 8 rfl) mlX10_97 mvX10_within msX10_within (c_X10_within) rfl rfl (by decide) (Nat.le_of_ble_eq_true rfl) ?_
    refine b_ifb_eq (pc := 15) (tgt := 28) (dd dtX10_sign 9 rfl) (by decide) (fun h15 => ?_) (fun h15 => ?_)
    · refine b_bipush (pc := 28) (v := -2) (dd dtX10_sign 15 rfl) (by decide) ?_
      refine b_eq (b_iret (dd dtX10_sign 16 rfl) rfl) ?_ ?_
      · (try clear hN); simp [inR, vSign, okSign, -Int32.not_lt, -Int32.not_le, *]
      · (try clear hN); simp [inR, vSign, okSign, -Int32.not_lt, -Int32.not_le, *]
    · refine b_iload_n (pc := 18) (i := 3) (dd dtX10_sign 10 rfl) rfl rfl ?_
      refine b_ic0 (pc := 19) (dd dtX10_sign 11 rfl) ?_
      refine b_bipush (pc := 20) (v := 99) (dd dtX10_sign 12 rfl) (by decide) ?_
      refine b_invS (pc := 22) (dd dtX10_sign 13 rfl) mlX10_97 mvX10_within msX10_within (c_X10_within) rfl rfl (by decide) (Nat.le_of_ble_eq_true rfl) ?_
      refine b_ifb_ne (pc := 25) (tgt := 31) (dd dtX10_sign 14 rfl) (by decide) (fun h25 => ?_) (fun h25 => ?_)
      · refine b_aload_n (pc := 31) (i := 0) (dd dtX10_sign 17 rfl) rfl rfl ?_
        refine b_geta (pc := 32) (dd dtX10_sign 18 rfl) fwX10_38 pC_0 rC_0_5 ?_
        refine b_geti (pc := 35) (dd dtX10_sign 19 rfl) fwX10_153 pC_42 ?_
        refine b_bipush (pc := 38) (v := 30) (dd dtX10_sign 20 rfl) (by decide) ?_
        rw [hN]
        refine b_icmp_lt (pc := 40) (tgt := 46) (dd dtX10_sign 21 rfl) (by decide) (fun h40 => ?_) (fun h40 => ?_)
        · rw [show (30 : Int32) = nI 30 from rfl, nlt_lit (by omega) (by decide)] at h40
          refine b_aload_n (pc := 46) (i := 0) (dd dtX10_sign 24 rfl) rfl rfl ?_
          refine b_geta (pc := 47) (dd dtX10_sign 25 rfl) fwX10_38 pC_0 rC_0_5 ?_
          refine b_iload_n (pc := 50) (i := 1) (dd dtX10_sign 26 rfl) rfl rfl ?_
          refine b_iload_n (pc := 51) (i := 2) (dd dtX10_sign 27 rfl) rfl rfl ?_
          refine b_iload_n (pc := 52) (i := 3) (dd dtX10_sign 28 rfl) rfl rfl ?_
          refine b_aload_n (pc := 53) (i := 0) (dd dtX10_sign 29 rfl) rfl rfl ?_
          refine b_geta (pc := 54) (dd dtX10_sign 30 rfl) fwX10_21 pC_0 rC_0_1 ?_
          refine b_geti (pc := 57) (dd dtX10_sign 31 rfl) fwX10_150 pC_6 ?_
          refine b_invV (pc := 60) (dd dtX10_sign 32 rfl) mlX10_156 mvX6_add miX6_add (c_X6_add hN (by assumption)) oC_42 rfl rfl (by decide) (Nat.le_of_ble_eq_true rfl) ?_
          refine b_eq (b_iret (dd dtX10_sign 33 rfl) rfl) ?_ ?_
          · (try clear hN); simp [inR, vSign, okSign, -Int32.not_lt, -Int32.not_le, *]
          · (try clear hN); simp [inR, vSign, okSign, -Int32.not_lt, -Int32.not_le, *]
        · rw [show (30 : Int32) = nI 30 from rfl, nlt_lit (by omega) (by decide)] at h40
          refine b_bipush (pc := 43) (v := -4) (dd dtX10_sign 22 rfl) (by decide) ?_
          refine b_eq (b_iret (dd dtX10_sign 23 rfl) rfl) ?_ ?_
          · (try clear hN); simp [inR, vSign, okSign, -Int32.not_lt, -Int32.not_le, *]
          · (try clear hN); simp [inR, vSign, okSign, -Int32.not_lt, -Int32.not_le, *]
      · refine b_bipush (pc := 28) (v := -2) (dd dtX10_sign 15 rfl) (by decide) ?_
        refine b_eq (b_iret (dd dtX10_sign 16 rfl) rfl) ?_ ?_
        · (try clear hN); simp [inR, vSign, okSign, -Int32.not_lt, -Int32.not_le, *]
        · (try clear hN); simp [inR, vSign, okSign, -Int32.not_lt, -Int32.not_le, *]
  · refine b_icm1 (pc := 7) (dd dtX10_sign 3 rfl) ?_
    refine b_eq (b_iret (dd dtX10_sign 4 rfl) rfl) ?_ ?_
    · (try clear hN); simp [inR, vSign, okSign, -Int32.not_lt, -Int32.not_le, *]
    · (try clear hN); simp [inR, vSign, okSign, -Int32.not_lt, -Int32.not_le, *]
def tX10_mend : List (Nat × Instr × Nat) := [(0, .aload_n 0, 1), (1, .iload_n 1, 1), (2, .invokevirtual 160, 3), (5, .ifCond .ne 5, 3), (8, .iconst (-1), 1), (9, .ireturn, 1), (10, .iload_n 2, 1), (11, .iconst 0, 1), (12, .bipush 99, 2), (14, .invokestatic 97, 3), (17, .ifCond .ne 6, 3), (20, .bipush (-2), 2), (22, .ireturn, 1), (23, .aload_n 0, 1), (24, .getfield 38, 3), (27, .getfield 163, 3), (30, .iload_n 1, 1), (31, .iaload, 1), (32, .ifCond .lt 6, 3), (35, .bipush (-3), 2), (37, .ireturn, 1), (38, .aload_n 0, 1), (39, .getfield 38, 3), (42, .getfield 166, 3), (45, .iload_n 1, 1), (46, .iload_n 2, 1), (47, .iastore, 1), (48, .aload_n 0, 1), (49, .getfield 38, 3), (52, .getfield 163, 3), (55, .iload_n 1, 1), (56, .aload_n 0, 1), (57, .getfield 21, 3), (60, .getfield 150, 3), (63, .iastore, 1), (64, .aload_n 0, 1), (65, .getfield 38, 3), (68, .getfield 169, 3), (71, .iload_n 1, 1), (72, .iaload, 1), (73, .ireturn, 1)]
theorem dtX10_mend : dec_ok mX10_mend.2.1 tX10_mend = true := by decide +kernel
set_option maxHeartbeats 4000000 in
theorem c_X10_mend {I : Wd} {K : Nat} {k v : Int32} (hN : I 42 0 = nI K) (hN2 : K ≤ 30) : Cal SyC mX10_mend 2 [.ref 0, .int k, .int v] I (some (.int (vMend (I 48) (I 45) (I 42 0) k v))) (if okMend (I 48) (I 42 0) k v then ist (ist I 47 k.toNatClampNeg v) 48 k.toNatClampNeg (I 6 1) else I) := by
  refine Cal.of (by decide) (Nat.le_of_ble_eq_true rfl) ?_
  show Bd _ _ _ _ [(0, _), (1, _), (2, _)] _ _ _ _
  refine b_aload_n (pc := 0) (i := 0) (dd dtX10_mend 0 rfl) rfl rfl ?_
  refine b_iload_n (pc := 1) (i := 1) (dd dtX10_mend 1 rfl) rfl rfl ?_
  refine b_invV (pc := 2) (dd dtX10_mend 2 rfl) mlX10_160 mvX10_isSign miX10_isSign (c_X10_isSign) oC_0 rfl rfl (by decide) (Nat.le_of_ble_eq_true rfl) ?_
  refine b_ifb_ne (pc := 5) (tgt := 10) (dd dtX10_mend 3 rfl) (by decide) (fun h5 => ?_) (fun h5 => ?_)
  · refine b_iload_n (pc := 10) (i := 2) (dd dtX10_mend 6 rfl) rfl rfl ?_
    refine b_ic0 (pc := 11) (dd dtX10_mend 7 rfl) ?_
    refine b_bipush (pc := 12) (v := 99) (dd dtX10_mend 8 rfl) (by decide) ?_
    refine b_invS (pc := 14) (dd dtX10_mend 9 rfl) mlX10_97 mvX10_within msX10_within (c_X10_within) rfl rfl (by decide) (Nat.le_of_ble_eq_true rfl) ?_
    refine b_ifb_ne (pc := 17) (tgt := 23) (dd dtX10_mend 10 rfl) (by decide) (fun h17 => ?_) (fun h17 => ?_)
    · refine b_aload_n (pc := 23) (i := 0) (dd dtX10_mend 13 rfl) rfl rfl ?_
      refine b_geta (pc := 24) (dd dtX10_mend 14 rfl) fwX10_38 pC_0 rC_0_5 ?_
      refine b_geta (pc := 27) (dd dtX10_mend 15 rfl) fwX10_163 pC_42 rC_42_6 ?_
      refine b_iload_n (pc := 30) (i := 1) (dd dtX10_mend 16 rfl) rfl rfl ?_
      refine b_iald (pc := 31) (dd dtX10_mend 17 rfl) pC_48 (vpm (by rw [hN] at h5; exact h5) hN2 (by decide)) ?_
      refine b_if_lt (pc := 32) (tgt := 38) (dd dtX10_mend 18 rfl) (by decide) (fun h32 => ?_) (fun h32 => ?_)
      · refine b_aload_n (pc := 38) (i := 0) (dd dtX10_mend 21 rfl) rfl rfl ?_
        refine b_geta (pc := 39) (dd dtX10_mend 22 rfl) fwX10_38 pC_0 rC_0_5 ?_
        refine b_geta (pc := 42) (dd dtX10_mend 23 rfl) fwX10_166 pC_42 rC_42_5 ?_
        refine b_iload_n (pc := 45) (i := 1) (dd dtX10_mend 24 rfl) rfl rfl ?_
        refine b_iload_n (pc := 46) (i := 2) (dd dtX10_mend 25 rfl) rfl rfl ?_
        refine b_iast (pc := 47) (dd dtX10_mend 26 rfl) pC_47 (vpm (by rw [hN] at h5; exact h5) hN2 (by decide)) ?_
        refine b_aload_n (pc := 48) (i := 0) (dd dtX10_mend 27 rfl) rfl rfl ?_
        refine b_geta (pc := 49) (dd dtX10_mend 28 rfl) fwX10_38 pC_0 rC_0_5 ?_
        refine b_geta (pc := 52) (dd dtX10_mend 29 rfl) fwX10_163 pC_42 rC_42_6 ?_
        refine b_iload_n (pc := 55) (i := 1) (dd dtX10_mend 30 rfl) rfl rfl ?_
        refine b_aload_n (pc := 56) (i := 0) (dd dtX10_mend 31 rfl) rfl rfl ?_
        refine b_geta (pc := 57) (dd dtX10_mend 32 rfl) fwX10_21 pC_0 rC_0_1 ?_
        refine b_geti (pc := 60) (dd dtX10_mend 33 rfl) fwX10_150 pC_6 ?_
        refine b_iast (pc := 63) (dd dtX10_mend 34 rfl) pC_48 (vpm (by rw [hN] at h5; exact h5) hN2 (by decide)) ?_
        refine b_aload_n (pc := 64) (i := 0) (dd dtX10_mend 35 rfl) rfl rfl ?_
        refine b_geta (pc := 65) (dd dtX10_mend 36 rfl) fwX10_38 pC_0 rC_0_5 ?_
        refine b_geta (pc := 68) (dd dtX10_mend 37 rfl) fwX10_169 pC_42 rC_42_3 ?_
        refine b_iload_n (pc := 71) (i := 1) (dd dtX10_mend 38 rfl) rfl rfl ?_
        refine b_iald (pc := 72) (dd dtX10_mend 39 rfl) pC_45 (vpm (by rw [hN] at h5; exact h5) hN2 (by decide)) ?_
        refine b_eq (b_iret (dd dtX10_mend 40 rfl) rfl) ?_ ?_
        · (try clear hN); simp [inR, vMend, okMend, ist_eq, ist_ne, -Int32.not_lt, -Int32.not_le, *]
        · (try clear hN); simp [inR, vMend, okMend, ist_eq, ist_ne, -Int32.not_lt, -Int32.not_le, *]
      · refine b_bipush (pc := 35) (v := -3) (dd dtX10_mend 19 rfl) (by decide) ?_
        refine b_eq (b_iret (dd dtX10_mend 20 rfl) rfl) ?_ ?_
        · (try clear hN); simp [inR, vMend, okMend, ist_eq, ist_ne, -Int32.not_lt, -Int32.not_le, *]
        · (try clear hN); simp [inR, vMend, okMend, ist_eq, ist_ne, -Int32.not_lt, -Int32.not_le, *]
    · refine b_bipush (pc := 20) (v := -2) (dd dtX10_mend 11 rfl) (by decide) ?_
      refine b_eq (b_iret (dd dtX10_mend 12 rfl) rfl) ?_ ?_
      · (try clear hN); simp [inR, vMend, okMend, ist_eq, ist_ne, -Int32.not_lt, -Int32.not_le, *]
      · (try clear hN); simp [inR, vMend, okMend, ist_eq, ist_ne, -Int32.not_lt, -Int32.not_le, *]
  · refine b_icm1 (pc := 8) (dd dtX10_mend 4 rfl) ?_
    refine b_eq (b_iret (dd dtX10_mend 5 rfl) rfl) ?_ ?_
    · (try clear hN); simp [inR, vMend, okMend, ist_eq, ist_ne, -Int32.not_lt, -Int32.not_le, *]
    · (try clear hN); simp [inR, vMend, okMend, ist_eq, ist_ne, -Int32.not_lt, -Int32.not_le, *]
def tX10_signTold : List (Nat × Instr × Nat) := [(0, .aload_n 0, 1), (1, .iload_n 1, 1), (2, .invokevirtual 160, 3), (5, .ifCond .ne 5, 3), (8, .iconst (-1), 1), (9, .ireturn, 1), (10, .aload_n 0, 1), (11, .iload_n 3, 1), (12, .invokevirtual 172, 3), (15, .ifCond .ne 6, 3), (18, .bipush (-2), 2), (20, .ireturn, 1), (21, .aload_n 0, 1), (22, .getfield 38, 3), (25, .getfield 175, 3), (28, .iload_n 1, 1), (29, .iaload, 1), (30, .istore 4, 2), (32, .aload_n 0, 1), (33, .getfield 38, 3), (36, .iload_n 1, 1), (37, .iload_n 3, 1), (38, .invokevirtual 178, 3), (41, .istore 5, 2), (43, .iload_n 2, 1), (44, .tableswitch 92 0 6 #[44, 47, 57, 67, 70, 78, 86], 44), (88, .iload 4, 2), (90, .ireturn, 1), (91, .aload_n 0, 1), (92, .getfield 38, 3), (95, .getfield 182, 3), (98, .iload_n 1, 1), (99, .iaload, 1), (100, .ireturn, 1), (101, .aload_n 0, 1), (102, .getfield 38, 3), (105, .getfield 185, 3), (108, .iload_n 1, 1), (109, .iaload, 1), (110, .ireturn, 1), (111, .iload 5, 2), (113, .ireturn, 1), (114, .iload 4, 2), (116, .iload 5, 2), (118, .invokestatic 187, 3), (121, .ireturn, 1), (122, .iload 4, 2), (124, .iload 5, 2), (126, .invokestatic 190, 3), (129, .ireturn, 1), (130, .iload 4, 2), (132, .invokestatic 193, 3), (135, .ireturn, 1), (136, .bipush (-2), 2), (138, .ireturn, 1)]
theorem dtX10_signTold : dec_ok mX10_signTold.2.1 tX10_signTold = true := by decide +kernel
set_option maxHeartbeats 4000000 in
theorem c_X10_signTold {I : Wd} {K : Nat} {k what known : Int32} (hN : I 42 0 = nI K) (hN2 : K ≤ 30) : Cal SyC mX10_signTold 2 [.ref 0, .int k, .int what, .int known] I (some (.int (vSignTold (I 43) (I 44) (I 46) (sVal (I 48) (I 47) (I 45) known) (I 42 0) (I 6 1) k what known))) I := by
  refine Cal.of (by decide) (Nat.le_of_ble_eq_true rfl) ?_
  show Bd _ _ _ _ [(0, _), (1, _), (2, _), (3, _)] _ _ _ _
  refine b_aload_n (pc := 0) (i := 0) (dd dtX10_signTold 0 rfl) rfl rfl ?_
  refine b_iload_n (pc := 1) (i := 1) (dd dtX10_signTold 1 rfl) rfl rfl ?_
  refine b_invV (pc := 2) (dd dtX10_signTold 2 rfl) mlX10_160 mvX10_isSign miX10_isSign (c_X10_isSign) oC_0 rfl rfl (by decide) (Nat.le_of_ble_eq_true rfl) ?_
  refine b_ifb_ne (pc := 5) (tgt := 10) (dd dtX10_signTold 3 rfl) (by decide) (fun h5 => ?_) (fun h5 => ?_)
  · refine b_aload_n (pc := 10) (i := 0) (dd dtX10_signTold 6 rfl) rfl rfl ?_
    refine b_iload_n (pc := 11) (i := 3) (dd dtX10_signTold 7 rfl) rfl rfl ?_
    refine b_invV (pc := 12) (dd dtX10_signTold 8 rfl) mlX10_172 mvX10_isKnown miX10_isKnown (c_X10_isKnown) oC_0 rfl rfl (by decide) (Nat.le_of_ble_eq_true rfl) ?_
    refine b_ifb_ne (pc := 15) (tgt := 21) (dd dtX10_signTold 9 rfl) (by decide) (fun h15 => ?_) (fun h15 => ?_)
    · refine b_aload_n (pc := 21) (i := 0) (dd dtX10_signTold 12 rfl) rfl rfl ?_
      refine b_geta (pc := 22) (dd dtX10_signTold 13 rfl) fwX10_38 pC_0 rC_0_5 ?_
      refine b_geta (pc := 25) (dd dtX10_signTold 14 rfl) fwX10_175 pC_42 rC_42_1 ?_
      refine b_iload_n (pc := 28) (i := 1) (dd dtX10_signTold 15 rfl) rfl rfl ?_
      refine b_iald (pc := 29) (dd dtX10_signTold 16 rfl) pC_43 (vpm (by rw [hN] at h5; exact h5) hN2 (by decide)) ?_
      refine b_istore (pc := 30) (i := 4) (lv' := [(4, _), (0, _), (1, _), (2, _), (3, _)]) (dd dtX10_signTold 17 rfl) (Nat.le_of_ble_eq_true rfl) rfl ?_
      refine b_aload_n (pc := 32) (i := 0) (dd dtX10_signTold 18 rfl) rfl rfl ?_
      refine b_geta (pc := 33) (dd dtX10_signTold 19 rfl) fwX10_38 pC_0 rC_0_5 ?_
      refine b_iload_n (pc := 36) (i := 1) (dd dtX10_signTold 20 rfl) rfl rfl ?_
      refine b_iload_n (pc := 37) (i := 3) (dd dtX10_signTold 21 rfl) rfl rfl ?_
      refine b_invV (pc := 38) (dd dtX10_signTold 22 rfl) mlX10_178 mvX6_valueKnown miX6_valueKnown (c_X6_valueKnown (vpm (by rw [hN] at h5; exact h5) hN2 (by decide))) oC_42 rfl rfl (by decide) (Nat.le_of_ble_eq_true rfl) ?_
      refine b_istore (pc := 41) (i := 5) (lv' := [(5, _), (4, _), (0, _), (1, _), (2, _), (3, _)]) (dd dtX10_signTold 23 rfl) (Nat.le_of_ble_eq_true rfl) rfl ?_
      refine b_iload_n (pc := 43) (i := 2) (dd dtX10_signTold 24 rfl) rfl rfl ?_
      refine b_tsw (pc := 44) (ts := [(0, 88), (1, 91), (2, 101), (3, 111), (4, 114), (5, 122), (6, 130)]) (dfl := 136) (dd dtX10_signTold 25 rfl) (by decide +kernel) ⟨fun h44 => ?_, fun h44_0 => ⟨fun h44 => ?_, fun h44_1 => ⟨fun h44 => ?_, fun h44_2 => ⟨fun h44 => ?_, fun h44_3 => ⟨fun h44 => ?_, fun h44_4 => ⟨fun h44 => ?_, fun h44_5 => ⟨fun h44 => ?_, fun h44_6 => ?_⟩⟩⟩⟩⟩⟩⟩
      · refine b_iload (pc := 88) (i := 4) (dd dtX10_signTold 26 rfl) rfl ?_
        refine b_eq (b_iret (dd dtX10_signTold 27 rfl) rfl) ?_ ?_
        · (try clear hN); simp [inR, vSignTold, -Int32.not_lt, -Int32.not_le, *]
        · (try clear hN); simp [inR, vSignTold, -Int32.not_lt, -Int32.not_le, *]
      · refine b_aload_n (pc := 91) (i := 0) (dd dtX10_signTold 28 rfl) rfl rfl ?_
        refine b_geta (pc := 92) (dd dtX10_signTold 29 rfl) fwX10_38 pC_0 rC_0_5 ?_
        refine b_geta (pc := 95) (dd dtX10_signTold 30 rfl) fwX10_182 pC_42 rC_42_2 ?_
        refine b_iload_n (pc := 98) (i := 1) (dd dtX10_signTold 31 rfl) rfl rfl ?_
        refine b_iald (pc := 99) (dd dtX10_signTold 32 rfl) pC_44 (vpm (by rw [hN] at h5; exact h5) hN2 (by decide)) ?_
        refine b_eq (b_iret (dd dtX10_signTold 33 rfl) rfl) ?_ ?_
        · (try clear hN); simp [inR, vSignTold, -Int32.not_lt, -Int32.not_le, *]
        · (try clear hN); simp [inR, vSignTold, -Int32.not_lt, -Int32.not_le, *]
      · refine b_aload_n (pc := 101) (i := 0) (dd dtX10_signTold 34 rfl) rfl rfl ?_
        refine b_geta (pc := 102) (dd dtX10_signTold 35 rfl) fwX10_38 pC_0 rC_0_5 ?_
        refine b_geta (pc := 105) (dd dtX10_signTold 36 rfl) fwX10_185 pC_42 rC_42_4 ?_
        refine b_iload_n (pc := 108) (i := 1) (dd dtX10_signTold 37 rfl) rfl rfl ?_
        refine b_iald (pc := 109) (dd dtX10_signTold 38 rfl) pC_46 (vpm (by rw [hN] at h5; exact h5) hN2 (by decide)) ?_
        refine b_eq (b_iret (dd dtX10_signTold 39 rfl) rfl) ?_ ?_
        · (try clear hN); simp [inR, vSignTold, -Int32.not_lt, -Int32.not_le, *]
        · (try clear hN); simp [inR, vSignTold, -Int32.not_lt, -Int32.not_le, *]
      · refine b_iload (pc := 111) (i := 5) (dd dtX10_signTold 40 rfl) rfl ?_
        refine b_eq (b_iret (dd dtX10_signTold 41 rfl) rfl) ?_ ?_
        · (try clear hN); simp [inR, vSignTold, -Int32.not_lt, -Int32.not_le, *]
        · (try clear hN); simp [inR, vSignTold, -Int32.not_lt, -Int32.not_le, *]
      · refine b_iload (pc := 114) (i := 4) (dd dtX10_signTold 42 rfl) rfl ?_
        refine b_iload (pc := 116) (i := 5) (dd dtX10_signTold 43 rfl) rfl ?_
        refine b_invS (pc := 118) (dd dtX10_signTold 44 rfl) mlX10_187 mvX6_leastBy msX6_leastBy (c_X6_leastBy) rfl rfl (by decide) (Nat.le_of_ble_eq_true rfl) ?_
        refine b_eq (b_iret (dd dtX10_signTold 45 rfl) rfl) ?_ ?_
        · (try clear hN); simp [inR, vSignTold, -Int32.not_lt, -Int32.not_le, *]
        · (try clear hN); simp [inR, vSignTold, -Int32.not_lt, -Int32.not_le, *]
      · refine b_iload (pc := 122) (i := 4) (dd dtX10_signTold 46 rfl) rfl ?_
        refine b_iload (pc := 124) (i := 5) (dd dtX10_signTold 47 rfl) rfl ?_
        refine b_invS (pc := 126) (dd dtX10_signTold 48 rfl) mlX10_190 mvX6_mostBy msX6_mostBy (c_X6_mostBy) rfl rfl (by decide) (Nat.le_of_ble_eq_true rfl) ?_
        refine b_eq (b_iret (dd dtX10_signTold 49 rfl) rfl) ?_ ?_
        · (try clear hN); simp [inR, vSignTold, -Int32.not_lt, -Int32.not_le, *]
        · (try clear hN); simp [inR, vSignTold, -Int32.not_lt, -Int32.not_le, *]
      · refine b_iload (pc := 130) (i := 4) (dd dtX10_signTold 50 rfl) rfl ?_
        refine b_invS (pc := 132) (dd dtX10_signTold 51 rfl) mlX10_193 mvX6_trustIn msX6_trustIn (c_X6_trustIn) rfl rfl (by decide) (Nat.le_of_ble_eq_true rfl) ?_
        refine b_eq (b_iret (dd dtX10_signTold 52 rfl) rfl) ?_ ?_
        · (try clear hN); simp [inR, vSignTold, -Int32.not_lt, -Int32.not_le, *]
        · (try clear hN); simp [inR, vSignTold, -Int32.not_lt, -Int32.not_le, *]
      · refine b_bipush (pc := 136) (v := -2) (dd dtX10_signTold 53 rfl) (by decide) ?_
        refine b_eq (b_iret (dd dtX10_signTold 54 rfl) rfl) ?_ ?_
        · (try clear hN); simp [inR, vSignTold, -Int32.not_lt, -Int32.not_le, *]
        · (try clear hN); simp [inR, vSignTold, -Int32.not_lt, -Int32.not_le, *]
    · refine b_bipush (pc := 18) (v := -2) (dd dtX10_signTold 10 rfl) (by decide) ?_
      refine b_eq (b_iret (dd dtX10_signTold 11 rfl) rfl) ?_ ?_
      · (try clear hN); simp [inR, vSignTold, -Int32.not_lt, -Int32.not_le, *]
      · (try clear hN); simp [inR, vSignTold, -Int32.not_lt, -Int32.not_le, *]
  · refine b_icm1 (pc := 8) (dd dtX10_signTold 4 rfl) ?_
    refine b_eq (b_iret (dd dtX10_signTold 5 rfl) rfl) ?_ ?_
    · (try clear hN); simp [inR, vSignTold, -Int32.not_lt, -Int32.not_le, *]
    · (try clear hN); simp [inR, vSignTold, -Int32.not_lt, -Int32.not_le, *]
def tX10_span : List (Nat × Instr × Nat) := [(0, .iload_n 1, 1), (1, .invokestatic 93, 3), (4, .ifCond .ne 5, 3), (7, .iconst (-1), 1), (8, .ireturn, 1), (9, .aload_n 0, 1), (10, .iload_n 2, 1), (11, .invokevirtual 172, 3), (14, .ifCond .eq 12, 3), (17, .iload_n 3, 1), (18, .iconst 0, 1), (19, .iconst 3, 1), (20, .invokestatic 97, 3), (23, .ifCond .ne 6, 3), (26, .bipush (-2), 2), (28, .ireturn, 1), (29, .iload_n 3, 1), (30, .iconst 2, 1), (31, .if_icmp .lt 8, 3), (34, .bipush 8, 2), (36, .goto 4, 3), (39, .iconst 0, 1), (40, .istore 4, 2), (42, .aload_n 0, 1), (43, .getfield 38, 3), (46, .iload_n 1, 1), (47, .iload_n 2, 1), (48, .iload 4, 2), (50, .invokevirtual 196, 3), (53, .istore 5, 2), (55, .aload_n 0, 1), (56, .getfield 38, 3), (59, .iload_n 1, 1), (60, .iload_n 2, 1), (61, .iload 4, 2), (63, .invokevirtual 199, 3), (66, .istore 6, 2), (68, .iload 5, 2), (70, .iload 6, 2), (72, .if_icmp .le 6, 3), (75, .bipush (-3), 2), (77, .ireturn, 1), (78, .iload_n 3, 1), (79, .iconst 2, 1), (80, .irem, 1), (81, .ifCond .ne 8, 3), (84, .iload 5, 2), (86, .goto 5, 3), (89, .iload 6, 2), (91, .ireturn, 1)]
theorem dtX10_span : dec_ok mX10_span.2.1 tX10_span = true := by decide +kernel
set_option maxHeartbeats 4000000 in
theorem c_X10_span {I : Wd} {K : Nat} {c known what : Int32} (hN : I 42 0 = nI K) (hN2 : K ≤ 30) : Cal SyC mX10_span 3 [.ref 0, .int c, .int known, .int what] I (some (.int (vSpan (I 43) (I 44) (I 46) (sVal (I 48) (I 47) (I 45) known) K (I 6 1) c known what))) I := by
  refine Cal.of (by decide) (Nat.le_of_ble_eq_true rfl) ?_
  show Bd _ _ _ _ [(0, _), (1, _), (2, _), (3, _)] _ _ _ _
  refine b_iload_n (pc := 0) (i := 1) (dd dtX10_span 0 rfl) rfl rfl ?_
  refine b_invS (pc := 1) (dd dtX10_span 1 rfl) mlX10_93 mvX10_isCell msX10_isCell (c_X10_isCell) rfl rfl (by decide) (Nat.le_of_ble_eq_true rfl) ?_
  refine b_ifb_ne (pc := 4) (tgt := 9) (dd dtX10_span 2 rfl) (by decide) (fun h4 => ?_) (fun h4 => ?_)
  · refine b_aload_n (pc := 9) (i := 0) (dd dtX10_span 5 rfl) rfl rfl ?_
    refine b_iload_n (pc := 10) (i := 2) (dd dtX10_span 6 rfl) rfl rfl ?_
    refine b_invV (pc := 11) (dd dtX10_span 7 rfl) mlX10_172 mvX10_isKnown miX10_isKnown (c_X10_isKnown) oC_0 rfl rfl (by decide) (Nat.le_of_ble_eq_true rfl) ?_
    refine b_ifb_eq (pc := 14) (tgt := 26) (dd dtX10_span 8 rfl) (by decide) (fun h14 => ?_) (fun h14 => ?_)
    · refine b_bipush (pc := 26) (v := -2) (dd dtX10_span 14 rfl) (by decide) ?_
      refine b_eq (b_iret (dd dtX10_span 15 rfl) rfl) ?_ ?_
      · (try clear hN); simp [inR, vSpan, -Int32.not_lt, -Int32.not_le, *]
      · rfl
    · refine b_iload_n (pc := 17) (i := 3) (dd dtX10_span 9 rfl) rfl rfl ?_
      refine b_ic0 (pc := 18) (dd dtX10_span 10 rfl) ?_
      refine b_ic3 (pc := 19) (dd dtX10_span 11 rfl) ?_
      refine b_invS (pc := 20) (dd dtX10_span 12 rfl) mlX10_97 mvX10_within msX10_within (c_X10_within) rfl rfl (by decide) (Nat.le_of_ble_eq_true rfl) ?_
      refine b_ifb_ne (pc := 23) (tgt := 29) (dd dtX10_span 13 rfl) (by decide) (fun h23 => ?_) (fun h23 => ?_)
      · refine b_iload_n (pc := 29) (i := 3) (dd dtX10_span 16 rfl) rfl rfl ?_
        refine b_ic2 (pc := 30) (dd dtX10_span 17 rfl) ?_
        refine b_icmp_lt (pc := 31) (tgt := 39) (dd dtX10_span 18 rfl) (by decide) (fun h31 => ?_) (fun h31 => ?_)
        · refine b_ic0 (pc := 39) (dd dtX10_span 21 rfl) ?_
          refine b_istore (pc := 40) (i := 4) (lv' := [(4, _), (0, _), (1, _), (2, _), (3, _)]) (dd dtX10_span 22 rfl) (Nat.le_of_ble_eq_true rfl) rfl ?_
          refine b_aload_n (pc := 42) (i := 0) (dd dtX10_span 23 rfl) rfl rfl ?_
          refine b_geta (pc := 43) (dd dtX10_span 24 rfl) fwX10_38 pC_0 rC_0_5 ?_
          refine b_iload_n (pc := 46) (i := 1) (dd dtX10_span 25 rfl) rfl rfl ?_
          refine b_iload_n (pc := 47) (i := 2) (dd dtX10_span 26 rfl) rfl rfl ?_
          refine b_iload (pc := 48) (i := 4) (dd dtX10_span 27 rfl) rfl ?_
          refine b_invV (pc := 50) (dd dtX10_span 28 rfl) mlX10_196 mvX6_least miX6_least (c_X6_least hN hN2) oC_42 rfl rfl (by decide) (Nat.le_of_ble_eq_true rfl) ?_
          refine b_istore (pc := 53) (i := 5) (lv' := [(5, _), (4, _), (0, _), (1, _), (2, _), (3, _)]) (dd dtX10_span 29 rfl) (Nat.le_of_ble_eq_true rfl) rfl ?_
          refine b_aload_n (pc := 55) (i := 0) (dd dtX10_span 30 rfl) rfl rfl ?_
          refine b_geta (pc := 56) (dd dtX10_span 31 rfl) fwX10_38 pC_0 rC_0_5 ?_
          refine b_iload_n (pc := 59) (i := 1) (dd dtX10_span 32 rfl) rfl rfl ?_
          refine b_iload_n (pc := 60) (i := 2) (dd dtX10_span 33 rfl) rfl rfl ?_
          refine b_iload (pc := 61) (i := 4) (dd dtX10_span 34 rfl) rfl ?_
          refine b_invV (pc := 63) (dd dtX10_span 35 rfl) mlX10_199 mvX6_most miX6_most (c_X6_most hN hN2) oC_42 rfl rfl (by decide) (Nat.le_of_ble_eq_true rfl) ?_
          refine b_istore (pc := 66) (i := 6) (lv' := [(6, _), (5, _), (4, _), (0, _), (1, _), (2, _), (3, _)]) (dd dtX10_span 36 rfl) (Nat.le_of_ble_eq_true rfl) rfl ?_
          refine b_iload (pc := 68) (i := 5) (dd dtX10_span 37 rfl) rfl ?_
          refine b_iload (pc := 70) (i := 6) (dd dtX10_span 38 rfl) rfl ?_
          refine b_icmpL_le (pc := 72) (tgt := 78) (dd dtX10_span 39 rfl) (by decide) (fun h72 => ?_) (fun h72 => ?_)
          · refine b_iload_n (pc := 78) (i := 3) (dd dtX10_span 42 rfl) rfl rfl ?_
            refine b_ic2 (pc := 79) (dd dtX10_span 43 rfl) ?_
            refine b_irem (pc := 80) (dd dtX10_span 44 rfl) (by decide) ?_
            refine b_if_ne (pc := 81) (tgt := 89) (dd dtX10_span 45 rfl) (by decide) (fun h81 => ?_) (fun h81 => ?_)
            · refine b_iload (pc := 89) (i := 6) (dd dtX10_span 48 rfl) rfl ?_
              refine b_eq (b_iret (dd dtX10_span 49 rfl) rfl) ?_ ?_
              · (try clear hN); simp [inR, vSpan, -Int32.not_lt, -Int32.not_le, *]
              · rfl
            · refine b_iload (pc := 84) (i := 5) (dd dtX10_span 46 rfl) rfl ?_
              refine b_goto (pc := 86) (tgt := 91) (dd dtX10_span 47 rfl) (by decide) ?_
              refine b_eq (b_iret (dd dtX10_span 49 rfl) rfl) ?_ ?_
              · (try clear hN); simp [inR, vSpan, -Int32.not_lt, -Int32.not_le, *]
              · rfl
          · refine b_bipush (pc := 75) (v := -3) (dd dtX10_span 40 rfl) (by decide) ?_
            refine b_eq (b_iret (dd dtX10_span 41 rfl) rfl) ?_ ?_
            · (try clear hN); simp [inR, vSpan, -Int32.not_lt, -Int32.not_le, *]
            · rfl
        · refine b_bipush (pc := 34) (v := 8) (dd dtX10_span 19 rfl) (by decide) ?_
          refine b_goto (pc := 36) (tgt := 40) (dd dtX10_span 20 rfl) (by decide) ?_
          refine b_istore (pc := 40) (i := 4) (lv' := [(4, _), (0, _), (1, _), (2, _), (3, _)]) (dd dtX10_span 22 rfl) (Nat.le_of_ble_eq_true rfl) rfl ?_
          refine b_aload_n (pc := 42) (i := 0) (dd dtX10_span 23 rfl) rfl rfl ?_
          refine b_geta (pc := 43) (dd dtX10_span 24 rfl) fwX10_38 pC_0 rC_0_5 ?_
          refine b_iload_n (pc := 46) (i := 1) (dd dtX10_span 25 rfl) rfl rfl ?_
          refine b_iload_n (pc := 47) (i := 2) (dd dtX10_span 26 rfl) rfl rfl ?_
          refine b_iload (pc := 48) (i := 4) (dd dtX10_span 27 rfl) rfl ?_
          refine b_invV (pc := 50) (dd dtX10_span 28 rfl) mlX10_196 mvX6_least miX6_least (c_X6_least hN hN2) oC_42 rfl rfl (by decide) (Nat.le_of_ble_eq_true rfl) ?_
          refine b_istore (pc := 53) (i := 5) (lv' := [(5, _), (4, _), (0, _), (1, _), (2, _), (3, _)]) (dd dtX10_span 29 rfl) (Nat.le_of_ble_eq_true rfl) rfl ?_
          refine b_aload_n (pc := 55) (i := 0) (dd dtX10_span 30 rfl) rfl rfl ?_
          refine b_geta (pc := 56) (dd dtX10_span 31 rfl) fwX10_38 pC_0 rC_0_5 ?_
          refine b_iload_n (pc := 59) (i := 1) (dd dtX10_span 32 rfl) rfl rfl ?_
          refine b_iload_n (pc := 60) (i := 2) (dd dtX10_span 33 rfl) rfl rfl ?_
          refine b_iload (pc := 61) (i := 4) (dd dtX10_span 34 rfl) rfl ?_
          refine b_invV (pc := 63) (dd dtX10_span 35 rfl) mlX10_199 mvX6_most miX6_most (c_X6_most hN hN2) oC_42 rfl rfl (by decide) (Nat.le_of_ble_eq_true rfl) ?_
          refine b_istore (pc := 66) (i := 6) (lv' := [(6, _), (5, _), (4, _), (0, _), (1, _), (2, _), (3, _)]) (dd dtX10_span 36 rfl) (Nat.le_of_ble_eq_true rfl) rfl ?_
          refine b_iload (pc := 68) (i := 5) (dd dtX10_span 37 rfl) rfl ?_
          refine b_iload (pc := 70) (i := 6) (dd dtX10_span 38 rfl) rfl ?_
          refine b_icmpL_le (pc := 72) (tgt := 78) (dd dtX10_span 39 rfl) (by decide) (fun h72 => ?_) (fun h72 => ?_)
          · refine b_iload_n (pc := 78) (i := 3) (dd dtX10_span 42 rfl) rfl rfl ?_
            refine b_ic2 (pc := 79) (dd dtX10_span 43 rfl) ?_
            refine b_irem (pc := 80) (dd dtX10_span 44 rfl) (by decide) ?_
            refine b_if_ne (pc := 81) (tgt := 89) (dd dtX10_span 45 rfl) (by decide) (fun h81 => ?_) (fun h81 => ?_)
            · refine b_iload (pc := 89) (i := 6) (dd dtX10_span 48 rfl) rfl ?_
              refine b_eq (b_iret (dd dtX10_span 49 rfl) rfl) ?_ ?_
              · (try clear hN); simp [inR, vSpan, -Int32.not_lt, -Int32.not_le, *]
              · rfl
            · refine b_iload (pc := 84) (i := 5) (dd dtX10_span 46 rfl) rfl ?_
              refine b_goto (pc := 86) (tgt := 91) (dd dtX10_span 47 rfl) (by decide) ?_
              refine b_eq (b_iret (dd dtX10_span 49 rfl) rfl) ?_ ?_
              · (try clear hN); simp [inR, vSpan, -Int32.not_lt, -Int32.not_le, *]
              · rfl
          · refine b_bipush (pc := 75) (v := -3) (dd dtX10_span 40 rfl) (by decide) ?_
            refine b_eq (b_iret (dd dtX10_span 41 rfl) rfl) ?_ ?_
            · (try clear hN); simp [inR, vSpan, -Int32.not_lt, -Int32.not_le, *]
            · rfl
      · refine b_bipush (pc := 26) (v := -2) (dd dtX10_span 14 rfl) (by decide) ?_
        refine b_eq (b_iret (dd dtX10_span 15 rfl) rfl) ?_ ?_
        · (try clear hN); simp [inR, vSpan, -Int32.not_lt, -Int32.not_le, *]
        · rfl
  · refine b_icm1 (pc := 7) (dd dtX10_span 3 rfl) ?_
    refine b_eq (b_iret (dd dtX10_span 4 rfl) rfl) ?_ ?_
    · (try clear hN); simp [inR, vSpan, -Int32.not_lt, -Int32.not_le, *]
    · rfl
def tX10_lost : List (Nat × Instr × Nat) := [(0, .iload_n 1, 1), (1, .invokestatic 93, 3), (4, .ifCond .ne 5, 3), (7, .iconst (-1), 1), (8, .ireturn, 1), (9, .iload_n 2, 1), (10, .iconst 1, 1), (11, .sipush 400, 3), (14, .invokestatic 97, 3), (17, .ifCond .ne 6, 3), (20, .bipush (-2), 2), (22, .ireturn, 1), (23, .aload_n 0, 1), (24, .getfield 47, 3), (27, .invokevirtual 202, 3), (30, .ifCond .eq 6, 3), (33, .bipush (-4), 2), (35, .ireturn, 1), (36, .aload_n 0, 1), (37, .getfield 47, 3), (40, .iload_n 1, 1), (41, .iload_n 2, 1), (42, .aload_n 0, 1), (43, .getfield 21, 3), (46, .getfield 150, 3), (49, .invokevirtual 206, 3), (52, .ireturn, 1)]
theorem dtX10_lost : dec_ok mX10_lost.2.1 tX10_lost = true := by decide +kernel
set_option maxHeartbeats 4000000 in
theorem c_X10_lost {I : Wd} {L : Nat} {c u : Int32} (hN : I 49 0 = nI L) (hN2 : L ≤ 8) : Cal SyC mX10_lost 2 [.ref 0, .int c, .int u] I (some (.int (vLost L c u))) (if okLost L c u then (ist (ist (ist (ist I 50 L c) 51 L u) 52 L (I 6 1)) 49 0 (nI (L + 1))) else I) := by
  refine Cal.of (by decide) (Nat.le_of_ble_eq_true rfl) ?_
  show Bd _ _ _ _ [(0, _), (1, _), (2, _)] _ _ _ _
  refine b_iload_n (pc := 0) (i := 1) (dd dtX10_lost 0 rfl) rfl rfl ?_
  refine b_invS (pc := 1) (dd dtX10_lost 1 rfl) mlX10_93 mvX10_isCell msX10_isCell (c_X10_isCell) rfl rfl (by decide) (Nat.le_of_ble_eq_true rfl) ?_
  refine b_ifb_ne (pc := 4) (tgt := 9) (dd dtX10_lost 2 rfl) (by decide) (fun h4 => ?_) (fun h4 => ?_)
  · refine b_iload_n (pc := 9) (i := 2) (dd dtX10_lost 5 rfl) rfl rfl ?_
    refine b_ic1 (pc := 10) (dd dtX10_lost 6 rfl) ?_
    refine b_sipush (pc := 11) (v := 400) (dd dtX10_lost 7 rfl) (by decide) ?_
    refine b_invS (pc := 14) (dd dtX10_lost 8 rfl) mlX10_97 mvX10_within msX10_within (c_X10_within) rfl rfl (by decide) (Nat.le_of_ble_eq_true rfl) ?_
    refine b_ifb_ne (pc := 17) (tgt := 23) (dd dtX10_lost 9 rfl) (by decide) (fun h17 => ?_) (fun h17 => ?_)
    · refine b_aload_n (pc := 23) (i := 0) (dd dtX10_lost 12 rfl) rfl rfl ?_
      refine b_geta (pc := 24) (dd dtX10_lost 13 rfl) fwX10_47 pC_0 rC_0_6 ?_
      refine b_invV (pc := 27) (dd dtX10_lost 14 rfl) mlX10_202 mvX9_isFull miX9_isFull (c_X9_isFull_49 hN hN2) oC_49 rfl rfl (by decide) (Nat.le_of_ble_eq_true rfl) ?_
      refine b_ifn_eq (pc := 30) (tgt := 36) (dd dtX10_lost 15 rfl) (by decide) (fun h30 => ?_) (fun h30 => ?_)
      · refine b_aload_n (pc := 36) (i := 0) (dd dtX10_lost 18 rfl) rfl rfl ?_
        refine b_geta (pc := 37) (dd dtX10_lost 19 rfl) fwX10_47 pC_0 rC_0_6 ?_
        refine b_iload_n (pc := 40) (i := 1) (dd dtX10_lost 20 rfl) rfl rfl ?_
        refine b_iload_n (pc := 41) (i := 2) (dd dtX10_lost 21 rfl) rfl rfl ?_
        refine b_aload_n (pc := 42) (i := 0) (dd dtX10_lost 22 rfl) rfl rfl ?_
        refine b_geta (pc := 43) (dd dtX10_lost 23 rfl) fwX10_21 pC_0 rC_0_1 ?_
        refine b_geti (pc := 46) (dd dtX10_lost 24 rfl) fwX10_150 pC_6 ?_
        refine b_invV (pc := 49) (dd dtX10_lost 25 rfl) mlX10_206 mvX9_add miX9_add (c_X9_add_49 hN h30) oC_49 rfl rfl (by decide) (Nat.le_of_ble_eq_true rfl) ?_
        refine b_eq (b_iret (dd dtX10_lost 26 rfl) rfl) ?_ ?_
        · (try clear hN); simp [inR, vLost, okLost, -Int32.not_lt, -Int32.not_le, *]
        · (try clear hN); simp [inR, vLost, okLost, -Int32.not_lt, -Int32.not_le, *]
      · refine b_bipush (pc := 33) (v := -4) (dd dtX10_lost 16 rfl) (by decide) ?_
        refine b_eq (b_iret (dd dtX10_lost 17 rfl) rfl) ?_ ?_
        · (try clear hN); simp [inR, vLost, okLost, -Int32.not_lt, -Int32.not_le, *]
        · (try clear hN); simp [inR, vLost, okLost, -Int32.not_lt, -Int32.not_le, *]
    · refine b_bipush (pc := 20) (v := -2) (dd dtX10_lost 10 rfl) (by decide) ?_
      refine b_eq (b_iret (dd dtX10_lost 11 rfl) rfl) ?_ ?_
      · (try clear hN); simp [inR, vLost, okLost, -Int32.not_lt, -Int32.not_le, *]
      · (try clear hN); simp [inR, vLost, okLost, -Int32.not_lt, -Int32.not_le, *]
  · refine b_icm1 (pc := 7) (dd dtX10_lost 3 rfl) ?_
    refine b_eq (b_iret (dd dtX10_lost 4 rfl) rfl) ?_ ?_
    · (try clear hN); simp [inR, vLost, okLost, -Int32.not_lt, -Int32.not_le, *]
    · (try clear hN); simp [inR, vLost, okLost, -Int32.not_lt, -Int32.not_le, *]
def tX10_fitTold : List (Nat × Instr × Nat) := [(0, .iload_n 1, 1), (1, .iconst 0, 1), (2, .aload_n 0, 1), (3, .getfield 57, 3), (6, .getfield 229, 3), (9, .iconst 1, 1), (10, .isub, 1), (11, .invokestatic 97, 3), (14, .ifCond .ne 5, 3), (17, .iconst (-1), 1), (18, .ireturn, 1), (19, .iload_n 2, 1), (20, .iconst 0, 1), (21, .iconst 3, 1), (22, .invokestatic 97, 3), (25, .ifCond .ne 6, 3), (28, .bipush (-2), 2), (30, .ireturn, 1), (31, .aload_n 0, 1), (32, .getfield 57, 3), (35, .getfield 223, 3), (38, .ifCond .ne 6, 3), (41, .bipush (-3), 2), (43, .ireturn, 1), (44, .iload_n 2, 1), (45, .tableswitch 57 0 2 #[27, 37, 47], 27), (72, .aload_n 0, 1), (73, .getfield 57, 3), (76, .getfield 232, 3), (79, .iload_n 1, 1), (80, .iaload, 1), (81, .ireturn, 1), (82, .aload_n 0, 1), (83, .getfield 57, 3), (86, .getfield 235, 3), (89, .iload_n 1, 1), (90, .iaload, 1), (91, .ireturn, 1), (92, .aload_n 0, 1), (93, .getfield 57, 3), (96, .getfield 237, 3), (99, .iload_n 1, 1), (100, .iaload, 1), (101, .ireturn, 1), (102, .aload_n 0, 1), (103, .getfield 57, 3), (106, .getfield 223, 3), (109, .ireturn, 1)]
theorem dtX10_fitTold : dec_ok mX10_fitTold.2.1 tX10_fitTold = true := by decide +kernel
set_option maxHeartbeats 4000000 in
theorem c_X10_fitTold {I : Wd} {n : Nat} {i what : Int32} (hN : I 57 0 = nI n) (hN2 : n ≤ 5) : Cal SyC mX10_fitTold 1 [.ref 0, .int i, .int what] I (some (.int (vFitTold (I 58) (I 59) (I 60) (I 57 0) (I 57 1) i what))) I := by
  refine Cal.of (by decide) (Nat.le_of_ble_eq_true rfl) ?_
  show Bd _ _ _ _ [(0, _), (1, _), (2, _)] _ _ _ _
  refine b_iload_n (pc := 0) (i := 1) (dd dtX10_fitTold 0 rfl) rfl rfl ?_
  refine b_ic0 (pc := 1) (dd dtX10_fitTold 1 rfl) ?_
  refine b_aload_n (pc := 2) (i := 0) (dd dtX10_fitTold 2 rfl) rfl rfl ?_
  refine b_geta (pc := 3) (dd dtX10_fitTold 3 rfl) fwX10_57 pC_0 rC_0_8 ?_
  refine b_geti (pc := 6) (dd dtX10_fitTold 4 rfl) fwX10_229 pC_57 ?_
  refine b_ic1 (pc := 9) (dd dtX10_fitTold 5 rfl) ?_
  refine b_isub (pc := 10) (dd dtX10_fitTold 6 rfl) ?_
  refine b_invS (pc := 11) (dd dtX10_fitTold 7 rfl) mlX10_97 mvX10_within msX10_within (c_X10_within) rfl rfl (by decide) (Nat.le_of_ble_eq_true rfl) ?_
  refine b_ifb_ne (pc := 14) (tgt := 19) (dd dtX10_fitTold 8 rfl) (by decide) (fun h14 => ?_) (fun h14 => ?_)
  · refine b_iload_n (pc := 19) (i := 2) (dd dtX10_fitTold 11 rfl) rfl rfl ?_
    refine b_ic0 (pc := 20) (dd dtX10_fitTold 12 rfl) ?_
    refine b_ic3 (pc := 21) (dd dtX10_fitTold 13 rfl) ?_
    refine b_invS (pc := 22) (dd dtX10_fitTold 14 rfl) mlX10_97 mvX10_within msX10_within (c_X10_within) rfl rfl (by decide) (Nat.le_of_ble_eq_true rfl) ?_
    refine b_ifb_ne (pc := 25) (tgt := 31) (dd dtX10_fitTold 15 rfl) (by decide) (fun h25 => ?_) (fun h25 => ?_)
    · refine b_aload_n (pc := 31) (i := 0) (dd dtX10_fitTold 18 rfl) rfl rfl ?_
      refine b_geta (pc := 32) (dd dtX10_fitTold 19 rfl) fwX10_57 pC_0 rC_0_8 ?_
      refine b_geti (pc := 35) (dd dtX10_fitTold 20 rfl) fwX10_223 pC_57 ?_
      refine b_if_ne (pc := 38) (tgt := 44) (dd dtX10_fitTold 21 rfl) (by decide) (fun h38 => ?_) (fun h38 => ?_)
      · refine b_iload_n (pc := 44) (i := 2) (dd dtX10_fitTold 24 rfl) rfl rfl ?_
        refine b_tsw (pc := 45) (ts := [(0, 72), (1, 82), (2, 92)]) (dfl := 102) (dd dtX10_fitTold 25 rfl) (by decide +kernel) ⟨fun h45 => ?_, fun h45_0 => ⟨fun h45 => ?_, fun h45_1 => ⟨fun h45 => ?_, fun h45_2 => ?_⟩⟩⟩
        · refine b_aload_n (pc := 72) (i := 0) (dd dtX10_fitTold 26 rfl) rfl rfl ?_
          refine b_geta (pc := 73) (dd dtX10_fitTold 27 rfl) fwX10_57 pC_0 rC_0_8 ?_
          refine b_geta (pc := 76) (dd dtX10_fitTold 28 rfl) fwX10_232 pC_57 rC_57_4 ?_
          refine b_iload_n (pc := 79) (i := 1) (dd dtX10_fitTold 29 rfl) rfl rfl ?_
          refine b_iald (pc := 80) (dd dtX10_fitTold 30 rfl) pC_58 (vpm (by rw [hN] at h14; exact h14) hN2 (by decide)) ?_
          refine b_eq (b_iret (dd dtX10_fitTold 31 rfl) rfl) ?_ ?_
          · (try clear hN); simp [inR, vFitTold, -Int32.not_lt, -Int32.not_le, *]
          · (try clear hN); simp [inR, vFitTold, -Int32.not_lt, -Int32.not_le, *]
        · refine b_aload_n (pc := 82) (i := 0) (dd dtX10_fitTold 32 rfl) rfl rfl ?_
          refine b_geta (pc := 83) (dd dtX10_fitTold 33 rfl) fwX10_57 pC_0 rC_0_8 ?_
          refine b_geta (pc := 86) (dd dtX10_fitTold 34 rfl) fwX10_235 pC_57 rC_57_5 ?_
          refine b_iload_n (pc := 89) (i := 1) (dd dtX10_fitTold 35 rfl) rfl rfl ?_
          refine b_iald (pc := 90) (dd dtX10_fitTold 36 rfl) pC_59 (vpm (by rw [hN] at h14; exact h14) hN2 (by decide)) ?_
          refine b_eq (b_iret (dd dtX10_fitTold 37 rfl) rfl) ?_ ?_
          · (try clear hN); simp [inR, vFitTold, -Int32.not_lt, -Int32.not_le, *]
          · (try clear hN); simp [inR, vFitTold, -Int32.not_lt, -Int32.not_le, *]
        · refine b_aload_n (pc := 92) (i := 0) (dd dtX10_fitTold 38 rfl) rfl rfl ?_
          refine b_geta (pc := 93) (dd dtX10_fitTold 39 rfl) fwX10_57 pC_0 rC_0_8 ?_
          refine b_geta (pc := 96) (dd dtX10_fitTold 40 rfl) fwX10_237 pC_57 rC_57_6 ?_
          refine b_iload_n (pc := 99) (i := 1) (dd dtX10_fitTold 41 rfl) rfl rfl ?_
          refine b_iald (pc := 100) (dd dtX10_fitTold 42 rfl) pC_60 (vpm (by rw [hN] at h14; exact h14) hN2 (by decide)) ?_
          refine b_eq (b_iret (dd dtX10_fitTold 43 rfl) rfl) ?_ ?_
          · (try clear hN); simp [inR, vFitTold, -Int32.not_lt, -Int32.not_le, *]
          · (try clear hN); simp [inR, vFitTold, -Int32.not_lt, -Int32.not_le, *]
        · refine b_aload_n (pc := 102) (i := 0) (dd dtX10_fitTold 44 rfl) rfl rfl ?_
          refine b_geta (pc := 103) (dd dtX10_fitTold 45 rfl) fwX10_57 pC_0 rC_0_8 ?_
          refine b_geti (pc := 106) (dd dtX10_fitTold 46 rfl) fwX10_223 pC_57 ?_
          refine b_eq (b_iret (dd dtX10_fitTold 47 rfl) rfl) ?_ ?_
          · (try clear hN); simp [inR, vFitTold, -Int32.not_lt, -Int32.not_le, *]
          · (try clear hN); simp [inR, vFitTold, -Int32.not_lt, -Int32.not_le, *]
      · refine b_bipush (pc := 41) (v := -3) (dd dtX10_fitTold 22 rfl) (by decide) ?_
        refine b_eq (b_iret (dd dtX10_fitTold 23 rfl) rfl) ?_ ?_
        · (try clear hN); simp [inR, vFitTold, -Int32.not_lt, -Int32.not_le, *]
        · (try clear hN); simp [inR, vFitTold, -Int32.not_lt, -Int32.not_le, *]
    · refine b_bipush (pc := 28) (v := -2) (dd dtX10_fitTold 16 rfl) (by decide) ?_
      refine b_eq (b_iret (dd dtX10_fitTold 17 rfl) rfl) ?_ ?_
      · (try clear hN); simp [inR, vFitTold, -Int32.not_lt, -Int32.not_le, *]
      · (try clear hN); simp [inR, vFitTold, -Int32.not_lt, -Int32.not_le, *]
  · refine b_icm1 (pc := 17) (dd dtX10_fitTold 9 rfl) ?_
    refine b_eq (b_iret (dd dtX10_fitTold 10 rfl) rfl) ?_ ?_
    · (try clear hN); simp [inR, vFitTold, -Int32.not_lt, -Int32.not_le, *]
    · (try clear hN); simp [inR, vFitTold, -Int32.not_lt, -Int32.not_le, *]
def tX10_force : List (Nat × Instr × Nat) := [(0, .iload_n 1, 1), (1, .iconst 0, 1), (2, .aload_n 0, 1), (3, .getfield 64, 3), (6, .getfield 250, 3), (9, .iconst 1, 1), (10, .isub, 1), (11, .invokestatic 97, 3), (14, .ifCond .ne 6, 3), (17, .bipush (-2), 2), (19, .ireturn, 1), (20, .aload_n 0, 1), (21, .getfield 64, 3), (24, .getfield 253, 3), (27, .istore_n 2, 1), (28, .aload_n 0, 1), (29, .getfield 64, 3), (32, .iload_n 1, 1), (33, .putfield 253, 3), (36, .iload_n 2, 1), (37, .ireturn, 1)]
theorem dtX10_force : dec_ok mX10_force.2.1 tX10_force = true := by decide +kernel
set_option maxHeartbeats 4000000 in
theorem c_X10_force {I : Wd} {t : Int32} : Cal SyC mX10_force 1 [.ref 0, .int t] I (some (.int (vForce (I 66 1) (I 66 2) t))) (if inR t 0 (I 66 1 - 1) then ist I 66 2 t else I) := by
  refine Cal.of (by decide) (Nat.le_of_ble_eq_true rfl) ?_
  show Bd _ _ _ _ [(0, _), (1, _)] _ _ _ _
  refine b_iload_n (pc := 0) (i := 1) (dd dtX10_force 0 rfl) rfl rfl ?_
  refine b_ic0 (pc := 1) (dd dtX10_force 1 rfl) ?_
  refine b_aload_n (pc := 2) (i := 0) (dd dtX10_force 2 rfl) rfl rfl ?_
  refine b_geta (pc := 3) (dd dtX10_force 3 rfl) fwX10_64 pC_0 rC_0_9 ?_
  refine b_geti (pc := 6) (dd dtX10_force 4 rfl) fwX10_250 pC_66 ?_
  refine b_ic1 (pc := 9) (dd dtX10_force 5 rfl) ?_
  refine b_isub (pc := 10) (dd dtX10_force 6 rfl) ?_
  refine b_invS (pc := 11) (dd dtX10_force 7 rfl) mlX10_97 mvX10_within msX10_within (c_X10_within) rfl rfl (by decide) (Nat.le_of_ble_eq_true rfl) ?_
  refine b_ifb_ne (pc := 14) (tgt := 20) (dd dtX10_force 8 rfl) (by decide) (fun h14 => ?_) (fun h14 => ?_)
  · refine b_aload_n (pc := 20) (i := 0) (dd dtX10_force 11 rfl) rfl rfl ?_
    refine b_geta (pc := 21) (dd dtX10_force 12 rfl) fwX10_64 pC_0 rC_0_9 ?_
    refine b_geti (pc := 24) (dd dtX10_force 13 rfl) fwX10_253 pC_66 ?_
    refine b_istore_n (pc := 27) (i := 2) (lv' := [(2, _), (0, _), (1, _)]) (dd dtX10_force 14 rfl) rfl (Nat.le_of_ble_eq_true rfl) rfl ?_
    refine b_aload_n (pc := 28) (i := 0) (dd dtX10_force 15 rfl) rfl rfl ?_
    refine b_geta (pc := 29) (dd dtX10_force 16 rfl) fwX10_64 pC_0 rC_0_9 ?_
    refine b_iload_n (pc := 32) (i := 1) (dd dtX10_force 17 rfl) rfl rfl ?_
    refine b_puti (pc := 33) (dd dtX10_force 18 rfl) fwX10_253 pC_66 ?_
    refine b_iload_n (pc := 36) (i := 2) (dd dtX10_force 19 rfl) rfl rfl ?_
    refine b_eq (b_iret (dd dtX10_force 20 rfl) rfl) ?_ ?_
    · (try clear hN); simp [inR, vForce, -Int32.not_lt, -Int32.not_le, *]
    · (try clear hN); simp [inR, vForce, -Int32.not_lt, -Int32.not_le, *]
  · refine b_bipush (pc := 17) (v := -2) (dd dtX10_force 9 rfl) (by decide) ?_
    refine b_eq (b_iret (dd dtX10_force 10 rfl) rfl) ?_ ?_
    · (try clear hN); simp [inR, vForce, -Int32.not_lt, -Int32.not_le, *]
    · (try clear hN); simp [inR, vForce, -Int32.not_lt, -Int32.not_le, *]
def tX10_lookTold : List (Nat × Instr × Nat) := [(0, .aload_n 0, 1), (1, .getfield 78, 3), (4, .ireturn, 1)]
theorem dtX10_lookTold : dec_ok mX10_lookTold.2.1 tX10_lookTold = true := by decide +kernel
set_option maxHeartbeats 4000000 in
theorem c_X10_lookTold {I : Wd} : Cal SyC mX10_lookTold 0 [.ref 0] I (some (.int (I 0 12))) I := by
  refine Cal.of (by decide) (Nat.le_of_ble_eq_true rfl) ?_
  show Bd _ _ _ _ [(0, _)] _ _ _ _
  refine b_aload_n (pc := 0) (i := 0) (dd dtX10_lookTold 0 rfl) rfl rfl ?_
  refine b_geti (pc := 1) (dd dtX10_lookTold 1 rfl) fwX10_78 pC_0 ?_
  exact b_eq (b_iret (dd dtX10_lookTold 2 rfl) rfl) rfl rfl
def tX10_planned : List (Nat × Instr × Nat) := [(0, .aload_n 0, 1), (1, .getfield 82, 3), (4, .ireturn, 1)]
theorem dtX10_planned : dec_ok mX10_planned.2.1 tX10_planned = true := by decide +kernel
set_option maxHeartbeats 4000000 in
theorem c_X10_planned {I : Wd} : Cal SyC mX10_planned 0 [.ref 0] I (some (.int (I 0 13))) I := by
  refine Cal.of (by decide) (Nat.le_of_ble_eq_true rfl) ?_
  show Bd _ _ _ _ [(0, _)] _ _ _ _
  refine b_aload_n (pc := 0) (i := 0) (dd dtX10_planned 0 rfl) rfl rfl ?_
  refine b_geti (pc := 1) (dd dtX10_planned 1 rfl) fwX10_82 pC_0 ?_
  exact b_eq (b_iret (dd dtX10_planned 2 rfl) rfl) rfl rfl
def tX10_warn : List (Nat × Instr × Nat) := [(0, .iload_n 1, 1), (1, .invokestatic 93, 3), (4, .ifCond .ne 5, 3), (7, .iconst (-1), 1), (8, .ireturn, 1), (9, .aload_n 0, 1), (10, .getfield 21, 3), (13, .iload_n 1, 1), (14, .invokevirtual 101, 3), (17, .ifCond .eq 6, 3), (20, .bipush (-3), 2), (22, .ireturn, 1), (23, .aload_n 0, 1), (24, .getfield 51, 3), (27, .invokevirtual 202, 3), (30, .ifCond .eq 6, 3), (33, .bipush (-4), 2), (35, .ireturn, 1), (36, .aload_n 0, 1), (37, .getfield 51, 3), (40, .iload_n 1, 1), (41, .iconst 0, 1), (42, .aload_n 0, 1), (43, .getfield 21, 3), (46, .getfield 150, 3), (49, .invokevirtual 206, 3), (52, .ireturn, 1)]
theorem dtX10_warn : dec_ok mX10_warn.2.1 tX10_warn = true := by decide +kernel
set_option maxHeartbeats 4000000 in
theorem c_X10_warn {I : Wd} {N : Nat} {c : Int32} (hN : I 53 0 = nI N) (hN2 : N ≤ 30) : Cal SyC mX10_warn 2 [.ref 0, .int c] I (some (.int (vWarn (I 10) N c))) (if okWarn (I 10) N c then (ist (ist (ist (ist I 54 N c) 55 N 0) 56 N (I 6 1)) 53 0 (nI (N + 1))) else I) := by
  refine Cal.of (by decide) (Nat.le_of_ble_eq_true rfl) ?_
  show Bd _ _ _ _ [(0, _), (1, _)] _ _ _ _
  refine b_iload_n (pc := 0) (i := 1) (dd dtX10_warn 0 rfl) rfl rfl ?_
  refine b_invS (pc := 1) (dd dtX10_warn 1 rfl) mlX10_93 mvX10_isCell msX10_isCell (c_X10_isCell) rfl rfl (by decide) (Nat.le_of_ble_eq_true rfl) ?_
  refine b_ifb_ne (pc := 4) (tgt := 9) (dd dtX10_warn 2 rfl) (by decide) (fun h4 => ?_) (fun h4 => ?_)
  · refine b_aload_n (pc := 9) (i := 0) (dd dtX10_warn 5 rfl) rfl rfl ?_
    refine b_geta (pc := 10) (dd dtX10_warn 6 rfl) fwX10_21 pC_0 rC_0_1 ?_
    refine b_iload_n (pc := 13) (i := 1) (dd dtX10_warn 7 rfl) rfl rfl ?_
    refine b_invV (pc := 14) (dd dtX10_warn 8 rfl) mlX10_101 mvX2_hasFallen miX2_hasFallen (c_X2_hasFallen_6 (vpc (by assumption) (by decide))) oC_6 rfl rfl (by decide) (Nat.le_of_ble_eq_true rfl) ?_
    refine b_ifn_eq (pc := 17) (tgt := 23) (dd dtX10_warn 9 rfl) (by decide) (fun h17 => ?_) (fun h17 => ?_)
    · refine b_aload_n (pc := 23) (i := 0) (dd dtX10_warn 12 rfl) rfl rfl ?_
      refine b_geta (pc := 24) (dd dtX10_warn 13 rfl) fwX10_51 pC_0 rC_0_7 ?_
      refine b_invV (pc := 27) (dd dtX10_warn 14 rfl) mlX10_202 mvX9_isFull miX9_isFull (c_X9_isFull_53 hN hN2) oC_53 rfl rfl (by decide) (Nat.le_of_ble_eq_true rfl) ?_
      refine b_ifn_eq (pc := 30) (tgt := 36) (dd dtX10_warn 15 rfl) (by decide) (fun h30 => ?_) (fun h30 => ?_)
      · refine b_aload_n (pc := 36) (i := 0) (dd dtX10_warn 18 rfl) rfl rfl ?_
        refine b_geta (pc := 37) (dd dtX10_warn 19 rfl) fwX10_51 pC_0 rC_0_7 ?_
        refine b_iload_n (pc := 40) (i := 1) (dd dtX10_warn 20 rfl) rfl rfl ?_
        refine b_ic0 (pc := 41) (dd dtX10_warn 21 rfl) ?_
        refine b_aload_n (pc := 42) (i := 0) (dd dtX10_warn 22 rfl) rfl rfl ?_
        refine b_geta (pc := 43) (dd dtX10_warn 23 rfl) fwX10_21 pC_0 rC_0_1 ?_
        refine b_geti (pc := 46) (dd dtX10_warn 24 rfl) fwX10_150 pC_6 ?_
        refine b_invV (pc := 49) (dd dtX10_warn 25 rfl) mlX10_206 mvX9_add miX9_add (c_X9_add_53 hN h30) oC_53 rfl rfl (by decide) (Nat.le_of_ble_eq_true rfl) ?_
        refine b_eq (b_iret (dd dtX10_warn 26 rfl) rfl) ?_ ?_
        · (try clear hN); simp [inR, vWarn, okWarn, -Int32.not_lt, -Int32.not_le, *]
        · (try clear hN); simp [inR, vWarn, okWarn, -Int32.not_lt, -Int32.not_le, *]
      · refine b_bipush (pc := 33) (v := -4) (dd dtX10_warn 16 rfl) (by decide) ?_
        refine b_eq (b_iret (dd dtX10_warn 17 rfl) rfl) ?_ ?_
        · (try clear hN); simp [inR, vWarn, okWarn, -Int32.not_lt, -Int32.not_le, *]
        · (try clear hN); simp [inR, vWarn, okWarn, -Int32.not_lt, -Int32.not_le, *]
    · refine b_bipush (pc := 20) (v := -3) (dd dtX10_warn 10 rfl) (by decide) ?_
      refine b_eq (b_iret (dd dtX10_warn 11 rfl) rfl) ?_ ?_
      · (try clear hN); simp [inR, vWarn, okWarn, -Int32.not_lt, -Int32.not_le, *]
      · (try clear hN); simp [inR, vWarn, okWarn, -Int32.not_lt, -Int32.not_le, *]
  · refine b_icm1 (pc := 7) (dd dtX10_warn 3 rfl) ?_
    refine b_eq (b_iret (dd dtX10_warn 4 rfl) rfl) ?_ ?_
    · (try clear hN); simp [inR, vWarn, okWarn, -Int32.not_lt, -Int32.not_le, *]
    · (try clear hN); simp [inR, vWarn, okWarn, -Int32.not_lt, -Int32.not_le, *]
def tX10_cellTold : List (Nat × Instr × Nat) := [(0, .iload_n 1, 1), (1, .invokestatic 93, 3), (4, .ifCond .ne 6, 3), (7, .bipush (-5), 2), (9, .ireturn, 1), (10, .iload_n 2, 1), (11, .tableswitch 98 0 4 #[33, 43, 53, 63, 89], 33), (44, .aload_n 0, 1), (45, .getfield 21, 3), (48, .getfield 107, 3), (51, .iload_n 1, 1), (52, .iaload, 1), (53, .ireturn, 1), (54, .aload_n 0, 1), (55, .getfield 21, 3), (58, .getfield 315, 3), (61, .iload_n 1, 1), (62, .iaload, 1), (63, .ireturn, 1), (64, .aload_n 0, 1), (65, .getfield 21, 3), (68, .getfield 318, 3), (71, .iload_n 1, 1), (72, .iaload, 1), (73, .ireturn, 1), (74, .aload_n 0, 1), (75, .getfield 21, 3), (78, .iload_n 1, 1), (79, .invokevirtual 101, 3), (82, .ifCond .eq 15, 3), (85, .aload_n 0, 1), (86, .getfield 21, 3), (89, .getfield 104, 3), (92, .iload_n 1, 1), (93, .iaload, 1), (94, .goto 5, 3), (97, .bipush (-3), 2), (99, .ireturn, 1), (100, .aload_n 0, 1), (101, .getfield 21, 3), (104, .iload_n 1, 1), (105, .invokevirtual 261, 3), (108, .ireturn, 1), (109, .bipush (-7), 2), (111, .ireturn, 1)]
theorem dtX10_cellTold : dec_ok mX10_cellTold.2.1 tX10_cellTold = true := by decide +kernel
set_option maxHeartbeats 4000000 in
theorem c_X10_cellTold {I : Wd} {N : Nat} {c what : Int32} (hN : I 1 0 = nI N) (hN2 : N ≤ 14) : Cal SyC mX10_cellTold 2 [.ref 0, .int c, .int what] I (some (.int (vCellTold (I 7) (I 9) (I 10) (I 8) (sPeople (I 2) (I 14) (I 15) (I 4) c N) c what))) I := by
  refine Cal.of (by decide) (Nat.le_of_ble_eq_true rfl) ?_
  show Bd _ _ _ _ [(0, _), (1, _), (2, _)] _ _ _ _
  refine b_iload_n (pc := 0) (i := 1) (dd dtX10_cellTold 0 rfl) rfl rfl ?_
  refine b_invS (pc := 1) (dd dtX10_cellTold 1 rfl) mlX10_93 mvX10_isCell msX10_isCell (c_X10_isCell) rfl rfl (by decide) (Nat.le_of_ble_eq_true rfl) ?_
  refine b_ifb_ne (pc := 4) (tgt := 10) (dd dtX10_cellTold 2 rfl) (by decide) (fun h4 => ?_) (fun h4 => ?_)
  · refine b_iload_n (pc := 10) (i := 2) (dd dtX10_cellTold 5 rfl) rfl rfl ?_
    refine b_tsw (pc := 11) (ts := [(0, 44), (1, 54), (2, 64), (3, 74), (4, 100)]) (dfl := 109) (dd dtX10_cellTold 6 rfl) (by decide +kernel) ⟨fun h11 => ?_, fun h11_0 => ⟨fun h11 => ?_, fun h11_1 => ⟨fun h11 => ?_, fun h11_2 => ⟨fun h11 => ?_, fun h11_3 => ⟨fun h11 => ?_, fun h11_4 => ?_⟩⟩⟩⟩⟩
    · refine b_aload_n (pc := 44) (i := 0) (dd dtX10_cellTold 7 rfl) rfl rfl ?_
      refine b_geta (pc := 45) (dd dtX10_cellTold 8 rfl) fwX10_21 pC_0 rC_0_1 ?_
      refine b_geta (pc := 48) (dd dtX10_cellTold 9 rfl) fwX10_107 pC_6 rC_6_5 ?_
      refine b_iload_n (pc := 51) (i := 1) (dd dtX10_cellTold 10 rfl) rfl rfl ?_
      refine b_iald (pc := 52) (dd dtX10_cellTold 11 rfl) pC_7 (vpc (by assumption) (by decide)) ?_
      refine b_eq (b_iret (dd dtX10_cellTold 12 rfl) rfl) ?_ ?_
      · (try clear hN); simp [inR, vCellTold, -Int32.not_lt, -Int32.not_le, *]
      · (try clear hN); simp [inR, vCellTold, -Int32.not_lt, -Int32.not_le, *]
    · refine b_aload_n (pc := 54) (i := 0) (dd dtX10_cellTold 13 rfl) rfl rfl ?_
      refine b_geta (pc := 55) (dd dtX10_cellTold 14 rfl) fwX10_21 pC_0 rC_0_1 ?_
      refine b_geta (pc := 58) (dd dtX10_cellTold 15 rfl) fwX10_315 pC_6 rC_6_7 ?_
      refine b_iload_n (pc := 61) (i := 1) (dd dtX10_cellTold 16 rfl) rfl rfl ?_
      refine b_iald (pc := 62) (dd dtX10_cellTold 17 rfl) pC_9 (vpc (by assumption) (by decide)) ?_
      refine b_eq (b_iret (dd dtX10_cellTold 18 rfl) rfl) ?_ ?_
      · (try clear hN); simp [inR, vCellTold, -Int32.not_lt, -Int32.not_le, *]
      · (try clear hN); simp [inR, vCellTold, -Int32.not_lt, -Int32.not_le, *]
    · refine b_aload_n (pc := 64) (i := 0) (dd dtX10_cellTold 19 rfl) rfl rfl ?_
      refine b_geta (pc := 65) (dd dtX10_cellTold 20 rfl) fwX10_21 pC_0 rC_0_1 ?_
      refine b_geta (pc := 68) (dd dtX10_cellTold 21 rfl) fwX10_318 pC_6 rC_6_8 ?_
      refine b_iload_n (pc := 71) (i := 1) (dd dtX10_cellTold 22 rfl) rfl rfl ?_
      refine b_iald (pc := 72) (dd dtX10_cellTold 23 rfl) pC_10 (vpc (by assumption) (by decide)) ?_
      refine b_eq (b_iret (dd dtX10_cellTold 24 rfl) rfl) ?_ ?_
      · (try clear hN); simp [inR, vCellTold, -Int32.not_lt, -Int32.not_le, *]
      · (try clear hN); simp [inR, vCellTold, -Int32.not_lt, -Int32.not_le, *]
    · refine b_aload_n (pc := 74) (i := 0) (dd dtX10_cellTold 25 rfl) rfl rfl ?_
      refine b_geta (pc := 75) (dd dtX10_cellTold 26 rfl) fwX10_21 pC_0 rC_0_1 ?_
      refine b_iload_n (pc := 78) (i := 1) (dd dtX10_cellTold 27 rfl) rfl rfl ?_
      refine b_invV (pc := 79) (dd dtX10_cellTold 28 rfl) mlX10_101 mvX2_hasFallen miX2_hasFallen (c_X2_hasFallen_6 (vpc (by assumption) (by decide))) oC_6 rfl rfl (by decide) (Nat.le_of_ble_eq_true rfl) ?_
      refine b_ifn_eq (pc := 82) (tgt := 97) (dd dtX10_cellTold 29 rfl) (by decide) (fun h82 => ?_) (fun h82 => ?_)
      · refine b_bipush (pc := 97) (v := -3) (dd dtX10_cellTold 36 rfl) (by decide) ?_
        refine b_eq (b_iret (dd dtX10_cellTold 37 rfl) rfl) ?_ ?_
        · (try clear hN); simp [inR, vCellTold, -Int32.not_lt, -Int32.not_le, *]
        · (try clear hN); simp [inR, vCellTold, -Int32.not_lt, -Int32.not_le, *]
      · refine b_aload_n (pc := 85) (i := 0) (dd dtX10_cellTold 30 rfl) rfl rfl ?_
        refine b_geta (pc := 86) (dd dtX10_cellTold 31 rfl) fwX10_21 pC_0 rC_0_1 ?_
        refine b_geta (pc := 89) (dd dtX10_cellTold 32 rfl) fwX10_104 pC_6 rC_6_6 ?_
        refine b_iload_n (pc := 92) (i := 1) (dd dtX10_cellTold 33 rfl) rfl rfl ?_
        refine b_iald (pc := 93) (dd dtX10_cellTold 34 rfl) pC_8 (vpc (by assumption) (by decide)) ?_
        refine b_goto (pc := 94) (tgt := 99) (dd dtX10_cellTold 35 rfl) (by decide) ?_
        refine b_eq (b_iret (dd dtX10_cellTold 37 rfl) rfl) ?_ ?_
        · (try clear hN); simp [inR, vCellTold, -Int32.not_lt, -Int32.not_le, *]
        · (try clear hN); simp [inR, vCellTold, -Int32.not_lt, -Int32.not_le, *]
    · refine b_aload_n (pc := 100) (i := 0) (dd dtX10_cellTold 38 rfl) rfl rfl ?_
      refine b_geta (pc := 101) (dd dtX10_cellTold 39 rfl) fwX10_21 pC_0 rC_0_1 ?_
      refine b_iload_n (pc := 104) (i := 1) (dd dtX10_cellTold 40 rfl) rfl rfl ?_
      refine b_invV (pc := 105) (dd dtX10_cellTold 41 rfl) mlX10_261 mvX2_peopleAt miX2_peopleAt (c_X2_peopleAt_6 hN hN2) oC_6 rfl rfl (by decide) (Nat.le_of_ble_eq_true rfl) ?_
      refine b_eq (b_iret (dd dtX10_cellTold 42 rfl) rfl) ?_ ?_
      · (try clear hN); simp [inR, vCellTold, -Int32.not_lt, -Int32.not_le, *]
      · (try clear hN); simp [inR, vCellTold, -Int32.not_lt, -Int32.not_le, *]
    · refine b_bipush (pc := 109) (v := -7) (dd dtX10_cellTold 43 rfl) (by decide) ?_
      refine b_eq (b_iret (dd dtX10_cellTold 44 rfl) rfl) ?_ ?_
      · (try clear hN); simp [inR, vCellTold, -Int32.not_lt, -Int32.not_le, *]
      · (try clear hN); simp [inR, vCellTold, -Int32.not_lt, -Int32.not_le, *]
  · refine b_bipush (pc := 7) (v := -5) (dd dtX10_cellTold 3 rfl) (by decide) ?_
    refine b_eq (b_iret (dd dtX10_cellTold 4 rfl) rfl) ?_ ?_
    · (try clear hN); simp [inR, vCellTold, -Int32.not_lt, -Int32.not_le, *]
    · (try clear hN); simp [inR, vCellTold, -Int32.not_lt, -Int32.not_le, *]
def tX10_houseTold : List (Nat × Instr × Nat) := [(0, .aload_n 0, 1), (1, .iload_n 1, 1), (2, .invokevirtual 131, 3), (5, .ifCond .ne 6, 3), (8, .bipush (-5), 2), (10, .ireturn, 1), (11, .iload_n 2, 1), (12, .tableswitch 94 0 4 #[36, 46, 56, 66, 76], 36), (48, .aload_n 0, 1), (49, .getfield 10, 3), (52, .getfield 266, 3), (55, .iload_n 1, 1), (56, .iaload, 1), (57, .ireturn, 1), (58, .aload_n 0, 1), (59, .getfield 10, 3), (62, .getfield 321, 3), (65, .iload_n 1, 1), (66, .iaload, 1), (67, .ireturn, 1), (68, .aload_n 0, 1), (69, .getfield 10, 3), (72, .getfield 141, 3), (75, .iload_n 1, 1), (76, .iaload, 1), (77, .ireturn, 1), (78, .aload_n 0, 1), (79, .getfield 21, 3), (82, .getfield 134, 3), (85, .iload_n 1, 1), (86, .iaload, 1), (87, .ireturn, 1), (88, .aload_n 0, 1), (89, .getfield 21, 3), (92, .getfield 137, 3), (95, .iload_n 1, 1), (96, .baload, 1), (97, .ifCond .eq 7, 3), (100, .iconst 1, 1), (101, .goto 4, 3), (104, .iconst 0, 1), (105, .ireturn, 1), (106, .bipush (-7), 2), (108, .ireturn, 1)]
theorem dtX10_houseTold : dec_ok mX10_houseTold.2.1 tX10_houseTold = true := by decide +kernel
set_option maxHeartbeats 4000000 in
theorem c_X10_houseTold {I : Wd} {N : Nat} {h what : Int32} (hN : I 1 0 = nI N) (hN2 : N ≤ 14) : Cal SyC mX10_houseTold 2 [.ref 0, .int h, .int what] I (some (.int (vHouseTold (I 2) (I 3) (I 4) (I 14) (I 15) (I 1 0) h what))) I := by
  refine Cal.of (by decide) (Nat.le_of_ble_eq_true rfl) ?_
  show Bd _ _ _ _ [(0, _), (1, _), (2, _)] _ _ _ _
  refine b_aload_n (pc := 0) (i := 0) (dd dtX10_houseTold 0 rfl) rfl rfl ?_
  refine b_iload_n (pc := 1) (i := 1) (dd dtX10_houseTold 1 rfl) rfl rfl ?_
  refine b_invV (pc := 2) (dd dtX10_houseTold 2 rfl) mlX10_131 mvX10_isHouse miX10_isHouse (c_X10_isHouse) oC_0 rfl rfl (by decide) (Nat.le_of_ble_eq_true rfl) ?_
  refine b_ifb_ne (pc := 5) (tgt := 11) (dd dtX10_houseTold 3 rfl) (by decide) (fun h5 => ?_) (fun h5 => ?_)
  · refine b_iload_n (pc := 11) (i := 2) (dd dtX10_houseTold 6 rfl) rfl rfl ?_
    refine b_tsw (pc := 12) (ts := [(0, 48), (1, 58), (2, 68), (3, 78), (4, 88)]) (dfl := 106) (dd dtX10_houseTold 7 rfl) (by decide +kernel) ⟨fun h12 => ?_, fun h12_0 => ⟨fun h12 => ?_, fun h12_1 => ⟨fun h12 => ?_, fun h12_2 => ⟨fun h12 => ?_, fun h12_3 => ⟨fun h12 => ?_, fun h12_4 => ?_⟩⟩⟩⟩⟩
    · refine b_aload_n (pc := 48) (i := 0) (dd dtX10_houseTold 8 rfl) rfl rfl ?_
      refine b_geta (pc := 49) (dd dtX10_houseTold 9 rfl) fwX10_10 pC_0 rC_0_0 ?_
      refine b_geta (pc := 52) (dd dtX10_houseTold 10 rfl) fwX10_266 pC_1 rC_1_2 ?_
      refine b_iload_n (pc := 55) (i := 1) (dd dtX10_houseTold 11 rfl) rfl rfl ?_
      refine b_iald (pc := 56) (dd dtX10_houseTold 12 rfl) pC_2 (vpm (by rw [hN] at h5; exact h5) hN2 (by decide)) ?_
      refine b_eq (b_iret (dd dtX10_houseTold 13 rfl) rfl) ?_ ?_
      · (try clear hN); simp [inR, vHouseTold, -Int32.not_lt, -Int32.not_le, *]
      · (try clear hN); simp [inR, vHouseTold, -Int32.not_lt, -Int32.not_le, *]
    · refine b_aload_n (pc := 58) (i := 0) (dd dtX10_houseTold 14 rfl) rfl rfl ?_
      refine b_geta (pc := 59) (dd dtX10_houseTold 15 rfl) fwX10_10 pC_0 rC_0_0 ?_
      refine b_geta (pc := 62) (dd dtX10_houseTold 16 rfl) fwX10_321 pC_1 rC_1_3 ?_
      refine b_iload_n (pc := 65) (i := 1) (dd dtX10_houseTold 17 rfl) rfl rfl ?_
      refine b_iald (pc := 66) (dd dtX10_houseTold 18 rfl) pC_3 (vpm (by rw [hN] at h5; exact h5) hN2 (by decide)) ?_
      refine b_eq (b_iret (dd dtX10_houseTold 19 rfl) rfl) ?_ ?_
      · (try clear hN); simp [inR, vHouseTold, -Int32.not_lt, -Int32.not_le, *]
      · (try clear hN); simp [inR, vHouseTold, -Int32.not_lt, -Int32.not_le, *]
    · refine b_aload_n (pc := 68) (i := 0) (dd dtX10_houseTold 20 rfl) rfl rfl ?_
      refine b_geta (pc := 69) (dd dtX10_houseTold 21 rfl) fwX10_10 pC_0 rC_0_0 ?_
      refine b_geta (pc := 72) (dd dtX10_houseTold 22 rfl) fwX10_141 pC_1 rC_1_4 ?_
      refine b_iload_n (pc := 75) (i := 1) (dd dtX10_houseTold 23 rfl) rfl rfl ?_
      refine b_iald (pc := 76) (dd dtX10_houseTold 24 rfl) pC_4 (vpm (by rw [hN] at h5; exact h5) hN2 (by decide)) ?_
      refine b_eq (b_iret (dd dtX10_houseTold 25 rfl) rfl) ?_ ?_
      · (try clear hN); simp [inR, vHouseTold, -Int32.not_lt, -Int32.not_le, *]
      · (try clear hN); simp [inR, vHouseTold, -Int32.not_lt, -Int32.not_le, *]
    · refine b_aload_n (pc := 78) (i := 0) (dd dtX10_houseTold 26 rfl) rfl rfl ?_
      refine b_geta (pc := 79) (dd dtX10_houseTold 27 rfl) fwX10_21 pC_0 rC_0_1 ?_
      refine b_geta (pc := 82) (dd dtX10_houseTold 28 rfl) fwX10_134 pC_6 rC_6_12 ?_
      refine b_iload_n (pc := 85) (i := 1) (dd dtX10_houseTold 29 rfl) rfl rfl ?_
      refine b_iald (pc := 86) (dd dtX10_houseTold 30 rfl) pC_14 (vpm (by rw [hN] at h5; exact h5) hN2 (by decide)) ?_
      refine b_eq (b_iret (dd dtX10_houseTold 31 rfl) rfl) ?_ ?_
      · (try clear hN); simp [inR, vHouseTold, -Int32.not_lt, -Int32.not_le, *]
      · (try clear hN); simp [inR, vHouseTold, -Int32.not_lt, -Int32.not_le, *]
    · refine b_aload_n (pc := 88) (i := 0) (dd dtX10_houseTold 32 rfl) rfl rfl ?_
      refine b_geta (pc := 89) (dd dtX10_houseTold 33 rfl) fwX10_21 pC_0 rC_0_1 ?_
      refine b_geta (pc := 92) (dd dtX10_houseTold 34 rfl) fwX10_137 pC_6 rC_6_13 ?_
      refine b_iload_n (pc := 95) (i := 1) (dd dtX10_houseTold 35 rfl) rfl rfl ?_
      refine b_zald (pc := 96) (dd dtX10_houseTold 36 rfl) pC_15 (vpm (by rw [hN] at h5; exact h5) hN2 (by decide)) ?_
      refine b_if_eq (pc := 97) (tgt := 104) (dd dtX10_houseTold 37 rfl) (by decide) (fun h97 => ?_) (fun h97 => ?_)
      · refine b_ic0 (pc := 104) (dd dtX10_houseTold 40 rfl) ?_
        refine b_eq (b_iret (dd dtX10_houseTold 41 rfl) rfl) ?_ ?_
        · (try clear hN); simp [inR, vHouseTold, -Int32.not_lt, -Int32.not_le, *]
        · (try clear hN); simp [inR, vHouseTold, -Int32.not_lt, -Int32.not_le, *]
      · refine b_ic1 (pc := 100) (dd dtX10_houseTold 38 rfl) ?_
        refine b_goto (pc := 101) (tgt := 105) (dd dtX10_houseTold 39 rfl) (by decide) ?_
        refine b_eq (b_iret (dd dtX10_houseTold 41 rfl) rfl) ?_ ?_
        · (try clear hN); simp [inR, vHouseTold, -Int32.not_lt, -Int32.not_le, *]
        · (try clear hN); simp [inR, vHouseTold, -Int32.not_lt, -Int32.not_le, *]
    · refine b_bipush (pc := 106) (v := -7) (dd dtX10_houseTold 42 rfl) (by decide) ?_
      refine b_eq (b_iret (dd dtX10_houseTold 43 rfl) rfl) ?_ ?_
      · (try clear hN); simp [inR, vHouseTold, -Int32.not_lt, -Int32.not_le, *]
      · (try clear hN); simp [inR, vHouseTold, -Int32.not_lt, -Int32.not_le, *]
  · refine b_bipush (pc := 8) (v := -5) (dd dtX10_houseTold 4 rfl) (by decide) ?_
    refine b_eq (b_iret (dd dtX10_houseTold 5 rfl) rfl) ?_ ?_
    · (try clear hN); simp [inR, vHouseTold, -Int32.not_lt, -Int32.not_le, *]
    · (try clear hN); simp [inR, vHouseTold, -Int32.not_lt, -Int32.not_le, *]
def tX10_count : List (Nat × Instr × Nat) := [(0, .iload_n 1, 1), (1, .tableswitch 162 0 11 #[63, 71, 79, 87, 95, 103, 111, 119, 127, 135, 146, 154], 63), (64, .aload_n 0, 1), (65, .getfield 21, 3), (68, .getfield 150, 3), (71, .ireturn, 1), (72, .aload_n 0, 1), (73, .getfield 38, 3), (76, .getfield 153, 3), (79, .ireturn, 1), (80, .aload_n 0, 1), (81, .getfield 10, 3), (84, .getfield 111, 3), (87, .ireturn, 1), (88, .aload_n 0, 1), (89, .getfield 10, 3), (92, .getfield 118, 3), (95, .ireturn, 1), (96, .aload_n 0, 1), (97, .getfield 21, 3), (100, .getfield 328, 3), (103, .ireturn, 1), (104, .aload_n 0, 1), (105, .getfield 21, 3), (108, .getfield 331, 3), (111, .ireturn, 1), (112, .aload_n 0, 1), (113, .getfield 51, 3), (116, .getfield 346, 3), (119, .ireturn, 1), (120, .aload_n 0, 1), (121, .getfield 64, 3), (124, .getfield 250, 3), (127, .ireturn, 1), (128, .aload_n 0, 1), (129, .getfield 64, 3), (132, .getfield 253, 3), (135, .ireturn, 1), (136, .aload_n 0, 1), (137, .getfield 64, 3), (140, .getfield 240, 3), (143, .getfield 244, 3), (146, .ireturn, 1), (147, .aload_n 0, 1), (148, .getfield 47, 3), (151, .getfield 346, 3), (154, .ireturn, 1), (155, .aload_n 0, 1), (156, .getfield 21, 3), (159, .getfield 128, 3), (162, .ireturn, 1), (163, .bipush (-2), 2), (165, .ireturn, 1)]
theorem dtX10_count : dec_ok mX10_count.2.1 tX10_count = true := by decide +kernel
set_option maxHeartbeats 4000000 in
theorem c_X10_count {I : Wd} {what : Int32} : Cal SyC mX10_count 0 [.ref 0, .int what] I (some (.int (vCount (I 6 1) (I 42 0) (I 1 0) (I 1 1) (I 6 3) (I 6 4) (I 53 0) (I 66 1) (I 66 2) (I 67 0) (I 49 0) (I 6 2) what))) I := by
  refine Cal.of (by decide) (Nat.le_of_ble_eq_true rfl) ?_
  show Bd _ _ _ _ [(0, _), (1, _)] _ _ _ _
  refine b_iload_n (pc := 0) (i := 1) (dd dtX10_count 0 rfl) rfl rfl ?_
  refine b_tsw (pc := 1) (ts := [(0, 64), (1, 72), (2, 80), (3, 88), (4, 96), (5, 104), (6, 112), (7, 120), (8, 128), (9, 136), (10, 147), (11, 155)]) (dfl := 163) (dd dtX10_count 1 rfl) (by decide +kernel) ⟨fun h1 => ?_, fun h1_0 => ⟨fun h1 => ?_, fun h1_1 => ⟨fun h1 => ?_, fun h1_2 => ⟨fun h1 => ?_, fun h1_3 => ⟨fun h1 => ?_, fun h1_4 => ⟨fun h1 => ?_, fun h1_5 => ⟨fun h1 => ?_, fun h1_6 => ⟨fun h1 => ?_, fun h1_7 => ⟨fun h1 => ?_, fun h1_8 => ⟨fun h1 => ?_, fun h1_9 => ⟨fun h1 => ?_, fun h1_10 => ⟨fun h1 => ?_, fun h1_11 => ?_⟩⟩⟩⟩⟩⟩⟩⟩⟩⟩⟩⟩
  · refine b_aload_n (pc := 64) (i := 0) (dd dtX10_count 2 rfl) rfl rfl ?_
    refine b_geta (pc := 65) (dd dtX10_count 3 rfl) fwX10_21 pC_0 rC_0_1 ?_
    refine b_geti (pc := 68) (dd dtX10_count 4 rfl) fwX10_150 pC_6 ?_
    refine b_eq (b_iret (dd dtX10_count 5 rfl) rfl) ?_ ?_
    · (try clear hN); simp [inR, vCount, -Int32.not_lt, -Int32.not_le, *]
    · (try clear hN); simp [inR, vCount, -Int32.not_lt, -Int32.not_le, *]
  · refine b_aload_n (pc := 72) (i := 0) (dd dtX10_count 6 rfl) rfl rfl ?_
    refine b_geta (pc := 73) (dd dtX10_count 7 rfl) fwX10_38 pC_0 rC_0_5 ?_
    refine b_geti (pc := 76) (dd dtX10_count 8 rfl) fwX10_153 pC_42 ?_
    refine b_eq (b_iret (dd dtX10_count 9 rfl) rfl) ?_ ?_
    · (try clear hN); simp [inR, vCount, -Int32.not_lt, -Int32.not_le, *]
    · (try clear hN); simp [inR, vCount, -Int32.not_lt, -Int32.not_le, *]
  · refine b_aload_n (pc := 80) (i := 0) (dd dtX10_count 10 rfl) rfl rfl ?_
    refine b_geta (pc := 81) (dd dtX10_count 11 rfl) fwX10_10 pC_0 rC_0_0 ?_
    refine b_geti (pc := 84) (dd dtX10_count 12 rfl) fwX10_111 pC_1 ?_
    refine b_eq (b_iret (dd dtX10_count 13 rfl) rfl) ?_ ?_
    · (try clear hN); simp [inR, vCount, -Int32.not_lt, -Int32.not_le, *]
    · (try clear hN); simp [inR, vCount, -Int32.not_lt, -Int32.not_le, *]
  · refine b_aload_n (pc := 88) (i := 0) (dd dtX10_count 14 rfl) rfl rfl ?_
    refine b_geta (pc := 89) (dd dtX10_count 15 rfl) fwX10_10 pC_0 rC_0_0 ?_
    refine b_geti (pc := 92) (dd dtX10_count 16 rfl) fwX10_118 pC_1 ?_
    refine b_eq (b_iret (dd dtX10_count 17 rfl) rfl) ?_ ?_
    · (try clear hN); simp [inR, vCount, -Int32.not_lt, -Int32.not_le, *]
    · (try clear hN); simp [inR, vCount, -Int32.not_lt, -Int32.not_le, *]
  · refine b_aload_n (pc := 96) (i := 0) (dd dtX10_count 18 rfl) rfl rfl ?_
    refine b_geta (pc := 97) (dd dtX10_count 19 rfl) fwX10_21 pC_0 rC_0_1 ?_
    refine b_geti (pc := 100) (dd dtX10_count 20 rfl) fwX10_328 pC_6 ?_
    refine b_eq (b_iret (dd dtX10_count 21 rfl) rfl) ?_ ?_
    · (try clear hN); simp [inR, vCount, -Int32.not_lt, -Int32.not_le, *]
    · (try clear hN); simp [inR, vCount, -Int32.not_lt, -Int32.not_le, *]
  · refine b_aload_n (pc := 104) (i := 0) (dd dtX10_count 22 rfl) rfl rfl ?_
    refine b_geta (pc := 105) (dd dtX10_count 23 rfl) fwX10_21 pC_0 rC_0_1 ?_
    refine b_geti (pc := 108) (dd dtX10_count 24 rfl) fwX10_331 pC_6 ?_
    refine b_eq (b_iret (dd dtX10_count 25 rfl) rfl) ?_ ?_
    · (try clear hN); simp [inR, vCount, -Int32.not_lt, -Int32.not_le, *]
    · (try clear hN); simp [inR, vCount, -Int32.not_lt, -Int32.not_le, *]
  · refine b_aload_n (pc := 112) (i := 0) (dd dtX10_count 26 rfl) rfl rfl ?_
    refine b_geta (pc := 113) (dd dtX10_count 27 rfl) fwX10_51 pC_0 rC_0_7 ?_
    refine b_geti (pc := 116) (dd dtX10_count 28 rfl) fwX10_346 pC_53 ?_
    refine b_eq (b_iret (dd dtX10_count 29 rfl) rfl) ?_ ?_
    · (try clear hN); simp [inR, vCount, -Int32.not_lt, -Int32.not_le, *]
    · (try clear hN); simp [inR, vCount, -Int32.not_lt, -Int32.not_le, *]
  · refine b_aload_n (pc := 120) (i := 0) (dd dtX10_count 30 rfl) rfl rfl ?_
    refine b_geta (pc := 121) (dd dtX10_count 31 rfl) fwX10_64 pC_0 rC_0_9 ?_
    refine b_geti (pc := 124) (dd dtX10_count 32 rfl) fwX10_250 pC_66 ?_
    refine b_eq (b_iret (dd dtX10_count 33 rfl) rfl) ?_ ?_
    · (try clear hN); simp [inR, vCount, -Int32.not_lt, -Int32.not_le, *]
    · (try clear hN); simp [inR, vCount, -Int32.not_lt, -Int32.not_le, *]
  · refine b_aload_n (pc := 128) (i := 0) (dd dtX10_count 34 rfl) rfl rfl ?_
    refine b_geta (pc := 129) (dd dtX10_count 35 rfl) fwX10_64 pC_0 rC_0_9 ?_
    refine b_geti (pc := 132) (dd dtX10_count 36 rfl) fwX10_253 pC_66 ?_
    refine b_eq (b_iret (dd dtX10_count 37 rfl) rfl) ?_ ?_
    · (try clear hN); simp [inR, vCount, -Int32.not_lt, -Int32.not_le, *]
    · (try clear hN); simp [inR, vCount, -Int32.not_lt, -Int32.not_le, *]
  · refine b_aload_n (pc := 136) (i := 0) (dd dtX10_count 38 rfl) rfl rfl ?_
    refine b_geta (pc := 137) (dd dtX10_count 39 rfl) fwX10_64 pC_0 rC_0_9 ?_
    refine b_geta (pc := 140) (dd dtX10_count 40 rfl) fwX10_240 pC_66 rC_66_0 ?_
    refine b_geti (pc := 143) (dd dtX10_count 41 rfl) fwX10_244 pC_67 ?_
    refine b_eq (b_iret (dd dtX10_count 42 rfl) rfl) ?_ ?_
    · (try clear hN); simp [inR, vCount, -Int32.not_lt, -Int32.not_le, *]
    · (try clear hN); simp [inR, vCount, -Int32.not_lt, -Int32.not_le, *]
  · refine b_aload_n (pc := 147) (i := 0) (dd dtX10_count 43 rfl) rfl rfl ?_
    refine b_geta (pc := 148) (dd dtX10_count 44 rfl) fwX10_47 pC_0 rC_0_6 ?_
    refine b_geti (pc := 151) (dd dtX10_count 45 rfl) fwX10_346 pC_49 ?_
    refine b_eq (b_iret (dd dtX10_count 46 rfl) rfl) ?_ ?_
    · (try clear hN); simp [inR, vCount, -Int32.not_lt, -Int32.not_le, *]
    · (try clear hN); simp [inR, vCount, -Int32.not_lt, -Int32.not_le, *]
  · refine b_aload_n (pc := 155) (i := 0) (dd dtX10_count 47 rfl) rfl rfl ?_
    refine b_geta (pc := 156) (dd dtX10_count 48 rfl) fwX10_21 pC_0 rC_0_1 ?_
    refine b_geti (pc := 159) (dd dtX10_count 49 rfl) fwX10_128 pC_6 ?_
    refine b_eq (b_iret (dd dtX10_count 50 rfl) rfl) ?_ ?_
    · (try clear hN); simp [inR, vCount, -Int32.not_lt, -Int32.not_le, *]
    · (try clear hN); simp [inR, vCount, -Int32.not_lt, -Int32.not_le, *]
  · refine b_bipush (pc := 163) (v := -2) (dd dtX10_count 51 rfl) (by decide) ?_
    refine b_eq (b_iret (dd dtX10_count 52 rfl) rfl) ?_ ?_
    · (try clear hN); simp [inR, vCount, -Int32.not_lt, -Int32.not_le, *]
    · (try clear hN); simp [inR, vCount, -Int32.not_lt, -Int32.not_le, *]
