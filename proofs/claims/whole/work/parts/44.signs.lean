/-! many signs at once -/
def sgRun (ok : Nat → Prop) [∀ k, Decidable (ok k)] (ans : Nat → Wd → Int32) (nxt : Nat → Wd → Wd) : Nat → Nat → Int32 → Wd → Int32 × Wd
  | 0, _, came, W => (came, W)
  | f + 1, h, came, W => if ok h then sgRun ok ans nxt f (h + 1) (if ans h W < 0 then came else came + 1) (nxt h W) else (-12, W)
theorem sgRun_s {ok : Nat → Prop} [∀ k, Decidable (ok k)] {ans : Nat → Wd → Int32} {nxt : Nat → Wd → Wd} {f h : Nat} {came : Int32} {W : Wd} (q : ok h) : sgRun ok ans nxt (f + 1) h came W = sgRun ok ans nxt f (h + 1) (if ans h W < 0 then came else came + 1) (nxt h W) := if_pos q
theorem sgRun_n {ok : Nat → Prop} [∀ k, Decidable (ok k)] {ans : Nat → Wd → Int32} {nxt : Nat → Wd → Wd} {f h : Nat} {came : Int32} {W : Wd} (q : ¬ ok h) : sgRun ok ans nxt (f + 1) h came W = (-12, W) := if_neg q
def sgWC (W : Wd) (k c v : Int32) : Wd := if okSign (W 42 0).toNatClampNeg k c v then (ist (ist (ist (ist (ist (ist W 43 (W 42 0).toNatClampNeg k) 44 (W 42 0).toNatClampNeg c) 45 (W 42 0).toNatClampNeg v) 46 (W 42 0).toNatClampNeg (W 6 1)) 48 (W 42 0).toNatClampNeg (-1)) 42 0 (nI ((W 42 0).toNatClampNeg + 1))) else W
def sgWM (W : Wd) (k c v : Int32) : Wd := if okSign (W 0 21).toNatClampNeg k c v then (ist (ist (ist (ist (ist (ist W 17 (W 0 21).toNatClampNeg k) 18 (W 0 21).toNatClampNeg c) 20 (W 0 21).toNatClampNeg v) 19 (W 0 21).toNatClampNeg (W 0 0)) 22 (W 0 21).toNatClampNeg (-1)) 0 21 (nI ((W 0 21).toNatClampNeg + 1))) else W
abbrev ok3C (z : Nat) (fr : Int32) (h : Nat) : Prop := inR (fr + 3 * nI h) 0 (nI z - 1) ∧ inR (fr + 3 * nI h + 2) 0 (nI z - 1)
abbrev ok3M (z : Nat) (fr : Int32) (h : Nat) : Prop := ¬ fr < 0 ∧ ¬ nI z - 3 * nI h - 3 < fr
def anC (nums : Nat → Int32) (fr : Int32) (h : Nat) (W : Wd) : Int32 := vSign (W 42 0).toNatClampNeg (nums (fr + 3 * nI h).toNatClampNeg) (nums (fr + 3 * nI h + 1).toNatClampNeg) (nums (fr + 3 * nI h + 2).toNatClampNeg)
def nxC (nums : Nat → Int32) (fr : Int32) (h : Nat) (W : Wd) : Wd := sgWC W (nums (fr + 3 * nI h).toNatClampNeg) (nums (fr + 3 * nI h + 1).toNatClampNeg) (nums (fr + 3 * nI h + 2).toNatClampNeg)
def anM (nums : Nat → Int32) (x : Int32) (h : Nat) (W : Wd) : Int32 := vSign (W 0 21).toNatClampNeg (nums (x + 3 * nI h).toNatClampNeg) (nums (x + 3 * nI h + 1).toNatClampNeg) (nums (x + 3 * nI h + 2).toNatClampNeg)
def nxM (nums : Nat → Int32) (x : Int32) (h : Nat) (W : Wd) : Wd := sgWM W (nums (x + 3 * nI h).toNatClampNeg) (nums (x + 3 * nI h + 1).toNatClampNeg) (nums (x + 3 * nI h + 2).toNatClampNeg)
theorem sgWC_fr {W : Wd} {k c v : Int32} {a : Nat} (h : a < 42 ∨ 48 < a) : sgWC W k c v a = W a := by
  unfold sgWC; split
  · simp (disch := omega) only [ist_ne]
  · rfl
theorem sgWC_K {W : Wd} {k c v : Int32} {K : Nat} (h : W 42 0 = nI K) (hK : K ≤ 30) : ∃ K2, sgWC W k c v 42 0 = nI K2 ∧ K2 ≤ 30 := by
  unfold sgWC
  rw [h, nI_clamp (by omega)]
  split
  · rename_i q
    exact ⟨K + 1, by rw [ist_eq, upd_eq], q.2.2⟩
  · exact ⟨K, h, hK⟩
theorem sgWM_fr {W : Wd} {k c v : Int32} {a : Nat} (h : 22 < a) : sgWM W k c v a = W a := by
  unfold sgWM; split
  · simp (disch := omega) only [ist_ne]
  · rfl
theorem sgWM_K {W : Wd} {k c v : Int32} {K : Nat} (h : W 0 21 = nI K) (hK : K ≤ 30) : ∃ K2, sgWM W k c v 0 21 = nI K2 ∧ K2 ≤ 30 := by
  unfold sgWM
  rw [h, nI_clamp (by omega)]
  split
  · rename_i q
    exact ⟨K + 1, by rw [ist_eq, upd_eq], q.2.2⟩
  · exact ⟨K, h, hK⟩
theorem c_sgC {W : Wd} {K : Nat} {k c v : Int32} (hN : W 42 0 = nI K) (hK : K ≤ 30) : Cal SyC mX10_sign 2 [.ref 0, .int k, .int c, .int v] W (some (.int (vSign (W 42 0).toNatClampNeg k c v))) (sgWC W k c v) := by
  have q := c_X10_sign (k := k) (c := c) (v := v) hN hK
  unfold sgWC
  rw [hN, nI_clamp (show K < 2 ^ 31 by omega)]
  exact q
theorem c_sgM {W : Wd} {K : Nat} {k c v : Int32} (hN : W 0 21 = nI K) (hK : K ≤ 30) : Cal SyM mX11_sign 2 [.ref 0, .int k, .int c, .int v] W (some (.int (vSign (W 0 21).toNatClampNeg k c v))) (sgWM W k c v) := by
  have q := c_X11_sign (k := k) (c := c) (v := v) hN hK
  unfold sgWM
  rw [hN, nI_clamp (show K < 2 ^ 31 by omega)]
  exact q
theorem sg_at {x : Int32} {z : Nat} (h : inR x 0 (nI z - 1)) (h2 : inR (x + 2) 0 (nI z - 1)) (hz : z ≤ 40) : ∃ j, x = nI j ∧ j + 2 < z ∧ x.toNatClampNeg = j ∧ (x + 1).toNatClampNeg = j + 1 ∧ (x + 2).toNatClampNeg = j + 2 ∧ vp_in x 40 ∧ vp_in (x + 1) 40 ∧ vp_in (x + 2) 40 := by
  obtain ⟨j, e, hj, hc⟩ := inR_n h (by omega)
  obtain ⟨i, e2, hi, hc2⟩ := inR_n h2 (by omega)
  have a1 : x + 1 = nI (j + 1) := by rw [e, nI_1]
  have a2 : x + 2 = nI (j + 2) := by rw [e]; exact nI_add j 2
  have c2 : (x + 2).toNatClampNeg = j + 2 := by rw [a2]; exact nI_clamp (by omega)
  have hij : i = j + 2 := by rw [← hc2, c2]
  refine ⟨j, e, by omega, hc, by rw [a1]; exact nI_clamp (by omega), c2, vpn e (by omega) (by decide), vpn a1 (by omega) (by decide), vpn a2 (by omega) (by decide)⟩
theorem sg_atM {s fr : Int32} {z h : Nat} (hs : inR s 0 3) (h1 : ¬ fr < 0) (h2 : ¬ nI z - 3 * nI h - 3 < fr) (hz : z ≤ 40) (hh : h < 13) : ∃ j, fr + 3 * nI h = nI j ∧ j + 2 < z ∧ (40 * s + fr + 3 * nI h).toNatClampNeg = 40 * s.toNatClampNeg + j ∧ (40 * s + fr + 3 * nI h + 1).toNatClampNeg = 40 * s.toNatClampNeg + (j + 1) ∧ (40 * s + fr + 3 * nI h + 2).toNatClampNeg = 40 * s.toNatClampNeg + (j + 2) ∧ vp_in (40 * s + fr + 3 * nI h) 160 ∧ vp_in (40 * s + fr + 3 * nI h + 1) 160 ∧ vp_in (40 * s + fr + 3 * nI h + 2) 160 := by
  obtain ⟨f, hf, e⟩ := nI_of h1
  have e3 : (3 : Int32) * nI h = nI (3 * h) := by rw [show (3 : Int32) = nI 3 from rfl, pk_mul]
  rw [e3] at h2 ⊢
  have hlt : f + 3 * h + 3 ≤ z := by
    rw [Int32.lt_iff_toInt_lt, e, nI_toInt hf, show (3 : Int32) = nI 3 from rfl, Int32.toInt_sub, Int32.toInt_sub, nI_toInt (show z < 2 ^ 31 by omega), nI_toInt (show 3 * h < 2 ^ 31 by omega), nI_toInt (show 3 < 2 ^ 31 by omega)] at h2
    have b1 : ((z : Int) - (3 * h : Nat)).bmod (2 ^ 32) = (z : Int) - (3 * h : Nat) := by apply Int.bmod_eq_of_le <;> omega
    rw [b1] at h2
    have b2 : ((z : Int) - (3 * h : Nat) - (3 : Nat)).bmod (2 ^ 32) = (z : Int) - (3 * h : Nat) - (3 : Nat) := by apply Int.bmod_eq_of_le <;> omega
    rw [b2] at h2
    omega
  have hx := (sx hs).2
  have e4 : 40 * s + fr + nI (3 * h) = nI (40 * s.toNatClampNeg + (f + 3 * h)) := by rw [e, ix40 hs, nI_add, Nat.add_assoc]
  refine ⟨f + 3 * h, by rw [e, nI_add], by omega, ?_, ?_, ?_, ?_, ?_, ?_⟩
  · rw [e4]; exact nI_clamp (by omega)
  · rw [e4, nI_1]; exact nI_clamp (by omega)
  · rw [e4, show (2 : Int32) = nI 2 from rfl, nI_add]; exact nI_clamp (by omega)
  · rw [e4]; exact vpn rfl (by omega) (by decide)
  · rw [e4, nI_1]; exact vpn rfl (by omega) (by decide)
  · rw [e4, show (2 : Int32) = nI 2 from rfl, nI_add]; exact vpn rfl (by omega) (by decide)
def sgC (I : Wd) (k z : Nat) (fr : Int32) (m : Nat) : Int32 × Wd := sgRun (ok3C z fr) (anC (I (k + 1)) fr) (nxC (I (k + 1)) fr) m 0 0 I
def sgM (J : Wd) (s : Int32) (z : Nat) (fr : Int32) (m : Nat) : Int32 × Wd := sgRun (ok3M z fr) (anM (J 46) (40 * s + fr)) (nxM (J 46) (40 * s + fr)) m 0 0 J
def tX10_signs : List (Nat × Instr × Nat) := [(0, .iload_n 1, 1), (1, .invokestatic 208, 3), (4, .ifCond .eq 23, 3), (7, .iload_n 2, 1), (8, .iconst 0, 1), (9, .iconst 2, 1), (10, .invokestatic 97, 3), (13, .ifCond .eq 14, 3), (16, .iload 4, 2), (18, .iconst 0, 1), (19, .bipush 13, 2), (21, .invokestatic 97, 3), (24, .ifCond .ne 6, 3), (27, .bipush (-2), 2), (29, .ireturn, 1), (30, .aload_n 0, 1), (31, .getfield 70, 3), (34, .iload_n 1, 1), (35, .aaload, 1), (36, .astore 5, 2), (38, .aload 5, 2), (40, .invokevirtual 211, 3), (43, .ifCond .eq 6, 3), (46, .bipush (-11), 2), (48, .ireturn, 1), (49, .aload 5, 2), (51, .getfield 347, 3), (54, .iload_n 2, 1), (55, .if_icmp .eq 6, 3), (58, .bipush (-13), 2), (60, .ireturn, 1), (61, .iconst 0, 1), (62, .istore 6, 2), (64, .iconst 0, 1), (65, .istore 7, 2), (67, .iload 7, 2), (69, .iload 4, 2), (71, .if_icmp .ge 80, 3), (74, .iload_n 3, 1), (75, .iconst 3, 1), (76, .iload 7, 2), (78, .imul, 1), (79, .iadd, 1), (80, .istore 8, 2), (82, .aload 5, 2), (84, .iload 8, 2), (86, .invokevirtual 354, 3), (89, .ifCond .eq 15, 3), (92, .aload 5, 2), (94, .iload 8, 2), (96, .iconst 2, 1), (97, .iadd, 1), (98, .invokevirtual 354, 3), (101, .ifCond .ne 6, 3), (104, .bipush (-12), 2), (106, .ireturn, 1), (107, .aload_n 0, 1), (108, .aload 5, 2), (110, .getfield 284, 3), (113, .iload 8, 2), (115, .iaload, 1), (116, .aload 5, 2), (118, .getfield 284, 3), (121, .iload 8, 2), (123, .iconst 1, 1), (124, .iadd, 1), (125, .iaload, 1), (126, .aload 5, 2), (128, .getfield 284, 3), (131, .iload 8, 2), (133, .iconst 2, 1), (134, .iadd, 1), (135, .iaload, 1), (136, .invokevirtual 365, 3), (139, .ifCond .lt 6, 3), (142, .iinc 6 1, 3), (145, .iinc 7 1, 3), (148, .goto (-81), 3), (151, .iload 6, 2), (153, .ireturn, 1)]
theorem dtX10_signs : dec_ok mX10_signs.2.1 tX10_signs = true := by decide +kernel
set_option maxHeartbeats 4000000 in
theorem l_X10_signs {I : Wd} {k z m : Nat} {s so fr : Int32} (hk : isS k) (hm : m ≤ 13) (hz2 : z ≤ 40) : ∀ (f h : Nat) (x7 x6 : Int32) (W : Wd) (K : Nat), h + f = m → x7 = nI h → W 42 0 = nI K → K ≤ 30 → W k 1 = nI z → ¬ W k 0 = -1 → W (k + 1) = I (k + 1) → Bd SyC mX10_signs 3 67 [(7, .int x7), (6, .int x6), (5, .ref k), (0, .ref 0), (1, .int s), (2, .int so), (3, .int fr), (4, .int (nI m))] [] W (some (.int (sgRun (ok3C z fr) (anC (I (k + 1)) fr) (nxC (I (k + 1)) fr) f h x6 W).1)) (sgRun (ok3C z fr) (anC (I (k + 1)) fr) (nxC (I (k + 1)) fr) f h x6 W).2 := by
  intro f
  induction f with
  | zero =>
    intro h x7 x6 W K hf e7 hK hK2 hz hn hI
    subst e7
    refine b_iload (pc := 67) (i := 7) (dd dtX10_signs 35 rfl) rfl ?_
    refine b_iload (pc := 69) (i := 4) (dd dtX10_signs 36 rfl) rfl ?_
    refine b_icmpL_ge (pc := 71) (tgt := 151) (dd dtX10_signs 37 rfl) (by decide) (fun h71 => ?_) (fun h71 => ?_)
    · refine b_iload (pc := 151) (i := 6) (dd dtX10_signs 78 rfl) rfl ?_
      refine b_eq (b_iret (dd dtX10_signs 79 rfl) rfl) ?_ ?_
      · rfl
      · rfl
    · exact absurd (show nI h < nI m from h71) (by rw [show h = m by omega]; exact fun q => Int32.lt_irrefl q)
  | succ f ih =>
    intro h x7 x6 W K hf e7 hK hK2 hz hn hI
    subst e7
    have k2 : 48 < k := by unfold isS at hk; omega
    refine b_iload (pc := 67) (i := 7) (dd dtX10_signs 35 rfl) rfl ?_
    refine b_iload (pc := 69) (i := 4) (dd dtX10_signs 36 rfl) rfl ?_
    refine b_icmpL_ge (pc := 71) (tgt := 151) (dd dtX10_signs 37 rfl) (by decide) (fun h71 => ?_) (fun h71 => ?_)
    · exact absurd (nI_lt (show h < m by omega) (by omega)) h71
    · refine b_iload_n (pc := 74) (i := 3) (dd dtX10_signs 38 rfl) rfl rfl ?_
      refine b_ic3 (pc := 75) (dd dtX10_signs 39 rfl) ?_
      refine b_iload (pc := 76) (i := 7) (dd dtX10_signs 40 rfl) rfl ?_
      refine b_imul (pc := 78) (dd dtX10_signs 41 rfl) ?_
      refine b_iadd (pc := 79) (dd dtX10_signs 42 rfl) ?_
      refine b_istore (pc := 80) (i := 8) (lv' := [(8, _), (7, _), (6, _), (5, _), (0, _), (1, _), (2, _), (3, _), (4, _)]) (dd dtX10_signs 43 rfl) (Nat.le_of_ble_eq_true rfl) rfl ?_
      refine b_aload (pc := 82) (i := 5) (dd dtX10_signs 44 rfl) rfl ?_
      refine b_iload (pc := 84) (i := 8) (dd dtX10_signs 45 rfl) rfl ?_
      refine b_invV (pc := 86) (dd dtX10_signs 46 rfl) mlX10_354 mvX5_has miX5_has (c_X5_has hk hz) (oS hk) rfl rfl (by decide) (Nat.le_of_ble_eq_true rfl) ?_
      refine b_ifb_eq (pc := 89) (tgt := 104) (dd dtX10_signs 47 rfl) (by decide) (fun h89 => ?_) (fun h89 => ?_)
      · have hno : ¬ ok3C z fr h := by intro q; first | exact h89 ⟨hn, q.1⟩ | exact h101 ⟨hn, q.2⟩
        rw [sgRun_n hno]
        refine b_bipush (pc := 104) (v := -12) (dd dtX10_signs 54 rfl) (by decide) ?_
        refine b_eq (b_iret (dd dtX10_signs 55 rfl) rfl) ?_ ?_
        · rfl
        · rfl
      · refine b_aload (pc := 92) (i := 5) (dd dtX10_signs 48 rfl) rfl ?_
        refine b_iload (pc := 94) (i := 8) (dd dtX10_signs 49 rfl) rfl ?_
        refine b_ic2 (pc := 96) (dd dtX10_signs 50 rfl) ?_
        refine b_iadd (pc := 97) (dd dtX10_signs 51 rfl) ?_
        refine b_invV (pc := 98) (dd dtX10_signs 52 rfl) mlX10_354 mvX5_has miX5_has (c_X5_has hk hz) (oS hk) rfl rfl (by decide) (Nat.le_of_ble_eq_true rfl) ?_
        refine b_ifb_ne (pc := 101) (tgt := 107) (dd dtX10_signs 53 rfl) (by decide) (fun h101 => ?_) (fun h101 => ?_)
        · obtain ⟨j, ej, hj, c0, c1, c2, v0, v1, v2⟩ := sg_at h89.2 h101.2 hz2
          refine b_aload_n (pc := 107) (i := 0) (dd dtX10_signs 56 rfl) rfl rfl ?_
          refine b_aload (pc := 108) (i := 5) (dd dtX10_signs 57 rfl) rfl ?_
          refine b_geta (pc := 110) (dd dtX10_signs 58 rfl) fwX10_284 (pS_0 hk) (rS_2 hk) ?_
          refine b_iload (pc := 113) (i := 8) (dd dtX10_signs 59 rfl) rfl ?_
          refine b_iald (pc := 115) (dd dtX10_signs 60 rfl) (pS_1 hk) (v0) ?_
          refine b_aload (pc := 116) (i := 5) (dd dtX10_signs 61 rfl) rfl ?_
          refine b_geta (pc := 118) (dd dtX10_signs 62 rfl) fwX10_284 (pS_0 hk) (rS_2 hk) ?_
          refine b_iload (pc := 121) (i := 8) (dd dtX10_signs 63 rfl) rfl ?_
          refine b_ic1 (pc := 123) (dd dtX10_signs 64 rfl) ?_
          refine b_iadd (pc := 124) (dd dtX10_signs 65 rfl) ?_
          refine b_iald (pc := 125) (dd dtX10_signs 66 rfl) (pS_1 hk) (v1) ?_
          refine b_aload (pc := 126) (i := 5) (dd dtX10_signs 67 rfl) rfl ?_
          refine b_geta (pc := 128) (dd dtX10_signs 68 rfl) fwX10_284 (pS_0 hk) (rS_2 hk) ?_
          refine b_iload (pc := 131) (i := 8) (dd dtX10_signs 69 rfl) rfl ?_
          refine b_ic2 (pc := 133) (dd dtX10_signs 70 rfl) ?_
          refine b_iadd (pc := 134) (dd dtX10_signs 71 rfl) ?_
          refine b_iald (pc := 135) (dd dtX10_signs 72 rfl) (pS_1 hk) (v2) ?_
          refine b_invV (pc := 136) (dd dtX10_signs 73 rfl) mlX10_365 mvX10_sign miX10_sign (c_sgC hK hK2) oC_0 rfl rfl (by decide) (Nat.le_of_ble_eq_true rfl) ?_
          refine b_if_lt (pc := 139) (tgt := 145) (dd dtX10_signs 74 rfl) (by decide) (fun h139 => ?_) (fun h139 => ?_)
          · refine b_iinc1 (pc := 145) (i := 7) (lv' := [(7, _), (8, _), (6, _), (5, _), (0, _), (1, _), (2, _), (3, _), (4, _)]) (dd dtX10_signs 76 rfl) rfl (Nat.le_of_ble_eq_true rfl) rfl ?_
            refine b_goto (pc := 148) (tgt := 67) (dd dtX10_signs 77 rfl) (by decide) ?_
            refine b_pick [0, 2, 3, 4, 5, 6, 7, 8] (lv' := [(7, _), (6, _), (5, _), (0, _), (1, _), (2, _), (3, _), (4, _)]) rfl ?_
            rw [nI_1, sgRun_s (show ok3C z fr h from ⟨h89.2, h101.2⟩)]
            obtain ⟨K2, q1, q2⟩ := sgWC_K (k := W (k + 1) (fr + 3 * nI h).toNatClampNeg) (c := W (k + 1) (fr + 3 * nI h + 1).toNatClampNeg) (v := W (k + 1) (fr + 3 * nI h + 2).toNatClampNeg) hK hK2
            have hI0 := hI
            simp only [hI] at h139 q1 ⊢
            show Bd _ _ _ _ _ _ (nxC (I (k + 1)) fr h W) _ _
            first
              | rw [if_pos (show anC (I (k + 1)) fr h W < 0 from h139)]
              | rw [if_neg (show ¬ anC (I (k + 1)) fr h W < 0 from h139)]
            refine ih (h + 1) _ _ _ K2 (by omega) rfl q1 q2 ?_ ?_ ?_
            · exact (congrFun (sgWC_fr (Or.inr k2)) 1).trans hz
            · exact fun q => hn ((congrFun (sgWC_fr (Or.inr k2)) 0).symm.trans q)
            · exact (sgWC_fr (Or.inr (by omega))).trans hI0
          · refine b_iinc1 (pc := 142) (i := 6) (lv' := [(6, _), (8, _), (7, _), (5, _), (0, _), (1, _), (2, _), (3, _), (4, _)]) (dd dtX10_signs 75 rfl) rfl (Nat.le_of_ble_eq_true rfl) rfl ?_
            refine b_iinc1 (pc := 145) (i := 7) (lv' := [(7, _), (6, _), (8, _), (5, _), (0, _), (1, _), (2, _), (3, _), (4, _)]) (dd dtX10_signs 76 rfl) rfl (Nat.le_of_ble_eq_true rfl) rfl ?_
            refine b_goto (pc := 148) (tgt := 67) (dd dtX10_signs 77 rfl) (by decide) ?_
            refine b_pick [0, 1, 3, 4, 5, 6, 7, 8] (lv' := [(7, _), (6, _), (5, _), (0, _), (1, _), (2, _), (3, _), (4, _)]) rfl ?_
            rw [nI_1, sgRun_s (show ok3C z fr h from ⟨h89.2, h101.2⟩)]
            obtain ⟨K2, q1, q2⟩ := sgWC_K (k := W (k + 1) (fr + 3 * nI h).toNatClampNeg) (c := W (k + 1) (fr + 3 * nI h + 1).toNatClampNeg) (v := W (k + 1) (fr + 3 * nI h + 2).toNatClampNeg) hK hK2
            have hI0 := hI
            simp only [hI] at h139 q1 ⊢
            show Bd _ _ _ _ _ _ (nxC (I (k + 1)) fr h W) _ _
            first
              | rw [if_pos (show anC (I (k + 1)) fr h W < 0 from h139)]
              | rw [if_neg (show ¬ anC (I (k + 1)) fr h W < 0 from h139)]
            refine ih (h + 1) _ _ _ K2 (by omega) rfl q1 q2 ?_ ?_ ?_
            · exact (congrFun (sgWC_fr (Or.inr k2)) 1).trans hz
            · exact fun q => hn ((congrFun (sgWC_fr (Or.inr k2)) 0).symm.trans q)
            · exact (sgWC_fr (Or.inr (by omega))).trans hI0
        · have hno : ¬ ok3C z fr h := by intro q; first | exact h89 ⟨hn, q.1⟩ | exact h101 ⟨hn, q.2⟩
          rw [sgRun_n hno]
          refine b_bipush (pc := 104) (v := -12) (dd dtX10_signs 54 rfl) (by decide) ?_
          refine b_eq (b_iret (dd dtX10_signs 55 rfl) rfl) ?_ ?_
          · rfl
          · rfl
def vSigns (ms : Prop) [Decidable ms] (so1 s so n v : Int32) : Int32 := if inR s 0 3 ∧ inR so 0 2 ∧ inR n 0 13 then (if ms then -11 else if so1 = so then v else -13) else -2
abbrev okSigns (ms : Prop) (so1 s so n : Int32) : Prop := (inR s 0 3 ∧ inR so 0 2 ∧ inR n 0 13) ∧ ¬ ms ∧ so1 = so
theorem n13 {n : Int32} (h : inR n 0 13) : n = nI n.toNatClampNeg ∧ n.toNatClampNeg ≤ 13 := by
  obtain ⟨j, e, h1, h2⟩ := nI_rng h
  have hc : n.toNatClampNeg = j := by rw [e]; exact nI_clamp h2
  rw [hc]; exact ⟨e, by have : (13 : Int32).toInt = 13 := rfl; omega⟩
set_option maxHeartbeats 4000000 in
theorem c_X10_signs {I : Wd} {K z : Nat} {s so fr n : Int32} (hK : I 42 0 = nI K) (hK2 : K ≤ 30) (hz0 : inR s 0 3 → I (kS s) 1 = nI z ∧ z ≤ 40) : Cal SyC mX10_signs 3 [.ref 0, .int s, .int so, .int fr, .int n] I (some (.int (vSigns (I (kS s) 0 = -1) (I (kS s) 0) s so n (sgC I (kS s) z fr n.toNatClampNeg).1))) (if okSigns (I (kS s) 0 = -1) (I (kS s) 0) s so n then (sgC I (kS s) z fr n.toNatClampNeg).2 else I) := by
  refine Cal.of (by decide) (Nat.le_of_ble_eq_true rfl) ?_
  show Bd _ _ _ _ [(0, _), (1, _), (2, _), (3, _), (4, _)] _ _ _ _
  refine b_iload_n (pc := 0) (i := 1) (dd dtX10_signs 0 rfl) rfl rfl ?_
  refine b_invS (pc := 1) (dd dtX10_signs 1 rfl) mlX10_208 mvX10_isSheet msX10_isSheet (c_X10_isSheet) rfl rfl (by decide) (Nat.le_of_ble_eq_true rfl) ?_
  refine b_ifb_eq (pc := 4) (tgt := 27) (dd dtX10_signs 2 rfl) (by decide) (fun h4 => ?_) (fun h4 => ?_)
  · refine b_bipush (pc := 27) (v := -2) (dd dtX10_signs 13 rfl) (by decide) ?_
    refine b_eq (b_iret (dd dtX10_signs 14 rfl) rfl) ?_ ?_
    · (try clear hz); (try clear hz0); simp [vSigns, inR, -Int32.not_lt, -Int32.not_le, *]
    · (try clear hz); (try clear hz0); simp [okSigns, inR, -Int32.not_lt, -Int32.not_le, *]
  · refine b_iload_n (pc := 7) (i := 2) (dd dtX10_signs 3 rfl) rfl rfl ?_
    refine b_ic0 (pc := 8) (dd dtX10_signs 4 rfl) ?_
    refine b_ic2 (pc := 9) (dd dtX10_signs 5 rfl) ?_
    refine b_invS (pc := 10) (dd dtX10_signs 6 rfl) mlX10_97 mvX10_within msX10_within (c_X10_within) rfl rfl (by decide) (Nat.le_of_ble_eq_true rfl) ?_
    refine b_ifb_eq (pc := 13) (tgt := 27) (dd dtX10_signs 7 rfl) (by decide) (fun h13 => ?_) (fun h13 => ?_)
    · refine b_bipush (pc := 27) (v := -2) (dd dtX10_signs 13 rfl) (by decide) ?_
      refine b_eq (b_iret (dd dtX10_signs 14 rfl) rfl) ?_ ?_
      · (try clear hz); (try clear hz0); simp [vSigns, inR, -Int32.not_lt, -Int32.not_le, *]
      · (try clear hz); (try clear hz0); simp [okSigns, inR, -Int32.not_lt, -Int32.not_le, *]
    · refine b_iload (pc := 16) (i := 4) (dd dtX10_signs 8 rfl) rfl ?_
      refine b_ic0 (pc := 18) (dd dtX10_signs 9 rfl) ?_
      refine b_bipush (pc := 19) (v := 13) (dd dtX10_signs 10 rfl) (by decide) ?_
      refine b_invS (pc := 21) (dd dtX10_signs 11 rfl) mlX10_97 mvX10_within msX10_within (c_X10_within) rfl rfl (by decide) (Nat.le_of_ble_eq_true rfl) ?_
      refine b_ifb_ne (pc := 24) (tgt := 30) (dd dtX10_signs 12 rfl) (by decide) (fun h24 => ?_) (fun h24 => ?_)
      · obtain ⟨hz, hz2⟩ := hz0 h4
        clear hz0
        refine b_aload_n (pc := 30) (i := 0) (dd dtX10_signs 15 rfl) rfl rfl ?_
        refine b_geta (pc := 31) (dd dtX10_signs 16 rfl) fwX10_70 pC_0 rC_0_10 ?_
        refine b_iload_n (pc := 34) (i := 1) (dd dtX10_signs 17 rfl) rfl rfl ?_
        refine b_aald (pc := 35) (q := kS s) (dd dtX10_signs 18 rfl) pC_98 (by decide) ((sheet_k h4).2.1) ((sheet_k h4).2.2) ?_
        refine b_astore (pc := 36) (i := 5) (lv' := [(5, _), (0, _), (1, _), (2, _), (3, _), (4, _)]) (dd dtX10_signs 19 rfl) (Nat.le_of_ble_eq_true rfl) rfl ?_
        refine b_aload (pc := 38) (i := 5) (dd dtX10_signs 20 rfl) rfl ?_
        refine b_invV (pc := 40) (dd dtX10_signs 21 rfl) mlX10_211 mvX5_isMissing miX5_isMissing (c_X5_isMissing (sheet_k h4).1) (oS (sheet_k h4).1) rfl rfl (by decide) (Nat.le_of_ble_eq_true rfl) ?_
        refine b_ifb_eq (pc := 43) (tgt := 49) (dd dtX10_signs 22 rfl) (by decide) (fun h43 => ?_) (fun h43 => ?_)
        · refine b_aload (pc := 49) (i := 5) (dd dtX10_signs 25 rfl) rfl ?_
          refine b_geti (pc := 51) (dd dtX10_signs 26 rfl) fwX10_347 (pS_0 (sheet_k h4).1) ?_
          refine b_iload_n (pc := 54) (i := 2) (dd dtX10_signs 27 rfl) rfl rfl ?_
          refine b_icmp_eq (pc := 55) (tgt := 61) (dd dtX10_signs 28 rfl) (by decide) (fun h55 => ?_) (fun h55 => ?_)
          · refine b_ic0 (pc := 61) (dd dtX10_signs 31 rfl) ?_
            refine b_istore (pc := 62) (i := 6) (lv' := [(6, _), (5, _), (0, _), (1, _), (2, _), (3, _), (4, _)]) (dd dtX10_signs 32 rfl) (Nat.le_of_ble_eq_true rfl) rfl ?_
            refine b_ic0 (pc := 64) (dd dtX10_signs 33 rfl) ?_
            refine b_istore (pc := 65) (i := 7) (lv' := [(7, _), (6, _), (5, _), (0, _), (1, _), (2, _), (3, _), (4, _)]) (dd dtX10_signs 34 rfl) (Nat.le_of_ble_eq_true rfl) rfl ?_
            unfold vSigns
            rw [if_pos ⟨h4, h13, h24⟩, if_neg h43, if_pos h55, if_pos (show okSigns (I (kS s) 0 = -1) (I (kS s) 0) s so n from ⟨⟨h4, h13, h24⟩, h43, h55⟩)]
            obtain ⟨en, hn⟩ := n13 h24
            have kk := l_X10_signs (I := I) (s := s) (so := so) (fr := fr) (sheet_k h4).1 hn hz2 n.toNatClampNeg 0 _ 0 I K (by omega) rfl hK hK2 hz h43 rfl
            rw [← en] at kk
            exact kk
          · refine b_bipush (pc := 58) (v := -13) (dd dtX10_signs 29 rfl) (by decide) ?_
            refine b_eq (b_iret (dd dtX10_signs 30 rfl) rfl) ?_ ?_
            · (try clear hz); (try clear hz0); simp [vSigns, inR, -Int32.not_lt, -Int32.not_le, *]
            · (try clear hz); (try clear hz0); simp [okSigns, inR, -Int32.not_lt, -Int32.not_le, *]
        · refine b_bipush (pc := 46) (v := -11) (dd dtX10_signs 23 rfl) (by decide) ?_
          refine b_eq (b_iret (dd dtX10_signs 24 rfl) rfl) ?_ ?_
          · (try clear hz); (try clear hz0); simp [vSigns, inR, -Int32.not_lt, -Int32.not_le, *]
          · (try clear hz); (try clear hz0); simp [okSigns, inR, -Int32.not_lt, -Int32.not_le, *]
      · refine b_bipush (pc := 27) (v := -2) (dd dtX10_signs 13 rfl) (by decide) ?_
        refine b_eq (b_iret (dd dtX10_signs 14 rfl) rfl) ?_ ?_
        · (try clear hz); (try clear hz0); simp [vSigns, inR, -Int32.not_lt, -Int32.not_le, *]
        · (try clear hz); (try clear hz0); simp [okSigns, inR, -Int32.not_lt, -Int32.not_le, *]
def tX11_signs : List (Nat × Instr × Nat) := [(0, .aload_n 0, 1), (1, .iload_n 1, 1), (2, .invokevirtual 297, 3), (5, .ifCond .eq 25, 3), (8, .aload_n 0, 1), (9, .iload_n 2, 1), (10, .iconst 0, 1), (11, .iconst 2, 1), (12, .invokevirtual 1, 3), (15, .ifCond .eq 15, 3), (18, .aload_n 0, 1), (19, .iload 4, 2), (21, .iconst 0, 1), (22, .bipush 13, 2), (24, .invokevirtual 1, 3), (27, .ifCond .ne 6, 3), (30, .bipush (-2), 2), (32, .ireturn, 1), (33, .aload_n 0, 1), (34, .getfield 236, 3), (37, .iload_n 1, 1), (38, .iaload, 1), (39, .ifCond .ge 6, 3), (42, .bipush (-11), 2), (44, .ireturn, 1), (45, .aload_n 0, 1), (46, .getfield 236, 3), (49, .iload_n 1, 1), (50, .iaload, 1), (51, .iload_n 2, 1), (52, .if_icmp .eq 6, 3), (55, .bipush (-13), 2), (57, .ireturn, 1), (58, .iconst 0, 1), (59, .istore 5, 2), (61, .iconst 0, 1), (62, .istore 6, 2), (64, .iload 6, 2), (66, .iload 4, 2), (68, .if_icmp .ge 88, 3), (71, .iload_n 3, 1), (72, .ifCond .lt 20, 3), (75, .iload_n 3, 1), (76, .aload_n 0, 1), (77, .getfield 239, 3), (80, .iload_n 1, 1), (81, .iaload, 1), (82, .iconst 3, 1), (83, .iload 6, 2), (85, .imul, 1), (86, .isub, 1), (87, .iconst 3, 1), (88, .isub, 1), (89, .if_icmp .le 6, 3), (92, .bipush (-12), 2), (94, .ireturn, 1), (95, .bipush 40, 2), (97, .iload_n 1, 1), (98, .imul, 1), (99, .iload_n 3, 1), (100, .iadd, 1), (101, .iconst 3, 1), (102, .iload 6, 2), (104, .imul, 1), (105, .iadd, 1), (106, .istore 7, 2), (108, .iload 5, 2), (110, .aload_n 0, 1), (111, .aload_n 0, 1), (112, .getfield 242, 3), (115, .iload 7, 2), (117, .iaload, 1), (118, .aload_n 0, 1), (119, .getfield 242, 3), (122, .iload 7, 2), (124, .iconst 1, 1), (125, .iadd, 1), (126, .iaload, 1), (127, .aload_n 0, 1), (128, .getfield 242, 3), (131, .iload 7, 2), (133, .iconst 2, 1), (134, .iadd, 1), (135, .iaload, 1), (136, .invokevirtual 420, 3), (139, .ifCond .lt 7, 3), (142, .iconst 1, 1), (143, .goto 4, 3), (146, .iconst 0, 1), (147, .iadd, 1), (148, .istore 5, 2), (150, .iinc 6 1, 3), (153, .goto (-89), 3), (156, .iload 5, 2), (158, .ireturn, 1)]
theorem dtX11_signs : dec_ok mX11_signs.2.1 tX11_signs = true := by decide +kernel
set_option maxHeartbeats 4000000 in
theorem l_X11_signs {J : Wd} {z m : Nat} {s so fr : Int32} (hs : inR s 0 3) (hm : m ≤ 13) (hz2 : z ≤ 40) : ∀ (f h : Nat) (x6 x5 : Int32) (W : Wd) (K : Nat), h + f = m → x6 = nI h → W 0 21 = nI K → K ≤ 30 → W 45 s.toNatClampNeg = nI z → W 46 = J 46 → Bd SyM mX11_signs 3 64 [(6, .int x6), (5, .int x5), (0, .ref 0), (1, .int s), (2, .int so), (3, .int fr), (4, .int (nI m))] [] W (some (.int (sgRun (ok3M z fr) (anM (J 46) (40 * s + fr)) (nxM (J 46) (40 * s + fr)) f h x5 W).1)) (sgRun (ok3M z fr) (anM (J 46) (40 * s + fr)) (nxM (J 46) (40 * s + fr)) f h x5 W).2 := by
  intro f
  induction f with
  | zero =>
    intro h x6 x5 W K hf e6 hK hK2 hz hI
    subst e6
    refine b_iload (pc := 64) (i := 6) (dd dtX11_signs 37 rfl) rfl ?_
    refine b_iload (pc := 66) (i := 4) (dd dtX11_signs 38 rfl) rfl ?_
    refine b_icmpL_ge (pc := 68) (tgt := 156) (dd dtX11_signs 39 rfl) (by decide) (fun h68 => ?_) (fun h68 => ?_)
    · refine b_iload (pc := 156) (i := 5) (dd dtX11_signs 93 rfl) rfl ?_
      refine b_eq (b_iret (dd dtX11_signs 94 rfl) rfl) ?_ ?_
      · rfl
      · rfl
    · exact absurd (show nI h < nI m from h68) (by rw [show h = m by omega]; exact fun q => Int32.lt_irrefl q)
  | succ f ih =>
    intro h x6 x5 W K hf e6 hK hK2 hz hI
    subst e6
    refine b_iload (pc := 64) (i := 6) (dd dtX11_signs 37 rfl) rfl ?_
    refine b_iload (pc := 66) (i := 4) (dd dtX11_signs 38 rfl) rfl ?_
    refine b_icmpL_ge (pc := 68) (tgt := 156) (dd dtX11_signs 39 rfl) (by decide) (fun h68 => ?_) (fun h68 => ?_)
    · exact absurd (nI_lt (show h < m by omega) (by omega)) h68
    · refine b_iload_n (pc := 71) (i := 3) (dd dtX11_signs 40 rfl) rfl rfl ?_
      refine b_if_lt (pc := 72) (tgt := 92) (dd dtX11_signs 41 rfl) (by decide) (fun h72 => ?_) (fun h72 => ?_)
      · try rw [hz] at h89
        have hno : ¬ ok3M z fr h := by intro q; obtain ⟨q1, q2⟩ := q; contradiction
        rw [sgRun_n hno]
        refine b_bipush (pc := 92) (v := -12) (dd dtX11_signs 54 rfl) (by decide) ?_
        refine b_eq (b_iret (dd dtX11_signs 55 rfl) rfl) ?_ ?_
        · rfl
        · rfl
      · refine b_iload_n (pc := 75) (i := 3) (dd dtX11_signs 42 rfl) rfl rfl ?_
        refine b_aload_n (pc := 76) (i := 0) (dd dtX11_signs 43 rfl) rfl rfl ?_
        refine b_geta (pc := 77) (dd dtX11_signs 44 rfl) fwX11_239 pM_0 rM_0_74 ?_
        refine b_iload_n (pc := 80) (i := 1) (dd dtX11_signs 45 rfl) rfl rfl ?_
        refine b_iald (pc := 81) (dd dtX11_signs 46 rfl) pM_45 (vs4 hs) ?_
        rw [hz]
        refine b_ic3 (pc := 82) (dd dtX11_signs 47 rfl) ?_
        refine b_iload (pc := 83) (i := 6) (dd dtX11_signs 48 rfl) rfl ?_
        refine b_imul (pc := 85) (dd dtX11_signs 49 rfl) ?_
        refine b_isub (pc := 86) (dd dtX11_signs 50 rfl) ?_
        refine b_ic3 (pc := 87) (dd dtX11_signs 51 rfl) ?_
        refine b_isub (pc := 88) (dd dtX11_signs 52 rfl) ?_
        refine b_icmpL_le (pc := 89) (tgt := 95) (dd dtX11_signs 53 rfl) (by decide) (fun h89 => ?_) (fun h89 => ?_)
        · obtain ⟨j, ej, hj, c0, c1, c2, v0, v1, v2⟩ := sg_atM hs h72 h89 hz2 (show h < 13 by omega)
          refine b_bipush (pc := 95) (v := 40) (dd dtX11_signs 56 rfl) (by decide) ?_
          refine b_iload_n (pc := 97) (i := 1) (dd dtX11_signs 57 rfl) rfl rfl ?_
          refine b_imul (pc := 98) (dd dtX11_signs 58 rfl) ?_
          refine b_iload_n (pc := 99) (i := 3) (dd dtX11_signs 59 rfl) rfl rfl ?_
          refine b_iadd (pc := 100) (dd dtX11_signs 60 rfl) ?_
          refine b_ic3 (pc := 101) (dd dtX11_signs 61 rfl) ?_
          refine b_iload (pc := 102) (i := 6) (dd dtX11_signs 62 rfl) rfl ?_
          refine b_imul (pc := 104) (dd dtX11_signs 63 rfl) ?_
          refine b_iadd (pc := 105) (dd dtX11_signs 64 rfl) ?_
          refine b_istore (pc := 106) (i := 7) (lv' := [(7, _), (6, _), (5, _), (0, _), (1, _), (2, _), (3, _), (4, _)]) (dd dtX11_signs 65 rfl) (Nat.le_of_ble_eq_true rfl) rfl ?_
          refine b_iload (pc := 108) (i := 5) (dd dtX11_signs 66 rfl) rfl ?_
          refine b_aload_n (pc := 110) (i := 0) (dd dtX11_signs 67 rfl) rfl rfl ?_
          refine b_aload_n (pc := 111) (i := 0) (dd dtX11_signs 68 rfl) rfl rfl ?_
          refine b_geta (pc := 112) (dd dtX11_signs 69 rfl) fwX11_242 pM_0 rM_0_75 ?_
          refine b_iload (pc := 115) (i := 7) (dd dtX11_signs 70 rfl) rfl ?_
          refine b_iald (pc := 117) (dd dtX11_signs 71 rfl) pM_46 (v0) ?_
          refine b_aload_n (pc := 118) (i := 0) (dd dtX11_signs 72 rfl) rfl rfl ?_
          refine b_geta (pc := 119) (dd dtX11_signs 73 rfl) fwX11_242 pM_0 rM_0_75 ?_
          refine b_iload (pc := 122) (i := 7) (dd dtX11_signs 74 rfl) rfl ?_
          refine b_ic1 (pc := 124) (dd dtX11_signs 75 rfl) ?_
          refine b_iadd (pc := 125) (dd dtX11_signs 76 rfl) ?_
          refine b_iald (pc := 126) (dd dtX11_signs 77 rfl) pM_46 (v1) ?_
          refine b_aload_n (pc := 127) (i := 0) (dd dtX11_signs 78 rfl) rfl rfl ?_
          refine b_geta (pc := 128) (dd dtX11_signs 79 rfl) fwX11_242 pM_0 rM_0_75 ?_
          refine b_iload (pc := 131) (i := 7) (dd dtX11_signs 80 rfl) rfl ?_
          refine b_ic2 (pc := 133) (dd dtX11_signs 81 rfl) ?_
          refine b_iadd (pc := 134) (dd dtX11_signs 82 rfl) ?_
          refine b_iald (pc := 135) (dd dtX11_signs 83 rfl) pM_46 (v2) ?_
          refine b_invV (pc := 136) (dd dtX11_signs 84 rfl) mlX11_420 mvX11_sign miX11_sign (c_sgM hK hK2) oM_0 rfl rfl (by decide) (Nat.le_of_ble_eq_true rfl) ?_
          refine b_if_lt (pc := 139) (tgt := 146) (dd dtX11_signs 85 rfl) (by decide) (fun h139 => ?_) (fun h139 => ?_)
          · refine b_ic0 (pc := 146) (dd dtX11_signs 88 rfl) ?_
            refine b_iadd (pc := 147) (dd dtX11_signs 89 rfl) ?_
            refine b_istore (pc := 148) (i := 5) (lv' := [(5, _), (7, _), (6, _), (0, _), (1, _), (2, _), (3, _), (4, _)]) (dd dtX11_signs 90 rfl) (Nat.le_of_ble_eq_true rfl) rfl ?_
            refine b_iinc1 (pc := 150) (i := 6) (lv' := [(6, _), (5, _), (7, _), (0, _), (1, _), (2, _), (3, _), (4, _)]) (dd dtX11_signs 91 rfl) rfl (Nat.le_of_ble_eq_true rfl) rfl ?_
            refine b_goto (pc := 153) (tgt := 64) (dd dtX11_signs 92 rfl) (by decide) ?_
            refine b_pick [0, 1, 3, 4, 5, 6, 7] (lv' := [(6, _), (5, _), (0, _), (1, _), (2, _), (3, _), (4, _)]) rfl ?_
            rw [nI_1, sgRun_s (show ok3M z fr h from ⟨h72, h89⟩)]
            obtain ⟨K2, q1, q2⟩ := sgWM_K (k := W 46 (40 * s + fr + 3 * nI h).toNatClampNeg) (c := W 46 (40 * s + fr + 3 * nI h + 1).toNatClampNeg) (v := W 46 (40 * s + fr + 3 * nI h + 2).toNatClampNeg) hK hK2
            have hI0 := hI
            simp only [hI] at h139 q1 ⊢
            show Bd _ _ _ _ _ _ (nxM (J 46) (40 * s + fr) h W) _ _
            first
              | rw [if_pos (show anM (J 46) (40 * s + fr) h W < 0 from h139), Int32.add_zero]
              | rw [if_neg (show ¬ anM (J 46) (40 * s + fr) h W < 0 from h139)]
            refine ih (h + 1) _ _ _ K2 (by omega) rfl q1 q2 ?_ ?_
            · exact (congrFun (sgWM_fr (by decide)) _).trans hz
            · exact (sgWM_fr (by decide)).trans hI0
          · refine b_ic1 (pc := 142) (dd dtX11_signs 86 rfl) ?_
            refine b_goto (pc := 143) (tgt := 147) (dd dtX11_signs 87 rfl) (by decide) ?_
            refine b_iadd (pc := 147) (dd dtX11_signs 89 rfl) ?_
            refine b_istore (pc := 148) (i := 5) (lv' := [(5, _), (7, _), (6, _), (0, _), (1, _), (2, _), (3, _), (4, _)]) (dd dtX11_signs 90 rfl) (Nat.le_of_ble_eq_true rfl) rfl ?_
            refine b_iinc1 (pc := 150) (i := 6) (lv' := [(6, _), (5, _), (7, _), (0, _), (1, _), (2, _), (3, _), (4, _)]) (dd dtX11_signs 91 rfl) rfl (Nat.le_of_ble_eq_true rfl) rfl ?_
            refine b_goto (pc := 153) (tgt := 64) (dd dtX11_signs 92 rfl) (by decide) ?_
            refine b_pick [0, 1, 3, 4, 5, 6, 7] (lv' := [(6, _), (5, _), (0, _), (1, _), (2, _), (3, _), (4, _)]) rfl ?_
            rw [nI_1, sgRun_s (show ok3M z fr h from ⟨h72, h89⟩)]
            obtain ⟨K2, q1, q2⟩ := sgWM_K (k := W 46 (40 * s + fr + 3 * nI h).toNatClampNeg) (c := W 46 (40 * s + fr + 3 * nI h + 1).toNatClampNeg) (v := W 46 (40 * s + fr + 3 * nI h + 2).toNatClampNeg) hK hK2
            have hI0 := hI
            simp only [hI] at h139 q1 ⊢
            show Bd _ _ _ _ _ _ (nxM (J 46) (40 * s + fr) h W) _ _
            first
              | rw [if_pos (show anM (J 46) (40 * s + fr) h W < 0 from h139), Int32.add_zero]
              | rw [if_neg (show ¬ anM (J 46) (40 * s + fr) h W < 0 from h139)]
            refine ih (h + 1) _ _ _ K2 (by omega) rfl q1 q2 ?_ ?_
            · exact (congrFun (sgWM_fr (by decide)) _).trans hz
            · exact (sgWM_fr (by decide)).trans hI0
        · try rw [hz] at h89
          have hno : ¬ ok3M z fr h := by intro q; obtain ⟨q1, q2⟩ := q; contradiction
          rw [sgRun_n hno]
          refine b_bipush (pc := 92) (v := -12) (dd dtX11_signs 54 rfl) (by decide) ?_
          refine b_eq (b_iret (dd dtX11_signs 55 rfl) rfl) ?_ ?_
          · rfl
          · rfl
set_option maxHeartbeats 4000000 in
theorem c_X11_signs {J : Wd} {K z : Nat} {s so fr n : Int32} (hK : J 0 21 = nI K) (hK2 : K ≤ 30) (hz0 : inR s 0 3 → J 45 s.toNatClampNeg = nI z ∧ z ≤ 40) : Cal SyM mX11_signs 3 [.ref 0, .int s, .int so, .int fr, .int n] J (some (.int (vSigns (J 44 s.toNatClampNeg < 0) (J 44 s.toNatClampNeg) s so n (sgM J s z fr n.toNatClampNeg).1))) (if okSigns (J 44 s.toNatClampNeg < 0) (J 44 s.toNatClampNeg) s so n then (sgM J s z fr n.toNatClampNeg).2 else J) := by
  refine Cal.of (by decide) (Nat.le_of_ble_eq_true rfl) ?_
  show Bd _ _ _ _ [(0, _), (1, _), (2, _), (3, _), (4, _)] _ _ _ _
  refine b_aload_n (pc := 0) (i := 0) (dd dtX11_signs 0 rfl) rfl rfl ?_
  refine b_iload_n (pc := 1) (i := 1) (dd dtX11_signs 1 rfl) rfl rfl ?_
  refine b_invV (pc := 2) (dd dtX11_signs 2 rfl) mlX11_297 mvX11_isSheet miX11_isSheet (c_X11_isSheet) oM_0 rfl rfl (by decide) (Nat.le_of_ble_eq_true rfl) ?_
  refine b_ifb_eq (pc := 5) (tgt := 30) (dd dtX11_signs 3 rfl) (by decide) (fun h5 => ?_) (fun h5 => ?_)
  · refine b_bipush (pc := 30) (v := -2) (dd dtX11_signs 16 rfl) (by decide) ?_
    refine b_eq (b_iret (dd dtX11_signs 17 rfl) rfl) ?_ ?_
    · (try clear hz); (try clear hz0); simp [vSigns, inR, -Int32.not_lt, -Int32.not_le, *]
    · (try clear hz); (try clear hz0); simp [okSigns, inR, -Int32.not_lt, -Int32.not_le, *]
  · refine b_aload_n (pc := 8) (i := 0) (dd dtX11_signs 4 rfl) rfl rfl ?_
    refine b_iload_n (pc := 9) (i := 2) (dd dtX11_signs 5 rfl) rfl rfl ?_
    refine b_ic0 (pc := 10) (dd dtX11_signs 6 rfl) ?_
    refine b_ic2 (pc := 11) (dd dtX11_signs 7 rfl) ?_
    refine b_invV (pc := 12) (dd dtX11_signs 8 rfl) mlX11_1 mvX11_in miX11_in (c_X11_in) oM_0 rfl rfl (by decide) (Nat.le_of_ble_eq_true rfl) ?_
    refine b_ifb_eq (pc := 15) (tgt := 30) (dd dtX11_signs 9 rfl) (by decide) (fun h15 => ?_) (fun h15 => ?_)
    · refine b_bipush (pc := 30) (v := -2) (dd dtX11_signs 16 rfl) (by decide) ?_
      refine b_eq (b_iret (dd dtX11_signs 17 rfl) rfl) ?_ ?_
      · (try clear hz); (try clear hz0); simp [vSigns, inR, -Int32.not_lt, -Int32.not_le, *]
      · (try clear hz); (try clear hz0); simp [okSigns, inR, -Int32.not_lt, -Int32.not_le, *]
    · refine b_aload_n (pc := 18) (i := 0) (dd dtX11_signs 10 rfl) rfl rfl ?_
      refine b_iload (pc := 19) (i := 4) (dd dtX11_signs 11 rfl) rfl ?_
      refine b_ic0 (pc := 21) (dd dtX11_signs 12 rfl) ?_
      refine b_bipush (pc := 22) (v := 13) (dd dtX11_signs 13 rfl) (by decide) ?_
      refine b_invV (pc := 24) (dd dtX11_signs 14 rfl) mlX11_1 mvX11_in miX11_in (c_X11_in) oM_0 rfl rfl (by decide) (Nat.le_of_ble_eq_true rfl) ?_
      refine b_ifb_ne (pc := 27) (tgt := 33) (dd dtX11_signs 15 rfl) (by decide) (fun h27 => ?_) (fun h27 => ?_)
      · obtain ⟨hz, hz2⟩ := hz0 h5
        clear hz0
        refine b_aload_n (pc := 33) (i := 0) (dd dtX11_signs 18 rfl) rfl rfl ?_
        refine b_geta (pc := 34) (dd dtX11_signs 19 rfl) fwX11_236 pM_0 rM_0_73 ?_
        refine b_iload_n (pc := 37) (i := 1) (dd dtX11_signs 20 rfl) rfl rfl ?_
        refine b_iald (pc := 38) (dd dtX11_signs 21 rfl) pM_44 (vs4 h5) ?_
        refine b_ifL_ge (pc := 39) (tgt := 45) (dd dtX11_signs 22 rfl) (by decide) (fun h39 => ?_) (fun h39 => ?_)
        · refine b_aload_n (pc := 45) (i := 0) (dd dtX11_signs 25 rfl) rfl rfl ?_
          refine b_geta (pc := 46) (dd dtX11_signs 26 rfl) fwX11_236 pM_0 rM_0_73 ?_
          refine b_iload_n (pc := 49) (i := 1) (dd dtX11_signs 27 rfl) rfl rfl ?_
          refine b_iald (pc := 50) (dd dtX11_signs 28 rfl) pM_44 (vs4 h5) ?_
          refine b_iload_n (pc := 51) (i := 2) (dd dtX11_signs 29 rfl) rfl rfl ?_
          refine b_icmp_eq (pc := 52) (tgt := 58) (dd dtX11_signs 30 rfl) (by decide) (fun h52 => ?_) (fun h52 => ?_)
          · refine b_ic0 (pc := 58) (dd dtX11_signs 33 rfl) ?_
            refine b_istore (pc := 59) (i := 5) (lv' := [(5, _), (0, _), (1, _), (2, _), (3, _), (4, _)]) (dd dtX11_signs 34 rfl) (Nat.le_of_ble_eq_true rfl) rfl ?_
            refine b_ic0 (pc := 61) (dd dtX11_signs 35 rfl) ?_
            refine b_istore (pc := 62) (i := 6) (lv' := [(6, _), (5, _), (0, _), (1, _), (2, _), (3, _), (4, _)]) (dd dtX11_signs 36 rfl) (Nat.le_of_ble_eq_true rfl) rfl ?_
            unfold vSigns
            rw [if_pos ⟨h5, h15, h27⟩, if_neg h39, if_pos h52, if_pos (show okSigns (J 44 s.toNatClampNeg < 0) (J 44 s.toNatClampNeg) s so n from ⟨⟨h5, h15, h27⟩, h39, h52⟩)]
            obtain ⟨en, hn⟩ := n13 h27
            have kk := l_X11_signs (J := J) (so := so) (fr := fr) h5 hn hz2 n.toNatClampNeg 0 _ 0 J K (by omega) rfl hK hK2 hz rfl
            rw [← en] at kk
            exact kk
          · refine b_bipush (pc := 55) (v := -13) (dd dtX11_signs 31 rfl) (by decide) ?_
            refine b_eq (b_iret (dd dtX11_signs 32 rfl) rfl) ?_ ?_
            · (try clear hz); (try clear hz0); simp [vSigns, inR, -Int32.not_lt, -Int32.not_le, *]
            · (try clear hz); (try clear hz0); simp [okSigns, inR, -Int32.not_lt, -Int32.not_le, *]
        · refine b_bipush (pc := 42) (v := -11) (dd dtX11_signs 23 rfl) (by decide) ?_
          refine b_eq (b_iret (dd dtX11_signs 24 rfl) rfl) ?_ ?_
          · (try clear hz); (try clear hz0); simp [vSigns, inR, -Int32.not_lt, -Int32.not_le, *]
          · (try clear hz); (try clear hz0); simp [okSigns, inR, -Int32.not_lt, -Int32.not_le, *]
      · refine b_bipush (pc := 30) (v := -2) (dd dtX11_signs 16 rfl) (by decide) ?_
        refine b_eq (b_iret (dd dtX11_signs 17 rfl) rfl) ?_ ?_
        · (try clear hz); (try clear hz0); simp [vSigns, inR, -Int32.not_lt, -Int32.not_le, *]
        · (try clear hz); (try clear hz0); simp [okSigns, inR, -Int32.not_lt, -Int32.not_le, *]
