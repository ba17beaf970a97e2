/-! sheets -/
def fil {α : Type} (a b : Nat → α) (h : Nat) : Nat → α := fun i => if i < h then a i else b i
theorem fil_0 {α : Type} (a b : Nat → α) : fil a b 0 = b := by funext i; simp [fil]
theorem fil_s {a b : Nat → Int32} {h : Nat} {v : Int32} (hv : v = a h) : upd (fil a b h) h v = fil a b (h + 1) := by
  funext i
  unfold upd fil
  by_cases e : i = h
  · subst e; simp [hv]
  · by_cases l : i < h
    · simp [e, l, Nat.lt_succ_of_lt l]
    · simp [e, l, show ¬ i < h + 1 by omega]
theorem fil_in {α : Type} {a b : Nat → α} {h i : Nat} (l : i < h) : fil a b h i = a i := by simp [fil, l]
theorem fil_out {α : Type} {a b : Nat → α} {h i : Nat} (l : h ≤ i) : fil a b h i = b i := by simp [fil, show ¬ i < h by omega]
theorem rset_id {I : Wd} {k : Nat} : rset I k (I k) = I := by funext a; unfold rset; split <;> simp_all
theorem rset_rset {I : Wd} {k : Nat} {f g : Nat → Int32} : rset (rset I k f) k g = rset I k g := by funext a; unfold rset; split <;> rfl
theorem ist_rset {I : Wd} {k j : Nat} {f : Nat → Int32} {v : Int32} : ist (rset I k f) k j v = rset I k (upd f j v) := by unfold ist; rw [rset_rset, rset_eq]
theorem rset_comm {I : Wd} {k l : Nat} {f g : Nat → Int32} (h : k ≠ l) : rset (rset I k f) l g = rset (rset I l g) k f := by
  funext a; unfold rset
  by_cases e : a = l
  · subst e; simp [Ne.symm h]
  · simp [e]
def kS (s : Int32) : Nat := 99 + 2 * s.toNatClampNeg
theorem sheet_k {s : Int32} (h : inR s 0 3) : isS (kS s) ∧ vp_in s 4 ∧ SyC.2 98 s.toNatClampNeg = some (kS s) := by
  obtain ⟨j, e, h1, h2⟩ := nI_rng h
  have h3 : (3 : Int32).toInt = 3 := rfl
  have hj : j < 4 := by omega
  have hc : s.toNatClampNeg = j := by rw [e]; exact nI_clamp h2
  unfold kS
  rw [hc]
  refine ⟨?_, vpn e hj (by decide), ?_⟩
  · unfold isS; omega
  · rcases (show j = 0 ∨ j = 1 ∨ j = 2 ∨ j = 3 by omega) with rfl | rfl | rfl | rfl <;> rfl
def sNar (so v : Int32) : Int32 := if so = 0 then v.toInt8.toInt32 else if so = 1 then v.toInt16.toInt32 else v
/-- the sheet k begins anew -/
def wBegin (I : Wd) (k : Nat) (so n : Int32) : Wd := rset (ist (ist I k 0 so) k 1 n) (k + 1) (fil (fun _ => 0) (I (k + 1)) 40)
def vSheet (s so n : Int32) : Int32 := if inR s 0 3 ∧ inR so (-1) 2 then (if so = -1 then 1 else if 40 < n then -2 else if n < 0 then -14 else 1) else -2
abbrev okSheet (s so n : Int32) : Prop := (inR s 0 3 ∧ inR so (-1) 2) ∧ ¬ so = -1 ∧ ¬ 40 < n ∧ ¬ n < 0
def vCell (ms : Prop) [Decidable ms] (z : Nat) (s i : Int32) : Int32 := if inR s 0 3 then (if ms then -11 else if inR i 0 (nI z - 1) then 1 else -12) else -2
def vCopy (ms : Prop) [Decidable ms] (so so2 : Int32) (z z2 : Nat) (s i o j n : Int32) : Int32 := if inR s 0 3 ∧ inR o 0 3 then (if ms then -11 else if so = so2 then (if ¬ n < 0 ∧ inR i 0 (nI z - n) ∧ inR j 0 (nI z2 - n) then n else -12) else -13) else -2
abbrev okCopy (ms : Prop) (so so2 : Int32) (z z2 : Nat) (s i o j n : Int32) : Prop := (inR s 0 3 ∧ inR o 0 3) ∧ ¬ ms ∧ so = so2 ∧ ¬ n < 0 ∧ inR i 0 (nI z - n) ∧ inR j 0 (nI z2 - n)
theorem cpy_in {i n : Int32} {z : Nat} (hn : ¬ n < 0) (h : inR i 0 (nI z - n)) (hz : z ≤ 40) : ¬ i < 0 ∧ i.toNatClampNeg + n.toNatClampNeg ≤ z := by
  obtain ⟨h1, h2⟩ := h
  refine ⟨h1, ?_⟩
  obtain ⟨a, ha, ea⟩ := nI_of hn
  obtain ⟨b, hb, eb⟩ := nI_of h1
  rw [ea, eb, nI_clamp ha, nI_clamp hb]
  rw [Int32.lt_iff_toInt_lt, eb, ea, nI_toInt hb, Int32.toInt_sub, nI_toInt ha, nI_toInt (show z < 2 ^ 31 by omega)] at h2
  have e3 : ((z : Int) - (a : Int)).bmod (2 ^ 32) = (z : Int) - a := by
    apply Int.bmod_eq_of_le <;> omega
  rw [e3] at h2
  omega
def tX5_isMissing : List (Nat × Instr × Nat) := [(0, .aload_n 0, 1), (1, .getfield 11, 3), (4, .iconst (-1), 1), (5, .if_icmp .ne 7, 3), (8, .iconst 1, 1), (9, .goto 4, 3), (12, .iconst 0, 1), (13, .ireturn, 1)]
theorem dtX5_isMissing : dec_ok mX5_isMissing.2.1 tX5_isMissing = true := by decide +kernel
set_option maxHeartbeats 4000000 in
theorem c_X5_isMissing {I : Wd} {k : Nat} (hk : isS k) : Cal SyC mX5_isMissing 0 [.ref k] I (some (.int (bi (I k 0 = -1)))) I := by
  refine Cal.of (by decide) (Nat.le_of_ble_eq_true rfl) ?_
  show Bd _ _ _ _ [(0, _)] _ _ _ _
  refine b_aload_n (pc := 0) (i := 0) (dd dtX5_isMissing 0 rfl) rfl rfl ?_
  refine b_geti (pc := 1) (dd dtX5_isMissing 1 rfl) fwX5_11 (pS_0 hk) ?_
  refine b_icm1 (pc := 4) (dd dtX5_isMissing 2 rfl) ?_
  refine b_icmp_ne (pc := 5) (tgt := 12) (dd dtX5_isMissing 3 rfl) (by decide) (fun h5 => ?_) (fun h5 => ?_)
  · refine b_ic0 (pc := 12) (dd dtX5_isMissing 6 rfl) ?_
    refine b_eq (b_zret (dd dtX5_isMissing 7 rfl) rfl (by first | rfl | exact nar_bi)) ?_ ?_
    · simp [bi, *]
    · rfl
  · refine b_ic1 (pc := 8) (dd dtX5_isMissing 4 rfl) ?_
    refine b_goto (pc := 9) (tgt := 13) (dd dtX5_isMissing 5 rfl) (by decide) ?_
    refine b_eq (b_zret (dd dtX5_isMissing 7 rfl) rfl (by first | rfl | exact nar_bi)) ?_ ?_
    · simp [bi, *]
    · rfl
def tX5_has : List (Nat × Instr × Nat) := [(0, .aload_n 0, 1), (1, .invokevirtual 22, 3), (4, .ifCond .ne 21, 3), (7, .iload_n 1, 1), (8, .iconst 0, 1), (9, .aload_n 0, 1), (10, .getfield 15, 3), (13, .iconst 1, 1), (14, .isub, 1), (15, .invokestatic 26, 3), (18, .ifCond .eq 7, 3), (21, .iconst 1, 1), (22, .goto 4, 3), (25, .iconst 0, 1), (26, .ireturn, 1)]
theorem dtX5_has : dec_ok mX5_has.2.1 tX5_has = true := by decide +kernel
set_option maxHeartbeats 4000000 in
theorem c_X5_has {I : Wd} {k z : Nat} (hk : isS k) {i : Int32} (hz : I k 1 = nI z) : Cal SyC mX5_has 1 [.ref k, .int i] I (some (.int (bi (¬ I k 0 = -1 ∧ inR i 0 (nI z - 1))))) I := by
  refine Cal.of (by decide) (Nat.le_of_ble_eq_true rfl) ?_
  show Bd _ _ _ _ [(0, _), (1, _)] _ _ _ _
  refine b_aload_n (pc := 0) (i := 0) (dd dtX5_has 0 rfl) rfl rfl ?_
  refine b_invV (pc := 1) (dd dtX5_has 1 rfl) mlX5_22 mvX5_isMissing miX5_isMissing (c_X5_isMissing hk) (oS hk) rfl rfl (by decide) (Nat.le_of_ble_eq_true rfl) ?_
  refine b_ifb_ne (pc := 4) (tgt := 25) (dd dtX5_has 2 rfl) (by decide) (fun h4 => ?_) (fun h4 => ?_)
  · refine b_ic0 (pc := 25) (dd dtX5_has 13 rfl) ?_
    refine b_eq (b_zret (dd dtX5_has 14 rfl) rfl (by first | rfl | exact nar_bi)) ?_ ?_
    · (try clear hz); simp [bi, inR, -Int32.not_lt, -Int32.not_le, *]
    · rfl
  · refine b_iload_n (pc := 7) (i := 1) (dd dtX5_has 3 rfl) rfl rfl ?_
    refine b_ic0 (pc := 8) (dd dtX5_has 4 rfl) ?_
    refine b_aload_n (pc := 9) (i := 0) (dd dtX5_has 5 rfl) rfl rfl ?_
    refine b_geti (pc := 10) (dd dtX5_has 6 rfl) fwX5_15 (pS_0 hk) ?_
    refine b_ic1 (pc := 13) (dd dtX5_has 7 rfl) ?_
    refine b_isub (pc := 14) (dd dtX5_has 8 rfl) ?_
    rw [hz]
    refine b_invN (pc := 15) (M2 := mX10_within) (dd dtX5_has 9 rfl) (fun _ _ _ _ hE => hE.2.2.2.2) mvX10_within msX10_within (c_X10_within) rfl rfl (by decide) (Nat.le_of_ble_eq_true rfl) ?_
    refine b_ifb_eq (pc := 18) (tgt := 25) (dd dtX5_has 10 rfl) (by decide) (fun h18 => ?_) (fun h18 => ?_)
    · refine b_ic0 (pc := 25) (dd dtX5_has 13 rfl) ?_
      refine b_eq (b_zret (dd dtX5_has 14 rfl) rfl (by first | rfl | exact nar_bi)) ?_ ?_
      · (try clear hz); simp [bi, inR, -Int32.not_lt, -Int32.not_le, *]
      · rfl
    · refine b_ic1 (pc := 21) (dd dtX5_has 11 rfl) ?_
      refine b_goto (pc := 22) (tgt := 26) (dd dtX5_has 12 rfl) (by decide) ?_
      refine b_eq (b_zret (dd dtX5_has 14 rfl) rfl (by first | rfl | exact nar_bi)) ?_ ?_
      · (try clear hz); simp [bi, inR, -Int32.not_lt, -Int32.not_le, *]
      · rfl
theorem mx_n {n : Int32} (h : ¬ 40 < n) (h2 : ¬ n < 0) : (if (0 : Int32) < (if (40 : Int32) < n then 40 else n) then (if (40 : Int32) < n then 40 else n) else 0) = n := by
  rw [if_neg h]
  by_cases e : (0 : Int32) < n
  · rw [if_pos e]
  · rw [if_neg e]
    apply Int32.toInt_inj.mp
    rw [Int32.lt_iff_toInt_lt] at e h2
    have e0 : (0 : Int32).toInt = 0 := rfl
    omega
def tX5_begin : List (Nat × Instr × Nat) := [(0, .aload_n 0, 1), (1, .iload_n 1, 1), (2, .putfield 11, 3), (5, .aload_n 0, 1), (6, .iconst 0, 1), (7, .iload_n 2, 1), (8, .bipush 40, 2), (10, .invokestatic 30, 3), (13, .invokestatic 36, 3), (16, .putfield 15, 3), (19, .iconst 0, 1), (20, .istore_n 3, 1), (21, .iload_n 3, 1), (22, .bipush 40, 2), (24, .if_icmp .ge 16, 3), (27, .aload_n 0, 1), (28, .getfield 18, 3), (31, .iload_n 3, 1), (32, .iconst 0, 1), (33, .iastore, 1), (34, .iinc 3 1, 3), (37, .goto (-16), 3), (40, .return_, 1)]
theorem dtX5_begin : dec_ok mX5_begin.2.1 tX5_begin = true := by decide +kernel
set_option maxHeartbeats 4000000 in
theorem l_X5_begin {I : Wd} {k : Nat} (hk : isS k) {so q0 : Int32} : ∀ (n h : Nat) (x3 : Int32) (I2 : Wd), h ≤ 40 → 40 < h + n → x3 = nI h → I2 = (rset (ist (ist I k 0 so) k 1 q0) (k + 1) (fil (fun _ => 0) (I (k + 1)) h)) → Bd SyC mX5_begin 1 21 [(3, .int x3), (0, .ref k), (1, .int so), (2, .int q0)] [] I2 none (rset (ist (ist I k 0 so) k 1 q0) (k + 1) (fil (fun _ => 0) (I (k + 1)) 40)) := by
  intro n
  induction n with
  | zero => intro h x3 I2 h1 h2; omega
  | succ n ih =>
    intro h x3 I2 h1 h2 e3 eW
    subst e3; subst eW
    refine b_iload_n (pc := 21) (i := 3) (dd dtX5_begin 12 rfl) rfl rfl ?_
    refine b_bipush (pc := 22) (v := 40) (dd dtX5_begin 13 rfl) (by decide) ?_
    refine b_icmpL_ge (pc := 24) (tgt := 40) (dd dtX5_begin 14 rfl) (by decide) (fun h24 => ?_) (fun h24 => ?_)
    · rw [show (40 : Int32) = nI 40 from rfl] at h24
      have he : h = 40 := Nat.le_antisymm h1 (ge_n h24 (by omega))
      subst he
      exact b_eq (b_vret (dd dtX5_begin 22 rfl) rfl) rfl rfl
    · rw [show (40 : Int32) = nI 40 from rfl] at h24
      have hlt : h < 40 := lt_n h24 (by omega) (by omega)
      refine b_aload_n (pc := 27) (i := 0) (dd dtX5_begin 15 rfl) rfl rfl ?_
      refine b_geta (pc := 28) (dd dtX5_begin 16 rfl) fwX5_18 (pS_0 hk) (rS_2 hk) ?_
      refine b_iload_n (pc := 31) (i := 3) (dd dtX5_begin 17 rfl) rfl rfl ?_
      refine b_ic0 (pc := 32) (dd dtX5_begin 18 rfl) ?_
      refine b_iast (pc := 33) (dd dtX5_begin 19 rfl) (pS_1 hk) (vpn rfl (show h < 40 by omega) (by decide)) ?_
      refine b_iinc1 (pc := 34) (i := 3) (lv' := [(3, _), (0, _), (1, _), (2, _)]) (dd dtX5_begin 20 rfl) rfl (Nat.le_of_ble_eq_true rfl) rfl ?_
      refine b_goto (pc := 37) (tgt := 21) (dd dtX5_begin 21 rfl) (by decide) ?_
      rw [nI_1]
      refine ih (h + 1) _ _ hlt (by omega) rfl ?_
      · rw [nI_clamp (show h < 2 ^ 31 by omega), ist_rset, fil_s rfl]
set_option maxHeartbeats 4000000 in
theorem c_X5_begin {I : Wd} {k : Nat} (hk : isS k) {so n : Int32} (h1 : ¬ 40 < n) (h2 : ¬ n < 0) : Cal SyC mX5_begin 1 [.ref k, .int so, .int n] I none (wBegin I k so n) := by
  refine Cal.of (by decide) (Nat.le_of_ble_eq_true rfl) ?_
  show Bd _ _ _ _ [(0, _), (1, _), (2, _)] _ _ _ _
  refine b_aload_n (pc := 0) (i := 0) (dd dtX5_begin 0 rfl) rfl rfl ?_
  refine b_iload_n (pc := 1) (i := 1) (dd dtX5_begin 1 rfl) rfl rfl ?_
  refine b_puti (pc := 2) (dd dtX5_begin 2 rfl) fwX5_11 (pS_0 hk) ?_
  refine b_aload_n (pc := 5) (i := 0) (dd dtX5_begin 3 rfl) rfl rfl ?_
  refine b_ic0 (pc := 6) (dd dtX5_begin 4 rfl) ?_
  refine b_iload_n (pc := 7) (i := 2) (dd dtX5_begin 5 rfl) rfl rfl ?_
  refine b_bipush (pc := 8) (v := 40) (dd dtX5_begin 6 rfl) (by decide) ?_
  refine b_mmin (pc := 10) (dd dtX5_begin 7 rfl) wlX5_30 (Nat.le_of_ble_eq_true rfl) ?_
  refine b_mmax (pc := 13) (dd dtX5_begin 8 rfl) wlX5_36 (Nat.le_of_ble_eq_true rfl) ?_
  rw [mx_n h1 h2]
  refine b_puti (pc := 16) (dd dtX5_begin 9 rfl) fwX5_15 (pS_0 hk) ?_
  refine b_ic0 (pc := 19) (dd dtX5_begin 10 rfl) ?_
  refine b_istore_n (pc := 20) (i := 3) (lv' := [(3, _), (0, _), (1, _), (2, _)]) (dd dtX5_begin 11 rfl) rfl (Nat.le_of_ble_eq_true rfl) rfl ?_
  refine l_X5_begin hk (41) 0 _ _ (Nat.zero_le _) (by omega) rfl ?_
  rw [fil_0]
  refine (rset_id (I := ist (ist I k 0 so) k 1 n) (k := k + 1)).symm.trans ?_
  simp [ist_ne, ist_eq]
def tX5_put : List (Nat × Instr × Nat) := [(0, .aload_n 0, 1), (1, .iload_n 1, 1), (2, .invokevirtual 39, 3), (5, .ifCond .eq 64, 3), (8, .aload_n 0, 1), (9, .getfield 11, 3), (12, .lookupswitch 50 #[(0, 28), (1, 39)], 28), (40, .aload_n 0, 1), (41, .getfield 18, 3), (44, .iload_n 1, 1), (45, .iload_n 2, 1), (46, .i2b, 1), (47, .iastore, 1), (48, .goto 21, 3), (51, .aload_n 0, 1), (52, .getfield 18, 3), (55, .iload_n 1, 1), (56, .iload_n 2, 1), (57, .i2s, 1), (58, .iastore, 1), (59, .goto 10, 3), (62, .aload_n 0, 1), (63, .getfield 18, 3), (66, .iload_n 1, 1), (67, .iload_n 2, 1), (68, .iastore, 1), (69, .return_, 1)]
theorem dtX5_put : dec_ok mX5_put.2.1 tX5_put = true := by decide +kernel
set_option maxHeartbeats 4000000 in
theorem c_X5_put {I : Wd} {k z : Nat} (hk : isS k) {i v : Int32} (hz : I k 1 = nI z) (hz2 : z ≤ 40) (hm : ¬ I k 0 = -1) (hi : inR i 0 (nI z - 1)) : Cal SyC mX5_put 2 [.ref k, .int i, .int v] I none (ist I (k + 1) i.toNatClampNeg (sNar (I k 0) v)) := by
  refine Cal.of (by decide) (Nat.le_of_ble_eq_true rfl) ?_
  show Bd _ _ _ _ [(0, _), (1, _), (2, _)] _ _ _ _
  refine b_aload_n (pc := 0) (i := 0) (dd dtX5_put 0 rfl) rfl rfl ?_
  refine b_iload_n (pc := 1) (i := 1) (dd dtX5_put 1 rfl) rfl rfl ?_
  refine b_invV (pc := 2) (dd dtX5_put 2 rfl) mlX5_39 mvX5_has miX5_has (c_X5_has hk hz) (oS hk) rfl rfl (by decide) (Nat.le_of_ble_eq_true rfl) ?_
  refine b_ifb_eq (pc := 5) (tgt := 69) (dd dtX5_put 3 rfl) (by decide) (fun h5 => ?_) (fun h5 => ?_)
  · exact absurd ⟨hm, hi⟩ h5
  · refine b_aload_n (pc := 8) (i := 0) (dd dtX5_put 4 rfl) rfl rfl ?_
    refine b_geti (pc := 9) (dd dtX5_put 5 rfl) fwX5_11 (pS_0 hk) ?_
    refine b_lsw (pc := 12) (ts := [(0, 40), (1, 51)]) (dfl := 62) (dd dtX5_put 6 rfl) (by decide +kernel) ⟨fun h12 => ?_, fun h12_0 => ⟨fun h12 => ?_, fun h12_1 => ?_⟩⟩
    · refine b_aload_n (pc := 40) (i := 0) (dd dtX5_put 7 rfl) rfl rfl ?_
      refine b_geta (pc := 41) (dd dtX5_put 8 rfl) fwX5_18 (pS_0 hk) (rS_2 hk) ?_
      refine b_iload_n (pc := 44) (i := 1) (dd dtX5_put 9 rfl) rfl rfl ?_
      refine b_iload_n (pc := 45) (i := 2) (dd dtX5_put 10 rfl) rfl rfl ?_
      refine b_i2b (pc := 46) (dd dtX5_put 11 rfl) ?_
      refine b_iast (pc := 47) (dd dtX5_put 12 rfl) (pS_1 hk) (vpm hi hz2 (by decide)) ?_
      refine b_goto (pc := 48) (tgt := 69) (dd dtX5_put 13 rfl) (by decide) ?_
      refine b_eq (b_vret (dd dtX5_put 26 rfl) rfl) ?_ ?_
      · rfl
      · (try clear hz); simp [sNar, *]
    · refine b_aload_n (pc := 51) (i := 0) (dd dtX5_put 14 rfl) rfl rfl ?_
      refine b_geta (pc := 52) (dd dtX5_put 15 rfl) fwX5_18 (pS_0 hk) (rS_2 hk) ?_
      refine b_iload_n (pc := 55) (i := 1) (dd dtX5_put 16 rfl) rfl rfl ?_
      refine b_iload_n (pc := 56) (i := 2) (dd dtX5_put 17 rfl) rfl rfl ?_
      refine b_i2s (pc := 57) (dd dtX5_put 18 rfl) ?_
      refine b_iast (pc := 58) (dd dtX5_put 19 rfl) (pS_1 hk) (vpm hi hz2 (by decide)) ?_
      refine b_goto (pc := 59) (tgt := 69) (dd dtX5_put 20 rfl) (by decide) ?_
      refine b_eq (b_vret (dd dtX5_put 26 rfl) rfl) ?_ ?_
      · rfl
      · (try clear hz); simp [sNar, *]
    · refine b_aload_n (pc := 62) (i := 0) (dd dtX5_put 21 rfl) rfl rfl ?_
      refine b_geta (pc := 63) (dd dtX5_put 22 rfl) fwX5_18 (pS_0 hk) (rS_2 hk) ?_
      refine b_iload_n (pc := 66) (i := 1) (dd dtX5_put 23 rfl) rfl rfl ?_
      refine b_iload_n (pc := 67) (i := 2) (dd dtX5_put 24 rfl) rfl rfl ?_
      refine b_iast (pc := 68) (dd dtX5_put 25 rfl) (pS_1 hk) (vpm hi hz2 (by decide)) ?_
      refine b_eq (b_vret (dd dtX5_put 26 rfl) rfl) ?_ ?_
      · rfl
      · (try clear hz); simp [sNar, *]
def tX10_sheet : List (Nat × Instr × Nat) := [(0, .iload_n 1, 1), (1, .invokestatic 208, 3), (4, .ifCond .eq 12, 3), (7, .iload_n 2, 1), (8, .iconst (-1), 1), (9, .iconst 2, 1), (10, .invokestatic 97, 3), (13, .ifCond .ne 6, 3), (16, .bipush (-2), 2), (18, .ireturn, 1), (19, .iload_n 2, 1), (20, .iconst (-1), 1), (21, .if_icmp .ne 15, 3), (24, .aload_n 0, 1), (25, .getfield 70, 3), (28, .iload_n 1, 1), (29, .aaload, 1), (30, .iconst (-1), 1), (31, .putfield 347, 3), (34, .iconst 1, 1), (35, .ireturn, 1), (36, .iload_n 3, 1), (37, .bipush 40, 2), (39, .if_icmp .le 6, 3), (42, .bipush (-2), 2), (44, .ireturn, 1), (45, .iload_n 3, 1), (46, .ifCond .ge 6, 3), (49, .bipush (-14), 2), (51, .ireturn, 1), (52, .aload_n 0, 1), (53, .getfield 70, 3), (56, .iload_n 1, 1), (57, .aaload, 1), (58, .iload_n 2, 1), (59, .iload_n 3, 1), (60, .invokevirtual 350, 3), (63, .iconst 1, 1), (64, .ireturn, 1)]
theorem dtX10_sheet : dec_ok mX10_sheet.2.1 tX10_sheet = true := by decide +kernel
set_option maxHeartbeats 4000000 in
theorem c_X10_sheet {I : Wd} {s so n : Int32} : Cal SyC mX10_sheet 2 [.ref 0, .int s, .int so, .int n] I (some (.int (vSheet s so n))) (if okSheet s so n then wBegin I (kS s) so n else if (inR s 0 3 ∧ inR so (-1) 2) ∧ so = -1 then ist I (kS s) 0 (-1) else I) := by
  refine Cal.of (by decide) (Nat.le_of_ble_eq_true rfl) ?_
  show Bd _ _ _ _ [(0, _), (1, _), (2, _), (3, _)] _ _ _ _
  refine b_iload_n (pc := 0) (i := 1) (dd dtX10_sheet 0 rfl) rfl rfl ?_
  refine b_invS (pc := 1) (dd dtX10_sheet 1 rfl) mlX10_208 mvX10_isSheet msX10_isSheet (c_X10_isSheet) rfl rfl (by decide) (Nat.le_of_ble_eq_true rfl) ?_
  refine b_ifb_eq (pc := 4) (tgt := 16) (dd dtX10_sheet 2 rfl) (by decide) (fun h4 => ?_) (fun h4 => ?_)
  · refine b_bipush (pc := 16) (v := -2) (dd dtX10_sheet 8 rfl) (by decide) ?_
    refine b_eq (b_iret (dd dtX10_sheet 9 rfl) rfl) ?_ ?_
    · simp [inR, vSheet, -Int32.not_lt, -Int32.not_le, *]
    · simp [inR, okSheet, -Int32.not_lt, -Int32.not_le, *]
  · refine b_iload_n (pc := 7) (i := 2) (dd dtX10_sheet 3 rfl) rfl rfl ?_
    refine b_icm1 (pc := 8) (dd dtX10_sheet 4 rfl) ?_
    refine b_ic2 (pc := 9) (dd dtX10_sheet 5 rfl) ?_
    refine b_invS (pc := 10) (dd dtX10_sheet 6 rfl) mlX10_97 mvX10_within msX10_within (c_X10_within) rfl rfl (by decide) (Nat.le_of_ble_eq_true rfl) ?_
    refine b_ifb_ne (pc := 13) (tgt := 19) (dd dtX10_sheet 7 rfl) (by decide) (fun h13 => ?_) (fun h13 => ?_)
    · refine b_iload_n (pc := 19) (i := 2) (dd dtX10_sheet 10 rfl) rfl rfl ?_
      refine b_icm1 (pc := 20) (dd dtX10_sheet 11 rfl) ?_
      refine b_icmp_ne (pc := 21) (tgt := 36) (dd dtX10_sheet 12 rfl) (by decide) (fun h21 => ?_) (fun h21 => ?_)
      · refine b_iload_n (pc := 36) (i := 3) (dd dtX10_sheet 21 rfl) rfl rfl ?_
        refine b_bipush (pc := 37) (v := 40) (dd dtX10_sheet 22 rfl) (by decide) ?_
        refine b_icmpL_le (pc := 39) (tgt := 45) (dd dtX10_sheet 23 rfl) (by decide) (fun h39 => ?_) (fun h39 => ?_)
        · refine b_iload_n (pc := 45) (i := 3) (dd dtX10_sheet 26 rfl) rfl rfl ?_
          refine b_ifL_ge (pc := 46) (tgt := 52) (dd dtX10_sheet 27 rfl) (by decide) (fun h46 => ?_) (fun h46 => ?_)
          · refine b_aload_n (pc := 52) (i := 0) (dd dtX10_sheet 30 rfl) rfl rfl ?_
            refine b_geta (pc := 53) (dd dtX10_sheet 31 rfl) fwX10_70 pC_0 rC_0_10 ?_
            refine b_iload_n (pc := 56) (i := 1) (dd dtX10_sheet 32 rfl) rfl rfl ?_
            refine b_aald (pc := 57) (q := kS s) (dd dtX10_sheet 33 rfl) pC_98 (by decide) ((sheet_k h4).2.1) ((sheet_k h4).2.2) ?_
            refine b_iload_n (pc := 58) (i := 2) (dd dtX10_sheet 34 rfl) rfl rfl ?_
            refine b_iload_n (pc := 59) (i := 3) (dd dtX10_sheet 35 rfl) rfl rfl ?_
            refine b_invV (pc := 60) (dd dtX10_sheet 36 rfl) mlX10_350 mvX5_begin miX5_begin (c_X5_begin (sheet_k h4).1 h39 h46) (oS (sheet_k h4).1) rfl rfl (by decide) (Nat.le_of_ble_eq_true rfl) ?_
            refine b_ic1 (pc := 63) (dd dtX10_sheet 37 rfl) ?_
            refine b_eq (b_iret (dd dtX10_sheet 38 rfl) rfl) ?_ ?_
            · simp [inR, vSheet, -Int32.not_lt, -Int32.not_le, *]
            · simp [inR, okSheet, -Int32.not_lt, -Int32.not_le, *]
          · refine b_bipush (pc := 49) (v := -14) (dd dtX10_sheet 28 rfl) (by decide) ?_
            refine b_eq (b_iret (dd dtX10_sheet 29 rfl) rfl) ?_ ?_
            · simp [inR, vSheet, -Int32.not_lt, -Int32.not_le, *]
            · simp [inR, okSheet, -Int32.not_lt, -Int32.not_le, *]
        · refine b_bipush (pc := 42) (v := -2) (dd dtX10_sheet 24 rfl) (by decide) ?_
          refine b_eq (b_iret (dd dtX10_sheet 25 rfl) rfl) ?_ ?_
          · simp [inR, vSheet, -Int32.not_lt, -Int32.not_le, *]
          · simp [inR, okSheet, -Int32.not_lt, -Int32.not_le, *]
      · refine b_aload_n (pc := 24) (i := 0) (dd dtX10_sheet 13 rfl) rfl rfl ?_
        refine b_geta (pc := 25) (dd dtX10_sheet 14 rfl) fwX10_70 pC_0 rC_0_10 ?_
        refine b_iload_n (pc := 28) (i := 1) (dd dtX10_sheet 15 rfl) rfl rfl ?_
        refine b_aald (pc := 29) (q := kS s) (dd dtX10_sheet 16 rfl) pC_98 (by decide) ((sheet_k h4).2.1) ((sheet_k h4).2.2) ?_
        refine b_icm1 (pc := 30) (dd dtX10_sheet 17 rfl) ?_
        refine b_puti (pc := 31) (dd dtX10_sheet 18 rfl) fwX10_347 (pS_0 (sheet_k h4).1) ?_
        refine b_ic1 (pc := 34) (dd dtX10_sheet 19 rfl) ?_
        refine b_eq (b_iret (dd dtX10_sheet 20 rfl) rfl) ?_ ?_
        · simp [inR, vSheet, -Int32.not_lt, -Int32.not_le, *]
        · simp [inR, okSheet, -Int32.not_lt, -Int32.not_le, *]
    · refine b_bipush (pc := 16) (v := -2) (dd dtX10_sheet 8 rfl) (by decide) ?_
      refine b_eq (b_iret (dd dtX10_sheet 9 rfl) rfl) ?_ ?_
      · simp [inR, vSheet, -Int32.not_lt, -Int32.not_le, *]
      · simp [inR, okSheet, -Int32.not_lt, -Int32.not_le, *]
def tX10_cell : List (Nat × Instr × Nat) := [(0, .iload_n 1, 1), (1, .invokestatic 208, 3), (4, .ifCond .ne 6, 3), (7, .bipush (-2), 2), (9, .ireturn, 1), (10, .aload_n 0, 1), (11, .getfield 70, 3), (14, .iload_n 1, 1), (15, .aaload, 1), (16, .invokevirtual 211, 3), (19, .ifCond .eq 6, 3), (22, .bipush (-11), 2), (24, .ireturn, 1), (25, .aload_n 0, 1), (26, .getfield 70, 3), (29, .iload_n 1, 1), (30, .aaload, 1), (31, .iload_n 2, 1), (32, .invokevirtual 354, 3), (35, .ifCond .ne 6, 3), (38, .bipush (-12), 2), (40, .ireturn, 1), (41, .aload_n 0, 1), (42, .getfield 70, 3), (45, .iload_n 1, 1), (46, .aaload, 1), (47, .iload_n 2, 1), (48, .iload_n 3, 1), (49, .invokevirtual 357, 3), (52, .iconst 1, 1), (53, .ireturn, 1)]
theorem dtX10_cell : dec_ok mX10_cell.2.1 tX10_cell = true := by decide +kernel
set_option maxHeartbeats 4000000 in
theorem c_X10_cell {I : Wd} {s i v : Int32} {z : Nat} (hz0 : inR s 0 3 → I (kS s) 1 = nI z ∧ z ≤ 40) : Cal SyC mX10_cell 3 [.ref 0, .int s, .int i, .int v] I (some (.int (vCell (I (kS s) 0 = -1) z s i))) (if inR s 0 3 ∧ ¬ I (kS s) 0 = -1 ∧ inR i 0 (nI z - 1) then ist I (kS s + 1) i.toNatClampNeg (sNar (I (kS s) 0) v) else I) := by
  refine Cal.of (by decide) (Nat.le_of_ble_eq_true rfl) ?_
  show Bd _ _ _ _ [(0, _), (1, _), (2, _), (3, _)] _ _ _ _
  refine b_iload_n (pc := 0) (i := 1) (dd dtX10_cell 0 rfl) rfl rfl ?_
  refine b_invS (pc := 1) (dd dtX10_cell 1 rfl) mlX10_208 mvX10_isSheet msX10_isSheet (c_X10_isSheet) rfl rfl (by decide) (Nat.le_of_ble_eq_true rfl) ?_
  refine b_ifb_ne (pc := 4) (tgt := 10) (dd dtX10_cell 2 rfl) (by decide) (fun h4 => ?_) (fun h4 => ?_)
  · obtain ⟨hz, hz2⟩ := hz0 h4
    refine b_aload_n (pc := 10) (i := 0) (dd dtX10_cell 5 rfl) rfl rfl ?_
    refine b_geta (pc := 11) (dd dtX10_cell 6 rfl) fwX10_70 pC_0 rC_0_10 ?_
    refine b_iload_n (pc := 14) (i := 1) (dd dtX10_cell 7 rfl) rfl rfl ?_
    refine b_aald (pc := 15) (q := kS s) (dd dtX10_cell 8 rfl) pC_98 (by decide) ((sheet_k h4).2.1) ((sheet_k h4).2.2) ?_
    refine b_invV (pc := 16) (dd dtX10_cell 9 rfl) mlX10_211 mvX5_isMissing miX5_isMissing (c_X5_isMissing (sheet_k h4).1) (oS (sheet_k h4).1) rfl rfl (by decide) (Nat.le_of_ble_eq_true rfl) ?_
    refine b_ifb_eq (pc := 19) (tgt := 25) (dd dtX10_cell 10 rfl) (by decide) (fun h19 => ?_) (fun h19 => ?_)
    · refine b_aload_n (pc := 25) (i := 0) (dd dtX10_cell 13 rfl) rfl rfl ?_
      refine b_geta (pc := 26) (dd dtX10_cell 14 rfl) fwX10_70 pC_0 rC_0_10 ?_
      refine b_iload_n (pc := 29) (i := 1) (dd dtX10_cell 15 rfl) rfl rfl ?_
      refine b_aald (pc := 30) (q := kS s) (dd dtX10_cell 16 rfl) pC_98 (by decide) ((sheet_k h4).2.1) ((sheet_k h4).2.2) ?_
      refine b_iload_n (pc := 31) (i := 2) (dd dtX10_cell 17 rfl) rfl rfl ?_
      refine b_invV (pc := 32) (dd dtX10_cell 18 rfl) mlX10_354 mvX5_has miX5_has (c_X5_has (sheet_k h4).1 hz) (oS (sheet_k h4).1) rfl rfl (by decide) (Nat.le_of_ble_eq_true rfl) ?_
      refine b_ifb_ne (pc := 35) (tgt := 41) (dd dtX10_cell 19 rfl) (by decide) (fun h35 => ?_) (fun h35 => ?_)
      · refine b_aload_n (pc := 41) (i := 0) (dd dtX10_cell 22 rfl) rfl rfl ?_
        refine b_geta (pc := 42) (dd dtX10_cell 23 rfl) fwX10_70 pC_0 rC_0_10 ?_
        refine b_iload_n (pc := 45) (i := 1) (dd dtX10_cell 24 rfl) rfl rfl ?_
        refine b_aald (pc := 46) (q := kS s) (dd dtX10_cell 25 rfl) pC_98 (by decide) ((sheet_k h4).2.1) ((sheet_k h4).2.2) ?_
        refine b_iload_n (pc := 47) (i := 2) (dd dtX10_cell 26 rfl) rfl rfl ?_
        refine b_iload_n (pc := 48) (i := 3) (dd dtX10_cell 27 rfl) rfl rfl ?_
        refine b_invV (pc := 49) (dd dtX10_cell 28 rfl) mlX10_357 mvX5_put miX5_put (c_X5_put (sheet_k h4).1 hz hz2 h35.1 h35.2) (oS (sheet_k h4).1) rfl rfl (by decide) (Nat.le_of_ble_eq_true rfl) ?_
        refine b_ic1 (pc := 52) (dd dtX10_cell 29 rfl) ?_
        refine b_eq (b_iret (dd dtX10_cell 30 rfl) rfl) ?_ ?_
        · (try clear hz); (try clear hz0); simp [inR, vCell, -Int32.not_lt, -Int32.not_le, *]
        · (try clear hz); (try clear hz0); simp [inR, vCell, -Int32.not_lt, -Int32.not_le, *]
      · have h35q : ¬ inR i 0 (nI z - 1) := fun q => h35 ⟨h19, q⟩
        clear h35
        refine b_bipush (pc := 38) (v := -12) (dd dtX10_cell 20 rfl) (by decide) ?_
        refine b_eq (b_iret (dd dtX10_cell 21 rfl) rfl) ?_ ?_
        · (try clear hz); (try clear hz0); simp [inR, vCell, -Int32.not_lt, -Int32.not_le, *]
        · (try clear hz); (try clear hz0); simp [inR, vCell, -Int32.not_lt, -Int32.not_le, *]
    · refine b_bipush (pc := 22) (v := -11) (dd dtX10_cell 11 rfl) (by decide) ?_
      refine b_eq (b_iret (dd dtX10_cell 12 rfl) rfl) ?_ ?_
      · (try clear hz); (try clear hz0); simp [inR, vCell, -Int32.not_lt, -Int32.not_le, *]
      · (try clear hz); (try clear hz0); simp [inR, vCell, -Int32.not_lt, -Int32.not_le, *]
  · refine b_bipush (pc := 7) (v := -2) (dd dtX10_cell 3 rfl) (by decide) ?_
    refine b_eq (b_iret (dd dtX10_cell 4 rfl) rfl) ?_ ?_
    · (try clear hz); (try clear hz0); simp [inR, vCell, -Int32.not_lt, -Int32.not_le, *]
    · (try clear hz); (try clear hz0); simp [inR, vCell, -Int32.not_lt, -Int32.not_le, *]
def tX10_copy : List (Nat × Instr × Nat) := [(0, .iload_n 1, 1), (1, .invokestatic 208, 3), (4, .ifCond .eq 10, 3), (7, .iload_n 3, 1), (8, .invokestatic 208, 3), (11, .ifCond .ne 6, 3), (14, .bipush (-2), 2), (16, .ireturn, 1), (17, .aload_n 0, 1), (18, .getfield 70, 3), (21, .iload_n 1, 1), (22, .aaload, 1), (23, .astore 6, 2), (25, .aload_n 0, 1), (26, .getfield 70, 3), (29, .iload_n 3, 1), (30, .aaload, 1), (31, .astore 7, 2), (33, .aload 6, 2), (35, .invokevirtual 211, 3), (38, .ifCond .ne 11, 3), (41, .aload 7, 2), (43, .invokevirtual 211, 3), (46, .ifCond .eq 6, 3), (49, .bipush (-11), 2), (51, .ireturn, 1), (52, .aload 6, 2), (54, .getfield 347, 3), (57, .aload 7, 2), (59, .getfield 347, 3), (62, .if_icmp .eq 6, 3), (65, .bipush (-13), 2), (67, .ireturn, 1), (68, .iload 5, 2), (70, .ifCond .lt 36, 3), (73, .iload_n 2, 1), (74, .iconst 0, 1), (75, .aload 6, 2), (77, .getfield 214, 3), (80, .iload 5, 2), (82, .isub, 1), (83, .invokestatic 97, 3), (86, .ifCond .eq 20, 3), (89, .iload 4, 2), (91, .iconst 0, 1), (92, .aload 7, 2), (94, .getfield 214, 3), (97, .iload 5, 2), (99, .isub, 1), (100, .invokestatic 97, 3), (103, .ifCond .ne 6, 3), (106, .bipush (-12), 2), (108, .ireturn, 1), (109, .aload 6, 2), (111, .getfield 284, 3), (114, .iload_n 2, 1), (115, .aload 7, 2), (117, .getfield 284, 3), (120, .iload 4, 2), (122, .iload 5, 2), (124, .invokestatic 359, 3), (127, .iload 5, 2), (129, .ireturn, 1)]
theorem dtX10_copy : dec_ok mX10_copy.2.1 tX10_copy = true := by decide +kernel
set_option maxHeartbeats 4000000 in
theorem c_X10_copy {I : Wd} {s i o j n : Int32} {z z2 : Nat} (hz0 : inR s 0 3 → I (kS s) 1 = nI z ∧ z ≤ 40) (hy0 : inR o 0 3 → I (kS o) 1 = nI z2 ∧ z2 ≤ 40) : Cal SyC mX10_copy 2 [.ref 0, .int s, .int i, .int o, .int j, .int n] I (some (.int (vCopy (I (kS s) 0 = -1 ∨ I (kS o) 0 = -1) (I (kS s) 0) (I (kS o) 0) z z2 s i o j n))) (if okCopy (I (kS s) 0 = -1 ∨ I (kS o) 0 = -1) (I (kS s) 0) (I (kS o) 0) z z2 s i o j n then rset I (kS o + 1) (va_cpy (I (kS s + 1)) (I (kS o + 1)) i.toNatClampNeg j.toNatClampNeg n.toNatClampNeg) else I) := by
  refine Cal.of (by decide) (Nat.le_of_ble_eq_true rfl) ?_
  show Bd _ _ _ _ [(0, _), (1, _), (2, _), (3, _), (4, _), (5, _)] _ _ _ _
  refine b_iload_n (pc := 0) (i := 1) (dd dtX10_copy 0 rfl) rfl rfl ?_
  refine b_invS (pc := 1) (dd dtX10_copy 1 rfl) mlX10_208 mvX10_isSheet msX10_isSheet (c_X10_isSheet) rfl rfl (by decide) (Nat.le_of_ble_eq_true rfl) ?_
  refine b_ifb_eq (pc := 4) (tgt := 14) (dd dtX10_copy 2 rfl) (by decide) (fun h4 => ?_) (fun h4 => ?_)
  · refine b_bipush (pc := 14) (v := -2) (dd dtX10_copy 6 rfl) (by decide) ?_
    refine b_eq (b_iret (dd dtX10_copy 7 rfl) rfl) ?_ ?_
    · (try clear hz); (try clear hy); (try clear hz0); (try clear hy0); simp [inR, vCopy, -Int32.not_lt, -Int32.not_le, *]
    · (try clear hz); (try clear hy); (try clear hz0); (try clear hy0); simp [inR, okCopy, -Int32.not_lt, -Int32.not_le, *]
  · refine b_iload_n (pc := 7) (i := 3) (dd dtX10_copy 3 rfl) rfl rfl ?_
    refine b_invS (pc := 8) (dd dtX10_copy 4 rfl) mlX10_208 mvX10_isSheet msX10_isSheet (c_X10_isSheet) rfl rfl (by decide) (Nat.le_of_ble_eq_true rfl) ?_
    refine b_ifb_ne (pc := 11) (tgt := 17) (dd dtX10_copy 5 rfl) (by decide) (fun h11 => ?_) (fun h11 => ?_)
    · obtain ⟨hz, hz2⟩ := hz0 h4
      obtain ⟨hy, hy2⟩ := hy0 h11
      clear hz0 hy0
      refine b_aload_n (pc := 17) (i := 0) (dd dtX10_copy 8 rfl) rfl rfl ?_
      refine b_geta (pc := 18) (dd dtX10_copy 9 rfl) fwX10_70 pC_0 rC_0_10 ?_
      refine b_iload_n (pc := 21) (i := 1) (dd dtX10_copy 10 rfl) rfl rfl ?_
      refine b_aald (pc := 22) (q := kS s) (dd dtX10_copy 11 rfl) pC_98 (by decide) ((sheet_k h4).2.1) ((sheet_k h4).2.2) ?_
      refine b_astore (pc := 23) (i := 6) (lv' := [(6, _), (0, _), (1, _), (2, _), (3, _), (4, _), (5, _)]) (dd dtX10_copy 12 rfl) (Nat.le_of_ble_eq_true rfl) rfl ?_
      refine b_aload_n (pc := 25) (i := 0) (dd dtX10_copy 13 rfl) rfl rfl ?_
      refine b_geta (pc := 26) (dd dtX10_copy 14 rfl) fwX10_70 pC_0 rC_0_10 ?_
      refine b_iload_n (pc := 29) (i := 3) (dd dtX10_copy 15 rfl) rfl rfl ?_
      refine b_aald (pc := 30) (q := kS o) (dd dtX10_copy 16 rfl) pC_98 (by decide) ((sheet_k h11).2.1) ((sheet_k h11).2.2) ?_
      refine b_astore (pc := 31) (i := 7) (lv' := [(7, _), (6, _), (0, _), (1, _), (2, _), (3, _), (4, _), (5, _)]) (dd dtX10_copy 17 rfl) (Nat.le_of_ble_eq_true rfl) rfl ?_
      refine b_aload (pc := 33) (i := 6) (dd dtX10_copy 18 rfl) rfl ?_
      refine b_invV (pc := 35) (dd dtX10_copy 19 rfl) mlX10_211 mvX5_isMissing miX5_isMissing (c_X5_isMissing (sheet_k h4).1) (oS (sheet_k h4).1) rfl rfl (by decide) (Nat.le_of_ble_eq_true rfl) ?_
      refine b_ifb_ne (pc := 38) (tgt := 49) (dd dtX10_copy 20 rfl) (by decide) (fun h38 => ?_) (fun h38 => ?_)
      · refine b_bipush (pc := 49) (v := -11) (dd dtX10_copy 24 rfl) (by decide) ?_
        refine b_eq (b_iret (dd dtX10_copy 25 rfl) rfl) ?_ ?_
        · (try clear hz); (try clear hy); (try clear hz0); (try clear hy0); simp [inR, vCopy, -Int32.not_lt, -Int32.not_le, *]
        · (try clear hz); (try clear hy); (try clear hz0); (try clear hy0); simp [inR, okCopy, -Int32.not_lt, -Int32.not_le, *]
      · refine b_aload (pc := 41) (i := 7) (dd dtX10_copy 21 rfl) rfl ?_
        refine b_invV (pc := 43) (dd dtX10_copy 22 rfl) mlX10_211 mvX5_isMissing miX5_isMissing (c_X5_isMissing (sheet_k h11).1) (oS (sheet_k h11).1) rfl rfl (by decide) (Nat.le_of_ble_eq_true rfl) ?_
        refine b_ifb_eq (pc := 46) (tgt := 52) (dd dtX10_copy 23 rfl) (by decide) (fun h46 => ?_) (fun h46 => ?_)
        · refine b_aload (pc := 52) (i := 6) (dd dtX10_copy 26 rfl) rfl ?_
          refine b_geti (pc := 54) (dd dtX10_copy 27 rfl) fwX10_347 (pS_0 (sheet_k h4).1) ?_
          refine b_aload (pc := 57) (i := 7) (dd dtX10_copy 28 rfl) rfl ?_
          refine b_geti (pc := 59) (dd dtX10_copy 29 rfl) fwX10_347 (pS_0 (sheet_k h11).1) ?_
          refine b_icmp_eq (pc := 62) (tgt := 68) (dd dtX10_copy 30 rfl) (by decide) (fun h62 => ?_) (fun h62 => ?_)
          · refine b_iload (pc := 68) (i := 5) (dd dtX10_copy 33 rfl) rfl ?_
            refine b_if_lt (pc := 70) (tgt := 106) (dd dtX10_copy 34 rfl) (by decide) (fun h70 => ?_) (fun h70 => ?_)
            · refine b_bipush (pc := 106) (v := -12) (dd dtX10_copy 51 rfl) (by decide) ?_
              refine b_eq (b_iret (dd dtX10_copy 52 rfl) rfl) ?_ ?_
              · (try clear hz); (try clear hy); (try clear hz0); (try clear hy0); simp [inR, vCopy, -Int32.not_lt, -Int32.not_le, *]
              · (try clear hz); (try clear hy); (try clear hz0); (try clear hy0); simp [inR, okCopy, -Int32.not_lt, -Int32.not_le, *]
            · refine b_iload_n (pc := 73) (i := 2) (dd dtX10_copy 35 rfl) rfl rfl ?_
              refine b_ic0 (pc := 74) (dd dtX10_copy 36 rfl) ?_
              refine b_aload (pc := 75) (i := 6) (dd dtX10_copy 37 rfl) rfl ?_
              refine b_geti (pc := 77) (dd dtX10_copy 38 rfl) fwX10_214 (pS_0 (sheet_k h4).1) ?_
              refine b_iload (pc := 80) (i := 5) (dd dtX10_copy 39 rfl) rfl ?_
              refine b_isub (pc := 82) (dd dtX10_copy 40 rfl) ?_
              rw [hz]
              refine b_invS (pc := 83) (dd dtX10_copy 41 rfl) mlX10_97 mvX10_within msX10_within (c_X10_within) rfl rfl (by decide) (Nat.le_of_ble_eq_true rfl) ?_
              refine b_ifb_eq (pc := 86) (tgt := 106) (dd dtX10_copy 42 rfl) (by decide) (fun h86 => ?_) (fun h86 => ?_)
              · refine b_bipush (pc := 106) (v := -12) (dd dtX10_copy 51 rfl) (by decide) ?_
                refine b_eq (b_iret (dd dtX10_copy 52 rfl) rfl) ?_ ?_
                · (try clear hz); (try clear hy); (try clear hz0); (try clear hy0); simp [inR, vCopy, -Int32.not_lt, -Int32.not_le, *]
                · (try clear hz); (try clear hy); (try clear hz0); (try clear hy0); simp [inR, okCopy, -Int32.not_lt, -Int32.not_le, *]
              · refine b_iload (pc := 89) (i := 4) (dd dtX10_copy 43 rfl) rfl ?_
                refine b_ic0 (pc := 91) (dd dtX10_copy 44 rfl) ?_
                refine b_aload (pc := 92) (i := 7) (dd dtX10_copy 45 rfl) rfl ?_
                refine b_geti (pc := 94) (dd dtX10_copy 46 rfl) fwX10_214 (pS_0 (sheet_k h11).1) ?_
                refine b_iload (pc := 97) (i := 5) (dd dtX10_copy 47 rfl) rfl ?_
                refine b_isub (pc := 99) (dd dtX10_copy 48 rfl) ?_
                rw [hy]
                refine b_invS (pc := 100) (dd dtX10_copy 49 rfl) mlX10_97 mvX10_within msX10_within (c_X10_within) rfl rfl (by decide) (Nat.le_of_ble_eq_true rfl) ?_
                refine b_ifb_ne (pc := 103) (tgt := 109) (dd dtX10_copy 50 rfl) (by decide) (fun h103 => ?_) (fun h103 => ?_)
                · refine b_aload (pc := 109) (i := 6) (dd dtX10_copy 53 rfl) rfl ?_
                  refine b_geta (pc := 111) (dd dtX10_copy 54 rfl) fwX10_284 (pS_0 (sheet_k h4).1) (rS_2 (sheet_k h4).1) ?_
                  refine b_iload_n (pc := 114) (i := 2) (dd dtX10_copy 55 rfl) rfl rfl ?_
                  refine b_aload (pc := 115) (i := 7) (dd dtX10_copy 56 rfl) rfl ?_
                  refine b_geta (pc := 117) (dd dtX10_copy 57 rfl) fwX10_284 (pS_0 (sheet_k h11).1) (rS_2 (sheet_k h11).1) ?_
                  refine b_iload (pc := 120) (i := 4) (dd dtX10_copy 58 rfl) rfl ?_
                  refine b_iload (pc := 122) (i := 5) (dd dtX10_copy 59 rfl) rfl ?_
                  refine b_copyT (pc := 124) (Or.inl ⟨rfl, rfl⟩) (dd dtX10_copy 60 rfl) wlX10_359 (pS_1 (sheet_k h4).1) (pS_1 (sheet_k h11).1) ⟨(cpy_in h70 h86 hz2).1, (cpy_in h70 h103 hy2).1, h70, Nat.le_trans (cpy_in h70 h86 hz2).2 hz2, Nat.le_trans (cpy_in h70 h103 hy2).2 hy2, fun _ _ => rfl, Nat.le_of_ble_eq_true rfl⟩ ?_
                  refine b_iload (pc := 127) (i := 5) (dd dtX10_copy 61 rfl) rfl ?_
                  refine b_eq (b_iret (dd dtX10_copy 62 rfl) rfl) ?_ ?_
                  · (try clear hz); (try clear hy); (try clear hz0); (try clear hy0); simp [inR, vCopy, -Int32.not_lt, -Int32.not_le, *]
                  · (try clear hz); (try clear hy); (try clear hz0); (try clear hy0); simp [inR, okCopy, -Int32.not_lt, -Int32.not_le, *]
                · refine b_bipush (pc := 106) (v := -12) (dd dtX10_copy 51 rfl) (by decide) ?_
                  refine b_eq (b_iret (dd dtX10_copy 52 rfl) rfl) ?_ ?_
                  · (try clear hz); (try clear hy); (try clear hz0); (try clear hy0); simp [inR, vCopy, -Int32.not_lt, -Int32.not_le, *]
                  · (try clear hz); (try clear hy); (try clear hz0); (try clear hy0); simp [inR, okCopy, -Int32.not_lt, -Int32.not_le, *]
          · refine b_bipush (pc := 65) (v := -13) (dd dtX10_copy 31 rfl) (by decide) ?_
            refine b_eq (b_iret (dd dtX10_copy 32 rfl) rfl) ?_ ?_
            · (try clear hz); (try clear hy); (try clear hz0); (try clear hy0); simp [inR, vCopy, -Int32.not_lt, -Int32.not_le, *]
            · (try clear hz); (try clear hy); (try clear hz0); (try clear hy0); simp [inR, okCopy, -Int32.not_lt, -Int32.not_le, *]
        · refine b_bipush (pc := 49) (v := -11) (dd dtX10_copy 24 rfl) (by decide) ?_
          refine b_eq (b_iret (dd dtX10_copy 25 rfl) rfl) ?_ ?_
          · (try clear hz); (try clear hy); (try clear hz0); (try clear hy0); simp [inR, vCopy, -Int32.not_lt, -Int32.not_le, *]
          · (try clear hz); (try clear hy); (try clear hz0); (try clear hy0); simp [inR, okCopy, -Int32.not_lt, -Int32.not_le, *]
    · refine b_bipush (pc := 14) (v := -2) (dd dtX10_copy 6 rfl) (by decide) ?_
      refine b_eq (b_iret (dd dtX10_copy 7 rfl) rfl) ?_ ?_
      · (try clear hz); (try clear hy); (try clear hz0); (try clear hy0); simp [inR, vCopy, -Int32.not_lt, -Int32.not_le, *]
      · (try clear hz); (try clear hy); (try clear hz0); (try clear hy0); simp [inR, okCopy, -Int32.not_lt, -Int32.not_le, *]

/-- a kind and the kinds above it -/
def isOneN : Nat → Int32 → Int32 → Bool
  | 0, _, _ => false
  | n + 1, k, o => if k < 0 then false else if k < 6 then (if k = o then true else isOneN n (tbAbove.getD k.toNatClampNeg 0) o) else false
def tX6_isOneOf : List (Nat × Instr × Nat) := [(0, .iload_n 0, 1), (1, .istore_n 2, 1), (2, .iconst 0, 1), (3, .istore_n 3, 1), (4, .iload_n 3, 1), (5, .bipush 6, 2), (7, .if_icmp .ge 32, 3), (10, .iload_n 2, 1), (11, .ifCond .lt 28, 3), (14, .iload_n 2, 1), (15, .bipush 6, 2), (17, .if_icmp .ge 22, 3), (20, .iload_n 2, 1), (21, .iload_n 1, 1), (22, .if_icmp .ne 5, 3), (25, .iconst 1, 1), (26, .ireturn, 1), (27, .getstatic 60, 3), (30, .iload_n 2, 1), (31, .iaload, 1), (32, .istore_n 2, 1), (33, .iinc 3 1, 3), (36, .goto (-32), 3), (39, .iconst 0, 1), (40, .ireturn, 1)]
theorem dtX6_isOneOf : dec_ok mX6_isOneOf.2.1 tX6_isOneOf = true := by decide +kernel
set_option maxHeartbeats 4000000 in
theorem l_X6_isOneOf {I : Wd} {a b : Int32} : ∀ (n t : Nat) (x2 x3 : Int32), t + n = 6 → x3 = nI t → Bd SyC mX6_isOneOf 0 4 [(3, .int x3), (2, .int x2), (0, .int a), (1, .int b)] [] I (some (.int (bi (isOneN n x2 b = true)))) I := by
  intro n
  induction n with
  | zero =>
    intro t x2 x3 ht e3
    subst e3
    have ht : t = 6 := by omega
    subst ht
    refine b_iload_n (pc := 4) (i := 3) (dd dtX6_isOneOf 4 rfl) rfl rfl ?_
    refine b_bipush (pc := 5) (v := 6) (dd dtX6_isOneOf 5 rfl) (by decide) ?_
    refine b_icmpL_ge (pc := 7) (tgt := 39) (dd dtX6_isOneOf 6 rfl) (by decide) (fun h7 => ?_) (fun h7 => ?_)
    · refine b_ic0 (pc := 39) (dd dtX6_isOneOf 23 rfl) ?_
      refine b_eq (b_zret (dd dtX6_isOneOf 24 rfl) rfl (by first | rfl | exact nar_bi)) ?_ ?_
      · simp [bi, isOneN]
      · rfl
    · exact absurd h7 (by decide)
  | succ n ih =>
    intro t x2 x3 ht e3
    subst e3
    refine b_iload_n (pc := 4) (i := 3) (dd dtX6_isOneOf 4 rfl) rfl rfl ?_
    refine b_bipush (pc := 5) (v := 6) (dd dtX6_isOneOf 5 rfl) (by decide) ?_
    refine b_icmpL_ge (pc := 7) (tgt := 39) (dd dtX6_isOneOf 6 rfl) (by decide) (fun h7 => ?_) (fun h7 => ?_)
    · exact absurd (nI_lt (show t < 6 by omega) (by decide)) h7
    · refine b_iload_n (pc := 10) (i := 2) (dd dtX6_isOneOf 7 rfl) rfl rfl ?_
      refine b_if_lt (pc := 11) (tgt := 39) (dd dtX6_isOneOf 8 rfl) (by decide) (fun h11 => ?_) (fun h11 => ?_)
      · refine b_ic0 (pc := 39) (dd dtX6_isOneOf 23 rfl) ?_
        refine b_eq (b_zret (dd dtX6_isOneOf 24 rfl) rfl (by first | rfl | exact nar_bi)) ?_ ?_
        · simp [bi, isOneN, -Int32.not_lt, -Int32.not_le, *]
        · rfl
      · refine b_iload_n (pc := 14) (i := 2) (dd dtX6_isOneOf 9 rfl) rfl rfl ?_
        refine b_bipush (pc := 15) (v := 6) (dd dtX6_isOneOf 10 rfl) (by decide) ?_
        refine b_icmpL_ge (pc := 17) (tgt := 39) (dd dtX6_isOneOf 11 rfl) (by decide) (fun h17 => ?_) (fun h17 => ?_)
        · refine b_ic0 (pc := 39) (dd dtX6_isOneOf 23 rfl) ?_
          refine b_eq (b_zret (dd dtX6_isOneOf 24 rfl) rfl (by first | rfl | exact nar_bi)) ?_ ?_
          · simp [bi, isOneN, -Int32.not_lt, -Int32.not_le, *]
          · rfl
        · refine b_iload_n (pc := 20) (i := 2) (dd dtX6_isOneOf 12 rfl) rfl rfl ?_
          refine b_iload_n (pc := 21) (i := 1) (dd dtX6_isOneOf 13 rfl) rfl rfl ?_
          refine b_icmp_ne (pc := 22) (tgt := 27) (dd dtX6_isOneOf 14 rfl) (by decide) (fun h22 => ?_) (fun h22 => ?_)
          · refine b_gets2 (pc := 27) (dd dtX6_isOneOf 17 rfl) fsX6_60 ?_
            refine b_iload_n (pc := 30) (i := 2) (dd dtX6_isOneOf 18 rfl) rfl rfl ?_
            refine b_tald2 (pc := 31) (dd dtX6_isOneOf 19 rfl) (by rw [vp_in_iff]; rw [Int32.lt_iff_toInt_lt] at h11 h17; have e0 : (0 : Int32).toInt = 0 := rfl; have e6 : (6 : Int32).toInt = 6 := rfl; omega) ?_
            refine b_istore_n (pc := 32) (i := 2) (lv' := [(2, _), (3, _), (0, _), (1, _)]) (dd dtX6_isOneOf 20 rfl) rfl (Nat.le_of_ble_eq_true rfl) rfl ?_
            refine b_iinc1 (pc := 33) (i := 3) (lv' := [(3, _), (2, _), (0, _), (1, _)]) (dd dtX6_isOneOf 21 rfl) rfl (Nat.le_of_ble_eq_true rfl) rfl ?_
            refine b_goto (pc := 36) (tgt := 4) (dd dtX6_isOneOf 22 rfl) (by decide) ?_
            rw [nI_1]
            refine b_eq (ih (t + 1) _ _ (by omega) rfl) ?_ rfl
            simp [isOneN, -Int32.not_lt, -Int32.not_le, *]
          · refine b_ic1 (pc := 25) (dd dtX6_isOneOf 15 rfl) ?_
            refine b_eq (b_zret (dd dtX6_isOneOf 16 rfl) rfl (by first | rfl | exact nar_bi)) ?_ ?_
            · subst h22; simp [bi, isOneN, -Int32.not_lt, -Int32.not_le, h11, h17]
            · rfl
set_option maxHeartbeats 4000000 in
theorem c_X6_isOneOf {I : Wd} {a b : Int32} : Cal SyC mX6_isOneOf 0 [.int a, .int b] I (some (.int (bi (isOneN 6 a b = true)))) I := by
  refine Cal.of (by decide) (Nat.le_of_ble_eq_true rfl) ?_
  show Bd _ _ _ _ [(0, _), (1, _)] _ _ _ _
  refine b_iload_n (pc := 0) (i := 0) (dd dtX6_isOneOf 0 rfl) rfl rfl ?_
  refine b_istore_n (pc := 1) (i := 2) (lv' := [(2, _), (0, _), (1, _)]) (dd dtX6_isOneOf 1 rfl) rfl (Nat.le_of_ble_eq_true rfl) rfl ?_
  refine b_ic0 (pc := 2) (dd dtX6_isOneOf 2 rfl) ?_
  refine b_istore_n (pc := 3) (i := 3) (lv' := [(3, _), (2, _), (0, _), (1, _)]) (dd dtX6_isOneOf 3 rfl) rfl (Nat.le_of_ble_eq_true rfl) rfl ?_
  exact l_X6_isOneOf 6 0 _ _ (by omega) rfl
def vTaken (isOf : Int32 → Int32 → Prop) [∀ a b, Decidable (isOf a b)] (kind cell worth wmon : Nat → Int32) (nk nh nw what i q : Int32) : Int32 := if inR what 0 2 ∧ inR q 0 7 then (if what = 0 then (if inR i 0 (nk - 1) then (if isOf (kind i.toNatClampNeg) q then cell i.toNatClampNeg else -13) else -11) else if what = 1 then (if inR i 0 (nh - 1) then (if q = 6 then worth i.toNatClampNeg else -13) else -11) else (if inR i 0 (nw - 1) then (if q = 7 then wmon i.toNatClampNeg else -13) else -11)) else -2
def tX10_taken : List (Nat × Instr × Nat) := [(0, .iload_n 1, 1), (1, .iconst 0, 1), (2, .iconst 2, 1), (3, .invokestatic 97, 3), (6, .ifCond .eq 13, 3), (9, .iload_n 3, 1), (10, .iconst 0, 1), (11, .bipush 7, 2), (13, .invokestatic 97, 3), (16, .ifCond .ne 6, 3), (19, .bipush (-2), 2), (21, .ireturn, 1), (22, .iload_n 1, 1), (23, .lookupswitch 99 #[(0, 25), (1, 67)], 25), (48, .aload_n 0, 1), (49, .iload_n 2, 1), (50, .invokevirtual 160, 3), (53, .ifCond .ne 6, 3), (56, .bipush (-11), 2), (58, .ireturn, 1), (59, .aload_n 0, 1), (60, .getfield 38, 3), (63, .getfield 175, 3), (66, .iload_n 2, 1), (67, .iaload, 1), (68, .iload_n 3, 1), (69, .invokestatic 368, 3), (72, .ifCond .eq 15, 3), (75, .aload_n 0, 1), (76, .getfield 38, 3), (79, .getfield 182, 3), (82, .iload_n 2, 1), (83, .iaload, 1), (84, .goto 5, 3), (87, .bipush (-13), 2), (89, .ireturn, 1), (90, .aload_n 0, 1), (91, .iload_n 2, 1), (92, .invokevirtual 131, 3), (95, .ifCond .ne 6, 3), (98, .bipush (-11), 2), (100, .ireturn, 1), (101, .iload_n 3, 1), (102, .bipush 6, 2), (104, .if_icmp .ne 15, 3), (107, .aload_n 0, 1), (108, .getfield 10, 3), (111, .getfield 321, 3), (114, .iload_n 2, 1), (115, .iaload, 1), (116, .goto 5, 3), (119, .bipush (-13), 2), (121, .ireturn, 1), (122, .iload_n 2, 1), (123, .iconst 0, 1), (124, .aload_n 0, 1), (125, .getfield 51, 3), (128, .getfield 346, 3), (131, .iconst 1, 1), (132, .isub, 1), (133, .invokestatic 97, 3), (136, .ifCond .ne 6, 3), (139, .bipush (-11), 2), (141, .ireturn, 1), (142, .iload_n 3, 1), (143, .bipush 7, 2), (145, .if_icmp .ne 15, 3), (148, .aload_n 0, 1), (149, .getfield 51, 3), (152, .getfield 372, 3), (155, .iload_n 2, 1), (156, .iaload, 1), (157, .goto 5, 3), (160, .bipush (-13), 2), (162, .ireturn, 1)]
theorem dtX10_taken : dec_ok mX10_taken.2.1 tX10_taken = true := by decide +kernel
set_option maxHeartbeats 4000000 in
theorem c_X10_taken {I : Wd} {K N Wn : Nat} {what i q : Int32} (hK : I 42 0 = nI K) (hK2 : K ≤ 30) (hN : I 1 0 = nI N) (hN2 : N ≤ 14) (hW : I 53 0 = nI Wn) (hW2 : Wn ≤ 30) : Cal SyC mX10_taken 2 [.ref 0, .int what, .int i, .int q] I (some (.int (vTaken (fun a b => isOneN 6 a b = true) (I 43) (I 44) (I 3) (I 56) (I 42 0) (I 1 0) (I 53 0) what i q))) I := by
  refine Cal.of (by decide) (Nat.le_of_ble_eq_true rfl) ?_
  show Bd _ _ _ _ [(0, _), (1, _), (2, _), (3, _)] _ _ _ _
  refine b_iload_n (pc := 0) (i := 1) (dd dtX10_taken 0 rfl) rfl rfl ?_
  refine b_ic0 (pc := 1) (dd dtX10_taken 1 rfl) ?_
  refine b_ic2 (pc := 2) (dd dtX10_taken 2 rfl) ?_
  refine b_invS (pc := 3) (dd dtX10_taken 3 rfl) mlX10_97 mvX10_within msX10_within (c_X10_within) rfl rfl (by decide) (Nat.le_of_ble_eq_true rfl) ?_
  refine b_ifb_eq (pc := 6) (tgt := 19) (dd dtX10_taken 4 rfl) (by decide) (fun h6 => ?_) (fun h6 => ?_)
  · refine b_bipush (pc := 19) (v := -2) (dd dtX10_taken 10 rfl) (by decide) ?_
    refine b_eq (b_iret (dd dtX10_taken 11 rfl) rfl) ?_ ?_
    · (try clear hK); (try clear hN); (try clear hW); simp [inR, vTaken, -Int32.not_lt, -Int32.not_le, *]
    · rfl
  · refine b_iload_n (pc := 9) (i := 3) (dd dtX10_taken 5 rfl) rfl rfl ?_
    refine b_ic0 (pc := 10) (dd dtX10_taken 6 rfl) ?_
    refine b_bipush (pc := 11) (v := 7) (dd dtX10_taken 7 rfl) (by decide) ?_
    refine b_invS (pc := 13) (dd dtX10_taken 8 rfl) mlX10_97 mvX10_within msX10_within (c_X10_within) rfl rfl (by decide) (Nat.le_of_ble_eq_true rfl) ?_
    refine b_ifb_ne (pc := 16) (tgt := 22) (dd dtX10_taken 9 rfl) (by decide) (fun h16 => ?_) (fun h16 => ?_)
    · refine b_iload_n (pc := 22) (i := 1) (dd dtX10_taken 12 rfl) rfl rfl ?_
      refine b_lsw (pc := 23) (ts := [(0, 48), (1, 90)]) (dfl := 122) (dd dtX10_taken 13 rfl) (by decide +kernel) ⟨fun h23 => ?_, fun h23_0 => ⟨fun h23 => ?_, fun h23_1 => ?_⟩⟩
      · refine b_aload_n (pc := 48) (i := 0) (dd dtX10_taken 14 rfl) rfl rfl ?_
        refine b_iload_n (pc := 49) (i := 2) (dd dtX10_taken 15 rfl) rfl rfl ?_
        refine b_invV (pc := 50) (dd dtX10_taken 16 rfl) mlX10_160 mvX10_isSign miX10_isSign (c_X10_isSign) oC_0 rfl rfl (by decide) (Nat.le_of_ble_eq_true rfl) ?_
        refine b_ifb_ne (pc := 53) (tgt := 59) (dd dtX10_taken 17 rfl) (by decide) (fun h53 => ?_) (fun h53 => ?_)
        · refine b_aload_n (pc := 59) (i := 0) (dd dtX10_taken 20 rfl) rfl rfl ?_
          refine b_geta (pc := 60) (dd dtX10_taken 21 rfl) fwX10_38 pC_0 rC_0_5 ?_
          refine b_geta (pc := 63) (dd dtX10_taken 22 rfl) fwX10_175 pC_42 rC_42_1 ?_
          refine b_iload_n (pc := 66) (i := 2) (dd dtX10_taken 23 rfl) rfl rfl ?_
          refine b_iald (pc := 67) (dd dtX10_taken 24 rfl) pC_43 (vpm (by rw [hK] at h53; exact h53) hK2 (by decide)) ?_
          refine b_iload_n (pc := 68) (i := 3) (dd dtX10_taken 25 rfl) rfl rfl ?_
          refine b_invS (pc := 69) (dd dtX10_taken 26 rfl) mlX10_368 mvX6_isOneOf msX6_isOneOf (c_X6_isOneOf) rfl rfl (by decide) (Nat.le_of_ble_eq_true rfl) ?_
          refine b_ifb_eq (pc := 72) (tgt := 87) (dd dtX10_taken 27 rfl) (by decide) (fun h72 => ?_) (fun h72 => ?_)
          · refine b_bipush (pc := 87) (v := -13) (dd dtX10_taken 34 rfl) (by decide) ?_
            refine b_eq (b_iret (dd dtX10_taken 35 rfl) rfl) ?_ ?_
            · (try clear hK); (try clear hN); (try clear hW); simp [inR, vTaken, -Int32.not_lt, -Int32.not_le, *]
            · rfl
          · refine b_aload_n (pc := 75) (i := 0) (dd dtX10_taken 28 rfl) rfl rfl ?_
            refine b_geta (pc := 76) (dd dtX10_taken 29 rfl) fwX10_38 pC_0 rC_0_5 ?_
            refine b_geta (pc := 79) (dd dtX10_taken 30 rfl) fwX10_182 pC_42 rC_42_2 ?_
            refine b_iload_n (pc := 82) (i := 2) (dd dtX10_taken 31 rfl) rfl rfl ?_
            refine b_iald (pc := 83) (dd dtX10_taken 32 rfl) pC_44 (vpm (by rw [hK] at h53; exact h53) hK2 (by decide)) ?_
            refine b_goto (pc := 84) (tgt := 89) (dd dtX10_taken 33 rfl) (by decide) ?_
            refine b_eq (b_iret (dd dtX10_taken 35 rfl) rfl) ?_ ?_
            · (try clear hK); (try clear hN); (try clear hW); simp [inR, vTaken, -Int32.not_lt, -Int32.not_le, *]
            · rfl
        · refine b_bipush (pc := 56) (v := -11) (dd dtX10_taken 18 rfl) (by decide) ?_
          refine b_eq (b_iret (dd dtX10_taken 19 rfl) rfl) ?_ ?_
          · (try clear hK); (try clear hN); (try clear hW); simp [inR, vTaken, -Int32.not_lt, -Int32.not_le, *]
          · rfl
      · refine b_aload_n (pc := 90) (i := 0) (dd dtX10_taken 36 rfl) rfl rfl ?_
        refine b_iload_n (pc := 91) (i := 2) (dd dtX10_taken 37 rfl) rfl rfl ?_
        refine b_invV (pc := 92) (dd dtX10_taken 38 rfl) mlX10_131 mvX10_isHouse miX10_isHouse (c_X10_isHouse) oC_0 rfl rfl (by decide) (Nat.le_of_ble_eq_true rfl) ?_
        refine b_ifb_ne (pc := 95) (tgt := 101) (dd dtX10_taken 39 rfl) (by decide) (fun h95 => ?_) (fun h95 => ?_)
        · refine b_iload_n (pc := 101) (i := 3) (dd dtX10_taken 42 rfl) rfl rfl ?_
          refine b_bipush (pc := 102) (v := 6) (dd dtX10_taken 43 rfl) (by decide) ?_
          refine b_icmp_ne (pc := 104) (tgt := 119) (dd dtX10_taken 44 rfl) (by decide) (fun h104 => ?_) (fun h104 => ?_)
          · refine b_bipush (pc := 119) (v := -13) (dd dtX10_taken 51 rfl) (by decide) ?_
            refine b_eq (b_iret (dd dtX10_taken 52 rfl) rfl) ?_ ?_
            · (try clear hK); (try clear hN); (try clear hW); simp [inR, vTaken, -Int32.not_lt, -Int32.not_le, *]
            · rfl
          · refine b_aload_n (pc := 107) (i := 0) (dd dtX10_taken 45 rfl) rfl rfl ?_
            refine b_geta (pc := 108) (dd dtX10_taken 46 rfl) fwX10_10 pC_0 rC_0_0 ?_
            refine b_geta (pc := 111) (dd dtX10_taken 47 rfl) fwX10_321 pC_1 rC_1_3 ?_
            refine b_iload_n (pc := 114) (i := 2) (dd dtX10_taken 48 rfl) rfl rfl ?_
            refine b_iald (pc := 115) (dd dtX10_taken 49 rfl) pC_3 (vpm (by rw [hN] at h95; exact h95) hN2 (by decide)) ?_
            refine b_goto (pc := 116) (tgt := 121) (dd dtX10_taken 50 rfl) (by decide) ?_
            refine b_eq (b_iret (dd dtX10_taken 52 rfl) rfl) ?_ ?_
            · (try clear hK); (try clear hN); (try clear hW); simp [inR, vTaken, -Int32.not_lt, -Int32.not_le, *]
            · rfl
        · refine b_bipush (pc := 98) (v := -11) (dd dtX10_taken 40 rfl) (by decide) ?_
          refine b_eq (b_iret (dd dtX10_taken 41 rfl) rfl) ?_ ?_
          · (try clear hK); (try clear hN); (try clear hW); simp [inR, vTaken, -Int32.not_lt, -Int32.not_le, *]
          · rfl
      · refine b_iload_n (pc := 122) (i := 2) (dd dtX10_taken 53 rfl) rfl rfl ?_
        refine b_ic0 (pc := 123) (dd dtX10_taken 54 rfl) ?_
        refine b_aload_n (pc := 124) (i := 0) (dd dtX10_taken 55 rfl) rfl rfl ?_
        refine b_geta (pc := 125) (dd dtX10_taken 56 rfl) fwX10_51 pC_0 rC_0_7 ?_
        refine b_geti (pc := 128) (dd dtX10_taken 57 rfl) fwX10_346 pC_53 ?_
        refine b_ic1 (pc := 131) (dd dtX10_taken 58 rfl) ?_
        refine b_isub (pc := 132) (dd dtX10_taken 59 rfl) ?_
        refine b_invS (pc := 133) (dd dtX10_taken 60 rfl) mlX10_97 mvX10_within msX10_within (c_X10_within) rfl rfl (by decide) (Nat.le_of_ble_eq_true rfl) ?_
        refine b_ifb_ne (pc := 136) (tgt := 142) (dd dtX10_taken 61 rfl) (by decide) (fun h136 => ?_) (fun h136 => ?_)
        · refine b_iload_n (pc := 142) (i := 3) (dd dtX10_taken 64 rfl) rfl rfl ?_
          refine b_bipush (pc := 143) (v := 7) (dd dtX10_taken 65 rfl) (by decide) ?_
          refine b_icmp_ne (pc := 145) (tgt := 160) (dd dtX10_taken 66 rfl) (by decide) (fun h145 => ?_) (fun h145 => ?_)
          · refine b_bipush (pc := 160) (v := -13) (dd dtX10_taken 73 rfl) (by decide) ?_
            refine b_eq (b_iret (dd dtX10_taken 74 rfl) rfl) ?_ ?_
            · (try clear hK); (try clear hN); (try clear hW); simp [inR, vTaken, -Int32.not_lt, -Int32.not_le, *]
            · rfl
          · refine b_aload_n (pc := 148) (i := 0) (dd dtX10_taken 67 rfl) rfl rfl ?_
            refine b_geta (pc := 149) (dd dtX10_taken 68 rfl) fwX10_51 pC_0 rC_0_7 ?_
            refine b_geta (pc := 152) (dd dtX10_taken 69 rfl) fwX10_372 pC_53 rC_53_3 ?_
            refine b_iload_n (pc := 155) (i := 2) (dd dtX10_taken 70 rfl) rfl rfl ?_
            refine b_iald (pc := 156) (dd dtX10_taken 71 rfl) pC_56 (vpm (by rw [hW] at h136; exact h136) hW2 (by decide)) ?_
            refine b_goto (pc := 157) (tgt := 162) (dd dtX10_taken 72 rfl) (by decide) ?_
            refine b_eq (b_iret (dd dtX10_taken 74 rfl) rfl) ?_ ?_
            · (try clear hK); (try clear hN); (try clear hW); simp [inR, vTaken, -Int32.not_lt, -Int32.not_le, *]
            · rfl
        · refine b_bipush (pc := 139) (v := -11) (dd dtX10_taken 62 rfl) (by decide) ?_
          refine b_eq (b_iret (dd dtX10_taken 63 rfl) rfl) ?_ ?_
          · (try clear hK); (try clear hN); (try clear hW); simp [inR, vTaken, -Int32.not_lt, -Int32.not_le, *]
          · rfl
    · refine b_bipush (pc := 19) (v := -2) (dd dtX10_taken 10 rfl) (by decide) ?_
      refine b_eq (b_iret (dd dtX10_taken 11 rfl) rfl) ?_ ?_
      · (try clear hK); (try clear hN); (try clear hW); simp [inR, vTaken, -Int32.not_lt, -Int32.not_le, *]
      · rfl
