/-! the rule asked -/
def i0E (E : Nat → Nat) (p : Nat) : Nat := if p = 0 then 0 else E (p - 1)
def sgm (c : List Int32) (E : Nat → Nat) (p : Nat) : List Int32 := (c.drop (i0E E p)).take (E p - i0E E p)
def vT (c : List Int32) (E : Nat → Nat) (f : Nat → Int32) (p : Nat) : Int32 := (ev f (sgm c E p) []).headD 0
def TxOK (c : List Int32) (E : Nat → Nat) : Prop := (∀ f p, p < 3 → ev f (sgm c E p) [] = [vT c E f p]) ∧ ∀ p, p < 3 → i0E E p ≤ E p ∧ E p ≤ c.length
theorem eStep_congr {f g : Nat → Int32} (h : ∀ i, i < 8 → f i = g i) {s : Int32} {stk : List Int32} : eStep f s stk = eStep g s stk := by
  unfold eStep
  by_cases q : s < -8
  · rw [if_neg (not_not_intro q), if_neg (not_not_intro q)]
  · rw [if_pos q, if_pos q]
    by_cases q2 : s < 0
    · rw [if_pos q2, if_pos q2, h _ (vp_lt (nm_in q q2))]
    · rw [if_neg q2, if_neg q2]
theorem ev_congr {f g : Nat → Int32} (h : ∀ i, i < 8 → f i = g i) : ∀ (c stk : List Int32), ev f c stk = ev g c stk
  | [], _ => rfl
  | s :: c, stk => by
    show ev f c (eStep f s stk) = ev g c (eStep g s stk)
    rw [eStep_congr h]; exact ev_congr h c _
theorem vT_congr {f g : Nat → Int32} (h : ∀ i, i < 8 → f i = g i) {c : List Int32} {E : Nat → Nat} {p : Nat} : vT c E f p = vT c E g p := by unfold vT; rw [ev_congr h]
/-- the eight names' worth -/
def fcts (d lo hi rk pp pu fe kn : Int32) (i : Nat) : Int32 := if i = 0 then d else if i = 1 then lo else if i = 2 then hi else if i = 3 then rk else if i = 4 then pp else if i = 5 then pu else if i = 6 then fe else kn
abbrev loC (I : Wd) (K : Nat) (c kn : Int32) : Int32 := sLo (I 43) (I 44) (I 46) (sVal (I 48) (I 47) (I 45) kn) c kn 0 K
abbrev hiC (I : Wd) (K : Nat) (c kn : Int32) : Int32 := sHi (I 43) (I 44) (I 46) (sVal (I 48) (I 47) (I 45) kn) c kn 0 K
def feF (fell : Nat → Int32) (c kn : Int32) : Int32 := if ¬ fell c.toNatClampNeg < 0 ∧ ¬ kn < fell c.toNatClampNeg then 1 else 0
def fctC (I : Wd) (K N P : Nat) (c kn : Int32) : Nat → Int32 := fcts (if hiC I K c kn - loC I K c kn < 0 then 0 else hiC I K c kn - loC I K c kn) (loC I K c kn) (hiC I K c kn) (I 7 c.toNatClampNeg) (sPeople (I 2) (I 14) (I 15) (I 4) c N) (sNr (I 5) (I 13) c P) (feF (I 10) c kn) kn
theorem fctC_eq {I W : Wd} {K N P : Nat} {c kn : Int32} (h : ∀ a, a ≠ 96 → a ≠ 97 → W a = I a) : fctC W K N P c kn = fctC I K N P c kn := by
  unfold fctC loC hiC
  rw [h 43 (by decide) (by decide), h 44 (by decide) (by decide), h 46 (by decide) (by decide), h 48 (by decide) (by decide), h 47 (by decide) (by decide), h 45 (by decide) (by decide), h 7 (by decide) (by decide), h 2 (by decide) (by decide), h 14 (by decide) (by decide), h 15 (by decide) (by decide), h 4 (by decide) (by decide), h 5 (by decide) (by decide), h 13 (by decide) (by decide), h 10 (by decide) (by decide)]
theorem vp_m1 {p : Nat} (h : ¬ nI p = 0) (hp : p < 3) : vp_in (nI p - 1) 3 := by
  have hp0 : ¬ p = 0 := fun q => h (congrArg nI q)
  rw [nI_m1 (by omega)]
  exact vpn rfl (show p - 1 < 3 by omega) (by decide)
theorem c_X2_pumpsNear_6 {I : Wd} {P : Nat} {c : Int32} (hP : I 1 1 = nI P) (hP2 : P ≤ 6) : Cal SyC mX2_pumpsNear 2 [.ref 6, .int c] I (some (.int (sNr (I 5) (I 13) c P))) I := c_X2_pumpsNear (g := 6) (Or.inl rfl) hP hP2
set_option maxHeartbeats 4000000 in
theorem q_value {I : Wd} {R p : Nat} {c : List Int32} {E : Nat → Nat} {v : Int32} (hR : I 66 2 = nI R) (hR2 : R < 6) (hp : p < 3) (hX : TxW I (78 + 3 * R) c E) (hC : TxOK c E) (hv : ev (I 96) (sgm c E p) [] = [v]) : CalQ SyC mX4_value 1 [.ref 66, .int (nI p)] I (fun r I' => r = some (.int v) ∧ ∀ a, a ≠ 97 → I' a = I a) := by
  refine CalQ.of (by decide) (Nat.le_of_ble_eq_true rfl) ?_
  show BdQ _ _ _ _ [(0, _), (1, _)] _ _ _
  refine BdQ.l (fun _ _ k => b_aload_n (pc := 0) (i := 0) (dd dtX4_value 0 rfl) rfl rfl k) ?_
  refine BdQ.l (fun _ _ k => b_geta (pc := 1) (dd dtX4_value 1 rfl) fwX4_36 pC_66 rC_66_4 k) ?_
  refine BdQ.l (fun _ _ k => b_aload_n (pc := 4) (i := 0) (dd dtX4_value 2 rfl) rfl rfl k) ?_
  refine BdQ.l (fun _ _ k => b_geti (pc := 5) (dd dtX4_value 3 rfl) fwX4_22 pC_66 k) ?_
  rw [hR]
  refine BdQ.l (fun _ _ k => b_aald (pc := 8) (q := (78 + 3 * R)) (dd dtX4_value 4 rfl) pC_77 (by decide) ((all_k hR2).2.1) ((all_k hR2).2.2) k) ?_
  refine BdQ.l (fun _ _ k => b_astore_n (pc := 9) (i := 2) (lv' := [(2, _), (0, _), (1, _)]) (dd dtX4_value 5 rfl) rfl (Nat.le_of_ble_eq_true rfl) rfl k) ?_
  refine BdQ.l (fun _ _ k => b_ic0 (pc := 10) (dd dtX4_value 6 rfl) k) ?_
  refine BdQ.l (fun _ _ k => b_istore_n (pc := 11) (i := 3) (lv' := [(3, _), (2, _), (0, _), (1, _)]) (dd dtX4_value 7 rfl) rfl (Nat.le_of_ble_eq_true rfl) rfl k) ?_
  refine BdQ.l (fun _ _ k => b_iload_n (pc := 12) (i := 1) (dd dtX4_value 8 rfl) rfl rfl k) ?_
  refine BdQ.c (fun _ _ k1 k2 => b_if_ne (pc := 13) (tgt := 20) (dd dtX4_value 9 rfl) (by decide) k1 k2) (fun h13 => ?_) (fun h13 => ?_)
  · refine BdQ.l (fun _ _ k => b_aload_n (pc := 20) (i := 2) (dd dtX4_value 12 rfl) rfl rfl k) ?_
    refine BdQ.l (fun _ _ k => b_geta (pc := 21) (dd dtX4_value 13 rfl) fwX4_106 (pT_0 (all_k hR2).1) (rT_2 (all_k hR2).1) k) ?_
    refine BdQ.l (fun _ _ k => b_iload_n (pc := 24) (i := 1) (dd dtX4_value 14 rfl) rfl rfl k) ?_
    refine BdQ.l (fun _ _ k => b_ic1 (pc := 25) (dd dtX4_value 15 rfl) k) ?_
    refine BdQ.l (fun _ _ k => b_isub (pc := 26) (dd dtX4_value 16 rfl) k) ?_
    refine BdQ.l (fun _ _ k => b_iald (pc := 27) (dd dtX4_value 17 rfl) (pT_2 (all_k hR2).1) (vp_m1 h13 hp) k) ?_
    refine BdQ.l (fun _ _ k => b_istore (pc := 28) (i := 4) (lv' := [(4, _), (3, _), (2, _), (0, _), (1, _)]) (dd dtX4_value 18 rfl) (Nat.le_of_ble_eq_true rfl) rfl k) ?_
    first
    | (have hp0 : p = 0 := (nI_eq (b := 0) (by omega) (by decide)).mp h13
       subst hp0
       exact lr_value (all_k hR2).1 (by omega) hp hX (hC.2 0 hp).2 (E 0) 0 _ _ [] _ (by omega) rfl rfl (Nat.le_refl _) (fun _ _ => rfl) trivial hv)
    | (have hp0 : ¬ p = 0 := fun q => h13 (congrArg nI q)
       rw [nI_m1 (by omega), nI_clamp (show p - 1 < 2 ^ 31 by omega), hX.2.2.2 (p - 1) (by omega)]
       have e1 : i0E E p = E (p - 1) := if_neg hp0
       have hc := hC.2 p hp
       rw [e1] at hc
       refine lr_value (all_k hR2).1 (by omega) hp hX hc.2 (E p - E (p - 1)) (E (p - 1)) _ _ [] _ (by omega) rfl rfl (Nat.zero_le _) (fun _ _ => rfl) trivial ?_
       rw [← e1]; exact hv)
  · refine BdQ.l (fun _ _ k => b_ic0 (pc := 16) (dd dtX4_value 10 rfl) k) ?_
    refine BdQ.l (fun _ _ k => b_goto (pc := 17) (tgt := 28) (dd dtX4_value 11 rfl) (by decide) k) ?_
    refine BdQ.l (fun _ _ k => b_istore (pc := 28) (i := 4) (lv' := [(4, _), (3, _), (2, _), (0, _), (1, _)]) (dd dtX4_value 18 rfl) (Nat.le_of_ble_eq_true rfl) rfl k) ?_
    first
    | (have hp0 : p = 0 := (nI_eq (b := 0) (by omega) (by decide)).mp h13
       subst hp0
       exact lr_value (all_k hR2).1 (by omega) hp hX (hC.2 0 hp).2 (E 0) 0 _ _ [] _ (by omega) rfl rfl (Nat.le_refl _) (fun _ _ => rfl) trivial hv)
    | (have hp0 : ¬ p = 0 := fun q => h13 (congrArg nI q)
       rw [nI_m1 (by omega), nI_clamp (show p - 1 < 2 ^ 31 by omega), hX.2.2.2 (p - 1) (by omega)]
       have e1 : i0E E p = E (p - 1) := if_neg hp0
       have hc := hC.2 p hp
       rw [e1] at hc
       refine lr_value (all_k hR2).1 (by omega) hp hX hc.2 (E p - E (p - 1)) (E (p - 1)) _ _ [] _ (by omega) rfl rfl (Nat.zero_le _) (fun _ _ => rfl) trivial ?_
       rw [← e1]; exact hv)
def tX4_tellSpan : List (Nat × Instr × Nat) := [(0, .aload_n 0, 1), (1, .getfield 40, 3), (4, .iconst 0, 1), (5, .iload_n 2, 1), (6, .iload_n 1, 1), (7, .isub, 1), (8, .iconst 0, 1), (9, .invokestatic 81, 3), (12, .iastore, 1), (13, .aload_n 0, 1), (14, .getfield 40, 3), (17, .iconst 1, 1), (18, .iload_n 1, 1), (19, .iastore, 1), (20, .aload_n 0, 1), (21, .getfield 40, 3), (24, .iconst 2, 1), (25, .iload_n 2, 1), (26, .iastore, 1), (27, .return_, 1)]
theorem dtX4_tellSpan : dec_ok mX4_tellSpan.2.1 tX4_tellSpan = true := by decide +kernel
set_option maxHeartbeats 4000000 in
theorem c_X4_tellSpan {I : Wd} {lo hi : Int32} : Cal SyC mX4_tellSpan 1 [.ref 66, .int lo, .int hi] I none (ist (ist (ist I 96 0 (if hi - lo < 0 then 0 else hi - lo)) 96 1 lo) 96 2 hi) := by
  refine Cal.of (by decide) (Nat.le_of_ble_eq_true rfl) ?_
  show Bd _ _ _ _ [(0, _), (1, _), (2, _)] _ _ _ _
  refine b_aload_n (pc := 0) (i := 0) (dd dtX4_tellSpan 0 rfl) rfl rfl ?_
  refine b_geta (pc := 1) (dd dtX4_tellSpan 1 rfl) fwX4_40 pC_66 rC_66_5 ?_
  refine b_ic0 (pc := 4) (dd dtX4_tellSpan 2 rfl) ?_
  refine b_iload_n (pc := 5) (i := 2) (dd dtX4_tellSpan 3 rfl) rfl rfl ?_
  refine b_iload_n (pc := 6) (i := 1) (dd dtX4_tellSpan 4 rfl) rfl rfl ?_
  refine b_isub (pc := 7) (dd dtX4_tellSpan 5 rfl) ?_
  refine b_ic0 (pc := 8) (dd dtX4_tellSpan 6 rfl) ?_
  refine b_mmax (pc := 9) (dd dtX4_tellSpan 7 rfl) wlX4_81 (Nat.le_of_ble_eq_true rfl) ?_
  refine b_iast (pc := 12) (dd dtX4_tellSpan 8 rfl) pC_96 (vpn (h := 0) rfl (by decide) (by decide)) ?_
  refine b_aload_n (pc := 13) (i := 0) (dd dtX4_tellSpan 9 rfl) rfl rfl ?_
  refine b_geta (pc := 14) (dd dtX4_tellSpan 10 rfl) fwX4_40 pC_66 rC_66_5 ?_
  refine b_ic1 (pc := 17) (dd dtX4_tellSpan 11 rfl) ?_
  refine b_iload_n (pc := 18) (i := 1) (dd dtX4_tellSpan 12 rfl) rfl rfl ?_
  refine b_iast (pc := 19) (dd dtX4_tellSpan 13 rfl) pC_96 (vpn (h := 1) rfl (by decide) (by decide)) ?_
  refine b_aload_n (pc := 20) (i := 0) (dd dtX4_tellSpan 14 rfl) rfl rfl ?_
  refine b_geta (pc := 21) (dd dtX4_tellSpan 15 rfl) fwX4_40 pC_66 rC_66_5 ?_
  refine b_ic2 (pc := 24) (dd dtX4_tellSpan 16 rfl) ?_
  refine b_iload_n (pc := 25) (i := 2) (dd dtX4_tellSpan 17 rfl) rfl rfl ?_
  refine b_iast (pc := 26) (dd dtX4_tellSpan 18 rfl) pC_96 (vpn (h := 2) rfl (by decide) (by decide)) ?_
  refine b_eq (b_vret (dd dtX4_tellSpan 19 rfl) rfl) ?_ ?_
  · rfl
  · rfl
theorem pplN {I : Wd} {c : Int32} {N : Nat} {a j : Nat} {v : Int32} (h : a = 96) : sPeople ((ist I a j v) 2) ((ist I a j v) 14) ((ist I a j v) 15) ((ist I a j v) 4) c N = sPeople (I 2) (I 14) (I 15) (I 4) c N := by
  subst h; rw [ist_ne (by decide), ist_ne (by decide), ist_ne (by decide), ist_ne (by decide)]
def tX4_tellGround : List (Nat × Instr × Nat) := [(0, .aload_n 0, 1), (1, .getfield 40, 3), (4, .iconst 3, 1), (5, .aload_n 1, 1), (6, .getfield 87, 3), (9, .iload_n 2, 1), (10, .iaload, 1), (11, .iastore, 1), (12, .aload_n 0, 1), (13, .getfield 40, 3), (16, .iconst 4, 1), (17, .aload_n 1, 1), (18, .iload_n 2, 1), (19, .invokevirtual 92, 3), (22, .iastore, 1), (23, .aload_n 0, 1), (24, .getfield 40, 3), (27, .iconst 5, 1), (28, .aload_n 1, 1), (29, .iload_n 2, 1), (30, .invokevirtual 96, 3), (33, .iastore, 1), (34, .aload_n 0, 1), (35, .getfield 40, 3), (38, .bipush 6, 2), (40, .aload_n 1, 1), (41, .iload_n 2, 1), (42, .invokevirtual 99, 3), (45, .ifCond .eq 17, 3), (48, .aload_n 1, 1), (49, .getfield 103, 3), (52, .iload_n 2, 1), (53, .iaload, 1), (54, .iload_n 3, 1), (55, .if_icmp .gt 7, 3), (58, .iconst 1, 1), (59, .goto 4, 3), (62, .iconst 0, 1), (63, .iastore, 1), (64, .aload_n 0, 1), (65, .getfield 40, 3), (68, .bipush 7, 2), (70, .iload_n 3, 1), (71, .iastore, 1), (72, .return_, 1)]
theorem dtX4_tellGround : dec_ok mX4_tellGround.2.1 tX4_tellGround = true := by decide +kernel
set_option maxHeartbeats 4000000 in
theorem c_X4_tellGround {I : Wd} {N P : Nat} {c kn : Int32} (hc : vp_in c 64) (hN : I 1 0 = nI N) (hN2 : N ≤ 14) (hP : I 1 1 = nI P) (hP2 : P ≤ 6) : Cal SyC mX4_tellGround 3 [.ref 66, .ref 6, .int c, .int kn] I none (ist (ist (ist (ist (ist I 96 3 (I 7 c.toNatClampNeg)) 96 4 (sPeople (I 2) (I 14) (I 15) (I 4) c N)) 96 5 (sNr (I 5) (I 13) c P)) 96 6 (feF (I 10) c kn)) 96 7 kn) := by
  refine Cal.of (by decide) (Nat.le_of_ble_eq_true rfl) ?_
  show Bd _ _ _ _ [(0, _), (1, _), (2, _), (3, _)] _ _ _ _
  refine b_aload_n (pc := 0) (i := 0) (dd dtX4_tellGround 0 rfl) rfl rfl ?_
  refine b_geta (pc := 1) (dd dtX4_tellGround 1 rfl) fwX4_40 pC_66 rC_66_5 ?_
  refine b_ic3 (pc := 4) (dd dtX4_tellGround 2 rfl) ?_
  refine b_aload_n (pc := 5) (i := 1) (dd dtX4_tellGround 3 rfl) rfl rfl ?_
  refine b_geta (pc := 6) (dd dtX4_tellGround 4 rfl) fwX4_87 pC_6 rC_6_5 ?_
  refine b_iload_n (pc := 9) (i := 2) (dd dtX4_tellGround 5 rfl) rfl rfl ?_
  refine b_iald (pc := 10) (dd dtX4_tellGround 6 rfl) pC_7 (hc) ?_
  refine b_iast (pc := 11) (dd dtX4_tellGround 7 rfl) pC_96 (vpn (h := 3) rfl (by decide) (by decide)) ?_
  refine b_aload_n (pc := 12) (i := 0) (dd dtX4_tellGround 8 rfl) rfl rfl ?_
  refine b_geta (pc := 13) (dd dtX4_tellGround 9 rfl) fwX4_40 pC_66 rC_66_5 ?_
  refine b_ic4 (pc := 16) (dd dtX4_tellGround 10 rfl) ?_
  refine b_aload_n (pc := 17) (i := 1) (dd dtX4_tellGround 11 rfl) rfl rfl ?_
  refine b_iload_n (pc := 18) (i := 2) (dd dtX4_tellGround 12 rfl) rfl rfl ?_
  refine b_invV (pc := 19) (dd dtX4_tellGround 13 rfl) mlX4_92 mvX2_peopleAt miX2_peopleAt (c_X2_peopleAt_6 (N := N) (by rw [ist_ne (by decide)]; exact hN) hN2) oC_6 rfl rfl (by decide) (Nat.le_of_ble_eq_true rfl) ?_
  refine b_iast (pc := 22) (dd dtX4_tellGround 14 rfl) pC_96 (vpn (h := 4) rfl (by decide) (by decide)) ?_
  refine b_aload_n (pc := 23) (i := 0) (dd dtX4_tellGround 15 rfl) rfl rfl ?_
  refine b_geta (pc := 24) (dd dtX4_tellGround 16 rfl) fwX4_40 pC_66 rC_66_5 ?_
  refine b_ic5 (pc := 27) (dd dtX4_tellGround 17 rfl) ?_
  refine b_aload_n (pc := 28) (i := 1) (dd dtX4_tellGround 18 rfl) rfl rfl ?_
  refine b_iload_n (pc := 29) (i := 2) (dd dtX4_tellGround 19 rfl) rfl rfl ?_
  refine b_invV (pc := 30) (dd dtX4_tellGround 20 rfl) mlX4_96 mvX2_pumpsNear miX2_pumpsNear (c_X2_pumpsNear_6 (P := P) (by rw [ist_ne (by decide), ist_ne (by decide)]; exact hP) hP2) oC_6 rfl rfl (by decide) (Nat.le_of_ble_eq_true rfl) ?_
  refine b_iast (pc := 33) (dd dtX4_tellGround 21 rfl) pC_96 (vpn (h := 5) rfl (by decide) (by decide)) ?_
  refine b_aload_n (pc := 34) (i := 0) (dd dtX4_tellGround 22 rfl) rfl rfl ?_
  refine b_geta (pc := 35) (dd dtX4_tellGround 23 rfl) fwX4_40 pC_66 rC_66_5 ?_
  refine b_bipush (pc := 38) (v := 6) (dd dtX4_tellGround 24 rfl) (by decide) ?_
  refine b_aload_n (pc := 40) (i := 1) (dd dtX4_tellGround 25 rfl) rfl rfl ?_
  refine b_iload_n (pc := 41) (i := 2) (dd dtX4_tellGround 26 rfl) rfl rfl ?_
  refine b_invV (pc := 42) (dd dtX4_tellGround 27 rfl) mlX4_99 mvX2_hasFallen miX2_hasFallen (c_X2_hasFallen_6 hc) oC_6 rfl rfl (by decide) (Nat.le_of_ble_eq_true rfl) ?_
  refine b_ifn_eq (pc := 45) (tgt := 62) (dd dtX4_tellGround 28 rfl) (by decide) (fun h45 => ?_) (fun h45 => ?_)
  · refine b_ic0 (pc := 62) (dd dtX4_tellGround 37 rfl) ?_
    refine b_iast (pc := 63) (dd dtX4_tellGround 38 rfl) pC_96 (vpn (h := 6) rfl (by decide) (by decide)) ?_
    refine b_aload_n (pc := 64) (i := 0) (dd dtX4_tellGround 39 rfl) rfl rfl ?_
    refine b_geta (pc := 65) (dd dtX4_tellGround 40 rfl) fwX4_40 pC_66 rC_66_5 ?_
    refine b_bipush (pc := 68) (v := 7) (dd dtX4_tellGround 41 rfl) (by decide) ?_
    refine b_iload_n (pc := 70) (i := 3) (dd dtX4_tellGround 42 rfl) rfl rfl ?_
    refine b_iast (pc := 71) (dd dtX4_tellGround 43 rfl) pC_96 (vpn (h := 7) rfl (by decide) (by decide)) ?_
    refine b_eq (b_vret (dd dtX4_tellGround 44 rfl) rfl) ?_ ?_
    · rfl
    · simp (disch := decide) only [ist_ne, show (3 : Int32).toNatClampNeg = 3 from rfl, show (4 : Int32).toNatClampNeg = 4 from rfl, show (5 : Int32).toNatClampNeg = 5 from rfl, show (6 : Int32).toNatClampNeg = 6 from rfl, show (7 : Int32).toNatClampNeg = 7 from rfl] at *
      unfold feF
      first
      | (have hz : ¬ (¬ I 10 c.toNatClampNeg < 0 ∧ ¬ kn < I 10 c.toNatClampNeg) := fun q => q.1 h45
         rw [if_neg hz])
      | (have hz : ¬ (¬ I 10 c.toNatClampNeg < 0 ∧ ¬ kn < I 10 c.toNatClampNeg) := fun q => q.2 h55
         rw [if_neg hz])
      | (have hz : ¬ I 10 c.toNatClampNeg < 0 ∧ ¬ kn < I 10 c.toNatClampNeg := ⟨h45, h55⟩
         rw [if_pos hz])
  · refine b_aload_n (pc := 48) (i := 1) (dd dtX4_tellGround 29 rfl) rfl rfl ?_
    refine b_geta (pc := 49) (dd dtX4_tellGround 30 rfl) fwX4_103 pC_6 rC_6_8 ?_
    refine b_iload_n (pc := 52) (i := 2) (dd dtX4_tellGround 31 rfl) rfl rfl ?_
    refine b_iald (pc := 53) (dd dtX4_tellGround 32 rfl) pC_10 (hc) ?_
    refine b_iload_n (pc := 54) (i := 3) (dd dtX4_tellGround 33 rfl) rfl rfl ?_
    refine b_icmp_gt (pc := 55) (tgt := 62) (dd dtX4_tellGround 34 rfl) (by decide) (fun h55 => ?_) (fun h55 => ?_)
    · refine b_ic0 (pc := 62) (dd dtX4_tellGround 37 rfl) ?_
      refine b_iast (pc := 63) (dd dtX4_tellGround 38 rfl) pC_96 (vpn (h := 6) rfl (by decide) (by decide)) ?_
      refine b_aload_n (pc := 64) (i := 0) (dd dtX4_tellGround 39 rfl) rfl rfl ?_
      refine b_geta (pc := 65) (dd dtX4_tellGround 40 rfl) fwX4_40 pC_66 rC_66_5 ?_
      refine b_bipush (pc := 68) (v := 7) (dd dtX4_tellGround 41 rfl) (by decide) ?_
      refine b_iload_n (pc := 70) (i := 3) (dd dtX4_tellGround 42 rfl) rfl rfl ?_
      refine b_iast (pc := 71) (dd dtX4_tellGround 43 rfl) pC_96 (vpn (h := 7) rfl (by decide) (by decide)) ?_
      refine b_eq (b_vret (dd dtX4_tellGround 44 rfl) rfl) ?_ ?_
      · rfl
      · simp (disch := decide) only [ist_ne, show (3 : Int32).toNatClampNeg = 3 from rfl, show (4 : Int32).toNatClampNeg = 4 from rfl, show (5 : Int32).toNatClampNeg = 5 from rfl, show (6 : Int32).toNatClampNeg = 6 from rfl, show (7 : Int32).toNatClampNeg = 7 from rfl] at *
        unfold feF
        first
        | (have hz : ¬ (¬ I 10 c.toNatClampNeg < 0 ∧ ¬ kn < I 10 c.toNatClampNeg) := fun q => q.1 h45
           rw [if_neg hz])
        | (have hz : ¬ (¬ I 10 c.toNatClampNeg < 0 ∧ ¬ kn < I 10 c.toNatClampNeg) := fun q => q.2 h55
           rw [if_neg hz])
        | (have hz : ¬ I 10 c.toNatClampNeg < 0 ∧ ¬ kn < I 10 c.toNatClampNeg := ⟨h45, h55⟩
           rw [if_pos hz])
    · refine b_ic1 (pc := 58) (dd dtX4_tellGround 35 rfl) ?_
      refine b_goto (pc := 59) (tgt := 63) (dd dtX4_tellGround 36 rfl) (by decide) ?_
      refine b_iast (pc := 63) (dd dtX4_tellGround 38 rfl) pC_96 (vpn (h := 6) rfl (by decide) (by decide)) ?_
      refine b_aload_n (pc := 64) (i := 0) (dd dtX4_tellGround 39 rfl) rfl rfl ?_
      refine b_geta (pc := 65) (dd dtX4_tellGround 40 rfl) fwX4_40 pC_66 rC_66_5 ?_
      refine b_bipush (pc := 68) (v := 7) (dd dtX4_tellGround 41 rfl) (by decide) ?_
      refine b_iload_n (pc := 70) (i := 3) (dd dtX4_tellGround 42 rfl) rfl rfl ?_
      refine b_iast (pc := 71) (dd dtX4_tellGround 43 rfl) pC_96 (vpn (h := 7) rfl (by decide) (by decide)) ?_
      refine b_eq (b_vret (dd dtX4_tellGround 44 rfl) rfl) ?_ ?_
      · rfl
      · simp (disch := decide) only [ist_ne, show (3 : Int32).toNatClampNeg = 3 from rfl, show (4 : Int32).toNatClampNeg = 4 from rfl, show (5 : Int32).toNatClampNeg = 5 from rfl, show (6 : Int32).toNatClampNeg = 6 from rfl, show (7 : Int32).toNatClampNeg = 7 from rfl] at *
        unfold feF
        first
        | (have hz : ¬ (¬ I 10 c.toNatClampNeg < 0 ∧ ¬ kn < I 10 c.toNatClampNeg) := fun q => q.1 h45
           rw [if_neg hz])
        | (have hz : ¬ (¬ I 10 c.toNatClampNeg < 0 ∧ ¬ kn < I 10 c.toNatClampNeg) := fun q => q.2 h55
           rw [if_neg hz])
        | (have hz : ¬ I 10 c.toNatClampNeg < 0 ∧ ¬ kn < I 10 c.toNatClampNeg := ⟨h45, h55⟩
           rw [if_pos hz])
