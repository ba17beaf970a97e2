/-! texts kept and gone through -/
def becT (k : Nat) (I : Wd) : Wd := rset (rset (ist I k 0 (I 74 0)) (k + 1) (fil (I 75) (I (k + 1)) 160)) (k + 2) (fil (I 76) (I (k + 2)) 3)
def tX8_become : List (Nat × Instr × Nat) := [(0, .aload_n 0, 1), (1, .aload_n 1, 1), (2, .getfield 9, 3), (5, .putfield 9, 3), (8, .aload_n 1, 1), (9, .getfield 15, 3), (12, .iconst 0, 1), (13, .aload_n 0, 1), (14, .getfield 15, 3), (17, .iconst 0, 1), (18, .sipush 160, 3), (21, .invokestatic 22, 3), (24, .aload_n 1, 1), (25, .getfield 19, 3), (28, .iconst 0, 1), (29, .aload_n 0, 1), (30, .getfield 19, 3), (33, .iconst 0, 1), (34, .iconst 3, 1), (35, .invokestatic 22, 3), (38, .return_, 1)]
theorem dtX8_become : dec_ok mX8_become.2.1 tX8_become = true := by decide +kernel
set_option maxHeartbeats 4000000 in
theorem c_X8_become {I : Wd} {k : Nat} (hk : isT k) (hk2 : 77 < k) : Cal SyC mX8_become 1 [.ref k, .ref 74] I none (becT k I) := by
  refine Cal.of (by decide) (Nat.le_of_ble_eq_true rfl) ?_
  show Bd _ _ _ _ [(0, _), (1, _)] _ _ _ _
  refine b_aload_n (pc := 0) (i := 0) (dd dtX8_become 0 rfl) rfl rfl ?_
  refine b_aload_n (pc := 1) (i := 1) (dd dtX8_become 1 rfl) rfl rfl ?_
  refine b_geti (pc := 2) (dd dtX8_become 2 rfl) fwX8_9 pC_74 ?_
  refine b_puti (pc := 5) (dd dtX8_become 3 rfl) fwX8_9 (pT_0 hk) ?_
  refine b_aload_n (pc := 8) (i := 1) (dd dtX8_become 4 rfl) rfl rfl ?_
  refine b_geta (pc := 9) (dd dtX8_become 5 rfl) fwX8_15 pC_74 rC_74_1 ?_
  refine b_ic0 (pc := 12) (dd dtX8_become 6 rfl) ?_
  refine b_aload_n (pc := 13) (i := 0) (dd dtX8_become 7 rfl) rfl rfl ?_
  refine b_geta (pc := 14) (dd dtX8_become 8 rfl) fwX8_15 (pT_0 hk) (rT_1 hk) ?_
  refine b_ic0 (pc := 17) (dd dtX8_become 9 rfl) ?_
  refine b_sipush (pc := 18) (v := 160) (dd dtX8_become 10 rfl) (by decide) ?_
  refine b_copyT (pc := 21) (Or.inl ⟨rfl, rfl⟩) (dd dtX8_become 11 rfl) wlX8_22 pC_75 (pT_1 hk) ⟨by decide, by decide, by decide, by decide, by decide, fun _ _ => rfl, Nat.le_of_ble_eq_true rfl⟩ ?_
  refine b_aload_n (pc := 24) (i := 1) (dd dtX8_become 12 rfl) rfl rfl ?_
  refine b_geta (pc := 25) (dd dtX8_become 13 rfl) fwX8_19 pC_74 rC_74_2 ?_
  refine b_ic0 (pc := 28) (dd dtX8_become 14 rfl) ?_
  refine b_aload_n (pc := 29) (i := 0) (dd dtX8_become 15 rfl) rfl rfl ?_
  refine b_geta (pc := 30) (dd dtX8_become 16 rfl) fwX8_19 (pT_0 hk) (rT_2 hk) ?_
  refine b_ic0 (pc := 33) (dd dtX8_become 17 rfl) ?_
  refine b_ic3 (pc := 34) (dd dtX8_become 18 rfl) ?_
  refine b_copyT (pc := 35) (Or.inl ⟨rfl, rfl⟩) (dd dtX8_become 19 rfl) wlX8_22 pC_76 (pT_2 hk) ⟨by decide, by decide, by decide, by decide, by decide, fun _ _ => rfl, Nat.le_of_ble_eq_true rfl⟩ ?_
  refine b_eq (b_vret (dd dtX8_become 20 rfl) rfl) ?_ ?_
  · rfl
  · unfold becT
    simp (disch := omega) only [rset_ne, ist_ne, show (0 : Int32).toNatClampNeg = 0 from rfl, show (160 : Int32).toNatClampNeg = 160 from rfl, show (3 : Int32).toNatClampNeg = 3 from rfl, cpy_fil]
theorem all_k {X : Nat} (h : X < 6) : isT (78 + 3 * X) ∧ vp_in (nI X) 6 ∧ SyC.2 77 (nI X).toNatClampNeg = some (78 + 3 * X) := by
  refine ⟨by unfold isT; omega, vpn rfl h (by decide), ?_⟩
  rcases (show X = 0 ∨ X = 1 ∨ X = 2 ∨ X = 3 ∨ X = 4 ∨ X = 5 by omega) with rfl | rfl | rfl | rfl | rfl | rfl <;> rfl
/-! a fault stays -/
section ER
variable {kd nm : Nat → Int32} {T : Nat}
theorem er_loop {is : Int32 → Option Int32} (h : is 1 = none) {sub : St → St} {n e : Nat} : rLoop kd T is sub n (.error e) = .error e := rLoop_n h
theorem er_one {can : Bool} {one or : St → St} {e : Nat} : rOne kd nm T can one or (.error e) = .error e := by
  unfold rOne
  rw [show sTok kd T (.error e) = 1 from rfl, if_neg (by decide), if_neg (by decide), if_neg (fun q => absurd q.1 (by decide)), if_neg (fun q => absurd q.1 (by decide))]
  rfl
theorem er_term {one : St → St} (h : ∀ e, one (.error e) = .error e) {e : Nat} : rTerm kd T one (.error e) = .error e := by unfold rTerm; rw [h]; exact er_loop rfl
theorem er_sum {one : St → St} (h : ∀ e, one (.error e) = .error e) {e : Nat} : rSum kd T one (.error e) = .error e := by unfold rSum; rw [er_term h]; exact er_loop rfl
theorem er_not {can : Bool} {not sum : St → St} (h : ∀ e, sum (.error e) = .error e) {e : Nat} : rNot kd T can not sum (.error e) = .error e := by
  unfold rNot
  rw [show sTok kd T (.error e) = 1 from rfl, if_neg (fun q => absurd q.1 (by decide)), h]
  rfl
theorem er_and {not : St → St} (h : ∀ e, not (.error e) = .error e) {e : Nat} : rAnd kd T not (.error e) = .error e := by unfold rAnd; rw [h]; exact er_loop rfl
theorem er_or {not : St → St} (h : ∀ e, not (.error e) = .error e) {e : Nat} : rOr kd T not (.error e) = .error e := by unfold rOr; rw [er_and h]; exact er_loop rfl
theorem er_lv (f : Nat) : (∀ e, (rLv kd nm T f).1 (.error e) = .error e) ∧ ∀ e, (rLv kd nm T f).2 (.error e) = .error e := by
  cases f with
  | zero =>
    refine ⟨fun e => (er_one : rOne kd nm T false id id (.error e) = .error e), fun e => ?_⟩
    show rNot kd T false id (rSum kd T (rOne kd nm T false id id)) (.error e) = .error e
    exact er_not (fun e => er_sum (fun e => er_one))
  | succ f =>
    refine ⟨fun e => (er_one : rOne kd nm T true (rLv kd nm T f).1 (rOr kd T (rLv kd nm T f).2) (.error e) = .error e), fun e => ?_⟩
    show rNot kd T true (rLv kd nm T f).2 (rSum kd T (rOne kd nm T true (rLv kd nm T f).1 (rOr kd T (rLv kd nm T f).2))) (.error e) = .error e
    exact er_not (fun e => er_sum (fun e => er_one))
theorem er_exp {k : Int32} (h : ¬ k = 1) {e : Nat} : sExp kd T k (.error e) = .error e := if_neg (fun q => h (Eq.symm q))
theorem er_part {p e : Nat} (hp : p < 3) : rPart kd nm T p (.error e) = .error e := by
  unfold rPart rE
  rw [er_exp (k300 hp).2, er_or (er_lv 5).2]
  exact er_exp (by decide)
theorem sP_ok {p : Nat} (hp : p < 3) {t : Nat} {c : List Int32} (h : sP kd nm T (p + 1) = .ok (t, c)) : ∃ t c, sP kd nm T p = .ok (t, c) := by
  have e : sP kd nm T (p + 1) = rPart kd nm T p (sP kd nm T p) := rfl
  generalize hs : sP kd nm T p = s at e
  cases s with
  | error e1 => rw [e, er_part hp] at h; cases h
  | ok q => exact ⟨q.1, q.2, rfl⟩
end ER
def TxW (I : Wd) (k : Nat) (c : List Int32) (E : Nat → Nat) : Prop := I k 0 = nI c.length ∧ c.length ≤ 160 ∧ (∀ i, i < c.length → I (k + 1) i = c.getD i 0) ∧ ∀ q, q < 3 → I (k + 2) q = nI (E q)
def ParsE (kd nm : Nat → Int32) (T : Nat) (c : List Int32) (E : Nat → Nat) : Prop := ∃ t, sP kd nm T 3 = .ok (t, c) ∧ kdA kd T t = 0 ∧ ∀ q, q < 3 → ∃ t c', sP kd nm T (q + 1) = .ok (t, c') ∧ E q = c'.length
theorem fin_neg {B : Wd} {T : Nat} {s : St} (hB : TB B T) (h : finF B T s < 0) : ∃ t c, s = .ok (t, c) ∧ kdA (B 71) T t = 0 := by
  cases s with
  | error e => exact absurd h (hB.2.2 e)
  | ok q =>
    obtain ⟨t, c⟩ := q
    by_cases e : kdA (B 71) T t = 0
    · exact ⟨t, c, rfl, e⟩
    · exact absurd (show finF B T (.ok (t, c)) < 0 from h) (by show ¬ (if kdA (B 71) T t = 0 then -1 else plA B T t) < 0; rw [if_neg e]; exact hB.2.2 t)
theorem end_tx {B0 I : Wd} {T k : Nat} (h : RdEnd B0 T I) (hk : 77 < k) {t : Nat} {c : List Int32} (hs : sP (B0 71) (B0 72) T 3 = .ok (t, c)) (hz : kdA (B0 71) T t = 0) : ∃ E, ParsE (B0 71) (B0 72) T c E ∧ TxW (becT k I) k c E := by
  obtain ⟨a1, a2, a3, a4⟩ := h.2 t c hs hz
  obtain ⟨t2, c2, h2⟩ := sP_ok (by decide) hs
  obtain ⟨t1, c1, h1⟩ := sP_ok (by decide) h2
  refine ⟨fun q => if q = 0 then c1.length else if q = 1 then c2.length else c.length, ⟨t, hs, hz, fun q hq => ?_⟩, ?_, a2, fun i hi => ?_, fun q hq => ?_⟩
  · rcases (show q = 0 ∨ q = 1 ∨ q = 2 by omega) with rfl | rfl | rfl
    · exact ⟨t1, c1, h1, rfl⟩
    · exact ⟨t2, c2, h2, rfl⟩
    · exact ⟨t, c, hs, rfl⟩
  · unfold becT
    rw [rset_ne (by omega), rset_ne (by omega), ist_eq, upd_eq]; exact a1
  · unfold becT
    rw [rset_ne (by omega), rset_eq, fil_in (by omega)]; exact a3 i hi
  · unfold becT
    rw [rset_eq, fil_in (by omega)]
    rcases (show q = 0 ∨ q = 1 ∨ q = 2 by omega) with rfl | rfl | rfl
    · exact a4 0 hq t1 c1 h1
    · exact a4 1 hq t2 c2 h2
    · exact a4 2 hq t c hs
theorem TB.mk {W b : Wd} {n : Nat} (h0 : W 67 0 = nI n) (hn : n ≤ 160) (h1 : W 67 1 = nI (cnt (b 68) n)) (hT : TokOK (b 68) n (W 71) (W 72) (W 69) (cnt (b 68) n)) : TB W (cnt (b 68) n) := by
  have hc := cnt_le (b := b 68) (i := n)
  refine ⟨h1, by omega, fun t => ?_⟩
  unfold plA
  split
  · next hlt =>
    obtain ⟨j, j1, j2, j3⟩ := cnt_ex n hlt
    rw [← j3, (hT.2 j j1 j2).1]
    exact nI_pos (by omega)
  · rw [h0]; exact nI_pos (by omega)
def tX4_takeTape : List (Nat × Instr × Nat) := [(0, .aload_n 0, 1), (1, .getfield 12, 3), (4, .invokevirtual 64, 3), (7, .aload_n 0, 1), (8, .getfield 30, 3), (11, .invokevirtual 67, 3), (14, .istore_n 1, 1), (15, .aload_n 0, 1), (16, .getfield 12, 3), (19, .iconst 0, 1), (20, .putfield 70, 3), (23, .iload_n 1, 1), (24, .ifCond .ge 41, 3), (27, .aload_n 0, 1), (28, .getfield 18, 3), (31, .bipush 6, 2), (33, .if_icmp .ge 32, 3), (36, .aload_n 0, 1), (37, .getfield 36, 3), (40, .aload_n 0, 1), (41, .getfield 18, 3), (44, .aaload, 1), (45, .aload_n 0, 1), (46, .getfield 30, 3), (49, .getfield 73, 3), (52, .invokevirtual 77, 3), (55, .aload_n 0, 1), (56, .dup, 1), (57, .getfield 18, 3), (60, .iconst 1, 1), (61, .iadd, 1), (62, .putfield 18, 3), (65, .iload_n 1, 1), (66, .ireturn, 1)]
theorem dtX4_takeTape : dec_ok mX4_takeTape.2.1 tX4_takeTape = true := by decide +kernel
set_option maxHeartbeats 4000000 in
theorem q_take {I : Wd} {n X : Nat} (hn : I 67 0 = nI n) (hn2 : n ≤ 160) (hX : I 66 1 = nI X) (hX2 : X < 6) : CalQ SyC mX4_takeTape 61 [.ref 66] I (fun r I' => (∀ a, a ≠ 66 → a ≠ 67 → (a < 69 ∨ 76 < a) → (a < 78 + 3 * X ∨ 80 + 3 * X < a) → I' a = I a) ∧ I' 67 0 = 0 ∧ I' 66 2 = I 66 2 ∧ ∃ B T, T = cnt (I 68) n ∧ TokOK (I 68) n (B 71) (B 72) (B 69) T ∧ TB B T ∧ B 67 0 = nI n ∧ r = some (.int (finF B T (sP (B 71) (B 72) T 3))) ∧ (finF B T (sP (B 71) (B 72) T 3) < 0 → I' 66 1 = nI (X + 1) ∧ ∃ c E, ParsE (B 71) (B 72) T c E ∧ TxW I' (78 + 3 * X) c E) ∧ (¬ finF B T (sP (B 71) (B 72) T 3) < 0 → I' 66 1 = nI X)) := by
  refine CalQ.of (by decide) (Nat.le_of_ble_eq_true rfl) ?_
  show BdQ _ _ _ _ [(0, _)] _ _ _
  refine BdQ.l (fun _ _ k => b_aload_n (pc := 0) (i := 0) (dd dtX4_takeTape 0 rfl) rfl rfl k) ?_
  refine BdQ.l (fun _ _ k => b_geta (pc := 1) (dd dtX4_takeTape 1 rfl) fwX4_12 pC_66 rC_66_0 k) ?_
  obtain ⟨_, I4, ⟨rfl, R4⟩, k4⟩ := q_split hn hn2
  have hB := TB.mk R4.2.1 hn2 R4.2.2.1 R4.2.2.2
  refine BdQ.l (fun _ _ k => b_invV (pc := 4) (dd dtX4_takeTape 2 rfl) mlX4_64 mvX7_split miX7_split (k4) oC_67 rfl rfl (by decide) (Nat.le_of_ble_eq_true rfl) k) ?_
  refine BdQ.l (fun _ _ k => b_aload_n (pc := 7) (i := 0) (dd dtX4_takeTape 3 rfl) rfl rfl k) ?_
  refine BdQ.l (fun _ _ k => b_geta (pc := 8) (dd dtX4_takeTape 4 rfl) fwX4_30 pC_66 rC_66_3 k) ?_
  obtain ⟨_, I11, ⟨rfl, R11⟩, k11⟩ := q_read hB
  refine BdQ.l (fun _ _ k => b_invV (pc := 11) (dd dtX4_takeTape 5 rfl) mlX4_67 mvX3_read miX3_read (k11) oC_73 rfl rfl (by decide) (Nat.le_of_ble_eq_true rfl) k) ?_
  refine BdQ.l (fun _ _ k => b_istore_n (pc := 14) (i := 1) (lv' := [(1, _), (0, _)]) (dd dtX4_takeTape 6 rfl) rfl (Nat.le_of_ble_eq_true rfl) rfl k) ?_
  refine BdQ.l (fun _ _ k => b_aload_n (pc := 15) (i := 0) (dd dtX4_takeTape 7 rfl) rfl rfl k) ?_
  refine BdQ.l (fun _ _ k => b_geta (pc := 16) (dd dtX4_takeTape 8 rfl) fwX4_12 pC_66 rC_66_0 k) ?_
  refine BdQ.l (fun _ _ k => b_ic0 (pc := 19) (dd dtX4_takeTape 9 rfl) k) ?_
  refine BdQ.l (fun _ _ k => b_puti (pc := 20) (dd dtX4_takeTape 10 rfl) fwX4_70 pC_67 k) ?_
  refine BdQ.l (fun _ _ k => b_iload_n (pc := 23) (i := 1) (dd dtX4_takeTape 11 rfl) rfl rfl k) ?_
  refine BdQ.c (fun _ _ k1 k2 => b_ifL_ge (pc := 24) (tgt := 65) (dd dtX4_takeTape 12 rfl) (by decide) k1 k2) (fun h24 => ?_) (fun h24 => ?_)
  · refine BdQ.l (fun _ _ k => b_iload_n (pc := 65) (i := 1) (dd dtX4_takeTape 32 rfl) rfl rfl k) ?_
    refine ⟨_, _, ?_, b_iret (dd dtX4_takeTape 33 rfl) rfl⟩
    first
    | (have h24' := h24
       obtain ⟨t, c, hs, hz⟩ := fin_neg hB (Decidable.not_not.mp h24')
       exact absurd h24' (by assumption))
    | skip
    refine ⟨fun a h1 h2 h3 h4 => ?_, ?_, ?_, I4, _, rfl, R4.2.2.2, hB, R4.2.1, rfl, fun hf => ?_, fun hf => ?_⟩
    · first
      | (rw [ist_ne h1]; unfold becT; rw [rset_ne (by omega), rset_ne (by omega), ist_ne (by omega), ist_ne h2, R11.1 a (by omega) (by omega) (by omega) (by omega)]; exact R4.1 a h2 (by omega) (by omega) (by omega) (by omega))
      | (rw [ist_ne h2, R11.1 a (by omega) (by omega) (by omega) (by omega)]; exact R4.1 a h2 (by omega) (by omega) (by omega) (by omega))
    · first
      | (rw [ist_ne (show (67 : Nat) ≠ 66 by decide)]; unfold becT; rw [rset_ne (by omega), rset_ne (by omega), ist_ne (by omega), ist_eq, upd_eq])
      | rw [ist_eq, upd_eq]
    · first
      | (rw [ist_eq, upd_ne (by decide)]; unfold becT; rw [rset_ne (by omega), rset_ne (by omega), ist_ne (by omega), ist_ne (show (66 : Nat) ≠ 67 by decide), R11.1 66 (by decide) (by decide) (by decide) (by decide), R4.1 66 (by decide) (by decide) (by decide) (by decide) (by decide)])
      | (rw [ist_ne (show (66 : Nat) ≠ 67 by decide), R11.1 66 (by decide) (by decide) (by decide) (by decide), R4.1 66 (by decide) (by decide) (by decide) (by decide) (by decide)])
    · first
      | exact absurd hf h24
      | (refine ⟨by rw [ist_eq, upd_eq, nI_1], ?_⟩
         obtain ⟨t, c, hs, hz⟩ := fin_neg hB hf
         have hR : RdEnd I4 (cnt (I 68) n) (ist I11 67 0 0) → True := fun _ => trivial
         obtain ⟨E, e1, e2⟩ := end_tx R11 (show 77 < 78 + 3 * X by omega) hs hz
         refine ⟨c, E, e1, ?_⟩
         obtain ⟨g1, g2, g3, g4⟩ := e2
         have hh : ∀ a, a ≠ 66 → a ≠ 67 → (ist (becT (78 + 3 * X) (ist I11 67 0 0)) 66 1 (nI X + 1)) a = becT (78 + 3 * X) I11 a := by
           intro a ha ha2
           rw [ist_ne ha]; unfold becT
           by_cases z2 : a = 78 + 3 * X + 2
           · subst z2; rw [rset_eq, rset_eq, ist_ne (show (76 : Nat) ≠ 67 by decide), ist_ne ha2]
           · rw [rset_ne z2, rset_ne z2]
             by_cases z1 : a = 78 + 3 * X + 1
             · subst z1; rw [rset_eq, rset_eq, ist_ne (show (75 : Nat) ≠ 67 by decide), ist_ne ha2]
             · rw [rset_ne z1, rset_ne z1]
               by_cases z0 : a = 78 + 3 * X
               · subst z0; rw [ist_eq, ist_eq, ist_ne (show (74 : Nat) ≠ 67 by decide), ist_ne ha2]
               · rw [ist_ne z0, ist_ne z0, ist_ne ha2]
         refine ⟨?_, g2, fun i hi => ?_, fun q hq => ?_⟩
         · rw [hh _ (by omega) (by omega)]; exact g1
         · rw [hh _ (by omega) (by omega)]; exact g3 i hi
         · rw [hh _ (by omega) (by omega)]; exact g4 q hq)
    · first
      | exact absurd h24 hf
      | rw [ist_ne (show (66 : Nat) ≠ 67 by decide), R11.1 66 (by decide) (by decide) (by decide) (by decide), R4.1 66 (by decide) (by decide) (by decide) (by decide) (by decide), hX]
  · refine BdQ.l (fun _ _ k => b_aload_n (pc := 27) (i := 0) (dd dtX4_takeTape 13 rfl) rfl rfl k) ?_
    refine BdQ.l (fun _ _ k => b_geti (pc := 28) (dd dtX4_takeTape 14 rfl) fwX4_18 pC_66 k) ?_
    rw [ist_ne (show (66 : Nat) ≠ 67 by decide), R11.1 66 (by decide) (by decide) (by decide) (by decide), R4.1 66 (by decide) (by decide) (by decide) (by decide) (by decide), hX]
    refine BdQ.l (fun _ _ k => b_bipush (pc := 31) (v := 6) (dd dtX4_takeTape 15 rfl) (by decide) k) ?_
    refine BdQ.c (fun _ _ k1 k2 => b_icmpL_ge (pc := 33) (tgt := 65) (dd dtX4_takeTape 16 rfl) (by decide) k1 k2) (fun h33 => ?_) (fun h33 => ?_)
    · exact absurd (nI_lt (show X < 6 by omega) (by decide)) h33
    · refine BdQ.l (fun _ _ k => b_aload_n (pc := 36) (i := 0) (dd dtX4_takeTape 17 rfl) rfl rfl k) ?_
      refine BdQ.l (fun _ _ k => b_geta (pc := 37) (dd dtX4_takeTape 18 rfl) fwX4_36 pC_66 rC_66_4 k) ?_
      refine BdQ.l (fun _ _ k => b_aload_n (pc := 40) (i := 0) (dd dtX4_takeTape 19 rfl) rfl rfl k) ?_
      refine BdQ.l (fun _ _ k => b_geti (pc := 41) (dd dtX4_takeTape 20 rfl) fwX4_18 pC_66 k) ?_
      rw [ist_ne (show (66 : Nat) ≠ 67 by decide), R11.1 66 (by decide) (by decide) (by decide) (by decide), R4.1 66 (by decide) (by decide) (by decide) (by decide) (by decide), hX]
      refine BdQ.l (fun _ _ k => b_aald (pc := 44) (q := (78 + 3 * X)) (dd dtX4_takeTape 21 rfl) pC_77 (by decide) ((all_k hX2).2.1) ((all_k hX2).2.2) k) ?_
      refine BdQ.l (fun _ _ k => b_aload_n (pc := 45) (i := 0) (dd dtX4_takeTape 22 rfl) rfl rfl k) ?_
      refine BdQ.l (fun _ _ k => b_geta (pc := 46) (dd dtX4_takeTape 23 rfl) fwX4_30 pC_66 rC_66_3 k) ?_
      refine BdQ.l (fun _ _ k => b_geta (pc := 49) (dd dtX4_takeTape 24 rfl) fwX4_73 pC_73 rC_73_0 k) ?_
      refine BdQ.l (fun _ _ k => b_invV (pc := 52) (dd dtX4_takeTape 25 rfl) mlX4_77 mvX8_become miX8_become (c_X8_become (all_k hX2).1 (by omega)) (oT (all_k hX2).1) rfl rfl (by decide) (Nat.le_of_ble_eq_true rfl) k) ?_
      refine BdQ.l (fun _ _ k => b_aload_n (pc := 55) (i := 0) (dd dtX4_takeTape 26 rfl) rfl rfl k) ?_
      refine BdQ.l (fun _ _ k => b_dup (pc := 56) (dd dtX4_takeTape 27 rfl) rfl k) ?_
      refine BdQ.l (fun _ _ k => b_geti (pc := 57) (dd dtX4_takeTape 28 rfl) fwX4_18 pC_66 k) ?_
      rw [show (becT (78 + 3 * X) (ist I11 67 0 0)) 66 1 = nI X from by unfold becT; rw [rset_ne (by omega), rset_ne (by omega), ist_ne (by omega), ist_ne (show (66 : Nat) ≠ 67 by decide), R11.1 66 (by decide) (by decide) (by decide) (by decide), R4.1 66 (by decide) (by decide) (by decide) (by decide) (by decide), hX]]
      refine BdQ.l (fun _ _ k => b_ic1 (pc := 60) (dd dtX4_takeTape 29 rfl) k) ?_
      refine BdQ.l (fun _ _ k => b_iadd (pc := 61) (dd dtX4_takeTape 30 rfl) k) ?_
      refine BdQ.l (fun _ _ k => b_puti (pc := 62) (dd dtX4_takeTape 31 rfl) fwX4_18 pC_66 k) ?_
      refine BdQ.l (fun _ _ k => b_iload_n (pc := 65) (i := 1) (dd dtX4_takeTape 32 rfl) rfl rfl k) ?_
      refine ⟨_, _, ?_, b_iret (dd dtX4_takeTape 33 rfl) rfl⟩
      first
      | (have h24' := h24
         obtain ⟨t, c, hs, hz⟩ := fin_neg hB (Decidable.not_not.mp h24')
         exact absurd h24' (by assumption))
      | skip
      refine ⟨fun a h1 h2 h3 h4 => ?_, ?_, ?_, I4, _, rfl, R4.2.2.2, hB, R4.2.1, rfl, fun hf => ?_, fun hf => ?_⟩
      · first
        | (rw [ist_ne h1]; unfold becT; rw [rset_ne (by omega), rset_ne (by omega), ist_ne (by omega), ist_ne h2, R11.1 a (by omega) (by omega) (by omega) (by omega)]; exact R4.1 a h2 (by omega) (by omega) (by omega) (by omega))
        | (rw [ist_ne h2, R11.1 a (by omega) (by omega) (by omega) (by omega)]; exact R4.1 a h2 (by omega) (by omega) (by omega) (by omega))
      · first
        | (rw [ist_ne (show (67 : Nat) ≠ 66 by decide)]; unfold becT; rw [rset_ne (by omega), rset_ne (by omega), ist_ne (by omega), ist_eq, upd_eq])
        | rw [ist_eq, upd_eq]
      · first
        | (rw [ist_eq, upd_ne (by decide)]; unfold becT; rw [rset_ne (by omega), rset_ne (by omega), ist_ne (by omega), ist_ne (show (66 : Nat) ≠ 67 by decide), R11.1 66 (by decide) (by decide) (by decide) (by decide), R4.1 66 (by decide) (by decide) (by decide) (by decide) (by decide)])
        | (rw [ist_ne (show (66 : Nat) ≠ 67 by decide), R11.1 66 (by decide) (by decide) (by decide) (by decide), R4.1 66 (by decide) (by decide) (by decide) (by decide) (by decide)])
      · first
        | exact absurd hf h24
        | (refine ⟨by rw [ist_eq, upd_eq, nI_1], ?_⟩
           obtain ⟨t, c, hs, hz⟩ := fin_neg hB hf
           have hR : RdEnd I4 (cnt (I 68) n) (ist I11 67 0 0) → True := fun _ => trivial
           obtain ⟨E, e1, e2⟩ := end_tx R11 (show 77 < 78 + 3 * X by omega) hs hz
           refine ⟨c, E, e1, ?_⟩
           obtain ⟨g1, g2, g3, g4⟩ := e2
           have hh : ∀ a, a ≠ 66 → a ≠ 67 → (ist (becT (78 + 3 * X) (ist I11 67 0 0)) 66 1 (nI X + 1)) a = becT (78 + 3 * X) I11 a := by
             intro a ha ha2
             rw [ist_ne ha]; unfold becT
             by_cases z2 : a = 78 + 3 * X + 2
             · subst z2; rw [rset_eq, rset_eq, ist_ne (show (76 : Nat) ≠ 67 by decide), ist_ne ha2]
             · rw [rset_ne z2, rset_ne z2]
               by_cases z1 : a = 78 + 3 * X + 1
               · subst z1; rw [rset_eq, rset_eq, ist_ne (show (75 : Nat) ≠ 67 by decide), ist_ne ha2]
               · rw [rset_ne z1, rset_ne z1]
                 by_cases z0 : a = 78 + 3 * X
                 · subst z0; rw [ist_eq, ist_eq, ist_ne (show (74 : Nat) ≠ 67 by decide), ist_ne ha2]
                 · rw [ist_ne z0, ist_ne z0, ist_ne ha2]
           refine ⟨?_, g2, fun i hi => ?_, fun q hq => ?_⟩
           · rw [hh _ (by omega) (by omega)]; exact g1
           · rw [hh _ (by omega) (by omega)]; exact g3 i hi
           · rw [hh _ (by omega) (by omega)]; exact g4 q hq)
      · first
        | exact absurd h24 hf
        | rw [ist_ne (show (66 : Nat) ≠ 67 by decide), R11.1 66 (by decide) (by decide) (by decide) (by decide), R4.1 66 (by decide) (by decide) (by decide) (by decide) (by decide), hX]
