/-! a whole text is read -/
section RP
variable (kd nm : Nat → Int32) (T : Nat)
def rE (s : St) : St := rOr kd T (rLv kd nm T 5).2 s
def rPart (p : Nat) (s : St) : St := sExp kd T 59 (rE kd nm T (sExp kd T (300 + nI p) s))
def sP : Nat → St
  | 0 => .ok (0, [])
  | p + 1 => rPart kd nm T p (sP p)
end RP
def finF (B : Wd) (T : Nat) : St → Int32
  | .ok (t, _) => if kdA (B 71) T t = 0 then -1 else plA B T t
  | .error e => plA B T e
theorem finF_eq {B B0 : Wd} {T : Nat} {s : St} (h1 : B 71 = B0 71) (h2 : B 67 = B0 67) (h3 : B 69 = B0 69) : finF B T s = finF B0 T s := by
  cases s with
  | error e => unfold finF plA; rw [h2, h3]
  | ok q => unfold finF plA; rw [h1, h2, h3]
def PE (B : Wd) (T p : Nat) : Prop := ∀ q, q < p → ∀ t c, sP (B 71) (B 72) T (q + 1) = .ok (t, c) → B 76 q = nI c.length
set_option maxHeartbeats 4000000 in
theorem c_exp0a {I : Wd} {t T : Nat} (h : I 73 3 = 0) (ht : I 73 2 = nI t) (ht2 : t ≤ 160) (hT : I 67 1 = nI T) (hT2 : T ≤ 160) : Cal SyC mX3_expect 2 [.ref 73, .int 0] I none (ist (ist I 73 2 (nI (t + 1))) 73 3 (if t + 1 < T then I 71 (t + 1) else 0)) := by
  refine Cal.of (by decide) (Nat.le_of_ble_eq_true rfl) ?_
  show Bd _ _ _ _ [(0, _), (1, _)] _ _ _ _
  refine b_aload_n (pc := 0) (i := 0) (dd dtX3_expect 0 rfl) rfl rfl ?_
  refine b_geti (pc := 1) (dd dtX3_expect 1 rfl) fwX3_24 pC_73 ?_
  refine b_iload_n (pc := 4) (i := 1) (dd dtX3_expect 2 rfl) rfl rfl ?_
  refine b_icmp_ne (pc := 5) (tgt := 15) (dd dtX3_expect 3 rfl) (by decide) (fun h5 => ?_) (fun h5 => ?_)
  · exact absurd h h5
  · refine b_aload_n (pc := 8) (i := 0) (dd dtX3_expect 4 rfl) rfl rfl ?_
    refine b_invV (pc := 9) (dd dtX3_expect 5 rfl) mlX3_55 mvX3_advance miX3_advance (c_X3_advance ht ht2 hT hT2) oC_73 rfl rfl (by decide) (Nat.le_of_ble_eq_true rfl) ?_
    refine b_goto (pc := 12) (tgt := 19) (dd dtX3_expect 6 rfl) (by decide) ?_
    exact b_eq (b_vret (dd dtX3_expect 9 rfl) rfl) rfl rfl
set_option maxHeartbeats 4000000 in
theorem c_exp0b {I : Wd} {t T : Nat} (h : ¬ I 73 3 = 0) (hf : I 73 4 = -1) (ht : I 73 2 = nI t) (ht2 : t ≤ 160) (hT : I 67 1 = nI T) (hT2 : T ≤ 160) : Cal SyC mX3_expect 2 [.ref 73, .int 0] I none (ist (ist I 73 4 (if t < T then I 69 t else I 67 0)) 73 3 1) := by
  refine Cal.of (by decide) (Nat.le_of_ble_eq_true rfl) ?_
  show Bd _ _ _ _ [(0, _), (1, _)] _ _ _ _
  refine b_aload_n (pc := 0) (i := 0) (dd dtX3_expect 0 rfl) rfl rfl ?_
  refine b_geti (pc := 1) (dd dtX3_expect 1 rfl) fwX3_24 pC_73 ?_
  refine b_iload_n (pc := 4) (i := 1) (dd dtX3_expect 2 rfl) rfl rfl ?_
  refine b_icmp_ne (pc := 5) (tgt := 15) (dd dtX3_expect 3 rfl) (by decide) (fun h5 => ?_) (fun h5 => ?_)
  · refine b_aload_n (pc := 15) (i := 0) (dd dtX3_expect 7 rfl) rfl rfl ?_
    refine b_invV (pc := 16) (dd dtX3_expect 8 rfl) mlX3_76 mvX3_refuse miX3_refuse (c_X3_refuse1 hf ht ht2 hT hT2) oC_73 rfl rfl (by decide) (Nat.le_of_ble_eq_true rfl) ?_
    exact b_eq (b_vret (dd dtX3_expect 9 rfl) rfl) rfl rfl
  · exact absurd h5 h
set_option maxHeartbeats 4000000 in
theorem c_exp0c {I : Wd} (h : I 73 3 = 1) (hf : ¬ I 73 4 < 0) : Cal SyC mX3_expect 2 [.ref 73, .int 0] I none (ist I 73 3 1) := by
  refine Cal.of (by decide) (Nat.le_of_ble_eq_true rfl) ?_
  show Bd _ _ _ _ [(0, _), (1, _)] _ _ _ _
  refine b_aload_n (pc := 0) (i := 0) (dd dtX3_expect 0 rfl) rfl rfl ?_
  refine b_geti (pc := 1) (dd dtX3_expect 1 rfl) fwX3_24 pC_73 ?_
  refine b_iload_n (pc := 4) (i := 1) (dd dtX3_expect 2 rfl) rfl rfl ?_
  refine b_icmp_ne (pc := 5) (tgt := 15) (dd dtX3_expect 3 rfl) (by decide) (fun h5 => ?_) (fun h5 => ?_)
  · refine b_aload_n (pc := 15) (i := 0) (dd dtX3_expect 7 rfl) rfl rfl ?_
    refine b_invV (pc := 16) (dd dtX3_expect 8 rfl) mlX3_76 mvX3_refuse miX3_refuse (c_X3_refuse2 hf) oC_73 rfl rfl (by decide) (Nat.le_of_ble_eq_true rfl) ?_
    exact b_eq (b_vret (dd dtX3_expect 9 rfl) rfl) rfl rfl
  · exact absurd (h5.symm.trans h) (by decide)
theorem q_end {B I : Wd} {T : Nat} {s : St} (hB : TB B T) (hR : RdW B T I s) : CalQ SyC mX3_expect 2 [.ref 73, .int 0] I (fun r I' => r = none ∧ I' 73 4 = finF B T s ∧ (∀ a, a ≠ 73 → I' a = I a)) := by
  cases s with
  | error e =>
    obtain ⟨f, k3, k4, n, hn, hn2⟩ := hR
    exact ⟨none, _, ⟨rfl, by rw [ist_eq, upd_ne (by decide)]; exact k4, fun a h => by rw [ist_ne h]⟩, c_exp0c k3 (by rw [k4]; exact hB.2.2 e)⟩
  | ok q =>
    obtain ⟨t, c⟩ := q
    obtain ⟨f, k2, k3, k4, hn, hn2, ha, ht⟩ := hR
    have hT2 := hB.2.1
    by_cases e : kdA (B 71) T t = 0
    · refine ⟨none, _, ⟨rfl, ?_, fun a h => ?_⟩, c_exp0a (k3.trans e) k2 (by omega) (hB.at f) hB.2.1⟩
      · rw [ist_eq, upd_ne (by decide), ist_eq, upd_ne (by decide), k4]; exact (if_pos e).symm
      · rw [ist_ne h, ist_ne h]
    · refine ⟨none, _, ⟨rfl, ?_, fun a h => ?_⟩, c_exp0b (fun q => e (k3.symm.trans q)) k4 k2 (by omega) (hB.at f) hB.2.1⟩
      · rw [ist_eq, upd_ne (by decide), ist_eq, upd_eq, f 69 (by decide) (by decide) (by decide), f 67 (by decide) (by decide) (by decide)]; exact (if_neg e).symm
      · rw [ist_ne h, ist_ne h]
theorem TB.ist {B : Wd} {T p : Nat} {v : Int32} (h : TB B T) : TB (ist B 76 p v) T := by
  unfold TB plA
  rw [ist_ne (show (67 : Nat) ≠ 76 by decide), ist_ne (show (69 : Nat) ≠ 76 by decide)]
  exact h
theorem RdW.pe {B I : Wd} {T p : Nat} {v : Int32} {s : St} (h : RdW B T I s) : RdW (ist B 76 p v) T (ist I 76 p v) s := by
  have hf : Fr3 (_root_.Jvm.Pilot.CHollowShireLaw_law_r1057_4f7ee0.ist B 76 p v) (_root_.Jvm.Pilot.CHollowShireLaw_law_r1057_4f7ee0.ist I 76 p v) := by
    intro a h1 h2 h3
    by_cases e : a = 76
    · subst e; rw [ist_eq, ist_eq, h.fr 76 h1 h2 h3]
    · rw [ist_ne e, ist_ne e]; exact h.fr a h1 h2 h3
  cases s with
  | error e =>
    obtain ⟨f, k3, k4, n, hn, hn2⟩ := h
    refine ⟨hf, ?_, ?_, n, ?_, hn2⟩
    · rw [ist_ne (by decide)]; exact k3
    · rw [ist_ne (by decide), k4]; unfold plA; rw [ist_ne (show (67 : Nat) ≠ 76 by decide), ist_ne (show (69 : Nat) ≠ 76 by decide)]
    · rw [ist_ne (by decide)]; exact hn
  | ok q =>
    obtain ⟨t, c⟩ := q
    obtain ⟨f, k2, k3, k4, hn, hn2, ha, ht⟩ := h
    refine ⟨hf, ?_, ?_, ?_, ?_, hn2, fun i hi => ?_, ht⟩
    · rw [ist_ne (by decide)]; exact k2
    · rw [ist_ne (by decide), ist_ne (show (71 : Nat) ≠ 76 by decide)]; exact k3
    · rw [ist_ne (by decide)]; exact k4
    · rw [ist_ne (by decide)]; exact hn
    · rw [ist_ne (by decide)]; exact ha i hi
def RdEnd (B0 : Wd) (T : Nat) (I : Wd) : Prop := (∀ a, a ≠ 73 → a ≠ 74 → a ≠ 75 → a ≠ 76 → I a = B0 a) ∧ ∀ t c, sP (B0 71) (B0 72) T 3 = .ok (t, c) → kdA (B0 71) T t = 0 → I 74 0 = nI c.length ∧ c.length ≤ 160 ∧ (∀ i, i < c.length → I 75 i = c.getD i 0) ∧ ∀ q, q < 3 → ∀ t c, sP (B0 71) (B0 72) T (q + 1) = .ok (t, c) → I 76 q = nI c.length
def tX3_read : List (Nat × Instr × Nat) := [(0, .aload_n 0, 1), (1, .getfield 12, 3), (4, .iconst 0, 1), (5, .putfield 34, 3), (8, .aload_n 0, 1), (9, .iconst (-1), 1), (10, .putfield 27, 3), (13, .aload_n 0, 1), (14, .iconst 0, 1), (15, .putfield 18, 3), (18, .aload_n 0, 1), (19, .aload_n 0, 1), (20, .getfield 30, 3), (23, .iconst 0, 1), (24, .invokevirtual 37, 3), (27, .putfield 24, 3), (30, .iconst 0, 1), (31, .istore_n 1, 1), (32, .iload_n 1, 1), (33, .iconst 3, 1), (34, .if_icmp .ge 45, 3), (37, .aload_n 0, 1), (38, .sipush 300, 3), (41, .iload_n 1, 1), (42, .iadd, 1), (43, .invokevirtual 41, 3), (46, .aload_n 0, 1), (47, .iconst 0, 1), (48, .invokevirtual 45, 3), (51, .aload_n 0, 1), (52, .bipush 59, 2), (54, .invokevirtual 41, 3), (57, .aload_n 0, 1), (58, .getfield 12, 3), (61, .getfield 48, 3), (64, .iload_n 1, 1), (65, .aload_n 0, 1), (66, .getfield 12, 3), (69, .getfield 34, 3), (72, .iastore, 1), (73, .iinc 1 1, 3), (76, .goto (-44), 3), (79, .aload_n 0, 1), (80, .iconst 0, 1), (81, .invokevirtual 41, 3), (84, .aload_n 0, 1), (85, .getfield 27, 3), (88, .ireturn, 1)]
theorem dtX3_read : dec_ok mX3_read.2.1 tX3_read = true := by decide +kernel
theorem k300 {p : Nat} (h : p < 3) : ¬ (300 : Int32) + nI p = 0 ∧ ¬ (300 : Int32) + nI p = 1 := by
  have e : (300 : Int32) + nI p = nI (300 + p) := nI_add 300 p
  rw [e, show (1 : Int32) = nI 1 from rfl]
  exact ⟨nI_ne0 (by omega) (by omega), fun q => by have := (nI_eq (by omega) (by omega)).mp q; omega⟩
set_option maxHeartbeats 4000000 in
theorem lr_read {B0 : Wd} {T : Nat} : ∀ (n p : Nat) (x1 : Int32) (B I : Wd), p + n = 3 → x1 = nI p → (∀ a, a ≠ 76 → B a = B0 a) → TB B T → PE B T p → RdW B T I (sP (B 71) (B 72) T p) → BdQ SyC mX3_read 60 32 [(1, .int x1), (0, .ref 73)] [] I (fun r I' => r = some (.int (finF B0 T (sP (B0 71) (B0 72) T 3))) ∧ RdEnd B0 T I') := by
  intro n
  induction n with
  | zero =>
    intro p x1 B I hj e2 hb hB hP hR
    subst e2
    refine BdQ.l (fun _ _ k => b_iload_n (pc := 32) (i := 1) (dd dtX3_read 18 rfl) rfl rfl k) ?_
    refine BdQ.l (fun _ _ k => b_ic3 (pc := 33) (dd dtX3_read 19 rfl) k) ?_
    refine BdQ.c (fun _ _ k1 k2 => b_icmpL_ge (pc := 34) (tgt := 79) (dd dtX3_read 20 rfl) (by decide) k1 k2) (fun h34 => ?_) (fun h34 => ?_)
    · refine BdQ.l (fun _ _ k => b_aload_n (pc := 79) (i := 0) (dd dtX3_read 42 rfl) rfl rfl k) ?_
      refine BdQ.l (fun _ _ k => b_ic0 (pc := 80) (dd dtX3_read 43 rfl) k) ?_
      obtain ⟨_, I81, ⟨rfl, e81, f81⟩, k81⟩ := q_end hB hR
      refine BdQ.l (fun _ _ k => b_invV (pc := 81) (dd dtX3_read 44 rfl) mlX3_41 mvX3_expect miX3_expect (k81) oC_73 rfl rfl (by omega) (Nat.le_of_ble_eq_true rfl) k) ?_
      refine BdQ.l (fun _ _ k => b_aload_n (pc := 84) (i := 0) (dd dtX3_read 45 rfl) rfl rfl k) ?_
      refine BdQ.l (fun _ _ k => b_geti (pc := 85) (dd dtX3_read 46 rfl) fwX3_27 pC_73 k) ?_
      refine ⟨_, _, ?_, b_iret (dd dtX3_read 47 rfl) rfl⟩
      have hp : p = 3 := by omega
      subst hp
      have e1 := hb 71 (by decide)
      have e2 := hb 72 (by decide)
      have e3 := hb 67 (by decide)
      have e4 := hb 69 (by decide)
      refine ⟨?_, fun a h1 h2 h3 h4 => ?_, fun t c hs hk => ?_⟩
      · rw [e81, e1, e2, finF_eq e1 e3 e4]
      · rw [f81 a h1, hR.fr a h1 h2 h3, hb a h4]
      · rw [e1, e2] at hR
        unfold PE at hP
        rw [e1, e2] at hP
        rw [hs] at hR
        obtain ⟨f, k2, k3, k4, hn, hn2, ha, ht⟩ := hR
        refine ⟨?_, hn2, fun i hi => ?_, fun q hq t c hc => ?_⟩
        · rw [f81 74 (by decide)]; exact hn
        · rw [f81 75 (by decide)]; exact ha i hi
        · rw [f81 76 (by decide), f 76 (by decide) (by decide) (by decide)]; exact hP q hq t c hc
    · exact absurd h34 (by rw [show p = 3 by omega]; decide)
  | succ n ih =>
    intro p x1 B I hj e2 hb hB hP hR
    subst e2
    refine BdQ.l (fun _ _ k => b_iload_n (pc := 32) (i := 1) (dd dtX3_read 18 rfl) rfl rfl k) ?_
    refine BdQ.l (fun _ _ k => b_ic3 (pc := 33) (dd dtX3_read 19 rfl) k) ?_
    refine BdQ.c (fun _ _ k1 k2 => b_icmpL_ge (pc := 34) (tgt := 79) (dd dtX3_read 20 rfl) (by decide) k1 k2) (fun h34 => ?_) (fun h34 => ?_)
    · exact absurd (nI_lt (show p < 3 by omega) (by decide)) h34
    · refine BdQ.l (fun _ _ k => b_aload_n (pc := 37) (i := 0) (dd dtX3_read 21 rfl) rfl rfl k) ?_
      refine BdQ.l (fun _ _ k => b_sipush (pc := 38) (v := 300) (dd dtX3_read 22 rfl) (by decide) k) ?_
      refine BdQ.l (fun _ _ k => b_iload_n (pc := 41) (i := 1) (dd dtX3_read 23 rfl) rfl rfl k) ?_
      refine BdQ.l (fun _ _ k => b_iadd (pc := 42) (dd dtX3_read 24 rfl) k) ?_
      obtain ⟨_, I43, ⟨rfl, R43⟩, k43⟩ := q_exp (k := 300 + nI p) hB (k300 (by omega)).1 (k300 (by omega)).2 hR
      refine BdQ.l (fun _ _ k => b_invV (pc := 43) (dd dtX3_read 25 rfl) mlX3_41 mvX3_expect miX3_expect (k43) oC_73 rfl rfl (by omega) (Nat.le_of_ble_eq_true rfl) k) ?_
      refine BdQ.l (fun _ _ k => b_aload_n (pc := 46) (i := 0) (dd dtX3_read 26 rfl) rfl rfl k) ?_
      refine BdQ.l (fun _ _ k => b_ic0 (pc := 47) (dd dtX3_read 27 rfl) k) ?_
      obtain ⟨_, I48, ⟨rfl, R48⟩, k48⟩ := q_or5 hB _ _ R43
      refine BdQ.l (fun _ _ k => b_invV (pc := 48) (dd dtX3_read 28 rfl) mlX3_45 mvX3_readOr miX3_readOr (k48) oC_73 rfl rfl (by omega) (Nat.le_of_ble_eq_true rfl) k) ?_
      refine BdQ.l (fun _ _ k => b_aload_n (pc := 51) (i := 0) (dd dtX3_read 29 rfl) rfl rfl k) ?_
      refine BdQ.l (fun _ _ k => b_bipush (pc := 52) (v := 59) (dd dtX3_read 30 rfl) (by decide) k) ?_
      obtain ⟨_, I54, ⟨rfl, R54⟩, k54⟩ := q_exp (k := 59) hB (by decide) (by decide) R48
      refine BdQ.l (fun _ _ k => b_invV (pc := 54) (dd dtX3_read 31 rfl) mlX3_41 mvX3_expect miX3_expect (k54) oC_73 rfl rfl (by omega) (Nat.le_of_ble_eq_true rfl) k) ?_
      refine BdQ.l (fun _ _ k => b_aload_n (pc := 57) (i := 0) (dd dtX3_read 32 rfl) rfl rfl k) ?_
      refine BdQ.l (fun _ _ k => b_geta (pc := 58) (dd dtX3_read 33 rfl) fwX3_12 pC_73 rC_73_0 k) ?_
      refine BdQ.l (fun _ _ k => b_geta (pc := 61) (dd dtX3_read 34 rfl) fwX3_48 pC_74 rC_74_2 k) ?_
      refine BdQ.l (fun _ _ k => b_iload_n (pc := 64) (i := 1) (dd dtX3_read 35 rfl) rfl rfl k) ?_
      refine BdQ.l (fun _ _ k => b_aload_n (pc := 65) (i := 0) (dd dtX3_read 36 rfl) rfl rfl k) ?_
      refine BdQ.l (fun _ _ k => b_geta (pc := 66) (dd dtX3_read 37 rfl) fwX3_12 pC_73 rC_73_0 k) ?_
      refine BdQ.l (fun _ _ k => b_geti (pc := 69) (dd dtX3_read 38 rfl) fwX3_34 pC_74 k) ?_
      refine BdQ.l (fun _ _ k => b_iast (pc := 72) (dd dtX3_read 39 rfl) pC_76 (vpn rfl (show p < 3 by omega) (by decide)) k) ?_
      refine BdQ.l (fun _ _ k => b_iinc1 (pc := 73) (i := 1) (lv' := [(1, _), (0, _)]) (dd dtX3_read 40 rfl) rfl (Nat.le_of_ble_eq_true rfl) rfl k) ?_
      refine BdQ.l (fun _ _ k => b_goto (pc := 76) (tgt := 32) (dd dtX3_read 41 rfl) (by decide) k) ?_
      rw [nI_1, nI_clamp (show p < 2 ^ 31 by omega)]
      refine ih (p + 1) _ (ist B 76 p (I54 74 0)) _ (by omega) rfl (fun a h => by rw [ist_ne h]; exact hb a h) hB.ist ?_ ?_
      · intro q hq t c hc
        rw [ist_ne (show (71 : Nat) ≠ 76 by decide), ist_ne (show (72 : Nat) ≠ 76 by decide)] at hc
        rw [ist_eq]
        by_cases e : q = p
        · subst e
          rw [upd_eq]
          have hc2 : sExp (B 71) T 59 (rOr (B 71) T (rLv (B 71) (B 72) T 5).2 (sExp (B 71) T (300 + nI q) (sP (B 71) (B 72) T q))) = .ok (t, c) := hc
          rw [hc2] at R54
          exact R54.2.2.2.2.1
        · rw [upd_ne e]; exact hP q (by omega) t c hc
      · rw [ist_ne (show (71 : Nat) ≠ 76 by decide), ist_ne (show (72 : Nat) ≠ 76 by decide)]
        exact R54.pe
set_option maxHeartbeats 4000000 in
theorem q_read {B : Wd} {T : Nat} (hB : TB B T) : CalQ SyC mX3_read 60 [.ref 73] B (fun r I' => r = some (.int (finF B T (sP (B 71) (B 72) T 3))) ∧ RdEnd B T I') := by
  refine CalQ.of (by decide) (Nat.le_of_ble_eq_true rfl) ?_
  show BdQ _ _ _ _ [(0, _)] _ _ _
  refine BdQ.l (fun _ _ k => b_aload_n (pc := 0) (i := 0) (dd dtX3_read 0 rfl) rfl rfl k) ?_
  refine BdQ.l (fun _ _ k => b_geta (pc := 1) (dd dtX3_read 1 rfl) fwX3_12 pC_73 rC_73_0 k) ?_
  refine BdQ.l (fun _ _ k => b_ic0 (pc := 4) (dd dtX3_read 2 rfl) k) ?_
  refine BdQ.l (fun _ _ k => b_puti (pc := 5) (dd dtX3_read 3 rfl) fwX3_34 pC_74 k) ?_
  refine BdQ.l (fun _ _ k => b_aload_n (pc := 8) (i := 0) (dd dtX3_read 4 rfl) rfl rfl k) ?_
  refine BdQ.l (fun _ _ k => b_icm1 (pc := 9) (dd dtX3_read 5 rfl) k) ?_
  refine BdQ.l (fun _ _ k => b_puti (pc := 10) (dd dtX3_read 6 rfl) fwX3_27 pC_73 k) ?_
  refine BdQ.l (fun _ _ k => b_aload_n (pc := 13) (i := 0) (dd dtX3_read 7 rfl) rfl rfl k) ?_
  refine BdQ.l (fun _ _ k => b_ic0 (pc := 14) (dd dtX3_read 8 rfl) k) ?_
  refine BdQ.l (fun _ _ k => b_puti (pc := 15) (dd dtX3_read 9 rfl) fwX3_18 pC_73 k) ?_
  refine BdQ.l (fun _ _ k => b_aload_n (pc := 18) (i := 0) (dd dtX3_read 10 rfl) rfl rfl k) ?_
  refine BdQ.l (fun _ _ k => b_aload_n (pc := 19) (i := 0) (dd dtX3_read 11 rfl) rfl rfl k) ?_
  refine BdQ.l (fun _ _ k => b_geta (pc := 20) (dd dtX3_read 12 rfl) fwX3_30 pC_73 rC_73_1 k) ?_
  refine BdQ.l (fun _ _ k => b_ic0 (pc := 23) (dd dtX3_read 13 rfl) k) ?_
  refine BdQ.l (fun _ _ k => b_invV (pc := 24) (dd dtX3_read 14 rfl) mlX3_37 mvX7_kindAt miX7_kindAt (c_X7_kindAt (t := 0) (T := T) rfl (by decide) (by rw [ist_ne (by decide), ist_ne (by decide), ist_ne (by decide)]; exact hB.1) hB.2.1) oC_67 rfl rfl (by decide) (Nat.le_of_ble_eq_true rfl) k) ?_
  refine BdQ.l (fun _ _ k => b_puti (pc := 27) (dd dtX3_read 15 rfl) fwX3_24 pC_73 k) ?_
  refine BdQ.l (fun _ _ k => b_ic0 (pc := 30) (dd dtX3_read 16 rfl) k) ?_
  refine BdQ.l (fun _ _ k => b_istore_n (pc := 31) (i := 1) (lv' := [(1, _), (0, _)]) (dd dtX3_read 17 rfl) rfl (Nat.le_of_ble_eq_true rfl) rfl k) ?_
  refine lr_read 3 0 _ B _ (by omega) rfl (fun _ _ => rfl) hB (fun q hq => absurd hq (by omega)) ?_
  have e71 : ∀ W : Wd, W = ist (ist (ist B 74 0 0) 73 4 (-1)) 73 2 0 → W 71 0 = B 71 0 := by
    intro W e; subst e; rw [ist_ne (by decide), ist_ne (by decide), ist_ne (by decide)]
  refine ⟨fun a h1 h2 h3 => ?_, ?_, ?_, ?_, ?_, by decide, fun i hi => absurd hi (Nat.not_lt_zero _), Nat.zero_le _⟩
  · rw [ist_ne h1, ist_ne h1, ist_ne h1, ist_ne h2]
  · rw [ist_eq, upd_ne (by decide), ist_eq, upd_eq]; rfl
  · rw [ist_eq, upd_eq, e71 _ rfl]; rfl
  · rw [ist_eq, upd_ne (by decide), ist_eq, upd_ne (by decide), ist_eq, upd_eq]
  · rw [ist_ne (by decide), ist_ne (by decide), ist_ne (by decide), ist_eq, upd_eq]; rfl
