/-! the reader -/
def tX3_advance : List (Nat × Instr × Nat) := [(0, .aload_n 0, 1), (1, .dup, 1), (2, .getfield 18, 3), (5, .iconst 1, 1), (6, .iadd, 1), (7, .putfield 18, 3), (10, .aload_n 0, 1), (11, .aload_n 0, 1), (12, .getfield 30, 3), (15, .aload_n 0, 1), (16, .getfield 18, 3), (19, .invokevirtual 37, 3), (22, .putfield 24, 3), (25, .return_, 1)]
theorem dtX3_advance : dec_ok mX3_advance.2.1 tX3_advance = true := by decide +kernel
set_option maxHeartbeats 4000000 in
theorem c_X3_advance {I : Wd} {t T : Nat} (ht : I 73 2 = nI t) (ht2 : t ≤ 160) (hT : I 67 1 = nI T) (hT2 : T ≤ 160) : Cal SyC mX3_advance 1 [.ref 73] I none (ist (ist I 73 2 (nI (t + 1))) 73 3 (if t + 1 < T then I 71 (t + 1) else 0)) := by
  refine Cal.of (by decide) (Nat.le_of_ble_eq_true rfl) ?_
  show Bd _ _ _ _ [(0, _)] _ _ _ _
  refine b_aload_n (pc := 0) (i := 0) (dd dtX3_advance 0 rfl) rfl rfl ?_
  refine b_dup (pc := 1) (dd dtX3_advance 1 rfl) rfl ?_
  refine b_geti (pc := 2) (dd dtX3_advance 2 rfl) fwX3_18 pC_73 ?_
  refine b_ic1 (pc := 5) (dd dtX3_advance 3 rfl) ?_
  refine b_iadd (pc := 6) (dd dtX3_advance 4 rfl) ?_
  refine b_puti (pc := 7) (dd dtX3_advance 5 rfl) fwX3_18 pC_73 ?_
  refine b_aload_n (pc := 10) (i := 0) (dd dtX3_advance 6 rfl) rfl rfl ?_
  refine b_aload_n (pc := 11) (i := 0) (dd dtX3_advance 7 rfl) rfl rfl ?_
  refine b_geta (pc := 12) (dd dtX3_advance 8 rfl) fwX3_30 pC_73 rC_73_1 ?_
  refine b_aload_n (pc := 15) (i := 0) (dd dtX3_advance 9 rfl) rfl rfl ?_
  refine b_geti (pc := 16) (dd dtX3_advance 10 rfl) fwX3_18 pC_73 ?_
  refine b_invV (pc := 19) (dd dtX3_advance 11 rfl) mlX3_37 mvX7_kindAt miX7_kindAt (c_X7_kindAt (t := t + 1) (T := T) (by rw [ist_eq, upd_eq, ht, nI_1]) (by omega) (by rw [ist_ne (by decide)]; exact hT) hT2) oC_67 rfl rfl (by decide) (Nat.le_of_ble_eq_true rfl) ?_
  refine b_puti (pc := 22) (dd dtX3_advance 12 rfl) fwX3_24 pC_73 ?_
  refine b_eq (b_vret (dd dtX3_advance 13 rfl) rfl) ?_ ?_
  · rfl
  · rw [ht, nI_1, ist_ne (show (71 : Nat) ≠ 73 by decide)]
def tX3_refuse : List (Nat × Instr × Nat) := [(0, .aload_n 0, 1), (1, .getfield 27, 3), (4, .ifCond .ge 18, 3), (7, .aload_n 0, 1), (8, .aload_n 0, 1), (9, .getfield 30, 3), (12, .aload_n 0, 1), (13, .getfield 18, 3), (16, .invokevirtual 79, 3), (19, .putfield 27, 3), (22, .aload_n 0, 1), (23, .iconst 1, 1), (24, .putfield 24, 3), (27, .return_, 1)]
theorem dtX3_refuse : dec_ok mX3_refuse.2.1 tX3_refuse = true := by decide +kernel
set_option maxHeartbeats 4000000 in
theorem c_X3_refuse1 {I : Wd} {t T : Nat} (hf : I 73 4 = -1) (ht : I 73 2 = nI t) (ht2 : t ≤ 160) (hT : I 67 1 = nI T) (hT2 : T ≤ 160) : Cal SyC mX3_refuse 1 [.ref 73] I none (ist (ist I 73 4 (if t < T then I 69 t else I 67 0)) 73 3 1) := by
  refine Cal.of (by decide) (Nat.le_of_ble_eq_true rfl) ?_
  show Bd _ _ _ _ [(0, _)] _ _ _ _
  refine b_aload_n (pc := 0) (i := 0) (dd dtX3_refuse 0 rfl) rfl rfl ?_
  refine b_geti (pc := 1) (dd dtX3_refuse 1 rfl) fwX3_27 pC_73 ?_
  refine b_ifL_ge (pc := 4) (tgt := 22) (dd dtX3_refuse 2 rfl) (by decide) (fun h4 => ?_) (fun h4 => ?_)
  · exact absurd (by rw [hf]; decide) h4
  · refine b_aload_n (pc := 7) (i := 0) (dd dtX3_refuse 3 rfl) rfl rfl ?_
    refine b_aload_n (pc := 8) (i := 0) (dd dtX3_refuse 4 rfl) rfl rfl ?_
    refine b_geta (pc := 9) (dd dtX3_refuse 5 rfl) fwX3_30 pC_73 rC_73_1 ?_
    refine b_aload_n (pc := 12) (i := 0) (dd dtX3_refuse 6 rfl) rfl rfl ?_
    refine b_geti (pc := 13) (dd dtX3_refuse 7 rfl) fwX3_18 pC_73 ?_
    refine b_invV (pc := 16) (dd dtX3_refuse 8 rfl) mlX3_79 mvX7_placeAt miX7_placeAt (c_X7_placeAt (t := t) (T := T) ht (by omega) hT hT2) oC_67 rfl rfl (by decide) (Nat.le_of_ble_eq_true rfl) ?_
    refine b_puti (pc := 19) (dd dtX3_refuse 9 rfl) fwX3_27 pC_73 ?_
    refine b_aload_n (pc := 22) (i := 0) (dd dtX3_refuse 10 rfl) rfl rfl ?_
    refine b_ic1 (pc := 23) (dd dtX3_refuse 11 rfl) ?_
    refine b_puti (pc := 24) (dd dtX3_refuse 12 rfl) fwX3_24 pC_73 ?_
    exact b_eq (b_vret (dd dtX3_refuse 13 rfl) rfl) rfl rfl
set_option maxHeartbeats 4000000 in
theorem c_X3_refuse2 {I : Wd} (hf : ¬ I 73 4 < 0) : Cal SyC mX3_refuse 1 [.ref 73] I none (ist I 73 3 1) := by
  refine Cal.of (by decide) (Nat.le_of_ble_eq_true rfl) ?_
  show Bd _ _ _ _ [(0, _)] _ _ _ _
  refine b_aload_n (pc := 0) (i := 0) (dd dtX3_refuse 0 rfl) rfl rfl ?_
  refine b_geti (pc := 1) (dd dtX3_refuse 1 rfl) fwX3_27 pC_73 ?_
  refine b_ifL_ge (pc := 4) (tgt := 22) (dd dtX3_refuse 2 rfl) (by decide) (fun h4 => ?_) (fun h4 => ?_)
  · refine b_aload_n (pc := 22) (i := 0) (dd dtX3_refuse 10 rfl) rfl rfl ?_
    refine b_ic1 (pc := 23) (dd dtX3_refuse 11 rfl) ?_
    refine b_puti (pc := 24) (dd dtX3_refuse 12 rfl) fwX3_24 pC_73 ?_
    exact b_eq (b_vret (dd dtX3_refuse 13 rfl) rfl) rfl rfl
  · exact absurd h4 hf
theorem TB.at {B I : Wd} {T : Nat} (hB : TB B T) (h : Fr3 B I) : I 67 1 = nI T := by rw [h 67 (by decide) (by decide) (by decide)]; exact hB.1
theorem q_add {B I : Wd} {T : Nat} {s : St} {v : Int32} (hR : RdW B T I s) : CalQ SyC mX8_add 0 [.ref 74, .int v] I (fun r I' => r = none ∧ RdW B T I' (sAdd v s)) := by
  cases s with
  | error e =>
    obtain ⟨f, k3, k4, n, hn, hn2⟩ := hR
    refine ⟨none, _, ⟨rfl, ?_⟩, c_X8_add hn hn2⟩
    split
    · refine ⟨fun a h1 h2 h3 => ?_, ?_, ?_, n + 1, ?_, by omega⟩
      · rw [ist_ne h2, ist_ne h3]; exact f a h1 h2 h3
      · rw [ist_ne (by decide), ist_ne (by decide)]; exact k3
      · rw [ist_ne (by decide), ist_ne (by decide)]; exact k4
      · rw [ist_eq, upd_eq]
    · exact ⟨f, k3, k4, n, hn, hn2⟩
  | ok q =>
    obtain ⟨t, c⟩ := q
    obtain ⟨f, k2, k3, k4, hn, hn2, ha, ht⟩ := hR
    refine ⟨none, _, ⟨rfl, ?_⟩, c_X8_add hn hn2⟩
    show RdW B T _ (.ok (t, if c.length < 160 then c ++ [v] else c))
    split
    · refine ⟨fun a h1 h2 h3 => ?_, ?_, ?_, ?_, ?_, ?_, fun i hi => ?_, ht⟩
      · rw [ist_ne h2, ist_ne h3]; exact f a h1 h2 h3
      · rw [ist_ne (by decide), ist_ne (by decide)]; exact k2
      · rw [ist_ne (by decide), ist_ne (by decide)]; exact k3
      · rw [ist_ne (by decide), ist_ne (by decide)]; exact k4
      · rw [ist_eq, upd_eq, List.length_append]; rfl
      · rw [List.length_append]; simp; omega
      · rw [ist_ne (by decide), ist_eq]
        rw [List.length_append] at hi
        simp at hi
        by_cases e : i = c.length
        · subst e; rw [upd_eq]; simp [List.getD]
        · rw [upd_ne e, ha i (by omega)]
          simp only [List.getD]
          rw [List.getElem?_append_left (by omega)]
    · exact ⟨f, k2, k3, k4, hn, hn2, ha, ht⟩
theorem q_adv {B I : Wd} {T : Nat} {s : St} (hB : TB B T) (hR : RdW B T I s) (h0 : ¬ sTok (B 71) T s = 0) (h1 : ¬ sTok (B 71) T s = 1) : CalQ SyC mX3_advance 1 [.ref 73] I (fun r I' => r = none ∧ RdW B T I' (sAdv s)) := by
  cases s with
  | error e => exact absurd rfl h1
  | ok q =>
    obtain ⟨t, c⟩ := q
    obtain ⟨f, k2, k3, k4, hn, hn2, ha, ht⟩ := hR
    have hlt := kdA_lt h0
    refine ⟨none, _, ⟨rfl, ?_⟩, c_X3_advance k2 (by have := hB.2.1; omega) (hB.at f) hB.2.1⟩
    refine ⟨fun a h1 h2 h3 => ?_, ?_, ?_, ?_, ?_, hn2, fun i hi => ?_, hlt⟩
    · rw [ist_ne h1, ist_ne h1]; exact f a h1 h2 h3
    · rw [ist_eq, upd_ne (by decide), ist_eq, upd_eq]
    · rw [ist_eq, upd_eq, f 71 (by decide) (by decide) (by decide)]; rfl
    · rw [ist_eq, upd_ne (by decide), ist_eq, upd_ne (by decide)]; exact k4
    · rw [ist_ne (by decide), ist_ne (by decide)]; exact hn
    · rw [ist_ne (by decide), ist_ne (by decide)]; exact ha i hi
theorem q_ref {B I : Wd} {T : Nat} {s : St} (hB : TB B T) (hR : RdW B T I s) : CalQ SyC mX3_refuse 1 [.ref 73] I (fun r I' => r = none ∧ RdW B T I' (sRef s)) := by
  cases s with
  | error e =>
    obtain ⟨f, k3, k4, n, hn, hn2⟩ := hR
    refine ⟨none, _, ⟨rfl, ?_⟩, c_X3_refuse2 (by rw [k4]; exact hB.2.2 e)⟩
    refine ⟨fun a h1 h2 h3 => ?_, ?_, ?_, n, ?_, hn2⟩
    · rw [ist_ne h1]; exact f a h1 h2 h3
    · rw [ist_eq, upd_eq]
    · rw [ist_eq, upd_ne (by decide)]; exact k4
    · rw [ist_ne (by decide)]; exact hn
  | ok q =>
    obtain ⟨t, c⟩ := q
    obtain ⟨f, k2, k3, k4, hn, hn2, ha, ht⟩ := hR
    refine ⟨none, _, ⟨rfl, ?_⟩, c_X3_refuse1 k4 k2 (by have := hB.2.1; omega) (hB.at f) hB.2.1⟩
    refine ⟨fun a h1 h2 h3 => ?_, ?_, ?_, c.length, ?_, hn2⟩
    · rw [ist_ne h1, ist_ne h1]; exact f a h1 h2 h3
    · rw [ist_eq, upd_eq]
    · rw [ist_eq, upd_ne (by decide), ist_eq, upd_eq, f 69 (by decide) (by decide) (by decide), f 67 (by decide) (by decide) (by decide)]; rfl
    · rw [ist_ne (by decide), ist_ne (by decide)]; exact hn
def tX3_expect : List (Nat × Instr × Nat) := [(0, .aload_n 0, 1), (1, .getfield 24, 3), (4, .iload_n 1, 1), (5, .if_icmp .ne 10, 3), (8, .aload_n 0, 1), (9, .invokevirtual 55, 3), (12, .goto 7, 3), (15, .aload_n 0, 1), (16, .invokevirtual 76, 3), (19, .return_, 1)]
theorem dtX3_expect : dec_ok mX3_expect.2.1 tX3_expect = true := by decide +kernel
set_option maxHeartbeats 4000000 in
theorem q_exp {B I : Wd} {T : Nat} {s : St} {k : Int32} (hB : TB B T) (hk0 : ¬ k = 0) (hk1 : ¬ k = 1) (hR : RdW B T I s) : CalQ SyC mX3_expect 2 [.ref 73, .int k] I (fun r I' => r = none ∧ RdW B T I' (sExp (B 71) T k s)) := by
  refine CalQ.of (by decide) (Nat.le_of_ble_eq_true rfl) ?_
  show BdQ _ _ _ _ [(0, _), (1, _)] _ _ _
  have tk := hR.tok
  refine BdQ.l (fun _ _ k => b_aload_n (pc := 0) (i := 0) (dd dtX3_expect 0 rfl) rfl rfl k) ?_
  refine BdQ.l (fun _ _ k => b_geti (pc := 1) (dd dtX3_expect 1 rfl) fwX3_24 pC_73 k) ?_
  refine BdQ.l (fun _ _ k => b_iload_n (pc := 4) (i := 1) (dd dtX3_expect 2 rfl) rfl rfl k) ?_
  refine BdQ.c (fun _ _ k1 k2 => b_icmp_ne (pc := 5) (tgt := 15) (dd dtX3_expect 3 rfl) (by decide) k1 k2) (fun h5 => ?_) (fun h5 => ?_)
  · refine BdQ.l (fun _ _ k => b_aload_n (pc := 15) (i := 0) (dd dtX3_expect 7 rfl) rfl rfl k) ?_
    obtain ⟨_, I16, ⟨rfl, R16⟩, k16⟩ := q_ref hB hR
    refine BdQ.l (fun _ _ k => b_invV (pc := 16) (dd dtX3_expect 8 rfl) mlX3_76 mvX3_refuse miX3_refuse (k16) oC_73 rfl rfl (by decide) (Nat.le_of_ble_eq_true rfl) k) ?_
    refine ⟨_, _, ?_, b_vret (dd dtX3_expect 9 rfl) rfl⟩
    refine ⟨rfl, ?_⟩
    unfold sExp
    first
    | (rw [if_pos (tk.symm.trans h5)]; exact R9)
    | (rw [if_neg (fun q => h5 (tk.trans q))]; exact R16)
  · refine BdQ.l (fun _ _ k => b_aload_n (pc := 8) (i := 0) (dd dtX3_expect 4 rfl) rfl rfl k) ?_
    obtain ⟨_, I9, ⟨rfl, R9⟩, k9⟩ := q_adv hB hR (by rw [← tk, h5]; exact hk0) (by rw [← tk, h5]; exact hk1)
    refine BdQ.l (fun _ _ k => b_invV (pc := 9) (dd dtX3_expect 5 rfl) mlX3_55 mvX3_advance miX3_advance (k9) oC_73 rfl rfl (by decide) (Nat.le_of_ble_eq_true rfl) k) ?_
    refine BdQ.l (fun _ _ k => b_goto (pc := 12) (tgt := 19) (dd dtX3_expect 6 rfl) (by decide) k) ?_
    refine ⟨_, _, ?_, b_vret (dd dtX3_expect 9 rfl) rfl⟩
    refine ⟨rfl, ?_⟩
    unfold sExp
    first
    | (rw [if_pos (tk.symm.trans h5)]; exact R9)
    | (rw [if_neg (fun q => h5 (tk.trans q))]; exact R16)
