/-! settle -/
theorem rank40 : rankF 40 = 0 := by decide
theorem mW_u {w a : Int32} {t : List Int32} (h : isU2 w) : mW w (a :: t) = unW w a :: t := by unfold mW; rw [if_pos h]
theorem mW_b {w a b : Int32} {t : List Int32} (h : ¬ isU2 w) : mW w (b :: a :: t) = jnW w a b :: t := by unfold mW; rw [if_neg h]
theorem WF.pop {w k : Int32} {ws ps : List Int32} {o : Nat} (h : WF (w :: ws) ps o) (hr : ¬ rankF w < k) (hk : 0 < k) : WF ws (mW w ps) (if isU2 w then o - 1 else o) ∧ ((isU2 w ∧ ∃ a t, ps = a :: t ∧ 1 ≤ o) ∨ (¬ isU2 w ∧ ∃ b a t, ps = b :: a :: t)) ∧ (mW w ps).length ≤ ps.length := by
  obtain ⟨h1, h2, h3⟩ := h
  have h40 : ¬ w = 40 := fun q => by subst q; rw [rank40] at hr; exact hr hk
  have hm : ∀ v, v ∈ ws → isW v := fun v hv => h3 v (List.mem_cons_of_mem _ hv)
  have e1 : nb (w :: ws) = (if isU3 w then 0 else 1) + nb ws := rfl
  have e2 : nu (w :: ws) = (if isU3 w then 1 else 0) + nu ws := rfl
  by_cases hu : isU2 w
  · have hu3 : isU3 w := hu.elim (fun q => Or.inr (Or.inl q)) (fun q => Or.inr (Or.inr q))
    rw [if_pos hu3] at e1 e2
    rw [if_pos hu]
    cases ps with
    | nil => exact absurd h1 (by simp)
    | cons a t =>
      rw [mW_u hu]
      have h1' : nb (w :: ws) + 1 ≤ t.length + 1 := h1
      refine ⟨⟨?_, by omega, hm⟩, Or.inl ⟨hu, a, t, rfl, by omega⟩, Nat.le_refl _⟩
      show nb ws + 1 ≤ t.length + 1
      omega
  · have hu3 : ¬ isU3 w := fun q => q.elim h40 hu
    rw [if_neg hu3] at e1 e2
    rw [if_neg hu]
    cases ps with
    | nil => exact absurd h1 (by simp)
    | cons b t =>
      cases t with
      | nil =>
        have h1' : nb (w :: ws) + 1 ≤ 1 := h1
        omega
      | cons a t =>
        rw [mW_b hu]
        have h1' : nb (w :: ws) + 1 ≤ t.length + 1 + 1 := h1
        refine ⟨⟨?_, by omega, hm⟩, Or.inr ⟨hu, b, a, t, rfl⟩, by simp⟩
        show nb ws + 1 ≤ t.length + 1
        omega
theorem ms_pos {k w : Int32} {ws ps : List Int32} {o : Nat} (h : rankF w < k) : msettle k (w :: ws) ps o = (w :: ws, ps, o) := if_pos h
theorem ms_neg {k w : Int32} {ws ps : List Int32} {o : Nat} (h : ¬ rankF w < k) : msettle k (w :: ws) ps o = msettle k ws (mW w ps) (if isU2 w then o - 1 else o) := if_neg h
theorem ms_wf {k : Int32} (hk : 0 < k) : ∀ (ws ps : List Int32) (o : Nat), WF ws ps o → WF (msettle k ws ps o).1 (msettle k ws ps o).2.1 (msettle k ws ps o).2.2 ∧ (msettle k ws ps o).1.length ≤ ws.length ∧ (msettle k ws ps o).2.1.length ≤ ps.length ∧ (msettle k ws ps o).2.2 ≤ o
  | [], ps, o, h => ⟨h, Nat.le_refl _, Nat.le_refl _, Nat.le_refl _⟩
  | w :: ws, ps, o, h => by
    by_cases hr : rankF w < k
    · rw [ms_pos hr]; exact ⟨h, Nat.le_refl _, Nat.le_refl _, Nat.le_refl _⟩
    · rw [ms_neg hr]
      obtain ⟨a1, a2, a3⟩ := h.pop hr hk
      obtain ⟨b1, b2, b3, b4⟩ := ms_wf hk ws (mW w ps) (if isU2 w then o - 1 else o) a1
      refine ⟨b1, ?_, by omega, ?_⟩
      · have : (w :: ws).length = ws.length + 1 := rfl
        omega
      · have hz : (if isU2 w then o - 1 else o) ≤ o := by split <;> omega
        exact Nat.le_trans b4 hz
theorem ms_top {k : Int32} : ∀ (ws ps : List Int32) (o : Nat) {w : Int32} {t : List Int32}, (msettle k ws ps o).1 = w :: t → rankF w < k
  | [], ps, o, w, t, h => by cases h
  | v :: ws, ps, o, w, t, h => by
    by_cases hr : rankF v < k
    · rw [ms_pos hr] at h; cases h; exact hr
    · rw [ms_neg hr] at h; exact ms_top ws _ _ h
def tX11_settle : List (Nat × Instr × Nat) := [(0, .aload_n 0, 1), (1, .getfield 194, 3), (4, .ifCond .le 48, 3), (7, .aload_n 0, 1), (8, .aload_n 0, 1), (9, .getfield 185, 3), (12, .aload_n 0, 1), (13, .getfield 194, 3), (16, .iconst 1, 1), (17, .isub, 1), (18, .iaload, 1), (19, .invokevirtual 350, 3), (22, .iload_n 1, 1), (23, .if_icmp .lt 29, 3), (26, .aload_n 0, 1), (27, .dup, 1), (28, .getfield 194, 3), (31, .iconst 1, 1), (32, .isub, 1), (33, .putfield 194, 3), (36, .aload_n 0, 1), (37, .aload_n 0, 1), (38, .getfield 185, 3), (41, .aload_n 0, 1), (42, .getfield 194, 3), (45, .iaload, 1), (46, .invokevirtual 353, 3), (49, .goto (-49), 3), (52, .return_, 1)]
theorem dtX11_settle : dec_ok mX11_settle.2.1 tX11_settle = true := by decide +kernel
set_option maxHeartbeats 2000000 in
theorem lr_settle {J : Wd} {k : Int32} (hk : 0 < k) : ∀ (ws ps : List Int32) (o : Nat) (W : Wd), WF ws ps o → MR W ws ps o → Fr5 J W → ps.length ≤ 160 → ws.length ≤ 160 → BdQ SyM mX11_settle 1 0 [(0, .ref 0), (1, .int k)] [] W (fun r J' => r = none ∧ Fr5 J J' ∧ MR J' (msettle k ws ps o).1 (msettle k ws ps o).2.1 (msettle k ws ps o).2.2) := by
  intro ws
  induction ws with
  | nil =>
    intro ps o W hW hR hF hp hw
    obtain ⟨r1, r2, r3, r4, r5⟩ := hR
    replace r1 : W 0 59 = 0 := r1
    refine BdQ.l (fun _ _ k => b_aload_n (pc := 0) (i := 0) (dd dtX11_settle 0 rfl) rfl rfl k) ?_
    refine BdQ.l (fun _ _ k => b_geti (pc := 1) (dd dtX11_settle 1 rfl) fwX11_194 pM_0 k) ?_
    rw [r1]
    refine BdQ.c (fun _ _ k1 k2 => b_ifL_le (pc := 4) (tgt := 52) (dd dtX11_settle 2 rfl) (by decide) k1 k2) (fun h4 => ?_) (fun h4 => ?_)
    · refine ⟨_, _, ?_, b_vret (dd dtX11_settle 28 rfl) rfl⟩
      exact ⟨rfl, hF, r1, r2, r3, r4, r5⟩
    · exact absurd h4 (by decide)
  | cons w ws ih =>
    intro ps o W hW hR hF hp hw0
    obtain ⟨r1, r2, r3, r4, r5⟩ := hR
    have hw : ws.length + 1 ≤ 160 := hw0
    replace r1 : W 0 59 = nI (ws.length + 1) := r1
    refine BdQ.l (fun _ _ k => b_aload_n (pc := 0) (i := 0) (dd dtX11_settle 0 rfl) rfl rfl k) ?_
    refine BdQ.l (fun _ _ k => b_geti (pc := 1) (dd dtX11_settle 1 rfl) fwX11_194 pM_0 k) ?_
    rw [r1]
    refine BdQ.c (fun _ _ k1 k2 => b_ifL_le (pc := 4) (tgt := 52) (dd dtX11_settle 2 rfl) (by decide) k1 k2) (fun h4 => ?_) (fun h4 => ?_)
    · exact absurd (nI_lt (a := 0) (show 0 < ws.length + 1 by omega) (by omega)) h4
    · refine BdQ.l (fun _ _ k => b_aload_n (pc := 7) (i := 0) (dd dtX11_settle 3 rfl) rfl rfl k) ?_
      refine BdQ.l (fun _ _ k => b_aload_n (pc := 8) (i := 0) (dd dtX11_settle 4 rfl) rfl rfl k) ?_
      refine BdQ.l (fun _ _ k => b_geta (pc := 9) (dd dtX11_settle 5 rfl) fwX11_185 pM_0 rM_0_56 k) ?_
      refine BdQ.l (fun _ _ k => b_aload_n (pc := 12) (i := 0) (dd dtX11_settle 6 rfl) rfl rfl k) ?_
      refine BdQ.l (fun _ _ k => b_geti (pc := 13) (dd dtX11_settle 7 rfl) fwX11_194 pM_0 k) ?_
      rw [r1]
      refine BdQ.l (fun _ _ k => b_ic1 (pc := 16) (dd dtX11_settle 8 rfl) k) ?_
      refine BdQ.l (fun _ _ k => b_isub (pc := 17) (dd dtX11_settle 9 rfl) k) ?_
      rw [nI_pred]
      refine BdQ.l (fun _ _ k => b_iald (pc := 18) (dd dtX11_settle 10 rfl) pM_36 (vpn rfl (show ws.length < 161 by omega) (by decide)) k) ?_
      rw [nI_clamp (show ws.length < 2 ^ 31 by omega), r2.1]
      refine BdQ.l (fun _ _ k => b_invV (pc := 19) (dd dtX11_settle 11 rfl) mlX11_350 mvX11_rankOf miX11_rankOf (c_X11_rankOf) oM_0 rfl rfl (by decide) (Nat.le_of_ble_eq_true rfl) k) ?_
      refine BdQ.l (fun _ _ k => b_iload_n (pc := 22) (i := 1) (dd dtX11_settle 12 rfl) rfl rfl k) ?_
      refine BdQ.b (fun _ _ k1 k2 => b_icmp_lt (pc := 23) (tgt := 52) (dd dtX11_settle 13 rfl) (by decide) k1 k2) (fun h23 => ?_) (fun h23 => ?_)
      · refine ⟨_, _, ?_, b_vret (dd dtX11_settle 28 rfl) rfl⟩
        rw [ms_pos h23]
        exact ⟨rfl, hF, r1, r2, r3, r4, r5⟩
      · refine BdQ.l (fun _ _ k => b_aload_n (pc := 26) (i := 0) (dd dtX11_settle 14 rfl) rfl rfl k) ?_
        refine BdQ.l (fun _ _ k => b_dup (pc := 27) (dd dtX11_settle 15 rfl) rfl k) ?_
        refine BdQ.l (fun _ _ k => b_geti (pc := 28) (dd dtX11_settle 16 rfl) fwX11_194 pM_0 k) ?_
        rw [r1]
        refine BdQ.l (fun _ _ k => b_ic1 (pc := 31) (dd dtX11_settle 17 rfl) k) ?_
        refine BdQ.l (fun _ _ k => b_isub (pc := 32) (dd dtX11_settle 18 rfl) k) ?_
        rw [nI_pred]
        refine BdQ.l (fun _ _ k => b_puti (pc := 33) (dd dtX11_settle 19 rfl) fwX11_194 pM_0 k) ?_
        refine BdQ.l (fun _ _ k => b_aload_n (pc := 36) (i := 0) (dd dtX11_settle 20 rfl) rfl rfl k) ?_
        refine BdQ.l (fun _ _ k => b_aload_n (pc := 37) (i := 0) (dd dtX11_settle 21 rfl) rfl rfl k) ?_
        refine BdQ.l (fun _ _ k => b_geta (pc := 38) (dd dtX11_settle 22 rfl) fwX11_185 pM_0 rM_0_56 k) ?_
        refine BdQ.l (fun _ _ k => b_aload_n (pc := 41) (i := 0) (dd dtX11_settle 23 rfl) rfl rfl k) ?_
        refine BdQ.l (fun _ _ k => b_geti (pc := 42) (dd dtX11_settle 24 rfl) fwX11_194 pM_0 k) ?_
        rw [ist_eq, upd_eq]
        refine BdQ.l (fun _ _ k => b_iald (pc := 45) (dd dtX11_settle 25 rfl) pM_36 (vpn rfl (show ws.length < 161 by omega) (by decide)) k) ?_
        rw [nI_clamp (show ws.length < 2 ^ 31 by omega), ist_ne (show (36 : Nat) ≠ 0 by decide), r2.1]
        obtain ⟨a1, a2, a3⟩ := hW.pop h23 hk
        have hR2 : MR (ist W 0 59 (nI ws.length)) ws ps o := ⟨by rw [ist_eq, upd_eq], by rw [ist_ne (by decide)]; exact r2.2, by rw [ist_eq, upd_ne (by decide)]; exact r3, by rw [ist_ne (by decide)]; exact r4, by rw [ist_eq, upd_ne (by decide)]; exact r5⟩
        have hwk : CalQ SyM mX11_work 0 [.ref 0, .int w] (ist W 0 59 (nI ws.length)) (fun r J' => r = none ∧ Fr5 (ist W 0 59 (nI ws.length)) J' ∧ MR J' ws (mW w ps) (if isU2 w then o - 1 else o)) := by
          rcases a2 with ⟨hu, a, t, rfl, ho⟩ | ⟨hu, b, a, t, rfl⟩
          · rw [mW_u hu, if_pos hu]
            exact q_work1 hu hR2 ho (by simp at hp; omega)
          · rw [mW_b hu, if_neg hu]
            exact q_work2 hu hR2 (by simp at hp; omega)
        obtain ⟨_, I46, ⟨rfl, F46, R46⟩, k46⟩ := hwk
        refine BdQ.l (fun _ _ k => b_invV (pc := 46) (dd dtX11_settle 26 rfl) mlX11_353 mvX11_work miX11_work (k46) oM_0 rfl rfl (by decide) (Nat.le_of_ble_eq_true rfl) k) ?_
        refine BdQ.l (fun _ _ k => b_goto (pc := 49) (tgt := 0) (dd dtX11_settle 27 rfl) (by decide) k) ?_
        rw [ms_neg h23]
        exact ih _ _ _ a1 R46 ((hF.f (by decide)).t F46) (by omega) (by omega)
theorem q_settle {J : Wd} {k : Int32} (hk : 0 < k) {ws ps : List Int32} {o : Nat} (hW : WF ws ps o) (hR : MR J ws ps o) (hp : ps.length ≤ 160) (hw : ws.length ≤ 160) : CalQ SyM mX11_settle 1 [.ref 0, .int k] J (fun r J' => r = none ∧ Fr5 J J' ∧ MR J' (msettle k ws ps o).1 (msettle k ws ps o).2.1 (msettle k ws ps o).2.2) := by
  refine CalQ.of (by decide) (Nat.le_of_ble_eq_true rfl) ?_
  show BdQ _ _ _ _ [(0, _), (1, _)] _ _ _
  exact lr_settle hk ws ps o J hW hR Fr5.r hp hw
