/-! opens, push, joins -/
def Fr6 (J0 J : Wd) : Prop := (∀ a, a ≠ 0 → a ≠ 36 → a ≠ 37 → J a = J0 a) ∧ ∀ j, (j < 52 ∨ 61 < j) → J 0 j = J0 0 j
theorem Fr6.f {J W : Wd} (h : Fr6 J W) {j : Nat} {v : Int32} (hj : 52 ≤ j ∧ j ≤ 61) : Fr6 J (ist W 0 j v) := by
  refine ⟨fun a a1 a2 a3 => by rw [ist_ne a1]; exact h.1 a a1 a2 a3, fun i hi => ?_⟩
  rw [ist_eq, upd_ne (by omega)]
  exact h.2 i hi
theorem Fr6.s {J W : Wd} (h : Fr6 J W) {k j : Nat} {v : Int32} (hk : k = 36 ∨ k = 37) : Fr6 J (ist W k j v) := by
  refine ⟨fun a a1 a2 a3 => by rw [ist_ne (by omega)]; exact h.1 a a1 a2 a3, fun i hi => ?_⟩
  rw [ist_ne (by omega)]
  exact h.2 i hi
theorem Fr6.t4 {J K L : Wd} (h : Fr6 J K) (h2 : Fr4 K L) : Fr6 J L := ⟨fun a a1 a2 a3 => (h2.1 a a1).trans (h.1 a a1 a2 a3), fun j hj => (h2.2 j (by omega)).trans (h.2 j hj)⟩
theorem Fr6.t5 {J K L : Wd} (h : Fr6 J K) (h2 : Fr5 K L) : Fr6 J L := ⟨fun a a1 a2 a3 => (h2.1 a a1 a2 a3).trans (h.1 a a1 a2 a3), fun j hj => (h2.2 j (by omega)).trans (h.2 j hj)⟩
theorem MB.fr6 {J W : Wd} {ba n : Nat} {mb : Nat → Int32} (h : MB J ba n mb) (hW : Fr6 J W) : MB W ba n mb := by
  unfold MB at h ⊢
  rw [hW.2 50 (by omega), hW.2 51 (by omega), hW.1 34 (by decide) (by decide) (by decide)]
  exact h
theorem MTk.e {b : Nat → Int32} {n : Nat} {kd nm pl : Nat → Int32} {T : Nat} {J W : Wd} {t : Nat} (h : MTk b n kd nm pl T J t) (hW : ∀ j, 52 ≤ j → j ≤ 55 → W 0 j = J 0 j) : MTk b n kd nm pl T W t := by
  unfold MTk PS at h ⊢
  rw [hW 52 (by omega) (by omega), hW 53 (by omega) (by omega), hW 54 (by omega) (by omega), hW 55 (by omega) (by omega)]
  exact h
def MX (b : Nat → Int32) (n : Nat) (kd nm pl : Nat → Int32) (T : Nat) (J0 J : Wd) (t : Nat) (ws ps : List Int32) (o : Nat) : Prop := Fr6 J0 J ∧ MTk b n kd nm pl T J t ∧ MR J ws ps o
theorem MR.e {J W : Wd} {ws ps : List Int32} {o : Nat} (h : MR J ws ps o) (hW : Fr4 J W) : MR W ws ps o := by
  unfold MR at h ⊢
  rw [hW.2 59 (by omega), hW.2 60 (by omega), hW.2 61 (by omega), hW.1 36 (by decide), hW.1 37 (by decide)]
  exact h
theorem q_stepX {J0 : Wd} {ba n : Nat} {b mb kd nm pl : Nat → Int32} {T : Nat} (hM : MB J0 ba n mb) (hBR : ∀ i, i < n → BRel (b i) (mb i)) (hT : TokOK b n kd nm pl T) {J : Wd} {t : Nat} {ws ps : List Int32} {o : Nat} (hX : MX b n kd nm pl T J0 J t ws ps o) (ht : t < T) : CalQ SyM mX11_step 3 [.ref 0] J (fun r J' => r = none ∧ MX b n kd nm pl T J0 J' (t + 1) ws ps o) := by
  obtain ⟨p, hp⟩ := (hX.2.1.2.1 ht).2.2
  refine CalQ.to (q_step (hM.fr6 hX.1) hBR hT hp) ?_
  rintro r J' ⟨h0, h1, h2⟩
  exact ⟨h0, hX.1.t4 h1, h2, hX.2.2.e h1⟩
def topR : List Int32 → Int32
  | [] => 0
  | v :: _ => rankF v
def jrF (w : Int32) : Int32 := if w = 60 ∨ w = 61 then 5 else rankF w
def tX11_opens : List (Nat × Instr × Nat) := [(0, .aload_n 0, 1), (1, .getfield 200, 3), (4, .iconst 5, 1), (5, .if_icmp .ne 5, 3), (8, .iconst 0, 1), (9, .ireturn, 1), (10, .aload_n 0, 1), (11, .dup, 1), (12, .getfield 200, 3), (15, .iconst 1, 1), (16, .iadd, 1), (17, .putfield 200, 3), (20, .aload_n 0, 1), (21, .getfield 185, 3), (24, .aload_n 0, 1), (25, .getfield 194, 3), (28, .iload_n 1, 1), (29, .iastore, 1), (30, .aload_n 0, 1), (31, .dup, 1), (32, .getfield 194, 3), (35, .iconst 1, 1), (36, .iadd, 1), (37, .putfield 194, 3), (40, .aload_n 0, 1), (41, .invokevirtual 357, 3), (44, .iconst 1, 1), (45, .ireturn, 1)]
theorem dtX11_opens : dec_ok mX11_opens.2.1 tX11_opens = true := by decide +kernel
set_option maxHeartbeats 4000000 in
theorem q_opens {J0 : Wd} {ba n : Nat} {b mb kd nm pl : Nat → Int32} {T : Nat} (hM : MB J0 ba n mb) (hBR : ∀ i, i < n → BRel (b i) (mb i)) (hT : TokOK b n kd nm pl T) {J : Wd} {t : Nat} {ws ps : List Int32} {o : Nat} (hX : MX b n kd nm pl T J0 J t ws ps o) (ht : t < T) {w : Int32} (hl : ws.length ≤ 160) (ho : o ≤ 5) : CalQ SyM mX11_opens 4 [.ref 0, .int w] J (fun r J' => (o = 5 → r = some (.int 0) ∧ MX b n kd nm pl T J0 J' t ws ps o) ∧ (¬ o = 5 → r = some (.int 1) ∧ MX b n kd nm pl T J0 J' (t + 1) (w :: ws) ps (o + 1))) := by
  refine CalQ.of (by decide) (Nat.le_of_ble_eq_true rfl) ?_
  show BdQ _ _ _ _ [(0, _), (1, _)] _ _ _
  obtain ⟨r1, r2, r3, r4, r5⟩ := hX.2.2
  refine BdQ.l (fun _ _ k => b_aload_n (pc := 0) (i := 0) (dd dtX11_opens 0 rfl) rfl rfl k) ?_
  refine BdQ.l (fun _ _ k => b_geti (pc := 1) (dd dtX11_opens 1 rfl) fwX11_200 pM_0 k) ?_
  refine BdQ.l (fun _ _ k => b_ic5 (pc := 4) (dd dtX11_opens 2 rfl) k) ?_
  rw [r5]
  refine BdQ.c (fun _ _ k1 k2 => b_icmp_ne (pc := 5) (tgt := 10) (dd dtX11_opens 3 rfl) (by decide) k1 k2) (fun h5 => ?_) (fun h5 => ?_)
  · refine BdQ.l (fun _ _ k => b_aload_n (pc := 10) (i := 0) (dd dtX11_opens 6 rfl) rfl rfl k) ?_
    refine BdQ.l (fun _ _ k => b_dup (pc := 11) (dd dtX11_opens 7 rfl) rfl k) ?_
    refine BdQ.l (fun _ _ k => b_geti (pc := 12) (dd dtX11_opens 8 rfl) fwX11_200 pM_0 k) ?_
    refine BdQ.l (fun _ _ k => b_ic1 (pc := 15) (dd dtX11_opens 9 rfl) k) ?_
    rw [r5]
    refine BdQ.l (fun _ _ k => b_iadd (pc := 16) (dd dtX11_opens 10 rfl) k) ?_
    refine BdQ.l (fun _ _ k => b_puti (pc := 17) (dd dtX11_opens 11 rfl) fwX11_200 pM_0 k) ?_
    refine BdQ.l (fun _ _ k => b_aload_n (pc := 20) (i := 0) (dd dtX11_opens 12 rfl) rfl rfl k) ?_
    refine BdQ.l (fun _ _ k => b_geta (pc := 21) (dd dtX11_opens 13 rfl) fwX11_185 pM_0 rM_0_56 k) ?_
    refine BdQ.l (fun _ _ k => b_aload_n (pc := 24) (i := 0) (dd dtX11_opens 14 rfl) rfl rfl k) ?_
    refine BdQ.l (fun _ _ k => b_geti (pc := 25) (dd dtX11_opens 15 rfl) fwX11_194 pM_0 k) ?_
    rw [ist_eq, upd_ne (show (59 : Nat) ≠ 61 by decide), r1]
    refine BdQ.l (fun _ _ k => b_iload_n (pc := 28) (i := 1) (dd dtX11_opens 16 rfl) rfl rfl k) ?_
    refine BdQ.l (fun _ _ k => b_iast (pc := 29) (dd dtX11_opens 17 rfl) pM_36 (vpn rfl (show ws.length < 161 by omega) (by decide)) k) ?_
    refine BdQ.l (fun _ _ k => b_aload_n (pc := 30) (i := 0) (dd dtX11_opens 18 rfl) rfl rfl k) ?_
    refine BdQ.l (fun _ _ k => b_dup (pc := 31) (dd dtX11_opens 19 rfl) rfl k) ?_
    refine BdQ.l (fun _ _ k => b_geti (pc := 32) (dd dtX11_opens 20 rfl) fwX11_194 pM_0 k) ?_
    refine BdQ.l (fun _ _ k => b_ic1 (pc := 35) (dd dtX11_opens 21 rfl) k) ?_
    rw [ist_ne (show (0 : Nat) ≠ 36 by decide), ist_eq, upd_ne (show (59 : Nat) ≠ 61 by decide), r1, nI_clamp (show ws.length < 2 ^ 31 by omega)]
    refine BdQ.l (fun _ _ k => b_iadd (pc := 36) (dd dtX11_opens 22 rfl) k) ?_
    refine BdQ.l (fun _ _ k => b_puti (pc := 37) (dd dtX11_opens 23 rfl) fwX11_194 pM_0 k) ?_
    refine BdQ.l (fun _ _ k => b_aload_n (pc := 40) (i := 0) (dd dtX11_opens 24 rfl) rfl rfl k) ?_
    have hX2 : MX b n kd nm pl T J0 (ist (ist (ist J 0 61 (nI o + 1)) 36 ws.length w) 0 59 (nI ws.length + 1)) t (w :: ws) ps (o + 1) := by
      refine ⟨((hX.1.f (by decide)).s (Or.inl rfl)).f (by decide), hX.2.1.e (fun j j1 j2 => ?_), ?_, ?_, ?_, ?_, ?_⟩
      · rw [ist_eq, upd_ne (by omega), ist_ne (by decide), ist_eq, upd_ne (by omega)]
      · rw [ist_eq, upd_eq, nI_1]; rfl
      · rw [ist_ne (by decide), ist_eq, ist_ne (by decide)]; exact r2.push
      · rw [ist_eq, upd_ne (by decide), ist_ne (by decide), ist_eq, upd_ne (by decide)]; exact r3
      · rw [ist_ne (by decide), ist_ne (by decide), ist_ne (by decide)]; exact r4
      · rw [ist_eq, upd_ne (by decide), ist_ne (by decide), ist_eq, upd_eq, nI_1]
    obtain ⟨_, I41, ⟨rfl, R41⟩, k41⟩ := q_stepX hM hBR hT hX2 ht
    refine BdQ.l (fun _ _ k => b_invV (pc := 41) (dd dtX11_opens 25 rfl) mlX11_357 mvX11_step miX11_step (k41) oM_0 rfl rfl (by decide) (Nat.le_of_ble_eq_true rfl) k) ?_
    refine BdQ.l (fun _ _ k => b_ic1 (pc := 44) (dd dtX11_opens 26 rfl) k) ?_
    refine ⟨_, _, ?_, b_zret (dd dtX11_opens 27 rfl) rfl (by decide)⟩
    first
    | (have h5b : nI o = 5 := h5
       exact ⟨fun _ => ⟨rfl, hX⟩, fun q => absurd ((nI_eq (b := 5) (by omega) (by decide)).mp h5b) q⟩)
    | exact ⟨fun q => absurd (congrArg nI q) h5, fun _ => ⟨rfl, R41⟩⟩
  · refine BdQ.l (fun _ _ k => b_ic0 (pc := 8) (dd dtX11_opens 4 rfl) k) ?_
    refine ⟨_, _, ?_, b_zret (dd dtX11_opens 5 rfl) rfl (by decide)⟩
    first
    | (have h5b : nI o = 5 := h5
       exact ⟨fun _ => ⟨rfl, hX⟩, fun q => absurd ((nI_eq (b := 5) (by omega) (by decide)).mp h5b) q⟩)
    | exact ⟨fun q => absurd (congrArg nI q) h5, fun _ => ⟨rfl, R41⟩⟩
def tX11_push : List (Nat × Instr × Nat) := [(0, .aload_n 0, 1), (1, .getfield 188, 3), (4, .aload_n 0, 1), (5, .getfield 197, 3), (8, .iload_n 1, 1), (9, .iastore, 1), (10, .aload_n 0, 1), (11, .dup, 1), (12, .getfield 197, 3), (15, .iconst 1, 1), (16, .iadd, 1), (17, .putfield 197, 3), (20, .aload_n 0, 1), (21, .bipush 7, 2), (23, .invokevirtual 360, 3), (26, .aload_n 0, 1), (27, .invokevirtual 357, 3), (30, .return_, 1)]
theorem dtX11_push : dec_ok mX11_push.2.1 tX11_push = true := by decide +kernel
set_option maxHeartbeats 4000000 in
theorem q_push {J0 : Wd} {ba n : Nat} {b mb kd nm pl : Nat → Int32} {T : Nat} (hM : MB J0 ba n mb) (hBR : ∀ i, i < n → BRel (b i) (mb i)) (hT : TokOK b n kd nm pl T) {J : Wd} {t : Nat} {ws ps : List Int32} {o : Nat} (hX : MX b n kd nm pl T J0 J t ws ps o) (ht : t < T) {v : Int32} (hl : ws.length ≤ 160) (hl2 : (v :: ps).length ≤ 160) (hW : WF ws (v :: ps) o) : CalQ SyM mX11_push 4 [.ref 0, .int v] J (fun r J' => r = none ∧ MX b n kd nm pl T J0 J' (t + 1) (msettle 7 ws (v :: ps) o).1 (msettle 7 ws (v :: ps) o).2.1 (msettle 7 ws (v :: ps) o).2.2) := by
  refine CalQ.of (by decide) (Nat.le_of_ble_eq_true rfl) ?_
  show BdQ _ _ _ _ [(0, _), (1, _)] _ _ _
  obtain ⟨r1, r2, r3, r4, r5⟩ := hX.2.2
  have hl3 : ps.length + 1 ≤ 160 := hl2
  refine BdQ.l (fun _ _ k => b_aload_n (pc := 0) (i := 0) (dd dtX11_push 0 rfl) rfl rfl k) ?_
  refine BdQ.l (fun _ _ k => b_geta (pc := 1) (dd dtX11_push 1 rfl) fwX11_188 pM_0 rM_0_57 k) ?_
  refine BdQ.l (fun _ _ k => b_aload_n (pc := 4) (i := 0) (dd dtX11_push 2 rfl) rfl rfl k) ?_
  refine BdQ.l (fun _ _ k => b_geti (pc := 5) (dd dtX11_push 3 rfl) fwX11_197 pM_0 k) ?_
  rw [r3]
  refine BdQ.l (fun _ _ k => b_iload_n (pc := 8) (i := 1) (dd dtX11_push 4 rfl) rfl rfl k) ?_
  refine BdQ.l (fun _ _ k => b_iast (pc := 9) (dd dtX11_push 5 rfl) pM_37 (vpn rfl (show ps.length < 161 by omega) (by decide)) k) ?_
  refine BdQ.l (fun _ _ k => b_aload_n (pc := 10) (i := 0) (dd dtX11_push 6 rfl) rfl rfl k) ?_
  refine BdQ.l (fun _ _ k => b_dup (pc := 11) (dd dtX11_push 7 rfl) rfl k) ?_
  refine BdQ.l (fun _ _ k => b_geti (pc := 12) (dd dtX11_push 8 rfl) fwX11_197 pM_0 k) ?_
  rw [ist_ne (show (0 : Nat) ≠ 37 by decide), r3]
  refine BdQ.l (fun _ _ k => b_ic1 (pc := 15) (dd dtX11_push 9 rfl) k) ?_
  refine BdQ.l (fun _ _ k => b_iadd (pc := 16) (dd dtX11_push 10 rfl) k) ?_
  refine BdQ.l (fun _ _ k => b_puti (pc := 17) (dd dtX11_push 11 rfl) fwX11_197 pM_0 k) ?_
  rw [nI_clamp (show ps.length < 2 ^ 31 by omega)]
  have hR2 : MR (ist (ist J 37 ps.length v) 0 60 (nI ps.length + 1)) ws (v :: ps) o := by
    refine ⟨?_, ?_, ?_, ?_, ?_⟩
    · rw [ist_eq, upd_ne (by decide), ist_ne (by decide)]; exact r1
    · rw [ist_ne (by decide), ist_ne (by decide)]; exact r2
    · rw [ist_eq, upd_eq, nI_1]; rfl
    · rw [ist_ne (by decide), ist_eq]; exact r4.push
    · rw [ist_eq, upd_ne (by decide), ist_ne (by decide)]; exact r5
  have hF2 : Fr6 J0 (ist (ist J 37 ps.length v) 0 60 (nI ps.length + 1)) := (hX.1.s (Or.inr rfl)).f (by decide)
  refine BdQ.l (fun _ _ k => b_aload_n (pc := 20) (i := 0) (dd dtX11_push 12 rfl) rfl rfl k) ?_
  refine BdQ.l (fun _ _ k => b_bipush (pc := 21) (v := 7) (dd dtX11_push 13 rfl) (by decide) k) ?_
  obtain ⟨_, I23, ⟨rfl, F23, R23⟩, k23⟩ := q_settle (k := 7) (by decide) hW hR2 hl2 hl
  have hX2 : MX b n kd nm pl T J0 I23 t (msettle 7 ws (v :: ps) o).1 (msettle 7 ws (v :: ps) o).2.1 (msettle 7 ws (v :: ps) o).2.2 := ⟨hF2.t5 F23, hX.2.1.e (fun j j1 j2 => by rw [F23.2 j (by omega), ist_eq, upd_ne (by omega), ist_ne (by decide)]), R23⟩
  refine BdQ.l (fun _ _ k => b_invV (pc := 23) (dd dtX11_push 14 rfl) mlX11_360 mvX11_settle miX11_settle (k23) oM_0 rfl rfl (by decide) (Nat.le_of_ble_eq_true rfl) k) ?_
  refine BdQ.l (fun _ _ k => b_aload_n (pc := 26) (i := 0) (dd dtX11_push 15 rfl) rfl rfl k) ?_
  obtain ⟨_, I27, ⟨rfl, R27⟩, k27⟩ := q_stepX hM hBR hT hX2 ht
  refine BdQ.l (fun _ _ k => b_invV (pc := 27) (dd dtX11_push 16 rfl) mlX11_357 mvX11_step miX11_step (k27) oM_0 rfl rfl (by decide) (Nat.le_of_ble_eq_true rfl) k) ?_
  refine ⟨_, _, ?_, b_vret (dd dtX11_push 17 rfl) rfl⟩
  exact ⟨rfl, R27⟩
theorem jr_y {w : Int32} (h : w = 60 ∨ w = 61) : jrF w = 5 := if_pos h
theorem jr_n {w : Int32} (h1 : ¬ w = 60) (h2 : ¬ w = 61) : jrF w = rankF w := if_neg (fun q => q.elim h1 h2)
def tX11_joins : List (Nat × Instr × Nat) := [(0, .aload_n 0, 1), (1, .iload_n 1, 1), (2, .bipush 60, 2), (4, .if_icmp .eq 9, 3), (7, .iload_n 1, 1), (8, .bipush 61, 2), (10, .if_icmp .ne 7, 3), (13, .iconst 5, 1), (14, .goto 8, 3), (17, .aload_n 0, 1), (18, .iload_n 1, 1), (19, .invokevirtual 350, 3), (22, .invokevirtual 360, 3), (25, .iload_n 1, 1), (26, .bipush 60, 2), (28, .if_icmp .eq 9, 3), (31, .iload_n 1, 1), (32, .bipush 61, 2), (34, .if_icmp .ne 31, 3), (37, .aload_n 0, 1), (38, .getfield 194, 3), (41, .ifCond .le 24, 3), (44, .aload_n 0, 1), (45, .aload_n 0, 1), (46, .getfield 185, 3), (49, .aload_n 0, 1), (50, .getfield 194, 3), (53, .iconst 1, 1), (54, .isub, 1), (55, .iaload, 1), (56, .invokevirtual 350, 3), (59, .iconst 4, 1), (60, .if_icmp .ne 5, 3), (63, .iconst 0, 1), (64, .ireturn, 1), (65, .aload_n 0, 1), (66, .getfield 185, 3), (69, .aload_n 0, 1), (70, .getfield 194, 3), (73, .iload_n 1, 1), (74, .iastore, 1), (75, .aload_n 0, 1), (76, .dup, 1), (77, .getfield 194, 3), (80, .iconst 1, 1), (81, .iadd, 1), (82, .putfield 194, 3), (85, .aload_n 0, 1), (86, .invokevirtual 357, 3), (89, .iconst 1, 1), (90, .ireturn, 1)]
theorem dtX11_joins : dec_ok mX11_joins.2.1 tX11_joins = true := by decide +kernel
set_option maxHeartbeats 4000000 in
theorem p_joins65 {J0 : Wd} {ba n : Nat} {b mb kd nm pl : Nat → Int32} {T : Nat} (hM : MB J0 ba n mb) (hBR : ∀ i, i < n → BRel (b i) (mb i)) (hT : TokOK b n kd nm pl T) {J : Wd} {t : Nat} {ws ps : List Int32} {o : Nat} (hX : MX b n kd nm pl T J0 J t ws ps o) (ht : t < T) {w : Int32} (hl : ws.length ≤ 160) (hno : ¬ ((w = 60 ∨ w = 61) ∧ topR ws = 4)) : BdQ SyM mX11_joins 4 65 [(0, .ref 0), (1, .int w)] [] J (fun r J' => (((w = 60 ∨ w = 61) ∧ topR ws = 4) → r = some (.int 0) ∧ MX b n kd nm pl T J0 J' t ws ps o) ∧ (¬ ((w = 60 ∨ w = 61) ∧ topR ws = 4) → r = some (.int 1) ∧ MX b n kd nm pl T J0 J' (t + 1) (w :: ws) ps o)) := by
  obtain ⟨r1, r2, r3, r4, r5⟩ := hX.2.2
  refine BdQ.l (fun _ _ k => b_aload_n (pc := 65) (i := 0) (dd dtX11_joins 35 rfl) rfl rfl k) ?_
  refine BdQ.l (fun _ _ k => b_geta (pc := 66) (dd dtX11_joins 36 rfl) fwX11_185 pM_0 rM_0_56 k) ?_
  refine BdQ.l (fun _ _ k => b_aload_n (pc := 69) (i := 0) (dd dtX11_joins 37 rfl) rfl rfl k) ?_
  refine BdQ.l (fun _ _ k => b_geti (pc := 70) (dd dtX11_joins 38 rfl) fwX11_194 pM_0 k) ?_
  rw [r1]
  refine BdQ.l (fun _ _ k => b_iload_n (pc := 73) (i := 1) (dd dtX11_joins 39 rfl) rfl rfl k) ?_
  refine BdQ.l (fun _ _ k => b_iast (pc := 74) (dd dtX11_joins 40 rfl) pM_36 (vpn rfl (show ws.length < 161 by omega) (by decide)) k) ?_
  refine BdQ.l (fun _ _ k => b_aload_n (pc := 75) (i := 0) (dd dtX11_joins 41 rfl) rfl rfl k) ?_
  refine BdQ.l (fun _ _ k => b_dup (pc := 76) (dd dtX11_joins 42 rfl) rfl k) ?_
  refine BdQ.l (fun _ _ k => b_geti (pc := 77) (dd dtX11_joins 43 rfl) fwX11_194 pM_0 k) ?_
  rw [ist_ne (show (0 : Nat) ≠ 36 by decide), r1]
  refine BdQ.l (fun _ _ k => b_ic1 (pc := 80) (dd dtX11_joins 44 rfl) k) ?_
  refine BdQ.l (fun _ _ k => b_iadd (pc := 81) (dd dtX11_joins 45 rfl) k) ?_
  refine BdQ.l (fun _ _ k => b_puti (pc := 82) (dd dtX11_joins 46 rfl) fwX11_194 pM_0 k) ?_
  refine BdQ.l (fun _ _ k => b_aload_n (pc := 85) (i := 0) (dd dtX11_joins 47 rfl) rfl rfl k) ?_
  rw [nI_clamp (show ws.length < 2 ^ 31 by omega)]
  have hX2 : MX b n kd nm pl T J0 (ist (ist J 36 ws.length w) 0 59 (nI ws.length + 1)) t (w :: ws) ps o := by
    refine ⟨(hX.1.s (Or.inl rfl)).f (by decide), hX.2.1.e (fun j j1 j2 => ?_), ?_, ?_, ?_, ?_, ?_⟩
    · rw [ist_eq, upd_ne (by omega), ist_ne (by decide)]
    · rw [ist_eq, upd_eq, nI_1]; rfl
    · rw [ist_ne (by decide), ist_eq]; exact r2.push
    · rw [ist_eq, upd_ne (by decide), ist_ne (by decide)]; exact r3
    · rw [ist_ne (by decide), ist_ne (by decide)]; exact r4
    · rw [ist_eq, upd_ne (by decide), ist_ne (by decide)]; exact r5
  obtain ⟨_, I86, ⟨rfl, R86⟩, k86⟩ := q_stepX hM hBR hT hX2 ht
  refine BdQ.l (fun _ _ k => b_invV (pc := 86) (dd dtX11_joins 48 rfl) mlX11_357 mvX11_step miX11_step (k86) oM_0 rfl rfl (by decide) (Nat.le_of_ble_eq_true rfl) k) ?_
  refine BdQ.l (fun _ _ k => b_ic1 (pc := 89) (dd dtX11_joins 49 rfl) k) ?_
  refine ⟨_, _, ?_, b_zret (dd dtX11_joins 50 rfl) rfl (by decide)⟩
  exact ⟨fun q => absurd q hno, fun _ => ⟨rfl, R86⟩⟩
set_option maxHeartbeats 4000000 in
theorem p_joins25 {J0 : Wd} {ba n : Nat} {b mb kd nm pl : Nat → Int32} {T : Nat} (hM : MB J0 ba n mb) (hBR : ∀ i, i < n → BRel (b i) (mb i)) (hT : TokOK b n kd nm pl T) {J : Wd} {t : Nat} {ws ps : List Int32} {o : Nat} (hX : MX b n kd nm pl T J0 J t ws ps o) (ht : t < T) {w : Int32} (hl : ws.length ≤ 160) : BdQ SyM mX11_joins 4 25 [(0, .ref 0), (1, .int w)] [] J (fun r J' => (((w = 60 ∨ w = 61) ∧ topR ws = 4) → r = some (.int 0) ∧ MX b n kd nm pl T J0 J' t ws ps o) ∧ (¬ ((w = 60 ∨ w = 61) ∧ topR ws = 4) → r = some (.int 1) ∧ MX b n kd nm pl T J0 J' (t + 1) (w :: ws) ps o)) := by
  obtain ⟨r1, r2, r3, r4, r5⟩ := hX.2.2
  refine BdQ.l (fun _ _ k => b_iload_n (pc := 25) (i := 1) (dd dtX11_joins 13 rfl) rfl rfl k) ?_
  refine BdQ.l (fun _ _ k => b_bipush (pc := 26) (v := 60) (dd dtX11_joins 14 rfl) (by decide) k) ?_
  refine BdQ.b (fun _ _ k1 k2 => b_icmp_eq (pc := 28) (tgt := 37) (dd dtX11_joins 15 rfl) (by decide) k1 k2) (fun h28 => ?_) (fun h28 => ?_)
  · refine BdQ.l (fun _ _ k => b_aload_n (pc := 37) (i := 0) (dd dtX11_joins 19 rfl) rfl rfl k) ?_
    refine BdQ.l (fun _ _ k => b_geti (pc := 38) (dd dtX11_joins 20 rfl) fwX11_194 pM_0 k) ?_
    rw [r1]
    refine BdQ.c (fun _ _ k1 k2 => b_ifL_le (pc := 41) (tgt := 65) (dd dtX11_joins 21 rfl) (by decide) k1 k2) (fun h41 => ?_) (fun h41 => ?_)
    · first
      | exact p_joins65 hM hBR hT hX ht hl (fun q => h60 q.2)
      | exact p_joins65 hM hBR hT hX ht hl (fun q => h41 (by
          cases ws with
          | nil => exact absurd q.2 (by decide)
          | cons v u =>
            have hl2 : u.length + 1 ≤ 160 := hl
            exact nI_lt (a := 0) (show 0 < u.length + 1 by omega) (by omega)))
      | exact p_joins65 hM hBR hT hX ht hl (fun q => q.1.elim h28 h34)
    · obtain ⟨v, u, rfl⟩ : ∃ v u, ws = v :: u := by
        cases ws with
        | nil => exact absurd h41 (by show ¬ (0 : Int32) < nI 0; decide)
        | cons v u => exact ⟨v, u, rfl⟩
      have hl2 : u.length + 1 ≤ 160 := hl
      replace r1 : J 0 59 = nI (u.length + 1) := r1
      refine BdQ.l (fun _ _ k => b_aload_n (pc := 44) (i := 0) (dd dtX11_joins 22 rfl) rfl rfl k) ?_
      refine BdQ.l (fun _ _ k => b_aload_n (pc := 45) (i := 0) (dd dtX11_joins 23 rfl) rfl rfl k) ?_
      refine BdQ.l (fun _ _ k => b_geta (pc := 46) (dd dtX11_joins 24 rfl) fwX11_185 pM_0 rM_0_56 k) ?_
      refine BdQ.l (fun _ _ k => b_aload_n (pc := 49) (i := 0) (dd dtX11_joins 25 rfl) rfl rfl k) ?_
      refine BdQ.l (fun _ _ k => b_geti (pc := 50) (dd dtX11_joins 26 rfl) fwX11_194 pM_0 k) ?_
      rw [r1]
      refine BdQ.l (fun _ _ k => b_ic1 (pc := 53) (dd dtX11_joins 27 rfl) k) ?_
      refine BdQ.l (fun _ _ k => b_isub (pc := 54) (dd dtX11_joins 28 rfl) k) ?_
      rw [nI_pred]
      refine BdQ.l (fun _ _ k => b_iald (pc := 55) (dd dtX11_joins 29 rfl) pM_36 (vpn rfl (show u.length < 161 by omega) (by decide)) k) ?_
      rw [nI_clamp (show u.length < 2 ^ 31 by omega), r2.1]
      refine BdQ.l (fun _ _ k => b_invV (pc := 56) (dd dtX11_joins 30 rfl) mlX11_350 mvX11_rankOf miX11_rankOf (c_X11_rankOf) oM_0 rfl rfl (by decide) (Nat.le_of_ble_eq_true rfl) k) ?_
      refine BdQ.l (fun _ _ k => b_ic4 (pc := 59) (dd dtX11_joins 31 rfl) k) ?_
      refine BdQ.c (fun _ _ k1 k2 => b_icmp_ne (pc := 60) (tgt := 65) (dd dtX11_joins 32 rfl) (by decide) k1 k2) (fun h60 => ?_) (fun h60 => ?_)
      · first
        | exact p_joins65 hM hBR hT hX ht hl (fun q => h60 q.2)
        | exact p_joins65 hM hBR hT hX ht hl (fun q => h41 (by
            cases ws with
            | nil => exact absurd q.2 (by decide)
            | cons v u =>
              have hl2 : u.length + 1 ≤ 160 := hl
              exact nI_lt (a := 0) (show 0 < u.length + 1 by omega) (by omega)))
        | exact p_joins65 hM hBR hT hX ht hl (fun q => q.1.elim h28 h34)
      · refine BdQ.l (fun _ _ k => b_ic0 (pc := 63) (dd dtX11_joins 33 rfl) k) ?_
        refine ⟨_, _, ?_, b_zret (dd dtX11_joins 34 rfl) rfl (by decide)⟩
        first
        | (have hw : w = 60 ∨ w = 61 := Or.inl h28
           exact ⟨fun _ => ⟨rfl, hX⟩, fun q => absurd ⟨hw, h60⟩ q⟩)
        | (have hw : w = 60 ∨ w = 61 := Or.inr h34
           exact ⟨fun _ => ⟨rfl, hX⟩, fun q => absurd ⟨hw, h60⟩ q⟩)
  · refine BdQ.l (fun _ _ k => b_iload_n (pc := 31) (i := 1) (dd dtX11_joins 16 rfl) rfl rfl k) ?_
    refine BdQ.l (fun _ _ k => b_bipush (pc := 32) (v := 61) (dd dtX11_joins 17 rfl) (by decide) k) ?_
    refine BdQ.c (fun _ _ k1 k2 => b_icmp_ne (pc := 34) (tgt := 65) (dd dtX11_joins 18 rfl) (by decide) k1 k2) (fun h34 => ?_) (fun h34 => ?_)
    · first
      | exact p_joins65 hM hBR hT hX ht hl (fun q => h60 q.2)
      | exact p_joins65 hM hBR hT hX ht hl (fun q => h41 (by
          cases ws with
          | nil => exact absurd q.2 (by decide)
          | cons v u =>
            have hl2 : u.length + 1 ≤ 160 := hl
            exact nI_lt (a := 0) (show 0 < u.length + 1 by omega) (by omega)))
      | exact p_joins65 hM hBR hT hX ht hl (fun q => q.1.elim h28 h34)
    · refine BdQ.l (fun _ _ k => b_aload_n (pc := 37) (i := 0) (dd dtX11_joins 19 rfl) rfl rfl k) ?_
      refine BdQ.l (fun _ _ k => b_geti (pc := 38) (dd dtX11_joins 20 rfl) fwX11_194 pM_0 k) ?_
      rw [r1]
      refine BdQ.c (fun _ _ k1 k2 => b_ifL_le (pc := 41) (tgt := 65) (dd dtX11_joins 21 rfl) (by decide) k1 k2) (fun h41 => ?_) (fun h41 => ?_)
      · first
        | exact p_joins65 hM hBR hT hX ht hl (fun q => h60 q.2)
        | exact p_joins65 hM hBR hT hX ht hl (fun q => h41 (by
            cases ws with
            | nil => exact absurd q.2 (by decide)
            | cons v u =>
              have hl2 : u.length + 1 ≤ 160 := hl
              exact nI_lt (a := 0) (show 0 < u.length + 1 by omega) (by omega)))
        | exact p_joins65 hM hBR hT hX ht hl (fun q => q.1.elim h28 h34)
      · obtain ⟨v, u, rfl⟩ : ∃ v u, ws = v :: u := by
          cases ws with
          | nil => exact absurd h41 (by show ¬ (0 : Int32) < nI 0; decide)
          | cons v u => exact ⟨v, u, rfl⟩
        have hl2 : u.length + 1 ≤ 160 := hl
        replace r1 : J 0 59 = nI (u.length + 1) := r1
        refine BdQ.l (fun _ _ k => b_aload_n (pc := 44) (i := 0) (dd dtX11_joins 22 rfl) rfl rfl k) ?_
        refine BdQ.l (fun _ _ k => b_aload_n (pc := 45) (i := 0) (dd dtX11_joins 23 rfl) rfl rfl k) ?_
        refine BdQ.l (fun _ _ k => b_geta (pc := 46) (dd dtX11_joins 24 rfl) fwX11_185 pM_0 rM_0_56 k) ?_
        refine BdQ.l (fun _ _ k => b_aload_n (pc := 49) (i := 0) (dd dtX11_joins 25 rfl) rfl rfl k) ?_
        refine BdQ.l (fun _ _ k => b_geti (pc := 50) (dd dtX11_joins 26 rfl) fwX11_194 pM_0 k) ?_
        rw [r1]
        refine BdQ.l (fun _ _ k => b_ic1 (pc := 53) (dd dtX11_joins 27 rfl) k) ?_
        refine BdQ.l (fun _ _ k => b_isub (pc := 54) (dd dtX11_joins 28 rfl) k) ?_
        rw [nI_pred]
        refine BdQ.l (fun _ _ k => b_iald (pc := 55) (dd dtX11_joins 29 rfl) pM_36 (vpn rfl (show u.length < 161 by omega) (by decide)) k) ?_
        rw [nI_clamp (show u.length < 2 ^ 31 by omega), r2.1]
        refine BdQ.l (fun _ _ k => b_invV (pc := 56) (dd dtX11_joins 30 rfl) mlX11_350 mvX11_rankOf miX11_rankOf (c_X11_rankOf) oM_0 rfl rfl (by decide) (Nat.le_of_ble_eq_true rfl) k) ?_
        refine BdQ.l (fun _ _ k => b_ic4 (pc := 59) (dd dtX11_joins 31 rfl) k) ?_
        refine BdQ.c (fun _ _ k1 k2 => b_icmp_ne (pc := 60) (tgt := 65) (dd dtX11_joins 32 rfl) (by decide) k1 k2) (fun h60 => ?_) (fun h60 => ?_)
        · first
          | exact p_joins65 hM hBR hT hX ht hl (fun q => h60 q.2)
          | exact p_joins65 hM hBR hT hX ht hl (fun q => h41 (by
              cases ws with
              | nil => exact absurd q.2 (by decide)
              | cons v u =>
                have hl2 : u.length + 1 ≤ 160 := hl
                exact nI_lt (a := 0) (show 0 < u.length + 1 by omega) (by omega)))
          | exact p_joins65 hM hBR hT hX ht hl (fun q => q.1.elim h28 h34)
        · refine BdQ.l (fun _ _ k => b_ic0 (pc := 63) (dd dtX11_joins 33 rfl) k) ?_
          refine ⟨_, _, ?_, b_zret (dd dtX11_joins 34 rfl) rfl (by decide)⟩
          first
          | (have hw : w = 60 ∨ w = 61 := Or.inl h28
             exact ⟨fun _ => ⟨rfl, hX⟩, fun q => absurd ⟨hw, h60⟩ q⟩)
          | (have hw : w = 60 ∨ w = 61 := Or.inr h34
             exact ⟨fun _ => ⟨rfl, hX⟩, fun q => absurd ⟨hw, h60⟩ q⟩)
set_option maxHeartbeats 4000000 in
theorem q_joins {J0 : Wd} {ba n : Nat} {b mb kd nm pl : Nat → Int32} {T : Nat} (hM : MB J0 ba n mb) (hBR : ∀ i, i < n → BRel (b i) (mb i)) (hT : TokOK b n kd nm pl T) {J : Wd} {t : Nat} {ws ps : List Int32} {o : Nat} (hX : MX b n kd nm pl T J0 J t ws ps o) (ht : t < T) {w : Int32} (hj : 0 < jrF w) (hl : ws.length ≤ 160) (hl2 : ps.length ≤ 160) (hW : WF ws ps o) : CalQ SyM mX11_joins 4 [.ref 0, .int w] J (fun r J' => (((w = 60 ∨ w = 61) ∧ topR (msettle (jrF w) ws ps o).1 = 4) → r = some (.int 0) ∧ MX b n kd nm pl T J0 J' t (msettle (jrF w) ws ps o).1 (msettle (jrF w) ws ps o).2.1 (msettle (jrF w) ws ps o).2.2) ∧ (¬ ((w = 60 ∨ w = 61) ∧ topR (msettle (jrF w) ws ps o).1 = 4) → r = some (.int 1) ∧ MX b n kd nm pl T J0 J' (t + 1) (w :: (msettle (jrF w) ws ps o).1) (msettle (jrF w) ws ps o).2.1 (msettle (jrF w) ws ps o).2.2)) := by
  refine CalQ.of (by decide) (Nat.le_of_ble_eq_true rfl) ?_
  show BdQ _ _ _ _ [(0, _), (1, _)] _ _ _
  refine BdQ.l (fun _ _ k => b_aload_n (pc := 0) (i := 0) (dd dtX11_joins 0 rfl) rfl rfl k) ?_
  refine BdQ.l (fun _ _ k => b_iload_n (pc := 1) (i := 1) (dd dtX11_joins 1 rfl) rfl rfl k) ?_
  refine BdQ.l (fun _ _ k => b_bipush (pc := 2) (v := 60) (dd dtX11_joins 2 rfl) (by decide) k) ?_
  refine BdQ.b (fun _ _ k1 k2 => b_icmp_eq (pc := 4) (tgt := 13) (dd dtX11_joins 3 rfl) (by decide) k1 k2) (fun h4 => ?_) (fun h4 => ?_)
  · refine BdQ.l (fun _ _ k => b_ic5 (pc := 13) (dd dtX11_joins 7 rfl) k) ?_
    refine BdQ.l (fun _ _ k => b_goto (pc := 14) (tgt := 22) (dd dtX11_joins 8 rfl) (by decide) k) ?_
    have hX2 := hX
    obtain ⟨_, I22, ⟨rfl, F22, R22⟩, k22⟩ := q_settle hj hW hX.2.2 hl2 hl
    have hX3 : MX b n kd nm pl T J0 I22 t (msettle (jrF w) ws ps o).1 (msettle (jrF w) ws ps o).2.1 (msettle (jrF w) ws ps o).2.2 := ⟨hX.1.t5 F22, hX.2.1.e (fun j j1 j2 => F22.2 j (by omega)), R22⟩
    have hms := ms_wf hj ws ps o hW
    first
    | rw [jr_y (Or.inl h4)] at k22
    | rw [jr_y (Or.inr h10)] at k22
    | rw [jr_n h4 h10] at k22
    refine BdQ.l (fun _ _ k => b_invV (pc := 22) (dd dtX11_joins 12 rfl) mlX11_360 mvX11_settle miX11_settle (k22) oM_0 rfl rfl (by decide) (Nat.le_of_ble_eq_true rfl) k) ?_
    exact p_joins25 hM hBR hT hX3 ht (Nat.le_trans hms.2.1 hl)
  · refine BdQ.l (fun _ _ k => b_iload_n (pc := 7) (i := 1) (dd dtX11_joins 4 rfl) rfl rfl k) ?_
    refine BdQ.l (fun _ _ k => b_bipush (pc := 8) (v := 61) (dd dtX11_joins 5 rfl) (by decide) k) ?_
    refine BdQ.c (fun _ _ k1 k2 => b_icmp_ne (pc := 10) (tgt := 17) (dd dtX11_joins 6 rfl) (by decide) k1 k2) (fun h10 => ?_) (fun h10 => ?_)
    · refine BdQ.l (fun _ _ k => b_aload_n (pc := 17) (i := 0) (dd dtX11_joins 9 rfl) rfl rfl k) ?_
      refine BdQ.l (fun _ _ k => b_iload_n (pc := 18) (i := 1) (dd dtX11_joins 10 rfl) rfl rfl k) ?_
      refine BdQ.l (fun _ _ k => b_invV (pc := 19) (dd dtX11_joins 11 rfl) mlX11_350 mvX11_rankOf miX11_rankOf (c_X11_rankOf) oM_0 rfl rfl (by decide) (Nat.le_of_ble_eq_true rfl) k) ?_
      have hX2 := hX
      obtain ⟨_, I22, ⟨rfl, F22, R22⟩, k22⟩ := q_settle hj hW hX.2.2 hl2 hl
      have hX3 : MX b n kd nm pl T J0 I22 t (msettle (jrF w) ws ps o).1 (msettle (jrF w) ws ps o).2.1 (msettle (jrF w) ws ps o).2.2 := ⟨hX.1.t5 F22, hX.2.1.e (fun j j1 j2 => F22.2 j (by omega)), R22⟩
      have hms := ms_wf hj ws ps o hW
      first
      | rw [jr_y (Or.inl h4)] at k22
      | rw [jr_y (Or.inr h10)] at k22
      | rw [jr_n h4 h10] at k22
      refine BdQ.l (fun _ _ k => b_invV (pc := 22) (dd dtX11_joins 12 rfl) mlX11_360 mvX11_settle miX11_settle (k22) oM_0 rfl rfl (by decide) (Nat.le_of_ble_eq_true rfl) k) ?_
      exact p_joins25 hM hBR hT hX3 ht (Nat.le_trans hms.2.1 hl)
    · refine BdQ.l (fun _ _ k => b_ic5 (pc := 13) (dd dtX11_joins 7 rfl) k) ?_
      refine BdQ.l (fun _ _ k => b_goto (pc := 14) (tgt := 22) (dd dtX11_joins 8 rfl) (by decide) k) ?_
      have hX2 := hX
      obtain ⟨_, I22, ⟨rfl, F22, R22⟩, k22⟩ := q_settle hj hW hX.2.2 hl2 hl
      have hX3 : MX b n kd nm pl T J0 I22 t (msettle (jrF w) ws ps o).1 (msettle (jrF w) ws ps o).2.1 (msettle (jrF w) ws ps o).2.2 := ⟨hX.1.t5 F22, hX.2.1.e (fun j j1 j2 => F22.2 j (by omega)), R22⟩
      have hms := ms_wf hj ws ps o hW
      first
      | rw [jr_y (Or.inl h4)] at k22
      | rw [jr_y (Or.inr h10)] at k22
      | rw [jr_n h4 h10] at k22
      refine BdQ.l (fun _ _ k => b_invV (pc := 22) (dd dtX11_joins 12 rfl) mlX11_360 mvX11_settle miX11_settle (k22) oM_0 rfl rfl (by decide) (Nat.le_of_ble_eq_true rfl) k) ?_
      exact p_joins25 hM hBR hT hX3 ht (Nat.le_trans hms.2.1 hl)
