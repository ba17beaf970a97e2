/-! law, moved, part; feed, text -/
def RH (I : Wd) (K N P R : Nat) (cc : List Int32) (E : Nat → Nat) : Prop := (I 42 0 = nI K ∧ K ≤ 30) ∧ (I 1 0 = nI N ∧ N ≤ 14) ∧ (I 1 1 = nI P ∧ P ≤ 6) ∧ (I 66 2 = nI R ∧ R < 6) ∧ TxW I (78 + 3 * R) cc E ∧ TxOK cc E
theorem RH.fr {I W : Wd} {K N P R : Nat} {cc : List Int32} {E : Nat → Nat} (h : RH I K N P R cc E) (hW : ∀ a, a ≠ 96 → a ≠ 97 → W a = I a) : RH W K N P R cc E := by
  obtain ⟨h1, h2, h3, h4, h5, h6⟩ := h
  refine ⟨by rw [hW 42 (by decide) (by decide)]; exact h1, by rw [hW 1 (by decide) (by decide)]; exact h2, by rw [hW 1 (by decide) (by decide)]; exact h3, by rw [hW 66 (by decide) (by decide)]; exact h4, ?_, h6⟩
  unfold TxW at h5 ⊢
  rw [hW _ (by omega) (by omega), hW _ (by omega) (by omega), hW _ (by omega) (by omega)]
  exact h5
def NOl : Int64 := -4611686018427387904
def vLaw (month c part kn : Int32) (V : Nat → Int32) : Int64 := if inR c 0 63 ∧ inR part 0 2 ∧ inR kn 0 month then (V part.toNatClampNeg).toInt64 else NOl
theorem part3 {x : Int32} (h : inR x 0 2) : ∃ p, x = nI p ∧ p < 3 := by
  obtain ⟨j, e, h1, h2⟩ := nI_rng h
  exact ⟨j, e, by have : (2 : Int32).toInt = 2 := rfl; omega⟩
def tX10_ruled : List (Nat × Instr × Nat) := [(0, .aload_n 0, 1), (1, .getfield 38, 3), (4, .iload_n 1, 1), (5, .iload_n 3, 1), (6, .iconst 0, 1), (7, .invokevirtual 196, 3), (10, .istore 4, 2), (12, .aload_n 0, 1), (13, .getfield 38, 3), (16, .iload_n 1, 1), (17, .iload_n 3, 1), (18, .iconst 0, 1), (19, .invokevirtual 199, 3), (22, .istore 5, 2), (24, .aload_n 0, 1), (25, .getfield 64, 3), (28, .iload 4, 2), (30, .iload 5, 2), (32, .invokevirtual 376, 3), (35, .aload_n 0, 1), (36, .getfield 64, 3), (39, .aload_n 0, 1), (40, .getfield 21, 3), (43, .iload_n 1, 1), (44, .iload_n 3, 1), (45, .invokevirtual 379, 3), (48, .aload_n 0, 1), (49, .getfield 64, 3), (52, .iload_n 2, 1), (53, .invokevirtual 383, 3), (56, .ireturn, 1)]
theorem dtX10_ruled : dec_ok mX10_ruled.2.1 tX10_ruled = true := by decide +kernel
set_option maxHeartbeats 4000000 in
theorem q_ruled {I : Wd} {K N P R p : Nat} {cc : List Int32} {E : Nat → Nat} {c kn : Int32} (hI : RH I K N P R cc E) (hc : vp_in c 64) (hp : p < 3) : CalQ SyC mX10_ruled 4 [.ref 0, .int c, .int (nI p), .int kn] I (fun r I' => r = some (.int (vT cc E (fctC I K N P c kn) p)) ∧ ∀ a, a ≠ 96 → a ≠ 97 → I' a = I a) := by
  refine CalQ.of (by decide) (Nat.le_of_ble_eq_true rfl) ?_
  show BdQ _ _ _ _ [(0, _), (1, _), (2, _), (3, _)] _ _ _
  refine BdQ.l (fun _ _ k => b_aload_n (pc := 0) (i := 0) (dd dtX10_ruled 0 rfl) rfl rfl k) ?_
  refine BdQ.l (fun _ _ k => b_geta (pc := 1) (dd dtX10_ruled 1 rfl) fwX10_38 pC_0 rC_0_5 k) ?_
  refine BdQ.l (fun _ _ k => b_iload_n (pc := 4) (i := 1) (dd dtX10_ruled 2 rfl) rfl rfl k) ?_
  refine BdQ.l (fun _ _ k => b_iload_n (pc := 5) (i := 3) (dd dtX10_ruled 3 rfl) rfl rfl k) ?_
  refine BdQ.l (fun _ _ k => b_ic0 (pc := 6) (dd dtX10_ruled 4 rfl) k) ?_
  refine BdQ.l (fun _ _ k => b_invV (pc := 7) (dd dtX10_ruled 5 rfl) mlX10_196 mvX6_least miX6_least (c_X6_least hI.1.1 hI.1.2) oC_42 rfl rfl (by decide) (Nat.le_of_ble_eq_true rfl) k) ?_
  refine BdQ.l (fun _ _ k => b_istore (pc := 10) (i := 4) (lv' := [(4, _), (0, _), (1, _), (2, _), (3, _)]) (dd dtX10_ruled 6 rfl) (Nat.le_of_ble_eq_true rfl) rfl k) ?_
  refine BdQ.l (fun _ _ k => b_aload_n (pc := 12) (i := 0) (dd dtX10_ruled 7 rfl) rfl rfl k) ?_
  refine BdQ.l (fun _ _ k => b_geta (pc := 13) (dd dtX10_ruled 8 rfl) fwX10_38 pC_0 rC_0_5 k) ?_
  refine BdQ.l (fun _ _ k => b_iload_n (pc := 16) (i := 1) (dd dtX10_ruled 9 rfl) rfl rfl k) ?_
  refine BdQ.l (fun _ _ k => b_iload_n (pc := 17) (i := 3) (dd dtX10_ruled 10 rfl) rfl rfl k) ?_
  refine BdQ.l (fun _ _ k => b_ic0 (pc := 18) (dd dtX10_ruled 11 rfl) k) ?_
  refine BdQ.l (fun _ _ k => b_invV (pc := 19) (dd dtX10_ruled 12 rfl) mlX10_199 mvX6_most miX6_most (c_X6_most hI.1.1 hI.1.2) oC_42 rfl rfl (by decide) (Nat.le_of_ble_eq_true rfl) k) ?_
  refine BdQ.l (fun _ _ k => b_istore (pc := 22) (i := 5) (lv' := [(5, _), (4, _), (0, _), (1, _), (2, _), (3, _)]) (dd dtX10_ruled 13 rfl) (Nat.le_of_ble_eq_true rfl) rfl k) ?_
  refine BdQ.l (fun _ _ k => b_aload_n (pc := 24) (i := 0) (dd dtX10_ruled 14 rfl) rfl rfl k) ?_
  refine BdQ.l (fun _ _ k => b_geta (pc := 25) (dd dtX10_ruled 15 rfl) fwX10_64 pC_0 rC_0_9 k) ?_
  refine BdQ.l (fun _ _ k => b_iload (pc := 28) (i := 4) (dd dtX10_ruled 16 rfl) rfl k) ?_
  refine BdQ.l (fun _ _ k => b_iload (pc := 30) (i := 5) (dd dtX10_ruled 17 rfl) rfl k) ?_
  refine BdQ.l (fun _ _ k => b_invV (pc := 32) (dd dtX10_ruled 18 rfl) mlX10_376 mvX4_tellSpan miX4_tellSpan (c_X4_tellSpan) oC_66 rfl rfl (by decide) (Nat.le_of_ble_eq_true rfl) k) ?_
  refine BdQ.l (fun _ _ k => b_aload_n (pc := 35) (i := 0) (dd dtX10_ruled 19 rfl) rfl rfl k) ?_
  refine BdQ.l (fun _ _ k => b_geta (pc := 36) (dd dtX10_ruled 20 rfl) fwX10_64 pC_0 rC_0_9 k) ?_
  refine BdQ.l (fun _ _ k => b_aload_n (pc := 39) (i := 0) (dd dtX10_ruled 21 rfl) rfl rfl k) ?_
  refine BdQ.l (fun _ _ k => b_geta (pc := 40) (dd dtX10_ruled 22 rfl) fwX10_21 pC_0 rC_0_1 k) ?_
  refine BdQ.l (fun _ _ k => b_iload_n (pc := 43) (i := 1) (dd dtX10_ruled 23 rfl) rfl rfl k) ?_
  refine BdQ.l (fun _ _ k => b_iload_n (pc := 44) (i := 3) (dd dtX10_ruled 24 rfl) rfl rfl k) ?_
  refine BdQ.l (fun _ _ k => b_invV (pc := 45) (dd dtX10_ruled 25 rfl) mlX10_379 mvX4_tellGround miX4_tellGround (c_X4_tellGround (N := N) (P := P) hc (by rw [ist_ne (by decide), ist_ne (by decide), ist_ne (by decide)]; exact hI.2.1.1) hI.2.1.2 (by rw [ist_ne (by decide), ist_ne (by decide), ist_ne (by decide)]; exact hI.2.2.1.1) hI.2.2.1.2) oC_66 rfl rfl (by decide) (Nat.le_of_ble_eq_true rfl) k) ?_
  generalize hG : ist (ist (ist (ist (ist (ist (ist (ist I 96 0 _) 96 1 _) 96 2 _) 96 3 _) 96 4 _) 96 5 _) 96 6 _) 96 7 _ = G
  have hGf : ∀ a, a ≠ 96 → G a = I a := by
    intro a ha
    rw [← hG]
    simp only [ist_ne ha]
  have hG2 : ∀ i, i < 8 → G 96 i = fctC I K N P c kn i := by
    intro i hi
    rw [← hG]
    simp (disch := decide) only [ist_eq, ist_ne]
    rcases (show i = 0 ∨ i = 1 ∨ i = 2 ∨ i = 3 ∨ i = 4 ∨ i = 5 ∨ i = 6 ∨ i = 7 by omega) with rfl | rfl | rfl | rfl | rfl | rfl | rfl | rfl <;> rfl
  have hGR := hI.fr (W := G) (fun a h1 h2 => hGf a h1)
  obtain ⟨_, I53, ⟨rfl, R53⟩, k53⟩ := q_value hGR.2.2.2.1.1 hGR.2.2.2.1.2 hp hGR.2.2.2.2.1 hGR.2.2.2.2.2 (hGR.2.2.2.2.2.1 (G 96) p hp)
  rw [vT_congr hG2] at k53
  refine BdQ.l (fun _ _ k => b_aload_n (pc := 48) (i := 0) (dd dtX10_ruled 26 rfl) rfl rfl k) ?_
  refine BdQ.l (fun _ _ k => b_geta (pc := 49) (dd dtX10_ruled 27 rfl) fwX10_64 pC_0 rC_0_9 k) ?_
  refine BdQ.l (fun _ _ k => b_iload_n (pc := 52) (i := 2) (dd dtX10_ruled 28 rfl) rfl rfl k) ?_
  refine BdQ.l (fun _ _ k => b_invV (pc := 53) (dd dtX10_ruled 29 rfl) mlX10_383 mvX4_value miX4_value (k53) oC_66 rfl rfl (by decide) (Nat.le_of_ble_eq_true rfl) k) ?_
  refine ⟨_, _, ?_, b_iret (dd dtX10_ruled 30 rfl) rfl⟩
  exact ⟨rfl, fun a h1 h2 => by rw [R53 a h2]; exact hGf a h1⟩
def tX10_law : List (Nat × Instr × Nat) := [(0, .iload_n 1, 1), (1, .invokestatic 93, 3), (4, .ifCond .eq 20, 3), (7, .iload_n 2, 1), (8, .iconst 0, 1), (9, .iconst 2, 1), (10, .invokestatic 97, 3), (13, .ifCond .eq 11, 3), (16, .aload_n 0, 1), (17, .iload_n 3, 1), (18, .invokevirtual 172, 3), (21, .ifCond .ne 7, 3), (24, .ldc2_w 256, 3), (27, .lreturn, 1), (28, .aload_n 0, 1), (29, .iload_n 1, 1), (30, .iload_n 2, 1), (31, .iload_n 3, 1), (32, .invokevirtual 258, 3), (35, .i2l, 1), (36, .lreturn, 1)]
theorem dtX10_law : dec_ok mX10_law.2.1 tX10_law = true := by decide +kernel
set_option maxHeartbeats 4000000 in
theorem q_law {I : Wd} {K N P R : Nat} {cc : List Int32} {E : Nat → Nat} {c part kn : Int32} (hI : RH I K N P R cc E) : CalQ SyC mX10_law 5 [.ref 0, .int c, .int part, .int kn] I (fun r I' => r = some (.long (vLaw (I 6 1) c part kn (vT cc E (fctC I K N P c kn)))) ∧ ∀ a, a ≠ 96 → a ≠ 97 → I' a = I a) := by
  refine CalQ.of (by decide) (Nat.le_of_ble_eq_true rfl) ?_
  show BdQ _ _ _ _ [(0, _), (1, _), (2, _), (3, _)] _ _ _
  refine BdQ.l (fun _ _ k => b_iload_n (pc := 0) (i := 1) (dd dtX10_law 0 rfl) rfl rfl k) ?_
  refine BdQ.l (fun _ _ k => b_invS (pc := 1) (dd dtX10_law 1 rfl) mlX10_93 mvX10_isCell msX10_isCell (c_X10_isCell) rfl rfl (by decide) (Nat.le_of_ble_eq_true rfl) k) ?_
  refine BdQ.c (fun _ _ k1 k2 => b_ifb_eq (pc := 4) (tgt := 24) (dd dtX10_law 2 rfl) (by decide) k1 k2) (fun h4 => ?_) (fun h4 => ?_)
  · refine BdQ.l (fun _ _ k => b_ldc2 (pc := 24) (dd dtX10_law 12 rfl) kcX10_256 k) ?_
    refine ⟨_, _, ?_, b_lret (dd dtX10_law 13 rfl) rfl⟩
    first
    | exact ⟨by rw [vLaw, if_pos ⟨h4, h13, h21⟩, nI_clamp (show p < 2 ^ 31 by omega)], R32⟩
    | exact ⟨by rw [vLaw, if_neg (fun q => by first | exact h4 q.1 | exact h13 q.2.1 | exact h21 q.2.2)]; rfl, fun _ _ _ => rfl⟩
  · refine BdQ.l (fun _ _ k => b_iload_n (pc := 7) (i := 2) (dd dtX10_law 3 rfl) rfl rfl k) ?_
    refine BdQ.l (fun _ _ k => b_ic0 (pc := 8) (dd dtX10_law 4 rfl) k) ?_
    refine BdQ.l (fun _ _ k => b_ic2 (pc := 9) (dd dtX10_law 5 rfl) k) ?_
    refine BdQ.l (fun _ _ k => b_invS (pc := 10) (dd dtX10_law 6 rfl) mlX10_97 mvX10_within msX10_within (c_X10_within) rfl rfl (by decide) (Nat.le_of_ble_eq_true rfl) k) ?_
    refine BdQ.c (fun _ _ k1 k2 => b_ifb_eq (pc := 13) (tgt := 24) (dd dtX10_law 7 rfl) (by decide) k1 k2) (fun h13 => ?_) (fun h13 => ?_)
    · refine BdQ.l (fun _ _ k => b_ldc2 (pc := 24) (dd dtX10_law 12 rfl) kcX10_256 k) ?_
      refine ⟨_, _, ?_, b_lret (dd dtX10_law 13 rfl) rfl⟩
      first
      | exact ⟨by rw [vLaw, if_pos ⟨h4, h13, h21⟩, nI_clamp (show p < 2 ^ 31 by omega)], R32⟩
      | exact ⟨by rw [vLaw, if_neg (fun q => by first | exact h4 q.1 | exact h13 q.2.1 | exact h21 q.2.2)]; rfl, fun _ _ _ => rfl⟩
    · refine BdQ.l (fun _ _ k => b_aload_n (pc := 16) (i := 0) (dd dtX10_law 8 rfl) rfl rfl k) ?_
      refine BdQ.l (fun _ _ k => b_iload_n (pc := 17) (i := 3) (dd dtX10_law 9 rfl) rfl rfl k) ?_
      refine BdQ.l (fun _ _ k => b_invV (pc := 18) (dd dtX10_law 10 rfl) mlX10_172 mvX10_isKnown miX10_isKnown (c_X10_isKnown) oC_0 rfl rfl (by decide) (Nat.le_of_ble_eq_true rfl) k) ?_
      refine BdQ.b (fun _ _ k1 k2 => b_ifb_ne (pc := 21) (tgt := 28) (dd dtX10_law 11 rfl) (by decide) k1 k2) (fun h21 => ?_) (fun h21 => ?_)
      · obtain ⟨p, rfl, hp⟩ := part3 h13
        refine BdQ.l (fun _ _ k => b_aload_n (pc := 28) (i := 0) (dd dtX10_law 14 rfl) rfl rfl k) ?_
        refine BdQ.l (fun _ _ k => b_iload_n (pc := 29) (i := 1) (dd dtX10_law 15 rfl) rfl rfl k) ?_
        refine BdQ.l (fun _ _ k => b_iload_n (pc := 30) (i := 2) (dd dtX10_law 16 rfl) rfl rfl k) ?_
        refine BdQ.l (fun _ _ k => b_iload_n (pc := 31) (i := 3) (dd dtX10_law 17 rfl) rfl rfl k) ?_
        obtain ⟨_, I32, ⟨rfl, R32⟩, k32⟩ := q_ruled hI (vpc h4 (by decide)) hp (kn := kn)
        refine BdQ.l (fun _ _ k => b_invV (pc := 32) (dd dtX10_law 18 rfl) mlX10_258 mvX10_ruled miX10_ruled (k32) oC_0 rfl rfl (by decide) (Nat.le_of_ble_eq_true rfl) k) ?_
        refine BdQ.l (fun _ _ k => b_i2l (pc := 35) (dd dtX10_law 19 rfl) k) ?_
        refine ⟨_, _, ?_, b_lret (dd dtX10_law 20 rfl) rfl⟩
        first
        | exact ⟨by rw [vLaw, if_pos ⟨h4, h13, h21⟩, nI_clamp (show p < 2 ^ 31 by omega)], R32⟩
        | exact ⟨by rw [vLaw, if_neg (fun q => by first | exact h4 q.1 | exact h13 q.2.1 | exact h21 q.2.2)]; rfl, fun _ _ _ => rfl⟩
      · refine BdQ.l (fun _ _ k => b_ldc2 (pc := 24) (dd dtX10_law 12 rfl) kcX10_256 k) ?_
        refine ⟨_, _, ?_, b_lret (dd dtX10_law 13 rfl) rfl⟩
        first
        | exact ⟨by rw [vLaw, if_pos ⟨h4, h13, h21⟩, nI_clamp (show p < 2 ^ 31 by omega)], R32⟩
        | exact ⟨by rw [vLaw, if_neg (fun q => by first | exact h4 q.1 | exact h13 q.2.1 | exact h21 q.2.2)]; rfl, fun _ _ _ => rfl⟩
def mvC (pp : Nat → Int32) (V : Nat → Int32) : Nat → Int64
  | 0 => 0
  | c + 1 => if 0 < pp c ∧ ¬ V c = 0 then mvC pp V c ||| ((1 : Int64) <<< ((nI c).toInt64 &&& 63)) else mvC pp V c
def ppC (I : Wd) (N c : Nat) : Int32 := sPeople (I 2) (I 14) (I 15) (I 4) (nI c) N
theorem ppC_eq {I W : Wd} {N c : Nat} (h : ∀ a, a ≠ 96 → a ≠ 97 → W a = I a) : ppC W N c = ppC I N c := by
  unfold ppC
  rw [h 2 (by decide) (by decide), h 14 (by decide) (by decide), h 15 (by decide) (by decide), h 4 (by decide) (by decide)]
def tX10_moved : List (Nat × Instr × Nat) := [(0, .aload_n 0, 1), (1, .iload_n 1, 1), (2, .invokevirtual 172, 3), (5, .ifCond .ne 7, 3), (8, .ldc2_w 256, 3), (11, .lreturn, 1), (12, .lconst 0, 1), (13, .lstore_n 2, 1), (14, .iconst 0, 1), (15, .istore 4, 2), (17, .iload 4, 2), (19, .bipush 64, 2), (21, .if_icmp .ge 39, 3), (24, .aload_n 0, 1), (25, .getfield 21, 3), (28, .iload 4, 2), (30, .invokevirtual 261, 3), (33, .ifCond .le 21, 3), (36, .aload_n 0, 1), (37, .iload 4, 2), (39, .iconst 1, 1), (40, .iload_n 1, 1), (41, .invokevirtual 258, 3), (44, .ifCond .eq 10, 3), (47, .lload_n 2, 1), (48, .lconst 1, 1), (49, .iload 4, 2), (51, .lshl, 1), (52, .lor, 1), (53, .lstore_n 2, 1), (54, .iinc 4 1, 3), (57, .goto (-40), 3), (60, .lload_n 2, 1), (61, .lreturn, 1)]
theorem dtX10_moved : dec_ok mX10_moved.2.1 tX10_moved = true := by decide +kernel
set_option maxHeartbeats 1000000 in
theorem lr_moved {I : Wd} {K N P R : Nat} {cc : List Int32} {E : Nat → Nat} {kn : Int32} (hI : RH I K N P R cc E) : ∀ (m h : Nat) (x4 : Int32) (x2 : Int64) (W : Wd), h + m = 64 → x4 = nI h → x2 = (mvC (ppC I N) (fun c => vT cc E (fctC I K N P (nI c) kn) 1) h) → (∀ a, a ≠ 96 → a ≠ 97 → W a = I a) → BdQ SyC mX10_moved 5 17 [(4, .int x4), (2, .long x2), (0, .ref 0), (1, .int kn)] [] W (fun r I' => r = some (.long (mvC (ppC I N) (fun c => vT cc E (fctC I K N P (nI c) kn) 1) 64)) ∧ ∀ a, a ≠ 96 → a ≠ 97 → I' a = I a) := by
  intro m
  induction m with
  | zero =>
    intro h x4 x2 W hh e4 e2 hW
    subst e4; subst e2
    refine BdQ.l (fun _ _ k => b_iload (pc := 17) (i := 4) (dd dtX10_moved 10 rfl) rfl k) ?_
    refine BdQ.l (fun _ _ k => b_bipush (pc := 19) (v := 64) (dd dtX10_moved 11 rfl) (by decide) k) ?_
    refine BdQ.c (fun _ _ k1 k2 => b_icmpL_ge (pc := 21) (tgt := 60) (dd dtX10_moved 12 rfl) (by decide) k1 k2) (fun h21 => ?_) (fun h21 => ?_)
    · refine BdQ.l (fun _ _ k => b_lload_n (pc := 60) (i := 2) (dd dtX10_moved 32 rfl) rfl rfl k) ?_
      refine ⟨_, _, ?_, b_lret (dd dtX10_moved 33 rfl) rfl⟩
      exact ⟨by rw [show h = 64 by omega], hW⟩
    · exact absurd h21 (by rw [show h = 64 by omega]; decide)
  | succ m ih =>
    intro h x4 x2 W hh e4 e2 hW
    subst e4; subst e2
    have hR := hI.fr hW
    refine BdQ.l (fun _ _ k => b_iload (pc := 17) (i := 4) (dd dtX10_moved 10 rfl) rfl k) ?_
    refine BdQ.l (fun _ _ k => b_bipush (pc := 19) (v := 64) (dd dtX10_moved 11 rfl) (by decide) k) ?_
    refine BdQ.c (fun _ _ k1 k2 => b_icmpL_ge (pc := 21) (tgt := 60) (dd dtX10_moved 12 rfl) (by decide) k1 k2) (fun h21 => ?_) (fun h21 => ?_)
    · exact absurd (nI_lt (show h < 64 by omega) (by decide)) h21
    · refine BdQ.l (fun _ _ k => b_aload_n (pc := 24) (i := 0) (dd dtX10_moved 13 rfl) rfl rfl k) ?_
      refine BdQ.l (fun _ _ k => b_geta (pc := 25) (dd dtX10_moved 14 rfl) fwX10_21 pC_0 rC_0_1 k) ?_
      refine BdQ.l (fun _ _ k => b_iload (pc := 28) (i := 4) (dd dtX10_moved 15 rfl) rfl k) ?_
      refine BdQ.l (fun _ _ k => b_invV (pc := 30) (dd dtX10_moved 16 rfl) mlX10_261 mvX2_peopleAt miX2_peopleAt (c_X2_peopleAt_6 hR.2.1.1 hR.2.1.2) oC_6 rfl rfl (by decide) (Nat.le_of_ble_eq_true rfl) k) ?_
      show BdQ _ _ _ _ _ [.int (ppC W N h)] _ _
      rw [ppC_eq hW]
      refine BdQ.c (fun _ _ k1 k2 => b_ifL_le (pc := 33) (tgt := 54) (dd dtX10_moved 17 rfl) (by decide) k1 k2) (fun h33 => ?_) (fun h33 => ?_)
      · refine BdQ.l (fun _ _ k => b_iinc1 (pc := 54) (i := 4) (lv' := [(4, _), (2, _), (0, _), (1, _)]) (dd dtX10_moved 30 rfl) rfl (Nat.le_of_ble_eq_true rfl) rfl k) ?_
        refine BdQ.l (fun _ _ k => b_goto (pc := 57) (tgt := 17) (dd dtX10_moved 31 rfl) (by decide) k) ?_
        rw [nI_1]
        first
        | exact ih (h + 1) _ _ _ (by omega) rfl (if_neg (fun q => h33 q.1)).symm hW
        | exact ih (h + 1) _ _ _ (by omega) rfl (if_neg (fun q => q.2 h44)).symm (fun a h1 h2 => by rw [R41 a h1 h2]; exact hW a h1 h2)
        | exact ih (h + 1) _ _ _ (by omega) rfl (if_pos ⟨h33, h44⟩).symm (fun a h1 h2 => by rw [R41 a h1 h2]; exact hW a h1 h2)
      · refine BdQ.l (fun _ _ k => b_aload_n (pc := 36) (i := 0) (dd dtX10_moved 18 rfl) rfl rfl k) ?_
        refine BdQ.l (fun _ _ k => b_iload (pc := 37) (i := 4) (dd dtX10_moved 19 rfl) rfl k) ?_
        refine BdQ.l (fun _ _ k => b_ic1 (pc := 39) (dd dtX10_moved 20 rfl) k) ?_
        refine BdQ.l (fun _ _ k => b_iload_n (pc := 40) (i := 1) (dd dtX10_moved 21 rfl) rfl rfl k) ?_
        obtain ⟨_, I41, ⟨rfl, R41⟩, k41⟩ := q_ruled hR (vpn rfl (show h < 64 by omega) (by decide)) (show 1 < 3 by decide) (c := nI h) (kn := kn)
        rw [fctC_eq hW] at k41
        refine BdQ.l (fun _ _ k => b_invV (pc := 41) (dd dtX10_moved 22 rfl) mlX10_258 mvX10_ruled miX10_ruled (k41) oC_0 rfl rfl (by decide) (Nat.le_of_ble_eq_true rfl) k) ?_
        refine BdQ.b (fun _ _ k1 k2 => b_if_eq (pc := 44) (tgt := 54) (dd dtX10_moved 23 rfl) (by decide) k1 k2) (fun h44 => ?_) (fun h44 => ?_)
        · refine BdQ.l (fun _ _ k => b_iinc1 (pc := 54) (i := 4) (lv' := [(4, _), (2, _), (0, _), (1, _)]) (dd dtX10_moved 30 rfl) rfl (Nat.le_of_ble_eq_true rfl) rfl k) ?_
          refine BdQ.l (fun _ _ k => b_goto (pc := 57) (tgt := 17) (dd dtX10_moved 31 rfl) (by decide) k) ?_
          rw [nI_1]
          first
          | exact ih (h + 1) _ _ _ (by omega) rfl (if_neg (fun q => h33 q.1)).symm hW
          | exact ih (h + 1) _ _ _ (by omega) rfl (if_neg (fun q => q.2 h44)).symm (fun a h1 h2 => by rw [R41 a h1 h2]; exact hW a h1 h2)
          | exact ih (h + 1) _ _ _ (by omega) rfl (if_pos ⟨h33, h44⟩).symm (fun a h1 h2 => by rw [R41 a h1 h2]; exact hW a h1 h2)
        · refine BdQ.l (fun _ _ k => b_lload_n (pc := 47) (i := 2) (dd dtX10_moved 24 rfl) rfl rfl k) ?_
          refine BdQ.l (fun _ _ k => b_lconst (pc := 48) (v := 1) (dd dtX10_moved 25 rfl) (by decide) k) ?_
          refine BdQ.l (fun _ _ k => b_iload (pc := 49) (i := 4) (dd dtX10_moved 26 rfl) rfl k) ?_
          refine BdQ.l (fun _ _ k => b_lshl (pc := 51) (dd dtX10_moved 27 rfl) k) ?_
          refine BdQ.l (fun _ _ k => b_lor (pc := 52) (dd dtX10_moved 28 rfl) k) ?_
          refine BdQ.l (fun _ _ k => b_lstore_n (pc := 53) (i := 2) (lv' := [(2, _), (4, _), (0, _), (1, _)]) (dd dtX10_moved 29 rfl) rfl ⟨Nat.le_of_ble_eq_true rfl, Nat.le_of_ble_eq_true rfl⟩ rfl k) ?_
          refine BdQ.l (fun _ _ k => b_iinc1 (pc := 54) (i := 4) (lv' := [(4, _), (2, _), (0, _), (1, _)]) (dd dtX10_moved 30 rfl) rfl (Nat.le_of_ble_eq_true rfl) rfl k) ?_
          refine BdQ.l (fun _ _ k => b_goto (pc := 57) (tgt := 17) (dd dtX10_moved 31 rfl) (by decide) k) ?_
          rw [nI_1]
          first
          | exact ih (h + 1) _ _ _ (by omega) rfl (if_neg (fun q => h33 q.1)).symm hW
          | exact ih (h + 1) _ _ _ (by omega) rfl (if_neg (fun q => q.2 h44)).symm (fun a h1 h2 => by rw [R41 a h1 h2]; exact hW a h1 h2)
          | exact ih (h + 1) _ _ _ (by omega) rfl (if_pos ⟨h33, h44⟩).symm (fun a h1 h2 => by rw [R41 a h1 h2]; exact hW a h1 h2)
set_option maxHeartbeats 4000000 in
theorem q_moved {I : Wd} {K N P R : Nat} {cc : List Int32} {E : Nat → Nat} {kn : Int32} (hI : RH I K N P R cc E) : CalQ SyC mX10_moved 5 [.ref 0, .int kn] I (fun r I' => r = some (.long (if inR kn 0 (I 6 1) then (mvC (ppC I N) (fun c => vT cc E (fctC I K N P (nI c) kn) 1) 64) else NOl)) ∧ ∀ a, a ≠ 96 → a ≠ 97 → I' a = I a) := by
  refine CalQ.of (by decide) (Nat.le_of_ble_eq_true rfl) ?_
  show BdQ _ _ _ _ [(0, _), (1, _)] _ _ _
  refine BdQ.l (fun _ _ k => b_aload_n (pc := 0) (i := 0) (dd dtX10_moved 0 rfl) rfl rfl k) ?_
  refine BdQ.l (fun _ _ k => b_iload_n (pc := 1) (i := 1) (dd dtX10_moved 1 rfl) rfl rfl k) ?_
  refine BdQ.l (fun _ _ k => b_invV (pc := 2) (dd dtX10_moved 2 rfl) mlX10_172 mvX10_isKnown miX10_isKnown (c_X10_isKnown) oC_0 rfl rfl (by decide) (Nat.le_of_ble_eq_true rfl) k) ?_
  refine BdQ.b (fun _ _ k1 k2 => b_ifb_ne (pc := 5) (tgt := 12) (dd dtX10_moved 3 rfl) (by decide) k1 k2) (fun h5 => ?_) (fun h5 => ?_)
  · refine BdQ.l (fun _ _ k => b_lconst (pc := 12) (v := 0) (dd dtX10_moved 6 rfl) (by decide) k) ?_
    refine BdQ.l (fun _ _ k => b_lstore_n (pc := 13) (i := 2) (lv' := [(2, _), (0, _), (1, _)]) (dd dtX10_moved 7 rfl) rfl ⟨Nat.le_of_ble_eq_true rfl, Nat.le_of_ble_eq_true rfl⟩ rfl k) ?_
    refine BdQ.l (fun _ _ k => b_ic0 (pc := 14) (dd dtX10_moved 8 rfl) k) ?_
    refine BdQ.l (fun _ _ k => b_istore (pc := 15) (i := 4) (lv' := [(4, _), (2, _), (0, _), (1, _)]) (dd dtX10_moved 9 rfl) (Nat.le_of_ble_eq_true rfl) rfl k) ?_
    rw [if_pos h5]
    exact lr_moved hI 64 0 _ _ _ (by omega) rfl rfl (fun _ _ _ => rfl)
  · refine BdQ.l (fun _ _ k => b_ldc2 (pc := 8) (dd dtX10_moved 4 rfl) kcX10_256 k) ?_
    refine ⟨_, _, ?_, b_lret (dd dtX10_moved 5 rfl) rfl⟩
    exact ⟨by rw [if_neg h5]; rfl, fun _ _ _ => rfl⟩
theorem hse {N : Nat} {h : Int32} (hN : N ≤ 14) (h1 : inR h 0 (nI N - 1)) : vp_in h 14 ∧ h.toNatClampNeg < N := by
  obtain ⟨j, e, hj, hc⟩ := inR_n h1 (by omega)
  exact ⟨vpn e (by omega) (by decide), by rw [hc]; exact hj⟩
def clp (x : Int32) : Int32 := mx 0 (mn x 99)
theorem clp_in (x : Int32) : ∃ k, clp x = nI k ∧ k ≤ 99 := by
  unfold clp
  by_cases h1 : 99 < x
  · rw [show mn x 99 = 99 from if_pos h1]
    exact ⟨99, by decide, by decide⟩
  · rw [show mn x 99 = x from if_neg h1]
    by_cases h2 : 0 < x
    · rw [show mx 0 x = x from if_pos h2]
      have h3 : inR x 0 99 := ⟨fun q => by rw [Int32.lt_iff_toInt_lt] at q h2; omega, h1⟩
      obtain ⟨j, e, h4, h5⟩ := nI_rng h3
      exact ⟨j, e, by have : (99 : Int32).toInt = 99 := rfl; omega⟩
    · rw [show mx 0 x = 0 from if_neg h2]
      exact ⟨0, rfl, by decide⟩
def firmC (harm owed : Int32) : Int32 := harm * clp owed / (clp owed + 1)
def vPart (nh h what : Int32) (gone : Nat → Int32) (firm harm : Int32) : Int64 := if inR h 0 (nh - 1) ∧ inR what 0 1 then (if gone h.toNatClampNeg < 0 then -3 else if what = 0 then firm.toInt64 else (harm - firm).toInt64) else NOl
def tX10_part : List (Nat × Instr × Nat) := [(0, .aload_n 0, 1), (1, .iload_n 1, 1), (2, .invokevirtual 131, 3), (5, .ifCond .eq 12, 3), (8, .iload_n 2, 1), (9, .iconst 0, 1), (10, .iconst 1, 1), (11, .invokestatic 97, 3), (14, .ifCond .ne 7, 3), (17, .ldc2_w 256, 3), (20, .lreturn, 1), (21, .aload_n 0, 1), (22, .getfield 21, 3), (25, .getfield 134, 3), (28, .iload_n 1, 1), (29, .iaload, 1), (30, .ifCond .ge 7, 3), (33, .ldc2_w 264, 3), (36, .lreturn, 1), (37, .aload_n 0, 1), (38, .aload_n 0, 1), (39, .getfield 10, 3), (42, .getfield 266, 3), (45, .iload_n 1, 1), (46, .iaload, 1), (47, .iconst 2, 1), (48, .aload_n 0, 1), (49, .getfield 21, 3), (52, .getfield 134, 3), (55, .iload_n 1, 1), (56, .iaload, 1), (57, .invokevirtual 258, 3), (60, .istore_n 3, 1), (61, .iconst 0, 1), (62, .iload_n 3, 1), (63, .bipush 99, 2), (65, .invokestatic 269, 3), (68, .invokestatic 274, 3), (71, .istore 4, 2), (73, .aload_n 0, 1), (74, .getfield 21, 3), (77, .iload_n 1, 1), (78, .invokevirtual 277, 3), (81, .istore 5, 2), (83, .iload 5, 2), (85, .iload 4, 2), (87, .imul, 1), (88, .iload 4, 2), (90, .iconst 1, 1), (91, .iadd, 1), (92, .idiv, 1), (93, .istore 6, 2), (95, .iload_n 2, 1), (96, .ifCond .ne 9, 3), (99, .iload 6, 2), (101, .i2l, 1), (102, .goto 9, 3), (105, .iload 5, 2), (107, .iload 6, 2), (109, .isub, 1), (110, .i2l, 1), (111, .lreturn, 1)]
theorem dtX10_part : dec_ok mX10_part.2.1 tX10_part = true := by decide +kernel
set_option maxHeartbeats 4000000 in
theorem q_part {I : Wd} {K N P R : Nat} {cc : List Int32} {E : Nat → Nat} {h what : Int32} (hI : RH I K N P R cc E) (hcell : ∀ i, i < N → vp_in (I 2 i) 64) : CalQ SyC mX10_part 5 [.ref 0, .int h, .int what] I (fun r I' => r = some (.long (vPart (I 1 0) h what (I 14) (firmC (sHarm (I 3) (I 4) (I 15) h.toNatClampNeg) (vT cc E (fctC I K N P (I 2 h.toNatClampNeg) (I 14 h.toNatClampNeg)) 2)) (sHarm (I 3) (I 4) (I 15) h.toNatClampNeg))) ∧ ∀ a, a ≠ 96 → a ≠ 97 → I' a = I a) := by
  refine CalQ.of (by decide) (Nat.le_of_ble_eq_true rfl) ?_
  show BdQ _ _ _ _ [(0, _), (1, _), (2, _)] _ _ _
  refine BdQ.l (fun _ _ k => b_aload_n (pc := 0) (i := 0) (dd dtX10_part 0 rfl) rfl rfl k) ?_
  refine BdQ.l (fun _ _ k => b_iload_n (pc := 1) (i := 1) (dd dtX10_part 1 rfl) rfl rfl k) ?_
  refine BdQ.l (fun _ _ k => b_invV (pc := 2) (dd dtX10_part 2 rfl) mlX10_131 mvX10_isHouse miX10_isHouse (c_X10_isHouse) oC_0 rfl rfl (by decide) (Nat.le_of_ble_eq_true rfl) k) ?_
  refine BdQ.c (fun _ _ k1 k2 => b_ifb_eq (pc := 5) (tgt := 17) (dd dtX10_part 3 rfl) (by decide) k1 k2) (fun h5 => ?_) (fun h5 => ?_)
  · refine BdQ.l (fun _ _ k => b_ldc2 (pc := 17) (dd dtX10_part 9 rfl) kcX10_256 k) ?_
    refine ⟨_, _, ?_, b_lret (dd dtX10_part 10 rfl) rfl⟩
    first
    | exact ⟨by rw [vPart, if_neg (fun q => by first | exact h5 q.1 | exact h14 q.2)]; rfl, fun _ _ _ => rfl⟩
    | exact ⟨by rw [vPart, if_pos ⟨h5, h14⟩, if_pos h30], fun _ _ _ => rfl⟩
    | (refine ⟨?_, R57⟩
       rw [vPart, if_pos ⟨h5, h14⟩, if_neg h30]
       rw [R57 3 (by decide) (by decide), R57 4 (by decide) (by decide), R57 15 (by decide) (by decide)]
       first
       | (rw [if_pos h96]; rfl)
       | (rw [if_neg h96]; rfl))
  · refine BdQ.l (fun _ _ k => b_iload_n (pc := 8) (i := 2) (dd dtX10_part 4 rfl) rfl rfl k) ?_
    refine BdQ.l (fun _ _ k => b_ic0 (pc := 9) (dd dtX10_part 5 rfl) k) ?_
    refine BdQ.l (fun _ _ k => b_ic1 (pc := 10) (dd dtX10_part 6 rfl) k) ?_
    refine BdQ.l (fun _ _ k => b_invS (pc := 11) (dd dtX10_part 7 rfl) mlX10_97 mvX10_within msX10_within (c_X10_within) rfl rfl (by decide) (Nat.le_of_ble_eq_true rfl) k) ?_
    refine BdQ.b (fun _ _ k1 k2 => b_ifb_ne (pc := 14) (tgt := 21) (dd dtX10_part 8 rfl) (by decide) k1 k2) (fun h14 => ?_) (fun h14 => ?_)
    · refine BdQ.l (fun _ _ k => b_aload_n (pc := 21) (i := 0) (dd dtX10_part 11 rfl) rfl rfl k) ?_
      refine BdQ.l (fun _ _ k => b_geta (pc := 22) (dd dtX10_part 12 rfl) fwX10_21 pC_0 rC_0_1 k) ?_
      refine BdQ.l (fun _ _ k => b_geta (pc := 25) (dd dtX10_part 13 rfl) fwX10_134 pC_6 rC_6_12 k) ?_
      refine BdQ.l (fun _ _ k => b_iload_n (pc := 28) (i := 1) (dd dtX10_part 14 rfl) rfl rfl k) ?_
      refine BdQ.l (fun _ _ k => b_iald (pc := 29) (dd dtX10_part 15 rfl) pC_14 ((hse hI.2.1.2 (by rw [← hI.2.1.1]; exact h5)).1) k) ?_
      refine BdQ.c (fun _ _ k1 k2 => b_ifL_ge (pc := 30) (tgt := 37) (dd dtX10_part 16 rfl) (by decide) k1 k2) (fun h30 => ?_) (fun h30 => ?_)
      · refine BdQ.l (fun _ _ k => b_aload_n (pc := 37) (i := 0) (dd dtX10_part 19 rfl) rfl rfl k) ?_
        refine BdQ.l (fun _ _ k => b_aload_n (pc := 38) (i := 0) (dd dtX10_part 20 rfl) rfl rfl k) ?_
        refine BdQ.l (fun _ _ k => b_geta (pc := 39) (dd dtX10_part 21 rfl) fwX10_10 pC_0 rC_0_0 k) ?_
        refine BdQ.l (fun _ _ k => b_geta (pc := 42) (dd dtX10_part 22 rfl) fwX10_266 pC_1 rC_1_2 k) ?_
        refine BdQ.l (fun _ _ k => b_iload_n (pc := 45) (i := 1) (dd dtX10_part 23 rfl) rfl rfl k) ?_
        refine BdQ.l (fun _ _ k => b_iald (pc := 46) (dd dtX10_part 24 rfl) pC_2 ((hse hI.2.1.2 (by rw [← hI.2.1.1]; exact h5)).1) k) ?_
        refine BdQ.l (fun _ _ k => b_ic2 (pc := 47) (dd dtX10_part 25 rfl) k) ?_
        refine BdQ.l (fun _ _ k => b_aload_n (pc := 48) (i := 0) (dd dtX10_part 26 rfl) rfl rfl k) ?_
        refine BdQ.l (fun _ _ k => b_geta (pc := 49) (dd dtX10_part 27 rfl) fwX10_21 pC_0 rC_0_1 k) ?_
        refine BdQ.l (fun _ _ k => b_geta (pc := 52) (dd dtX10_part 28 rfl) fwX10_134 pC_6 rC_6_12 k) ?_
        refine BdQ.l (fun _ _ k => b_iload_n (pc := 55) (i := 1) (dd dtX10_part 29 rfl) rfl rfl k) ?_
        refine BdQ.l (fun _ _ k => b_iald (pc := 56) (dd dtX10_part 30 rfl) pC_14 ((hse hI.2.1.2 (by rw [← hI.2.1.1]; exact h5)).1) k) ?_
        have hcc := hcell _ (hse hI.2.1.2 (by rw [← hI.2.1.1]; exact h5)).2
        obtain ⟨_, I57, ⟨rfl, R57⟩, k57⟩ := q_ruled hI hcc (show 2 < 3 by decide) (kn := I 14 h.toNatClampNeg)
        refine BdQ.l (fun _ _ k => b_invV (pc := 57) (dd dtX10_part 31 rfl) mlX10_258 mvX10_ruled miX10_ruled (k57) oC_0 rfl rfl (by decide) (Nat.le_of_ble_eq_true rfl) k) ?_
        refine BdQ.l (fun _ _ k => b_istore_n (pc := 60) (i := 3) (lv' := [(3, _), (0, _), (1, _), (2, _)]) (dd dtX10_part 32 rfl) rfl (Nat.le_of_ble_eq_true rfl) rfl k) ?_
        refine BdQ.l (fun _ _ k => b_ic0 (pc := 61) (dd dtX10_part 33 rfl) k) ?_
        refine BdQ.l (fun _ _ k => b_iload_n (pc := 62) (i := 3) (dd dtX10_part 34 rfl) rfl rfl k) ?_
        refine BdQ.l (fun _ _ k => b_bipush (pc := 63) (v := 99) (dd dtX10_part 35 rfl) (by decide) k) ?_
        refine BdQ.l (fun _ _ k => b_mmin (pc := 65) (dd dtX10_part 36 rfl) wlX10_269 (Nat.le_of_ble_eq_true rfl) k) ?_
        refine BdQ.l (fun _ _ k => b_mmax (pc := 68) (dd dtX10_part 37 rfl) wlX10_274 (Nat.le_of_ble_eq_true rfl) k) ?_
        show BdQ _ _ _ _ _ [.int (clp (vT cc E (fctC I K N P (I 2 h.toNatClampNeg) (I 14 h.toNatClampNeg)) 2))] _ _
        obtain ⟨k, ek, hk⟩ := clp_in (vT cc E (fctC I K N P (I 2 h.toNatClampNeg) (I 14 h.toNatClampNeg)) 2)
        refine BdQ.l (fun _ _ k => b_istore (pc := 71) (i := 4) (lv' := [(4, _), (3, _), (0, _), (1, _), (2, _)]) (dd dtX10_part 38 rfl) (Nat.le_of_ble_eq_true rfl) rfl k) ?_
        refine BdQ.l (fun _ _ k => b_aload_n (pc := 73) (i := 0) (dd dtX10_part 39 rfl) rfl rfl k) ?_
        refine BdQ.l (fun _ _ k => b_geta (pc := 74) (dd dtX10_part 40 rfl) fwX10_21 pC_0 rC_0_1 k) ?_
        refine BdQ.l (fun _ _ k => b_iload_n (pc := 77) (i := 1) (dd dtX10_part 41 rfl) rfl rfl k) ?_
        refine BdQ.l (fun _ _ k => b_invV (pc := 78) (dd dtX10_part 42 rfl) mlX10_277 mvX2_harmOf miX2_harmOf (c_X2_harmOf (g := 6) (Or.inl rfl) (hse hI.2.1.2 (by rw [← hI.2.1.1]; exact h5)).1) oC_6 rfl rfl (by decide) (Nat.le_of_ble_eq_true rfl) k) ?_
        refine BdQ.l (fun _ _ k => b_istore (pc := 81) (i := 5) (lv' := [(5, _), (4, _), (3, _), (0, _), (1, _), (2, _)]) (dd dtX10_part 43 rfl) (Nat.le_of_ble_eq_true rfl) rfl k) ?_
        refine BdQ.l (fun _ _ k => b_iload (pc := 83) (i := 5) (dd dtX10_part 44 rfl) rfl k) ?_
        refine BdQ.l (fun _ _ k => b_iload (pc := 85) (i := 4) (dd dtX10_part 45 rfl) rfl k) ?_
        refine BdQ.l (fun _ _ k => b_imul (pc := 87) (dd dtX10_part 46 rfl) k) ?_
        refine BdQ.l (fun _ _ k => b_iload (pc := 88) (i := 4) (dd dtX10_part 47 rfl) rfl k) ?_
        refine BdQ.l (fun _ _ k => b_ic1 (pc := 90) (dd dtX10_part 48 rfl) k) ?_
        refine BdQ.l (fun _ _ k => b_iadd (pc := 91) (dd dtX10_part 49 rfl) k) ?_
        refine BdQ.l (fun _ _ k => b_idiv (pc := 92) (dd dtX10_part 50 rfl) (by rw [ek, nI_1]; exact nI_ne0 (by omega) (by omega)) k) ?_
        refine BdQ.l (fun _ _ k => b_istore (pc := 93) (i := 6) (lv' := [(6, _), (5, _), (4, _), (3, _), (0, _), (1, _), (2, _)]) (dd dtX10_part 51 rfl) (Nat.le_of_ble_eq_true rfl) rfl k) ?_
        refine BdQ.l (fun _ _ k => b_iload_n (pc := 95) (i := 2) (dd dtX10_part 52 rfl) rfl rfl k) ?_
        refine BdQ.c (fun _ _ k1 k2 => b_if_ne (pc := 96) (tgt := 105) (dd dtX10_part 53 rfl) (by decide) k1 k2) (fun h96 => ?_) (fun h96 => ?_)
        · refine BdQ.l (fun _ _ k => b_iload (pc := 105) (i := 5) (dd dtX10_part 57 rfl) rfl k) ?_
          refine BdQ.l (fun _ _ k => b_iload (pc := 107) (i := 6) (dd dtX10_part 58 rfl) rfl k) ?_
          refine BdQ.l (fun _ _ k => b_isub (pc := 109) (dd dtX10_part 59 rfl) k) ?_
          refine BdQ.l (fun _ _ k => b_i2l (pc := 110) (dd dtX10_part 60 rfl) k) ?_
          refine ⟨_, _, ?_, b_lret (dd dtX10_part 61 rfl) rfl⟩
          first
          | exact ⟨by rw [vPart, if_neg (fun q => by first | exact h5 q.1 | exact h14 q.2)]; rfl, fun _ _ _ => rfl⟩
          | exact ⟨by rw [vPart, if_pos ⟨h5, h14⟩, if_pos h30], fun _ _ _ => rfl⟩
          | (refine ⟨?_, R57⟩
             rw [vPart, if_pos ⟨h5, h14⟩, if_neg h30]
             rw [R57 3 (by decide) (by decide), R57 4 (by decide) (by decide), R57 15 (by decide) (by decide)]
             first
             | (rw [if_pos h96]; rfl)
             | (rw [if_neg h96]; rfl))
        · refine BdQ.l (fun _ _ k => b_iload (pc := 99) (i := 6) (dd dtX10_part 54 rfl) rfl k) ?_
          refine BdQ.l (fun _ _ k => b_i2l (pc := 101) (dd dtX10_part 55 rfl) k) ?_
          refine BdQ.l (fun _ _ k => b_goto (pc := 102) (tgt := 111) (dd dtX10_part 56 rfl) (by decide) k) ?_
          refine ⟨_, _, ?_, b_lret (dd dtX10_part 61 rfl) rfl⟩
          first
          | exact ⟨by rw [vPart, if_neg (fun q => by first | exact h5 q.1 | exact h14 q.2)]; rfl, fun _ _ _ => rfl⟩
          | exact ⟨by rw [vPart, if_pos ⟨h5, h14⟩, if_pos h30], fun _ _ _ => rfl⟩
          | (refine ⟨?_, R57⟩
             rw [vPart, if_pos ⟨h5, h14⟩, if_neg h30]
             rw [R57 3 (by decide) (by decide), R57 4 (by decide) (by decide), R57 15 (by decide) (by decide)]
             first
             | (rw [if_pos h96]; rfl)
             | (rw [if_neg h96]; rfl))
      · refine BdQ.l (fun _ _ k => b_ldc2 (pc := 33) (dd dtX10_part 17 rfl) kcX10_264 k) ?_
        refine ⟨_, _, ?_, b_lret (dd dtX10_part 18 rfl) rfl⟩
        first
        | exact ⟨by rw [vPart, if_neg (fun q => by first | exact h5 q.1 | exact h14 q.2)]; rfl, fun _ _ _ => rfl⟩
        | exact ⟨by rw [vPart, if_pos ⟨h5, h14⟩, if_pos h30], fun _ _ _ => rfl⟩
        | (refine ⟨?_, R57⟩
           rw [vPart, if_pos ⟨h5, h14⟩, if_neg h30]
           rw [R57 3 (by decide) (by decide), R57 4 (by decide) (by decide), R57 15 (by decide) (by decide)]
           first
           | (rw [if_pos h96]; rfl)
           | (rw [if_neg h96]; rfl))
    · refine BdQ.l (fun _ _ k => b_ldc2 (pc := 17) (dd dtX10_part 9 rfl) kcX10_256 k) ?_
      refine ⟨_, _, ?_, b_lret (dd dtX10_part 10 rfl) rfl⟩
      first
      | exact ⟨by rw [vPart, if_neg (fun q => by first | exact h5 q.1 | exact h14 q.2)]; rfl, fun _ _ _ => rfl⟩
      | exact ⟨by rw [vPart, if_pos ⟨h5, h14⟩, if_pos h30], fun _ _ _ => rfl⟩
      | (refine ⟨?_, R57⟩
         rw [vPart, if_pos ⟨h5, h14⟩, if_neg h30]
         rw [R57 3 (by decide) (by decide), R57 4 (by decide) (by decide), R57 15 (by decide) (by decide)]
         first
         | (rw [if_pos h96]; rfl)
         | (rw [if_neg h96]; rfl))
