/-! the reference's law, moved, part -/
def vM0 (f : Nat → Int32) (p : Nat) : Int32 := if p = 0 then (if f 0 < 30 ∧ f 3 < 2 then 1 else 0) else if p = 1 then (if 60 < f 2 ∨ ¬ f 6 = 0 then 1 else 0) else f 5 * 3 + f 3
/-- what the reference holds of its rule: the text's worth is V of the facts -/
def LM (J : Wd) (R : Nat) (V : (Nat → Int32) → Nat → Int32) : Prop := J 0 46 = nI R ∧ R < 6 ∧ (∀ f g, (∀ i, i < 8 → f i = g i) → ∀ p, p < 3 → V f p = V g p) ∧ (R = 0 → ∀ f p, p < 3 → V f p = vM0 f p) ∧ (1 ≤ R → ∃ n b kd nm pl T, J 35 R = nI n ∧ n ≤ 160 ∧ (∀ i, i < n → BRel (b i) (J 34 (160 * R + i))) ∧ TokOK b n kd nm pl T ∧ ∀ f, gF kd nm f T 3 0 = none ∧ ∀ p, p < 3 → (gR kd nm f T (gT kd nm f T p)).2.2 = [V f p])
theorem LM.fr {J W : Wd} {R : Nat} {V : (Nat → Int32) → Nat → Int32} (h : LM J R V) (hW : Fr8 J W) : LM W R V := by
  unfold LM at h ⊢
  rw [hW.2 46 (by decide) (by decide) (by omega), hW.1 35 (by decide) (by omega), hW.1 34 (by decide) (by omega)]
  exact h
def tX11_lawOf : List (Nat × Instr × Nat) := [(0, .aload_n 0, 1), (1, .iload_n 1, 1), (2, .iload_n 3, 1), (3, .invokevirtual 392, 3), (6, .aload_n 0, 1), (7, .getfield 155, 3), (10, .ifCond .ne 86, 3), (13, .iload_n 2, 1), (14, .ifCond .ne 32, 3), (17, .aload_n 0, 1), (18, .getfield 191, 3), (21, .iconst 0, 1), (22, .iaload, 1), (23, .bipush 30, 2), (25, .if_icmp .ge 17, 3), (28, .aload_n 0, 1), (29, .getfield 191, 3), (32, .iconst 3, 1), (33, .iaload, 1), (34, .iconst 2, 1), (35, .if_icmp .ge 7, 3), (38, .iconst 1, 1), (39, .goto 56, 3), (42, .iconst 0, 1), (43, .goto 52, 3), (46, .iload_n 2, 1), (47, .iconst 1, 1), (48, .if_icmp .ne 32, 3), (51, .bipush 60, 2), (53, .aload_n 0, 1), (54, .getfield 191, 3), (57, .iconst 2, 1), (58, .iaload, 1), (59, .if_icmp .lt 13, 3), (62, .aload_n 0, 1), (63, .getfield 191, 3), (66, .bipush 6, 2), (68, .iaload, 1), (69, .ifCond .eq 7, 3), (72, .iconst 1, 1), (73, .goto 22, 3), (76, .iconst 0, 1), (77, .goto 18, 3), (80, .aload_n 0, 1), (81, .getfield 191, 3), (84, .iconst 5, 1), (85, .iaload, 1), (86, .iconst 3, 1), (87, .imul, 1), (88, .aload_n 0, 1), (89, .getfield 191, 3), (92, .iconst 3, 1), (93, .iaload, 1), (94, .iadd, 1), (95, .ireturn, 1), (96, .aload_n 0, 1), (97, .aload_n 0, 1), (98, .getfield 155, 3), (101, .invokevirtual 383, 3), (104, .ifCond .eq 12, 3), (107, .aload_n 0, 1), (108, .getfield 203, 3), (111, .iload_n 2, 1), (112, .iaload, 1), (113, .goto 4, 3), (116, .iconst 0, 1), (117, .ireturn, 1)]
theorem dtX11_lawOf : dec_ok mX11_lawOf.2.1 tX11_lawOf = true := by decide +kernel
set_option maxHeartbeats 4000000 in
theorem q_lawOf0 {J : Wd} {K N P R : Nat} {V : (Nat → Int32) → Nat → Int32} (hR : RM J K N P) (hL : LM J R V) {c kn : Int32} {p : Nat} (hc : vp_in c 64) (hp : p < 3) (h0 : R = 0) : CalQ SyM mX11_lawOf 7 [.ref 0, .int c, .int (nI p), .int kn] J (fun r J' => r = some (.int (V (fctM J K N P c kn) p)) ∧ Fr8 J J') := by
  refine CalQ.of (by decide) (Nat.le_of_ble_eq_true rfl) ?_
  show BdQ _ _ _ _ [(0, _), (1, _), (2, _), (3, _)] _ _ _
  refine BdQ.l (fun _ _ k => b_aload_n (pc := 0) (i := 0) (dd dtX11_lawOf 0 rfl) rfl rfl k) ?_
  refine BdQ.l (fun _ _ k => b_iload_n (pc := 1) (i := 1) (dd dtX11_lawOf 1 rfl) rfl rfl k) ?_
  refine BdQ.l (fun _ _ k => b_iload_n (pc := 2) (i := 3) (dd dtX11_lawOf 2 rfl) rfl rfl k) ?_
  obtain ⟨_, I3, ⟨rfl, F3, H3⟩, k3⟩ := q_facts hR hc (kn := kn)
  refine BdQ.l (fun _ _ k => b_invV (pc := 3) (dd dtX11_lawOf 3 rfl) mlX11_392 mvX11_findFacts miX11_findFacts (k3) oM_0 rfl rfl (by decide) (Nat.le_of_ble_eq_true rfl) k) ?_
  refine BdQ.l (fun _ _ k => b_aload_n (pc := 6) (i := 0) (dd dtX11_lawOf 4 rfl) rfl rfl k) ?_
  refine BdQ.l (fun _ _ k => b_geti (pc := 7) (dd dtX11_lawOf 5 rfl) fwX11_155 pM_0 k) ?_
  rw [F3.2 46 (by decide) (by decide) (by omega), hL.1]
  refine BdQ.c (fun _ _ k1 k2 => b_if_ne (pc := 10) (tgt := 96) (dd dtX11_lawOf 6 rfl) (by decide) k1 k2) (fun h10 => ?_) (fun h10 => ?_)
  · exact absurd (by rw [h0]; rfl) h10
  · refine BdQ.l (fun _ _ k => b_iload_n (pc := 13) (i := 2) (dd dtX11_lawOf 7 rfl) rfl rfl k) ?_
    refine BdQ.c (fun _ _ k1 k2 => b_if_ne (pc := 14) (tgt := 46) (dd dtX11_lawOf 8 rfl) (by decide) k1 k2) (fun h14 => ?_) (fun h14 => ?_)
    · refine BdQ.l (fun _ _ k => b_iload_n (pc := 46) (i := 2) (dd dtX11_lawOf 25 rfl) rfl rfl k) ?_
      refine BdQ.l (fun _ _ k => b_ic1 (pc := 47) (dd dtX11_lawOf 26 rfl) k) ?_
      refine BdQ.c (fun _ _ k1 k2 => b_icmp_ne (pc := 48) (tgt := 80) (dd dtX11_lawOf 27 rfl) (by decide) k1 k2) (fun h48 => ?_) (fun h48 => ?_)
      · refine BdQ.l (fun _ _ k => b_aload_n (pc := 80) (i := 0) (dd dtX11_lawOf 43 rfl) rfl rfl k) ?_
        refine BdQ.l (fun _ _ k => b_geta (pc := 81) (dd dtX11_lawOf 44 rfl) fwX11_191 pM_0 rM_0_58 k) ?_
        refine BdQ.l (fun _ _ k => b_ic5 (pc := 84) (dd dtX11_lawOf 45 rfl) k) ?_
        refine BdQ.l (fun _ _ k => b_iald (pc := 85) (dd dtX11_lawOf 46 rfl) pM_38 (vpn (h := 5) rfl (by decide) (by decide)) k) ?_
        rw [show (5 : Int32).toNatClampNeg = 5 from rfl, H3 5 (by decide)]
        refine BdQ.l (fun _ _ k => b_ic3 (pc := 86) (dd dtX11_lawOf 47 rfl) k) ?_
        refine BdQ.l (fun _ _ k => b_imul (pc := 87) (dd dtX11_lawOf 48 rfl) k) ?_
        refine BdQ.l (fun _ _ k => b_aload_n (pc := 88) (i := 0) (dd dtX11_lawOf 49 rfl) rfl rfl k) ?_
        refine BdQ.l (fun _ _ k => b_geta (pc := 89) (dd dtX11_lawOf 50 rfl) fwX11_191 pM_0 rM_0_58 k) ?_
        refine BdQ.l (fun _ _ k => b_ic3 (pc := 92) (dd dtX11_lawOf 51 rfl) k) ?_
        refine BdQ.l (fun _ _ k => b_iald (pc := 93) (dd dtX11_lawOf 52 rfl) pM_38 (vpn (h := 3) rfl (by decide) (by decide)) k) ?_
        rw [show (3 : Int32).toNatClampNeg = 3 from rfl, H3 3 (by decide)]
        refine BdQ.l (fun _ _ k => b_iadd (pc := 94) (dd dtX11_lawOf 53 rfl) k) ?_
        refine ⟨_, _, ?_, b_iret (dd dtX11_lawOf 54 rfl) rfl⟩
        refine ⟨?_, F3⟩
        rw [hL.2.2.2.1 h0 _ p hp]
        unfold vM0
        first
        | (have hp0 : p = 0 := (nI_eq (b := 0) (by omega) (by decide)).mp h14
           have hz : fctM J K N P c kn 0 < 30 ∧ fctM J K N P c kn 3 < 2 := ⟨h25, h35⟩
           rw [if_pos hp0, if_pos hz])
        | (have hp0 : p = 0 := (nI_eq (b := 0) (by omega) (by decide)).mp h14
           have hz : ¬ (fctM J K N P c kn 0 < 30 ∧ fctM J K N P c kn 3 < 2) := fun q => h35 q.2
           rw [if_pos hp0, if_neg hz])
        | (have hp0 : p = 0 := (nI_eq (b := 0) (by omega) (by decide)).mp h14
           have hz : ¬ (fctM J K N P c kn 0 < 30 ∧ fctM J K N P c kn 3 < 2) := fun q => h25 q.1
           rw [if_pos hp0, if_neg hz])
        | (have hp1 : p = 1 := (nI_eq (b := 1) (by omega) (by decide)).mp h48
           have hz : 60 < fctM J K N P c kn 2 ∨ ¬ fctM J K N P c kn 6 = 0 := Or.inl h59
           rw [if_neg (show ¬ p = 0 by omega), if_pos hp1, if_pos hz])
        | (have hp1 : p = 1 := (nI_eq (b := 1) (by omega) (by decide)).mp h48
           have hz : 60 < fctM J K N P c kn 2 ∨ ¬ fctM J K N P c kn 6 = 0 := Or.inr h69
           rw [if_neg (show ¬ p = 0 by omega), if_pos hp1, if_pos hz])
        | (have hp1 : p = 1 := (nI_eq (b := 1) (by omega) (by decide)).mp h48
           have hz : ¬ (60 < fctM J K N P c kn 2 ∨ ¬ fctM J K N P c kn 6 = 0) := fun q => q.elim h59 (fun z => z h69)
           rw [if_neg (show ¬ p = 0 by omega), if_pos hp1, if_neg hz])
        | (have hp0 : ¬ p = 0 := fun q => h14 (congrArg nI q)
           have hp1 : ¬ p = 1 := fun q => h48 (congrArg nI q)
           rw [if_neg hp0, if_neg hp1])
      · refine BdQ.l (fun _ _ k => b_bipush (pc := 51) (v := 60) (dd dtX11_lawOf 28 rfl) (by decide) k) ?_
        refine BdQ.l (fun _ _ k => b_aload_n (pc := 53) (i := 0) (dd dtX11_lawOf 29 rfl) rfl rfl k) ?_
        refine BdQ.l (fun _ _ k => b_geta (pc := 54) (dd dtX11_lawOf 30 rfl) fwX11_191 pM_0 rM_0_58 k) ?_
        refine BdQ.l (fun _ _ k => b_ic2 (pc := 57) (dd dtX11_lawOf 31 rfl) k) ?_
        refine BdQ.l (fun _ _ k => b_iald (pc := 58) (dd dtX11_lawOf 32 rfl) pM_38 (vpn (h := 2) rfl (by decide) (by decide)) k) ?_
        rw [show (2 : Int32).toNatClampNeg = 2 from rfl, H3 2 (by decide)]
        refine BdQ.b (fun _ _ k1 k2 => b_icmp_lt (pc := 59) (tgt := 72) (dd dtX11_lawOf 33 rfl) (by decide) k1 k2) (fun h59 => ?_) (fun h59 => ?_)
        · refine BdQ.l (fun _ _ k => b_ic1 (pc := 72) (dd dtX11_lawOf 39 rfl) k) ?_
          refine BdQ.l (fun _ _ k => b_goto (pc := 73) (tgt := 95) (dd dtX11_lawOf 40 rfl) (by decide) k) ?_
          refine ⟨_, _, ?_, b_iret (dd dtX11_lawOf 54 rfl) rfl⟩
          refine ⟨?_, F3⟩
          rw [hL.2.2.2.1 h0 _ p hp]
          unfold vM0
          first
          | (have hp0 : p = 0 := (nI_eq (b := 0) (by omega) (by decide)).mp h14
             have hz : fctM J K N P c kn 0 < 30 ∧ fctM J K N P c kn 3 < 2 := ⟨h25, h35⟩
             rw [if_pos hp0, if_pos hz])
          | (have hp0 : p = 0 := (nI_eq (b := 0) (by omega) (by decide)).mp h14
             have hz : ¬ (fctM J K N P c kn 0 < 30 ∧ fctM J K N P c kn 3 < 2) := fun q => h35 q.2
             rw [if_pos hp0, if_neg hz])
          | (have hp0 : p = 0 := (nI_eq (b := 0) (by omega) (by decide)).mp h14
             have hz : ¬ (fctM J K N P c kn 0 < 30 ∧ fctM J K N P c kn 3 < 2) := fun q => h25 q.1
             rw [if_pos hp0, if_neg hz])
          | (have hp1 : p = 1 := (nI_eq (b := 1) (by omega) (by decide)).mp h48
             have hz : 60 < fctM J K N P c kn 2 ∨ ¬ fctM J K N P c kn 6 = 0 := Or.inl h59
             rw [if_neg (show ¬ p = 0 by omega), if_pos hp1, if_pos hz])
          | (have hp1 : p = 1 := (nI_eq (b := 1) (by omega) (by decide)).mp h48
             have hz : 60 < fctM J K N P c kn 2 ∨ ¬ fctM J K N P c kn 6 = 0 := Or.inr h69
             rw [if_neg (show ¬ p = 0 by omega), if_pos hp1, if_pos hz])
          | (have hp1 : p = 1 := (nI_eq (b := 1) (by omega) (by decide)).mp h48
             have hz : ¬ (60 < fctM J K N P c kn 2 ∨ ¬ fctM J K N P c kn 6 = 0) := fun q => q.elim h59 (fun z => z h69)
             rw [if_neg (show ¬ p = 0 by omega), if_pos hp1, if_neg hz])
          | (have hp0 : ¬ p = 0 := fun q => h14 (congrArg nI q)
             have hp1 : ¬ p = 1 := fun q => h48 (congrArg nI q)
             rw [if_neg hp0, if_neg hp1])
        · refine BdQ.l (fun _ _ k => b_aload_n (pc := 62) (i := 0) (dd dtX11_lawOf 34 rfl) rfl rfl k) ?_
          refine BdQ.l (fun _ _ k => b_geta (pc := 63) (dd dtX11_lawOf 35 rfl) fwX11_191 pM_0 rM_0_58 k) ?_
          refine BdQ.l (fun _ _ k => b_bipush (pc := 66) (v := 6) (dd dtX11_lawOf 36 rfl) (by decide) k) ?_
          refine BdQ.l (fun _ _ k => b_iald (pc := 68) (dd dtX11_lawOf 37 rfl) pM_38 (vpn (h := 6) rfl (by decide) (by decide)) k) ?_
          rw [show (6 : Int32).toNatClampNeg = 6 from rfl, H3 6 (by decide)]
          refine BdQ.b (fun _ _ k1 k2 => b_if_eq (pc := 69) (tgt := 76) (dd dtX11_lawOf 38 rfl) (by decide) k1 k2) (fun h69 => ?_) (fun h69 => ?_)
          · refine BdQ.l (fun _ _ k => b_ic0 (pc := 76) (dd dtX11_lawOf 41 rfl) k) ?_
            refine BdQ.l (fun _ _ k => b_goto (pc := 77) (tgt := 95) (dd dtX11_lawOf 42 rfl) (by decide) k) ?_
            refine ⟨_, _, ?_, b_iret (dd dtX11_lawOf 54 rfl) rfl⟩
            refine ⟨?_, F3⟩
            rw [hL.2.2.2.1 h0 _ p hp]
            unfold vM0
            first
            | (have hp0 : p = 0 := (nI_eq (b := 0) (by omega) (by decide)).mp h14
               have hz : fctM J K N P c kn 0 < 30 ∧ fctM J K N P c kn 3 < 2 := ⟨h25, h35⟩
               rw [if_pos hp0, if_pos hz])
            | (have hp0 : p = 0 := (nI_eq (b := 0) (by omega) (by decide)).mp h14
               have hz : ¬ (fctM J K N P c kn 0 < 30 ∧ fctM J K N P c kn 3 < 2) := fun q => h35 q.2
               rw [if_pos hp0, if_neg hz])
            | (have hp0 : p = 0 := (nI_eq (b := 0) (by omega) (by decide)).mp h14
               have hz : ¬ (fctM J K N P c kn 0 < 30 ∧ fctM J K N P c kn 3 < 2) := fun q => h25 q.1
               rw [if_pos hp0, if_neg hz])
            | (have hp1 : p = 1 := (nI_eq (b := 1) (by omega) (by decide)).mp h48
               have hz : 60 < fctM J K N P c kn 2 ∨ ¬ fctM J K N P c kn 6 = 0 := Or.inl h59
               rw [if_neg (show ¬ p = 0 by omega), if_pos hp1, if_pos hz])
            | (have hp1 : p = 1 := (nI_eq (b := 1) (by omega) (by decide)).mp h48
               have hz : 60 < fctM J K N P c kn 2 ∨ ¬ fctM J K N P c kn 6 = 0 := Or.inr h69
               rw [if_neg (show ¬ p = 0 by omega), if_pos hp1, if_pos hz])
            | (have hp1 : p = 1 := (nI_eq (b := 1) (by omega) (by decide)).mp h48
               have hz : ¬ (60 < fctM J K N P c kn 2 ∨ ¬ fctM J K N P c kn 6 = 0) := fun q => q.elim h59 (fun z => z h69)
               rw [if_neg (show ¬ p = 0 by omega), if_pos hp1, if_neg hz])
            | (have hp0 : ¬ p = 0 := fun q => h14 (congrArg nI q)
               have hp1 : ¬ p = 1 := fun q => h48 (congrArg nI q)
               rw [if_neg hp0, if_neg hp1])
          · refine BdQ.l (fun _ _ k => b_ic1 (pc := 72) (dd dtX11_lawOf 39 rfl) k) ?_
            refine BdQ.l (fun _ _ k => b_goto (pc := 73) (tgt := 95) (dd dtX11_lawOf 40 rfl) (by decide) k) ?_
            refine ⟨_, _, ?_, b_iret (dd dtX11_lawOf 54 rfl) rfl⟩
            refine ⟨?_, F3⟩
            rw [hL.2.2.2.1 h0 _ p hp]
            unfold vM0
            first
            | (have hp0 : p = 0 := (nI_eq (b := 0) (by omega) (by decide)).mp h14
               have hz : fctM J K N P c kn 0 < 30 ∧ fctM J K N P c kn 3 < 2 := ⟨h25, h35⟩
               rw [if_pos hp0, if_pos hz])
            | (have hp0 : p = 0 := (nI_eq (b := 0) (by omega) (by decide)).mp h14
               have hz : ¬ (fctM J K N P c kn 0 < 30 ∧ fctM J K N P c kn 3 < 2) := fun q => h35 q.2
               rw [if_pos hp0, if_neg hz])
            | (have hp0 : p = 0 := (nI_eq (b := 0) (by omega) (by decide)).mp h14
               have hz : ¬ (fctM J K N P c kn 0 < 30 ∧ fctM J K N P c kn 3 < 2) := fun q => h25 q.1
               rw [if_pos hp0, if_neg hz])
            | (have hp1 : p = 1 := (nI_eq (b := 1) (by omega) (by decide)).mp h48
               have hz : 60 < fctM J K N P c kn 2 ∨ ¬ fctM J K N P c kn 6 = 0 := Or.inl h59
               rw [if_neg (show ¬ p = 0 by omega), if_pos hp1, if_pos hz])
            | (have hp1 : p = 1 := (nI_eq (b := 1) (by omega) (by decide)).mp h48
               have hz : 60 < fctM J K N P c kn 2 ∨ ¬ fctM J K N P c kn 6 = 0 := Or.inr h69
               rw [if_neg (show ¬ p = 0 by omega), if_pos hp1, if_pos hz])
            | (have hp1 : p = 1 := (nI_eq (b := 1) (by omega) (by decide)).mp h48
               have hz : ¬ (60 < fctM J K N P c kn 2 ∨ ¬ fctM J K N P c kn 6 = 0) := fun q => q.elim h59 (fun z => z h69)
               rw [if_neg (show ¬ p = 0 by omega), if_pos hp1, if_neg hz])
            | (have hp0 : ¬ p = 0 := fun q => h14 (congrArg nI q)
               have hp1 : ¬ p = 1 := fun q => h48 (congrArg nI q)
               rw [if_neg hp0, if_neg hp1])
    · refine BdQ.l (fun _ _ k => b_aload_n (pc := 17) (i := 0) (dd dtX11_lawOf 9 rfl) rfl rfl k) ?_
      refine BdQ.l (fun _ _ k => b_geta (pc := 18) (dd dtX11_lawOf 10 rfl) fwX11_191 pM_0 rM_0_58 k) ?_
      refine BdQ.l (fun _ _ k => b_ic0 (pc := 21) (dd dtX11_lawOf 11 rfl) k) ?_
      refine BdQ.l (fun _ _ k => b_iald (pc := 22) (dd dtX11_lawOf 12 rfl) pM_38 (vpn (h := 0) rfl (by decide) (by decide)) k) ?_
      rw [show (0 : Int32).toNatClampNeg = 0 from rfl, H3 0 (by decide)]
      refine BdQ.l (fun _ _ k => b_bipush (pc := 23) (v := 30) (dd dtX11_lawOf 13 rfl) (by decide) k) ?_
      refine BdQ.c (fun _ _ k1 k2 => b_icmpL_ge (pc := 25) (tgt := 42) (dd dtX11_lawOf 14 rfl) (by decide) k1 k2) (fun h25 => ?_) (fun h25 => ?_)
      · refine BdQ.l (fun _ _ k => b_ic0 (pc := 42) (dd dtX11_lawOf 23 rfl) k) ?_
        refine BdQ.l (fun _ _ k => b_goto (pc := 43) (tgt := 95) (dd dtX11_lawOf 24 rfl) (by decide) k) ?_
        refine ⟨_, _, ?_, b_iret (dd dtX11_lawOf 54 rfl) rfl⟩
        refine ⟨?_, F3⟩
        rw [hL.2.2.2.1 h0 _ p hp]
        unfold vM0
        first
        | (have hp0 : p = 0 := (nI_eq (b := 0) (by omega) (by decide)).mp h14
           have hz : fctM J K N P c kn 0 < 30 ∧ fctM J K N P c kn 3 < 2 := ⟨h25, h35⟩
           rw [if_pos hp0, if_pos hz])
        | (have hp0 : p = 0 := (nI_eq (b := 0) (by omega) (by decide)).mp h14
           have hz : ¬ (fctM J K N P c kn 0 < 30 ∧ fctM J K N P c kn 3 < 2) := fun q => h35 q.2
           rw [if_pos hp0, if_neg hz])
        | (have hp0 : p = 0 := (nI_eq (b := 0) (by omega) (by decide)).mp h14
           have hz : ¬ (fctM J K N P c kn 0 < 30 ∧ fctM J K N P c kn 3 < 2) := fun q => h25 q.1
           rw [if_pos hp0, if_neg hz])
        | (have hp1 : p = 1 := (nI_eq (b := 1) (by omega) (by decide)).mp h48
           have hz : 60 < fctM J K N P c kn 2 ∨ ¬ fctM J K N P c kn 6 = 0 := Or.inl h59
           rw [if_neg (show ¬ p = 0 by omega), if_pos hp1, if_pos hz])
        | (have hp1 : p = 1 := (nI_eq (b := 1) (by omega) (by decide)).mp h48
           have hz : 60 < fctM J K N P c kn 2 ∨ ¬ fctM J K N P c kn 6 = 0 := Or.inr h69
           rw [if_neg (show ¬ p = 0 by omega), if_pos hp1, if_pos hz])
        | (have hp1 : p = 1 := (nI_eq (b := 1) (by omega) (by decide)).mp h48
           have hz : ¬ (60 < fctM J K N P c kn 2 ∨ ¬ fctM J K N P c kn 6 = 0) := fun q => q.elim h59 (fun z => z h69)
           rw [if_neg (show ¬ p = 0 by omega), if_pos hp1, if_neg hz])
        | (have hp0 : ¬ p = 0 := fun q => h14 (congrArg nI q)
           have hp1 : ¬ p = 1 := fun q => h48 (congrArg nI q)
           rw [if_neg hp0, if_neg hp1])
      · refine BdQ.l (fun _ _ k => b_aload_n (pc := 28) (i := 0) (dd dtX11_lawOf 15 rfl) rfl rfl k) ?_
        refine BdQ.l (fun _ _ k => b_geta (pc := 29) (dd dtX11_lawOf 16 rfl) fwX11_191 pM_0 rM_0_58 k) ?_
        refine BdQ.l (fun _ _ k => b_ic3 (pc := 32) (dd dtX11_lawOf 17 rfl) k) ?_
        refine BdQ.l (fun _ _ k => b_iald (pc := 33) (dd dtX11_lawOf 18 rfl) pM_38 (vpn (h := 3) rfl (by decide) (by decide)) k) ?_
        rw [show (3 : Int32).toNatClampNeg = 3 from rfl, H3 3 (by decide)]
        refine BdQ.l (fun _ _ k => b_ic2 (pc := 34) (dd dtX11_lawOf 19 rfl) k) ?_
        refine BdQ.c (fun _ _ k1 k2 => b_icmpL_ge (pc := 35) (tgt := 42) (dd dtX11_lawOf 20 rfl) (by decide) k1 k2) (fun h35 => ?_) (fun h35 => ?_)
        · refine BdQ.l (fun _ _ k => b_ic0 (pc := 42) (dd dtX11_lawOf 23 rfl) k) ?_
          refine BdQ.l (fun _ _ k => b_goto (pc := 43) (tgt := 95) (dd dtX11_lawOf 24 rfl) (by decide) k) ?_
          refine ⟨_, _, ?_, b_iret (dd dtX11_lawOf 54 rfl) rfl⟩
          refine ⟨?_, F3⟩
          rw [hL.2.2.2.1 h0 _ p hp]
          unfold vM0
          first
          | (have hp0 : p = 0 := (nI_eq (b := 0) (by omega) (by decide)).mp h14
             have hz : fctM J K N P c kn 0 < 30 ∧ fctM J K N P c kn 3 < 2 := ⟨h25, h35⟩
             rw [if_pos hp0, if_pos hz])
          | (have hp0 : p = 0 := (nI_eq (b := 0) (by omega) (by decide)).mp h14
             have hz : ¬ (fctM J K N P c kn 0 < 30 ∧ fctM J K N P c kn 3 < 2) := fun q => h35 q.2
             rw [if_pos hp0, if_neg hz])
          | (have hp0 : p = 0 := (nI_eq (b := 0) (by omega) (by decide)).mp h14
             have hz : ¬ (fctM J K N P c kn 0 < 30 ∧ fctM J K N P c kn 3 < 2) := fun q => h25 q.1
             rw [if_pos hp0, if_neg hz])
          | (have hp1 : p = 1 := (nI_eq (b := 1) (by omega) (by decide)).mp h48
             have hz : 60 < fctM J K N P c kn 2 ∨ ¬ fctM J K N P c kn 6 = 0 := Or.inl h59
             rw [if_neg (show ¬ p = 0 by omega), if_pos hp1, if_pos hz])
          | (have hp1 : p = 1 := (nI_eq (b := 1) (by omega) (by decide)).mp h48
             have hz : 60 < fctM J K N P c kn 2 ∨ ¬ fctM J K N P c kn 6 = 0 := Or.inr h69
             rw [if_neg (show ¬ p = 0 by omega), if_pos hp1, if_pos hz])
          | (have hp1 : p = 1 := (nI_eq (b := 1) (by omega) (by decide)).mp h48
             have hz : ¬ (60 < fctM J K N P c kn 2 ∨ ¬ fctM J K N P c kn 6 = 0) := fun q => q.elim h59 (fun z => z h69)
             rw [if_neg (show ¬ p = 0 by omega), if_pos hp1, if_neg hz])
          | (have hp0 : ¬ p = 0 := fun q => h14 (congrArg nI q)
             have hp1 : ¬ p = 1 := fun q => h48 (congrArg nI q)
             rw [if_neg hp0, if_neg hp1])
        · refine BdQ.l (fun _ _ k => b_ic1 (pc := 38) (dd dtX11_lawOf 21 rfl) k) ?_
          refine BdQ.l (fun _ _ k => b_goto (pc := 39) (tgt := 95) (dd dtX11_lawOf 22 rfl) (by decide) k) ?_
          refine ⟨_, _, ?_, b_iret (dd dtX11_lawOf 54 rfl) rfl⟩
          refine ⟨?_, F3⟩
          rw [hL.2.2.2.1 h0 _ p hp]
          unfold vM0
          first
          | (have hp0 : p = 0 := (nI_eq (b := 0) (by omega) (by decide)).mp h14
             have hz : fctM J K N P c kn 0 < 30 ∧ fctM J K N P c kn 3 < 2 := ⟨h25, h35⟩
             rw [if_pos hp0, if_pos hz])
          | (have hp0 : p = 0 := (nI_eq (b := 0) (by omega) (by decide)).mp h14
             have hz : ¬ (fctM J K N P c kn 0 < 30 ∧ fctM J K N P c kn 3 < 2) := fun q => h35 q.2
             rw [if_pos hp0, if_neg hz])
          | (have hp0 : p = 0 := (nI_eq (b := 0) (by omega) (by decide)).mp h14
             have hz : ¬ (fctM J K N P c kn 0 < 30 ∧ fctM J K N P c kn 3 < 2) := fun q => h25 q.1
             rw [if_pos hp0, if_neg hz])
          | (have hp1 : p = 1 := (nI_eq (b := 1) (by omega) (by decide)).mp h48
             have hz : 60 < fctM J K N P c kn 2 ∨ ¬ fctM J K N P c kn 6 = 0 := Or.inl h59
             rw [if_neg (show ¬ p = 0 by omega), if_pos hp1, if_pos hz])
          | (have hp1 : p = 1 := (nI_eq (b := 1) (by omega) (by decide)).mp h48
             have hz : 60 < fctM J K N P c kn 2 ∨ ¬ fctM J K N P c kn 6 = 0 := Or.inr h69
             rw [if_neg (show ¬ p = 0 by omega), if_pos hp1, if_pos hz])
          | (have hp1 : p = 1 := (nI_eq (b := 1) (by omega) (by decide)).mp h48
             have hz : ¬ (60 < fctM J K N P c kn 2 ∨ ¬ fctM J K N P c kn 6 = 0) := fun q => q.elim h59 (fun z => z h69)
             rw [if_neg (show ¬ p = 0 by omega), if_pos hp1, if_neg hz])
          | (have hp0 : ¬ p = 0 := fun q => h14 (congrArg nI q)
             have hp1 : ¬ p = 1 := fun q => h48 (congrArg nI q)
             rw [if_neg hp0, if_neg hp1])
set_option maxHeartbeats 4000000 in
theorem q_lawOf1 {J : Wd} {K N P R : Nat} {V : (Nat → Int32) → Nat → Int32} (hR : RM J K N P) (hL : LM J R V) {c kn : Int32} {p : Nat} (hc : vp_in c 64) (hp : p < 3) (h0 : 1 ≤ R) : CalQ SyM mX11_lawOf 7 [.ref 0, .int c, .int (nI p), .int kn] J (fun r J' => r = some (.int (V (fctM J K N P c kn) p)) ∧ Fr8 J J') := by
  refine CalQ.of (by decide) (Nat.le_of_ble_eq_true rfl) ?_
  show BdQ _ _ _ _ [(0, _), (1, _), (2, _), (3, _)] _ _ _
  refine BdQ.l (fun _ _ k => b_aload_n (pc := 0) (i := 0) (dd dtX11_lawOf 0 rfl) rfl rfl k) ?_
  refine BdQ.l (fun _ _ k => b_iload_n (pc := 1) (i := 1) (dd dtX11_lawOf 1 rfl) rfl rfl k) ?_
  refine BdQ.l (fun _ _ k => b_iload_n (pc := 2) (i := 3) (dd dtX11_lawOf 2 rfl) rfl rfl k) ?_
  obtain ⟨_, I3, ⟨rfl, F3, H3⟩, k3⟩ := q_facts hR hc (kn := kn)
  refine BdQ.l (fun _ _ k => b_invV (pc := 3) (dd dtX11_lawOf 3 rfl) mlX11_392 mvX11_findFacts miX11_findFacts (k3) oM_0 rfl rfl (by decide) (Nat.le_of_ble_eq_true rfl) k) ?_
  refine BdQ.l (fun _ _ k => b_aload_n (pc := 6) (i := 0) (dd dtX11_lawOf 4 rfl) rfl rfl k) ?_
  refine BdQ.l (fun _ _ k => b_geti (pc := 7) (dd dtX11_lawOf 5 rfl) fwX11_155 pM_0 k) ?_
  rw [F3.2 46 (by decide) (by decide) (by omega), hL.1]
  refine BdQ.c (fun _ _ k1 k2 => b_if_ne (pc := 10) (tgt := 96) (dd dtX11_lawOf 6 rfl) (by decide) k1 k2) (fun h10 => ?_) (fun h10 => ?_)
  · have hL3 := hL.fr F3
    refine BdQ.l (fun _ _ k => b_aload_n (pc := 96) (i := 0) (dd dtX11_lawOf 55 rfl) rfl rfl k) ?_
    refine BdQ.l (fun _ _ k => b_aload_n (pc := 97) (i := 0) (dd dtX11_lawOf 56 rfl) rfl rfl k) ?_
    refine BdQ.l (fun _ _ k => b_geti (pc := 98) (dd dtX11_lawOf 57 rfl) fwX11_155 pM_0 k) ?_
    rw [hL3.1]
    obtain ⟨n, b, kd, nm, pl, T, l1, l2, l3, l4, l5⟩ := hL3.2.2.2.2 h0
    obtain ⟨_, I101, ⟨F101, S101⟩, k101⟩ := q_goes (show R < 7 by have := hL.2.1; omega) l1 l2 l3 l4
    obtain ⟨rfl, V101⟩ := S101.1 (l5 (I3 38)).1
    refine BdQ.l (fun _ _ k => b_invV (pc := 101) (dd dtX11_lawOf 58 rfl) mlX11_383 mvX11_goes miX11_goes (k101) oM_0 rfl rfl (by decide) (Nat.le_of_ble_eq_true rfl) k) ?_
    refine BdQ.b (fun _ _ k1 k2 => b_if_eq (pc := 104) (tgt := 116) (dd dtX11_lawOf 59 rfl) (by decide) k1 k2) (fun h104 => ?_) (fun h104 => ?_)
    · exact absurd h104 (by decide)
    · refine BdQ.l (fun _ _ k => b_aload_n (pc := 107) (i := 0) (dd dtX11_lawOf 60 rfl) rfl rfl k) ?_
      refine BdQ.l (fun _ _ k => b_geta (pc := 108) (dd dtX11_lawOf 61 rfl) fwX11_203 pM_0 rM_0_62 k) ?_
      refine BdQ.l (fun _ _ k => b_iload_n (pc := 111) (i := 2) (dd dtX11_lawOf 62 rfl) rfl rfl k) ?_
      refine BdQ.l (fun _ _ k => b_iald (pc := 112) (dd dtX11_lawOf 63 rfl) pM_39 (vpn rfl hp (by decide)) k) ?_
      rw [nI_clamp (show p < 2 ^ 31 by omega)]
      refine BdQ.l (fun _ _ k => b_goto (pc := 113) (tgt := 117) (dd dtX11_lawOf 64 rfl) (by decide) k) ?_
      refine ⟨_, _, ?_, b_iret (dd dtX11_lawOf 66 rfl) rfl⟩
      refine ⟨?_, F3.t7 F101⟩
      rw [V101 p hp _ ((l5 (I3 38)).2 p hp), hL.2.2.1 _ _ H3 p hp]
  · exact absurd h10 (nI_ne0 (by omega) (by have := hL.2.1; omega))
theorem q_lawOf {J : Wd} {K N P R : Nat} {V : (Nat → Int32) → Nat → Int32} (hR : RM J K N P) (hL : LM J R V) {c kn : Int32} {p : Nat} (hc : vp_in c 64) (hp : p < 3) : CalQ SyM mX11_lawOf 7 [.ref 0, .int c, .int (nI p), .int kn] J (fun r J' => r = some (.int (V (fctM J K N P c kn) p)) ∧ Fr8 J J') := by
  by_cases h : R = 0
  · exact q_lawOf0 hR hL hc hp h
  · exact q_lawOf1 hR hL hc hp (by omega)
def tX11_law : List (Nat × Instr × Nat) := [(0, .aload_n 0, 1), (1, .iload_n 1, 1), (2, .invokevirtual 248, 3), (5, .ifCond .eq 32, 3), (8, .aload_n 0, 1), (9, .iload_n 2, 1), (10, .iconst 0, 1), (11, .iconst 2, 1), (12, .invokevirtual 1, 3), (15, .ifCond .eq 22, 3), (18, .aload_n 0, 1), (19, .iload_n 3, 1), (20, .invokevirtual 277, 3), (23, .ifCond .eq 14, 3), (26, .aload_n 0, 1), (27, .iload_n 1, 1), (28, .iload_n 2, 1), (29, .iload_n 3, 1), (30, .invokevirtual 395, 3), (33, .i2l, 1), (34, .goto 6, 3), (37, .ldc2_w 399, 3), (40, .lreturn, 1)]
theorem dtX11_law : dec_ok mX11_law.2.1 tX11_law = true := by decide +kernel
set_option maxHeartbeats 4000000 in
theorem q_lawM {J : Wd} {K N P R : Nat} {V : (Nat → Int32) → Nat → Int32} (hR : RM J K N P) (hL : LM J R V) {c part kn : Int32} : CalQ SyM mX11_law 8 [.ref 0, .int c, .int part, .int kn] J (fun r J' => r = some (.long (vLaw (J 0 0) c part kn (V (fctM J K N P c kn)))) ∧ Fr8 J J') := by
  refine CalQ.of (by decide) (Nat.le_of_ble_eq_true rfl) ?_
  show BdQ _ _ _ _ [(0, _), (1, _), (2, _), (3, _)] _ _ _
  refine BdQ.l (fun _ _ k => b_aload_n (pc := 0) (i := 0) (dd dtX11_law 0 rfl) rfl rfl k) ?_
  refine BdQ.l (fun _ _ k => b_iload_n (pc := 1) (i := 1) (dd dtX11_law 1 rfl) rfl rfl k) ?_
  refine BdQ.l (fun _ _ k => b_invV (pc := 2) (dd dtX11_law 2 rfl) mlX11_248 mvX11_isCell miX11_isCell (c_X11_isCell) oM_0 rfl rfl (by decide) (Nat.le_of_ble_eq_true rfl) k) ?_
  refine BdQ.c (fun _ _ k1 k2 => b_ifb_eq (pc := 5) (tgt := 37) (dd dtX11_law 3 rfl) (by decide) k1 k2) (fun h5 => ?_) (fun h5 => ?_)
  · refine BdQ.l (fun _ _ k => b_ldc2 (pc := 37) (dd dtX11_law 21 rfl) kcX11_399 k) ?_
    refine ⟨_, _, ?_, b_lret (dd dtX11_law 22 rfl) rfl⟩
    first
    | exact ⟨by rw [vLaw, if_pos ⟨h5, h15, h23⟩, nI_clamp (show p < 2 ^ 31 by omega)], R30⟩
    | exact ⟨by rw [vLaw, if_neg (fun q => h5 q.1)]; rfl, Fr8.r⟩
    | exact ⟨by rw [vLaw, if_neg (fun q => h15 q.2.1)]; rfl, Fr8.r⟩
    | exact ⟨by rw [vLaw, if_neg (fun q => h23 q.2.2)]; rfl, Fr8.r⟩
  · refine BdQ.l (fun _ _ k => b_aload_n (pc := 8) (i := 0) (dd dtX11_law 4 rfl) rfl rfl k) ?_
    refine BdQ.l (fun _ _ k => b_iload_n (pc := 9) (i := 2) (dd dtX11_law 5 rfl) rfl rfl k) ?_
    refine BdQ.l (fun _ _ k => b_ic0 (pc := 10) (dd dtX11_law 6 rfl) k) ?_
    refine BdQ.l (fun _ _ k => b_ic2 (pc := 11) (dd dtX11_law 7 rfl) k) ?_
    refine BdQ.l (fun _ _ k => b_invV (pc := 12) (dd dtX11_law 8 rfl) mlX11_1 mvX11_in miX11_in (c_X11_in) oM_0 rfl rfl (by decide) (Nat.le_of_ble_eq_true rfl) k) ?_
    refine BdQ.c (fun _ _ k1 k2 => b_ifb_eq (pc := 15) (tgt := 37) (dd dtX11_law 9 rfl) (by decide) k1 k2) (fun h15 => ?_) (fun h15 => ?_)
    · refine BdQ.l (fun _ _ k => b_ldc2 (pc := 37) (dd dtX11_law 21 rfl) kcX11_399 k) ?_
      refine ⟨_, _, ?_, b_lret (dd dtX11_law 22 rfl) rfl⟩
      first
      | exact ⟨by rw [vLaw, if_pos ⟨h5, h15, h23⟩, nI_clamp (show p < 2 ^ 31 by omega)], R30⟩
      | exact ⟨by rw [vLaw, if_neg (fun q => h5 q.1)]; rfl, Fr8.r⟩
      | exact ⟨by rw [vLaw, if_neg (fun q => h15 q.2.1)]; rfl, Fr8.r⟩
      | exact ⟨by rw [vLaw, if_neg (fun q => h23 q.2.2)]; rfl, Fr8.r⟩
    · refine BdQ.l (fun _ _ k => b_aload_n (pc := 18) (i := 0) (dd dtX11_law 10 rfl) rfl rfl k) ?_
      refine BdQ.l (fun _ _ k => b_iload_n (pc := 19) (i := 3) (dd dtX11_law 11 rfl) rfl rfl k) ?_
      refine BdQ.l (fun _ _ k => b_invV (pc := 20) (dd dtX11_law 12 rfl) mlX11_277 mvX11_isKnown miX11_isKnown (c_X11_isKnown) oM_0 rfl rfl (by decide) (Nat.le_of_ble_eq_true rfl) k) ?_
      refine BdQ.c (fun _ _ k1 k2 => b_ifb_eq (pc := 23) (tgt := 37) (dd dtX11_law 13 rfl) (by decide) k1 k2) (fun h23 => ?_) (fun h23 => ?_)
      · refine BdQ.l (fun _ _ k => b_ldc2 (pc := 37) (dd dtX11_law 21 rfl) kcX11_399 k) ?_
        refine ⟨_, _, ?_, b_lret (dd dtX11_law 22 rfl) rfl⟩
        first
        | exact ⟨by rw [vLaw, if_pos ⟨h5, h15, h23⟩, nI_clamp (show p < 2 ^ 31 by omega)], R30⟩
        | exact ⟨by rw [vLaw, if_neg (fun q => h5 q.1)]; rfl, Fr8.r⟩
        | exact ⟨by rw [vLaw, if_neg (fun q => h15 q.2.1)]; rfl, Fr8.r⟩
        | exact ⟨by rw [vLaw, if_neg (fun q => h23 q.2.2)]; rfl, Fr8.r⟩
      · obtain ⟨p, rfl, hp⟩ := part3 h15
        refine BdQ.l (fun _ _ k => b_aload_n (pc := 26) (i := 0) (dd dtX11_law 14 rfl) rfl rfl k) ?_
        refine BdQ.l (fun _ _ k => b_iload_n (pc := 27) (i := 1) (dd dtX11_law 15 rfl) rfl rfl k) ?_
        refine BdQ.l (fun _ _ k => b_iload_n (pc := 28) (i := 2) (dd dtX11_law 16 rfl) rfl rfl k) ?_
        refine BdQ.l (fun _ _ k => b_iload_n (pc := 29) (i := 3) (dd dtX11_law 17 rfl) rfl rfl k) ?_
        obtain ⟨_, I30, ⟨rfl, R30⟩, k30⟩ := q_lawOf hR hL (vpc h5 (by decide)) hp (kn := kn)
        refine BdQ.l (fun _ _ k => b_invV (pc := 30) (dd dtX11_law 18 rfl) mlX11_395 mvX11_lawOf miX11_lawOf (k30) oM_0 rfl rfl (by decide) (Nat.le_of_ble_eq_true rfl) k) ?_
        refine BdQ.l (fun _ _ k => b_i2l (pc := 33) (dd dtX11_law 19 rfl) k) ?_
        refine BdQ.l (fun _ _ k => b_goto (pc := 34) (tgt := 40) (dd dtX11_law 20 rfl) (by decide) k) ?_
        refine ⟨_, _, ?_, b_lret (dd dtX11_law 22 rfl) rfl⟩
        first
        | exact ⟨by rw [vLaw, if_pos ⟨h5, h15, h23⟩, nI_clamp (show p < 2 ^ 31 by omega)], R30⟩
        | exact ⟨by rw [vLaw, if_neg (fun q => h5 q.1)]; rfl, Fr8.r⟩
        | exact ⟨by rw [vLaw, if_neg (fun q => h15 q.2.1)]; rfl, Fr8.r⟩
        | exact ⟨by rw [vLaw, if_neg (fun q => h23 q.2.2)]; rfl, Fr8.r⟩
def ppM (J : Wd) (N c : Nat) : Int32 := sPeople (J 10) (J 13) (J 16) (J 12) (nI c) N
theorem ppM_eq {J W : Wd} {N c : Nat} (h : Fr8 J W) : ppM W N c = ppM J N c := by
  unfold ppM
  rw [h.1 10 (by decide) (by omega), h.1 13 (by decide) (by omega), h.1 16 (by decide) (by omega), h.1 12 (by decide) (by omega)]
def tX11_moved : List (Nat × Instr × Nat) := [(0, .aload_n 0, 1), (1, .iload_n 1, 1), (2, .invokevirtual 277, 3), (5, .ifCond .ne 7, 3), (8, .ldc2_w 399, 3), (11, .lreturn, 1), (12, .lconst 0, 1), (13, .lstore_n 2, 1), (14, .iconst 0, 1), (15, .istore 4, 2), (17, .iload 4, 2), (19, .bipush 64, 2), (21, .if_icmp .ge 36, 3), (24, .aload_n 0, 1), (25, .iload 4, 2), (27, .invokevirtual 389, 3), (30, .ifCond .le 21, 3), (33, .aload_n 0, 1), (34, .iload 4, 2), (36, .iconst 1, 1), (37, .iload_n 1, 1), (38, .invokevirtual 395, 3), (41, .ifCond .eq 10, 3), (44, .lload_n 2, 1), (45, .lconst 1, 1), (46, .iload 4, 2), (48, .lshl, 1), (49, .lor, 1), (50, .lstore_n 2, 1), (51, .iinc 4 1, 3), (54, .goto (-37), 3), (57, .lload_n 2, 1), (58, .lreturn, 1)]
theorem dtX11_moved : dec_ok mX11_moved.2.1 tX11_moved = true := by decide +kernel
set_option maxHeartbeats 1000000 in
theorem lr_movedM {J : Wd} {K N P R : Nat} {V : (Nat → Int32) → Nat → Int32} (hR : RM J K N P) (hL : LM J R V) {kn : Int32} : ∀ (m h : Nat) (x4 : Int32) (x2 : Int64) (W : Wd), h + m = 64 → x4 = nI h → x2 = (mvC (ppM J N) (fun c => V (fctM J K N P (nI c) kn) 1) h) → Fr8 J W → BdQ SyM mX11_moved 8 17 [(4, .int x4), (2, .long x2), (0, .ref 0), (1, .int kn)] [] W (fun r J' => r = some (.long (mvC (ppM J N) (fun c => V (fctM J K N P (nI c) kn) 1) 64)) ∧ Fr8 J J') := by
  intro m
  induction m with
  | zero =>
    intro h x4 x2 W hh e4 e2 hW
    subst e4; subst e2
    refine BdQ.l (fun _ _ k => b_iload (pc := 17) (i := 4) (dd dtX11_moved 10 rfl) rfl k) ?_
    refine BdQ.l (fun _ _ k => b_bipush (pc := 19) (v := 64) (dd dtX11_moved 11 rfl) (by decide) k) ?_
    refine BdQ.c (fun _ _ k1 k2 => b_icmpL_ge (pc := 21) (tgt := 57) (dd dtX11_moved 12 rfl) (by decide) k1 k2) (fun h21 => ?_) (fun h21 => ?_)
    · refine BdQ.l (fun _ _ k => b_lload_n (pc := 57) (i := 2) (dd dtX11_moved 31 rfl) rfl rfl k) ?_
      refine ⟨_, _, ?_, b_lret (dd dtX11_moved 32 rfl) rfl⟩
      exact ⟨by rw [show h = 64 by omega], hW⟩
    · exact absurd h21 (by rw [show h = 64 by omega]; decide)
  | succ m ih =>
    intro h x4 x2 W hh e4 e2 hW
    subst e4; subst e2
    refine BdQ.l (fun _ _ k => b_iload (pc := 17) (i := 4) (dd dtX11_moved 10 rfl) rfl k) ?_
    refine BdQ.l (fun _ _ k => b_bipush (pc := 19) (v := 64) (dd dtX11_moved 11 rfl) (by decide) k) ?_
    refine BdQ.c (fun _ _ k1 k2 => b_icmpL_ge (pc := 21) (tgt := 57) (dd dtX11_moved 12 rfl) (by decide) k1 k2) (fun h21 => ?_) (fun h21 => ?_)
    · exact absurd (nI_lt (show h < 64 by omega) (by decide)) h21
    · refine BdQ.l (fun _ _ k => b_aload_n (pc := 24) (i := 0) (dd dtX11_moved 13 rfl) rfl rfl k) ?_
      refine BdQ.l (fun _ _ k => b_iload (pc := 25) (i := 4) (dd dtX11_moved 14 rfl) rfl k) ?_
      refine BdQ.l (fun _ _ k => b_invV (pc := 27) (dd dtX11_moved 15 rfl) mlX11_389 mvX11_peopleIn miX11_peopleIn (c_X11_peopleIn (hR.fr hW).2.1.1 hR.2.1.2) oM_0 rfl rfl (by decide) (Nat.le_of_ble_eq_true rfl) k) ?_
      show BdQ _ _ _ _ _ [.int (ppM W N h)] _ _
      rw [ppM_eq hW]
      refine BdQ.c (fun _ _ k1 k2 => b_ifL_le (pc := 30) (tgt := 51) (dd dtX11_moved 16 rfl) (by decide) k1 k2) (fun h30 => ?_) (fun h30 => ?_)
      · refine BdQ.l (fun _ _ k => b_iinc1 (pc := 51) (i := 4) (lv' := [(4, _), (2, _), (0, _), (1, _)]) (dd dtX11_moved 29 rfl) rfl (Nat.le_of_ble_eq_true rfl) rfl k) ?_
        refine BdQ.l (fun _ _ k => b_goto (pc := 54) (tgt := 17) (dd dtX11_moved 30 rfl) (by decide) k) ?_
        rw [nI_1]
        first
        | exact ih (h + 1) _ _ _ (by omega) rfl (if_neg (fun q => h30 q.1)).symm hW
        | exact ih (h + 1) _ _ _ (by omega) rfl (if_neg (fun q => q.2 h41)).symm (hW.t R38)
        | exact ih (h + 1) _ _ _ (by omega) rfl (if_pos ⟨h30, h41⟩).symm (hW.t R38)
      · refine BdQ.l (fun _ _ k => b_aload_n (pc := 33) (i := 0) (dd dtX11_moved 17 rfl) rfl rfl k) ?_
        refine BdQ.l (fun _ _ k => b_iload (pc := 34) (i := 4) (dd dtX11_moved 18 rfl) rfl k) ?_
        refine BdQ.l (fun _ _ k => b_ic1 (pc := 36) (dd dtX11_moved 19 rfl) k) ?_
        refine BdQ.l (fun _ _ k => b_iload_n (pc := 37) (i := 1) (dd dtX11_moved 20 rfl) rfl rfl k) ?_
        obtain ⟨_, I38, ⟨rfl, R38⟩, k38⟩ := q_lawOf (hR.fr hW) (hL.fr hW) (vpn rfl (show h < 64 by omega) (by decide)) (show 1 < 3 by decide) (c := nI h) (kn := kn)
        rw [fctM_eq hW] at k38
        refine BdQ.l (fun _ _ k => b_invV (pc := 38) (dd dtX11_moved 21 rfl) mlX11_395 mvX11_lawOf miX11_lawOf (k38) oM_0 rfl rfl (by decide) (Nat.le_of_ble_eq_true rfl) k) ?_
        refine BdQ.b (fun _ _ k1 k2 => b_if_eq (pc := 41) (tgt := 51) (dd dtX11_moved 22 rfl) (by decide) k1 k2) (fun h41 => ?_) (fun h41 => ?_)
        · refine BdQ.l (fun _ _ k => b_iinc1 (pc := 51) (i := 4) (lv' := [(4, _), (2, _), (0, _), (1, _)]) (dd dtX11_moved 29 rfl) rfl (Nat.le_of_ble_eq_true rfl) rfl k) ?_
          refine BdQ.l (fun _ _ k => b_goto (pc := 54) (tgt := 17) (dd dtX11_moved 30 rfl) (by decide) k) ?_
          rw [nI_1]
          first
          | exact ih (h + 1) _ _ _ (by omega) rfl (if_neg (fun q => h30 q.1)).symm hW
          | exact ih (h + 1) _ _ _ (by omega) rfl (if_neg (fun q => q.2 h41)).symm (hW.t R38)
          | exact ih (h + 1) _ _ _ (by omega) rfl (if_pos ⟨h30, h41⟩).symm (hW.t R38)
        · refine BdQ.l (fun _ _ k => b_lload_n (pc := 44) (i := 2) (dd dtX11_moved 23 rfl) rfl rfl k) ?_
          refine BdQ.l (fun _ _ k => b_lconst (pc := 45) (v := 1) (dd dtX11_moved 24 rfl) (by decide) k) ?_
          refine BdQ.l (fun _ _ k => b_iload (pc := 46) (i := 4) (dd dtX11_moved 25 rfl) rfl k) ?_
          refine BdQ.l (fun _ _ k => b_lshl (pc := 48) (dd dtX11_moved 26 rfl) k) ?_
          refine BdQ.l (fun _ _ k => b_lor (pc := 49) (dd dtX11_moved 27 rfl) k) ?_
          refine BdQ.l (fun _ _ k => b_lstore_n (pc := 50) (i := 2) (lv' := [(2, _), (4, _), (0, _), (1, _)]) (dd dtX11_moved 28 rfl) rfl ⟨Nat.le_of_ble_eq_true rfl, Nat.le_of_ble_eq_true rfl⟩ rfl k) ?_
          refine BdQ.l (fun _ _ k => b_iinc1 (pc := 51) (i := 4) (lv' := [(4, _), (2, _), (0, _), (1, _)]) (dd dtX11_moved 29 rfl) rfl (Nat.le_of_ble_eq_true rfl) rfl k) ?_
          refine BdQ.l (fun _ _ k => b_goto (pc := 54) (tgt := 17) (dd dtX11_moved 30 rfl) (by decide) k) ?_
          rw [nI_1]
          first
          | exact ih (h + 1) _ _ _ (by omega) rfl (if_neg (fun q => h30 q.1)).symm hW
          | exact ih (h + 1) _ _ _ (by omega) rfl (if_neg (fun q => q.2 h41)).symm (hW.t R38)
          | exact ih (h + 1) _ _ _ (by omega) rfl (if_pos ⟨h30, h41⟩).symm (hW.t R38)
set_option maxHeartbeats 4000000 in
theorem q_movedM {J : Wd} {K N P R : Nat} {V : (Nat → Int32) → Nat → Int32} (hR : RM J K N P) (hL : LM J R V) {kn : Int32} : CalQ SyM mX11_moved 8 [.ref 0, .int kn] J (fun r J' => r = some (.long (if inR kn 0 (J 0 0) then (mvC (ppM J N) (fun c => V (fctM J K N P (nI c) kn) 1) 64) else NOl)) ∧ Fr8 J J') := by
  refine CalQ.of (by decide) (Nat.le_of_ble_eq_true rfl) ?_
  show BdQ _ _ _ _ [(0, _), (1, _)] _ _ _
  refine BdQ.l (fun _ _ k => b_aload_n (pc := 0) (i := 0) (dd dtX11_moved 0 rfl) rfl rfl k) ?_
  refine BdQ.l (fun _ _ k => b_iload_n (pc := 1) (i := 1) (dd dtX11_moved 1 rfl) rfl rfl k) ?_
  refine BdQ.l (fun _ _ k => b_invV (pc := 2) (dd dtX11_moved 2 rfl) mlX11_277 mvX11_isKnown miX11_isKnown (c_X11_isKnown) oM_0 rfl rfl (by decide) (Nat.le_of_ble_eq_true rfl) k) ?_
  refine BdQ.b (fun _ _ k1 k2 => b_ifb_ne (pc := 5) (tgt := 12) (dd dtX11_moved 3 rfl) (by decide) k1 k2) (fun h5 => ?_) (fun h5 => ?_)
  · refine BdQ.l (fun _ _ k => b_lconst (pc := 12) (v := 0) (dd dtX11_moved 6 rfl) (by decide) k) ?_
    refine BdQ.l (fun _ _ k => b_lstore_n (pc := 13) (i := 2) (lv' := [(2, _), (0, _), (1, _)]) (dd dtX11_moved 7 rfl) rfl ⟨Nat.le_of_ble_eq_true rfl, Nat.le_of_ble_eq_true rfl⟩ rfl k) ?_
    refine BdQ.l (fun _ _ k => b_ic0 (pc := 14) (dd dtX11_moved 8 rfl) k) ?_
    refine BdQ.l (fun _ _ k => b_istore (pc := 15) (i := 4) (lv' := [(4, _), (2, _), (0, _), (1, _)]) (dd dtX11_moved 9 rfl) (Nat.le_of_ble_eq_true rfl) rfl k) ?_
    rw [if_pos h5]
    exact lr_movedM hR hL 64 0 _ _ _ (by omega) rfl rfl Fr8.r
  · refine BdQ.l (fun _ _ k => b_ldc2 (pc := 8) (dd dtX11_moved 4 rfl) kcX11_399 k) ?_
    refine ⟨_, _, ?_, b_lret (dd dtX11_moved 5 rfl) rfl⟩
    exact ⟨by rw [if_neg h5]; rfl, Fr8.r⟩
def clpM (x : Int32) : Int32 := if x < 0 then 0 else if 99 < x then 99 else x
theorem clpM_eq (x : Int32) : clpM x = clp x := by
  unfold clpM clp mx mn
  by_cases h1 : 99 < x
  · have h0 : ¬ x < 0 := fun q => by rw [Int32.lt_iff_toInt_lt] at q h1; have : (99 : Int32).toInt = 99 := rfl; have : (0 : Int32).toInt = 0 := rfl; omega
    rw [if_neg h0, if_pos h1]; rfl
  · rw [if_neg h1]
    by_cases h0 : x < 0
    · have h2 : ¬ 0 < x := fun q => by rw [Int32.lt_iff_toInt_lt] at q h0; omega
      rw [if_pos h0, if_neg h2]
    · rw [if_neg h0]
      by_cases h2 : 0 < x
      · rw [if_pos h2]
      · rw [if_neg h2]
        apply Int32.toInt_inj.mp
        rw [Int32.lt_iff_toInt_lt] at h0 h2
        omega
def firmM (harm owed : Int32) : Int64 := harm.toInt64 * (clp owed).toInt64 / (clp owed + 1).toInt64
def vPartM (nh h what : Int32) (gone : Nat → Int32) (firm : Int64) (harm : Int32) : Int64 := if inR h 0 (nh - 1) ∧ inR what 0 1 then (if gone h.toNatClampNeg < 0 then -3 else if what = 0 then firm else harm.toInt64 - firm) else NOl
def tX11_part : List (Nat × Instr × Nat) := [(0, .aload_n 0, 1), (1, .iload_n 1, 1), (2, .invokevirtual 253, 3), (5, .ifCond .eq 13, 3), (8, .aload_n 0, 1), (9, .iload_n 2, 1), (10, .iconst 0, 1), (11, .iconst 1, 1), (12, .invokevirtual 1, 3), (15, .ifCond .ne 7, 3), (18, .ldc2_w 399, 3), (21, .lreturn, 1), (22, .aload_n 0, 1), (23, .getfield 66, 3), (26, .iload_n 1, 1), (27, .iaload, 1), (28, .ifCond .ge 7, 3), (31, .ldc2_w 401, 3), (34, .lreturn, 1), (35, .aload_n 0, 1), (36, .aload_n 0, 1), (37, .getfield 57, 3), (40, .iload_n 1, 1), (41, .iaload, 1), (42, .iconst 2, 1), (43, .aload_n 0, 1), (44, .getfield 66, 3), (47, .iload_n 1, 1), (48, .iaload, 1), (49, .invokevirtual 395, 3), (52, .istore_n 3, 1), (53, .iload_n 3, 1), (54, .ifCond .ge 7, 3), (57, .iconst 0, 1), (58, .goto 15, 3), (61, .iload_n 3, 1), (62, .bipush 99, 2), (64, .if_icmp .le 8, 3), (67, .bipush 99, 2), (69, .goto 4, 3), (72, .iload_n 3, 1), (73, .istore_n 3, 1), (74, .aload_n 0, 1), (75, .iload_n 1, 1), (76, .invokevirtual 263, 3), (79, .i2l, 1), (80, .iload_n 3, 1), (81, .i2l, 1), (82, .lmul, 1), (83, .iload_n 3, 1), (84, .iconst 1, 1), (85, .iadd, 1), (86, .i2l, 1), (87, .ldiv, 1), (88, .lstore 4, 2), (90, .iload_n 2, 1), (91, .ifCond .ne 8, 3), (94, .lload 4, 2), (96, .goto 12, 3), (99, .aload_n 0, 1), (100, .iload_n 1, 1), (101, .invokevirtual 263, 3), (104, .i2l, 1), (105, .lload 4, 2), (107, .lsub, 1), (108, .lreturn, 1)]
theorem dtX11_part : dec_ok mX11_part.2.1 tX11_part = true := by decide +kernel
set_option maxHeartbeats 4000000 in
theorem q_partMa {J : Wd} {K N P R : Nat} {V : (Nat → Int32) → Nat → Int32} (hR : RM J K N P) (hL : LM J R V) {h what : Int32} (hcell : ∀ i, i < N → vp_in (J 10 i) 64) (hv : (V (fctM J K N P (J 10 h.toNatClampNeg) (J 13 h.toNatClampNeg)) 2) < 0) : CalQ SyM mX11_part 8 [.ref 0, .int h, .int what] J (fun r J' => r = some (.long (vPartM (J 0 3) h what (J 13) (firmM (sHarm (J 11) (J 12) (J 16) h.toNatClampNeg) (V (fctM J K N P (J 10 h.toNatClampNeg) (J 13 h.toNatClampNeg)) 2)) (sHarm (J 11) (J 12) (J 16) h.toNatClampNeg))) ∧ Fr8 J J') := by
  refine CalQ.of (by decide) (Nat.le_of_ble_eq_true rfl) ?_
  show BdQ _ _ _ _ [(0, _), (1, _), (2, _)] _ _ _
  refine BdQ.l (fun _ _ k => b_aload_n (pc := 0) (i := 0) (dd dtX11_part 0 rfl) rfl rfl k) ?_
  refine BdQ.l (fun _ _ k => b_iload_n (pc := 1) (i := 1) (dd dtX11_part 1 rfl) rfl rfl k) ?_
  refine BdQ.l (fun _ _ k => b_invV (pc := 2) (dd dtX11_part 2 rfl) mlX11_253 mvX11_isHouse miX11_isHouse (c_X11_isHouse) oM_0 rfl rfl (by decide) (Nat.le_of_ble_eq_true rfl) k) ?_
  refine BdQ.c (fun _ _ k1 k2 => b_ifb_eq (pc := 5) (tgt := 18) (dd dtX11_part 3 rfl) (by decide) k1 k2) (fun h5 => ?_) (fun h5 => ?_)
  · refine BdQ.l (fun _ _ k => b_ldc2 (pc := 18) (dd dtX11_part 10 rfl) kcX11_399 k) ?_
    refine ⟨_, _, ?_, b_lret (dd dtX11_part 11 rfl) rfl⟩
    first
    | exact ⟨by rw [vPartM, if_neg (fun q => h5 q.1)]; rfl, Fr8.r⟩
    | exact ⟨by rw [vPartM, if_neg (fun q => h15 q.2)]; rfl, Fr8.r⟩
    | exact ⟨by rw [vPartM, if_pos ⟨h5, h15⟩, if_pos h28], Fr8.r⟩
    | (refine ⟨?_, R49⟩
       rw [vPartM, if_pos ⟨h5, h15⟩, if_neg h28]
       have e1 : sHarm (I49 11) (I49 12) (I49 16) h.toNatClampNeg = sHarm (J 11) (J 12) (J 16) h.toNatClampNeg := by rw [R49.1 11 (by decide) (by omega), R49.1 12 (by decide) (by omega), R49.1 16 (by decide) (by omega)]
       rw [e1]
       unfold firmM
       rw [ecl]
       first
       | rw [if_pos h91]
       | rw [if_neg h91])
  · refine BdQ.l (fun _ _ k => b_aload_n (pc := 8) (i := 0) (dd dtX11_part 4 rfl) rfl rfl k) ?_
    refine BdQ.l (fun _ _ k => b_iload_n (pc := 9) (i := 2) (dd dtX11_part 5 rfl) rfl rfl k) ?_
    refine BdQ.l (fun _ _ k => b_ic0 (pc := 10) (dd dtX11_part 6 rfl) k) ?_
    refine BdQ.l (fun _ _ k => b_ic1 (pc := 11) (dd dtX11_part 7 rfl) k) ?_
    refine BdQ.l (fun _ _ k => b_invV (pc := 12) (dd dtX11_part 8 rfl) mlX11_1 mvX11_in miX11_in (c_X11_in) oM_0 rfl rfl (by decide) (Nat.le_of_ble_eq_true rfl) k) ?_
    refine BdQ.b (fun _ _ k1 k2 => b_ifb_ne (pc := 15) (tgt := 22) (dd dtX11_part 9 rfl) (by decide) k1 k2) (fun h15 => ?_) (fun h15 => ?_)
    · refine BdQ.l (fun _ _ k => b_aload_n (pc := 22) (i := 0) (dd dtX11_part 12 rfl) rfl rfl k) ?_
      refine BdQ.l (fun _ _ k => b_geta (pc := 23) (dd dtX11_part 13 rfl) fwX11_66 pM_0 rM_0_17 k) ?_
      refine BdQ.l (fun _ _ k => b_iload_n (pc := 26) (i := 1) (dd dtX11_part 14 rfl) rfl rfl k) ?_
      refine BdQ.l (fun _ _ k => b_iald (pc := 27) (dd dtX11_part 15 rfl) pM_13 ((hse hR.2.1.2 (by rw [← hR.2.1.1]; exact h5)).1) k) ?_
      refine BdQ.c (fun _ _ k1 k2 => b_ifL_ge (pc := 28) (tgt := 35) (dd dtX11_part 16 rfl) (by decide) k1 k2) (fun h28 => ?_) (fun h28 => ?_)
      · refine BdQ.l (fun _ _ k => b_aload_n (pc := 35) (i := 0) (dd dtX11_part 19 rfl) rfl rfl k) ?_
        refine BdQ.l (fun _ _ k => b_aload_n (pc := 36) (i := 0) (dd dtX11_part 20 rfl) rfl rfl k) ?_
        refine BdQ.l (fun _ _ k => b_geta (pc := 37) (dd dtX11_part 21 rfl) fwX11_57 pM_0 rM_0_14 k) ?_
        refine BdQ.l (fun _ _ k => b_iload_n (pc := 40) (i := 1) (dd dtX11_part 22 rfl) rfl rfl k) ?_
        refine BdQ.l (fun _ _ k => b_iald (pc := 41) (dd dtX11_part 23 rfl) pM_10 ((hse hR.2.1.2 (by rw [← hR.2.1.1]; exact h5)).1) k) ?_
        refine BdQ.l (fun _ _ k => b_ic2 (pc := 42) (dd dtX11_part 24 rfl) k) ?_
        refine BdQ.l (fun _ _ k => b_aload_n (pc := 43) (i := 0) (dd dtX11_part 25 rfl) rfl rfl k) ?_
        refine BdQ.l (fun _ _ k => b_geta (pc := 44) (dd dtX11_part 26 rfl) fwX11_66 pM_0 rM_0_17 k) ?_
        refine BdQ.l (fun _ _ k => b_iload_n (pc := 47) (i := 1) (dd dtX11_part 27 rfl) rfl rfl k) ?_
        refine BdQ.l (fun _ _ k => b_iald (pc := 48) (dd dtX11_part 28 rfl) pM_13 ((hse hR.2.1.2 (by rw [← hR.2.1.1]; exact h5)).1) k) ?_
        have hcc := hcell _ (hse hR.2.1.2 (by rw [← hR.2.1.1]; exact h5)).2
        obtain ⟨_, I49, ⟨rfl, R49⟩, k49⟩ := q_lawOf hR hL hcc (show 2 < 3 by decide) (kn := J 13 h.toNatClampNeg)
        refine BdQ.l (fun _ _ k => b_invV (pc := 49) (dd dtX11_part 29 rfl) mlX11_395 mvX11_lawOf miX11_lawOf (k49) oM_0 rfl rfl (by decide) (Nat.le_of_ble_eq_true rfl) k) ?_
        refine BdQ.l (fun _ _ k => b_istore_n (pc := 52) (i := 3) (lv' := [(3, _), (0, _), (1, _), (2, _)]) (dd dtX11_part 30 rfl) rfl (Nat.le_of_ble_eq_true rfl) rfl k) ?_
        refine BdQ.l (fun _ _ k => b_iload_n (pc := 53) (i := 3) (dd dtX11_part 31 rfl) rfl rfl k) ?_
        refine BdQ.c (fun _ _ k1 k2 => b_ifL_ge (pc := 54) (tgt := 61) (dd dtX11_part 32 rfl) (by decide) k1 k2) (fun h54 => ?_) (fun h54 => ?_)
        · exact absurd hv h54
        · refine BdQ.l (fun _ _ k => b_ic0 (pc := 57) (dd dtX11_part 33 rfl) k) ?_
          refine BdQ.l (fun _ _ k => b_goto (pc := 58) (tgt := 73) (dd dtX11_part 34 rfl) (by decide) k) ?_
          have ecl : clp (V (fctM J K N P (J 10 h.toNatClampNeg) (J 13 h.toNatClampNeg)) 2) = 0 := (clpM_eq _).symm.trans (if_pos hv)
          obtain ⟨k, ek, hk⟩ := clp_in (V (fctM J K N P (J 10 h.toNatClampNeg) (J 13 h.toNatClampNeg)) 2)
          rw [ecl] at ek
          refine BdQ.l (fun _ _ k => b_istore_n (pc := 73) (i := 3) (lv' := [(3, _), (0, _), (1, _), (2, _)]) (dd dtX11_part 41 rfl) rfl (Nat.le_of_ble_eq_true rfl) rfl k) ?_
          refine BdQ.l (fun _ _ k => b_aload_n (pc := 74) (i := 0) (dd dtX11_part 42 rfl) rfl rfl k) ?_
          refine BdQ.l (fun _ _ k => b_iload_n (pc := 75) (i := 1) (dd dtX11_part 43 rfl) rfl rfl k) ?_
          refine BdQ.l (fun _ _ k => b_invV (pc := 76) (dd dtX11_part 44 rfl) mlX11_263 mvX11_harmOf miX11_harmOf (c_X11_harmOf (hse hR.2.1.2 (by rw [← hR.2.1.1]; exact h5)).1) oM_0 rfl rfl (by decide) (Nat.le_of_ble_eq_true rfl) k) ?_
          refine BdQ.l (fun _ _ k => b_i2l (pc := 79) (dd dtX11_part 45 rfl) k) ?_
          refine BdQ.l (fun _ _ k => b_iload_n (pc := 80) (i := 3) (dd dtX11_part 46 rfl) rfl rfl k) ?_
          refine BdQ.l (fun _ _ k => b_i2l (pc := 81) (dd dtX11_part 47 rfl) k) ?_
          refine BdQ.l (fun _ _ k => b_lmul (pc := 82) (dd dtX11_part 48 rfl) k) ?_
          refine BdQ.l (fun _ _ k => b_iload_n (pc := 83) (i := 3) (dd dtX11_part 49 rfl) rfl rfl k) ?_
          refine BdQ.l (fun _ _ k => b_ic1 (pc := 84) (dd dtX11_part 50 rfl) k) ?_
          refine BdQ.l (fun _ _ k => b_iadd (pc := 85) (dd dtX11_part 51 rfl) k) ?_
          refine BdQ.l (fun _ _ k => b_i2l (pc := 86) (dd dtX11_part 52 rfl) k) ?_
          refine BdQ.l (fun _ _ k => b_ldiv (pc := 87) (dd dtX11_part 53 rfl) (by rw [ek, nI_1, nI_l (by omega), show (0 : Int64) = lN 0 from rfl, lN_eq (by omega) (by decide)]; omega) k) ?_
          refine BdQ.l (fun _ _ k => b_lstore (pc := 88) (i := 4) (lv' := [(4, _), (3, _), (0, _), (1, _), (2, _)]) (dd dtX11_part 54 rfl) ⟨Nat.le_of_ble_eq_true rfl, Nat.le_of_ble_eq_true rfl⟩ rfl k) ?_
          refine BdQ.l (fun _ _ k => b_iload_n (pc := 90) (i := 2) (dd dtX11_part 55 rfl) rfl rfl k) ?_
          refine BdQ.c (fun _ _ k1 k2 => b_if_ne (pc := 91) (tgt := 99) (dd dtX11_part 56 rfl) (by decide) k1 k2) (fun h91 => ?_) (fun h91 => ?_)
          · refine BdQ.l (fun _ _ k => b_aload_n (pc := 99) (i := 0) (dd dtX11_part 59 rfl) rfl rfl k) ?_
            refine BdQ.l (fun _ _ k => b_iload_n (pc := 100) (i := 1) (dd dtX11_part 60 rfl) rfl rfl k) ?_
            refine BdQ.l (fun _ _ k => b_invV (pc := 101) (dd dtX11_part 61 rfl) mlX11_263 mvX11_harmOf miX11_harmOf (c_X11_harmOf (hse hR.2.1.2 (by rw [← hR.2.1.1]; exact h5)).1) oM_0 rfl rfl (by decide) (Nat.le_of_ble_eq_true rfl) k) ?_
            refine BdQ.l (fun _ _ k => b_i2l (pc := 104) (dd dtX11_part 62 rfl) k) ?_
            refine BdQ.l (fun _ _ k => b_lload (pc := 105) (i := 4) (dd dtX11_part 63 rfl) rfl k) ?_
            refine BdQ.l (fun _ _ k => b_lsub (pc := 107) (dd dtX11_part 64 rfl) k) ?_
            refine ⟨_, _, ?_, b_lret (dd dtX11_part 65 rfl) rfl⟩
            first
            | exact ⟨by rw [vPartM, if_neg (fun q => h5 q.1)]; rfl, Fr8.r⟩
            | exact ⟨by rw [vPartM, if_neg (fun q => h15 q.2)]; rfl, Fr8.r⟩
            | exact ⟨by rw [vPartM, if_pos ⟨h5, h15⟩, if_pos h28], Fr8.r⟩
            | (refine ⟨?_, R49⟩
               rw [vPartM, if_pos ⟨h5, h15⟩, if_neg h28]
               have e1 : sHarm (I49 11) (I49 12) (I49 16) h.toNatClampNeg = sHarm (J 11) (J 12) (J 16) h.toNatClampNeg := by rw [R49.1 11 (by decide) (by omega), R49.1 12 (by decide) (by omega), R49.1 16 (by decide) (by omega)]
               rw [e1]
               unfold firmM
               rw [ecl]
               first
               | rw [if_pos h91]
               | rw [if_neg h91])
          · refine BdQ.l (fun _ _ k => b_lload (pc := 94) (i := 4) (dd dtX11_part 57 rfl) rfl k) ?_
            refine BdQ.l (fun _ _ k => b_goto (pc := 96) (tgt := 108) (dd dtX11_part 58 rfl) (by decide) k) ?_
            refine ⟨_, _, ?_, b_lret (dd dtX11_part 65 rfl) rfl⟩
            first
            | exact ⟨by rw [vPartM, if_neg (fun q => h5 q.1)]; rfl, Fr8.r⟩
            | exact ⟨by rw [vPartM, if_neg (fun q => h15 q.2)]; rfl, Fr8.r⟩
            | exact ⟨by rw [vPartM, if_pos ⟨h5, h15⟩, if_pos h28], Fr8.r⟩
            | (refine ⟨?_, R49⟩
               rw [vPartM, if_pos ⟨h5, h15⟩, if_neg h28]
               have e1 : sHarm (I49 11) (I49 12) (I49 16) h.toNatClampNeg = sHarm (J 11) (J 12) (J 16) h.toNatClampNeg := by rw [R49.1 11 (by decide) (by omega), R49.1 12 (by decide) (by omega), R49.1 16 (by decide) (by omega)]
               rw [e1]
               unfold firmM
               rw [ecl]
               first
               | rw [if_pos h91]
               | rw [if_neg h91])
      · refine BdQ.l (fun _ _ k => b_ldc2 (pc := 31) (dd dtX11_part 17 rfl) kcX11_401 k) ?_
        refine ⟨_, _, ?_, b_lret (dd dtX11_part 18 rfl) rfl⟩
        first
        | exact ⟨by rw [vPartM, if_neg (fun q => h5 q.1)]; rfl, Fr8.r⟩
        | exact ⟨by rw [vPartM, if_neg (fun q => h15 q.2)]; rfl, Fr8.r⟩
        | exact ⟨by rw [vPartM, if_pos ⟨h5, h15⟩, if_pos h28], Fr8.r⟩
        | (refine ⟨?_, R49⟩
           rw [vPartM, if_pos ⟨h5, h15⟩, if_neg h28]
           have e1 : sHarm (I49 11) (I49 12) (I49 16) h.toNatClampNeg = sHarm (J 11) (J 12) (J 16) h.toNatClampNeg := by rw [R49.1 11 (by decide) (by omega), R49.1 12 (by decide) (by omega), R49.1 16 (by decide) (by omega)]
           rw [e1]
           unfold firmM
           rw [ecl]
           first
           | rw [if_pos h91]
           | rw [if_neg h91])
    · refine BdQ.l (fun _ _ k => b_ldc2 (pc := 18) (dd dtX11_part 10 rfl) kcX11_399 k) ?_
      refine ⟨_, _, ?_, b_lret (dd dtX11_part 11 rfl) rfl⟩
      first
      | exact ⟨by rw [vPartM, if_neg (fun q => h5 q.1)]; rfl, Fr8.r⟩
      | exact ⟨by rw [vPartM, if_neg (fun q => h15 q.2)]; rfl, Fr8.r⟩
      | exact ⟨by rw [vPartM, if_pos ⟨h5, h15⟩, if_pos h28], Fr8.r⟩
      | (refine ⟨?_, R49⟩
         rw [vPartM, if_pos ⟨h5, h15⟩, if_neg h28]
         have e1 : sHarm (I49 11) (I49 12) (I49 16) h.toNatClampNeg = sHarm (J 11) (J 12) (J 16) h.toNatClampNeg := by rw [R49.1 11 (by decide) (by omega), R49.1 12 (by decide) (by omega), R49.1 16 (by decide) (by omega)]
         rw [e1]
         unfold firmM
         rw [ecl]
         first
         | rw [if_pos h91]
         | rw [if_neg h91])
set_option maxHeartbeats 4000000 in
theorem q_partMb {J : Wd} {K N P R : Nat} {V : (Nat → Int32) → Nat → Int32} (hR : RM J K N P) (hL : LM J R V) {h what : Int32} (hcell : ∀ i, i < N → vp_in (J 10 i) 64) (hv0 : ¬ (V (fctM J K N P (J 10 h.toNatClampNeg) (J 13 h.toNatClampNeg)) 2) < 0) (hv : 99 < (V (fctM J K N P (J 10 h.toNatClampNeg) (J 13 h.toNatClampNeg)) 2)) : CalQ SyM mX11_part 8 [.ref 0, .int h, .int what] J (fun r J' => r = some (.long (vPartM (J 0 3) h what (J 13) (firmM (sHarm (J 11) (J 12) (J 16) h.toNatClampNeg) (V (fctM J K N P (J 10 h.toNatClampNeg) (J 13 h.toNatClampNeg)) 2)) (sHarm (J 11) (J 12) (J 16) h.toNatClampNeg))) ∧ Fr8 J J') := by
  refine CalQ.of (by decide) (Nat.le_of_ble_eq_true rfl) ?_
  show BdQ _ _ _ _ [(0, _), (1, _), (2, _)] _ _ _
  refine BdQ.l (fun _ _ k => b_aload_n (pc := 0) (i := 0) (dd dtX11_part 0 rfl) rfl rfl k) ?_
  refine BdQ.l (fun _ _ k => b_iload_n (pc := 1) (i := 1) (dd dtX11_part 1 rfl) rfl rfl k) ?_
  refine BdQ.l (fun _ _ k => b_invV (pc := 2) (dd dtX11_part 2 rfl) mlX11_253 mvX11_isHouse miX11_isHouse (c_X11_isHouse) oM_0 rfl rfl (by decide) (Nat.le_of_ble_eq_true rfl) k) ?_
  refine BdQ.c (fun _ _ k1 k2 => b_ifb_eq (pc := 5) (tgt := 18) (dd dtX11_part 3 rfl) (by decide) k1 k2) (fun h5 => ?_) (fun h5 => ?_)
  · refine BdQ.l (fun _ _ k => b_ldc2 (pc := 18) (dd dtX11_part 10 rfl) kcX11_399 k) ?_
    refine ⟨_, _, ?_, b_lret (dd dtX11_part 11 rfl) rfl⟩
    first
    | exact ⟨by rw [vPartM, if_neg (fun q => h5 q.1)]; rfl, Fr8.r⟩
    | exact ⟨by rw [vPartM, if_neg (fun q => h15 q.2)]; rfl, Fr8.r⟩
    | exact ⟨by rw [vPartM, if_pos ⟨h5, h15⟩, if_pos h28], Fr8.r⟩
    | (refine ⟨?_, R49⟩
       rw [vPartM, if_pos ⟨h5, h15⟩, if_neg h28]
       have e1 : sHarm (I49 11) (I49 12) (I49 16) h.toNatClampNeg = sHarm (J 11) (J 12) (J 16) h.toNatClampNeg := by rw [R49.1 11 (by decide) (by omega), R49.1 12 (by decide) (by omega), R49.1 16 (by decide) (by omega)]
       rw [e1]
       unfold firmM
       rw [ecl]
       first
       | rw [if_pos h91]
       | rw [if_neg h91])
  · refine BdQ.l (fun _ _ k => b_aload_n (pc := 8) (i := 0) (dd dtX11_part 4 rfl) rfl rfl k) ?_
    refine BdQ.l (fun _ _ k => b_iload_n (pc := 9) (i := 2) (dd dtX11_part 5 rfl) rfl rfl k) ?_
    refine BdQ.l (fun _ _ k => b_ic0 (pc := 10) (dd dtX11_part 6 rfl) k) ?_
    refine BdQ.l (fun _ _ k => b_ic1 (pc := 11) (dd dtX11_part 7 rfl) k) ?_
    refine BdQ.l (fun _ _ k => b_invV (pc := 12) (dd dtX11_part 8 rfl) mlX11_1 mvX11_in miX11_in (c_X11_in) oM_0 rfl rfl (by decide) (Nat.le_of_ble_eq_true rfl) k) ?_
    refine BdQ.b (fun _ _ k1 k2 => b_ifb_ne (pc := 15) (tgt := 22) (dd dtX11_part 9 rfl) (by decide) k1 k2) (fun h15 => ?_) (fun h15 => ?_)
    · refine BdQ.l (fun _ _ k => b_aload_n (pc := 22) (i := 0) (dd dtX11_part 12 rfl) rfl rfl k) ?_
      refine BdQ.l (fun _ _ k => b_geta (pc := 23) (dd dtX11_part 13 rfl) fwX11_66 pM_0 rM_0_17 k) ?_
      refine BdQ.l (fun _ _ k => b_iload_n (pc := 26) (i := 1) (dd dtX11_part 14 rfl) rfl rfl k) ?_
      refine BdQ.l (fun _ _ k => b_iald (pc := 27) (dd dtX11_part 15 rfl) pM_13 ((hse hR.2.1.2 (by rw [← hR.2.1.1]; exact h5)).1) k) ?_
      refine BdQ.c (fun _ _ k1 k2 => b_ifL_ge (pc := 28) (tgt := 35) (dd dtX11_part 16 rfl) (by decide) k1 k2) (fun h28 => ?_) (fun h28 => ?_)
      · refine BdQ.l (fun _ _ k => b_aload_n (pc := 35) (i := 0) (dd dtX11_part 19 rfl) rfl rfl k) ?_
        refine BdQ.l (fun _ _ k => b_aload_n (pc := 36) (i := 0) (dd dtX11_part 20 rfl) rfl rfl k) ?_
        refine BdQ.l (fun _ _ k => b_geta (pc := 37) (dd dtX11_part 21 rfl) fwX11_57 pM_0 rM_0_14 k) ?_
        refine BdQ.l (fun _ _ k => b_iload_n (pc := 40) (i := 1) (dd dtX11_part 22 rfl) rfl rfl k) ?_
        refine BdQ.l (fun _ _ k => b_iald (pc := 41) (dd dtX11_part 23 rfl) pM_10 ((hse hR.2.1.2 (by rw [← hR.2.1.1]; exact h5)).1) k) ?_
        refine BdQ.l (fun _ _ k => b_ic2 (pc := 42) (dd dtX11_part 24 rfl) k) ?_
        refine BdQ.l (fun _ _ k => b_aload_n (pc := 43) (i := 0) (dd dtX11_part 25 rfl) rfl rfl k) ?_
        refine BdQ.l (fun _ _ k => b_geta (pc := 44) (dd dtX11_part 26 rfl) fwX11_66 pM_0 rM_0_17 k) ?_
        refine BdQ.l (fun _ _ k => b_iload_n (pc := 47) (i := 1) (dd dtX11_part 27 rfl) rfl rfl k) ?_
        refine BdQ.l (fun _ _ k => b_iald (pc := 48) (dd dtX11_part 28 rfl) pM_13 ((hse hR.2.1.2 (by rw [← hR.2.1.1]; exact h5)).1) k) ?_
        have hcc := hcell _ (hse hR.2.1.2 (by rw [← hR.2.1.1]; exact h5)).2
        obtain ⟨_, I49, ⟨rfl, R49⟩, k49⟩ := q_lawOf hR hL hcc (show 2 < 3 by decide) (kn := J 13 h.toNatClampNeg)
        refine BdQ.l (fun _ _ k => b_invV (pc := 49) (dd dtX11_part 29 rfl) mlX11_395 mvX11_lawOf miX11_lawOf (k49) oM_0 rfl rfl (by decide) (Nat.le_of_ble_eq_true rfl) k) ?_
        refine BdQ.l (fun _ _ k => b_istore_n (pc := 52) (i := 3) (lv' := [(3, _), (0, _), (1, _), (2, _)]) (dd dtX11_part 30 rfl) rfl (Nat.le_of_ble_eq_true rfl) rfl k) ?_
        refine BdQ.l (fun _ _ k => b_iload_n (pc := 53) (i := 3) (dd dtX11_part 31 rfl) rfl rfl k) ?_
        refine BdQ.c (fun _ _ k1 k2 => b_ifL_ge (pc := 54) (tgt := 61) (dd dtX11_part 32 rfl) (by decide) k1 k2) (fun h54 => ?_) (fun h54 => ?_)
        · refine BdQ.l (fun _ _ k => b_iload_n (pc := 61) (i := 3) (dd dtX11_part 35 rfl) rfl rfl k) ?_
          refine BdQ.l (fun _ _ k => b_bipush (pc := 62) (v := 99) (dd dtX11_part 36 rfl) (by decide) k) ?_
          refine BdQ.c (fun _ _ k1 k2 => b_icmpL_le (pc := 64) (tgt := 72) (dd dtX11_part 37 rfl) (by decide) k1 k2) (fun h64 => ?_) (fun h64 => ?_)
          · exact absurd hv h64
          · refine BdQ.l (fun _ _ k => b_bipush (pc := 67) (v := 99) (dd dtX11_part 38 rfl) (by decide) k) ?_
            refine BdQ.l (fun _ _ k => b_goto (pc := 69) (tgt := 73) (dd dtX11_part 39 rfl) (by decide) k) ?_
            have ecl : clp (V (fctM J K N P (J 10 h.toNatClampNeg) (J 13 h.toNatClampNeg)) 2) = 99 := (clpM_eq _).symm.trans ((if_neg hv0).trans (if_pos hv))
            obtain ⟨k, ek, hk⟩ := clp_in (V (fctM J K N P (J 10 h.toNatClampNeg) (J 13 h.toNatClampNeg)) 2)
            rw [ecl] at ek
            refine BdQ.l (fun _ _ k => b_istore_n (pc := 73) (i := 3) (lv' := [(3, _), (0, _), (1, _), (2, _)]) (dd dtX11_part 41 rfl) rfl (Nat.le_of_ble_eq_true rfl) rfl k) ?_
            refine BdQ.l (fun _ _ k => b_aload_n (pc := 74) (i := 0) (dd dtX11_part 42 rfl) rfl rfl k) ?_
            refine BdQ.l (fun _ _ k => b_iload_n (pc := 75) (i := 1) (dd dtX11_part 43 rfl) rfl rfl k) ?_
            refine BdQ.l (fun _ _ k => b_invV (pc := 76) (dd dtX11_part 44 rfl) mlX11_263 mvX11_harmOf miX11_harmOf (c_X11_harmOf (hse hR.2.1.2 (by rw [← hR.2.1.1]; exact h5)).1) oM_0 rfl rfl (by decide) (Nat.le_of_ble_eq_true rfl) k) ?_
            refine BdQ.l (fun _ _ k => b_i2l (pc := 79) (dd dtX11_part 45 rfl) k) ?_
            refine BdQ.l (fun _ _ k => b_iload_n (pc := 80) (i := 3) (dd dtX11_part 46 rfl) rfl rfl k) ?_
            refine BdQ.l (fun _ _ k => b_i2l (pc := 81) (dd dtX11_part 47 rfl) k) ?_
            refine BdQ.l (fun _ _ k => b_lmul (pc := 82) (dd dtX11_part 48 rfl) k) ?_
            refine BdQ.l (fun _ _ k => b_iload_n (pc := 83) (i := 3) (dd dtX11_part 49 rfl) rfl rfl k) ?_
            refine BdQ.l (fun _ _ k => b_ic1 (pc := 84) (dd dtX11_part 50 rfl) k) ?_
            refine BdQ.l (fun _ _ k => b_iadd (pc := 85) (dd dtX11_part 51 rfl) k) ?_
            refine BdQ.l (fun _ _ k => b_i2l (pc := 86) (dd dtX11_part 52 rfl) k) ?_
            refine BdQ.l (fun _ _ k => b_ldiv (pc := 87) (dd dtX11_part 53 rfl) (by rw [ek, nI_1, nI_l (by omega), show (0 : Int64) = lN 0 from rfl, lN_eq (by omega) (by decide)]; omega) k) ?_
            refine BdQ.l (fun _ _ k => b_lstore (pc := 88) (i := 4) (lv' := [(4, _), (3, _), (0, _), (1, _), (2, _)]) (dd dtX11_part 54 rfl) ⟨Nat.le_of_ble_eq_true rfl, Nat.le_of_ble_eq_true rfl⟩ rfl k) ?_
            refine BdQ.l (fun _ _ k => b_iload_n (pc := 90) (i := 2) (dd dtX11_part 55 rfl) rfl rfl k) ?_
            refine BdQ.c (fun _ _ k1 k2 => b_if_ne (pc := 91) (tgt := 99) (dd dtX11_part 56 rfl) (by decide) k1 k2) (fun h91 => ?_) (fun h91 => ?_)
            · refine BdQ.l (fun _ _ k => b_aload_n (pc := 99) (i := 0) (dd dtX11_part 59 rfl) rfl rfl k) ?_
              refine BdQ.l (fun _ _ k => b_iload_n (pc := 100) (i := 1) (dd dtX11_part 60 rfl) rfl rfl k) ?_
              refine BdQ.l (fun _ _ k => b_invV (pc := 101) (dd dtX11_part 61 rfl) mlX11_263 mvX11_harmOf miX11_harmOf (c_X11_harmOf (hse hR.2.1.2 (by rw [← hR.2.1.1]; exact h5)).1) oM_0 rfl rfl (by decide) (Nat.le_of_ble_eq_true rfl) k) ?_
              refine BdQ.l (fun _ _ k => b_i2l (pc := 104) (dd dtX11_part 62 rfl) k) ?_
              refine BdQ.l (fun _ _ k => b_lload (pc := 105) (i := 4) (dd dtX11_part 63 rfl) rfl k) ?_
              refine BdQ.l (fun _ _ k => b_lsub (pc := 107) (dd dtX11_part 64 rfl) k) ?_
              refine ⟨_, _, ?_, b_lret (dd dtX11_part 65 rfl) rfl⟩
              first
              | exact ⟨by rw [vPartM, if_neg (fun q => h5 q.1)]; rfl, Fr8.r⟩
              | exact ⟨by rw [vPartM, if_neg (fun q => h15 q.2)]; rfl, Fr8.r⟩
              | exact ⟨by rw [vPartM, if_pos ⟨h5, h15⟩, if_pos h28], Fr8.r⟩
              | (refine ⟨?_, R49⟩
                 rw [vPartM, if_pos ⟨h5, h15⟩, if_neg h28]
                 have e1 : sHarm (I49 11) (I49 12) (I49 16) h.toNatClampNeg = sHarm (J 11) (J 12) (J 16) h.toNatClampNeg := by rw [R49.1 11 (by decide) (by omega), R49.1 12 (by decide) (by omega), R49.1 16 (by decide) (by omega)]
                 rw [e1]
                 unfold firmM
                 rw [ecl]
                 first
                 | rw [if_pos h91]
                 | rw [if_neg h91])
            · refine BdQ.l (fun _ _ k => b_lload (pc := 94) (i := 4) (dd dtX11_part 57 rfl) rfl k) ?_
              refine BdQ.l (fun _ _ k => b_goto (pc := 96) (tgt := 108) (dd dtX11_part 58 rfl) (by decide) k) ?_
              refine ⟨_, _, ?_, b_lret (dd dtX11_part 65 rfl) rfl⟩
              first
              | exact ⟨by rw [vPartM, if_neg (fun q => h5 q.1)]; rfl, Fr8.r⟩
              | exact ⟨by rw [vPartM, if_neg (fun q => h15 q.2)]; rfl, Fr8.r⟩
              | exact ⟨by rw [vPartM, if_pos ⟨h5, h15⟩, if_pos h28], Fr8.r⟩
              | (refine ⟨?_, R49⟩
                 rw [vPartM, if_pos ⟨h5, h15⟩, if_neg h28]
                 have e1 : sHarm (I49 11) (I49 12) (I49 16) h.toNatClampNeg = sHarm (J 11) (J 12) (J 16) h.toNatClampNeg := by rw [R49.1 11 (by decide) (by omega), R49.1 12 (by decide) (by omega), R49.1 16 (by decide) (by omega)]
                 rw [e1]
                 unfold firmM
                 rw [ecl]
                 first
                 | rw [if_pos h91]
                 | rw [if_neg h91])
        · exact absurd h54 hv0
      · refine BdQ.l (fun _ _ k => b_ldc2 (pc := 31) (dd dtX11_part 17 rfl) kcX11_401 k) ?_
        refine ⟨_, _, ?_, b_lret (dd dtX11_part 18 rfl) rfl⟩
        first
        | exact ⟨by rw [vPartM, if_neg (fun q => h5 q.1)]; rfl, Fr8.r⟩
        | exact ⟨by rw [vPartM, if_neg (fun q => h15 q.2)]; rfl, Fr8.r⟩
        | exact ⟨by rw [vPartM, if_pos ⟨h5, h15⟩, if_pos h28], Fr8.r⟩
        | (refine ⟨?_, R49⟩
           rw [vPartM, if_pos ⟨h5, h15⟩, if_neg h28]
           have e1 : sHarm (I49 11) (I49 12) (I49 16) h.toNatClampNeg = sHarm (J 11) (J 12) (J 16) h.toNatClampNeg := by rw [R49.1 11 (by decide) (by omega), R49.1 12 (by decide) (by omega), R49.1 16 (by decide) (by omega)]
           rw [e1]
           unfold firmM
           rw [ecl]
           first
           | rw [if_pos h91]
           | rw [if_neg h91])
    · refine BdQ.l (fun _ _ k => b_ldc2 (pc := 18) (dd dtX11_part 10 rfl) kcX11_399 k) ?_
      refine ⟨_, _, ?_, b_lret (dd dtX11_part 11 rfl) rfl⟩
      first
      | exact ⟨by rw [vPartM, if_neg (fun q => h5 q.1)]; rfl, Fr8.r⟩
      | exact ⟨by rw [vPartM, if_neg (fun q => h15 q.2)]; rfl, Fr8.r⟩
      | exact ⟨by rw [vPartM, if_pos ⟨h5, h15⟩, if_pos h28], Fr8.r⟩
      | (refine ⟨?_, R49⟩
         rw [vPartM, if_pos ⟨h5, h15⟩, if_neg h28]
         have e1 : sHarm (I49 11) (I49 12) (I49 16) h.toNatClampNeg = sHarm (J 11) (J 12) (J 16) h.toNatClampNeg := by rw [R49.1 11 (by decide) (by omega), R49.1 12 (by decide) (by omega), R49.1 16 (by decide) (by omega)]
         rw [e1]
         unfold firmM
         rw [ecl]
         first
         | rw [if_pos h91]
         | rw [if_neg h91])
set_option maxHeartbeats 4000000 in
theorem q_partMc {J : Wd} {K N P R : Nat} {V : (Nat → Int32) → Nat → Int32} (hR : RM J K N P) (hL : LM J R V) {h what : Int32} (hcell : ∀ i, i < N → vp_in (J 10 i) 64) (hv0 : ¬ (V (fctM J K N P (J 10 h.toNatClampNeg) (J 13 h.toNatClampNeg)) 2) < 0) (hv : ¬ 99 < (V (fctM J K N P (J 10 h.toNatClampNeg) (J 13 h.toNatClampNeg)) 2)) : CalQ SyM mX11_part 8 [.ref 0, .int h, .int what] J (fun r J' => r = some (.long (vPartM (J 0 3) h what (J 13) (firmM (sHarm (J 11) (J 12) (J 16) h.toNatClampNeg) (V (fctM J K N P (J 10 h.toNatClampNeg) (J 13 h.toNatClampNeg)) 2)) (sHarm (J 11) (J 12) (J 16) h.toNatClampNeg))) ∧ Fr8 J J') := by
  refine CalQ.of (by decide) (Nat.le_of_ble_eq_true rfl) ?_
  show BdQ _ _ _ _ [(0, _), (1, _), (2, _)] _ _ _
  refine BdQ.l (fun _ _ k => b_aload_n (pc := 0) (i := 0) (dd dtX11_part 0 rfl) rfl rfl k) ?_
  refine BdQ.l (fun _ _ k => b_iload_n (pc := 1) (i := 1) (dd dtX11_part 1 rfl) rfl rfl k) ?_
  refine BdQ.l (fun _ _ k => b_invV (pc := 2) (dd dtX11_part 2 rfl) mlX11_253 mvX11_isHouse miX11_isHouse (c_X11_isHouse) oM_0 rfl rfl (by decide) (Nat.le_of_ble_eq_true rfl) k) ?_
  refine BdQ.c (fun _ _ k1 k2 => b_ifb_eq (pc := 5) (tgt := 18) (dd dtX11_part 3 rfl) (by decide) k1 k2) (fun h5 => ?_) (fun h5 => ?_)
  · refine BdQ.l (fun _ _ k => b_ldc2 (pc := 18) (dd dtX11_part 10 rfl) kcX11_399 k) ?_
    refine ⟨_, _, ?_, b_lret (dd dtX11_part 11 rfl) rfl⟩
    first
    | exact ⟨by rw [vPartM, if_neg (fun q => h5 q.1)]; rfl, Fr8.r⟩
    | exact ⟨by rw [vPartM, if_neg (fun q => h15 q.2)]; rfl, Fr8.r⟩
    | exact ⟨by rw [vPartM, if_pos ⟨h5, h15⟩, if_pos h28], Fr8.r⟩
    | (refine ⟨?_, R49⟩
       rw [vPartM, if_pos ⟨h5, h15⟩, if_neg h28]
       have e1 : sHarm (I49 11) (I49 12) (I49 16) h.toNatClampNeg = sHarm (J 11) (J 12) (J 16) h.toNatClampNeg := by rw [R49.1 11 (by decide) (by omega), R49.1 12 (by decide) (by omega), R49.1 16 (by decide) (by omega)]
       rw [e1]
       unfold firmM
       rw [ecl]
       first
       | rw [if_pos h91]
       | rw [if_neg h91])
  · refine BdQ.l (fun _ _ k => b_aload_n (pc := 8) (i := 0) (dd dtX11_part 4 rfl) rfl rfl k) ?_
    refine BdQ.l (fun _ _ k => b_iload_n (pc := 9) (i := 2) (dd dtX11_part 5 rfl) rfl rfl k) ?_
    refine BdQ.l (fun _ _ k => b_ic0 (pc := 10) (dd dtX11_part 6 rfl) k) ?_
    refine BdQ.l (fun _ _ k => b_ic1 (pc := 11) (dd dtX11_part 7 rfl) k) ?_
    refine BdQ.l (fun _ _ k => b_invV (pc := 12) (dd dtX11_part 8 rfl) mlX11_1 mvX11_in miX11_in (c_X11_in) oM_0 rfl rfl (by decide) (Nat.le_of_ble_eq_true rfl) k) ?_
    refine BdQ.b (fun _ _ k1 k2 => b_ifb_ne (pc := 15) (tgt := 22) (dd dtX11_part 9 rfl) (by decide) k1 k2) (fun h15 => ?_) (fun h15 => ?_)
    · refine BdQ.l (fun _ _ k => b_aload_n (pc := 22) (i := 0) (dd dtX11_part 12 rfl) rfl rfl k) ?_
      refine BdQ.l (fun _ _ k => b_geta (pc := 23) (dd dtX11_part 13 rfl) fwX11_66 pM_0 rM_0_17 k) ?_
      refine BdQ.l (fun _ _ k => b_iload_n (pc := 26) (i := 1) (dd dtX11_part 14 rfl) rfl rfl k) ?_
      refine BdQ.l (fun _ _ k => b_iald (pc := 27) (dd dtX11_part 15 rfl) pM_13 ((hse hR.2.1.2 (by rw [← hR.2.1.1]; exact h5)).1) k) ?_
      refine BdQ.c (fun _ _ k1 k2 => b_ifL_ge (pc := 28) (tgt := 35) (dd dtX11_part 16 rfl) (by decide) k1 k2) (fun h28 => ?_) (fun h28 => ?_)
      · refine BdQ.l (fun _ _ k => b_aload_n (pc := 35) (i := 0) (dd dtX11_part 19 rfl) rfl rfl k) ?_
        refine BdQ.l (fun _ _ k => b_aload_n (pc := 36) (i := 0) (dd dtX11_part 20 rfl) rfl rfl k) ?_
        refine BdQ.l (fun _ _ k => b_geta (pc := 37) (dd dtX11_part 21 rfl) fwX11_57 pM_0 rM_0_14 k) ?_
        refine BdQ.l (fun _ _ k => b_iload_n (pc := 40) (i := 1) (dd dtX11_part 22 rfl) rfl rfl k) ?_
        refine BdQ.l (fun _ _ k => b_iald (pc := 41) (dd dtX11_part 23 rfl) pM_10 ((hse hR.2.1.2 (by rw [← hR.2.1.1]; exact h5)).1) k) ?_
        refine BdQ.l (fun _ _ k => b_ic2 (pc := 42) (dd dtX11_part 24 rfl) k) ?_
        refine BdQ.l (fun _ _ k => b_aload_n (pc := 43) (i := 0) (dd dtX11_part 25 rfl) rfl rfl k) ?_
        refine BdQ.l (fun _ _ k => b_geta (pc := 44) (dd dtX11_part 26 rfl) fwX11_66 pM_0 rM_0_17 k) ?_
        refine BdQ.l (fun _ _ k => b_iload_n (pc := 47) (i := 1) (dd dtX11_part 27 rfl) rfl rfl k) ?_
        refine BdQ.l (fun _ _ k => b_iald (pc := 48) (dd dtX11_part 28 rfl) pM_13 ((hse hR.2.1.2 (by rw [← hR.2.1.1]; exact h5)).1) k) ?_
        have hcc := hcell _ (hse hR.2.1.2 (by rw [← hR.2.1.1]; exact h5)).2
        obtain ⟨_, I49, ⟨rfl, R49⟩, k49⟩ := q_lawOf hR hL hcc (show 2 < 3 by decide) (kn := J 13 h.toNatClampNeg)
        refine BdQ.l (fun _ _ k => b_invV (pc := 49) (dd dtX11_part 29 rfl) mlX11_395 mvX11_lawOf miX11_lawOf (k49) oM_0 rfl rfl (by decide) (Nat.le_of_ble_eq_true rfl) k) ?_
        refine BdQ.l (fun _ _ k => b_istore_n (pc := 52) (i := 3) (lv' := [(3, _), (0, _), (1, _), (2, _)]) (dd dtX11_part 30 rfl) rfl (Nat.le_of_ble_eq_true rfl) rfl k) ?_
        refine BdQ.l (fun _ _ k => b_iload_n (pc := 53) (i := 3) (dd dtX11_part 31 rfl) rfl rfl k) ?_
        refine BdQ.c (fun _ _ k1 k2 => b_ifL_ge (pc := 54) (tgt := 61) (dd dtX11_part 32 rfl) (by decide) k1 k2) (fun h54 => ?_) (fun h54 => ?_)
        · refine BdQ.l (fun _ _ k => b_iload_n (pc := 61) (i := 3) (dd dtX11_part 35 rfl) rfl rfl k) ?_
          refine BdQ.l (fun _ _ k => b_bipush (pc := 62) (v := 99) (dd dtX11_part 36 rfl) (by decide) k) ?_
          refine BdQ.c (fun _ _ k1 k2 => b_icmpL_le (pc := 64) (tgt := 72) (dd dtX11_part 37 rfl) (by decide) k1 k2) (fun h64 => ?_) (fun h64 => ?_)
          · refine BdQ.l (fun _ _ k => b_iload_n (pc := 72) (i := 3) (dd dtX11_part 40 rfl) rfl rfl k) ?_
            have ecl : clp (V (fctM J K N P (J 10 h.toNatClampNeg) (J 13 h.toNatClampNeg)) 2) = (V (fctM J K N P (J 10 h.toNatClampNeg) (J 13 h.toNatClampNeg)) 2) := (clpM_eq _).symm.trans ((if_neg hv0).trans (if_neg hv))
            obtain ⟨k, ek, hk⟩ := clp_in (V (fctM J K N P (J 10 h.toNatClampNeg) (J 13 h.toNatClampNeg)) 2)
            rw [ecl] at ek
            refine BdQ.l (fun _ _ k => b_istore_n (pc := 73) (i := 3) (lv' := [(3, _), (0, _), (1, _), (2, _)]) (dd dtX11_part 41 rfl) rfl (Nat.le_of_ble_eq_true rfl) rfl k) ?_
            refine BdQ.l (fun _ _ k => b_aload_n (pc := 74) (i := 0) (dd dtX11_part 42 rfl) rfl rfl k) ?_
            refine BdQ.l (fun _ _ k => b_iload_n (pc := 75) (i := 1) (dd dtX11_part 43 rfl) rfl rfl k) ?_
            refine BdQ.l (fun _ _ k => b_invV (pc := 76) (dd dtX11_part 44 rfl) mlX11_263 mvX11_harmOf miX11_harmOf (c_X11_harmOf (hse hR.2.1.2 (by rw [← hR.2.1.1]; exact h5)).1) oM_0 rfl rfl (by decide) (Nat.le_of_ble_eq_true rfl) k) ?_
            refine BdQ.l (fun _ _ k => b_i2l (pc := 79) (dd dtX11_part 45 rfl) k) ?_
            refine BdQ.l (fun _ _ k => b_iload_n (pc := 80) (i := 3) (dd dtX11_part 46 rfl) rfl rfl k) ?_
            refine BdQ.l (fun _ _ k => b_i2l (pc := 81) (dd dtX11_part 47 rfl) k) ?_
            refine BdQ.l (fun _ _ k => b_lmul (pc := 82) (dd dtX11_part 48 rfl) k) ?_
            refine BdQ.l (fun _ _ k => b_iload_n (pc := 83) (i := 3) (dd dtX11_part 49 rfl) rfl rfl k) ?_
            refine BdQ.l (fun _ _ k => b_ic1 (pc := 84) (dd dtX11_part 50 rfl) k) ?_
            refine BdQ.l (fun _ _ k => b_iadd (pc := 85) (dd dtX11_part 51 rfl) k) ?_
            refine BdQ.l (fun _ _ k => b_i2l (pc := 86) (dd dtX11_part 52 rfl) k) ?_
            refine BdQ.l (fun _ _ k => b_ldiv (pc := 87) (dd dtX11_part 53 rfl) (by rw [ek, nI_1, nI_l (by omega), show (0 : Int64) = lN 0 from rfl, lN_eq (by omega) (by decide)]; omega) k) ?_
            refine BdQ.l (fun _ _ k => b_lstore (pc := 88) (i := 4) (lv' := [(4, _), (3, _), (0, _), (1, _), (2, _)]) (dd dtX11_part 54 rfl) ⟨Nat.le_of_ble_eq_true rfl, Nat.le_of_ble_eq_true rfl⟩ rfl k) ?_
            refine BdQ.l (fun _ _ k => b_iload_n (pc := 90) (i := 2) (dd dtX11_part 55 rfl) rfl rfl k) ?_
            refine BdQ.c (fun _ _ k1 k2 => b_if_ne (pc := 91) (tgt := 99) (dd dtX11_part 56 rfl) (by decide) k1 k2) (fun h91 => ?_) (fun h91 => ?_)
            · refine BdQ.l (fun _ _ k => b_aload_n (pc := 99) (i := 0) (dd dtX11_part 59 rfl) rfl rfl k) ?_
              refine BdQ.l (fun _ _ k => b_iload_n (pc := 100) (i := 1) (dd dtX11_part 60 rfl) rfl rfl k) ?_
              refine BdQ.l (fun _ _ k => b_invV (pc := 101) (dd dtX11_part 61 rfl) mlX11_263 mvX11_harmOf miX11_harmOf (c_X11_harmOf (hse hR.2.1.2 (by rw [← hR.2.1.1]; exact h5)).1) oM_0 rfl rfl (by decide) (Nat.le_of_ble_eq_true rfl) k) ?_
              refine BdQ.l (fun _ _ k => b_i2l (pc := 104) (dd dtX11_part 62 rfl) k) ?_
              refine BdQ.l (fun _ _ k => b_lload (pc := 105) (i := 4) (dd dtX11_part 63 rfl) rfl k) ?_
              refine BdQ.l (fun _ _ k => b_lsub (pc := 107) (dd dtX11_part 64 rfl) k) ?_
              refine ⟨_, _, ?_, b_lret (dd dtX11_part 65 rfl) rfl⟩
              first
              | exact ⟨by rw [vPartM, if_neg (fun q => h5 q.1)]; rfl, Fr8.r⟩
              | exact ⟨by rw [vPartM, if_neg (fun q => h15 q.2)]; rfl, Fr8.r⟩
              | exact ⟨by rw [vPartM, if_pos ⟨h5, h15⟩, if_pos h28], Fr8.r⟩
              | (refine ⟨?_, R49⟩
                 rw [vPartM, if_pos ⟨h5, h15⟩, if_neg h28]
                 have e1 : sHarm (I49 11) (I49 12) (I49 16) h.toNatClampNeg = sHarm (J 11) (J 12) (J 16) h.toNatClampNeg := by rw [R49.1 11 (by decide) (by omega), R49.1 12 (by decide) (by omega), R49.1 16 (by decide) (by omega)]
                 rw [e1]
                 unfold firmM
                 rw [ecl]
                 first
                 | rw [if_pos h91]
                 | rw [if_neg h91])
            · refine BdQ.l (fun _ _ k => b_lload (pc := 94) (i := 4) (dd dtX11_part 57 rfl) rfl k) ?_
              refine BdQ.l (fun _ _ k => b_goto (pc := 96) (tgt := 108) (dd dtX11_part 58 rfl) (by decide) k) ?_
              refine ⟨_, _, ?_, b_lret (dd dtX11_part 65 rfl) rfl⟩
              first
              | exact ⟨by rw [vPartM, if_neg (fun q => h5 q.1)]; rfl, Fr8.r⟩
              | exact ⟨by rw [vPartM, if_neg (fun q => h15 q.2)]; rfl, Fr8.r⟩
              | exact ⟨by rw [vPartM, if_pos ⟨h5, h15⟩, if_pos h28], Fr8.r⟩
              | (refine ⟨?_, R49⟩
                 rw [vPartM, if_pos ⟨h5, h15⟩, if_neg h28]
                 have e1 : sHarm (I49 11) (I49 12) (I49 16) h.toNatClampNeg = sHarm (J 11) (J 12) (J 16) h.toNatClampNeg := by rw [R49.1 11 (by decide) (by omega), R49.1 12 (by decide) (by omega), R49.1 16 (by decide) (by omega)]
                 rw [e1]
                 unfold firmM
                 rw [ecl]
                 first
                 | rw [if_pos h91]
                 | rw [if_neg h91])
          · exact absurd h64 hv
        · exact absurd h54 hv0
      · refine BdQ.l (fun _ _ k => b_ldc2 (pc := 31) (dd dtX11_part 17 rfl) kcX11_401 k) ?_
        refine ⟨_, _, ?_, b_lret (dd dtX11_part 18 rfl) rfl⟩
        first
        | exact ⟨by rw [vPartM, if_neg (fun q => h5 q.1)]; rfl, Fr8.r⟩
        | exact ⟨by rw [vPartM, if_neg (fun q => h15 q.2)]; rfl, Fr8.r⟩
        | exact ⟨by rw [vPartM, if_pos ⟨h5, h15⟩, if_pos h28], Fr8.r⟩
        | (refine ⟨?_, R49⟩
           rw [vPartM, if_pos ⟨h5, h15⟩, if_neg h28]
           have e1 : sHarm (I49 11) (I49 12) (I49 16) h.toNatClampNeg = sHarm (J 11) (J 12) (J 16) h.toNatClampNeg := by rw [R49.1 11 (by decide) (by omega), R49.1 12 (by decide) (by omega), R49.1 16 (by decide) (by omega)]
           rw [e1]
           unfold firmM
           rw [ecl]
           first
           | rw [if_pos h91]
           | rw [if_neg h91])
    · refine BdQ.l (fun _ _ k => b_ldc2 (pc := 18) (dd dtX11_part 10 rfl) kcX11_399 k) ?_
      refine ⟨_, _, ?_, b_lret (dd dtX11_part 11 rfl) rfl⟩
      first
      | exact ⟨by rw [vPartM, if_neg (fun q => h5 q.1)]; rfl, Fr8.r⟩
      | exact ⟨by rw [vPartM, if_neg (fun q => h15 q.2)]; rfl, Fr8.r⟩
      | exact ⟨by rw [vPartM, if_pos ⟨h5, h15⟩, if_pos h28], Fr8.r⟩
      | (refine ⟨?_, R49⟩
         rw [vPartM, if_pos ⟨h5, h15⟩, if_neg h28]
         have e1 : sHarm (I49 11) (I49 12) (I49 16) h.toNatClampNeg = sHarm (J 11) (J 12) (J 16) h.toNatClampNeg := by rw [R49.1 11 (by decide) (by omega), R49.1 12 (by decide) (by omega), R49.1 16 (by decide) (by omega)]
         rw [e1]
         unfold firmM
         rw [ecl]
         first
         | rw [if_pos h91]
         | rw [if_neg h91])
theorem q_partM {J : Wd} {K N P R : Nat} {V : (Nat → Int32) → Nat → Int32} (hR : RM J K N P) (hL : LM J R V) {h what : Int32} (hcell : ∀ i, i < N → vp_in (J 10 i) 64) : CalQ SyM mX11_part 8 [.ref 0, .int h, .int what] J (fun r J' => r = some (.long (vPartM (J 0 3) h what (J 13) (firmM (sHarm (J 11) (J 12) (J 16) h.toNatClampNeg) (V (fctM J K N P (J 10 h.toNatClampNeg) (J 13 h.toNatClampNeg)) 2)) (sHarm (J 11) (J 12) (J 16) h.toNatClampNeg))) ∧ Fr8 J J') := by
  by_cases h1 : (V (fctM J K N P (J 10 h.toNatClampNeg) (J 13 h.toNatClampNeg)) 2) < 0
  · exact q_partMa hR hL hcell h1
  · by_cases h2 : 99 < (V (fctM J K N P (J 10 h.toNatClampNeg) (J 13 h.toNatClampNeg)) 2)
    · exact q_partMb hR hL hcell h1 h2
    · exact q_partMc hR hL hcell h1 h2
