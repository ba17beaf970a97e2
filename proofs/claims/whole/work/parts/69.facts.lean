/-! the reference's facts and its law -/
def Fr8 (J J' : Wd) : Prop := (∀ a, a ≠ 0 → (a < 36 ∨ 39 < a) → J' a = J a) ∧ ∀ j, j ≠ 28 → j ≠ 29 → (j < 50 ∨ 61 < j) → J' 0 j = J 0 j
theorem Fr8.r {J : Wd} : Fr8 J J := ⟨fun _ _ _ => rfl, fun _ _ _ _ => rfl⟩
theorem Fr8.t {J K L : Wd} (h : Fr8 J K) (h2 : Fr8 K L) : Fr8 J L := ⟨fun a a1 a2 => (h2.1 a a1 a2).trans (h.1 a a1 a2), fun j j1 j2 j3 => (h2.2 j j1 j2 j3).trans (h.2 j j1 j2 j3)⟩
theorem Fr8.t7 {J K L : Wd} (h : Fr8 J K) (h2 : Fr7 K L) : Fr8 J L := ⟨fun a a1 a2 => (h2.1 a a1 (by omega) (by omega) (by omega)).trans (h.1 a a1 a2), fun j j1 j2 j3 => (h2.2 j j3).trans (h.2 j j1 j2 j3)⟩
theorem Fr8.s {J W : Wd} (h : Fr8 J W) {k j : Nat} {v : Int32} (hk : k = 38) : Fr8 J (ist W k j v) := by
  subst hk
  refine ⟨fun a a1 a2 => by rw [ist_ne (by omega)]; exact h.1 a a1 a2, fun i i1 i2 i3 => ?_⟩
  rw [ist_ne (by decide)]
  exact h.2 i i1 i2 i3
theorem Fr8.span {J W : Wd} (h : Fr8 J W) {K : Nat} {c kn tr : Int32} : Fr8 J (spanW W K c kn tr) := ⟨fun a a1 a2 => by rw [spanW_fr a1]; exact h.1 a a1 a2, fun j j1 j2 j3 => by rw [spanW_0 j1 j2]; exact h.2 j j1 j2 j3⟩
def npM (pc pu : Nat → Int32) (c : Int32) : Nat → Int32
  | 0 => 0
  | p + 1 => npM pc pu c p + (if 0 < pu p ∧ ¬ farM (pc p) c then 1 else 0)
abbrev loM (J : Wd) (K : Nat) (c kn : Int32) : Int32 := mLo (J 17) (J 18) (J 19) (sVal (J 22) (J 21) (J 20) kn) c kn 0 K
abbrev hiM (J : Wd) (K : Nat) (c kn : Int32) : Int32 := mHi (J 17) (J 18) (J 19) (sVal (J 22) (J 21) (J 20) kn) c kn 0 K
def fctM (J : Wd) (K N P : Nat) (c kn : Int32) : Nat → Int32 := fcts (dbM J K c kn) (loM J K c kn) (hiM J K c kn) (J 1 c.toNatClampNeg) (sPeople (J 10) (J 13) (J 16) (J 12) c N) (npM (J 14) (J 15) c P) (feF (J 4) c kn) kn
theorem fctM_eq {J W : Wd} {K N P : Nat} {c kn : Int32} (h : Fr8 J W) : fctM W K N P c kn = fctM J K N P c kn := by
  unfold fctM dbM loM hiM
  rw [h.1 17 (by decide) (by omega), h.1 18 (by decide) (by omega), h.1 19 (by decide) (by omega), h.1 22 (by decide) (by omega), h.1 21 (by decide) (by omega), h.1 20 (by decide) (by omega), h.1 1 (by decide) (by omega), h.1 10 (by decide) (by omega), h.1 13 (by decide) (by omega), h.1 16 (by decide) (by omega), h.1 12 (by decide) (by omega), h.1 14 (by decide) (by omega), h.1 15 (by decide) (by omega), h.1 4 (by decide) (by omega)]
def RM (J : Wd) (K N P : Nat) : Prop := (J 0 21 = nI K ∧ K ≤ 30) ∧ (J 0 3 = nI N ∧ N ≤ 14) ∧ (J 0 4 = nI P ∧ P ≤ 6)
theorem RM.fr {J W : Wd} {K N P : Nat} (h : RM J K N P) (hW : Fr8 J W) : RM W K N P := by
  unfold RM at h ⊢
  rw [hW.2 21 (by decide) (by decide) (by omega), hW.2 3 (by decide) (by decide) (by omega), hW.2 4 (by decide) (by decide) (by omega)]
  exact h
def tX11_findFacts : List (Nat × Instr × Nat) := [(0, .aload_n 0, 1), (1, .getfield 191, 3), (4, .iconst 0, 1), (5, .aload_n 0, 1), (6, .iload_n 1, 1), (7, .iload_n 2, 1), (8, .invokevirtual 386, 3), (11, .iastore, 1), (12, .aload_n 0, 1), (13, .getfield 191, 3), (16, .iconst 1, 1), (17, .aload_n 0, 1), (18, .getfield 100, 3), (21, .iastore, 1), (22, .aload_n 0, 1), (23, .getfield 191, 3), (26, .iconst 2, 1), (27, .aload_n 0, 1), (28, .getfield 103, 3), (31, .iastore, 1), (32, .aload_n 0, 1), (33, .getfield 191, 3), (36, .iconst 3, 1), (37, .aload_n 0, 1), (38, .getfield 29, 3), (41, .iload_n 1, 1), (42, .iaload, 1), (43, .iastore, 1), (44, .aload_n 0, 1), (45, .getfield 191, 3), (48, .iconst 4, 1), (49, .aload_n 0, 1), (50, .iload_n 1, 1), (51, .invokevirtual 389, 3), (54, .iastore, 1), (55, .aload_n 0, 1), (56, .getfield 191, 3), (59, .iconst 5, 1), (60, .iconst 0, 1), (61, .iastore, 1), (62, .iconst 0, 1), (63, .istore_n 3, 1), (64, .iload_n 3, 1), (65, .aload_n 0, 1), (66, .getfield 26, 3), (69, .if_icmp .ge 46, 3), (72, .aload_n 0, 1), (73, .getfield 191, 3), (76, .iconst 5, 1), (77, .dup2, 1), (78, .iaload, 1), (79, .aload_n 0, 1), (80, .getfield 72, 3), (83, .iload_n 3, 1), (84, .iaload, 1), (85, .ifCond .le 21, 3), (88, .aload_n 0, 1), (89, .aload_n 0, 1), (90, .getfield 69, 3), (93, .iload_n 3, 1), (94, .iaload, 1), (95, .iload_n 1, 1), (96, .invokevirtual 293, 3), (99, .ifCond .eq 7, 3), (102, .iconst 1, 1), (103, .goto 4, 3), (106, .iconst 0, 1), (107, .iadd, 1), (108, .iastore, 1), (109, .iinc 3 1, 3), (112, .goto (-48), 3), (115, .aload_n 0, 1), (116, .getfield 191, 3), (119, .bipush 6, 2), (121, .aload_n 0, 1), (122, .getfield 39, 3), (125, .iload_n 1, 1), (126, .iaload, 1), (127, .ifCond .lt 17, 3), (130, .aload_n 0, 1), (131, .getfield 39, 3), (134, .iload_n 1, 1), (135, .iaload, 1), (136, .iload_n 2, 1), (137, .if_icmp .gt 7, 3), (140, .iconst 1, 1), (141, .goto 4, 3), (144, .iconst 0, 1), (145, .iastore, 1), (146, .aload_n 0, 1), (147, .getfield 191, 3), (150, .bipush 7, 2), (152, .iload_n 2, 1), (153, .iastore, 1), (154, .return_, 1)]
theorem dtX11_findFacts : dec_ok mX11_findFacts.2.1 tX11_findFacts = true := by decide +kernel
set_option maxHeartbeats 2000000 in
theorem lr_facts {J : Wd} {K N P : Nat} {c kn : Int32} (hR : RM J K N P) (hc : vp_in c 64) : ∀ (m p : Nat) (x3 : Int32) (W : Wd), p + m = P → x3 = nI p → Fr8 J W → (∀ i, i < 5 → W 38 i = fctM J K N P c kn i) → W 38 5 = npM (J 14) (J 15) c p → BdQ SyM mX11_findFacts 4 64 [(3, .int x3), (0, .ref 0), (1, .int c), (2, .int kn)] [] W (fun r J' => r = none ∧ Fr8 J J' ∧ ∀ i, i < 8 → J' 38 i = fctM J K N P c kn i) := by
  intro m
  induction m with
  | zero =>
    intro p x3 W hm e3 hF h0 h5
    subst e3
    refine BdQ.l (fun _ _ k => b_iload_n (pc := 64) (i := 3) (dd dtX11_findFacts 42 rfl) rfl rfl k) ?_
    refine BdQ.l (fun _ _ k => b_aload_n (pc := 65) (i := 0) (dd dtX11_findFacts 43 rfl) rfl rfl k) ?_
    refine BdQ.l (fun _ _ k => b_geti (pc := 66) (dd dtX11_findFacts 44 rfl) fwX11_26 pM_0 k) ?_
    rw [hF.2 4 (by decide) (by decide) (by omega)]
    refine BdQ.c (fun _ _ k1 k2 => b_icmpL_ge (pc := 69) (tgt := 115) (dd dtX11_findFacts 45 rfl) (by decide) k1 k2) (fun h69 => ?_) (fun h69 => ?_)
    · refine BdQ.l (fun _ _ k => b_aload_n (pc := 115) (i := 0) (dd dtX11_findFacts 71 rfl) rfl rfl k) ?_
      refine BdQ.l (fun _ _ k => b_geta (pc := 116) (dd dtX11_findFacts 72 rfl) fwX11_191 pM_0 rM_0_58 k) ?_
      refine BdQ.l (fun _ _ k => b_bipush (pc := 119) (v := 6) (dd dtX11_findFacts 73 rfl) (by decide) k) ?_
      refine BdQ.l (fun _ _ k => b_aload_n (pc := 121) (i := 0) (dd dtX11_findFacts 74 rfl) rfl rfl k) ?_
      refine BdQ.l (fun _ _ k => b_geta (pc := 122) (dd dtX11_findFacts 75 rfl) fwX11_39 pM_0 rM_0_8 k) ?_
      refine BdQ.l (fun _ _ k => b_iload_n (pc := 125) (i := 1) (dd dtX11_findFacts 76 rfl) rfl rfl k) ?_
      refine BdQ.l (fun _ _ k => b_iald (pc := 126) (dd dtX11_findFacts 77 rfl) pM_4 (hc) k) ?_
      rw [hF.1 4 (by decide) (by omega)]
      refine BdQ.b (fun _ _ k1 k2 => b_if_lt (pc := 127) (tgt := 144) (dd dtX11_findFacts 78 rfl) (by decide) k1 k2) (fun h127 => ?_) (fun h127 => ?_)
      · refine BdQ.l (fun _ _ k => b_ic0 (pc := 144) (dd dtX11_findFacts 87 rfl) k) ?_
        refine BdQ.l (fun _ _ k => b_iast (pc := 145) (dd dtX11_findFacts 88 rfl) pM_38 (vpn (h := 6) rfl (by decide) (by decide)) k) ?_
        refine BdQ.l (fun _ _ k => b_aload_n (pc := 146) (i := 0) (dd dtX11_findFacts 89 rfl) rfl rfl k) ?_
        refine BdQ.l (fun _ _ k => b_geta (pc := 147) (dd dtX11_findFacts 90 rfl) fwX11_191 pM_0 rM_0_58 k) ?_
        refine BdQ.l (fun _ _ k => b_bipush (pc := 150) (v := 7) (dd dtX11_findFacts 91 rfl) (by decide) k) ?_
        refine BdQ.l (fun _ _ k => b_iload_n (pc := 152) (i := 2) (dd dtX11_findFacts 92 rfl) rfl rfl k) ?_
        refine BdQ.l (fun _ _ k => b_iast (pc := 153) (dd dtX11_findFacts 93 rfl) pM_38 (vpn (h := 7) rfl (by decide) (by decide)) k) ?_
        refine ⟨_, _, ?_, b_vret (dd dtX11_findFacts 94 rfl) rfl⟩
        rw [show (6 : Int32).toNatClampNeg = 6 from rfl, show (7 : Int32).toNatClampNeg = 7 from rfl]
        refine ⟨rfl, (hF.s rfl).s rfl, fun i hi => ?_⟩
        rw [ist_eq, ist_eq]
        by_cases e7 : i = 7
        · subst e7; rw [upd_eq]; rfl
        · rw [upd_ne e7]
          by_cases e6 : i = 6
          · subst e6
            rw [upd_eq]
            show _ = feF (J 4) c kn
            unfold feF
            first
            | (have hz : ¬ (¬ J 4 c.toNatClampNeg < 0 ∧ ¬ kn < J 4 c.toNatClampNeg) := fun q => q.1 h127
               rw [if_neg hz])
            | (have hz : ¬ (¬ J 4 c.toNatClampNeg < 0 ∧ ¬ kn < J 4 c.toNatClampNeg) := fun q => q.2 h137
               rw [if_neg hz])
            | (have hz : ¬ J 4 c.toNatClampNeg < 0 ∧ ¬ kn < J 4 c.toNatClampNeg := ⟨h127, h137⟩
               rw [if_pos hz])
          · rw [upd_ne e6]
            by_cases e5 : i = 5
            · subst e5; rw [h5, show p = P by omega]; rfl
            · exact h0 i (by omega)
      · refine BdQ.l (fun _ _ k => b_aload_n (pc := 130) (i := 0) (dd dtX11_findFacts 79 rfl) rfl rfl k) ?_
        refine BdQ.l (fun _ _ k => b_geta (pc := 131) (dd dtX11_findFacts 80 rfl) fwX11_39 pM_0 rM_0_8 k) ?_
        refine BdQ.l (fun _ _ k => b_iload_n (pc := 134) (i := 1) (dd dtX11_findFacts 81 rfl) rfl rfl k) ?_
        refine BdQ.l (fun _ _ k => b_iald (pc := 135) (dd dtX11_findFacts 82 rfl) pM_4 (hc) k) ?_
        refine BdQ.l (fun _ _ k => b_iload_n (pc := 136) (i := 2) (dd dtX11_findFacts 83 rfl) rfl rfl k) ?_
        rw [hF.1 4 (by decide) (by omega)]
        refine BdQ.b (fun _ _ k1 k2 => b_icmp_gt (pc := 137) (tgt := 144) (dd dtX11_findFacts 84 rfl) (by decide) k1 k2) (fun h137 => ?_) (fun h137 => ?_)
        · refine BdQ.l (fun _ _ k => b_ic0 (pc := 144) (dd dtX11_findFacts 87 rfl) k) ?_
          refine BdQ.l (fun _ _ k => b_iast (pc := 145) (dd dtX11_findFacts 88 rfl) pM_38 (vpn (h := 6) rfl (by decide) (by decide)) k) ?_
          refine BdQ.l (fun _ _ k => b_aload_n (pc := 146) (i := 0) (dd dtX11_findFacts 89 rfl) rfl rfl k) ?_
          refine BdQ.l (fun _ _ k => b_geta (pc := 147) (dd dtX11_findFacts 90 rfl) fwX11_191 pM_0 rM_0_58 k) ?_
          refine BdQ.l (fun _ _ k => b_bipush (pc := 150) (v := 7) (dd dtX11_findFacts 91 rfl) (by decide) k) ?_
          refine BdQ.l (fun _ _ k => b_iload_n (pc := 152) (i := 2) (dd dtX11_findFacts 92 rfl) rfl rfl k) ?_
          refine BdQ.l (fun _ _ k => b_iast (pc := 153) (dd dtX11_findFacts 93 rfl) pM_38 (vpn (h := 7) rfl (by decide) (by decide)) k) ?_
          refine ⟨_, _, ?_, b_vret (dd dtX11_findFacts 94 rfl) rfl⟩
          rw [show (6 : Int32).toNatClampNeg = 6 from rfl, show (7 : Int32).toNatClampNeg = 7 from rfl]
          refine ⟨rfl, (hF.s rfl).s rfl, fun i hi => ?_⟩
          rw [ist_eq, ist_eq]
          by_cases e7 : i = 7
          · subst e7; rw [upd_eq]; rfl
          · rw [upd_ne e7]
            by_cases e6 : i = 6
            · subst e6
              rw [upd_eq]
              show _ = feF (J 4) c kn
              unfold feF
              first
              | (have hz : ¬ (¬ J 4 c.toNatClampNeg < 0 ∧ ¬ kn < J 4 c.toNatClampNeg) := fun q => q.1 h127
                 rw [if_neg hz])
              | (have hz : ¬ (¬ J 4 c.toNatClampNeg < 0 ∧ ¬ kn < J 4 c.toNatClampNeg) := fun q => q.2 h137
                 rw [if_neg hz])
              | (have hz : ¬ J 4 c.toNatClampNeg < 0 ∧ ¬ kn < J 4 c.toNatClampNeg := ⟨h127, h137⟩
                 rw [if_pos hz])
            · rw [upd_ne e6]
              by_cases e5 : i = 5
              · subst e5; rw [h5, show p = P by omega]; rfl
              · exact h0 i (by omega)
        · refine BdQ.l (fun _ _ k => b_ic1 (pc := 140) (dd dtX11_findFacts 85 rfl) k) ?_
          refine BdQ.l (fun _ _ k => b_goto (pc := 141) (tgt := 145) (dd dtX11_findFacts 86 rfl) (by decide) k) ?_
          refine BdQ.l (fun _ _ k => b_iast (pc := 145) (dd dtX11_findFacts 88 rfl) pM_38 (vpn (h := 6) rfl (by decide) (by decide)) k) ?_
          refine BdQ.l (fun _ _ k => b_aload_n (pc := 146) (i := 0) (dd dtX11_findFacts 89 rfl) rfl rfl k) ?_
          refine BdQ.l (fun _ _ k => b_geta (pc := 147) (dd dtX11_findFacts 90 rfl) fwX11_191 pM_0 rM_0_58 k) ?_
          refine BdQ.l (fun _ _ k => b_bipush (pc := 150) (v := 7) (dd dtX11_findFacts 91 rfl) (by decide) k) ?_
          refine BdQ.l (fun _ _ k => b_iload_n (pc := 152) (i := 2) (dd dtX11_findFacts 92 rfl) rfl rfl k) ?_
          refine BdQ.l (fun _ _ k => b_iast (pc := 153) (dd dtX11_findFacts 93 rfl) pM_38 (vpn (h := 7) rfl (by decide) (by decide)) k) ?_
          refine ⟨_, _, ?_, b_vret (dd dtX11_findFacts 94 rfl) rfl⟩
          rw [show (6 : Int32).toNatClampNeg = 6 from rfl, show (7 : Int32).toNatClampNeg = 7 from rfl]
          refine ⟨rfl, (hF.s rfl).s rfl, fun i hi => ?_⟩
          rw [ist_eq, ist_eq]
          by_cases e7 : i = 7
          · subst e7; rw [upd_eq]; rfl
          · rw [upd_ne e7]
            by_cases e6 : i = 6
            · subst e6
              rw [upd_eq]
              show _ = feF (J 4) c kn
              unfold feF
              first
              | (have hz : ¬ (¬ J 4 c.toNatClampNeg < 0 ∧ ¬ kn < J 4 c.toNatClampNeg) := fun q => q.1 h127
                 rw [if_neg hz])
              | (have hz : ¬ (¬ J 4 c.toNatClampNeg < 0 ∧ ¬ kn < J 4 c.toNatClampNeg) := fun q => q.2 h137
                 rw [if_neg hz])
              | (have hz : ¬ J 4 c.toNatClampNeg < 0 ∧ ¬ kn < J 4 c.toNatClampNeg := ⟨h127, h137⟩
                 rw [if_pos hz])
            · rw [upd_ne e6]
              by_cases e5 : i = 5
              · subst e5; rw [h5, show p = P by omega]; rfl
              · exact h0 i (by omega)
    · exact absurd h69 (by rw [hR.2.2.1, show p = P by omega]; exact Int32.lt_irrefl)
  | succ m ih =>
    intro p x3 W hm e3 hF h0 h5
    subst e3
    have hP6 := hR.2.2.2
    refine BdQ.l (fun _ _ k => b_iload_n (pc := 64) (i := 3) (dd dtX11_findFacts 42 rfl) rfl rfl k) ?_
    refine BdQ.l (fun _ _ k => b_aload_n (pc := 65) (i := 0) (dd dtX11_findFacts 43 rfl) rfl rfl k) ?_
    refine BdQ.l (fun _ _ k => b_geti (pc := 66) (dd dtX11_findFacts 44 rfl) fwX11_26 pM_0 k) ?_
    rw [hF.2 4 (by decide) (by decide) (by omega), hR.2.2.1]
    refine BdQ.c (fun _ _ k1 k2 => b_icmpL_ge (pc := 69) (tgt := 115) (dd dtX11_findFacts 45 rfl) (by decide) k1 k2) (fun h69 => ?_) (fun h69 => ?_)
    · exact absurd (nI_lt (show p < P by omega) (by omega)) h69
    · refine BdQ.l (fun _ _ k => b_aload_n (pc := 72) (i := 0) (dd dtX11_findFacts 46 rfl) rfl rfl k) ?_
      refine BdQ.l (fun _ _ k => b_geta (pc := 73) (dd dtX11_findFacts 47 rfl) fwX11_191 pM_0 rM_0_58 k) ?_
      refine BdQ.l (fun _ _ k => b_ic5 (pc := 76) (dd dtX11_findFacts 48 rfl) k) ?_
      refine BdQ.l (fun _ _ k => b_dup2 (pc := 77) (dd dtX11_findFacts 49 rfl) ⟨rfl, rfl⟩ k) ?_
      refine BdQ.l (fun _ _ k => b_iald (pc := 78) (dd dtX11_findFacts 50 rfl) pM_38 (vpn (h := 5) rfl (by decide) (by decide)) k) ?_
      refine BdQ.l (fun _ _ k => b_aload_n (pc := 79) (i := 0) (dd dtX11_findFacts 51 rfl) rfl rfl k) ?_
      refine BdQ.l (fun _ _ k => b_geta (pc := 80) (dd dtX11_findFacts 52 rfl) fwX11_72 pM_0 rM_0_19 k) ?_
      refine BdQ.l (fun _ _ k => b_iload_n (pc := 83) (i := 3) (dd dtX11_findFacts 53 rfl) rfl rfl k) ?_
      refine BdQ.l (fun _ _ k => b_iald (pc := 84) (dd dtX11_findFacts 54 rfl) pM_15 (vpn rfl (show p < 6 by omega) (by decide)) k) ?_
      rw [nI_clamp (show p < 2 ^ 31 by omega), hF.1 15 (by decide) (by omega)]
      refine BdQ.c (fun _ _ k1 k2 => b_ifL_le (pc := 85) (tgt := 106) (dd dtX11_findFacts 55 rfl) (by decide) k1 k2) (fun h85 => ?_) (fun h85 => ?_)
      · refine BdQ.l (fun _ _ k => b_ic0 (pc := 106) (dd dtX11_findFacts 66 rfl) k) ?_
        refine BdQ.l (fun _ _ k => b_iadd (pc := 107) (dd dtX11_findFacts 67 rfl) k) ?_
        refine BdQ.l (fun _ _ k => b_iast (pc := 108) (dd dtX11_findFacts 68 rfl) pM_38 (vpn (h := 5) rfl (by decide) (by decide)) k) ?_
        refine BdQ.l (fun _ _ k => b_iinc1 (pc := 109) (i := 3) (lv' := [(3, _), (0, _), (1, _), (2, _)]) (dd dtX11_findFacts 69 rfl) rfl (Nat.le_of_ble_eq_true rfl) rfl k) ?_
        refine BdQ.l (fun _ _ k => b_goto (pc := 112) (tgt := 64) (dd dtX11_findFacts 70 rfl) (by decide) k) ?_
        rw [nI_1, show (5 : Int32).toNatClampNeg = 5 from rfl]
        refine ih (p + 1) _ _ (by omega) rfl (hF.s rfl) (fun i hi => by rw [ist_eq, upd_ne (by omega)]; exact h0 i hi) ?_
        rw [ist_eq, upd_eq, h5]
        show _ = npM (J 14) (J 15) c p + _
        first
        | (have hz : ¬ (0 < J 15 p ∧ ¬ farM (J 14 p) c) := fun q => h85 q.1
           rw [if_neg hz])
        | (have hz : 0 < J 15 p ∧ ¬ farM (J 14 p) c := ⟨h85, h99⟩
           rw [if_pos hz])
        | (have hz : ¬ (0 < J 15 p ∧ ¬ farM (J 14 p) c) := fun q => q.2 (Decidable.not_not.mp h99)
           rw [if_neg hz])
        | (have hz : ¬ (0 < J 15 p ∧ ¬ farM (J 14 p) c) := fun q => q.2 h99
           rw [if_neg hz])
      · refine BdQ.l (fun _ _ k => b_aload_n (pc := 88) (i := 0) (dd dtX11_findFacts 56 rfl) rfl rfl k) ?_
        refine BdQ.l (fun _ _ k => b_aload_n (pc := 89) (i := 0) (dd dtX11_findFacts 57 rfl) rfl rfl k) ?_
        refine BdQ.l (fun _ _ k => b_geta (pc := 90) (dd dtX11_findFacts 58 rfl) fwX11_69 pM_0 rM_0_18 k) ?_
        refine BdQ.l (fun _ _ k => b_iload_n (pc := 93) (i := 3) (dd dtX11_findFacts 59 rfl) rfl rfl k) ?_
        refine BdQ.l (fun _ _ k => b_iald (pc := 94) (dd dtX11_findFacts 60 rfl) pM_14 (vpn rfl (show p < 6 by omega) (by decide)) k) ?_
        rw [nI_clamp (show p < 2 ^ 31 by omega), hF.1 14 (by decide) (by omega)]
        refine BdQ.l (fun _ _ k => b_iload_n (pc := 95) (i := 1) (dd dtX11_findFacts 61 rfl) rfl rfl k) ?_
        refine BdQ.l (fun _ _ k => b_invV (pc := 96) (dd dtX11_findFacts 62 rfl) mlX11_293 mvX11_isNear miX11_isNear (c_X11_isNear) oM_0 rfl rfl (by decide) (Nat.le_of_ble_eq_true rfl) k) ?_
        refine BdQ.b (fun _ _ k1 k2 => b_ifn_eq (pc := 99) (tgt := 106) (dd dtX11_findFacts 63 rfl) (by decide) k1 k2) (fun h99 => ?_) (fun h99 => ?_)
        · refine BdQ.l (fun _ _ k => b_ic0 (pc := 106) (dd dtX11_findFacts 66 rfl) k) ?_
          refine BdQ.l (fun _ _ k => b_iadd (pc := 107) (dd dtX11_findFacts 67 rfl) k) ?_
          refine BdQ.l (fun _ _ k => b_iast (pc := 108) (dd dtX11_findFacts 68 rfl) pM_38 (vpn (h := 5) rfl (by decide) (by decide)) k) ?_
          refine BdQ.l (fun _ _ k => b_iinc1 (pc := 109) (i := 3) (lv' := [(3, _), (0, _), (1, _), (2, _)]) (dd dtX11_findFacts 69 rfl) rfl (Nat.le_of_ble_eq_true rfl) rfl k) ?_
          refine BdQ.l (fun _ _ k => b_goto (pc := 112) (tgt := 64) (dd dtX11_findFacts 70 rfl) (by decide) k) ?_
          rw [nI_1, show (5 : Int32).toNatClampNeg = 5 from rfl]
          refine ih (p + 1) _ _ (by omega) rfl (hF.s rfl) (fun i hi => by rw [ist_eq, upd_ne (by omega)]; exact h0 i hi) ?_
          rw [ist_eq, upd_eq, h5]
          show _ = npM (J 14) (J 15) c p + _
          first
          | (have hz : ¬ (0 < J 15 p ∧ ¬ farM (J 14 p) c) := fun q => h85 q.1
             rw [if_neg hz])
          | (have hz : 0 < J 15 p ∧ ¬ farM (J 14 p) c := ⟨h85, h99⟩
             rw [if_pos hz])
          | (have hz : ¬ (0 < J 15 p ∧ ¬ farM (J 14 p) c) := fun q => q.2 (Decidable.not_not.mp h99)
             rw [if_neg hz])
          | (have hz : ¬ (0 < J 15 p ∧ ¬ farM (J 14 p) c) := fun q => q.2 h99
             rw [if_neg hz])
        · refine BdQ.l (fun _ _ k => b_ic1 (pc := 102) (dd dtX11_findFacts 64 rfl) k) ?_
          refine BdQ.l (fun _ _ k => b_goto (pc := 103) (tgt := 107) (dd dtX11_findFacts 65 rfl) (by decide) k) ?_
          refine BdQ.l (fun _ _ k => b_iadd (pc := 107) (dd dtX11_findFacts 67 rfl) k) ?_
          refine BdQ.l (fun _ _ k => b_iast (pc := 108) (dd dtX11_findFacts 68 rfl) pM_38 (vpn (h := 5) rfl (by decide) (by decide)) k) ?_
          refine BdQ.l (fun _ _ k => b_iinc1 (pc := 109) (i := 3) (lv' := [(3, _), (0, _), (1, _), (2, _)]) (dd dtX11_findFacts 69 rfl) rfl (Nat.le_of_ble_eq_true rfl) rfl k) ?_
          refine BdQ.l (fun _ _ k => b_goto (pc := 112) (tgt := 64) (dd dtX11_findFacts 70 rfl) (by decide) k) ?_
          rw [nI_1, show (5 : Int32).toNatClampNeg = 5 from rfl]
          refine ih (p + 1) _ _ (by omega) rfl (hF.s rfl) (fun i hi => by rw [ist_eq, upd_ne (by omega)]; exact h0 i hi) ?_
          rw [ist_eq, upd_eq, h5]
          show _ = npM (J 14) (J 15) c p + _
          first
          | (have hz : ¬ (0 < J 15 p ∧ ¬ farM (J 14 p) c) := fun q => h85 q.1
             rw [if_neg hz])
          | (have hz : 0 < J 15 p ∧ ¬ farM (J 14 p) c := ⟨h85, h99⟩
             rw [if_pos hz])
          | (have hz : ¬ (0 < J 15 p ∧ ¬ farM (J 14 p) c) := fun q => q.2 (Decidable.not_not.mp h99)
             rw [if_neg hz])
          | (have hz : ¬ (0 < J 15 p ∧ ¬ farM (J 14 p) c) := fun q => q.2 h99
             rw [if_neg hz])
set_option maxHeartbeats 4000000 in
theorem q_facts {J : Wd} {K N P : Nat} {c kn : Int32} (hR : RM J K N P) (hc : vp_in c 64) : CalQ SyM mX11_findFacts 4 [.ref 0, .int c, .int kn] J (fun r J' => r = none ∧ Fr8 J J' ∧ ∀ i, i < 8 → J' 38 i = fctM J K N P c kn i) := by
  refine CalQ.of (by decide) (Nat.le_of_ble_eq_true rfl) ?_
  show BdQ _ _ _ _ [(0, _), (1, _), (2, _)] _ _ _
  refine BdQ.l (fun _ _ k => b_aload_n (pc := 0) (i := 0) (dd dtX11_findFacts 0 rfl) rfl rfl k) ?_
  refine BdQ.l (fun _ _ k => b_geta (pc := 1) (dd dtX11_findFacts 1 rfl) fwX11_191 pM_0 rM_0_58 k) ?_
  refine BdQ.l (fun _ _ k => b_ic0 (pc := 4) (dd dtX11_findFacts 2 rfl) k) ?_
  refine BdQ.l (fun _ _ k => b_aload_n (pc := 5) (i := 0) (dd dtX11_findFacts 3 rfl) rfl rfl k) ?_
  refine BdQ.l (fun _ _ k => b_iload_n (pc := 6) (i := 1) (dd dtX11_findFacts 4 rfl) rfl rfl k) ?_
  refine BdQ.l (fun _ _ k => b_iload_n (pc := 7) (i := 2) (dd dtX11_findFacts 5 rfl) rfl rfl k) ?_
  refine BdQ.l (fun _ _ k => b_invV (pc := 8) (dd dtX11_findFacts 6 rfl) mlX11_386 mvX11_doubtOf miX11_doubtOf (c_X11_doubtOf hR.1.1 hR.1.2) oM_0 rfl rfl (by decide) (Nat.le_of_ble_eq_true rfl) k) ?_
  refine BdQ.l (fun _ _ k => b_iast (pc := 11) (dd dtX11_findFacts 7 rfl) pM_38 (vpn (h := 0) rfl (by decide) (by decide)) k) ?_
  refine BdQ.l (fun _ _ k => b_aload_n (pc := 12) (i := 0) (dd dtX11_findFacts 8 rfl) rfl rfl k) ?_
  refine BdQ.l (fun _ _ k => b_geta (pc := 13) (dd dtX11_findFacts 9 rfl) fwX11_191 pM_0 rM_0_58 k) ?_
  refine BdQ.l (fun _ _ k => b_ic1 (pc := 16) (dd dtX11_findFacts 10 rfl) k) ?_
  refine BdQ.l (fun _ _ k => b_aload_n (pc := 17) (i := 0) (dd dtX11_findFacts 11 rfl) rfl rfl k) ?_
  refine BdQ.l (fun _ _ k => b_geti (pc := 18) (dd dtX11_findFacts 12 rfl) fwX11_100 pM_0 k) ?_
  refine BdQ.l (fun _ _ k => b_iast (pc := 21) (dd dtX11_findFacts 13 rfl) pM_38 (vpn (h := 1) rfl (by decide) (by decide)) k) ?_
  refine BdQ.l (fun _ _ k => b_aload_n (pc := 22) (i := 0) (dd dtX11_findFacts 14 rfl) rfl rfl k) ?_
  refine BdQ.l (fun _ _ k => b_geta (pc := 23) (dd dtX11_findFacts 15 rfl) fwX11_191 pM_0 rM_0_58 k) ?_
  refine BdQ.l (fun _ _ k => b_ic2 (pc := 26) (dd dtX11_findFacts 16 rfl) k) ?_
  refine BdQ.l (fun _ _ k => b_aload_n (pc := 27) (i := 0) (dd dtX11_findFacts 17 rfl) rfl rfl k) ?_
  refine BdQ.l (fun _ _ k => b_geti (pc := 28) (dd dtX11_findFacts 18 rfl) fwX11_103 pM_0 k) ?_
  refine BdQ.l (fun _ _ k => b_iast (pc := 31) (dd dtX11_findFacts 19 rfl) pM_38 (vpn (h := 2) rfl (by decide) (by decide)) k) ?_
  refine BdQ.l (fun _ _ k => b_aload_n (pc := 32) (i := 0) (dd dtX11_findFacts 20 rfl) rfl rfl k) ?_
  refine BdQ.l (fun _ _ k => b_geta (pc := 33) (dd dtX11_findFacts 21 rfl) fwX11_191 pM_0 rM_0_58 k) ?_
  refine BdQ.l (fun _ _ k => b_ic3 (pc := 36) (dd dtX11_findFacts 22 rfl) k) ?_
  refine BdQ.l (fun _ _ k => b_aload_n (pc := 37) (i := 0) (dd dtX11_findFacts 23 rfl) rfl rfl k) ?_
  refine BdQ.l (fun _ _ k => b_geta (pc := 38) (dd dtX11_findFacts 24 rfl) fwX11_29 pM_0 rM_0_5 k) ?_
  refine BdQ.l (fun _ _ k => b_iload_n (pc := 41) (i := 1) (dd dtX11_findFacts 25 rfl) rfl rfl k) ?_
  refine BdQ.l (fun _ _ k => b_iald (pc := 42) (dd dtX11_findFacts 26 rfl) pM_1 (hc) k) ?_
  refine BdQ.l (fun _ _ k => b_iast (pc := 43) (dd dtX11_findFacts 27 rfl) pM_38 (vpn (h := 3) rfl (by decide) (by decide)) k) ?_
  refine BdQ.l (fun _ _ k => b_aload_n (pc := 44) (i := 0) (dd dtX11_findFacts 28 rfl) rfl rfl k) ?_
  refine BdQ.l (fun _ _ k => b_geta (pc := 45) (dd dtX11_findFacts 29 rfl) fwX11_191 pM_0 rM_0_58 k) ?_
  refine BdQ.l (fun _ _ k => b_ic4 (pc := 48) (dd dtX11_findFacts 30 rfl) k) ?_
  refine BdQ.l (fun _ _ k => b_aload_n (pc := 49) (i := 0) (dd dtX11_findFacts 31 rfl) rfl rfl k) ?_
  refine BdQ.l (fun _ _ k => b_iload_n (pc := 50) (i := 1) (dd dtX11_findFacts 32 rfl) rfl rfl k) ?_
  refine BdQ.l (fun _ _ k => b_invV (pc := 51) (dd dtX11_findFacts 33 rfl) mlX11_389 mvX11_peopleIn miX11_peopleIn (c_X11_peopleIn (N := N) (by rw [ist_ne (by decide), ist_ne (by decide), ist_ne (by decide), ist_ne (by decide), spanW_0 (by decide) (by decide)]; exact hR.2.1.1) hR.2.1.2) oM_0 rfl rfl (by decide) (Nat.le_of_ble_eq_true rfl) k) ?_
  refine BdQ.l (fun _ _ k => b_iast (pc := 54) (dd dtX11_findFacts 34 rfl) pM_38 (vpn (h := 4) rfl (by decide) (by decide)) k) ?_
  refine BdQ.l (fun _ _ k => b_aload_n (pc := 55) (i := 0) (dd dtX11_findFacts 35 rfl) rfl rfl k) ?_
  refine BdQ.l (fun _ _ k => b_geta (pc := 56) (dd dtX11_findFacts 36 rfl) fwX11_191 pM_0 rM_0_58 k) ?_
  refine BdQ.l (fun _ _ k => b_ic5 (pc := 59) (dd dtX11_findFacts 37 rfl) k) ?_
  refine BdQ.l (fun _ _ k => b_ic0 (pc := 60) (dd dtX11_findFacts 38 rfl) k) ?_
  refine BdQ.l (fun _ _ k => b_iast (pc := 61) (dd dtX11_findFacts 39 rfl) pM_38 (vpn (h := 5) rfl (by decide) (by decide)) k) ?_
  refine BdQ.l (fun _ _ k => b_ic0 (pc := 62) (dd dtX11_findFacts 40 rfl) k) ?_
  refine BdQ.l (fun _ _ k => b_istore_n (pc := 63) (i := 3) (lv' := [(3, _), (0, _), (1, _), (2, _)]) (dd dtX11_findFacts 41 rfl) rfl (Nat.le_of_ble_eq_true rfl) rfl k) ?_
  rw [show (0 : Int32).toNatClampNeg = 0 from rfl, show (1 : Int32).toNatClampNeg = 1 from rfl, show (2 : Int32).toNatClampNeg = 2 from rfl, show (3 : Int32).toNatClampNeg = 3 from rfl, show (4 : Int32).toNatClampNeg = 4 from rfl, show (5 : Int32).toNatClampNeg = 5 from rfl]
  refine lr_facts hR hc P 0 _ _ (by omega) rfl ((((((Fr8.r.span).s rfl).s rfl).s rfl).s rfl).s rfl |>.s rfl) (fun i hi => ?_) ?_
  · simp (disch := decide) only [ist_eq, ist_ne]
    rcases (show i = 0 ∨ i = 1 ∨ i = 2 ∨ i = 3 ∨ i = 4 by omega) with rfl | rfl | rfl | rfl | rfl
    · rfl
    · simp (disch := decide) only [upd_eq, upd_ne, spanW_28]; rfl
    · simp (disch := decide) only [upd_eq, upd_ne, spanW_29]; rfl
    · simp (disch := decide) only [upd_eq, upd_ne, spanW_fr]; rfl
    · simp (disch := decide) only [upd_eq, upd_ne, spanW_fr]; rfl
  · rw [ist_eq, upd_eq]; rfl
