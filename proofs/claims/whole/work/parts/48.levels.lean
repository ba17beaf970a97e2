/-! the reader's six, where more may be opened and where not -/
def QC (M : Mi) (d : Nat) (B : Wd) (T : Nat) (o : Int32) (X : St → St) : Prop := ∀ I s, RdW B T I s → CalQ SyC M d [.ref 73, .int o] I (fun r I' => r = none ∧ RdW B T I' (X s))
theorem rLoop_n {kd : Nat → Int32} {T : Nat} {is : Int32 → Option Int32} {sub : St → St} {n : Nat} {s : St} (h : is (sTok kd T s) = none) : rLoop kd T is sub n s = s := by
  cases n with
  | zero => rfl
  | succ n => simp only [rLoop, h]
theorem rLoop_s {kd : Nat → Int32} {T : Nat} {is : Int32 → Option Int32} {sub : St → St} {n : Nat} {s : St} {v : Int32} (h : is (sTok kd T s) = some v) : rLoop kd T is sub (n + 1) s = rLoop kd T is sub n (sAdd v (sub (sAdv s))) := by
  simp only [rLoop, h]
theorem R_num' {B I : Wd} {T : Nat} {s : St} (hB : TB B T) (hR : RdW B T I s) (h0 : ¬ sTok (B 71) T s = 0) (h1 : ¬ sTok (B 71) T s = 1) : ∃ t c, s = .ok (t, c) ∧ I 73 2 = nI t ∧ t < 2 ^ 31 ∧ I 67 1 = nI T ∧ t < T ∧ I 72 t = B 72 t := by
  cases s with
  | error e => exact absurd rfl h1
  | ok q =>
    obtain ⟨t, c⟩ := q
    have hlt := kdA_lt h0
    have := hB.2.1
    exact ⟨t, c, rfl, hR.2.1, by omega, hB.at hR.1, hlt, by rw [hR.1 72 (by decide) (by decide) (by decide)]⟩
theorem sAdd_tok {kd : Nat → Int32} {T : Nat} {v : Int32} {s : St} : sTok kd T (sAdd v s) = sTok kd T s := by cases s <;> rfl
def tX3_readOne : List (Nat × Instr × Nat) := [(0, .aload_n 0, 1), (1, .getfield 24, 3), (4, .iconst 2, 1), (5, .if_icmp .ne 28, 3), (8, .aload_n 0, 1), (9, .getfield 12, 3), (12, .aload_n 0, 1), (13, .getfield 30, 3), (16, .aload_n 0, 1), (17, .getfield 18, 3), (20, .invokevirtual 73, 3), (23, .invokevirtual 58, 3), (26, .aload_n 0, 1), (27, .invokevirtual 55, 3), (30, .goto 113, 3), (33, .aload_n 0, 1), (34, .getfield 24, 3), (37, .iconst 3, 1), (38, .if_icmp .ne 30, 3), (41, .aload_n 0, 1), (42, .getfield 12, 3), (45, .iconst (-1), 1), (46, .aload_n 0, 1), (47, .getfield 30, 3), (50, .aload_n 0, 1), (51, .getfield 18, 3), (54, .invokevirtual 73, 3), (57, .isub, 1), (58, .invokevirtual 58, 3), (61, .aload_n 0, 1), (62, .invokevirtual 55, 3), (65, .goto 78, 3), (68, .aload_n 0, 1), (69, .getfield 24, 3), (72, .bipush 45, 2), (74, .if_icmp .ne 31, 3), (77, .iload_n 1, 1), (78, .iconst 5, 1), (79, .if_icmp .ge 26, 3), (82, .aload_n 0, 1), (83, .invokevirtual 55, 3), (86, .aload_n 0, 1), (87, .iload_n 1, 1), (88, .iconst 1, 1), (89, .iadd, 1), (90, .invokevirtual 70, 3), (93, .aload_n 0, 1), (94, .getfield 12, 3), (97, .bipush (-19), 2), (99, .invokevirtual 58, 3), (102, .goto 41, 3), (105, .aload_n 0, 1), (106, .getfield 24, 3), (109, .bipush 40, 2), (111, .if_icmp .ne 28, 3), (114, .iload_n 1, 1), (115, .iconst 5, 1), (116, .if_icmp .ge 23, 3), (119, .aload_n 0, 1), (120, .invokevirtual 55, 3), (123, .aload_n 0, 1), (124, .iload_n 1, 1), (125, .iconst 1, 1), (126, .iadd, 1), (127, .invokevirtual 45, 3), (130, .aload_n 0, 1), (131, .bipush 41, 2), (133, .invokevirtual 41, 3), (136, .goto 7, 3), (139, .aload_n 0, 1), (140, .invokevirtual 76, 3), (143, .return_, 1)]
theorem dtX3_readOne : dec_ok mX3_readOne.2.1 tX3_readOne = true := by decide +kernel
set_option maxHeartbeats 4000000 in
theorem q_one {B : Wd} {T : Nat} (hB : TB B T) {o : Int32} {d d1 d2 : Nat} {can : Bool} (hcan : can = true ↔ o < 5) {one or : St → St} (h1 : can = true → QC mX3_readOne d1 B T (o + 1) one) (h2 : can = true → QC mX3_readOr d2 B T (o + 1) or) (hd : 2 < d) (hd1 : d1 < d) (hd2 : d2 < d) : QC mX3_readOne d B T o (rOne (B 71) (B 72) T can one or) := by
  intro I s hR
  refine CalQ.of (by decide) (Nat.le_of_ble_eq_true rfl) ?_
  show BdQ _ _ _ _ [(0, _), (1, _)] _ _ _
  have tk := hR.tok
  refine BdQ.l (fun _ _ k => b_aload_n (pc := 0) (i := 0) (dd dtX3_readOne 0 rfl) rfl rfl k) ?_
  refine BdQ.l (fun _ _ k => b_geti (pc := 1) (dd dtX3_readOne 1 rfl) fwX3_24 pC_73 k) ?_
  refine BdQ.l (fun _ _ k => b_ic2 (pc := 4) (dd dtX3_readOne 2 rfl) k) ?_
  refine BdQ.c (fun _ _ k1 k2 => b_icmp_ne (pc := 5) (tgt := 33) (dd dtX3_readOne 3 rfl) (by decide) k1 k2) (fun h5 => ?_) (fun h5 => ?_)
  · refine BdQ.l (fun _ _ k => b_aload_n (pc := 33) (i := 0) (dd dtX3_readOne 15 rfl) rfl rfl k) ?_
    refine BdQ.l (fun _ _ k => b_geti (pc := 34) (dd dtX3_readOne 16 rfl) fwX3_24 pC_73 k) ?_
    refine BdQ.l (fun _ _ k => b_ic3 (pc := 37) (dd dtX3_readOne 17 rfl) k) ?_
    refine BdQ.c (fun _ _ k1 k2 => b_icmp_ne (pc := 38) (tgt := 68) (dd dtX3_readOne 18 rfl) (by decide) k1 k2) (fun h38 => ?_) (fun h38 => ?_)
    · refine BdQ.l (fun _ _ k => b_aload_n (pc := 68) (i := 0) (dd dtX3_readOne 32 rfl) rfl rfl k) ?_
      refine BdQ.l (fun _ _ k => b_geti (pc := 69) (dd dtX3_readOne 33 rfl) fwX3_24 pC_73 k) ?_
      refine BdQ.l (fun _ _ k => b_bipush (pc := 72) (v := 45) (dd dtX3_readOne 34 rfl) (by decide) k) ?_
      refine BdQ.c (fun _ _ k1 k2 => b_icmp_ne (pc := 74) (tgt := 105) (dd dtX3_readOne 35 rfl) (by decide) k1 k2) (fun h74 => ?_) (fun h74 => ?_)
      · refine BdQ.l (fun _ _ k => b_aload_n (pc := 105) (i := 0) (dd dtX3_readOne 51 rfl) rfl rfl k) ?_
        refine BdQ.l (fun _ _ k => b_geti (pc := 106) (dd dtX3_readOne 52 rfl) fwX3_24 pC_73 k) ?_
        refine BdQ.l (fun _ _ k => b_bipush (pc := 109) (v := 40) (dd dtX3_readOne 53 rfl) (by decide) k) ?_
        refine BdQ.c (fun _ _ k1 k2 => b_icmp_ne (pc := 111) (tgt := 139) (dd dtX3_readOne 54 rfl) (by decide) k1 k2) (fun h111 => ?_) (fun h111 => ?_)
        · refine BdQ.l (fun _ _ k => b_aload_n (pc := 139) (i := 0) (dd dtX3_readOne 69 rfl) rfl rfl k) ?_
          obtain ⟨_, I140, ⟨rfl, R140⟩, k140⟩ := q_ref hB hR
          refine BdQ.l (fun _ _ k => b_invV (pc := 140) (dd dtX3_readOne 70 rfl) mlX3_76 mvX3_refuse miX3_refuse (k140) oC_73 rfl rfl (by omega) (Nat.le_of_ble_eq_true rfl) k) ?_
          refine ⟨_, _, ?_, b_vret (dd dtX3_readOne 71 rfl) rfl⟩
          refine ⟨rfl, ?_⟩
          unfold rOne
          first
          | (rw [if_pos (tk.symm.trans h5)]; exact R27)
          | (rw [if_neg (fun q => h5 (tk.trans q)), if_pos (tk.symm.trans h38)]; exact R62)
          | (rw [if_neg (fun q => h5 (tk.trans q)), if_neg (fun q => h38 (tk.trans q)), if_pos ⟨tk.symm.trans h74, hcan.mpr h79⟩]; exact R99)
          | (rw [if_neg (fun q => h5 (tk.trans q)), if_neg (fun q => h38 (tk.trans q)), if_neg (fun q => by first | exact h74 (tk.trans q.1) | exact h79 (hcan.mp q.2)), if_pos ⟨tk.symm.trans h111, hcan.mpr h116⟩]; exact R133)
          | (rw [if_neg (fun q => h5 (tk.trans q)), if_neg (fun q => h38 (tk.trans q)), if_neg (fun q => by first | exact h74 (tk.trans q.1) | exact h79 (hcan.mp q.2)), if_neg (fun q => by first | exact h111 (tk.trans q.1) | exact h116 (hcan.mp q.2))]; exact R140)
        · refine BdQ.l (fun _ _ k => b_iload_n (pc := 114) (i := 1) (dd dtX3_readOne 55 rfl) rfl rfl k) ?_
          refine BdQ.l (fun _ _ k => b_ic5 (pc := 115) (dd dtX3_readOne 56 rfl) k) ?_
          refine BdQ.c (fun _ _ k1 k2 => b_icmpL_ge (pc := 116) (tgt := 139) (dd dtX3_readOne 57 rfl) (by decide) k1 k2) (fun h116 => ?_) (fun h116 => ?_)
          · refine BdQ.l (fun _ _ k => b_aload_n (pc := 139) (i := 0) (dd dtX3_readOne 69 rfl) rfl rfl k) ?_
            obtain ⟨_, I140, ⟨rfl, R140⟩, k140⟩ := q_ref hB hR
            refine BdQ.l (fun _ _ k => b_invV (pc := 140) (dd dtX3_readOne 70 rfl) mlX3_76 mvX3_refuse miX3_refuse (k140) oC_73 rfl rfl (by omega) (Nat.le_of_ble_eq_true rfl) k) ?_
            refine ⟨_, _, ?_, b_vret (dd dtX3_readOne 71 rfl) rfl⟩
            refine ⟨rfl, ?_⟩
            unfold rOne
            first
            | (rw [if_pos (tk.symm.trans h5)]; exact R27)
            | (rw [if_neg (fun q => h5 (tk.trans q)), if_pos (tk.symm.trans h38)]; exact R62)
            | (rw [if_neg (fun q => h5 (tk.trans q)), if_neg (fun q => h38 (tk.trans q)), if_pos ⟨tk.symm.trans h74, hcan.mpr h79⟩]; exact R99)
            | (rw [if_neg (fun q => h5 (tk.trans q)), if_neg (fun q => h38 (tk.trans q)), if_neg (fun q => by first | exact h74 (tk.trans q.1) | exact h79 (hcan.mp q.2)), if_pos ⟨tk.symm.trans h111, hcan.mpr h116⟩]; exact R133)
            | (rw [if_neg (fun q => h5 (tk.trans q)), if_neg (fun q => h38 (tk.trans q)), if_neg (fun q => by first | exact h74 (tk.trans q.1) | exact h79 (hcan.mp q.2)), if_neg (fun q => by first | exact h111 (tk.trans q.1) | exact h116 (hcan.mp q.2))]; exact R140)
          · refine BdQ.l (fun _ _ k => b_aload_n (pc := 119) (i := 0) (dd dtX3_readOne 58 rfl) rfl rfl k) ?_
            obtain ⟨_, I120, ⟨rfl, R120⟩, k120⟩ := q_adv hB hR (by rw [← tk, h111]; decide) (by rw [← tk, h111]; decide)
            refine BdQ.l (fun _ _ k => b_invV (pc := 120) (dd dtX3_readOne 59 rfl) mlX3_55 mvX3_advance miX3_advance (k120) oC_73 rfl rfl (by omega) (Nat.le_of_ble_eq_true rfl) k) ?_
            refine BdQ.l (fun _ _ k => b_aload_n (pc := 123) (i := 0) (dd dtX3_readOne 60 rfl) rfl rfl k) ?_
            refine BdQ.l (fun _ _ k => b_iload_n (pc := 124) (i := 1) (dd dtX3_readOne 61 rfl) rfl rfl k) ?_
            refine BdQ.l (fun _ _ k => b_ic1 (pc := 125) (dd dtX3_readOne 62 rfl) k) ?_
            refine BdQ.l (fun _ _ k => b_iadd (pc := 126) (dd dtX3_readOne 63 rfl) k) ?_
            obtain ⟨_, I127, ⟨rfl, R127⟩, k127⟩ := h2 (hcan.mpr h116) _ _ R120
            refine BdQ.l (fun _ _ k => b_invV (pc := 127) (dd dtX3_readOne 64 rfl) mlX3_45 mvX3_readOr miX3_readOr (k127) oC_73 rfl rfl (by omega) (Nat.le_of_ble_eq_true rfl) k) ?_
            refine BdQ.l (fun _ _ k => b_aload_n (pc := 130) (i := 0) (dd dtX3_readOne 65 rfl) rfl rfl k) ?_
            refine BdQ.l (fun _ _ k => b_bipush (pc := 131) (v := 41) (dd dtX3_readOne 66 rfl) (by decide) k) ?_
            obtain ⟨_, I133, ⟨rfl, R133⟩, k133⟩ := q_exp (k := 41) hB (by decide) (by decide) R127
            refine BdQ.l (fun _ _ k => b_invV (pc := 133) (dd dtX3_readOne 67 rfl) mlX3_41 mvX3_expect miX3_expect (k133) oC_73 rfl rfl (by omega) (Nat.le_of_ble_eq_true rfl) k) ?_
            refine BdQ.l (fun _ _ k => b_goto (pc := 136) (tgt := 143) (dd dtX3_readOne 68 rfl) (by decide) k) ?_
            refine ⟨_, _, ?_, b_vret (dd dtX3_readOne 71 rfl) rfl⟩
            refine ⟨rfl, ?_⟩
            unfold rOne
            first
            | (rw [if_pos (tk.symm.trans h5)]; exact R27)
            | (rw [if_neg (fun q => h5 (tk.trans q)), if_pos (tk.symm.trans h38)]; exact R62)
            | (rw [if_neg (fun q => h5 (tk.trans q)), if_neg (fun q => h38 (tk.trans q)), if_pos ⟨tk.symm.trans h74, hcan.mpr h79⟩]; exact R99)
            | (rw [if_neg (fun q => h5 (tk.trans q)), if_neg (fun q => h38 (tk.trans q)), if_neg (fun q => by first | exact h74 (tk.trans q.1) | exact h79 (hcan.mp q.2)), if_pos ⟨tk.symm.trans h111, hcan.mpr h116⟩]; exact R133)
            | (rw [if_neg (fun q => h5 (tk.trans q)), if_neg (fun q => h38 (tk.trans q)), if_neg (fun q => by first | exact h74 (tk.trans q.1) | exact h79 (hcan.mp q.2)), if_neg (fun q => by first | exact h111 (tk.trans q.1) | exact h116 (hcan.mp q.2))]; exact R140)
      · refine BdQ.l (fun _ _ k => b_iload_n (pc := 77) (i := 1) (dd dtX3_readOne 36 rfl) rfl rfl k) ?_
        refine BdQ.l (fun _ _ k => b_ic5 (pc := 78) (dd dtX3_readOne 37 rfl) k) ?_
        refine BdQ.c (fun _ _ k1 k2 => b_icmpL_ge (pc := 79) (tgt := 105) (dd dtX3_readOne 38 rfl) (by decide) k1 k2) (fun h79 => ?_) (fun h79 => ?_)
        · refine BdQ.l (fun _ _ k => b_aload_n (pc := 105) (i := 0) (dd dtX3_readOne 51 rfl) rfl rfl k) ?_
          refine BdQ.l (fun _ _ k => b_geti (pc := 106) (dd dtX3_readOne 52 rfl) fwX3_24 pC_73 k) ?_
          refine BdQ.l (fun _ _ k => b_bipush (pc := 109) (v := 40) (dd dtX3_readOne 53 rfl) (by decide) k) ?_
          refine BdQ.c (fun _ _ k1 k2 => b_icmp_ne (pc := 111) (tgt := 139) (dd dtX3_readOne 54 rfl) (by decide) k1 k2) (fun h111 => ?_) (fun h111 => ?_)
          · refine BdQ.l (fun _ _ k => b_aload_n (pc := 139) (i := 0) (dd dtX3_readOne 69 rfl) rfl rfl k) ?_
            obtain ⟨_, I140, ⟨rfl, R140⟩, k140⟩ := q_ref hB hR
            refine BdQ.l (fun _ _ k => b_invV (pc := 140) (dd dtX3_readOne 70 rfl) mlX3_76 mvX3_refuse miX3_refuse (k140) oC_73 rfl rfl (by omega) (Nat.le_of_ble_eq_true rfl) k) ?_
            refine ⟨_, _, ?_, b_vret (dd dtX3_readOne 71 rfl) rfl⟩
            refine ⟨rfl, ?_⟩
            unfold rOne
            first
            | (rw [if_pos (tk.symm.trans h5)]; exact R27)
            | (rw [if_neg (fun q => h5 (tk.trans q)), if_pos (tk.symm.trans h38)]; exact R62)
            | (rw [if_neg (fun q => h5 (tk.trans q)), if_neg (fun q => h38 (tk.trans q)), if_pos ⟨tk.symm.trans h74, hcan.mpr h79⟩]; exact R99)
            | (rw [if_neg (fun q => h5 (tk.trans q)), if_neg (fun q => h38 (tk.trans q)), if_neg (fun q => by first | exact h74 (tk.trans q.1) | exact h79 (hcan.mp q.2)), if_pos ⟨tk.symm.trans h111, hcan.mpr h116⟩]; exact R133)
            | (rw [if_neg (fun q => h5 (tk.trans q)), if_neg (fun q => h38 (tk.trans q)), if_neg (fun q => by first | exact h74 (tk.trans q.1) | exact h79 (hcan.mp q.2)), if_neg (fun q => by first | exact h111 (tk.trans q.1) | exact h116 (hcan.mp q.2))]; exact R140)
          · refine BdQ.l (fun _ _ k => b_iload_n (pc := 114) (i := 1) (dd dtX3_readOne 55 rfl) rfl rfl k) ?_
            refine BdQ.l (fun _ _ k => b_ic5 (pc := 115) (dd dtX3_readOne 56 rfl) k) ?_
            refine BdQ.c (fun _ _ k1 k2 => b_icmpL_ge (pc := 116) (tgt := 139) (dd dtX3_readOne 57 rfl) (by decide) k1 k2) (fun h116 => ?_) (fun h116 => ?_)
            · refine BdQ.l (fun _ _ k => b_aload_n (pc := 139) (i := 0) (dd dtX3_readOne 69 rfl) rfl rfl k) ?_
              obtain ⟨_, I140, ⟨rfl, R140⟩, k140⟩ := q_ref hB hR
              refine BdQ.l (fun _ _ k => b_invV (pc := 140) (dd dtX3_readOne 70 rfl) mlX3_76 mvX3_refuse miX3_refuse (k140) oC_73 rfl rfl (by omega) (Nat.le_of_ble_eq_true rfl) k) ?_
              refine ⟨_, _, ?_, b_vret (dd dtX3_readOne 71 rfl) rfl⟩
              refine ⟨rfl, ?_⟩
              unfold rOne
              first
              | (rw [if_pos (tk.symm.trans h5)]; exact R27)
              | (rw [if_neg (fun q => h5 (tk.trans q)), if_pos (tk.symm.trans h38)]; exact R62)
              | (rw [if_neg (fun q => h5 (tk.trans q)), if_neg (fun q => h38 (tk.trans q)), if_pos ⟨tk.symm.trans h74, hcan.mpr h79⟩]; exact R99)
              | (rw [if_neg (fun q => h5 (tk.trans q)), if_neg (fun q => h38 (tk.trans q)), if_neg (fun q => by first | exact h74 (tk.trans q.1) | exact h79 (hcan.mp q.2)), if_pos ⟨tk.symm.trans h111, hcan.mpr h116⟩]; exact R133)
              | (rw [if_neg (fun q => h5 (tk.trans q)), if_neg (fun q => h38 (tk.trans q)), if_neg (fun q => by first | exact h74 (tk.trans q.1) | exact h79 (hcan.mp q.2)), if_neg (fun q => by first | exact h111 (tk.trans q.1) | exact h116 (hcan.mp q.2))]; exact R140)
            · refine BdQ.l (fun _ _ k => b_aload_n (pc := 119) (i := 0) (dd dtX3_readOne 58 rfl) rfl rfl k) ?_
              obtain ⟨_, I120, ⟨rfl, R120⟩, k120⟩ := q_adv hB hR (by rw [← tk, h111]; decide) (by rw [← tk, h111]; decide)
              refine BdQ.l (fun _ _ k => b_invV (pc := 120) (dd dtX3_readOne 59 rfl) mlX3_55 mvX3_advance miX3_advance (k120) oC_73 rfl rfl (by omega) (Nat.le_of_ble_eq_true rfl) k) ?_
              refine BdQ.l (fun _ _ k => b_aload_n (pc := 123) (i := 0) (dd dtX3_readOne 60 rfl) rfl rfl k) ?_
              refine BdQ.l (fun _ _ k => b_iload_n (pc := 124) (i := 1) (dd dtX3_readOne 61 rfl) rfl rfl k) ?_
              refine BdQ.l (fun _ _ k => b_ic1 (pc := 125) (dd dtX3_readOne 62 rfl) k) ?_
              refine BdQ.l (fun _ _ k => b_iadd (pc := 126) (dd dtX3_readOne 63 rfl) k) ?_
              obtain ⟨_, I127, ⟨rfl, R127⟩, k127⟩ := h2 (hcan.mpr h116) _ _ R120
              refine BdQ.l (fun _ _ k => b_invV (pc := 127) (dd dtX3_readOne 64 rfl) mlX3_45 mvX3_readOr miX3_readOr (k127) oC_73 rfl rfl (by omega) (Nat.le_of_ble_eq_true rfl) k) ?_
              refine BdQ.l (fun _ _ k => b_aload_n (pc := 130) (i := 0) (dd dtX3_readOne 65 rfl) rfl rfl k) ?_
              refine BdQ.l (fun _ _ k => b_bipush (pc := 131) (v := 41) (dd dtX3_readOne 66 rfl) (by decide) k) ?_
              obtain ⟨_, I133, ⟨rfl, R133⟩, k133⟩ := q_exp (k := 41) hB (by decide) (by decide) R127
              refine BdQ.l (fun _ _ k => b_invV (pc := 133) (dd dtX3_readOne 67 rfl) mlX3_41 mvX3_expect miX3_expect (k133) oC_73 rfl rfl (by omega) (Nat.le_of_ble_eq_true rfl) k) ?_
              refine BdQ.l (fun _ _ k => b_goto (pc := 136) (tgt := 143) (dd dtX3_readOne 68 rfl) (by decide) k) ?_
              refine ⟨_, _, ?_, b_vret (dd dtX3_readOne 71 rfl) rfl⟩
              refine ⟨rfl, ?_⟩
              unfold rOne
              first
              | (rw [if_pos (tk.symm.trans h5)]; exact R27)
              | (rw [if_neg (fun q => h5 (tk.trans q)), if_pos (tk.symm.trans h38)]; exact R62)
              | (rw [if_neg (fun q => h5 (tk.trans q)), if_neg (fun q => h38 (tk.trans q)), if_pos ⟨tk.symm.trans h74, hcan.mpr h79⟩]; exact R99)
              | (rw [if_neg (fun q => h5 (tk.trans q)), if_neg (fun q => h38 (tk.trans q)), if_neg (fun q => by first | exact h74 (tk.trans q.1) | exact h79 (hcan.mp q.2)), if_pos ⟨tk.symm.trans h111, hcan.mpr h116⟩]; exact R133)
              | (rw [if_neg (fun q => h5 (tk.trans q)), if_neg (fun q => h38 (tk.trans q)), if_neg (fun q => by first | exact h74 (tk.trans q.1) | exact h79 (hcan.mp q.2)), if_neg (fun q => by first | exact h111 (tk.trans q.1) | exact h116 (hcan.mp q.2))]; exact R140)
        · refine BdQ.l (fun _ _ k => b_aload_n (pc := 82) (i := 0) (dd dtX3_readOne 39 rfl) rfl rfl k) ?_
          obtain ⟨_, I83, ⟨rfl, R83⟩, k83⟩ := q_adv hB hR (by rw [← tk, h74]; decide) (by rw [← tk, h74]; decide)
          refine BdQ.l (fun _ _ k => b_invV (pc := 83) (dd dtX3_readOne 40 rfl) mlX3_55 mvX3_advance miX3_advance (k83) oC_73 rfl rfl (by omega) (Nat.le_of_ble_eq_true rfl) k) ?_
          refine BdQ.l (fun _ _ k => b_aload_n (pc := 86) (i := 0) (dd dtX3_readOne 41 rfl) rfl rfl k) ?_
          refine BdQ.l (fun _ _ k => b_iload_n (pc := 87) (i := 1) (dd dtX3_readOne 42 rfl) rfl rfl k) ?_
          refine BdQ.l (fun _ _ k => b_ic1 (pc := 88) (dd dtX3_readOne 43 rfl) k) ?_
          refine BdQ.l (fun _ _ k => b_iadd (pc := 89) (dd dtX3_readOne 44 rfl) k) ?_
          obtain ⟨_, I90, ⟨rfl, R90⟩, k90⟩ := h1 (hcan.mpr h79) _ _ R83
          refine BdQ.l (fun _ _ k => b_invV (pc := 90) (dd dtX3_readOne 45 rfl) mlX3_70 mvX3_readOne miX3_readOne (k90) oC_73 rfl rfl (by omega) (Nat.le_of_ble_eq_true rfl) k) ?_
          refine BdQ.l (fun _ _ k => b_aload_n (pc := 93) (i := 0) (dd dtX3_readOne 46 rfl) rfl rfl k) ?_
          refine BdQ.l (fun _ _ k => b_geta (pc := 94) (dd dtX3_readOne 47 rfl) fwX3_12 pC_73 rC_73_0 k) ?_
          refine BdQ.l (fun _ _ k => b_bipush (pc := 97) (v := -19) (dd dtX3_readOne 48 rfl) (by decide) k) ?_
          obtain ⟨_, I99, ⟨rfl, R99⟩, k99⟩ := q_add R90
          refine BdQ.l (fun _ _ k => b_invV (pc := 99) (dd dtX3_readOne 49 rfl) mlX3_58 mvX8_add miX8_add (k99) oC_74 rfl rfl (by omega) (Nat.le_of_ble_eq_true rfl) k) ?_
          refine BdQ.l (fun _ _ k => b_goto (pc := 102) (tgt := 143) (dd dtX3_readOne 50 rfl) (by decide) k) ?_
          refine ⟨_, _, ?_, b_vret (dd dtX3_readOne 71 rfl) rfl⟩
          refine ⟨rfl, ?_⟩
          unfold rOne
          first
          | (rw [if_pos (tk.symm.trans h5)]; exact R27)
          | (rw [if_neg (fun q => h5 (tk.trans q)), if_pos (tk.symm.trans h38)]; exact R62)
          | (rw [if_neg (fun q => h5 (tk.trans q)), if_neg (fun q => h38 (tk.trans q)), if_pos ⟨tk.symm.trans h74, hcan.mpr h79⟩]; exact R99)
          | (rw [if_neg (fun q => h5 (tk.trans q)), if_neg (fun q => h38 (tk.trans q)), if_neg (fun q => by first | exact h74 (tk.trans q.1) | exact h79 (hcan.mp q.2)), if_pos ⟨tk.symm.trans h111, hcan.mpr h116⟩]; exact R133)
          | (rw [if_neg (fun q => h5 (tk.trans q)), if_neg (fun q => h38 (tk.trans q)), if_neg (fun q => by first | exact h74 (tk.trans q.1) | exact h79 (hcan.mp q.2)), if_neg (fun q => by first | exact h111 (tk.trans q.1) | exact h116 (hcan.mp q.2))]; exact R140)
    · refine BdQ.l (fun _ _ k => b_aload_n (pc := 41) (i := 0) (dd dtX3_readOne 19 rfl) rfl rfl k) ?_
      refine BdQ.l (fun _ _ k => b_geta (pc := 42) (dd dtX3_readOne 20 rfl) fwX3_12 pC_73 rC_73_0 k) ?_
      refine BdQ.l (fun _ _ k => b_icm1 (pc := 45) (dd dtX3_readOne 21 rfl) k) ?_
      refine BdQ.l (fun _ _ k => b_aload_n (pc := 46) (i := 0) (dd dtX3_readOne 22 rfl) rfl rfl k) ?_
      refine BdQ.l (fun _ _ k => b_geta (pc := 47) (dd dtX3_readOne 23 rfl) fwX3_30 pC_73 rC_73_1 k) ?_
      refine BdQ.l (fun _ _ k => b_aload_n (pc := 50) (i := 0) (dd dtX3_readOne 24 rfl) rfl rfl k) ?_
      refine BdQ.l (fun _ _ k => b_geti (pc := 51) (dd dtX3_readOne 25 rfl) fwX3_18 pC_73 k) ?_
      obtain ⟨t, c, rfl, hnx⟩ := R_num' hB hR (by rw [← tk, h38]; decide) (by rw [← tk, h38]; decide)
      refine BdQ.l (fun _ _ k => b_invV (pc := 54) (dd dtX3_readOne 26 rfl) mlX3_73 mvX7_numberAt miX7_numberAt (c_X7_numberAt (t := t) (T := T) hnx.1 hnx.2.1 hnx.2.2.1 hB.2.1) oC_67 rfl rfl (by omega) (Nat.le_of_ble_eq_true rfl) k) ?_
      refine BdQ.l (fun _ _ k => b_isub (pc := 57) (dd dtX3_readOne 27 rfl) k) ?_
      rw [if_pos hnx.2.2.2.1, hnx.2.2.2.2]
      obtain ⟨_, I58, ⟨rfl, R58⟩, k58⟩ := q_add hR
      refine BdQ.l (fun _ _ k => b_invV (pc := 58) (dd dtX3_readOne 28 rfl) mlX3_58 mvX8_add miX8_add (k58) oC_74 rfl rfl (by omega) (Nat.le_of_ble_eq_true rfl) k) ?_
      refine BdQ.l (fun _ _ k => b_aload_n (pc := 61) (i := 0) (dd dtX3_readOne 29 rfl) rfl rfl k) ?_
      obtain ⟨_, I62, ⟨rfl, R62⟩, k62⟩ := q_adv hB R58 (by rw [sAdd_tok, ← tk, h38]; decide) (by rw [sAdd_tok, ← tk, h38]; decide)
      refine BdQ.l (fun _ _ k => b_invV (pc := 62) (dd dtX3_readOne 30 rfl) mlX3_55 mvX3_advance miX3_advance (k62) oC_73 rfl rfl (by omega) (Nat.le_of_ble_eq_true rfl) k) ?_
      refine BdQ.l (fun _ _ k => b_goto (pc := 65) (tgt := 143) (dd dtX3_readOne 31 rfl) (by decide) k) ?_
      refine ⟨_, _, ?_, b_vret (dd dtX3_readOne 71 rfl) rfl⟩
      refine ⟨rfl, ?_⟩
      unfold rOne
      first
      | (rw [if_pos (tk.symm.trans h5)]; exact R27)
      | (rw [if_neg (fun q => h5 (tk.trans q)), if_pos (tk.symm.trans h38)]; exact R62)
      | (rw [if_neg (fun q => h5 (tk.trans q)), if_neg (fun q => h38 (tk.trans q)), if_pos ⟨tk.symm.trans h74, hcan.mpr h79⟩]; exact R99)
      | (rw [if_neg (fun q => h5 (tk.trans q)), if_neg (fun q => h38 (tk.trans q)), if_neg (fun q => by first | exact h74 (tk.trans q.1) | exact h79 (hcan.mp q.2)), if_pos ⟨tk.symm.trans h111, hcan.mpr h116⟩]; exact R133)
      | (rw [if_neg (fun q => h5 (tk.trans q)), if_neg (fun q => h38 (tk.trans q)), if_neg (fun q => by first | exact h74 (tk.trans q.1) | exact h79 (hcan.mp q.2)), if_neg (fun q => by first | exact h111 (tk.trans q.1) | exact h116 (hcan.mp q.2))]; exact R140)
  · refine BdQ.l (fun _ _ k => b_aload_n (pc := 8) (i := 0) (dd dtX3_readOne 4 rfl) rfl rfl k) ?_
    refine BdQ.l (fun _ _ k => b_geta (pc := 9) (dd dtX3_readOne 5 rfl) fwX3_12 pC_73 rC_73_0 k) ?_
    refine BdQ.l (fun _ _ k => b_aload_n (pc := 12) (i := 0) (dd dtX3_readOne 6 rfl) rfl rfl k) ?_
    refine BdQ.l (fun _ _ k => b_geta (pc := 13) (dd dtX3_readOne 7 rfl) fwX3_30 pC_73 rC_73_1 k) ?_
    refine BdQ.l (fun _ _ k => b_aload_n (pc := 16) (i := 0) (dd dtX3_readOne 8 rfl) rfl rfl k) ?_
    refine BdQ.l (fun _ _ k => b_geti (pc := 17) (dd dtX3_readOne 9 rfl) fwX3_18 pC_73 k) ?_
    obtain ⟨t, c, rfl, hnx⟩ := R_num' hB hR (by rw [← tk, h5]; decide) (by rw [← tk, h5]; decide)
    refine BdQ.l (fun _ _ k => b_invV (pc := 20) (dd dtX3_readOne 10 rfl) mlX3_73 mvX7_numberAt miX7_numberAt (c_X7_numberAt (t := t) (T := T) hnx.1 hnx.2.1 hnx.2.2.1 hB.2.1) oC_67 rfl rfl (by omega) (Nat.le_of_ble_eq_true rfl) k) ?_
    rw [if_pos hnx.2.2.2.1, hnx.2.2.2.2]
    obtain ⟨_, I23, ⟨rfl, R23⟩, k23⟩ := q_add hR
    refine BdQ.l (fun _ _ k => b_invV (pc := 23) (dd dtX3_readOne 11 rfl) mlX3_58 mvX8_add miX8_add (k23) oC_74 rfl rfl (by omega) (Nat.le_of_ble_eq_true rfl) k) ?_
    refine BdQ.l (fun _ _ k => b_aload_n (pc := 26) (i := 0) (dd dtX3_readOne 12 rfl) rfl rfl k) ?_
    obtain ⟨_, I27, ⟨rfl, R27⟩, k27⟩ := q_adv hB R23 (by rw [sAdd_tok, ← tk, h5]; decide) (by rw [sAdd_tok, ← tk, h5]; decide)
    refine BdQ.l (fun _ _ k => b_invV (pc := 27) (dd dtX3_readOne 13 rfl) mlX3_55 mvX3_advance miX3_advance (k27) oC_73 rfl rfl (by omega) (Nat.le_of_ble_eq_true rfl) k) ?_
    refine BdQ.l (fun _ _ k => b_goto (pc := 30) (tgt := 143) (dd dtX3_readOne 14 rfl) (by decide) k) ?_
    refine ⟨_, _, ?_, b_vret (dd dtX3_readOne 71 rfl) rfl⟩
    refine ⟨rfl, ?_⟩
    unfold rOne
    first
    | (rw [if_pos (tk.symm.trans h5)]; exact R27)
    | (rw [if_neg (fun q => h5 (tk.trans q)), if_pos (tk.symm.trans h38)]; exact R62)
    | (rw [if_neg (fun q => h5 (tk.trans q)), if_neg (fun q => h38 (tk.trans q)), if_pos ⟨tk.symm.trans h74, hcan.mpr h79⟩]; exact R99)
    | (rw [if_neg (fun q => h5 (tk.trans q)), if_neg (fun q => h38 (tk.trans q)), if_neg (fun q => by first | exact h74 (tk.trans q.1) | exact h79 (hcan.mp q.2)), if_pos ⟨tk.symm.trans h111, hcan.mpr h116⟩]; exact R133)
    | (rw [if_neg (fun q => h5 (tk.trans q)), if_neg (fun q => h38 (tk.trans q)), if_neg (fun q => by first | exact h74 (tk.trans q.1) | exact h79 (hcan.mp q.2)), if_neg (fun q => by first | exact h111 (tk.trans q.1) | exact h116 (hcan.mp q.2))]; exact R140)
def tX3_readTerm : List (Nat × Instr × Nat) := [(0, .aload_n 0, 1), (1, .iload_n 1, 1), (2, .invokevirtual 70, 3), (5, .iconst 0, 1), (6, .istore_n 2, 1), (7, .iload_n 2, 1), (8, .sipush 160, 3), (11, .if_icmp .ge 36, 3), (14, .aload_n 0, 1), (15, .getfield 24, 3), (18, .bipush 42, 2), (20, .if_icmp .ne 27, 3), (23, .aload_n 0, 1), (24, .invokevirtual 55, 3), (27, .aload_n 0, 1), (28, .iload_n 1, 1), (29, .invokevirtual 70, 3), (32, .aload_n 0, 1), (33, .getfield 12, 3), (36, .bipush (-18), 2), (38, .invokevirtual 58, 3), (41, .iinc 2 1, 3), (44, .goto (-37), 3), (47, .return_, 1)]
theorem dtX3_readTerm : dec_ok mX3_readTerm.2.1 tX3_readTerm = true := by decide +kernel
set_option maxHeartbeats 4000000 in
theorem lr_term {B : Wd} {T : Nat} (hB : TB B T) {o : Int32} {d d1 : Nat} {sub : St → St} (h1 : QC mX3_readOne d1 B T o sub) (hd : 1 < d) (hd1 : d1 < d) : ∀ (n j : Nat) (x2 : Int32) (I : Wd) (s : St), j + n = 160 → x2 = nI j → RdW B T I s → BdQ SyC mX3_readTerm d 7 [(2, .int x2), (0, .ref 73), (1, .int o)] [] I (fun r I' => r = none ∧ RdW B T I' (rLoop (B 71) T isMul sub n s)) := by
  intro n
  induction n with
  | zero =>
    intro j x2 I s hj e2 hR
    subst e2
    refine BdQ.l (fun _ _ k => b_iload_n (pc := 7) (i := 2) (dd dtX3_readTerm 5 rfl) rfl rfl k) ?_
    refine BdQ.l (fun _ _ k => b_sipush (pc := 8) (v := 160) (dd dtX3_readTerm 6 rfl) (by decide) k) ?_
    refine BdQ.c (fun _ _ k1 k2 => b_icmpL_ge (pc := 11) (tgt := 47) (dd dtX3_readTerm 7 rfl) (by decide) k1 k2) (fun h11 => ?_) (fun h11 => ?_)
    · refine ⟨_, _, ?_, b_vret (dd dtX3_readTerm 23 rfl) rfl⟩
      exact ⟨rfl, hR⟩
    · exact absurd h11 (by rw [show j = 160 by omega]; decide)
  | succ n ih =>
    intro j x2 I s hj e2 hR
    subst e2
    have tk := hR.tok
    by_cases e : I 73 3 = 42
    · refine BdQ.l (fun _ _ k => b_iload_n (pc := 7) (i := 2) (dd dtX3_readTerm 5 rfl) rfl rfl k) ?_
      refine BdQ.l (fun _ _ k => b_sipush (pc := 8) (v := 160) (dd dtX3_readTerm 6 rfl) (by decide) k) ?_
      refine BdQ.c (fun _ _ k1 k2 => b_icmpL_ge (pc := 11) (tgt := 47) (dd dtX3_readTerm 7 rfl) (by decide) k1 k2) (fun h11 => ?_) (fun h11 => ?_)
      · exact absurd (nI_lt (show j < 160 by omega) (by decide)) h11
      · refine BdQ.l (fun _ _ k => b_aload_n (pc := 14) (i := 0) (dd dtX3_readTerm 8 rfl) rfl rfl k) ?_
        refine BdQ.l (fun _ _ k => b_geti (pc := 15) (dd dtX3_readTerm 9 rfl) fwX3_24 pC_73 k) ?_
        refine BdQ.l (fun _ _ k => b_bipush (pc := 18) (v := 42) (dd dtX3_readTerm 10 rfl) (by decide) k) ?_
        refine BdQ.c (fun _ _ k1 k2 => b_icmp_ne (pc := 20) (tgt := 47) (dd dtX3_readTerm 11 rfl) (by decide) k1 k2) (fun h20 => ?_) (fun h20 => ?_)
        · exact absurd e h20
        · refine BdQ.l (fun _ _ k => b_aload_n (pc := 23) (i := 0) (dd dtX3_readTerm 12 rfl) rfl rfl k) ?_
          obtain ⟨_, I24, ⟨rfl, R24⟩, k24⟩ := q_adv hB hR (by rw [← tk, e]; decide) (by rw [← tk, e]; decide)
          refine BdQ.l (fun _ _ k => b_invV (pc := 24) (dd dtX3_readTerm 13 rfl) mlX3_55 mvX3_advance miX3_advance (k24) oC_73 rfl rfl (by omega) (Nat.le_of_ble_eq_true rfl) k) ?_
          refine BdQ.l (fun _ _ k => b_aload_n (pc := 27) (i := 0) (dd dtX3_readTerm 14 rfl) rfl rfl k) ?_
          refine BdQ.l (fun _ _ k => b_iload_n (pc := 28) (i := 1) (dd dtX3_readTerm 15 rfl) rfl rfl k) ?_
          obtain ⟨_, I29, ⟨rfl, R29⟩, k29⟩ := h1 _ _ R24
          refine BdQ.l (fun _ _ k => b_invV (pc := 29) (dd dtX3_readTerm 16 rfl) mlX3_70 mvX3_readOne miX3_readOne (k29) oC_73 rfl rfl (by omega) (Nat.le_of_ble_eq_true rfl) k) ?_
          refine BdQ.l (fun _ _ k => b_aload_n (pc := 32) (i := 0) (dd dtX3_readTerm 17 rfl) rfl rfl k) ?_
          refine BdQ.l (fun _ _ k => b_geta (pc := 33) (dd dtX3_readTerm 18 rfl) fwX3_12 pC_73 rC_73_0 k) ?_
          refine BdQ.l (fun _ _ k => b_bipush (pc := 36) (v := -18) (dd dtX3_readTerm 19 rfl) (by decide) k) ?_
          obtain ⟨_, I38, ⟨rfl, R38⟩, k38⟩ := q_add R29
          refine BdQ.l (fun _ _ k => b_invV (pc := 38) (dd dtX3_readTerm 20 rfl) mlX3_58 mvX8_add miX8_add (k38) oC_74 rfl rfl (by omega) (Nat.le_of_ble_eq_true rfl) k) ?_
          refine BdQ.l (fun _ _ k => b_iinc1 (pc := 41) (i := 2) (lv' := [(2, _), (0, _), (1, _)]) (dd dtX3_readTerm 21 rfl) rfl (Nat.le_of_ble_eq_true rfl) rfl k) ?_
          refine BdQ.l (fun _ _ k => b_goto (pc := 44) (tgt := 7) (dd dtX3_readTerm 22 rfl) (by decide) k) ?_
          rw [nI_1]
          rw [rLoop_s (show isMul (sTok (B 71) T s) = some (-18) from by rw [← tk]; exact if_pos e)]
          exact ih (j + 1) _ _ _ (by omega) rfl R38
    · refine BdQ.l (fun _ _ k => b_iload_n (pc := 7) (i := 2) (dd dtX3_readTerm 5 rfl) rfl rfl k) ?_
      refine BdQ.l (fun _ _ k => b_sipush (pc := 8) (v := 160) (dd dtX3_readTerm 6 rfl) (by decide) k) ?_
      refine BdQ.c (fun _ _ k1 k2 => b_icmpL_ge (pc := 11) (tgt := 47) (dd dtX3_readTerm 7 rfl) (by decide) k1 k2) (fun h11 => ?_) (fun h11 => ?_)
      · exact absurd (nI_lt (show j < 160 by omega) (by decide)) h11
      · refine BdQ.l (fun _ _ k => b_aload_n (pc := 14) (i := 0) (dd dtX3_readTerm 8 rfl) rfl rfl k) ?_
        refine BdQ.l (fun _ _ k => b_geti (pc := 15) (dd dtX3_readTerm 9 rfl) fwX3_24 pC_73 k) ?_
        refine BdQ.l (fun _ _ k => b_bipush (pc := 18) (v := 42) (dd dtX3_readTerm 10 rfl) (by decide) k) ?_
        refine BdQ.c (fun _ _ k1 k2 => b_icmp_ne (pc := 20) (tgt := 47) (dd dtX3_readTerm 11 rfl) (by decide) k1 k2) (fun h20 => ?_) (fun h20 => ?_)
        · refine ⟨_, _, ?_, b_vret (dd dtX3_readTerm 23 rfl) rfl⟩
          refine ⟨rfl, ?_⟩
          rw [rLoop_n (show isMul (sTok (B 71) T s) = none from by rw [← tk]; exact if_neg e)]
          exact hR
        · exact absurd h20 e
def tX3_readAnd : List (Nat × Instr × Nat) := [(0, .aload_n 0, 1), (1, .iload_n 1, 1), (2, .invokevirtual 61, 3), (5, .iconst 0, 1), (6, .istore_n 2, 1), (7, .iload_n 2, 1), (8, .sipush 160, 3), (11, .if_icmp .ge 37, 3), (14, .aload_n 0, 1), (15, .getfield 24, 3), (18, .sipush 304, 3), (21, .if_icmp .ne 27, 3), (24, .aload_n 0, 1), (25, .invokevirtual 55, 3), (28, .aload_n 0, 1), (29, .iload_n 1, 1), (30, .invokevirtual 61, 3), (33, .aload_n 0, 1), (34, .getfield 12, 3), (37, .bipush (-12), 2), (39, .invokevirtual 58, 3), (42, .iinc 2 1, 3), (45, .goto (-38), 3), (48, .return_, 1)]
theorem dtX3_readAnd : dec_ok mX3_readAnd.2.1 tX3_readAnd = true := by decide +kernel
set_option maxHeartbeats 4000000 in
theorem lr_and {B : Wd} {T : Nat} (hB : TB B T) {o : Int32} {d d1 : Nat} {sub : St → St} (h1 : QC mX3_readNot d1 B T o sub) (hd : 1 < d) (hd1 : d1 < d) : ∀ (n j : Nat) (x2 : Int32) (I : Wd) (s : St), j + n = 160 → x2 = nI j → RdW B T I s → BdQ SyC mX3_readAnd d 7 [(2, .int x2), (0, .ref 73), (1, .int o)] [] I (fun r I' => r = none ∧ RdW B T I' (rLoop (B 71) T isAnd sub n s)) := by
  intro n
  induction n with
  | zero =>
    intro j x2 I s hj e2 hR
    subst e2
    refine BdQ.l (fun _ _ k => b_iload_n (pc := 7) (i := 2) (dd dtX3_readAnd 5 rfl) rfl rfl k) ?_
    refine BdQ.l (fun _ _ k => b_sipush (pc := 8) (v := 160) (dd dtX3_readAnd 6 rfl) (by decide) k) ?_
    refine BdQ.c (fun _ _ k1 k2 => b_icmpL_ge (pc := 11) (tgt := 48) (dd dtX3_readAnd 7 rfl) (by decide) k1 k2) (fun h11 => ?_) (fun h11 => ?_)
    · refine ⟨_, _, ?_, b_vret (dd dtX3_readAnd 23 rfl) rfl⟩
      exact ⟨rfl, hR⟩
    · exact absurd h11 (by rw [show j = 160 by omega]; decide)
  | succ n ih =>
    intro j x2 I s hj e2 hR
    subst e2
    have tk := hR.tok
    by_cases e : I 73 3 = 304
    · refine BdQ.l (fun _ _ k => b_iload_n (pc := 7) (i := 2) (dd dtX3_readAnd 5 rfl) rfl rfl k) ?_
      refine BdQ.l (fun _ _ k => b_sipush (pc := 8) (v := 160) (dd dtX3_readAnd 6 rfl) (by decide) k) ?_
      refine BdQ.c (fun _ _ k1 k2 => b_icmpL_ge (pc := 11) (tgt := 48) (dd dtX3_readAnd 7 rfl) (by decide) k1 k2) (fun h11 => ?_) (fun h11 => ?_)
      · exact absurd (nI_lt (show j < 160 by omega) (by decide)) h11
      · refine BdQ.l (fun _ _ k => b_aload_n (pc := 14) (i := 0) (dd dtX3_readAnd 8 rfl) rfl rfl k) ?_
        refine BdQ.l (fun _ _ k => b_geti (pc := 15) (dd dtX3_readAnd 9 rfl) fwX3_24 pC_73 k) ?_
        refine BdQ.l (fun _ _ k => b_sipush (pc := 18) (v := 304) (dd dtX3_readAnd 10 rfl) (by decide) k) ?_
        refine BdQ.c (fun _ _ k1 k2 => b_icmp_ne (pc := 21) (tgt := 48) (dd dtX3_readAnd 11 rfl) (by decide) k1 k2) (fun h21 => ?_) (fun h21 => ?_)
        · exact absurd e h21
        · refine BdQ.l (fun _ _ k => b_aload_n (pc := 24) (i := 0) (dd dtX3_readAnd 12 rfl) rfl rfl k) ?_
          obtain ⟨_, I25, ⟨rfl, R25⟩, k25⟩ := q_adv hB hR (by rw [← tk, e]; decide) (by rw [← tk, e]; decide)
          refine BdQ.l (fun _ _ k => b_invV (pc := 25) (dd dtX3_readAnd 13 rfl) mlX3_55 mvX3_advance miX3_advance (k25) oC_73 rfl rfl (by omega) (Nat.le_of_ble_eq_true rfl) k) ?_
          refine BdQ.l (fun _ _ k => b_aload_n (pc := 28) (i := 0) (dd dtX3_readAnd 14 rfl) rfl rfl k) ?_
          refine BdQ.l (fun _ _ k => b_iload_n (pc := 29) (i := 1) (dd dtX3_readAnd 15 rfl) rfl rfl k) ?_
          obtain ⟨_, I30, ⟨rfl, R30⟩, k30⟩ := h1 _ _ R25
          refine BdQ.l (fun _ _ k => b_invV (pc := 30) (dd dtX3_readAnd 16 rfl) mlX3_61 mvX3_readNot miX3_readNot (k30) oC_73 rfl rfl (by omega) (Nat.le_of_ble_eq_true rfl) k) ?_
          refine BdQ.l (fun _ _ k => b_aload_n (pc := 33) (i := 0) (dd dtX3_readAnd 17 rfl) rfl rfl k) ?_
          refine BdQ.l (fun _ _ k => b_geta (pc := 34) (dd dtX3_readAnd 18 rfl) fwX3_12 pC_73 rC_73_0 k) ?_
          refine BdQ.l (fun _ _ k => b_bipush (pc := 37) (v := -12) (dd dtX3_readAnd 19 rfl) (by decide) k) ?_
          obtain ⟨_, I39, ⟨rfl, R39⟩, k39⟩ := q_add R30
          refine BdQ.l (fun _ _ k => b_invV (pc := 39) (dd dtX3_readAnd 20 rfl) mlX3_58 mvX8_add miX8_add (k39) oC_74 rfl rfl (by omega) (Nat.le_of_ble_eq_true rfl) k) ?_
          refine BdQ.l (fun _ _ k => b_iinc1 (pc := 42) (i := 2) (lv' := [(2, _), (0, _), (1, _)]) (dd dtX3_readAnd 21 rfl) rfl (Nat.le_of_ble_eq_true rfl) rfl k) ?_
          refine BdQ.l (fun _ _ k => b_goto (pc := 45) (tgt := 7) (dd dtX3_readAnd 22 rfl) (by decide) k) ?_
          rw [nI_1]
          rw [rLoop_s (show isAnd (sTok (B 71) T s) = some (-12) from by rw [← tk]; exact if_pos e)]
          exact ih (j + 1) _ _ _ (by omega) rfl R39
    · refine BdQ.l (fun _ _ k => b_iload_n (pc := 7) (i := 2) (dd dtX3_readAnd 5 rfl) rfl rfl k) ?_
      refine BdQ.l (fun _ _ k => b_sipush (pc := 8) (v := 160) (dd dtX3_readAnd 6 rfl) (by decide) k) ?_
      refine BdQ.c (fun _ _ k1 k2 => b_icmpL_ge (pc := 11) (tgt := 48) (dd dtX3_readAnd 7 rfl) (by decide) k1 k2) (fun h11 => ?_) (fun h11 => ?_)
      · exact absurd (nI_lt (show j < 160 by omega) (by decide)) h11
      · refine BdQ.l (fun _ _ k => b_aload_n (pc := 14) (i := 0) (dd dtX3_readAnd 8 rfl) rfl rfl k) ?_
        refine BdQ.l (fun _ _ k => b_geti (pc := 15) (dd dtX3_readAnd 9 rfl) fwX3_24 pC_73 k) ?_
        refine BdQ.l (fun _ _ k => b_sipush (pc := 18) (v := 304) (dd dtX3_readAnd 10 rfl) (by decide) k) ?_
        refine BdQ.c (fun _ _ k1 k2 => b_icmp_ne (pc := 21) (tgt := 48) (dd dtX3_readAnd 11 rfl) (by decide) k1 k2) (fun h21 => ?_) (fun h21 => ?_)
        · refine ⟨_, _, ?_, b_vret (dd dtX3_readAnd 23 rfl) rfl⟩
          refine ⟨rfl, ?_⟩
          rw [rLoop_n (show isAnd (sTok (B 71) T s) = none from by rw [← tk]; exact if_neg e)]
          exact hR
        · exact absurd h21 e
def tX3_readOr : List (Nat × Instr × Nat) := [(0, .aload_n 0, 1), (1, .iload_n 1, 1), (2, .invokevirtual 52, 3), (5, .iconst 0, 1), (6, .istore_n 2, 1), (7, .iload_n 2, 1), (8, .sipush 160, 3), (11, .if_icmp .ge 37, 3), (14, .aload_n 0, 1), (15, .getfield 24, 3), (18, .sipush 303, 3), (21, .if_icmp .ne 27, 3), (24, .aload_n 0, 1), (25, .invokevirtual 55, 3), (28, .aload_n 0, 1), (29, .iload_n 1, 1), (30, .invokevirtual 52, 3), (33, .aload_n 0, 1), (34, .getfield 12, 3), (37, .bipush (-11), 2), (39, .invokevirtual 58, 3), (42, .iinc 2 1, 3), (45, .goto (-38), 3), (48, .return_, 1)]
theorem dtX3_readOr : dec_ok mX3_readOr.2.1 tX3_readOr = true := by decide +kernel
set_option maxHeartbeats 4000000 in
theorem lr_or {B : Wd} {T : Nat} (hB : TB B T) {o : Int32} {d d1 : Nat} {sub : St → St} (h1 : QC mX3_readAnd d1 B T o sub) (hd : 1 < d) (hd1 : d1 < d) : ∀ (n j : Nat) (x2 : Int32) (I : Wd) (s : St), j + n = 160 → x2 = nI j → RdW B T I s → BdQ SyC mX3_readOr d 7 [(2, .int x2), (0, .ref 73), (1, .int o)] [] I (fun r I' => r = none ∧ RdW B T I' (rLoop (B 71) T isOr sub n s)) := by
  intro n
  induction n with
  | zero =>
    intro j x2 I s hj e2 hR
    subst e2
    refine BdQ.l (fun _ _ k => b_iload_n (pc := 7) (i := 2) (dd dtX3_readOr 5 rfl) rfl rfl k) ?_
    refine BdQ.l (fun _ _ k => b_sipush (pc := 8) (v := 160) (dd dtX3_readOr 6 rfl) (by decide) k) ?_
    refine BdQ.c (fun _ _ k1 k2 => b_icmpL_ge (pc := 11) (tgt := 48) (dd dtX3_readOr 7 rfl) (by decide) k1 k2) (fun h11 => ?_) (fun h11 => ?_)
    · refine ⟨_, _, ?_, b_vret (dd dtX3_readOr 23 rfl) rfl⟩
      exact ⟨rfl, hR⟩
    · exact absurd h11 (by rw [show j = 160 by omega]; decide)
  | succ n ih =>
    intro j x2 I s hj e2 hR
    subst e2
    have tk := hR.tok
    by_cases e : I 73 3 = 303
    · refine BdQ.l (fun _ _ k => b_iload_n (pc := 7) (i := 2) (dd dtX3_readOr 5 rfl) rfl rfl k) ?_
      refine BdQ.l (fun _ _ k => b_sipush (pc := 8) (v := 160) (dd dtX3_readOr 6 rfl) (by decide) k) ?_
      refine BdQ.c (fun _ _ k1 k2 => b_icmpL_ge (pc := 11) (tgt := 48) (dd dtX3_readOr 7 rfl) (by decide) k1 k2) (fun h11 => ?_) (fun h11 => ?_)
      · exact absurd (nI_lt (show j < 160 by omega) (by decide)) h11
      · refine BdQ.l (fun _ _ k => b_aload_n (pc := 14) (i := 0) (dd dtX3_readOr 8 rfl) rfl rfl k) ?_
        refine BdQ.l (fun _ _ k => b_geti (pc := 15) (dd dtX3_readOr 9 rfl) fwX3_24 pC_73 k) ?_
        refine BdQ.l (fun _ _ k => b_sipush (pc := 18) (v := 303) (dd dtX3_readOr 10 rfl) (by decide) k) ?_
        refine BdQ.c (fun _ _ k1 k2 => b_icmp_ne (pc := 21) (tgt := 48) (dd dtX3_readOr 11 rfl) (by decide) k1 k2) (fun h21 => ?_) (fun h21 => ?_)
        · exact absurd e h21
        · refine BdQ.l (fun _ _ k => b_aload_n (pc := 24) (i := 0) (dd dtX3_readOr 12 rfl) rfl rfl k) ?_
          obtain ⟨_, I25, ⟨rfl, R25⟩, k25⟩ := q_adv hB hR (by rw [← tk, e]; decide) (by rw [← tk, e]; decide)
          refine BdQ.l (fun _ _ k => b_invV (pc := 25) (dd dtX3_readOr 13 rfl) mlX3_55 mvX3_advance miX3_advance (k25) oC_73 rfl rfl (by omega) (Nat.le_of_ble_eq_true rfl) k) ?_
          refine BdQ.l (fun _ _ k => b_aload_n (pc := 28) (i := 0) (dd dtX3_readOr 14 rfl) rfl rfl k) ?_
          refine BdQ.l (fun _ _ k => b_iload_n (pc := 29) (i := 1) (dd dtX3_readOr 15 rfl) rfl rfl k) ?_
          obtain ⟨_, I30, ⟨rfl, R30⟩, k30⟩ := h1 _ _ R25
          refine BdQ.l (fun _ _ k => b_invV (pc := 30) (dd dtX3_readOr 16 rfl) mlX3_52 mvX3_readAnd miX3_readAnd (k30) oC_73 rfl rfl (by omega) (Nat.le_of_ble_eq_true rfl) k) ?_
          refine BdQ.l (fun _ _ k => b_aload_n (pc := 33) (i := 0) (dd dtX3_readOr 17 rfl) rfl rfl k) ?_
          refine BdQ.l (fun _ _ k => b_geta (pc := 34) (dd dtX3_readOr 18 rfl) fwX3_12 pC_73 rC_73_0 k) ?_
          refine BdQ.l (fun _ _ k => b_bipush (pc := 37) (v := -11) (dd dtX3_readOr 19 rfl) (by decide) k) ?_
          obtain ⟨_, I39, ⟨rfl, R39⟩, k39⟩ := q_add R30
          refine BdQ.l (fun _ _ k => b_invV (pc := 39) (dd dtX3_readOr 20 rfl) mlX3_58 mvX8_add miX8_add (k39) oC_74 rfl rfl (by omega) (Nat.le_of_ble_eq_true rfl) k) ?_
          refine BdQ.l (fun _ _ k => b_iinc1 (pc := 42) (i := 2) (lv' := [(2, _), (0, _), (1, _)]) (dd dtX3_readOr 21 rfl) rfl (Nat.le_of_ble_eq_true rfl) rfl k) ?_
          refine BdQ.l (fun _ _ k => b_goto (pc := 45) (tgt := 7) (dd dtX3_readOr 22 rfl) (by decide) k) ?_
          rw [nI_1]
          rw [rLoop_s (show isOr (sTok (B 71) T s) = some (-11) from by rw [← tk]; exact if_pos e)]
          exact ih (j + 1) _ _ _ (by omega) rfl R39
    · refine BdQ.l (fun _ _ k => b_iload_n (pc := 7) (i := 2) (dd dtX3_readOr 5 rfl) rfl rfl k) ?_
      refine BdQ.l (fun _ _ k => b_sipush (pc := 8) (v := 160) (dd dtX3_readOr 6 rfl) (by decide) k) ?_
      refine BdQ.c (fun _ _ k1 k2 => b_icmpL_ge (pc := 11) (tgt := 48) (dd dtX3_readOr 7 rfl) (by decide) k1 k2) (fun h11 => ?_) (fun h11 => ?_)
      · exact absurd (nI_lt (show j < 160 by omega) (by decide)) h11
      · refine BdQ.l (fun _ _ k => b_aload_n (pc := 14) (i := 0) (dd dtX3_readOr 8 rfl) rfl rfl k) ?_
        refine BdQ.l (fun _ _ k => b_geti (pc := 15) (dd dtX3_readOr 9 rfl) fwX3_24 pC_73 k) ?_
        refine BdQ.l (fun _ _ k => b_sipush (pc := 18) (v := 303) (dd dtX3_readOr 10 rfl) (by decide) k) ?_
        refine BdQ.c (fun _ _ k1 k2 => b_icmp_ne (pc := 21) (tgt := 48) (dd dtX3_readOr 11 rfl) (by decide) k1 k2) (fun h21 => ?_) (fun h21 => ?_)
        · refine ⟨_, _, ?_, b_vret (dd dtX3_readOr 23 rfl) rfl⟩
          refine ⟨rfl, ?_⟩
          rw [rLoop_n (show isOr (sTok (B 71) T s) = none from by rw [← tk]; exact if_neg e)]
          exact hR
        · exact absurd h21 e
def tX3_readSum : List (Nat × Instr × Nat) := [(0, .aload_n 0, 1), (1, .iload_n 1, 1), (2, .invokevirtual 67, 3), (5, .iconst 0, 1), (6, .istore_n 2, 1), (7, .iload_n 2, 1), (8, .sipush 160, 3), (11, .if_icmp .ge 61, 3), (14, .aload_n 0, 1), (15, .getfield 24, 3), (18, .bipush 43, 2), (20, .if_icmp .eq 12, 3), (23, .aload_n 0, 1), (24, .getfield 24, 3), (27, .bipush 45, 2), (29, .if_icmp .ne 43, 3), (32, .aload_n 0, 1), (33, .getfield 24, 3), (36, .bipush 43, 2), (38, .if_icmp .ne 8, 3), (41, .bipush (-16), 2), (43, .goto 5, 3), (46, .bipush (-17), 2), (48, .istore_n 3, 1), (49, .aload_n 0, 1), (50, .invokevirtual 55, 3), (53, .aload_n 0, 1), (54, .iload_n 1, 1), (55, .invokevirtual 67, 3), (58, .aload_n 0, 1), (59, .getfield 12, 3), (62, .iload_n 3, 1), (63, .invokevirtual 58, 3), (66, .iinc 2 1, 3), (69, .goto (-62), 3), (72, .return_, 1)]
theorem dtX3_readSum : dec_ok mX3_readSum.2.1 tX3_readSum = true := by decide +kernel
set_option maxHeartbeats 4000000 in
theorem lr_sum {B : Wd} {T : Nat} (hB : TB B T) {o : Int32} {d d1 : Nat} {sub : St → St} (h1 : QC mX3_readTerm d1 B T o sub) (hd : 1 < d) (hd1 : d1 < d) : ∀ (n j : Nat) (x2 : Int32) (I : Wd) (s : St), j + n = 160 → x2 = nI j → RdW B T I s → BdQ SyC mX3_readSum d 7 [(2, .int x2), (0, .ref 73), (1, .int o)] [] I (fun r I' => r = none ∧ RdW B T I' (rLoop (B 71) T isSum sub n s)) := by
  intro n
  induction n with
  | zero =>
    intro j x2 I s hj e2 hR
    subst e2
    refine BdQ.l (fun _ _ k => b_iload_n (pc := 7) (i := 2) (dd dtX3_readSum 5 rfl) rfl rfl k) ?_
    refine BdQ.l (fun _ _ k => b_sipush (pc := 8) (v := 160) (dd dtX3_readSum 6 rfl) (by decide) k) ?_
    refine BdQ.c (fun _ _ k1 k2 => b_icmpL_ge (pc := 11) (tgt := 72) (dd dtX3_readSum 7 rfl) (by decide) k1 k2) (fun h11 => ?_) (fun h11 => ?_)
    · refine ⟨_, _, ?_, b_vret (dd dtX3_readSum 35 rfl) rfl⟩
      exact ⟨rfl, hR⟩
    · exact absurd h11 (by rw [show j = 160 by omega]; decide)
  | succ n ih =>
    intro j x2 I s hj e2 hR
    subst e2
    have tk := hR.tok
    rcases (show I 73 3 = 43 ∨ I 73 3 = 45 ∨ (¬ I 73 3 = 43 ∧ ¬ I 73 3 = 45) by by_cases q1 : I 73 3 = 43 <;> by_cases q2 : I 73 3 = 45 <;> simp [q1, q2]) with e | e | e
    · refine BdQ.l (fun _ _ k => b_iload_n (pc := 7) (i := 2) (dd dtX3_readSum 5 rfl) rfl rfl k) ?_
      refine BdQ.l (fun _ _ k => b_sipush (pc := 8) (v := 160) (dd dtX3_readSum 6 rfl) (by decide) k) ?_
      refine BdQ.c (fun _ _ k1 k2 => b_icmpL_ge (pc := 11) (tgt := 72) (dd dtX3_readSum 7 rfl) (by decide) k1 k2) (fun h11 => ?_) (fun h11 => ?_)
      · exact absurd (nI_lt (show j < 160 by omega) (by decide)) h11
      · refine BdQ.l (fun _ _ k => b_aload_n (pc := 14) (i := 0) (dd dtX3_readSum 8 rfl) rfl rfl k) ?_
        refine BdQ.l (fun _ _ k => b_geti (pc := 15) (dd dtX3_readSum 9 rfl) fwX3_24 pC_73 k) ?_
        refine BdQ.l (fun _ _ k => b_bipush (pc := 18) (v := 43) (dd dtX3_readSum 10 rfl) (by decide) k) ?_
        refine BdQ.b (fun _ _ k1 k2 => b_icmp_eq (pc := 20) (tgt := 32) (dd dtX3_readSum 11 rfl) (by decide) k1 k2) (fun h20 => ?_) (fun h20 => ?_)
        · refine BdQ.l (fun _ _ k => b_aload_n (pc := 32) (i := 0) (dd dtX3_readSum 16 rfl) rfl rfl k) ?_
          refine BdQ.l (fun _ _ k => b_geti (pc := 33) (dd dtX3_readSum 17 rfl) fwX3_24 pC_73 k) ?_
          refine BdQ.l (fun _ _ k => b_bipush (pc := 36) (v := 43) (dd dtX3_readSum 18 rfl) (by decide) k) ?_
          refine BdQ.c (fun _ _ k1 k2 => b_icmp_ne (pc := 38) (tgt := 46) (dd dtX3_readSum 19 rfl) (by decide) k1 k2) (fun h38 => ?_) (fun h38 => ?_)
          · exact absurd e h38
          · refine BdQ.l (fun _ _ k => b_bipush (pc := 41) (v := -16) (dd dtX3_readSum 20 rfl) (by decide) k) ?_
            refine BdQ.l (fun _ _ k => b_goto (pc := 43) (tgt := 48) (dd dtX3_readSum 21 rfl) (by decide) k) ?_
            refine BdQ.l (fun _ _ k => b_istore_n (pc := 48) (i := 3) (lv' := [(3, _), (2, _), (0, _), (1, _)]) (dd dtX3_readSum 23 rfl) rfl (Nat.le_of_ble_eq_true rfl) rfl k) ?_
            refine BdQ.l (fun _ _ k => b_aload_n (pc := 49) (i := 0) (dd dtX3_readSum 24 rfl) rfl rfl k) ?_
            obtain ⟨_, I50, ⟨rfl, R50⟩, k50⟩ := q_adv hB hR (by rw [← tk, e]; decide) (by rw [← tk, e]; decide)
            refine BdQ.l (fun _ _ k => b_invV (pc := 50) (dd dtX3_readSum 25 rfl) mlX3_55 mvX3_advance miX3_advance (k50) oC_73 rfl rfl (by omega) (Nat.le_of_ble_eq_true rfl) k) ?_
            refine BdQ.l (fun _ _ k => b_aload_n (pc := 53) (i := 0) (dd dtX3_readSum 26 rfl) rfl rfl k) ?_
            refine BdQ.l (fun _ _ k => b_iload_n (pc := 54) (i := 1) (dd dtX3_readSum 27 rfl) rfl rfl k) ?_
            obtain ⟨_, I55, ⟨rfl, R55⟩, k55⟩ := h1 _ _ R50
            refine BdQ.l (fun _ _ k => b_invV (pc := 55) (dd dtX3_readSum 28 rfl) mlX3_67 mvX3_readTerm miX3_readTerm (k55) oC_73 rfl rfl (by omega) (Nat.le_of_ble_eq_true rfl) k) ?_
            refine BdQ.l (fun _ _ k => b_aload_n (pc := 58) (i := 0) (dd dtX3_readSum 29 rfl) rfl rfl k) ?_
            refine BdQ.l (fun _ _ k => b_geta (pc := 59) (dd dtX3_readSum 30 rfl) fwX3_12 pC_73 rC_73_0 k) ?_
            refine BdQ.l (fun _ _ k => b_iload_n (pc := 62) (i := 3) (dd dtX3_readSum 31 rfl) rfl rfl k) ?_
            obtain ⟨_, I63, ⟨rfl, R63⟩, k63⟩ := q_add R55
            refine BdQ.l (fun _ _ k => b_invV (pc := 63) (dd dtX3_readSum 32 rfl) mlX3_58 mvX8_add miX8_add (k63) oC_74 rfl rfl (by omega) (Nat.le_of_ble_eq_true rfl) k) ?_
            refine BdQ.l (fun _ _ k => b_iinc1 (pc := 66) (i := 2) (lv' := [(2, _), (3, _), (0, _), (1, _)]) (dd dtX3_readSum 33 rfl) rfl (Nat.le_of_ble_eq_true rfl) rfl k) ?_
            refine BdQ.l (fun _ _ k => b_goto (pc := 69) (tgt := 7) (dd dtX3_readSum 34 rfl) (by decide) k) ?_
            refine BdQ.l (fun _ _ k => b_pick [0, 2, 3] (lv' := [(2, _), (0, _), (1, _)]) rfl k) ?_
            rw [nI_1]
            rw [rLoop_s (show isSum (sTok (B 71) T s) = some (-16) from by rw [← tk]; exact if_pos e)]
            exact ih (j + 1) _ _ _ (by omega) rfl R63
        · exact absurd e h20
    · refine BdQ.l (fun _ _ k => b_iload_n (pc := 7) (i := 2) (dd dtX3_readSum 5 rfl) rfl rfl k) ?_
      refine BdQ.l (fun _ _ k => b_sipush (pc := 8) (v := 160) (dd dtX3_readSum 6 rfl) (by decide) k) ?_
      refine BdQ.c (fun _ _ k1 k2 => b_icmpL_ge (pc := 11) (tgt := 72) (dd dtX3_readSum 7 rfl) (by decide) k1 k2) (fun h11 => ?_) (fun h11 => ?_)
      · exact absurd (nI_lt (show j < 160 by omega) (by decide)) h11
      · refine BdQ.l (fun _ _ k => b_aload_n (pc := 14) (i := 0) (dd dtX3_readSum 8 rfl) rfl rfl k) ?_
        refine BdQ.l (fun _ _ k => b_geti (pc := 15) (dd dtX3_readSum 9 rfl) fwX3_24 pC_73 k) ?_
        refine BdQ.l (fun _ _ k => b_bipush (pc := 18) (v := 43) (dd dtX3_readSum 10 rfl) (by decide) k) ?_
        refine BdQ.b (fun _ _ k1 k2 => b_icmp_eq (pc := 20) (tgt := 32) (dd dtX3_readSum 11 rfl) (by decide) k1 k2) (fun h20 => ?_) (fun h20 => ?_)
        · exact absurd (h20.symm.trans e) (by decide)
        · refine BdQ.l (fun _ _ k => b_aload_n (pc := 23) (i := 0) (dd dtX3_readSum 12 rfl) rfl rfl k) ?_
          refine BdQ.l (fun _ _ k => b_geti (pc := 24) (dd dtX3_readSum 13 rfl) fwX3_24 pC_73 k) ?_
          refine BdQ.l (fun _ _ k => b_bipush (pc := 27) (v := 45) (dd dtX3_readSum 14 rfl) (by decide) k) ?_
          refine BdQ.c (fun _ _ k1 k2 => b_icmp_ne (pc := 29) (tgt := 72) (dd dtX3_readSum 15 rfl) (by decide) k1 k2) (fun h29 => ?_) (fun h29 => ?_)
          · exact absurd e h29
          · refine BdQ.l (fun _ _ k => b_aload_n (pc := 32) (i := 0) (dd dtX3_readSum 16 rfl) rfl rfl k) ?_
            refine BdQ.l (fun _ _ k => b_geti (pc := 33) (dd dtX3_readSum 17 rfl) fwX3_24 pC_73 k) ?_
            refine BdQ.l (fun _ _ k => b_bipush (pc := 36) (v := 43) (dd dtX3_readSum 18 rfl) (by decide) k) ?_
            refine BdQ.c (fun _ _ k1 k2 => b_icmp_ne (pc := 38) (tgt := 46) (dd dtX3_readSum 19 rfl) (by decide) k1 k2) (fun h38 => ?_) (fun h38 => ?_)
            · refine BdQ.l (fun _ _ k => b_bipush (pc := 46) (v := -17) (dd dtX3_readSum 22 rfl) (by decide) k) ?_
              refine BdQ.l (fun _ _ k => b_istore_n (pc := 48) (i := 3) (lv' := [(3, _), (2, _), (0, _), (1, _)]) (dd dtX3_readSum 23 rfl) rfl (Nat.le_of_ble_eq_true rfl) rfl k) ?_
              refine BdQ.l (fun _ _ k => b_aload_n (pc := 49) (i := 0) (dd dtX3_readSum 24 rfl) rfl rfl k) ?_
              obtain ⟨_, I50, ⟨rfl, R50⟩, k50⟩ := q_adv hB hR (by rw [← tk, e]; decide) (by rw [← tk, e]; decide)
              refine BdQ.l (fun _ _ k => b_invV (pc := 50) (dd dtX3_readSum 25 rfl) mlX3_55 mvX3_advance miX3_advance (k50) oC_73 rfl rfl (by omega) (Nat.le_of_ble_eq_true rfl) k) ?_
              refine BdQ.l (fun _ _ k => b_aload_n (pc := 53) (i := 0) (dd dtX3_readSum 26 rfl) rfl rfl k) ?_
              refine BdQ.l (fun _ _ k => b_iload_n (pc := 54) (i := 1) (dd dtX3_readSum 27 rfl) rfl rfl k) ?_
              obtain ⟨_, I55, ⟨rfl, R55⟩, k55⟩ := h1 _ _ R50
              refine BdQ.l (fun _ _ k => b_invV (pc := 55) (dd dtX3_readSum 28 rfl) mlX3_67 mvX3_readTerm miX3_readTerm (k55) oC_73 rfl rfl (by omega) (Nat.le_of_ble_eq_true rfl) k) ?_
              refine BdQ.l (fun _ _ k => b_aload_n (pc := 58) (i := 0) (dd dtX3_readSum 29 rfl) rfl rfl k) ?_
              refine BdQ.l (fun _ _ k => b_geta (pc := 59) (dd dtX3_readSum 30 rfl) fwX3_12 pC_73 rC_73_0 k) ?_
              refine BdQ.l (fun _ _ k => b_iload_n (pc := 62) (i := 3) (dd dtX3_readSum 31 rfl) rfl rfl k) ?_
              obtain ⟨_, I63, ⟨rfl, R63⟩, k63⟩ := q_add R55
              refine BdQ.l (fun _ _ k => b_invV (pc := 63) (dd dtX3_readSum 32 rfl) mlX3_58 mvX8_add miX8_add (k63) oC_74 rfl rfl (by omega) (Nat.le_of_ble_eq_true rfl) k) ?_
              refine BdQ.l (fun _ _ k => b_iinc1 (pc := 66) (i := 2) (lv' := [(2, _), (3, _), (0, _), (1, _)]) (dd dtX3_readSum 33 rfl) rfl (Nat.le_of_ble_eq_true rfl) rfl k) ?_
              refine BdQ.l (fun _ _ k => b_goto (pc := 69) (tgt := 7) (dd dtX3_readSum 34 rfl) (by decide) k) ?_
              refine BdQ.l (fun _ _ k => b_pick [0, 2, 3] (lv' := [(2, _), (0, _), (1, _)]) rfl k) ?_
              rw [nI_1]
              rw [rLoop_s (show isSum (sTok (B 71) T s) = some (-17) from by rw [← tk]; rw [e]; decide)]
              exact ih (j + 1) _ _ _ (by omega) rfl R63
            · exact absurd (h38.symm.trans e) (by decide)
    · refine BdQ.l (fun _ _ k => b_iload_n (pc := 7) (i := 2) (dd dtX3_readSum 5 rfl) rfl rfl k) ?_
      refine BdQ.l (fun _ _ k => b_sipush (pc := 8) (v := 160) (dd dtX3_readSum 6 rfl) (by decide) k) ?_
      refine BdQ.c (fun _ _ k1 k2 => b_icmpL_ge (pc := 11) (tgt := 72) (dd dtX3_readSum 7 rfl) (by decide) k1 k2) (fun h11 => ?_) (fun h11 => ?_)
      · exact absurd (nI_lt (show j < 160 by omega) (by decide)) h11
      · refine BdQ.l (fun _ _ k => b_aload_n (pc := 14) (i := 0) (dd dtX3_readSum 8 rfl) rfl rfl k) ?_
        refine BdQ.l (fun _ _ k => b_geti (pc := 15) (dd dtX3_readSum 9 rfl) fwX3_24 pC_73 k) ?_
        refine BdQ.l (fun _ _ k => b_bipush (pc := 18) (v := 43) (dd dtX3_readSum 10 rfl) (by decide) k) ?_
        refine BdQ.b (fun _ _ k1 k2 => b_icmp_eq (pc := 20) (tgt := 32) (dd dtX3_readSum 11 rfl) (by decide) k1 k2) (fun h20 => ?_) (fun h20 => ?_)
        · exact absurd h20 e.1
        · refine BdQ.l (fun _ _ k => b_aload_n (pc := 23) (i := 0) (dd dtX3_readSum 12 rfl) rfl rfl k) ?_
          refine BdQ.l (fun _ _ k => b_geti (pc := 24) (dd dtX3_readSum 13 rfl) fwX3_24 pC_73 k) ?_
          refine BdQ.l (fun _ _ k => b_bipush (pc := 27) (v := 45) (dd dtX3_readSum 14 rfl) (by decide) k) ?_
          refine BdQ.c (fun _ _ k1 k2 => b_icmp_ne (pc := 29) (tgt := 72) (dd dtX3_readSum 15 rfl) (by decide) k1 k2) (fun h29 => ?_) (fun h29 => ?_)
          · refine ⟨_, _, ?_, b_vret (dd dtX3_readSum 35 rfl) rfl⟩
            refine ⟨rfl, ?_⟩
            rw [rLoop_n (show isSum (sTok (B 71) T s) = none from by rw [← tk]; unfold isSum; rw [if_neg e.1, if_neg e.2])]
            exact hR
          · exact absurd h29 e.2
set_option maxHeartbeats 4000000 in
theorem q_term {B : Wd} {T : Nat} (hB : TB B T) {o : Int32} {d d1 : Nat} {sub : St → St} (h1 : QC mX3_readOne d1 B T o sub) (hd : 1 < d) (hd1 : d1 < d) : QC mX3_readTerm d B T o (rTerm (B 71) T sub) := by
  intro I s hR
  refine CalQ.of (by decide) (Nat.le_of_ble_eq_true rfl) ?_
  show BdQ _ _ _ _ [(0, _), (1, _)] _ _ _
  refine BdQ.l (fun _ _ k => b_aload_n (pc := 0) (i := 0) (dd dtX3_readTerm 0 rfl) rfl rfl k) ?_
  refine BdQ.l (fun _ _ k => b_iload_n (pc := 1) (i := 1) (dd dtX3_readTerm 1 rfl) rfl rfl k) ?_
  obtain ⟨_, I2, ⟨rfl, R2⟩, k2⟩ := h1 _ _ hR
  refine BdQ.l (fun _ _ k => b_invV (pc := 2) (dd dtX3_readTerm 2 rfl) mlX3_70 mvX3_readOne miX3_readOne (k2) oC_73 rfl rfl (by omega) (Nat.le_of_ble_eq_true rfl) k) ?_
  refine BdQ.l (fun _ _ k => b_ic0 (pc := 5) (dd dtX3_readTerm 3 rfl) k) ?_
  refine BdQ.l (fun _ _ k => b_istore_n (pc := 6) (i := 2) (lv' := [(2, _), (0, _), (1, _)]) (dd dtX3_readTerm 4 rfl) rfl (Nat.le_of_ble_eq_true rfl) rfl k) ?_
  exact lr_term hB h1 hd hd1 160 0 _ _ _ (by omega) rfl R2
set_option maxHeartbeats 4000000 in
theorem q_sum {B : Wd} {T : Nat} (hB : TB B T) {o : Int32} {d d1 : Nat} {sub0 : St → St} (h1 : QC mX3_readTerm d1 B T o (rTerm (B 71) T sub0)) (hd : 1 < d) (hd1 : d1 < d) : QC mX3_readSum d B T o (rSum (B 71) T sub0) := by
  intro I s hR
  refine CalQ.of (by decide) (Nat.le_of_ble_eq_true rfl) ?_
  show BdQ _ _ _ _ [(0, _), (1, _)] _ _ _
  refine BdQ.l (fun _ _ k => b_aload_n (pc := 0) (i := 0) (dd dtX3_readSum 0 rfl) rfl rfl k) ?_
  refine BdQ.l (fun _ _ k => b_iload_n (pc := 1) (i := 1) (dd dtX3_readSum 1 rfl) rfl rfl k) ?_
  obtain ⟨_, I2, ⟨rfl, R2⟩, k2⟩ := h1 _ _ hR
  refine BdQ.l (fun _ _ k => b_invV (pc := 2) (dd dtX3_readSum 2 rfl) mlX3_67 mvX3_readTerm miX3_readTerm (k2) oC_73 rfl rfl (by omega) (Nat.le_of_ble_eq_true rfl) k) ?_
  refine BdQ.l (fun _ _ k => b_ic0 (pc := 5) (dd dtX3_readSum 3 rfl) k) ?_
  refine BdQ.l (fun _ _ k => b_istore_n (pc := 6) (i := 2) (lv' := [(2, _), (0, _), (1, _)]) (dd dtX3_readSum 4 rfl) rfl (Nat.le_of_ble_eq_true rfl) rfl k) ?_
  exact lr_sum hB h1 hd hd1 160 0 _ _ _ (by omega) rfl R2
set_option maxHeartbeats 4000000 in
theorem q_and {B : Wd} {T : Nat} (hB : TB B T) {o : Int32} {d d1 : Nat} {sub : St → St} (h1 : QC mX3_readNot d1 B T o sub) (hd : 1 < d) (hd1 : d1 < d) : QC mX3_readAnd d B T o (rAnd (B 71) T sub) := by
  intro I s hR
  refine CalQ.of (by decide) (Nat.le_of_ble_eq_true rfl) ?_
  show BdQ _ _ _ _ [(0, _), (1, _)] _ _ _
  refine BdQ.l (fun _ _ k => b_aload_n (pc := 0) (i := 0) (dd dtX3_readAnd 0 rfl) rfl rfl k) ?_
  refine BdQ.l (fun _ _ k => b_iload_n (pc := 1) (i := 1) (dd dtX3_readAnd 1 rfl) rfl rfl k) ?_
  obtain ⟨_, I2, ⟨rfl, R2⟩, k2⟩ := h1 _ _ hR
  refine BdQ.l (fun _ _ k => b_invV (pc := 2) (dd dtX3_readAnd 2 rfl) mlX3_61 mvX3_readNot miX3_readNot (k2) oC_73 rfl rfl (by omega) (Nat.le_of_ble_eq_true rfl) k) ?_
  refine BdQ.l (fun _ _ k => b_ic0 (pc := 5) (dd dtX3_readAnd 3 rfl) k) ?_
  refine BdQ.l (fun _ _ k => b_istore_n (pc := 6) (i := 2) (lv' := [(2, _), (0, _), (1, _)]) (dd dtX3_readAnd 4 rfl) rfl (Nat.le_of_ble_eq_true rfl) rfl k) ?_
  exact lr_and hB h1 hd hd1 160 0 _ _ _ (by omega) rfl R2
set_option maxHeartbeats 4000000 in
theorem q_or {B : Wd} {T : Nat} (hB : TB B T) {o : Int32} {d d1 : Nat} {sub0 : St → St} (h1 : QC mX3_readAnd d1 B T o (rAnd (B 71) T sub0)) (hd : 1 < d) (hd1 : d1 < d) : QC mX3_readOr d B T o (rOr (B 71) T sub0) := by
  intro I s hR
  refine CalQ.of (by decide) (Nat.le_of_ble_eq_true rfl) ?_
  show BdQ _ _ _ _ [(0, _), (1, _)] _ _ _
  refine BdQ.l (fun _ _ k => b_aload_n (pc := 0) (i := 0) (dd dtX3_readOr 0 rfl) rfl rfl k) ?_
  refine BdQ.l (fun _ _ k => b_iload_n (pc := 1) (i := 1) (dd dtX3_readOr 1 rfl) rfl rfl k) ?_
  obtain ⟨_, I2, ⟨rfl, R2⟩, k2⟩ := h1 _ _ hR
  refine BdQ.l (fun _ _ k => b_invV (pc := 2) (dd dtX3_readOr 2 rfl) mlX3_52 mvX3_readAnd miX3_readAnd (k2) oC_73 rfl rfl (by omega) (Nat.le_of_ble_eq_true rfl) k) ?_
  refine BdQ.l (fun _ _ k => b_ic0 (pc := 5) (dd dtX3_readOr 3 rfl) k) ?_
  refine BdQ.l (fun _ _ k => b_istore_n (pc := 6) (i := 2) (lv' := [(2, _), (0, _), (1, _)]) (dd dtX3_readOr 4 rfl) rfl (Nat.le_of_ble_eq_true rfl) rfl k) ?_
  exact lr_or hB h1 hd hd1 160 0 _ _ _ (by omega) rfl R2
def tX3_readNot : List (Nat × Instr × Nat) := [(0, .aload_n 0, 1), (1, .getfield 24, 3), (4, .sipush 305, 3), (7, .if_icmp .ne 29, 3), (10, .iload_n 1, 1), (11, .iconst 5, 1), (12, .if_icmp .ge 24, 3), (15, .aload_n 0, 1), (16, .invokevirtual 55, 3), (19, .aload_n 0, 1), (20, .iload_n 1, 1), (21, .iconst 1, 1), (22, .iadd, 1), (23, .invokevirtual 61, 3), (26, .aload_n 0, 1), (27, .getfield 12, 3), (30, .bipush (-13), 2), (32, .invokevirtual 58, 3), (35, .return_, 1), (36, .aload_n 0, 1), (37, .iload_n 1, 1), (38, .invokevirtual 64, 3), (41, .aload_n 0, 1), (42, .getfield 24, 3), (45, .bipush 60, 2), (47, .if_icmp .eq 12, 3), (50, .aload_n 0, 1), (51, .getfield 24, 3), (54, .bipush 61, 2), (56, .if_icmp .ne 37, 3), (59, .aload_n 0, 1), (60, .getfield 24, 3), (63, .bipush 60, 2), (65, .if_icmp .ne 8, 3), (68, .bipush (-14), 2), (70, .goto 5, 3), (73, .bipush (-15), 2), (75, .istore_n 2, 1), (76, .aload_n 0, 1), (77, .invokevirtual 55, 3), (80, .aload_n 0, 1), (81, .iload_n 1, 1), (82, .invokevirtual 64, 3), (85, .aload_n 0, 1), (86, .getfield 12, 3), (89, .iload_n 2, 1), (90, .invokevirtual 58, 3), (93, .return_, 1)]
theorem dtX3_readNot : dec_ok mX3_readNot.2.1 tX3_readNot = true := by decide +kernel
set_option maxHeartbeats 4000000 in
theorem p_not41 {B : Wd} {T : Nat} (hB : TB B T) {o : Int32} {d d2 : Nat} {sum : St → St} (h2 : QC mX3_readSum d2 B T o sum) (hd : 1 < d) (hd2 : d2 < d) {I : Wd} {s : St} (hR : RdW B T I s) : BdQ SyC mX3_readNot d 41 [(0, .ref 73), (1, .int o)] [] I (fun r I' => r = none ∧ RdW B T I' (rCmp (B 71) T sum s)) := by
  have tk := hR.tok
  rcases (show I 73 3 = 60 ∨ I 73 3 = 61 ∨ (¬ I 73 3 = 60 ∧ ¬ I 73 3 = 61) by by_cases q1 : I 73 3 = 60 <;> by_cases q2 : I 73 3 = 61 <;> simp [q1, q2]) with e | e | e
  · refine BdQ.l (fun _ _ k => b_aload_n (pc := 41) (i := 0) (dd dtX3_readNot 22 rfl) rfl rfl k) ?_
    refine BdQ.l (fun _ _ k => b_geti (pc := 42) (dd dtX3_readNot 23 rfl) fwX3_24 pC_73 k) ?_
    refine BdQ.l (fun _ _ k => b_bipush (pc := 45) (v := 60) (dd dtX3_readNot 24 rfl) (by decide) k) ?_
    refine BdQ.b (fun _ _ k1 k2 => b_icmp_eq (pc := 47) (tgt := 59) (dd dtX3_readNot 25 rfl) (by decide) k1 k2) (fun h47 => ?_) (fun h47 => ?_)
    · refine BdQ.l (fun _ _ k => b_aload_n (pc := 59) (i := 0) (dd dtX3_readNot 30 rfl) rfl rfl k) ?_
      refine BdQ.l (fun _ _ k => b_geti (pc := 60) (dd dtX3_readNot 31 rfl) fwX3_24 pC_73 k) ?_
      refine BdQ.l (fun _ _ k => b_bipush (pc := 63) (v := 60) (dd dtX3_readNot 32 rfl) (by decide) k) ?_
      refine BdQ.c (fun _ _ k1 k2 => b_icmp_ne (pc := 65) (tgt := 73) (dd dtX3_readNot 33 rfl) (by decide) k1 k2) (fun h65 => ?_) (fun h65 => ?_)
      · exact absurd e h65
      · refine BdQ.l (fun _ _ k => b_bipush (pc := 68) (v := -14) (dd dtX3_readNot 34 rfl) (by decide) k) ?_
        refine BdQ.l (fun _ _ k => b_goto (pc := 70) (tgt := 75) (dd dtX3_readNot 35 rfl) (by decide) k) ?_
        refine BdQ.l (fun _ _ k => b_istore_n (pc := 75) (i := 2) (lv' := [(2, _), (0, _), (1, _)]) (dd dtX3_readNot 37 rfl) rfl (Nat.le_of_ble_eq_true rfl) rfl k) ?_
        refine BdQ.l (fun _ _ k => b_aload_n (pc := 76) (i := 0) (dd dtX3_readNot 38 rfl) rfl rfl k) ?_
        obtain ⟨_, I77, ⟨rfl, R77⟩, k77⟩ := q_adv hB hR (by rw [← tk, e]; decide) (by rw [← tk, e]; decide)
        refine BdQ.l (fun _ _ k => b_invV (pc := 77) (dd dtX3_readNot 39 rfl) mlX3_55 mvX3_advance miX3_advance (k77) oC_73 rfl rfl (by omega) (Nat.le_of_ble_eq_true rfl) k) ?_
        refine BdQ.l (fun _ _ k => b_aload_n (pc := 80) (i := 0) (dd dtX3_readNot 40 rfl) rfl rfl k) ?_
        refine BdQ.l (fun _ _ k => b_iload_n (pc := 81) (i := 1) (dd dtX3_readNot 41 rfl) rfl rfl k) ?_
        obtain ⟨_, I82, ⟨rfl, R82⟩, k82⟩ := h2 _ _ R77
        refine BdQ.l (fun _ _ k => b_invV (pc := 82) (dd dtX3_readNot 42 rfl) mlX3_64 mvX3_readSum miX3_readSum (k82) oC_73 rfl rfl (by omega) (Nat.le_of_ble_eq_true rfl) k) ?_
        refine BdQ.l (fun _ _ k => b_aload_n (pc := 85) (i := 0) (dd dtX3_readNot 43 rfl) rfl rfl k) ?_
        refine BdQ.l (fun _ _ k => b_geta (pc := 86) (dd dtX3_readNot 44 rfl) fwX3_12 pC_73 rC_73_0 k) ?_
        refine BdQ.l (fun _ _ k => b_iload_n (pc := 89) (i := 2) (dd dtX3_readNot 45 rfl) rfl rfl k) ?_
        obtain ⟨_, I90, ⟨rfl, R90⟩, k90⟩ := q_add R82
        refine BdQ.l (fun _ _ k => b_invV (pc := 90) (dd dtX3_readNot 46 rfl) mlX3_58 mvX8_add miX8_add (k90) oC_74 rfl rfl (by omega) (Nat.le_of_ble_eq_true rfl) k) ?_
        refine ⟨_, _, ?_, b_vret (dd dtX3_readNot 47 rfl) rfl⟩
        refine ⟨rfl, ?_⟩
        unfold rCmp
        rw [show isCmp (sTok (B 71) T s) = some (-14) from by rw [← tk]; rw [e]; decide]
        exact R90
    · exact absurd e h47
  · refine BdQ.l (fun _ _ k => b_aload_n (pc := 41) (i := 0) (dd dtX3_readNot 22 rfl) rfl rfl k) ?_
    refine BdQ.l (fun _ _ k => b_geti (pc := 42) (dd dtX3_readNot 23 rfl) fwX3_24 pC_73 k) ?_
    refine BdQ.l (fun _ _ k => b_bipush (pc := 45) (v := 60) (dd dtX3_readNot 24 rfl) (by decide) k) ?_
    refine BdQ.b (fun _ _ k1 k2 => b_icmp_eq (pc := 47) (tgt := 59) (dd dtX3_readNot 25 rfl) (by decide) k1 k2) (fun h47 => ?_) (fun h47 => ?_)
    · exact absurd (h47.symm.trans e) (by decide)
    · refine BdQ.l (fun _ _ k => b_aload_n (pc := 50) (i := 0) (dd dtX3_readNot 26 rfl) rfl rfl k) ?_
      refine BdQ.l (fun _ _ k => b_geti (pc := 51) (dd dtX3_readNot 27 rfl) fwX3_24 pC_73 k) ?_
      refine BdQ.l (fun _ _ k => b_bipush (pc := 54) (v := 61) (dd dtX3_readNot 28 rfl) (by decide) k) ?_
      refine BdQ.c (fun _ _ k1 k2 => b_icmp_ne (pc := 56) (tgt := 93) (dd dtX3_readNot 29 rfl) (by decide) k1 k2) (fun h56 => ?_) (fun h56 => ?_)
      · exact absurd e h56
      · refine BdQ.l (fun _ _ k => b_aload_n (pc := 59) (i := 0) (dd dtX3_readNot 30 rfl) rfl rfl k) ?_
        refine BdQ.l (fun _ _ k => b_geti (pc := 60) (dd dtX3_readNot 31 rfl) fwX3_24 pC_73 k) ?_
        refine BdQ.l (fun _ _ k => b_bipush (pc := 63) (v := 60) (dd dtX3_readNot 32 rfl) (by decide) k) ?_
        refine BdQ.c (fun _ _ k1 k2 => b_icmp_ne (pc := 65) (tgt := 73) (dd dtX3_readNot 33 rfl) (by decide) k1 k2) (fun h65 => ?_) (fun h65 => ?_)
        · refine BdQ.l (fun _ _ k => b_bipush (pc := 73) (v := -15) (dd dtX3_readNot 36 rfl) (by decide) k) ?_
          refine BdQ.l (fun _ _ k => b_istore_n (pc := 75) (i := 2) (lv' := [(2, _), (0, _), (1, _)]) (dd dtX3_readNot 37 rfl) rfl (Nat.le_of_ble_eq_true rfl) rfl k) ?_
          refine BdQ.l (fun _ _ k => b_aload_n (pc := 76) (i := 0) (dd dtX3_readNot 38 rfl) rfl rfl k) ?_
          obtain ⟨_, I77, ⟨rfl, R77⟩, k77⟩ := q_adv hB hR (by rw [← tk, e]; decide) (by rw [← tk, e]; decide)
          refine BdQ.l (fun _ _ k => b_invV (pc := 77) (dd dtX3_readNot 39 rfl) mlX3_55 mvX3_advance miX3_advance (k77) oC_73 rfl rfl (by omega) (Nat.le_of_ble_eq_true rfl) k) ?_
          refine BdQ.l (fun _ _ k => b_aload_n (pc := 80) (i := 0) (dd dtX3_readNot 40 rfl) rfl rfl k) ?_
          refine BdQ.l (fun _ _ k => b_iload_n (pc := 81) (i := 1) (dd dtX3_readNot 41 rfl) rfl rfl k) ?_
          obtain ⟨_, I82, ⟨rfl, R82⟩, k82⟩ := h2 _ _ R77
          refine BdQ.l (fun _ _ k => b_invV (pc := 82) (dd dtX3_readNot 42 rfl) mlX3_64 mvX3_readSum miX3_readSum (k82) oC_73 rfl rfl (by omega) (Nat.le_of_ble_eq_true rfl) k) ?_
          refine BdQ.l (fun _ _ k => b_aload_n (pc := 85) (i := 0) (dd dtX3_readNot 43 rfl) rfl rfl k) ?_
          refine BdQ.l (fun _ _ k => b_geta (pc := 86) (dd dtX3_readNot 44 rfl) fwX3_12 pC_73 rC_73_0 k) ?_
          refine BdQ.l (fun _ _ k => b_iload_n (pc := 89) (i := 2) (dd dtX3_readNot 45 rfl) rfl rfl k) ?_
          obtain ⟨_, I90, ⟨rfl, R90⟩, k90⟩ := q_add R82
          refine BdQ.l (fun _ _ k => b_invV (pc := 90) (dd dtX3_readNot 46 rfl) mlX3_58 mvX8_add miX8_add (k90) oC_74 rfl rfl (by omega) (Nat.le_of_ble_eq_true rfl) k) ?_
          refine ⟨_, _, ?_, b_vret (dd dtX3_readNot 47 rfl) rfl⟩
          refine ⟨rfl, ?_⟩
          unfold rCmp
          rw [show isCmp (sTok (B 71) T s) = some (-15) from by rw [← tk]; rw [e]; decide]
          exact R90
        · exact absurd (h65.symm.trans e) (by decide)
  · refine BdQ.l (fun _ _ k => b_aload_n (pc := 41) (i := 0) (dd dtX3_readNot 22 rfl) rfl rfl k) ?_
    refine BdQ.l (fun _ _ k => b_geti (pc := 42) (dd dtX3_readNot 23 rfl) fwX3_24 pC_73 k) ?_
    refine BdQ.l (fun _ _ k => b_bipush (pc := 45) (v := 60) (dd dtX3_readNot 24 rfl) (by decide) k) ?_
    refine BdQ.b (fun _ _ k1 k2 => b_icmp_eq (pc := 47) (tgt := 59) (dd dtX3_readNot 25 rfl) (by decide) k1 k2) (fun h47 => ?_) (fun h47 => ?_)
    · exact absurd h47 e.1
    · refine BdQ.l (fun _ _ k => b_aload_n (pc := 50) (i := 0) (dd dtX3_readNot 26 rfl) rfl rfl k) ?_
      refine BdQ.l (fun _ _ k => b_geti (pc := 51) (dd dtX3_readNot 27 rfl) fwX3_24 pC_73 k) ?_
      refine BdQ.l (fun _ _ k => b_bipush (pc := 54) (v := 61) (dd dtX3_readNot 28 rfl) (by decide) k) ?_
      refine BdQ.c (fun _ _ k1 k2 => b_icmp_ne (pc := 56) (tgt := 93) (dd dtX3_readNot 29 rfl) (by decide) k1 k2) (fun h56 => ?_) (fun h56 => ?_)
      · refine ⟨_, _, ?_, b_vret (dd dtX3_readNot 47 rfl) rfl⟩
        refine ⟨rfl, ?_⟩
        unfold rCmp
        rw [show isCmp (sTok (B 71) T s) = none from by rw [← tk]; unfold isCmp; rw [if_neg e.1, if_neg e.2]]
        exact hR
      · exact absurd h56 e.2
set_option maxHeartbeats 4000000 in
theorem q_not {B : Wd} {T : Nat} (hB : TB B T) {o : Int32} {d d1 d2 : Nat} {can : Bool} (hcan : can = true ↔ o < 5) {not sum : St → St} (h1 : can = true → QC mX3_readNot d1 B T (o + 1) not) (h2 : QC mX3_readSum d2 B T o sum) (hd : 1 < d) (hd1 : d1 < d) (hd2 : d2 < d) : QC mX3_readNot d B T o (rNot (B 71) T can not sum) := by
  intro I s hR
  refine CalQ.of (by decide) (Nat.le_of_ble_eq_true rfl) ?_
  show BdQ _ _ _ _ [(0, _), (1, _)] _ _ _
  have tk := hR.tok
  refine BdQ.l (fun _ _ k => b_aload_n (pc := 0) (i := 0) (dd dtX3_readNot 0 rfl) rfl rfl k) ?_
  refine BdQ.l (fun _ _ k => b_geti (pc := 1) (dd dtX3_readNot 1 rfl) fwX3_24 pC_73 k) ?_
  refine BdQ.l (fun _ _ k => b_sipush (pc := 4) (v := 305) (dd dtX3_readNot 2 rfl) (by decide) k) ?_
  refine BdQ.c (fun _ _ k1 k2 => b_icmp_ne (pc := 7) (tgt := 36) (dd dtX3_readNot 3 rfl) (by decide) k1 k2) (fun h7 => ?_) (fun h7 => ?_)
  · refine BdQ.l (fun _ _ k => b_aload_n (pc := 36) (i := 0) (dd dtX3_readNot 19 rfl) rfl rfl k) ?_
    refine BdQ.l (fun _ _ k => b_iload_n (pc := 37) (i := 1) (dd dtX3_readNot 20 rfl) rfl rfl k) ?_
    obtain ⟨_, I38, ⟨rfl, R38⟩, k38⟩ := h2 _ _ hR
    refine BdQ.l (fun _ _ k => b_invV (pc := 38) (dd dtX3_readNot 21 rfl) mlX3_64 mvX3_readSum miX3_readSum (k38) oC_73 rfl rfl (by omega) (Nat.le_of_ble_eq_true rfl) k) ?_
    rw [show rNot (B 71) T can not sum s = rCmp (B 71) T sum (sum s) from if_neg (fun q => by first | exact h7 (tk.trans q.1) | exact h12 (hcan.mp q.2))]
    exact p_not41 hB h2 hd hd2 R38
  · refine BdQ.l (fun _ _ k => b_iload_n (pc := 10) (i := 1) (dd dtX3_readNot 4 rfl) rfl rfl k) ?_
    refine BdQ.l (fun _ _ k => b_ic5 (pc := 11) (dd dtX3_readNot 5 rfl) k) ?_
    refine BdQ.c (fun _ _ k1 k2 => b_icmpL_ge (pc := 12) (tgt := 36) (dd dtX3_readNot 6 rfl) (by decide) k1 k2) (fun h12 => ?_) (fun h12 => ?_)
    · refine BdQ.l (fun _ _ k => b_aload_n (pc := 36) (i := 0) (dd dtX3_readNot 19 rfl) rfl rfl k) ?_
      refine BdQ.l (fun _ _ k => b_iload_n (pc := 37) (i := 1) (dd dtX3_readNot 20 rfl) rfl rfl k) ?_
      obtain ⟨_, I38, ⟨rfl, R38⟩, k38⟩ := h2 _ _ hR
      refine BdQ.l (fun _ _ k => b_invV (pc := 38) (dd dtX3_readNot 21 rfl) mlX3_64 mvX3_readSum miX3_readSum (k38) oC_73 rfl rfl (by omega) (Nat.le_of_ble_eq_true rfl) k) ?_
      rw [show rNot (B 71) T can not sum s = rCmp (B 71) T sum (sum s) from if_neg (fun q => by first | exact h7 (tk.trans q.1) | exact h12 (hcan.mp q.2))]
      exact p_not41 hB h2 hd hd2 R38
    · refine BdQ.l (fun _ _ k => b_aload_n (pc := 15) (i := 0) (dd dtX3_readNot 7 rfl) rfl rfl k) ?_
      obtain ⟨_, I16, ⟨rfl, R16⟩, k16⟩ := q_adv hB hR (by rw [← tk, h7]; decide) (by rw [← tk, h7]; decide)
      refine BdQ.l (fun _ _ k => b_invV (pc := 16) (dd dtX3_readNot 8 rfl) mlX3_55 mvX3_advance miX3_advance (k16) oC_73 rfl rfl (by omega) (Nat.le_of_ble_eq_true rfl) k) ?_
      refine BdQ.l (fun _ _ k => b_aload_n (pc := 19) (i := 0) (dd dtX3_readNot 9 rfl) rfl rfl k) ?_
      refine BdQ.l (fun _ _ k => b_iload_n (pc := 20) (i := 1) (dd dtX3_readNot 10 rfl) rfl rfl k) ?_
      refine BdQ.l (fun _ _ k => b_ic1 (pc := 21) (dd dtX3_readNot 11 rfl) k) ?_
      refine BdQ.l (fun _ _ k => b_iadd (pc := 22) (dd dtX3_readNot 12 rfl) k) ?_
      obtain ⟨_, I23, ⟨rfl, R23⟩, k23⟩ := h1 (hcan.mpr h12) _ _ R16
      refine BdQ.l (fun _ _ k => b_invV (pc := 23) (dd dtX3_readNot 13 rfl) mlX3_61 mvX3_readNot miX3_readNot (k23) oC_73 rfl rfl (by omega) (Nat.le_of_ble_eq_true rfl) k) ?_
      refine BdQ.l (fun _ _ k => b_aload_n (pc := 26) (i := 0) (dd dtX3_readNot 14 rfl) rfl rfl k) ?_
      refine BdQ.l (fun _ _ k => b_geta (pc := 27) (dd dtX3_readNot 15 rfl) fwX3_12 pC_73 rC_73_0 k) ?_
      refine BdQ.l (fun _ _ k => b_bipush (pc := 30) (v := -13) (dd dtX3_readNot 16 rfl) (by decide) k) ?_
      obtain ⟨_, I32, ⟨rfl, R32⟩, k32⟩ := q_add R23
      refine BdQ.l (fun _ _ k => b_invV (pc := 32) (dd dtX3_readNot 17 rfl) mlX3_58 mvX8_add miX8_add (k32) oC_74 rfl rfl (by omega) (Nat.le_of_ble_eq_true rfl) k) ?_
      refine ⟨_, _, ?_, b_vret (dd dtX3_readNot 18 rfl) rfl⟩
      refine ⟨rfl, ?_⟩
      rw [show rNot (B 71) T can not sum s = sAdd (-13) (not (sAdv s)) from if_pos ⟨tk.symm.trans h7, hcan.mpr h12⟩]
      exact R32
theorem q_lv {B : Wd} {T : Nat} (hB : TB B T) : ∀ f, f ≤ 5 → QC mX3_readOne (10 * f + 3) B T (nI (5 - f)) (rLv (B 71) (B 72) T f).1 ∧ QC mX3_readNot (10 * f + 6) B T (nI (5 - f)) (rLv (B 71) (B 72) T f).2 := by
  intro f
  induction f with
  | zero =>
    intro _
    have k1 : QC mX3_readOne 3 B T (nI 5) (rOne (B 71) (B 72) T false id id) := q_one hB (d1 := 0) (d2 := 0) (by decide) (fun q => by cases q) (fun q => by cases q) (by omega) (by omega) (by omega)
    exact ⟨k1, q_not hB (d1 := 0) (d2 := 5) (by decide) (fun q => by cases q) (q_sum hB (q_term hB k1 (d := 4) (by omega) (by omega)) (by omega) (by omega)) (by omega) (by omega) (by omega)⟩
  | succ f ih =>
    intro hf
    obtain ⟨i1, i2⟩ := ih (by omega)
    have e : nI (5 - (f + 1)) + 1 = nI (5 - f) := by rw [nI_1]; congr 1; omega
    have hc : (true = true) ↔ nI (5 - (f + 1)) < 5 := ⟨fun _ => nI_lt (b := 5) (by omega) (by decide), fun _ => rfl⟩
    have kor := q_or hB (q_and hB i2 (d := 10 * f + 7) (by omega) (by omega)) (d := 10 * f + 8) (by omega) (by omega)
    rw [← e] at i1 i2 kor
    have k1 : QC mX3_readOne (10 * (f + 1) + 3) B T (nI (5 - (f + 1))) (rOne (B 71) (B 72) T true (rLv (B 71) (B 72) T f).1 (rOr (B 71) T (rLv (B 71) (B 72) T f).2)) := q_one hB hc (fun _ => i1) (fun _ => kor) (by omega) (by omega) (by omega)
    exact ⟨k1, q_not hB hc (fun _ => i2) (q_sum hB (q_term hB k1 (d := 10 * (f + 1) + 4) (by omega) (by omega)) (d := 10 * (f + 1) + 5) (by omega) (by omega)) (by omega) (by omega) (by omega)⟩
theorem q_or5 {B : Wd} {T : Nat} (hB : TB B T) : QC mX3_readOr 58 B T 0 (rOr (B 71) T (rLv (B 71) (B 72) T 5).2) := by
  have k := (q_lv hB 5 (by omega)).2
  exact q_or hB (q_and hB k (d := 57) (by omega) (by omega)) (by omega) (by omega)
