/-! the constructors of the class: what they make, at which places -/
def qC : List Nat := [0, 1, 2, 3, 4, 5, 6, 7, 8, 9, 10, 11, 12, 13, 14, 15, 16, 17, 18, 19, 20, 21, 22, 23, 24, 25, 26, 27, 28, 29, 30, 31, 32, 33, 34, 35, 36, 37, 38, 39, 40, 41, 42, 43, 44, 45, 46, 47, 48, 49, 50, 51, 52, 53, 54, 55, 56, 57, 58, 59, 60, 61, 62, 63, 64, 65, 66, 67, 68, 69, 70, 71, 72, 73, 74, 75, 76, 77, 96, 97, 78, 79, 80, 81, 82, 83, 84, 85, 86, 87, 88, 89, 90, 91, 92, 93, 94, 95, 98, 107, 99, 100, 101, 102, 103, 104, 105, 106]
def qM : List Nat := [0, 1, 2, 3, 4, 5, 6, 7, 8, 9, 10, 11, 12, 13, 14, 15, 16, 17, 18, 19, 20, 21, 22, 23, 24, 25, 26, 27, 28, 29, 30, 31, 32, 33, 34, 35, 36, 37, 38, 39, 40, 41, 42, 43, 44, 45, 46, 47]
theorem sqC : SqOK qC := ⟨by decide +kernel, by decide +kernel⟩
theorem sqM : SqOK qM := ⟨by decide +kernel, by decide +kernel⟩
def tX0_init : List (Nat × Instr × Nat) := [(0, .aload_n 0, 1), (1, .invokespecial 3, 3), (4, .aload_n 0, 1), (5, .iconst 0, 1), (6, .putfield 9, 3), (9, .aload_n 0, 1), (10, .iconst 0, 1), (11, .putfield 15, 3), (14, .aload_n 0, 1), (15, .bipush 14, 2), (17, .newarray .int, 2), (19, .putfield 18, 3), (22, .aload_n 0, 1), (23, .bipush 14, 2), (25, .newarray .int, 2), (27, .putfield 22, 3), (30, .aload_n 0, 1), (31, .bipush 14, 2), (33, .newarray .int, 2), (35, .putfield 25, 3), (38, .aload_n 0, 1), (39, .bipush 6, 2), (41, .newarray .int, 2), (43, .putfield 28, 3), (46, .return_, 1)]
theorem dtX0_init : dec_ok mX0_init.2.1 tX0_init = true := by decide +kernel
def lg_built (L : List (Nat × Nat × Nat)) : List (Nat × Nat × Nat) := ((1, 5, 5) :: ((1, 4, 4) :: ((1, 3, 3) :: ((1, 2, 2) :: L))))
set_option maxHeartbeats 8000000 in
theorem gc_built {L : List (Nat × Nat × Nat)} {I : Wd} (hz : ∀ a, 1 ≤ a → a ≤ 5 → I a = fun _ => 0) : Gal SyC qC mX0_init 1 4 48 [.ref 1] 2 L I 6 (lg_built L) (I) := by
  refine Gal.of (by decide) rfl (Nat.le_of_ble_eq_true rfl) ?_
  show Gd _ _ _ _ _ _ _ _ _ _ _ _ _ _ [(0, .ref 1)] _ _ _
  refine g_aload_n (pc := 0) (i := 0) (dd dtX0_init 0 rfl) rfl rfl ?_
  refine g_obj (pc := 1) (dd dtX0_init 1 rfl) woX0_3 (by decide) (by decide) ?_
  refine g_aload_n (pc := 4) (i := 0) (dd dtX0_init 2 rfl) rfl rfl ?_
  refine g_ic0 (pc := 5) (dd dtX0_init 3 rfl) ?_
  refine g_puts sqC (pc := 6) (i := 1) (dd dtX0_init 4 rfl) fwX0_9 rfl rfl rfl rfl (congrFun (hz 1 (by decide) (by decide)) _) ?_
  refine g_aload_n (pc := 9) (i := 0) (dd dtX0_init 5 rfl) rfl rfl ?_
  refine g_ic0 (pc := 10) (dd dtX0_init 6 rfl) ?_
  refine g_puts sqC (pc := 11) (i := 1) (dd dtX0_init 7 rfl) fwX0_15 rfl rfl rfl rfl (congrFun (hz 1 (by decide) (by decide)) _) ?_
  refine g_aload_n (pc := 14) (i := 0) (dd dtX0_init 8 rfl) rfl rfl ?_
  refine g_bipush (pc := 15) (v := 14) (dd dtX0_init 9 rfl) (by decide) ?_
  refine g_newI sqC (pc := 17) (k := 2) (dd dtX0_init 10 rfl) rfl rfl (hz 2 (by decide) (by decide)) (by decide) (by decide) (by decide) (by decide) (by decide) rfl rfl ?_
  refine g_puta sqC (pc := 19) (i := 1) (dd dtX0_init 11 rfl) fwX0_18 rfl rfl (by decide) (fun _ _ _ h => by cases h; rfl) (Or.inr ⟨_, rfl⟩) ?_
  refine g_aload_n (pc := 22) (i := 0) (dd dtX0_init 12 rfl) rfl rfl ?_
  refine g_bipush (pc := 23) (v := 14) (dd dtX0_init 13 rfl) (by decide) ?_
  refine g_newI sqC (pc := 25) (k := 3) (dd dtX0_init 14 rfl) rfl rfl (hz 3 (by decide) (by decide)) (by decide) (by decide) (by decide) (by decide) (by decide) rfl rfl ?_
  refine g_puta sqC (pc := 27) (i := 1) (dd dtX0_init 15 rfl) fwX0_22 rfl rfl (by decide) (fun _ _ _ h => by cases h; rfl) (Or.inr ⟨_, rfl⟩) ?_
  refine g_aload_n (pc := 30) (i := 0) (dd dtX0_init 16 rfl) rfl rfl ?_
  refine g_bipush (pc := 31) (v := 14) (dd dtX0_init 17 rfl) (by decide) ?_
  refine g_newI sqC (pc := 33) (k := 4) (dd dtX0_init 18 rfl) rfl rfl (hz 4 (by decide) (by decide)) (by decide) (by decide) (by decide) (by decide) (by decide) rfl rfl ?_
  refine g_puta sqC (pc := 35) (i := 1) (dd dtX0_init 19 rfl) fwX0_25 rfl rfl (by decide) (fun _ _ _ h => by cases h; rfl) (Or.inr ⟨_, rfl⟩) ?_
  refine g_aload_n (pc := 38) (i := 0) (dd dtX0_init 20 rfl) rfl rfl ?_
  refine g_bipush (pc := 39) (v := 6) (dd dtX0_init 21 rfl) (by decide) ?_
  refine g_newI sqC (pc := 41) (k := 5) (dd dtX0_init 22 rfl) rfl rfl (hz 5 (by decide) (by decide)) (by decide) (by decide) (by decide) (by decide) (by decide) rfl rfl ?_
  refine g_puta sqC (pc := 43) (i := 1) (dd dtX0_init 23 rfl) fwX0_28 rfl rfl (by decide) (fun _ _ _ h => by cases h; rfl) (Or.inr ⟨_, rfl⟩) ?_
  refine g_vret (pc := 46) (dd dtX0_init 24 rfl) rfl (by decide) (by decide) rfl ?_ ?_
  · rfl
  · rfl
def gI (b : Nat) (I : Wd) : Wd := rset (rset I (b + 4) (fmN 64)) (b + 8) (fmN 14)
def tX2_init : List (Nat × Instr × Nat) := [(0, .aload_n 0, 1), (1, .invokespecial 3, 3), (4, .aload_n 0, 1), (5, .iconst 0, 1), (6, .putfield 9, 3), (9, .aload_n 0, 1), (10, .iconst 0, 1), (11, .putfield 15, 3), (14, .aload_n 0, 1), (15, .iconst 0, 1), (16, .putfield 18, 3), (19, .aload_n 0, 1), (20, .iconst 0, 1), (21, .putfield 21, 3), (24, .aload_n 0, 1), (25, .bipush 64, 2), (27, .newarray .int, 2), (29, .putfield 24, 3), (32, .aload_n 0, 1), (33, .bipush 64, 2), (35, .newarray .int, 2), (37, .putfield 28, 3), (40, .aload_n 0, 1), (41, .bipush 64, 2), (43, .newarray .int, 2), (45, .putfield 31, 3), (48, .aload_n 0, 1), (49, .bipush 64, 2), (51, .newarray .int, 2), (53, .putfield 34, 3), (56, .aload_n 0, 1), (57, .iconst 4, 1), (58, .newarray .int, 2), (60, .putfield 37, 3), (63, .aload_n 0, 1), (64, .iconst 4, 1), (65, .newarray .int, 2), (67, .putfield 40, 3), (70, .aload_n 0, 1), (71, .bipush 6, 2), (73, .newarray .int, 2), (75, .putfield 43, 3), (78, .aload_n 0, 1), (79, .bipush 14, 2), (81, .newarray .int, 2), (83, .putfield 46, 3), (86, .aload_n 0, 1), (87, .bipush 14, 2), (89, .newarray .boolean, 2), (91, .putfield 49, 3), (94, .aload_n 0, 1), (95, .bipush 64, 2), (97, .newarray .int, 2), (99, .putfield 53, 3), (102, .aload_n 0, 1), (103, .bipush 64, 2), (105, .newarray .int, 2), (107, .putfield 56, 3), (110, .aload_n 0, 1), (111, .aload_n 1, 1), (112, .putfield 59, 3), (115, .iconst 0, 1), (116, .istore_n 2, 1), (117, .iload_n 2, 1), (118, .bipush 64, 2), (120, .if_icmp .ge 16, 3), (123, .aload_n 0, 1), (124, .getfield 34, 3), (127, .iload_n 2, 1), (128, .iconst (-1), 1), (129, .iastore, 1), (130, .iinc 2 1, 3), (133, .goto (-16), 3), (136, .iconst 0, 1), (137, .istore_n 2, 1), (138, .iload_n 2, 1), (139, .bipush 14, 2), (141, .if_icmp .ge 16, 3), (144, .aload_n 0, 1), (145, .getfield 46, 3), (148, .iload_n 2, 1), (149, .iconst (-1), 1), (150, .iastore, 1), (151, .iinc 2 1, 3), (154, .goto (-16), 3), (157, .return_, 1)]
theorem dtX2_init : dec_ok mX2_init.2.1 tX2_init = true := by decide +kernel
def lg_now (L : List (Nat × Nat × Nat)) : List (Nat × Nat × Nat) := ((6, 0, 1) :: ((6, 15, 17) :: ((6, 14, 16) :: ((6, 13, 15) :: ((6, 12, 14) :: ((6, 11, 13) :: ((6, 10, 12) :: ((6, 9, 11) :: ((6, 8, 10) :: ((6, 7, 9) :: ((6, 6, 8) :: ((6, 5, 7) :: L))))))))))))
set_option maxHeartbeats 8000000 in
theorem gc_now {L : List (Nat × Nat × Nat)} {I : Wd} (hz : ∀ a, 6 ≤ a → a ≤ 17 → I a = fun _ => 0) : Gal SyC qC mX2_init 1 11 426 [.ref 6, .ref 1] 7 L I 18 (lg_now L) ((rset (rset I 10 (fmN 64)) 14 (fmN 14))) := by
  refine Gal.of (by decide) rfl (Nat.le_of_ble_eq_true rfl) ?_
  show Gd _ _ _ _ _ _ _ _ _ _ _ _ _ _ [(0, .ref 6), (1, .ref 1)] _ _ _
  refine g_aload_n (pc := 0) (i := 0) (dd dtX2_init 0 rfl) rfl rfl ?_
  refine g_obj (pc := 1) (dd dtX2_init 1 rfl) woX2_3 (by decide) (by decide) ?_
  refine g_aload_n (pc := 4) (i := 0) (dd dtX2_init 2 rfl) rfl rfl ?_
  refine g_ic0 (pc := 5) (dd dtX2_init 3 rfl) ?_
  refine g_puts sqC (pc := 6) (i := 6) (dd dtX2_init 4 rfl) fwX2_9 rfl rfl rfl rfl (congrFun (hz 6 (by decide) (by decide)) _) ?_
  refine g_aload_n (pc := 9) (i := 0) (dd dtX2_init 5 rfl) rfl rfl ?_
  refine g_ic0 (pc := 10) (dd dtX2_init 6 rfl) ?_
  refine g_puts sqC (pc := 11) (i := 6) (dd dtX2_init 7 rfl) fwX2_15 rfl rfl rfl rfl (congrFun (hz 6 (by decide) (by decide)) _) ?_
  refine g_aload_n (pc := 14) (i := 0) (dd dtX2_init 8 rfl) rfl rfl ?_
  refine g_ic0 (pc := 15) (dd dtX2_init 9 rfl) ?_
  refine g_puts sqC (pc := 16) (i := 6) (dd dtX2_init 10 rfl) fwX2_18 rfl rfl rfl rfl (congrFun (hz 6 (by decide) (by decide)) _) ?_
  refine g_aload_n (pc := 19) (i := 0) (dd dtX2_init 11 rfl) rfl rfl ?_
  refine g_ic0 (pc := 20) (dd dtX2_init 12 rfl) ?_
  refine g_puts sqC (pc := 21) (i := 6) (dd dtX2_init 13 rfl) fwX2_21 rfl rfl rfl rfl (congrFun (hz 6 (by decide) (by decide)) _) ?_
  refine g_aload_n (pc := 24) (i := 0) (dd dtX2_init 14 rfl) rfl rfl ?_
  refine g_bipush (pc := 25) (v := 64) (dd dtX2_init 15 rfl) (by decide) ?_
  refine g_newI sqC (pc := 27) (k := 7) (dd dtX2_init 16 rfl) rfl rfl (hz 7 (by decide) (by decide)) (by decide) (by decide) (by decide) (by decide) (by decide) rfl rfl ?_
  refine g_puta sqC (pc := 29) (i := 6) (dd dtX2_init 17 rfl) fwX2_24 rfl rfl (by decide) (fun _ _ _ h => by cases h; rfl) (Or.inr ⟨_, rfl⟩) ?_
  refine g_aload_n (pc := 32) (i := 0) (dd dtX2_init 18 rfl) rfl rfl ?_
  refine g_bipush (pc := 33) (v := 64) (dd dtX2_init 19 rfl) (by decide) ?_
  refine g_newI sqC (pc := 35) (k := 8) (dd dtX2_init 20 rfl) rfl rfl (hz 8 (by decide) (by decide)) (by decide) (by decide) (by decide) (by decide) (by decide) rfl rfl ?_
  refine g_puta sqC (pc := 37) (i := 6) (dd dtX2_init 21 rfl) fwX2_28 rfl rfl (by decide) (fun _ _ _ h => by cases h; rfl) (Or.inr ⟨_, rfl⟩) ?_
  refine g_aload_n (pc := 40) (i := 0) (dd dtX2_init 22 rfl) rfl rfl ?_
  refine g_bipush (pc := 41) (v := 64) (dd dtX2_init 23 rfl) (by decide) ?_
  refine g_newI sqC (pc := 43) (k := 9) (dd dtX2_init 24 rfl) rfl rfl (hz 9 (by decide) (by decide)) (by decide) (by decide) (by decide) (by decide) (by decide) rfl rfl ?_
  refine g_puta sqC (pc := 45) (i := 6) (dd dtX2_init 25 rfl) fwX2_31 rfl rfl (by decide) (fun _ _ _ h => by cases h; rfl) (Or.inr ⟨_, rfl⟩) ?_
  refine g_aload_n (pc := 48) (i := 0) (dd dtX2_init 26 rfl) rfl rfl ?_
  refine g_bipush (pc := 49) (v := 64) (dd dtX2_init 27 rfl) (by decide) ?_
  refine g_newI sqC (pc := 51) (k := 10) (dd dtX2_init 28 rfl) rfl rfl (hz 10 (by decide) (by decide)) (by decide) (by decide) (by decide) (by decide) (by decide) rfl rfl ?_
  refine g_puta sqC (pc := 53) (i := 6) (dd dtX2_init 29 rfl) fwX2_34 rfl rfl (by decide) (fun _ _ _ h => by cases h; rfl) (Or.inr ⟨_, rfl⟩) ?_
  refine g_aload_n (pc := 56) (i := 0) (dd dtX2_init 30 rfl) rfl rfl ?_
  refine g_ic4 (pc := 57) (dd dtX2_init 31 rfl) ?_
  refine g_newI sqC (pc := 58) (k := 11) (dd dtX2_init 32 rfl) rfl rfl (hz 11 (by decide) (by decide)) (by decide) (by decide) (by decide) (by decide) (by decide) rfl rfl ?_
  refine g_puta sqC (pc := 60) (i := 6) (dd dtX2_init 33 rfl) fwX2_37 rfl rfl (by decide) (fun _ _ _ h => by cases h; rfl) (Or.inr ⟨_, rfl⟩) ?_
  refine g_aload_n (pc := 63) (i := 0) (dd dtX2_init 34 rfl) rfl rfl ?_
  refine g_ic4 (pc := 64) (dd dtX2_init 35 rfl) ?_
  refine g_newI sqC (pc := 65) (k := 12) (dd dtX2_init 36 rfl) rfl rfl (hz 12 (by decide) (by decide)) (by decide) (by decide) (by decide) (by decide) (by decide) rfl rfl ?_
  refine g_puta sqC (pc := 67) (i := 6) (dd dtX2_init 37 rfl) fwX2_40 rfl rfl (by decide) (fun _ _ _ h => by cases h; rfl) (Or.inr ⟨_, rfl⟩) ?_
  refine g_aload_n (pc := 70) (i := 0) (dd dtX2_init 38 rfl) rfl rfl ?_
  refine g_bipush (pc := 71) (v := 6) (dd dtX2_init 39 rfl) (by decide) ?_
  refine g_newI sqC (pc := 73) (k := 13) (dd dtX2_init 40 rfl) rfl rfl (hz 13 (by decide) (by decide)) (by decide) (by decide) (by decide) (by decide) (by decide) rfl rfl ?_
  refine g_puta sqC (pc := 75) (i := 6) (dd dtX2_init 41 rfl) fwX2_43 rfl rfl (by decide) (fun _ _ _ h => by cases h; rfl) (Or.inr ⟨_, rfl⟩) ?_
  refine g_aload_n (pc := 78) (i := 0) (dd dtX2_init 42 rfl) rfl rfl ?_
  refine g_bipush (pc := 79) (v := 14) (dd dtX2_init 43 rfl) (by decide) ?_
  refine g_newI sqC (pc := 81) (k := 14) (dd dtX2_init 44 rfl) rfl rfl (hz 14 (by decide) (by decide)) (by decide) (by decide) (by decide) (by decide) (by decide) rfl rfl ?_
  refine g_puta sqC (pc := 83) (i := 6) (dd dtX2_init 45 rfl) fwX2_46 rfl rfl (by decide) (fun _ _ _ h => by cases h; rfl) (Or.inr ⟨_, rfl⟩) ?_
  refine g_aload_n (pc := 86) (i := 0) (dd dtX2_init 46 rfl) rfl rfl ?_
  refine g_bipush (pc := 87) (v := 14) (dd dtX2_init 47 rfl) (by decide) ?_
  refine g_newZ sqC (pc := 89) (k := 15) (dd dtX2_init 48 rfl) rfl rfl (hz 15 (by decide) (by decide)) (by decide) (by decide) (by decide) (by decide) (by decide) rfl rfl ?_
  refine g_puta sqC (pc := 91) (i := 6) (dd dtX2_init 49 rfl) fwX2_49 rfl rfl (by decide) (fun _ _ _ h => by cases h; rfl) (Or.inr ⟨_, rfl⟩) ?_
  refine g_aload_n (pc := 94) (i := 0) (dd dtX2_init 50 rfl) rfl rfl ?_
  refine g_bipush (pc := 95) (v := 64) (dd dtX2_init 51 rfl) (by decide) ?_
  refine g_newI sqC (pc := 97) (k := 16) (dd dtX2_init 52 rfl) rfl rfl (hz 16 (by decide) (by decide)) (by decide) (by decide) (by decide) (by decide) (by decide) rfl rfl ?_
  refine g_puta sqC (pc := 99) (i := 6) (dd dtX2_init 53 rfl) fwX2_53 rfl rfl (by decide) (fun _ _ _ h => by cases h; rfl) (Or.inr ⟨_, rfl⟩) ?_
  refine g_aload_n (pc := 102) (i := 0) (dd dtX2_init 54 rfl) rfl rfl ?_
  refine g_bipush (pc := 103) (v := 64) (dd dtX2_init 55 rfl) (by decide) ?_
  refine g_newI sqC (pc := 105) (k := 17) (dd dtX2_init 56 rfl) rfl rfl (hz 17 (by decide) (by decide)) (by decide) (by decide) (by decide) (by decide) (by decide) rfl rfl ?_
  refine g_puta sqC (pc := 107) (i := 6) (dd dtX2_init 57 rfl) fwX2_56 rfl rfl (by decide) (fun _ _ _ h => by cases h; rfl) (Or.inr ⟨_, rfl⟩) ?_
  refine g_aload_n (pc := 110) (i := 0) (dd dtX2_init 58 rfl) rfl rfl ?_
  refine g_aload_n (pc := 111) (i := 1) (dd dtX2_init 59 rfl) rfl rfl ?_
  refine g_puta sqC (pc := 112) (i := 6) (dd dtX2_init 60 rfl) fwX2_59 rfl rfl (by decide) (fun _ _ _ h => by cases h; rfl) (Or.inl ⟨_, rfl⟩) ?_
  refine g_ic0 (pc := 115) (dd dtX2_init 61 rfl) ?_
  refine g_istore_n (pc := 116) (i := 2) (lv' := [(2, .int 0), (0, .ref 6), (1, .ref 1)]) (dd dtX2_init 62 rfl) rfl (Nat.le_of_ble_eq_true rfl) rfl ?_
  refine g_eqI (rset_z (k := 10) (I := I) (hz 10 (by decide) (by decide))) ?_
  refine g_fill (N := 64) (head := 117) (tgt := 136) (i := 2) (k := 10) (b := 6) (pb := 6) (pk := 10) (lvr := [(0, .ref 6), (1, .ref 1)]) sqC (dd dtX2_init 63 rfl) rfl (dd dtX2_init 64 rfl) (by decide) (dd dtX2_init 65 rfl) (by decide) (dd dtX2_init 66 rfl) (dd dtX2_init 67 rfl) (dd dtX2_init 68 rfl) (dd dtX2_init 69 rfl) (dd dtX2_init 70 rfl) (dd dtX2_init 71 rfl) (dd dtX2_init 72 rfl) (by decide) (Nat.le_of_ble_eq_true rfl) (fun _ => rfl) (fun _ _ => rfl) fwX2_34 rfl rfl rfl rfl rfl (by decide) ?_ 64 0 rfl
  refine g_ic0 (pc := 136) (dd dtX2_init 73 rfl) ?_
  refine g_istore_n (pc := 137) (i := 2) (lv' := [(2, .int 0), (0, .ref 6), (1, .ref 1)]) (dd dtX2_init 74 rfl) rfl (Nat.le_of_ble_eq_true rfl) rfl ?_
  refine g_eqI (rset_z (k := 14) (I := (rset I 10 (fmN 64))) (hz 14 (by decide) (by decide))) ?_
  refine g_fill (N := 14) (head := 138) (tgt := 157) (i := 2) (k := 14) (b := 6) (pb := 6) (pk := 14) (lvr := [(0, .ref 6), (1, .ref 1)]) sqC (dd dtX2_init 75 rfl) rfl (dd dtX2_init 76 rfl) (by decide) (dd dtX2_init 77 rfl) (by decide) (dd dtX2_init 78 rfl) (dd dtX2_init 79 rfl) (dd dtX2_init 80 rfl) (dd dtX2_init 81 rfl) (dd dtX2_init 82 rfl) (dd dtX2_init 83 rfl) (dd dtX2_init 84 rfl) (by decide) (Nat.le_of_ble_eq_true rfl) (fun _ => rfl) (fun _ _ => rfl) fwX2_46 rfl rfl rfl rfl rfl (by decide) ?_ 14 0 rfl
  exact g_vret (pc := 157) (dd dtX2_init 85 rfl) rfl (by decide) (by decide) rfl rfl rfl
def lg_aside (L : List (Nat × Nat × Nat)) : List (Nat × Nat × Nat) := ((18, 0, 1) :: ((18, 15, 29) :: ((18, 14, 28) :: ((18, 13, 27) :: ((18, 12, 26) :: ((18, 11, 25) :: ((18, 10, 24) :: ((18, 9, 23) :: ((18, 8, 22) :: ((18, 7, 21) :: ((18, 6, 20) :: ((18, 5, 19) :: L))))))))))))
set_option maxHeartbeats 8000000 in
theorem gc_aside {L : List (Nat × Nat × Nat)} {I : Wd} (hz : ∀ a, 18 ≤ a → a ≤ 29 → I a = fun _ => 0) : Gal SyC qC mX2_init 1 11 426 [.ref 18, .ref 1] 19 L I 30 (lg_aside L) ((rset (rset I 22 (fmN 64)) 26 (fmN 14))) := by
  refine Gal.of (by decide) rfl (Nat.le_of_ble_eq_true rfl) ?_
  show Gd _ _ _ _ _ _ _ _ _ _ _ _ _ _ [(0, .ref 18), (1, .ref 1)] _ _ _
  refine g_aload_n (pc := 0) (i := 0) (dd dtX2_init 0 rfl) rfl rfl ?_
  refine g_obj (pc := 1) (dd dtX2_init 1 rfl) woX2_3 (by decide) (by decide) ?_
  refine g_aload_n (pc := 4) (i := 0) (dd dtX2_init 2 rfl) rfl rfl ?_
  refine g_ic0 (pc := 5) (dd dtX2_init 3 rfl) ?_
  refine g_puts sqC (pc := 6) (i := 18) (dd dtX2_init 4 rfl) fwX2_9 rfl rfl rfl rfl (congrFun (hz 18 (by decide) (by decide)) _) ?_
  refine g_aload_n (pc := 9) (i := 0) (dd dtX2_init 5 rfl) rfl rfl ?_
  refine g_ic0 (pc := 10) (dd dtX2_init 6 rfl) ?_
  refine g_puts sqC (pc := 11) (i := 18) (dd dtX2_init 7 rfl) fwX2_15 rfl rfl rfl rfl (congrFun (hz 18 (by decide) (by decide)) _) ?_
  refine g_aload_n (pc := 14) (i := 0) (dd dtX2_init 8 rfl) rfl rfl ?_
  refine g_ic0 (pc := 15) (dd dtX2_init 9 rfl) ?_
  refine g_puts sqC (pc := 16) (i := 18) (dd dtX2_init 10 rfl) fwX2_18 rfl rfl rfl rfl (congrFun (hz 18 (by decide) (by decide)) _) ?_
  refine g_aload_n (pc := 19) (i := 0) (dd dtX2_init 11 rfl) rfl rfl ?_
  refine g_ic0 (pc := 20) (dd dtX2_init 12 rfl) ?_
  refine g_puts sqC (pc := 21) (i := 18) (dd dtX2_init 13 rfl) fwX2_21 rfl rfl rfl rfl (congrFun (hz 18 (by decide) (by decide)) _) ?_
  refine g_aload_n (pc := 24) (i := 0) (dd dtX2_init 14 rfl) rfl rfl ?_
  refine g_bipush (pc := 25) (v := 64) (dd dtX2_init 15 rfl) (by decide) ?_
  refine g_newI sqC (pc := 27) (k := 19) (dd dtX2_init 16 rfl) rfl rfl (hz 19 (by decide) (by decide)) (by decide) (by decide) (by decide) (by decide) (by decide) rfl rfl ?_
  refine g_puta sqC (pc := 29) (i := 18) (dd dtX2_init 17 rfl) fwX2_24 rfl rfl (by decide) (fun _ _ _ h => by cases h; rfl) (Or.inr ⟨_, rfl⟩) ?_
  refine g_aload_n (pc := 32) (i := 0) (dd dtX2_init 18 rfl) rfl rfl ?_
  refine g_bipush (pc := 33) (v := 64) (dd dtX2_init 19 rfl) (by decide) ?_
  refine g_newI sqC (pc := 35) (k := 20) (dd dtX2_init 20 rfl) rfl rfl (hz 20 (by decide) (by decide)) (by decide) (by decide) (by decide) (by decide) (by decide) rfl rfl ?_
  refine g_puta sqC (pc := 37) (i := 18) (dd dtX2_init 21 rfl) fwX2_28 rfl rfl (by decide) (fun _ _ _ h => by cases h; rfl) (Or.inr ⟨_, rfl⟩) ?_
  refine g_aload_n (pc := 40) (i := 0) (dd dtX2_init 22 rfl) rfl rfl ?_
  refine g_bipush (pc := 41) (v := 64) (dd dtX2_init 23 rfl) (by decide) ?_
  refine g_newI sqC (pc := 43) (k := 21) (dd dtX2_init 24 rfl) rfl rfl (hz 21 (by decide) (by decide)) (by decide) (by decide) (by decide) (by decide) (by decide) rfl rfl ?_
  refine g_puta sqC (pc := 45) (i := 18) (dd dtX2_init 25 rfl) fwX2_31 rfl rfl (by decide) (fun _ _ _ h => by cases h; rfl) (Or.inr ⟨_, rfl⟩) ?_
  refine g_aload_n (pc := 48) (i := 0) (dd dtX2_init 26 rfl) rfl rfl ?_
  refine g_bipush (pc := 49) (v := 64) (dd dtX2_init 27 rfl) (by decide) ?_
  refine g_newI sqC (pc := 51) (k := 22) (dd dtX2_init 28 rfl) rfl rfl (hz 22 (by decide) (by decide)) (by decide) (by decide) (by decide) (by decide) (by decide) rfl rfl ?_
  refine g_puta sqC (pc := 53) (i := 18) (dd dtX2_init 29 rfl) fwX2_34 rfl rfl (by decide) (fun _ _ _ h => by cases h; rfl) (Or.inr ⟨_, rfl⟩) ?_
  refine g_aload_n (pc := 56) (i := 0) (dd dtX2_init 30 rfl) rfl rfl ?_
  refine g_ic4 (pc := 57) (dd dtX2_init 31 rfl) ?_
  refine g_newI sqC (pc := 58) (k := 23) (dd dtX2_init 32 rfl) rfl rfl (hz 23 (by decide) (by decide)) (by decide) (by decide) (by decide) (by decide) (by decide) rfl rfl ?_
  refine g_puta sqC (pc := 60) (i := 18) (dd dtX2_init 33 rfl) fwX2_37 rfl rfl (by decide) (fun _ _ _ h => by cases h; rfl) (Or.inr ⟨_, rfl⟩) ?_
  refine g_aload_n (pc := 63) (i := 0) (dd dtX2_init 34 rfl) rfl rfl ?_
  refine g_ic4 (pc := 64) (dd dtX2_init 35 rfl) ?_
  refine g_newI sqC (pc := 65) (k := 24) (dd dtX2_init 36 rfl) rfl rfl (hz 24 (by decide) (by decide)) (by decide) (by decide) (by decide) (by decide) (by decide) rfl rfl ?_
  refine g_puta sqC (pc := 67) (i := 18) (dd dtX2_init 37 rfl) fwX2_40 rfl rfl (by decide) (fun _ _ _ h => by cases h; rfl) (Or.inr ⟨_, rfl⟩) ?_
  refine g_aload_n (pc := 70) (i := 0) (dd dtX2_init 38 rfl) rfl rfl ?_
  refine g_bipush (pc := 71) (v := 6) (dd dtX2_init 39 rfl) (by decide) ?_
  refine g_newI sqC (pc := 73) (k := 25) (dd dtX2_init 40 rfl) rfl rfl (hz 25 (by decide) (by decide)) (by decide) (by decide) (by decide) (by decide) (by decide) rfl rfl ?_
  refine g_puta sqC (pc := 75) (i := 18) (dd dtX2_init 41 rfl) fwX2_43 rfl rfl (by decide) (fun _ _ _ h => by cases h; rfl) (Or.inr ⟨_, rfl⟩) ?_
  refine g_aload_n (pc := 78) (i := 0) (dd dtX2_init 42 rfl) rfl rfl ?_
  refine g_bipush (pc := 79) (v := 14) (dd dtX2_init 43 rfl) (by decide) ?_
  refine g_newI sqC (pc := 81) (k := 26) (dd dtX2_init 44 rfl) rfl rfl (hz 26 (by decide) (by decide)) (by decide) (by decide) (by decide) (by decide) (by decide) rfl rfl ?_
  refine g_puta sqC (pc := 83) (i := 18) (dd dtX2_init 45 rfl) fwX2_46 rfl rfl (by decide) (fun _ _ _ h => by cases h; rfl) (Or.inr ⟨_, rfl⟩) ?_
  refine g_aload_n (pc := 86) (i := 0) (dd dtX2_init 46 rfl) rfl rfl ?_
  refine g_bipush (pc := 87) (v := 14) (dd dtX2_init 47 rfl) (by decide) ?_
  refine g_newZ sqC (pc := 89) (k := 27) (dd dtX2_init 48 rfl) rfl rfl (hz 27 (by decide) (by decide)) (by decide) (by decide) (by decide) (by decide) (by decide) rfl rfl ?_
  refine g_puta sqC (pc := 91) (i := 18) (dd dtX2_init 49 rfl) fwX2_49 rfl rfl (by decide) (fun _ _ _ h => by cases h; rfl) (Or.inr ⟨_, rfl⟩) ?_
  refine g_aload_n (pc := 94) (i := 0) (dd dtX2_init 50 rfl) rfl rfl ?_
  refine g_bipush (pc := 95) (v := 64) (dd dtX2_init 51 rfl) (by decide) ?_
  refine g_newI sqC (pc := 97) (k := 28) (dd dtX2_init 52 rfl) rfl rfl (hz 28 (by decide) (by decide)) (by decide) (by decide) (by decide) (by decide) (by decide) rfl rfl ?_
  refine g_puta sqC (pc := 99) (i := 18) (dd dtX2_init 53 rfl) fwX2_53 rfl rfl (by decide) (fun _ _ _ h => by cases h; rfl) (Or.inr ⟨_, rfl⟩) ?_
  refine g_aload_n (pc := 102) (i := 0) (dd dtX2_init 54 rfl) rfl rfl ?_
  refine g_bipush (pc := 103) (v := 64) (dd dtX2_init 55 rfl) (by decide) ?_
  refine g_newI sqC (pc := 105) (k := 29) (dd dtX2_init 56 rfl) rfl rfl (hz 29 (by decide) (by decide)) (by decide) (by decide) (by decide) (by decide) (by decide) rfl rfl ?_
  refine g_puta sqC (pc := 107) (i := 18) (dd dtX2_init 57 rfl) fwX2_56 rfl rfl (by decide) (fun _ _ _ h => by cases h; rfl) (Or.inr ⟨_, rfl⟩) ?_
  refine g_aload_n (pc := 110) (i := 0) (dd dtX2_init 58 rfl) rfl rfl ?_
  refine g_aload_n (pc := 111) (i := 1) (dd dtX2_init 59 rfl) rfl rfl ?_
  refine g_puta sqC (pc := 112) (i := 18) (dd dtX2_init 60 rfl) fwX2_59 rfl rfl (by decide) (fun _ _ _ h => by cases h; rfl) (Or.inl ⟨_, rfl⟩) ?_
  refine g_ic0 (pc := 115) (dd dtX2_init 61 rfl) ?_
  refine g_istore_n (pc := 116) (i := 2) (lv' := [(2, .int 0), (0, .ref 18), (1, .ref 1)]) (dd dtX2_init 62 rfl) rfl (Nat.le_of_ble_eq_true rfl) rfl ?_
  refine g_eqI (rset_z (k := 22) (I := I) (hz 22 (by decide) (by decide))) ?_
  refine g_fill (N := 64) (head := 117) (tgt := 136) (i := 2) (k := 22) (b := 18) (pb := 18) (pk := 22) (lvr := [(0, .ref 18), (1, .ref 1)]) sqC (dd dtX2_init 63 rfl) rfl (dd dtX2_init 64 rfl) (by decide) (dd dtX2_init 65 rfl) (by decide) (dd dtX2_init 66 rfl) (dd dtX2_init 67 rfl) (dd dtX2_init 68 rfl) (dd dtX2_init 69 rfl) (dd dtX2_init 70 rfl) (dd dtX2_init 71 rfl) (dd dtX2_init 72 rfl) (by decide) (Nat.le_of_ble_eq_true rfl) (fun _ => rfl) (fun _ _ => rfl) fwX2_34 rfl rfl rfl rfl rfl (by decide) ?_ 64 0 rfl
  refine g_ic0 (pc := 136) (dd dtX2_init 73 rfl) ?_
  refine g_istore_n (pc := 137) (i := 2) (lv' := [(2, .int 0), (0, .ref 18), (1, .ref 1)]) (dd dtX2_init 74 rfl) rfl (Nat.le_of_ble_eq_true rfl) rfl ?_
  refine g_eqI (rset_z (k := 26) (I := (rset I 22 (fmN 64))) (hz 26 (by decide) (by decide))) ?_
  refine g_fill (N := 14) (head := 138) (tgt := 157) (i := 2) (k := 26) (b := 18) (pb := 18) (pk := 26) (lvr := [(0, .ref 18), (1, .ref 1)]) sqC (dd dtX2_init 75 rfl) rfl (dd dtX2_init 76 rfl) (by decide) (dd dtX2_init 77 rfl) (by decide) (dd dtX2_init 78 rfl) (dd dtX2_init 79 rfl) (dd dtX2_init 80 rfl) (dd dtX2_init 81 rfl) (dd dtX2_init 82 rfl) (dd dtX2_init 83 rfl) (dd dtX2_init 84 rfl) (by decide) (Nat.le_of_ble_eq_true rfl) (fun _ => rfl) (fun _ _ => rfl) fwX2_46 rfl rfl rfl rfl rfl (by decide) ?_ 14 0 rfl
  exact g_vret (pc := 157) (dd dtX2_init 85 rfl) rfl (by decide) (by decide) rfl rfl rfl
def lg_kept (L : List (Nat × Nat × Nat)) : List (Nat × Nat × Nat) := ((30, 0, 1) :: ((30, 15, 41) :: ((30, 14, 40) :: ((30, 13, 39) :: ((30, 12, 38) :: ((30, 11, 37) :: ((30, 10, 36) :: ((30, 9, 35) :: ((30, 8, 34) :: ((30, 7, 33) :: ((30, 6, 32) :: ((30, 5, 31) :: L))))))))))))
set_option maxHeartbeats 8000000 in
theorem gc_kept {L : List (Nat × Nat × Nat)} {I : Wd} (hz : ∀ a, 30 ≤ a → a ≤ 41 → I a = fun _ => 0) : Gal SyC qC mX2_init 1 11 426 [.ref 30, .ref 1] 31 L I 42 (lg_kept L) ((rset (rset I 34 (fmN 64)) 38 (fmN 14))) := by
  refine Gal.of (by decide) rfl (Nat.le_of_ble_eq_true rfl) ?_
  show Gd _ _ _ _ _ _ _ _ _ _ _ _ _ _ [(0, .ref 30), (1, .ref 1)] _ _ _
  refine g_aload_n (pc := 0) (i := 0) (dd dtX2_init 0 rfl) rfl rfl ?_
  refine g_obj (pc := 1) (dd dtX2_init 1 rfl) woX2_3 (by decide) (by decide) ?_
  refine g_aload_n (pc := 4) (i := 0) (dd dtX2_init 2 rfl) rfl rfl ?_
  refine g_ic0 (pc := 5) (dd dtX2_init 3 rfl) ?_
  refine g_puts sqC (pc := 6) (i := 30) (dd dtX2_init 4 rfl) fwX2_9 rfl rfl rfl rfl (congrFun (hz 30 (by decide) (by decide)) _) ?_
  refine g_aload_n (pc := 9) (i := 0) (dd dtX2_init 5 rfl) rfl rfl ?_
  refine g_ic0 (pc := 10) (dd dtX2_init 6 rfl) ?_
  refine g_puts sqC (pc := 11) (i := 30) (dd dtX2_init 7 rfl) fwX2_15 rfl rfl rfl rfl (congrFun (hz 30 (by decide) (by decide)) _) ?_
  refine g_aload_n (pc := 14) (i := 0) (dd dtX2_init 8 rfl) rfl rfl ?_
  refine g_ic0 (pc := 15) (dd dtX2_init 9 rfl) ?_
  refine g_puts sqC (pc := 16) (i := 30) (dd dtX2_init 10 rfl) fwX2_18 rfl rfl rfl rfl (congrFun (hz 30 (by decide) (by decide)) _) ?_
  refine g_aload_n (pc := 19) (i := 0) (dd dtX2_init 11 rfl) rfl rfl ?_
  refine g_ic0 (pc := 20) (dd dtX2_init 12 rfl) ?_
  refine g_puts sqC (pc := 21) (i := 30) (dd dtX2_init 13 rfl) fwX2_21 rfl rfl rfl rfl (congrFun (hz 30 (by decide) (by decide)) _) ?_
  refine g_aload_n (pc := 24) (i := 0) (dd dtX2_init 14 rfl) rfl rfl ?_
  refine g_bipush (pc := 25) (v := 64) (dd dtX2_init 15 rfl) (by decide) ?_
  refine g_newI sqC (pc := 27) (k := 31) (dd dtX2_init 16 rfl) rfl rfl (hz 31 (by decide) (by decide)) (by decide) (by decide) (by decide) (by decide) (by decide) rfl rfl ?_
  refine g_puta sqC (pc := 29) (i := 30) (dd dtX2_init 17 rfl) fwX2_24 rfl rfl (by decide) (fun _ _ _ h => by cases h; rfl) (Or.inr ⟨_, rfl⟩) ?_
  refine g_aload_n (pc := 32) (i := 0) (dd dtX2_init 18 rfl) rfl rfl ?_
  refine g_bipush (pc := 33) (v := 64) (dd dtX2_init 19 rfl) (by decide) ?_
  refine g_newI sqC (pc := 35) (k := 32) (dd dtX2_init 20 rfl) rfl rfl (hz 32 (by decide) (by decide)) (by decide) (by decide) (by decide) (by decide) (by decide) rfl rfl ?_
  refine g_puta sqC (pc := 37) (i := 30) (dd dtX2_init 21 rfl) fwX2_28 rfl rfl (by decide) (fun _ _ _ h => by cases h; rfl) (Or.inr ⟨_, rfl⟩) ?_
  refine g_aload_n (pc := 40) (i := 0) (dd dtX2_init 22 rfl) rfl rfl ?_
  refine g_bipush (pc := 41) (v := 64) (dd dtX2_init 23 rfl) (by decide) ?_
  refine g_newI sqC (pc := 43) (k := 33) (dd dtX2_init 24 rfl) rfl rfl (hz 33 (by decide) (by decide)) (by decide) (by decide) (by decide) (by decide) (by decide) rfl rfl ?_
  refine g_puta sqC (pc := 45) (i := 30) (dd dtX2_init 25 rfl) fwX2_31 rfl rfl (by decide) (fun _ _ _ h => by cases h; rfl) (Or.inr ⟨_, rfl⟩) ?_
  refine g_aload_n (pc := 48) (i := 0) (dd dtX2_init 26 rfl) rfl rfl ?_
  refine g_bipush (pc := 49) (v := 64) (dd dtX2_init 27 rfl) (by decide) ?_
  refine g_newI sqC (pc := 51) (k := 34) (dd dtX2_init 28 rfl) rfl rfl (hz 34 (by decide) (by decide)) (by decide) (by decide) (by decide) (by decide) (by decide) rfl rfl ?_
  refine g_puta sqC (pc := 53) (i := 30) (dd dtX2_init 29 rfl) fwX2_34 rfl rfl (by decide) (fun _ _ _ h => by cases h; rfl) (Or.inr ⟨_, rfl⟩) ?_
  refine g_aload_n (pc := 56) (i := 0) (dd dtX2_init 30 rfl) rfl rfl ?_
  refine g_ic4 (pc := 57) (dd dtX2_init 31 rfl) ?_
  refine g_newI sqC (pc := 58) (k := 35) (dd dtX2_init 32 rfl) rfl rfl (hz 35 (by decide) (by decide)) (by decide) (by decide) (by decide) (by decide) (by decide) rfl rfl ?_
  refine g_puta sqC (pc := 60) (i := 30) (dd dtX2_init 33 rfl) fwX2_37 rfl rfl (by decide) (fun _ _ _ h => by cases h; rfl) (Or.inr ⟨_, rfl⟩) ?_
  refine g_aload_n (pc := 63) (i := 0) (dd dtX2_init 34 rfl) rfl rfl ?_
  refine g_ic4 (pc := 64) (dd dtX2_init 35 rfl) ?_
  refine g_newI sqC (pc := 65) (k := 36) (dd dtX2_init 36 rfl) rfl rfl (hz 36 (by decide) (by decide)) (by decide) (by decide) (by decide) (by decide) (by decide) rfl rfl ?_
  refine g_puta sqC (pc := 67) (i := 30) (dd dtX2_init 37 rfl) fwX2_40 rfl rfl (by decide) (fun _ _ _ h => by cases h; rfl) (Or.inr ⟨_, rfl⟩) ?_
  refine g_aload_n (pc := 70) (i := 0) (dd dtX2_init 38 rfl) rfl rfl ?_
  refine g_bipush (pc := 71) (v := 6) (dd dtX2_init 39 rfl) (by decide) ?_
  refine g_newI sqC (pc := 73) (k := 37) (dd dtX2_init 40 rfl) rfl rfl (hz 37 (by decide) (by decide)) (by decide) (by decide) (by decide) (by decide) (by decide) rfl rfl ?_
  refine g_puta sqC (pc := 75) (i := 30) (dd dtX2_init 41 rfl) fwX2_43 rfl rfl (by decide) (fun _ _ _ h => by cases h; rfl) (Or.inr ⟨_, rfl⟩) ?_
  refine g_aload_n (pc := 78) (i := 0) (dd dtX2_init 42 rfl) rfl rfl ?_
  refine g_bipush (pc := 79) (v := 14) (dd dtX2_init 43 rfl) (by decide) ?_
  refine g_newI sqC (pc := 81) (k := 38) (dd dtX2_init 44 rfl) rfl rfl (hz 38 (by decide) (by decide)) (by decide) (by decide) (by decide) (by decide) (by decide) rfl rfl ?_
  refine g_puta sqC (pc := 83) (i := 30) (dd dtX2_init 45 rfl) fwX2_46 rfl rfl (by decide) (fun _ _ _ h => by cases h; rfl) (Or.inr ⟨_, rfl⟩) ?_
  refine g_aload_n (pc := 86) (i := 0) (dd dtX2_init 46 rfl) rfl rfl ?_
  refine g_bipush (pc := 87) (v := 14) (dd dtX2_init 47 rfl) (by decide) ?_
  refine g_newZ sqC (pc := 89) (k := 39) (dd dtX2_init 48 rfl) rfl rfl (hz 39 (by decide) (by decide)) (by decide) (by decide) (by decide) (by decide) (by decide) rfl rfl ?_
  refine g_puta sqC (pc := 91) (i := 30) (dd dtX2_init 49 rfl) fwX2_49 rfl rfl (by decide) (fun _ _ _ h => by cases h; rfl) (Or.inr ⟨_, rfl⟩) ?_
  refine g_aload_n (pc := 94) (i := 0) (dd dtX2_init 50 rfl) rfl rfl ?_
  refine g_bipush (pc := 95) (v := 64) (dd dtX2_init 51 rfl) (by decide) ?_
  refine g_newI sqC (pc := 97) (k := 40) (dd dtX2_init 52 rfl) rfl rfl (hz 40 (by decide) (by decide)) (by decide) (by decide) (by decide) (by decide) (by decide) rfl rfl ?_
  refine g_puta sqC (pc := 99) (i := 30) (dd dtX2_init 53 rfl) fwX2_53 rfl rfl (by decide) (fun _ _ _ h => by cases h; rfl) (Or.inr ⟨_, rfl⟩) ?_
  refine g_aload_n (pc := 102) (i := 0) (dd dtX2_init 54 rfl) rfl rfl ?_
  refine g_bipush (pc := 103) (v := 64) (dd dtX2_init 55 rfl) (by decide) ?_
  refine g_newI sqC (pc := 105) (k := 41) (dd dtX2_init 56 rfl) rfl rfl (hz 41 (by decide) (by decide)) (by decide) (by decide) (by decide) (by decide) (by decide) rfl rfl ?_
  refine g_puta sqC (pc := 107) (i := 30) (dd dtX2_init 57 rfl) fwX2_56 rfl rfl (by decide) (fun _ _ _ h => by cases h; rfl) (Or.inr ⟨_, rfl⟩) ?_
  refine g_aload_n (pc := 110) (i := 0) (dd dtX2_init 58 rfl) rfl rfl ?_
  refine g_aload_n (pc := 111) (i := 1) (dd dtX2_init 59 rfl) rfl rfl ?_
  refine g_puta sqC (pc := 112) (i := 30) (dd dtX2_init 60 rfl) fwX2_59 rfl rfl (by decide) (fun _ _ _ h => by cases h; rfl) (Or.inl ⟨_, rfl⟩) ?_
  refine g_ic0 (pc := 115) (dd dtX2_init 61 rfl) ?_
  refine g_istore_n (pc := 116) (i := 2) (lv' := [(2, .int 0), (0, .ref 30), (1, .ref 1)]) (dd dtX2_init 62 rfl) rfl (Nat.le_of_ble_eq_true rfl) rfl ?_
  refine g_eqI (rset_z (k := 34) (I := I) (hz 34 (by decide) (by decide))) ?_
  refine g_fill (N := 64) (head := 117) (tgt := 136) (i := 2) (k := 34) (b := 30) (pb := 30) (pk := 34) (lvr := [(0, .ref 30), (1, .ref 1)]) sqC (dd dtX2_init 63 rfl) rfl (dd dtX2_init 64 rfl) (by decide) (dd dtX2_init 65 rfl) (by decide) (dd dtX2_init 66 rfl) (dd dtX2_init 67 rfl) (dd dtX2_init 68 rfl) (dd dtX2_init 69 rfl) (dd dtX2_init 70 rfl) (dd dtX2_init 71 rfl) (dd dtX2_init 72 rfl) (by decide) (Nat.le_of_ble_eq_true rfl) (fun _ => rfl) (fun _ _ => rfl) fwX2_34 rfl rfl rfl rfl rfl (by decide) ?_ 64 0 rfl
  refine g_ic0 (pc := 136) (dd dtX2_init 73 rfl) ?_
  refine g_istore_n (pc := 137) (i := 2) (lv' := [(2, .int 0), (0, .ref 30), (1, .ref 1)]) (dd dtX2_init 74 rfl) rfl (Nat.le_of_ble_eq_true rfl) rfl ?_
  refine g_eqI (rset_z (k := 38) (I := (rset I 34 (fmN 64))) (hz 38 (by decide) (by decide))) ?_
  refine g_fill (N := 14) (head := 138) (tgt := 157) (i := 2) (k := 38) (b := 30) (pb := 30) (pk := 38) (lvr := [(0, .ref 30), (1, .ref 1)]) sqC (dd dtX2_init 75 rfl) rfl (dd dtX2_init 76 rfl) (by decide) (dd dtX2_init 77 rfl) (by decide) (dd dtX2_init 78 rfl) (dd dtX2_init 79 rfl) (dd dtX2_init 80 rfl) (dd dtX2_init 81 rfl) (dd dtX2_init 82 rfl) (dd dtX2_init 83 rfl) (dd dtX2_init 84 rfl) (by decide) (Nat.le_of_ble_eq_true rfl) (fun _ => rfl) (fun _ _ => rfl) fwX2_46 rfl rfl rfl rfl rfl (by decide) ?_ 14 0 rfl
  exact g_vret (pc := 157) (dd dtX2_init 85 rfl) rfl (by decide) (by decide) rfl rfl rfl
def tX6_init : List (Nat × Instr × Nat) := [(0, .aload_n 0, 1), (1, .invokespecial 3, 3), (4, .aload_n 0, 1), (5, .iconst 0, 1), (6, .putfield 9, 3), (9, .aload_n 0, 1), (10, .bipush 30, 2), (12, .newarray .int, 2), (14, .putfield 15, 3), (17, .aload_n 0, 1), (18, .bipush 30, 2), (20, .newarray .int, 2), (22, .putfield 19, 3), (25, .aload_n 0, 1), (26, .bipush 30, 2), (28, .newarray .int, 2), (30, .putfield 22, 3), (33, .aload_n 0, 1), (34, .bipush 30, 2), (36, .newarray .int, 2), (38, .putfield 25, 3), (41, .aload_n 0, 1), (42, .bipush 30, 2), (44, .newarray .int, 2), (46, .putfield 28, 3), (49, .aload_n 0, 1), (50, .bipush 30, 2), (52, .newarray .int, 2), (54, .putfield 31, 3), (57, .return_, 1)]
theorem dtX6_init : dec_ok mX6_init.2.1 tX6_init = true := by decide +kernel
def lg_signs (L : List (Nat × Nat × Nat)) : List (Nat × Nat × Nat) := ((42, 6, 48) :: ((42, 5, 47) :: ((42, 4, 46) :: ((42, 3, 45) :: ((42, 2, 44) :: ((42, 1, 43) :: L))))))
set_option maxHeartbeats 8000000 in
theorem gc_signs {L : List (Nat × Nat × Nat)} {I : Wd} (hz : ∀ a, 42 ≤ a → a ≤ 48 → I a = fun _ => 0) : Gal SyC qC mX6_init 1 6 180 [.ref 42] 43 L I 49 (lg_signs L) (I) := by
  refine Gal.of (by decide) rfl (Nat.le_of_ble_eq_true rfl) ?_
  show Gd _ _ _ _ _ _ _ _ _ _ _ _ _ _ [(0, .ref 42)] _ _ _
  refine g_aload_n (pc := 0) (i := 0) (dd dtX6_init 0 rfl) rfl rfl ?_
  refine g_obj (pc := 1) (dd dtX6_init 1 rfl) woX6_3 (by decide) (by decide) ?_
  refine g_aload_n (pc := 4) (i := 0) (dd dtX6_init 2 rfl) rfl rfl ?_
  refine g_ic0 (pc := 5) (dd dtX6_init 3 rfl) ?_
  refine g_puts sqC (pc := 6) (i := 42) (dd dtX6_init 4 rfl) fwX6_9 rfl rfl rfl rfl (congrFun (hz 42 (by decide) (by decide)) _) ?_
  refine g_aload_n (pc := 9) (i := 0) (dd dtX6_init 5 rfl) rfl rfl ?_
  refine g_bipush (pc := 10) (v := 30) (dd dtX6_init 6 rfl) (by decide) ?_
  refine g_newI sqC (pc := 12) (k := 43) (dd dtX6_init 7 rfl) rfl rfl (hz 43 (by decide) (by decide)) (by decide) (by decide) (by decide) (by decide) (by decide) rfl rfl ?_
  refine g_puta sqC (pc := 14) (i := 42) (dd dtX6_init 8 rfl) fwX6_15 rfl rfl (by decide) (fun _ _ _ h => by cases h; rfl) (Or.inr ⟨_, rfl⟩) ?_
  refine g_aload_n (pc := 17) (i := 0) (dd dtX6_init 9 rfl) rfl rfl ?_
  refine g_bipush (pc := 18) (v := 30) (dd dtX6_init 10 rfl) (by decide) ?_
  refine g_newI sqC (pc := 20) (k := 44) (dd dtX6_init 11 rfl) rfl rfl (hz 44 (by decide) (by decide)) (by decide) (by decide) (by decide) (by decide) (by decide) rfl rfl ?_
  refine g_puta sqC (pc := 22) (i := 42) (dd dtX6_init 12 rfl) fwX6_19 rfl rfl (by decide) (fun _ _ _ h => by cases h; rfl) (Or.inr ⟨_, rfl⟩) ?_
  refine g_aload_n (pc := 25) (i := 0) (dd dtX6_init 13 rfl) rfl rfl ?_
  refine g_bipush (pc := 26) (v := 30) (dd dtX6_init 14 rfl) (by decide) ?_
  refine g_newI sqC (pc := 28) (k := 45) (dd dtX6_init 15 rfl) rfl rfl (hz 45 (by decide) (by decide)) (by decide) (by decide) (by decide) (by decide) (by decide) rfl rfl ?_
  refine g_puta sqC (pc := 30) (i := 42) (dd dtX6_init 16 rfl) fwX6_22 rfl rfl (by decide) (fun _ _ _ h => by cases h; rfl) (Or.inr ⟨_, rfl⟩) ?_
  refine g_aload_n (pc := 33) (i := 0) (dd dtX6_init 17 rfl) rfl rfl ?_
  refine g_bipush (pc := 34) (v := 30) (dd dtX6_init 18 rfl) (by decide) ?_
  refine g_newI sqC (pc := 36) (k := 46) (dd dtX6_init 19 rfl) rfl rfl (hz 46 (by decide) (by decide)) (by decide) (by decide) (by decide) (by decide) (by decide) rfl rfl ?_
  refine g_puta sqC (pc := 38) (i := 42) (dd dtX6_init 20 rfl) fwX6_25 rfl rfl (by decide) (fun _ _ _ h => by cases h; rfl) (Or.inr ⟨_, rfl⟩) ?_
  refine g_aload_n (pc := 41) (i := 0) (dd dtX6_init 21 rfl) rfl rfl ?_
  refine g_bipush (pc := 42) (v := 30) (dd dtX6_init 22 rfl) (by decide) ?_
  refine g_newI sqC (pc := 44) (k := 47) (dd dtX6_init 23 rfl) rfl rfl (hz 47 (by decide) (by decide)) (by decide) (by decide) (by decide) (by decide) (by decide) rfl rfl ?_
  refine g_puta sqC (pc := 46) (i := 42) (dd dtX6_init 24 rfl) fwX6_28 rfl rfl (by decide) (fun _ _ _ h => by cases h; rfl) (Or.inr ⟨_, rfl⟩) ?_
  refine g_aload_n (pc := 49) (i := 0) (dd dtX6_init 25 rfl) rfl rfl ?_
  refine g_bipush (pc := 50) (v := 30) (dd dtX6_init 26 rfl) (by decide) ?_
  refine g_newI sqC (pc := 52) (k := 48) (dd dtX6_init 27 rfl) rfl rfl (hz 48 (by decide) (by decide)) (by decide) (by decide) (by decide) (by decide) (by decide) rfl rfl ?_
  refine g_puta sqC (pc := 54) (i := 42) (dd dtX6_init 28 rfl) fwX6_31 rfl rfl (by decide) (fun _ _ _ h => by cases h; rfl) (Or.inr ⟨_, rfl⟩) ?_
  refine g_vret (pc := 57) (dd dtX6_init 29 rfl) rfl (by decide) (by decide) rfl ?_ ?_
  · rfl
  · rfl
def tX9_init : List (Nat × Instr × Nat) := [(0, .aload_n 0, 1), (1, .invokespecial 3, 3), (4, .aload_n 0, 1), (5, .iconst 0, 1), (6, .putfield 9, 3), (9, .iload_n 1, 1), (10, .iconst 0, 1), (11, .invokestatic 15, 3), (14, .istore_n 2, 1), (15, .aload_n 0, 1), (16, .iload_n 2, 1), (17, .newarray .int, 2), (19, .putfield 21, 3), (22, .aload_n 0, 1), (23, .iload_n 2, 1), (24, .newarray .int, 2), (26, .putfield 25, 3), (29, .aload_n 0, 1), (30, .iload_n 2, 1), (31, .newarray .int, 2), (33, .putfield 28, 3), (36, .return_, 1)]
theorem dtX9_init : dec_ok mX9_init.2.1 tX9_init = true := by decide +kernel
def lg_losts (L : List (Nat × Nat × Nat)) : List (Nat × Nat × Nat) := ((49, 3, 52) :: ((49, 2, 51) :: ((49, 1, 50) :: L)))
set_option maxHeartbeats 8000000 in
theorem gc_losts {L : List (Nat × Nat × Nat)} {I : Wd} (hz : ∀ a, 49 ≤ a → a ≤ 52 → I a = fun _ => 0) : Gal SyC qC mX9_init 1 3 24 [.ref 49, .int 8] 50 L I 53 (lg_losts L) (I) := by
  refine Gal.of (by decide) rfl (Nat.le_of_ble_eq_true rfl) ?_
  show Gd _ _ _ _ _ _ _ _ _ _ _ _ _ _ [(0, .ref 49), (1, .int 8)] _ _ _
  refine g_aload_n (pc := 0) (i := 0) (dd dtX9_init 0 rfl) rfl rfl ?_
  refine g_obj (pc := 1) (dd dtX9_init 1 rfl) woX9_3 (by decide) (by decide) ?_
  refine g_aload_n (pc := 4) (i := 0) (dd dtX9_init 2 rfl) rfl rfl ?_
  refine g_ic0 (pc := 5) (dd dtX9_init 3 rfl) ?_
  refine g_puts sqC (pc := 6) (i := 49) (dd dtX9_init 4 rfl) fwX9_9 rfl rfl rfl rfl (congrFun (hz 49 (by decide) (by decide)) _) ?_
  refine g_iload_n (pc := 9) (i := 1) (dd dtX9_init 5 rfl) rfl rfl ?_
  refine g_ic0 (pc := 10) (dd dtX9_init 6 rfl) ?_
  refine g_mmax (pc := 11) (v := 8) (by decide) (dd dtX9_init 7 rfl) wlX9_15 (by decide) (by decide) (by decide) ?_
  refine g_istore_n (pc := 14) (i := 2) (lv' := [(2, .int 8), (0, .ref 49), (1, .int 8)]) (dd dtX9_init 8 rfl) rfl (Nat.le_of_ble_eq_true rfl) rfl ?_
  refine g_aload_n (pc := 15) (i := 0) (dd dtX9_init 9 rfl) rfl rfl ?_
  refine g_iload_n (pc := 16) (i := 2) (dd dtX9_init 10 rfl) rfl rfl ?_
  refine g_newI sqC (pc := 17) (k := 50) (dd dtX9_init 11 rfl) rfl rfl (hz 50 (by decide) (by decide)) (by decide) (by decide) (by decide) (by decide) (by decide) rfl rfl ?_
  refine g_puta sqC (pc := 19) (i := 49) (dd dtX9_init 12 rfl) fwX9_21 rfl rfl (by decide) (fun _ _ _ h => by cases h; rfl) (Or.inr ⟨_, rfl⟩) ?_
  refine g_aload_n (pc := 22) (i := 0) (dd dtX9_init 13 rfl) rfl rfl ?_
  refine g_iload_n (pc := 23) (i := 2) (dd dtX9_init 14 rfl) rfl rfl ?_
  refine g_newI sqC (pc := 24) (k := 51) (dd dtX9_init 15 rfl) rfl rfl (hz 51 (by decide) (by decide)) (by decide) (by decide) (by decide) (by decide) (by decide) rfl rfl ?_
  refine g_puta sqC (pc := 26) (i := 49) (dd dtX9_init 16 rfl) fwX9_25 rfl rfl (by decide) (fun _ _ _ h => by cases h; rfl) (Or.inr ⟨_, rfl⟩) ?_
  refine g_aload_n (pc := 29) (i := 0) (dd dtX9_init 17 rfl) rfl rfl ?_
  refine g_iload_n (pc := 30) (i := 2) (dd dtX9_init 18 rfl) rfl rfl ?_
  refine g_newI sqC (pc := 31) (k := 52) (dd dtX9_init 19 rfl) rfl rfl (hz 52 (by decide) (by decide)) (by decide) (by decide) (by decide) (by decide) (by decide) rfl rfl ?_
  refine g_puta sqC (pc := 33) (i := 49) (dd dtX9_init 20 rfl) fwX9_28 rfl rfl (by decide) (fun _ _ _ h => by cases h; rfl) (Or.inr ⟨_, rfl⟩) ?_
  refine g_vret (pc := 36) (dd dtX9_init 21 rfl) rfl (by decide) (by decide) rfl ?_ ?_
  · rfl
  · rfl
def lg_warns (L : List (Nat × Nat × Nat)) : List (Nat × Nat × Nat) := ((53, 3, 56) :: ((53, 2, 55) :: ((53, 1, 54) :: L)))
set_option maxHeartbeats 8000000 in
theorem gc_warns {L : List (Nat × Nat × Nat)} {I : Wd} (hz : ∀ a, 53 ≤ a → a ≤ 56 → I a = fun _ => 0) : Gal SyC qC mX9_init 1 3 90 [.ref 53, .int 30] 54 L I 57 (lg_warns L) (I) := by
  refine Gal.of (by decide) rfl (Nat.le_of_ble_eq_true rfl) ?_
  show Gd _ _ _ _ _ _ _ _ _ _ _ _ _ _ [(0, .ref 53), (1, .int 30)] _ _ _
  refine g_aload_n (pc := 0) (i := 0) (dd dtX9_init 0 rfl) rfl rfl ?_
  refine g_obj (pc := 1) (dd dtX9_init 1 rfl) woX9_3 (by decide) (by decide) ?_
  refine g_aload_n (pc := 4) (i := 0) (dd dtX9_init 2 rfl) rfl rfl ?_
  refine g_ic0 (pc := 5) (dd dtX9_init 3 rfl) ?_
  refine g_puts sqC (pc := 6) (i := 53) (dd dtX9_init 4 rfl) fwX9_9 rfl rfl rfl rfl (congrFun (hz 53 (by decide) (by decide)) _) ?_
  refine g_iload_n (pc := 9) (i := 1) (dd dtX9_init 5 rfl) rfl rfl ?_
  refine g_ic0 (pc := 10) (dd dtX9_init 6 rfl) ?_
  refine g_mmax (pc := 11) (v := 30) (by decide) (dd dtX9_init 7 rfl) wlX9_15 (by decide) (by decide) (by decide) ?_
  refine g_istore_n (pc := 14) (i := 2) (lv' := [(2, .int 30), (0, .ref 53), (1, .int 30)]) (dd dtX9_init 8 rfl) rfl (Nat.le_of_ble_eq_true rfl) rfl ?_
  refine g_aload_n (pc := 15) (i := 0) (dd dtX9_init 9 rfl) rfl rfl ?_
  refine g_iload_n (pc := 16) (i := 2) (dd dtX9_init 10 rfl) rfl rfl ?_
  refine g_newI sqC (pc := 17) (k := 54) (dd dtX9_init 11 rfl) rfl rfl (hz 54 (by decide) (by decide)) (by decide) (by decide) (by decide) (by decide) (by decide) rfl rfl ?_
  refine g_puta sqC (pc := 19) (i := 53) (dd dtX9_init 12 rfl) fwX9_21 rfl rfl (by decide) (fun _ _ _ h => by cases h; rfl) (Or.inr ⟨_, rfl⟩) ?_
  refine g_aload_n (pc := 22) (i := 0) (dd dtX9_init 13 rfl) rfl rfl ?_
  refine g_iload_n (pc := 23) (i := 2) (dd dtX9_init 14 rfl) rfl rfl ?_
  refine g_newI sqC (pc := 24) (k := 55) (dd dtX9_init 15 rfl) rfl rfl (hz 55 (by decide) (by decide)) (by decide) (by decide) (by decide) (by decide) (by decide) rfl rfl ?_
  refine g_puta sqC (pc := 26) (i := 53) (dd dtX9_init 16 rfl) fwX9_25 rfl rfl (by decide) (fun _ _ _ h => by cases h; rfl) (Or.inr ⟨_, rfl⟩) ?_
  refine g_aload_n (pc := 29) (i := 0) (dd dtX9_init 17 rfl) rfl rfl ?_
  refine g_iload_n (pc := 30) (i := 2) (dd dtX9_init 18 rfl) rfl rfl ?_
  refine g_newI sqC (pc := 31) (k := 56) (dd dtX9_init 19 rfl) rfl rfl (hz 56 (by decide) (by decide)) (by decide) (by decide) (by decide) (by decide) (by decide) rfl rfl ?_
  refine g_puta sqC (pc := 33) (i := 53) (dd dtX9_init 20 rfl) fwX9_28 rfl rfl (by decide) (fun _ _ _ h => by cases h; rfl) (Or.inr ⟨_, rfl⟩) ?_
  refine g_vret (pc := 36) (dd dtX9_init 21 rfl) rfl (by decide) (by decide) rfl ?_ ?_
  · rfl
  · rfl
def tX1_init : List (Nat × Instr × Nat) := [(0, .aload_n 0, 1), (1, .invokespecial 3, 3), (4, .aload_n 0, 1), (5, .iconst 0, 1), (6, .putfield 9, 3), (9, .aload_n 0, 1), (10, .iconst 0, 1), (11, .putfield 15, 3), (14, .aload_n 0, 1), (15, .iconst 0, 1), (16, .putfield 18, 3), (19, .aload_n 0, 1), (20, .iconst 0, 1), (21, .putfield 21, 3), (24, .aload_n 0, 1), (25, .iconst 5, 1), (26, .newarray .int, 2), (28, .putfield 24, 3), (31, .aload_n 0, 1), (32, .iconst 5, 1), (33, .newarray .int, 2), (35, .putfield 28, 3), (38, .aload_n 0, 1), (39, .iconst 5, 1), (40, .newarray .int, 2), (42, .putfield 31, 3), (45, .aload_n 0, 1), (46, .iconst 5, 1), (47, .newarray .int, 2), (49, .putfield 34, 3), (52, .aload_n 0, 1), (53, .iconst 5, 1), (54, .newarray .int, 2), (56, .putfield 37, 3), (59, .aload_n 0, 1), (60, .iconst 5, 1), (61, .newarray .int, 2), (63, .putfield 40, 3), (66, .aload_n 0, 1), (67, .iconst 0, 1), (68, .putfield 43, 3), (71, .aload_n 0, 1), (72, .bipush 8, 2), (74, .newarray .int, 2), (76, .putfield 46, 3), (79, .aload_n 0, 1), (80, .bipush 8, 2), (82, .newarray .int, 2), (84, .putfield 49, 3), (87, .return_, 1)]
theorem dtX1_init : dec_ok mX1_init.2.1 tX1_init = true := by decide +kernel
def lg_fit (L : List (Nat × Nat × Nat)) : List (Nat × Nat × Nat) := ((57, 12, 65) :: ((57, 11, 64) :: ((57, 9, 63) :: ((57, 8, 62) :: ((57, 7, 61) :: ((57, 6, 60) :: ((57, 5, 59) :: ((57, 4, 58) :: L))))))))
set_option maxHeartbeats 8000000 in
theorem gc_fit {L : List (Nat × Nat × Nat)} {I : Wd} (hz : ∀ a, 57 ≤ a → a ≤ 65 → I a = fun _ => 0) : Gal SyC qC mX1_init 1 8 46 [.ref 57] 58 L I 66 (lg_fit L) (I) := by
  refine Gal.of (by decide) rfl (Nat.le_of_ble_eq_true rfl) ?_
  show Gd _ _ _ _ _ _ _ _ _ _ _ _ _ _ [(0, .ref 57)] _ _ _
  refine g_aload_n (pc := 0) (i := 0) (dd dtX1_init 0 rfl) rfl rfl ?_
  refine g_obj (pc := 1) (dd dtX1_init 1 rfl) woX1_3 (by decide) (by decide) ?_
  refine g_aload_n (pc := 4) (i := 0) (dd dtX1_init 2 rfl) rfl rfl ?_
  refine g_ic0 (pc := 5) (dd dtX1_init 3 rfl) ?_
  refine g_puts sqC (pc := 6) (i := 57) (dd dtX1_init 4 rfl) fwX1_9 rfl rfl rfl rfl (congrFun (hz 57 (by decide) (by decide)) _) ?_
  refine g_aload_n (pc := 9) (i := 0) (dd dtX1_init 5 rfl) rfl rfl ?_
  refine g_ic0 (pc := 10) (dd dtX1_init 6 rfl) ?_
  refine g_puts sqC (pc := 11) (i := 57) (dd dtX1_init 7 rfl) fwX1_15 rfl rfl rfl rfl (congrFun (hz 57 (by decide) (by decide)) _) ?_
  refine g_aload_n (pc := 14) (i := 0) (dd dtX1_init 8 rfl) rfl rfl ?_
  refine g_ic0 (pc := 15) (dd dtX1_init 9 rfl) ?_
  refine g_puts sqC (pc := 16) (i := 57) (dd dtX1_init 10 rfl) fwX1_18 rfl rfl rfl rfl (congrFun (hz 57 (by decide) (by decide)) _) ?_
  refine g_aload_n (pc := 19) (i := 0) (dd dtX1_init 11 rfl) rfl rfl ?_
  refine g_ic0 (pc := 20) (dd dtX1_init 12 rfl) ?_
  refine g_puts sqC (pc := 21) (i := 57) (dd dtX1_init 13 rfl) fwX1_21 rfl rfl rfl rfl (congrFun (hz 57 (by decide) (by decide)) _) ?_
  refine g_aload_n (pc := 24) (i := 0) (dd dtX1_init 14 rfl) rfl rfl ?_
  refine g_ic5 (pc := 25) (dd dtX1_init 15 rfl) ?_
  refine g_newI sqC (pc := 26) (k := 58) (dd dtX1_init 16 rfl) rfl rfl (hz 58 (by decide) (by decide)) (by decide) (by decide) (by decide) (by decide) (by decide) rfl rfl ?_
  refine g_puta sqC (pc := 28) (i := 57) (dd dtX1_init 17 rfl) fwX1_24 rfl rfl (by decide) (fun _ _ _ h => by cases h; rfl) (Or.inr ⟨_, rfl⟩) ?_
  refine g_aload_n (pc := 31) (i := 0) (dd dtX1_init 18 rfl) rfl rfl ?_
  refine g_ic5 (pc := 32) (dd dtX1_init 19 rfl) ?_
  refine g_newI sqC (pc := 33) (k := 59) (dd dtX1_init 20 rfl) rfl rfl (hz 59 (by decide) (by decide)) (by decide) (by decide) (by decide) (by decide) (by decide) rfl rfl ?_
  refine g_puta sqC (pc := 35) (i := 57) (dd dtX1_init 21 rfl) fwX1_28 rfl rfl (by decide) (fun _ _ _ h => by cases h; rfl) (Or.inr ⟨_, rfl⟩) ?_
  refine g_aload_n (pc := 38) (i := 0) (dd dtX1_init 22 rfl) rfl rfl ?_
  refine g_ic5 (pc := 39) (dd dtX1_init 23 rfl) ?_
  refine g_newI sqC (pc := 40) (k := 60) (dd dtX1_init 24 rfl) rfl rfl (hz 60 (by decide) (by decide)) (by decide) (by decide) (by decide) (by decide) (by decide) rfl rfl ?_
  refine g_puta sqC (pc := 42) (i := 57) (dd dtX1_init 25 rfl) fwX1_31 rfl rfl (by decide) (fun _ _ _ h => by cases h; rfl) (Or.inr ⟨_, rfl⟩) ?_
  refine g_aload_n (pc := 45) (i := 0) (dd dtX1_init 26 rfl) rfl rfl ?_
  refine g_ic5 (pc := 46) (dd dtX1_init 27 rfl) ?_
  refine g_newI sqC (pc := 47) (k := 61) (dd dtX1_init 28 rfl) rfl rfl (hz 61 (by decide) (by decide)) (by decide) (by decide) (by decide) (by decide) (by decide) rfl rfl ?_
  refine g_puta sqC (pc := 49) (i := 57) (dd dtX1_init 29 rfl) fwX1_34 rfl rfl (by decide) (fun _ _ _ h => by cases h; rfl) (Or.inr ⟨_, rfl⟩) ?_
  refine g_aload_n (pc := 52) (i := 0) (dd dtX1_init 30 rfl) rfl rfl ?_
  refine g_ic5 (pc := 53) (dd dtX1_init 31 rfl) ?_
  refine g_newI sqC (pc := 54) (k := 62) (dd dtX1_init 32 rfl) rfl rfl (hz 62 (by decide) (by decide)) (by decide) (by decide) (by decide) (by decide) (by decide) rfl rfl ?_
  refine g_puta sqC (pc := 56) (i := 57) (dd dtX1_init 33 rfl) fwX1_37 rfl rfl (by decide) (fun _ _ _ h => by cases h; rfl) (Or.inr ⟨_, rfl⟩) ?_
  refine g_aload_n (pc := 59) (i := 0) (dd dtX1_init 34 rfl) rfl rfl ?_
  refine g_ic5 (pc := 60) (dd dtX1_init 35 rfl) ?_
  refine g_newI sqC (pc := 61) (k := 63) (dd dtX1_init 36 rfl) rfl rfl (hz 63 (by decide) (by decide)) (by decide) (by decide) (by decide) (by decide) (by decide) rfl rfl ?_
  refine g_puta sqC (pc := 63) (i := 57) (dd dtX1_init 37 rfl) fwX1_40 rfl rfl (by decide) (fun _ _ _ h => by cases h; rfl) (Or.inr ⟨_, rfl⟩) ?_
  refine g_aload_n (pc := 66) (i := 0) (dd dtX1_init 38 rfl) rfl rfl ?_
  refine g_ic0 (pc := 67) (dd dtX1_init 39 rfl) ?_
  refine g_puts sqC (pc := 68) (i := 57) (dd dtX1_init 40 rfl) fwX1_43 rfl rfl rfl rfl (congrFun (hz 57 (by decide) (by decide)) _) ?_
  refine g_aload_n (pc := 71) (i := 0) (dd dtX1_init 41 rfl) rfl rfl ?_
  refine g_bipush (pc := 72) (v := 8) (dd dtX1_init 42 rfl) (by decide) ?_
  refine g_newI sqC (pc := 74) (k := 64) (dd dtX1_init 43 rfl) rfl rfl (hz 64 (by decide) (by decide)) (by decide) (by decide) (by decide) (by decide) (by decide) rfl rfl ?_
  refine g_puta sqC (pc := 76) (i := 57) (dd dtX1_init 44 rfl) fwX1_46 rfl rfl (by decide) (fun _ _ _ h => by cases h; rfl) (Or.inr ⟨_, rfl⟩) ?_
  refine g_aload_n (pc := 79) (i := 0) (dd dtX1_init 45 rfl) rfl rfl ?_
  refine g_bipush (pc := 80) (v := 8) (dd dtX1_init 46 rfl) (by decide) ?_
  refine g_newI sqC (pc := 82) (k := 65) (dd dtX1_init 47 rfl) rfl rfl (hz 65 (by decide) (by decide)) (by decide) (by decide) (by decide) (by decide) (by decide) rfl rfl ?_
  refine g_puta sqC (pc := 84) (i := 57) (dd dtX1_init 48 rfl) fwX1_49 rfl rfl (by decide) (fun _ _ _ h => by cases h; rfl) (Or.inr ⟨_, rfl⟩) ?_
  refine g_vret (pc := 87) (dd dtX1_init 49 rfl) rfl (by decide) (by decide) rfl ?_ ?_
  · rfl
  · rfl
def tX7_init : List (Nat × Instr × Nat) := [(0, .aload_n 0, 1), (1, .invokespecial 3, 3), (4, .aload_n 0, 1), (5, .iconst 0, 1), (6, .putfield 9, 3), (9, .aload_n 0, 1), (10, .iconst 0, 1), (11, .putfield 15, 3), (14, .aload_n 0, 1), (15, .sipush 160, 3), (18, .newarray .int, 2), (20, .putfield 18, 3), (23, .aload_n 0, 1), (24, .sipush 160, 3), (27, .newarray .int, 2), (29, .putfield 22, 3), (32, .aload_n 0, 1), (33, .sipush 160, 3), (36, .newarray .int, 2), (38, .putfield 25, 3), (41, .aload_n 0, 1), (42, .sipush 160, 3), (45, .newarray .int, 2), (47, .putfield 28, 3), (50, .aload_n 0, 1), (51, .sipush 160, 3), (54, .newarray .int, 2), (56, .putfield 31, 3), (59, .return_, 1)]
theorem dtX7_init : dec_ok mX7_init.2.1 tX7_init = true := by decide +kernel
def lg_tape (L : List (Nat × Nat × Nat)) : List (Nat × Nat × Nat) := ((67, 6, 72) :: ((67, 5, 71) :: ((67, 4, 70) :: ((67, 3, 69) :: ((67, 2, 68) :: L)))))
set_option maxHeartbeats 8000000 in
theorem gc_tape {L : List (Nat × Nat × Nat)} {I : Wd} (hz : ∀ a, 67 ≤ a → a ≤ 72 → I a = fun _ => 0) : Gal SyC qC mX7_init 1 5 800 [.ref 67] 68 L I 73 (lg_tape L) (I) := by
  refine Gal.of (by decide) rfl (Nat.le_of_ble_eq_true rfl) ?_
  show Gd _ _ _ _ _ _ _ _ _ _ _ _ _ _ [(0, .ref 67)] _ _ _
  refine g_aload_n (pc := 0) (i := 0) (dd dtX7_init 0 rfl) rfl rfl ?_
  refine g_obj (pc := 1) (dd dtX7_init 1 rfl) woX7_3 (by decide) (by decide) ?_
  refine g_aload_n (pc := 4) (i := 0) (dd dtX7_init 2 rfl) rfl rfl ?_
  refine g_ic0 (pc := 5) (dd dtX7_init 3 rfl) ?_
  refine g_puts sqC (pc := 6) (i := 67) (dd dtX7_init 4 rfl) fwX7_9 rfl rfl rfl rfl (congrFun (hz 67 (by decide) (by decide)) _) ?_
  refine g_aload_n (pc := 9) (i := 0) (dd dtX7_init 5 rfl) rfl rfl ?_
  refine g_ic0 (pc := 10) (dd dtX7_init 6 rfl) ?_
  refine g_puts sqC (pc := 11) (i := 67) (dd dtX7_init 7 rfl) fwX7_15 rfl rfl rfl rfl (congrFun (hz 67 (by decide) (by decide)) _) ?_
  refine g_aload_n (pc := 14) (i := 0) (dd dtX7_init 8 rfl) rfl rfl ?_
  refine g_sipush (pc := 15) (v := 160) (dd dtX7_init 9 rfl) (by decide) ?_
  refine g_newI sqC (pc := 18) (k := 68) (dd dtX7_init 10 rfl) rfl rfl (hz 68 (by decide) (by decide)) (by decide) (by decide) (by decide) (by decide) (by decide) rfl rfl ?_
  refine g_puta sqC (pc := 20) (i := 67) (dd dtX7_init 11 rfl) fwX7_18 rfl rfl (by decide) (fun _ _ _ h => by cases h; rfl) (Or.inr ⟨_, rfl⟩) ?_
  refine g_aload_n (pc := 23) (i := 0) (dd dtX7_init 12 rfl) rfl rfl ?_
  refine g_sipush (pc := 24) (v := 160) (dd dtX7_init 13 rfl) (by decide) ?_
  refine g_newI sqC (pc := 27) (k := 69) (dd dtX7_init 14 rfl) rfl rfl (hz 69 (by decide) (by decide)) (by decide) (by decide) (by decide) (by decide) (by decide) rfl rfl ?_
  refine g_puta sqC (pc := 29) (i := 67) (dd dtX7_init 15 rfl) fwX7_22 rfl rfl (by decide) (fun _ _ _ h => by cases h; rfl) (Or.inr ⟨_, rfl⟩) ?_
  refine g_aload_n (pc := 32) (i := 0) (dd dtX7_init 16 rfl) rfl rfl ?_
  refine g_sipush (pc := 33) (v := 160) (dd dtX7_init 17 rfl) (by decide) ?_
  refine g_newI sqC (pc := 36) (k := 70) (dd dtX7_init 18 rfl) rfl rfl (hz 70 (by decide) (by decide)) (by decide) (by decide) (by decide) (by decide) (by decide) rfl rfl ?_
  refine g_puta sqC (pc := 38) (i := 67) (dd dtX7_init 19 rfl) fwX7_25 rfl rfl (by decide) (fun _ _ _ h => by cases h; rfl) (Or.inr ⟨_, rfl⟩) ?_
  refine g_aload_n (pc := 41) (i := 0) (dd dtX7_init 20 rfl) rfl rfl ?_
  refine g_sipush (pc := 42) (v := 160) (dd dtX7_init 21 rfl) (by decide) ?_
  refine g_newI sqC (pc := 45) (k := 71) (dd dtX7_init 22 rfl) rfl rfl (hz 71 (by decide) (by decide)) (by decide) (by decide) (by decide) (by decide) (by decide) rfl rfl ?_
  refine g_puta sqC (pc := 47) (i := 67) (dd dtX7_init 23 rfl) fwX7_28 rfl rfl (by decide) (fun _ _ _ h => by cases h; rfl) (Or.inr ⟨_, rfl⟩) ?_
  refine g_aload_n (pc := 50) (i := 0) (dd dtX7_init 24 rfl) rfl rfl ?_
  refine g_sipush (pc := 51) (v := 160) (dd dtX7_init 25 rfl) (by decide) ?_
  refine g_newI sqC (pc := 54) (k := 72) (dd dtX7_init 26 rfl) rfl rfl (hz 72 (by decide) (by decide)) (by decide) (by decide) (by decide) (by decide) (by decide) rfl rfl ?_
  refine g_puta sqC (pc := 56) (i := 67) (dd dtX7_init 27 rfl) fwX7_31 rfl rfl (by decide) (fun _ _ _ h => by cases h; rfl) (Or.inr ⟨_, rfl⟩) ?_
  refine g_vret (pc := 59) (dd dtX7_init 28 rfl) rfl (by decide) (by decide) rfl ?_ ?_
  · rfl
  · rfl
def tX8_init : List (Nat × Instr × Nat) := [(0, .aload_n 0, 1), (1, .invokespecial 3, 3), (4, .aload_n 0, 1), (5, .iconst 0, 1), (6, .putfield 9, 3), (9, .aload_n 0, 1), (10, .sipush 160, 3), (13, .newarray .int, 2), (15, .putfield 15, 3), (18, .aload_n 0, 1), (19, .iconst 3, 1), (20, .newarray .int, 2), (22, .putfield 19, 3), (25, .return_, 1)]
theorem dtX8_init : dec_ok mX8_init.2.1 tX8_init = true := by decide +kernel
def lg_made (L : List (Nat × Nat × Nat)) : List (Nat × Nat × Nat) := ((74, 2, 76) :: ((74, 1, 75) :: L))
set_option maxHeartbeats 8000000 in
theorem gc_made {L : List (Nat × Nat × Nat)} {I : Wd} (hz : ∀ a, 74 ≤ a → a ≤ 76 → I a = fun _ => 0) : Gal SyC qC mX8_init 1 2 163 [.ref 74] 75 L I 77 (lg_made L) (I) := by
  refine Gal.of (by decide) rfl (Nat.le_of_ble_eq_true rfl) ?_
  show Gd _ _ _ _ _ _ _ _ _ _ _ _ _ _ [(0, .ref 74)] _ _ _
  refine g_aload_n (pc := 0) (i := 0) (dd dtX8_init 0 rfl) rfl rfl ?_
  refine g_obj (pc := 1) (dd dtX8_init 1 rfl) woX8_3 (by decide) (by decide) ?_
  refine g_aload_n (pc := 4) (i := 0) (dd dtX8_init 2 rfl) rfl rfl ?_
  refine g_ic0 (pc := 5) (dd dtX8_init 3 rfl) ?_
  refine g_puts sqC (pc := 6) (i := 74) (dd dtX8_init 4 rfl) fwX8_9 rfl rfl rfl rfl (congrFun (hz 74 (by decide) (by decide)) _) ?_
  refine g_aload_n (pc := 9) (i := 0) (dd dtX8_init 5 rfl) rfl rfl ?_
  refine g_sipush (pc := 10) (v := 160) (dd dtX8_init 6 rfl) (by decide) ?_
  refine g_newI sqC (pc := 13) (k := 75) (dd dtX8_init 7 rfl) rfl rfl (hz 75 (by decide) (by decide)) (by decide) (by decide) (by decide) (by decide) (by decide) rfl rfl ?_
  refine g_puta sqC (pc := 15) (i := 74) (dd dtX8_init 8 rfl) fwX8_15 rfl rfl (by decide) (fun _ _ _ h => by cases h; rfl) (Or.inr ⟨_, rfl⟩) ?_
  refine g_aload_n (pc := 18) (i := 0) (dd dtX8_init 9 rfl) rfl rfl ?_
  refine g_ic3 (pc := 19) (dd dtX8_init 10 rfl) ?_
  refine g_newI sqC (pc := 20) (k := 76) (dd dtX8_init 11 rfl) rfl rfl (hz 76 (by decide) (by decide)) (by decide) (by decide) (by decide) (by decide) (by decide) rfl rfl ?_
  refine g_puta sqC (pc := 22) (i := 74) (dd dtX8_init 12 rfl) fwX8_19 rfl rfl (by decide) (fun _ _ _ h => by cases h; rfl) (Or.inr ⟨_, rfl⟩) ?_
  refine g_vret (pc := 25) (dd dtX8_init 13 rfl) rfl (by decide) (by decide) rfl ?_ ?_
  · rfl
  · rfl
def tX3_init : List (Nat × Instr × Nat) := [(0, .aload_n 0, 1), (1, .invokespecial 3, 3), (4, .aload_n 0, 1), (5, .new 9, 3), (8, .dup, 1), (9, .invokespecial 11, 3), (12, .putfield 12, 3), (15, .aload_n 0, 1), (16, .iconst 0, 1), (17, .putfield 18, 3), (20, .aload_n 0, 1), (21, .iconst 0, 1), (22, .putfield 24, 3), (25, .aload_n 0, 1), (26, .iconst (-1), 1), (27, .putfield 27, 3), (30, .aload_n 0, 1), (31, .aload_n 1, 1), (32, .putfield 30, 3), (35, .return_, 1)]
theorem dtX3_init : dec_ok mX3_init.2.1 tX3_init = true := by decide +kernel
def lg_reader (L : List (Nat × Nat × Nat)) : List (Nat × Nat × Nat) := ((73, 1, 67) :: ((73, 0, 74) :: (lg_made L)))
set_option maxHeartbeats 8000000 in
theorem gc_reader {L : List (Nat × Nat × Nat)} {I : Wd} (hz : ∀ a, 73 ≤ a → a ≤ 76 → I a = fun _ => 0) : Gal SyC qC mX3_init 2 3 166 [.ref 73, .ref 67] 74 L I 77 (lg_reader L) ((ist I 73 4 (-1))) := by
  refine Gal.of (by decide) rfl (Nat.le_of_ble_eq_true rfl) ?_
  show Gd _ _ _ _ _ _ _ _ _ _ _ _ _ _ [(0, .ref 73), (1, .ref 67)] _ _ _
  refine g_aload_n (pc := 0) (i := 0) (dd dtX3_init 0 rfl) rfl rfl ?_
  refine g_obj (pc := 1) (dd dtX3_init 1 rfl) woX3_3 (by decide) (by decide) ?_
  refine g_aload_n (pc := 4) (i := 0) (dd dtX3_init 2 rfl) rfl rfl ?_
  refine g_new (N := 3) sqC (pc := 5) (k := 74) (dd dtX3_init 3 rfl) nwX3_9 rfl rfl rfl (hz 74 (by decide) (by decide)) (by decide) (by decide) rfl rfl ?_
  refine g_dup (pc := 8) (dd dtX3_init 4 rfl) rfl ?_
  refine g_iniN (host := RX10) (M2 := mX8_init) sqC (pc := 9) (dd dtX3_init 5 rfl) (fun U h => h.2.2.2.2.2.1) mvX8_init mnX8_init rfl rfl (gc_made (fun a h1 h2 => by (try simp (disch := omega) only [ist_ne, rset_ne]); exact hz a (by omega) (by omega))) rfl rfl (by decide) (by decide) (by decide) (by decide) rfl rfl ?_
  refine g_puta sqC (pc := 12) (i := 73) (dd dtX3_init 6 rfl) fwX3_12 rfl rfl (by decide) (fun _ _ _ h => by cases h; rfl) (Or.inl ⟨_, rfl⟩) ?_
  refine g_aload_n (pc := 15) (i := 0) (dd dtX3_init 7 rfl) rfl rfl ?_
  refine g_ic0 (pc := 16) (dd dtX3_init 8 rfl) ?_
  refine g_puts sqC (pc := 17) (i := 73) (dd dtX3_init 9 rfl) fwX3_18 rfl rfl rfl rfl (congrFun (hz 73 (by decide) (by decide)) _) ?_
  refine g_aload_n (pc := 20) (i := 0) (dd dtX3_init 10 rfl) rfl rfl ?_
  refine g_ic0 (pc := 21) (dd dtX3_init 11 rfl) ?_
  refine g_puts sqC (pc := 22) (i := 73) (dd dtX3_init 12 rfl) fwX3_24 rfl rfl rfl rfl (congrFun (hz 73 (by decide) (by decide)) _) ?_
  refine g_aload_n (pc := 25) (i := 0) (dd dtX3_init 13 rfl) rfl rfl ?_
  refine g_icm1 (pc := 26) (dd dtX3_init 14 rfl) ?_
  refine g_putv sqC (pc := 27) (i := 73) (dd dtX3_init 15 rfl) fwX3_27 rfl rfl rfl rfl ?_
  refine g_aload_n (pc := 30) (i := 0) (dd dtX3_init 16 rfl) rfl rfl ?_
  refine g_aload_n (pc := 31) (i := 1) (dd dtX3_init 17 rfl) rfl rfl ?_
  refine g_puta sqC (pc := 32) (i := 73) (dd dtX3_init 18 rfl) fwX3_30 rfl rfl (by decide) (fun _ _ _ h => by cases h; rfl) (Or.inl ⟨_, rfl⟩) ?_
  refine g_vret (pc := 35) (dd dtX3_init 19 rfl) rfl (by decide) (by decide) rfl ?_ ?_
  · rfl
  · rfl
def lg_text0 (L : List (Nat × Nat × Nat)) : List (Nat × Nat × Nat) := ((78, 2, 80) :: ((78, 1, 79) :: L))
set_option maxHeartbeats 8000000 in
theorem gc_text0 {L : List (Nat × Nat × Nat)} {I : Wd} (hz : ∀ a, 78 ≤ a → a ≤ 80 → I a = fun _ => 0) : Gal SyC qC mX8_init 1 2 163 [.ref 78] 81 L I 83 (lg_text0 L) (I) := by
  refine Gal.of (by decide) rfl (Nat.le_of_ble_eq_true rfl) ?_
  show Gd _ _ _ _ _ _ _ _ _ _ _ _ _ _ [(0, .ref 78)] _ _ _
  refine g_aload_n (pc := 0) (i := 0) (dd dtX8_init 0 rfl) rfl rfl ?_
  refine g_obj (pc := 1) (dd dtX8_init 1 rfl) woX8_3 (by decide) (by decide) ?_
  refine g_aload_n (pc := 4) (i := 0) (dd dtX8_init 2 rfl) rfl rfl ?_
  refine g_ic0 (pc := 5) (dd dtX8_init 3 rfl) ?_
  refine g_puts sqC (pc := 6) (i := 80) (dd dtX8_init 4 rfl) fwX8_9 rfl rfl rfl rfl (congrFun (hz 78 (by decide) (by decide)) _) ?_
  refine g_aload_n (pc := 9) (i := 0) (dd dtX8_init 5 rfl) rfl rfl ?_
  refine g_sipush (pc := 10) (v := 160) (dd dtX8_init 6 rfl) (by decide) ?_
  refine g_newI sqC (pc := 13) (k := 79) (dd dtX8_init 7 rfl) rfl rfl (hz 79 (by decide) (by decide)) (by decide) (by decide) (by decide) (by decide) (by decide) rfl rfl ?_
  refine g_puta sqC (pc := 15) (i := 80) (dd dtX8_init 8 rfl) fwX8_15 rfl rfl (by decide) (fun _ _ _ h => by cases h; rfl) (Or.inr ⟨_, rfl⟩) ?_
  refine g_aload_n (pc := 18) (i := 0) (dd dtX8_init 9 rfl) rfl rfl ?_
  refine g_ic3 (pc := 19) (dd dtX8_init 10 rfl) ?_
  refine g_newI sqC (pc := 20) (k := 80) (dd dtX8_init 11 rfl) rfl rfl (hz 80 (by decide) (by decide)) (by decide) (by decide) (by decide) (by decide) (by decide) rfl rfl ?_
  refine g_puta sqC (pc := 22) (i := 80) (dd dtX8_init 12 rfl) fwX8_19 rfl rfl (by decide) (fun _ _ _ h => by cases h; rfl) (Or.inr ⟨_, rfl⟩) ?_
  refine g_vret (pc := 25) (dd dtX8_init 13 rfl) rfl (by decide) (by decide) rfl ?_ ?_
  · rfl
  · rfl
def lg_text1 (L : List (Nat × Nat × Nat)) : List (Nat × Nat × Nat) := ((81, 2, 83) :: ((81, 1, 82) :: L))
set_option maxHeartbeats 8000000 in
theorem gc_text1 {L : List (Nat × Nat × Nat)} {I : Wd} (hz : ∀ a, 81 ≤ a → a ≤ 83 → I a = fun _ => 0) : Gal SyC qC mX8_init 1 2 163 [.ref 81] 84 L I 86 (lg_text1 L) (I) := by
  refine Gal.of (by decide) rfl (Nat.le_of_ble_eq_true rfl) ?_
  show Gd _ _ _ _ _ _ _ _ _ _ _ _ _ _ [(0, .ref 81)] _ _ _
  refine g_aload_n (pc := 0) (i := 0) (dd dtX8_init 0 rfl) rfl rfl ?_
  refine g_obj (pc := 1) (dd dtX8_init 1 rfl) woX8_3 (by decide) (by decide) ?_
  refine g_aload_n (pc := 4) (i := 0) (dd dtX8_init 2 rfl) rfl rfl ?_
  refine g_ic0 (pc := 5) (dd dtX8_init 3 rfl) ?_
  refine g_puts sqC (pc := 6) (i := 83) (dd dtX8_init 4 rfl) fwX8_9 rfl rfl rfl rfl (congrFun (hz 81 (by decide) (by decide)) _) ?_
  refine g_aload_n (pc := 9) (i := 0) (dd dtX8_init 5 rfl) rfl rfl ?_
  refine g_sipush (pc := 10) (v := 160) (dd dtX8_init 6 rfl) (by decide) ?_
  refine g_newI sqC (pc := 13) (k := 82) (dd dtX8_init 7 rfl) rfl rfl (hz 82 (by decide) (by decide)) (by decide) (by decide) (by decide) (by decide) (by decide) rfl rfl ?_
  refine g_puta sqC (pc := 15) (i := 83) (dd dtX8_init 8 rfl) fwX8_15 rfl rfl (by decide) (fun _ _ _ h => by cases h; rfl) (Or.inr ⟨_, rfl⟩) ?_
  refine g_aload_n (pc := 18) (i := 0) (dd dtX8_init 9 rfl) rfl rfl ?_
  refine g_ic3 (pc := 19) (dd dtX8_init 10 rfl) ?_
  refine g_newI sqC (pc := 20) (k := 83) (dd dtX8_init 11 rfl) rfl rfl (hz 83 (by decide) (by decide)) (by decide) (by decide) (by decide) (by decide) (by decide) rfl rfl ?_
  refine g_puta sqC (pc := 22) (i := 83) (dd dtX8_init 12 rfl) fwX8_19 rfl rfl (by decide) (fun _ _ _ h => by cases h; rfl) (Or.inr ⟨_, rfl⟩) ?_
  refine g_vret (pc := 25) (dd dtX8_init 13 rfl) rfl (by decide) (by decide) rfl ?_ ?_
  · rfl
  · rfl
def lg_text2 (L : List (Nat × Nat × Nat)) : List (Nat × Nat × Nat) := ((84, 2, 86) :: ((84, 1, 85) :: L))
set_option maxHeartbeats 8000000 in
theorem gc_text2 {L : List (Nat × Nat × Nat)} {I : Wd} (hz : ∀ a, 84 ≤ a → a ≤ 86 → I a = fun _ => 0) : Gal SyC qC mX8_init 1 2 163 [.ref 84] 87 L I 89 (lg_text2 L) (I) := by
  refine Gal.of (by decide) rfl (Nat.le_of_ble_eq_true rfl) ?_
  show Gd _ _ _ _ _ _ _ _ _ _ _ _ _ _ [(0, .ref 84)] _ _ _
  refine g_aload_n (pc := 0) (i := 0) (dd dtX8_init 0 rfl) rfl rfl ?_
  refine g_obj (pc := 1) (dd dtX8_init 1 rfl) woX8_3 (by decide) (by decide) ?_
  refine g_aload_n (pc := 4) (i := 0) (dd dtX8_init 2 rfl) rfl rfl ?_
  refine g_ic0 (pc := 5) (dd dtX8_init 3 rfl) ?_
  refine g_puts sqC (pc := 6) (i := 86) (dd dtX8_init 4 rfl) fwX8_9 rfl rfl rfl rfl (congrFun (hz 84 (by decide) (by decide)) _) ?_
  refine g_aload_n (pc := 9) (i := 0) (dd dtX8_init 5 rfl) rfl rfl ?_
  refine g_sipush (pc := 10) (v := 160) (dd dtX8_init 6 rfl) (by decide) ?_
  refine g_newI sqC (pc := 13) (k := 85) (dd dtX8_init 7 rfl) rfl rfl (hz 85 (by decide) (by decide)) (by decide) (by decide) (by decide) (by decide) (by decide) rfl rfl ?_
  refine g_puta sqC (pc := 15) (i := 86) (dd dtX8_init 8 rfl) fwX8_15 rfl rfl (by decide) (fun _ _ _ h => by cases h; rfl) (Or.inr ⟨_, rfl⟩) ?_
  refine g_aload_n (pc := 18) (i := 0) (dd dtX8_init 9 rfl) rfl rfl ?_
  refine g_ic3 (pc := 19) (dd dtX8_init 10 rfl) ?_
  refine g_newI sqC (pc := 20) (k := 86) (dd dtX8_init 11 rfl) rfl rfl (hz 86 (by decide) (by decide)) (by decide) (by decide) (by decide) (by decide) (by decide) rfl rfl ?_
  refine g_puta sqC (pc := 22) (i := 86) (dd dtX8_init 12 rfl) fwX8_19 rfl rfl (by decide) (fun _ _ _ h => by cases h; rfl) (Or.inr ⟨_, rfl⟩) ?_
  refine g_vret (pc := 25) (dd dtX8_init 13 rfl) rfl (by decide) (by decide) rfl ?_ ?_
  · rfl
  · rfl
def lg_text3 (L : List (Nat × Nat × Nat)) : List (Nat × Nat × Nat) := ((87, 2, 89) :: ((87, 1, 88) :: L))
set_option maxHeartbeats 8000000 in
theorem gc_text3 {L : List (Nat × Nat × Nat)} {I : Wd} (hz : ∀ a, 87 ≤ a → a ≤ 89 → I a = fun _ => 0) : Gal SyC qC mX8_init 1 2 163 [.ref 87] 90 L I 92 (lg_text3 L) (I) := by
  refine Gal.of (by decide) rfl (Nat.le_of_ble_eq_true rfl) ?_
  show Gd _ _ _ _ _ _ _ _ _ _ _ _ _ _ [(0, .ref 87)] _ _ _
  refine g_aload_n (pc := 0) (i := 0) (dd dtX8_init 0 rfl) rfl rfl ?_
  refine g_obj (pc := 1) (dd dtX8_init 1 rfl) woX8_3 (by decide) (by decide) ?_
  refine g_aload_n (pc := 4) (i := 0) (dd dtX8_init 2 rfl) rfl rfl ?_
  refine g_ic0 (pc := 5) (dd dtX8_init 3 rfl) ?_
  refine g_puts sqC (pc := 6) (i := 89) (dd dtX8_init 4 rfl) fwX8_9 rfl rfl rfl rfl (congrFun (hz 87 (by decide) (by decide)) _) ?_
  refine g_aload_n (pc := 9) (i := 0) (dd dtX8_init 5 rfl) rfl rfl ?_
  refine g_sipush (pc := 10) (v := 160) (dd dtX8_init 6 rfl) (by decide) ?_
  refine g_newI sqC (pc := 13) (k := 88) (dd dtX8_init 7 rfl) rfl rfl (hz 88 (by decide) (by decide)) (by decide) (by decide) (by decide) (by decide) (by decide) rfl rfl ?_
  refine g_puta sqC (pc := 15) (i := 89) (dd dtX8_init 8 rfl) fwX8_15 rfl rfl (by decide) (fun _ _ _ h => by cases h; rfl) (Or.inr ⟨_, rfl⟩) ?_
  refine g_aload_n (pc := 18) (i := 0) (dd dtX8_init 9 rfl) rfl rfl ?_
  refine g_ic3 (pc := 19) (dd dtX8_init 10 rfl) ?_
  refine g_newI sqC (pc := 20) (k := 89) (dd dtX8_init 11 rfl) rfl rfl (hz 89 (by decide) (by decide)) (by decide) (by decide) (by decide) (by decide) (by decide) rfl rfl ?_
  refine g_puta sqC (pc := 22) (i := 89) (dd dtX8_init 12 rfl) fwX8_19 rfl rfl (by decide) (fun _ _ _ h => by cases h; rfl) (Or.inr ⟨_, rfl⟩) ?_
  refine g_vret (pc := 25) (dd dtX8_init 13 rfl) rfl (by decide) (by decide) rfl ?_ ?_
  · rfl
  · rfl
def lg_text4 (L : List (Nat × Nat × Nat)) : List (Nat × Nat × Nat) := ((90, 2, 92) :: ((90, 1, 91) :: L))
set_option maxHeartbeats 8000000 in
theorem gc_text4 {L : List (Nat × Nat × Nat)} {I : Wd} (hz : ∀ a, 90 ≤ a → a ≤ 92 → I a = fun _ => 0) : Gal SyC qC mX8_init 1 2 163 [.ref 90] 93 L I 95 (lg_text4 L) (I) := by
  refine Gal.of (by decide) rfl (Nat.le_of_ble_eq_true rfl) ?_
  show Gd _ _ _ _ _ _ _ _ _ _ _ _ _ _ [(0, .ref 90)] _ _ _
  refine g_aload_n (pc := 0) (i := 0) (dd dtX8_init 0 rfl) rfl rfl ?_
  refine g_obj (pc := 1) (dd dtX8_init 1 rfl) woX8_3 (by decide) (by decide) ?_
  refine g_aload_n (pc := 4) (i := 0) (dd dtX8_init 2 rfl) rfl rfl ?_
  refine g_ic0 (pc := 5) (dd dtX8_init 3 rfl) ?_
  refine g_puts sqC (pc := 6) (i := 92) (dd dtX8_init 4 rfl) fwX8_9 rfl rfl rfl rfl (congrFun (hz 90 (by decide) (by decide)) _) ?_
  refine g_aload_n (pc := 9) (i := 0) (dd dtX8_init 5 rfl) rfl rfl ?_
  refine g_sipush (pc := 10) (v := 160) (dd dtX8_init 6 rfl) (by decide) ?_
  refine g_newI sqC (pc := 13) (k := 91) (dd dtX8_init 7 rfl) rfl rfl (hz 91 (by decide) (by decide)) (by decide) (by decide) (by decide) (by decide) (by decide) rfl rfl ?_
  refine g_puta sqC (pc := 15) (i := 92) (dd dtX8_init 8 rfl) fwX8_15 rfl rfl (by decide) (fun _ _ _ h => by cases h; rfl) (Or.inr ⟨_, rfl⟩) ?_
  refine g_aload_n (pc := 18) (i := 0) (dd dtX8_init 9 rfl) rfl rfl ?_
  refine g_ic3 (pc := 19) (dd dtX8_init 10 rfl) ?_
  refine g_newI sqC (pc := 20) (k := 92) (dd dtX8_init 11 rfl) rfl rfl (hz 92 (by decide) (by decide)) (by decide) (by decide) (by decide) (by decide) (by decide) rfl rfl ?_
  refine g_puta sqC (pc := 22) (i := 92) (dd dtX8_init 12 rfl) fwX8_19 rfl rfl (by decide) (fun _ _ _ h => by cases h; rfl) (Or.inr ⟨_, rfl⟩) ?_
  refine g_vret (pc := 25) (dd dtX8_init 13 rfl) rfl (by decide) (by decide) rfl ?_ ?_
  · rfl
  · rfl
def lg_text5 (L : List (Nat × Nat × Nat)) : List (Nat × Nat × Nat) := ((93, 2, 95) :: ((93, 1, 94) :: L))
set_option maxHeartbeats 8000000 in
theorem gc_text5 {L : List (Nat × Nat × Nat)} {I : Wd} (hz : ∀ a, 93 ≤ a → a ≤ 95 → I a = fun _ => 0) : Gal SyC qC mX8_init 1 2 163 [.ref 93] 96 L I 98 (lg_text5 L) (I) := by
  refine Gal.of (by decide) rfl (Nat.le_of_ble_eq_true rfl) ?_
  show Gd _ _ _ _ _ _ _ _ _ _ _ _ _ _ [(0, .ref 93)] _ _ _
  refine g_aload_n (pc := 0) (i := 0) (dd dtX8_init 0 rfl) rfl rfl ?_
  refine g_obj (pc := 1) (dd dtX8_init 1 rfl) woX8_3 (by decide) (by decide) ?_
  refine g_aload_n (pc := 4) (i := 0) (dd dtX8_init 2 rfl) rfl rfl ?_
  refine g_ic0 (pc := 5) (dd dtX8_init 3 rfl) ?_
  refine g_puts sqC (pc := 6) (i := 95) (dd dtX8_init 4 rfl) fwX8_9 rfl rfl rfl rfl (congrFun (hz 93 (by decide) (by decide)) _) ?_
  refine g_aload_n (pc := 9) (i := 0) (dd dtX8_init 5 rfl) rfl rfl ?_
  refine g_sipush (pc := 10) (v := 160) (dd dtX8_init 6 rfl) (by decide) ?_
  refine g_newI sqC (pc := 13) (k := 94) (dd dtX8_init 7 rfl) rfl rfl (hz 94 (by decide) (by decide)) (by decide) (by decide) (by decide) (by decide) (by decide) rfl rfl ?_
  refine g_puta sqC (pc := 15) (i := 95) (dd dtX8_init 8 rfl) fwX8_15 rfl rfl (by decide) (fun _ _ _ h => by cases h; rfl) (Or.inr ⟨_, rfl⟩) ?_
  refine g_aload_n (pc := 18) (i := 0) (dd dtX8_init 9 rfl) rfl rfl ?_
  refine g_ic3 (pc := 19) (dd dtX8_init 10 rfl) ?_
  refine g_newI sqC (pc := 20) (k := 95) (dd dtX8_init 11 rfl) rfl rfl (hz 95 (by decide) (by decide)) (by decide) (by decide) (by decide) (by decide) (by decide) rfl rfl ?_
  refine g_puta sqC (pc := 22) (i := 95) (dd dtX8_init 12 rfl) fwX8_19 rfl rfl (by decide) (fun _ _ _ h => by cases h; rfl) (Or.inr ⟨_, rfl⟩) ?_
  refine g_vret (pc := 25) (dd dtX8_init 13 rfl) rfl (by decide) (by decide) rfl ?_ ?_
  · rfl
  · rfl
def tX5_init : List (Nat × Instr × Nat) := [(0, .aload_n 0, 1), (1, .invokespecial 3, 3), (4, .aload_n 0, 1), (5, .iconst (-1), 1), (6, .putfield 11, 3), (9, .aload_n 0, 1), (10, .iconst 0, 1), (11, .putfield 15, 3), (14, .aload_n 0, 1), (15, .bipush 40, 2), (17, .newarray .int, 2), (19, .putfield 18, 3), (22, .return_, 1)]
theorem dtX5_init : dec_ok mX5_init.2.1 tX5_init = true := by decide +kernel
def lg_sheet0 (L : List (Nat × Nat × Nat)) : List (Nat × Nat × Nat) := ((99, 2, 100) :: L)
set_option maxHeartbeats 8000000 in
theorem gc_sheet0 {L : List (Nat × Nat × Nat)} {I : Wd} (hz : ∀ a, 99 ≤ a → a ≤ 100 → I a = fun _ => 0) : Gal SyC qC mX5_init 1 1 40 [.ref 99] 101 L I 102 (lg_sheet0 L) ((ist I 99 0 (-1))) := by
  refine Gal.of (by decide) rfl (Nat.le_of_ble_eq_true rfl) ?_
  show Gd _ _ _ _ _ _ _ _ _ _ _ _ _ _ [(0, .ref 99)] _ _ _
  refine g_aload_n (pc := 0) (i := 0) (dd dtX5_init 0 rfl) rfl rfl ?_
  refine g_obj (pc := 1) (dd dtX5_init 1 rfl) woX5_3 (by decide) (by decide) ?_
  refine g_aload_n (pc := 4) (i := 0) (dd dtX5_init 2 rfl) rfl rfl ?_
  refine g_icm1 (pc := 5) (dd dtX5_init 3 rfl) ?_
  refine g_putv sqC (pc := 6) (i := 100) (dd dtX5_init 4 rfl) fwX5_11 rfl rfl rfl rfl ?_
  refine g_aload_n (pc := 9) (i := 0) (dd dtX5_init 5 rfl) rfl rfl ?_
  refine g_ic0 (pc := 10) (dd dtX5_init 6 rfl) ?_
  refine g_puts sqC (pc := 11) (i := 100) (dd dtX5_init 7 rfl) fwX5_15 rfl rfl rfl rfl (congrFun (hz 99 (by decide) (by decide)) _) ?_
  refine g_aload_n (pc := 14) (i := 0) (dd dtX5_init 8 rfl) rfl rfl ?_
  refine g_bipush (pc := 15) (v := 40) (dd dtX5_init 9 rfl) (by decide) ?_
  refine g_newI sqC (pc := 17) (k := 100) (dd dtX5_init 10 rfl) rfl rfl (hz 100 (by decide) (by decide)) (by decide) (by decide) (by decide) (by decide) (by decide) rfl rfl ?_
  refine g_puta sqC (pc := 19) (i := 100) (dd dtX5_init 11 rfl) fwX5_18 rfl rfl (by decide) (fun _ _ _ h => by cases h; rfl) (Or.inr ⟨_, rfl⟩) ?_
  refine g_vret (pc := 22) (dd dtX5_init 12 rfl) rfl (by decide) (by decide) rfl ?_ ?_
  · rfl
  · rfl
def lg_sheet1 (L : List (Nat × Nat × Nat)) : List (Nat × Nat × Nat) := ((101, 2, 102) :: L)
set_option maxHeartbeats 8000000 in
theorem gc_sheet1 {L : List (Nat × Nat × Nat)} {I : Wd} (hz : ∀ a, 101 ≤ a → a ≤ 102 → I a = fun _ => 0) : Gal SyC qC mX5_init 1 1 40 [.ref 101] 103 L I 104 (lg_sheet1 L) ((ist I 101 0 (-1))) := by
  refine Gal.of (by decide) rfl (Nat.le_of_ble_eq_true rfl) ?_
  show Gd _ _ _ _ _ _ _ _ _ _ _ _ _ _ [(0, .ref 101)] _ _ _
  refine g_aload_n (pc := 0) (i := 0) (dd dtX5_init 0 rfl) rfl rfl ?_
  refine g_obj (pc := 1) (dd dtX5_init 1 rfl) woX5_3 (by decide) (by decide) ?_
  refine g_aload_n (pc := 4) (i := 0) (dd dtX5_init 2 rfl) rfl rfl ?_
  refine g_icm1 (pc := 5) (dd dtX5_init 3 rfl) ?_
  refine g_putv sqC (pc := 6) (i := 102) (dd dtX5_init 4 rfl) fwX5_11 rfl rfl rfl rfl ?_
  refine g_aload_n (pc := 9) (i := 0) (dd dtX5_init 5 rfl) rfl rfl ?_
  refine g_ic0 (pc := 10) (dd dtX5_init 6 rfl) ?_
  refine g_puts sqC (pc := 11) (i := 102) (dd dtX5_init 7 rfl) fwX5_15 rfl rfl rfl rfl (congrFun (hz 101 (by decide) (by decide)) _) ?_
  refine g_aload_n (pc := 14) (i := 0) (dd dtX5_init 8 rfl) rfl rfl ?_
  refine g_bipush (pc := 15) (v := 40) (dd dtX5_init 9 rfl) (by decide) ?_
  refine g_newI sqC (pc := 17) (k := 102) (dd dtX5_init 10 rfl) rfl rfl (hz 102 (by decide) (by decide)) (by decide) (by decide) (by decide) (by decide) (by decide) rfl rfl ?_
  refine g_puta sqC (pc := 19) (i := 102) (dd dtX5_init 11 rfl) fwX5_18 rfl rfl (by decide) (fun _ _ _ h => by cases h; rfl) (Or.inr ⟨_, rfl⟩) ?_
  refine g_vret (pc := 22) (dd dtX5_init 12 rfl) rfl (by decide) (by decide) rfl ?_ ?_
  · rfl
  · rfl
def lg_sheet2 (L : List (Nat × Nat × Nat)) : List (Nat × Nat × Nat) := ((103, 2, 104) :: L)
set_option maxHeartbeats 8000000 in
theorem gc_sheet2 {L : List (Nat × Nat × Nat)} {I : Wd} (hz : ∀ a, 103 ≤ a → a ≤ 104 → I a = fun _ => 0) : Gal SyC qC mX5_init 1 1 40 [.ref 103] 105 L I 106 (lg_sheet2 L) ((ist I 103 0 (-1))) := by
  refine Gal.of (by decide) rfl (Nat.le_of_ble_eq_true rfl) ?_
  show Gd _ _ _ _ _ _ _ _ _ _ _ _ _ _ [(0, .ref 103)] _ _ _
  refine g_aload_n (pc := 0) (i := 0) (dd dtX5_init 0 rfl) rfl rfl ?_
  refine g_obj (pc := 1) (dd dtX5_init 1 rfl) woX5_3 (by decide) (by decide) ?_
  refine g_aload_n (pc := 4) (i := 0) (dd dtX5_init 2 rfl) rfl rfl ?_
  refine g_icm1 (pc := 5) (dd dtX5_init 3 rfl) ?_
  refine g_putv sqC (pc := 6) (i := 104) (dd dtX5_init 4 rfl) fwX5_11 rfl rfl rfl rfl ?_
  refine g_aload_n (pc := 9) (i := 0) (dd dtX5_init 5 rfl) rfl rfl ?_
  refine g_ic0 (pc := 10) (dd dtX5_init 6 rfl) ?_
  refine g_puts sqC (pc := 11) (i := 104) (dd dtX5_init 7 rfl) fwX5_15 rfl rfl rfl rfl (congrFun (hz 103 (by decide) (by decide)) _) ?_
  refine g_aload_n (pc := 14) (i := 0) (dd dtX5_init 8 rfl) rfl rfl ?_
  refine g_bipush (pc := 15) (v := 40) (dd dtX5_init 9 rfl) (by decide) ?_
  refine g_newI sqC (pc := 17) (k := 104) (dd dtX5_init 10 rfl) rfl rfl (hz 104 (by decide) (by decide)) (by decide) (by decide) (by decide) (by decide) (by decide) rfl rfl ?_
  refine g_puta sqC (pc := 19) (i := 104) (dd dtX5_init 11 rfl) fwX5_18 rfl rfl (by decide) (fun _ _ _ h => by cases h; rfl) (Or.inr ⟨_, rfl⟩) ?_
  refine g_vret (pc := 22) (dd dtX5_init 12 rfl) rfl (by decide) (by decide) rfl ?_ ?_
  · rfl
  · rfl
def lg_sheet3 (L : List (Nat × Nat × Nat)) : List (Nat × Nat × Nat) := ((105, 2, 106) :: L)
set_option maxHeartbeats 8000000 in
theorem gc_sheet3 {L : List (Nat × Nat × Nat)} {I : Wd} (hz : ∀ a, 105 ≤ a → a ≤ 106 → I a = fun _ => 0) : Gal SyC qC mX5_init 1 1 40 [.ref 105] 107 L I 108 (lg_sheet3 L) ((ist I 105 0 (-1))) := by
  refine Gal.of (by decide) rfl (Nat.le_of_ble_eq_true rfl) ?_
  show Gd _ _ _ _ _ _ _ _ _ _ _ _ _ _ [(0, .ref 105)] _ _ _
  refine g_aload_n (pc := 0) (i := 0) (dd dtX5_init 0 rfl) rfl rfl ?_
  refine g_obj (pc := 1) (dd dtX5_init 1 rfl) woX5_3 (by decide) (by decide) ?_
  refine g_aload_n (pc := 4) (i := 0) (dd dtX5_init 2 rfl) rfl rfl ?_
  refine g_icm1 (pc := 5) (dd dtX5_init 3 rfl) ?_
  refine g_putv sqC (pc := 6) (i := 106) (dd dtX5_init 4 rfl) fwX5_11 rfl rfl rfl rfl ?_
  refine g_aload_n (pc := 9) (i := 0) (dd dtX5_init 5 rfl) rfl rfl ?_
  refine g_ic0 (pc := 10) (dd dtX5_init 6 rfl) ?_
  refine g_puts sqC (pc := 11) (i := 106) (dd dtX5_init 7 rfl) fwX5_15 rfl rfl rfl rfl (congrFun (hz 105 (by decide) (by decide)) _) ?_
  refine g_aload_n (pc := 14) (i := 0) (dd dtX5_init 8 rfl) rfl rfl ?_
  refine g_bipush (pc := 15) (v := 40) (dd dtX5_init 9 rfl) (by decide) ?_
  refine g_newI sqC (pc := 17) (k := 106) (dd dtX5_init 10 rfl) rfl rfl (hz 106 (by decide) (by decide)) (by decide) (by decide) (by decide) (by decide) (by decide) rfl rfl ?_
  refine g_puta sqC (pc := 19) (i := 106) (dd dtX5_init 11 rfl) fwX5_18 rfl rfl (by decide) (fun _ _ _ h => by cases h; rfl) (Or.inr ⟨_, rfl⟩) ?_
  refine g_vret (pc := 22) (dd dtX5_init 12 rfl) rfl (by decide) (by decide) rfl ?_ ?_
  · rfl
  · rfl
def tX4_init : List (Nat × Instr × Nat) := [(0, .aload_n 0, 1), (1, .invokespecial 3, 3), (4, .aload_n 0, 1), (5, .new 9, 3), (8, .dup, 1), (9, .invokespecial 11, 3), (12, .putfield 12, 3), (15, .aload_n 0, 1), (16, .iconst 0, 1), (17, .putfield 18, 3), (20, .aload_n 0, 1), (21, .iconst 0, 1), (22, .putfield 22, 3), (25, .aload_n 0, 1), (26, .new 25, 3), (29, .dup, 1), (30, .aload_n 0, 1), (31, .getfield 12, 3), (34, .invokespecial 27, 3), (37, .putfield 30, 3), (40, .aload_n 0, 1), (41, .bipush 6, 2), (43, .anewarray 34, 3), (46, .putfield 36, 3), (49, .aload_n 0, 1), (50, .bipush 8, 2), (52, .newarray .int, 2), (54, .putfield 40, 3), (57, .aload_n 0, 1), (58, .sipush 160, 3), (61, .newarray .int, 2), (63, .putfield 44, 3), (66, .iconst 0, 1), (67, .istore_n 1, 1), (68, .iload_n 1, 1), (69, .bipush 6, 2), (71, .if_icmp .ge 22, 3), (74, .aload_n 0, 1), (75, .getfield 36, 3), (78, .iload_n 1, 1), (79, .new 34, 3), (82, .dup, 1), (83, .invokespecial 47, 3), (86, .aastore, 1), (87, .iinc 1 1, 3), (90, .goto (-22), 3), (93, .return_, 1)]
theorem dtX4_init : dec_ok mX4_init.2.1 tX4_init = true := by decide +kernel
def lg_rules (L : List (Nat × Nat × Nat)) : List (Nat × Nat × Nat) := ((77, 5, 93) :: (lg_text5 ((77, 4, 90) :: (lg_text4 ((77, 3, 87) :: (lg_text3 ((77, 2, 84) :: (lg_text2 ((77, 1, 81) :: (lg_text1 ((77, 0, 78) :: (lg_text0 ((66, 6, 97) :: ((66, 5, 96) :: ((66, 4, 77) :: ((66, 3, 73) :: (lg_reader ((66, 0, 67) :: (lg_tape L)))))))))))))))))))
set_option maxHeartbeats 8000000 in
theorem gc_rules {L : List (Nat × Nat × Nat)} {I : Wd} (hz : ∀ a, 66 ≤ a → a ≤ 97 → I a = fun _ => 0) : Gal SyC qC mX4_init 3 31 2148 [.ref 66] 67 L I 98 (lg_rules L) ((ist I 73 4 (-1))) := by
  refine Gal.of (by decide) rfl (Nat.le_of_ble_eq_true rfl) ?_
  show Gd _ _ _ _ _ _ _ _ _ _ _ _ _ _ [(0, .ref 66)] _ _ _
  refine g_aload_n (pc := 0) (i := 0) (dd dtX4_init 0 rfl) rfl rfl ?_
  refine g_obj (pc := 1) (dd dtX4_init 1 rfl) woX4_3 (by decide) (by decide) ?_
  refine g_aload_n (pc := 4) (i := 0) (dd dtX4_init 2 rfl) rfl rfl ?_
  refine g_new (N := 7) sqC (pc := 5) (k := 67) (dd dtX4_init 3 rfl) nwX4_9 rfl rfl rfl (hz 67 (by decide) (by decide)) (by decide) (by decide) rfl rfl ?_
  refine g_dup (pc := 8) (dd dtX4_init 4 rfl) rfl ?_
  refine g_iniN (host := RX10) (M2 := mX7_init) sqC (pc := 9) (dd dtX4_init 5 rfl) (fun U h => h.2.2.2.2.1) mvX7_init mnX7_init rfl rfl (gc_tape (fun a h1 h2 => by (try simp (disch := omega) only [ist_ne, rset_ne]); exact hz a (by omega) (by omega))) rfl rfl (by decide) (by decide) (by decide) (by decide) rfl rfl ?_
  refine g_puta sqC (pc := 12) (i := 66) (dd dtX4_init 6 rfl) fwX4_12 rfl rfl (by decide) (fun _ _ _ h => by cases h; rfl) (Or.inl ⟨_, rfl⟩) ?_
  refine g_aload_n (pc := 15) (i := 0) (dd dtX4_init 7 rfl) rfl rfl ?_
  refine g_ic0 (pc := 16) (dd dtX4_init 8 rfl) ?_
  refine g_puts sqC (pc := 17) (i := 66) (dd dtX4_init 9 rfl) fwX4_18 rfl rfl rfl rfl (congrFun (hz 66 (by decide) (by decide)) _) ?_
  refine g_aload_n (pc := 20) (i := 0) (dd dtX4_init 10 rfl) rfl rfl ?_
  refine g_ic0 (pc := 21) (dd dtX4_init 11 rfl) ?_
  refine g_puts sqC (pc := 22) (i := 66) (dd dtX4_init 12 rfl) fwX4_22 rfl rfl rfl rfl (congrFun (hz 66 (by decide) (by decide)) _) ?_
  refine g_aload_n (pc := 25) (i := 0) (dd dtX4_init 13 rfl) rfl rfl ?_
  refine g_new (N := 5) sqC (pc := 26) (k := 73) (dd dtX4_init 14 rfl) nwX4_25 rfl rfl rfl (hz 73 (by decide) (by decide)) (by decide) (by decide) rfl rfl ?_
  refine g_dup (pc := 29) (dd dtX4_init 15 rfl) rfl ?_
  refine g_aload_n (pc := 30) (i := 0) (dd dtX4_init 16 rfl) rfl rfl ?_
  refine g_geta (pc := 31) (i := 66) (dd dtX4_init 17 rfl) fwX4_12 rfl rfl rfl ?_
  refine g_ini (M2 := mX3_init) sqC (pc := 34) (dd dtX4_init 18 rfl) mlX4_27 mvX3_init mnX3_init rfl rfl (gc_reader (fun a h1 h2 => by (try simp (disch := omega) only [ist_ne, rset_ne]); exact hz a (by omega) (by omega))) rfl rfl (by decide) (by decide) (by decide) (by decide) rfl rfl ?_
  refine g_puta sqC (pc := 37) (i := 66) (dd dtX4_init 19 rfl) fwX4_30 rfl rfl (by decide) (fun _ _ _ h => by cases h; rfl) (Or.inl ⟨_, rfl⟩) ?_
  refine g_aload_n (pc := 40) (i := 0) (dd dtX4_init 20 rfl) rfl rfl ?_
  refine g_bipush (pc := 41) (v := 6) (dd dtX4_init 21 rfl) (by decide) ?_
  refine g_newA sqC (pc := 43) (k := 77) (dd dtX4_init 22 rfl) wkX4_34 (Or.inr ⟨rfl, rfl, rfl⟩) rfl rfl (by decide) (by decide) (by decide) (by decide) (by decide) rfl rfl ?_
  refine g_puta sqC (pc := 46) (i := 66) (dd dtX4_init 23 rfl) fwX4_36 rfl rfl (by decide) (fun _ _ _ h => by cases h; rfl) (Or.inr ⟨_, rfl⟩) ?_
  refine g_aload_n (pc := 49) (i := 0) (dd dtX4_init 24 rfl) rfl rfl ?_
  refine g_bipush (pc := 50) (v := 8) (dd dtX4_init 25 rfl) (by decide) ?_
  refine g_newI sqC (pc := 52) (k := 96) (dd dtX4_init 26 rfl) rfl rfl (hz 96 (by decide) (by decide)) (by decide) (by decide) (by decide) (by decide) (by decide) rfl rfl ?_
  refine g_puta sqC (pc := 54) (i := 66) (dd dtX4_init 27 rfl) fwX4_40 rfl rfl (by decide) (fun _ _ _ h => by cases h; rfl) (Or.inr ⟨_, rfl⟩) ?_
  refine g_aload_n (pc := 57) (i := 0) (dd dtX4_init 28 rfl) rfl rfl ?_
  refine g_sipush (pc := 58) (v := 160) (dd dtX4_init 29 rfl) (by decide) ?_
  refine g_newI sqC (pc := 61) (k := 97) (dd dtX4_init 30 rfl) rfl rfl (hz 97 (by decide) (by decide)) (by decide) (by decide) (by decide) (by decide) (by decide) rfl rfl ?_
  refine g_puta sqC (pc := 63) (i := 66) (dd dtX4_init 31 rfl) fwX4_44 rfl rfl (by decide) (fun _ _ _ h => by cases h; rfl) (Or.inr ⟨_, rfl⟩) ?_
  refine g_ic0 (pc := 66) (dd dtX4_init 32 rfl) ?_
  refine g_istore_n (pc := 67) (i := 1) (lv' := [(1, .int 0), (0, .ref 66)]) (dd dtX4_init 33 rfl) rfl (Nat.le_of_ble_eq_true rfl) rfl ?_
  refine g_iload_n (pc := 68) (i := 1) (dd dtX4_init 34 rfl) rfl rfl ?_
  refine g_bipush (pc := 69) (v := 6) (dd dtX4_init 35 rfl) (by decide) ?_
  refine g_icmp_ge (pc := 71) (tgt := 93) (dd dtX4_init 36 rfl) (by decide) (fun h => absurd h (by decide)) (fun _ => ?_)
  refine g_aload_n (pc := 74) (i := 0) (dd dtX4_init 37 rfl) rfl rfl ?_
  refine g_geta (pc := 75) (i := 66) (dd dtX4_init 38 rfl) fwX4_36 rfl rfl rfl ?_
  refine g_iload_n (pc := 78) (i := 1) (dd dtX4_init 39 rfl) rfl rfl ?_
  refine g_new (N := 3) sqC (pc := 79) (k := 78) (dd dtX4_init 40 rfl) nwX4_34 rfl rfl rfl (hz 78 (by decide) (by decide)) (by decide) (by decide) rfl rfl ?_
  refine g_dup (pc := 82) (dd dtX4_init 41 rfl) rfl ?_
  refine g_iniN (host := RX10) (M2 := mX8_init) sqC (pc := 83) (dd dtX4_init 42 rfl) (fun U h => h.2.2.2.2.2.2.1) mvX8_init mnX8_init rfl rfl (gc_text0 (fun a h1 h2 => by (try simp (disch := omega) only [ist_ne, rset_ne]); exact hz a (by omega) (by omega))) rfl rfl (by decide) (by decide) (by decide) (by decide) rfl rfl ?_
  refine g_aast (pc := 86) (i := 77) (j := 80) (yi := 0) (by decide) sqC (dd dtX4_init 43 rfl) rfl rfl (by decide) rfl rfl (by decide) rfl (by unfold vp_in; decide) ?_
  refine g_iinc1 (pc := 87) (v := 1) (lv' := [(1, .int 1), (0, .ref 66)]) (dd dtX4_init 44 rfl) rfl (by decide) (Nat.le_of_ble_eq_true rfl) rfl ?_
  refine g_goto (pc := 90) (tgt := 68) (dd dtX4_init 45 rfl) (by decide) ?_
  refine g_iload_n (pc := 68) (i := 1) (dd dtX4_init 34 rfl) rfl rfl ?_
  refine g_bipush (pc := 69) (v := 6) (dd dtX4_init 35 rfl) (by decide) ?_
  refine g_icmp_ge (pc := 71) (tgt := 93) (dd dtX4_init 36 rfl) (by decide) (fun h => absurd h (by decide)) (fun _ => ?_)
  refine g_aload_n (pc := 74) (i := 0) (dd dtX4_init 37 rfl) rfl rfl ?_
  refine g_geta (pc := 75) (i := 66) (dd dtX4_init 38 rfl) fwX4_36 rfl rfl rfl ?_
  refine g_iload_n (pc := 78) (i := 1) (dd dtX4_init 39 rfl) rfl rfl ?_
  refine g_new (N := 3) sqC (pc := 79) (k := 81) (dd dtX4_init 40 rfl) nwX4_34 rfl rfl rfl (hz 81 (by decide) (by decide)) (by decide) (by decide) rfl rfl ?_
  refine g_dup (pc := 82) (dd dtX4_init 41 rfl) rfl ?_
  refine g_iniN (host := RX10) (M2 := mX8_init) sqC (pc := 83) (dd dtX4_init 42 rfl) (fun U h => h.2.2.2.2.2.2.1) mvX8_init mnX8_init rfl rfl (gc_text1 (fun a h1 h2 => by (try simp (disch := omega) only [ist_ne, rset_ne]); exact hz a (by omega) (by omega))) rfl rfl (by decide) (by decide) (by decide) (by decide) rfl rfl ?_
  refine g_aast (pc := 86) (i := 77) (j := 83) (yi := 1) (by decide) sqC (dd dtX4_init 43 rfl) rfl rfl (by decide) rfl rfl (by decide) rfl (by unfold vp_in; decide) ?_
  refine g_iinc1 (pc := 87) (v := 2) (lv' := [(1, .int 2), (0, .ref 66)]) (dd dtX4_init 44 rfl) rfl (by decide) (Nat.le_of_ble_eq_true rfl) rfl ?_
  refine g_goto (pc := 90) (tgt := 68) (dd dtX4_init 45 rfl) (by decide) ?_
  refine g_iload_n (pc := 68) (i := 1) (dd dtX4_init 34 rfl) rfl rfl ?_
  refine g_bipush (pc := 69) (v := 6) (dd dtX4_init 35 rfl) (by decide) ?_
  refine g_icmp_ge (pc := 71) (tgt := 93) (dd dtX4_init 36 rfl) (by decide) (fun h => absurd h (by decide)) (fun _ => ?_)
  refine g_aload_n (pc := 74) (i := 0) (dd dtX4_init 37 rfl) rfl rfl ?_
  refine g_geta (pc := 75) (i := 66) (dd dtX4_init 38 rfl) fwX4_36 rfl rfl rfl ?_
  refine g_iload_n (pc := 78) (i := 1) (dd dtX4_init 39 rfl) rfl rfl ?_
  refine g_new (N := 3) sqC (pc := 79) (k := 84) (dd dtX4_init 40 rfl) nwX4_34 rfl rfl rfl (hz 84 (by decide) (by decide)) (by decide) (by decide) rfl rfl ?_
  refine g_dup (pc := 82) (dd dtX4_init 41 rfl) rfl ?_
  refine g_iniN (host := RX10) (M2 := mX8_init) sqC (pc := 83) (dd dtX4_init 42 rfl) (fun U h => h.2.2.2.2.2.2.1) mvX8_init mnX8_init rfl rfl (gc_text2 (fun a h1 h2 => by (try simp (disch := omega) only [ist_ne, rset_ne]); exact hz a (by omega) (by omega))) rfl rfl (by decide) (by decide) (by decide) (by decide) rfl rfl ?_
  refine g_aast (pc := 86) (i := 77) (j := 86) (yi := 2) (by decide) sqC (dd dtX4_init 43 rfl) rfl rfl (by decide) rfl rfl (by decide) rfl (by unfold vp_in; decide) ?_
  refine g_iinc1 (pc := 87) (v := 3) (lv' := [(1, .int 3), (0, .ref 66)]) (dd dtX4_init 44 rfl) rfl (by decide) (Nat.le_of_ble_eq_true rfl) rfl ?_
  refine g_goto (pc := 90) (tgt := 68) (dd dtX4_init 45 rfl) (by decide) ?_
  refine g_iload_n (pc := 68) (i := 1) (dd dtX4_init 34 rfl) rfl rfl ?_
  refine g_bipush (pc := 69) (v := 6) (dd dtX4_init 35 rfl) (by decide) ?_
  refine g_icmp_ge (pc := 71) (tgt := 93) (dd dtX4_init 36 rfl) (by decide) (fun h => absurd h (by decide)) (fun _ => ?_)
  refine g_aload_n (pc := 74) (i := 0) (dd dtX4_init 37 rfl) rfl rfl ?_
  refine g_geta (pc := 75) (i := 66) (dd dtX4_init 38 rfl) fwX4_36 rfl rfl rfl ?_
  refine g_iload_n (pc := 78) (i := 1) (dd dtX4_init 39 rfl) rfl rfl ?_
  refine g_new (N := 3) sqC (pc := 79) (k := 87) (dd dtX4_init 40 rfl) nwX4_34 rfl rfl rfl (hz 87 (by decide) (by decide)) (by decide) (by decide) rfl rfl ?_
  refine g_dup (pc := 82) (dd dtX4_init 41 rfl) rfl ?_
  refine g_iniN (host := RX10) (M2 := mX8_init) sqC (pc := 83) (dd dtX4_init 42 rfl) (fun U h => h.2.2.2.2.2.2.1) mvX8_init mnX8_init rfl rfl (gc_text3 (fun a h1 h2 => by (try simp (disch := omega) only [ist_ne, rset_ne]); exact hz a (by omega) (by omega))) rfl rfl (by decide) (by decide) (by decide) (by decide) rfl rfl ?_
  refine g_aast (pc := 86) (i := 77) (j := 89) (yi := 3) (by decide) sqC (dd dtX4_init 43 rfl) rfl rfl (by decide) rfl rfl (by decide) rfl (by unfold vp_in; decide) ?_
  refine g_iinc1 (pc := 87) (v := 4) (lv' := [(1, .int 4), (0, .ref 66)]) (dd dtX4_init 44 rfl) rfl (by decide) (Nat.le_of_ble_eq_true rfl) rfl ?_
  refine g_goto (pc := 90) (tgt := 68) (dd dtX4_init 45 rfl) (by decide) ?_
  refine g_iload_n (pc := 68) (i := 1) (dd dtX4_init 34 rfl) rfl rfl ?_
  refine g_bipush (pc := 69) (v := 6) (dd dtX4_init 35 rfl) (by decide) ?_
  refine g_icmp_ge (pc := 71) (tgt := 93) (dd dtX4_init 36 rfl) (by decide) (fun h => absurd h (by decide)) (fun _ => ?_)
  refine g_aload_n (pc := 74) (i := 0) (dd dtX4_init 37 rfl) rfl rfl ?_
  refine g_geta (pc := 75) (i := 66) (dd dtX4_init 38 rfl) fwX4_36 rfl rfl rfl ?_
  refine g_iload_n (pc := 78) (i := 1) (dd dtX4_init 39 rfl) rfl rfl ?_
  refine g_new (N := 3) sqC (pc := 79) (k := 90) (dd dtX4_init 40 rfl) nwX4_34 rfl rfl rfl (hz 90 (by decide) (by decide)) (by decide) (by decide) rfl rfl ?_
  refine g_dup (pc := 82) (dd dtX4_init 41 rfl) rfl ?_
  refine g_iniN (host := RX10) (M2 := mX8_init) sqC (pc := 83) (dd dtX4_init 42 rfl) (fun U h => h.2.2.2.2.2.2.1) mvX8_init mnX8_init rfl rfl (gc_text4 (fun a h1 h2 => by (try simp (disch := omega) only [ist_ne, rset_ne]); exact hz a (by omega) (by omega))) rfl rfl (by decide) (by decide) (by decide) (by decide) rfl rfl ?_
  refine g_aast (pc := 86) (i := 77) (j := 92) (yi := 4) (by decide) sqC (dd dtX4_init 43 rfl) rfl rfl (by decide) rfl rfl (by decide) rfl (by unfold vp_in; decide) ?_
  refine g_iinc1 (pc := 87) (v := 5) (lv' := [(1, .int 5), (0, .ref 66)]) (dd dtX4_init 44 rfl) rfl (by decide) (Nat.le_of_ble_eq_true rfl) rfl ?_
  refine g_goto (pc := 90) (tgt := 68) (dd dtX4_init 45 rfl) (by decide) ?_
  refine g_iload_n (pc := 68) (i := 1) (dd dtX4_init 34 rfl) rfl rfl ?_
  refine g_bipush (pc := 69) (v := 6) (dd dtX4_init 35 rfl) (by decide) ?_
  refine g_icmp_ge (pc := 71) (tgt := 93) (dd dtX4_init 36 rfl) (by decide) (fun h => absurd h (by decide)) (fun _ => ?_)
  refine g_aload_n (pc := 74) (i := 0) (dd dtX4_init 37 rfl) rfl rfl ?_
  refine g_geta (pc := 75) (i := 66) (dd dtX4_init 38 rfl) fwX4_36 rfl rfl rfl ?_
  refine g_iload_n (pc := 78) (i := 1) (dd dtX4_init 39 rfl) rfl rfl ?_
  refine g_new (N := 3) sqC (pc := 79) (k := 93) (dd dtX4_init 40 rfl) nwX4_34 rfl rfl rfl (hz 93 (by decide) (by decide)) (by decide) (by decide) rfl rfl ?_
  refine g_dup (pc := 82) (dd dtX4_init 41 rfl) rfl ?_
  refine g_iniN (host := RX10) (M2 := mX8_init) sqC (pc := 83) (dd dtX4_init 42 rfl) (fun U h => h.2.2.2.2.2.2.1) mvX8_init mnX8_init rfl rfl (gc_text5 (fun a h1 h2 => by (try simp (disch := omega) only [ist_ne, rset_ne]); exact hz a (by omega) (by omega))) rfl rfl (by decide) (by decide) (by decide) (by decide) rfl rfl ?_
  refine g_aast (pc := 86) (i := 77) (j := 95) (yi := 5) (by decide) sqC (dd dtX4_init 43 rfl) rfl rfl (by decide) rfl rfl (by decide) rfl (by unfold vp_in; decide) ?_
  refine g_iinc1 (pc := 87) (v := 6) (lv' := [(1, .int 6), (0, .ref 66)]) (dd dtX4_init 44 rfl) rfl (by decide) (Nat.le_of_ble_eq_true rfl) rfl ?_
  refine g_goto (pc := 90) (tgt := 68) (dd dtX4_init 45 rfl) (by decide) ?_
  refine g_iload_n (pc := 68) (i := 1) (dd dtX4_init 34 rfl) rfl rfl ?_
  refine g_bipush (pc := 69) (v := 6) (dd dtX4_init 35 rfl) (by decide) ?_
  refine g_icmp_ge (pc := 71) (tgt := 93) (dd dtX4_init 36 rfl) (by decide) (fun _ => ?_) (fun h => absurd (by decide) h)
  refine g_vret (pc := 93) (dd dtX4_init 46 rfl) rfl (by decide) (by decide) rfl ?_ ?_
  · rfl
  · rfl
