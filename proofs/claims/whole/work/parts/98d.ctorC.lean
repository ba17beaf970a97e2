/-! the constructor of the class, to the first text -/
def tX10_init : List (Nat × Instr × Nat) := [(0, .aload_n 0, 1), (1, .invokespecial 1, 3), (4, .aload_n 0, 1), (5, .new 7, 3), (8, .dup, 1), (9, .invokespecial 9, 3), (12, .putfield 10, 3), (15, .aload_n 0, 1), (16, .new 16, 3), (19, .dup, 1), (20, .aload_n 0, 1), (21, .getfield 10, 3), (24, .invokespecial 18, 3), (27, .putfield 21, 3), (30, .aload_n 0, 1), (31, .new 16, 3), (34, .dup, 1), (35, .aload_n 0, 1), (36, .getfield 10, 3), (39, .invokespecial 18, 3), (42, .putfield 25, 3), (45, .aload_n 0, 1), (46, .new 16, 3), (49, .dup, 1), (50, .aload_n 0, 1), (51, .getfield 10, 3), (54, .invokespecial 18, 3), (57, .putfield 28, 3), (60, .aload_n 0, 1), (61, .iconst 0, 1), (62, .putfield 31, 3), (65, .aload_n 0, 1), (66, .new 35, 3), (69, .dup, 1), (70, .invokespecial 37, 3), (73, .putfield 38, 3), (76, .aload_n 0, 1), (77, .new 42, 3), (80, .dup, 1), (81, .bipush 8, 2), (83, .invokespecial 44, 3), (86, .putfield 47, 3), (89, .aload_n 0, 1), (90, .new 42, 3), (93, .dup, 1), (94, .bipush 30, 2), (96, .invokespecial 44, 3), (99, .putfield 51, 3), (102, .aload_n 0, 1), (103, .new 54, 3), (106, .dup, 1), (107, .invokespecial 56, 3), (110, .putfield 57, 3), (113, .aload_n 0, 1), (114, .new 61, 3), (117, .dup, 1), (118, .invokespecial 63, 3), (121, .putfield 64, 3), (124, .aload_n 0, 1), (125, .iconst 4, 1), (126, .anewarray 68, 3), (129, .putfield 70, 3), (132, .aload_n 0, 1), (133, .bipush 8, 2), (135, .newarray .int, 2), (137, .putfield 74, 3), (140, .aload_n 0, 1), (141, .iconst 0, 1), (142, .putfield 78, 3), (145, .aload_n 0, 1), (146, .iconst 0, 1), (147, .putfield 82, 3), (150, .iconst 0, 1), (151, .istore_n 1, 1), (152, .iload_n 1, 1), (153, .iconst 4, 1), (154, .if_icmp .ge 22, 3), (157, .aload_n 0, 1), (158, .getfield 70, 3), (161, .iload_n 1, 1), (162, .new 68, 3), (165, .dup, 1), (166, .invokespecial 85, 3), (169, .aastore, 1), (170, .iinc 1 1, 3), (173, .goto (-21), 3), (176, .aload_n 0, 1), (177, .getfield 64, 3), (180, .invokevirtual 86, 3), (183, .aload_n 0, 1), (184, .getfield 64, 3), (187, .invokevirtual 89, 3), (190, .pop, 1), (191, .return_, 1)]
theorem dtX10_init : dec_ok mX10_init.2.1 tX10_init = true := by decide +kernel
def lg_hs (L : List (Nat × Nat × Nat)) : List (Nat × Nat × Nat) := ((98, 3, 105) :: (lg_sheet3 ((98, 2, 103) :: (lg_sheet2 ((98, 1, 101) :: (lg_sheet1 ((98, 0, 99) :: (lg_sheet0 ((0, 11, 107) :: ((0, 10, 98) :: ((0, 9, 66) :: (lg_rules ((0, 8, 57) :: (lg_fit ((0, 7, 53) :: (lg_warns ((0, 6, 49) :: (lg_losts ((0, 5, 42) :: (lg_signs ((0, 3, 30) :: (lg_kept ((0, 2, 18) :: (lg_aside ((0, 1, 6) :: (lg_now ((0, 0, 1) :: (lg_built L))))))))))))))))))))))))))))
def i0_hs (I : Wd) : Wd := (ist (ist (ist (ist (ist (rset (rset (rset (rset (rset (rset I 10 (fmN 64)) 14 (fmN 14)) 22 (fmN 64)) 26 (fmN 14)) 34 (fmN 64)) 38 (fmN 14)) 73 4 (-1)) 99 0 (-1)) 101 0 (-1)) 103 0 (-1)) 105 0 (-1))
set_option maxHeartbeats 8000000 in
theorem gp_hs {I : Wd} (hz : ∀ a, 0 ≤ a → a ≤ 107 → I a = fun _ => 0) {nE : Nat} {LE : List (Nat × Nat × Nat)} {IE : Wd} (kk : Gd SyC qC mX10_init 70 107 4087 1 nE LE IE 107 4087 108 176 [(1, .int 4), (0, .ref 0)] [] (lg_hs []) (i0_hs I)) : Gd SyC qC mX10_init 70 107 4087 1 nE LE IE 0 0 1 0 [(0, .ref 0)] [] [] I := by
  refine g_aload_n (pc := 0) (i := 0) (dd dtX10_init 0 rfl) rfl rfl ?_
  refine g_obj (pc := 1) (dd dtX10_init 1 rfl) woX10_1 (by decide) (by decide) ?_
  refine g_aload_n (pc := 4) (i := 0) (dd dtX10_init 2 rfl) rfl rfl ?_
  refine g_new (N := 6) sqC (pc := 5) (k := 1) (dd dtX10_init 3 rfl) nwX10_7 rfl rfl rfl (hz 1 (by decide) (by decide)) (by decide) (by decide) rfl rfl ?_
  refine g_dup (pc := 8) (dd dtX10_init 4 rfl) rfl ?_
  refine g_iniN (host := RX10) (M2 := mX0_init) sqC (pc := 9) (dd dtX10_init 5 rfl) (fun U h => h.2.1) mvX0_init mnX0_init rfl rfl (gc_built (fun a h1 h2 => by (try simp (disch := omega) only [ist_ne, rset_ne]); exact hz a (by omega) (by omega))) rfl rfl (by decide) (by decide) (by decide) (by decide) rfl rfl ?_
  refine g_puta sqC (pc := 12) (i := 0) (dd dtX10_init 6 rfl) fwX10_10 rfl rfl (by decide) (fun _ _ _ h => by cases h; rfl) (Or.inl ⟨_, rfl⟩) ?_
  refine g_aload_n (pc := 15) (i := 0) (dd dtX10_init 7 rfl) rfl rfl ?_
  refine g_new (N := 16) sqC (pc := 16) (k := 6) (dd dtX10_init 8 rfl) nwX10_16 rfl rfl rfl (hz 6 (by decide) (by decide)) (by decide) (by decide) rfl rfl ?_
  refine g_dup (pc := 19) (dd dtX10_init 9 rfl) rfl ?_
  refine g_aload_n (pc := 20) (i := 0) (dd dtX10_init 10 rfl) rfl rfl ?_
  refine g_geta (pc := 21) (i := 0) (dd dtX10_init 11 rfl) fwX10_10 rfl rfl rfl ?_
  refine g_ini (M2 := mX2_init) sqC (pc := 24) (dd dtX10_init 12 rfl) mlX10_18 mvX2_init mnX2_init rfl rfl (gc_now (fun a h1 h2 => by (try simp (disch := omega) only [ist_ne, rset_ne]); exact hz a (by omega) (by omega))) rfl rfl (by decide) (by decide) (by decide) (by decide) rfl rfl ?_
  refine g_puta sqC (pc := 27) (i := 0) (dd dtX10_init 13 rfl) fwX10_21 rfl rfl (by decide) (fun _ _ _ h => by cases h; rfl) (Or.inl ⟨_, rfl⟩) ?_
  refine g_aload_n (pc := 30) (i := 0) (dd dtX10_init 14 rfl) rfl rfl ?_
  refine g_new (N := 16) sqC (pc := 31) (k := 18) (dd dtX10_init 15 rfl) nwX10_16 rfl rfl rfl (hz 18 (by decide) (by decide)) (by decide) (by decide) rfl rfl ?_
  refine g_dup (pc := 34) (dd dtX10_init 16 rfl) rfl ?_
  refine g_aload_n (pc := 35) (i := 0) (dd dtX10_init 17 rfl) rfl rfl ?_
  refine g_geta (pc := 36) (i := 0) (dd dtX10_init 18 rfl) fwX10_10 rfl rfl rfl ?_
  refine g_ini (M2 := mX2_init) sqC (pc := 39) (dd dtX10_init 19 rfl) mlX10_18 mvX2_init mnX2_init rfl rfl (gc_aside (fun a h1 h2 => by (try simp (disch := omega) only [ist_ne, rset_ne]); exact hz a (by omega) (by omega))) rfl rfl (by decide) (by decide) (by decide) (by decide) rfl rfl ?_
  refine g_puta sqC (pc := 42) (i := 0) (dd dtX10_init 20 rfl) fwX10_25 rfl rfl (by decide) (fun _ _ _ h => by cases h; rfl) (Or.inl ⟨_, rfl⟩) ?_
  refine g_aload_n (pc := 45) (i := 0) (dd dtX10_init 21 rfl) rfl rfl ?_
  refine g_new (N := 16) sqC (pc := 46) (k := 30) (dd dtX10_init 22 rfl) nwX10_16 rfl rfl rfl (hz 30 (by decide) (by decide)) (by decide) (by decide) rfl rfl ?_
  refine g_dup (pc := 49) (dd dtX10_init 23 rfl) rfl ?_
  refine g_aload_n (pc := 50) (i := 0) (dd dtX10_init 24 rfl) rfl rfl ?_
  refine g_geta (pc := 51) (i := 0) (dd dtX10_init 25 rfl) fwX10_10 rfl rfl rfl ?_
  refine g_ini (M2 := mX2_init) sqC (pc := 54) (dd dtX10_init 26 rfl) mlX10_18 mvX2_init mnX2_init rfl rfl (gc_kept (fun a h1 h2 => by (try simp (disch := omega) only [ist_ne, rset_ne]); exact hz a (by omega) (by omega))) rfl rfl (by decide) (by decide) (by decide) (by decide) rfl rfl ?_
  refine g_puta sqC (pc := 57) (i := 0) (dd dtX10_init 27 rfl) fwX10_28 rfl rfl (by decide) (fun _ _ _ h => by cases h; rfl) (Or.inl ⟨_, rfl⟩) ?_
  refine g_aload_n (pc := 60) (i := 0) (dd dtX10_init 28 rfl) rfl rfl ?_
  refine g_ic0 (pc := 61) (dd dtX10_init 29 rfl) ?_
  refine g_puts sqC (pc := 62) (i := 0) (dd dtX10_init 30 rfl) fwX10_31 rfl rfl rfl rfl (congrFun (hz 0 (by decide) (by decide)) _) ?_
  refine g_aload_n (pc := 65) (i := 0) (dd dtX10_init 31 rfl) rfl rfl ?_
  refine g_new (N := 7) sqC (pc := 66) (k := 42) (dd dtX10_init 32 rfl) nwX10_35 rfl rfl rfl (hz 42 (by decide) (by decide)) (by decide) (by decide) rfl rfl ?_
  refine g_dup (pc := 69) (dd dtX10_init 33 rfl) rfl ?_
  refine g_iniN (host := RX10) (M2 := mX6_init) sqC (pc := 70) (dd dtX10_init 34 rfl) (fun U h => h.2.2.1) mvX6_init mnX6_init rfl rfl (gc_signs (fun a h1 h2 => by (try simp (disch := omega) only [ist_ne, rset_ne]); exact hz a (by omega) (by omega))) rfl rfl (by decide) (by decide) (by decide) (by decide) rfl rfl ?_
  refine g_puta sqC (pc := 73) (i := 0) (dd dtX10_init 35 rfl) fwX10_38 rfl rfl (by decide) (fun _ _ _ h => by cases h; rfl) (Or.inl ⟨_, rfl⟩) ?_
  refine g_aload_n (pc := 76) (i := 0) (dd dtX10_init 36 rfl) rfl rfl ?_
  refine g_new (N := 4) sqC (pc := 77) (k := 49) (dd dtX10_init 37 rfl) nwX10_42 rfl rfl rfl (hz 49 (by decide) (by decide)) (by decide) (by decide) rfl rfl ?_
  refine g_dup (pc := 80) (dd dtX10_init 38 rfl) rfl ?_
  refine g_bipush (pc := 81) (v := 8) (dd dtX10_init 39 rfl) (by decide) ?_
  refine g_ini (M2 := mX9_init) sqC (pc := 83) (dd dtX10_init 40 rfl) mlX10_44 mvX9_init mnX9_init rfl rfl (gc_losts (fun a h1 h2 => by (try simp (disch := omega) only [ist_ne, rset_ne]); exact hz a (by omega) (by omega))) rfl rfl (by decide) (by decide) (by decide) (by decide) rfl rfl ?_
  refine g_puta sqC (pc := 86) (i := 0) (dd dtX10_init 41 rfl) fwX10_47 rfl rfl (by decide) (fun _ _ _ h => by cases h; rfl) (Or.inl ⟨_, rfl⟩) ?_
  refine g_aload_n (pc := 89) (i := 0) (dd dtX10_init 42 rfl) rfl rfl ?_
  refine g_new (N := 4) sqC (pc := 90) (k := 53) (dd dtX10_init 43 rfl) nwX10_42 rfl rfl rfl (hz 53 (by decide) (by decide)) (by decide) (by decide) rfl rfl ?_
  refine g_dup (pc := 93) (dd dtX10_init 44 rfl) rfl ?_
  refine g_bipush (pc := 94) (v := 30) (dd dtX10_init 45 rfl) (by decide) ?_
  refine g_ini (M2 := mX9_init) sqC (pc := 96) (dd dtX10_init 46 rfl) mlX10_44 mvX9_init mnX9_init rfl rfl (gc_warns (fun a h1 h2 => by (try simp (disch := omega) only [ist_ne, rset_ne]); exact hz a (by omega) (by omega))) rfl rfl (by decide) (by decide) (by decide) (by decide) rfl rfl ?_
  refine g_puta sqC (pc := 99) (i := 0) (dd dtX10_init 47 rfl) fwX10_51 rfl rfl (by decide) (fun _ _ _ h => by cases h; rfl) (Or.inl ⟨_, rfl⟩) ?_
  refine g_aload_n (pc := 102) (i := 0) (dd dtX10_init 48 rfl) rfl rfl ?_
  refine g_new (N := 13) sqC (pc := 103) (k := 57) (dd dtX10_init 49 rfl) nwX10_54 rfl rfl rfl (hz 57 (by decide) (by decide)) (by decide) (by decide) rfl rfl ?_
  refine g_dup (pc := 106) (dd dtX10_init 50 rfl) rfl ?_
  refine g_iniN (host := RX10) (M2 := mX1_init) sqC (pc := 107) (dd dtX10_init 51 rfl) (fun U h => h.2.2.2.1) mvX1_init mnX1_init rfl rfl (gc_fit (fun a h1 h2 => by (try simp (disch := omega) only [ist_ne, rset_ne]); exact hz a (by omega) (by omega))) rfl rfl (by decide) (by decide) (by decide) (by decide) rfl rfl ?_
  refine g_puta sqC (pc := 110) (i := 0) (dd dtX10_init 52 rfl) fwX10_57 rfl rfl (by decide) (fun _ _ _ h => by cases h; rfl) (Or.inl ⟨_, rfl⟩) ?_
  refine g_aload_n (pc := 113) (i := 0) (dd dtX10_init 53 rfl) rfl rfl ?_
  refine g_new (N := 7) sqC (pc := 114) (k := 66) (dd dtX10_init 54 rfl) nwX10_61 rfl rfl rfl (hz 66 (by decide) (by decide)) (by decide) (by decide) rfl rfl ?_
  refine g_dup (pc := 117) (dd dtX10_init 55 rfl) rfl ?_
  refine g_ini (M2 := mX4_init) sqC (pc := 118) (dd dtX10_init 56 rfl) mlX10_63 mvX4_init mnX4_init rfl rfl (gc_rules (fun a h1 h2 => by (try simp (disch := omega) only [ist_ne, rset_ne]); exact hz a (by omega) (by omega))) rfl rfl (by decide) (by decide) (by decide) (by decide) rfl rfl ?_
  refine g_puta sqC (pc := 121) (i := 0) (dd dtX10_init 57 rfl) fwX10_64 rfl rfl (by decide) (fun _ _ _ h => by cases h; rfl) (Or.inl ⟨_, rfl⟩) ?_
  refine g_aload_n (pc := 124) (i := 0) (dd dtX10_init 58 rfl) rfl rfl ?_
  refine g_ic4 (pc := 125) (dd dtX10_init 59 rfl) ?_
  refine g_newA sqC (pc := 126) (k := 98) (dd dtX10_init 60 rfl) wkX10_68 (Or.inl ⟨rfl, rfl, rfl⟩) rfl rfl (by decide) (by decide) (by decide) (by decide) (by decide) rfl rfl ?_
  refine g_puta sqC (pc := 129) (i := 0) (dd dtX10_init 61 rfl) fwX10_70 rfl rfl (by decide) (fun _ _ _ h => by cases h; rfl) (Or.inr ⟨_, rfl⟩) ?_
  refine g_aload_n (pc := 132) (i := 0) (dd dtX10_init 62 rfl) rfl rfl ?_
  refine g_bipush (pc := 133) (v := 8) (dd dtX10_init 63 rfl) (by decide) ?_
  refine g_newI sqC (pc := 135) (k := 107) (dd dtX10_init 64 rfl) rfl rfl (hz 107 (by decide) (by decide)) (by decide) (by decide) (by decide) (by decide) (by decide) rfl rfl ?_
  refine g_puta sqC (pc := 137) (i := 0) (dd dtX10_init 65 rfl) fwX10_74 rfl rfl (by decide) (fun _ _ _ h => by cases h; rfl) (Or.inr ⟨_, rfl⟩) ?_
  refine g_aload_n (pc := 140) (i := 0) (dd dtX10_init 66 rfl) rfl rfl ?_
  refine g_ic0 (pc := 141) (dd dtX10_init 67 rfl) ?_
  refine g_puts sqC (pc := 142) (i := 0) (dd dtX10_init 68 rfl) fwX10_78 rfl rfl rfl rfl (congrFun (hz 0 (by decide) (by decide)) _) ?_
  refine g_aload_n (pc := 145) (i := 0) (dd dtX10_init 69 rfl) rfl rfl ?_
  refine g_ic0 (pc := 146) (dd dtX10_init 70 rfl) ?_
  refine g_puts sqC (pc := 147) (i := 0) (dd dtX10_init 71 rfl) fwX10_82 rfl rfl rfl rfl (congrFun (hz 0 (by decide) (by decide)) _) ?_
  refine g_ic0 (pc := 150) (dd dtX10_init 72 rfl) ?_
  refine g_istore_n (pc := 151) (i := 1) (lv' := [(1, .int 0), (0, .ref 0)]) (dd dtX10_init 73 rfl) rfl (Nat.le_of_ble_eq_true rfl) rfl ?_
  refine g_iload_n (pc := 152) (i := 1) (dd dtX10_init 74 rfl) rfl rfl ?_
  refine g_ic4 (pc := 153) (dd dtX10_init 75 rfl) ?_
  refine g_icmp_ge (pc := 154) (tgt := 176) (dd dtX10_init 76 rfl) (by decide) (fun h => absurd h (by decide)) (fun _ => ?_)
  refine g_aload_n (pc := 157) (i := 0) (dd dtX10_init 77 rfl) rfl rfl ?_
  refine g_geta (pc := 158) (i := 0) (dd dtX10_init 78 rfl) fwX10_70 rfl rfl rfl ?_
  refine g_iload_n (pc := 161) (i := 1) (dd dtX10_init 79 rfl) rfl rfl ?_
  refine g_new (N := 3) sqC (pc := 162) (k := 99) (dd dtX10_init 80 rfl) nwX10_68 rfl rfl rfl (hz 99 (by decide) (by decide)) (by decide) (by decide) rfl rfl ?_
  refine g_dup (pc := 165) (dd dtX10_init 81 rfl) rfl ?_
  refine g_iniN (host := RX10) (M2 := mX5_init) sqC (pc := 166) (dd dtX10_init 82 rfl) (fun U h => h.2.2.2.2.2.2.2) mvX5_init mnX5_init rfl rfl (gc_sheet0 (fun a h1 h2 => by (try simp (disch := omega) only [ist_ne, rset_ne]); exact hz a (by omega) (by omega))) rfl rfl (by decide) (by decide) (by decide) (by decide) rfl rfl ?_
  refine g_aast (pc := 169) (i := 98) (j := 100) (yi := 0) (by decide) sqC (dd dtX10_init 83 rfl) rfl rfl (by decide) rfl rfl (by decide) rfl (by unfold vp_in; decide) ?_
  refine g_iinc1 (pc := 170) (v := 1) (lv' := [(1, .int 1), (0, .ref 0)]) (dd dtX10_init 84 rfl) rfl (by decide) (Nat.le_of_ble_eq_true rfl) rfl ?_
  refine g_goto (pc := 173) (tgt := 152) (dd dtX10_init 85 rfl) (by decide) ?_
  refine g_iload_n (pc := 152) (i := 1) (dd dtX10_init 74 rfl) rfl rfl ?_
  refine g_ic4 (pc := 153) (dd dtX10_init 75 rfl) ?_
  refine g_icmp_ge (pc := 154) (tgt := 176) (dd dtX10_init 76 rfl) (by decide) (fun h => absurd h (by decide)) (fun _ => ?_)
  refine g_aload_n (pc := 157) (i := 0) (dd dtX10_init 77 rfl) rfl rfl ?_
  refine g_geta (pc := 158) (i := 0) (dd dtX10_init 78 rfl) fwX10_70 rfl rfl rfl ?_
  refine g_iload_n (pc := 161) (i := 1) (dd dtX10_init 79 rfl) rfl rfl ?_
  refine g_new (N := 3) sqC (pc := 162) (k := 101) (dd dtX10_init 80 rfl) nwX10_68 rfl rfl rfl (hz 101 (by decide) (by decide)) (by decide) (by decide) rfl rfl ?_
  refine g_dup (pc := 165) (dd dtX10_init 81 rfl) rfl ?_
  refine g_iniN (host := RX10) (M2 := mX5_init) sqC (pc := 166) (dd dtX10_init 82 rfl) (fun U h => h.2.2.2.2.2.2.2) mvX5_init mnX5_init rfl rfl (gc_sheet1 (fun a h1 h2 => by (try simp (disch := omega) only [ist_ne, rset_ne]); exact hz a (by omega) (by omega))) rfl rfl (by decide) (by decide) (by decide) (by decide) rfl rfl ?_
  refine g_aast (pc := 169) (i := 98) (j := 102) (yi := 1) (by decide) sqC (dd dtX10_init 83 rfl) rfl rfl (by decide) rfl rfl (by decide) rfl (by unfold vp_in; decide) ?_
  refine g_iinc1 (pc := 170) (v := 2) (lv' := [(1, .int 2), (0, .ref 0)]) (dd dtX10_init 84 rfl) rfl (by decide) (Nat.le_of_ble_eq_true rfl) rfl ?_
  refine g_goto (pc := 173) (tgt := 152) (dd dtX10_init 85 rfl) (by decide) ?_
  refine g_iload_n (pc := 152) (i := 1) (dd dtX10_init 74 rfl) rfl rfl ?_
  refine g_ic4 (pc := 153) (dd dtX10_init 75 rfl) ?_
  refine g_icmp_ge (pc := 154) (tgt := 176) (dd dtX10_init 76 rfl) (by decide) (fun h => absurd h (by decide)) (fun _ => ?_)
  refine g_aload_n (pc := 157) (i := 0) (dd dtX10_init 77 rfl) rfl rfl ?_
  refine g_geta (pc := 158) (i := 0) (dd dtX10_init 78 rfl) fwX10_70 rfl rfl rfl ?_
  refine g_iload_n (pc := 161) (i := 1) (dd dtX10_init 79 rfl) rfl rfl ?_
  refine g_new (N := 3) sqC (pc := 162) (k := 103) (dd dtX10_init 80 rfl) nwX10_68 rfl rfl rfl (hz 103 (by decide) (by decide)) (by decide) (by decide) rfl rfl ?_
  refine g_dup (pc := 165) (dd dtX10_init 81 rfl) rfl ?_
  refine g_iniN (host := RX10) (M2 := mX5_init) sqC (pc := 166) (dd dtX10_init 82 rfl) (fun U h => h.2.2.2.2.2.2.2) mvX5_init mnX5_init rfl rfl (gc_sheet2 (fun a h1 h2 => by (try simp (disch := omega) only [ist_ne, rset_ne]); exact hz a (by omega) (by omega))) rfl rfl (by decide) (by decide) (by decide) (by decide) rfl rfl ?_
  refine g_aast (pc := 169) (i := 98) (j := 104) (yi := 2) (by decide) sqC (dd dtX10_init 83 rfl) rfl rfl (by decide) rfl rfl (by decide) rfl (by unfold vp_in; decide) ?_
  refine g_iinc1 (pc := 170) (v := 3) (lv' := [(1, .int 3), (0, .ref 0)]) (dd dtX10_init 84 rfl) rfl (by decide) (Nat.le_of_ble_eq_true rfl) rfl ?_
  refine g_goto (pc := 173) (tgt := 152) (dd dtX10_init 85 rfl) (by decide) ?_
  refine g_iload_n (pc := 152) (i := 1) (dd dtX10_init 74 rfl) rfl rfl ?_
  refine g_ic4 (pc := 153) (dd dtX10_init 75 rfl) ?_
  refine g_icmp_ge (pc := 154) (tgt := 176) (dd dtX10_init 76 rfl) (by decide) (fun h => absurd h (by decide)) (fun _ => ?_)
  refine g_aload_n (pc := 157) (i := 0) (dd dtX10_init 77 rfl) rfl rfl ?_
  refine g_geta (pc := 158) (i := 0) (dd dtX10_init 78 rfl) fwX10_70 rfl rfl rfl ?_
  refine g_iload_n (pc := 161) (i := 1) (dd dtX10_init 79 rfl) rfl rfl ?_
  refine g_new (N := 3) sqC (pc := 162) (k := 105) (dd dtX10_init 80 rfl) nwX10_68 rfl rfl rfl (hz 105 (by decide) (by decide)) (by decide) (by decide) rfl rfl ?_
  refine g_dup (pc := 165) (dd dtX10_init 81 rfl) rfl ?_
  refine g_iniN (host := RX10) (M2 := mX5_init) sqC (pc := 166) (dd dtX10_init 82 rfl) (fun U h => h.2.2.2.2.2.2.2) mvX5_init mnX5_init rfl rfl (gc_sheet3 (fun a h1 h2 => by (try simp (disch := omega) only [ist_ne, rset_ne]); exact hz a (by omega) (by omega))) rfl rfl (by decide) (by decide) (by decide) (by decide) rfl rfl ?_
  refine g_aast (pc := 169) (i := 98) (j := 106) (yi := 3) (by decide) sqC (dd dtX10_init 83 rfl) rfl rfl (by decide) rfl rfl (by decide) rfl (by unfold vp_in; decide) ?_
  refine g_iinc1 (pc := 170) (v := 4) (lv' := [(1, .int 4), (0, .ref 0)]) (dd dtX10_init 84 rfl) rfl (by decide) (Nat.le_of_ble_eq_true rfl) rfl ?_
  refine g_goto (pc := 173) (tgt := 152) (dd dtX10_init 85 rfl) (by decide) ?_
  refine g_iload_n (pc := 152) (i := 1) (dd dtX10_init 74 rfl) rfl rfl ?_
  refine g_ic4 (pc := 153) (dd dtX10_init 75 rfl) ?_
  refine g_icmp_ge (pc := 154) (tgt := 176) (dd dtX10_init 76 rfl) (by decide) (fun _ => ?_) (fun h => absurd (by decide) h)
  exact kk
