/-! words as numbers -/
def tX11_wordOf : List (Nat × Instr × Nat) := [(0, .lload_n 1, 1), (1, .ldc2_w 303, 3), (4, .lcmp, 1), (5, .ifCond .ne 5, 3), (8, .iconst 0, 1), (9, .ireturn, 1), (10, .lload_n 1, 1), (11, .ldc2_w 305, 3), (14, .lcmp, 1), (15, .ifCond .ne 5, 3), (18, .iconst 1, 1), (19, .ireturn, 1), (20, .lload_n 1, 1), (21, .ldc2_w 307, 3), (24, .lcmp, 1), (25, .ifCond .ne 5, 3), (28, .iconst 2, 1), (29, .ireturn, 1), (30, .lload_n 1, 1), (31, .ldc2_w 309, 3), (34, .lcmp, 1), (35, .ifCond .ne 5, 3), (38, .iconst 3, 1), (39, .ireturn, 1), (40, .lload_n 1, 1), (41, .ldc2_w 311, 3), (44, .lcmp, 1), (45, .ifCond .ne 5, 3), (48, .iconst 4, 1), (49, .ireturn, 1), (50, .lload_n 1, 1), (51, .ldc2_w 313, 3), (54, .lcmp, 1), (55, .ifCond .ne 5, 3), (58, .iconst 5, 1), (59, .ireturn, 1), (60, .lload_n 1, 1), (61, .ldc2_w 315, 3), (64, .lcmp, 1), (65, .ifCond .ne 6, 3), (68, .bipush 10, 2), (70, .ireturn, 1), (71, .lload_n 1, 1), (72, .ldc2_w 317, 3), (75, .lcmp, 1), (76, .ifCond .ne 6, 3), (79, .bipush 11, 2), (81, .ireturn, 1), (82, .lload_n 1, 1), (83, .ldc2_w 319, 3), (86, .lcmp, 1), (87, .ifCond .ne 6, 3), (90, .bipush 12, 2), (92, .ireturn, 1), (93, .lload_n 1, 1), (94, .ldc2_w 321, 3), (97, .lcmp, 1), (98, .ifCond .ne 6, 3), (101, .bipush 13, 2), (103, .ireturn, 1), (104, .lload_n 1, 1), (105, .ldc2_w 323, 3), (108, .lcmp, 1), (109, .ifCond .ne 6, 3), (112, .bipush 14, 2), (114, .ireturn, 1), (115, .lload_n 1, 1), (116, .ldc2_w 325, 3), (119, .lcmp, 1), (120, .ifCond .ne 6, 3), (123, .bipush 15, 2), (125, .ireturn, 1), (126, .lload_n 1, 1), (127, .ldc2_w 327, 3), (130, .lcmp, 1), (131, .ifCond .ne 6, 3), (134, .bipush 16, 2), (136, .ireturn, 1), (137, .lload_n 1, 1), (138, .ldc2_w 329, 3), (141, .lcmp, 1), (142, .ifCond .ne 8, 3), (145, .bipush 17, 2), (147, .goto 4, 3), (150, .iconst (-1), 1), (151, .ireturn, 1)]
theorem dtX11_wordOf : dec_ok mX11_wordOf.2.1 tX11_wordOf = true := by decide +kernel
set_option maxHeartbeats 4000000 in
theorem c_X11_wordOf {J : Wd} {x : Int64} : Cal SyM mX11_wordOf 0 [.ref 0, .long x] J (some (.int (wordF x))) J := by
  refine Cal.of (by decide) (Nat.le_of_ble_eq_true rfl) ?_
  show Bd _ _ _ _ [(0, _), (1, _)] _ _ _ _
  refine b_lload_n (pc := 0) (i := 1) (dd dtX11_wordOf 0 rfl) rfl rfl ?_
  refine b_ldc2 (pc := 1) (dd dtX11_wordOf 1 rfl) kcX11_303 ?_
  refine b_lcmp (pc := 4) (dd dtX11_wordOf 2 rfl) ?_
  refine b_if_ne (pc := 5) (tgt := 10) (dd dtX11_wordOf 3 rfl) (by decide) (fun h5 => ?_) (fun h5 => ?_)
  · refine b_lload_n (pc := 10) (i := 1) (dd dtX11_wordOf 6 rfl) rfl rfl ?_
    refine b_ldc2 (pc := 11) (dd dtX11_wordOf 7 rfl) kcX11_305 ?_
    refine b_lcmp (pc := 14) (dd dtX11_wordOf 8 rfl) ?_
    refine b_if_ne (pc := 15) (tgt := 20) (dd dtX11_wordOf 9 rfl) (by decide) (fun h15 => ?_) (fun h15 => ?_)
    · refine b_lload_n (pc := 20) (i := 1) (dd dtX11_wordOf 12 rfl) rfl rfl ?_
      refine b_ldc2 (pc := 21) (dd dtX11_wordOf 13 rfl) kcX11_307 ?_
      refine b_lcmp (pc := 24) (dd dtX11_wordOf 14 rfl) ?_
      refine b_if_ne (pc := 25) (tgt := 30) (dd dtX11_wordOf 15 rfl) (by decide) (fun h25 => ?_) (fun h25 => ?_)
      · refine b_lload_n (pc := 30) (i := 1) (dd dtX11_wordOf 18 rfl) rfl rfl ?_
        refine b_ldc2 (pc := 31) (dd dtX11_wordOf 19 rfl) kcX11_309 ?_
        refine b_lcmp (pc := 34) (dd dtX11_wordOf 20 rfl) ?_
        refine b_if_ne (pc := 35) (tgt := 40) (dd dtX11_wordOf 21 rfl) (by decide) (fun h35 => ?_) (fun h35 => ?_)
        · refine b_lload_n (pc := 40) (i := 1) (dd dtX11_wordOf 24 rfl) rfl rfl ?_
          refine b_ldc2 (pc := 41) (dd dtX11_wordOf 25 rfl) kcX11_311 ?_
          refine b_lcmp (pc := 44) (dd dtX11_wordOf 26 rfl) ?_
          refine b_if_ne (pc := 45) (tgt := 50) (dd dtX11_wordOf 27 rfl) (by decide) (fun h45 => ?_) (fun h45 => ?_)
          · refine b_lload_n (pc := 50) (i := 1) (dd dtX11_wordOf 30 rfl) rfl rfl ?_
            refine b_ldc2 (pc := 51) (dd dtX11_wordOf 31 rfl) kcX11_313 ?_
            refine b_lcmp (pc := 54) (dd dtX11_wordOf 32 rfl) ?_
            refine b_if_ne (pc := 55) (tgt := 60) (dd dtX11_wordOf 33 rfl) (by decide) (fun h55 => ?_) (fun h55 => ?_)
            · refine b_lload_n (pc := 60) (i := 1) (dd dtX11_wordOf 36 rfl) rfl rfl ?_
              refine b_ldc2 (pc := 61) (dd dtX11_wordOf 37 rfl) kcX11_315 ?_
              refine b_lcmp (pc := 64) (dd dtX11_wordOf 38 rfl) ?_
              refine b_if_ne (pc := 65) (tgt := 71) (dd dtX11_wordOf 39 rfl) (by decide) (fun h65 => ?_) (fun h65 => ?_)
              · refine b_lload_n (pc := 71) (i := 1) (dd dtX11_wordOf 42 rfl) rfl rfl ?_
                refine b_ldc2 (pc := 72) (dd dtX11_wordOf 43 rfl) kcX11_317 ?_
                refine b_lcmp (pc := 75) (dd dtX11_wordOf 44 rfl) ?_
                refine b_if_ne (pc := 76) (tgt := 82) (dd dtX11_wordOf 45 rfl) (by decide) (fun h76 => ?_) (fun h76 => ?_)
                · refine b_lload_n (pc := 82) (i := 1) (dd dtX11_wordOf 48 rfl) rfl rfl ?_
                  refine b_ldc2 (pc := 83) (dd dtX11_wordOf 49 rfl) kcX11_319 ?_
                  refine b_lcmp (pc := 86) (dd dtX11_wordOf 50 rfl) ?_
                  refine b_if_ne (pc := 87) (tgt := 93) (dd dtX11_wordOf 51 rfl) (by decide) (fun h87 => ?_) (fun h87 => ?_)
                  · refine b_lload_n (pc := 93) (i := 1) (dd dtX11_wordOf 54 rfl) rfl rfl ?_
                    refine b_ldc2 (pc := 94) (dd dtX11_wordOf 55 rfl) kcX11_321 ?_
                    refine b_lcmp (pc := 97) (dd dtX11_wordOf 56 rfl) ?_
                    refine b_if_ne (pc := 98) (tgt := 104) (dd dtX11_wordOf 57 rfl) (by decide) (fun h98 => ?_) (fun h98 => ?_)
                    · refine b_lload_n (pc := 104) (i := 1) (dd dtX11_wordOf 60 rfl) rfl rfl ?_
                      refine b_ldc2 (pc := 105) (dd dtX11_wordOf 61 rfl) kcX11_323 ?_
                      refine b_lcmp (pc := 108) (dd dtX11_wordOf 62 rfl) ?_
                      refine b_if_ne (pc := 109) (tgt := 115) (dd dtX11_wordOf 63 rfl) (by decide) (fun h109 => ?_) (fun h109 => ?_)
                      · refine b_lload_n (pc := 115) (i := 1) (dd dtX11_wordOf 66 rfl) rfl rfl ?_
                        refine b_ldc2 (pc := 116) (dd dtX11_wordOf 67 rfl) kcX11_325 ?_
                        refine b_lcmp (pc := 119) (dd dtX11_wordOf 68 rfl) ?_
                        refine b_if_ne (pc := 120) (tgt := 126) (dd dtX11_wordOf 69 rfl) (by decide) (fun h120 => ?_) (fun h120 => ?_)
                        · refine b_lload_n (pc := 126) (i := 1) (dd dtX11_wordOf 72 rfl) rfl rfl ?_
                          refine b_ldc2 (pc := 127) (dd dtX11_wordOf 73 rfl) kcX11_327 ?_
                          refine b_lcmp (pc := 130) (dd dtX11_wordOf 74 rfl) ?_
                          refine b_if_ne (pc := 131) (tgt := 137) (dd dtX11_wordOf 75 rfl) (by decide) (fun h131 => ?_) (fun h131 => ?_)
                          · refine b_lload_n (pc := 137) (i := 1) (dd dtX11_wordOf 78 rfl) rfl rfl ?_
                            refine b_ldc2 (pc := 138) (dd dtX11_wordOf 79 rfl) kcX11_329 ?_
                            refine b_lcmp (pc := 141) (dd dtX11_wordOf 80 rfl) ?_
                            refine b_if_ne (pc := 142) (tgt := 150) (dd dtX11_wordOf 81 rfl) (by decide) (fun h142 => ?_) (fun h142 => ?_)
                            · refine b_icm1 (pc := 150) (dd dtX11_wordOf 84 rfl) ?_
                              refine b_eq (b_iret (dd dtX11_wordOf 85 rfl) rfl) ?_ ?_
                              · simp only [lg_cmp_eq] at *
                                simp [wordF, *]
                              · rfl
                            · refine b_bipush (pc := 145) (v := 17) (dd dtX11_wordOf 82 rfl) (by decide) ?_
                              refine b_goto (pc := 147) (tgt := 151) (dd dtX11_wordOf 83 rfl) (by decide) ?_
                              refine b_eq (b_iret (dd dtX11_wordOf 85 rfl) rfl) ?_ ?_
                              · simp only [lg_cmp_eq] at *
                                simp [wordF, *]
                              · rfl
                          · refine b_bipush (pc := 134) (v := 16) (dd dtX11_wordOf 76 rfl) (by decide) ?_
                            refine b_eq (b_iret (dd dtX11_wordOf 77 rfl) rfl) ?_ ?_
                            · simp only [lg_cmp_eq] at *
                              simp [wordF, *]
                            · rfl
                        · refine b_bipush (pc := 123) (v := 15) (dd dtX11_wordOf 70 rfl) (by decide) ?_
                          refine b_eq (b_iret (dd dtX11_wordOf 71 rfl) rfl) ?_ ?_
                          · simp only [lg_cmp_eq] at *
                            simp [wordF, *]
                          · rfl
                      · refine b_bipush (pc := 112) (v := 14) (dd dtX11_wordOf 64 rfl) (by decide) ?_
                        refine b_eq (b_iret (dd dtX11_wordOf 65 rfl) rfl) ?_ ?_
                        · simp only [lg_cmp_eq] at *
                          simp [wordF, *]
                        · rfl
                    · refine b_bipush (pc := 101) (v := 13) (dd dtX11_wordOf 58 rfl) (by decide) ?_
                      refine b_eq (b_iret (dd dtX11_wordOf 59 rfl) rfl) ?_ ?_
                      · simp only [lg_cmp_eq] at *
                        simp [wordF, *]
                      · rfl
                  · refine b_bipush (pc := 90) (v := 12) (dd dtX11_wordOf 52 rfl) (by decide) ?_
                    refine b_eq (b_iret (dd dtX11_wordOf 53 rfl) rfl) ?_ ?_
                    · simp only [lg_cmp_eq] at *
                      simp [wordF, *]
                    · rfl
                · refine b_bipush (pc := 79) (v := 11) (dd dtX11_wordOf 46 rfl) (by decide) ?_
                  refine b_eq (b_iret (dd dtX11_wordOf 47 rfl) rfl) ?_ ?_
                  · simp only [lg_cmp_eq] at *
                    simp [wordF, *]
                  · rfl
              · refine b_bipush (pc := 68) (v := 10) (dd dtX11_wordOf 40 rfl) (by decide) ?_
                refine b_eq (b_iret (dd dtX11_wordOf 41 rfl) rfl) ?_ ?_
                · simp only [lg_cmp_eq] at *
                  simp [wordF, *]
                · rfl
            · refine b_ic5 (pc := 58) (dd dtX11_wordOf 34 rfl) ?_
              refine b_eq (b_iret (dd dtX11_wordOf 35 rfl) rfl) ?_ ?_
              · simp only [lg_cmp_eq] at *
                simp [wordF, *]
              · rfl
          · refine b_ic4 (pc := 48) (dd dtX11_wordOf 28 rfl) ?_
            refine b_eq (b_iret (dd dtX11_wordOf 29 rfl) rfl) ?_ ?_
            · simp only [lg_cmp_eq] at *
              simp [wordF, *]
            · rfl
        · refine b_ic3 (pc := 38) (dd dtX11_wordOf 22 rfl) ?_
          refine b_eq (b_iret (dd dtX11_wordOf 23 rfl) rfl) ?_ ?_
          · simp only [lg_cmp_eq] at *
            simp [wordF, *]
          · rfl
      · refine b_ic2 (pc := 28) (dd dtX11_wordOf 16 rfl) ?_
        refine b_eq (b_iret (dd dtX11_wordOf 17 rfl) rfl) ?_ ?_
        · simp only [lg_cmp_eq] at *
          simp [wordF, *]
        · rfl
    · refine b_ic1 (pc := 18) (dd dtX11_wordOf 10 rfl) ?_
      refine b_eq (b_iret (dd dtX11_wordOf 11 rfl) rfl) ?_ ?_
      · simp only [lg_cmp_eq] at *
        simp [wordF, *]
      · rfl
  · refine b_ic0 (pc := 8) (dd dtX11_wordOf 4 rfl) ?_
    refine b_eq (b_iret (dd dtX11_wordOf 5 rfl) rfl) ?_ ?_
    · simp only [lg_cmp_eq] at *
      simp [wordF, *]
    · rfl
def tX11_rankOf : List (Nat × Instr × Nat) := [(0, .iload_n 1, 1), (1, .lookupswitch 103 #[(33, 87), (38, 85), (42, 97), (43, 93), (45, 95), (60, 89), (61, 91), (124, 83), (126, 100)], 83), (84, .iconst 1, 1), (85, .ireturn, 1), (86, .iconst 2, 1), (87, .ireturn, 1), (88, .iconst 3, 1), (89, .ireturn, 1), (90, .iconst 4, 1), (91, .ireturn, 1), (92, .iconst 4, 1), (93, .ireturn, 1), (94, .iconst 5, 1), (95, .ireturn, 1), (96, .iconst 5, 1), (97, .ireturn, 1), (98, .bipush 6, 2), (100, .ireturn, 1), (101, .bipush 7, 2), (103, .ireturn, 1), (104, .iconst 0, 1), (105, .ireturn, 1)]
theorem dtX11_rankOf : dec_ok mX11_rankOf.2.1 tX11_rankOf = true := by decide +kernel
set_option maxHeartbeats 4000000 in
theorem c_X11_rankOf {J : Wd} {x : Int32} : Cal SyM mX11_rankOf 0 [.ref 0, .int x] J (some (.int (rankF x))) J := by
  refine Cal.of (by decide) (Nat.le_of_ble_eq_true rfl) ?_
  show Bd _ _ _ _ [(0, _), (1, _)] _ _ _ _
  refine b_iload_n (pc := 0) (i := 1) (dd dtX11_rankOf 0 rfl) rfl rfl ?_
  refine b_lsw (pc := 1) (ts := [(33, 88), (38, 86), (42, 98), (43, 94), (45, 96), (60, 90), (61, 92), (124, 84), (126, 101)]) (dfl := 104) (dd dtX11_rankOf 1 rfl) (by decide +kernel) ⟨fun h1 => ?_, fun h1_33 => ⟨fun h1 => ?_, fun h1_38 => ⟨fun h1 => ?_, fun h1_42 => ⟨fun h1 => ?_, fun h1_43 => ⟨fun h1 => ?_, fun h1_45 => ⟨fun h1 => ?_, fun h1_60 => ⟨fun h1 => ?_, fun h1_61 => ⟨fun h1 => ?_, fun h1_124 => ⟨fun h1 => ?_, fun h1_126 => ?_⟩⟩⟩⟩⟩⟩⟩⟩⟩
  · refine b_ic3 (pc := 88) (dd dtX11_rankOf 6 rfl) ?_
    refine b_eq (b_iret (dd dtX11_rankOf 7 rfl) rfl) ?_ ?_
    · simp [rankF, *]
    · rfl
  · refine b_ic2 (pc := 86) (dd dtX11_rankOf 4 rfl) ?_
    refine b_eq (b_iret (dd dtX11_rankOf 5 rfl) rfl) ?_ ?_
    · simp [rankF, *]
    · rfl
  · refine b_bipush (pc := 98) (v := 6) (dd dtX11_rankOf 16 rfl) (by decide) ?_
    refine b_eq (b_iret (dd dtX11_rankOf 17 rfl) rfl) ?_ ?_
    · simp [rankF, *]
    · rfl
  · refine b_ic5 (pc := 94) (dd dtX11_rankOf 12 rfl) ?_
    refine b_eq (b_iret (dd dtX11_rankOf 13 rfl) rfl) ?_ ?_
    · simp [rankF, *]
    · rfl
  · refine b_ic5 (pc := 96) (dd dtX11_rankOf 14 rfl) ?_
    refine b_eq (b_iret (dd dtX11_rankOf 15 rfl) rfl) ?_ ?_
    · simp [rankF, *]
    · rfl
  · refine b_ic4 (pc := 90) (dd dtX11_rankOf 8 rfl) ?_
    refine b_eq (b_iret (dd dtX11_rankOf 9 rfl) rfl) ?_ ?_
    · simp [rankF, *]
    · rfl
  · refine b_ic4 (pc := 92) (dd dtX11_rankOf 10 rfl) ?_
    refine b_eq (b_iret (dd dtX11_rankOf 11 rfl) rfl) ?_ ?_
    · simp [rankF, *]
    · rfl
  · refine b_ic1 (pc := 84) (dd dtX11_rankOf 2 rfl) ?_
    refine b_eq (b_iret (dd dtX11_rankOf 3 rfl) rfl) ?_ ?_
    · simp [rankF, *]
    · rfl
  · refine b_bipush (pc := 101) (v := 7) (dd dtX11_rankOf 18 rfl) (by decide) ?_
    refine b_eq (b_iret (dd dtX11_rankOf 19 rfl) rfl) ?_ ?_
    · simp [rankF, *]
    · rfl
  · refine b_ic0 (pc := 104) (dd dtX11_rankOf 20 rfl) ?_
    refine b_eq (b_iret (dd dtX11_rankOf 21 rfl) rfl) ?_ ?_
    · simp [rankF, *]
    · rfl
theorem jn5 {a b c d e : Prop} (h1 : ¬ a) (h2 : ¬ b) (h3 : ¬ c) (h4 : ¬ d) (h5 : ¬ e) : ¬ (a ∨ b ∨ c ∨ d ∨ e) := fun q => q.elim h1 (fun q => q.elim h2 (fun q => q.elim h3 (fun q => q.elim h4 h5)))
def tX11_joint : List (Nat × Instr × Nat) := [(0, .aload_n 0, 1), (1, .getfield 176, 3), (4, .bipush 42, 2), (6, .if_icmp .eq 39, 3), (9, .aload_n 0, 1), (10, .getfield 176, 3), (13, .bipush 43, 2), (15, .if_icmp .eq 30, 3), (18, .aload_n 0, 1), (19, .getfield 176, 3), (22, .bipush 45, 2), (24, .if_icmp .eq 21, 3), (27, .aload_n 0, 1), (28, .getfield 176, 3), (31, .bipush 60, 2), (33, .if_icmp .eq 12, 3), (36, .aload_n 0, 1), (37, .getfield 176, 3), (40, .bipush 61, 2), (42, .if_icmp .ne 10, 3), (45, .aload_n 0, 1), (46, .getfield 176, 3), (49, .goto 30, 3), (52, .aload_n 0, 1), (53, .iconst 4, 1), (54, .invokevirtual 363, 3), (57, .ifCond .eq 8, 3), (60, .bipush 38, 2), (62, .goto 17, 3), (65, .aload_n 0, 1), (66, .iconst 3, 1), (67, .invokevirtual 363, 3), (70, .ifCond .eq 8, 3), (73, .bipush 124, 2), (75, .goto 4, 3), (78, .iconst 0, 1), (79, .ireturn, 1)]
theorem dtX11_joint : dec_ok mX11_joint.2.1 tX11_joint = true := by decide +kernel
set_option maxHeartbeats 4000000 in
theorem c_X11_joint {J : Wd} : Cal SyM mX11_joint 1 [.ref 0] J (some (.int (jntF (J 0 53) (J 0 55)))) J := by
  refine Cal.of (by decide) (Nat.le_of_ble_eq_true rfl) ?_
  show Bd _ _ _ _ [(0, _)] _ _ _ _
  refine b_aload_n (pc := 0) (i := 0) (dd dtX11_joint 0 rfl) rfl rfl ?_
  refine b_geti (pc := 1) (dd dtX11_joint 1 rfl) fwX11_176 pM_0 ?_
  refine b_bipush (pc := 4) (v := 42) (dd dtX11_joint 2 rfl) (by decide) ?_
  refine b_icmp_eq (pc := 6) (tgt := 45) (dd dtX11_joint 3 rfl) (by decide) (fun h6 => ?_) (fun h6 => ?_)
  · refine b_aload_n (pc := 45) (i := 0) (dd dtX11_joint 20 rfl) rfl rfl ?_
    refine b_geti (pc := 46) (dd dtX11_joint 21 rfl) fwX11_176 pM_0 ?_
    refine b_goto (pc := 49) (tgt := 79) (dd dtX11_joint 22 rfl) (by decide) ?_
    refine b_eq (b_iret (dd dtX11_joint 36 rfl) rfl) ?_ ?_
    · unfold jntF
      first
      | (have hz : J 0 53 = 42 ∨ J 0 53 = 43 ∨ J 0 53 = 45 ∨ J 0 53 = 60 ∨ J 0 53 = 61 := Or.inl h6
         rw [if_pos hz])
      | (have hz : J 0 53 = 42 ∨ J 0 53 = 43 ∨ J 0 53 = 45 ∨ J 0 53 = 60 ∨ J 0 53 = 61 := Or.inr (Or.inl h15)
         rw [if_pos hz])
      | (have hz : J 0 53 = 42 ∨ J 0 53 = 43 ∨ J 0 53 = 45 ∨ J 0 53 = 60 ∨ J 0 53 = 61 := Or.inr (Or.inr (Or.inl h24))
         rw [if_pos hz])
      | (have hz : J 0 53 = 42 ∨ J 0 53 = 43 ∨ J 0 53 = 45 ∨ J 0 53 = 60 ∨ J 0 53 = 61 := Or.inr (Or.inr (Or.inr (Or.inl h33)))
         rw [if_pos hz])
      | (have hz : J 0 53 = 42 ∨ J 0 53 = 43 ∨ J 0 53 = 45 ∨ J 0 53 = 60 ∨ J 0 53 = 61 := Or.inr (Or.inr (Or.inr (Or.inr h42)))
         rw [if_pos hz])
      | (have hz : J 0 53 = 3 ∧ J 0 55 = 4 := h57
         rw [if_neg (jn5 h6 h15 h24 h33 h42), if_pos hz])
      | (have hz : J 0 53 = 3 ∧ J 0 55 = 3 := h70
         rw [if_neg (jn5 h6 h15 h24 h33 h42), if_neg h57, if_pos hz])
      | rw [if_neg (jn5 h6 h15 h24 h33 h42), if_neg h57, if_neg h70]
    · rfl
  · refine b_aload_n (pc := 9) (i := 0) (dd dtX11_joint 4 rfl) rfl rfl ?_
    refine b_geti (pc := 10) (dd dtX11_joint 5 rfl) fwX11_176 pM_0 ?_
    refine b_bipush (pc := 13) (v := 43) (dd dtX11_joint 6 rfl) (by decide) ?_
    refine b_icmp_eq (pc := 15) (tgt := 45) (dd dtX11_joint 7 rfl) (by decide) (fun h15 => ?_) (fun h15 => ?_)
    · refine b_aload_n (pc := 45) (i := 0) (dd dtX11_joint 20 rfl) rfl rfl ?_
      refine b_geti (pc := 46) (dd dtX11_joint 21 rfl) fwX11_176 pM_0 ?_
      refine b_goto (pc := 49) (tgt := 79) (dd dtX11_joint 22 rfl) (by decide) ?_
      refine b_eq (b_iret (dd dtX11_joint 36 rfl) rfl) ?_ ?_
      · unfold jntF
        first
        | (have hz : J 0 53 = 42 ∨ J 0 53 = 43 ∨ J 0 53 = 45 ∨ J 0 53 = 60 ∨ J 0 53 = 61 := Or.inl h6
           rw [if_pos hz])
        | (have hz : J 0 53 = 42 ∨ J 0 53 = 43 ∨ J 0 53 = 45 ∨ J 0 53 = 60 ∨ J 0 53 = 61 := Or.inr (Or.inl h15)
           rw [if_pos hz])
        | (have hz : J 0 53 = 42 ∨ J 0 53 = 43 ∨ J 0 53 = 45 ∨ J 0 53 = 60 ∨ J 0 53 = 61 := Or.inr (Or.inr (Or.inl h24))
           rw [if_pos hz])
        | (have hz : J 0 53 = 42 ∨ J 0 53 = 43 ∨ J 0 53 = 45 ∨ J 0 53 = 60 ∨ J 0 53 = 61 := Or.inr (Or.inr (Or.inr (Or.inl h33)))
           rw [if_pos hz])
        | (have hz : J 0 53 = 42 ∨ J 0 53 = 43 ∨ J 0 53 = 45 ∨ J 0 53 = 60 ∨ J 0 53 = 61 := Or.inr (Or.inr (Or.inr (Or.inr h42)))
           rw [if_pos hz])
        | (have hz : J 0 53 = 3 ∧ J 0 55 = 4 := h57
           rw [if_neg (jn5 h6 h15 h24 h33 h42), if_pos hz])
        | (have hz : J 0 53 = 3 ∧ J 0 55 = 3 := h70
           rw [if_neg (jn5 h6 h15 h24 h33 h42), if_neg h57, if_pos hz])
        | rw [if_neg (jn5 h6 h15 h24 h33 h42), if_neg h57, if_neg h70]
      · rfl
    · refine b_aload_n (pc := 18) (i := 0) (dd dtX11_joint 8 rfl) rfl rfl ?_
      refine b_geti (pc := 19) (dd dtX11_joint 9 rfl) fwX11_176 pM_0 ?_
      refine b_bipush (pc := 22) (v := 45) (dd dtX11_joint 10 rfl) (by decide) ?_
      refine b_icmp_eq (pc := 24) (tgt := 45) (dd dtX11_joint 11 rfl) (by decide) (fun h24 => ?_) (fun h24 => ?_)
      · refine b_aload_n (pc := 45) (i := 0) (dd dtX11_joint 20 rfl) rfl rfl ?_
        refine b_geti (pc := 46) (dd dtX11_joint 21 rfl) fwX11_176 pM_0 ?_
        refine b_goto (pc := 49) (tgt := 79) (dd dtX11_joint 22 rfl) (by decide) ?_
        refine b_eq (b_iret (dd dtX11_joint 36 rfl) rfl) ?_ ?_
        · unfold jntF
          first
          | (have hz : J 0 53 = 42 ∨ J 0 53 = 43 ∨ J 0 53 = 45 ∨ J 0 53 = 60 ∨ J 0 53 = 61 := Or.inl h6
             rw [if_pos hz])
          | (have hz : J 0 53 = 42 ∨ J 0 53 = 43 ∨ J 0 53 = 45 ∨ J 0 53 = 60 ∨ J 0 53 = 61 := Or.inr (Or.inl h15)
             rw [if_pos hz])
          | (have hz : J 0 53 = 42 ∨ J 0 53 = 43 ∨ J 0 53 = 45 ∨ J 0 53 = 60 ∨ J 0 53 = 61 := Or.inr (Or.inr (Or.inl h24))
             rw [if_pos hz])
          | (have hz : J 0 53 = 42 ∨ J 0 53 = 43 ∨ J 0 53 = 45 ∨ J 0 53 = 60 ∨ J 0 53 = 61 := Or.inr (Or.inr (Or.inr (Or.inl h33)))
             rw [if_pos hz])
          | (have hz : J 0 53 = 42 ∨ J 0 53 = 43 ∨ J 0 53 = 45 ∨ J 0 53 = 60 ∨ J 0 53 = 61 := Or.inr (Or.inr (Or.inr (Or.inr h42)))
             rw [if_pos hz])
          | (have hz : J 0 53 = 3 ∧ J 0 55 = 4 := h57
             rw [if_neg (jn5 h6 h15 h24 h33 h42), if_pos hz])
          | (have hz : J 0 53 = 3 ∧ J 0 55 = 3 := h70
             rw [if_neg (jn5 h6 h15 h24 h33 h42), if_neg h57, if_pos hz])
          | rw [if_neg (jn5 h6 h15 h24 h33 h42), if_neg h57, if_neg h70]
        · rfl
      · refine b_aload_n (pc := 27) (i := 0) (dd dtX11_joint 12 rfl) rfl rfl ?_
        refine b_geti (pc := 28) (dd dtX11_joint 13 rfl) fwX11_176 pM_0 ?_
        refine b_bipush (pc := 31) (v := 60) (dd dtX11_joint 14 rfl) (by decide) ?_
        refine b_icmp_eq (pc := 33) (tgt := 45) (dd dtX11_joint 15 rfl) (by decide) (fun h33 => ?_) (fun h33 => ?_)
        · refine b_aload_n (pc := 45) (i := 0) (dd dtX11_joint 20 rfl) rfl rfl ?_
          refine b_geti (pc := 46) (dd dtX11_joint 21 rfl) fwX11_176 pM_0 ?_
          refine b_goto (pc := 49) (tgt := 79) (dd dtX11_joint 22 rfl) (by decide) ?_
          refine b_eq (b_iret (dd dtX11_joint 36 rfl) rfl) ?_ ?_
          · unfold jntF
            first
            | (have hz : J 0 53 = 42 ∨ J 0 53 = 43 ∨ J 0 53 = 45 ∨ J 0 53 = 60 ∨ J 0 53 = 61 := Or.inl h6
               rw [if_pos hz])
            | (have hz : J 0 53 = 42 ∨ J 0 53 = 43 ∨ J 0 53 = 45 ∨ J 0 53 = 60 ∨ J 0 53 = 61 := Or.inr (Or.inl h15)
               rw [if_pos hz])
            | (have hz : J 0 53 = 42 ∨ J 0 53 = 43 ∨ J 0 53 = 45 ∨ J 0 53 = 60 ∨ J 0 53 = 61 := Or.inr (Or.inr (Or.inl h24))
               rw [if_pos hz])
            | (have hz : J 0 53 = 42 ∨ J 0 53 = 43 ∨ J 0 53 = 45 ∨ J 0 53 = 60 ∨ J 0 53 = 61 := Or.inr (Or.inr (Or.inr (Or.inl h33)))
               rw [if_pos hz])
            | (have hz : J 0 53 = 42 ∨ J 0 53 = 43 ∨ J 0 53 = 45 ∨ J 0 53 = 60 ∨ J 0 53 = 61 := Or.inr (Or.inr (Or.inr (Or.inr h42)))
               rw [if_pos hz])
            | (have hz : J 0 53 = 3 ∧ J 0 55 = 4 := h57
               rw [if_neg (jn5 h6 h15 h24 h33 h42), if_pos hz])
            | (have hz : J 0 53 = 3 ∧ J 0 55 = 3 := h70
               rw [if_neg (jn5 h6 h15 h24 h33 h42), if_neg h57, if_pos hz])
            | rw [if_neg (jn5 h6 h15 h24 h33 h42), if_neg h57, if_neg h70]
          · rfl
        · refine b_aload_n (pc := 36) (i := 0) (dd dtX11_joint 16 rfl) rfl rfl ?_
          refine b_geti (pc := 37) (dd dtX11_joint 17 rfl) fwX11_176 pM_0 ?_
          refine b_bipush (pc := 40) (v := 61) (dd dtX11_joint 18 rfl) (by decide) ?_
          refine b_icmp_ne (pc := 42) (tgt := 52) (dd dtX11_joint 19 rfl) (by decide) (fun h42 => ?_) (fun h42 => ?_)
          · refine b_aload_n (pc := 52) (i := 0) (dd dtX11_joint 23 rfl) rfl rfl ?_
            refine b_ic4 (pc := 53) (dd dtX11_joint 24 rfl) ?_
            refine b_invV (pc := 54) (dd dtX11_joint 25 rfl) mlX11_363 mvX11_isKey miX11_isKey (c_X11_isKey) oM_0 rfl rfl (by decide) (Nat.le_of_ble_eq_true rfl) ?_
            refine b_ifb_eq (pc := 57) (tgt := 65) (dd dtX11_joint 26 rfl) (by decide) (fun h57 => ?_) (fun h57 => ?_)
            · refine b_aload_n (pc := 65) (i := 0) (dd dtX11_joint 29 rfl) rfl rfl ?_
              refine b_ic3 (pc := 66) (dd dtX11_joint 30 rfl) ?_
              refine b_invV (pc := 67) (dd dtX11_joint 31 rfl) mlX11_363 mvX11_isKey miX11_isKey (c_X11_isKey) oM_0 rfl rfl (by decide) (Nat.le_of_ble_eq_true rfl) ?_
              refine b_ifb_eq (pc := 70) (tgt := 78) (dd dtX11_joint 32 rfl) (by decide) (fun h70 => ?_) (fun h70 => ?_)
              · refine b_ic0 (pc := 78) (dd dtX11_joint 35 rfl) ?_
                refine b_eq (b_iret (dd dtX11_joint 36 rfl) rfl) ?_ ?_
                · unfold jntF
                  first
                  | (have hz : J 0 53 = 42 ∨ J 0 53 = 43 ∨ J 0 53 = 45 ∨ J 0 53 = 60 ∨ J 0 53 = 61 := Or.inl h6
                     rw [if_pos hz])
                  | (have hz : J 0 53 = 42 ∨ J 0 53 = 43 ∨ J 0 53 = 45 ∨ J 0 53 = 60 ∨ J 0 53 = 61 := Or.inr (Or.inl h15)
                     rw [if_pos hz])
                  | (have hz : J 0 53 = 42 ∨ J 0 53 = 43 ∨ J 0 53 = 45 ∨ J 0 53 = 60 ∨ J 0 53 = 61 := Or.inr (Or.inr (Or.inl h24))
                     rw [if_pos hz])
                  | (have hz : J 0 53 = 42 ∨ J 0 53 = 43 ∨ J 0 53 = 45 ∨ J 0 53 = 60 ∨ J 0 53 = 61 := Or.inr (Or.inr (Or.inr (Or.inl h33)))
                     rw [if_pos hz])
                  | (have hz : J 0 53 = 42 ∨ J 0 53 = 43 ∨ J 0 53 = 45 ∨ J 0 53 = 60 ∨ J 0 53 = 61 := Or.inr (Or.inr (Or.inr (Or.inr h42)))
                     rw [if_pos hz])
                  | (have hz : J 0 53 = 3 ∧ J 0 55 = 4 := h57
                     rw [if_neg (jn5 h6 h15 h24 h33 h42), if_pos hz])
                  | (have hz : J 0 53 = 3 ∧ J 0 55 = 3 := h70
                     rw [if_neg (jn5 h6 h15 h24 h33 h42), if_neg h57, if_pos hz])
                  | rw [if_neg (jn5 h6 h15 h24 h33 h42), if_neg h57, if_neg h70]
                · rfl
              · refine b_bipush (pc := 73) (v := 124) (dd dtX11_joint 33 rfl) (by decide) ?_
                refine b_goto (pc := 75) (tgt := 79) (dd dtX11_joint 34 rfl) (by decide) ?_
                refine b_eq (b_iret (dd dtX11_joint 36 rfl) rfl) ?_ ?_
                · unfold jntF
                  first
                  | (have hz : J 0 53 = 42 ∨ J 0 53 = 43 ∨ J 0 53 = 45 ∨ J 0 53 = 60 ∨ J 0 53 = 61 := Or.inl h6
                     rw [if_pos hz])
                  | (have hz : J 0 53 = 42 ∨ J 0 53 = 43 ∨ J 0 53 = 45 ∨ J 0 53 = 60 ∨ J 0 53 = 61 := Or.inr (Or.inl h15)
                     rw [if_pos hz])
                  | (have hz : J 0 53 = 42 ∨ J 0 53 = 43 ∨ J 0 53 = 45 ∨ J 0 53 = 60 ∨ J 0 53 = 61 := Or.inr (Or.inr (Or.inl h24))
                     rw [if_pos hz])
                  | (have hz : J 0 53 = 42 ∨ J 0 53 = 43 ∨ J 0 53 = 45 ∨ J 0 53 = 60 ∨ J 0 53 = 61 := Or.inr (Or.inr (Or.inr (Or.inl h33)))
                     rw [if_pos hz])
                  | (have hz : J 0 53 = 42 ∨ J 0 53 = 43 ∨ J 0 53 = 45 ∨ J 0 53 = 60 ∨ J 0 53 = 61 := Or.inr (Or.inr (Or.inr (Or.inr h42)))
                     rw [if_pos hz])
                  | (have hz : J 0 53 = 3 ∧ J 0 55 = 4 := h57
                     rw [if_neg (jn5 h6 h15 h24 h33 h42), if_pos hz])
                  | (have hz : J 0 53 = 3 ∧ J 0 55 = 3 := h70
                     rw [if_neg (jn5 h6 h15 h24 h33 h42), if_neg h57, if_pos hz])
                  | rw [if_neg (jn5 h6 h15 h24 h33 h42), if_neg h57, if_neg h70]
                · rfl
            · refine b_bipush (pc := 60) (v := 38) (dd dtX11_joint 27 rfl) (by decide) ?_
              refine b_goto (pc := 62) (tgt := 79) (dd dtX11_joint 28 rfl) (by decide) ?_
              refine b_eq (b_iret (dd dtX11_joint 36 rfl) rfl) ?_ ?_
              · unfold jntF
                first
                | (have hz : J 0 53 = 42 ∨ J 0 53 = 43 ∨ J 0 53 = 45 ∨ J 0 53 = 60 ∨ J 0 53 = 61 := Or.inl h6
                   rw [if_pos hz])
                | (have hz : J 0 53 = 42 ∨ J 0 53 = 43 ∨ J 0 53 = 45 ∨ J 0 53 = 60 ∨ J 0 53 = 61 := Or.inr (Or.inl h15)
                   rw [if_pos hz])
                | (have hz : J 0 53 = 42 ∨ J 0 53 = 43 ∨ J 0 53 = 45 ∨ J 0 53 = 60 ∨ J 0 53 = 61 := Or.inr (Or.inr (Or.inl h24))
                   rw [if_pos hz])
                | (have hz : J 0 53 = 42 ∨ J 0 53 = 43 ∨ J 0 53 = 45 ∨ J 0 53 = 60 ∨ J 0 53 = 61 := Or.inr (Or.inr (Or.inr (Or.inl h33)))
                   rw [if_pos hz])
                | (have hz : J 0 53 = 42 ∨ J 0 53 = 43 ∨ J 0 53 = 45 ∨ J 0 53 = 60 ∨ J 0 53 = 61 := Or.inr (Or.inr (Or.inr (Or.inr h42)))
                   rw [if_pos hz])
                | (have hz : J 0 53 = 3 ∧ J 0 55 = 4 := h57
                   rw [if_neg (jn5 h6 h15 h24 h33 h42), if_pos hz])
                | (have hz : J 0 53 = 3 ∧ J 0 55 = 3 := h70
                   rw [if_neg (jn5 h6 h15 h24 h33 h42), if_neg h57, if_pos hz])
                | rw [if_neg (jn5 h6 h15 h24 h33 h42), if_neg h57, if_neg h70]
              · rfl
          · refine b_aload_n (pc := 45) (i := 0) (dd dtX11_joint 20 rfl) rfl rfl ?_
            refine b_geti (pc := 46) (dd dtX11_joint 21 rfl) fwX11_176 pM_0 ?_
            refine b_goto (pc := 49) (tgt := 79) (dd dtX11_joint 22 rfl) (by decide) ?_
            refine b_eq (b_iret (dd dtX11_joint 36 rfl) rfl) ?_ ?_
            · unfold jntF
              first
              | (have hz : J 0 53 = 42 ∨ J 0 53 = 43 ∨ J 0 53 = 45 ∨ J 0 53 = 60 ∨ J 0 53 = 61 := Or.inl h6
                 rw [if_pos hz])
              | (have hz : J 0 53 = 42 ∨ J 0 53 = 43 ∨ J 0 53 = 45 ∨ J 0 53 = 60 ∨ J 0 53 = 61 := Or.inr (Or.inl h15)
                 rw [if_pos hz])
              | (have hz : J 0 53 = 42 ∨ J 0 53 = 43 ∨ J 0 53 = 45 ∨ J 0 53 = 60 ∨ J 0 53 = 61 := Or.inr (Or.inr (Or.inl h24))
                 rw [if_pos hz])
              | (have hz : J 0 53 = 42 ∨ J 0 53 = 43 ∨ J 0 53 = 45 ∨ J 0 53 = 60 ∨ J 0 53 = 61 := Or.inr (Or.inr (Or.inr (Or.inl h33)))
                 rw [if_pos hz])
              | (have hz : J 0 53 = 42 ∨ J 0 53 = 43 ∨ J 0 53 = 45 ∨ J 0 53 = 60 ∨ J 0 53 = 61 := Or.inr (Or.inr (Or.inr (Or.inr h42)))
                 rw [if_pos hz])
              | (have hz : J 0 53 = 3 ∧ J 0 55 = 4 := h57
                 rw [if_neg (jn5 h6 h15 h24 h33 h42), if_pos hz])
              | (have hz : J 0 53 = 3 ∧ J 0 55 = 3 := h70
                 rw [if_neg (jn5 h6 h15 h24 h33 h42), if_neg h57, if_pos hz])
              | rw [if_neg (jn5 h6 h15 h24 h33 h42), if_neg h57, if_neg h70]
            · rfl
def cW (w : Nat) : Nat := ([2794884, 442053, 16101, 498, 1476, 14836, 4707412, 12748404, 441972, 605291, 542622085, 546224, 202124, 14137992] : List Nat).getD w 0
def dig (x : Int32) : Nat := x.toInt.toNat - 96
def encN (f : Nat → Int32) (i : Nat) : Nat → Nat
  | 0 => 0
  | q + 1 => 32 * encN f i q + dig (f (i + q))
def enL (f : Nat → Int32) (i : Nat) : Nat → Int64
  | 0 => 0
  | q + 1 => if q < 6 then 32 * enL f i q + (f (i + q)).toInt64 - 96 else -1
theorem enc_word : ∀ w, w < 14 → encN (fun q => chS (w + 1) q) 0 (txL.getD (w + 1) 0) = cW w := by decide +kernel
theorem let_word : ∀ w, w < 14 → ∀ q, q < txL.getD (w + 1) 0 → inR (chS (w + 1) q) 97 122 := by decide +kernel
theorem len_word : ∀ w, w < 14 → txL.getD (w + 1) 0 ≤ 6 := by decide +kernel
theorem wF1 : ∀ w, w < 14 → wordF (lN (cW w)) = nI (if w < 6 then w else w + 4) := by decide +kernel
theorem cW_lt : ∀ w, w < 14 → cW w < 2 ^ 31 := by decide +kernel
theorem wF2 {m : Nat} (hm : m < 2 ^ 31) (h : ∀ w, w < 14 → m ≠ cW w) : wordF (lN m) = -1 := by
  have key : ∀ w, w < 14 → ¬ lN m = lN (cW w) := fun w hw e => h w hw ((lN_eq hm (cW_lt w hw)).mp e)
  unfold wordF
  rw [if_neg (show ¬ lN m = 2794884 from key 0 (by decide)), if_neg (show ¬ lN m = 442053 from key 1 (by decide)), if_neg (show ¬ lN m = 16101 from key 2 (by decide)), if_neg (show ¬ lN m = 498 from key 3 (by decide)), if_neg (show ¬ lN m = 1476 from key 4 (by decide)), if_neg (show ¬ lN m = 14836 from key 5 (by decide)), if_neg (show ¬ lN m = 4707412 from key 6 (by decide)), if_neg (show ¬ lN m = 12748404 from key 7 (by decide)), if_neg (show ¬ lN m = 441972 from key 8 (by decide)), if_neg (show ¬ lN m = 605291 from key 9 (by decide)), if_neg (show ¬ lN m = 542622085 from key 10 (by decide)), if_neg (show ¬ lN m = 546224 from key 11 (by decide)), if_neg (show ¬ lN m = 202124 from key 12 (by decide)), if_neg (show ¬ lN m = 14137992 from key 13 (by decide))]
theorem dig_r {x : Int32} (h : inR x 97 122) : 97 ≤ x.toInt ∧ x.toInt ≤ 122 := by
  obtain ⟨h1, h2⟩ := h
  rw [Int32.lt_iff_toInt_lt] at h1 h2
  have a1 : (97 : Int32).toInt = 97 := rfl
  have a2 : (122 : Int32).toInt = 122 := rfl
  omega
theorem encN_lt {f : Nat → Int32} {i : Nat} : ∀ q, (∀ p, p < q → inR (f (i + p)) 97 122) → encN f i q < 32 ^ q := by
  intro q
  induction q with
  | zero => intro _; exact Nat.one_pos
  | succ q ih =>
    intro h
    have h1 := ih (fun p hp => h p (by omega))
    have h2 := dig_r (h q (by omega))
    show 32 * encN f i q + dig (f (i + q)) < 32 ^ (q + 1)
    unfold dig
    rw [Nat.pow_succ]
    omega
theorem encN_inj {f g : Nat → Int32} {i j : Nat} : ∀ l k, (∀ p, p < l → inR (f (i + p)) 97 122) → (∀ p, p < k → inR (g (j + p)) 97 122) → encN f i l = encN g j k → l = k ∧ ∀ p, p < l → f (i + p) = g (j + p) := by
  intro l
  induction l with
  | zero =>
    intro k _ h2 e
    cases k with
    | zero => exact ⟨rfl, fun p hp => absurd hp (Nat.not_lt_zero _)⟩
    | succ k =>
      have h3 := dig_r (h2 k (by omega))
      have e2 : 0 = 32 * encN g j k + dig (g (j + k)) := e
      unfold dig at e2
      omega
  | succ l ih =>
    intro k h1 h2 e
    have h4 := dig_r (h1 l (by omega))
    cases k with
    | zero =>
      have e2 : 32 * encN f i l + dig (f (i + l)) = 0 := e
      unfold dig at e2
      omega
    | succ k =>
      have h3 := dig_r (h2 k (by omega))
      have e2 : 32 * encN f i l + dig (f (i + l)) = 32 * encN g j k + dig (g (j + k)) := e
      unfold dig at e2
      obtain ⟨r1, r2⟩ := ih k (fun p hp => h1 p (by omega)) (fun p hp => h2 p (by omega)) (by omega)
      subst r1
      refine ⟨rfl, fun p hp => ?_⟩
      by_cases ep : p = l
      · subst ep; exact Int32.toInt_inj.mp (by omega)
      · exact r2 p (by omega)
theorem i64_nI {x : Int32} (h : inR x 97 122) : x.toInt64 = lN (dig x + 96) := by
  have h2 := dig_r h
  obtain ⟨m, hm, rfl⟩ := nI_of (x := x) (fun q => by rw [Int32.lt_iff_toInt_lt] at q; have : (0 : Int32).toInt = 0 := rfl; omega)
  rw [nI_toInt hm] at h2
  rw [nI_l hm]
  unfold dig
  rw [nI_toInt hm]
  congr 1
  omega
theorem enL_eq {f : Nat → Int32} {i : Nat} : ∀ q, q ≤ 6 → (∀ p, p < q → inR (f (i + p)) 97 122) → enL f i q = lN (encN f i q) := by
  intro q
  induction q with
  | zero => intro _ _; rfl
  | succ q ih =>
    intro h1 h2
    show (if q < 6 then 32 * enL f i q + (f (i + q)).toInt64 - 96 else -1) = lN (32 * encN f i q + dig (f (i + q)))
    rw [if_pos (by omega), ih (by omega) (fun p hp => h2 p (by omega)), i64_nI (h2 q (by omega)), show (32 : Int64) = lN 32 from rfl, lN_mul, lN_add, show (96 : Int64) = lN 96 from rfl, lN_sub (by omega)]
    congr 1
/-- the number of a run of letters tells the word -/
theorem word_y {b : Nat → Int32} {i l w : Nat} (hw : w < 14) (hs : spP b i l (w + 1)) : wordF (enL b i l) = nI (if w < 6 then w else w + 4) ∧ l ≤ 6 := by
  obtain ⟨h1, h2⟩ := hs
  have hl := len_word w hw
  have hq : ∀ p, p < l → inR (b (i + p)) 97 122 := fun p hp => by rw [← h2 p hp]; exact let_word w hw p (by omega)
  refine ⟨?_, by omega⟩
  rw [enL_eq l (by omega) hq, ← wF1 w hw, ← enc_word w hw, h1]
  congr 2
  have : ∀ q, q ≤ l → encN b i q = encN (fun q => chS (w + 1) q) 0 q := by
    intro q
    induction q with
    | zero => intro _; rfl
    | succ q ih =>
      intro hq2
      show 32 * encN b i q + dig (b (i + q)) = 32 * encN (fun q => chS (w + 1) q) 0 q + dig (chS (w + 1) (0 + q))
      rw [ih (by omega), Nat.zero_add, h2 q (by omega)]
  exact this l (Nat.le_refl _)
theorem word_n {b : Nat → Int32} {i l : Nat} (hl : l ≤ 6) (hq : ∀ p, p < l → inR (b (i + p)) 97 122) (hs : ∀ w, w < 14 → ¬ spP b i l (w + 1)) : wordF (enL b i l) = -1 := by
  rw [enL_eq l hl hq]
  have hlt := encN_lt l hq
  have h32 : 32 ^ l ≤ 32 ^ 6 := Nat.pow_le_pow_right (by decide) hl
  refine wF2 (Nat.lt_of_lt_of_le hlt (Nat.le_trans h32 (by decide))) (fun w hw e => hs w hw ?_)
  rw [← enc_word w hw] at e
  obtain ⟨r1, r2⟩ := encN_inj l _ hq (fun p hp => by rw [Nat.zero_add]; exact let_word w hw p hp) e
  exact ⟨r1.symm, fun p hp => by have := r2 p hp; rw [Nat.zero_add] at this; exact this.symm⟩
theorem nv_in {b : Nat → Int32} {i : Nat} : ∀ l, l ≤ 4 → (∀ p, p < l → inR (b (i + p)) 48 57) → ∃ k, nv b i l = nI k ∧ k < 10 ^ l := by
  intro l
  induction l with
  | zero => intro _ _; exact ⟨0, rfl, by decide⟩
  | succ l ih =>
    intro hl h
    obtain ⟨k, e, hk⟩ := ih (by omega) (fun p hp => h p (by omega))
    obtain ⟨h1, h2⟩ := h l (by omega)
    rw [Int32.lt_iff_toInt_lt] at h1 h2
    have a1 : (48 : Int32).toInt = 48 := rfl
    have a2 : (57 : Int32).toInt = 57 := rfl
    obtain ⟨m, hm, e2⟩ := nI_of (x := b (i + l)) (fun q => by rw [Int32.lt_iff_toInt_lt] at q; have : (0 : Int32).toInt = 0 := rfl; omega)
    rw [e2, nI_toInt hm] at h1 h2
    have h10 : 10 ^ l ≤ 10 ^ 3 := Nat.pow_le_pow_right (by decide) (by omega)
    refine ⟨k * 10 + m - 48, ?_, by rw [Nat.pow_succ]; omega⟩
    show nv b i l * 10 + b (i + l) - 48 = _
    rw [e, e2, show (10 : Int32) = nI 10 from rfl, pk_mul, nI_add]
    obtain ⟨v, hv⟩ : ∃ v, k * 10 + m = v + 48 := ⟨k * 10 + m - 48, by omega⟩
    rw [hv, Nat.add_sub_cancel, ← nI_add, show nI 48 = (48 : Int32) from rfl]
    exact Int32.add_sub_cancel _ _
