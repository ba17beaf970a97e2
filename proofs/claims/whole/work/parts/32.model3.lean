set_option maxHeartbeats 4000000 in
theorem l1_X11_warned {I : Wd} {Wn : Nat} {m what : Int32} (hW : I 0 65 = nI Wn) (hW2 : Wn ≤ 30) (hWc : ∀ w, w < Wn → vp_in (I 41 w) 64) (hw1 : ¬ what = 1) : ∀ (n h : Nat) (x4 : Int32) (x3 : Int32), h ≤ Wn → Wn < h + n → x4 = nI h → x3 = (if what = 0 then sTw (I 4) (I 41) (I 42) m h else sOw (I 4) (I 41) (I 42) (I 0 0) m h) → Bd SyM mX11_warned 2 29 [(4, .int x4), (3, .int x3), (0, .ref 0), (1, .int m), (2, .int what)] [] I (some (.int (if what = 0 then sTw (I 4) (I 41) (I 42) m Wn else sOw (I 4) (I 41) (I 42) (I 0 0) m Wn))) I := by
  intro n
  induction n with
  | zero => intro h x4 x3 h1 h2; omega
  | succ n ih =>
    intro h x4 x3 h1 h2 e4 e3
    subst e4; subst e3
    refine b_iload (pc := 29) (i := 4) (dd dtX11_warned 18 rfl) rfl ?_
    refine b_aload_n (pc := 31) (i := 0) (dd dtX11_warned 19 rfl) rfl rfl ?_
    refine b_geti (pc := 32) (dd dtX11_warned 20 rfl) fwX11_212 pM_0 ?_
    refine b_icmpL_ge (pc := 35) (tgt := 100) (dd dtX11_warned 21 rfl) (by decide) (fun h35 => ?_) (fun h35 => ?_)
    · rw [hW] at h35
      have he : h = Wn := Nat.le_antisymm h1 (ge_n h35 (by omega))
      subst he
      refine b_ic0 (pc := 100) (dd dtX11_warned 55 rfl) ?_
      refine b_istore (pc := 101) (i := 4) (lv' := [(4, _), (3, _), (0, _), (1, _), (2, _)]) (dd dtX11_warned 56 rfl) (Nat.le_of_ble_eq_true rfl) rfl ?_
      refine b_iload (pc := 103) (i := 4) (dd dtX11_warned 57 rfl) rfl ?_
      refine b_bipush (pc := 105) (v := 64) (dd dtX11_warned 58 rfl) (by decide) ?_
      refine b_icmpL_ge (pc := 107) (tgt := 203) (dd dtX11_warned 59 rfl) (by decide) (fun h107 => ?_) (fun h107 => ?_)
      · exact absurd (by decide) h107
      · refine b_iload_n (pc := 110) (i := 2) (dd dtX11_warned 60 rfl) rfl rfl ?_
        refine b_ic1 (pc := 111) (dd dtX11_warned 61 rfl) ?_
        refine b_icmp_ne (pc := 112) (tgt := 203) (dd dtX11_warned 62 rfl) (by decide) (fun h112 => ?_) (fun h112 => ?_)
        · refine b_iload_n (pc := 203) (i := 3) (dd dtX11_warned 107 rfl) rfl rfl ?_
          exact b_eq (b_iret (dd dtX11_warned 108 rfl) rfl) rfl rfl
        · exact absurd h112 hw1
    · rw [hW] at h35
      have hlt : h < Wn := lt_n h35 (by omega) (by omega)
      refine b_iload_n (pc := 38) (i := 2) (dd dtX11_warned 22 rfl) rfl rfl ?_
      refine b_ic1 (pc := 39) (dd dtX11_warned 23 rfl) ?_
      refine b_icmp_eq (pc := 40) (tgt := 100) (dd dtX11_warned 24 rfl) (by decide) (fun h40 => ?_) (fun h40 => ?_)
      · exact absurd h40 hw1
      · refine b_iload_n (pc := 43) (i := 3) (dd dtX11_warned 25 rfl) rfl rfl ?_
        refine b_iload_n (pc := 44) (i := 2) (dd dtX11_warned 26 rfl) rfl rfl ?_
        refine b_if_ne (pc := 45) (tgt := 61) (dd dtX11_warned 27 rfl) (by decide) (fun h45 => ?_) (fun h45 => ?_)
        · refine b_aload_n (pc := 61) (i := 0) (dd dtX11_warned 34 rfl) rfl rfl ?_
          refine b_iload (pc := 62) (i := 4) (dd dtX11_warned 35 rfl) rfl ?_
          refine b_iload_n (pc := 64) (i := 1) (dd dtX11_warned 36 rfl) rfl rfl ?_
          refine b_invV (pc := 65) (dd dtX11_warned 37 rfl) mlX11_408 mvX11_isTrue miX11_isTrue (c_X11_isTrue (vpn rfl (show h < 30 by omega) (by decide)) (by rw [nI_clamp (show h < 2 ^ 31 by omega)]; exact hWc h hlt)) oM_0 rfl rfl (by decide) (Nat.le_of_ble_eq_true rfl) ?_
          refine b_ifb_ne (pc := 68) (tgt := 91) (dd dtX11_warned 38 rfl) (by decide) (fun h68 => ?_) (fun h68 => ?_)
          · refine b_ic0 (pc := 91) (dd dtX11_warned 50 rfl) ?_
            refine b_iadd (pc := 92) (dd dtX11_warned 51 rfl) ?_
            refine b_istore_n (pc := 93) (i := 3) (lv' := [(3, _), (4, _), (0, _), (1, _), (2, _)]) (dd dtX11_warned 52 rfl) rfl (Nat.le_of_ble_eq_true rfl) rfl ?_
            refine b_iinc1 (pc := 94) (i := 4) (lv' := [(4, _), (3, _), (0, _), (1, _), (2, _)]) (dd dtX11_warned 53 rfl) rfl (Nat.le_of_ble_eq_true rfl) rfl ?_
            refine b_goto (pc := 97) (tgt := 29) (dd dtX11_warned 54 rfl) (by decide) ?_
            rw [nI_1]
            refine ih (h + 1) _ _ hlt (by omega) rfl ?_
            · try simp only [nI_clamp (show h < 2 ^ 31 by omega)] at h55
              try simp only [nI_clamp (show h < 2 ^ 31 by omega)] at h68
              try simp only [nI_clamp (show h < 2 ^ 31 by omega)] at h84
              simp [sTw, sOw, -Int32.not_lt, -Int32.not_le, *]
          · refine b_aload_n (pc := 71) (i := 0) (dd dtX11_warned 39 rfl) rfl rfl ?_
            refine b_geti (pc := 72) (dd dtX11_warned 40 rfl) fwX11_13 pM_0 ?_
            refine b_aload_n (pc := 75) (i := 0) (dd dtX11_warned 41 rfl) rfl rfl ?_
            refine b_geta (pc := 76) (dd dtX11_warned 42 rfl) fwX11_218 pM_0 rM_0_67 ?_
            refine b_iload (pc := 79) (i := 4) (dd dtX11_warned 43 rfl) rfl ?_
            refine b_iald (pc := 81) (dd dtX11_warned 44 rfl) pM_42 (vpn rfl (show h < 30 by omega) (by decide)) ?_
            refine b_isub (pc := 82) (dd dtX11_warned 45 rfl) ?_
            refine b_iload_n (pc := 83) (i := 1) (dd dtX11_warned 46 rfl) rfl rfl ?_
            refine b_icmpL_le (pc := 84) (tgt := 91) (dd dtX11_warned 47 rfl) (by decide) (fun h84 => ?_) (fun h84 => ?_)
            · refine b_ic0 (pc := 91) (dd dtX11_warned 50 rfl) ?_
              refine b_iadd (pc := 92) (dd dtX11_warned 51 rfl) ?_
              refine b_istore_n (pc := 93) (i := 3) (lv' := [(3, _), (4, _), (0, _), (1, _), (2, _)]) (dd dtX11_warned 52 rfl) rfl (Nat.le_of_ble_eq_true rfl) rfl ?_
              refine b_iinc1 (pc := 94) (i := 4) (lv' := [(4, _), (3, _), (0, _), (1, _), (2, _)]) (dd dtX11_warned 53 rfl) rfl (Nat.le_of_ble_eq_true rfl) rfl ?_
              refine b_goto (pc := 97) (tgt := 29) (dd dtX11_warned 54 rfl) (by decide) ?_
              rw [nI_1]
              refine ih (h + 1) _ _ hlt (by omega) rfl ?_
              · try simp only [nI_clamp (show h < 2 ^ 31 by omega)] at h55
                try simp only [nI_clamp (show h < 2 ^ 31 by omega)] at h68
                try simp only [nI_clamp (show h < 2 ^ 31 by omega)] at h84
                simp [sTw, sOw, -Int32.not_lt, -Int32.not_le, *]
            · refine b_ic1 (pc := 87) (dd dtX11_warned 48 rfl) ?_
              refine b_goto (pc := 88) (tgt := 92) (dd dtX11_warned 49 rfl) (by decide) ?_
              refine b_iadd (pc := 92) (dd dtX11_warned 51 rfl) ?_
              refine b_istore_n (pc := 93) (i := 3) (lv' := [(3, _), (4, _), (0, _), (1, _), (2, _)]) (dd dtX11_warned 52 rfl) rfl (Nat.le_of_ble_eq_true rfl) rfl ?_
              refine b_iinc1 (pc := 94) (i := 4) (lv' := [(4, _), (3, _), (0, _), (1, _), (2, _)]) (dd dtX11_warned 53 rfl) rfl (Nat.le_of_ble_eq_true rfl) rfl ?_
              refine b_goto (pc := 97) (tgt := 29) (dd dtX11_warned 54 rfl) (by decide) ?_
              rw [nI_1]
              refine ih (h + 1) _ _ hlt (by omega) rfl ?_
              · try simp only [nI_clamp (show h < 2 ^ 31 by omega)] at h55
                try simp only [nI_clamp (show h < 2 ^ 31 by omega)] at h68
                try simp only [nI_clamp (show h < 2 ^ 31 by omega)] at h84
                simp [sTw, sOw, -Int32.not_lt, -Int32.not_le, *]
        · refine b_aload_n (pc := 48) (i := 0) (dd dtX11_warned 28 rfl) rfl rfl ?_
          refine b_iload (pc := 49) (i := 4) (dd dtX11_warned 29 rfl) rfl ?_
          refine b_iload_n (pc := 51) (i := 1) (dd dtX11_warned 30 rfl) rfl rfl ?_
          refine b_invV (pc := 52) (dd dtX11_warned 31 rfl) mlX11_408 mvX11_isTrue miX11_isTrue (c_X11_isTrue (vpn rfl (show h < 30 by omega) (by decide)) (by rw [nI_clamp (show h < 2 ^ 31 by omega)]; exact hWc h hlt)) oM_0 rfl rfl (by decide) (Nat.le_of_ble_eq_true rfl) ?_
          refine b_ifb_eq (pc := 55) (tgt := 91) (dd dtX11_warned 32 rfl) (by decide) (fun h55 => ?_) (fun h55 => ?_)
          · refine b_ic0 (pc := 91) (dd dtX11_warned 50 rfl) ?_
            refine b_iadd (pc := 92) (dd dtX11_warned 51 rfl) ?_
            refine b_istore_n (pc := 93) (i := 3) (lv' := [(3, _), (4, _), (0, _), (1, _), (2, _)]) (dd dtX11_warned 52 rfl) rfl (Nat.le_of_ble_eq_true rfl) rfl ?_
            refine b_iinc1 (pc := 94) (i := 4) (lv' := [(4, _), (3, _), (0, _), (1, _), (2, _)]) (dd dtX11_warned 53 rfl) rfl (Nat.le_of_ble_eq_true rfl) rfl ?_
            refine b_goto (pc := 97) (tgt := 29) (dd dtX11_warned 54 rfl) (by decide) ?_
            rw [nI_1]
            refine ih (h + 1) _ _ hlt (by omega) rfl ?_
            · try simp only [nI_clamp (show h < 2 ^ 31 by omega)] at h55
              try simp only [nI_clamp (show h < 2 ^ 31 by omega)] at h68
              try simp only [nI_clamp (show h < 2 ^ 31 by omega)] at h84
              simp [sTw, sOw, -Int32.not_lt, -Int32.not_le, *]
          · refine b_goto (pc := 58) (tgt := 87) (dd dtX11_warned 33 rfl) (by decide) ?_
            refine b_ic1 (pc := 87) (dd dtX11_warned 48 rfl) ?_
            refine b_goto (pc := 88) (tgt := 92) (dd dtX11_warned 49 rfl) (by decide) ?_
            refine b_iadd (pc := 92) (dd dtX11_warned 51 rfl) ?_
            refine b_istore_n (pc := 93) (i := 3) (lv' := [(3, _), (4, _), (0, _), (1, _), (2, _)]) (dd dtX11_warned 52 rfl) rfl (Nat.le_of_ble_eq_true rfl) rfl ?_
            refine b_iinc1 (pc := 94) (i := 4) (lv' := [(4, _), (3, _), (0, _), (1, _), (2, _)]) (dd dtX11_warned 53 rfl) rfl (Nat.le_of_ble_eq_true rfl) rfl ?_
            refine b_goto (pc := 97) (tgt := 29) (dd dtX11_warned 54 rfl) (by decide) ?_
            rw [nI_1]
            refine ih (h + 1) _ _ hlt (by omega) rfl ?_
            · try simp only [nI_clamp (show h < 2 ^ 31 by omega)] at h55
              try simp only [nI_clamp (show h < 2 ^ 31 by omega)] at h68
              try simp only [nI_clamp (show h < 2 ^ 31 by omega)] at h84
              simp [sTw, sOw, -Int32.not_lt, -Int32.not_le, *]
set_option maxHeartbeats 4000000 in
theorem l3_X11_warned {I : Wd} {Wn : Nat} {m what : Int32} (hW : I 0 65 = nI Wn) (hW2 : Wn ≤ 30) (hWc : ∀ w, w < Wn → vp_in (I 41 w) 64) {c : Nat} (hc : c < 64) {x3 : Int32} {r : Option Value} (kk : Bd SyM mX11_warned 2 184 [(5, .int (bi (msP (I 4) (I 41) (I 42) m c Wn))), (4, .int (nI c)), (3, .int x3), (0, .ref 0), (1, .int m), (2, .int what)] [] I r I) : ∀ (n h : Nat) (x6 x5 : Int32), h ≤ Wn → Wn < h + n → x6 = nI h → x5 = bi (msP (I 4) (I 41) (I 42) m c h) → Bd SyM mX11_warned 2 135 [(6, .int x6), (5, .int x5), (4, .int (nI c)), (3, .int x3), (0, .ref 0), (1, .int m), (2, .int what)] [] I r I := by
  intro n
  induction n with
  | zero => intro h x6 x5 h1 h2; omega
  | succ n ih =>
    intro h x6 x5 h1 h2 e6 e5
    subst e6; subst e5
    refine b_iload (pc := 135) (i := 6) (dd dtX11_warned 74 rfl) rfl ?_
    refine b_aload_n (pc := 137) (i := 0) (dd dtX11_warned 75 rfl) rfl rfl ?_
    refine b_geti (pc := 138) (dd dtX11_warned 76 rfl) fwX11_212 pM_0 ?_
    refine b_icmpL_ge (pc := 141) (tgt := 184) (dd dtX11_warned 77 rfl) (by decide) (fun h141 => ?_) (fun h141 => ?_)
    · refine b_pick [1, 2, 3, 4, 5, 6] (lv' := [(5, _), (4, _), (3, _), (0, _), (1, _), (2, _)]) rfl ?_
      rw [hW] at h141
      have he : h = Wn := by have := ge_n h141 (by omega); omega
      subst he
      exact kk
    · rw [hW] at h141
      have hlt : h < Wn := lt_n h141 (by omega) (by omega)
      refine b_iload (pc := 144) (i := 5) (dd dtX11_warned 78 rfl) rfl ?_
      refine b_ifb_eq (pc := 146) (tgt := 175) (dd dtX11_warned 79 rfl) (by decide) (fun h146 => ?_) (fun h146 => ?_)
      · refine b_ic0 (pc := 175) (dd dtX11_warned 93 rfl) ?_
        refine b_istore (pc := 176) (i := 5) (lv' := [(5, _), (6, _), (4, _), (3, _), (0, _), (1, _), (2, _)]) (dd dtX11_warned 94 rfl) (Nat.le_of_ble_eq_true rfl) rfl ?_
        refine b_iinc1 (pc := 178) (i := 6) (lv' := [(6, _), (5, _), (4, _), (3, _), (0, _), (1, _), (2, _)]) (dd dtX11_warned 95 rfl) rfl (Nat.le_of_ble_eq_true rfl) rfl ?_
        refine b_goto (pc := 181) (tgt := 135) (dd dtX11_warned 96 rfl) (by decide) ?_
        rw [nI_1]
        refine ih (h + 1) _ _ hlt (by omega) rfl ?_
        try simp only [nI_clamp (show h < 2 ^ 31 by omega)] at h158
        try simp only [nI_clamp (show h < 2 ^ 31 by omega)] at h168
        first
          | exact (bi_f (fun q => h146 ⟨q.1, fun w hw => q.2 w (by omega)⟩)).symm
          | exact (bi_f (fun q => q.2 h (by omega) ⟨h158, h168⟩)).symm
          | exact (bi_t ⟨h146.1, fun w hw => by rcases Nat.lt_succ_iff_lt_or_eq.mp hw with q | q; exact h146.2 w q; subst q; first | exact fun z => h158 z.1 | exact fun z => h168 z.2⟩).symm
      · refine b_aload_n (pc := 149) (i := 0) (dd dtX11_warned 80 rfl) rfl rfl ?_
        refine b_geta (pc := 150) (dd dtX11_warned 81 rfl) fwX11_215 pM_0 rM_0_66 ?_
        refine b_iload (pc := 153) (i := 6) (dd dtX11_warned 82 rfl) rfl ?_
        refine b_iald (pc := 155) (dd dtX11_warned 83 rfl) pM_41 (vpn rfl (show h < 30 by omega) (by decide)) ?_
        refine b_iload (pc := 156) (i := 4) (dd dtX11_warned 84 rfl) rfl ?_
        refine b_icmp_ne (pc := 158) (tgt := 171) (dd dtX11_warned 85 rfl) (by decide) (fun h158 => ?_) (fun h158 => ?_)
        · refine b_ic1 (pc := 171) (dd dtX11_warned 91 rfl) ?_
          refine b_goto (pc := 172) (tgt := 176) (dd dtX11_warned 92 rfl) (by decide) ?_
          refine b_istore (pc := 176) (i := 5) (lv' := [(5, _), (6, _), (4, _), (3, _), (0, _), (1, _), (2, _)]) (dd dtX11_warned 94 rfl) (Nat.le_of_ble_eq_true rfl) rfl ?_
          refine b_iinc1 (pc := 178) (i := 6) (lv' := [(6, _), (5, _), (4, _), (3, _), (0, _), (1, _), (2, _)]) (dd dtX11_warned 95 rfl) rfl (Nat.le_of_ble_eq_true rfl) rfl ?_
          refine b_goto (pc := 181) (tgt := 135) (dd dtX11_warned 96 rfl) (by decide) ?_
          rw [nI_1]
          refine ih (h + 1) _ _ hlt (by omega) rfl ?_
          try simp only [nI_clamp (show h < 2 ^ 31 by omega)] at h158
          try simp only [nI_clamp (show h < 2 ^ 31 by omega)] at h168
          first
            | exact (bi_f (fun q => h146 ⟨q.1, fun w hw => q.2 w (by omega)⟩)).symm
            | exact (bi_f (fun q => q.2 h (by omega) ⟨h158, h168⟩)).symm
            | exact (bi_t ⟨h146.1, fun w hw => by rcases Nat.lt_succ_iff_lt_or_eq.mp hw with q | q; exact h146.2 w q; subst q; first | exact fun z => h158 z.1 | exact fun z => h168 z.2⟩).symm
        · refine b_aload_n (pc := 161) (i := 0) (dd dtX11_warned 86 rfl) rfl rfl ?_
          refine b_iload (pc := 162) (i := 6) (dd dtX11_warned 87 rfl) rfl ?_
          refine b_iload_n (pc := 164) (i := 1) (dd dtX11_warned 88 rfl) rfl rfl ?_
          refine b_invV (pc := 165) (dd dtX11_warned 89 rfl) mlX11_408 mvX11_isTrue miX11_isTrue (c_X11_isTrue (vpn rfl (show h < 30 by omega) (by decide)) (by rw [nI_clamp (show h < 2 ^ 31 by omega)]; exact hWc h hlt)) oM_0 rfl rfl (by decide) (Nat.le_of_ble_eq_true rfl) ?_
          refine b_ifb_ne (pc := 168) (tgt := 175) (dd dtX11_warned 90 rfl) (by decide) (fun h168 => ?_) (fun h168 => ?_)
          · refine b_ic0 (pc := 175) (dd dtX11_warned 93 rfl) ?_
            refine b_istore (pc := 176) (i := 5) (lv' := [(5, _), (6, _), (4, _), (3, _), (0, _), (1, _), (2, _)]) (dd dtX11_warned 94 rfl) (Nat.le_of_ble_eq_true rfl) rfl ?_
            refine b_iinc1 (pc := 178) (i := 6) (lv' := [(6, _), (5, _), (4, _), (3, _), (0, _), (1, _), (2, _)]) (dd dtX11_warned 95 rfl) rfl (Nat.le_of_ble_eq_true rfl) rfl ?_
            refine b_goto (pc := 181) (tgt := 135) (dd dtX11_warned 96 rfl) (by decide) ?_
            rw [nI_1]
            refine ih (h + 1) _ _ hlt (by omega) rfl ?_
            try simp only [nI_clamp (show h < 2 ^ 31 by omega)] at h158
            try simp only [nI_clamp (show h < 2 ^ 31 by omega)] at h168
            first
              | exact (bi_f (fun q => h146 ⟨q.1, fun w hw => q.2 w (by omega)⟩)).symm
              | exact (bi_f (fun q => q.2 h (by omega) ⟨h158, h168⟩)).symm
              | exact (bi_t ⟨h146.1, fun w hw => by rcases Nat.lt_succ_iff_lt_or_eq.mp hw with q | q; exact h146.2 w q; subst q; first | exact fun z => h158 z.1 | exact fun z => h168 z.2⟩).symm
          · refine b_ic1 (pc := 171) (dd dtX11_warned 91 rfl) ?_
            refine b_goto (pc := 172) (tgt := 176) (dd dtX11_warned 92 rfl) (by decide) ?_
            refine b_istore (pc := 176) (i := 5) (lv' := [(5, _), (6, _), (4, _), (3, _), (0, _), (1, _), (2, _)]) (dd dtX11_warned 94 rfl) (Nat.le_of_ble_eq_true rfl) rfl ?_
            refine b_iinc1 (pc := 178) (i := 6) (lv' := [(6, _), (5, _), (4, _), (3, _), (0, _), (1, _), (2, _)]) (dd dtX11_warned 95 rfl) rfl (Nat.le_of_ble_eq_true rfl) rfl ?_
            refine b_goto (pc := 181) (tgt := 135) (dd dtX11_warned 96 rfl) (by decide) ?_
            rw [nI_1]
            refine ih (h + 1) _ _ hlt (by omega) rfl ?_
            try simp only [nI_clamp (show h < 2 ^ 31 by omega)] at h158
            try simp only [nI_clamp (show h < 2 ^ 31 by omega)] at h168
            first
              | exact (bi_f (fun q => h146 ⟨q.1, fun w hw => q.2 w (by omega)⟩)).symm
              | exact (bi_f (fun q => q.2 h (by omega) ⟨h158, h168⟩)).symm
              | exact (bi_t ⟨h146.1, fun w hw => by rcases Nat.lt_succ_iff_lt_or_eq.mp hw with q | q; exact h146.2 w q; subst q; first | exact fun z => h158 z.1 | exact fun z => h168 z.2⟩).symm
set_option maxHeartbeats 4000000 in
theorem l2_X11_warned {I : Wd} {Wn : Nat} {m what : Int32} (hW : I 0 65 = nI Wn) (hW2 : Wn ≤ 30) (hWc : ∀ w, w < Wn → vp_in (I 41 w) 64) (hw1 : what = 1) : ∀ (n h : Nat) (x4 : Int32) (x3 : Int32), h ≤ 64 → 64 < h + n → x4 = nI h → x3 = mMs (I 4) (I 41) (I 42) m Wn h → Bd SyM mX11_warned 2 103 [(4, .int x4), (3, .int x3), (0, .ref 0), (1, .int m), (2, .int what)] [] I (some (.int (mMs (I 4) (I 41) (I 42) m Wn 64))) I := by
  intro n
  induction n with
  | zero => intro h x4 x3 h1 h2; omega
  | succ n ih =>
    intro h x4 x3 h1 h2 e4 e3
    subst e4; subst e3
    refine b_iload (pc := 103) (i := 4) (dd dtX11_warned 57 rfl) rfl ?_
    refine b_bipush (pc := 105) (v := 64) (dd dtX11_warned 58 rfl) (by decide) ?_
    refine b_icmpL_ge (pc := 107) (tgt := 203) (dd dtX11_warned 59 rfl) (by decide) (fun h107 => ?_) (fun h107 => ?_)
    · rw [show (64 : Int32) = nI 64 from rfl] at h107
      have he : h = 64 := Nat.le_antisymm h1 (ge_n h107 (by omega))
      subst he
      refine b_iload_n (pc := 203) (i := 3) (dd dtX11_warned 107 rfl) rfl rfl ?_
      exact b_eq (b_iret (dd dtX11_warned 108 rfl) rfl) rfl rfl
    · rw [show (64 : Int32) = nI 64 from rfl] at h107
      have hlt : h < 64 := lt_n h107 (by omega) (by omega)
      refine b_iload_n (pc := 110) (i := 2) (dd dtX11_warned 60 rfl) rfl rfl ?_
      refine b_ic1 (pc := 111) (dd dtX11_warned 61 rfl) ?_
      refine b_icmp_ne (pc := 112) (tgt := 203) (dd dtX11_warned 62 rfl) (by decide) (fun h112 => ?_) (fun h112 => ?_)
      · exact absurd hw1 h112
      · refine b_aload_n (pc := 115) (i := 0) (dd dtX11_warned 63 rfl) rfl rfl ?_
        refine b_geta (pc := 116) (dd dtX11_warned 64 rfl) fwX11_39 pM_0 rM_0_8 ?_
        refine b_iload (pc := 119) (i := 4) (dd dtX11_warned 65 rfl) rfl ?_
        refine b_iald (pc := 121) (dd dtX11_warned 66 rfl) pM_4 (vpn rfl (show h < 64 by omega) (by decide)) ?_
        refine b_if_lt (pc := 122) (tgt := 129) (dd dtX11_warned 67 rfl) (by decide) (fun h122 => ?_) (fun h122 => ?_)
        · refine b_ic0 (pc := 129) (dd dtX11_warned 70 rfl) ?_
          refine b_istore (pc := 130) (i := 5) (lv' := [(5, _), (4, _), (3, _), (0, _), (1, _), (2, _)]) (dd dtX11_warned 71 rfl) (Nat.le_of_ble_eq_true rfl) rfl ?_
          refine b_ic0 (pc := 132) (dd dtX11_warned 72 rfl) ?_
          refine b_istore (pc := 133) (i := 6) (lv' := [(6, _), (5, _), (4, _), (3, _), (0, _), (1, _), (2, _)]) (dd dtX11_warned 73 rfl) (Nat.le_of_ble_eq_true rfl) rfl ?_
          refine l3_X11_warned hW hW2 hWc hlt ?_ (Wn + 1) 0 _ _ (Nat.zero_le _) (by omega) rfl (by simp only [nI_clamp (show h < 2 ^ 31 by omega)] at h122; first | exact (bi_t ⟨h122, fun w hw => absurd hw (Nat.not_lt_zero w)⟩).symm | exact (bi_f (fun q => q.1 h122)).symm)
          refine b_iload_n (pc := 184) (i := 3) (dd dtX11_warned 97 rfl) rfl rfl ?_
          refine b_iload (pc := 185) (i := 5) (dd dtX11_warned 98 rfl) rfl ?_
          refine b_ifb_eq (pc := 187) (tgt := 194) (dd dtX11_warned 99 rfl) (by decide) (fun h187 => ?_) (fun h187 => ?_)
          · refine b_ic0 (pc := 194) (dd dtX11_warned 102 rfl) ?_
            refine b_iadd (pc := 195) (dd dtX11_warned 103 rfl) ?_
            refine b_istore_n (pc := 196) (i := 3) (lv' := [(3, _), (5, _), (4, _), (0, _), (1, _), (2, _)]) (dd dtX11_warned 104 rfl) rfl (Nat.le_of_ble_eq_true rfl) rfl ?_
            refine b_iinc1 (pc := 197) (i := 4) (lv' := [(4, _), (3, _), (5, _), (0, _), (1, _), (2, _)]) (dd dtX11_warned 105 rfl) rfl (Nat.le_of_ble_eq_true rfl) rfl ?_
            refine b_goto (pc := 200) (tgt := 103) (dd dtX11_warned 106 rfl) (by decide) ?_
            refine b_pick [0, 1, 3, 4, 5] (lv' := [(4, _), (3, _), (0, _), (1, _), (2, _)]) rfl ?_
            rw [nI_1]
            refine ih (h + 1) _ _ hlt (by omega) rfl ?_
            simp only [mMs]
            first | rw [if_pos h187] | rw [if_neg h187]
          · refine b_ic1 (pc := 190) (dd dtX11_warned 100 rfl) ?_
            refine b_goto (pc := 191) (tgt := 195) (dd dtX11_warned 101 rfl) (by decide) ?_
            refine b_iadd (pc := 195) (dd dtX11_warned 103 rfl) ?_
            refine b_istore_n (pc := 196) (i := 3) (lv' := [(3, _), (5, _), (4, _), (0, _), (1, _), (2, _)]) (dd dtX11_warned 104 rfl) rfl (Nat.le_of_ble_eq_true rfl) rfl ?_
            refine b_iinc1 (pc := 197) (i := 4) (lv' := [(4, _), (3, _), (5, _), (0, _), (1, _), (2, _)]) (dd dtX11_warned 105 rfl) rfl (Nat.le_of_ble_eq_true rfl) rfl ?_
            refine b_goto (pc := 200) (tgt := 103) (dd dtX11_warned 106 rfl) (by decide) ?_
            refine b_pick [0, 1, 3, 4, 5] (lv' := [(4, _), (3, _), (0, _), (1, _), (2, _)]) rfl ?_
            rw [nI_1]
            refine ih (h + 1) _ _ hlt (by omega) rfl ?_
            simp only [mMs]
            first | rw [if_pos h187] | rw [if_neg h187]
        · refine b_ic1 (pc := 125) (dd dtX11_warned 68 rfl) ?_
          refine b_goto (pc := 126) (tgt := 130) (dd dtX11_warned 69 rfl) (by decide) ?_
          refine b_istore (pc := 130) (i := 5) (lv' := [(5, _), (4, _), (3, _), (0, _), (1, _), (2, _)]) (dd dtX11_warned 71 rfl) (Nat.le_of_ble_eq_true rfl) rfl ?_
          refine b_ic0 (pc := 132) (dd dtX11_warned 72 rfl) ?_
          refine b_istore (pc := 133) (i := 6) (lv' := [(6, _), (5, _), (4, _), (3, _), (0, _), (1, _), (2, _)]) (dd dtX11_warned 73 rfl) (Nat.le_of_ble_eq_true rfl) rfl ?_
          refine l3_X11_warned hW hW2 hWc hlt ?_ (Wn + 1) 0 _ _ (Nat.zero_le _) (by omega) rfl (by simp only [nI_clamp (show h < 2 ^ 31 by omega)] at h122; first | exact (bi_t ⟨h122, fun w hw => absurd hw (Nat.not_lt_zero w)⟩).symm | exact (bi_f (fun q => q.1 h122)).symm)
          refine b_iload_n (pc := 184) (i := 3) (dd dtX11_warned 97 rfl) rfl rfl ?_
          refine b_iload (pc := 185) (i := 5) (dd dtX11_warned 98 rfl) rfl ?_
          refine b_ifb_eq (pc := 187) (tgt := 194) (dd dtX11_warned 99 rfl) (by decide) (fun h187 => ?_) (fun h187 => ?_)
          · refine b_ic0 (pc := 194) (dd dtX11_warned 102 rfl) ?_
            refine b_iadd (pc := 195) (dd dtX11_warned 103 rfl) ?_
            refine b_istore_n (pc := 196) (i := 3) (lv' := [(3, _), (5, _), (4, _), (0, _), (1, _), (2, _)]) (dd dtX11_warned 104 rfl) rfl (Nat.le_of_ble_eq_true rfl) rfl ?_
            refine b_iinc1 (pc := 197) (i := 4) (lv' := [(4, _), (3, _), (5, _), (0, _), (1, _), (2, _)]) (dd dtX11_warned 105 rfl) rfl (Nat.le_of_ble_eq_true rfl) rfl ?_
            refine b_goto (pc := 200) (tgt := 103) (dd dtX11_warned 106 rfl) (by decide) ?_
            refine b_pick [0, 1, 3, 4, 5] (lv' := [(4, _), (3, _), (0, _), (1, _), (2, _)]) rfl ?_
            rw [nI_1]
            refine ih (h + 1) _ _ hlt (by omega) rfl ?_
            simp only [mMs]
            first | rw [if_pos h187] | rw [if_neg h187]
          · refine b_ic1 (pc := 190) (dd dtX11_warned 100 rfl) ?_
            refine b_goto (pc := 191) (tgt := 195) (dd dtX11_warned 101 rfl) (by decide) ?_
            refine b_iadd (pc := 195) (dd dtX11_warned 103 rfl) ?_
            refine b_istore_n (pc := 196) (i := 3) (lv' := [(3, _), (5, _), (4, _), (0, _), (1, _), (2, _)]) (dd dtX11_warned 104 rfl) rfl (Nat.le_of_ble_eq_true rfl) rfl ?_
            refine b_iinc1 (pc := 197) (i := 4) (lv' := [(4, _), (3, _), (5, _), (0, _), (1, _), (2, _)]) (dd dtX11_warned 105 rfl) rfl (Nat.le_of_ble_eq_true rfl) rfl ?_
            refine b_goto (pc := 200) (tgt := 103) (dd dtX11_warned 106 rfl) (by decide) ?_
            refine b_pick [0, 1, 3, 4, 5] (lv' := [(4, _), (3, _), (0, _), (1, _), (2, _)]) rfl ?_
            rw [nI_1]
            refine ih (h + 1) _ _ hlt (by omega) rfl ?_
            simp only [mMs]
            first | rw [if_pos h187] | rw [if_neg h187]
set_option maxHeartbeats 4000000 in
theorem c_X11_warned {I : Wd} {Wn : Nat} {m what : Int32} (hW : I 0 65 = nI Wn) (hW2 : Wn ≤ 30) (hWc : ∀ w, w < Wn → vp_in (I 41 w) 64) : Cal SyM mX11_warned 2 [.ref 0, .int m, .int what] I (some (.int (if inR m 1 60 ∧ inR what 0 2 then (if what = 1 then mMs (I 4) (I 41) (I 42) m Wn 64 else if what = 0 then sTw (I 4) (I 41) (I 42) m Wn else sOw (I 4) (I 41) (I 42) (I 0 0) m Wn) else -2))) I := by
  refine Cal.of (by decide) (Nat.le_of_ble_eq_true rfl) ?_
  show Bd _ _ _ _ [(0, _), (1, _), (2, _)] _ _ _ _
  refine b_aload_n (pc := 0) (i := 0) (dd dtX11_warned 0 rfl) rfl rfl ?_
  refine b_iload_n (pc := 1) (i := 1) (dd dtX11_warned 1 rfl) rfl rfl ?_
  refine b_ic1 (pc := 2) (dd dtX11_warned 2 rfl) ?_
  refine b_bipush (pc := 3) (v := 60) (dd dtX11_warned 3 rfl) (by decide) ?_
  refine b_invV (pc := 5) (dd dtX11_warned 4 rfl) mlX11_1 mvX11_in miX11_in (c_X11_in) oM_0 rfl rfl (by decide) (Nat.le_of_ble_eq_true rfl) ?_
  refine b_ifb_eq (pc := 8) (tgt := 21) (dd dtX11_warned 5 rfl) (by decide) (fun h8 => ?_) (fun h8 => ?_)
  · refine b_bipush (pc := 21) (v := -2) (dd dtX11_warned 12 rfl) (by decide) ?_
    refine b_eq (b_iret (dd dtX11_warned 13 rfl) rfl) ?_ ?_
    · simp [inR, -Int32.not_lt, -Int32.not_le, *]
    · rfl
  · refine b_aload_n (pc := 11) (i := 0) (dd dtX11_warned 6 rfl) rfl rfl ?_
    refine b_iload_n (pc := 12) (i := 2) (dd dtX11_warned 7 rfl) rfl rfl ?_
    refine b_ic0 (pc := 13) (dd dtX11_warned 8 rfl) ?_
    refine b_ic2 (pc := 14) (dd dtX11_warned 9 rfl) ?_
    refine b_invV (pc := 15) (dd dtX11_warned 10 rfl) mlX11_1 mvX11_in miX11_in (c_X11_in) oM_0 rfl rfl (by decide) (Nat.le_of_ble_eq_true rfl) ?_
    refine b_ifb_ne (pc := 18) (tgt := 24) (dd dtX11_warned 11 rfl) (by decide) (fun h18 => ?_) (fun h18 => ?_)
    · refine b_ic0 (pc := 24) (dd dtX11_warned 14 rfl) ?_
      refine b_istore_n (pc := 25) (i := 3) (lv' := [(3, _), (0, _), (1, _), (2, _)]) (dd dtX11_warned 15 rfl) rfl (Nat.le_of_ble_eq_true rfl) rfl ?_
      refine b_ic0 (pc := 26) (dd dtX11_warned 16 rfl) ?_
      refine b_istore (pc := 27) (i := 4) (lv' := [(4, _), (3, _), (0, _), (1, _), (2, _)]) (dd dtX11_warned 17 rfl) (Nat.le_of_ble_eq_true rfl) rfl ?_
      rw [if_pos ⟨h8, h18⟩]
      by_cases hw1 : what = 1
      · rw [if_pos hw1]
        refine b_iload (pc := 29) (i := 4) (dd dtX11_warned 18 rfl) rfl ?_
        refine b_aload_n (pc := 31) (i := 0) (dd dtX11_warned 19 rfl) rfl rfl ?_
        refine b_geti (pc := 32) (dd dtX11_warned 20 rfl) fwX11_212 pM_0 ?_
        refine b_icmpL_ge (pc := 35) (tgt := 100) (dd dtX11_warned 21 rfl) (by decide) (fun h35 => ?_) (fun h35 => ?_)
        · refine b_ic0 (pc := 100) (dd dtX11_warned 55 rfl) ?_
          refine b_istore (pc := 101) (i := 4) (lv' := [(4, _), (3, _), (0, _), (1, _), (2, _)]) (dd dtX11_warned 56 rfl) (Nat.le_of_ble_eq_true rfl) rfl ?_
          exact l2_X11_warned hW hW2 hWc hw1 65 0 _ _ (Nat.zero_le _) (by omega) rfl rfl
        · refine b_iload_n (pc := 38) (i := 2) (dd dtX11_warned 22 rfl) rfl rfl ?_
          refine b_ic1 (pc := 39) (dd dtX11_warned 23 rfl) ?_
          refine b_icmp_eq (pc := 40) (tgt := 100) (dd dtX11_warned 24 rfl) (by decide) (fun h40 => ?_) (fun h40 => ?_)
          · refine b_ic0 (pc := 100) (dd dtX11_warned 55 rfl) ?_
            refine b_istore (pc := 101) (i := 4) (lv' := [(4, _), (3, _), (0, _), (1, _), (2, _)]) (dd dtX11_warned 56 rfl) (Nat.le_of_ble_eq_true rfl) rfl ?_
            exact l2_X11_warned hW hW2 hWc hw1 65 0 _ _ (Nat.zero_le _) (by omega) rfl rfl
          · exact absurd hw1 h40
      · rw [if_neg hw1]
        exact l1_X11_warned hW hW2 hWc hw1 (Wn + 1) 0 _ _ (Nat.zero_le _) (by omega) rfl (by simp [sTw, sOw])
    · refine b_bipush (pc := 21) (v := -2) (dd dtX11_warned 12 rfl) (by decide) ?_
      refine b_eq (b_iret (dd dtX11_warned 13 rfl) rfl) ?_ ?_
      · simp [inR, -Int32.not_lt, -Int32.not_le, *]
      · rfl
