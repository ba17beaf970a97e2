/-! the reference's plan, all of it -/
def plR (J : Wd) (N P z : Nat) (s room n : Int32) : Int64 × Int32 × Wd := plM N P z s room n (J 0 2) J (2 ^ z)
abbrev okPlM (J : Wd) (z : Nat) (s room n : Int32) : Prop := inR s 0 3 ∧ ¬ J 44 s.toNatClampNeg < 0 ∧ ¬ 8 < nI z ∧ inR room 0 999 ∧ inR n 1 60 ∧ ¬ 1200 < J 0 0 + n ∧ ∀ k, k < z → inR (itM J s k) 0 (J 0 3 - 1)
theorem lcmp_0 {x : Int64} : lg_cmp x 0 < 0 ↔ x < 0 := lcmp_i
theorem plM_s {N P z set : Nat} {s room n hb : Int32} {J : Wd} : plM N P z s room n hb J (set + 1) = plM1 N P z s room n hb set (plM N P z s room n hb J set) := rfl
set_option maxHeartbeats 4000000 in
theorem r127 {J : Wd} {N P z : Nat} {s room n0 hb : Int32} (hs : inR s 0 3) (hz : J 45 s.toNatClampNeg = nI z) (hz8 : z ≤ 8) (hF : FM J N P) (hbo : ∀ i, i < N → J 16 i = 0 ∨ J 16 i = 1) (hit : ∀ k, k < z → inR (itM J s k) 0 (J 0 3 - 1)) (hn0 : inR n0 1 60) : ∀ (n h : Nat) (x8 : Int32) (x6 : Int32) (x4 : Int64) (I2 : Wd), h ≤ 2 ^ z → 2 ^ z < h + n → x8 = nI h → x6 = (plM N P z s room n0 hb J h).2.1 → x4 = (plM N P z s room n0 hb J h).1 → I2 = (plM N P z s room n0 hb J h).2.2 → Bd SyM mX11_plan 3 127 [(8, .int x8), (7, .int hb), (6, .int x6), (4, .long x4), (0, .ref 0), (1, .int s), (2, .int room), (3, .int n0)] [] I2 (some (.long (plM N P z s room n0 hb J (2 ^ z)).1)) (ist (plM N P z s room n0 hb J (2 ^ z)).2.2 0 72 (plM N P z s room n0 hb J (2 ^ z)).2.1) := by
  intro n
  induction n with
  | zero => intro h x8 x6 x4 I2 h1 h2; omega
  | succ n ih =>
    intro h x8 x6 x4 I2 h1 h2 e8 e6 e4 eW
    subst e8; subst e6; subst e4; subst eW
    have hn6 := (n60 hn0).2
    have pw := pow_n z hz8
    have hsm := sameR (z := z) (set := h) (s := s) (room := room) (n := n0) (hb := hb) hF.1.2 hF.2.1.2 hbo
    have hG := hsm.fm hF
    have hG2 := id hG
    obtain ⟨⟨hN, hN2⟩, ⟨hP, hP2⟩, hr, hq⟩ := id hG
    have h45 : (plM N P z s room n0 hb J h).2.2 45 = J 45 := hsm.2.2.2.2.2.2 45 (by decide) (by decide) (by decide) (by decide) (by decide)
    have h46 : (plM N P z s room n0 hb J h).2.2 46 = J 46 := hsm.2.2.2.2.2.2 46 (by decide) (by decide) (by decide) (by decide) (by decide)
    have him : itM (plM N P z s room n0 hb J h).2.2 s = itM J s := by funext k; unfold itM; rw [h46]
    have h03 : (plM N P z s room n0 hb J h).2.2 0 3 = J 0 3 := hsm.1 3
    refine b_iload (pc := 127) (i := 8) (dd dtX11_plan 67 rfl) rfl ?_
    refine b_ic1 (pc := 129) (dd dtX11_plan 68 rfl) ?_
    refine b_aload_n (pc := 130) (i := 0) (dd dtX11_plan 69 rfl) rfl rfl ?_
    refine b_geta (pc := 131) (dd dtX11_plan 70 rfl) fwX11_239 pM_0 rM_0_74 ?_
    refine b_iload_n (pc := 134) (i := 1) (dd dtX11_plan 71 rfl) rfl rfl ?_
    refine b_iald (pc := 135) (dd dtX11_plan 72 rfl) pM_45 (vs4 hs) ?_
    refine b_ishl (pc := 136) (dd dtX11_plan 73 rfl) ?_
    refine b_icmpL_ge (pc := 137) (tgt := 378) (dd dtX11_plan 74 rfl) (by decide) (fun h137 => ?_) (fun h137 => ?_)
    · rw [h45, hz, shl_n z hz8] at h137
      have he : h = 2 ^ z := Nat.le_antisymm h1 (ge_n h137 (by omega))
      subst he
      refine b_aload_n (pc := 378) (i := 0) (dd dtX11_plan 203 rfl) rfl rfl ?_
      refine b_iload (pc := 379) (i := 6) (dd dtX11_plan 204 rfl) rfl ?_
      refine b_puti (pc := 381) (dd dtX11_plan 205 rfl) fwX11_233 pM_0 ?_
      refine b_lload (pc := 384) (i := 4) (dd dtX11_plan 206 rfl) rfl ?_
      exact b_eq (b_lret (dd dtX11_plan 207 rfl) rfl) rfl rfl
    · rw [h45, hz, shl_n z hz8] at h137
      have hlt : h < 2 ^ z := lt_n h137 (by omega) (by omega)
      refine b_ic0 (pc := 140) (dd dtX11_plan 75 rfl) ?_
      refine b_istore (pc := 141) (i := 9) (lv' := [(9, _), (8, _), (7, _), (6, _), (4, _), (0, _), (1, _), (2, _), (3, _)]) (dd dtX11_plan 76 rfl) (Nat.le_of_ble_eq_true rfl) rfl ?_
      refine b_ic0 (pc := 143) (dd dtX11_plan 77 rfl) ?_
      refine b_istore (pc := 144) (i := 10) (lv' := [(10, _), (9, _), (8, _), (7, _), (6, _), (4, _), (0, _), (1, _), (2, _), (3, _)]) (dd dtX11_plan 78 rfl) (Nat.le_of_ble_eq_true rfl) rfl ?_
      refine b_ic0 (pc := 146) (dd dtX11_plan 79 rfl) ?_
      refine b_istore (pc := 147) (i := 11) (lv' := [(11, _), (10, _), (9, _), (8, _), (7, _), (6, _), (4, _), (0, _), (1, _), (2, _), (3, _)]) (dd dtX11_plan 80 rfl) (Nat.le_of_ble_eq_true rfl) rfl ?_
      refine r149 (P := P) (W := (plM N P z s room n0 hb J h).2.2) hs (by rw [h45]; exact hz) hz8 hN hN2 (by rw [him, h03]; exact hit) ?_ (z + 1) 0 _ _ _ (Nat.zero_le _) (by omega) rfl rfl rfl
      refine b_iload (pc := 239) (i := 9) (dd dtX11_plan 132 rfl) rfl ?_
      refine b_iload_n (pc := 241) (i := 2) (dd dtX11_plan 133 rfl) rfl rfl ?_
      refine b_icmpL_le (pc := 242) (tgt := 248) (dd dtX11_plan 134 rfl) (by decide) (fun h242 => ?_) (fun h242 => ?_)
      · refine b_aload_n (pc := 248) (i := 0) (dd dtX11_plan 136 rfl) rfl rfl ?_
        refine b_ic0 (pc := 249) (dd dtX11_plan 137 rfl) ?_
        refine b_invV (pc := 250) (dd dtX11_plan 138 rfl) mlX11_414 mvX11_keep miX11_keep (c_X11_keep (b := 0) (by decide)) oM_0 rfl rfl (by decide) (Nat.le_of_ble_eq_true rfl) ?_
        refine b_ic0 (pc := 253) (dd dtX11_plan 139 rfl) ?_
        refine b_istore (pc := 254) (i := 11) (lv' := [(11, _), (10, _), (9, _), (8, _), (7, _), (6, _), (4, _), (0, _), (1, _), (2, _), (3, _)]) (dd dtX11_plan 140 rfl) (Nat.le_of_ble_eq_true rfl) rfl ?_
        refine r256 (P := P) (z := z) (W := keepW (plM N P z s room n0 hb J h).2.2 0) (by rw [keepW_fr (by decide)]; exact hN) hN2 ?_ (N + 1) 0 _ _ (Nat.zero_le _) (by omega) rfl (by unfold mvW; rw [fil_0, rset_id])
        refine b_ic0 (pc := 304) (dd dtX11_plan 166 rfl) ?_
        refine b_istore (pc := 305) (i := 11) (lv' := [(11, _), (10, _), (9, _), (8, _), (7, _), (6, _), (4, _), (0, _), (1, _), (2, _), (3, _)]) (dd dtX11_plan 167 rfl) (Nat.le_of_ble_eq_true rfl) rfl ?_
        refine r307 (z := z) (P := P) (W := mvW (keepW (plM N P z s room n0 hb J h).2.2 0) (pnM (itM (plM N P z s room n0 hb J h).2.2 s) ((plM N P z s room n0 hb J h).2.2 16) ((plM N P z s room n0 hb J h).2.2 12) (nI h) z).2 N) (hG.of ?_ ?_ ?_ ?_) hn0 ?_ (n0.toNatClampNeg + 1) 0 _ _ (Nat.zero_le _) (by omega) rfl rfl
        · unfold mvW; rw [rset_ne (by decide), keepW_fr (by decide)]
        · unfold mvW; rw [rset_ne (by decide), keepW_fr (by decide)]
        · unfold mvW; rw [rset_ne (by decide), keepW_fr (by decide)]
        · unfold mvW; rw [rset_ne (by decide), keepW_fr (by decide)]
        show Bd _ _ _ _ _ _ (plM3 N P (plM N P z s room n0 hb J h).2.2 n0 (pnM (itM (plM N P z s room n0 hb J h).2.2 s) ((plM N P z s room n0 hb J h).2.2 16) ((plM N P z s room n0 hb J h).2.2 12) (nI h) z).2) _ _
        have hN3 : plM3 N P (plM N P z s room n0 hb J h).2.2 n0 (pnM (itM (plM N P z s room n0 hb J h).2.2 s) ((plM N P z s room n0 hb J h).2.2 16) ((plM N P z s room n0 hb J h).2.2 12) (nI h) z).2 0 3 = nI N := by unfold plM3; rw [monsM_0 (by decide) (by decide)]; unfold mvW; rw [rset_ne (by decide), keepW_fr (by decide)]; exact hN
        have hP3 : plM3 N P (plM N P z s room n0 hb J h).2.2 n0 (pnM (itM (plM N P z s room n0 hb J h).2.2 s) ((plM N P z s room n0 hb J h).2.2 16) ((plM N P z s room n0 hb J h).2.2 12) (nI h) z).2 0 4 = nI P := by unfold plM3; rw [monsM_0 (by decide) (by decide)]; unfold mvW; rw [rset_ne (by decide), keepW_fr (by decide)]; exact hP
        refine b_aload_n (pc := 323) (i := 0) (dd dtX11_plan 175 rfl) rfl rfl ?_
        refine b_geti (pc := 324) (dd dtX11_plan 176 rfl) fwX11_20 pM_0 ?_
        refine b_iload (pc := 327) (i := 7) (dd dtX11_plan 177 rfl) rfl ?_
        refine b_isub (pc := 329) (dd dtX11_plan 178 rfl) ?_
        refine b_i2l (pc := 330) (dd dtX11_plan 179 rfl) ?_
        refine b_lstore (pc := 331) (i := 11) (lv' := [(11, _), (10, _), (9, _), (8, _), (7, _), (6, _), (4, _), (0, _), (1, _), (2, _), (3, _)]) (dd dtX11_plan 180 rfl) ⟨Nat.le_of_ble_eq_true rfl, Nat.le_of_ble_eq_true rfl⟩ rfl ?_
        refine b_aload_n (pc := 333) (i := 0) (dd dtX11_plan 181 rfl) rfl rfl ?_
        refine b_ic0 (pc := 334) (dd dtX11_plan 182 rfl) ?_
        refine b_aload_n (pc := 335) (i := 0) (dd dtX11_plan 183 rfl) rfl rfl ?_
        refine b_geti (pc := 336) (dd dtX11_plan 184 rfl) fwX11_23 pM_0 ?_
        refine b_aload_n (pc := 339) (i := 0) (dd dtX11_plan 185 rfl) rfl rfl ?_
        refine b_geti (pc := 340) (dd dtX11_plan 186 rfl) fwX11_26 pM_0 ?_
        rw [hN3, hP3]
        refine b_invV (pc := 343) (dd dtX11_plan 187 rfl) mlX11_417 mvX11_putBack miX11_putBack (c_X11_putBack (b := 0) (by decide) hN3 hN2 hP3 hP2) oM_0 rfl rfl (by decide) (Nat.le_of_ble_eq_true rfl) ?_
        refine b_lload (pc := 346) (i := 4) (dd dtX11_plan 188 rfl) rfl ?_
        refine b_lconst (pc := 348) (v := 0) (dd dtX11_plan 189 rfl) (by decide) ?_
        refine b_lcmp (pc := 349) (dd dtX11_plan 190 rfl) ?_
        refine b_if_lt (pc := 350) (tgt := 364) (dd dtX11_plan 191 rfl) (by decide) (fun h350 => ?_) (fun h350 => ?_)
        · try rw [lcmp_0] at h350
          try rw [lcmp_i] at h358
          refine b_lload (pc := 364) (i := 11) (dd dtX11_plan 197 rfl) rfl ?_
          refine b_lstore (pc := 366) (i := 4) (lv' := [(4, _), (11, _), (10, _), (9, _), (8, _), (7, _), (6, _), (0, _), (1, _), (2, _), (3, _)]) (dd dtX11_plan 198 rfl) ⟨Nat.le_of_ble_eq_true rfl, Nat.le_of_ble_eq_true rfl⟩ rfl ?_
          refine b_iload (pc := 368) (i := 8) (dd dtX11_plan 199 rfl) rfl ?_
          refine b_istore (pc := 370) (i := 6) (lv' := [(6, _), (4, _), (11, _), (10, _), (9, _), (8, _), (7, _), (0, _), (1, _), (2, _), (3, _)]) (dd dtX11_plan 200 rfl) (Nat.le_of_ble_eq_true rfl) rfl ?_
          refine b_iinc1 (pc := 372) (i := 8) (lv' := [(8, _), (6, _), (4, _), (11, _), (10, _), (9, _), (7, _), (0, _), (1, _), (2, _), (3, _)]) (dd dtX11_plan 201 rfl) rfl (Nat.le_of_ble_eq_true rfl) rfl ?_
          refine b_goto (pc := 375) (tgt := 127) (dd dtX11_plan 202 rfl) (by decide) ?_
          refine b_pick [0, 6, 1, 2, 7, 8, 9, 10] (lv' := [(8, _), (7, _), (6, _), (4, _), (0, _), (1, _), (2, _), (3, _)]) rfl ?_
          rw [nI_1]
          refine ih (h + 1) _ _ _ _ hlt (by omega) rfl ?_ ?_ ?_
          · rw [plM_s]; unfold plM1; rw [if_neg h242]; (first | rw [if_pos (And.intro h350 h358)] | rw [if_neg (by intro q; obtain ⟨a1, a2⟩ := q; contradiction)]); try rfl
          · rw [plM_s]; unfold plM1; rw [if_neg h242]; (first | rw [if_pos (And.intro h350 h358)] | rw [if_neg (by intro q; obtain ⟨a1, a2⟩ := q; contradiction)]); try rfl
          · rw [plM_s]; unfold plM1; rw [if_neg h242]; (first | rw [if_pos (And.intro h350 h358)] | rw [if_neg (by intro q; obtain ⟨a1, a2⟩ := q; contradiction)]); try rfl
        · rw [lcmp_0] at h350
          refine b_lload (pc := 353) (i := 11) (dd dtX11_plan 192 rfl) rfl ?_
          refine b_lload (pc := 355) (i := 4) (dd dtX11_plan 193 rfl) rfl ?_
          refine b_lcmp (pc := 357) (dd dtX11_plan 194 rfl) ?_
          refine b_if_lt (pc := 358) (tgt := 364) (dd dtX11_plan 195 rfl) (by decide) (fun h358 => ?_) (fun h358 => ?_)
          · try rw [lcmp_0] at h350
            try rw [lcmp_i] at h358
            refine b_lload (pc := 364) (i := 11) (dd dtX11_plan 197 rfl) rfl ?_
            refine b_lstore (pc := 366) (i := 4) (lv' := [(4, _), (11, _), (10, _), (9, _), (8, _), (7, _), (6, _), (0, _), (1, _), (2, _), (3, _)]) (dd dtX11_plan 198 rfl) ⟨Nat.le_of_ble_eq_true rfl, Nat.le_of_ble_eq_true rfl⟩ rfl ?_
            refine b_iload (pc := 368) (i := 8) (dd dtX11_plan 199 rfl) rfl ?_
            refine b_istore (pc := 370) (i := 6) (lv' := [(6, _), (4, _), (11, _), (10, _), (9, _), (8, _), (7, _), (0, _), (1, _), (2, _), (3, _)]) (dd dtX11_plan 200 rfl) (Nat.le_of_ble_eq_true rfl) rfl ?_
            refine b_iinc1 (pc := 372) (i := 8) (lv' := [(8, _), (6, _), (4, _), (11, _), (10, _), (9, _), (7, _), (0, _), (1, _), (2, _), (3, _)]) (dd dtX11_plan 201 rfl) rfl (Nat.le_of_ble_eq_true rfl) rfl ?_
            refine b_goto (pc := 375) (tgt := 127) (dd dtX11_plan 202 rfl) (by decide) ?_
            refine b_pick [0, 6, 1, 2, 7, 8, 9, 10] (lv' := [(8, _), (7, _), (6, _), (4, _), (0, _), (1, _), (2, _), (3, _)]) rfl ?_
            rw [nI_1]
            refine ih (h + 1) _ _ _ _ hlt (by omega) rfl ?_ ?_ ?_
            · rw [plM_s]; unfold plM1; rw [if_neg h242]; (first | rw [if_pos (And.intro h350 h358)] | rw [if_neg (by intro q; obtain ⟨a1, a2⟩ := q; contradiction)]); try rfl
            · rw [plM_s]; unfold plM1; rw [if_neg h242]; (first | rw [if_pos (And.intro h350 h358)] | rw [if_neg (by intro q; obtain ⟨a1, a2⟩ := q; contradiction)]); try rfl
            · rw [plM_s]; unfold plM1; rw [if_neg h242]; (first | rw [if_pos (And.intro h350 h358)] | rw [if_neg (by intro q; obtain ⟨a1, a2⟩ := q; contradiction)]); try rfl
          · rw [lcmp_i] at h358
            refine b_goto (pc := 361) (tgt := 372) (dd dtX11_plan 196 rfl) (by decide) ?_
            refine b_iinc1 (pc := 372) (i := 8) (lv' := [(8, _), (11, _), (10, _), (9, _), (7, _), (6, _), (4, _), (0, _), (1, _), (2, _), (3, _)]) (dd dtX11_plan 201 rfl) rfl (Nat.le_of_ble_eq_true rfl) rfl ?_
            refine b_goto (pc := 375) (tgt := 127) (dd dtX11_plan 202 rfl) (by decide) ?_
            refine b_pick [0, 4, 5, 6, 7, 8, 9, 10] (lv' := [(8, _), (7, _), (6, _), (4, _), (0, _), (1, _), (2, _), (3, _)]) rfl ?_
            rw [nI_1]
            refine ih (h + 1) _ _ _ _ hlt (by omega) rfl ?_ ?_ ?_
            · rw [plM_s]; unfold plM1; rw [if_neg h242]; (first | rw [if_pos (And.intro h350 h358)] | rw [if_neg (by intro q; obtain ⟨a1, a2⟩ := q; contradiction)]); try rfl
            · rw [plM_s]; unfold plM1; rw [if_neg h242]; (first | rw [if_pos (And.intro h350 h358)] | rw [if_neg (by intro q; obtain ⟨a1, a2⟩ := q; contradiction)]); try rfl
            · rw [plM_s]; unfold plM1; rw [if_neg h242]; (first | rw [if_pos (And.intro h350 h358)] | rw [if_neg (by intro q; obtain ⟨a1, a2⟩ := q; contradiction)]); try rfl
      · refine b_goto (pc := 245) (tgt := 372) (dd dtX11_plan 135 rfl) (by decide) ?_
        refine b_iinc1 (pc := 372) (i := 8) (lv' := [(8, _), (10, _), (9, _), (7, _), (6, _), (4, _), (0, _), (1, _), (2, _), (3, _)]) (dd dtX11_plan 201 rfl) rfl (Nat.le_of_ble_eq_true rfl) rfl ?_
        refine b_goto (pc := 375) (tgt := 127) (dd dtX11_plan 202 rfl) (by decide) ?_
        refine b_pick [0, 3, 4, 5, 6, 7, 8, 9] (lv' := [(8, _), (7, _), (6, _), (4, _), (0, _), (1, _), (2, _), (3, _)]) rfl ?_
        rw [nI_1]
        refine ih (h + 1) _ _ _ _ hlt (by omega) rfl ?_ ?_ ?_
        · rw [plM_s]; unfold plM1; rw [if_pos h242]; try rfl
        · rw [plM_s]; unfold plM1; rw [if_pos h242]; try rfl
        · rw [plM_s]; unfold plM1; rw [if_pos h242]; try rfl
set_option maxHeartbeats 4000000 in
theorem r70 {J : Wd} {N P z : Nat} {s room n0 : Int32} (hs : inR s 0 3) (hz : J 45 s.toNatClampNeg = nI z) (hz8 : z ≤ 8) (hF : FM J N P) (hbo : ∀ i, i < N → J 16 i = 0 ∨ J 16 i = 1) (hn0 : inR n0 1 60) : ∀ (n h : Nat) (x4 : Int32), h ≤ z → z < h + n → x4 = nI h → (∀ k, k < h → inR (itM J s k) 0 (J 0 3 - 1)) → Bd SyM mX11_plan 3 70 [(4, .int x4), (0, .ref 0), (1, .int s), (2, .int room), (3, .int n0)] [] J (some (.long (if ∀ k, k < z → inR (itM J s k) 0 (J 0 3 - 1) then (plR J N P z s room n0).1 else -4611686018427387904))) (if ∀ k, k < z → inR (itM J s k) 0 (J 0 3 - 1) then ist (plR J N P z s room n0).2.2 0 72 (plR J N P z s room n0).2.1 else J) := by
  intro n
  induction n with
  | zero => intro h x4 h1 h2; omega
  | succ n ih =>
    intro h x4 h1 h2 e4 hI
    subst e4
    refine b_iload (pc := 70) (i := 4) (dd dtX11_plan 37 rfl) rfl ?_
    refine b_aload_n (pc := 72) (i := 0) (dd dtX11_plan 38 rfl) rfl rfl ?_
    refine b_geta (pc := 73) (dd dtX11_plan 39 rfl) fwX11_239 pM_0 rM_0_74 ?_
    refine b_iload_n (pc := 76) (i := 1) (dd dtX11_plan 40 rfl) rfl rfl ?_
    refine b_iald (pc := 77) (dd dtX11_plan 41 rfl) pM_45 (vs4 hs) ?_
    refine b_icmpL_ge (pc := 78) (tgt := 110) (dd dtX11_plan 42 rfl) (by decide) (fun h78 => ?_) (fun h78 => ?_)
    · rw [hz] at h78
      have he : h = z := Nat.le_antisymm h1 (ge_n h78 (by omega))
      subst he
      refine b_ldc2 (pc := 110) (dd dtX11_plan 58 rfl) kcX11_341 ?_
      refine b_lstore (pc := 113) (i := 4) (lv' := [(4, _), (0, _), (1, _), (2, _), (3, _)]) (dd dtX11_plan 59 rfl) ⟨Nat.le_of_ble_eq_true rfl, Nat.le_of_ble_eq_true rfl⟩ rfl ?_
      refine b_ic0 (pc := 115) (dd dtX11_plan 60 rfl) ?_
      refine b_istore (pc := 116) (i := 6) (lv' := [(6, _), (4, _), (0, _), (1, _), (2, _), (3, _)]) (dd dtX11_plan 61 rfl) (Nat.le_of_ble_eq_true rfl) rfl ?_
      refine b_aload_n (pc := 118) (i := 0) (dd dtX11_plan 62 rfl) rfl rfl ?_
      refine b_geti (pc := 119) (dd dtX11_plan 63 rfl) fwX11_20 pM_0 ?_
      refine b_istore (pc := 122) (i := 7) (lv' := [(7, _), (6, _), (4, _), (0, _), (1, _), (2, _), (3, _)]) (dd dtX11_plan 64 rfl) (Nat.le_of_ble_eq_true rfl) rfl ?_
      refine b_ic0 (pc := 124) (dd dtX11_plan 65 rfl) ?_
      refine b_istore (pc := 125) (i := 8) (lv' := [(8, _), (7, _), (6, _), (4, _), (0, _), (1, _), (2, _), (3, _)]) (dd dtX11_plan 66 rfl) (Nat.le_of_ble_eq_true rfl) rfl ?_
      rw [if_pos hI, if_pos hI]
      exact r127 (J := J) hs hz hz8 hF hbo hI hn0 (2 ^ h + 1) 0 _ _ _ _ (Nat.zero_le _) (by omega) rfl rfl rfl rfl
    · rw [hz] at h78
      have hlt : h < z := lt_n h78 (by omega) (by omega)
      refine b_aload_n (pc := 81) (i := 0) (dd dtX11_plan 43 rfl) rfl rfl ?_
      refine b_aload_n (pc := 82) (i := 0) (dd dtX11_plan 44 rfl) rfl rfl ?_
      refine b_geta (pc := 83) (dd dtX11_plan 45 rfl) fwX11_242 pM_0 rM_0_75 ?_
      refine b_bipush (pc := 86) (v := 40) (dd dtX11_plan 46 rfl) (by decide) ?_
      refine b_iload_n (pc := 88) (i := 1) (dd dtX11_plan 47 rfl) rfl rfl ?_
      refine b_imul (pc := 89) (dd dtX11_plan 48 rfl) ?_
      refine b_iload (pc := 90) (i := 4) (dd dtX11_plan 49 rfl) rfl ?_
      refine b_iadd (pc := 92) (dd dtX11_plan 50 rfl) ?_
      refine b_iald (pc := 93) (dd dtX11_plan 51 rfl) pM_46 (vx40 hs (show h < 40 by omega)) ?_
      refine b_invV (pc := 94) (dd dtX11_plan 52 rfl) mlX11_253 mvX11_isHouse miX11_isHouse (c_X11_isHouse) oM_0 rfl rfl (by decide) (Nat.le_of_ble_eq_true rfl) ?_
      refine b_ifb_ne (pc := 97) (tgt := 104) (dd dtX11_plan 53 rfl) (by decide) (fun h97 => ?_) (fun h97 => ?_)
      · simp only [cx40 hs (show h < 40 by omega)] at h97
        refine b_iinc1 (pc := 104) (i := 4) (lv' := [(4, _), (0, _), (1, _), (2, _), (3, _)]) (dd dtX11_plan 56 rfl) rfl (Nat.le_of_ble_eq_true rfl) rfl ?_
        refine b_goto (pc := 107) (tgt := 70) (dd dtX11_plan 57 rfl) (by decide) ?_
        rw [nI_1]
        refine ih (h + 1) _ hlt (by omega) rfl ?_
        · intro k hk
          rcases Nat.lt_succ_iff_lt_or_eq.mp hk with q | q
          · exact hI k q
          · subst q; exact h97
      · simp only [cx40 hs (show h < 40 by omega)] at h97
        have hno : ¬ ∀ k, k < z → inR (itM J s k) 0 (J 0 3 - 1) := fun q => h97 (q h hlt)
        rw [if_neg hno, if_neg hno]
        refine b_ldc2 (pc := 100) (dd dtX11_plan 54 rfl) kcX11_399 ?_
        exact b_eq (b_lret (dd dtX11_plan 55 rfl) rfl) rfl rfl
set_option maxHeartbeats 4000000 in
theorem c_X11_plan {J : Wd} {N P z : Nat} {s room n : Int32} (hF : FM J N P) (hbo : ∀ i, i < N → J 16 i = 0 ∨ J 16 i = 1) (hz0 : inR s 0 3 → J 45 s.toNatClampNeg = nI z ∧ z ≤ 40) : Cal SyM mX11_plan 3 [.ref 0, .int s, .int room, .int n] J (some (.long (if okPlM J z s room n then (plR J N P z s room n).1 else -4611686018427387904))) (if okPlM J z s room n then ist (plR J N P z s room n).2.2 0 72 (plR J N P z s room n).2.1 else J) := by
  refine Cal.of (by decide) (Nat.le_of_ble_eq_true rfl) ?_
  show Bd _ _ _ _ [(0, _), (1, _), (2, _), (3, _)] _ _ _ _
  refine b_aload_n (pc := 0) (i := 0) (dd dtX11_plan 0 rfl) rfl rfl ?_
  refine b_iload_n (pc := 1) (i := 1) (dd dtX11_plan 1 rfl) rfl rfl ?_
  refine b_invV (pc := 2) (dd dtX11_plan 2 rfl) mlX11_297 mvX11_isSheet miX11_isSheet (c_X11_isSheet) oM_0 rfl rfl (by decide) (Nat.le_of_ble_eq_true rfl) ?_
  refine b_ifb_eq (pc := 5) (tgt := 63) (dd dtX11_plan 3 rfl) (by decide) (fun h5 => ?_) (fun h5 => ?_)
  · refine b_ldc2 (pc := 63) (dd dtX11_plan 33 rfl) kcX11_399 ?_
    refine b_eq (b_lret (dd dtX11_plan 34 rfl) rfl) ?_ ?_
    · rw [if_neg (show ¬ okPlM J z s room n from by intro q; obtain ⟨a1, a2, a3, a4, a5, a6, a7⟩ := q; contradiction)]
    · rw [if_neg (show ¬ okPlM J z s room n from by intro q; obtain ⟨a1, a2, a3, a4, a5, a6, a7⟩ := q; contradiction)]
  · obtain ⟨hz, hz2⟩ := hz0 h5
    clear hz0
    refine b_aload_n (pc := 8) (i := 0) (dd dtX11_plan 4 rfl) rfl rfl ?_
    refine b_geta (pc := 9) (dd dtX11_plan 5 rfl) fwX11_236 pM_0 rM_0_73 ?_
    refine b_iload_n (pc := 12) (i := 1) (dd dtX11_plan 6 rfl) rfl rfl ?_
    refine b_iald (pc := 13) (dd dtX11_plan 7 rfl) pM_44 (vs4 h5) ?_
    refine b_if_lt (pc := 14) (tgt := 63) (dd dtX11_plan 8 rfl) (by decide) (fun h14 => ?_) (fun h14 => ?_)
    · refine b_ldc2 (pc := 63) (dd dtX11_plan 33 rfl) kcX11_399 ?_
      refine b_eq (b_lret (dd dtX11_plan 34 rfl) rfl) ?_ ?_
      · rw [if_neg (show ¬ okPlM J z s room n from by intro q; obtain ⟨a1, a2, a3, a4, a5, a6, a7⟩ := q; contradiction)]
      · rw [if_neg (show ¬ okPlM J z s room n from by intro q; obtain ⟨a1, a2, a3, a4, a5, a6, a7⟩ := q; contradiction)]
    · refine b_aload_n (pc := 17) (i := 0) (dd dtX11_plan 9 rfl) rfl rfl ?_
      refine b_geta (pc := 18) (dd dtX11_plan 10 rfl) fwX11_239 pM_0 rM_0_74 ?_
      refine b_iload_n (pc := 21) (i := 1) (dd dtX11_plan 11 rfl) rfl rfl ?_
      refine b_iald (pc := 22) (dd dtX11_plan 12 rfl) pM_45 (vs4 h5) ?_
      rw [hz]
      refine b_bipush (pc := 23) (v := 8) (dd dtX11_plan 13 rfl) (by decide) ?_
      refine b_icmp_gt (pc := 25) (tgt := 63) (dd dtX11_plan 14 rfl) (by decide) (fun h25 => ?_) (fun h25 => ?_)
      · refine b_ldc2 (pc := 63) (dd dtX11_plan 33 rfl) kcX11_399 ?_
        refine b_eq (b_lret (dd dtX11_plan 34 rfl) rfl) ?_ ?_
        · rw [if_neg (show ¬ okPlM J z s room n from by intro q; obtain ⟨a1, a2, a3, a4, a5, a6, a7⟩ := q; contradiction)]
        · rw [if_neg (show ¬ okPlM J z s room n from by intro q; obtain ⟨a1, a2, a3, a4, a5, a6, a7⟩ := q; contradiction)]
      · refine b_aload_n (pc := 28) (i := 0) (dd dtX11_plan 15 rfl) rfl rfl ?_
        refine b_iload_n (pc := 29) (i := 2) (dd dtX11_plan 16 rfl) rfl rfl ?_
        refine b_ic0 (pc := 30) (dd dtX11_plan 17 rfl) ?_
        refine b_sipush (pc := 31) (v := 999) (dd dtX11_plan 18 rfl) (by decide) ?_
        refine b_invV (pc := 34) (dd dtX11_plan 19 rfl) mlX11_1 mvX11_in miX11_in (c_X11_in) oM_0 rfl rfl (by decide) (Nat.le_of_ble_eq_true rfl) ?_
        refine b_ifb_eq (pc := 37) (tgt := 63) (dd dtX11_plan 20 rfl) (by decide) (fun h37 => ?_) (fun h37 => ?_)
        · refine b_ldc2 (pc := 63) (dd dtX11_plan 33 rfl) kcX11_399 ?_
          refine b_eq (b_lret (dd dtX11_plan 34 rfl) rfl) ?_ ?_
          · rw [if_neg (show ¬ okPlM J z s room n from by intro q; obtain ⟨a1, a2, a3, a4, a5, a6, a7⟩ := q; contradiction)]
          · rw [if_neg (show ¬ okPlM J z s room n from by intro q; obtain ⟨a1, a2, a3, a4, a5, a6, a7⟩ := q; contradiction)]
        · refine b_aload_n (pc := 40) (i := 0) (dd dtX11_plan 21 rfl) rfl rfl ?_
          refine b_iload_n (pc := 41) (i := 3) (dd dtX11_plan 22 rfl) rfl rfl ?_
          refine b_ic1 (pc := 42) (dd dtX11_plan 23 rfl) ?_
          refine b_bipush (pc := 43) (v := 60) (dd dtX11_plan 24 rfl) (by decide) ?_
          refine b_invV (pc := 45) (dd dtX11_plan 25 rfl) mlX11_1 mvX11_in miX11_in (c_X11_in) oM_0 rfl rfl (by decide) (Nat.le_of_ble_eq_true rfl) ?_
          refine b_ifb_eq (pc := 48) (tgt := 63) (dd dtX11_plan 26 rfl) (by decide) (fun h48 => ?_) (fun h48 => ?_)
          · refine b_ldc2 (pc := 63) (dd dtX11_plan 33 rfl) kcX11_399 ?_
            refine b_eq (b_lret (dd dtX11_plan 34 rfl) rfl) ?_ ?_
            · rw [if_neg (show ¬ okPlM J z s room n from by intro q; obtain ⟨a1, a2, a3, a4, a5, a6, a7⟩ := q; contradiction)]
            · rw [if_neg (show ¬ okPlM J z s room n from by intro q; obtain ⟨a1, a2, a3, a4, a5, a6, a7⟩ := q; contradiction)]
          · refine b_aload_n (pc := 51) (i := 0) (dd dtX11_plan 27 rfl) rfl rfl ?_
            refine b_geti (pc := 52) (dd dtX11_plan 28 rfl) fwX11_13 pM_0 ?_
            refine b_iload_n (pc := 55) (i := 3) (dd dtX11_plan 29 rfl) rfl rfl ?_
            refine b_iadd (pc := 56) (dd dtX11_plan 30 rfl) ?_
            refine b_sipush (pc := 57) (v := 1200) (dd dtX11_plan 31 rfl) (by decide) ?_
            refine b_icmpL_le (pc := 60) (tgt := 67) (dd dtX11_plan 32 rfl) (by decide) (fun h60 => ?_) (fun h60 => ?_)
            · refine b_ic0 (pc := 67) (dd dtX11_plan 35 rfl) ?_
              refine b_istore (pc := 68) (i := 4) (lv' := [(4, _), (0, _), (1, _), (2, _), (3, _)]) (dd dtX11_plan 36 rfl) (Nat.le_of_ble_eq_true rfl) rfl ?_
              have hz8 : z ≤ 8 := ge_n (h := 8) (N := z) h25 (by omega)
              refine b_eq (r70 h5 hz hz8 hF hbo h48 (z + 1) 0 _ (Nat.zero_le _) (by omega) rfl (fun j hj => absurd hj (Nat.not_lt_zero j))) ?_ ?_
              · by_cases hu : ∀ k, k < z → inR (itM J s k) 0 (J 0 3 - 1)
                · rw [if_pos hu, if_pos (show okPlM J z s room n from ⟨h5, h14, h25, h37, h48, h60, hu⟩)]
                · rw [if_neg hu, if_neg (show ¬ okPlM J z s room n from fun q => hu q.2.2.2.2.2.2)]
              · by_cases hu : ∀ k, k < z → inR (itM J s k) 0 (J 0 3 - 1)
                · rw [if_pos hu, if_pos (show okPlM J z s room n from ⟨h5, h14, h25, h37, h48, h60, hu⟩)]
                · rw [if_neg hu, if_neg (show ¬ okPlM J z s room n from fun q => hu q.2.2.2.2.2.2)]
            · refine b_ldc2 (pc := 63) (dd dtX11_plan 33 rfl) kcX11_399 ?_
              refine b_eq (b_lret (dd dtX11_plan 34 rfl) rfl) ?_ ?_
              · rw [if_neg (show ¬ okPlM J z s room n from by intro q; obtain ⟨a1, a2, a3, a4, a5, a6, a7⟩ := q; contradiction)]
              · rw [if_neg (show ¬ okPlM J z s room n from by intro q; obtain ⟨a1, a2, a3, a4, a5, a6, a7⟩ := q; contradiction)]
