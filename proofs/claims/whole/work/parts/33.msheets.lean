/-! the reference's sheets -/
/-- the places b .. b + h - 1 hold a's first ones -/
def rfil {α : Type} (b : Nat) (a f : Nat → α) (h : Nat) : Nat → α := fun i => if b ≤ i ∧ i < b + h then a (i - b) else f i
theorem rfil_0 {α : Type} {b : Nat} {a f : Nat → α} : rfil b a f 0 = f := by funext i; unfold rfil; rw [if_neg (by omega)]
theorem rfil_s {b : Nat} {a f : Nat → Int32} {h : Nat} {v : Int32} (hv : v = a h) : upd (rfil b a f h) (b + h) v = rfil b a f (h + 1) := by
  funext i
  unfold upd rfil
  by_cases e : i = b + h
  · subst e; rw [if_pos rfl, if_pos (by omega), hv]; congr 1; omega
  · rw [if_neg e]
    by_cases l : b ≤ i ∧ i < b + h
    · rw [if_pos l, if_pos (by omega)]
    · rw [if_neg l, if_neg (by omega)]
theorem rfil_in {α : Type} {b : Nat} {a f : Nat → α} {h i : Nat} (l : b ≤ i) (l2 : i < b + h) : rfil b a f h i = a (i - b) := if_pos ⟨l, l2⟩
theorem rfil_out {α : Type} {b : Nat} {a f : Nat → α} {h i : Nat} (l : i < b ∨ b + h ≤ i) : rfil b a f h i = f i := if_neg (by omega)
theorem sx {s : Int32} (h : inR s 0 3) : s = nI s.toNatClampNeg ∧ s.toNatClampNeg < 4 := by
  obtain ⟨j, e, h1, h2⟩ := nI_rng h
  have h3 : (3 : Int32).toInt = 3 := rfl
  have hc : s.toNatClampNeg = j := by rw [e]; exact nI_clamp h2
  rw [hc]; exact ⟨e, by omega⟩
theorem ix40 {s : Int32} (h : inR s 0 3) {k : Nat} : 40 * s + nI k = nI (40 * s.toNatClampNeg + k) := by
  rw [(sx h).1, show (40 : Int32) = nI 40 from rfl, pk_mul, nI_add, nI_clamp (Nat.lt_trans (sx h).2 (by decide))]
theorem vx40 {s : Int32} (h : inR s 0 3) {k : Nat} (hk : k < 40) : vp_in (40 * s + nI k) 160 := by rw [ix40 h]; exact vpn rfl (by have := (sx h).2; omega) (by decide)
theorem cx40 {s : Int32} (h : inR s 0 3) {k : Nat} (hk : k < 40) : (40 * s + nI k).toNatClampNeg = 40 * s.toNatClampNeg + k := by rw [ix40 h]; exact nI_clamp (by have := (sx h).2; omega)
theorem vs4 {s : Int32} (h : inR s 0 3) : vp_in s 4 := vpc h (by decide)
theorem ix40i {s i : Int32} {z : Nat} (h : inR s 0 3) (hi : inR i 0 (nI z - 1)) (hz : z ≤ 40) : vp_in (40 * s + i) 160 ∧ (40 * s + i).toNatClampNeg = 40 * s.toNatClampNeg + i.toNatClampNeg := by
  obtain ⟨j, e, hj, hc⟩ := inR_n hi (by omega)
  rw [hc, e]; exact ⟨vx40 h (by omega), cx40 h (by omega)⟩
/-- a sheet begins anew, of the reference -/
def mBegin (I : Wd) (k : Nat) (so n : Int32) : Wd := rset (ist (ist I 44 k so) 45 k (if so < 0 then 0 else n)) 46 (rfil (40 * k) (fun _ => 0) (I 46) 40)
def mSheetV (s so n : Int32) : Int32 := if inR s 0 3 ∧ inR so (-1) 2 ∧ ¬ (¬ so < 0 ∧ 40 < n) then (if ¬ so < 0 ∧ n < 0 then -14 else 1) else -2
abbrev mSheetP (s so n : Int32) : Prop := inR s 0 3 ∧ inR so (-1) 2 ∧ ¬ (¬ so < 0 ∧ 40 < n) ∧ ¬ (¬ so < 0 ∧ n < 0)
def tX11_sheet : List (Nat × Instr × Nat) := [(0, .aload_n 0, 1), (1, .iload_n 1, 1), (2, .invokevirtual 297, 3), (5, .ifCond .eq 23, 3), (8, .aload_n 0, 1), (9, .iload_n 2, 1), (10, .iconst (-1), 1), (11, .iconst 2, 1), (12, .invokevirtual 1, 3), (15, .ifCond .eq 13, 3), (18, .iload_n 2, 1), (19, .ifCond .lt 12, 3), (22, .iload_n 3, 1), (23, .bipush 40, 2), (25, .if_icmp .le 6, 3), (28, .bipush (-2), 2), (30, .ireturn, 1), (31, .iload_n 2, 1), (32, .ifCond .lt 10, 3), (35, .iload_n 3, 1), (36, .ifCond .ge 6, 3), (39, .bipush (-14), 2), (41, .ireturn, 1), (42, .aload_n 0, 1), (43, .getfield 236, 3), (46, .iload_n 1, 1), (47, .iload_n 2, 1), (48, .iastore, 1), (49, .aload_n 0, 1), (50, .getfield 239, 3), (53, .iload_n 1, 1), (54, .iload_n 2, 1), (55, .ifCond .ge 7, 3), (58, .iconst 0, 1), (59, .goto 4, 3), (62, .iload_n 3, 1), (63, .iastore, 1), (64, .iconst 0, 1), (65, .istore 4, 2), (67, .iload 4, 2), (69, .bipush 40, 2), (71, .if_icmp .ge 22, 3), (74, .aload_n 0, 1), (75, .getfield 242, 3), (78, .bipush 40, 2), (80, .iload_n 1, 1), (81, .imul, 1), (82, .iload 4, 2), (84, .iadd, 1), (85, .iconst 0, 1), (86, .iastore, 1), (87, .iinc 4 1, 3), (90, .goto (-23), 3), (93, .iconst 1, 1), (94, .ireturn, 1)]
theorem dtX11_sheet : dec_ok mX11_sheet.2.1 tX11_sheet = true := by decide +kernel
set_option maxHeartbeats 4000000 in
theorem l_X11_sheet {J : Wd} {s so n0 : Int32} (hs : inR s 0 3) : ∀ (n h : Nat) (x4 : Int32) (I2 : Wd), h ≤ 40 → 40 < h + n → x4 = nI h → I2 = (rset J 46 (rfil (40 * s.toNatClampNeg) (fun _ => 0) (J 46) h)) → Bd SyM mX11_sheet 2 67 [(4, .int x4), (0, .ref 0), (1, .int s), (2, .int so), (3, .int n0)] [] I2 (some (.int 1)) (rset J 46 (rfil (40 * s.toNatClampNeg) (fun _ => 0) (J 46) 40)) := by
  intro n
  induction n with
  | zero => intro h x4 I2 h1 h2; omega
  | succ n ih =>
    intro h x4 I2 h1 h2 e4 eW
    subst e4; subst eW
    refine b_iload (pc := 67) (i := 4) (dd dtX11_sheet 39 rfl) rfl ?_
    refine b_bipush (pc := 69) (v := 40) (dd dtX11_sheet 40 rfl) (by decide) ?_
    refine b_icmpL_ge (pc := 71) (tgt := 93) (dd dtX11_sheet 41 rfl) (by decide) (fun h71 => ?_) (fun h71 => ?_)
    · rw [show (40 : Int32) = nI 40 from rfl] at h71
      have he : h = 40 := Nat.le_antisymm h1 (ge_n h71 (by omega))
      subst he
      refine b_ic1 (pc := 93) (dd dtX11_sheet 53 rfl) ?_
      exact b_eq (b_iret (dd dtX11_sheet 54 rfl) rfl) rfl rfl
    · rw [show (40 : Int32) = nI 40 from rfl] at h71
      have hlt : h < 40 := lt_n h71 (by omega) (by omega)
      refine b_aload_n (pc := 74) (i := 0) (dd dtX11_sheet 42 rfl) rfl rfl ?_
      refine b_geta (pc := 75) (dd dtX11_sheet 43 rfl) fwX11_242 pM_0 rM_0_75 ?_
      refine b_bipush (pc := 78) (v := 40) (dd dtX11_sheet 44 rfl) (by decide) ?_
      refine b_iload_n (pc := 80) (i := 1) (dd dtX11_sheet 45 rfl) rfl rfl ?_
      refine b_imul (pc := 81) (dd dtX11_sheet 46 rfl) ?_
      refine b_iload (pc := 82) (i := 4) (dd dtX11_sheet 47 rfl) rfl ?_
      refine b_iadd (pc := 84) (dd dtX11_sheet 48 rfl) ?_
      refine b_ic0 (pc := 85) (dd dtX11_sheet 49 rfl) ?_
      refine b_iast (pc := 86) (dd dtX11_sheet 50 rfl) pM_46 (vx40 hs hlt) ?_
      refine b_iinc1 (pc := 87) (i := 4) (lv' := [(4, _), (0, _), (1, _), (2, _), (3, _)]) (dd dtX11_sheet 51 rfl) rfl (Nat.le_of_ble_eq_true rfl) rfl ?_
      refine b_goto (pc := 90) (tgt := 67) (dd dtX11_sheet 52 rfl) (by decide) ?_
      rw [nI_1]
      refine ih (h + 1) _ _ hlt (by omega) rfl ?_
      · rw [cx40 hs hlt, ist_rset, rfil_s rfl]
set_option maxHeartbeats 4000000 in
theorem c_X11_sheet {I : Wd} {s so n : Int32} : Cal SyM mX11_sheet 2 [.ref 0, .int s, .int so, .int n] I (some (.int (mSheetV s so n))) (if mSheetP s so n then mBegin I s.toNatClampNeg so n else I) := by
  refine Cal.of (by decide) (Nat.le_of_ble_eq_true rfl) ?_
  show Bd _ _ _ _ [(0, _), (1, _), (2, _), (3, _)] _ _ _ _
  refine b_aload_n (pc := 0) (i := 0) (dd dtX11_sheet 0 rfl) rfl rfl ?_
  refine b_iload_n (pc := 1) (i := 1) (dd dtX11_sheet 1 rfl) rfl rfl ?_
  refine b_invV (pc := 2) (dd dtX11_sheet 2 rfl) mlX11_297 mvX11_isSheet miX11_isSheet (c_X11_isSheet) oM_0 rfl rfl (by decide) (Nat.le_of_ble_eq_true rfl) ?_
  refine b_ifb_eq (pc := 5) (tgt := 28) (dd dtX11_sheet 3 rfl) (by decide) (fun h5 => ?_) (fun h5 => ?_)
  · refine b_bipush (pc := 28) (v := -2) (dd dtX11_sheet 15 rfl) (by decide) ?_
    refine b_eq (b_iret (dd dtX11_sheet 16 rfl) rfl) ?_ ?_
    · (try clear hz); (try clear hz0); (try clear hy); (try clear hy0); first | contradiction | simp [inR, mSheetV, mSheetP, -Int32.not_lt, -Int32.not_le, *]
    · (try clear hz); (try clear hz0); (try clear hy); (try clear hy0); first | contradiction | simp [inR, mSheetV, mSheetP, -Int32.not_lt, -Int32.not_le, *]
  · refine b_aload_n (pc := 8) (i := 0) (dd dtX11_sheet 4 rfl) rfl rfl ?_
    refine b_iload_n (pc := 9) (i := 2) (dd dtX11_sheet 5 rfl) rfl rfl ?_
    refine b_icm1 (pc := 10) (dd dtX11_sheet 6 rfl) ?_
    refine b_ic2 (pc := 11) (dd dtX11_sheet 7 rfl) ?_
    refine b_invV (pc := 12) (dd dtX11_sheet 8 rfl) mlX11_1 mvX11_in miX11_in (c_X11_in) oM_0 rfl rfl (by decide) (Nat.le_of_ble_eq_true rfl) ?_
    refine b_ifb_eq (pc := 15) (tgt := 28) (dd dtX11_sheet 9 rfl) (by decide) (fun h15 => ?_) (fun h15 => ?_)
    · refine b_bipush (pc := 28) (v := -2) (dd dtX11_sheet 15 rfl) (by decide) ?_
      refine b_eq (b_iret (dd dtX11_sheet 16 rfl) rfl) ?_ ?_
      · (try clear hz); (try clear hz0); (try clear hy); (try clear hy0); first | contradiction | simp [inR, mSheetV, mSheetP, -Int32.not_lt, -Int32.not_le, *]
      · (try clear hz); (try clear hz0); (try clear hy); (try clear hy0); first | contradiction | simp [inR, mSheetV, mSheetP, -Int32.not_lt, -Int32.not_le, *]
    · refine b_iload_n (pc := 18) (i := 2) (dd dtX11_sheet 10 rfl) rfl rfl ?_
      refine b_if_lt (pc := 19) (tgt := 31) (dd dtX11_sheet 11 rfl) (by decide) (fun h19 => ?_) (fun h19 => ?_)
      · refine b_iload_n (pc := 31) (i := 2) (dd dtX11_sheet 17 rfl) rfl rfl ?_
        refine b_if_lt (pc := 32) (tgt := 42) (dd dtX11_sheet 18 rfl) (by decide) (fun h32 => ?_) (fun h32 => ?_)
        · refine b_aload_n (pc := 42) (i := 0) (dd dtX11_sheet 23 rfl) rfl rfl ?_
          refine b_geta (pc := 43) (dd dtX11_sheet 24 rfl) fwX11_236 pM_0 rM_0_73 ?_
          refine b_iload_n (pc := 46) (i := 1) (dd dtX11_sheet 25 rfl) rfl rfl ?_
          refine b_iload_n (pc := 47) (i := 2) (dd dtX11_sheet 26 rfl) rfl rfl ?_
          refine b_iast (pc := 48) (dd dtX11_sheet 27 rfl) pM_44 (vs4 h5) ?_
          refine b_aload_n (pc := 49) (i := 0) (dd dtX11_sheet 28 rfl) rfl rfl ?_
          refine b_geta (pc := 50) (dd dtX11_sheet 29 rfl) fwX11_239 pM_0 rM_0_74 ?_
          refine b_iload_n (pc := 53) (i := 1) (dd dtX11_sheet 30 rfl) rfl rfl ?_
          refine b_iload_n (pc := 54) (i := 2) (dd dtX11_sheet 31 rfl) rfl rfl ?_
          refine b_ifL_ge (pc := 55) (tgt := 62) (dd dtX11_sheet 32 rfl) (by decide) (fun h55 => ?_) (fun h55 => ?_)
          · refine b_iload_n (pc := 62) (i := 3) (dd dtX11_sheet 35 rfl) rfl rfl ?_
            refine b_iast (pc := 63) (dd dtX11_sheet 36 rfl) pM_45 (vs4 h5) ?_
            refine b_ic0 (pc := 64) (dd dtX11_sheet 37 rfl) ?_
            refine b_istore (pc := 65) (i := 4) (lv' := [(4, _), (0, _), (1, _), (2, _), (3, _)]) (dd dtX11_sheet 38 rfl) (Nat.le_of_ble_eq_true rfl) rfl ?_
            first
            | contradiction
            | (rw [show mSheetV s so n = 1 by simp [mSheetV, inR, -Int32.not_lt, -Int32.not_le, *], if_pos (show mSheetP s so n by simp [mSheetP, inR, -Int32.not_lt, -Int32.not_le, *])]
               refine b_eq (l_X11_sheet h5 41 0 _ _ (Nat.zero_le _) (by omega) rfl (by rw [rfil_0, rset_id])) rfl ?_
               unfold mBegin
               simp (disch := decide) only [ist_ne]
               first | rw [if_pos (by assumption)] | rw [if_neg (by assumption)])
          · refine b_ic0 (pc := 58) (dd dtX11_sheet 33 rfl) ?_
            refine b_goto (pc := 59) (tgt := 63) (dd dtX11_sheet 34 rfl) (by decide) ?_
            refine b_iast (pc := 63) (dd dtX11_sheet 36 rfl) pM_45 (vs4 h5) ?_
            refine b_ic0 (pc := 64) (dd dtX11_sheet 37 rfl) ?_
            refine b_istore (pc := 65) (i := 4) (lv' := [(4, _), (0, _), (1, _), (2, _), (3, _)]) (dd dtX11_sheet 38 rfl) (Nat.le_of_ble_eq_true rfl) rfl ?_
            first
            | contradiction
            | (rw [show mSheetV s so n = 1 by simp [mSheetV, inR, -Int32.not_lt, -Int32.not_le, *], if_pos (show mSheetP s so n by simp [mSheetP, inR, -Int32.not_lt, -Int32.not_le, *])]
               refine b_eq (l_X11_sheet h5 41 0 _ _ (Nat.zero_le _) (by omega) rfl (by rw [rfil_0, rset_id])) rfl ?_
               unfold mBegin
               simp (disch := decide) only [ist_ne]
               first | rw [if_pos (by assumption)] | rw [if_neg (by assumption)])
        · refine b_iload_n (pc := 35) (i := 3) (dd dtX11_sheet 19 rfl) rfl rfl ?_
          refine b_ifL_ge (pc := 36) (tgt := 42) (dd dtX11_sheet 20 rfl) (by decide) (fun h36 => ?_) (fun h36 => ?_)
          · refine b_aload_n (pc := 42) (i := 0) (dd dtX11_sheet 23 rfl) rfl rfl ?_
            refine b_geta (pc := 43) (dd dtX11_sheet 24 rfl) fwX11_236 pM_0 rM_0_73 ?_
            refine b_iload_n (pc := 46) (i := 1) (dd dtX11_sheet 25 rfl) rfl rfl ?_
            refine b_iload_n (pc := 47) (i := 2) (dd dtX11_sheet 26 rfl) rfl rfl ?_
            refine b_iast (pc := 48) (dd dtX11_sheet 27 rfl) pM_44 (vs4 h5) ?_
            refine b_aload_n (pc := 49) (i := 0) (dd dtX11_sheet 28 rfl) rfl rfl ?_
            refine b_geta (pc := 50) (dd dtX11_sheet 29 rfl) fwX11_239 pM_0 rM_0_74 ?_
            refine b_iload_n (pc := 53) (i := 1) (dd dtX11_sheet 30 rfl) rfl rfl ?_
            refine b_iload_n (pc := 54) (i := 2) (dd dtX11_sheet 31 rfl) rfl rfl ?_
            refine b_ifL_ge (pc := 55) (tgt := 62) (dd dtX11_sheet 32 rfl) (by decide) (fun h55 => ?_) (fun h55 => ?_)
            · refine b_iload_n (pc := 62) (i := 3) (dd dtX11_sheet 35 rfl) rfl rfl ?_
              refine b_iast (pc := 63) (dd dtX11_sheet 36 rfl) pM_45 (vs4 h5) ?_
              refine b_ic0 (pc := 64) (dd dtX11_sheet 37 rfl) ?_
              refine b_istore (pc := 65) (i := 4) (lv' := [(4, _), (0, _), (1, _), (2, _), (3, _)]) (dd dtX11_sheet 38 rfl) (Nat.le_of_ble_eq_true rfl) rfl ?_
              first
              | contradiction
              | (rw [show mSheetV s so n = 1 by simp [mSheetV, inR, -Int32.not_lt, -Int32.not_le, *], if_pos (show mSheetP s so n by simp [mSheetP, inR, -Int32.not_lt, -Int32.not_le, *])]
                 refine b_eq (l_X11_sheet h5 41 0 _ _ (Nat.zero_le _) (by omega) rfl (by rw [rfil_0, rset_id])) rfl ?_
                 unfold mBegin
                 simp (disch := decide) only [ist_ne]
                 first | rw [if_pos (by assumption)] | rw [if_neg (by assumption)])
            · refine b_ic0 (pc := 58) (dd dtX11_sheet 33 rfl) ?_
              refine b_goto (pc := 59) (tgt := 63) (dd dtX11_sheet 34 rfl) (by decide) ?_
              refine b_iast (pc := 63) (dd dtX11_sheet 36 rfl) pM_45 (vs4 h5) ?_
              refine b_ic0 (pc := 64) (dd dtX11_sheet 37 rfl) ?_
              refine b_istore (pc := 65) (i := 4) (lv' := [(4, _), (0, _), (1, _), (2, _), (3, _)]) (dd dtX11_sheet 38 rfl) (Nat.le_of_ble_eq_true rfl) rfl ?_
              first
              | contradiction
              | (rw [show mSheetV s so n = 1 by simp [mSheetV, inR, -Int32.not_lt, -Int32.not_le, *], if_pos (show mSheetP s so n by simp [mSheetP, inR, -Int32.not_lt, -Int32.not_le, *])]
                 refine b_eq (l_X11_sheet h5 41 0 _ _ (Nat.zero_le _) (by omega) rfl (by rw [rfil_0, rset_id])) rfl ?_
                 unfold mBegin
                 simp (disch := decide) only [ist_ne]
                 first | rw [if_pos (by assumption)] | rw [if_neg (by assumption)])
          · refine b_bipush (pc := 39) (v := -14) (dd dtX11_sheet 21 rfl) (by decide) ?_
            refine b_eq (b_iret (dd dtX11_sheet 22 rfl) rfl) ?_ ?_
            · (try clear hz); (try clear hz0); (try clear hy); (try clear hy0); first | contradiction | simp [inR, mSheetV, mSheetP, -Int32.not_lt, -Int32.not_le, *]
            · (try clear hz); (try clear hz0); (try clear hy); (try clear hy0); first | contradiction | simp [inR, mSheetV, mSheetP, -Int32.not_lt, -Int32.not_le, *]
      · refine b_iload_n (pc := 22) (i := 3) (dd dtX11_sheet 12 rfl) rfl rfl ?_
        refine b_bipush (pc := 23) (v := 40) (dd dtX11_sheet 13 rfl) (by decide) ?_
        refine b_icmpL_le (pc := 25) (tgt := 31) (dd dtX11_sheet 14 rfl) (by decide) (fun h25 => ?_) (fun h25 => ?_)
        · refine b_iload_n (pc := 31) (i := 2) (dd dtX11_sheet 17 rfl) rfl rfl ?_
          refine b_if_lt (pc := 32) (tgt := 42) (dd dtX11_sheet 18 rfl) (by decide) (fun h32 => ?_) (fun h32 => ?_)
          · refine b_aload_n (pc := 42) (i := 0) (dd dtX11_sheet 23 rfl) rfl rfl ?_
            refine b_geta (pc := 43) (dd dtX11_sheet 24 rfl) fwX11_236 pM_0 rM_0_73 ?_
            refine b_iload_n (pc := 46) (i := 1) (dd dtX11_sheet 25 rfl) rfl rfl ?_
            refine b_iload_n (pc := 47) (i := 2) (dd dtX11_sheet 26 rfl) rfl rfl ?_
            refine b_iast (pc := 48) (dd dtX11_sheet 27 rfl) pM_44 (vs4 h5) ?_
            refine b_aload_n (pc := 49) (i := 0) (dd dtX11_sheet 28 rfl) rfl rfl ?_
            refine b_geta (pc := 50) (dd dtX11_sheet 29 rfl) fwX11_239 pM_0 rM_0_74 ?_
            refine b_iload_n (pc := 53) (i := 1) (dd dtX11_sheet 30 rfl) rfl rfl ?_
            refine b_iload_n (pc := 54) (i := 2) (dd dtX11_sheet 31 rfl) rfl rfl ?_
            refine b_ifL_ge (pc := 55) (tgt := 62) (dd dtX11_sheet 32 rfl) (by decide) (fun h55 => ?_) (fun h55 => ?_)
            · refine b_iload_n (pc := 62) (i := 3) (dd dtX11_sheet 35 rfl) rfl rfl ?_
              refine b_iast (pc := 63) (dd dtX11_sheet 36 rfl) pM_45 (vs4 h5) ?_
              refine b_ic0 (pc := 64) (dd dtX11_sheet 37 rfl) ?_
              refine b_istore (pc := 65) (i := 4) (lv' := [(4, _), (0, _), (1, _), (2, _), (3, _)]) (dd dtX11_sheet 38 rfl) (Nat.le_of_ble_eq_true rfl) rfl ?_
              first
              | contradiction
              | (rw [show mSheetV s so n = 1 by simp [mSheetV, inR, -Int32.not_lt, -Int32.not_le, *], if_pos (show mSheetP s so n by simp [mSheetP, inR, -Int32.not_lt, -Int32.not_le, *])]
                 refine b_eq (l_X11_sheet h5 41 0 _ _ (Nat.zero_le _) (by omega) rfl (by rw [rfil_0, rset_id])) rfl ?_
                 unfold mBegin
                 simp (disch := decide) only [ist_ne]
                 first | rw [if_pos (by assumption)] | rw [if_neg (by assumption)])
            · refine b_ic0 (pc := 58) (dd dtX11_sheet 33 rfl) ?_
              refine b_goto (pc := 59) (tgt := 63) (dd dtX11_sheet 34 rfl) (by decide) ?_
              refine b_iast (pc := 63) (dd dtX11_sheet 36 rfl) pM_45 (vs4 h5) ?_
              refine b_ic0 (pc := 64) (dd dtX11_sheet 37 rfl) ?_
              refine b_istore (pc := 65) (i := 4) (lv' := [(4, _), (0, _), (1, _), (2, _), (3, _)]) (dd dtX11_sheet 38 rfl) (Nat.le_of_ble_eq_true rfl) rfl ?_
              first
              | contradiction
              | (rw [show mSheetV s so n = 1 by simp [mSheetV, inR, -Int32.not_lt, -Int32.not_le, *], if_pos (show mSheetP s so n by simp [mSheetP, inR, -Int32.not_lt, -Int32.not_le, *])]
                 refine b_eq (l_X11_sheet h5 41 0 _ _ (Nat.zero_le _) (by omega) rfl (by rw [rfil_0, rset_id])) rfl ?_
                 unfold mBegin
                 simp (disch := decide) only [ist_ne]
                 first | rw [if_pos (by assumption)] | rw [if_neg (by assumption)])
          · refine b_iload_n (pc := 35) (i := 3) (dd dtX11_sheet 19 rfl) rfl rfl ?_
            refine b_ifL_ge (pc := 36) (tgt := 42) (dd dtX11_sheet 20 rfl) (by decide) (fun h36 => ?_) (fun h36 => ?_)
            · refine b_aload_n (pc := 42) (i := 0) (dd dtX11_sheet 23 rfl) rfl rfl ?_
              refine b_geta (pc := 43) (dd dtX11_sheet 24 rfl) fwX11_236 pM_0 rM_0_73 ?_
              refine b_iload_n (pc := 46) (i := 1) (dd dtX11_sheet 25 rfl) rfl rfl ?_
              refine b_iload_n (pc := 47) (i := 2) (dd dtX11_sheet 26 rfl) rfl rfl ?_
              refine b_iast (pc := 48) (dd dtX11_sheet 27 rfl) pM_44 (vs4 h5) ?_
              refine b_aload_n (pc := 49) (i := 0) (dd dtX11_sheet 28 rfl) rfl rfl ?_
              refine b_geta (pc := 50) (dd dtX11_sheet 29 rfl) fwX11_239 pM_0 rM_0_74 ?_
              refine b_iload_n (pc := 53) (i := 1) (dd dtX11_sheet 30 rfl) rfl rfl ?_
              refine b_iload_n (pc := 54) (i := 2) (dd dtX11_sheet 31 rfl) rfl rfl ?_
              refine b_ifL_ge (pc := 55) (tgt := 62) (dd dtX11_sheet 32 rfl) (by decide) (fun h55 => ?_) (fun h55 => ?_)
              · refine b_iload_n (pc := 62) (i := 3) (dd dtX11_sheet 35 rfl) rfl rfl ?_
                refine b_iast (pc := 63) (dd dtX11_sheet 36 rfl) pM_45 (vs4 h5) ?_
                refine b_ic0 (pc := 64) (dd dtX11_sheet 37 rfl) ?_
                refine b_istore (pc := 65) (i := 4) (lv' := [(4, _), (0, _), (1, _), (2, _), (3, _)]) (dd dtX11_sheet 38 rfl) (Nat.le_of_ble_eq_true rfl) rfl ?_
                first
                | contradiction
                | (rw [show mSheetV s so n = 1 by simp [mSheetV, inR, -Int32.not_lt, -Int32.not_le, *], if_pos (show mSheetP s so n by simp [mSheetP, inR, -Int32.not_lt, -Int32.not_le, *])]
                   refine b_eq (l_X11_sheet h5 41 0 _ _ (Nat.zero_le _) (by omega) rfl (by rw [rfil_0, rset_id])) rfl ?_
                   unfold mBegin
                   simp (disch := decide) only [ist_ne]
                   first | rw [if_pos (by assumption)] | rw [if_neg (by assumption)])
              · refine b_ic0 (pc := 58) (dd dtX11_sheet 33 rfl) ?_
                refine b_goto (pc := 59) (tgt := 63) (dd dtX11_sheet 34 rfl) (by decide) ?_
                refine b_iast (pc := 63) (dd dtX11_sheet 36 rfl) pM_45 (vs4 h5) ?_
                refine b_ic0 (pc := 64) (dd dtX11_sheet 37 rfl) ?_
                refine b_istore (pc := 65) (i := 4) (lv' := [(4, _), (0, _), (1, _), (2, _), (3, _)]) (dd dtX11_sheet 38 rfl) (Nat.le_of_ble_eq_true rfl) rfl ?_
                first
                | contradiction
                | (rw [show mSheetV s so n = 1 by simp [mSheetV, inR, -Int32.not_lt, -Int32.not_le, *], if_pos (show mSheetP s so n by simp [mSheetP, inR, -Int32.not_lt, -Int32.not_le, *])]
                   refine b_eq (l_X11_sheet h5 41 0 _ _ (Nat.zero_le _) (by omega) rfl (by rw [rfil_0, rset_id])) rfl ?_
                   unfold mBegin
                   simp (disch := decide) only [ist_ne]
                   first | rw [if_pos (by assumption)] | rw [if_neg (by assumption)])
            · refine b_bipush (pc := 39) (v := -14) (dd dtX11_sheet 21 rfl) (by decide) ?_
              refine b_eq (b_iret (dd dtX11_sheet 22 rfl) rfl) ?_ ?_
              · (try clear hz); (try clear hz0); (try clear hy); (try clear hy0); first | contradiction | simp [inR, mSheetV, mSheetP, -Int32.not_lt, -Int32.not_le, *]
              · (try clear hz); (try clear hz0); (try clear hy); (try clear hy0); first | contradiction | simp [inR, mSheetV, mSheetP, -Int32.not_lt, -Int32.not_le, *]
        · refine b_bipush (pc := 28) (v := -2) (dd dtX11_sheet 15 rfl) (by decide) ?_
          refine b_eq (b_iret (dd dtX11_sheet 16 rfl) rfl) ?_ ?_
          · (try clear hz); (try clear hz0); (try clear hy); (try clear hy0); first | contradiction | simp [inR, mSheetV, mSheetP, -Int32.not_lt, -Int32.not_le, *]
          · (try clear hz); (try clear hz0); (try clear hy); (try clear hy0); first | contradiction | simp [inR, mSheetV, mSheetP, -Int32.not_lt, -Int32.not_le, *]
def tX11_cell : List (Nat × Instr × Nat) := [(0, .aload_n 0, 1), (1, .iload_n 1, 1), (2, .invokevirtual 297, 3), (5, .ifCond .ne 6, 3), (8, .bipush (-2), 2), (10, .ireturn, 1), (11, .aload_n 0, 1), (12, .getfield 236, 3), (15, .iload_n 1, 1), (16, .iaload, 1), (17, .ifCond .ge 6, 3), (20, .bipush (-11), 2), (22, .ireturn, 1), (23, .aload_n 0, 1), (24, .iload_n 2, 1), (25, .iconst 0, 1), (26, .aload_n 0, 1), (27, .getfield 239, 3), (30, .iload_n 1, 1), (31, .iaload, 1), (32, .iconst 1, 1), (33, .isub, 1), (34, .invokevirtual 1, 3), (37, .ifCond .ne 6, 3), (40, .bipush (-12), 2), (42, .ireturn, 1), (43, .aload_n 0, 1), (44, .getfield 242, 3), (47, .bipush 40, 2), (49, .iload_n 1, 1), (50, .imul, 1), (51, .iload_n 2, 1), (52, .iadd, 1), (53, .aload_n 0, 1), (54, .getfield 236, 3), (57, .iload_n 1, 1), (58, .iaload, 1), (59, .ifCond .ne 8, 3), (62, .iload_n 3, 1), (63, .i2b, 1), (64, .goto 19, 3), (67, .aload_n 0, 1), (68, .getfield 236, 3), (71, .iload_n 1, 1), (72, .iaload, 1), (73, .iconst 1, 1), (74, .if_icmp .ne 8, 3), (77, .iload_n 3, 1), (78, .i2s, 1), (79, .goto 4, 3), (82, .iload_n 3, 1), (83, .iastore, 1), (84, .iconst 1, 1), (85, .ireturn, 1)]
theorem dtX11_cell : dec_ok mX11_cell.2.1 tX11_cell = true := by decide +kernel
set_option maxHeartbeats 4000000 in
theorem c_X11_cell {I : Wd} {s i v : Int32} {z : Nat} (hz0 : inR s 0 3 → I 45 s.toNatClampNeg = nI z ∧ z ≤ 40) : Cal SyM mX11_cell 2 [.ref 0, .int s, .int i, .int v] I (some (.int (vCell (I 44 s.toNatClampNeg < 0) z s i))) (if inR s 0 3 ∧ ¬ I 44 s.toNatClampNeg < 0 ∧ inR i 0 (nI z - 1) then ist I 46 (40 * s.toNatClampNeg + i.toNatClampNeg) (sNar (I 44 s.toNatClampNeg) v) else I) := by
  refine Cal.of (by decide) (Nat.le_of_ble_eq_true rfl) ?_
  show Bd _ _ _ _ [(0, _), (1, _), (2, _), (3, _)] _ _ _ _
  refine b_aload_n (pc := 0) (i := 0) (dd dtX11_cell 0 rfl) rfl rfl ?_
  refine b_iload_n (pc := 1) (i := 1) (dd dtX11_cell 1 rfl) rfl rfl ?_
  refine b_invV (pc := 2) (dd dtX11_cell 2 rfl) mlX11_297 mvX11_isSheet miX11_isSheet (c_X11_isSheet) oM_0 rfl rfl (by decide) (Nat.le_of_ble_eq_true rfl) ?_
  refine b_ifb_ne (pc := 5) (tgt := 11) (dd dtX11_cell 3 rfl) (by decide) (fun h5 => ?_) (fun h5 => ?_)
  · obtain ⟨hz, hz2⟩ := hz0 h5
    clear hz0
    refine b_aload_n (pc := 11) (i := 0) (dd dtX11_cell 6 rfl) rfl rfl ?_
    refine b_geta (pc := 12) (dd dtX11_cell 7 rfl) fwX11_236 pM_0 rM_0_73 ?_
    refine b_iload_n (pc := 15) (i := 1) (dd dtX11_cell 8 rfl) rfl rfl ?_
    refine b_iald (pc := 16) (dd dtX11_cell 9 rfl) pM_44 (vs4 h5) ?_
    refine b_ifL_ge (pc := 17) (tgt := 23) (dd dtX11_cell 10 rfl) (by decide) (fun h17 => ?_) (fun h17 => ?_)
    · refine b_aload_n (pc := 23) (i := 0) (dd dtX11_cell 13 rfl) rfl rfl ?_
      refine b_iload_n (pc := 24) (i := 2) (dd dtX11_cell 14 rfl) rfl rfl ?_
      refine b_ic0 (pc := 25) (dd dtX11_cell 15 rfl) ?_
      refine b_aload_n (pc := 26) (i := 0) (dd dtX11_cell 16 rfl) rfl rfl ?_
      refine b_geta (pc := 27) (dd dtX11_cell 17 rfl) fwX11_239 pM_0 rM_0_74 ?_
      refine b_iload_n (pc := 30) (i := 1) (dd dtX11_cell 18 rfl) rfl rfl ?_
      refine b_iald (pc := 31) (dd dtX11_cell 19 rfl) pM_45 (vs4 h5) ?_
      rw [hz]
      refine b_ic1 (pc := 32) (dd dtX11_cell 20 rfl) ?_
      refine b_isub (pc := 33) (dd dtX11_cell 21 rfl) ?_
      refine b_invV (pc := 34) (dd dtX11_cell 22 rfl) mlX11_1 mvX11_in miX11_in (c_X11_in) oM_0 rfl rfl (by decide) (Nat.le_of_ble_eq_true rfl) ?_
      refine b_ifb_ne (pc := 37) (tgt := 43) (dd dtX11_cell 23 rfl) (by decide) (fun h37 => ?_) (fun h37 => ?_)
      · refine b_aload_n (pc := 43) (i := 0) (dd dtX11_cell 26 rfl) rfl rfl ?_
        refine b_geta (pc := 44) (dd dtX11_cell 27 rfl) fwX11_242 pM_0 rM_0_75 ?_
        refine b_bipush (pc := 47) (v := 40) (dd dtX11_cell 28 rfl) (by decide) ?_
        refine b_iload_n (pc := 49) (i := 1) (dd dtX11_cell 29 rfl) rfl rfl ?_
        refine b_imul (pc := 50) (dd dtX11_cell 30 rfl) ?_
        refine b_iload_n (pc := 51) (i := 2) (dd dtX11_cell 31 rfl) rfl rfl ?_
        refine b_iadd (pc := 52) (dd dtX11_cell 32 rfl) ?_
        refine b_aload_n (pc := 53) (i := 0) (dd dtX11_cell 33 rfl) rfl rfl ?_
        refine b_geta (pc := 54) (dd dtX11_cell 34 rfl) fwX11_236 pM_0 rM_0_73 ?_
        refine b_iload_n (pc := 57) (i := 1) (dd dtX11_cell 35 rfl) rfl rfl ?_
        refine b_iald (pc := 58) (dd dtX11_cell 36 rfl) pM_44 (vs4 h5) ?_
        refine b_if_ne (pc := 59) (tgt := 67) (dd dtX11_cell 37 rfl) (by decide) (fun h59 => ?_) (fun h59 => ?_)
        · refine b_aload_n (pc := 67) (i := 0) (dd dtX11_cell 41 rfl) rfl rfl ?_
          refine b_geta (pc := 68) (dd dtX11_cell 42 rfl) fwX11_236 pM_0 rM_0_73 ?_
          refine b_iload_n (pc := 71) (i := 1) (dd dtX11_cell 43 rfl) rfl rfl ?_
          refine b_iald (pc := 72) (dd dtX11_cell 44 rfl) pM_44 (vs4 h5) ?_
          refine b_ic1 (pc := 73) (dd dtX11_cell 45 rfl) ?_
          refine b_icmp_ne (pc := 74) (tgt := 82) (dd dtX11_cell 46 rfl) (by decide) (fun h74 => ?_) (fun h74 => ?_)
          · refine b_iload_n (pc := 82) (i := 3) (dd dtX11_cell 50 rfl) rfl rfl ?_
            refine b_iast (pc := 83) (dd dtX11_cell 51 rfl) pM_46 ((ix40i h5 h37 hz2).1) ?_
            refine b_ic1 (pc := 84) (dd dtX11_cell 52 rfl) ?_
            refine b_eq (b_iret (dd dtX11_cell 53 rfl) rfl) ?_ ?_
            · (try clear hz); simp [inR, vCell, -Int32.not_lt, -Int32.not_le, *]
            · rw [if_pos ⟨h5, h17, h37⟩, (ix40i h5 h37 hz2).2]; clear hz; simp [sNar, *]
          · refine b_iload_n (pc := 77) (i := 3) (dd dtX11_cell 47 rfl) rfl rfl ?_
            refine b_i2s (pc := 78) (dd dtX11_cell 48 rfl) ?_
            refine b_goto (pc := 79) (tgt := 83) (dd dtX11_cell 49 rfl) (by decide) ?_
            refine b_iast (pc := 83) (dd dtX11_cell 51 rfl) pM_46 ((ix40i h5 h37 hz2).1) ?_
            refine b_ic1 (pc := 84) (dd dtX11_cell 52 rfl) ?_
            refine b_eq (b_iret (dd dtX11_cell 53 rfl) rfl) ?_ ?_
            · (try clear hz); simp [inR, vCell, -Int32.not_lt, -Int32.not_le, *]
            · rw [if_pos ⟨h5, h17, h37⟩, (ix40i h5 h37 hz2).2]; clear hz; simp [sNar, *]
        · refine b_iload_n (pc := 62) (i := 3) (dd dtX11_cell 38 rfl) rfl rfl ?_
          refine b_i2b (pc := 63) (dd dtX11_cell 39 rfl) ?_
          refine b_goto (pc := 64) (tgt := 83) (dd dtX11_cell 40 rfl) (by decide) ?_
          refine b_iast (pc := 83) (dd dtX11_cell 51 rfl) pM_46 ((ix40i h5 h37 hz2).1) ?_
          refine b_ic1 (pc := 84) (dd dtX11_cell 52 rfl) ?_
          refine b_eq (b_iret (dd dtX11_cell 53 rfl) rfl) ?_ ?_
          · (try clear hz); simp [inR, vCell, -Int32.not_lt, -Int32.not_le, *]
          · rw [if_pos ⟨h5, h17, h37⟩, (ix40i h5 h37 hz2).2]; clear hz; simp [sNar, *]
      · refine b_bipush (pc := 40) (v := -12) (dd dtX11_cell 24 rfl) (by decide) ?_
        refine b_eq (b_iret (dd dtX11_cell 25 rfl) rfl) ?_ ?_
        · (try clear hz); (try clear hz0); (try clear hy); (try clear hy0); first | contradiction | simp [inR, vCell, -Int32.not_lt, -Int32.not_le, *]
        · (try clear hz); (try clear hz0); (try clear hy); (try clear hy0); first | contradiction | simp [inR, vCell, -Int32.not_lt, -Int32.not_le, *]
    · refine b_bipush (pc := 20) (v := -11) (dd dtX11_cell 11 rfl) (by decide) ?_
      refine b_eq (b_iret (dd dtX11_cell 12 rfl) rfl) ?_ ?_
      · (try clear hz); (try clear hz0); (try clear hy); (try clear hy0); first | contradiction | simp [inR, vCell, -Int32.not_lt, -Int32.not_le, *]
      · (try clear hz); (try clear hz0); (try clear hy); (try clear hy0); first | contradiction | simp [inR, vCell, -Int32.not_lt, -Int32.not_le, *]
  · refine b_bipush (pc := 8) (v := -2) (dd dtX11_cell 4 rfl) (by decide) ?_
    refine b_eq (b_iret (dd dtX11_cell 5 rfl) rfl) ?_ ?_
    · (try clear hz); (try clear hz0); (try clear hy); (try clear hy0); first | contradiction | simp [inR, vCell, -Int32.not_lt, -Int32.not_le, *]
    · (try clear hz); (try clear hz0); (try clear hy); (try clear hy0); first | contradiction | simp [inR, vCell, -Int32.not_lt, -Int32.not_le, *]
theorem ixc {s i n : Int32} {z : Nat} (h : inR s 0 3) (hn : ¬ n < 0) (h1 : ¬ i < 0) (h2 : ¬ nI z - n < i) (hz : z ≤ 40) {k : Nat} (hk : k < n.toNatClampNeg) : vp_in (40 * s + i + nI k) 160 ∧ (40 * s + i + nI k).toNatClampNeg = 40 * s.toNatClampNeg + i.toNatClampNeg + k := by
  have hc := cpy_in hn ⟨h1, h2⟩ hz
  obtain ⟨j, hj, e⟩ := nI_of h1
  have ec : i.toNatClampNeg = j := by rw [e]; exact nI_clamp hj
  rw [ec] at hc ⊢
  rw [e, ix40 h, nI_add]
  have := (sx h).2
  exact ⟨vpn rfl (by omega) (by decide), nI_clamp (by omega)⟩
def tX11_copy : List (Nat × Instr × Nat) := [(0, .aload_n 0, 1), (1, .iload_n 1, 1), (2, .invokevirtual 297, 3), (5, .ifCond .eq 11, 3), (8, .aload_n 0, 1), (9, .iload_n 3, 1), (10, .invokevirtual 297, 3), (13, .ifCond .ne 6, 3), (16, .bipush (-2), 2), (18, .ireturn, 1), (19, .aload_n 0, 1), (20, .getfield 236, 3), (23, .iload_n 1, 1), (24, .iaload, 1), (25, .ifCond .lt 12, 3), (28, .aload_n 0, 1), (29, .getfield 236, 3), (32, .iload_n 3, 1), (33, .iaload, 1), (34, .ifCond .ge 6, 3), (37, .bipush (-11), 2), (39, .ireturn, 1), (40, .aload_n 0, 1), (41, .getfield 236, 3), (44, .iload_n 1, 1), (45, .iaload, 1), (46, .aload_n 0, 1), (47, .getfield 236, 3), (50, .iload_n 3, 1), (51, .iaload, 1), (52, .if_icmp .eq 6, 3), (55, .bipush (-13), 2), (57, .ireturn, 1), (58, .iload 5, 2), (60, .ifCond .lt 39, 3), (63, .iload_n 2, 1), (64, .ifCond .lt 35, 3), (67, .iload 4, 2), (69, .ifCond .lt 30, 3), (72, .iload_n 2, 1), (73, .aload_n 0, 1), (74, .getfield 239, 3), (77, .iload_n 1, 1), (78, .iaload, 1), (79, .iload 5, 2), (81, .isub, 1), (82, .if_icmp .gt 17, 3), (85, .iload 4, 2), (87, .aload_n 0, 1), (88, .getfield 239, 3), (91, .iload_n 3, 1), (92, .iaload, 1), (93, .iload 5, 2), (95, .isub, 1), (96, .if_icmp .le 6, 3), (99, .bipush (-12), 2), (101, .ireturn, 1), (102, .iconst 0, 1), (103, .istore 6, 2), (105, .iload 6, 2), (107, .iload 5, 2), (109, .if_icmp .ge 30, 3), (112, .aload_n 0, 1), (113, .getfield 245, 3), (116, .iload 6, 2), (118, .aload_n 0, 1), (119, .getfield 242, 3), (122, .bipush 40, 2), (124, .iload_n 1, 1), (125, .imul, 1), (126, .iload_n 2, 1), (127, .iadd, 1), (128, .iload 6, 2), (130, .iadd, 1), (131, .iaload, 1), (132, .iastore, 1), (133, .iinc 6 1, 3), (136, .goto (-31), 3), (139, .iconst 0, 1), (140, .istore 6, 2), (142, .iload 6, 2), (144, .iload 5, 2), (146, .if_icmp .ge 31, 3), (149, .aload_n 0, 1), (150, .getfield 242, 3), (153, .bipush 40, 2), (155, .iload_n 3, 1), (156, .imul, 1), (157, .iload 4, 2), (159, .iadd, 1), (160, .iload 6, 2), (162, .iadd, 1), (163, .aload_n 0, 1), (164, .getfield 245, 3), (167, .iload 6, 2), (169, .iaload, 1), (170, .iastore, 1), (171, .iinc 6 1, 3), (174, .goto (-32), 3), (177, .iload 5, 2), (179, .ireturn, 1)]
theorem dtX11_copy : dec_ok mX11_copy.2.1 tX11_copy = true := by decide +kernel
set_option maxHeartbeats 4000000 in
theorem l2_X11_copy {J : Wd} {s i o j n0 : Int32} {z z2 N : Nat} (hs : inR s 0 3) (ho : inR o 0 3) (hn : ¬ n0 < 0) (h1i : ¬ i < 0) (h2i : ¬ nI z - n0 < i) (hz : z ≤ 40) (h1j : ¬ j < 0) (h2j : ¬ nI z2 - n0 < j) (hz2 : z2 ≤ 40) (hN : n0 = nI N) (hN2 : N ≤ 40) (hNc : n0.toNatClampNeg = N) : ∀ (n h : Nat) (x6 : Int32) (I2 : Wd), h ≤ N → N < h + n → x6 = nI h → I2 = (rset J 46 (rfil (40 * o.toNatClampNeg + j.toNatClampNeg) (J 47) (J 46) h)) → Bd SyM mX11_copy 2 142 [(6, .int x6), (0, .ref 0), (1, .int s), (2, .int i), (3, .int o), (4, .int j), (5, .int n0)] [] I2 (some (.int n0)) (rset J 46 (rfil (40 * o.toNatClampNeg + j.toNatClampNeg) (J 47) (J 46) N)) := by
  intro n
  induction n with
  | zero => intro h x6 I2 h1 h2; omega
  | succ n ih =>
    intro h x6 I2 h1 h2 e6 eW
    subst e6; subst eW
    refine b_iload (pc := 142) (i := 6) (dd dtX11_copy 80 rfl) rfl ?_
    refine b_iload (pc := 144) (i := 5) (dd dtX11_copy 81 rfl) rfl ?_
    refine b_icmpL_ge (pc := 146) (tgt := 177) (dd dtX11_copy 82 rfl) (by decide) (fun h146 => ?_) (fun h146 => ?_)
    · rw [hN] at h146
      have he : h = N := Nat.le_antisymm h1 (ge_n h146 (by omega))
      subst he
      refine b_iload (pc := 177) (i := 5) (dd dtX11_copy 99 rfl) rfl ?_
      exact b_eq (b_iret (dd dtX11_copy 100 rfl) rfl) rfl rfl
    · rw [hN] at h146
      have hlt : h < N := lt_n h146 (by omega) (by omega)
      refine b_aload_n (pc := 149) (i := 0) (dd dtX11_copy 83 rfl) rfl rfl ?_
      refine b_geta (pc := 150) (dd dtX11_copy 84 rfl) fwX11_242 pM_0 rM_0_75 ?_
      refine b_bipush (pc := 153) (v := 40) (dd dtX11_copy 85 rfl) (by decide) ?_
      refine b_iload_n (pc := 155) (i := 3) (dd dtX11_copy 86 rfl) rfl rfl ?_
      refine b_imul (pc := 156) (dd dtX11_copy 87 rfl) ?_
      refine b_iload (pc := 157) (i := 4) (dd dtX11_copy 88 rfl) rfl ?_
      refine b_iadd (pc := 159) (dd dtX11_copy 89 rfl) ?_
      refine b_iload (pc := 160) (i := 6) (dd dtX11_copy 90 rfl) rfl ?_
      refine b_iadd (pc := 162) (dd dtX11_copy 91 rfl) ?_
      refine b_aload_n (pc := 163) (i := 0) (dd dtX11_copy 92 rfl) rfl rfl ?_
      refine b_geta (pc := 164) (dd dtX11_copy 93 rfl) fwX11_245 pM_0 rM_0_76 ?_
      refine b_iload (pc := 167) (i := 6) (dd dtX11_copy 94 rfl) rfl ?_
      refine b_iald (pc := 169) (dd dtX11_copy 95 rfl) pM_47 (by rw [hN] at *; exact vpn rfl (show h < 40 by omega) (by decide)) ?_
      refine b_iast (pc := 170) (dd dtX11_copy 96 rfl) pM_46 ((ixc ho hn h1j h2j hz2 (hNc.symm ▸ hlt)).1) ?_
      refine b_iinc1 (pc := 171) (i := 6) (lv' := [(6, _), (0, _), (1, _), (2, _), (3, _), (4, _), (5, _)]) (dd dtX11_copy 97 rfl) rfl (Nat.le_of_ble_eq_true rfl) rfl ?_
      refine b_goto (pc := 174) (tgt := 142) (dd dtX11_copy 98 rfl) (by decide) ?_
      rw [nI_1]
      refine ih (h + 1) _ _ hlt (by omega) rfl ?_
      · rw [(ixc ho hn h1j h2j hz2 (hNc.symm ▸ hlt)).2, ist_rset, nI_clamp (show h < 2 ^ 31 by omega), rset_ne (by decide), rfil_s rfl]
def mCopyW (I : Wd) (s i o j : Nat) (N : Nat) : Wd := rset (rset I 47 (fil (fun k => I 46 (40 * s + i + k)) (I 47) N)) 46 (rfil (40 * o + j) (fil (fun k => I 46 (40 * s + i + k)) (I 47) N) (I 46) N)
set_option maxHeartbeats 4000000 in
theorem l1_X11_copy {J : Wd} {s i o j n0 : Int32} {z z2 N : Nat} (hs : inR s 0 3) (ho : inR o 0 3) (hn : ¬ n0 < 0) (h1i : ¬ i < 0) (h2i : ¬ nI z - n0 < i) (hz : z ≤ 40) (h1j : ¬ j < 0) (h2j : ¬ nI z2 - n0 < j) (hz2 : z2 ≤ 40) (hN : n0 = nI N) (hN2 : N ≤ 40) (hNc : n0.toNatClampNeg = N) : ∀ (n h : Nat) (x6 : Int32) (I2 : Wd), h ≤ N → N < h + n → x6 = nI h → I2 = (rset J 47 (fil (fun k => J 46 ((40 * s.toNatClampNeg + i.toNatClampNeg) + k)) (J 47) h)) → Bd SyM mX11_copy 2 105 [(6, .int x6), (0, .ref 0), (1, .int s), (2, .int i), (3, .int o), (4, .int j), (5, .int n0)] [] I2 (some (.int n0)) (mCopyW J s.toNatClampNeg i.toNatClampNeg o.toNatClampNeg j.toNatClampNeg N) := by
  intro n
  induction n with
  | zero => intro h x6 I2 h1 h2; omega
  | succ n ih =>
    intro h x6 I2 h1 h2 e6 eW
    subst e6; subst eW
    refine b_iload (pc := 105) (i := 6) (dd dtX11_copy 59 rfl) rfl ?_
    refine b_iload (pc := 107) (i := 5) (dd dtX11_copy 60 rfl) rfl ?_
    refine b_icmpL_ge (pc := 109) (tgt := 139) (dd dtX11_copy 61 rfl) (by decide) (fun h109 => ?_) (fun h109 => ?_)
    · rw [hN] at h109
      have he : h = N := Nat.le_antisymm h1 (ge_n h109 (by omega))
      subst he
      refine b_ic0 (pc := 139) (dd dtX11_copy 78 rfl) ?_
      refine b_istore (pc := 140) (i := 6) (lv' := [(6, _), (0, _), (1, _), (2, _), (3, _), (4, _), (5, _)]) (dd dtX11_copy 79 rfl) (Nat.le_of_ble_eq_true rfl) rfl ?_
      refine b_eq (l2_X11_copy hs ho hn h1i h2i hz h1j h2j hz2 hN hN2 hNc (h + 1) 0 _ _ (Nat.zero_le _) (by omega) rfl (by rw [rfil_0, rset_id])) rfl ?_
      unfold mCopyW
      simp (disch := decide) only [rset_ne, rset_eq]
    · rw [hN] at h109
      have hlt : h < N := lt_n h109 (by omega) (by omega)
      refine b_aload_n (pc := 112) (i := 0) (dd dtX11_copy 62 rfl) rfl rfl ?_
      refine b_geta (pc := 113) (dd dtX11_copy 63 rfl) fwX11_245 pM_0 rM_0_76 ?_
      refine b_iload (pc := 116) (i := 6) (dd dtX11_copy 64 rfl) rfl ?_
      refine b_aload_n (pc := 118) (i := 0) (dd dtX11_copy 65 rfl) rfl rfl ?_
      refine b_geta (pc := 119) (dd dtX11_copy 66 rfl) fwX11_242 pM_0 rM_0_75 ?_
      refine b_bipush (pc := 122) (v := 40) (dd dtX11_copy 67 rfl) (by decide) ?_
      refine b_iload_n (pc := 124) (i := 1) (dd dtX11_copy 68 rfl) rfl rfl ?_
      refine b_imul (pc := 125) (dd dtX11_copy 69 rfl) ?_
      refine b_iload_n (pc := 126) (i := 2) (dd dtX11_copy 70 rfl) rfl rfl ?_
      refine b_iadd (pc := 127) (dd dtX11_copy 71 rfl) ?_
      refine b_iload (pc := 128) (i := 6) (dd dtX11_copy 72 rfl) rfl ?_
      refine b_iadd (pc := 130) (dd dtX11_copy 73 rfl) ?_
      refine b_iald (pc := 131) (dd dtX11_copy 74 rfl) pM_46 ((ixc hs hn h1i h2i hz (hNc.symm ▸ hlt)).1) ?_
      refine b_iast (pc := 132) (dd dtX11_copy 75 rfl) pM_47 (vpn rfl (show h < 40 by omega) (by decide)) ?_
      refine b_iinc1 (pc := 133) (i := 6) (lv' := [(6, _), (0, _), (1, _), (2, _), (3, _), (4, _), (5, _)]) (dd dtX11_copy 76 rfl) rfl (Nat.le_of_ble_eq_true rfl) rfl ?_
      refine b_goto (pc := 136) (tgt := 105) (dd dtX11_copy 77 rfl) (by decide) ?_
      rw [nI_1]
      refine ih (h + 1) _ _ hlt (by omega) rfl ?_
      · rw [(ixc hs hn h1i h2i hz (hNc.symm ▸ hlt)).2, ist_rset, nI_clamp (show h < 2 ^ 31 by omega), rset_ne (by decide), fil_s rfl]
set_option maxHeartbeats 4000000 in
theorem c_X11_copy {I : Wd} {s i o j n0 : Int32} {z z2 : Nat} (hz0 : inR s 0 3 → I 45 s.toNatClampNeg = nI z ∧ z ≤ 40) (hy0 : inR o 0 3 → I 45 o.toNatClampNeg = nI z2 ∧ z2 ≤ 40) : Cal SyM mX11_copy 2 [.ref 0, .int s, .int i, .int o, .int j, .int n0] I (some (.int (vCopy (I 44 s.toNatClampNeg < 0 ∨ I 44 o.toNatClampNeg < 0) (I 44 s.toNatClampNeg) (I 44 o.toNatClampNeg) z z2 s i o j n0))) (if okCopy (I 44 s.toNatClampNeg < 0 ∨ I 44 o.toNatClampNeg < 0) (I 44 s.toNatClampNeg) (I 44 o.toNatClampNeg) z z2 s i o j n0 then mCopyW I s.toNatClampNeg i.toNatClampNeg o.toNatClampNeg j.toNatClampNeg n0.toNatClampNeg else I) := by
  refine Cal.of (by decide) (Nat.le_of_ble_eq_true rfl) ?_
  show Bd _ _ _ _ [(0, _), (1, _), (2, _), (3, _), (4, _), (5, _)] _ _ _ _
  refine b_aload_n (pc := 0) (i := 0) (dd dtX11_copy 0 rfl) rfl rfl ?_
  refine b_iload_n (pc := 1) (i := 1) (dd dtX11_copy 1 rfl) rfl rfl ?_
  refine b_invV (pc := 2) (dd dtX11_copy 2 rfl) mlX11_297 mvX11_isSheet miX11_isSheet (c_X11_isSheet) oM_0 rfl rfl (by decide) (Nat.le_of_ble_eq_true rfl) ?_
  refine b_ifb_eq (pc := 5) (tgt := 16) (dd dtX11_copy 3 rfl) (by decide) (fun h5 => ?_) (fun h5 => ?_)
  · refine b_bipush (pc := 16) (v := -2) (dd dtX11_copy 8 rfl) (by decide) ?_
    refine b_eq (b_iret (dd dtX11_copy 9 rfl) rfl) ?_ ?_
    · (try clear hz); (try clear hz0); (try clear hy); (try clear hy0); first | contradiction | simp [inR, vCopy, okCopy, -Int32.not_lt, -Int32.not_le, *]
    · (try clear hz); (try clear hz0); (try clear hy); (try clear hy0); first | contradiction | simp [inR, vCopy, okCopy, -Int32.not_lt, -Int32.not_le, *]
  · refine b_aload_n (pc := 8) (i := 0) (dd dtX11_copy 4 rfl) rfl rfl ?_
    refine b_iload_n (pc := 9) (i := 3) (dd dtX11_copy 5 rfl) rfl rfl ?_
    refine b_invV (pc := 10) (dd dtX11_copy 6 rfl) mlX11_297 mvX11_isSheet miX11_isSheet (c_X11_isSheet) oM_0 rfl rfl (by decide) (Nat.le_of_ble_eq_true rfl) ?_
    refine b_ifb_ne (pc := 13) (tgt := 19) (dd dtX11_copy 7 rfl) (by decide) (fun h13 => ?_) (fun h13 => ?_)
    · obtain ⟨hz, hz2⟩ := hz0 h5
      obtain ⟨hy, hy2⟩ := hy0 h13
      clear hz0 hy0
      refine b_aload_n (pc := 19) (i := 0) (dd dtX11_copy 10 rfl) rfl rfl ?_
      refine b_geta (pc := 20) (dd dtX11_copy 11 rfl) fwX11_236 pM_0 rM_0_73 ?_
      refine b_iload_n (pc := 23) (i := 1) (dd dtX11_copy 12 rfl) rfl rfl ?_
      refine b_iald (pc := 24) (dd dtX11_copy 13 rfl) pM_44 (vs4 h5) ?_
      refine b_if_lt (pc := 25) (tgt := 37) (dd dtX11_copy 14 rfl) (by decide) (fun h25 => ?_) (fun h25 => ?_)
      · refine b_bipush (pc := 37) (v := -11) (dd dtX11_copy 20 rfl) (by decide) ?_
        refine b_eq (b_iret (dd dtX11_copy 21 rfl) rfl) ?_ ?_
        · (try clear hz); (try clear hz0); (try clear hy); (try clear hy0); first | contradiction | simp [inR, vCopy, okCopy, -Int32.not_lt, -Int32.not_le, *]
        · (try clear hz); (try clear hz0); (try clear hy); (try clear hy0); first | contradiction | simp [inR, vCopy, okCopy, -Int32.not_lt, -Int32.not_le, *]
      · refine b_aload_n (pc := 28) (i := 0) (dd dtX11_copy 15 rfl) rfl rfl ?_
        refine b_geta (pc := 29) (dd dtX11_copy 16 rfl) fwX11_236 pM_0 rM_0_73 ?_
        refine b_iload_n (pc := 32) (i := 3) (dd dtX11_copy 17 rfl) rfl rfl ?_
        refine b_iald (pc := 33) (dd dtX11_copy 18 rfl) pM_44 (vs4 h13) ?_
        refine b_ifL_ge (pc := 34) (tgt := 40) (dd dtX11_copy 19 rfl) (by decide) (fun h34 => ?_) (fun h34 => ?_)
        · refine b_aload_n (pc := 40) (i := 0) (dd dtX11_copy 22 rfl) rfl rfl ?_
          refine b_geta (pc := 41) (dd dtX11_copy 23 rfl) fwX11_236 pM_0 rM_0_73 ?_
          refine b_iload_n (pc := 44) (i := 1) (dd dtX11_copy 24 rfl) rfl rfl ?_
          refine b_iald (pc := 45) (dd dtX11_copy 25 rfl) pM_44 (vs4 h5) ?_
          refine b_aload_n (pc := 46) (i := 0) (dd dtX11_copy 26 rfl) rfl rfl ?_
          refine b_geta (pc := 47) (dd dtX11_copy 27 rfl) fwX11_236 pM_0 rM_0_73 ?_
          refine b_iload_n (pc := 50) (i := 3) (dd dtX11_copy 28 rfl) rfl rfl ?_
          refine b_iald (pc := 51) (dd dtX11_copy 29 rfl) pM_44 (vs4 h13) ?_
          refine b_icmp_eq (pc := 52) (tgt := 58) (dd dtX11_copy 30 rfl) (by decide) (fun h52 => ?_) (fun h52 => ?_)
          · refine b_iload (pc := 58) (i := 5) (dd dtX11_copy 33 rfl) rfl ?_
            refine b_if_lt (pc := 60) (tgt := 99) (dd dtX11_copy 34 rfl) (by decide) (fun h60 => ?_) (fun h60 => ?_)
            · refine b_bipush (pc := 99) (v := -12) (dd dtX11_copy 55 rfl) (by decide) ?_
              refine b_eq (b_iret (dd dtX11_copy 56 rfl) rfl) ?_ ?_
              · (try clear hz); (try clear hz0); (try clear hy); (try clear hy0); first | contradiction | simp [inR, vCopy, okCopy, -Int32.not_lt, -Int32.not_le, *]
              · (try clear hz); (try clear hz0); (try clear hy); (try clear hy0); first | contradiction | simp [inR, vCopy, okCopy, -Int32.not_lt, -Int32.not_le, *]
            · refine b_iload_n (pc := 63) (i := 2) (dd dtX11_copy 35 rfl) rfl rfl ?_
              refine b_if_lt (pc := 64) (tgt := 99) (dd dtX11_copy 36 rfl) (by decide) (fun h64 => ?_) (fun h64 => ?_)
              · refine b_bipush (pc := 99) (v := -12) (dd dtX11_copy 55 rfl) (by decide) ?_
                refine b_eq (b_iret (dd dtX11_copy 56 rfl) rfl) ?_ ?_
                · (try clear hz); (try clear hz0); (try clear hy); (try clear hy0); first | contradiction | simp [inR, vCopy, okCopy, -Int32.not_lt, -Int32.not_le, *]
                · (try clear hz); (try clear hz0); (try clear hy); (try clear hy0); first | contradiction | simp [inR, vCopy, okCopy, -Int32.not_lt, -Int32.not_le, *]
              · refine b_iload (pc := 67) (i := 4) (dd dtX11_copy 37 rfl) rfl ?_
                refine b_if_lt (pc := 69) (tgt := 99) (dd dtX11_copy 38 rfl) (by decide) (fun h69 => ?_) (fun h69 => ?_)
                · refine b_bipush (pc := 99) (v := -12) (dd dtX11_copy 55 rfl) (by decide) ?_
                  refine b_eq (b_iret (dd dtX11_copy 56 rfl) rfl) ?_ ?_
                  · (try clear hz); (try clear hz0); (try clear hy); (try clear hy0); first | contradiction | simp [inR, vCopy, okCopy, -Int32.not_lt, -Int32.not_le, *]
                  · (try clear hz); (try clear hz0); (try clear hy); (try clear hy0); first | contradiction | simp [inR, vCopy, okCopy, -Int32.not_lt, -Int32.not_le, *]
                · refine b_iload_n (pc := 72) (i := 2) (dd dtX11_copy 39 rfl) rfl rfl ?_
                  refine b_aload_n (pc := 73) (i := 0) (dd dtX11_copy 40 rfl) rfl rfl ?_
                  refine b_geta (pc := 74) (dd dtX11_copy 41 rfl) fwX11_239 pM_0 rM_0_74 ?_
                  refine b_iload_n (pc := 77) (i := 1) (dd dtX11_copy 42 rfl) rfl rfl ?_
                  refine b_iald (pc := 78) (dd dtX11_copy 43 rfl) pM_45 (vs4 h5) ?_
                  rw [hz]
                  refine b_iload (pc := 79) (i := 5) (dd dtX11_copy 44 rfl) rfl ?_
                  refine b_isub (pc := 81) (dd dtX11_copy 45 rfl) ?_
                  refine b_icmp_gt (pc := 82) (tgt := 99) (dd dtX11_copy 46 rfl) (by decide) (fun h82 => ?_) (fun h82 => ?_)
                  · refine b_bipush (pc := 99) (v := -12) (dd dtX11_copy 55 rfl) (by decide) ?_
                    refine b_eq (b_iret (dd dtX11_copy 56 rfl) rfl) ?_ ?_
                    · (try clear hz); (try clear hz0); (try clear hy); (try clear hy0); first | contradiction | simp [inR, vCopy, okCopy, -Int32.not_lt, -Int32.not_le, *]
                    · (try clear hz); (try clear hz0); (try clear hy); (try clear hy0); first | contradiction | simp [inR, vCopy, okCopy, -Int32.not_lt, -Int32.not_le, *]
                  · refine b_iload (pc := 85) (i := 4) (dd dtX11_copy 47 rfl) rfl ?_
                    refine b_aload_n (pc := 87) (i := 0) (dd dtX11_copy 48 rfl) rfl rfl ?_
                    refine b_geta (pc := 88) (dd dtX11_copy 49 rfl) fwX11_239 pM_0 rM_0_74 ?_
                    refine b_iload_n (pc := 91) (i := 3) (dd dtX11_copy 50 rfl) rfl rfl ?_
                    refine b_iald (pc := 92) (dd dtX11_copy 51 rfl) pM_45 (vs4 h13) ?_
                    rw [hy]
                    refine b_iload (pc := 93) (i := 5) (dd dtX11_copy 52 rfl) rfl ?_
                    refine b_isub (pc := 95) (dd dtX11_copy 53 rfl) ?_
                    refine b_icmpL_le (pc := 96) (tgt := 102) (dd dtX11_copy 54 rfl) (by decide) (fun h96 => ?_) (fun h96 => ?_)
                    · refine b_ic0 (pc := 102) (dd dtX11_copy 57 rfl) ?_
                      refine b_istore (pc := 103) (i := 6) (lv' := [(6, _), (0, _), (1, _), (2, _), (3, _), (4, _), (5, _)]) (dd dtX11_copy 58 rfl) (Nat.le_of_ble_eq_true rfl) rfl ?_
                      obtain ⟨N, hN, eN⟩ := nI_of h60
                      have hNc : n0.toNatClampNeg = N := by rw [eN]; exact nI_clamp hN
                      have hN2 : N ≤ 40 := by have := (cpy_in h60 ⟨h64, h82⟩ hz2).2; omega
                      have hok : okCopy (I 44 s.toNatClampNeg < 0 ∨ I 44 o.toNatClampNeg < 0) (I 44 s.toNatClampNeg) (I 44 o.toNatClampNeg) z z2 s i o j n0 := ⟨⟨h5, h13⟩, fun q => q.elim h25 h34, by first | assumption | (exact Decidable.not_not.mp h52), h60, ⟨h64, h82⟩, ⟨h69, h96⟩⟩
                      rw [if_pos hok, hNc]
                      refine b_eq (l1_X11_copy h5 h13 h60 h64 h82 hz2 h69 h96 hy2 eN hN2 hNc (N + 1) 0 _ _ (Nat.zero_le _) (by omega) rfl (by rw [fil_0, rset_id])) ?_ rfl
                      unfold vCopy
                      rw [if_pos hok.1, if_neg hok.2.1, if_pos hok.2.2.1, if_pos hok.2.2.2]
                    · refine b_bipush (pc := 99) (v := -12) (dd dtX11_copy 55 rfl) (by decide) ?_
                      refine b_eq (b_iret (dd dtX11_copy 56 rfl) rfl) ?_ ?_
                      · (try clear hz); (try clear hz0); (try clear hy); (try clear hy0); first | contradiction | simp [inR, vCopy, okCopy, -Int32.not_lt, -Int32.not_le, *]
                      · (try clear hz); (try clear hz0); (try clear hy); (try clear hy0); first | contradiction | simp [inR, vCopy, okCopy, -Int32.not_lt, -Int32.not_le, *]
          · refine b_bipush (pc := 55) (v := -13) (dd dtX11_copy 31 rfl) (by decide) ?_
            refine b_eq (b_iret (dd dtX11_copy 32 rfl) rfl) ?_ ?_
            · (try clear hz); (try clear hz0); (try clear hy); (try clear hy0); first | contradiction | simp [inR, vCopy, okCopy, -Int32.not_lt, -Int32.not_le, *]
            · (try clear hz); (try clear hz0); (try clear hy); (try clear hy0); first | contradiction | simp [inR, vCopy, okCopy, -Int32.not_lt, -Int32.not_le, *]
        · refine b_bipush (pc := 37) (v := -11) (dd dtX11_copy 20 rfl) (by decide) ?_
          refine b_eq (b_iret (dd dtX11_copy 21 rfl) rfl) ?_ ?_
          · (try clear hz); (try clear hz0); (try clear hy); (try clear hy0); first | contradiction | simp [inR, vCopy, okCopy, -Int32.not_lt, -Int32.not_le, *]
          · (try clear hz); (try clear hz0); (try clear hy); (try clear hy0); first | contradiction | simp [inR, vCopy, okCopy, -Int32.not_lt, -Int32.not_le, *]
    · refine b_bipush (pc := 16) (v := -2) (dd dtX11_copy 8 rfl) (by decide) ?_
      refine b_eq (b_iret (dd dtX11_copy 9 rfl) rfl) ?_ ?_
      · (try clear hz); (try clear hz0); (try clear hy); (try clear hy0); first | contradiction | simp [inR, vCopy, okCopy, -Int32.not_lt, -Int32.not_le, *]
      · (try clear hz); (try clear hz0); (try clear hy); (try clear hy0); first | contradiction | simp [inR, vCopy, okCopy, -Int32.not_lt, -Int32.not_le, *]
abbrev mOf (a q : Int32) : Prop := q = 0 ∨ a = q ∨ (q = 1 ∧ a = 3) ∨ (q = 2 ∧ a = 4)
def tX11_isOfKind : List (Nat × Instr × Nat) := [(0, .iload_n 2, 1), (1, .ifCond .eq 43, 3), (4, .aload_n 0, 1), (5, .getfield 82, 3), (8, .iload_n 1, 1), (9, .iaload, 1), (10, .iload_n 2, 1), (11, .if_icmp .eq 33, 3), (14, .iload_n 2, 1), (15, .iconst 1, 1), (16, .if_icmp .ne 13, 3), (19, .aload_n 0, 1), (20, .getfield 82, 3), (23, .iload_n 1, 1), (24, .iaload, 1), (25, .iconst 3, 1), (26, .if_icmp .eq 18, 3), (29, .iload_n 2, 1), (30, .iconst 2, 1), (31, .if_icmp .ne 17, 3), (34, .aload_n 0, 1), (35, .getfield 82, 3), (38, .iload_n 1, 1), (39, .iaload, 1), (40, .iconst 4, 1), (41, .if_icmp .ne 7, 3), (44, .iconst 1, 1), (45, .goto 4, 3), (48, .iconst 0, 1), (49, .ireturn, 1)]
theorem dtX11_isOfKind : dec_ok mX11_isOfKind.2.1 tX11_isOfKind = true := by decide +kernel
set_option maxHeartbeats 4000000 in
theorem c_X11_isOfKind {I : Wd} {k q : Int32} (hk : vp_in k 30) : Cal SyM mX11_isOfKind 0 [.ref 0, .int k, .int q] I (some (.int (bi (mOf (I 17 k.toNatClampNeg) q)))) I := by
  refine Cal.of (by decide) (Nat.le_of_ble_eq_true rfl) ?_
  show Bd _ _ _ _ [(0, _), (1, _), (2, _)] _ _ _ _
  refine b_iload_n (pc := 0) (i := 2) (dd dtX11_isOfKind 0 rfl) rfl rfl ?_
  refine b_if_eq (pc := 1) (tgt := 44) (dd dtX11_isOfKind 1 rfl) (by decide) (fun h1 => ?_) (fun h1 => ?_)
  · refine b_ic1 (pc := 44) (dd dtX11_isOfKind 26 rfl) ?_
    refine b_goto (pc := 45) (tgt := 49) (dd dtX11_isOfKind 27 rfl) (by decide) ?_
    refine b_eq (b_zret (dd dtX11_isOfKind 29 rfl) rfl (by first | rfl | exact nar_bi)) ?_ ?_
    · simp_all [bi, mOf]
    · rfl
  · refine b_aload_n (pc := 4) (i := 0) (dd dtX11_isOfKind 2 rfl) rfl rfl ?_
    refine b_geta (pc := 5) (dd dtX11_isOfKind 3 rfl) fwX11_82 pM_0 rM_0_22 ?_
    refine b_iload_n (pc := 8) (i := 1) (dd dtX11_isOfKind 4 rfl) rfl rfl ?_
    refine b_iald (pc := 9) (dd dtX11_isOfKind 5 rfl) pM_17 (hk) ?_
    refine b_iload_n (pc := 10) (i := 2) (dd dtX11_isOfKind 6 rfl) rfl rfl ?_
    refine b_icmp_eq (pc := 11) (tgt := 44) (dd dtX11_isOfKind 7 rfl) (by decide) (fun h11 => ?_) (fun h11 => ?_)
    · refine b_ic1 (pc := 44) (dd dtX11_isOfKind 26 rfl) ?_
      refine b_goto (pc := 45) (tgt := 49) (dd dtX11_isOfKind 27 rfl) (by decide) ?_
      refine b_eq (b_zret (dd dtX11_isOfKind 29 rfl) rfl (by first | rfl | exact nar_bi)) ?_ ?_
      · simp_all [bi, mOf]
      · rfl
    · refine b_iload_n (pc := 14) (i := 2) (dd dtX11_isOfKind 8 rfl) rfl rfl ?_
      refine b_ic1 (pc := 15) (dd dtX11_isOfKind 9 rfl) ?_
      refine b_icmp_ne (pc := 16) (tgt := 29) (dd dtX11_isOfKind 10 rfl) (by decide) (fun h16 => ?_) (fun h16 => ?_)
      · refine b_iload_n (pc := 29) (i := 2) (dd dtX11_isOfKind 17 rfl) rfl rfl ?_
        refine b_ic2 (pc := 30) (dd dtX11_isOfKind 18 rfl) ?_
        refine b_icmp_ne (pc := 31) (tgt := 48) (dd dtX11_isOfKind 19 rfl) (by decide) (fun h31 => ?_) (fun h31 => ?_)
        · refine b_ic0 (pc := 48) (dd dtX11_isOfKind 28 rfl) ?_
          refine b_eq (b_zret (dd dtX11_isOfKind 29 rfl) rfl (by first | rfl | exact nar_bi)) ?_ ?_
          · simp_all [bi, mOf]
          · rfl
        · refine b_aload_n (pc := 34) (i := 0) (dd dtX11_isOfKind 20 rfl) rfl rfl ?_
          refine b_geta (pc := 35) (dd dtX11_isOfKind 21 rfl) fwX11_82 pM_0 rM_0_22 ?_
          refine b_iload_n (pc := 38) (i := 1) (dd dtX11_isOfKind 22 rfl) rfl rfl ?_
          refine b_iald (pc := 39) (dd dtX11_isOfKind 23 rfl) pM_17 (hk) ?_
          refine b_ic4 (pc := 40) (dd dtX11_isOfKind 24 rfl) ?_
          refine b_icmp_ne (pc := 41) (tgt := 48) (dd dtX11_isOfKind 25 rfl) (by decide) (fun h41 => ?_) (fun h41 => ?_)
          · refine b_ic0 (pc := 48) (dd dtX11_isOfKind 28 rfl) ?_
            refine b_eq (b_zret (dd dtX11_isOfKind 29 rfl) rfl (by first | rfl | exact nar_bi)) ?_ ?_
            · simp_all [bi, mOf]
            · rfl
          · refine b_ic1 (pc := 44) (dd dtX11_isOfKind 26 rfl) ?_
            refine b_goto (pc := 45) (tgt := 49) (dd dtX11_isOfKind 27 rfl) (by decide) ?_
            refine b_eq (b_zret (dd dtX11_isOfKind 29 rfl) rfl (by first | rfl | exact nar_bi)) ?_ ?_
            · simp_all [bi, mOf]
            · rfl
      · refine b_aload_n (pc := 19) (i := 0) (dd dtX11_isOfKind 11 rfl) rfl rfl ?_
        refine b_geta (pc := 20) (dd dtX11_isOfKind 12 rfl) fwX11_82 pM_0 rM_0_22 ?_
        refine b_iload_n (pc := 23) (i := 1) (dd dtX11_isOfKind 13 rfl) rfl rfl ?_
        refine b_iald (pc := 24) (dd dtX11_isOfKind 14 rfl) pM_17 (hk) ?_
        refine b_ic3 (pc := 25) (dd dtX11_isOfKind 15 rfl) ?_
        refine b_icmp_eq (pc := 26) (tgt := 44) (dd dtX11_isOfKind 16 rfl) (by decide) (fun h26 => ?_) (fun h26 => ?_)
        · refine b_ic1 (pc := 44) (dd dtX11_isOfKind 26 rfl) ?_
          refine b_goto (pc := 45) (tgt := 49) (dd dtX11_isOfKind 27 rfl) (by decide) ?_
          refine b_eq (b_zret (dd dtX11_isOfKind 29 rfl) rfl (by first | rfl | exact nar_bi)) ?_ ?_
          · simp_all [bi, mOf]
          · rfl
        · refine b_iload_n (pc := 29) (i := 2) (dd dtX11_isOfKind 17 rfl) rfl rfl ?_
          refine b_ic2 (pc := 30) (dd dtX11_isOfKind 18 rfl) ?_
          refine b_icmp_ne (pc := 31) (tgt := 48) (dd dtX11_isOfKind 19 rfl) (by decide) (fun h31 => ?_) (fun h31 => ?_)
          · refine b_ic0 (pc := 48) (dd dtX11_isOfKind 28 rfl) ?_
            refine b_eq (b_zret (dd dtX11_isOfKind 29 rfl) rfl (by first | rfl | exact nar_bi)) ?_ ?_
            · simp_all [bi, mOf]
            · rfl
          · refine b_aload_n (pc := 34) (i := 0) (dd dtX11_isOfKind 20 rfl) rfl rfl ?_
            refine b_geta (pc := 35) (dd dtX11_isOfKind 21 rfl) fwX11_82 pM_0 rM_0_22 ?_
            refine b_iload_n (pc := 38) (i := 1) (dd dtX11_isOfKind 22 rfl) rfl rfl ?_
            refine b_iald (pc := 39) (dd dtX11_isOfKind 23 rfl) pM_17 (hk) ?_
            refine b_ic4 (pc := 40) (dd dtX11_isOfKind 24 rfl) ?_
            refine b_icmp_ne (pc := 41) (tgt := 48) (dd dtX11_isOfKind 25 rfl) (by decide) (fun h41 => ?_) (fun h41 => ?_)
            · refine b_ic0 (pc := 48) (dd dtX11_isOfKind 28 rfl) ?_
              refine b_eq (b_zret (dd dtX11_isOfKind 29 rfl) rfl (by first | rfl | exact nar_bi)) ?_ ?_
              · simp_all [bi, mOf]
              · rfl
            · refine b_ic1 (pc := 44) (dd dtX11_isOfKind 26 rfl) ?_
              refine b_goto (pc := 45) (tgt := 49) (dd dtX11_isOfKind 27 rfl) (by decide) ?_
              refine b_eq (b_zret (dd dtX11_isOfKind 29 rfl) rfl (by first | rfl | exact nar_bi)) ?_ ?_
              · simp_all [bi, mOf]
              · rfl
def tX11_taken : List (Nat × Instr × Nat) := [(0, .aload_n 0, 1), (1, .iload_n 1, 1), (2, .iconst 0, 1), (3, .iconst 2, 1), (4, .invokevirtual 1, 3), (7, .ifCond .eq 14, 3), (10, .aload_n 0, 1), (11, .iload_n 3, 1), (12, .iconst 0, 1), (13, .bipush 7, 2), (15, .invokevirtual 1, 3), (18, .ifCond .ne 6, 3), (21, .bipush (-2), 2), (23, .ireturn, 1), (24, .aload_n 0, 1), (25, .iload_n 2, 1), (26, .iconst 0, 1), (27, .iload_n 1, 1), (28, .ifCond .ne 10, 3), (31, .aload_n 0, 1), (32, .getfield 79, 3), (35, .goto 19, 3), (38, .iload_n 1, 1), (39, .iconst 1, 1), (40, .if_icmp .ne 10, 3), (43, .aload_n 0, 1), (44, .getfield 23, 3), (47, .goto 7, 3), (50, .aload_n 0, 1), (51, .getfield 212, 3), (54, .iconst 1, 1), (55, .isub, 1), (56, .invokevirtual 1, 3), (59, .ifCond .ne 6, 3), (62, .bipush (-11), 2), (64, .ireturn, 1), (65, .iload_n 1, 1), (66, .ifCond .ne 30, 3), (69, .iload_n 3, 1), (70, .bipush 6, 2), (72, .if_icmp .ge 21, 3), (75, .aload_n 0, 1), (76, .iload_n 2, 1), (77, .iload_n 3, 1), (78, .invokevirtual 423, 3), (81, .ifCond .eq 12, 3), (84, .aload_n 0, 1), (85, .getfield 85, 3), (88, .iload_n 2, 1), (89, .iaload, 1), (90, .goto 5, 3), (93, .bipush (-13), 2), (95, .ireturn, 1), (96, .iload_n 1, 1), (97, .iconst 1, 1), (98, .if_icmp .ne 21, 3), (101, .iload_n 3, 1), (102, .bipush 6, 2), (104, .if_icmp .ne 12, 3), (107, .aload_n 0, 1), (108, .getfield 60, 3), (111, .iload_n 2, 1), (112, .iaload, 1), (113, .goto 5, 3), (116, .bipush (-13), 2), (118, .ireturn, 1), (119, .iload_n 3, 1), (120, .bipush 7, 2), (122, .if_icmp .ne 12, 3), (125, .aload_n 0, 1), (126, .getfield 218, 3), (129, .iload_n 2, 1), (130, .iaload, 1), (131, .goto 5, 3), (134, .bipush (-13), 2), (136, .ireturn, 1)]
theorem dtX11_taken : dec_ok mX11_taken.2.1 tX11_taken = true := by decide +kernel
set_option maxHeartbeats 4000000 in
theorem c_X11_taken {I : Wd} {K N Wn : Nat} {what i q : Int32} (hK : I 0 21 = nI K) (hK2 : K ≤ 30) (hN : I 0 3 = nI N) (hN2 : N ≤ 14) (hW : I 0 65 = nI Wn) (hW2 : Wn ≤ 30) : Cal SyM mX11_taken 1 [.ref 0, .int what, .int i, .int q] I (some (.int (vTaken (fun a b => b < 6 ∧ mOf a b) (I 17) (I 18) (I 11) (I 42) (I 0 21) (I 0 3) (I 0 65) what i q))) I := by
  refine Cal.of (by decide) (Nat.le_of_ble_eq_true rfl) ?_
  show Bd _ _ _ _ [(0, _), (1, _), (2, _), (3, _)] _ _ _ _
  refine b_aload_n (pc := 0) (i := 0) (dd dtX11_taken 0 rfl) rfl rfl ?_
  refine b_iload_n (pc := 1) (i := 1) (dd dtX11_taken 1 rfl) rfl rfl ?_
  refine b_ic0 (pc := 2) (dd dtX11_taken 2 rfl) ?_
  refine b_ic2 (pc := 3) (dd dtX11_taken 3 rfl) ?_
  refine b_invV (pc := 4) (dd dtX11_taken 4 rfl) mlX11_1 mvX11_in miX11_in (c_X11_in) oM_0 rfl rfl (by decide) (Nat.le_of_ble_eq_true rfl) ?_
  refine b_ifb_eq (pc := 7) (tgt := 21) (dd dtX11_taken 5 rfl) (by decide) (fun h7 => ?_) (fun h7 => ?_)
  · refine b_bipush (pc := 21) (v := -2) (dd dtX11_taken 12 rfl) (by decide) ?_
    refine b_eq (b_iret (dd dtX11_taken 13 rfl) rfl) ?_ ?_
    · first | contradiction | ((try clear hK); (try clear hN); (try clear hW); simp [inR, vTaken, mOf, -Int32.not_lt, -Int32.not_le, *])
    · rfl
  · refine b_aload_n (pc := 10) (i := 0) (dd dtX11_taken 6 rfl) rfl rfl ?_
    refine b_iload_n (pc := 11) (i := 3) (dd dtX11_taken 7 rfl) rfl rfl ?_
    refine b_ic0 (pc := 12) (dd dtX11_taken 8 rfl) ?_
    refine b_bipush (pc := 13) (v := 7) (dd dtX11_taken 9 rfl) (by decide) ?_
    refine b_invV (pc := 15) (dd dtX11_taken 10 rfl) mlX11_1 mvX11_in miX11_in (c_X11_in) oM_0 rfl rfl (by decide) (Nat.le_of_ble_eq_true rfl) ?_
    refine b_ifb_ne (pc := 18) (tgt := 24) (dd dtX11_taken 11 rfl) (by decide) (fun h18 => ?_) (fun h18 => ?_)
    · refine b_aload_n (pc := 24) (i := 0) (dd dtX11_taken 14 rfl) rfl rfl ?_
      refine b_iload_n (pc := 25) (i := 2) (dd dtX11_taken 15 rfl) rfl rfl ?_
      refine b_ic0 (pc := 26) (dd dtX11_taken 16 rfl) ?_
      refine b_iload_n (pc := 27) (i := 1) (dd dtX11_taken 17 rfl) rfl rfl ?_
      refine b_if_ne (pc := 28) (tgt := 38) (dd dtX11_taken 18 rfl) (by decide) (fun h28 => ?_) (fun h28 => ?_)
      · refine b_iload_n (pc := 38) (i := 1) (dd dtX11_taken 22 rfl) rfl rfl ?_
        refine b_ic1 (pc := 39) (dd dtX11_taken 23 rfl) ?_
        refine b_icmp_ne (pc := 40) (tgt := 50) (dd dtX11_taken 24 rfl) (by decide) (fun h40 => ?_) (fun h40 => ?_)
        · refine b_aload_n (pc := 50) (i := 0) (dd dtX11_taken 28 rfl) rfl rfl ?_
          refine b_geti (pc := 51) (dd dtX11_taken 29 rfl) fwX11_212 pM_0 ?_
          refine b_ic1 (pc := 54) (dd dtX11_taken 30 rfl) ?_
          refine b_isub (pc := 55) (dd dtX11_taken 31 rfl) ?_
          refine b_invV (pc := 56) (dd dtX11_taken 32 rfl) mlX11_1 mvX11_in miX11_in (c_X11_in) oM_0 rfl rfl (by decide) (Nat.le_of_ble_eq_true rfl) ?_
          refine b_ifb_ne (pc := 59) (tgt := 65) (dd dtX11_taken 33 rfl) (by decide) (fun h59 => ?_) (fun h59 => ?_)
          · refine b_iload_n (pc := 65) (i := 1) (dd dtX11_taken 36 rfl) rfl rfl ?_
            refine b_if_ne (pc := 66) (tgt := 96) (dd dtX11_taken 37 rfl) (by decide) (fun h66 => ?_) (fun h66 => ?_)
            · refine b_iload_n (pc := 96) (i := 1) (dd dtX11_taken 53 rfl) rfl rfl ?_
              refine b_ic1 (pc := 97) (dd dtX11_taken 54 rfl) ?_
              refine b_icmp_ne (pc := 98) (tgt := 119) (dd dtX11_taken 55 rfl) (by decide) (fun h98 => ?_) (fun h98 => ?_)
              · refine b_iload_n (pc := 119) (i := 3) (dd dtX11_taken 66 rfl) rfl rfl ?_
                refine b_bipush (pc := 120) (v := 7) (dd dtX11_taken 67 rfl) (by decide) ?_
                refine b_icmp_ne (pc := 122) (tgt := 134) (dd dtX11_taken 68 rfl) (by decide) (fun h122 => ?_) (fun h122 => ?_)
                · refine b_bipush (pc := 134) (v := -13) (dd dtX11_taken 74 rfl) (by decide) ?_
                  refine b_eq (b_iret (dd dtX11_taken 75 rfl) rfl) ?_ ?_
                  · first | contradiction | ((try clear hK); (try clear hN); (try clear hW); simp [inR, vTaken, mOf, -Int32.not_lt, -Int32.not_le, *])
                  · rfl
                · refine b_aload_n (pc := 125) (i := 0) (dd dtX11_taken 69 rfl) rfl rfl ?_
                  refine b_geta (pc := 126) (dd dtX11_taken 70 rfl) fwX11_218 pM_0 rM_0_67 ?_
                  refine b_iload_n (pc := 129) (i := 2) (dd dtX11_taken 71 rfl) rfl rfl ?_
                  refine b_iald (pc := 130) (dd dtX11_taken 72 rfl) pM_42 (by first | contradiction | exact vpm (by rw [hW] at h59; exact h59) hW2 (by decide)) ?_
                  refine b_goto (pc := 131) (tgt := 136) (dd dtX11_taken 73 rfl) (by decide) ?_
                  refine b_eq (b_iret (dd dtX11_taken 75 rfl) rfl) ?_ ?_
                  · first | contradiction | ((try clear hK); (try clear hN); (try clear hW); simp [inR, vTaken, mOf, -Int32.not_lt, -Int32.not_le, *])
                  · rfl
              · refine b_iload_n (pc := 101) (i := 3) (dd dtX11_taken 56 rfl) rfl rfl ?_
                refine b_bipush (pc := 102) (v := 6) (dd dtX11_taken 57 rfl) (by decide) ?_
                refine b_icmp_ne (pc := 104) (tgt := 116) (dd dtX11_taken 58 rfl) (by decide) (fun h104 => ?_) (fun h104 => ?_)
                · refine b_bipush (pc := 116) (v := -13) (dd dtX11_taken 64 rfl) (by decide) ?_
                  refine b_eq (b_iret (dd dtX11_taken 65 rfl) rfl) ?_ ?_
                  · first | contradiction | ((try clear hK); (try clear hN); (try clear hW); simp [inR, vTaken, mOf, -Int32.not_lt, -Int32.not_le, *])
                  · rfl
                · refine b_aload_n (pc := 107) (i := 0) (dd dtX11_taken 59 rfl) rfl rfl ?_
                  refine b_geta (pc := 108) (dd dtX11_taken 60 rfl) fwX11_60 pM_0 rM_0_15 ?_
                  refine b_iload_n (pc := 111) (i := 2) (dd dtX11_taken 61 rfl) rfl rfl ?_
                  refine b_iald (pc := 112) (dd dtX11_taken 62 rfl) pM_11 (by first | contradiction | exact vpm (by rw [hN] at h59; exact h59) hN2 (by decide)) ?_
                  refine b_goto (pc := 113) (tgt := 118) (dd dtX11_taken 63 rfl) (by decide) ?_
                  refine b_eq (b_iret (dd dtX11_taken 65 rfl) rfl) ?_ ?_
                  · first | contradiction | ((try clear hK); (try clear hN); (try clear hW); simp [inR, vTaken, mOf, -Int32.not_lt, -Int32.not_le, *])
                  · rfl
            · refine b_iload_n (pc := 69) (i := 3) (dd dtX11_taken 38 rfl) rfl rfl ?_
              refine b_bipush (pc := 70) (v := 6) (dd dtX11_taken 39 rfl) (by decide) ?_
              refine b_icmpL_ge (pc := 72) (tgt := 93) (dd dtX11_taken 40 rfl) (by decide) (fun h72 => ?_) (fun h72 => ?_)
              · refine b_bipush (pc := 93) (v := -13) (dd dtX11_taken 51 rfl) (by decide) ?_
                refine b_eq (b_iret (dd dtX11_taken 52 rfl) rfl) ?_ ?_
                · first | contradiction | ((try clear hK); (try clear hN); (try clear hW); simp [inR, vTaken, mOf, -Int32.not_lt, -Int32.not_le, *])
                · rfl
              · refine b_aload_n (pc := 75) (i := 0) (dd dtX11_taken 41 rfl) rfl rfl ?_
                refine b_iload_n (pc := 76) (i := 2) (dd dtX11_taken 42 rfl) rfl rfl ?_
                refine b_iload_n (pc := 77) (i := 3) (dd dtX11_taken 43 rfl) rfl rfl ?_
                refine b_invV (pc := 78) (dd dtX11_taken 44 rfl) mlX11_423 mvX11_isOfKind miX11_isOfKind (c_X11_isOfKind (by first | contradiction | exact vpm (by rw [hK] at h59; exact h59) hK2 (by decide))) oM_0 rfl rfl (by decide) (Nat.le_of_ble_eq_true rfl) ?_
                refine b_ifb_eq (pc := 81) (tgt := 93) (dd dtX11_taken 45 rfl) (by decide) (fun h81 => ?_) (fun h81 => ?_)
                · refine b_bipush (pc := 93) (v := -13) (dd dtX11_taken 51 rfl) (by decide) ?_
                  refine b_eq (b_iret (dd dtX11_taken 52 rfl) rfl) ?_ ?_
                  · first | contradiction | ((try clear hK); (try clear hN); (try clear hW); simp [inR, vTaken, mOf, -Int32.not_lt, -Int32.not_le, *])
                  · rfl
                · refine b_aload_n (pc := 84) (i := 0) (dd dtX11_taken 46 rfl) rfl rfl ?_
                  refine b_geta (pc := 85) (dd dtX11_taken 47 rfl) fwX11_85 pM_0 rM_0_23 ?_
                  refine b_iload_n (pc := 88) (i := 2) (dd dtX11_taken 48 rfl) rfl rfl ?_
                  refine b_iald (pc := 89) (dd dtX11_taken 49 rfl) pM_18 (by first | contradiction | exact vpm (by rw [hK] at h59; exact h59) hK2 (by decide)) ?_
                  refine b_goto (pc := 90) (tgt := 95) (dd dtX11_taken 50 rfl) (by decide) ?_
                  refine b_eq (b_iret (dd dtX11_taken 52 rfl) rfl) ?_ ?_
                  · first | contradiction | ((try clear hK); (try clear hN); (try clear hW); simp [inR, vTaken, mOf, -Int32.not_lt, -Int32.not_le, *])
                  · rfl
          · refine b_bipush (pc := 62) (v := -11) (dd dtX11_taken 34 rfl) (by decide) ?_
            refine b_eq (b_iret (dd dtX11_taken 35 rfl) rfl) ?_ ?_
            · first | contradiction | ((try clear hK); (try clear hN); (try clear hW); simp [inR, vTaken, mOf, -Int32.not_lt, -Int32.not_le, *])
            · rfl
        · refine b_aload_n (pc := 43) (i := 0) (dd dtX11_taken 25 rfl) rfl rfl ?_
          refine b_geti (pc := 44) (dd dtX11_taken 26 rfl) fwX11_23 pM_0 ?_
          refine b_goto (pc := 47) (tgt := 54) (dd dtX11_taken 27 rfl) (by decide) ?_
          refine b_ic1 (pc := 54) (dd dtX11_taken 30 rfl) ?_
          refine b_isub (pc := 55) (dd dtX11_taken 31 rfl) ?_
          refine b_invV (pc := 56) (dd dtX11_taken 32 rfl) mlX11_1 mvX11_in miX11_in (c_X11_in) oM_0 rfl rfl (by decide) (Nat.le_of_ble_eq_true rfl) ?_
          refine b_ifb_ne (pc := 59) (tgt := 65) (dd dtX11_taken 33 rfl) (by decide) (fun h59 => ?_) (fun h59 => ?_)
          · refine b_iload_n (pc := 65) (i := 1) (dd dtX11_taken 36 rfl) rfl rfl ?_
            refine b_if_ne (pc := 66) (tgt := 96) (dd dtX11_taken 37 rfl) (by decide) (fun h66 => ?_) (fun h66 => ?_)
            · refine b_iload_n (pc := 96) (i := 1) (dd dtX11_taken 53 rfl) rfl rfl ?_
              refine b_ic1 (pc := 97) (dd dtX11_taken 54 rfl) ?_
              refine b_icmp_ne (pc := 98) (tgt := 119) (dd dtX11_taken 55 rfl) (by decide) (fun h98 => ?_) (fun h98 => ?_)
              · refine b_iload_n (pc := 119) (i := 3) (dd dtX11_taken 66 rfl) rfl rfl ?_
                refine b_bipush (pc := 120) (v := 7) (dd dtX11_taken 67 rfl) (by decide) ?_
                refine b_icmp_ne (pc := 122) (tgt := 134) (dd dtX11_taken 68 rfl) (by decide) (fun h122 => ?_) (fun h122 => ?_)
                · refine b_bipush (pc := 134) (v := -13) (dd dtX11_taken 74 rfl) (by decide) ?_
                  refine b_eq (b_iret (dd dtX11_taken 75 rfl) rfl) ?_ ?_
                  · first | contradiction | ((try clear hK); (try clear hN); (try clear hW); simp [inR, vTaken, mOf, -Int32.not_lt, -Int32.not_le, *])
                  · rfl
                · refine b_aload_n (pc := 125) (i := 0) (dd dtX11_taken 69 rfl) rfl rfl ?_
                  refine b_geta (pc := 126) (dd dtX11_taken 70 rfl) fwX11_218 pM_0 rM_0_67 ?_
                  refine b_iload_n (pc := 129) (i := 2) (dd dtX11_taken 71 rfl) rfl rfl ?_
                  refine b_iald (pc := 130) (dd dtX11_taken 72 rfl) pM_42 (by first | contradiction | exact vpm (by rw [hW] at h59; exact h59) hW2 (by decide)) ?_
                  refine b_goto (pc := 131) (tgt := 136) (dd dtX11_taken 73 rfl) (by decide) ?_
                  refine b_eq (b_iret (dd dtX11_taken 75 rfl) rfl) ?_ ?_
                  · first | contradiction | ((try clear hK); (try clear hN); (try clear hW); simp [inR, vTaken, mOf, -Int32.not_lt, -Int32.not_le, *])
                  · rfl
              · refine b_iload_n (pc := 101) (i := 3) (dd dtX11_taken 56 rfl) rfl rfl ?_
                refine b_bipush (pc := 102) (v := 6) (dd dtX11_taken 57 rfl) (by decide) ?_
                refine b_icmp_ne (pc := 104) (tgt := 116) (dd dtX11_taken 58 rfl) (by decide) (fun h104 => ?_) (fun h104 => ?_)
                · refine b_bipush (pc := 116) (v := -13) (dd dtX11_taken 64 rfl) (by decide) ?_
                  refine b_eq (b_iret (dd dtX11_taken 65 rfl) rfl) ?_ ?_
                  · first | contradiction | ((try clear hK); (try clear hN); (try clear hW); simp [inR, vTaken, mOf, -Int32.not_lt, -Int32.not_le, *])
                  · rfl
                · refine b_aload_n (pc := 107) (i := 0) (dd dtX11_taken 59 rfl) rfl rfl ?_
                  refine b_geta (pc := 108) (dd dtX11_taken 60 rfl) fwX11_60 pM_0 rM_0_15 ?_
                  refine b_iload_n (pc := 111) (i := 2) (dd dtX11_taken 61 rfl) rfl rfl ?_
                  refine b_iald (pc := 112) (dd dtX11_taken 62 rfl) pM_11 (by first | contradiction | exact vpm (by rw [hN] at h59; exact h59) hN2 (by decide)) ?_
                  refine b_goto (pc := 113) (tgt := 118) (dd dtX11_taken 63 rfl) (by decide) ?_
                  refine b_eq (b_iret (dd dtX11_taken 65 rfl) rfl) ?_ ?_
                  · first | contradiction | ((try clear hK); (try clear hN); (try clear hW); simp [inR, vTaken, mOf, -Int32.not_lt, -Int32.not_le, *])
                  · rfl
            · refine b_iload_n (pc := 69) (i := 3) (dd dtX11_taken 38 rfl) rfl rfl ?_
              refine b_bipush (pc := 70) (v := 6) (dd dtX11_taken 39 rfl) (by decide) ?_
              refine b_icmpL_ge (pc := 72) (tgt := 93) (dd dtX11_taken 40 rfl) (by decide) (fun h72 => ?_) (fun h72 => ?_)
              · refine b_bipush (pc := 93) (v := -13) (dd dtX11_taken 51 rfl) (by decide) ?_
                refine b_eq (b_iret (dd dtX11_taken 52 rfl) rfl) ?_ ?_
                · first | contradiction | ((try clear hK); (try clear hN); (try clear hW); simp [inR, vTaken, mOf, -Int32.not_lt, -Int32.not_le, *])
                · rfl
              · refine b_aload_n (pc := 75) (i := 0) (dd dtX11_taken 41 rfl) rfl rfl ?_
                refine b_iload_n (pc := 76) (i := 2) (dd dtX11_taken 42 rfl) rfl rfl ?_
                refine b_iload_n (pc := 77) (i := 3) (dd dtX11_taken 43 rfl) rfl rfl ?_
                refine b_invV (pc := 78) (dd dtX11_taken 44 rfl) mlX11_423 mvX11_isOfKind miX11_isOfKind (c_X11_isOfKind (by first | contradiction | exact vpm (by rw [hK] at h59; exact h59) hK2 (by decide))) oM_0 rfl rfl (by decide) (Nat.le_of_ble_eq_true rfl) ?_
                refine b_ifb_eq (pc := 81) (tgt := 93) (dd dtX11_taken 45 rfl) (by decide) (fun h81 => ?_) (fun h81 => ?_)
                · refine b_bipush (pc := 93) (v := -13) (dd dtX11_taken 51 rfl) (by decide) ?_
                  refine b_eq (b_iret (dd dtX11_taken 52 rfl) rfl) ?_ ?_
                  · first | contradiction | ((try clear hK); (try clear hN); (try clear hW); simp [inR, vTaken, mOf, -Int32.not_lt, -Int32.not_le, *])
                  · rfl
                · refine b_aload_n (pc := 84) (i := 0) (dd dtX11_taken 46 rfl) rfl rfl ?_
                  refine b_geta (pc := 85) (dd dtX11_taken 47 rfl) fwX11_85 pM_0 rM_0_23 ?_
                  refine b_iload_n (pc := 88) (i := 2) (dd dtX11_taken 48 rfl) rfl rfl ?_
                  refine b_iald (pc := 89) (dd dtX11_taken 49 rfl) pM_18 (by first | contradiction | exact vpm (by rw [hK] at h59; exact h59) hK2 (by decide)) ?_
                  refine b_goto (pc := 90) (tgt := 95) (dd dtX11_taken 50 rfl) (by decide) ?_
                  refine b_eq (b_iret (dd dtX11_taken 52 rfl) rfl) ?_ ?_
                  · first | contradiction | ((try clear hK); (try clear hN); (try clear hW); simp [inR, vTaken, mOf, -Int32.not_lt, -Int32.not_le, *])
                  · rfl
          · refine b_bipush (pc := 62) (v := -11) (dd dtX11_taken 34 rfl) (by decide) ?_
            refine b_eq (b_iret (dd dtX11_taken 35 rfl) rfl) ?_ ?_
            · first | contradiction | ((try clear hK); (try clear hN); (try clear hW); simp [inR, vTaken, mOf, -Int32.not_lt, -Int32.not_le, *])
            · rfl
      · refine b_aload_n (pc := 31) (i := 0) (dd dtX11_taken 19 rfl) rfl rfl ?_
        refine b_geti (pc := 32) (dd dtX11_taken 20 rfl) fwX11_79 pM_0 ?_
        refine b_goto (pc := 35) (tgt := 54) (dd dtX11_taken 21 rfl) (by decide) ?_
        refine b_ic1 (pc := 54) (dd dtX11_taken 30 rfl) ?_
        refine b_isub (pc := 55) (dd dtX11_taken 31 rfl) ?_
        refine b_invV (pc := 56) (dd dtX11_taken 32 rfl) mlX11_1 mvX11_in miX11_in (c_X11_in) oM_0 rfl rfl (by decide) (Nat.le_of_ble_eq_true rfl) ?_
        refine b_ifb_ne (pc := 59) (tgt := 65) (dd dtX11_taken 33 rfl) (by decide) (fun h59 => ?_) (fun h59 => ?_)
        · refine b_iload_n (pc := 65) (i := 1) (dd dtX11_taken 36 rfl) rfl rfl ?_
          refine b_if_ne (pc := 66) (tgt := 96) (dd dtX11_taken 37 rfl) (by decide) (fun h66 => ?_) (fun h66 => ?_)
          · refine b_iload_n (pc := 96) (i := 1) (dd dtX11_taken 53 rfl) rfl rfl ?_
            refine b_ic1 (pc := 97) (dd dtX11_taken 54 rfl) ?_
            refine b_icmp_ne (pc := 98) (tgt := 119) (dd dtX11_taken 55 rfl) (by decide) (fun h98 => ?_) (fun h98 => ?_)
            · refine b_iload_n (pc := 119) (i := 3) (dd dtX11_taken 66 rfl) rfl rfl ?_
              refine b_bipush (pc := 120) (v := 7) (dd dtX11_taken 67 rfl) (by decide) ?_
              refine b_icmp_ne (pc := 122) (tgt := 134) (dd dtX11_taken 68 rfl) (by decide) (fun h122 => ?_) (fun h122 => ?_)
              · refine b_bipush (pc := 134) (v := -13) (dd dtX11_taken 74 rfl) (by decide) ?_
                refine b_eq (b_iret (dd dtX11_taken 75 rfl) rfl) ?_ ?_
                · first | contradiction | ((try clear hK); (try clear hN); (try clear hW); simp [inR, vTaken, mOf, -Int32.not_lt, -Int32.not_le, *])
                · rfl
              · refine b_aload_n (pc := 125) (i := 0) (dd dtX11_taken 69 rfl) rfl rfl ?_
                refine b_geta (pc := 126) (dd dtX11_taken 70 rfl) fwX11_218 pM_0 rM_0_67 ?_
                refine b_iload_n (pc := 129) (i := 2) (dd dtX11_taken 71 rfl) rfl rfl ?_
                refine b_iald (pc := 130) (dd dtX11_taken 72 rfl) pM_42 (by first | contradiction | exact vpm (by rw [hW] at h59; exact h59) hW2 (by decide)) ?_
                refine b_goto (pc := 131) (tgt := 136) (dd dtX11_taken 73 rfl) (by decide) ?_
                refine b_eq (b_iret (dd dtX11_taken 75 rfl) rfl) ?_ ?_
                · first | contradiction | ((try clear hK); (try clear hN); (try clear hW); simp [inR, vTaken, mOf, -Int32.not_lt, -Int32.not_le, *])
                · rfl
            · refine b_iload_n (pc := 101) (i := 3) (dd dtX11_taken 56 rfl) rfl rfl ?_
              refine b_bipush (pc := 102) (v := 6) (dd dtX11_taken 57 rfl) (by decide) ?_
              refine b_icmp_ne (pc := 104) (tgt := 116) (dd dtX11_taken 58 rfl) (by decide) (fun h104 => ?_) (fun h104 => ?_)
              · refine b_bipush (pc := 116) (v := -13) (dd dtX11_taken 64 rfl) (by decide) ?_
                refine b_eq (b_iret (dd dtX11_taken 65 rfl) rfl) ?_ ?_
                · first | contradiction | ((try clear hK); (try clear hN); (try clear hW); simp [inR, vTaken, mOf, -Int32.not_lt, -Int32.not_le, *])
                · rfl
              · refine b_aload_n (pc := 107) (i := 0) (dd dtX11_taken 59 rfl) rfl rfl ?_
                refine b_geta (pc := 108) (dd dtX11_taken 60 rfl) fwX11_60 pM_0 rM_0_15 ?_
                refine b_iload_n (pc := 111) (i := 2) (dd dtX11_taken 61 rfl) rfl rfl ?_
                refine b_iald (pc := 112) (dd dtX11_taken 62 rfl) pM_11 (by first | contradiction | exact vpm (by rw [hN] at h59; exact h59) hN2 (by decide)) ?_
                refine b_goto (pc := 113) (tgt := 118) (dd dtX11_taken 63 rfl) (by decide) ?_
                refine b_eq (b_iret (dd dtX11_taken 65 rfl) rfl) ?_ ?_
                · first | contradiction | ((try clear hK); (try clear hN); (try clear hW); simp [inR, vTaken, mOf, -Int32.not_lt, -Int32.not_le, *])
                · rfl
          · refine b_iload_n (pc := 69) (i := 3) (dd dtX11_taken 38 rfl) rfl rfl ?_
            refine b_bipush (pc := 70) (v := 6) (dd dtX11_taken 39 rfl) (by decide) ?_
            refine b_icmpL_ge (pc := 72) (tgt := 93) (dd dtX11_taken 40 rfl) (by decide) (fun h72 => ?_) (fun h72 => ?_)
            · refine b_bipush (pc := 93) (v := -13) (dd dtX11_taken 51 rfl) (by decide) ?_
              refine b_eq (b_iret (dd dtX11_taken 52 rfl) rfl) ?_ ?_
              · first | contradiction | ((try clear hK); (try clear hN); (try clear hW); simp [inR, vTaken, mOf, -Int32.not_lt, -Int32.not_le, *])
              · rfl
            · refine b_aload_n (pc := 75) (i := 0) (dd dtX11_taken 41 rfl) rfl rfl ?_
              refine b_iload_n (pc := 76) (i := 2) (dd dtX11_taken 42 rfl) rfl rfl ?_
              refine b_iload_n (pc := 77) (i := 3) (dd dtX11_taken 43 rfl) rfl rfl ?_
              refine b_invV (pc := 78) (dd dtX11_taken 44 rfl) mlX11_423 mvX11_isOfKind miX11_isOfKind (c_X11_isOfKind (by first | contradiction | exact vpm (by rw [hK] at h59; exact h59) hK2 (by decide))) oM_0 rfl rfl (by decide) (Nat.le_of_ble_eq_true rfl) ?_
              refine b_ifb_eq (pc := 81) (tgt := 93) (dd dtX11_taken 45 rfl) (by decide) (fun h81 => ?_) (fun h81 => ?_)
              · refine b_bipush (pc := 93) (v := -13) (dd dtX11_taken 51 rfl) (by decide) ?_
                refine b_eq (b_iret (dd dtX11_taken 52 rfl) rfl) ?_ ?_
                · first | contradiction | ((try clear hK); (try clear hN); (try clear hW); simp [inR, vTaken, mOf, -Int32.not_lt, -Int32.not_le, *])
                · rfl
              · refine b_aload_n (pc := 84) (i := 0) (dd dtX11_taken 46 rfl) rfl rfl ?_
                refine b_geta (pc := 85) (dd dtX11_taken 47 rfl) fwX11_85 pM_0 rM_0_23 ?_
                refine b_iload_n (pc := 88) (i := 2) (dd dtX11_taken 48 rfl) rfl rfl ?_
                refine b_iald (pc := 89) (dd dtX11_taken 49 rfl) pM_18 (by first | contradiction | exact vpm (by rw [hK] at h59; exact h59) hK2 (by decide)) ?_
                refine b_goto (pc := 90) (tgt := 95) (dd dtX11_taken 50 rfl) (by decide) ?_
                refine b_eq (b_iret (dd dtX11_taken 52 rfl) rfl) ?_ ?_
                · first | contradiction | ((try clear hK); (try clear hN); (try clear hW); simp [inR, vTaken, mOf, -Int32.not_lt, -Int32.not_le, *])
                · rfl
        · refine b_bipush (pc := 62) (v := -11) (dd dtX11_taken 34 rfl) (by decide) ?_
          refine b_eq (b_iret (dd dtX11_taken 35 rfl) rfl) ?_ ?_
          · first | contradiction | ((try clear hK); (try clear hN); (try clear hW); simp [inR, vTaken, mOf, -Int32.not_lt, -Int32.not_le, *])
          · rfl
    · refine b_bipush (pc := 21) (v := -2) (dd dtX11_taken 12 rfl) (by decide) ?_
      refine b_eq (b_iret (dd dtX11_taken 13 rfl) rfl) ?_ ?_
      · first | contradiction | ((try clear hK); (try clear hN); (try clear hW); simp [inR, vTaken, mOf, -Int32.not_lt, -Int32.not_le, *])
      · rfl
