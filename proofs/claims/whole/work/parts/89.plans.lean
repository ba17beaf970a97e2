/-! plan -/
theorem GH.two {I J : Wd} (hH : GH I J) (s : Int32) : ∃ z y, (inR s 0 3 → I (kS s) 1 = nI z ∧ z ≤ 40) ∧ (inR s 0 3 → J 45 s.toNatClampNeg = nI y ∧ y ≤ 40) ∧ (inR s 0 3 → (I (kS s) 0 = -1 ↔ J 44 s.toNatClampNeg < 0)) ∧ (inR s 0 3 → ¬ J 44 s.toNatClampNeg < 0 → z = y ∧ ∀ q, q < z → I (kS s + 1) q = itM J s q) := by
  by_cases h : inR s 0 3
  · obtain ⟨i, z, y, e, hi, ek, a1, a2, a3, a4, a5, a6, a7⟩ := hH.at h
    refine ⟨z, y, fun _ => ⟨a1, a2⟩, fun _ => ⟨by rw [e]; exact a3, a4⟩, fun _ => by rw [e]; exact a6, fun _ q => ?_⟩
    unfold itM
    rw [e] at q ⊢
    exact a7 q
  · exact ⟨0, 0, fun z => absurd z h, fun z => absurd z h, fun z => absurd z h, fun z => absurd z h⟩
theorem set_harm {I W : Wd} {N P : Nat} (hB : GB I W N P) (hC : GC W) {n : Int32} (hn : inR n 1 60) (seen : Int32) : planJ N P I n 18 4 - I 6 4 = (plM3 N P W n seen 0 2 - W 0 2) + sSp (I 14) (planJ N P I n 26) (I 15) (I 4) seen N ∧ planJ N P I n 18 4 - I 6 4 = dS (sHarm (I 3) (I 4) (I 15)) (I 14) (planJ N P I n 26) N := by
  obtain ⟨⟨⟨n1, n2, n3⟩, p1, p2, p3⟩, ⟨u1, u2, u3, u4⟩, ⟨cc, cr⟩, ⟨m, m1, m2, m3, m4⟩, ⟨r1, r2, r3⟩, g6, g7, g8, g9, g10, g11, g12, g13⟩ := id hB
  obtain ⟨-, -, -, bp, bh⟩ := becW (g := 18) (k := 6) (I := I) (by omega)
  have hb : ∀ h, h < N → becomeW 18 6 I 27 h = W 16 h := fun h hx => ((bh h (by omega)).2).trans (g6 h hx).2
  have hq : ∀ q, q < P → becomeW 18 6 I 25 q = W 15 q := fun q hx => (bp q (by omega)).trans (g9 q hx)
  have hn2 := (n60 hn).2
  have X0 : ∀ a, a ≠ 16 → a ≠ 43 → mvW (keepW W 0) seen N a = W a := fun a h16 h43 => by unfold mvW; rw [rset_ne h16]; exact keepW_fr h43
  obtain ⟨y1, y2, y3, y4⟩ := lk_start (I0 := becomeW 18 6 I) (J0 := W) hB hC (fun a _ _ => rfl) (fun a _ _ _ => rfl) hq
  obtain ⟨x1, x2, -, -⟩ := lk_start (I0 := becomeW 18 6 I) (J0 := mvW (keepW W 0) seen N) hB hC (fun a _ _ => rfl) (fun a _ h16 h43 => X0 a h16 h43) (fun q hx => by rw [X0 15 (by decide) (by decide)]; exact hq q hx)
  have e : becomeW 18 6 I 18 1 = nI m := by rw [y4, m1]
  have A1 := (L_months (by decide) y1 y2 e n.toNatClampNeg (by omega)).1
  have A2 := (L_months (by decide) x1 x2 e n.toNatClampNeg (by omega)).1
  have H1 := ((y3 hb).months (by decide) y1 y2 e n.toNatClampNeg (by omega)).1.1
  have D1 := (DI.months (N := N) (P := P) m2 n.toNatClampNeg (by omega)).1.1
  have D2 := (DI.months (W := mvW (keepW W 0) seen N) (N := N) (P := P) (m := m) (by rw [X0 0 (by decide) (by decide)]; exact m2) n.toNatClampNeg (by omega)).1.1
  rw [X0 0 (by decide) (by decide), X0 11 (by decide) (by decide), X0 12 (by decide) (by decide), X0 13 (by decide) (by decide)] at D2
  have G1 : ∀ i, i < N → planJ N P I n 26 i = monsM N P W n.toNatClampNeg 13 i := fun i hi => A1.2.2.2.2.1 i hi
  have G2 : ∀ i, i < N → planJ N P I n 26 i = plM3 N P W n seen 13 i := fun i hi => A2.2.2.2.2.1 i hi
  have E1 : planJ N P I n 18 4 = monsM N P W n.toNatClampNeg 0 2 := H1
  have E2 : plM3 N P W n seen 0 2 = W 0 2 + dS (sHarm (W 11) (W 12) (mvW (keepW W 0) seen N 16)) (W 13) (plM3 N P W n seen 13) N := D2
  have S1 : planJ N P I n 18 4 - I 6 4 = dS (sHarm (I 3) (I 4) (I 15)) (I 14) (planJ N P I n 26) N := by
    rw [E1, D1, r2, Int32.add_comm, Int32.add_sub_cancel]
    exact dS_cg N (fun i hi => ⟨by rw [u2, u3]; exact sHarm_eq (g6 i hi).2.symm, (g6 i hi).1.symm, (G1 i hi).symm⟩)
  have S2 : plM3 N P W n seen 0 2 - W 0 2 = dS (sHarm (I 3) (I 4) (mvW (keepW W 0) seen N 16)) (I 14) (planJ N P I n 26) N := by
    rw [E2, Int32.add_comm, Int32.add_sub_cancel]
    exact dS_cg N (fun i hi => ⟨by rw [u2, u3], (g6 i hi).1.symm, (G2 i hi).symm⟩)
  refine ⟨?_, S1⟩
  rw [S1, S2]
  refine dS_split N (by omega) (fun i hi => ?_)
  unfold mvW
  rw [rset_eq, fil_in hi, keepW_fr (by decide), (g6 i hi).2]
theorem toL_lt {a b c : Nat} (hb : b ≤ a) (hc : c ≤ a) (ha : a ≤ 2800000) : ((nI a - nI c).toInt64 < (nI a - nI b).toInt64 ↔ b < c) ∧ ¬ (nI a - nI b).toInt64 < 0 := by
  rw [sub_n hb, sub_n hc, i64n (by omega), i64n (by omega), Int64.lt_iff_toInt_lt, Int64.lt_iff_toInt_lt, lN_toInt (by omega), lN_toInt (by omega)]
  have e : (0 : Int64).toInt = 0 := rfl
  rw [e]
  omega
theorem bS_z {k : Nat} (h : k < 32) : bitS 0 k = 0 := (bS0 h).mpr BitVec.getLsbD_zero
theorem sHs_0 {nums : Nat → Int32} : ∀ k, k ≤ 32 → sHs nums (nI 0) k = 0 := by
  intro k
  induction k with
  | zero => intro _; rfl
  | succ k ih =>
    intro hk
    show (if bitS (nI 0) k = 0 then sHs nums (nI 0) k else _) = 0
    rw [if_pos (show bitS (nI 0) k = 0 from bS_z (by omega)), ih (by omega)]
theorem sPm_0 {aw ppl : Nat → Int32} : ∀ n, n ≤ 32 → sPm aw ppl 0 n = 0 := by
  intro n
  induction n with
  | zero => intro _; rfl
  | succ n ih =>
    intro hn
    show (if bitS 0 n = 0 then sPm aw ppl 0 n else _) = 0
    rw [if_pos (bS_z (k := n) (by omega)), ih (by omega)]
theorem sSp_0 {g g2 aw p : Nat → Int32} : ∀ n, n ≤ 32 → sSp g g2 aw p 0 n = 0 := by
  intro n
  induction n with
  | zero => intro _; rfl
  | succ n ih =>
    intro hn
    show (if bitS 0 n = 0 then sSp g g2 aw p 0 n else _) = 0
    rw [if_pos (bS_z (k := n) (by omega)), ih (by omega)]
theorem plM_67 {N P z : Nat} {s room n hb : Int32} {J : Wd} {a : Nat} (ha : a = 6 ∨ a = 7) : ∀ h, (plM N P z s room n hb J h).2.2 a = J a := by
  intro h
  induction h with
  | zero => rfl
  | succ h ih =>
    show (plM1 N P z s room n hb h (plM N P z s room n hb J h)).2.2 a = _
    generalize plM N P z s room n hb J h = q at *
    have e : ∀ x, plM4 N P q.2.2 n x a = q.2.2 a := fun x => by
      unfold plM4
      rw [put_fr (by omega) (by omega) (by omega) (by omega) (by omega) (by omega) (by omega) (by omega) (by omega) (by omega)]
      unfold plM3
      rw [monsM_fr (by omega) (by omega) (by omega) (by omega) (by omega) (by omega) (by omega) (by omega)]
      unfold mvW
      rw [rset_ne (by omega), keepW_fr (by omega)]
    unfold plM1
    split
    · exact ih
    · split
      · show plM4 _ _ _ _ _ a = _
        rw [e]; exact ih
      · show plM4 _ _ _ _ _ a = _
        rw [e]; exact ih
theorem RelP.told {I J : Wd} {N P K L Wn : Nat} {v : Int32} (h : RelP I J N P K L Wn) : RelP (ist I 0 13 v) (ist J 0 72 v) N P K L Wn := by
  obtain ⟨hB, hS, hL, hW, hF, hT, hO, hK, hH, hC⟩ := h
  exact ⟨hB.fr (fun a a1 a2 => (by first | rfl | (simp (disch := omega) only [ist_eq, ist_ne, upd_ne, rset_ne]))) (fun a a1 a2 a3 a4 a5 => (by first | rfl | (simp (disch := omega) only [ist_eq, ist_ne, upd_ne, rset_ne]))) (fun j j1 => (by first | rfl | (simp (disch := omega) only [ist_eq, ist_ne, upd_ne, rset_ne]))), hS.fr (fun a a1 a2 => (by first | rfl | (simp (disch := omega) only [ist_eq, ist_ne, upd_ne, rset_ne]))) (fun a a1 a2 => (by first | rfl | (simp (disch := omega) only [ist_eq, ist_ne, upd_ne, rset_ne]))) (by first | rfl | (simp (disch := omega) only [ist_eq, ist_ne, upd_ne, rset_ne])), hL.fr (fun a a1 a2 => (by first | rfl | (simp (disch := omega) only [ist_eq, ist_ne, upd_ne, rset_ne]))) (fun a a1 a2 => (by first | rfl | (simp (disch := omega) only [ist_eq, ist_ne, upd_ne, rset_ne]))) (by first | rfl | (simp (disch := omega) only [ist_eq, ist_ne, upd_ne, rset_ne])), hW.fr (fun a a1 a2 => (by first | rfl | (simp (disch := omega) only [ist_eq, ist_ne, upd_ne, rset_ne]))) (fun a a1 a2 => (by first | rfl | (simp (disch := omega) only [ist_eq, ist_ne, upd_ne, rset_ne]))) (by first | rfl | (simp (disch := omega) only [ist_eq, ist_ne, upd_ne, rset_ne])), hF.fr (fun a a1 a2 => (by first | rfl | (simp (disch := omega) only [ist_eq, ist_ne, upd_ne, rset_ne]))) (fun a a1 a2 => (by first | rfl | (simp (disch := omega) only [ist_eq, ist_ne, upd_ne, rset_ne]))) (fun j j1 j2 => (by first | rfl | (simp (disch := omega) only [ist_eq, ist_ne, upd_ne, rset_ne]))), hT.fr (fun a a1 => (by first | rfl | (simp (disch := omega) only [ist_eq, ist_ne, upd_ne, rset_ne]))) (fun a a1 a2 => (by first | rfl | (simp (disch := omega) only [ist_eq, ist_ne, upd_ne, rset_ne]))) (fun j j1 j2 => (by first | rfl | (simp (disch := omega) only [ist_eq, ist_ne, upd_ne, rset_ne]))), by obtain ⟨z1, z2⟩ := hO; unfold GO; rw [ist_eq, upd_ne (by decide), upd_eq, ist_eq, upd_ne (by decide), upd_eq]; exact ⟨z1, rfl⟩, hK.fr (by first | rfl | (simp (disch := omega) only [ist_eq, ist_ne, upd_ne, rset_ne])) (fun a a1 a2 => (by first | rfl | (simp (disch := omega) only [ist_eq, ist_ne, upd_ne, rset_ne]))) (fun x x1 => (by first | rfl | (simp (disch := omega) only [ist_eq, ist_ne, upd_ne, rset_ne]))) (fun j j1 j2 => (by first | rfl | (simp (disch := omega) only [ist_eq, ist_ne, upd_ne, rset_ne]))), hH.fr (fun a a1 a2 => (by first | rfl | (simp (disch := omega) only [ist_eq, ist_ne, upd_ne, rset_ne]))) (fun a a1 a2 => (by first | rfl | (simp (disch := omega) only [ist_eq, ist_ne, upd_ne, rset_ne]))), hC.fr (fun a a1 => (by first | rfl | (simp (disch := omega) only [ist_eq, ist_ne, upd_ne, rset_ne])))⟩
theorem pl_pick {I J : Wd} {N P z k : Nat} {s room n : Int32} (hB : GB I J N P) (hC : GC J) (hn : inR n 1 60) (hr : inR room 0 999) (hz : z ≤ 8) (hit : ∀ q, q < z → I (k + 1) q = itM J s q ∧ inR (itM J s q) 0 (nI N - 1)) : ∃ a, a ≤ 2800000 ∧ planJ N P I n 18 4 - I 6 4 = nI a ∧ ∀ h, 1 ≤ h → h ≤ 2 ^ z → ∃ b, (plS I (planJ N P I n) k z N room h).1 = nI b ∧ b ≤ a ∧ (plM N P z s room n (J 0 2) J h).1 = (nI a - nI b).toInt64 ∧ (plM N P z s room n (J 0 2) J h).2.1 = (plS I (planJ N P I n) k z N room h).2 := by
  obtain ⟨⟨⟨n1, n2, n3⟩, p1, p2, p3⟩, ⟨u1, u2, u3, u4⟩, -, -, ⟨r1, r2, r3⟩, g6, g7, -, -, -, -, g12, -⟩ := id hB
  have hbo : ∀ i, i < N → J 16 i = 0 ∨ J 16 i = 1 := fun i hi => by rw [← (g6 i hi).2]; exact g7 i (by omega)
  have hrng := fun x => dS_rng (w := I 3) (p := I 4) (aw := I 15) (g := I 14) (g2 := planJ N P I n 26) (x := x) N (by omega) (fun i hi => (g12 i hi).2)
  obtain ⟨a, -, ha, -, -, ha2⟩ := hrng 0
  have hA : planJ N P I n 18 4 - I 6 4 = nI a := by rw [(set_harm hB hC hn 0).2, ha]
  refine ⟨a, by omega, hA, ?_⟩
  -- what the reference does with one set
  have step : ∀ h, ∃ W : Wd, SameM N P J W ∧ W = (plM N P z s room n (J 0 2) J h).2.2 ∧ pnM (itM W s) (W 16) (W 12) (nI h) z = (sPm (I 15) (I 4) (sHs (I (k + 1)) (nI h) z) N, sHs (I (k + 1)) (nI h) z) ∧ ∃ c, sSp (I 14) (planJ N P I n 26) (I 15) (I 4) (sHs (I (k + 1)) (nI h) z) N = nI c ∧ c ≤ a ∧ plM3 N P W n (sHs (I (k + 1)) (nI h) z) 0 2 - J 0 2 = nI a - nI c := by
    intro h
    have hs : SameM N P J (plM N P z s room n (J 0 2) J h).2.2 := sameR n3 p3 hbo
    have h6 := plM_67 (N := N) (P := P) (z := z) (s := s) (room := room) (n := n) (hb := J 0 2) (J := J) (Or.inl rfl) h
    have h7 := plM_67 (N := N) (P := P) (z := z) (s := s) (room := room) (n := n) (hb := J 0 2) (J := J) (Or.inr rfl) h
    generalize (plM N P z s room n (J 0 2) J h).2.2 = W at hs h6 h7 ⊢
    have hBW : GB I W N P := hB.same (fun _ _ => rfl) hs
    have sf := hs.2.2.2.2.2.2
    have hCW : GC W := by
      obtain ⟨h67, h26⟩ := hC
      refine ⟨?_, ?_⟩
      · intro r hr
        rw [h6, h7]
        exact h67 r hr
      · rw [sf 26 (by decide) (by decide) (by decide) (by decide) (by decide)]; exact h26
    refine ⟨W, hs, rfl, ?_, ?_⟩
    · have e1 : ∀ q, itM W s q = itM J s q := fun q => by unfold itM; rw [sf 46 (by decide) (by decide) (by decide) (by decide) (by decide)]
      rw [pn_eq (nums := I (k + 1)) n3 z (fun i hi => ?_)]
      · rw [sf 12 (by decide) (by decide) (by decide) (by decide) (by decide), u3, sPm_cg N (fun i hi => show W 16 i = I 15 i by rw [(hs.2.2.1 i hi).2, (g6 i hi).2])]
      · rw [e1]
        obtain ⟨j, ej, hj, ec⟩ := inR_n (hit i hi).2 (by omega)
        exact ⟨(hit i hi).1.symm, j, ej, hj, ec⟩
    · obtain ⟨a', c, e1, e2, e3, e4⟩ := hrng (sHs (I (k + 1)) (nI h) z)
      have hh := (set_harm hBW hCW hn (sHs (I (k + 1)) (nI h) z)).1
      rw [hA, e2] at hh
      have ea : nI a' = nI a := by rw [← e1, ha]
      refine ⟨c, e2, ?_, ?_⟩
      · have hx := e3
        have hy : a' = a := by
          have := congrArg Int32.toInt ea
          rw [nI_toInt (by omega), nI_toInt (by omega)] at this
          omega
        omega
      · rw [← hs.1 2, hh, Int32.add_sub_cancel]
  intro h
  induction h with
  | zero => intro h1; omega
  | succ h ih =>
    intro _ hle
    obtain ⟨W, hs, eW, ePn, c, ec, hc, eB⟩ := step h
    show ∃ b, (if h = 0 then ((0 : Int32), (0 : Int32)) else if (plS I (planJ N P I n) k z N room h).1 < plSp I (planJ N P I n) k z N room (nI h) then (plSp I (planJ N P I n) k z N room (nI h), nI h) else plS I (planJ N P I n) k z N room h).1 = nI b ∧ b ≤ a ∧ (plM1 N P z s room n (J 0 2) h (plM N P z s room n (J 0 2) J h)).1 = (nI a - nI b).toInt64 ∧ (plM1 N P z s room n (J 0 2) h (plM N P z s room n (J 0 2) J h)).2.1 = (if h = 0 then ((0 : Int32), (0 : Int32)) else if (plS I (planJ N P I n) k z N room h).1 < plSp I (planJ N P I n) k z N room (nI h) then (plSp I (planJ N P I n) k z N room (nI h), nI h) else plS I (planJ N P I n) k z N room h).2
    unfold plM1
    rw [← eW, ePn]
    by_cases h0 : h = 0
    · subst h0
      rw [if_pos rfl]
      rw [sHs_0 z (by omega)] at ec eB ⊢
      rw [sSp_0 N (by omega)] at ec
      have c0 : c = 0 := by
        have := congrArg Int32.toInt ec
        rw [nI_toInt (by omega), show (0 : Int32).toInt = 0 from rfl] at this
        omega
      subst c0
      refine ⟨0, rfl, Nat.zero_le _, ?_, ?_⟩
      · show (if room < sPm (I 15) (I 4) 0 N then _ else _ : Int64 × Int32 × Wd).1 = _
        rw [sPm_0 N (by omega), if_neg hr.1, if_neg (fun q => q.1 (show (-1 : Int64) < 0 by decide))]
        show (plM3 N P W n 0 0 2 - J 0 2).toInt64 = _
        rw [eB]
      · show (if room < sPm (I 15) (I 4) 0 N then _ else _ : Int64 × Int32 × Wd).2.1 = _
        rw [sPm_0 N (by omega), if_neg hr.1, if_neg (fun q => q.1 (show (-1 : Int64) < 0 by decide))]
        rfl
    · rw [if_neg h0]
      obtain ⟨b, i1, i2, i3, i4⟩ := ih (by omega) (by omega)
      have lt := toL_lt i2 hc (by omega)
      unfold plSp
      rw [ec]
      by_cases q : room < sPm (I 15) (I 4) (sHs (I (k + 1)) (nI h) z) N
      · rw [if_pos q, if_pos q, i1, if_neg (c := nI b < 0) (fun w => absurd (lt_n (N := 0) w (by omega) (by decide)) (Nat.not_lt_zero b))]
        exact ⟨b, i1, i2, i3, i4⟩
      · rw [if_neg q, if_neg q, i1, i3, eB]
        by_cases q2 : b < c
        · rw [if_neg (c := ¬ (nI a - nI b).toInt64 < 0 ∧ ¬ (nI a - nI c).toInt64 < (nI a - nI b).toInt64) (fun w => w.2 (lt.1.mpr q2)), if_pos (c := nI b < nI c) (nI_lt q2 (by omega))]
          exact ⟨c, rfl, hc, rfl, rfl⟩
        · rw [if_pos (c := ¬ (nI a - nI b).toInt64 < 0 ∧ ¬ (nI a - nI c).toInt64 < (nI a - nI b).toInt64) ⟨lt.2, fun w => q2 (lt.1.mp w)⟩, if_neg (c := nI b < nI c) (fun w => q2 (lt_n w (by omega) (by omega)))]
          exact ⟨b, i1, i2, rfl, i4⟩
set_option maxHeartbeats 2000000 in
theorem k_plan {I J : Wd} (h : Rel I J) (s room n : Int32) : CallOK mX10_plan mX11_plan [.int s, .int room, .int n] I J := by
  obtain ⟨N, P, K, L, Wn, hB, hS, hL, hW, hF, hT, hO, hK, hH, hC⟩ := h
  have hR : Rel I J := ⟨N, P, K, L, Wn, hB, hS, hL, hW, hF, hT, hO, hK, hH, hC⟩
  obtain ⟨⟨⟨n1, n2, n3⟩, p1, p2, p3⟩, ⟨u1, u2, u3, u4⟩, ⟨cc, cr⟩, ⟨m, m1, m2, m3, m4⟩, ⟨r1, r2, r3⟩, g6, g7, g8, g9, g10, g11, g12, g13⟩ := id hB
  obtain ⟨z, y, q1, q2, q3, q4⟩ := hH.two s
  have hq : okPlan (I (kS s) 0 = -1) (hhP I s z) (I 6 1) s room n ↔ okPlM J y s room n := by
    unfold okPlan okPlM hhP
    rw [m1, m2, n1, n2]
    constructor
    · rintro ⟨⟨a1, a2⟩, ⟨⟨a3, a4⟩, a5⟩, a6, a7⟩
      have h4 : ¬ J 44 s.toNatClampNeg < 0 := fun w => a2 ((q3 a1).mpr w)
      obtain ⟨e, e2⟩ := q4 a1 h4
      subst e
      exact ⟨a1, h4, a3, a5, a6, (left_eq m3 a6).1.mp a7, fun k hk => by rw [← e2 k hk]; exact a4 k hk⟩
    · rintro ⟨a1, a2, a3, a5, a6, a7, a8⟩
      obtain ⟨e, e2⟩ := q4 a1 a2
      subst e
      exact ⟨⟨a1, fun w => a2 ((q3 a1).mp w)⟩, ⟨⟨a3, fun k hk => by rw [e2 k hk]; exact a8 k hk⟩, a5⟩, a6, (left_eq m3 a6).1.mpr a7⟩
  have pick : okPlM J y s room n → (planJ N P I n 18 4 - I 6 4 - (plS I (planJ N P I n) (kS s) z N room (2 ^ z)).1).toInt64 = (plR J N P y s room n).1 ∧ (plS I (planJ N P I n) (kS s) z N room (2 ^ z)).2 = (plR J N P y s room n).2.1 := by
    intro q
    obtain ⟨a1, a2, a3, a5, a6, a7, a8⟩ := id q
    obtain ⟨e, e2⟩ := q4 a1 a2
    subst e
    have hz8 : z ≤ 8 := le8 a3 (q1 a1).2
    obtain ⟨a, b1, b2, b3⟩ := pl_pick (k := kS s) (s := s) (room := room) hB hC a6 a5 hz8 (fun q hq => ⟨e2 q hq, by rw [← n2]; exact a8 q hq⟩)
    obtain ⟨b, c1, c2, c3, c4⟩ := b3 (2 ^ z) (pow_n z hz8).1 (Nat.le_refl _)
    unfold plR
    rw [b2, c1, c3, c4]
    exact ⟨rfl, rfl⟩
  refine CallOK.mk (by decide) (by decide) (c_X10_plan (N := N) (P := P) ⟨⟨n1, n3⟩, ⟨p1, p3⟩, g11, g13⟩ (fun i hi => fit01 (g7 i hi)) q1) (c_X11_plan (N := N) (P := P) ⟨⟨n2, n3⟩, ⟨p2, p3⟩, fun c hc => by rw [← (cc c hc).1]; exact g11 c hc, by rw [← u4]; exact g13⟩ (fun i hi => by rw [← (g6 i hi).2]; exact g7 i (by omega)) q2) ?_ ?_
  · by_cases q : okPlM J y s room n
    · rw [if_pos q, if_pos (hq.mpr q), (pick q).1]
    · rw [if_neg q, if_neg (fun w => q (hq.mp w))]
  · refine Rel.c2 hq (fun w => ?_) hR
    have q := hq.mp w
    rw [(pick q).2]
    have hr := RelP.same (I' := planJ N P I n) (J' := (plR J N P y s room n).2.2) ⟨hB, hS, hL, hW, hF, hT, hO, hK, hH, hC⟩ (fun a ha => planJ_fr ha) (sameR n3 p3 (fun i hi => by rw [← (g6 i hi).2]; exact g7 i (by omega))) (plM_67 (Or.inl rfl) _) (plM_67 (Or.inr rfl) _)
    exact ⟨N, P, K, L, Wn, hr.told⟩
