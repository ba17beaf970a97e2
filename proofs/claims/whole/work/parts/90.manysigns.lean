/-! many signs at once -/
theorem sign_1 {W V : Wd} (h : Rel W V) (k c v : Int32) : vSign (W 42 0).toNatClampNeg k c v = vSign (V 0 21).toNatClampNeg k c v ∧ Rel (sgWC W k c v) (sgWM V k c v) := by
  obtain ⟨N, P, K, L, Wn, hB, hS, hL, hW, hF, hT, hO, hK, hH, hC⟩ := h
  have hR : Rel W V := ⟨N, P, K, L, Wn, hB, hS, hL, hW, hF, hT, hO, hK, hH, hC⟩
  obtain ⟨-, -, -, ⟨m, m1, m2, m3, m4⟩, -⟩ := id hB
  obtain ⟨⟨s1, s2, s3⟩, -⟩ := id hS
  have e1 : (W 42 0).toNatClampNeg = K := by rw [s1]; exact nI_clamp (by omega)
  have e2 : (V 0 21).toNatClampNeg = K := by rw [s2]; exact nI_clamp (by omega)
  unfold sgWC sgWM
  rw [e1, e2, m1, m2]
  refine ⟨rfl, Rel.c (fun q => ⟨N, P, K + 1, L, Wn, hB.fr (fun a a1 a2 => (by first | rfl | (simp (disch := omega) only [ist_eq, ist_ne, upd_ne, rset_ne]))) (fun a a1 a2 a3 a4 a5 => (by first | rfl | (simp (disch := omega) only [ist_eq, ist_ne, upd_ne, rset_ne]))) (fun j j1 => (by first | rfl | (simp (disch := omega) only [ist_eq, ist_ne, upd_ne, rset_ne]))), hS.add q.2.2 q.2.1.1 q.2.1.2 m2, hL.fr (fun a a1 a2 => (by first | rfl | (simp (disch := omega) only [ist_eq, ist_ne, upd_ne, rset_ne]))) (fun a a1 a2 => (by first | rfl | (simp (disch := omega) only [ist_eq, ist_ne, upd_ne, rset_ne]))) (by first | rfl | (simp (disch := omega) only [ist_eq, ist_ne, upd_ne, rset_ne])), hW.fr (fun a a1 a2 => (by first | rfl | (simp (disch := omega) only [ist_eq, ist_ne, upd_ne, rset_ne]))) (fun a a1 a2 => (by first | rfl | (simp (disch := omega) only [ist_eq, ist_ne, upd_ne, rset_ne]))) (by first | rfl | (simp (disch := omega) only [ist_eq, ist_ne, upd_ne, rset_ne])), hF.fr (fun a a1 a2 => (by first | rfl | (simp (disch := omega) only [ist_eq, ist_ne, upd_ne, rset_ne]))) (fun a a1 a2 => (by first | rfl | (simp (disch := omega) only [ist_eq, ist_ne, upd_ne, rset_ne]))) (fun j j1 j2 => (by first | rfl | (simp (disch := omega) only [ist_eq, ist_ne, upd_ne, rset_ne]))), hT.fr (fun a a1 => (by first | rfl | (simp (disch := omega) only [ist_eq, ist_ne, upd_ne, rset_ne]))) (fun a a1 a2 => (by first | rfl | (simp (disch := omega) only [ist_eq, ist_ne, upd_ne, rset_ne]))) (fun j j1 j2 => (by first | rfl | (simp (disch := omega) only [ist_eq, ist_ne, upd_ne, rset_ne]))), hO.fr (fun j j1 j2 => (by first | rfl | (simp (disch := omega) only [ist_eq, ist_ne, upd_ne, rset_ne]))) (by first | rfl | (simp (disch := omega) only [ist_eq, ist_ne, upd_ne, rset_ne])) (by first | rfl | (simp (disch := omega) only [ist_eq, ist_ne, upd_ne, rset_ne])), hK.fr (by first | rfl | (simp (disch := omega) only [ist_eq, ist_ne, upd_ne, rset_ne])) (fun a a1 a2 => (by first | rfl | (simp (disch := omega) only [ist_eq, ist_ne, upd_ne, rset_ne]))) (fun x x1 => (by first | rfl | (simp (disch := omega) only [ist_eq, ist_ne, upd_ne, rset_ne]))) (fun j j1 j2 => (by first | rfl | (simp (disch := omega) only [ist_eq, ist_ne, upd_ne, rset_ne]))), hH.fr (fun a a1 a2 => (by first | rfl | (simp (disch := omega) only [ist_eq, ist_ne, upd_ne, rset_ne]))) (fun a a1 a2 => (by first | rfl | (simp (disch := omega) only [ist_eq, ist_ne, upd_ne, rset_ne]))), hC.fr (fun a a1 => (by first | rfl | (simp (disch := omega) only [ist_eq, ist_ne, upd_ne, rset_ne])))⟩) hR⟩
theorem ok3 {z h : Nat} {fr : Int32} (hz : z ≤ 40) (hh : h ≤ 13) (hc : h = 0 ∨ ¬ fr < 0) : (ok3C z fr h ↔ ok3M z fr h) ∧ (ok3M z fr h → ∃ j, fr = nI j ∧ j + 3 * h + 3 ≤ z) := by
  by_cases q : fr < 0
  · have e : h = 0 := hc.resolve_right (fun z => z q)
    subst e
    refine ⟨⟨fun w => ?_, fun w => absurd q w.1⟩, fun w => absurd q w.1⟩
    have w1 := w.1.1
    rw [show fr + 3 * nI 0 = fr from Int32.add_zero fr] at w1
    exact absurd q w1
  · obtain ⟨j, hj, e⟩ := nI_of q
    subst e
    unfold ok3C ok3M
    rw [show (3 : Int32) = nI 3 from rfl, nI_mul, nI_a]
    have e3 : nI z - nI (3 * h) - nI 3 = nI z - nI (3 * h + 3) := by rw [← nI_a, Int32.sub_eq_add_neg, Int32.sub_eq_add_neg, Int32.sub_eq_add_neg, Int32.neg_add, Int32.add_assoc, Int32.sub_eq_add_neg]
    rw [e3, show (2 : Int32) = nI 2 from rfl, nI_a]
    by_cases p : j + 3 * h + 3 ≤ z
    · have e4 : nI z - 1 = nI (z - 1) := sub_n (a := z) (b := 1) (by omega)
      rw [e4, sub_n (by omega)]
      refine ⟨⟨fun _ => ⟨q, fun w => ?_⟩, fun _ => ⟨⟨?_, ?_⟩, ?_, ?_⟩⟩, fun _ => ⟨j, rfl, p⟩⟩
      · have := lt_n w (by omega) (by omega); omega
      · exact nI_pos (by omega)
      · intro w; have := lt_n w (by omega) (by omega); omega
      · exact nI_pos (by omega)
      · intro w; have := lt_n w (by omega) (by omega); omega
    · have hM : ¬ (¬ nI j < 0 ∧ ¬ nI z - nI (3 * h + 3) < nI j) := by
        intro w
        by_cases p2 : 3 * h + 3 ≤ z
        · rw [sub_n p2] at w
          exact w.2 (nI_lt (by omega) hj)
        · have h1 := sub_neg (a := z) (b := 3 * h + 3) (by omega) (by omega)
          refine w.2 ?_
          rw [Int32.lt_iff_toInt_lt] at h1 q ⊢
          omega
      have hCn : ¬ (inR (nI (j + 3 * h)) 0 (nI z - 1) ∧ inR (nI (j + 3 * h + 2)) 0 (nI z - 1)) := by
        intro w
        obtain ⟨⟨x1, x2⟩, x3, x4⟩ := w
        have e1 : (nI z - 1).toInt = (z : Int) - 1 := by
          cases z with
          | zero => rfl
          | succ z =>
            show (nI (z + 1) - nI 1).toInt = _
            rw [sub_n (a := z + 1) (b := 1) (by omega), nI_toInt (by omega)]; omega
        rw [Int32.lt_iff_toInt_lt] at x2 x3 x4
        rw [e1] at x2 x4
        by_cases p2 : j + 3 * h + 2 < 2 ^ 31
        · rw [nI_toInt p2] at x4
          omega
        · have e5 : (nI (j + 3 * h + 2)).toInt = (j + 3 * h + 2 : Int) - 2 ^ 32 := by
            have e6 : (nI (j + 3 * h + 2)).toInt = ((j + 3 * h + 2 : Nat) : Int).bmod (2 ^ 32) := Int32.toInt_ofNat'
            rw [e6]
            rw [Int.bmod_def]
            omega
          rw [e5] at x3
          have e0 : (0 : Int32).toInt = 0 := rfl
          omega
      exact ⟨⟨fun w => absurd w hCn, fun w => absurd w hM⟩, fun w => absurd w hM⟩
theorem nS {s : Int32} (h : inR s 0 3) : s = nI s.toNatClampNeg := by
  obtain ⟨j, e, -, e3⟩ := nI_rng h
  rw [e, nI_clamp e3]
theorem sg_run {i z k : Nat} {s fr : Int32} {nc nm : Nat → Int32} (hz : z ≤ 40) (hi : i < 4) (es : s = nI i) (hn : ∀ q, q < z → nc q = nm (40 * i + q)) : ∀ (f h : Nat) (came : Int32) (W V : Wd), h + f ≤ 13 → (h = 0 ∨ ¬ fr < 0) → Rel W V → (sgRun (ok3C z fr) (anC nc fr) (nxC nc fr) f h came W).1 = (sgRun (ok3M z fr) (anM nm (40 * s + fr)) (nxM nm (40 * s + fr)) f h came V).1 ∧ Rel (sgRun (ok3C z fr) (anC nc fr) (nxC nc fr) f h came W).2 (sgRun (ok3M z fr) (anM nm (40 * s + fr)) (nxM nm (40 * s + fr)) f h came V).2 := by
  intro f
  induction f with
  | zero => intro h came W V _ _ hR; exact ⟨rfl, hR⟩
  | succ f ih =>
    intro h came W V hf hc hR
    obtain ⟨o1, o2⟩ := ok3 (z := z) (h := h) (fr := fr) hz (by omega) hc
    by_cases q : ok3M z fr h
    · rw [sgRun_s q, sgRun_s (o1.mpr q)]
      obtain ⟨j, ej, hj⟩ := o2 q
      have c0 : ∀ d, d ≤ 2 → (fr + 3 * nI h + nI d).toNatClampNeg = j + 3 * h + d ∧ (40 * s + fr + 3 * nI h + nI d).toNatClampNeg = 40 * i + (j + 3 * h + d) := by
        intro d hd
        rw [ej, es, show (3 : Int32) = nI 3 from rfl, show (40 : Int32) = nI 40 from rfl, nI_mul, nI_mul, nI_a, nI_a, nI_a, nI_a, nI_a]
        exact ⟨nI_clamp (by omega), (nI_clamp (by omega)).trans (by omega)⟩
      have x0 := c0 0 (by omega)
      have x1 := c0 1 (by omega)
      have x2 := c0 2 (by omega)
      rw [show nI 0 = 0 from rfl, Int32.add_zero, Int32.add_zero] at x0
      rw [show nI 1 = 1 from rfl] at x1
      rw [show nI 2 = 2 from rfl] at x2
      have y0 := hn (j + 3 * h + 0) (by omega)
      have y1 := hn (j + 3 * h + 1) (by omega)
      have y2 := hn (j + 3 * h + 2) (by omega)
      obtain ⟨z1, z2⟩ := sign_1 hR (nm (40 * i + (j + 3 * h + 0))) (nm (40 * i + (j + 3 * h + 1))) (nm (40 * i + (j + 3 * h + 2)))
      have ea : anC nc fr h W = anM nm (40 * s + fr) h V := by
        unfold anC anM
        rw [x0.1, x0.2, x1.1, x1.2, x2.1, x2.2, y0, y1, y2]
        exact z1
      have eR : Rel (nxC nc fr h W) (nxM nm (40 * s + fr) h V) := by
        unfold nxC nxM
        rw [x0.1, x0.2, x1.1, x1.2, x2.1, x2.2, y0, y1, y2]
        exact z2
      rw [ea]
      exact ih (h + 1) _ _ _ (by omega) (Or.inr q.1) eR
    · rw [sgRun_n q, sgRun_n (fun w => q (o1.mp w))]
      exact ⟨rfl, hR⟩
set_option maxHeartbeats 2000000 in
theorem k_signs {I J : Wd} (h : Rel I J) (s so fr n : Int32) : CallOK mX10_signs mX11_signs [.int s, .int so, .int fr, .int n] I J := by
  obtain ⟨N, P, K, L, Wn, hB, hS, hL, hW, hF, hT, hO, hK, hH, hC⟩ := h
  have hR : Rel I J := ⟨N, P, K, L, Wn, hB, hS, hL, hW, hF, hT, hO, hK, hH, hC⟩
  obtain ⟨⟨s1, s2, s3⟩, ⟨t1, t2, t3, t4, t5, t6⟩, s4, s5⟩ := id hS
  by_cases hs : inR s 0 3
  · obtain ⟨i, z, y, e, hi, ek, a1, a2, a3, a4, a5, a6, a7⟩ := hH.at hs
    refine CallOK.mk (by decide) (by decide) (c_X10_signs (z := z) s1 s3 (fun _ => ⟨a1, a2⟩)) (c_X11_signs (z := y) s2 s3 (fun _ => by rw [e]; exact ⟨a3, a4⟩)) ?_ ?_
    all_goals rw [e]
    · unfold vSigns
      by_cases q : inR s 0 3 ∧ inR so 0 2 ∧ inR n 0 13
      · rw [if_pos q, if_pos q]
        by_cases q2 : J 44 i < 0
        · rw [if_pos q2, if_pos (a6.mpr q2)]
        · rw [if_neg q2, if_neg (fun w => q2 (a6.mp w)), a5]
          by_cases q3 : J 44 i = so
          · rw [if_pos q3, if_pos q3]
            obtain ⟨b1, b2⟩ := a7 q2
            obtain ⟨jn, e1, e2, e3⟩ := nI_rng q.2.2
            have e4 : n.toNatClampNeg = jn := by rw [e1]; exact nI_clamp e3
            have e5 : (jn : Int) ≤ 13 := e2
            subst b1
            unfold sgC sgM
            rw [(sg_run (k := 0) (s := s) a2 hi (by rw [← e]; exact (nS hs)) b2 n.toNatClampNeg 0 0 I J (by omega) (Or.inl rfl) hR).1]
          · rw [if_neg q3, if_neg q3]
      · rw [if_neg q, if_neg q]
    · refine Rel.c2 ?_ (fun q => ?_) hR
      · unfold okSigns
        rw [a5]
        exact ⟨fun w => ⟨w.1, fun t => w.2.1 (by rw [← a5]; exact a6.mpr t), w.2.2⟩, fun w => ⟨w.1, fun t => w.2.1 (a6.mp (by rw [a5]; exact t)), w.2.2⟩⟩
      · have q2 : ¬ J 44 i < 0 := fun w => q.2.1 (a6.mpr w)
        obtain ⟨b1, b2⟩ := a7 q2
        obtain ⟨jn, e1, e2, e3⟩ := nI_rng q.1.2.2
        have e4 : n.toNatClampNeg = jn := by rw [e1]; exact nI_clamp e3
        have e5 : (jn : Int) ≤ 13 := e2
        subst b1
        exact (sg_run (k := 0) (s := s) a2 hi (by rw [← e]; exact (nS hs)) b2 n.toNatClampNeg 0 0 I J (by omega) (Or.inl rfl) hR).2
  · refine CallOK.mk (by decide) (by decide) (c_X10_signs (z := 0) s1 s3 (fun w => absurd w hs)) (c_X11_signs (z := 0) s2 s3 (fun w => absurd w hs)) ?_ ?_
    · unfold vSigns
      rw [if_neg (fun w => hs w.1), if_neg (fun w => hs w.1)]
    · rw [if_neg (fun w => hs w.1.1), if_neg (fun w => hs w.1.1)]
      exact hR
