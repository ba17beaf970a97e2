/-! fit -/
theorem z15 {z : Nat} (h : inR (nI z) 1 5) (hz : z ≤ 40) : 1 ≤ z ∧ z ≤ 5 := by
  obtain ⟨j, e, h1, h2, h3, h4⟩ := nI_rng2 h (by decide)
  rw [nI_clamp (by omega)] at h4
  have a : (1 : Int32).toInt = 1 := rfl
  have b : (5 : Int32).toInt = 5 := rfl
  omega
set_option maxHeartbeats 2000000 in
theorem k_fit {I J : Wd} (h : Rel I J) (s kn : Int32) : CallOK mX10_fit mX11_fit [.int s, .int kn] I J := by
  obtain ⟨N, P, K, L, Wn, hB, hS, hL, hW, hF, hT, hO, hK, hH, hC⟩ := h
  have hR : Rel I J := ⟨N, P, K, L, Wn, hB, hS, hL, hW, hF, hT, hO, hK, hH, hC⟩
  obtain ⟨⟨⟨n1, n2, n3⟩, p1, p2, p3⟩, ⟨u1, u2, u3, u4⟩, ⟨cc, cr⟩, ⟨m, m1, m2, m3, m4⟩, ⟨r1, r2, r3⟩, g6, g7, g8, g9, g10, g11, g12, g13⟩ := id hB
  obtain ⟨⟨s1, s2, s3⟩, ⟨t1, t2, t3, t4, t5, t6⟩, s4, s5⟩ := id hS
  obtain ⟨⟨l1, l2, l3⟩, ⟨l4, l5, l6⟩, l7⟩ := id hL
  have hS26 : ∀ i, i < 5 → J 26 i = tbSizes.getD i 0 := hC.2
  obtain ⟨z, y, q1, q2, q3, q4⟩ := hH.two s
  have hq : okFit (I (kS s) 0 = -1) (I (kS s + 1)) z (I 6 1) s kn ↔ okFitM J y s kn := by
    unfold okFit okFitM
    rw [m1, m2]
    constructor
    · rintro ⟨a1, a2, a3, a4, a5⟩
      have h4 : ¬ J 44 s.toNatClampNeg < 0 := fun w => a2 ((q3 a1).mpr w)
      obtain ⟨e, e2⟩ := q4 a1 h4
      subst e
      exact ⟨a1, h4, a3, a4, (uc_eq e2).mp a5⟩
    · rintro ⟨a1, a2, a3, a4, a5⟩
      obtain ⟨e, e2⟩ := q4 a1 a2
      subst e
      exact ⟨a1, fun w => a2 ((q3 a1).mp w), a3, a4, (uc_eq e2).mpr a5⟩
  have run : okFitM J y s kn → z = y ∧ z ≤ 5 ∧ SI z (5 ^ z) (fitW I K (kS s) z L kn) (fitRM J K L y s kn).1 (fitRM J K L y s kn).2.1 (fitRM J K L y s kn).2.2 ∧ SF (fitJ I K (kS s) z L kn) (fitW I K (kS s) z L kn) (fitJM J K y s kn) (fitRM J K L y s kn).2.2 := by
    intro ok
    obtain ⟨a1, a2, a3, a4, a5⟩ := ok
    obtain ⟨e, e2⟩ := q4 a1 a2
    subst e
    have hz := (z15 a3 (q1 a1).2).2
    obtain ⟨b1, b2⟩ := fit_start (kn := kn) hS hL hz e2 (fun i hi => (cel (a5 i hi).1).1)
    obtain ⟨c1, c2⟩ := fit_run (q := fitQ I K (kS s) z L kn) hz b1 b2 fitJ_57.2.1 (by unfold fitJM; rw [ist_eq, upd_eq]) (5 ^ z) (Nat.lt_of_le_of_lt (pow5 z hz) (by decide))
    exact ⟨rfl, hz, c1, c2⟩
  refine CallOK.mk (by decide) (by decide) (c_X10_fit (z := z) s1 s3 l1 l3 q1) (c_X11_fit (z := y) q2 s2 s3 l2 l3 hS26) ?_ ?_
  · by_cases ok : okFitM J y s kn
    · obtain ⟨e, hz, ⟨t, t1, t2, t3, t4⟩, -⟩ := run ok
      obtain ⟨a1, a2, a3, a4, a5⟩ := id ok
      obtain ⟨b1, b2, b3, b4, b5⟩ := hq.mpr ok
      unfold vFit vFitM
      rw [if_pos a1, if_pos a1, if_neg b2, if_neg a2, if_pos (c := inR (nI z) 1 5 ∧ inR kn 0 (I 6 1) ∧ ucP (I (kS s + 1)) z) ⟨b3, b4, b5⟩, if_pos (c := inR (nI y) 1 5 ∧ inR kn 0 (J 0 0)) ⟨a3, a4⟩, if_pos (c := ucM (itM J s) y) a5]
      unfold fitVM
      by_cases t0 : t = 0
      · rw [if_pos (t3.mp t0), t2, t0, if_neg (by decide)]
      · have hp := pow5 z hz
        rw [if_neg (fun w => t0 (t3.mpr w)), t2, if_pos (show (0 : Int32) < nI t from nI_lt (a := 0) (by omega) (by omega)), (t4 t0).2.1]
    · have nok : ¬ okFit (I (kS s) 0 = -1) (I (kS s + 1)) z (I 6 1) s kn := fun w => ok (hq.mp w)
      unfold vFit vFitM
      by_cases a1 : inR s 0 3
      · rw [if_pos a1, if_pos a1]
        by_cases a2 : J 44 s.toNatClampNeg < 0
        · rw [if_pos a2, if_pos ((q3 a1).mpr a2)]
        · rw [if_neg a2, if_neg (fun w => a2 ((q3 a1).mp w)), if_neg (fun w => nok ⟨a1, fun w2 => a2 ((q3 a1).mp w2), w⟩)]
          by_cases a3 : inR (nI y) 1 5 ∧ inR kn 0 (J 0 0)
          · rw [if_pos a3, if_neg (fun w => ok ⟨a1, a2, a3.1, a3.2, w⟩)]
          · rw [if_neg a3]
      · rw [if_neg a1, if_neg a1]
  · refine Rel.c2 hq (fun w => ?_) hR
    obtain ⟨e, hz, ⟨t, t1, t2, t3, t4⟩, f1, f2, f3⟩ := run (hq.mp w)
    have hp := pow5 z hz
    have e57 : fitW I K (kS s) z L kn 57 0 = nI z := by unfold fitW; rw [srW_0.1]; exact fitJ_57.1
    generalize fitW I K (kS s) z L kn = C at *
    generalize fitRM J K L y s kn = R at *
    have gC : ∀ a, a < 57 ∨ 65 < a → C a = I a := fun a ha => by
      rw [f1 a (by omega) (by omega) (by omega) (by omega) (by omega)]
      exact fitJ_fr (by omega) (by omega) (by omega) (by omega) (by omega)
    have gR : ∀ a, a ≠ 0 → (a < 27 ∨ 33 < a) → R.2.2 a = J a := fun a h0 ha => by
      rw [f2 a h0 (by omega) (by omega) (by omega) (by omega)]
      unfold fitJM
      rw [ist_ne h0, spnM_fr h0 (by omega) (by omega) (by omega), ist_ne h0]
    have gR0 : ∀ j, j < 28 ∨ (29 < j ∧ j < 34) ∨ 36 < j → R.2.2 0 j = J 0 j := fun j hj => by
      rw [f3 j (by omega) (by omega)]
      unfold fitJM
      rw [ist_eq, upd_ne (by omega), spnM_0 (by omega) (by omega), ist_eq, upd_ne (by omega)]
    have g34 : R.2.2 0 34 = nI z := by
      rw [f3 34 (by decide) (by decide), e]
      unfold fitJM
      rw [ist_eq, upd_ne (by decide), spnM_0 (by decide) (by decide), ist_eq, upd_eq]
    exact ⟨N, P, K, L, Wn, hB.fr (fun a a1 a2 => gC a (by omega)) (fun a a1 a2 a3 a4 a5 => gR a (by omega) (by omega)) (fun j j1 => gR0 j (by omega)), hS.fr (fun a a1 a2 => gC a (by omega)) (fun a a1 a2 => gR a (by omega) (by omega)) (gR0 _ (by omega)), hL.fr (fun a a1 a2 => gC a (by omega)) (fun a a1 a2 => gR a (by omega) (by omega)) (gR0 _ (by omega)), hW.fr (fun a a1 a2 => gC a (by omega)) (fun a a1 a2 => gR a (by omega) (by omega)) (gR0 _ (by omega)), ⟨z, e57, g34, hz, by rw [t2, nI_inj0 (by omega)]; exact t3, fun q => by rw [t2, nI_inj0 (by omega)] at q; exact ⟨t2.trans (t4 q).1.symm, (t4 q).2.2.2⟩⟩, hT.fr (fun a a1 => gC a (by omega)) (fun a a1 a2 => gR a (by omega) (by omega)) (fun j j1 j2 => gR0 j (by omega)), hO.fr (fun j j1 j2 => by rw [gC 0 (by omega)]) (gR0 _ (by omega)) (gR0 _ (by omega)), hK.fr (by rw [gC 0 (by omega)]) (fun a a1 a2 => gC a (by omega)) (fun x x1 => by rw [gR 43 (by omega) (by omega)]) (fun j j1 j2 => gR0 j (by omega)), hH.fr (fun a a1 a2 => gC a (by omega)) (fun a a1 a2 => gR a (by omega) (by omega)), hC.fr (fun a a1 => gR a (by omega) (by omega))⟩
