/-! image, back, beside -/
theorem sCf_cg {f g : Nat → Int32} : ∀ n, (∀ c, c < n → f c = g c) → sCf f n = sCf g n := by
  intro n
  induction n with
  | zero => intro _; rfl
  | succ n ih =>
    intro h
    show sCf f n + (if f n < 0 then 0 else 1) = sCf g n + (if g n < 0 then 0 else 1)
    rw [ih (fun c hc => h c (by omega)), h n (by omega)]
theorem fit01 {x : Int32} (h : x = 0 ∨ x = 1) : fits .boolean (.int x) = true := by
  rcases h with h | h <;> subst h <;> decide
theorem becW {g k : Nat} {I : Wd} (hgk : g + 9 < k ∨ k + 9 < g) : (becomeW g k I g 1 = I k 1 ∧ becomeW g k I g 2 = I k 2 ∧ becomeW g k I g 3 = I k 3 ∧ becomeW g k I g 4 = I k 4) ∧ (∀ c, c < 64 → becomeW g k I (g + 1) c = I (k + 1) c ∧ becomeW g k I (g + 2) c = I (k + 2) c ∧ becomeW g k I (g + 3) c = I (k + 3) c ∧ becomeW g k I (g + 4) c = I (k + 4) c) ∧ (∀ r, r < 4 → becomeW g k I (g + 5) r = I (k + 5) r ∧ becomeW g k I (g + 6) r = I (k + 6) r) ∧ (∀ p, p < 6 → becomeW g k I (g + 7) p = I (k + 7) p) ∧ ∀ h, h < 14 → becomeW g k I (g + 8) h = I (k + 8) h ∧ becomeW g k I (g + 9) h = I (k + 9) h := by
  unfold becomeW
  refine ⟨⟨?_, ?_, ?_, ?_⟩, fun c hc => ⟨?_, ?_, ?_, ?_⟩, fun r hr => ⟨?_, ?_⟩, fun p hp => ?_, fun h hh => ⟨?_, ?_⟩⟩ <;> simp (disch := omega) only [rset_ne, rset_eq, ist_eq, ist_ne, upd_eq, upd_ne, fil_in]
theorem CN.cg {f m f2 m2 : Nat → Int32} {K : Nat} (h : CN f m K) (e : ∀ r, r < 4 → f2 r = f r ∧ m2 r = m r) : CN f2 m2 K := fun r hr => by
  rw [(e r hr).1, (e r hr).2]; exact h r hr
theorem keep_mv {J : Wd} {N : Nat} {i : Nat} (h : J 16 i = 0 ∨ J 16 i = 1) : mvF J i = J 16 i := by
  unfold mvF
  rcases h with h | h
  · rw [if_pos h, h]
  · rw [h]; rfl
theorem GK.image {I J I' J' : Wd} {N P : Nat} (hB : GB I J N P) (hK : GK I J N P) (hI : ∀ a, 30 ≤ a → a ≤ 39 → I' a = becomeW 30 6 I a) (h4 : I' 0 4 = 1) (hJ : J' 43 = keepF J 310) (j1 : J' 0 69 = J 0 3) (j2 : J' 0 70 = J 0 4) (j3 : J' 0 71 = 1) : GK I' J' N P := by
  obtain ⟨⟨⟨n1, n2, n3⟩, p1, p2, p3⟩, ⟨u1, u2, u3, u4⟩, ⟨cc, cr⟩, ⟨m, m1, m2, m3, m4⟩, ⟨r1, r2, r3⟩, g6, g7, g8, g9, g10, g11, g12, g13⟩ := hB
  obtain ⟨⟨b1, b2, b3, b4⟩, bc, br, bp, bh⟩ := becW (g := 30) (k := 6) (I := I) (by omega)
  obtain ⟨k1, k2, k3, -⟩ := keep_at (J := J) (b := 310) (i := 0)
  unfold GK cnB
  rw [hI 30 (by decide) (by decide), hI 31 (by decide) (by decide), hI 32 (by decide) (by decide), hI 33 (by decide) (by decide), hI 34 (by decide) (by decide), hI 35 (by decide) (by decide), hI 36 (by decide) (by decide), hI 37 (by decide) (by decide), hI 38 (by decide) (by decide), hI 39 (by decide) (by decide), h4, hJ, j1, j2, j3]
  refine ⟨⟨fun z => z, fun z => z⟩, fun h hh => ?_, fun _ => ⟨m, N, P, ⟨?_, ?_, m3, ?_⟩, ⟨?_, ?_, ?_⟩, fun c hc => ?_, fun r hr => ?_, ⟨n2, Nat.le_refl N, p2, Nat.le_refl P⟩, fun h hh => ?_, fun h h1 h2 => ?_, fun p hp => ?_, fun p h1 h2 => ?_, fun c hc => ?_⟩⟩
  · rw [(bh h hh).2]; exact g7 h hh
  · rw [b1]; exact m1
  · rw [k1]; exact m2
  · exact CN.cg (K := 64 * m) m4 br
  · rw [b2, k2]; exact r1
  · rw [b4, k3]; exact r2
  · rw [b3, r3]
    exact sCf_cg 64 (fun c hc => by rw [(bc c hc).2.2.2]; exact ((cc c hc).2.2.2).symm)
  · obtain ⟨-, -, -, kc, -⟩ := keep_at (J := J) (b := 310) (i := c)
    obtain ⟨x1, x2, x3, x4⟩ := kc hc
    obtain ⟨y1, y2, y3, y4⟩ := bc c hc
    obtain ⟨z1, z2, z3, z4⟩ := cc c hc
    exact ⟨by rw [y1, z1]; exact x1.symm, by rw [y2, z2]; exact x2.symm, by rw [y3, z3]; exact x3.symm, by rw [y4, z4]; exact x4.symm⟩
  · obtain ⟨-, -, -, -, -, -, kr⟩ := keep_at (J := J) (b := 310) (i := r)
    obtain ⟨x1, x2⟩ := kr hr
    exact ⟨by rw [(br r hr).2, (cr r hr).2]; exact x1.symm, by rw [(br r hr).1, (cr r hr).1]; exact x2.symm⟩
  · obtain ⟨-, -, -, -, kh, -⟩ := keep_at (J := J) (b := 310) (i := h)
    obtain ⟨x1, x2⟩ := kh (by omega)
    have e : J 16 h = 0 ∨ J 16 h = 1 := by rw [← (g6 h hh).2]; exact g7 h (by omega)
    exact ⟨by rw [(bh h (by omega)).1, (g6 h hh).1]; exact x1.symm, by rw [(bh h (by omega)).2, (g6 h hh).2, ← keep_mv (N := N) e]; exact x2.symm⟩
  · rw [(bh h h2).1, (bh h h2).2]; exact g8 h h1 h2
  · obtain ⟨-, -, -, -, -, kp, -⟩ := keep_at (J := J) (b := 310) (i := p)
    rw [bp p (by omega), g9 p hp]; exact (kp (by omega)).symm
  · rw [bp p h2]; exact g10 p h1 h2
  · rw [(bc c hc).1]; exact g11 c hc
theorem GB.back {I J I' J' : Wd} {N P : Nat} (hB : GB I J N P) (hK : GK I J N P) (q : ¬ I 0 4 = 0) (h1 : ∀ a, 1 ≤ a → a ≤ 5 → I' a = I a) (h2 : ∀ a, 6 ≤ a → a ≤ 15 → I' a = becomeW 6 30 I a) (hJ : J' = putW 310 (J 0 69) (J 0 70) N P J) : GB I' J' N P := by
  obtain ⟨⟨⟨n1, n2, n3⟩, p1, p2, p3⟩, ⟨u1, u2, u3, u4⟩, ⟨cc, cr⟩, ⟨m0, m1, m2, m3, m4⟩, ⟨r1, r2, r3⟩, g6, g7, g8, g9, g10, g11, g12, g13⟩ := hB
  obtain ⟨k1, k2, k3⟩ := hK
  obtain ⟨m, Nk, Pk, ⟨a1, a2, a3, a4⟩, ⟨e1, e2, e3⟩, c1, d1, ⟨f1, f2, f3, f4⟩, x1, x2, x3, x4, x5⟩ := k3 q
  obtain ⟨⟨b1, b2, b3, b4⟩, bc, br, bp, bh⟩ := becW (g := 6) (k := 30) (I := I) (by omega)
  subst hJ
  unfold GB cnB
  rw [h1 1 (by decide) (by decide), h1 2 (by decide) (by decide), h1 3 (by decide) (by decide), h1 4 (by decide) (by decide), h1 5 (by decide) (by decide), h2 6 (by decide) (by decide), h2 7 (by decide) (by decide), h2 8 (by decide) (by decide), h2 9 (by decide) (by decide), h2 10 (by decide) (by decide), h2 11 (by decide) (by decide), h2 12 (by decide) (by decide), h2 13 (by decide) (by decide), h2 14 (by decide) (by decide), h2 15 (by decide) (by decide)]
  rw [f1, f3]
  have pf := fun a h0 h1 h2 h3 h4 h8 h9 h13 h15 h16 => put_fr (b := 310) (N := N) (P := P) (fh := nI Nk) (fp := nI Pk) (W := J) (a := a) h0 h1 h2 h3 h4 h8 h9 h13 h15 h16
  have h0 := put_0 (b := 310) (N := N) (P := P) (fh := nI Nk) (fp := nI Pk) (W := J)
  have pc := fun i hi => put_c (b := 310) (N := N) (P := P) (fh := nI Nk) (fp := nI Pk) (W := J) (i := i) hi
  have ph := fun i hi => put_h (b := 310) (N := N) (P := P) (fh := nI Nk) (fp := nI Pk) (W := J) (i := i) hi
  have pp := fun i hi => put_p (b := 310) (N := N) (P := P) (fh := nI Nk) (fp := nI Pk) (W := J) (i := i) hi
  have pr := fun i hi => put_r (b := 310) (N := N) (P := P) (fh := nI Nk) (fp := nI Pk) (W := J) (i := i) hi
  refine ⟨⟨⟨n1, ?_, n3⟩, p1, ?_, p3⟩, ⟨?_, ?_, ?_, ?_⟩, ⟨fun c hc => ?_, fun r hr => ?_⟩, ⟨m, ?_, ?_, a3, ?_⟩, ⟨?_, ?_, ?_⟩, fun h hh => ?_, fun h hh => ?_, fun h q1 q2 => ?_, fun p hp => ?_, fun p q1 q2 => ?_, fun c hc => ?_, g12, g13⟩
  · rw [h0, upd_ne (by decide), upd_ne (by decide), upd_ne (by decide)]; exact n2
  · rw [h0, upd_ne (by decide), upd_ne (by decide), upd_ne (by decide)]; exact p2
  · rw [pf 10 (by decide) (by decide) (by decide) (by decide) (by decide) (by decide) (by decide) (by decide) (by decide) (by decide)]; exact u1
  · rw [pf 11 (by decide) (by decide) (by decide) (by decide) (by decide) (by decide) (by decide) (by decide) (by decide) (by decide)]; exact u2
  · rw [pf 12 (by decide) (by decide) (by decide) (by decide) (by decide) (by decide) (by decide) (by decide) (by decide) (by decide)]; exact u3
  · rw [pf 14 (by decide) (by decide) (by decide) (by decide) (by decide) (by decide) (by decide) (by decide) (by decide) (by decide)]; exact u4
  · obtain ⟨y1, y2, y3, y4⟩ := bc c hc
    obtain ⟨z1, z2, z3, z4⟩ := pc c hc
    obtain ⟨w1, w2, w3, w4⟩ := c1 c hc
    exact ⟨by rw [z1]; exact y1.trans w1, by rw [z2]; exact y2.trans w2, by rw [z3]; exact y3.trans w3, by rw [z4]; exact y4.trans w4⟩
  · obtain ⟨y1, y2⟩ := br r hr
    obtain ⟨z1, z2⟩ := pr r hr
    obtain ⟨w1, w2⟩ := d1 r hr
    exact ⟨by rw [z2]; exact y1.trans w2, by rw [z1]; exact y2.trans w1⟩
  · rw [b1]; exact a1
  · rw [h0, upd_ne (by decide), upd_ne (by decide), upd_eq]; exact a2
  · exact CN.cg (K := 64 * m) a4 br
  · rw [b2, h0, upd_ne (by decide), upd_eq]; exact e1
  · rw [b4, h0, upd_eq]; exact e2
  · rw [b3, e3]
    exact sCf_cg 64 (fun c hc => by rw [(pc c hc).2.2.2]; exact (c1 c hc).2.2.2)
  · obtain ⟨y1, y2⟩ := bh h (by omega)
    obtain ⟨z1, z2⟩ := ph h hh
    rw [z1, z2, show becomeW 6 30 I 14 h = I 38 h from y1, show becomeW 6 30 I 15 h = I 39 h from y2]
    by_cases w : h < Nk
    · have w' : nI h < nI Nk := nI_lt w (by omega)
      rw [if_pos w', (x1 h w).1]
      refine ⟨rfl, ?_⟩
      by_cases w2 : J 43 (590 + h) = 1
      · rw [if_pos ⟨w', w2⟩, (x1 h w).2, w2]
      · rw [if_neg (fun z => w2 z.2)]
        exact (k2 h (by omega)).resolve_right (fun z => w2 (by rw [← (x1 h w).2]; exact z))
    · have w' : ¬ nI h < nI Nk := fun z => w (lt_n z (by omega) (by omega))
      rw [if_neg w', if_neg (fun z => w' z.1)]
      exact x2 h (by omega) (by omega)
  · rw [show becomeW 6 30 I 15 h = I 39 h from (bh h hh).2]; exact k2 h hh
  · rw [show becomeW 6 30 I 14 h = I 38 h from (bh h q2).1, show becomeW 6 30 I 15 h = I 39 h from (bh h q2).2]; exact x2 h (by omega) q2
  · rw [show becomeW 6 30 I 13 p = I 37 p from bp p (by omega), pp p hp]
    by_cases w : p < Pk
    · rw [if_pos (nI_lt w (by omega)), x3 p w]
    · rw [if_neg (fun z => w (lt_n z (by omega) (by omega)))]; exact x4 p (by omega) (by omega)
  · rw [show becomeW 6 30 I 13 p = I 37 p from bp p q2]; exact x4 p (by omega) q2
  · rw [show becomeW 6 30 I 7 c = I 31 c from (bc c hc).1]; exact x5 c hc
set_option maxHeartbeats 2000000 in
theorem k_image {I J : Wd} (h : Rel I J)  : CallOK mX10_image mX11_image [] I J := by
  obtain ⟨N, P, K, L, Wn, hB, hS, hL, hW, hF, hT, hO, hK, hH, hC⟩ := h
  have hR : Rel I J := ⟨N, P, K, L, Wn, hB, hS, hL, hW, hF, hT, hO, hK, hH, hC⟩
  obtain ⟨⟨⟨n1, n2, n3⟩, p1, p2, p3⟩, ⟨u1, u2, u3, u4⟩, ⟨cc, cr⟩, ⟨m, m1, m2, m3, m4⟩, ⟨r1, r2, r3⟩, g6, g7, g8, g9, g10, g11, g12, g13⟩ := id hB
  refine CallOK.mk (by decide) (by decide) (c_X10_image (fun i hi => fit01 (g7 i hi))) (c_X11_image) ?_ ?_
  · rw [m1, m2]
  · exact ⟨N, P, K, L, Wn, hB.fr (fun a a1 a2 => (by first | rfl | (simp (disch := omega) only [ist_eq, ist_ne, upd_ne, rset_ne, becomeW_fr, keepW_fr]))) (fun a a1 a2 a3 a4 a5 => (by first | rfl | (simp (disch := omega) only [ist_eq, ist_ne, upd_ne, rset_ne, becomeW_fr, keepW_fr]))) (fun j j1 => (by first | rfl | (simp (disch := omega) only [ist_eq, ist_ne, upd_ne, rset_ne, becomeW_fr, keepW_fr]))), hS.fr (fun a a1 a2 => (by first | rfl | (simp (disch := omega) only [ist_eq, ist_ne, upd_ne, rset_ne, becomeW_fr, keepW_fr]))) (fun a a1 a2 => (by first | rfl | (simp (disch := omega) only [ist_eq, ist_ne, upd_ne, rset_ne, becomeW_fr, keepW_fr]))) (by first | rfl | (simp (disch := omega) only [ist_eq, ist_ne, upd_ne, rset_ne, becomeW_fr, keepW_fr])), hL.fr (fun a a1 a2 => (by first | rfl | (simp (disch := omega) only [ist_eq, ist_ne, upd_ne, rset_ne, becomeW_fr, keepW_fr]))) (fun a a1 a2 => (by first | rfl | (simp (disch := omega) only [ist_eq, ist_ne, upd_ne, rset_ne, becomeW_fr, keepW_fr]))) (by first | rfl | (simp (disch := omega) only [ist_eq, ist_ne, upd_ne, rset_ne, becomeW_fr, keepW_fr])), hW.fr (fun a a1 a2 => (by first | rfl | (simp (disch := omega) only [ist_eq, ist_ne, upd_ne, rset_ne, becomeW_fr, keepW_fr]))) (fun a a1 a2 => (by first | rfl | (simp (disch := omega) only [ist_eq, ist_ne, upd_ne, rset_ne, becomeW_fr, keepW_fr]))) (by first | rfl | (simp (disch := omega) only [ist_eq, ist_ne, upd_ne, rset_ne, becomeW_fr, keepW_fr])), hF.fr (fun a a1 a2 => (by first | rfl | (simp (disch := omega) only [ist_eq, ist_ne, upd_ne, rset_ne, becomeW_fr, keepW_fr]))) (fun a a1 a2 => (by first | rfl | (simp (disch := omega) only [ist_eq, ist_ne, upd_ne, rset_ne, becomeW_fr, keepW_fr]))) (fun j j1 j2 => (by first | rfl | (simp (disch := omega) only [ist_eq, ist_ne, upd_ne, rset_ne, becomeW_fr, keepW_fr]))), hT.fr (fun a a1 => (by first | rfl | (simp (disch := omega) only [ist_eq, ist_ne, upd_ne, rset_ne, becomeW_fr, keepW_fr]))) (fun a a1 a2 => (by first | rfl | (simp (disch := omega) only [ist_eq, ist_ne, upd_ne, rset_ne, becomeW_fr, keepW_fr]))) (fun j j1 j2 => (by first | rfl | (simp (disch := omega) only [ist_eq, ist_ne, upd_ne, rset_ne, becomeW_fr, keepW_fr]))), hO.fr (fun j j1 j2 => (by first | rfl | (simp (disch := omega) only [ist_eq, ist_ne, upd_ne, rset_ne, becomeW_fr, keepW_fr]))) (by first | rfl | (simp (disch := omega) only [ist_eq, ist_ne, upd_ne, rset_ne, becomeW_fr, keepW_fr])) (by first | rfl | (simp (disch := omega) only [ist_eq, ist_ne, upd_ne, rset_ne, becomeW_fr, keepW_fr])), hK.image hB (fun a a1 a2 => by rw [ist_ne (by omega)]) (by rw [ist_eq, upd_eq]) (by rw [ist_ne (by decide), ist_ne (by decide), ist_ne (by decide)]; unfold keepW; rw [rset_eq]) (by rw [ist_eq, upd_ne (by decide), ist_eq, upd_ne (by decide), ist_eq, upd_eq]) (by rw [ist_eq, upd_ne (by decide), ist_eq, upd_eq]) (by rw [ist_eq, upd_eq]), hH.fr (fun a a1 a2 => (by first | rfl | (simp (disch := omega) only [ist_eq, ist_ne, upd_ne, rset_ne, becomeW_fr, keepW_fr]))) (fun a a1 a2 => (by first | rfl | (simp (disch := omega) only [ist_eq, ist_ne, upd_ne, rset_ne, becomeW_fr, keepW_fr]))), hC.fr (fun a a1 => (by first | rfl | (simp (disch := omega) only [ist_eq, ist_ne, upd_ne, rset_ne, becomeW_fr, keepW_fr])))⟩
set_option maxHeartbeats 2000000 in
theorem k_back {I J : Wd} (h : Rel I J)  : CallOK mX10_back mX11_back [] I J := by
  obtain ⟨N, P, K, L, Wn, hB, hS, hL, hW, hF, hT, hO, hK, hH, hC⟩ := h
  have hR : Rel I J := ⟨N, P, K, L, Wn, hB, hS, hL, hW, hF, hT, hO, hK, hH, hC⟩
  obtain ⟨⟨⟨n1, n2, n3⟩, p1, p2, p3⟩, ⟨u1, u2, u3, u4⟩, ⟨cc, cr⟩, ⟨m, m1, m2, m3, m4⟩, ⟨r1, r2, r3⟩, g6, g7, g8, g9, g10, g11, g12, g13⟩ := id hB
  have hz : I 0 4 = 0 ↔ J 0 71 = 0 := hK.1
  refine CallOK.mk (by decide) (by decide) (c_X10_back (fun i hi => fit01 (hK.2.1 i hi))) (c_X11_back n2 n3 p2 p3) ?_ ?_
  · by_cases q : I 0 4 = 0
    · rw [if_pos q, if_pos (hz.mp q)]
    · rw [if_neg q, if_neg (fun z => q (hz.mpr z)), put_0, upd_ne (by decide), upd_ne (by decide), upd_eq]
      obtain ⟨m', Nk, Pk, ⟨a1, a2, -⟩, -⟩ := hK.2.2 q
      rw [a1, a2]
  · by_cases q : I 0 4 = 0
    · rw [if_pos q, if_pos (hz.mp q)]; exact hR
    · rw [if_neg q, if_neg (fun z => q (hz.mpr z))]
      exact ⟨N, P, K, L, Wn, hB.back hK q (fun a a1 a2 => by rw [becomeW_fr (by omega)]) (fun a a1 a2 => rfl) rfl, hS.fr (fun a a1 a2 => (by first | rfl | (simp (disch := omega) only [ist_eq, ist_ne, upd_ne, rset_ne, becomeW_fr, keepW_fr]))) (fun a a1 a2 => (by first | rfl | (rw [put_fr (by omega) (by omega) (by omega) (by omega) (by omega) (by omega) (by omega) (by omega) (by omega) (by omega)]))) (by rw [put_0, upd_ne (by omega), upd_ne (by omega), upd_ne (by omega)]), hL.fr (fun a a1 a2 => (by first | rfl | (simp (disch := omega) only [ist_eq, ist_ne, upd_ne, rset_ne, becomeW_fr, keepW_fr]))) (fun a a1 a2 => (by first | rfl | (rw [put_fr (by omega) (by omega) (by omega) (by omega) (by omega) (by omega) (by omega) (by omega) (by omega) (by omega)]))) (by rw [put_0, upd_ne (by omega), upd_ne (by omega), upd_ne (by omega)]), hW.fr (fun a a1 a2 => (by first | rfl | (simp (disch := omega) only [ist_eq, ist_ne, upd_ne, rset_ne, becomeW_fr, keepW_fr]))) (fun a a1 a2 => (by first | rfl | (rw [put_fr (by omega) (by omega) (by omega) (by omega) (by omega) (by omega) (by omega) (by omega) (by omega) (by omega)]))) (by rw [put_0, upd_ne (by omega), upd_ne (by omega), upd_ne (by omega)]), hF.fr (fun a a1 a2 => (by first | rfl | (simp (disch := omega) only [ist_eq, ist_ne, upd_ne, rset_ne, becomeW_fr, keepW_fr]))) (fun a a1 a2 => (by first | rfl | (rw [put_fr (by omega) (by omega) (by omega) (by omega) (by omega) (by omega) (by omega) (by omega) (by omega) (by omega)]))) (fun j j1 j2 => (by rw [put_0, upd_ne (by omega), upd_ne (by omega), upd_ne (by omega)])), hT.fr (fun a a1 => (by first | rfl | (simp (disch := omega) only [ist_eq, ist_ne, upd_ne, rset_ne, becomeW_fr, keepW_fr]))) (fun a a1 a2 => (by first | rfl | (rw [put_fr (by omega) (by omega) (by omega) (by omega) (by omega) (by omega) (by omega) (by omega) (by omega) (by omega)]))) (fun j j1 j2 => (by rw [put_0, upd_ne (by omega), upd_ne (by omega), upd_ne (by omega)])), hO.fr (fun j j1 j2 => (by first | rfl | (simp (disch := omega) only [ist_eq, ist_ne, upd_ne, rset_ne, becomeW_fr, keepW_fr]))) (by rw [put_0, upd_ne (by omega), upd_ne (by omega), upd_ne (by omega)]) (by rw [put_0, upd_ne (by omega), upd_ne (by omega), upd_ne (by omega)]), hK.fr (by first | rfl | (simp (disch := omega) only [ist_eq, ist_ne, upd_ne, rset_ne, becomeW_fr, keepW_fr])) (fun a a1 a2 => (by first | rfl | (simp (disch := omega) only [ist_eq, ist_ne, upd_ne, rset_ne, becomeW_fr, keepW_fr]))) (fun x x1 => (by first | rfl | (rw [put_fr (by omega) (by omega) (by omega) (by omega) (by omega) (by omega) (by omega) (by omega) (by omega) (by omega)]))) (fun j j1 j2 => (by rw [put_0, upd_ne (by omega), upd_ne (by omega), upd_ne (by omega)])), hH.fr (fun a a1 a2 => (by first | rfl | (simp (disch := omega) only [ist_eq, ist_ne, upd_ne, rset_ne, becomeW_fr, keepW_fr]))) (fun a a1 a2 => (by first | rfl | (rw [put_fr (by omega) (by omega) (by omega) (by omega) (by omega) (by omega) (by omega) (by omega) (by omega) (by omega)]))), hC.fr (fun a a1 => (by first | rfl | (rw [put_fr (by omega) (by omega) (by omega) (by omega) (by omega) (by omega) (by omega) (by omega) (by omega) (by omega)])))⟩
