/-! beside -/
theorem GB.same {I J I' J' : Wd} {N P : Nat} (hB : GB I J N P) (hI : ∀ a, a < 18 → I' a = I a) (hs : SameM N P J J') : GB I' J' N P := by
  obtain ⟨⟨⟨n1, n2, n3⟩, p1, p2, p3⟩, ⟨u1, u2, u3, u4⟩, ⟨cc, cr⟩, ⟨m, m1, m2, m3, m4⟩, ⟨r1, r2, r3⟩, g6, g7, g8, g9, g10, g11, g12, g13⟩ := hB
  obtain ⟨s0, sc, sh, sp, sr, -, sf⟩ := hs
  unfold GB cnB
  rw [hI 1 (by decide), hI 2 (by decide), hI 3 (by decide), hI 4 (by decide), hI 5 (by decide), hI 6 (by decide), hI 7 (by decide), hI 8 (by decide), hI 9 (by decide), hI 10 (by decide), hI 11 (by decide), hI 12 (by decide), hI 13 (by decide), hI 14 (by decide), hI 15 (by decide)]
  rw [s0 3, s0 4, s0 0, s0 1, s0 2, sf 10 (by decide) (by decide) (by decide) (by decide) (by decide), sf 11 (by decide) (by decide) (by decide) (by decide) (by decide), sf 12 (by decide) (by decide) (by decide) (by decide) (by decide), sf 14 (by decide) (by decide) (by decide) (by decide) (by decide)]
  refine ⟨⟨⟨n1, n2, n3⟩, p1, p2, p3⟩, ⟨u1, u2, u3, u4⟩, ⟨fun c hc => ?_, fun r hr => ?_⟩, ⟨m, m1, m2, m3, m4⟩, ⟨r1, r2, ?_⟩, fun h hh => ?_, g7, g8, fun p hp => ?_, g10, g11, g12, g13⟩
  · obtain ⟨y1, y2, y3, y4⟩ := sc c hc
    rw [y1, y2, y3, y4]; exact cc c hc
  · obtain ⟨y1, y2⟩ := sr r hr
    rw [y1, y2]; exact cr r hr
  · rw [r3]; exact sCf_cg 64 (fun c hc => ((sc c hc).2.2.2).symm)
  · rw [(sh h hh).1, (sh h hh).2]; exact g6 h hh
  · rw [sp p hp]; exact g9 p hp
theorem RelP.same {I J I' J' : Wd} {N P K L Wn : Nat} (h : RelP I J N P K L Wn) (hI : ∀ a, (a < 18 ∨ 29 < a) → I' a = I a) (hs : SameM N P J J') (h6 : J' 6 = J 6) (h7 : J' 7 = J 7) : RelP I' J' N P K L Wn := by
  obtain ⟨hB, hS, hL, hW, hF, hT, hO, hK, hH, hC⟩ := h
  obtain ⟨s0, sc, sh, sp, sr, s43, sf⟩ := id hs
  refine ⟨hB.same (fun a ha => hI a (Or.inl ha)) hs, hS.fr (fun a a1 a2 => hI a (by omega)) (fun a a1 a2 => sf a (by omega) (by omega) (by omega) (by omega) (by omega)) (s0 _), hL.fr (fun a a1 a2 => hI a (by omega)) (fun a a1 a2 => sf a (by omega) (by omega) (by omega) (by omega) (by omega)) (s0 _), hW.fr (fun a a1 a2 => hI a (by omega)) (fun a a1 a2 => sf a (by omega) (by omega) (by omega) (by omega) (by omega)) (s0 _), hF.fr (fun a a1 a2 => hI a (by omega)) (fun a a1 a2 => sf a (by omega) (by omega) (by omega) (by omega) (by omega)) (fun j _ _ => s0 j), hT.fr (fun a a1 => hI a (by omega)) (fun a a1 a2 => sf a (by omega) (by omega) (by omega) (by omega) (by omega)) (fun j _ _ => s0 j), hO.fr (fun j j1 j2 => by rw [hI 0 (by omega)]) (s0 _) (s0 _), hK.fr (by rw [hI 0 (by omega)]) (fun a a1 a2 => hI a (by omega)) (fun x x1 => s43 x (by omega)) (fun j _ _ => s0 j), hH.fr (fun a a1 a2 => hI a (by omega)) (fun a a1 a2 => sf a (by omega) (by omega) (by omega) (by omega) (by omega)), hC.fr (fun a a1 => ?_)⟩
  rcases a1 with a1 | a1 | a1
  · subst a1; exact h6
  · subst a1; exact h7
  · exact sf a (by omega) (by omega) (by omega) (by omega) (by omega)
theorem lk_start {I J I0 J0 : Wd} {N P : Nat} (hB : GB I J N P) (hC : GC J) (hI : ∀ a, a ≠ 25 → a ≠ 27 → I0 a = becomeW 18 6 I a) (hJ : ∀ a, a ≠ 15 → a ≠ 16 → a ≠ 43 → J0 a = J a) (hp : ∀ q, q < P → I0 25 q = J0 15 q) : AL 18 I0 J0 N ∧ SL 18 I0 J0 P ∧ ((∀ h, h < N → I0 27 h = J0 16 h) → HA 18 I0 J0 N) ∧ I0 18 1 = I 6 1 := by
  obtain ⟨⟨⟨n1, n2, n3⟩, p1, p2, p3⟩, ⟨u1, u2, u3, u4⟩, ⟨cc, cr⟩, ⟨m, m1, m2, m3, m4⟩, ⟨r1, r2, r3⟩, g6, g7, g8, g9, g10, g11, g12, g13⟩ := hB
  obtain ⟨⟨b1, b2, b3, b4⟩, bc, br, bp, bh⟩ := becW (g := 18) (k := 6) (I := I) (by omega)
  unfold AL SL HA HL GC
  simp only [Nat.reduceAdd] at *
  rw [hI 2 (by decide) (by decide), hI 3 (by decide) (by decide), hI 4 (by decide) (by decide), hI 5 (by decide) (by decide), hI 18 (by decide) (by decide), hI 19 (by decide) (by decide), hI 20 (by decide) (by decide), hI 21 (by decide) (by decide), hI 22 (by decide) (by decide), hI 23 (by decide) (by decide), hI 24 (by decide) (by decide), hI 26 (by decide) (by decide), becomeW_fr (a := 2) (by omega), becomeW_fr (a := 3) (by omega), becomeW_fr (a := 4) (by omega), becomeW_fr (a := 5) (by omega)]
  rw [hJ 0 (by decide) (by decide) (by decide), hJ 1 (by decide) (by decide) (by decide), hJ 2 (by decide) (by decide) (by decide), hJ 3 (by decide) (by decide) (by decide), hJ 4 (by decide) (by decide) (by decide), hJ 6 (by decide) (by decide) (by decide), hJ 7 (by decide) (by decide) (by decide), hJ 8 (by decide) (by decide) (by decide), hJ 9 (by decide) (by decide) (by decide), hJ 10 (by decide) (by decide) (by decide), hJ 11 (by decide) (by decide) (by decide), hJ 12 (by decide) (by decide) (by decide), hJ 13 (by decide) (by decide) (by decide), hJ 14 (by decide) (by decide) (by decide), hJ 26 (by decide) (by decide) (by decide)]
  rw [b1, b2, b3, b4]
  refine ⟨⟨⟨fun c hc => ?_, hC⟩, fun c hc => ?_, fun r hr => ?_, ⟨?_, ?_, r3⟩, fun h hx => ?_, u1⟩, ⟨u4, r1, fun p hx => ⟨hp p hx, g13 p hx⟩⟩, fun hh => ⟨⟨r2, u2, u3⟩, hh⟩, rfl⟩
  · obtain ⟨y1, y2, y3, y4⟩ := bc c hc
    obtain ⟨z1, z2, z3, z4⟩ := cc c hc
    rw [y1, y2, y4]; exact ⟨z1, g11 c hc, z2, z4⟩
  · rw [(bc c hc).2.2.1]; exact (cc c hc).2.2.1
  · rw [(br r hr).1, (br r hr).2]; exact cr r hr
  · rw [m1, m2]
  · rw [m1]; exact nI_pos (by omega)
  · rw [(bh h (by omega)).1]; exact (g6 h hx).1
theorem besW_fr {N P : Nat} {I : Wd} {n p u : Int32} {a : Nat} (h : a < 18 ∨ 29 < a) : besideW N P I n p u a = I a := by
  unfold besideW
  rw [monthsW_fr (by omega) (by omega) (by omega) (by omega) (by omega) (by omega) (by omega) (by omega) (by omega)]
  split
  · exact becomeW_fr (by omega)
  · rw [ist_ne (by omega)]; exact becomeW_fr (by omega)
theorem besM1_fr {J : Wd} {p u : Int32} {a : Nat} (h : a ≠ 15) (h2 : a ≠ 43) : besM1 J p u a = J a := by
  unfold besM1
  split
  · exact keepW_fr h2
  · rw [ist_ne h]; exact keepW_fr h2
theorem bes_lk {I J : Wd} {N P : Nat} (hB : GB I J N P) (hC : GC J) {n p u : Int32} (hn : inR n 1 60) : AL 18 (besideW N P I n p u) (besM2 J N P n p u) N ∧ HA 18 (besideW N P I n p u) (besM2 J N P n p u) N := by
  obtain ⟨⟨⟨n1, n2, n3⟩, p1, p2, p3⟩, -, -, ⟨m, m1, m2, m3, m4⟩, -, g6, g7, g8, g9, g10, -⟩ := id hB
  obtain ⟨-, -, -, bp, bh⟩ := becW (g := 18) (k := 6) (I := I) (by omega)
  have hb : ∀ h, h < N → becomeW 18 6 I 27 h = J 16 h := fun h hx => ((bh h (by omega)).2).trans (g6 h hx).2
  have hq : ∀ q, q < P → becomeW 18 6 I 25 q = J 15 q := fun q hx => (bp q (by omega)).trans (g9 q hx)
  have key : ∀ I0 J0 : Wd, (∀ a, a ≠ 25 → a ≠ 27 → I0 a = becomeW 18 6 I a) → (∀ a, a ≠ 15 → a ≠ 16 → a ≠ 43 → J0 a = J a) → (∀ q, q < P → I0 25 q = J0 15 q) → (∀ h, h < N → I0 27 h = J0 16 h) → AL 18 (monthsW 18 N P I0 n.toNatClampNeg) (monsM N P J0 n.toNatClampNeg) N ∧ HA 18 (monthsW 18 N P I0 n.toNatClampNeg) (monsM N P J0 n.toNatClampNeg) N := by
    intro I0 J0 x1 x2 x3 x4
    obtain ⟨y1, y2, y3, y4⟩ := lk_start hB hC x1 x2 x3
    have hn2 := (n60 hn).2
    have e : I0 18 1 = nI m := by rw [y4, m1]
    exact ⟨(L_months (by decide) y1 y2 e n.toNatClampNeg (by omega)).1, (y3 x4).months (by decide) y1 y2 e n.toNatClampNeg (by omega)⟩
  unfold besideW besM2 besM1
  by_cases q : p < 0
  · rw [if_pos q, if_pos q]
    exact key _ _ (fun a _ _ => rfl) (fun a _ _ h43 => keepW_fr h43) (fun q hx => by rw [keepW_fr (by decide)]; exact hq q hx) (fun h hx => by rw [keepW_fr (by decide)]; exact hb h hx)
  · rw [if_neg q, if_neg q]
    refine key _ _ (fun a h25 _ => ist_ne h25) (fun a h15 _ h43 => by rw [ist_ne h15]; exact keepW_fr h43) (fun x hx => ?_) (fun h hx => by rw [ist_ne (by decide), ist_ne (by decide), keepW_fr (by decide)]; exact hb h hx)
    rw [ist_eq, ist_eq, keepW_fr (by decide)]
    by_cases e : x = p.toNatClampNeg
    · subst e; rw [upd_eq, upd_eq]
    · rw [upd_ne e, upd_ne e]; exact hq x hx
theorem bes_same {I J : Wd} {N P : Nat} (hB : GB I J N P) {n p u : Int32} : SameM N P J (putW 0 (nI N) (nI P) N P (besM2 J N P n p u)) := by
  obtain ⟨⟨⟨n1, n2, n3⟩, p1, p2, p3⟩, -, -, ⟨m, m1, m2, m3, m4⟩, -, g6, g7, g8, g9, g10, -⟩ := hB
  refine restore n3 p3 (fun i hi => by rw [← (g6 i hi).2]; exact g7 i (by omega)) ?_ (fun j hj => ?_) (fun a h9 h13 h15 h16 h43 => ?_)
  · unfold besM2
    rw [monsM_fr (by decide) (by decide) (by decide) (by decide) (by decide) (by decide) (by decide) (by decide)]
    unfold besM1 keepW
    split
    · rw [rset_eq]
    · rw [ist_ne (by decide), rset_eq]
  · unfold besM2
    rw [monsM_0 (by omega) (by omega), besM1_fr (by decide) (by decide)]
  · unfold besM2
    rw [monsM_fr (by omega) (by omega) (by omega) (by omega) (by omega) (by omega) (by omega) (by omega), besM1_fr h15 h43]
theorem bes_67 {J : Wd} {N P : Nat} {n p u : Int32} {a : Nat} (h : a = 6 ∨ a = 7) : putW 0 (nI N) (nI P) N P (besM2 J N P n p u) a = J a := by
  rw [put_fr (by omega) (by omega) (by omega) (by omega) (by omega) (by omega) (by omega) (by omega) (by omega) (by omega)]
  unfold besM2
  rw [monsM_fr (by omega) (by omega) (by omega) (by omega) (by omega) (by omega) (by omega) (by omega), besM1_fr (by omega) (by omega)]
set_option maxHeartbeats 2000000 in
theorem k_beside {I J : Wd} (h : Rel I J) (n p u what : Int32) : CallOK mX10_beside mX11_beside [.int n, .int p, .int u, .int what] I J := by
  obtain ⟨N, P, K, L, Wn, hB, hS, hL, hW, hF, hT, hO, hK, hH, hC⟩ := h
  have hR : Rel I J := ⟨N, P, K, L, Wn, hB, hS, hL, hW, hF, hT, hO, hK, hH, hC⟩
  obtain ⟨⟨⟨n1, n2, n3⟩, p1, p2, p3⟩, ⟨u1, u2, u3, u4⟩, ⟨cc, cr⟩, ⟨m, m1, m2, m3, m4⟩, ⟨r1, r2, r3⟩, g6, g7, g8, g9, g10, g11, g12, g13⟩ := id hB
  have hq : okBeside (I 6 1) (I 1 1) n p u what ↔ okBesM J n p u what := by
    unfold okBeside okBesM
    rw [m1, m2, p1, p2]
    constructor
    · intro z; exact ⟨z.1.1, z.1.2, z.2.1, z.2.2.1, (left_eq m3 z.1.1).1.mp z.2.2.2⟩
    · intro z; exact ⟨⟨z.1, z.2.1⟩, z.2.2.1, z.2.2.2.1, (left_eq m3 z.1).1.mpr z.2.2.2.2⟩
  refine CallOK.mk (by decide) (by decide) (c_X10_beside (N := N) (P := P) ⟨⟨n1, n3⟩, ⟨p1, p3⟩, g11, g13⟩ (fun i hi => fit01 (g7 i hi))) (c_X11_beside (N := N) (P := P) ⟨⟨n2, n3⟩, ⟨p2, p3⟩, fun c hc => by rw [← (cc c hc).1]; exact g11 c hc, by rw [← u4]; exact g13⟩) ?_ ?_
  · unfold vBeside
    by_cases q : okBesM J n p u what
    · rw [if_pos q, if_pos (hq.mpr q)]
      obtain ⟨⟨-, -, -, ⟨x1, -, x3⟩, -⟩, ⟨x4, -⟩, -⟩ := bes_lk (n := n) (p := p) (u := u) hB hC q.1
      unfold besMV
      rw [x1, x3, x4, r2, r3]
    · rw [if_neg q, if_neg (fun z => q (hq.mp z))]
  · exact Rel.c2 hq (fun q => ⟨N, P, K, L, Wn, RelP.same ⟨hB, hS, hL, hW, hF, hT, hO, hK, hH, hC⟩ (fun a ha => besW_fr ha) (bes_same hB) (bes_67 (Or.inl rfl)) (bes_67 (Or.inr rfl))⟩) hR
