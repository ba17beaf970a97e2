/-! the plain calls -/
theorem hix {h : Int32} {N : Nat} (hN : N < 2 ^ 30) (h1 : inR h 0 (nI N - 1)) : ∃ i, h = nI i ∧ i < N ∧ h.toNatClampNeg = i := by
  obtain ⟨j, e, hj, hc⟩ := inR_n h1 hN
  exact ⟨j, e, hj, hc⟩
theorem cel {c : Int32} (h : inR c 0 63) : vp_in c 64 ∧ c.toNatClampNeg < 64 := ⟨vpc h (by decide), vp_lt (vpc h (by decide))⟩
theorem Rel.c {c : Prop} [Decidable c] {A B I J : Wd} (h1 : c → Rel A B) (h2 : Rel I J) : Rel (if c then A else I) (if c then B else J) := by
  split
  · next q => exact h1 q
  · exact h2
theorem vGround_eq {f f2 g g2 : Nat → Int32} (h : ∀ c, c < 64 → f c = g c ∧ f2 c = g2 c) {c r x : Int32} : vGround f f2 c r x = vGround g g2 c r x ∧ (okGround f c r x ↔ okGround g c r x) := by
  unfold vGround okGround
  by_cases q : inR c 0 63
  · obtain ⟨e1, e2⟩ := h _ (cel q).2
    rw [e1, e2]; exact ⟨rfl, Iff.rfl⟩
  · rw [if_neg q, if_neg q]; exact ⟨rfl, ⟨fun z => absurd z.1 q, fun z => absurd z.1 q⟩⟩
theorem vHouse_eq {f g : Nat → Int32} (h : ∀ c, c < 64 → f c = g c) {N : Nat} {c w p : Int32} : vHouse f N c w p = vHouse g N c w p ∧ (okHouse f N c w p ↔ okHouse g N c w p) := by
  unfold vHouse okHouse
  by_cases q : inR c 0 63
  · rw [h _ (cel q).2]; exact ⟨rfl, Iff.rfl⟩
  · rw [if_neg q, if_neg q]; exact ⟨rfl, ⟨fun z => absurd z.1 q, fun z => absurd z.1 q⟩⟩
theorem vWarn_eq {f g : Nat → Int32} (h : ∀ c, c < 64 → f c = g c) {N : Nat} {c : Int32} : vWarn f N c = vWarn g N c ∧ (okWarn f N c ↔ okWarn g N c) := by
  unfold vWarn okWarn
  by_cases q : inR c 0 63
  · rw [h _ (cel q).2]; exact ⟨rfl, Iff.rfl⟩
  · rw [if_neg q, if_neg q]; exact ⟨rfl, ⟨fun z => absurd z.1 q, fun z => absurd z.1 q⟩⟩
theorem vCellTold_eq {a1 a2 a3 a4 b1 b2 b3 b4 : Nat → Int32} (h : ∀ c, c < 64 → a1 c = b1 c ∧ a2 c = b2 c ∧ a3 c = b3 c ∧ a4 c = b4 c) {pp c what : Int32} : vCellTold a1 a3 a4 a2 pp c what = vCellTold b1 b3 b4 b2 pp c what := by
  unfold vCellTold
  by_cases q : inR c 0 63
  · obtain ⟨e1, e2, e3, e4⟩ := h _ (cel q).2
    rw [e1, e2, e3, e4]
  · rw [if_neg q, if_neg q]
theorem Rel.c2 {c d : Prop} [Decidable c] [Decidable d] (hcd : c ↔ d) {A B I J : Wd} (h1 : c → Rel A B) (h2 : Rel I J) : Rel (if c then A else I) (if d then B else J) := by
  by_cases q : c
  · rw [if_pos q, if_pos (hcd.mp q)]; exact h1 q
  · rw [if_neg q, if_neg (fun z => q (hcd.mpr z))]; exact h2
section GBU
variable {I J : Wd} {N P : Nat}
theorem GB.ground (hB : GB I J N P) {i : Nat} {r x : Int32} (hr : vp_in r 4) : GB (ist (ist I 7 i r) 8 i x) (ist (ist J 1 i r) 2 i x) N P := by
  obtain ⟨⟨⟨n1, n2, n3⟩, p1, p2, p3⟩, ⟨u1, u2, u3, u4⟩, ⟨cc, cr⟩, ⟨m, m1, m2, m3, m4⟩, ⟨r1, r2, r3⟩, g6, g7, g8, g9, g10, g11, g12, g13⟩ := id hB
  unfold GB cnB
  simp (disch := decide) only [ist_eq, ist_ne]
  refine ⟨⟨⟨n1, n2, n3⟩, p1, p2, p3⟩, ⟨u1, u2, u3, u4⟩, ⟨fun c hc => ?_, cr⟩, ⟨m, m1, m2, m3, m4⟩, ⟨r1, r2, r3⟩, g6, g7, g8, g9, g10, fun c hc => ?_, g12, g13⟩
  · by_cases e : c = i
    · subst e; rw [upd_eq, upd_eq, upd_eq, upd_eq]; exact ⟨rfl, rfl, (cc c hc).2.2⟩
    · rw [upd_ne e, upd_ne e, upd_ne e, upd_ne e]; exact cc c hc
  · by_cases e : c = i
    · subst e; rw [upd_eq]; exact hr
    · rw [upd_ne e]; exact g11 c hc
theorem GB.house (hB : GB I J N P) {c w p : Int32} (hN : N < 14) (hc : vp_in c 64) (hw : inR w 1 99999) (hp : inR p 0 99) : GB (ist (ist (ist (ist I 2 N c) 3 N w) 4 N p) 1 0 (nI (N + 1))) (ist (ist (ist (ist (ist (ist J 10 N c) 11 N w) 12 N p) 13 N (-1)) 16 N 0) 0 3 (nI (N + 1))) (N + 1) P := by
  obtain ⟨⟨⟨n1, n2, n3⟩, p1, p2, p3⟩, ⟨u1, u2, u3, u4⟩, ⟨cc, cr⟩, ⟨m, m1, m2, m3, m4⟩, ⟨r1, r2, r3⟩, g6, g7, g8, g9, g10, g11, g12, g13⟩ := id hB
  unfold GB cnB
  simp (disch := decide) only [ist_eq, ist_ne, upd_ne, upd_eq]
  refine ⟨⟨⟨trivial, trivial, by omega⟩, p1, p2, p3⟩, ⟨by rw [u1], by rw [u2], by rw [u3], u4⟩, ⟨cc, cr⟩, ⟨m, m1, m2, m3, m4⟩, ⟨r1, r2, r3⟩, fun h hh => ?_, g7, fun h h1 h2 => g8 h (by omega) h2, g9, g10, g11, fun h hh => ?_, g13⟩
  · by_cases e : h = N
    · subst e; rw [upd_eq, upd_eq]; exact g8 h (Nat.le_refl _) hN
    · rw [upd_ne e, upd_ne e]; exact g6 h (by omega)
  · by_cases e : h = N
    · subst e; rw [upd_eq, upd_eq, upd_eq]; exact ⟨hc, hw, hp⟩
    · rw [upd_ne e, upd_ne e, upd_ne e]; exact g12 h (by omega)
theorem GB.pump (hB : GB I J N P) {c : Int32} (hP : P < 6) (hc : vp_in c 64) : GB (ist (ist I 5 P c) 1 1 (nI (P + 1))) (ist (ist (ist J 14 P c) 15 P 0) 0 4 (nI (P + 1))) N (P + 1) := by
  obtain ⟨⟨⟨n1, n2, n3⟩, p1, p2, p3⟩, ⟨u1, u2, u3, u4⟩, ⟨cc, cr⟩, ⟨m, m1, m2, m3, m4⟩, ⟨r1, r2, r3⟩, g6, g7, g8, g9, g10, g11, g12, g13⟩ := id hB
  unfold GB cnB
  simp (disch := decide) only [ist_eq, ist_ne, upd_ne, upd_eq]
  refine ⟨⟨⟨n1, n2, n3⟩, trivial, trivial, by omega⟩, ⟨u1, u2, u3, by rw [u4]⟩, ⟨cc, cr⟩, ⟨m, m1, m2, m3, m4⟩, ⟨r1, r2, r3⟩, g6, g7, g8, fun p hp => ?_, fun p h1 h2 => g10 p (by omega) h2, g11, g12, fun p hp => ?_⟩
  · by_cases e : p = P
    · subst e; rw [upd_eq]; exact g10 p (Nat.le_refl _) hP
    · rw [upd_ne e]; exact g9 p (by omega)
  · by_cases e : p = P
    · subst e; rw [upd_eq]; exact hc
    · rw [upd_ne e]; exact g13 p (by omega)
theorem GB.pumping (hB : GB I J N P) {q : Nat} {x : Int32} (hq : q < P) : GB (ist I 13 q x) (ist J 15 q x) N P := by
  obtain ⟨⟨⟨n1, n2, n3⟩, p1, p2, p3⟩, ⟨u1, u2, u3, u4⟩, ⟨cc, cr⟩, ⟨m, m1, m2, m3, m4⟩, ⟨r1, r2, r3⟩, g6, g7, g8, g9, g10, g11, g12, g13⟩ := id hB
  unfold GB cnB
  simp (disch := decide) only [ist_eq, ist_ne]
  refine ⟨⟨⟨n1, n2, n3⟩, p1, p2, p3⟩, ⟨u1, u2, u3, u4⟩, ⟨cc, cr⟩, ⟨m, m1, m2, m3, m4⟩, ⟨r1, r2, r3⟩, g6, g7, g8, fun p hp => ?_, fun p h1 h2 => ?_, g11, g12, g13⟩
  · by_cases e : p = q
    · subst e; rw [upd_eq, upd_eq]
    · rw [upd_ne e, upd_ne e]; exact g9 p hp
  · rw [upd_ne (by omega)]; exact g10 p h1 h2
theorem GB.rain (hB : GB I J N P) {x : Int32} : GB (ist I 6 2 x) (ist J 0 1 x) N P := by
  obtain ⟨⟨⟨n1, n2, n3⟩, p1, p2, p3⟩, ⟨u1, u2, u3, u4⟩, ⟨cc, cr⟩, ⟨m, m1, m2, m3, m4⟩, ⟨r1, r2, r3⟩, g6, g7, g8, g9, g10, g11, g12, g13⟩ := id hB
  unfold GB cnB
  simp (disch := decide) only [ist_eq, ist_ne, upd_ne, upd_eq]
  exact ⟨⟨⟨n1, n2, n3⟩, p1, p2, p3⟩, ⟨u1, u2, u3, u4⟩, ⟨cc, cr⟩, ⟨m, m1, m2, m3, m4⟩, ⟨trivial, r2, r3⟩, g6, g7, g8, g9, g10, g11, g12, g13⟩
theorem GB.move (hB : GB I J N P) {q : Nat} (hq : q < N) : GB (ist I 15 q 1) (ist J 16 q 1) N P := by
  obtain ⟨⟨⟨n1, n2, n3⟩, p1, p2, p3⟩, ⟨u1, u2, u3, u4⟩, ⟨cc, cr⟩, ⟨m, m1, m2, m3, m4⟩, ⟨r1, r2, r3⟩, g6, g7, g8, g9, g10, g11, g12, g13⟩ := id hB
  unfold GB cnB
  simp (disch := decide) only [ist_eq, ist_ne]
  refine ⟨⟨⟨n1, n2, n3⟩, p1, p2, p3⟩, ⟨u1, u2, u3, u4⟩, ⟨cc, cr⟩, ⟨m, m1, m2, m3, m4⟩, ⟨r1, r2, r3⟩, fun h hh => ⟨(g6 h hh).1, ?_⟩, fun h hh => ?_, fun h h1 h2 => ⟨(g8 h h1 h2).1, ?_⟩, g9, g10, g11, g12, g13⟩
  · by_cases e : h = q
    · subst e; rw [upd_eq, upd_eq]
    · rw [upd_ne e, upd_ne e]; exact (g6 h hh).2
  · by_cases e : h = q
    · subst e; rw [upd_eq]; exact Or.inr rfl
    · rw [upd_ne e]; exact g7 h hh
  · rw [upd_ne (by omega)]; exact (g8 h h1 h2).2
end GBU
set_option maxHeartbeats 2000000 in
theorem k_ground {I J : Wd} (h : Rel I J) (c r x : Int32) : CallOK mX10_ground mX11_ground [.int c, .int r, .int x] I J := by
  obtain ⟨N, P, K, L, Wn, hB, hS, hL, hW, hF, hT, hO, hK, hH, hC⟩ := h
  have hR : Rel I J := ⟨N, P, K, L, Wn, hB, hS, hL, hW, hF, hT, hO, hK, hH, hC⟩
  obtain ⟨⟨⟨n1, n2, n3⟩, p1, p2, p3⟩, ⟨u1, u2, u3, u4⟩, ⟨cc, cr⟩, ⟨m, m1, m2, m3, m4⟩, ⟨r1, r2, r3⟩, g6, g7, g8, g9, g10, g11, g12, g13⟩ := id hB
  refine CallOK.mk (by decide) (by decide) (c_X10_ground) (c_X11_ground) ?_ ?_
  · rw [(vGround_eq (fun c hc => ⟨(cc c hc).2.2.2, (cc c hc).2.1⟩)).1]
  · exact Rel.c2 (vGround_eq (f2 := I 8) (g2 := J 2) (fun c hc => ⟨(cc c hc).2.2.2, (cc c hc).2.1⟩)).2 (fun q => ⟨N, P, K, L, Wn, hB.ground (vpc q.2.1.1 (by decide)), hS.fr (fun a a1 a2 => (by first | rfl | (simp (disch := omega) only [ist_eq, ist_ne, upd_ne, rset_ne]))) (fun a a1 a2 => (by first | rfl | (simp (disch := omega) only [ist_eq, ist_ne, upd_ne, rset_ne]))) (by first | rfl | (simp (disch := omega) only [ist_eq, ist_ne, upd_ne, rset_ne])), hL.fr (fun a a1 a2 => (by first | rfl | (simp (disch := omega) only [ist_eq, ist_ne, upd_ne, rset_ne]))) (fun a a1 a2 => (by first | rfl | (simp (disch := omega) only [ist_eq, ist_ne, upd_ne, rset_ne]))) (by first | rfl | (simp (disch := omega) only [ist_eq, ist_ne, upd_ne, rset_ne])), hW.fr (fun a a1 a2 => (by first | rfl | (simp (disch := omega) only [ist_eq, ist_ne, upd_ne, rset_ne]))) (fun a a1 a2 => (by first | rfl | (simp (disch := omega) only [ist_eq, ist_ne, upd_ne, rset_ne]))) (by first | rfl | (simp (disch := omega) only [ist_eq, ist_ne, upd_ne, rset_ne])), hF.fr (fun a a1 a2 => (by first | rfl | (simp (disch := omega) only [ist_eq, ist_ne, upd_ne, rset_ne]))) (fun a a1 a2 => (by first | rfl | (simp (disch := omega) only [ist_eq, ist_ne, upd_ne, rset_ne]))) (fun j j1 j2 => (by first | rfl | (simp (disch := omega) only [ist_eq, ist_ne, upd_ne, rset_ne]))), hT.fr (fun a a1 => (by first | rfl | (simp (disch := omega) only [ist_eq, ist_ne, upd_ne, rset_ne]))) (fun a a1 a2 => (by first | rfl | (simp (disch := omega) only [ist_eq, ist_ne, upd_ne, rset_ne]))) (fun j j1 j2 => (by first | rfl | (simp (disch := omega) only [ist_eq, ist_ne, upd_ne, rset_ne]))), hO.fr (fun j j1 j2 => (by first | rfl | (simp (disch := omega) only [ist_eq, ist_ne, upd_ne, rset_ne]))) (by first | rfl | (simp (disch := omega) only [ist_eq, ist_ne, upd_ne, rset_ne])) (by first | rfl | (simp (disch := omega) only [ist_eq, ist_ne, upd_ne, rset_ne])), hK.fr (by first | rfl | (simp (disch := omega) only [ist_eq, ist_ne, upd_ne, rset_ne])) (fun a a1 a2 => (by first | rfl | (simp (disch := omega) only [ist_eq, ist_ne, upd_ne, rset_ne]))) (fun x x1 => (by first | rfl | (simp (disch := omega) only [ist_eq, ist_ne, upd_ne, rset_ne]))) (fun j j1 j2 => (by first | rfl | (simp (disch := omega) only [ist_eq, ist_ne, upd_ne, rset_ne]))), hH.fr (fun a a1 a2 => (by first | rfl | (simp (disch := omega) only [ist_eq, ist_ne, upd_ne, rset_ne]))) (fun a a1 a2 => (by first | rfl | (simp (disch := omega) only [ist_eq, ist_ne, upd_ne, rset_ne]))), hC.fr (fun a a1 => (by first | rfl | (simp (disch := omega) only [ist_eq, ist_ne, upd_ne, rset_ne])))⟩) hR
set_option maxHeartbeats 2000000 in
theorem k_house {I J : Wd} (h : Rel I J) (c w p : Int32) : CallOK mX10_house mX11_house [.int c, .int w, .int p] I J := by
  obtain ⟨N, P, K, L, Wn, hB, hS, hL, hW, hF, hT, hO, hK, hH, hC⟩ := h
  have hR : Rel I J := ⟨N, P, K, L, Wn, hB, hS, hL, hW, hF, hT, hO, hK, hH, hC⟩
  obtain ⟨⟨⟨n1, n2, n3⟩, p1, p2, p3⟩, ⟨u1, u2, u3, u4⟩, ⟨cc, cr⟩, ⟨m, m1, m2, m3, m4⟩, ⟨r1, r2, r3⟩, g6, g7, g8, g9, g10, g11, g12, g13⟩ := id hB
  refine CallOK.mk (by decide) (by decide) (c_X10_house n1 n3) (c_X11_house n2 n3) ?_ ?_
  · rw [(vHouse_eq (fun c hc => (cc c hc).2.2.2)).1]
  · exact Rel.c2 (vHouse_eq (fun c hc => (cc c hc).2.2.2)).2 (fun q => ⟨N + 1, P, K, L, Wn, hB.house q.2.2.2 (cel q.1).1 q.2.1.1 q.2.1.2, hS.fr (fun a a1 a2 => (by first | rfl | (simp (disch := omega) only [ist_eq, ist_ne, upd_ne, rset_ne]))) (fun a a1 a2 => (by first | rfl | (simp (disch := omega) only [ist_eq, ist_ne, upd_ne, rset_ne]))) (by first | rfl | (simp (disch := omega) only [ist_eq, ist_ne, upd_ne, rset_ne])), hL.fr (fun a a1 a2 => (by first | rfl | (simp (disch := omega) only [ist_eq, ist_ne, upd_ne, rset_ne]))) (fun a a1 a2 => (by first | rfl | (simp (disch := omega) only [ist_eq, ist_ne, upd_ne, rset_ne]))) (by first | rfl | (simp (disch := omega) only [ist_eq, ist_ne, upd_ne, rset_ne])), hW.fr (fun a a1 a2 => (by first | rfl | (simp (disch := omega) only [ist_eq, ist_ne, upd_ne, rset_ne]))) (fun a a1 a2 => (by first | rfl | (simp (disch := omega) only [ist_eq, ist_ne, upd_ne, rset_ne]))) (by first | rfl | (simp (disch := omega) only [ist_eq, ist_ne, upd_ne, rset_ne])), hF.fr (fun a a1 a2 => (by first | rfl | (simp (disch := omega) only [ist_eq, ist_ne, upd_ne, rset_ne]))) (fun a a1 a2 => (by first | rfl | (simp (disch := omega) only [ist_eq, ist_ne, upd_ne, rset_ne]))) (fun j j1 j2 => (by first | rfl | (simp (disch := omega) only [ist_eq, ist_ne, upd_ne, rset_ne]))), hT.fr (fun a a1 => (by first | rfl | (simp (disch := omega) only [ist_eq, ist_ne, upd_ne, rset_ne]))) (fun a a1 a2 => (by first | rfl | (simp (disch := omega) only [ist_eq, ist_ne, upd_ne, rset_ne]))) (fun j j1 j2 => (by first | rfl | (simp (disch := omega) only [ist_eq, ist_ne, upd_ne, rset_ne]))), hO.fr (fun j j1 j2 => (by first | rfl | (simp (disch := omega) only [ist_eq, ist_ne, upd_ne, rset_ne]))) (by first | rfl | (simp (disch := omega) only [ist_eq, ist_ne, upd_ne, rset_ne])) (by first | rfl | (simp (disch := omega) only [ist_eq, ist_ne, upd_ne, rset_ne])), (hK.np (Nat.le_succ N) (Nat.le_refl P)).fr (by first | rfl | (simp (disch := omega) only [ist_eq, ist_ne, upd_ne, rset_ne])) (fun a a1 a2 => (by first | rfl | (simp (disch := omega) only [ist_eq, ist_ne, upd_ne, rset_ne]))) (fun x x1 => (by first | rfl | (simp (disch := omega) only [ist_eq, ist_ne, upd_ne, rset_ne]))) (fun j j1 j2 => (by first | rfl | (simp (disch := omega) only [ist_eq, ist_ne, upd_ne, rset_ne]))), hH.fr (fun a a1 a2 => (by first | rfl | (simp (disch := omega) only [ist_eq, ist_ne, upd_ne, rset_ne]))) (fun a a1 a2 => (by first | rfl | (simp (disch := omega) only [ist_eq, ist_ne, upd_ne, rset_ne]))), hC.fr (fun a a1 => (by first | rfl | (simp (disch := omega) only [ist_eq, ist_ne, upd_ne, rset_ne])))⟩) hR
set_option maxHeartbeats 2000000 in
theorem k_pump {I J : Wd} (h : Rel I J) (c : Int32) : CallOK mX10_pump mX11_pump [.int c] I J := by
  obtain ⟨N, P, K, L, Wn, hB, hS, hL, hW, hF, hT, hO, hK, hH, hC⟩ := h
  have hR : Rel I J := ⟨N, P, K, L, Wn, hB, hS, hL, hW, hF, hT, hO, hK, hH, hC⟩
  obtain ⟨⟨⟨n1, n2, n3⟩, p1, p2, p3⟩, ⟨u1, u2, u3, u4⟩, ⟨cc, cr⟩, ⟨m, m1, m2, m3, m4⟩, ⟨r1, r2, r3⟩, g6, g7, g8, g9, g10, g11, g12, g13⟩ := id hB
  refine CallOK.mk (by decide) (by decide) (c_X10_pump p1 p3) (c_X11_pump p2 p3) ?_ ?_
  · rfl
  · exact Rel.c (fun q => ⟨N, P + 1, K, L, Wn, hB.pump q.2 (cel q.1).1, hS.fr (fun a a1 a2 => (by first | rfl | (simp (disch := omega) only [ist_eq, ist_ne, upd_ne, rset_ne]))) (fun a a1 a2 => (by first | rfl | (simp (disch := omega) only [ist_eq, ist_ne, upd_ne, rset_ne]))) (by first | rfl | (simp (disch := omega) only [ist_eq, ist_ne, upd_ne, rset_ne])), hL.fr (fun a a1 a2 => (by first | rfl | (simp (disch := omega) only [ist_eq, ist_ne, upd_ne, rset_ne]))) (fun a a1 a2 => (by first | rfl | (simp (disch := omega) only [ist_eq, ist_ne, upd_ne, rset_ne]))) (by first | rfl | (simp (disch := omega) only [ist_eq, ist_ne, upd_ne, rset_ne])), hW.fr (fun a a1 a2 => (by first | rfl | (simp (disch := omega) only [ist_eq, ist_ne, upd_ne, rset_ne]))) (fun a a1 a2 => (by first | rfl | (simp (disch := omega) only [ist_eq, ist_ne, upd_ne, rset_ne]))) (by first | rfl | (simp (disch := omega) only [ist_eq, ist_ne, upd_ne, rset_ne])), hF.fr (fun a a1 a2 => (by first | rfl | (simp (disch := omega) only [ist_eq, ist_ne, upd_ne, rset_ne]))) (fun a a1 a2 => (by first | rfl | (simp (disch := omega) only [ist_eq, ist_ne, upd_ne, rset_ne]))) (fun j j1 j2 => (by first | rfl | (simp (disch := omega) only [ist_eq, ist_ne, upd_ne, rset_ne]))), hT.fr (fun a a1 => (by first | rfl | (simp (disch := omega) only [ist_eq, ist_ne, upd_ne, rset_ne]))) (fun a a1 a2 => (by first | rfl | (simp (disch := omega) only [ist_eq, ist_ne, upd_ne, rset_ne]))) (fun j j1 j2 => (by first | rfl | (simp (disch := omega) only [ist_eq, ist_ne, upd_ne, rset_ne]))), hO.fr (fun j j1 j2 => (by first | rfl | (simp (disch := omega) only [ist_eq, ist_ne, upd_ne, rset_ne]))) (by first | rfl | (simp (disch := omega) only [ist_eq, ist_ne, upd_ne, rset_ne])) (by first | rfl | (simp (disch := omega) only [ist_eq, ist_ne, upd_ne, rset_ne])), (hK.np (Nat.le_refl N) (Nat.le_succ P)).fr (by first | rfl | (simp (disch := omega) only [ist_eq, ist_ne, upd_ne, rset_ne])) (fun a a1 a2 => (by first | rfl | (simp (disch := omega) only [ist_eq, ist_ne, upd_ne, rset_ne]))) (fun x x1 => (by first | rfl | (simp (disch := omega) only [ist_eq, ist_ne, upd_ne, rset_ne]))) (fun j j1 j2 => (by first | rfl | (simp (disch := omega) only [ist_eq, ist_ne, upd_ne, rset_ne]))), hH.fr (fun a a1 a2 => (by first | rfl | (simp (disch := omega) only [ist_eq, ist_ne, upd_ne, rset_ne]))) (fun a a1 a2 => (by first | rfl | (simp (disch := omega) only [ist_eq, ist_ne, upd_ne, rset_ne]))), hC.fr (fun a a1 => (by first | rfl | (simp (disch := omega) only [ist_eq, ist_ne, upd_ne, rset_ne])))⟩) hR
theorem vPumping_eq {f g : Nat → Int32} {P : Nat} (hP : P ≤ 6) (h : ∀ p, p < P → f p = g p) {p n : Int32} : vPumping f (nI P) p n = vPumping g (nI P) p n := by
  unfold vPumping
  by_cases q : inR p 0 (nI P - 1)
  · obtain ⟨i, e, hi, hc⟩ := hix (by omega) q
    rw [if_pos q, if_pos q, hc, h i hi]
  · rw [if_neg q, if_neg q]
set_option maxHeartbeats 2000000 in
theorem k_pumping {I J : Wd} (h : Rel I J) (p n : Int32) : CallOK mX10_pumping mX11_pumping [.int p, .int n] I J := by
  obtain ⟨N, P, K, L, Wn, hB, hS, hL, hW, hF, hT, hO, hK, hH, hC⟩ := h
  have hR : Rel I J := ⟨N, P, K, L, Wn, hB, hS, hL, hW, hF, hT, hO, hK, hH, hC⟩
  obtain ⟨⟨⟨n1, n2, n3⟩, p1, p2, p3⟩, ⟨u1, u2, u3, u4⟩, ⟨cc, cr⟩, ⟨m, m1, m2, m3, m4⟩, ⟨r1, r2, r3⟩, g6, g7, g8, g9, g10, g11, g12, g13⟩ := id hB
  refine CallOK.mk (by decide) (by decide) (c_X10_pumping p1 p3) (c_X11_pumping p2 p3) ?_ ?_
  · rw [p1, p2, vPumping_eq p3 g9]
  · rw [p1, p2]
    exact Rel.c (fun q => by
      obtain ⟨i, e, hi, hc⟩ := hix (by omega) q.1
      rw [hc]
      exact ⟨N, P, K, L, Wn, hB.pumping hi, hS.fr (fun a a1 a2 => (by first | rfl | (simp (disch := omega) only [ist_eq, ist_ne, upd_ne, rset_ne]))) (fun a a1 a2 => (by first | rfl | (simp (disch := omega) only [ist_eq, ist_ne, upd_ne, rset_ne]))) (by first | rfl | (simp (disch := omega) only [ist_eq, ist_ne, upd_ne, rset_ne])), hL.fr (fun a a1 a2 => (by first | rfl | (simp (disch := omega) only [ist_eq, ist_ne, upd_ne, rset_ne]))) (fun a a1 a2 => (by first | rfl | (simp (disch := omega) only [ist_eq, ist_ne, upd_ne, rset_ne]))) (by first | rfl | (simp (disch := omega) only [ist_eq, ist_ne, upd_ne, rset_ne])), hW.fr (fun a a1 a2 => (by first | rfl | (simp (disch := omega) only [ist_eq, ist_ne, upd_ne, rset_ne]))) (fun a a1 a2 => (by first | rfl | (simp (disch := omega) only [ist_eq, ist_ne, upd_ne, rset_ne]))) (by first | rfl | (simp (disch := omega) only [ist_eq, ist_ne, upd_ne, rset_ne])), hF.fr (fun a a1 a2 => (by first | rfl | (simp (disch := omega) only [ist_eq, ist_ne, upd_ne, rset_ne]))) (fun a a1 a2 => (by first | rfl | (simp (disch := omega) only [ist_eq, ist_ne, upd_ne, rset_ne]))) (fun j j1 j2 => (by first | rfl | (simp (disch := omega) only [ist_eq, ist_ne, upd_ne, rset_ne]))), hT.fr (fun a a1 => (by first | rfl | (simp (disch := omega) only [ist_eq, ist_ne, upd_ne, rset_ne]))) (fun a a1 a2 => (by first | rfl | (simp (disch := omega) only [ist_eq, ist_ne, upd_ne, rset_ne]))) (fun j j1 j2 => (by first | rfl | (simp (disch := omega) only [ist_eq, ist_ne, upd_ne, rset_ne]))), hO.fr (fun j j1 j2 => (by first | rfl | (simp (disch := omega) only [ist_eq, ist_ne, upd_ne, rset_ne]))) (by first | rfl | (simp (disch := omega) only [ist_eq, ist_ne, upd_ne, rset_ne])) (by first | rfl | (simp (disch := omega) only [ist_eq, ist_ne, upd_ne, rset_ne])), hK.fr (by first | rfl | (simp (disch := omega) only [ist_eq, ist_ne, upd_ne, rset_ne])) (fun a a1 a2 => (by first | rfl | (simp (disch := omega) only [ist_eq, ist_ne, upd_ne, rset_ne]))) (fun x x1 => (by first | rfl | (simp (disch := omega) only [ist_eq, ist_ne, upd_ne, rset_ne]))) (fun j j1 j2 => (by first | rfl | (simp (disch := omega) only [ist_eq, ist_ne, upd_ne, rset_ne]))), hH.fr (fun a a1 a2 => (by first | rfl | (simp (disch := omega) only [ist_eq, ist_ne, upd_ne, rset_ne]))) (fun a a1 a2 => (by first | rfl | (simp (disch := omega) only [ist_eq, ist_ne, upd_ne, rset_ne]))), hC.fr (fun a a1 => (by first | rfl | (simp (disch := omega) only [ist_eq, ist_ne, upd_ne, rset_ne])))⟩) hR
set_option maxHeartbeats 2000000 in
theorem k_rain {I J : Wd} (h : Rel I J) (n : Int32) : CallOK mX10_rain mX11_rain [.int n] I J := by
  obtain ⟨N, P, K, L, Wn, hB, hS, hL, hW, hF, hT, hO, hK, hH, hC⟩ := h
  have hR : Rel I J := ⟨N, P, K, L, Wn, hB, hS, hL, hW, hF, hT, hO, hK, hH, hC⟩
  obtain ⟨⟨⟨n1, n2, n3⟩, p1, p2, p3⟩, ⟨u1, u2, u3, u4⟩, ⟨cc, cr⟩, ⟨m, m1, m2, m3, m4⟩, ⟨r1, r2, r3⟩, g6, g7, g8, g9, g10, g11, g12, g13⟩ := id hB
  refine CallOK.mk (by decide) (by decide) (c_X10_rain) (c_X11_rain) ?_ ?_
  · rw [r1]
  · exact Rel.c (fun q => ⟨N, P, K, L, Wn, hB.rain, hS.fr (fun a a1 a2 => (by first | rfl | (simp (disch := omega) only [ist_eq, ist_ne, upd_ne, rset_ne]))) (fun a a1 a2 => (by first | rfl | (simp (disch := omega) only [ist_eq, ist_ne, upd_ne, rset_ne]))) (by first | rfl | (simp (disch := omega) only [ist_eq, ist_ne, upd_ne, rset_ne])), hL.fr (fun a a1 a2 => (by first | rfl | (simp (disch := omega) only [ist_eq, ist_ne, upd_ne, rset_ne]))) (fun a a1 a2 => (by first | rfl | (simp (disch := omega) only [ist_eq, ist_ne, upd_ne, rset_ne]))) (by first | rfl | (simp (disch := omega) only [ist_eq, ist_ne, upd_ne, rset_ne])), hW.fr (fun a a1 a2 => (by first | rfl | (simp (disch := omega) only [ist_eq, ist_ne, upd_ne, rset_ne]))) (fun a a1 a2 => (by first | rfl | (simp (disch := omega) only [ist_eq, ist_ne, upd_ne, rset_ne]))) (by first | rfl | (simp (disch := omega) only [ist_eq, ist_ne, upd_ne, rset_ne])), hF.fr (fun a a1 a2 => (by first | rfl | (simp (disch := omega) only [ist_eq, ist_ne, upd_ne, rset_ne]))) (fun a a1 a2 => (by first | rfl | (simp (disch := omega) only [ist_eq, ist_ne, upd_ne, rset_ne]))) (fun j j1 j2 => (by first | rfl | (simp (disch := omega) only [ist_eq, ist_ne, upd_ne, rset_ne]))), hT.fr (fun a a1 => (by first | rfl | (simp (disch := omega) only [ist_eq, ist_ne, upd_ne, rset_ne]))) (fun a a1 a2 => (by first | rfl | (simp (disch := omega) only [ist_eq, ist_ne, upd_ne, rset_ne]))) (fun j j1 j2 => (by first | rfl | (simp (disch := omega) only [ist_eq, ist_ne, upd_ne, rset_ne]))), hO.fr (fun j j1 j2 => (by first | rfl | (simp (disch := omega) only [ist_eq, ist_ne, upd_ne, rset_ne]))) (by first | rfl | (simp (disch := omega) only [ist_eq, ist_ne, upd_ne, rset_ne])) (by first | rfl | (simp (disch := omega) only [ist_eq, ist_ne, upd_ne, rset_ne])), hK.fr (by first | rfl | (simp (disch := omega) only [ist_eq, ist_ne, upd_ne, rset_ne])) (fun a a1 a2 => (by first | rfl | (simp (disch := omega) only [ist_eq, ist_ne, upd_ne, rset_ne]))) (fun x x1 => (by first | rfl | (simp (disch := omega) only [ist_eq, ist_ne, upd_ne, rset_ne]))) (fun j j1 j2 => (by first | rfl | (simp (disch := omega) only [ist_eq, ist_ne, upd_ne, rset_ne]))), hH.fr (fun a a1 a2 => (by first | rfl | (simp (disch := omega) only [ist_eq, ist_ne, upd_ne, rset_ne]))) (fun a a1 a2 => (by first | rfl | (simp (disch := omega) only [ist_eq, ist_ne, upd_ne, rset_ne]))), hC.fr (fun a a1 => (by first | rfl | (simp (disch := omega) only [ist_eq, ist_ne, upd_ne, rset_ne])))⟩) hR
theorem vMove_eq {f f2 g g2 ppl : Nat → Int32} {N : Nat} (hN : N ≤ 14) (h1 : ∀ i, i < N → f i = g i ∧ f2 i = g2 i) {h : Int32} : vMove f f2 ppl (nI N) h = vMove g g2 ppl (nI N) h := by
  unfold vMove
  by_cases q : inR h 0 (nI N - 1)
  · obtain ⟨i, e, hi, hc⟩ := hix (by omega) q
    rw [if_pos q, if_pos q, hc, (h1 i hi).1, (h1 i hi).2]
  · rw [if_neg q, if_neg q]
theorem okMove_eq {f f2 g g2 : Nat → Int32} {N : Nat} (hN : N ≤ 14) (h1 : ∀ i, i < N → f i = g i ∧ f2 i = g2 i) {h : Int32} : okMove f f2 (nI N) h ↔ okMove g g2 (nI N) h := by
  constructor
  · intro q
    obtain ⟨i, e, hi, hc⟩ := hix (by omega) q.1
    have q2 := q.2
    rw [hc] at q2
    exact ⟨q.1, by rw [hc, ← (h1 i hi).1, ← (h1 i hi).2]; exact q2⟩
  · intro q
    obtain ⟨i, e, hi, hc⟩ := hix (by omega) q.1
    have q2 := q.2
    rw [hc] at q2
    exact ⟨q.1, by rw [hc, (h1 i hi).1, (h1 i hi).2]; exact q2⟩
set_option maxHeartbeats 2000000 in
theorem k_move {I J : Wd} (h : Rel I J) (x : Int32) : CallOK mX10_move mX11_move [.int x] I J := by
  obtain ⟨N, P, K, L, Wn, hB, hS, hL, hW, hF, hT, hO, hK, hH, hC⟩ := h
  have hR : Rel I J := ⟨N, P, K, L, Wn, hB, hS, hL, hW, hF, hT, hO, hK, hH, hC⟩
  obtain ⟨⟨⟨n1, n2, n3⟩, p1, p2, p3⟩, ⟨u1, u2, u3, u4⟩, ⟨cc, cr⟩, ⟨m, m1, m2, m3, m4⟩, ⟨r1, r2, r3⟩, g6, g7, g8, g9, g10, g11, g12, g13⟩ := id hB
  refine CallOK.mk (by decide) (by decide) (c_X10_move n1 n3) (c_X11_move n2 n3) ?_ ?_
  · rw [n1, n2, u3, vMove_eq n3 g6]
  · rw [n1, n2]
    exact Rel.c2 (okMove_eq n3 g6) (fun q => by
      obtain ⟨i, e, hi, hc⟩ := hix (by omega) q.1
      rw [hc]
      exact ⟨N, P, K, L, Wn, hB.move hi, hS.fr (fun a a1 a2 => (by first | rfl | (simp (disch := omega) only [ist_eq, ist_ne, upd_ne, rset_ne]))) (fun a a1 a2 => (by first | rfl | (simp (disch := omega) only [ist_eq, ist_ne, upd_ne, rset_ne]))) (by first | rfl | (simp (disch := omega) only [ist_eq, ist_ne, upd_ne, rset_ne])), hL.fr (fun a a1 a2 => (by first | rfl | (simp (disch := omega) only [ist_eq, ist_ne, upd_ne, rset_ne]))) (fun a a1 a2 => (by first | rfl | (simp (disch := omega) only [ist_eq, ist_ne, upd_ne, rset_ne]))) (by first | rfl | (simp (disch := omega) only [ist_eq, ist_ne, upd_ne, rset_ne])), hW.fr (fun a a1 a2 => (by first | rfl | (simp (disch := omega) only [ist_eq, ist_ne, upd_ne, rset_ne]))) (fun a a1 a2 => (by first | rfl | (simp (disch := omega) only [ist_eq, ist_ne, upd_ne, rset_ne]))) (by first | rfl | (simp (disch := omega) only [ist_eq, ist_ne, upd_ne, rset_ne])), hF.fr (fun a a1 a2 => (by first | rfl | (simp (disch := omega) only [ist_eq, ist_ne, upd_ne, rset_ne]))) (fun a a1 a2 => (by first | rfl | (simp (disch := omega) only [ist_eq, ist_ne, upd_ne, rset_ne]))) (fun j j1 j2 => (by first | rfl | (simp (disch := omega) only [ist_eq, ist_ne, upd_ne, rset_ne]))), hT.fr (fun a a1 => (by first | rfl | (simp (disch := omega) only [ist_eq, ist_ne, upd_ne, rset_ne]))) (fun a a1 a2 => (by first | rfl | (simp (disch := omega) only [ist_eq, ist_ne, upd_ne, rset_ne]))) (fun j j1 j2 => (by first | rfl | (simp (disch := omega) only [ist_eq, ist_ne, upd_ne, rset_ne]))), hO.fr (fun j j1 j2 => (by first | rfl | (simp (disch := omega) only [ist_eq, ist_ne, upd_ne, rset_ne]))) (by first | rfl | (simp (disch := omega) only [ist_eq, ist_ne, upd_ne, rset_ne])) (by first | rfl | (simp (disch := omega) only [ist_eq, ist_ne, upd_ne, rset_ne])), hK.fr (by first | rfl | (simp (disch := omega) only [ist_eq, ist_ne, upd_ne, rset_ne])) (fun a a1 a2 => (by first | rfl | (simp (disch := omega) only [ist_eq, ist_ne, upd_ne, rset_ne]))) (fun x x1 => (by first | rfl | (simp (disch := omega) only [ist_eq, ist_ne, upd_ne, rset_ne]))) (fun j j1 j2 => (by first | rfl | (simp (disch := omega) only [ist_eq, ist_ne, upd_ne, rset_ne]))), hH.fr (fun a a1 a2 => (by first | rfl | (simp (disch := omega) only [ist_eq, ist_ne, upd_ne, rset_ne]))) (fun a a1 a2 => (by first | rfl | (simp (disch := omega) only [ist_eq, ist_ne, upd_ne, rset_ne]))), hC.fr (fun a a1 => (by first | rfl | (simp (disch := omega) only [ist_eq, ist_ne, upd_ne, rset_ne])))⟩) hR
theorem GS.add {I J : Wd} {K : Nat} (hS : GS I J K) {k c v m : Int32} (hK : K < 30) (hk : inR k 0 5) (hv : inR v 0 99) (hm : J 0 0 = m) : GS (ist (ist (ist (ist (ist (ist I 43 K k) 44 K c) 45 K v) 46 K m) 48 K (-1)) 42 0 (nI (K + 1))) (ist (ist (ist (ist (ist (ist J 17 K k) 18 K c) 20 K v) 19 K m) 22 K (-1)) 0 21 (nI (K + 1))) (K + 1) := by
  obtain ⟨⟨s1, s2, s3⟩, ⟨t1, t2, t3, t4, t5, t6⟩, s4, s5⟩ := id hS
  unfold GS
  simp (disch := decide) only [ist_eq, ist_ne, upd_ne, upd_eq]
  refine ⟨⟨trivial, trivial, by omega⟩, ⟨by rw [t1], by rw [t2], by rw [t3], by rw [t4], t5, by rw [t6]⟩, fun j hj => ?_, s5⟩
  by_cases e : j = K
  · subst e; rw [upd_eq, upd_eq]; exact ⟨hk, hv⟩
  · rw [upd_ne e, upd_ne e]; exact s4 j (by omega)
theorem GS.mend {I J : Wd} {K : Nat} (hS : GS I J K) {q : Nat} {v m : Int32} (hv : inR v 0 99) : GS (ist (ist I 47 q v) 48 q m) (ist (ist J 21 q v) 22 q m) K := by
  obtain ⟨⟨s1, s2, s3⟩, ⟨t1, t2, t3, t4, t5, t6⟩, s4, s5⟩ := id hS
  unfold GS
  simp (disch := decide) only [ist_eq, ist_ne, upd_ne, upd_eq]
  refine ⟨⟨s1, s2, s3⟩, ⟨t1, t2, t3, t4, by rw [t5], by rw [t6]⟩, s4, fun j hj => ?_⟩
  by_cases e : j = q
  · subst e; rw [upd_eq]; exact hv
  · rw [upd_ne e]; exact s5 j hj
theorem GL.add {I J : Wd} {L : Nat} (hL : GL I J L) {c u m : Int32} (hl : L < 8) (hc : vp_in c 64) : GL (ist (ist (ist (ist I 50 L c) 51 L u) 52 L m) 49 0 (nI (L + 1))) (ist (ist (ist (ist J 23 L c) 24 L u) 25 L m) 0 30 (nI (L + 1))) (L + 1) := by
  obtain ⟨⟨l1, l2, l3⟩, ⟨l4, l5, l6⟩, l7⟩ := id hL
  unfold GL
  simp (disch := decide) only [ist_eq, ist_ne, upd_ne, upd_eq]
  refine ⟨⟨trivial, trivial, by omega⟩, ⟨by rw [l4], by rw [l5], by rw [l6]⟩, fun j hj => ?_⟩
  by_cases e : j = L
  · subst e; rw [upd_eq]; exact hc
  · rw [upd_ne e]; exact l7 j (by omega)
theorem GW.add {I J : Wd} {Wn : Nat} (hW : GW I J Wn) {c m : Int32} (hl : Wn < 30) (hc : vp_in c 64) : GW (ist (ist (ist (ist I 54 Wn c) 55 Wn 0) 56 Wn m) 53 0 (nI (Wn + 1))) (ist (ist (ist J 41 Wn c) 42 Wn m) 0 65 (nI (Wn + 1))) (Wn + 1) := by
  obtain ⟨⟨w1, w2, w3⟩, ⟨w4, w5⟩, w6⟩ := id hW
  unfold GW
  simp (disch := decide) only [ist_eq, ist_ne, upd_ne, upd_eq]
  refine ⟨⟨trivial, trivial, by omega⟩, ⟨by rw [w4], by rw [w5]⟩, fun j hj => ?_⟩
  by_cases e : j = Wn
  · subst e; rw [upd_eq]; exact hc
  · rw [upd_ne e]; exact w6 j (by omega)
set_option maxHeartbeats 2000000 in
theorem k_sign {I J : Wd} (h : Rel I J) (k c v : Int32) : CallOK mX10_sign mX11_sign [.int k, .int c, .int v] I J := by
  obtain ⟨N, P, K, L, Wn, hB, hS, hL, hW, hF, hT, hO, hK, hH, hC⟩ := h
  have hR : Rel I J := ⟨N, P, K, L, Wn, hB, hS, hL, hW, hF, hT, hO, hK, hH, hC⟩
  obtain ⟨⟨⟨n1, n2, n3⟩, p1, p2, p3⟩, ⟨u1, u2, u3, u4⟩, ⟨cc, cr⟩, ⟨m, m1, m2, m3, m4⟩, ⟨r1, r2, r3⟩, g6, g7, g8, g9, g10, g11, g12, g13⟩ := id hB
  obtain ⟨⟨s1, s2, s3⟩, ⟨t1, t2, t3, t4, t5, t6⟩, s4, s5⟩ := id hS
  refine CallOK.mk (by decide) (by decide) (c_X10_sign s1 s3) (c_X11_sign s2 s3) ?_ ?_
  · rfl
  · rw [m1, m2]
    exact Rel.c (fun q => ⟨N, P, K + 1, L, Wn, hB.fr (fun a a1 a2 => (by first | rfl | (simp (disch := omega) only [ist_eq, ist_ne, upd_ne, rset_ne]))) (fun a a1 a2 a3 a4 a5 => (by first | rfl | (simp (disch := omega) only [ist_eq, ist_ne, upd_ne, rset_ne]))) (fun j j1 => (by first | rfl | (simp (disch := omega) only [ist_eq, ist_ne, upd_ne, rset_ne]))), hS.add q.2.2 q.2.1.1 q.2.1.2 m2, hL.fr (fun a a1 a2 => (by first | rfl | (simp (disch := omega) only [ist_eq, ist_ne, upd_ne, rset_ne]))) (fun a a1 a2 => (by first | rfl | (simp (disch := omega) only [ist_eq, ist_ne, upd_ne, rset_ne]))) (by first | rfl | (simp (disch := omega) only [ist_eq, ist_ne, upd_ne, rset_ne])), hW.fr (fun a a1 a2 => (by first | rfl | (simp (disch := omega) only [ist_eq, ist_ne, upd_ne, rset_ne]))) (fun a a1 a2 => (by first | rfl | (simp (disch := omega) only [ist_eq, ist_ne, upd_ne, rset_ne]))) (by first | rfl | (simp (disch := omega) only [ist_eq, ist_ne, upd_ne, rset_ne])), hF.fr (fun a a1 a2 => (by first | rfl | (simp (disch := omega) only [ist_eq, ist_ne, upd_ne, rset_ne]))) (fun a a1 a2 => (by first | rfl | (simp (disch := omega) only [ist_eq, ist_ne, upd_ne, rset_ne]))) (fun j j1 j2 => (by first | rfl | (simp (disch := omega) only [ist_eq, ist_ne, upd_ne, rset_ne]))), hT.fr (fun a a1 => (by first | rfl | (simp (disch := omega) only [ist_eq, ist_ne, upd_ne, rset_ne]))) (fun a a1 a2 => (by first | rfl | (simp (disch := omega) only [ist_eq, ist_ne, upd_ne, rset_ne]))) (fun j j1 j2 => (by first | rfl | (simp (disch := omega) only [ist_eq, ist_ne, upd_ne, rset_ne]))), hO.fr (fun j j1 j2 => (by first | rfl | (simp (disch := omega) only [ist_eq, ist_ne, upd_ne, rset_ne]))) (by first | rfl | (simp (disch := omega) only [ist_eq, ist_ne, upd_ne, rset_ne])) (by first | rfl | (simp (disch := omega) only [ist_eq, ist_ne, upd_ne, rset_ne])), hK.fr (by first | rfl | (simp (disch := omega) only [ist_eq, ist_ne, upd_ne, rset_ne])) (fun a a1 a2 => (by first | rfl | (simp (disch := omega) only [ist_eq, ist_ne, upd_ne, rset_ne]))) (fun x x1 => (by first | rfl | (simp (disch := omega) only [ist_eq, ist_ne, upd_ne, rset_ne]))) (fun j j1 j2 => (by first | rfl | (simp (disch := omega) only [ist_eq, ist_ne, upd_ne, rset_ne]))), hH.fr (fun a a1 a2 => (by first | rfl | (simp (disch := omega) only [ist_eq, ist_ne, upd_ne, rset_ne]))) (fun a a1 a2 => (by first | rfl | (simp (disch := omega) only [ist_eq, ist_ne, upd_ne, rset_ne]))), hC.fr (fun a a1 => (by first | rfl | (simp (disch := omega) only [ist_eq, ist_ne, upd_ne, rset_ne])))⟩) hR
set_option maxHeartbeats 2000000 in
theorem k_mend {I J : Wd} (h : Rel I J) (k v : Int32) : CallOK mX10_mend mX11_mend [.int k, .int v] I J := by
  obtain ⟨N, P, K, L, Wn, hB, hS, hL, hW, hF, hT, hO, hK, hH, hC⟩ := h
  have hR : Rel I J := ⟨N, P, K, L, Wn, hB, hS, hL, hW, hF, hT, hO, hK, hH, hC⟩
  obtain ⟨⟨⟨n1, n2, n3⟩, p1, p2, p3⟩, ⟨u1, u2, u3, u4⟩, ⟨cc, cr⟩, ⟨m, m1, m2, m3, m4⟩, ⟨r1, r2, r3⟩, g6, g7, g8, g9, g10, g11, g12, g13⟩ := id hB
  obtain ⟨⟨s1, s2, s3⟩, ⟨t1, t2, t3, t4, t5, t6⟩, s4, s5⟩ := id hS
  refine CallOK.mk (by decide) (by decide) (c_X10_mend s1 s3) (c_X11_mend s2 s3) ?_ ?_
  · rw [t6, t3, s1, s2]
  · rw [t6, s1, s2, m1, m2]
    exact Rel.c (fun q => ⟨N, P, K, L, Wn, hB.fr (fun a a1 a2 => (by first | rfl | (simp (disch := omega) only [ist_eq, ist_ne, upd_ne, rset_ne]))) (fun a a1 a2 a3 a4 a5 => (by first | rfl | (simp (disch := omega) only [ist_eq, ist_ne, upd_ne, rset_ne]))) (fun j j1 => (by first | rfl | (simp (disch := omega) only [ist_eq, ist_ne, upd_ne, rset_ne]))), hS.mend q.2.1, hL.fr (fun a a1 a2 => (by first | rfl | (simp (disch := omega) only [ist_eq, ist_ne, upd_ne, rset_ne]))) (fun a a1 a2 => (by first | rfl | (simp (disch := omega) only [ist_eq, ist_ne, upd_ne, rset_ne]))) (by first | rfl | (simp (disch := omega) only [ist_eq, ist_ne, upd_ne, rset_ne])), hW.fr (fun a a1 a2 => (by first | rfl | (simp (disch := omega) only [ist_eq, ist_ne, upd_ne, rset_ne]))) (fun a a1 a2 => (by first | rfl | (simp (disch := omega) only [ist_eq, ist_ne, upd_ne, rset_ne]))) (by first | rfl | (simp (disch := omega) only [ist_eq, ist_ne, upd_ne, rset_ne])), hF.fr (fun a a1 a2 => (by first | rfl | (simp (disch := omega) only [ist_eq, ist_ne, upd_ne, rset_ne]))) (fun a a1 a2 => (by first | rfl | (simp (disch := omega) only [ist_eq, ist_ne, upd_ne, rset_ne]))) (fun j j1 j2 => (by first | rfl | (simp (disch := omega) only [ist_eq, ist_ne, upd_ne, rset_ne]))), hT.fr (fun a a1 => (by first | rfl | (simp (disch := omega) only [ist_eq, ist_ne, upd_ne, rset_ne]))) (fun a a1 a2 => (by first | rfl | (simp (disch := omega) only [ist_eq, ist_ne, upd_ne, rset_ne]))) (fun j j1 j2 => (by first | rfl | (simp (disch := omega) only [ist_eq, ist_ne, upd_ne, rset_ne]))), hO.fr (fun j j1 j2 => (by first | rfl | (simp (disch := omega) only [ist_eq, ist_ne, upd_ne, rset_ne]))) (by first | rfl | (simp (disch := omega) only [ist_eq, ist_ne, upd_ne, rset_ne])) (by first | rfl | (simp (disch := omega) only [ist_eq, ist_ne, upd_ne, rset_ne])), hK.fr (by first | rfl | (simp (disch := omega) only [ist_eq, ist_ne, upd_ne, rset_ne])) (fun a a1 a2 => (by first | rfl | (simp (disch := omega) only [ist_eq, ist_ne, upd_ne, rset_ne]))) (fun x x1 => (by first | rfl | (simp (disch := omega) only [ist_eq, ist_ne, upd_ne, rset_ne]))) (fun j j1 j2 => (by first | rfl | (simp (disch := omega) only [ist_eq, ist_ne, upd_ne, rset_ne]))), hH.fr (fun a a1 a2 => (by first | rfl | (simp (disch := omega) only [ist_eq, ist_ne, upd_ne, rset_ne]))) (fun a a1 a2 => (by first | rfl | (simp (disch := omega) only [ist_eq, ist_ne, upd_ne, rset_ne]))), hC.fr (fun a a1 => (by first | rfl | (simp (disch := omega) only [ist_eq, ist_ne, upd_ne, rset_ne])))⟩) hR
set_option maxHeartbeats 2000000 in
theorem k_lost {I J : Wd} (h : Rel I J) (c u : Int32) : CallOK mX10_lost mX11_lost [.int c, .int u] I J := by
  obtain ⟨N, P, K, L, Wn, hB, hS, hL, hW, hF, hT, hO, hK, hH, hC⟩ := h
  have hR : Rel I J := ⟨N, P, K, L, Wn, hB, hS, hL, hW, hF, hT, hO, hK, hH, hC⟩
  obtain ⟨⟨⟨n1, n2, n3⟩, p1, p2, p3⟩, ⟨u1, u2, u3, u4⟩, ⟨cc, cr⟩, ⟨m, m1, m2, m3, m4⟩, ⟨r1, r2, r3⟩, g6, g7, g8, g9, g10, g11, g12, g13⟩ := id hB
  obtain ⟨⟨l1, l2, l3⟩, ⟨l4, l5, l6⟩, l7⟩ := id hL
  refine CallOK.mk (by decide) (by decide) (c_X10_lost l1 l3) (c_X11_lost l2 l3) ?_ ?_
  · rfl
  · rw [m1, m2]
    exact Rel.c (fun q => ⟨N, P, K, L + 1, Wn, hB.fr (fun a a1 a2 => (by first | rfl | (simp (disch := omega) only [ist_eq, ist_ne, upd_ne, rset_ne]))) (fun a a1 a2 a3 a4 a5 => (by first | rfl | (simp (disch := omega) only [ist_eq, ist_ne, upd_ne, rset_ne]))) (fun j j1 => (by first | rfl | (simp (disch := omega) only [ist_eq, ist_ne, upd_ne, rset_ne]))), hS.fr (fun a a1 a2 => (by first | rfl | (simp (disch := omega) only [ist_eq, ist_ne, upd_ne, rset_ne]))) (fun a a1 a2 => (by first | rfl | (simp (disch := omega) only [ist_eq, ist_ne, upd_ne, rset_ne]))) (by first | rfl | (simp (disch := omega) only [ist_eq, ist_ne, upd_ne, rset_ne])), hL.add q.2.2 (cel q.1).1, hW.fr (fun a a1 a2 => (by first | rfl | (simp (disch := omega) only [ist_eq, ist_ne, upd_ne, rset_ne]))) (fun a a1 a2 => (by first | rfl | (simp (disch := omega) only [ist_eq, ist_ne, upd_ne, rset_ne]))) (by first | rfl | (simp (disch := omega) only [ist_eq, ist_ne, upd_ne, rset_ne])), hF.fr (fun a a1 a2 => (by first | rfl | (simp (disch := omega) only [ist_eq, ist_ne, upd_ne, rset_ne]))) (fun a a1 a2 => (by first | rfl | (simp (disch := omega) only [ist_eq, ist_ne, upd_ne, rset_ne]))) (fun j j1 j2 => (by first | rfl | (simp (disch := omega) only [ist_eq, ist_ne, upd_ne, rset_ne]))), hT.fr (fun a a1 => (by first | rfl | (simp (disch := omega) only [ist_eq, ist_ne, upd_ne, rset_ne]))) (fun a a1 a2 => (by first | rfl | (simp (disch := omega) only [ist_eq, ist_ne, upd_ne, rset_ne]))) (fun j j1 j2 => (by first | rfl | (simp (disch := omega) only [ist_eq, ist_ne, upd_ne, rset_ne]))), hO.fr (fun j j1 j2 => (by first | rfl | (simp (disch := omega) only [ist_eq, ist_ne, upd_ne, rset_ne]))) (by first | rfl | (simp (disch := omega) only [ist_eq, ist_ne, upd_ne, rset_ne])) (by first | rfl | (simp (disch := omega) only [ist_eq, ist_ne, upd_ne, rset_ne])), hK.fr (by first | rfl | (simp (disch := omega) only [ist_eq, ist_ne, upd_ne, rset_ne])) (fun a a1 a2 => (by first | rfl | (simp (disch := omega) only [ist_eq, ist_ne, upd_ne, rset_ne]))) (fun x x1 => (by first | rfl | (simp (disch := omega) only [ist_eq, ist_ne, upd_ne, rset_ne]))) (fun j j1 j2 => (by first | rfl | (simp (disch := omega) only [ist_eq, ist_ne, upd_ne, rset_ne]))), hH.fr (fun a a1 a2 => (by first | rfl | (simp (disch := omega) only [ist_eq, ist_ne, upd_ne, rset_ne]))) (fun a a1 a2 => (by first | rfl | (simp (disch := omega) only [ist_eq, ist_ne, upd_ne, rset_ne]))), hC.fr (fun a a1 => (by first | rfl | (simp (disch := omega) only [ist_eq, ist_ne, upd_ne, rset_ne])))⟩) hR
set_option maxHeartbeats 2000000 in
theorem k_warn {I J : Wd} (h : Rel I J) (c : Int32) : CallOK mX10_warn mX11_warn [.int c] I J := by
  obtain ⟨N, P, K, L, Wn, hB, hS, hL, hW, hF, hT, hO, hK, hH, hC⟩ := h
  have hR : Rel I J := ⟨N, P, K, L, Wn, hB, hS, hL, hW, hF, hT, hO, hK, hH, hC⟩
  obtain ⟨⟨⟨n1, n2, n3⟩, p1, p2, p3⟩, ⟨u1, u2, u3, u4⟩, ⟨cc, cr⟩, ⟨m, m1, m2, m3, m4⟩, ⟨r1, r2, r3⟩, g6, g7, g8, g9, g10, g11, g12, g13⟩ := id hB
  obtain ⟨⟨w1, w2, w3⟩, ⟨w4, w5⟩, w6⟩ := id hW
  refine CallOK.mk (by decide) (by decide) (c_X10_warn w1 w3) (c_X11_warn w2 w3) ?_ ?_
  · rw [(vWarn_eq (fun c hc => (cc c hc).2.2.2)).1]
  · rw [m1, m2]
    exact Rel.c2 (vWarn_eq (fun c hc => (cc c hc).2.2.2)).2 (fun q => ⟨N, P, K, L, Wn + 1, hB.fr (fun a a1 a2 => (by first | rfl | (simp (disch := omega) only [ist_eq, ist_ne, upd_ne, rset_ne]))) (fun a a1 a2 a3 a4 a5 => (by first | rfl | (simp (disch := omega) only [ist_eq, ist_ne, upd_ne, rset_ne]))) (fun j j1 => (by first | rfl | (simp (disch := omega) only [ist_eq, ist_ne, upd_ne, rset_ne]))), hS.fr (fun a a1 a2 => (by first | rfl | (simp (disch := omega) only [ist_eq, ist_ne, upd_ne, rset_ne]))) (fun a a1 a2 => (by first | rfl | (simp (disch := omega) only [ist_eq, ist_ne, upd_ne, rset_ne]))) (by first | rfl | (simp (disch := omega) only [ist_eq, ist_ne, upd_ne, rset_ne])), hL.fr (fun a a1 a2 => (by first | rfl | (simp (disch := omega) only [ist_eq, ist_ne, upd_ne, rset_ne]))) (fun a a1 a2 => (by first | rfl | (simp (disch := omega) only [ist_eq, ist_ne, upd_ne, rset_ne]))) (by first | rfl | (simp (disch := omega) only [ist_eq, ist_ne, upd_ne, rset_ne])), hW.add q.2.2 (cel q.1).1, hF.fr (fun a a1 a2 => (by first | rfl | (simp (disch := omega) only [ist_eq, ist_ne, upd_ne, rset_ne]))) (fun a a1 a2 => (by first | rfl | (simp (disch := omega) only [ist_eq, ist_ne, upd_ne, rset_ne]))) (fun j j1 j2 => (by first | rfl | (simp (disch := omega) only [ist_eq, ist_ne, upd_ne, rset_ne]))), hT.fr (fun a a1 => (by first | rfl | (simp (disch := omega) only [ist_eq, ist_ne, upd_ne, rset_ne]))) (fun a a1 a2 => (by first | rfl | (simp (disch := omega) only [ist_eq, ist_ne, upd_ne, rset_ne]))) (fun j j1 j2 => (by first | rfl | (simp (disch := omega) only [ist_eq, ist_ne, upd_ne, rset_ne]))), hO.fr (fun j j1 j2 => (by first | rfl | (simp (disch := omega) only [ist_eq, ist_ne, upd_ne, rset_ne]))) (by first | rfl | (simp (disch := omega) only [ist_eq, ist_ne, upd_ne, rset_ne])) (by first | rfl | (simp (disch := omega) only [ist_eq, ist_ne, upd_ne, rset_ne])), hK.fr (by first | rfl | (simp (disch := omega) only [ist_eq, ist_ne, upd_ne, rset_ne])) (fun a a1 a2 => (by first | rfl | (simp (disch := omega) only [ist_eq, ist_ne, upd_ne, rset_ne]))) (fun x x1 => (by first | rfl | (simp (disch := omega) only [ist_eq, ist_ne, upd_ne, rset_ne]))) (fun j j1 j2 => (by first | rfl | (simp (disch := omega) only [ist_eq, ist_ne, upd_ne, rset_ne]))), hH.fr (fun a a1 a2 => (by first | rfl | (simp (disch := omega) only [ist_eq, ist_ne, upd_ne, rset_ne]))) (fun a a1 a2 => (by first | rfl | (simp (disch := omega) only [ist_eq, ist_ne, upd_ne, rset_ne]))), hC.fr (fun a a1 => (by first | rfl | (simp (disch := omega) only [ist_eq, ist_ne, upd_ne, rset_ne])))⟩) hR
set_option maxHeartbeats 2000000 in
theorem k_lookTold {I J : Wd} (h : Rel I J)  : CallOK mX10_lookTold mX11_lookTold [] I J := by
  obtain ⟨N, P, K, L, Wn, hB, hS, hL, hW, hF, hT, hO, hK, hH, hC⟩ := h
  have hR : Rel I J := ⟨N, P, K, L, Wn, hB, hS, hL, hW, hF, hT, hO, hK, hH, hC⟩
  
  refine CallOK.mk (by decide) (by decide) (c_X10_lookTold) (c_X11_lookTold) ?_ ?_
  · rw [hO.1]
  · exact hR
set_option maxHeartbeats 2000000 in
theorem k_planned {I J : Wd} (h : Rel I J)  : CallOK mX10_planned mX11_planned [] I J := by
  obtain ⟨N, P, K, L, Wn, hB, hS, hL, hW, hF, hT, hO, hK, hH, hC⟩ := h
  have hR : Rel I J := ⟨N, P, K, L, Wn, hB, hS, hL, hW, hF, hT, hO, hK, hH, hC⟩
  
  refine CallOK.mk (by decide) (by decide) (c_X10_planned) (c_X11_planned) ?_ ?_
  · rw [hO.2]
  · exact hR
theorem sPeople_eq {hc f f2 g g2 ppl : Nat → Int32} {c : Int32} : ∀ N, (∀ i, i < N → f i = g i ∧ f2 i = g2 i) → sPeople hc f f2 ppl c N = sPeople hc g g2 ppl c N
  | 0, _ => rfl
  | n + 1, h => by
    show (if hc n = c ∧ f n < 0 ∧ f2 n = 0 then sPeople hc f f2 ppl c n + ppl n else sPeople hc f f2 ppl c n) = (if hc n = c ∧ g n < 0 ∧ g2 n = 0 then sPeople hc g g2 ppl c n + ppl n else sPeople hc g g2 ppl c n)
    rw [sPeople_eq n (fun i hi => h i (by omega)), (h n (by omega)).1, (h n (by omega)).2]
theorem vHouseTold_eq {hc w p f f2 g g2 : Nat → Int32} {N : Nat} (hN : N ≤ 14) (h1 : ∀ i, i < N → f i = g i ∧ f2 i = g2 i) {h what : Int32} : vHouseTold hc w p f f2 (nI N) h what = vHouseTold hc w p g g2 (nI N) h what := by
  unfold vHouseTold
  by_cases q : inR h 0 (nI N - 1)
  · obtain ⟨i, e, hi, hc⟩ := hix (by omega) q
    rw [if_pos q, if_pos q, hc, (h1 i hi).1, (h1 i hi).2]
  · rw [if_neg q, if_neg q]
set_option maxHeartbeats 2000000 in
theorem k_cellTold {I J : Wd} (h : Rel I J) (c what : Int32) : CallOK mX10_cellTold mX11_cellTold [.int c, .int what] I J := by
  obtain ⟨N, P, K, L, Wn, hB, hS, hL, hW, hF, hT, hO, hK, hH, hC⟩ := h
  have hR : Rel I J := ⟨N, P, K, L, Wn, hB, hS, hL, hW, hF, hT, hO, hK, hH, hC⟩
  obtain ⟨⟨⟨n1, n2, n3⟩, p1, p2, p3⟩, ⟨u1, u2, u3, u4⟩, ⟨cc, cr⟩, ⟨m, m1, m2, m3, m4⟩, ⟨r1, r2, r3⟩, g6, g7, g8, g9, g10, g11, g12, g13⟩ := id hB
  refine CallOK.mk (by decide) (by decide) (c_X10_cellTold n1 n3) (c_X11_cellTold n2 n3) ?_ ?_
  · rw [sPeople_eq N g6, u1, u3, vCellTold_eq cc]
  · exact hR
set_option maxHeartbeats 2000000 in
theorem k_houseTold {I J : Wd} (h : Rel I J) (x what : Int32) : CallOK mX10_houseTold mX11_houseTold [.int x, .int what] I J := by
  obtain ⟨N, P, K, L, Wn, hB, hS, hL, hW, hF, hT, hO, hK, hH, hC⟩ := h
  have hR : Rel I J := ⟨N, P, K, L, Wn, hB, hS, hL, hW, hF, hT, hO, hK, hH, hC⟩
  obtain ⟨⟨⟨n1, n2, n3⟩, p1, p2, p3⟩, ⟨u1, u2, u3, u4⟩, ⟨cc, cr⟩, ⟨m, m1, m2, m3, m4⟩, ⟨r1, r2, r3⟩, g6, g7, g8, g9, g10, g11, g12, g13⟩ := id hB
  refine CallOK.mk (by decide) (by decide) (c_X10_houseTold n1 n3) (c_X11_houseTold n2 n3) ?_ ?_
  · rw [n1, n2, vHouseTold_eq n3 g6, u1, u2, u3]
  · exact hR
set_option maxHeartbeats 2000000 in
theorem k_count {I J : Wd} (h : Rel I J) (what : Int32) : CallOK mX10_count mX11_count [.int what] I J := by
  obtain ⟨N, P, K, L, Wn, hB, hS, hL, hW, hF, hT, hO, hK, hH, hC⟩ := h
  have hR : Rel I J := ⟨N, P, K, L, Wn, hB, hS, hL, hW, hF, hT, hO, hK, hH, hC⟩
  obtain ⟨⟨⟨n1, n2, n3⟩, p1, p2, p3⟩, ⟨u1, u2, u3, u4⟩, ⟨cc, cr⟩, ⟨m, m1, m2, m3, m4⟩, ⟨r1, r2, r3⟩, g6, g7, g8, g9, g10, g11, g12, g13⟩ := id hB
  obtain ⟨⟨s1, s2, s3⟩, ⟨t1, t2, t3, t4, t5, t6⟩, s4, s5⟩ := id hS
  obtain ⟨⟨l1, l2, l3⟩, ⟨l4, l5, l6⟩, l7⟩ := id hL
  obtain ⟨⟨w1, w2, w3⟩, ⟨w4, w5⟩, w6⟩ := id hW
  obtain ⟨X, R, tn, x1, x2, x3, x4, x5, x6, x7, x8, x9, _⟩ := id hT
  refine CallOK.mk (by decide) (by decide) (c_X10_count) (c_X11_count) ?_ ?_
  · rw [m1, m2, s1, s2, n1, n2, p1, p2, r3, r2, w1, w2, x1, x2, x5, x6, x8, x9, l1, l2, r1]
  · exact hR
