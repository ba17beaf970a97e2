/-! harm, counts, run -/
def HA (g : Nat) (I J : Wd) (N : Nat) : Prop := (I g 4 = J 0 2 ∧ I 3 = J 11 ∧ I 4 = J 12) ∧ ∀ h, h < N → I (g + 9) h = J 16 h
theorem sHarm_eq {w p a b : Nat → Int32} {h : Nat} (e : a h = b h) : sHarm w p a h = sHarm w p b h := by unfold sHarm; rw [e]
theorem L_take_h {g : Nat} (hg : 6 ≤ g) {I J : Wd} {N c : Nat} (h : ∀ x, x < N → I (g + 8) x = J 13 x) (h2 : I 2 = J 10) (hm : I g 1 = J 0 0) (hh : HA g I J N) : ∀ n, n ≤ N → takeW g I c n g 4 = tkM J c n 0 2 := by
  intro n
  induction n with
  | zero => intro _; exact hh.1.1
  | succ n ih =>
    intro hn
    have i1 := ih (by omega)
    show take1 g (takeW g I c n) c n g 4 = tkM1 (tkM J c n) c n 0 2
    unfold take1 tkM1
    rw [takeW_fr (a := 2) (by omega) (by omega), tkM_fr (a := 10) (by decide) (by decide), h2, L_take hg h h2 hm n (by omega) n (by omega)]
    by_cases q : J 10 n = nI c ∧ tkM J c n 13 n < 0
    · rw [if_pos q, if_pos q, ist_eq, upd_eq, ist_eq, upd_eq, i1, takeW_fr (a := 3) (by omega) (by omega), takeW_fr (a := 4) (by omega) (by omega), takeW_fr (a := g + 9) (by omega) (by omega), tkM_fr (a := 11) (by decide) (by decide), tkM_fr (a := 12) (by decide) (by decide), tkM_fr (a := 16) (by decide) (by decide), hh.1.2.1, hh.1.2.2, sHarm_eq (hh.2 n (by omega))]
    · rw [if_neg q, if_neg q]; exact i1
theorem HA.fall {g : Nat} (hg : 6 ≤ g) {I J : Wd} {N c : Nat} (h : AL g I J N) (hh : HA g I J N) (hc : c < 64) : HA g (fall1 g I N c) (flM1 J N c) N := by
  obtain ⟨a1, a2, a3, ⟨a4, a5, a6⟩, a7, a8⟩ := h
  obtain ⟨b1, b2, b3, b4⟩ := a1.1 c hc
  have hbr : J 7 (J 1 c).toNatClampNeg = tbBears.getD (I (g + 1) c).toNatClampNeg 0 := by rw [← b1]; exact (a1.2.1 _ (vp_lt b2)).2
  obtain ⟨⟨e1, e2, e3⟩, e4⟩ := id hh
  unfold fall1 flM1
  rw [b4, hbr, a2 c hc, b3]
  by_cases q : J 4 c < 0
  · rw [if_pos q, if_pos q]
    rw [← b1]
    generalize (I (g + 1) c).toNatClampNeg = r
    by_cases q2 : tbBears.getD r 0 + J 3 c / 20 < J 2 c
    · rw [if_pos q2, if_pos q2]
      generalize hW : ist (ist (ist (ist I (g + 6) r (I (g + 6) r + 1)) (g + 4) c (I g 1)) g 3 (I g 3 + 1)) (g + 5) r (I (g + 5) r + 1) = W
      generalize hV : ist (ist (ist J 8 r (J 8 r + 1)) 4 c (J 0 0)) 9 r (J 9 r + 1) = V
      have w0 : ∀ j, j ≠ 3 → W g j = I g j := fun j hj => by rw [← hW, ist_ne (by omega), ist_eq, upd_ne hj, ist_ne (by omega), ist_ne (by omega)]
      have wf : ∀ a, a ≠ g → a ≠ g + 4 → a ≠ g + 5 → a ≠ g + 6 → W a = I a := fun a h0 h4 h5 h6 => by rw [← hW, ist_ne h5, ist_ne h0, ist_ne h4, ist_ne h6]
      have vf : ∀ a, a ≠ 4 → a ≠ 8 → a ≠ 9 → V a = J a := fun a h4 h8 h9 => by rw [← hV, ist_ne h9, ist_ne h4, ist_ne h8]
      have hWV : HA g W V N := by
        refine ⟨⟨?_, ?_, ?_⟩, fun x hx => ?_⟩
        · rw [w0 4 (by decide), vf 0 (by decide) (by decide) (by decide)]; exact e1
        · rw [wf 3 (by omega) (by omega) (by omega) (by omega), vf 11 (by decide) (by decide) (by decide)]; exact e2
        · rw [wf 4 (by omega) (by omega) (by omega) (by omega), vf 12 (by decide) (by decide) (by decide)]; exact e3
        · rw [wf (g + 9) (by omega) (by omega) (by omega) (by omega), vf 16 (by decide) (by decide) (by decide)]; exact e4 x hx
      refine ⟨⟨?_, ?_, ?_⟩, fun x hx => ?_⟩
      · exact L_take_h hg (fun x hx => by rw [wf (g + 8) (by omega) (by omega) (by omega) (by omega), vf 13 (by decide) (by decide) (by decide)]; exact a7 x hx) (by rw [wf 2 (by omega) (by omega) (by omega) (by omega), vf 10 (by decide) (by decide) (by decide)]; exact a8) (by rw [w0 1 (by decide), vf 0 (by decide) (by decide) (by decide)]; exact a4) hWV N (Nat.le_refl N)
      · rw [takeW_fr (by omega) (by omega), tkM_fr (by decide) (by decide)]; exact hWV.1.2.1
      · rw [takeW_fr (by omega) (by omega), tkM_fr (by decide) (by decide)]; exact hWV.1.2.2
      · rw [takeW_fr (by omega) (by omega), tkM_fr (by decide) (by decide)]; exact hWV.2 x hx
    · rw [if_neg q2, if_neg q2]
      refine ⟨⟨?_, ?_, ?_⟩, fun x hx => ?_⟩
      · rw [ist_ne (by omega), ist_ne (by decide)]; exact e1
      · rw [ist_ne (by omega), ist_ne (by decide)]; exact e2
      · rw [ist_ne (by omega), ist_ne (by decide)]; exact e3
      · rw [ist_ne (by omega), ist_ne (by decide)]; exact e4 x hx
  · rw [if_neg q, if_neg q]; exact hh
theorem HA.falls {g : Nat} (hg : 6 ≤ g) {I J : Wd} {N : Nat} (h : AL g I J N) (hh : HA g I J N) : ∀ c, c ≤ 64 → HA g (fallW g I N c) (flM J N c) N := by
  intro c
  induction c with
  | zero => intro _; exact hh
  | succ c ih => intro hc; exact (ih (by omega)).fall hg (h.falls hg c (by omega)) (by omega)
/-! how many fell -/
def CN (f m : Nat → Int32) (K : Nat) : Prop := ∀ r, r < 4 → ∃ a b, f r = nI a ∧ m r = nI b ∧ a ≤ b ∧ b ≤ K
theorem CN.le {f m : Nat → Int32} {K K2 : Nat} (h : CN f m K) (hk : K ≤ K2) : CN f m K2 := fun r hr => by
  obtain ⟨a, b, h1, h2, h3, h4⟩ := h r hr
  exact ⟨a, b, h1, h2, h3, by omega⟩
theorem CN.up1 {f m : Nat → Int32} {K r : Nat} (h : CN f m K) : CN f (upd m r (m r + 1)) (K + 1) := fun x hx => by
  obtain ⟨a, b, h1, h2, h3, h4⟩ := h x hx
  by_cases e : x = r
  · subst e; exact ⟨a, b + 1, h1, by rw [upd_eq, h2, nI_1], by omega, by omega⟩
  · exact ⟨a, b, h1, by rw [upd_ne e]; exact h2, h3, by omega⟩
theorem CN.up2 {f m : Nat → Int32} {K r : Nat} (h : CN f m K) : CN (upd f r (f r + 1)) (upd m r (m r + 1)) (K + 1) := fun x hx => by
  obtain ⟨a, b, h1, h2, h3, h4⟩ := h x hx
  by_cases e : x = r
  · subst e; exact ⟨a + 1, b + 1, by rw [upd_eq, h1, nI_1], by rw [upd_eq, h2, nI_1], by omega, by omega⟩
  · exact ⟨a, b, by rw [upd_ne e]; exact h1, by rw [upd_ne e]; exact h2, h3, by omega⟩
theorem CN.fall {g : Nat} (hg : 6 ≤ g) {I : Wd} {N c K : Nat} (h : CN (I (g + 5)) (I (g + 6)) K) : CN (fall1 g I N c (g + 5)) (fall1 g I N c (g + 6)) (K + 1) := by
  unfold fall1
  split
  · split
    · have x5 : ∀ v w, ∀ r, takeW g (ist (ist (ist (ist I (g + 6) r (I (g + 6) r + 1)) (g + 4) c v) g 3 w) (g + 5) r (I (g + 5) r + 1)) c N (g + 5) = upd (I (g + 5)) r (I (g + 5) r + 1) := fun v w r => by
        rw [takeW_fr (by omega) (by omega), ist_eq, ist_ne (by omega), ist_ne (by omega), ist_ne (by omega)]
      have x6 : ∀ v w, ∀ r, takeW g (ist (ist (ist (ist I (g + 6) r (I (g + 6) r + 1)) (g + 4) c v) g 3 w) (g + 5) r (I (g + 5) r + 1)) c N (g + 6) = upd (I (g + 6)) r (I (g + 6) r + 1) := fun v w r => by
        rw [takeW_fr (by omega) (by omega), ist_ne (by omega), ist_ne (by omega), ist_ne (by omega), ist_eq]
      rw [x5, x6]
      exact h.up2
    · rw [ist_ne (show g + 5 ≠ g + 6 by omega), ist_eq]
      exact h.up1
  · exact h.le (Nat.le_succ K)
theorem CN.falls {g : Nat} (hg : 6 ≤ g) {I : Wd} {N K : Nat} (h : CN (I (g + 5)) (I (g + 6)) K) : ∀ c, CN (fallW g I N c (g + 5)) (fallW g I N c (g + 6)) (K + c) := by
  intro c
  induction c with
  | zero => exact h
  | succ c ih => exact ih.fall hg
theorem CN.month {g : Nat} (hg : 6 ≤ g) {I : Wd} {N P K : Nat} (h : CN (I (g + 5)) (I (g + 6)) K) : CN (monthW g N P I (g + 5)) (monthW g N P I (g + 6)) (K + 64) := by
  unfold monthW
  rw [ist_ne (show g + 5 ≠ g by omega), ist_ne (show g + 6 ≠ g by omega)]
  refine CN.falls hg ?_ 64
  rw [flowW_fr (by omega) (by omega), measW_fr (by omega) (by omega), pumpW_fr (by omega) (by omega), rainW_fr (by omega)]
  rw [flowW_fr (by omega) (by omega), measW_fr (by omega) (by omega), pumpW_fr (by omega) (by omega), rainW_fr (by omega)]
  exact h
theorem CN.months {g : Nat} (hg : 6 ≤ g) {I : Wd} {N P K : Nat} (h : CN (I (g + 5)) (I (g + 6)) K) : ∀ n, CN (monthsW g N P I n (g + 5)) (monthsW g N P I n (g + 6)) (K + 64 * n) := by
  intro n
  induction n with
  | zero => exact h
  | succ n ih => exact (ih.month hg).le (by omega)
/-! houses that are not -/
theorem takeW_hi {g : Nat} {I : Wd} {c x : Nat} (hg : g + 8 ≠ g) : ∀ n, n ≤ x → takeW g I c n (g + 8) x = I (g + 8) x := by
  intro n
  induction n with
  | zero => intro _; rfl
  | succ n ih =>
    intro hn
    show take1 g (takeW g I c n) c n (g + 8) x = _
    unfold take1
    split
    · rw [ist_ne hg, ist_eq, upd_ne (by omega)]; exact ih (by omega)
    · exact ih (by omega)
theorem fallW_hi {g : Nat} {I : Wd} {N x : Nat} (hx : N ≤ x) : ∀ c, fallW g I N c (g + 8) x = I (g + 8) x := by
  intro c
  induction c with
  | zero => rfl
  | succ c ih =>
    show fall1 g (fallW g I N c) N c (g + 8) x = _
    unfold fall1
    split
    · split
      · rw [takeW_hi (by omega) N hx, ist_ne (by omega), ist_ne (by omega), ist_ne (by omega), ist_ne (by omega)]; exact ih
      · rw [ist_ne (by omega)]; exact ih
    · exact ih
theorem monthsW_hi {g : Nat} {I : Wd} {N P x : Nat} (hx : N ≤ x) : ∀ n, monthsW g N P I n (g + 8) x = I (g + 8) x := by
  intro n
  induction n with
  | zero => rfl
  | succ n ih =>
    show monthW g N P (monthsW g N P I n) (g + 8) x = _
    unfold monthW
    rw [ist_ne (by omega), fallW_hi hx, flowW_fr (by omega) (by omega), measW_fr (by omega) (by omega), pumpW_fr (by omega) (by omega), rainW_fr (by omega)]
    exact ih
theorem HA.month {g : Nat} (hg : 6 ≤ g) {I J : Wd} {N P : Nat} (h : AL g I J N) (hs : SL g I J P) (hh : HA g I J N) : HA g (monthW g N P I) (monM N P J) N := by
  obtain ⟨W, V, eI, eJ, hA, h1, h2⟩ : ∃ W V : Wd, monthW g N P I = ist (fallW g W N 64) g 1 (fallW g W N 64 g 1 + 1) ∧ monM N P J = ist (flM V N 64) 0 0 (flM V N 64 0 0 + 1) ∧ AL g W V N ∧ (∀ a, a ≠ g + 2 → a ≠ g + 3 → a ≠ g + 10 → a ≠ g + 11 → W a = I a) ∧ ∀ a, a ≠ 2 → a ≠ 3 → a ≠ 5 → V a = J a := L_mid hg h hs
  have hWV : HA g W V N := by
    obtain ⟨⟨e1, e2, e3⟩, e4⟩ := id hh
    refine ⟨⟨?_, ?_, ?_⟩, fun x hx => ?_⟩
    · rw [h1 g (by omega) (by omega) (by omega) (by omega), h2 0 (by decide) (by decide) (by decide)]; exact e1
    · rw [h1 3 (by omega) (by omega) (by omega) (by omega), h2 11 (by decide) (by decide) (by decide)]; exact e2
    · rw [h1 4 (by omega) (by omega) (by omega) (by omega), h2 12 (by decide) (by decide) (by decide)]; exact e3
    · rw [h1 (g + 9) (by omega) (by omega) (by omega) (by omega), h2 16 (by decide) (by decide) (by decide)]; exact e4 x hx
  obtain ⟨⟨e1, e2, e3⟩, e4⟩ := hWV.falls hg hA 64 (Nat.le_refl 64)
  rw [eI, eJ]
  refine ⟨⟨?_, ?_, ?_⟩, fun x hx => ?_⟩
  · rw [ist_eq, upd_ne (by decide), ist_eq, upd_ne (by decide)]; exact e1
  · rw [ist_ne (by omega), ist_ne (by decide)]; exact e2
  · rw [ist_ne (by omega), ist_ne (by decide)]; exact e3
  · rw [ist_ne (by omega), ist_ne (by decide)]; exact e4 x hx
theorem HA.months {g : Nat} (hg : 6 ≤ g) {I J : Wd} {N P m : Nat} (h : AL g I J N) (hs : SL g I J P) (hm : I g 1 = nI m) (hh : HA g I J N) : ∀ n, m + n < 2 ^ 31 → HA g (monthsW g N P I n) (monsM N P J n) N := by
  intro n
  induction n with
  | zero => intro _; exact hh
  | succ n ih =>
    intro hn
    obtain ⟨i1, i2⟩ := L_months hg h hs hm n (by omega)
    exact (ih (by omega)).month hg i1 i2
theorem GB.lk {I J : Wd} {N P : Nat} (hB : GB I J N P) (hC : GC J) : AL 6 I J N ∧ SL 6 I J P ∧ HA 6 I J N := by
  obtain ⟨⟨⟨n1, n2, n3⟩, p1, p2, p3⟩, ⟨u1, u2, u3, u4⟩, ⟨cc, cr⟩, ⟨m, m1, m2, m3, m4⟩, ⟨r1, r2, r3⟩, g6, g7, g8, g9, g10, g11, g12, g13⟩ := hB
  refine ⟨⟨⟨fun c hc => ⟨(cc c hc).1, g11 c hc, (cc c hc).2.1, (cc c hc).2.2.2⟩, hC⟩, fun c hc => (cc c hc).2.2.1, cr, ⟨?_, ?_, r3⟩, fun h hh => (g6 h hh).1, u1⟩, ⟨u4, r1, fun p hp => ⟨g9 p hp, g13 p hp⟩⟩, ⟨r2, u2, u3⟩, fun h hh => (g6 h hh).2⟩
  · rw [m1, m2]
  · rw [m1]; exact nI_pos (by omega)
theorem GB.run {I J : Wd} {N P m n : Nat} (hB : GB I J N P) (hC : GC J) (hm : I 6 1 = nI m) (hm2 : m ≤ 1200) (hn : m + n ≤ 1200) : GB (monthsW 6 N P I n) (monsM N P J n) N P := by
  obtain ⟨h1, h2, h3⟩ := hB.lk hC
  obtain ⟨⟨⟨a1, a1c⟩, a2, a3, ⟨a4, a5, a6⟩, a7, a8⟩, b1, b2, b3⟩ := L_months (by decide) h1 h2 hm n (by omega)
  obtain ⟨⟨c1, c2, c3⟩, c4⟩ := h3.months (by decide) h1 h2 hm n (by omega)
  have hm3 := months_1 (N := N) (P := P) (by decide) hm n
  have fi : ∀ a, a ≠ 6 → a ≠ 8 → a ≠ 9 → a ≠ 10 → a ≠ 11 → a ≠ 12 → a ≠ 14 → a ≠ 16 → a ≠ 17 → monthsW 6 N P I n a = I a := fun a q0 q2 q3 q4 q5 q6 q8 q10 q11 => monthsW_fr q0 q2 q3 q4 q5 q6 q8 q10 q11
  have fj0 : ∀ j, j ≠ 0 → j ≠ 2 → monsM N P J n 0 j = J 0 j := fun j q0 q2 => monsM_0 q0 q2
  have hhi := fun x (hx : N ≤ x) => monthsW_hi (g := 6) (I := I) (P := P) hx n
  obtain ⟨⟨⟨n1, n2, n3⟩, p1, p2, p3⟩, ⟨u1, u2, u3, u4⟩, ⟨cc, cr⟩, ⟨m', m1, m2, m3, m4⟩, ⟨r1, r2, r3⟩, g6, g7, g8, g9, g10, g11, g12, g13⟩ := hB
  have emm : nI m = nI m' := by rw [← hm, m1]
  have emm2 : m = m' := by
    have := congrArg Int32.toInt emm
    rw [nI_toInt (by omega), nI_toInt (by omega)] at this
    omega
  subst emm2
  have hcn := CN.months (N := N) (P := P) (by decide) (show CN (I (6 + 5)) (I (6 + 6)) (64 * m) from m4) n
  generalize hW : monthsW 6 N P I n = W at *
  generalize hV : monsM N P J n = V at *
  refine ⟨⟨⟨?_, ?_, n3⟩, ?_, ?_, p3⟩, ⟨a8, c2, c3, b1⟩, ⟨fun c hc => ⟨(a1 c hc).1, (a1 c hc).2.2.1, a2 c hc, (a1 c hc).2.2.2⟩, a3⟩, ⟨m + n, hm3, ?_, hn, ?_⟩, ⟨b2, c1, a6⟩, fun h hh => ⟨a7 h hh, c4 h hh⟩, ?_, fun h q1 q2 => ⟨?_, ?_⟩, fun p hp => (b3 p hp).1, fun p q1 q2 => ?_, fun c hc => (a1 c hc).2.1, fun h hh => ?_, fun p hp => (b3 p hp).2⟩
  · rw [fi 1 (by decide) (by decide) (by decide) (by decide) (by decide) (by decide) (by decide) (by decide) (by decide)]; exact n1
  · rw [fj0 3 (by decide) (by decide)]; exact n2
  · rw [fi 1 (by decide) (by decide) (by decide) (by decide) (by decide) (by decide) (by decide) (by decide) (by decide)]; exact p1
  · rw [fj0 4 (by decide) (by decide)]; exact p2
  · rw [← a4]; exact hm3
  · exact hcn.le (by omega)
  · rw [fi 15 (by decide) (by decide) (by decide) (by decide) (by decide) (by decide) (by decide) (by decide) (by decide)]; exact g7
  · rw [show W 14 h = I 14 h from hhi h q1]; exact (g8 h q1 q2).1
  · rw [fi 15 (by decide) (by decide) (by decide) (by decide) (by decide) (by decide) (by decide) (by decide) (by decide)]; exact (g8 h q1 q2).2
  · rw [fi 13 (by decide) (by decide) (by decide) (by decide) (by decide) (by decide) (by decide) (by decide) (by decide)]; exact g10 p q1 q2
  · rw [fi 2 (by decide) (by decide) (by decide) (by decide) (by decide) (by decide) (by decide) (by decide) (by decide), fi 3 (by decide) (by decide) (by decide) (by decide) (by decide) (by decide) (by decide) (by decide) (by decide), fi 4 (by decide) (by decide) (by decide) (by decide) (by decide) (by decide) (by decide) (by decide) (by decide)]; exact g12 h hh
theorem left_eq {m : Nat} (hm : m ≤ 1200) {n : Int32} (h : inR n 1 60) : (¬ 1200 - nI m < n ↔ ¬ 1200 < nI m + n) ∧ (¬ 1200 < nI m + n → m + n.toNatClampNeg ≤ 1200) := by
  obtain ⟨e, hn⟩ := n60 h
  rw [e, nI_clamp (by omega)]
  generalize n.toNatClampNeg = j at hn
  rw [show (1200 : Int32) = nI 1200 from rfl, sub_n hm, nI_a]
  constructor
  · constructor
    · intro q z; exact q (nI_lt (by have := lt_n z (by omega) (by omega); omega) (by omega))
    · intro q z; exact q (nI_lt (by have := lt_n z (by omega) (by omega); omega) (by omega))
  · intro q; exact ge_n q (by omega)
set_option maxHeartbeats 2000000 in
theorem k_run {I J : Wd} (h : Rel I J) (n : Int32) : CallOK mX10_run mX11_run [.int n] I J := by
  obtain ⟨N, P, K, L, Wn, hB, hS, hL, hW, hF, hT, hO, hK, hH, hC⟩ := h
  have hR : Rel I J := ⟨N, P, K, L, Wn, hB, hS, hL, hW, hF, hT, hO, hK, hH, hC⟩
  obtain ⟨⟨⟨n1, n2, n3⟩, p1, p2, p3⟩, ⟨u1, u2, u3, u4⟩, ⟨cc, cr⟩, ⟨m, m1, m2, m3, m4⟩, ⟨r1, r2, r3⟩, g6, g7, g8, g9, g10, g11, g12, g13⟩ := id hB
  have hq : (inR n 1 60 ∧ ¬ 1200 - I 6 1 < n) ↔ (inR n 1 60 ∧ ¬ 1200 < J 0 0 + n) := by
    rw [m1, m2]
    exact ⟨fun z => ⟨z.1, (left_eq m3 z.1).1.mp z.2⟩, fun z => ⟨z.1, (left_eq m3 z.1).1.mpr z.2⟩⟩
  refine CallOK.mk (by decide) (by decide) (c_X10_run (N := N) (P := P) ⟨⟨n1, n3⟩, ⟨p1, p3⟩, g11, g13⟩) (c_X11_run (N := N) (P := P) ⟨⟨n2, n3⟩, ⟨p2, p3⟩, fun c hc => by rw [← (cc c hc).1]; exact g11 c hc, by rw [← u4]; exact g13⟩) ?_ ?_
  · unfold vRun mRunV
    by_cases q : inR n 1 60
    · rw [if_pos q, if_pos q]
      by_cases q2 : 1200 < J 0 0 + n
      · rw [if_pos q2, if_neg (fun z => ((hq.mp ⟨q, z⟩).2) q2)]
      · rw [if_neg q2, if_pos (hq.mpr ⟨q, q2⟩).2]
        have hb := (left_eq m3 q).2 (by rw [← m2]; exact q2)
        have hx := (hB.run hC m1 m3 hb).2.2.2.1
        obtain ⟨m', y1, y2, -⟩ := hx
        rw [y1, y2]
    · rw [if_neg q, if_neg q]
  · exact Rel.c2 hq (fun q => ⟨N, P, K, L, Wn, hB.run hC m1 m3 ((left_eq m3 (hq.mp q).1).2 (by rw [← m2]; exact (hq.mp q).2)), hS.fr (fun a a1 a2 => (by rw [monthsW_fr (by omega) (by omega) (by omega) (by omega) (by omega) (by omega) (by omega) (by omega) (by omega)])) (fun a a1 a2 => (by rw [monsM_fr (by omega) (by omega) (by omega) (by omega) (by omega) (by omega) (by omega) (by omega)])) (by rw [monsM_0 (by omega) (by omega)]), hL.fr (fun a a1 a2 => (by rw [monthsW_fr (by omega) (by omega) (by omega) (by omega) (by omega) (by omega) (by omega) (by omega) (by omega)])) (fun a a1 a2 => (by rw [monsM_fr (by omega) (by omega) (by omega) (by omega) (by omega) (by omega) (by omega) (by omega)])) (by rw [monsM_0 (by omega) (by omega)]), hW.fr (fun a a1 a2 => (by rw [monthsW_fr (by omega) (by omega) (by omega) (by omega) (by omega) (by omega) (by omega) (by omega) (by omega)])) (fun a a1 a2 => (by rw [monsM_fr (by omega) (by omega) (by omega) (by omega) (by omega) (by omega) (by omega) (by omega)])) (by rw [monsM_0 (by omega) (by omega)]), hF.fr (fun a a1 a2 => (by rw [monthsW_fr (by omega) (by omega) (by omega) (by omega) (by omega) (by omega) (by omega) (by omega) (by omega)])) (fun a a1 a2 => (by rw [monsM_fr (by omega) (by omega) (by omega) (by omega) (by omega) (by omega) (by omega) (by omega)])) (fun j j1 j2 => (by rw [monsM_0 (by omega) (by omega)])), hT.fr (fun a a1 => (by rw [monthsW_fr (by omega) (by omega) (by omega) (by omega) (by omega) (by omega) (by omega) (by omega) (by omega)])) (fun a a1 a2 => (by rw [monsM_fr (by omega) (by omega) (by omega) (by omega) (by omega) (by omega) (by omega) (by omega)])) (fun j j1 j2 => (by rw [monsM_0 (by omega) (by omega)])), hO.fr (fun j j1 j2 => (by rw [monthsW_fr (by omega) (by omega) (by omega) (by omega) (by omega) (by omega) (by omega) (by omega) (by omega)])) (by rw [monsM_0 (by omega) (by omega)]) (by rw [monsM_0 (by omega) (by omega)]), hK.fr (by rw [monthsW_fr (by omega) (by omega) (by omega) (by omega) (by omega) (by omega) (by omega) (by omega) (by omega)]) (fun a a1 a2 => (by rw [monthsW_fr (by omega) (by omega) (by omega) (by omega) (by omega) (by omega) (by omega) (by omega) (by omega)])) (fun x x1 => (by rw [monsM_fr (by omega) (by omega) (by omega) (by omega) (by omega) (by omega) (by omega) (by omega)])) (fun j j1 j2 => (by rw [monsM_0 (by omega) (by omega)])), hH.fr (fun a a1 a2 => (by rw [monthsW_fr (by omega) (by omega) (by omega) (by omega) (by omega) (by omega) (by omega) (by omega) (by omega)])) (fun a a1 a2 => (by rw [monsM_fr (by omega) (by omega) (by omega) (by omega) (by omega) (by omega) (by omega) (by omega)])), hC.fr (fun a a1 => (by rw [monsM_fr (by omega) (by omega) (by omega) (by omega) (by omega) (by omega) (by omega) (by omega)]))⟩) hR
