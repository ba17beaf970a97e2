/-! the months of both in lockstep -/
def HL (g : Nat) (I J : Wd) : Prop := (∀ c, c < 64 → I (g + 1) c = J 1 c ∧ vp_in (I (g + 1) c) 4 ∧ I (g + 2) c = J 2 c ∧ I (g + 4) c = J 4 c) ∧ GC J
theorem HL.o {g : Nat} {I J I' J' : Wd} (h : HL g I J) (h1 : I' (g + 1) = I (g + 1)) (h2 : I' (g + 2) = I (g + 2)) (h4 : I' (g + 4) = I (g + 4)) (j1 : J' 1 = J 1) (j2 : J' 2 = J 2) (j4 : J' 4 = J 4) (j6 : J' 6 = J 6) (j7 : J' 7 = J 7) (j26 : J' 26 = J 26) : HL g I' J' := by
  unfold HL GC at h ⊢
  rw [h1, h2, h4, j1, j2, j4, j6, j7, j26]
  exact h
theorem GC.fr_2 {J : Wd} (h : GC J) {c : Nat} {v : Int32} : GC (ist J 2 c v) := h.fr (fun a ha => ist_ne (by omega))
theorem HL.solve {g : Nat} {I J : Wd} (h : HL g I J) {c : Nat} {u : Int32} (hc : c < 64) : HL g (solveW g I c u) (wentM J c u) := by
  obtain ⟨a1, a2, a3, a4⟩ := h.1 c hc
  have hv : J 6 (J 1 c).toNatClampNeg = tbSolves.getD (I (g + 1) c).toNatClampNeg 0 := by
    rw [← a1]; exact (h.2.1 _ (vp_lt a2)).1
  unfold solveW wentM
  rw [a4]
  by_cases q : J 4 c < 0
  · rw [if_pos q, if_pos q, hv, a3]
    refine ⟨fun x hx => ?_, h.2.fr_2⟩
    obtain ⟨b1, b2, b3, b4⟩ := h.1 x hx
    have z1 : ∀ v, ist I (g + 2) c v (g + 1) = I (g + 1) := fun v => ist_ne (by omega)
    have z4 : ∀ v, ist I (g + 2) c v (g + 4) = I (g + 4) := fun v => ist_ne (by omega)
    have y1 : ∀ v, ist J 2 c v 1 = J 1 := fun v => ist_ne (by decide)
    have y4 : ∀ v, ist J 2 c v 4 = J 4 := fun v => ist_ne (by decide)
    rw [z1, z4, y1, y4, ist_eq, ist_eq]
    refine ⟨b1, b2, ?_, b4⟩
    by_cases e : x = c
    · subst e; rw [upd_eq, upd_eq]
    · rw [upd_ne e, upd_ne e]; exact b3
  · rw [if_neg q, if_neg q]; exact h
theorem mn_ls (a b : Int32) : mn a b = lsM a b := by
  unfold mn lsM
  by_cases q : b < a
  · rw [if_pos q, if_neg (fun z => by rw [Int32.lt_iff_toInt_lt] at q z; omega)]
  · rw [if_neg q]
    by_cases q2 : a < b
    · rw [if_pos q2]
    · rw [if_neg q2]
      apply Int32.toInt_inj.mp
      rw [Int32.lt_iff_toInt_lt] at q q2
      omega
theorem ab_M (x : Int32) : ab x = abM x := by
  unfold ab abM
  by_cases q : x < 0
  · rw [if_pos q, if_neg (fun z => by rw [Int32.le_iff_toInt_le] at z; rw [Int32.lt_iff_toInt_lt] at q; omega)]
    exact Int32.zero_sub x
  · rw [if_neg q, if_pos (Int32.not_lt.mp q)]
theorem L_pump {g : Nat} (hg : 6 ≤ g) {I J : Wd} {P : Nat} (h : HL g I J) (hw : ∀ c, c < 64 → I (g + 3) c = J 3 c) (h5 : I 5 = J 14) (hp : ∀ p, p < P → I (g + 7) p = J 15 p ∧ vp_in (I 5 p) 64) : ∀ p, p ≤ P → HL g (pumpW g I p) (pmpM J p) ∧ ∀ c, c < 64 → pumpW g I p (g + 3) c = pmpM J p 3 c := by
  intro p
  induction p with
  | zero => intro _; exact ⟨h, hw⟩
  | succ p ih =>
    intro hpP
    obtain ⟨i1, i2⟩ := ih (by omega)
    obtain ⟨e1, e2⟩ := hp p (by omega)
    show HL g (pump1 g (pumpW g I p) p) (pmpM1 (pmpM J p) p) ∧ ∀ c, c < 64 → pump1 g (pumpW g I p) p (g + 3) c = pmpM1 (pmpM J p) p 3 c
    unfold pump1 pmpM1
    rw [pumpW_fr (a := 5) (by omega) (by omega), pumpW_fr (a := g + 7) (by omega) (by omega), pmpM_fr (a := 14) (by decide) (by decide), pmpM_fr (a := 15) (by decide) (by decide), ← h5, e1]
    have hx := vp_lt e2
    generalize (I 5 p).toNatClampNeg = x at hx ⊢
    rw [i2 x hx, mn_ls]
    constructor
    · refine HL.solve ?_ hx
      exact i1.o (ist_ne (by omega)) (ist_ne (by omega)) (ist_ne (by omega)) (ist_ne (by decide)) (ist_ne (by decide)) (ist_ne (by decide)) (ist_ne (by decide)) (ist_ne (by decide)) (ist_ne (by decide))
    · intro c hc
      rw [solveW_fr (by omega), wentM_fr (by decide), ist_eq, ist_eq]
      by_cases e : c = x
      · subst e; rw [upd_eq, upd_eq]
      · rw [upd_ne e, upd_ne e]; exact i2 c hc
theorem go_bet {g : Nat} (hg : 6 ≤ g) {W V : Wd} {w : Nat → Int32} (h : HL g W V) {a b : Nat} (ha : a < 64) (hb : b < 64) (hab : a ≠ b) (hf : ∀ q, q < 64 → W (g + 3) q = w q + V 5 q) {n : Int32} (hn : n = (V 3 a - V 3 b) / 8) : HL g (goW g W a b n) (betM V a b) ∧ ∀ q, q < 64 → goW g W a b n (g + 3) q = w q + betM V a b 5 q := by
  subst hn
  unfold goW betM
  rw [ab_M]
  constructor
  · refine HL.solve (HL.solve ?_ ha) hb
    refine (h.o (I' := ist W (g + 3) a _) (J' := ist V 5 a _) (ist_ne (by omega)) (ist_ne (by omega)) (ist_ne (by omega)) (ist_ne (by decide)) (ist_ne (by decide)) (ist_ne (by decide)) (ist_ne (by decide)) (ist_ne (by decide)) (ist_ne (by decide))).o (ist_ne (by omega)) (ist_ne (by omega)) (ist_ne (by omega)) (ist_ne (by decide)) (ist_ne (by decide)) (ist_ne (by decide)) (ist_ne (by decide)) (ist_ne (by decide)) (ist_ne (by decide))
  · intro q hq
    rw [solveW_fr (by omega), solveW_fr (by omega), wentM_fr (by decide), wentM_fr (by decide), ist_eq, ist_eq, ist_eq, ist_eq]
    by_cases e : q = b
    · subst e
      rw [upd_eq, upd_eq, upd_ne (Ne.symm hab), upd_ne (Ne.symm hab), hf q hq, Int32.add_assoc]
    · rw [upd_ne e, upd_ne e]
      by_cases e2 : q = a
      · subst e2
        rw [upd_eq, upd_eq, hf q hq]
        generalize (V 3 q - V 3 b) / 8 = y
        rw [Int32.sub_eq_add_neg, Int32.sub_eq_add_neg, Int32.add_assoc]
      · rw [upd_ne e2, upd_ne e2]; exact hf q hq
theorem L_flow {g : Nat} (hg : 6 ≤ g) {I J : Wd} (h : HL g I J) (hw : ∀ c, c < 64 → I (g + 3) c = J 3 c) : ∀ c, c ≤ 64 → HL g (flowW g (measW g I 64) c) (betW (zeroM J) c) ∧ ∀ q, q < 64 → flowW g (measW g I 64) c (g + 3) q = J 3 q + betW (zeroM J) c 5 q := by
  intro c
  induction c with
  | zero =>
    intro _
    refine ⟨h.o (measW_fr (by omega) (by omega)) (measW_fr (by omega) (by omega)) (measW_fr (by omega) (by omega)) (zeroM_fr (by decide)) (zeroM_fr (by decide)) (zeroM_fr (by decide)) (zeroM_fr (by decide)) (zeroM_fr (by decide)) (zeroM_fr (by decide)), fun q hq => ?_⟩
    show measW g I 64 (g + 3) q = J 3 q + zeroM J 5 q
    rw [measW_fr (by omega) (by omega), hw q hq]
    unfold zeroM
    rw [rset_eq, fil_in hq, Int32.add_zero]
  | succ c ih =>
    intro hc
    obtain ⟨i1, i2⟩ := ih (by omega)
    have h10 : measW g I 64 (g + 10) c = dnF (I (g + 3)) c := by unfold measW; rw [rset_ne (by omega), rset_eq, fil_in (by omega)]
    have h11 : measW g I 64 (g + 11) c = acF (I (g + 3)) c := by unfold measW; rw [rset_eq, fil_in (by omega)]
    have s1 : HL g (flow1 g (flowW g (measW g I 64) c) c) (bet1 (betW (zeroM J) c) c) ∧ ∀ q, q < 64 → flow1 g (flowW g (measW g I 64) c) c (g + 3) q = J 3 q + bet1 (betW (zeroM J) c) c 5 q := by
      unfold flow1 bet1
      by_cases q : c + 8 < 64
      · rw [if_pos q, if_pos q]
        refine go_bet hg i1 (by omega) q (by omega) i2 ?_
        rw [flowW_fr (by omega) (by omega), h10, betW_fr (by decide) (by decide), zeroM_fr (by decide)]
        unfold dnF
        rw [if_pos q, hw c (by omega), hw (c + 8) q]
      · rw [if_neg q, if_neg q]; exact ⟨i1, i2⟩
    show HL g (flow2 g (flow1 g (flowW g (measW g I 64) c) c) c) (bet2 (bet1 (betW (zeroM J) c) c) c) ∧ ∀ q, q < 64 → flow2 g (flow1 g (flowW g (measW g I 64) c) c) c (g + 3) q = J 3 q + bet2 (bet1 (betW (zeroM J) c) c) c 5 q
    have f1 : flow1 g (flowW g (measW g I 64) c) c (g + 11) = measW g I 64 (g + 11) := by
      unfold flow1
      split
      · rw [goW_fr (by omega) (by omega), flowW_fr (by omega) (by omega)]
      · rw [flowW_fr (by omega) (by omega)]
    have f2 : bet1 (betW (zeroM J) c) c 3 = J 3 := by
      unfold bet1
      split
      · rw [betM_fr (by decide) (by decide), betW_fr (by decide) (by decide), zeroM_fr (by decide)]
      · rw [betW_fr (by decide) (by decide), zeroM_fr (by decide)]
    unfold flow2 bet2
    by_cases q : c % 8 < 7
    · rw [if_pos q, if_pos q]
      refine go_bet hg s1.1 (by omega) (by omega) (by omega) s1.2 ?_
      rw [f1, h11, f2]
      unfold acF
      rw [if_pos q, hw c (by omega), hw (c + 1) (by omega)]
    · rw [if_neg q, if_neg q]; exact s1
/-! which fall, and what goes with them -/
def AL (g : Nat) (I J : Wd) (N : Nat) : Prop := HL g I J ∧ (∀ c, c < 64 → I (g + 3) c = J 3 c) ∧ (∀ r, r < 4 → I (g + 5) r = J 9 r ∧ I (g + 6) r = J 8 r) ∧ (I g 1 = J 0 0 ∧ ¬ I g 1 < 0 ∧ I g 3 = sCf (J 4) 64) ∧ (∀ h, h < N → I (g + 8) h = J 13 h) ∧ I 2 = J 10
theorem takeW_0 {g : Nat} {I : Wd} {c n j : Nat} (hg : g ≠ g + 8) (h : j ≠ 4) : takeW g I c n g j = I g j := by
  induction n with
  | zero => rfl
  | succ n ih =>
    show take1 g (takeW g I c n) c n g j = _
    unfold take1
    split
    · rw [ist_eq, upd_ne h, ist_ne hg]; exact ih
    · exact ih
theorem L_take {g : Nat} (hg : 6 ≤ g) {I J : Wd} {N c : Nat} (h : ∀ x, x < N → I (g + 8) x = J 13 x) (h2 : I 2 = J 10) (hm : I g 1 = J 0 0) : ∀ n, n ≤ N → ∀ x, x < N → takeW g I c n (g + 8) x = tkM J c n 13 x := by
  intro n
  induction n with
  | zero => intro _; exact h
  | succ n ih =>
    intro hn x hx
    have i1 := ih (by omega)
    show take1 g (takeW g I c n) c n (g + 8) x = tkM1 (tkM J c n) c n 13 x
    unfold take1 tkM1
    rw [takeW_fr (a := 2) (by omega) (by omega), tkM_fr (a := 10) (by decide) (by decide), h2, i1 n (by omega), takeW_0 (by omega) (by decide), tkM_0 (by decide), hm]
    by_cases q : J 10 n = nI c ∧ tkM J c n 13 n < 0
    · rw [if_pos q, if_pos q]
      have z : ∀ v w, ist (ist (takeW g I c n) (g + 8) n v) g 4 w (g + 8) = upd (takeW g I c n (g + 8)) n v := fun v w => by rw [ist_ne (by omega), ist_eq]
      have y : ∀ v w, ist (ist (tkM J c n) 13 n v) 0 2 w 13 = upd (tkM J c n 13) n v := fun v w => by rw [ist_ne (by decide), ist_eq]
      rw [z, y]
      by_cases e : x = n
      · subst e; rw [upd_eq, upd_eq]
      · rw [upd_ne e, upd_ne e]; exact i1 x hx
    · rw [if_neg q, if_neg q]; exact i1 x hx
theorem sCf_upd {f : Nat → Int32} {c : Nat} {v : Int32} (h : f c < 0) (hv : ¬ v < 0) : ∀ n, sCf (upd f c v) n = sCf f n + (if c < n then 1 else 0) := by
  intro n
  induction n with
  | zero => rfl
  | succ n ih =>
    show sCf (upd f c v) n + (if upd f c v n < 0 then 0 else 1) = sCf f n + (if f n < 0 then 0 else 1) + (if c < n + 1 then 1 else 0)
    rw [ih]
    by_cases e : n = c
    · subst e
      rw [upd_eq, if_neg hv, if_pos h, if_neg (Nat.lt_irrefl n), if_pos (Nat.lt_succ_self n), Int32.add_zero]
    · rw [upd_ne e]
      by_cases q : c < n
      · rw [if_pos q, if_pos (show c < n + 1 by omega), Int32.add_assoc, Int32.add_assoc, Int32.add_comm 1]
      · rw [if_neg q, if_neg (show ¬ c < n + 1 by omega), Int32.add_zero, Int32.add_zero]
theorem AL.fall {g : Nat} (hg : 6 ≤ g) {I J : Wd} {N c : Nat} (h : AL g I J N) (hc : c < 64) : AL g (fall1 g I N c) (flM1 J N c) N := by
  obtain ⟨a1, a2, a3, ⟨a4, a5, a6⟩, a7, a8⟩ := h
  obtain ⟨b1, b2, b3, b4⟩ := a1.1 c hc
  have hr := vp_lt b2
  have hbr : J 7 (J 1 c).toNatClampNeg = tbBears.getD (I (g + 1) c).toNatClampNeg 0 := by rw [← b1]; exact (a1.2.1 _ hr).2
  unfold fall1 flM1
  rw [b4, hbr, a2 c hc, b3]
  by_cases q : J 4 c < 0
  · rw [if_pos q, if_pos q]
    rw [← b1]
    generalize hrk : (I (g + 1) c).toNatClampNeg = r at hr ⊢
    have c1 : ∀ x, x < 4 → upd (I (g + 6)) r (I (g + 6) r + 1) x = upd (J 8) r (J 8 r + 1) x := by
      intro x hx
      by_cases e : x = r
      · subst e; rw [upd_eq, upd_eq, (a3 x hx).2]
      · rw [upd_ne e, upd_ne e]; exact (a3 x hx).2
    have c2 : ∀ x, x < 4 → upd (I (g + 5)) r (I (g + 5) r + 1) x = upd (J 9) r (J 9 r + 1) x := by
      intro x hx
      by_cases e : x = r
      · subst e; rw [upd_eq, upd_eq, (a3 x hx).1]
      · rw [upd_ne e, upd_ne e]; exact (a3 x hx).1
    by_cases q2 : tbBears.getD r 0 + J 3 c / 20 < J 2 c
    · rw [if_pos q2, if_pos q2]
      generalize hW : ist (ist (ist (ist I (g + 6) r (I (g + 6) r + 1)) (g + 4) c (I g 1)) g 3 (I g 3 + 1)) (g + 5) r (I (g + 5) r + 1) = W
      generalize hV : ist (ist (ist J 8 r (J 8 r + 1)) 4 c (J 0 0)) 9 r (J 9 r + 1) = V
      have w0 : ∀ j, j ≠ 3 → W g j = I g j := fun j hj => by rw [← hW, ist_ne (by omega), ist_eq, upd_ne hj, ist_ne (by omega), ist_ne (by omega)]
      have w03 : W g 3 = I g 3 + 1 := by rw [← hW, ist_ne (by omega), ist_eq, upd_eq]
      have w4 : W (g + 4) = upd (I (g + 4)) c (I g 1) := by rw [← hW, ist_ne (by omega), ist_ne (by omega), ist_eq, ist_ne (by omega)]
      have w5 : W (g + 5) = upd (I (g + 5)) r (I (g + 5) r + 1) := by rw [← hW, ist_eq, ist_ne (by omega), ist_ne (by omega), ist_ne (by omega)]
      have w6 : W (g + 6) = upd (I (g + 6)) r (I (g + 6) r + 1) := by rw [← hW, ist_ne (by omega), ist_ne (by omega), ist_ne (by omega), ist_eq]
      have wf : ∀ a, a ≠ g → a ≠ g + 4 → a ≠ g + 5 → a ≠ g + 6 → W a = I a := fun a h0 h4 h5 h6 => by rw [← hW, ist_ne h5, ist_ne h0, ist_ne h4, ist_ne h6]
      have v4 : V 4 = upd (J 4) c (J 0 0) := by rw [← hV, ist_ne (by decide), ist_eq, ist_ne (by decide)]
      have v9 : V 9 = upd (J 9) r (J 9 r + 1) := by rw [← hV, ist_eq, ist_ne (by decide), ist_ne (by decide)]
      have v8 : V 8 = upd (J 8) r (J 8 r + 1) := by rw [← hV, ist_ne (by decide), ist_ne (by decide), ist_eq]
      have vf : ∀ a, a ≠ 4 → a ≠ 8 → a ≠ 9 → V a = J a := fun a h4 h8 h9 => by rw [← hV, ist_ne h9, ist_ne h4, ist_ne h8]
      refine ⟨⟨fun x hx => ?_, ?_⟩, fun x hx => ?_, fun x hx => ?_, ⟨?_, ?_, ?_⟩, ?_, ?_⟩
      · rw [takeW_fr (by omega) (by omega), takeW_fr (by omega) (by omega), takeW_fr (by omega) (by omega), tkM_fr (by decide) (by decide), tkM_fr (by decide) (by decide), tkM_fr (by decide) (by decide), wf (g + 1) (by omega) (by omega) (by omega) (by omega), wf (g + 2) (by omega) (by omega) (by omega) (by omega), w4, v4, vf 1 (by decide) (by decide) (by decide), vf 2 (by decide) (by decide) (by decide)]
        obtain ⟨d1, d2, d3, d4⟩ := a1.1 x hx
        refine ⟨d1, d2, d3, ?_⟩
        by_cases e : x = c
        · subst e; rw [upd_eq, upd_eq, a4]
        · rw [upd_ne e, upd_ne e]; exact d4
      · exact a1.2.fr (fun a ha => by rw [tkM_fr (by omega) (by omega)]; exact vf a (by omega) (by omega) (by omega))
      · rw [takeW_fr (by omega) (by omega), tkM_fr (by decide) (by decide), wf (g + 3) (by omega) (by omega) (by omega) (by omega), vf 3 (by decide) (by decide) (by decide)]
        exact a2 x hx
      · rw [takeW_fr (by omega) (by omega), takeW_fr (by omega) (by omega), tkM_fr (by decide) (by decide), tkM_fr (by decide) (by decide), w5, w6, v8, v9]
        exact ⟨c2 x hx, c1 x hx⟩
      · rw [takeW_0 (by omega) (by decide), tkM_0 (by decide), w0 1 (by decide), vf 0 (by decide) (by decide) (by decide)]; exact a4
      · rw [takeW_0 (by omega) (by decide), w0 1 (by decide)]; exact a5
      · rw [takeW_0 (by omega) (by decide), w03, tkM_fr (by decide) (by decide), v4, sCf_upd q (by rw [← a4]; exact a5) 64, if_pos hc, a6]
      · exact L_take hg (fun x hx => by rw [wf (g + 8) (by omega) (by omega) (by omega) (by omega), vf 13 (by decide) (by decide) (by decide)]; exact a7 x hx) (by rw [wf 2 (by omega) (by omega) (by omega) (by omega), vf 10 (by decide) (by decide) (by decide)]; exact a8) (by rw [w0 1 (by decide), vf 0 (by decide) (by decide) (by decide)]; exact a4) N (Nat.le_refl N)
      · rw [takeW_fr (by omega) (by omega), tkM_fr (by decide) (by decide), wf 2 (by omega) (by omega) (by omega) (by omega), vf 10 (by decide) (by decide) (by decide)]; exact a8
    · rw [if_neg q2, if_neg q2]
      refine ⟨a1.o (ist_ne (by omega)) (ist_ne (by omega)) (ist_ne (by omega)) (ist_ne (by decide)) (ist_ne (by decide)) (ist_ne (by decide)) (ist_ne (by decide)) (ist_ne (by decide)) (ist_ne (by decide)), fun x hx => ?_, fun x hx => ?_, ⟨?_, ?_, ?_⟩, fun x hx => ?_, ?_⟩
      · rw [ist_ne (by omega), ist_ne (by decide)]; exact a2 x hx
      · rw [ist_ne (by omega), ist_eq, ist_ne (by decide), ist_eq]; exact ⟨(a3 x hx).1, c1 x hx⟩
      · rw [ist_ne (by omega), ist_ne (by decide)]; exact a4
      · rw [ist_ne (by omega)]; exact a5
      · rw [ist_ne (by omega), ist_ne (by decide)]; exact a6
      · rw [ist_ne (by omega), ist_ne (by decide)]; exact a7 x hx
      · rw [ist_ne (by omega), ist_ne (by decide)]; exact a8
  · rw [if_neg q, if_neg q]; exact ⟨a1, a2, a3, ⟨a4, a5, a6⟩, a7, a8⟩
theorem AL.falls {g : Nat} (hg : 6 ≤ g) {I J : Wd} {N : Nat} (h : AL g I J N) : ∀ c, c ≤ 64 → AL g (fallW g I N c) (flM J N c) N := by
  intro c
  induction c with
  | zero => intro _; exact h
  | succ c ih => intro hc; exact (ih (by omega)).fall hg (by omega)
/-- what no month changes -/
def SL (g : Nat) (I J : Wd) (P : Nat) : Prop := I 5 = J 14 ∧ I g 2 = J 0 1 ∧ ∀ p, p < P → I (g + 7) p = J 15 p ∧ vp_in (I 5 p) 64
theorem flowW_0 {g : Nat} (hg : 6 ≤ g) {I : Wd} {c : Nat} : flowW g I c g = I g := flowW_fr (by omega) (by omega)
theorem month_g {g N P : Nat} (hg : 6 ≤ g) {I : Wd} {j : Nat} (h1 : j ≠ 1) (h3 : j ≠ 3) (h4 : j ≠ 4) : monthW g N P I g j = I g j := by
  unfold monthW
  rw [ist_eq, upd_ne h1]
  have : ∀ c (W : Wd), fallW g W N c g j = W g j := by
    intro c W
    induction c with
    | zero => rfl
    | succ c ih =>
      show fall1 g (fallW g W N c) N c g j = _
      unfold fall1
      split
      · split
        · rw [takeW_0 (by omega) h4, ist_ne (by omega), ist_eq, upd_ne h3, ist_ne (by omega), ist_ne (by omega)]; exact ih
        · rw [ist_ne (by omega)]; exact ih
      · exact ih
  rw [this, flowW_0 hg, measW_fr (by omega) (by omega), pumpW_fr (by omega) (by omega), rainW_fr (by omega)]
theorem L_mid {g : Nat} (hg : 6 ≤ g) {I J : Wd} {N P : Nat} (h : AL g I J N) (hs : SL g I J P) : ∃ W V : Wd, monthW g N P I = ist (fallW g W N 64) g 1 (fallW g W N 64 g 1 + 1) ∧ monM N P J = ist (flM V N 64) 0 0 (flM V N 64 0 0 + 1) ∧ AL g W V N ∧ (∀ a, a ≠ g + 2 → a ≠ g + 3 → a ≠ g + 10 → a ≠ g + 11 → W a = I a) ∧ ∀ a, a ≠ 2 → a ≠ 3 → a ≠ 5 → V a = J a := by
  obtain ⟨a1, a2, a3, ⟨a4, a5, a6⟩, a7, a8⟩ := h
  have r1 : HL g (rainW g I) (rainM J) := a1.o (rainW_fr (by omega)) (rainW_fr (by omega)) (rainW_fr (by omega)) (rainM_fr (by decide)) (rainM_fr (by decide)) (rainM_fr (by decide)) (rainM_fr (by decide)) (rainM_fr (by decide)) (rainM_fr (by decide))
  have r2 : ∀ c, c < 64 → rainW g I (g + 3) c = rainM J 3 c := by
    intro c hc
    unfold rainW rainM
    rw [rset_eq, rset_eq, fil_in hc, fil_in hc, a2 c hc, hs.2.1]
    rfl
  obtain ⟨p1, p2⟩ := L_pump hg (P := P) r1 r2 (by rw [rainW_fr (by omega), rainM_fr (by decide)]; exact hs.1) (fun p hp => by rw [rainW_fr (by omega), rainM_fr (by decide), rainW_fr (by omega)]; exact hs.2.2 p hp) P (Nat.le_refl P)
  obtain ⟨q1, q2⟩ := L_flow hg p1 p2 64 (Nat.le_refl 64)
  generalize hW : flowW g (measW g (pumpW g (rainW g I) P) 64) 64 = W at q1 q2
  generalize hV : addM (betW (zeroM (pmpM (rainM J) P)) 64) = V
  have wf : ∀ a, a ≠ g + 2 → a ≠ g + 3 → a ≠ g + 10 → a ≠ g + 11 → W a = I a := fun a h2 h3 h10 h11 => by rw [← hW, flowW_fr h2 h3, measW_fr h10 h11, pumpW_fr h2 h3, rainW_fr h3]
  have vf : ∀ a, a ≠ 2 → a ≠ 3 → a ≠ 5 → V a = J a := fun a h2 h3 h5 => by rw [← hV, addM_fr h3, betW_fr h2 h5, zeroM_fr h5, pmpM_fr h2 h3, rainM_fr h3]
  have hA : AL g W V N := by
    refine ⟨?_, fun c hc => ?_, fun r hr => ?_, ⟨?_, ?_, ?_⟩, fun x hx => ?_, ?_⟩
    · rw [← hV]
      exact q1.o rfl rfl rfl (addM_fr (by decide)) (addM_fr (by decide)) (addM_fr (by decide)) (addM_fr (by decide)) (addM_fr (by decide)) (addM_fr (by decide))
    · rw [q2 c hc, ← hV]
      unfold addM
      rw [rset_eq, fil_in hc, betW_fr (a := 3) (by decide) (by decide), zeroM_fr (a := 3) (by decide)]
    · rw [wf (g + 5) (by omega) (by omega) (by omega) (by omega), wf (g + 6) (by omega) (by omega) (by omega) (by omega), vf 8 (by decide) (by decide) (by decide), vf 9 (by decide) (by decide) (by decide)]; exact a3 r hr
    · rw [wf g (by omega) (by omega) (by omega) (by omega), vf 0 (by decide) (by decide) (by decide)]; exact a4
    · rw [wf g (by omega) (by omega) (by omega) (by omega)]; exact a5
    · rw [wf g (by omega) (by omega) (by omega) (by omega), vf 4 (by decide) (by decide) (by decide)]; exact a6
    · rw [wf (g + 8) (by omega) (by omega) (by omega) (by omega), vf 13 (by decide) (by decide) (by decide)]; exact a7 x hx
    · rw [wf 2 (by omega) (by omega) (by omega) (by omega), vf 10 (by decide) (by decide) (by decide)]; exact a8
  exact ⟨W, V, by unfold monthW; rw [hW], by unfold monM mT2 mT3 mT4 mT5 mT6 mT7; rw [hV], hA, wf, vf⟩
theorem L_month {g : Nat} (hg : 6 ≤ g) {I J : Wd} {N P : Nat} (h : AL g I J N) (hs : SL g I J P) (hm : ∃ m, I g 1 = nI m ∧ m + 1 < 2 ^ 31) : AL g (monthW g N P I) (monM N P J) N ∧ SL g (monthW g N P I) (monM N P J) P := by
  obtain ⟨W, V, eI, eJ, hA, wf, vf⟩ := L_mid hg h hs
  obtain ⟨a1, a2, a3, ⟨a4, a5, a6⟩, a7, a8⟩ := h
  obtain ⟨m, em, hm⟩ := hm
  have hfa := hA.falls hg 64 (Nat.le_refl 64)
  refine ⟨?_, ?_, ?_, fun p hp => ?_⟩
  · rw [eI, eJ]
    obtain ⟨b1, b2, b3, ⟨b4, b5, b6⟩, b7, b8⟩ := hfa
    have hmm : fallW g W N 64 g 1 = nI m := by rw [b4, flM_0 (by decide), vf 0 (by decide) (by decide) (by decide), ← a4, em]
    refine ⟨b1.o (ist_ne (by omega)) (ist_ne (by omega)) (ist_ne (by omega)) (ist_ne (by decide)) (ist_ne (by decide)) (ist_ne (by decide)) (ist_ne (by decide)) (ist_ne (by decide)) (ist_ne (by decide)), fun x hx => ?_, fun x hx => ?_, ⟨?_, ?_, ?_⟩, fun x hx => ?_, ?_⟩
    · rw [ist_ne (by omega), ist_ne (by decide)]; exact b2 x hx
    · rw [ist_ne (show g + 5 ≠ g by omega), ist_ne (show g + 6 ≠ g by omega), ist_ne (show (9 : Nat) ≠ 0 by decide), ist_ne (show (8 : Nat) ≠ 0 by decide)]; exact b3 x hx
    · rw [ist_eq, upd_eq, ist_eq, upd_eq, b4]
    · rw [ist_eq, upd_eq, hmm, nI_1]; exact nI_pos hm
    · rw [ist_eq, upd_ne (by decide), ist_ne (by decide)]; exact b6
    · rw [ist_ne (by omega), ist_ne (by decide)]; exact b7 x hx
    · rw [ist_ne (by omega), ist_ne (by decide)]; exact b8
  · rw [monthW_fr (by omega) (by omega) (by omega) (by omega) (by omega) (by omega) (by omega) (by omega) (by omega), monM_fr (by decide) (by decide) (by decide) (by decide) (by decide) (by decide) (by decide) (by decide)]; exact hs.1
  · rw [month_g hg (by decide) (by decide) (by decide), monM_0 (by decide) (by decide)]; exact hs.2.1
  · rw [monthW_fr (by omega) (by omega) (by omega) (by omega) (by omega) (by omega) (by omega) (by omega) (by omega), monthW_fr (a := 5) (by omega) (by omega) (by omega) (by omega) (by omega) (by omega) (by omega) (by omega) (by omega), monM_fr (by decide) (by decide) (by decide) (by decide) (by decide) (by decide) (by decide) (by decide)]; exact hs.2.2 p hp
theorem month_1 {g : Nat} (hg : 6 ≤ g) {I J : Wd} {N P : Nat} : monthW g N P I g 1 = I g 1 + 1 := by
  unfold monthW
  have : ∀ c (W : Wd), fallW g W N c g 1 = W g 1 := by
    intro c W
    induction c with
    | zero => rfl
    | succ c ih =>
      show fall1 g (fallW g W N c) N c g 1 = _
      unfold fall1
      split
      · split
        · rw [takeW_0 (by omega) (by decide), ist_ne (by omega), ist_eq, upd_ne (by decide), ist_ne (by omega), ist_ne (by omega)]; exact ih
        · rw [ist_ne (by omega)]; exact ih
      · exact ih
  rw [ist_eq, upd_eq, this, flowW_0 hg, measW_fr (by omega) (by omega), pumpW_fr (by omega) (by omega), rainW_fr (by omega)]
theorem months_1 {g : Nat} (hg : 6 ≤ g) {I : Wd} {N P m : Nat} (h : I g 1 = nI m) : ∀ n, monthsW g N P I n g 1 = nI (m + n) := by
  intro n
  induction n with
  | zero => exact h
  | succ n ih =>
    show monthW g N P (monthsW g N P I n) g 1 = _
    rw [month_1 hg (J := I), ih, nI_1]; rfl
theorem L_months {g : Nat} (hg : 6 ≤ g) {I J : Wd} {N P m : Nat} (h : AL g I J N) (hs : SL g I J P) (hm : I g 1 = nI m) : ∀ n, m + n < 2 ^ 31 → AL g (monthsW g N P I n) (monsM N P J n) N ∧ SL g (monthsW g N P I n) (monsM N P J n) P := by
  intro n
  induction n with
  | zero => intro _; exact ⟨h, hs⟩
  | succ n ih =>
    intro hn
    obtain ⟨i1, i2⟩ := ih (by omega)
    exact L_month hg i1 i2 ⟨m + n, months_1 hg hm n, hn⟩
