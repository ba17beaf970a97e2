/-! the search, run -/
theorem wgW_fr2 {D : Wd} {z a : Nat} (h7 : a ≠ 57) (h8 : a ≠ 58) (h9 : a ≠ 59) (h6 : a ≠ 60) : wgW D z a = D a := by
  unfold wgW wgNew wgTie
  split
  · simp (disch := assumption) only [rset_ne, ist_ne]
  · split
    · simp (disch := assumption) only [rset_ne, ist_ne]
    · rfl
theorem adM_fr2 {W : Wd} {z a : Nat} (h0 : a ≠ 0) (h2 : a ≠ 32) (h3 : a ≠ 33) : adM W z a = W a := by
  unfold adM tieM; simp (disch := assumption) only [rset_ne, ist_ne]
theorem newM_fr2 {W : Wd} {z a : Nat} (h0 : a ≠ 0) (h1 : a ≠ 31) (h2 : a ≠ 32) (h3 : a ≠ 33) : newM W z a = W a := by
  unfold newM; simp (disch := assumption) only [rset_ne, ist_ne]
theorem adM_02 {W : Wd} {z j : Nat} (h : j ≠ 35) : adM W z 0 j = W 0 j := by
  unfold adM tieM; rw [rset_ne (by decide), rset_ne (by decide), ist_eq, upd_ne h]
theorem newM_02 {W : Wd} {z j : Nat} (h : j ≠ 35) (h2 : j ≠ 36) : newM W z 0 j = W 0 j := by
  unfold newM; rw [rset_ne (by decide), rset_ne (by decide), rset_ne (by decide), ist_eq, upd_ne h, ist_eq, upd_ne h2]
def SF (C0 C W0 W : Wd) : Prop := (∀ a, a ≠ 57 → a ≠ 58 → a ≠ 59 → a ≠ 60 → a ≠ 63 → C a = C0 a) ∧ (∀ a, a ≠ 0 → a ≠ 30 → a ≠ 31 → a ≠ 32 → a ≠ 33 → W a = W0 a) ∧ ∀ j, j ≠ 35 → j ≠ 36 → W 0 j = W0 0 j
theorem fit_run {C0 W0 : Wd} {z L q : Nat} {kn : Int32} (hz : z ≤ 5) (hlh : ∀ i, i < z → C0 61 i = W0 28 i ∧ C0 62 i = W0 29 i) (hfit : ∀ sz sz2 : Nat → Int32, (∀ i, i < z → sz i = sz2 i) → ((∀ k, k < q → ¬ sNd (C0 65) sz k z < C0 64 k) ↔ ∀ l, l < L → ¬ kn < W0 25 l → ¬ soM (W0 27) (W0 23 l) z = 0 → ¬ smM (W0 27) sz2 (W0 23 l) z < W0 24 l)) (h1 : C0 57 1 = 0) (h36 : W0 0 36 = 0) : ∀ v, v < 100000 → SI z v (srW z q C0 v) (mrun z L kn W0 v).1 (mrun z L kn W0 v).2.1 (mrun z L kn W0 v).2.2 ∧ SF C0 (srW z q C0 v) W0 (mrun z L kn W0 v).2.2 := by
  intro v
  induction v with
  | zero => intro _; exact ⟨⟨0, Nat.le_refl 0, h1, ⟨fun _ => h36, fun _ => rfl⟩, fun w => absurd rfl w⟩, fun _ _ _ _ _ _ => rfl, fun _ _ _ _ _ _ => rfl, fun _ _ _ => rfl⟩
  | succ v ih =>
    intro hv
    obtain ⟨i1, f1, f2, f3⟩ := ih (by omega)
    show SI z (v + 1) (sr1 z q (srW z q C0 v) v) (mst z L kn v (mrun z L kn W0 v)).1 (mst z L kn v (mrun z L kn W0 v)).2.1 (mst z L kn v (mrun z L kn W0 v)).2.2 ∧ SF C0 (sr1 z q (srW z q C0 v) v) W0 (mst z L kn v (mrun z L kn W0 v)).2.2
    generalize srW z q C0 v = C at *
    generalize mrun z L kn W0 v = m at *
    obtain ⟨f, l, W⟩ := m
    dsimp only at i1 f2 f3 ⊢
    have hD : ∀ a, a ≠ 63 → (tk z v C).2 a = C a := fun a ha => tk_fr ha
    have hX : ∀ a, a ≠ 30 → (tkA z v 0 0 W).2.2 a = W a := fun a ha => tkA_fr ha
    obtain ⟨x1, x2, x3⟩ := tkA_30 z v 0 0 W
    rw [Int32.zero_add] at x2 x3
    obtain ⟨y1, y2⟩ := tk_ok z v C
    unfold mst sr1
    dsimp only
    generalize tkA z v 0 0 W = T at *
    obtain ⟨n, s, X⟩ := T
    generalize tk z v C = E at *
    obtain ⟨b, D⟩ := E
    dsimp only at *
    have fD : ∀ a, a ≠ 57 → a ≠ 58 → a ≠ 59 → a ≠ 60 → a ≠ 63 → D a = C0 a := fun a h7 h8 h9 h6 h3 => (hD a h3).trans (f1 a h7 h8 h9 h6 h3)
    have fX : ∀ a, a ≠ 0 → a ≠ 30 → a ≠ 31 → a ≠ 32 → a ≠ 33 → X a = W0 a := fun a h0 h30 h31 h32 h33 => (hX a h30).trans (f2 a h0 h30 h31 h32 h33)
    have fX0 : ∀ j, j ≠ 35 → j ≠ 36 → X 0 j = W0 0 j := fun j a b => by rw [hX 0 (by decide)]; exact f3 j a b
    have e30 : ∀ i, i < z → szF z v (C 63) i = X 30 i := fun i hi => by rw [x1]; exact szF_cg z v _ _ i hi
    have hb : b = true ↔ inM X z := by
      rw [y1]
      unfold inM
      constructor
      · intro w k hk
        have := w k hk
        rw [e30 k hk, f1 61 (by decide) (by decide) (by decide) (by decide) (by decide), f1 62 (by decide) (by decide) (by decide) (by decide) (by decide), (hlh k hk).1, (hlh k hk).2] at this
        rw [fX 28 (by decide) (by decide) (by decide) (by decide) (by decide), fX 29 (by decide) (by decide) (by decide) (by decide) (by decide)]
        exact this
      · intro w k hk
        have := w k hk
        rw [fX 28 (by decide) (by decide) (by decide) (by decide) (by decide), fX 29 (by decide) (by decide) (by decide) (by decide) (by decide)] at this
        rw [e30 k hk, f1 61 (by decide) (by decide) (by decide) (by decide) (by decide), f1 62 (by decide) (by decide) (by decide) (by decide) (by decide), (hlh k hk).1, (hlh k hk).2]
        exact this
    have stay : SI z (v + 1) D f l X := i1.fr (Nat.le_succ v) (fun a a1 a2 => hD a (by omega)) hX
    have stayF : SF C0 D W0 X := ⟨fD, fX, fX0⟩
    by_cases ok : b = true ∧ mnP D z q
    · have e63 : ∀ i, i < z → D 63 i = X 30 i := fun i hi => by rw [y2 ok.1]; exact e30 i hi
      have fp : fitP X z L kn := by
        refine ⟨hb.mp ok.1, ?_⟩
        have h2 := ok.2
        unfold mnP at h2
        unfold ndM
        rw [fD 64 (by decide) (by decide) (by decide) (by decide) (by decide), fD 65 (by decide) (by decide) (by decide) (by decide) (by decide)] at h2
        rw [fX 23 (by decide) (by decide) (by decide) (by decide) (by decide), fX 24 (by decide) (by decide) (by decide) (by decide) (by decide), fX 25 (by decide) (by decide) (by decide) (by decide) (by decide), fX 27 (by decide) (by decide) (by decide) (by decide) (by decide)]
        exact (hfit _ _ e63).mp h2
      obtain ⟨g1, g2⟩ := few_cg (f := D 63) (g := X 30) z e63
      rw [x1] at g1 g2
      obtain ⟨pk1, pk2⟩ := i1.pick hz (by omega) hD hX e63 (g1.trans x2.symm) (g2.trans x3.symm)
      rw [if_pos ok.1, if_pos ok.2]
      have wF : ∀ Y : Wd, (∀ a, a ≠ 0 → a ≠ 30 → a ≠ 31 → a ≠ 32 → a ≠ 33 → Y a = X a) → (∀ j, j ≠ 35 → j ≠ 36 → Y 0 j = X 0 j) → SF C0 (wgW D z) W0 Y := fun Y q1 q2 => ⟨fun a h7 h8 h9 h6 h3 => (wgW_fr2 h7 h8 h9 h6).trans (fD a h7 h8 h9 h6 h3), fun a h0 h30 h31 h32 h33 => (q1 a h0 h30 h31 h32 h33).trans (fX a h0 h30 h31 h32 h33), fun j a b => (q2 j a b).trans (fX0 j a b)⟩
      by_cases sk : skM W n s f l
      · rw [if_pos sk]
        exact ⟨pk1 sk, wF X (fun _ _ _ _ _ _ => rfl) (fun _ _ _ => rfl)⟩
      · rw [if_neg sk, if_pos fp]
        by_cases nw : nwM W n s f l
        · rw [if_pos nw]
          exact ⟨(pk2 sk).1 nw, wF (adM (newM X z) z) (fun a h0 h30 h31 h32 h33 => by rw [adM_fr2 h0 h32 h33, newM_fr2 h0 h31 h32 h33]) (fun j a b => by rw [adM_02 a, newM_02 a b])⟩
        · rw [if_neg nw]
          exact ⟨(pk2 sk).2 nw, wF (adM X z) (fun a h0 h30 h31 h32 h33 => by rw [adM_fr2 h0 h32 h33]) (fun j a b => by rw [adM_02 a])⟩
    · have nfp : ¬ fitP X z L kn := by
        rintro ⟨w1, w2⟩
        have hbt := hb.mpr w1
        have e63 : ∀ i, i < z → D 63 i = X 30 i := fun i hi => by rw [y2 hbt]; exact e30 i hi
        refine ok ⟨hbt, ?_⟩
        unfold ndM at w2
        unfold mnP
        rw [fX 23 (by decide) (by decide) (by decide) (by decide) (by decide), fX 24 (by decide) (by decide) (by decide) (by decide) (by decide), fX 25 (by decide) (by decide) (by decide) (by decide) (by decide), fX 27 (by decide) (by decide) (by decide) (by decide) (by decide)] at w2
        rw [fD 64 (by decide) (by decide) (by decide) (by decide) (by decide), fD 65 (by decide) (by decide) (by decide) (by decide) (by decide)]
        exact (hfit _ _ e63).mpr w2
      have eC : (if b = true then (if mnP D z q then wgW D z else D) else D) = D := by
        by_cases p : b = true
        · rw [if_pos p, if_neg (fun w => ok ⟨p, w⟩)]
        · rw [if_neg p]
      rw [eC]
      by_cases sk : skM W n s f l
      · rw [if_pos sk]; exact ⟨stay, stayF⟩
      · rw [if_neg sk, if_neg nfp]; exact ⟨stay, stayF⟩
