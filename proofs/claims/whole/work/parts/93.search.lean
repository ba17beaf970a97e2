/-! the search in lockstep -/
theorem sNd_k {nof sz : Nat → Int32} {k : Nat} : ∀ z, sNd nof sz k z = sNd (fun _ => nof k) sz 0 z := by
  intro z
  induction z with
  | zero => rfl
  | succ z ih =>
    show sNd nof sz k z + (if bitS (nof k) z = 0 then 0 else sz z) = sNd (fun _ => nof k) sz 0 z + (if bitS (nof k) z = 0 then 0 else sz z)
    rw [ih]
theorem gat_inv {nums : Nat → Int32} {z : Nat} {kn : Int32} {J : Wd} : ∀ l, l ≤ 8 → ∃ q, q ≤ l ∧ gatW nums z kn J l 57 10 = nI q ∧ ∀ sz : Nat → Int32, (∀ k, k < q → ¬ sNd (gatW nums z kn J l 65) sz k z < gatW nums z kn J l 64 k) ↔ (∀ l', l' < l → ¬ kn < J 52 l' → ¬ nrM nums (J 50 l') z = 0 → ¬ sNd (fun _ => nrM nums (J 50 l') z) sz 0 z < J 51 l') := by
  intro l
  induction l with
  | zero => intro _; exact ⟨0, Nat.le_refl 0, by show ist J 57 10 0 57 10 = _; rw [ist_eq, upd_eq]; rfl, fun sz => ⟨fun _ l' h => absurd h (Nat.not_lt_zero l'), fun _ k h => absurd h (Nat.not_lt_zero k)⟩⟩
  | succ l ih =>
    intro hl
    obtain ⟨q, h1, h2, h3⟩ := ih (by omega)
    show ∃ q, q ≤ l + 1 ∧ gat1 nums z kn (gatW nums z kn J l) l 57 10 = nI q ∧ ∀ sz : Nat → Int32, (∀ k, k < q → ¬ sNd (gat1 nums z kn (gatW nums z kn J l) l 65) sz k z < gat1 nums z kn (gatW nums z kn J l) l 64 k) ↔ _
    unfold gat1
    rw [gatW_fr (a := 50) (by decide) (by decide) (by decide), gatW_fr (a := 51) (by decide) (by decide) (by decide), gatW_fr (a := 52) (by decide) (by decide) (by decide)]
    have skip : ∀ sz : Nat → Int32, (kn < J 52 l ∨ nrM nums (J 50 l) z = 0) → ((∀ l', l' < l → ¬ kn < J 52 l' → ¬ nrM nums (J 50 l') z = 0 → ¬ sNd (fun _ => nrM nums (J 50 l') z) sz 0 z < J 51 l') ↔ (∀ l', l' < l + 1 → ¬ kn < J 52 l' → ¬ nrM nums (J 50 l') z = 0 → ¬ sNd (fun _ => nrM nums (J 50 l') z) sz 0 z < J 51 l')) := by
      intro sz w
      constructor
      · intro a l' hl' b c
        by_cases e : l' = l
        · subst e; exact (w.elim b c).elim
        · exact a l' (by omega) b c
      · intro a l' hl'; exact a l' (by omega)
    by_cases p1 : nrM nums (J 50 l) z = 0
    · rw [if_pos p1]
      exact ⟨q, by omega, h2, fun sz => (h3 sz).trans (skip sz (Or.inr p1))⟩
    · rw [if_neg p1]
      by_cases p2 : kn < J 52 l
      · rw [if_pos p2]
        exact ⟨q, by omega, h2, fun sz => (h3 sz).trans (skip sz (Or.inl p2))⟩
      · rw [if_neg p2, h2, nI_clamp (show q < 2 ^ 31 by omega)]
        refine ⟨q + 1, by omega, by rw [ist_eq, upd_eq, nI_1], fun sz => ?_⟩
        rw [ist_ne (show (65 : Nat) ≠ 57 by decide), ist_eq, ist_ne (show (65 : Nat) ≠ 64 by decide), ist_ne (show (64 : Nat) ≠ 57 by decide), ist_ne (show (64 : Nat) ≠ 65 by decide), ist_eq]
        have up : ∀ k, k < q → sNd (upd (gatW nums z kn J l 65) q (nrM nums (J 50 l) z)) sz k z = sNd (gatW nums z kn J l 65) sz k z := fun k hk => by
          rw [sNd_k, upd_ne (by omega), ← sNd_k]
        have uq : sNd (upd (gatW nums z kn J l 65) q (nrM nums (J 50 l) z)) sz q z = sNd (fun _ => nrM nums (J 50 l) z) sz 0 z := by
          rw [sNd_k, upd_eq]
        constructor
        · intro a l' hl' b c
          by_cases e : l' = l
          · subst e
            have := a q (by omega)
            rw [uq, upd_eq] at this
            exact this
          · refine (h3 sz).mp (fun k hk => ?_) l' (by omega) b c
            have := a k (by omega)
            rw [up k hk, upd_ne (by omega)] at this
            exact this
        · intro a k hk
          by_cases e : k = q
          · subst e
            rw [uq, upd_eq]
            exact a l (by omega) p2 p1
          · rw [up k (by omega), upd_ne e]
            exact (h3 sz).mpr (fun l' hl' => a l' (by omega)) k (by omega)
/-- how the two searches stand to each other -/
def SI (z : Nat) (v : Nat) (C : Wd) (f l : Int32) (W : Wd) : Prop := ∃ t, t ≤ v ∧ C 57 1 = nI t ∧ (t = 0 ↔ W 0 36 = 0) ∧ (t ≠ 0 → W 0 35 = nI t ∧ C 57 2 = f ∧ C 57 3 = l ∧ ∀ i, i < z → C 58 i = W 31 i ∧ C 59 i = W 32 i ∧ C 60 i = W 33 i)
theorem SI.fr {z v v2 : Nat} {C C' W W' : Wd} {f l : Int32} (h : SI z v C f l W) (hv : v ≤ v2) (hC : ∀ a, 57 ≤ a → a ≤ 60 → C' a = C a) (hW : ∀ a, a ≠ 30 → W' a = W a) : SI z v2 C' f l W' := by
  unfold SI at h ⊢
  rw [hC 57 (by decide) (by decide), hC 58 (by decide) (by decide), hC 59 (by decide) (by decide), hC 60 (by decide) (by decide), hW 0 (by decide), hW 31 (by decide), hW 32 (by decide), hW 33 (by decide)]
  obtain ⟨t, h1, h2⟩ := h
  exact ⟨t, by omega, h2⟩
theorem nI_inj0 {t : Nat} (h : t < 2 ^ 31) : nI t = 0 ↔ t = 0 := by
  constructor
  · intro q
    have := congrArg Int32.toInt q
    rw [nI_toInt h, show (0 : Int32).toInt = 0 from rfl] at this
    omega
  · intro q; subst q; rfl
theorem SI.pick {z v : Nat} (hz : z ≤ 5) (hv : v < 100000) {C W X D : Wd} {f l n s : Int32} (h : SI z v C f l W) (hD : ∀ a, a ≠ 63 → D a = C a) (hX : ∀ a, a ≠ 30 → X a = W a) (he : ∀ i, i < z → D 63 i = X 30 i) (hn : sFew (D 63) z = n) (hs : sSum (D 63) z = s) : (skM W n s f l → SI z (v + 1) (wgW D z) f l X) ∧ (¬ skM W n s f l → (nwM W n s f l → SI z (v + 1) (wgW D z) n s (adM (newM X z) z)) ∧ (¬ nwM W n s f l → SI z (v + 1) (wgW D z) f l (adM X z))) := by
  obtain ⟨t, h1, h2, h3, h4⟩ := id h
  have d57 : D 57 = C 57 := hD 57 (by decide)
  have asym : ∀ a b : Int32, a < b → b < a → False := fun a b p q => by rw [Int32.lt_iff_toInt_lt] at p q; omega
  have tri : ∀ a b : Int32, ¬ a < b → ¬ b < a → a = b := fun a b p q => by
    apply Int32.toInt_inj.mp; rw [Int32.lt_iff_toInt_lt] at p q; omega
  have irr : ∀ a : Int32, ¬ a < a := fun a p => asym a a p p
  have hnew : SI z (v + 1) (wgNew D z) n s (adM (newM X z) z) := by
    refine ⟨1, by omega, ?_, ⟨fun w => absurd w (by decide), fun w => ?_⟩, fun _ => ⟨?_, ?_, ?_, fun i hi => ?_⟩⟩
    · unfold wgNew
      simp (disch := decide) only [rset_ne, ist_eq, ist_ne, upd_eq, upd_ne]; rfl
    · unfold adM tieM newM at w
      simp (disch := decide) only [rset_ne, ist_eq, ist_ne, upd_eq, upd_ne] at w
      exact absurd w (by decide)
    · unfold adM tieM newM
      simp (disch := decide) only [rset_ne, ist_eq, ist_ne, upd_eq, upd_ne]; rfl
    · unfold wgNew
      simp (disch := decide) only [rset_ne, ist_eq, ist_ne, upd_eq, upd_ne]; exact hn
    · unfold wgNew
      simp (disch := decide) only [rset_ne, ist_eq, ist_ne, upd_eq, upd_ne]; exact hs
    · unfold wgNew adM tieM newM
      simp (disch := decide) only [rset_ne, rset_eq, ist_eq, ist_ne, upd_eq, upd_ne]
      rw [fil_in (show i < 5 by omega), fil_in (show i < 5 by omega), fil_in (show i < 5 by omega), fil_in hi, fil_in hi, fil_in hi, fil_in hi, fil_in hi, he i hi]
      refine ⟨rfl, ?_, ?_⟩
      · unfold lsM; rw [if_neg (irr _)]
      · unfold mx; rw [if_neg (irr _)]
  by_cases t0 : t = 0
  · -- nothing found yet
    have w36 : W 0 36 = 0 := h3.mp t0
    refine ⟨fun w => absurd w36 w.1, fun _ => ⟨fun _ => ?_, fun w => absurd (Or.inl w36) w⟩⟩
    unfold wgW
    rw [if_pos (Or.inl (by rw [d57, h2, t0]; rfl))]
    exact hnew
  · have w36 : ¬ W 0 36 = 0 := fun w => t0 (h3.mpr w)
    obtain ⟨k1, k2, k3, k4⟩ := h4 t0
    have c1 : ¬ D 57 1 = 0 := by rw [d57, h2]; exact fun w => t0 ((nI_inj0 (by omega)).mp w)
    refine ⟨fun w => ?_, fun w => ⟨fun w2 => ?_, fun w2 => ?_⟩⟩
    · -- worse
      have e : wgW D z = D := by
        unfold wgW
        rw [hn, hs, d57, k2, k3]
        rw [if_neg (fun q => ?_), if_neg (fun q => ?_)]
        · rcases w.2 with a | ⟨a, b⟩
          · rw [q.1] at a; exact irr _ a
          · rw [q.2] at b; exact irr _ b
        · rcases q with q | q | q
          · rw [d57] at c1; exact c1 q
          · rcases w.2 with a | ⟨a, b⟩
            · exact asym _ _ a q
            · rw [a] at q; exact irr _ q
          · rcases w.2 with a | ⟨a, b⟩
            · rw [q.1] at a; exact irr _ a
            · exact asym _ _ b q.2
      rw [e]
      exact h.fr (Nat.le_succ v) (fun a a1 a2 => hD a (by omega)) hX
    · -- better
      have e : wgW D z = wgNew D z := by
        unfold wgW
        rw [hn, hs, d57, k2, k3]
        refine if_pos (Or.inr ?_)
        rcases w2 with w2 | w2 | w2
        · exact absurd w2 w36
        · exact Or.inl w2
        · by_cases q : n < f
          · exact Or.inl q
          · exact Or.inr ⟨tri _ _ q (fun r => w ⟨w36, Or.inl r⟩), w2⟩
      rw [e]; exact hnew
    · -- as good
      have nf : n = f := tri _ _ (fun r => w2 (Or.inr (Or.inl r))) (fun r => w ⟨w36, Or.inl r⟩)
      have sl : s = l := tri _ _ (fun r => w2 (Or.inr (Or.inr r))) (fun r => w ⟨w36, Or.inr ⟨nf, r⟩⟩)
      have e : wgW D z = wgTie D z := by
        unfold wgW
        rw [hn, hs, d57, k2, k3]
        rw [if_neg (fun q => ?_), if_pos ⟨nf, sl⟩]
        rcases q with q | q | q
        · rw [d57] at c1; exact c1 q
        · rw [nf] at q; exact irr _ q
        · rw [sl] at q; exact irr _ q.2
      rw [e]
      refine ⟨t + 1, by omega, ?_, ⟨fun q => absurd q (by omega), fun q => ?_⟩, fun _ => ⟨?_, ?_, ?_, fun i hi => ?_⟩⟩
      · unfold wgTie
        simp (disch := decide) only [rset_ne, ist_eq, ist_ne, upd_eq, upd_ne]
        rw [d57, h2, nI_1]
      · unfold adM tieM at q
        simp (disch := decide) only [rset_ne, ist_eq, ist_ne, upd_eq, upd_ne] at q
        rw [hX 0 (by decide)] at q
        exact absurd q w36
      · unfold adM tieM
        simp (disch := decide) only [rset_ne, ist_eq, ist_ne, upd_eq, upd_ne]
        rw [hX 0 (by decide), k1, nI_1]
      · unfold wgTie
        simp (disch := decide) only [rset_ne, ist_eq, ist_ne, upd_eq, upd_ne]
        rw [d57]; exact k2
      · unfold wgTie
        simp (disch := decide) only [rset_ne, ist_eq, ist_ne, upd_eq, upd_ne]
        rw [d57]; exact k3
      · obtain ⟨y1, y2, y3⟩ := k4 i hi
        unfold wgTie adM tieM
        simp (disch := decide) only [rset_ne, rset_eq, ist_eq, ist_ne, upd_eq, upd_ne]
        rw [fil_in hi, fil_in hi, fil_in hi, fil_in hi, he i hi, hD 58 (by decide), hD 59 (by decide), hD 60 (by decide), hX 31 (by decide), hX 32 (by decide), hX 33 (by decide), y1, y2, y3]
        exact ⟨rfl, rfl, rfl⟩
