/-! the start of a fit -/
theorem fit_start {I J : Wd} {K L z k : Nat} {s kn : Int32} (hS : GS I J K) (hL : GL I J L) (hz : z ≤ 5) (hn : ∀ i, i < z → I (k + 1) i = itM J s i) (hc : ∀ i, i < z → vp_in (itM J s i) 64) : (∀ i, i < z → fitJ I K k z L kn 61 i = fitJM J K z s kn 28 i ∧ fitJ I K k z L kn 62 i = fitJM J K z s kn 29 i) ∧ ∀ sz sz2 : Nat → Int32, (∀ i, i < z → sz i = sz2 i) → ((∀ x, x < fitQ I K k z L kn → ¬ sNd (fitJ I K k z L kn 65) sz x z < fitJ I K k z L kn 64 x) ↔ ∀ l, l < L → ¬ kn < fitJM J K z s kn 25 l → ¬ soM (fitJM J K z s kn 27) (fitJM J K z s kn 23 l) z = 0 → ¬ smM (fitJM J K z s kn 27) sz2 (fitJM J K z s kn 23 l) z < fitJM J K z s kn 24 l) := by
  obtain ⟨⟨l1, l2, l3⟩, ⟨l4, l5, l6⟩, l7⟩ := hL
  have e0 : ∀ a, a ≠ 0 → fitJM J K z s kn a = spnM K kn (40 * s.toNatClampNeg) (ist J 0 34 (nI z)) z a := fun a ha => by unfold fitJM; rw [ist_ne ha]
  have e1 : ∀ i, i < z → fitJM J K z s kn 27 i = itM J s i := fun i hi => by
    rw [e0 27 (by decide), (spn_at z i hi).1, ist_ne (by decide)]; rfl
  have ef : ∀ a, a ≠ 0 → a ≠ 27 → a ≠ 28 → a ≠ 29 → fitJM J K z s kn a = J a := fun a h0 h7 h8 h9 => by
    rw [e0 a h0, spnM_fr h0 h7 h8 h9, ist_ne h0]
  constructor
  · intro i hi
    have lo := hS.lo (c := itM J s i) (kn := kn) (tr := 0)
    obtain ⟨-, s2, s3⟩ := spn_at (K := K) (b := 40 * s.toNatClampNeg) (kn := kn) (J := ist J 0 34 (nI z)) z i hi
    simp (disch := decide) only [ist_ne] at s2 s3
    rw [e0 28 (by decide), e0 29 (by decide), s2, s3]
    unfold fitJ
    rw [gatW_fr (by decide) (by decide) (by decide), gatW_fr (by decide) (by decide) (by decide)]
    unfold spW
    rw [rset_ne (show (61 : Nat) ≠ 62 by decide), rset_eq, rset_eq, fil_in hi, fil_in hi]
    unfold loF hiF
    rw [hn i hi]
    exact lo
  · intro sz sz2 hsz
    obtain ⟨q, h1, h2, h3⟩ := gat_inv (nums := I (k + 1)) (z := z) (kn := kn) (J := spW I K k z kn z) L l3
    have eq : fitQ I K k z L kn = q := by
      unfold fitQ fitJ; rw [h2]; exact nI_clamp (by omega)
    rw [eq]
    refine (h3 sz).trans ?_
    rw [spW_fr (a := 50) (by decide) (by decide) (by decide), spW_fr (a := 51) (by decide) (by decide) (by decide), spW_fr (a := 52) (by decide) (by decide) (by decide), l4, l5, l6]
    rw [ef 23 (by decide) (by decide) (by decide) (by decide), ef 24 (by decide) (by decide) (by decide) (by decide), ef 25 (by decide) (by decide) (by decide) (by decide)]
    have one : ∀ l, l < L → (nrM (I (k + 1)) (J 23 l) z = 0 ↔ soM (fitJM J K z s kn 27) (J 23 l) z = 0) ∧ sNd (fun _ => nrM (I (k + 1)) (J 23 l) z) sz 0 z = smM (fitJM J K z s kn 27) sz2 (J 23 l) z := by
      intro l hl
      have hv : vp_in (J 23 l) 64 := by rw [← l4]; exact l7 l hl
      have fs : ∀ i, i < z → (farP (J 23 l) (I (k + 1) i) ↔ farM (fitJM J K z s kn 27 i) (J 23 l)) := fun i hi => by
        rw [e1 i hi, hn i hi]; exact far_sym hv (hc i hi)
      refine ⟨?_, nd_eq (nof := fun _ => nrM (I (k + 1)) (J 23 l) z) (k := 0) (Z := z) (by omega) rfl (fun i hi => ⟨fs i hi, hsz i hi⟩) z (Nat.le_refl z)⟩
      rw [nr_0 (by omega), so_eq]
      exact ⟨fun w i hi => (fs i hi).mp (w i hi), fun w i hi => (fs i hi).mpr (w i hi)⟩
    constructor
    · intro w l hl a b
      rw [← (one l hl).2]
      exact w l hl a (fun c => b ((one l hl).1.mp c))
    · intro w l hl a b
      rw [(one l hl).2]
      exact w l hl a (fun c => b ((one l hl).1.mpr c))
