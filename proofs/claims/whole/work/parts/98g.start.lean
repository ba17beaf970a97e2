/-! the class as it stands behind its constructor -/
def wZ : Wd := fun _ _ => 0
theorem rl_full {L : List (Nat × Nat × Nat)} {rt : List (List (Option Nat))} {A B : Nat} (h1 : ∀ k, k < A → ∀ j, j < B → rl L k j = (rt.getD k []).getD j none) (h2 : ∀ t ∈ L, t.1 < A ∧ t.2.1 < B) (h3 : rt.length ≤ A) (h4 : ∀ l ∈ rt, l.length ≤ B) : rl L = fun k j => (rt.getD k []).getD j none := by
  funext k j
  by_cases hk : k < A ∧ j < B
  · exact h1 k hk.1 j hk.2
  · have e1 : rl L k j = none := by
      cases h : rl L k j with
      | none => rfl
      | some v => exact absurd (h2 _ (rl_mem h)) hk
    rw [e1]
    symm
    by_cases hkA : k < rt.length
    · have hm : rt.getD k [] ∈ rt := by
        simp only [List.getD, List.getElem?_eq_getElem hkA]
        exact List.getElem_mem hkA
      have := h4 _ hm
      simp only [List.getD]
      rw [List.getElem?_eq_none]
      · rfl
      · have hj : B ≤ j := by
          apply Nat.le_of_not_lt
          intro q
          exact hk ⟨by omega, q⟩
        exact Nat.le_trans this hj
    · simp only [List.getD]
      rw [List.getElem?_eq_none (by omega : rt.length ≤ k)]
      rfl
theorem full_C : fullG SyC qC 108 (lg_hs []) := by
  refine ⟨fun a => ?_, ?_⟩
  · show a < 108 ↔ a ∈ qC.take 108
    have h1 : ∀ a, a < 108 → a ∈ qC.take 108 := by decide +kernel
    have h2 : ∀ a ∈ qC.take 108, a < 108 := by decide +kernel
    exact ⟨h1 a, h2 a⟩
  · exact rl_full (A := 108) (B := 16) (by decide +kernel) (by decide +kernel) (by decide +kernel) (by decide +kernel)
theorem full_M : fullG SyM qM 48 (lg_m []) := by
  refine ⟨fun a => ?_, ?_⟩
  · show a < 48 ↔ a ∈ qM.take 48
    have h1 : ∀ a, a < 48 → a ∈ qM.take 48 := by decide +kernel
    have h2 : ∀ a ∈ qM.take 48, a < 48 := by decide +kernel
    exact ⟨h1 a, h2 a⟩
  · exact rl_full (A := 48) (B := 77) (by decide +kernel) (by decide +kernel) (by decide +kernel) (by decide +kernel)
def St0 (I : Wd) : Prop := (∀ a, a ≠ 66 → a ≠ 67 → a ≠ 68 → (a < 69 ∨ 76 < a) → (a < 78 ∨ 80 < a) → I a = i0_hs wZ a) ∧ I 67 0 = 0 ∧ I 66 2 = 0 ∧ I 66 1 = nI 1 ∧ ∃ c E, TxW I 78 c E ∧ TxOK c E ∧ ∀ f p, p < 3 → vT c E f p = vM0 f p
theorem st_0c {I1 : Wd} (h : ∀ a, a ≠ 67 → a ≠ 68 → I1 a = i0_hs wZ a) (h0 : I1 67 0 = nI 78) (hb : ∀ i, i < 78 → I1 68 i = chS 0 i) : ∃ (x : Int32) (I2 : Wd), St0 I2 ∧ Cal SyC mX4_takeTape 61 [.ref 66] I1 (some (.int x)) I2 := by
  have e1 : I1 66 1 = nI 0 := by rw [h 66 (by decide) (by decide)]; rfl
  obtain ⟨r, I2, ⟨q1, q2, q3, B, T, rfl, q4, q5, q6, q7, q8, -⟩, hc⟩ := q_take (I := I1) (n := 78) (X := 0) h0 (by decide) e1 (by decide)
  have q4' := TokOK_c hb q4
  obtain ⟨hT, -, -, hs⟩ := first_sP q4'
  have hneg : finF B (cnt (I1 68) 78) (sP (B 71) (B 72) (cnt (I1 68) 78) 3) < 0 := by
    rw [hs]
    show (if kdA (B 71) (cnt (I1 68) 78) 23 = 0 then (-1 : Int32) else _) < 0
    rw [if_pos]
    · decide
    · unfold kdA
      rw [hT, if_neg (by decide)]
  obtain ⟨r1, c, E, hP, hW⟩ := q8 hneg
  obtain ⟨t1, t2⟩ := first_tx q4' hP
  refine ⟨_, I2, ⟨fun a a1 a2 a3 a4 a5 => ?_, q2, ?_, r1, c, E, hW, t1, t2⟩, by rw [← q7]; exact hc⟩
  · rw [q1 a a1 a2 a4 a5, h a a2 a3]
  · rw [q3, h 66 (by decide) (by decide)]; rfl
/-- HollowShire's constructor -/
theorem gc_hs : ∃ I2, St0 I2 ∧ Gal SyC qC mX10_init 70 107 4087 [.ref 0] 1 [] wZ 108 (lg_hs []) I2 := by
  have h67 : (i0_hs wZ) 67 0 = 0 := rfl
  obtain ⟨r0, I1, ⟨rfl, p1, p2, p3⟩, c1⟩ := q_first h67
  obtain ⟨x, I2, hs, c2⟩ := st_0c p1 p2 p3
  refine ⟨I2, hs, ?_⟩
  refine Gal.of (by decide) rfl (Nat.le_of_ble_eq_true rfl) ?_
  show Gd _ _ _ _ _ _ _ _ _ _ _ _ _ _ [(0, .ref 0)] _ _ _
  refine gp_hs (fun a _ _ => rfl) ?_
  refine g_aload_n (pc := 176) (i := 0) (dd dtX10_init 86 rfl) rfl rfl ?_
  refine g_geta (pc := 177) (i := 0) (dd dtX10_init 87 rfl) fwX10_64 rfl rfl rfl ?_
  refine g_invV (pc := 180) (r1 := none) (rest := []) full_C (dd dtX10_init 88 rfl) mlX10_86 mvX4_feedFirstText miX4_feedFirstText c1 oC_66 rfl rfl (by decide) (by decide) (by decide) (by decide) ?_
  refine g_aload_n (pc := 183) (i := 0) (dd dtX10_init 89 rfl) rfl rfl ?_
  refine g_geta (pc := 184) (i := 0) (dd dtX10_init 90 rfl) fwX10_64 rfl rfl rfl ?_
  refine g_invV (pc := 187) (r1 := some (.int x)) (rest := []) full_C (dd dtX10_init 91 rfl) mlX10_89 mvX4_takeTape miX4_takeTape c2 oC_66 rfl rfl (by decide) (by decide) (by decide) (by decide) ?_
  refine g_pop (pc := 190) (dd dtX10_init 92 rfl) rfl ?_
  exact g_vret (pc := 191) (dd dtX10_init 93 rfl) rfl (by decide) (by decide) rfl rfl rfl
