/-! sheets side by side -/
theorem shx {s : Int32} (h : inR s 0 3) : ∃ i, s = nI i ∧ i < 4 ∧ s.toNatClampNeg = i ∧ kS s = 99 + 2 * i := by
  obtain ⟨i, hi, rfl⟩ := inN (n := 3) h rfl
  have e : (nI i).toNatClampNeg = i := nI_clamp (by omega)
  exact ⟨i, rfl, by omega, e, by unfold kS; rw [e]⟩
theorem sox {so : Int32} (h : inR so (-1) 2) : (so = -1 ∧ so < 0) ∨ (¬ so = -1 ∧ ¬ so < 0) := by
  by_cases q : so < 0
  · left
    refine ⟨?_, q⟩
    have h1 := h.1
    rw [Int32.lt_iff_toInt_lt] at q h1
    have a1 : (-1 : Int32).toInt = -1 := rfl
    have a0 : (0 : Int32).toInt = 0 := rfl
    exact Int32.toInt_inj.mp (by omega)
  · exact Or.inr ⟨fun z => q (by rw [z]; decide), q⟩
theorem vSheet_eq {s so n : Int32} : vSheet s so n = mSheetV s so n := by
  unfold vSheet mSheetV
  by_cases h : inR s 0 3 ∧ inR so (-1) 2
  · rw [if_pos h]
    rcases sox h.2 with ⟨a, b⟩ | ⟨a, b⟩
    · have hz : inR s 0 3 ∧ inR so (-1) 2 ∧ ¬ (¬ so < 0 ∧ 40 < n) := ⟨h.1, h.2, fun z => z.1 b⟩
      have hz2 : ¬ (¬ so < 0 ∧ n < 0) := fun z => z.1 b
      rw [if_pos a, if_pos hz, if_neg hz2]
    · rw [if_neg a]
      by_cases h40 : 40 < n
      · have hz : ¬ (inR s 0 3 ∧ inR so (-1) 2 ∧ ¬ (¬ so < 0 ∧ 40 < n)) := fun z => z.2.2 ⟨b, h40⟩
        rw [if_pos h40, if_neg hz]
      · have hz : inR s 0 3 ∧ inR so (-1) 2 ∧ ¬ (¬ so < 0 ∧ 40 < n) := ⟨h.1, h.2, fun z => h40 z.2⟩
        rw [if_neg h40, if_pos hz]
        by_cases h0 : n < 0
        · have hz2 : ¬ so < 0 ∧ n < 0 := ⟨b, h0⟩
          rw [if_pos h0, if_pos hz2]
        · have hz2 : ¬ (¬ so < 0 ∧ n < 0) := fun z => h0 z.2
          rw [if_neg h0, if_neg hz2]
  · have hz : ¬ (inR s 0 3 ∧ inR so (-1) 2 ∧ ¬ (¬ so < 0 ∧ 40 < n)) := fun z => h ⟨z.1, z.2.1⟩
    rw [if_neg h, if_neg hz]
theorem GH.set {I J I' J' : Wd} (hH : GH I J) {i : Nat} (hi : i < 4) (hI : ∀ a, (a < 99 + 2 * i ∨ 100 + 2 * i < a) → I' a = I a) (h4 : ∀ q, q ≠ i → J' 44 q = J 44 q) (h5 : ∀ q, q ≠ i → J' 45 q = J 45 q) (h6 : ∀ q, (q < 40 * i ∨ 40 * i + 40 ≤ q) → J' 46 q = J 46 q) (h : SH1 I' J' i) : GH I' J' := by
  intro s hs
  by_cases e : s = i
  · subst e; exact h
  · exact (hH s hs).fr (fun a a1 a2 => hI a (by omega)) (h4 s e) (h5 s e) (fun q hq => h6 _ (by omega))
theorem k_sheet {I J : Wd} (h : Rel I J) (s so n : Int32) : CallOK mX10_sheet mX11_sheet [.int s, .int so, .int n] I J := by
  obtain ⟨N, P, K, L, Wn, hB, hS, hL, hW, hF, hT, hO, hK, hH, hC⟩ := h
  have hR : Rel I J := ⟨N, P, K, L, Wn, hB, hS, hL, hW, hF, hT, hO, hK, hH, hC⟩
  refine CallOK.mk (by decide) (by decide) c_X10_sheet c_X11_sheet (by rw [vSheet_eq]) ?_
  by_cases h0 : inR s 0 3 ∧ inR so (-1) 2
  · obtain ⟨i, es, hi, ec, ek⟩ := shx h0.1
    rw [ek, ec]
    rcases sox h0.2 with ⟨a, b⟩ | ⟨a, b⟩
    · have z1 : ¬ okSheet s so n := fun z => z.2.1 a
      have z2 : (inR s 0 3 ∧ inR so (-1) 2) ∧ so = -1 := ⟨h0, a⟩
      have z3 : mSheetP s so n := ⟨h0.1, h0.2, fun z => z.1 b, fun z => z.1 b⟩
      rw [if_neg z1, if_pos z2, if_pos z3]
      obtain ⟨a1, a2, zz, yy, a3, a4, a5, a6, a7⟩ := hH i hi
      have hH2 : GH (ist I (99 + 2 * i) 0 (-1)) (mBegin J i so n) := by
        unfold mBegin
        refine hH.set hi (fun q hq => ist_ne (by omega)) (fun q hq => ?_) (fun q hq => ?_) (fun q hq => ?_) ?_
        · rw [rset_ne (by decide), ist_ne (by decide), ist_eq, upd_ne hq]
        · rw [rset_ne (by decide), ist_eq, upd_ne hq, ist_ne (by decide)]
        · rw [rset_eq, rfil_out hq]
        · refine ⟨?_, ?_, zz, 0, ?_, a4, ?_, by decide, fun q => ?_⟩
          · rw [ist_eq, upd_eq, rset_ne (by decide), ist_ne (by decide), ist_eq, upd_eq, a]
          · rw [rset_ne (by decide), ist_ne (by decide), ist_eq, upd_eq]; exact h0.2
          · rw [ist_eq, upd_ne (by decide)]; exact a3
          · rw [rset_ne (by decide), ist_eq, upd_eq, if_pos b]; rfl
          · exfalso; apply q; rw [rset_ne (by decide), ist_ne (by decide), ist_eq, upd_eq, a]
      unfold mBegin at hH2 ⊢
      exact ⟨N, P, K, L, Wn, hB.fr (fun a a1 a2 => (by first | rfl | (simp (disch := omega) only [ist_eq, ist_ne, upd_ne, rset_ne]))) (fun a a1 a2 a3 a4 a5 => (by first | rfl | (simp (disch := omega) only [ist_eq, ist_ne, upd_ne, rset_ne]))) (fun j j1 => (by first | rfl | (simp (disch := omega) only [ist_eq, ist_ne, upd_ne, rset_ne]))), hS.fr (fun a a1 a2 => (by first | rfl | (simp (disch := omega) only [ist_eq, ist_ne, upd_ne, rset_ne]))) (fun a a1 a2 => (by first | rfl | (simp (disch := omega) only [ist_eq, ist_ne, upd_ne, rset_ne]))) (by first | rfl | (simp (disch := omega) only [ist_eq, ist_ne, upd_ne, rset_ne])), hL.fr (fun a a1 a2 => (by first | rfl | (simp (disch := omega) only [ist_eq, ist_ne, upd_ne, rset_ne]))) (fun a a1 a2 => (by first | rfl | (simp (disch := omega) only [ist_eq, ist_ne, upd_ne, rset_ne]))) (by first | rfl | (simp (disch := omega) only [ist_eq, ist_ne, upd_ne, rset_ne])), hW.fr (fun a a1 a2 => (by first | rfl | (simp (disch := omega) only [ist_eq, ist_ne, upd_ne, rset_ne]))) (fun a a1 a2 => (by first | rfl | (simp (disch := omega) only [ist_eq, ist_ne, upd_ne, rset_ne]))) (by first | rfl | (simp (disch := omega) only [ist_eq, ist_ne, upd_ne, rset_ne])), hF.fr (fun a a1 a2 => (by first | rfl | (simp (disch := omega) only [ist_eq, ist_ne, upd_ne, rset_ne]))) (fun a a1 a2 => (by first | rfl | (simp (disch := omega) only [ist_eq, ist_ne, upd_ne, rset_ne]))) (fun j j1 j2 => (by first | rfl | (simp (disch := omega) only [ist_eq, ist_ne, upd_ne, rset_ne]))), hT.fr (fun a a1 => (by first | rfl | (simp (disch := omega) only [ist_eq, ist_ne, upd_ne, rset_ne]))) (fun a a1 a2 => (by first | rfl | (simp (disch := omega) only [ist_eq, ist_ne, upd_ne, rset_ne]))) (fun j j1 j2 => (by first | rfl | (simp (disch := omega) only [ist_eq, ist_ne, upd_ne, rset_ne]))), hO.fr (fun j j1 j2 => (by first | rfl | (simp (disch := omega) only [ist_eq, ist_ne, upd_ne, rset_ne]))) (by first | rfl | (simp (disch := omega) only [ist_eq, ist_ne, upd_ne, rset_ne])) (by first | rfl | (simp (disch := omega) only [ist_eq, ist_ne, upd_ne, rset_ne])), hK.fr (by first | rfl | (simp (disch := omega) only [ist_eq, ist_ne, upd_ne, rset_ne])) (fun a a1 a2 => (by first | rfl | (simp (disch := omega) only [ist_eq, ist_ne, upd_ne, rset_ne]))) (fun x x1 => (by first | rfl | (simp (disch := omega) only [ist_eq, ist_ne, upd_ne, rset_ne]))) (fun j j1 j2 => (by first | rfl | (simp (disch := omega) only [ist_eq, ist_ne, upd_ne, rset_ne]))), hH2, hC.fr (fun a a1 => (by first | rfl | (simp (disch := omega) only [ist_eq, ist_ne, upd_ne, rset_ne])))⟩
    · have z2 : ¬ ((inR s 0 3 ∧ inR so (-1) 2) ∧ so = -1) := fun z => a z.2
      by_cases hok : ¬ 40 < n ∧ ¬ n < 0
      · have z1 : okSheet s so n := ⟨h0, a, hok.1, hok.2⟩
        have z3 : mSheetP s so n := ⟨h0.1, h0.2, fun z => hok.1 z.2, fun z => hok.2 z.2⟩
        rw [if_pos z1, if_pos z3]
        obtain ⟨k, hk, ekn⟩ := nI_of2 (n := 40) (M := 40) rfl hok.2 (Int32.not_lt.mp hok.1)
        obtain ⟨a1, a2, zz, yy, a3, a4, a5, a6, a7⟩ := hH i hi
        have hH2 : GH (wBegin I (99 + 2 * i) so n) (mBegin J i so n) := by
          unfold mBegin wBegin
          refine hH.set hi (fun q hq => by rw [rset_ne (by omega), ist_ne (by omega), ist_ne (by omega)]) (fun q hq => ?_) (fun q hq => ?_) (fun q hq => ?_) ?_
          · rw [rset_ne (by decide), ist_ne (by decide), ist_eq, upd_ne hq]
          · rw [rset_ne (by decide), ist_eq, upd_ne hq, ist_ne (by decide)]
          · rw [rset_eq, rfil_out hq]
          · refine ⟨?_, ?_, k, k, ?_, hk, ?_, hk, fun q => ⟨rfl, fun j hj => ?_⟩⟩
            · rw [rset_ne (by omega), ist_eq, upd_ne (by decide), ist_eq, upd_eq, rset_ne (by decide), ist_ne (by decide), ist_eq, upd_eq]
            · rw [rset_ne (by decide), ist_ne (by decide), ist_eq, upd_eq]; exact h0.2
            · rw [rset_ne (by omega), ist_eq, upd_eq, ekn]
            · rw [rset_ne (by decide), ist_eq, upd_eq, if_neg b, ekn]
            · rw [show 100 + 2 * i = 99 + 2 * i + 1 by omega, rset_eq, rset_eq, fil_in (by omega), rfil_in (by omega) (by omega)]
        unfold mBegin wBegin at hH2 ⊢
        exact ⟨N, P, K, L, Wn, hB.fr (fun a a1 a2 => (by first | rfl | (simp (disch := omega) only [ist_eq, ist_ne, upd_ne, rset_ne]))) (fun a a1 a2 a3 a4 a5 => (by first | rfl | (simp (disch := omega) only [ist_eq, ist_ne, upd_ne, rset_ne]))) (fun j j1 => (by first | rfl | (simp (disch := omega) only [ist_eq, ist_ne, upd_ne, rset_ne]))), hS.fr (fun a a1 a2 => (by first | rfl | (simp (disch := omega) only [ist_eq, ist_ne, upd_ne, rset_ne]))) (fun a a1 a2 => (by first | rfl | (simp (disch := omega) only [ist_eq, ist_ne, upd_ne, rset_ne]))) (by first | rfl | (simp (disch := omega) only [ist_eq, ist_ne, upd_ne, rset_ne])), hL.fr (fun a a1 a2 => (by first | rfl | (simp (disch := omega) only [ist_eq, ist_ne, upd_ne, rset_ne]))) (fun a a1 a2 => (by first | rfl | (simp (disch := omega) only [ist_eq, ist_ne, upd_ne, rset_ne]))) (by first | rfl | (simp (disch := omega) only [ist_eq, ist_ne, upd_ne, rset_ne])), hW.fr (fun a a1 a2 => (by first | rfl | (simp (disch := omega) only [ist_eq, ist_ne, upd_ne, rset_ne]))) (fun a a1 a2 => (by first | rfl | (simp (disch := omega) only [ist_eq, ist_ne, upd_ne, rset_ne]))) (by first | rfl | (simp (disch := omega) only [ist_eq, ist_ne, upd_ne, rset_ne])), hF.fr (fun a a1 a2 => (by first | rfl | (simp (disch := omega) only [ist_eq, ist_ne, upd_ne, rset_ne]))) (fun a a1 a2 => (by first | rfl | (simp (disch := omega) only [ist_eq, ist_ne, upd_ne, rset_ne]))) (fun j j1 j2 => (by first | rfl | (simp (disch := omega) only [ist_eq, ist_ne, upd_ne, rset_ne]))), hT.fr (fun a a1 => (by first | rfl | (simp (disch := omega) only [ist_eq, ist_ne, upd_ne, rset_ne]))) (fun a a1 a2 => (by first | rfl | (simp (disch := omega) only [ist_eq, ist_ne, upd_ne, rset_ne]))) (fun j j1 j2 => (by first | rfl | (simp (disch := omega) only [ist_eq, ist_ne, upd_ne, rset_ne]))), hO.fr (fun j j1 j2 => (by first | rfl | (simp (disch := omega) only [ist_eq, ist_ne, upd_ne, rset_ne]))) (by first | rfl | (simp (disch := omega) only [ist_eq, ist_ne, upd_ne, rset_ne])) (by first | rfl | (simp (disch := omega) only [ist_eq, ist_ne, upd_ne, rset_ne])), hK.fr (by first | rfl | (simp (disch := omega) only [ist_eq, ist_ne, upd_ne, rset_ne])) (fun a a1 a2 => (by first | rfl | (simp (disch := omega) only [ist_eq, ist_ne, upd_ne, rset_ne]))) (fun x x1 => (by first | rfl | (simp (disch := omega) only [ist_eq, ist_ne, upd_ne, rset_ne]))) (fun j j1 j2 => (by first | rfl | (simp (disch := omega) only [ist_eq, ist_ne, upd_ne, rset_ne]))), hH2, hC.fr (fun a a1 => (by first | rfl | (simp (disch := omega) only [ist_eq, ist_ne, upd_ne, rset_ne])))⟩
      · have z1 : ¬ okSheet s so n := fun z => hok z.2.2
        have z3 : ¬ mSheetP s so n := fun z => hok ⟨fun y => z.2.2.1 ⟨b, y⟩, fun y => z.2.2.2 ⟨b, y⟩⟩
        rw [if_neg z1, if_neg z2, if_neg z3]
        exact hR
  · have z1 : ¬ okSheet s so n := fun z => h0 z.1
    have z2 : ¬ ((inR s 0 3 ∧ inR so (-1) 2) ∧ so = -1) := fun z => h0 z.1
    have z3 : ¬ mSheetP s so n := fun z => h0 ⟨z.1, z.2.1⟩
    rw [if_neg z1, if_neg z2, if_neg z3]
    exact hR
/-- what a sheet's number says -/
theorem GH.at {I J : Wd} (hH : GH I J) {s : Int32} (h : inR s 0 3) : ∃ i z y, s.toNatClampNeg = i ∧ i < 4 ∧ kS s = 99 + 2 * i ∧ I (kS s) 1 = nI z ∧ z ≤ 40 ∧ J 45 i = nI y ∧ y ≤ 40 ∧ I (kS s) 0 = J 44 i ∧ (I (kS s) 0 = -1 ↔ J 44 i < 0) ∧ (¬ J 44 i < 0 → z = y ∧ ∀ q, q < z → I (kS s + 1) q = J 46 (40 * i + q)) := by
  obtain ⟨i, es, hi, ec, ek⟩ := shx h
  obtain ⟨a1, a2, z, y, a3, a4, a5, a6, a7⟩ := hH i hi
  have hm : J 44 i = -1 ↔ J 44 i < 0 := by
    rcases sox a2 with ⟨b, c⟩ | ⟨b, c⟩
    · exact ⟨fun _ => c, fun _ => b⟩
    · exact ⟨fun q => absurd q b, fun q => absurd q c⟩
  rw [ek]
  refine ⟨i, z, y, ec, hi, rfl, a3, a4, a5, a6, a1, by rw [a1]; exact hm, fun q => ?_⟩
  rw [show 99 + 2 * i + 1 = 100 + 2 * i by omega]
  exact a7 (fun z => q (hm.mp z))
theorem k_cell {I J : Wd} (h : Rel I J) (s i v : Int32) : CallOK mX10_cell mX11_cell [.int s, .int i, .int v] I J := by
  obtain ⟨N, P, K, L, Wn, hB, hS, hL, hW, hF, hT, hO, hK, hH, hC⟩ := h
  have hR : Rel I J := ⟨N, P, K, L, Wn, hB, hS, hL, hW, hF, hT, hO, hK, hH, hC⟩
  by_cases hs : inR s 0 3
  · obtain ⟨j, z, y, ec, hj, ek, b1, b2, b3, b4, b5, b6, b7⟩ := hH.at hs
    refine CallOK.mk (by decide) (by decide) (c_X10_cell (z := z) (fun _ => ⟨b1, b2⟩)) (c_X11_cell (z := y) (fun _ => ⟨by rw [ec]; exact b3, b4⟩)) ?_ ?_
    · rw [ec]
      unfold vCell
      rw [if_pos hs, if_pos hs]
      by_cases hm : J 44 j < 0
      · rw [if_pos (b6.mpr hm), if_pos hm]
      · rw [if_neg (fun q => hm (b6.mp q)), if_neg hm, (b7 hm).1]
    · rw [ec]
      by_cases hm : J 44 j < 0
      · have z1 : ¬ (inR s 0 3 ∧ ¬ I (kS s) 0 = -1 ∧ inR i 0 (nI z - 1)) := fun q => q.2.1 (b6.mpr hm)
        have z2 : ¬ (inR s 0 3 ∧ ¬ J 44 j < 0 ∧ inR i 0 (nI y - 1)) := fun q => q.2.1 hm
        rw [if_neg z1, if_neg z2]; exact hR
      · obtain ⟨e1, e2⟩ := b7 hm
        subst e1
        by_cases hq : inR i 0 (nI z - 1)
        · obtain ⟨q, eq, hqz, hc⟩ := hix (by omega) hq
          have z1 : inR s 0 3 ∧ ¬ I (kS s) 0 = -1 ∧ inR i 0 (nI z - 1) := ⟨hs, fun q => hm (b6.mp q), hq⟩
          have z2 : inR s 0 3 ∧ ¬ J 44 j < 0 ∧ inR i 0 (nI z - 1) := ⟨hs, hm, hq⟩
          rw [if_pos z1, if_pos z2, hc, b5, ek]
          have hH2 : GH (ist I (99 + 2 * j + 1) q (sNar (J 44 j) v)) (ist J 46 (40 * j + q) (sNar (J 44 j) v)) := by
            refine hH.set hj (fun a ha => ist_ne (by omega)) (fun a _ => by rw [ist_ne (by decide)]) (fun a _ => by rw [ist_ne (by decide)]) (fun a ha => by rw [ist_eq, upd_ne (by omega)]) ?_
            obtain ⟨a1, a2, zz, yy, a3, a4, a5, a6, a7⟩ := hH j hj
            refine ⟨by rw [ist_ne (by omega), ist_ne (by decide)]; exact a1, by rw [ist_ne (by decide)]; exact a2, zz, yy, by rw [ist_ne (by omega)]; exact a3, a4, by rw [ist_ne (by decide)]; exact a5, a6, fun p => ?_⟩
            rw [ist_ne (by decide)] at p
            obtain ⟨c1, c2⟩ := a7 p
            refine ⟨c1, fun x hx => ?_⟩
            rw [show 100 + 2 * j = 99 + 2 * j + 1 by omega, ist_eq, ist_eq]
            by_cases e : x = q
            · subst e; rw [upd_eq, upd_eq]
            · rw [upd_ne e, upd_ne (by omega), show 99 + 2 * j + 1 = 100 + 2 * j by omega]; exact c2 x hx
          exact ⟨N, P, K, L, Wn, hB.fr (fun a a1 a2 => (by first | rfl | (simp (disch := omega) only [ist_eq, ist_ne, upd_ne, rset_ne]))) (fun a a1 a2 a3 a4 a5 => (by first | rfl | (simp (disch := omega) only [ist_eq, ist_ne, upd_ne, rset_ne]))) (fun j j1 => (by first | rfl | (simp (disch := omega) only [ist_eq, ist_ne, upd_ne, rset_ne]))), hS.fr (fun a a1 a2 => (by first | rfl | (simp (disch := omega) only [ist_eq, ist_ne, upd_ne, rset_ne]))) (fun a a1 a2 => (by first | rfl | (simp (disch := omega) only [ist_eq, ist_ne, upd_ne, rset_ne]))) (by first | rfl | (simp (disch := omega) only [ist_eq, ist_ne, upd_ne, rset_ne])), hL.fr (fun a a1 a2 => (by first | rfl | (simp (disch := omega) only [ist_eq, ist_ne, upd_ne, rset_ne]))) (fun a a1 a2 => (by first | rfl | (simp (disch := omega) only [ist_eq, ist_ne, upd_ne, rset_ne]))) (by first | rfl | (simp (disch := omega) only [ist_eq, ist_ne, upd_ne, rset_ne])), hW.fr (fun a a1 a2 => (by first | rfl | (simp (disch := omega) only [ist_eq, ist_ne, upd_ne, rset_ne]))) (fun a a1 a2 => (by first | rfl | (simp (disch := omega) only [ist_eq, ist_ne, upd_ne, rset_ne]))) (by first | rfl | (simp (disch := omega) only [ist_eq, ist_ne, upd_ne, rset_ne])), hF.fr (fun a a1 a2 => (by first | rfl | (simp (disch := omega) only [ist_eq, ist_ne, upd_ne, rset_ne]))) (fun a a1 a2 => (by first | rfl | (simp (disch := omega) only [ist_eq, ist_ne, upd_ne, rset_ne]))) (fun j j1 j2 => (by first | rfl | (simp (disch := omega) only [ist_eq, ist_ne, upd_ne, rset_ne]))), hT.fr (fun a a1 => (by first | rfl | (simp (disch := omega) only [ist_eq, ist_ne, upd_ne, rset_ne]))) (fun a a1 a2 => (by first | rfl | (simp (disch := omega) only [ist_eq, ist_ne, upd_ne, rset_ne]))) (fun j j1 j2 => (by first | rfl | (simp (disch := omega) only [ist_eq, ist_ne, upd_ne, rset_ne]))), hO.fr (fun j j1 j2 => (by first | rfl | (simp (disch := omega) only [ist_eq, ist_ne, upd_ne, rset_ne]))) (by first | rfl | (simp (disch := omega) only [ist_eq, ist_ne, upd_ne, rset_ne])) (by first | rfl | (simp (disch := omega) only [ist_eq, ist_ne, upd_ne, rset_ne])), hK.fr (by first | rfl | (simp (disch := omega) only [ist_eq, ist_ne, upd_ne, rset_ne])) (fun a a1 a2 => (by first | rfl | (simp (disch := omega) only [ist_eq, ist_ne, upd_ne, rset_ne]))) (fun x x1 => (by first | rfl | (simp (disch := omega) only [ist_eq, ist_ne, upd_ne, rset_ne]))) (fun j j1 j2 => (by first | rfl | (simp (disch := omega) only [ist_eq, ist_ne, upd_ne, rset_ne]))), hH2, hC.fr (fun a a1 => (by first | rfl | (simp (disch := omega) only [ist_eq, ist_ne, upd_ne, rset_ne])))⟩
        · have z1 : ¬ (inR s 0 3 ∧ ¬ I (kS s) 0 = -1 ∧ inR i 0 (nI z - 1)) := fun q => hq q.2.2
          have z2 : ¬ (inR s 0 3 ∧ ¬ J 44 j < 0 ∧ inR i 0 (nI z - 1)) := fun q => hq q.2.2
          rw [if_neg z1, if_neg z2]; exact hR
  · refine CallOK.mk (by decide) (by decide) (c_X10_cell (z := 0) (fun q => absurd q hs)) (c_X11_cell (z := 0) (fun q => absurd q hs)) ?_ ?_
    · unfold vCell; rw [if_neg hs, if_neg hs]
    · have z1 : ¬ (inR s 0 3 ∧ ¬ I (kS s) 0 = -1 ∧ inR i 0 (nI 0 - 1)) := fun q => hs q.1
      have z2 : ¬ (inR s 0 3 ∧ ¬ J 44 s.toNatClampNeg < 0 ∧ inR i 0 (nI 0 - 1)) := fun q => hs q.1
      rw [if_neg z1, if_neg z2]; exact hR
theorem in_sub {i n : Int32} {z k : Nat} (hz : z ≤ 40) (en : n = nI k) (hk : k < 2 ^ 31) (h : inR i 0 (nI z - n)) : ∃ q, i = nI q ∧ i.toNatClampNeg = q ∧ q + k ≤ z := by
  obtain ⟨q, hq, e⟩ := nI_of h.1
  have h2 := h.2
  rw [Int32.lt_iff_toInt_lt, en, e, Int32.toInt_sub, nI_toInt (by omega), nI_toInt hk, nI_toInt hq] at h2
  have hb : ((z : Int) - k).bmod (2 ^ 32) = z - k := by apply Int.bmod_eq_of_le <;> omega
  rw [hb] at h2
  exact ⟨q, e, by rw [e]; exact nI_clamp hq, by omega⟩
theorem k_copy {I J : Wd} (h : Rel I J) (s i ot j n : Int32) : CallOK mX10_copy mX11_copy [.int s, .int i, .int ot, .int j, .int n] I J := by
  obtain ⟨N, P, K, L, Wn, hB, hS, hL, hW, hF, hT, hO, hK, hH, hC⟩ := h
  have hR : Rel I J := ⟨N, P, K, L, Wn, hB, hS, hL, hW, hF, hT, hO, hK, hH, hC⟩
  by_cases hs : inR s 0 3 ∧ inR ot 0 3
  · obtain ⟨a, z, y, ec, hj, ek, b1, b2, b3, b4, b5, b6, b7⟩ := hH.at hs.1
    obtain ⟨a', z', y', ec', hj', ek', d1, d2, d3, d4, d5, d6, d7⟩ := hH.at hs.2
    refine CallOK.mk (by decide) (by decide) (c_X10_copy (z := z) (z2 := z') (fun _ => ⟨b1, b2⟩) (fun _ => ⟨d1, d2⟩)) (c_X11_copy (z := y) (z2 := y') (fun _ => ⟨by rw [ec]; exact b3, b4⟩) (fun _ => ⟨by rw [ec']; exact d3, d4⟩)) ?_ ?_
    · rw [ec, ec', b5, d5]
      unfold vCopy
      rw [if_pos hs, if_pos hs]
      have b6' := b6
      have d6' := d6
      rw [b5] at b6'
      rw [d5] at d6'
      by_cases hm : J 44 a < 0 ∨ J 44 a' < 0
      · have hm2 : J 44 a = -1 ∨ J 44 a' = -1 := hm.elim (fun q => Or.inl (b6'.mpr q)) (fun q => Or.inr (d6'.mpr q))
        rw [if_pos hm2, if_pos hm]
      · have hm2 : ¬ (J 44 a = -1 ∨ J 44 a' = -1) := fun q => hm (q.elim (fun q => Or.inl (b6'.mp q)) (fun q => Or.inr (d6'.mp q)))
        rw [if_neg hm2, if_neg hm, (b7 (fun q => hm (Or.inl q))).1, (d7 (fun q => hm (Or.inr q))).1]
    · rw [ec, ec']
      by_cases hm : J 44 a < 0 ∨ J 44 a' < 0
      · have hm2 : I (kS s) 0 = -1 ∨ I (kS ot) 0 = -1 := hm.elim (fun q => Or.inl (b6.mpr q)) (fun q => Or.inr (d6.mpr q))
        rw [if_neg (fun q => q.2.1 hm2), if_neg (fun q => q.2.1 hm)]; exact hR
      · have hm2 : ¬ (I (kS s) 0 = -1 ∨ I (kS ot) 0 = -1) := fun q => hm (q.elim (fun q => Or.inl (b6.mp q)) (fun q => Or.inr (d6.mp q)))
        obtain ⟨e1, e2⟩ := b7 (fun q => hm (Or.inl q))
        obtain ⟨e3, e4⟩ := d7 (fun q => hm (Or.inr q))
        subst e1
        subst e3
        by_cases hk : J 44 a = J 44 a' ∧ ¬ n < 0 ∧ inR i 0 (nI z - n) ∧ inR j 0 (nI z' - n)
        · have q1 : okCopy (I (kS s) 0 = -1 ∨ I (kS ot) 0 = -1) (I (kS s) 0) (I (kS ot) 0) z z' s i ot j n := ⟨hs, hm2, by rw [b5, d5]; exact hk.1, hk.2⟩
          have q2 : okCopy (J 44 a < 0 ∨ J 44 a' < 0) (J 44 a) (J 44 a') z z' s i ot j n := ⟨hs, hm, hk.1, hk.2⟩
          rw [if_pos q1, if_pos q2]
          obtain ⟨k, hk31, en⟩ := nI_of hk.2.1
          obtain ⟨p, ep, cp, hp⟩ := in_sub b2 en hk31 hk.2.2.1
          obtain ⟨r, er, cr, hr⟩ := in_sub d2 en hk31 hk.2.2.2
          rw [cp, cr, show n.toNatClampNeg = k by rw [en]; exact nI_clamp hk31]
          have hH2 : GH (rset I (kS ot + 1) (va_cpy (I (kS s + 1)) (I (kS ot + 1)) p r k)) (mCopyW J a p a' r k) := by
            unfold mCopyW
            rw [ek'] at e4 ⊢
            refine hH.set hj' (fun x hx => rset_ne (by omega)) (fun x _ => by rw [rset_ne (by decide), rset_ne (by decide)]) (fun x _ => by rw [rset_ne (by decide), rset_ne (by decide)]) (fun x hx => by rw [rset_eq, rfil_out (by omega)]) ?_
            obtain ⟨a1, a2, zz, yy, a3, a4, a5, a6, a7⟩ := hH a' hj'
            refine ⟨by rw [rset_ne (by omega), rset_ne (by decide), rset_ne (by decide)]; exact a1, by rw [rset_ne (by decide), rset_ne (by decide)]; exact a2, zz, yy, by rw [rset_ne (by omega)]; exact a3, a4, by rw [rset_ne (by decide), rset_ne (by decide)]; exact a5, a6, fun t => ?_⟩
            rw [rset_ne (by decide), rset_ne (by decide)] at t
            obtain ⟨c1, c2⟩ := a7 t
            refine ⟨c1, fun x hx => ?_⟩
            rw [show 100 + 2 * a' = 99 + 2 * a' + 1 by omega, rset_eq, rset_eq]
            unfold va_cpy
            by_cases hin : r ≤ x ∧ x < r + k
            · rw [if_pos hin, rfil_in (by omega) (by omega), show 40 * a' + x - (40 * a' + r) = x - r by omega, fil_in (by omega), e2 _ (by omega)]
              congr 1
              omega
            · rw [if_neg hin, rfil_out (by omega), show 99 + 2 * a' + 1 = 100 + 2 * a' by omega]
              exact c2 x hx
          unfold mCopyW at hH2 ⊢
          have hko : 99 < kS ot + 1 ∧ kS ot + 1 ≤ 106 := by rw [ek']; omega
          exact ⟨N, P, K, L, Wn, hB.fr (fun a a1 a2 => (by first | rfl | (simp (disch := omega) only [ist_eq, ist_ne, upd_ne, rset_ne]))) (fun a a1 a2 a3 a4 a5 => (by first | rfl | (simp (disch := omega) only [ist_eq, ist_ne, upd_ne, rset_ne]))) (fun j j1 => (by first | rfl | (simp (disch := omega) only [ist_eq, ist_ne, upd_ne, rset_ne]))), hS.fr (fun a a1 a2 => (by first | rfl | (simp (disch := omega) only [ist_eq, ist_ne, upd_ne, rset_ne]))) (fun a a1 a2 => (by first | rfl | (simp (disch := omega) only [ist_eq, ist_ne, upd_ne, rset_ne]))) (by first | rfl | (simp (disch := omega) only [ist_eq, ist_ne, upd_ne, rset_ne])), hL.fr (fun a a1 a2 => (by first | rfl | (simp (disch := omega) only [ist_eq, ist_ne, upd_ne, rset_ne]))) (fun a a1 a2 => (by first | rfl | (simp (disch := omega) only [ist_eq, ist_ne, upd_ne, rset_ne]))) (by first | rfl | (simp (disch := omega) only [ist_eq, ist_ne, upd_ne, rset_ne])), hW.fr (fun a a1 a2 => (by first | rfl | (simp (disch := omega) only [ist_eq, ist_ne, upd_ne, rset_ne]))) (fun a a1 a2 => (by first | rfl | (simp (disch := omega) only [ist_eq, ist_ne, upd_ne, rset_ne]))) (by first | rfl | (simp (disch := omega) only [ist_eq, ist_ne, upd_ne, rset_ne])), hF.fr (fun a a1 a2 => (by first | rfl | (simp (disch := omega) only [ist_eq, ist_ne, upd_ne, rset_ne]))) (fun a a1 a2 => (by first | rfl | (simp (disch := omega) only [ist_eq, ist_ne, upd_ne, rset_ne]))) (fun j j1 j2 => (by first | rfl | (simp (disch := omega) only [ist_eq, ist_ne, upd_ne, rset_ne]))), hT.fr (fun a a1 => (by first | rfl | (simp (disch := omega) only [ist_eq, ist_ne, upd_ne, rset_ne]))) (fun a a1 a2 => (by first | rfl | (simp (disch := omega) only [ist_eq, ist_ne, upd_ne, rset_ne]))) (fun j j1 j2 => (by first | rfl | (simp (disch := omega) only [ist_eq, ist_ne, upd_ne, rset_ne]))), hO.fr (fun j j1 j2 => (by first | rfl | (simp (disch := omega) only [ist_eq, ist_ne, upd_ne, rset_ne]))) (by first | rfl | (simp (disch := omega) only [ist_eq, ist_ne, upd_ne, rset_ne])) (by first | rfl | (simp (disch := omega) only [ist_eq, ist_ne, upd_ne, rset_ne])), hK.fr (by first | rfl | (simp (disch := omega) only [ist_eq, ist_ne, upd_ne, rset_ne])) (fun a a1 a2 => (by first | rfl | (simp (disch := omega) only [ist_eq, ist_ne, upd_ne, rset_ne]))) (fun x x1 => (by first | rfl | (simp (disch := omega) only [ist_eq, ist_ne, upd_ne, rset_ne]))) (fun j j1 j2 => (by first | rfl | (simp (disch := omega) only [ist_eq, ist_ne, upd_ne, rset_ne]))), hH2, hC.fr (fun a a1 => (by first | rfl | (simp (disch := omega) only [ist_eq, ist_ne, upd_ne, rset_ne])))⟩
        · rw [if_neg (fun q => hk ⟨by rw [← b5, ← d5]; exact q.2.2.1, q.2.2.2⟩), if_neg (fun q => hk q.2.2)]; exact hR
  · have hz1 : inR s 0 3 → False ∨ ¬ inR ot 0 3 := fun q => Or.inr (fun q2 => hs ⟨q, q2⟩)
    have g1 : ∃ z, inR s 0 3 → I (kS s) 1 = nI z ∧ z ≤ 40 := by
      by_cases q : inR s 0 3
      · obtain ⟨a, z, y, ec, hj, ek, b1, b2, _⟩ := hH.at q
        exact ⟨z, fun _ => ⟨b1, b2⟩⟩
      · exact ⟨0, fun z => absurd z q⟩
    have g2 : ∃ z, inR ot 0 3 → I (kS ot) 1 = nI z ∧ z ≤ 40 := by
      by_cases q : inR ot 0 3
      · obtain ⟨a, z, y, ec, hj, ek, b1, b2, _⟩ := hH.at q
        exact ⟨z, fun _ => ⟨b1, b2⟩⟩
      · exact ⟨0, fun z => absurd z q⟩
    have g3 : ∃ z, inR s 0 3 → J 45 s.toNatClampNeg = nI z ∧ z ≤ 40 := by
      by_cases q : inR s 0 3
      · obtain ⟨a, z, y, ec, hj, ek, b1, b2, b3, b4, _⟩ := hH.at q
        exact ⟨y, fun _ => ⟨by rw [ec]; exact b3, b4⟩⟩
      · exact ⟨0, fun z => absurd z q⟩
    have g4 : ∃ z, inR ot 0 3 → J 45 ot.toNatClampNeg = nI z ∧ z ≤ 40 := by
      by_cases q : inR ot 0 3
      · obtain ⟨a, z, y, ec, hj, ek, b1, b2, b3, b4, _⟩ := hH.at q
        exact ⟨y, fun _ => ⟨by rw [ec]; exact b3, b4⟩⟩
      · exact ⟨0, fun z => absurd z q⟩
    obtain ⟨z, g1⟩ := g1
    obtain ⟨z2, g2⟩ := g2
    obtain ⟨y, g3⟩ := g3
    obtain ⟨y2, g4⟩ := g4
    refine CallOK.mk (by decide) (by decide) (c_X10_copy g1 g2) (c_X11_copy g3 g4) ?_ ?_
    · unfold vCopy; rw [if_neg hs, if_neg hs]
    · rw [if_neg (fun q => hs q.1), if_neg (fun q => hs q.1)]; exact hR
