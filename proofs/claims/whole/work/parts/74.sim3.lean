/-! a whole text on both sides -/
theorem kk_of {b : Nat → Int32} {n : Nat} {kd nm pl : Nat → Int32} {T : Nat} (h : TokOK b n kd nm pl T) : KKP kd nm T := by
  have key : ∀ t, t < T → ∃ j, j < n ∧ isSt b j ∧ cnt b j = t ∧ ∃ e, RE b n j e ∧ KindOK b j (e - j) (kd t) (nm t) := by
    intro t ht
    rw [h.1] at ht
    obtain ⟨j, j1, j2, j3⟩ := cnt_ex n ht
    obtain ⟨_, e, q1, q2⟩ := h.2 j j1 j2
    rw [j3] at q2
    exact ⟨j, j1, j2, j3, e, q1, q2⟩
  have n300 : ∀ w, w < 6 → ¬ nI (300 + w) = 2 ∧ ¬ nI (300 + w) = 3 := by decide +kernel
  refine ⟨fun t hk => ?_, fun t hk => ?_⟩
  · have ht : t < T := kdA_lt (kd := kd) (by rw [hk]; decide)
    have hk2 : kd t = 2 := by unfold kdA at hk; rw [if_pos ht] at hk; exact hk
    obtain ⟨j, _, _, _, e, q1, q2⟩ := key t ht
    rcases q2 with ⟨_, ⟨w, _, _, ⟨w3, w4⟩ | ⟨_, w4, _⟩⟩ | ⟨_, w4⟩⟩ | ⟨_, hd, ⟨_, w4⟩ | ⟨w3, w4, w5⟩⟩ | ⟨_, _, w4⟩
    · exact absurd (w4.symm.trans hk2) (n300 w w3).1
    · exact absurd (w4.symm.trans hk2) (by decide)
    · exact absurd (w4.symm.trans hk2) (by decide)
    · exact absurd (w4.symm.trans hk2) (by decide)
    · obtain ⟨k, ek, hk⟩ := nv_in (e - j) (by omega) (fun q hq => run_dig q1 hd q (by omega))
      have h10 : 10 ^ (e - j) ≤ 10 ^ 4 := Nat.pow_le_pow_right (by decide) (by omega)
      rw [w5, ek]
      exact nI_pos (by omega)
    · rw [hk2] at w4
      split at w4
      · next hm => rw [← w4] at hm; exact absurd hm (by decide)
      · exact absurd w4 (by decide)
  · have ht : t < T := kdA_lt (kd := kd) (by rw [hk]; decide)
    have hk2 : kd t = 3 := by unfold kdA at hk; rw [if_pos ht] at hk; exact hk
    obtain ⟨j, _, _, _, e, q1, q2⟩ := key t ht
    rcases q2 with ⟨_, ⟨w, w2, _, ⟨w3, w4⟩ | ⟨w3, w4, w5⟩⟩ | ⟨_, w4⟩⟩ | ⟨_, hd, ⟨_, w4⟩ | ⟨w3, w4, w5⟩⟩ | ⟨_, _, w4⟩
    · exact absurd (w4.symm.trans hk2) (n300 w w3).2
    · exact ⟨w - 6, by omega, w5⟩
    · exact absurd (w4.symm.trans hk2) (by decide)
    · exact absurd (w4.symm.trans hk2) (by decide)
    · exact absurd (w4.symm.trans hk2) (by decide)
    · rw [hk2] at w4
      split at w4
      · next hm => rw [← w4] at hm; exact absurd hm (by decide)
      · exact absurd w4 (by decide)
section GO
variable {kd nm f : Nat → Int32} {T : Nat}
theorem gR_MM {t : Nat} : gR kd nm f T t = MM kd nm f T (t + 1) [] [] 0 true true := rfl
theorem n300p {p : Nat} (h : p < 3) : (300 : Int32) + nI p = nI (300 + p) := nI_add 300 p
/-- one part of a text -/
theorem part_sim (hT : T ≤ 160) (hK : KKP kd nm T) {p t m : Nat} {c : List Int32} (hp : p < 3) (ht : t ≤ T) (hl : c.length ≤ t) (hg : gT kd nm f T p = t) :
    (∃ e, rPart kd nm T p (.ok (t, c)) = .error e ∧ gF kd nm f T (m + 1) p = some e) ∨
    (∃ t' d v, rPart kd nm T p (.ok (t, c)) = .ok (t', c ++ d) ∧ t' ≤ T ∧ (c ++ d).length ≤ t' ∧ (∀ stk, ev f d stk = v :: stk) ∧ gF kd nm f T (m + 1) p = gF kd nm f T m (p + 1) ∧ gT kd nm f T (p + 1) = t' ∧ (gR kd nm f T (gT kd nm f T p)).2.2 = [v]) := by
  have e0 : rPart kd nm T p (.ok (t, c)) = sExp kd T 59 (rE kd nm T (sExp kd T (300 + nI p) (.ok (t, c)))) := rfl
  have hE : ∀ e, rOr kd T (rLv kd nm T 5).2 (.error e) = .error e := fun e => er_or (er_lv 5).2
  by_cases hk : kdA kd T t = nI (300 + p)
  · have htT : t < T := kdA_lt (kd := kd) (by rw [hk]; exact nI_ne0 (by omega) (by omega))
    have e1 : sExp kd T (300 + nI p) (.ok (t, c)) = .ok (t + 1, c) := by
      rw [n300p hp]; exact if_pos hk
    rw [e0, e1]
    rcases sim_E (f := f) hT hK (t + 1) c [] [] true htT (by omega) (by decide) rfl with ⟨e, a1, a2, a3⟩ | ⟨t', d', v', wa, pa, oa, ma, a1, a2, a3, a4, a5, a6, a7, a8⟩
    · refine Or.inl ⟨e, ?_, ?_⟩
      · rw [a1]; exact er_exp (by decide)
      · rw [gF, hg, if_pos hk, if_neg (fun q => by rw [gR_MM, a2] at q; exact absurd q.1 (by decide)), gR_MM, a3]
    · have hs1 : msettle 1 wa pa oa = ([], [v'], 0) := a7
      by_cases hj : jt (kdA kd T t') = 0
      · have hM : gR kd nm f T t = (true, t', [v']) := by rw [gR_MM, a6, MM_1 a3, mE_end hj hs1]
        by_cases h59 : kdA kd T t' = 59
        · have htT' : t' < T := kdA_lt (kd := kd) (by rw [h59]; decide)
          refine Or.inr ⟨t' + 1, d', v', ?_, htT', by rw [List.length_append]; omega, a5, ?_, ?_, ?_⟩
          · rw [a1]; exact if_pos h59
          · rw [gF, hg, if_pos hk, hM, if_pos ⟨rfl, h59⟩]
          · show (gR kd nm f T (gT kd nm f T p)).2.1 + 1 = t' + 1
            rw [hg, hM]
          · rw [hg, hM]
        · refine Or.inl ⟨t', ?_, ?_⟩
          · rw [a1]; exact if_neg h59
          · rw [gF, hg, if_pos hk, hM, if_neg (fun q => h59 q.2)]
      · rcases ecO_jt a8 with q | ⟨q, q2⟩
        · exact absurd q hj
        · have hj1 : jt (kdA kd T t') = kdA kd T t' := by rcases q with q | q <;> rw [q] <;> decide
          have hj5 : jrF (kdA kd T t') = 5 := if_pos q
          have hM1 : (gR kd nm f T t).1 = false ∧ (gR kd nm f T t).2.1 = t' := by
            rw [gR_MM, a6, MM_1 a3, mE_js hj1 (by rcases q with q | q <;> rw [q] <;> decide) ⟨q, by rw [hj5]; exact q2⟩]
            exact ⟨rfl, rfl⟩
          refine Or.inl ⟨t', ?_, ?_⟩
          · rw [a1]
            exact if_neg (show ¬ kdA kd T t' = 59 by rcases q with q | q <;> rw [q] <;> decide)
          · rw [gF, hg, if_pos hk, if_neg (fun z => by rw [hM1.1] at z; exact absurd z.1 (by decide)), hM1.2]
  · refine Or.inl ⟨t, ?_, ?_⟩
    · have e1 : sExp kd T (300 + nI p) (.ok (t, c)) = .error t := by
        rw [n300p hp]; exact if_neg hk
      rw [e0, e1, rE, hE]
      exact er_exp (by decide)
    · rw [gF, hg, if_neg hk]
theorem sP_s {p : Nat} : sP kd nm T (p + 1) = rPart kd nm T p (sP kd nm T p) := rfl
/-- the whole text -/
theorem text_sim (hT : T ≤ 160) (hK : KKP kd nm T) :
    (∃ e, gF kd nm f T 3 0 = some e ∧ (sP kd nm T 3 = .error e ∨ ∃ c, sP kd nm T 3 = .ok (e, c) ∧ ¬ kdA kd T e = 0)) ∨
    (gF kd nm f T 3 0 = none ∧ ∃ t d0 d1 d2 t1 t2, ∃ V : Nat → Int32, sP kd nm T 1 = .ok (t1, d0) ∧ sP kd nm T 2 = .ok (t2, d0 ++ d1) ∧ sP kd nm T 3 = .ok (t, d0 ++ d1 ++ d2) ∧ kdA kd T t = 0 ∧ (∀ stk, ev f d0 stk = V 0 :: stk) ∧ (∀ stk, ev f d1 stk = V 1 :: stk) ∧ (∀ stk, ev f d2 stk = V 2 :: stk) ∧ ∀ p, p < 3 → (gR kd nm f T (gT kd nm f T p)).2.2 = [V p]) := by
  have s1 : sP kd nm T 1 = rPart kd nm T 0 (.ok (0, [])) := rfl
  rcases part_sim (f := f) (m := 2) hT hK (show 0 < 3 by decide) (Nat.zero_le T) (show ([] : List Int32).length ≤ 0 from Nat.le_refl _) rfl with ⟨e, a1, a2⟩ | ⟨t1, d0, v0, a1, a2, a3, a4, a5, a6, a7⟩
  · refine Or.inl ⟨e, a2, Or.inl ?_⟩
    rw [sP_s, sP_s, s1, a1, er_part (by decide), er_part (by decide)]
  · rw [List.nil_append] at a1 a3
    rcases part_sim (f := f) (m := 1) hT hK (show 1 < 3 by decide) a2 a3 a6 with ⟨e, b1, b2⟩ | ⟨t2, d1, v1, b1, b2, b3, b4, b5, b6, b7⟩
    · refine Or.inl ⟨e, by rw [a5, b2], Or.inl ?_⟩
      rw [sP_s, sP_s, s1, a1, b1, er_part (by decide)]
    · rcases part_sim (f := f) (m := 0) hT hK (show 2 < 3 by decide) b2 b3 b6 with ⟨e, c1, c2⟩ | ⟨t3, d2, v2, c1, c2, c3, c4, c5, c6, c7⟩
      · refine Or.inl ⟨e, by rw [a5, b5, c2], Or.inl ?_⟩
        rw [sP_s, sP_s, s1, a1, b1, c1]
      · have e3 : sP kd nm T 3 = .ok (t3, d0 ++ d1 ++ d2) := by rw [sP_s, sP_s, s1, a1, b1, c1]
        by_cases hz : kdA kd T t3 = 0
        · refine Or.inr ⟨?_, t3, d0, d1, d2, t1, t2, (fun p => if p = 0 then v0 else if p = 1 then v1 else v2), by rw [s1, a1], by rw [sP_s, s1, a1, b1], e3, hz, a4, b4, c4, fun p hp => ?_⟩
          · rw [a5, b5, c5, gF, c6, if_pos hz]
          · rcases (show p = 0 ∨ p = 1 ∨ p = 2 by omega) with rfl | rfl | rfl
            · exact a7
            · exact b7
            · exact c7
        · refine Or.inl ⟨t3, ?_, Or.inr ⟨_, e3, hz⟩⟩
          rw [a5, b5, c5, gF, c6, if_neg hz]
end GO
theorem sgm_3 {d0 d1 d2 : List Int32} {E : Nat → Nat} (h0 : E 0 = d0.length) (h1 : E 1 = (d0 ++ d1).length) (h2 : E 2 = (d0 ++ d1 ++ d2).length) : sgm (d0 ++ d1 ++ d2) E 0 = d0 ∧ sgm (d0 ++ d1 ++ d2) E 1 = d1 ∧ sgm (d0 ++ d1 ++ d2) E 2 = d2 := by
  unfold sgm i0E
  refine ⟨?_, ?_, ?_⟩
  · simp [h0]
  · simp [h0, h1, List.append_assoc]
  · simp [h1, h2]
    rw [show d0.length + (d1.length + d2.length) - (d0.length + d1.length) = d2.length by omega, List.take_length]
/-- a text that the class keeps: the reference goes through it, and to the same worth -/
theorem keep_sim {b : Nat → Int32} {n : Nat} {kd nm pl : Nat → Int32} {T : Nat} {c : List Int32} {E : Nat → Nat} (hn : n ≤ 160) (h : TokOK b n kd nm pl T) (hP : ParsE kd nm T c E) : TxOK c E ∧ ∀ f, gF kd nm f T 3 0 = none ∧ ∀ p, p < 3 → (gR kd nm f T (gT kd nm f T p)).2.2 = [vT c E f p] := by
  have hT : T ≤ 160 := by rw [h.1]; exact Nat.le_trans cnt_le hn
  have hK := kk_of h
  obtain ⟨t, p1, p2, p3⟩ := hP
  have main : ∀ f, gF kd nm f T 3 0 = none ∧ ∃ d0 d1 d2, ∃ V : Nat → Int32, c = d0 ++ d1 ++ d2 ∧ E 0 = d0.length ∧ E 1 = (d0 ++ d1).length ∧ E 2 = (d0 ++ d1 ++ d2).length ∧ (∀ stk, ev f d0 stk = V 0 :: stk) ∧ (∀ stk, ev f d1 stk = V 1 :: stk) ∧ (∀ stk, ev f d2 stk = V 2 :: stk) ∧ ∀ p, p < 3 → (gR kd nm f T (gT kd nm f T p)).2.2 = [V p] := by
    intro f
    rcases text_sim (f := f) hT hK with ⟨e, a1, a2⟩ | ⟨a1, t', d0, d1, d2, t1, t2, V, b1, b2, b3, b4, b5, b6, b7, b8⟩
    · exfalso
      rcases a2 with a2 | ⟨c', a2, a3⟩
      · rw [p1] at a2; cases a2
      · rw [p1] at a2
        cases a2
        exact a3 p2
    · obtain ⟨t0, c0, q1, q2⟩ := p3 0 (by decide)
      obtain ⟨t0', c0', r1, r2⟩ := p3 1 (by decide)
      obtain ⟨t0'', c0'', u1, u2⟩ := p3 2 (by decide)
      rw [b1] at q1
      rw [b2] at r1
      rw [b3] at u1 p1
      cases q1
      cases r1
      cases u1
      cases p1
      exact ⟨a1, d0, d1, d2, V, rfl, q2, r2, u2, b5, b6, b7, b8⟩
  have hV : ∀ f p, p < 3 → ev f (sgm c E p) [] = [vT c E f p] ∧ (gR kd nm f T (gT kd nm f T p)).2.2 = [vT c E f p] := by
    intro f p hp
    obtain ⟨_, d0, d1, d2, V, ec, e0, e1, e2, v0, v1, v2, hg⟩ := main f
    subst ec
    obtain ⟨s0, s1, s2⟩ := sgm_3 e0 e1 e2
    have hev : ev f (sgm (d0 ++ d1 ++ d2) E p) [] = [V p] := by
      rcases (show p = 0 ∨ p = 1 ∨ p = 2 by omega) with rfl | rfl | rfl
      · rw [s0]; exact v0 []
      · rw [s1]; exact v1 []
      · rw [s2]; exact v2 []
    have hvt : vT (d0 ++ d1 ++ d2) E f p = V p := by unfold vT; rw [hev]; rfl
    rw [hvt]
    exact ⟨hev, hg p hp⟩
  refine ⟨⟨fun f p hp => (hV f p hp).1, fun p hp => ?_⟩, fun f => ⟨(main f).1, fun p hp => (hV f p hp).2⟩⟩
  obtain ⟨_, d0, d1, d2, V, ec, e0, e1, e2, _⟩ := main (fun _ => 0)
  subst ec
  unfold i0E
  rcases (show p = 0 ∨ p = 1 ∨ p = 2 by omega) with rfl | rfl | rfl
  · simp [e0]
  · simp [e0, e1]
  · simp [e1, e2]
/-- and a text that it refuses: at the same place -/
theorem fin_sim {B b : Wd} {n : Nat} {f : Nat → Int32} {T : Nat} (hn : n ≤ 160) (h : TokOK (b 68) n (B 71) (B 72) (B 69) T) (hB : TB B T) (h0 : B 67 0 = nI n) : (finF B T (sP (B 71) (B 72) T 3) < 0 → gF (B 71) (B 72) f T 3 0 = none) ∧ (¬ finF B T (sP (B 71) (B 72) T 3) < 0 → ∃ e, gF (B 71) (B 72) f T 3 0 = some e ∧ finF B T (sP (B 71) (B 72) T 3) = plX (B 69) T n e) := by
  have hT : T ≤ 160 := hB.2.1
  rcases text_sim (f := f) hT (kk_of h) with ⟨e, a1, a2⟩ | ⟨a1, t', d0, d1, d2, t1, t2, V, b1, b2, b3, b4, b5⟩
  · have hf : finF B T (sP (B 71) (B 72) T 3) = plX (B 69) T n e := by
      have hpl : plA B T e = plX (B 69) T n e := by unfold plA plX; rw [h0]
      rcases a2 with a2 | ⟨c', a2, a3⟩
      · rw [a2]; exact hpl
      · rw [a2]
        show (if kdA (B 71) T e = 0 then -1 else plA B T e) = _
        rw [if_neg a3, hpl]
    refine ⟨fun q => ?_, fun _ => ⟨e, a1, hf⟩⟩
    exfalso
    rw [hf] at q
    have := hB.2.2 e
    unfold plA at this
    rw [h0] at this
    exact this q
  · refine ⟨fun _ => a1, fun q => ?_⟩
    exfalso
    rw [b3] at q
    apply q
    show (if kdA (B 71) T t' = 0 then -1 else plA B T t') < 0
    rw [if_pos b4]; decide
