/-! ONE, NOT and their levels, on both sides -/
theorem jt40 : jt 41 = 0 := by decide
def mrA (o : Nat) (mn : Bool) (k : Int32) : Prop := mn = true → k = 305 → o = 5
def mrB (mn : Bool) (_ : Int32) : Prop := mn = true
def ecT (_ : Int32) (_ _ : List Int32) (_ : Nat) : Prop := True
/-- behind a NOT: no op of a SUM; a second comparison is refused -/
def ecN (k : Int32) (ws ps : List Int32) (o : Nat) : Prop := isMul k = none ∧ isSum k = none ∧ ((k = 60 ∨ k = 61) → topR (msettle 5 ws ps o).1 = 4)
def ecO (k : Int32) (ws ps : List Int32) (o : Nat) : Prop := (ecN k ws ps o ∧ isAnd k = none) ∧ isOr k = none
theorem ecO_jt {k : Int32} {ws ps : List Int32} {o : Nat} (h : ecO k ws ps o) : jt k = 0 ∨ ((k = 60 ∨ k = 61) ∧ topR (msettle 5 ws ps o).1 = 4) := by
  obtain ⟨⟨⟨h1, h2, h3⟩, h4⟩, h5⟩ := h
  by_cases q : k = 60 ∨ k = 61
  · exact Or.inr ⟨q, h3 q⟩
  · refine Or.inl ?_
    unfold jt
    have n42 : ¬ k = 42 := fun z => by subst z; exact absurd h1 (by decide)
    have n43 : ¬ k = 43 := fun z => by subst z; exact absurd h2 (by decide)
    have n45 : ¬ k = 45 := fun z => by subst z; exact absurd h2 (by decide)
    have n304 : ¬ k = 304 := fun z => by subst z; exact absurd h4 (by decide)
    have n303 : ¬ k = 303 := fun z => by subst z; exact absurd h5 (by decide)
    rw [if_neg (jn5 n42 n43 n45 (fun z => q (Or.inl z)) (fun z => q (Or.inr z))), if_neg n304, if_neg n303]
theorem op_mul {o : Nat} : ∀ x s, isMul x = some s → OpOK 6 100 (mrA o) x s := by
  intro x s h
  unfold isMul at h
  split at h
  · next e =>
    subst e; cases h
    exact ⟨42, by decide, by decide, by decide, by decide, by decide, by decide, by decide, fun y q => absurd q (by decide), fun a b => rfl, by decide, by decide, by decide⟩
  · cases h
theorem op_sum {o : Nat} : ∀ x s, isSum x = some s → OpOK 5 6 (mrA o) x s := by
  intro x s h
  unfold isSum at h
  split at h
  · next e =>
    subst e; cases h
    exact ⟨43, by decide, by decide, by decide, by decide, by decide, by decide, by decide, fun y q => absurd q (by decide), fun a b => rfl, by decide, by decide, by decide⟩
  · split at h
    · next e =>
      subst e; cases h
      exact ⟨45, by decide, by decide, by decide, by decide, by decide, by decide, by decide, fun y q => absurd q (by decide), fun a b => rfl, by decide, by decide, by decide⟩
    · cases h
theorem op_and : ∀ x s, isAnd x = some s → OpOK 2 4 mrB x s := by
  intro x s h
  unfold isAnd at h
  split at h
  · next e =>
    subst e; cases h
    exact ⟨38, by decide, by decide, by decide, by decide, by decide, by decide, by decide, fun y => rfl, fun a b => rfl, by decide, by decide, by decide⟩
  · cases h
theorem op_or : ∀ x s, isOr x = some s → OpOK 1 2 mrB x s := by
  intro x s h
  unfold isOr at h
  split at h
  · next e =>
    subst e; cases h
    exact ⟨124, by decide, by decide, by decide, by decide, by decide, by decide, by decide, fun y => rfl, fun a b => rfl, by decide, by decide, by decide⟩
  · cases h
section SIM3
variable {kd nm f : Nat → Int32} {T : Nat}
theorem Sim.to {X : St → St} {k bd bd2 : Int32} {mr mr2 : Bool → Int32 → Prop} {EC EC2 : Int32 → List Int32 → List Int32 → Nat → Prop} {o : Nat} (h : Sim kd nm f T X k bd mr EC o) (hb : ∀ x : Int32, x < bd2 → x < bd) (hm : ∀ a b, mr2 a b → mr a b) (he : ∀ a b c d, EC a b c d → EC2 a b c d) : Sim kd nm f T X k bd2 mr2 EC2 o := by
  intro t c ws ps mn ht hl htop hmr
  rcases h t c ws ps mn ht hl (hb _ htop) (hm _ _ hmr) with a | ⟨t', d', v', wa, pa, oa, ma, a1, a2, a3, a4, a5, a6, a7, a8⟩
  · exact Or.inl a
  · exact Or.inr ⟨t', d', v', wa, pa, oa, ma, a1, a2, a3, a4, a5, a6, a7, he _ _ _ _ a8⟩
theorem MM_f {t : Nat} {ws ps : List Int32} {o : Nat} {mn : Bool} (ht : t ≤ T) (h : ¬ opK (kdA kd T t) mn) (hv : ¬ (kdA kd T t = 2 ∨ kdA kd T t = 3)) : (MM kd nm f T t ws ps o true mn).1 = false ∧ (MM kd nm f T t ws ps o true mn).2.1 = t := by
  rw [MM_1 ht, mE_no h hv]; exact ⟨rfl, rfl⟩
theorem MM_5 {t : Nat} {ws ps : List Int32} {o : Nat} {mn : Bool} (ht : t ≤ T) (h : opK (kdA kd T t) mn) (ho : o = 5) : (MM kd nm f T t ws ps o true mn).1 = false ∧ (MM kd nm f T t ws ps o true mn).2.1 = t := by
  rw [MM_1 ht, mE_op5 h ho]; exact ⟨rfl, rfl⟩
theorem MM_o {t : Nat} {ws ps : List Int32} {o : Nat} {mn : Bool} (ht : t ≤ T) (h : opK (kdA kd T t) mn) (ho : ¬ o = 5) : MM kd nm f T t ws ps o true mn = MM kd nm f T (t + 1) (opW (kdA kd T t) :: ws) ps (o + 1) true (decide (¬ kdA kd T t = 45)) := by
  rw [MM_1 ht, mE_op h ho, MM_2]
theorem add_ok {t : Nat} {c d : List Int32} {s : Int32} (h : (c ++ d).length < 160) : sAdd s (.ok (t, c ++ d)) = .ok (t, c ++ (d ++ [s])) := by
  show (Except.ok (t, if (c ++ d).length < 160 then c ++ d ++ [s] else c ++ d) : St) = _
  rw [if_pos h, List.append_assoc]
theorem ms_pop {w k v u : Int32} {ws ps : List Int32} {o : Nat} (hw : isU2 w) (hr : ¬ rankF w < k) (hu : unW w v = u) : msettle k (w :: ws) (v :: ps) (o + 1) = msettle k ws (u :: ps) o := by
  rw [ms_neg hr, mW_u hw, if_pos hw, hu]; rfl
theorem sim_one {o : Nat} {can : Bool} {one or : St → St} (hT : T ≤ 160) (hK : KKP kd nm T) (hcan : can = true ↔ ¬ o = 5) (h1 : can = true → Sim kd nm f T one 7 100 (mrA (o + 1)) ecT (o + 1)) (h2 : can = true → Sim kd nm f T or 1 1 mrB ecO (o + 1)) : Sim kd nm f T (rOne kd nm T can one or) 7 100 (mrA o) ecT o := by
  intro t c ws ps mn ht hl htop hmr
  have hlt : ∀ z : Int32, kdA kd T t = z → ¬ z = 0 → t < T := fun z hz h0 => kdA_lt (kd := kd) (by rw [hz]; exact h0)
  have htok : sTok kd T (.ok (t, c)) = kdA kd T t := rfl
  by_cases k2 : kdA kd T t = 2
  · have htT := hlt 2 k2 (by decide)
    have hx : rOne kd nm T can one or (.ok (t, c)) = .ok (t + 1, c ++ [nm t]) := by
      unfold rOne
      rw [htok, if_pos k2]
      show (Except.ok (t + 1, if c.length < 160 then c ++ [nm t] else c) : St) = _
      rw [if_pos (by omega)]
    have hno : ¬ opK (kdA kd T t) mn := by rw [k2]; exact fun q => q.elim (fun z => absurd z (by decide)) (fun q => q.elim (fun z => absurd z (by decide)) (fun z => absurd z.2 (by decide)))
    refine Or.inr ⟨t + 1, [nm t], nm t, _, _, _, mn, hx, by omega, htT, by simp; omega, fun stk => ?_, by rw [MM_1 ht, mE_vl hno (Or.inl k2), MM_2], ?_, trivial⟩
    · have h0 := hK.1 t k2
      have h8 : ¬ nm t < -8 := fun q => h0 (lt_le (by decide) _ q)
      show eStep f (nm t) stk = _
      rw [eStep_p h8, if_neg h0]
    · rw [show vlF kd nm f T t = nm t from if_pos k2]
      exact ms_ms (fun x h => h) ws (nm t :: ps) o
  · by_cases k3 : kdA kd T t = 3
    · have htT := hlt 3 k3 (by decide)
      obtain ⟨i, i8, hi⟩ := hK.2 t k3
      have hx : rOne kd nm T can one or (.ok (t, c)) = .ok (t + 1, c ++ [-1 - nm t]) := by
        unfold rOne
        rw [htok, if_neg k2, if_pos k3]
        show (Except.ok (t + 1, if c.length < 160 then c ++ [-1 - nm t] else c) : St) = _
        rw [if_pos (by omega)]
      have hno : ¬ opK (kdA kd T t) mn := by rw [k3]; exact fun q => q.elim (fun z => absurd z (by decide)) (fun q => q.elim (fun z => absurd z (by decide)) (fun z => absurd z.2 (by decide)))
      refine Or.inr ⟨t + 1, [-1 - nm t], f i, _, _, _, mn, hx, by omega, htT, by simp; omega, fun stk => ?_, by rw [MM_1 ht, mE_vl hno (Or.inr k3), MM_2], ?_, trivial⟩
      · show eStep f (-1 - nm t) stk = _
        have key : ∀ i, i < 8 → ¬ (-1 - nI i) < -8 ∧ (-1 - nI i) < 0 ∧ (-1 - (-1 - nI i)).toNatClampNeg = i := by decide +kernel
        obtain ⟨q1, q2, q3⟩ := key i i8
        rw [hi, eStep_p q1, if_pos q2, q3]
      · rw [show vlF kd nm f T t = f i from by unfold vlF; rw [if_neg k2, hi, nI_clamp (by omega)]]
        exact ms_ms (fun x h => h) ws (f i :: ps) o
    · have hx0 : rOne kd nm T can one or (.ok (t, c)) = (if kdA kd T t = 45 ∧ can = true then sAdd (-19) (one (.ok (t + 1, c))) else if kdA kd T t = 40 ∧ can = true then sExp kd T 41 (or (.ok (t + 1, c))) else .error t) := by
        unfold rOne
        rw [htok, if_neg k2, if_neg k3]
        rfl
      rw [hx0]
      by_cases hc : can = true
      · have ho := hcan.mp hc
        by_cases k45 : kdA kd T t = 45
        · have htT := hlt 45 k45 (by decide)
          rw [if_pos ⟨k45, hc⟩, MM_o ht (Or.inr (Or.inl k45)) ho, k45, show opW 45 = 126 from rfl, show decide (¬ (45 : Int32) = 45) = false from rfl]
          rcases h1 hc (t + 1) c (126 :: ws) ps false htT (by omega) (show rankF 126 < 100 by decide) (fun q => by cases q) with ⟨e, a1, a2, a3⟩ | ⟨t', d', v', wa, pa, oa, ma, a1, a2, a3, a4, a5, a6, a7, a8⟩
          · refine Or.inl ⟨e, ?_, a2, a3⟩
            rw [a1]; rfl
          · refine Or.inr ⟨t', d' ++ [-19], -v', wa, pa, oa, ma, ?_, by omega, a3, by simp; omega, fun stk => ?_, a6, ?_, trivial⟩
            · rw [a1]; exact add_ok (by rw [List.length_append]; omega)
            · rw [ev_app, a5]
              show eStep f (-19) (v' :: stk) = _
              rw [eStep_u (by decide) (Or.inr rfl)]; rfl
            · rw [a7]; exact ms_pop (Or.inr rfl) (by decide) rfl
        · rw [if_neg (fun q => k45 q.1)]
          by_cases k40 : kdA kd T t = 40
          · have htT := hlt 40 k40 (by decide)
            rw [if_pos ⟨k40, hc⟩, MM_o ht (Or.inl k40) ho, k40, show opW 40 = 40 from rfl, show decide (¬ (40 : Int32) = 45) = true from rfl]
            rcases h2 hc (t + 1) c (40 :: ws) ps true htT (by omega) (show rankF 40 < 1 by decide) rfl with ⟨e, a1, a2, a3⟩ | ⟨t', d', v', wa, pa, oa, ma, a1, a2, a3, a4, a5, a6, a7, a8⟩
            · refine Or.inl ⟨e, ?_, a2, a3⟩
              rw [a1]; exact er_exp (by decide)
            · have hs1 : msettle 1 wa pa oa = (40 :: ws, v' :: ps, o + 1) := by rw [a7]; exact ms_pos (by decide)
              rw [a1, a6]
              by_cases k41 : kdA kd T t' = 41
              · have htT' : t' < T := kdA_lt (kd := kd) (by rw [k41]; decide)
                refine Or.inr ⟨t' + 1, d', v', _, _, _, ma, ?_, by omega, htT', by omega, a5, by rw [MM_1 a3, mE_rp (by rw [k41]; decide) hs1 k41, MM_2], ?_, trivial⟩
                · show sExp kd T 41 (.ok (t', c ++ d')) = _
                  exact if_pos k41
                · exact ms_ms (fun x h => h) ws (v' :: ps) o
              · refine Or.inl ⟨t', ?_, ?_⟩
                · show sExp kd T 41 (.ok (t', c ++ d')) = _
                  exact if_neg k41
                · rcases ecO_jt a8 with q | ⟨q, q2⟩
                  · rw [MM_1 a3, mE_rn q hs1 k41]; exact ⟨rfl, rfl⟩
                  · have hj : jt (kdA kd T t') = kdA kd T t' := by rcases q with q | q <;> rw [q] <;> decide
                    have hj5 : jrF (kdA kd T t') = 5 := if_pos q
                    rw [MM_1 a3, mE_js hj (by rcases q with q | q <;> rw [q] <;> decide) ⟨q, by rw [hj5]; exact q2⟩]
                    exact ⟨rfl, rfl⟩
          · rw [if_neg (fun q => k40 q.1)]
            refine Or.inl ⟨t, rfl, ?_⟩
            by_cases kn : mn = true ∧ kdA kd T t = 305
            · exact absurd (hmr kn.1 kn.2) ho
            · exact MM_f ht (fun q => q.elim k40 (fun q => q.elim k45 kn)) (fun q => q.elim k2 k3)
      · rw [if_neg (fun q => hc q.2), if_neg (fun q => hc q.2)]
        have ho : o = 5 := Decidable.not_not.mp (fun q => hc (hcan.mpr q))
        refine Or.inl ⟨t, rfl, ?_⟩
        by_cases hop : opK (kdA kd T t) mn
        · exact MM_5 ht hop ho
        · exact MM_f ht hop (fun q => q.elim k2 k3)
theorem sim_not {o : Nat} {can : Bool} {not sum : St → St} (hT : T ≤ 160) (hcan : can = true ↔ ¬ o = 5) (h1 : can = true → Sim kd nm f T not 3 4 mrB ecN (o + 1)) (h2 : Sim kd nm f T sum 5 5 (mrA o) (fun x _ _ _ => isMul x = none ∧ isSum x = none) o) (hse : ∀ e, sum (.error e) = .error e) : Sim kd nm f T (rNot kd T can not sum) 3 4 mrB ecN o := by
  intro t c ws ps mn ht hl htop hmr
  have hmn : mn = true := hmr
  subst hmn
  by_cases hN : kdA kd T t = 305 ∧ can = true
  · obtain ⟨k5, hc⟩ := hN
    have ho := hcan.mp hc
    have htT : t < T := kdA_lt (kd := kd) (by rw [k5]; decide)
    have hx : rNot kd T can not sum (.ok (t, c)) = sAdd (-13) (not (.ok (t + 1, c))) := if_pos ⟨k5, hc⟩
    rw [hx, MM_o ht (Or.inr (Or.inr ⟨rfl, k5⟩)) ho, k5, show opW 305 = 33 from rfl, show decide (¬ (305 : Int32) = 45) = true from rfl]
    rcases h1 hc (t + 1) c (33 :: ws) ps true htT (by omega) (show rankF 33 < 4 by decide) rfl with ⟨e, a1, a2, a3⟩ | ⟨t', d', v', wa, pa, oa, ma, a1, a2, a3, a4, a5, a6, a7, a8⟩
    · refine Or.inl ⟨e, ?_, a2, a3⟩
      rw [a1]; rfl
    · refine Or.inr ⟨t', d' ++ [-13], (if v' = 0 then 1 else 0), wa, pa, oa, ma, ?_, by omega, a3, by simp; omega, fun stk => ?_, a6, ?_, a8⟩
      · rw [a1]; exact add_ok (by rw [List.length_append]; omega)
      · rw [ev_app, a5]
        show eStep f (-13) (v' :: stk) = _
        rw [eStep_u (by decide) (Or.inl rfl)]; rfl
      · rw [a7]; exact ms_pop (Or.inl rfl) (by decide) rfl
  · have hx : rNot kd T can not sum (.ok (t, c)) = rCmp kd T sum (sum (.ok (t, c))) := if_neg hN
    have hmA : mrA o true (kdA kd T t) := fun _ k5 => by
      apply Classical.byContradiction
      intro q
      exact hN ⟨k5, hcan.mpr q⟩
    have htop5 : topR ws < 5 := lt_le (by decide) _ htop
    rw [hx]
    rcases h2 t c ws ps true ht hl htop5 hmA with ⟨e, a1, a2, a3⟩ | ⟨t', d', v', wa, pa, oa, ma, a1, a2, a3, a4, a5, a6, a7, a8⟩
    · refine Or.inl ⟨e, ?_, a2, a3⟩
      rw [a1]; rfl
    · have hs5 : msettle 5 wa pa oa = (ws, v' :: ps, o) := by rw [a7]; exact ms_stop htop5
      rw [a1, a6]
      by_cases kc : kdA kd T t' = 60 ∨ kdA kd T t' = 61
      · have htT' : t' < T := kdA_lt (kd := kd) (by rcases kc with q | q <;> rw [q] <;> decide)
        obtain ⟨s, hs, hs1, hs2, hs3, hsj⟩ : ∃ s, isCmp (kdA kd T t') = some s ∧ s < -8 ∧ ¬ s = -13 ∧ ¬ s = -19 ∧ ∀ a b, eJoin s a b = jnW (kdA kd T t') a b := by
          rcases kc with q | q
          · rw [q]; exact ⟨-14, rfl, by decide, by decide, by decide, fun a b => rfl⟩
          · rw [q]; exact ⟨-15, rfl, by decide, by decide, by decide, fun a b => rfl⟩
        have hx2 : rCmp kd T sum (.ok (t', c ++ d')) = sAdd s (sum (.ok (t' + 1, c ++ d'))) := by
          unfold rCmp
          rw [show sTok kd T (.ok (t', c ++ d')) = kdA kd T t' from rfl, hs]
          rfl
        have hj : jt (kdA kd T t') = kdA kd T t' := by rcases kc with q | q <;> rw [q] <;> decide
        have hj0 : ¬ kdA kd T t' = 0 := by rcases kc with q | q <;> rw [q] <;> decide
        have hj5 : jrF (kdA kd T t') = 5 := if_pos kc
        have hr4 : rankF (kdA kd T t') = 4 := by rcases kc with q | q <;> rw [q] <;> decide
        have hu2 : ¬ isU2 (kdA kd T t') := by rcases kc with q | q <;> rw [q] <;> decide
        have hd : decide (kdA kd T t' = 38 ∨ kdA kd T t' = 124) = false := by rcases kc with q | q <;> rw [q] <;> decide
        rw [hx2, MM_1 a3, mE_jo hj hj0 (fun q => by
          have q2 := q.2
          rw [hj5, hs5] at q2
          have q3 : topR ws = 4 := q2
          rw [q3] at htop
          exact absurd htop (by decide)), MM_2, hj5, hs5, hd]
        rcases h2 (t' + 1) (c ++ d') (kdA kd T t' :: ws) (v' :: ps) false htT' (by rw [List.length_append]; omega) (show rankF (kdA kd T t') < 5 by rw [hr4]; decide) (fun q => by cases q) with ⟨e, b1, b2, b3⟩ | ⟨t2, d2, v2, wb, pb, ob, mb, b1, b2, b3, b4, b5, b6, b7, b8⟩
        · refine Or.inl ⟨e, ?_, b2, b3⟩
          rw [b1]; rfl
        · have hsb : msettle 5 wb pb ob = (kdA kd T t' :: ws, v2 :: v' :: ps, o) := by rw [b7]; exact ms_pos (by rw [hr4]; decide)
          refine Or.inr ⟨t2, d' ++ (d2 ++ [s]), jnW (kdA kd T t') v' v2, wb, pb, ob, mb, ?_, by omega, b3, by simp; omega, fun stk => ?_, b6, ?_, b8.1, b8.2, fun _ => ?_⟩
          · rw [b1, add_ok (by simp only [List.length_append]; omega), List.append_assoc]
          · rw [ev_app, a5, ev_app, b5]
            show eStep f s (v2 :: v' :: stk) = _
            rw [eStep_j hs1 hs2 hs3, hsj]
          · rw [ms_eq (lt_le (by decide)) b7, ms_neg (by rw [hr4]; decide), mW_b hu2, if_neg hu2]
          · rw [hsb]; exact hr4
      · refine Or.inr ⟨t', d', v', wa, pa, oa, ma, ?_, a2, a3, a4, a5, rfl, ms_eq (lt_le (by decide)) a7, a8.1, a8.2, fun q => absurd q kc⟩
        unfold rCmp
        have hs : isCmp (kdA kd T t') = none := by
          unfold isCmp
          rw [if_neg (fun q => kc (Or.inl q)), if_neg (fun q => kc (Or.inr q))]
        rw [show sTok kd T (.ok (t', c ++ d')) = kdA kd T t' from rfl, hs]
theorem sim_sum {o : Nat} {one : St → St} (hT : T ≤ 160) (h : Sim kd nm f T one 7 100 (mrA o) ecT o) : Sim kd nm f T (rSum kd T one) 5 5 (mrA o) (fun x _ _ _ => isMul x = none ∧ isSum x = none) o := by
  have h1 : Sim kd nm f T (rTerm kd T one) 6 6 (mrA o) _ o := sim_chain hT h rfl rfl op_mul (by decide) (by decide)
  have h2 : Sim kd nm f T (rSum kd T one) 5 5 (mrA o) _ o := sim_chain hT h1 rfl rfl op_sum (by decide) (by decide)
  exact h2.to (fun x hx => hx) (fun a b q => q) (fun a b c d q => ⟨q.1.2, q.2⟩)
theorem sim_or {o : Nat} {not : St → St} (hT : T ≤ 160) (h : Sim kd nm f T not 3 4 mrB ecN o) : Sim kd nm f T (rOr kd T not) 1 1 mrB ecO o := by
  have h1 : Sim kd nm f T (rAnd kd T not) 2 2 mrB _ o := sim_chain hT h rfl rfl op_and (by decide) (by decide)
  exact sim_chain hT h1 rfl rfl op_or (by decide) (by decide)
theorem sim_lv (hT : T ≤ 160) (hK : KKP kd nm T) : ∀ g, g ≤ 5 → Sim kd nm f T (rLv kd nm T g).1 7 100 (mrA (5 - g)) ecT (5 - g) ∧ Sim kd nm f T (rLv kd nm T g).2 3 4 mrB ecN (5 - g) := by
  intro g
  induction g with
  | zero =>
    intro _
    have k1 : Sim kd nm f T (rOne kd nm T false id id) 7 100 (mrA 5) ecT 5 := sim_one hT hK (by decide) (fun q => by cases q) (fun q => by cases q)
    exact ⟨k1, sim_not hT (by decide) (fun q => by cases q) (sim_sum hT k1) (fun e => er_sum (fun e => er_one))⟩
  | succ g ih =>
    intro hg
    obtain ⟨i1, i2⟩ := ih (by omega)
    have e : 5 - g = 5 - (g + 1) + 1 := by omega
    rw [e] at i1 i2
    have hc : (true = true) ↔ ¬ 5 - (g + 1) = 5 := ⟨fun _ => by omega, fun _ => rfl⟩
    have k1 : Sim kd nm f T (rOne kd nm T true (rLv kd nm T g).1 (rOr kd T (rLv kd nm T g).2)) 7 100 (mrA (5 - (g + 1))) ecT (5 - (g + 1)) := sim_one hT hK hc (fun _ => i1) (fun _ => sim_or hT i2)
    exact ⟨k1, sim_not hT hc (fun _ => i2) (sim_sum hT k1) (fun e => er_sum (fun e => er_one))⟩
theorem sim_E (hT : T ≤ 160) (hK : KKP kd nm T) : Sim kd nm f T (rE kd nm T) 1 1 mrB ecO 0 := sim_or hT (sim_lv hT hK 5 (by omega)).2
end SIM3
