/-! the class's reading and the reference's are one -/
theorem ms_stop {k : Int32} {ws ps : List Int32} {o : Nat} (h : topR ws < k) : msettle k ws ps o = (ws, ps, o) := by
  cases ws with
  | nil => rfl
  | cons w ws => exact ms_pos h
theorem ms_ms {j k : Int32} (hjk : ∀ x : Int32, x < j → x < k) : ∀ (ws ps : List Int32) (o : Nat), msettle j (msettle k ws ps o).1 (msettle k ws ps o).2.1 (msettle k ws ps o).2.2 = msettle j ws ps o
  | [], _, _ => rfl
  | w :: ws, ps, o => by
    by_cases hr : rankF w < k
    · rw [ms_pos hr]
    · rw [ms_neg hr, ms_neg (k := j) (fun q => hr (hjk _ q))]
      exact ms_ms hjk ws _ _
theorem ms_eq {j k : Int32} (hjk : ∀ x : Int32, x < j → x < k) {ws ps ws' ps' : List Int32} {o o' : Nat} (h : msettle k ws' ps' o' = msettle k ws ps o) : msettle j ws' ps' o' = msettle j ws ps o := by
  rw [← ms_ms hjk ws' ps' o', ← ms_ms hjk ws ps o, h]
theorem ev_app {f : Nat → Int32} : ∀ (a b stk : List Int32), ev f (a ++ b) stk = ev f b (ev f a stk)
  | [], _, _ => rfl
  | s :: a, b, stk => ev_app a b (eStep f s stk)
theorem lt_le {a b : Int32} (h : a ≤ b) : ∀ x : Int32, x < a → x < b := fun x hx => by
  rw [Int32.lt_iff_toInt_lt] at hx ⊢
  rw [Int32.le_iff_toInt_le] at h
  omega
section SIM
variable (kd nm f : Nat → Int32) (T : Nat)
def KKP : Prop := (∀ t, kdA kd T t = 2 → ¬ nm t < 0) ∧ ∀ t, kdA kd T t = 3 → ∃ i, i < 8 ∧ nm t = nI i
def MM (t : Nat) (ws ps : List Int32) (o : Nat) (w mn : Bool) : Bool × Nat × List Int32 := mE kd nm f T (T + 1 - t) t ws ps o w mn
def Sim (X : St → St) (k bd : Int32) (mr : Bool → Int32 → Prop) (EC : Int32 → List Int32 → List Int32 → Nat → Prop) (o : Nat) : Prop :=
  ∀ (t : Nat) (c ws ps : List Int32) (mn : Bool), t ≤ T → c.length ≤ t → topR ws < bd → mr mn (kdA kd T t) →
    (∃ e, X (.ok (t, c)) = .error e ∧ (MM kd nm f T t ws ps o true mn).1 = false ∧ (MM kd nm f T t ws ps o true mn).2.1 = e) ∨
    (∃ t' d v ws' ps' o' mn', X (.ok (t, c)) = .ok (t', c ++ d) ∧ t < t' ∧ t' ≤ T ∧ d.length + t ≤ t' ∧ (∀ stk, ev f d stk = v :: stk) ∧ MM kd nm f T t ws ps o true mn = MM kd nm f T t' ws' ps' o' false mn' ∧ msettle k ws' ps' o' = msettle k ws (v :: ps) o ∧ EC (kdA kd T t') ws' ps' o')
end SIM
section SIM2
variable {kd nm f : Nat → Int32} {T : Nat}
theorem MM_1 {t : Nat} {ws ps : List Int32} {o : Nat} {w mn : Bool} (h : t ≤ T) : MM kd nm f T t ws ps o w mn = mE kd nm f T (T - t + 1) t ws ps o w mn := by unfold MM; rw [show T + 1 - t = T - t + 1 by omega]
theorem MM_2 {t : Nat} {ws ps : List Int32} {o : Nat} {w mn : Bool} : mE kd nm f T (T - t) (t + 1) ws ps o w mn = MM kd nm f T (t + 1) ws ps o w mn := by unfold MM; rw [show T + 1 - (t + 1) = T - t by omega]
/-- what an op token is to both -/
def OpOK (k bds : Int32) (mrs : Bool → Int32 → Prop) (x s : Int32) : Prop := ∃ w, jt x = w ∧ ¬ w = 0 ∧ ¬ (w = 60 ∨ w = 61) ∧ jrF w = k ∧ ¬ rankF w < k ∧ rankF w < bds ∧ ¬ isU2 w ∧ (∀ y, mrs (decide (w = 38 ∨ w = 124)) y) ∧ (∀ a b, eJoin s a b = jnW w a b) ∧ s < -8 ∧ ¬ s = -13 ∧ ¬ s = -19
theorem sim_loop {is : Int32 → Option Int32} {sub : St → St} {k ks bds : Int32} {mrs : Bool → Int32 → Prop} {ECs : Int32 → List Int32 → List Int32 → Nat → Prop} {o : Nat} (hT : T ≤ 160) (hsub : Sim kd nm f T sub ks bds mrs ECs o) (his1 : is 1 = none) (his0 : is 0 = none) (hop : ∀ x s, is x = some s → OpOK k bds mrs x s) (hks : k ≤ ks) :
    ∀ (n t : Nat) (c ws ps d : List Int32) (v : Int32) (ws' ps' : List Int32) (o' : Nat) (mn' : Bool), T ≤ t + n → t ≤ T → (c ++ d).length ≤ t → topR ws < k → msettle k ws' ps' o' = (ws, v :: ps, o) → (∀ stk, ev f d stk = v :: stk) → ECs (kdA kd T t) ws' ps' o' →
    (∃ e, rLoop kd T is sub n (.ok (t, c ++ d)) = .error e ∧ (MM kd nm f T t ws' ps' o' false mn').1 = false ∧ (MM kd nm f T t ws' ps' o' false mn').2.1 = e) ∨
    (∃ t2 d2 v2 ws2 ps2 o2 mn2, rLoop kd T is sub n (.ok (t, c ++ d)) = .ok (t2, c ++ d2) ∧ t ≤ t2 ∧ t2 ≤ T ∧ d2.length + t ≤ d.length + t2 ∧ (∀ stk, ev f d2 stk = v2 :: stk) ∧ MM kd nm f T t ws' ps' o' false mn' = MM kd nm f T t2 ws2 ps2 o2 false mn2 ∧ msettle k ws2 ps2 o2 = (ws, v2 :: ps, o) ∧ (ECs (kdA kd T t2) ws2 ps2 o2 ∧ is (kdA kd T t2) = none)) := by
  intro n
  induction n with
  | zero =>
    intro t c ws ps d v ws' ps' o' mn' hn ht hl htop hms hev hEC
    have h0 : kdA kd T t = 0 := by unfold kdA; rw [if_neg (by omega)]
    exact Or.inr ⟨t, d, v, ws', ps', o', mn', rfl, Nat.le_refl _, ht, Nat.le_refl _, hev, rfl, hms, hEC, by rw [h0]; exact his0⟩
  | succ n ih =>
    intro t c ws ps d v ws' ps' o' mn' hn ht hl htop hms hev hEC
    cases hx : is (kdA kd T t) with
    | none => exact Or.inr ⟨t, d, v, ws', ps', o', mn', rLoop_n hx, Nat.le_refl _, ht, Nat.le_refl _, hev, rfl, hms, hEC, hx⟩
    | some s =>
      obtain ⟨w, w1, w2, w3, w4, w5, w6', w7, w8, w9, s1, s2, s3⟩ := hop _ _ hx
      have htT : t < T := by
        apply Classical.byContradiction
        intro q
        have h0 : kdA kd T t = 0 := by unfold kdA; rw [if_neg q]
        rw [h0, his0] at hx
        cases hx
      have e1 : rLoop kd T is sub (n + 1) (.ok (t, c ++ d)) = rLoop kd T is sub n (sAdd s (sub (.ok (t + 1, c ++ d)))) := rLoop_s hx
      have e2 : MM kd nm f T t ws' ps' o' false mn' = MM kd nm f T (t + 1) (w :: ws) (v :: ps) o true (decide (w = 38 ∨ w = 124)) := by
        rw [MM_1 ht, mE_jo w1 w2 (fun q => w3 q.1), MM_2, w4, hms]
      rw [e1, e2]
      rcases hsub (t + 1) (c ++ d) (w :: ws) (v :: ps) (decide (w = 38 ∨ w = 124)) htT (by omega) w6' (w8 _) with ⟨e, a1, a2, a3⟩ | ⟨t', d', v', wa, pa, oa, ma, a1, a2, a3, a4, a5, a6, a7, a8⟩
      · refine Or.inl ⟨e, ?_, a2, a3⟩
        rw [a1]
        exact rLoop_n his1
      · have hadd : sAdd s (sub (.ok (t + 1, c ++ d))) = .ok (t', c ++ (d ++ (d' ++ [s]))) := by
          rw [a1]
          show (Except.ok (t', if (c ++ d ++ d').length < 160 then c ++ d ++ d' ++ [s] else c ++ d ++ d') : St) = _
          rw [if_pos (by rw [List.length_append]; omega)]
          simp only [List.append_assoc]
        rw [hadd, a6]
        have hev2 : ∀ stk, ev f (d ++ (d' ++ [s])) stk = jnW w v v' :: stk := by
          intro stk
          rw [ev_app, hev, ev_app, a5]
          show eStep f s (v' :: v :: stk) = _
          rw [eStep_j s1 s2 s3, w9]
        have hms2 : msettle k wa pa oa = (ws, jnW w v v' :: ps, o) := by
          rw [ms_eq (lt_le hks) a7, ms_neg w5, mW_b w7, if_neg w7]
          exact ms_stop htop
        have hl2 : (c ++ (d ++ (d' ++ [s]))).length ≤ t' := by
          simp only [List.length_append, List.length_cons, List.length_nil] at hl ⊢
          omega
        rcases ih t' c ws ps (d ++ (d' ++ [s])) (jnW w v v') wa pa oa ma (by omega) a3 hl2 htop hms2 hev2 a8 with ⟨e, b1, b2, b3⟩ | ⟨t2, d2, v2, ws2, ps2, o2, mn2, b1, b2, b3, b4, b5, b6, b7, b8⟩
        · exact Or.inl ⟨e, b1, b2, b3⟩
        · refine Or.inr ⟨t2, d2, v2, ws2, ps2, o2, mn2, b1, by omega, b3, ?_, b5, b6, b7, b8⟩
          simp only [List.length_append, List.length_cons, List.length_nil] at b4
          omega
/-- a chain of one kind of ops over a sub -/
theorem sim_chain {is : Int32 → Option Int32} {sub : St → St} {k ks bds : Int32} {mrs : Bool → Int32 → Prop} {ECs : Int32 → List Int32 → List Int32 → Nat → Prop} {o : Nat} (hT : T ≤ 160) (hsub : Sim kd nm f T sub ks bds mrs ECs o) (his1 : is 1 = none) (his0 : is 0 = none) (hop : ∀ x s, is x = some s → OpOK k bds mrs x s) (hks : k ≤ ks) (hkb : k ≤ bds) : Sim kd nm f T (fun s => rLoop kd T is sub 160 (sub s)) k k mrs (fun x ws ps o => ECs x ws ps o ∧ is x = none) o := by
  intro t c ws ps mn ht hl htop hmr
  show (∃ e, rLoop kd T is sub 160 (sub (.ok (t, c))) = .error e ∧ _) ∨ _
  rcases hsub t c ws ps mn ht hl (lt_le hkb _ htop) hmr with ⟨e, a1, a2, a3⟩ | ⟨t', d', v', wa, pa, oa, ma, a1, a2, a3, a4, a5, a6, a7, a8⟩
  · refine Or.inl ⟨e, ?_, a2, a3⟩
    rw [a1]; exact rLoop_n his1
  · have hms : msettle k wa pa oa = (ws, v' :: ps, o) := by rw [ms_eq (lt_le hks) a7]; exact ms_stop htop
    rw [a1, a6]
    rcases sim_loop hT hsub his1 his0 hop hks 160 t' c ws ps d' v' wa pa oa ma (by omega) a3 (by rw [List.length_append]; omega) htop hms a5 a8 with ⟨e, b1, b2, b3⟩ | ⟨t2, d2, v2, ws2, ps2, o2, mn2, b1, b2, b3, b4, b5, b6, b7, b8⟩
    · exact Or.inl ⟨e, b1, b2, b3⟩
    · exact Or.inr ⟨t2, d2, v2, ws2, ps2, o2, mn2, (by show rLoop kd T is sub 160 (sub (.ok (t, c))) = _; rw [a1]; exact b1), by omega, b3, by omega, b5, b6, by rw [b7]; exact (ms_stop htop).symm, b8⟩
end SIM2
