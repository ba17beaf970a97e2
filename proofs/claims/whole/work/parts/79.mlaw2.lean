/-! law, moved, part side by side -/
theorem far_eq {a b : Int32} (ha : vp_in a 64) (hb : vp_in b 64) : farP a b ↔ farM a b := by
  obtain ⟨i, hi, rfl⟩ : ∃ i, i < 64 ∧ a = nI i := by
    rw [vp_in_iff] at ha
    obtain ⟨m, hm, rfl⟩ := nI_of (x := a) (fun q => by rw [Int32.lt_iff_toInt_lt] at q; have : (0 : Int32).toInt = 0 := rfl; omega)
    rw [nI_toInt hm] at ha
    exact ⟨m, by omega, rfl⟩
  obtain ⟨j, hj, rfl⟩ : ∃ i, i < 64 ∧ b = nI i := by
    rw [vp_in_iff] at hb
    obtain ⟨m, hm, rfl⟩ := nI_of (x := b) (fun q => by rw [Int32.lt_iff_toInt_lt] at q; have : (0 : Int32).toInt = 0 := rfl; omega)
    rw [nI_toInt hm] at hb
    exact ⟨m, by omega, rfl⟩
  exact (show ∀ i, i < 64 → ∀ j, j < 64 → (farP (nI i) (nI j) ↔ farM (nI i) (nI j)) by decide +kernel) i hi j hj
theorem npM_eq {pc pu pu2 : Nat → Int32} {c : Int32} (hc : vp_in c 64) : ∀ P, (∀ p, p < P → vp_in (pc p) 64) → (∀ p, p < P → pu p = pu2 p) → sNr pc pu c P = npM pc pu2 c P
  | 0, _, _ => rfl
  | p + 1, h, h2 => by
    show (if 0 < pu p then (if farP (pc p) c then sNr pc pu c p else sNr pc pu c p + 1) else sNr pc pu c p) = npM pc pu2 c p + (if 0 < pu2 p ∧ ¬ farM (pc p) c then 1 else 0)
    rw [npM_eq hc p (fun q hq => h q (by omega)) (fun q hq => h2 q (by omega)), h2 p (by omega)]
    by_cases q : 0 < pu2 p
    · rw [if_pos q]
      by_cases q2 : farP (pc p) c
      · have hz : ¬ (0 < pu2 p ∧ ¬ farM (pc p) c) := fun z => z.2 ((far_eq (h p (by omega)) hc).mp q2)
        rw [if_pos q2, if_neg hz, Int32.add_zero]
      · have hz : 0 < pu2 p ∧ ¬ farM (pc p) c := ⟨q, fun z => q2 ((far_eq (h p (by omega)) hc).mpr z)⟩
        rw [if_neg q2, if_pos hz]
    · have hz : ¬ (0 < pu2 p ∧ ¬ farM (pc p) c) := fun z => q z.1
      rw [if_neg q, if_neg hz, Int32.add_zero]
theorem sp_rng {kind cell mon val : Nat → Int32} {c kn tr : Int32} : ∀ K, (∀ k, k < K → inR (val k) 0 99) → (∃ a, a ≤ 200 ∧ mLo kind cell mon val c kn tr K = nI a) ∧ ∃ a, a ≤ 200 ∧ mHi kind cell mon val c kn tr K = nI a
  | 0, _ => ⟨⟨0, by decide, rfl⟩, 200, by decide, rfl⟩
  | n + 1, h => by
    obtain ⟨⟨a, ha, ea⟩, b, hb, eb⟩ := sp_rng n (kind := kind) (cell := cell) (mon := mon) (val := val) (c := c) (kn := kn) (tr := tr) (fun k hk => h k (by omega))
    obtain ⟨v, ev, hv⟩ := v99 (h n (by omega))
    have k1 : ∀ v, v < 100 → ∀ kd : Int32, ∃ x, x ≤ 200 ∧ mLeast kd (nI v) = nI x := by
      intro v hv kd
      unfold mLeast
      have key : ∀ v, v < 100 → (∃ x, x ≤ 200 ∧ 2 * nI v = nI x) ∧ (∃ x, x ≤ 200 ∧ mLk (nI v) = nI x) ∧ (∃ x, x ≤ 200 ∧ 2 * nI v / 4 = nI x) ∧ (∃ x, x ≤ 200 ∧ mLk (nI v) / 2 = nI x) ∧ (∃ x, x ≤ 200 ∧ (if 0 < nI v then (10 : Int32) else 0) = nI x) ∧ ∃ x, x ≤ 200 ∧ (if 0 < nI v then (1 : Int32) else 0) = nI x := by
        have dk : ∀ v, v < 100 → 2 * nI v = nI (2 * v) ∧ mLk (nI v) = nI (v - 15) ∧ 2 * nI v / 4 = nI (2 * v / 4) ∧ mLk (nI v) / 2 = nI ((v - 15) / 2) ∧ (if 0 < nI v then (10 : Int32) else 0) = nI (if 0 < v then 10 else 0) ∧ (if 0 < nI v then (1 : Int32) else 0) = nI (if 0 < v then 1 else 0) := by decide +kernel
        intro v hv
        obtain ⟨d1, d2, d3, d4, d5, d6⟩ := dk v hv
        exact ⟨⟨_, by omega, d1⟩, ⟨_, by omega, d2⟩, ⟨_, by omega, d3⟩, ⟨_, by omega, d4⟩, ⟨_, by split <;> omega, d5⟩, _, by split <;> omega, d6⟩
      obtain ⟨d1, d2, d3, d4, d5, d6⟩ := key v hv
      split
      · exact d1
      · split
        · exact d2
        · split
          · exact d3
          · split
            · exact d4
            · split
              · exact d5
              · exact d6
    have k2 : ∃ x, x ≤ 200 ∧ mMost (kind n) (val n) = nI x := by
      rw [ev]
      unfold mMost
      split
      · exact ⟨v + 15, by omega, nI_add v 15⟩
      · split
        · exact ⟨v + 40, by omega, nI_add v 40⟩
        · exact ⟨200, by decide, rfl⟩
    constructor
    · show ∃ a, a ≤ 200 ∧ (if cell n = c ∧ ¬ kn < mon n ∧ ¬ sTrust (kind n) < tr then (if mLo kind cell mon val c kn tr n < mLeast (kind n) (val n) then mLeast (kind n) (val n) else mLo kind cell mon val c kn tr n) else mLo kind cell mon val c kn tr n) = nI a
      split
      · split
        · rw [ev]; exact k1 v hv _
        · exact ⟨a, ha, ea⟩
      · exact ⟨a, ha, ea⟩
    · show ∃ a, a ≤ 200 ∧ (if cell n = c ∧ ¬ kn < mon n ∧ ¬ sTrust (kind n) < tr then (if mMost (kind n) (val n) < mHi kind cell mon val c kn tr n then mMost (kind n) (val n) else mHi kind cell mon val c kn tr n) else mHi kind cell mon val c kn tr n) = nI a
      split
      · split
        · exact k2
        · exact ⟨b, hb, eb⟩
      · exact ⟨b, hb, eb⟩
theorem sub_n {a b : Nat} (h : b ≤ a) : nI a - nI b = nI (a - b) := by
  obtain ⟨v, rfl⟩ : ∃ v, a = b + v := ⟨a - b, by omega⟩
  rw [nI_subp, Nat.add_sub_cancel_left]
theorem sub_neg {a b : Nat} (h : a < b) (hb : b ≤ 200) : nI a - nI b < 0 := by
  rw [Int32.lt_iff_toInt_lt, Int32.toInt_sub, nI_toInt (by omega), nI_toInt (by omega)]
  have e : ((a : Int) - b).bmod (2 ^ 32) = a - b := by apply Int.bmod_eq_of_le <;> omega
  rw [e]
  have : (0 : Int32).toInt = 0 := rfl
  omega
/-- doubt, as both count it -/
theorem db_eq {I J : Wd} {K : Nat} (hS : GS I J K) {c kn : Int32} : (if hiC I K c kn - loC I K c kn < 0 then 0 else hiC I K c kn - loC I K c kn) = dbM J K c kn := by
  have e1 := hS.lo (c := c) (kn := kn) (tr := 0)
  unfold hiC loC dbM
  rw [e1.1, e1.2]
  obtain ⟨⟨a, ha, ea⟩, b, hb, eb⟩ := sp_rng (kind := J 17) (cell := J 18) (mon := J 19) (val := sVal (J 22) (J 21) (J 20) kn) (c := c) (kn := kn) (tr := 0) K (fun k hk => sVal_in hS hk)
  rw [ea, eb]
  by_cases q : a < b
  · rw [sub_n (Nat.le_of_lt q), if_neg (nI_pos (by omega)), if_pos (nI_lt q (by omega))]
  · rw [if_neg (fun z => q (lt_n z (by omega) (by omega)))]
    by_cases e : b < a
    · rw [if_pos (sub_neg e ha)]
    · have : a = b := by omega
      subst this
      rw [sub_n (Nat.le_refl a), Nat.sub_self]
      rfl
theorem fct_eq {I J : Wd} {N P K : Nat} (hB : GB I J N P) (hS : GS I J K) {c kn : Int32} (hc : vp_in c 64) : fctC I K N P c kn = fctM J K N P c kn := by
  obtain ⟨⟨⟨n1, n2, n3⟩, p1, p2, p3⟩, ⟨u1, u2, u3, u4⟩, ⟨cc, cr⟩, ⟨m, m1, m2, m3, m4⟩, ⟨r1, r2, r3⟩, g6, g7, g8, g9, g10, g11, g12, g13⟩ := id hB
  have e1 := hS.lo (c := c) (kn := kn) (tr := 0)
  unfold fctC fctM
  obtain ⟨z1, z2, z3, z4⟩ := cc _ (vp_lt hc)
  have zf : feF (I 10) c kn = feF (J 4) c kn := by unfold feF; rw [z4]
  rw [db_eq hS, sPeople_eq N g6, npM_eq hc P g13 g9, u1, u3, u4, z1, zf]
  unfold hiC loC loM hiM
  rw [e1.1, e1.2]
theorem GT.rule {I J : Wd} {K N P : Nat} (hT : GT I J) (hB : GB I J N P) (hS : GS I J K) : ∃ R cc E, RH I K N P R cc E ∧ LM J R (vT cc E) ∧ RM J K N P := by
  obtain ⟨⟨⟨n1, n2, n3⟩, p1, p2, p3⟩, ⟨u1, u2, u3, u4⟩, ⟨cc, cr⟩, ⟨m, m1, m2, m3, m4⟩, ⟨r1, r2, r3⟩, g6, g7, g8, g9, g10, g11, g12, g13⟩ := id hB
  obtain ⟨⟨s1, s2, s3⟩, ⟨t1, t2, t3, t4, t5, t6⟩, s4, s5⟩ := id hS
  obtain ⟨X, R, tn, x1, x2, x3, x4, x5, x6, x7, x8, x9, x10, x11, x12⟩ := hT
  obtain ⟨cc, E, y1, y2, y3, y4⟩ := x12 R x7
  refine ⟨R, cc, E, ⟨⟨s1, s3⟩, ⟨n1, n3⟩, ⟨p1, p3⟩, ⟨x5, by omega⟩, y1, y2⟩, ⟨x6, by omega, fun f g hfg p hp => vT_congr hfg, y3, fun hR1 => ?_⟩, ⟨s2, s3⟩, ⟨n2, n3⟩, p2, p3⟩
  obtain ⟨n, b, kd, nm, pl, T, z1, z2, z3, z4, z5⟩ := y4 hR1
  exact ⟨n, b, kd, nm, pl, T, z1, z2, z3, z4, (keep_sim z2 z4 z5).2⟩
theorem vLaw_eq {mo c part kn : Int32} {V W : Nat → Int32} (h : inR c 0 63 → ∀ p, p < 3 → V p = W p) : vLaw mo c part kn V = vLaw mo c part kn W := by
  unfold vLaw
  by_cases q : inR c 0 63 ∧ inR part 0 2 ∧ inR kn 0 mo
  · obtain ⟨p, rfl, hp⟩ := part3 q.2.1
    rw [if_pos q, if_pos q, nI_clamp (by omega), h q.1 p hp]
  · rw [if_neg q, if_neg q]
theorem mvC_eq {pp pp2 V W : Nat → Int32} : ∀ n, (∀ c, c < n → pp c = pp2 c ∧ V c = W c) → mvC pp V n = mvC pp2 W n
  | 0, _ => rfl
  | n + 1, h => by
    show (if 0 < pp n ∧ ¬ V n = 0 then mvC pp V n ||| ((1 : Int64) <<< ((nI n).toInt64 &&& 63)) else mvC pp V n) = (if 0 < pp2 n ∧ ¬ W n = 0 then mvC pp2 W n ||| ((1 : Int64) <<< ((nI n).toInt64 &&& 63)) else mvC pp2 W n)
    rw [mvC_eq n (fun c hc => h c (by omega)), (h n (by omega)).1, (h n (by omega)).2]
theorem i64n {k : Nat} (h : k < 2 ^ 31) : (nI k).toInt64 = lN k := nI_l h
theorem lN_div {a b : Nat} (ha : a < 2 ^ 31) (hb : b < 2 ^ 31) : lN a / lN b = lN (a / b) := by
  apply Int64.toInt_inj.mp
  have hd : a / b < 2 ^ 31 := Nat.lt_of_le_of_lt (Nat.div_le_self a b) ha
  rw [Int64.toInt_div, lN_toInt ha, lN_toInt hb, lN_toInt hd]
  have e : (a : Int).tdiv b = ((a / b : Nat) : Int) := by rw [Int.tdiv_eq_ediv_of_nonneg (by omega)]; rfl
  rw [e]
  clear e
  generalize a / b = q at hd ⊢
  apply Int.bmod_eq_of_le <;> omega
theorem nI_div {a b : Nat} (ha : a < 2 ^ 31) (hb : b < 2 ^ 31) : nI a / nI b = nI (a / b) := by
  apply Int32.toInt_inj.mp
  have hd : a / b < 2 ^ 31 := Nat.lt_of_le_of_lt (Nat.div_le_self a b) ha
  rw [Int32.toInt_div, nI_toInt ha, nI_toInt hb, nI_toInt hd]
  have e : (a : Int).tdiv b = ((a / b : Nat) : Int) := by rw [Int.tdiv_eq_ediv_of_nonneg (by omega)]; rfl
  rw [e]
  clear e
  generalize a / b = q at hd ⊢
  apply Int.bmod_eq_of_le <;> omega
theorem firm_eq {H k : Nat} {ow : Int32} (hH : H ≤ 200000) (hk : k ≤ 99) (e : clp ow = nI k) : (firmC (nI H) ow).toInt64 = firmM (nI H) ow ∧ (nI H - firmC (nI H) ow).toInt64 = (nI H).toInt64 - firmM (nI H) ow := by
  have hm : H * k ≤ 200000 * 99 := Nat.mul_le_mul hH hk
  have hd : H * k / (k + 1) ≤ H := by
    apply Nat.div_le_of_le_mul
    rw [Nat.add_mul, Nat.one_mul, Nat.mul_comm k H]
    omega
  have e1 : firmC (nI H) ow = nI (H * k / (k + 1)) := by
    unfold firmC
    rw [e, pk_mul, nI_1, nI_div (by omega) (by omega)]
  have e2 : firmM (nI H) ow = lN (H * k / (k + 1)) := by
    unfold firmM
    rw [e, nI_1, i64n (by omega), i64n (by omega), i64n (by omega), lN_mul, lN_div (by omega) (by omega)]
  rw [e1, e2]
  clear e1 e2
  generalize H * k / (k + 1) = D at hd ⊢
  rw [sub_n hd, i64n (by omega), i64n (by omega), i64n (by omega), lN_sub hd]
  exact ⟨rfl, rfl⟩
theorem harm_n {w p : Nat → Int32} {aw : Nat → Int32} {h : Nat} (hw : inR (w h) 1 99999) (hp : inR (p h) 0 99) : ∃ H, sHarm w p aw h = nI H ∧ H ≤ 200000 := by
  obtain ⟨a, ea, a1, a2, a3, a4⟩ := nI_rng2 hw (by decide)
  obtain ⟨b, eb, hb⟩ := v99 hp
  have : (99999 : Int32).toInt = 99999 := rfl
  unfold sHarm
  rw [ea, eb]
  split
  · exact ⟨a + 1000 * b, by rw [show (1000 : Int32) = nI 1000 from rfl, pk_mul, nI_add], by omega⟩
  · exact ⟨a, Int32.add_zero _, by omega⟩
set_option maxHeartbeats 2000000 in
theorem k_law {I J : Wd} (h : Rel I J) (c part kn : Int32) : CallOK mX10_law mX11_law [.int c, .int part, .int kn] I J := by
  obtain ⟨N, P, K, L, Wn, hB, hS, hL, hW, hF, hT, hO, hK, hH, hC⟩ := h
  have hR : Rel I J := ⟨N, P, K, L, Wn, hB, hS, hL, hW, hF, hT, hO, hK, hH, hC⟩
  obtain ⟨⟨⟨n1, n2, n3⟩, p1, p2, p3⟩, ⟨u1, u2, u3, u4⟩, ⟨cc, cr⟩, ⟨m, m1, m2, m3, m4⟩, ⟨r1, r2, r3⟩, g6, g7, g8, g9, g10, g11, g12, g13⟩ := id hB
  obtain ⟨R, cc, E, q1, q2, q3⟩ := hT.rule hB hS
  obtain ⟨_, I', ⟨rfl, f8⟩, k1⟩ := q_law (c := c) (part := part) (kn := kn) q1
  obtain ⟨_, J', ⟨rfl, g8b⟩, k2⟩ := q_lawM (c := c) (part := part) (kn := kn) q3 q2
  refine CallOK.mk (by decide) (by decide) k1 k2 ?_ ⟨N, P, K, L, Wn, hB.fr (fun a a1 a2 => (by first | rfl | exact f8 _ (by omega) (by omega) | rw [f8 _ (by decide) (by decide)] | exact g8b.1 _ (by omega) (by omega) | rw [g8b.1 _ (by decide) (by omega)] | exact g8b.2 _ (by omega) (by omega) (by omega))) (fun a a1 a2 a3 a4 a5 => (by first | rfl | exact f8 _ (by omega) (by omega) | rw [f8 _ (by decide) (by decide)] | exact g8b.1 _ (by omega) (by omega) | rw [g8b.1 _ (by decide) (by omega)] | exact g8b.2 _ (by omega) (by omega) (by omega))) (fun j j1 => (by first | rfl | exact f8 _ (by omega) (by omega) | rw [f8 _ (by decide) (by decide)] | exact g8b.1 _ (by omega) (by omega) | rw [g8b.1 _ (by decide) (by omega)] | exact g8b.2 _ (by omega) (by omega) (by omega))), hS.fr (fun a a1 a2 => (by first | rfl | exact f8 _ (by omega) (by omega) | rw [f8 _ (by decide) (by decide)] | exact g8b.1 _ (by omega) (by omega) | rw [g8b.1 _ (by decide) (by omega)] | exact g8b.2 _ (by omega) (by omega) (by omega))) (fun a a1 a2 => (by first | rfl | exact f8 _ (by omega) (by omega) | rw [f8 _ (by decide) (by decide)] | exact g8b.1 _ (by omega) (by omega) | rw [g8b.1 _ (by decide) (by omega)] | exact g8b.2 _ (by omega) (by omega) (by omega))) (by first | rfl | exact f8 _ (by omega) (by omega) | rw [f8 _ (by decide) (by decide)] | exact g8b.1 _ (by omega) (by omega) | rw [g8b.1 _ (by decide) (by omega)] | exact g8b.2 _ (by omega) (by omega) (by omega)), hL.fr (fun a a1 a2 => (by first | rfl | exact f8 _ (by omega) (by omega) | rw [f8 _ (by decide) (by decide)] | exact g8b.1 _ (by omega) (by omega) | rw [g8b.1 _ (by decide) (by omega)] | exact g8b.2 _ (by omega) (by omega) (by omega))) (fun a a1 a2 => (by first | rfl | exact f8 _ (by omega) (by omega) | rw [f8 _ (by decide) (by decide)] | exact g8b.1 _ (by omega) (by omega) | rw [g8b.1 _ (by decide) (by omega)] | exact g8b.2 _ (by omega) (by omega) (by omega))) (by first | rfl | exact f8 _ (by omega) (by omega) | rw [f8 _ (by decide) (by decide)] | exact g8b.1 _ (by omega) (by omega) | rw [g8b.1 _ (by decide) (by omega)] | exact g8b.2 _ (by omega) (by omega) (by omega)), hW.fr (fun a a1 a2 => (by first | rfl | exact f8 _ (by omega) (by omega) | rw [f8 _ (by decide) (by decide)] | exact g8b.1 _ (by omega) (by omega) | rw [g8b.1 _ (by decide) (by omega)] | exact g8b.2 _ (by omega) (by omega) (by omega))) (fun a a1 a2 => (by first | rfl | exact f8 _ (by omega) (by omega) | rw [f8 _ (by decide) (by decide)] | exact g8b.1 _ (by omega) (by omega) | rw [g8b.1 _ (by decide) (by omega)] | exact g8b.2 _ (by omega) (by omega) (by omega))) (by first | rfl | exact f8 _ (by omega) (by omega) | rw [f8 _ (by decide) (by decide)] | exact g8b.1 _ (by omega) (by omega) | rw [g8b.1 _ (by decide) (by omega)] | exact g8b.2 _ (by omega) (by omega) (by omega)), hF.fr (fun a a1 a2 => (by first | rfl | exact f8 _ (by omega) (by omega) | rw [f8 _ (by decide) (by decide)] | exact g8b.1 _ (by omega) (by omega) | rw [g8b.1 _ (by decide) (by omega)] | exact g8b.2 _ (by omega) (by omega) (by omega))) (fun a a1 a2 => (by first | rfl | exact f8 _ (by omega) (by omega) | rw [f8 _ (by decide) (by decide)] | exact g8b.1 _ (by omega) (by omega) | rw [g8b.1 _ (by decide) (by omega)] | exact g8b.2 _ (by omega) (by omega) (by omega))) (fun j j1 j2 => (by first | rfl | exact f8 _ (by omega) (by omega) | rw [f8 _ (by decide) (by decide)] | exact g8b.1 _ (by omega) (by omega) | rw [g8b.1 _ (by decide) (by omega)] | exact g8b.2 _ (by omega) (by omega) (by omega))), hT.fr (fun a a1 => (by first | rfl | exact f8 _ (by omega) (by omega) | rw [f8 _ (by decide) (by decide)] | exact g8b.1 _ (by omega) (by omega) | rw [g8b.1 _ (by decide) (by omega)] | exact g8b.2 _ (by omega) (by omega) (by omega))) (fun a a1 a2 => (by first | rfl | exact f8 _ (by omega) (by omega) | rw [f8 _ (by decide) (by decide)] | exact g8b.1 _ (by omega) (by omega) | rw [g8b.1 _ (by decide) (by omega)] | exact g8b.2 _ (by omega) (by omega) (by omega))) (fun j j1 j2 => (by first | rfl | exact f8 _ (by omega) (by omega) | rw [f8 _ (by decide) (by decide)] | exact g8b.1 _ (by omega) (by omega) | rw [g8b.1 _ (by decide) (by omega)] | exact g8b.2 _ (by omega) (by omega) (by omega))), hO.fr (fun j j1 j2 => (by first | rfl | exact f8 _ (by omega) (by omega) | rw [f8 _ (by decide) (by decide)] | exact g8b.1 _ (by omega) (by omega) | rw [g8b.1 _ (by decide) (by omega)] | exact g8b.2 _ (by omega) (by omega) (by omega))) (by first | rfl | exact f8 _ (by omega) (by omega) | rw [f8 _ (by decide) (by decide)] | exact g8b.1 _ (by omega) (by omega) | rw [g8b.1 _ (by decide) (by omega)] | exact g8b.2 _ (by omega) (by omega) (by omega)) (by first | rfl | exact f8 _ (by omega) (by omega) | rw [f8 _ (by decide) (by decide)] | exact g8b.1 _ (by omega) (by omega) | rw [g8b.1 _ (by decide) (by omega)] | exact g8b.2 _ (by omega) (by omega) (by omega)), hK.fr (by first | rfl | exact f8 _ (by omega) (by omega) | rw [f8 _ (by decide) (by decide)] | exact g8b.1 _ (by omega) (by omega) | rw [g8b.1 _ (by decide) (by omega)] | exact g8b.2 _ (by omega) (by omega) (by omega)) (fun a a1 a2 => (by first | rfl | exact f8 _ (by omega) (by omega) | rw [f8 _ (by decide) (by decide)] | exact g8b.1 _ (by omega) (by omega) | rw [g8b.1 _ (by decide) (by omega)] | exact g8b.2 _ (by omega) (by omega) (by omega))) (fun x x1 => (by first | rfl | exact f8 _ (by omega) (by omega) | rw [f8 _ (by decide) (by decide)] | exact g8b.1 _ (by omega) (by omega) | rw [g8b.1 _ (by decide) (by omega)] | exact g8b.2 _ (by omega) (by omega) (by omega))) (fun j j1 j2 => (by first | rfl | exact f8 _ (by omega) (by omega) | rw [f8 _ (by decide) (by decide)] | exact g8b.1 _ (by omega) (by omega) | rw [g8b.1 _ (by decide) (by omega)] | exact g8b.2 _ (by omega) (by omega) (by omega))), hH.fr (fun a a1 a2 => (by first | rfl | exact f8 _ (by omega) (by omega) | rw [f8 _ (by decide) (by decide)] | exact g8b.1 _ (by omega) (by omega) | rw [g8b.1 _ (by decide) (by omega)] | exact g8b.2 _ (by omega) (by omega) (by omega))) (fun a a1 a2 => (by first | rfl | exact f8 _ (by omega) (by omega) | rw [f8 _ (by decide) (by decide)] | exact g8b.1 _ (by omega) (by omega) | rw [g8b.1 _ (by decide) (by omega)] | exact g8b.2 _ (by omega) (by omega) (by omega))), hC.fr (fun a a1 => (by first | rfl | exact f8 _ (by omega) (by omega) | rw [f8 _ (by decide) (by decide)] | exact g8b.1 _ (by omega) (by omega) | rw [g8b.1 _ (by decide) (by omega)] | exact g8b.2 _ (by omega) (by omega) (by omega)))⟩
  rw [m1, m2]
  exact congrArg (fun q => Value.long q) (vLaw_eq (fun hc p hp => by rw [fct_eq hB hS (cel hc).1]))
set_option maxHeartbeats 2000000 in
theorem k_moved {I J : Wd} (h : Rel I J) (kn : Int32) : CallOK mX10_moved mX11_moved [.int kn] I J := by
  obtain ⟨N, P, K, L, Wn, hB, hS, hL, hW, hF, hT, hO, hK, hH, hC⟩ := h
  have hR : Rel I J := ⟨N, P, K, L, Wn, hB, hS, hL, hW, hF, hT, hO, hK, hH, hC⟩
  obtain ⟨⟨⟨n1, n2, n3⟩, p1, p2, p3⟩, ⟨u1, u2, u3, u4⟩, ⟨cc, cr⟩, ⟨m, m1, m2, m3, m4⟩, ⟨r1, r2, r3⟩, g6, g7, g8, g9, g10, g11, g12, g13⟩ := id hB
  obtain ⟨R, cc, E, q1, q2, q3⟩ := hT.rule hB hS
  obtain ⟨_, I', ⟨rfl, f8⟩, k1⟩ := q_moved (kn := kn) q1
  obtain ⟨_, J', ⟨rfl, g8b⟩, k2⟩ := q_movedM (kn := kn) q3 q2
  refine CallOK.mk (by decide) (by decide) k1 k2 ?_ ⟨N, P, K, L, Wn, hB.fr (fun a a1 a2 => (by first | rfl | exact f8 _ (by omega) (by omega) | rw [f8 _ (by decide) (by decide)] | exact g8b.1 _ (by omega) (by omega) | rw [g8b.1 _ (by decide) (by omega)] | exact g8b.2 _ (by omega) (by omega) (by omega))) (fun a a1 a2 a3 a4 a5 => (by first | rfl | exact f8 _ (by omega) (by omega) | rw [f8 _ (by decide) (by decide)] | exact g8b.1 _ (by omega) (by omega) | rw [g8b.1 _ (by decide) (by omega)] | exact g8b.2 _ (by omega) (by omega) (by omega))) (fun j j1 => (by first | rfl | exact f8 _ (by omega) (by omega) | rw [f8 _ (by decide) (by decide)] | exact g8b.1 _ (by omega) (by omega) | rw [g8b.1 _ (by decide) (by omega)] | exact g8b.2 _ (by omega) (by omega) (by omega))), hS.fr (fun a a1 a2 => (by first | rfl | exact f8 _ (by omega) (by omega) | rw [f8 _ (by decide) (by decide)] | exact g8b.1 _ (by omega) (by omega) | rw [g8b.1 _ (by decide) (by omega)] | exact g8b.2 _ (by omega) (by omega) (by omega))) (fun a a1 a2 => (by first | rfl | exact f8 _ (by omega) (by omega) | rw [f8 _ (by decide) (by decide)] | exact g8b.1 _ (by omega) (by omega) | rw [g8b.1 _ (by decide) (by omega)] | exact g8b.2 _ (by omega) (by omega) (by omega))) (by first | rfl | exact f8 _ (by omega) (by omega) | rw [f8 _ (by decide) (by decide)] | exact g8b.1 _ (by omega) (by omega) | rw [g8b.1 _ (by decide) (by omega)] | exact g8b.2 _ (by omega) (by omega) (by omega)), hL.fr (fun a a1 a2 => (by first | rfl | exact f8 _ (by omega) (by omega) | rw [f8 _ (by decide) (by decide)] | exact g8b.1 _ (by omega) (by omega) | rw [g8b.1 _ (by decide) (by omega)] | exact g8b.2 _ (by omega) (by omega) (by omega))) (fun a a1 a2 => (by first | rfl | exact f8 _ (by omega) (by omega) | rw [f8 _ (by decide) (by decide)] | exact g8b.1 _ (by omega) (by omega) | rw [g8b.1 _ (by decide) (by omega)] | exact g8b.2 _ (by omega) (by omega) (by omega))) (by first | rfl | exact f8 _ (by omega) (by omega) | rw [f8 _ (by decide) (by decide)] | exact g8b.1 _ (by omega) (by omega) | rw [g8b.1 _ (by decide) (by omega)] | exact g8b.2 _ (by omega) (by omega) (by omega)), hW.fr (fun a a1 a2 => (by first | rfl | exact f8 _ (by omega) (by omega) | rw [f8 _ (by decide) (by decide)] | exact g8b.1 _ (by omega) (by omega) | rw [g8b.1 _ (by decide) (by omega)] | exact g8b.2 _ (by omega) (by omega) (by omega))) (fun a a1 a2 => (by first | rfl | exact f8 _ (by omega) (by omega) | rw [f8 _ (by decide) (by decide)] | exact g8b.1 _ (by omega) (by omega) | rw [g8b.1 _ (by decide) (by omega)] | exact g8b.2 _ (by omega) (by omega) (by omega))) (by first | rfl | exact f8 _ (by omega) (by omega) | rw [f8 _ (by decide) (by decide)] | exact g8b.1 _ (by omega) (by omega) | rw [g8b.1 _ (by decide) (by omega)] | exact g8b.2 _ (by omega) (by omega) (by omega)), hF.fr (fun a a1 a2 => (by first | rfl | exact f8 _ (by omega) (by omega) | rw [f8 _ (by decide) (by decide)] | exact g8b.1 _ (by omega) (by omega) | rw [g8b.1 _ (by decide) (by omega)] | exact g8b.2 _ (by omega) (by omega) (by omega))) (fun a a1 a2 => (by first | rfl | exact f8 _ (by omega) (by omega) | rw [f8 _ (by decide) (by decide)] | exact g8b.1 _ (by omega) (by omega) | rw [g8b.1 _ (by decide) (by omega)] | exact g8b.2 _ (by omega) (by omega) (by omega))) (fun j j1 j2 => (by first | rfl | exact f8 _ (by omega) (by omega) | rw [f8 _ (by decide) (by decide)] | exact g8b.1 _ (by omega) (by omega) | rw [g8b.1 _ (by decide) (by omega)] | exact g8b.2 _ (by omega) (by omega) (by omega))), hT.fr (fun a a1 => (by first | rfl | exact f8 _ (by omega) (by omega) | rw [f8 _ (by decide) (by decide)] | exact g8b.1 _ (by omega) (by omega) | rw [g8b.1 _ (by decide) (by omega)] | exact g8b.2 _ (by omega) (by omega) (by omega))) (fun a a1 a2 => (by first | rfl | exact f8 _ (by omega) (by omega) | rw [f8 _ (by decide) (by decide)] | exact g8b.1 _ (by omega) (by omega) | rw [g8b.1 _ (by decide) (by omega)] | exact g8b.2 _ (by omega) (by omega) (by omega))) (fun j j1 j2 => (by first | rfl | exact f8 _ (by omega) (by omega) | rw [f8 _ (by decide) (by decide)] | exact g8b.1 _ (by omega) (by omega) | rw [g8b.1 _ (by decide) (by omega)] | exact g8b.2 _ (by omega) (by omega) (by omega))), hO.fr (fun j j1 j2 => (by first | rfl | exact f8 _ (by omega) (by omega) | rw [f8 _ (by decide) (by decide)] | exact g8b.1 _ (by omega) (by omega) | rw [g8b.1 _ (by decide) (by omega)] | exact g8b.2 _ (by omega) (by omega) (by omega))) (by first | rfl | exact f8 _ (by omega) (by omega) | rw [f8 _ (by decide) (by decide)] | exact g8b.1 _ (by omega) (by omega) | rw [g8b.1 _ (by decide) (by omega)] | exact g8b.2 _ (by omega) (by omega) (by omega)) (by first | rfl | exact f8 _ (by omega) (by omega) | rw [f8 _ (by decide) (by decide)] | exact g8b.1 _ (by omega) (by omega) | rw [g8b.1 _ (by decide) (by omega)] | exact g8b.2 _ (by omega) (by omega) (by omega)), hK.fr (by first | rfl | exact f8 _ (by omega) (by omega) | rw [f8 _ (by decide) (by decide)] | exact g8b.1 _ (by omega) (by omega) | rw [g8b.1 _ (by decide) (by omega)] | exact g8b.2 _ (by omega) (by omega) (by omega)) (fun a a1 a2 => (by first | rfl | exact f8 _ (by omega) (by omega) | rw [f8 _ (by decide) (by decide)] | exact g8b.1 _ (by omega) (by omega) | rw [g8b.1 _ (by decide) (by omega)] | exact g8b.2 _ (by omega) (by omega) (by omega))) (fun x x1 => (by first | rfl | exact f8 _ (by omega) (by omega) | rw [f8 _ (by decide) (by decide)] | exact g8b.1 _ (by omega) (by omega) | rw [g8b.1 _ (by decide) (by omega)] | exact g8b.2 _ (by omega) (by omega) (by omega))) (fun j j1 j2 => (by first | rfl | exact f8 _ (by omega) (by omega) | rw [f8 _ (by decide) (by decide)] | exact g8b.1 _ (by omega) (by omega) | rw [g8b.1 _ (by decide) (by omega)] | exact g8b.2 _ (by omega) (by omega) (by omega))), hH.fr (fun a a1 a2 => (by first | rfl | exact f8 _ (by omega) (by omega) | rw [f8 _ (by decide) (by decide)] | exact g8b.1 _ (by omega) (by omega) | rw [g8b.1 _ (by decide) (by omega)] | exact g8b.2 _ (by omega) (by omega) (by omega))) (fun a a1 a2 => (by first | rfl | exact f8 _ (by omega) (by omega) | rw [f8 _ (by decide) (by decide)] | exact g8b.1 _ (by omega) (by omega) | rw [g8b.1 _ (by decide) (by omega)] | exact g8b.2 _ (by omega) (by omega) (by omega))), hC.fr (fun a a1 => (by first | rfl | exact f8 _ (by omega) (by omega) | rw [f8 _ (by decide) (by decide)] | exact g8b.1 _ (by omega) (by omega) | rw [g8b.1 _ (by decide) (by omega)] | exact g8b.2 _ (by omega) (by omega) (by omega)))⟩
  rw [m1, m2]
  have e : mvC (ppC I N) (fun c => vT cc E (fctC I K N P (nI c) kn) 1) 64 = mvC (ppM J N) (fun c => vT cc E (fctM J K N P (nI c) kn) 1) 64 := mvC_eq 64 (fun c hc => ⟨by unfold ppC ppM; rw [sPeople_eq N g6, u1, u3], by show vT cc E (fctC I K N P (nI c) kn) 1 = _; rw [fct_eq hB hS (vpn rfl hc (by decide))]⟩)
  rw [e]
theorem vPart_eq {nh h what : Int32} {g g2 : Nat → Int32} {f1 : Int32} {f2 : Int64} {hm : Int32} (hg : inR h 0 (nh - 1) → g h.toNatClampNeg = g2 h.toNatClampNeg ∧ f1.toInt64 = f2 ∧ (hm - f1).toInt64 = hm.toInt64 - f2) : vPart nh h what g f1 hm = vPartM nh h what g2 f2 hm := by
  unfold vPart vPartM
  by_cases q : inR h 0 (nh - 1) ∧ inR what 0 1
  · obtain ⟨a1, a2, a3⟩ := hg q.1
    rw [if_pos q, if_pos q, a1, a2, a3]
  · rw [if_neg q, if_neg q]
set_option maxHeartbeats 2000000 in
theorem k_part {I J : Wd} (h : Rel I J) (x what : Int32) : CallOK mX10_part mX11_part [.int x, .int what] I J := by
  obtain ⟨N, P, K, L, Wn, hB, hS, hL, hW, hF, hT, hO, hK, hH, hC⟩ := h
  have hR : Rel I J := ⟨N, P, K, L, Wn, hB, hS, hL, hW, hF, hT, hO, hK, hH, hC⟩
  obtain ⟨⟨⟨n1, n2, n3⟩, p1, p2, p3⟩, ⟨u1, u2, u3, u4⟩, ⟨cc, cr⟩, ⟨m, m1, m2, m3, m4⟩, ⟨r1, r2, r3⟩, g6, g7, g8, g9, g10, g11, g12, g13⟩ := id hB
  obtain ⟨R, cc, E, q1, q2, q3⟩ := hT.rule hB hS
  obtain ⟨_, I', ⟨rfl, f8⟩, k1⟩ := q_part (h := x) (what := what) q1 (fun i hi => (g12 i hi).1)
  obtain ⟨_, J', ⟨rfl, g8b⟩, k2⟩ := q_partM (h := x) (what := what) q3 q2 (fun i hi => by rw [← u1]; exact (g12 i hi).1)
  refine CallOK.mk (by decide) (by decide) k1 k2 ?_ ⟨N, P, K, L, Wn, hB.fr (fun a a1 a2 => (by first | rfl | exact f8 _ (by omega) (by omega) | rw [f8 _ (by decide) (by decide)] | exact g8b.1 _ (by omega) (by omega) | rw [g8b.1 _ (by decide) (by omega)] | exact g8b.2 _ (by omega) (by omega) (by omega))) (fun a a1 a2 a3 a4 a5 => (by first | rfl | exact f8 _ (by omega) (by omega) | rw [f8 _ (by decide) (by decide)] | exact g8b.1 _ (by omega) (by omega) | rw [g8b.1 _ (by decide) (by omega)] | exact g8b.2 _ (by omega) (by omega) (by omega))) (fun j j1 => (by first | rfl | exact f8 _ (by omega) (by omega) | rw [f8 _ (by decide) (by decide)] | exact g8b.1 _ (by omega) (by omega) | rw [g8b.1 _ (by decide) (by omega)] | exact g8b.2 _ (by omega) (by omega) (by omega))), hS.fr (fun a a1 a2 => (by first | rfl | exact f8 _ (by omega) (by omega) | rw [f8 _ (by decide) (by decide)] | exact g8b.1 _ (by omega) (by omega) | rw [g8b.1 _ (by decide) (by omega)] | exact g8b.2 _ (by omega) (by omega) (by omega))) (fun a a1 a2 => (by first | rfl | exact f8 _ (by omega) (by omega) | rw [f8 _ (by decide) (by decide)] | exact g8b.1 _ (by omega) (by omega) | rw [g8b.1 _ (by decide) (by omega)] | exact g8b.2 _ (by omega) (by omega) (by omega))) (by first | rfl | exact f8 _ (by omega) (by omega) | rw [f8 _ (by decide) (by decide)] | exact g8b.1 _ (by omega) (by omega) | rw [g8b.1 _ (by decide) (by omega)] | exact g8b.2 _ (by omega) (by omega) (by omega)), hL.fr (fun a a1 a2 => (by first | rfl | exact f8 _ (by omega) (by omega) | rw [f8 _ (by decide) (by decide)] | exact g8b.1 _ (by omega) (by omega) | rw [g8b.1 _ (by decide) (by omega)] | exact g8b.2 _ (by omega) (by omega) (by omega))) (fun a a1 a2 => (by first | rfl | exact f8 _ (by omega) (by omega) | rw [f8 _ (by decide) (by decide)] | exact g8b.1 _ (by omega) (by omega) | rw [g8b.1 _ (by decide) (by omega)] | exact g8b.2 _ (by omega) (by omega) (by omega))) (by first | rfl | exact f8 _ (by omega) (by omega) | rw [f8 _ (by decide) (by decide)] | exact g8b.1 _ (by omega) (by omega) | rw [g8b.1 _ (by decide) (by omega)] | exact g8b.2 _ (by omega) (by omega) (by omega)), hW.fr (fun a a1 a2 => (by first | rfl | exact f8 _ (by omega) (by omega) | rw [f8 _ (by decide) (by decide)] | exact g8b.1 _ (by omega) (by omega) | rw [g8b.1 _ (by decide) (by omega)] | exact g8b.2 _ (by omega) (by omega) (by omega))) (fun a a1 a2 => (by first | rfl | exact f8 _ (by omega) (by omega) | rw [f8 _ (by decide) (by decide)] | exact g8b.1 _ (by omega) (by omega) | rw [g8b.1 _ (by decide) (by omega)] | exact g8b.2 _ (by omega) (by omega) (by omega))) (by first | rfl | exact f8 _ (by omega) (by omega) | rw [f8 _ (by decide) (by decide)] | exact g8b.1 _ (by omega) (by omega) | rw [g8b.1 _ (by decide) (by omega)] | exact g8b.2 _ (by omega) (by omega) (by omega)), hF.fr (fun a a1 a2 => (by first | rfl | exact f8 _ (by omega) (by omega) | rw [f8 _ (by decide) (by decide)] | exact g8b.1 _ (by omega) (by omega) | rw [g8b.1 _ (by decide) (by omega)] | exact g8b.2 _ (by omega) (by omega) (by omega))) (fun a a1 a2 => (by first | rfl | exact f8 _ (by omega) (by omega) | rw [f8 _ (by decide) (by decide)] | exact g8b.1 _ (by omega) (by omega) | rw [g8b.1 _ (by decide) (by omega)] | exact g8b.2 _ (by omega) (by omega) (by omega))) (fun j j1 j2 => (by first | rfl | exact f8 _ (by omega) (by omega) | rw [f8 _ (by decide) (by decide)] | exact g8b.1 _ (by omega) (by omega) | rw [g8b.1 _ (by decide) (by omega)] | exact g8b.2 _ (by omega) (by omega) (by omega))), hT.fr (fun a a1 => (by first | rfl | exact f8 _ (by omega) (by omega) | rw [f8 _ (by decide) (by decide)] | exact g8b.1 _ (by omega) (by omega) | rw [g8b.1 _ (by decide) (by omega)] | exact g8b.2 _ (by omega) (by omega) (by omega))) (fun a a1 a2 => (by first | rfl | exact f8 _ (by omega) (by omega) | rw [f8 _ (by decide) (by decide)] | exact g8b.1 _ (by omega) (by omega) | rw [g8b.1 _ (by decide) (by omega)] | exact g8b.2 _ (by omega) (by omega) (by omega))) (fun j j1 j2 => (by first | rfl | exact f8 _ (by omega) (by omega) | rw [f8 _ (by decide) (by decide)] | exact g8b.1 _ (by omega) (by omega) | rw [g8b.1 _ (by decide) (by omega)] | exact g8b.2 _ (by omega) (by omega) (by omega))), hO.fr (fun j j1 j2 => (by first | rfl | exact f8 _ (by omega) (by omega) | rw [f8 _ (by decide) (by decide)] | exact g8b.1 _ (by omega) (by omega) | rw [g8b.1 _ (by decide) (by omega)] | exact g8b.2 _ (by omega) (by omega) (by omega))) (by first | rfl | exact f8 _ (by omega) (by omega) | rw [f8 _ (by decide) (by decide)] | exact g8b.1 _ (by omega) (by omega) | rw [g8b.1 _ (by decide) (by omega)] | exact g8b.2 _ (by omega) (by omega) (by omega)) (by first | rfl | exact f8 _ (by omega) (by omega) | rw [f8 _ (by decide) (by decide)] | exact g8b.1 _ (by omega) (by omega) | rw [g8b.1 _ (by decide) (by omega)] | exact g8b.2 _ (by omega) (by omega) (by omega)), hK.fr (by first | rfl | exact f8 _ (by omega) (by omega) | rw [f8 _ (by decide) (by decide)] | exact g8b.1 _ (by omega) (by omega) | rw [g8b.1 _ (by decide) (by omega)] | exact g8b.2 _ (by omega) (by omega) (by omega)) (fun a a1 a2 => (by first | rfl | exact f8 _ (by omega) (by omega) | rw [f8 _ (by decide) (by decide)] | exact g8b.1 _ (by omega) (by omega) | rw [g8b.1 _ (by decide) (by omega)] | exact g8b.2 _ (by omega) (by omega) (by omega))) (fun x x1 => (by first | rfl | exact f8 _ (by omega) (by omega) | rw [f8 _ (by decide) (by decide)] | exact g8b.1 _ (by omega) (by omega) | rw [g8b.1 _ (by decide) (by omega)] | exact g8b.2 _ (by omega) (by omega) (by omega))) (fun j j1 j2 => (by first | rfl | exact f8 _ (by omega) (by omega) | rw [f8 _ (by decide) (by decide)] | exact g8b.1 _ (by omega) (by omega) | rw [g8b.1 _ (by decide) (by omega)] | exact g8b.2 _ (by omega) (by omega) (by omega))), hH.fr (fun a a1 a2 => (by first | rfl | exact f8 _ (by omega) (by omega) | rw [f8 _ (by decide) (by decide)] | exact g8b.1 _ (by omega) (by omega) | rw [g8b.1 _ (by decide) (by omega)] | exact g8b.2 _ (by omega) (by omega) (by omega))) (fun a a1 a2 => (by first | rfl | exact f8 _ (by omega) (by omega) | rw [f8 _ (by decide) (by decide)] | exact g8b.1 _ (by omega) (by omega) | rw [g8b.1 _ (by decide) (by omega)] | exact g8b.2 _ (by omega) (by omega) (by omega))), hC.fr (fun a a1 => (by first | rfl | exact f8 _ (by omega) (by omega) | rw [f8 _ (by decide) (by decide)] | exact g8b.1 _ (by omega) (by omega) | rw [g8b.1 _ (by decide) (by omega)] | exact g8b.2 _ (by omega) (by omega) (by omega)))⟩
  rw [n1, n2]
  by_cases hx : inR x 0 (nI N - 1)
  · obtain ⟨i, e, hi, hc⟩ := hix (by omega) hx
    rw [hc]
    have e1 : sHarm (J 11) (J 12) (J 16) i = sHarm (I 3) (I 4) (I 15) i := by unfold sHarm; rw [u2, u3, (g6 i hi).2]
    rw [e1, ← u1, ← (g6 i hi).1, ← fct_eq hB hS (g12 i hi).1]
    obtain ⟨H, eH, hH⟩ := harm_n (aw := I 15) (g12 i hi).2.1 (g12 i hi).2.2
    obtain ⟨k, ek, hk⟩ := clp_in (vT cc E (fctC I K N P (I 2 i) (I 14 i)) 2)
    rw [eH]
    exact congrArg (fun q => Value.long q) (vPart_eq (fun _ => ⟨by rw [hc]; exact (g6 i hi).1, firm_eq hH hk ek⟩))
  · have z1 : ∀ f hm, vPart (nI N) x what (I 14) f hm = NOl := fun f hm => if_neg (fun q => hx q.1)
    have z2 : ∀ f hm, vPartM (nI N) x what (J 13) f hm = NOl := fun f hm => if_neg (fun q => hx q.1)
    rw [z1, z2]
