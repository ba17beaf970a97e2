/-! signs, spans, fits told, the rule, what is taken -/
theorem v99 {v : Int32} (h : inR v 0 99) : ∃ k, v = nI k ∧ k < 100 := by
  obtain ⟨j, e, h1, h2⟩ := nI_rng h
  exact ⟨j, e, by have : (99 : Int32).toInt = 99 := rfl; omega⟩
theorem lk_eq {v : Int32} (h : inR v 0 99) : sLk v = mLk v := by
  obtain ⟨k, rfl, hk⟩ := v99 h
  exact (show ∀ k, k < 100 → sLk (nI k) = mLk (nI k) by decide +kernel) k hk
theorem sLeast_eq {kind v : Int32} (h : inR v 0 99) : sLeast kind v = mLeast kind v := by
  unfold sLeast mLeast sSg
  rw [lk_eq h]
  by_cases q : 0 < v
  · simp only [if_pos q]; rfl
  · simp only [if_neg q]; rfl
theorem sMost_eq {kind v : Int32} : sMost kind v = mMost kind v := by
  unfold sMost mMost
  rw [Int32.add_assoc]
  rfl
theorem sVal_in {I J : Wd} {K : Nat} (hS : GS I J K) {kn : Int32} {k : Nat} (hk : k < K) : inR (sVal (J 22) (J 21) (J 20) kn k) 0 99 := by
  obtain ⟨⟨s1, s2, s3⟩, ⟨t1, t2, t3, t4, t5, t6⟩, s4, s5⟩ := id hS
  unfold sVal
  split
  · rw [← t5]; exact s5 k (by omega)
  · rw [← t3]; exact (s4 k hk).2
theorem sLo_eq {kind cell mon val : Nat → Int32} {c kn tr : Int32} : ∀ K, (∀ k, k < K → inR (val k) 0 99) → sLo kind cell mon val c kn tr K = mLo kind cell mon val c kn tr K ∧ sHi kind cell mon val c kn tr K = mHi kind cell mon val c kn tr K
  | 0, _ => ⟨rfl, rfl⟩
  | n + 1, h => by
    obtain ⟨e1, e2⟩ := sLo_eq n (kind := kind) (cell := cell) (mon := mon) (val := val) (c := c) (kn := kn) (tr := tr) (fun k hk => h k (by omega))
    constructor
    · show (if cell n = c ∧ ¬ kn < mon n ∧ ¬ sTrust (kind n) < tr then (if sLo kind cell mon val c kn tr n < sLeast (kind n) (val n) then sLeast (kind n) (val n) else sLo kind cell mon val c kn tr n) else sLo kind cell mon val c kn tr n) = (if cell n = c ∧ ¬ kn < mon n ∧ ¬ sTrust (kind n) < tr then (if mLo kind cell mon val c kn tr n < mLeast (kind n) (val n) then mLeast (kind n) (val n) else mLo kind cell mon val c kn tr n) else mLo kind cell mon val c kn tr n)
      rw [e1, sLeast_eq (h n (by omega))]
    · show (if cell n = c ∧ ¬ kn < mon n ∧ ¬ sTrust (kind n) < tr then (if sMost (kind n) (val n) < sHi kind cell mon val c kn tr n then sMost (kind n) (val n) else sHi kind cell mon val c kn tr n) else sHi kind cell mon val c kn tr n) = (if cell n = c ∧ ¬ kn < mon n ∧ ¬ sTrust (kind n) < tr then (if mMost (kind n) (val n) < mHi kind cell mon val c kn tr n then mMost (kind n) (val n) else mHi kind cell mon val c kn tr n) else mHi kind cell mon val c kn tr n)
      rw [e2, sMost_eq]
theorem GS.lo {I J : Wd} {K : Nat} (hS : GS I J K) {c kn tr : Int32} : sLo (I 43) (I 44) (I 46) (sVal (I 48) (I 47) (I 45) kn) c kn tr K = mLo (J 17) (J 18) (J 19) (sVal (J 22) (J 21) (J 20) kn) c kn tr K ∧ sHi (I 43) (I 44) (I 46) (sVal (I 48) (I 47) (I 45) kn) c kn tr K = mHi (J 17) (J 18) (J 19) (sVal (J 22) (J 21) (J 20) kn) c kn tr K := by
  obtain ⟨⟨s1, s2, s3⟩, ⟨t1, t2, t3, t4, t5, t6⟩, s4, s5⟩ := id hS
  rw [t1, t2, t3, t4, t5, t6]
  exact sLo_eq K (fun k hk => sVal_in hS hk)
theorem inN {x : Int32} {n : Nat} {m : Int32} (h : inR x 0 m) (hm : m.toInt = n) : ∃ i, i ≤ n ∧ x = nI i := by
  obtain ⟨j, e, h1, h2⟩ := nI_rng h
  exact ⟨j, by omega, e⟩
theorem sgT_eq {I J : Wd} {K : Nat} (hS : GS I J K) {mo k what kn : Int32} : vSignTold (I 43) (I 44) (I 46) (sVal (I 48) (I 47) (I 45) kn) (nI K) mo k what kn = (if inR k 0 (nI K - 1) then (if inR what 0 6 ∧ inR kn 0 mo then (if what = 0 then J 17 k.toNatClampNeg else if what = 1 then J 18 k.toNatClampNeg else if what = 2 then J 19 k.toNatClampNeg else if what = 3 then (sVal (J 22) (J 21) (J 20) kn k.toNatClampNeg) else if what = 4 then mLeast (J 17 k.toNatClampNeg) (sVal (J 22) (J 21) (J 20) kn k.toNatClampNeg) else if what = 5 then mMost (J 17 k.toNatClampNeg) (sVal (J 22) (J 21) (J 20) kn k.toNatClampNeg) else sTrust (J 17 k.toNatClampNeg)) else -2) else -1) := by
  obtain ⟨⟨s1, s2, s3⟩, ⟨t1, t2, t3, t4, t5, t6⟩, s4, s5⟩ := id hS
  unfold vSignTold
  by_cases q : inR k 0 (nI K - 1)
  · obtain ⟨i, e, hi, hc⟩ := hix (by omega) q
    rw [if_pos q, if_pos q, t1, t2, t3, t4, t5, t6, hc]
    have hv := sVal_in hS (kn := kn) hi
    rw [sLeast_eq hv, sMost_eq]
    by_cases q2 : inR kn 0 mo
    · rw [if_pos q2]
      by_cases q3 : inR what 0 6
      · have hz : inR what 0 6 ∧ inR kn 0 mo := ⟨q3, q2⟩
        rw [if_pos hz]
        obtain ⟨w, hw, rfl⟩ := inN (n := 6) q3 rfl
        rcases (show w = 0 ∨ w = 1 ∨ w = 2 ∨ w = 3 ∨ w = 4 ∨ w = 5 ∨ w = 6 by omega) with rfl | rfl | rfl | rfl | rfl | rfl | rfl <;> rfl
      · have hz : ¬ (inR what 0 6 ∧ inR kn 0 mo) := fun z => q3 z.1
        rw [if_neg hz]
        rw [if_neg (fun z => q3 (by rw [z]; decide)), if_neg (fun z => q3 (by rw [z]; decide)), if_neg (fun z => q3 (by rw [z]; decide)), if_neg (fun z => q3 (by rw [z]; decide)), if_neg (fun z => q3 (by rw [z]; decide)), if_neg (fun z => q3 (by rw [z]; decide)), if_neg (fun z => q3 (by rw [z]; decide))]
    · have hz : ¬ (inR what 0 6 ∧ inR kn 0 mo) := fun z => q2 z.2
      rw [if_neg q2, if_neg hz]
  · rw [if_neg q, if_neg q]
theorem sp_eq {I J : Wd} {K : Nat} (hS : GS I J K) {mo c kn what : Int32} : vSpan (I 43) (I 44) (I 46) (sVal (I 48) (I 47) (I 45) kn) K mo c kn what = (if inR c 0 63 then (if inR kn 0 mo ∧ inR what 0 3 then (if (mHi (J 17) (J 18) (J 19) (sVal (J 22) (J 21) (J 20) kn) c kn (if 1 < what then 8 else 0) K) < (mLo (J 17) (J 18) (J 19) (sVal (J 22) (J 21) (J 20) kn) c kn (if 1 < what then 8 else 0) K) then -3 else if what - what / 2 * 2 = 0 then (mLo (J 17) (J 18) (J 19) (sVal (J 22) (J 21) (J 20) kn) c kn (if 1 < what then 8 else 0) K) else (mHi (J 17) (J 18) (J 19) (sVal (J 22) (J 21) (J 20) kn) c kn (if 1 < what then 8 else 0) K)) else -2) else -1) := by
  unfold vSpan
  by_cases q : inR c 0 63
  · rw [if_pos q, if_pos q]
    by_cases q2 : inR kn 0 mo ∧ inR what 0 3
    · rw [if_pos q2, if_pos q2]
      have e : (if what < 2 then (0 : Int32) else 8) = (if 1 < what then 8 else 0) := by
        obtain ⟨w, hw, rfl⟩ := inN (n := 3) q2.2 rfl
        exact (show ∀ w, w ≤ 3 → (if nI w < 2 then (0 : Int32) else 8) = (if 1 < nI w then 8 else 0) by decide +kernel) w hw
      rw [e, hS.lo.1, hS.lo.2]
    · rw [if_neg q2, if_neg q2]
  · rw [if_neg q, if_neg q]
set_option maxHeartbeats 2000000 in
theorem k_signTold {I J : Wd} (h : Rel I J) (k what kn : Int32) : CallOK mX10_signTold mX11_signTold [.int k, .int what, .int kn] I J := by
  obtain ⟨N, P, K, L, Wn, hB, hS, hL, hW, hF, hT, hO, hK, hH, hC⟩ := h
  have hR : Rel I J := ⟨N, P, K, L, Wn, hB, hS, hL, hW, hF, hT, hO, hK, hH, hC⟩
  obtain ⟨⟨⟨n1, n2, n3⟩, p1, p2, p3⟩, ⟨u1, u2, u3, u4⟩, ⟨cc, cr⟩, ⟨m, m1, m2, m3, m4⟩, ⟨r1, r2, r3⟩, g6, g7, g8, g9, g10, g11, g12, g13⟩ := id hB
  obtain ⟨⟨s1, s2, s3⟩, ⟨t1, t2, t3, t4, t5, t6⟩, s4, s5⟩ := id hS
  refine CallOK.mk (by decide) (by decide) (c_X10_signTold s1 s3) (c_X11_signTold s2 s3) ?_ ?_
  · rw [s1, s2, m1, m2]
    exact congrArg (fun q => Value.int q) (sgT_eq hS)
  · exact hR
set_option maxHeartbeats 2000000 in
theorem k_span {I J : Wd} (h : Rel I J) (c kn what : Int32) : CallOK mX10_span mX11_span [.int c, .int kn, .int what] I J := by
  obtain ⟨N, P, K, L, Wn, hB, hS, hL, hW, hF, hT, hO, hK, hH, hC⟩ := h
  have hR : Rel I J := ⟨N, P, K, L, Wn, hB, hS, hL, hW, hF, hT, hO, hK, hH, hC⟩
  obtain ⟨⟨⟨n1, n2, n3⟩, p1, p2, p3⟩, ⟨u1, u2, u3, u4⟩, ⟨cc, cr⟩, ⟨m, m1, m2, m3, m4⟩, ⟨r1, r2, r3⟩, g6, g7, g8, g9, g10, g11, g12, g13⟩ := id hB
  obtain ⟨⟨s1, s2, s3⟩, ⟨t1, t2, t3, t4, t5, t6⟩, s4, s5⟩ := id hS
  refine CallOK.mk (by decide) (by decide) (c_X10_span s1 s3) (c_X11_span s2 s3) ?_ ?_
  · rw [m1, m2]
    exact congrArg (fun q => Value.int q) (sp_eq hS)
  · have hX : Rel I (spanW J K c kn (if 1 < what then 8 else 0)) := by
      unfold spanW
      exact ⟨N, P, K, L, Wn, hB.fr (fun a a1 a2 => (by first | rfl | (simp (disch := omega) only [ist_eq, ist_ne, upd_ne, rset_ne]))) (fun a a1 a2 a3 a4 a5 => (by first | rfl | (simp (disch := omega) only [ist_eq, ist_ne, upd_ne, rset_ne]))) (fun j j1 => (by first | rfl | (simp (disch := omega) only [ist_eq, ist_ne, upd_ne, rset_ne]))), hS.fr (fun a a1 a2 => (by first | rfl | (simp (disch := omega) only [ist_eq, ist_ne, upd_ne, rset_ne]))) (fun a a1 a2 => (by first | rfl | (simp (disch := omega) only [ist_eq, ist_ne, upd_ne, rset_ne]))) (by first | rfl | (simp (disch := omega) only [ist_eq, ist_ne, upd_ne, rset_ne])), hL.fr (fun a a1 a2 => (by first | rfl | (simp (disch := omega) only [ist_eq, ist_ne, upd_ne, rset_ne]))) (fun a a1 a2 => (by first | rfl | (simp (disch := omega) only [ist_eq, ist_ne, upd_ne, rset_ne]))) (by first | rfl | (simp (disch := omega) only [ist_eq, ist_ne, upd_ne, rset_ne])), hW.fr (fun a a1 a2 => (by first | rfl | (simp (disch := omega) only [ist_eq, ist_ne, upd_ne, rset_ne]))) (fun a a1 a2 => (by first | rfl | (simp (disch := omega) only [ist_eq, ist_ne, upd_ne, rset_ne]))) (by first | rfl | (simp (disch := omega) only [ist_eq, ist_ne, upd_ne, rset_ne])), hF.fr (fun a a1 a2 => (by first | rfl | (simp (disch := omega) only [ist_eq, ist_ne, upd_ne, rset_ne]))) (fun a a1 a2 => (by first | rfl | (simp (disch := omega) only [ist_eq, ist_ne, upd_ne, rset_ne]))) (fun j j1 j2 => (by first | rfl | (simp (disch := omega) only [ist_eq, ist_ne, upd_ne, rset_ne]))), hT.fr (fun a a1 => (by first | rfl | (simp (disch := omega) only [ist_eq, ist_ne, upd_ne, rset_ne]))) (fun a a1 a2 => (by first | rfl | (simp (disch := omega) only [ist_eq, ist_ne, upd_ne, rset_ne]))) (fun j j1 j2 => (by first | rfl | (simp (disch := omega) only [ist_eq, ist_ne, upd_ne, rset_ne]))), hO.fr (fun j j1 j2 => (by first | rfl | (simp (disch := omega) only [ist_eq, ist_ne, upd_ne, rset_ne]))) (by first | rfl | (simp (disch := omega) only [ist_eq, ist_ne, upd_ne, rset_ne])) (by first | rfl | (simp (disch := omega) only [ist_eq, ist_ne, upd_ne, rset_ne])), hK.fr (by first | rfl | (simp (disch := omega) only [ist_eq, ist_ne, upd_ne, rset_ne])) (fun a a1 a2 => (by first | rfl | (simp (disch := omega) only [ist_eq, ist_ne, upd_ne, rset_ne]))) (fun x x1 => (by first | rfl | (simp (disch := omega) only [ist_eq, ist_ne, upd_ne, rset_ne]))) (fun j j1 j2 => (by first | rfl | (simp (disch := omega) only [ist_eq, ist_ne, upd_ne, rset_ne]))), hH.fr (fun a a1 a2 => (by first | rfl | (simp (disch := omega) only [ist_eq, ist_ne, upd_ne, rset_ne]))) (fun a a1 a2 => (by first | rfl | (simp (disch := omega) only [ist_eq, ist_ne, upd_ne, rset_ne]))), hC.fr (fun a a1 => (by first | rfl | (simp (disch := omega) only [ist_eq, ist_ne, upd_ne, rset_ne])))⟩
    split
    · exact hX
    · exact hR
theorem ft_eq {I J : Wd} (hF : GF I J) {i what : Int32} : vFitTold (I 58) (I 59) (I 60) (I 57 0) (I 57 1) i what = (if inR i 0 (J 0 34 - 1) then (if inR what 0 3 then (if J 0 36 = 0 then -3 else if what = 0 then J 31 i.toNatClampNeg else if what = 1 then J 32 i.toNatClampNeg else if what = 2 then J 33 i.toNatClampNeg else J 0 35) else -2) else -1) := by
  obtain ⟨z, f1, f2, f3, f4, f5⟩ := hF
  unfold vFitTold
  rw [f1, f2]
  by_cases q : inR i 0 (nI z - 1)
  · obtain ⟨j, e, hj, hc⟩ := hix (by omega) q
    rw [if_pos q, if_pos q, hc]
    by_cases q0 : I 57 1 = 0
    · rw [if_pos q0, if_pos (f4.mp q0)]
    · obtain ⟨a1, a2⟩ := f5 q0
      rw [if_neg q0, if_neg (fun z => q0 (f4.mpr z)), (a2 j hj).1, (a2 j hj).2.1, (a2 j hj).2.2, a1]
  · rw [if_neg q, if_neg q]
set_option maxHeartbeats 2000000 in
theorem k_fitTold {I J : Wd} (h : Rel I J) (i what : Int32) : CallOK mX10_fitTold mX11_fitTold [.int i, .int what] I J := by
  obtain ⟨N, P, K, L, Wn, hB, hS, hL, hW, hF, hT, hO, hK, hH, hC⟩ := h
  have hR : Rel I J := ⟨N, P, K, L, Wn, hB, hS, hL, hW, hF, hT, hO, hK, hH, hC⟩
  obtain ⟨z, f1, f2, f3, f4, f5⟩ := id hF
  refine CallOK.mk (by decide) (by decide) (c_X10_fitTold f1 f3) (c_X11_fitTold f2 f3) ?_ ?_
  · exact congrArg (fun q => Value.int q) (ft_eq hF)
  · exact hR
theorem GT.force {I J : Wd} (hT : GT I J) {X t : Nat} (hX : I 66 1 = nI X) (ht : t < X) (hX6 : X ≤ 6) : GT (ist I 66 2 (nI t)) (ist J 0 46 (nI t)) := by
  obtain ⟨X', R, n, h1, h2, h3, h4, h5, h6, h7, h8, h9, h10, h11, h12⟩ := hT
  have e : X' = X := (nI_eq (by omega) (by omega)).mp (h1.symm.trans hX)
  subst e
  refine ⟨X', t, n, ?_, ?_, h3, h4, ?_, ?_, ht, ?_, ?_, h10, ?_, fun u hu => (h12 u hu).fr (fun a a1 a2 => ist_ne (by omega)) (by rw [ist_ne (by decide)]) (fun i _ => by rw [ist_ne (by decide)])⟩
  · rw [ist_eq, upd_ne (by decide)]; exact h1
  · rw [ist_eq, upd_ne (by decide)]; exact h2
  · rw [ist_eq, upd_eq]
  · rw [ist_eq, upd_eq]
  · rw [ist_ne (by decide)]; exact h8
  · rw [ist_eq, upd_ne (by decide)]; exact h9
  · rw [ist_ne (by decide), ist_ne (by decide)]; exact h11
set_option maxHeartbeats 2000000 in
theorem k_force {I J : Wd} (h : Rel I J) (t : Int32) : CallOK mX10_force mX11_force [.int t] I J := by
  obtain ⟨N, P, K, L, Wn, hB, hS, hL, hW, hF, hT, hO, hK, hH, hC⟩ := h
  have hR : Rel I J := ⟨N, P, K, L, Wn, hB, hS, hL, hW, hF, hT, hO, hK, hH, hC⟩
  obtain ⟨X, R, tn, x1, x2, x3, x4, x5, x6, x7, _⟩ := id hT
  refine CallOK.mk (by decide) (by decide) (c_X10_force) (c_X11_force) ?_ ?_
  · rw [x1, x2, x5, x6]
  · rw [x1, x2]
    exact Rel.c (fun q => by
      obtain ⟨i, e, hi, hc⟩ := hix (by omega) q
      subst e
      exact ⟨N, P, K, L, Wn, hB.fr (fun a a1 a2 => (by first | rfl | (simp (disch := omega) only [ist_eq, ist_ne, upd_ne, rset_ne]))) (fun a a1 a2 a3 a4 a5 => (by first | rfl | (simp (disch := omega) only [ist_eq, ist_ne, upd_ne, rset_ne]))) (fun j j1 => (by first | rfl | (simp (disch := omega) only [ist_eq, ist_ne, upd_ne, rset_ne]))), hS.fr (fun a a1 a2 => (by first | rfl | (simp (disch := omega) only [ist_eq, ist_ne, upd_ne, rset_ne]))) (fun a a1 a2 => (by first | rfl | (simp (disch := omega) only [ist_eq, ist_ne, upd_ne, rset_ne]))) (by first | rfl | (simp (disch := omega) only [ist_eq, ist_ne, upd_ne, rset_ne])), hL.fr (fun a a1 a2 => (by first | rfl | (simp (disch := omega) only [ist_eq, ist_ne, upd_ne, rset_ne]))) (fun a a1 a2 => (by first | rfl | (simp (disch := omega) only [ist_eq, ist_ne, upd_ne, rset_ne]))) (by first | rfl | (simp (disch := omega) only [ist_eq, ist_ne, upd_ne, rset_ne])), hW.fr (fun a a1 a2 => (by first | rfl | (simp (disch := omega) only [ist_eq, ist_ne, upd_ne, rset_ne]))) (fun a a1 a2 => (by first | rfl | (simp (disch := omega) only [ist_eq, ist_ne, upd_ne, rset_ne]))) (by first | rfl | (simp (disch := omega) only [ist_eq, ist_ne, upd_ne, rset_ne])), hF.fr (fun a a1 a2 => (by first | rfl | (simp (disch := omega) only [ist_eq, ist_ne, upd_ne, rset_ne]))) (fun a a1 a2 => (by first | rfl | (simp (disch := omega) only [ist_eq, ist_ne, upd_ne, rset_ne]))) (fun j j1 j2 => (by first | rfl | (simp (disch := omega) only [ist_eq, ist_ne, upd_ne, rset_ne]))), hT.force x1 hi x4, hO.fr (fun j j1 j2 => (by first | rfl | (simp (disch := omega) only [ist_eq, ist_ne, upd_ne, rset_ne]))) (by first | rfl | (simp (disch := omega) only [ist_eq, ist_ne, upd_ne, rset_ne])) (by first | rfl | (simp (disch := omega) only [ist_eq, ist_ne, upd_ne, rset_ne])), hK.fr (by first | rfl | (simp (disch := omega) only [ist_eq, ist_ne, upd_ne, rset_ne])) (fun a a1 a2 => (by first | rfl | (simp (disch := omega) only [ist_eq, ist_ne, upd_ne, rset_ne]))) (fun x x1 => (by first | rfl | (simp (disch := omega) only [ist_eq, ist_ne, upd_ne, rset_ne]))) (fun j j1 j2 => (by first | rfl | (simp (disch := omega) only [ist_eq, ist_ne, upd_ne, rset_ne]))), hH.fr (fun a a1 a2 => (by first | rfl | (simp (disch := omega) only [ist_eq, ist_ne, upd_ne, rset_ne]))) (fun a a1 a2 => (by first | rfl | (simp (disch := omega) only [ist_eq, ist_ne, upd_ne, rset_ne]))), hC.fr (fun a a1 => (by first | rfl | (simp (disch := omega) only [ist_eq, ist_ne, upd_ne, rset_ne])))⟩) hR
theorem one_eq : ∀ a, a ≤ 5 → ∀ b, b ≤ 7 → (isOneN 6 (nI a) (nI b) = true ↔ (nI b < 6 ∧ mOf (nI a) (nI b))) := by decide +kernel
theorem tk_eq {I J : Wd} {K N Wn P : Nat} (hB : GB I J N P) (hS : GS I J K) (hW : GW I J Wn) {what i q : Int32} : vTaken (fun a b => isOneN 6 a b = true) (I 43) (I 44) (I 3) (I 56) (I 42 0) (I 1 0) (I 53 0) what i q = vTaken (fun a b => b < 6 ∧ mOf a b) (J 17) (J 18) (J 11) (J 42) (J 0 21) (J 0 3) (J 0 65) what i q := by
  obtain ⟨⟨⟨n1, n2, n3⟩, p1, p2, p3⟩, ⟨u1, u2, u3, u4⟩, ⟨cc, cr⟩, ⟨m, m1, m2, m3, m4⟩, ⟨r1, r2, r3⟩, g6, g7, g8, g9, g10, g11, g12, g13⟩ := id hB
  obtain ⟨⟨s1, s2, s3⟩, ⟨t1, t2, t3, t4, t5, t6⟩, s4, s5⟩ := id hS
  obtain ⟨⟨w1, w2, w3⟩, ⟨w4, w5⟩, w6⟩ := id hW
  unfold vTaken
  rw [s1, s2, n1, n2, w1, w2, w5, u2, ← t1, t2]
  by_cases h : inR what 0 2 ∧ inR q 0 7
  · rw [if_pos h, if_pos h]
    by_cases h0 : what = 0
    · rw [if_pos h0, if_pos h0]
      by_cases h1 : inR i 0 (nI K - 1)
      · obtain ⟨j, e, hj, hc⟩ := hix (by omega) h1
        rw [if_pos h1, if_pos h1, hc]
        obtain ⟨a, ha, ea⟩ := inN (n := 5) (s4 j hj).1 rfl
        obtain ⟨b, hb, eb⟩ := inN (n := 7) h.2 rfl
        have ho := one_eq a ha b hb
        rw [ea, eb]
        by_cases h2 : isOneN 6 (nI a) (nI b) = true
        · rw [if_pos h2, if_pos (ho.mp h2)]
        · rw [if_neg h2, if_neg (fun z => h2 (ho.mpr z))]
      · rw [if_neg h1, if_neg h1]
    · rw [if_neg h0, if_neg h0]
  · rw [if_neg h, if_neg h]
set_option maxHeartbeats 2000000 in
theorem k_taken {I J : Wd} (h : Rel I J) (what i q : Int32) : CallOK mX10_taken mX11_taken [.int what, .int i, .int q] I J := by
  obtain ⟨N, P, K, L, Wn, hB, hS, hL, hW, hF, hT, hO, hK, hH, hC⟩ := h
  have hR : Rel I J := ⟨N, P, K, L, Wn, hB, hS, hL, hW, hF, hT, hO, hK, hH, hC⟩
  obtain ⟨⟨⟨n1, n2, n3⟩, p1, p2, p3⟩, ⟨u1, u2, u3, u4⟩, ⟨cc, cr⟩, ⟨m, m1, m2, m3, m4⟩, ⟨r1, r2, r3⟩, g6, g7, g8, g9, g10, g11, g12, g13⟩ := id hB
  obtain ⟨⟨s1, s2, s3⟩, ⟨t1, t2, t3, t4, t5, t6⟩, s4, s5⟩ := id hS
  obtain ⟨⟨w1, w2, w3⟩, ⟨w4, w5⟩, w6⟩ := id hW
  refine CallOK.mk (by decide) (by decide) (c_X10_taken s1 s3 n1 n3 w1 w3) (c_X11_taken s2 s3 n2 n3 w2 w3) ?_ ?_
  · exact congrArg (fun q => Value.int q) (tk_eq hB hS hW)
  · exact hR
