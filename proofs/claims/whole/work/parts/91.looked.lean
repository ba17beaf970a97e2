/-! looks -/
abbrev bl (x : Int64) (h : Nat) : Bool := x.toBitVec.getLsbD h
theorem shl_n64 : ∀ h, h < 64 → ((nI h).toInt64 &&& 63).toBitVec.smod 64#64 = BitVec.ofNat 64 h := by decide +kernel
theorem one_n64 : ∀ j, j < 64 → ∀ h, h < 64 → ((1 : Int64) <<< ((nI j).toInt64 &&& 63)).toBitVec.getLsbD h = decide (h = j) := by decide +kernel
theorem bl_or {x : Int64} {j h : Nat} (hj : j < 64) (hh : h < 64) : bl (x ||| ((1 : Int64) <<< ((nI j).toInt64 &&& 63))) h = (bl x h || decide (h = j)) := by
  unfold bl
  rw [Int64.toBitVec_or, BitVec.getLsbD_or, one_n64 j hj h hh]
theorem or_same64 {x : Int64} {j : Nat} (hj : j < 64) (h : bl x j = true) : x ||| ((1 : Int64) <<< ((nI j).toInt64 &&& 63)) = x := by
  apply Int64.toBitVec_inj.mp
  apply BitVec.eq_of_getLsbD_eq
  intro i hi
  have e := bl_or (x := x) hj hi
  unfold bl at e h
  rw [e]
  by_cases q : i = j
  · subst q; rw [h]; rfl
  · rw [decide_eq_false q, Bool.or_false]
theorem and_bl {x : Int64} {j : Nat} (hj : j < 64) : x &&& ((1 : Int64) <<< ((nI j).toInt64 &&& 63)) = 0 ↔ bl x j = false := by
  constructor
  · intro q
    have e := congrArg (fun y : Int64 => y.toBitVec.getLsbD j) q
    simp only [Int64.toBitVec_and, BitVec.getLsbD_and, one_n64 j hj j hj, decide_true, Bool.and_true] at e
    exact e.trans BitVec.getLsbD_zero
  · intro q
    apply Int64.toBitVec_inj.mp
    apply BitVec.eq_of_getLsbD_eq
    intro i hi
    rw [Int64.toBitVec_and, BitVec.getLsbD_and, one_n64 j hj i hi]
    by_cases e : i = j
    · subst e; unfold bl at q; rw [q]; exact BitVec.getLsbD_zero.symm
    · rw [decide_eq_false e, Bool.and_false]; exact BitVec.getLsbD_zero.symm
theorem shr_bl {x : Int64} {j : Nat} (hj : j < 64) : x >>> ((nI j).toInt64 &&& 63) &&& 1 = 0 ↔ bl x j = false := by
  have e : (x >>> ((nI j).toInt64 &&& 63) &&& 1).toBitVec = (x.toBitVec.sshiftRight j) &&& 1#64 := by
    rw [Int64.toBitVec_and, Int64.toBitVec_shiftRight]
    have e2 : ((nI j).toInt64 &&& 63).toBitVec.smod 64#64 = BitVec.ofNat 64 j := shl_n64 j hj
    show x.toBitVec.sshiftRight' (((nI j).toInt64 &&& 63).toBitVec.smod 64#64) &&& _ = _
    rw [e2]
    show x.toBitVec.sshiftRight (BitVec.ofNat 64 j).toNat &&& _ = _
    rw [BitVec.toNat_ofNat, Nat.mod_eq_of_lt (by omega)]
    rfl
  have h0 : ((x.toBitVec.sshiftRight j) &&& 1#64).getLsbD 0 = bl x j := by
    rw [BitVec.getLsbD_and, BitVec.getLsbD_sshiftRight, Nat.add_zero, if_pos hj]
    show ((!decide (64 ≤ 0)) && x.toBitVec.getLsbD j && true) = _
    unfold bl
    cases x.toBitVec.getLsbD j <;> rfl
  constructor
  · intro q
    rw [← h0, ← e, q]; exact BitVec.getLsbD_zero
  · intro q
    apply Int64.toBitVec_inj.mp
    rw [e]
    apply BitVec.eq_of_getLsbD_eq
    intro i hi
    by_cases p : i = 0
    · subst p; rw [h0, q]; exact BitVec.getLsbD_zero.symm
    · rw [BitVec.getLsbD_and, BitVec.getLsbD_one]
      simp [p]
theorem lq_eq {nums p2 p3 lw lw2 : Nat → Int32} {m : Nat} {set : Int32} (h : ∀ i, i < m → nums (2 * i) = p2 i ∧ nums (2 * i + 1) = p3 i ∧ vp_in (p2 i) 64 ∧ lw i = lw2 i) : ∀ k, k ≤ m → sPr nums set k = (lqM p2 p3 lw2 set k).1 ∧ sWo nums lw set k = (lqM p2 p3 lw2 set k).2 := by
  intro k
  induction k with
  | zero => intro _; exact ⟨rfl, rfl⟩
  | succ k ih =>
    intro hk
    obtain ⟨i1, i2⟩ := ih (by omega)
    obtain ⟨e1, e2, e3, e4⟩ := h k (by omega)
    obtain ⟨c, ec, hc⟩ := vp_n e3
    show (if bitS set k = 0 then sPr nums set k else sPr nums set k + nums (2 * k + 1)) = _ ∧ (if bitS set k = 0 then sWo nums lw set k else if (sWo nums lw set k).2 &&& ((1 : Int64) <<< ((nums (2 * k)).toInt64 &&& 63)) = 0 then ((sWo nums lw set k).1 + lw k, (sWo nums lw set k).2 ||| ((1 : Int64) <<< ((nums (2 * k)).toInt64 &&& 63))) else sWo nums lw set k) = _
    by_cases q : bitS set k = 0
    · rw [if_pos q, if_pos q, lqM_a q]; exact ⟨i1, i2⟩
    · rw [if_neg q, if_neg q, lqM_b q, e1, e2, e4, i1, i2, ec]
      refine ⟨rfl, ?_⟩
      by_cases p : bl (lqM p2 p3 lw2 set k).2.2 c = false
      · rw [if_pos ((and_bl hc).mpr p), if_pos ((shr_bl hc).mpr p)]
      · rw [if_neg (fun w => p ((and_bl hc).mp w)), if_neg (fun w => p ((shr_bl hc).mp w)), or_same64 hc (by simpa using p), Int32.add_zero]
theorem lk_pick {nums p2 p3 lw lw2 : Nat → Int32} {m : Nat} {coin l0 : Int32} (hm : m ≤ 8) (hc : ¬ coin < 0) (h : ∀ i, i < m → nums (2 * i) = p2 i ∧ nums (2 * i + 1) = p3 i ∧ vp_in (p2 i) 64 ∧ lw i = lw2 i) : ∀ g, 1 ≤ g → lkM p2 p3 lw2 m coin l0 g = lkS nums lw m coin g ∧ ¬ (lkS nums lw m coin g).1 < 0 := by
  intro g
  induction g with
  | zero => intro h1; omega
  | succ g ih =>
    intro _
    obtain ⟨e1, e2⟩ := lq_eq (set := nI g) h m (Nat.le_refl m)
    show lkM1 p2 p3 lw2 m coin g (lkM p2 p3 lw2 m coin l0 g) = (if g = 0 then ((0 : Int32), (0 : Int32)) else if (lkS nums lw m coin g).1 < lkSp nums lw m coin (nI g) then (lkSp nums lw m coin (nI g), nI g) else lkS nums lw m coin g) ∧ ¬ (if g = 0 then ((0 : Int32), (0 : Int32)) else if (lkS nums lw m coin g).1 < lkSp nums lw m coin (nI g) then (lkSp nums lw m coin (nI g), nI g) else lkS nums lw m coin g).1 < 0
    unfold lkM1 lkSp
    rw [e1, e2]
    by_cases g0 : g = 0
    · subst g0
      rw [if_pos rfl]
      have z : ∀ k, k ≤ 32 → lqM p2 p3 lw2 (nI 0) k = (0, 0, 0) := by
        intro k
        induction k with
        | zero => intro _; rfl
        | succ k ihk => intro hk; rw [lqM_a (show bitS (nI 0) k = 0 from bS_z (by omega)), ihk (by omega)]
      rw [z m (by omega)]
      refine ⟨?_, by decide⟩
      rw [if_neg hc]
      exact if_pos (show (-1 : Int32) < 0 by decide)
    · rw [if_neg g0]
      obtain ⟨i1, i2⟩ := ih (by omega)
      rw [i1]
      by_cases q : coin < (lqM p2 p3 lw2 (nI g) m).1
      · rw [if_pos q, if_pos q, if_neg i2]; exact ⟨rfl, i2⟩
      · rw [if_neg q, if_neg q]
        by_cases q2 : (lkS nums lw m coin g).1 < (lqM p2 p3 lw2 (nI g) m).2.1
        · rw [if_pos q2]
          refine ⟨rfl, fun w => ?_⟩
          rw [Int32.lt_iff_toInt_lt] at w q2 i2
          have w' : (lqM p2 p3 lw2 (nI g) m).2.1.toInt < (0 : Int32).toInt := w
          omega
        · rw [if_neg q2]; exact ⟨rfl, i2⟩
theorem wth_fr {W J : Wd} {K N : Nat} {c kn : Int32} (h : ∀ a, a ≠ 0 → a ≠ 40 → W a = J a) : wthM W K N c kn = wthM J K N c kn := by
  unfold wthM dbM
  rw [h 17 (by decide) (by decide), h 18 (by decide) (by decide), h 19 (by decide) (by decide), h 20 (by decide) (by decide), h 21 (by decide) (by decide), h 22 (by decide) (by decide), h 10 (by decide) (by decide), h 13 (by decide) (by decide), h 16 (by decide) (by decide), h 12 (by decide) (by decide)]
theorem lw_at {K N : Nat} {s kn : Int32} {J : Wd} : ∀ m i, i < m → lwM K N s kn J m 40 i = wthM J K N (it2 J s i) kn := by
  intro m
  induction m with
  | zero => intro i hi; omega
  | succ m ih =>
    intro i hi
    show ist (spanW (lwM K N s kn J m) K (it2 J s m) kn 0) 40 m (wthM (lwM K N s kn J m) K N (it2 J s m) kn) 40 i = _
    rw [ist_eq]
    by_cases e : i = m
    · subst e; rw [upd_eq]; exact wth_fr (fun a h0 h40 => lwM_fr h0 h40)
    · rw [upd_ne e, spanW_fr (by decide)]; exact ih i (by omega)
theorem sub_neg3 {a b : Nat} (h : a < b) (hb : b ≤ 100000) : nI a - nI b < 0 := by
  rw [Int32.lt_iff_toInt_lt, Int32.toInt_sub, nI_toInt (by omega), nI_toInt (by omega)]
  rw [Int.bmod_eq_of_le (by omega) (by omega)]
  have e0 : (0 : Int32).toInt = 0 := rfl
  omega
theorem wth_eq {I J : Wd} {N P K : Nat} (hB : GB I J N P) (hS : GS I J K) {c kn : Int32} : lkW I K N c kn = wthM J K N c kn := by
  obtain ⟨-, ⟨u1, u2, u3, u4⟩, -, -, -, g6, -⟩ := hB
  have e1 := hS.lo (c := c) (kn := kn) (tr := 0)
  unfold lkW wthM dbM
  rw [e1.1, e1.2, u1, u3, sPeople_eq N (fun i hi => ⟨(g6 i hi).1, (g6 i hi).2⟩)]
  obtain ⟨⟨a, ha, ea⟩, b, hb, eb⟩ := sp_rng (kind := J 17) (cell := J 18) (mon := J 19) (val := sVal (J 22) (J 21) (J 20) kn) (c := c) (kn := kn) (tr := 0) K (fun k hk => sVal_in hS hk)
  rw [ea, eb, show (30 : Int32) = nI 30 from rfl]
  generalize sPeople (J 10) (J 13) (J 16) (J 12) c N + 1 = p
  have e3 : nI b - nI a - nI 30 = nI b - nI (a + 30) := by rw [← nI_a, Int32.sub_eq_add_neg, Int32.sub_eq_add_neg, Int32.sub_eq_add_neg, Int32.neg_add, Int32.add_assoc, Int32.sub_eq_add_neg]
  rw [e3]
  by_cases q : a + 30 < b
  · rw [sub_n (a := b) (b := a + 30) (by omega), if_pos (show 0 < nI (b - (a + 30)) from nI_lt (a := 0) (by omega) (by omega)), if_pos (nI_lt (show a < b by omega) (by omega)), sub_n (a := b) (b := a) (by omega), if_pos (nI_lt (show 30 < b - a by omega) (by omega)), sub_n (a := b - a) (b := 30) (by omega), show b - (a + 30) = b - a - 30 by omega]
  · have h0 : ¬ 0 < nI b - nI (a + 30) := by
      by_cases e : b = a + 30
      · subst e; rw [sub_n (Nat.le_refl _), Nat.sub_self]; decide
      · have := sub_neg3 (a := b) (b := a + 30) (by omega) (by omega)
        intro w
        rw [Int32.lt_iff_toInt_lt] at w this
        omega
    rw [if_neg h0, Int32.zero_mul]
    by_cases q2 : a < b
    · rw [if_pos (nI_lt q2 (by omega)), sub_n (a := b) (b := a) (by omega), if_neg (fun w => by have := lt_n w (by omega) (by omega); omega)]
    · rw [if_neg (fun w => q2 (lt_n w (by omega) (by omega)))]
      rfl
set_option maxHeartbeats 2000000 in
theorem k_looks {I J : Wd} (h : Rel I J) (s coin kn : Int32) : CallOK mX10_looks mX11_looks [.int s, .int coin, .int kn] I J := by
  obtain ⟨N, P, K, L, Wn, hB, hS, hL, hW, hF, hT, hO, hK, hH, hC⟩ := h
  have hR : Rel I J := ⟨N, P, K, L, Wn, hB, hS, hL, hW, hF, hT, hO, hK, hH, hC⟩
  obtain ⟨⟨⟨n1, n2, n3⟩, p1, p2, p3⟩, ⟨u1, u2, u3, u4⟩, ⟨cc, cr⟩, ⟨m, m1, m2, m3, m4⟩, ⟨r1, r2, r3⟩, g6, g7, g8, g9, g10, g11, g12, g13⟩ := id hB
  obtain ⟨⟨s1, s2, s3⟩, ⟨t1, t2, t3, t4, t5, t6⟩, s4, s5⟩ := id hS
  by_cases hs : inR s 0 3
  · obtain ⟨i, z, y, e, hi, ek, a1, a2, a3, a4, a5, a6, a7⟩ := hH.at hs
    by_cases q2 : J 44 i < 0
    · refine CallOK.mk (by decide) (by decide) (c_X10_looks (z := z) s1 s3 n1 n3 (fun _ => ⟨a1, a2⟩)) (c_X11_looks (z := y) s2 s3 n2 n3 (fun _ => by rw [e]; exact ⟨a3, a4⟩)) ?_ ?_
      · unfold vLooks vLkM
        rw [e, if_pos hs, if_pos hs, if_pos q2, if_pos (a6.mpr q2)]
      · unfold wLkM
        rw [e, if_neg (fun w => w.2.1 (a6.mpr q2)), if_neg (fun w => w.2.1 q2)]
        exact hR
    · obtain ⟨b1, b2⟩ := a7 q2
      subst b1
      have hq : (hlP (I (kS s + 1)) z ∧ inR coin 0 1000000 ∧ inR kn 0 (I 6 1)) ↔ okLkM J z s coin kn := by
        unfold hlP okLkM okL okLM it2 it3 itM
        rw [m1, m2, rem2 (by omega), e]
        constructor
        · rintro ⟨⟨⟨x1, x2⟩, x3⟩, x4, x5⟩
          refine ⟨⟨fun w => ?_, by rw [x1]; rfl, x4, x5⟩, fun k hk => ?_⟩
          · have := lt_n (h := 16) w (by omega) (by omega); omega
          · rw [← b2 (2 * k) (by omega), ← b2 (2 * k + 1) (by omega)]; exact x3 k hk
        · rintro ⟨⟨x2, x1, x4, x5⟩, x3⟩
          refine ⟨⟨⟨?_, ?_⟩, fun k hk => ?_⟩, x4, x5⟩
          · have x6 := congrArg Int32.toInt x1
            rw [nI_toInt (by omega), show (0 : Int32).toInt = 0 from rfl] at x6
            omega
          · exact Nat.le_of_not_lt (fun w => x2 (nI_lt w (by omega)))
          · rw [b2 (2 * k) (by omega), b2 (2 * k + 1) (by omega)]; exact x3 k hk
      refine CallOK.mk (by decide) (by decide) (c_X10_looks (z := z) s1 s3 n1 n3 (fun _ => ⟨a1, a2⟩)) (c_X11_looks (z := z) s2 s3 n2 n3 (fun _ => by rw [e]; exact ⟨a3, a4⟩)) (r := .int (vLooks (I (kS s) 0 = -1) (hlP (I (kS s + 1)) z) (I 6 1) s coin kn (lkS (I (kS s + 1)) (lkFill I (kS s) K N kn (z / 2) 107) (z / 2) coin (2 ^ (z / 2))).1)) ?_ ?_
      all_goals by_cases q : okLkM J z s coin kn
      rotate_left
      · unfold vLooks vLkM
        rw [e, if_pos hs, if_pos hs, if_neg q2, if_neg (fun w => q2 (a6.mp w)), if_neg q, if_neg (fun w => q (hq.mp w))]
      rotate_left
      · unfold wLkM
        rw [e, if_neg (fun w => q (hq.mp ⟨w.2.2.1, w.2.2.2.1, w.2.2.2.2⟩)), if_neg (fun w => q w.2.2)]
        exact hR
      all_goals
        have ok := hq.mpr q
        have hm : z / 2 ≤ 8 := by have := ok.1.1.2; omega
        have hev : z % 2 = 0 := ok.1.1.1
        have pick : lkR J K N z s coin kn = lkS (I (kS s + 1)) (lkFill I (kS s) K N kn (z / 2) 107) (z / 2) coin (2 ^ (z / 2)) ∧ (lkS (I (kS s + 1)) (lkFill I (kS s) K N kn (z / 2) 107) (z / 2) coin (2 ^ (z / 2))).2 = (lkR J K N z s coin kn).2 := by
          have p1 : lkR J K N z s coin kn = lkS (I (kS s + 1)) (lkFill I (kS s) K N kn (z / 2) 107) (z / 2) coin (2 ^ (z / 2)) := by
            unfold lkR
            refine (lk_pick hm ok.2.1.1 (fun i' hi' => ⟨?_, ?_, ?_, ?_⟩) _ (pow_n _ hm).1).1
            · unfold it2 itM; rw [e]; exact b2 _ (by omega)
            · unfold it3 itM; rw [e]; exact b2 _ (by omega)
            · exact (cel (q.2 i' hi').1).1
            · rw [lw_at _ i' hi', ← wth_eq hB hS]
              unfold lkFill
              rw [rset_eq, fil_in hi']
              unfold lwF it2 itM
              rw [e, b2 _ (by omega)]
          exact ⟨p1, by rw [p1]⟩
      · unfold vLooks vLkM
        rw [e, if_pos hs, if_pos hs, if_neg q2, if_neg (fun w => q2 (a6.mp w)), if_pos q, if_pos ok, pick.1]
      · unfold wLkM
        rw [if_pos (show okLooks (I (kS s) 0 = -1) (hlP (I (kS s + 1)) z) (I 6 1) s coin kn from ⟨hs, fun w => q2 (a6.mp w), ok.1, ok.2.1, ok.2.2⟩), if_pos ⟨hs, by rw [e]; exact q2, q⟩]
        exact ⟨N, P, K, L, Wn, hB.fr (fun a a1 a2 => (by first | rfl | (simp (disch := omega) only [ist_eq, ist_ne, upd_ne, rset_ne, lkFill, lwM_fr, lwM_0]))) (fun a a1 a2 a3 a4 a5 => (by first | rfl | (simp (disch := omega) only [ist_eq, ist_ne, upd_ne, rset_ne, lkFill, lwM_fr, lwM_0]))) (fun j j1 => (by first | rfl | (simp (disch := omega) only [ist_eq, ist_ne, upd_ne, rset_ne, lkFill, lwM_fr, lwM_0]))), hS.fr (fun a a1 a2 => (by first | rfl | (simp (disch := omega) only [ist_eq, ist_ne, upd_ne, rset_ne, lkFill, lwM_fr, lwM_0]))) (fun a a1 a2 => (by first | rfl | (simp (disch := omega) only [ist_eq, ist_ne, upd_ne, rset_ne, lkFill, lwM_fr, lwM_0]))) (by first | rfl | (simp (disch := omega) only [ist_eq, ist_ne, upd_ne, rset_ne, lkFill, lwM_fr, lwM_0])), hL.fr (fun a a1 a2 => (by first | rfl | (simp (disch := omega) only [ist_eq, ist_ne, upd_ne, rset_ne, lkFill, lwM_fr, lwM_0]))) (fun a a1 a2 => (by first | rfl | (simp (disch := omega) only [ist_eq, ist_ne, upd_ne, rset_ne, lkFill, lwM_fr, lwM_0]))) (by first | rfl | (simp (disch := omega) only [ist_eq, ist_ne, upd_ne, rset_ne, lkFill, lwM_fr, lwM_0])), hW.fr (fun a a1 a2 => (by first | rfl | (simp (disch := omega) only [ist_eq, ist_ne, upd_ne, rset_ne, lkFill, lwM_fr, lwM_0]))) (fun a a1 a2 => (by first | rfl | (simp (disch := omega) only [ist_eq, ist_ne, upd_ne, rset_ne, lkFill, lwM_fr, lwM_0]))) (by first | rfl | (simp (disch := omega) only [ist_eq, ist_ne, upd_ne, rset_ne, lkFill, lwM_fr, lwM_0])), hF.fr (fun a a1 a2 => (by first | rfl | (simp (disch := omega) only [ist_eq, ist_ne, upd_ne, rset_ne, lkFill, lwM_fr, lwM_0]))) (fun a a1 a2 => (by first | rfl | (simp (disch := omega) only [ist_eq, ist_ne, upd_ne, rset_ne, lkFill, lwM_fr, lwM_0]))) (fun j j1 j2 => (by first | rfl | (simp (disch := omega) only [ist_eq, ist_ne, upd_ne, rset_ne, lkFill, lwM_fr, lwM_0]))), hT.fr (fun a a1 => (by first | rfl | (simp (disch := omega) only [ist_eq, ist_ne, upd_ne, rset_ne, lkFill, lwM_fr, lwM_0]))) (fun a a1 a2 => (by first | rfl | (simp (disch := omega) only [ist_eq, ist_ne, upd_ne, rset_ne, lkFill, lwM_fr, lwM_0]))) (fun j j1 j2 => (by first | rfl | (simp (disch := omega) only [ist_eq, ist_ne, upd_ne, rset_ne, lkFill, lwM_fr, lwM_0]))), by obtain ⟨z1, z2⟩ := hO; unfold GO; rw [ist_eq, upd_eq, upd_ne (by decide), ist_eq, upd_eq, upd_ne (by decide), lwM_0 (by decide) (by decide)]; exact ⟨by rw [pick.2], z2⟩, hK.fr (by first | rfl | (simp (disch := omega) only [ist_eq, ist_ne, upd_ne, rset_ne, lkFill, lwM_fr, lwM_0])) (fun a a1 a2 => (by first | rfl | (simp (disch := omega) only [ist_eq, ist_ne, upd_ne, rset_ne, lkFill, lwM_fr, lwM_0]))) (fun x x1 => (by first | rfl | (simp (disch := omega) only [ist_eq, ist_ne, upd_ne, rset_ne, lkFill, lwM_fr, lwM_0]))) (fun j j1 j2 => (by first | rfl | (simp (disch := omega) only [ist_eq, ist_ne, upd_ne, rset_ne, lkFill, lwM_fr, lwM_0]))), hH.fr (fun a a1 a2 => (by first | rfl | (simp (disch := omega) only [ist_eq, ist_ne, upd_ne, rset_ne, lkFill, lwM_fr, lwM_0]))) (fun a a1 a2 => (by first | rfl | (simp (disch := omega) only [ist_eq, ist_ne, upd_ne, rset_ne, lkFill, lwM_fr, lwM_0]))), hC.fr (fun a a1 => (by first | rfl | (simp (disch := omega) only [ist_eq, ist_ne, upd_ne, rset_ne, lkFill, lwM_fr, lwM_0])))⟩
  · refine CallOK.mk (by decide) (by decide) (c_X10_looks (z := 0) s1 s3 n1 n3 (fun w => absurd w hs)) (c_X11_looks (z := 0) s2 s3 n2 n3 (fun w => absurd w hs)) ?_ ?_
    · unfold vLooks vLkM
      rw [if_neg hs, if_neg hs]
    · unfold wLkM
      rw [if_neg (fun w => hs w.1), if_neg (fun w => hs w.1)]
      exact hR
