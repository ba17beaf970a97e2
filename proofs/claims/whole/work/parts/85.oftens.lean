/-! often -/
theorem nI_mul (a b : Nat) : nI a * nI b = nI (a * b) := (Int32.ofNat_mul a b).symm
theorem nI_mod {x y : Nat} (hx : x < 2 ^ 31) (hy : y < 2 ^ 31) : nI x - nI x / nI y * nI y = nI (x % y) := by
  rw [nI_div hx hy, nI_mul, sub_n (Nat.div_mul_le_self x y)]
  have := Nat.div_add_mod x y
  rw [Nat.mul_comm] at this
  congr 1
  omega
theorem gcd_n : ∀ (k n x y : Nat), y < 2 ^ k → 2 * k ≤ n → x < 2 ^ 31 → y < 2 ^ 31 → sGcd n (nI x) (nI y) = nI (Nat.gcd x y) := by
  intro k
  induction k with
  | zero =>
    intro n x y hy _ hx hy2
    have e : y = 0 := by omega
    subst e
    rw [Nat.gcd_zero_right]
    cases n with
    | zero => rfl
    | succ n => show (if 0 < nI 0 then _ else _) = _; rw [if_neg (by decide)]
  | succ k ih =>
    intro n x y hy hn hx hy2
    obtain ⟨n', rfl⟩ : ∃ n', n = n' + 2 := ⟨n - 2, by omega⟩
    show (if 0 < nI y then sGcd (n' + 1) (nI y) (nI x - nI x / nI y * nI y) else nI x) = _
    by_cases q : y = 0
    · subst q; rw [if_neg (by decide), Nat.gcd_zero_right]
    · have q' : (0 : Int32) < nI y := by rw [show (0 : Int32) = nI 0 from rfl]; exact nI_lt (by omega) (by omega)
      rw [if_pos q', nI_mod hx hy2]
      have h1 : x % y < y := Nat.mod_lt _ (by omega)
      rw [Nat.gcd_comm x y, Nat.gcd_rec y x] 
      show (if 0 < nI (x % y) then sGcd n' (nI (x % y)) (nI y - nI y / nI (x % y) * nI (x % y)) else nI y) = _
      generalize hr : x % y = r at *
      by_cases q2 : r = 0
      · subst q2; rw [if_neg (by decide), Nat.gcd_zero_left]
      · have q2' : (0 : Int32) < nI r := by rw [show (0 : Int32) = nI 0 from rfl]; exact nI_lt (by omega) (by omega)
        rw [if_pos q2', nI_mod hy2 (by omega)]
        have h2 : y % r < r := Nat.mod_lt _ (by omega)
        have h3 : y % r + r ≤ y := by
          have h4 := Nat.div_add_mod y r
          have h5 : 1 ≤ y / r := (Nat.one_le_div_iff (by omega)).mpr (by omega)
          have h6 : r * 1 ≤ r * (y / r) := Nat.mul_le_mul_left r h5
          omega
        have h7 : y % r < 2 ^ k := by
          have : 2 ^ (k + 1) = 2 * 2 ^ k := by rw [Nat.pow_succ]; omega
          omega
        rw [ih n' r (y % r) h7 (by omega) (by omega) (by omega), Nat.gcd_rec r y, Nat.gcd_comm]
theorem oft_eq {f mo : Nat} (h : f ≤ mo) (hm : mo < 2 ^ 31) {part : Int32} : (if sGcd 100 (nI f) (nI mo) = 0 then part.toInt64 else if part = 0 then (nI f / sGcd 100 (nI f) (nI mo)).toInt64 else (nI mo / sGcd 100 (nI f) (nI mo)).toInt64) = oftM f mo part := by
  rw [gcd_n 31 100 f mo hm (by decide) (by omega) hm]
  unfold oftM
  have hg : Nat.gcd f mo ≤ mo := by
    by_cases q : mo = 0
    · subst q
      have e : f = 0 := by omega
      subst e; decide
    · exact Nat.le_of_dvd (by omega) (Nat.gcd_dvd_right f mo)
  by_cases q : mo = 0
  · subst q
    have e : f = 0 := by omega
    subst e
    rw [if_pos rfl, if_pos (by decide)]
  · rw [if_neg q]
    have hg0 : 0 < Nat.gcd f mo := Nat.gcd_pos_of_pos_right f (by omega)
    generalize Nat.gcd f mo = g at *
    have hz : ¬ nI g = 0 := by
      intro z
      have := congrArg Int32.toInt z
      rw [nI_toInt (by omega), show (0 : Int32).toInt = 0 from rfl] at this
      omega
    rw [if_neg hz]
    split
    · rw [nI_div (by omega) (by omega), lN_div (by omega) (by omega)]; exact i64n (Nat.lt_of_le_of_lt (Nat.div_le_self f g) (by omega))
    · rw [nI_div (by omega) (by omega), lN_div (by omega) (by omega)]; exact i64n (Nat.lt_of_le_of_lt (Nat.div_le_self mo g) (by omega))
set_option maxHeartbeats 2000000 in
theorem k_often {I J : Wd} (h : Rel I J) (r part : Int32) : CallOK mX10_often mX11_often [.int r, .int part] I J := by
  obtain ⟨N, P, K, L, Wn, hB, hS, hL, hW, hF, hT, hO, hK, hH, hC⟩ := h
  have hR : Rel I J := ⟨N, P, K, L, Wn, hB, hS, hL, hW, hF, hT, hO, hK, hH, hC⟩
  obtain ⟨⟨⟨n1, n2, n3⟩, p1, p2, p3⟩, ⟨u1, u2, u3, u4⟩, ⟨cc, cr⟩, ⟨m, m1, m2, m3, m4⟩, ⟨r1, r2, r3⟩, g6, g7, g8, g9, g10, g11, g12, g13⟩ := id hB
  have key : ∃ f mo : Nat, f ≤ mo ∧ mo < 2 ^ 31 ∧ (inR r 0 3 → I 11 r.toNatClampNeg = nI f ∧ I 12 r.toNatClampNeg = nI mo ∧ J 9 r.toNatClampNeg = nI f ∧ J 8 r.toNatClampNeg = nI mo) := by
    by_cases q : inR r 0 3
    · have hr := vp_lt (vpc (n := 4) q (by decide))
      obtain ⟨f, mo, e1, e2, e3, e4⟩ := m4 _ hr
      refine ⟨f, mo, e3, by omega, fun _ => ⟨e1, e2, ?_, ?_⟩⟩
      · rw [← (cr _ hr).1]; exact e1
      · rw [← (cr _ hr).2]; exact e2
    · exact ⟨0, 0, Nat.le_refl 0, by decide, fun z => absurd z q⟩
  obtain ⟨f, mo, h1, h2, h3⟩ := key
  refine CallOK.mk (by decide) (by decide) c_X10_often (c_X11_often (f := f) (mo := mo) (fun q => ⟨(h3 q).2.2.1, by omega⟩) (fun q => ⟨(h3 q).2.2.2, h2⟩)) ?_ hR
  unfold vOften
  by_cases q : inR r 0 3 ∧ inR part 0 1
  · rw [if_pos q, if_pos q, (h3 q.1).1, (h3 q.1).2.1, oft_eq h1 h2]
  · rw [if_neg q, if_neg q]
