/-! warned -/
theorem bm_po {x : Nat} : bm po 8 x < 2 ^ 60 := by
  have h := fun z : Nat => po_le (z % 256) (Nat.mod_lt _ (by decide))
  have e : bm po 8 x = 256 * (256 * (256 * (256 * (256 * (256 * (256 * (256 * 0 + po (x / 256 / 256 / 256 / 256 / 256 / 256 / 256 % 256)) + po (x / 256 / 256 / 256 / 256 / 256 / 256 % 256)) + po (x / 256 / 256 / 256 / 256 / 256 % 256)) + po (x / 256 / 256 / 256 / 256 % 256)) + po (x / 256 / 256 / 256 % 256)) + po (x / 256 / 256 % 256)) + po (x / 256 % 256)) + po (x % 256) := rfl
  have h0 := h x
  have h1 := h (x / 256)
  have h2 := h (x / 256 / 256)
  have h3 := h (x / 256 / 256 / 256)
  have h4 := h (x / 256 / 256 / 256 / 256)
  have h5 := h (x / 256 / 256 / 256 / 256 / 256)
  have h6 := h (x / 256 / 256 / 256 / 256 / 256 / 256)
  have h7 := h (x / 256 / 256 / 256 / 256 / 256 / 256 / 256)
  rw [e]
  clear e h
  omega
theorem low7 (w : Int64) : w.toInt32 &&& 127 = nI (U w % 128) := by
  apply Int32.toBitVec_inj.mp
  apply BitVec.eq_of_toNat_eq
  show ((w.toBitVec.signExtend 32) &&& 127#32).toNat = (BitVec.ofNat 32 (U w % 128)).toNat
  rw [BitVec.signExtend_eq_setWidth_of_le _ (by decide), BitVec.toNat_and, BitVec.toNat_setWidth, BitVec.toNat_ofNat]
  show (w.toBitVec.toNat % 2 ^ 32) &&& 2 ^ 7 - 1 = _
  rw [Nat.and_two_pow_sub_one_eq_mod]
  show U w % 2 ^ 32 % 2 ^ 7 = U w % 128 % 2 ^ 32
  omega
theorem bcI_ok (x : Int64) : bcI x = nI (bS (U x) 64) := by
  unfold bcI
  rw [low7]
  have e := po_sum (x := U x)
  have hb := bm_po (x := U x)
  rw [bS_po, ← e]
  unfold bc6 bc5 bc4
  simp only [U_add]
  rw [U_us (n := 8) (by decide) (by decide), U_us (n := 16) (by decide) (by decide), U_us (n := 32) (by decide) (by decide)]
  simp only [U_add]
  rw [U_us (n := 8) (by decide) (by decide), U_us (n := 16) (by decide) (by decide)]
  simp only [U_add]
  rw [U_us (n := 8) (by decide) (by decide), bc_3]
  generalize bm po 8 (U x) = y at hb ⊢
  show nI _ = nI ((y + y / 256 + (y + y / 256) / 65536 + (y + y / 256 + (y + y / 256) / 65536) / 4294967296) % 128)
  rw [Nat.mod_eq_of_lt (a := y + y / 2 ^ 8) (by omega)]
  rw [show y / 2 ^ 8 = y / 256 from rfl]
  generalize ha : y + y / 256 = a
  rw [Nat.mod_eq_of_lt (a := a + a / 2 ^ 16) (by omega)]
  rw [show a / 2 ^ 16 = a / 65536 from rfl]
  generalize hb2 : a + a / 65536 = b
  rw [Nat.mod_eq_of_lt (a := b + b / 2 ^ 32) (by omega)]
theorem vp_n {x : Int32} {n : Nat} (h : vp_in x n) : ∃ c, x = nI c ∧ c < n := by
  obtain ⟨j, hj, e⟩ := nI_of (fun q => h (Or.inl q))
  have := vp_lt h
  rw [e, nI_clamp hj] at this
  exact ⟨j, e, this⟩
theorem bit_n : ∀ c, c < 64 → U ((1 : Int64) <<< ((nI c).toInt64 &&& 63)) = 2 ^ c := by decide +kernel
theorem sMs_bit {fell wc wm : Nat → Int32} {m : Int32} : ∀ n, (∀ w, w < n → vp_in (wc w) 64) → ∀ c, c < 64 → (U (sMs fell wc wm m n) / 2 ^ c % 2 = 1 ↔ ∃ w, w < n ∧ cT fell wc wm m w ∧ wc w = nI c) := by
  intro n
  induction n with
  | zero =>
    intro _ c _
    constructor
    · intro q
      have e : U (sMs fell wc wm m 0) = 0 := rfl
      rw [e, Nat.zero_div] at q
      exact absurd q (by decide)
    · intro ⟨w, h, _⟩; omega
  | succ n ih =>
    intro hw c hc
    have ih' := ih (fun w h => hw w (by omega)) c hc
    show U (if cT fell wc wm m n then sMs fell wc wm m n ||| ((1 : Int64) <<< ((wc n).toInt64 &&& 63)) else sMs fell wc wm m n) / 2 ^ c % 2 = 1 ↔ _
    by_cases q : cT fell wc wm m n
    · rw [if_pos q, U_or]
      have hv := hw n (by omega)
      obtain ⟨c0, e0, h0⟩ : ∃ c0, wc n = nI c0 ∧ c0 < 64 := vp_n hv
      rw [e0, bit_n c0 h0]
      have t : ∀ x : Nat, (x / 2 ^ c % 2 = 1 ↔ x.testBit c = true) := fun x => by rw [Nat.testBit_eq_decide_div_mod_eq, decide_eq_true_iff]
      rw [t] at ih' ⊢
      rw [Nat.testBit_or, Bool.or_eq_true, ih', Nat.testBit_two_pow, decide_eq_true_iff]
      constructor
      · rintro (⟨w, h1, h2, h3⟩ | h)
        · exact ⟨w, by omega, h2, h3⟩
        · exact ⟨n, by omega, q, by rw [e0, h]⟩
      · rintro ⟨w, h1, h2, h3⟩
        by_cases e : w = n
        · subst e
          right
          rw [e0] at h3
          have := congrArg Int32.toInt h3
          rw [nI_toInt (by omega), nI_toInt (by omega)] at this
          omega
        · exact Or.inl ⟨w, by omega, h2, h3⟩
    · rw [if_neg q, ih']
      constructor
      · rintro ⟨w, h1, h2, h3⟩; exact ⟨w, by omega, h2, h3⟩
      · rintro ⟨w, h1, h2, h3⟩
        by_cases e : w = n
        · subst e; exact absurd h2 q
        · exact ⟨w, by omega, h2, h3⟩
theorem missed {fell wc wm : Nat → Int32} {m : Int32} {Wn : Nat} (hw : ∀ w, w < Wn → vp_in (wc w) 64) : ∀ c, c ≤ 64 → sCf fell c = mMs fell wc wm m Wn c + nI (bS (U (sMs fell wc wm m Wn)) c) := by
  intro c
  induction c with
  | zero => intro _; rfl
  | succ c ih =>
    intro hc
    have hb := sMs_bit (fell := fell) (wm := wm) (m := m) Wn hw c (by omega)
    show sCf fell c + (if fell c < 0 then 0 else 1) = mMs fell wc wm m Wn c + (if msP fell wc wm m c Wn then 1 else 0) + nI (bS _ c + U (sMs fell wc wm m Wn) / 2 ^ c % 2)
    rw [ih (by omega), ← nI_a]
    have hx : U (sMs fell wc wm m Wn) / 2 ^ c % 2 < 2 := Nat.mod_lt _ (by decide)
    generalize U (sMs fell wc wm m Wn) / 2 ^ c % 2 = x at *
    have key : (if fell c < 0 then (0 : Int32) else 1) = (if msP fell wc wm m c Wn then 1 else 0) + nI x := by
      by_cases q : fell c < 0
      · have hx0 : ¬ x = 1 := fun z => by
          obtain ⟨w, h1, h2, h3⟩ := hb.mp z
          have h4 := h2.1
          rw [h3, nI_clamp (by omega)] at h4
          exact h4 q
        have e : x = 0 := by omega
        rw [if_pos q, if_neg (fun z => z.1 q), e]; rfl
      · rw [if_neg q]
        by_cases p : x = 1
        · obtain ⟨w, h1, h2, h3⟩ := hb.mp p
          rw [if_neg (fun z => z.2 w h1 ⟨h3, h2⟩), p]; rfl
        · have e : x = 0 := by omega
          rw [if_pos ⟨q, fun w h1 h2 => p (hb.mpr ⟨w, h1, h2.2, h2.1⟩)⟩, e]; rfl
    rw [key, Int32.add_assoc, Int32.add_assoc, ← Int32.add_assoc (nI _) _ (nI x), Int32.add_comm (nI _), Int32.add_assoc]
theorem cT_cg {f g wc wm : Nat → Int32} {m : Int32} {w : Nat} (h : ∀ c, c < 64 → f c = g c) (hw : vp_in (wc w) 64) : cT f wc wm m w ↔ cT g wc wm m w := by
  unfold cT; rw [h _ (vp_lt hw)]
theorem warn_cg {f g wc wm : Nat → Int32} {m mo : Int32} (h : ∀ c, c < 64 → f c = g c) : ∀ n, (∀ w, w < n → vp_in (wc w) 64) → sTw f wc wm m n = sTw g wc wm m n ∧ sOw f wc wm mo m n = sOw g wc wm mo m n ∧ sMs f wc wm m n = sMs g wc wm m n := by
  intro n
  induction n with
  | zero => intro _; exact ⟨rfl, rfl, rfl⟩
  | succ n ih =>
    intro hw
    obtain ⟨i1, i2, i3⟩ := ih (fun w q => hw w (by omega))
    have e := cT_cg (wm := wm) (m := m) h (hw n (by omega))
    show sTw f wc wm m n + (if cT f wc wm m n then 1 else 0) = sTw g wc wm m n + (if cT g wc wm m n then 1 else 0) ∧ sOw f wc wm mo m n + (if m < mo - wm n ∧ ¬ cT f wc wm m n then 1 else 0) = sOw g wc wm mo m n + (if m < mo - wm n ∧ ¬ cT g wc wm m n then 1 else 0) ∧ (if cT f wc wm m n then sMs f wc wm m n ||| _ else sMs f wc wm m n) = (if cT g wc wm m n then sMs g wc wm m n ||| _ else sMs g wc wm m n)
    rw [i1, i2, i3]
    by_cases q : cT f wc wm m n
    · rw [if_pos q, if_pos (e.mp q), if_neg (fun z => z.2 q), if_neg (fun z => z.2 (e.mp q)), if_pos q, if_pos (e.mp q)]
      exact ⟨rfl, rfl, rfl⟩
    · rw [if_neg q, if_neg (fun z => q (e.mpr z)), if_neg q, if_neg (fun z => q (e.mpr z))]
      refine ⟨rfl, ?_, rfl⟩
      by_cases p : m < mo - wm n
      · rw [if_pos ⟨p, q⟩, if_pos ⟨p, fun z => q (e.mpr z)⟩]
      · rw [if_neg (fun z => p z.1), if_neg (fun z => p z.1)]
theorem three {what : Int32} : inR what 0 2 ↔ what = 0 ∨ what = 1 ∨ what = 2 := by
  constructor
  · intro h
    obtain ⟨j, e, h1, h2⟩ := nI_rng h
    have h3 : (j : Int) ≤ 2 := h1
    have h4 : j = 0 ∨ j = 1 ∨ j = 2 := by omega
    rw [e]
    rcases h4 with h | h | h
    · subst h; exact Or.inl rfl
    · subst h; exact Or.inr (Or.inl rfl)
    · subst h; exact Or.inr (Or.inr rfl)
  · rintro (h | h | h)
    · subst h; unfold inR; decide
    · subst h; unfold inR; decide
    · subst h; unfold inR; decide
set_option maxHeartbeats 2000000 in
theorem k_warned {I J : Wd} (h : Rel I J) (n what : Int32) : CallOK mX10_warned mX11_warned [.int n, .int what] I J := by
  obtain ⟨N, P, K, L, Wn, hB, hS, hL, hW, hF, hT, hO, hK, hH, hC⟩ := h
  have hR : Rel I J := ⟨N, P, K, L, Wn, hB, hS, hL, hW, hF, hT, hO, hK, hH, hC⟩
  obtain ⟨⟨⟨n1, n2, n3⟩, p1, p2, p3⟩, ⟨u1, u2, u3, u4⟩, ⟨cc, cr⟩, ⟨m, m1, m2, m3, m4⟩, ⟨r1, r2, r3⟩, g6, g7, g8, g9, g10, g11, g12, g13⟩ := id hB
  obtain ⟨⟨w1, w2, w3⟩, ⟨w4, w5⟩, w6⟩ := id hW
  refine CallOK.mk (by decide) (by decide) (c_X10_warned w1 w3 w6) (c_X11_warned w2 w3 (by rw [← w4]; exact w6)) ?_ ?_
  · obtain ⟨x1, x2, x3⟩ := warn_cg (wm := I 56) (m := n) (mo := I 6 1) (fun c hc => (cc c hc).2.2.2) Wn w6
    rw [x1, x2, x3, r3, w4, w5, m1, m2]
    have hmi := missed (fell := J 4) (wc := J 41) (wm := J 42) (m := n) (Wn := Wn) (by rw [← w4]; exact w6) 64 (Nat.le_refl 64)
    rw [bcI_ok, hmi]
    have hs : mMs (J 4) (J 41) (J 42) n Wn 64 + nI (bS (U (sMs (J 4) (J 41) (J 42) n Wn)) 64) - nI (bS (U (sMs (J 4) (J 41) (J 42) n Wn)) 64) = mMs (J 4) (J 41) (J 42) n Wn 64 := Int32.add_sub_cancel _ _
    rw [hs]
    unfold vWarned
    by_cases q : inR n 1 60
    · rw [if_pos q]
      by_cases q0 : what = 0
      · rw [if_pos q0, if_pos ⟨q, three.mpr (Or.inl q0)⟩, if_neg (by rw [q0]; decide), if_pos q0]
      · rw [if_neg q0]
        by_cases q1 : what = 1
        · rw [if_pos q1, if_pos ⟨q, three.mpr (Or.inr (Or.inl q1))⟩, if_pos q1]
        · rw [if_neg q1]
          by_cases q2 : what = 2
          · rw [if_pos q2, if_pos ⟨q, three.mpr (Or.inr (Or.inr q2))⟩, if_neg q1, if_neg q0]
          · rw [if_neg q2, if_neg (fun z => (three.mp z.2).elim q0 (fun z => z.elim q1 q2))]
    · rw [if_neg q, if_neg (fun z => q z.1)]
  · exact hR
