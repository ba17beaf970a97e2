/-! what the fits start from -/
theorem spn_at {K b : Nat} {kn : Int32} {J : Wd} : ∀ n i, i < n → spnM K kn b J n 27 i = J 46 (b + i) ∧ spnM K kn b J n 28 i = mLo (J 17) (J 18) (J 19) (sVal (J 22) (J 21) (J 20) kn) (J 46 (b + i)) kn 0 K ∧ spnM K kn b J n 29 i = mHi (J 17) (J 18) (J 19) (sVal (J 22) (J 21) (J 20) kn) (J 46 (b + i)) kn 0 K := by
  intro n
  induction n with
  | zero => intro i hi; omega
  | succ n ih =>
    intro i hi
    have f : ∀ a, a ≠ 0 → a ≠ 27 → a ≠ 28 → a ≠ 29 → spnM K kn b J n a = J a := fun a h0 h7 h8 h9 => spnM_fr h0 h7 h8 h9
    show spn1 K kn b (spnM K kn b J n) n 27 i = _ ∧ spn1 K kn b (spnM K kn b J n) n 28 i = _ ∧ spn1 K kn b (spnM K kn b J n) n 29 i = _
    unfold spn1
    rw [f 46 (by decide) (by decide) (by decide) (by decide)]
    rw [ist_ne (show (27 : Nat) ≠ 29 by decide), ist_ne (show (27 : Nat) ≠ 28 by decide), spanW_fr (a := 27) (by decide), ist_eq, ist_ne (show (28 : Nat) ≠ 29 by decide), ist_eq, spanW_fr (a := 28) (by decide), ist_ne (show (28 : Nat) ≠ 27 by decide), ist_eq, ist_ne (show (29 : Nat) ≠ 28 by decide), spanW_fr (a := 29) (by decide), ist_ne (show (29 : Nat) ≠ 27 by decide)]
    by_cases e : i = n
    · subst e
      rw [upd_eq, upd_eq, upd_eq, spanW_28, spanW_29]
      simp (disch := decide) only [ist_ne]
      rw [f 17 (by decide) (by decide) (by decide) (by decide), f 18 (by decide) (by decide) (by decide) (by decide), f 19 (by decide) (by decide) (by decide) (by decide), f 20 (by decide) (by decide) (by decide) (by decide), f 21 (by decide) (by decide) (by decide) (by decide), f 22 (by decide) (by decide) (by decide) (by decide)]
      exact ⟨trivial, rfl, rfl⟩
    · rw [upd_ne e, upd_ne e, upd_ne e]
      exact ih i (by omega)
theorem uM_bit {nums : Nat → Int32} : ∀ n, (∀ i, i < n → inR (nums i) 0 63) → ∀ c, c < 64 → (U (uM nums n) / 2 ^ c % 2 = 1 ↔ ∃ j, j < n ∧ nums j = nI c) := by
  intro n
  induction n with
  | zero =>
    intro _ c _
    constructor
    · intro q
      have e : U (uM nums 0) = 0 := rfl
      rw [e, Nat.zero_div] at q
      exact absurd q (by decide)
    · intro ⟨w, h, _⟩; omega
  | succ n ih =>
    intro hw c hc
    have ih' := ih (fun w h => hw w (by omega)) c hc
    show U (uM nums n ||| ((1 : Int64) <<< ((nums n).toInt64 &&& 63))) / 2 ^ c % 2 = 1 ↔ _
    rw [U_or]
    obtain ⟨c0, e0, h0⟩ := vp_n (cel (hw n (by omega))).1
    rw [e0, bit_n c0 h0]
    have t : ∀ x : Nat, (x / 2 ^ c % 2 = 1 ↔ x.testBit c = true) := fun x => by rw [Nat.testBit_eq_decide_div_mod_eq, decide_eq_true_iff]
    rw [t] at ih' ⊢
    rw [Nat.testBit_or, Bool.or_eq_true, ih', Nat.testBit_two_pow, decide_eq_true_iff]
    constructor
    · rintro (⟨w, h1, h2⟩ | h)
      · exact ⟨w, by omega, h2⟩
      · exact ⟨n, by omega, by rw [e0, h]⟩
    · rintro ⟨w, h1, h2⟩
      by_cases e : w = n
      · subst e
        right
        rw [e0] at h2
        have := congrArg Int32.toInt h2
        rw [nI_toInt (by omega), nI_toInt (by omega)] at this
        omega
      · exact Or.inl ⟨w, by omega, h2⟩
theorem us_c : ∀ c, c < 64 → ((nI c).toInt64.toUInt64 &&& Int64.toUInt64 63).toNat = c := by decide +kernel
theorem U_inj {x y : Int64} (h : U x = U y) : x = y := by
  have h2 : x.toUInt64 = y.toUInt64 := UInt64.toNat_inj.mp h
  cases x; cases y
  exact congrArg _ h2
theorem us_1 {x : Int64} {c : Nat} (hc : c < 64) : us x (nI c) &&& 1 = 0 ↔ ¬ U x / 2 ^ c % 2 = 1 := by
  have e : U (us x (nI c) &&& 1) = U x / 2 ^ c % 2 := by
    rw [U_and, U_us (us_c c hc) hc]
    exact Nat.and_two_pow_sub_one_eq_mod _ 1
  constructor
  · intro q w
    rw [q] at e
    have : U (0 : Int64) = 0 := rfl
    omega
  · intro q
    refine U_inj ?_
    have : U (0 : Int64) = 0 := rfl
    rw [e, this]
    omega
theorem uc_eq {nums f : Nat → Int32} {z : Nat} (h : ∀ i, i < z → nums i = f i) : ucP nums z ↔ ucM f z := by
  have key : ∀ i, i < z → (∀ j, j < z → inR (nums j) 0 63) → (us (uM nums i) (nums i) &&& 1 = 0 ↔ ∀ j, j < i → ¬ f j = f i) := by
    intro i hi hr
    obtain ⟨c, ec, hc⟩ := vp_n (cel (hr i hi)).1
    have b := uM_bit (nums := nums) i (fun j hj => hr j (by omega)) c hc
    rw [ec, us_1 hc, b]
    constructor
    · intro w j hj e
      exact w ⟨j, hj, by rw [h j (by omega), e, ← h i hi, ec]⟩
    · rintro w ⟨j, hj, e⟩
      exact w j hj (by rw [← h j (by omega), e, ← h i hi, ec])
  unfold ucP ucM
  constructor
  · intro w i hi
    exact ⟨by rw [← h i hi]; exact (w i hi).1, (key i hi (fun j hj => (w j hj).1)).mp (w i hi).2⟩
  · intro w i hi
    exact ⟨by rw [h i hi]; exact (w i hi).1, (key i hi (fun j hj => by rw [h j hj]; exact (w j hj).1)).mpr (w i hi).2⟩
