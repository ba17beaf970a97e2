/-! sizes gone through, needs -/
def szF : Nat → Nat → (Nat → Int32) → Nat → Int32
  | 0, _, f => f
  | i + 1, r, f => szF i (r / 5) (upd f i (tbSizes.getD (r % 5) 0))
theorem szF_hi : ∀ (i r : Nat) (f : Nat → Int32) (k : Nat), i ≤ k → szF i r f k = f k := by
  intro i
  induction i with
  | zero => intro r f k _; rfl
  | succ i ih =>
    intro r f k hk
    show szF i (r / 5) (upd f i _) k = f k
    rw [ih _ _ k (by omega), upd_ne (by omega)]
theorem szF_i {i r : Nat} {f : Nat → Int32} : szF (i + 1) r f i = tbSizes.getD (r % 5) 0 := by
  show szF i (r / 5) (upd f i _) i = _
  rw [szF_hi _ _ _ i (Nat.le_refl i), upd_eq]
theorem szF_cg : ∀ (i r : Nat) (f g : Nat → Int32) (k : Nat), k < i → szF i r f k = szF i r g k := by
  intro i
  induction i with
  | zero => intro r f g k h; omega
  | succ i ih =>
    intro r f g k hk
    by_cases e : k = i
    · subst e; rw [szF_i, szF_i]
    · show szF i (r / 5) (upd f i _) k = szF i (r / 5) (upd g i _) k
      exact ih _ _ _ k (by omega)
theorem tk_ok : ∀ (i r : Nat) (J : Wd), ((tk i r J).1 = true ↔ ∀ k, k < i → inR (szF i r (J 63) k) (J 61 k) (J 62 k)) ∧ ((tk i r J).1 = true → (tk i r J).2 63 = szF i r (J 63)) := by
  intro i
  induction i with
  | zero => intro r J; exact ⟨⟨fun _ k h => absurd h (Nat.not_lt_zero k), fun _ => rfl⟩, fun _ => rfl⟩
  | succ i ih =>
    intro r J
    by_cases h1 : tbSizes.getD (r % 5) 0 < J 61 i
    · rw [tk_lo h1]
      refine ⟨⟨fun z => absurd (show false = true from z) (by decide), fun z => ?_⟩, fun z => absurd (show false = true from z) (by decide)⟩
      have := (z i (by omega)).1
      rw [szF_i] at this
      exact absurd h1 this
    · by_cases h2 : J 62 i < tbSizes.getD (r % 5) 0
      · rw [tk_hi h1 h2]
        refine ⟨⟨fun z => absurd (show false = true from z) (by decide), fun z => ?_⟩, fun z => absurd (show false = true from z) (by decide)⟩
        have := (z i (by omega)).2
        rw [szF_i] at this
        exact absurd h2 this
      · rw [tk_go h1 h2]
        obtain ⟨i1, i2⟩ := ih (r / 5) (ist J 63 i (tbSizes.getD (r % 5) 0))
        rw [ist_eq, ist_ne (show (61 : Nat) ≠ 63 by decide), ist_ne (show (62 : Nat) ≠ 63 by decide)] at i1
        rw [ist_eq] at i2
        refine ⟨⟨fun z k hk => ?_, fun z => i1.mpr (fun k hk => z k (by omega))⟩, i2⟩
        by_cases e : k = i
        · subst e; rw [szF_i]; exact ⟨h1, h2⟩
        · exact i1.mp z k (by omega)
theorem tkA_30 : ∀ (i r : Nat) (n s : Int32) (W : Wd), (tkA i r n s W).2.2 30 = szF i r (W 30) ∧ (tkA i r n s W).1 = n + sFew (szF i r (W 30)) i ∧ (tkA i r n s W).2.1 = s + sSum (szF i r (W 30)) i := by
  intro i
  induction i with
  | zero => intro r n s W; exact ⟨rfl, (Int32.add_zero n).symm, (Int32.add_zero s).symm⟩
  | succ i ih =>
    intro r n s W
    rw [tkA_s]
    obtain ⟨i1, i2, i3⟩ := ih (r / 5) (n + (if 0 < tbSizes.getD (r % 5) 0 then 1 else 0)) (s + tbSizes.getD (r % 5) 0) (ist W 30 i (tbSizes.getD (r % 5) 0))
    rw [ist_eq] at i1 i2 i3
    refine ⟨i1, ?_, ?_⟩
    · rw [i2]
      show _ = n + (sFew (szF (i + 1) r (W 30)) i + (if 0 < szF (i + 1) r (W 30) i then 1 else 0))
      rw [szF_i, Int32.add_assoc, Int32.add_comm (if 0 < tbSizes.getD (r % 5) 0 then 1 else 0)]
      rfl
    · rw [i3]
      show _ = s + (sSum (szF (i + 1) r (W 30)) i + szF (i + 1) r (W 30) i)
      rw [szF_i, Int32.add_assoc, Int32.add_comm (tbSizes.getD (r % 5) 0)]
      rfl
theorem few_cg {f g : Nat → Int32} : ∀ n, (∀ i, i < n → f i = g i) → sFew f n = sFew g n ∧ sSum f n = sSum g n := by
  intro n
  induction n with
  | zero => intro _; exact ⟨rfl, rfl⟩
  | succ n ih =>
    intro h
    obtain ⟨i1, i2⟩ := ih (fun i hi => h i (by omega))
    show sFew f n + (if 0 < f n then 1 else 0) = sFew g n + (if 0 < g n then 1 else 0) ∧ sSum f n + f n = sSum g n + g n
    rw [i1, i2, h n (by omega)]
    exact ⟨rfl, rfl⟩
theorem nr_bit {nums : Nat → Int32} {c : Int32} : ∀ z, z ≤ 32 → ∀ k, k < 32 → bx (nrM nums c z) k = decide (k < z ∧ ¬ farP c (nums k)) := by
  intro z
  induction z with
  | zero => intro _ k hk; rw [decide_eq_false (fun w => absurd w.1 (Nat.not_lt_zero k))]; exact BitVec.getLsbD_zero
  | succ z ih =>
    intro hz k hk
    show bx (nrM nums c z ||| (if farP c (nums z) then 0 else (1 : Int32) <<< (nI z &&& 31))) k = _
    by_cases q : farP c (nums z)
    · rw [if_pos q, Int32.or_zero, ih (by omega) k hk]
      apply decide_eq_decide.mpr
      constructor
      · intro w; exact ⟨by omega, w.2⟩
      · intro w
        refine ⟨?_, w.2⟩
        by_cases e : k = z
        · subst e; exact absurd q w.2
        · omega
    · rw [if_neg q, bx_or (by omega) hk, ih (by omega) k hk]
      by_cases e : k = z
      · subst e
        rw [decide_eq_true (p := k = k) rfl, Bool.or_true, decide_eq_true (p := k < k + 1 ∧ ¬ farP c (nums k)) ⟨by omega, q⟩]
      · rw [decide_eq_false (p := k = z) e, Bool.or_false]
        apply decide_eq_decide.mpr
        exact ⟨fun w => ⟨by omega, w.2⟩, fun w => ⟨by omega, w.2⟩⟩
theorem so_eq {fc : Nat → Int32} {c : Int32} : ∀ z, soM fc c z = 0 ↔ ∀ k, k < z → farM (fc k) c := by
  intro z
  induction z with
  | zero => exact ⟨fun _ k h => absurd h (Nat.not_lt_zero k), fun _ => rfl⟩
  | succ z ih =>
    show (if farM (fc z) c then soM fc c z else 1) = 0 ↔ _
    by_cases q : farM (fc z) c
    · rw [if_pos q, ih]
      constructor
      · intro w k hk
        by_cases e : k = z
        · subst e; exact q
        · exact w k (by omega)
      · intro w k hk; exact w k (by omega)
    · rw [if_neg q]
      exact ⟨fun w => absurd w (by decide), fun w => absurd (w z (by omega)) q⟩
theorem nr_0 {nums : Nat → Int32} {c : Int32} {z : Nat} (hz : z ≤ 32) : nrM nums c z = 0 ↔ ∀ k, k < z → farP c (nums k) := by
  constructor
  · intro q k hk
    have e := nr_bit (nums := nums) (c := c) z hz k (by omega)
    rw [q] at e
    have e2 : decide (k < z ∧ ¬ farP c (nums k)) = false := by rw [← e]; exact BitVec.getLsbD_zero
    have e3 := of_decide_eq_false e2
    exact Classical.byContradiction (fun w => e3 ⟨hk, w⟩)
  · intro q
    apply Int32.toBitVec_inj.mp
    apply BitVec.eq_of_getLsbD_eq
    intro i hi
    have e := nr_bit (nums := nums) (c := c) z hz i hi
    unfold bx at e
    rw [e, decide_eq_false (fun w => w.2 (q i w.1))]
    exact BitVec.getLsbD_zero.symm
theorem far_sym {a b : Int32} (ha : vp_in a 64) (hb : vp_in b 64) : farP a b ↔ farM b a := by
  rw [far_eq ha hb]
  unfold farM
  generalize a - a / 8 * 8 = x
  generalize b - b / 8 * 8 = y
  generalize a / 8 = u
  generalize b / 8 = w
  have e : ∀ p q : Int32, (p - q) * (p - q) = (q - p) * (q - p) := fun p q => by
    rw [← Int32.neg_sub (a := q) (b := p), Int32.neg_mul, Int32.mul_neg, Int32.neg_neg]
  rw [e x y, e u w]
theorem nd_eq {nums fc sz sz2 nof : Nat → Int32} {c : Int32} {k Z : Nat} (hZ : Z ≤ 32) (hn : nof k = nrM nums c Z) (h : ∀ i, i < Z → (farP c (nums i) ↔ farM (fc i) c) ∧ sz i = sz2 i) : ∀ z, z ≤ Z → sNd nof sz k z = smM fc sz2 c z := by
  intro z
  induction z with
  | zero => intro _; rfl
  | succ z ih =>
    intro hz
    obtain ⟨e1, e2⟩ := h z (by omega)
    show sNd nof sz k z + (if bitS (nof k) z = 0 then 0 else sz z) = (if farM (fc z) c then smM fc sz2 c z else smM fc sz2 c z + sz2 z)
    rw [ih (by omega), hn, e2]
    have b := nr_bit (nums := nums) (c := c) Z hZ z (by omega)
    by_cases q : farM (fc z) c
    · rw [if_pos q, if_pos ((bS0 (by omega)).mpr (by rw [b]; exact decide_eq_false (fun w => w.2 (e1.mpr q)))), Int32.add_zero]
    · rw [if_neg q, if_neg (fun w => by rw [bS0 (by omega), b] at w; exact (of_decide_eq_false w) ⟨by omega, fun t => q (e1.mp t)⟩)]
