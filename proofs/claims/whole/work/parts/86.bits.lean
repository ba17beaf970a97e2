/-! counting bits -/
def bm (p : Nat → Nat) : Nat → Nat → Nat
  | 0, _ => 0
  | n + 1, x => 256 * bm p n (x / 256) + p (x % 256)
def rp (m : Nat) : Nat → Nat
  | 0 => 0
  | n + 1 => 256 * rp m n + m
theorem land_spl {q b m e : Nat} (hb : b < 256) (he : e < 256) : (256 * q + b) &&& (256 * m + e) = 256 * (q &&& m) + (b &&& e) := by
  have h1 := Nat.and_div_two_pow (a := 256 * q + b) (b := 256 * m + e) (n := 8)
  have h2 := Nat.and_mod_two_pow (a := 256 * q + b) (b := 256 * m + e) (n := 8)
  rw [show (256 * q + b) / 2 ^ 8 = q by omega, show (256 * m + e) / 2 ^ 8 = m by omega] at h1
  rw [show (256 * q + b) % 2 ^ 8 = b by omega, show (256 * m + e) % 2 ^ 8 = e by omega] at h2
  generalize (256 * q + b) &&& (256 * m + e) = L at *
  generalize q &&& m = s at *
  generalize b &&& e = t at *
  omega
theorem sh1_b : ∀ b, b < 256 → ∀ r, r < 2 → (128 * r + b / 2) &&& 85 = (b / 2) &&& 85 := by decide +kernel
theorem sh1 : ∀ n x, (x / 2) &&& rp 85 n = bm (fun b => (b / 2) &&& 85) n x := by
  intro n
  induction n with
  | zero => intro x; exact Nat.and_zero _
  | succ n ih =>
    intro x
    show (x / 2) &&& (256 * rp 85 n + 85) = 256 * bm _ n (x / 256) + ((x % 256 / 2) &&& 85)
    have e : x / 2 = 256 * (x / 256 / 2) + (128 * (x / 256 % 2) + x % 256 / 2) := by omega
    have hb : x % 256 < 256 := Nat.mod_lt _ (by decide)
    have hr : x / 256 % 2 < 2 := Nat.mod_lt _ (by decide)
    rw [e, land_spl (by omega) (by decide), ih]
    generalize x % 256 = b at *
    generalize x / 256 % 2 = r at *
    exact congrArg _ (sh1_b b hb r hr)
theorem sh2_b : ∀ b, b < 256 → ∀ r, r < 4 → (64 * r + b / 4) &&& 51 = (b / 4) &&& 51 := by decide +kernel
theorem sh2 : ∀ n x, (x / 4) &&& rp 51 n = bm (fun b => (b / 4) &&& 51) n x := by
  intro n
  induction n with
  | zero => intro x; exact Nat.and_zero _
  | succ n ih =>
    intro x
    show (x / 4) &&& (256 * rp 51 n + 51) = 256 * bm _ n (x / 256) + ((x % 256 / 4) &&& 51)
    have e : x / 4 = 256 * (x / 256 / 4) + (64 * (x / 256 % 4) + x % 256 / 4) := by omega
    have hb : x % 256 < 256 := Nat.mod_lt _ (by decide)
    have hr : x / 256 % 4 < 4 := Nat.mod_lt _ (by decide)
    rw [e, land_spl (by omega) (by decide), ih]
    generalize x % 256 = b at *
    generalize x / 256 % 4 = r at *
    exact congrArg _ (sh2_b b hb r hr)
theorem sh0_b : ∀ b, b < 256 → ∀ r, r < 1 → (256 * r + b / 1) &&& 51 = (b / 1) &&& 51 := by decide +kernel
theorem sh0 : ∀ n x, (x / 1) &&& rp 51 n = bm (fun b => (b / 1) &&& 51) n x := by
  intro n
  induction n with
  | zero => intro x; exact Nat.and_zero _
  | succ n ih =>
    intro x
    show (x / 1) &&& (256 * rp 51 n + 51) = 256 * bm _ n (x / 256) + ((x % 256 / 1) &&& 51)
    have e : x / 1 = 256 * (x / 256 / 1) + (256 * (x / 256 % 1) + x % 256 / 1) := by omega
    have hb : x % 256 < 256 := Nat.mod_lt _ (by decide)
    have hr : x / 256 % 1 < 1 := Nat.mod_lt _ (by decide)
    rw [e, land_spl (by omega) (by decide), ih]
    generalize x % 256 = b at *
    generalize x / 256 % 1 = r at *
    exact congrArg _ (sh0_b b hb r hr)
theorem bm_add {p r : Nat → Nat} : ∀ n x, bm p n x + bm r n x = bm (fun b => p b + r b) n x := by
  intro n
  induction n with
  | zero => intro x; rfl
  | succ n ih =>
    intro x
    show 256 * bm p n (x / 256) + p (x % 256) + (256 * bm r n (x / 256) + r (x % 256)) = 256 * bm _ n (x / 256) + (p (x % 256) + r (x % 256))
    rw [← ih]; omega
theorem bm_cg {p r : Nat → Nat} (h : ∀ b, b < 256 → p b = r b) : ∀ n x, bm p n x = bm r n x := by
  intro n
  induction n with
  | zero => intro x; rfl
  | succ n ih =>
    intro x
    show 256 * bm p n (x / 256) + p (x % 256) = 256 * bm r n (x / 256) + r (x % 256)
    rw [ih, h _ (Nat.mod_lt _ (by decide))]
theorem bm_id : ∀ n x, x < 256 ^ n → bm (fun b => b) n x = x := by
  intro n
  induction n with
  | zero => intro x hx; show 0 = x; rw [Nat.pow_zero] at hx; omega
  | succ n ih =>
    intro x hx
    show 256 * bm _ n (x / 256) + x % 256 = x
    rw [ih _ (by rw [Nat.pow_succ] at hx; omega)]; omega
theorem bm_bm {p r : Nat → Nat} (h : ∀ b, b < 256 → r b < 256) : ∀ n x, bm p n (bm r n x) = bm (fun b => p (r b)) n x := by
  intro n
  induction n with
  | zero => intro x; rfl
  | succ n ih =>
    intro x
    have hr := h (x % 256) (Nat.mod_lt _ (by decide))
    show 256 * bm p n ((256 * bm r n (x / 256) + r (x % 256)) / 256) + p ((256 * bm r n (x / 256) + r (x % 256)) % 256) = 256 * bm _ n (x / 256) + p (r (x % 256))
    rw [show (256 * bm r n (x / 256) + r (x % 256)) / 256 = bm r n (x / 256) by omega, show (256 * bm r n (x / 256) + r (x % 256)) % 256 = r (x % 256) by omega, ih]
theorem bm_le {r : Nat → Nat} {k : Nat} (h : ∀ b, b < 256 → r b ≤ k) (hk : k < 256) : ∀ n x, bm r n x < 256 ^ n := by
  intro n
  induction n with
  | zero => intro x; show 0 < 256 ^ 0; decide
  | succ n ih =>
    intro x
    show 256 * bm r n (x / 256) + r (x % 256) < _
    have := ih (x / 256)
    have h2 := h (x % 256) (Nat.mod_lt _ (by decide))
    rw [Nat.pow_succ]; omega
theorem bm_nib {r : Nat → Nat} (h : ∀ b, b < 256 → r b % 16 ≤ 4 ∧ r b / 16 ≤ 4) : ∀ n x, (bm r n x + bm r n x / 16) &&& rp 15 n = bm (fun b => r b % 16 + r b / 16) n x := by
  intro n
  induction n with
  | zero => intro x; exact Nat.and_zero _
  | succ n ih =>
    intro x
    have hc := h (x % 256) (Nat.mod_lt _ (by decide))
    have hq : bm r n (x / 256) % 16 ≤ 4 := by
      cases n with
      | zero => show 0 % 16 ≤ 4; decide
      | succ n =>
        have hc := h (x / 256 % 256) (Nat.mod_lt _ (by decide))
        show (256 * bm r n (x / 256 / 256) + r (x / 256 % 256)) % 16 ≤ 4
        omega
    have ih' := ih (x / 256)
    show ((256 * bm r n (x / 256) + r (x % 256)) + (256 * bm r n (x / 256) + r (x % 256)) / 16) &&& (256 * rp 15 n + 15) = 256 * bm _ n (x / 256) + (r (x % 256) % 16 + r (x % 256) / 16)
    rw [← ih']
    clear ih' ih
    generalize bm r n (x / 256) = q at *
    generalize r (x % 256) = c at *
    have e : 256 * q + c + (256 * q + c) / 16 = 256 * (q + q / 16) + (16 * (q % 16) + c + c / 16) := by omega
    rw [e, land_spl (by omega) (by decide)]
    have e2 : (16 * (q % 16) + c + c / 16) &&& 15 = (16 * (q % 16) + c + c / 16) % 2 ^ 4 := Nat.and_two_pow_sub_one_eq_mod _ 4
    rw [e2]
    omega
def po (b : Nat) : Nat := b % 2 + b / 2 % 2 + b / 4 % 2 + b / 8 % 2 + b / 16 % 2 + b / 32 % 2 + b / 64 % 2 + b / 128 % 2
def po1 (b : Nat) : Nat := b - ((b / 2) &&& 85)
def po2 (b : Nat) : Nat := (po1 b &&& 51) + ((po1 b / 4) &&& 51)
theorem po1_ok : ∀ b, b < 256 → ((b / 2) &&& 85) ≤ b ∧ po1 b < 256 := by decide +kernel
theorem po2_ok : ∀ b, b < 256 → (po2 b % 16 ≤ 4 ∧ po2 b / 16 ≤ 4) ∧ po2 b % 16 + po2 b / 16 = po b := by decide +kernel
theorem po_le : ∀ b, b < 256 → po b ≤ 8 := by decide +kernel
theorem po_sum {x : Nat} : (let y := bm po 8 x; let a := y + y / 256; let b := a + a / 65536; let c := b + b / 4294967296; c % 128) = po (x % 256) + po (x / 256 % 256) + po (x / 256 / 256 % 256) + po (x / 256 / 256 / 256 % 256) + po (x / 256 / 256 / 256 / 256 % 256) + po (x / 256 / 256 / 256 / 256 / 256 % 256) + po (x / 256 / 256 / 256 / 256 / 256 / 256 % 256) + po (x / 256 / 256 / 256 / 256 / 256 / 256 / 256 % 256) := by
  have h := fun z : Nat => po_le (z % 256) (Nat.mod_lt _ (by decide))
  have e : bm po 8 x = 256 * (256 * (256 * (256 * (256 * (256 * (256 * (256 * 0 + po (x / 256 / 256 / 256 / 256 / 256 / 256 / 256 % 256)) + po (x / 256 / 256 / 256 / 256 / 256 / 256 % 256)) + po (x / 256 / 256 / 256 / 256 / 256 % 256)) + po (x / 256 / 256 / 256 / 256 % 256)) + po (x / 256 / 256 / 256 % 256)) + po (x / 256 / 256 % 256)) + po (x / 256 % 256)) + po (x % 256) := rfl
  rw [e]
  have h0 := h x
  have h1 := h (x / 256)
  have h2 := h (x / 256 / 256)
  have h3 := h (x / 256 / 256 / 256)
  have h4 := h (x / 256 / 256 / 256 / 256)
  have h5 := h (x / 256 / 256 / 256 / 256 / 256)
  have h6 := h (x / 256 / 256 / 256 / 256 / 256 / 256)
  have h7 := h (x / 256 / 256 / 256 / 256 / 256 / 256 / 256)
  clear e h
  generalize po (x % 256) = p0 at *
  generalize po (x / 256 % 256) = p1 at *
  generalize po (x / 256 / 256 % 256) = p2 at *
  generalize po (x / 256 / 256 / 256 % 256) = p3 at *
  generalize po (x / 256 / 256 / 256 / 256 % 256) = p4 at *
  generalize po (x / 256 / 256 / 256 / 256 / 256 % 256) = p5 at *
  generalize po (x / 256 / 256 / 256 / 256 / 256 / 256 % 256) = p6 at *
  generalize po (x / 256 / 256 / 256 / 256 / 256 / 256 / 256 % 256) = p7 at *
  generalize hy : 256 * (256 * (256 * (256 * (256 * (256 * (256 * (256 * 0 + p7) + p6) + p5) + p4) + p3) + p2) + p1) + p0 = y
  have y1 : y / 256 = 256 * (256 * (256 * (256 * (256 * (256 * p7 + p6) + p5) + p4) + p3) + p2) + p1 := by omega
  show (y + y / 256 + (y + y / 256) / 65536 + (y + y / 256 + (y + y / 256) / 65536) / 4294967296) % 128 = _
  generalize ha : y + y / 256 = a
  have a0 : a = 256 * (256 * (256 * (256 * (256 * (256 * (256 * p7 + (p6 + p7)) + (p5 + p6)) + (p4 + p5)) + (p3 + p4)) + (p2 + p3)) + (p1 + p2)) + (p0 + p1) := by omega
  clear ha hy y1
  have a1 : a / 65536 = 256 * (256 * (256 * (256 * (256 * p7 + (p6 + p7)) + (p5 + p6)) + (p4 + p5)) + (p3 + p4)) + (p2 + p3) := by omega
  generalize hb : a + a / 65536 = b
  have b0 : b = 4294967296 * (256 * (256 * (256 * p7 + (p6 + p7)) + (p5 + p6 + p7)) + (p4 + p5 + p6 + p7)) + (256 * (256 * (256 * (p3 + p4 + p5 + p6) + (p2 + p3 + p4 + p5)) + (p1 + p2 + p3 + p4)) + (p0 + p1 + p2 + p3)) := by omega
  clear hb a0 a1
  have b1 : b / 4294967296 = 256 * (256 * (256 * p7 + (p6 + p7)) + (p5 + p6 + p7)) + (p4 + p5 + p6 + p7) := by omega
  rw [b1]
  clear b1
  omega
def bS (x : Nat) : Nat → Nat
  | 0 => 0
  | n + 1 => bS x n + x / 2 ^ n % 2
theorem bS_8 {x n : Nat} : bS x (n + 8) = bS x n + po (x / 2 ^ n % 256) := by
  show bS x n + x / 2 ^ n % 2 + x / 2 ^ (n + 1) % 2 + x / 2 ^ (n + 2) % 2 + x / 2 ^ (n + 3) % 2 + x / 2 ^ (n + 4) % 2 + x / 2 ^ (n + 5) % 2 + x / 2 ^ (n + 6) % 2 + x / 2 ^ (n + 7) % 2 = _
  unfold po
  simp only [Nat.pow_add, ← Nat.div_div_eq_div_mul]
  generalize x / 2 ^ n = y
  omega
theorem bS_po {x : Nat} : bS x 64 = po (x % 256) + po (x / 256 % 256) + po (x / 256 / 256 % 256) + po (x / 256 / 256 / 256 % 256) + po (x / 256 / 256 / 256 / 256 % 256) + po (x / 256 / 256 / 256 / 256 / 256 % 256) + po (x / 256 / 256 / 256 / 256 / 256 / 256 % 256) + po (x / 256 / 256 / 256 / 256 / 256 / 256 / 256 % 256) := by
  rw [bS_8 (n := 56), bS_8 (n := 48), bS_8 (n := 40), bS_8 (n := 32), bS_8 (n := 24), bS_8 (n := 16), bS_8 (n := 8), bS_8 (n := 0)]
  have e : ∀ n, x / 2 ^ (n + 8) = x / 2 ^ n / 256 := fun n => by rw [Nat.pow_add, ← Nat.div_div_eq_div_mul]
  rw [e 48, e 40, e 32, e 24, e 16, e 8, e 0, Nat.pow_zero, Nat.div_one]
  show 0 + _ + _ + _ + _ + _ + _ + _ + _ = _
  omega
/-! the machine's steps as numbers -/
abbrev U (x : Int64) : Nat := x.toUInt64.toNat
theorem U_lt (x : Int64) : U x < 2 ^ 64 := UInt64.toNat_lt _
theorem U_add (a b : Int64) : U (a + b) = (U a + U b) % 2 ^ 64 := UInt64.toNat_add _ _
theorem U_sub (a b : Int64) : U (a - b) = (2 ^ 64 - U b + U a) % 2 ^ 64 := UInt64.toNat_sub _ _
theorem U_and (a b : Int64) : U (a &&& b) = U a &&& U b := UInt64.toNat_and _ _
theorem U_or (a b : Int64) : U (a ||| b) = U a ||| U b := UInt64.toNat_or _ _
theorem U_us {x : Int64} {k : Int32} {n : Nat} (h : (k.toInt64.toUInt64 &&& Int64.toUInt64 63).toNat = n) (hn : n < 64) : U (us x k) = U x / 2 ^ n := by
  unfold us
  show (x.toUInt64 >>> (k.toInt64.toUInt64 &&& Int64.toUInt64 63)).toNat = _
  rw [UInt64.toNat_shiftRight, h, Nat.mod_eq_of_lt hn, Nat.shiftRight_eq_div_pow]
theorem bc_1 (x : Int64) : U (bc1 x) = bm po1 8 (U x) := by
  unfold bc1
  rw [U_sub, U_and, U_us (n := 1) (by decide) (by decide), show U 6148914691236517205 = rp 85 8 by decide, sh1 8 (U x)]
  have hx := U_lt x
  have h1 : bm po1 8 (U x) + bm (fun b => (b / 2) &&& 85) 8 (U x) = U x := by
    rw [bm_add, bm_cg (p := fun b => po1 b + ((b / 2) &&& 85)) (r := fun b => b) (fun b hb => Nat.sub_add_cancel (po1_ok b hb).1), bm_id 8 _ (by omega)]
  show _ = bm po1 8 (U x)
  generalize bm po1 8 (U x) = A at *
  generalize bm (fun b => (b / 2) &&& 85) 8 (U x) = B at *
  generalize U x = X at *
  omega
theorem bc_2 (x : Int64) : U (bc2 (bc1 x)) = bm po2 8 (U x) := by
  unfold bc2
  have e0 := sh0 8 (U (bc1 x))
  rw [Nat.div_one] at e0
  rw [U_add, U_and, U_and, U_us (n := 2) (by decide) (by decide), show U 3689348814741910323 = rp 51 8 by decide, sh2 8 (U (bc1 x)), e0, bc_1, bm_bm (fun b hb => (po1_ok b hb).2), bm_bm (fun b hb => (po1_ok b hb).2), bm_add]
  have h : bm (fun b => (po1 b / 1 &&& 51) + (po1 b / 4 &&& 51)) 8 (U x) = bm po2 8 (U x) := bm_cg (fun b _ => by rw [Nat.div_one]; rfl) 8 (U x)
  rw [h]
  refine Nat.mod_eq_of_lt (Nat.lt_of_lt_of_le (bm_le (k := 68) (fun b hb => ?_) (by decide) 8 _) (by decide))
  have := (po2_ok b hb).1
  omega
theorem bc_3 (x : Int64) : U (bc3 (bc2 (bc1 x))) = bm po 8 (U x) := by
  unfold bc3
  rw [U_and, U_add, U_us (n := 4) (by decide) (by decide), show U 1085102592571150095 = rp 15 8 by decide, bc_2]
  have h := bm_nib (fun b hb => (po2_ok b hb).1) 8 (U x)
  have h2 : bm po2 8 (U x) < 2 ^ 63 := by
    show 256 * bm po2 7 (U x / 256) + po2 (U x % 256) < _
    have h3 := (po2_ok (U x % 256) (Nat.mod_lt _ (by decide))).1
    have h4 : bm po2 7 (U x / 256) < 2 ^ 55 := by
      show 256 * bm po2 6 (U x / 256 / 256) + po2 (U x / 256 % 256) < _
      have h3 := (po2_ok (U x / 256 % 256) (Nat.mod_lt _ (by decide))).1
      have h4 : bm po2 6 (U x / 256 / 256) < 2 ^ 47 := by
        have e : bm po2 6 (U x / 256 / 256) = 256 * bm po2 5 (U x / 256 / 256 / 256) + po2 (U x / 256 / 256 % 256) := rfl
        have h3 := (po2_ok (U x / 256 / 256 % 256) (Nat.mod_lt _ (by decide))).1
        have h5 : bm po2 5 (U x / 256 / 256 / 256) < 256 ^ 5 := bm_le (k := 68) (fun b hb => by have := (po2_ok b hb).1; omega) (by decide) 5 _
        have h6 : bm po2 5 (U x / 256 / 256 / 256) < 2 ^ 39 := by
          have e : bm po2 5 (U x / 256 / 256 / 256) = 256 * bm po2 4 (U x / 256 / 256 / 256 / 256) + po2 (U x / 256 / 256 / 256 % 256) := rfl
          have h3 := (po2_ok (U x / 256 / 256 / 256 % 256) (Nat.mod_lt _ (by decide))).1
          have h7 : bm po2 4 (U x / 256 / 256 / 256 / 256) < 2 ^ 31 := by
            have e : bm po2 4 (U x / 256 / 256 / 256 / 256) = 256 * bm po2 3 (U x / 256 / 256 / 256 / 256 / 256) + po2 (U x / 256 / 256 / 256 / 256 % 256) := rfl
            have h3 := (po2_ok (U x / 256 / 256 / 256 / 256 % 256) (Nat.mod_lt _ (by decide))).1
            have h7 : bm po2 3 (U x / 256 / 256 / 256 / 256 / 256) < 2 ^ 23 := by
              have e : bm po2 3 (U x / 256 / 256 / 256 / 256 / 256) = 256 * (256 * (256 * 0 + po2 (U x / 256 / 256 / 256 / 256 / 256 / 256 / 256 % 256)) + po2 (U x / 256 / 256 / 256 / 256 / 256 / 256 % 256)) + po2 (U x / 256 / 256 / 256 / 256 / 256 % 256) := rfl
              have h3 := (po2_ok (U x / 256 / 256 / 256 / 256 / 256 / 256 / 256 % 256) (Nat.mod_lt _ (by decide))).1
              have h4 := (po2_ok (U x / 256 / 256 / 256 / 256 / 256 / 256 % 256) (Nat.mod_lt _ (by decide))).1
              have h5 := (po2_ok (U x / 256 / 256 / 256 / 256 / 256 % 256) (Nat.mod_lt _ (by decide))).1
              omega
            omega
          omega
        omega
      omega
    omega
  rw [Nat.mod_eq_of_lt (by omega)]
  exact h.trans (bm_cg (fun b hb => (po2_ok b hb).2) 8 (U x))
