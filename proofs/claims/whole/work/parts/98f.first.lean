/-! the first text: its tokens, its worth -/
section CG
variable {kd kd2 nm nm2 : Nat → Int32} {T : Nat}
theorem sTok_c (h1 : ∀ t, kdA kd T t = kdA kd2 T t) : sTok kd T = sTok kd2 T := by
  funext s
  cases s with
  | error e => rfl
  | ok x => exact h1 x.1
theorem sExp_c (h1 : ∀ t, kdA kd T t = kdA kd2 T t) : sExp kd T = sExp kd2 T := by
  funext k s
  unfold sExp
  rw [sTok_c h1]
theorem rLoop_c (h1 : ∀ t, kdA kd T t = kdA kd2 T t) : rLoop kd T = rLoop kd2 T := by
  funext is sub n
  induction n with
  | zero => rfl
  | succ n ih =>
    funext s
    show (match is (sTok kd T s) with | none => s | some v => rLoop kd T is sub n (sAdd v (sub (sAdv s)))) = (match is (sTok kd2 T s) with | none => s | some v => rLoop kd2 T is sub n (sAdd v (sub (sAdv s))))
    rw [sTok_c h1, ih]
theorem rTerm_c (h1 : ∀ t, kdA kd T t = kdA kd2 T t) : rTerm kd T = rTerm kd2 T := by
  funext one s; unfold rTerm; rw [rLoop_c h1]
theorem rSum_c (h1 : ∀ t, kdA kd T t = kdA kd2 T t) : rSum kd T = rSum kd2 T := by
  funext one s; unfold rSum; rw [rLoop_c h1, rTerm_c h1]
theorem rCmp_c (h1 : ∀ t, kdA kd T t = kdA kd2 T t) : rCmp kd T = rCmp kd2 T := by
  funext sum s; unfold rCmp; rw [sTok_c h1]
theorem rNot_c (h1 : ∀ t, kdA kd T t = kdA kd2 T t) : rNot kd T = rNot kd2 T := by
  funext can no sum s; unfold rNot; rw [sTok_c h1, rCmp_c h1]
theorem rAnd_c (h1 : ∀ t, kdA kd T t = kdA kd2 T t) : rAnd kd T = rAnd kd2 T := by
  funext no s; unfold rAnd; rw [rLoop_c h1]
theorem rOr_c (h1 : ∀ t, kdA kd T t = kdA kd2 T t) : rOr kd T = rOr kd2 T := by
  funext no s; unfold rOr; rw [rLoop_c h1, rAnd_c h1]
theorem rOne_c (h1 : ∀ t, kdA kd T t = kdA kd2 T t) (h2 : ∀ t, kdA kd2 T t = 2 ∨ kdA kd2 T t = 3 → nm t = nm2 t) : rOne kd nm T = rOne kd2 nm2 T := by
  funext can one or s
  have hs : sTok kd2 T s = 2 ∨ sTok kd2 T s = 3 → sNum nm s = sNum nm2 s := by
    intro h
    cases s with
    | error e => rfl
    | ok x => exact h2 x.1 h
  unfold rOne
  rw [sTok_c h1, sExp_c h1]
  by_cases c2 : sTok kd2 T s = 2
  · rw [if_pos c2, if_pos c2, hs (Or.inl c2)]
  · rw [if_neg c2, if_neg c2]
    by_cases c3 : sTok kd2 T s = 3
    · rw [if_pos c3, if_pos c3, hs (Or.inr c3)]
    · rw [if_neg c3, if_neg c3]
theorem rLv_c (h1 : ∀ t, kdA kd T t = kdA kd2 T t) (h2 : ∀ t, kdA kd2 T t = 2 ∨ kdA kd2 T t = 3 → nm t = nm2 t) : ∀ f, rLv kd nm T f = rLv kd2 nm2 T f := by
  intro f
  induction f with
  | zero =>
    show (rOne kd nm T false id id, rNot kd T false id (rSum kd T (rOne kd nm T false id id))) = (rOne kd2 nm2 T false id id, rNot kd2 T false id (rSum kd2 T (rOne kd2 nm2 T false id id)))
    rw [rOne_c h1 h2, rNot_c h1, rSum_c h1]
  | succ f ih =>
    show (rOne kd nm T true (rLv kd nm T f).1 (rOr kd T (rLv kd nm T f).2), rNot kd T true (rLv kd nm T f).2 (rSum kd T (rOne kd nm T true (rLv kd nm T f).1 (rOr kd T (rLv kd nm T f).2)))) = (rOne kd2 nm2 T true (rLv kd2 nm2 T f).1 (rOr kd2 T (rLv kd2 nm2 T f).2), rNot kd2 T true (rLv kd2 nm2 T f).2 (rSum kd2 T (rOne kd2 nm2 T true (rLv kd2 nm2 T f).1 (rOr kd2 T (rLv kd2 nm2 T f).2))))
    rw [ih, rOne_c h1 h2, rNot_c h1, rSum_c h1, rOr_c h1]
theorem sP_c (h1 : ∀ t, kdA kd T t = kdA kd2 T t) (h2 : ∀ t, kdA kd2 T t = 2 ∨ kdA kd2 T t = 3 → nm t = nm2 t) : ∀ p, sP kd nm T p = sP kd2 nm2 T p := by
  intro p
  induction p with
  | zero => rfl
  | succ p ih =>
    show rPart kd nm T p (sP kd nm T p) = rPart kd2 nm2 T p (sP kd2 nm2 T p)
    unfold rPart rE
    rw [ih, sExp_c h1, rOr_c h1, rLv_c h1 h2]
end CG
section CB
variable {b b2 : Nat → Int32} {n : Nat}
theorem st_c (h : ∀ i, i < n → b i = b2 i) {i : Nat} (hi : i < n) : isSt b i ↔ isSt b2 i := by
  unfold isSt
  rw [h i hi, h (i - 1) (by omega)]
theorem cnt_c (h : ∀ i, i < n → b i = b2 i) : ∀ i, i ≤ n → cnt b i = cnt b2 i := by
  intro i
  induction i with
  | zero => intro _; rfl
  | succ i ih =>
    intro hi
    show cnt b i + (if isSt b i then 1 else 0) = cnt b2 i + if isSt b2 i then 1 else 0
    rw [ih (by omega)]
    by_cases c : isSt b i
    · rw [if_pos c, if_pos ((st_c h (by omega)).mp c)]
    · rw [if_neg c, if_neg (fun x => c ((st_c h (by omega)).mpr x))]
theorem RE_c (h : ∀ i, i < n → b i = b2 i) {j e : Nat} (hr : RE b n j e) : RE b2 n j e := by
  obtain ⟨h1, h2, h3, h4⟩ := hr
  refine ⟨h1, h2, fun p p1 p2 => ?_, ?_⟩
  · rw [← h p (by omega), ← h (p - 1) (by omega)]; exact h3 p p1 p2
  · rcases Nat.lt_or_ge e n with q | q
    · rcases h4 with h4 | h4
      · exact Or.inl h4
      · right; rw [← h e q, ← h (e - 1) (by omega)]; exact h4
    · exact Or.inl (by omega)
theorem nv_c (h : ∀ i, i < n → b i = b2 i) {j : Nat} : ∀ l, j + l ≤ n → nv b j l = nv b2 j l := by
  intro l
  induction l with
  | zero => intro _; rfl
  | succ l ih =>
    intro hl
    show nv b j l * 10 + b (j + l) - 48 = nv b2 j l * 10 + b2 (j + l) - 48
    rw [ih (by omega), h _ (by omega)]
theorem sp_c (h : ∀ i, i < n → b i = b2 i) {j l i : Nat} (hl : j + l ≤ n) : spP b j l i ↔ spP b2 j l i := by
  constructor
  · intro x; exact ⟨x.1, fun q hq => by rw [← h _ (by omega)]; exact x.2 q hq⟩
  · intro x; exact ⟨x.1, fun q hq => by rw [h _ (by omega)]; exact x.2 q hq⟩
theorem KindOK_c (h : ∀ i, i < n → b i = b2 i) {j l : Nat} {x y : Int32} (h0 : 0 < l) (hl : j + l ≤ n) (hk : KindOK b j l x y) : KindOK b2 j l x y := by
  have e := h j (by omega)
  unfold KindOK at hk ⊢
  rw [← e]
  rcases hk with ⟨k1, k2⟩ | ⟨k1, k2, k3⟩ | hk
  · refine Or.inl ⟨k1, ?_⟩
    rcases k2 with ⟨v, v1, v2, v3⟩ | ⟨k2, k3⟩
    · exact Or.inl ⟨v, v1, (sp_c h hl).mp v2, v3⟩
    · exact Or.inr ⟨fun v hv x => k2 v hv ((sp_c h hl).mpr x), k3⟩
  · refine Or.inr (Or.inl ⟨k1, k2, ?_⟩)
    rw [← nv_c h l hl]; exact k3
  · exact Or.inr (Or.inr hk)
theorem TokOK_c {kd nm pl : Nat → Int32} {T : Nat} (h : ∀ i, i < n → b i = b2 i) (ht : TokOK b n kd nm pl T) : TokOK b2 n kd nm pl T := by
  refine ⟨by rw [ht.1, cnt_c h n (Nat.le_refl n)], fun j hj hs => ?_⟩
  obtain ⟨h1, e, h2, h3⟩ := ht.2 j hj ((st_c h hj).mpr hs)
  rw [cnt_c h j (by omega)] at h1 h3
  exact ⟨h1, e, RE_c h h2, KindOK_c h (by have := h2.1; omega) (by have := h2.1; have := h2.2.1; omega) h3⟩
theorem RE_one {j e1 e2 : Nat} (h1 : RE b n j e1) (h2 : RE b n j e2) : e1 = e2 := by
  obtain ⟨a1, a2, a3, a4⟩ := h1
  obtain ⟨b1, b2, b3, b4⟩ := h2
  rcases Nat.lt_trichotomy e1 e2 with q | q | q
  · rcases a4 with a4 | a4
    · omega
    · exact absurd (b3 e1 a1 q) a4
  · exact q
  · rcases b4 with b4 | b4
    · omega
    · exact absurd (a3 e2 b1 q) b4
theorem tk_w {j l w : Nat} {x y : Int32} (hk : KindOK b j l x y) (hr : inR (b j) 97 122) (hw : w < 14) (hs : spP b j l (w + 1)) (hu : ∀ v, v < 14 → spP b j l (v + 1) → v = w) : (w < 6 ∧ x = nI (300 + w)) ∨ (¬ w < 6 ∧ x = 3 ∧ y = nI (w - 6)) := by
  rcases hk with ⟨-, k2⟩ | ⟨k1, -⟩ | ⟨k1, -⟩
  · rcases k2 with ⟨v, v1, v2, v3⟩ | ⟨k2, -⟩
    · have := hu v v1 v2
      subst this
      exact v3
    · exact absurd hs (k2 w hw)
  · exact absurd hr k1
  · exact absurd hr k1
theorem tk_n {j l : Nat} {x y : Int32} (hk : KindOK b j l x y) (hr : ¬ inR (b j) 97 122) (hd : inR (b j) 48 57) (hl : ¬ 4 < l) : x = 2 ∧ y = nv b j l := by
  rcases hk with ⟨k1, -⟩ | ⟨-, -, k2⟩ | ⟨-, k1, -⟩
  · exact absurd k1 hr
  · rcases k2 with ⟨k2, -⟩ | ⟨-, k2⟩
    · exact absurd k2 hl
    · exact k2
  · exact absurd hd k1
theorem tk_m {j l : Nat} {x y : Int32} (hk : KindOK b j l x y) (hr : ¬ inR (b j) 97 122) (hd : ¬ inR (b j) 48 57) : x = if mkP (b j) then b j else 1 := by
  rcases hk with ⟨k1, -⟩ | ⟨-, k1, -⟩ | ⟨-, -, k2⟩
  · exact absurd k1 hr
  · exact absurd k1 hd
  · exact k2
end CB
def kd0 : Nat → Int32 := fun t => ([300, 3, 60, 2, 304, 3, 60, 2, 59, 301, 2, 60, 3, 303, 3, 59, 302, 3, 42, 2, 43, 3, 59] : List Int32).getD t 0
def nm0 : Nat → Int32 := fun t => ([0, 0, 0, 30, 0, 3, 0, 2, 0, 0, 60, 0, 2, 0, 6, 0, 0, 5, 0, 3, 0, 3, 0] : List Int32).getD t 0
theorem st_0 : ∀ j ∈ ([0, 6, 12, 14, 17, 21, 26, 28, 30, 32, 37, 40, 42, 47, 50, 55, 57, 61, 66, 68, 70, 72, 77] : List Nat), isSt (chS 0) j := by decide +kernel
theorem go_0b : (([(0, 5), (6, 11), (12, 13), (14, 16), (17, 20), (21, 25), (26, 27), (28, 29), (30, 31), (32, 36), (37, 39), (40, 41), (42, 46), (47, 49), (50, 54), (55, 56), (57, 60), (61, 65), (66, 67), (68, 69), (70, 71), (72, 76), (77, 78)] : List (Nat × Nat)).all fun x => (List.range 78).all fun p => !(decide (x.1 < p) && decide (p < x.2)) || decide (goP (chS 0 (p - 1)) (chS 0 p))) = true := by decide +kernel
theorem go_0 : ∀ x ∈ ([(0, 5), (6, 11), (12, 13), (14, 16), (17, 20), (21, 25), (26, 27), (28, 29), (30, 31), (32, 36), (37, 39), (40, 41), (42, 46), (47, 49), (50, 54), (55, 56), (57, 60), (61, 65), (66, 67), (68, 69), (70, 71), (72, 76), (77, 78)] : List (Nat × Nat)), ∀ p, p < 78 → x.1 < p → p < x.2 → goP (chS 0 (p - 1)) (chS 0 p) := by
  intro x hx p hp h1 h2
  have a := List.all_eq_true.mp (List.all_eq_true.mp go_0b x hx) p (List.mem_range.mpr hp)
  rw [decide_eq_true h1, decide_eq_true h2] at a
  exact of_decide_eq_true a
theorem en_0 : ∀ x ∈ ([(0, 5), (6, 11), (12, 13), (14, 16), (17, 20), (21, 25), (26, 27), (28, 29), (30, 31), (32, 36), (37, 39), (40, 41), (42, 46), (47, 49), (50, 54), (55, 56), (57, 60), (61, 65), (66, 67), (68, 69), (70, 71), (72, 76), (77, 78)] : List (Nat × Nat)), x.1 < x.2 ∧ x.2 ≤ 78 ∧ (x.2 = 78 ∨ ¬ goP (chS 0 (x.2 - 1)) (chS 0 x.2)) := by decide +kernel
theorem RE_0 {x : Nat × Nat} (h : x ∈ ([(0, 5), (6, 11), (12, 13), (14, 16), (17, 20), (21, 25), (26, 27), (28, 29), (30, 31), (32, 36), (37, 39), (40, 41), (42, 46), (47, 49), (50, 54), (55, 56), (57, 60), (61, 65), (66, 67), (68, 69), (70, 71), (72, 76), (77, 78)] : List (Nat × Nat))) : RE (chS 0) 78 x.1 x.2 := ⟨(en_0 x h).1, (en_0 x h).2.1, fun p h1 h2 => go_0 x h p (by have := (en_0 x h).2.1; omega) h1 h2, (en_0 x h).2.2⟩
theorem tok_0 {kd nm pl : Nat → Int32} {T : Nat} (h : TokOK (chS 0) 78 kd nm pl T) {j e t : Nat} (hm : (j, e) ∈ ([(0, 5), (6, 11), (12, 13), (14, 16), (17, 20), (21, 25), (26, 27), (28, 29), (30, 31), (32, 36), (37, 39), (40, 41), (42, 46), (47, 49), (50, 54), (55, 56), (57, 60), (61, 65), (66, 67), (68, 69), (70, 71), (72, 76), (77, 78)] : List (Nat × Nat))) (hs : isSt (chS 0) j) (hc : cnt (chS 0) j = t) (hj : j < 78) : KindOK (chS 0) j (e - j) (kd t) (nm t) := by
  obtain ⟨-, e2, h2, h3⟩ := h.2 j hj hs
  have := RE_one h2 (RE_0 hm)
  subst this
  rw [hc] at h3
  exact h3
theorem tk0_0 {kd nm pl : Nat → Int32} {T : Nat} (h : TokOK (chS 0) 78 kd nm pl T) : kd 0 = kd0 0 ∧ (kd0 0 = 2 ∨ kd0 0 = 3 → nm 0 = nm0 0) := by
  rcases tk_w (w := 0) (tok_0 h (j := 0) (e := 5) (t := 0) (by decide) (st_0 0 (by decide)) (by decide +kernel) (by decide)) (by decide +kernel) (by decide) (by decide +kernel) (by decide +kernel) with ⟨q, x⟩ | ⟨q, x, y⟩
  · exact ⟨x, fun z => absurd z (by decide)⟩
  · exact absurd (by decide) q
theorem tk0_1 {kd nm pl : Nat → Int32} {T : Nat} (h : TokOK (chS 0) 78 kd nm pl T) : kd 1 = kd0 1 ∧ (kd0 1 = 2 ∨ kd0 1 = 3 → nm 1 = nm0 1) := by
  rcases tk_w (w := 6) (tok_0 h (j := 6) (e := 11) (t := 1) (by decide) (st_0 6 (by decide)) (by decide +kernel) (by decide)) (by decide +kernel) (by decide) (by decide +kernel) (by decide +kernel) with ⟨q, x⟩ | ⟨q, x, y⟩
  · exact absurd q (by decide)
  · exact ⟨x, fun _ => y⟩
theorem tk0_2 {kd nm pl : Nat → Int32} {T : Nat} (h : TokOK (chS 0) 78 kd nm pl T) : kd 2 = kd0 2 ∧ (kd0 2 = 2 ∨ kd0 2 = 3 → nm 2 = nm0 2) := by
  have x := tk_m (tok_0 h (j := 12) (e := 13) (t := 2) (by decide) (st_0 12 (by decide)) (by decide +kernel) (by decide)) (by decide +kernel) (by decide +kernel)
  exact ⟨x.trans (by decide +kernel), fun z => absurd z (by decide)⟩
theorem tk0_3 {kd nm pl : Nat → Int32} {T : Nat} (h : TokOK (chS 0) 78 kd nm pl T) : kd 3 = kd0 3 ∧ (kd0 3 = 2 ∨ kd0 3 = 3 → nm 3 = nm0 3) := by
  obtain ⟨x, y⟩ := tk_n (tok_0 h (j := 14) (e := 16) (t := 3) (by decide) (st_0 14 (by decide)) (by decide +kernel) (by decide)) (by decide +kernel) (by decide +kernel) (by decide)
  exact ⟨x, fun _ => y.trans (by decide +kernel)⟩
theorem tk0_4 {kd nm pl : Nat → Int32} {T : Nat} (h : TokOK (chS 0) 78 kd nm pl T) : kd 4 = kd0 4 ∧ (kd0 4 = 2 ∨ kd0 4 = 3 → nm 4 = nm0 4) := by
  rcases tk_w (w := 4) (tok_0 h (j := 17) (e := 20) (t := 4) (by decide) (st_0 17 (by decide)) (by decide +kernel) (by decide)) (by decide +kernel) (by decide) (by decide +kernel) (by decide +kernel) with ⟨q, x⟩ | ⟨q, x, y⟩
  · exact ⟨x, fun z => absurd z (by decide)⟩
  · exact absurd (by decide) q
theorem tk0_5 {kd nm pl : Nat → Int32} {T : Nat} (h : TokOK (chS 0) 78 kd nm pl T) : kd 5 = kd0 5 ∧ (kd0 5 = 2 ∨ kd0 5 = 3 → nm 5 = nm0 5) := by
  rcases tk_w (w := 9) (tok_0 h (j := 21) (e := 25) (t := 5) (by decide) (st_0 21 (by decide)) (by decide +kernel) (by decide)) (by decide +kernel) (by decide) (by decide +kernel) (by decide +kernel) with ⟨q, x⟩ | ⟨q, x, y⟩
  · exact absurd q (by decide)
  · exact ⟨x, fun _ => y⟩
theorem tk0_6 {kd nm pl : Nat → Int32} {T : Nat} (h : TokOK (chS 0) 78 kd nm pl T) : kd 6 = kd0 6 ∧ (kd0 6 = 2 ∨ kd0 6 = 3 → nm 6 = nm0 6) := by
  have x := tk_m (tok_0 h (j := 26) (e := 27) (t := 6) (by decide) (st_0 26 (by decide)) (by decide +kernel) (by decide)) (by decide +kernel) (by decide +kernel)
  exact ⟨x.trans (by decide +kernel), fun z => absurd z (by decide)⟩
theorem tk0_7 {kd nm pl : Nat → Int32} {T : Nat} (h : TokOK (chS 0) 78 kd nm pl T) : kd 7 = kd0 7 ∧ (kd0 7 = 2 ∨ kd0 7 = 3 → nm 7 = nm0 7) := by
  obtain ⟨x, y⟩ := tk_n (tok_0 h (j := 28) (e := 29) (t := 7) (by decide) (st_0 28 (by decide)) (by decide +kernel) (by decide)) (by decide +kernel) (by decide +kernel) (by decide)
  exact ⟨x, fun _ => y.trans (by decide +kernel)⟩
theorem tk0_8 {kd nm pl : Nat → Int32} {T : Nat} (h : TokOK (chS 0) 78 kd nm pl T) : kd 8 = kd0 8 ∧ (kd0 8 = 2 ∨ kd0 8 = 3 → nm 8 = nm0 8) := by
  have x := tk_m (tok_0 h (j := 30) (e := 31) (t := 8) (by decide) (st_0 30 (by decide)) (by decide +kernel) (by decide)) (by decide +kernel) (by decide +kernel)
  exact ⟨x.trans (by decide +kernel), fun z => absurd z (by decide)⟩
theorem tk0_9 {kd nm pl : Nat → Int32} {T : Nat} (h : TokOK (chS 0) 78 kd nm pl T) : kd 9 = kd0 9 ∧ (kd0 9 = 2 ∨ kd0 9 = 3 → nm 9 = nm0 9) := by
  rcases tk_w (w := 1) (tok_0 h (j := 32) (e := 36) (t := 9) (by decide) (st_0 32 (by decide)) (by decide +kernel) (by decide)) (by decide +kernel) (by decide) (by decide +kernel) (by decide +kernel) with ⟨q, x⟩ | ⟨q, x, y⟩
  · exact ⟨x, fun z => absurd z (by decide)⟩
  · exact absurd (by decide) q
theorem tk0_10 {kd nm pl : Nat → Int32} {T : Nat} (h : TokOK (chS 0) 78 kd nm pl T) : kd 10 = kd0 10 ∧ (kd0 10 = 2 ∨ kd0 10 = 3 → nm 10 = nm0 10) := by
  obtain ⟨x, y⟩ := tk_n (tok_0 h (j := 37) (e := 39) (t := 10) (by decide) (st_0 37 (by decide)) (by decide +kernel) (by decide)) (by decide +kernel) (by decide +kernel) (by decide)
  exact ⟨x, fun _ => y.trans (by decide +kernel)⟩
theorem tk0_11 {kd nm pl : Nat → Int32} {T : Nat} (h : TokOK (chS 0) 78 kd nm pl T) : kd 11 = kd0 11 ∧ (kd0 11 = 2 ∨ kd0 11 = 3 → nm 11 = nm0 11) := by
  have x := tk_m (tok_0 h (j := 40) (e := 41) (t := 11) (by decide) (st_0 40 (by decide)) (by decide +kernel) (by decide)) (by decide +kernel) (by decide +kernel)
  exact ⟨x.trans (by decide +kernel), fun z => absurd z (by decide)⟩
theorem tk0_12 {kd nm pl : Nat → Int32} {T : Nat} (h : TokOK (chS 0) 78 kd nm pl T) : kd 12 = kd0 12 ∧ (kd0 12 = 2 ∨ kd0 12 = 3 → nm 12 = nm0 12) := by
  rcases tk_w (w := 8) (tok_0 h (j := 42) (e := 46) (t := 12) (by decide) (st_0 42 (by decide)) (by decide +kernel) (by decide)) (by decide +kernel) (by decide) (by decide +kernel) (by decide +kernel) with ⟨q, x⟩ | ⟨q, x, y⟩
  · exact absurd q (by decide)
  · exact ⟨x, fun _ => y⟩
theorem tk0_13 {kd nm pl : Nat → Int32} {T : Nat} (h : TokOK (chS 0) 78 kd nm pl T) : kd 13 = kd0 13 ∧ (kd0 13 = 2 ∨ kd0 13 = 3 → nm 13 = nm0 13) := by
  rcases tk_w (w := 3) (tok_0 h (j := 47) (e := 49) (t := 13) (by decide) (st_0 47 (by decide)) (by decide +kernel) (by decide)) (by decide +kernel) (by decide) (by decide +kernel) (by decide +kernel) with ⟨q, x⟩ | ⟨q, x, y⟩
  · exact ⟨x, fun z => absurd z (by decide)⟩
  · exact absurd (by decide) q
theorem tk0_14 {kd nm pl : Nat → Int32} {T : Nat} (h : TokOK (chS 0) 78 kd nm pl T) : kd 14 = kd0 14 ∧ (kd0 14 = 2 ∨ kd0 14 = 3 → nm 14 = nm0 14) := by
  rcases tk_w (w := 12) (tok_0 h (j := 50) (e := 54) (t := 14) (by decide) (st_0 50 (by decide)) (by decide +kernel) (by decide)) (by decide +kernel) (by decide) (by decide +kernel) (by decide +kernel) with ⟨q, x⟩ | ⟨q, x, y⟩
  · exact absurd q (by decide)
  · exact ⟨x, fun _ => y⟩
theorem tk0_15 {kd nm pl : Nat → Int32} {T : Nat} (h : TokOK (chS 0) 78 kd nm pl T) : kd 15 = kd0 15 ∧ (kd0 15 = 2 ∨ kd0 15 = 3 → nm 15 = nm0 15) := by
  have x := tk_m (tok_0 h (j := 55) (e := 56) (t := 15) (by decide) (st_0 55 (by decide)) (by decide +kernel) (by decide)) (by decide +kernel) (by decide +kernel)
  exact ⟨x.trans (by decide +kernel), fun z => absurd z (by decide)⟩
theorem tk0_16 {kd nm pl : Nat → Int32} {T : Nat} (h : TokOK (chS 0) 78 kd nm pl T) : kd 16 = kd0 16 ∧ (kd0 16 = 2 ∨ kd0 16 = 3 → nm 16 = nm0 16) := by
  rcases tk_w (w := 2) (tok_0 h (j := 57) (e := 60) (t := 16) (by decide) (st_0 57 (by decide)) (by decide +kernel) (by decide)) (by decide +kernel) (by decide) (by decide +kernel) (by decide +kernel) with ⟨q, x⟩ | ⟨q, x, y⟩
  · exact ⟨x, fun z => absurd z (by decide)⟩
  · exact absurd (by decide) q
theorem tk0_17 {kd nm pl : Nat → Int32} {T : Nat} (h : TokOK (chS 0) 78 kd nm pl T) : kd 17 = kd0 17 ∧ (kd0 17 = 2 ∨ kd0 17 = 3 → nm 17 = nm0 17) := by
  rcases tk_w (w := 11) (tok_0 h (j := 61) (e := 65) (t := 17) (by decide) (st_0 61 (by decide)) (by decide +kernel) (by decide)) (by decide +kernel) (by decide) (by decide +kernel) (by decide +kernel) with ⟨q, x⟩ | ⟨q, x, y⟩
  · exact absurd q (by decide)
  · exact ⟨x, fun _ => y⟩
theorem tk0_18 {kd nm pl : Nat → Int32} {T : Nat} (h : TokOK (chS 0) 78 kd nm pl T) : kd 18 = kd0 18 ∧ (kd0 18 = 2 ∨ kd0 18 = 3 → nm 18 = nm0 18) := by
  have x := tk_m (tok_0 h (j := 66) (e := 67) (t := 18) (by decide) (st_0 66 (by decide)) (by decide +kernel) (by decide)) (by decide +kernel) (by decide +kernel)
  exact ⟨x.trans (by decide +kernel), fun z => absurd z (by decide)⟩
theorem tk0_19 {kd nm pl : Nat → Int32} {T : Nat} (h : TokOK (chS 0) 78 kd nm pl T) : kd 19 = kd0 19 ∧ (kd0 19 = 2 ∨ kd0 19 = 3 → nm 19 = nm0 19) := by
  obtain ⟨x, y⟩ := tk_n (tok_0 h (j := 68) (e := 69) (t := 19) (by decide) (st_0 68 (by decide)) (by decide +kernel) (by decide)) (by decide +kernel) (by decide +kernel) (by decide)
  exact ⟨x, fun _ => y.trans (by decide +kernel)⟩
theorem tk0_20 {kd nm pl : Nat → Int32} {T : Nat} (h : TokOK (chS 0) 78 kd nm pl T) : kd 20 = kd0 20 ∧ (kd0 20 = 2 ∨ kd0 20 = 3 → nm 20 = nm0 20) := by
  have x := tk_m (tok_0 h (j := 70) (e := 71) (t := 20) (by decide) (st_0 70 (by decide)) (by decide +kernel) (by decide)) (by decide +kernel) (by decide +kernel)
  exact ⟨x.trans (by decide +kernel), fun z => absurd z (by decide)⟩
theorem tk0_21 {kd nm pl : Nat → Int32} {T : Nat} (h : TokOK (chS 0) 78 kd nm pl T) : kd 21 = kd0 21 ∧ (kd0 21 = 2 ∨ kd0 21 = 3 → nm 21 = nm0 21) := by
  rcases tk_w (w := 9) (tok_0 h (j := 72) (e := 76) (t := 21) (by decide) (st_0 72 (by decide)) (by decide +kernel) (by decide)) (by decide +kernel) (by decide) (by decide +kernel) (by decide +kernel) with ⟨q, x⟩ | ⟨q, x, y⟩
  · exact absurd q (by decide)
  · exact ⟨x, fun _ => y⟩
theorem tk0_22 {kd nm pl : Nat → Int32} {T : Nat} (h : TokOK (chS 0) 78 kd nm pl T) : kd 22 = kd0 22 ∧ (kd0 22 = 2 ∨ kd0 22 = 3 → nm 22 = nm0 22) := by
  have x := tk_m (tok_0 h (j := 77) (e := 78) (t := 22) (by decide) (st_0 77 (by decide)) (by decide +kernel) (by decide)) (by decide +kernel) (by decide +kernel)
  exact ⟨x.trans (by decide +kernel), fun z => absurd z (by decide)⟩
theorem tk0 {kd nm pl : Nat → Int32} {T : Nat} (h : TokOK (chS 0) 78 kd nm pl T) : ∀ t, t < 23 → kd t = kd0 t ∧ (kd0 t = 2 ∨ kd0 t = 3 → nm t = nm0 t) := by
  intro t ht
  match t, ht with
  | 0, _ => exact tk0_0 h
  | 1, _ => exact tk0_1 h
  | 2, _ => exact tk0_2 h
  | 3, _ => exact tk0_3 h
  | 4, _ => exact tk0_4 h
  | 5, _ => exact tk0_5 h
  | 6, _ => exact tk0_6 h
  | 7, _ => exact tk0_7 h
  | 8, _ => exact tk0_8 h
  | 9, _ => exact tk0_9 h
  | 10, _ => exact tk0_10 h
  | 11, _ => exact tk0_11 h
  | 12, _ => exact tk0_12 h
  | 13, _ => exact tk0_13 h
  | 14, _ => exact tk0_14 h
  | 15, _ => exact tk0_15 h
  | 16, _ => exact tk0_16 h
  | 17, _ => exact tk0_17 h
  | 18, _ => exact tk0_18 h
  | 19, _ => exact tk0_19 h
  | 20, _ => exact tk0_20 h
  | 21, _ => exact tk0_21 h
  | 22, _ => exact tk0_22 h
  | t + 23, ht => exact absurd ht (by omega)
def cA : List Int32 := [-1, 30, -14, -4, 2, -14, -12]
def cB : List Int32 := [60, -3, -14, -7, -11]
def cC : List Int32 := [-6, 3, -18, -4, -16]
def stEq (s : St) (t : Nat) (c : List Int32) : Bool := match s with
  | .ok x => x.1 == t && x.2 == c
  | .error _ => false
theorem stEq_ok {s : St} {t : Nat} {c : List Int32} (h : stEq s t c = true) : s = .ok (t, c) := by
  cases s with
  | error e => cases h
  | ok x =>
    obtain ⟨a, b⟩ := x
    have h2 : (a == t && b == c) = true := h
    rw [Bool.and_eq_true] at h2
    rw [eq_of_beq h2.1, eq_of_beq h2.2]
theorem sP0_1 : stEq (sP kd0 nm0 23 1) 9 cA = true := by decide +kernel
theorem sP0_2 : stEq (sP kd0 nm0 23 2) 16 (cA ++ cB) = true := by decide +kernel
theorem sP0_3 : stEq (sP kd0 nm0 23 3) 23 (cA ++ cB ++ cC) = true := by decide +kernel
theorem first_sP {kd nm pl : Nat → Int32} {T : Nat} (h : TokOK (chS 0) 78 kd nm pl T) : T = 23 ∧ sP kd nm T 1 = .ok (9, cA) ∧ sP kd nm T 2 = .ok (16, cA ++ cB) ∧ sP kd nm T 3 = .ok (23, cA ++ cB ++ cC) := by
  have hT : T = 23 := h.1.trans (by decide +kernel)
  subst hT
  have hk := tk0 h
  have h1 : ∀ t, kdA kd 23 t = kdA kd0 23 t := by
    intro t
    unfold kdA
    by_cases c : t < 23
    · rw [if_pos c, if_pos c, (hk t c).1]
    · rw [if_neg c, if_neg c]
  have h2 : ∀ t, kdA kd0 23 t = 2 ∨ kdA kd0 23 t = 3 → nm t = nm0 t := by
    intro t ht
    unfold kdA at ht
    by_cases c : t < 23
    · rw [if_pos c] at ht; exact (hk t c).2 ht
    · rw [if_neg c] at ht; exact absurd ht (by decide)
  refine ⟨rfl, ?_, ?_, ?_⟩
  · rw [sP_c h1 h2]; exact stEq_ok sP0_1
  · rw [sP_c h1 h2]; exact stEq_ok sP0_2
  · rw [sP_c h1 h2]; exact stEq_ok sP0_3
theorem ev_A (f : Nat → Int32) : ev f cA [] = [eJoin (-12) (eJoin (-14) (f 0) 30) (eJoin (-14) (f 3) 2)] := rfl
theorem ev_B (f : Nat → Int32) : ev f cB [] = [eJoin (-11) (eJoin (-14) 60 (f 2)) (f 6)] := rfl
theorem ev_C (f : Nat → Int32) : ev f cC [] = [eJoin (-16) (eJoin (-18) (f 5) 3) (f 3)] := rfl
theorem eJ_lt (a b : Int32) : eJoin (-14) a b = if a < b then 1 else 0 := rfl
theorem eJ_and (a b : Int32) : eJoin (-12) a b = if ¬ a = 0 ∧ ¬ b = 0 then 1 else 0 := rfl
theorem eJ_or (a b : Int32) : eJoin (-11) a b = if ¬ a = 0 ∨ ¬ b = 0 then 1 else 0 := rfl
theorem n10 (p : Prop) [Decidable p] : (¬ (if p then (1 : Int32) else 0) = 0) ↔ p := by
  by_cases h : p
  · rw [if_pos h]; exact ⟨fun _ => h, fun _ => by decide⟩
  · rw [if_neg h]; exact ⟨fun q => absurd rfl q, fun q => absurd q h⟩
/-- what the first text says -/
theorem first_tx {kd nm pl : Nat → Int32} {T : Nat} {c : List Int32} {E : Nat → Nat} (h : TokOK (chS 0) 78 kd nm pl T) (hP : ParsE kd nm T c E) : TxOK c E ∧ ∀ f p, p < 3 → vT c E f p = vM0 f p := by
  refine ⟨(keep_sim (by decide) h hP).1, ?_⟩
  obtain ⟨hT, s1, s2, s3⟩ := first_sP h
  obtain ⟨t, p1, p2, p3⟩ := hP
  rw [s3] at p1
  cases p1
  obtain ⟨_, c1, q1, e0⟩ := p3 0 (by decide)
  obtain ⟨_, c2, q2, e1⟩ := p3 1 (by decide)
  obtain ⟨_, c3, q3, e2⟩ := p3 2 (by decide)
  rw [s1] at q1; rw [s2] at q2; rw [s3] at q3
  cases q1; cases q2; cases q3
  obtain ⟨g0, g1, g2⟩ := sgm_3 (d0 := cA) (d1 := cB) (d2 := cC) e0 e1 e2
  intro f p hp
  rcases (show p = 0 ∨ p = 1 ∨ p = 2 by omega) with rfl | rfl | rfl
  · unfold vT vM0
    rw [g0, ev_A, eJ_and, eJ_lt, eJ_lt, if_pos (c := (0 : Nat) = 0) rfl]
    show (if _ then (1 : Int32) else 0) = _
    simp only [n10]
  · unfold vT vM0
    rw [g1, ev_B, eJ_or, eJ_lt, if_neg (c := (1 : Nat) = 0) (by decide), if_pos (c := (1 : Nat) = 1) rfl]
    show (if _ then (1 : Int32) else 0) = _
    simp only [n10]
  · unfold vT vM0
    rw [g2, ev_C, if_neg (c := (2 : Nat) = 0) (by decide), if_neg (c := (2 : Nat) = 1) (by decide)]
    rfl
