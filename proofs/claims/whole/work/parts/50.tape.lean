/-! where tokens begin, how far they go -/
abbrev goP (a b : Int32) : Prop := (inR a 97 122 ∧ inR b 97 122) ∨ (inR a 48 57 ∧ inR b 48 57)
abbrev isSt (b : Nat → Int32) (i : Nat) : Prop := ¬ b i = 32 ∧ ¬ b i = 10 ∧ ¬ (0 < i ∧ goP (b (i - 1)) (b i))
def cnt (b : Nat → Int32) : Nat → Nat
  | 0 => 0
  | i + 1 => cnt b i + if isSt b i then 1 else 0
def RE (b : Nat → Int32) (i j e : Nat) : Prop := j < e ∧ e ≤ i ∧ (∀ p, j < p → p < e → goP (b (p - 1)) (b p)) ∧ (e = i ∨ ¬ goP (b (e - 1)) (b e))
abbrev mkP (x : Int32) : Prop := x = 40 ∨ x = 41 ∨ x = 59 ∨ x = 43 ∨ x = 45 ∨ x = 42 ∨ x = 60 ∨ x = 61
abbrev spP (b : Nat → Int32) (j l i : Nat) : Prop := txL.getD i 0 = l ∧ ∀ q, q < l → chS i q = b (j + q)
def nv (b : Nat → Int32) (j : Nat) : Nat → Int32
  | 0 => 0
  | i + 1 => nv b j i * 10 + b (j + i) - 48
def KindOK (b : Nat → Int32) (j l : Nat) (kd nm : Int32) : Prop :=
  (inR (b j) 97 122 ∧ ((∃ w, w < 14 ∧ spP b j l (w + 1) ∧ ((w < 6 ∧ kd = nI (300 + w)) ∨ (¬ w < 6 ∧ kd = 3 ∧ nm = nI (w - 6)))) ∨ ((∀ w, w < 14 → ¬ spP b j l (w + 1)) ∧ kd = 1)))
  ∨ (¬ inR (b j) 97 122 ∧ inR (b j) 48 57 ∧ ((4 < l ∧ kd = 1) ∨ (¬ 4 < l ∧ kd = 2 ∧ nm = nv b j l)))
  ∨ (¬ inR (b j) 97 122 ∧ ¬ inR (b j) 48 57 ∧ kd = if mkP (b j) then b j else 1)
/-- the tokens of n bytes -/
def TokOK (b : Nat → Int32) (n : Nat) (kd nm pl : Nat → Int32) (T : Nat) : Prop := T = cnt b n ∧ ∀ j, j < n → isSt b j → pl (cnt b j) = nI j ∧ ∃ e, RE b n j e ∧ KindOK b j (e - j) (kd (cnt b j)) (nm (cnt b j))
theorem goP_nb {a b : Int32} (h : goP a b) : (¬ a = 32 ∧ ¬ a = 10) ∧ (¬ b = 32 ∧ ¬ b = 10) := by
  rcases h with ⟨h1, h2⟩ | ⟨h1, h2⟩ <;> refine ⟨⟨fun e => ?_, fun e => ?_⟩, fun e => ?_, fun e => ?_⟩ <;> subst e <;> first | exact absurd h1 (by decide) | exact absurd h2 (by decide)
theorem cnt_mono {b : Nat → Int32} {i k : Nat} (h : i ≤ k) : cnt b i ≤ cnt b k := by
  induction k with
  | zero => rw [show i = 0 by omega]; exact Nat.le_refl _
  | succ k ih =>
    by_cases e : i = k + 1
    · subst e; exact Nat.le_refl _
    · exact Nat.le_trans (ih (by omega)) (Nat.le_add_right _ _)
theorem cnt_le {b : Nat → Int32} {i : Nat} : cnt b i ≤ i := by
  induction i with
  | zero => exact Nat.le_refl _
  | succ i ih => show cnt b i + (if isSt b i then 1 else 0) ≤ i + 1; split <;> omega
theorem cnt_y {b : Nat → Int32} {i : Nat} (h : isSt b i) : cnt b (i + 1) = cnt b i + 1 := by show cnt b i + (if isSt b i then 1 else 0) = _; rw [if_pos h]
theorem cnt_n {b : Nat → Int32} {i : Nat} (h : ¬ isSt b i) : cnt b (i + 1) = cnt b i := by show cnt b i + (if isSt b i then 1 else 0) = _; rw [if_neg h]; rfl
theorem cnt_run {b : Nat → Int32} {j : Nat} : ∀ m, (∀ p, j < p → p < j + 1 + m → goP (b (p - 1)) (b p)) → cnt b (j + 1 + m) = cnt b (j + 1) := by
  intro m
  induction m with
  | zero => intro _; rfl
  | succ m ih =>
    intro h
    rw [← ih (fun p h1 h2 => h p h1 (by omega))]
    refine cnt_n (i := j + 1 + m) (fun q => q.2.2 ⟨by omega, h _ (by omega) (by omega)⟩)
theorem RE.cnt {b : Nat → Int32} {i j e : Nat} (h : RE b i j e) (hs : isSt b j) : cnt b e = cnt b j + 1 := by
  obtain ⟨h1, h2, h3, h4⟩ := h
  obtain ⟨m, rfl⟩ : ∃ m, e = j + 1 + m := ⟨e - (j + 1), by omega⟩
  rw [cnt_run m h3, cnt_y hs]
theorem ex_start {b : Nat → Int32} : ∀ (m p : Nat), ¬ (0 < p ∧ goP (b (p - 1)) (b p)) → (¬ b (p + m) = 32 ∧ ¬ b (p + m) = 10) → cnt b p < cnt b (p + m + 1) := by
  intro m
  induction m with
  | zero =>
    intro p h1 h2
    have k := cnt_y (b := b) (i := p) ⟨h2.1, h2.2, h1⟩
    show cnt b p < cnt b (p + 1)
    omega
  | succ m ih =>
    intro p h1 h2
    by_cases hb : b p = 32 ∨ b p = 10
    · have k := ih (p + 1) (fun q => by
        have := (goP_nb q.2).1
        rw [show p + 1 - 1 = p from rfl] at this
        rcases hb with hb | hb
        · exact this.1 hb
        · exact this.2 hb) (by rw [show p + 1 + m = p + (m + 1) by omega]; exact h2)
      have := cnt_mono (b := b) (show p ≤ p + 1 by omega)
      rw [show p + 1 + m + 1 = p + (m + 1) + 1 by omega] at k
      omega
    · have k := cnt_y (b := b) (i := p) ⟨fun q => hb (Or.inl q), fun q => hb (Or.inr q), h1⟩
      have := cnt_mono (b := b) (show p + 1 ≤ p + (m + 1) + 1 by omega)
      omega
theorem cnt0 {b : Nat → Int32} {i : Nat} (h : cnt b i = 0) (hi : 0 < i) {x : Int32} : ¬ goP (b (i - 1)) x := by
  intro q
  have k := ex_start (b := b) (i - 1) 0 (by omega) (by rw [Nat.zero_add]; exact (goP_nb q).1)
  rw [Nat.zero_add, show i - 1 + 1 = i by omega, h] at k
  omega
theorem RE_go {b : Nat → Int32} {i j : Nat} (h : RE b i j i) (g : goP (b (i - 1)) (b i)) : RE b (i + 1) j (i + 1) := by
  obtain ⟨h1, h2, h3, h4⟩ := h
  refine ⟨by omega, by omega, fun p p1 p2 => ?_, Or.inl rfl⟩
  by_cases e : p = i
  · subst e; exact g
  · exact h3 p p1 (by omega)
theorem RE_st {b : Nat → Int32} {i j e : Nat} (h : RE b i j e) (g : e < i ∨ ¬ goP (b (i - 1)) (b i)) : RE b (i + 1) j e := by
  obtain ⟨h1, h2, h3, h4⟩ := h
  refine ⟨h1, by omega, h3, Or.inr ?_⟩
  rcases g with g | g
  · exact h4.resolve_left (by omega)
  · rcases h4 with h4 | h4
    · rw [h4]; exact g
    · exact h4
theorem RE_new {b : Nat → Int32} {i : Nat} : RE b (i + 1) i (i + 1) := ⟨by omega, by omega, fun p p1 p2 => by omega, Or.inl rfl⟩
theorem RE_last {b : Nat → Int32} {i j e : Nat} (h : RE b i j e) (hs : isSt b j) (g : goP (b (i - 1)) (b i)) (hi : 0 < i) : (e = i ∧ cnt b j + 1 = cnt b i) ∨ (e < i ∧ cnt b j + 1 < cnt b i) := by
  have hc := h.cnt hs
  obtain ⟨h1, h2, h3, h4⟩ := h
  by_cases ee : e = i
  · subst ee; exact Or.inl ⟨rfl, hc.symm⟩
  · refine Or.inr ⟨by omega, ?_⟩
    have k := ex_start (b := b) (i - 1 - e) e (fun q => h4.resolve_left ee q.2) (by rw [show e + (i - 1 - e) = i - 1 by omega]; exact (goP_nb g).1)
    rw [show e + (i - 1 - e) + 1 = i by omega] at k
    omega
def tX7_isLetter : List (Nat × Instr × Nat) := [(0, .iload_n 0, 1), (1, .bipush 97, 2), (3, .if_icmp .lt 13, 3), (6, .iload_n 0, 1), (7, .bipush 122, 2), (9, .if_icmp .gt 7, 3), (12, .iconst 1, 1), (13, .goto 4, 3), (16, .iconst 0, 1), (17, .ireturn, 1)]
theorem dtX7_isLetter : dec_ok mX7_isLetter.2.1 tX7_isLetter = true := by decide +kernel
set_option maxHeartbeats 4000000 in
theorem c_X7_isLetter {I : Wd} {x : Int32} : Cal SyC mX7_isLetter 0 [.int x] I (some (.int (bi (inR x 97 122)))) I := by
  refine Cal.of (by decide) (Nat.le_of_ble_eq_true rfl) ?_
  show Bd _ _ _ _ [(0, _)] _ _ _ _
  refine b_iload_n (pc := 0) (i := 0) (dd dtX7_isLetter 0 rfl) rfl rfl ?_
  refine b_bipush (pc := 1) (v := 97) (dd dtX7_isLetter 1 rfl) (by decide) ?_
  refine b_icmp_lt (pc := 3) (tgt := 16) (dd dtX7_isLetter 2 rfl) (by decide) (fun h3 => ?_) (fun h3 => ?_)
  · refine b_ic0 (pc := 16) (dd dtX7_isLetter 8 rfl) ?_
    refine b_eq (b_zret (dd dtX7_isLetter 9 rfl) rfl (by first | rfl | exact nar_bi)) ?_ ?_
    · simp_all [bi]
    · rfl
  · refine b_iload_n (pc := 6) (i := 0) (dd dtX7_isLetter 3 rfl) rfl rfl ?_
    refine b_bipush (pc := 7) (v := 122) (dd dtX7_isLetter 4 rfl) (by decide) ?_
    refine b_icmp_gt (pc := 9) (tgt := 16) (dd dtX7_isLetter 5 rfl) (by decide) (fun h9 => ?_) (fun h9 => ?_)
    · refine b_ic0 (pc := 16) (dd dtX7_isLetter 8 rfl) ?_
      refine b_eq (b_zret (dd dtX7_isLetter 9 rfl) rfl (by first | rfl | exact nar_bi)) ?_ ?_
      · simp_all [bi]
      · rfl
    · refine b_ic1 (pc := 12) (dd dtX7_isLetter 6 rfl) ?_
      refine b_goto (pc := 13) (tgt := 17) (dd dtX7_isLetter 7 rfl) (by decide) ?_
      refine b_eq (b_zret (dd dtX7_isLetter 9 rfl) rfl (by first | rfl | exact nar_bi)) ?_ ?_
      · simp_all [bi]
      · rfl
def tX7_isDigit : List (Nat × Instr × Nat) := [(0, .iload_n 0, 1), (1, .bipush 48, 2), (3, .if_icmp .lt 13, 3), (6, .iload_n 0, 1), (7, .bipush 57, 2), (9, .if_icmp .gt 7, 3), (12, .iconst 1, 1), (13, .goto 4, 3), (16, .iconst 0, 1), (17, .ireturn, 1)]
theorem dtX7_isDigit : dec_ok mX7_isDigit.2.1 tX7_isDigit = true := by decide +kernel
set_option maxHeartbeats 4000000 in
theorem c_X7_isDigit {I : Wd} {x : Int32} : Cal SyC mX7_isDigit 0 [.int x] I (some (.int (bi (inR x 48 57)))) I := by
  refine Cal.of (by decide) (Nat.le_of_ble_eq_true rfl) ?_
  show Bd _ _ _ _ [(0, _)] _ _ _ _
  refine b_iload_n (pc := 0) (i := 0) (dd dtX7_isDigit 0 rfl) rfl rfl ?_
  refine b_bipush (pc := 1) (v := 48) (dd dtX7_isDigit 1 rfl) (by decide) ?_
  refine b_icmp_lt (pc := 3) (tgt := 16) (dd dtX7_isDigit 2 rfl) (by decide) (fun h3 => ?_) (fun h3 => ?_)
  · refine b_ic0 (pc := 16) (dd dtX7_isDigit 8 rfl) ?_
    refine b_eq (b_zret (dd dtX7_isDigit 9 rfl) rfl (by first | rfl | exact nar_bi)) ?_ ?_
    · simp_all [bi]
    · rfl
  · refine b_iload_n (pc := 6) (i := 0) (dd dtX7_isDigit 3 rfl) rfl rfl ?_
    refine b_bipush (pc := 7) (v := 57) (dd dtX7_isDigit 4 rfl) (by decide) ?_
    refine b_icmp_gt (pc := 9) (tgt := 16) (dd dtX7_isDigit 5 rfl) (by decide) (fun h9 => ?_) (fun h9 => ?_)
    · refine b_ic0 (pc := 16) (dd dtX7_isDigit 8 rfl) ?_
      refine b_eq (b_zret (dd dtX7_isDigit 9 rfl) rfl (by first | rfl | exact nar_bi)) ?_ ?_
      · simp_all [bi]
      · rfl
    · refine b_ic1 (pc := 12) (dd dtX7_isDigit 6 rfl) ?_
      refine b_goto (pc := 13) (tgt := 17) (dd dtX7_isDigit 7 rfl) (by decide) ?_
      refine b_eq (b_zret (dd dtX7_isDigit 9 rfl) rfl (by first | rfl | exact nar_bi)) ?_ ?_
      · simp_all [bi]
      · rfl
def tX7_goOn : List (Nat × Instr × Nat) := [(0, .iload_n 0, 1), (1, .invokestatic 42, 3), (4, .ifCond .eq 10, 3), (7, .iload_n 1, 1), (8, .invokestatic 42, 3), (11, .ifCond .ne 17, 3), (14, .iload_n 0, 1), (15, .invokestatic 46, 3), (18, .ifCond .eq 14, 3), (21, .iload_n 1, 1), (22, .invokestatic 46, 3), (25, .ifCond .eq 7, 3), (28, .iconst 1, 1), (29, .goto 4, 3), (32, .iconst 0, 1), (33, .ireturn, 1)]
theorem dtX7_goOn : dec_ok mX7_goOn.2.1 tX7_goOn = true := by decide +kernel
set_option maxHeartbeats 4000000 in
theorem c_X7_goOn {I : Wd} {a b : Int32} : Cal SyC mX7_goOn 1 [.int a, .int b] I (some (.int (bi (goP a b)))) I := by
  refine Cal.of (by decide) (Nat.le_of_ble_eq_true rfl) ?_
  show Bd _ _ _ _ [(0, _), (1, _)] _ _ _ _
  refine b_iload_n (pc := 0) (i := 0) (dd dtX7_goOn 0 rfl) rfl rfl ?_
  refine b_invS (pc := 1) (dd dtX7_goOn 1 rfl) mlX7_42 mvX7_isLetter msX7_isLetter (c_X7_isLetter) rfl rfl (by decide) (Nat.le_of_ble_eq_true rfl) ?_
  refine b_ifb_eq (pc := 4) (tgt := 14) (dd dtX7_goOn 2 rfl) (by decide) (fun h4 => ?_) (fun h4 => ?_)
  · refine b_iload_n (pc := 14) (i := 0) (dd dtX7_goOn 6 rfl) rfl rfl ?_
    refine b_invS (pc := 15) (dd dtX7_goOn 7 rfl) mlX7_46 mvX7_isDigit msX7_isDigit (c_X7_isDigit) rfl rfl (by decide) (Nat.le_of_ble_eq_true rfl) ?_
    refine b_ifb_eq (pc := 18) (tgt := 32) (dd dtX7_goOn 8 rfl) (by decide) (fun h18 => ?_) (fun h18 => ?_)
    · refine b_ic0 (pc := 32) (dd dtX7_goOn 14 rfl) ?_
      refine b_eq (b_zret (dd dtX7_goOn 15 rfl) rfl (by first | rfl | exact nar_bi)) ?_ ?_
      · first | exact congrArg (fun q => some (Value.int q)) (bi_t (by first | exact Or.inl ⟨by assumption, by assumption⟩ | exact Or.inr ⟨by assumption, by assumption⟩)).symm | exact congrArg (fun q => some (Value.int q)) (bi_f (fun q => by rcases q with q | q <;> first | exact absurd q.1 (by assumption) | exact absurd q.2 (by assumption))).symm
      · rfl
    · refine b_iload_n (pc := 21) (i := 1) (dd dtX7_goOn 9 rfl) rfl rfl ?_
      refine b_invS (pc := 22) (dd dtX7_goOn 10 rfl) mlX7_46 mvX7_isDigit msX7_isDigit (c_X7_isDigit) rfl rfl (by decide) (Nat.le_of_ble_eq_true rfl) ?_
      refine b_ifb_eq (pc := 25) (tgt := 32) (dd dtX7_goOn 11 rfl) (by decide) (fun h25 => ?_) (fun h25 => ?_)
      · refine b_ic0 (pc := 32) (dd dtX7_goOn 14 rfl) ?_
        refine b_eq (b_zret (dd dtX7_goOn 15 rfl) rfl (by first | rfl | exact nar_bi)) ?_ ?_
        · first | exact congrArg (fun q => some (Value.int q)) (bi_t (by first | exact Or.inl ⟨by assumption, by assumption⟩ | exact Or.inr ⟨by assumption, by assumption⟩)).symm | exact congrArg (fun q => some (Value.int q)) (bi_f (fun q => by rcases q with q | q <;> first | exact absurd q.1 (by assumption) | exact absurd q.2 (by assumption))).symm
        · rfl
      · refine b_ic1 (pc := 28) (dd dtX7_goOn 12 rfl) ?_
        refine b_goto (pc := 29) (tgt := 33) (dd dtX7_goOn 13 rfl) (by decide) ?_
        refine b_eq (b_zret (dd dtX7_goOn 15 rfl) rfl (by first | rfl | exact nar_bi)) ?_ ?_
        · first | exact congrArg (fun q => some (Value.int q)) (bi_t (by first | exact Or.inl ⟨by assumption, by assumption⟩ | exact Or.inr ⟨by assumption, by assumption⟩)).symm | exact congrArg (fun q => some (Value.int q)) (bi_f (fun q => by rcases q with q | q <;> first | exact absurd q.1 (by assumption) | exact absurd q.2 (by assumption))).symm
        · rfl
  · refine b_iload_n (pc := 7) (i := 1) (dd dtX7_goOn 3 rfl) rfl rfl ?_
    refine b_invS (pc := 8) (dd dtX7_goOn 4 rfl) mlX7_42 mvX7_isLetter msX7_isLetter (c_X7_isLetter) rfl rfl (by decide) (Nat.le_of_ble_eq_true rfl) ?_
    refine b_ifb_ne (pc := 11) (tgt := 28) (dd dtX7_goOn 5 rfl) (by decide) (fun h11 => ?_) (fun h11 => ?_)
    · refine b_ic1 (pc := 28) (dd dtX7_goOn 12 rfl) ?_
      refine b_goto (pc := 29) (tgt := 33) (dd dtX7_goOn 13 rfl) (by decide) ?_
      refine b_eq (b_zret (dd dtX7_goOn 15 rfl) rfl (by first | rfl | exact nar_bi)) ?_ ?_
      · first | exact congrArg (fun q => some (Value.int q)) (bi_t (by first | exact Or.inl ⟨by assumption, by assumption⟩ | exact Or.inr ⟨by assumption, by assumption⟩)).symm | exact congrArg (fun q => some (Value.int q)) (bi_f (fun q => by rcases q with q | q <;> first | exact absurd q.1 (by assumption) | exact absurd q.2 (by assumption))).symm
      · rfl
    · refine b_iload_n (pc := 14) (i := 0) (dd dtX7_goOn 6 rfl) rfl rfl ?_
      refine b_invS (pc := 15) (dd dtX7_goOn 7 rfl) mlX7_46 mvX7_isDigit msX7_isDigit (c_X7_isDigit) rfl rfl (by decide) (Nat.le_of_ble_eq_true rfl) ?_
      refine b_ifb_eq (pc := 18) (tgt := 32) (dd dtX7_goOn 8 rfl) (by decide) (fun h18 => ?_) (fun h18 => ?_)
      · refine b_ic0 (pc := 32) (dd dtX7_goOn 14 rfl) ?_
        refine b_eq (b_zret (dd dtX7_goOn 15 rfl) rfl (by first | rfl | exact nar_bi)) ?_ ?_
        · first | exact congrArg (fun q => some (Value.int q)) (bi_t (by first | exact Or.inl ⟨by assumption, by assumption⟩ | exact Or.inr ⟨by assumption, by assumption⟩)).symm | exact congrArg (fun q => some (Value.int q)) (bi_f (fun q => by rcases q with q | q <;> first | exact absurd q.1 (by assumption) | exact absurd q.2 (by assumption))).symm
        · rfl
      · refine b_iload_n (pc := 21) (i := 1) (dd dtX7_goOn 9 rfl) rfl rfl ?_
        refine b_invS (pc := 22) (dd dtX7_goOn 10 rfl) mlX7_46 mvX7_isDigit msX7_isDigit (c_X7_isDigit) rfl rfl (by decide) (Nat.le_of_ble_eq_true rfl) ?_
        refine b_ifb_eq (pc := 25) (tgt := 32) (dd dtX7_goOn 11 rfl) (by decide) (fun h25 => ?_) (fun h25 => ?_)
        · refine b_ic0 (pc := 32) (dd dtX7_goOn 14 rfl) ?_
          refine b_eq (b_zret (dd dtX7_goOn 15 rfl) rfl (by first | rfl | exact nar_bi)) ?_ ?_
          · first | exact congrArg (fun q => some (Value.int q)) (bi_t (by first | exact Or.inl ⟨by assumption, by assumption⟩ | exact Or.inr ⟨by assumption, by assumption⟩)).symm | exact congrArg (fun q => some (Value.int q)) (bi_f (fun q => by rcases q with q | q <;> first | exact absurd q.1 (by assumption) | exact absurd q.2 (by assumption))).symm
          · rfl
        · refine b_ic1 (pc := 28) (dd dtX7_goOn 12 rfl) ?_
          refine b_goto (pc := 29) (tgt := 33) (dd dtX7_goOn 13 rfl) (by decide) ?_
          refine b_eq (b_zret (dd dtX7_goOn 15 rfl) rfl (by first | rfl | exact nar_bi)) ?_ ?_
          · first | exact congrArg (fun q => some (Value.int q)) (bi_t (by first | exact Or.inl ⟨by assumption, by assumption⟩ | exact Or.inr ⟨by assumption, by assumption⟩)).symm | exact congrArg (fun q => some (Value.int q)) (bi_f (fun q => by rcases q with q | q <;> first | exact absurd q.1 (by assumption) | exact absurd q.2 (by assumption))).symm
          · rfl
def tX7_isMark : List (Nat × Instr × Nat) := [(0, .iload_n 0, 1), (1, .tableswitch 105 40 61 #[103, 103, 103, 103, 105, 103, 105, 105, 105, 105, 105, 105, 105, 105, 105, 105, 105, 105, 105, 103, 103, 103], 103), (104, .iconst 1, 1), (105, .ireturn, 1), (106, .iconst 0, 1), (107, .ireturn, 1)]
theorem dtX7_isMark : dec_ok mX7_isMark.2.1 tX7_isMark = true := by decide +kernel
set_option maxHeartbeats 4000000 in
theorem c_X7_isMark {I : Wd} {x : Int32} : Cal SyC mX7_isMark 0 [.int x] I (some (.int (bi (mkP x)))) I := by
  refine Cal.of (by decide) (Nat.le_of_ble_eq_true rfl) ?_
  show Bd _ _ _ _ [(0, _)] _ _ _ _
  refine b_iload_n (pc := 0) (i := 0) (dd dtX7_isMark 0 rfl) rfl rfl ?_
  refine b_tsw (pc := 1) (ts := [(40, 104), (41, 104), (42, 104), (43, 104), (44, 106), (45, 104), (46, 106), (47, 106), (48, 106), (49, 106), (50, 106), (51, 106), (52, 106), (53, 106), (54, 106), (55, 106), (56, 106), (57, 106), (58, 106), (59, 104), (60, 104), (61, 104)]) (dfl := 106) (dd dtX7_isMark 1 rfl) (by decide +kernel) ⟨fun h1 => ?_, fun h1_40 => ⟨fun h1 => ?_, fun h1_41 => ⟨fun h1 => ?_, fun h1_42 => ⟨fun h1 => ?_, fun h1_43 => ⟨fun h1 => ?_, fun h1_44 => ⟨fun h1 => ?_, fun h1_45 => ⟨fun h1 => ?_, fun h1_46 => ⟨fun h1 => ?_, fun h1_47 => ⟨fun h1 => ?_, fun h1_48 => ⟨fun h1 => ?_, fun h1_49 => ⟨fun h1 => ?_, fun h1_50 => ⟨fun h1 => ?_, fun h1_51 => ⟨fun h1 => ?_, fun h1_52 => ⟨fun h1 => ?_, fun h1_53 => ⟨fun h1 => ?_, fun h1_54 => ⟨fun h1 => ?_, fun h1_55 => ⟨fun h1 => ?_, fun h1_56 => ⟨fun h1 => ?_, fun h1_57 => ⟨fun h1 => ?_, fun h1_58 => ⟨fun h1 => ?_, fun h1_59 => ⟨fun h1 => ?_, fun h1_60 => ⟨fun h1 => ?_, fun h1_61 => ?_⟩⟩⟩⟩⟩⟩⟩⟩⟩⟩⟩⟩⟩⟩⟩⟩⟩⟩⟩⟩⟩⟩
  · refine b_ic1 (pc := 104) (dd dtX7_isMark 2 rfl) ?_
    refine b_eq (b_zret (dd dtX7_isMark 3 rfl) rfl (by first | rfl | exact nar_bi)) ?_ ?_
    · first | (subst h1; decide) | simp_all [bi, mkP]
    · rfl
  · refine b_ic1 (pc := 104) (dd dtX7_isMark 2 rfl) ?_
    refine b_eq (b_zret (dd dtX7_isMark 3 rfl) rfl (by first | rfl | exact nar_bi)) ?_ ?_
    · first | (subst h1; decide) | simp_all [bi, mkP]
    · rfl
  · refine b_ic1 (pc := 104) (dd dtX7_isMark 2 rfl) ?_
    refine b_eq (b_zret (dd dtX7_isMark 3 rfl) rfl (by first | rfl | exact nar_bi)) ?_ ?_
    · first | (subst h1; decide) | simp_all [bi, mkP]
    · rfl
  · refine b_ic1 (pc := 104) (dd dtX7_isMark 2 rfl) ?_
    refine b_eq (b_zret (dd dtX7_isMark 3 rfl) rfl (by first | rfl | exact nar_bi)) ?_ ?_
    · first | (subst h1; decide) | simp_all [bi, mkP]
    · rfl
  · refine b_ic0 (pc := 106) (dd dtX7_isMark 4 rfl) ?_
    refine b_eq (b_zret (dd dtX7_isMark 5 rfl) rfl (by first | rfl | exact nar_bi)) ?_ ?_
    · first | (subst h1; decide) | simp_all [bi, mkP]
    · rfl
  · refine b_ic1 (pc := 104) (dd dtX7_isMark 2 rfl) ?_
    refine b_eq (b_zret (dd dtX7_isMark 3 rfl) rfl (by first | rfl | exact nar_bi)) ?_ ?_
    · first | (subst h1; decide) | simp_all [bi, mkP]
    · rfl
  · refine b_ic0 (pc := 106) (dd dtX7_isMark 4 rfl) ?_
    refine b_eq (b_zret (dd dtX7_isMark 5 rfl) rfl (by first | rfl | exact nar_bi)) ?_ ?_
    · first | (subst h1; decide) | simp_all [bi, mkP]
    · rfl
  · refine b_ic0 (pc := 106) (dd dtX7_isMark 4 rfl) ?_
    refine b_eq (b_zret (dd dtX7_isMark 5 rfl) rfl (by first | rfl | exact nar_bi)) ?_ ?_
    · first | (subst h1; decide) | simp_all [bi, mkP]
    · rfl
  · refine b_ic0 (pc := 106) (dd dtX7_isMark 4 rfl) ?_
    refine b_eq (b_zret (dd dtX7_isMark 5 rfl) rfl (by first | rfl | exact nar_bi)) ?_ ?_
    · first | (subst h1; decide) | simp_all [bi, mkP]
    · rfl
  · refine b_ic0 (pc := 106) (dd dtX7_isMark 4 rfl) ?_
    refine b_eq (b_zret (dd dtX7_isMark 5 rfl) rfl (by first | rfl | exact nar_bi)) ?_ ?_
    · first | (subst h1; decide) | simp_all [bi, mkP]
    · rfl
  · refine b_ic0 (pc := 106) (dd dtX7_isMark 4 rfl) ?_
    refine b_eq (b_zret (dd dtX7_isMark 5 rfl) rfl (by first | rfl | exact nar_bi)) ?_ ?_
    · first | (subst h1; decide) | simp_all [bi, mkP]
    · rfl
  · refine b_ic0 (pc := 106) (dd dtX7_isMark 4 rfl) ?_
    refine b_eq (b_zret (dd dtX7_isMark 5 rfl) rfl (by first | rfl | exact nar_bi)) ?_ ?_
    · first | (subst h1; decide) | simp_all [bi, mkP]
    · rfl
  · refine b_ic0 (pc := 106) (dd dtX7_isMark 4 rfl) ?_
    refine b_eq (b_zret (dd dtX7_isMark 5 rfl) rfl (by first | rfl | exact nar_bi)) ?_ ?_
    · first | (subst h1; decide) | simp_all [bi, mkP]
    · rfl
  · refine b_ic0 (pc := 106) (dd dtX7_isMark 4 rfl) ?_
    refine b_eq (b_zret (dd dtX7_isMark 5 rfl) rfl (by first | rfl | exact nar_bi)) ?_ ?_
    · first | (subst h1; decide) | simp_all [bi, mkP]
    · rfl
  · refine b_ic0 (pc := 106) (dd dtX7_isMark 4 rfl) ?_
    refine b_eq (b_zret (dd dtX7_isMark 5 rfl) rfl (by first | rfl | exact nar_bi)) ?_ ?_
    · first | (subst h1; decide) | simp_all [bi, mkP]
    · rfl
  · refine b_ic0 (pc := 106) (dd dtX7_isMark 4 rfl) ?_
    refine b_eq (b_zret (dd dtX7_isMark 5 rfl) rfl (by first | rfl | exact nar_bi)) ?_ ?_
    · first | (subst h1; decide) | simp_all [bi, mkP]
    · rfl
  · refine b_ic0 (pc := 106) (dd dtX7_isMark 4 rfl) ?_
    refine b_eq (b_zret (dd dtX7_isMark 5 rfl) rfl (by first | rfl | exact nar_bi)) ?_ ?_
    · first | (subst h1; decide) | simp_all [bi, mkP]
    · rfl
  · refine b_ic0 (pc := 106) (dd dtX7_isMark 4 rfl) ?_
    refine b_eq (b_zret (dd dtX7_isMark 5 rfl) rfl (by first | rfl | exact nar_bi)) ?_ ?_
    · first | (subst h1; decide) | simp_all [bi, mkP]
    · rfl
  · refine b_ic0 (pc := 106) (dd dtX7_isMark 4 rfl) ?_
    refine b_eq (b_zret (dd dtX7_isMark 5 rfl) rfl (by first | rfl | exact nar_bi)) ?_ ?_
    · first | (subst h1; decide) | simp_all [bi, mkP]
    · rfl
  · refine b_ic1 (pc := 104) (dd dtX7_isMark 2 rfl) ?_
    refine b_eq (b_zret (dd dtX7_isMark 3 rfl) rfl (by first | rfl | exact nar_bi)) ?_ ?_
    · first | (subst h1; decide) | simp_all [bi, mkP]
    · rfl
  · refine b_ic1 (pc := 104) (dd dtX7_isMark 2 rfl) ?_
    refine b_eq (b_zret (dd dtX7_isMark 3 rfl) rfl (by first | rfl | exact nar_bi)) ?_ ?_
    · first | (subst h1; decide) | simp_all [bi, mkP]
    · rfl
  · refine b_ic1 (pc := 104) (dd dtX7_isMark 2 rfl) ?_
    refine b_eq (b_zret (dd dtX7_isMark 3 rfl) rfl (by first | rfl | exact nar_bi)) ?_ ?_
    · first | (subst h1; decide) | simp_all [bi, mkP]
    · rfl
  · refine b_ic0 (pc := 106) (dd dtX7_isMark 4 rfl) ?_
    refine b_eq (b_zret (dd dtX7_isMark 5 rfl) rfl (by first | rfl | exact nar_bi)) ?_ ?_
    · first | (subst h1; decide) | simp_all [bi, mkP]
    · rfl
def tX7_wordAt : List (Nat × Instr × Nat) := [(0, .iload_n 0, 1), (1, .tableswitch 106 0 12 #[67, 70, 73, 76, 79, 82, 85, 88, 91, 94, 97, 100, 103], 67), (68, .ldc 75, 2), (70, .areturn, 1), (71, .ldc 77, 2), (73, .areturn, 1), (74, .ldc 79, 2), (76, .areturn, 1), (77, .ldc 81, 2), (79, .areturn, 1), (80, .ldc 83, 2), (82, .areturn, 1), (83, .ldc 85, 2), (85, .areturn, 1), (86, .ldc 87, 2), (88, .areturn, 1), (89, .ldc 89, 2), (91, .areturn, 1), (92, .ldc 91, 2), (94, .areturn, 1), (95, .ldc 93, 2), (97, .areturn, 1), (98, .ldc 95, 2), (100, .areturn, 1), (101, .ldc 97, 2), (103, .areturn, 1), (104, .ldc 99, 2), (106, .areturn, 1), (107, .ldc 101, 2), (109, .areturn, 1)]
theorem dtX7_wordAt : dec_ok mX7_wordAt.2.1 tX7_wordAt = true := by decide +kernel
set_option maxHeartbeats 4000000 in
theorem c_X7_wordAt {I : Wd} {w : Nat} (hw : w < 14) : Cal SyC mX7_wordAt 0 [.int (nI w)] I (some (.ref (1100 + (w + 1)))) I := by
  refine Cal.of (by decide) (Nat.le_of_ble_eq_true rfl) ?_
  show Bd _ _ _ _ [(0, _)] _ _ _ _
  refine b_iload_n (pc := 0) (i := 0) (dd dtX7_wordAt 0 rfl) rfl rfl ?_
  refine b_tsw (pc := 1) (ts := [(0, 68), (1, 71), (2, 74), (3, 77), (4, 80), (5, 83), (6, 86), (7, 89), (8, 92), (9, 95), (10, 98), (11, 101), (12, 104)]) (dfl := 107) (dd dtX7_wordAt 1 rfl) (by decide +kernel) ⟨fun h1 => ?_, fun h1_0 => ⟨fun h1 => ?_, fun h1_1 => ⟨fun h1 => ?_, fun h1_2 => ⟨fun h1 => ?_, fun h1_3 => ⟨fun h1 => ?_, fun h1_4 => ⟨fun h1 => ?_, fun h1_5 => ⟨fun h1 => ?_, fun h1_6 => ⟨fun h1 => ?_, fun h1_7 => ⟨fun h1 => ?_, fun h1_8 => ⟨fun h1 => ?_, fun h1_9 => ⟨fun h1 => ?_, fun h1_10 => ⟨fun h1 => ?_, fun h1_11 => ⟨fun h1 => ?_, fun h1_12 => ?_⟩⟩⟩⟩⟩⟩⟩⟩⟩⟩⟩⟩⟩
  · refine b_ldcS (pc := 68) (i := 1) (dd dtX7_wordAt 2 rfl) (by decide) rfl rfl ?_
    refine b_eq (b_aret (dd dtX7_wordAt 3 rfl) rfl) ?_ ?_
    · have ew : w = 0 := (nI_eq (by omega) (by decide)).mp h1
      subst ew; rfl
    · rfl
  · refine b_ldcS (pc := 71) (i := 2) (dd dtX7_wordAt 4 rfl) (by decide) rfl rfl ?_
    refine b_eq (b_aret (dd dtX7_wordAt 5 rfl) rfl) ?_ ?_
    · have ew : w = 1 := (nI_eq (by omega) (by decide)).mp h1
      subst ew; rfl
    · rfl
  · refine b_ldcS (pc := 74) (i := 3) (dd dtX7_wordAt 6 rfl) (by decide) rfl rfl ?_
    refine b_eq (b_aret (dd dtX7_wordAt 7 rfl) rfl) ?_ ?_
    · have ew : w = 2 := (nI_eq (by omega) (by decide)).mp h1
      subst ew; rfl
    · rfl
  · refine b_ldcS (pc := 77) (i := 4) (dd dtX7_wordAt 8 rfl) (by decide) rfl rfl ?_
    refine b_eq (b_aret (dd dtX7_wordAt 9 rfl) rfl) ?_ ?_
    · have ew : w = 3 := (nI_eq (by omega) (by decide)).mp h1
      subst ew; rfl
    · rfl
  · refine b_ldcS (pc := 80) (i := 5) (dd dtX7_wordAt 10 rfl) (by decide) rfl rfl ?_
    refine b_eq (b_aret (dd dtX7_wordAt 11 rfl) rfl) ?_ ?_
    · have ew : w = 4 := (nI_eq (by omega) (by decide)).mp h1
      subst ew; rfl
    · rfl
  · refine b_ldcS (pc := 83) (i := 6) (dd dtX7_wordAt 12 rfl) (by decide) rfl rfl ?_
    refine b_eq (b_aret (dd dtX7_wordAt 13 rfl) rfl) ?_ ?_
    · have ew : w = 5 := (nI_eq (by omega) (by decide)).mp h1
      subst ew; rfl
    · rfl
  · refine b_ldcS (pc := 86) (i := 7) (dd dtX7_wordAt 14 rfl) (by decide) rfl rfl ?_
    refine b_eq (b_aret (dd dtX7_wordAt 15 rfl) rfl) ?_ ?_
    · have ew : w = 6 := (nI_eq (by omega) (by decide)).mp h1
      subst ew; rfl
    · rfl
  · refine b_ldcS (pc := 89) (i := 8) (dd dtX7_wordAt 16 rfl) (by decide) rfl rfl ?_
    refine b_eq (b_aret (dd dtX7_wordAt 17 rfl) rfl) ?_ ?_
    · have ew : w = 7 := (nI_eq (by omega) (by decide)).mp h1
      subst ew; rfl
    · rfl
  · refine b_ldcS (pc := 92) (i := 9) (dd dtX7_wordAt 18 rfl) (by decide) rfl rfl ?_
    refine b_eq (b_aret (dd dtX7_wordAt 19 rfl) rfl) ?_ ?_
    · have ew : w = 8 := (nI_eq (by omega) (by decide)).mp h1
      subst ew; rfl
    · rfl
  · refine b_ldcS (pc := 95) (i := 10) (dd dtX7_wordAt 20 rfl) (by decide) rfl rfl ?_
    refine b_eq (b_aret (dd dtX7_wordAt 21 rfl) rfl) ?_ ?_
    · have ew : w = 9 := (nI_eq (by omega) (by decide)).mp h1
      subst ew; rfl
    · rfl
  · refine b_ldcS (pc := 98) (i := 11) (dd dtX7_wordAt 22 rfl) (by decide) rfl rfl ?_
    refine b_eq (b_aret (dd dtX7_wordAt 23 rfl) rfl) ?_ ?_
    · have ew : w = 10 := (nI_eq (by omega) (by decide)).mp h1
      subst ew; rfl
    · rfl
  · refine b_ldcS (pc := 101) (i := 12) (dd dtX7_wordAt 24 rfl) (by decide) rfl rfl ?_
    refine b_eq (b_aret (dd dtX7_wordAt 25 rfl) rfl) ?_ ?_
    · have ew : w = 11 := (nI_eq (by omega) (by decide)).mp h1
      subst ew; rfl
    · rfl
  · refine b_ldcS (pc := 104) (i := 13) (dd dtX7_wordAt 26 rfl) (by decide) rfl rfl ?_
    refine b_eq (b_aret (dd dtX7_wordAt 27 rfl) rfl) ?_ ?_
    · have ew : w = 12 := (nI_eq (by omega) (by decide)).mp h1
      subst ew; rfl
    · rfl
  · refine b_ldcS (pc := 107) (i := 14) (dd dtX7_wordAt 28 rfl) (by decide) rfl rfl ?_
    refine b_eq (b_aret (dd dtX7_wordAt 29 rfl) rfl) ?_ ?_
    · have ew : w = 13 := by
          rcases (show w = 0 ∨ w = 1 ∨ w = 2 ∨ w = 3 ∨ w = 4 ∨ w = 5 ∨ w = 6 ∨ w = 7 ∨ w = 8 ∨ w = 9 ∨ w = 10 ∨ w = 11 ∨ w = 12 ∨ w = 13 by omega) with e | e | e | e | e | e | e | e | e | e | e | e | e | e <;> first | exact e | (subst e; first | contradiction | exact absurd rfl (by assumption))
      subst ew; rfl
    · rfl
