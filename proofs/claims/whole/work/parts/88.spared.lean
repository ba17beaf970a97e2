/-! which houses a set moves -/
abbrev bx (x : Int32) (h : Nat) : Bool := x.toBitVec.getLsbD h
theorem sh_n : ∀ h, h < 32 → (nI h &&& 31).toBitVec.smod 32#32 = BitVec.ofNat 32 h := by decide +kernel
theorem one_n : ∀ j, j < 32 → ∀ h, h < 32 → ((1 : Int32) <<< (nI j &&& 31)).toBitVec.getLsbD h = decide (h = j) := by decide +kernel
theorem bitS_bx {x : Int32} {h : Nat} (hh : h < 32) : bitS x h = if bx x h then 1 else 0 := by
  unfold bitS
  apply Int32.toBitVec_inj.mp
  have e : ((x >>> (nI h &&& 31)) &&& 1).toBitVec = (x.toBitVec.sshiftRight h) &&& 1#32 := by
    rw [Int32.toBitVec_and, Int32.toBitVec_shiftRight]
    have e2 : (nI h &&& 31).toBitVec.smod (BitVec.ofNat 32 32) = BitVec.ofNat 32 h := sh_n h hh
    show x.toBitVec.sshiftRight' ((nI h &&& 31).toBitVec.smod 32#32) &&& _ = _
    rw [e2]
    show x.toBitVec.sshiftRight (BitVec.ofNat 32 h).toNat &&& _ = _
    rw [BitVec.toNat_ofNat, Nat.mod_eq_of_lt (by omega)]
    rfl
  rw [e]
  apply BitVec.eq_of_getLsbD_eq
  intro i hi
  rw [BitVec.getLsbD_and, BitVec.getLsbD_sshiftRight]
  by_cases q : i = 0
  · subst q
    rw [Nat.add_zero, if_pos hh]
    unfold bx
    cases hb : x.toBitVec.getLsbD h <;> rfl
  · have z : (1#32).getLsbD i = false := by
      rw [BitVec.getLsbD_one]
      simp [q]
    rw [z, Bool.and_false]
    split
    · exact z.symm
    · exact (BitVec.getLsbD_zero).symm
theorem bx_or {x : Int32} {j h : Nat} (hj : j < 32) (hh : h < 32) : bx (x ||| ((1 : Int32) <<< (nI j &&& 31))) h = (bx x h || decide (h = j)) := by
  unfold bx
  rw [Int32.toBitVec_or, BitVec.getLsbD_or, one_n j hj h hh]
theorem or_same {x : Int32} {j : Nat} (hj : j < 32) (h : bx x j = true) : x ||| ((1 : Int32) <<< (nI j &&& 31)) = x := by
  apply Int32.toBitVec_inj.mp
  apply BitVec.eq_of_getLsbD_eq
  intro i hi
  have e := bx_or (x := x) hj hi
  unfold bx at e h
  rw [e]
  by_cases q : i = j
  · subst q; rw [h]; rfl
  · rw [decide_eq_false q, Bool.or_false]
theorem bitH_S {x : Int32} {h : Nat} : bitH x (nI h) = bitS x h := rfl
theorem bS0 {x : Int32} {h : Nat} (hh : h < 32) : bitS x h = 0 ↔ bx x h = false := by
  rw [bitS_bx hh]; cases bx x h <;> simp
theorem bS1 {x : Int32} {h : Nat} (hh : h < 32) : bitS x h = 1 ↔ bx x h = true := by
  rw [bitS_bx hh]; cases bx x h <;> simp
theorem sPm_s {aw ppl : Nat → Int32} {x : Int32} {n : Nat} (h : n < 32) : sPm aw ppl x (n + 1) = sPm aw ppl x n + (if bx x n = true ∧ aw n = 0 then ppl n else 0) := by
  show (if bitS x n = 0 then sPm aw ppl x n else if aw n = 0 then sPm aw ppl x n + ppl n else sPm aw ppl x n) = _
  by_cases q : bx x n = true
  · rw [if_neg (fun z => by rw [(bS0 h).mp z] at q; exact absurd q (by decide))]
    by_cases p : aw n = 0
    · rw [if_pos p, if_pos ⟨q, p⟩]
    · rw [if_neg p, if_neg (fun z => p z.2), Int32.add_zero]
  · rw [if_pos ((bS0 h).mpr (by simpa using q)), if_neg (fun z => q z.1), Int32.add_zero]
theorem sPm_or {aw ppl : Nat → Int32} {x : Int32} {j : Nat} (hj : j < 32) (h : ¬ bx x j = true) : ∀ n, n ≤ 32 → sPm aw ppl (x ||| ((1 : Int32) <<< (nI j &&& 31))) n = sPm aw ppl x n + (if j < n then (if aw j = 0 then ppl j else 0) else 0) := by
  intro n
  induction n with
  | zero => intro _; rw [if_neg (by omega)]; rfl
  | succ n ih =>
    intro hn
    rw [sPm_s (by omega), sPm_s (by omega), ih (by omega), bx_or hj (by omega)]
    by_cases e : n = j
    · subst e
      rw [if_neg (Nat.lt_irrefl n), if_pos (Nat.lt_succ_self n), if_neg (c := bx x n = true ∧ aw n = 0) (fun z => h z.1), Int32.add_zero]
      by_cases p : aw n = 0
      · rw [if_pos p, if_pos ⟨by simp, p⟩]
      · rw [if_neg p, if_neg (fun z => p z.2)]
    · rw [decide_eq_false e, Bool.or_false]
      by_cases p : j < n
      · rw [if_pos p, if_pos (show j < n + 1 by omega), Int32.add_assoc, Int32.add_assoc, Int32.add_comm (if aw j = 0 then ppl j else 0)]
      · rw [if_neg p, if_neg (show ¬ j < n + 1 by omega), Int32.add_zero, Int32.add_zero]
theorem sPm_cg {aw aw2 ppl : Nat → Int32} {x : Int32} : ∀ n, (∀ i, i < n → aw i = aw2 i) → sPm aw ppl x n = sPm aw2 ppl x n := by
  intro n
  induction n with
  | zero => intro _; rfl
  | succ n ih =>
    intro h
    show (if bitS x n = 0 then sPm aw ppl x n else if aw n = 0 then sPm aw ppl x n + ppl n else sPm aw ppl x n) = (if bitS x n = 0 then sPm aw2 ppl x n else if aw2 n = 0 then sPm aw2 ppl x n + ppl n else sPm aw2 ppl x n)
    rw [ih (fun i hi => h i (by omega)), h n (by omega)]
theorem pn_eq {it nums aw ppl : Nat → Int32} {set : Int32} {N : Nat} (hN : N ≤ 14) : ∀ k, (∀ i, i < k → it i = nums i ∧ ∃ j, it i = nI j ∧ j < N ∧ (it i).toNatClampNeg = j) → pnM it aw ppl set k = (sPm aw ppl (sHs nums set k) N, sHs nums set k) := by
  intro k
  induction k with
  | zero =>
    intro _
    have e : ∀ n, n ≤ 32 → sPm aw ppl 0 n = 0 := by
      intro n
      induction n with
      | zero => intro _; rfl
      | succ n ih => intro hn; rw [sPm_s (by omega), ih (by omega), if_neg (fun z => by have := z.1; unfold bx at this; rw [show (0 : Int32).toBitVec = 0#32 from rfl, BitVec.getLsbD_zero] at this; exact absurd this (by decide))]; rfl
    show (0, 0) = (sPm aw ppl 0 N, 0)
    rw [e N (by omega)]
  | succ k ih =>
    intro h
    have ih' := ih (fun i hi => h i (by omega))
    obtain ⟨e1, j, e2, e3, e4⟩ := h k (by omega)
    have eS : sHs nums set (k + 1) = if bitS set k = 0 then sHs nums set k else sHs nums set k ||| ((1 : Int32) <<< (nums k &&& 31)) := rfl
    by_cases q : bitS set k = 0
    · rw [pnM_a q, ih', eS, if_pos q]
    · rw [eS, if_neg q, ← e1, e2]
      by_cases p : bx (sHs nums set k) j = true
      · rw [pnM_b q (by rw [ih', e2]; exact (bS1 (by omega)).mpr p), ih', or_same (by omega) p]
      · rw [pnM_c q (by rw [ih', e2]; exact fun z => p ((bS1 (by omega)).mp z)), ih', e4, e2, sPm_or (by omega) p N (by omega), if_pos e3]
/-! the harm of those newly gone -/
def dS (f g g2 : Nat → Int32) : Nat → Int32
  | 0 => 0
  | h + 1 => dS f g g2 h + (if g h < 0 ∧ ¬ g2 h < 0 then f h else 0)
theorem dS_upd {f g g2 : Nat → Int32} {c : Nat} {v : Int32} (h1 : g c < 0) (h2 : g2 c < 0) (hv : ¬ v < 0) : ∀ n, dS f g (upd g2 c v) n = dS f g g2 n + (if c < n then f c else 0) := by
  intro n
  induction n with
  | zero => rw [if_neg (by omega)]; rfl
  | succ n ih =>
    show dS f g (upd g2 c v) n + (if g n < 0 ∧ ¬ upd g2 c v n < 0 then f n else 0) = dS f g g2 n + (if g n < 0 ∧ ¬ g2 n < 0 then f n else 0) + (if c < n + 1 then f c else 0)
    rw [ih]
    by_cases e : n = c
    · subst e
      rw [upd_eq, if_pos (c := g n < 0 ∧ ¬ v < 0) ⟨h1, hv⟩, if_neg (c := g n < 0 ∧ ¬ g2 n < 0) (fun z => z.2 h2), if_neg (c := n < n) (Nat.lt_irrefl n), if_pos (c := n < n + 1) (Nat.lt_succ_self n), Int32.add_zero]
    · rw [upd_ne e]
      by_cases q : c < n
      · rw [if_pos q, if_pos (show c < n + 1 by omega), Int32.add_assoc, Int32.add_assoc, Int32.add_comm (f c)]
      · rw [if_neg q, if_neg (show ¬ c < n + 1 by omega), Int32.add_zero, Int32.add_zero]
theorem dS_cg {f g g2 f' g' g2' : Nat → Int32} : ∀ n, (∀ i, i < n → f i = f' i ∧ g i = g' i ∧ g2 i = g2' i) → dS f g g2 n = dS f' g' g2' n := by
  intro n
  induction n with
  | zero => intro _; rfl
  | succ n ih =>
    intro h
    obtain ⟨e1, e2, e3⟩ := h n (by omega)
    show dS f g g2 n + (if g n < 0 ∧ ¬ g2 n < 0 then f n else 0) = dS f' g' g2' n + (if g' n < 0 ∧ ¬ g2' n < 0 then f' n else 0)
    rw [ih (fun i hi => h i (by omega)), e1, e2, e3]
theorem dS_self {f g : Nat → Int32} : ∀ n, dS f g g n = 0 := by
  intro n
  induction n with
  | zero => rfl
  | succ n ih =>
    show dS f g g n + (if g n < 0 ∧ ¬ g n < 0 then f n else 0) = 0
    rw [ih, if_neg (fun z => z.2 z.1)]; rfl
def DI (W V : Wd) (N : Nat) : Prop := V 0 2 = W 0 2 + dS (sHarm (W 11) (W 12) (W 16)) (W 13) (V 13) N ∧ (∀ h, V 13 h < 0 → W 13 h < 0) ∧ ¬ V 0 0 < 0 ∧ V 11 = W 11 ∧ V 12 = W 12 ∧ V 16 = W 16
theorem DI.tk1 {W V : Wd} {N c h : Nat} (hd : DI W V N) (hh : h < N) : DI W (tkM1 V c h) N := by
  obtain ⟨d1, d2, d3, d4, d5, d6⟩ := id hd
  unfold tkM1
  split
  · next q =>
    unfold DI
    rw [ist_eq, upd_eq, upd_ne (by decide), ist_ne (show (13 : Nat) ≠ 0 by decide), ist_eq, ist_ne (show (11 : Nat) ≠ 0 by decide), ist_ne (show (11 : Nat) ≠ 13 by decide), ist_ne (show (12 : Nat) ≠ 0 by decide), ist_ne (show (12 : Nat) ≠ 13 by decide), ist_ne (show (16 : Nat) ≠ 0 by decide), ist_ne (show (16 : Nat) ≠ 13 by decide), ist_ne (show (0 : Nat) ≠ 13 by decide)]
    rw [dS_upd (d2 h q.2) q.2 d3, if_pos hh, d1, d4, d5, d6, Int32.add_assoc]
    refine ⟨rfl, fun x hx => ?_, d3, rfl, rfl, rfl⟩
    by_cases e : x = h
    · subst e; exact d2 x q.2
    · rw [upd_ne e] at hx; exact d2 x hx
  · exact hd
theorem DI.tk {W V : Wd} {N c : Nat} (hd : DI W V N) : ∀ n, n ≤ N → DI W (tkM V c n) N := by
  intro n
  induction n with
  | zero => intro _; exact hd
  | succ n ih => intro hn; exact (ih (by omega)).tk1 (by omega)
theorem DI.fr {W V V' : Wd} {N : Nat} (hd : DI W V N) (h2 : V' 0 2 = V 0 2) (h0 : ¬ V' 0 0 < 0) (h11 : V' 11 = V 11) (h12 : V' 12 = V 12) (h13 : V' 13 = V 13) (h16 : V' 16 = V 16) : DI W V' N := by
  unfold DI at hd ⊢
  rw [h2, h11, h12, h13, h16]
  exact ⟨hd.1, hd.2.1, h0, hd.2.2.2⟩
theorem DI.fl {W V : Wd} {N : Nat} (hd : DI W V N) : ∀ c, DI W (flM V N c) N := by
  intro c
  induction c with
  | zero => exact hd
  | succ c ih =>
    show DI W (flM1 (flM V N c) N c) N
    have d3 := ih.2.2.1
    generalize flM V N c = X at *
    unfold flM1
    split
    · split
      · exact DI.tk (ih.fr (by rw [ist_ne (by decide), ist_ne (by decide), ist_ne (by decide)]) (by rw [ist_ne (by decide), ist_ne (by decide), ist_ne (by decide)]; exact d3) (by rw [ist_ne (by decide), ist_ne (by decide), ist_ne (by decide)]) (by rw [ist_ne (by decide), ist_ne (by decide), ist_ne (by decide)]) (by rw [ist_ne (by decide), ist_ne (by decide), ist_ne (by decide)]) (by rw [ist_ne (by decide), ist_ne (by decide), ist_ne (by decide)])) N (Nat.le_refl N)
      · exact ih.fr (by rw [ist_ne (by decide)]) (by rw [ist_ne (by decide)]; exact d3) (by rw [ist_ne (by decide)]) (by rw [ist_ne (by decide)]) (by rw [ist_ne (by decide)]) (by rw [ist_ne (by decide)])
    · exact ih
theorem DI.month {W V : Wd} {N P m : Nat} (hd : DI W V N) (hm : V 0 0 = nI m) (hm2 : m + 1 < 2 ^ 31) : DI W (monM N P V) N ∧ monM N P V 0 0 = nI (m + 1) := by
  obtain ⟨X, eX, vf⟩ : ∃ X : Wd, monM N P V = ist (flM X N 64) 0 0 (flM X N 64 0 0 + 1) ∧ ∀ a, a ≠ 2 → a ≠ 3 → a ≠ 5 → X a = V a := by
    refine ⟨addM (betW (zeroM (pmpM (rainM V) P)) 64), by unfold monM mT2 mT3 mT4 mT5 mT6 mT7; rfl, fun a h2 h3 h5 => ?_⟩
    rw [addM_fr h3, betW_fr h2 h5, zeroM_fr h5, pmpM_fr h2 h3, rainM_fr h3]
  have hX : DI W X N := hd.fr (by rw [vf 0 (by decide) (by decide) (by decide)]) (by rw [vf 0 (by decide) (by decide) (by decide)]; exact hd.2.2.1) (vf 11 (by decide) (by decide) (by decide)) (vf 12 (by decide) (by decide) (by decide)) (vf 13 (by decide) (by decide) (by decide)) (vf 16 (by decide) (by decide) (by decide))
  have hf := hX.fl 64
  have e0 : flM X N 64 0 0 = nI m := by rw [flM_0 (by decide), vf 0 (by decide) (by decide) (by decide)]; exact hm
  have e1 : ist (flM X N 64) 0 0 (flM X N 64 0 0 + 1) 0 0 = nI (m + 1) := by rw [ist_eq, upd_eq, e0, nI_1]
  rw [eX]
  refine ⟨hf.fr (by rw [ist_eq, upd_ne (by decide)]) (by rw [e1]; exact nI_pos hm2) (ist_ne (by decide)) (ist_ne (by decide)) (ist_ne (by decide)) (ist_ne (by decide)), e1⟩
theorem DI.months {W : Wd} {N P m : Nat} (hm : W 0 0 = nI m) : ∀ n, m + n < 2 ^ 31 → DI W (monsM N P W n) N ∧ monsM N P W n 0 0 = nI (m + n) := by
  intro n
  induction n with
  | zero =>
    intro h
    refine ⟨⟨?_, fun _ z => z, ?_, rfl, rfl, rfl⟩, hm⟩
    · show W 0 2 = W 0 2 + dS _ (W 13) (W 13) N
      rw [dS_self, Int32.add_zero]
    · show ¬ W 0 0 < 0
      rw [hm]; exact nI_pos (by omega)
  | succ n ih =>
    intro h
    obtain ⟨i1, i2⟩ := ih (by omega)
    exact i1.month i2 h
theorem sSp_s {g g2 aw p : Nat → Int32} {x : Int32} {n : Nat} (h : n < 32) : sSp g g2 aw p x (n + 1) = sSp g g2 aw p x n + (if g n < 0 ∧ ¬ g2 n < 0 then (if bx x n = true ∧ aw n = 0 then 1000 * p n else 0) else 0) := by
  show (if bitS x n = 0 then sSp g g2 aw p x n else if aw n = 0 then (if g n < 0 ∧ ¬ g2 n < 0 then sSp g g2 aw p x n + 1000 * p n else sSp g g2 aw p x n) else sSp g g2 aw p x n) = _
  by_cases q : bx x n = true
  · rw [if_neg (fun z => by rw [(bS0 h).mp z] at q; exact absurd q (by decide))]
    by_cases r : aw n = 0
    · rw [if_pos r, if_pos (c := bx x n = true ∧ aw n = 0) ⟨q, r⟩]
      split
      · rfl
      · rw [Int32.add_zero]
    · rw [if_neg r, if_neg (c := bx x n = true ∧ aw n = 0) (fun z => r z.2), ite_self, Int32.add_zero]
  · rw [if_pos ((bS0 h).mpr (by simpa using q)), if_neg (c := bx x n = true ∧ aw n = 0) (fun z => q z.1), ite_self, Int32.add_zero]
theorem dS_split {w p aw aw2 g g2 : Nat → Int32} {x : Int32} : ∀ n, n ≤ 32 → (∀ i, i < n → aw2 i = if ¬ aw i = 0 ∨ bitH x (nI i) = 1 then 1 else 0) → dS (sHarm w p aw) g g2 n = dS (sHarm w p aw2) g g2 n + sSp g g2 aw p x n := by
  intro n
  induction n with
  | zero => intro _ _; rfl
  | succ n ih =>
    intro hn h
    rw [sSp_s (by omega)]
    show dS (sHarm w p aw) g g2 n + (if g n < 0 ∧ ¬ g2 n < 0 then sHarm w p aw n else 0) = dS (sHarm w p aw2) g g2 n + (if g n < 0 ∧ ¬ g2 n < 0 then sHarm w p aw2 n else 0) + (sSp g g2 aw p x n + _)
    rw [ih (by omega) (fun i hi => h i (by omega))]
    have key : sHarm w p aw n = sHarm w p aw2 n + (if bx x n = true ∧ aw n = 0 then 1000 * p n else 0) := by
      unfold sHarm
      rw [h n (by omega), bitH_S]
      by_cases r : aw n = 0
      · by_cases q : bx x n = true
        · rw [if_pos r, if_pos (c := ¬ aw n = 0 ∨ bitS x n = 1) (Or.inr ((bS1 (by omega)).mpr q)), if_neg (c := (1 : Int32) = 0) (by decide), if_pos ⟨q, r⟩, Int32.add_zero]
        · rw [if_pos r, if_neg (c := ¬ aw n = 0 ∨ bitS x n = 1) (fun z => z.elim (fun a => a r) (fun a => q ((bS1 (by omega)).mp a))), if_pos rfl, if_neg (fun z => q z.1), Int32.add_zero]
      · rw [if_neg r, if_pos (c := ¬ aw n = 0 ∨ bitS x n = 1) (Or.inl r), if_neg (c := (1 : Int32) = 0) (by decide), if_neg (fun z => r z.2), Int32.add_zero, Int32.add_zero]
    by_cases q : g n < 0 ∧ ¬ g2 n < 0
    · rw [if_pos q, if_pos q, if_pos q, key]
      generalize dS (sHarm w p aw2) g g2 n = a
      generalize sSp g g2 aw p x n = b
      generalize sHarm w p aw2 n = c
      generalize (if bx x n = true ∧ aw n = 0 then 1000 * p n else 0) = d
      rw [Int32.add_assoc, Int32.add_assoc, ← Int32.add_assoc b c d, Int32.add_comm b c, Int32.add_assoc c b d]
    · rw [if_neg q, if_neg q, if_neg q, Int32.add_zero, Int32.add_zero, Int32.add_zero]
theorem dS_rng {w p aw g g2 : Nat → Int32} {x : Int32} : ∀ n, n ≤ 32 → (∀ i, i < n → inR (w i) 1 99999 ∧ inR (p i) 0 99) → ∃ a b, dS (sHarm w p aw) g g2 n = nI a ∧ sSp g g2 aw p x n = nI b ∧ b ≤ a ∧ a ≤ n * 200000 := by
  intro n
  induction n with
  | zero => intro _ _; exact ⟨0, 0, rfl, rfl, Nat.le_refl 0, by omega⟩
  | succ n ih =>
    intro hn h
    obtain ⟨a, b, e1, e2, e3, e4⟩ := ih (by omega) (fun i hi => h i (by omega))
    obtain ⟨w1, ew, -, w2, -⟩ := nI_rng2 (h n (by omega)).1 (by decide)
    obtain ⟨p1, ep, p2, -⟩ := nI_rng (h n (by omega)).2
    have w3 : (w1 : Int) ≤ 99999 := w2
    have p3 : (p1 : Int) ≤ 99 := p2
    rw [sSp_s (by omega)]
    show ∃ a b, dS (sHarm w p aw) g g2 n + (if g n < 0 ∧ ¬ g2 n < 0 then sHarm w p aw n else 0) = nI a ∧ _
    rw [e1, e2]
    unfold sHarm
    rw [ew, ep, show (1000 : Int32) = nI 1000 from rfl, nI_mul]
    by_cases q : g n < 0 ∧ ¬ g2 n < 0
    · rw [if_pos q, if_pos q]
      by_cases r : aw n = 0
      · rw [if_pos r, nI_a, nI_a]
        by_cases s : bx x n = true
        · rw [if_pos ⟨s, r⟩, nI_a]; exact ⟨_, _, rfl, rfl, by omega, by omega⟩
        · rw [if_neg (fun z => s z.1), Int32.add_zero]; exact ⟨_, _, rfl, rfl, by omega, by omega⟩
      · rw [if_neg r, if_neg (fun z => r z.2), Int32.add_zero, Int32.add_zero, nI_a]; exact ⟨_, _, rfl, rfl, by omega, by omega⟩
    · rw [if_neg q, if_neg q, Int32.add_zero, Int32.add_zero]; exact ⟨a, b, rfl, rfl, e3, Nat.le_trans e4 (Nat.mul_le_mul_right _ (Nat.le_succ n))⟩
