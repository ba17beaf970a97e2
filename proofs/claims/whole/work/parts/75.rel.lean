/-! the two worlds side by side -/
def cnB (I : Wd) (a b m : Nat) : Prop := ∀ r, r < 4 → ∃ f mo, I a r = nI f ∧ I b r = nI mo ∧ f ≤ mo ∧ mo ≤ 64 * m
def GB (I J : Wd) (N P : Nat) : Prop :=
  ((I 1 0 = nI N ∧ J 0 3 = nI N ∧ N ≤ 14) ∧ (I 1 1 = nI P ∧ J 0 4 = nI P ∧ P ≤ 6)) ∧
  (I 2 = J 10 ∧ I 3 = J 11 ∧ I 4 = J 12 ∧ I 5 = J 14) ∧
  ((∀ c, c < 64 → I 7 c = J 1 c ∧ I 8 c = J 2 c ∧ I 9 c = J 3 c ∧ I 10 c = J 4 c) ∧ ∀ r, r < 4 → I 11 r = J 9 r ∧ I 12 r = J 8 r) ∧
  (∃ m, I 6 1 = nI m ∧ J 0 0 = nI m ∧ m ≤ 1200 ∧ cnB I 11 12 m) ∧ (I 6 2 = J 0 1 ∧ I 6 4 = J 0 2 ∧ I 6 3 = sCf (J 4) 64) ∧
  (∀ h, h < N → I 14 h = J 13 h ∧ I 15 h = J 16 h) ∧ (∀ h, h < 14 → (I 15 h = 0 ∨ I 15 h = 1)) ∧ (∀ h, N ≤ h → h < 14 → I 14 h = -1 ∧ I 15 h = 0) ∧
  (∀ p, p < P → I 13 p = J 15 p) ∧ (∀ p, P ≤ p → p < 6 → I 13 p = 0) ∧
  (∀ c, c < 64 → vp_in (I 7 c) 4) ∧ (∀ h, h < N → vp_in (I 2 h) 64 ∧ inR (I 3 h) 1 99999 ∧ inR (I 4 h) 0 99) ∧ (∀ p, p < P → vp_in (I 5 p) 64)
def GS (I J : Wd) (K : Nat) : Prop := (I 42 0 = nI K ∧ J 0 21 = nI K ∧ K ≤ 30) ∧ (I 43 = J 17 ∧ I 44 = J 18 ∧ I 45 = J 20 ∧ I 46 = J 19 ∧ I 47 = J 21 ∧ I 48 = J 22) ∧ (∀ k, k < K → inR (I 43 k) 0 5 ∧ inR (I 45 k) 0 99) ∧ ∀ k, k < 30 → inR (I 47 k) 0 99
def GL (I J : Wd) (L : Nat) : Prop := (I 49 0 = nI L ∧ J 0 30 = nI L ∧ L ≤ 8) ∧ (I 50 = J 23 ∧ I 51 = J 24 ∧ I 52 = J 25) ∧ ∀ l, l < L → vp_in (I 50 l) 64
def GW (I J : Wd) (Wn : Nat) : Prop := (I 53 0 = nI Wn ∧ J 0 65 = nI Wn ∧ Wn ≤ 30) ∧ (I 54 = J 41 ∧ I 56 = J 42) ∧ ∀ w, w < Wn → vp_in (I 54 w) 64
def GF (I J : Wd) : Prop := ∃ z, I 57 0 = nI z ∧ J 0 34 = nI z ∧ z ≤ 5 ∧ (I 57 1 = 0 ↔ J 0 36 = 0) ∧ (¬ I 57 1 = 0 → I 57 1 = J 0 35 ∧ ∀ i, i < z → I 58 i = J 31 i ∧ I 59 i = J 32 i ∧ I 60 i = J 33 i)
def TXr (I J : Wd) (t : Nat) : Prop := ∃ c E, TxW I (78 + 3 * t) c E ∧ TxOK c E ∧ (t = 0 → ∀ f p, p < 3 → vT c E f p = vM0 f p) ∧ (1 ≤ t → ∃ n b kd nm pl T, J 35 t = nI n ∧ n ≤ 160 ∧ (∀ i, i < n → BRel (b i) (J 34 (160 * t + i))) ∧ TokOK b n kd nm pl T ∧ ParsE kd nm T c E)
def GT (I J : Wd) : Prop := ∃ X R n, I 66 1 = nI X ∧ J 0 45 = nI X ∧ 1 ≤ X ∧ X ≤ 6 ∧ I 66 2 = nI R ∧ J 0 46 = nI R ∧ R < X ∧ I 67 0 = nI n ∧ J 0 47 = nI n ∧ n ≤ 160 ∧ (∀ i, i < n → BRel (I 68 i) (J 34 (960 + i))) ∧ ∀ t, t < X → TXr I J t
def GO (I J : Wd) : Prop := I 0 12 = J 0 63 ∧ I 0 13 = J 0 72
def GK (I J : Wd) (N P : Nat) : Prop := (I 0 4 = 0 ↔ J 0 71 = 0) ∧ (∀ h, h < 14 → (I 39 h = 0 ∨ I 39 h = 1)) ∧ (¬ I 0 4 = 0 → ∃ m Nk Pk, (I 30 1 = nI m ∧ J 43 310 = nI m ∧ m ≤ 1200 ∧ cnB I 35 36 m) ∧ (I 30 2 = J 43 311 ∧ I 30 4 = J 43 312 ∧ I 30 3 = sCf (I 34) 64) ∧ (∀ c, c < 64 → I 31 c = J 43 (320 + c) ∧ I 32 c = J 43 (384 + c) ∧ I 33 c = J 43 (448 + c) ∧ I 34 c = J 43 (512 + c)) ∧ (∀ r, r < 4 → I 36 r = J 43 (610 + r) ∧ I 35 r = J 43 (614 + r)) ∧ (J 0 69 = nI Nk ∧ Nk ≤ N ∧ J 0 70 = nI Pk ∧ Pk ≤ P) ∧ (∀ h, h < Nk → I 38 h = J 43 (576 + h) ∧ I 39 h = J 43 (590 + h)) ∧ (∀ h, Nk ≤ h → h < 14 → I 38 h = -1 ∧ I 39 h = 0) ∧ (∀ p, p < Pk → I 37 p = J 43 (604 + p)) ∧ (∀ p, Pk ≤ p → p < 6 → I 37 p = 0) ∧ ∀ c, c < 64 → vp_in (I 31 c) 4)
def SH1 (I J : Wd) (s : Nat) : Prop := I (99 + 2 * s) 0 = J 44 s ∧ inR (J 44 s) (-1) 2 ∧ ∃ z y, I (99 + 2 * s) 1 = nI z ∧ z ≤ 40 ∧ J 45 s = nI y ∧ y ≤ 40 ∧ (¬ J 44 s = -1 → z = y ∧ ∀ i, i < z → I (100 + 2 * s) i = J 46 (40 * s + i))
def GH (I J : Wd) : Prop := ∀ s, s < 4 → SH1 I J s
def GC (J : Wd) : Prop := (∀ r, r < 4 → J 6 r = tbSolves.getD r 0 ∧ J 7 r = tbBears.getD r 0) ∧ ∀ i, i < 5 → J 26 i = tbSizes.getD i 0
def RelP (I J : Wd) (N P K L Wn : Nat) : Prop := GB I J N P ∧ GS I J K ∧ GL I J L ∧ GW I J Wn ∧ GF I J ∧ GT I J ∧ GO I J ∧ GK I J N P ∧ GH I J ∧ GC J
def Rel (I J : Wd) : Prop := ∃ N P K L Wn, RelP I J N P K L Wn
/-! what a group rests on -/
section FR
variable {I J I' J' : Wd} {N P K L Wn : Nat}
theorem GB.fr (h : GB I J N P) (hI : ∀ a, 1 ≤ a → a ≤ 15 → I' a = I a) (hJ : ∀ a, 1 ≤ a → a ≤ 16 → a ≠ 5 → a ≠ 6 → a ≠ 7 → J' a = J a) (h0 : ∀ j, j ≤ 4 → J' 0 j = J 0 j) : GB I' J' N P := by
  unfold GB cnB at h ⊢
  rw [hI 1 (by decide) (by decide), hI 2 (by decide) (by decide), hI 3 (by decide) (by decide), hI 4 (by decide) (by decide), hI 5 (by decide) (by decide), hI 6 (by decide) (by decide), hI 7 (by decide) (by decide), hI 8 (by decide) (by decide), hI 9 (by decide) (by decide), hI 10 (by decide) (by decide), hI 11 (by decide) (by decide), hI 12 (by decide) (by decide), hI 13 (by decide) (by decide), hI 14 (by decide) (by decide), hI 15 (by decide) (by decide)]
  rw [hJ 1 (by decide) (by decide) (by decide) (by decide) (by decide), hJ 2 (by decide) (by decide) (by decide) (by decide) (by decide), hJ 3 (by decide) (by decide) (by decide) (by decide) (by decide), hJ 4 (by decide) (by decide) (by decide) (by decide) (by decide), hJ 8 (by decide) (by decide) (by decide) (by decide) (by decide), hJ 9 (by decide) (by decide) (by decide) (by decide) (by decide), hJ 10 (by decide) (by decide) (by decide) (by decide) (by decide), hJ 11 (by decide) (by decide) (by decide) (by decide) (by decide), hJ 12 (by decide) (by decide) (by decide) (by decide) (by decide), hJ 13 (by decide) (by decide) (by decide) (by decide) (by decide), hJ 14 (by decide) (by decide) (by decide) (by decide) (by decide), hJ 15 (by decide) (by decide) (by decide) (by decide) (by decide), hJ 16 (by decide) (by decide) (by decide) (by decide) (by decide)]
  rw [h0 0 (by decide), h0 1 (by decide), h0 2 (by decide), h0 3 (by decide), h0 4 (by decide)]
  exact h
theorem GS.fr (h : GS I J K) (hI : ∀ a, 42 ≤ a → a ≤ 48 → I' a = I a) (hJ : ∀ a, 17 ≤ a → a ≤ 22 → J' a = J a) (h0 : J' 0 21 = J 0 21) : GS I' J' K := by
  unfold GS at h ⊢
  rw [hI 42 (by decide) (by decide), hI 43 (by decide) (by decide), hI 44 (by decide) (by decide), hI 45 (by decide) (by decide), hI 46 (by decide) (by decide), hI 47 (by decide) (by decide), hI 48 (by decide) (by decide), hJ 17 (by decide) (by decide), hJ 18 (by decide) (by decide), hJ 19 (by decide) (by decide), hJ 20 (by decide) (by decide), hJ 21 (by decide) (by decide), hJ 22 (by decide) (by decide), h0]
  exact h
theorem GL.fr (h : GL I J L) (hI : ∀ a, 49 ≤ a → a ≤ 52 → I' a = I a) (hJ : ∀ a, 23 ≤ a → a ≤ 25 → J' a = J a) (h0 : J' 0 30 = J 0 30) : GL I' J' L := by
  unfold GL at h ⊢
  rw [hI 49 (by decide) (by decide), hI 50 (by decide) (by decide), hI 51 (by decide) (by decide), hI 52 (by decide) (by decide), hJ 23 (by decide) (by decide), hJ 24 (by decide) (by decide), hJ 25 (by decide) (by decide), h0]
  exact h
theorem GW.fr (h : GW I J Wn) (hI : ∀ a, 53 ≤ a → a ≤ 56 → I' a = I a) (hJ : ∀ a, 41 ≤ a → a ≤ 42 → J' a = J a) (h0 : J' 0 65 = J 0 65) : GW I' J' Wn := by
  unfold GW at h ⊢
  rw [hI 53 (by decide) (by decide), hI 54 (by decide) (by decide), hI 56 (by decide) (by decide), hJ 41 (by decide) (by decide), hJ 42 (by decide) (by decide), h0]
  exact h
theorem GF.fr (h : GF I J) (hI : ∀ a, 57 ≤ a → a ≤ 60 → I' a = I a) (hJ : ∀ a, 31 ≤ a → a ≤ 33 → J' a = J a) (h0 : ∀ j, 34 ≤ j → j ≤ 36 → J' 0 j = J 0 j) : GF I' J' := by
  unfold GF at h ⊢
  rw [hI 57 (by decide) (by decide), hI 58 (by decide) (by decide), hI 59 (by decide) (by decide), hI 60 (by decide) (by decide), hJ 31 (by decide) (by decide), hJ 32 (by decide) (by decide), hJ 33 (by decide) (by decide), h0 34 (by decide) (by decide), h0 35 (by decide) (by decide), h0 36 (by decide) (by decide)]
  exact h
theorem TXr.fr {t : Nat} (h : TXr I J t) (hI : ∀ a, 78 + 3 * t ≤ a → a ≤ 80 + 3 * t → I' a = I a) (h35 : J' 35 t = J 35 t) (h34 : ∀ i, i < 160 → J' 34 (160 * t + i) = J 34 (160 * t + i)) : TXr I' J' t := by
  obtain ⟨c, E, h1, h2, h3, h4⟩ := h
  refine ⟨c, E, ?_, h2, h3, fun ht => ?_⟩
  · unfold TxW at h1 ⊢
    rw [hI (78 + 3 * t) (by omega) (by omega), hI (78 + 3 * t + 1) (by omega) (by omega), hI (78 + 3 * t + 2) (by omega) (by omega)]
    exact h1
  · obtain ⟨n, b, kd, nm, pl, T, a1, a2, a3, a4, a5⟩ := h4 ht
    exact ⟨n, b, kd, nm, pl, T, by rw [h35]; exact a1, a2, fun i hi => by rw [h34 i (by omega)]; exact a3 i hi, a4, a5⟩
theorem GT.fr (h : GT I J) (hI : ∀ a, (a = 66 ∨ a = 67 ∨ a = 68 ∨ (78 ≤ a ∧ a ≤ 95)) → I' a = I a) (hJ : ∀ a, 34 ≤ a → a ≤ 35 → J' a = J a) (h0 : ∀ j, 45 ≤ j → j ≤ 47 → J' 0 j = J 0 j) : GT I' J' := by
  obtain ⟨X, R, n, h1, h2, h3, h4, h5, h6, h7, h8, h9, h10, h11, h12⟩ := h
  refine ⟨X, R, n, by rw [hI 66 (by omega)]; exact h1, by rw [h0 45 (by decide) (by decide)]; exact h2, h3, h4, by rw [hI 66 (by omega)]; exact h5, by rw [h0 46 (by decide) (by decide)]; exact h6, h7, by rw [hI 67 (by omega)]; exact h8, by rw [h0 47 (by decide) (by decide)]; exact h9, h10, by rw [hI 68 (by omega), hJ 34 (by decide) (by decide)]; exact h11, fun t ht => (h12 t ht).fr (fun a a1 a2 => hI a (by omega)) (by rw [hJ 35 (by decide) (by decide)]) (fun i _ => by rw [hJ 34 (by decide) (by decide)])⟩
theorem GO.fr (h : GO I J) (hI : ∀ j, 12 ≤ j → j ≤ 13 → I' 0 j = I 0 j) (h0 : J' 0 63 = J 0 63) (h1 : J' 0 72 = J 0 72) : GO I' J' := by
  unfold GO at h ⊢
  rw [hI 12 (by decide) (by decide), hI 13 (by decide) (by decide), h0, h1]
  exact h
theorem GK.fr (h : GK I J N P) (hI0 : I' 0 4 = I 0 4) (hI : ∀ a, 30 ≤ a → a ≤ 39 → I' a = I a) (hJ : ∀ x, 310 ≤ x → J' 43 x = J 43 x) (h0 : ∀ j, 69 ≤ j → j ≤ 71 → J' 0 j = J 0 j) : GK I' J' N P := by
  obtain ⟨h1, h2, h3⟩ := h
  refine ⟨by rw [hI0, h0 71 (by decide) (by decide)]; exact h1, by rw [hI 39 (by decide) (by decide)]; exact h2, fun q => ?_⟩
  rw [hI0] at q
  obtain ⟨m, Nk, Pk, ⟨a1, a2, a3, a4⟩, ⟨b1, b2, b3⟩, c1, d1, ⟨e1, e2, e3, e4⟩, f1, f2, f3, f4, f5⟩ := h3 q
  refine ⟨m, Nk, Pk, ⟨?_, ?_, a3, ?_⟩, ⟨?_, ?_, ?_⟩, fun c hc => ?_, fun r hr => ?_, ⟨?_, e2, ?_, e4⟩, fun x hx => ?_, ?_, fun p hp => ?_, ?_, ?_⟩
  · rw [hI 30 (by decide) (by decide)]; exact a1
  · rw [hJ 310 (by decide)]; exact a2
  · unfold cnB at a4 ⊢; rw [hI 35 (by decide) (by decide), hI 36 (by decide) (by decide)]; exact a4
  · rw [hI 30 (by decide) (by decide), hJ 311 (by decide)]; exact b1
  · rw [hI 30 (by decide) (by decide), hJ 312 (by decide)]; exact b2
  · rw [hI 30 (by decide) (by decide), hI 34 (by decide) (by decide)]; exact b3
  · rw [hI 31 (by decide) (by decide), hI 32 (by decide) (by decide), hI 33 (by decide) (by decide), hI 34 (by decide) (by decide), hJ _ (by omega), hJ _ (by omega), hJ _ (by omega), hJ _ (by omega)]; exact c1 c hc
  · rw [hI 35 (by decide) (by decide), hI 36 (by decide) (by decide), hJ _ (by omega), hJ _ (by omega)]; exact d1 r hr
  · rw [h0 69 (by decide) (by decide)]; exact e1
  · rw [h0 70 (by decide) (by decide)]; exact e3
  · rw [hI 38 (by decide) (by decide), hI 39 (by decide) (by decide), hJ _ (by omega), hJ _ (by omega)]; exact f1 x hx
  · rw [hI 38 (by decide) (by decide), hI 39 (by decide) (by decide)]; exact f2
  · rw [hI 37 (by decide) (by decide), hJ _ (by omega)]; exact f3 p hp
  · rw [hI 37 (by decide) (by decide)]; exact f4
  · rw [hI 31 (by decide) (by decide)]; exact f5
theorem GK.np {N2 P2 : Nat} (h : GK I J N P) (hN : N ≤ N2) (hP : P ≤ P2) : GK I J N2 P2 := by
  obtain ⟨h1, h2, h3⟩ := h
  refine ⟨h1, h2, fun q => ?_⟩
  obtain ⟨m, Nk, Pk, a, b, c, d, ⟨e1, e2, e3, e4⟩, f⟩ := h3 q
  exact ⟨m, Nk, Pk, a, b, c, d, ⟨e1, by omega, e3, by omega⟩, f⟩
theorem SH1.fr {s : Nat} (h : SH1 I J s) (hI : ∀ a, 99 + 2 * s ≤ a → a ≤ 100 + 2 * s → I' a = I a) (h4 : J' 44 s = J 44 s) (h5 : J' 45 s = J 45 s) (h6 : ∀ i, i < 40 → J' 46 (40 * s + i) = J 46 (40 * s + i)) : SH1 I' J' s := by
  unfold SH1 at h ⊢
  rw [hI (99 + 2 * s) (by omega) (by omega), hI (100 + 2 * s) (by omega) (by omega), h4, h5]
  obtain ⟨a1, a2, z, y, a3, a4, a5, a6, a7⟩ := h
  exact ⟨a1, a2, z, y, a3, a4, a5, a6, fun q => ⟨(a7 q).1, fun i hi => by rw [h6 i (by omega)]; exact (a7 q).2 i hi⟩⟩
theorem GH.fr (h : GH I J) (hI : ∀ a, 99 ≤ a → a ≤ 106 → I' a = I a) (hJ : ∀ a, 44 ≤ a → a ≤ 46 → J' a = J a) : GH I' J' := fun s hs => (h s hs).fr (fun a a1 a2 => hI a (by omega) (by omega)) (by rw [hJ 44 (by decide) (by decide)]) (by rw [hJ 45 (by decide) (by decide)]) (fun i _ => by rw [hJ 46 (by decide) (by decide)])
theorem GC.fr (h : GC J) (hJ : ∀ a, (a = 6 ∨ a = 7 ∨ a = 26) → J' a = J a) : GC J' := by
  unfold GC at h ⊢
  rw [hJ 6 (by omega), hJ 7 (by omega), hJ 26 (by omega)]
  exact h
end FR
/-! a call that both answer alike -/
def RT (M : Mi) (r : Value) : Prop := match M.2.2.2 with
  | some .long => ∃ v, r = .long v
  | _ => ∃ v, r = .int v
def CallOK (MC MM : Mi) (args : List Value) (I J : Wd) : Prop := ∃ r I' J' d1 d2, d1 ≤ 70 ∧ d2 ≤ 70 ∧ Cal SyC MC d1 (.ref 0 :: args) I (some r) I' ∧ Cal SyM MM d2 (.ref 0 :: args) J (some r) J' ∧ Rel I' J' ∧ RT MC r
theorem CallOK.mk {MC MM : Mi} {args : List Value} {I J : Wd} {r r2 : Value} {I' J' : Wd} {d1 d2 : Nat} (h1 : d1 ≤ 70) (h2 : d2 ≤ 70) (c1 : Cal SyC MC d1 (.ref 0 :: args) I (some r) I') (c2 : Cal SyM MM d2 (.ref 0 :: args) J (some r2) J') (e : r = r2) (h : Rel I' J') (hr : RT MC r := by exact Exists.intro _ rfl) : CallOK MC MM args I J := ⟨r, I', J', d1, d2, h1, h2, c1, by rw [e]; exact c2, h, hr⟩
