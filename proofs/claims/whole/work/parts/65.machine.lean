/-! an E, as the reference takes it -/
def TR (k v tok val : Int32) : Prop := (k = 0 ∧ tok = 0) ∨ MT k v tok val
theorem MTk.tr {b : Nat → Int32} {n : Nat} {kd nm pl : Nat → Int32} {T : Nat} {J : Wd} {t : Nat} (h : MTk b n kd nm pl T J t) : TR (kdA kd T t) (nm t) (J 0 53) (J 0 55) := by
  by_cases q : t < T
  · unfold kdA; rw [if_pos q]; exact Or.inr (h.2.1 q).2.1
  · unfold kdA; rw [if_neg q]; exact Or.inl ⟨rfl, (h.2.2 (by have := h.1; omega)).1⟩
theorem w6 {P : Nat → Prop} {w : Nat} (hw : w < 6) (h0 : P 0) (h1 : P 1) (h2 : P 2) (h3 : P 3) (h4 : P 4) (h5 : P 5) : P w := by
  rcases (show w = 0 ∨ w = 1 ∨ w = 2 ∨ w = 3 ∨ w = 4 ∨ w = 5 by omega) with rfl | rfl | rfl | rfl | rfl | rfl <;> assumption
theorem mk8 {P : Int32 → Prop} {c : Int32} (h : mkP c) (h1 : P 40) (h2 : P 41) (h3 : P 59) (h4 : P 43) (h5 : P 45) (h6 : P 42) (h7 : P 60) (h8 : P 61) : P c := by
  rcases h with rfl | rfl | rfl | rfl | rfl | rfl | rfl | rfl <;> assumption
theorem tk_mk {k v tok val c : Int32} (h : TR k v tok val) (hc : mkP c) : tok = c ↔ k = c := by
  rcases h with ⟨rfl, rfl⟩ | ⟨rfl, rfl⟩ | ⟨rfl, rfl, _⟩ | ⟨rfl, rfl, _⟩ | ⟨w, hw, rfl, rfl, _⟩ | ⟨hm, rfl⟩
  · exact Iff.rfl
  · exact mk8 (P := fun c => (-1 : Int32) = c ↔ (1 : Int32) = c) hc (by decide) (by decide) (by decide) (by decide) (by decide) (by decide) (by decide) (by decide)
  · exact mk8 (P := fun c => (1 : Int32) = c ↔ (2 : Int32) = c) hc (by decide) (by decide) (by decide) (by decide) (by decide) (by decide) (by decide) (by decide)
  · exact mk8 (P := fun c => (2 : Int32) = c ↔ (3 : Int32) = c) hc (by decide) (by decide) (by decide) (by decide) (by decide) (by decide) (by decide) (by decide)
  · refine mk8 (P := fun c => (3 : Int32) = c ↔ nI (300 + w) = c) hc ?_ ?_ ?_ ?_ ?_ ?_ ?_ ?_ <;> exact w6 (P := fun w => _ ↔ nI (300 + w) = _) hw (by decide) (by decide) (by decide) (by decide) (by decide) (by decide)
  · exact Iff.rfl
theorem tk_1 {k v tok val : Int32} (h : TR k v tok val) : tok = 1 ↔ k = 2 := by
  rcases h with ⟨rfl, rfl⟩ | ⟨rfl, rfl⟩ | ⟨rfl, rfl, _⟩ | ⟨rfl, rfl, _⟩ | ⟨w, hw, rfl, rfl, _⟩ | ⟨hm, rfl⟩
  · decide
  · decide
  · decide
  · decide
  · exact w6 (P := fun w => (3 : Int32) = 1 ↔ nI (300 + w) = 2) hw (by decide) (by decide) (by decide) (by decide) (by decide) (by decide)
  · exact mk8 (P := fun c => c = 1 ↔ c = 2) hm (by decide) (by decide) (by decide) (by decide) (by decide) (by decide) (by decide) (by decide)
theorem tk_2 {k v tok val : Int32} (h : TR k v tok val) : tok = 2 ↔ k = 3 := by
  rcases h with ⟨rfl, rfl⟩ | ⟨rfl, rfl⟩ | ⟨rfl, rfl, _⟩ | ⟨rfl, rfl, _⟩ | ⟨w, hw, rfl, rfl, _⟩ | ⟨hm, rfl⟩
  · decide
  · decide
  · decide
  · decide
  · exact w6 (P := fun w => (3 : Int32) = 2 ↔ nI (300 + w) = 3) hw (by decide) (by decide) (by decide) (by decide) (by decide) (by decide)
  · exact mk8 (P := fun c => c = 2 ↔ c = 3) hm (by decide) (by decide) (by decide) (by decide) (by decide) (by decide) (by decide) (by decide)
theorem tk_0 {k v tok val : Int32} (h : TR k v tok val) : tok = 0 ↔ k = 0 := by
  rcases h with ⟨rfl, rfl⟩ | ⟨rfl, rfl⟩ | ⟨rfl, rfl, _⟩ | ⟨rfl, rfl, _⟩ | ⟨w, hw, rfl, rfl, _⟩ | ⟨hm, rfl⟩
  · decide
  · decide
  · decide
  · decide
  · exact w6 (P := fun w => (3 : Int32) = 0 ↔ nI (300 + w) = 0) hw (by decide) (by decide) (by decide) (by decide) (by decide) (by decide)
  · exact Iff.rfl
theorem tk_key {k v tok val : Int32} (h : TR k v tok val) {u : Nat} (hu : u < 6) : (tok = 3 ∧ val = nI u) ↔ k = nI (300 + u) := by
  have hn : ∀ c : Int32, (¬ c = 300) → (¬ c = 301) → (¬ c = 302) → (¬ c = 303) → (¬ c = 304) → (¬ c = 305) → ¬ c = nI (300 + u) := fun c c0 c1 c2 c3 c4 c5 => w6 (P := fun u => ¬ c = nI (300 + u)) hu c0 c1 c2 c3 c4 c5
  rcases h with ⟨rfl, rfl⟩ | ⟨rfl, rfl⟩ | ⟨rfl, rfl, _⟩ | ⟨rfl, rfl, _⟩ | ⟨w, hw, rfl, rfl, rfl⟩ | ⟨hm, rfl⟩
  · exact ⟨fun q => absurd q.1 (by decide), fun q => absurd q (hn 0 (by decide) (by decide) (by decide) (by decide) (by decide) (by decide))⟩
  · exact ⟨fun q => absurd q.1 (by decide), fun q => absurd q (hn 1 (by decide) (by decide) (by decide) (by decide) (by decide) (by decide))⟩
  · exact ⟨fun q => absurd q.1 (by decide), fun q => absurd q (hn 2 (by decide) (by decide) (by decide) (by decide) (by decide) (by decide))⟩
  · exact ⟨fun q => absurd q.1 (by decide), fun q => absurd q (hn 3 (by decide) (by decide) (by decide) (by decide) (by decide) (by decide))⟩
  · rw [nI_eq (by omega) (by omega), nI_eq (by omega) (by omega)]
    exact ⟨fun q => by omega, fun q => ⟨rfl, by omega⟩⟩
  · exact mk8 (P := fun c => (∀ d : Int32, (¬ d = 300) → (¬ d = 301) → (¬ d = 302) → (¬ d = 303) → (¬ d = 304) → (¬ d = 305) → ¬ d = nI (300 + u)) → ((c = 3 ∧ val = nI u) ↔ c = nI (300 + u))) hm (fun hn => ⟨fun q => absurd q.1 (by decide), fun q => absurd q (hn _ (by decide) (by decide) (by decide) (by decide) (by decide) (by decide))⟩) (fun hn => ⟨fun q => absurd q.1 (by decide), fun q => absurd q (hn _ (by decide) (by decide) (by decide) (by decide) (by decide) (by decide))⟩) (fun hn => ⟨fun q => absurd q.1 (by decide), fun q => absurd q (hn _ (by decide) (by decide) (by decide) (by decide) (by decide) (by decide))⟩) (fun hn => ⟨fun q => absurd q.1 (by decide), fun q => absurd q (hn _ (by decide) (by decide) (by decide) (by decide) (by decide) (by decide))⟩) (fun hn => ⟨fun q => absurd q.1 (by decide), fun q => absurd q (hn _ (by decide) (by decide) (by decide) (by decide) (by decide) (by decide))⟩) (fun hn => ⟨fun q => absurd q.1 (by decide), fun q => absurd q (hn _ (by decide) (by decide) (by decide) (by decide) (by decide) (by decide))⟩) (fun hn => ⟨fun q => absurd q.1 (by decide), fun q => absurd q (hn _ (by decide) (by decide) (by decide) (by decide) (by decide) (by decide))⟩) (fun hn => ⟨fun q => absurd q.1 (by decide), fun q => absurd q (hn _ (by decide) (by decide) (by decide) (by decide) (by decide) (by decide))⟩) hn
theorem tk_v2 {k v tok val : Int32} (h : TR k v tok val) (hk : k = 2) : val = v ∧ ¬ v < 0 := by
  subst hk
  rcases h with ⟨h, _⟩ | ⟨h, _⟩ | ⟨_, _, h, h2⟩ | ⟨h, _⟩ | ⟨w, hw, h, _⟩ | ⟨hm, _⟩
  · exact absurd h (by decide)
  · exact absurd h (by decide)
  · exact ⟨h, h2⟩
  · exact absurd h (by decide)
  · exact absurd h (w6 (P := fun w => ¬ (2 : Int32) = nI (300 + w)) hw (by decide) (by decide) (by decide) (by decide) (by decide) (by decide))
  · exact absurd hm (by decide)
theorem tk_v3 {k v tok val : Int32} (h : TR k v tok val) (hk : k = 3) : ∃ i, i < 8 ∧ v = nI i ∧ val = nI (i + 10) := by
  subst hk
  rcases h with ⟨h, _⟩ | ⟨h, _⟩ | ⟨h, _⟩ | ⟨_, _, h⟩ | ⟨w, hw, h, _⟩ | ⟨hm, _⟩
  · exact absurd h (by decide)
  · exact absurd h (by decide)
  · exact absurd h (by decide)
  · exact h
  · exact absurd h (w6 (P := fun w => ¬ (3 : Int32) = nI (300 + w)) hw (by decide) (by decide) (by decide) (by decide) (by decide) (by decide))
  · exact absurd hm (by decide)
def jt (k : Int32) : Int32 := if k = 42 ∨ k = 43 ∨ k = 45 ∨ k = 60 ∨ k = 61 then k else if k = 304 then 38 else if k = 303 then 124 else 0
theorem jnt_eq {k v tok val : Int32} (h : TR k v tok val) : jntF tok val = jt k := by
  have h3 := tk_key h (u := 3) (by decide)
  have h4 := tk_key h (u := 4) (by decide)
  have e3 : nI 3 = (3 : Int32) := rfl
  have e4 : nI 4 = (4 : Int32) := rfl
  have e303 : nI (300 + 3) = (303 : Int32) := rfl
  have e304 : nI (300 + 4) = (304 : Int32) := rfl
  rw [e3, e303] at h3
  rw [e4, e304] at h4
  have m1 := tk_mk h (c := 42) (by decide)
  have m2 := tk_mk h (c := 43) (by decide)
  have m3 := tk_mk h (c := 45) (by decide)
  have m4 := tk_mk h (c := 60) (by decide)
  have m5 := tk_mk h (c := 61) (by decide)
  unfold jntF jt
  by_cases q : k = 42 ∨ k = 43 ∨ k = 45 ∨ k = 60 ∨ k = 61
  · have q2 : tok = 42 ∨ tok = 43 ∨ tok = 45 ∨ tok = 60 ∨ tok = 61 := by rw [m1, m2, m3, m4, m5]; exact q
    rw [if_pos q, if_pos q2]
    rcases q with rfl | rfl | rfl | rfl | rfl
    · exact m1.mpr rfl
    · exact m2.mpr rfl
    · exact m3.mpr rfl
    · exact m4.mpr rfl
    · exact m5.mpr rfl
  · have q2 : ¬ (tok = 42 ∨ tok = 43 ∨ tok = 45 ∨ tok = 60 ∨ tok = 61) := by rw [m1, m2, m3, m4, m5]; exact q
    rw [if_neg q, if_neg q2]
    simp only [h3, h4]
/-! the machine of the reference, over token numbers -/
abbrev opK (k : Int32) (mn : Bool) : Prop := k = 40 ∨ k = 45 ∨ (mn = true ∧ k = 305)
def opW (k : Int32) : Int32 := if k = 40 then 40 else if k = 45 then 126 else 33
section ME
variable (kd nm : Nat → Int32) (f : Nat → Int32) (T : Nat)
def vlF (t : Nat) : Int32 := if kdA kd T t = 2 then nm t else f (nm t).toNatClampNeg
def mE : Nat → Nat → List Int32 → List Int32 → Nat → Bool → Bool → Bool × Nat × List Int32
  | 0, t, _, ps, _, _, _ => (false, t, ps)
  | n + 1, t, ws, ps, o, wants, mn =>
    if wants = true then
      (if opK (kdA kd T t) mn then (if o = 5 then (false, t, ps) else mE n (t + 1) (opW (kdA kd T t) :: ws) ps (o + 1) true (decide (¬ kdA kd T t = 45)))
      else if kdA kd T t = 2 ∨ kdA kd T t = 3 then mE n (t + 1) (msettle 7 ws (vlF kd nm f T t :: ps) o).1 (msettle 7 ws (vlF kd nm f T t :: ps) o).2.1 (msettle 7 ws (vlF kd nm f T t :: ps) o).2.2 false mn
      else (false, t, ps))
    else if ¬ jt (kdA kd T t) = 0 then
      (if (jt (kdA kd T t) = 60 ∨ jt (kdA kd T t) = 61) ∧ topR (msettle (jrF (jt (kdA kd T t))) ws ps o).1 = 4 then (false, t, (msettle (jrF (jt (kdA kd T t))) ws ps o).2.1)
      else mE n (t + 1) (jt (kdA kd T t) :: (msettle (jrF (jt (kdA kd T t))) ws ps o).1) (msettle (jrF (jt (kdA kd T t))) ws ps o).2.1 (msettle (jrF (jt (kdA kd T t))) ws ps o).2.2 true (decide (jt (kdA kd T t) = 38 ∨ jt (kdA kd T t) = 124)))
    else (match (msettle 1 ws ps o).1 with
      | [] => (true, t, (msettle 1 ws ps o).2.1)
      | _ :: u => if kdA kd T t = 41 then mE n (t + 1) (msettle 7 u (msettle 1 ws ps o).2.1 ((msettle 1 ws ps o).2.2 - 1)).1 (msettle 7 u (msettle 1 ws ps o).2.1 ((msettle 1 ws ps o).2.2 - 1)).2.1 (msettle 7 u (msettle 1 ws ps o).2.1 ((msettle 1 ws ps o).2.2 - 1)).2.2 false mn
        else (false, t, (msettle 1 ws ps o).2.1))
end ME
section ME2
variable {kd nm : Nat → Int32} {f : Nat → Int32} {T n t o : Nat} {ws ps : List Int32} {mn : Bool}
theorem mE_op5 (h : opK (kdA kd T t) mn) (ho : o = 5) : mE kd nm f T (n + 1) t ws ps o true mn = (false, t, ps) := by rw [mE, if_pos rfl, if_pos h, if_pos ho]
theorem mE_op (h : opK (kdA kd T t) mn) (ho : ¬ o = 5) : mE kd nm f T (n + 1) t ws ps o true mn = mE kd nm f T n (t + 1) (opW (kdA kd T t) :: ws) ps (o + 1) true (decide (¬ kdA kd T t = 45)) := by rw [mE, if_pos rfl, if_pos h, if_neg ho]
theorem mE_vl (h : ¬ opK (kdA kd T t) mn) (hv : kdA kd T t = 2 ∨ kdA kd T t = 3) : mE kd nm f T (n + 1) t ws ps o true mn = mE kd nm f T n (t + 1) (msettle 7 ws (vlF kd nm f T t :: ps) o).1 (msettle 7 ws (vlF kd nm f T t :: ps) o).2.1 (msettle 7 ws (vlF kd nm f T t :: ps) o).2.2 false mn := by rw [mE, if_pos rfl, if_neg h, if_pos hv]
theorem mE_no (h : ¬ opK (kdA kd T t) mn) (hv : ¬ (kdA kd T t = 2 ∨ kdA kd T t = 3)) : mE kd nm f T (n + 1) t ws ps o true mn = (false, t, ps) := by rw [mE, if_pos rfl, if_neg h, if_neg hv]
theorem mE_js {w : Int32} (hw : jt (kdA kd T t) = w) (h0 : ¬ w = 0) (h : (w = 60 ∨ w = 61) ∧ topR (msettle (jrF w) ws ps o).1 = 4) : mE kd nm f T (n + 1) t ws ps o false mn = (false, t, (msettle (jrF w) ws ps o).2.1) := by subst hw; rw [mE, if_neg (by decide), if_pos h0, if_pos h]
theorem mE_jo {w : Int32} (hw : jt (kdA kd T t) = w) (h0 : ¬ w = 0) (h : ¬ ((w = 60 ∨ w = 61) ∧ topR (msettle (jrF w) ws ps o).1 = 4)) : mE kd nm f T (n + 1) t ws ps o false mn = mE kd nm f T n (t + 1) (w :: (msettle (jrF w) ws ps o).1) (msettle (jrF w) ws ps o).2.1 (msettle (jrF w) ws ps o).2.2 true (decide (w = 38 ∨ w = 124)) := by subst hw; rw [mE, if_neg (by decide), if_pos h0, if_neg h]
theorem mE_end (h0 : jt (kdA kd T t) = 0) {ps' : List Int32} {o' : Nat} (h : msettle 1 ws ps o = ([], ps', o')) : mE kd nm f T (n + 1) t ws ps o false mn = (true, t, ps') := by rw [mE, if_neg (by decide), if_neg (fun q => q h0), h]
theorem mE_rp (h0 : jt (kdA kd T t) = 0) {w : Int32} {u ps' : List Int32} {o' : Nat} (h : msettle 1 ws ps o = (w :: u, ps', o')) (h41 : kdA kd T t = 41) : mE kd nm f T (n + 1) t ws ps o false mn = mE kd nm f T n (t + 1) (msettle 7 u ps' (o' - 1)).1 (msettle 7 u ps' (o' - 1)).2.1 (msettle 7 u ps' (o' - 1)).2.2 false mn := by rw [mE, if_neg (by decide), if_neg (fun q => q h0), h]; exact if_pos h41
theorem mE_rn (h0 : jt (kdA kd T t) = 0) {w : Int32} {u ps' : List Int32} {o' : Nat} (h : msettle 1 ws ps o = (w :: u, ps', o')) (h41 : ¬ kdA kd T t = 41) : mE kd nm f T (n + 1) t ws ps o false mn = (false, t, ps') := by rw [mE, if_neg (by decide), if_neg (fun q => q h0), h]; exact if_neg h41
end ME2
