/-! the two as they begin -/
def jM : Wd := i0_m wZ
section R0
variable {I : Wd}
theorem z0_0 (h : St0 I) : I 0 = fun _ => 0 := (h.1 0 (by decide) (by decide) (by decide) (by decide) (by decide)).trans rfl
theorem z0_1 (h : St0 I) : I 1 = fun _ => 0 := (h.1 1 (by decide) (by decide) (by decide) (by decide) (by decide)).trans rfl
theorem z0_2 (h : St0 I) : I 2 = fun _ => 0 := (h.1 2 (by decide) (by decide) (by decide) (by decide) (by decide)).trans rfl
theorem z0_3 (h : St0 I) : I 3 = fun _ => 0 := (h.1 3 (by decide) (by decide) (by decide) (by decide) (by decide)).trans rfl
theorem z0_4 (h : St0 I) : I 4 = fun _ => 0 := (h.1 4 (by decide) (by decide) (by decide) (by decide) (by decide)).trans rfl
theorem z0_5 (h : St0 I) : I 5 = fun _ => 0 := (h.1 5 (by decide) (by decide) (by decide) (by decide) (by decide)).trans rfl
theorem z0_6 (h : St0 I) : I 6 = fun _ => 0 := (h.1 6 (by decide) (by decide) (by decide) (by decide) (by decide)).trans rfl
theorem z0_7 (h : St0 I) : I 7 = fun _ => 0 := (h.1 7 (by decide) (by decide) (by decide) (by decide) (by decide)).trans rfl
theorem z0_8 (h : St0 I) : I 8 = fun _ => 0 := (h.1 8 (by decide) (by decide) (by decide) (by decide) (by decide)).trans rfl
theorem z0_9 (h : St0 I) : I 9 = fun _ => 0 := (h.1 9 (by decide) (by decide) (by decide) (by decide) (by decide)).trans rfl
theorem z0_11 (h : St0 I) : I 11 = fun _ => 0 := (h.1 11 (by decide) (by decide) (by decide) (by decide) (by decide)).trans rfl
theorem z0_12 (h : St0 I) : I 12 = fun _ => 0 := (h.1 12 (by decide) (by decide) (by decide) (by decide) (by decide)).trans rfl
theorem z0_13 (h : St0 I) : I 13 = fun _ => 0 := (h.1 13 (by decide) (by decide) (by decide) (by decide) (by decide)).trans rfl
theorem z0_15 (h : St0 I) : I 15 = fun _ => 0 := (h.1 15 (by decide) (by decide) (by decide) (by decide) (by decide)).trans rfl
theorem z0_16 (h : St0 I) : I 16 = fun _ => 0 := (h.1 16 (by decide) (by decide) (by decide) (by decide) (by decide)).trans rfl
theorem z0_17 (h : St0 I) : I 17 = fun _ => 0 := (h.1 17 (by decide) (by decide) (by decide) (by decide) (by decide)).trans rfl
theorem z0_18 (h : St0 I) : I 18 = fun _ => 0 := (h.1 18 (by decide) (by decide) (by decide) (by decide) (by decide)).trans rfl
theorem z0_19 (h : St0 I) : I 19 = fun _ => 0 := (h.1 19 (by decide) (by decide) (by decide) (by decide) (by decide)).trans rfl
theorem z0_20 (h : St0 I) : I 20 = fun _ => 0 := (h.1 20 (by decide) (by decide) (by decide) (by decide) (by decide)).trans rfl
theorem z0_21 (h : St0 I) : I 21 = fun _ => 0 := (h.1 21 (by decide) (by decide) (by decide) (by decide) (by decide)).trans rfl
theorem z0_23 (h : St0 I) : I 23 = fun _ => 0 := (h.1 23 (by decide) (by decide) (by decide) (by decide) (by decide)).trans rfl
theorem z0_24 (h : St0 I) : I 24 = fun _ => 0 := (h.1 24 (by decide) (by decide) (by decide) (by decide) (by decide)).trans rfl
theorem z0_25 (h : St0 I) : I 25 = fun _ => 0 := (h.1 25 (by decide) (by decide) (by decide) (by decide) (by decide)).trans rfl
theorem z0_27 (h : St0 I) : I 27 = fun _ => 0 := (h.1 27 (by decide) (by decide) (by decide) (by decide) (by decide)).trans rfl
theorem z0_28 (h : St0 I) : I 28 = fun _ => 0 := (h.1 28 (by decide) (by decide) (by decide) (by decide) (by decide)).trans rfl
theorem z0_29 (h : St0 I) : I 29 = fun _ => 0 := (h.1 29 (by decide) (by decide) (by decide) (by decide) (by decide)).trans rfl
theorem z0_30 (h : St0 I) : I 30 = fun _ => 0 := (h.1 30 (by decide) (by decide) (by decide) (by decide) (by decide)).trans rfl
theorem z0_31 (h : St0 I) : I 31 = fun _ => 0 := (h.1 31 (by decide) (by decide) (by decide) (by decide) (by decide)).trans rfl
theorem z0_32 (h : St0 I) : I 32 = fun _ => 0 := (h.1 32 (by decide) (by decide) (by decide) (by decide) (by decide)).trans rfl
theorem z0_33 (h : St0 I) : I 33 = fun _ => 0 := (h.1 33 (by decide) (by decide) (by decide) (by decide) (by decide)).trans rfl
theorem z0_35 (h : St0 I) : I 35 = fun _ => 0 := (h.1 35 (by decide) (by decide) (by decide) (by decide) (by decide)).trans rfl
theorem z0_36 (h : St0 I) : I 36 = fun _ => 0 := (h.1 36 (by decide) (by decide) (by decide) (by decide) (by decide)).trans rfl
theorem z0_37 (h : St0 I) : I 37 = fun _ => 0 := (h.1 37 (by decide) (by decide) (by decide) (by decide) (by decide)).trans rfl
theorem z0_39 (h : St0 I) : I 39 = fun _ => 0 := (h.1 39 (by decide) (by decide) (by decide) (by decide) (by decide)).trans rfl
theorem z0_40 (h : St0 I) : I 40 = fun _ => 0 := (h.1 40 (by decide) (by decide) (by decide) (by decide) (by decide)).trans rfl
theorem z0_41 (h : St0 I) : I 41 = fun _ => 0 := (h.1 41 (by decide) (by decide) (by decide) (by decide) (by decide)).trans rfl
theorem z0_42 (h : St0 I) : I 42 = fun _ => 0 := (h.1 42 (by decide) (by decide) (by decide) (by decide) (by decide)).trans rfl
theorem z0_43 (h : St0 I) : I 43 = fun _ => 0 := (h.1 43 (by decide) (by decide) (by decide) (by decide) (by decide)).trans rfl
theorem z0_44 (h : St0 I) : I 44 = fun _ => 0 := (h.1 44 (by decide) (by decide) (by decide) (by decide) (by decide)).trans rfl
theorem z0_45 (h : St0 I) : I 45 = fun _ => 0 := (h.1 45 (by decide) (by decide) (by decide) (by decide) (by decide)).trans rfl
theorem z0_46 (h : St0 I) : I 46 = fun _ => 0 := (h.1 46 (by decide) (by decide) (by decide) (by decide) (by decide)).trans rfl
theorem z0_47 (h : St0 I) : I 47 = fun _ => 0 := (h.1 47 (by decide) (by decide) (by decide) (by decide) (by decide)).trans rfl
theorem z0_48 (h : St0 I) : I 48 = fun _ => 0 := (h.1 48 (by decide) (by decide) (by decide) (by decide) (by decide)).trans rfl
theorem z0_49 (h : St0 I) : I 49 = fun _ => 0 := (h.1 49 (by decide) (by decide) (by decide) (by decide) (by decide)).trans rfl
theorem z0_50 (h : St0 I) : I 50 = fun _ => 0 := (h.1 50 (by decide) (by decide) (by decide) (by decide) (by decide)).trans rfl
theorem z0_51 (h : St0 I) : I 51 = fun _ => 0 := (h.1 51 (by decide) (by decide) (by decide) (by decide) (by decide)).trans rfl
theorem z0_52 (h : St0 I) : I 52 = fun _ => 0 := (h.1 52 (by decide) (by decide) (by decide) (by decide) (by decide)).trans rfl
theorem z0_53 (h : St0 I) : I 53 = fun _ => 0 := (h.1 53 (by decide) (by decide) (by decide) (by decide) (by decide)).trans rfl
theorem z0_54 (h : St0 I) : I 54 = fun _ => 0 := (h.1 54 (by decide) (by decide) (by decide) (by decide) (by decide)).trans rfl
theorem z0_55 (h : St0 I) : I 55 = fun _ => 0 := (h.1 55 (by decide) (by decide) (by decide) (by decide) (by decide)).trans rfl
theorem z0_56 (h : St0 I) : I 56 = fun _ => 0 := (h.1 56 (by decide) (by decide) (by decide) (by decide) (by decide)).trans rfl
theorem z0_57 (h : St0 I) : I 57 = fun _ => 0 := (h.1 57 (by decide) (by decide) (by decide) (by decide) (by decide)).trans rfl
theorem z0_58 (h : St0 I) : I 58 = fun _ => 0 := (h.1 58 (by decide) (by decide) (by decide) (by decide) (by decide)).trans rfl
theorem z0_59 (h : St0 I) : I 59 = fun _ => 0 := (h.1 59 (by decide) (by decide) (by decide) (by decide) (by decide)).trans rfl
theorem z0_60 (h : St0 I) : I 60 = fun _ => 0 := (h.1 60 (by decide) (by decide) (by decide) (by decide) (by decide)).trans rfl
theorem z0_61 (h : St0 I) : I 61 = fun _ => 0 := (h.1 61 (by decide) (by decide) (by decide) (by decide) (by decide)).trans rfl
theorem z0_62 (h : St0 I) : I 62 = fun _ => 0 := (h.1 62 (by decide) (by decide) (by decide) (by decide) (by decide)).trans rfl
theorem z0_63 (h : St0 I) : I 63 = fun _ => 0 := (h.1 63 (by decide) (by decide) (by decide) (by decide) (by decide)).trans rfl
theorem z0_64 (h : St0 I) : I 64 = fun _ => 0 := (h.1 64 (by decide) (by decide) (by decide) (by decide) (by decide)).trans rfl
theorem z0_65 (h : St0 I) : I 65 = fun _ => 0 := (h.1 65 (by decide) (by decide) (by decide) (by decide) (by decide)).trans rfl
theorem z0_77 (h : St0 I) : I 77 = fun _ => 0 := (h.1 77 (by decide) (by decide) (by decide) (by decide) (by decide)).trans rfl
theorem z0_81 (h : St0 I) : I 81 = fun _ => 0 := (h.1 81 (by decide) (by decide) (by decide) (by decide) (by decide)).trans rfl
theorem z0_82 (h : St0 I) : I 82 = fun _ => 0 := (h.1 82 (by decide) (by decide) (by decide) (by decide) (by decide)).trans rfl
theorem z0_83 (h : St0 I) : I 83 = fun _ => 0 := (h.1 83 (by decide) (by decide) (by decide) (by decide) (by decide)).trans rfl
theorem z0_84 (h : St0 I) : I 84 = fun _ => 0 := (h.1 84 (by decide) (by decide) (by decide) (by decide) (by decide)).trans rfl
theorem z0_85 (h : St0 I) : I 85 = fun _ => 0 := (h.1 85 (by decide) (by decide) (by decide) (by decide) (by decide)).trans rfl
theorem z0_86 (h : St0 I) : I 86 = fun _ => 0 := (h.1 86 (by decide) (by decide) (by decide) (by decide) (by decide)).trans rfl
theorem z0_87 (h : St0 I) : I 87 = fun _ => 0 := (h.1 87 (by decide) (by decide) (by decide) (by decide) (by decide)).trans rfl
theorem z0_88 (h : St0 I) : I 88 = fun _ => 0 := (h.1 88 (by decide) (by decide) (by decide) (by decide) (by decide)).trans rfl
theorem z0_89 (h : St0 I) : I 89 = fun _ => 0 := (h.1 89 (by decide) (by decide) (by decide) (by decide) (by decide)).trans rfl
theorem z0_90 (h : St0 I) : I 90 = fun _ => 0 := (h.1 90 (by decide) (by decide) (by decide) (by decide) (by decide)).trans rfl
theorem z0_91 (h : St0 I) : I 91 = fun _ => 0 := (h.1 91 (by decide) (by decide) (by decide) (by decide) (by decide)).trans rfl
theorem z0_92 (h : St0 I) : I 92 = fun _ => 0 := (h.1 92 (by decide) (by decide) (by decide) (by decide) (by decide)).trans rfl
theorem z0_93 (h : St0 I) : I 93 = fun _ => 0 := (h.1 93 (by decide) (by decide) (by decide) (by decide) (by decide)).trans rfl
theorem z0_94 (h : St0 I) : I 94 = fun _ => 0 := (h.1 94 (by decide) (by decide) (by decide) (by decide) (by decide)).trans rfl
theorem z0_95 (h : St0 I) : I 95 = fun _ => 0 := (h.1 95 (by decide) (by decide) (by decide) (by decide) (by decide)).trans rfl
theorem z0_96 (h : St0 I) : I 96 = fun _ => 0 := (h.1 96 (by decide) (by decide) (by decide) (by decide) (by decide)).trans rfl
theorem z0_97 (h : St0 I) : I 97 = fun _ => 0 := (h.1 97 (by decide) (by decide) (by decide) (by decide) (by decide)).trans rfl
theorem z0_98 (h : St0 I) : I 98 = fun _ => 0 := (h.1 98 (by decide) (by decide) (by decide) (by decide) (by decide)).trans rfl
theorem z0_100 (h : St0 I) : I 100 = fun _ => 0 := (h.1 100 (by decide) (by decide) (by decide) (by decide) (by decide)).trans rfl
theorem z0_102 (h : St0 I) : I 102 = fun _ => 0 := (h.1 102 (by decide) (by decide) (by decide) (by decide) (by decide)).trans rfl
theorem z0_104 (h : St0 I) : I 104 = fun _ => 0 := (h.1 104 (by decide) (by decide) (by decide) (by decide) (by decide)).trans rfl
theorem z0_106 (h : St0 I) : I 106 = fun _ => 0 := (h.1 106 (by decide) (by decide) (by decide) (by decide) (by decide)).trans rfl
theorem z0_107 (h : St0 I) : I 107 = fun _ => 0 := (h.1 107 (by decide) (by decide) (by decide) (by decide) (by decide)).trans rfl
theorem z0_10 (h : St0 I) : I 10 = fmN 64 := (h.1 10 (by decide) (by decide) (by decide) (by decide) (by decide)).trans rfl
theorem z0_22 (h : St0 I) : I 22 = fmN 64 := (h.1 22 (by decide) (by decide) (by decide) (by decide) (by decide)).trans rfl
theorem z0_34 (h : St0 I) : I 34 = fmN 64 := (h.1 34 (by decide) (by decide) (by decide) (by decide) (by decide)).trans rfl
theorem z0_14 (h : St0 I) : I 14 = fmN 14 := (h.1 14 (by decide) (by decide) (by decide) (by decide) (by decide)).trans rfl
theorem z0_26 (h : St0 I) : I 26 = fmN 14 := (h.1 26 (by decide) (by decide) (by decide) (by decide) (by decide)).trans rfl
theorem z0_38 (h : St0 I) : I 38 = fmN 14 := (h.1 38 (by decide) (by decide) (by decide) (by decide) (by decide)).trans rfl
theorem z0_99 (h : St0 I) : I 99 = upd (fun _ => 0) 0 (-1) := (h.1 99 (by decide) (by decide) (by decide) (by decide) (by decide)).trans rfl
theorem z0_101 (h : St0 I) : I 101 = upd (fun _ => 0) 0 (-1) := (h.1 101 (by decide) (by decide) (by decide) (by decide) (by decide)).trans rfl
theorem z0_103 (h : St0 I) : I 103 = upd (fun _ => 0) 0 (-1) := (h.1 103 (by decide) (by decide) (by decide) (by decide) (by decide)).trans rfl
theorem z0_105 (h : St0 I) : I 105 = upd (fun _ => 0) 0 (-1) := (h.1 105 (by decide) (by decide) (by decide) (by decide) (by decide)).trans rfl
theorem jm_1 : jM 1 = fun _ => 0 := rfl
theorem jm_2 : jM 2 = fun _ => 0 := rfl
theorem jm_3 : jM 3 = fun _ => 0 := rfl
theorem jm_5 : jM 5 = fun _ => 0 := rfl
theorem jm_8 : jM 8 = fun _ => 0 := rfl
theorem jm_9 : jM 9 = fun _ => 0 := rfl
theorem jm_10 : jM 10 = fun _ => 0 := rfl
theorem jm_11 : jM 11 = fun _ => 0 := rfl
theorem jm_12 : jM 12 = fun _ => 0 := rfl
theorem jm_13 : jM 13 = fun _ => 0 := rfl
theorem jm_14 : jM 14 = fun _ => 0 := rfl
theorem jm_15 : jM 15 = fun _ => 0 := rfl
theorem jm_16 : jM 16 = fun _ => 0 := rfl
theorem jm_17 : jM 17 = fun _ => 0 := rfl
theorem jm_18 : jM 18 = fun _ => 0 := rfl
theorem jm_19 : jM 19 = fun _ => 0 := rfl
theorem jm_20 : jM 20 = fun _ => 0 := rfl
theorem jm_21 : jM 21 = fun _ => 0 := rfl
theorem jm_22 : jM 22 = fun _ => 0 := rfl
theorem jm_23 : jM 23 = fun _ => 0 := rfl
theorem jm_24 : jM 24 = fun _ => 0 := rfl
theorem jm_25 : jM 25 = fun _ => 0 := rfl
theorem jm_27 : jM 27 = fun _ => 0 := rfl
theorem jm_28 : jM 28 = fun _ => 0 := rfl
theorem jm_29 : jM 29 = fun _ => 0 := rfl
theorem jm_30 : jM 30 = fun _ => 0 := rfl
theorem jm_31 : jM 31 = fun _ => 0 := rfl
theorem jm_32 : jM 32 = fun _ => 0 := rfl
theorem jm_33 : jM 33 = fun _ => 0 := rfl
theorem jm_34 : jM 34 = fun _ => 0 := rfl
theorem jm_35 : jM 35 = fun _ => 0 := rfl
theorem jm_36 : jM 36 = fun _ => 0 := rfl
theorem jm_37 : jM 37 = fun _ => 0 := rfl
theorem jm_38 : jM 38 = fun _ => 0 := rfl
theorem jm_39 : jM 39 = fun _ => 0 := rfl
theorem jm_40 : jM 40 = fun _ => 0 := rfl
theorem jm_41 : jM 41 = fun _ => 0 := rfl
theorem jm_42 : jM 42 = fun _ => 0 := rfl
theorem jm_43 : jM 43 = fun _ => 0 := rfl
theorem jm_45 : jM 45 = fun _ => 0 := rfl
theorem jm_46 : jM 46 = fun _ => 0 := rfl
theorem jm_47 : jM 47 = fun _ => 0 := rfl
theorem jm_4 : jM 4 = fmN 64 := rfl
theorem fm_at {N c : Nat} (h : c < N) : fmN N c = -1 := by unfold fmN; rw [if_pos h]
theorem r0_GB (h : St0 I) : GB I jM 0 0 := by
  refine ⟨⟨⟨by rw [z0_1 h]; rfl, rfl, by decide⟩, by rw [z0_1 h]; rfl, rfl, by decide⟩, ⟨by rw [z0_2 h, jm_10], by rw [z0_3 h, jm_11], by rw [z0_4 h, jm_12], by rw [z0_5 h, jm_14]⟩, ⟨fun c hc => ⟨by rw [z0_7 h, jm_1], by rw [z0_8 h, jm_2], by rw [z0_9 h, jm_3], by rw [z0_10 h, jm_4]⟩, fun r hr => ⟨by rw [z0_11 h, jm_9], by rw [z0_12 h, jm_8]⟩⟩, ⟨0, by rw [z0_6 h]; rfl, rfl, by decide, fun r hr => ⟨0, 0, by rw [z0_11 h]; rfl, by rw [z0_12 h]; rfl, Nat.le_refl _, Nat.zero_le _⟩⟩, ⟨by rw [z0_6 h]; rfl, by rw [z0_6 h]; rfl, ?_⟩, fun x hx => absurd hx (Nat.not_lt_zero _), fun x hx => Or.inl (by rw [z0_15 h]), fun x _ hx => ⟨by rw [z0_14 h]; exact fm_at hx, by rw [z0_15 h]⟩, fun p hp => absurd hp (Nat.not_lt_zero _), fun p _ hp => by rw [z0_13 h], fun c hc => ?_, fun x hx => absurd hx (Nat.not_lt_zero _), fun x hx => absurd hx (Nat.not_lt_zero _)⟩
  · rw [z0_6 h, jm_4]; decide +kernel
  · rw [z0_7 h]; exact (by unfold vp_in; decide : vp_in (0 : Int32) 4)
theorem r0_GS (h : St0 I) : GS I jM 0 := by
  refine ⟨⟨by rw [z0_42 h]; rfl, rfl, by decide⟩, ⟨by rw [z0_43 h, jm_17], by rw [z0_44 h, jm_18], by rw [z0_45 h, jm_20], by rw [z0_46 h, jm_19], by rw [z0_47 h, jm_21], by rw [z0_48 h, jm_22]⟩, fun k hk => absurd hk (Nat.not_lt_zero _), fun k hk => ?_⟩
  rw [z0_47 h]; exact (by decide : inR (0 : Int32) 0 99)
theorem r0_GL (h : St0 I) : GL I jM 0 := ⟨⟨by rw [z0_49 h]; rfl, rfl, by decide⟩, ⟨by rw [z0_50 h, jm_23], by rw [z0_51 h, jm_24], by rw [z0_52 h, jm_25]⟩, fun l hl => absurd hl (Nat.not_lt_zero _)⟩
theorem r0_GW (h : St0 I) : GW I jM 0 := ⟨⟨by rw [z0_53 h]; rfl, rfl, by decide⟩, ⟨by rw [z0_54 h, jm_41], by rw [z0_56 h, jm_42]⟩, fun l hl => absurd hl (Nat.not_lt_zero _)⟩
theorem r0_GF (h : St0 I) : GF I jM := ⟨0, by rw [z0_57 h]; rfl, rfl, by decide, by rw [z0_57 h]; exact ⟨fun _ => rfl, fun _ => rfl⟩, fun q => absurd (by rw [z0_57 h]) q⟩
theorem r0_GT (h : St0 I) : GT I jM := by
  obtain ⟨-, h67, h662, h661, c, E, t1, t2, t3⟩ := h
  refine ⟨1, 0, 0, h661, rfl, by decide, by decide, h662.trans rfl, rfl, by decide, h67.trans rfl, rfl, by decide, fun i hi => absurd hi (Nat.not_lt_zero _), fun t ht => ?_⟩
  have e : t = 0 := by omega
  subst e
  exact ⟨c, E, t1, t2, fun _ => t3, fun q => absurd q (by decide)⟩
theorem r0_GO (h : St0 I) : GO I jM := ⟨by rw [z0_0 h]; rfl, by rw [z0_0 h]; rfl⟩
theorem r0_GK (h : St0 I) : GK I jM 0 0 := ⟨by rw [z0_0 h]; exact ⟨fun _ => rfl, fun _ => rfl⟩, fun x hx => Or.inl (by rw [z0_39 h]), fun q => absurd (by rw [z0_0 h]) q⟩
theorem r0_GH (h : St0 I) : GH I jM := by
  intro s hs
  rcases (show s = 0 ∨ s = 1 ∨ s = 2 ∨ s = 3 by omega) with rfl | rfl | rfl | rfl
  · exact ⟨by rw [show 99 + 2 * 0 = 99 from rfl, z0_99 h]; rfl, by decide +kernel, 0, 0, by rw [show 99 + 2 * 0 = 99 from rfl, z0_99 h]; rfl, by decide, rfl, by decide, fun q => absurd (by decide +kernel) q⟩
  · exact ⟨by rw [show 99 + 2 * 1 = 101 from rfl, z0_101 h]; rfl, by decide +kernel, 0, 0, by rw [show 99 + 2 * 1 = 101 from rfl, z0_101 h]; rfl, by decide, rfl, by decide, fun q => absurd (by decide +kernel) q⟩
  · exact ⟨by rw [show 99 + 2 * 2 = 103 from rfl, z0_103 h]; rfl, by decide +kernel, 0, 0, by rw [show 99 + 2 * 2 = 103 from rfl, z0_103 h]; rfl, by decide, rfl, by decide, fun q => absurd (by decide +kernel) q⟩
  · exact ⟨by rw [show 99 + 2 * 3 = 105 from rfl, z0_105 h]; rfl, by decide +kernel, 0, 0, by rw [show 99 + 2 * 3 = 105 from rfl, z0_105 h]; rfl, by decide, rfl, by decide, fun q => absurd (by decide +kernel) q⟩
theorem r0_GC : GC jM := ⟨by decide +kernel, by decide +kernel⟩
theorem rel_0 (h : St0 I) : Rel I jM := ⟨0, 0, 0, 0, 0, r0_GB h, r0_GS h, r0_GL h, r0_GW h, r0_GF h, r0_GT h, r0_GO h, r0_GK h, r0_GH h, r0_GC⟩
end R0
