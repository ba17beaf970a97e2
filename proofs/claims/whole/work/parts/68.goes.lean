/-! goes -/
section GG
variable (kd nm : Nat → Int32) (f : Nat → Int32) (T : Nat)
def gR (t : Nat) : Bool × Nat × List Int32 := mE kd nm f T (T + 1 - (t + 1)) (t + 1) [] [] 0 true true
def gT : Nat → Nat
  | 0 => 0
  | p + 1 => (gR kd nm f T (gT p)).2.1 + 1
def gF : Nat → Nat → Option Nat
  | 0, p => if kdA kd T (gT kd nm f T p) = 0 then none else some (gT kd nm f T p)
  | n + 1, p => if kdA kd T (gT kd nm f T p) = nI (300 + p) then (if (gR kd nm f T (gT kd nm f T p)).1 = true ∧ kdA kd T (gR kd nm f T (gT kd nm f T p)).2.1 = 59 then gF n (p + 1) else some (gR kd nm f T (gT kd nm f T p)).2.1) else some (gT kd nm f T p)
end GG
def plX (pl : Nat → Int32) (T n e : Nat) : Int32 := if e < T then pl e else nI n
def Fr7 (J J' : Wd) : Prop := (∀ a, a ≠ 0 → a ≠ 36 → a ≠ 37 → a ≠ 39 → J' a = J a) ∧ ∀ j, (j < 50 ∨ 61 < j) → J' 0 j = J 0 j
theorem Fr7.t4 {J K L : Wd} (h : Fr7 J K) (h2 : Fr4 K L) : Fr7 J L := ⟨fun a a1 a2 a3 a4 => (h2.1 a a1).trans (h.1 a a1 a2 a3 a4), fun j hj => (h2.2 j (by omega)).trans (h.2 j hj)⟩
theorem Fr7.t6 {J K L : Wd} (h : Fr7 J K) (h2 : Fr6 K L) : Fr7 J L := ⟨fun a a1 a2 a3 a4 => (h2.1 a a1 a2 a3).trans (h.1 a a1 a2 a3 a4), fun j hj => (h2.2 j (by omega)).trans (h.2 j hj)⟩
theorem Fr7.says {J W : Wd} (h : Fr7 J W) {j : Nat} {v : Int32} : Fr7 J (ist W 39 j v) := by
  refine ⟨fun a a1 a2 a3 a4 => by rw [ist_ne a4]; exact h.1 a a1 a2 a3 a4, fun i hi => ?_⟩
  rw [ist_ne (by decide)]
  exact h.2 i hi
theorem Fr7.f {J W : Wd} (h : Fr7 J W) {j : Nat} {v : Int32} (hj : 50 ≤ j ∧ j ≤ 61) : Fr7 J (ist W 0 j v) := by
  refine ⟨fun a a1 a2 a3 a4 => by rw [ist_ne a1]; exact h.1 a a1 a2 a3 a4, fun i hi => ?_⟩
  rw [ist_eq, upd_ne (by omega)]
  exact h.2 i hi
theorem MB.says {W : Wd} {ba n j : Nat} {v : Int32} {mb : Nat → Int32} (h : MB W ba n mb) : MB (ist W 39 j v) ba n mb := by
  unfold MB at h ⊢
  rw [ist_ne (show (0 : Nat) ≠ 39 by decide), ist_ne (show (34 : Nat) ≠ 39 by decide)]
  exact h
theorem MTk.says {b : Nat → Int32} {n : Nat} {kd nm pl : Nat → Int32} {T : Nat} {W : Wd} {t j : Nat} {v : Int32} (h : MTk b n kd nm pl T W t) : MTk b n kd nm pl T (ist W 39 j v) t := h.e (fun i _ _ => by rw [ist_ne (by decide)])
theorem MTk.at {b : Nat → Int32} {n : Nat} {kd nm pl : Nat → Int32} {T : Nat} {W : Wd} {t : Nat} (h : MTk b n kd nm pl T W t) : W 0 54 = plX pl T n t := by
  unfold plX
  split
  · next q => exact (h.2.1 q).1
  · next q => exact (h.2.2 (by have := h.1; omega)).2
theorem key_p {k v tok val : Int32} (h : TR k v tok val) {p : Nat} (hp : p < 3) : (tok = 3 ∧ val = nI p) ↔ k = nI (300 + p) := tk_key h (by omega)
def tX11_goes : List (Nat × Instr × Nat) := [(0, .aload_n 0, 1), (1, .sipush 160, 3), (4, .iload_n 1, 1), (5, .imul, 1), (6, .putfield 167, 3), (9, .aload_n 0, 1), (10, .aload_n 0, 1), (11, .getfield 164, 3), (14, .iload_n 1, 1), (15, .iaload, 1), (16, .putfield 170, 3), (19, .aload_n 0, 1), (20, .iconst 0, 1), (21, .putfield 173, 3), (24, .aload_n 0, 1), (25, .invokevirtual 357, 3), (28, .iconst 0, 1), (29, .istore_n 2, 1), (30, .iload_n 2, 1), (31, .iconst 3, 1), (32, .if_icmp .ge 57, 3), (35, .aload_n 0, 1), (36, .iload_n 2, 1), (37, .invokevirtual 363, 3), (40, .ifCond .ne 5, 3), (43, .iconst 0, 1), (44, .ireturn, 1), (45, .aload_n 0, 1), (46, .invokevirtual 357, 3), (49, .aload_n 0, 1), (50, .invokevirtual 379, 3), (53, .ifCond .eq 12, 3), (56, .aload_n 0, 1), (57, .getfield 176, 3), (60, .bipush 59, 2), (62, .if_icmp .eq 5, 3), (65, .iconst 0, 1), (66, .ireturn, 1), (67, .aload_n 0, 1), (68, .getfield 203, 3), (71, .iload_n 2, 1), (72, .aload_n 0, 1), (73, .getfield 188, 3), (76, .iconst 0, 1), (77, .iaload, 1), (78, .iastore, 1), (79, .aload_n 0, 1), (80, .invokevirtual 357, 3), (83, .iinc 2 1, 3), (86, .goto (-56), 3), (89, .aload_n 0, 1), (90, .getfield 176, 3), (93, .ifCond .ne 7, 3), (96, .iconst 1, 1), (97, .goto 4, 3), (100, .iconst 0, 1), (101, .ireturn, 1)]
theorem dtX11_goes : dec_ok mX11_goes.2.1 tX11_goes = true := by decide +kernel
set_option maxHeartbeats 2000000 in
theorem lr_goes {J0 : Wd} {ba n : Nat} {b mb kd nm pl : Nat → Int32} {T : Nat} (hBR : ∀ i, i < n → BRel (b i) (mb i)) (hT : TokOK b n kd nm pl T) (hT6 : T ≤ 160) {x1 : Int32} : ∀ (m p : Nat) (x2 : Int32) (W : Wd), p + m = 3 → x2 = nI p → Fr7 J0 W → MB W ba n mb → MTk b n kd nm pl T W (gT kd nm (J0 38) T p) → (∀ q, q < p → ∀ v, (gR kd nm (J0 38) T (gT kd nm (J0 38) T q)).2.2 = [v] → W 39 q = v) → BdQ SyM mX11_goes 6 30 [(2, .int x2), (0, .ref 0), (1, .int x1)] [] W (fun r J' => Fr7 J0 J' ∧ (gF kd nm (J0 38) T m p = none → r = some (.int 1) ∧ (∀ q, q < 3 → ∀ v, (gR kd nm (J0 38) T (gT kd nm (J0 38) T q)).2.2 = [v] → J' 39 q = v)) ∧ ∀ e, gF kd nm (J0 38) T m p = some e → r = some (.int 0) ∧ J' 0 54 = plX pl T n e) := by
  intro m
  induction m with
  | zero =>
    intro p x2 W hm e2 hF hM hK hS
    subst e2
    refine BdQ.l (fun _ _ k => b_iload_n (pc := 30) (i := 2) (dd dtX11_goes 18 rfl) rfl rfl k) ?_
    refine BdQ.l (fun _ _ k => b_ic3 (pc := 31) (dd dtX11_goes 19 rfl) k) ?_
    refine BdQ.c (fun _ _ k1 k2 => b_icmpL_ge (pc := 32) (tgt := 89) (dd dtX11_goes 20 rfl) (by decide) k1 k2) (fun h32 => ?_) (fun h32 => ?_)
    · refine BdQ.l (fun _ _ k => b_aload_n (pc := 89) (i := 0) (dd dtX11_goes 50 rfl) rfl rfl k) ?_
      refine BdQ.l (fun _ _ k => b_geti (pc := 90) (dd dtX11_goes 51 rfl) fwX11_176 pM_0 k) ?_
      refine BdQ.c (fun _ _ k1 k2 => b_if_ne (pc := 93) (tgt := 100) (dd dtX11_goes 52 rfl) (by decide) k1 k2) (fun h93 => ?_) (fun h93 => ?_)
      · refine BdQ.l (fun _ _ k => b_ic0 (pc := 100) (dd dtX11_goes 55 rfl) k) ?_
        refine ⟨_, _, ?_, b_zret (dd dtX11_goes 56 rfl) rfl (by decide)⟩
        have hp : p = 3 := by omega
        subst hp
        have h0 := tk_0 hK.tr
        refine ⟨hF, fun q => ?_, fun e q => ?_⟩
        · refine ⟨?_, hS⟩
          first
          | rfl
          | (exfalso
             have hz : ¬ kdA kd T (gT kd nm (J0 38) T 3) = 0 := fun z => h93 (h0.mpr z)
             rw [gF, if_neg hz] at q
             cases q)
        · first
          | (exfalso
             have hz : kdA kd T (gT kd nm (J0 38) T 3) = 0 := h0.mp h93
             rw [gF, if_pos hz] at q
             cases q)
          | (have hz : ¬ kdA kd T (gT kd nm (J0 38) T 3) = 0 := fun z => h93 (h0.mpr z)
             rw [gF, if_neg hz] at q
             cases q
             exact ⟨rfl, hK.at⟩)
      · refine BdQ.l (fun _ _ k => b_ic1 (pc := 96) (dd dtX11_goes 53 rfl) k) ?_
        refine BdQ.l (fun _ _ k => b_goto (pc := 97) (tgt := 101) (dd dtX11_goes 54 rfl) (by decide) k) ?_
        refine ⟨_, _, ?_, b_zret (dd dtX11_goes 56 rfl) rfl (by decide)⟩
        have hp : p = 3 := by omega
        subst hp
        have h0 := tk_0 hK.tr
        refine ⟨hF, fun q => ?_, fun e q => ?_⟩
        · refine ⟨?_, hS⟩
          first
          | rfl
          | (exfalso
             have hz : ¬ kdA kd T (gT kd nm (J0 38) T 3) = 0 := fun z => h93 (h0.mpr z)
             rw [gF, if_neg hz] at q
             cases q)
        · first
          | (exfalso
             have hz : kdA kd T (gT kd nm (J0 38) T 3) = 0 := h0.mp h93
             rw [gF, if_pos hz] at q
             cases q)
          | (have hz : ¬ kdA kd T (gT kd nm (J0 38) T 3) = 0 := fun z => h93 (h0.mpr z)
             rw [gF, if_neg hz] at q
             cases q
             exact ⟨rfl, hK.at⟩)
    · exact absurd h32 (by rw [show p = 3 by omega]; decide)
  | succ m ih =>
    intro p x2 W hm e2 hF hM hK hS
    subst e2
    refine BdQ.l (fun _ _ k => b_iload_n (pc := 30) (i := 2) (dd dtX11_goes 18 rfl) rfl rfl k) ?_
    refine BdQ.l (fun _ _ k => b_ic3 (pc := 31) (dd dtX11_goes 19 rfl) k) ?_
    refine BdQ.c (fun _ _ k1 k2 => b_icmpL_ge (pc := 32) (tgt := 89) (dd dtX11_goes 20 rfl) (by decide) k1 k2) (fun h32 => ?_) (fun h32 => ?_)
    · exact absurd (nI_lt (show p < 3 by omega) (by decide)) h32
    · refine BdQ.l (fun _ _ k => b_aload_n (pc := 35) (i := 0) (dd dtX11_goes 21 rfl) rfl rfl k) ?_
      refine BdQ.l (fun _ _ k => b_iload_n (pc := 36) (i := 2) (dd dtX11_goes 22 rfl) rfl rfl k) ?_
      refine BdQ.l (fun _ _ k => b_invV (pc := 37) (dd dtX11_goes 23 rfl) mlX11_363 mvX11_isKey miX11_isKey (c_X11_isKey) oM_0 rfl rfl (by decide) (Nat.le_of_ble_eq_true rfl) k) ?_
      refine BdQ.b (fun _ _ k1 k2 => b_ifb_ne (pc := 40) (tgt := 45) (dd dtX11_goes 24 rfl) (by decide) k1 k2) (fun h40 => ?_) (fun h40 => ?_)
      · have hkp : kdA kd T (gT kd nm (J0 38) T p) = nI (300 + p) := (key_p hK.tr (by omega)).mp h40
        have htT : gT kd nm (J0 38) T p < T := kdA_lt (kd := kd) (by rw [hkp]; exact nI_ne0 (by omega) (by omega))
        obtain ⟨pp, hpp⟩ := (hK.2.1 htT).2.2
        refine BdQ.l (fun _ _ k => b_aload_n (pc := 45) (i := 0) (dd dtX11_goes 27 rfl) rfl rfl k) ?_
        obtain ⟨_, I46, ⟨rfl, F46, K46⟩, k46⟩ := q_step hM hBR hT hpp
        have hM46 := hM.fr F46
        have h38 : I46 38 = J0 38 := by rw [F46.1 38 (by decide)]; exact hF.1 38 (by decide) (by decide) (by decide) (by decide)
        refine BdQ.l (fun _ _ k => b_invV (pc := 46) (dd dtX11_goes 28 rfl) mlX11_357 mvX11_step miX11_step (k46) oM_0 rfl rfl (by decide) (Nat.le_of_ble_eq_true rfl) k) ?_
        refine BdQ.l (fun _ _ k => b_aload_n (pc := 49) (i := 0) (dd dtX11_goes 29 rfl) rfl rfl k) ?_
        obtain ⟨_, I50, ⟨rfl, F50, K50, S50⟩, k50⟩ := q_takes hM46 hBR hT hT6 K46
        rw [h38] at K50 S50 k50
        have hM50 := hM46.fr6 F50
        have hF50 := (hF.t4 F46).t6 F50
        refine BdQ.l (fun _ _ k => b_invV (pc := 50) (dd dtX11_goes 30 rfl) mlX11_379 mvX11_takesE miX11_takesE (k50) oM_0 rfl rfl (by decide) (Nat.le_of_ble_eq_true rfl) k) ?_
        refine BdQ.b (fun _ _ k1 k2 => b_if_eq (pc := 53) (tgt := 65) (dd dtX11_goes 31 rfl) (by decide) k1 k2) (fun h53 => ?_) (fun h53 => ?_)
        · refine BdQ.l (fun _ _ k => b_ic0 (pc := 65) (dd dtX11_goes 36 rfl) k) ?_
          refine ⟨_, _, ?_, b_zret (dd dtX11_goes 37 rfl) rfl (by decide)⟩
          first
          | (have hkn : ¬ kdA kd T (gT kd nm (J0 38) T p) = nI (300 + p) := fun z => h40 ((key_p hK.tr (by omega)).mpr z)
             have hgf : gF kd nm (J0 38) T (m + 1) p = some (gT kd nm (J0 38) T p) := by rw [gF, if_neg hkn]
             rw [hgf]
             exact ⟨hF, fun q => (by cases q), fun e q => (by cases q; exact ⟨rfl, hK.at⟩)⟩)
          | (have hnd : ¬ ((gR kd nm (J0 38) T (gT kd nm (J0 38) T p)).1 = true ∧ kdA kd T (gR kd nm (J0 38) T (gT kd nm (J0 38) T p)).2.1 = 59) := fun z => h62 ((tk_mk K50.tr (by decide)).mpr z.2)
             have hgf : gF kd nm (J0 38) T (m + 1) p = some (gR kd nm (J0 38) T (gT kd nm (J0 38) T p)).2.1 := by rw [gF, if_pos hkp, if_neg hnd]
             rw [hgf]
             exact ⟨hF50, fun q => (by cases q), fun e q => (by cases q; exact ⟨rfl, K50.at⟩)⟩)
          | (have hnd : ¬ ((gR kd nm (J0 38) T (gT kd nm (J0 38) T p)).1 = true ∧ kdA kd T (gR kd nm (J0 38) T (gT kd nm (J0 38) T p)).2.1 = 59) := fun z => absurd h53 (by
               have z1 : (mE kd nm (J0 38) T (T + 1 - (gT kd nm (J0 38) T p + 1)) (gT kd nm (J0 38) T p + 1) [] [] 0 true true).1 = true := z.1
               rw [z1]; decide)
             have hgf : gF kd nm (J0 38) T (m + 1) p = some (gR kd nm (J0 38) T (gT kd nm (J0 38) T p)).2.1 := by rw [gF, if_pos hkp, if_neg hnd]
             rw [hgf]
             exact ⟨hF50, fun q => (by cases q), fun e q => (by cases q; exact ⟨rfl, K50.at⟩)⟩)
        · refine BdQ.l (fun _ _ k => b_aload_n (pc := 56) (i := 0) (dd dtX11_goes 32 rfl) rfl rfl k) ?_
          refine BdQ.l (fun _ _ k => b_geti (pc := 57) (dd dtX11_goes 33 rfl) fwX11_176 pM_0 k) ?_
          refine BdQ.l (fun _ _ k => b_bipush (pc := 60) (v := 59) (dd dtX11_goes 34 rfl) (by decide) k) ?_
          refine BdQ.b (fun _ _ k1 k2 => b_icmp_eq (pc := 62) (tgt := 67) (dd dtX11_goes 35 rfl) (by decide) k1 k2) (fun h62 => ?_) (fun h62 => ?_)
          · refine BdQ.l (fun _ _ k => b_aload_n (pc := 67) (i := 0) (dd dtX11_goes 38 rfl) rfl rfl k) ?_
            refine BdQ.l (fun _ _ k => b_geta (pc := 68) (dd dtX11_goes 39 rfl) fwX11_203 pM_0 rM_0_62 k) ?_
            refine BdQ.l (fun _ _ k => b_iload_n (pc := 71) (i := 2) (dd dtX11_goes 40 rfl) rfl rfl k) ?_
            refine BdQ.l (fun _ _ k => b_aload_n (pc := 72) (i := 0) (dd dtX11_goes 41 rfl) rfl rfl k) ?_
            refine BdQ.l (fun _ _ k => b_geta (pc := 73) (dd dtX11_goes 42 rfl) fwX11_188 pM_0 rM_0_57 k) ?_
            refine BdQ.l (fun _ _ k => b_ic0 (pc := 76) (dd dtX11_goes 43 rfl) k) ?_
            refine BdQ.l (fun _ _ k => b_iald (pc := 77) (dd dtX11_goes 44 rfl) pM_37 (vpn (h := 0) rfl (by decide) (by decide)) k) ?_
            refine BdQ.l (fun _ _ k => b_iast (pc := 78) (dd dtX11_goes 45 rfl) pM_39 (vpn rfl (show p < 3 by omega) (by decide)) k) ?_
            refine BdQ.l (fun _ _ k => b_aload_n (pc := 79) (i := 0) (dd dtX11_goes 46 rfl) rfl rfl k) ?_
            have hdone : (gR kd nm (J0 38) T (gT kd nm (J0 38) T p)).1 = true := by
              have h53' := h53
              unfold b2 at h53'
              split at h53'
              · assumption
              · exact absurd rfl h53'
            have h59 : kdA kd T (gR kd nm (J0 38) T (gT kd nm (J0 38) T p)).2.1 = 59 := (tk_mk K50.tr (by decide)).mp h62
            have htT2 : (gR kd nm (J0 38) T (gT kd nm (J0 38) T p)).2.1 < T := kdA_lt (kd := kd) (by rw [h59]; decide)
            have K50b := MTk.says (j := p) (v := I50 37 0) K50
            obtain ⟨pp2, hpp2⟩ := (K50b.2.1 htT2).2.2
            rw [nI_clamp (show p < 2 ^ 31 by omega), show (0 : Int32).toNatClampNeg = 0 from rfl]
            obtain ⟨_, I80, ⟨rfl, F80, K80⟩, k80⟩ := q_step hM50.says hBR hT hpp2
            refine BdQ.l (fun _ _ k => b_invV (pc := 80) (dd dtX11_goes 47 rfl) mlX11_357 mvX11_step miX11_step (k80) oM_0 rfl rfl (by decide) (Nat.le_of_ble_eq_true rfl) k) ?_
            refine BdQ.l (fun _ _ k => b_iinc1 (pc := 83) (i := 2) (lv' := [(2, _), (0, _), (1, _)]) (dd dtX11_goes 48 rfl) rfl (Nat.le_of_ble_eq_true rfl) rfl k) ?_
            refine BdQ.l (fun _ _ k => b_goto (pc := 86) (tgt := 30) (dd dtX11_goes 49 rfl) (by decide) k) ?_
            rw [nI_1]
            have hgf : gF kd nm (J0 38) T (m + 1) p = gF kd nm (J0 38) T m (p + 1) := by rw [gF, if_pos hkp, if_pos ⟨hdone, h59⟩]
            rw [hgf]
            refine ih (p + 1) _ _ (by omega) rfl (hF50.says.t4 F80) (hM50.says.fr F80) K80 (fun q hq v hv => ?_)
            rw [F80.1 39 (by decide), ist_eq]
            by_cases e : q = p
            · subst e
              rw [upd_eq]
              have hv2 : (mE kd nm (J0 38) T (T + 1 - (gT kd nm (J0 38) T q + 1)) (gT kd nm (J0 38) T q + 1) [] [] 0 true true).2.2 = [v] := hv
              rw [hv2] at S50
              exact S50.1
            · rw [upd_ne e]
              have := hS q (by omega) v hv
              rw [F50.1 39 (by decide) (by decide) (by decide), F46.1 39 (by decide)]
              exact this
          · refine BdQ.l (fun _ _ k => b_ic0 (pc := 65) (dd dtX11_goes 36 rfl) k) ?_
            refine ⟨_, _, ?_, b_zret (dd dtX11_goes 37 rfl) rfl (by decide)⟩
            first
            | (have hkn : ¬ kdA kd T (gT kd nm (J0 38) T p) = nI (300 + p) := fun z => h40 ((key_p hK.tr (by omega)).mpr z)
               have hgf : gF kd nm (J0 38) T (m + 1) p = some (gT kd nm (J0 38) T p) := by rw [gF, if_neg hkn]
               rw [hgf]
               exact ⟨hF, fun q => (by cases q), fun e q => (by cases q; exact ⟨rfl, hK.at⟩)⟩)
            | (have hnd : ¬ ((gR kd nm (J0 38) T (gT kd nm (J0 38) T p)).1 = true ∧ kdA kd T (gR kd nm (J0 38) T (gT kd nm (J0 38) T p)).2.1 = 59) := fun z => h62 ((tk_mk K50.tr (by decide)).mpr z.2)
               have hgf : gF kd nm (J0 38) T (m + 1) p = some (gR kd nm (J0 38) T (gT kd nm (J0 38) T p)).2.1 := by rw [gF, if_pos hkp, if_neg hnd]
               rw [hgf]
               exact ⟨hF50, fun q => (by cases q), fun e q => (by cases q; exact ⟨rfl, K50.at⟩)⟩)
            | (have hnd : ¬ ((gR kd nm (J0 38) T (gT kd nm (J0 38) T p)).1 = true ∧ kdA kd T (gR kd nm (J0 38) T (gT kd nm (J0 38) T p)).2.1 = 59) := fun z => absurd h53 (by
                 have z1 : (mE kd nm (J0 38) T (T + 1 - (gT kd nm (J0 38) T p + 1)) (gT kd nm (J0 38) T p + 1) [] [] 0 true true).1 = true := z.1
                 rw [z1]; decide)
               have hgf : gF kd nm (J0 38) T (m + 1) p = some (gR kd nm (J0 38) T (gT kd nm (J0 38) T p)).2.1 := by rw [gF, if_pos hkp, if_neg hnd]
               rw [hgf]
               exact ⟨hF50, fun q => (by cases q), fun e q => (by cases q; exact ⟨rfl, K50.at⟩)⟩)
      · refine BdQ.l (fun _ _ k => b_ic0 (pc := 43) (dd dtX11_goes 25 rfl) k) ?_
        refine ⟨_, _, ?_, b_zret (dd dtX11_goes 26 rfl) rfl (by decide)⟩
        first
        | (have hkn : ¬ kdA kd T (gT kd nm (J0 38) T p) = nI (300 + p) := fun z => h40 ((key_p hK.tr (by omega)).mpr z)
           have hgf : gF kd nm (J0 38) T (m + 1) p = some (gT kd nm (J0 38) T p) := by rw [gF, if_neg hkn]
           rw [hgf]
           exact ⟨hF, fun q => (by cases q), fun e q => (by cases q; exact ⟨rfl, hK.at⟩)⟩)
        | (have hnd : ¬ ((gR kd nm (J0 38) T (gT kd nm (J0 38) T p)).1 = true ∧ kdA kd T (gR kd nm (J0 38) T (gT kd nm (J0 38) T p)).2.1 = 59) := fun z => h62 ((tk_mk K50.tr (by decide)).mpr z.2)
           have hgf : gF kd nm (J0 38) T (m + 1) p = some (gR kd nm (J0 38) T (gT kd nm (J0 38) T p)).2.1 := by rw [gF, if_pos hkp, if_neg hnd]
           rw [hgf]
           exact ⟨hF50, fun q => (by cases q), fun e q => (by cases q; exact ⟨rfl, K50.at⟩)⟩)
        | (have hnd : ¬ ((gR kd nm (J0 38) T (gT kd nm (J0 38) T p)).1 = true ∧ kdA kd T (gR kd nm (J0 38) T (gT kd nm (J0 38) T p)).2.1 = 59) := fun z => absurd h53 (by
             have z1 : (mE kd nm (J0 38) T (T + 1 - (gT kd nm (J0 38) T p + 1)) (gT kd nm (J0 38) T p + 1) [] [] 0 true true).1 = true := z.1
             rw [z1]; decide)
           have hgf : gF kd nm (J0 38) T (m + 1) p = some (gR kd nm (J0 38) T (gT kd nm (J0 38) T p)).2.1 := by rw [gF, if_pos hkp, if_neg hnd]
           rw [hgf]
           exact ⟨hF50, fun q => (by cases q), fun e q => (by cases q; exact ⟨rfl, K50.at⟩)⟩)
theorem cnt_0 {b : Nat → Int32} : cnt b 0 = 0 := rfl
def mbF (J : Wd) (k n : Nat) (i : Nat) : Int32 := if i < n then J 34 (160 * k + i) else -1
set_option maxHeartbeats 4000000 in
theorem q_goes {J0 : Wd} {k n : Nat} {b kd nm pl : Nat → Int32} {T : Nat} (hk : k < 7) (hn : J0 35 k = nI n) (hn2 : n ≤ 160) (hBR : ∀ i, i < n → BRel (b i) (J0 34 (160 * k + i))) (hT : TokOK b n kd nm pl T) : CalQ SyM mX11_goes 6 [.ref 0, .int (nI k)] J0 (fun r J' => Fr7 J0 J' ∧ (gF kd nm (J0 38) T 3 0 = none → r = some (.int 1) ∧ (∀ q, q < 3 → ∀ v, (gR kd nm (J0 38) T (gT kd nm (J0 38) T q)).2.2 = [v] → J' 39 q = v)) ∧ ∀ e, gF kd nm (J0 38) T 3 0 = some e → r = some (.int 0) ∧ J' 0 54 = plX pl T n e) := by
  refine CalQ.of (by decide) (Nat.le_of_ble_eq_true rfl) ?_
  show BdQ _ _ _ _ [(0, _), (1, _)] _ _ _
  have hT6 : T ≤ 160 := by rw [hT.1]; exact Nat.le_trans cnt_le hn2
  have hBR2 : ∀ i, i < n → BRel (b i) (mbF J0 k n i) := fun i hi => by unfold mbF; rw [if_pos hi]; exact hBR i hi
  refine BdQ.l (fun _ _ k => b_aload_n (pc := 0) (i := 0) (dd dtX11_goes 0 rfl) rfl rfl k) ?_
  refine BdQ.l (fun _ _ k => b_sipush (pc := 1) (v := 160) (dd dtX11_goes 1 rfl) (by decide) k) ?_
  refine BdQ.l (fun _ _ k => b_iload_n (pc := 4) (i := 1) (dd dtX11_goes 2 rfl) rfl rfl k) ?_
  refine BdQ.l (fun _ _ k => b_imul (pc := 5) (dd dtX11_goes 3 rfl) k) ?_
  rw [show (160 : Int32) = nI 160 from rfl, pk_mul]
  refine BdQ.l (fun _ _ k => b_puti (pc := 6) (dd dtX11_goes 4 rfl) fwX11_167 pM_0 k) ?_
  refine BdQ.l (fun _ _ k => b_aload_n (pc := 9) (i := 0) (dd dtX11_goes 5 rfl) rfl rfl k) ?_
  refine BdQ.l (fun _ _ k => b_aload_n (pc := 10) (i := 0) (dd dtX11_goes 6 rfl) rfl rfl k) ?_
  refine BdQ.l (fun _ _ k => b_geta (pc := 11) (dd dtX11_goes 7 rfl) fwX11_164 pM_0 rM_0_49 k) ?_
  refine BdQ.l (fun _ _ k => b_iload_n (pc := 14) (i := 1) (dd dtX11_goes 8 rfl) rfl rfl k) ?_
  refine BdQ.l (fun _ _ k => b_iald (pc := 15) (dd dtX11_goes 9 rfl) pM_35 (vpn rfl hk (by decide)) k) ?_
  rw [nI_clamp (show k < 2 ^ 31 by omega), ist_ne (show (35 : Nat) ≠ 0 by decide), hn]
  refine BdQ.l (fun _ _ k => b_puti (pc := 16) (dd dtX11_goes 10 rfl) fwX11_170 pM_0 k) ?_
  refine BdQ.l (fun _ _ k => b_aload_n (pc := 19) (i := 0) (dd dtX11_goes 11 rfl) rfl rfl k) ?_
  refine BdQ.l (fun _ _ k => b_ic0 (pc := 20) (dd dtX11_goes 12 rfl) k) ?_
  refine BdQ.l (fun _ _ k => b_puti (pc := 21) (dd dtX11_goes 13 rfl) fwX11_173 pM_0 k) ?_
  refine BdQ.l (fun _ _ k => b_aload_n (pc := 24) (i := 0) (dd dtX11_goes 14 rfl) rfl rfl k) ?_
  have hM : MB (ist (ist (ist J0 0 50 (nI (160 * k))) 0 51 (nI n)) 0 52 0) (160 * k) n (mbF J0 k n) := by
    refine ⟨?_, ?_, by omega, hn2, fun i hi => ?_, ?_⟩
    · rw [ist_eq, upd_ne (by decide), ist_eq, upd_ne (by decide), ist_eq, upd_eq]
    · rw [ist_eq, upd_ne (by decide), ist_eq, upd_eq]
    · rw [ist_ne (by decide), ist_ne (by decide), ist_ne (by decide)]; unfold mbF; rw [if_pos hi]
    · unfold mbF; rw [if_neg (Nat.lt_irrefl n)]
  have hPS : PS b n (ist (ist (ist J0 0 50 (nI (160 * k))) 0 51 (nI n)) 0 52 0) 0 0 := ⟨by rw [ist_eq, upd_eq]; rfl, Nat.zero_le _, fun _ q => absurd q.1 (Nat.lt_irrefl 0), rfl⟩
  have hF0 : Fr7 J0 (ist (ist (ist J0 0 50 (nI (160 * k))) 0 51 (nI n)) 0 52 0) := ((Fr7.f (W := J0) ⟨fun _ _ _ _ _ => rfl, fun _ _ => rfl⟩ (by decide)).f (by decide)).f (by decide)
  obtain ⟨_, I25, ⟨rfl, F25, K25⟩, k25⟩ := q_step hM hBR2 hT hPS
  refine BdQ.l (fun _ _ k => b_invV (pc := 25) (dd dtX11_goes 15 rfl) mlX11_357 mvX11_step miX11_step (k25) oM_0 rfl rfl (by decide) (Nat.le_of_ble_eq_true rfl) k) ?_
  refine BdQ.l (fun _ _ k => b_ic0 (pc := 28) (dd dtX11_goes 16 rfl) k) ?_
  refine BdQ.l (fun _ _ k => b_istore_n (pc := 29) (i := 2) (lv' := [(2, _), (0, _), (1, _)]) (dd dtX11_goes 17 rfl) rfl (Nat.le_of_ble_eq_true rfl) rfl k) ?_
  exact lr_goes hBR2 hT hT6 3 0 _ _ (by omega) rfl (hF0.t4 F25) (hM.fr F25) K25 (fun q hq => absurd hq (Nat.not_lt_zero _))
