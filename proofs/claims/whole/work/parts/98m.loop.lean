/-! the law's loop -/
theorem and63 (x : Int32) : ∃ k : Nat, k < 64 ∧ x &&& 63 = nI k := by
  refine ⟨(x.toBitVec &&& 63#32).toNat, ?_, ?_⟩
  · rw [BitVec.toNat_and]
    exact Nat.lt_of_le_of_lt Nat.and_le_right (by decide)
  · apply Int32.toBitVec_inj.mp
    show x.toBitVec &&& 63#32 = BitVec.ofNat 32 _
    simp
theorem six_le {L t : Nat} (hL : L ≤ 3072) (ht : 6 * t ≤ L) (h : ¬ nI L - 6 < nI (6 * t)) : 6 * t + 6 ≤ L := by
  rw [Int32.lt_iff_toInt_lt, Int32.toInt_sub, nI_toInt (by omega), nI_toInt (by omega)] at h
  rw [show (6 : Int32).toInt = 6 from rfl, Int.bmod_eq_of_le (by omega) (by omega)] at h
  omega
section LL
variable {p : Program} {l : Launch} {e : Env} {s : State} {m : MethodId} {below : List Frame} {meth : Method} {c : Code} {b L : Nat} {xs : Nat → Int32} {D : va_G} {cy : Nat → ClassId} {a1 a2 : Nat → Nat} {pc : Nat} {i : Int32} {st : List Value} {I J : Wd}
theorem l_gt {x y : Int32} {off : Int} {tgt : Nat} (X : LX p s m meth c b L xs D cy a1 a2) (hd : decode code pc = .ok (.if_icmp .gt off, 3)) (ht : (pc : Int) + off = (tgt : Int)) (kt : y < x → Ld p l e s m below meth c b D cy a1 a2 tgt i st I J) (kf : ¬ y < x → Ld p l e s m below meth c b D cy a1 a2 (pc + 3) i st I J) : Ld p l e s m below meth c b D cy a1 a2 pc i (.int y :: .int x :: st) I J :=
  fun H locs ls h1 h2 h3 hl => lv_icmp_gt X.1.1 X.1.2.1 hd ht (fun h => kt h H locs ls h1 h2 h3 hl) (fun h => kf h H locs ls h1 h2 h3 hl)
theorem l_inc {x : Int32} (X : LX p s m meth c b L xs D cy a1 a2) (hd : decode code pc = .ok (.iinc 3 6, 3)) (hv : i + 6 = x) (kk : Ld p l e s m below meth c b D cy a1 a2 (pc + 3) x st I J) : Ld p l e s m below meth c b D cy a1 a2 pc i st I J :=
  fun H locs ls h1 h2 h3 hl => lv_iinc (lv' := [(3, .int x), (2, .ref (a2 0)), (1, .ref (a1 0)), (0, .ref b)]) X.1.1 X.1.2.1 hd hl (k := 0) rfl hv (by decide) rfl (fun ls' hl' => kk H locs ls' h1 h2 h3 hl')
theorem l_end (X : LX p s m meth c b L xs D cy a1 a2) : Ld p l e s m below meth c b D cy a1 a2 1496 i [] I J := fun H locs ls h1 h2 h3 hl => by
  refine lv_iconst (v := 1) X.1.1 X.1.2.1 (pc := 1496) (dd dtLw22 24 rfl) (by decide) ?_
  refine va_forget (fun x hx => h3.2.2 x hx) ?_
  refine W.widen (k := 600000) (n := 7302250) (Nat.le_of_ble_eq_true rfl) (Nat.le_of_ble_eq_true rfl) ?_
  exact lw_ret X.1.1 X.1.2.1 X.1.2.2.1 X.1.2.2.2.2.2.2.2.2.1 (pc := 1497) (dd dtLw22 25 rfl)
theorem law_sw (X : LX p s m meth c b L xs D cy a1 a2) {v : Int32} (hin : ∀ k, k < 6 → vp_in (i + nI k) L) (hR : Rel I J) (kk : ∀ I2 J2, Rel I2 J2 → Ld p l e s m below meth c b D cy a1 a2 1490 i [] I2 J2) : Ld p l e s m below meth c b D cy a1 a2 33 i [.int (v &&& 63)] I J := by
  obtain ⟨k, hk, he⟩ := and63 v
  rw [he]
  by_cases h38 : k < 38
  · match k, h38 with
    | 0, _ => exact l_swi (pc := 33) (off := 167) (tgt := 200) X (dd dtLw0 21 rfl) (by decide) (by decide) rfl (by decide) (lc_0 X hin hR kk)
    | 1, _ => exact l_swi (pc := 33) (off := 210) (tgt := 243) X (dd dtLw0 21 rfl) (by decide) (by decide) rfl (by decide) (lc_1 X hin hR kk)
    | 2, _ => exact l_swi (pc := 33) (off := 253) (tgt := 286) X (dd dtLw0 21 rfl) (by decide) (by decide) rfl (by decide) (lc_2 X hin hR kk)
    | 3, _ => exact l_swi (pc := 33) (off := 276) (tgt := 309) X (dd dtLw0 21 rfl) (by decide) (by decide) rfl (by decide) (lc_3 X hin hR kk)
    | 4, _ => exact l_swi (pc := 33) (off := 309) (tgt := 342) X (dd dtLw0 21 rfl) (by decide) (by decide) rfl (by decide) (lc_4 X hin hR kk)
    | 5, _ => exact l_swi (pc := 33) (off := 332) (tgt := 365) X (dd dtLw0 21 rfl) (by decide) (by decide) rfl (by decide) (lc_5 X hin hR kk)
    | 6, _ => exact l_swi (pc := 33) (off := 355) (tgt := 388) X (dd dtLw0 21 rfl) (by decide) (by decide) rfl (by decide) (lc_6 X hin hR kk)
    | 7, _ => exact l_swi (pc := 33) (off := 378) (tgt := 411) X (dd dtLw0 21 rfl) (by decide) (by decide) rfl (by decide) (lc_7 X hin hR kk)
    | 8, _ => exact l_swi (pc := 33) (off := 421) (tgt := 454) X (dd dtLw0 21 rfl) (by decide) (by decide) rfl (by decide) (lc_8 X hin hR kk)
    | 9, _ => exact l_swi (pc := 33) (off := 454) (tgt := 487) X (dd dtLw0 21 rfl) (by decide) (by decide) rfl (by decide) (lc_9 X hin hR kk)
    | 10, _ => exact l_swi (pc := 33) (off := 497) (tgt := 530) X (dd dtLw0 21 rfl) (by decide) (by decide) rfl (by decide) (lc_10 X hin hR kk)
    | 11, _ => exact l_swi (pc := 33) (off := 540) (tgt := 573) X (dd dtLw0 21 rfl) (by decide) (by decide) rfl (by decide) (lc_11 X hin hR kk)
    | 12, _ => exact l_swi (pc := 33) (off := 573) (tgt := 606) X (dd dtLw0 21 rfl) (by decide) (by decide) rfl (by decide) (lc_12 X hin hR kk)
    | 13, _ => exact l_swi (pc := 33) (off := 606) (tgt := 639) X (dd dtLw0 21 rfl) (by decide) (by decide) rfl (by decide) (lc_13 X hin hR kk)
    | 14, _ => exact l_swi (pc := 33) (off := 639) (tgt := 672) X (dd dtLw0 21 rfl) (by decide) (by decide) rfl (by decide) (lc_14 X hin hR kk)
    | 15, _ => exact l_swi (pc := 33) (off := 702) (tgt := 735) X (dd dtLw0 21 rfl) (by decide) (by decide) rfl (by decide) (lc_15 X hin hR kk)
    | 16, _ => exact l_swi (pc := 33) (off := 715) (tgt := 748) X (dd dtLw0 21 rfl) (by decide) (by decide) rfl (by decide) (lc_16 X hin hR kk)
    | 17, _ => exact l_swi (pc := 33) (off := 738) (tgt := 771) X (dd dtLw0 21 rfl) (by decide) (by decide) rfl (by decide) (lc_17 X hin hR kk)
    | 18, _ => exact l_swi (pc := 33) (off := 782) (tgt := 815) X (dd dtLw0 21 rfl) (by decide) (by decide) rfl (by decide) (lc_18 X hin hR kk)
    | 19, _ => exact l_swi (pc := 33) (off := 806) (tgt := 839) X (dd dtLw0 21 rfl) (by decide) (by decide) rfl (by decide) (lc_19 X hin hR kk)
    | 20, _ => exact l_swi (pc := 33) (off := 840) (tgt := 873) X (dd dtLw0 21 rfl) (by decide) (by decide) rfl (by decide) (lc_20 X hin hR kk)
    | 21, _ => exact l_swi (pc := 33) (off := 883) (tgt := 916) X (dd dtLw0 21 rfl) (by decide) (by decide) rfl (by decide) (lc_21 X hin hR kk)
    | 22, _ => exact l_swi (pc := 33) (off := 896) (tgt := 929) X (dd dtLw0 21 rfl) (by decide) (by decide) rfl (by decide) (lc_22 X hin hR kk)
    | 23, _ => exact l_swi (pc := 33) (off := 930) (tgt := 963) X (dd dtLw0 21 rfl) (by decide) (by decide) rfl (by decide) (lc_23 X hin hR kk)
    | 24, _ => exact l_swi (pc := 33) (off := 953) (tgt := 986) X (dd dtLw0 21 rfl) (by decide) (by decide) rfl (by decide) (lc_24 X hin hR kk)
    | 25, _ => exact l_swi (pc := 33) (off := 986) (tgt := 1019) X (dd dtLw0 21 rfl) (by decide) (by decide) rfl (by decide) (lc_25 X hin hR kk)
    | 26, _ => exact l_swi (pc := 33) (off := 1019) (tgt := 1052) X (dd dtLw0 21 rfl) (by decide) (by decide) rfl (by decide) (lc_26 X hin hR kk)
    | 27, _ => exact l_swi (pc := 33) (off := 1052) (tgt := 1085) X (dd dtLw0 21 rfl) (by decide) (by decide) rfl (by decide) (lc_27 X hin hR kk)
    | 28, _ => exact l_swi (pc := 33) (off := 1106) (tgt := 1139) X (dd dtLw0 21 rfl) (by decide) (by decide) rfl (by decide) (lc_28 X hin hR kk)
    | 29, _ => exact l_swi (pc := 33) (off := 1150) (tgt := 1183) X (dd dtLw0 21 rfl) (by decide) (by decide) rfl (by decide) (lc_29 X hin hR kk)
    | 30, _ => exact l_swi (pc := 33) (off := 1163) (tgt := 1196) X (dd dtLw0 21 rfl) (by decide) (by decide) rfl (by decide) (lc_30 X hin hR kk)
    | 31, _ => exact l_swi (pc := 33) (off := 1176) (tgt := 1209) X (dd dtLw0 21 rfl) (by decide) (by decide) rfl (by decide) (lc_31 X hin hR kk)
    | 32, _ => exact l_swi (pc := 33) (off := 1189) (tgt := 1222) X (dd dtLw0 21 rfl) (by decide) (by decide) rfl (by decide) (lc_32 X hin hR kk)
    | 33, _ => exact l_swi (pc := 33) (off := 1212) (tgt := 1245) X (dd dtLw0 21 rfl) (by decide) (by decide) rfl (by decide) (lc_33 X hin hR kk)
    | 34, _ => exact l_swi (pc := 33) (off := 1255) (tgt := 1288) X (dd dtLw0 21 rfl) (by decide) (by decide) rfl (by decide) (lc_34 X hin hR kk)
    | 35, _ => exact l_swi (pc := 33) (off := 1298) (tgt := 1331) X (dd dtLw0 21 rfl) (by decide) (by decide) rfl (by decide) (lc_35 X hin hR kk)
    | 36, _ => exact l_swi (pc := 33) (off := 1361) (tgt := 1394) X (dd dtLw0 21 rfl) (by decide) (by decide) rfl (by decide) (lc_36 X hin hR kk)
    | 37, _ => exact l_swi (pc := 33) (off := 1414) (tgt := 1447) X (dd dtLw0 21 rfl) (by decide) (by decide) rfl (by decide) (lc_37 X hin hR kk)
    | k + 38, h => exact absurd h (by omega)
  · refine l_swo (pc := 33) (tgt := 1490) X (dd dtLw0 21 rfl) (Or.inr ?_) (by decide) (kk I J hR)
    rw [nI_toInt (by omega)]
    omega
theorem law_loop (X : LX p s m meth c b L xs D cy a1 a2) (hL : L ≤ 3072) : ∀ (n t : Nat) (I J : Wd) (i : Int32), i = nI (6 * t) → L < 6 * (t + n) → 6 * t ≤ L → Rel I J → Ld p l e s m below meth c b D cy a1 a2 18 i [] I J := by
  intro n
  induction n with
  | zero =>
    intro t I J i hi h1 h2
    exact absurd h1 (by omega)
  | succ n ih =>
    intro t I J i hi h1 h2 hR
    subst hi
    refine l_i (pc := 18) X (dd dtLw0 10 rfl) ?_
    refine l_a0 (pc := 19) X (dd dtLw0 11 rfl) ?_
    refine l_len (pc := 20) X (dd dtLw0 12 rfl) ?_
    refine l_bi (pc := 21) (v := 6) X (dd dtLw0 13 rfl) (by decide) ?_
    refine l_isub (pc := 23) X (dd dtLw0 14 rfl) ?_
    refine l_gt (pc := 24) (tgt := 1496) X (dd dtLw0 15 rfl) (by decide) (fun _ => l_end X) (fun hlt => ?_)
    have h6 := six_le hL h2 hlt
    have hin : ∀ k, k < 6 → vp_in (nI (6 * t) + nI k) L := fun k hk => by rw [nI_add]; exact vp_in_nI (by omega) (by omega)
    refine l_a0 (pc := 27) X (dd dtLw0 16 rfl) ?_
    refine l_i (pc := 28) X (dd dtLw0 17 rfl) ?_
    refine l_ald (pc := 29) X (vp_in_nI (by omega) (by omega)) (dd dtLw0 18 rfl) ?_
    refine l_bi (pc := 30) (v := 63) X (dd dtLw0 19 rfl) (by decide) ?_
    refine l_iand (pc := 32) X (dd dtLw0 20 rfl) ?_
    refine law_sw X hin hR (fun I2 J2 hR2 => ?_)
    refine l_inc (pc := 1490) (x := nI (6 * (t + 1))) X (dd dtLw22 22 rfl) ?_ ?_
    · show nI (6 * t) + nI 6 = _
      rw [nI_add]
      rfl
    · refine l_goto (pc := 1493) (tgt := 18) X (dd dtLw22 23 rfl) (by decide) ?_
      exact ih (t + 1) I2 J2 _ rfl (by omega) (by omega) hR2
end LL
