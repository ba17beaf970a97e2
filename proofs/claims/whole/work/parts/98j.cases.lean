/-! the 38 calls of the law -/
section LC
variable {p : Program} {l : Launch} {e : Env} {s : State} {m : MethodId} {below : List Frame} {meth : Method} {c : Code} {b L : Nat} {xs : Nat → Int32} {D : va_G} {cy : Nat → ClassId} {a1 a2 : Nat → Nat} {i : Int32} {I J : Wd}
theorem lc_0 (X : LX p s m meth c b L xs D cy a1 a2) (hin : ∀ k, k < 6 → vp_in (i + nI k) L) (hR : Rel I J) (kk : ∀ I2 J2, Rel I2 J2 → Ld p l e s m below meth c b D cy a1 a2 1490 i [] I2 J2) : Ld p l e s m below meth c b D cy a1 a2 200 i [] I J := by
  obtain ⟨r, I2, J2, d1, d2, dx, dm, cx, cm, hR2, v, rfl⟩ := k_ground hR (ag xs i 1) (ag xs i 2) (ag xs i 3)
  refine l_a1 (pc := 200) X (dd dtLw0 22 rfl) ?_
  refine l_arg (pc := 201) (k := 1) X (dd dtLw0 23 rfl) (dd dtLw0 24 rfl) (dd dtLw0 25 rfl) (dd dtLw0 26 rfl) (dd dtLw0 27 rfl) (by decide) (hin 1 (by decide)) ?_
  refine l_arg (pc := 206) (k := 2) X (dd dtLw0 28 rfl) (dd dtLw0 29 rfl) (dd dtLw0 30 rfl) (dd dtLw0 31 rfl) (dd dtLw0 32 rfl) (by decide) (hin 2 (by decide)) ?_
  refine l_arg (pc := 211) (k := 3) X (dd dtLw0 33 rfl) (dd dtLw0 34 rfl) (dd dtLw0 35 rfl) (dd dtLw0 36 rfl) (dd dtLw0 37 rfl) (by decide) (hin 3 (by decide)) ?_
  refine l_cx (pc := 216) X (dd dtLw0 38 rfl) mlL_13 mvX10_ground miX10_ground rfl cx dx rfl rfl rfl rfl (Nat.le_of_ble_eq_true rfl) ?_
  refine l_a2 (pc := 219) X (dd dtLw0 39 rfl) ?_
  refine l_arg (pc := 220) (k := 1) X (dd dtLw0 40 rfl) (dd dtLw0 41 rfl) (dd dtLw0 42 rfl) (dd dtLw0 43 rfl) (dd dtLw0 44 rfl) (by decide) (hin 1 (by decide)) ?_
  refine l_arg (pc := 225) (k := 2) X (dd dtLw0 45 rfl) (dd dtLw0 46 rfl) (dd dtLw0 47 rfl) (dd dtLw1 0 rfl) (dd dtLw1 1 rfl) (by decide) (hin 2 (by decide)) ?_
  refine l_arg (pc := 230) (k := 3) X (dd dtLw1 2 rfl) (dd dtLw1 3 rfl) (dd dtLw1 4 rfl) (dd dtLw1 5 rfl) (dd dtLw1 6 rfl) (by decide) (hin 3 (by decide)) ?_
  refine l_cm (pc := 235) X (dd dtLw1 7 rfl) mlL_17 mvX11_ground miX11_ground rfl cm dm rfl rfl rfl rfl (Nat.le_of_ble_eq_true rfl) ?_
  refine l_eq (pc := 238) (tgt := 1490) X (dd dtLw1 8 rfl) (by decide) ?_
  exact kk _ _ hR2
theorem lc_1 (X : LX p s m meth c b L xs D cy a1 a2) (hin : ∀ k, k < 6 → vp_in (i + nI k) L) (hR : Rel I J) (kk : ∀ I2 J2, Rel I2 J2 → Ld p l e s m below meth c b D cy a1 a2 1490 i [] I2 J2) : Ld p l e s m below meth c b D cy a1 a2 243 i [] I J := by
  obtain ⟨r, I2, J2, d1, d2, dx, dm, cx, cm, hR2, v, rfl⟩ := k_house hR (ag xs i 1) (ag xs i 2) (ag xs i 3)
  refine l_a1 (pc := 243) X (dd dtLw1 11 rfl) ?_
  refine l_arg (pc := 244) (k := 1) X (dd dtLw1 12 rfl) (dd dtLw1 13 rfl) (dd dtLw1 14 rfl) (dd dtLw1 15 rfl) (dd dtLw1 16 rfl) (by decide) (hin 1 (by decide)) ?_
  refine l_arg (pc := 249) (k := 2) X (dd dtLw1 17 rfl) (dd dtLw1 18 rfl) (dd dtLw1 19 rfl) (dd dtLw1 20 rfl) (dd dtLw1 21 rfl) (by decide) (hin 2 (by decide)) ?_
  refine l_arg (pc := 254) (k := 3) X (dd dtLw1 22 rfl) (dd dtLw1 23 rfl) (dd dtLw1 24 rfl) (dd dtLw1 25 rfl) (dd dtLw1 26 rfl) (by decide) (hin 3 (by decide)) ?_
  refine l_cx (pc := 259) X (dd dtLw1 27 rfl) mlL_18 mvX10_house miX10_house rfl cx dx rfl rfl rfl rfl (Nat.le_of_ble_eq_true rfl) ?_
  refine l_a2 (pc := 262) X (dd dtLw1 28 rfl) ?_
  refine l_arg (pc := 263) (k := 1) X (dd dtLw1 29 rfl) (dd dtLw1 30 rfl) (dd dtLw1 31 rfl) (dd dtLw1 32 rfl) (dd dtLw1 33 rfl) (by decide) (hin 1 (by decide)) ?_
  refine l_arg (pc := 268) (k := 2) X (dd dtLw1 34 rfl) (dd dtLw1 35 rfl) (dd dtLw1 36 rfl) (dd dtLw1 37 rfl) (dd dtLw1 38 rfl) (by decide) (hin 2 (by decide)) ?_
  refine l_arg (pc := 273) (k := 3) X (dd dtLw1 39 rfl) (dd dtLw1 40 rfl) (dd dtLw1 41 rfl) (dd dtLw1 42 rfl) (dd dtLw1 43 rfl) (by decide) (hin 3 (by decide)) ?_
  refine l_cm (pc := 278) X (dd dtLw1 44 rfl) mlL_21 mvX11_house miX11_house rfl cm dm rfl rfl rfl rfl (Nat.le_of_ble_eq_true rfl) ?_
  refine l_eq (pc := 281) (tgt := 1490) X (dd dtLw1 45 rfl) (by decide) ?_
  exact kk _ _ hR2
theorem lc_2 (X : LX p s m meth c b L xs D cy a1 a2) (hin : ∀ k, k < 6 → vp_in (i + nI k) L) (hR : Rel I J) (kk : ∀ I2 J2, Rel I2 J2 → Ld p l e s m below meth c b D cy a1 a2 1490 i [] I2 J2) : Ld p l e s m below meth c b D cy a1 a2 286 i [] I J := by
  obtain ⟨r, I2, J2, d1, d2, dx, dm, cx, cm, hR2, v, rfl⟩ := k_pump hR (ag xs i 1)
  refine l_a1 (pc := 286) X (dd dtLw2 0 rfl) ?_
  refine l_arg (pc := 287) (k := 1) X (dd dtLw2 1 rfl) (dd dtLw2 2 rfl) (dd dtLw2 3 rfl) (dd dtLw2 4 rfl) (dd dtLw2 5 rfl) (by decide) (hin 1 (by decide)) ?_
  refine l_cx (pc := 292) X (dd dtLw2 6 rfl) mlL_22 mvX10_pump miX10_pump rfl cx dx rfl rfl rfl rfl (Nat.le_of_ble_eq_true rfl) ?_
  refine l_a2 (pc := 295) X (dd dtLw2 7 rfl) ?_
  refine l_arg (pc := 296) (k := 1) X (dd dtLw2 8 rfl) (dd dtLw2 9 rfl) (dd dtLw2 10 rfl) (dd dtLw2 11 rfl) (dd dtLw2 12 rfl) (by decide) (hin 1 (by decide)) ?_
  refine l_cm (pc := 301) X (dd dtLw2 13 rfl) mlL_26 mvX11_pump miX11_pump rfl cm dm rfl rfl rfl rfl (Nat.le_of_ble_eq_true rfl) ?_
  refine l_eq (pc := 304) (tgt := 1490) X (dd dtLw2 14 rfl) (by decide) ?_
  exact kk _ _ hR2
theorem lc_3 (X : LX p s m meth c b L xs D cy a1 a2) (hin : ∀ k, k < 6 → vp_in (i + nI k) L) (hR : Rel I J) (kk : ∀ I2 J2, Rel I2 J2 → Ld p l e s m below meth c b D cy a1 a2 1490 i [] I2 J2) : Ld p l e s m below meth c b D cy a1 a2 309 i [] I J := by
  obtain ⟨r, I2, J2, d1, d2, dx, dm, cx, cm, hR2, v, rfl⟩ := k_pumping hR (ag xs i 1) (ag xs i 2)
  refine l_a1 (pc := 309) X (dd dtLw2 17 rfl) ?_
  refine l_arg (pc := 310) (k := 1) X (dd dtLw2 18 rfl) (dd dtLw2 19 rfl) (dd dtLw2 20 rfl) (dd dtLw2 21 rfl) (dd dtLw2 22 rfl) (by decide) (hin 1 (by decide)) ?_
  refine l_arg (pc := 315) (k := 2) X (dd dtLw2 23 rfl) (dd dtLw2 24 rfl) (dd dtLw2 25 rfl) (dd dtLw2 26 rfl) (dd dtLw2 27 rfl) (by decide) (hin 2 (by decide)) ?_
  refine l_cx (pc := 320) X (dd dtLw2 28 rfl) mlL_27 mvX10_pumping miX10_pumping rfl cx dx rfl rfl rfl rfl (Nat.le_of_ble_eq_true rfl) ?_
  refine l_a2 (pc := 323) X (dd dtLw2 29 rfl) ?_
  refine l_arg (pc := 324) (k := 1) X (dd dtLw2 30 rfl) (dd dtLw2 31 rfl) (dd dtLw2 32 rfl) (dd dtLw2 33 rfl) (dd dtLw2 34 rfl) (by decide) (hin 1 (by decide)) ?_
  refine l_arg (pc := 329) (k := 2) X (dd dtLw2 35 rfl) (dd dtLw2 36 rfl) (dd dtLw2 37 rfl) (dd dtLw2 38 rfl) (dd dtLw2 39 rfl) (by decide) (hin 2 (by decide)) ?_
  refine l_cm (pc := 334) X (dd dtLw2 40 rfl) mlL_31 mvX11_pumping miX11_pumping rfl cm dm rfl rfl rfl rfl (Nat.le_of_ble_eq_true rfl) ?_
  refine l_eq (pc := 337) (tgt := 1490) X (dd dtLw2 41 rfl) (by decide) ?_
  exact kk _ _ hR2
theorem lc_4 (X : LX p s m meth c b L xs D cy a1 a2) (hin : ∀ k, k < 6 → vp_in (i + nI k) L) (hR : Rel I J) (kk : ∀ I2 J2, Rel I2 J2 → Ld p l e s m below meth c b D cy a1 a2 1490 i [] I2 J2) : Ld p l e s m below meth c b D cy a1 a2 342 i [] I J := by
  obtain ⟨r, I2, J2, d1, d2, dx, dm, cx, cm, hR2, v, rfl⟩ := k_rain hR (ag xs i 1)
  refine l_a1 (pc := 342) X (dd dtLw2 44 rfl) ?_
  refine l_arg (pc := 343) (k := 1) X (dd dtLw2 45 rfl) (dd dtLw2 46 rfl) (dd dtLw2 47 rfl) (dd dtLw3 0 rfl) (dd dtLw3 1 rfl) (by decide) (hin 1 (by decide)) ?_
  refine l_cx (pc := 348) X (dd dtLw3 2 rfl) mlL_32 mvX10_rain miX10_rain rfl cx dx rfl rfl rfl rfl (Nat.le_of_ble_eq_true rfl) ?_
  refine l_a2 (pc := 351) X (dd dtLw3 3 rfl) ?_
  refine l_arg (pc := 352) (k := 1) X (dd dtLw3 4 rfl) (dd dtLw3 5 rfl) (dd dtLw3 6 rfl) (dd dtLw3 7 rfl) (dd dtLw3 8 rfl) (by decide) (hin 1 (by decide)) ?_
  refine l_cm (pc := 357) X (dd dtLw3 9 rfl) mlL_35 mvX11_rain miX11_rain rfl cm dm rfl rfl rfl rfl (Nat.le_of_ble_eq_true rfl) ?_
  refine l_eq (pc := 360) (tgt := 1490) X (dd dtLw3 10 rfl) (by decide) ?_
  exact kk _ _ hR2
theorem lc_5 (X : LX p s m meth c b L xs D cy a1 a2) (hin : ∀ k, k < 6 → vp_in (i + nI k) L) (hR : Rel I J) (kk : ∀ I2 J2, Rel I2 J2 → Ld p l e s m below meth c b D cy a1 a2 1490 i [] I2 J2) : Ld p l e s m below meth c b D cy a1 a2 365 i [] I J := by
  obtain ⟨r, I2, J2, d1, d2, dx, dm, cx, cm, hR2, v, rfl⟩ := k_move hR (ag xs i 1)
  refine l_a1 (pc := 365) X (dd dtLw3 13 rfl) ?_
  refine l_arg (pc := 366) (k := 1) X (dd dtLw3 14 rfl) (dd dtLw3 15 rfl) (dd dtLw3 16 rfl) (dd dtLw3 17 rfl) (dd dtLw3 18 rfl) (by decide) (hin 1 (by decide)) ?_
  refine l_cx (pc := 371) X (dd dtLw3 19 rfl) mlL_36 mvX10_move miX10_move rfl cx dx rfl rfl rfl rfl (Nat.le_of_ble_eq_true rfl) ?_
  refine l_a2 (pc := 374) X (dd dtLw3 20 rfl) ?_
  refine l_arg (pc := 375) (k := 1) X (dd dtLw3 21 rfl) (dd dtLw3 22 rfl) (dd dtLw3 23 rfl) (dd dtLw3 24 rfl) (dd dtLw3 25 rfl) (by decide) (hin 1 (by decide)) ?_
  refine l_cm (pc := 380) X (dd dtLw3 26 rfl) mlL_39 mvX11_move miX11_move rfl cm dm rfl rfl rfl rfl (Nat.le_of_ble_eq_true rfl) ?_
  refine l_eq (pc := 383) (tgt := 1490) X (dd dtLw3 27 rfl) (by decide) ?_
  exact kk _ _ hR2
theorem lc_6 (X : LX p s m meth c b L xs D cy a1 a2) (hin : ∀ k, k < 6 → vp_in (i + nI k) L) (hR : Rel I J) (kk : ∀ I2 J2, Rel I2 J2 → Ld p l e s m below meth c b D cy a1 a2 1490 i [] I2 J2) : Ld p l e s m below meth c b D cy a1 a2 388 i [] I J := by
  obtain ⟨r, I2, J2, d1, d2, dx, dm, cx, cm, hR2, v, rfl⟩ := k_run hR (ag xs i 1)
  refine l_a1 (pc := 388) X (dd dtLw3 30 rfl) ?_
  refine l_arg (pc := 389) (k := 1) X (dd dtLw3 31 rfl) (dd dtLw3 32 rfl) (dd dtLw3 33 rfl) (dd dtLw3 34 rfl) (dd dtLw3 35 rfl) (by decide) (hin 1 (by decide)) ?_
  refine l_cx (pc := 394) X (dd dtLw3 36 rfl) mlL_40 mvX10_run miX10_run rfl cx dx rfl rfl rfl rfl (Nat.le_of_ble_eq_true rfl) ?_
  refine l_a2 (pc := 397) X (dd dtLw3 37 rfl) ?_
  refine l_arg (pc := 398) (k := 1) X (dd dtLw3 38 rfl) (dd dtLw3 39 rfl) (dd dtLw3 40 rfl) (dd dtLw3 41 rfl) (dd dtLw3 42 rfl) (by decide) (hin 1 (by decide)) ?_
  refine l_cm (pc := 403) X (dd dtLw3 43 rfl) mlL_43 mvX11_run miX11_run rfl cm dm rfl rfl rfl rfl (Nat.le_of_ble_eq_true rfl) ?_
  refine l_eq (pc := 406) (tgt := 1490) X (dd dtLw3 44 rfl) (by decide) ?_
  exact kk _ _ hR2
theorem lc_7 (X : LX p s m meth c b L xs D cy a1 a2) (hin : ∀ k, k < 6 → vp_in (i + nI k) L) (hR : Rel I J) (kk : ∀ I2 J2, Rel I2 J2 → Ld p l e s m below meth c b D cy a1 a2 1490 i [] I2 J2) : Ld p l e s m below meth c b D cy a1 a2 411 i [] I J := by
  obtain ⟨r, I2, J2, d1, d2, dx, dm, cx, cm, hR2, v, rfl⟩ := k_sign hR (ag xs i 1) (ag xs i 2) (ag xs i 3)
  refine l_a1 (pc := 411) X (dd dtLw3 47 rfl) ?_
  refine l_arg (pc := 412) (k := 1) X (dd dtLw4 0 rfl) (dd dtLw4 1 rfl) (dd dtLw4 2 rfl) (dd dtLw4 3 rfl) (dd dtLw4 4 rfl) (by decide) (hin 1 (by decide)) ?_
  refine l_arg (pc := 417) (k := 2) X (dd dtLw4 5 rfl) (dd dtLw4 6 rfl) (dd dtLw4 7 rfl) (dd dtLw4 8 rfl) (dd dtLw4 9 rfl) (by decide) (hin 2 (by decide)) ?_
  refine l_arg (pc := 422) (k := 3) X (dd dtLw4 10 rfl) (dd dtLw4 11 rfl) (dd dtLw4 12 rfl) (dd dtLw4 13 rfl) (dd dtLw4 14 rfl) (by decide) (hin 3 (by decide)) ?_
  refine l_cx (pc := 427) X (dd dtLw4 15 rfl) mlL_44 mvX10_sign miX10_sign rfl cx dx rfl rfl rfl rfl (Nat.le_of_ble_eq_true rfl) ?_
  refine l_a2 (pc := 430) X (dd dtLw4 16 rfl) ?_
  refine l_arg (pc := 431) (k := 1) X (dd dtLw4 17 rfl) (dd dtLw4 18 rfl) (dd dtLw4 19 rfl) (dd dtLw4 20 rfl) (dd dtLw4 21 rfl) (by decide) (hin 1 (by decide)) ?_
  refine l_arg (pc := 436) (k := 2) X (dd dtLw4 22 rfl) (dd dtLw4 23 rfl) (dd dtLw4 24 rfl) (dd dtLw4 25 rfl) (dd dtLw4 26 rfl) (by decide) (hin 2 (by decide)) ?_
  refine l_arg (pc := 441) (k := 3) X (dd dtLw4 27 rfl) (dd dtLw4 28 rfl) (dd dtLw4 29 rfl) (dd dtLw4 30 rfl) (dd dtLw4 31 rfl) (by decide) (hin 3 (by decide)) ?_
  refine l_cm (pc := 446) X (dd dtLw4 32 rfl) mlL_47 mvX11_sign miX11_sign rfl cm dm rfl rfl rfl rfl (Nat.le_of_ble_eq_true rfl) ?_
  refine l_eq (pc := 449) (tgt := 1490) X (dd dtLw4 33 rfl) (by decide) ?_
  exact kk _ _ hR2
theorem lc_8 (X : LX p s m meth c b L xs D cy a1 a2) (hin : ∀ k, k < 6 → vp_in (i + nI k) L) (hR : Rel I J) (kk : ∀ I2 J2, Rel I2 J2 → Ld p l e s m below meth c b D cy a1 a2 1490 i [] I2 J2) : Ld p l e s m below meth c b D cy a1 a2 454 i [] I J := by
  obtain ⟨r, I2, J2, d1, d2, dx, dm, cx, cm, hR2, v, rfl⟩ := k_mend hR (ag xs i 1) (ag xs i 2)
  refine l_a1 (pc := 454) X (dd dtLw4 36 rfl) ?_
  refine l_arg (pc := 455) (k := 1) X (dd dtLw4 37 rfl) (dd dtLw4 38 rfl) (dd dtLw4 39 rfl) (dd dtLw4 40 rfl) (dd dtLw4 41 rfl) (by decide) (hin 1 (by decide)) ?_
  refine l_arg (pc := 460) (k := 2) X (dd dtLw4 42 rfl) (dd dtLw4 43 rfl) (dd dtLw4 44 rfl) (dd dtLw4 45 rfl) (dd dtLw4 46 rfl) (by decide) (hin 2 (by decide)) ?_
  refine l_cx (pc := 465) X (dd dtLw4 47 rfl) mlL_48 mvX10_mend miX10_mend rfl cx dx rfl rfl rfl rfl (Nat.le_of_ble_eq_true rfl) ?_
  refine l_a2 (pc := 468) X (dd dtLw5 0 rfl) ?_
  refine l_arg (pc := 469) (k := 1) X (dd dtLw5 1 rfl) (dd dtLw5 2 rfl) (dd dtLw5 3 rfl) (dd dtLw5 4 rfl) (dd dtLw5 5 rfl) (by decide) (hin 1 (by decide)) ?_
  refine l_arg (pc := 474) (k := 2) X (dd dtLw5 6 rfl) (dd dtLw5 7 rfl) (dd dtLw5 8 rfl) (dd dtLw5 9 rfl) (dd dtLw5 10 rfl) (by decide) (hin 2 (by decide)) ?_
  refine l_cm (pc := 479) X (dd dtLw5 11 rfl) mlL_51 mvX11_mend miX11_mend rfl cm dm rfl rfl rfl rfl (Nat.le_of_ble_eq_true rfl) ?_
  refine l_eq (pc := 482) (tgt := 1490) X (dd dtLw5 12 rfl) (by decide) ?_
  exact kk _ _ hR2
theorem lc_9 (X : LX p s m meth c b L xs D cy a1 a2) (hin : ∀ k, k < 6 → vp_in (i + nI k) L) (hR : Rel I J) (kk : ∀ I2 J2, Rel I2 J2 → Ld p l e s m below meth c b D cy a1 a2 1490 i [] I2 J2) : Ld p l e s m below meth c b D cy a1 a2 487 i [] I J := by
  obtain ⟨r, I2, J2, d1, d2, dx, dm, cx, cm, hR2, v, rfl⟩ := k_signTold hR (ag xs i 1) (ag xs i 2) (ag xs i 3)
  refine l_a1 (pc := 487) X (dd dtLw5 15 rfl) ?_
  refine l_arg (pc := 488) (k := 1) X (dd dtLw5 16 rfl) (dd dtLw5 17 rfl) (dd dtLw5 18 rfl) (dd dtLw5 19 rfl) (dd dtLw5 20 rfl) (by decide) (hin 1 (by decide)) ?_
  refine l_arg (pc := 493) (k := 2) X (dd dtLw5 21 rfl) (dd dtLw5 22 rfl) (dd dtLw5 23 rfl) (dd dtLw5 24 rfl) (dd dtLw5 25 rfl) (by decide) (hin 2 (by decide)) ?_
  refine l_arg (pc := 498) (k := 3) X (dd dtLw5 26 rfl) (dd dtLw5 27 rfl) (dd dtLw5 28 rfl) (dd dtLw5 29 rfl) (dd dtLw5 30 rfl) (by decide) (hin 3 (by decide)) ?_
  refine l_cx (pc := 503) X (dd dtLw5 31 rfl) mlL_52 mvX10_signTold miX10_signTold rfl cx dx rfl rfl rfl rfl (Nat.le_of_ble_eq_true rfl) ?_
  refine l_a2 (pc := 506) X (dd dtLw5 32 rfl) ?_
  refine l_arg (pc := 507) (k := 1) X (dd dtLw5 33 rfl) (dd dtLw5 34 rfl) (dd dtLw5 35 rfl) (dd dtLw5 36 rfl) (dd dtLw5 37 rfl) (by decide) (hin 1 (by decide)) ?_
  refine l_arg (pc := 512) (k := 2) X (dd dtLw5 38 rfl) (dd dtLw5 39 rfl) (dd dtLw5 40 rfl) (dd dtLw5 41 rfl) (dd dtLw5 42 rfl) (by decide) (hin 2 (by decide)) ?_
  refine l_arg (pc := 517) (k := 3) X (dd dtLw5 43 rfl) (dd dtLw5 44 rfl) (dd dtLw5 45 rfl) (dd dtLw5 46 rfl) (dd dtLw5 47 rfl) (by decide) (hin 3 (by decide)) ?_
  refine l_cm (pc := 522) X (dd dtLw6 0 rfl) mlL_55 mvX11_signTold miX11_signTold rfl cm dm rfl rfl rfl rfl (Nat.le_of_ble_eq_true rfl) ?_
  refine l_eq (pc := 525) (tgt := 1490) X (dd dtLw6 1 rfl) (by decide) ?_
  exact kk _ _ hR2
theorem lc_10 (X : LX p s m meth c b L xs D cy a1 a2) (hin : ∀ k, k < 6 → vp_in (i + nI k) L) (hR : Rel I J) (kk : ∀ I2 J2, Rel I2 J2 → Ld p l e s m below meth c b D cy a1 a2 1490 i [] I2 J2) : Ld p l e s m below meth c b D cy a1 a2 530 i [] I J := by
  obtain ⟨r, I2, J2, d1, d2, dx, dm, cx, cm, hR2, v, rfl⟩ := k_span hR (ag xs i 1) (ag xs i 2) (ag xs i 3)
  refine l_a1 (pc := 530) X (dd dtLw6 4 rfl) ?_
  refine l_arg (pc := 531) (k := 1) X (dd dtLw6 5 rfl) (dd dtLw6 6 rfl) (dd dtLw6 7 rfl) (dd dtLw6 8 rfl) (dd dtLw6 9 rfl) (by decide) (hin 1 (by decide)) ?_
  refine l_arg (pc := 536) (k := 2) X (dd dtLw6 10 rfl) (dd dtLw6 11 rfl) (dd dtLw6 12 rfl) (dd dtLw6 13 rfl) (dd dtLw6 14 rfl) (by decide) (hin 2 (by decide)) ?_
  refine l_arg (pc := 541) (k := 3) X (dd dtLw6 15 rfl) (dd dtLw6 16 rfl) (dd dtLw6 17 rfl) (dd dtLw6 18 rfl) (dd dtLw6 19 rfl) (by decide) (hin 3 (by decide)) ?_
  refine l_cx (pc := 546) X (dd dtLw6 20 rfl) mlL_56 mvX10_span miX10_span rfl cx dx rfl rfl rfl rfl (Nat.le_of_ble_eq_true rfl) ?_
  refine l_a2 (pc := 549) X (dd dtLw6 21 rfl) ?_
  refine l_arg (pc := 550) (k := 1) X (dd dtLw6 22 rfl) (dd dtLw6 23 rfl) (dd dtLw6 24 rfl) (dd dtLw6 25 rfl) (dd dtLw6 26 rfl) (by decide) (hin 1 (by decide)) ?_
  refine l_arg (pc := 555) (k := 2) X (dd dtLw6 27 rfl) (dd dtLw6 28 rfl) (dd dtLw6 29 rfl) (dd dtLw6 30 rfl) (dd dtLw6 31 rfl) (by decide) (hin 2 (by decide)) ?_
  refine l_arg (pc := 560) (k := 3) X (dd dtLw6 32 rfl) (dd dtLw6 33 rfl) (dd dtLw6 34 rfl) (dd dtLw6 35 rfl) (dd dtLw6 36 rfl) (by decide) (hin 3 (by decide)) ?_
  refine l_cm (pc := 565) X (dd dtLw6 37 rfl) mlL_59 mvX11_span miX11_span rfl cm dm rfl rfl rfl rfl (Nat.le_of_ble_eq_true rfl) ?_
  refine l_eq (pc := 568) (tgt := 1490) X (dd dtLw6 38 rfl) (by decide) ?_
  exact kk _ _ hR2
theorem lc_11 (X : LX p s m meth c b L xs D cy a1 a2) (hin : ∀ k, k < 6 → vp_in (i + nI k) L) (hR : Rel I J) (kk : ∀ I2 J2, Rel I2 J2 → Ld p l e s m below meth c b D cy a1 a2 1490 i [] I2 J2) : Ld p l e s m below meth c b D cy a1 a2 573 i [] I J := by
  obtain ⟨r, I2, J2, d1, d2, dx, dm, cx, cm, hR2, v, rfl⟩ := k_lost hR (ag xs i 1) (ag xs i 2)
  refine l_a1 (pc := 573) X (dd dtLw6 41 rfl) ?_
  refine l_arg (pc := 574) (k := 1) X (dd dtLw6 42 rfl) (dd dtLw6 43 rfl) (dd dtLw6 44 rfl) (dd dtLw6 45 rfl) (dd dtLw6 46 rfl) (by decide) (hin 1 (by decide)) ?_
  refine l_arg (pc := 579) (k := 2) X (dd dtLw6 47 rfl) (dd dtLw7 0 rfl) (dd dtLw7 1 rfl) (dd dtLw7 2 rfl) (dd dtLw7 3 rfl) (by decide) (hin 2 (by decide)) ?_
  refine l_cx (pc := 584) X (dd dtLw7 4 rfl) mlL_60 mvX10_lost miX10_lost rfl cx dx rfl rfl rfl rfl (Nat.le_of_ble_eq_true rfl) ?_
  refine l_a2 (pc := 587) X (dd dtLw7 5 rfl) ?_
  refine l_arg (pc := 588) (k := 1) X (dd dtLw7 6 rfl) (dd dtLw7 7 rfl) (dd dtLw7 8 rfl) (dd dtLw7 9 rfl) (dd dtLw7 10 rfl) (by decide) (hin 1 (by decide)) ?_
  refine l_arg (pc := 593) (k := 2) X (dd dtLw7 11 rfl) (dd dtLw7 12 rfl) (dd dtLw7 13 rfl) (dd dtLw7 14 rfl) (dd dtLw7 15 rfl) (by decide) (hin 2 (by decide)) ?_
  refine l_cm (pc := 598) X (dd dtLw7 16 rfl) mlL_63 mvX11_lost miX11_lost rfl cm dm rfl rfl rfl rfl (Nat.le_of_ble_eq_true rfl) ?_
  refine l_eq (pc := 601) (tgt := 1490) X (dd dtLw7 17 rfl) (by decide) ?_
  exact kk _ _ hR2
theorem lc_12 (X : LX p s m meth c b L xs D cy a1 a2) (hin : ∀ k, k < 6 → vp_in (i + nI k) L) (hR : Rel I J) (kk : ∀ I2 J2, Rel I2 J2 → Ld p l e s m below meth c b D cy a1 a2 1490 i [] I2 J2) : Ld p l e s m below meth c b D cy a1 a2 606 i [] I J := by
  obtain ⟨r, I2, J2, d1, d2, dx, dm, cx, cm, hR2, v, rfl⟩ := k_fit hR (ag xs i 1) (ag xs i 2)
  refine l_a1 (pc := 606) X (dd dtLw7 20 rfl) ?_
  refine l_arg (pc := 607) (k := 1) X (dd dtLw7 21 rfl) (dd dtLw7 22 rfl) (dd dtLw7 23 rfl) (dd dtLw7 24 rfl) (dd dtLw7 25 rfl) (by decide) (hin 1 (by decide)) ?_
  refine l_arg (pc := 612) (k := 2) X (dd dtLw7 26 rfl) (dd dtLw7 27 rfl) (dd dtLw7 28 rfl) (dd dtLw7 29 rfl) (dd dtLw7 30 rfl) (by decide) (hin 2 (by decide)) ?_
  refine l_cx (pc := 617) X (dd dtLw7 31 rfl) mlL_64 mvX10_fit miX10_fit rfl cx dx rfl rfl rfl rfl (Nat.le_of_ble_eq_true rfl) ?_
  refine l_a2 (pc := 620) X (dd dtLw7 32 rfl) ?_
  refine l_arg (pc := 621) (k := 1) X (dd dtLw7 33 rfl) (dd dtLw7 34 rfl) (dd dtLw7 35 rfl) (dd dtLw7 36 rfl) (dd dtLw7 37 rfl) (by decide) (hin 1 (by decide)) ?_
  refine l_arg (pc := 626) (k := 2) X (dd dtLw7 38 rfl) (dd dtLw7 39 rfl) (dd dtLw7 40 rfl) (dd dtLw7 41 rfl) (dd dtLw7 42 rfl) (by decide) (hin 2 (by decide)) ?_
  refine l_cm (pc := 631) X (dd dtLw7 43 rfl) mlL_67 mvX11_fit miX11_fit rfl cm dm rfl rfl rfl rfl (Nat.le_of_ble_eq_true rfl) ?_
  refine l_eq (pc := 634) (tgt := 1490) X (dd dtLw7 44 rfl) (by decide) ?_
  exact kk _ _ hR2
theorem lc_13 (X : LX p s m meth c b L xs D cy a1 a2) (hin : ∀ k, k < 6 → vp_in (i + nI k) L) (hR : Rel I J) (kk : ∀ I2 J2, Rel I2 J2 → Ld p l e s m below meth c b D cy a1 a2 1490 i [] I2 J2) : Ld p l e s m below meth c b D cy a1 a2 639 i [] I J := by
  obtain ⟨r, I2, J2, d1, d2, dx, dm, cx, cm, hR2, v, rfl⟩ := k_fitTold hR (ag xs i 1) (ag xs i 2)
  refine l_a1 (pc := 639) X (dd dtLw7 47 rfl) ?_
  refine l_arg (pc := 640) (k := 1) X (dd dtLw8 0 rfl) (dd dtLw8 1 rfl) (dd dtLw8 2 rfl) (dd dtLw8 3 rfl) (dd dtLw8 4 rfl) (by decide) (hin 1 (by decide)) ?_
  refine l_arg (pc := 645) (k := 2) X (dd dtLw8 5 rfl) (dd dtLw8 6 rfl) (dd dtLw8 7 rfl) (dd dtLw8 8 rfl) (dd dtLw8 9 rfl) (by decide) (hin 2 (by decide)) ?_
  refine l_cx (pc := 650) X (dd dtLw8 10 rfl) mlL_68 mvX10_fitTold miX10_fitTold rfl cx dx rfl rfl rfl rfl (Nat.le_of_ble_eq_true rfl) ?_
  refine l_a2 (pc := 653) X (dd dtLw8 11 rfl) ?_
  refine l_arg (pc := 654) (k := 1) X (dd dtLw8 12 rfl) (dd dtLw8 13 rfl) (dd dtLw8 14 rfl) (dd dtLw8 15 rfl) (dd dtLw8 16 rfl) (by decide) (hin 1 (by decide)) ?_
  refine l_arg (pc := 659) (k := 2) X (dd dtLw8 17 rfl) (dd dtLw8 18 rfl) (dd dtLw8 19 rfl) (dd dtLw8 20 rfl) (dd dtLw8 21 rfl) (by decide) (hin 2 (by decide)) ?_
  refine l_cm (pc := 664) X (dd dtLw8 22 rfl) mlL_71 mvX11_fitTold miX11_fitTold rfl cm dm rfl rfl rfl rfl (Nat.le_of_ble_eq_true rfl) ?_
  refine l_eq (pc := 667) (tgt := 1490) X (dd dtLw8 23 rfl) (by decide) ?_
  exact kk _ _ hR2
theorem lc_14 (X : LX p s m meth c b L xs D cy a1 a2) (hin : ∀ k, k < 6 → vp_in (i + nI k) L) (hR : Rel I J) (kk : ∀ I2 J2, Rel I2 J2 → Ld p l e s m below meth c b D cy a1 a2 1490 i [] I2 J2) : Ld p l e s m below meth c b D cy a1 a2 672 i [] I J := by
  obtain ⟨r, I2, J2, d1, d2, dx, dm, cx, cm, hR2, v, rfl⟩ := k_feed hR ((ag xs i 1).toInt64 <<< ((32 : Int32).toInt64 &&& 63) ||| (ag xs i 2).toInt64 &&& 4294967295) (ag xs i 3)
  refine l_a1 (pc := 672) X (dd dtLw8 26 rfl) ?_
  refine l_arg (pc := 673) (k := 1) X (dd dtLw8 27 rfl) (dd dtLw8 28 rfl) (dd dtLw8 29 rfl) (dd dtLw8 30 rfl) (dd dtLw8 31 rfl) (by decide) (hin 1 (by decide)) ?_
  refine l_i2l (pc := 678) X (dd dtLw8 32 rfl) ?_
  refine l_bi (pc := 679) (v := 32) X (dd dtLw8 33 rfl) (by decide) ?_
  refine l_lshl (pc := 681) X (dd dtLw8 34 rfl) ?_
  refine l_arg (pc := 682) (k := 2) X (dd dtLw8 35 rfl) (dd dtLw8 36 rfl) (dd dtLw8 37 rfl) (dd dtLw8 38 rfl) (dd dtLw8 39 rfl) (by decide) (hin 2 (by decide)) ?_
  refine l_i2l (pc := 687) X (dd dtLw8 40 rfl) ?_
  refine l_ldc2 (pc := 688) X (dd dtLw8 41 rfl) kcL_72 ?_
  refine l_land (pc := 691) X (dd dtLw8 42 rfl) ?_
  refine l_lor (pc := 692) X (dd dtLw8 43 rfl) ?_
  refine l_arg (pc := 693) (k := 3) X (dd dtLw8 44 rfl) (dd dtLw8 45 rfl) (dd dtLw8 46 rfl) (dd dtLw8 47 rfl) (dd dtLw9 0 rfl) (by decide) (hin 3 (by decide)) ?_
  refine l_cx (pc := 698) X (dd dtLw9 1 rfl) mlL_74 mvX10_feed miX10_feed rfl cx dx rfl rfl rfl rfl (Nat.le_of_ble_eq_true rfl) ?_
  refine l_a2 (pc := 701) X (dd dtLw9 2 rfl) ?_
  refine l_arg (pc := 702) (k := 1) X (dd dtLw9 3 rfl) (dd dtLw9 4 rfl) (dd dtLw9 5 rfl) (dd dtLw9 6 rfl) (dd dtLw9 7 rfl) (by decide) (hin 1 (by decide)) ?_
  refine l_i2l (pc := 707) X (dd dtLw9 8 rfl) ?_
  refine l_bi (pc := 708) (v := 32) X (dd dtLw9 9 rfl) (by decide) ?_
  refine l_lshl (pc := 710) X (dd dtLw9 10 rfl) ?_
  refine l_arg (pc := 711) (k := 2) X (dd dtLw9 11 rfl) (dd dtLw9 12 rfl) (dd dtLw9 13 rfl) (dd dtLw9 14 rfl) (dd dtLw9 15 rfl) (by decide) (hin 2 (by decide)) ?_
  refine l_i2l (pc := 716) X (dd dtLw9 16 rfl) ?_
  refine l_ldc2 (pc := 717) X (dd dtLw9 17 rfl) kcL_72 ?_
  refine l_land (pc := 720) X (dd dtLw9 18 rfl) ?_
  refine l_lor (pc := 721) X (dd dtLw9 19 rfl) ?_
  refine l_arg (pc := 722) (k := 3) X (dd dtLw9 20 rfl) (dd dtLw9 21 rfl) (dd dtLw9 22 rfl) (dd dtLw9 23 rfl) (dd dtLw9 24 rfl) (by decide) (hin 3 (by decide)) ?_
  refine l_cm (pc := 727) X (dd dtLw9 25 rfl) mlL_78 mvX11_feed miX11_feed rfl cm dm rfl rfl rfl rfl (Nat.le_of_ble_eq_true rfl) ?_
  refine l_eq (pc := 730) (tgt := 1490) X (dd dtLw9 26 rfl) (by decide) ?_
  exact kk _ _ hR2
theorem lc_15 (X : LX p s m meth c b L xs D cy a1 a2) (hin : ∀ k, k < 6 → vp_in (i + nI k) L) (hR : Rel I J) (kk : ∀ I2 J2, Rel I2 J2 → Ld p l e s m below meth c b D cy a1 a2 1490 i [] I2 J2) : Ld p l e s m below meth c b D cy a1 a2 735 i [] I J := by
  obtain ⟨r, I2, J2, d1, d2, dx, dm, cx, cm, hR2, v, rfl⟩ := k_text hR 
  refine l_a1 (pc := 735) X (dd dtLw9 29 rfl) ?_
  refine l_cx (pc := 736) X (dd dtLw9 30 rfl) mlL_79 mvX10_text miX10_text rfl cx dx rfl rfl rfl rfl (Nat.le_of_ble_eq_true rfl) ?_
  refine l_a2 (pc := 739) X (dd dtLw9 31 rfl) ?_
  refine l_cm (pc := 740) X (dd dtLw9 32 rfl) mlL_83 mvX11_text miX11_text rfl cm dm rfl rfl rfl rfl (Nat.le_of_ble_eq_true rfl) ?_
  refine l_eq (pc := 743) (tgt := 1490) X (dd dtLw9 33 rfl) (by decide) ?_
  exact kk _ _ hR2
theorem lc_16 (X : LX p s m meth c b L xs D cy a1 a2) (hin : ∀ k, k < 6 → vp_in (i + nI k) L) (hR : Rel I J) (kk : ∀ I2 J2, Rel I2 J2 → Ld p l e s m below meth c b D cy a1 a2 1490 i [] I2 J2) : Ld p l e s m below meth c b D cy a1 a2 748 i [] I J := by
  obtain ⟨r, I2, J2, d1, d2, dx, dm, cx, cm, hR2, v, rfl⟩ := k_force hR (ag xs i 1)
  refine l_a1 (pc := 748) X (dd dtLw9 36 rfl) ?_
  refine l_arg (pc := 749) (k := 1) X (dd dtLw9 37 rfl) (dd dtLw9 38 rfl) (dd dtLw9 39 rfl) (dd dtLw9 40 rfl) (dd dtLw9 41 rfl) (by decide) (hin 1 (by decide)) ?_
  refine l_cx (pc := 754) X (dd dtLw9 42 rfl) mlL_84 mvX10_force miX10_force rfl cx dx rfl rfl rfl rfl (Nat.le_of_ble_eq_true rfl) ?_
  refine l_a2 (pc := 757) X (dd dtLw9 43 rfl) ?_
  refine l_arg (pc := 758) (k := 1) X (dd dtLw9 44 rfl) (dd dtLw9 45 rfl) (dd dtLw9 46 rfl) (dd dtLw9 47 rfl) (dd dtLw10 0 rfl) (by decide) (hin 1 (by decide)) ?_
  refine l_cm (pc := 763) X (dd dtLw10 1 rfl) mlL_87 mvX11_force miX11_force rfl cm dm rfl rfl rfl rfl (Nat.le_of_ble_eq_true rfl) ?_
  refine l_eq (pc := 766) (tgt := 1490) X (dd dtLw10 2 rfl) (by decide) ?_
  exact kk _ _ hR2
theorem lc_17 (X : LX p s m meth c b L xs D cy a1 a2) (hin : ∀ k, k < 6 → vp_in (i + nI k) L) (hR : Rel I J) (kk : ∀ I2 J2, Rel I2 J2 → Ld p l e s m below meth c b D cy a1 a2 1490 i [] I2 J2) : Ld p l e s m below meth c b D cy a1 a2 771 i [] I J := by
  obtain ⟨r, I2, J2, d1, d2, dx, dm, cx, cm, hR2, v, rfl⟩ := k_law hR (ag xs i 1) (ag xs i 2) (ag xs i 3)
  refine l_a1 (pc := 771) X (dd dtLw10 5 rfl) ?_
  refine l_arg (pc := 772) (k := 1) X (dd dtLw10 6 rfl) (dd dtLw10 7 rfl) (dd dtLw10 8 rfl) (dd dtLw10 9 rfl) (dd dtLw10 10 rfl) (by decide) (hin 1 (by decide)) ?_
  refine l_arg (pc := 777) (k := 2) X (dd dtLw10 11 rfl) (dd dtLw10 12 rfl) (dd dtLw10 13 rfl) (dd dtLw10 14 rfl) (dd dtLw10 15 rfl) (by decide) (hin 2 (by decide)) ?_
  refine l_arg (pc := 782) (k := 3) X (dd dtLw10 16 rfl) (dd dtLw10 17 rfl) (dd dtLw10 18 rfl) (dd dtLw10 19 rfl) (dd dtLw10 20 rfl) (by decide) (hin 3 (by decide)) ?_
  refine l_cx (pc := 787) X (dd dtLw10 21 rfl) mlL_88 mvX10_law miX10_law rfl cx dx rfl rfl rfl rfl (Nat.le_of_ble_eq_true rfl) ?_
  refine l_a2 (pc := 790) X (dd dtLw10 22 rfl) ?_
  refine l_arg (pc := 791) (k := 1) X (dd dtLw10 23 rfl) (dd dtLw10 24 rfl) (dd dtLw10 25 rfl) (dd dtLw10 26 rfl) (dd dtLw10 27 rfl) (by decide) (hin 1 (by decide)) ?_
  refine l_arg (pc := 796) (k := 2) X (dd dtLw10 28 rfl) (dd dtLw10 29 rfl) (dd dtLw10 30 rfl) (dd dtLw10 31 rfl) (dd dtLw10 32 rfl) (by decide) (hin 2 (by decide)) ?_
  refine l_arg (pc := 801) (k := 3) X (dd dtLw10 33 rfl) (dd dtLw10 34 rfl) (dd dtLw10 35 rfl) (dd dtLw10 36 rfl) (dd dtLw10 37 rfl) (by decide) (hin 3 (by decide)) ?_
  refine l_cm (pc := 806) X (dd dtLw10 38 rfl) mlL_92 mvX11_law miX11_law rfl cm dm rfl rfl rfl rfl (Nat.le_of_ble_eq_true rfl) ?_
  refine l_eq0 (pc := 809) (tgt := 1490) X (dd dtLw10 39 rfl) (dd dtLw10 40 rfl) (by decide) ?_
  exact kk _ _ hR2
theorem lc_18 (X : LX p s m meth c b L xs D cy a1 a2) (hin : ∀ k, k < 6 → vp_in (i + nI k) L) (hR : Rel I J) (kk : ∀ I2 J2, Rel I2 J2 → Ld p l e s m below meth c b D cy a1 a2 1490 i [] I2 J2) : Ld p l e s m below meth c b D cy a1 a2 815 i [] I J := by
  obtain ⟨r, I2, J2, d1, d2, dx, dm, cx, cm, hR2, v, rfl⟩ := k_moved hR (ag xs i 1)
  refine l_a1 (pc := 815) X (dd dtLw10 43 rfl) ?_
  refine l_arg (pc := 816) (k := 1) X (dd dtLw10 44 rfl) (dd dtLw10 45 rfl) (dd dtLw10 46 rfl) (dd dtLw10 47 rfl) (dd dtLw11 0 rfl) (by decide) (hin 1 (by decide)) ?_
  refine l_cx (pc := 821) X (dd dtLw11 1 rfl) mlL_93 mvX10_moved miX10_moved rfl cx dx rfl rfl rfl rfl (Nat.le_of_ble_eq_true rfl) ?_
  refine l_a2 (pc := 824) X (dd dtLw11 2 rfl) ?_
  refine l_arg (pc := 825) (k := 1) X (dd dtLw11 3 rfl) (dd dtLw11 4 rfl) (dd dtLw11 5 rfl) (dd dtLw11 6 rfl) (dd dtLw11 7 rfl) (by decide) (hin 1 (by decide)) ?_
  refine l_cm (pc := 830) X (dd dtLw11 8 rfl) mlL_97 mvX11_moved miX11_moved rfl cm dm rfl rfl rfl rfl (Nat.le_of_ble_eq_true rfl) ?_
  refine l_eq0 (pc := 833) (tgt := 1490) X (dd dtLw11 9 rfl) (dd dtLw11 10 rfl) (by decide) ?_
  exact kk _ _ hR2
theorem lc_19 (X : LX p s m meth c b L xs D cy a1 a2) (hin : ∀ k, k < 6 → vp_in (i + nI k) L) (hR : Rel I J) (kk : ∀ I2 J2, Rel I2 J2 → Ld p l e s m below meth c b D cy a1 a2 1490 i [] I2 J2) : Ld p l e s m below meth c b D cy a1 a2 839 i [] I J := by
  obtain ⟨r, I2, J2, d1, d2, dx, dm, cx, cm, hR2, v, rfl⟩ := k_part hR (ag xs i 1) (ag xs i 2)
  refine l_a1 (pc := 839) X (dd dtLw11 13 rfl) ?_
  refine l_arg (pc := 840) (k := 1) X (dd dtLw11 14 rfl) (dd dtLw11 15 rfl) (dd dtLw11 16 rfl) (dd dtLw11 17 rfl) (dd dtLw11 18 rfl) (by decide) (hin 1 (by decide)) ?_
  refine l_arg (pc := 845) (k := 2) X (dd dtLw11 19 rfl) (dd dtLw11 20 rfl) (dd dtLw11 21 rfl) (dd dtLw11 22 rfl) (dd dtLw11 23 rfl) (by decide) (hin 2 (by decide)) ?_
  refine l_cx (pc := 850) X (dd dtLw11 24 rfl) mlL_98 mvX10_part miX10_part rfl cx dx rfl rfl rfl rfl (Nat.le_of_ble_eq_true rfl) ?_
  refine l_a2 (pc := 853) X (dd dtLw11 25 rfl) ?_
  refine l_arg (pc := 854) (k := 1) X (dd dtLw11 26 rfl) (dd dtLw11 27 rfl) (dd dtLw11 28 rfl) (dd dtLw11 29 rfl) (dd dtLw11 30 rfl) (by decide) (hin 1 (by decide)) ?_
  refine l_arg (pc := 859) (k := 2) X (dd dtLw11 31 rfl) (dd dtLw11 32 rfl) (dd dtLw11 33 rfl) (dd dtLw11 34 rfl) (dd dtLw11 35 rfl) (by decide) (hin 2 (by decide)) ?_
  refine l_cm (pc := 864) X (dd dtLw11 36 rfl) mlL_102 mvX11_part miX11_part rfl cm dm rfl rfl rfl rfl (Nat.le_of_ble_eq_true rfl) ?_
  refine l_eq0 (pc := 867) (tgt := 1490) X (dd dtLw11 37 rfl) (dd dtLw11 38 rfl) (by decide) ?_
  exact kk _ _ hR2
theorem lc_20 (X : LX p s m meth c b L xs D cy a1 a2) (hin : ∀ k, k < 6 → vp_in (i + nI k) L) (hR : Rel I J) (kk : ∀ I2 J2, Rel I2 J2 → Ld p l e s m below meth c b D cy a1 a2 1490 i [] I2 J2) : Ld p l e s m below meth c b D cy a1 a2 873 i [] I J := by
  obtain ⟨r, I2, J2, d1, d2, dx, dm, cx, cm, hR2, v, rfl⟩ := k_looks hR (ag xs i 1) (ag xs i 2) (ag xs i 3)
  refine l_a1 (pc := 873) X (dd dtLw11 41 rfl) ?_
  refine l_arg (pc := 874) (k := 1) X (dd dtLw11 42 rfl) (dd dtLw11 43 rfl) (dd dtLw11 44 rfl) (dd dtLw11 45 rfl) (dd dtLw11 46 rfl) (by decide) (hin 1 (by decide)) ?_
  refine l_arg (pc := 879) (k := 2) X (dd dtLw11 47 rfl) (dd dtLw12 0 rfl) (dd dtLw12 1 rfl) (dd dtLw12 2 rfl) (dd dtLw12 3 rfl) (by decide) (hin 2 (by decide)) ?_
  refine l_arg (pc := 884) (k := 3) X (dd dtLw12 4 rfl) (dd dtLw12 5 rfl) (dd dtLw12 6 rfl) (dd dtLw12 7 rfl) (dd dtLw12 8 rfl) (by decide) (hin 3 (by decide)) ?_
  refine l_cx (pc := 889) X (dd dtLw12 9 rfl) mlL_103 mvX10_looks miX10_looks rfl cx dx rfl rfl rfl rfl (Nat.le_of_ble_eq_true rfl) ?_
  refine l_a2 (pc := 892) X (dd dtLw12 10 rfl) ?_
  refine l_arg (pc := 893) (k := 1) X (dd dtLw12 11 rfl) (dd dtLw12 12 rfl) (dd dtLw12 13 rfl) (dd dtLw12 14 rfl) (dd dtLw12 15 rfl) (by decide) (hin 1 (by decide)) ?_
  refine l_arg (pc := 898) (k := 2) X (dd dtLw12 16 rfl) (dd dtLw12 17 rfl) (dd dtLw12 18 rfl) (dd dtLw12 19 rfl) (dd dtLw12 20 rfl) (by decide) (hin 2 (by decide)) ?_
  refine l_arg (pc := 903) (k := 3) X (dd dtLw12 21 rfl) (dd dtLw12 22 rfl) (dd dtLw12 23 rfl) (dd dtLw12 24 rfl) (dd dtLw12 25 rfl) (by decide) (hin 3 (by decide)) ?_
  refine l_cm (pc := 908) X (dd dtLw12 26 rfl) mlL_106 mvX11_looks miX11_looks rfl cm dm rfl rfl rfl rfl (Nat.le_of_ble_eq_true rfl) ?_
  refine l_eq (pc := 911) (tgt := 1490) X (dd dtLw12 27 rfl) (by decide) ?_
  exact kk _ _ hR2
theorem lc_21 (X : LX p s m meth c b L xs D cy a1 a2) (hin : ∀ k, k < 6 → vp_in (i + nI k) L) (hR : Rel I J) (kk : ∀ I2 J2, Rel I2 J2 → Ld p l e s m below meth c b D cy a1 a2 1490 i [] I2 J2) : Ld p l e s m below meth c b D cy a1 a2 916 i [] I J := by
  obtain ⟨r, I2, J2, d1, d2, dx, dm, cx, cm, hR2, v, rfl⟩ := k_lookTold hR 
  refine l_a1 (pc := 916) X (dd dtLw12 30 rfl) ?_
  refine l_cx (pc := 917) X (dd dtLw12 31 rfl) mlL_107 mvX10_lookTold miX10_lookTold rfl cx dx rfl rfl rfl rfl (Nat.le_of_ble_eq_true rfl) ?_
  refine l_a2 (pc := 920) X (dd dtLw12 32 rfl) ?_
  refine l_cm (pc := 921) X (dd dtLw12 33 rfl) mlL_110 mvX11_lookTold miX11_lookTold rfl cm dm rfl rfl rfl rfl (Nat.le_of_ble_eq_true rfl) ?_
  refine l_eq (pc := 924) (tgt := 1490) X (dd dtLw12 34 rfl) (by decide) ?_
  exact kk _ _ hR2
theorem lc_22 (X : LX p s m meth c b L xs D cy a1 a2) (hin : ∀ k, k < 6 → vp_in (i + nI k) L) (hR : Rel I J) (kk : ∀ I2 J2, Rel I2 J2 → Ld p l e s m below meth c b D cy a1 a2 1490 i [] I2 J2) : Ld p l e s m below meth c b D cy a1 a2 929 i [] I J := by
  obtain ⟨r, I2, J2, d1, d2, dx, dm, cx, cm, hR2, v, rfl⟩ := k_often hR (ag xs i 1) (ag xs i 2)
  refine l_a1 (pc := 929) X (dd dtLw12 37 rfl) ?_
  refine l_arg (pc := 930) (k := 1) X (dd dtLw12 38 rfl) (dd dtLw12 39 rfl) (dd dtLw12 40 rfl) (dd dtLw12 41 rfl) (dd dtLw12 42 rfl) (by decide) (hin 1 (by decide)) ?_
  refine l_arg (pc := 935) (k := 2) X (dd dtLw12 43 rfl) (dd dtLw12 44 rfl) (dd dtLw12 45 rfl) (dd dtLw12 46 rfl) (dd dtLw12 47 rfl) (by decide) (hin 2 (by decide)) ?_
  refine l_cx (pc := 940) X (dd dtLw13 0 rfl) mlL_111 mvX10_often miX10_often rfl cx dx rfl rfl rfl rfl (Nat.le_of_ble_eq_true rfl) ?_
  refine l_a2 (pc := 943) X (dd dtLw13 1 rfl) ?_
  refine l_arg (pc := 944) (k := 1) X (dd dtLw13 2 rfl) (dd dtLw13 3 rfl) (dd dtLw13 4 rfl) (dd dtLw13 5 rfl) (dd dtLw13 6 rfl) (by decide) (hin 1 (by decide)) ?_
  refine l_arg (pc := 949) (k := 2) X (dd dtLw13 7 rfl) (dd dtLw13 8 rfl) (dd dtLw13 9 rfl) (dd dtLw13 10 rfl) (dd dtLw13 11 rfl) (by decide) (hin 2 (by decide)) ?_
  refine l_cm (pc := 954) X (dd dtLw13 12 rfl) mlL_114 mvX11_often miX11_often rfl cm dm rfl rfl rfl rfl (Nat.le_of_ble_eq_true rfl) ?_
  refine l_eq0 (pc := 957) (tgt := 1490) X (dd dtLw13 13 rfl) (dd dtLw13 14 rfl) (by decide) ?_
  exact kk _ _ hR2
theorem lc_23 (X : LX p s m meth c b L xs D cy a1 a2) (hin : ∀ k, k < 6 → vp_in (i + nI k) L) (hR : Rel I J) (kk : ∀ I2 J2, Rel I2 J2 → Ld p l e s m below meth c b D cy a1 a2 1490 i [] I2 J2) : Ld p l e s m below meth c b D cy a1 a2 963 i [] I J := by
  obtain ⟨r, I2, J2, d1, d2, dx, dm, cx, cm, hR2, v, rfl⟩ := k_warn hR (ag xs i 1)
  refine l_a1 (pc := 963) X (dd dtLw13 17 rfl) ?_
  refine l_arg (pc := 964) (k := 1) X (dd dtLw13 18 rfl) (dd dtLw13 19 rfl) (dd dtLw13 20 rfl) (dd dtLw13 21 rfl) (dd dtLw13 22 rfl) (by decide) (hin 1 (by decide)) ?_
  refine l_cx (pc := 969) X (dd dtLw13 23 rfl) mlL_115 mvX10_warn miX10_warn rfl cx dx rfl rfl rfl rfl (Nat.le_of_ble_eq_true rfl) ?_
  refine l_a2 (pc := 972) X (dd dtLw13 24 rfl) ?_
  refine l_arg (pc := 973) (k := 1) X (dd dtLw13 25 rfl) (dd dtLw13 26 rfl) (dd dtLw13 27 rfl) (dd dtLw13 28 rfl) (dd dtLw13 29 rfl) (by decide) (hin 1 (by decide)) ?_
  refine l_cm (pc := 978) X (dd dtLw13 30 rfl) mlL_118 mvX11_warn miX11_warn rfl cm dm rfl rfl rfl rfl (Nat.le_of_ble_eq_true rfl) ?_
  refine l_eq (pc := 981) (tgt := 1490) X (dd dtLw13 31 rfl) (by decide) ?_
  exact kk _ _ hR2
theorem lc_24 (X : LX p s m meth c b L xs D cy a1 a2) (hin : ∀ k, k < 6 → vp_in (i + nI k) L) (hR : Rel I J) (kk : ∀ I2 J2, Rel I2 J2 → Ld p l e s m below meth c b D cy a1 a2 1490 i [] I2 J2) : Ld p l e s m below meth c b D cy a1 a2 986 i [] I J := by
  obtain ⟨r, I2, J2, d1, d2, dx, dm, cx, cm, hR2, v, rfl⟩ := k_warned hR (ag xs i 1) (ag xs i 2)
  refine l_a1 (pc := 986) X (dd dtLw13 34 rfl) ?_
  refine l_arg (pc := 987) (k := 1) X (dd dtLw13 35 rfl) (dd dtLw13 36 rfl) (dd dtLw13 37 rfl) (dd dtLw13 38 rfl) (dd dtLw13 39 rfl) (by decide) (hin 1 (by decide)) ?_
  refine l_arg (pc := 992) (k := 2) X (dd dtLw13 40 rfl) (dd dtLw13 41 rfl) (dd dtLw13 42 rfl) (dd dtLw13 43 rfl) (dd dtLw13 44 rfl) (by decide) (hin 2 (by decide)) ?_
  refine l_cx (pc := 997) X (dd dtLw13 45 rfl) mlL_119 mvX10_warned miX10_warned rfl cx dx rfl rfl rfl rfl (Nat.le_of_ble_eq_true rfl) ?_
  refine l_a2 (pc := 1000) X (dd dtLw13 46 rfl) ?_
  refine l_arg (pc := 1001) (k := 1) X (dd dtLw13 47 rfl) (dd dtLw14 0 rfl) (dd dtLw14 1 rfl) (dd dtLw14 2 rfl) (dd dtLw14 3 rfl) (by decide) (hin 1 (by decide)) ?_
  refine l_arg (pc := 1006) (k := 2) X (dd dtLw14 4 rfl) (dd dtLw14 5 rfl) (dd dtLw14 6 rfl) (dd dtLw14 7 rfl) (dd dtLw14 8 rfl) (by decide) (hin 2 (by decide)) ?_
  refine l_cm (pc := 1011) X (dd dtLw14 9 rfl) mlL_122 mvX11_warned miX11_warned rfl cm dm rfl rfl rfl rfl (Nat.le_of_ble_eq_true rfl) ?_
  refine l_eq (pc := 1014) (tgt := 1490) X (dd dtLw14 10 rfl) (by decide) ?_
  exact kk _ _ hR2
theorem lc_25 (X : LX p s m meth c b L xs D cy a1 a2) (hin : ∀ k, k < 6 → vp_in (i + nI k) L) (hR : Rel I J) (kk : ∀ I2 J2, Rel I2 J2 → Ld p l e s m below meth c b D cy a1 a2 1490 i [] I2 J2) : Ld p l e s m below meth c b D cy a1 a2 1019 i [] I J := by
  obtain ⟨r, I2, J2, d1, d2, dx, dm, cx, cm, hR2, v, rfl⟩ := k_cellTold hR (ag xs i 1) (ag xs i 2)
  refine l_a1 (pc := 1019) X (dd dtLw14 13 rfl) ?_
  refine l_arg (pc := 1020) (k := 1) X (dd dtLw14 14 rfl) (dd dtLw14 15 rfl) (dd dtLw14 16 rfl) (dd dtLw14 17 rfl) (dd dtLw14 18 rfl) (by decide) (hin 1 (by decide)) ?_
  refine l_arg (pc := 1025) (k := 2) X (dd dtLw14 19 rfl) (dd dtLw14 20 rfl) (dd dtLw14 21 rfl) (dd dtLw14 22 rfl) (dd dtLw14 23 rfl) (by decide) (hin 2 (by decide)) ?_
  refine l_cx (pc := 1030) X (dd dtLw14 24 rfl) mlL_123 mvX10_cellTold miX10_cellTold rfl cx dx rfl rfl rfl rfl (Nat.le_of_ble_eq_true rfl) ?_
  refine l_a2 (pc := 1033) X (dd dtLw14 25 rfl) ?_
  refine l_arg (pc := 1034) (k := 1) X (dd dtLw14 26 rfl) (dd dtLw14 27 rfl) (dd dtLw14 28 rfl) (dd dtLw14 29 rfl) (dd dtLw14 30 rfl) (by decide) (hin 1 (by decide)) ?_
  refine l_arg (pc := 1039) (k := 2) X (dd dtLw14 31 rfl) (dd dtLw14 32 rfl) (dd dtLw14 33 rfl) (dd dtLw14 34 rfl) (dd dtLw14 35 rfl) (by decide) (hin 2 (by decide)) ?_
  refine l_cm (pc := 1044) X (dd dtLw14 36 rfl) mlL_126 mvX11_cellTold miX11_cellTold rfl cm dm rfl rfl rfl rfl (Nat.le_of_ble_eq_true rfl) ?_
  refine l_eq (pc := 1047) (tgt := 1490) X (dd dtLw14 37 rfl) (by decide) ?_
  exact kk _ _ hR2
theorem lc_26 (X : LX p s m meth c b L xs D cy a1 a2) (hin : ∀ k, k < 6 → vp_in (i + nI k) L) (hR : Rel I J) (kk : ∀ I2 J2, Rel I2 J2 → Ld p l e s m below meth c b D cy a1 a2 1490 i [] I2 J2) : Ld p l e s m below meth c b D cy a1 a2 1052 i [] I J := by
  obtain ⟨r, I2, J2, d1, d2, dx, dm, cx, cm, hR2, v, rfl⟩ := k_houseTold hR (ag xs i 1) (ag xs i 2)
  refine l_a1 (pc := 1052) X (dd dtLw14 40 rfl) ?_
  refine l_arg (pc := 1053) (k := 1) X (dd dtLw14 41 rfl) (dd dtLw14 42 rfl) (dd dtLw14 43 rfl) (dd dtLw14 44 rfl) (dd dtLw14 45 rfl) (by decide) (hin 1 (by decide)) ?_
  refine l_arg (pc := 1058) (k := 2) X (dd dtLw14 46 rfl) (dd dtLw14 47 rfl) (dd dtLw15 0 rfl) (dd dtLw15 1 rfl) (dd dtLw15 2 rfl) (by decide) (hin 2 (by decide)) ?_
  refine l_cx (pc := 1063) X (dd dtLw15 3 rfl) mlL_127 mvX10_houseTold miX10_houseTold rfl cx dx rfl rfl rfl rfl (Nat.le_of_ble_eq_true rfl) ?_
  refine l_a2 (pc := 1066) X (dd dtLw15 4 rfl) ?_
  refine l_arg (pc := 1067) (k := 1) X (dd dtLw15 5 rfl) (dd dtLw15 6 rfl) (dd dtLw15 7 rfl) (dd dtLw15 8 rfl) (dd dtLw15 9 rfl) (by decide) (hin 1 (by decide)) ?_
  refine l_arg (pc := 1072) (k := 2) X (dd dtLw15 10 rfl) (dd dtLw15 11 rfl) (dd dtLw15 12 rfl) (dd dtLw15 13 rfl) (dd dtLw15 14 rfl) (by decide) (hin 2 (by decide)) ?_
  refine l_cm (pc := 1077) X (dd dtLw15 15 rfl) mlL_130 mvX11_houseTold miX11_houseTold rfl cm dm rfl rfl rfl rfl (Nat.le_of_ble_eq_true rfl) ?_
  refine l_eq (pc := 1080) (tgt := 1490) X (dd dtLw15 16 rfl) (by decide) ?_
  exact kk _ _ hR2
theorem lc_27 (X : LX p s m meth c b L xs D cy a1 a2) (hin : ∀ k, k < 6 → vp_in (i + nI k) L) (hR : Rel I J) (kk : ∀ I2 J2, Rel I2 J2 → Ld p l e s m below meth c b D cy a1 a2 1490 i [] I2 J2) : Ld p l e s m below meth c b D cy a1 a2 1085 i [] I J := by
  obtain ⟨r, I2, J2, d1, d2, dx, dm, cx, cm, hR2, v, rfl⟩ := k_beside hR (ag xs i 1) (ag xs i 2) (ag xs i 3) (ag xs i 4)
  refine l_a1 (pc := 1085) X (dd dtLw15 19 rfl) ?_
  refine l_arg (pc := 1086) (k := 1) X (dd dtLw15 20 rfl) (dd dtLw15 21 rfl) (dd dtLw15 22 rfl) (dd dtLw15 23 rfl) (dd dtLw15 24 rfl) (by decide) (hin 1 (by decide)) ?_
  refine l_arg (pc := 1091) (k := 2) X (dd dtLw15 25 rfl) (dd dtLw15 26 rfl) (dd dtLw15 27 rfl) (dd dtLw15 28 rfl) (dd dtLw15 29 rfl) (by decide) (hin 2 (by decide)) ?_
  refine l_arg (pc := 1096) (k := 3) X (dd dtLw15 30 rfl) (dd dtLw15 31 rfl) (dd dtLw15 32 rfl) (dd dtLw15 33 rfl) (dd dtLw15 34 rfl) (by decide) (hin 3 (by decide)) ?_
  refine l_arg (pc := 1101) (k := 4) X (dd dtLw15 35 rfl) (dd dtLw15 36 rfl) (dd dtLw15 37 rfl) (dd dtLw15 38 rfl) (dd dtLw15 39 rfl) (by decide) (hin 4 (by decide)) ?_
  refine l_cx (pc := 1106) X (dd dtLw15 40 rfl) mlL_131 mvX10_beside miX10_beside rfl cx dx rfl rfl rfl rfl (Nat.le_of_ble_eq_true rfl) ?_
  refine l_a2 (pc := 1109) X (dd dtLw15 41 rfl) ?_
  refine l_arg (pc := 1110) (k := 1) X (dd dtLw15 42 rfl) (dd dtLw15 43 rfl) (dd dtLw15 44 rfl) (dd dtLw15 45 rfl) (dd dtLw15 46 rfl) (by decide) (hin 1 (by decide)) ?_
  refine l_arg (pc := 1115) (k := 2) X (dd dtLw15 47 rfl) (dd dtLw16 0 rfl) (dd dtLw16 1 rfl) (dd dtLw16 2 rfl) (dd dtLw16 3 rfl) (by decide) (hin 2 (by decide)) ?_
  refine l_arg (pc := 1120) (k := 3) X (dd dtLw16 4 rfl) (dd dtLw16 5 rfl) (dd dtLw16 6 rfl) (dd dtLw16 7 rfl) (dd dtLw16 8 rfl) (by decide) (hin 3 (by decide)) ?_
  refine l_arg (pc := 1125) (k := 4) X (dd dtLw16 9 rfl) (dd dtLw16 10 rfl) (dd dtLw16 11 rfl) (dd dtLw16 12 rfl) (dd dtLw16 13 rfl) (by decide) (hin 4 (by decide)) ?_
  refine l_cm (pc := 1130) X (dd dtLw16 14 rfl) mlL_135 mvX11_beside miX11_beside rfl cm dm rfl rfl rfl rfl (Nat.le_of_ble_eq_true rfl) ?_
  refine l_eq0 (pc := 1133) (tgt := 1490) X (dd dtLw16 15 rfl) (dd dtLw16 16 rfl) (by decide) ?_
  exact kk _ _ hR2
theorem lc_28 (X : LX p s m meth c b L xs D cy a1 a2) (hin : ∀ k, k < 6 → vp_in (i + nI k) L) (hR : Rel I J) (kk : ∀ I2 J2, Rel I2 J2 → Ld p l e s m below meth c b D cy a1 a2 1490 i [] I2 J2) : Ld p l e s m below meth c b D cy a1 a2 1139 i [] I J := by
  obtain ⟨r, I2, J2, d1, d2, dx, dm, cx, cm, hR2, v, rfl⟩ := k_plan hR (ag xs i 1) (ag xs i 2) (ag xs i 3)
  refine l_a1 (pc := 1139) X (dd dtLw16 19 rfl) ?_
  refine l_arg (pc := 1140) (k := 1) X (dd dtLw16 20 rfl) (dd dtLw16 21 rfl) (dd dtLw16 22 rfl) (dd dtLw16 23 rfl) (dd dtLw16 24 rfl) (by decide) (hin 1 (by decide)) ?_
  refine l_arg (pc := 1145) (k := 2) X (dd dtLw16 25 rfl) (dd dtLw16 26 rfl) (dd dtLw16 27 rfl) (dd dtLw16 28 rfl) (dd dtLw16 29 rfl) (by decide) (hin 2 (by decide)) ?_
  refine l_arg (pc := 1150) (k := 3) X (dd dtLw16 30 rfl) (dd dtLw16 31 rfl) (dd dtLw16 32 rfl) (dd dtLw16 33 rfl) (dd dtLw16 34 rfl) (by decide) (hin 3 (by decide)) ?_
  refine l_cx (pc := 1155) X (dd dtLw16 35 rfl) mlL_136 mvX10_plan miX10_plan rfl cx dx rfl rfl rfl rfl (Nat.le_of_ble_eq_true rfl) ?_
  refine l_a2 (pc := 1158) X (dd dtLw16 36 rfl) ?_
  refine l_arg (pc := 1159) (k := 1) X (dd dtLw16 37 rfl) (dd dtLw16 38 rfl) (dd dtLw16 39 rfl) (dd dtLw16 40 rfl) (dd dtLw16 41 rfl) (by decide) (hin 1 (by decide)) ?_
  refine l_arg (pc := 1164) (k := 2) X (dd dtLw16 42 rfl) (dd dtLw16 43 rfl) (dd dtLw16 44 rfl) (dd dtLw16 45 rfl) (dd dtLw16 46 rfl) (by decide) (hin 2 (by decide)) ?_
  refine l_arg (pc := 1169) (k := 3) X (dd dtLw16 47 rfl) (dd dtLw17 0 rfl) (dd dtLw17 1 rfl) (dd dtLw17 2 rfl) (dd dtLw17 3 rfl) (by decide) (hin 3 (by decide)) ?_
  refine l_cm (pc := 1174) X (dd dtLw17 4 rfl) mlL_139 mvX11_plan miX11_plan rfl cm dm rfl rfl rfl rfl (Nat.le_of_ble_eq_true rfl) ?_
  refine l_eq0 (pc := 1177) (tgt := 1490) X (dd dtLw17 5 rfl) (dd dtLw17 6 rfl) (by decide) ?_
  exact kk _ _ hR2
theorem lc_29 (X : LX p s m meth c b L xs D cy a1 a2) (hin : ∀ k, k < 6 → vp_in (i + nI k) L) (hR : Rel I J) (kk : ∀ I2 J2, Rel I2 J2 → Ld p l e s m below meth c b D cy a1 a2 1490 i [] I2 J2) : Ld p l e s m below meth c b D cy a1 a2 1183 i [] I J := by
  obtain ⟨r, I2, J2, d1, d2, dx, dm, cx, cm, hR2, v, rfl⟩ := k_planned hR 
  refine l_a1 (pc := 1183) X (dd dtLw17 9 rfl) ?_
  refine l_cx (pc := 1184) X (dd dtLw17 10 rfl) mlL_140 mvX10_planned miX10_planned rfl cx dx rfl rfl rfl rfl (Nat.le_of_ble_eq_true rfl) ?_
  refine l_a2 (pc := 1187) X (dd dtLw17 11 rfl) ?_
  refine l_cm (pc := 1188) X (dd dtLw17 12 rfl) mlL_143 mvX11_planned miX11_planned rfl cm dm rfl rfl rfl rfl (Nat.le_of_ble_eq_true rfl) ?_
  refine l_eq (pc := 1191) (tgt := 1490) X (dd dtLw17 13 rfl) (by decide) ?_
  exact kk _ _ hR2
theorem lc_30 (X : LX p s m meth c b L xs D cy a1 a2) (hin : ∀ k, k < 6 → vp_in (i + nI k) L) (hR : Rel I J) (kk : ∀ I2 J2, Rel I2 J2 → Ld p l e s m below meth c b D cy a1 a2 1490 i [] I2 J2) : Ld p l e s m below meth c b D cy a1 a2 1196 i [] I J := by
  obtain ⟨r, I2, J2, d1, d2, dx, dm, cx, cm, hR2, v, rfl⟩ := k_image hR 
  refine l_a1 (pc := 1196) X (dd dtLw17 16 rfl) ?_
  refine l_cx (pc := 1197) X (dd dtLw17 17 rfl) mlL_144 mvX10_image miX10_image rfl cx dx rfl rfl rfl rfl (Nat.le_of_ble_eq_true rfl) ?_
  refine l_a2 (pc := 1200) X (dd dtLw17 18 rfl) ?_
  refine l_cm (pc := 1201) X (dd dtLw17 19 rfl) mlL_147 mvX11_image miX11_image rfl cm dm rfl rfl rfl rfl (Nat.le_of_ble_eq_true rfl) ?_
  refine l_eq (pc := 1204) (tgt := 1490) X (dd dtLw17 20 rfl) (by decide) ?_
  exact kk _ _ hR2
theorem lc_31 (X : LX p s m meth c b L xs D cy a1 a2) (hin : ∀ k, k < 6 → vp_in (i + nI k) L) (hR : Rel I J) (kk : ∀ I2 J2, Rel I2 J2 → Ld p l e s m below meth c b D cy a1 a2 1490 i [] I2 J2) : Ld p l e s m below meth c b D cy a1 a2 1209 i [] I J := by
  obtain ⟨r, I2, J2, d1, d2, dx, dm, cx, cm, hR2, v, rfl⟩ := k_back hR 
  refine l_a1 (pc := 1209) X (dd dtLw17 23 rfl) ?_
  refine l_cx (pc := 1210) X (dd dtLw17 24 rfl) mlL_148 mvX10_back miX10_back rfl cx dx rfl rfl rfl rfl (Nat.le_of_ble_eq_true rfl) ?_
  refine l_a2 (pc := 1213) X (dd dtLw17 25 rfl) ?_
  refine l_cm (pc := 1214) X (dd dtLw17 26 rfl) mlL_151 mvX11_back miX11_back rfl cm dm rfl rfl rfl rfl (Nat.le_of_ble_eq_true rfl) ?_
  refine l_eq (pc := 1217) (tgt := 1490) X (dd dtLw17 27 rfl) (by decide) ?_
  exact kk _ _ hR2
theorem lc_32 (X : LX p s m meth c b L xs D cy a1 a2) (hin : ∀ k, k < 6 → vp_in (i + nI k) L) (hR : Rel I J) (kk : ∀ I2 J2, Rel I2 J2 → Ld p l e s m below meth c b D cy a1 a2 1490 i [] I2 J2) : Ld p l e s m below meth c b D cy a1 a2 1222 i [] I J := by
  obtain ⟨r, I2, J2, d1, d2, dx, dm, cx, cm, hR2, v, rfl⟩ := k_count hR (ag xs i 1)
  refine l_a1 (pc := 1222) X (dd dtLw17 30 rfl) ?_
  refine l_arg (pc := 1223) (k := 1) X (dd dtLw17 31 rfl) (dd dtLw17 32 rfl) (dd dtLw17 33 rfl) (dd dtLw17 34 rfl) (dd dtLw17 35 rfl) (by decide) (hin 1 (by decide)) ?_
  refine l_cx (pc := 1228) X (dd dtLw17 36 rfl) mlL_152 mvX10_count miX10_count rfl cx dx rfl rfl rfl rfl (Nat.le_of_ble_eq_true rfl) ?_
  refine l_a2 (pc := 1231) X (dd dtLw17 37 rfl) ?_
  refine l_arg (pc := 1232) (k := 1) X (dd dtLw17 38 rfl) (dd dtLw17 39 rfl) (dd dtLw17 40 rfl) (dd dtLw17 41 rfl) (dd dtLw17 42 rfl) (by decide) (hin 1 (by decide)) ?_
  refine l_cm (pc := 1237) X (dd dtLw17 43 rfl) mlL_155 mvX11_count miX11_count rfl cm dm rfl rfl rfl rfl (Nat.le_of_ble_eq_true rfl) ?_
  refine l_eq (pc := 1240) (tgt := 1490) X (dd dtLw17 44 rfl) (by decide) ?_
  exact kk _ _ hR2
theorem lc_33 (X : LX p s m meth c b L xs D cy a1 a2) (hin : ∀ k, k < 6 → vp_in (i + nI k) L) (hR : Rel I J) (kk : ∀ I2 J2, Rel I2 J2 → Ld p l e s m below meth c b D cy a1 a2 1490 i [] I2 J2) : Ld p l e s m below meth c b D cy a1 a2 1245 i [] I J := by
  obtain ⟨r, I2, J2, d1, d2, dx, dm, cx, cm, hR2, v, rfl⟩ := k_sheet hR (ag xs i 1) (ag xs i 2) (ag xs i 3)
  refine l_a1 (pc := 1245) X (dd dtLw17 47 rfl) ?_
  refine l_arg (pc := 1246) (k := 1) X (dd dtLw18 0 rfl) (dd dtLw18 1 rfl) (dd dtLw18 2 rfl) (dd dtLw18 3 rfl) (dd dtLw18 4 rfl) (by decide) (hin 1 (by decide)) ?_
  refine l_arg (pc := 1251) (k := 2) X (dd dtLw18 5 rfl) (dd dtLw18 6 rfl) (dd dtLw18 7 rfl) (dd dtLw18 8 rfl) (dd dtLw18 9 rfl) (by decide) (hin 2 (by decide)) ?_
  refine l_arg (pc := 1256) (k := 3) X (dd dtLw18 10 rfl) (dd dtLw18 11 rfl) (dd dtLw18 12 rfl) (dd dtLw18 13 rfl) (dd dtLw18 14 rfl) (by decide) (hin 3 (by decide)) ?_
  refine l_cx (pc := 1261) X (dd dtLw18 15 rfl) mlL_156 mvX10_sheet miX10_sheet rfl cx dx rfl rfl rfl rfl (Nat.le_of_ble_eq_true rfl) ?_
  refine l_a2 (pc := 1264) X (dd dtLw18 16 rfl) ?_
  refine l_arg (pc := 1265) (k := 1) X (dd dtLw18 17 rfl) (dd dtLw18 18 rfl) (dd dtLw18 19 rfl) (dd dtLw18 20 rfl) (dd dtLw18 21 rfl) (by decide) (hin 1 (by decide)) ?_
  refine l_arg (pc := 1270) (k := 2) X (dd dtLw18 22 rfl) (dd dtLw18 23 rfl) (dd dtLw18 24 rfl) (dd dtLw18 25 rfl) (dd dtLw18 26 rfl) (by decide) (hin 2 (by decide)) ?_
  refine l_arg (pc := 1275) (k := 3) X (dd dtLw18 27 rfl) (dd dtLw18 28 rfl) (dd dtLw18 29 rfl) (dd dtLw18 30 rfl) (dd dtLw18 31 rfl) (by decide) (hin 3 (by decide)) ?_
  refine l_cm (pc := 1280) X (dd dtLw18 32 rfl) mlL_159 mvX11_sheet miX11_sheet rfl cm dm rfl rfl rfl rfl (Nat.le_of_ble_eq_true rfl) ?_
  refine l_eq (pc := 1283) (tgt := 1490) X (dd dtLw18 33 rfl) (by decide) ?_
  exact kk _ _ hR2
theorem lc_34 (X : LX p s m meth c b L xs D cy a1 a2) (hin : ∀ k, k < 6 → vp_in (i + nI k) L) (hR : Rel I J) (kk : ∀ I2 J2, Rel I2 J2 → Ld p l e s m below meth c b D cy a1 a2 1490 i [] I2 J2) : Ld p l e s m below meth c b D cy a1 a2 1288 i [] I J := by
  obtain ⟨r, I2, J2, d1, d2, dx, dm, cx, cm, hR2, v, rfl⟩ := k_cell hR (ag xs i 1) (ag xs i 2) (ag xs i 3)
  refine l_a1 (pc := 1288) X (dd dtLw18 36 rfl) ?_
  refine l_arg (pc := 1289) (k := 1) X (dd dtLw18 37 rfl) (dd dtLw18 38 rfl) (dd dtLw18 39 rfl) (dd dtLw18 40 rfl) (dd dtLw18 41 rfl) (by decide) (hin 1 (by decide)) ?_
  refine l_arg (pc := 1294) (k := 2) X (dd dtLw18 42 rfl) (dd dtLw18 43 rfl) (dd dtLw18 44 rfl) (dd dtLw18 45 rfl) (dd dtLw18 46 rfl) (by decide) (hin 2 (by decide)) ?_
  refine l_arg (pc := 1299) (k := 3) X (dd dtLw18 47 rfl) (dd dtLw19 0 rfl) (dd dtLw19 1 rfl) (dd dtLw19 2 rfl) (dd dtLw19 3 rfl) (by decide) (hin 3 (by decide)) ?_
  refine l_cx (pc := 1304) X (dd dtLw19 4 rfl) mlL_160 mvX10_cell miX10_cell rfl cx dx rfl rfl rfl rfl (Nat.le_of_ble_eq_true rfl) ?_
  refine l_a2 (pc := 1307) X (dd dtLw19 5 rfl) ?_
  refine l_arg (pc := 1308) (k := 1) X (dd dtLw19 6 rfl) (dd dtLw19 7 rfl) (dd dtLw19 8 rfl) (dd dtLw19 9 rfl) (dd dtLw19 10 rfl) (by decide) (hin 1 (by decide)) ?_
  refine l_arg (pc := 1313) (k := 2) X (dd dtLw19 11 rfl) (dd dtLw19 12 rfl) (dd dtLw19 13 rfl) (dd dtLw19 14 rfl) (dd dtLw19 15 rfl) (by decide) (hin 2 (by decide)) ?_
  refine l_arg (pc := 1318) (k := 3) X (dd dtLw19 16 rfl) (dd dtLw19 17 rfl) (dd dtLw19 18 rfl) (dd dtLw19 19 rfl) (dd dtLw19 20 rfl) (by decide) (hin 3 (by decide)) ?_
  refine l_cm (pc := 1323) X (dd dtLw19 21 rfl) mlL_163 mvX11_cell miX11_cell rfl cm dm rfl rfl rfl rfl (Nat.le_of_ble_eq_true rfl) ?_
  refine l_eq (pc := 1326) (tgt := 1490) X (dd dtLw19 22 rfl) (by decide) ?_
  exact kk _ _ hR2
theorem lc_35 (X : LX p s m meth c b L xs D cy a1 a2) (hin : ∀ k, k < 6 → vp_in (i + nI k) L) (hR : Rel I J) (kk : ∀ I2 J2, Rel I2 J2 → Ld p l e s m below meth c b D cy a1 a2 1490 i [] I2 J2) : Ld p l e s m below meth c b D cy a1 a2 1331 i [] I J := by
  obtain ⟨r, I2, J2, d1, d2, dx, dm, cx, cm, hR2, v, rfl⟩ := k_copy hR (ag xs i 1) (ag xs i 2) (ag xs i 3) (ag xs i 4) (ag xs i 5)
  refine l_a1 (pc := 1331) X (dd dtLw19 25 rfl) ?_
  refine l_arg (pc := 1332) (k := 1) X (dd dtLw19 26 rfl) (dd dtLw19 27 rfl) (dd dtLw19 28 rfl) (dd dtLw19 29 rfl) (dd dtLw19 30 rfl) (by decide) (hin 1 (by decide)) ?_
  refine l_arg (pc := 1337) (k := 2) X (dd dtLw19 31 rfl) (dd dtLw19 32 rfl) (dd dtLw19 33 rfl) (dd dtLw19 34 rfl) (dd dtLw19 35 rfl) (by decide) (hin 2 (by decide)) ?_
  refine l_arg (pc := 1342) (k := 3) X (dd dtLw19 36 rfl) (dd dtLw19 37 rfl) (dd dtLw19 38 rfl) (dd dtLw19 39 rfl) (dd dtLw19 40 rfl) (by decide) (hin 3 (by decide)) ?_
  refine l_arg (pc := 1347) (k := 4) X (dd dtLw19 41 rfl) (dd dtLw19 42 rfl) (dd dtLw19 43 rfl) (dd dtLw19 44 rfl) (dd dtLw19 45 rfl) (by decide) (hin 4 (by decide)) ?_
  refine l_arg (pc := 1352) (k := 5) X (dd dtLw19 46 rfl) (dd dtLw19 47 rfl) (dd dtLw20 0 rfl) (dd dtLw20 1 rfl) (dd dtLw20 2 rfl) (by decide) (hin 5 (by decide)) ?_
  refine l_cx (pc := 1357) X (dd dtLw20 3 rfl) mlL_164 mvX10_copy miX10_copy rfl cx dx rfl rfl rfl rfl (Nat.le_of_ble_eq_true rfl) ?_
  refine l_a2 (pc := 1360) X (dd dtLw20 4 rfl) ?_
  refine l_arg (pc := 1361) (k := 1) X (dd dtLw20 5 rfl) (dd dtLw20 6 rfl) (dd dtLw20 7 rfl) (dd dtLw20 8 rfl) (dd dtLw20 9 rfl) (by decide) (hin 1 (by decide)) ?_
  refine l_arg (pc := 1366) (k := 2) X (dd dtLw20 10 rfl) (dd dtLw20 11 rfl) (dd dtLw20 12 rfl) (dd dtLw20 13 rfl) (dd dtLw20 14 rfl) (by decide) (hin 2 (by decide)) ?_
  refine l_arg (pc := 1371) (k := 3) X (dd dtLw20 15 rfl) (dd dtLw20 16 rfl) (dd dtLw20 17 rfl) (dd dtLw20 18 rfl) (dd dtLw20 19 rfl) (by decide) (hin 3 (by decide)) ?_
  refine l_arg (pc := 1376) (k := 4) X (dd dtLw20 20 rfl) (dd dtLw20 21 rfl) (dd dtLw20 22 rfl) (dd dtLw20 23 rfl) (dd dtLw20 24 rfl) (by decide) (hin 4 (by decide)) ?_
  refine l_arg (pc := 1381) (k := 5) X (dd dtLw20 25 rfl) (dd dtLw20 26 rfl) (dd dtLw20 27 rfl) (dd dtLw20 28 rfl) (dd dtLw20 29 rfl) (by decide) (hin 5 (by decide)) ?_
  refine l_cm (pc := 1386) X (dd dtLw20 30 rfl) mlL_168 mvX11_copy miX11_copy rfl cm dm rfl rfl rfl rfl (Nat.le_of_ble_eq_true rfl) ?_
  refine l_eq (pc := 1389) (tgt := 1490) X (dd dtLw20 31 rfl) (by decide) ?_
  exact kk _ _ hR2
theorem lc_36 (X : LX p s m meth c b L xs D cy a1 a2) (hin : ∀ k, k < 6 → vp_in (i + nI k) L) (hR : Rel I J) (kk : ∀ I2 J2, Rel I2 J2 → Ld p l e s m below meth c b D cy a1 a2 1490 i [] I2 J2) : Ld p l e s m below meth c b D cy a1 a2 1394 i [] I J := by
  obtain ⟨r, I2, J2, d1, d2, dx, dm, cx, cm, hR2, v, rfl⟩ := k_signs hR (ag xs i 1) (ag xs i 2) (ag xs i 3) (ag xs i 4)
  refine l_a1 (pc := 1394) X (dd dtLw20 34 rfl) ?_
  refine l_arg (pc := 1395) (k := 1) X (dd dtLw20 35 rfl) (dd dtLw20 36 rfl) (dd dtLw20 37 rfl) (dd dtLw20 38 rfl) (dd dtLw20 39 rfl) (by decide) (hin 1 (by decide)) ?_
  refine l_arg (pc := 1400) (k := 2) X (dd dtLw20 40 rfl) (dd dtLw20 41 rfl) (dd dtLw20 42 rfl) (dd dtLw20 43 rfl) (dd dtLw20 44 rfl) (by decide) (hin 2 (by decide)) ?_
  refine l_arg (pc := 1405) (k := 3) X (dd dtLw20 45 rfl) (dd dtLw20 46 rfl) (dd dtLw20 47 rfl) (dd dtLw21 0 rfl) (dd dtLw21 1 rfl) (by decide) (hin 3 (by decide)) ?_
  refine l_arg (pc := 1410) (k := 4) X (dd dtLw21 2 rfl) (dd dtLw21 3 rfl) (dd dtLw21 4 rfl) (dd dtLw21 5 rfl) (dd dtLw21 6 rfl) (by decide) (hin 4 (by decide)) ?_
  refine l_cx (pc := 1415) X (dd dtLw21 7 rfl) mlL_169 mvX10_signs miX10_signs rfl cx dx rfl rfl rfl rfl (Nat.le_of_ble_eq_true rfl) ?_
  refine l_a2 (pc := 1418) X (dd dtLw21 8 rfl) ?_
  refine l_arg (pc := 1419) (k := 1) X (dd dtLw21 9 rfl) (dd dtLw21 10 rfl) (dd dtLw21 11 rfl) (dd dtLw21 12 rfl) (dd dtLw21 13 rfl) (by decide) (hin 1 (by decide)) ?_
  refine l_arg (pc := 1424) (k := 2) X (dd dtLw21 14 rfl) (dd dtLw21 15 rfl) (dd dtLw21 16 rfl) (dd dtLw21 17 rfl) (dd dtLw21 18 rfl) (by decide) (hin 2 (by decide)) ?_
  refine l_arg (pc := 1429) (k := 3) X (dd dtLw21 19 rfl) (dd dtLw21 20 rfl) (dd dtLw21 21 rfl) (dd dtLw21 22 rfl) (dd dtLw21 23 rfl) (by decide) (hin 3 (by decide)) ?_
  refine l_arg (pc := 1434) (k := 4) X (dd dtLw21 24 rfl) (dd dtLw21 25 rfl) (dd dtLw21 26 rfl) (dd dtLw21 27 rfl) (dd dtLw21 28 rfl) (by decide) (hin 4 (by decide)) ?_
  refine l_cm (pc := 1439) X (dd dtLw21 29 rfl) mlL_173 mvX11_signs miX11_signs rfl cm dm rfl rfl rfl rfl (Nat.le_of_ble_eq_true rfl) ?_
  refine l_eq (pc := 1442) (tgt := 1490) X (dd dtLw21 30 rfl) (by decide) ?_
  exact kk _ _ hR2
theorem lc_37 (X : LX p s m meth c b L xs D cy a1 a2) (hin : ∀ k, k < 6 → vp_in (i + nI k) L) (hR : Rel I J) (kk : ∀ I2 J2, Rel I2 J2 → Ld p l e s m below meth c b D cy a1 a2 1490 i [] I2 J2) : Ld p l e s m below meth c b D cy a1 a2 1447 i [] I J := by
  obtain ⟨r, I2, J2, d1, d2, dx, dm, cx, cm, hR2, v, rfl⟩ := k_taken hR (ag xs i 1) (ag xs i 2) (ag xs i 3)
  refine l_a1 (pc := 1447) X (dd dtLw21 33 rfl) ?_
  refine l_arg (pc := 1448) (k := 1) X (dd dtLw21 34 rfl) (dd dtLw21 35 rfl) (dd dtLw21 36 rfl) (dd dtLw21 37 rfl) (dd dtLw21 38 rfl) (by decide) (hin 1 (by decide)) ?_
  refine l_arg (pc := 1453) (k := 2) X (dd dtLw21 39 rfl) (dd dtLw21 40 rfl) (dd dtLw21 41 rfl) (dd dtLw21 42 rfl) (dd dtLw21 43 rfl) (by decide) (hin 2 (by decide)) ?_
  refine l_arg (pc := 1458) (k := 3) X (dd dtLw21 44 rfl) (dd dtLw21 45 rfl) (dd dtLw21 46 rfl) (dd dtLw21 47 rfl) (dd dtLw22 0 rfl) (by decide) (hin 3 (by decide)) ?_
  refine l_cx (pc := 1463) X (dd dtLw22 1 rfl) mlL_174 mvX10_taken miX10_taken rfl cx dx rfl rfl rfl rfl (Nat.le_of_ble_eq_true rfl) ?_
  refine l_a2 (pc := 1466) X (dd dtLw22 2 rfl) ?_
  refine l_arg (pc := 1467) (k := 1) X (dd dtLw22 3 rfl) (dd dtLw22 4 rfl) (dd dtLw22 5 rfl) (dd dtLw22 6 rfl) (dd dtLw22 7 rfl) (by decide) (hin 1 (by decide)) ?_
  refine l_arg (pc := 1472) (k := 2) X (dd dtLw22 8 rfl) (dd dtLw22 9 rfl) (dd dtLw22 10 rfl) (dd dtLw22 11 rfl) (dd dtLw22 12 rfl) (by decide) (hin 2 (by decide)) ?_
  refine l_arg (pc := 1477) (k := 3) X (dd dtLw22 13 rfl) (dd dtLw22 14 rfl) (dd dtLw22 15 rfl) (dd dtLw22 16 rfl) (dd dtLw22 17 rfl) (by decide) (hin 3 (by decide)) ?_
  refine l_cm (pc := 1482) X (dd dtLw22 18 rfl) mlL_177 mvX11_taken miX11_taken rfl cm dm rfl rfl rfl rfl (Nat.le_of_ble_eq_true rfl) ?_
  refine l_eq (pc := 1485) (tgt := 1490) X (dd dtLw22 19 rfl) (by decide) ?_
  exact kk _ _ hR2
end LC
