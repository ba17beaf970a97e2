/-! the reference's step, whole -/
theorem mk_n {x : Int32} (h1 : ¬ x = 40) (h2 : ¬ x = 41) (h3 : ¬ x = 59) (h4 : ¬ x = 43) (h5 : ¬ x = 45) (h6 : ¬ x = 42) (h7 : ¬ x = 60) (h8 : ¬ x = 61) : ¬ mkP x := fun q => q.elim h1 (fun q => q.elim h2 (fun q => q.elim h3 (fun q => q.elim h4 (fun q => q.elim h5 (fun q => q.elim h6 (fun q => q.elim h7 h8))))))
theorem MTk.oth {b mb : Nat → Int32} {n : Nat} {kd nm pl : Nat → Int32} {T : Nat} {W W' : Wd} {t p e : Nat} (hp : p < n) (hst : isSt b p) (ht : cnt b p = t) (hlt : t < T) (hpl : pl t = nI p) (hE : RE b n p e) (hn1 : ¬ inR (b p) 97 122) (hn2 : ¬ inR (b p) 48 57) (h54 : W' 0 54 = nI p) (h52 : W' 0 52 = nI (p + 1)) (hmt : MT (kd t) (nm t) (W' 0 53) (W' 0 55)) : MTk b n kd nm pl T W' t := by
  have he : e = p + 1 := by
    have h1 := hE.1
    apply Classical.byContradiction
    intro q
    have g := hE.2.2.1 (p + 1) (by omega) (by omega)
    rw [show p + 1 - 1 = p by omega] at g
    rcases g with g | g
    · exact hn1 g.1
    · exact hn2 g.1
  subst he
  exact ⟨Nat.le_of_lt hlt, fun _ => ⟨by rw [h54, hpl], hmt, p + 1, h52, hE.2.1, RE_bnd hE, by rw [hE.cnt hst, ht]⟩, fun q => absurd q (by omega)⟩
set_option maxHeartbeats 4000000 in
theorem p_step_end {J0 : Wd} {ba n : Nat} {b mb kd nm pl : Nat → Int32} {T : Nat} (hM : MB J0 ba n mb) (hBR : ∀ i, i < n → BRel (b i) (mb i)) (hT : TokOK b n kd nm pl T) {t : Nat} {W : Wd} (hF : Fr4 J0 W) (hP : PS b n W n t) : BdQ SyM mX11_step 3 39 [(0, .ref 0)] [] W (fun r J' => r = none ∧ Fr4 J0 J' ∧ MTk b n kd nm pl T J' t) := by
  refine BdQ.l (fun _ _ k => b_aload_n (pc := 39) (i := 0) (dd dtX11_step 19 rfl) rfl rfl k) ?_
  refine BdQ.l (fun _ _ k => b_aload_n (pc := 40) (i := 0) (dd dtX11_step 20 rfl) rfl rfl k) ?_
  refine BdQ.l (fun _ _ k => b_geti (pc := 41) (dd dtX11_step 21 rfl) fwX11_173 pM_0 k) ?_
  refine BdQ.l (fun _ _ k => b_puti (pc := 44) (dd dtX11_step 22 rfl) fwX11_179 pM_0 k) ?_
  refine BdQ.l (fun _ _ k => b_aload_n (pc := 47) (i := 0) (dd dtX11_step 23 rfl) rfl rfl k) ?_
  refine BdQ.l (fun _ _ k => b_aload_n (pc := 48) (i := 0) (dd dtX11_step 24 rfl) rfl rfl k) ?_
  refine BdQ.l (fun _ _ k => b_geti (pc := 49) (dd dtX11_step 25 rfl) fwX11_173 pM_0 k) ?_
  refine BdQ.l (fun _ _ k => b_invV (pc := 52) (dd dtX11_step 26 rfl) mlX11_331 mvX11_byteAt miX11_byteAt (c_X11_byteAt (hM.fr (hF.p (by decide))) (by rw [ist_eq, upd_ne (by decide)]; exact hP.1) (Nat.le_refl n)) oM_0 rfl rfl (by decide) (Nat.le_of_ble_eq_true rfl) k) ?_
  refine BdQ.l (fun _ _ k => b_istore_n (pc := 55) (i := 1) (lv' := [(1, _), (0, _)]) (dd dtX11_step 27 rfl) rfl (Nat.le_of_ble_eq_true rfl) rfl k) ?_
  refine BdQ.l (fun _ _ k => b_aload_n (pc := 56) (i := 0) (dd dtX11_step 28 rfl) rfl rfl k) ?_
  refine BdQ.l (fun _ _ k => b_geti (pc := 57) (dd dtX11_step 29 rfl) fwX11_173 pM_0 k) ?_
  refine BdQ.l (fun _ _ k => b_aload_n (pc := 60) (i := 0) (dd dtX11_step 30 rfl) rfl rfl k) ?_
  refine BdQ.l (fun _ _ k => b_geti (pc := 61) (dd dtX11_step 31 rfl) fwX11_170 pM_0 k) ?_
  rw [ist_eq, upd_ne (show (52 : Nat) ≠ 54 by decide), upd_ne (show (51 : Nat) ≠ 54 by decide), hP.1, (hM.fr hF).2.1]
  refine BdQ.c (fun _ _ k1 k2 => b_icmp_ne (pc := 64) (tgt := 75) (dd dtX11_step 32 rfl) (by decide) k1 k2) (fun h64 => ?_) (fun h64 => ?_)
  · exact absurd rfl h64
  · refine BdQ.l (fun _ _ k => b_aload_n (pc := 67) (i := 0) (dd dtX11_step 33 rfl) rfl rfl k) ?_
    refine BdQ.l (fun _ _ k => b_ic0 (pc := 68) (dd dtX11_step 34 rfl) k) ?_
    refine BdQ.l (fun _ _ k => b_puti (pc := 69) (dd dtX11_step 35 rfl) fwX11_176 pM_0 k) ?_
    refine BdQ.l (fun _ _ k => b_goto (pc := 72) (tgt := 383) (dd dtX11_step 36 rfl) (by decide) k) ?_
    refine ⟨_, _, ?_, b_vret (dd dtX11_step 197 rfl) rfl⟩
    refine ⟨rfl, (hF.p (by decide)).p (by decide), ?_, fun q => ?_, fun _ => ⟨?_, ?_⟩⟩
    · rw [← hP.2.2.2, hT.1]; exact Nat.le_refl _
    · exfalso; rw [← hP.2.2.2, hT.1] at q; exact Nat.lt_irrefl _ q
    · rw [ist_eq, upd_eq]
    · rw [ist_eq, upd_ne (by decide), ist_eq, upd_eq]
set_option maxHeartbeats 4000000 in
theorem p_step_in {J0 : Wd} {ba n : Nat} {b mb kd nm pl : Nat → Int32} {T : Nat} (hM : MB J0 ba n mb) (hBR : ∀ i, i < n → BRel (b i) (mb i)) (hT : TokOK b n kd nm pl T) {t p : Nat} {W : Wd} (hF : Fr4 J0 W) (hP : PS b n W p t) (hp : p < n) (hst : isSt b p) : BdQ SyM mX11_step 3 39 [(0, .ref 0)] [] W (fun r J' => r = none ∧ Fr4 J0 J' ∧ MTk b n kd nm pl T J' t) := by
  have h3 := hM.2.2.2.1
  have ht := hP.2.2.2
  obtain ⟨q1, e, hE, hKind⟩ := hT.2 p hp hst
  have hpl : pl t = nI p := by rw [← ht]; exact q1
  have hlt : t < T := by
    rw [← ht, hT.1]
    have a1 := cnt_y hst
    have a2 := cnt_mono (b := b) (show p + 1 ≤ n by omega)
    omega
  rw [ht] at hKind
  have hb := hBR p hp
  refine BdQ.l (fun _ _ k => b_aload_n (pc := 39) (i := 0) (dd dtX11_step 19 rfl) rfl rfl k) ?_
  refine BdQ.l (fun _ _ k => b_aload_n (pc := 40) (i := 0) (dd dtX11_step 20 rfl) rfl rfl k) ?_
  refine BdQ.l (fun _ _ k => b_geti (pc := 41) (dd dtX11_step 21 rfl) fwX11_173 pM_0 k) ?_
  refine BdQ.l (fun _ _ k => b_puti (pc := 44) (dd dtX11_step 22 rfl) fwX11_179 pM_0 k) ?_
  refine BdQ.l (fun _ _ k => b_aload_n (pc := 47) (i := 0) (dd dtX11_step 23 rfl) rfl rfl k) ?_
  refine BdQ.l (fun _ _ k => b_aload_n (pc := 48) (i := 0) (dd dtX11_step 24 rfl) rfl rfl k) ?_
  refine BdQ.l (fun _ _ k => b_geti (pc := 49) (dd dtX11_step 25 rfl) fwX11_173 pM_0 k) ?_
  refine BdQ.l (fun _ _ k => b_invV (pc := 52) (dd dtX11_step 26 rfl) mlX11_331 mvX11_byteAt miX11_byteAt (c_X11_byteAt (hM.fr (hF.p (by decide))) (by rw [ist_eq, upd_ne (by decide)]; exact hP.1) (Nat.le_of_lt hp)) oM_0 rfl rfl (by decide) (Nat.le_of_ble_eq_true rfl) k) ?_
  refine BdQ.l (fun _ _ k => b_istore_n (pc := 55) (i := 1) (lv' := [(1, _), (0, _)]) (dd dtX11_step 27 rfl) rfl (Nat.le_of_ble_eq_true rfl) rfl k) ?_
  refine BdQ.l (fun _ _ k => b_aload_n (pc := 56) (i := 0) (dd dtX11_step 28 rfl) rfl rfl k) ?_
  refine BdQ.l (fun _ _ k => b_geti (pc := 57) (dd dtX11_step 29 rfl) fwX11_173 pM_0 k) ?_
  refine BdQ.l (fun _ _ k => b_aload_n (pc := 60) (i := 0) (dd dtX11_step 30 rfl) rfl rfl k) ?_
  refine BdQ.l (fun _ _ k => b_geti (pc := 61) (dd dtX11_step 31 rfl) fwX11_170 pM_0 k) ?_
  rw [ist_eq, upd_ne (show (52 : Nat) ≠ 54 by decide), upd_ne (show (51 : Nat) ≠ 54 by decide), hP.1, (hM.fr hF).2.1]
  refine BdQ.c (fun _ _ k1 k2 => b_icmp_ne (pc := 64) (tgt := 75) (dd dtX11_step 32 rfl) (by decide) k1 k2) (fun h64 => ?_) (fun h64 => ?_)
  · refine BdQ.l (fun _ _ k => b_aload_n (pc := 75) (i := 0) (dd dtX11_step 37 rfl) rfl rfl k) ?_
    refine BdQ.l (fun _ _ k => b_iload_n (pc := 76) (i := 1) (dd dtX11_step 38 rfl) rfl rfl k) ?_
    refine BdQ.l (fun _ _ k => b_invV (pc := 77) (dd dtX11_step 39 rfl) mlX11_334 mvX11_isLetter miX11_isLetter (c_X11_isLetter) oM_0 rfl rfl (by decide) (Nat.le_of_ble_eq_true rfl) k) ?_
    refine BdQ.c (fun _ _ k1 k2 => b_ifb_eq (pc := 80) (tgt := 204) (dd dtX11_step 40 rfl) (by decide) k1 k2) (fun h80 => ?_) (fun h80 => ?_)
    · refine BdQ.l (fun _ _ k => b_aload_n (pc := 204) (i := 0) (dd dtX11_step 102 rfl) rfl rfl k) ?_
      refine BdQ.l (fun _ _ k => b_iload_n (pc := 205) (i := 1) (dd dtX11_step 103 rfl) rfl rfl k) ?_
      refine BdQ.l (fun _ _ k => b_invV (pc := 206) (dd dtX11_step 104 rfl) mlX11_347 mvX11_isDigit miX11_isDigit (c_X11_isDigit) oM_0 rfl rfl (by decide) (Nat.le_of_ble_eq_true rfl) k) ?_
      refine BdQ.c (fun _ _ k1 k2 => b_ifb_eq (pc := 209) (tgt := 306) (dd dtX11_step 105 rfl) (by decide) k1 k2) (fun h209 => ?_) (fun h209 => ?_)
      · have hn1 : ¬ inR (b p) 97 122 := fun z => h80 ((br_r hb (by decide) (by decide)).mpr z)
        have hn2 : ¬ inR (b p) 48 57 := fun z => h209 ((br_r hb (by decide) (by decide)).mpr z)
        have hk : kd t = if mkP (b p) then b p else 1 := by
          rcases hKind with z | z | z
          · exact absurd z.1 hn1
          · exact absurd z.2.1 hn2
          · exact z.2.2
        refine BdQ.l (fun _ _ k => b_iload_n (pc := 306) (i := 1) (dd dtX11_step 156 rfl) rfl rfl k) ?_
        refine BdQ.l (fun _ _ k => b_bipush (pc := 307) (v := 40) (dd dtX11_step 157 rfl) (by decide) k) ?_
        refine BdQ.b (fun _ _ k1 k2 => b_icmp_eq (pc := 309) (tgt := 354) (dd dtX11_step 158 rfl) (by decide) k1 k2) (fun h309 => ?_) (fun h309 => ?_)
        · refine BdQ.l (fun _ _ k => b_ic1 (pc := 354) (dd dtX11_step 180 rfl) k) ?_
          refine BdQ.l (fun _ _ k => b_goto (pc := 355) (tgt := 359) (dd dtX11_step 181 rfl) (by decide) k) ?_
          refine BdQ.l (fun _ _ k => b_istore_n (pc := 359) (i := 2) (lv' := [(2, _), (1, _), (0, _)]) (dd dtX11_step 183 rfl) rfl (Nat.le_of_ble_eq_true rfl) rfl k) ?_
          refine BdQ.l (fun _ _ k => b_aload_n (pc := 360) (i := 0) (dd dtX11_step 184 rfl) rfl rfl k) ?_
          refine BdQ.l (fun _ _ k => b_iload_n (pc := 361) (i := 2) (dd dtX11_step 185 rfl) rfl rfl k) ?_
          refine BdQ.l (fun _ _ k => b_if_eq (pc := 362) (tgt := 369) (dd dtX11_step 186 rfl) (by decide) (fun h362 => absurd h362 (by decide)) (fun _ => k)) ?_
          refine BdQ.l (fun _ _ k => b_iload_n (pc := 365) (i := 1) (dd dtX11_step 187 rfl) rfl rfl k) ?_
          refine BdQ.l (fun _ _ k => b_goto (pc := 366) (tgt := 370) (dd dtX11_step 188 rfl) (by decide) k) ?_
          refine BdQ.l (fun _ _ k => b_puti (pc := 370) (dd dtX11_step 190 rfl) fwX11_176 pM_0 k) ?_
          refine BdQ.l (fun _ _ k => b_aload_n (pc := 373) (i := 0) (dd dtX11_step 191 rfl) rfl rfl k) ?_
          refine BdQ.l (fun _ _ k => b_dup (pc := 374) (dd dtX11_step 192 rfl) rfl k) ?_
          refine BdQ.l (fun _ _ k => b_geti (pc := 375) (dd dtX11_step 193 rfl) fwX11_173 pM_0 k) ?_
          refine BdQ.l (fun _ _ k => b_ic1 (pc := 378) (dd dtX11_step 194 rfl) k) ?_
          refine BdQ.l (fun _ _ k => b_iadd (pc := 379) (dd dtX11_step 195 rfl) k) ?_
          refine BdQ.l (fun _ _ k => b_puti (pc := 380) (dd dtX11_step 196 rfl) fwX11_173 pM_0 k) ?_
          refine ⟨_, _, ?_, b_vret (dd dtX11_step 197 rfl) rfl⟩
          refine ⟨rfl, ((hF.p (by decide)).p (by decide)).p (by decide), MTk.oth (mb := mb) (W := W) hp hst ht hlt hpl hE hn1 hn2 ?_ ?_ ?_⟩
          · rw [ist_eq, upd_ne (by decide), ist_eq, upd_ne (by decide), ist_eq, upd_eq]
          · rw [ist_eq, upd_eq, ist_eq, upd_ne (by decide), ist_eq, upd_ne (by decide), hP.1, nI_1]
          · rw [ist_eq, upd_ne (show (53 : Nat) ≠ 52 by decide), upd_ne (show (55 : Nat) ≠ 52 by decide), ist_eq, upd_eq]
            have MTz : (mkP (mb p) → ∀ v, MT (kd t) (nm t) (mb p) v) ∧ (¬ mkP (mb p) → ∀ v, MT (kd t) (nm t) (-1) v) := by
              refine ⟨fun hm v => ?_, fun hm v => ?_⟩
              · have hm2 := (br_m hb).mp hm
                rw [if_pos hm2] at hk
                rw [mk_v hb hm2, hk]
                exact Or.inr (Or.inr (Or.inr (Or.inr ⟨hm2, rfl⟩)))
              · rw [if_neg (fun z => hm ((br_m hb).mpr z))] at hk
                exact Or.inl ⟨hk, rfl⟩
            first
              | (have hm : mkP (mb p) := Or.inl h309
                 exact MTz.1 hm _)
              | (have hm : mkP (mb p) := Or.inr (Or.inl h315)
                 exact MTz.1 hm _)
              | (have hm : mkP (mb p) := Or.inr (Or.inr (Or.inl h321))
                 exact MTz.1 hm _)
              | (have hm : mkP (mb p) := Or.inr (Or.inr (Or.inr (Or.inl h327)))
                 exact MTz.1 hm _)
              | (have hm : mkP (mb p) := Or.inr (Or.inr (Or.inr (Or.inr (Or.inl h333))))
                 exact MTz.1 hm _)
              | (have hm : mkP (mb p) := Or.inr (Or.inr (Or.inr (Or.inr (Or.inr (Or.inl h339)))))
                 exact MTz.1 hm _)
              | (have hm : mkP (mb p) := Or.inr (Or.inr (Or.inr (Or.inr (Or.inr (Or.inr (Or.inl h345))))))
                 exact MTz.1 hm _)
              | (have hm : mkP (mb p) := Or.inr (Or.inr (Or.inr (Or.inr (Or.inr (Or.inr (Or.inr h351))))))
                 exact MTz.1 hm _)
              | exact MTz.2 (mk_n h309 h315 h321 h327 h333 h339 h345 h351) _
        · refine BdQ.l (fun _ _ k => b_iload_n (pc := 312) (i := 1) (dd dtX11_step 159 rfl) rfl rfl k) ?_
          refine BdQ.l (fun _ _ k => b_bipush (pc := 313) (v := 41) (dd dtX11_step 160 rfl) (by decide) k) ?_
          refine BdQ.b (fun _ _ k1 k2 => b_icmp_eq (pc := 315) (tgt := 354) (dd dtX11_step 161 rfl) (by decide) k1 k2) (fun h315 => ?_) (fun h315 => ?_)
          · refine BdQ.l (fun _ _ k => b_ic1 (pc := 354) (dd dtX11_step 180 rfl) k) ?_
            refine BdQ.l (fun _ _ k => b_goto (pc := 355) (tgt := 359) (dd dtX11_step 181 rfl) (by decide) k) ?_
            refine BdQ.l (fun _ _ k => b_istore_n (pc := 359) (i := 2) (lv' := [(2, _), (1, _), (0, _)]) (dd dtX11_step 183 rfl) rfl (Nat.le_of_ble_eq_true rfl) rfl k) ?_
            refine BdQ.l (fun _ _ k => b_aload_n (pc := 360) (i := 0) (dd dtX11_step 184 rfl) rfl rfl k) ?_
            refine BdQ.l (fun _ _ k => b_iload_n (pc := 361) (i := 2) (dd dtX11_step 185 rfl) rfl rfl k) ?_
            refine BdQ.l (fun _ _ k => b_if_eq (pc := 362) (tgt := 369) (dd dtX11_step 186 rfl) (by decide) (fun h362 => absurd h362 (by decide)) (fun _ => k)) ?_
            refine BdQ.l (fun _ _ k => b_iload_n (pc := 365) (i := 1) (dd dtX11_step 187 rfl) rfl rfl k) ?_
            refine BdQ.l (fun _ _ k => b_goto (pc := 366) (tgt := 370) (dd dtX11_step 188 rfl) (by decide) k) ?_
            refine BdQ.l (fun _ _ k => b_puti (pc := 370) (dd dtX11_step 190 rfl) fwX11_176 pM_0 k) ?_
            refine BdQ.l (fun _ _ k => b_aload_n (pc := 373) (i := 0) (dd dtX11_step 191 rfl) rfl rfl k) ?_
            refine BdQ.l (fun _ _ k => b_dup (pc := 374) (dd dtX11_step 192 rfl) rfl k) ?_
            refine BdQ.l (fun _ _ k => b_geti (pc := 375) (dd dtX11_step 193 rfl) fwX11_173 pM_0 k) ?_
            refine BdQ.l (fun _ _ k => b_ic1 (pc := 378) (dd dtX11_step 194 rfl) k) ?_
            refine BdQ.l (fun _ _ k => b_iadd (pc := 379) (dd dtX11_step 195 rfl) k) ?_
            refine BdQ.l (fun _ _ k => b_puti (pc := 380) (dd dtX11_step 196 rfl) fwX11_173 pM_0 k) ?_
            refine ⟨_, _, ?_, b_vret (dd dtX11_step 197 rfl) rfl⟩
            refine ⟨rfl, ((hF.p (by decide)).p (by decide)).p (by decide), MTk.oth (mb := mb) (W := W) hp hst ht hlt hpl hE hn1 hn2 ?_ ?_ ?_⟩
            · rw [ist_eq, upd_ne (by decide), ist_eq, upd_ne (by decide), ist_eq, upd_eq]
            · rw [ist_eq, upd_eq, ist_eq, upd_ne (by decide), ist_eq, upd_ne (by decide), hP.1, nI_1]
            · rw [ist_eq, upd_ne (show (53 : Nat) ≠ 52 by decide), upd_ne (show (55 : Nat) ≠ 52 by decide), ist_eq, upd_eq]
              have MTz : (mkP (mb p) → ∀ v, MT (kd t) (nm t) (mb p) v) ∧ (¬ mkP (mb p) → ∀ v, MT (kd t) (nm t) (-1) v) := by
                refine ⟨fun hm v => ?_, fun hm v => ?_⟩
                · have hm2 := (br_m hb).mp hm
                  rw [if_pos hm2] at hk
                  rw [mk_v hb hm2, hk]
                  exact Or.inr (Or.inr (Or.inr (Or.inr ⟨hm2, rfl⟩)))
                · rw [if_neg (fun z => hm ((br_m hb).mpr z))] at hk
                  exact Or.inl ⟨hk, rfl⟩
              first
                | (have hm : mkP (mb p) := Or.inl h309
                   exact MTz.1 hm _)
                | (have hm : mkP (mb p) := Or.inr (Or.inl h315)
                   exact MTz.1 hm _)
                | (have hm : mkP (mb p) := Or.inr (Or.inr (Or.inl h321))
                   exact MTz.1 hm _)
                | (have hm : mkP (mb p) := Or.inr (Or.inr (Or.inr (Or.inl h327)))
                   exact MTz.1 hm _)
                | (have hm : mkP (mb p) := Or.inr (Or.inr (Or.inr (Or.inr (Or.inl h333))))
                   exact MTz.1 hm _)
                | (have hm : mkP (mb p) := Or.inr (Or.inr (Or.inr (Or.inr (Or.inr (Or.inl h339)))))
                   exact MTz.1 hm _)
                | (have hm : mkP (mb p) := Or.inr (Or.inr (Or.inr (Or.inr (Or.inr (Or.inr (Or.inl h345))))))
                   exact MTz.1 hm _)
                | (have hm : mkP (mb p) := Or.inr (Or.inr (Or.inr (Or.inr (Or.inr (Or.inr (Or.inr h351))))))
                   exact MTz.1 hm _)
                | exact MTz.2 (mk_n h309 h315 h321 h327 h333 h339 h345 h351) _
          · refine BdQ.l (fun _ _ k => b_iload_n (pc := 318) (i := 1) (dd dtX11_step 162 rfl) rfl rfl k) ?_
            refine BdQ.l (fun _ _ k => b_bipush (pc := 319) (v := 59) (dd dtX11_step 163 rfl) (by decide) k) ?_
            refine BdQ.b (fun _ _ k1 k2 => b_icmp_eq (pc := 321) (tgt := 354) (dd dtX11_step 164 rfl) (by decide) k1 k2) (fun h321 => ?_) (fun h321 => ?_)
            · refine BdQ.l (fun _ _ k => b_ic1 (pc := 354) (dd dtX11_step 180 rfl) k) ?_
              refine BdQ.l (fun _ _ k => b_goto (pc := 355) (tgt := 359) (dd dtX11_step 181 rfl) (by decide) k) ?_
              refine BdQ.l (fun _ _ k => b_istore_n (pc := 359) (i := 2) (lv' := [(2, _), (1, _), (0, _)]) (dd dtX11_step 183 rfl) rfl (Nat.le_of_ble_eq_true rfl) rfl k) ?_
              refine BdQ.l (fun _ _ k => b_aload_n (pc := 360) (i := 0) (dd dtX11_step 184 rfl) rfl rfl k) ?_
              refine BdQ.l (fun _ _ k => b_iload_n (pc := 361) (i := 2) (dd dtX11_step 185 rfl) rfl rfl k) ?_
              refine BdQ.l (fun _ _ k => b_if_eq (pc := 362) (tgt := 369) (dd dtX11_step 186 rfl) (by decide) (fun h362 => absurd h362 (by decide)) (fun _ => k)) ?_
              refine BdQ.l (fun _ _ k => b_iload_n (pc := 365) (i := 1) (dd dtX11_step 187 rfl) rfl rfl k) ?_
              refine BdQ.l (fun _ _ k => b_goto (pc := 366) (tgt := 370) (dd dtX11_step 188 rfl) (by decide) k) ?_
              refine BdQ.l (fun _ _ k => b_puti (pc := 370) (dd dtX11_step 190 rfl) fwX11_176 pM_0 k) ?_
              refine BdQ.l (fun _ _ k => b_aload_n (pc := 373) (i := 0) (dd dtX11_step 191 rfl) rfl rfl k) ?_
              refine BdQ.l (fun _ _ k => b_dup (pc := 374) (dd dtX11_step 192 rfl) rfl k) ?_
              refine BdQ.l (fun _ _ k => b_geti (pc := 375) (dd dtX11_step 193 rfl) fwX11_173 pM_0 k) ?_
              refine BdQ.l (fun _ _ k => b_ic1 (pc := 378) (dd dtX11_step 194 rfl) k) ?_
              refine BdQ.l (fun _ _ k => b_iadd (pc := 379) (dd dtX11_step 195 rfl) k) ?_
              refine BdQ.l (fun _ _ k => b_puti (pc := 380) (dd dtX11_step 196 rfl) fwX11_173 pM_0 k) ?_
              refine ⟨_, _, ?_, b_vret (dd dtX11_step 197 rfl) rfl⟩
              refine ⟨rfl, ((hF.p (by decide)).p (by decide)).p (by decide), MTk.oth (mb := mb) (W := W) hp hst ht hlt hpl hE hn1 hn2 ?_ ?_ ?_⟩
              · rw [ist_eq, upd_ne (by decide), ist_eq, upd_ne (by decide), ist_eq, upd_eq]
              · rw [ist_eq, upd_eq, ist_eq, upd_ne (by decide), ist_eq, upd_ne (by decide), hP.1, nI_1]
              · rw [ist_eq, upd_ne (show (53 : Nat) ≠ 52 by decide), upd_ne (show (55 : Nat) ≠ 52 by decide), ist_eq, upd_eq]
                have MTz : (mkP (mb p) → ∀ v, MT (kd t) (nm t) (mb p) v) ∧ (¬ mkP (mb p) → ∀ v, MT (kd t) (nm t) (-1) v) := by
                  refine ⟨fun hm v => ?_, fun hm v => ?_⟩
                  · have hm2 := (br_m hb).mp hm
                    rw [if_pos hm2] at hk
                    rw [mk_v hb hm2, hk]
                    exact Or.inr (Or.inr (Or.inr (Or.inr ⟨hm2, rfl⟩)))
                  · rw [if_neg (fun z => hm ((br_m hb).mpr z))] at hk
                    exact Or.inl ⟨hk, rfl⟩
                first
                  | (have hm : mkP (mb p) := Or.inl h309
                     exact MTz.1 hm _)
                  | (have hm : mkP (mb p) := Or.inr (Or.inl h315)
                     exact MTz.1 hm _)
                  | (have hm : mkP (mb p) := Or.inr (Or.inr (Or.inl h321))
                     exact MTz.1 hm _)
                  | (have hm : mkP (mb p) := Or.inr (Or.inr (Or.inr (Or.inl h327)))
                     exact MTz.1 hm _)
                  | (have hm : mkP (mb p) := Or.inr (Or.inr (Or.inr (Or.inr (Or.inl h333))))
                     exact MTz.1 hm _)
                  | (have hm : mkP (mb p) := Or.inr (Or.inr (Or.inr (Or.inr (Or.inr (Or.inl h339)))))
                     exact MTz.1 hm _)
                  | (have hm : mkP (mb p) := Or.inr (Or.inr (Or.inr (Or.inr (Or.inr (Or.inr (Or.inl h345))))))
                     exact MTz.1 hm _)
                  | (have hm : mkP (mb p) := Or.inr (Or.inr (Or.inr (Or.inr (Or.inr (Or.inr (Or.inr h351))))))
                     exact MTz.1 hm _)
                  | exact MTz.2 (mk_n h309 h315 h321 h327 h333 h339 h345 h351) _
            · refine BdQ.l (fun _ _ k => b_iload_n (pc := 324) (i := 1) (dd dtX11_step 165 rfl) rfl rfl k) ?_
              refine BdQ.l (fun _ _ k => b_bipush (pc := 325) (v := 43) (dd dtX11_step 166 rfl) (by decide) k) ?_
              refine BdQ.b (fun _ _ k1 k2 => b_icmp_eq (pc := 327) (tgt := 354) (dd dtX11_step 167 rfl) (by decide) k1 k2) (fun h327 => ?_) (fun h327 => ?_)
              · refine BdQ.l (fun _ _ k => b_ic1 (pc := 354) (dd dtX11_step 180 rfl) k) ?_
                refine BdQ.l (fun _ _ k => b_goto (pc := 355) (tgt := 359) (dd dtX11_step 181 rfl) (by decide) k) ?_
                refine BdQ.l (fun _ _ k => b_istore_n (pc := 359) (i := 2) (lv' := [(2, _), (1, _), (0, _)]) (dd dtX11_step 183 rfl) rfl (Nat.le_of_ble_eq_true rfl) rfl k) ?_
                refine BdQ.l (fun _ _ k => b_aload_n (pc := 360) (i := 0) (dd dtX11_step 184 rfl) rfl rfl k) ?_
                refine BdQ.l (fun _ _ k => b_iload_n (pc := 361) (i := 2) (dd dtX11_step 185 rfl) rfl rfl k) ?_
                refine BdQ.l (fun _ _ k => b_if_eq (pc := 362) (tgt := 369) (dd dtX11_step 186 rfl) (by decide) (fun h362 => absurd h362 (by decide)) (fun _ => k)) ?_
                refine BdQ.l (fun _ _ k => b_iload_n (pc := 365) (i := 1) (dd dtX11_step 187 rfl) rfl rfl k) ?_
                refine BdQ.l (fun _ _ k => b_goto (pc := 366) (tgt := 370) (dd dtX11_step 188 rfl) (by decide) k) ?_
                refine BdQ.l (fun _ _ k => b_puti (pc := 370) (dd dtX11_step 190 rfl) fwX11_176 pM_0 k) ?_
                refine BdQ.l (fun _ _ k => b_aload_n (pc := 373) (i := 0) (dd dtX11_step 191 rfl) rfl rfl k) ?_
                refine BdQ.l (fun _ _ k => b_dup (pc := 374) (dd dtX11_step 192 rfl) rfl k) ?_
                refine BdQ.l (fun _ _ k => b_geti (pc := 375) (dd dtX11_step 193 rfl) fwX11_173 pM_0 k) ?_
                refine BdQ.l (fun _ _ k => b_ic1 (pc := 378) (dd dtX11_step 194 rfl) k) ?_
                refine BdQ.l (fun _ _ k => b_iadd (pc := 379) (dd dtX11_step 195 rfl) k) ?_
                refine BdQ.l (fun _ _ k => b_puti (pc := 380) (dd dtX11_step 196 rfl) fwX11_173 pM_0 k) ?_
                refine ⟨_, _, ?_, b_vret (dd dtX11_step 197 rfl) rfl⟩
                refine ⟨rfl, ((hF.p (by decide)).p (by decide)).p (by decide), MTk.oth (mb := mb) (W := W) hp hst ht hlt hpl hE hn1 hn2 ?_ ?_ ?_⟩
                · rw [ist_eq, upd_ne (by decide), ist_eq, upd_ne (by decide), ist_eq, upd_eq]
                · rw [ist_eq, upd_eq, ist_eq, upd_ne (by decide), ist_eq, upd_ne (by decide), hP.1, nI_1]
                · rw [ist_eq, upd_ne (show (53 : Nat) ≠ 52 by decide), upd_ne (show (55 : Nat) ≠ 52 by decide), ist_eq, upd_eq]
                  have MTz : (mkP (mb p) → ∀ v, MT (kd t) (nm t) (mb p) v) ∧ (¬ mkP (mb p) → ∀ v, MT (kd t) (nm t) (-1) v) := by
                    refine ⟨fun hm v => ?_, fun hm v => ?_⟩
                    · have hm2 := (br_m hb).mp hm
                      rw [if_pos hm2] at hk
                      rw [mk_v hb hm2, hk]
                      exact Or.inr (Or.inr (Or.inr (Or.inr ⟨hm2, rfl⟩)))
                    · rw [if_neg (fun z => hm ((br_m hb).mpr z))] at hk
                      exact Or.inl ⟨hk, rfl⟩
                  first
                    | (have hm : mkP (mb p) := Or.inl h309
                       exact MTz.1 hm _)
                    | (have hm : mkP (mb p) := Or.inr (Or.inl h315)
                       exact MTz.1 hm _)
                    | (have hm : mkP (mb p) := Or.inr (Or.inr (Or.inl h321))
                       exact MTz.1 hm _)
                    | (have hm : mkP (mb p) := Or.inr (Or.inr (Or.inr (Or.inl h327)))
                       exact MTz.1 hm _)
                    | (have hm : mkP (mb p) := Or.inr (Or.inr (Or.inr (Or.inr (Or.inl h333))))
                       exact MTz.1 hm _)
                    | (have hm : mkP (mb p) := Or.inr (Or.inr (Or.inr (Or.inr (Or.inr (Or.inl h339)))))
                       exact MTz.1 hm _)
                    | (have hm : mkP (mb p) := Or.inr (Or.inr (Or.inr (Or.inr (Or.inr (Or.inr (Or.inl h345))))))
                       exact MTz.1 hm _)
                    | (have hm : mkP (mb p) := Or.inr (Or.inr (Or.inr (Or.inr (Or.inr (Or.inr (Or.inr h351))))))
                       exact MTz.1 hm _)
                    | exact MTz.2 (mk_n h309 h315 h321 h327 h333 h339 h345 h351) _
              · refine BdQ.l (fun _ _ k => b_iload_n (pc := 330) (i := 1) (dd dtX11_step 168 rfl) rfl rfl k) ?_
                refine BdQ.l (fun _ _ k => b_bipush (pc := 331) (v := 45) (dd dtX11_step 169 rfl) (by decide) k) ?_
                refine BdQ.b (fun _ _ k1 k2 => b_icmp_eq (pc := 333) (tgt := 354) (dd dtX11_step 170 rfl) (by decide) k1 k2) (fun h333 => ?_) (fun h333 => ?_)
                · refine BdQ.l (fun _ _ k => b_ic1 (pc := 354) (dd dtX11_step 180 rfl) k) ?_
                  refine BdQ.l (fun _ _ k => b_goto (pc := 355) (tgt := 359) (dd dtX11_step 181 rfl) (by decide) k) ?_
                  refine BdQ.l (fun _ _ k => b_istore_n (pc := 359) (i := 2) (lv' := [(2, _), (1, _), (0, _)]) (dd dtX11_step 183 rfl) rfl (Nat.le_of_ble_eq_true rfl) rfl k) ?_
                  refine BdQ.l (fun _ _ k => b_aload_n (pc := 360) (i := 0) (dd dtX11_step 184 rfl) rfl rfl k) ?_
                  refine BdQ.l (fun _ _ k => b_iload_n (pc := 361) (i := 2) (dd dtX11_step 185 rfl) rfl rfl k) ?_
                  refine BdQ.l (fun _ _ k => b_if_eq (pc := 362) (tgt := 369) (dd dtX11_step 186 rfl) (by decide) (fun h362 => absurd h362 (by decide)) (fun _ => k)) ?_
                  refine BdQ.l (fun _ _ k => b_iload_n (pc := 365) (i := 1) (dd dtX11_step 187 rfl) rfl rfl k) ?_
                  refine BdQ.l (fun _ _ k => b_goto (pc := 366) (tgt := 370) (dd dtX11_step 188 rfl) (by decide) k) ?_
                  refine BdQ.l (fun _ _ k => b_puti (pc := 370) (dd dtX11_step 190 rfl) fwX11_176 pM_0 k) ?_
                  refine BdQ.l (fun _ _ k => b_aload_n (pc := 373) (i := 0) (dd dtX11_step 191 rfl) rfl rfl k) ?_
                  refine BdQ.l (fun _ _ k => b_dup (pc := 374) (dd dtX11_step 192 rfl) rfl k) ?_
                  refine BdQ.l (fun _ _ k => b_geti (pc := 375) (dd dtX11_step 193 rfl) fwX11_173 pM_0 k) ?_
                  refine BdQ.l (fun _ _ k => b_ic1 (pc := 378) (dd dtX11_step 194 rfl) k) ?_
                  refine BdQ.l (fun _ _ k => b_iadd (pc := 379) (dd dtX11_step 195 rfl) k) ?_
                  refine BdQ.l (fun _ _ k => b_puti (pc := 380) (dd dtX11_step 196 rfl) fwX11_173 pM_0 k) ?_
                  refine ⟨_, _, ?_, b_vret (dd dtX11_step 197 rfl) rfl⟩
                  refine ⟨rfl, ((hF.p (by decide)).p (by decide)).p (by decide), MTk.oth (mb := mb) (W := W) hp hst ht hlt hpl hE hn1 hn2 ?_ ?_ ?_⟩
                  · rw [ist_eq, upd_ne (by decide), ist_eq, upd_ne (by decide), ist_eq, upd_eq]
                  · rw [ist_eq, upd_eq, ist_eq, upd_ne (by decide), ist_eq, upd_ne (by decide), hP.1, nI_1]
                  · rw [ist_eq, upd_ne (show (53 : Nat) ≠ 52 by decide), upd_ne (show (55 : Nat) ≠ 52 by decide), ist_eq, upd_eq]
                    have MTz : (mkP (mb p) → ∀ v, MT (kd t) (nm t) (mb p) v) ∧ (¬ mkP (mb p) → ∀ v, MT (kd t) (nm t) (-1) v) := by
                      refine ⟨fun hm v => ?_, fun hm v => ?_⟩
                      · have hm2 := (br_m hb).mp hm
                        rw [if_pos hm2] at hk
                        rw [mk_v hb hm2, hk]
                        exact Or.inr (Or.inr (Or.inr (Or.inr ⟨hm2, rfl⟩)))
                      · rw [if_neg (fun z => hm ((br_m hb).mpr z))] at hk
                        exact Or.inl ⟨hk, rfl⟩
                    first
                      | (have hm : mkP (mb p) := Or.inl h309
                         exact MTz.1 hm _)
                      | (have hm : mkP (mb p) := Or.inr (Or.inl h315)
                         exact MTz.1 hm _)
                      | (have hm : mkP (mb p) := Or.inr (Or.inr (Or.inl h321))
                         exact MTz.1 hm _)
                      | (have hm : mkP (mb p) := Or.inr (Or.inr (Or.inr (Or.inl h327)))
                         exact MTz.1 hm _)
                      | (have hm : mkP (mb p) := Or.inr (Or.inr (Or.inr (Or.inr (Or.inl h333))))
                         exact MTz.1 hm _)
                      | (have hm : mkP (mb p) := Or.inr (Or.inr (Or.inr (Or.inr (Or.inr (Or.inl h339)))))
                         exact MTz.1 hm _)
                      | (have hm : mkP (mb p) := Or.inr (Or.inr (Or.inr (Or.inr (Or.inr (Or.inr (Or.inl h345))))))
                         exact MTz.1 hm _)
                      | (have hm : mkP (mb p) := Or.inr (Or.inr (Or.inr (Or.inr (Or.inr (Or.inr (Or.inr h351))))))
                         exact MTz.1 hm _)
                      | exact MTz.2 (mk_n h309 h315 h321 h327 h333 h339 h345 h351) _
                · refine BdQ.l (fun _ _ k => b_iload_n (pc := 336) (i := 1) (dd dtX11_step 171 rfl) rfl rfl k) ?_
                  refine BdQ.l (fun _ _ k => b_bipush (pc := 337) (v := 42) (dd dtX11_step 172 rfl) (by decide) k) ?_
                  refine BdQ.b (fun _ _ k1 k2 => b_icmp_eq (pc := 339) (tgt := 354) (dd dtX11_step 173 rfl) (by decide) k1 k2) (fun h339 => ?_) (fun h339 => ?_)
                  · refine BdQ.l (fun _ _ k => b_ic1 (pc := 354) (dd dtX11_step 180 rfl) k) ?_
                    refine BdQ.l (fun _ _ k => b_goto (pc := 355) (tgt := 359) (dd dtX11_step 181 rfl) (by decide) k) ?_
                    refine BdQ.l (fun _ _ k => b_istore_n (pc := 359) (i := 2) (lv' := [(2, _), (1, _), (0, _)]) (dd dtX11_step 183 rfl) rfl (Nat.le_of_ble_eq_true rfl) rfl k) ?_
                    refine BdQ.l (fun _ _ k => b_aload_n (pc := 360) (i := 0) (dd dtX11_step 184 rfl) rfl rfl k) ?_
                    refine BdQ.l (fun _ _ k => b_iload_n (pc := 361) (i := 2) (dd dtX11_step 185 rfl) rfl rfl k) ?_
                    refine BdQ.l (fun _ _ k => b_if_eq (pc := 362) (tgt := 369) (dd dtX11_step 186 rfl) (by decide) (fun h362 => absurd h362 (by decide)) (fun _ => k)) ?_
                    refine BdQ.l (fun _ _ k => b_iload_n (pc := 365) (i := 1) (dd dtX11_step 187 rfl) rfl rfl k) ?_
                    refine BdQ.l (fun _ _ k => b_goto (pc := 366) (tgt := 370) (dd dtX11_step 188 rfl) (by decide) k) ?_
                    refine BdQ.l (fun _ _ k => b_puti (pc := 370) (dd dtX11_step 190 rfl) fwX11_176 pM_0 k) ?_
                    refine BdQ.l (fun _ _ k => b_aload_n (pc := 373) (i := 0) (dd dtX11_step 191 rfl) rfl rfl k) ?_
                    refine BdQ.l (fun _ _ k => b_dup (pc := 374) (dd dtX11_step 192 rfl) rfl k) ?_
                    refine BdQ.l (fun _ _ k => b_geti (pc := 375) (dd dtX11_step 193 rfl) fwX11_173 pM_0 k) ?_
                    refine BdQ.l (fun _ _ k => b_ic1 (pc := 378) (dd dtX11_step 194 rfl) k) ?_
                    refine BdQ.l (fun _ _ k => b_iadd (pc := 379) (dd dtX11_step 195 rfl) k) ?_
                    refine BdQ.l (fun _ _ k => b_puti (pc := 380) (dd dtX11_step 196 rfl) fwX11_173 pM_0 k) ?_
                    refine ⟨_, _, ?_, b_vret (dd dtX11_step 197 rfl) rfl⟩
                    refine ⟨rfl, ((hF.p (by decide)).p (by decide)).p (by decide), MTk.oth (mb := mb) (W := W) hp hst ht hlt hpl hE hn1 hn2 ?_ ?_ ?_⟩
                    · rw [ist_eq, upd_ne (by decide), ist_eq, upd_ne (by decide), ist_eq, upd_eq]
                    · rw [ist_eq, upd_eq, ist_eq, upd_ne (by decide), ist_eq, upd_ne (by decide), hP.1, nI_1]
                    · rw [ist_eq, upd_ne (show (53 : Nat) ≠ 52 by decide), upd_ne (show (55 : Nat) ≠ 52 by decide), ist_eq, upd_eq]
                      have MTz : (mkP (mb p) → ∀ v, MT (kd t) (nm t) (mb p) v) ∧ (¬ mkP (mb p) → ∀ v, MT (kd t) (nm t) (-1) v) := by
                        refine ⟨fun hm v => ?_, fun hm v => ?_⟩
                        · have hm2 := (br_m hb).mp hm
                          rw [if_pos hm2] at hk
                          rw [mk_v hb hm2, hk]
                          exact Or.inr (Or.inr (Or.inr (Or.inr ⟨hm2, rfl⟩)))
                        · rw [if_neg (fun z => hm ((br_m hb).mpr z))] at hk
                          exact Or.inl ⟨hk, rfl⟩
                      first
                        | (have hm : mkP (mb p) := Or.inl h309
                           exact MTz.1 hm _)
                        | (have hm : mkP (mb p) := Or.inr (Or.inl h315)
                           exact MTz.1 hm _)
                        | (have hm : mkP (mb p) := Or.inr (Or.inr (Or.inl h321))
                           exact MTz.1 hm _)
                        | (have hm : mkP (mb p) := Or.inr (Or.inr (Or.inr (Or.inl h327)))
                           exact MTz.1 hm _)
                        | (have hm : mkP (mb p) := Or.inr (Or.inr (Or.inr (Or.inr (Or.inl h333))))
                           exact MTz.1 hm _)
                        | (have hm : mkP (mb p) := Or.inr (Or.inr (Or.inr (Or.inr (Or.inr (Or.inl h339)))))
                           exact MTz.1 hm _)
                        | (have hm : mkP (mb p) := Or.inr (Or.inr (Or.inr (Or.inr (Or.inr (Or.inr (Or.inl h345))))))
                           exact MTz.1 hm _)
                        | (have hm : mkP (mb p) := Or.inr (Or.inr (Or.inr (Or.inr (Or.inr (Or.inr (Or.inr h351))))))
                           exact MTz.1 hm _)
                        | exact MTz.2 (mk_n h309 h315 h321 h327 h333 h339 h345 h351) _
                  · refine BdQ.l (fun _ _ k => b_iload_n (pc := 342) (i := 1) (dd dtX11_step 174 rfl) rfl rfl k) ?_
                    refine BdQ.l (fun _ _ k => b_bipush (pc := 343) (v := 60) (dd dtX11_step 175 rfl) (by decide) k) ?_
                    refine BdQ.b (fun _ _ k1 k2 => b_icmp_eq (pc := 345) (tgt := 354) (dd dtX11_step 176 rfl) (by decide) k1 k2) (fun h345 => ?_) (fun h345 => ?_)
                    · refine BdQ.l (fun _ _ k => b_ic1 (pc := 354) (dd dtX11_step 180 rfl) k) ?_
                      refine BdQ.l (fun _ _ k => b_goto (pc := 355) (tgt := 359) (dd dtX11_step 181 rfl) (by decide) k) ?_
                      refine BdQ.l (fun _ _ k => b_istore_n (pc := 359) (i := 2) (lv' := [(2, _), (1, _), (0, _)]) (dd dtX11_step 183 rfl) rfl (Nat.le_of_ble_eq_true rfl) rfl k) ?_
                      refine BdQ.l (fun _ _ k => b_aload_n (pc := 360) (i := 0) (dd dtX11_step 184 rfl) rfl rfl k) ?_
                      refine BdQ.l (fun _ _ k => b_iload_n (pc := 361) (i := 2) (dd dtX11_step 185 rfl) rfl rfl k) ?_
                      refine BdQ.l (fun _ _ k => b_if_eq (pc := 362) (tgt := 369) (dd dtX11_step 186 rfl) (by decide) (fun h362 => absurd h362 (by decide)) (fun _ => k)) ?_
                      refine BdQ.l (fun _ _ k => b_iload_n (pc := 365) (i := 1) (dd dtX11_step 187 rfl) rfl rfl k) ?_
                      refine BdQ.l (fun _ _ k => b_goto (pc := 366) (tgt := 370) (dd dtX11_step 188 rfl) (by decide) k) ?_
                      refine BdQ.l (fun _ _ k => b_puti (pc := 370) (dd dtX11_step 190 rfl) fwX11_176 pM_0 k) ?_
                      refine BdQ.l (fun _ _ k => b_aload_n (pc := 373) (i := 0) (dd dtX11_step 191 rfl) rfl rfl k) ?_
                      refine BdQ.l (fun _ _ k => b_dup (pc := 374) (dd dtX11_step 192 rfl) rfl k) ?_
                      refine BdQ.l (fun _ _ k => b_geti (pc := 375) (dd dtX11_step 193 rfl) fwX11_173 pM_0 k) ?_
                      refine BdQ.l (fun _ _ k => b_ic1 (pc := 378) (dd dtX11_step 194 rfl) k) ?_
                      refine BdQ.l (fun _ _ k => b_iadd (pc := 379) (dd dtX11_step 195 rfl) k) ?_
                      refine BdQ.l (fun _ _ k => b_puti (pc := 380) (dd dtX11_step 196 rfl) fwX11_173 pM_0 k) ?_
                      refine ⟨_, _, ?_, b_vret (dd dtX11_step 197 rfl) rfl⟩
                      refine ⟨rfl, ((hF.p (by decide)).p (by decide)).p (by decide), MTk.oth (mb := mb) (W := W) hp hst ht hlt hpl hE hn1 hn2 ?_ ?_ ?_⟩
                      · rw [ist_eq, upd_ne (by decide), ist_eq, upd_ne (by decide), ist_eq, upd_eq]
                      · rw [ist_eq, upd_eq, ist_eq, upd_ne (by decide), ist_eq, upd_ne (by decide), hP.1, nI_1]
                      · rw [ist_eq, upd_ne (show (53 : Nat) ≠ 52 by decide), upd_ne (show (55 : Nat) ≠ 52 by decide), ist_eq, upd_eq]
                        have MTz : (mkP (mb p) → ∀ v, MT (kd t) (nm t) (mb p) v) ∧ (¬ mkP (mb p) → ∀ v, MT (kd t) (nm t) (-1) v) := by
                          refine ⟨fun hm v => ?_, fun hm v => ?_⟩
                          · have hm2 := (br_m hb).mp hm
                            rw [if_pos hm2] at hk
                            rw [mk_v hb hm2, hk]
                            exact Or.inr (Or.inr (Or.inr (Or.inr ⟨hm2, rfl⟩)))
                          · rw [if_neg (fun z => hm ((br_m hb).mpr z))] at hk
                            exact Or.inl ⟨hk, rfl⟩
                        first
                          | (have hm : mkP (mb p) := Or.inl h309
                             exact MTz.1 hm _)
                          | (have hm : mkP (mb p) := Or.inr (Or.inl h315)
                             exact MTz.1 hm _)
                          | (have hm : mkP (mb p) := Or.inr (Or.inr (Or.inl h321))
                             exact MTz.1 hm _)
                          | (have hm : mkP (mb p) := Or.inr (Or.inr (Or.inr (Or.inl h327)))
                             exact MTz.1 hm _)
                          | (have hm : mkP (mb p) := Or.inr (Or.inr (Or.inr (Or.inr (Or.inl h333))))
                             exact MTz.1 hm _)
                          | (have hm : mkP (mb p) := Or.inr (Or.inr (Or.inr (Or.inr (Or.inr (Or.inl h339)))))
                             exact MTz.1 hm _)
                          | (have hm : mkP (mb p) := Or.inr (Or.inr (Or.inr (Or.inr (Or.inr (Or.inr (Or.inl h345))))))
                             exact MTz.1 hm _)
                          | (have hm : mkP (mb p) := Or.inr (Or.inr (Or.inr (Or.inr (Or.inr (Or.inr (Or.inr h351))))))
                             exact MTz.1 hm _)
                          | exact MTz.2 (mk_n h309 h315 h321 h327 h333 h339 h345 h351) _
                    · refine BdQ.l (fun _ _ k => b_iload_n (pc := 348) (i := 1) (dd dtX11_step 177 rfl) rfl rfl k) ?_
                      refine BdQ.l (fun _ _ k => b_bipush (pc := 349) (v := 61) (dd dtX11_step 178 rfl) (by decide) k) ?_
                      refine BdQ.c (fun _ _ k1 k2 => b_icmp_ne (pc := 351) (tgt := 358) (dd dtX11_step 179 rfl) (by decide) k1 k2) (fun h351 => ?_) (fun h351 => ?_)
                      · refine BdQ.l (fun _ _ k => b_ic0 (pc := 358) (dd dtX11_step 182 rfl) k) ?_
                        refine BdQ.l (fun _ _ k => b_istore_n (pc := 359) (i := 2) (lv' := [(2, _), (1, _), (0, _)]) (dd dtX11_step 183 rfl) rfl (Nat.le_of_ble_eq_true rfl) rfl k) ?_
                        refine BdQ.l (fun _ _ k => b_aload_n (pc := 360) (i := 0) (dd dtX11_step 184 rfl) rfl rfl k) ?_
                        refine BdQ.l (fun _ _ k => b_iload_n (pc := 361) (i := 2) (dd dtX11_step 185 rfl) rfl rfl k) ?_
                        refine BdQ.l (fun _ _ k => b_if_eq (pc := 362) (tgt := 369) (dd dtX11_step 186 rfl) (by decide) (fun _ => k) (fun h362 => absurd h362 (by decide))) ?_
                        refine BdQ.l (fun _ _ k => b_icm1 (pc := 369) (dd dtX11_step 189 rfl) k) ?_
                        refine BdQ.l (fun _ _ k => b_puti (pc := 370) (dd dtX11_step 190 rfl) fwX11_176 pM_0 k) ?_
                        refine BdQ.l (fun _ _ k => b_aload_n (pc := 373) (i := 0) (dd dtX11_step 191 rfl) rfl rfl k) ?_
                        refine BdQ.l (fun _ _ k => b_dup (pc := 374) (dd dtX11_step 192 rfl) rfl k) ?_
                        refine BdQ.l (fun _ _ k => b_geti (pc := 375) (dd dtX11_step 193 rfl) fwX11_173 pM_0 k) ?_
                        refine BdQ.l (fun _ _ k => b_ic1 (pc := 378) (dd dtX11_step 194 rfl) k) ?_
                        refine BdQ.l (fun _ _ k => b_iadd (pc := 379) (dd dtX11_step 195 rfl) k) ?_
                        refine BdQ.l (fun _ _ k => b_puti (pc := 380) (dd dtX11_step 196 rfl) fwX11_173 pM_0 k) ?_
                        refine ⟨_, _, ?_, b_vret (dd dtX11_step 197 rfl) rfl⟩
                        refine ⟨rfl, ((hF.p (by decide)).p (by decide)).p (by decide), MTk.oth (mb := mb) (W := W) hp hst ht hlt hpl hE hn1 hn2 ?_ ?_ ?_⟩
                        · rw [ist_eq, upd_ne (by decide), ist_eq, upd_ne (by decide), ist_eq, upd_eq]
                        · rw [ist_eq, upd_eq, ist_eq, upd_ne (by decide), ist_eq, upd_ne (by decide), hP.1, nI_1]
                        · rw [ist_eq, upd_ne (show (53 : Nat) ≠ 52 by decide), upd_ne (show (55 : Nat) ≠ 52 by decide), ist_eq, upd_eq]
                          have MTz : (mkP (mb p) → ∀ v, MT (kd t) (nm t) (mb p) v) ∧ (¬ mkP (mb p) → ∀ v, MT (kd t) (nm t) (-1) v) := by
                            refine ⟨fun hm v => ?_, fun hm v => ?_⟩
                            · have hm2 := (br_m hb).mp hm
                              rw [if_pos hm2] at hk
                              rw [mk_v hb hm2, hk]
                              exact Or.inr (Or.inr (Or.inr (Or.inr ⟨hm2, rfl⟩)))
                            · rw [if_neg (fun z => hm ((br_m hb).mpr z))] at hk
                              exact Or.inl ⟨hk, rfl⟩
                          first
                            | (have hm : mkP (mb p) := Or.inl h309
                               exact MTz.1 hm _)
                            | (have hm : mkP (mb p) := Or.inr (Or.inl h315)
                               exact MTz.1 hm _)
                            | (have hm : mkP (mb p) := Or.inr (Or.inr (Or.inl h321))
                               exact MTz.1 hm _)
                            | (have hm : mkP (mb p) := Or.inr (Or.inr (Or.inr (Or.inl h327)))
                               exact MTz.1 hm _)
                            | (have hm : mkP (mb p) := Or.inr (Or.inr (Or.inr (Or.inr (Or.inl h333))))
                               exact MTz.1 hm _)
                            | (have hm : mkP (mb p) := Or.inr (Or.inr (Or.inr (Or.inr (Or.inr (Or.inl h339)))))
                               exact MTz.1 hm _)
                            | (have hm : mkP (mb p) := Or.inr (Or.inr (Or.inr (Or.inr (Or.inr (Or.inr (Or.inl h345))))))
                               exact MTz.1 hm _)
                            | (have hm : mkP (mb p) := Or.inr (Or.inr (Or.inr (Or.inr (Or.inr (Or.inr (Or.inr h351))))))
                               exact MTz.1 hm _)
                            | exact MTz.2 (mk_n h309 h315 h321 h327 h333 h339 h345 h351) _
                      · refine BdQ.l (fun _ _ k => b_ic1 (pc := 354) (dd dtX11_step 180 rfl) k) ?_
                        refine BdQ.l (fun _ _ k => b_goto (pc := 355) (tgt := 359) (dd dtX11_step 181 rfl) (by decide) k) ?_
                        refine BdQ.l (fun _ _ k => b_istore_n (pc := 359) (i := 2) (lv' := [(2, _), (1, _), (0, _)]) (dd dtX11_step 183 rfl) rfl (Nat.le_of_ble_eq_true rfl) rfl k) ?_
                        refine BdQ.l (fun _ _ k => b_aload_n (pc := 360) (i := 0) (dd dtX11_step 184 rfl) rfl rfl k) ?_
                        refine BdQ.l (fun _ _ k => b_iload_n (pc := 361) (i := 2) (dd dtX11_step 185 rfl) rfl rfl k) ?_
                        refine BdQ.l (fun _ _ k => b_if_eq (pc := 362) (tgt := 369) (dd dtX11_step 186 rfl) (by decide) (fun h362 => absurd h362 (by decide)) (fun _ => k)) ?_
                        refine BdQ.l (fun _ _ k => b_iload_n (pc := 365) (i := 1) (dd dtX11_step 187 rfl) rfl rfl k) ?_
                        refine BdQ.l (fun _ _ k => b_goto (pc := 366) (tgt := 370) (dd dtX11_step 188 rfl) (by decide) k) ?_
                        refine BdQ.l (fun _ _ k => b_puti (pc := 370) (dd dtX11_step 190 rfl) fwX11_176 pM_0 k) ?_
                        refine BdQ.l (fun _ _ k => b_aload_n (pc := 373) (i := 0) (dd dtX11_step 191 rfl) rfl rfl k) ?_
                        refine BdQ.l (fun _ _ k => b_dup (pc := 374) (dd dtX11_step 192 rfl) rfl k) ?_
                        refine BdQ.l (fun _ _ k => b_geti (pc := 375) (dd dtX11_step 193 rfl) fwX11_173 pM_0 k) ?_
                        refine BdQ.l (fun _ _ k => b_ic1 (pc := 378) (dd dtX11_step 194 rfl) k) ?_
                        refine BdQ.l (fun _ _ k => b_iadd (pc := 379) (dd dtX11_step 195 rfl) k) ?_
                        refine BdQ.l (fun _ _ k => b_puti (pc := 380) (dd dtX11_step 196 rfl) fwX11_173 pM_0 k) ?_
                        refine ⟨_, _, ?_, b_vret (dd dtX11_step 197 rfl) rfl⟩
                        refine ⟨rfl, ((hF.p (by decide)).p (by decide)).p (by decide), MTk.oth (mb := mb) (W := W) hp hst ht hlt hpl hE hn1 hn2 ?_ ?_ ?_⟩
                        · rw [ist_eq, upd_ne (by decide), ist_eq, upd_ne (by decide), ist_eq, upd_eq]
                        · rw [ist_eq, upd_eq, ist_eq, upd_ne (by decide), ist_eq, upd_ne (by decide), hP.1, nI_1]
                        · rw [ist_eq, upd_ne (show (53 : Nat) ≠ 52 by decide), upd_ne (show (55 : Nat) ≠ 52 by decide), ist_eq, upd_eq]
                          have MTz : (mkP (mb p) → ∀ v, MT (kd t) (nm t) (mb p) v) ∧ (¬ mkP (mb p) → ∀ v, MT (kd t) (nm t) (-1) v) := by
                            refine ⟨fun hm v => ?_, fun hm v => ?_⟩
                            · have hm2 := (br_m hb).mp hm
                              rw [if_pos hm2] at hk
                              rw [mk_v hb hm2, hk]
                              exact Or.inr (Or.inr (Or.inr (Or.inr ⟨hm2, rfl⟩)))
                            · rw [if_neg (fun z => hm ((br_m hb).mpr z))] at hk
                              exact Or.inl ⟨hk, rfl⟩
                          first
                            | (have hm : mkP (mb p) := Or.inl h309
                               exact MTz.1 hm _)
                            | (have hm : mkP (mb p) := Or.inr (Or.inl h315)
                               exact MTz.1 hm _)
                            | (have hm : mkP (mb p) := Or.inr (Or.inr (Or.inl h321))
                               exact MTz.1 hm _)
                            | (have hm : mkP (mb p) := Or.inr (Or.inr (Or.inr (Or.inl h327)))
                               exact MTz.1 hm _)
                            | (have hm : mkP (mb p) := Or.inr (Or.inr (Or.inr (Or.inr (Or.inl h333))))
                               exact MTz.1 hm _)
                            | (have hm : mkP (mb p) := Or.inr (Or.inr (Or.inr (Or.inr (Or.inr (Or.inl h339)))))
                               exact MTz.1 hm _)
                            | (have hm : mkP (mb p) := Or.inr (Or.inr (Or.inr (Or.inr (Or.inr (Or.inr (Or.inl h345))))))
                               exact MTz.1 hm _)
                            | (have hm : mkP (mb p) := Or.inr (Or.inr (Or.inr (Or.inr (Or.inr (Or.inr (Or.inr h351))))))
                               exact MTz.1 hm _)
                            | exact MTz.2 (mk_n h309 h315 h321 h327 h333 h339 h345 h351) _
      · have hn1 : ¬ inR (b p) 97 122 := fun z => h80 ((br_r hb (by decide) (by decide)).mpr z)
        have hl : inR (b p) 48 57 := (br_r hb (by decide) (by decide)).mp h209
        refine BdQ.l (fun _ _ k => b_aload_n (pc := 212) (i := 0) (dd dtX11_step 106 rfl) rfl rfl k) ?_
        refine BdQ.l (fun _ _ k => b_ic0 (pc := 213) (dd dtX11_step 107 rfl) k) ?_
        refine BdQ.l (fun _ _ k => b_puti (pc := 214) (dd dtX11_step 108 rfl) fwX11_182 pM_0 k) ?_
        refine lr_dig hM hBR hT hp hst ht hlt hpl hE hl ?_ (e - p) 0 _ (by omega) ((hF.p (by decide)).p (by decide)) (by rw [ist_eq, upd_ne (by decide), ist_eq, upd_ne (by decide)]; exact hP.1) (by rw [ist_eq, upd_ne (by decide), ist_eq, upd_eq]) (by rw [ist_eq, upd_eq]; rfl)
        rcases hKind with z | z | z
        · exact absurd z.1 hn1
        · exact z.2.2
        · exact absurd hl z.2.1
    · have hl : inR (b p) 97 122 := (br_r hb (by decide) (by decide)).mp h80
      refine BdQ.l (fun _ _ k => b_lconst (pc := 83) (v := 0) (dd dtX11_step 41 rfl) (by decide) k) ?_
      refine BdQ.l (fun _ _ k => b_lstore_n (pc := 84) (i := 2) (lv' := [(2, _), (1, _), (0, _)]) (dd dtX11_step 42 rfl) rfl ⟨Nat.le_of_ble_eq_true rfl, Nat.le_of_ble_eq_true rfl⟩ rfl k) ?_
      refine BdQ.l (fun _ _ k => b_ic0 (pc := 85) (dd dtX11_step 43 rfl) k) ?_
      refine BdQ.l (fun _ _ k => b_istore (pc := 86) (i := 4) (lv' := [(4, _), (2, _), (1, _), (0, _)]) (dd dtX11_step 44 rfl) (Nat.le_of_ble_eq_true rfl) rfl k) ?_
      refine lr_let hM hBR hT hp hst ht hlt hpl hE hl ?_ (e - p) 0 _ _ _ (by omega) rfl rfl (hF.p (by decide)) (by rw [ist_eq, upd_ne (by decide)]; exact hP.1) (by rw [ist_eq, upd_eq])
      rcases hKind with z | z | z
      · exact z.2
      · exact absurd hl z.1
      · exact absurd hl z.1
  · exact absurd ((nI_eq (by omega) (by omega)).mp h64) (by omega)
set_option maxHeartbeats 2000000 in
theorem lr_step {J0 : Wd} {ba n : Nat} {b mb kd nm pl : Nat → Int32} {T : Nat} (hM : MB J0 ba n mb) (hBR : ∀ i, i < n → BRel (b i) (mb i)) (hT : TokOK b n kd nm pl T) {t : Nat} : ∀ (m p : Nat) (W : Wd), p + m = n → Fr4 J0 W → PS b n W p t → BdQ SyM mX11_step 3 0 [(0, .ref 0)] [] W (fun r J' => r = none ∧ Fr4 J0 J' ∧ MTk b n kd nm pl T J' t) := by
  intro m
  induction m with
  | zero =>
    intro p W hm hF hP
    have hpn : p = n := by omega
    subst hpn
    have hm1 : ¬ mb p = 32 := by rw [hM.2.2.2.2.2]; decide
    have hm2 : ¬ mb p = 10 := by rw [hM.2.2.2.2.2]; decide
    refine BdQ.l (fun _ _ k => b_aload_n (pc := 0) (i := 0) (dd dtX11_step 0 rfl) rfl rfl k) ?_
    refine BdQ.l (fun _ _ k => b_aload_n (pc := 1) (i := 0) (dd dtX11_step 1 rfl) rfl rfl k) ?_
    refine BdQ.l (fun _ _ k => b_geti (pc := 2) (dd dtX11_step 2 rfl) fwX11_173 pM_0 k) ?_
    refine BdQ.l (fun _ _ k => b_invV (pc := 5) (dd dtX11_step 3 rfl) mlX11_331 mvX11_byteAt miX11_byteAt (c_X11_byteAt (hM.fr hF) hP.1 hP.2.1) oM_0 rfl rfl (by decide) (Nat.le_of_ble_eq_true rfl) k) ?_
    refine BdQ.l (fun _ _ k => b_bipush (pc := 8) (v := 32) (dd dtX11_step 4 rfl) (by decide) k) ?_
    refine BdQ.b (fun _ _ k1 k2 => b_icmp_eq (pc := 10) (tgt := 26) (dd dtX11_step 5 rfl) (by decide) k1 k2) (fun h10 => ?_) (fun h10 => ?_)
    · exact absurd h10 hm1
    · refine BdQ.l (fun _ _ k => b_aload_n (pc := 13) (i := 0) (dd dtX11_step 6 rfl) rfl rfl k) ?_
      refine BdQ.l (fun _ _ k => b_aload_n (pc := 14) (i := 0) (dd dtX11_step 7 rfl) rfl rfl k) ?_
      refine BdQ.l (fun _ _ k => b_geti (pc := 15) (dd dtX11_step 8 rfl) fwX11_173 pM_0 k) ?_
      refine BdQ.l (fun _ _ k => b_invV (pc := 18) (dd dtX11_step 9 rfl) mlX11_331 mvX11_byteAt miX11_byteAt (c_X11_byteAt (hM.fr hF) hP.1 hP.2.1) oM_0 rfl rfl (by decide) (Nat.le_of_ble_eq_true rfl) k) ?_
      refine BdQ.l (fun _ _ k => b_bipush (pc := 21) (v := 10) (dd dtX11_step 10 rfl) (by decide) k) ?_
      refine BdQ.c (fun _ _ k1 k2 => b_icmp_ne (pc := 23) (tgt := 39) (dd dtX11_step 11 rfl) (by decide) k1 k2) (fun h23 => ?_) (fun h23 => ?_)
      · exact p_step_end hM hBR hT hF hP
      · exact absurd h23 hm2
  | succ m ih =>
    intro p W hm hF hP
    have hp : p < n := by omega
    have hb := hBR p hp
    refine BdQ.l (fun _ _ k => b_aload_n (pc := 0) (i := 0) (dd dtX11_step 0 rfl) rfl rfl k) ?_
    refine BdQ.l (fun _ _ k => b_aload_n (pc := 1) (i := 0) (dd dtX11_step 1 rfl) rfl rfl k) ?_
    refine BdQ.l (fun _ _ k => b_geti (pc := 2) (dd dtX11_step 2 rfl) fwX11_173 pM_0 k) ?_
    refine BdQ.l (fun _ _ k => b_invV (pc := 5) (dd dtX11_step 3 rfl) mlX11_331 mvX11_byteAt miX11_byteAt (c_X11_byteAt (hM.fr hF) hP.1 hP.2.1) oM_0 rfl rfl (by decide) (Nat.le_of_ble_eq_true rfl) k) ?_
    refine BdQ.l (fun _ _ k => b_bipush (pc := 8) (v := 32) (dd dtX11_step 4 rfl) (by decide) k) ?_
    refine BdQ.b (fun _ _ k1 k2 => b_icmp_eq (pc := 10) (tgt := 26) (dd dtX11_step 5 rfl) (by decide) k1 k2) (fun h10 => ?_) (fun h10 => ?_)
    · refine BdQ.l (fun _ _ k => b_aload_n (pc := 26) (i := 0) (dd dtX11_step 12 rfl) rfl rfl k) ?_
      refine BdQ.l (fun _ _ k => b_dup (pc := 27) (dd dtX11_step 13 rfl) rfl k) ?_
      refine BdQ.l (fun _ _ k => b_geti (pc := 28) (dd dtX11_step 14 rfl) fwX11_173 pM_0 k) ?_
      refine BdQ.l (fun _ _ k => b_ic1 (pc := 31) (dd dtX11_step 15 rfl) k) ?_
      refine BdQ.l (fun _ _ k => b_iadd (pc := 32) (dd dtX11_step 16 rfl) k) ?_
      refine BdQ.l (fun _ _ k => b_puti (pc := 33) (dd dtX11_step 17 rfl) fwX11_173 pM_0 k) ?_
      refine BdQ.l (fun _ _ k => b_goto (pc := 36) (tgt := 0) (dd dtX11_step 18 rfl) (by decide) k) ?_
      rw [hP.1, nI_1]
      have hbk : b p = 32 ∨ b p = 10 := by
        first
        | exact Or.inl ((br_e hb (by decide) (by decide)).mp h10)
        | exact Or.inr ((br_e hb (by decide) (by decide)).mp h23)
      have hns : ¬ isSt b p := fun z => by
        rcases hbk with k | k
        · exact z.1 k
        · exact z.2.1 k
      refine ih (p + 1) _ (by omega) (hF.p (by decide)) ⟨by rw [ist_eq, upd_eq], by omega, fun _ z => ?_, by rw [cnt_n hns]; exact hP.2.2.2⟩
      have g := (goP_nb z.2).1
      rw [show p + 1 - 1 = p by omega] at g
      rcases hbk with k | k
      · exact g.1 k
      · exact g.2 k
    · refine BdQ.l (fun _ _ k => b_aload_n (pc := 13) (i := 0) (dd dtX11_step 6 rfl) rfl rfl k) ?_
      refine BdQ.l (fun _ _ k => b_aload_n (pc := 14) (i := 0) (dd dtX11_step 7 rfl) rfl rfl k) ?_
      refine BdQ.l (fun _ _ k => b_geti (pc := 15) (dd dtX11_step 8 rfl) fwX11_173 pM_0 k) ?_
      refine BdQ.l (fun _ _ k => b_invV (pc := 18) (dd dtX11_step 9 rfl) mlX11_331 mvX11_byteAt miX11_byteAt (c_X11_byteAt (hM.fr hF) hP.1 hP.2.1) oM_0 rfl rfl (by decide) (Nat.le_of_ble_eq_true rfl) k) ?_
      refine BdQ.l (fun _ _ k => b_bipush (pc := 21) (v := 10) (dd dtX11_step 10 rfl) (by decide) k) ?_
      refine BdQ.c (fun _ _ k1 k2 => b_icmp_ne (pc := 23) (tgt := 39) (dd dtX11_step 11 rfl) (by decide) k1 k2) (fun h23 => ?_) (fun h23 => ?_)
      · exact p_step_in hM hBR hT hF hP hp ⟨fun z => h10 ((br_e hb (by decide) (by decide)).mpr z), fun z => h23 ((br_e hb (by decide) (by decide)).mpr z), hP.2.2.1 hp⟩
      · refine BdQ.l (fun _ _ k => b_aload_n (pc := 26) (i := 0) (dd dtX11_step 12 rfl) rfl rfl k) ?_
        refine BdQ.l (fun _ _ k => b_dup (pc := 27) (dd dtX11_step 13 rfl) rfl k) ?_
        refine BdQ.l (fun _ _ k => b_geti (pc := 28) (dd dtX11_step 14 rfl) fwX11_173 pM_0 k) ?_
        refine BdQ.l (fun _ _ k => b_ic1 (pc := 31) (dd dtX11_step 15 rfl) k) ?_
        refine BdQ.l (fun _ _ k => b_iadd (pc := 32) (dd dtX11_step 16 rfl) k) ?_
        refine BdQ.l (fun _ _ k => b_puti (pc := 33) (dd dtX11_step 17 rfl) fwX11_173 pM_0 k) ?_
        refine BdQ.l (fun _ _ k => b_goto (pc := 36) (tgt := 0) (dd dtX11_step 18 rfl) (by decide) k) ?_
        rw [hP.1, nI_1]
        have hbk : b p = 32 ∨ b p = 10 := by
          first
          | exact Or.inl ((br_e hb (by decide) (by decide)).mp h10)
          | exact Or.inr ((br_e hb (by decide) (by decide)).mp h23)
        have hns : ¬ isSt b p := fun z => by
          rcases hbk with k | k
          · exact z.1 k
          · exact z.2.1 k
        refine ih (p + 1) _ (by omega) (hF.p (by decide)) ⟨by rw [ist_eq, upd_eq], by omega, fun _ z => ?_, by rw [cnt_n hns]; exact hP.2.2.2⟩
        have g := (goP_nb z.2).1
        rw [show p + 1 - 1 = p by omega] at g
        rcases hbk with k | k
        · exact g.1 k
        · exact g.2 k
theorem q_step {J0 : Wd} {ba n : Nat} {b mb kd nm pl : Nat → Int32} {T : Nat} (hM : MB J0 ba n mb) (hBR : ∀ i, i < n → BRel (b i) (mb i)) (hT : TokOK b n kd nm pl T) {t p : Nat} (hP : PS b n J0 p t) : CalQ SyM mX11_step 3 [.ref 0] J0 (fun r J' => r = none ∧ Fr4 J0 J' ∧ MTk b n kd nm pl T J' t) := by
  refine CalQ.of (by decide) (Nat.le_of_ble_eq_true rfl) ?_
  show BdQ _ _ _ _ [(0, _)] _ _ _
  exact lr_step hM hBR hT (n - p) p J0 (by have := hP.2.1; omega) Fr4.r hP
