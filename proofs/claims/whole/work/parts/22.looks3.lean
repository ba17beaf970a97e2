set_option maxHeartbeats 4000000 in
theorem l1_X10_looks {I : Wd} {k z m K N : Nat} (hk : isS k) (hz : I k 1 = nI z) (hz2 : z ≤ 16) (hev : z % 2 = 0) (hm : m ≤ 8) (hmz : m = z / 2) (hK : I 42 0 = nI K) (hK2 : K ≤ 30) (hN : I 1 0 = nI N) (hN2 : N ≤ 14) {coin s kn : Int32} : ∀ (n h : Nat) (x6 : Int32) (I2 : Wd), h ≤ m → m < h + n → x6 = nI h → I2 = lkFill I k K N kn h → Bd SyC mX10_looks 4 70 [(6, .int x6), (5, .int (nI m)), (4, .ref k), (0, .ref 0), (1, .int s), (2, .int coin), (3, .int kn)] [] I2 (some (.int (lkS (I (k + 1)) (lkFill I k K N kn m 107) m coin (2 ^ m)).1)) (ist (lkFill I k K N kn m) 0 12 (lkS (I (k + 1)) (lkFill I k K N kn m 107) m coin (2 ^ m)).2) := by
  intro n
  induction n with
  | zero => intro h x6 I2 h1 h2; omega
  | succ n ih =>
    intro h x6 I2 h1 h2 e6 eW
    subst e6; subst eW
    have hkk : k < 107 ∧ k + 1 < 107 ∧ 99 ≤ k := by unfold isS at hk; omega
    have hwn : lkFill I k K N kn h (k + 1) = I (k + 1) := rset_ne (by omega)
    refine b_iload (pc := 70) (i := 6) (dd dtX10_looks 36 rfl) rfl ?_
    refine b_iload (pc := 72) (i := 5) (dd dtX10_looks 37 rfl) rfl ?_
    refine b_icmpL_ge (pc := 74) (tgt := 112) (dd dtX10_looks 38 rfl) (by decide) (fun h74 => ?_) (fun h74 => ?_)
    · have he : h = m := by first | (have := ge_n h74 (by omega); omega) | (rw [lt8 (by omega)] at h81; omega)
      subst he
      refine b_ic0 (pc := 112) (dd dtX10_looks 57 rfl) ?_
      refine b_istore (pc := 113) (i := 6) (lv' := [(6, _), (5, _), (4, _), (0, _), (1, _), (2, _), (3, _)]) (dd dtX10_looks 58 rfl) (Nat.le_of_ble_eq_true rfl) rfl ?_
      refine b_aload_n (pc := 115) (i := 0) (dd dtX10_looks 59 rfl) rfl rfl ?_
      refine b_ic0 (pc := 116) (dd dtX10_looks 60 rfl) ?_
      refine b_puti (pc := 117) (dd dtX10_looks 61 rfl) fwX10_78 pC_0 ?_
      refine b_ic1 (pc := 120) (dd dtX10_looks 62 rfl) ?_
      refine b_istore (pc := 121) (i := 7) (lv' := [(7, _), (6, _), (5, _), (4, _), (0, _), (1, _), (2, _), (3, _)]) (dd dtX10_looks 63 rfl) (Nat.le_of_ble_eq_true rfl) rfl ?_
      refine l2_X10_looks (I := I) (J := lkFill I k K N kn h) hk hz hz2 hev hm hmz (by rw [show lkFill I k K N kn h k = I k from rset_ne (by omega)]; exact hz) hwn (2 ^ h + 1) 1 _ _ _ (pow_n h hm).1 (by omega) rfl rfl (Nat.le_refl _) rfl
    · have hlt : h < m := lt_n h74 (by omega) (by omega)
      refine b_iload (pc := 77) (i := 6) (dd dtX10_looks 39 rfl) rfl ?_
      refine b_bipush (pc := 79) (v := 8) (dd dtX10_looks 40 rfl) (by decide) ?_
      refine b_icmpL_ge (pc := 81) (tgt := 112) (dd dtX10_looks 41 rfl) (by decide) (fun h81 => ?_) (fun h81 => ?_)
      · have he : h = m := by first | (have := ge_n h74 (by omega); omega) | (rw [lt8 (by omega)] at h81; omega)
        subst he
        refine b_ic0 (pc := 112) (dd dtX10_looks 57 rfl) ?_
        refine b_istore (pc := 113) (i := 6) (lv' := [(6, _), (5, _), (4, _), (0, _), (1, _), (2, _), (3, _)]) (dd dtX10_looks 58 rfl) (Nat.le_of_ble_eq_true rfl) rfl ?_
        refine b_aload_n (pc := 115) (i := 0) (dd dtX10_looks 59 rfl) rfl rfl ?_
        refine b_ic0 (pc := 116) (dd dtX10_looks 60 rfl) ?_
        refine b_puti (pc := 117) (dd dtX10_looks 61 rfl) fwX10_78 pC_0 ?_
        refine b_ic1 (pc := 120) (dd dtX10_looks 62 rfl) ?_
        refine b_istore (pc := 121) (i := 7) (lv' := [(7, _), (6, _), (5, _), (4, _), (0, _), (1, _), (2, _), (3, _)]) (dd dtX10_looks 63 rfl) (Nat.le_of_ble_eq_true rfl) rfl ?_
        refine l2_X10_looks (I := I) (J := lkFill I k K N kn h) hk hz hz2 hev hm hmz (by rw [show lkFill I k K N kn h k = I k from rset_ne (by omega)]; exact hz) hwn (2 ^ h + 1) 1 _ _ _ (pow_n h hm).1 (by omega) rfl rfl (Nat.le_refl _) rfl
      · refine b_aload_n (pc := 84) (i := 0) (dd dtX10_looks 42 rfl) rfl rfl ?_
        refine b_geta (pc := 85) (dd dtX10_looks 43 rfl) fwX10_74 pC_0 rC_0_11 ?_
        refine b_iload (pc := 88) (i := 6) (dd dtX10_looks 44 rfl) rfl ?_
        refine b_aload_n (pc := 90) (i := 0) (dd dtX10_looks 45 rfl) rfl rfl ?_
        refine b_aload (pc := 91) (i := 4) (dd dtX10_looks 46 rfl) rfl ?_
        refine b_geta (pc := 93) (dd dtX10_looks 47 rfl) fwX10_284 (pS_0 hk) (rS_2 hk) ?_
        refine b_ic2 (pc := 96) (dd dtX10_looks 48 rfl) ?_
        refine b_iload (pc := 97) (i := 6) (dd dtX10_looks 49 rfl) rfl ?_
        refine b_imul (pc := 99) (dd dtX10_looks 50 rfl) ?_
        refine b_iald (pc := 100) (dd dtX10_looks 51 rfl) (pS_1 hk) (by rw [mul2]; exact vpn rfl (show 2 * h < 40 by omega) (by decide)) ?_
        refine b_iload_n (pc := 101) (i := 3) (dd dtX10_looks 52 rfl) rfl rfl ?_
        refine b_invV (pc := 102) (dd dtX10_looks 53 rfl) mlX10_287 mvX10_worthOfLook miX10_worthOfLook (c_X10_worthOfLook (K := K) (N := N) (by unfold lkFill; rw [rset_ne (by decide)]; exact hK) hK2 (by unfold lkFill; rw [rset_ne (by decide)]; exact hN) hN2) oC_0 rfl rfl (by decide) (Nat.le_of_ble_eq_true rfl) ?_
        refine b_iast (pc := 105) (dd dtX10_looks 54 rfl) pC_107 (vpn rfl (show h < 8 by omega) (by decide)) ?_
        refine b_iinc1 (pc := 106) (i := 6) (lv' := [(6, _), (5, _), (4, _), (0, _), (1, _), (2, _), (3, _)]) (dd dtX10_looks 55 rfl) rfl (Nat.le_of_ble_eq_true rfl) rfl ?_
        refine b_goto (pc := 109) (tgt := 70) (dd dtX10_looks 56 rfl) (by decide) ?_
        rw [nI_1]
        refine ih (h + 1) _ _ hlt (by omega) rfl ?_
        rw [hwn, mul2, nI_clamp (show 2 * h < 2 ^ 31 by omega), nI_clamp (show h < 2 ^ 31 by omega), lkW_fill]
        unfold lkFill
        rw [ist_rset]
        exact congrArg (rset I 107) (fil_s rfl)
set_option maxHeartbeats 4000000 in
theorem c_X10_looks {I : Wd} {K N z : Nat} {s coin known : Int32} (hK : I 42 0 = nI K) (hK2 : K ≤ 30) (hN : I 1 0 = nI N) (hN2 : N ≤ 14) (hz0 : inR s 0 3 → I (kS s) 1 = nI z ∧ z ≤ 40) : Cal SyC mX10_looks 4 [.ref 0, .int s, .int coin, .int known] I (some (.int (vLooks (I (kS s) 0 = -1) (hlP (I (kS s + 1)) z) (I 6 1) s coin known (lkS (I (kS s + 1)) (lkFill I (kS s) K N known (z / 2) 107) (z / 2) coin (2 ^ (z / 2))).1))) (if okLooks (I (kS s) 0 = -1) (hlP (I (kS s + 1)) z) (I 6 1) s coin known then ist (lkFill I (kS s) K N known (z / 2)) 0 12 (lkS (I (kS s + 1)) (lkFill I (kS s) K N known (z / 2) 107) (z / 2) coin (2 ^ (z / 2))).2 else I) := by
  refine Cal.of (by decide) (Nat.le_of_ble_eq_true rfl) ?_
  show Bd _ _ _ _ [(0, _), (1, _), (2, _), (3, _)] _ _ _ _
  refine b_iload_n (pc := 0) (i := 1) (dd dtX10_looks 0 rfl) rfl rfl ?_
  refine b_invS (pc := 1) (dd dtX10_looks 1 rfl) mlX10_208 mvX10_isSheet msX10_isSheet (c_X10_isSheet) rfl rfl (by decide) (Nat.le_of_ble_eq_true rfl) ?_
  refine b_ifb_ne (pc := 4) (tgt := 9) (dd dtX10_looks 2 rfl) (by decide) (fun h4 => ?_) (fun h4 => ?_)
  · obtain ⟨hz, hz2⟩ := hz0 h4
    clear hz0
    refine b_aload_n (pc := 9) (i := 0) (dd dtX10_looks 5 rfl) rfl rfl ?_
    refine b_geta (pc := 10) (dd dtX10_looks 6 rfl) fwX10_70 pC_0 rC_0_10 ?_
    refine b_iload_n (pc := 13) (i := 1) (dd dtX10_looks 7 rfl) rfl rfl ?_
    refine b_aald (pc := 14) (q := kS s) (dd dtX10_looks 8 rfl) pC_98 (by decide) ((sheet_k h4).2.1) ((sheet_k h4).2.2) ?_
    refine b_astore (pc := 15) (i := 4) (lv' := [(4, _), (0, _), (1, _), (2, _), (3, _)]) (dd dtX10_looks 9 rfl) (Nat.le_of_ble_eq_true rfl) rfl ?_
    refine b_aload (pc := 17) (i := 4) (dd dtX10_looks 10 rfl) rfl ?_
    refine b_invV (pc := 19) (dd dtX10_looks 11 rfl) mlX10_211 mvX5_isMissing miX5_isMissing (c_X5_isMissing (sheet_k h4).1) (oS (sheet_k h4).1) rfl rfl (by decide) (Nat.le_of_ble_eq_true rfl) ?_
    refine b_ifb_eq (pc := 22) (tgt := 28) (dd dtX10_looks 12 rfl) (by decide) (fun h22 => ?_) (fun h22 => ?_)
    · refine b_aload (pc := 28) (i := 4) (dd dtX10_looks 15 rfl) rfl ?_
      refine b_invS (pc := 30) (dd dtX10_looks 16 rfl) mlX10_280 mvX10_holdsLooks msX10_holdsLooks (c_X10_holdsLooks (sheet_k h4).1 hz hz2) rfl rfl (by decide) (Nat.le_of_ble_eq_true rfl) ?_
      refine b_ifb_eq (pc := 33) (tgt := 55) (dd dtX10_looks 17 rfl) (by decide) (fun h33 => ?_) (fun h33 => ?_)
      · refine b_bipush (pc := 55) (v := -2) (dd dtX10_looks 27 rfl) (by decide) ?_
        refine b_eq (b_iret (dd dtX10_looks 28 rfl) rfl) ?_ ?_
        · unfold vLooks; rw [if_pos h4, if_neg h22, if_neg]; rintro ⟨q1, q2, q3⟩; first | exact h33 q1 | exact h44 q2 | exact h52 q3
        · rw [if_neg]; rintro ⟨q0, q9, q1, q2, q3⟩; first | exact h33 q1 | exact h44 q2 | exact h52 q3
      · refine b_iload_n (pc := 36) (i := 2) (dd dtX10_looks 18 rfl) rfl rfl ?_
        refine b_ic0 (pc := 37) (dd dtX10_looks 19 rfl) ?_
        refine b_ldcw (pc := 38) (dd dtX10_looks 20 rfl) kcX10_283 ?_
        refine b_invS (pc := 41) (dd dtX10_looks 21 rfl) mlX10_97 mvX10_within msX10_within (c_X10_within) rfl rfl (by decide) (Nat.le_of_ble_eq_true rfl) ?_
        refine b_ifb_eq (pc := 44) (tgt := 55) (dd dtX10_looks 22 rfl) (by decide) (fun h44 => ?_) (fun h44 => ?_)
        · refine b_bipush (pc := 55) (v := -2) (dd dtX10_looks 27 rfl) (by decide) ?_
          refine b_eq (b_iret (dd dtX10_looks 28 rfl) rfl) ?_ ?_
          · unfold vLooks; rw [if_pos h4, if_neg h22, if_neg]; rintro ⟨q1, q2, q3⟩; first | exact h33 q1 | exact h44 q2 | exact h52 q3
          · rw [if_neg]; rintro ⟨q0, q9, q1, q2, q3⟩; first | exact h33 q1 | exact h44 q2 | exact h52 q3
        · refine b_aload_n (pc := 47) (i := 0) (dd dtX10_looks 23 rfl) rfl rfl ?_
          refine b_iload_n (pc := 48) (i := 3) (dd dtX10_looks 24 rfl) rfl rfl ?_
          refine b_invV (pc := 49) (dd dtX10_looks 25 rfl) mlX10_172 mvX10_isKnown miX10_isKnown (c_X10_isKnown) oC_0 rfl rfl (by decide) (Nat.le_of_ble_eq_true rfl) ?_
          refine b_ifb_ne (pc := 52) (tgt := 58) (dd dtX10_looks 26 rfl) (by decide) (fun h52 => ?_) (fun h52 => ?_)
          · refine b_aload (pc := 58) (i := 4) (dd dtX10_looks 29 rfl) rfl ?_
            refine b_geti (pc := 60) (dd dtX10_looks 30 rfl) fwX10_214 (pS_0 (sheet_k h4).1) ?_
            refine b_ic2 (pc := 63) (dd dtX10_looks 31 rfl) ?_
            refine b_idiv (pc := 64) (dd dtX10_looks 32 rfl) (by decide) ?_
            rw [hz, div2 (show z < 2 ^ 31 by omega)]
            refine b_istore (pc := 65) (i := 5) (lv' := [(5, _), (4, _), (0, _), (1, _), (2, _), (3, _)]) (dd dtX10_looks 33 rfl) (Nat.le_of_ble_eq_true rfl) rfl ?_
            refine b_ic0 (pc := 67) (dd dtX10_looks 34 rfl) ?_
            refine b_istore (pc := 68) (i := 6) (lv' := [(6, _), (5, _), (4, _), (0, _), (1, _), (2, _), (3, _)]) (dd dtX10_looks 35 rfl) (Nat.le_of_ble_eq_true rfl) rfl ?_
            refine b_eq (l1_X10_looks (sheet_k h4).1 hz h33.1.2 h33.1.1 (by have := h33.1.2; omega) rfl hK hK2 hN hN2 (z / 2 + 1) 0 _ _ (Nat.zero_le _) (by omega) rfl (by unfold lkFill; rw [fil_0, rset_id])) ?_ ?_
            · unfold vLooks
              rw [if_pos h4, if_neg h22, if_pos ⟨h33, h44, h52⟩]
            · rw [if_pos ⟨h4, h22, h33, h44, h52⟩]
          · refine b_bipush (pc := 55) (v := -2) (dd dtX10_looks 27 rfl) (by decide) ?_
            refine b_eq (b_iret (dd dtX10_looks 28 rfl) rfl) ?_ ?_
            · unfold vLooks; rw [if_pos h4, if_neg h22, if_neg]; rintro ⟨q1, q2, q3⟩; first | exact h33 q1 | exact h44 q2 | exact h52 q3
            · rw [if_neg]; rintro ⟨q0, q9, q1, q2, q3⟩; first | exact h33 q1 | exact h44 q2 | exact h52 q3
    · refine b_bipush (pc := 25) (v := -11) (dd dtX10_looks 13 rfl) (by decide) ?_
      refine b_eq (b_iret (dd dtX10_looks 14 rfl) rfl) ?_ ?_
      · unfold vLooks; rw [if_pos h4, if_pos h22]
      · rw [if_neg (fun q => q.2.1 h22)]
  · refine b_icm1 (pc := 7) (dd dtX10_looks 3 rfl) ?_
    refine b_eq (b_iret (dd dtX10_looks 4 rfl) rfl) ?_ ?_
    · unfold vLooks; rw [if_neg h4]
    · rw [if_neg (fun q => h4 q.1)]
