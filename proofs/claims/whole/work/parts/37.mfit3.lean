/-! the reference's fit: its head -/
abbrev ucM (f : Nat → Int32) (n : Nat) : Prop := ∀ k, k < n → inR (f k) 0 63 ∧ ∀ j, j < k → ¬ f j = f k
def itM (J : Wd) (s : Int32) (k : Nat) : Int32 := J 46 (40 * s.toNatClampNeg + k)
def spn1 (K : Nat) (kn : Int32) (b : Nat) (W : Wd) (k : Nat) : Wd := ist (ist (spanW (ist W 27 k (W 46 (b + k))) K (W 46 (b + k)) kn 0) 28 k (spanW (ist W 27 k (W 46 (b + k))) K (W 46 (b + k)) kn 0 0 28)) 29 k (spanW (ist W 27 k (W 46 (b + k))) K (W 46 (b + k)) kn 0 0 29)
def spnM (K : Nat) (kn : Int32) (b : Nat) (J : Wd) : Nat → Wd
  | 0 => J
  | k + 1 => spn1 K kn b (spnM K kn b J k) k
theorem spn1_fr {K b k a : Nat} {kn : Int32} {W : Wd} (h : a ≠ 0) (h7 : a ≠ 27) (h8 : a ≠ 28) (h9 : a ≠ 29) : spn1 K kn b W k a = W a := by unfold spn1; rw [ist_ne h9, ist_ne h8, spanW_fr h, ist_ne h7]
theorem spn1_0 {K b k j : Nat} {kn : Int32} {W : Wd} (h : j ≠ 28) (h2 : j ≠ 29) : spn1 K kn b W k 0 j = W 0 j := by unfold spn1; rw [ist_ne (by decide), ist_ne (by decide), spanW_0 h h2, ist_ne (by decide)]
theorem spnM_fr {K b k a : Nat} {kn : Int32} {J : Wd} (h : a ≠ 0) (h7 : a ≠ 27) (h8 : a ≠ 28) (h9 : a ≠ 29) : spnM K kn b J k a = J a := by
  induction k with
  | zero => rfl
  | succ k ih => unfold spnM; rw [spn1_fr h h7 h8 h9, ih]
theorem spnM_0 {K b k j : Nat} {kn : Int32} {J : Wd} (h : j ≠ 28) (h2 : j ≠ 29) : spnM K kn b J k 0 j = J 0 j := by
  induction k with
  | zero => rfl
  | succ k ih => unfold spnM; rw [spn1_0 h h2, ih]
def fitJM (J : Wd) (K z : Nat) (s kn : Int32) : Wd := ist (spnM K kn (40 * s.toNatClampNeg) (ist J 0 34 (nI z)) z) 0 36 0
def fitRM (J : Wd) (K L z : Nat) (s kn : Int32) : Int32 × Int32 × Wd := mrun z L kn (fitJM J K z s kn) (5 ^ z)
def fitVM (J : Wd) (K L z : Nat) (s kn : Int32) : Int32 := if (fitRM J K L z s kn).2.2 0 36 = 0 then -3 else (fitRM J K L z s kn).1
abbrev okFitM (J : Wd) (z : Nat) (s kn : Int32) : Prop := inR s 0 3 ∧ ¬ J 44 s.toNatClampNeg < 0 ∧ inR (nI z) 1 5 ∧ inR kn 0 (J 0 0) ∧ ucM (itM J s) z
def vFitM (J : Wd) (K L z : Nat) (s kn : Int32) : Int32 := if inR s 0 3 then (if J 44 s.toNatClampNeg < 0 then -11 else if inR (nI z) 1 5 ∧ inR kn 0 (J 0 0) then (if ucM (itM J s) z then fitVM J K L z s kn else -2) else -2) else -1
set_option maxHeartbeats 4000000 in
theorem q211 {J : Wd} {z L : Nat} {kn s0 : Int32} (hF : FF J z L) : ∀ (n h : Nat) (x4 : Int32) (x3 : Int32), h ≤ z → z < h + n → x4 = nI h → x3 = nI (5 ^ h) → Bd SyM mX11_fit 3 211 [(4, .int x4), (3, .int x3), (0, .ref 0), (1, .int s0), (2, .int kn)] [] J (some (.int (if (mrun z L kn (ist J 0 36 0) (5 ^ z)).2.2 0 36 = 0 then -3 else (mrun z L kn (ist J 0 36 0) (5 ^ z)).1))) (mrun z L kn (ist J 0 36 0) (5 ^ z)).2.2 := by
  intro n
  induction n with
  | zero => intro h x4 x3 h1 h2; omega
  | succ n ih =>
    intro h x4 x3 h1 h2 e4 e3
    subst e4; subst e3
    obtain ⟨hz, hz2, hL, hL2, hS⟩ := id hF
    have p5 := pow5 z hz2
    refine b_iload (pc := 211) (i := 4) (dd dtX11_fit 127 rfl) rfl ?_
    refine b_aload_n (pc := 213) (i := 0) (dd dtX11_fit 128 rfl) rfl rfl ?_
    refine b_geti (pc := 214) (dd dtX11_fit 129 rfl) fwX11_118 pM_0 ?_
    refine b_icmpL_ge (pc := 217) (tgt := 230) (dd dtX11_fit 130 rfl) (by decide) (fun h217 => ?_) (fun h217 => ?_)
    · rw [hz] at h217
      have he : h = z := Nat.le_antisymm h1 (ge_n h217 (by omega))
      subst he
      refine b_aload_n (pc := 230) (i := 0) (dd dtX11_fit 137 rfl) rfl rfl ?_
      refine b_ic0 (pc := 231) (dd dtX11_fit 138 rfl) ?_
      refine b_put0 (pc := 232) (dd dtX11_fit 139 rfl) fwX11_124 pM_0 ?_
      refine b_ic0 (pc := 235) (dd dtX11_fit 140 rfl) ?_
      refine b_istore (pc := 236) (i := 4) (lv' := [(4, _), (3, _), (0, _), (1, _), (2, _)]) (dd dtX11_fit 141 rfl) (Nat.le_of_ble_eq_true rfl) rfl ?_
      refine b_ic0 (pc := 238) (dd dtX11_fit 142 rfl) ?_
      refine b_istore (pc := 239) (i := 5) (lv' := [(5, _), (4, _), (3, _), (0, _), (1, _), (2, _)]) (dd dtX11_fit 143 rfl) (Nat.le_of_ble_eq_true rfl) rfl ?_
      refine b_ic0 (pc := 241) (dd dtX11_fit 144 rfl) ?_
      refine b_istore (pc := 242) (i := 6) (lv' := [(6, _), (5, _), (4, _), (3, _), (0, _), (1, _), (2, _)]) (dd dtX11_fit 145 rfl) (Nat.le_of_ble_eq_true rfl) rfl ?_
      refine q244 (J := ist J 0 36 0) (hF.of ?_ ?_ ?_) (by omega) (5 ^ h + 1) 0 _ _ _ _ (Nat.zero_le _) (by omega) rfl rfl rfl rfl
      · rw [ist_eq, upd_ne (by decide)]
      · rw [ist_eq, upd_ne (by decide)]
      · rw [ist_ne (by decide)]
    · rw [hz] at h217
      have hlt : h < z := lt_n h217 (by omega) (by omega)
      refine b_iload_n (pc := 220) (i := 3) (dd dtX11_fit 131 rfl) rfl rfl ?_
      refine b_ic5 (pc := 221) (dd dtX11_fit 132 rfl) ?_
      refine b_imul (pc := 222) (dd dtX11_fit 133 rfl) ?_
      refine b_istore_n (pc := 223) (i := 3) (lv' := [(3, _), (4, _), (0, _), (1, _), (2, _)]) (dd dtX11_fit 134 rfl) rfl (Nat.le_of_ble_eq_true rfl) rfl ?_
      refine b_iinc1 (pc := 224) (i := 4) (lv' := [(4, _), (3, _), (0, _), (1, _), (2, _)]) (dd dtX11_fit 135 rfl) rfl (Nat.le_of_ble_eq_true rfl) rfl ?_
      refine b_goto (pc := 227) (tgt := 211) (dd dtX11_fit 136 rfl) (by decide) ?_
      rw [nI_1]
      refine ih (h + 1) _ _ hlt (by omega) rfl ?_
      · rw [show (5 : Int32) = nI 5 from rfl, pk_mul, Nat.pow_succ]
set_option maxHeartbeats 4000000 in
theorem q143 {J : Wd} {z L K : Nat} {kn s : Int32} (hs : inR s 0 3) (hF : FF (ist J 0 34 (nI z)) z L) (hK : J 0 21 = nI K) (hK2 : K ≤ 30) : ∀ (n h : Nat) (x3 : Int32) (I2 : Wd), h ≤ z → z < h + n → x3 = nI h → I2 = (spnM K kn (40 * s.toNatClampNeg) (ist J 0 34 (nI z)) h) → Bd SyM mX11_fit 3 143 [(3, .int x3), (0, .ref 0), (1, .int s), (2, .int kn)] [] I2 (some (.int (fitVM J K L z s kn))) (fitRM J K L z s kn).2.2 := by
  intro n
  induction n with
  | zero => intro h x3 I2 h1 h2; omega
  | succ n ih =>
    intro h x3 I2 h1 h2 e3 eW
    subst e3; subst eW
    obtain ⟨hz, hz2, hL, hL2, hS⟩ := id hF
    have f34 : spnM K kn (40 * s.toNatClampNeg) (ist J 0 34 (nI z)) h 0 34 = nI z := by rw [spnM_0 (by decide) (by decide), ist_eq, upd_eq]
    have f21 : spnM K kn (40 * s.toNatClampNeg) (ist J 0 34 (nI z)) h 0 21 = nI K := by rw [spnM_0 (by decide) (by decide), ist_eq, upd_ne (by decide), hK]
    refine b_iload_n (pc := 143) (i := 3) (dd dtX11_fit 85 rfl) rfl rfl ?_
    refine b_aload_n (pc := 144) (i := 0) (dd dtX11_fit 86 rfl) rfl rfl ?_
    refine b_geti (pc := 145) (dd dtX11_fit 87 rfl) fwX11_118 pM_0 ?_
    refine b_icmpL_ge (pc := 148) (tgt := 206) (dd dtX11_fit 88 rfl) (by decide) (fun h148 => ?_) (fun h148 => ?_)
    · rw [f34] at h148
      have he : h = z := Nat.le_antisymm h1 (ge_n h148 (by omega))
      subst he
      refine b_ic1 (pc := 206) (dd dtX11_fit 123 rfl) ?_
      refine b_istore_n (pc := 207) (i := 3) (lv' := [(3, _), (0, _), (1, _), (2, _)]) (dd dtX11_fit 124 rfl) rfl (Nat.le_of_ble_eq_true rfl) rfl ?_
      refine b_ic0 (pc := 208) (dd dtX11_fit 125 rfl) ?_
      refine b_istore (pc := 209) (i := 4) (lv' := [(4, _), (3, _), (0, _), (1, _), (2, _)]) (dd dtX11_fit 126 rfl) (Nat.le_of_ble_eq_true rfl) rfl ?_
      refine q211 (J := spnM K kn (40 * s.toNatClampNeg) (ist J 0 34 (nI h)) h) (hF.of ?_ ?_ ?_) (h + 1) 0 _ _ (Nat.zero_le _) (by omega) rfl rfl
      · rw [spnM_0 (by decide) (by decide)]
      · rw [spnM_0 (by decide) (by decide)]
      · rw [spnM_fr (by decide) (by decide) (by decide) (by decide)]
    · rw [f34] at h148
      have hlt : h < z := lt_n h148 (by omega) (by omega)
      refine b_aload_n (pc := 151) (i := 0) (dd dtX11_fit 89 rfl) rfl rfl ?_
      refine b_geta (pc := 152) (dd dtX11_fit 90 rfl) fwX11_131 pM_0 rM_0_38 ?_
      refine b_iload_n (pc := 155) (i := 3) (dd dtX11_fit 91 rfl) rfl rfl ?_
      refine b_aload_n (pc := 156) (i := 0) (dd dtX11_fit 92 rfl) rfl rfl ?_
      refine b_geta (pc := 157) (dd dtX11_fit 93 rfl) fwX11_242 pM_0 rM_0_75 ?_
      refine b_bipush (pc := 160) (v := 40) (dd dtX11_fit 94 rfl) (by decide) ?_
      refine b_iload_n (pc := 162) (i := 1) (dd dtX11_fit 95 rfl) rfl rfl ?_
      refine b_imul (pc := 163) (dd dtX11_fit 96 rfl) ?_
      refine b_iload_n (pc := 164) (i := 3) (dd dtX11_fit 97 rfl) rfl rfl ?_
      refine b_iadd (pc := 165) (dd dtX11_fit 98 rfl) ?_
      refine b_iald (pc := 166) (dd dtX11_fit 99 rfl) pM_46 (vx40 hs (show h < 40 by omega)) ?_
      refine b_iast (pc := 167) (dd dtX11_fit 100 rfl) pM_27 (vpn rfl (show h < 5 by omega) (by decide)) ?_
      refine b_aload_n (pc := 168) (i := 0) (dd dtX11_fit 101 rfl) rfl rfl ?_
      refine b_aload_n (pc := 169) (i := 0) (dd dtX11_fit 102 rfl) rfl rfl ?_
      refine b_geta (pc := 170) (dd dtX11_fit 103 rfl) fwX11_131 pM_0 rM_0_38 ?_
      refine b_iload_n (pc := 173) (i := 3) (dd dtX11_fit 104 rfl) rfl rfl ?_
      refine b_iald (pc := 174) (dd dtX11_fit 105 rfl) pM_27 (vpn rfl (show h < 5 by omega) (by decide)) ?_
      refine b_iload_n (pc := 175) (i := 2) (dd dtX11_fit 106 rfl) rfl rfl ?_
      refine b_ic0 (pc := 176) (dd dtX11_fit 107 rfl) ?_
      refine b_invV (pc := 177) (dd dtX11_fit 108 rfl) mlX11_289 mvX11_findSpan miX11_findSpan (c_findSpan (by rw [ist_ne (by decide), f21]) hK2) oM_0 rfl rfl (by decide) (Nat.le_of_ble_eq_true rfl) ?_
      refine b_aload_n (pc := 180) (i := 0) (dd dtX11_fit 109 rfl) rfl rfl ?_
      refine b_geta (pc := 181) (dd dtX11_fit 110 rfl) fwX11_134 pM_0 rM_0_39 ?_
      refine b_iload_n (pc := 184) (i := 3) (dd dtX11_fit 111 rfl) rfl rfl ?_
      refine b_aload_n (pc := 185) (i := 0) (dd dtX11_fit 112 rfl) rfl rfl ?_
      refine b_geti (pc := 186) (dd dtX11_fit 113 rfl) fwX11_100 pM_0 ?_
      refine b_iast (pc := 189) (dd dtX11_fit 114 rfl) pM_28 (vpn rfl (show h < 5 by omega) (by decide)) ?_
      refine b_aload_n (pc := 190) (i := 0) (dd dtX11_fit 115 rfl) rfl rfl ?_
      refine b_geta (pc := 191) (dd dtX11_fit 116 rfl) fwX11_137 pM_0 rM_0_40 ?_
      refine b_iload_n (pc := 194) (i := 3) (dd dtX11_fit 117 rfl) rfl rfl ?_
      refine b_aload_n (pc := 195) (i := 0) (dd dtX11_fit 118 rfl) rfl rfl ?_
      refine b_geti (pc := 196) (dd dtX11_fit 119 rfl) fwX11_103 pM_0 ?_
      refine b_iast (pc := 199) (dd dtX11_fit 120 rfl) pM_29 (vpn rfl (show h < 5 by omega) (by decide)) ?_
      refine b_iinc1 (pc := 200) (i := 3) (lv' := [(3, _), (0, _), (1, _), (2, _)]) (dd dtX11_fit 121 rfl) rfl (Nat.le_of_ble_eq_true rfl) rfl ?_
      refine b_goto (pc := 203) (tgt := 143) (dd dtX11_fit 122 rfl) (by decide) ?_
      rw [nI_1]
      refine ih (h + 1) _ _ hlt (by omega) rfl ?_
      · simp only [nI_clamp (show h < 2 ^ 31 by omega), cx40 hs (show h < 40 by omega), ist_eq, upd_eq, ist_ne (show 0 ≠ 28 by decide)]
        rfl
set_option maxHeartbeats 4000000 in
theorem q84 {J : Wd} {z : Nat} {kn s : Int32} (hs : inR s 0 3) (hz2 : z ≤ 5) {k : Nat} (hk : k < z) {r : Option Value} {I9 : Wd} (kk : (∀ j, j < k → ¬ itM J s j = itM J s k) → Bd SyM mX11_fit 3 125 [(3, .int (nI k)), (0, .ref 0), (1, .int s), (2, .int kn)] [] J r I9) (kb : ¬ (∀ j, j < k → ¬ itM J s j = itM J s k) → Bd SyM mX11_fit 3 116 [(3, .int (nI k)), (0, .ref 0), (1, .int s), (2, .int kn)] [] J r I9) : ∀ (n h : Nat) (x4 : Int32), h ≤ k → k < h + n → x4 = nI h → (∀ j, j < h → ¬ itM J s j = itM J s k) → Bd SyM mX11_fit 3 84 [(4, .int x4), (3, .int (nI k)), (0, .ref 0), (1, .int s), (2, .int kn)] [] J (r) I9 := by
  intro n
  induction n with
  | zero => intro h x4 h1 h2; omega
  | succ n ih =>
    intro h x4 h1 h2 e4 hI
    subst e4
    refine b_iload (pc := 84) (i := 4) (dd dtX11_fit 51 rfl) rfl ?_
    refine b_iload_n (pc := 86) (i := 3) (dd dtX11_fit 52 rfl) rfl rfl ?_
    refine b_icmpL_ge (pc := 87) (tgt := 125) (dd dtX11_fit 53 rfl) (by decide) (fun h87 => ?_) (fun h87 => ?_)
    · refine b_pick [1, 2, 3, 4] (lv' := [(3, _), (0, _), (1, _), (2, _)]) rfl ?_
      have he : h = k := Nat.le_antisymm h1 (ge_n h87 (by omega))
      subst he
      exact kk hI
    · have hlt : h < k := lt_n h87 (by omega) (by omega)
      refine b_aload_n (pc := 90) (i := 0) (dd dtX11_fit 54 rfl) rfl rfl ?_
      refine b_geta (pc := 91) (dd dtX11_fit 55 rfl) fwX11_242 pM_0 rM_0_75 ?_
      refine b_bipush (pc := 94) (v := 40) (dd dtX11_fit 56 rfl) (by decide) ?_
      refine b_iload_n (pc := 96) (i := 1) (dd dtX11_fit 57 rfl) rfl rfl ?_
      refine b_imul (pc := 97) (dd dtX11_fit 58 rfl) ?_
      refine b_iload (pc := 98) (i := 4) (dd dtX11_fit 59 rfl) rfl ?_
      refine b_iadd (pc := 100) (dd dtX11_fit 60 rfl) ?_
      refine b_iald (pc := 101) (dd dtX11_fit 61 rfl) pM_46 (vx40 hs (show h < 40 by omega)) ?_
      refine b_aload_n (pc := 102) (i := 0) (dd dtX11_fit 62 rfl) rfl rfl ?_
      refine b_geta (pc := 103) (dd dtX11_fit 63 rfl) fwX11_242 pM_0 rM_0_75 ?_
      refine b_bipush (pc := 106) (v := 40) (dd dtX11_fit 64 rfl) (by decide) ?_
      refine b_iload_n (pc := 108) (i := 1) (dd dtX11_fit 65 rfl) rfl rfl ?_
      refine b_imul (pc := 109) (dd dtX11_fit 66 rfl) ?_
      refine b_iload_n (pc := 110) (i := 3) (dd dtX11_fit 67 rfl) rfl rfl ?_
      refine b_iadd (pc := 111) (dd dtX11_fit 68 rfl) ?_
      refine b_iald (pc := 112) (dd dtX11_fit 69 rfl) pM_46 (vx40 hs (show k < 40 by omega)) ?_
      refine b_icmp_ne (pc := 113) (tgt := 119) (dd dtX11_fit 70 rfl) (by decide) (fun h113 => ?_) (fun h113 => ?_)
      · refine b_iinc1 (pc := 119) (i := 4) (lv' := [(4, _), (3, _), (0, _), (1, _), (2, _)]) (dd dtX11_fit 73 rfl) rfl (Nat.le_of_ble_eq_true rfl) rfl ?_
        refine b_goto (pc := 122) (tgt := 84) (dd dtX11_fit 74 rfl) (by decide) ?_
        rw [nI_1]
        refine ih (h + 1) _ hlt (by omega) rfl ?_
        · simp only [cx40 hs (show h < 40 by omega), cx40 hs (show k < 40 by omega)] at h113
          intro j hj
          rcases Nat.lt_succ_iff_lt_or_eq.mp hj with q | q
          · exact hI j q
          · subst q; exact h113
      · refine b_pick [1, 2, 3, 4] (lv' := [(3, _), (0, _), (1, _), (2, _)]) rfl ?_
        simp only [cx40 hs (show h < 40 by omega), cx40 hs (show k < 40 by omega)] at h113
        exact kb (fun q => q h hlt h113)
set_option maxHeartbeats 4000000 in
theorem q50 {J : Wd} {z L K : Nat} {kn s : Int32} (hs : inR s 0 3) (hz : J 45 s.toNatClampNeg = nI z) (hF : FF (ist J 0 34 (nI z)) z L) (hK : J 0 21 = nI K) (hK2 : K ≤ 30) : ∀ (n h : Nat) (x3 : Int32), h ≤ z → z < h + n → x3 = nI h → (ucM (itM J s) h) → Bd SyM mX11_fit 3 50 [(3, .int x3), (0, .ref 0), (1, .int s), (2, .int kn)] [] J (some (.int (if ucM (itM J s) z then fitVM J K L z s kn else -2))) (if ucM (itM J s) z then (fitRM J K L z s kn).2.2 else J) := by
  intro n
  induction n with
  | zero => intro h x3 h1 h2; omega
  | succ n ih =>
    intro h x3 h1 h2 e3 hI
    subst e3
    obtain ⟨hz0, hz2, hL, hL2, hS⟩ := id hF
    refine b_iload_n (pc := 50) (i := 3) (dd dtX11_fit 30 rfl) rfl rfl ?_
    refine b_aload_n (pc := 51) (i := 0) (dd dtX11_fit 31 rfl) rfl rfl ?_
    refine b_geta (pc := 52) (dd dtX11_fit 32 rfl) fwX11_239 pM_0 rM_0_74 ?_
    refine b_iload_n (pc := 55) (i := 1) (dd dtX11_fit 33 rfl) rfl rfl ?_
    refine b_iald (pc := 56) (dd dtX11_fit 34 rfl) pM_45 (vs4 hs) ?_
    refine b_icmpL_ge (pc := 57) (tgt := 131) (dd dtX11_fit 35 rfl) (by decide) (fun h57 => ?_) (fun h57 => ?_)
    · rw [hz] at h57
      have he : h = z := Nat.le_antisymm h1 (ge_n h57 (by omega))
      subst he
      refine b_aload_n (pc := 131) (i := 0) (dd dtX11_fit 77 rfl) rfl rfl ?_
      refine b_aload_n (pc := 132) (i := 0) (dd dtX11_fit 78 rfl) rfl rfl ?_
      refine b_geta (pc := 133) (dd dtX11_fit 79 rfl) fwX11_239 pM_0 rM_0_74 ?_
      refine b_iload_n (pc := 136) (i := 1) (dd dtX11_fit 80 rfl) rfl rfl ?_
      refine b_iald (pc := 137) (dd dtX11_fit 81 rfl) pM_45 (vs4 hs) ?_
      refine b_puti (pc := 138) (dd dtX11_fit 82 rfl) fwX11_118 pM_0 ?_
      refine b_ic0 (pc := 141) (dd dtX11_fit 83 rfl) ?_
      refine b_istore_n (pc := 142) (i := 3) (lv' := [(3, _), (0, _), (1, _), (2, _)]) (dd dtX11_fit 84 rfl) rfl (Nat.le_of_ble_eq_true rfl) rfl ?_
      rw [if_pos hI, if_pos hI, hz]
      exact q143 hs hF hK hK2 (h + 1) 0 _ _ (Nat.zero_le _) (by omega) rfl rfl
    · rw [hz] at h57
      have hlt : h < z := lt_n h57 (by omega) (by omega)
      refine b_aload_n (pc := 60) (i := 0) (dd dtX11_fit 36 rfl) rfl rfl ?_
      refine b_aload_n (pc := 61) (i := 0) (dd dtX11_fit 37 rfl) rfl rfl ?_
      refine b_geta (pc := 62) (dd dtX11_fit 38 rfl) fwX11_242 pM_0 rM_0_75 ?_
      refine b_bipush (pc := 65) (v := 40) (dd dtX11_fit 39 rfl) (by decide) ?_
      refine b_iload_n (pc := 67) (i := 1) (dd dtX11_fit 40 rfl) rfl rfl ?_
      refine b_imul (pc := 68) (dd dtX11_fit 41 rfl) ?_
      refine b_iload_n (pc := 69) (i := 3) (dd dtX11_fit 42 rfl) rfl rfl ?_
      refine b_iadd (pc := 70) (dd dtX11_fit 43 rfl) ?_
      refine b_iald (pc := 71) (dd dtX11_fit 44 rfl) pM_46 (vx40 hs (show h < 40 by omega)) ?_
      refine b_invV (pc := 72) (dd dtX11_fit 45 rfl) mlX11_248 mvX11_isCell miX11_isCell (c_X11_isCell) oM_0 rfl rfl (by decide) (Nat.le_of_ble_eq_true rfl) ?_
      refine b_ifb_ne (pc := 75) (tgt := 81) (dd dtX11_fit 46 rfl) (by decide) (fun h75 => ?_) (fun h75 => ?_)
      · simp only [cx40 hs (show h < 40 by omega)] at h75
        refine b_ic0 (pc := 81) (dd dtX11_fit 49 rfl) ?_
        refine b_istore (pc := 82) (i := 4) (lv' := [(4, _), (3, _), (0, _), (1, _), (2, _)]) (dd dtX11_fit 50 rfl) (Nat.le_of_ble_eq_true rfl) rfl ?_
        refine q84 hs hz2 hlt (fun hh => ?_) (fun hn => ?_) (h + 1) 0 _ (Nat.zero_le _) (by omega) rfl (fun j hj => absurd hj (Nat.not_lt_zero j))
        · refine b_iinc1 (pc := 125) (i := 3) (lv' := [(3, _), (0, _), (1, _), (2, _)]) (dd dtX11_fit 75 rfl) rfl (Nat.le_of_ble_eq_true rfl) rfl ?_
          refine b_goto (pc := 128) (tgt := 50) (dd dtX11_fit 76 rfl) (by decide) ?_
          rw [nI_1]
          refine ih (h + 1) _ hlt (by omega) rfl ?_
          intro j hj
          rcases Nat.lt_succ_iff_lt_or_eq.mp hj with q | q
          · exact hI j q
          · subst q; exact ⟨h75, hh⟩
        · have hno : ¬ ucM (itM J s) z := fun q => hn (q h hlt).2
          rw [if_neg hno, if_neg hno]
          refine b_bipush (pc := 116) (v := -2) (dd dtX11_fit 71 rfl) (by decide) ?_
          exact b_eq (b_iret (dd dtX11_fit 72 rfl) rfl) rfl rfl
      · simp only [cx40 hs (show h < 40 by omega)] at h75
        have hno : ¬ ucM (itM J s) z := fun q => h75 (q h hlt).1
        rw [if_neg hno, if_neg hno]
        refine b_bipush (pc := 78) (v := -2) (dd dtX11_fit 47 rfl) (by decide) ?_
        exact b_eq (b_iret (dd dtX11_fit 48 rfl) rfl) rfl rfl
set_option maxHeartbeats 4000000 in
theorem c_X11_fit {J : Wd} {z L K : Nat} {kn s : Int32} (hz0 : inR s 0 3 → J 45 s.toNatClampNeg = nI z ∧ z ≤ 40) (hK : J 0 21 = nI K) (hK2 : K ≤ 30) (hL : J 0 30 = nI L) (hL2 : L ≤ 8) (hS : ∀ i, i < 5 → J 26 i = tbSizes.getD i 0) : Cal SyM mX11_fit 3 [.ref 0, .int s, .int kn] J (some (.int (vFitM J K L z s kn))) (if okFitM J z s kn then (fitRM J K L z s kn).2.2 else J) := by
  refine Cal.of (by decide) (Nat.le_of_ble_eq_true rfl) ?_
  show Bd _ _ _ _ [(0, _), (1, _), (2, _)] _ _ _ _
  refine b_aload_n (pc := 0) (i := 0) (dd dtX11_fit 0 rfl) rfl rfl ?_
  refine b_iload_n (pc := 1) (i := 1) (dd dtX11_fit 1 rfl) rfl rfl ?_
  refine b_invV (pc := 2) (dd dtX11_fit 2 rfl) mlX11_297 mvX11_isSheet miX11_isSheet (c_X11_isSheet) oM_0 rfl rfl (by decide) (Nat.le_of_ble_eq_true rfl) ?_
  refine b_ifb_ne (pc := 5) (tgt := 10) (dd dtX11_fit 3 rfl) (by decide) (fun h5 => ?_) (fun h5 => ?_)
  · obtain ⟨hz, hz2⟩ := hz0 h5
    clear hz0
    refine b_aload_n (pc := 10) (i := 0) (dd dtX11_fit 6 rfl) rfl rfl ?_
    refine b_geta (pc := 11) (dd dtX11_fit 7 rfl) fwX11_236 pM_0 rM_0_73 ?_
    refine b_iload_n (pc := 14) (i := 1) (dd dtX11_fit 8 rfl) rfl rfl ?_
    refine b_iald (pc := 15) (dd dtX11_fit 9 rfl) pM_44 (vs4 h5) ?_
    refine b_ifL_ge (pc := 16) (tgt := 22) (dd dtX11_fit 10 rfl) (by decide) (fun h16 => ?_) (fun h16 => ?_)
    · refine b_aload_n (pc := 22) (i := 0) (dd dtX11_fit 13 rfl) rfl rfl ?_
      refine b_aload_n (pc := 23) (i := 0) (dd dtX11_fit 14 rfl) rfl rfl ?_
      refine b_geta (pc := 24) (dd dtX11_fit 15 rfl) fwX11_239 pM_0 rM_0_74 ?_
      refine b_iload_n (pc := 27) (i := 1) (dd dtX11_fit 16 rfl) rfl rfl ?_
      refine b_iald (pc := 28) (dd dtX11_fit 17 rfl) pM_45 (vs4 h5) ?_
      rw [hz]
      refine b_ic1 (pc := 29) (dd dtX11_fit 18 rfl) ?_
      refine b_ic5 (pc := 30) (dd dtX11_fit 19 rfl) ?_
      refine b_invV (pc := 31) (dd dtX11_fit 20 rfl) mlX11_1 mvX11_in miX11_in (c_X11_in) oM_0 rfl rfl (by decide) (Nat.le_of_ble_eq_true rfl) ?_
      refine b_ifb_eq (pc := 34) (tgt := 45) (dd dtX11_fit 21 rfl) (by decide) (fun h34 => ?_) (fun h34 => ?_)
      · refine b_bipush (pc := 45) (v := -2) (dd dtX11_fit 26 rfl) (by decide) ?_
        refine b_eq (b_iret (dd dtX11_fit 27 rfl) rfl) ?_ ?_
        · (try clear hz); (try clear hz0); simp [vFitM, inR, -Int32.not_lt, -Int32.not_le, *]
        · (try clear hz); (try clear hz0); simp [okFitM, inR, -Int32.not_lt, -Int32.not_le, *]
      · refine b_aload_n (pc := 37) (i := 0) (dd dtX11_fit 22 rfl) rfl rfl ?_
        refine b_iload_n (pc := 38) (i := 2) (dd dtX11_fit 23 rfl) rfl rfl ?_
        refine b_invV (pc := 39) (dd dtX11_fit 24 rfl) mlX11_277 mvX11_isKnown miX11_isKnown (c_X11_isKnown) oM_0 rfl rfl (by decide) (Nat.le_of_ble_eq_true rfl) ?_
        refine b_ifb_ne (pc := 42) (tgt := 48) (dd dtX11_fit 25 rfl) (by decide) (fun h42 => ?_) (fun h42 => ?_)
        · refine b_ic0 (pc := 48) (dd dtX11_fit 28 rfl) ?_
          refine b_istore_n (pc := 49) (i := 3) (lv' := [(3, _), (0, _), (1, _), (2, _)]) (dd dtX11_fit 29 rfl) rfl (Nat.le_of_ble_eq_true rfl) rfl ?_
          have z5 := le5 h34 hz2
          have hF : FF (ist J 0 34 (nI z)) z L := ⟨by rw [ist_eq, upd_eq], z5, by rw [ist_eq, upd_ne (by decide)]; exact hL, hL2, by intro i hi; rw [ist_ne (by decide)]; exact hS i hi⟩
          refine b_eq (q50 h5 hz hF hK hK2 (z + 1) 0 _ (Nat.zero_le _) (by omega) rfl (fun j hj => absurd hj (Nat.not_lt_zero j))) ?_ ?_
          · unfold vFitM
            rw [if_pos h5, if_neg h16, if_pos (show inR (nI z) 1 5 ∧ inR kn 0 (J 0 0) from ⟨h34, h42⟩)]
          · by_cases hu : ucM (itM J s) z
            · rw [if_pos hu, if_pos (show okFitM J z s kn from ⟨h5, h16, h34, h42, hu⟩)]
            · rw [if_neg hu, if_neg (show ¬ okFitM J z s kn from fun q => hu q.2.2.2.2)]
        · refine b_bipush (pc := 45) (v := -2) (dd dtX11_fit 26 rfl) (by decide) ?_
          refine b_eq (b_iret (dd dtX11_fit 27 rfl) rfl) ?_ ?_
          · (try clear hz); (try clear hz0); simp [vFitM, inR, -Int32.not_lt, -Int32.not_le, *]
          · (try clear hz); (try clear hz0); simp [okFitM, inR, -Int32.not_lt, -Int32.not_le, *]
    · refine b_bipush (pc := 19) (v := -11) (dd dtX11_fit 11 rfl) (by decide) ?_
      refine b_eq (b_iret (dd dtX11_fit 12 rfl) rfl) ?_ ?_
      · (try clear hz); (try clear hz0); simp [vFitM, inR, -Int32.not_lt, -Int32.not_le, *]
      · (try clear hz); (try clear hz0); simp [okFitM, inR, -Int32.not_lt, -Int32.not_le, *]
  · refine b_icm1 (pc := 8) (dd dtX11_fit 4 rfl) ?_
    refine b_eq (b_iret (dd dtX11_fit 5 rfl) rfl) ?_ ?_
    · (try clear hz); (try clear hz0); simp [vFitM, inR, -Int32.not_lt, -Int32.not_le, *]
    · (try clear hz); (try clear hz0); simp [okFitM, inR, -Int32.not_lt, -Int32.not_le, *]
