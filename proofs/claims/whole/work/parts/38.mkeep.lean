/-! the reference's images -/
theorem rfil_upd {b : Nat} {a f : Nat → Int32} {n x : Nat} {v : Int32} (h : x < b ∨ b + n ≤ x) : upd (rfil b a f n) x v = rfil b a (upd f x v) n := by
  funext i
  unfold upd rfil
  by_cases e : i = x
  · subst e; simp [show ¬ (b ≤ i ∧ i < b + n) by omega]
  · simp [e]
theorem vk {b c h : Nat} {x : Int32} (hx : x = nI c) (hb : b + c + h < 620) : vp_in (nI b + x + nI h) 620 := by rw [hx, nI_add, nI_add]; exact vpn rfl hb (by decide)
theorem ck {b c h : Nat} {x : Int32} (hx : x = nI c) (hb : b + c + h < 620) : (nI b + x + nI h).toNatClampNeg = b + c + h := by rw [hx, nI_add, nI_add]; exact nI_clamp (by omega)
def kpA (J : Wd) (b : Nat) (K : Nat → Int32) (h : Nat) : Nat → Int32 := rfil (b + 10) (J 1) (rfil (b + 74) (J 2) (rfil (b + 138) (J 3) (rfil (b + 202) (J 4) K h) h) h) h
theorem kpA_s {J : Wd} {b h : Nat} {K : Nat → Int32} (hh : h < 64) : upd (upd (upd (upd (kpA J b K h) (b + 10 + h) (J 1 h)) (b + 74 + h) (J 2 h)) (b + 138 + h) (J 3 h)) (b + 202 + h) (J 4 h) = kpA J b K (h + 1) := by
  unfold kpA
  rw [rfil_s rfl, rfil_upd (by omega), rfil_s rfl, rfil_upd (by omega), rfil_upd (by omega), rfil_upd (by omega), rfil_s rfl, rfil_upd (by omega), rfil_upd (by omega), rfil_s rfl]
def mvF (J : Wd) (i : Nat) : Int32 := if J 16 i = 0 then 0 else 1
def kpB (J : Wd) (b : Nat) (K : Nat → Int32) (h : Nat) : Nat → Int32 := rfil (b + 266) (J 13) (rfil (b + 280) (mvF J) K h) h
theorem kpB_s {J : Wd} {b h : Nat} {K : Nat → Int32} (hh : h < 14) : upd (upd (kpB J b K h) (b + 266 + h) (J 13 h)) (b + 280 + h) (mvF J h) = kpB J b K (h + 1) := by
  unfold kpB
  rw [rfil_s rfl, rfil_upd (by omega), rfil_s rfl]
def kpC (J : Wd) (b : Nat) (K : Nat → Int32) (h : Nat) : Nat → Int32 := rfil (b + 294) (J 15) K h
def kpD (J : Wd) (b : Nat) (K : Nat → Int32) (h : Nat) : Nat → Int32 := rfil (b + 300) (J 8) (rfil (b + 304) (J 9) K h) h
theorem kpD_s {J : Wd} {b h : Nat} {K : Nat → Int32} (hh : h < 4) : upd (upd (kpD J b K h) (b + 300 + h) (J 8 h)) (b + 304 + h) (J 9 h) = kpD J b K (h + 1) := by
  unfold kpD
  rw [rfil_s rfl, rfil_upd (by omega), rfil_s rfl]
def kpZ (J : Wd) (b : Nat) : Nat → Int32 := upd (upd (upd (J 43) b (J 0 0)) (b + 1) (J 0 1)) (b + 2) (J 0 2)
def keepF (J : Wd) (b : Nat) : Nat → Int32 := kpD J b (kpC J b (kpB J b (kpA J b (kpZ J b) 64) 14) 6) 4
def keepW (J : Wd) (b : Nat) : Wd := rset J 43 (keepF J b)
theorem kpA_0 {J : Wd} {b : Nat} {K : Nat → Int32} : kpA J b K 0 = K := by unfold kpA; simp only [rfil_0]
theorem kpB_0 {J : Wd} {b : Nat} {K : Nat → Int32} : kpB J b K 0 = K := by unfold kpB; simp only [rfil_0]
theorem kpC_0 {J : Wd} {b : Nat} {K : Nat → Int32} : kpC J b K 0 = K := by unfold kpC; simp only [rfil_0]
theorem kpD_0 {J : Wd} {b : Nat} {K : Nat → Int32} : kpD J b K 0 = K := by unfold kpD; simp only [rfil_0]
theorem keepW_fr {J : Wd} {b a : Nat} (h : a ≠ 43) : keepW J b a = J a := rset_ne h
theorem keep_at {J : Wd} {b i : Nat} :
    keepF J b b = J 0 0 ∧ keepF J b (b + 1) = J 0 1 ∧ keepF J b (b + 2) = J 0 2 ∧
    (i < 64 → keepF J b (b + 10 + i) = J 1 i ∧ keepF J b (b + 74 + i) = J 2 i ∧ keepF J b (b + 138 + i) = J 3 i ∧ keepF J b (b + 202 + i) = J 4 i) ∧
    (i < 14 → keepF J b (b + 266 + i) = J 13 i ∧ keepF J b (b + 280 + i) = mvF J i) ∧ (i < 6 → keepF J b (b + 294 + i) = J 15 i) ∧
    (i < 4 → keepF J b (b + 300 + i) = J 8 i ∧ keepF J b (b + 304 + i) = J 9 i) := by
  unfold keepF kpD kpC kpB kpA kpZ
  refine ⟨?_, ?_, ?_, fun h => ⟨?_, ?_, ?_, ?_⟩, fun h => ⟨?_, ?_⟩, fun h => ?_, fun h => ⟨?_, ?_⟩⟩ <;> simp (disch := omega) only [rfil_out, rfil_in, Nat.add_sub_cancel_left, upd_ne, upd_eq]
theorem keep_off {J : Wd} {b x : Nat} (h : x < b ∨ b + 308 ≤ x) : keepF J b x = J 43 x := by
  unfold keepF kpD kpC kpB kpA kpZ
  simp (disch := omega) only [rfil_out, upd_ne]
def tX11_keep : List (Nat × Instr × Nat) := [(0, .aload_n 0, 1), (1, .getfield 221, 3), (4, .iload_n 1, 1), (5, .aload_n 0, 1), (6, .getfield 13, 3), (9, .iastore, 1), (10, .aload_n 0, 1), (11, .getfield 221, 3), (14, .iload_n 1, 1), (15, .iconst 1, 1), (16, .iadd, 1), (17, .aload_n 0, 1), (18, .getfield 17, 3), (21, .iastore, 1), (22, .aload_n 0, 1), (23, .getfield 221, 3), (26, .iload_n 1, 1), (27, .iconst 2, 1), (28, .iadd, 1), (29, .aload_n 0, 1), (30, .getfield 20, 3), (33, .iastore, 1), (34, .iconst 0, 1), (35, .istore_n 2, 1), (36, .iload_n 2, 1), (37, .bipush 64, 2), (39, .if_icmp .ge 79, 3), (42, .aload_n 0, 1), (43, .getfield 221, 3), (46, .iload_n 1, 1), (47, .bipush 10, 2), (49, .iadd, 1), (50, .iload_n 2, 1), (51, .iadd, 1), (52, .aload_n 0, 1), (53, .getfield 29, 3), (56, .iload_n 2, 1), (57, .iaload, 1), (58, .iastore, 1), (59, .aload_n 0, 1), (60, .getfield 221, 3), (63, .iload_n 1, 1), (64, .bipush 74, 2), (66, .iadd, 1), (67, .iload_n 2, 1), (68, .iadd, 1), (69, .aload_n 0, 1), (70, .getfield 33, 3), (73, .iload_n 2, 1), (74, .iaload, 1), (75, .iastore, 1), (76, .aload_n 0, 1), (77, .getfield 221, 3), (80, .iload_n 1, 1), (81, .sipush 138, 3), (84, .iadd, 1), (85, .iload_n 2, 1), (86, .iadd, 1), (87, .aload_n 0, 1), (88, .getfield 36, 3), (91, .iload_n 2, 1), (92, .iaload, 1), (93, .iastore, 1), (94, .aload_n 0, 1), (95, .getfield 221, 3), (98, .iload_n 1, 1), (99, .sipush 202, 3), (102, .iadd, 1), (103, .iload_n 2, 1), (104, .iadd, 1), (105, .aload_n 0, 1), (106, .getfield 39, 3), (109, .iload_n 2, 1), (110, .iaload, 1), (111, .iastore, 1), (112, .iinc 2 1, 3), (115, .goto (-79), 3), (118, .iconst 0, 1), (119, .istore_n 2, 1), (120, .iload_n 2, 1), (121, .bipush 14, 2), (123, .if_icmp .ge 53, 3), (126, .aload_n 0, 1), (127, .getfield 221, 3), (130, .iload_n 1, 1), (131, .sipush 266, 3), (134, .iadd, 1), (135, .iload_n 2, 1), (136, .iadd, 1), (137, .aload_n 0, 1), (138, .getfield 66, 3), (141, .iload_n 2, 1), (142, .iaload, 1), (143, .iastore, 1), (144, .aload_n 0, 1), (145, .getfield 221, 3), (148, .iload_n 1, 1), (149, .sipush 280, 3), (152, .iadd, 1), (153, .iload_n 2, 1), (154, .iadd, 1), (155, .aload_n 0, 1), (156, .getfield 75, 3), (159, .iload_n 2, 1), (160, .baload, 1), (161, .ifCond .eq 7, 3), (164, .iconst 1, 1), (165, .goto 4, 3), (168, .iconst 0, 1), (169, .iastore, 1), (170, .iinc 2 1, 3), (173, .goto (-53), 3), (176, .iconst 0, 1), (177, .istore_n 2, 1), (178, .iload_n 2, 1), (179, .bipush 6, 2), (181, .if_icmp .ge 27, 3), (184, .aload_n 0, 1), (185, .getfield 221, 3), (188, .iload_n 1, 1), (189, .sipush 294, 3), (192, .iadd, 1), (193, .iload_n 2, 1), (194, .iadd, 1), (195, .aload_n 0, 1), (196, .getfield 72, 3), (199, .iload_n 2, 1), (200, .iaload, 1), (201, .iastore, 1), (202, .iinc 2 1, 3), (205, .goto (-27), 3), (208, .iconst 0, 1), (209, .istore_n 2, 1), (210, .iload_n 2, 1), (211, .iconst 4, 1), (212, .if_icmp .ge 45, 3), (215, .aload_n 0, 1), (216, .getfield 221, 3), (219, .iload_n 1, 1), (220, .sipush 300, 3), (223, .iadd, 1), (224, .iload_n 2, 1), (225, .iadd, 1), (226, .aload_n 0, 1), (227, .getfield 51, 3), (230, .iload_n 2, 1), (231, .iaload, 1), (232, .iastore, 1), (233, .aload_n 0, 1), (234, .getfield 221, 3), (237, .iload_n 1, 1), (238, .sipush 304, 3), (241, .iadd, 1), (242, .iload_n 2, 1), (243, .iadd, 1), (244, .aload_n 0, 1), (245, .getfield 54, 3), (248, .iload_n 2, 1), (249, .iaload, 1), (250, .iastore, 1), (251, .iinc 2 1, 3), (254, .goto (-44), 3), (257, .return_, 1)]
theorem dtX11_keep : dec_ok mX11_keep.2.1 tX11_keep = true := by decide +kernel
theorem ist43 {J : Wd} {f : Nat → Int32} {x : Nat} {v : Int32} : ist (rset J 43 f) 43 x v = rset J 43 (upd f x v) := ist_rset
set_option maxHeartbeats 4000000 in
theorem k210 {J I0 : Wd} {b : Nat} (hb : b ≤ 310) (hJ : ∀ a, a ≠ 43 → J a = I0 a) : ∀ (n h : Nat) (x2 : Int32) (I2 : Wd), h ≤ 4 → 4 < h + n → x2 = nI h → I2 = (rset J 43 (kpD I0 b (J 43) h)) → Bd SyM mX11_keep 0 210 [(2, .int x2), (0, .ref 0), (1, .int (nI b))] [] I2 none (rset J 43 (kpD I0 b (J 43) 4)) := by
  intro n
  induction n with
  | zero => intro h x2 I2 h1 h2; omega
  | succ n ih =>
    intro h x2 I2 h1 h2 e2 eW
    subst e2; subst eW
    refine b_iload_n (pc := 210) (i := 2) (dd dtX11_keep 133 rfl) rfl rfl ?_
    refine b_ic4 (pc := 211) (dd dtX11_keep 134 rfl) ?_
    refine b_icmpL_ge (pc := 212) (tgt := 257) (dd dtX11_keep 135 rfl) (by decide) (fun h212 => ?_) (fun h212 => ?_)
    · rw [show (4 : Int32) = nI 4 from rfl] at h212
      have he : h = 4 := Nat.le_antisymm h1 (ge_n h212 (by omega))
      subst he
      exact b_eq (b_vret (dd dtX11_keep 162 rfl) rfl) rfl rfl
    · rw [show (4 : Int32) = nI 4 from rfl] at h212
      have hlt : h < 4 := lt_n h212 (by omega) (by omega)
      refine b_aload_n (pc := 215) (i := 0) (dd dtX11_keep 136 rfl) rfl rfl ?_
      refine b_geta (pc := 216) (dd dtX11_keep 137 rfl) fwX11_221 pM_0 rM_0_68 ?_
      refine b_iload_n (pc := 219) (i := 1) (dd dtX11_keep 138 rfl) rfl rfl ?_
      refine b_sipush (pc := 220) (v := 300) (dd dtX11_keep 139 rfl) (by decide) ?_
      refine b_iadd (pc := 223) (dd dtX11_keep 140 rfl) ?_
      refine b_iload_n (pc := 224) (i := 2) (dd dtX11_keep 141 rfl) rfl rfl ?_
      refine b_iadd (pc := 225) (dd dtX11_keep 142 rfl) ?_
      refine b_aload_n (pc := 226) (i := 0) (dd dtX11_keep 143 rfl) rfl rfl ?_
      refine b_geta (pc := 227) (dd dtX11_keep 144 rfl) fwX11_51 pM_0 rM_0_12 ?_
      refine b_iload_n (pc := 230) (i := 2) (dd dtX11_keep 145 rfl) rfl rfl ?_
      refine b_iald (pc := 231) (dd dtX11_keep 146 rfl) pM_8 (vpn rfl (show h < 4 by omega) (by decide)) ?_
      refine b_iast (pc := 232) (dd dtX11_keep 147 rfl) pM_43 (vk (show (300 : Int32) = nI 300 from rfl) (by omega)) ?_
      refine b_aload_n (pc := 233) (i := 0) (dd dtX11_keep 148 rfl) rfl rfl ?_
      refine b_geta (pc := 234) (dd dtX11_keep 149 rfl) fwX11_221 pM_0 rM_0_68 ?_
      refine b_iload_n (pc := 237) (i := 1) (dd dtX11_keep 150 rfl) rfl rfl ?_
      refine b_sipush (pc := 238) (v := 304) (dd dtX11_keep 151 rfl) (by decide) ?_
      refine b_iadd (pc := 241) (dd dtX11_keep 152 rfl) ?_
      refine b_iload_n (pc := 242) (i := 2) (dd dtX11_keep 153 rfl) rfl rfl ?_
      refine b_iadd (pc := 243) (dd dtX11_keep 154 rfl) ?_
      refine b_aload_n (pc := 244) (i := 0) (dd dtX11_keep 155 rfl) rfl rfl ?_
      refine b_geta (pc := 245) (dd dtX11_keep 156 rfl) fwX11_54 pM_0 rM_0_13 ?_
      refine b_iload_n (pc := 248) (i := 2) (dd dtX11_keep 157 rfl) rfl rfl ?_
      refine b_iald (pc := 249) (dd dtX11_keep 158 rfl) pM_9 (vpn rfl (show h < 4 by omega) (by decide)) ?_
      refine b_iast (pc := 250) (dd dtX11_keep 159 rfl) pM_43 (vk (show (304 : Int32) = nI 304 from rfl) (by omega)) ?_
      refine b_iinc1 (pc := 251) (i := 2) (lv' := [(2, _), (0, _), (1, _)]) (dd dtX11_keep 160 rfl) rfl (Nat.le_of_ble_eq_true rfl) rfl ?_
      refine b_goto (pc := 254) (tgt := 210) (dd dtX11_keep 161 rfl) (by decide) ?_
      rw [nI_1]
      refine ih (h + 1) _ _ hlt (by omega) rfl ?_
      · simp (disch := decide) only [ist43, rset_ne, hJ, nI_clamp (show h < 2 ^ 31 by omega), ck (show (300 : Int32) = nI 300 from rfl) (show b + 300 + h < 620 by omega), ck (show (304 : Int32) = nI 304 from rfl) (show b + 304 + h < 620 by omega)]
        rw [kpD_s hlt]
set_option maxHeartbeats 4000000 in
theorem k178 {J I0 : Wd} {b : Nat} (hb : b ≤ 310) (hJ : ∀ a, a ≠ 43 → J a = I0 a) : ∀ (n h : Nat) (x2 : Int32) (I2 : Wd), h ≤ 6 → 6 < h + n → x2 = nI h → I2 = (rset J 43 (kpC I0 b (J 43) h)) → Bd SyM mX11_keep 0 178 [(2, .int x2), (0, .ref 0), (1, .int (nI b))] [] I2 none (rset J 43 (kpD I0 b (kpC I0 b (J 43) 6) 4)) := by
  intro n
  induction n with
  | zero => intro h x2 I2 h1 h2; omega
  | succ n ih =>
    intro h x2 I2 h1 h2 e2 eW
    subst e2; subst eW
    refine b_iload_n (pc := 178) (i := 2) (dd dtX11_keep 114 rfl) rfl rfl ?_
    refine b_bipush (pc := 179) (v := 6) (dd dtX11_keep 115 rfl) (by decide) ?_
    refine b_icmpL_ge (pc := 181) (tgt := 208) (dd dtX11_keep 116 rfl) (by decide) (fun h181 => ?_) (fun h181 => ?_)
    · rw [show (6 : Int32) = nI 6 from rfl] at h181
      have he : h = 6 := Nat.le_antisymm h1 (ge_n h181 (by omega))
      subst he
      refine b_ic0 (pc := 208) (dd dtX11_keep 131 rfl) ?_
      refine b_istore_n (pc := 209) (i := 2) (lv' := [(2, _), (0, _), (1, _)]) (dd dtX11_keep 132 rfl) rfl (Nat.le_of_ble_eq_true rfl) rfl ?_
      refine b_eq (k210 (I0 := I0) (J := rset J 43 (kpC I0 b (J 43) 6)) hb (fun a h => by rw [rset_ne h]; exact hJ a h) 5 0 _ _ (Nat.zero_le _) (by omega) rfl (by rw [kpD_0, rset_id])) rfl ?_
      rw [rset_rset, rset_eq]
    · rw [show (6 : Int32) = nI 6 from rfl] at h181
      have hlt : h < 6 := lt_n h181 (by omega) (by omega)
      refine b_aload_n (pc := 184) (i := 0) (dd dtX11_keep 117 rfl) rfl rfl ?_
      refine b_geta (pc := 185) (dd dtX11_keep 118 rfl) fwX11_221 pM_0 rM_0_68 ?_
      refine b_iload_n (pc := 188) (i := 1) (dd dtX11_keep 119 rfl) rfl rfl ?_
      refine b_sipush (pc := 189) (v := 294) (dd dtX11_keep 120 rfl) (by decide) ?_
      refine b_iadd (pc := 192) (dd dtX11_keep 121 rfl) ?_
      refine b_iload_n (pc := 193) (i := 2) (dd dtX11_keep 122 rfl) rfl rfl ?_
      refine b_iadd (pc := 194) (dd dtX11_keep 123 rfl) ?_
      refine b_aload_n (pc := 195) (i := 0) (dd dtX11_keep 124 rfl) rfl rfl ?_
      refine b_geta (pc := 196) (dd dtX11_keep 125 rfl) fwX11_72 pM_0 rM_0_19 ?_
      refine b_iload_n (pc := 199) (i := 2) (dd dtX11_keep 126 rfl) rfl rfl ?_
      refine b_iald (pc := 200) (dd dtX11_keep 127 rfl) pM_15 (vpn rfl (show h < 6 by omega) (by decide)) ?_
      refine b_iast (pc := 201) (dd dtX11_keep 128 rfl) pM_43 (vk (show (294 : Int32) = nI 294 from rfl) (by omega)) ?_
      refine b_iinc1 (pc := 202) (i := 2) (lv' := [(2, _), (0, _), (1, _)]) (dd dtX11_keep 129 rfl) rfl (Nat.le_of_ble_eq_true rfl) rfl ?_
      refine b_goto (pc := 205) (tgt := 178) (dd dtX11_keep 130 rfl) (by decide) ?_
      rw [nI_1]
      refine ih (h + 1) _ _ hlt (by omega) rfl ?_
      · simp (disch := decide) only [ist43, rset_ne, hJ, nI_clamp (show h < 2 ^ 31 by omega), ck (show (294 : Int32) = nI 294 from rfl) (show b + 294 + h < 620 by omega)]
        rw [show upd (kpC I0 b (J 43) h) (b + 294 + h) (I0 15 h) = kpC I0 b (J 43) (h + 1) from rfil_s rfl]
set_option maxHeartbeats 4000000 in
theorem k120 {J I0 : Wd} {b : Nat} (hb : b ≤ 310) (hJ : ∀ a, a ≠ 43 → J a = I0 a) : ∀ (n h : Nat) (x2 : Int32) (I2 : Wd), h ≤ 14 → 14 < h + n → x2 = nI h → I2 = (rset J 43 (kpB I0 b (J 43) h)) → Bd SyM mX11_keep 0 120 [(2, .int x2), (0, .ref 0), (1, .int (nI b))] [] I2 none (rset J 43 (kpD I0 b (kpC I0 b (kpB I0 b (J 43) 14) 6) 4)) := by
  intro n
  induction n with
  | zero => intro h x2 I2 h1 h2; omega
  | succ n ih =>
    intro h x2 I2 h1 h2 e2 eW
    subst e2; subst eW
    refine b_iload_n (pc := 120) (i := 2) (dd dtX11_keep 79 rfl) rfl rfl ?_
    refine b_bipush (pc := 121) (v := 14) (dd dtX11_keep 80 rfl) (by decide) ?_
    refine b_icmpL_ge (pc := 123) (tgt := 176) (dd dtX11_keep 81 rfl) (by decide) (fun h123 => ?_) (fun h123 => ?_)
    · rw [show (14 : Int32) = nI 14 from rfl] at h123
      have he : h = 14 := Nat.le_antisymm h1 (ge_n h123 (by omega))
      subst he
      refine b_ic0 (pc := 176) (dd dtX11_keep 112 rfl) ?_
      refine b_istore_n (pc := 177) (i := 2) (lv' := [(2, _), (0, _), (1, _)]) (dd dtX11_keep 113 rfl) rfl (Nat.le_of_ble_eq_true rfl) rfl ?_
      refine b_eq (k178 (I0 := I0) (J := rset J 43 (kpB I0 b (J 43) 14)) hb (fun a h => by rw [rset_ne h]; exact hJ a h) 7 0 _ _ (Nat.zero_le _) (by omega) rfl (by rw [kpC_0, rset_id])) rfl ?_
      rw [rset_rset, rset_eq]
    · rw [show (14 : Int32) = nI 14 from rfl] at h123
      have hlt : h < 14 := lt_n h123 (by omega) (by omega)
      refine b_aload_n (pc := 126) (i := 0) (dd dtX11_keep 82 rfl) rfl rfl ?_
      refine b_geta (pc := 127) (dd dtX11_keep 83 rfl) fwX11_221 pM_0 rM_0_68 ?_
      refine b_iload_n (pc := 130) (i := 1) (dd dtX11_keep 84 rfl) rfl rfl ?_
      refine b_sipush (pc := 131) (v := 266) (dd dtX11_keep 85 rfl) (by decide) ?_
      refine b_iadd (pc := 134) (dd dtX11_keep 86 rfl) ?_
      refine b_iload_n (pc := 135) (i := 2) (dd dtX11_keep 87 rfl) rfl rfl ?_
      refine b_iadd (pc := 136) (dd dtX11_keep 88 rfl) ?_
      refine b_aload_n (pc := 137) (i := 0) (dd dtX11_keep 89 rfl) rfl rfl ?_
      refine b_geta (pc := 138) (dd dtX11_keep 90 rfl) fwX11_66 pM_0 rM_0_17 ?_
      refine b_iload_n (pc := 141) (i := 2) (dd dtX11_keep 91 rfl) rfl rfl ?_
      refine b_iald (pc := 142) (dd dtX11_keep 92 rfl) pM_13 (vpn rfl (show h < 14 by omega) (by decide)) ?_
      refine b_iast (pc := 143) (dd dtX11_keep 93 rfl) pM_43 (vk (show (266 : Int32) = nI 266 from rfl) (by omega)) ?_
      refine b_aload_n (pc := 144) (i := 0) (dd dtX11_keep 94 rfl) rfl rfl ?_
      refine b_geta (pc := 145) (dd dtX11_keep 95 rfl) fwX11_221 pM_0 rM_0_68 ?_
      refine b_iload_n (pc := 148) (i := 1) (dd dtX11_keep 96 rfl) rfl rfl ?_
      refine b_sipush (pc := 149) (v := 280) (dd dtX11_keep 97 rfl) (by decide) ?_
      refine b_iadd (pc := 152) (dd dtX11_keep 98 rfl) ?_
      refine b_iload_n (pc := 153) (i := 2) (dd dtX11_keep 99 rfl) rfl rfl ?_
      refine b_iadd (pc := 154) (dd dtX11_keep 100 rfl) ?_
      refine b_aload_n (pc := 155) (i := 0) (dd dtX11_keep 101 rfl) rfl rfl ?_
      refine b_geta (pc := 156) (dd dtX11_keep 102 rfl) fwX11_75 pM_0 rM_0_20 ?_
      refine b_iload_n (pc := 159) (i := 2) (dd dtX11_keep 103 rfl) rfl rfl ?_
      refine b_zald (pc := 160) (dd dtX11_keep 104 rfl) pM_16 (vpn rfl (show h < 14 by omega) (by decide)) ?_
      refine b_if_eq (pc := 161) (tgt := 168) (dd dtX11_keep 105 rfl) (by decide) (fun h161 => ?_) (fun h161 => ?_)
      · refine b_ic0 (pc := 168) (dd dtX11_keep 108 rfl) ?_
        refine b_iast (pc := 169) (dd dtX11_keep 109 rfl) pM_43 (vk (show (280 : Int32) = nI 280 from rfl) (by omega)) ?_
        refine b_iinc1 (pc := 170) (i := 2) (lv' := [(2, _), (0, _), (1, _)]) (dd dtX11_keep 110 rfl) rfl (Nat.le_of_ble_eq_true rfl) rfl ?_
        refine b_goto (pc := 173) (tgt := 120) (dd dtX11_keep 111 rfl) (by decide) ?_
        rw [nI_1]
        refine ih (h + 1) _ _ hlt (by omega) rfl ?_
        · simp (disch := decide) only [ist_ne, rset_ne, hJ, nI_clamp (show h < 2 ^ 31 by omega)] at h161
          simp (disch := decide) only [ist43, rset_ne, hJ, nI_clamp (show h < 2 ^ 31 by omega), ck (show (266 : Int32) = nI 266 from rfl) (show b + 266 + h < 620 by omega), ck (show (280 : Int32) = nI 280 from rfl) (show b + 280 + h < 620 by omega)]
          rw [← kpB_s hlt]
          unfold mvF
          first | rw [if_pos h161] | rw [if_neg h161]
      · refine b_ic1 (pc := 164) (dd dtX11_keep 106 rfl) ?_
        refine b_goto (pc := 165) (tgt := 169) (dd dtX11_keep 107 rfl) (by decide) ?_
        refine b_iast (pc := 169) (dd dtX11_keep 109 rfl) pM_43 (vk (show (280 : Int32) = nI 280 from rfl) (by omega)) ?_
        refine b_iinc1 (pc := 170) (i := 2) (lv' := [(2, _), (0, _), (1, _)]) (dd dtX11_keep 110 rfl) rfl (Nat.le_of_ble_eq_true rfl) rfl ?_
        refine b_goto (pc := 173) (tgt := 120) (dd dtX11_keep 111 rfl) (by decide) ?_
        rw [nI_1]
        refine ih (h + 1) _ _ hlt (by omega) rfl ?_
        · simp (disch := decide) only [ist_ne, rset_ne, hJ, nI_clamp (show h < 2 ^ 31 by omega)] at h161
          simp (disch := decide) only [ist43, rset_ne, hJ, nI_clamp (show h < 2 ^ 31 by omega), ck (show (266 : Int32) = nI 266 from rfl) (show b + 266 + h < 620 by omega), ck (show (280 : Int32) = nI 280 from rfl) (show b + 280 + h < 620 by omega)]
          rw [← kpB_s hlt]
          unfold mvF
          first | rw [if_pos h161] | rw [if_neg h161]
set_option maxHeartbeats 4000000 in
theorem k36 {J I0 : Wd} {b : Nat} (hb : b ≤ 310) (hJ : ∀ a, a ≠ 43 → J a = I0 a) : ∀ (n h : Nat) (x2 : Int32) (I2 : Wd), h ≤ 64 → 64 < h + n → x2 = nI h → I2 = (rset J 43 (kpA I0 b (J 43) h)) → Bd SyM mX11_keep 0 36 [(2, .int x2), (0, .ref 0), (1, .int (nI b))] [] I2 none (rset J 43 (kpD I0 b (kpC I0 b (kpB I0 b (kpA I0 b (J 43) 64) 14) 6) 4)) := by
  intro n
  induction n with
  | zero => intro h x2 I2 h1 h2; omega
  | succ n ih =>
    intro h x2 I2 h1 h2 e2 eW
    subst e2; subst eW
    refine b_iload_n (pc := 36) (i := 2) (dd dtX11_keep 24 rfl) rfl rfl ?_
    refine b_bipush (pc := 37) (v := 64) (dd dtX11_keep 25 rfl) (by decide) ?_
    refine b_icmpL_ge (pc := 39) (tgt := 118) (dd dtX11_keep 26 rfl) (by decide) (fun h39 => ?_) (fun h39 => ?_)
    · rw [show (64 : Int32) = nI 64 from rfl] at h39
      have he : h = 64 := Nat.le_antisymm h1 (ge_n h39 (by omega))
      subst he
      refine b_ic0 (pc := 118) (dd dtX11_keep 77 rfl) ?_
      refine b_istore_n (pc := 119) (i := 2) (lv' := [(2, _), (0, _), (1, _)]) (dd dtX11_keep 78 rfl) rfl (Nat.le_of_ble_eq_true rfl) rfl ?_
      refine b_eq (k120 (I0 := I0) (J := rset J 43 (kpA I0 b (J 43) 64)) hb (fun a h => by rw [rset_ne h]; exact hJ a h) 15 0 _ _ (Nat.zero_le _) (by omega) rfl (by rw [kpB_0, rset_id])) rfl ?_
      rw [rset_rset, rset_eq]
    · rw [show (64 : Int32) = nI 64 from rfl] at h39
      have hlt : h < 64 := lt_n h39 (by omega) (by omega)
      refine b_aload_n (pc := 42) (i := 0) (dd dtX11_keep 27 rfl) rfl rfl ?_
      refine b_geta (pc := 43) (dd dtX11_keep 28 rfl) fwX11_221 pM_0 rM_0_68 ?_
      refine b_iload_n (pc := 46) (i := 1) (dd dtX11_keep 29 rfl) rfl rfl ?_
      refine b_bipush (pc := 47) (v := 10) (dd dtX11_keep 30 rfl) (by decide) ?_
      refine b_iadd (pc := 49) (dd dtX11_keep 31 rfl) ?_
      refine b_iload_n (pc := 50) (i := 2) (dd dtX11_keep 32 rfl) rfl rfl ?_
      refine b_iadd (pc := 51) (dd dtX11_keep 33 rfl) ?_
      refine b_aload_n (pc := 52) (i := 0) (dd dtX11_keep 34 rfl) rfl rfl ?_
      refine b_geta (pc := 53) (dd dtX11_keep 35 rfl) fwX11_29 pM_0 rM_0_5 ?_
      refine b_iload_n (pc := 56) (i := 2) (dd dtX11_keep 36 rfl) rfl rfl ?_
      refine b_iald (pc := 57) (dd dtX11_keep 37 rfl) pM_1 (vpn rfl (show h < 64 by omega) (by decide)) ?_
      refine b_iast (pc := 58) (dd dtX11_keep 38 rfl) pM_43 (vk (show (10 : Int32) = nI 10 from rfl) (by omega)) ?_
      refine b_aload_n (pc := 59) (i := 0) (dd dtX11_keep 39 rfl) rfl rfl ?_
      refine b_geta (pc := 60) (dd dtX11_keep 40 rfl) fwX11_221 pM_0 rM_0_68 ?_
      refine b_iload_n (pc := 63) (i := 1) (dd dtX11_keep 41 rfl) rfl rfl ?_
      refine b_bipush (pc := 64) (v := 74) (dd dtX11_keep 42 rfl) (by decide) ?_
      refine b_iadd (pc := 66) (dd dtX11_keep 43 rfl) ?_
      refine b_iload_n (pc := 67) (i := 2) (dd dtX11_keep 44 rfl) rfl rfl ?_
      refine b_iadd (pc := 68) (dd dtX11_keep 45 rfl) ?_
      refine b_aload_n (pc := 69) (i := 0) (dd dtX11_keep 46 rfl) rfl rfl ?_
      refine b_geta (pc := 70) (dd dtX11_keep 47 rfl) fwX11_33 pM_0 rM_0_6 ?_
      refine b_iload_n (pc := 73) (i := 2) (dd dtX11_keep 48 rfl) rfl rfl ?_
      refine b_iald (pc := 74) (dd dtX11_keep 49 rfl) pM_2 (vpn rfl (show h < 64 by omega) (by decide)) ?_
      refine b_iast (pc := 75) (dd dtX11_keep 50 rfl) pM_43 (vk (show (74 : Int32) = nI 74 from rfl) (by omega)) ?_
      refine b_aload_n (pc := 76) (i := 0) (dd dtX11_keep 51 rfl) rfl rfl ?_
      refine b_geta (pc := 77) (dd dtX11_keep 52 rfl) fwX11_221 pM_0 rM_0_68 ?_
      refine b_iload_n (pc := 80) (i := 1) (dd dtX11_keep 53 rfl) rfl rfl ?_
      refine b_sipush (pc := 81) (v := 138) (dd dtX11_keep 54 rfl) (by decide) ?_
      refine b_iadd (pc := 84) (dd dtX11_keep 55 rfl) ?_
      refine b_iload_n (pc := 85) (i := 2) (dd dtX11_keep 56 rfl) rfl rfl ?_
      refine b_iadd (pc := 86) (dd dtX11_keep 57 rfl) ?_
      refine b_aload_n (pc := 87) (i := 0) (dd dtX11_keep 58 rfl) rfl rfl ?_
      refine b_geta (pc := 88) (dd dtX11_keep 59 rfl) fwX11_36 pM_0 rM_0_7 ?_
      refine b_iload_n (pc := 91) (i := 2) (dd dtX11_keep 60 rfl) rfl rfl ?_
      refine b_iald (pc := 92) (dd dtX11_keep 61 rfl) pM_3 (vpn rfl (show h < 64 by omega) (by decide)) ?_
      refine b_iast (pc := 93) (dd dtX11_keep 62 rfl) pM_43 (vk (show (138 : Int32) = nI 138 from rfl) (by omega)) ?_
      refine b_aload_n (pc := 94) (i := 0) (dd dtX11_keep 63 rfl) rfl rfl ?_
      refine b_geta (pc := 95) (dd dtX11_keep 64 rfl) fwX11_221 pM_0 rM_0_68 ?_
      refine b_iload_n (pc := 98) (i := 1) (dd dtX11_keep 65 rfl) rfl rfl ?_
      refine b_sipush (pc := 99) (v := 202) (dd dtX11_keep 66 rfl) (by decide) ?_
      refine b_iadd (pc := 102) (dd dtX11_keep 67 rfl) ?_
      refine b_iload_n (pc := 103) (i := 2) (dd dtX11_keep 68 rfl) rfl rfl ?_
      refine b_iadd (pc := 104) (dd dtX11_keep 69 rfl) ?_
      refine b_aload_n (pc := 105) (i := 0) (dd dtX11_keep 70 rfl) rfl rfl ?_
      refine b_geta (pc := 106) (dd dtX11_keep 71 rfl) fwX11_39 pM_0 rM_0_8 ?_
      refine b_iload_n (pc := 109) (i := 2) (dd dtX11_keep 72 rfl) rfl rfl ?_
      refine b_iald (pc := 110) (dd dtX11_keep 73 rfl) pM_4 (vpn rfl (show h < 64 by omega) (by decide)) ?_
      refine b_iast (pc := 111) (dd dtX11_keep 74 rfl) pM_43 (vk (show (202 : Int32) = nI 202 from rfl) (by omega)) ?_
      refine b_iinc1 (pc := 112) (i := 2) (lv' := [(2, _), (0, _), (1, _)]) (dd dtX11_keep 75 rfl) rfl (Nat.le_of_ble_eq_true rfl) rfl ?_
      refine b_goto (pc := 115) (tgt := 36) (dd dtX11_keep 76 rfl) (by decide) ?_
      rw [nI_1]
      refine ih (h + 1) _ _ hlt (by omega) rfl ?_
      · simp (disch := decide) only [ist43, rset_ne, hJ, nI_clamp (show h < 2 ^ 31 by omega), ck (show (10 : Int32) = nI 10 from rfl) (show b + 10 + h < 620 by omega), ck (show (74 : Int32) = nI 74 from rfl) (show b + 74 + h < 620 by omega), ck (show (138 : Int32) = nI 138 from rfl) (show b + 138 + h < 620 by omega), ck (show (202 : Int32) = nI 202 from rfl) (show b + 202 + h < 620 by omega)]
        rw [kpA_s hlt]
theorem kpz_eq {J : Wd} {b : Nat} {v0 v1 v2 : Int32} {x1 x2 : Nat} (h0 : v0 = J 0 0) (h1 : v1 = J 0 1) (h2 : v2 = J 0 2) (e1 : x1 = b + 1) (e2 : x2 = b + 2) : ist (ist (ist J 43 b v0) 43 x1 v1) 43 x2 v2 = rset J 43 (kpZ J b) := by
  rw [h0, h1, h2, e1, e2]
  have e : ∀ f x v, ist (rset J 43 f) 43 x v = rset J 43 (upd f x v) := fun _ _ _ => ist_rset
  rw [show ist J 43 b (J 0 0) = rset J 43 (upd (J 43) b (J 0 0)) from rfl, e, e]
  rfl
theorem nI_b1 {b : Nat} : nI b + 1 = nI (b + 1) := nI_add b 1
theorem nI_b2 {b : Nat} : nI b + 2 = nI (b + 2) := nI_add b 2
set_option maxHeartbeats 4000000 in
theorem c_X11_keep {J : Wd} {b : Nat} (hb : b ≤ 310) : Cal SyM mX11_keep 0 [.ref 0, .int (nI b)] J none (keepW J b) := by
  refine Cal.of (by decide) (Nat.le_of_ble_eq_true rfl) ?_
  show Bd _ _ _ _ [(0, _), (1, _)] _ _ _ _
  refine b_aload_n (pc := 0) (i := 0) (dd dtX11_keep 0 rfl) rfl rfl ?_
  refine b_geta (pc := 1) (dd dtX11_keep 1 rfl) fwX11_221 pM_0 rM_0_68 ?_
  refine b_iload_n (pc := 4) (i := 1) (dd dtX11_keep 2 rfl) rfl rfl ?_
  refine b_aload_n (pc := 5) (i := 0) (dd dtX11_keep 3 rfl) rfl rfl ?_
  refine b_geti (pc := 6) (dd dtX11_keep 4 rfl) fwX11_13 pM_0 ?_
  refine b_iast (pc := 9) (dd dtX11_keep 5 rfl) pM_43 (vpn rfl (show b < 620 by omega) (by decide)) ?_
  refine b_aload_n (pc := 10) (i := 0) (dd dtX11_keep 6 rfl) rfl rfl ?_
  refine b_geta (pc := 11) (dd dtX11_keep 7 rfl) fwX11_221 pM_0 rM_0_68 ?_
  refine b_iload_n (pc := 14) (i := 1) (dd dtX11_keep 8 rfl) rfl rfl ?_
  refine b_ic1 (pc := 15) (dd dtX11_keep 9 rfl) ?_
  refine b_iadd (pc := 16) (dd dtX11_keep 10 rfl) ?_
  refine b_aload_n (pc := 17) (i := 0) (dd dtX11_keep 11 rfl) rfl rfl ?_
  refine b_geti (pc := 18) (dd dtX11_keep 12 rfl) fwX11_17 pM_0 ?_
  refine b_iast (pc := 21) (dd dtX11_keep 13 rfl) pM_43 (by rw [nI_b1]; exact vpn rfl (show b + 1 < 620 by omega) (by decide)) ?_
  refine b_aload_n (pc := 22) (i := 0) (dd dtX11_keep 14 rfl) rfl rfl ?_
  refine b_geta (pc := 23) (dd dtX11_keep 15 rfl) fwX11_221 pM_0 rM_0_68 ?_
  refine b_iload_n (pc := 26) (i := 1) (dd dtX11_keep 16 rfl) rfl rfl ?_
  refine b_ic2 (pc := 27) (dd dtX11_keep 17 rfl) ?_
  refine b_iadd (pc := 28) (dd dtX11_keep 18 rfl) ?_
  refine b_aload_n (pc := 29) (i := 0) (dd dtX11_keep 19 rfl) rfl rfl ?_
  refine b_geti (pc := 30) (dd dtX11_keep 20 rfl) fwX11_20 pM_0 ?_
  refine b_iast (pc := 33) (dd dtX11_keep 21 rfl) pM_43 (by rw [nI_b2]; exact vpn rfl (show b + 2 < 620 by omega) (by decide)) ?_
  refine b_ic0 (pc := 34) (dd dtX11_keep 22 rfl) ?_
  refine b_istore_n (pc := 35) (i := 2) (lv' := [(2, _), (0, _), (1, _)]) (dd dtX11_keep 23 rfl) rfl (Nat.le_of_ble_eq_true rfl) rfl ?_
  simp (disch := decide) only [ist_ne, nI_b1, nI_b2, nI_clamp (show b < 2 ^ 31 by omega), nI_clamp (show b + 1 < 2 ^ 31 by omega), nI_clamp (show b + 2 < 2 ^ 31 by omega)]
  rw [kpz_eq rfl rfl rfl rfl rfl]
  refine b_eq (k36 (I0 := J) (J := rset J 43 (kpZ J b)) hb (fun a h => rset_ne h) 65 0 _ _ (Nat.zero_le _) (by omega) rfl (by rw [kpA_0, rset_id])) rfl ?_
  rw [rset_rset, rset_eq]
  rfl
