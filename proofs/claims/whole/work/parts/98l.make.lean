/-! a system that the law makes -/
theorem l_make {S : Sy} {q : List Nat} {MC : Mi} {ci wd idx idx2 C Z d nE N pc cells slots : Nat} {LE : List (Nat × Nat × Nat)} {I2 : Wd} {p : Program} {l : Launch} {e : Env} {s : State} {m : MethodId} {below : List Frame} {meth : Method} {co : Code} {b L : Nat} {xs : Nat → Int32} {D : va_G} {cy : Nat → ClassId} {ad0 : Nat → Nat} {H : Heap} {locs : List Loc} {ls : Array Slot} {Q : State → Prop}
    (C0 : lw_At p s m meth co b L xs) (hK : va_K D clX (tyL cy) s) (hE : Ext (bq s.heap.size) ad0 s s.heap) (hao : va_AO RX8 s) (hnx : NX s) (hq : SqOK q) (hq0 : q[0]? = some 0) (hS0 : S.1.getD 0 (0, 0) = (ci, wd)) (hN : clN ci = N) (hnw : NW "HollowShireLaw" idx ci)
    (hd0 : decode code pc = .ok (.new idx, 3)) (hd1 : decode code (pc + 3) = .ok (.dup, 1)) (hd2 : decode code (pc + 4) = .ok (.invokespecial idx2, 3)) (hl : Cond.methodLink "HollowShireLaw" idx2 MC.1 ∈ gw) (hm : MV MC 0) (hmi : Cond.instanceMethod MC.1 ∈ gw) (hret : MC.2.2.2 = none) (hname : MC.1.name = "<init>")
    (hg : Gal S q MC d C Z [.ref 0] 1 [] wZ nE LE I2) (hf : fullG S q nE LE) (hdd : d ≤ 70) (hc : cells + 1 + C ≤ 600000) (hz : slots + N + Z ≤ 7302250) (hS : va_S (bq s.heap.size) s.heap H locs) (hlen : ls.size = 4)
    (kk : ∀ (a : Nat → Nat) (H1 : Heap) (locs1 : List Loc), Inj S a → (∀ k, k < S.1.length → H.size ≤ a k) → (∀ j, 1000 ≤ j → a j = ad0 j) → va_P D clX (wsO cy a S I2) H1 → va_S (bq s.heap.size) s.heap H1 locs1 → (∀ x, x < H.size → H1[x]? = H[x]?) → W p l e room_1 s m #[Value.ref b] below meth co H1 locs1 (cells + 1 + C) (slots + N + Z) Q (F0 m (pc + 7) ls [.ref (a 0)])) :
    W p l e room_1 s m #[Value.ref b] below meth co H locs cells slots Q (F0 m pc ls []) := by
  subst hN
  obtain ⟨hx, hb, hr', hml, hown, hts, hX, hbl, hlocks, hgv⟩ := C0
  have hgw := gw_hts hts
  obtain ⟨Cn, T, N, ty0, h1, h2, h4, h5, h6, h7, h8, h9, h11⟩ := hnw
  have hKn := hK.1 ci _ h1
  refine W.newcK (own := "HollowShireLaw") hx hb hown (hgw _ h5) (hgw _ h6) (hgw _ h7) (g := F0 m pc ls []) rfl hd0 (by show cells + 1 ≤ 600000; omega) (by show slots + N ≤ 7302250; omega) hKn.2.1 rfl fun H1 kC hkC e1 z1 o1 => ?_
  have hO : va_P D clX [(H.size, .inr (ci, (List.range N).map fun j => if isR ci j then .null else .int 0))] H1 := by
    intro k x hk
    match k, hk with
    | 0, hk =>
      cases hk
      refine ⟨_, h1, (u_born ty0 hgw h4 hKn hkC e1 h8).to (fun j hj => ?_)⟩
      rw [h9 j hj, vp_V, List.getD, fs_at hj]
      rfl
    | k + 1, hk => simp at hk
  have hS1 : va_S (bq s.heap.size) s.heap H1 locs := ⟨Nat.le_trans hS.1 (by omega), fun x x1 x2 => (o1 x (Nat.lt_of_lt_of_le x1 hS.1)).trans (hS.2.1 x x1 x2), hS.2.2⟩
  have hw0 : wfL q 0 [] := fun t ht => by cases ht
  have hws : wsG cy (adx ad0 0 H.size) S q 1 [] wZ = [(H.size, .inr (ci, (List.range N).map fun j => if isR ci j then .null else .int 0))] := by
    have h := wsG_push (cy := cy) (ad := ad0) (S := S) (n := 0) (a := H.size) (L := []) (I := wZ) hq hq0 hw0
    rw [show (0 : Nat) + 1 = 1 from rfl] at h
    rw [h, hS0, ent_o h11, h2]
    rfl
  have hD1 : va_D (bq H.size) [((H.size : Nat), (.inr (ci, (List.range N).map fun j => if isR ci j then .null else .int 0) : va_E))] := by
    refine ⟨fun i j x y hi hj _ => ?_, fun k x hk => ?_⟩
    · have a1 := (List.getElem?_eq_some_iff.mp hi).1
      have a2 := (List.getElem?_eq_some_iff.mp hj).1
      simp at a1 a2
      omega
    · match k, hk with
      | 0, hk => cases hk; exact Nat.le_refl _
      | k + 1, hk => simp at hk
  have h0 : 0 ∈ q := List.mem_of_getElem? hq0
  have hEx : Ext (bq H.size) (adx ad0 0 H.size) s H1 := by
    have hE2 := hE.narrow (B := bq H.size) (fun x hx2 => Nat.le_trans hS.1 hx2)
    have hE3 : Ext (bq H.size) ad0 s H1 := by
      have hE1 : Ext (bq s.heap.size) ad0 s H1 := hE.kept (fun a a1 a2 => hS1.2.1 a a1 a2)
      exact hE1.narrow (fun x hx2 => Nat.le_trans hS.1 hx2)
    exact hE3.ad (fun j hj => adx_ne (by omega))
  refine lv_dup hx hb (pc := pc + 3) hd1 rfl ?_
  have run := va_runI (p := p) (l := l) (e := e) (R := room_1) (s := s) (m := m) (args := #[Value.ref b]) (below := below) (meth := meth) (c := co) (H := H1) (locs := locs) (cells := cells + 1) (slots := slots + N) (g := F0 m (pc + 4) ls [.ref H.size, .ref H.size]) (own := "HollowShireLaw") (rest := [.ref H.size]) (As := []) (b := H.size) ⟨hx, hb, hml, hown, hgw⟩ (hg l D cy (adx ad0 0 H.size) H.size) (cwI 0 hgw (good_callN hm) (by rw [hret]) rfl rfl (hgw _ hm.2.1) (hgw _ hl) (hgw _ hmi) hname ⟨hm.2.2.1.1, hm.2.2.1.2, hm.2.2.2.1⟩ ⟨by show d + 1 ≤ 2048; omega, by show 8 + (MC.2.2.1 + 11) + 80 * d ≤ 84000; have := hm.2.2.2.2; omega⟩) ⟨Pg.blind, fun U hU hW => ⟨by show _ = #[Value.ref (adx ad0 0 H.size 0)]; rw [adx_eq], by rw [hU]; omega, by rw [hU, hws]; exact hO, by rw [hws]; exact hD1, va_K.moved hW.alike hK, by rw [hU]; exact hEx.warm hW, hao.moved hW.alike, hnx.warm hW, fun t ht => by cases ht⟩⟩ rfl rfl hlen rfl (lv_room (Nat.le_of_ble_eq_true rfl)) hd2 ⟨by show cells + 1 + C ≤ 600000; exact hc, by show slots + N + Z ≤ 7302250; omega⟩
  intro T' hT XS
  obtain ⟨v, st₀, t, T2, Lc, k0, X', hL, e2, e3, ⟨hret2, hn2, hw3, ⟨a, hag, hP2, hD2⟩, hF⟩, stp⟩ := run T' hT XS
  have hv : v = none := Outcome.returned.inj hret2
  subst hv
  have hzs : H1.size ≤ T2.heap.size := by rw [e2, ← k0]; exact hF.1
  have hkp : ∀ x : Nat, x < H.size → T2.heap[x]? = H[x]? := fun x x1 => by
    rw [e2, hF.2 x (by rw [k0]; omega) (Nat.not_le.mpr x1), k0]
    exact o1 x x1
  obtain ⟨hi, hAA⟩ := full_I hf hD2
  have hS2 : va_S (bq s.heap.size) s.heap T2.heap (locs ++ Lc) := ⟨Nat.le_trans hS1.1 hzs, fun x x1 x2 => by rw [hkp x (Nat.lt_of_lt_of_le x1 hS.1)]; exact hS.2.1 x x1 x2, fun x hx2 => by
    rcases List.mem_append.mp hx2 with h | h
    · exact hS.2.2 x h
    · exact Nat.le_trans hS.1 (hL x h)⟩
  have ha0 : a 0 = H.size := by
    rw [hag 0 (Or.inl (by rw [take_next (n := 0) hq0]; simp)), adx_eq]
  have k2 := kk a T2.heap (locs ++ Lc) hi hAA (fun j hj => by rw [agr_ext hq hag j hj, adx_ne (by omega)]) ((full_P hf).mp (by rw [e2]; exact hP2)) hS2 hkp
  rw [ha0, h2] at k2
  obtain ⟨t2, b1, b2⟩ := k2 T2 rfl X'
  exact ⟨t2, stp t2 b1, b2⟩
