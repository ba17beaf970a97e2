/-! a field by its link: class ci's field j, at entry idx of own's pool -/
def FW (own : String) (idx ci j : Nat) (rf fin : Bool) (ty : FieldType) : Prop :=
  ∃ (C : String) (T : u_T) (N : Nat) (ty0 : Nat → FieldType), clX[ci]? = some (C, T, N) ∧ clN ci = N ∧ j < N ∧ (∀ w ∈ u_ws C T N, w ∈ gw) ∧ Cond.fieldLink own idx (T j).1 (T j).2.1 (T j).2.2.1 ∈ gw ∧ isR ci j = rf ∧ (T j).2.2.2 = fin ∧
    (∀ k, k < N → parseFieldDescriptor (T k).2.2.1 = some (ty0 k)) ∧ (∀ a, a < N → ∀ b, b < N → a ≠ b → (T a).2.1 ≠ (T b).2.1) ∧ parseFieldDescriptor (T j).2.2.1 = some ty ∧ ci < 20
/-- a method and its words -/
def MV (M : Mi) (na : Nat) : Prop := Cond.code M.1 M.2.1 M.2.2.1 M.2.2.2 ∈ gw ∧ Cond.initialized M.1.cls ∈ gw ∧ (M.1.cls ≠ "java/lang/invoke/MethodHandle" ∧ M.1.cls ≠ "java/lang/invoke/VarHandle") ∧ (parseMethodDescriptor M.1.desc).map (fun d => d.parameters.length) = some na ∧ M.2.2.1 ≤ 40
def MVi (M : Mi) : Prop := Cond.instanceMethod M.1 ∈ gw ∧ Cond.selects M.1.cls M.1 M.1 ∈ gw
def IsO (S : Sy) (k : Nat) (C : String) : Prop := ∃ (ci z : Nat) (q : vw_C), S.1[k]? = some (ci, z) ∧ ci < 20 ∧ clX[ci]? = some q ∧ q.1 = C
theorem ent_o {cy : Nat → ClassId} {ad : Nat → Nat} {ci z : Nat} {ik : Nat → Int32} {rk : Nat → Option Nat} (h : ci < 20) : entOf cy ad (ci, z) ik rk = .inr (ci, (List.range (clN ci)).map fun j => if isR ci j then va_rf ((rk j).map ad) else .int (ik j)) := by
  unfold entOf; rw [if_pos h]
theorem fs_at {n j : Nat} {g : Nat → Value} (h : j < n) : ((List.range n).map g)[j]? = some (g j) := by
  simp [List.getElem?_map, List.getElem?_range h]
section BH
variable {S : Sy} {M : Mi} {d pc : Nat} {lv : List (Nat × Value)} {st : List Value} {I I' : Wd} {r : Option Value}
theorem b_geti {k idx ci z j : Nat} {fin : Bool} {ty : FieldType} (hd : decode M.2.1 pc = .ok (.getfield idx, 3)) (hf : FW M.1.cls idx ci j false fin ty) (hsh : S.1[k]? = some (ci, z)) (kk : Bd S M d (pc + 3) lv (.int (I k j) :: st) I r I') : Bd S M d pc lv (.ref k :: st) I r I' := by
  intro p l e s m args below meth c D cy ad H locs ls X
  obtain ⟨C, T, N, ty0, h1, h2, h3, h4, h5, h6, h7, h8, h9, h10, h11⟩ := hf
  obtain ⟨⟨hx, hb, hr, hml, hown, hts, hlocks⟩, hl, hi, hK, hE, hP, hS⟩ := id X
  have he := ws_at (cy := cy) (ad := ad) (I := I) hsh
  rw [ent_o h11] at he
  refine va_get (D := D) (cl := clX) (tys := tyL cy) (ci := ci) (C := C) (T := T) (N := N) (v := .int (I k j)) hx hb hts h4 hown hK hP k he h1 j h3 (hts _ h5) (fun _ h => h) ?_ hd (kk p l e s m args below meth c D cy ad H locs ls X)
  rw [h2, fs_at h3, if_neg (by rw [h6]; decide)]
theorem b_geta {k idx ci z j q : Nat} {fin : Bool} {ty : FieldType} (hd : decode M.2.1 pc = .ok (.getfield idx, 3)) (hf : FW M.1.cls idx ci j true fin ty) (hsh : S.1[k]? = some (ci, z)) (hq : S.2 k j = some q) (kk : Bd S M d (pc + 3) lv (.ref q :: st) I r I') : Bd S M d pc lv (.ref k :: st) I r I' := by
  intro p l e s m args below meth c D cy ad H locs ls X
  obtain ⟨C, T, N, ty0, h1, h2, h3, h4, h5, h6, h7, h8, h9, h10, h11⟩ := hf
  obtain ⟨⟨hx, hb, hr, hml, hown, hts, hlocks⟩, hl, hi, hK, hE, hP, hS⟩ := id X
  have he := ws_at (cy := cy) (ad := ad) (I := I) hsh
  rw [ent_o h11] at he
  refine va_get (D := D) (cl := clX) (tys := tyL cy) (ci := ci) (C := C) (T := T) (N := N) (v := .ref (ad q)) hx hb hts h4 hown hK hP k he h1 j h3 (hts _ h5) (fun _ h => h) ?_ hd (kk p l e s m args below meth c D cy ad H locs ls X)
  rw [h2, fs_at h3, if_pos (by rw [h6]), hq]
  rfl
theorem b_putv {k idx ci z j : Nat} {ty : FieldType} {x : Int32} (hd : decode M.2.1 pc = .ok (.putfield idx, 3)) (hf : FW M.1.cls idx ci j false false ty) (hsh : S.1[k]? = some (ci, z)) (hn : narrow ty (.int x) = .int x) (hfit : fits ty (.int x) = true) (kk : Bd S M d (pc + 3) lv st (ist I k j x) r I') : Bd S M d pc lv (.int x :: .ref k :: st) I r I' := by
  intro p l e s m args below meth c D cy ad H locs ls X
  obtain ⟨C, T, N, ty0, h1, h2, h3, h4, h5, h6, h7, h8, h9, h10, h11⟩ := hf
  obtain ⟨hX1, hl, hi, hK, hE, hP, hS⟩ := id X
  obtain ⟨hx, hb, hr, hml, hown, hts, hlocks⟩ := id hX1
  have he := ws_at (cy := cy) (ad := ad) (I := I) hsh
  rw [ent_o h11] at he
  refine va_put (D := D) (cl := clX) (tys := tyL cy) (ci := ci) (C := C) (T := T) (N := N) (v := .int x) (ty := ty) hx hb hts h4 ty0 h8 h9 hown hK hP (ws_D hi) hS k he h1 j h3 (hts _ h5) (fun _ h => h) h7 h10 hn hfit (by simpa [h2] using h3) hd ?_
  intro H1 locs1 hP1 hD1 hS1
  have e2 : (wsO cy ad S I).set k (ad k, .inr (ci, ((List.range (clN ci)).map fun i => if isR ci i then va_rf ((S.2 k i).map ad) else .int (I k i)).set j (.int x))) = wsO cy ad S (ist I k j x) := by
    have e3 := ws_set (cy := cy) (ad := ad) (I := I) hsh (upd (I k) j x)
    rw [ent_o h11] at e3
    unfold ist
    rw [← e3, fs_set]
    congr 3
    refine congrArg (Prod.mk ci) ?_
    apply List.map_congr_left
    intro i _
    by_cases hij : i = j
    · subst hij; rw [if_pos rfl, if_neg (by rw [h6]; decide)]; simp [upd]
    · rw [if_neg hij]
      by_cases hR : isR ci i = true
      · rw [if_pos hR, if_pos hR]
      · rw [if_neg hR, if_neg hR]; simp [upd, hij]
  rw [e2] at hP1
  exact kk p l e s m args below meth c D cy ad H1 locs1 ls ⟨hX1, hl, hi, hK, hE, hP1, hS1⟩
theorem b_puti {k idx ci z j : Nat} {x : Int32} (hd : decode M.2.1 pc = .ok (.putfield idx, 3)) (hf : FW M.1.cls idx ci j false false .int) (hsh : S.1[k]? = some (ci, z)) (kk : Bd S M d (pc + 3) lv st (ist I k j x) r I') : Bd S M d pc lv (.int x :: .ref k :: st) I r I' := b_putv hd hf hsh rfl rfl kk
theorem b_put1 {k idx ci z j : Nat} (hd : decode M.2.1 pc = .ok (.putfield idx, 3)) (hf : FW M.1.cls idx ci j false false .boolean) (hsh : S.1[k]? = some (ci, z)) (kk : Bd S M d (pc + 3) lv st (ist I k j 1) r I') : Bd S M d pc lv (.int 1 :: .ref k :: st) I r I' := b_putv hd hf hsh rfl rfl kk
theorem b_put0 {k idx ci z j : Nat} (hd : decode M.2.1 pc = .ok (.putfield idx, 3)) (hf : FW M.1.cls idx ci j false false .boolean) (hsh : S.1[k]? = some (ci, z)) (kk : Bd S M d (pc + 3) lv st (ist I k j 0) r I') : Bd S M d pc lv (.int 0 :: .ref k :: st) I r I' := b_putv hd hf hsh rfl rfl kk
theorem ent_i {cy : Nat → ClassId} {ad : Nat → Nat} {n : Nat} {ik : Nat → Int32} {rk : Nat → Option Nat} : entOf cy ad (20, n) ik rk = .inl (cy 20, n, .inl ik) := rfl
theorem ent_z {cy : Nat → ClassId} {ad : Nat → Nat} {n : Nat} {ik : Nat → Int32} {rk : Nat → Option Nat} : entOf cy ad (21, n) ik rk = .inl (cy 21, n, .inl ik) := rfl
theorem b_iald {k n : Nat} {i : Int32} (hd : decode M.2.1 pc = .ok (.iaload, 1)) (hsh : S.1[k]? = some (20, n)) (hin : vp_in i n) (kk : Bd S M d (pc + 1) lv (.int (I k i.toNatClampNeg) :: st) I r I') : Bd S M d pc lv (.int i :: .ref k :: st) I r I' := by
  intro p l e s m args below meth c D cy ad H locs ls X
  obtain ⟨⟨hx, hb, hr, hml, hown, hts, hlocks⟩, hl, hi, hK, hE, hP, hS⟩ := id X
  exact va_iald hx hb hK hP k 0 (ws_at hsh) rfl hin hd (kk p l e s m args below meth c D cy ad H locs ls X)
theorem b_zald {k n : Nat} {i : Int32} (hd : decode M.2.1 pc = .ok (.baload, 1)) (hsh : S.1[k]? = some (21, n)) (hin : vp_in i n) (kk : Bd S M d (pc + 1) lv (.int (I k i.toNatClampNeg) :: st) I r I') : Bd S M d pc lv (.int i :: .ref k :: st) I r I' := by
  intro p l e s m args below meth c D cy ad H locs ls X
  obtain ⟨⟨hx, hb, hr, hml, hown, hts, hlocks⟩, hl, hi, hK, hE, hP, hS⟩ := id X
  exact va_zald hx hb hK hP k 1 (ws_at hsh) rfl hin hd (kk p l e s m args below meth c D cy ad H locs ls X)
theorem b_iast {k n : Nat} {i x : Int32} (hd : decode M.2.1 pc = .ok (.iastore, 1)) (hsh : S.1[k]? = some (20, n)) (hin : vp_in i n) (kk : Bd S M d (pc + 1) lv st (ist I k i.toNatClampNeg x) r I') : Bd S M d pc lv (.int x :: .int i :: .ref k :: st) I r I' := by
  intro p l e s m args below meth c D cy ad H locs ls X
  obtain ⟨hX1, hl, hi, hK, hE, hP, hS⟩ := id X
  obtain ⟨hx, hb, hr, hml, hown, hts, hlocks⟩ := id hX1
  refine va_iast hx hb hK hP (ws_D hi) hS k 0 (ws_at hsh) rfl hin hd ?_
  intro H1 locs1 hP1 hD1 hS1
  have e3 := ws_set (cy := cy) (ad := ad) (I := I) hsh (upd (I k) i.toNatClampNeg x)
  rw [ent_i] at e3
  rw [e3] at hP1
  exact kk p l e s m args below meth c D cy ad H1 locs1 ls ⟨hX1, hl, hi, hK, hE, hP1, hS1⟩
theorem b_zast {k n : Nat} {i x : Int32} (hd : decode M.2.1 pc = .ok (.bastore, 1)) (hsh : S.1[k]? = some (21, n)) (hin : vp_in i n) (hx01 : vp_nar .boolean x = x) (kk : Bd S M d (pc + 1) lv st (ist I k i.toNatClampNeg x) r I') : Bd S M d pc lv (.int x :: .int i :: .ref k :: st) I r I' := by
  intro p l e s m args below meth c D cy ad H locs ls X
  obtain ⟨hX1, hl, hi, hK, hE, hP, hS⟩ := id X
  obtain ⟨hx, hb, hr, hml, hown, hts, hlocks⟩ := id hX1
  refine va_zast hx hb hK hP (ws_D hi) hS k 1 (ws_at hsh) rfl hin hd ?_
  intro H1 locs1 hP1 hD1 hS1
  rw [hx01] at hP1
  have e3 := ws_set (cy := cy) (ad := ad) (I := I) hsh (upd (I k) i.toNatClampNeg x)
  rw [ent_z] at e3
  rw [e3] at hP1
  exact kk p l e s m args below meth c D cy ad H1 locs1 ls ⟨hX1, hl, hi, hK, hE, hP1, hS1⟩
/-- a row of references: what stands there -/
theorem b_aald {k n t q : Nat} {i : Int32} (hd : decode M.2.1 pc = .ok (.aaload, 1)) (hsh : S.1[k]? = some (t, n)) (ht : t = 22 ∨ t = 23) (hin : vp_in i n) (hq : S.2 k i.toNatClampNeg = some q) (kk : Bd S M d (pc + 1) lv (.ref q :: st) I r I') : Bd S M d pc lv (.int i :: .ref k :: st) I r I' := by
  intro p l e s m args below meth c D cy ad H locs ls X
  obtain ⟨⟨hx, hb, hr, hml, hown, hts, hlocks⟩, hl, hi, hK, hE, hP, hS⟩ := id X
  have kk2 := kk p l e s m args below meth c D cy ad H locs ls X
  have ev : cvt ad (.ref q) = va_rf ((S.2 k i.toNatClampNeg).map ad) := by rw [hq]; rfl
  rcases ht with rfl | rfl
  · exact va_aldq hx hb hK hP k 2 (ws_at hsh) rfl hin hd (by rw [← ev]; exact kk2)
  · exact va_aldq hx hb hK hP k 3 (ws_at hsh) rfl hin hd (by rw [← ev]; exact kk2)
/-- an array's length -/
theorem b_alen {k n t : Nat} {v : Int32} (hd : decode M.2.1 pc = .ok (.arraylength, 1)) (hsh : S.1[k]? = some (t, n)) (ht : t = 20 ∨ t = 21) (hv : Int32.ofNat n = v) (kk : Bd S M d (pc + 1) lv (.int v :: st) I r I') : Bd S M d pc lv (.ref k :: st) I r I' := by
  intro p l e s m args below meth c D cy ad H locs ls X
  obtain ⟨⟨hx, hb, hr, hml, hown, hts, hlocks⟩, hl, hi, hK, hE, hP, hS⟩ := id X
  have kk2 := kk p l e s m args below meth c D cy ad H locs ls X
  rcases ht with rfl | rfl
  · exact va_alen hx hb hK hP k 0 (ws_at hsh) rfl hv hd kk2
  · exact va_alen hx hb hK hP k 1 (ws_at hsh) rfl hv hd kk2
/-! returns -/
theorem Qcw.of {D : va_G} {cy : Nat → ClassId} {ad : Nat → Nat} {s t : State} {H : Heap} {locs : List Loc} {as : Array Value} (hP : va_P D clX (wsO cy ad S I) H) (hS : va_S (Aad S ad) s.heap H locs) (ht : t.heap = H) : Qcw D cy ad S r I as s (.returned (r.map (cvt ad))) t := ⟨rfl, by rw [ht]; exact hP, hS.F ht⟩
theorem b_iret {v : Int32} (hd : decode M.2.1 pc = .ok (.ireturn, 1)) (hty : M.2.2.2 = some .int) : Bd S M d pc lv [.int v] I (some (.int v)) I := by
  intro p l e s m args below meth c D cy ad H locs ls X
  obtain ⟨⟨hx, hb, hr, hml, hown, hts, hlocks⟩, hl, hi, hK, hE, hP, hS⟩ := id X
  exact W.iret (v := v) hx hb (hr.trans hty) (fun t ht hW => Qcw.of (r := some (.int v)) hP hS ht) hS.2.2 hd hlocks
theorem b_zret {v : Int32} {ty : FieldType} (hd : decode M.2.1 pc = .ok (.ireturn, 1)) (hty : M.2.2.2 = some ty) (hn : narrow ty (.int v) = .int v) : Bd S M d pc lv [.int v] I (some (.int v)) I := by
  intro p l e s m args below meth c D cy ad H locs ls X
  obtain ⟨⟨hx, hb, hr, hml, hown, hts, hlocks⟩, hl, hi, hK, hE, hP, hS⟩ := id X
  exact W.zret (v := v) hx hb (hr.trans hty) hn (fun t ht hW => Qcw.of (r := some (.int v)) hP hS ht) hS.2.2 hd hlocks
theorem b_lret {v : Int64} (hd : decode M.2.1 pc = .ok (.lreturn, 1)) (hty : M.2.2.2 = some .long) : Bd S M d pc lv [.long v] I (some (.long v)) I := by
  intro p l e s m args below meth c D cy ad H locs ls X
  obtain ⟨⟨hx, hb, hr, hml, hown, hts, hlocks⟩, hl, hi, hK, hE, hP, hS⟩ := id X
  exact W.lret (v := v) hx hb (hr.trans hty) (fun t ht hW => Qcw.of (r := some (.long v)) hP hS ht) hS.2.2 hd hlocks
theorem b_vret (hd : decode M.2.1 pc = .ok (.return_, 1)) (hty : M.2.2.2 = none) : Bd S M d pc lv [] I none I := by
  intro p l e s m args below meth c D cy ad H locs ls X
  obtain ⟨⟨hx, hb, hr, hml, hown, hts, hlocks⟩, hl, hi, hK, hE, hP, hS⟩ := id X
  exact W.vret hx hb (hr.trans hty) (fun t ht hW => Qcw.of (r := none) hP hS ht) hS.2.2 hd hlocks
theorem b_aret {k : Nat} {n : String} (hd : decode M.2.1 pc = .ok (.areturn, 1)) (hty : M.2.2.2 = some (.object n)) : Bd S M d pc lv [.ref k] I (some (.ref k)) I := by
  intro p l e s m args below meth c D cy ad H locs ls X
  obtain ⟨⟨hx, hb, hr, hml, hown, hts, hlocks⟩, hl, hi, hK, hE, hP, hS⟩ := id X
  exact W.aret (v := .ref (ad k)) hx hb (hr.trans hty) (Or.inl ⟨n, rfl⟩) (Or.inr ⟨_, rfl⟩) (fun t ht hW => Qcw.of (r := some (.ref k)) hP hS ht) hS.2.2 hd hlocks
/-- the end, put as an equation -/
theorem b_eq {r1 : Option Value} {I1 : Wd} (h : Bd S M d pc lv st I r1 I1) (h1 : r1 = r) (h2 : I1 = I') : Bd S M d pc lv st I r I' := h1 ▸ h2 ▸ h
/-! calls -/
theorem Pcw.blind {D : va_G} {cy : Nat → ClassId} {ad : Nat → Nat} {As : List Value} : FrameBlind (Pcw D cy ad S As I) := by
  intro a U g mk q
  obtain ⟨q0, qP, qK, qE⟩ := q
  exact ⟨q0, qP, va_K.moved (u := U) (U := U.calling g mk a) (Vm.Alike.refl U.vm) qK, Ext.same (u := U) (U := U.calling g mk a) rfl qE⟩
theorem Pcw.at {D : va_G} {cy : Nat → ClassId} {ad : Nat → Nat} {As : List Value} {s U : State} {H : Heap} {locs : List Loc} (hK : va_K D clX (tyL cy) s) (hE : Ext (Aad S ad) ad s s.heap) (hP : va_P D clX (wsO cy ad S I) H) (hS : va_S (Aad S ad) s.heap H locs) (hU : U.heap = H) (hW : s.WarmedH U.vm) : Pcw D cy ad S As I (As.map (cvt ad)).toArray U :=
  ⟨rfl, by rw [hU]; exact hP, va_K.moved hW.alike hK, by rw [hU]; exact (hE.warm hW).kept hS.2.1⟩
theorem go_on {p : Program} {l : Launch} {e : Env} {s : State} {m : MethodId} {args : Array Value} {below : List Frame} {meth : Method} {c : Code} {D : va_G} {cy : Nat → ClassId} {ad : Nat → Nat} {H : Heap} {locs : List Loc} {ls : Array Slot} {r1 : Option Value} {I1 : Wd} {rest st0 : List Value} {a : Array Value} (X : Cx S M p s m args meth c D cy ad I H locs ls lv)
    (run : va_Run p l e (rmd d) s m args below meth c H locs 0 0 0 0 (F0 m pc ls st0) (rest.map (cvt ad)) (Qcw D cy ad S r1 I1 a) (Aad S ad))
    (kk : Bd S M d (pc + 3) lv (r1.toList ++ rest) I1 r I') : W p l e (rmd d) s m args below meth c H locs 0 0 (MQ below (Qcw D cy ad S r I') args s 0 0 (Aad S ad)) (F0 m pc ls st0) := by
  obtain ⟨hX1, hl, hi, hK, hE, hP, hS⟩ := X
  intro T hT XS
  obtain ⟨v, st₀, t, T', L, h0, X', hL, e1, e2, ⟨hret, hP1, hF⟩, stp⟩ := run T hT XS
  have hv : v = r1.map (cvt ad) := Outcome.returned.inj hret
  subst hv
  have hz : H.size ≤ T'.heap.size := by rw [e1, ← h0]; exact hF.1
  have hkp : ∀ q : Nat, q < H.size → ¬ Aad S ad q → T'.heap[q]? = H[q]? := fun q h1 h2 => by rw [e1, ← h0]; exact hF.2 q (by rw [h0]; exact h1) h2
  obtain ⟨t2, a1, b1⟩ := kk p l e s m args below meth c D cy ad T'.heap (locs ++ L) ls ⟨hX1, hl, hi, hK, hE, by rw [e1]; exact hP1, Nat.le_trans hS.1 hz, fun q h1 h2 => by rw [hkp q (Nat.lt_of_lt_of_le h1 hS.1) h2]; exact hS.2.1 q h1 h2, fun q hq => by
    rcases List.mem_append.mp hq with h | h
    · exact hS.2.2 q h
    · exact hL q h⟩ T' rfl X'
  refine ⟨t2, stp t2 ?_, b1⟩
  have e3 : (r1.toList ++ rest).map (cvt ad) = (r1.map (cvt ad)).toList ++ rest.map (cvt ad) := by cases r1 <;> simp
  rw [e3] at a1
  exact a1
def csum (st : List Value) : Nat := (st.map fun v => v.category).sum
theorem csum_map (ad : Nat → Nat) (st : List Value) : ((st.map (cvt ad)).map fun v => v.category).sum = csum st := by
  simp only [csum, List.map_map]
  congr 1
  apply List.map_congr_left
  intro v _
  exact cvt_cat ad v
theorem good_call {na : Nat} {own : String} {idx : Nat} {M2 : Mi} (hl : Cond.methodLink own idx M2.1 ∈ gw) (hm : MV M2 na) (hmi : MVi M2) : GoodIn gw (wsV own idx M2.1.cls M2.1 (.code M2.1 M2.2.1 M2.2.2.1 M2.2.2.2 :: gw)) := by
  intro w hw
  refine gw_good w ?_
  simp only [wsV, List.cons_append, List.nil_append, List.mem_cons] at hw
  rcases hw with rfl | rfl | rfl | rfl | rfl | hw
  · exact hl
  · exact hmi.1
  · exact hmi.2
  · exact hm.2.1
  · exact hm.1
  · exact hw
theorem good_callS {na : Nat} {own : String} {idx : Nat} {M2 : Mi} (hl : Cond.methodLink own idx M2.1 ∈ gw) (hm : MV M2 na) (hms : Cond.static M2.1 ∈ gw) : GoodIn gw (va_wsS own idx M2.1 (.code M2.1 M2.2.1 M2.2.2.1 M2.2.2.2 :: gw)) := by
  intro w hw
  refine gw_good w ?_
  simp only [va_wsS, List.cons_append, List.nil_append, List.mem_cons] at hw
  rcases hw with rfl | rfl | rfl | rfl | hw
  · exact hl
  · exact hms
  · exact hm.2.1
  · exact hm.1
  · exact hw
theorem good_callN {na : Nat} {M2 : Mi} (hm : MV M2 na) : GoodIn gw (.code M2.1 M2.2.1 M2.2.2.1 M2.2.2.2 :: gw) := by
  intro w hw
  refine gw_good w ?_
  rcases List.mem_cons.mp hw with rfl | hw
  · exact hm.1
  · exact hw
theorem room_ok {d d2 nL : Nat} (h : d2 < d) (h2 : nL ≤ 40) : (rmd d2).frames + 1 ≤ (rmd d).frames ∧ 8 + (nL + 11) + (rmd d2).locals ≤ (rmd d).locals := by
  constructor
  · show d2 + 1 ≤ d; omega
  · show 8 + (nL + 11) + 80 * d2 ≤ 80 * d; omega
theorem b_invV {M2 : Mi} {na idx k d2 : Nat} {As rest : List Value} {r1 : Option Value} {I1 : Wd} (hd : decode M.2.1 pc = .ok (.invokevirtual idx, 3)) (hl : Cond.methodLink M.1.cls idx M2.1 ∈ gw) (hm : MV M2 na) (hmi : MVi M2) (hc : Cal S M2 d2 (.ref k :: As) I r1 I1) (hO : IsO S k M2.1.cls) (hst : st = As.reverse ++ .ref k :: rest) (hna : As.length = na) (hdd : d2 < d) (hcs : csum rest ≤ 8) (kk : Bd S M d (pc + 3) lv (r1.toList ++ rest) I1 r I') : Bd S M d pc lv st I r I' := by
  intro p l e s m args below meth c D cy ad H locs ls X
  obtain ⟨⟨hx, hb, hr, hml, hown, hts, hlocks⟩, hlv, hi, hK, hE, hP, hS⟩ := id X
  obtain ⟨ci, z, q, h1, h2, h3, h4⟩ := hO
  have he := ws_at (cy := cy) (ad := ad) (I := I) h1
  rw [ent_o h2] at he
  have hrec := va_recv hK hP h3 he
  rw [h4] at hrec
  subst hst
  refine go_on X (va_runV (As := As.map (cvt ad)) (b := ad k) (C := M2.1.cls) ⟨hx, hb, hml, hown, hts⟩ (hc l D cy ad hi) (cwV na hts (good_call hl hm hmi) rfl rfl rfl ⟨rfl, hm.2.2.1.1, hm.2.2.1.2, hm.2.2.2.1⟩ (room_ok hdd hm.2.2.2.2)) ⟨Pcw.blind, hrec, fun U hU hW => Pcw.at (As := .ref k :: As) hK hE hP hS hU hW⟩ rfl (by rw [List.length_map]; exact hna) hlv.1 (by simp [cvt]) (lv_room (by rw [csum_map]; exact hcs)) hd ⟨Nat.zero_le _, Nat.zero_le _⟩) kk
theorem b_invS {M2 : Mi} {na idx d2 : Nat} {As rest : List Value} {r1 : Option Value} {I1 : Wd} (hd : decode M.2.1 pc = .ok (.invokestatic idx, 3)) (hl : Cond.methodLink M.1.cls idx M2.1 ∈ gw) (hm : MV M2 na) (hms : Cond.static M2.1 ∈ gw) (hc : Cal S M2 d2 As I r1 I1) (hst : st = As.reverse ++ rest) (hna : As.length = na) (hdd : d2 < d) (hcs : csum rest ≤ 8) (kk : Bd S M d (pc + 3) lv (r1.toList ++ rest) I1 r I') : Bd S M d pc lv st I r I' := by
  intro p l e s m args below meth c D cy ad H locs ls X
  obtain ⟨⟨hx, hb, hr, hml, hown, hts, hlocks⟩, hlv, hi, hK, hE, hP, hS⟩ := id X
  subst hst
  refine go_on X (va_runS (As := As.map (cvt ad)) ⟨hx, hb, hml, hown, hts⟩ (hc l D cy ad hi) (va_cwS na hts (good_callS hl hm hms) rfl rfl rfl ⟨hm.2.2.1.1, hm.2.2.1.2, hm.2.2.2.1⟩ (room_ok hdd hm.2.2.2.2)) ⟨Pcw.blind, fun U hU hW => Pcw.at (As := As) hK hE hP hS hU hW⟩ rfl (by rw [List.length_map]; exact hna) hlv.1 (by simp) (lv_room (by rw [csum_map]; exact hcs)) hd ⟨Nat.zero_le _, Nat.zero_le _⟩) kk
/-- a private static method of the nest's host -/
theorem b_invN {M2 : Mi} {na idx d2 : Nat} {host : String} {As rest : List Value} {r1 : Option Value} {I1 : Wd} (hd : decode M.2.1 pc = .ok (.invokestatic idx, 3)) (hl : ∀ (A : Nat → Prop) (ad : Nat → Nat) (U : State) (H : Heap), Ext A ad U H → va_Nw (.methodLinkNest M.1.cls idx M2.1 host) U) (hm : MV M2 na) (hms : Cond.static M2.1 ∈ gw) (hc : Cal S M2 d2 As I r1 I1) (hst : st = As.reverse ++ rest) (hna : As.length = na) (hdd : d2 < d) (hcs : csum rest ≤ 8) (kk : Bd S M d (pc + 3) lv (r1.toList ++ rest) I1 r I') : Bd S M d pc lv st I r I' := by
  intro p l e s m args below meth c D cy ad H locs ls X
  obtain ⟨⟨hx, hb, hr, hml, hown, hts, hlocks⟩, hlv, hi, hK, hE, hP, hS⟩ := id X
  subst hst
  refine go_on X (va_runSN (As := As.map (cvt ad)) ⟨hx, hb, hml, hown, hts⟩ (hc l D cy ad hi) ⟨va_cnB na hts (good_callN hm) rfl rfl rfl (hl _ _ _ _ hE) (hts _ hm.2.1) ⟨hm.2.2.1.1, hm.2.2.1.2, hm.2.2.2.1⟩ (room_ok hdd hm.2.2.2.2), hts _ hms, trivial⟩ ⟨Pcw.blind, fun U hU hW => Pcw.at (As := As) hK hE hP hS hU hW⟩ rfl (by rw [List.length_map]; exact hna) hlv.1 (by simp) (lv_room (by rw [csum_map]; exact hcs)) hd ⟨Nat.zero_le _, Nat.zero_le _⟩) kk
end BH
