/-! rows of a growing frame -/
theorem ra_i {U : State} {cA cB : ClassId} {ty : FieldType} (h1 : va_RA U cA ty) (h2 : va_RA U cB ty) : cA = cB := by
  cases ty with
  | object C =>
    obtain ⟨kA, comp, -, -, -, h⟩ := h1
    obtain ⟨kB, comp2, -, -, -, g⟩ := h2
    exact Option.some.inj (h.symm.trans g)
  | _ =>
    have h : U.vm.findClass _ = some cA := h1
    have g : U.vm.findClass _ = some cB := h2
    exact Option.some.inj (h.symm.trans g)
section BG
variable {S : Sy} {q : List Nat} {M : Mi} {d C Z n0 nE : Nat} {LE : List (Nat × Nat × Nat)} {IE : Wd} {c z n pc : Nat} {lv : List (Nat × Value)} {st : List Value} {L : List (Nat × Nat × Nat)} {I : Wd}
theorem g_iconst {k : Int} {v : Int32} (hd : decode M.2.1 pc = .ok (.iconst k, 1)) (hv : Int32.ofInt k = v) (kk : Gd S q M d C Z n0 nE LE IE c z n (pc + 1) lv (.int v :: st) L I) : Gd S q M d C Z n0 nE LE IE c z n pc lv (st) L I :=
  fun p l e s m args below meth co D cy a0 ad z0 H locs ls X => lv_iconst X.1.1 X.1.2.1 hd hv (kk p l e s m args below meth co D cy a0 ad z0 H locs ls X)
theorem g_bipush {k : Int} {v : Int32} (hd : decode M.2.1 pc = .ok (.bipush k, 2)) (hv : (Int8.ofInt k).toInt32 = v) (kk : Gd S q M d C Z n0 nE LE IE c z n (pc + 2) lv (.int v :: st) L I) : Gd S q M d C Z n0 nE LE IE c z n pc lv (st) L I :=
  fun p l e s m args below meth co D cy a0 ad z0 H locs ls X => lv_bipush X.1.1 X.1.2.1 hd hv (kk p l e s m args below meth co D cy a0 ad z0 H locs ls X)
theorem g_sipush {k : Int} {v : Int32} (hd : decode M.2.1 pc = .ok (.sipush k, 3)) (hv : (Int16.ofInt k).toInt32 = v) (kk : Gd S q M d C Z n0 nE LE IE c z n (pc + 3) lv (.int v :: st) L I) : Gd S q M d C Z n0 nE LE IE c z n pc lv (st) L I :=
  fun p l e s m args below meth co D cy a0 ad z0 H locs ls X => lv_sipush X.1.1 X.1.2.1 hd hv (kk p l e s m args below meth co D cy a0 ad z0 H locs ls X)
theorem g_iload_n {k : Fin 4} {i : Nat} {x : Int32} (hd : decode M.2.1 pc = .ok (.iload_n k, 1)) (hi : (k : Nat) = i) (hl : lk lv i = some (.int x)) (kk : Gd S q M d C Z n0 nE LE IE c z n (pc + 1) lv (.int x :: st) L I) : Gd S q M d C Z n0 nE LE IE c z n pc lv (st) L I :=
  fun p l e s m args below meth co D cy a0 ad z0 H locs ls X => lv_iload_n X.1.1 X.1.2.1 hd hi (lv_lk X.2.2.1 hl) (kk p l e s m args below meth co D cy a0 ad z0 H locs ls X)
theorem g_aload_n {k : Fin 4} {i : Nat} {x : Nat} (hd : decode M.2.1 pc = .ok (.aload_n k, 1)) (hi : (k : Nat) = i) (hl : lk lv i = some (.ref x)) (kk : Gd S q M d C Z n0 nE LE IE c z n (pc + 1) lv (.ref x :: st) L I) : Gd S q M d C Z n0 nE LE IE c z n pc lv (st) L I :=
  fun p l e s m args below meth co D cy a0 ad z0 H locs ls X => lv_aload_n X.1.1 X.1.2.1 hd hi (lv_lk X.2.2.1 hl) (kk p l e s m args below meth co D cy a0 ad z0 H locs ls X)
theorem g_dup {v : Value} (hd : decode M.2.1 pc = .ok (.dup, 1)) (hv : v.category = 1) (kk : Gd S q M d C Z n0 nE LE IE c z n (pc + 1) lv (v :: v :: st) L I) : Gd S q M d C Z n0 nE LE IE c z n pc lv (v :: st) L I :=
  fun p l e s m args below meth co D cy a0 ad z0 H locs ls X => lv_dup X.1.1 X.1.2.1 hd (by rw [cvt_cat]; exact hv) (kk p l e s m args below meth co D cy a0 ad z0 H locs ls X)
theorem g_pop {v : Value} (hd : decode M.2.1 pc = .ok (.pop, 1)) (hv : v.category = 1) (kk : Gd S q M d C Z n0 nE LE IE c z n (pc + 1) lv (st) L I) : Gd S q M d C Z n0 nE LE IE c z n pc lv (v :: st) L I :=
  fun p l e s m args below meth co D cy a0 ad z0 H locs ls X => lv_pop X.1.1 X.1.2.1 hd (by rw [cvt_cat]; exact hv) (kk p l e s m args below meth co D cy a0 ad z0 H locs ls X)
theorem g_goto {off : Int} {tgt : Nat} (hd : decode M.2.1 pc = .ok (.goto off, 3)) (ht : (pc : Int) + off = (tgt : Int)) (kk : Gd S q M d C Z n0 nE LE IE c z n tgt lv (st) L I) : Gd S q M d C Z n0 nE LE IE c z n pc lv (st) L I :=
  fun p l e s m args below meth co D cy a0 ad z0 H locs ls X => lv_goto X.1.1 X.1.2.1 hd ht (kk p l e s m args below meth co D cy a0 ad z0 H locs ls X)
theorem g_icm1 (hd : decode M.2.1 pc = .ok (.iconst (-1), 1)) (kk : Gd S q M d C Z n0 nE LE IE c z n (pc + 1) lv (.int (-1) :: st) L I) : Gd S q M d C Z n0 nE LE IE c z n pc lv st L I := g_iconst hd (by decide) kk
theorem g_ic0 (hd : decode M.2.1 pc = .ok (.iconst 0, 1)) (kk : Gd S q M d C Z n0 nE LE IE c z n (pc + 1) lv (.int 0 :: st) L I) : Gd S q M d C Z n0 nE LE IE c z n pc lv st L I := g_iconst hd (by decide) kk
theorem g_ic1 (hd : decode M.2.1 pc = .ok (.iconst 1, 1)) (kk : Gd S q M d C Z n0 nE LE IE c z n (pc + 1) lv (.int 1 :: st) L I) : Gd S q M d C Z n0 nE LE IE c z n pc lv st L I := g_iconst hd (by decide) kk
theorem g_ic2 (hd : decode M.2.1 pc = .ok (.iconst 2, 1)) (kk : Gd S q M d C Z n0 nE LE IE c z n (pc + 1) lv (.int 2 :: st) L I) : Gd S q M d C Z n0 nE LE IE c z n pc lv st L I := g_iconst hd (by decide) kk
theorem g_ic3 (hd : decode M.2.1 pc = .ok (.iconst 3, 1)) (kk : Gd S q M d C Z n0 nE LE IE c z n (pc + 1) lv (.int 3 :: st) L I) : Gd S q M d C Z n0 nE LE IE c z n pc lv st L I := g_iconst hd (by decide) kk
theorem g_ic4 (hd : decode M.2.1 pc = .ok (.iconst 4, 1)) (kk : Gd S q M d C Z n0 nE LE IE c z n (pc + 1) lv (.int 4 :: st) L I) : Gd S q M d C Z n0 nE LE IE c z n pc lv st L I := g_iconst hd (by decide) kk
theorem g_ic5 (hd : decode M.2.1 pc = .ok (.iconst 5, 1)) (kk : Gd S q M d C Z n0 nE LE IE c z n (pc + 1) lv (.int 5 :: st) L I) : Gd S q M d C Z n0 nE LE IE c z n pc lv st L I := g_iconst hd (by decide) kk
theorem g_istore_n {k : Fin 4} {i : Nat} {x : Int32} {lv' : List (Nat × Value)} (hd : decode M.2.1 pc = .ok (.istore_n k, 1)) (hi : (k : Nat) = i) (hn : i < M.2.2.1) (hl : lst1 i (.int x) lv = lv') (kk : Gd S q M d C Z n0 nE LE IE c z n (pc + 1) lv' st L I) : Gd S q M d C Z n0 nE LE IE c z n pc lv (.int x :: st) L I :=
  fun p l e s m args below meth co D cy a0 ad z0 H locs ls X => lv_istore_n X.1.1 X.1.2.1 hd hi X.2.2.1 hn (by rw [← hl, ← lvc_1]; rfl) (fun ls' h' => kk p l e s m args below meth co D cy a0 ad z0 H locs ls' ⟨X.1, X.2.1, h', X.2.2.2⟩)
theorem g_iinc1 {i : Nat} {x v : Int32} {lv' : List (Nat × Value)} (hd : decode M.2.1 pc = .ok (.iinc i 1, 3)) (hk : lk lv i = some (.int x)) (hv : x + 1 = v) (hn : i < M.2.2.1) (hl : lst1 i (.int v) lv = lv') (kk : Gd S q M d C Z n0 nE LE IE c z n (pc + 3) lv' st L I) : Gd S q M d C Z n0 nE LE IE c z n pc lv st L I := by
  intro p l e s m args below meth co D cy a0 ad z0 H locs ls X
  have hm := lk_mem hk
  obtain ⟨q1, hq⟩ := List.getElem?_of_mem hm
  have hq2 : (lvc ad lv)[q1]? = some (i, .int x) := by rw [lvc, List.getElem?_map, hq]; rfl
  exact lv_iinc (v := v) X.1.1 X.1.2.1 hd X.2.2.1 hq2 hv hn (by rw [← hl, ← lvc_1]; rfl) (fun ls' h' => kk p l e s m args below meth co D cy a0 ad z0 H locs ls' ⟨X.1, X.2.1, h', X.2.2.2⟩)
theorem g_icmp_ge {x y : Int32} {off : Int} {tgt : Nat} (hd : decode M.2.1 pc = .ok (.if_icmp .ge off, 3)) (ht : (pc : Int) + off = (tgt : Int)) (kt : y ≤ x → Gd S q M d C Z n0 nE LE IE c z n tgt lv st L I) (kf : ¬ y ≤ x → Gd S q M d C Z n0 nE LE IE c z n (pc + 3) lv st L I) : Gd S q M d C Z n0 nE LE IE c z n pc lv (.int y :: .int x :: st) L I :=
  fun p l e s m args below meth co D cy a0 ad z0 H locs ls X => lv_icmp_ge X.1.1 X.1.2.1 hd ht (fun h => kt h p l e s m args below meth co D cy a0 ad z0 H locs ls X) (fun h => kf h p l e s m args below meth co D cy a0 ad z0 H locs ls X)
theorem g_mmax {idx : Nat} {x y v : Int32} (hv : (if x < y then y else x) = v) (hd : decode M.2.1 pc = .ok (.invokestatic idx, 3)) (hw : Cond.methodLink M.1.cls idx Lib.Math.max.name ∈ gw ∧ Cond.static Lib.Math.max.name ∈ gw ∧ Cond.initialized "java/lang/Math" ∈ gw ∧ Cond.code Lib.Math.max.name Lib.Math.max.code 2 (some .int) ∈ gw) (hr : csum st + 14 ≤ 80 * d) (hc : c ≤ C) (hz : z ≤ Z) (kk : Gd S q M d C Z n0 nE LE IE c z n (pc + 3) lv (.int v :: st) L I) : Gd S q M d C Z n0 nE LE IE c z n pc lv (.int y :: .int x :: st) L I := by
  intro p l e s m args below meth co D cy a0 ad z0 H locs ls X
  subst hv
  obtain ⟨⟨hx, hb, hr', hml, hown, hts, hlocks⟩, hin, hlv, hK, hE, hP, hD, hS, hag, hnn, hw2⟩ := id X
  exact va_mmax hx hb (hml.trans hlv.1.symm) hown (hts _ hw.1) (hts _ hw.2.1) (hts _ hw.2.2.1) (hts _ hw.2.2.2) (show 1 ≤ d by omega) (by rw [csum_map]; show csum st + 13 ≤ 80 * d; omega) hc hz hd (kk p l e s m args below meth co D cy a0 ad z0 H locs ls X)
theorem g_obj {idx : Nat} {k : Nat} (hd : decode M.2.1 pc = .ok (.invokespecial idx, 3)) (hw : Cond.methodLink M.1.cls idx objectInit ∈ gw ∧ Cond.instanceMethod objectInit ∈ gw ∧ Cond.code objectInit ⟨#[0xb1]⟩ 1 none ∈ gw) (hd1 : 1 ≤ d) (hst : csum st ≤ 8) (kk : Gd S q M d C Z n0 nE LE IE c z n (pc + 3) lv st L I) : Gd S q M d C Z n0 nE LE IE c z n pc lv (.ref k :: st) L I := by
  intro p l e s m args below meth co D cy a0 ad z0 H locs ls X
  obtain ⟨⟨hx, hb, hr', hml, hown, hts, hlocks⟩, hin, hlv, hK, hE, hP, hD, hS, hag, hnn, hw2⟩ := id X
  refine W.objInit hx hb hown (hts _ hw.1) (hts _ hw.2.1) (hts _ hw.2.2) rfl (by rw [hml]; exact hlv.1) rfl hd hd1 ?_ (kk p l e s m args below meth co D cy a0 ad z0 H locs ls X)
  show 2 * 0 + ((st.map (cvt ad)).map fun v => v.category).sum + 12 ≤ 80 * d
  rw [csum_map]
  omega
theorem g_vret (hd : decode M.2.1 pc = .ok (.return_, 1)) (hty : M.2.2.2 = none) (hc : c ≤ C) (hz : z ≤ Z) (h1 : n = nE) (h2 : L = LE) (h3 : I = IE) : Gd S q M d C Z n0 nE LE IE c z n pc lv [] L I := by
  intro p l e s m args below meth co D cy a0 ad z0 H locs ls X
  subst h1; subst h2; subst h3
  obtain ⟨⟨hx, hb, hr, hml, hown, hts, hlocks⟩, hin, hlv, hK, hE, hP, hD, hS, hag, hnn, hw2⟩ := id X
  refine W.widen hc hz ?_
  exact W.vret hx hb (hr.trans hty) (fun t ht hW => ⟨rfl, hnn, hw2, ⟨ad, hag, by rw [ht]; exact hP, hD⟩, hS.F ht⟩) hS.2.2 hd hlocks
theorem g_geta {k idx ci w j v i : Nat} {fin : Bool} {ty : FieldType} (hd : decode M.2.1 pc = .ok (.getfield idx, 3)) (hf : FW M.1.cls idx ci j true fin ty) (hi : (q.take n)[i]? = some k) (hsh : S.1.getD k (0, 0) = (ci, w)) (hq : rl L k j = some v) (kk : Gd S q M d C Z n0 nE LE IE c z n (pc + 3) lv (.ref v :: st) L I) : Gd S q M d C Z n0 nE LE IE c z n pc lv (.ref k :: st) L I := by
  intro p l e s m args below meth co D cy a0 ad z0 H locs ls X
  obtain ⟨Cn, T, N, ty0, h1, h2, h3, h4, h5, h6, h7, h8, h9, h10, h11⟩ := hf
  obtain ⟨⟨hx, hb, hr, hml, hown, hts, hlocks⟩, hin, hlv, hK, hE, hP, hD, hS, hag, hnn, hw2⟩ := id X
  have he := wsG_at (cy := cy) (ad := ad) (S := S) (L := L) (I := I) hi
  rw [hsh, ent_o h11] at he
  refine va_get (D := D) (cl := clX) (tys := tyL cy) (ci := ci) (C := Cn) (T := T) (N := N) (v := .ref (ad v)) hx hb hts h4 hown hK hP i he h1 j h3 (hts _ h5) (fun _ h => h) ?_ hd (kk p l e s m args below meth co D cy a0 ad z0 H locs ls X)
  rw [h2, fs_at h3, if_pos (by rw [h6]), hq]
  rfl
theorem g_putv {k idx ci w j i : Nat} {ty : FieldType} {x : Int32} (hq : SqOK q) (hd : decode M.2.1 pc = .ok (.putfield idx, 3)) (hf : FW M.1.cls idx ci j false false ty) (hi : (q.take n)[i]? = some k) (hsh : S.1.getD k (0, 0) = (ci, w)) (hnr : narrow ty (.int x) = .int x) (hfit : fits ty (.int x) = true) (kk : Gd S q M d C Z n0 nE LE IE c z n (pc + 3) lv st L (ist I k j x)) : Gd S q M d C Z n0 nE LE IE c z n pc lv (.int x :: .ref k :: st) L I := by
  intro p l e s m args below meth co D cy a0 ad z0 H locs ls X
  obtain ⟨Cn, T, N, ty0, h1, h2, h3, h4, h5, h6, h7, h8, h9, h10, h11⟩ := hf
  obtain ⟨hX1, hin, hlv, hK, hE, hP, hD, hS, hag, hnn, hw2⟩ := id X
  obtain ⟨hx, hb, hr, hml, hown, hts, hlocks⟩ := id hX1
  have he := wsG_at (cy := cy) (ad := ad) (S := S) (L := L) (I := I) hi
  rw [hsh, ent_o h11] at he
  refine va_put (D := D) (cl := clX) (tys := tyL cy) (ci := ci) (C := Cn) (T := T) (N := N) (v := .int x) (ty := ty) hx hb hts h4 ty0 h8 h9 hown hK hP hD hS i he h1 j h3 (hts _ h5) (fun _ h => h) h7 h10 hnr hfit (by simpa [h2] using h3) hd ?_
  intro H1 locs1 hP1 hD1 hS1
  have e3 := wsG_set (cy := cy) (ad := ad) (S := S) (L := L) (L' := L) (I := I) (I' := ist I k j x) hq hi (fun a ha => by unfold ist rset; rw [if_neg ha]) (fun _ _ => rfl)
  rw [hsh, ent_o h11] at e3
  have e2 : ((List.range (clN ci)).map fun i => if isR ci i then va_rf ((rl L k i).map ad) else .int (I k i)).set j (.int x) = (List.range (clN ci)).map fun i => if isR ci i then va_rf ((rl L k i).map ad) else .int (ist I k j x k i) := by
    rw [fs_set]
    apply List.map_congr_left
    intro b _
    by_cases hij : b = j
    · subst hij; rw [if_pos rfl, if_neg (by rw [h6]; decide)]; simp [ist, rset, upd]
    · rw [if_neg hij]
      by_cases hR : isR ci b = true
      · rw [if_pos hR, if_pos hR]
      · rw [if_neg hR, if_neg hR]; simp [ist, rset, upd, hij]
  rw [e2, e3] at hP1 hD1
  exact kk p l e s m args below meth co D cy a0 ad z0 H1 locs1 ls ⟨hX1, hin, hlv, hK, hE, hP1, hD1, hS1, hag, hnn, hw2⟩
theorem ist_same {k j : Nat} {x : Int32} (h : I k j = x) : ist I k j x = I := by
  funext a b
  unfold ist rset upd
  by_cases ha : a = k
  · subst ha
    rw [if_pos rfl]
    by_cases hb : b = j
    · subst hb; simp [h]
    · simp [hb]
  · rw [if_neg ha]
theorem g_puts {k idx ci w j i : Nat} {ty : FieldType} {x : Int32} (hq : SqOK q) (hd : decode M.2.1 pc = .ok (.putfield idx, 3)) (hf : FW M.1.cls idx ci j false false ty) (hi : (q.take n)[i]? = some k) (hsh : S.1.getD k (0, 0) = (ci, w)) (hnr : narrow ty (.int x) = .int x) (hfit : fits ty (.int x) = true) (hI : I k j = x) (kk : Gd S q M d C Z n0 nE LE IE c z n (pc + 3) lv st L I) : Gd S q M d C Z n0 nE LE IE c z n pc lv (.int x :: .ref k :: st) L I := g_putv hq hd hf hi hsh hnr hfit (by rw [ist_same hI]; exact kk)
theorem g_puta {k idx ci w j i v : Nat} {ty : FieldType} (hq : SqOK q) (hd : decode M.2.1 pc = .ok (.putfield idx, 3)) (hf : FW M.1.cls idx ci j true true ty) (hi : (q.take n)[i]? = some k) (hsh : S.1.getD k (0, 0) = (ci, w)) (hv : v ∈ q.take n) (hdecl : ∀ Cn T N, clX[ci]? = some (Cn, T, N) → (T j).1 = M.1.cls) (hty : (∃ s, ty = .object s) ∨ ∃ t, ty = .array t) (kk : Gd S q M d C Z n0 nE LE IE c z n (pc + 3) lv st ((k, j, v) :: L) I) : Gd S q M d C Z n0 nE LE IE c z n pc lv (.ref v :: .ref k :: st) L I := by
  intro p l e s m args below meth co D cy a0 ad z0 H locs ls X
  obtain ⟨Cn, T, N, ty0, h1, h2, h3, h4, h5, h6, h7, h8, h9, h10, h11⟩ := hf
  obtain ⟨hX1, hin, hlv, hK, hE, hP, hD, hS, hag, hnn, hw2⟩ := id X
  obtain ⟨hx, hb, hr, hml, hown, hts, hlocks⟩ := id hX1
  have he := wsG_at (cy := cy) (ad := ad) (S := S) (L := L) (I := I) hi
  rw [hsh, ent_o h11] at he
  refine va_putF (D := D) (cl := clX) (tys := tyL cy) (ci := ci) (C := Cn) (T := T) (N := N) (v := .ref (ad v)) (ty := ty) hx hb hts h4 ty0 h8 h9 hown hK hP hD hS i he h1 j h3 (hts _ h5) (fun _ h => h) h7 hin (hdecl _ _ _ h1) h10 (by rcases hty with ⟨t, rfl⟩ | ⟨t, rfl⟩ <;> rfl) (by rcases hty with ⟨t, rfl⟩ | ⟨t, rfl⟩ <;> rfl) (by simpa [h2] using h3) hd ?_
  intro H1 locs1 hP1 hD1 hS1
  have e3 := wsG_set (cy := cy) (ad := ad) (S := S) (L := L) (L' := (k, j, v) :: L) (I := I) (I' := I) hq hi (fun _ _ => rfl) (fun a ha => rl_ne ha)
  rw [hsh, ent_o h11] at e3
  have e2 : ((List.range (clN ci)).map fun i => if isR ci i then va_rf ((rl L k i).map ad) else .int (I k i)).set j (.ref (ad v)) = (List.range (clN ci)).map fun i => if isR ci i then va_rf ((rl ((k, j, v) :: L) k i).map ad) else .int (I k i) := by
    rw [fs_set]
    apply List.map_congr_left
    intro b _
    by_cases hij : b = j
    · subst hij
      rw [if_pos rfl, if_pos h6]
      show _ = va_rf ((if k = k ∧ b = b then some v else rl L k b).map ad)
      rw [if_pos ⟨rfl, rfl⟩]
      rfl
    · rw [if_neg hij]
      have : rl ((k, j, v) :: L) k b = rl L k b := by
        show (if k = k ∧ j = b then some v else rl L k b) = _
        rw [if_neg (fun q => hij q.2.symm)]
      rw [this]
  rw [e2, e3] at hP1 hD1
  exact kk p l e s m args below meth co D cy a0 ad z0 H1 locs1 ls ⟨hX1, hin, hlv, hK, hE, hP1, hD1, hS1, hag, hnn, hw2.put (List.mem_of_getElem? hi) hv⟩
theorem g_iast {k w i yi : Nat} {x y : Int32} (hy : y.toNatClampNeg = yi) (hq : SqOK q) (hd : decode M.2.1 pc = .ok (.iastore, 1)) (hi : (q.take n)[i]? = some k) (hsh : S.1.getD k (0, 0) = (20, w)) (hin1 : vp_in y w) (kk : Gd S q M d C Z n0 nE LE IE c z n (pc + 1) lv st L (ist I k yi x)) : Gd S q M d C Z n0 nE LE IE c z n pc lv (.int x :: .int y :: .ref k :: st) L I := by
  intro p l e s m args below meth co D cy a0 ad z0 H locs ls X
  subst hy
  obtain ⟨hX1, hin, hlv, hK, hE, hP, hD, hS, hag, hnn, hw2⟩ := id X
  obtain ⟨hx, hb, hr, hml, hown, hts, hlocks⟩ := id hX1
  have he := wsG_at (cy := cy) (ad := ad) (S := S) (L := L) (I := I) hi
  rw [hsh] at he
  refine va_iast hx hb hK hP hD hS i 0 he rfl hin1 hd ?_
  intro H1 locs1 hP1 hD1 hS1
  have e3 := wsG_set (cy := cy) (ad := ad) (S := S) (L := L) (L' := L) (I := I) (I' := ist I k y.toNatClampNeg x) hq hi (fun a ha => by unfold ist rset; rw [if_neg ha]) (fun _ _ => rfl)
  rw [hsh, show ist I k y.toNatClampNeg x k = upd (I k) y.toNatClampNeg x by unfold ist rset; rw [if_pos rfl]] at e3
  rw [ent_i] at e3
  rw [e3] at hP1 hD1
  exact kk p l e s m args below meth co D cy a0 ad z0 H1 locs1 ls ⟨hX1, hin, hlv, hK, hE, hP1, hD1, hS1, hag, hnn, hw2⟩
theorem g_iasts {k w i yi : Nat} {x y : Int32} (hI : I k yi = x) (hy : y.toNatClampNeg = yi) (hq : SqOK q) (hd : decode M.2.1 pc = .ok (.iastore, 1)) (hi : (q.take n)[i]? = some k) (hsh : S.1.getD k (0, 0) = (20, w)) (hin1 : vp_in y w) (kk : Gd S q M d C Z n0 nE LE IE c z n (pc + 1) lv st L I) : Gd S q M d C Z n0 nE LE IE c z n pc lv (.int x :: .int y :: .ref k :: st) L I := g_iast hy hq hd hi hsh hin1 (by rw [ist_same hI]; exact kk)
theorem g_aast {k w i t j ci v w2 yi : Nat} {y : Int32} {r : vw_C} (hy : y.toNatClampNeg = yi) (hq : SqOK q) (hd : decode M.2.1 pc = .ok (.aastore, 1)) (hi : (q.take n)[i]? = some k) (hsh : S.1.getD k (0, 0) = (t, w)) (ht : (t = 22 ∧ r.1 = RX5) ∨ (t = 23 ∧ r.1 = RX8)) (hj : (q.take n)[j]? = some v) (hsv : S.1.getD v (0, 0) = (ci, w2)) (hci : ci < 20) (hcl : clX[ci]? = some r) (hin1 : vp_in y w) (kk : Gd S q M d C Z n0 nE LE IE c z n (pc + 1) lv st ((k, yi, v) :: L) I) : Gd S q M d C Z n0 nE LE IE c z n pc lv (.ref v :: .int y :: .ref k :: st) L I := by
  intro p l e s m args below meth co D cy a0 ad z0 H locs ls X
  subst hy
  obtain ⟨hX1, hin, hlv, hK, hE, hP, hD, hS, hag, hnn, hw2⟩ := id X
  obtain ⟨hx, hb, hr, hml, hown, hts, hlocks⟩ := id hX1
  have he := wsG_at (cy := cy) (ad := ad) (S := S) (L := L) (I := I) hi
  have hv := wsG_at (cy := cy) (ad := ad) (S := S) (L := L) (I := I) hj
  rw [hsv, ent_o hci] at hv
  have go : ∀ t0 : Nat, (tyL cy)[t0]? = some (cy t, FieldType.object r.1) → entOf cy ad (t, w) (I k) (rl L k) = .inl (cy t, w, .inr (.inr (.inr (.inr fun j => (rl L k j).map ad)))) → entOf cy ad (t, w) (I k) (rl ((k, y.toNatClampNeg, v) :: L) k) = .inl (cy t, w, .inr (.inr (.inr (.inr fun j => (rl ((k, y.toNatClampNeg, v) :: L) k j).map ad)))) → W p l e (rmG d C Z) s m args below meth co H locs c z (MQ below (Qg D cy a0 z0 S q n0 nE LE IE) args s C Z (bq z0)) (F0 m pc ls (.ref (ad v) :: .int y :: .ref (ad k) :: st.map (cvt ad))) := by
    intro t0 h0 hen hen2
    rw [hsh, hen] at he
    refine va_astq hx hb hK hP hD hS i t0 j ci he h0 hv hcl hin1 hd ?_
    intro H1 locs1 hP1 hD1 hS1
    have e3 := wsG_set (cy := cy) (ad := ad) (S := S) (L := L) (L' := (k, y.toNatClampNeg, v) :: L) (I := I) (I' := I) hq hi (fun _ _ => rfl) (fun a ha => rl_ne ha)
    rw [hsh, hen2] at e3
    have e4 : va_up (fun j => (rl L k j).map ad) y.toNatClampNeg (some (ad v)) = fun j => (rl ((k, y.toNatClampNeg, v) :: L) k j).map ad := by
      funext b
      show (if b = y.toNatClampNeg then some (ad v) else (rl L k b).map ad) = (if k = k ∧ y.toNatClampNeg = b then some v else rl L k b).map ad
      by_cases hb2 : b = y.toNatClampNeg
      · rw [if_pos hb2, if_pos ⟨rfl, hb2.symm⟩]; rfl
      · rw [if_neg hb2, if_neg (fun q => hb2 q.2.symm)]
    rw [e4, e3] at hP1 hD1
    exact kk p l e s m args below meth co D cy a0 ad z0 H1 locs1 ls ⟨hX1, hin, hlv, hK, hE, hP1, hD1, hS1, hag, hnn, hw2.put (List.mem_of_getElem? hi) (List.mem_of_getElem? hj)⟩
  rcases ht with ⟨rfl, hr1⟩ | ⟨rfl, hr1⟩
  · exact go 2 (by rw [hr1]; rfl) rfl rfl
  · exact go 3 (by rw [hr1]; rfl) rfl rfl
theorem cg_push {p : Program} {s : State} {m : MethodId} {args : Array Value} {meth : Method} {co : Code} {D : va_G} {cy : Nat → ClassId} {a0 ad : Nat → Nat} {z0 k a : Nat} {H H1 : Heap} {locs : List Loc} {ls : Array Slot} (hq : SqOK q) (hk : q[n]? = some k) (X : Cg S q M n0 n L p s m args meth co D cy a0 ad z0 I H locs ls lv) (hlv : lv.all (fun x => inq (q.take n) x.2) = true) (hP1 : va_P D clX (wsG cy ad S q n L I ++ [(a, entOf cy ad (S.1.getD k (0, 0)) (I k) (rl L k))]) H1) (hD1 : va_D (bq z0) (wsG cy ad S q n L I ++ [(a, entOf cy ad (S.1.getD k (0, 0)) (I k) (rl L k))])) (hS1 : va_S (bq z0) s.heap H1 locs) : Cg S q M n0 (n + 1) L p s m args meth co D cy a0 (adx ad k a) z0 I H1 locs ls lv := by
  obtain ⟨hX1, hin, hlv2, hK, hE, hP, hD, hS, hag, hnn, hw2⟩ := X
  have hne : ∀ j ∈ q.take n, adx ad k a j = ad j := fun j hj => adx_ne (fun e : j = k => next_nin hq hk (by rw [← e]; exact hj))
  rw [← wsG_push hq hk hw2] at hP1 hD1
  refine ⟨hX1, hin, by rw [lvc_agr hne hlv]; exact hlv2, hK, ⟨hE.1.ad (fun j hj => adx_ne ?_), hE.2⟩, hP1, hD1, hS1, hag.step hq hnn hk, by omega, hw2.up hk⟩
  have := hq.2 k (List.mem_of_getElem? hk)
  omega
theorem rl_nin {k : Nat} (h : wfL q n L) (hk : k ∉ q.take n) : rl L k = fun _ => none := by
  funext j
  cases hr : rl L k j with
  | none => rfl
  | some v => exact absurd (wfL_rl h hr).1 hk
theorem g_newI {k N : Nat} {x : Int32} (hq : SqOK q) (hd : decode M.2.1 pc = .ok (.newarray .int, 2)) (hk : q[n]? = some k) (hsh : S.1.getD k (0, 0) = (20, N)) (hI : I k = fun _ => 0) (hx0 : ¬ x < 0) (hxN : x.toNatClampNeg = N) (hN : N * 4 ≤ 536870912) (hc : c + 1 ≤ C) (hz : z + N ≤ Z) (hlv : lv.all (fun x => inq (q.take n) x.2) = true) (hst : st.all (inq (q.take n)) = true) (kk : Gd S q M d C Z n0 nE LE IE (c + 1) (z + N) (n + 1) (pc + 2) lv (.ref k :: st) L I) : Gd S q M d C Z n0 nE LE IE c z n pc lv (.int x :: st) L I := by
  intro p l e s m args below meth co D cy a0 ad z0 H locs ls X
  obtain ⟨⟨hx, hb, hr, hml, hown, hts, hlocks⟩, hin, hlv2, hK, hE, hP, hD, hS, hag, hnn, hw2⟩ := id X
  refine va_newa (atype := .int) (ty := .int) (a0 := (N, .inl fun _ => 0)) hx hb (hts _ wa_int) rfl hK hP hD hS (fun a ha => Nat.le_trans hE.2.2.2 ha) (fun _ => rfl) hx0 hxN hN hc hz hd ?_
  intro a cA H1 hK1 hP1 hD1 hS1
  have hcA : cA = cy 20 := ra_i (hK1.2 4 (cA, .int) rfl).2 (hK.2 0 (cy 20, .int) rfl).2
  subst hcA
  have hen : entOf cy ad (S.1.getD k (0, 0)) (I k) (rl L k) = .inl (cy 20, N, .inl fun _ => 0) := by rw [hsh, hI]; rfl
  rw [← hen] at hP1 hD1
  have hne : ∀ j ∈ q.take n, adx ad k a j = ad j := fun j hj => adx_ne (fun e : j = k => next_nin hq hk (by rw [← e]; exact hj))
  have k2 := kk p l e s m args below meth co D cy a0 (adx ad k a) z0 H1 locs ls (cg_push hq hk X hlv hP1 hD1 hS1)
  rw [List.map_cons, cvts_agr hne hst, show cvt (adx ad k a) (.ref k) = .ref a by show Value.ref _ = _; rw [adx_eq]] at k2
  exact k2
theorem g_newZ {k N : Nat} {x : Int32} (hq : SqOK q) (hd : decode M.2.1 pc = .ok (.newarray .boolean, 2)) (hk : q[n]? = some k) (hsh : S.1.getD k (0, 0) = (21, N)) (hI : I k = fun _ => 0) (hx0 : ¬ x < 0) (hxN : x.toNatClampNeg = N) (hN : N * 1 ≤ 536870912) (hc : c + 1 ≤ C) (hz : z + N ≤ Z) (hlv : lv.all (fun x => inq (q.take n) x.2) = true) (hst : st.all (inq (q.take n)) = true) (kk : Gd S q M d C Z n0 nE LE IE (c + 1) (z + N) (n + 1) (pc + 2) lv (.ref k :: st) L I) : Gd S q M d C Z n0 nE LE IE c z n pc lv (.int x :: st) L I := by
  intro p l e s m args below meth co D cy a0 ad z0 H locs ls X
  obtain ⟨⟨hx, hb, hr, hml, hown, hts, hlocks⟩, hin, hlv2, hK, hE, hP, hD, hS, hag, hnn, hw2⟩ := id X
  refine va_newa (atype := .boolean) (ty := .boolean) (a0 := (N, .inl fun _ => 0)) hx hb (hts _ wa_bool) rfl hK hP hD hS (fun a ha => Nat.le_trans hE.2.2.2 ha) (fun _ => rfl) hx0 hxN hN hc hz hd ?_
  intro a cA H1 hK1 hP1 hD1 hS1
  have hcA : cA = cy 21 := ra_i (hK1.2 4 (cA, .boolean) rfl).2 (hK.2 1 (cy 21, .boolean) rfl).2
  subst hcA
  have hen : entOf cy ad (S.1.getD k (0, 0)) (I k) (rl L k) = .inl (cy 21, N, .inl fun _ => 0) := by rw [hsh, hI]; rfl
  rw [← hen] at hP1 hD1
  have hne : ∀ j ∈ q.take n, adx ad k a j = ad j := fun j hj => adx_ne (fun e : j = k => next_nin hq hk (by rw [← e]; exact hj))
  have k2 := kk p l e s m args below meth co D cy a0 (adx ad k a) z0 H1 locs ls (cg_push hq hk X hlv hP1 hD1 hS1)
  rw [List.map_cons, cvts_agr hne hst, show cvt (adx ad k a) (.ref k) = .ref a by show Value.ref _ = _; rw [adx_eq]] at k2
  exact k2
theorem g_newA {k N idx t t0 : Nat} {Cn : String} {x : Int32} (hq : SqOK q) (hd : decode M.2.1 pc = .ok (.anewarray idx, 3)) (hlink : Cond.classLink M.1.cls idx Cn ∈ gw) (ht : (t = 22 ∧ Cn = RX5 ∧ t0 = 2) ∨ (t = 23 ∧ Cn = RX8 ∧ t0 = 3)) (hk : q[n]? = some k) (hsh : S.1.getD k (0, 0) = (t, N)) (hx0 : ¬ x < 0) (hxN : x.toNatClampNeg = N) (hN : N * 4 ≤ 536870912) (hc : c + 1 ≤ C) (hz : z + N ≤ Z) (hlv : lv.all (fun x => inq (q.take n) x.2) = true) (hst : st.all (inq (q.take n)) = true) (kk : Gd S q M d C Z n0 nE LE IE (c + 1) (z + N) (n + 1) (pc + 3) lv (.ref k :: st) L I) : Gd S q M d C Z n0 nE LE IE c z n pc lv (.int x :: st) L I := by
  intro p l e s m args below meth co D cy a0 ad z0 H locs ls X
  obtain ⟨⟨hx, hb, hr, hml, hown, hts, hlocks⟩, hin, hlv2, hK, hE, hP, hD, hS, hag, hnn, hw2⟩ := id X
  have hao : va_AO Cn s := by
    rcases ht with ⟨-, rfl, -⟩ | ⟨-, rfl, -⟩
    · exact hE.2.2.1.1
    · exact hE.2.1
  have hty : (tyL cy)[t0]? = some (cy t, .object Cn) := by rcases ht with ⟨rfl, rfl, rfl⟩ | ⟨rfl, rfl, rfl⟩ <;> rfl
  refine va_newq hx hb hown (hts _ hlink) hao hK hP hD hS (fun a ha => Nat.le_trans hE.2.2.2 ha) hx0 hxN hN hc hz hd ?_
  intro a cA H1 hK1 hP1 hD1 hS1
  have hcA : cA = cy t := ra_i (hK1.2 4 (cA, .object Cn) rfl).2 (hK.2 t0 (cy t, .object Cn) hty).2
  subst hcA
  have hen : entOf cy ad (S.1.getD k (0, 0)) (I k) (rl L k) = .inl (cy t, N, .inr (.inr (.inr (.inr fun _ => none)))) := by
    rw [hsh, rl_nin hw2 (next_nin hq hk)]
    rcases ht with ⟨rfl, -, -⟩ | ⟨rfl, -, -⟩ <;> rfl
  rw [← hen] at hP1 hD1
  have hne : ∀ j ∈ q.take n, adx ad k a j = ad j := fun j hj => adx_ne (fun e : j = k => next_nin hq hk (by rw [← e]; exact hj))
  have k2 := kk p l e s m args below meth co D cy a0 (adx ad k a) z0 H1 locs ls (cg_push hq hk X hlv hP1 hD1 hS1)
  rw [List.map_cons, cvts_agr hne hst, show cvt (adx ad k a) (.ref k) = .ref a by show Value.ref _ = _; rw [adx_eq]] at k2
  exact k2
theorem g_new {k idx ci w N : Nat} (hq : SqOK q) (hd : decode M.2.1 pc = .ok (.new idx, 3)) (hn : NW M.1.cls idx ci) (hk : q[n]? = some k) (hsh : S.1.getD k (0, 0) = (ci, w)) (hN : clN ci = N) (hI : I k = fun _ => 0) (hc : c + 1 ≤ C) (hz : z + N ≤ Z) (hlv : lv.all (fun x => inq (q.take n) x.2) = true) (hst : st.all (inq (q.take n)) = true) (kk : Gd S q M d C Z n0 nE LE IE (c + 1) (z + N) (n + 1) (pc + 3) lv (.ref k :: st) L I) : Gd S q M d C Z n0 nE LE IE c z n pc lv st L I := by
  intro p l e s m args below meth co D cy a0 ad z0 H locs ls X
  subst hN
  obtain ⟨Cn, T, N, ty0, h1, h2, h4, h5, h6, h7, h8, h9, h11⟩ := hn
  obtain ⟨⟨hx, hb, hr, hml, hown, hts, hlocks⟩, hin, hlv2, hK, hE, hP, hD, hS, hag, hnn, hw2⟩ := id X
  have hen : entOf cy ad (S.1.getD k (0, 0)) (I k) (rl L k) = .inr (ci, (List.range N).map fun j => if isR ci j then .null else .int 0) := by
    rw [hsh, hI, rl_nin hw2 (next_nin hq hk), ent_o h11, h2]
    rfl
  refine va_new (D := D) (cl := clX) (tys := tyL cy) (ci := ci) (C := Cn) (T := T) (N := N) (fs := (List.range N).map fun j => if isR ci j then .null else .int 0) hx hb hts h4 ty0 h8 hown (hts _ h5) (hts _ h6) (hts _ h7) hK hP hD hS (fun a ha => Nat.le_trans hE.2.2.2 ha) h1 (fun j hj => ?_) hc (by rw [← h2]; exact hz) hd ?_
  · rw [h9 j hj, vp_V, List.getD, fs_at hj]
    rfl
  intro a H1 hP1 hD1 hS1
  rw [← hen] at hP1 hD1
  have hne : ∀ j ∈ q.take n, adx ad k a j = ad j := fun j hj => adx_ne (fun e : j = k => next_nin hq hk (by rw [← e]; exact hj))
  have k2 := kk p l e s m args below meth co D cy a0 (adx ad k a) z0 H1 locs ls (cg_push hq hk X hlv hP1 hD1 hS1)
  rw [List.map_cons, cvts_agr hne hst, show cvt (adx ad k a) (.ref k) = .ref a by show Value.ref _ = _; rw [adx_eq], h2] at k2
  exact k2
theorem Pg.blind {D : va_G} {cy : Nat → ClassId} {ad : Nat → Nat} {z0 : Nat} {As : List Value} : FrameBlind (Pg D cy ad z0 S q n As L I) := by
  intro a U g mk x
  obtain ⟨q0, qz, qP, qD, qK, qE, q1, q2, q3⟩ := x
  exact ⟨q0, qz, qP, qD, va_K.moved (u := U) (U := U.calling g mk a) (Vm.Alike.refl U.vm) qK, Ext.same (u := U) (U := U.calling g mk a) rfl qE, va_AO.moved (u := U) (U := U.calling g mk a) (Vm.Alike.refl U.vm) q1, NX.same (u := U) (U := U.calling g mk a) rfl q2, q3⟩
/-- a constructor's call -/
theorem g_ini {M2 : Mi} {na idx k d2 C2 Z2 n2 : Nat} {As rest : List Value} {L2 : List (Nat × Nat × Nat)} {I2 : Wd} (hq : SqOK q) (hd : decode M.2.1 pc = .ok (.invokespecial idx, 3)) (hl : Cond.methodLink M.1.cls idx M2.1 ∈ gw) (hm : MV M2 na) (hmi : Cond.instanceMethod M2.1 ∈ gw) (hret : M2.2.2.2 = none) (hname : M2.1.name = "<init>") (hc : Gal S q M2 d2 C2 Z2 (.ref k :: As) n L I n2 L2 I2) (hst : st = As.reverse ++ .ref k :: rest) (hna : As.length = na) (hdd : d2 < d) (hcs : csum rest ≤ 8) (hC : c + C2 ≤ C) (hZ : z + Z2 ≤ Z) (hlv : lv.all (fun x => inq (q.take n) x.2) = true) (hrs : rest.all (inq (q.take n)) = true) (kk : Gd S q M d C Z n0 nE LE IE (c + C2) (z + Z2) n2 (pc + 3) lv rest L2 I2) : Gd S q M d C Z n0 nE LE IE c z n pc lv st L I := by
  intro p l e s m args below meth co D cy a0 ad z0 H locs ls X
  obtain ⟨hX1, hin, hlv2, hK, hE, hP, hD, hS, hag, hnn, hw2⟩ := id X
  obtain ⟨hx, hb, hr, hml, hown, hts, hlocks⟩ := id hX1
  subst hst
  have run := va_runI (c := co) (H := H) (locs := locs) (cells := c) (slots := z) (g := F0 m pc ls ((As.reverse ++ .ref k :: rest).map (cvt ad))) (e := e) (below := below) (meth := meth) (R := rmG d C Z) (As := As.map (cvt ad)) (b := ad k) (rest := rest.map (cvt ad)) ⟨hx, hb, hml, hown, hts⟩ (hc l D cy ad z0) (cwI na hts (good_callN hm) (by rw [hret]) rfl rfl (hts _ hm.2.1) (hts _ hl) (hts _ hmi) hname ⟨hm.2.2.1.1, hm.2.2.1.2, hm.2.2.2.1⟩ ⟨by show d2 + 1 ≤ d; omega, by show 8 + (M2.2.2.1 + 11) + 80 * d2 ≤ 80 * d; have := hm.2.2.2.2; omega⟩) ⟨Pg.blind, fun U hU hW => ⟨rfl, by rw [hU]; exact Nat.le_trans hE.2.2.2 hS.1, by rw [hU]; exact hP, hD, va_K.moved hW.alike hK, by rw [hU]; exact (hE.1.warm hW).kept hS.2.1, hE.2.1.moved hW.alike, hE.2.2.1.warm hW, hw2⟩⟩ rfl (by rw [List.length_map]; exact hna) hlv2.1 (by simp [F0, cvt]) (lv_room (by rw [csum_map]; exact hcs)) hd ⟨hC, hZ⟩
  intro T hT XS
  obtain ⟨v, st₀, t, T', Lc, h0, X', hL, e1, e2, ⟨hret2, hn2, hw3, ⟨ad2, hag2, hP2, hD2⟩, hF⟩, stp⟩ := run T hT XS
  have hv : v = none := Outcome.returned.inj hret2
  subst hv
  have hz : H.size ≤ T'.heap.size := by rw [e1, ← h0]; exact hF.1
  have hkp : ∀ x : Nat, x < H.size → ¬ bq z0 x → T'.heap[x]? = H[x]? := fun x h1 h2 => by rw [e1, ← h0]; exact hF.2 x (by rw [h0]; exact h1) h2
  have hne : ∀ j ∈ q.take n, ad2 j = ad j := fun j hj => hag2 j (Or.inl hj)
  have hS2 : va_S (bq z0) s.heap T'.heap (locs ++ Lc) := ⟨Nat.le_trans hS.1 hz, fun x h1 h2 => by rw [hkp x (Nat.lt_of_lt_of_le h1 hS.1) h2]; exact hS.2.1 x h1 h2, fun x hx2 => by
    rcases List.mem_append.mp hx2 with h | h
    · exact hS.2.2 x h
    · exact hL x h⟩
  obtain ⟨t2, b1, b2⟩ := kk p l e s m args below meth co D cy a0 ad2 z0 T'.heap (locs ++ Lc) ls ⟨hX1, hin, by rw [lvc_agr hne hlv]; exact hlv2, hK, ⟨hE.1.ad (agr_ext hq hag2), hE.2⟩, by rw [e1]; exact hP2, hD2, hS2, hag.trans hnn hag2, Nat.le_trans hnn hn2, hw3⟩ T' rfl X'
  refine ⟨t2, stp t2 ?_, b2⟩
  rw [cvts_agr hne hrs] at b1
  exact b1
/-- a private constructor's call -/
theorem g_iniN {host : String} {M2 : Mi} {na idx k d2 C2 Z2 n2 : Nat} {As rest : List Value} {L2 : List (Nat × Nat × Nat)} {I2 : Wd} (hq : SqOK q) (hd : decode M.2.1 pc = .ok (.invokespecial idx, 3)) (hl : ∀ U : State, NX U → va_Nw (.methodLinkNest M.1.cls idx M2.1 host) U) (hm : MV M2 na) (hmi : Cond.instanceMethod M2.1 ∈ gw) (hret : M2.2.2.2 = none) (hname : M2.1.name = "<init>") (hc : Gal S q M2 d2 C2 Z2 (.ref k :: As) n L I n2 L2 I2) (hst : st = As.reverse ++ .ref k :: rest) (hna : As.length = na) (hdd : d2 < d) (hcs : csum rest ≤ 8) (hC : c + C2 ≤ C) (hZ : z + Z2 ≤ Z) (hlv : lv.all (fun x => inq (q.take n) x.2) = true) (hrs : rest.all (inq (q.take n)) = true) (kk : Gd S q M d C Z n0 nE LE IE (c + C2) (z + Z2) n2 (pc + 3) lv rest L2 I2) : Gd S q M d C Z n0 nE LE IE c z n pc lv st L I := by
  intro p l e s m args below meth co D cy a0 ad z0 H locs ls X
  obtain ⟨hX1, hin, hlv2, hK, hE, hP, hD, hS, hag, hnn, hw2⟩ := id X
  obtain ⟨hx, hb, hr, hml, hown, hts, hlocks⟩ := id hX1
  subst hst
  have run := va_runIN (host := host) (c := co) (H := H) (locs := locs) (cells := c) (slots := z) (g := F0 m pc ls ((As.reverse ++ .ref k :: rest).map (cvt ad))) (e := e) (below := below) (meth := meth) (R := rmG d C Z) (As := As.map (cvt ad)) (b := ad k) (rest := rest.map (cvt ad)) ⟨hx, hb, hml, hown, hts⟩ (hc l D cy ad z0) ⟨va_cnB na hts (good_callN hm) (by rw [hret]) rfl rfl (hl s hE.2.2.1) (hts _ hm.2.1) ⟨hm.2.2.1.1, hm.2.2.1.2, hm.2.2.2.1⟩ ⟨by show d2 + 1 ≤ d; omega, by show 8 + (M2.2.2.1 + 11) + 80 * d2 ≤ 80 * d; have := hm.2.2.2.2; omega⟩, hname, hts _ hmi⟩ ⟨Pg.blind, fun U hU hW => ⟨rfl, by rw [hU]; exact Nat.le_trans hE.2.2.2 hS.1, by rw [hU]; exact hP, hD, va_K.moved hW.alike hK, by rw [hU]; exact (hE.1.warm hW).kept hS.2.1, hE.2.1.moved hW.alike, hE.2.2.1.warm hW, hw2⟩⟩ rfl (by rw [List.length_map]; exact hna) hlv2.1 (by simp [F0, cvt]) (lv_room (by rw [csum_map]; exact hcs)) hd ⟨hC, hZ⟩
  intro T hT XS
  obtain ⟨v, st₀, t, T', Lc, h0, X', hL, e1, e2, ⟨hret2, hn2, hw3, ⟨ad2, hag2, hP2, hD2⟩, hF⟩, stp⟩ := run T hT XS
  have hv : v = none := Outcome.returned.inj hret2
  subst hv
  have hz : H.size ≤ T'.heap.size := by rw [e1, ← h0]; exact hF.1
  have hkp : ∀ x : Nat, x < H.size → ¬ bq z0 x → T'.heap[x]? = H[x]? := fun x h1 h2 => by rw [e1, ← h0]; exact hF.2 x (by rw [h0]; exact h1) h2
  have hne : ∀ j ∈ q.take n, ad2 j = ad j := fun j hj => hag2 j (Or.inl hj)
  have hS2 : va_S (bq z0) s.heap T'.heap (locs ++ Lc) := ⟨Nat.le_trans hS.1 hz, fun x h1 h2 => by rw [hkp x (Nat.lt_of_lt_of_le h1 hS.1) h2]; exact hS.2.1 x h1 h2, fun x hx2 => by
    rcases List.mem_append.mp hx2 with h | h
    · exact hS.2.2 x h
    · exact hL x h⟩
  obtain ⟨t2, b1, b2⟩ := kk p l e s m args below meth co D cy a0 ad2 z0 T'.heap (locs ++ Lc) ls ⟨hX1, hin, by rw [lvc_agr hne hlv]; exact hlv2, hK, ⟨hE.1.ad (agr_ext hq hag2), hE.2⟩, by rw [e1]; exact hP2, hD2, hS2, hag.trans hnn hag2, Nat.le_trans hnn hn2, hw3⟩ T' rfl X'
  refine ⟨t2, stp t2 ?_, b2⟩
  rw [cvts_agr hne hrs] at b1
  exact b1
/-- the whole world is there -/
def fullG (S : Sy) (q : List Nat) (n : Nat) (L : List (Nat × Nat × Nat)) : Prop := (∀ a, a < S.1.length ↔ a ∈ q.take n) ∧ rl L = S.2
theorem full_P {D : va_G} {cy : Nat → ClassId} {ad : Nat → Nat} {H : Heap} (hf : fullG S q n L) : va_P D clX (wsG cy ad S q n L I) H ↔ va_P D clX (wsO cy ad S I) H := by
  have key : ∀ x : Nat × va_E, (∃ k : Nat, (wsG cy ad S q n L I)[k]? = some x) ↔ ∃ k : Nat, (wsO cy ad S I)[k]? = some x := by
    intro x
    constructor
    · rintro ⟨k, hk⟩
      simp only [wsG, List.getElem?_map, Option.map_eq_some_iff] at hk
      obtain ⟨a, ha, rfl⟩ := hk
      have hlt := (hf.1 a).mpr (List.mem_of_getElem? ha)
      exact ⟨a, by rw [ws_at (List.getElem?_eq_getElem hlt), hf.2]; simp [List.getD, List.getElem?_eq_getElem hlt]⟩
    · rintro ⟨k, hk⟩
      have hlt : k < S.1.length := by
        have := (List.getElem?_eq_some_iff.mp hk).1
        simpa [wsO] using this
      obtain ⟨i, hi⟩ := List.getElem?_of_mem ((hf.1 k).mp hlt)
      refine ⟨i, ?_⟩
      rw [ws_at (List.getElem?_eq_getElem hlt)] at hk
      rw [wsG_at hi, hf.2, ← hk]
      simp [List.getD, List.getElem?_eq_getElem hlt]
  constructor
  · intro h k x hk
    obtain ⟨j, hj⟩ := (key x).mpr ⟨k, hk⟩
    exact h j x hj
  · intro h k x hk
    obtain ⟨j, hj⟩ := (key x).mp ⟨k, hk⟩
    exact h j x hj
theorem full_I {cy : Nat → ClassId} {ad : Nat → Nat} {A : Nat → Prop} (hf : fullG S q n L) (hD : va_D A (wsG cy ad S q n L I)) : Inj S ad ∧ ∀ k, k < S.1.length → A (ad k) := by
  refine ⟨fun i j hi hj he => ?_, fun k hk => ?_⟩
  · obtain ⟨x, hx⟩ := List.getElem?_of_mem ((hf.1 i).mp hi)
    obtain ⟨y, hy⟩ := List.getElem?_of_mem ((hf.1 j).mp hj)
    have := hD.1 x y _ _ (wsG_at hx) (wsG_at hy) he
    subst this
    exact Option.some.inj (hx.symm.trans hy)
  · obtain ⟨x, hx⟩ := List.getElem?_of_mem ((hf.1 k).mp hk)
    exact hD.2 x _ (wsG_at hx)
theorem full_D {cy : Nat → ClassId} {ad : Nat → Nat} {A : Nat → Prop} {I2 : Wd} (hD : va_D A (wsG cy ad S q n L I)) : va_D A (wsG cy ad S q n L I2) := by
  have key : ∀ (k : Nat) (x : Nat × va_E), (wsG cy ad S q n L I2)[k]? = some x → ∃ y, (wsG cy ad S q n L I)[k]? = some y ∧ y.1 = x.1 := by
    intro k x hk
    simp only [wsG, List.getElem?_map, Option.map_eq_some_iff] at hk
    obtain ⟨a, ha, rfl⟩ := hk
    exact ⟨_, wsG_at ha, rfl⟩
  refine ⟨fun i j x y hx hy he => ?_, fun k x hk => ?_⟩
  · obtain ⟨x2, h1, h2⟩ := key i x hx
    obtain ⟨y2, h3, h4⟩ := key j y hy
    exact hD.1 i j x2 y2 h1 h3 (by rw [h2, h4, he])
  · obtain ⟨y, h1, h2⟩ := key k x hk
    rw [← h2]; exact hD.2 k y h1
/-- a call over the whole world -/
theorem g_invV {M2 : Mi} {na idx k d2 : Nat} {As rest : List Value} {r1 : Option Value} {I1 : Wd} (hf : fullG S q n L) (hd : decode M.2.1 pc = .ok (.invokevirtual idx, 3)) (hl : Cond.methodLink M.1.cls idx M2.1 ∈ gw) (hm : MV M2 na) (hmi : MVi M2) (hc : Cal S M2 d2 (.ref k :: As) I r1 I1) (hO : IsO S k M2.1.cls) (hst : st = As.reverse ++ .ref k :: rest) (hna : As.length = na) (hdd : d2 < d) (hcs : csum rest ≤ 8) (hC : c ≤ C) (hZ : z ≤ Z) (kk : Gd S q M d C Z n0 nE LE IE c z n (pc + 3) lv (r1.toList ++ rest) L I1) : Gd S q M d C Z n0 nE LE IE c z n pc lv st L I := by
  intro p l e s m args below meth co D cy a0 ad z0 H locs ls X
  obtain ⟨hX1, hin, hlv2, hK, hE, hP, hD, hS, hag, hnn, hw2⟩ := id X
  obtain ⟨hx, hb, hr, hml, hown, hts, hlocks⟩ := id hX1
  obtain ⟨ci, w, x, h1, h2, h3, h4⟩ := hO
  obtain ⟨hi, hA⟩ := full_I hf hD
  have hPO := (full_P hf).mp hP
  have hsub : ∀ a, Aad S ad a → bq z0 a := by
    rintro a ⟨j, hj, rfl⟩
    exact hA j hj
  have he := ws_at (cy := cy) (ad := ad) (I := I) h1
  rw [ent_o h2] at he
  have hrec := va_recv hK hPO h3 he
  rw [h4] at hrec
  subst hst
  have run := va_runV (c := co) (H := H) (locs := locs) (cells := c) (slots := z) (g := F0 m pc ls ((As.reverse ++ .ref k :: rest).map (cvt ad))) (e := e) (below := below) (meth := meth) (R := rmG d C Z) (rest := rest.map (cvt ad)) (As := As.map (cvt ad)) (b := ad k) (C := M2.1.cls) ⟨hx, hb, hml, hown, hts⟩ (hc l D cy ad hi) (cwV na hts (good_call hl hm hmi) rfl rfl rfl ⟨rfl, hm.2.2.1.1, hm.2.2.1.2, hm.2.2.2.1⟩ ⟨by show d2 + 1 ≤ d; omega, by show 8 + (M2.2.2.1 + 11) + 80 * d2 ≤ 80 * d; have := hm.2.2.2.2; omega⟩) ⟨Pcw.blind, hrec, fun U hU hW => ⟨rfl, by rw [hU]; exact hPO, va_K.moved hW.alike hK, by rw [hU]; exact ((hE.1.warm hW).kept hS.2.1).narrow hsub⟩⟩ rfl (by rw [List.length_map]; exact hna) hlv2.1 (by simp [F0, cvt]) (lv_room (by rw [csum_map]; exact hcs)) hd ⟨hC, hZ⟩
  intro T hT XS
  obtain ⟨v, st₀, t, T', Lc, h0, X', hL, e1, e2, ⟨hret2, hP2, hF⟩, stp⟩ := run T hT XS
  have hv : v = r1.map (cvt ad) := Outcome.returned.inj hret2
  subst hv
  have hz : H.size ≤ T'.heap.size := by rw [e1, ← h0]; exact hF.1
  have hkp : ∀ x : Nat, x < H.size → ¬ Aad S ad x → T'.heap[x]? = H[x]? := fun x h1 h2 => by rw [e1, ← h0]; exact hF.2 x (by rw [h0]; exact h1) h2
  have hS2 : va_S (bq z0) s.heap T'.heap (locs ++ Lc) := ⟨Nat.le_trans hS.1 hz, fun x h1 h2 => by rw [hkp x (Nat.lt_of_lt_of_le h1 hS.1) (fun y => h2 (hsub x y))]; exact hS.2.1 x h1 h2, fun x hx2 => by
    rcases List.mem_append.mp hx2 with h | h
    · exact hS.2.2 x h
    · exact hsub _ (hL x h)⟩
  obtain ⟨t2, b1, b2⟩ := kk p l e s m args below meth co D cy a0 ad z0 T'.heap (locs ++ Lc) ls ⟨hX1, hin, hlv2, hK, hE, by rw [e1]; exact (full_P hf).mpr hP2, full_D hD, hS2, hag, hnn, hw2⟩ T' rfl X'
  refine ⟨t2, stp t2 ?_, b2⟩
  have e3 : (r1.toList ++ rest).map (cvt ad) = (r1.map (cvt ad)).toList ++ rest.map (cvt ad) := by cases r1 <;> simp
  rw [e3] at b1
  exact b1
def fmN (N : Nat) : Nat → Int32 := fun j => if j < N then -1 else 0
theorem fmN_up {N : Nat} : upd (fmN N) N (-1) = fmN (N + 1) := by
  funext j
  unfold upd fmN
  by_cases h : j = N
  · subst h; simp
  · by_cases h2 : j < N
    · simp [h, h2, Nat.lt_succ_of_lt h2]
    · simp [h, h2, show ¬ j < N + 1 by omega]
theorem ist_rsetG {k j : Nat} {f : Nat → Int32} {v : Int32} : ist (rset I k f) k j v = rset I k (upd f j v) := by
  funext a
  unfold ist rset
  by_cases h : a = k
  · rw [if_pos h, if_pos h]; simp
  · rw [if_neg h, if_neg h, if_neg h]
theorem rset_z {k : Nat} (h : I k = fun _ => 0) : rset I k (fmN 0) = I := by
  funext a
  unfold rset
  by_cases h2 : a = k
  · subst h2
    rw [if_pos rfl, h]
    funext j
    unfold fmN
    rw [if_neg (by omega)]
  · rw [if_neg h2]
theorem g_eqI {I2 : Wd} (h : I2 = I) (kk : Gd S q M d C Z n0 nE LE IE c z n pc lv st L I2) : Gd S q M d C Z n0 nE LE IE c z n pc lv st L I := h ▸ kk
theorem g_fill {N head tgt i jf idx ci w k b pk pb : Nat} {off1 off2 : Int} {fin : Bool} {ty : FieldType} {kf : Fin 4} {lvr : List (Nat × Value)} (hq : SqOK q)
    (h0 : decode M.2.1 head = .ok (.iload_n kf, 1)) (hi : (kf : Nat) = i) (h1 : decode M.2.1 (head + 1) = .ok (.bipush (N : Int), 2)) (hN : (Int8.ofInt (N : Int)).toInt32 = nI N)
    (h2 : decode M.2.1 (head + 3) = .ok (.if_icmp .ge off1, 3)) (ht : ((head + 3 : Nat) : Int) + off1 = (tgt : Int)) (h3 : decode M.2.1 (head + 6) = .ok (.aload_n 0, 1)) (h4 : decode M.2.1 (head + 7) = .ok (.getfield idx, 3))
    (h5 : decode M.2.1 (head + 10) = .ok (.iload_n kf, 1)) (h6 : decode M.2.1 (head + 11) = .ok (.iconst (-1), 1)) (h7 : decode M.2.1 (head + 12) = .ok (.iastore, 1)) (h8 : decode M.2.1 (head + 13) = .ok (.iinc i 1, 3)) (h9 : decode M.2.1 (head + 16) = .ok (.goto off2, 3)) (ht2 : ((head + 16 : Nat) : Int) + off2 = (head : Int))
    (hi2 : i < M.2.2.1) (hlv0 : ∀ u, lk ((i, .int u) :: lvr) 0 = some (.ref b)) (hlvi : ∀ u v, lst1 i (.int v) ((i, .int u) :: lvr) = (i, .int v) :: lvr)
    (hf : FW M.1.cls idx ci jf true fin ty) (hpb : (q.take n)[pb]? = some b) (hsb : S.1.getD b (0, 0) = (ci, w)) (hr : rl L b jf = some k) (hpk : (q.take n)[pk]? = some k) (hsk : S.1.getD k (0, 0) = (20, N)) (hN2 : N < 1000)
    (kx : Gd S q M d C Z n0 nE LE IE c z n tgt ((i, .int (nI N)) :: lvr) [] L (rset I k (fmN N))) :
    ∀ (m h : Nat), h + m = N → Gd S q M d C Z n0 nE LE IE c z n head ((i, .int (nI h)) :: lvr) [] L (rset I k (fmN h)) := by
  intro m
  induction m with
  | zero =>
    intro h hm
    have e : h = N := by omega
    subst e
    refine g_iload_n (pc := head) h0 hi (x := nI h) (by show (if i = i then _ else _) = _; rw [if_pos rfl]) ?_
    refine g_bipush h1 hN ?_
    refine g_icmp_ge h2 ht (fun _ => kx) (fun hh => absurd (nI_le (Nat.le_refl h) (by omega)) hh)
  | succ m ih =>
    intro h hm
    have hl : h < N := by omega
    refine g_iload_n (pc := head) h0 hi (x := nI h) (by show (if i = i then _ else _) = _; rw [if_pos rfl]) ?_
    refine g_bipush h1 hN ?_
    refine g_icmp_ge h2 ht (fun hh => absurd hh (nI_ge hl (by omega))) (fun _ => ?_)
    refine g_aload_n (pc := head + 6) (i := 0) h3 rfl (hlv0 _) ?_
    refine g_geta (pc := head + 7) h4 hf hpb hsb hr ?_
    refine g_iload_n (pc := head + 10) h5 hi (x := nI h) (by show (if i = i then _ else _) = _; rw [if_pos rfl]) ?_
    refine g_icm1 (pc := head + 11) h6 ?_
    refine g_iast (pc := head + 12) (nI_clamp (by omega : h < 2 ^ 31)) hq h7 hpk hsk (vpn rfl hl (by omega)) ?_
    rw [ist_rsetG, fmN_up]
    refine g_iinc1 (pc := head + 13) h8 (x := nI h) (by show (if i = i then _ else _) = _; rw [if_pos rfl]) (nI_1 h) hi2 (hlvi _ _) ?_
    refine g_goto (pc := head + 16) h9 ht2 ?_
    exact ih (h + 1) (by omega)
end BG
