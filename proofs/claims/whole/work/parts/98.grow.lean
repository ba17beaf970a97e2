/-! worlds that grow: the places come in the order q; n of them are there; L says which references stand -/
def bq (z0 : Nat) : Nat → Prop := fun a => z0 ≤ a
def rl : List (Nat × Nat × Nat) → Nat → Nat → Option Nat
  | [], _, _ => none
  | t :: L, k, j => if t.1 = k ∧ t.2.1 = j then some t.2.2 else rl L k j
theorem rl_mem {L : List (Nat × Nat × Nat)} {k j v : Nat} (h : rl L k j = some v) : (k, j, v) ∈ L := by
  induction L with
  | nil => cases h
  | cons t L ih =>
    unfold rl at h
    split at h
    · next e =>
      cases h
      obtain ⟨a, b, c⟩ := t
      obtain ⟨rfl, rfl⟩ := e
      exact List.mem_cons_self
    · exact List.mem_cons_of_mem _ (ih h)
theorem rl_ne {L : List (Nat × Nat × Nat)} {k a j v : Nat} (h : a ≠ k) : rl ((k, j, v) :: L) a = rl L a := by
  funext b
  show (if k = a ∧ j = b then some v else rl L a b) = rl L a b
  rw [if_neg (fun q => h q.1.symm)]
def wsG (cy : Nat → ClassId) (ad : Nat → Nat) (S : Sy) (q : List Nat) (n : Nat) (L : List (Nat × Nat × Nat)) (I : Wd) : va_W := (q.take n).map fun k => (ad k, entOf cy ad (S.1.getD k (0, 0)) (I k) (rl L k))
def SqOK (q : List Nat) : Prop := q.Nodup ∧ ∀ k ∈ q, k < 1000
def agr (q : List Nat) (n : Nat) (a0 a1 : Nat → Nat) : Prop := ∀ k, (k ∈ q.take n ∨ k ∉ q) → a1 k = a0 k
def wfL (q : List Nat) (n : Nat) (L : List (Nat × Nat × Nat)) : Prop := ∀ t ∈ L, t.1 ∈ q.take n ∧ t.2.2 ∈ q.take n
def inq (qs : List Nat) : Value → Bool := fun v => match v with
  | .ref k => qs.contains k
  | _ => true
theorem wfL_rl {q : List Nat} {n : Nat} {L : List (Nat × Nat × Nat)} (h : wfL q n L) {k j v : Nat} (hr : rl L k j = some v) : k ∈ q.take n ∧ v ∈ q.take n := h _ (rl_mem hr)
theorem cvt_agr {qs : List Nat} {a0 a1 : Nat → Nat} (h : ∀ k ∈ qs, a1 k = a0 k) {v : Value} (hv : inq qs v = true) : cvt a1 v = cvt a0 v := by
  cases v <;> first | rfl | (show Value.ref _ = Value.ref _; rw [h _ (List.contains_iff_mem.mp hv)])
theorem cvts_agr {qs : List Nat} {a0 a1 : Nat → Nat} (h : ∀ k ∈ qs, a1 k = a0 k) {st : List Value} (hv : st.all (inq qs) = true) : st.map (cvt a1) = st.map (cvt a0) := by
  apply List.map_congr_left
  intro v hm
  exact cvt_agr h (List.all_eq_true.mp hv v hm)
theorem lvc_agr {qs : List Nat} {a0 a1 : Nat → Nat} (h : ∀ k ∈ qs, a1 k = a0 k) {lv : List (Nat × Value)} (hv : lv.all (fun x => inq qs x.2) = true) : lvc a1 lv = lvc a0 lv := by
  apply List.map_congr_left
  intro v hm
  show (v.1, cvt a1 v.2) = (v.1, cvt a0 v.2)
  rw [cvt_agr h (List.all_eq_true.mp hv v hm)]
theorem ent_agr {cy : Nat → ClassId} {a0 a1 : Nat → Nat} {kd : Nat × Nat} {ik : Nat → Int32} {rk : Nat → Option Nat} (h : ∀ j v, rk j = some v → a1 v = a0 v) : entOf cy a1 kd ik rk = entOf cy a0 kd ik rk := by
  have e : ∀ j, (rk j).map a1 = (rk j).map a0 := by
    intro j
    cases hj : rk j with
    | none => rfl
    | some v => show some _ = some _; rw [h j v hj]
  have e2 : (fun j => (rk j).map a1) = fun j => (rk j).map a0 := funext e
  unfold entOf
  split
  · congr 2
    apply List.map_congr_left
    intro j _
    split
    · rw [e j]
    · rfl
  · split
    · rfl
    · rw [e2]
theorem wsG_at {cy : Nat → ClassId} {ad : Nat → Nat} {S : Sy} {q : List Nat} {n i k : Nat} {L : List (Nat × Nat × Nat)} {I : Wd} (h : (q.take n)[i]? = some k) : (wsG cy ad S q n L I)[i]? = some (ad k, entOf cy ad (S.1.getD k (0, 0)) (I k) (rl L k)) := by
  unfold wsG
  rw [List.getElem?_map, h]
  rfl
theorem wsG_set {cy : Nat → ClassId} {ad : Nat → Nat} {S : Sy} {q : List Nat} {n i k : Nat} {L L' : List (Nat × Nat × Nat)} {I I' : Wd} (hq : SqOK q) (h : (q.take n)[i]? = some k) (hI : ∀ a, a ≠ k → I' a = I a) (hL : ∀ a, a ≠ k → rl L' a = rl L a) : (wsG cy ad S q n L I).set i (ad k, entOf cy ad (S.1.getD k (0, 0)) (I' k) (rl L' k)) = wsG cy ad S q n L' I' := by
  have hl := (List.getElem?_eq_some_iff.mp h).1
  have hnd : (q.take n).Nodup := hq.1.sublist (List.take_sublist n q)
  apply List.ext_getElem?
  intro j
  by_cases e : j = i
  · subst e
    rw [List.getElem?_set_self (by simpa [wsG] using hl), wsG_at h]
  · rw [List.getElem?_set_ne (Ne.symm e)]
    cases hj : (q.take n)[j]? with
    | none => simp only [wsG, List.getElem?_map, hj]; rfl
    | some a =>
      have hne : a ≠ k := by
        intro e2
        subst e2
        exact e ((List.getElem?_inj (List.getElem?_eq_some_iff.mp hj).1 hnd).mp (hj.trans h.symm))
      rw [wsG_at hj, wsG_at hj, hI a hne, hL a hne]
theorem take_next {q : List Nat} {n k : Nat} (h : q[n]? = some k) : q.take (n + 1) = q.take n ++ [k] := by
  rw [List.take_succ, h]; rfl
theorem next_nin {q : List Nat} {n k : Nat} (hq : SqOK q) (h : q[n]? = some k) : k ∉ q.take n := by
  intro hm
  obtain ⟨i, hi⟩ := List.getElem?_of_mem hm
  have hlt : i < n := by
    have := (List.getElem?_eq_some_iff.mp hi).1
    simp at this
    omega
  have h2 : q[i]? = some k := by
    rw [List.getElem?_take, if_pos hlt] at hi
    exact hi
  have := (List.getElem?_inj (List.getElem?_eq_some_iff.mp h2).1 hq.1).mp (h2.trans h.symm)
  omega
def adx (ad : Nat → Nat) (k a : Nat) : Nat → Nat := fun j => if j = k then a else ad j
theorem adx_ne {ad : Nat → Nat} {k a j : Nat} (h : j ≠ k) : adx ad k a j = ad j := if_neg h
theorem adx_eq {ad : Nat → Nat} {k a : Nat} : adx ad k a k = a := if_pos rfl
theorem wsG_push {cy : Nat → ClassId} {ad : Nat → Nat} {S : Sy} {q : List Nat} {n k a : Nat} {L : List (Nat × Nat × Nat)} {I : Wd} (hq : SqOK q) (h : q[n]? = some k) (hw : wfL q n L) : wsG cy (adx ad k a) S q (n + 1) L I = wsG cy ad S q n L I ++ [(a, entOf cy ad (S.1.getD k (0, 0)) (I k) (rl L k))] := by
  have hn := next_nin hq h
  have hv : ∀ b j v, rl L b j = some v → adx ad k a v = ad v := fun b j v hr => adx_ne (fun e : v = k => hn (by rw [← e]; exact (wfL_rl hw hr).2))
  unfold wsG
  rw [take_next h, List.map_append]
  congr 1
  · apply List.map_congr_left
    intro b hb
    rw [adx_ne (fun e : b = k => hn (by rw [← e]; exact hb)), ent_agr (fun j v hr => hv b j v hr)]
  · show [(adx ad k a k, entOf cy (adx ad k a) (S.1.getD k (0, 0)) (I k) (rl L k))] = _
    rw [adx_eq, ent_agr (fun j v hr => hv k j v hr)]
theorem wfL.up {q : List Nat} {n : Nat} {L : List (Nat × Nat × Nat)} (h : wfL q n L) {k : Nat} (hk : q[n]? = some k) : wfL q (n + 1) L := fun t ht => by
  rw [take_next hk]
  exact ⟨List.mem_append_left _ (h t ht).1, List.mem_append_left _ (h t ht).2⟩
theorem wfL.put {q : List Nat} {n : Nat} {L : List (Nat × Nat × Nat)} (h : wfL q n L) {k j v : Nat} (h1 : k ∈ q.take n) (h2 : v ∈ q.take n) : wfL q n ((k, j, v) :: L) := fun t ht => by
  rcases List.mem_cons.mp ht with rfl | ht
  · exact ⟨h1, h2⟩
  · exact h t ht
theorem agr.rf {q : List Nat} {n : Nat} {a : Nat → Nat} : agr q n a a := fun _ _ => rfl
theorem take_sub {q : List Nat} {n m : Nat} (h : n ≤ m) : ∀ k ∈ q.take n, k ∈ q.take m := fun k hk => (List.take_sublist_take_left h).subset hk
theorem agr.step {q : List Nat} {n0 n : Nat} {a0 a1 : Nat → Nat} {k a : Nat} (hq : SqOK q) (h : agr q n0 a0 a1) (hn : n0 ≤ n) (hk : q[n]? = some k) : agr q n0 a0 (adx a1 k a) := fun j hj => by
  rw [adx_ne, h j hj]
  rintro rfl
  rcases hj with hj | hj
  · exact next_nin hq hk (take_sub hn _ hj)
  · exact hj (List.mem_of_getElem? hk)
theorem agr.trans {q : List Nat} {n0 n : Nat} {a0 a1 a2 : Nat → Nat} (h : agr q n0 a0 a1) (hn : n0 ≤ n) (h2 : agr q n a1 a2) : agr q n0 a0 a2 := fun j hj => by
  rw [h2 j (hj.imp (take_sub hn j) id), h j hj]
theorem Ext.ad {A : Nat → Prop} {a0 a1 : Nat → Nat} {U : State} {H : Heap} (h : Ext A a0 U H) (ha : ∀ j, 1000 ≤ j → a1 j = a0 j) : Ext A a1 U H := by
  unfold Ext ExS at h ⊢
  have e1 : (fun i => a1 (1100 + i)) = fun i => a0 (1100 + i) := funext fun i => ha _ (by omega)
  have e2 : (fun i => a1 (1200 + i)) = fun i => a0 (1200 + i) := funext fun i => ha _ (by omega)
  rw [e1, e2, ha 1000 (by omega), ha 1001 (by omega), ha 1002 (by omega), ha 1003 (by omega), ha 1301 (by omega)]
  refine ⟨h.1, ⟨h.2.1.1, fun i hi => ?_, h.2.1.2.2⟩, h.2.2⟩
  rw [ha (1100 + i) (by omega)]
  exact h.2.1.2.1 i hi
theorem Ext.narrow {A B : Nat → Prop} {ad : Nat → Nat} {U : State} {H : Heap} (h : Ext A ad U H) (hAB : ∀ q, B q → A q) : Ext B ad U H := by
  obtain ⟨⟨a1, a2, a3, a4⟩, ⟨b1, b2, b3, b4⟩, c⟩ := h
  exact ⟨⟨⟨a1.1.narrow hAB, a1.2.narrow hAB⟩, ⟨a2.1.narrow hAB, a2.2.narrow hAB⟩, ⟨a3.1.narrow hAB, a3.2.narrow hAB⟩, ⟨a4.1.narrow hAB, a4.2.narrow hAB⟩⟩, ⟨b1.narrow hAB, b2, b3.narrow hAB, b4.imp (fun h => h.narrow hAB) (fun h => h.narrow hAB)⟩, c⟩
theorem agr_ext {q : List Nat} {n : Nat} {a0 a1 : Nat → Nat} (hq : SqOK q) (h : agr q n a0 a1) : ∀ j, 1000 ≤ j → a1 j = a0 j := fun j hj => h j (Or.inr fun hm => by have := hq.2 j hm; omega)
/-! links of private constructors, arrays of sheets -/
def NX (U : State) : Prop := va_AO RX5 U ∧ va_Nw (.methodLinkNest RX10 9 yX0_init RX10) U ∧ va_Nw (.methodLinkNest RX10 37 yX6_init RX10) U ∧ va_Nw (.methodLinkNest RX10 56 yX1_init RX10) U ∧ va_Nw (.methodLinkNest RX4 11 yX7_init RX10) U ∧ va_Nw (.methodLinkNest RX3 11 yX8_init RX10) U ∧ va_Nw (.methodLinkNest RX4 47 yX8_init RX10) U ∧ va_Nw (.methodLinkNest RX10 85 yX5_init RX10) U
theorem NX.same {u U : State} (hv : U.vm = u.vm) (h : NX u) : NX U := by
  have al : u.vm.Alike U.vm := by rw [hv]; exact Vm.Alike.refl u.vm
  obtain ⟨a, b1, b2, b3, b4, b5, b6, b7⟩ := h
  exact ⟨a.moved al, va_Nw.same rfl hv.symm b1, va_Nw.same rfl hv.symm b2, va_Nw.same rfl hv.symm b3, va_Nw.same rfl hv.symm b4, va_Nw.same rfl hv.symm b5, va_Nw.same rfl hv.symm b6, va_Nw.same rfl hv.symm b7⟩
theorem NX.warm {s U : State} (hW : s.WarmedH U.vm) (h : NX s) : NX U := by
  obtain ⟨a, b1, b2, b3, b4, b5, b6, b7⟩ := h
  exact ⟨a.moved hW.alike, va_Nw.warmM hW b1, va_Nw.warmM hW b2, va_Nw.warmM hW b3, va_Nw.warmM hW b4, va_Nw.warmM hW b5, va_Nw.warmM hW b6, va_Nw.warmM hW b7⟩
/-! the judgements -/
def rmG (d C Z : Nat) : Room := { frames := d, cells := C, slots := Z, locals := 80 * d }
def Pg (D : va_G) (cy : Nat → ClassId) (ad : Nat → Nat) (z0 : Nat) (S : Sy) (q : List Nat) (n : Nat) (As : List Value) (L : List (Nat × Nat × Nat)) (I : Wd) : Array Value → State → Prop := fun v U => v = (As.map (cvt ad)).toArray ∧ z0 ≤ U.heap.size ∧ va_P D clX (wsG cy ad S q n L I) U.heap ∧ va_D (bq z0) (wsG cy ad S q n L I) ∧ va_K D clX (tyL cy) U ∧ Ext (bq z0) ad U U.heap ∧ va_AO RX8 U ∧ NX U ∧ wfL q n L
def Qg (D : va_G) (cy : Nat → ClassId) (a0 : Nat → Nat) (z0 : Nat) (S : Sy) (q : List Nat) (n0 n : Nat) (L : List (Nat × Nat × Nat)) (I : Wd) : Array Value → State → Outcome → State → Prop := fun _ st o t => o = .returned none ∧ n0 ≤ n ∧ wfL q n L ∧ (∃ ad, agr q n0 a0 ad ∧ va_P D clX (wsG cy ad S q n L I) t.heap ∧ va_D (bq z0) (wsG cy ad S q n L I)) ∧ va_F (bq z0) st t
def Gal (S : Sy) (q : List Nat) (M : Mi) (d C Z : Nat) (As : List Value) (n0 : Nat) (L0 : List (Nat × Nat × Nat)) (I0 : Wd) (n : Nat) (L : List (Nat × Nat × Nat)) (I : Wd) : Prop :=
  ∀ (l : Launch) (D : va_G) (cy : Nat → ClassId) (ad : Nat → Nat) (z0 : Nat), Met l M.1 (.code M.1 M.2.1 M.2.2.1 M.2.2.2 :: gw) (rmG d C Z) (Pg D cy ad z0 S q n0 As L0 I0) (Qg D cy ad z0 S q n0 n L I) C Z (bq z0)
def Cg (S : Sy) (q : List Nat) (M : Mi) (n0 n : Nat) (L : List (Nat × Nat × Nat)) (p : Program) (s : State) (m : MethodId) (args : Array Value) (meth : Method) (c : Code) (D : va_G) (cy : Nat → ClassId) (a0 ad : Nat → Nat) (z0 : Nat) (I : Wd) (H : Heap) (locs : List Loc) (ls : Array Slot) (lv : List (Nat × Value)) : Prop :=
  Fx M p s m args meth c ∧ meth.name = "<init>" ∧ lv_has ls M.2.2.1 (lvc ad lv) ∧ va_K D clX (tyL cy) s ∧ (Ext (bq z0) ad s s.heap ∧ va_AO RX8 s ∧ NX s ∧ z0 ≤ s.heap.size) ∧ va_P D clX (wsG cy ad S q n L I) H ∧ va_D (bq z0) (wsG cy ad S q n L I) ∧ va_S (bq z0) s.heap H locs ∧ agr q n0 a0 ad ∧ n0 ≤ n ∧ wfL q n L
/-- q: the order; M: the method; d: the depth of calls; C, Z: cells and slots to be made; n0: how many places at the method's start; c, z: made so far -/
def Gd (S : Sy) (q : List Nat) (M : Mi) (d C Z n0 : Nat) (nE : Nat) (LE : List (Nat × Nat × Nat)) (IE : Wd) (c z n pc : Nat) (lv : List (Nat × Value)) (st : List Value) (L : List (Nat × Nat × Nat)) (I : Wd) : Prop :=
  ∀ (p : Program) (l : Launch) (e : Env) (s : State) (m : MethodId) (args : Array Value) (below : List Frame) (meth : Method) (co : Code) (D : va_G) (cy : Nat → ClassId) (a0 ad : Nat → Nat) (z0 : Nat) (H : Heap) (locs : List Loc) (ls : Array Slot),
    Cg S q M n0 n L p s m args meth co D cy a0 ad z0 I H locs ls lv → W p l e (rmG d C Z) s m args below meth co H locs c z (MQ below (Qg D cy a0 z0 S q n0 nE LE IE) args s C Z (bq z0)) (F0 m pc ls (st.map (cvt ad)))
theorem Gal.of {S : Sy} {q : List Nat} {M : Mi} {d C Z : Nat} {As : List Value} {n0 n : Nat} {L0 L : List (Nat × Nat × Nat)} {I0 I : Wd} (hp : plainName M.1.cls = true) (hi : M.1.name = "<init>") (hn : (lg_sl As).length ≤ M.2.2.1) (h : Gd S q M d C Z n0 n L I 0 0 n0 0 (lv_args 0 As) [] L0 I0) : Gal S q M d C Z As n0 L0 I0 n L I := by
  intro l D cy ad z0
  refine Met.ofW (cc := M.2.1) (maxL := M.2.2.1) (ret := M.2.2.2) hp rfl ?_
  intro p e s m args below meth c s₁ B hml hv
  obtain ⟨rfl, hz, hP, hD, hK, hE, hA1, hA2, hw⟩ := hv
  have hts := atoms_spec (ws := Cond.code M.1 M.2.1 M.2.2.1 M.2.2.2 :: gw) B.pre
  have hin : meth.name = "<init>" := ((name_of_methodNamed B.named B.method).1).trans hi
  have hlen := lg_len ad As
  have hl := lv_entry (As.map (cvt ad)) (n := M.2.2.1) (by rw [hlen]; exact hn)
  rw [lg_entry_eq]
  rw [lvc_args] at hl
  exact h p l e s m _ below meth c D cy ad ad z0 s.heap [] _ ⟨⟨B.exec, B.bytes, B.returns, hml, findClass_of_methodNamed B.named, fun w hw => hts w (List.mem_cons_of_mem _ hw), B.notSynchronized⟩, hin, hl, hK, ⟨hE, hA1, hA2, hz⟩, hP, hD, va_S.rf, agr.rf, Nat.le_refl _, hw⟩
/-- a class that is made: its link, its words -/
def NW (own : String) (idx ci : Nat) : Prop := ∃ (C : String) (T : u_T) (N : Nat) (ty0 : Nat → FieldType), clX[ci]? = some (C, T, N) ∧ clN ci = N ∧ (∀ w ∈ u_ws C T N, w ∈ gw) ∧ Cond.classLink own idx C ∈ gw ∧ Cond.instantiable C N ∈ gw ∧ Cond.initialized C ∈ gw ∧ (∀ k, k < N → parseFieldDescriptor (T k).2.2.1 = some (ty0 k)) ∧ (∀ j, j < N → defaultValue (ty0 j) = if isR ci j then .null else .int 0) ∧ ci < 20
