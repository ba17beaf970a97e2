/-! the words of the tables that hold in every state with these tables -/
def gw : List Cond := lw_tbl.filter goodWord
theorem gw_good : GoodIn gw gw := fun _ h => ⟨h, good_of_word (List.mem_filter.mp h).2⟩
theorem gw_at {w : Cond} (i : Nat) (h : lw_tbl[i]? = some w) (g : goodWord w = true) : w ∈ gw := List.mem_filter.mpr ⟨List.mem_of_getElem? h, g⟩
theorem gw_hts {args : Array Value} {s : State} (h : ∀ w ∈ lw_tbl, w.before args s = true) : ∀ w ∈ gw, w.before args s = true := fun w hw => h w (List.mem_filter.mp hw).1
theorem gw_of (ws : List Cond) (ps : List Nat) (hp : ws = ps.filterMap (fun i => lw_tbl[i]?)) (h : ws.all goodWord = true) : ∀ w ∈ ws, w ∈ gw := by
  intro w hw
  have h1 := List.all_eq_true.mp h w hw
  rw [hp] at hw
  obtain ⟨i, -, hi⟩ := List.mem_filterMap.mp hw
  exact gw_at i hi h1
abbrev clX : List vw_C := [(RX0, TX0, 6), (RX1, TX1, 13), (RX2, TX2, 16), (RX3, TX3, 5), (RX4, TX4, 7), (RX5, TX5, 3), (RX6, TX6, 7), (RX7, TX7, 7), (RX8, TX8, 3), (RX9, TX9, 4), (RX10, TX10, 14), (RX11, TX11, 77)]
def clN (c : Nat) : Nat := ([6, 13, 16, 5, 7, 3, 7, 7, 3, 4, 14, 77] : List Nat).getD c 0
/-- which fields are references -/
def refB : List (List Bool) := [[false, false, true, true, true, true], [false, false, false, false, true, true, true, true, true, true, false, true, true], [true, false, false, false, false, true, true, true, true, true, true, true, true, true, true, true], [true, true, false, false, false], [true, false, false, true, true, true, true], [false, false, true], [false, true, true, true, true, true, true], [false, false, true, true, true, true, true], [false, true, true], [false, true, true, true], [true, true, true, true, false, true, true, true, true, true, true, true, false, false], [false, false, false, false, false, true, true, true, true, true, true, true, true, true, true, true, true, true, true, true, true, false, true, true, true, true, true, true, false, false, false, true, true, true, false, false, false, true, true, true, true, true, true, true, true, false, false, false, true, true, false, false, false, false, false, false, true, true, true, false, false, false, true, false, true, false, true, true, true, false, false, false, false, true, true, true, true]]
def isR (c j : Nat) : Bool := (refB.getD c []).getD j false
/-! the world of one system: places 0, 1 .., each an object or an array; what the places hold: whole numbers (booleans among them); references stand -/
abbrev Sy : Type := List (Nat × Nat) × (Nat → Nat → Option Nat)
abbrev Wd : Type := Nat → Nat → Int32
abbrev Mi : Type := MethodName × ByteArray × Nat × Option FieldType
def cvt (ad : Nat → Nat) : Value → Value := fun v => match v with
  | .ref k => .ref (ad k)
  | v => v
theorem cvt_cat (ad : Nat → Nat) (v : Value) : (cvt ad v).category = v.category := by cases v <;> rfl
def entOf (cy : Nat → ClassId) (ad : Nat → Nat) (kd : Nat × Nat) (ik : Nat → Int32) (rk : Nat → Option Nat) : va_E :=
  if kd.1 < 20 then .inr (kd.1, (List.range (clN kd.1)).map fun j => if isR kd.1 j then va_rf ((rk j).map ad) else .int (ik j))
  else if kd.1 < 22 then .inl (cy kd.1, kd.2, .inl ik)
  else .inl (cy kd.1, kd.2, .inr (.inr (.inr (.inr fun j => (rk j).map ad))))
def wsO (cy : Nat → ClassId) (ad : Nat → Nat) (S : Sy) (I : Wd) : va_W := (List.range S.1.length).map fun k => (ad k, entOf cy ad (S.1.getD k (0, 0)) (I k) (S.2 k))
def tyL (cy : Nat → ClassId) : List (ClassId × FieldType) := [(cy 20, .int), (cy 21, .boolean), (cy 22, .object RX5), (cy 23, .object RX8)]
def Inj (S : Sy) (ad : Nat → Nat) : Prop := ∀ i j, i < S.1.length → j < S.1.length → ad i = ad j → i = j
def Aad (S : Sy) (ad : Nat → Nat) : Nat → Prop := fun q => ∃ k, k < S.1.length ∧ q = ad k
def rset (I : Wd) (k : Nat) (f : Nat → Int32) : Wd := fun a => if a = k then f else I a
/-- a place k of which place j becomes v -/
def ist (I : Wd) (k j : Nat) (v : Int32) : Wd := rset I k (upd (I k) j v)
theorem ws_at {cy : Nat → ClassId} {ad : Nat → Nat} {S : Sy} {I : Wd} {k : Nat} {kd : Nat × Nat} (h : S.1[k]? = some kd) : (wsO cy ad S I)[k]? = some (ad k, entOf cy ad kd (I k) (S.2 k)) := by
  have hl := (List.getElem?_eq_some_iff.mp h).1
  simp [wsO, List.getElem?_map, List.getElem?_range hl, List.getD, h]
theorem ws_set {cy : Nat → ClassId} {ad : Nat → Nat} {S : Sy} {I : Wd} {k : Nat} {kd : Nat × Nat} (h : S.1[k]? = some kd) (f : Nat → Int32) : (wsO cy ad S I).set k (ad k, entOf cy ad kd f (S.2 k)) = wsO cy ad S (rset I k f) := by
  have hl := (List.getElem?_eq_some_iff.mp h).1
  apply List.ext_getElem?
  intro j
  by_cases e : j = k
  · subst e
    rw [List.getElem?_set_self (by simpa [wsO] using hl), ws_at h]
    simp [rset]
  · rw [List.getElem?_set_ne (Ne.symm e)]
    simp only [wsO, List.getElem?_map, rset, if_neg e]
    cases hj : (List.range S.1.length)[j]? with
    | none => rfl
    | some q =>
      have hq : q = j := by
        have h2 := (List.getElem?_eq_some_iff.mp hj)
        obtain ⟨h3, h4⟩ := h2
        simp at h4
        exact h4.symm
      subst hq
      simp [if_neg e]
theorem ws_D {cy : Nat → ClassId} {ad : Nat → Nat} {S : Sy} {I : Wd} (h : Inj S ad) : va_D (Aad S ad) (wsO cy ad S I) := by
  have key : ∀ (i : Nat) (p : Nat × va_E), (wsO cy ad S I)[i]? = some p → i < S.1.length ∧ p.1 = ad i := by
    intro i p hp
    have hl := (List.getElem?_eq_some_iff.mp hp).1
    have hl2 : i < S.1.length := by simpa [wsO] using hl
    have h2 := ws_at (cy := cy) (ad := ad) (I := I) (List.getElem?_eq_getElem hl2)
    rw [h2] at hp
    cases hp
    exact ⟨hl2, rfl⟩
  refine ⟨fun i j p q hi hj hpq => ?_, fun k q hk => ?_⟩
  · obtain ⟨a1, a2⟩ := key i p hi
    obtain ⟨b1, b2⟩ := key j q hj
    exact h i j a1 b1 (by rw [← a2, ← b2, hpq])
  · obtain ⟨a1, a2⟩ := key k q hk
    exact ⟨k, a1, a2⟩
theorem fs_set {n j : Nat} {g : Nat → Value} (v : Value) : ((List.range n).map g).set j v = (List.range n).map (fun i => if i = j then v else g i) := by
  apply List.ext_getElem?
  intro i
  by_cases e : i = j
  · subst e
    by_cases hl : i < n
    · rw [List.getElem?_set_self (by simpa using hl)]
      simp [List.getElem?_map, List.getElem?_range hl]
    · rw [List.getElem?_eq_none (by simpa using hl), List.getElem?_eq_none (by simpa using hl)]
  · rw [List.getElem?_set_ne (Ne.symm e)]
    simp only [List.getElem?_map]
    cases hj : (List.range n)[i]? with
    | none => rfl
    | some q =>
      obtain ⟨h3, h4⟩ := List.getElem?_eq_some_iff.mp hj
      simp at h4
      subst h4
      simp [if_neg e]

/-! what lies outside: tables of numbers, texts, and what no state changes -/
def txO : List String := ["HollowShire$Rules", "HollowShire$Tape", "HollowShire$Tape", "HollowShire$Tape", "HollowShire$Tape", "HollowShire$Tape", "HollowShire$Tape", "HollowShire$Tape", "HollowShire$Tape", "HollowShire$Tape", "HollowShire$Tape", "HollowShire$Tape", "HollowShire$Tape", "HollowShire$Tape", "HollowShire$Tape"]
def txK : List Nat := [48, 75, 77, 79, 81, 83, 85, 87, 89, 91, 93, 95, 97, 99, 101]
def txT : List String := ["build doubt < 30 and rock < 2 ; move 60 < most or fell ; owe pump * 3 + rock ;", "build", "move", "owe", "o\x72", "and", "not", "doubt", "least", "most", "rock", "people", "pump", "fell", "month"]
def txL : List Nat := [78, 5, 4, 3, 2, 3, 3, 5, 5, 4, 4, 6, 4, 4, 5]
def txB : List (List Int32) := [[98, 117, 105, 108, 100, 32, 100, 111, 117, 98, 116, 32, 60, 32, 51, 48, 32, 97, 110, 100, 32, 114, 111, 99, 107, 32, 60, 32, 50, 32, 59, 32, 109, 111, 118, 101, 32, 54, 48, 32, 60, 32, 109, 111, 115, 116, 32, 111, 114, 32, 102, 101, 108, 108, 32, 59, 32, 111, 119, 101, 32, 112, 117, 109, 112, 32, 42, 32, 51, 32, 43, 32, 114, 111, 99, 107, 32, 59], [98, 117, 105, 108, 100], [109, 111, 118, 101], [111, 119, 101], [111, 114], [97, 110, 100], [110, 111, 116], [100, 111, 117, 98, 116], [108, 101, 97, 115, 116], [109, 111, 115, 116], [114, 111, 99, 107], [112, 101, 111, 112, 108, 101], [112, 117, 109, 112], [102, 101, 108, 108], [109, 111, 110, 116, 104]]
def ExS (A : Nat → Prop) (ad : Nat → Nat) (c n : String) (id : Nat) (vs : List Int32) (U : State) (H : Heap) : Prop := va_Z c n "[I" (.ref (ad id)) A U H ∧ va_T .int (ad id) vs.length (fun j => .int (vs.getD j 0)) A U H
def tbSolves : List Int32 := [0, 2, 5, 1]
def tbBears : List Int32 := [120, 90, 70, 60]
def tbAbove : List Int32 := [-1, 0, 0, 1, 2, 0]
def tbSizes : List Int32 := [0, 10, 25, 50, 100]
def Ext (A : Nat → Prop) (ad : Nat → Nat) (U : State) (H : Heap) : Prop :=
  (ExS A ad "HollowShire$Ground" "SOLVES" 1000 tbSolves U H ∧ ExS A ad "HollowShire$Ground" "BEARS" 1001 tbBears U H ∧ ExS A ad "HollowShire$Signs" "KIND_ABOVE" 1002 tbAbove U H ∧ ExS A ad "HollowShire$Fit" "SIZES" 1003 tbSizes U H) ∧
  (vk_S 15 txL txB (fun i => ad (1100 + i)) (fun i => ad (1200 + i)) A U H ∧ (∀ i, i < 15 → vk_R (txO.getD i "") (txK.getD i 0) (txT.getD i "") (ad (1100 + i)) U) ∧ va_Z "java/lang/String" "COMPACT_STRINGS" "Z" (.int 1) A U H ∧ (va_Z "jdk/internal/util/Preconditions" "SIOOBE_FORMATTER" "Ljava/util/function/BiFunction;" (.ref (ad 1301)) A U H ∨ va_Z "jdk/internal/util/Preconditions" "SIOOBE_FORMATTER" "Ljava/util/function/BiFunction;" .null A U H)) ∧
  (va_Nw (.methodLinkNest "HollowShire$Fit" 98 yX10_isNear "HollowShire") U ∧ va_Nw (.methodLinkNest "HollowShire$Ground" 86 yX10_isNear "HollowShire") U ∧ va_Nw (.methodLinkNest "HollowShire$Sheet" 26 yX10_within "HollowShire") U)
theorem ExS.warm {A : Nat → Prop} {ad : Nat → Nat} {c n : String} {id : Nat} {vs : List Int32} {s U : State} {H : Heap} (hW : s.WarmedH U.vm) (h : ExS A ad c n id vs s H) : ExS A ad c n id vs U H := ⟨va_Z.moved hW.alike h.1, va_T.moved hW.alike h.2⟩
theorem ExS.kept {A : Nat → Prop} {ad : Nat → Nat} {c n : String} {id : Nat} {vs : List Int32} {s : State} {H H1 : Heap} (hq : ∀ a : Nat, a < H.size → ¬ A a → H1[a]? = H[a]?) (h : ExS A ad c n id vs s H) : ExS A ad c n id vs s H1 := ⟨h.1.kept hq, h.2.kept hq⟩
theorem Ext.warm {A : Nat → Prop} {ad : Nat → Nat} {s U : State} {H : Heap} (hW : s.WarmedH U.vm) (h : Ext A ad s H) : Ext A ad U H := by
  obtain ⟨⟨a1, a2, a3, a4⟩, ⟨b1, b2, b3, b4⟩, c1, c2, c3⟩ := h
  exact ⟨⟨a1.warm hW, a2.warm hW, a3.warm hW, a4.warm hW⟩, ⟨vk_S.moved hW.alike b1, fun i hi => (b2 i hi).warm hW, va_Z.moved hW.alike b3, b4.imp (va_Z.moved hW.alike) (va_Z.moved hW.alike)⟩, va_Nw.warmM hW c1, va_Nw.warmM hW c2, va_Nw.warmM hW c3⟩
theorem Ext.kept {A : Nat → Prop} {ad : Nat → Nat} {s : State} {H H1 : Heap} (hq : ∀ a : Nat, a < H.size → ¬ A a → H1[a]? = H[a]?) (h : Ext A ad s H) : Ext A ad s H1 := by
  obtain ⟨⟨a1, a2, a3, a4⟩, ⟨b1, b2, b3, b4⟩, c⟩ := h
  exact ⟨⟨a1.kept hq, a2.kept hq, a3.kept hq, a4.kept hq⟩, ⟨b1.kept hq, b2, b3.kept hq, b4.imp (fun h => h.kept hq) (fun h => h.kept hq)⟩, c⟩
theorem Ext.same {A : Nat → Prop} {ad : Nat → Nat} {u U : State} {H : Heap} (hv : U.vm = u.vm) (h : Ext A ad u H) : Ext A ad U H := by
  obtain ⟨⟨a1, a2, a3, a4⟩, ⟨b1, b2, b3, b4⟩, c1, c2, c3⟩ := h
  have al : u.vm.Alike U.vm := by rw [hv]; exact Vm.Alike.refl u.vm
  exact ⟨⟨⟨va_Z.moved al a1.1, va_T.moved al a1.2⟩, ⟨va_Z.moved al a2.1, va_T.moved al a2.2⟩, ⟨va_Z.moved al a3.1, va_T.moved al a3.2⟩, ⟨va_Z.moved al a4.1, va_T.moved al a4.2⟩⟩, ⟨vk_S.moved al b1, fun i hi => vk_R.same hv (b2 i hi), va_Z.moved al b3, b4.imp (va_Z.moved al) (va_Z.moved al)⟩, va_Nw.same rfl hv.symm c1, va_Nw.same rfl hv.symm c2, va_Nw.same rfl hv.symm c3⟩
/-! the judgements: a method's contract, and a frame's way to its end -/
def rmd (d : Nat) : Room := { frames := d, cells := 0, slots := 0, locals := 80 * d }
def Pcw (D : va_G) (cy : Nat → ClassId) (ad : Nat → Nat) (S : Sy) (As : List Value) (I : Wd) : Array Value → State → Prop := fun v U => v = (As.map (cvt ad)).toArray ∧ va_P D clX (wsO cy ad S I) U.heap ∧ va_K D clX (tyL cy) U ∧ Ext (Aad S ad) ad U U.heap
def Qcw (D : va_G) (cy : Nat → ClassId) (ad : Nat → Nat) (S : Sy) (r : Option Value) (I' : Wd) : Array Value → State → Outcome → State → Prop := fun _ st o t => o = .returned (r.map (cvt ad)) ∧ va_P D clX (wsO cy ad S I') t.heap ∧ va_F (Aad S ad) st t
def Cal (S : Sy) (M : Mi) (d : Nat) (As : List Value) (I : Wd) (r : Option Value) (I' : Wd) : Prop :=
  ∀ (l : Launch) (D : va_G) (cy : Nat → ClassId) (ad : Nat → Nat), Inj S ad → Met l M.1 (.code M.1 M.2.1 M.2.2.1 M.2.2.2 :: gw) (rmd d) (Pcw D cy ad S As I) (Qcw D cy ad S r I') 0 0 (Aad S ad)
def lvc (ad : Nat → Nat) (lv : List (Nat × Value)) : List (Nat × Value) := lv.map fun q => (q.1, cvt ad q.2)
def lk : List (Nat × Value) → Nat → Option Value
  | [], _ => none
  | q :: t, i => if q.1 = i then some q.2 else lk t i
theorem lk_mem {lv : List (Nat × Value)} {i : Nat} {v : Value} (h : lk lv i = some v) : (i, v) ∈ lv := by
  induction lv with
  | nil => cases h
  | cons q t ih =>
    unfold lk at h
    split at h
    · next e => cases h; rw [← e]; exact List.mem_cons_self
    · exact List.mem_cons_of_mem _ (ih h)
theorem lv_lk {ad : Nat → Nat} {ls : Array Slot} {n : Nat} {lv : List (Nat × Value)} (h : lv_has ls n (lvc ad lv)) {i : Nat} {v : Value} (hk : lk lv i = some v) : ls[i]? = some (.val (cvt ad v)) :=
  h.2.2 (i, cvt ad v) (List.mem_map.mpr ⟨(i, v), lk_mem hk, rfl⟩)
def lst1 (i : Nat) (v : Value) (lv : List (Nat × Value)) : List (Nat × Value) := (i, v) :: lv.filter (fun q => !(q.1 == i) && !(q.1 + 1 == i && q.2.category == 2))
def lst2 (i : Nat) (v : Value) (lv : List (Nat × Value)) : List (Nat × Value) := (i, v) :: lv.filter (fun q => !(q.1 == i) && (!(q.1 == i + 1) && !(q.1 + 1 == i && q.2.category == 2)))
theorem lvc_1 (ad : Nat → Nat) (i : Nat) (v : Value) (lv : List (Nat × Value)) : lst1 i (cvt ad v) (lvc ad lv) = lvc ad (lst1 i v lv) := by
  show _ :: _ = _ :: _
  congr 1
  simp only [lvc, List.filter_map]
  congr 1
  apply List.filter_congr
  intro q _
  simp [cvt_cat]
theorem lvc_2 (ad : Nat → Nat) (i : Nat) (v : Value) (lv : List (Nat × Value)) : lst2 i (cvt ad v) (lvc ad lv) = lvc ad (lst2 i v lv) := by
  show _ :: _ = _ :: _
  congr 1
  simp only [lvc, List.filter_map]
  congr 1
  apply List.filter_congr
  intro q _
  simp [cvt_cat]
theorem lvc_args (ad : Nat → Nat) : ∀ (As : List Value) (i : Nat), lv_args i (As.map (cvt ad)) = lvc ad (lv_args i As)
  | [], _ => rfl
  | v :: t, i => by
    show (i, cvt ad v) :: lv_args _ (t.map (cvt ad)) = (i, cvt ad v) :: lvc ad (lv_args _ t)
    rw [cvt_cat, lvc_args ad t]
theorem lg_len (ad : Nat → Nat) : ∀ As : List Value, (lg_sl (As.map (cvt ad))).length = (lg_sl As).length
  | [] => rfl
  | v :: t => by
    have ih := lg_len ad t
    show ((if (cvt ad v).category = 2 then [Slot.val (cvt ad v), .second] else [.val (cvt ad v)]) ++ lg_sl (t.map (cvt ad))).length = ((if v.category = 2 then [Slot.val v, .second] else [.val v]) ++ lg_sl t).length
    rw [List.length_append, List.length_append, ih, cvt_cat]
    split <;> rfl
abbrev Fx (M : Mi) (p : Program) (s : State) (m : MethodId) (args : Array Value) (meth : Method) (c : Code) : Prop :=
  p.tables.exec = Jvm.exec ∧ c.code = M.2.1 ∧ meth.sig.returnType = M.2.2.2 ∧ c.maxLocals = M.2.2.1 ∧ s.vm.findClass M.1.cls = some m.cls ∧ (∀ w ∈ gw, w.before args s = true) ∧ meth.locks = false
def Cx (S : Sy) (M : Mi) (p : Program) (s : State) (m : MethodId) (args : Array Value) (meth : Method) (c : Code) (D : va_G) (cy : Nat → ClassId) (ad : Nat → Nat) (I : Wd) (H : Heap) (locs : List Loc) (ls : Array Slot) (lv : List (Nat × Value)) : Prop :=
  Fx M p s m args meth c ∧ lv_has ls M.2.2.1 (lvc ad lv) ∧ Inj S ad ∧ va_K D clX (tyL cy) s ∧ Ext (Aad S ad) ad s s.heap ∧ va_P D clX (wsO cy ad S I) H ∧ va_S (Aad S ad) s.heap H locs
def Bd (S : Sy) (M : Mi) (d pc : Nat) (lv : List (Nat × Value)) (st : List Value) (I : Wd) (r : Option Value) (I' : Wd) : Prop :=
  ∀ (p : Program) (l : Launch) (e : Env) (s : State) (m : MethodId) (args : Array Value) (below : List Frame) (meth : Method) (c : Code) (D : va_G) (cy : Nat → ClassId) (ad : Nat → Nat) (H : Heap) (locs : List Loc) (ls : Array Slot),
    Cx S M p s m args meth c D cy ad I H locs ls lv → W p l e (rmd d) s m args below meth c H locs 0 0 (MQ below (Qcw D cy ad S r I') args s 0 0 (Aad S ad)) (F0 m pc ls (st.map (cvt ad)))
theorem Cal.of {S : Sy} {M : Mi} {d : Nat} {As : List Value} {I I' : Wd} {r : Option Value} (hp : plainName M.1.cls = true) (hn : (lg_sl As).length ≤ M.2.2.1) (h : Bd S M d 0 (lv_args 0 As) [] I r I') : Cal S M d As I r I' := by
  intro l D cy ad hi
  refine Met.ofW (cc := M.2.1) (maxL := M.2.2.1) (ret := M.2.2.2) hp rfl ?_
  intro p e s m args below meth c s₁ B hml hv
  obtain ⟨rfl, hP, hK, hE⟩ := hv
  have hts := atoms_spec (ws := Cond.code M.1 M.2.1 M.2.2.1 M.2.2.2 :: gw) B.pre
  have hlen := lg_len ad As
  have hl := lv_entry (As.map (cvt ad)) (n := M.2.2.1) (by rw [hlen]; exact hn)
  rw [lg_entry_eq]
  rw [lvc_args] at hl
  exact h p l e s m _ below meth c D cy ad s.heap [] _ ⟨⟨B.exec, B.bytes, B.returns, hml, findClass_of_methodNamed B.named, fun w hw => hts w (List.mem_cons_of_mem _ hw), B.notSynchronized⟩, hl, hi, hK, hE, hP, va_S.rf⟩

