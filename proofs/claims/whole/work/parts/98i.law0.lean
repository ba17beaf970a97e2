/-! the law: two worlds on one heap (the first rows are the skeleton's) -/
def R_law : String := "HollowShireLaw"
def lw_P (b : Addr) (xs : List Int32) (args : Array Value) (s : State) : Prop := args = #[.ref b] ∧ s.IntsAt b xs ∧ xs.length ≤ 3072 ∧ (Jvm.Cond.and given_1 narrow_1).before args s = true
def lw_Q (_ : Array Value) (s : State) (o : Outcome) (t : State) : Prop := o = .returned (some (.int 1)) ∧ Framed s o t [] 600000 7302250
def lw_Z (below : List Frame) (a : Array Value) (s : State) : State → Prop := fun t => ∃ o, t.status = .running ∧ Ended t below o ∧ lw_Q a s o t
/-- the law's own end, with 1 on the stack, nothing written that was there before, its room as the claim has it -/
theorem lw_ret {p : Program} {l : Launch} {e : Env} {s : State} {m : MethodId} {below : List Frame} {meth : Method} {c : Code} {b : Nat} (hx : p.tables.exec = Jvm.exec) (hb : c.code = code) (hr : meth.sig.returnType = ret) (hlocks : meth.locks = false) {pc : Nat} {H : Heap} {ls : Array Slot} (hdg : decode code pc = .ok (.ireturn, 1)) : W p l e room_1 s m #[Value.ref b] below meth c H [] 600000 7302250 (lw_Z below #[Value.ref b] s) (F0 m pc ls [.int 1]) := by
  intro T hT X
  obtain ⟨fs, hret, hrun, hended, hW, hframe⟩ := X.leave (v := some (.int 1)) (hlocks := hlocks) (fun h => by rw [hr] at h; cases h)
  have hmeth' : T.vm.method? m = some meth := X.method'
  refine ⟨T.setFrames fs, ?_, .returned (some (.int 1)), hrun, hended, rfl, ⟨_, rfl⟩, hW, hframe⟩
  jvm_step X.here [X.here.top, hx, hb, hdg, hmeth', hr, ret, narrow_b1]
  (try refine ⟨rfl, ?_⟩); (try refine ⟨rfl, ?_⟩)
  first | (intro acts; rw [hret _ acts rfl rfl rfl]) | rw [hret _ _ rfl rfl rfl]
  exact Steps.refl _
/-- what holds at the law's entry: the machine, the code, the tables' words (any of lw_tbl by 'hts w (by decide +kernel)'), the script of L ints xs at the cell b, what the Statement gives of the start (any of its parts by flat_of_before) -/
def lw_At (p : Program) (s : State) (m : MethodId) (meth : Method) (c : Code) (b L : Nat) (xs : Nat → Int32) : Prop :=
  p.tables.exec = Jvm.exec ∧ c.code = code ∧ meth.sig.returnType = ret ∧ c.maxLocals = 4 ∧ s.vm.findClass R_law = some m.cls ∧ (∀ w ∈ lw_tbl, w.before #[Value.ref b] s = true) ∧ va_X b L xs s s.heap ∧ b < s.heap.size ∧ meth.locks = false ∧ (Jvm.Cond.and given_1 narrow_1).before #[Value.ref b] s = true
def ag (xs : Nat → Int32) (i : Int32) (k : Nat) : Int32 := xs (i + nI k).toNatClampNeg
def LX (p : Program) (s : State) (m : MethodId) (meth : Method) (c : Code) (b L : Nat) (xs : Nat → Int32) (D : va_G) (cy : Nat → ClassId) (a1 a2 : Nat → Nat) : Prop :=
  lw_At p s m meth c b L xs ∧ va_K D clX (tyL cy) s ∧ (Ext (bq s.heap.size) a1 s s.heap ∧ Ext (bq s.heap.size) a2 s s.heap) ∧ (Inj SyC a1 ∧ Inj SyM a2) ∧ (∀ q, Aad SyC a1 q → s.heap.size ≤ q) ∧ (∀ q, Aad SyM a2 q → s.heap.size ≤ q) ∧ (∀ q, Aad SyC a1 q → ¬ Aad SyM a2 q)
def Ld (p : Program) (l : Launch) (e : Env) (s : State) (m : MethodId) (below : List Frame) (meth : Method) (c : Code) (b : Nat) (D : va_G) (cy : Nat → ClassId) (a1 a2 : Nat → Nat) (pc : Nat) (i : Int32) (st : List Value) (I J : Wd) : Prop :=
  ∀ (H : Heap) (locs : List Loc) (ls : Array Slot), va_P D clX (wsO cy a1 SyC I) H → va_P D clX (wsO cy a2 SyM J) H → va_S (bq s.heap.size) s.heap H locs → lv_has ls 4 [(3, .int i), (2, .ref (a2 0)), (1, .ref (a1 0)), (0, .ref b)] → W p l e room_1 s m #[Value.ref b] below meth c H locs 156 7196 (lw_Z below #[Value.ref b] s) (F0 m pc ls st)
theorem P_keep {D : va_G} {cy : Nat → ClassId} {ad : Nat → Nat} {S : Sy} {I : Wd} {H H1 : Heap} (h : va_P D clX (wsO cy ad S I) H) (hk : ∀ q, q < H.size → Aad S ad q → H1[q]? = H[q]?) : va_P D clX (wsO cy ad S I) H1 := by
  refine h.kept (fun k q hq => ?_)
  have hlt := (h k q hq).lt
  have hl : k < S.1.length := by
    have := (List.getElem?_eq_some_iff.mp hq).1
    simpa [wsO] using this
  have h2 := ws_at (cy := cy) (ad := ad) (I := I) (List.getElem?_eq_getElem hl)
  rw [h2] at hq
  cases hq
  exact hk _ hlt ⟨k, hl, rfl⟩
section LR
variable {p : Program} {l : Launch} {e : Env} {s : State} {m : MethodId} {below : List Frame} {meth : Method} {c : Code} {b L : Nat} {xs : Nat → Int32} {D : va_G} {cy : Nat → ClassId} {a1 a2 : Nat → Nat} {pc : Nat} {i : Int32} {st : List Value} {I J : Wd}
theorem l_a0 (X : LX p s m meth c b L xs D cy a1 a2) (hd : decode code pc = .ok (.aload_n 0, 1)) (kk : Ld p l e s m below meth c b D cy a1 a2 (pc + 1) i (.ref b :: st) I J) : Ld p l e s m below meth c b D cy a1 a2 pc i (st) I J :=
  fun H locs ls h1 h2 h3 hl => lv_aload_n X.1.1 X.1.2.1 hd rfl (lv_at hl 3 rfl) (kk H locs ls h1 h2 h3 hl)
theorem l_a1 (X : LX p s m meth c b L xs D cy a1 a2) (hd : decode code pc = .ok (.aload_n 1, 1)) (kk : Ld p l e s m below meth c b D cy a1 a2 (pc + 1) i (.ref (a1 0) :: st) I J) : Ld p l e s m below meth c b D cy a1 a2 pc i (st) I J :=
  fun H locs ls h1 h2 h3 hl => lv_aload_n X.1.1 X.1.2.1 hd rfl (lv_at hl 2 rfl) (kk H locs ls h1 h2 h3 hl)
theorem l_a2 (X : LX p s m meth c b L xs D cy a1 a2) (hd : decode code pc = .ok (.aload_n 2, 1)) (kk : Ld p l e s m below meth c b D cy a1 a2 (pc + 1) i (.ref (a2 0) :: st) I J) : Ld p l e s m below meth c b D cy a1 a2 pc i (st) I J :=
  fun H locs ls h1 h2 h3 hl => lv_aload_n X.1.1 X.1.2.1 hd rfl (lv_at hl 1 rfl) (kk H locs ls h1 h2 h3 hl)
theorem l_i (X : LX p s m meth c b L xs D cy a1 a2) (hd : decode code pc = .ok (.iload_n 3, 1)) (kk : Ld p l e s m below meth c b D cy a1 a2 (pc + 1) i (.int i :: st) I J) : Ld p l e s m below meth c b D cy a1 a2 pc i (st) I J :=
  fun H locs ls h1 h2 h3 hl => lv_iload_n X.1.1 X.1.2.1 hd rfl (lv_at hl 0 rfl) (kk H locs ls h1 h2 h3 hl)
theorem l_ic (X : LX p s m meth c b L xs D cy a1 a2) {k : Int} {v : Int32} (hd : decode code pc = .ok (.iconst k, 1)) (hv : Int32.ofInt k = v) (kk : Ld p l e s m below meth c b D cy a1 a2 (pc + 1) i (.int v :: st) I J) : Ld p l e s m below meth c b D cy a1 a2 pc i (st) I J :=
  fun H locs ls h1 h2 h3 hl => lv_iconst X.1.1 X.1.2.1 hd hv (kk H locs ls h1 h2 h3 hl)
theorem l_bi (X : LX p s m meth c b L xs D cy a1 a2) {k : Int} {v : Int32} (hd : decode code pc = .ok (.bipush k, 2)) (hv : (Int8.ofInt k).toInt32 = v) (kk : Ld p l e s m below meth c b D cy a1 a2 (pc + 2) i (.int v :: st) I J) : Ld p l e s m below meth c b D cy a1 a2 pc i (st) I J :=
  fun H locs ls h1 h2 h3 hl => lv_bipush X.1.1 X.1.2.1 hd hv (kk H locs ls h1 h2 h3 hl)
theorem l_iadd (X : LX p s m meth c b L xs D cy a1 a2) {x y : Int32} (hd : decode code pc = .ok (.iadd, 1)) (kk : Ld p l e s m below meth c b D cy a1 a2 (pc + 1) i (.int (x + y) :: st) I J) : Ld p l e s m below meth c b D cy a1 a2 pc i (.int y :: .int x :: st) I J :=
  fun H locs ls h1 h2 h3 hl => lv_iadd X.1.1 X.1.2.1 hd (kk H locs ls h1 h2 h3 hl)
theorem l_isub (X : LX p s m meth c b L xs D cy a1 a2) {x y : Int32} (hd : decode code pc = .ok (.isub, 1)) (kk : Ld p l e s m below meth c b D cy a1 a2 (pc + 1) i (.int (x - y) :: st) I J) : Ld p l e s m below meth c b D cy a1 a2 pc i (.int y :: .int x :: st) I J :=
  fun H locs ls h1 h2 h3 hl => lv_isub X.1.1 X.1.2.1 hd (kk H locs ls h1 h2 h3 hl)
theorem l_iand (X : LX p s m meth c b L xs D cy a1 a2) {x y : Int32} (hd : decode code pc = .ok (.iand, 1)) (kk : Ld p l e s m below meth c b D cy a1 a2 (pc + 1) i (.int (x &&& y) :: st) I J) : Ld p l e s m below meth c b D cy a1 a2 pc i (.int y :: .int x :: st) I J :=
  fun H locs ls h1 h2 h3 hl => lv_iand X.1.1 X.1.2.1 hd (kk H locs ls h1 h2 h3 hl)
theorem l_i2l (X : LX p s m meth c b L xs D cy a1 a2) {x : Int32} (hd : decode code pc = .ok (.i2l, 1)) (kk : Ld p l e s m below meth c b D cy a1 a2 (pc + 1) i (.long x.toInt64 :: st) I J) : Ld p l e s m below meth c b D cy a1 a2 pc i (.int x :: st) I J :=
  fun H locs ls h1 h2 h3 hl => lv_i2l X.1.1 X.1.2.1 hd rfl (kk H locs ls h1 h2 h3 hl)
theorem l_lshl (X : LX p s m meth c b L xs D cy a1 a2) {x : Int64} {y : Int32} (hd : decode code pc = .ok (.lshl, 1)) (kk : Ld p l e s m below meth c b D cy a1 a2 (pc + 1) i (.long (x <<< (y.toInt64 &&& 63)) :: st) I J) : Ld p l e s m below meth c b D cy a1 a2 pc i (.int y :: .long x :: st) I J :=
  fun H locs ls h1 h2 h3 hl => lv_lshl X.1.1 X.1.2.1 hd rfl (kk H locs ls h1 h2 h3 hl)
theorem l_land (X : LX p s m meth c b L xs D cy a1 a2) {x y : Int64} (hd : decode code pc = .ok (.land, 1)) (kk : Ld p l e s m below meth c b D cy a1 a2 (pc + 1) i (.long (x &&& y) :: st) I J) : Ld p l e s m below meth c b D cy a1 a2 pc i (.long y :: .long x :: st) I J :=
  fun H locs ls h1 h2 h3 hl => lv_land X.1.1 X.1.2.1 hd (kk H locs ls h1 h2 h3 hl)
theorem l_lor (X : LX p s m meth c b L xs D cy a1 a2) {x y : Int64} (hd : decode code pc = .ok (.lor, 1)) (kk : Ld p l e s m below meth c b D cy a1 a2 (pc + 1) i (.long (x ||| y) :: st) I J) : Ld p l e s m below meth c b D cy a1 a2 pc i (.long y :: .long x :: st) I J :=
  fun H locs ls h1 h2 h3 hl => lv_lor X.1.1 X.1.2.1 hd (kk H locs ls h1 h2 h3 hl)
theorem l_lcmp (X : LX p s m meth c b L xs D cy a1 a2) {x y : Int64} (hd : decode code pc = .ok (.lcmp, 1)) (kk : Ld p l e s m below meth c b D cy a1 a2 (pc + 1) i (.int (lg_cmp x y) :: st) I J) : Ld p l e s m below meth c b D cy a1 a2 pc i (.long y :: .long x :: st) I J :=
  fun H locs ls h1 h2 h3 hl => W.lcmp X.1.1 X.1.2.1 hd (kk H locs ls h1 h2 h3 hl)
theorem l_goto (X : LX p s m meth c b L xs D cy a1 a2) {off : Int} {tgt : Nat} (hd : decode code pc = .ok (.goto off, 3)) (ht : (pc : Int) + off = (tgt : Int)) (kk : Ld p l e s m below meth c b D cy a1 a2 tgt i (st) I J) : Ld p l e s m below meth c b D cy a1 a2 pc i (st) I J :=
  fun H locs ls h1 h2 h3 hl => lv_goto X.1.1 X.1.2.1 hd ht (kk H locs ls h1 h2 h3 hl)
theorem l_ldc2 (X : LX p s m meth c b L xs D cy a1 a2) {ix : Nat} {v : Int64} (hd : decode code pc = .ok (.ldc2_w ix, 3)) (hw : Cond.constantLong "HollowShireLaw" ix v ∈ gw) (kk : Ld p l e s m below meth c b D cy a1 a2 (pc + 3) i (.long v :: st) I J) : Ld p l e s m below meth c b D cy a1 a2 pc i (st) I J :=
  fun H locs ls h1 h2 h3 hl => lv_ldc2 X.1.1 X.1.2.1 (own := "HollowShireLaw") X.1.2.2.2.2.1 (gw_hts X.1.2.2.2.2.2.1 _ hw) hd (kk H locs ls h1 h2 h3 hl)
theorem l_ald (X : LX p s m meth c b L xs D cy a1 a2) {x : Int32} (hin : vp_in x L) (hd : decode code pc = .ok (.iaload, 1)) (kk : Ld p l e s m below meth c b D cy a1 a2 (pc + 1) i (.int (xs x.toNatClampNeg) :: st) I J) : Ld p l e s m below meth c b D cy a1 a2 pc i (.int x :: .ref b :: st) I J :=
  fun H locs ls h1 h2 h3 hl => va_sld X.1.1 X.1.2.1 X.1.2.2.2.2.2.2.1 X.1.2.2.2.2.2.2.2.1 (Nat.not_le.mpr X.1.2.2.2.2.2.2.2.1 : ¬ bq s.heap.size b) h3 hin hd (kk H locs ls h1 h2 h3 hl)
theorem l_len (X : LX p s m meth c b L xs D cy a1 a2) (hd : decode code pc = .ok (.arraylength, 1)) (kk : Ld p l e s m below meth c b D cy a1 a2 (pc + 1) i (.int (nI L) :: st) I J) : Ld p l e s m below meth c b D cy a1 a2 pc i (.ref b :: st) I J :=
  fun H locs ls h1 h2 h3 hl => va_slen X.1.1 X.1.2.1 X.1.2.2.2.2.2.2.1 X.1.2.2.2.2.2.2.2.1 (Nat.not_le.mpr X.1.2.2.2.2.2.2.2.1 : ¬ bq s.heap.size b) h3 hd (kk H locs ls h1 h2 h3 hl)
theorem l_swi (X : LX p s m meth c b L xs D cy a1 a2) {x : Int32} {dflt lo hi : Int} {offs : Array Int} {len : Nat} {off : Int} {tgt : Nat} (hd : decode code pc = .ok (.tableswitch dflt lo hi offs, len)) (g1 : ¬ x.toInt < lo) (g2 : ¬ hi < x.toInt) (ho : offs[(x.toInt - lo).toNat]? = some off) (ht : (pc : Int) + off = (tgt : Int)) (kk : Ld p l e s m below meth c b D cy a1 a2 tgt i (st) I J) : Ld p l e s m below meth c b D cy a1 a2 pc i (.int x :: st) I J :=
  fun H locs ls h1 h2 h3 hl => lv_tableIn X.1.1 X.1.2.1 hd g1 g2 ho ht (kk H locs ls h1 h2 h3 hl)
theorem l_swo (X : LX p s m meth c b L xs D cy a1 a2) {x : Int32} {dflt lo hi : Int} {offs : Array Int} {len : Nat} {tgt : Nat} (hd : decode code pc = .ok (.tableswitch dflt lo hi offs, len)) (h : x.toInt < lo ∨ hi < x.toInt) (ht : (pc : Int) + dflt = (tgt : Int)) (kk : Ld p l e s m below meth c b D cy a1 a2 tgt i (st) I J) : Ld p l e s m below meth c b D cy a1 a2 pc i (.int x :: st) I J :=
  fun H locs ls h1 h2 h3 hl => lv_tableOut X.1.1 X.1.2.1 hd h ht (kk H locs ls h1 h2 h3 hl)
theorem l_arg {k : Nat} {ki : Int} (X : LX p s m meth c b L xs D cy a1 a2) (h1 : decode code pc = .ok (.aload_n 0, 1)) (h2 : decode code (pc + 1) = .ok (.iload_n 3, 1)) (h3 : decode code (pc + 2) = .ok (.iconst ki, 1)) (h4 : decode code (pc + 3) = .ok (.iadd, 1)) (h5 : decode code (pc + 4) = .ok (.iaload, 1)) (hk : Int32.ofInt ki = nI k) (hin : vp_in (i + nI k) L) (kk : Ld p l e s m below meth c b D cy a1 a2 (pc + 5) i (.int (ag xs i k) :: st) I J) : Ld p l e s m below meth c b D cy a1 a2 pc i st I J :=
  l_a0 X h1 (l_i (pc := pc + 1) X h2 (l_ic (pc := pc + 2) X h3 hk (l_iadd (pc := pc + 3) X h4 (l_ald (pc := pc + 4) X hin h5 kk))))
theorem l_eq {x : Int32} {off : Int} {tgt : Nat} (X : LX p s m meth c b L xs D cy a1 a2) (hd : decode code pc = .ok (.if_icmp .eq off, 3)) (ht : (pc : Int) + off = (tgt : Int)) (kk : Ld p l e s m below meth c b D cy a1 a2 tgt i st I J) : Ld p l e s m below meth c b D cy a1 a2 pc i (.int x :: .int x :: st) I J :=
  fun H locs ls h1 h2 h3 hl => lv_icmp_eq X.1.1 X.1.2.1 hd ht (fun _ => kk H locs ls h1 h2 h3 hl) (fun h => absurd rfl h)
theorem l_eq0 {x : Int64} {off : Int} {tgt : Nat} (X : LX p s m meth c b L xs D cy a1 a2) (h0 : decode code pc = .ok (.lcmp, 1)) (hd : decode code (pc + 1) = .ok (.ifCond .eq off, 3)) (ht : ((pc + 1 : Nat) : Int) + off = (tgt : Int)) (kk : Ld p l e s m below meth c b D cy a1 a2 tgt i st I J) : Ld p l e s m below meth c b D cy a1 a2 pc i (.long x :: .long x :: st) I J := by
  refine l_lcmp X h0 ?_
  have e : lg_cmp x x = 0 := by unfold lg_cmp; simp
  rw [e]
  exact fun H locs ls h1 h2 h3 hl => lv_if_eq X.1.1 X.1.2.1 hd ht (fun _ => kk H locs ls h1 h2 h3 hl) (fun h => absurd rfl h)
theorem l_cx {MC : Mi} {na idx d1 : Nat} {As rest : List Value} {r : Value} {I1 : Wd} (X : LX p s m meth c b L xs D cy a1 a2) (hd : decode code pc = .ok (.invokevirtual idx, 3)) (hl : Cond.methodLink "HollowShireLaw" idx MC.1 ∈ gw) (hm : MV MC na) (hmi : MVi MC) (hcl : MC.1.cls = RX10) (hc : Cal SyC MC d1 (.ref 0 :: As) I (some r) I1) (hd1 : d1 ≤ 70) (hAs : As.map (cvt a1) = As) (hr : cvt a1 r = r) (hst : st = As.reverse ++ .ref (a1 0) :: rest) (hna : As.length = na) (hcs : csum rest ≤ 8) (kk : Ld p l e s m below meth c b D cy a1 a2 (pc + 3) i (r :: rest) I1 J) : Ld p l e s m below meth c b D cy a1 a2 pc i st I J := by
  intro H locs ls hP1 hP2 hS hlv
  obtain ⟨⟨hx, hb, hr', hml, hown, hts, hX, hbl, hlocks, hgv⟩, hK, ⟨hE1, hE2⟩, ⟨hi1, hi2⟩, hA1, hA2, hdis⟩ := X
  have hg := gw_hts hts
  have he := ws_at (cy := cy) (ad := a1) (I := I) pC_0
  rw [ent_o (by decide)] at he
  have hrec := va_recv hK hP1 (ci := 10) (q := (RX10, TX10, 14)) rfl he
  have hrec : ∃ cell : Cell, H[a1 0]? = some cell ∧ cell.vm.isStatics = false ∧ s.vm.findClass MC.1.cls = some cell.cls := by rw [hcl]; exact hrec
  subst hst
  have run := va_runV (p := p) (l := l) (e := e) (R := room_1) (s := s) (m := m) (args := #[Value.ref b]) (below := below) (meth := meth) (c := c) (H := H) (locs := locs) (cells := 156) (slots := 7196) (g := F0 m pc ls (As.reverse ++ .ref (a1 0) :: rest)) (own := "HollowShireLaw") (rest := rest) (As := As.map (cvt a1)) (b := a1 0) (C := MC.1.cls) ⟨hx, hb, hml, hown, hg⟩ (hc l D cy a1 hi1) (cwV na hg (good_call hl hm hmi) rfl rfl rfl ⟨rfl, hm.2.2.1.1, hm.2.2.1.2, hm.2.2.2.1⟩ ⟨by show d1 + 1 ≤ 2048; omega, by show 8 + (MC.2.2.1 + 11) + 80 * d1 ≤ 84000; have := hm.2.2.2.2; omega⟩) ⟨Pcw.blind, hrec, fun U hU hW => ⟨rfl, by rw [hU]; exact hP1, va_K.moved hW.alike hK, by rw [hU]; exact ((hE1.warm hW).kept hS.2.1).narrow hA1⟩⟩ rfl (by rw [List.length_map]; exact hna) hlv.1 (by rw [hAs]) (lv_room hcs) hd ⟨Nat.le_of_ble_eq_true rfl, Nat.le_of_ble_eq_true rfl⟩
  intro T hT XS
  obtain ⟨v, st₀, t, T', Lc, h0, X', hL, e1, e2, ⟨hret2, hP3, hF⟩, stp⟩ := run T hT XS
  have hv : v = some r := by
    have := Outcome.returned.inj hret2
    rw [this]
    show some (cvt a1 r) = some r
    rw [hr]
  subst hv
  have hz : H.size ≤ T'.heap.size := by rw [e1, ← h0]; exact hF.1
  have hkp : ∀ x : Nat, x < H.size → ¬ Aad SyC a1 x → T'.heap[x]? = H[x]? := fun x h1 h2 => by rw [e1, ← h0]; exact hF.2 x (by rw [h0]; exact h1) h2
  have hS2 : va_S (bq s.heap.size) s.heap T'.heap (locs ++ Lc) := ⟨Nat.le_trans hS.1 hz, fun x h1 h2 => by rw [hkp x (Nat.lt_of_lt_of_le h1 hS.1) (fun y => h2 (hA1 x y))]; exact hS.2.1 x h1 h2, fun x hx2 => by
    rcases List.mem_append.mp hx2 with h | h
    · exact hS.2.2 x h
    · exact hA1 _ (hL x h)⟩
  have hPk : va_P D clX (wsO cy a2 SyM J) T'.heap := P_keep hP2 (fun q q1 q2 => hkp q q1 (fun q3 => hdis q q3 q2))
  obtain ⟨t2, b1, b2⟩ := kk T'.heap (locs ++ Lc) ls (by rw [e1]; exact hP3) hPk hS2 hlv T' rfl X'
  exact ⟨t2, stp t2 b1, b2⟩
theorem l_cm {MC : Mi} {na idx d1 : Nat} {As rest : List Value} {r : Value} {I1 : Wd} (X : LX p s m meth c b L xs D cy a1 a2) (hd : decode code pc = .ok (.invokevirtual idx, 3)) (hl : Cond.methodLink "HollowShireLaw" idx MC.1 ∈ gw) (hm : MV MC na) (hmi : MVi MC) (hcl : MC.1.cls = RX11) (hc : Cal SyM MC d1 (.ref 0 :: As) J (some r) I1) (hd1 : d1 ≤ 70) (hAs : As.map (cvt a2) = As) (hr : cvt a2 r = r) (hst : st = As.reverse ++ .ref (a2 0) :: rest) (hna : As.length = na) (hcs : csum rest ≤ 8) (kk : Ld p l e s m below meth c b D cy a1 a2 (pc + 3) i (r :: rest) I I1) : Ld p l e s m below meth c b D cy a1 a2 pc i st I J := by
  intro H locs ls hP1 hP2 hS hlv
  obtain ⟨⟨hx, hb, hr', hml, hown, hts, hX, hbl, hlocks, hgv⟩, hK, ⟨hE1, hE2⟩, ⟨hi1, hi2⟩, hA1, hA2, hdis⟩ := X
  have hg := gw_hts hts
  have he := ws_at (cy := cy) (ad := a2) (I := J) pM_0
  rw [ent_o (by decide)] at he
  have hrec := va_recv hK hP2 (ci := 11) (q := (RX11, TX11, 77)) rfl he
  have hrec : ∃ cell : Cell, H[a2 0]? = some cell ∧ cell.vm.isStatics = false ∧ s.vm.findClass MC.1.cls = some cell.cls := by rw [hcl]; exact hrec
  subst hst
  have run := va_runV (p := p) (l := l) (e := e) (R := room_1) (s := s) (m := m) (args := #[Value.ref b]) (below := below) (meth := meth) (c := c) (H := H) (locs := locs) (cells := 156) (slots := 7196) (g := F0 m pc ls (As.reverse ++ .ref (a2 0) :: rest)) (own := "HollowShireLaw") (rest := rest) (As := As.map (cvt a2)) (b := a2 0) (C := MC.1.cls) ⟨hx, hb, hml, hown, hg⟩ (hc l D cy a2 hi2) (cwV na hg (good_call hl hm hmi) rfl rfl rfl ⟨rfl, hm.2.2.1.1, hm.2.2.1.2, hm.2.2.2.1⟩ ⟨by show d1 + 1 ≤ 2048; omega, by show 8 + (MC.2.2.1 + 11) + 80 * d1 ≤ 84000; have := hm.2.2.2.2; omega⟩) ⟨Pcw.blind, hrec, fun U hU hW => ⟨rfl, by rw [hU]; exact hP2, va_K.moved hW.alike hK, by rw [hU]; exact ((hE2.warm hW).kept hS.2.1).narrow hA2⟩⟩ rfl (by rw [List.length_map]; exact hna) hlv.1 (by rw [hAs]) (lv_room hcs) hd ⟨Nat.le_of_ble_eq_true rfl, Nat.le_of_ble_eq_true rfl⟩
  intro T hT XS
  obtain ⟨v, st₀, t, T', Lc, h0, X', hL, e1, e2, ⟨hret2, hP3, hF⟩, stp⟩ := run T hT XS
  have hv : v = some r := by
    have := Outcome.returned.inj hret2
    rw [this]
    show some (cvt a2 r) = some r
    rw [hr]
  subst hv
  have hz : H.size ≤ T'.heap.size := by rw [e1, ← h0]; exact hF.1
  have hkp : ∀ x : Nat, x < H.size → ¬ Aad SyM a2 x → T'.heap[x]? = H[x]? := fun x h1 h2 => by rw [e1, ← h0]; exact hF.2 x (by rw [h0]; exact h1) h2
  have hS2 : va_S (bq s.heap.size) s.heap T'.heap (locs ++ Lc) := ⟨Nat.le_trans hS.1 hz, fun x h1 h2 => by rw [hkp x (Nat.lt_of_lt_of_le h1 hS.1) (fun y => h2 (hA2 x y))]; exact hS.2.1 x h1 h2, fun x hx2 => by
    rcases List.mem_append.mp hx2 with h | h
    · exact hS.2.2 x h
    · exact hA2 _ (hL x h)⟩
  have hPk : va_P D clX (wsO cy a1 SyC I) T'.heap := P_keep hP1 (fun q q1 q2 => hkp q q1 (fun q3 => hdis q q2 q3))
  obtain ⟨t2, b1, b2⟩ := kk T'.heap (locs ++ Lc) ls hPk (by rw [e1]; exact hP3) hS2 hlv T' rfl X'
  exact ⟨t2, stp t2 b1, b2⟩
end LR
