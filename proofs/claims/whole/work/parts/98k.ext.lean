/-! what stands around the two at the start: classes, tables of numbers, texts -/
theorem tw_t1 {w : Cond} (j : Nat) (h : tables_1_1[j]? = some w) : w ∈ lw_tbl := List.mem_append_right _ (List.mem_append_left _ (List.mem_of_getElem? h))
theorem tw_t2 {w : Cond} (j : Nat) (h : tables_1_2[j]? = some w) : w ∈ lw_tbl := List.mem_append_right _ (List.mem_append_right _ (List.mem_append_left _ (List.mem_of_getElem? h)))
theorem tw_t3 {w : Cond} (j : Nat) (h : tables_1_3[j]? = some w) : w ∈ lw_tbl := List.mem_append_right _ (List.mem_append_right _ (List.mem_append_right _ (List.mem_append_left _ (List.mem_of_getElem? h))))
theorem tw_t4 {w : Cond} (j : Nat) (h : tables_1_4[j]? = some w) : w ∈ lw_tbl := List.mem_append_right _ (List.mem_append_right _ (List.mem_append_right _ (List.mem_append_right _ (List.mem_append_left _ (List.mem_of_getElem? h)))))
theorem tw_t5 {w : Cond} (j : Nat) (h : tables_1_5[j]? = some w) : w ∈ lw_tbl := List.mem_append_right _ (List.mem_append_right _ (List.mem_append_right _ (List.mem_append_right _ (List.mem_append_right _ (List.mem_append_left _ (List.mem_of_getElem? h))))))
theorem tw_t6 {w : Cond} (j : Nat) (h : tables_1_6[j]? = some w) : w ∈ lw_tbl := List.mem_append_right _ (List.mem_append_right _ (List.mem_append_right _ (List.mem_append_right _ (List.mem_append_right _ (List.mem_append_right _ (List.mem_append_left _ (List.mem_of_getElem? h)))))))
theorem tw_t7 {w : Cond} (j : Nat) (h : tables_1_7[j]? = some w) : w ∈ lw_tbl := List.mem_append_right _ (List.mem_append_right _ (List.mem_append_right _ (List.mem_append_right _ (List.mem_append_right _ (List.mem_append_right _ (List.mem_append_right _ (List.mem_of_getElem? h)))))))
/-- a condition's parts, laid out once -/
def flatA : Cond → List Cond → List Cond
  | .and a b, acc => flatA a (flatA b acc)
  | c, acc => c :: acc
theorem flatA_eq : ∀ (c : Cond) (acc : List Cond), flatA c acc = flatC c ++ acc := by
  intro c
  induction c with
  | and a b iha ihb =>
    intro acc
    show flatA a (flatA b acc) = (flatC a ++ flatC b) ++ acc
    rw [iha, ihb, List.append_assoc]
  | _ => intro acc; rfl
def nF : List Cond := flatA (Cond.and given_1 narrow_1) []
theorem nF_at {args : Array Value} {s : State} (h : (Cond.and given_1 narrow_1).before args s = true) {k : Nat} {w : Cond} (hk : nF[k]? = some w) : w.before args s = true := by
  refine flat_of_before _ h w ?_
  have := List.mem_of_getElem? hk
  unfold nF at this
  rwa [flatA_eq, List.append_nil] at this
def nB (i : Nat) : Nat := ([64, 146, 156, 166, 176, 186, 198, 211, 227, 244, 261, 279, 300, 320, 341] : List Nat).getD i 0
def sT (i : Nat) : Term := .string (txO.getD i "") (txK.getD i 0)
theorem nf_s : ∀ i, i < 15 → nF[nB i]? = some (.exactly (sT i) "java/lang/String") ∧ nF[nB i + 1]? = some (.eq (.field (sT i) "java/lang/String" "coder" "B") (.int 0)) ∧ nF[nB i + 2]? = some (.arrayOf (.field (sT i) "java/lang/String" "value" "[B") .byte) ∧ nF[nB i + 3]? = some (.eq (.length (.field (sT i) "java/lang/String" "value" "[B")) (.int (Int32.ofNat (txL.getD i 0)))) := by decide +kernel
theorem nf_b : ∀ i, i < 15 → ∀ j, j < txL.getD i 0 → nF[nB i + 4 + j]? = some (.eq (.elem (.field (sT i) "java/lang/String" "value" "[B") (.int (Int32.ofNat j))) (.int ((txB.getD i []).getD j 0))) := by decide +kernel
theorem nf_p : ∀ i, i < 15 → ∀ k, k < i → nF[nB i + 4 + txL.getD i 0 + k]? = some (.not (.eq (sT k) (sT i))) := by decide +kernel
theorem nf_SOLVES : nF[10]? = some (.arrayOf (.static "HollowShire$Ground" "SOLVES" "[I") .int) ∧ nF[11]? = some (.eq (.length (.static "HollowShire$Ground" "SOLVES" "[I")) (.int (Int32.ofNat tbSolves.length))) ∧ ∀ j, j < tbSolves.length → nF[12 + j]? = some (.eq (.elem (.static "HollowShire$Ground" "SOLVES" "[I") (.int (Int32.ofNat j))) (.int (tbSolves.getD j 0))) := ⟨by decide +kernel, by decide +kernel, by decide +kernel⟩
theorem nf_BEARS : nF[17]? = some (.arrayOf (.static "HollowShire$Ground" "BEARS" "[I") .int) ∧ nF[18]? = some (.eq (.length (.static "HollowShire$Ground" "BEARS" "[I")) (.int (Int32.ofNat tbBears.length))) ∧ ∀ j, j < tbBears.length → nF[19 + j]? = some (.eq (.elem (.static "HollowShire$Ground" "BEARS" "[I") (.int (Int32.ofNat j))) (.int (tbBears.getD j 0))) := ⟨by decide +kernel, by decide +kernel, by decide +kernel⟩
theorem nf_KIND_ABOVE : nF[32]? = some (.arrayOf (.static "HollowShire$Signs" "KIND_ABOVE" "[I") .int) ∧ nF[33]? = some (.eq (.length (.static "HollowShire$Signs" "KIND_ABOVE" "[I")) (.int (Int32.ofNat tbAbove.length))) ∧ ∀ j, j < tbAbove.length → nF[34 + j]? = some (.eq (.elem (.static "HollowShire$Signs" "KIND_ABOVE" "[I") (.int (Int32.ofNat j))) (.int (tbAbove.getD j 0))) := ⟨by decide +kernel, by decide +kernel, by decide +kernel⟩
theorem nf_SIZES : nF[24]? = some (.arrayOf (.static "HollowShire$Fit" "SIZES" "[I") .int) ∧ nF[25]? = some (.eq (.length (.static "HollowShire$Fit" "SIZES" "[I")) (.int (Int32.ofNat tbSizes.length))) ∧ ∀ j, j < tbSizes.length → nF[26 + j]? = some (.eq (.elem (.static "HollowShire$Fit" "SIZES" "[I") (.int (Int32.ofNat j))) (.int (tbSizes.getD j 0))) := ⟨by decide +kernel, by decide +kernel, by decide +kernel⟩
theorem nf_cs : nF[4]? = some (.eq (.static "java/lang/String" "COMPACT_STRINGS" "Z") (.int 1)) := by decide +kernel
theorem nf_si : nF[5]? = some (.isRef (.static "jdk/internal/util/Preconditions" "SIOOBE_FORMATTER" "Ljava/util/function/BiFunction;")) := by decide +kernel
theorem lay_SOLVES : Cond.laysStatic "HollowShire$Ground" "SOLVES" "[I" ∈ lw_tbl ∧ Cond.initialized "HollowShire$Ground" ∈ lw_tbl := ⟨tw_t3 196 rfl, tw_t1 3 rfl⟩
theorem lay_BEARS : Cond.laysStatic "HollowShire$Ground" "BEARS" "[I" ∈ lw_tbl ∧ Cond.initialized "HollowShire$Ground" ∈ lw_tbl := ⟨tw_t3 213 rfl, tw_t1 3 rfl⟩
theorem lay_KIND_ABOVE : Cond.laysStatic "HollowShire$Signs" "KIND_ABOVE" "[I" ∈ lw_tbl ∧ Cond.initialized "HollowShire$Signs" ∈ lw_tbl := ⟨tw_t5 79 rfl, tw_t1 4 rfl⟩
theorem lay_SIZES : Cond.laysStatic "HollowShire$Fit" "SIZES" "[I" ∈ lw_tbl ∧ Cond.initialized "HollowShire$Fit" ∈ lw_tbl := ⟨tw_t4 84 rfl, tw_t1 7 rfl⟩
theorem lay_cs : Cond.laysStatic "java/lang/String" "COMPACT_STRINGS" "Z" ∈ lw_tbl ∧ Cond.initialized "java/lang/String" ∈ lw_tbl := ⟨tw_t2 155 rfl, tw_t1 13 rfl⟩
theorem lay_si : Cond.laysStatic "jdk/internal/util/Preconditions" "SIOOBE_FORMATTER" "Ljava/util/function/BiFunction;" ∈ lw_tbl ∧ Cond.initialized "jdk/internal/util/Preconditions" ∈ lw_tbl := ⟨tw_t2 171 rfl, tw_t1 15 rfl⟩
theorem sr_all : ∀ i, i < 15 → Cond.stringRef (txO.getD i "") (txK.getD i 0) (txT.getD i "") ∈ lw_tbl := by
  intro i hi
  match i, hi with
  | 0, _ => exact tw_t2 145 rfl
  | 1, _ => exact tw_t2 226 rfl
  | 2, _ => exact tw_t2 227 rfl
  | 3, _ => exact tw_t2 228 rfl
  | 4, _ => exact tw_t2 229 rfl
  | 5, _ => exact tw_t2 230 rfl
  | 6, _ => exact tw_t2 231 rfl
  | 7, _ => exact tw_t2 232 rfl
  | 8, _ => exact tw_t2 233 rfl
  | 9, _ => exact tw_t2 234 rfl
  | 10, _ => exact tw_t2 235 rfl
  | 11, _ => exact tw_t2 236 rfl
  | 12, _ => exact tw_t2 237 rfl
  | 13, _ => exact tw_t2 238 rfl
  | 14, _ => exact tw_t2 239 rfl
  | i + 15, h => exact absurd h (by omega)
theorem ao_T : Cond.arrayOver (.object RX8) ∈ lw_tbl := tw_t2 92 rfl
theorem ao_S : Cond.arrayOver (.object RX5) ∈ lw_tbl := tw_t2 120 rfl
/-- a static array of whole numbers -/
theorem st_arr {s : State} {b : Nat} {A : Nat → Prop} {c n : String} {vs : List Int32} {k : Nat} (hgv : (Cond.and given_1 narrow_1).before #[Value.ref b] s = true) (hts : ∀ w ∈ lw_tbl, w.before #[Value.ref b] s = true) (hl : Cond.laysStatic c n "[I" ∈ lw_tbl ∧ Cond.initialized c ∈ lw_tbl) (hN : vs.length < 2 ^ 31) (hn : nF[k]? = some (.arrayOf (.static c n "[I") .int) ∧ nF[k + 1]? = some (.eq (.length (.static c n "[I")) (.int (Int32.ofNat vs.length))) ∧ ∀ j, j < vs.length → nF[k + 2 + j]? = some (.eq (.elem (.static c n "[I") (.int (Int32.ofNat j))) (.int (vs.getD j 0)))) (hA : ∀ a : Nat, a < s.heap.size → ¬ A a) : ∃ t : Nat, va_Z c n "[I" (.ref t) A s s.heap ∧ va_T .int t vs.length (fun j => .int (vs.getD j 0)) A s s.heap := by
  obtain ⟨t, h1, h2⟩ := va_Tof (s := s) (args := #[Value.ref b]) (A := A) (f := fun j => .int (vs.getD j 0)) hN (nF_at hgv hn.1) (va_eqt (nF_at hgv hn.2.1)) (fun j hj => va_eqt (nF_at hgv (hn.2.2 j hj))) hA
  exact ⟨t, va_Zof (hts _ hl.1) (hts _ hl.2) h1 hA, h2⟩
theorem ext_0 {p : Program} {s : State} {m : MethodId} {meth : Method} {c : Code} {b L : Nat} {xs : Nat → Int32} (C0 : lw_At p s m meth c b L xs) : ∃ ad : Nat → Nat, Ext (bq s.heap.size) ad s s.heap := by
  obtain ⟨hx, hb, hr', hml, hown, hts, hX, hbl, hlocks, hgv⟩ := C0
  have hA : ∀ a : Nat, a < s.heap.size → ¬ bq s.heap.size a := fun a h => Nat.not_le.mpr h
  obtain ⟨t0, z0, y0⟩ := st_arr hgv hts lay_SOLVES (by decide) nf_SOLVES hA
  obtain ⟨t1, z1, y1⟩ := st_arr hgv hts lay_BEARS (by decide) nf_BEARS hA
  obtain ⟨t2, z2, y2⟩ := st_arr hgv hts lay_KIND_ABOVE (by decide) nf_KIND_ABOVE hA
  obtain ⟨t3, z3, y3⟩ := st_arr hgv hts lay_SIZES (by decide) nf_SIZES hA
  obtain ⟨aK, aV, hS, hev⟩ := vk_Sof (s := s) (args := #[Value.ref b]) (N := 15) (tm := sT) (len := txL) (byt := txB) (A := bq s.heap.size) tx_lb (fun i hi => nF_at hgv (nf_s i hi).1) (fun i hi => nF_at hgv (nf_s i hi).2.1) (fun i hi => nF_at hgv (nf_s i hi).2.2.1) (fun i hi => nF_at hgv (nf_s i hi).2.2.2) (fun i hi j hj => nF_at hgv (nf_b i hi j hj)) (fun i j hi hj hij => by
    rcases Nat.lt_or_gt_of_ne hij with q | q
    · exact Or.inl (nF_at hgv (nf_p j hj i q))
    · exact Or.inr (nF_at hgv (nf_p i hi j q))) hA
  have hcs : va_Z "java/lang/String" "COMPACT_STRINGS" "Z" (.int 1) (bq s.heap.size) s s.heap := va_Zof (hts _ lay_cs.1) (hts _ lay_cs.2) (va_eqi (nF_at hgv nf_cs)) hA
  have hsi : ∃ t5 : Nat, (va_Z "jdk/internal/util/Preconditions" "SIOOBE_FORMATTER" "Ljava/util/function/BiFunction;" (.ref t5) (bq s.heap.size) s s.heap ∨ va_Z "jdk/internal/util/Preconditions" "SIOOBE_FORMATTER" "Ljava/util/function/BiFunction;" .null (bq s.heap.size) s s.heap) := by
    rcases va_Zqof (hts _ lay_si.1) (hts _ lay_si.2) (nF_at hgv nf_si) hA with h | ⟨t, h⟩
    · exact ⟨0, Or.inr h⟩
    · exact ⟨t, Or.inl h⟩
  obtain ⟨t5, hsi⟩ := hsi
  refine ⟨fun k => if k < 1100 then (if k = 1000 then t0 else if k = 1001 then t1 else if k = 1002 then t2 else t3) else if k < 1200 then aK (k - 1100) else if k < 1300 then aV (k - 1200) else t5, ?_⟩
  unfold Ext ExS
  have eK : ∀ i, i < 15 → (if 1100 + i < 1100 then (if 1100 + i = 1000 then t0 else if 1100 + i = 1001 then t1 else if 1100 + i = 1002 then t2 else t3) else if 1100 + i < 1200 then aK (1100 + i - 1100) else if 1100 + i < 1300 then aV (1100 + i - 1200) else t5) = aK i := by
    intro i hi
    rw [if_neg (by omega), if_pos (by omega), show 1100 + i - 1100 = i by omega]
  have eV : ∀ i, i < 15 → (if 1200 + i < 1100 then (if 1200 + i = 1000 then t0 else if 1200 + i = 1001 then t1 else if 1200 + i = 1002 then t2 else t3) else if 1200 + i < 1200 then aK (1200 + i - 1100) else if 1200 + i < 1300 then aV (1200 + i - 1200) else t5) = aV i := by
    intro i hi
    rw [if_neg (by omega), if_neg (by omega), if_pos (by omega), show 1200 + i - 1200 = i by omega]
  refine ⟨⟨⟨z0, y0⟩, ⟨z1, y1⟩, ⟨z2, y2⟩, ⟨z3, y3⟩⟩, ⟨⟨fun i hi => ?_, fun i j hi hj he => ?_⟩, fun i hi => ?_, hcs, hsi⟩, ?_⟩
  · have h := hS.1 i hi
    show va_O _ (if _ then _ else _) _ _ _ ∧ _
    simp only [eK i hi, eV i hi]
    exact h
  · refine hS.2 i j hi hj ?_
    have he2 := he
    simp only [eK i hi, eK j hj] at he2
    exact he2
  · have h := vk_R.of (hts _ (sr_all i hi)) (hev i hi)
    simp only [eK i hi]
    exact h
  · exact ⟨va_Nw.of rfl (hts _ (tw_t4 79 rfl)), va_Nw.of rfl (hts _ (tw_t4 142 rfl)), va_Nw.of rfl (hts _ (tw_t5 55 rfl))⟩
theorem nx_0 {s : State} {b : Nat} (hts : ∀ w ∈ lw_tbl, w.before #[Value.ref b] s = true) : va_AO RX8 s ∧ NX s :=
  ⟨va_AO.of (hts _ ao_T), va_AO.of (hts _ ao_S), va_Nw.of rfl (hts _ (tw_t1 30 rfl)), va_Nw.of rfl (hts _ (tw_t1 138 rfl)), va_Nw.of rfl (hts _ (tw_t1 202 rfl)), va_Nw.of rfl (hts _ (tw_t2 20 rfl)), va_Nw.of rfl (hts _ (tw_t2 56 rfl)), va_Nw.of rfl (hts _ (tw_t2 93 rfl)), va_Nw.of rfl (hts _ (tw_t2 122 rfl))⟩
theorem arr_p {s : State} {b : Nat} {ty : FieldType} (h : (Cond.arrayClass ty).before #[Value.ref b] s = true) (hra : ∀ cA, s.vm.findClass ("[" ++ ty.toString) = some cA → va_RA s cA ty) : ∃ cA, ArrOfT s cA ty ∧ va_RA s cA ty := by
  obtain ⟨c, k, comp, h1, h2, h3⟩ := Cond.arrayClass_spec h
  exact ⟨c, fun N z => ⟨(fun k h => by cases h), k, h2, comp, h3⟩, hra c h1⟩
theorem arr_o {s : State} {C : String} (h : va_AO C s) : ∃ cA, ArrOfT s cA (.object C) ∧ va_RA s cA (.object C) := by
  obtain ⟨comp, c, k, h1, h2, h3, h4, h5⟩ := Cond.arrayOver_spec h
  exact ⟨c, fun N z => ⟨(fun k h => by cases h), k, h3, comp, h4⟩, k, comp, h3, h4, h1, h5⟩
theorem kn_0 {s : State} {b : Nat} (hts : ∀ w ∈ lw_tbl, w.before #[Value.ref b] s = true) : ∃ (D : va_G) (cy : Nat → ClassId), va_K D clX (tyL cy) s := by
  have hg := gw_hts hts
  obtain ⟨hao, hnx⟩ := nx_0 hts
  obtain ⟨c0, i0, k0⟩ := u_known (C := RX0) (T := TX0) (N := 6) (n := 6) hg iwX0 (hg (.instantiable RX0 6) (gw_t1 29 rfl rfl))
  obtain ⟨c1, i1, k1⟩ := u_known (C := RX1) (T := TX1) (N := 13) (n := 13) hg iwX1 (hg (.instantiable RX1 13) (gw_t1 201 rfl rfl))
  obtain ⟨c2, i2, k2⟩ := u_known (C := RX2) (T := TX2) (N := 16) (n := 16) hg iwX2 (hg (.instantiable RX2 16) (gw_t1 66 rfl rfl))
  obtain ⟨c3, i3, k3⟩ := u_known (C := RX3) (T := TX3) (N := 5) (n := 5) hg iwX3 (hg (.instantiable RX3 5) (gw_t2 49 rfl rfl))
  obtain ⟨c4, i4, k4⟩ := u_known (C := RX4) (T := TX4) (N := 7) (n := 7) hg iwX4 (hg (.instantiable RX4 7) (gw_t2 13 rfl rfl))
  obtain ⟨c5, i5, k5⟩ := u_known (C := RX5) (T := TX5) (N := 3) (n := 3) hg iwX5 (hg (.instantiable RX5 3) (gw_t2 121 rfl rfl))
  obtain ⟨c6, i6, k6⟩ := u_known (C := RX6) (T := TX6) (N := 7) (n := 7) hg iwX6 (hg (.instantiable RX6 7) (gw_t1 137 rfl rfl))
  obtain ⟨c7, i7, k7⟩ := u_known (C := RX7) (T := TX7) (N := 7) (n := 7) hg iwX7 (hg (.instantiable RX7 7) (gw_t2 19 rfl rfl))
  obtain ⟨c8, i8, k8⟩ := u_known (C := RX8) (T := TX8) (N := 3) (n := 3) hg iwX8 (hg (.instantiable RX8 3) (gw_t2 55 rfl rfl))
  obtain ⟨c9, i9, k9⟩ := u_known (C := RX9) (T := TX9) (N := 4) (n := 4) hg iwX9 (hg (.instantiable RX9 4) (gw_t1 172 rfl rfl))
  obtain ⟨c10, i10, k10⟩ := u_known (C := RX10) (T := TX10) (N := 14) (n := 14) hg iwX10 (hg (.instantiable RX10 14) (gw_t1 21 rfl rfl))
  obtain ⟨c11, i11, k11⟩ := u_known (C := RX11) (T := TX11) (N := 77) (n := 77) hg iwX11 (hg (.instantiable RX11 77) (gw_t5 81 rfl rfl))
  obtain ⟨x0, x1, x2⟩ := arr_p (ty := .int) (hg _ wa_int) (fun _ h => h)
  obtain ⟨y0, y1, y2⟩ := arr_p (ty := .boolean) (hg _ wa_bool) (fun _ h => h)
  obtain ⟨z0, z1, z2⟩ := arr_o hnx.1
  obtain ⟨w0, w1, w2⟩ := arr_o hao
  refine ⟨(fun k => if k = 0 then c0 else if k = 1 then c1 else if k = 2 then c2 else if k = 3 then c3 else if k = 4 then c4 else if k = 5 then c5 else if k = 6 then c6 else if k = 7 then c7 else if k = 8 then c8 else if k = 9 then c9 else if k = 10 then c10 else c11, fun k => if k = 0 then i0 else if k = 1 then i1 else if k = 2 then i2 else if k = 3 then i3 else if k = 4 then i4 else if k = 5 then i5 else if k = 6 then i6 else if k = 7 then i7 else if k = 8 then i8 else if k = 9 then i9 else if k = 10 then i10 else i11), fun k => if k = 20 then x0 else if k = 21 then y0 else if k = 22 then z0 else w0, ?_, ?_⟩
  · intro k q hq
    match k, hq with
    | 0, hq => cases hq; exact k0
    | 1, hq => cases hq; exact k1
    | 2, hq => cases hq; exact k2
    | 3, hq => cases hq; exact k3
    | 4, hq => cases hq; exact k4
    | 5, hq => cases hq; exact k5
    | 6, hq => cases hq; exact k6
    | 7, hq => cases hq; exact k7
    | 8, hq => cases hq; exact k8
    | 9, hq => cases hq; exact k9
    | 10, hq => cases hq; exact k10
    | 11, hq => cases hq; exact k11
    | k + 12, hq => simp at hq
  · intro k q hq
    match k, hq with
    | 0, hq => cases hq; exact ⟨x1, x2⟩
    | 1, hq => cases hq; exact ⟨y1, y2⟩
    | 2, hq => cases hq; exact ⟨z1, z2⟩
    | 3, hq => cases hq; exact ⟨w1, w2⟩
    | k + 4, hq => simp [tyL] at hq
