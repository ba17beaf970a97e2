/-! decode rows by tables; truth values; Math; copies; tables of the class; switches -/
def dec_ok (b : ByteArray) (l : List (Nat × Instr × Nat)) : Bool := l.all fun q => decide (decode b q.1 = .ok (q.2.1, q.2.2))
theorem dd {b : ByteArray} {l : List (Nat × Instr × Nat)} (h : dec_ok b l = true) (i : Nat) {pc n : Nat} {ins : Instr} (hi : l[i]? = some (pc, ins, n)) : decode b pc = .ok (ins, n) :=
  by
  have h1 := List.all_eq_true.mp h _ (List.mem_of_getElem? hi)
  have h2 : decide (decode b pc = .ok (ins, n)) = true := h1
  exact of_decide_eq_true h2
/-- 1 if so, else 0 -/
def bi (p : Prop) [Decidable p] : Int32 := if p then 1 else 0
theorem bi_t {p : Prop} [Decidable p] (h : p) : bi p = 1 := if_pos h
theorem bi_f {p : Prop} [Decidable p] (h : ¬ p) : bi p = 0 := if_neg h
theorem bi_0 {p : Prop} [Decidable p] : bi p = 0 ↔ ¬ p := by
  unfold bi; split
  · next h => exact ⟨fun e => absurd e (by decide), fun e => absurd h e⟩
  · next h => exact ⟨fun _ => h, fun _ => rfl⟩
theorem bi_n {p : Prop} [Decidable p] : ¬ bi p = 0 ↔ p := by rw [bi_0, Decidable.not_not]
theorem bi_c {p q : Prop} [Decidable p] [Decidable q] (h : p ↔ q) : bi p = bi q := by unfold bi; simp only [h]
theorem nar_bi {p : Prop} [Decidable p] : narrow .boolean (.int (bi p)) = .int (bi p) := by unfold bi; split <;> rfl
theorem zar_bi {p : Prop} [Decidable p] : vp_nar .boolean (bi p) = bi p := by unfold bi; split <;> rfl
section BM
variable {S : Sy} {M : Mi} {d pc : Nat} {lv : List (Nat × Value)} {st : List Value} {I I' : Wd} {r : Option Value}
theorem b_ifb_eq {c : Prop} [Decidable c] {off : Int} {tgt : Nat} (hd : decode M.2.1 pc = .ok (.ifCond .eq off, 3)) (ht : (pc : Int) + off = (tgt : Int)) (kt : ¬ c → Bd S M d tgt lv st I r I') (kf : c → Bd S M d (pc + 3) lv st I r I') : Bd S M d pc lv (.int (bi c) :: st) I r I' :=
  b_if_eq hd ht (fun h => kt (bi_0.mp h)) (fun h => kf (bi_n.mp h))
theorem b_ifb_ne {c : Prop} [Decidable c] {off : Int} {tgt : Nat} (hd : decode M.2.1 pc = .ok (.ifCond .ne off, 3)) (ht : (pc : Int) + off = (tgt : Int)) (kt : c → Bd S M d tgt lv st I r I') (kf : ¬ c → Bd S M d (pc + 3) lv st I r I') : Bd S M d pc lv (.int (bi c) :: st) I r I' :=
  b_if_ne hd ht (fun h => kt (bi_n.mp h)) (fun h => kf (bi_0.mp h))
theorem b_ifn_eq {c : Prop} [Decidable c] {off : Int} {tgt : Nat} (hd : decode M.2.1 pc = .ok (.ifCond .eq off, 3)) (ht : (pc : Int) + off = (tgt : Int)) (kt : c → Bd S M d tgt lv st I r I') (kf : ¬ c → Bd S M d (pc + 3) lv st I r I') : Bd S M d pc lv (.int (bi (¬ c)) :: st) I r I' :=
  b_ifb_eq hd ht (fun h => kt (Decidable.not_not.mp h)) kf
theorem b_ifn_ne {c : Prop} [Decidable c] {off : Int} {tgt : Nat} (hd : decode M.2.1 pc = .ok (.ifCond .ne off, 3)) (ht : (pc : Int) + off = (tgt : Int)) (kt : ¬ c → Bd S M d tgt lv st I r I') (kf : c → Bd S M d (pc + 3) lv st I r I') : Bd S M d pc lv (.int (bi (¬ c)) :: st) I r I' :=
  b_ifb_ne hd ht kt (fun h => kf (Decidable.not_not.mp h))
theorem b_mmax {idx : Nat} {x y : Int32} (hd : decode M.2.1 pc = .ok (.invokestatic idx, 3)) (hw : Cond.methodLink M.1.cls idx Lib.Math.max.name ∈ gw ∧ Cond.static Lib.Math.max.name ∈ gw ∧ Cond.initialized "java/lang/Math" ∈ gw ∧ Cond.code Lib.Math.max.name Lib.Math.max.code 2 (some .int) ∈ gw) (hr : csum st + 14 ≤ 80 * d) (kk : Bd S M d (pc + 3) lv (.int (if x < y then y else x) :: st) I r I') : Bd S M d pc lv (.int y :: .int x :: st) I r I' := by
  intro p l e s m args below meth c D cy ad H locs ls X
  obtain ⟨⟨hx, hb, hr', hml, hown, hts, hlocks⟩, hlv, hi, hK, hE, hP, hS⟩ := id X
  exact va_mmax hx hb (hml.trans hlv.1.symm) hown (hts _ hw.1) (hts _ hw.2.1) (hts _ hw.2.2.1) (hts _ hw.2.2.2) (show 1 ≤ d by omega) (by rw [csum_map]; show csum st + 13 ≤ 80 * d; omega) (Nat.zero_le _) (Nat.zero_le _) hd (kk p l e s m args below meth c D cy ad H locs ls X)
theorem b_mmin {idx : Nat} {x y : Int32} (hd : decode M.2.1 pc = .ok (.invokestatic idx, 3)) (hw : Cond.methodLink M.1.cls idx Lib.Math.min.name ∈ gw ∧ Cond.static Lib.Math.min.name ∈ gw ∧ Cond.initialized "java/lang/Math" ∈ gw ∧ Cond.code Lib.Math.min.name Lib.Math.min.code 2 (some .int) ∈ gw) (hr : csum st + 14 ≤ 80 * d) (kk : Bd S M d (pc + 3) lv (.int (if y < x then y else x) :: st) I r I') : Bd S M d pc lv (.int y :: .int x :: st) I r I' := by
  intro p l e s m args below meth c D cy ad H locs ls X
  obtain ⟨⟨hx, hb, hr', hml, hown, hts, hlocks⟩, hlv, hi, hK, hE, hP, hS⟩ := id X
  exact va_mmin hx hb (hml.trans hlv.1.symm) hown (hts _ hw.1) (hts _ hw.2.1) (hts _ hw.2.2.1) (hts _ hw.2.2.2) (show 1 ≤ d by omega) (by rw [csum_map]; show csum st + 13 ≤ 80 * d; omega) (Nat.zero_le _) (Nat.zero_le _) hd (kk p l e s m args below meth c D cy ad H locs ls X)
theorem b_mabs {idx : Nat} {x : Int32} (hd : decode M.2.1 pc = .ok (.invokestatic idx, 3)) (hw : Cond.methodLink M.1.cls idx Lib.Math.abs.name ∈ gw ∧ Cond.static Lib.Math.abs.name ∈ gw ∧ Cond.initialized "java/lang/Math" ∈ gw ∧ Cond.code Lib.Math.abs.name Lib.Math.abs.code 1 (some .int) ∈ gw) (hr : csum st + 14 ≤ 80 * d) (kk : Bd S M d (pc + 3) lv (.int (if 0 ≤ x then x else 0 - x) :: st) I r I') : Bd S M d pc lv (.int x :: st) I r I' := by
  intro p l e s m args below meth c D cy ad H locs ls X
  obtain ⟨⟨hx, hb, hr', hml, hown, hts, hlocks⟩, hlv, hi, hK, hE, hP, hS⟩ := id X
  exact va_mabs hx hb (hml.trans hlv.1.symm) hown (hts _ hw.1) (hts _ hw.2.1) (hts _ hw.2.2.1) (hts _ hw.2.2.2) (show 1 ≤ d by omega) (by rw [csum_map]; show csum st + 13 ≤ 80 * d; omega) (Nat.zero_le _) (Nat.zero_le _) hd (kk p l e s m args below meth c D cy ad H locs ls X)
/-- tables of the class: the static field, and a place of it -/
theorem b_gets0 {idx : Nat} (hd : decode M.2.1 pc = .ok (.getstatic idx, 3)) (hw : Cond.fieldLink M.1.cls idx "HollowShire$Ground" "SOLVES" "[I" ∈ gw) (kk : Bd S M d (pc + 3) lv (.ref 1000 :: st) I r I') : Bd S M d pc lv st I r I' := by
  intro p l e s m args below meth c D cy ad H locs ls X
  obtain ⟨⟨hx, hb, hr, hml, hown, hts, hlocks⟩, hl, hi, hK, hE, hP, hS⟩ := id X
  exact va_gets hx hb hE.1.1.1 hS hown (hts _ hw) (fun _ h => h) hd (kk p l e s m args below meth c D cy ad H locs ls X)
theorem b_gets1 {idx : Nat} (hd : decode M.2.1 pc = .ok (.getstatic idx, 3)) (hw : Cond.fieldLink M.1.cls idx "HollowShire$Ground" "BEARS" "[I" ∈ gw) (kk : Bd S M d (pc + 3) lv (.ref 1001 :: st) I r I') : Bd S M d pc lv st I r I' := by
  intro p l e s m args below meth c D cy ad H locs ls X
  obtain ⟨⟨hx, hb, hr, hml, hown, hts, hlocks⟩, hl, hi, hK, hE, hP, hS⟩ := id X
  exact va_gets hx hb hE.1.2.1.1 hS hown (hts _ hw) (fun _ h => h) hd (kk p l e s m args below meth c D cy ad H locs ls X)
theorem b_gets2 {idx : Nat} (hd : decode M.2.1 pc = .ok (.getstatic idx, 3)) (hw : Cond.fieldLink M.1.cls idx "HollowShire$Signs" "KIND_ABOVE" "[I" ∈ gw) (kk : Bd S M d (pc + 3) lv (.ref 1002 :: st) I r I') : Bd S M d pc lv st I r I' := by
  intro p l e s m args below meth c D cy ad H locs ls X
  obtain ⟨⟨hx, hb, hr, hml, hown, hts, hlocks⟩, hl, hi, hK, hE, hP, hS⟩ := id X
  exact va_gets hx hb hE.1.2.2.1.1 hS hown (hts _ hw) (fun _ h => h) hd (kk p l e s m args below meth c D cy ad H locs ls X)
theorem b_gets3 {idx : Nat} (hd : decode M.2.1 pc = .ok (.getstatic idx, 3)) (hw : Cond.fieldLink M.1.cls idx "HollowShire$Fit" "SIZES" "[I" ∈ gw) (kk : Bd S M d (pc + 3) lv (.ref 1003 :: st) I r I') : Bd S M d pc lv st I r I' := by
  intro p l e s m args below meth c D cy ad H locs ls X
  obtain ⟨⟨hx, hb, hr, hml, hown, hts, hlocks⟩, hl, hi, hK, hE, hP, hS⟩ := id X
  exact va_gets hx hb hE.1.2.2.2.1 hS hown (hts _ hw) (fun _ h => h) hd (kk p l e s m args below meth c D cy ad H locs ls X)
theorem b_tald0 {i : Int32} (hd : decode M.2.1 pc = .ok (.iaload, 1)) (hin : vp_in i 4) (kk : Bd S M d (pc + 1) lv (.int (tbSolves.getD i.toNatClampNeg 0) :: st) I r I') : Bd S M d pc lv (.int i :: .ref 1000 :: st) I r I' := by
  intro p l e s m args below meth c D cy ad H locs ls X
  obtain ⟨⟨hx, hb, hr, hml, hown, hts, hlocks⟩, hl, hi, hK, hE, hP, hS⟩ := id X
  exact va_ti hx hb hE.1.1.2 hS hin rfl hd (kk p l e s m args below meth c D cy ad H locs ls X)
theorem b_tald1 {i : Int32} (hd : decode M.2.1 pc = .ok (.iaload, 1)) (hin : vp_in i 4) (kk : Bd S M d (pc + 1) lv (.int (tbBears.getD i.toNatClampNeg 0) :: st) I r I') : Bd S M d pc lv (.int i :: .ref 1001 :: st) I r I' := by
  intro p l e s m args below meth c D cy ad H locs ls X
  obtain ⟨⟨hx, hb, hr, hml, hown, hts, hlocks⟩, hl, hi, hK, hE, hP, hS⟩ := id X
  exact va_ti hx hb hE.1.2.1.2 hS hin rfl hd (kk p l e s m args below meth c D cy ad H locs ls X)
theorem b_tald2 {i : Int32} (hd : decode M.2.1 pc = .ok (.iaload, 1)) (hin : vp_in i 6) (kk : Bd S M d (pc + 1) lv (.int (tbAbove.getD i.toNatClampNeg 0) :: st) I r I') : Bd S M d pc lv (.int i :: .ref 1002 :: st) I r I' := by
  intro p l e s m args below meth c D cy ad H locs ls X
  obtain ⟨⟨hx, hb, hr, hml, hown, hts, hlocks⟩, hl, hi, hK, hE, hP, hS⟩ := id X
  exact va_ti hx hb hE.1.2.2.1.2 hS hin rfl hd (kk p l e s m args below meth c D cy ad H locs ls X)
theorem b_tald3 {i : Int32} (hd : decode M.2.1 pc = .ok (.iaload, 1)) (hin : vp_in i 5) (kk : Bd S M d (pc + 1) lv (.int (tbSizes.getD i.toNatClampNeg 0) :: st) I r I') : Bd S M d pc lv (.int i :: .ref 1003 :: st) I r I' := by
  intro p l e s m args below meth c D cy ad H locs ls X
  obtain ⟨⟨hx, hb, hr, hml, hown, hts, hlocks⟩, hl, hi, hK, hE, hP, hS⟩ := id X
  exact va_ti hx hb hE.1.2.2.2.2 hS hin rfl hd (kk p l e s m args below meth c D cy ad H locs ls X)
theorem b_tlen3 {v : Int32} (hd : decode M.2.1 pc = .ok (.arraylength, 1)) (hv : (5 : Int32) = v) (kk : Bd S M d (pc + 1) lv (.int v :: st) I r I') : Bd S M d pc lv (.ref 1003 :: st) I r I' := by
  intro p l e s m args below meth c D cy ad H locs ls X
  obtain ⟨⟨hx, hb, hr, hml, hown, hts, hlocks⟩, hl, hi, hK, hE, hP, hS⟩ := id X
  exact va_tlen hx hb hE.1.2.2.2.2 hS (by subst hv; rfl) hd (kk p l e s m args below meth c D cy ad H locs ls X)
/-- a text -/
theorem b_ldcS {i idx : Nat} (hd : decode M.2.1 pc = .ok (.ldc idx, 2)) (hi15 : i < 15) (ho : txO.getD i "" = M.1.cls) (hk : txK.getD i 0 = idx) (kk : Bd S M d (pc + 2) lv (.ref (1100 + i) :: st) I r I') : Bd S M d pc lv st I r I' := by
  intro p l e s m args below meth c D cy ad H locs ls X
  obtain ⟨⟨hx, hb, hr, hml, hown, hts, hlocks⟩, hl, hi, hK, hE, hP, hS⟩ := id X
  have h1 := hE.2.1.2.1 i hi15
  rw [ho, hk] at h1
  exact va_ldcS hx hb hown h1 hd (kk p l e s m args below meth c D cy ad H locs ls X)
/-- a text's inside -/
theorem b_strV {i idx : Nat} (hd : decode M.2.1 pc = .ok (.getfield idx, 3)) (hw : Cond.fieldLink M.1.cls idx "java/lang/String" "value" "[B" ∈ gw) (hi15 : i < 15) (kk : Bd S M d (pc + 3) lv (.ref (1200 + i) :: st) I r I') : Bd S M d pc lv (.ref (1100 + i) :: st) I r I' := by
  intro p l e s m args below meth c D cy ad H locs ls X
  obtain ⟨⟨hx, hb, hr, hml, hown, hts, hlocks⟩, hl, hi, hK, hE, hP, hS⟩ := id X
  exact vk_getf hx hb (hE.2.1.1.1 i hi15).2.2.1 hS hown (hts _ hw) (fun _ h => h) hd (kk p l e s m args below meth c D cy ad H locs ls X)
theorem b_strK {i idx : Nat} (hd : decode M.2.1 pc = .ok (.getfield idx, 3)) (hw : Cond.fieldLink M.1.cls idx "java/lang/String" "coder" "B" ∈ gw) (hi15 : i < 15) (kk : Bd S M d (pc + 3) lv (.int 0 :: st) I r I') : Bd S M d pc lv (.ref (1100 + i) :: st) I r I' := by
  intro p l e s m args below meth c D cy ad H locs ls X
  obtain ⟨⟨hx, hb, hr, hml, hown, hts, hlocks⟩, hl, hi, hK, hE, hP, hS⟩ := id X
  exact vk_getf hx hb (hE.2.1.1.1 i hi15).2.1 hS hown (hts _ hw) (fun _ h => h) hd (kk p l e s m args below meth c D cy ad H locs ls X)
theorem b_strL {i : Nat} {v : Int32} (hd : decode M.2.1 pc = .ok (.arraylength, 1)) (hi15 : i < 15) (hv : nI (txL.getD i 0) = v) (kk : Bd S M d (pc + 1) lv (.int v :: st) I r I') : Bd S M d pc lv (.ref (1200 + i) :: st) I r I' := by
  intro p l e s m args below meth c D cy ad H locs ls X
  obtain ⟨⟨hx, hb, hr, hml, hown, hts, hlocks⟩, hl, hi, hK, hE, hP, hS⟩ := id X
  exact va_tlen hx hb (hE.2.1.1.1 i hi15).2.2.2 hS hv hd (kk p l e s m args below meth c D cy ad H locs ls X)
theorem b_strB {i : Nat} {x : Int32} (hd : decode M.2.1 pc = .ok (.baload, 1)) (hi15 : i < 15) (hin : vp_in x (txL.getD i 0)) (kk : Bd S M d (pc + 1) lv (.int ((txB.getD i []).getD x.toNatClampNeg 0) :: st) I r I') : Bd S M d pc lv (.int x :: .ref (1200 + i) :: st) I r I' := by
  intro p l e s m args below meth c D cy ad H locs ls X
  obtain ⟨⟨hx, hb, hr, hml, hown, hts, hlocks⟩, hl, hi, hK, hE, hP, hS⟩ := id X
  exact va_tb hx hb (hE.2.1.1.1 i hi15).2.2.2 hS hin rfl hd (kk p l e s m args below meth c D cy ad H locs ls X)
theorem b_getsC {idx : Nat} (hd : decode M.2.1 pc = .ok (.getstatic idx, 3)) (hw : Cond.fieldLink M.1.cls idx "java/lang/String" "COMPACT_STRINGS" "Z" ∈ gw) (kk : Bd S M d (pc + 3) lv (.int 1 :: st) I r I') : Bd S M d pc lv st I r I' := by
  intro p l e s m args below meth c D cy ad H locs ls X
  obtain ⟨⟨hx, hb, hr, hml, hown, hts, hlocks⟩, hl, hi, hK, hE, hP, hS⟩ := id X
  exact va_gets hx hb hE.2.1.2.2.1 hS hown (hts _ hw) (fun _ h => h) hd (kk p l e s m args below meth c D cy ad H locs ls X)
theorem b_getsF {idx : Nat} (hd : decode M.2.1 pc = .ok (.getstatic idx, 3)) (hw : Cond.fieldLink M.1.cls idx "jdk/internal/util/Preconditions" "SIOOBE_FORMATTER" "Ljava/util/function/BiFunction;" ∈ gw) (k1 : Bd S M d (pc + 3) lv (.ref 1301 :: st) I r I') (k2 : Bd S M d (pc + 3) lv (.null :: st) I r I') : Bd S M d pc lv st I r I' := by
  intro p l e s m args below meth c D cy ad H locs ls X
  obtain ⟨⟨hx, hb, hr, hml, hown, hts, hlocks⟩, hl, hi, hK, hE, hP, hS⟩ := id X
  rcases hE.2.1.2.2.2 with h | h
  · exact va_gets hx hb h hS hown (hts _ hw) (fun _ h => h) hd (k1 p l e s m args below meth c D cy ad H locs ls X)
  · exact va_gets hx hb h hS hown (hts _ hw) (fun _ h => h) hd (k2 p l e s m args below meth c D cy ad H locs ls X)
/-- a call of a text -/
theorem b_invT {M2 : Mi} {na idx i d2 : Nat} {As rest : List Value} {r1 : Option Value} {I1 : Wd} (hd : decode M.2.1 pc = .ok (.invokevirtual idx, 3)) (hl : Cond.methodLink M.1.cls idx M2.1 ∈ gw) (hm : MV M2 na) (hmi : MVi M2) (hc : Cal S M2 d2 (.ref (1100 + i) :: As) I r1 I1) (hcl : M2.1.cls = "java/lang/String") (hi15 : i < 15) (hst : st = As.reverse ++ .ref (1100 + i) :: rest) (hna : As.length = na) (hdd : d2 < d) (hcs : csum rest ≤ 8) (kk : Bd S M d (pc + 3) lv (r1.toList ++ rest) I1 r I') : Bd S M d pc lv st I r I' := by
  intro p l e s m args below meth c D cy ad H locs ls X
  obtain ⟨⟨hx, hb, hr, hml, hown, hts, hlocks⟩, hlv, hi, hK, hE, hP, hS⟩ := id X
  have hrec := vk_recv hE.2.1.1 hi15 hS
  rw [← hcl] at hrec
  subst hst
  refine go_on X (va_runV (As := As.map (cvt ad)) (b := ad (1100 + i)) (C := M2.1.cls) ⟨hx, hb, hml, hown, hts⟩ (hc l D cy ad hi) (cwV na hts (good_call hl hm hmi) rfl rfl rfl ⟨rfl, hm.2.2.1.1, hm.2.2.1.2, hm.2.2.2.1⟩ (room_ok hdd hm.2.2.2.2)) ⟨Pcw.blind, hrec, fun U hU hW => Pcw.at (As := .ref (1100 + i) :: As) hK hE hP hS hU hW⟩ rfl (by rw [List.length_map]; exact hna) hlv.1 (by simp [cvt]) (lv_room (by rw [csum_map]; exact hcs)) hd ⟨Nat.zero_le _, Nat.zero_le _⟩) kk
theorem b_i2c {x y : Int32} (hd : decode M.2.1 pc = .ok (.i2c, 1)) (hv : (x.toUInt32 % 65536).toInt32 = y) (kk : Bd S M d (pc + 1) lv (.int y :: st) I r I') : Bd S M d pc lv (.int x :: st) I r I' :=
  fun p l e s m args below meth c D cy ad H locs ls X => lv_i2c X.1.1 X.1.2.1 hd hv (kk p l e s m args below meth c D cy ad H locs ls X)
/-- switches, case by case -/
def swp (P : Nat → Prop) (x : Int32) (dfl : Nat) : List (Int32 × Nat) → Prop
  | [] => P dfl
  | q :: l => (x = q.1 → P q.2) ∧ (¬ x = q.1 → swp P x dfl l)
theorem swp_in {P : Nat → Prop} {x : Int32} {dfl : Nat} : ∀ {l : List (Int32 × Nat)}, swp P x dfl l → (∃ q ∈ l, x = q.1 ∧ P q.2) ∨ ((∀ q ∈ l, ¬ x = q.1) ∧ P dfl)
  | [], h => Or.inr ⟨fun _ h => absurd h List.not_mem_nil, h⟩
  | q :: l, h => by
    by_cases e : x = q.1
    · exact Or.inl ⟨q, List.mem_cons_self, e, h.1 e⟩
    · rcases swp_in (h.2 e) with ⟨q2, h1, h2, h3⟩ | ⟨h1, h2⟩
      · exact Or.inl ⟨q2, List.mem_cons_of_mem _ h1, h2, h3⟩
      · refine Or.inr ⟨fun q2 hq => ?_, h2⟩
        rcases List.mem_cons.mp hq with rfl | hq
        · exact e
        · exact h1 q2 hq
def tsw_ok (pc : Nat) (lo hi : Int) (offs : Array Int) (ts : List (Int32 × Nat)) : Bool :=
  decide ((ts.length : Int) = hi - lo + 1) && (List.range ts.length).all (fun i => match ts[i]?, offs[i]? with
    | some q, some o => decide (q.1.toInt = lo + (i : Int)) && decide ((pc : Int) + o = (q.2 : Int))
    | _, _ => false)
theorem b_tsw {dflt lo hi : Int} {offs : Array Int} {len : Nat} {x : Int32} {dfl : Nat} {ts : List (Int32 × Nat)} (hd : decode M.2.1 pc = .ok (.tableswitch dflt lo hi offs, len)) (hok : (tsw_ok pc lo hi offs ts && decide ((pc : Int) + dflt = (dfl : Int))) = true) (kk : swp (fun t => Bd S M d t lv st I r I') x dfl ts) : Bd S M d pc lv (.int x :: st) I r I' := by
  simp only [tsw_ok, Bool.and_eq_true, decide_eq_true_eq, List.all_eq_true, List.mem_range] at hok
  obtain ⟨⟨hlen, hall⟩, hdf⟩ := hok
  rcases swp_in kk with ⟨q, hq, hxq, hP⟩ | ⟨hno, hP⟩
  · obtain ⟨i, hi2⟩ := List.getElem?_of_mem hq
    have hil := (List.getElem?_eq_some_iff.mp hi2).1
    have h3 := hall i hil
    rw [hi2] at h3
    cases ho : offs[i]? with
    | none => rw [ho] at h3; cases h3
    | some o =>
      rw [ho] at h3
      simp only [Bool.and_eq_true, decide_eq_true_eq] at h3
      rw [← hxq] at h3
      intro p l e s m args below meth c D cy ad H locs ls X
      exact lv_tableIn (off := o) (tgt := q.2) X.1.1 X.1.2.1 hd (by omega) (by omega) (by rw [show (x.toInt - lo).toNat = i by omega]; exact ho) h3.2 (hP p l e s m args below meth c D cy ad H locs ls X)
  · intro p l e s m args below meth c D cy ad H locs ls X
    refine lv_tableOut X.1.1 X.1.2.1 hd ?_ hdf (hP p l e s m args below meth c D cy ad H locs ls X)
    rcases Int.lt_or_le x.toInt lo with h1 | h1
    · exact Or.inl h1
    rcases Int.lt_or_le hi x.toInt with h2 | h2
    · exact Or.inr h2
    have hil : (x.toInt - lo).toNat < ts.length := by omega
    have h3 := hall _ hil
    rw [List.getElem?_eq_getElem hil] at h3
    cases ho : offs[(x.toInt - lo).toNat]? with
    | none => rw [ho] at h3; cases h3
    | some o =>
      rw [ho] at h3
      simp only [Bool.and_eq_true, decide_eq_true_eq] at h3
      exact absurd (Int32.toInt_inj.mp (by rw [h3.1]; omega)) (hno _ (List.getElem_mem hil))
def lsw_ok (pc : Nat) (ps : List (Int × Int)) (ts : List (Int32 × Nat)) : Bool := match ps, ts with
  | [], [] => true
  | p :: ps, q :: ts => decide (q.1.toInt = p.1) && decide ((pc : Int) + p.2 = (q.2 : Int)) && lsw_ok pc ps ts
  | _, _ => false
theorem lsw_go {pc dfl : Nat} {dflt : Int} {x : Int32} {P : Nat → Prop} (hdf : (pc : Int) + dflt = (dfl : Int)) : ∀ {ps : List (Int × Int)} {ts : List (Int32 × Nat)}, lsw_ok pc ps ts = true → swp P x dfl ts → ∃ (off : Int) (tgt : Nat), Op.lookupswitch.offset ps dflt x.toInt = off ∧ (pc : Int) + off = (tgt : Int) ∧ P tgt
  | [], [], _, h => ⟨dflt, dfl, rfl, hdf, h⟩
  | [], _ :: _, h, _ => by cases h
  | _ :: _, [], h, _ => by cases h
  | (a, o) :: ps, q :: ts, h, hs => by
    simp only [lsw_ok, Bool.and_eq_true, decide_eq_true_eq] at h
    by_cases e : x = q.1
    · refine ⟨o, q.2, ?_, h.1.2, hs.1 e⟩
      have e2 : x.toInt = a := by rw [e]; exact h.1.1
      simp [Op.lookupswitch.offset, e2]
    · obtain ⟨off, tgt, h1, h2, h3⟩ := lsw_go hdf h.2 (hs.2 e)
      refine ⟨off, tgt, ?_, h2, h3⟩
      rw [lv_osw e h.1.1]
      exact h1
theorem b_lsw {dflt : Int} {ps : Array (Int × Int)} {len : Nat} {x : Int32} {dfl : Nat} {ts : List (Int32 × Nat)} (hd : decode M.2.1 pc = .ok (.lookupswitch dflt ps, len)) (hok : ((ps.toList.zip (ps.toList.drop 1)).all (fun (a, next) => a.1 < next.1) && lsw_ok pc ps.toList ts && decide ((pc : Int) + dflt = (dfl : Int))) = true) (kk : swp (fun t => Bd S M d t lv st I r I') x dfl ts) : Bd S M d pc lv (.int x :: st) I r I' := by
  simp only [Bool.and_eq_true, decide_eq_true_eq] at hok
  obtain ⟨⟨hz, hl⟩, hdf⟩ := hok
  obtain ⟨off, tgt, h1, h2, h3⟩ := lsw_go hdf hl kk
  intro p l e s m args below meth c D cy ad H locs ls X
  exact lv_lookup X.1.1 X.1.2.1 hd hz h1 h2 (h3 p l e s m args below meth c D cy ad H locs ls X)
/-- a copy between two rows of whole numbers -/
theorem b_copyT {k1 k0 n1 n0 t : Nat} {sp dp n : Int32} {idx : Nat} {ty : FieldType} (ht : (t = 20 ∧ ty = .int) ∨ (t = 21 ∧ ty = .boolean)) (hd : decode M.2.1 pc = .ok (.invokestatic idx, 3)) (hw : Cond.methodLink M.1.cls idx arraycopyName ∈ gw ∧ Cond.native arraycopyName ∈ gw ∧ Cond.static arraycopyName ∈ gw ∧ Cond.initialized "java/lang/System" ∈ gw) (h0 : S.1[k0]? = some (t, n0)) (h1 : S.1[k1]? = some (t, n1))
    (hc : ¬ sp < 0 ∧ ¬ dp < 0 ∧ ¬ n < 0 ∧ sp.toNatClampNeg + n.toNatClampNeg ≤ n0 ∧ dp.toNatClampNeg + n.toNatClampNeg ≤ n1 ∧ (∀ i, i < n.toNatClampNeg → fits ty (.int (I k0 (sp.toNatClampNeg + i))) = true) ∧ csum st + 40 ≤ 80 * d)
    (kk : Bd S M d (pc + 3) lv st (rset I k1 (va_cpy (I k0) (I k1) sp.toNatClampNeg dp.toNatClampNeg n.toNatClampNeg)) r I') : Bd S M d pc lv (.int n :: .int dp :: .ref k1 :: .int sp :: .ref k0 :: st) I r I' := by
  intro p l e s m args below meth c D cy ad H locs ls X
  obtain ⟨hX1, hl, hi, hK, hE, hP, hS⟩ := id X
  obtain ⟨hx, hb, hr, hml, hown, hts, hlocks⟩ := id hX1
  obtain ⟨c1, c2, c3, c4, c5, c6, c7⟩ := hc
  have hwd : nativeFrameWords "java/lang/System" "arraycopy" 5 + 11 ≤ 40 := by decide +kernel
  rcases ht with ⟨rfl, rfl⟩ | ⟨rfl, rfl⟩
  · refine va_copyi hx hb (hml.trans hl.1.symm) hown (hts _ hw.1) (hts _ hw.2.1) (hts _ hw.2.2.1) (hts _ hw.2.2.2) hK hP (ws_D hi) hS k0 k1 0 0 (ws_at h0) (ws_at h1) rfl rfl rfl c1 c2 c3 c4 c5 c6 (show 1 ≤ d by omega) (by rw [csum_map]; show csum st + _ ≤ 80 * d; omega) hd ?_
    intro H1 locs1 hP1 hD1 hS1
    have e3 := ws_set (cy := cy) (ad := ad) (I := I) h1 (va_cpy (I k0) (I k1) sp.toNatClampNeg dp.toNatClampNeg n.toNatClampNeg)
    rw [ent_i] at e3
    rw [e3] at hP1
    exact kk p l e s m args below meth c D cy ad H1 locs1 ls ⟨hX1, hl, hi, hK, hE, hP1, hS1⟩
  · refine va_copyi hx hb (hml.trans hl.1.symm) hown (hts _ hw.1) (hts _ hw.2.1) (hts _ hw.2.2.1) (hts _ hw.2.2.2) hK hP (ws_D hi) hS k0 k1 1 1 (ws_at h0) (ws_at h1) rfl rfl rfl c1 c2 c3 c4 c5 c6 (show 1 ≤ d by omega) (by rw [csum_map]; show csum st + _ ≤ 80 * d; omega) hd ?_
    intro H1 locs1 hP1 hD1 hS1
    have e3 := ws_set (cy := cy) (ad := ad) (I := I) h1 (va_cpy (I k0) (I k1) sp.toNatClampNeg dp.toNatClampNeg n.toNatClampNeg)
    rw [ent_z] at e3
    rw [e3] at hP1
    exact kk p l e s m args below meth c D cy ad H1 locs1 ls ⟨hX1, hl, hi, hK, hE, hP1, hS1⟩
/-- the four orders, told by 'less' alone -/
theorem b_ifL_ge {x : Int32} {off : Int} {tgt : Nat} (hd : decode M.2.1 pc = .ok (.ifCond .ge off, 3)) (ht : (pc : Int) + off = (tgt : Int)) (kt : ¬ x < 0 → Bd S M d tgt lv st I r I') (kf : x < 0 → Bd S M d (pc + 3) lv st I r I') : Bd S M d pc lv (.int x :: st) I r I' := b_if_ge hd ht (fun h => kt (Int32.not_lt.mpr h)) (fun h => kf (Int32.not_le.mp h))
theorem b_ifL_le {x : Int32} {off : Int} {tgt : Nat} (hd : decode M.2.1 pc = .ok (.ifCond .le off, 3)) (ht : (pc : Int) + off = (tgt : Int)) (kt : ¬ 0 < x → Bd S M d tgt lv st I r I') (kf : 0 < x → Bd S M d (pc + 3) lv st I r I') : Bd S M d pc lv (.int x :: st) I r I' := b_if_le hd ht (fun h => kt (Int32.not_lt.mpr h)) (fun h => kf (Int32.not_le.mp h))
theorem b_icmpL_ge {x y : Int32} {off : Int} {tgt : Nat} (hd : decode M.2.1 pc = .ok (.if_icmp .ge off, 3)) (ht : (pc : Int) + off = (tgt : Int)) (kt : ¬ x < y → Bd S M d tgt lv st I r I') (kf : x < y → Bd S M d (pc + 3) lv st I r I') : Bd S M d pc lv (.int y :: .int x :: st) I r I' := b_icmp_ge hd ht (fun h => kt (Int32.not_lt.mpr h)) (fun h => kf (Int32.not_le.mp h))
theorem b_icmpL_le {x y : Int32} {off : Int} {tgt : Nat} (hd : decode M.2.1 pc = .ok (.if_icmp .le off, 3)) (ht : (pc : Int) + off = (tgt : Int)) (kt : ¬ y < x → Bd S M d tgt lv st I r I') (kf : y < x → Bd S M d (pc + 3) lv st I r I') : Bd S M d pc lv (.int y :: .int x :: st) I r I' := b_icmp_le hd ht (fun h => kt (Int32.not_lt.mpr h)) (fun h => kf (Int32.not_le.mp h))
end BM
