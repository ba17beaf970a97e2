/-! an end with a property, in place of a told end -/
def BdQ (S : Sy) (M : Mi) (d pc : Nat) (lv : List (Nat × Value)) (st : List Value) (I : Wd) (Q : Option Value → Wd → Prop) : Prop := ∃ r I', Q r I' ∧ Bd S M d pc lv st I r I'
def CalQ (S : Sy) (M : Mi) (d : Nat) (As : List Value) (I : Wd) (Q : Option Value → Wd → Prop) : Prop := ∃ r I', Q r I' ∧ Cal S M d As I r I'
theorem BdQ.l {S : Sy} {M : Mi} {d pc pc2 : Nat} {lv lv2 : List (Nat × Value)} {st st2 : List Value} {I I2 : Wd} {Q : Option Value → Wd → Prop} (h : ∀ r I', Bd S M d pc lv st I r I' → Bd S M d pc2 lv2 st2 I2 r I') (kk : BdQ S M d pc lv st I Q) : BdQ S M d pc2 lv2 st2 I2 Q := by
  obtain ⟨r, I', q, b⟩ := kk
  exact ⟨r, I', q, h r I' b⟩
theorem BdQ.b {S : Sy} {M : Mi} {d pc pc2 pc3 : Nat} {lv lv2 lv3 : List (Nat × Value)} {st st2 st3 : List Value} {I I2 I3 : Wd} {Q : Option Value → Wd → Prop} {c : Prop} (h : ∀ r I', (c → Bd S M d pc2 lv2 st2 I2 r I') → (¬ c → Bd S M d pc3 lv3 st3 I3 r I') → Bd S M d pc lv st I r I') (kt : c → BdQ S M d pc2 lv2 st2 I2 Q) (kf : ¬ c → BdQ S M d pc3 lv3 st3 I3 Q) : BdQ S M d pc lv st I Q := by
  by_cases q : c
  · obtain ⟨r, I', e, b⟩ := kt q
    exact ⟨r, I', e, h r I' (fun _ => b) (fun n => absurd q n)⟩
  · obtain ⟨r, I', e, b⟩ := kf q
    exact ⟨r, I', e, h r I' (fun n => absurd n q) (fun _ => b)⟩
theorem BdQ.c {S : Sy} {M : Mi} {d pc pc2 pc3 : Nat} {lv lv2 lv3 : List (Nat × Value)} {st st2 st3 : List Value} {I I2 I3 : Wd} {Q : Option Value → Wd → Prop} {c : Prop} (h : ∀ r I', (¬ c → Bd S M d pc2 lv2 st2 I2 r I') → (c → Bd S M d pc3 lv3 st3 I3 r I') → Bd S M d pc lv st I r I') (kt : ¬ c → BdQ S M d pc2 lv2 st2 I2 Q) (kf : c → BdQ S M d pc3 lv3 st3 I3 Q) : BdQ S M d pc lv st I Q :=
  BdQ.b (c := c) (fun r I' a b => h r I' b a) kf kt
theorem CalQ.of {S : Sy} {M : Mi} {d : Nat} {As : List Value} {I : Wd} {Q : Option Value → Wd → Prop} (hp : plainName M.1.cls = true) (hn : (lg_sl As).length ≤ M.2.2.1) (h : BdQ S M d 0 (lv_args 0 As) [] I Q) : CalQ S M d As I Q := by
  obtain ⟨r, I', q, b⟩ := h
  exact ⟨r, I', q, Cal.of hp hn b⟩
theorem CalQ.to {S : Sy} {M : Mi} {d : Nat} {As : List Value} {I : Wd} {Q Q2 : Option Value → Wd → Prop} (h : CalQ S M d As I Q) (h2 : ∀ r I', Q r I' → Q2 r I') : CalQ S M d As I Q2 := by
  obtain ⟨r, I', q, b⟩ := h
  exact ⟨r, I', h2 r I' q, b⟩
theorem BdQ.to {S : Sy} {M : Mi} {d pc : Nat} {lv : List (Nat × Value)} {st : List Value} {I : Wd} {Q Q2 : Option Value → Wd → Prop} (h : BdQ S M d pc lv st I Q) (h2 : ∀ r I', Q r I' → Q2 r I') : BdQ S M d pc lv st I Q2 := by
  obtain ⟨r, I', q, b⟩ := h
  exact ⟨r, I', h2 r I' q, b⟩
/-! reading, as the class does it: where we are and what was made, or the token that can't stand there -/
abbrev St : Type := Except Nat (Nat × List Int32)
def kdA (kd : Nat → Int32) (T t : Nat) : Int32 := if t < T then kd t else 0
def sAdd (v : Int32) : St → St
  | .ok (t, c) => .ok (t, if c.length < 160 then c ++ [v] else c)
  | .error e => .error e
def sAdv : St → St
  | .ok (t, c) => .ok (t + 1, c)
  | .error e => .error e
def sRef : St → St
  | .ok (t, _) => .error t
  | .error e => .error e
def sTok (kd : Nat → Int32) (T : Nat) : St → Int32
  | .ok (t, _) => kdA kd T t
  | .error _ => 1
def sNum (nm : Nat → Int32) : St → Int32
  | .ok (t, _) => nm t
  | .error _ => 0
def sExp (kd : Nat → Int32) (T : Nat) (k : Int32) (s : St) : St := if sTok kd T s = k then sAdv s else sRef s
def isMul (k : Int32) : Option Int32 := if k = 42 then some (-18) else none
def isSum (k : Int32) : Option Int32 := if k = 43 then some (-16) else if k = 45 then some (-17) else none
def isCmp (k : Int32) : Option Int32 := if k = 60 then some (-14) else if k = 61 then some (-15) else none
def isAnd (k : Int32) : Option Int32 := if k = 304 then some (-12) else none
def isOr (k : Int32) : Option Int32 := if k = 303 then some (-11) else none
section RD
variable (kd nm : Nat → Int32) (T : Nat)
def rLoop (is : Int32 → Option Int32) (sub : St → St) : Nat → St → St
  | 0, s => s
  | n + 1, s => match is (sTok kd T s) with
    | none => s
    | some v => rLoop is sub n (sAdd v (sub (sAdv s)))
def rOne (can : Bool) (one or : St → St) (s : St) : St :=
  if sTok kd T s = 2 then sAdv (sAdd (sNum nm s) s)
  else if sTok kd T s = 3 then sAdv (sAdd (-1 - sNum nm s) s)
  else if sTok kd T s = 45 ∧ can = true then sAdd (-19) (one (sAdv s))
  else if sTok kd T s = 40 ∧ can = true then sExp kd T 41 (or (sAdv s))
  else sRef s
def rTerm (one : St → St) (s : St) : St := rLoop kd T isMul one 160 (one s)
def rSum (one : St → St) (s : St) : St := rLoop kd T isSum (rTerm kd T one) 160 (rTerm kd T one s)
def rCmp (sum : St → St) (s : St) : St := match isCmp (sTok kd T s) with
  | none => s
  | some v => sAdd v (sum (sAdv s))
def rNot (can : Bool) (not sum : St → St) (s : St) : St :=
  if sTok kd T s = 305 ∧ can = true then sAdd (-13) (not (sAdv s)) else rCmp kd T sum (sum s)
def rAnd (not : St → St) (s : St) : St := rLoop kd T isAnd not 160 (not s)
def rOr (not : St → St) (s : St) : St := rLoop kd T isOr (rAnd kd T not) 160 (rAnd kd T not s)
/-- ONE and NOT where f more may be opened -/
def rLv : Nat → (St → St) × (St → St)
  | 0 => (rOne kd nm T false id id, rNot kd T false id (rSum kd T (rOne kd nm T false id id)))
  | f + 1 => (rOne kd nm T true (rLv f).1 (rOr kd T (rLv f).2), rNot kd T true (rLv f).2 (rSum kd T (rOne kd nm T true (rLv f).1 (rOr kd T (rLv f).2))))
end RD
/-! the class's world while it reads -/
def plA (B : Wd) (T t : Nat) : Int32 := if t < T then B 69 t else B 67 0
def Fr3 (B I : Wd) : Prop := ∀ a, a ≠ 73 → a ≠ 74 → a ≠ 75 → I a = B a
def RdW (B : Wd) (T : Nat) (I : Wd) : St → Prop
  | .ok (t, c) => Fr3 B I ∧ I 73 2 = nI t ∧ I 73 3 = kdA (B 71) T t ∧ I 73 4 = -1 ∧ I 74 0 = nI c.length ∧ c.length ≤ 160 ∧ (∀ i, i < c.length → I 75 i = c.getD i 0) ∧ t ≤ T
  | .error e => Fr3 B I ∧ I 73 3 = 1 ∧ I 73 4 = plA B T e ∧ ∃ s, I 74 0 = nI s ∧ s ≤ 160
def TB (B : Wd) (T : Nat) : Prop := B 67 1 = nI T ∧ T ≤ 160 ∧ ∀ t, ¬ plA B T t < 0
theorem RdW.fr {B I : Wd} {T : Nat} {s : St} (h : RdW B T I s) : Fr3 B I := by
  cases s with
  | error e => exact h.1
  | ok q => exact h.1
theorem RdW.tok {B I : Wd} {T : Nat} {s : St} (h : RdW B T I s) : I 73 3 = sTok (B 71) T s := by
  cases s with
  | error e => exact h.2.1
  | ok q => exact h.2.2.1
theorem kdA_lt {kd : Nat → Int32} {T t : Nat} (h : ¬ kdA kd T t = 0) : t < T := by
  unfold kdA at h
  split at h
  · assumption
  · exact absurd rfl h
def tX7_kindAt : List (Nat × Instr × Nat) := [(0, .iload_n 1, 1), (1, .ifCond .lt 20, 3), (4, .iload_n 1, 1), (5, .aload_n 0, 1), (6, .getfield 15, 3), (9, .if_icmp .ge 12, 3), (12, .aload_n 0, 1), (13, .getfield 28, 3), (16, .iload_n 1, 1), (17, .iaload, 1), (18, .goto 4, 3), (21, .iconst 0, 1), (22, .ireturn, 1)]
theorem dtX7_kindAt : dec_ok mX7_kindAt.2.1 tX7_kindAt = true := by decide +kernel
set_option maxHeartbeats 4000000 in
theorem c_X7_kindAt {I : Wd} {T t : Nat} {x : Int32} (hx : x = nI t) (ht : t < 2 ^ 31) (hT : I 67 1 = nI T) (hT2 : T ≤ 160) : Cal SyC mX7_kindAt 0 [.ref 67, .int x] I (some (.int (if t < T then I 71 t else 0))) I := by
  refine Cal.of (by decide) (Nat.le_of_ble_eq_true rfl) ?_
  show Bd _ _ _ _ [(0, _), (1, _)] _ _ _ _
  subst hx
  refine b_iload_n (pc := 0) (i := 1) (dd dtX7_kindAt 0 rfl) rfl rfl ?_
  refine b_if_lt (pc := 1) (tgt := 21) (dd dtX7_kindAt 1 rfl) (by decide) (fun h1 => ?_) (fun h1 => ?_)
  · exact absurd h1 (nI_pos ht)
  · refine b_iload_n (pc := 4) (i := 1) (dd dtX7_kindAt 2 rfl) rfl rfl ?_
    refine b_aload_n (pc := 5) (i := 0) (dd dtX7_kindAt 3 rfl) rfl rfl ?_
    refine b_geti (pc := 6) (dd dtX7_kindAt 4 rfl) fwX7_15 pC_67 ?_
    refine b_icmpL_ge (pc := 9) (tgt := 21) (dd dtX7_kindAt 5 rfl) (by decide) (fun h9 => ?_) (fun h9 => ?_)
    · rw [hT] at h9
      have hlt := ge_n h9 (by omega)
      rw [if_neg (by omega)]
      refine b_ic0 (pc := 21) (dd dtX7_kindAt 11 rfl) ?_
      refine b_eq (b_iret (dd dtX7_kindAt 12 rfl) rfl) ?_ ?_
      · first | rw [nI_clamp ht] | rfl
      · rfl
    · rw [hT] at h9
      have hlt := lt_n h9 ht (by omega)
      rw [if_pos hlt]
      refine b_aload_n (pc := 12) (i := 0) (dd dtX7_kindAt 6 rfl) rfl rfl ?_
      refine b_geta (pc := 13) (dd dtX7_kindAt 7 rfl) fwX7_28 pC_67 rC_67_5 ?_
      refine b_iload_n (pc := 16) (i := 1) (dd dtX7_kindAt 8 rfl) rfl rfl ?_
      refine b_iald (pc := 17) (dd dtX7_kindAt 9 rfl) pC_71 (vpn rfl (show t < 160 by omega) (by decide)) ?_
      refine b_goto (pc := 18) (tgt := 22) (dd dtX7_kindAt 10 rfl) (by decide) ?_
      refine b_eq (b_iret (dd dtX7_kindAt 12 rfl) rfl) ?_ ?_
      · first | rw [nI_clamp ht] | rfl
      · rfl
def tX7_placeAt : List (Nat × Instr × Nat) := [(0, .iload_n 1, 1), (1, .ifCond .lt 20, 3), (4, .iload_n 1, 1), (5, .aload_n 0, 1), (6, .getfield 15, 3), (9, .if_icmp .ge 12, 3), (12, .aload_n 0, 1), (13, .getfield 22, 3), (16, .iload_n 1, 1), (17, .iaload, 1), (18, .goto 7, 3), (21, .aload_n 0, 1), (22, .getfield 9, 3), (25, .ireturn, 1)]
theorem dtX7_placeAt : dec_ok mX7_placeAt.2.1 tX7_placeAt = true := by decide +kernel
set_option maxHeartbeats 4000000 in
theorem c_X7_placeAt {I : Wd} {T t : Nat} {x : Int32} (hx : x = nI t) (ht : t < 2 ^ 31) (hT : I 67 1 = nI T) (hT2 : T ≤ 160) : Cal SyC mX7_placeAt 0 [.ref 67, .int x] I (some (.int (if t < T then I 69 t else I 67 0))) I := by
  refine Cal.of (by decide) (Nat.le_of_ble_eq_true rfl) ?_
  show Bd _ _ _ _ [(0, _), (1, _)] _ _ _ _
  subst hx
  refine b_iload_n (pc := 0) (i := 1) (dd dtX7_placeAt 0 rfl) rfl rfl ?_
  refine b_if_lt (pc := 1) (tgt := 21) (dd dtX7_placeAt 1 rfl) (by decide) (fun h1 => ?_) (fun h1 => ?_)
  · exact absurd h1 (nI_pos ht)
  · refine b_iload_n (pc := 4) (i := 1) (dd dtX7_placeAt 2 rfl) rfl rfl ?_
    refine b_aload_n (pc := 5) (i := 0) (dd dtX7_placeAt 3 rfl) rfl rfl ?_
    refine b_geti (pc := 6) (dd dtX7_placeAt 4 rfl) fwX7_15 pC_67 ?_
    refine b_icmpL_ge (pc := 9) (tgt := 21) (dd dtX7_placeAt 5 rfl) (by decide) (fun h9 => ?_) (fun h9 => ?_)
    · rw [hT] at h9
      have hlt := ge_n h9 (by omega)
      rw [if_neg (by omega)]
      refine b_aload_n (pc := 21) (i := 0) (dd dtX7_placeAt 11 rfl) rfl rfl ?_
      refine b_geti (pc := 22) (dd dtX7_placeAt 12 rfl) fwX7_9 pC_67 ?_
      refine b_eq (b_iret (dd dtX7_placeAt 13 rfl) rfl) ?_ ?_
      · first | rw [nI_clamp ht] | rfl
      · rfl
    · rw [hT] at h9
      have hlt := lt_n h9 ht (by omega)
      rw [if_pos hlt]
      refine b_aload_n (pc := 12) (i := 0) (dd dtX7_placeAt 6 rfl) rfl rfl ?_
      refine b_geta (pc := 13) (dd dtX7_placeAt 7 rfl) fwX7_22 pC_67 rC_67_3 ?_
      refine b_iload_n (pc := 16) (i := 1) (dd dtX7_placeAt 8 rfl) rfl rfl ?_
      refine b_iald (pc := 17) (dd dtX7_placeAt 9 rfl) pC_69 (vpn rfl (show t < 160 by omega) (by decide)) ?_
      refine b_goto (pc := 18) (tgt := 25) (dd dtX7_placeAt 10 rfl) (by decide) ?_
      refine b_eq (b_iret (dd dtX7_placeAt 13 rfl) rfl) ?_ ?_
      · first | rw [nI_clamp ht] | rfl
      · rfl
def tX7_numberAt : List (Nat × Instr × Nat) := [(0, .iload_n 1, 1), (1, .ifCond .lt 20, 3), (4, .iload_n 1, 1), (5, .aload_n 0, 1), (6, .getfield 15, 3), (9, .if_icmp .ge 12, 3), (12, .aload_n 0, 1), (13, .getfield 31, 3), (16, .iload_n 1, 1), (17, .iaload, 1), (18, .goto 4, 3), (21, .iconst 0, 1), (22, .ireturn, 1)]
theorem dtX7_numberAt : dec_ok mX7_numberAt.2.1 tX7_numberAt = true := by decide +kernel
set_option maxHeartbeats 4000000 in
theorem c_X7_numberAt {I : Wd} {T t : Nat} {x : Int32} (hx : x = nI t) (ht : t < 2 ^ 31) (hT : I 67 1 = nI T) (hT2 : T ≤ 160) : Cal SyC mX7_numberAt 0 [.ref 67, .int x] I (some (.int (if t < T then I 72 t else 0))) I := by
  refine Cal.of (by decide) (Nat.le_of_ble_eq_true rfl) ?_
  show Bd _ _ _ _ [(0, _), (1, _)] _ _ _ _
  subst hx
  refine b_iload_n (pc := 0) (i := 1) (dd dtX7_numberAt 0 rfl) rfl rfl ?_
  refine b_if_lt (pc := 1) (tgt := 21) (dd dtX7_numberAt 1 rfl) (by decide) (fun h1 => ?_) (fun h1 => ?_)
  · exact absurd h1 (nI_pos ht)
  · refine b_iload_n (pc := 4) (i := 1) (dd dtX7_numberAt 2 rfl) rfl rfl ?_
    refine b_aload_n (pc := 5) (i := 0) (dd dtX7_numberAt 3 rfl) rfl rfl ?_
    refine b_geti (pc := 6) (dd dtX7_numberAt 4 rfl) fwX7_15 pC_67 ?_
    refine b_icmpL_ge (pc := 9) (tgt := 21) (dd dtX7_numberAt 5 rfl) (by decide) (fun h9 => ?_) (fun h9 => ?_)
    · rw [hT] at h9
      have hlt := ge_n h9 (by omega)
      rw [if_neg (by omega)]
      refine b_ic0 (pc := 21) (dd dtX7_numberAt 11 rfl) ?_
      refine b_eq (b_iret (dd dtX7_numberAt 12 rfl) rfl) ?_ ?_
      · first | rw [nI_clamp ht] | rfl
      · rfl
    · rw [hT] at h9
      have hlt := lt_n h9 ht (by omega)
      rw [if_pos hlt]
      refine b_aload_n (pc := 12) (i := 0) (dd dtX7_numberAt 6 rfl) rfl rfl ?_
      refine b_geta (pc := 13) (dd dtX7_numberAt 7 rfl) fwX7_31 pC_67 rC_67_6 ?_
      refine b_iload_n (pc := 16) (i := 1) (dd dtX7_numberAt 8 rfl) rfl rfl ?_
      refine b_iald (pc := 17) (dd dtX7_numberAt 9 rfl) pC_72 (vpn rfl (show t < 160 by omega) (by decide)) ?_
      refine b_goto (pc := 18) (tgt := 22) (dd dtX7_numberAt 10 rfl) (by decide) ?_
      refine b_eq (b_iret (dd dtX7_numberAt 12 rfl) rfl) ?_ ?_
      · first | rw [nI_clamp ht] | rfl
      · rfl
def tX8_add : List (Nat × Instr × Nat) := [(0, .aload_n 0, 1), (1, .getfield 9, 3), (4, .sipush 160, 3), (7, .if_icmp .ge 23, 3), (10, .aload_n 0, 1), (11, .getfield 15, 3), (14, .aload_n 0, 1), (15, .getfield 9, 3), (18, .iload_n 1, 1), (19, .iastore, 1), (20, .aload_n 0, 1), (21, .dup, 1), (22, .getfield 9, 3), (25, .iconst 1, 1), (26, .iadd, 1), (27, .putfield 9, 3), (30, .return_, 1)]
theorem dtX8_add : dec_ok mX8_add.2.1 tX8_add = true := by decide +kernel
set_option maxHeartbeats 4000000 in
theorem c_X8_add {I : Wd} {s : Nat} {v : Int32} (hs : I 74 0 = nI s) (hs2 : s ≤ 160) : Cal SyC mX8_add 0 [.ref 74, .int v] I none (if s < 160 then ist (ist I 75 s v) 74 0 (nI (s + 1)) else I) := by
  refine Cal.of (by decide) (Nat.le_of_ble_eq_true rfl) ?_
  show Bd _ _ _ _ [(0, _), (1, _)] _ _ _ _
  refine b_aload_n (pc := 0) (i := 0) (dd dtX8_add 0 rfl) rfl rfl ?_
  refine b_geti (pc := 1) (dd dtX8_add 1 rfl) fwX8_9 pC_74 ?_
  refine b_sipush (pc := 4) (v := 160) (dd dtX8_add 2 rfl) (by decide) ?_
  refine b_icmpL_ge (pc := 7) (tgt := 30) (dd dtX8_add 3 rfl) (by decide) (fun h7 => ?_) (fun h7 => ?_)
  · first
    | (rw [hs] at h7; rw [if_neg (by have := ge_n (N := 160) h7 (by decide); omega)])
    | skip
    refine b_eq (b_vret (dd dtX8_add 16 rfl) rfl) ?_ ?_
    · rfl
    · first | rfl | (rw [nI_clamp (show s < 2 ^ 31 by omega)]; simp only [ist_ne (show (74 : Nat) ≠ 75 by decide), hs, nI_1])
  · rw [hs] at h7
    have hlt := lt_n h7 (by omega) (by decide)
    rw [if_pos hlt]
    refine b_aload_n (pc := 10) (i := 0) (dd dtX8_add 4 rfl) rfl rfl ?_
    refine b_geta (pc := 11) (dd dtX8_add 5 rfl) fwX8_15 pC_74 rC_74_1 ?_
    refine b_aload_n (pc := 14) (i := 0) (dd dtX8_add 6 rfl) rfl rfl ?_
    refine b_geti (pc := 15) (dd dtX8_add 7 rfl) fwX8_9 pC_74 ?_
    refine b_iload_n (pc := 18) (i := 1) (dd dtX8_add 8 rfl) rfl rfl ?_
    rw [hs]
    refine b_iast (pc := 19) (dd dtX8_add 9 rfl) pC_75 (vpn rfl hlt (by decide)) ?_
    refine b_aload_n (pc := 20) (i := 0) (dd dtX8_add 10 rfl) rfl rfl ?_
    refine b_dup (pc := 21) (dd dtX8_add 11 rfl) rfl ?_
    refine b_geti (pc := 22) (dd dtX8_add 12 rfl) fwX8_9 pC_74 ?_
    refine b_ic1 (pc := 25) (dd dtX8_add 13 rfl) ?_
    refine b_iadd (pc := 26) (dd dtX8_add 14 rfl) ?_
    refine b_puti (pc := 27) (dd dtX8_add 15 rfl) fwX8_9 pC_74 ?_
    first
    | (rw [hs] at h7; rw [if_neg (by have := ge_n (N := 160) h7 (by decide); omega)])
    | skip
    refine b_eq (b_vret (dd dtX8_add 16 rfl) rfl) ?_ ?_
    · rfl
    · first | rfl | (rw [nI_clamp (show s < 2 ^ 31 by omega)]; simp only [ist_ne (show (74 : Nat) ≠ 75 by decide), hs, nI_1])
