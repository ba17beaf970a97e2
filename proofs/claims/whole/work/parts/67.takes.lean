/-! takesE, where none is wanted, and whole -/
set_option maxHeartbeats 4000000 in
theorem p_jo_s {J0 : Wd} {ba n : Nat} {b mb kd nm pl : Nat → Int32} {T : Nat} (hM : MB J0 ba n mb) (hBR : ∀ i, i < n → BRel (b i) (mb i)) (hT : TokOK b n kd nm pl T) (hT6 : T ≤ 160) {J : Wd} {t f : Nat} {ws ps : List Int32} {o : Nat} {mn : Bool} (ih : ∀ (t : Nat) (ws ps : List Int32) (o : Nat) (wants mn : Bool) (x2 x1 : Int32) (J : Wd), t + f = T + 1 → x2 = b2 mn → x1 = b2 wants → MX b n kd nm pl T J0 J t ws ps o → ws.length ≤ t → ps.length ≤ t → o ≤ 5 → WE wants ws ps o → BdQ SyM mX11_takesE 5 19 [(2, .int x2), (1, .int x1), (0, .ref 0)] [] J (fun r J' => r = some (.int (b2 (mE kd nm (J0 38) T f t ws ps o wants mn).1)) ∧ Fr6 J0 J' ∧ MTk b n kd nm pl T J' (mE kd nm (J0 38) T f t ws ps o wants mn).2.1 ∧ Stk (J' 37) (mE kd nm (J0 38) T f t ws ps o wants mn).2.2)) (htf : t + (f + 1) = T + 1) (hX : MX b n kd nm pl T J0 J t ws ps o) (hwl : ws.length ≤ t) (hpl2 : ps.length ≤ t) (ho5 : o ≤ 5) {x1 : Int32} (hwt : x1 = b2 false) (hWE : WE false ws ps o) {w : Int32} (hw : jt (kdA kd T t) = w) (h0 : ¬ w = 0) (hwv : w = 42 ∨ w = 43 ∨ w = 45 ∨ w = 60 ∨ w = 61 ∨ w = 38 ∨ w = 124) (htT : t < T) (hs : ((w = 60 ∨ w = 61) ∧ topR (msettle (jrF w) ws ps o).1 = 4)) : BdQ SyM mX11_takesE 5 19 [(2, .int (b2 mn)), (1, .int x1), (0, .ref 0)] [] J (fun r J' => r = some (.int (b2 (mE kd nm (J0 38) T (f + 1) t ws ps o false mn).1)) ∧ Fr6 J0 J' ∧ MTk b n kd nm pl T J' (mE kd nm (J0 38) T (f + 1) t ws ps o false mn).2.1 ∧ Stk (J' 37) (mE kd nm (J0 38) T (f + 1) t ws ps o false mn).2.2) := by
  refine BdQ.l (fun _ _ k => b_iload_n (pc := 19) (i := 1) (dd dtX11_takesE 13 rfl) rfl rfl k) ?_
  refine BdQ.b (fun _ _ k1 k2 => b_if_eq (pc := 20) (tgt := 109) (dd dtX11_takesE 14 rfl) (by decide) k1 k2) (fun h20 => ?_) (fun h20 => ?_)
  · refine BdQ.l (fun _ _ k => b_iload_n (pc := 109) (i := 1) (dd dtX11_takesE 57 rfl) rfl rfl k) ?_
    refine BdQ.b (fun _ _ k1 k2 => b_if_eq (pc := 110) (tgt := 165) (dd dtX11_takesE 58 rfl) (by decide) k1 k2) (fun h110 => ?_) (fun h110 => ?_)
    · refine BdQ.l (fun _ _ k => b_iload_n (pc := 165) (i := 1) (dd dtX11_takesE 86 rfl) rfl rfl k) ?_
      refine BdQ.b (fun _ _ k1 k2 => b_if_eq (pc := 166) (tgt := 171) (dd dtX11_takesE 87 rfl) (by decide) k1 k2) (fun h166 => ?_) (fun h166 => ?_)
      · refine BdQ.l (fun _ _ k => b_aload_n (pc := 171) (i := 0) (dd dtX11_takesE 90 rfl) rfl rfl k) ?_
        refine BdQ.l (fun _ _ k => b_invV (pc := 172) (dd dtX11_takesE 91 rfl) mlX11_372 mvX11_joint miX11_joint (c_X11_joint) oM_0 rfl rfl (by decide) (Nat.le_of_ble_eq_true rfl) k) ?_
        rw [jnt_eq hX.2.1.tr, hw]
        refine BdQ.c (fun _ _ k1 k2 => b_ifL_le (pc := 175) (tgt := 216) (dd dtX11_takesE 92 rfl) (by decide) k1 k2) (fun h175 => ?_) (fun h175 => ?_)
        · exact absurd (jr_pos hwv).2 h175
        · refine BdQ.l (fun _ _ k => b_aload_n (pc := 178) (i := 0) (dd dtX11_takesE 93 rfl) rfl rfl k) ?_
          refine BdQ.l (fun _ _ k => b_invV (pc := 179) (dd dtX11_takesE 94 rfl) mlX11_372 mvX11_joint miX11_joint (c_X11_joint) oM_0 rfl rfl (by decide) (Nat.le_of_ble_eq_true rfl) k) ?_
          rw [jnt_eq hX.2.1.tr, hw]
          refine BdQ.l (fun _ _ k => b_istore_n (pc := 182) (i := 3) (lv' := [(3, _), (2, _), (1, _), (0, _)]) (dd dtX11_takesE 95 rfl) rfl (Nat.le_of_ble_eq_true rfl) rfl k) ?_
          refine BdQ.l (fun _ _ k => b_aload_n (pc := 183) (i := 0) (dd dtX11_takesE 96 rfl) rfl rfl k) ?_
          refine BdQ.l (fun _ _ k => b_iload_n (pc := 184) (i := 3) (dd dtX11_takesE 97 rfl) rfl rfl k) ?_
          obtain ⟨_, I185, ⟨rfl, R185⟩, k185⟩ := CalQ.to (q_joins (w := w) hM hBR hT hX htT (jr_pos hwv).1 (by omega) (by omega) hWE.f) (fun r J' h => h.1 hs)
          refine BdQ.l (fun _ _ k => b_invV (pc := 185) (dd dtX11_takesE 98 rfl) mlX11_376 mvX11_joins miX11_joins (k185) oM_0 rfl rfl (by decide) (Nat.le_of_ble_eq_true rfl) k) ?_
          refine BdQ.c (fun _ _ k1 k2 => b_if_ne (pc := 188) (tgt := 193) (dd dtX11_takesE 99 rfl) (by decide) k1 k2) (fun h188 => ?_) (fun h188 => ?_)
          · exact absurd rfl h188
          · refine BdQ.l (fun _ _ k => b_ic0 (pc := 191) (dd dtX11_takesE 100 rfl) k) ?_
            refine ⟨_, _, ?_, b_zret (dd dtX11_takesE 101 rfl) rfl (by decide)⟩
            rw [mE_js hw h0 hs]
            exact ⟨rfl, R185.1, R185.2.1, R185.2.2.2.2.2.1⟩
      · exact absurd (show x1 = 0 from hwt) h166
    · exact absurd (show x1 = 0 from hwt) h110
  · exact absurd (show x1 = 0 from hwt) h20
set_option maxHeartbeats 4000000 in
theorem p_jo_o {J0 : Wd} {ba n : Nat} {b mb kd nm pl : Nat → Int32} {T : Nat} (hM : MB J0 ba n mb) (hBR : ∀ i, i < n → BRel (b i) (mb i)) (hT : TokOK b n kd nm pl T) (hT6 : T ≤ 160) {J : Wd} {t f : Nat} {ws ps : List Int32} {o : Nat} {mn : Bool} (ih : ∀ (t : Nat) (ws ps : List Int32) (o : Nat) (wants mn : Bool) (x2 x1 : Int32) (J : Wd), t + f = T + 1 → x2 = b2 mn → x1 = b2 wants → MX b n kd nm pl T J0 J t ws ps o → ws.length ≤ t → ps.length ≤ t → o ≤ 5 → WE wants ws ps o → BdQ SyM mX11_takesE 5 19 [(2, .int x2), (1, .int x1), (0, .ref 0)] [] J (fun r J' => r = some (.int (b2 (mE kd nm (J0 38) T f t ws ps o wants mn).1)) ∧ Fr6 J0 J' ∧ MTk b n kd nm pl T J' (mE kd nm (J0 38) T f t ws ps o wants mn).2.1 ∧ Stk (J' 37) (mE kd nm (J0 38) T f t ws ps o wants mn).2.2)) (htf : t + (f + 1) = T + 1) (hX : MX b n kd nm pl T J0 J t ws ps o) (hwl : ws.length ≤ t) (hpl2 : ps.length ≤ t) (ho5 : o ≤ 5) {x1 : Int32} (hwt : x1 = b2 false) (hWE : WE false ws ps o) {w : Int32} (hw : jt (kdA kd T t) = w) (h0 : ¬ w = 0) (hwv : w = 42 ∨ w = 43 ∨ w = 45 ∨ w = 60 ∨ w = 61 ∨ w = 38 ∨ w = 124) (htT : t < T) (hs : ¬ ((w = 60 ∨ w = 61) ∧ topR (msettle (jrF w) ws ps o).1 = 4)) : BdQ SyM mX11_takesE 5 19 [(2, .int (b2 mn)), (1, .int x1), (0, .ref 0)] [] J (fun r J' => r = some (.int (b2 (mE kd nm (J0 38) T (f + 1) t ws ps o false mn).1)) ∧ Fr6 J0 J' ∧ MTk b n kd nm pl T J' (mE kd nm (J0 38) T (f + 1) t ws ps o false mn).2.1 ∧ Stk (J' 37) (mE kd nm (J0 38) T (f + 1) t ws ps o false mn).2.2) := by
  refine BdQ.l (fun _ _ k => b_iload_n (pc := 19) (i := 1) (dd dtX11_takesE 13 rfl) rfl rfl k) ?_
  refine BdQ.b (fun _ _ k1 k2 => b_if_eq (pc := 20) (tgt := 109) (dd dtX11_takesE 14 rfl) (by decide) k1 k2) (fun h20 => ?_) (fun h20 => ?_)
  · refine BdQ.l (fun _ _ k => b_iload_n (pc := 109) (i := 1) (dd dtX11_takesE 57 rfl) rfl rfl k) ?_
    refine BdQ.b (fun _ _ k1 k2 => b_if_eq (pc := 110) (tgt := 165) (dd dtX11_takesE 58 rfl) (by decide) k1 k2) (fun h110 => ?_) (fun h110 => ?_)
    · refine BdQ.l (fun _ _ k => b_iload_n (pc := 165) (i := 1) (dd dtX11_takesE 86 rfl) rfl rfl k) ?_
      refine BdQ.b (fun _ _ k1 k2 => b_if_eq (pc := 166) (tgt := 171) (dd dtX11_takesE 87 rfl) (by decide) k1 k2) (fun h166 => ?_) (fun h166 => ?_)
      · refine BdQ.l (fun _ _ k => b_aload_n (pc := 171) (i := 0) (dd dtX11_takesE 90 rfl) rfl rfl k) ?_
        refine BdQ.l (fun _ _ k => b_invV (pc := 172) (dd dtX11_takesE 91 rfl) mlX11_372 mvX11_joint miX11_joint (c_X11_joint) oM_0 rfl rfl (by decide) (Nat.le_of_ble_eq_true rfl) k) ?_
        rw [jnt_eq hX.2.1.tr, hw]
        refine BdQ.c (fun _ _ k1 k2 => b_ifL_le (pc := 175) (tgt := 216) (dd dtX11_takesE 92 rfl) (by decide) k1 k2) (fun h175 => ?_) (fun h175 => ?_)
        · exact absurd (jr_pos hwv).2 h175
        · refine BdQ.l (fun _ _ k => b_aload_n (pc := 178) (i := 0) (dd dtX11_takesE 93 rfl) rfl rfl k) ?_
          refine BdQ.l (fun _ _ k => b_invV (pc := 179) (dd dtX11_takesE 94 rfl) mlX11_372 mvX11_joint miX11_joint (c_X11_joint) oM_0 rfl rfl (by decide) (Nat.le_of_ble_eq_true rfl) k) ?_
          rw [jnt_eq hX.2.1.tr, hw]
          refine BdQ.l (fun _ _ k => b_istore_n (pc := 182) (i := 3) (lv' := [(3, _), (2, _), (1, _), (0, _)]) (dd dtX11_takesE 95 rfl) rfl (Nat.le_of_ble_eq_true rfl) rfl k) ?_
          refine BdQ.l (fun _ _ k => b_aload_n (pc := 183) (i := 0) (dd dtX11_takesE 96 rfl) rfl rfl k) ?_
          refine BdQ.l (fun _ _ k => b_iload_n (pc := 184) (i := 3) (dd dtX11_takesE 97 rfl) rfl rfl k) ?_
          obtain ⟨_, I185, ⟨rfl, R185⟩, k185⟩ := CalQ.to (q_joins (w := w) hM hBR hT hX htT (jr_pos hwv).1 (by omega) (by omega) hWE.f) (fun r J' h => h.2 hs)
          refine BdQ.l (fun _ _ k => b_invV (pc := 185) (dd dtX11_takesE 98 rfl) mlX11_376 mvX11_joins miX11_joins (k185) oM_0 rfl rfl (by decide) (Nat.le_of_ble_eq_true rfl) k) ?_
          refine BdQ.c (fun _ _ k1 k2 => b_if_ne (pc := 188) (tgt := 193) (dd dtX11_takesE 99 rfl) (by decide) k1 k2) (fun h188 => ?_) (fun h188 => ?_)
          · refine BdQ.l (fun _ _ k => b_ic1 (pc := 193) (dd dtX11_takesE 102 rfl) k) ?_
            refine BdQ.l (fun _ _ k => b_istore_n (pc := 194) (i := 1) (lv' := [(1, _), (3, _), (2, _), (0, _)]) (dd dtX11_takesE 103 rfl) rfl (Nat.le_of_ble_eq_true rfl) rfl k) ?_
            refine BdQ.l (fun _ _ k => b_iload_n (pc := 195) (i := 3) (dd dtX11_takesE 104 rfl) rfl rfl k) ?_
            refine BdQ.l (fun _ _ k => b_bipush (pc := 196) (v := 38) (dd dtX11_takesE 105 rfl) (by decide) k) ?_
            refine BdQ.b (fun _ _ k1 k2 => b_icmp_eq (pc := 198) (tgt := 207) (dd dtX11_takesE 106 rfl) (by decide) k1 k2) (fun h198 => ?_) (fun h198 => ?_)
            · refine BdQ.l (fun _ _ k => b_ic1 (pc := 207) (dd dtX11_takesE 110 rfl) k) ?_
              refine BdQ.l (fun _ _ k => b_goto (pc := 208) (tgt := 212) (dd dtX11_takesE 111 rfl) (by decide) k) ?_
              refine BdQ.l (fun _ _ k => b_istore_n (pc := 212) (i := 2) (lv' := [(2, _), (1, _), (3, _), (0, _)]) (dd dtX11_takesE 113 rfl) rfl (Nat.le_of_ble_eq_true rfl) rfl k) ?_
              refine BdQ.l (fun _ _ k => b_goto (pc := 213) (tgt := 19) (dd dtX11_takesE 114 rfl) (by decide) k) ?_
              refine BdQ.l (fun _ _ k => b_pick [0, 1, 3] (lv' := [(2, _), (1, _), (0, _)]) rfl k) ?_
              rw [mE_jo hw h0 hs]
              have hms := ms_wf (jr_pos hwv).1 ws ps o hWE.f
              have hlen : (w :: (msettle (jrF w) ws ps o).1).length = (msettle (jrF w) ws ps o).1.length + 1 := rfl
              refine ih (t + 1) _ _ _ true (decide (w = 38 ∨ w = 124)) _ _ I185 (by omega) ?_ rfl R185 (by omega) (by omega) (by omega) (WE.jo hms.1 hwv)
              first
              | (have hz : w = 38 ∨ w = 124 := Or.inl h198
                 rw [decide_eq_true hz]; rfl)
              | (have hz : w = 38 ∨ w = 124 := Or.inr h204
                 rw [decide_eq_true hz]; rfl)
              | (have hz : ¬ (w = 38 ∨ w = 124) := fun q => q.elim h198 h204
                 rw [decide_eq_false hz]; rfl)
            · refine BdQ.l (fun _ _ k => b_iload_n (pc := 201) (i := 3) (dd dtX11_takesE 107 rfl) rfl rfl k) ?_
              refine BdQ.l (fun _ _ k => b_bipush (pc := 202) (v := 124) (dd dtX11_takesE 108 rfl) (by decide) k) ?_
              refine BdQ.c (fun _ _ k1 k2 => b_icmp_ne (pc := 204) (tgt := 211) (dd dtX11_takesE 109 rfl) (by decide) k1 k2) (fun h204 => ?_) (fun h204 => ?_)
              · refine BdQ.l (fun _ _ k => b_ic0 (pc := 211) (dd dtX11_takesE 112 rfl) k) ?_
                refine BdQ.l (fun _ _ k => b_istore_n (pc := 212) (i := 2) (lv' := [(2, _), (1, _), (3, _), (0, _)]) (dd dtX11_takesE 113 rfl) rfl (Nat.le_of_ble_eq_true rfl) rfl k) ?_
                refine BdQ.l (fun _ _ k => b_goto (pc := 213) (tgt := 19) (dd dtX11_takesE 114 rfl) (by decide) k) ?_
                refine BdQ.l (fun _ _ k => b_pick [0, 1, 3] (lv' := [(2, _), (1, _), (0, _)]) rfl k) ?_
                rw [mE_jo hw h0 hs]
                have hms := ms_wf (jr_pos hwv).1 ws ps o hWE.f
                have hlen : (w :: (msettle (jrF w) ws ps o).1).length = (msettle (jrF w) ws ps o).1.length + 1 := rfl
                refine ih (t + 1) _ _ _ true (decide (w = 38 ∨ w = 124)) _ _ I185 (by omega) ?_ rfl R185 (by omega) (by omega) (by omega) (WE.jo hms.1 hwv)
                first
                | (have hz : w = 38 ∨ w = 124 := Or.inl h198
                   rw [decide_eq_true hz]; rfl)
                | (have hz : w = 38 ∨ w = 124 := Or.inr h204
                   rw [decide_eq_true hz]; rfl)
                | (have hz : ¬ (w = 38 ∨ w = 124) := fun q => q.elim h198 h204
                   rw [decide_eq_false hz]; rfl)
              · refine BdQ.l (fun _ _ k => b_ic1 (pc := 207) (dd dtX11_takesE 110 rfl) k) ?_
                refine BdQ.l (fun _ _ k => b_goto (pc := 208) (tgt := 212) (dd dtX11_takesE 111 rfl) (by decide) k) ?_
                refine BdQ.l (fun _ _ k => b_istore_n (pc := 212) (i := 2) (lv' := [(2, _), (1, _), (3, _), (0, _)]) (dd dtX11_takesE 113 rfl) rfl (Nat.le_of_ble_eq_true rfl) rfl k) ?_
                refine BdQ.l (fun _ _ k => b_goto (pc := 213) (tgt := 19) (dd dtX11_takesE 114 rfl) (by decide) k) ?_
                refine BdQ.l (fun _ _ k => b_pick [0, 1, 3] (lv' := [(2, _), (1, _), (0, _)]) rfl k) ?_
                rw [mE_jo hw h0 hs]
                have hms := ms_wf (jr_pos hwv).1 ws ps o hWE.f
                have hlen : (w :: (msettle (jrF w) ws ps o).1).length = (msettle (jrF w) ws ps o).1.length + 1 := rfl
                refine ih (t + 1) _ _ _ true (decide (w = 38 ∨ w = 124)) _ _ I185 (by omega) ?_ rfl R185 (by omega) (by omega) (by omega) (WE.jo hms.1 hwv)
                first
                | (have hz : w = 38 ∨ w = 124 := Or.inl h198
                   rw [decide_eq_true hz]; rfl)
                | (have hz : w = 38 ∨ w = 124 := Or.inr h204
                   rw [decide_eq_true hz]; rfl)
                | (have hz : ¬ (w = 38 ∨ w = 124) := fun q => q.elim h198 h204
                   rw [decide_eq_false hz]; rfl)
          · exact absurd h188 (by decide)
      · exact absurd (show x1 = 0 from hwt) h166
    · exact absurd (show x1 = 0 from hwt) h110
  · exact absurd (show x1 = 0 from hwt) h20
set_option maxHeartbeats 4000000 in
theorem p_end {J0 : Wd} {ba n : Nat} {b mb kd nm pl : Nat → Int32} {T : Nat} (hM : MB J0 ba n mb) (hBR : ∀ i, i < n → BRel (b i) (mb i)) (hT : TokOK b n kd nm pl T) (hT6 : T ≤ 160) {J : Wd} {t f : Nat} {ws ps : List Int32} {o : Nat} {mn : Bool} (ih : ∀ (t : Nat) (ws ps : List Int32) (o : Nat) (wants mn : Bool) (x2 x1 : Int32) (J : Wd), t + f = T + 1 → x2 = b2 mn → x1 = b2 wants → MX b n kd nm pl T J0 J t ws ps o → ws.length ≤ t → ps.length ≤ t → o ≤ 5 → WE wants ws ps o → BdQ SyM mX11_takesE 5 19 [(2, .int x2), (1, .int x1), (0, .ref 0)] [] J (fun r J' => r = some (.int (b2 (mE kd nm (J0 38) T f t ws ps o wants mn).1)) ∧ Fr6 J0 J' ∧ MTk b n kd nm pl T J' (mE kd nm (J0 38) T f t ws ps o wants mn).2.1 ∧ Stk (J' 37) (mE kd nm (J0 38) T f t ws ps o wants mn).2.2)) (htf : t + (f + 1) = T + 1) (hX : MX b n kd nm pl T J0 J t ws ps o) (hwl : ws.length ≤ t) (hpl2 : ps.length ≤ t) (ho5 : o ≤ 5) {x1 : Int32} (hwt : x1 = b2 false) (hWE : WE false ws ps o) (h0 : jt (kdA kd T t) = 0) {ps' : List Int32} {o' : Nat} (hS : msettle 1 ws ps o = ([], ps', o')) : BdQ SyM mX11_takesE 5 19 [(2, .int (b2 mn)), (1, .int x1), (0, .ref 0)] [] J (fun r J' => r = some (.int (b2 (mE kd nm (J0 38) T (f + 1) t ws ps o false mn).1)) ∧ Fr6 J0 J' ∧ MTk b n kd nm pl T J' (mE kd nm (J0 38) T (f + 1) t ws ps o false mn).2.1 ∧ Stk (J' 37) (mE kd nm (J0 38) T (f + 1) t ws ps o false mn).2.2) := by
  refine BdQ.l (fun _ _ k => b_iload_n (pc := 19) (i := 1) (dd dtX11_takesE 13 rfl) rfl rfl k) ?_
  refine BdQ.b (fun _ _ k1 k2 => b_if_eq (pc := 20) (tgt := 109) (dd dtX11_takesE 14 rfl) (by decide) k1 k2) (fun h20 => ?_) (fun h20 => ?_)
  · refine BdQ.l (fun _ _ k => b_iload_n (pc := 109) (i := 1) (dd dtX11_takesE 57 rfl) rfl rfl k) ?_
    refine BdQ.b (fun _ _ k1 k2 => b_if_eq (pc := 110) (tgt := 165) (dd dtX11_takesE 58 rfl) (by decide) k1 k2) (fun h110 => ?_) (fun h110 => ?_)
    · refine BdQ.l (fun _ _ k => b_iload_n (pc := 165) (i := 1) (dd dtX11_takesE 86 rfl) rfl rfl k) ?_
      refine BdQ.b (fun _ _ k1 k2 => b_if_eq (pc := 166) (tgt := 171) (dd dtX11_takesE 87 rfl) (by decide) k1 k2) (fun h166 => ?_) (fun h166 => ?_)
      · refine BdQ.l (fun _ _ k => b_aload_n (pc := 171) (i := 0) (dd dtX11_takesE 90 rfl) rfl rfl k) ?_
        refine BdQ.l (fun _ _ k => b_invV (pc := 172) (dd dtX11_takesE 91 rfl) mlX11_372 mvX11_joint miX11_joint (c_X11_joint) oM_0 rfl rfl (by decide) (Nat.le_of_ble_eq_true rfl) k) ?_
        rw [jnt_eq hX.2.1.tr, h0]
        refine BdQ.c (fun _ _ k1 k2 => b_ifL_le (pc := 175) (tgt := 216) (dd dtX11_takesE 92 rfl) (by decide) k1 k2) (fun h175 => ?_) (fun h175 => ?_)
        · refine BdQ.l (fun _ _ k => b_aload_n (pc := 216) (i := 0) (dd dtX11_takesE 115 rfl) rfl rfl k) ?_
          refine BdQ.l (fun _ _ k => b_ic1 (pc := 217) (dd dtX11_takesE 116 rfl) k) ?_
          obtain ⟨_, I218, ⟨rfl, F218, R218⟩, k218⟩ := q_settle (k := 1) (by decide) hWE.f hX.2.2 (by omega) (by omega)
          rw [hS] at R218
          have hX2 : MX b n kd nm pl T J0 I218 t [] ps' o' := ⟨hX.1.t5 F218, hX.2.1.e (fun j j1 j2 => F218.2 j (by omega)), R218⟩
          obtain ⟨r1, r2, r3, r4, r5⟩ := R218
          refine BdQ.l (fun _ _ k => b_invV (pc := 218) (dd dtX11_takesE 117 rfl) mlX11_360 mvX11_settle miX11_settle (k218) oM_0 rfl rfl (by decide) (Nat.le_of_ble_eq_true rfl) k) ?_
          refine BdQ.l (fun _ _ k => b_aload_n (pc := 221) (i := 0) (dd dtX11_takesE 118 rfl) rfl rfl k) ?_
          refine BdQ.l (fun _ _ k => b_geti (pc := 222) (dd dtX11_takesE 119 rfl) fwX11_194 pM_0 k) ?_
          rw [show I218 0 59 = 0 from r1]
          refine BdQ.c (fun _ _ k1 k2 => b_if_ne (pc := 225) (tgt := 230) (dd dtX11_takesE 120 rfl) (by decide) k1 k2) (fun h225 => ?_) (fun h225 => ?_)
          · exact absurd rfl h225
          · refine BdQ.l (fun _ _ k => b_ic1 (pc := 228) (dd dtX11_takesE 121 rfl) k) ?_
            refine ⟨_, _, ?_, b_zret (dd dtX11_takesE 122 rfl) rfl (by decide)⟩
            rw [mE_end h0 hS]
            exact ⟨rfl, hX2.1, hX2.2.1, r4⟩
        · exact absurd h175 (by decide)
      · exact absurd (show x1 = 0 from hwt) h166
    · exact absurd (show x1 = 0 from hwt) h110
  · exact absurd (show x1 = 0 from hwt) h20
set_option maxHeartbeats 4000000 in
theorem p_rn {J0 : Wd} {ba n : Nat} {b mb kd nm pl : Nat → Int32} {T : Nat} (hM : MB J0 ba n mb) (hBR : ∀ i, i < n → BRel (b i) (mb i)) (hT : TokOK b n kd nm pl T) (hT6 : T ≤ 160) {J : Wd} {t f : Nat} {ws ps : List Int32} {o : Nat} {mn : Bool} (ih : ∀ (t : Nat) (ws ps : List Int32) (o : Nat) (wants mn : Bool) (x2 x1 : Int32) (J : Wd), t + f = T + 1 → x2 = b2 mn → x1 = b2 wants → MX b n kd nm pl T J0 J t ws ps o → ws.length ≤ t → ps.length ≤ t → o ≤ 5 → WE wants ws ps o → BdQ SyM mX11_takesE 5 19 [(2, .int x2), (1, .int x1), (0, .ref 0)] [] J (fun r J' => r = some (.int (b2 (mE kd nm (J0 38) T f t ws ps o wants mn).1)) ∧ Fr6 J0 J' ∧ MTk b n kd nm pl T J' (mE kd nm (J0 38) T f t ws ps o wants mn).2.1 ∧ Stk (J' 37) (mE kd nm (J0 38) T f t ws ps o wants mn).2.2)) (htf : t + (f + 1) = T + 1) (hX : MX b n kd nm pl T J0 J t ws ps o) (hwl : ws.length ≤ t) (hpl2 : ps.length ≤ t) (ho5 : o ≤ 5) {x1 : Int32} (hwt : x1 = b2 false) (hWE : WE false ws ps o) (h0 : jt (kdA kd T t) = 0) {w : Int32} {u ps' : List Int32} {o' : Nat} (hS : msettle 1 ws ps o = (w :: u, ps', o')) (h41 : ¬ kdA kd T t = 41) : BdQ SyM mX11_takesE 5 19 [(2, .int (b2 mn)), (1, .int x1), (0, .ref 0)] [] J (fun r J' => r = some (.int (b2 (mE kd nm (J0 38) T (f + 1) t ws ps o false mn).1)) ∧ Fr6 J0 J' ∧ MTk b n kd nm pl T J' (mE kd nm (J0 38) T (f + 1) t ws ps o false mn).2.1 ∧ Stk (J' 37) (mE kd nm (J0 38) T (f + 1) t ws ps o false mn).2.2) := by
  refine BdQ.l (fun _ _ k => b_iload_n (pc := 19) (i := 1) (dd dtX11_takesE 13 rfl) rfl rfl k) ?_
  refine BdQ.b (fun _ _ k1 k2 => b_if_eq (pc := 20) (tgt := 109) (dd dtX11_takesE 14 rfl) (by decide) k1 k2) (fun h20 => ?_) (fun h20 => ?_)
  · refine BdQ.l (fun _ _ k => b_iload_n (pc := 109) (i := 1) (dd dtX11_takesE 57 rfl) rfl rfl k) ?_
    refine BdQ.b (fun _ _ k1 k2 => b_if_eq (pc := 110) (tgt := 165) (dd dtX11_takesE 58 rfl) (by decide) k1 k2) (fun h110 => ?_) (fun h110 => ?_)
    · refine BdQ.l (fun _ _ k => b_iload_n (pc := 165) (i := 1) (dd dtX11_takesE 86 rfl) rfl rfl k) ?_
      refine BdQ.b (fun _ _ k1 k2 => b_if_eq (pc := 166) (tgt := 171) (dd dtX11_takesE 87 rfl) (by decide) k1 k2) (fun h166 => ?_) (fun h166 => ?_)
      · refine BdQ.l (fun _ _ k => b_aload_n (pc := 171) (i := 0) (dd dtX11_takesE 90 rfl) rfl rfl k) ?_
        refine BdQ.l (fun _ _ k => b_invV (pc := 172) (dd dtX11_takesE 91 rfl) mlX11_372 mvX11_joint miX11_joint (c_X11_joint) oM_0 rfl rfl (by decide) (Nat.le_of_ble_eq_true rfl) k) ?_
        rw [jnt_eq hX.2.1.tr, h0]
        refine BdQ.c (fun _ _ k1 k2 => b_ifL_le (pc := 175) (tgt := 216) (dd dtX11_takesE 92 rfl) (by decide) k1 k2) (fun h175 => ?_) (fun h175 => ?_)
        · refine BdQ.l (fun _ _ k => b_aload_n (pc := 216) (i := 0) (dd dtX11_takesE 115 rfl) rfl rfl k) ?_
          refine BdQ.l (fun _ _ k => b_ic1 (pc := 217) (dd dtX11_takesE 116 rfl) k) ?_
          obtain ⟨_, I218, ⟨rfl, F218, R218⟩, k218⟩ := q_settle (k := 1) (by decide) hWE.f hX.2.2 (by omega) (by omega)
          rw [hS] at R218
          have hX2 : MX b n kd nm pl T J0 I218 t (w :: u) ps' o' := ⟨hX.1.t5 F218, hX.2.1.e (fun j j1 j2 => F218.2 j (by omega)), R218⟩
          obtain ⟨r1, r2, r3, r4, r5⟩ := R218
          replace r1 : I218 0 59 = nI (u.length + 1) := r1
          have hms := ms_wf (k := 1) (by decide) ws ps o hWE.f
          rw [hS] at hms
          have hul : u.length + 1 ≤ ws.length := hms.2.1
          refine BdQ.l (fun _ _ k => b_invV (pc := 218) (dd dtX11_takesE 117 rfl) mlX11_360 mvX11_settle miX11_settle (k218) oM_0 rfl rfl (by decide) (Nat.le_of_ble_eq_true rfl) k) ?_
          refine BdQ.l (fun _ _ k => b_aload_n (pc := 221) (i := 0) (dd dtX11_takesE 118 rfl) rfl rfl k) ?_
          refine BdQ.l (fun _ _ k => b_geti (pc := 222) (dd dtX11_takesE 119 rfl) fwX11_194 pM_0 k) ?_
          rw [r1]
          refine BdQ.c (fun _ _ k1 k2 => b_if_ne (pc := 225) (tgt := 230) (dd dtX11_takesE 120 rfl) (by decide) k1 k2) (fun h225 => ?_) (fun h225 => ?_)
          · refine BdQ.l (fun _ _ k => b_aload_n (pc := 230) (i := 0) (dd dtX11_takesE 123 rfl) rfl rfl k) ?_
            refine BdQ.l (fun _ _ k => b_geti (pc := 231) (dd dtX11_takesE 124 rfl) fwX11_176 pM_0 k) ?_
            refine BdQ.l (fun _ _ k => b_bipush (pc := 234) (v := 41) (dd dtX11_takesE 125 rfl) (by decide) k) ?_
            refine BdQ.b (fun _ _ k1 k2 => b_icmp_eq (pc := 236) (tgt := 241) (dd dtX11_takesE 126 rfl) (by decide) k1 k2) (fun h236 => ?_) (fun h236 => ?_)
            · exact absurd ((tk_mk hX2.2.1.tr (by decide)).mp h236) h41
            · refine BdQ.l (fun _ _ k => b_ic0 (pc := 239) (dd dtX11_takesE 127 rfl) k) ?_
              refine ⟨_, _, ?_, b_zret (dd dtX11_takesE 128 rfl) rfl (by decide)⟩
              rw [mE_rn h0 hS h41]
              exact ⟨rfl, hX2.1, hX2.2.1, r4⟩
          · exact absurd h225 (nI_ne0 (by omega) (by omega))
        · exact absurd h175 (by decide)
      · exact absurd (show x1 = 0 from hwt) h166
    · exact absurd (show x1 = 0 from hwt) h110
  · exact absurd (show x1 = 0 from hwt) h20
set_option maxHeartbeats 4000000 in
theorem p_rp {J0 : Wd} {ba n : Nat} {b mb kd nm pl : Nat → Int32} {T : Nat} (hM : MB J0 ba n mb) (hBR : ∀ i, i < n → BRel (b i) (mb i)) (hT : TokOK b n kd nm pl T) (hT6 : T ≤ 160) {J : Wd} {t f : Nat} {ws ps : List Int32} {o : Nat} {mn : Bool} (ih : ∀ (t : Nat) (ws ps : List Int32) (o : Nat) (wants mn : Bool) (x2 x1 : Int32) (J : Wd), t + f = T + 1 → x2 = b2 mn → x1 = b2 wants → MX b n kd nm pl T J0 J t ws ps o → ws.length ≤ t → ps.length ≤ t → o ≤ 5 → WE wants ws ps o → BdQ SyM mX11_takesE 5 19 [(2, .int x2), (1, .int x1), (0, .ref 0)] [] J (fun r J' => r = some (.int (b2 (mE kd nm (J0 38) T f t ws ps o wants mn).1)) ∧ Fr6 J0 J' ∧ MTk b n kd nm pl T J' (mE kd nm (J0 38) T f t ws ps o wants mn).2.1 ∧ Stk (J' 37) (mE kd nm (J0 38) T f t ws ps o wants mn).2.2)) (htf : t + (f + 1) = T + 1) (hX : MX b n kd nm pl T J0 J t ws ps o) (hwl : ws.length ≤ t) (hpl2 : ps.length ≤ t) (ho5 : o ≤ 5) {x1 : Int32} (hwt : x1 = b2 false) (hWE : WE false ws ps o) (h0 : jt (kdA kd T t) = 0) {w : Int32} {u ps' : List Int32} {o' : Nat} (hS : msettle 1 ws ps o = (w :: u, ps', o')) (htT : t < T) (h41 : kdA kd T t = 41) : BdQ SyM mX11_takesE 5 19 [(2, .int (b2 mn)), (1, .int x1), (0, .ref 0)] [] J (fun r J' => r = some (.int (b2 (mE kd nm (J0 38) T (f + 1) t ws ps o false mn).1)) ∧ Fr6 J0 J' ∧ MTk b n kd nm pl T J' (mE kd nm (J0 38) T (f + 1) t ws ps o false mn).2.1 ∧ Stk (J' 37) (mE kd nm (J0 38) T (f + 1) t ws ps o false mn).2.2) := by
  refine BdQ.l (fun _ _ k => b_iload_n (pc := 19) (i := 1) (dd dtX11_takesE 13 rfl) rfl rfl k) ?_
  refine BdQ.b (fun _ _ k1 k2 => b_if_eq (pc := 20) (tgt := 109) (dd dtX11_takesE 14 rfl) (by decide) k1 k2) (fun h20 => ?_) (fun h20 => ?_)
  · refine BdQ.l (fun _ _ k => b_iload_n (pc := 109) (i := 1) (dd dtX11_takesE 57 rfl) rfl rfl k) ?_
    refine BdQ.b (fun _ _ k1 k2 => b_if_eq (pc := 110) (tgt := 165) (dd dtX11_takesE 58 rfl) (by decide) k1 k2) (fun h110 => ?_) (fun h110 => ?_)
    · refine BdQ.l (fun _ _ k => b_iload_n (pc := 165) (i := 1) (dd dtX11_takesE 86 rfl) rfl rfl k) ?_
      refine BdQ.b (fun _ _ k1 k2 => b_if_eq (pc := 166) (tgt := 171) (dd dtX11_takesE 87 rfl) (by decide) k1 k2) (fun h166 => ?_) (fun h166 => ?_)
      · refine BdQ.l (fun _ _ k => b_aload_n (pc := 171) (i := 0) (dd dtX11_takesE 90 rfl) rfl rfl k) ?_
        refine BdQ.l (fun _ _ k => b_invV (pc := 172) (dd dtX11_takesE 91 rfl) mlX11_372 mvX11_joint miX11_joint (c_X11_joint) oM_0 rfl rfl (by decide) (Nat.le_of_ble_eq_true rfl) k) ?_
        rw [jnt_eq hX.2.1.tr, h0]
        refine BdQ.c (fun _ _ k1 k2 => b_ifL_le (pc := 175) (tgt := 216) (dd dtX11_takesE 92 rfl) (by decide) k1 k2) (fun h175 => ?_) (fun h175 => ?_)
        · refine BdQ.l (fun _ _ k => b_aload_n (pc := 216) (i := 0) (dd dtX11_takesE 115 rfl) rfl rfl k) ?_
          refine BdQ.l (fun _ _ k => b_ic1 (pc := 217) (dd dtX11_takesE 116 rfl) k) ?_
          obtain ⟨_, I218, ⟨rfl, F218, R218⟩, k218⟩ := q_settle (k := 1) (by decide) hWE.f hX.2.2 (by omega) (by omega)
          rw [hS] at R218
          have hX2 : MX b n kd nm pl T J0 I218 t (w :: u) ps' o' := ⟨hX.1.t5 F218, hX.2.1.e (fun j j1 j2 => F218.2 j (by omega)), R218⟩
          obtain ⟨r1, r2, r3, r4, r5⟩ := R218
          replace r1 : I218 0 59 = nI (u.length + 1) := r1
          have hms := ms_wf (k := 1) (by decide) ws ps o hWE.f
          rw [hS] at hms
          have hul : u.length + 1 ≤ ws.length := hms.2.1
          refine BdQ.l (fun _ _ k => b_invV (pc := 218) (dd dtX11_takesE 117 rfl) mlX11_360 mvX11_settle miX11_settle (k218) oM_0 rfl rfl (by decide) (Nat.le_of_ble_eq_true rfl) k) ?_
          refine BdQ.l (fun _ _ k => b_aload_n (pc := 221) (i := 0) (dd dtX11_takesE 118 rfl) rfl rfl k) ?_
          refine BdQ.l (fun _ _ k => b_geti (pc := 222) (dd dtX11_takesE 119 rfl) fwX11_194 pM_0 k) ?_
          rw [r1]
          refine BdQ.c (fun _ _ k1 k2 => b_if_ne (pc := 225) (tgt := 230) (dd dtX11_takesE 120 rfl) (by decide) k1 k2) (fun h225 => ?_) (fun h225 => ?_)
          · refine BdQ.l (fun _ _ k => b_aload_n (pc := 230) (i := 0) (dd dtX11_takesE 123 rfl) rfl rfl k) ?_
            refine BdQ.l (fun _ _ k => b_geti (pc := 231) (dd dtX11_takesE 124 rfl) fwX11_176 pM_0 k) ?_
            refine BdQ.l (fun _ _ k => b_bipush (pc := 234) (v := 41) (dd dtX11_takesE 125 rfl) (by decide) k) ?_
            refine BdQ.b (fun _ _ k1 k2 => b_icmp_eq (pc := 236) (tgt := 241) (dd dtX11_takesE 126 rfl) (by decide) k1 k2) (fun h236 => ?_) (fun h236 => ?_)
            · refine BdQ.l (fun _ _ k => b_aload_n (pc := 241) (i := 0) (dd dtX11_takesE 129 rfl) rfl rfl k) ?_
              refine BdQ.l (fun _ _ k => b_dup (pc := 242) (dd dtX11_takesE 130 rfl) rfl k) ?_
              refine BdQ.l (fun _ _ k => b_geti (pc := 243) (dd dtX11_takesE 131 rfl) fwX11_194 pM_0 k) ?_
              rw [r1]
              refine BdQ.l (fun _ _ k => b_ic1 (pc := 246) (dd dtX11_takesE 132 rfl) k) ?_
              refine BdQ.l (fun _ _ k => b_isub (pc := 247) (dd dtX11_takesE 133 rfl) k) ?_
              rw [nI_pred]
              refine BdQ.l (fun _ _ k => b_puti (pc := 248) (dd dtX11_takesE 134 rfl) fwX11_194 pM_0 k) ?_
              refine BdQ.l (fun _ _ k => b_aload_n (pc := 251) (i := 0) (dd dtX11_takesE 135 rfl) rfl rfl k) ?_
              refine BdQ.l (fun _ _ k => b_dup (pc := 252) (dd dtX11_takesE 136 rfl) rfl k) ?_
              refine BdQ.l (fun _ _ k => b_geti (pc := 253) (dd dtX11_takesE 137 rfl) fwX11_200 pM_0 k) ?_
              rw [ist_eq, upd_ne (show (61 : Nat) ≠ 59 by decide), r5]
              refine BdQ.l (fun _ _ k => b_ic1 (pc := 256) (dd dtX11_takesE 138 rfl) k) ?_
              refine BdQ.l (fun _ _ k => b_isub (pc := 257) (dd dtX11_takesE 139 rfl) k) ?_
              refine BdQ.l (fun _ _ k => b_puti (pc := 258) (dd dtX11_takesE 140 rfl) fwX11_200 pM_0 k) ?_
              have hw40 : w = 40 := top40 (ms_top ws ps o (by rw [hS])) (hms.1.2.2 w List.mem_cons_self)
              have ho' : o' = 1 + nu u := by
                have := hms.1.2.1
                subst hw40
                exact this
              have hWu : WF u ps' (o' - 1) := by
                refine ⟨?_, by omega, fun v hv => hms.1.2.2 v (List.mem_cons_of_mem _ hv)⟩
                have hq : nb (w :: u) + 1 ≤ ps'.length := hms.1.1
                subst hw40
                have e1 : nb (40 :: u) = 0 + nb u := rfl
                omega
              rw [nI_m1 (show 0 < o' by omega)]
              have hR3 : MR (ist (ist I218 0 59 (nI u.length)) 0 61 (nI (o' - 1))) u ps' (o' - 1) := by
                refine ⟨?_, ?_, ?_, ?_, ?_⟩
                · rw [ist_eq, upd_ne (by decide), ist_eq, upd_eq]
                · rw [ist_ne (by decide), ist_ne (by decide)]; exact r2.2
                · rw [ist_eq, upd_ne (by decide), ist_eq, upd_ne (by decide)]; exact r3
                · rw [ist_ne (by decide), ist_ne (by decide)]; exact r4
                · rw [ist_eq, upd_eq]
              have hF3 : Fr6 J0 (ist (ist I218 0 59 (nI u.length)) 0 61 (nI (o' - 1))) := (hX2.1.f (by decide)).f (by decide)
              refine BdQ.l (fun _ _ k => b_aload_n (pc := 261) (i := 0) (dd dtX11_takesE 141 rfl) rfl rfl k) ?_
              refine BdQ.l (fun _ _ k => b_bipush (pc := 262) (v := 7) (dd dtX11_takesE 142 rfl) (by decide) k) ?_
              have hpl3 : ps'.length ≤ ps.length := hms.2.2.1
              have hol3 : o' ≤ o := hms.2.2.2
              obtain ⟨_, I264, ⟨rfl, F264, R264⟩, k264⟩ := q_settle (k := 7) (by decide) hWu hR3 (by omega) (by omega)
              have hX4 : MX b n kd nm pl T J0 I264 t (msettle 7 u ps' (o' - 1)).1 (msettle 7 u ps' (o' - 1)).2.1 (msettle 7 u ps' (o' - 1)).2.2 := ⟨hF3.t5 F264, hX2.2.1.e (fun j j1 j2 => by rw [F264.2 j (by omega), ist_eq, upd_ne (by omega), ist_eq, upd_ne (by omega)]), R264⟩
              have hm7 := ms_wf (k := 7) (by decide) u ps' (o' - 1) hWu
              refine BdQ.l (fun _ _ k => b_invV (pc := 264) (dd dtX11_takesE 143 rfl) mlX11_360 mvX11_settle miX11_settle (k264) oM_0 rfl rfl (by decide) (Nat.le_of_ble_eq_true rfl) k) ?_
              refine BdQ.l (fun _ _ k => b_aload_n (pc := 267) (i := 0) (dd dtX11_takesE 144 rfl) rfl rfl k) ?_
              obtain ⟨_, I268, ⟨rfl, R268⟩, k268⟩ := q_stepX hM hBR hT hX4 htT
              refine BdQ.l (fun _ _ k => b_invV (pc := 268) (dd dtX11_takesE 145 rfl) mlX11_357 mvX11_step miX11_step (k268) oM_0 rfl rfl (by decide) (Nat.le_of_ble_eq_true rfl) k) ?_
              refine BdQ.l (fun _ _ k => b_goto (pc := 271) (tgt := 19) (dd dtX11_takesE 146 rfl) (by decide) k) ?_
              rw [mE_rp h0 hS h41]
              exact ih (t + 1) _ _ _ false mn _ _ I268 (by omega) rfl hwt R268 (by omega) (by omega) (by omega) hm7.1
            · exact absurd ((tk_mk hX2.2.1.tr (by decide)).mpr h41) h236
          · exact absurd h225 (nI_ne0 (by omega) (by omega))
        · exact absurd h175 (by decide)
      · exact absurd (show x1 = 0 from hwt) h166
    · exact absurd (show x1 = 0 from hwt) h110
  · exact absurd (show x1 = 0 from hwt) h20
theorem p_n19 {J0 : Wd} {ba n : Nat} {b mb kd nm pl : Nat → Int32} {T : Nat} (hM : MB J0 ba n mb) (hBR : ∀ i, i < n → BRel (b i) (mb i)) (hT : TokOK b n kd nm pl T) (hT6 : T ≤ 160) {J : Wd} {t f : Nat} {ws ps : List Int32} {o : Nat} {mn : Bool} (ih : ∀ (t : Nat) (ws ps : List Int32) (o : Nat) (wants mn : Bool) (x2 x1 : Int32) (J : Wd), t + f = T + 1 → x2 = b2 mn → x1 = b2 wants → MX b n kd nm pl T J0 J t ws ps o → ws.length ≤ t → ps.length ≤ t → o ≤ 5 → WE wants ws ps o → BdQ SyM mX11_takesE 5 19 [(2, .int x2), (1, .int x1), (0, .ref 0)] [] J (fun r J' => r = some (.int (b2 (mE kd nm (J0 38) T f t ws ps o wants mn).1)) ∧ Fr6 J0 J' ∧ MTk b n kd nm pl T J' (mE kd nm (J0 38) T f t ws ps o wants mn).2.1 ∧ Stk (J' 37) (mE kd nm (J0 38) T f t ws ps o wants mn).2.2)) (htf : t + (f + 1) = T + 1) (hX : MX b n kd nm pl T J0 J t ws ps o) (hwl : ws.length ≤ t) (hpl2 : ps.length ≤ t) (ho5 : o ≤ 5) {x1 : Int32} (hwt : x1 = b2 false) (hWE : WE false ws ps o) : BdQ SyM mX11_takesE 5 19 [(2, .int (b2 mn)), (1, .int x1), (0, .ref 0)] [] J (fun r J' => r = some (.int (b2 (mE kd nm (J0 38) T (f + 1) t ws ps o false mn).1)) ∧ Fr6 J0 J' ∧ MTk b n kd nm pl T J' (mE kd nm (J0 38) T (f + 1) t ws ps o false mn).2.1 ∧ Stk (J' 37) (mE kd nm (J0 38) T (f + 1) t ws ps o false mn).2.2) := by
  by_cases h0 : jt (kdA kd T t) = 0
  · generalize hS : msettle 1 ws ps o = S
    obtain ⟨ws', ps', o'⟩ := S
    cases ws' with
    | nil => exact p_end hM hBR hT hT6 ih htf hX hwl hpl2 ho5 hwt hWE h0 hS
    | cons w u =>
      by_cases h41 : kdA kd T t = 41
      · exact p_rp hM hBR hT hT6 ih htf hX hwl hpl2 ho5 hwt hWE h0 hS (kdA_lt (kd := kd) (by rw [h41]; decide)) h41
      · exact p_rn hM hBR hT hT6 ih htf hX hwl hpl2 ho5 hwt hWE h0 hS h41
  · have htT : t < T := kdA_lt (kd := kd) (fun q => h0 (by rw [q]; decide))
    by_cases hs : ((jt (kdA kd T t) = 60 ∨ jt (kdA kd T t) = 61) ∧ topR (msettle (jrF (jt (kdA kd T t))) ws ps o).1 = 4)
    · exact p_jo_s hM hBR hT hT6 ih htf hX hwl hpl2 ho5 hwt hWE rfl h0 (jt_v h0) htT hs
    · exact p_jo_o hM hBR hT hT6 ih htf hX hwl hpl2 ho5 hwt hWE rfl h0 (jt_v h0) htT hs
theorem lr_takes {J0 : Wd} {ba n : Nat} {b mb kd nm pl : Nat → Int32} {T : Nat} (hM : MB J0 ba n mb) (hBR : ∀ i, i < n → BRel (b i) (mb i)) (hT : TokOK b n kd nm pl T) (hT6 : T ≤ 160) : ∀ (f t : Nat) (ws ps : List Int32) (o : Nat) (wants mn : Bool) (x2 x1 : Int32) (J : Wd), t + f = T + 1 → x2 = b2 mn → x1 = b2 wants → MX b n kd nm pl T J0 J t ws ps o → ws.length ≤ t → ps.length ≤ t → o ≤ 5 → WE wants ws ps o → BdQ SyM mX11_takesE 5 19 [(2, .int x2), (1, .int x1), (0, .ref 0)] [] J (fun r J' => r = some (.int (b2 (mE kd nm (J0 38) T f t ws ps o wants mn).1)) ∧ Fr6 J0 J' ∧ MTk b n kd nm pl T J' (mE kd nm (J0 38) T f t ws ps o wants mn).2.1 ∧ Stk (J' 37) (mE kd nm (J0 38) T f t ws ps o wants mn).2.2) := by
  intro f
  induction f with
  | zero => intro t ws ps o wants mn x2 x1 J htf _ _ hX; exact absurd hX.2.1.1 (by omega)
  | succ f ih =>
    intro t ws ps o wants mn x2 x1 J htf e2 e1 hX hwl hpl2 ho5 hWE
    subst e2
    cases wants with
    | true => exact p_w19 hM hBR hT hT6 ih htf hX hwl hpl2 ho5 e1 hWE
    | false => exact p_n19 hM hBR hT hT6 ih htf hX hwl hpl2 ho5 e1 hWE
set_option maxHeartbeats 4000000 in
theorem q_takes {J0 : Wd} {ba n : Nat} {b mb kd nm pl : Nat → Int32} {T : Nat} (hM : MB J0 ba n mb) (hBR : ∀ i, i < n → BRel (b i) (mb i)) (hT : TokOK b n kd nm pl T) (hT6 : T ≤ 160) {t : Nat} (hK : MTk b n kd nm pl T J0 t) : CalQ SyM mX11_takesE 5 [.ref 0] J0 (fun r J' => r = some (.int (b2 (mE kd nm (J0 38) T (T + 1 - t) t [] [] 0 true true).1)) ∧ Fr6 J0 J' ∧ MTk b n kd nm pl T J' (mE kd nm (J0 38) T (T + 1 - t) t [] [] 0 true true).2.1 ∧ Stk (J' 37) (mE kd nm (J0 38) T (T + 1 - t) t [] [] 0 true true).2.2) := by
  refine CalQ.of (by decide) (Nat.le_of_ble_eq_true rfl) ?_
  show BdQ _ _ _ _ [(0, _)] _ _ _
  refine BdQ.l (fun _ _ k => b_aload_n (pc := 0) (i := 0) (dd dtX11_takesE 0 rfl) rfl rfl k) ?_
  refine BdQ.l (fun _ _ k => b_ic0 (pc := 1) (dd dtX11_takesE 1 rfl) k) ?_
  refine BdQ.l (fun _ _ k => b_puti (pc := 2) (dd dtX11_takesE 2 rfl) fwX11_194 pM_0 k) ?_
  refine BdQ.l (fun _ _ k => b_aload_n (pc := 5) (i := 0) (dd dtX11_takesE 3 rfl) rfl rfl k) ?_
  refine BdQ.l (fun _ _ k => b_ic0 (pc := 6) (dd dtX11_takesE 4 rfl) k) ?_
  refine BdQ.l (fun _ _ k => b_puti (pc := 7) (dd dtX11_takesE 5 rfl) fwX11_197 pM_0 k) ?_
  refine BdQ.l (fun _ _ k => b_aload_n (pc := 10) (i := 0) (dd dtX11_takesE 6 rfl) rfl rfl k) ?_
  refine BdQ.l (fun _ _ k => b_ic0 (pc := 11) (dd dtX11_takesE 7 rfl) k) ?_
  refine BdQ.l (fun _ _ k => b_puti (pc := 12) (dd dtX11_takesE 8 rfl) fwX11_200 pM_0 k) ?_
  refine BdQ.l (fun _ _ k => b_ic1 (pc := 15) (dd dtX11_takesE 9 rfl) k) ?_
  refine BdQ.l (fun _ _ k => b_istore_n (pc := 16) (i := 1) (lv' := [(1, _), (0, _)]) (dd dtX11_takesE 10 rfl) rfl (Nat.le_of_ble_eq_true rfl) rfl k) ?_
  refine BdQ.l (fun _ _ k => b_ic1 (pc := 17) (dd dtX11_takesE 11 rfl) k) ?_
  refine BdQ.l (fun _ _ k => b_istore_n (pc := 18) (i := 2) (lv' := [(2, _), (1, _), (0, _)]) (dd dtX11_takesE 12 rfl) rfl (Nat.le_of_ble_eq_true rfl) rfl k) ?_
  refine lr_takes hM hBR hT hT6 (T + 1 - t) t [] [] 0 true true _ _ _ (by have := hK.1; omega) rfl rfl ⟨⟨fun a a1 a2 a3 => ?_, fun j hj => ?_⟩, hK.e (fun j j1 j2 => ?_), ?_, trivial, ?_, trivial, ?_⟩ (Nat.zero_le _) (Nat.zero_le _) (Nat.zero_le _) ⟨Nat.le_refl _, rfl, fun w hw => by cases hw⟩
  · rw [ist_ne a1, ist_ne a1, ist_ne a1]
  · rw [ist_eq, upd_ne (by omega), ist_eq, upd_ne (by omega), ist_eq, upd_ne (by omega)]
  · rw [ist_eq, upd_ne (by omega), ist_eq, upd_ne (by omega), ist_eq, upd_ne (by omega)]
  · rw [ist_eq, upd_ne (by decide), ist_eq, upd_ne (by decide), ist_eq, upd_eq]; rfl
  · rw [ist_eq, upd_ne (by decide), ist_eq, upd_eq]; rfl
  · rw [ist_eq, upd_eq]; rfl
