section BR
variable {S : Sy} {M : Mi} {d pc : Nat} {lv : List (Nat × Value)} {st : List Value} {I I' : Wd} {r : Option Value}
theorem b_iconst {n : Int} {v : Int32} (hd : decode M.2.1 pc = .ok (.iconst n, 1)) (hv : Int32.ofInt n = v) (kk : Bd S M d (pc + 1) lv (.int v :: st) I r I') : Bd S M d pc lv (st) I r I' :=
  fun p l e s m args below meth c D cy ad H locs ls X => lv_iconst X.1.1 X.1.2.1 hd hv (kk p l e s m args below meth c D cy ad H locs ls X)
theorem b_bipush {n : Int} {v : Int32} (hd : decode M.2.1 pc = .ok (.bipush n, 2)) (hv : (Int8.ofInt n).toInt32 = v) (kk : Bd S M d (pc + 2) lv (.int v :: st) I r I') : Bd S M d pc lv (st) I r I' :=
  fun p l e s m args below meth c D cy ad H locs ls X => lv_bipush X.1.1 X.1.2.1 hd hv (kk p l e s m args below meth c D cy ad H locs ls X)
theorem b_sipush {n : Int} {v : Int32} (hd : decode M.2.1 pc = .ok (.sipush n, 3)) (hv : (Int16.ofInt n).toInt32 = v) (kk : Bd S M d (pc + 3) lv (.int v :: st) I r I') : Bd S M d pc lv (st) I r I' :=
  fun p l e s m args below meth c D cy ad H locs ls X => lv_sipush X.1.1 X.1.2.1 hd hv (kk p l e s m args below meth c D cy ad H locs ls X)
theorem b_lconst {n : Fin 2} {v : Int64} (hd : decode M.2.1 pc = .ok (.lconst n, 1)) (hv : Int64.ofNat (n : Nat) = v) (kk : Bd S M d (pc + 1) lv (.long v :: st) I r I') : Bd S M d pc lv (st) I r I' :=
  fun p l e s m args below meth c D cy ad H locs ls X => lv_lconst X.1.1 X.1.2.1 hd hv (kk p l e s m args below meth c D cy ad H locs ls X)
theorem b_icm1 (hd : decode M.2.1 pc = .ok (.iconst (-1), 1)) (kk : Bd S M d (pc + 1) lv (.int (-1) :: st) I r I') : Bd S M d pc lv st I r I' := b_iconst hd (by decide) kk
theorem b_ic0 (hd : decode M.2.1 pc = .ok (.iconst 0, 1)) (kk : Bd S M d (pc + 1) lv (.int 0 :: st) I r I') : Bd S M d pc lv st I r I' := b_iconst hd (by decide) kk
theorem b_ic1 (hd : decode M.2.1 pc = .ok (.iconst 1, 1)) (kk : Bd S M d (pc + 1) lv (.int 1 :: st) I r I') : Bd S M d pc lv st I r I' := b_iconst hd (by decide) kk
theorem b_ic2 (hd : decode M.2.1 pc = .ok (.iconst 2, 1)) (kk : Bd S M d (pc + 1) lv (.int 2 :: st) I r I') : Bd S M d pc lv st I r I' := b_iconst hd (by decide) kk
theorem b_ic3 (hd : decode M.2.1 pc = .ok (.iconst 3, 1)) (kk : Bd S M d (pc + 1) lv (.int 3 :: st) I r I') : Bd S M d pc lv st I r I' := b_iconst hd (by decide) kk
theorem b_ic4 (hd : decode M.2.1 pc = .ok (.iconst 4, 1)) (kk : Bd S M d (pc + 1) lv (.int 4 :: st) I r I') : Bd S M d pc lv st I r I' := b_iconst hd (by decide) kk
theorem b_ic5 (hd : decode M.2.1 pc = .ok (.iconst 5, 1)) (kk : Bd S M d (pc + 1) lv (.int 5 :: st) I r I') : Bd S M d pc lv st I r I' := b_iconst hd (by decide) kk
theorem b_ldc {ix : Nat} {v : Int32} (hd : decode M.2.1 pc = .ok (.ldc ix, 2)) (hw : Cond.constant M.1.cls ix v ∈ gw) (kk : Bd S M d (pc + 2) lv (.int v :: st) I r I') : Bd S M d pc lv (st) I r I' :=
  fun p l e s m args below meth c D cy ad H locs ls X => lv_ldc X.1.1 X.1.2.1 X.1.2.2.2.2.1 (X.1.2.2.2.2.2.1 _ hw) hd (kk p l e s m args below meth c D cy ad H locs ls X)
theorem b_ldcw {ix : Nat} {v : Int32} (hd : decode M.2.1 pc = .ok (.ldc_w ix, 3)) (hw : Cond.constant M.1.cls ix v ∈ gw) (kk : Bd S M d (pc + 3) lv (.int v :: st) I r I') : Bd S M d pc lv (st) I r I' :=
  fun p l e s m args below meth c D cy ad H locs ls X => lv_ldcw X.1.1 X.1.2.1 X.1.2.2.2.2.1 (X.1.2.2.2.2.2.1 _ hw) hd (kk p l e s m args below meth c D cy ad H locs ls X)
theorem b_ldc2 {ix : Nat} {v : Int64} (hd : decode M.2.1 pc = .ok (.ldc2_w ix, 3)) (hw : Cond.constantLong M.1.cls ix v ∈ gw) (kk : Bd S M d (pc + 3) lv (.long v :: st) I r I') : Bd S M d pc lv (st) I r I' :=
  fun p l e s m args below meth c D cy ad H locs ls X => lv_ldc2 X.1.1 X.1.2.1 X.1.2.2.2.2.1 (X.1.2.2.2.2.2.1 _ hw) hd (kk p l e s m args below meth c D cy ad H locs ls X)
theorem b_iload_n {k : Fin 4} {i : Nat} {x : Int32} (hd : decode M.2.1 pc = .ok (.iload_n k, 1)) (hi : (k : Nat) = i) (hl : lk lv i = some (.int x)) (kk : Bd S M d (pc + 1) lv (.int x :: st) I r I') : Bd S M d pc lv (st) I r I' :=
  fun p l e s m args below meth c D cy ad H locs ls X => lv_iload_n X.1.1 X.1.2.1 hd hi (lv_lk X.2.1 hl) (kk p l e s m args below meth c D cy ad H locs ls X)
theorem b_iload {i : Nat} {x : Int32} (hd : decode M.2.1 pc = .ok (.iload i, 2)) (hl : lk lv i = some (.int x)) (kk : Bd S M d (pc + 2) lv (.int x :: st) I r I') : Bd S M d pc lv (st) I r I' :=
  fun p l e s m args below meth c D cy ad H locs ls X => lv_iload X.1.1 X.1.2.1 hd (lv_lk X.2.1 hl) (kk p l e s m args below meth c D cy ad H locs ls X)
theorem b_lload_n {k : Fin 4} {i : Nat} {x : Int64} (hd : decode M.2.1 pc = .ok (.lload_n k, 1)) (hi : (k : Nat) = i) (hl : lk lv i = some (.long x)) (kk : Bd S M d (pc + 1) lv (.long x :: st) I r I') : Bd S M d pc lv (st) I r I' :=
  fun p l e s m args below meth c D cy ad H locs ls X => lv_lload_n X.1.1 X.1.2.1 hd hi (lv_lk X.2.1 hl) (kk p l e s m args below meth c D cy ad H locs ls X)
theorem b_lload {i : Nat} {x : Int64} (hd : decode M.2.1 pc = .ok (.lload i, 2)) (hl : lk lv i = some (.long x)) (kk : Bd S M d (pc + 2) lv (.long x :: st) I r I') : Bd S M d pc lv (st) I r I' :=
  fun p l e s m args below meth c D cy ad H locs ls X => lv_lload X.1.1 X.1.2.1 hd (lv_lk X.2.1 hl) (kk p l e s m args below meth c D cy ad H locs ls X)
theorem b_aload_n {k : Fin 4} {i : Nat} {x : Nat} (hd : decode M.2.1 pc = .ok (.aload_n k, 1)) (hi : (k : Nat) = i) (hl : lk lv i = some (.ref x)) (kk : Bd S M d (pc + 1) lv (.ref x :: st) I r I') : Bd S M d pc lv (st) I r I' :=
  fun p l e s m args below meth c D cy ad H locs ls X => lv_aload_n X.1.1 X.1.2.1 hd hi (lv_lk X.2.1 hl) (kk p l e s m args below meth c D cy ad H locs ls X)
theorem b_aload {i : Nat} {x : Nat} (hd : decode M.2.1 pc = .ok (.aload i, 2)) (hl : lk lv i = some (.ref x)) (kk : Bd S M d (pc + 2) lv (.ref x :: st) I r I') : Bd S M d pc lv (st) I r I' :=
  fun p l e s m args below meth c D cy ad H locs ls X => lv_aload X.1.1 X.1.2.1 hd (lv_lk X.2.1 hl) (kk p l e s m args below meth c D cy ad H locs ls X)
theorem b_istore_n {k : Fin 4} {i : Nat} {x : Int32} {lv' : List (Nat × Value)} (hd : decode M.2.1 pc = .ok (.istore_n k, 1)) (hi : (k : Nat) = i) (hn : i < M.2.2.1) (hl : lst1 i (.int x) lv = lv') (kk : Bd S M d (pc + 1) lv' st I r I') : Bd S M d pc lv (.int x :: st) I r I' :=
  fun p l e s m args below meth c D cy ad H locs ls X => lv_istore_n X.1.1 X.1.2.1 hd hi X.2.1 hn (by rw [← hl, ← lvc_1]; rfl) (fun ls' h' => kk p l e s m args below meth c D cy ad H locs ls' ⟨X.1, h', X.2.2⟩)
theorem b_istore {i : Nat} {x : Int32} {lv' : List (Nat × Value)} (hd : decode M.2.1 pc = .ok (.istore i, 2)) (hn : i < M.2.2.1) (hl : lst1 i (.int x) lv = lv') (kk : Bd S M d (pc + 2) lv' st I r I') : Bd S M d pc lv (.int x :: st) I r I' :=
  fun p l e s m args below meth c D cy ad H locs ls X => lv_istore X.1.1 X.1.2.1 hd X.2.1 hn (by rw [← hl, ← lvc_1]; rfl) (fun ls' h' => kk p l e s m args below meth c D cy ad H locs ls' ⟨X.1, h', X.2.2⟩)
theorem b_astore_n {k : Fin 4} {i : Nat} {x : Nat} {lv' : List (Nat × Value)} (hd : decode M.2.1 pc = .ok (.astore_n k, 1)) (hi : (k : Nat) = i) (hn : i < M.2.2.1) (hl : lst1 i (.ref x) lv = lv') (kk : Bd S M d (pc + 1) lv' st I r I') : Bd S M d pc lv (.ref x :: st) I r I' :=
  fun p l e s m args below meth c D cy ad H locs ls X => lv_astore_n X.1.1 X.1.2.1 hd hi X.2.1 hn (by rw [← hl, ← lvc_1]; rfl) (fun ls' h' => kk p l e s m args below meth c D cy ad H locs ls' ⟨X.1, h', X.2.2⟩)
theorem b_astore {i : Nat} {x : Nat} {lv' : List (Nat × Value)} (hd : decode M.2.1 pc = .ok (.astore i, 2)) (hn : i < M.2.2.1) (hl : lst1 i (.ref x) lv = lv') (kk : Bd S M d (pc + 2) lv' st I r I') : Bd S M d pc lv (.ref x :: st) I r I' :=
  fun p l e s m args below meth c D cy ad H locs ls X => lv_astore X.1.1 X.1.2.1 hd X.2.1 hn (by rw [← hl, ← lvc_1]; rfl) (fun ls' h' => kk p l e s m args below meth c D cy ad H locs ls' ⟨X.1, h', X.2.2⟩)
theorem b_lstore_n {k : Fin 4} {i : Nat} {x : Int64} {lv' : List (Nat × Value)} (hd : decode M.2.1 pc = .ok (.lstore_n k, 1)) (hi : (k : Nat) = i) (hn : i < M.2.2.1 ∧ i + 1 < M.2.2.1) (hl : lst2 i (.long x) lv = lv') (kk : Bd S M d (pc + 1) lv' st I r I') : Bd S M d pc lv (.long x :: st) I r I' :=
  fun p l e s m args below meth c D cy ad H locs ls X => lv_lstore_n X.1.1 X.1.2.1 hd hi X.2.1 hn.2 (by rw [← hl, ← lvc_2]; rfl) (fun ls' h' => kk p l e s m args below meth c D cy ad H locs ls' ⟨X.1, h', X.2.2⟩)
theorem b_lstore {i : Nat} {x : Int64} {lv' : List (Nat × Value)} (hd : decode M.2.1 pc = .ok (.lstore i, 2)) (hn : i < M.2.2.1 ∧ i + 1 < M.2.2.1) (hl : lst2 i (.long x) lv = lv') (kk : Bd S M d (pc + 2) lv' st I r I') : Bd S M d pc lv (.long x :: st) I r I' :=
  fun p l e s m args below meth c D cy ad H locs ls X => lv_lstore X.1.1 X.1.2.1 hd X.2.1 hn.2 (by rw [← hl, ← lvc_2]; rfl) (fun ls' h' => kk p l e s m args below meth c D cy ad H locs ls' ⟨X.1, h', X.2.2⟩)
theorem b_iinc {i : Nat} {n : Int} {x v : Int32} {lv' : List (Nat × Value)} (hd : decode M.2.1 pc = .ok (.iinc i n, 3)) (hk : lk lv i = some (.int x)) (hv : x + Int32.ofInt n = v) (hn : i < M.2.2.1) (hl : lst1 i (.int v) lv = lv') (kk : Bd S M d (pc + 3) lv' st I r I') : Bd S M d pc lv st I r I' := by
  intro p l e s m args below meth c D cy ad H locs ls X
  have hm := lk_mem hk
  obtain ⟨q, hq⟩ := List.getElem?_of_mem hm
  have hq2 : (lvc ad lv)[q]? = some (i, .int x) := by rw [lvc, List.getElem?_map, hq]; rfl
  exact lv_iinc X.1.1 X.1.2.1 hd X.2.1 hq2 hv hn (by rw [← hl, ← lvc_1]; rfl) (fun ls' h' => kk p l e s m args below meth c D cy ad H locs ls' ⟨X.1, h', X.2.2⟩)
theorem b_iinc1 {i : Nat} {x : Int32} {lv' : List (Nat × Value)} (hd : decode M.2.1 pc = .ok (.iinc i 1, 3)) (hk : lk lv i = some (.int x)) (hn : i < M.2.2.1) (hl : lst1 i (.int (x + 1)) lv = lv') (kk : Bd S M d (pc + 3) lv' st I r I') : Bd S M d pc lv st I r I' := b_iinc (v := x + 1) hd hk rfl hn hl kk
theorem b_iadd {x y : Int32} (hd : decode M.2.1 pc = .ok (.iadd, 1)) (kk : Bd S M d (pc + 1) lv (.int (x + y) :: st) I r I') : Bd S M d pc lv (.int y :: .int x :: st) I r I' :=
  fun p l e s m args below meth c D cy ad H locs ls X => lv_iadd X.1.1 X.1.2.1 hd (kk p l e s m args below meth c D cy ad H locs ls X)
theorem b_isub {x y : Int32} (hd : decode M.2.1 pc = .ok (.isub, 1)) (kk : Bd S M d (pc + 1) lv (.int (x - y) :: st) I r I') : Bd S M d pc lv (.int y :: .int x :: st) I r I' :=
  fun p l e s m args below meth c D cy ad H locs ls X => lv_isub X.1.1 X.1.2.1 hd (kk p l e s m args below meth c D cy ad H locs ls X)
theorem b_imul {x y : Int32} (hd : decode M.2.1 pc = .ok (.imul, 1)) (kk : Bd S M d (pc + 1) lv (.int (x * y) :: st) I r I') : Bd S M d pc lv (.int y :: .int x :: st) I r I' :=
  fun p l e s m args below meth c D cy ad H locs ls X => lv_imul X.1.1 X.1.2.1 hd (kk p l e s m args below meth c D cy ad H locs ls X)
theorem b_iand {x y : Int32} (hd : decode M.2.1 pc = .ok (.iand, 1)) (kk : Bd S M d (pc + 1) lv (.int (x &&& y) :: st) I r I') : Bd S M d pc lv (.int y :: .int x :: st) I r I' :=
  fun p l e s m args below meth c D cy ad H locs ls X => lv_iand X.1.1 X.1.2.1 hd (kk p l e s m args below meth c D cy ad H locs ls X)
theorem b_ior {x y : Int32} (hd : decode M.2.1 pc = .ok (.ior, 1)) (kk : Bd S M d (pc + 1) lv (.int (x ||| y) :: st) I r I') : Bd S M d pc lv (.int y :: .int x :: st) I r I' :=
  fun p l e s m args below meth c D cy ad H locs ls X => lv_ior X.1.1 X.1.2.1 hd (kk p l e s m args below meth c D cy ad H locs ls X)
theorem b_ladd {x y : Int64} (hd : decode M.2.1 pc = .ok (.ladd, 1)) (kk : Bd S M d (pc + 1) lv (.long (x + y) :: st) I r I') : Bd S M d pc lv (.long y :: .long x :: st) I r I' :=
  fun p l e s m args below meth c D cy ad H locs ls X => lv_ladd X.1.1 X.1.2.1 hd (kk p l e s m args below meth c D cy ad H locs ls X)
theorem b_lsub {x y : Int64} (hd : decode M.2.1 pc = .ok (.lsub, 1)) (kk : Bd S M d (pc + 1) lv (.long (x - y) :: st) I r I') : Bd S M d pc lv (.long y :: .long x :: st) I r I' :=
  fun p l e s m args below meth c D cy ad H locs ls X => lv_lsub X.1.1 X.1.2.1 hd (kk p l e s m args below meth c D cy ad H locs ls X)
theorem b_lmul {x y : Int64} (hd : decode M.2.1 pc = .ok (.lmul, 1)) (kk : Bd S M d (pc + 1) lv (.long (x * y) :: st) I r I') : Bd S M d pc lv (.long y :: .long x :: st) I r I' :=
  fun p l e s m args below meth c D cy ad H locs ls X => lv_lmul X.1.1 X.1.2.1 hd (kk p l e s m args below meth c D cy ad H locs ls X)
theorem b_land {x y : Int64} (hd : decode M.2.1 pc = .ok (.land, 1)) (kk : Bd S M d (pc + 1) lv (.long (x &&& y) :: st) I r I') : Bd S M d pc lv (.long y :: .long x :: st) I r I' :=
  fun p l e s m args below meth c D cy ad H locs ls X => lv_land X.1.1 X.1.2.1 hd (kk p l e s m args below meth c D cy ad H locs ls X)
theorem b_lor {x y : Int64} (hd : decode M.2.1 pc = .ok (.lor, 1)) (kk : Bd S M d (pc + 1) lv (.long (x ||| y) :: st) I r I') : Bd S M d pc lv (.long y :: .long x :: st) I r I' :=
  fun p l e s m args below meth c D cy ad H locs ls X => lv_lor X.1.1 X.1.2.1 hd (kk p l e s m args below meth c D cy ad H locs ls X)
theorem b_idiv {x y : Int32} (hd : decode M.2.1 pc = .ok (.idiv, 1)) (hne : ¬ y = 0) (kk : Bd S M d (pc + 1) lv (.int (x / y) :: st) I r I') : Bd S M d pc lv (.int y :: .int x :: st) I r I' :=
  fun p l e s m args below meth c D cy ad H locs ls X => lv_idiv X.1.1 X.1.2.1 hd hne (kk p l e s m args below meth c D cy ad H locs ls X)
theorem b_irem {x y : Int32} (hd : decode M.2.1 pc = .ok (.irem, 1)) (hne : ¬ y = 0) (kk : Bd S M d (pc + 1) lv (.int (x - x / y * y) :: st) I r I') : Bd S M d pc lv (.int y :: .int x :: st) I r I' :=
  fun p l e s m args below meth c D cy ad H locs ls X => lv_irem X.1.1 X.1.2.1 hd hne (kk p l e s m args below meth c D cy ad H locs ls X)
theorem b_ldiv {x y : Int64} (hd : decode M.2.1 pc = .ok (.ldiv, 1)) (hne : ¬ y = 0) (kk : Bd S M d (pc + 1) lv (.long (x / y) :: st) I r I') : Bd S M d pc lv (.long y :: .long x :: st) I r I' :=
  fun p l e s m args below meth c D cy ad H locs ls X => lv_ldiv X.1.1 X.1.2.1 hd hne (kk p l e s m args below meth c D cy ad H locs ls X)
theorem b_lrem {x y : Int64} (hd : decode M.2.1 pc = .ok (.lrem, 1)) (hne : ¬ y = 0) (kk : Bd S M d (pc + 1) lv (.long (x - x / y * y) :: st) I r I') : Bd S M d pc lv (.long y :: .long x :: st) I r I' :=
  fun p l e s m args below meth c D cy ad H locs ls X => lv_lrem X.1.1 X.1.2.1 hd hne (kk p l e s m args below meth c D cy ad H locs ls X)
theorem b_ineg {x : Int32} (hd : decode M.2.1 pc = .ok (.ineg, 1)) (kk : Bd S M d (pc + 1) lv (.int (-x) :: st) I r I') : Bd S M d pc lv (.int x :: st) I r I' :=
  fun p l e s m args below meth c D cy ad H locs ls X => lv_ineg X.1.1 X.1.2.1 hd (kk p l e s m args below meth c D cy ad H locs ls X)
theorem b_ishl {x y : Int32} (hd : decode M.2.1 pc = .ok (.ishl, 1)) (kk : Bd S M d (pc + 1) lv (.int (x <<< (y &&& 31)) :: st) I r I') : Bd S M d pc lv (.int y :: .int x :: st) I r I' :=
  fun p l e s m args below meth c D cy ad H locs ls X => lv_ishl X.1.1 X.1.2.1 hd (kk p l e s m args below meth c D cy ad H locs ls X)
theorem b_ishr {x y : Int32} (hd : decode M.2.1 pc = .ok (.ishr, 1)) (kk : Bd S M d (pc + 1) lv (.int (x >>> (y &&& 31)) :: st) I r I') : Bd S M d pc lv (.int y :: .int x :: st) I r I' :=
  fun p l e s m args below meth c D cy ad H locs ls X => lv_ishr X.1.1 X.1.2.1 hd (kk p l e s m args below meth c D cy ad H locs ls X)
theorem b_lshl {x : Int64} {y : Int32} (hd : decode M.2.1 pc = .ok (.lshl, 1)) (kk : Bd S M d (pc + 1) lv (.long (x <<< (y.toInt64 &&& 63)) :: st) I r I') : Bd S M d pc lv (.int y :: .long x :: st) I r I' :=
  fun p l e s m args below meth c D cy ad H locs ls X => lv_lshl X.1.1 X.1.2.1 hd rfl (kk p l e s m args below meth c D cy ad H locs ls X)
theorem b_lshr {x : Int64} {y : Int32} (hd : decode M.2.1 pc = .ok (.lshr, 1)) (kk : Bd S M d (pc + 1) lv (.long (x >>> (y.toInt64 &&& 63)) :: st) I r I') : Bd S M d pc lv (.int y :: .long x :: st) I r I' :=
  fun p l e s m args below meth c D cy ad H locs ls X => lv_lshr X.1.1 X.1.2.1 hd rfl (kk p l e s m args below meth c D cy ad H locs ls X)
theorem b_lushr {x : Int64} {y : Int32} (hd : decode M.2.1 pc = .ok (.lushr, 1)) (kk : Bd S M d (pc + 1) lv (.long (x.toUInt64 >>> (y.toInt64.toUInt64 &&& Int64.toUInt64 63)).toInt64 :: st) I r I') : Bd S M d pc lv (.int y :: .long x :: st) I r I' :=
  fun p l e s m args below meth c D cy ad H locs ls X => lv_lushr X.1.1 X.1.2.1 hd rfl (kk p l e s m args below meth c D cy ad H locs ls X)
theorem b_l2i {x : Int64} (hd : decode M.2.1 pc = .ok (.l2i, 1)) (kk : Bd S M d (pc + 1) lv (.int x.toInt32 :: st) I r I') : Bd S M d pc lv (.long x :: st) I r I' :=
  fun p l e s m args below meth c D cy ad H locs ls X => lv_l2i X.1.1 X.1.2.1 hd rfl (kk p l e s m args below meth c D cy ad H locs ls X)
theorem b_i2l {x : Int32} (hd : decode M.2.1 pc = .ok (.i2l, 1)) (kk : Bd S M d (pc + 1) lv (.long x.toInt64 :: st) I r I') : Bd S M d pc lv (.int x :: st) I r I' :=
  fun p l e s m args below meth c D cy ad H locs ls X => lv_i2l X.1.1 X.1.2.1 hd rfl (kk p l e s m args below meth c D cy ad H locs ls X)
theorem b_i2b {x : Int32} (hd : decode M.2.1 pc = .ok (.i2b, 1)) (kk : Bd S M d (pc + 1) lv (.int x.toInt8.toInt32 :: st) I r I') : Bd S M d pc lv (.int x :: st) I r I' :=
  fun p l e s m args below meth c D cy ad H locs ls X => lv_i2b X.1.1 X.1.2.1 hd rfl (kk p l e s m args below meth c D cy ad H locs ls X)
theorem b_i2s {x : Int32} (hd : decode M.2.1 pc = .ok (.i2s, 1)) (kk : Bd S M d (pc + 1) lv (.int x.toInt16.toInt32 :: st) I r I') : Bd S M d pc lv (.int x :: st) I r I' :=
  fun p l e s m args below meth c D cy ad H locs ls X => lv_i2s X.1.1 X.1.2.1 hd rfl (kk p l e s m args below meth c D cy ad H locs ls X)
theorem b_lcmp {x y : Int64} (hd : decode M.2.1 pc = .ok (.lcmp, 1)) (kk : Bd S M d (pc + 1) lv (.int (lg_cmp x y) :: st) I r I') : Bd S M d pc lv (.long y :: .long x :: st) I r I' :=
  fun p l e s m args below meth c D cy ad H locs ls X => W.lcmp X.1.1 X.1.2.1 hd (kk p l e s m args below meth c D cy ad H locs ls X)
theorem b_dup {v : Value} (hd : decode M.2.1 pc = .ok (.dup, 1)) (hv : v.category = 1) (kk : Bd S M d (pc + 1) lv (v :: v :: st) I r I') : Bd S M d pc lv (v :: st) I r I' :=
  fun p l e s m args below meth c D cy ad H locs ls X => lv_dup X.1.1 X.1.2.1 hd (by rw [cvt_cat]; exact hv) (kk p l e s m args below meth c D cy ad H locs ls X)
theorem b_pop {v : Value} (hd : decode M.2.1 pc = .ok (.pop, 1)) (hv : v.category = 1) (kk : Bd S M d (pc + 1) lv (st) I r I') : Bd S M d pc lv (v :: st) I r I' :=
  fun p l e s m args below meth c D cy ad H locs ls X => lv_pop X.1.1 X.1.2.1 hd (by rw [cvt_cat]; exact hv) (kk p l e s m args below meth c D cy ad H locs ls X)
theorem b_dup2 {v u : Value} (hd : decode M.2.1 pc = .ok (.dup2, 1)) (hv : v.category = 1 ∧ u.category = 1) (kk : Bd S M d (pc + 1) lv (v :: u :: v :: u :: st) I r I') : Bd S M d pc lv (v :: u :: st) I r I' :=
  fun p l e s m args below meth c D cy ad H locs ls X => lv_dup2_11 X.1.1 X.1.2.1 hd (by rw [cvt_cat]; exact hv.1) (by rw [cvt_cat]; exact hv.2) (kk p l e s m args below meth c D cy ad H locs ls X)
theorem b_goto {off : Int} {tgt : Nat} (hd : decode M.2.1 pc = .ok (.goto off, 3)) (ht : (pc : Int) + off = (tgt : Int)) (kk : Bd S M d tgt lv (st) I r I') : Bd S M d pc lv (st) I r I' :=
  fun p l e s m args below meth c D cy ad H locs ls X => lv_goto X.1.1 X.1.2.1 hd ht (kk p l e s m args below meth c D cy ad H locs ls X)
theorem b_if_eq {x : Int32} {off : Int} {tgt : Nat} (hd : decode M.2.1 pc = .ok (.ifCond .eq off, 3)) (ht : (pc : Int) + off = (tgt : Int)) (kt : x = 0 → Bd S M d tgt lv st I r I') (kf : ¬ x = 0 → Bd S M d (pc + 3) lv st I r I') : Bd S M d pc lv (.int x :: st) I r I' :=
  fun p l e s m args below meth c D cy ad H locs ls X => lv_if_eq X.1.1 X.1.2.1 hd ht (fun h => kt h p l e s m args below meth c D cy ad H locs ls X) (fun h => kf h p l e s m args below meth c D cy ad H locs ls X)
theorem b_icmp_eq {x y : Int32} {off : Int} {tgt : Nat} (hd : decode M.2.1 pc = .ok (.if_icmp .eq off, 3)) (ht : (pc : Int) + off = (tgt : Int)) (kt : x = y → Bd S M d tgt lv st I r I') (kf : ¬ x = y → Bd S M d (pc + 3) lv st I r I') : Bd S M d pc lv (.int y :: .int x :: st) I r I' :=
  fun p l e s m args below meth c D cy ad H locs ls X => lv_icmp_eq X.1.1 X.1.2.1 hd ht (fun h => kt h p l e s m args below meth c D cy ad H locs ls X) (fun h => kf h p l e s m args below meth c D cy ad H locs ls X)
theorem b_if_ne {x : Int32} {off : Int} {tgt : Nat} (hd : decode M.2.1 pc = .ok (.ifCond .ne off, 3)) (ht : (pc : Int) + off = (tgt : Int)) (kt : ¬ x = 0 → Bd S M d tgt lv st I r I') (kf : x = 0 → Bd S M d (pc + 3) lv st I r I') : Bd S M d pc lv (.int x :: st) I r I' :=
  fun p l e s m args below meth c D cy ad H locs ls X => lv_if_ne X.1.1 X.1.2.1 hd ht (fun h => kt h p l e s m args below meth c D cy ad H locs ls X) (fun h => kf h p l e s m args below meth c D cy ad H locs ls X)
theorem b_icmp_ne {x y : Int32} {off : Int} {tgt : Nat} (hd : decode M.2.1 pc = .ok (.if_icmp .ne off, 3)) (ht : (pc : Int) + off = (tgt : Int)) (kt : ¬ x = y → Bd S M d tgt lv st I r I') (kf : x = y → Bd S M d (pc + 3) lv st I r I') : Bd S M d pc lv (.int y :: .int x :: st) I r I' :=
  fun p l e s m args below meth c D cy ad H locs ls X => lv_icmp_ne X.1.1 X.1.2.1 hd ht (fun h => kt h p l e s m args below meth c D cy ad H locs ls X) (fun h => kf h p l e s m args below meth c D cy ad H locs ls X)
theorem b_if_lt {x : Int32} {off : Int} {tgt : Nat} (hd : decode M.2.1 pc = .ok (.ifCond .lt off, 3)) (ht : (pc : Int) + off = (tgt : Int)) (kt : x < 0 → Bd S M d tgt lv st I r I') (kf : ¬ x < 0 → Bd S M d (pc + 3) lv st I r I') : Bd S M d pc lv (.int x :: st) I r I' :=
  fun p l e s m args below meth c D cy ad H locs ls X => lv_if_lt X.1.1 X.1.2.1 hd ht (fun h => kt h p l e s m args below meth c D cy ad H locs ls X) (fun h => kf h p l e s m args below meth c D cy ad H locs ls X)
theorem b_icmp_lt {x y : Int32} {off : Int} {tgt : Nat} (hd : decode M.2.1 pc = .ok (.if_icmp .lt off, 3)) (ht : (pc : Int) + off = (tgt : Int)) (kt : x < y → Bd S M d tgt lv st I r I') (kf : ¬ x < y → Bd S M d (pc + 3) lv st I r I') : Bd S M d pc lv (.int y :: .int x :: st) I r I' :=
  fun p l e s m args below meth c D cy ad H locs ls X => lv_icmp_lt X.1.1 X.1.2.1 hd ht (fun h => kt h p l e s m args below meth c D cy ad H locs ls X) (fun h => kf h p l e s m args below meth c D cy ad H locs ls X)
theorem b_if_ge {x : Int32} {off : Int} {tgt : Nat} (hd : decode M.2.1 pc = .ok (.ifCond .ge off, 3)) (ht : (pc : Int) + off = (tgt : Int)) (kt : 0 ≤ x → Bd S M d tgt lv st I r I') (kf : ¬ 0 ≤ x → Bd S M d (pc + 3) lv st I r I') : Bd S M d pc lv (.int x :: st) I r I' :=
  fun p l e s m args below meth c D cy ad H locs ls X => lv_if_ge X.1.1 X.1.2.1 hd ht (fun h => kt h p l e s m args below meth c D cy ad H locs ls X) (fun h => kf h p l e s m args below meth c D cy ad H locs ls X)
theorem b_icmp_ge {x y : Int32} {off : Int} {tgt : Nat} (hd : decode M.2.1 pc = .ok (.if_icmp .ge off, 3)) (ht : (pc : Int) + off = (tgt : Int)) (kt : y ≤ x → Bd S M d tgt lv st I r I') (kf : ¬ y ≤ x → Bd S M d (pc + 3) lv st I r I') : Bd S M d pc lv (.int y :: .int x :: st) I r I' :=
  fun p l e s m args below meth c D cy ad H locs ls X => lv_icmp_ge X.1.1 X.1.2.1 hd ht (fun h => kt h p l e s m args below meth c D cy ad H locs ls X) (fun h => kf h p l e s m args below meth c D cy ad H locs ls X)
theorem b_if_gt {x : Int32} {off : Int} {tgt : Nat} (hd : decode M.2.1 pc = .ok (.ifCond .gt off, 3)) (ht : (pc : Int) + off = (tgt : Int)) (kt : 0 < x → Bd S M d tgt lv st I r I') (kf : ¬ 0 < x → Bd S M d (pc + 3) lv st I r I') : Bd S M d pc lv (.int x :: st) I r I' :=
  fun p l e s m args below meth c D cy ad H locs ls X => lv_if_gt X.1.1 X.1.2.1 hd ht (fun h => kt h p l e s m args below meth c D cy ad H locs ls X) (fun h => kf h p l e s m args below meth c D cy ad H locs ls X)
theorem b_icmp_gt {x y : Int32} {off : Int} {tgt : Nat} (hd : decode M.2.1 pc = .ok (.if_icmp .gt off, 3)) (ht : (pc : Int) + off = (tgt : Int)) (kt : y < x → Bd S M d tgt lv st I r I') (kf : ¬ y < x → Bd S M d (pc + 3) lv st I r I') : Bd S M d pc lv (.int y :: .int x :: st) I r I' :=
  fun p l e s m args below meth c D cy ad H locs ls X => lv_icmp_gt X.1.1 X.1.2.1 hd ht (fun h => kt h p l e s m args below meth c D cy ad H locs ls X) (fun h => kf h p l e s m args below meth c D cy ad H locs ls X)
theorem b_if_le {x : Int32} {off : Int} {tgt : Nat} (hd : decode M.2.1 pc = .ok (.ifCond .le off, 3)) (ht : (pc : Int) + off = (tgt : Int)) (kt : x ≤ 0 → Bd S M d tgt lv st I r I') (kf : ¬ x ≤ 0 → Bd S M d (pc + 3) lv st I r I') : Bd S M d pc lv (.int x :: st) I r I' :=
  fun p l e s m args below meth c D cy ad H locs ls X => lv_if_le X.1.1 X.1.2.1 hd ht (fun h => kt h p l e s m args below meth c D cy ad H locs ls X) (fun h => kf h p l e s m args below meth c D cy ad H locs ls X)
theorem b_icmp_le {x y : Int32} {off : Int} {tgt : Nat} (hd : decode M.2.1 pc = .ok (.if_icmp .le off, 3)) (ht : (pc : Int) + off = (tgt : Int)) (kt : x ≤ y → Bd S M d tgt lv st I r I') (kf : ¬ x ≤ y → Bd S M d (pc + 3) lv st I r I') : Bd S M d pc lv (.int y :: .int x :: st) I r I' :=
  fun p l e s m args below meth c D cy ad H locs ls X => lv_icmp_le X.1.1 X.1.2.1 hd ht (fun h => kt h p l e s m args below meth c D cy ad H locs ls X) (fun h => kf h p l e s m args below meth c D cy ad H locs ls X)
end BR
