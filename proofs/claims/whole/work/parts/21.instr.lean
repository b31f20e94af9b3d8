/-! one row an instruction, over gd_W; written by program (wip/whole/mklayer.py) -/
section GDI
variable {X : gd_X} {K : gd_K} {cc : ByteArray} {own : String} {nL : Nat} {tb : List (Nat × Nat × Nat × Nat)} {rm : Room} {cells slots : Nat} {ws : va_W} {lv : List (Nat × Value)} {st : List Value}
theorem gd_iconst (hX : gd_C X K cc own nL tb rm) {n : Int} {v : Int32} (pc : Nat) (hd : decode cc pc = .ok (.iconst n, 1)) (hv : Int32.ofInt n = v) (k : gd_W X K cells slots ws lv (.int v :: st) (pc + 1)) : gd_W X K cells slots ws lv (st) pc := by
  intro H locs ls hP hD hS hl
  exact lv_iconst hX.1 hX.2.1 hd hv (k H locs ls hP hD hS hl)
theorem gd_bipush (hX : gd_C X K cc own nL tb rm) {n : Int} {v : Int32} (pc : Nat) (hd : decode cc pc = .ok (.bipush n, 2)) (hv : (Int8.ofInt n).toInt32 = v) (k : gd_W X K cells slots ws lv (.int v :: st) (pc + 2)) : gd_W X K cells slots ws lv (st) pc := by
  intro H locs ls hP hD hS hl
  exact lv_bipush hX.1 hX.2.1 hd hv (k H locs ls hP hD hS hl)
theorem gd_sipush (hX : gd_C X K cc own nL tb rm) {n : Int} {v : Int32} (pc : Nat) (hd : decode cc pc = .ok (.sipush n, 3)) (hv : (Int16.ofInt n).toInt32 = v) (k : gd_W X K cells slots ws lv (.int v :: st) (pc + 3)) : gd_W X K cells slots ws lv (st) pc := by
  intro H locs ls hP hD hS hl
  exact lv_sipush hX.1 hX.2.1 hd hv (k H locs ls hP hD hS hl)
theorem gd_lconst (hX : gd_C X K cc own nL tb rm) {n : Fin 2} {v : Int64} (pc : Nat) (hd : decode cc pc = .ok (.lconst n, 1)) (hv : Int64.ofNat (n : Nat) = v) (k : gd_W X K cells slots ws lv (.long v :: st) (pc + 1)) : gd_W X K cells slots ws lv (st) pc := by
  intro H locs ls hP hD hS hl
  exact lv_lconst hX.1 hX.2.1 hd hv (k H locs ls hP hD hS hl)
theorem gd_iload_n (hX : gd_C X K cc own nL tb rm) {k0 : Fin 4} {x : Int32} (pc : Nat) (hd : decode cc pc = .ok (.iload_n k0, 1)) (hk : gd_lk lv (k0 : Nat) = some (.int x)) (k : gd_W X K cells slots ws lv (.int x :: st) (pc + 1)) : gd_W X K cells slots ws lv (st) pc := by
  intro H locs ls hP hD hS hl
  exact lv_iload_n hX.1 hX.2.1 hd rfl (gd_lk_at hl hk) (k H locs ls hP hD hS hl)
theorem gd_iload (hX : gd_C X K cc own nL tb rm) {i : Nat} {x : Int32} (pc : Nat) (hd : decode cc pc = .ok (.iload i, 2)) (hk : gd_lk lv i = some (.int x)) (k : gd_W X K cells slots ws lv (.int x :: st) (pc + 2)) : gd_W X K cells slots ws lv (st) pc := by
  intro H locs ls hP hD hS hl
  exact lv_iload hX.1 hX.2.1 hd (gd_lk_at hl hk) (k H locs ls hP hD hS hl)
theorem gd_istore_n (hX : gd_C X K cc own nL tb rm) {k0 : Fin 4} {i : Nat} {x : Int32} (lv' : List (Nat × Value)) (pc : Nat) (hd : decode cc pc = .ok (.istore_n k0, 1)) (hi : (k0 : Nat) = i) (hn : i < nL) (hv : (i, Value.int x) :: lv.filter (fun q => !(q.1 == i) && !(q.1 + 1 == i && q.2.category == 2)) = lv') (k : gd_W X K cells slots ws lv' st (pc + 1)) : gd_W X K cells slots ws lv (.int x :: st) pc := by
  intro H locs ls hP hD hS hl
  exact lv_istore_n hX.1 hX.2.1 hd hi hl (by rw [hX.2.2.2.2.2.2.1]; exact hn) hv (fun ls1 hl1 => k H locs ls1 hP hD hS hl1)
theorem gd_istore (hX : gd_C X K cc own nL tb rm) {i : Nat} {x : Int32} (lv' : List (Nat × Value)) (pc : Nat) (hd : decode cc pc = .ok (.istore i, 2))  (hn : i < nL) (hv : (i, Value.int x) :: lv.filter (fun q => !(q.1 == i) && !(q.1 + 1 == i && q.2.category == 2)) = lv') (k : gd_W X K cells slots ws lv' st (pc + 2)) : gd_W X K cells slots ws lv (.int x :: st) pc := by
  intro H locs ls hP hD hS hl
  exact lv_istore hX.1 hX.2.1 hd hl (by rw [hX.2.2.2.2.2.2.1]; exact hn) hv (fun ls1 hl1 => k H locs ls1 hP hD hS hl1)
theorem gd_lload_n (hX : gd_C X K cc own nL tb rm) {k0 : Fin 4} {x : Int64} (pc : Nat) (hd : decode cc pc = .ok (.lload_n k0, 1)) (hk : gd_lk lv (k0 : Nat) = some (.long x)) (k : gd_W X K cells slots ws lv (.long x :: st) (pc + 1)) : gd_W X K cells slots ws lv (st) pc := by
  intro H locs ls hP hD hS hl
  exact lv_lload_n hX.1 hX.2.1 hd rfl (gd_lk_at hl hk) (k H locs ls hP hD hS hl)
theorem gd_lload (hX : gd_C X K cc own nL tb rm) {i : Nat} {x : Int64} (pc : Nat) (hd : decode cc pc = .ok (.lload i, 2)) (hk : gd_lk lv i = some (.long x)) (k : gd_W X K cells slots ws lv (.long x :: st) (pc + 2)) : gd_W X K cells slots ws lv (st) pc := by
  intro H locs ls hP hD hS hl
  exact lv_lload hX.1 hX.2.1 hd (gd_lk_at hl hk) (k H locs ls hP hD hS hl)
theorem gd_lstore_n (hX : gd_C X K cc own nL tb rm) {k0 : Fin 4} {i : Nat} {x : Int64} (lv' : List (Nat × Value)) (pc : Nat) (hd : decode cc pc = .ok (.lstore_n k0, 1)) (hi : (k0 : Nat) = i) (hn : i + 1 < nL) (hv : (i, Value.long x) :: lv.filter (fun q => !(q.1 == i) && (!(q.1 == i + 1) && !(q.1 + 1 == i && q.2.category == 2))) = lv') (k : gd_W X K cells slots ws lv' st (pc + 1)) : gd_W X K cells slots ws lv (.long x :: st) pc := by
  intro H locs ls hP hD hS hl
  exact lv_lstore_n hX.1 hX.2.1 hd hi hl (by rw [hX.2.2.2.2.2.2.1]; exact hn) hv (fun ls1 hl1 => k H locs ls1 hP hD hS hl1)
theorem gd_lstore (hX : gd_C X K cc own nL tb rm) {i : Nat} {x : Int64} (lv' : List (Nat × Value)) (pc : Nat) (hd : decode cc pc = .ok (.lstore i, 2))  (hn : i + 1 < nL) (hv : (i, Value.long x) :: lv.filter (fun q => !(q.1 == i) && (!(q.1 == i + 1) && !(q.1 + 1 == i && q.2.category == 2))) = lv') (k : gd_W X K cells slots ws lv' st (pc + 2)) : gd_W X K cells slots ws lv (.long x :: st) pc := by
  intro H locs ls hP hD hS hl
  exact lv_lstore hX.1 hX.2.1 hd hl (by rw [hX.2.2.2.2.2.2.1]; exact hn) hv (fun ls1 hl1 => k H locs ls1 hP hD hS hl1)
theorem gd_aload_n (hX : gd_C X K cc own nL tb rm) {k0 : Fin 4} {x : Nat} (pc : Nat) (hd : decode cc pc = .ok (.aload_n k0, 1)) (hk : gd_lk lv (k0 : Nat) = some (.ref x)) (k : gd_W X K cells slots ws lv (.ref x :: st) (pc + 1)) : gd_W X K cells slots ws lv (st) pc := by
  intro H locs ls hP hD hS hl
  exact lv_aload_n hX.1 hX.2.1 hd rfl (gd_lk_at hl hk) (k H locs ls hP hD hS hl)
theorem gd_aload (hX : gd_C X K cc own nL tb rm) {i : Nat} {x : Nat} (pc : Nat) (hd : decode cc pc = .ok (.aload i, 2)) (hk : gd_lk lv i = some (.ref x)) (k : gd_W X K cells slots ws lv (.ref x :: st) (pc + 2)) : gd_W X K cells slots ws lv (st) pc := by
  intro H locs ls hP hD hS hl
  exact lv_aload hX.1 hX.2.1 hd (gd_lk_at hl hk) (k H locs ls hP hD hS hl)
theorem gd_astore_n (hX : gd_C X K cc own nL tb rm) {k0 : Fin 4} {i : Nat} {x : Nat} (lv' : List (Nat × Value)) (pc : Nat) (hd : decode cc pc = .ok (.astore_n k0, 1)) (hi : (k0 : Nat) = i) (hn : i < nL) (hv : (i, Value.ref x) :: lv.filter (fun q => !(q.1 == i) && !(q.1 + 1 == i && q.2.category == 2)) = lv') (k : gd_W X K cells slots ws lv' st (pc + 1)) : gd_W X K cells slots ws lv (.ref x :: st) pc := by
  intro H locs ls hP hD hS hl
  exact lv_astore_n hX.1 hX.2.1 hd hi hl (by rw [hX.2.2.2.2.2.2.1]; exact hn) hv (fun ls1 hl1 => k H locs ls1 hP hD hS hl1)
theorem gd_astore (hX : gd_C X K cc own nL tb rm) {i : Nat} {x : Nat} (lv' : List (Nat × Value)) (pc : Nat) (hd : decode cc pc = .ok (.astore i, 2))  (hn : i < nL) (hv : (i, Value.ref x) :: lv.filter (fun q => !(q.1 == i) && !(q.1 + 1 == i && q.2.category == 2)) = lv') (k : gd_W X K cells slots ws lv' st (pc + 2)) : gd_W X K cells slots ws lv (.ref x :: st) pc := by
  intro H locs ls hP hD hS hl
  exact lv_astore hX.1 hX.2.1 hd hl (by rw [hX.2.2.2.2.2.2.1]; exact hn) hv (fun ls1 hl1 => k H locs ls1 hP hD hS hl1)
theorem gd_iinc (hX : gd_C X K cc own nL tb rm) {i : Nat} {n : Int} {x v : Int32} (j : Nat) (lv' : List (Nat × Value)) (pc : Nat) (hd : decode cc pc = .ok (.iinc i n, 3)) (hj : lv[j]? = some (i, .int x)) (hv : x + Int32.ofInt n = v) (hn : i < nL) (hw : (i, Value.int v) :: lv.filter (fun q => !(q.1 == i) && !(q.1 + 1 == i && q.2.category == 2)) = lv') (k : gd_W X K cells slots ws lv' st (pc + 3)) : gd_W X K cells slots ws lv st pc := by
  intro H locs ls hP hD hS hl
  exact lv_iinc hX.1 hX.2.1 hd hl hj hv (by rw [hX.2.2.2.2.2.2.1]; exact hn) hw (fun ls1 hl1 => k H locs ls1 hP hD hS hl1)
theorem gd_iadd (hX : gd_C X K cc own nL tb rm) {x y : Int32} (pc : Nat) (hd : decode cc pc = .ok (.iadd, 1))  (k : gd_W X K cells slots ws lv (.int (x + y) :: st) (pc + 1)) : gd_W X K cells slots ws lv (.int y :: .int x :: st) pc := by
  intro H locs ls hP hD hS hl
  exact lv_iadd hX.1 hX.2.1 hd (k H locs ls hP hD hS hl)
theorem gd_isub (hX : gd_C X K cc own nL tb rm) {x y : Int32} (pc : Nat) (hd : decode cc pc = .ok (.isub, 1))  (k : gd_W X K cells slots ws lv (.int (x - y) :: st) (pc + 1)) : gd_W X K cells slots ws lv (.int y :: .int x :: st) pc := by
  intro H locs ls hP hD hS hl
  exact lv_isub hX.1 hX.2.1 hd (k H locs ls hP hD hS hl)
theorem gd_imul (hX : gd_C X K cc own nL tb rm) {x y : Int32} (pc : Nat) (hd : decode cc pc = .ok (.imul, 1))  (k : gd_W X K cells slots ws lv (.int (x * y) :: st) (pc + 1)) : gd_W X K cells slots ws lv (.int y :: .int x :: st) pc := by
  intro H locs ls hP hD hS hl
  exact lv_imul hX.1 hX.2.1 hd (k H locs ls hP hD hS hl)
theorem gd_iand (hX : gd_C X K cc own nL tb rm) {x y : Int32} (pc : Nat) (hd : decode cc pc = .ok (.iand, 1))  (k : gd_W X K cells slots ws lv (.int (x &&& y) :: st) (pc + 1)) : gd_W X K cells slots ws lv (.int y :: .int x :: st) pc := by
  intro H locs ls hP hD hS hl
  exact lv_iand hX.1 hX.2.1 hd (k H locs ls hP hD hS hl)
theorem gd_ior (hX : gd_C X K cc own nL tb rm) {x y : Int32} (pc : Nat) (hd : decode cc pc = .ok (.ior, 1))  (k : gd_W X K cells slots ws lv (.int (x ||| y) :: st) (pc + 1)) : gd_W X K cells slots ws lv (.int y :: .int x :: st) pc := by
  intro H locs ls hP hD hS hl
  exact lv_ior hX.1 hX.2.1 hd (k H locs ls hP hD hS hl)
theorem gd_ixor (hX : gd_C X K cc own nL tb rm) {x y : Int32} (pc : Nat) (hd : decode cc pc = .ok (.ixor, 1))  (k : gd_W X K cells slots ws lv (.int (x ^^^ y) :: st) (pc + 1)) : gd_W X K cells slots ws lv (.int y :: .int x :: st) pc := by
  intro H locs ls hP hD hS hl
  exact lv_ixor hX.1 hX.2.1 hd (k H locs ls hP hD hS hl)
theorem gd_ishl (hX : gd_C X K cc own nL tb rm) {x y : Int32} (pc : Nat) (hd : decode cc pc = .ok (.ishl, 1))  (k : gd_W X K cells slots ws lv (.int (x <<< (y &&& 31)) :: st) (pc + 1)) : gd_W X K cells slots ws lv (.int y :: .int x :: st) pc := by
  intro H locs ls hP hD hS hl
  exact lv_ishl hX.1 hX.2.1 hd (k H locs ls hP hD hS hl)
theorem gd_ishr (hX : gd_C X K cc own nL tb rm) {x y : Int32} (pc : Nat) (hd : decode cc pc = .ok (.ishr, 1))  (k : gd_W X K cells slots ws lv (.int (x >>> (y &&& 31)) :: st) (pc + 1)) : gd_W X K cells slots ws lv (.int y :: .int x :: st) pc := by
  intro H locs ls hP hD hS hl
  exact lv_ishr hX.1 hX.2.1 hd (k H locs ls hP hD hS hl)
theorem gd_idiv (hX : gd_C X K cc own nL tb rm) {x y : Int32} (pc : Nat) (hd : decode cc pc = .ok (.idiv, 1)) (hne : ¬ y = 0) (k : gd_W X K cells slots ws lv (.int (x / y) :: st) (pc + 1)) : gd_W X K cells slots ws lv (.int y :: .int x :: st) pc := by
  intro H locs ls hP hD hS hl
  exact lv_idiv hX.1 hX.2.1 hd hne (k H locs ls hP hD hS hl)
theorem gd_irem (hX : gd_C X K cc own nL tb rm) {x y : Int32} (pc : Nat) (hd : decode cc pc = .ok (.irem, 1)) (hne : ¬ y = 0) (k : gd_W X K cells slots ws lv (.int (x - x / y * y) :: st) (pc + 1)) : gd_W X K cells slots ws lv (.int y :: .int x :: st) pc := by
  intro H locs ls hP hD hS hl
  exact lv_irem hX.1 hX.2.1 hd hne (k H locs ls hP hD hS hl)
theorem gd_ladd (hX : gd_C X K cc own nL tb rm) {x y : Int64} (pc : Nat) (hd : decode cc pc = .ok (.ladd, 1))  (k : gd_W X K cells slots ws lv (.long (x + y) :: st) (pc + 1)) : gd_W X K cells slots ws lv (.long y :: .long x :: st) pc := by
  intro H locs ls hP hD hS hl
  exact lv_ladd hX.1 hX.2.1 hd (k H locs ls hP hD hS hl)
theorem gd_lsub (hX : gd_C X K cc own nL tb rm) {x y : Int64} (pc : Nat) (hd : decode cc pc = .ok (.lsub, 1))  (k : gd_W X K cells slots ws lv (.long (x - y) :: st) (pc + 1)) : gd_W X K cells slots ws lv (.long y :: .long x :: st) pc := by
  intro H locs ls hP hD hS hl
  exact lv_lsub hX.1 hX.2.1 hd (k H locs ls hP hD hS hl)
theorem gd_lmul (hX : gd_C X K cc own nL tb rm) {x y : Int64} (pc : Nat) (hd : decode cc pc = .ok (.lmul, 1))  (k : gd_W X K cells slots ws lv (.long (x * y) :: st) (pc + 1)) : gd_W X K cells slots ws lv (.long y :: .long x :: st) pc := by
  intro H locs ls hP hD hS hl
  exact lv_lmul hX.1 hX.2.1 hd (k H locs ls hP hD hS hl)
theorem gd_land (hX : gd_C X K cc own nL tb rm) {x y : Int64} (pc : Nat) (hd : decode cc pc = .ok (.land, 1))  (k : gd_W X K cells slots ws lv (.long (x &&& y) :: st) (pc + 1)) : gd_W X K cells slots ws lv (.long y :: .long x :: st) pc := by
  intro H locs ls hP hD hS hl
  exact lv_land hX.1 hX.2.1 hd (k H locs ls hP hD hS hl)
theorem gd_lor (hX : gd_C X K cc own nL tb rm) {x y : Int64} (pc : Nat) (hd : decode cc pc = .ok (.lor, 1))  (k : gd_W X K cells slots ws lv (.long (x ||| y) :: st) (pc + 1)) : gd_W X K cells slots ws lv (.long y :: .long x :: st) pc := by
  intro H locs ls hP hD hS hl
  exact lv_lor hX.1 hX.2.1 hd (k H locs ls hP hD hS hl)
theorem gd_lxor (hX : gd_C X K cc own nL tb rm) {x y : Int64} (pc : Nat) (hd : decode cc pc = .ok (.lxor, 1))  (k : gd_W X K cells slots ws lv (.long (x ^^^ y) :: st) (pc + 1)) : gd_W X K cells slots ws lv (.long y :: .long x :: st) pc := by
  intro H locs ls hP hD hS hl
  exact lv_lxor hX.1 hX.2.1 hd (k H locs ls hP hD hS hl)
theorem gd_lneg (hX : gd_C X K cc own nL tb rm) {x : Int64} (pc : Nat) (hd : decode cc pc = .ok (.lneg, 1))  (k : gd_W X K cells slots ws lv (.long (-x) :: st) (pc + 1)) : gd_W X K cells slots ws lv (.long x :: st) pc := by
  intro H locs ls hP hD hS hl
  exact lv_lneg hX.1 hX.2.1 hd (k H locs ls hP hD hS hl)
theorem gd_ineg (hX : gd_C X K cc own nL tb rm) {x : Int32} (pc : Nat) (hd : decode cc pc = .ok (.ineg, 1))  (k : gd_W X K cells slots ws lv (.int (-x) :: st) (pc + 1)) : gd_W X K cells slots ws lv (.int x :: st) pc := by
  intro H locs ls hP hD hS hl
  exact lv_ineg hX.1 hX.2.1 hd (k H locs ls hP hD hS hl)
theorem gd_lushr (hX : gd_C X K cc own nL tb rm) {x : Int64} {y : Int32} (pc : Nat) (hd : decode cc pc = .ok (.lushr, 1))  (k : gd_W X K cells slots ws lv (.long (x.toUInt64 >>> (y.toInt64.toUInt64 &&& Int64.toUInt64 63)).toInt64 :: st) (pc + 1)) : gd_W X K cells slots ws lv (.int y :: .long x :: st) pc := by
  intro H locs ls hP hD hS hl
  exact lv_lushr hX.1 hX.2.1 hd rfl (k H locs ls hP hD hS hl)
theorem gd_lshl (hX : gd_C X K cc own nL tb rm) {x : Int64} {y : Int32} (pc : Nat) (hd : decode cc pc = .ok (.lshl, 1))  (k : gd_W X K cells slots ws lv (.long (x <<< (y.toInt64 &&& 63)) :: st) (pc + 1)) : gd_W X K cells slots ws lv (.int y :: .long x :: st) pc := by
  intro H locs ls hP hD hS hl
  exact lv_lshl hX.1 hX.2.1 hd rfl (k H locs ls hP hD hS hl)
theorem gd_lshr (hX : gd_C X K cc own nL tb rm) {x : Int64} {y : Int32} (pc : Nat) (hd : decode cc pc = .ok (.lshr, 1))  (k : gd_W X K cells slots ws lv (.long (x >>> (y.toInt64 &&& 63)) :: st) (pc + 1)) : gd_W X K cells slots ws lv (.int y :: .long x :: st) pc := by
  intro H locs ls hP hD hS hl
  exact lv_lshr hX.1 hX.2.1 hd rfl (k H locs ls hP hD hS hl)
theorem gd_iushr (hX : gd_C X K cc own nL tb rm) {x y : Int32} (pc : Nat) (hd : decode cc pc = .ok (.iushr, 1))  (k : gd_W X K cells slots ws lv (.int (x.toUInt32 >>> (y.toUInt32 &&& Int32.toUInt32 31)).toInt32 :: st) (pc + 1)) : gd_W X K cells slots ws lv (.int y :: .int x :: st) pc := by
  intro H locs ls hP hD hS hl
  exact lv_iushr hX.1 hX.2.1 hd rfl (k H locs ls hP hD hS hl)
theorem gd_i2l (hX : gd_C X K cc own nL tb rm) {x : Int32} (pc : Nat) (hd : decode cc pc = .ok (.i2l, 1))  (k : gd_W X K cells slots ws lv (.long x.toInt64 :: st) (pc + 1)) : gd_W X K cells slots ws lv (.int x :: st) pc := by
  intro H locs ls hP hD hS hl
  exact lv_i2l hX.1 hX.2.1 hd rfl (k H locs ls hP hD hS hl)
theorem gd_l2i (hX : gd_C X K cc own nL tb rm) {x : Int64} (pc : Nat) (hd : decode cc pc = .ok (.l2i, 1))  (k : gd_W X K cells slots ws lv (.int x.toInt32 :: st) (pc + 1)) : gd_W X K cells slots ws lv (.long x :: st) pc := by
  intro H locs ls hP hD hS hl
  exact lv_l2i hX.1 hX.2.1 hd rfl (k H locs ls hP hD hS hl)
theorem gd_i2b (hX : gd_C X K cc own nL tb rm) {x : Int32} (pc : Nat) (hd : decode cc pc = .ok (.i2b, 1))  (k : gd_W X K cells slots ws lv (.int x.toInt8.toInt32 :: st) (pc + 1)) : gd_W X K cells slots ws lv (.int x :: st) pc := by
  intro H locs ls hP hD hS hl
  exact lv_i2b hX.1 hX.2.1 hd rfl (k H locs ls hP hD hS hl)
theorem gd_dup (hX : gd_C X K cc own nL tb rm) {va : Value} (pc : Nat) (hd : decode cc pc = .ok (.dup, 1)) (hva : va.category = 1) (k : gd_W X K cells slots ws lv (va :: va :: st) (pc + 1)) : gd_W X K cells slots ws lv (va :: st) pc := by
  intro H locs ls hP hD hS hl
  exact lv_dup hX.1 hX.2.1 hd hva (k H locs ls hP hD hS hl)
theorem gd_pop (hX : gd_C X K cc own nL tb rm) {va : Value} (pc : Nat) (hd : decode cc pc = .ok (.pop, 1)) (hva : va.category = 1) (k : gd_W X K cells slots ws lv (st) (pc + 1)) : gd_W X K cells slots ws lv (va :: st) pc := by
  intro H locs ls hP hD hS hl
  exact lv_pop hX.1 hX.2.1 hd hva (k H locs ls hP hD hS hl)
theorem gd_dup_x1 (hX : gd_C X K cc own nL tb rm) {va vb : Value} (pc : Nat) (hd : decode cc pc = .ok (.dup_x1, 1)) (hva : va.category = 1) (hvb : vb.category = 1) (k : gd_W X K cells slots ws lv (va :: vb :: va :: st) (pc + 1)) : gd_W X K cells slots ws lv (va :: vb :: st) pc := by
  intro H locs ls hP hD hS hl
  exact lv_dup_x1 hX.1 hX.2.1 hd hva hvb (k H locs ls hP hD hS hl)
theorem gd_dup_x2 (hX : gd_C X K cc own nL tb rm) {va vb vd : Value} (pc : Nat) (hd : decode cc pc = .ok (.dup_x2, 1)) (hva : va.category = 1) (hvb : vb.category = 1) (hvd : vd.category = 1) (k : gd_W X K cells slots ws lv (va :: vb :: vd :: va :: st) (pc + 1)) : gd_W X K cells slots ws lv (va :: vb :: vd :: st) pc := by
  intro H locs ls hP hD hS hl
  exact lv_dup_x2 hX.1 hX.2.1 hd hva hvb hvd (k H locs ls hP hD hS hl)
theorem gd_dup2 (hX : gd_C X K cc own nL tb rm) {va vb : Value} (pc : Nat) (hd : decode cc pc = .ok (.dup2, 1)) (hva : va.category = 1) (hvb : vb.category = 1) (k : gd_W X K cells slots ws lv (va :: vb :: va :: vb :: st) (pc + 1)) : gd_W X K cells slots ws lv (va :: vb :: st) pc := by
  intro H locs ls hP hD hS hl
  exact lv_dup2_11 hX.1 hX.2.1 hd hva hvb (k H locs ls hP hD hS hl)
theorem gd_dup2L (hX : gd_C X K cc own nL tb rm) {va : Value} (pc : Nat) (hd : decode cc pc = .ok (.dup2, 1)) (hva : va.category = 2) (k : gd_W X K cells slots ws lv (va :: va :: st) (pc + 1)) : gd_W X K cells slots ws lv (va :: st) pc := by
  intro H locs ls hP hD hS hl
  exact lv_dup2_2 hX.1 hX.2.1 hd hva (k H locs ls hP hD hS hl)
theorem gd_pop2L (hX : gd_C X K cc own nL tb rm) {va : Value} (pc : Nat) (hd : decode cc pc = .ok (.pop2, 1)) (hva : va.category = 2) (k : gd_W X K cells slots ws lv (st) (pc + 1)) : gd_W X K cells slots ws lv (va :: st) pc := by
  intro H locs ls hP hD hS hl
  exact lv_pop2_2 hX.1 hX.2.1 hd hva (k H locs ls hP hD hS hl)
theorem gd_ldc2 (hX : gd_C X K cc own nL tb rm) {index : Nat} {v : Int64} (pc : Nat) (hd : decode cc pc = .ok (.ldc2_w index, 3)) (hk : Cond.constantLong own index v ∈ TS) (k : gd_W X K cells slots ws lv (.long v :: st) (pc + 3)) : gd_W X K cells slots ws lv (st) pc := by
  intro H locs ls hP hD hS hl
  exact lv_ldc2 hX.1 hX.2.1 hX.2.2.2.1 (hX.2.2.1.1 _ hk) hd (k H locs ls hP hD hS hl)
theorem gd_lcmp (hX : gd_C X K cc own nL tb rm) {x y : Int64} (pc : Nat) (hd : decode cc pc = .ok (.lcmp, 1))  (k : gd_W X K cells slots ws lv (.int (lg_cmp x y) :: st) (pc + 1)) : gd_W X K cells slots ws lv (.long y :: .long x :: st) pc := by
  intro H locs ls hP hD hS hl
  exact W.lcmp hX.1 hX.2.1 hd (k H locs ls hP hD hS hl)
theorem gd_if_eq (hX : gd_C X K cc own nL tb rm) {x : Int32} {off : Int} (pc tgt : Nat) (hd : decode cc pc = .ok (.ifCond .eq off, 3)) (ht : (pc : Int) + off = (tgt : Int)) (kt : x = 0 → gd_W X K cells slots ws lv st tgt) (kf : ¬ (x = 0) → gd_W X K cells slots ws lv st (pc + 3)) : gd_W X K cells slots ws lv (.int x :: st) pc := by
  intro H locs ls hP hD hS hl
  exact lv_if_eq hX.1 hX.2.1 hd ht (fun q => kt q H locs ls hP hD hS hl) (fun q => kf q H locs ls hP hD hS hl)
theorem gd_icmp_eq (hX : gd_C X K cc own nL tb rm) {x y : Int32} {off : Int} (pc tgt : Nat) (hd : decode cc pc = .ok (.if_icmp .eq off, 3)) (ht : (pc : Int) + off = (tgt : Int)) (kt : x = y → gd_W X K cells slots ws lv st tgt) (kf : ¬ (x = y) → gd_W X K cells slots ws lv st (pc + 3)) : gd_W X K cells slots ws lv (.int y :: .int x :: st) pc := by
  intro H locs ls hP hD hS hl
  exact lv_icmp_eq hX.1 hX.2.1 hd ht (fun q => kt q H locs ls hP hD hS hl) (fun q => kf q H locs ls hP hD hS hl)
theorem gd_if_ne (hX : gd_C X K cc own nL tb rm) {x : Int32} {off : Int} (pc tgt : Nat) (hd : decode cc pc = .ok (.ifCond .ne off, 3)) (ht : (pc : Int) + off = (tgt : Int)) (kt : ¬ (x = 0) → gd_W X K cells slots ws lv st tgt) (kf : x = 0 → gd_W X K cells slots ws lv st (pc + 3)) : gd_W X K cells slots ws lv (.int x :: st) pc := by
  intro H locs ls hP hD hS hl
  exact lv_if_ne hX.1 hX.2.1 hd ht (fun q => kt q H locs ls hP hD hS hl) (fun q => kf q H locs ls hP hD hS hl)
theorem gd_icmp_ne (hX : gd_C X K cc own nL tb rm) {x y : Int32} {off : Int} (pc tgt : Nat) (hd : decode cc pc = .ok (.if_icmp .ne off, 3)) (ht : (pc : Int) + off = (tgt : Int)) (kt : ¬ (x = y) → gd_W X K cells slots ws lv st tgt) (kf : x = y → gd_W X K cells slots ws lv st (pc + 3)) : gd_W X K cells slots ws lv (.int y :: .int x :: st) pc := by
  intro H locs ls hP hD hS hl
  exact lv_icmp_ne hX.1 hX.2.1 hd ht (fun q => kt q H locs ls hP hD hS hl) (fun q => kf q H locs ls hP hD hS hl)
theorem gd_if_lt (hX : gd_C X K cc own nL tb rm) {x : Int32} {off : Int} (pc tgt : Nat) (hd : decode cc pc = .ok (.ifCond .lt off, 3)) (ht : (pc : Int) + off = (tgt : Int)) (kt : x < 0 → gd_W X K cells slots ws lv st tgt) (kf : ¬ (x < 0) → gd_W X K cells slots ws lv st (pc + 3)) : gd_W X K cells slots ws lv (.int x :: st) pc := by
  intro H locs ls hP hD hS hl
  exact lv_if_lt hX.1 hX.2.1 hd ht (fun q => kt q H locs ls hP hD hS hl) (fun q => kf q H locs ls hP hD hS hl)
theorem gd_icmp_lt (hX : gd_C X K cc own nL tb rm) {x y : Int32} {off : Int} (pc tgt : Nat) (hd : decode cc pc = .ok (.if_icmp .lt off, 3)) (ht : (pc : Int) + off = (tgt : Int)) (kt : x < y → gd_W X K cells slots ws lv st tgt) (kf : ¬ (x < y) → gd_W X K cells slots ws lv st (pc + 3)) : gd_W X K cells slots ws lv (.int y :: .int x :: st) pc := by
  intro H locs ls hP hD hS hl
  exact lv_icmp_lt hX.1 hX.2.1 hd ht (fun q => kt q H locs ls hP hD hS hl) (fun q => kf q H locs ls hP hD hS hl)
theorem gd_if_ge (hX : gd_C X K cc own nL tb rm) {x : Int32} {off : Int} (pc tgt : Nat) (hd : decode cc pc = .ok (.ifCond .ge off, 3)) (ht : (pc : Int) + off = (tgt : Int)) (kt : 0 ≤ x → gd_W X K cells slots ws lv st tgt) (kf : ¬ (0 ≤ x) → gd_W X K cells slots ws lv st (pc + 3)) : gd_W X K cells slots ws lv (.int x :: st) pc := by
  intro H locs ls hP hD hS hl
  exact lv_if_ge hX.1 hX.2.1 hd ht (fun q => kt q H locs ls hP hD hS hl) (fun q => kf q H locs ls hP hD hS hl)
theorem gd_icmp_ge (hX : gd_C X K cc own nL tb rm) {x y : Int32} {off : Int} (pc tgt : Nat) (hd : decode cc pc = .ok (.if_icmp .ge off, 3)) (ht : (pc : Int) + off = (tgt : Int)) (kt : y ≤ x → gd_W X K cells slots ws lv st tgt) (kf : ¬ (y ≤ x) → gd_W X K cells slots ws lv st (pc + 3)) : gd_W X K cells slots ws lv (.int y :: .int x :: st) pc := by
  intro H locs ls hP hD hS hl
  exact lv_icmp_ge hX.1 hX.2.1 hd ht (fun q => kt q H locs ls hP hD hS hl) (fun q => kf q H locs ls hP hD hS hl)
theorem gd_if_gt (hX : gd_C X K cc own nL tb rm) {x : Int32} {off : Int} (pc tgt : Nat) (hd : decode cc pc = .ok (.ifCond .gt off, 3)) (ht : (pc : Int) + off = (tgt : Int)) (kt : 0 < x → gd_W X K cells slots ws lv st tgt) (kf : ¬ (0 < x) → gd_W X K cells slots ws lv st (pc + 3)) : gd_W X K cells slots ws lv (.int x :: st) pc := by
  intro H locs ls hP hD hS hl
  exact lv_if_gt hX.1 hX.2.1 hd ht (fun q => kt q H locs ls hP hD hS hl) (fun q => kf q H locs ls hP hD hS hl)
theorem gd_icmp_gt (hX : gd_C X K cc own nL tb rm) {x y : Int32} {off : Int} (pc tgt : Nat) (hd : decode cc pc = .ok (.if_icmp .gt off, 3)) (ht : (pc : Int) + off = (tgt : Int)) (kt : y < x → gd_W X K cells slots ws lv st tgt) (kf : ¬ (y < x) → gd_W X K cells slots ws lv st (pc + 3)) : gd_W X K cells slots ws lv (.int y :: .int x :: st) pc := by
  intro H locs ls hP hD hS hl
  exact lv_icmp_gt hX.1 hX.2.1 hd ht (fun q => kt q H locs ls hP hD hS hl) (fun q => kf q H locs ls hP hD hS hl)
theorem gd_if_le (hX : gd_C X K cc own nL tb rm) {x : Int32} {off : Int} (pc tgt : Nat) (hd : decode cc pc = .ok (.ifCond .le off, 3)) (ht : (pc : Int) + off = (tgt : Int)) (kt : x ≤ 0 → gd_W X K cells slots ws lv st tgt) (kf : ¬ (x ≤ 0) → gd_W X K cells slots ws lv st (pc + 3)) : gd_W X K cells slots ws lv (.int x :: st) pc := by
  intro H locs ls hP hD hS hl
  exact lv_if_le hX.1 hX.2.1 hd ht (fun q => kt q H locs ls hP hD hS hl) (fun q => kf q H locs ls hP hD hS hl)
theorem gd_icmp_le (hX : gd_C X K cc own nL tb rm) {x y : Int32} {off : Int} (pc tgt : Nat) (hd : decode cc pc = .ok (.if_icmp .le off, 3)) (ht : (pc : Int) + off = (tgt : Int)) (kt : x ≤ y → gd_W X K cells slots ws lv st tgt) (kf : ¬ (x ≤ y) → gd_W X K cells slots ws lv st (pc + 3)) : gd_W X K cells slots ws lv (.int y :: .int x :: st) pc := by
  intro H locs ls hP hD hS hl
  exact lv_icmp_le hX.1 hX.2.1 hd ht (fun q => kt q H locs ls hP hD hS hl) (fun q => kf q H locs ls hP hD hS hl)
theorem gd_goto (hX : gd_C X K cc own nL tb rm) {off : Int} (pc tgt : Nat) (hd : decode cc pc = .ok (.goto off, 3)) (ht : (pc : Int) + off = (tgt : Int)) (k : gd_W X K cells slots ws lv st tgt) : gd_W X K cells slots ws lv st pc := by
  intro H locs ls hP hD hS hl
  exact lv_goto hX.1 hX.2.1 hd ht (k H locs ls hP hD hS hl)
theorem gd_tableIn (hX : gd_C X K cc own nL tb rm) {dflt lo hi : Int} {offs : Array Int} {len : Nat} {x : Int32} {off : Int} (pc tgt : Nat) (hd : decode cc pc = .ok (.tableswitch dflt lo hi offs, len)) (h1 : ¬ x.toInt < lo) (h2 : ¬ hi < x.toInt) (ho : offs[(x.toInt - lo).toNat]? = some off) (ht : (pc : Int) + off = (tgt : Int)) (k : gd_W X K cells slots ws lv st tgt) : gd_W X K cells slots ws lv (.int x :: st) pc := by
  intro H locs ls hP hD hS hl
  exact lv_tableIn hX.1 hX.2.1 hd h1 h2 ho ht (k H locs ls hP hD hS hl)
theorem gd_tableOut (hX : gd_C X K cc own nL tb rm) {dflt lo hi : Int} {offs : Array Int} {len : Nat} {x : Int32} (pc tgt : Nat) (hd : decode cc pc = .ok (.tableswitch dflt lo hi offs, len)) (h : x.toInt < lo ∨ hi < x.toInt) (ht : (pc : Int) + dflt = (tgt : Int)) (k : gd_W X K cells slots ws lv st tgt) : gd_W X K cells slots ws lv (.int x :: st) pc := by
  intro H locs ls hP hD hS hl
  exact lv_tableOut hX.1 hX.2.1 hd h ht (k H locs ls hP hD hS hl)
theorem gd_eqi {x y : Int32} {pc : Nat} (h : x = y) (k : gd_W X K cells slots ws lv (.int y :: st) pc) : gd_W X K cells slots ws lv (.int x :: st) pc := by rw [h]; exact k
theorem gd_eql {x y : Int64} {pc : Nat} (h : x = y) (k : gd_W X K cells slots ws lv (.long y :: st) pc) : gd_W X K cells slots ws lv (.long x :: st) pc := by rw [h]; exact k
theorem gd_lvs (lv' : List (Nat × Value)) {pc : Nat} (ks : List Nat) (h : lv_pick lv ks = lv') (k : gd_W X K cells slots ws lv' st pc) : gd_W X K cells slots ws lv st pc := fun H locs ls hP hD hS hl => k H locs ls hP hD hS (lv_sub hl ks h)
theorem gd_wsp (ws' : va_W) {pc : Nat} (ks : List Nat) (hn : va_nd ks = true) (h : ks.map (fun i => ws[i]?) = ws'.map some) (h2 : ks.filterMap (fun i => ws[i]?) = ws') (k : gd_W X K cells slots ws' lv st pc) : gd_W X K cells slots ws lv st pc := fun H locs ls hP hD hS hl => k H locs ls (hP.sub ks h2) (hD.sub ks hn h) hS hl
theorem gd_wide {a b : Nat} {pc : Nat} (h1 : cells ≤ a) (h2 : slots ≤ b) (k : gd_W X K a b ws lv st pc) : gd_W X K cells slots ws lv st pc := fun H locs ls hP hD hS hl => W.widen h1 h2 (k H locs ls hP hD hS hl)
theorem gd_get (hX : gd_C X K cc own nL tb rm) {C : String} {T : u_T} {N ci index a : Nat} (hin : ∀ w ∈ u_ws C T N, w ∈ TS) (q0 k : Nat) (pc : Nat) (hd : decode cc pc = .ok (.getfield index, 3)) {fs : List Value} (he : ws[q0]? = some (a, .inr (ci, fs))) (hc : cls_[ci]? = some (C, T, N)) (hk : k < N) (hlink : Cond.fieldLink own index (T k).1 (T k).2.1 (T k).2.2.1 ∈ TS) {v : Value} (hv : fs[k]? = some v) (kk : gd_W X K cells slots ws lv (v :: st) (pc + 3)) : gd_W X K cells slots ws lv (.ref a :: st) pc := by
  intro H locs ls hP hD hS hl
  exact va_get hX.1 hX.2.1 hX.2.2.1.1 hin hX.2.2.2.1 hX.2.2.1.2.1 hP q0 he hc k hk (hX.2.2.1.1 _ hlink) (fun _ h => h) hv hd (kk H locs ls hP hD hS hl)
theorem gd_put (hX : gd_C X K cc own nL tb rm) {C : String} {T : u_T} {N ci index a : Nat} (hin : ∀ w ∈ u_ws C T N, w ∈ TS) (ty0 : Nat → FieldType) (hty : ∀ k, k < N → parseFieldDescriptor (T k).2.2.1 = some (ty0 k)) (hnm : ∀ a, a < N → ∀ b, b < N → a ≠ b → (T a).2.1 ≠ (T b).2.1) (q0 k : Nat) (ws' : va_W) (pc : Nat) (hd : decode cc pc = .ok (.putfield index, 3)) {fs : List Value} (he : ws[q0]? = some (a, .inr (ci, fs))) (hc : cls_[ci]? = some (C, T, N)) (hk : k < N) (hlink : Cond.fieldLink own index (T k).1 (T k).2.1 (T k).2.2.1 ∈ TS) (hfin : (T k).2.2.2 = false) {v : Value} (hn : narrow (ty0 k) v = v) (hfit : fits (ty0 k) v = true) (hlt : k < fs.length) (hw : ws.set q0 (a, .inr (ci, fs.set k v)) = ws') (kk : gd_W X K cells slots ws' lv st (pc + 3)) : gd_W X K cells slots ws lv (v :: .ref a :: st) pc := by
  subst hw
  intro H locs ls hP hD hS hl
  exact va_put hX.1 hX.2.1 hX.2.2.1.1 hin ty0 hty hnm hX.2.2.2.1 hX.2.2.1.2.1 hP hD hS q0 he hc k hk (hX.2.2.1.1 _ hlink) (fun _ h => h) hfin (hty k hk) hn hfit hlt hd (fun H1 locs1 hP1 hD1 hS1 => kk H1 locs1 ls hP1 hD1 hS1 hl)
theorem gd_putF (hX : gd_C X K cc own nL tb rm) {C : String} {T : u_T} {N ci index a : Nat} (hin : ∀ w ∈ u_ws C T N, w ∈ TS) (ty0 : Nat → FieldType) (hty : ∀ k, k < N → parseFieldDescriptor (T k).2.2.1 = some (ty0 k)) (hnm : ∀ a, a < N → ∀ b, b < N → a ≠ b → (T a).2.1 ≠ (T b).2.1) (q0 k : Nat) (ws' : va_W) (pc : Nat) (hd : decode cc pc = .ok (.putfield index, 3)) {fs : List Value} (he : ws[q0]? = some (a, .inr (ci, fs))) (hc : cls_[ci]? = some (C, T, N)) (hk : k < N) (hlink : Cond.fieldLink own index (T k).1 (T k).2.1 (T k).2.2.1 ∈ TS) (hfin : (T k).2.2.2 = true) (hin2 : (gx_meth X).name = "<init>") (hdecl : (T k).1 = own) {v : Value} (hn : narrow (ty0 k) v = v) (hfit : fits (ty0 k) v = true) (hlt : k < fs.length) (hw : ws.set q0 (a, .inr (ci, fs.set k v)) = ws') (kk : gd_W X K cells slots ws' lv st (pc + 3)) : gd_W X K cells slots ws lv (v :: .ref a :: st) pc := by
  subst hw
  intro H locs ls hP hD hS hl
  exact va_putF hX.1 hX.2.1 hX.2.2.1.1 hin ty0 hty hnm hX.2.2.2.1 hX.2.2.1.2.1 hP hD hS q0 he hc k hk (hX.2.2.1.1 _ hlink) (fun _ h => h) hfin hin2 hdecl (hty k hk) hn hfit hlt hd (fun H1 locs1 hP1 hD1 hS1 => kk H1 locs1 ls hP1 hD1 hS1 hl)
theorem gd_iald (hX : gd_C X K cc own nL tb rm) {a n : Nat} {f : Nat → Int32} {i : Int32} (q0 : Nat) (j : Nat) (pc : Nat) (hd : decode cc pc = .ok (.iaload, 1)) (he : ws[q0]? = some (a, .inl (K.2.1, n, .inl f))) (hi : i = nI j) (hj : j < n) (hn : n < 2 ^ 31) (kk : gd_W X K cells slots ws lv (.int (f j) :: st) (pc + 1)) : gd_W X K cells slots ws lv (.int i :: .ref a :: st) pc := by
  subst hi
  intro H locs ls hP hD hS hl
  refine va_iald hX.1 hX.2.1 hX.2.2.1.2.1 hP q0 0 he rfl (vp_in_nI hj hn) hd ?_
  rw [nI_clamp (Nat.lt_trans hj hn)]
  exact kk H locs ls hP hD hS hl
theorem gd_lald (hX : gd_C X K cc own nL tb rm) {a n : Nat} {f : Nat → Int64} {i : Int32} (q0 : Nat) (j : Nat) (pc : Nat) (hd : decode cc pc = .ok (.laload, 1)) (he : ws[q0]? = some (a, .inl (K.2.2.1, n, .inr (.inl f)))) (hi : i = nI j) (hj : j < n) (hn : n < 2 ^ 31) (kk : gd_W X K cells slots ws lv (.long (f j) :: st) (pc + 1)) : gd_W X K cells slots ws lv (.int i :: .ref a :: st) pc := by
  subst hi
  intro H locs ls hP hD hS hl
  refine va_lald hX.1 hX.2.1 hX.2.2.1.2.1 hP q0 1 he rfl (vp_in_nI hj hn) hd ?_
  rw [nI_clamp (Nat.lt_trans hj hn)]
  exact kk H locs ls hP hD hS hl
theorem gd_bald (hX : gd_C X K cc own nL tb rm) {a n : Nat} {f : Nat → Int32} {i : Int32} (q0 : Nat) (j : Nat) (pc : Nat) (hd : decode cc pc = .ok (.baload, 1)) (he : ws[q0]? = some (a, .inl (K.2.2.2.1, n, .inl f))) (hi : i = nI j) (hj : j < n) (hn : n < 2 ^ 31) (kk : gd_W X K cells slots ws lv (.int (f j) :: st) (pc + 1)) : gd_W X K cells slots ws lv (.int i :: .ref a :: st) pc := by
  subst hi
  intro H locs ls hP hD hS hl
  refine va_bald hX.1 hX.2.1 hX.2.2.1.2.1 hP q0 2 he rfl (vp_in_nI hj hn) hd ?_
  rw [nI_clamp (Nat.lt_trans hj hn)]
  exact kk H locs ls hP hD hS hl
theorem gd_zald (hX : gd_C X K cc own nL tb rm) {a n : Nat} {f : Nat → Int32} {i : Int32} (q0 : Nat) (j : Nat) (pc : Nat) (hd : decode cc pc = .ok (.baload, 1)) (he : ws[q0]? = some (a, .inl (K.2.2.2.2.1, n, .inl f))) (hi : i = nI j) (hj : j < n) (hn : n < 2 ^ 31) (kk : gd_W X K cells slots ws lv (.int (f j) :: st) (pc + 1)) : gd_W X K cells slots ws lv (.int i :: .ref a :: st) pc := by
  subst hi
  intro H locs ls hP hD hS hl
  refine va_zald hX.1 hX.2.1 hX.2.2.1.2.1 hP q0 3 he rfl (vp_in_nI hj hn) hd ?_
  rw [nI_clamp (Nat.lt_trans hj hn)]
  exact kk H locs ls hP hD hS hl
theorem gd_iast (hX : gd_C X K cc own nL tb rm) {a n : Nat} {f : Nat → Int32} {i : Int32} {x : Int32} (q0 : Nat) (j : Nat) (ws' : va_W) (pc : Nat) (hd : decode cc pc = .ok (.iastore, 1)) (he : ws[q0]? = some (a, .inl (K.2.1, n, .inl f))) (hi : i = nI j) (hj : j < n) (hn : n < 2 ^ 31) (hw : ws.set q0 (a, .inl (K.2.1, n, .inl (upd f j x))) = ws') (kk : gd_W X K cells slots ws' lv st (pc + 1)) : gd_W X K cells slots ws lv (.int x :: .int i :: .ref a :: st) pc := by
  subst hi
  subst hw
  intro H locs ls hP hD hS hl
  refine va_iast hX.1 hX.2.1 hX.2.2.1.2.1 hP hD hS q0 0 he rfl (vp_in_nI hj hn) hd (fun H1 locs1 hP1 hD1 hS1 => ?_)
  rw [nI_clamp (Nat.lt_trans hj hn)] at hP1 hD1
  exact kk H1 locs1 ls hP1 hD1 hS1 hl
theorem gd_last (hX : gd_C X K cc own nL tb rm) {a n : Nat} {f : Nat → Int64} {i : Int32} {x : Int64} (q0 : Nat) (j : Nat) (ws' : va_W) (pc : Nat) (hd : decode cc pc = .ok (.lastore, 1)) (he : ws[q0]? = some (a, .inl (K.2.2.1, n, .inr (.inl f)))) (hi : i = nI j) (hj : j < n) (hn : n < 2 ^ 31) (hw : ws.set q0 (a, .inl (K.2.2.1, n, .inr (.inl (vp_updL f j x)))) = ws') (kk : gd_W X K cells slots ws' lv st (pc + 1)) : gd_W X K cells slots ws lv (.long x :: .int i :: .ref a :: st) pc := by
  subst hi
  subst hw
  intro H locs ls hP hD hS hl
  refine va_last hX.1 hX.2.1 hX.2.2.1.2.1 hP hD hS q0 1 he rfl (vp_in_nI hj hn) hd (fun H1 locs1 hP1 hD1 hS1 => ?_)
  rw [nI_clamp (Nat.lt_trans hj hn)] at hP1 hD1
  exact kk H1 locs1 ls hP1 hD1 hS1 hl
theorem gd_bast (hX : gd_C X K cc own nL tb rm) {a n : Nat} {f : Nat → Int32} {i : Int32} {x : Int32} (q0 : Nat) (j : Nat) (ws' : va_W) (pc : Nat) (hd : decode cc pc = .ok (.bastore, 1)) (he : ws[q0]? = some (a, .inl (K.2.2.2.1, n, .inl f))) (hi : i = nI j) (hj : j < n) (hn : n < 2 ^ 31) (hw : ws.set q0 (a, .inl (K.2.2.2.1, n, .inl (upd f j (vp_nar .byte x)))) = ws') (kk : gd_W X K cells slots ws' lv st (pc + 1)) : gd_W X K cells slots ws lv (.int x :: .int i :: .ref a :: st) pc := by
  subst hi
  subst hw
  intro H locs ls hP hD hS hl
  refine va_bast hX.1 hX.2.1 hX.2.2.1.2.1 hP hD hS q0 2 he rfl (vp_in_nI hj hn) hd (fun H1 locs1 hP1 hD1 hS1 => ?_)
  rw [nI_clamp (Nat.lt_trans hj hn)] at hP1 hD1
  exact kk H1 locs1 ls hP1 hD1 hS1 hl
theorem gd_zast (hX : gd_C X K cc own nL tb rm) {a n : Nat} {f : Nat → Int32} {i : Int32} {x : Int32} (q0 : Nat) (j : Nat) (ws' : va_W) (pc : Nat) (hd : decode cc pc = .ok (.bastore, 1)) (he : ws[q0]? = some (a, .inl (K.2.2.2.2.1, n, .inl f))) (hi : i = nI j) (hj : j < n) (hn : n < 2 ^ 31) (hw : ws.set q0 (a, .inl (K.2.2.2.2.1, n, .inl (upd f j (vp_nar .boolean x)))) = ws') (kk : gd_W X K cells slots ws' lv st (pc + 1)) : gd_W X K cells slots ws lv (.int x :: .int i :: .ref a :: st) pc := by
  subst hi
  subst hw
  intro H locs ls hP hD hS hl
  refine va_zast hX.1 hX.2.1 hX.2.2.1.2.1 hP hD hS q0 3 he rfl (vp_in_nI hj hn) hd (fun H1 locs1 hP1 hD1 hS1 => ?_)
  rw [nI_clamp (Nat.lt_trans hj hn)] at hP1 hD1
  exact kk H1 locs1 ls hP1 hD1 hS1 hl
end GDI
