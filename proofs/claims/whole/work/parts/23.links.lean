/-! the machine's step at each kind of call -/
theorem gd_codeOf {y : MethodName} {bytes : ByteArray} {maxL : Nat} {ret : Option FieldType} (h : Cond.code y bytes maxL ret ∈ TS) (U : State) (mk : MethodId) (a' : Array Value) (hts : ∀ w ∈ TS, w.before a' U = true) (hn : U.methodNamed? y = some mk) :
    ∃ methk ck, U.vm.method? mk = some methk ∧ methk.code = some ck ∧ ck.code = bytes ∧ ck.maxLocals = maxL ∧ methk.sig.returnType = ret ∧ methk.locks = false ∧ ck.exceptionTable.toList.map (fun h => (h.startPc, h.endPc, h.handlerPc, h.catchType)) = [] := by
  obtain ⟨meth, c, h1, h2, h3, h4, h5, h6, h7, -⟩ := Cond.code_spec hn (hts _ h)
  exact ⟨meth, c, h1, h2, h3, h4, h5, h6, by rw [Array.isEmpty_iff.mp h7]; rfl⟩
theorem gd_codeWithOf {y : MethodName} {bytes : ByteArray} {maxL : Nat} {ret : Option FieldType} {hs : List (Nat × Nat × Nat × Nat)} (h : Cond.codeWith y bytes maxL ret hs ∈ TS) (U : State) (mk : MethodId) (a' : Array Value) (hts : ∀ w ∈ TS, w.before a' U = true) (hn : U.methodNamed? y = some mk) :
    ∃ methk ck, U.vm.method? mk = some methk ∧ methk.code = some ck ∧ ck.code = bytes ∧ ck.maxLocals = maxL ∧ methk.sig.returnType = ret ∧ methk.locks = false ∧ ck.exceptionTable.toList.map (fun h => (h.startPc, h.endPc, h.handlerPc, h.catchType)) = hs := by
  obtain ⟨m9, meth, c, h0, h1, h2, h3, h4, h5, h6, h7, -⟩ := Cond.codeWith_spec (hts _ h)
  cases hn.symm.trans h0
  exact ⟨meth, c, h1, h2, h3, h4, h6, h7, h5⟩
/-- a method's descriptor -/
def gd_sig (y : MethodName) (n : Nat) : Prop := (∀ (U : State) (mk : MethodId) (a' : Array Value) (x : Method), (∀ w ∈ TS, w.before a' U = true) → U.methodNamed? y = some mk → U.vm.method? mk = some x → x.sig.parameters.length = n)
theorem gd_sigOf {y : MethodName} {bytes : ByteArray} {maxL n : Nat} {ret : Option FieldType} (h : Cond.code y bytes maxL ret ∈ TS) (hd : (parseMethodDescriptor y.desc).map (fun d => d.parameters.length) = some n) : gd_sig y n := by
  intro U mk a' x hts hn hx
  obtain ⟨meth, c, h1, h2, h3, h4, h5, h6, h7, h8⟩ := Cond.code_spec hn (hts _ h)
  cases h1.symm.trans hx
  rw [h8] at hd
  exact Option.some.inj hd
theorem gd_sigWithOf {y : MethodName} {bytes : ByteArray} {maxL n : Nat} {ret : Option FieldType} {hs : List (Nat × Nat × Nat × Nat)} (h : Cond.codeWith y bytes maxL ret hs ∈ TS) (hd : (parseMethodDescriptor y.desc).map (fun d => d.parameters.length) = some n) : gd_sig y n := by
  intro U mk a' x hts hn hx
  obtain ⟨m9, meth, c, h0, h1, h2, h3, h4, h5, h6, h7, h8⟩ := Cond.codeWith_spec (hts _ h)
  cases hn.symm.trans h0
  cases h1.symm.trans hx
  rw [h8] at hd
  exact Option.some.inj hd
section GDN
variable {X : gd_X} {K : gd_K} {cc : ByteArray} {own : String} {nL : Nat} {tb : List (Nat × Nat × Nat × Nat)} {rm : Room} {cells slots : Nat} {ws : va_W} {st stk : List Value}
theorem gd_nV (hX : gd_C X K cc own nL tb rm) {y : MethodName} {index pc : Nat} {b ci : Nat} {fs : List Value} {T9 : u_T} {N n : Nat} {As : List Value} (hlink : Cond.methodLink own index y ∈ TS) (hinst : Cond.instanceMethod y ∈ TS) (hsel : Cond.selects y.cls y y ∈ TS) (hsig : gd_sig y n) (hy : y.cls ≠ "java/lang/invoke/MethodHandle" ∧ y.cls ≠ "java/lang/invoke/VarHandle")
    (q0 : Nat) (he : ws[q0]? = some (b, .inr (ci, fs))) (hc : cls_[ci]? = some (y.cls, T9, N)) (hn : As.length = n) (hstk : stk = As.reverse ++ .ref b :: st) (hd : decode cc pc = .ok (.invokevirtual index, 3))
    (H : Heap) (locs : List Loc) (ls : Array Slot) (hP : va_P K.1 cls_ ws H) : gd_N X H locs cells slots (F0 (gx_m X) pc ls stk) st y (Value.ref b :: As).toArray := by
  intro T hT Y
  have hts := hX.2.2.1.1
  obtain ⟨mk, methM, hnamed, hmethM, hstM, habM⟩ := Cond.instanceMethod_spec (hts _ hinst)
  obtain ⟨c2, r2, m2, q1, q2, q3, q4, kP, hkP, hkPi⟩ := Cond.selects_spec (hts _ hsel)
  obtain ⟨cellB, hcB, hoB, hcls⟩ := va_recv hX.2.2.1.2.1 hP hc he
  cases hcls.symm.trans q1
  cases (State.methodFound?_of_named hnamed hy).symm.trans q2
  cases hnamed.symm.trans q3
  have hselP : selectMethod (gx_e X).platform (gx_s X).vm cellB.cls mk = .method mk := by rw [Launch.admits_selectMethod Y.admits]; exact q4
  obtain ⟨vm1, Y1, hs1⟩ := Y.invokevirtual hX.1 hX.2.2.2.1 (hts _ hlink) hnamed hmethM hstM hkP hkPi hy (a := b) (cell := cellB) (by rw [hT]; exact hcB)
    (fun z h => by rw [h] at hoB; cases hoB) hselP hmethM habM hkP hkPi (g := F0 (gx_m X) pc ls stk) rfl (argsL := As) (rest := st) (hn.trans (hsig _ _ _ _ hts hnamed hmethM).symm) hstk (by rw [hX.2.1]; exact hd)
  exact ⟨mk, vm1, hnamed, Y1, hs1⟩
theorem gd_nVN (hX : gd_C X K cc own nL tb rm) {y : MethodName} {host : String} {index pc : Nat} {b ci : Nat} {fs : List Value} {T9 : u_T} {N n : Nat} {As : List Value} (hlink : Cond.methodLinkNest own index y host ∈ TS) (hinst : Cond.instanceMethod y ∈ TS) (hsel : Cond.selects y.cls y y ∈ TS) (hsig : gd_sig y n) (hy : y.cls ≠ "java/lang/invoke/MethodHandle" ∧ y.cls ≠ "java/lang/invoke/VarHandle")
    (q0 : Nat) (he : ws[q0]? = some (b, .inr (ci, fs))) (hc : cls_[ci]? = some (y.cls, T9, N)) (hn : As.length = n) (hstk : stk = As.reverse ++ .ref b :: st) (hd : decode cc pc = .ok (.invokevirtual index, 3))
    (H : Heap) (locs : List Loc) (ls : Array Slot) (hP : va_P K.1 cls_ ws H) : gd_N X H locs cells slots (F0 (gx_m X) pc ls stk) st y (Value.ref b :: As).toArray := by
  intro T hT Y
  have hts := hX.2.2.1.1
  obtain ⟨mk, methM, hnamed, hmethM, hstM, habM⟩ := Cond.instanceMethod_spec (hts _ hinst)
  obtain ⟨c2, r2, m2, q1, q2, q3, q4, kP, hkP, hkPi⟩ := Cond.selects_spec (hts _ hsel)
  obtain ⟨cellB, hcB, hoB, hcls⟩ := va_recv hX.2.2.1.2.1 hP hc he
  cases hcls.symm.trans q1
  cases (State.methodFound?_of_named hnamed hy).symm.trans q2
  cases hnamed.symm.trans q3
  have hselP : selectMethod (gx_e X).platform (gx_s X).vm cellB.cls mk = .method mk := by rw [Launch.admits_selectMethod Y.admits]; exact q4
  obtain ⟨vm1, Y1, hs1⟩ := Y.invokevirtualNest hX.1 hX.2.2.2.1 (hts _ hlink) hnamed hmethM hstM hkP hkPi hy (a := b) (cell := cellB) (by rw [hT]; exact hcB)
    (fun z h => by rw [h] at hoB; cases hoB) hselP hmethM habM hkP hkPi (g := F0 (gx_m X) pc ls stk) rfl (argsL := As) (rest := st) (hn.trans (hsig _ _ _ _ hts hnamed hmethM).symm) hstk (by rw [hX.2.1]; exact hd)
  exact ⟨mk, vm1, hnamed, Y1, hs1⟩
theorem gd_nS (hX : gd_C X K cc own nL tb rm) {y : MethodName} {index pc : Nat} {n : Nat} {As : List Value} (hlink : Cond.methodLink own index y ∈ TS) (hst : Cond.static y ∈ TS) (hini : Cond.initialized y.cls ∈ TS) (hnm : ∀ (U : State) (a' : Array Value), (∀ w ∈ TS, w.before a' U = true) → ∃ mk methk, U.methodNamed? y = some mk ∧ U.vm.method? mk = some methk) (hsig : gd_sig y n) (hy : y.cls ≠ "java/lang/invoke/MethodHandle" ∧ y.cls ≠ "java/lang/invoke/VarHandle")
    (hn : As.length = n) (hstk : stk = As.reverse ++ st) (hd : decode cc pc = .ok (.invokestatic index, 3))
    (H : Heap) (locs : List Loc) (ls : Array Slot) (hP : va_P K.1 cls_ ws H) : gd_N X H locs cells slots (F0 (gx_m X) pc ls stk) st y As.toArray := by
  intro T hT Y
  have hts := hX.2.2.1.1
  obtain ⟨mk, methM, hnamed, hmethM⟩ := hnm (gx_s X) _ hts
  have hstatic : methM.isStatic = true := Cond.static_spec hnamed hmethM (hts _ hst)
  obtain ⟨kP, hkP, -⟩ := className_of_methodNamed hnamed
  have hinitP : kP.init = .initialized := Cond.initialized_spec (findClass_of_methodNamed hnamed) hkP (hts _ hini)
  obtain ⟨vm1, Y1, hs1⟩ := Y.invokestatic hX.1 hX.2.2.2.1 (hts _ hlink) hnamed hmethM hstatic hkP hinitP hy (g := F0 (gx_m X) pc ls stk) rfl (argsL := As) (rest := st) (hn.trans (hsig _ _ _ _ hts hnamed hmethM).symm) hstk (by rw [hX.2.1]; exact hd)
  exact ⟨mk, vm1, hnamed, Y1, hs1⟩
theorem gd_nI (hX : gd_C X K cc own nL tb rm) {y : MethodName} {bytes : ByteArray} {maxL : Nat} {index pc : Nat} {b n : Nat} {As : List Value} (hlink : Cond.methodLink own index y ∈ TS) (hinst : Cond.instanceMethod y ∈ TS) (hcode : Cond.code y bytes maxL none ∈ TS) (hy1 : y.name = "<init>") (hdn : (parseMethodDescriptor y.desc).map (fun d => d.parameters.length) = some n) (hy : y.cls ≠ "java/lang/invoke/MethodHandle" ∧ y.cls ≠ "java/lang/invoke/VarHandle")
    (hn : As.length = n) (hstk : stk = As.reverse ++ .ref b :: st) (hd : decode cc pc = .ok (.invokespecial index, 3))
    (H : Heap) (locs : List Loc) (ls : Array Slot) (hP : va_P K.1 cls_ ws H) : gd_N X H locs cells slots (F0 (gx_m X) pc ls stk) st y (Value.ref b :: As).toArray := by
  intro T hT Y
  have hts := hX.2.2.1.1
  have hpl : (gx_e X).platform.magicAccessors = ({} : Platform).magicAccessors := by rw [Y.admits.platform]
  obtain ⟨mk, methM, cM, kP, vm1, hnamed, hmethM, -, -, -, -, -, -, hW1, hs1⟩ := Steps.initColdArgs (e := gx_e X) Y.here hX.1 Y.warmed hpl hX.2.2.2.1 hy1 hy (hts _ hlink) (hts _ hinst) (hts _ hcode) (f := F0 (gx_m X) pc ls stk) rfl (argsL := As) (rest := st) (a := b) (fun sig h => by rw [h] at hdn; exact hn.trans (Option.some.inj hdn).symm) hstk (by rw [hX.2.1]; exact hd)
  exact ⟨mk, vm1, hnamed, Y.noted hW1, hs1⟩
theorem gd_nIN (hX : gd_C X K cc own nL tb rm) {y : MethodName} {host : String} {bytes : ByteArray} {maxL : Nat} {index pc : Nat} {b n : Nat} {As : List Value} (hlink : Cond.methodLinkNest own index y host ∈ TS) (hinst : Cond.instanceMethod y ∈ TS) (hcode : Cond.code y bytes maxL none ∈ TS) (hy1 : y.name = "<init>") (hdn : (parseMethodDescriptor y.desc).map (fun d => d.parameters.length) = some n) (hy : y.cls ≠ "java/lang/invoke/MethodHandle" ∧ y.cls ≠ "java/lang/invoke/VarHandle")
    (hn : As.length = n) (hstk : stk = As.reverse ++ .ref b :: st) (hd : decode cc pc = .ok (.invokespecial index, 3))
    (H : Heap) (locs : List Loc) (ls : Array Slot) (hP : va_P K.1 cls_ ws H) : gd_N X H locs cells slots (F0 (gx_m X) pc ls stk) st y (Value.ref b :: As).toArray := by
  intro T hT Y
  have hts := hX.2.2.1.1
  have hpl : (gx_e X).platform.magicAccessors = ({} : Platform).magicAccessors := by rw [Y.admits.platform]
  obtain ⟨mk, methM, cM, kP, vm1, hnamed, hmethM, -, -, -, -, -, -, hW1, hs1⟩ := Steps.initColdArgsNest (e := gx_e X) Y.here hX.1 Y.warmed hpl hX.2.2.2.1 hy1 hy (hts _ hlink) (hts _ hinst) (hts _ hcode) (f := F0 (gx_m X) pc ls stk) rfl (argsL := As) (rest := st) (a := b) (fun sig h => by rw [h] at hdn; exact hn.trans (Option.some.inj hdn).symm) hstk (by rw [hX.2.1]; exact hd)
  exact ⟨mk, vm1, hnamed, Y.noted hW1, hs1⟩
end GDN
