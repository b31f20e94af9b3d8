theorem gd_nmOf {y : MethodName} {bytes : ByteArray} {maxL : Nat} {ret : Option FieldType} (h : Cond.code y bytes maxL ret ∈ TS) (U : State) (a' : Array Value) (hts : ∀ w ∈ TS, w.before a' U = true) : ∃ mk methk, U.methodNamed? y = some mk ∧ U.vm.method? mk = some methk := by
  obtain ⟨mk, hn⟩ := Cond.code_named (hts _ h)
  obtain ⟨meth, c, h1, -⟩ := Cond.code_spec hn (hts _ h)
  exact ⟨mk, meth, hn, h1⟩
theorem gd_nmWithOf {y : MethodName} {bytes : ByteArray} {maxL : Nat} {ret : Option FieldType} {hs : List (Nat × Nat × Nat × Nat)} (h : Cond.codeWith y bytes maxL ret hs ∈ TS) (U : State) (a' : Array Value) (hts : ∀ w ∈ TS, w.before a' U = true) : ∃ mk methk, U.methodNamed? y = some mk ∧ U.vm.method? mk = some methk := by
  obtain ⟨mk, meth, c, h0, h1, -⟩ := Cond.codeWith_spec (hts _ h)
  exact ⟨mk, meth, h0, h1⟩
theorem gd_inc (k : Nat) : nI k + Int32.ofInt 1 = nI (k + 1) := (nI_succ k).symm
