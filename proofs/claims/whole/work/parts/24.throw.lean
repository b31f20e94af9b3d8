/-! throws and catches -/
def gd_chain : List String := ["java/lang/RuntimeException", "java/lang/Exception"]
/-- a throw's words, for the three kinds of exceptions -/
def gd_tw (E : String) (ic ik : Nat) : Prop := Bundle.fit E = true ∧ Cond.classLink "ChunkCode" ik E ∈ TS ∧ Cond.initialized E ∈ TS ∧ ∀ w ∈ vx_atS "ChunkCode" ic E gd_chain, w ∈ TS
set_option maxRecDepth 20000 in
theorem tw_io : gd_tw "java/lang/IndexOutOfBoundsException" 109 105 := ⟨by decide +kernel, by decide +kernel, by decide +kernel, by decide +kernel⟩
set_option maxRecDepth 20000 in
theorem tw_uo : gd_tw "java/lang/UnsupportedOperationException" 67 63 := ⟨by decide +kernel, by decide +kernel, by decide +kernel, by decide +kernel⟩
set_option maxRecDepth 20000 in
theorem tw_ia : gd_tw "java/lang/IllegalArgumentException" 117 113 := ⟨by decide +kernel, by decide +kernel, by decide +kernel, by decide +kernel⟩
theorem gd_chain_fit : ∀ n ∈ gd_chain, Bundle.fit n = true := by decide +kernel
section GDT
variable {X : gd_X} {K : gd_K} {cc : ByteArray} {own : String} {nL : Nat} {tb : List (Nat × Nat × Nat × Nat)} {rm : Room} {cells slots : Nat} {ws : va_W} {lv : List (Nat × Value)} {st : List Value}
variable {wc : va_W} {post : Option Value → va_W → Prop} {xp : String → va_W → Prop} {mc ms : Nat}
/-- throw new E("text"), in a method without handlers there -/
theorem gd_throw (hX : gd_C X K cc "ChunkCode" nL tb rm) {ret : Option FieldType} (hE : gd_E X K ret wc post xp mc ms) (hl : (gx_l X).stackTraces = false) {E text : String} {ik is ic : Nat} (pc : Nat) (hw : gd_tw E ic ik) (htx : (is, text) ∈ gd_str)
    (d0 : decode cc pc = .ok (.new ik, 3)) (d3 : decode cc (pc + 3) = .ok (.dup, 1)) (d4 : decode cc (pc + 4) = .ok (.ldc is, 2)) (d6 : decode cc (pc + 6) = .ok (.invokespecial ic, 3)) (d9 : decode cc (pc + 9) = .ok (.athrow, 1))
    (hout : ∀ x ∈ tb, ¬ (x.1 ≤ pc + 9 ∧ pc + 9 < x.2.1)) (hfr : 5 < rm.frames) (hlo : (st.map fun v => v.category).sum + 82 ≤ rm.locals) (hce : cells + 1 ≤ rm.cells) (hsl : slots + 6 ≤ rm.slots) (hmc : cells + 1 ≤ mc) (hms : slots + 6 ≤ ms)
    (hp : xp E ws) : gd_W X K cells slots ws lv st pc := by
  intro H locs ls hP hD hS hlv T hT Y
  obtain ⟨hfit, hk, hini, hat⟩ := hw
  have hRm := hX.2.2.2.2.2.2.2.2.2.2
  have htr : (gx_e X).platform.stackTraces = false := (show (gx_e X).platform.stackTraces = (gx_l X).stackTraces by rw [Y.admits.platform]).trans hl
  have Y0 := vx_rebase Y (R' := { frames := (gx_R X).frames, locals := (gx_R X).locals, cells := 1, slots := 6 }) (Nat.le_refl _) (Nat.le_refl _) (by rw [hRm]; exact hce) (by rw [hRm]; exact hsl)
  obtain ⟨s', hA⟩ : ∃ z, z = (T.setVm (gx_s X).vm).setFrames (.invoking (gx_m X) (gx_args X) :: gx_below X) := ⟨_, rfl⟩
  rw [← hA] at Y0
  have hvm : s'.vm = (gx_s X).vm := by rw [hA]; rfl
  have hhp : s'.heap = H := by rw [hA]; exact hT
  have hW0 : (gx_s X).WarmedH s'.vm := by rw [hvm]; exact State.WarmedH.refl (gx_s X)
  have hS' : gd_S K (gx_args X) s' := gd_S.at (A := gx_A X) (locs := locs) hW0 hX.2.2.2.2.2.1 (by rw [hhp]; exact hS) hX.2.2.1
  obtain ⟨hts, -, -, hU', hN', hstrs, -, -⟩ := hS'
  have h : ∀ w ∈ Bundle.ownAtoms "ChunkCode" ic E gd_chain, w.before (gx_args X) s' = true := vx_own (fun w hw => hts w (hat w hw)) (vx_isRefq hU'.1) (vx_isRefq hN'.1) hU'.2.word hN'.2.word
  have hown' : s'.vm.findClass "ChunkCode" = some (gx_m X).cls := by rw [hvm]; exact hX.2.2.2.1
  have hins : (Cond.instantiable E 6).before (gx_args X) s' = true := h _ (by simp [Bundle.ownAtoms])
  obtain ⟨vm1, cX, kX, hfX, hkX, -, -, Y1, st1⟩ := Y0.newCold hX.1 (own := "ChunkCode") (C := E) (index := ik) (n := 6) hown' (hts _ hk) hins (hts _ hini)
    (g := F0 (gx_m X) pc ls st) rfl (by rw [hX.2.1]; exact d0) (Nat.le_refl _) (Nat.le_refl _)
  generalize hT1 : (T.setVm vm1).pushCell { cls := cX, slots := kX.instanceTypes.map defaultValue, vm := .none } = T1 at Y1 st1
  have hcat : (Value.ref T.heap.size).category = 1 := rfl
  have hcellA : T1.heap[T.heap.size]? = some (freshCell cX kX) := by rw [← hT1]; exact State.heap_pushCell_size _ _
  have d3' : decode (gx_c X).code (pc + 3) = .ok (.dup, 1) := by rw [hX.2.1]; exact d3
  have d4' : decode (gx_c X).code (pc + 4) = .ok (.ldc is, 2) := by rw [hX.2.1]; exact d4
  obtain ⟨sa, hstr⟩ := hstrs _ htx
  have ho : ∀ x ∈ (gx_c X).exceptionTable.toList, covers x (pc + 9) = false := by
    intro x hx
    have h9 := hout (x.startPc, x.endPc, x.handlerPc, x.catchType) (by rw [← hX.2.2.2.2.2.2.2.2.1]; exact List.mem_map.mpr ⟨x, hx, rfl⟩)
    simp only [covers, Bool.and_eq_false_iff, decide_eq_false_iff_not]
    dsimp only at h9
    omega
  obtain ⟨U, hsteps, hrun, hend, hW, hsame, ce, hce1, hO⟩ := Y1.ctorThrowS hX.1 htr (own := "ChunkCode") (cls := E) (names := gd_chain) (ic := ic) hown' hfit gd_chain_fit h (fun x hx => nomatch hx) hfX hkX hcellA (by rw [hhp, hT]; exact Nat.le_refl _) (msg := .ref sa) rfl
    (g := { method := gx_m X, pc := pc + 6, locals := ls, stack := .ref sa :: .ref T.heap.size :: .ref T.heap.size :: st, locked := none }) rfl (by rw [hX.2.2.2.2.2.2.2.1]; exact hlv.1) rfl rfl (rest := st) rfl
    (by rw [hX.2.1]; exact d6) (by rw [hX.2.1]; exact d9) ho (by rw [hRm]; exact hfr) (by
      show 2 * 0 + ((Value.ref T.heap.size :: st).map fun v => v.category).sum + (13 * (2 + 1) + 42) ≤ (gx_R X).locals
      rw [hRm]; simp only [List.map_cons, List.sum_cons, hcat]; omega) hX.2.2.2.2.2.2.2.2.2.1
  obtain ⟨f1, f2⟩ := vx_frame hsame
  rw [hhp] at f1 f2
  have hWs : (gx_s X).WarmedH U.vm := State.WarmedH.trans hW0 hW
  have hcl : (gx_s X).vm.findClass E = some ce.cls := by
    have h9 := hO.cls
    rw [hvm] at h9
    exact h9
  have hall : (gx_s X).sameButNew ({ U with vm := (gx_s X).vm } : State) locs mc ms := by
    subst hA
    obtain ⟨e1, e2⟩ := hsame
    rw [State.setFrames_setFrames] at e1
    have h2 : (T.setVm (gx_s X).vm).sameButNew ({ U with vm := (gx_s X).vm } : State) [] (0 + 1) (0 + 6) := ⟨e1, e2⟩
    have h3 := Y.same.trans h2
    rw [List.append_nil] at h3
    exact h3.mono hmc hms
  have hk2 : ∀ q : Nat, q < H.size → U.heap[q]? = H[q]? := fun q hq => f2 q hq (fun z hz => nomatch hz)
  refine ⟨U, ?_, ?_⟩
  · refine st1 _ ?_
    show Steps (gx_p X).tables (gx_e X) (gx_below X) (T1.setTop { method := gx_m X, pc := pc + 3, locals := ls, stack := .ref T.heap.size :: st, locked := none }) _
    have hx1 := hX.1
    jvm_step Y1.here [Y1.here.top, hx1, d3', Value.category]
    exact Y1.ldcString hX.1 (own := "ChunkCode") (text := text) (index := is) (a := sa) hown' hstr.1 hstr.2
      (g := { method := gx_m X, pc := pc + 4, locals := ls, stack := .ref T.heap.size :: .ref T.heap.size :: st, locked := none }) rfl d4' _ hsteps
  · rw [hE.2.2]
    rw [hE.2.1] at hD hS
    refine ⟨.threw T.heap.size, locs, hrun, hend, hWs, hall, hS.2.2, ⟨Nat.le_trans hS.1 f1, fun q h1 h2 => ?_⟩, Or.inr ⟨T.heap.size, E, ws, ce, rfl, hp, hP.kept (fun k q hq => hk2 _ (hP k q hq).lt), hD, hce1, hO.vm, hcl⟩⟩
    rw [hk2 q (Nat.lt_of_lt_of_le h1 hS.1)]
    exact hS.2.1 q h1 h2
/-- caught here: the rows ahead don't take it -/
theorem gd_catch (hX : gd_C X K cc own nL tb rm) {name E : String} {q pc : Nat} (pre : List (Nat × Nat × Nat × Nat)) (x : Nat × Nat × Nat × Nat) (suf : List (Nat × Nat × Nat × Nat)) (hsplit : tb = pre ++ x :: suf)
    (hpass : ∀ z ∈ pre, z.2.2.2 ≠ 0 ∧ ∃ nm : String, Cond.classLink own z.2.2.2 nm ∈ TS ∧ va_Nc E nm (gx_s X)) (hx : x.1 ≤ pc ∧ pc < x.2.1) (h0 : x.2.2.2 ≠ 0) (hlink : Cond.classLink own x.2.2.2 name ∈ TS) (hcast : Cond.castable E name ∈ TS)
    (kk : gd_W X K cells slots ws lv [.ref q] x.2.2.1) : gd_T X K cells slots ws lv st pc E q := by
  intro H locs ls ce T hP hD hS hl h1 h2 h3 hT Y
  have hts := hX.2.2.1.1
  have hpl : (gx_e X).platform.magicAccessors = ({} : Platform).magicAccessors := by rw [Y.admits.platform]
  obtain ⟨c3, c4, hc3, hc4, hasg⟩ := Cond.castable_spec (hts _ hcast)
  cases Option.some.inj (hc3.symm.trans h3)
  obtain ⟨c5, hc5, hcl5⟩ := Cond.classLink_spec hX.2.2.2.1 (hts _ hlink) (gx_e X).platform hpl
  cases Option.some.inj (hc4.symm.trans hc5)
  have htab : (gx_c X).exceptionTable.toList = tableOf tb := by rw [← hX.2.2.2.2.2.2.2.2.1, table_eq]
  have htab2 : (gx_c X).exceptionTable.toList = tableOf pre ++ ⟨x.1, x.2.1, x.2.2.1, x.2.2.2⟩ :: tableOf suf := by rw [htab, hsplit]; simp [tableOf]
  obtain ⟨vm', Y', st9⟩ := Y.thenCaughtThrough q (g := F0 (gx_m X) pc ls st) rfl (Steps.refl _) (by rw [hT]; exact h1) (by rw [h2]; rfl) (by obtain ⟨k9, h9, -⟩ := Vm.findClass_spec h3; exact ⟨k9, h9⟩) (tableOf pre) ⟨x.1, x.2.1, x.2.2.1, x.2.2.2⟩ (tableOf suf) htab2
    (fun z hz => by
      simp only [tableOf, List.mem_map] at hz
      obtain ⟨y, hy, rfl⟩ := hz
      obtain ⟨hz0, nm, hl1, a8, b8, g1, g2, g3⟩ := hpass y hy
      obtain ⟨c6, hc6, hcl6⟩ := Cond.classLink_spec hX.2.2.2.1 (hts _ hl1) (gx_e X).platform hpl
      cases Option.some.inj (g1.symm.trans h3)
      cases Option.some.inj (g2.symm.trans hc6)
      exact Or.inr ⟨hz0, _, hcl6, g3⟩) (by simp only [covers]; simp; omega) (Or.inr ⟨h0, c4, hcl5, hasg⟩)
  obtain ⟨t, a1, b1⟩ := kk H locs ls hP hD hS hl (T.setVm vm') hT Y'
  exact ⟨t, st9.trans a1, b1⟩
end GDT
