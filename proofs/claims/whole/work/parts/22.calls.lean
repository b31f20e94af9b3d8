/-! returns, calls, throws over gd_W -/
theorem gd_mono {p : Program} {l : Launch} {e : Env} {R : Room} {s : State} {m : MethodId} {args : Array Value} {below : List Frame} {meth : Method} {c : Code} {H : Heap} {locs : List Loc} {cells slots : Nat} {Q Q' : State → Prop} {g : JFrame}
    (h : ∀ t, Q t → Q' t) (k : W p l e R s m args below meth c H locs cells slots Q g) : W p l e R s m args below meth c H locs cells slots Q' g := by
  intro T hT X
  obtain ⟨t, a, b⟩ := k T hT X
  exact ⟨t, a, h t b⟩
/-- a return's end in the kit's words -/
def gd_R (K : gd_K) (wc : va_W) (post : Option Value → va_W → Prop) : Array Value → State → Outcome → State → Prop := fun _ s o t =>
  (∃ (v : Option Value) (w1 : va_W), o = .returned v ∧ post v w1 ∧ va_P K.1 cls_ w1 t.heap ∧ va_D (va_A wc s.heap.size) w1) ∧ va_F (va_A wc s.heap.size) s t
theorem gd_ofMQ {below : List Frame} {s : State} {args : Array Value} {K : gd_K} {wc : va_W} {post : Option Value → va_W → Prop} {xp : String → va_W → Prop} {mc ms : Nat} {t : State}
    (h : MQ below (gd_R K wc post) args s mc ms (va_A wc s.heap.size) t) : gd_Q below s K wc post xp mc ms t := by
  obtain ⟨o, h1, h2, ⟨h3, h4⟩, L, ⟨-, h5, h6⟩, h7⟩ := h
  exact ⟨o, L, h1, h2, h5, h6, h7, h4, Or.inl h3⟩
section GDR
variable {X : gd_X} {K : gd_K} {cc : ByteArray} {own : String} {nL : Nat} {tb : List (Nat × Nat × Nat × Nat)} {rm : Room} {cells slots : Nat} {ws : va_W} {lv : List (Nat × Value)} {st : List Value}
variable {wc : va_W} {post : Option Value → va_W → Prop} {xp : String → va_W → Prop}
theorem gd_iret (hX : gd_C X K cc own nL tb rm) (hE : gd_E X K (some .int) wc post xp cells slots) {v : Int32} (pc : Nat) (hd : decode cc pc = .ok (.ireturn, 1)) (hp : post (some (.int v)) ws) : gd_W X K cells slots ws lv [.int v] pc := by
  intro H locs ls hP hD hS hl
  rw [hE.2.2]
  rw [hE.2.1] at hD hS
  exact gd_mono (fun t h => gd_ofMQ h) (W.iret hX.1 hX.2.1 hE.1 (fun t ht _ => ⟨⟨_, ws, rfl, hp, by rw [ht]; exact hP, hD⟩, hS.F ht⟩) hS.2.2 hd hX.2.2.2.2.2.2.2.2.2.1)
theorem gd_zret (hX : gd_C X K cc own nL tb rm) (hE : gd_E X K (some .boolean) wc post xp cells slots) {v : Int32} (pc : Nat) (hd : decode cc pc = .ok (.ireturn, 1)) (hn : narrow .boolean (.int v) = .int v) (hp : post (some (.int v)) ws) : gd_W X K cells slots ws lv [.int v] pc := by
  intro H locs ls hP hD hS hl
  rw [hE.2.2]
  rw [hE.2.1] at hD hS
  exact gd_mono (fun t h => gd_ofMQ h) (W.zret hX.1 hX.2.1 hE.1 hn (fun t ht _ => ⟨⟨_, ws, rfl, hp, by rw [ht]; exact hP, hD⟩, hS.F ht⟩) hS.2.2 hd hX.2.2.2.2.2.2.2.2.2.1)
theorem gd_lret (hX : gd_C X K cc own nL tb rm) (hE : gd_E X K (some .long) wc post xp cells slots) {v : Int64} (pc : Nat) (hd : decode cc pc = .ok (.lreturn, 1)) (hp : post (some (.long v)) ws) : gd_W X K cells slots ws lv [.long v] pc := by
  intro H locs ls hP hD hS hl
  rw [hE.2.2]
  rw [hE.2.1] at hD hS
  exact gd_mono (fun t h => gd_ofMQ h) (W.lret hX.1 hX.2.1 hE.1 (fun t ht _ => ⟨⟨_, ws, rfl, hp, by rw [ht]; exact hP, hD⟩, hS.F ht⟩) hS.2.2 hd hX.2.2.2.2.2.2.2.2.2.1)
theorem gd_vret (hX : gd_C X K cc own nL tb rm) (hE : gd_E X K none wc post xp cells slots) (pc : Nat) (hd : decode cc pc = .ok (.return_, 1)) (hp : post none ws) : gd_W X K cells slots ws lv [] pc := by
  intro H locs ls hP hD hS hl
  rw [hE.2.2]
  rw [hE.2.1] at hD hS
  exact gd_mono (fun t h => gd_ofMQ h) (W.vret hX.1 hX.2.1 hE.1 (fun t ht _ => ⟨⟨_, ws, rfl, hp, by rw [ht]; exact hP, hD⟩, hS.F ht⟩) hS.2.2 hd hX.2.2.2.2.2.2.2.2.2.1)
/-- what is thrown leaves the method -/
theorem gd_out (hX : gd_C X K cc own nL tb rm) {ret : Option FieldType} (hE : gd_E X K ret wc post xp cells slots) {pc : Nat} {E : String} {q : Addr} (hout : ∀ x ∈ tb, ¬ (x.1 ≤ pc ∧ pc < x.2.1)) (hp : xp E ws) : gd_T X K cells slots ws lv st pc E q := by
  intro H locs ls ce T hP hD hS hl h1 h2 h3 hT Y
  rw [hE.2.1] at hD hS
  have ho : ∀ x ∈ (gx_c X).exceptionTable.toList, covers x pc = false := by
    intro x hx
    have h9 := hout (x.startPc, x.endPc, x.handlerPc, x.catchType) (by rw [← hX.2.2.2.2.2.2.2.2.1]; exact List.mem_map.mpr ⟨x, hx, rfl⟩)
    simp only [covers, Bool.and_eq_false_iff, decide_eq_false_iff_not]
    dsimp only at h9
    omega
  obtain ⟨a1, a2, a3, a4, a5⟩ := Y.leaveThrown q (g := F0 (gx_m X) pc ls st) rfl rfl rfl ho hX.2.2.2.2.2.2.2.2.2.1
  refine ⟨_, a1, ?_⟩
  rw [hE.2.2]
  refine ⟨.threw q, locs, a2, a3, a4, a5, hS.2.2, hS.F hT, Or.inr ⟨q, E, ws, ce, rfl, hp, ?_, hD, ?_, h2, h3⟩⟩
  · show va_P K.1 cls_ ws T.heap
    rw [hT]; exact hP
  · show T.heap[q]? = some ce
    rw [hT]; exact h1
theorem gd_wideT {a b : Nat} {pc : Nat} {E : String} {q : Addr} (h1 : cells ≤ a) (h2 : slots ≤ b) (k : gd_T X K a b ws lv st pc E q) : gd_T X K cells slots ws lv st pc E q :=
  fun H locs ls ce T hP hD hS hl h3 h4 h5 hT Y => k H locs ls ce T hP hD hS hl h3 h4 h5 hT (stand_widen Y h1 h2)
end GDR
/-- the machine's own step at a call: from the frame g to the callee's entry -/
def gd_N (X : gd_X) (H : Heap) (locs : List Loc) (cells slots : Nat) (g : JFrame) (st : List Value) (y : MethodName) (a : Array Value) : Prop :=
  ∀ T : State, T.heap = H → Stand (gx_p X) (gx_l X) (gx_e X) (gx_R X) (gx_s X) (gx_m X) (gx_args X) (gx_below X) (gx_meth X) (gx_c X) T locs cells slots →
    ∃ (mk : MethodId) (vm1 : Vm), (gx_s X).methodNamed? y = some mk ∧ Stand (gx_p X) (gx_l X) (gx_e X) (gx_R X) (gx_s X) (gx_m X) (gx_args X) (gx_below X) (gx_meth X) (gx_c X) (T.setVm vm1) locs cells slots ∧
      ∀ target, (∀ acts, Steps (gx_p X).tables (gx_e X) (gx_below X) (doInvoke (gx_e X) ((T.setVm vm1).setTop { g with stack := st }) acts mk a).1 target) → Steps (gx_p X).tables (gx_e X) (gx_below X) (T.setTop g) target
theorem gd_S.at {K : gd_K} {args a' : Array Value} {s U : State} {A : Nat → Prop} {locs : List Loc} (hW : s.WarmedH U.vm) (hA : ∀ q, A q → gd_sb K ≤ q) (hS : va_S A s.heap U.heap locs) (h : gd_S K args s) : gd_S K a' U := by
  obtain ⟨h1, h2, h3, h4⟩ := h
  refine ⟨gd_word hW h1, va_K.moved hW.alike h2, Nat.le_trans h3 hS.1, gd_Z.at hW (fun q hq => hS.2.1 q (Nat.lt_of_lt_of_le hq h3) (fun ha => ?_)) h4⟩
  have := hA q ha
  omega
section GDCALL
variable {X : gd_X} {K : gd_K} {cc : ByteArray} {own : String} {nL : Nat} {tb : List (Nat × Nat × Nat × Nat)} {rm : Room} {cells slots : Nat} {ws : va_W} {lv : List (Nat × Value)} {st stk : List Value}
/-- a call, by the callee's contract; what the caller's world has besides stays -/
theorem gd_call (hX : gd_C X K cc own nL tb rm) {y : MethodName} {bytes : ByteArray} {maxL : Nat} {ret : Option FieldType} {tbk : List (Nat × Nat × Nat × Nat)} {fr lo mc ms : Nat} {As : List Value} {wc wr : va_W} {post : Option Value → va_W → Prop} {xp : String → va_W → Prop} {ig : Instr}
    (hM : gd_M (gx_l X) y bytes maxL ret tbk fr lo mc ms K As wc post xp) (pc : Nat) (hd : decode cc pc = .ok (ig, 3))
    (hN : ∀ (H : Heap) (locs : List Loc) (ls : Array Slot), va_P K.1 cls_ ws H → gd_N X H locs cells slots (F0 (gx_m X) pc ls stk) st y As.toArray)
    (hcode : ∀ (U : State) (mk : MethodId) (a' : Array Value), (∀ w ∈ TS, w.before a' U = true) → U.methodNamed? y = some mk → ∃ methk ck, U.vm.method? mk = some methk ∧ methk.code = some ck ∧ ck.code = bytes ∧ ck.maxLocals = maxL ∧ methk.sig.returnType = ret ∧ methk.locks = false ∧ ck.exceptionTable.toList.map (fun h => (h.startPc, h.endPc, h.handlerPc, h.catchType)) = tbk)
    (hpl : plainFor y = true) (isC isR : List Nat) (hC : isC.map (fun i => ws[i]?) = wc.map some) (hC2 : isC.filterMap (fun i => ws[i]?) = wc) (hnC : va_nd isC = true) (hR : isR.map (fun i => ws[i]?) = wr.map some) (hnR : va_nd isR = true) (hdis : ∀ i ∈ isR, i ∉ isC)
    (hfr : fr + 1 ≤ rm.frames) (hlo : (st.map fun v => v.category).sum + (maxL + 11) + lo ≤ rm.locals) (hce : cells + mc ≤ rm.cells) (hsl : slots + ms ≤ rm.slots)
    (kr : ∀ (v : Option Value) (w1 : va_W), post v w1 → gd_W X K (cells + mc) (slots + ms) (wr ++ w1) lv (v.toList ++ st) (pc + 3))
    (kx : ∀ (E : String) (w1 : va_W) (q : Addr), xp E w1 → gd_T X K (cells + mc) (slots + ms) (wr ++ w1) lv st pc E q) : gd_W X K cells slots ws lv stk pc := by
  intro H locs ls hP hD hS hl T hT Y
  obtain ⟨mk, vm1, hn, Y1, st1⟩ := hN H locs ls hP T hT Y
  have hd' : decode (gx_c X).code (F0 (gx_m X) pc ls st).pc = .ok (ig, 3) := by rw [hX.2.1]; exact hd
  have hRm := hX.2.2.2.2.2.2.2.2.2.2
  have hW1 : (gx_s X).WarmedH vm1 := Y1.warmed
  have hsz : (F0 (gx_m X) pc ls st).locals.size = (gx_c X).maxLocals := by rw [hX.2.2.2.2.2.2.2.1]; exact hl.1
  have hn1 : (T.setVm vm1).methodNamed? y = some mk := by
    have e1 : ((gx_s X).setVm vm1).methodNamed? y = (gx_s X).methodNamed? y := State.methodNamed?_setVm hW1.alike y
    exact (show (T.setVm vm1).methodNamed? y = ((gx_s X).setVm vm1).methodNamed? y from rfl).trans (e1.trans hn)
  obtain ⟨methk, ck, hmk, hck, hbk, hmlk, hrk, hlk, htk⟩ := hcode (T.setVm vm1) mk #[] (gd_word (U := T.setVm vm1) hW1 hX.2.2.1.1) hn1
  have hpk : (T.setVm vm1).plainMethod mk := State.plainMethod.of_named hpl hn1 hmk
  obtain ⟨Z, hdo⟩ := Y1.into (g := F0 (gx_m X) pc ls st) rfl hsz hd' (mk := mk) As.toArray (R' := { frames := fr, cells := mc, slots := ms, locals := lo }) hmk hck hlk hpk
    (by rw [hRm]; exact hfr) (by rw [hRm, hmlk]; simpa [JFrame.monitorRoom] using hlo) (by rw [hRm]; exact hce) (by rw [hRm]; exact hsl)
  have hUh : ((T.setVm vm1).calling (F0 (gx_m X) pc ls st) mk As.toArray).heap = H := hT
  have hSU : gd_S K As.toArray ((T.setVm vm1).calling (F0 (gx_m X) pc ls st) mk As.toArray) := gd_S.at (A := gx_A X) (locs := locs) (U := (T.setVm vm1).calling (F0 (gx_m X) pc ls st) mk As.toArray) hW1 hX.2.2.2.2.2.1 (by rw [hUh]; exact hS) hX.2.2.1
  have hDc : va_D (fun q => gd_sb K ≤ q) wc := (hD.sub isC hnC hC).weaken (fun k q _ hq => hX.2.2.2.2.2.1 _ hq)
  obtain ⟨t, s2, o, L, b1, b2, b3, b4, b5, b6, b7⟩ := hM _ _ _ _ _ _ _ _ _ Z (by rfl) hX.1 hSU hbk hmlk htk hrk hlk
    (by exact findClass_of_methodNamed hn1) (name_of_methodNamed hn1 hmk).1 rfl (by rw [hUh]; exact hP.sub isC hC2) hDc
  rw [hUh] at b5
  have hF : ∀ q, va_A wc H.size q → gx_A X q := va_free hD hS hX.2.2.2.2.1 isC hC
  have hst : ∀ target, Steps (gx_p X).tables (gx_e X) (gx_below X) t target → Steps (gx_p X).tables (gx_e X) (gx_below X) (T.setTop (F0 (gx_m X) pc ls stk)) target := fun target h9 => st1 target (fun acts => by
    have e1 := hdo acts
    refine Steps.trans (s₂ := t) ?_ h9
    refine gd_weak (mid := [.java (F0 (gx_m X) pc ls st)]) ?_
    show Steps (gx_p X).tables (gx_e X) (.java (F0 (gx_m X) pc ls st) :: gx_below X) (doInvoke (gx_e X) ((T.setVm vm1).setTop (F0 (gx_m X) pc ls st)) acts mk As.toArray).1 t
    rw [e1, hmlk]
    rw [hmlk] at s2
    exact s2)
  have hS1 : va_S (gx_A X) (gx_s X).heap t.heap (locs ++ L) := by
    obtain ⟨f1, f2⟩ := b6
    rw [hUh] at f1 f2
    refine ⟨Nat.le_trans hS.1 f1, fun q hq ha => ?_, fun z hz => ?_⟩
    · rw [f2 q (Nat.lt_of_lt_of_le hq hS.1) (fun h => ha (hF q h))]
      exact hS.2.1 q hq ha
    · rcases List.mem_append.mp hz with h | h
      · exact hS.2.2 z h
      · exact hF _ (b5 z h)
  have hk1 : ∀ q : Nat, q < H.size → ¬ va_A wc H.size q → t.heap[q]? = H[q]? := by
    intro q h1 h2
    have := b6.2 q (by rw [hUh]; exact h1) (by rw [hUh]; exact h2)
    rw [hUh] at this
    exact this
  rcases b7 with ⟨v, w1, rfl, c1, c2, c3⟩ | ⟨q, E, w1, ce, rfl, c1, c2, c3, c4, c5, c6⟩
  · rw [hUh] at c3
    obtain ⟨hP1, hD1⟩ := va_join (wr := wr) (w1 := w1) hP hD isC isR hC hR hnR hdis hk1 hF c2 c3
    obtain ⟨T', X', -, -, ht⟩ := Y1.outOf (g := F0 (gx_m X) pc ls st) rfl hd' b2 b3 b4
    have hth : T'.heap = t.heap := by rw [ht]; simp
    obtain ⟨t2, a1, a2⟩ := kr v w1 c1 t.heap (locs ++ L) ls hP1 hD1 hS1 hl T' hth X'
    refine ⟨t2, hst t2 ?_, a2⟩
    rw [ht]
    exact a1
  · rw [hUh] at c3
    obtain ⟨hP1, hD1⟩ := va_join (wr := wr) (w1 := w1) hP hD isC isR hC hR hnR hdis hk1 hF c2 c3
    obtain ⟨T', X', -, -, ht⟩ := Y1.outOfThrown (g := F0 (gx_m X) pc ls st) rfl b2 b3 b4
    have hth : T'.heap = t.heap := by rw [ht]; exact (Stand.throwing_heap T' _ q).symm
    have c6' : (gx_s X).vm.findClass E = some ce.cls := by rw [← hW1.alike.findClass]; exact c6
    obtain ⟨t2, a1, a2⟩ := kx E w1 q c1 t.heap (locs ++ L) ls ce T' hP1 hD1 hS1 hl c4 c5 c6' hth X'
    refine ⟨t2, hst t2 ?_, a2⟩
    rw [ht]
    exact a1
end GDCALL
