section
/-! the tables' words (began as kit/laws/SKELETON.whole's part A) -/
def lw_okq (q : MethodName × Nat) : Prop := (q.1.cls ≠ "java/lang/invoke/MethodHandle" ∧ q.1.cls ≠ "java/lang/invoke/VarHandle") ∧ Cond.instantiable q.1.cls q.2 ∈ tables_1 ∧ Cond.privateMethod q.1 ∈ tables_1 ∧ Cond.instanceMethod q.1 ∈ tables_1
theorem lw_p0 : lw_okq (⟨"ChunkCode$Runs", "addCell", "(J)V"⟩, 3) := ⟨⟨by decide +kernel, by decide +kernel⟩, List.mem_of_getElem? (i := 37) (by decide +kernel), List.mem_of_getElem? (i := 119) (by decide +kernel), List.mem_of_getElem? (i := 120) (by decide +kernel)⟩
theorem lw_p1 : lw_okq (⟨"java/lang/Throwable", "fillInStackTrace", "(I)Ljava/lang/Throwable;"⟩, 6) := ⟨⟨by decide +kernel, by decide +kernel⟩, List.mem_of_getElem? (i := 210) (by decide +kernel), List.mem_of_getElem? (i := 208) (by decide +kernel), List.mem_of_getElem? (i := 209) (by decide +kernel)⟩
theorem lw_p2 : lw_okq (⟨"ChunkCode$Reader", "readMask", "(LChunkCode$Octets;)J"⟩, 2) := ⟨⟨by decide +kernel, by decide +kernel⟩, List.mem_of_getElem? (i := 68) (by decide +kernel), List.mem_of_getElem? (i := 341) (by decide +kernel), List.mem_of_getElem? (i := 342) (by decide +kernel)⟩
theorem lw_p3 : lw_okq (⟨"ChunkCode$Reader", "readRuns", "(LChunkCode$Octets;JLChunkCode$Cells;)Z"⟩, 2) := ⟨⟨by decide +kernel, by decide +kernel⟩, List.mem_of_getElem? (i := 68) (by decide +kernel), List.mem_of_getElem? (i := 346) (by decide +kernel), List.mem_of_getElem? (i := 347) (by decide +kernel)⟩
theorem lw_p4 : lw_okq (⟨"ChunkCode$Reader", "readSize", "(LChunkCode$Octets;I)I"⟩, 2) := ⟨⟨by decide +kernel, by decide +kernel⟩, List.mem_of_getElem? (i := 68) (by decide +kernel), List.mem_of_getElem? (i := 356) (by decide +kernel), List.mem_of_getElem? (i := 357) (by decide +kernel)⟩
theorem lw_p5 : lw_okq (⟨"ChunkCode$Reader", "readFolded", "(LChunkCode$Octets;Z)Z"⟩, 2) := ⟨⟨by decide +kernel, by decide +kernel⟩, List.mem_of_getElem? (i := 68) (by decide +kernel), List.mem_of_getElem? (i := 360) (by decide +kernel), List.mem_of_getElem? (i := 361) (by decide +kernel)⟩
theorem lw_p6 : lw_okq (⟨"ChunkCode$Reader", "endFolded", "(ZZ)Z"⟩, 2) := ⟨⟨by decide +kernel, by decide +kernel⟩, List.mem_of_getElem? (i := 68) (by decide +kernel), List.mem_of_getElem? (i := 364) (by decide +kernel), List.mem_of_getElem? (i := 365) (by decide +kernel)⟩
theorem lw_p7 : lw_okq (⟨"ChunkCode", "octetsNow", "()I"⟩, 7) := ⟨⟨by decide +kernel, by decide +kernel⟩, List.mem_of_getElem? (i := 15) (by decide +kernel), List.mem_of_getElem? (i := 386) (by decide +kernel), List.mem_of_getElem? (i := 387) (by decide +kernel)⟩
theorem lw_p8 : lw_okq (⟨"ChunkCodeModel", "fails", "(ZI)Z"⟩, 12) := ⟨⟨by decide +kernel, by decide +kernel⟩, List.mem_of_getElem? (i := 391) (by decide +kernel), List.mem_of_getElem? (i := 446) (by decide +kernel), List.mem_of_getElem? (i := 447) (by decide +kernel)⟩
theorem lw_p9 : lw_okq (⟨"ChunkCodeModel", "lay", "()I"⟩, 12) := ⟨⟨by decide +kernel, by decide +kernel⟩, List.mem_of_getElem? (i := 391) (by decide +kernel), List.mem_of_getElem? (i := 466) (by decide +kernel), List.mem_of_getElem? (i := 467) (by decide +kernel)⟩
theorem lw_p10 : lw_okq (⟨"ChunkCodeModel", "next", "(I)I"⟩, 12) := ⟨⟨by decide +kernel, by decide +kernel⟩, List.mem_of_getElem? (i := 391) (by decide +kernel), List.mem_of_getElem? (i := 470) (by decide +kernel), List.mem_of_getElem? (i := 471) (by decide +kernel)⟩
theorem lw_p11 : lw_okq (⟨"ChunkCodeModel", "wrongAt", "()I"⟩, 12) := ⟨⟨by decide +kernel, by decide +kernel⟩, List.mem_of_getElem? (i := 391) (by decide +kernel), List.mem_of_getElem? (i := 487) (by decide +kernel), List.mem_of_getElem? (i := 488) (by decide +kernel)⟩
def lw_privs_1 : List (MethodName × Nat) := [(⟨"ChunkCode$Runs", "addCell", "(J)V"⟩, 3), (⟨"java/lang/Throwable", "fillInStackTrace", "(I)Ljava/lang/Throwable;"⟩, 6), (⟨"ChunkCode$Reader", "readMask", "(LChunkCode$Octets;)J"⟩, 2), (⟨"ChunkCode$Reader", "readRuns", "(LChunkCode$Octets;JLChunkCode$Cells;)Z"⟩, 2), (⟨"ChunkCode$Reader", "readSize", "(LChunkCode$Octets;I)I"⟩, 2), (⟨"ChunkCode$Reader", "readFolded", "(LChunkCode$Octets;Z)Z"⟩, 2), (⟨"ChunkCode$Reader", "endFolded", "(ZZ)Z"⟩, 2), (⟨"ChunkCode", "octetsNow", "()I"⟩, 7), (⟨"ChunkCodeModel", "fails", "(ZI)Z"⟩, 12), (⟨"ChunkCodeModel", "lay", "()I"⟩, 12), (⟨"ChunkCodeModel", "next", "(I)I"⟩, 12), (⟨"ChunkCodeModel", "wrongAt", "()I"⟩, 12)]
theorem lw_r1 : ∀ q ∈ lw_privs_1, lw_okq q := List.forall_mem_cons.mpr ⟨lw_p0, List.forall_mem_cons.mpr ⟨lw_p1, List.forall_mem_cons.mpr ⟨lw_p2, List.forall_mem_cons.mpr ⟨lw_p3, List.forall_mem_cons.mpr ⟨lw_p4, List.forall_mem_cons.mpr ⟨lw_p5, List.forall_mem_cons.mpr ⟨lw_p6, List.forall_mem_cons.mpr ⟨lw_p7, List.forall_mem_cons.mpr ⟨lw_p8, List.forall_mem_cons.mpr ⟨lw_p9, List.forall_mem_cons.mpr ⟨lw_p10, List.forall_mem_cons.mpr ⟨lw_p11, fun _ h => absurd h List.not_mem_nil⟩⟩⟩⟩⟩⟩⟩⟩⟩⟩⟩⟩
def lw_privs : List (MethodName × Nat) := lw_privs_1
def lw_tbl : List Cond := k2_sels lw_privs ++ tables_1
theorem lw_privs_ok : ∀ q ∈ lw_privs, lw_okq q := lw_r1
end
section
/-! what a throw asks of the tables and of two statics (rows of claim/NAMES.whole) -/
section VXE
variable {p : Program} {l : Launch} {e : Env} {R : Room} {s : State} {m : MethodId} {args : Array Value} {below : List Frame} {meth : Method} {c : Code} {H : Heap} {locs : List Loc} {cells slots : Nat} {Q : State → Prop}
variable {mc ms : Nat} {free : Addr → Prop} {A0 A1 : Nat → Prop} {H0 : Heap} {a : Array Value} {ls : Array Slot} {st0 rest : List Value}
variable {Qc : Array Value → State → Outcome → State → Prop} {XC : String → State → State → Prop}
theorem vx_frame {U : State} {k n : Nat} (h : s.sameButNew ({ U with vm := s.vm } : State) locs k n) : s.heap.size ≤ U.heap.size ∧ ∀ q : Nat, q < s.heap.size → (∀ z ∈ locs, z.base ≠ q) → U.heap[q]? = s.heap[q]? := by
  obtain ⟨-, h2, -, -, -, h6⟩ := h
  refine ⟨h2, fun q hq hz => ?_⟩
  obtain ⟨c9, e1, e2, e3, e4⟩ := h6 q _ (Array.getElem?_eq_getElem hq)
  have hs : c9.slots = (s.heap[q]).slots := Array.ext_getElem? fun i => e4 i fun hm => hz _ hm rfl
  have h9 : c9 = s.heap[q] := by
    rw [hs] at e2
    exact e2
  have e5 : U.heap[q]? = some c9 := e1
  rw [e5, h9, Array.getElem?_eq_getElem hq]
def vx_no (w : Cond) : Bool := decide (w ≠ .isRef (.static Bundle.tN "UNASSIGNED_STACK" Bundle.steD)) && decide (w ≠ .isRef (.static Bundle.tN "SUPPRESSED_SENTINEL" Bundle.listD)) && decide (w ≠ .laysStatic Bundle.tN "UNASSIGNED_STACK" Bundle.steD) && decide (w ≠ .laysStatic Bundle.tN "SUPPRESSED_SENTINEL" Bundle.listD)
def vx_at0 (own : String) (ic : Nat) (X : String) (names : List String) : List Cond := (Bundle.ownAtoms0 own ic X names).filter vx_no
def vx_atS (own : String) (ic : Nat) (X : String) (names : List String) : List Cond := (Bundle.ownAtoms own ic X names).filter vx_no
def vx_ot (w : Cond) : Bool := w.onTables || goodWord w
theorem vx_ot_at {args a' : Array Value} {s U : State} {w : Cond} (hW : s.WarmedH U.vm) (hvm : s.vm = U.vm) (hg : vx_ot w = true) (h : w.before args s = true) : w.before a' U = true := by
  simp only [vx_ot, Bool.or_eq_true] at hg
  rcases hg with hg | hg
  · exact va_tabs hg hvm h
  · exact word_at hW (good_of_word hg) h
theorem vx_hat {args : Array Value} {s : State} {L B : List Cond} (h1 : ∀ w ∈ L.filter goodWord, w.before args s = true) (h2 : ∀ w ∈ L.filter (fun w => !goodWord w), w ∈ B) (h3 : ∀ w ∈ B, w.before args s = true) : ∀ w ∈ L, w.before args s = true := by
  intro w hw
  by_cases g : goodWord w = true
  · exact h1 w (List.mem_filter.mpr ⟨hw, g⟩)
  · refine h3 w (h2 w (List.mem_filter.mpr ⟨hw, ?_⟩))
    show (!goodWord w) = true
    cases hgw : goodWord w
    · rfl
    · exact absurd hgw g
theorem vx_c {args : Array Value} {s : State} {w : Cond} {B : List Cond} (h : w.before args s = true) (t : ∀ w ∈ B, w.before args s = true) : ∀ w' ∈ w :: B, w'.before args s = true := fun w' h' => (List.mem_cons.mp h').elim (fun e => by rw [e]; exact h) (t w')
theorem vx_n {args : Array Value} {s : State} : ∀ w ∈ ([] : List Cond), w.before args s = true := fun _ h => nomatch h
theorem vx_own {args : Array Value} {s : State} {L : List Cond} (h1 : ∀ w ∈ L.filter vx_no, w.before args s = true)
    (hU : (Cond.isRef (.static Bundle.tN "UNASSIGNED_STACK" Bundle.steD)).before args s = true) (hN : (Cond.isRef (.static Bundle.tN "SUPPRESSED_SENTINEL" Bundle.listD)).before args s = true)
    (lU : (Cond.laysStatic Bundle.tN "UNASSIGNED_STACK" Bundle.steD).before args s = true) (lN : (Cond.laysStatic Bundle.tN "SUPPRESSED_SENTINEL" Bundle.listD).before args s = true) : ∀ w ∈ L, w.before args s = true := by
  intro w hw
  by_cases e1 : w = .isRef (.static Bundle.tN "UNASSIGNED_STACK" Bundle.steD)
  · rw [e1]; exact hU
  · by_cases e2 : w = .isRef (.static Bundle.tN "SUPPRESSED_SENTINEL" Bundle.listD)
    · rw [e2]; exact hN
    · by_cases e3 : w = .laysStatic Bundle.tN "UNASSIGNED_STACK" Bundle.steD
      · rw [e3]; exact lU
      · by_cases e4 : w = .laysStatic Bundle.tN "SUPPRESSED_SENTINEL" Bundle.listD
        · rw [e4]; exact lN
        · exact h1 w (List.mem_filter.mpr ⟨hw, by unfold vx_no; rw [decide_eq_true e1, decide_eq_true e2, decide_eq_true e3, decide_eq_true e4]; rfl⟩)
def vx_L (C n d : String) (A : Nat → Prop) (U : State) (H : Heap) : Prop := ∃ (c : ClassId) (k : Class) (i : Nat) (f : Field) (a : Nat) (cell : Cell), U.vm.findClass C = some c ∧ U.fieldFound? C n d = some (c, k, i, f) ∧ f.isStatic = true ∧ k.statics = some a ∧ H[a]? = some cell ∧ cell.vm.isStatics = true ∧ cell.cls = c ∧ f.slot < cell.slots.size ∧ k.staticTypes[f.slot]? = some f.type ∧ ¬ A a
theorem vx_L.moved {C n d : String} {A : Nat → Prop} {u U : State} {H : Heap} (hvm : u.vm.Alike U.vm) (h : vx_L C n d A u H) : vx_L C n d A U H := by
  obtain ⟨c, k, i, f, a, cell, h1, h2, h3, h4, h5, h6, h7, h8, h9, h10⟩ := h
  obtain ⟨k', hi', he⟩ := State.fieldFound?_setVm hvm h2
  exact ⟨c, k', i, f, a, cell, by rw [hvm.findClass]; exact h1, hi', h3, by rw [he]; exact h4, h5, h6, h7, h8, by rw [he]; exact h9, h10⟩
theorem vx_L.kept {C n d : String} {A : Nat → Prop} {U : State} {H H1 : Heap} (h : vx_L C n d A U H) (hq : ∀ a : Nat, a < H.size → ¬ A a → H1[a]? = H[a]?) : vx_L C n d A U H1 := by
  obtain ⟨c, k, i, f, a, cell, h1, h2, h3, h4, h5, h6, h7, h8, h9, h10⟩ := h
  exact ⟨c, k, i, f, a, cell, h1, h2, h3, h4, by rw [hq a (Array.getElem?_eq_some_iff.mp h5).1 h10]; exact h5, h6, h7, h8, h9, h10⟩
theorem vx_L.narrow {C n d : String} {A B : Nat → Prop} {U : State} {H : Heap} (h : vx_L C n d A U H) (hAB : ∀ q, B q → A q) : vx_L C n d B U H := by
  obtain ⟨c, k, i, f, a, cell, h1, h2, h3, h4, h5, h6, h7, h8, h9, h10⟩ := h
  exact ⟨c, k, i, f, a, cell, h1, h2, h3, h4, h5, h6, h7, h8, h9, fun z => h10 (hAB _ z)⟩
theorem vx_L.word {C n d : String} {A : Nat → Prop} {s : State} {args : Array Value} (h : vx_L C n d A s s.heap) : (Cond.laysStatic C n d).before args s = true := by
  obtain ⟨c, k, i, f, a, cell, h1, h2, h3, h4, h5, h6, h7, h8, h9, -⟩ := h
  show (Cond.laysStatic C n d).holds args s none s [] = true
  exact Cond.laysStatic_of h1 h2 h3 h4 h5 h6 h7 h8 h9
def vx_Zq (C n d : String) (A : Nat → Prop) (U : State) (H : Heap) : Prop := va_Zq C n d A U H ∧ vx_L C n d A U H
theorem vx_Zq.moved {C n d : String} {A : Nat → Prop} {u U : State} {H : Heap} (hvm : u.vm.Alike U.vm) (h : vx_Zq C n d A u H) : vx_Zq C n d A U H := ⟨va_Zq.moved hvm h.1, vx_L.moved hvm h.2⟩
theorem vx_Zq.kept {C n d : String} {A : Nat → Prop} {U : State} {H H1 : Heap} (h : vx_Zq C n d A U H) (hq : ∀ a : Nat, a < H.size → ¬ A a → H1[a]? = H[a]?) : vx_Zq C n d A U H1 := ⟨va_Zq.kept h.1 hq, vx_L.kept h.2 hq⟩
theorem vx_Zq.narrow {C n d : String} {A B : Nat → Prop} {U : State} {H : Heap} (h : vx_Zq C n d A U H) (hAB : ∀ q, B q → A q) : vx_Zq C n d B U H := ⟨va_Zq.narrow h.1 hAB, vx_L.narrow h.2 hAB⟩
theorem vx_Zqof {args : Array Value} {s : State} {C n d : String} {A : Nat → Prop} (hl : (Cond.laysStatic C n d).before args s = true) (hini : (Cond.initialized C).before args s = true) (h : (Cond.isRef (.static C n d)).before args s = true) (hA : ∀ a : Nat, a < s.heap.size → ¬ A a) : vx_Zq C n d A s s.heap := by
  refine ⟨va_Zqof hl hini h hA, ?_⟩
  obtain ⟨c, k, i, f, a, cell, h1, h2, h3, h4, h5, h6, h7, h8, h9⟩ := Cond.laysStatic_spec hl
  exact ⟨c, k, i, f, a, cell, h1, h2, h3, h4, h5, h6, h7, h8, h9, hA a (Array.getElem?_eq_some_iff.mp h5).1⟩
theorem vx_isRef {C n d : String} {v : Value} {A : Nat → Prop} {s : State} {args : Array Value} (h : va_Z C n d v A s s.heap) (hv : v.isRef = true) : (Cond.isRef (.static C n d)).before args s = true := by
  obtain ⟨cf, kf, fi, f, a, cell, h1, h2, h3, h4, h5, h6, h7, -⟩ := h
  have he : (Term.static C n d).eval args s none [] s = some v := by
    simp [Term.eval, State.fieldNamed?, h1, h2, h4, h5, h6, h7]
  simp only [Cond.before, Cond.holds, Cond.value, he]
  cases v <;> simp_all [Value.isRef]
theorem vx_isRefq {C n d : String} {A : Nat → Prop} {s : State} {args : Array Value} (h : va_Zq C n d A s s.heap) : (Cond.isRef (.static C n d)).before args s = true := by
  rcases h with h | ⟨t, h⟩
  · exact vx_isRef h rfl
  · exact vx_isRef h rfl
theorem vx_rebase {T : State} (X : Stand p l e R s m args below meth c T locs cells slots) {R' : Room} (hf : R'.frames ≤ R.frames) (hl : R'.locals ≤ R.locals) (hc : cells + R'.cells ≤ R.cells) (hs : slots + R'.slots ≤ R.slots) :
    Stand p l e R' ((T.setVm s.vm).setFrames (.invoking m args :: below)) m args below meth c T [] 0 0 := by
  have htop : (T.setVm s.vm).topJava?.isSome := X.here.top
  have hF : ((T.setVm s.vm).setFrames (.invoking m args :: below)).frames = .invoking m args :: below := State.frames_setFrames _ (State.cur_lt_of_top htop)
  obtain ⟨g₀, hg0⟩ := Option.isSome_iff_exists.mp htop
  obtain ⟨r, hr⟩ := State.topJava?_eq_some.mp hg0
  have hl9 : e.platform.stackLimits (T.setVm s.vm).me = e.platform.stackLimits s.me := X.limits
  have hb9 : (T.setVm s.vm).me.stackBytes = s.me.stackBytes := X.bytes
  refine ⟨X.admits, X.cas, X.clock, hF, ?_, X.hears, X.method, X.code, X.here, X.tail, X.warmed, ?_, ?_, ?_⟩
  · have h := X.room
    have hU : ((T.setVm s.vm).setFrames (.invoking m args :: below)).localsInUse = s.localsInUse := by
      rw [State.localsInUse_invoking hF (meth := meth) (c := c) X.method X.code, State.localsInUse_invoking X.frames X.method X.code]
    simp only [State.hasRoom, Bool.and_eq_true, decide_eq_true_eq] at h ⊢
    obtain ⟨⟨⟨⟨h1, h2, h3, h4, h5, h6⟩, h7⟩, h8⟩, h9⟩ := h
    rw [X.frames, List.length_cons] at h2 h3
    have q1 := X.heapSize
    have q2 := X.used
    simp only [hF, hU, List.length_cons, State.stackLimits_setFrames, State.stackBytes_setFrames, hl9, hb9]
    refine ⟨⟨⟨⟨by omega, by omega, by omega, by omega, by omega, h6⟩, ?_⟩, ?_⟩, X.book⟩
    · show T.heap.size + R'.cells ≤ e.platform.maxCells
      omega
    · show T.slotsUsed + R'.slots ≤ e.platform.maxSlots
      omega
  · rw [State.stackLimits_setFrames]; rfl
  · rw [State.stackBytes_setFrames]; rfl
  · refine ⟨?_, Nat.le_refl _, Nat.le_refl _, ?_, ?_, fun a c9 h9 => ⟨c9, h9, rfl, rfl, fun _ _ => rfl⟩⟩
    · obtain ⟨t, ht, -⟩ := State.frames_cons hr
      show T.setVm s.vm = { ((T.setVm s.vm).setFrames (.invoking m args :: below)).setFrames (T.setVm s.vm).frames with heap := T.heap, slotsUsed := T.slotsUsed }
      rw [State.setFrames_setFrames, State.setFrames_self ht]
      rfl
    · show T.slotsUsed = T.slotsUsed + ((T.heap.toList.drop T.heap.size).map (·.slots.size)).sum
      rw [List.drop_eq_nil_of_le (Nat.le_of_eq Array.length_toList)]
      rfl
    · show ((T.heap.toList.drop T.heap.size).map (·.slots.size)).sum ≤ 0
      rw [List.drop_eq_nil_of_le (Nat.le_of_eq Array.length_toList)]
      exact Nat.le_refl _
end VXE
end
section
/-! numbers alone: bits of a mask, octets of a number, runs, and what a code says. The rows uN began as kit/laws/BITS.to-paste's. -/
def uN (x : Int64) : Nat := x.toUInt64.toNat
theorem uN_lt (x : Int64) : uN x < 18446744073709551616 := x.toUInt64.toNat_lt
theorem uN_inj {x y : Int64} (h : uN x = uN y) : x = y := congrArg UInt64.toInt64 (UInt64.toNat_inj.mp h)
theorem uN_add (x y : Int64) : uN (x + y) = (uN x + uN y) % 18446744073709551616 := by
  show (x.toUInt64 + y.toUInt64).toNat = _
  exact UInt64.toNat_add _ _
theorem uN_mul (x y : Int64) : uN (x * y) = (uN x * uN y) % 18446744073709551616 := by
  show (x.toUInt64 * y.toUInt64).toNat = _
  exact UInt64.toNat_mul _ _
theorem uN_shl (x : Int64) : uN (x <<< ((1 : Int32).toInt64 &&& 63)) = (2 * uN x) % 18446744073709551616 := by
  have h : (((1 : Int32).toInt64 &&& 63).toBitVec.smod 64).toNat = 1 := by decide
  show (x.toBitVec <<< (((1 : Int32).toInt64 &&& 63).toBitVec.smod 64).toNat).toNat = _
  rw [h, BitVec.toNat_shiftLeft, Nat.shiftLeft_eq, Nat.mul_comm]
  rfl
theorem uN_shr (x : Int64) (s : UInt64) : uN (x.toUInt64 >>> s).toInt64 = uN x / 2 ^ (s.toNat % 64) := by
  show (x.toUInt64 >>> s).toNat = _
  rw [UInt64.toNat_shiftRight, Nat.shiftRight_eq_div_pow]
  rfl
theorem uN_s32 (x : Int64) : uN (x.toUInt64 >>> ((32 : Int32).toInt64.toUInt64 &&& Int64.toUInt64 63)).toInt64 = uN x / 4294967296 := by
  have h : ((32 : Int32).toInt64.toUInt64 &&& Int64.toUInt64 63).toNat % 64 = 32 := by decide
  rw [uN_shr, h]
theorem uN_s63 (x : Int64) : uN (x.toUInt64 >>> ((63 : Int32).toInt64.toUInt64 &&& Int64.toUInt64 63)).toInt64 = uN x / 9223372036854775808 := by
  have h : ((63 : Int32).toInt64.toUInt64 &&& Int64.toUInt64 63).toNat % 64 = 63 := by decide
  rw [uN_shr, h]
theorem uN_lo (x : Int64) : uN (x &&& 4294967295) = uN x % 4294967296 := by
  show (x.toUInt64 &&& Int64.toUInt64 4294967295).toNat = _
  rw [UInt64.toNat_and]
  exact Nat.and_two_pow_sub_one_eq_mod _ 32
theorem uN_bit (x : Int64) : (x &&& 1) = 0 ↔ uN x % 2 = 0 := by
  have h : uN (x &&& 1) = uN x % 2 := by
    show (x.toUInt64 &&& Int64.toUInt64 1).toNat = _
    rw [UInt64.toNat_and]
    exact Nat.and_two_pow_sub_one_eq_mod _ 1
  rw [← h]
  exact ⟨fun z => by rw [z]; rfl, fun z => uN_inj (z.trans rfl)⟩
theorem uN_or {x y : Int64} (hy : uN y < 2) : uN ((x <<< ((1 : Int32).toInt64 &&& 63)) ||| y) = (2 * uN x) % 18446744073709551616 + uN y := by
  have h1 : uN ((x <<< ((1 : Int32).toInt64 &&& 63)) ||| y) = uN (x <<< ((1 : Int32).toInt64 &&& 63)) ||| uN y := UInt64.toNat_or _ _
  have h2 : (2 * uN x) % 18446744073709551616 = 2 ^ 1 * (uN x % 9223372036854775808) := by omega
  rw [h1, uN_shl, h2]
  exact (Nat.two_pow_add_eq_or_of_lt (i := 1) hy _).symm
theorem nat_xor {a : Nat} (h : a < 18446744073709551616) : a ^^^ 2 ^ 63 = (a + 9223372036854775808) % 18446744073709551616 := by
  have h1 : (a ^^^ 2 ^ 63) % 2 ^ 63 = a % 2 ^ 63 := by rw [Nat.xor_mod_two_pow, Nat.mod_self, Nat.xor_zero]
  have h2 : (a ^^^ 2 ^ 63) / 2 ^ 63 = (a / 2 ^ 63) ^^^ 1 := by rw [Nat.xor_div_two_pow, Nat.div_self (Nat.two_pow_pos 63)]
  have h3 : a / 2 ^ 63 = 0 ∨ a / 2 ^ 63 = 1 := by omega
  generalize a ^^^ 2 ^ 63 = t at h1 h2
  rcases h3 with h3 | h3
  · rw [h3] at h2
    have h2 : t / 2 ^ 63 = 1 := h2
    omega
  · rw [h3] at h2
    have h2 : t / 2 ^ 63 = 0 := h2
    omega
theorem uN_xor (x : Int64) : uN (x ^^^ (-9223372036854775808)) = (uN x + 9223372036854775808) % 18446744073709551616 := by
  rw [← nat_xor (uN_lt x)]
  exact UInt64.toNat_xor _ _
theorem uN_int (x : Int64) : x.toInt = if 2 * uN x < 18446744073709551616 then (uN x : Int) else (uN x : Int) - 18446744073709551616 := BitVec.toInt_eq_toNat_cond _
theorem uN_le (x y : Int64) : (x ^^^ (-9223372036854775808)) ≤ (y ^^^ (-9223372036854775808)) ↔ uN x ≤ uN y := by
  have hx := uN_lt x
  have hy := uN_lt y
  rw [Int64.le_iff_toInt_le, uN_int, uN_int, uN_xor, uN_xor]
  omega
theorem uN_sk (x : Int64) {k : Nat} (hk : k < 64) : uN (x.toUInt64 >>> ((nI k).toInt64.toUInt64 &&& Int64.toUInt64 63)).toInt64 = uN x / 2 ^ k := by
  have h : ((nI k).toInt64.toUInt64 &&& Int64.toUInt64 63).toNat % 64 = k := by
    rw [nI_l (by omega), UInt64.toNat_and]
    have e : (lN k).toUInt64.toNat = k % 2 ^ 64 := rfl
    have e2 : (Int64.toUInt64 63).toNat = 2 ^ 6 - 1 := by decide
    rw [e, e2, Nat.and_two_pow_sub_one_eq_mod]
    omega
  rw [uN_shr, h]
theorem uN_or' (x y : Int64) : uN (x ||| y) = uN x ||| uN y := UInt64.toNat_or _ _
theorem uN_and' (x y : Int64) : uN (x &&& y) = uN x &&& uN y := UInt64.toNat_and _ _
theorem uN_xor' (x y : Int64) : uN (x ^^^ y) = uN x ^^^ uN y := UInt64.toNat_xor _ _
theorem uN_and1 (x : Int64) : uN (x &&& 1) = uN x % 2 := by
  rw [uN_and']
  exact Nat.and_two_pow_sub_one_eq_mod _ 1
theorem ch_sm : ∀ k, k < 64 → (((nI k).toInt64 &&& 63).toBitVec.smod 64).toNat = k := by decide +kernel
theorem uN_shlk (x : Int64) {k : Nat} (hk : k < 64) : uN (x <<< ((nI k).toInt64 &&& 63)) = (uN x * 2 ^ k) % 18446744073709551616 := by
  show (x.toBitVec <<< (((nI k).toInt64 &&& 63).toBitVec.smod 64).toNat).toNat = _
  rw [ch_sm k hk, BitVec.toNat_shiftLeft, Nat.shiftLeft_eq]
  rfl
theorem uN_1sh {k : Nat} (hk : k < 64) : uN ((1 : Int64) <<< ((nI k).toInt64 &&& 63)) = 2 ^ k := by
  have h1 : 2 ^ k < 2 ^ 64 := Nat.pow_lt_pow_right (by decide) hk
  have h2 : uN 1 = 1 := rfl
  rw [uN_shlk _ hk, h2, Nat.one_mul]
  exact Nat.mod_eq_of_lt h1
def ch_bit (w : Int64) (k : Nat) : Bool := (uN w).testBit k
theorem ch_isfull (w : Int64) {k : Nat} (hk : k < 64) : (w.toUInt64 >>> ((nI k).toInt64.toUInt64 &&& Int64.toUInt64 63)).toInt64 &&& 1 = if ch_bit w k then 1 else 0 := by
  apply uN_inj
  rw [uN_and1, uN_sk w hk]
  unfold ch_bit
  rw [Nat.testBit_eq_decide_div_mod_eq]
  by_cases h : uN w / 2 ^ k % 2 = 1
  · rw [h, if_pos (by decide)]; rfl
  · have h0 : uN w / 2 ^ k % 2 = 0 := by omega
    rw [h0, if_neg (by decide)]; rfl
theorem ch_fill (w : Int64) {k : Nat} (hk : k < 64) (j : Nat) : ch_bit (w ||| ((1 : Int64) <<< ((nI k).toInt64 &&& 63))) j = (ch_bit w j || decide (k = j)) := by
  unfold ch_bit
  rw [uN_or', uN_1sh hk, Nat.testBit_or, Nat.testBit_two_pow]
theorem ch_clear (w : Int64) {k : Nat} (hk : k < 64) {j : Nat} (hj : j < 64) : ch_bit (w &&& (((1 : Int64) <<< ((nI k).toInt64 &&& 63)) ^^^ (-1))) j = (ch_bit w j && !decide (k = j)) := by
  have h1 : uN (-1) = 2 ^ 64 - 1 := by decide
  unfold ch_bit
  rw [uN_and', uN_xor', uN_1sh hk, h1, Nat.testBit_and, Nat.testBit_xor, Nat.testBit_two_pow, Nat.testBit_two_pow_sub_one]
  simp [hj]
theorem ch_bit0 (k : Nat) : ch_bit 0 k = false := by
  have h : uN 0 = 0 := rfl
  unfold ch_bit
  rw [h]
  simp
/-- octets of a number without sign, 7 bits each, the lowest first -/
def ch_num : Nat → Nat → List Nat
  | 0, u => [u]
  | n + 1, u => if u < 128 then [u] else (u % 128 + 128) :: ch_num n (u / 128)
def ch_cnt (u : Nat) : Nat → Nat
  | 0 => 1
  | n + 1 => ch_cnt u n + if u / 128 ^ (n + 1) = 0 then 0 else 1
theorem ch_cnt_succ (u : Nat) : ∀ n, ch_cnt u (n + 1) = (if u / 128 = 0 then 0 else 1) + ch_cnt (u / 128) n
  | 0 => by simp [ch_cnt]; omega
  | n + 1 => by
    have ih := ch_cnt_succ u n
    have e : u / 128 ^ (n + 1 + 1) = u / 128 / 128 ^ (n + 1) := by rw [Nat.div_div_eq_div_mul, Nat.pow_succ' (n := n + 1)]
    show ch_cnt u (n + 1) + (if u / 128 ^ (n + 1 + 1) = 0 then 0 else 1) = _
    rw [ih, e]
    show _ = _ + (ch_cnt (u / 128) n + _)
    omega
theorem ch_num_len : ∀ (n u : Nat), (ch_num n u).length = ch_cnt u n
  | 0, u => rfl
  | n + 1, u => by
    rw [ch_cnt_succ]
    unfold ch_num
    by_cases h : u < 128
    · rw [if_pos h]
      have h1 : u / 128 = 0 := by omega
      rw [h1, if_pos rfl]
      have h2 : ∀ n, ch_cnt 0 n = 1 := by
        intro n
        induction n with
        | zero => rfl
        | succ n ih => simp [ch_cnt, ih]
      rw [h2]; rfl
    · rw [if_neg h]
      have h1 : ¬ u / 128 = 0 := by omega
      rw [if_neg h1, List.length_cons, ch_num_len n (u / 128)]
      omega
theorem ch_num_pos (n u : Nat) : 0 < (ch_num n u).length := by
  cases n with
  | zero => simp [ch_num]
  | succ n => unfold ch_num; split <;> simp
/-- an octet of it that is not the last, and the last -/
theorem ch_num_at : ∀ (n u i : Nat), i + 1 < (ch_num n u).length → (ch_num n u).getD i 0 = u / 128 ^ i % 128 + 128
  | 0, u, i, h => by simp [ch_num] at h
  | n + 1, u, i, h => by
    unfold ch_num at h ⊢
    by_cases hu : u < 128
    · rw [if_pos hu] at h; simp at h
    · rw [if_neg hu] at h ⊢
      cases i with
      | zero => simp
      | succ i =>
        rw [List.length_cons] at h
        have := ch_num_at n (u / 128) i (by omega)
        rw [List.getD_cons_succ, this, Nat.div_div_eq_div_mul, Nat.pow_succ']
theorem ch_num_end : ∀ (n u i : Nat), i + 1 = (ch_num n u).length → (ch_num n u).getD i 0 = u / 128 ^ i
  | 0, u, i, h => by simp [ch_num] at h; subst h; simp [ch_num]
  | n + 1, u, i, h => by
    unfold ch_num at h ⊢
    by_cases hu : u < 128
    · rw [if_pos hu] at h ⊢; simp at h; subst h; simp
    · rw [if_neg hu] at h ⊢
      cases i with
      | zero =>
        have := ch_num_pos n (u / 128)
        rw [List.length_cons] at h
        omega
      | succ i =>
        rw [List.length_cons] at h
        have := ch_num_end n (u / 128) i (by omega)
        rw [List.getD_cons_succ, this, Nat.div_div_eq_div_mul, Nat.pow_succ']
/-- runs, the last first -/
def ch_add : List (Int64 × Nat) → Int64 → List (Int64 × Nat)
  | [], v => [(v, 1)]
  | q :: r, v => if q.1 = v then (v, q.2 + 1) :: r else (v, 1) :: q :: r
def ch_runs (w : Int64) (f : Nat → Int64) : Nat → List (Int64 × Nat)
  | 0 => []
  | k + 1 => if ch_bit w k then ch_add (ch_runs w f k) (f k) else ch_runs w f k
def ch_hd (r : List (Int64 × Nat)) : Int64 := match r with
  | [] => 0
  | q :: _ => q.1
def ch_zz (d : Int64) : Int64 := (d <<< ((1 : Int32).toInt64 &&& 63)) ^^^ (d >>> ((63 : Int32).toInt64 &&& 63))
def ch_un (u : Int64) : Int64 := (u.toUInt64 >>> ((1 : Int32).toInt64.toUInt64 &&& Int64.toUInt64 63)).toInt64 ^^^ (-(u &&& 1))
/-- a run's octets: how many, and its step -/
def ch_run (q : Int64 × Nat) (before : Int64) : List Nat := q.2 :: ch_num 9 (uN (ch_zz (q.1 - before)))
def ch_octs : List (Int64 × Nat) → List Nat
  | [] => []
  | q :: r => ch_octs r ++ ch_run q (ch_hd r)
def ch_mask (w : Int64) : List Nat := (List.range 8).map (fun i => uN w / 256 ^ i % 256)
/-- THE CODE -/
def ch_code (w : Int64) (f : Nat → Int64) : List Nat := ch_mask w ++ ch_octs (ch_runs w f 64)
theorem ch_add_c (q : Int64 × Nat) (r : List (Int64 × Nat)) (v : Int64) : ch_add (q :: r) v = if q.1 = v then (v, q.2 + 1) :: r else (v, 1) :: q :: r := rfl
theorem ch_add_len (r : List (Int64 × Nat)) (v : Int64) : (ch_add r v).length ≤ r.length + 1 := by
  cases r with
  | nil => simp [ch_add]
  | cons q r => rw [ch_add_c]; split <;> simp
theorem ch_runs_len (w : Int64) (f : Nat → Int64) : ∀ k, (ch_runs w f k).length ≤ k
  | 0 => Nat.le_refl _
  | k + 1 => by
    have h := ch_runs_len w f k
    unfold ch_runs
    split
    · exact Nat.le_trans (ch_add_len _ _) (by omega)
    · omega
theorem ch_add_pos (r : List (Int64 × Nat)) (v : Int64) (h : ∀ q ∈ r, 0 < q.2) : ∀ q ∈ ch_add r v, 0 < q.2 := by
  cases r with
  | nil => intro q hq; simp [ch_add] at hq; subst hq; exact Nat.one_pos
  | cons z r =>
    intro q hq
    rw [ch_add_c] at hq
    split at hq
    · rcases List.mem_cons.mp hq with rfl | h1
      · show 0 < z.2 + 1; omega
      · exact h q (List.mem_cons_of_mem _ h1)
    · rcases List.mem_cons.mp hq with rfl | h1
      · show 0 < 1; omega
      · exact h q h1
/-- reading: u with the seven bits of o at place i -/
def ch_sh7 (u : Int64) (o i : Nat) : Int64 := u ||| ((nI (o % 128)).toInt64 <<< ((nI (7 * i)).toInt64 &&& 63))
/-- a number read at a place: where it ends, or where it is wrong -/
def ch_rd (L : List Nat) (first : Bool) : Nat → Nat → Int64 → Nat × Option Int64
  | 0, a, _ => (a, none)
  | n + 1, a, u =>
    if L.length ≤ a then (a, none)
    else if n = 0 ∧ L.getD a 0 ≠ 1 then (a, none)
    else if 128 ≤ L.getD a 0 then ch_rd L first n (a + 1) (ch_sh7 u (L.getD a 0) (9 - n))
    else if L.getD a 0 = 0 ∧ (n ≠ 9 ∨ first = false) then (a, none)
    else (a + 1, some (ch_sh7 u (L.getD a 0) (9 - n)))
/-- the cells from 64 - m on -/
def ch_cells (L : List Nat) (w : Int64) : Nat → Nat → Nat → Int64 → Bool → Nat → (Nat → Int64) → Nat × Option (Nat → Int64)
  | 0, _, _, _, _, a, g => (a, some g)
  | m + 1, left, lor, v, first, a, g =>
    if ch_bit w (63 - m) = false then ch_cells L w m left lor v first a g
    else if lor = 0 then
      if L.getD a 0 = 0 ∨ left < L.getD a 0 then (a, none)
      else match ch_rd L first 10 (a + 1) 0 with
        | (a1, none) => (a1, none)
        | (a1, some u) => ch_cells L w m (left - 1) (L.getD a 0 - 1) (v + ch_un u) false a1 (vp_updL g (63 - m) (v + ch_un u))
    else ch_cells L w m (left - 1) (lor - 1) v first a (vp_updL g (63 - m) v)
def ch_pop (w : Int64) : Nat → Nat
  | 0 => 0
  | k + 1 => ch_pop w k + if ch_bit w k then 1 else 0
def ch_rmask (L : List Nat) : Nat → Int64
  | 0 => 0
  | i + 1 => ch_rmask L i ||| ((nI (L.getD i 0)).toInt64 <<< ((nI (8 * i)).toInt64 &&& 63))
/-- what is fed, read: the place (wrong, or the end), and the cells if it is a code -/
def ch_dec (L : List Nat) : Nat × Option (Int64 × (Nat → Int64)) :=
  if L.length < 8 then (L.length, none)
  else match ch_cells L (ch_rmask L 8) 64 (ch_pop (ch_rmask L 8) 64) 0 0 true 8 (fun _ => 0) with
    | (a, none) => (a, none)
    | (a, some g) => if a = L.length then (a, some (ch_rmask L 8, g)) else (a, none)
end
section
/-! names: fields, methods, words of the tables by their places (written by wip/whole/mkparts.py out of the Statement) -/
/-- a word that holds in every later state -/
def gd_wk (w : Cond) : Bool := goodWord w || (match w with | .methodLinkNest _ _ _ _ => true | .castable _ _ => true | .declares _ => true | _ => false)
def TS : List Cond := lw_tbl.filter gd_wk
theorem gd_mem {w : Cond} (i : Nat) (h : lw_tbl[i]? = some w) (hg : gd_wk w = true) : w ∈ TS := List.mem_filter.mpr ⟨List.mem_of_getElem? h, hg⟩
theorem gd_word1 {args a' : Array Value} {s U : State} (hW : s.WarmedH U.vm) {w : Cond} (hg : gd_wk w = true) (h : w.before args s = true) : w.before a' U = true := by
  cases hw : goodWord w with
  | true => exact word_at hW (good_of_word hw) h
  | false =>
    unfold gd_wk at hg
    rw [hw, Bool.false_or] at hg
    cases w <;> first
      | (simp only at hg; cases hg; done)
      | (exact va_Nw.use rfl (va_Nw.warmM hW (va_Nw.of rfl h)))
      | (exact va_tabs rfl (rfl : (s.setVm U.vm).vm = U.vm) (Cond.faceAtom_setVm (args := args) hW.alike _ rfl h))
theorem gd_word {args a' : Array Value} {s U : State} (hW : s.WarmedH U.vm) (h : ∀ w ∈ TS, w.before args s = true) : ∀ w ∈ TS, w.before a' U = true := fun w hw => gd_word1 hW (List.mem_filter.mp hw).2 (h w hw)
def TT_Cl : u_T := fun k => match k with
  | 0 => ("ChunkCode$Cells", "numbers", "[J", true)
  | _ => ("ChunkCode$Cells", "mask", "J", false)
def ty_Cl : Nat → FieldType := fun k => match k with
  | 0 => .array .long
  | _ => .long
theorem nm_Cl : ∀ a, a < 2 → ∀ b, b < 2 → a ≠ b → (TT_Cl a).2.1 ≠ (TT_Cl b).2.1 := by decide +kernel
theorem tyk_Cl : ∀ k, k < 2 → parseFieldDescriptor (TT_Cl k).2.2.1 = some (ty_Cl k) := by decide +kernel
theorem inC_Cl : ∀ w ∈ u_ws "ChunkCode$Cells" TT_Cl 2, w ∈ TS := by decide +kernel
def TT_Oc : u_T := fun k => match k with
  | 0 => ("ChunkCode$Octets", "row", "[B", true)
  | _ => ("ChunkCode$Octets", "length", "I", false)
def ty_Oc : Nat → FieldType := fun k => match k with
  | 0 => .array .byte
  | _ => .int
theorem nm_Oc : ∀ a, a < 2 → ∀ b, b < 2 → a ≠ b → (TT_Oc a).2.1 ≠ (TT_Oc b).2.1 := by decide +kernel
theorem tyk_Oc : ∀ k, k < 2 → parseFieldDescriptor (TT_Oc k).2.2.1 = some (ty_Oc k) := by decide +kernel
theorem inC_Oc : ∀ w ∈ u_ws "ChunkCode$Octets" TT_Oc 2, w ∈ TS := by decide +kernel
def TT_Rd : u_T := fun k => match k with
  | 0 => ("ChunkCode$Reader", "at", "I", false)
  | _ => ("ChunkCode$Reader", "folded", "J", false)
def ty_Rd : Nat → FieldType := fun k => match k with
  | 0 => .int
  | _ => .long
theorem nm_Rd : ∀ a, a < 2 → ∀ b, b < 2 → a ≠ b → (TT_Rd a).2.1 ≠ (TT_Rd b).2.1 := by decide +kernel
theorem tyk_Rd : ∀ k, k < 2 → parseFieldDescriptor (TT_Rd k).2.2.1 = some (ty_Rd k) := by decide +kernel
theorem inC_Rd : ∀ w ∈ u_ws "ChunkCode$Reader" TT_Rd 2, w ∈ TS := by decide +kernel
def TT_Ru : u_T := fun k => match k with
  | 0 => ("ChunkCode$Runs", "numbers", "[J", true)
  | 1 => ("ChunkCode$Runs", "sizes", "[I", true)
  | _ => ("ChunkCode$Runs", "many", "I", false)
def ty_Ru : Nat → FieldType := fun k => match k with
  | 0 => .array .long
  | 1 => .array .int
  | _ => .int
theorem nm_Ru : ∀ a, a < 3 → ∀ b, b < 3 → a ≠ b → (TT_Ru a).2.1 ≠ (TT_Ru b).2.1 := by decide +kernel
theorem tyk_Ru : ∀ k, k < 3 → parseFieldDescriptor (TT_Ru k).2.2.1 = some (ty_Ru k) := by decide +kernel
theorem inC_Ru : ∀ w ∈ u_ws "ChunkCode$Runs" TT_Ru 3, w ∈ TS := by decide +kernel
def TT_Ch : u_T := fun k => match k with
  | 0 => ("ChunkCode", "cells", "LChunkCode$Cells;", false)
  | 1 => ("ChunkCode", "spare", "LChunkCode$Cells;", false)
  | 2 => ("ChunkCode", "runs", "LChunkCode$Runs;", true)
  | 3 => ("ChunkCode", "made", "LChunkCode$Octets;", true)
  | 4 => ("ChunkCode", "fed", "LChunkCode$Octets;", true)
  | 5 => ("ChunkCode", "reader", "LChunkCode$Reader;", true)
  | _ => ("ChunkCode", "wrongAt", "I", false)
def ty_Ch : Nat → FieldType := fun k => match k with
  | 0 => .object "ChunkCode$Cells"
  | 1 => .object "ChunkCode$Cells"
  | 2 => .object "ChunkCode$Runs"
  | 3 => .object "ChunkCode$Octets"
  | 4 => .object "ChunkCode$Octets"
  | 5 => .object "ChunkCode$Reader"
  | _ => .int
theorem nm_Ch : ∀ a, a < 7 → ∀ b, b < 7 → a ≠ b → (TT_Ch a).2.1 ≠ (TT_Ch b).2.1 := by decide +kernel
theorem tyk_Ch : ∀ k, k < 7 → parseFieldDescriptor (TT_Ch k).2.2.1 = some (ty_Ch k) := by decide +kernel
theorem inC_Ch : ∀ w ∈ u_ws "ChunkCode" TT_Ch 7, w ∈ TS := by decide +kernel
def TT_Mo : u_T := fun k => match k with
  | 0 => ("ChunkCodeModel", "err", "I", false)
  | 1 => ("ChunkCodeModel", "value", "[J", true)
  | 2 => ("ChunkCodeModel", "read", "[J", true)
  | 3 => ("ChunkCodeModel", "full", "[Z", true)
  | 4 => ("ChunkCodeModel", "will", "[Z", true)
  | 5 => ("ChunkCodeModel", "made", "[I", true)
  | 6 => ("ChunkCodeModel", "work", "[I", true)
  | 7 => ("ChunkCodeModel", "fed", "[I", true)
  | 8 => ("ChunkCodeModel", "madeMany", "I", false)
  | 9 => ("ChunkCodeModel", "workMany", "I", false)
  | 10 => ("ChunkCodeModel", "many", "I", false)
  | _ => ("ChunkCodeModel", "place", "I", false)
def ty_Mo : Nat → FieldType := fun k => match k with
  | 0 => .int
  | 1 => .array .long
  | 2 => .array .long
  | 3 => .array .boolean
  | 4 => .array .boolean
  | 5 => .array .int
  | 6 => .array .int
  | 7 => .array .int
  | 8 => .int
  | 9 => .int
  | 10 => .int
  | _ => .int
theorem nm_Mo : ∀ a, a < 12 → ∀ b, b < 12 → a ≠ b → (TT_Mo a).2.1 ≠ (TT_Mo b).2.1 := by decide +kernel
theorem tyk_Mo : ∀ k, k < 12 → parseFieldDescriptor (TT_Mo k).2.2.1 = some (ty_Mo k) := by decide +kernel
theorem inC_Mo : ∀ w ∈ u_ws "ChunkCodeModel" TT_Mo 12, w ∈ TS := by decide +kernel
abbrev cls_ : List vw_C := [("ChunkCode$Cells", TT_Cl, 2), ("ChunkCode$Octets", TT_Oc, 2), ("ChunkCode$Reader", TT_Rd, 2), ("ChunkCode$Runs", TT_Ru, 3), ("ChunkCode", TT_Ch, 7), ("ChunkCodeModel", TT_Mo, 12)]
abbrev yy_Ch_init : MethodName := ⟨"ChunkCode", "<init>", "()V"⟩
abbrev bb_Ch_init : ByteArray := prog_1_method_1_code
abbrev yy_Cl_init : MethodName := ⟨"ChunkCode$Cells", "<init>", "()V"⟩
abbrev bb_Cl_init : ByteArray := prog_2_method_1_code
abbrev yy_Ru_init : MethodName := ⟨"ChunkCode$Runs", "<init>", "()V"⟩
abbrev bb_Ru_init : ByteArray := prog_5_method_1_code
abbrev yy_Oc_init : MethodName := ⟨"ChunkCode$Octets", "<init>", "(I)V"⟩
abbrev bb_Oc_init : ByteArray := prog_3_method_1_code
abbrev yy_Rd_init : MethodName := ⟨"ChunkCode$Reader", "<init>", "()V"⟩
abbrev bb_Rd_init : ByteArray := prog_4_method_1_code
abbrev yy_Ch_encode : MethodName := ⟨"ChunkCode", "encode", "()I"⟩
abbrev bb_Ch_encode : ByteArray := prog_1_method_6_code
abbrev yy_Ru_gather : MethodName := ⟨"ChunkCode$Runs", "gather", "(LChunkCode$Cells;)V"⟩
abbrev bb_Ru_gather : ByteArray := prog_5_method_2_code
abbrev yy_Cl_isFull : MethodName := ⟨"ChunkCode$Cells", "isFull", "(I)Z"⟩
abbrev bb_Cl_isFull : ByteArray := prog_2_method_2_code
abbrev yy_Cl_number : MethodName := ⟨"ChunkCode$Cells", "number", "(I)J"⟩
abbrev bb_Cl_number : ByteArray := prog_2_method_3_code
abbrev yy_Ru_addCell : MethodName := ⟨"ChunkCode$Runs", "addCell", "(J)V"⟩
abbrev bb_Ru_addCell : ByteArray := prog_5_method_6_code
abbrev yy_Oc_clear : MethodName := ⟨"ChunkCode$Octets", "clear", "()V"⟩
abbrev bb_Oc_clear : ByteArray := prog_3_method_2_code
abbrev yy_Cl_mask : MethodName := ⟨"ChunkCode$Cells", "mask", "()J"⟩
abbrev bb_Cl_mask : ByteArray := prog_2_method_8_code
abbrev yy_Oc_add : MethodName := ⟨"ChunkCode$Octets", "add", "(I)V"⟩
abbrev bb_Oc_add : ByteArray := prog_3_method_3_code
abbrev yy_Ru_many : MethodName := ⟨"ChunkCode$Runs", "many", "()I"⟩
abbrev bb_Ru_many : ByteArray := prog_5_method_3_code
abbrev yy_Ru_size : MethodName := ⟨"ChunkCode$Runs", "size", "(I)I"⟩
abbrev bb_Ru_size : ByteArray := prog_5_method_4_code
abbrev yy_Ru_folded : MethodName := ⟨"ChunkCode$Runs", "folded", "(I)J"⟩
abbrev bb_Ru_folded : ByteArray := prog_5_method_5_code
abbrev yy_Ch_addNumber : MethodName := ⟨"ChunkCode", "addNumber", "(LChunkCode$Octets;J)V"⟩
abbrev bb_Ch_addNumber : ByteArray := prog_1_method_15_code
abbrev yy_Ch_numberOctets : MethodName := ⟨"ChunkCode", "numberOctets", "(J)I"⟩
abbrev bb_Ch_numberOctets : ByteArray := prog_1_method_14_code
abbrev yy_Oc_length : MethodName := ⟨"ChunkCode$Octets", "length", "()I"⟩
abbrev bb_Oc_length : ByteArray := prog_3_method_4_code
abbrev yy_Ch_wrong : MethodName := ⟨"ChunkCode", "wrong", "()I"⟩
abbrev bb_Ch_wrong : ByteArray := prog_1_method_10_code
abbrev yy_La_put : MethodName := ⟨"ChunkCodeLaw", "put", "(LChunkCode;IJ)I"⟩
abbrev bb_La_put : ByteArray := method_3_code
abbrev yy_Ch_put : MethodName := ⟨"ChunkCode", "put", "(IJ)V"⟩
abbrev bb_Ch_put : ByteArray := prog_1_method_2_code
abbrev yy_Ch_needCell : MethodName := ⟨"ChunkCode", "needCell", "(I)V"⟩
abbrev bb_Ch_needCell : ByteArray := prog_1_method_12_code
abbrev yy_Cl_fill : MethodName := ⟨"ChunkCode$Cells", "fill", "(IJ)V"⟩
abbrev bb_Cl_fill : ByteArray := prog_2_method_4_code
abbrev yy_La_erase : MethodName := ⟨"ChunkCodeLaw", "erase", "(LChunkCode;II)I"⟩
abbrev bb_La_erase : ByteArray := method_4_code
abbrev yy_Ch_erase : MethodName := ⟨"ChunkCode", "erase", "(II)V"⟩
abbrev bb_Ch_erase : ByteArray := prog_1_method_3_code
abbrev yy_Cl_clear : MethodName := ⟨"ChunkCode$Cells", "clear", "(I)V"⟩
abbrev bb_Cl_clear : ByteArray := prog_2_method_5_code
abbrev yy_La_get : MethodName := ⟨"ChunkCodeLaw", "get", "(LChunkCode;I[J)I"⟩
abbrev bb_La_get : ByteArray := method_5_code
abbrev yy_Ch_get : MethodName := ⟨"ChunkCode", "get", "(I)J"⟩
abbrev bb_Ch_get : ByteArray := prog_1_method_4_code
abbrev yy_La_sum : MethodName := ⟨"ChunkCodeLaw", "sum", "(LChunkCode;II[J)I"⟩
abbrev bb_La_sum : ByteArray := method_6_code
abbrev yy_Ch_sum : MethodName := ⟨"ChunkCode", "sum", "(II)J"⟩
abbrev bb_Ch_sum : ByteArray := prog_1_method_5_code
abbrev yy_La_code : MethodName := ⟨"ChunkCodeLaw", "code", "(LChunkCode;I[J)I"⟩
abbrev bb_La_code : ByteArray := method_7_code
abbrev yy_Ch_code : MethodName := ⟨"ChunkCode", "code", "(I)J"⟩
abbrev bb_Ch_code : ByteArray := prog_1_method_7_code
abbrev yy_Oc_octetOrZero : MethodName := ⟨"ChunkCode$Octets", "octetOrZero", "(I)I"⟩
abbrev bb_Oc_octetOrZero : ByteArray := prog_3_method_5_code
abbrev yy_La_feed : MethodName := ⟨"ChunkCodeLaw", "feed", "(LChunkCode;JI[J)I"⟩
abbrev bb_La_feed : ByteArray := method_8_code
abbrev yy_Ch_feed : MethodName := ⟨"ChunkCode", "feed", "(JI)I"⟩
abbrev bb_Ch_feed : ByteArray := prog_1_method_8_code
abbrev yy_La_decode : MethodName := ⟨"ChunkCodeLaw", "decode", "(LChunkCode;[J)I"⟩
abbrev bb_La_decode : ByteArray := method_9_code
abbrev yy_Ch_decode : MethodName := ⟨"ChunkCode", "decode", "()I"⟩
abbrev bb_Ch_decode : ByteArray := prog_1_method_9_code
abbrev yy_Rd_read : MethodName := ⟨"ChunkCode$Reader", "read", "(LChunkCode$Octets;LChunkCode$Cells;)Z"⟩
abbrev bb_Rd_read : ByteArray := prog_4_method_3_code
abbrev yy_Cl_clearAll : MethodName := ⟨"ChunkCode$Cells", "clearAll", "()V"⟩
abbrev bb_Cl_clearAll : ByteArray := prog_2_method_6_code
abbrev yy_Rd_readMask : MethodName := ⟨"ChunkCode$Reader", "readMask", "(LChunkCode$Octets;)J"⟩
abbrev bb_Rd_readMask : ByteArray := prog_4_method_4_code
abbrev yy_Rd_readRuns : MethodName := ⟨"ChunkCode$Reader", "readRuns", "(LChunkCode$Octets;JLChunkCode$Cells;)Z"⟩
abbrev bb_Rd_readRuns : ByteArray := prog_4_method_5_code
abbrev yy_Lo_bitCount : MethodName := ⟨"java/lang/Long", "bitCount", "(J)I"⟩
abbrev bb_Lo_bitCount : ByteArray := prog_11_method_50_code
abbrev yy_Rd_readSize : MethodName := ⟨"ChunkCode$Reader", "readSize", "(LChunkCode$Octets;I)I"⟩
abbrev bb_Rd_readSize : ByteArray := prog_4_method_6_code
abbrev yy_Rd_readFolded : MethodName := ⟨"ChunkCode$Reader", "readFolded", "(LChunkCode$Octets;Z)Z"⟩
abbrev bb_Rd_readFolded : ByteArray := prog_4_method_7_code
abbrev yy_Rd_endFolded : MethodName := ⟨"ChunkCode$Reader", "endFolded", "(ZZ)Z"⟩
abbrev bb_Rd_endFolded : ByteArray := prog_4_method_8_code
abbrev yy_Rd_at : MethodName := ⟨"ChunkCode$Reader", "at", "()I"⟩
abbrev bb_Rd_at : ByteArray := prog_4_method_2_code
abbrev yy_Cl_many : MethodName := ⟨"ChunkCode$Cells", "many", "()I"⟩
abbrev bb_Cl_many : ByteArray := prog_2_method_7_code
abbrev yy_La_count : MethodName := ⟨"ChunkCodeLaw", "count", "(LChunkCode;I[J)I"⟩
abbrev bb_La_count : ByteArray := method_10_code
abbrev yy_Ch_count : MethodName := ⟨"ChunkCode", "count", "(I)I"⟩
abbrev bb_Ch_count : ByteArray := prog_1_method_11_code
abbrev yy_Ch_octetsNow : MethodName := ⟨"ChunkCode", "octetsNow", "()I"⟩
abbrev bb_Ch_octetsNow : ByteArray := prog_1_method_13_code
abbrev yy_Mo_init : MethodName := ⟨"ChunkCodeModel", "<init>", "()V"⟩
abbrev bb_Mo_init : ByteArray := prog_7_method_1_code
abbrev yy_Mo_thrown : MethodName := ⟨"ChunkCodeModel", "thrown", "()I"⟩
abbrev bb_Mo_thrown : ByteArray := prog_7_method_2_code
abbrev yy_Mo_put : MethodName := ⟨"ChunkCodeModel", "put", "(IJ)V"⟩
abbrev bb_Mo_put : ByteArray := prog_7_method_5_code
abbrev yy_Mo_none : MethodName := ⟨"ChunkCodeModel", "none", "(I)Z"⟩
abbrev bb_Mo_none : ByteArray := prog_7_method_4_code
abbrev yy_Mo_fails : MethodName := ⟨"ChunkCodeModel", "fails", "(ZI)Z"⟩
abbrev bb_Mo_fails : ByteArray := prog_7_method_3_code
abbrev yy_Mo_erase : MethodName := ⟨"ChunkCodeModel", "erase", "(II)V"⟩
abbrev bb_Mo_erase : ByteArray := prog_7_method_6_code
abbrev yy_Mo_get : MethodName := ⟨"ChunkCodeModel", "get", "(I)J"⟩
abbrev bb_Mo_get : ByteArray := prog_7_method_7_code
abbrev yy_Mo_sum : MethodName := ⟨"ChunkCodeModel", "sum", "(II)J"⟩
abbrev bb_Mo_sum : ByteArray := prog_7_method_8_code
abbrev yy_Mo_encode : MethodName := ⟨"ChunkCodeModel", "encode", "()I"⟩
abbrev bb_Mo_encode : ByteArray := prog_7_method_11_code
abbrev yy_Mo_lay : MethodName := ⟨"ChunkCodeModel", "lay", "()I"⟩
abbrev bb_Mo_lay : ByteArray := prog_7_method_10_code
abbrev yy_Mo_next : MethodName := ⟨"ChunkCodeModel", "next", "(I)I"⟩
abbrev bb_Mo_next : ByteArray := prog_7_method_9_code
abbrev yy_Mo_code : MethodName := ⟨"ChunkCodeModel", "code", "(I)J"⟩
abbrev bb_Mo_code : ByteArray := prog_7_method_12_code
abbrev yy_Mo_feed : MethodName := ⟨"ChunkCodeModel", "feed", "(JI)I"⟩
abbrev bb_Mo_feed : ByteArray := prog_7_method_13_code
abbrev yy_Mo_decode : MethodName := ⟨"ChunkCodeModel", "decode", "()I"⟩
abbrev bb_Mo_decode : ByteArray := prog_7_method_15_code
abbrev yy_Mo_wrongAt : MethodName := ⟨"ChunkCodeModel", "wrongAt", "()I"⟩
abbrev bb_Mo_wrongAt : ByteArray := prog_7_method_14_code
abbrev yy_Mo_wrong : MethodName := ⟨"ChunkCodeModel", "wrong", "()I"⟩
abbrev bb_Mo_wrong : ByteArray := prog_7_method_16_code
abbrev yy_Mo_count : MethodName := ⟨"ChunkCodeModel", "count", "(I)I"⟩
abbrev bb_Mo_count : ByteArray := prog_7_method_17_code
abbrev bb_La_law : ByteArray := code
end
section
/-! words of the tables, by their places -/
theorem kw_0 : Cond.selects "ChunkCode$Runs" ⟨"ChunkCode$Runs", "addCell", "(J)V"⟩ ⟨"ChunkCode$Runs", "addCell", "(J)V"⟩ ∈ TS := gd_mem 0 (by decide +kernel) (by decide +kernel)
theorem kw_2 : Cond.selects "ChunkCode$Reader" ⟨"ChunkCode$Reader", "readMask", "(LChunkCode$Octets;)J"⟩ ⟨"ChunkCode$Reader", "readMask", "(LChunkCode$Octets;)J"⟩ ∈ TS := gd_mem 2 (by decide +kernel) (by decide +kernel)
theorem kw_3 : Cond.selects "ChunkCode$Reader" ⟨"ChunkCode$Reader", "readRuns", "(LChunkCode$Octets;JLChunkCode$Cells;)Z"⟩ ⟨"ChunkCode$Reader", "readRuns", "(LChunkCode$Octets;JLChunkCode$Cells;)Z"⟩ ∈ TS := gd_mem 3 (by decide +kernel) (by decide +kernel)
theorem kw_4 : Cond.selects "ChunkCode$Reader" ⟨"ChunkCode$Reader", "readSize", "(LChunkCode$Octets;I)I"⟩ ⟨"ChunkCode$Reader", "readSize", "(LChunkCode$Octets;I)I"⟩ ∈ TS := gd_mem 4 (by decide +kernel) (by decide +kernel)
theorem kw_5 : Cond.selects "ChunkCode$Reader" ⟨"ChunkCode$Reader", "readFolded", "(LChunkCode$Octets;Z)Z"⟩ ⟨"ChunkCode$Reader", "readFolded", "(LChunkCode$Octets;Z)Z"⟩ ∈ TS := gd_mem 5 (by decide +kernel) (by decide +kernel)
theorem kw_6 : Cond.selects "ChunkCode$Reader" ⟨"ChunkCode$Reader", "endFolded", "(ZZ)Z"⟩ ⟨"ChunkCode$Reader", "endFolded", "(ZZ)Z"⟩ ∈ TS := gd_mem 6 (by decide +kernel) (by decide +kernel)
theorem kw_7 : Cond.selects "ChunkCode" ⟨"ChunkCode", "octetsNow", "()I"⟩ ⟨"ChunkCode", "octetsNow", "()I"⟩ ∈ TS := gd_mem 7 (by decide +kernel) (by decide +kernel)
theorem kw_8 : Cond.selects "ChunkCodeModel" ⟨"ChunkCodeModel", "fails", "(ZI)Z"⟩ ⟨"ChunkCodeModel", "fails", "(ZI)Z"⟩ ∈ TS := gd_mem 8 (by decide +kernel) (by decide +kernel)
theorem kw_9 : Cond.selects "ChunkCodeModel" ⟨"ChunkCodeModel", "lay", "()I"⟩ ⟨"ChunkCodeModel", "lay", "()I"⟩ ∈ TS := gd_mem 9 (by decide +kernel) (by decide +kernel)
theorem kw_10 : Cond.selects "ChunkCodeModel" ⟨"ChunkCodeModel", "next", "(I)I"⟩ ⟨"ChunkCodeModel", "next", "(I)I"⟩ ∈ TS := gd_mem 10 (by decide +kernel) (by decide +kernel)
theorem kw_11 : Cond.selects "ChunkCodeModel" ⟨"ChunkCodeModel", "wrongAt", "()I"⟩ ⟨"ChunkCodeModel", "wrongAt", "()I"⟩ ∈ TS := gd_mem 11 (by decide +kernel) (by decide +kernel)
theorem kw_12 : Cond.initialized "ChunkCodeLaw" ∈ TS := gd_mem 12 (by decide +kernel) (by decide +kernel)
theorem kw_13 : Cond.initialized "ChunkCode" ∈ TS := gd_mem 13 (by decide +kernel) (by decide +kernel)
theorem kw_14 : Cond.initialized "ChunkCode$Cells" ∈ TS := gd_mem 14 (by decide +kernel) (by decide +kernel)
theorem kw_15 : Cond.initialized "ChunkCode$Runs" ∈ TS := gd_mem 15 (by decide +kernel) (by decide +kernel)
theorem kw_16 : Cond.initialized "ChunkCode$Octets" ∈ TS := gd_mem 16 (by decide +kernel) (by decide +kernel)
theorem kw_17 : Cond.initialized "ChunkCode$Reader" ∈ TS := gd_mem 17 (by decide +kernel) (by decide +kernel)
theorem kw_18 : Cond.initialized "ChunkCodeModel" ∈ TS := gd_mem 18 (by decide +kernel) (by decide +kernel)
theorem kw_22 : Cond.initialized "java/lang/IndexOutOfBoundsException" ∈ TS := gd_mem 22 (by decide +kernel) (by decide +kernel)
theorem kw_23 : Cond.initialized "java/lang/UnsupportedOperationException" ∈ TS := gd_mem 23 (by decide +kernel) (by decide +kernel)
theorem kw_24 : Cond.initialized "java/lang/IllegalArgumentException" ∈ TS := gd_mem 24 (by decide +kernel) (by decide +kernel)
theorem kw_25 : Cond.initialized "java/lang/Long" ∈ TS := gd_mem 25 (by decide +kernel) (by decide +kernel)
theorem kw_26 : Cond.classLink "ChunkCodeLaw" 8 "ChunkCode" ∈ TS := gd_mem 26 (by decide +kernel) (by decide +kernel)
theorem kw_27 : Cond.instantiable "ChunkCode" 7 ∈ TS := gd_mem 27 (by decide +kernel) (by decide +kernel)
theorem kw_28 : Cond.methodLink "ChunkCodeLaw" 46 ⟨"ChunkCode", "<init>", "()V"⟩ ∈ TS := gd_mem 28 (by decide +kernel) (by decide +kernel)
theorem kw_29 : Cond.instanceMethod ⟨"ChunkCode", "<init>", "()V"⟩ ∈ TS := gd_mem 29 (by decide +kernel) (by decide +kernel)
theorem kw_30 : Cond.code ⟨"ChunkCode", "<init>", "()V"⟩ prog_1_method_1_code 1 (Option.none : Option FieldType) ∈ TS := gd_mem 30 (by decide +kernel) (by decide +kernel)
theorem kw_31 : Cond.methodLink "ChunkCode" 3 ⟨"java/lang/Object", "<init>", "()V"⟩ ∈ TS := gd_mem 31 (by decide +kernel) (by decide +kernel)
theorem kw_32 : Cond.instanceMethod ⟨"java/lang/Object", "<init>", "()V"⟩ ∈ TS := gd_mem 32 (by decide +kernel) (by decide +kernel)
theorem kw_33 : Cond.code ⟨"java/lang/Object", "<init>", "()V"⟩ object_method_1_code 1 (Option.none : Option FieldType) ∈ TS := gd_mem 33 (by decide +kernel) (by decide +kernel)
theorem kw_34 : Cond.classLink "ChunkCode" 9 "ChunkCode$Cells" ∈ TS := gd_mem 34 (by decide +kernel) (by decide +kernel)
theorem kw_35 : Cond.instantiable "ChunkCode$Cells" 2 ∈ TS := gd_mem 35 (by decide +kernel) (by decide +kernel)
theorem kw_36 : Cond.methodLinkNest "ChunkCode" 11 ⟨"ChunkCode$Cells", "<init>", "()V"⟩ "ChunkCode" ∈ TS := gd_mem 36 (by decide +kernel) (by decide +kernel)
theorem kw_37 : Cond.instanceMethod ⟨"ChunkCode$Cells", "<init>", "()V"⟩ ∈ TS := gd_mem 37 (by decide +kernel) (by decide +kernel)
theorem kw_38 : Cond.code ⟨"ChunkCode$Cells", "<init>", "()V"⟩ prog_2_method_1_code 1 (Option.none : Option FieldType) ∈ TS := gd_mem 38 (by decide +kernel) (by decide +kernel)
theorem kw_39 : Cond.methodLink "ChunkCode$Cells" 3 ⟨"java/lang/Object", "<init>", "()V"⟩ ∈ TS := gd_mem 39 (by decide +kernel) (by decide +kernel)
theorem kw_40 : Cond.fieldLink "ChunkCode$Cells" 9 "ChunkCode$Cells" "numbers" "[J" ∈ TS := gd_mem 40 (by decide +kernel) (by decide +kernel)
theorem kw_41 : Cond.fieldLink "ChunkCode$Cells" 15 "ChunkCode$Cells" "mask" "J" ∈ TS := gd_mem 41 (by decide +kernel) (by decide +kernel)
theorem kw_47 : Cond.arrayClass FieldType.long ∈ TS := gd_mem 47 (by decide +kernel) (by decide +kernel)
theorem kw_48 : Cond.classLink "ChunkCode" 19 "ChunkCode$Runs" ∈ TS := gd_mem 48 (by decide +kernel) (by decide +kernel)
theorem kw_49 : Cond.instantiable "ChunkCode$Runs" 3 ∈ TS := gd_mem 49 (by decide +kernel) (by decide +kernel)
theorem kw_50 : Cond.methodLinkNest "ChunkCode" 21 ⟨"ChunkCode$Runs", "<init>", "()V"⟩ "ChunkCode" ∈ TS := gd_mem 50 (by decide +kernel) (by decide +kernel)
theorem kw_51 : Cond.instanceMethod ⟨"ChunkCode$Runs", "<init>", "()V"⟩ ∈ TS := gd_mem 51 (by decide +kernel) (by decide +kernel)
theorem kw_52 : Cond.code ⟨"ChunkCode$Runs", "<init>", "()V"⟩ prog_5_method_1_code 1 (Option.none : Option FieldType) ∈ TS := gd_mem 52 (by decide +kernel) (by decide +kernel)
theorem kw_53 : Cond.methodLink "ChunkCode$Runs" 3 ⟨"java/lang/Object", "<init>", "()V"⟩ ∈ TS := gd_mem 53 (by decide +kernel) (by decide +kernel)
theorem kw_54 : Cond.fieldLink "ChunkCode$Runs" 9 "ChunkCode$Runs" "numbers" "[J" ∈ TS := gd_mem 54 (by decide +kernel) (by decide +kernel)
theorem kw_55 : Cond.fieldLink "ChunkCode$Runs" 15 "ChunkCode$Runs" "sizes" "[I" ∈ TS := gd_mem 55 (by decide +kernel) (by decide +kernel)
theorem kw_56 : Cond.fieldLink "ChunkCode$Runs" 19 "ChunkCode$Runs" "many" "I" ∈ TS := gd_mem 56 (by decide +kernel) (by decide +kernel)
theorem kw_64 : Cond.arrayClass FieldType.int ∈ TS := gd_mem 64 (by decide +kernel) (by decide +kernel)
theorem kw_65 : Cond.classLink "ChunkCode" 26 "ChunkCode$Octets" ∈ TS := gd_mem 65 (by decide +kernel) (by decide +kernel)
theorem kw_66 : Cond.instantiable "ChunkCode$Octets" 2 ∈ TS := gd_mem 66 (by decide +kernel) (by decide +kernel)
theorem kw_67 : Cond.methodLink "ChunkCode" 28 ⟨"ChunkCode$Octets", "<init>", "(I)V"⟩ ∈ TS := gd_mem 67 (by decide +kernel) (by decide +kernel)
theorem kw_68 : Cond.instanceMethod ⟨"ChunkCode$Octets", "<init>", "(I)V"⟩ ∈ TS := gd_mem 68 (by decide +kernel) (by decide +kernel)
theorem kw_69 : Cond.code ⟨"ChunkCode$Octets", "<init>", "(I)V"⟩ prog_3_method_1_code 2 (Option.none : Option FieldType) ∈ TS := gd_mem 69 (by decide +kernel) (by decide +kernel)
theorem kw_70 : Cond.methodLink "ChunkCode$Octets" 1 ⟨"java/lang/Object", "<init>", "()V"⟩ ∈ TS := gd_mem 70 (by decide +kernel) (by decide +kernel)
theorem kw_71 : Cond.fieldLink "ChunkCode$Octets" 7 "ChunkCode$Octets" "row" "[B" ∈ TS := gd_mem 71 (by decide +kernel) (by decide +kernel)
theorem kw_72 : Cond.fieldLink "ChunkCode$Octets" 13 "ChunkCode$Octets" "length" "I" ∈ TS := gd_mem 72 (by decide +kernel) (by decide +kernel)
theorem kw_78 : Cond.arrayClass FieldType.byte ∈ TS := gd_mem 78 (by decide +kernel) (by decide +kernel)
theorem kw_79 : Cond.classLink "ChunkCode" 38 "ChunkCode$Reader" ∈ TS := gd_mem 79 (by decide +kernel) (by decide +kernel)
theorem kw_80 : Cond.instantiable "ChunkCode$Reader" 2 ∈ TS := gd_mem 80 (by decide +kernel) (by decide +kernel)
theorem kw_81 : Cond.methodLinkNest "ChunkCode" 40 ⟨"ChunkCode$Reader", "<init>", "()V"⟩ "ChunkCode" ∈ TS := gd_mem 81 (by decide +kernel) (by decide +kernel)
theorem kw_82 : Cond.instanceMethod ⟨"ChunkCode$Reader", "<init>", "()V"⟩ ∈ TS := gd_mem 82 (by decide +kernel) (by decide +kernel)
theorem kw_83 : Cond.code ⟨"ChunkCode$Reader", "<init>", "()V"⟩ prog_4_method_1_code 1 (Option.none : Option FieldType) ∈ TS := gd_mem 83 (by decide +kernel) (by decide +kernel)
theorem kw_84 : Cond.methodLink "ChunkCode$Reader" 3 ⟨"java/lang/Object", "<init>", "()V"⟩ ∈ TS := gd_mem 84 (by decide +kernel) (by decide +kernel)
theorem kw_85 : Cond.fieldLink "ChunkCode$Reader" 9 "ChunkCode$Reader" "at" "I" ∈ TS := gd_mem 85 (by decide +kernel) (by decide +kernel)
theorem kw_86 : Cond.fieldLink "ChunkCode$Reader" 52 "ChunkCode$Reader" "folded" "J" ∈ TS := gd_mem 86 (by decide +kernel) (by decide +kernel)
theorem kw_92 : Cond.fieldLink "ChunkCode" 12 "ChunkCode" "cells" "LChunkCode$Cells;" ∈ TS := gd_mem 92 (by decide +kernel) (by decide +kernel)
theorem kw_93 : Cond.fieldLink "ChunkCode" 16 "ChunkCode" "spare" "LChunkCode$Cells;" ∈ TS := gd_mem 93 (by decide +kernel) (by decide +kernel)
theorem kw_94 : Cond.fieldLink "ChunkCode" 22 "ChunkCode" "runs" "LChunkCode$Runs;" ∈ TS := gd_mem 94 (by decide +kernel) (by decide +kernel)
theorem kw_95 : Cond.fieldLink "ChunkCode" 31 "ChunkCode" "made" "LChunkCode$Octets;" ∈ TS := gd_mem 95 (by decide +kernel) (by decide +kernel)
theorem kw_96 : Cond.fieldLink "ChunkCode" 35 "ChunkCode" "fed" "LChunkCode$Octets;" ∈ TS := gd_mem 96 (by decide +kernel) (by decide +kernel)
theorem kw_97 : Cond.fieldLink "ChunkCode" 41 "ChunkCode" "reader" "LChunkCode$Reader;" ∈ TS := gd_mem 97 (by decide +kernel) (by decide +kernel)
theorem kw_98 : Cond.fieldLink "ChunkCode" 45 "ChunkCode" "wrongAt" "I" ∈ TS := gd_mem 98 (by decide +kernel) (by decide +kernel)
theorem kw_114 : Cond.methodLink "ChunkCodeLaw" 73 ⟨"ChunkCode", "encode", "()I"⟩ ∈ TS := gd_mem 114 (by decide +kernel) (by decide +kernel)
theorem kw_115 : Cond.instanceMethod ⟨"ChunkCode", "encode", "()I"⟩ ∈ TS := gd_mem 115 (by decide +kernel) (by decide +kernel)
theorem kw_116 : Cond.selects "ChunkCode" ⟨"ChunkCode", "encode", "()I"⟩ ⟨"ChunkCode", "encode", "()I"⟩ ∈ TS := gd_mem 116 (by decide +kernel) (by decide +kernel)
theorem kw_117 : Cond.code ⟨"ChunkCode", "encode", "()I"⟩ prog_1_method_6_code 2 (Option.some FieldType.int) ∈ TS := gd_mem 117 (by decide +kernel) (by decide +kernel)
theorem kw_118 : Cond.methodLink "ChunkCode" 74 ⟨"ChunkCode$Runs", "gather", "(LChunkCode$Cells;)V"⟩ ∈ TS := gd_mem 118 (by decide +kernel) (by decide +kernel)
theorem kw_119 : Cond.instanceMethod ⟨"ChunkCode$Runs", "gather", "(LChunkCode$Cells;)V"⟩ ∈ TS := gd_mem 119 (by decide +kernel) (by decide +kernel)
theorem kw_120 : Cond.selects "ChunkCode$Runs" ⟨"ChunkCode$Runs", "gather", "(LChunkCode$Cells;)V"⟩ ⟨"ChunkCode$Runs", "gather", "(LChunkCode$Cells;)V"⟩ ∈ TS := gd_mem 120 (by decide +kernel) (by decide +kernel)
theorem kw_121 : Cond.code ⟨"ChunkCode$Runs", "gather", "(LChunkCode$Cells;)V"⟩ prog_5_method_2_code 3 (Option.none : Option FieldType) ∈ TS := gd_mem 121 (by decide +kernel) (by decide +kernel)
theorem kw_122 : Cond.methodLink "ChunkCode$Runs" 23 ⟨"ChunkCode$Cells", "isFull", "(I)Z"⟩ ∈ TS := gd_mem 122 (by decide +kernel) (by decide +kernel)
theorem kw_123 : Cond.instanceMethod ⟨"ChunkCode$Cells", "isFull", "(I)Z"⟩ ∈ TS := gd_mem 123 (by decide +kernel) (by decide +kernel)
theorem kw_124 : Cond.selects "ChunkCode$Cells" ⟨"ChunkCode$Cells", "isFull", "(I)Z"⟩ ⟨"ChunkCode$Cells", "isFull", "(I)Z"⟩ ∈ TS := gd_mem 124 (by decide +kernel) (by decide +kernel)
theorem kw_125 : Cond.code ⟨"ChunkCode$Cells", "isFull", "(I)Z"⟩ prog_2_method_2_code 2 (Option.some FieldType.boolean) ∈ TS := gd_mem 125 (by decide +kernel) (by decide +kernel)
theorem kw_126 : Cond.methodLink "ChunkCode$Runs" 29 ⟨"ChunkCode$Cells", "number", "(I)J"⟩ ∈ TS := gd_mem 126 (by decide +kernel) (by decide +kernel)
theorem kw_127 : Cond.instanceMethod ⟨"ChunkCode$Cells", "number", "(I)J"⟩ ∈ TS := gd_mem 127 (by decide +kernel) (by decide +kernel)
theorem kw_128 : Cond.selects "ChunkCode$Cells" ⟨"ChunkCode$Cells", "number", "(I)J"⟩ ⟨"ChunkCode$Cells", "number", "(I)J"⟩ ∈ TS := gd_mem 128 (by decide +kernel) (by decide +kernel)
theorem kw_129 : Cond.code ⟨"ChunkCode$Cells", "number", "(I)J"⟩ prog_2_method_3_code 2 (Option.some FieldType.long) ∈ TS := gd_mem 129 (by decide +kernel) (by decide +kernel)
theorem kw_130 : Cond.methodLink "ChunkCode$Runs" 33 ⟨"ChunkCode$Runs", "addCell", "(J)V"⟩ ∈ TS := gd_mem 130 (by decide +kernel) (by decide +kernel)
theorem kw_132 : Cond.instanceMethod ⟨"ChunkCode$Runs", "addCell", "(J)V"⟩ ∈ TS := gd_mem 132 (by decide +kernel) (by decide +kernel)
theorem kw_133 : Cond.code ⟨"ChunkCode$Runs", "addCell", "(J)V"⟩ prog_5_method_6_code 3 (Option.none : Option FieldType) ∈ TS := gd_mem 133 (by decide +kernel) (by decide +kernel)
theorem kw_134 : Cond.methodLink "ChunkCode" 78 ⟨"ChunkCode$Octets", "clear", "()V"⟩ ∈ TS := gd_mem 134 (by decide +kernel) (by decide +kernel)
theorem kw_135 : Cond.instanceMethod ⟨"ChunkCode$Octets", "clear", "()V"⟩ ∈ TS := gd_mem 135 (by decide +kernel) (by decide +kernel)
theorem kw_136 : Cond.selects "ChunkCode$Octets" ⟨"ChunkCode$Octets", "clear", "()V"⟩ ⟨"ChunkCode$Octets", "clear", "()V"⟩ ∈ TS := gd_mem 136 (by decide +kernel) (by decide +kernel)
theorem kw_137 : Cond.code ⟨"ChunkCode$Octets", "clear", "()V"⟩ prog_3_method_2_code 1 (Option.none : Option FieldType) ∈ TS := gd_mem 137 (by decide +kernel) (by decide +kernel)
theorem kw_138 : Cond.methodLink "ChunkCode" 80 ⟨"ChunkCode$Cells", "mask", "()J"⟩ ∈ TS := gd_mem 138 (by decide +kernel) (by decide +kernel)
theorem kw_139 : Cond.instanceMethod ⟨"ChunkCode$Cells", "mask", "()J"⟩ ∈ TS := gd_mem 139 (by decide +kernel) (by decide +kernel)
theorem kw_140 : Cond.selects "ChunkCode$Cells" ⟨"ChunkCode$Cells", "mask", "()J"⟩ ⟨"ChunkCode$Cells", "mask", "()J"⟩ ∈ TS := gd_mem 140 (by decide +kernel) (by decide +kernel)
theorem kw_141 : Cond.code ⟨"ChunkCode$Cells", "mask", "()J"⟩ prog_2_method_8_code 1 (Option.some FieldType.long) ∈ TS := gd_mem 141 (by decide +kernel) (by decide +kernel)
theorem kw_142 : Cond.methodLink "ChunkCode" 84 ⟨"ChunkCode$Octets", "add", "(I)V"⟩ ∈ TS := gd_mem 142 (by decide +kernel) (by decide +kernel)
theorem kw_143 : Cond.instanceMethod ⟨"ChunkCode$Octets", "add", "(I)V"⟩ ∈ TS := gd_mem 143 (by decide +kernel) (by decide +kernel)
theorem kw_144 : Cond.selects "ChunkCode$Octets" ⟨"ChunkCode$Octets", "add", "(I)V"⟩ ⟨"ChunkCode$Octets", "add", "(I)V"⟩ ∈ TS := gd_mem 144 (by decide +kernel) (by decide +kernel)
theorem kw_145 : Cond.code ⟨"ChunkCode$Octets", "add", "(I)V"⟩ prog_3_method_3_code 2 (Option.none : Option FieldType) ∈ TS := gd_mem 145 (by decide +kernel) (by decide +kernel)
theorem kw_146 : Cond.methodLink "ChunkCode" 87 ⟨"ChunkCode$Runs", "many", "()I"⟩ ∈ TS := gd_mem 146 (by decide +kernel) (by decide +kernel)
theorem kw_147 : Cond.instanceMethod ⟨"ChunkCode$Runs", "many", "()I"⟩ ∈ TS := gd_mem 147 (by decide +kernel) (by decide +kernel)
theorem kw_148 : Cond.selects "ChunkCode$Runs" ⟨"ChunkCode$Runs", "many", "()I"⟩ ⟨"ChunkCode$Runs", "many", "()I"⟩ ∈ TS := gd_mem 148 (by decide +kernel) (by decide +kernel)
theorem kw_149 : Cond.code ⟨"ChunkCode$Runs", "many", "()I"⟩ prog_5_method_3_code 1 (Option.some FieldType.int) ∈ TS := gd_mem 149 (by decide +kernel) (by decide +kernel)
theorem kw_150 : Cond.methodLink "ChunkCode" 91 ⟨"ChunkCode$Runs", "size", "(I)I"⟩ ∈ TS := gd_mem 150 (by decide +kernel) (by decide +kernel)
theorem kw_151 : Cond.instanceMethod ⟨"ChunkCode$Runs", "size", "(I)I"⟩ ∈ TS := gd_mem 151 (by decide +kernel) (by decide +kernel)
theorem kw_152 : Cond.selects "ChunkCode$Runs" ⟨"ChunkCode$Runs", "size", "(I)I"⟩ ⟨"ChunkCode$Runs", "size", "(I)I"⟩ ∈ TS := gd_mem 152 (by decide +kernel) (by decide +kernel)
theorem kw_153 : Cond.code ⟨"ChunkCode$Runs", "size", "(I)I"⟩ prog_5_method_4_code 2 (Option.some FieldType.int) ∈ TS := gd_mem 153 (by decide +kernel) (by decide +kernel)
theorem kw_154 : Cond.methodLink "ChunkCode" 95 ⟨"ChunkCode$Runs", "folded", "(I)J"⟩ ∈ TS := gd_mem 154 (by decide +kernel) (by decide +kernel)
theorem kw_155 : Cond.instanceMethod ⟨"ChunkCode$Runs", "folded", "(I)J"⟩ ∈ TS := gd_mem 155 (by decide +kernel) (by decide +kernel)
theorem kw_156 : Cond.selects "ChunkCode$Runs" ⟨"ChunkCode$Runs", "folded", "(I)J"⟩ ⟨"ChunkCode$Runs", "folded", "(I)J"⟩ ∈ TS := gd_mem 156 (by decide +kernel) (by decide +kernel)
theorem kw_157 : Cond.code ⟨"ChunkCode$Runs", "folded", "(I)J"⟩ prog_5_method_5_code 6 (Option.some FieldType.long) ∈ TS := gd_mem 157 (by decide +kernel) (by decide +kernel)
theorem kw_158 : Cond.methodLink "ChunkCode" 98 ⟨"ChunkCode", "addNumber", "(LChunkCode$Octets;J)V"⟩ ∈ TS := gd_mem 158 (by decide +kernel) (by decide +kernel)
theorem kw_159 : Cond.static ⟨"ChunkCode", "addNumber", "(LChunkCode$Octets;J)V"⟩ ∈ TS := gd_mem 159 (by decide +kernel) (by decide +kernel)
theorem kw_160 : Cond.code ⟨"ChunkCode", "addNumber", "(LChunkCode$Octets;J)V"⟩ prog_1_method_15_code 5 (Option.none : Option FieldType) ∈ TS := gd_mem 160 (by decide +kernel) (by decide +kernel)
theorem kw_161 : Cond.methodLink "ChunkCode" 137 ⟨"ChunkCode", "numberOctets", "(J)I"⟩ ∈ TS := gd_mem 161 (by decide +kernel) (by decide +kernel)
theorem kw_162 : Cond.static ⟨"ChunkCode", "numberOctets", "(J)I"⟩ ∈ TS := gd_mem 162 (by decide +kernel) (by decide +kernel)
theorem kw_163 : Cond.code ⟨"ChunkCode", "numberOctets", "(J)I"⟩ prog_1_method_14_code 4 (Option.some FieldType.int) ∈ TS := gd_mem 163 (by decide +kernel) (by decide +kernel)
theorem kw_164 : Cond.methodLink "ChunkCode" 102 ⟨"ChunkCode$Octets", "length", "()I"⟩ ∈ TS := gd_mem 164 (by decide +kernel) (by decide +kernel)
theorem kw_165 : Cond.instanceMethod ⟨"ChunkCode$Octets", "length", "()I"⟩ ∈ TS := gd_mem 165 (by decide +kernel) (by decide +kernel)
theorem kw_166 : Cond.selects "ChunkCode$Octets" ⟨"ChunkCode$Octets", "length", "()I"⟩ ⟨"ChunkCode$Octets", "length", "()I"⟩ ∈ TS := gd_mem 166 (by decide +kernel) (by decide +kernel)
theorem kw_167 : Cond.code ⟨"ChunkCode$Octets", "length", "()I"⟩ prog_3_method_4_code 1 (Option.some FieldType.int) ∈ TS := gd_mem 167 (by decide +kernel) (by decide +kernel)
theorem kw_168 : Cond.methodLink "ChunkCodeLaw" 88 ⟨"ChunkCode", "wrong", "()I"⟩ ∈ TS := gd_mem 168 (by decide +kernel) (by decide +kernel)
theorem kw_169 : Cond.instanceMethod ⟨"ChunkCode", "wrong", "()I"⟩ ∈ TS := gd_mem 169 (by decide +kernel) (by decide +kernel)
theorem kw_170 : Cond.selects "ChunkCode" ⟨"ChunkCode", "wrong", "()I"⟩ ⟨"ChunkCode", "wrong", "()I"⟩ ∈ TS := gd_mem 170 (by decide +kernel) (by decide +kernel)
theorem kw_171 : Cond.code ⟨"ChunkCode", "wrong", "()I"⟩ prog_1_method_10_code 1 (Option.some FieldType.int) ∈ TS := gd_mem 171 (by decide +kernel) (by decide +kernel)
end
section
/-! words of the tables, by their places -/
theorem kw_172 : Cond.methodLink "ChunkCodeLaw" 52 ⟨"ChunkCodeLaw", "put", "(LChunkCode;IJ)I"⟩ ∈ TS := gd_mem 172 (by decide +kernel) (by decide +kernel)
theorem kw_173 : Cond.static ⟨"ChunkCodeLaw", "put", "(LChunkCode;IJ)I"⟩ ∈ TS := gd_mem 173 (by decide +kernel) (by decide +kernel)
theorem kw_174 : Cond.codeWith ⟨"ChunkCodeLaw", "put", "(LChunkCode;IJ)I"⟩ method_3_code 5 (Option.some FieldType.int) [(0, 6, 9, 13)] ∈ TS := gd_mem 174 (by decide +kernel) (by decide +kernel)
theorem kw_175 : Cond.classLink "ChunkCodeLaw" 13 "java/lang/IndexOutOfBoundsException" ∈ TS := gd_mem 175 (by decide +kernel) (by decide +kernel)
theorem kw_176 : Cond.methodLink "ChunkCodeLaw" 7 ⟨"ChunkCode", "put", "(IJ)V"⟩ ∈ TS := gd_mem 176 (by decide +kernel) (by decide +kernel)
theorem kw_177 : Cond.instanceMethod ⟨"ChunkCode", "put", "(IJ)V"⟩ ∈ TS := gd_mem 177 (by decide +kernel) (by decide +kernel)
theorem kw_178 : Cond.selects "ChunkCode" ⟨"ChunkCode", "put", "(IJ)V"⟩ ⟨"ChunkCode", "put", "(IJ)V"⟩ ∈ TS := gd_mem 178 (by decide +kernel) (by decide +kernel)
theorem kw_179 : Cond.code ⟨"ChunkCode", "put", "(IJ)V"⟩ prog_1_method_2_code 4 (Option.none : Option FieldType) ∈ TS := gd_mem 179 (by decide +kernel) (by decide +kernel)
theorem kw_180 : Cond.methodLink "ChunkCode" 49 ⟨"ChunkCode", "needCell", "(I)V"⟩ ∈ TS := gd_mem 180 (by decide +kernel) (by decide +kernel)
theorem kw_181 : Cond.static ⟨"ChunkCode", "needCell", "(I)V"⟩ ∈ TS := gd_mem 181 (by decide +kernel) (by decide +kernel)
theorem kw_182 : Cond.code ⟨"ChunkCode", "needCell", "(I)V"⟩ prog_1_method_12_code 1 (Option.none : Option FieldType) ∈ TS := gd_mem 182 (by decide +kernel) (by decide +kernel)
theorem kw_183 : Cond.classLink "ChunkCode" 105 "java/lang/IndexOutOfBoundsException" ∈ TS := gd_mem 183 (by decide +kernel) (by decide +kernel)
theorem kw_184 : Cond.instantiable "java/lang/IndexOutOfBoundsException" 6 ∈ TS := gd_mem 184 (by decide +kernel) (by decide +kernel)
theorem kw_185 : Cond.castable "java/lang/IndexOutOfBoundsException" "java/lang/IndexOutOfBoundsException" ∈ TS := gd_mem 185 (by decide +kernel) (by decide +kernel)
theorem kw_225 : Cond.methodLink "ChunkCode" 109 ⟨"java/lang/IndexOutOfBoundsException", "<init>", "(Ljava/lang/String;)V"⟩ ∈ TS := gd_mem 225 (by decide +kernel) (by decide +kernel)
theorem kw_226 : Cond.instanceMethod ⟨"java/lang/IndexOutOfBoundsException", "<init>", "(Ljava/lang/String;)V"⟩ ∈ TS := gd_mem 226 (by decide +kernel) (by decide +kernel)
theorem kw_227 : Cond.code ⟨"java/lang/IndexOutOfBoundsException", "<init>", "(Ljava/lang/String;)V"⟩ prog_10_method_2_code 2 (Option.none : Option FieldType) ∈ TS := gd_mem 227 (by decide +kernel) (by decide +kernel)
theorem kw_250 : Cond.methodLink "ChunkCode" 52 ⟨"ChunkCode$Cells", "fill", "(IJ)V"⟩ ∈ TS := gd_mem 250 (by decide +kernel) (by decide +kernel)
theorem kw_251 : Cond.instanceMethod ⟨"ChunkCode$Cells", "fill", "(IJ)V"⟩ ∈ TS := gd_mem 251 (by decide +kernel) (by decide +kernel)
theorem kw_252 : Cond.selects "ChunkCode$Cells" ⟨"ChunkCode$Cells", "fill", "(IJ)V"⟩ ⟨"ChunkCode$Cells", "fill", "(IJ)V"⟩ ∈ TS := gd_mem 252 (by decide +kernel) (by decide +kernel)
theorem kw_253 : Cond.code ⟨"ChunkCode$Cells", "fill", "(IJ)V"⟩ prog_2_method_4_code 4 (Option.none : Option FieldType) ∈ TS := gd_mem 253 (by decide +kernel) (by decide +kernel)
theorem kw_254 : Cond.methodLink "ChunkCodeLaw" 61 ⟨"ChunkCodeLaw", "erase", "(LChunkCode;II)I"⟩ ∈ TS := gd_mem 254 (by decide +kernel) (by decide +kernel)
theorem kw_255 : Cond.static ⟨"ChunkCodeLaw", "erase", "(LChunkCode;II)I"⟩ ∈ TS := gd_mem 255 (by decide +kernel) (by decide +kernel)
theorem kw_256 : Cond.codeWith ⟨"ChunkCodeLaw", "erase", "(LChunkCode;II)I"⟩ method_4_code 4 (Option.some FieldType.int) [(0, 6, 9, 13)] ∈ TS := gd_mem 256 (by decide +kernel) (by decide +kernel)
theorem kw_257 : Cond.methodLink "ChunkCodeLaw" 15 ⟨"ChunkCode", "erase", "(II)V"⟩ ∈ TS := gd_mem 257 (by decide +kernel) (by decide +kernel)
theorem kw_258 : Cond.instanceMethod ⟨"ChunkCode", "erase", "(II)V"⟩ ∈ TS := gd_mem 258 (by decide +kernel) (by decide +kernel)
theorem kw_259 : Cond.selects "ChunkCode" ⟨"ChunkCode", "erase", "(II)V"⟩ ⟨"ChunkCode", "erase", "(II)V"⟩ ∈ TS := gd_mem 259 (by decide +kernel) (by decide +kernel)
theorem kw_260 : Cond.code ⟨"ChunkCode", "erase", "(II)V"⟩ prog_1_method_3_code 4 (Option.none : Option FieldType) ∈ TS := gd_mem 260 (by decide +kernel) (by decide +kernel)
theorem kw_261 : Cond.methodLink "ChunkCode" 56 ⟨"ChunkCode$Cells", "clear", "(I)V"⟩ ∈ TS := gd_mem 261 (by decide +kernel) (by decide +kernel)
theorem kw_262 : Cond.instanceMethod ⟨"ChunkCode$Cells", "clear", "(I)V"⟩ ∈ TS := gd_mem 262 (by decide +kernel) (by decide +kernel)
theorem kw_263 : Cond.selects "ChunkCode$Cells" ⟨"ChunkCode$Cells", "clear", "(I)V"⟩ ⟨"ChunkCode$Cells", "clear", "(I)V"⟩ ∈ TS := gd_mem 263 (by decide +kernel) (by decide +kernel)
theorem kw_264 : Cond.code ⟨"ChunkCode$Cells", "clear", "(I)V"⟩ prog_2_method_5_code 2 (Option.none : Option FieldType) ∈ TS := gd_mem 264 (by decide +kernel) (by decide +kernel)
theorem kw_265 : Cond.constantLong "ChunkCode$Cells" 19 (-1 : Int64) ∈ TS := gd_mem 265 (by decide +kernel) (by decide +kernel)
theorem kw_266 : Cond.methodLink "ChunkCodeLaw" 65 ⟨"ChunkCodeLaw", "get", "(LChunkCode;I[J)I"⟩ ∈ TS := gd_mem 266 (by decide +kernel) (by decide +kernel)
theorem kw_267 : Cond.static ⟨"ChunkCodeLaw", "get", "(LChunkCode;I[J)I"⟩ ∈ TS := gd_mem 267 (by decide +kernel) (by decide +kernel)
theorem kw_268 : Cond.codeWith ⟨"ChunkCodeLaw", "get", "(LChunkCode;I[J)I"⟩ method_5_code 4 (Option.some FieldType.int) [(0, 8, 11, 13), (0, 8, 14, 23)] ∈ TS := gd_mem 268 (by decide +kernel) (by decide +kernel)
theorem kw_269 : Cond.classLink "ChunkCodeLaw" 23 "java/lang/UnsupportedOperationException" ∈ TS := gd_mem 269 (by decide +kernel) (by decide +kernel)
theorem kw_270 : Cond.methodLink "ChunkCodeLaw" 19 ⟨"ChunkCode", "get", "(I)J"⟩ ∈ TS := gd_mem 270 (by decide +kernel) (by decide +kernel)
theorem kw_271 : Cond.instanceMethod ⟨"ChunkCode", "get", "(I)J"⟩ ∈ TS := gd_mem 271 (by decide +kernel) (by decide +kernel)
theorem kw_272 : Cond.selects "ChunkCode" ⟨"ChunkCode", "get", "(I)J"⟩ ⟨"ChunkCode", "get", "(I)J"⟩ ∈ TS := gd_mem 272 (by decide +kernel) (by decide +kernel)
theorem kw_273 : Cond.code ⟨"ChunkCode", "get", "(I)J"⟩ prog_1_method_4_code 2 (Option.some FieldType.long) ∈ TS := gd_mem 273 (by decide +kernel) (by decide +kernel)
theorem kw_274 : Cond.methodLink "ChunkCode" 59 ⟨"ChunkCode$Cells", "isFull", "(I)Z"⟩ ∈ TS := gd_mem 274 (by decide +kernel) (by decide +kernel)
theorem kw_275 : Cond.classLink "ChunkCode" 63 "java/lang/UnsupportedOperationException" ∈ TS := gd_mem 275 (by decide +kernel) (by decide +kernel)
theorem kw_276 : Cond.instantiable "java/lang/UnsupportedOperationException" 6 ∈ TS := gd_mem 276 (by decide +kernel) (by decide +kernel)
theorem kw_277 : Cond.castable "java/lang/UnsupportedOperationException" "java/lang/UnsupportedOperationException" ∈ TS := gd_mem 277 (by decide +kernel) (by decide +kernel)
theorem kw_285 : Cond.methodLink "ChunkCode" 67 ⟨"java/lang/UnsupportedOperationException", "<init>", "(Ljava/lang/String;)V"⟩ ∈ TS := gd_mem 285 (by decide +kernel) (by decide +kernel)
theorem kw_286 : Cond.instanceMethod ⟨"java/lang/UnsupportedOperationException", "<init>", "(Ljava/lang/String;)V"⟩ ∈ TS := gd_mem 286 (by decide +kernel) (by decide +kernel)
theorem kw_287 : Cond.code ⟨"java/lang/UnsupportedOperationException", "<init>", "(Ljava/lang/String;)V"⟩ prog_15_method_2_code 2 (Option.none : Option FieldType) ∈ TS := gd_mem 287 (by decide +kernel) (by decide +kernel)
theorem kw_291 : Cond.methodLink "ChunkCode" 70 ⟨"ChunkCode$Cells", "number", "(I)J"⟩ ∈ TS := gd_mem 291 (by decide +kernel) (by decide +kernel)
theorem kw_292 : Cond.methodLink "ChunkCodeLaw" 69 ⟨"ChunkCodeLaw", "sum", "(LChunkCode;II[J)I"⟩ ∈ TS := gd_mem 292 (by decide +kernel) (by decide +kernel)
theorem kw_293 : Cond.static ⟨"ChunkCodeLaw", "sum", "(LChunkCode;II[J)I"⟩ ∈ TS := gd_mem 293 (by decide +kernel) (by decide +kernel)
theorem kw_294 : Cond.codeWith ⟨"ChunkCodeLaw", "sum", "(LChunkCode;II[J)I"⟩ method_6_code 5 (Option.some FieldType.int) [(0, 9, 12, 13)] ∈ TS := gd_mem 294 (by decide +kernel) (by decide +kernel)
theorem kw_295 : Cond.methodLink "ChunkCodeLaw" 25 ⟨"ChunkCode", "sum", "(II)J"⟩ ∈ TS := gd_mem 295 (by decide +kernel) (by decide +kernel)
theorem kw_296 : Cond.instanceMethod ⟨"ChunkCode", "sum", "(II)J"⟩ ∈ TS := gd_mem 296 (by decide +kernel) (by decide +kernel)
theorem kw_297 : Cond.selects "ChunkCode" ⟨"ChunkCode", "sum", "(II)J"⟩ ⟨"ChunkCode", "sum", "(II)J"⟩ ∈ TS := gd_mem 297 (by decide +kernel) (by decide +kernel)
theorem kw_298 : Cond.code ⟨"ChunkCode", "sum", "(II)J"⟩ prog_1_method_5_code 6 (Option.some FieldType.long) ∈ TS := gd_mem 298 (by decide +kernel) (by decide +kernel)
theorem kw_299 : Cond.methodLink "ChunkCodeLaw" 77 ⟨"ChunkCodeLaw", "code", "(LChunkCode;I[J)I"⟩ ∈ TS := gd_mem 299 (by decide +kernel) (by decide +kernel)
theorem kw_300 : Cond.static ⟨"ChunkCodeLaw", "code", "(LChunkCode;I[J)I"⟩ ∈ TS := gd_mem 300 (by decide +kernel) (by decide +kernel)
theorem kw_301 : Cond.codeWith ⟨"ChunkCodeLaw", "code", "(LChunkCode;I[J)I"⟩ method_7_code 4 (Option.some FieldType.int) [(0, 8, 11, 13)] ∈ TS := gd_mem 301 (by decide +kernel) (by decide +kernel)
theorem kw_302 : Cond.methodLink "ChunkCodeLaw" 29 ⟨"ChunkCode", "code", "(I)J"⟩ ∈ TS := gd_mem 302 (by decide +kernel) (by decide +kernel)
theorem kw_303 : Cond.instanceMethod ⟨"ChunkCode", "code", "(I)J"⟩ ∈ TS := gd_mem 303 (by decide +kernel) (by decide +kernel)
theorem kw_304 : Cond.selects "ChunkCode" ⟨"ChunkCode", "code", "(I)J"⟩ ⟨"ChunkCode", "code", "(I)J"⟩ ∈ TS := gd_mem 304 (by decide +kernel) (by decide +kernel)
theorem kw_305 : Cond.code ⟨"ChunkCode", "code", "(I)J"⟩ prog_1_method_7_code 6 (Option.some FieldType.long) ∈ TS := gd_mem 305 (by decide +kernel) (by decide +kernel)
theorem kw_307 : Cond.methodLink "ChunkCode" 110 ⟨"ChunkCode$Octets", "octetOrZero", "(I)I"⟩ ∈ TS := gd_mem 307 (by decide +kernel) (by decide +kernel)
theorem kw_308 : Cond.instanceMethod ⟨"ChunkCode$Octets", "octetOrZero", "(I)I"⟩ ∈ TS := gd_mem 308 (by decide +kernel) (by decide +kernel)
theorem kw_309 : Cond.selects "ChunkCode$Octets" ⟨"ChunkCode$Octets", "octetOrZero", "(I)I"⟩ ⟨"ChunkCode$Octets", "octetOrZero", "(I)I"⟩ ∈ TS := gd_mem 309 (by decide +kernel) (by decide +kernel)
theorem kw_310 : Cond.code ⟨"ChunkCode$Octets", "octetOrZero", "(I)I"⟩ prog_3_method_5_code 2 (Option.some FieldType.int) ∈ TS := gd_mem 310 (by decide +kernel) (by decide +kernel)
theorem kw_311 : Cond.methodLink "ChunkCodeLaw" 80 ⟨"ChunkCodeLaw", "feed", "(LChunkCode;JI[J)I"⟩ ∈ TS := gd_mem 311 (by decide +kernel) (by decide +kernel)
theorem kw_312 : Cond.static ⟨"ChunkCodeLaw", "feed", "(LChunkCode;JI[J)I"⟩ ∈ TS := gd_mem 312 (by decide +kernel) (by decide +kernel)
theorem kw_313 : Cond.codeWith ⟨"ChunkCodeLaw", "feed", "(LChunkCode;JI[J)I"⟩ method_8_code 6 (Option.some FieldType.int) [(0, 11, 14, 36), (0, 11, 18, 13)] ∈ TS := gd_mem 313 (by decide +kernel) (by decide +kernel)
theorem kw_314 : Cond.classLink "ChunkCodeLaw" 36 "java/lang/IllegalArgumentException" ∈ TS := gd_mem 314 (by decide +kernel) (by decide +kernel)
theorem kw_315 : Cond.methodLink "ChunkCodeLaw" 32 ⟨"ChunkCode", "feed", "(JI)I"⟩ ∈ TS := gd_mem 315 (by decide +kernel) (by decide +kernel)
theorem kw_316 : Cond.instanceMethod ⟨"ChunkCode", "feed", "(JI)I"⟩ ∈ TS := gd_mem 316 (by decide +kernel) (by decide +kernel)
theorem kw_317 : Cond.selects "ChunkCode" ⟨"ChunkCode", "feed", "(JI)I"⟩ ⟨"ChunkCode", "feed", "(JI)I"⟩ ∈ TS := gd_mem 317 (by decide +kernel) (by decide +kernel)
theorem kw_318 : Cond.code ⟨"ChunkCode", "feed", "(JI)I"⟩ prog_1_method_8_code 5 (Option.some FieldType.int) ∈ TS := gd_mem 318 (by decide +kernel) (by decide +kernel)
theorem kw_319 : Cond.classLink "ChunkCode" 113 "java/lang/IllegalArgumentException" ∈ TS := gd_mem 319 (by decide +kernel) (by decide +kernel)
theorem kw_320 : Cond.instantiable "java/lang/IllegalArgumentException" 6 ∈ TS := gd_mem 320 (by decide +kernel) (by decide +kernel)
theorem kw_321 : Cond.castable "java/lang/IllegalArgumentException" "java/lang/IllegalArgumentException" ∈ TS := gd_mem 321 (by decide +kernel) (by decide +kernel)
theorem kw_329 : Cond.methodLink "ChunkCode" 117 ⟨"java/lang/IllegalArgumentException", "<init>", "(Ljava/lang/String;)V"⟩ ∈ TS := gd_mem 329 (by decide +kernel) (by decide +kernel)
theorem kw_330 : Cond.instanceMethod ⟨"java/lang/IllegalArgumentException", "<init>", "(Ljava/lang/String;)V"⟩ ∈ TS := gd_mem 330 (by decide +kernel) (by decide +kernel)
theorem kw_331 : Cond.code ⟨"java/lang/IllegalArgumentException", "<init>", "(Ljava/lang/String;)V"⟩ prog_9_method_2_code 2 (Option.none : Option FieldType) ∈ TS := gd_mem 331 (by decide +kernel) (by decide +kernel)
theorem kw_336 : Cond.methodLink "ChunkCodeLaw" 84 ⟨"ChunkCodeLaw", "decode", "(LChunkCode;[J)I"⟩ ∈ TS := gd_mem 336 (by decide +kernel) (by decide +kernel)
theorem kw_337 : Cond.static ⟨"ChunkCodeLaw", "decode", "(LChunkCode;[J)I"⟩ ∈ TS := gd_mem 337 (by decide +kernel) (by decide +kernel)
theorem kw_338 : Cond.codeWith ⟨"ChunkCodeLaw", "decode", "(LChunkCode;[J)I"⟩ method_9_code 3 (Option.some FieldType.int) [(0, 8, 11, 36)] ∈ TS := gd_mem 338 (by decide +kernel) (by decide +kernel)
theorem kw_339 : Cond.methodLink "ChunkCodeLaw" 38 ⟨"ChunkCode", "decode", "()I"⟩ ∈ TS := gd_mem 339 (by decide +kernel) (by decide +kernel)
theorem kw_340 : Cond.instanceMethod ⟨"ChunkCode", "decode", "()I"⟩ ∈ TS := gd_mem 340 (by decide +kernel) (by decide +kernel)
theorem kw_341 : Cond.selects "ChunkCode" ⟨"ChunkCode", "decode", "()I"⟩ ⟨"ChunkCode", "decode", "()I"⟩ ∈ TS := gd_mem 341 (by decide +kernel) (by decide +kernel)
theorem kw_342 : Cond.code ⟨"ChunkCode", "decode", "()I"⟩ prog_1_method_9_code 3 (Option.some FieldType.int) ∈ TS := gd_mem 342 (by decide +kernel) (by decide +kernel)
theorem kw_343 : Cond.methodLink "ChunkCode" 120 ⟨"ChunkCode$Reader", "read", "(LChunkCode$Octets;LChunkCode$Cells;)Z"⟩ ∈ TS := gd_mem 343 (by decide +kernel) (by decide +kernel)
theorem kw_344 : Cond.instanceMethod ⟨"ChunkCode$Reader", "read", "(LChunkCode$Octets;LChunkCode$Cells;)Z"⟩ ∈ TS := gd_mem 344 (by decide +kernel) (by decide +kernel)
theorem kw_345 : Cond.selects "ChunkCode$Reader" ⟨"ChunkCode$Reader", "read", "(LChunkCode$Octets;LChunkCode$Cells;)Z"⟩ ⟨"ChunkCode$Reader", "read", "(LChunkCode$Octets;LChunkCode$Cells;)Z"⟩ ∈ TS := gd_mem 345 (by decide +kernel) (by decide +kernel)
theorem kw_346 : Cond.code ⟨"ChunkCode$Reader", "read", "(LChunkCode$Octets;LChunkCode$Cells;)Z"⟩ prog_4_method_3_code 5 (Option.some FieldType.boolean) ∈ TS := gd_mem 346 (by decide +kernel) (by decide +kernel)
theorem kw_347 : Cond.methodLink "ChunkCode$Reader" 15 ⟨"ChunkCode$Cells", "clearAll", "()V"⟩ ∈ TS := gd_mem 347 (by decide +kernel) (by decide +kernel)
theorem kw_348 : Cond.instanceMethod ⟨"ChunkCode$Cells", "clearAll", "()V"⟩ ∈ TS := gd_mem 348 (by decide +kernel) (by decide +kernel)
theorem kw_349 : Cond.selects "ChunkCode$Cells" ⟨"ChunkCode$Cells", "clearAll", "()V"⟩ ⟨"ChunkCode$Cells", "clearAll", "()V"⟩ ∈ TS := gd_mem 349 (by decide +kernel) (by decide +kernel)
theorem kw_350 : Cond.code ⟨"ChunkCode$Cells", "clearAll", "()V"⟩ prog_2_method_6_code 1 (Option.none : Option FieldType) ∈ TS := gd_mem 350 (by decide +kernel) (by decide +kernel)
theorem kw_351 : Cond.methodLink "ChunkCode$Reader" 20 ⟨"ChunkCode$Octets", "length", "()I"⟩ ∈ TS := gd_mem 351 (by decide +kernel) (by decide +kernel)
theorem kw_352 : Cond.methodLink "ChunkCode$Reader" 26 ⟨"ChunkCode$Reader", "readMask", "(LChunkCode$Octets;)J"⟩ ∈ TS := gd_mem 352 (by decide +kernel) (by decide +kernel)
theorem kw_354 : Cond.instanceMethod ⟨"ChunkCode$Reader", "readMask", "(LChunkCode$Octets;)J"⟩ ∈ TS := gd_mem 354 (by decide +kernel) (by decide +kernel)
theorem kw_355 : Cond.code ⟨"ChunkCode$Reader", "readMask", "(LChunkCode$Octets;)J"⟩ prog_4_method_4_code 5 (Option.some FieldType.long) ∈ TS := gd_mem 355 (by decide +kernel) (by decide +kernel)
theorem kw_356 : Cond.methodLink "ChunkCode$Reader" 34 ⟨"ChunkCode$Octets", "octetOrZero", "(I)I"⟩ ∈ TS := gd_mem 356 (by decide +kernel) (by decide +kernel)
theorem kw_357 : Cond.methodLink "ChunkCode$Reader" 30 ⟨"ChunkCode$Reader", "readRuns", "(LChunkCode$Octets;JLChunkCode$Cells;)Z"⟩ ∈ TS := gd_mem 357 (by decide +kernel) (by decide +kernel)
theorem kw_359 : Cond.instanceMethod ⟨"ChunkCode$Reader", "readRuns", "(LChunkCode$Octets;JLChunkCode$Cells;)Z"⟩ ∈ TS := gd_mem 359 (by decide +kernel) (by decide +kernel)
theorem kw_360 : Cond.code ⟨"ChunkCode$Reader", "readRuns", "(LChunkCode$Octets;JLChunkCode$Cells;)Z"⟩ prog_4_method_5_code 11 (Option.some FieldType.boolean) ∈ TS := gd_mem 360 (by decide +kernel) (by decide +kernel)
theorem kw_361 : Cond.methodLink "ChunkCode$Reader" 38 ⟨"java/lang/Long", "bitCount", "(J)I"⟩ ∈ TS := gd_mem 361 (by decide +kernel) (by decide +kernel)
theorem kw_362 : Cond.static ⟨"java/lang/Long", "bitCount", "(J)I"⟩ ∈ TS := gd_mem 362 (by decide +kernel) (by decide +kernel)
theorem kw_363 : Cond.code ⟨"java/lang/Long", "bitCount", "(J)I"⟩ prog_11_method_50_code 2 (Option.some FieldType.int) ∈ TS := gd_mem 363 (by decide +kernel) (by decide +kernel)
theorem kw_364 : Cond.constantLong "java/lang/Long" 314 (6148914691236517205 : Int64) ∈ TS := gd_mem 364 (by decide +kernel) (by decide +kernel)
theorem kw_365 : Cond.constantLong "java/lang/Long" 316 (3689348814741910323 : Int64) ∈ TS := gd_mem 365 (by decide +kernel) (by decide +kernel)
theorem kw_366 : Cond.constantLong "java/lang/Long" 318 (1085102592571150095 : Int64) ∈ TS := gd_mem 366 (by decide +kernel) (by decide +kernel)
theorem kw_367 : Cond.methodLink "ChunkCode$Reader" 44 ⟨"ChunkCode$Reader", "readSize", "(LChunkCode$Octets;I)I"⟩ ∈ TS := gd_mem 367 (by decide +kernel) (by decide +kernel)
theorem kw_369 : Cond.instanceMethod ⟨"ChunkCode$Reader", "readSize", "(LChunkCode$Octets;I)I"⟩ ∈ TS := gd_mem 369 (by decide +kernel) (by decide +kernel)
theorem kw_370 : Cond.code ⟨"ChunkCode$Reader", "readSize", "(LChunkCode$Octets;I)I"⟩ prog_4_method_6_code 4 (Option.some FieldType.int) ∈ TS := gd_mem 370 (by decide +kernel) (by decide +kernel)
theorem kw_371 : Cond.methodLink "ChunkCode$Reader" 48 ⟨"ChunkCode$Reader", "readFolded", "(LChunkCode$Octets;Z)Z"⟩ ∈ TS := gd_mem 371 (by decide +kernel) (by decide +kernel)
theorem kw_373 : Cond.instanceMethod ⟨"ChunkCode$Reader", "readFolded", "(LChunkCode$Octets;Z)Z"⟩ ∈ TS := gd_mem 373 (by decide +kernel) (by decide +kernel)
theorem kw_374 : Cond.code ⟨"ChunkCode$Reader", "readFolded", "(LChunkCode$Octets;Z)Z"⟩ prog_4_method_7_code 5 (Option.some FieldType.boolean) ∈ TS := gd_mem 374 (by decide +kernel) (by decide +kernel)
theorem kw_375 : Cond.methodLink "ChunkCode$Reader" 60 ⟨"ChunkCode$Reader", "endFolded", "(ZZ)Z"⟩ ∈ TS := gd_mem 375 (by decide +kernel) (by decide +kernel)
theorem kw_377 : Cond.instanceMethod ⟨"ChunkCode$Reader", "endFolded", "(ZZ)Z"⟩ ∈ TS := gd_mem 377 (by decide +kernel) (by decide +kernel)
theorem kw_378 : Cond.code ⟨"ChunkCode$Reader", "endFolded", "(ZZ)Z"⟩ prog_4_method_8_code 3 (Option.some FieldType.boolean) ∈ TS := gd_mem 378 (by decide +kernel) (by decide +kernel)
theorem kw_379 : Cond.methodLink "ChunkCode$Reader" 56 ⟨"ChunkCode$Cells", "fill", "(IJ)V"⟩ ∈ TS := gd_mem 379 (by decide +kernel) (by decide +kernel)
theorem kw_380 : Cond.methodLink "ChunkCode" 124 ⟨"ChunkCode$Reader", "at", "()I"⟩ ∈ TS := gd_mem 380 (by decide +kernel) (by decide +kernel)
theorem kw_381 : Cond.instanceMethod ⟨"ChunkCode$Reader", "at", "()I"⟩ ∈ TS := gd_mem 381 (by decide +kernel) (by decide +kernel)
theorem kw_382 : Cond.selects "ChunkCode$Reader" ⟨"ChunkCode$Reader", "at", "()I"⟩ ⟨"ChunkCode$Reader", "at", "()I"⟩ ∈ TS := gd_mem 382 (by decide +kernel) (by decide +kernel)
theorem kw_383 : Cond.code ⟨"ChunkCode$Reader", "at", "()I"⟩ prog_4_method_2_code 1 (Option.some FieldType.int) ∈ TS := gd_mem 383 (by decide +kernel) (by decide +kernel)
theorem kw_385 : Cond.methodLink "ChunkCode" 129 ⟨"ChunkCode$Cells", "many", "()I"⟩ ∈ TS := gd_mem 385 (by decide +kernel) (by decide +kernel)
theorem kw_386 : Cond.instanceMethod ⟨"ChunkCode$Cells", "many", "()I"⟩ ∈ TS := gd_mem 386 (by decide +kernel) (by decide +kernel)
theorem kw_387 : Cond.selects "ChunkCode$Cells" ⟨"ChunkCode$Cells", "many", "()I"⟩ ⟨"ChunkCode$Cells", "many", "()I"⟩ ∈ TS := gd_mem 387 (by decide +kernel) (by decide +kernel)
theorem kw_388 : Cond.code ⟨"ChunkCode$Cells", "many", "()I"⟩ prog_2_method_7_code 1 (Option.some FieldType.int) ∈ TS := gd_mem 388 (by decide +kernel) (by decide +kernel)
theorem kw_389 : Cond.methodLink "ChunkCode$Cells" 21 ⟨"java/lang/Long", "bitCount", "(J)I"⟩ ∈ TS := gd_mem 389 (by decide +kernel) (by decide +kernel)
theorem kw_390 : Cond.methodLink "ChunkCodeLaw" 92 ⟨"ChunkCodeLaw", "count", "(LChunkCode;I[J)I"⟩ ∈ TS := gd_mem 390 (by decide +kernel) (by decide +kernel)
end
section
/-! words of the tables, by their places -/
theorem kw_391 : Cond.static ⟨"ChunkCodeLaw", "count", "(LChunkCode;I[J)I"⟩ ∈ TS := gd_mem 391 (by decide +kernel) (by decide +kernel)
theorem kw_392 : Cond.codeWith ⟨"ChunkCodeLaw", "count", "(LChunkCode;I[J)I"⟩ method_10_code 4 (Option.some FieldType.int) [(0, 9, 12, 36)] ∈ TS := gd_mem 392 (by decide +kernel) (by decide +kernel)
theorem kw_393 : Cond.methodLink "ChunkCodeLaw" 42 ⟨"ChunkCode", "count", "(I)I"⟩ ∈ TS := gd_mem 393 (by decide +kernel) (by decide +kernel)
theorem kw_394 : Cond.instanceMethod ⟨"ChunkCode", "count", "(I)I"⟩ ∈ TS := gd_mem 394 (by decide +kernel) (by decide +kernel)
theorem kw_395 : Cond.selects "ChunkCode" ⟨"ChunkCode", "count", "(I)I"⟩ ⟨"ChunkCode", "count", "(I)I"⟩ ∈ TS := gd_mem 395 (by decide +kernel) (by decide +kernel)
theorem kw_396 : Cond.code ⟨"ChunkCode", "count", "(I)I"⟩ prog_1_method_11_code 2 (Option.some FieldType.int) ∈ TS := gd_mem 396 (by decide +kernel) (by decide +kernel)
theorem kw_397 : Cond.methodLink "ChunkCode" 130 ⟨"ChunkCode", "octetsNow", "()I"⟩ ∈ TS := gd_mem 397 (by decide +kernel) (by decide +kernel)
theorem kw_399 : Cond.instanceMethod ⟨"ChunkCode", "octetsNow", "()I"⟩ ∈ TS := gd_mem 399 (by decide +kernel) (by decide +kernel)
theorem kw_400 : Cond.code ⟨"ChunkCode", "octetsNow", "()I"⟩ prog_1_method_13_code 3 (Option.some FieldType.int) ∈ TS := gd_mem 400 (by decide +kernel) (by decide +kernel)
theorem kw_402 : Cond.classLink "ChunkCodeLaw" 47 "ChunkCodeModel" ∈ TS := gd_mem 402 (by decide +kernel) (by decide +kernel)
theorem kw_403 : Cond.instantiable "ChunkCodeModel" 12 ∈ TS := gd_mem 403 (by decide +kernel) (by decide +kernel)
theorem kw_404 : Cond.methodLink "ChunkCodeLaw" 49 ⟨"ChunkCodeModel", "<init>", "()V"⟩ ∈ TS := gd_mem 404 (by decide +kernel) (by decide +kernel)
theorem kw_405 : Cond.instanceMethod ⟨"ChunkCodeModel", "<init>", "()V"⟩ ∈ TS := gd_mem 405 (by decide +kernel) (by decide +kernel)
theorem kw_406 : Cond.code ⟨"ChunkCodeModel", "<init>", "()V"⟩ prog_7_method_1_code 1 (Option.none : Option FieldType) ∈ TS := gd_mem 406 (by decide +kernel) (by decide +kernel)
theorem kw_407 : Cond.methodLink "ChunkCodeModel" 1 ⟨"java/lang/Object", "<init>", "()V"⟩ ∈ TS := gd_mem 407 (by decide +kernel) (by decide +kernel)
theorem kw_408 : Cond.fieldLink "ChunkCodeModel" 37 "ChunkCodeModel" "err" "I" ∈ TS := gd_mem 408 (by decide +kernel) (by decide +kernel)
theorem kw_409 : Cond.fieldLink "ChunkCodeModel" 7 "ChunkCodeModel" "value" "[J" ∈ TS := gd_mem 409 (by decide +kernel) (by decide +kernel)
theorem kw_410 : Cond.fieldLink "ChunkCodeModel" 13 "ChunkCodeModel" "read" "[J" ∈ TS := gd_mem 410 (by decide +kernel) (by decide +kernel)
theorem kw_411 : Cond.fieldLink "ChunkCodeModel" 16 "ChunkCodeModel" "full" "[Z" ∈ TS := gd_mem 411 (by decide +kernel) (by decide +kernel)
theorem kw_412 : Cond.fieldLink "ChunkCodeModel" 20 "ChunkCodeModel" "will" "[Z" ∈ TS := gd_mem 412 (by decide +kernel) (by decide +kernel)
theorem kw_413 : Cond.fieldLink "ChunkCodeModel" 23 "ChunkCodeModel" "made" "[I" ∈ TS := gd_mem 413 (by decide +kernel) (by decide +kernel)
theorem kw_414 : Cond.fieldLink "ChunkCodeModel" 27 "ChunkCodeModel" "work" "[I" ∈ TS := gd_mem 414 (by decide +kernel) (by decide +kernel)
theorem kw_415 : Cond.fieldLink "ChunkCodeModel" 30 "ChunkCodeModel" "fed" "[I" ∈ TS := gd_mem 415 (by decide +kernel) (by decide +kernel)
theorem kw_416 : Cond.fieldLink "ChunkCodeModel" 61 "ChunkCodeModel" "madeMany" "I" ∈ TS := gd_mem 416 (by decide +kernel) (by decide +kernel)
theorem kw_417 : Cond.fieldLink "ChunkCodeModel" 48 "ChunkCodeModel" "workMany" "I" ∈ TS := gd_mem 417 (by decide +kernel) (by decide +kernel)
theorem kw_418 : Cond.fieldLink "ChunkCodeModel" 64 "ChunkCodeModel" "many" "I" ∈ TS := gd_mem 418 (by decide +kernel) (by decide +kernel)
theorem kw_419 : Cond.fieldLink "ChunkCodeModel" 33 "ChunkCodeModel" "place" "I" ∈ TS := gd_mem 419 (by decide +kernel) (by decide +kernel)
theorem kw_445 : Cond.arrayClass FieldType.boolean ∈ TS := gd_mem 445 (by decide +kernel) (by decide +kernel)
theorem kw_446 : Cond.methodLink "ChunkCodeLaw" 58 ⟨"ChunkCodeModel", "thrown", "()I"⟩ ∈ TS := gd_mem 446 (by decide +kernel) (by decide +kernel)
theorem kw_447 : Cond.instanceMethod ⟨"ChunkCodeModel", "thrown", "()I"⟩ ∈ TS := gd_mem 447 (by decide +kernel) (by decide +kernel)
theorem kw_448 : Cond.selects "ChunkCodeModel" ⟨"ChunkCodeModel", "thrown", "()I"⟩ ⟨"ChunkCodeModel", "thrown", "()I"⟩ ∈ TS := gd_mem 448 (by decide +kernel) (by decide +kernel)
theorem kw_449 : Cond.code ⟨"ChunkCodeModel", "thrown", "()I"⟩ prog_7_method_2_code 1 (Option.some FieldType.int) ∈ TS := gd_mem 449 (by decide +kernel) (by decide +kernel)
theorem kw_450 : Cond.methodLink "ChunkCodeLaw" 57 ⟨"ChunkCodeModel", "put", "(IJ)V"⟩ ∈ TS := gd_mem 450 (by decide +kernel) (by decide +kernel)
theorem kw_451 : Cond.instanceMethod ⟨"ChunkCodeModel", "put", "(IJ)V"⟩ ∈ TS := gd_mem 451 (by decide +kernel) (by decide +kernel)
theorem kw_452 : Cond.selects "ChunkCodeModel" ⟨"ChunkCodeModel", "put", "(IJ)V"⟩ ⟨"ChunkCodeModel", "put", "(IJ)V"⟩ ∈ TS := gd_mem 452 (by decide +kernel) (by decide +kernel)
theorem kw_453 : Cond.code ⟨"ChunkCodeModel", "put", "(IJ)V"⟩ prog_7_method_5_code 4 (Option.none : Option FieldType) ∈ TS := gd_mem 453 (by decide +kernel) (by decide +kernel)
theorem kw_454 : Cond.methodLink "ChunkCodeModel" 40 ⟨"ChunkCodeModel", "none", "(I)Z"⟩ ∈ TS := gd_mem 454 (by decide +kernel) (by decide +kernel)
theorem kw_455 : Cond.static ⟨"ChunkCodeModel", "none", "(I)Z"⟩ ∈ TS := gd_mem 455 (by decide +kernel) (by decide +kernel)
theorem kw_456 : Cond.code ⟨"ChunkCodeModel", "none", "(I)Z"⟩ prog_7_method_4_code 1 (Option.some FieldType.boolean) ∈ TS := gd_mem 456 (by decide +kernel) (by decide +kernel)
theorem kw_457 : Cond.methodLink "ChunkCodeModel" 44 ⟨"ChunkCodeModel", "fails", "(ZI)Z"⟩ ∈ TS := gd_mem 457 (by decide +kernel) (by decide +kernel)
theorem kw_459 : Cond.instanceMethod ⟨"ChunkCodeModel", "fails", "(ZI)Z"⟩ ∈ TS := gd_mem 459 (by decide +kernel) (by decide +kernel)
theorem kw_460 : Cond.code ⟨"ChunkCodeModel", "fails", "(ZI)Z"⟩ prog_7_method_3_code 3 (Option.some FieldType.boolean) ∈ TS := gd_mem 460 (by decide +kernel) (by decide +kernel)
theorem kw_461 : Cond.methodLink "ChunkCodeLaw" 64 ⟨"ChunkCodeModel", "erase", "(II)V"⟩ ∈ TS := gd_mem 461 (by decide +kernel) (by decide +kernel)
theorem kw_462 : Cond.instanceMethod ⟨"ChunkCodeModel", "erase", "(II)V"⟩ ∈ TS := gd_mem 462 (by decide +kernel) (by decide +kernel)
theorem kw_463 : Cond.selects "ChunkCodeModel" ⟨"ChunkCodeModel", "erase", "(II)V"⟩ ⟨"ChunkCodeModel", "erase", "(II)V"⟩ ∈ TS := gd_mem 463 (by decide +kernel) (by decide +kernel)
theorem kw_464 : Cond.code ⟨"ChunkCodeModel", "erase", "(II)V"⟩ prog_7_method_6_code 4 (Option.none : Option FieldType) ∈ TS := gd_mem 464 (by decide +kernel) (by decide +kernel)
theorem kw_465 : Cond.methodLink "ChunkCodeLaw" 68 ⟨"ChunkCodeModel", "get", "(I)J"⟩ ∈ TS := gd_mem 465 (by decide +kernel) (by decide +kernel)
theorem kw_466 : Cond.instanceMethod ⟨"ChunkCodeModel", "get", "(I)J"⟩ ∈ TS := gd_mem 466 (by decide +kernel) (by decide +kernel)
theorem kw_467 : Cond.selects "ChunkCodeModel" ⟨"ChunkCodeModel", "get", "(I)J"⟩ ⟨"ChunkCodeModel", "get", "(I)J"⟩ ∈ TS := gd_mem 467 (by decide +kernel) (by decide +kernel)
theorem kw_468 : Cond.code ⟨"ChunkCodeModel", "get", "(I)J"⟩ prog_7_method_7_code 2 (Option.some FieldType.long) ∈ TS := gd_mem 468 (by decide +kernel) (by decide +kernel)
theorem kw_469 : Cond.methodLink "ChunkCodeLaw" 72 ⟨"ChunkCodeModel", "sum", "(II)J"⟩ ∈ TS := gd_mem 469 (by decide +kernel) (by decide +kernel)
theorem kw_470 : Cond.instanceMethod ⟨"ChunkCodeModel", "sum", "(II)J"⟩ ∈ TS := gd_mem 470 (by decide +kernel) (by decide +kernel)
theorem kw_471 : Cond.selects "ChunkCodeModel" ⟨"ChunkCodeModel", "sum", "(II)J"⟩ ⟨"ChunkCodeModel", "sum", "(II)J"⟩ ∈ TS := gd_mem 471 (by decide +kernel) (by decide +kernel)
theorem kw_472 : Cond.code ⟨"ChunkCodeModel", "sum", "(II)J"⟩ prog_7_method_8_code 6 (Option.some FieldType.long) ∈ TS := gd_mem 472 (by decide +kernel) (by decide +kernel)
theorem kw_473 : Cond.methodLink "ChunkCodeLaw" 76 ⟨"ChunkCodeModel", "encode", "()I"⟩ ∈ TS := gd_mem 473 (by decide +kernel) (by decide +kernel)
theorem kw_474 : Cond.instanceMethod ⟨"ChunkCodeModel", "encode", "()I"⟩ ∈ TS := gd_mem 474 (by decide +kernel) (by decide +kernel)
theorem kw_475 : Cond.selects "ChunkCodeModel" ⟨"ChunkCodeModel", "encode", "()I"⟩ ⟨"ChunkCodeModel", "encode", "()I"⟩ ∈ TS := gd_mem 475 (by decide +kernel) (by decide +kernel)
theorem kw_476 : Cond.code ⟨"ChunkCodeModel", "encode", "()I"⟩ prog_7_method_11_code 2 (Option.some FieldType.int) ∈ TS := gd_mem 476 (by decide +kernel) (by decide +kernel)
theorem kw_477 : Cond.methodLink "ChunkCodeModel" 57 ⟨"ChunkCodeModel", "lay", "()I"⟩ ∈ TS := gd_mem 477 (by decide +kernel) (by decide +kernel)
theorem kw_479 : Cond.instanceMethod ⟨"ChunkCodeModel", "lay", "()I"⟩ ∈ TS := gd_mem 479 (by decide +kernel) (by decide +kernel)
theorem kw_480 : Cond.code ⟨"ChunkCodeModel", "lay", "()I"⟩ prog_7_method_10_code 13 (Option.some FieldType.int) ∈ TS := gd_mem 480 (by decide +kernel) (by decide +kernel)
theorem kw_481 : Cond.methodLink "ChunkCodeModel" 51 ⟨"ChunkCodeModel", "next", "(I)I"⟩ ∈ TS := gd_mem 481 (by decide +kernel) (by decide +kernel)
theorem kw_483 : Cond.instanceMethod ⟨"ChunkCodeModel", "next", "(I)I"⟩ ∈ TS := gd_mem 483 (by decide +kernel) (by decide +kernel)
theorem kw_484 : Cond.code ⟨"ChunkCodeModel", "next", "(I)I"⟩ prog_7_method_9_code 3 (Option.some FieldType.int) ∈ TS := gd_mem 484 (by decide +kernel) (by decide +kernel)
theorem kw_485 : Cond.constantLong "ChunkCodeModel" 55 (127 : Int64) ∈ TS := gd_mem 485 (by decide +kernel) (by decide +kernel)
theorem kw_486 : Cond.methodLink "ChunkCodeLaw" 79 ⟨"ChunkCodeModel", "code", "(I)J"⟩ ∈ TS := gd_mem 486 (by decide +kernel) (by decide +kernel)
theorem kw_487 : Cond.instanceMethod ⟨"ChunkCodeModel", "code", "(I)J"⟩ ∈ TS := gd_mem 487 (by decide +kernel) (by decide +kernel)
theorem kw_488 : Cond.selects "ChunkCodeModel" ⟨"ChunkCodeModel", "code", "(I)J"⟩ ⟨"ChunkCodeModel", "code", "(I)J"⟩ ∈ TS := gd_mem 488 (by decide +kernel) (by decide +kernel)
theorem kw_489 : Cond.code ⟨"ChunkCodeModel", "code", "(I)J"⟩ prog_7_method_12_code 5 (Option.some FieldType.long) ∈ TS := gd_mem 489 (by decide +kernel) (by decide +kernel)
theorem kw_490 : Cond.methodLink "ChunkCodeLaw" 83 ⟨"ChunkCodeModel", "feed", "(JI)I"⟩ ∈ TS := gd_mem 490 (by decide +kernel) (by decide +kernel)
theorem kw_491 : Cond.instanceMethod ⟨"ChunkCodeModel", "feed", "(JI)I"⟩ ∈ TS := gd_mem 491 (by decide +kernel) (by decide +kernel)
theorem kw_492 : Cond.selects "ChunkCodeModel" ⟨"ChunkCodeModel", "feed", "(JI)I"⟩ ⟨"ChunkCodeModel", "feed", "(JI)I"⟩ ∈ TS := gd_mem 492 (by decide +kernel) (by decide +kernel)
theorem kw_493 : Cond.code ⟨"ChunkCodeModel", "feed", "(JI)I"⟩ prog_7_method_13_code 5 (Option.some FieldType.int) ∈ TS := gd_mem 493 (by decide +kernel) (by decide +kernel)
theorem kw_494 : Cond.methodLink "ChunkCodeLaw" 87 ⟨"ChunkCodeModel", "decode", "()I"⟩ ∈ TS := gd_mem 494 (by decide +kernel) (by decide +kernel)
theorem kw_495 : Cond.instanceMethod ⟨"ChunkCodeModel", "decode", "()I"⟩ ∈ TS := gd_mem 495 (by decide +kernel) (by decide +kernel)
theorem kw_496 : Cond.selects "ChunkCodeModel" ⟨"ChunkCodeModel", "decode", "()I"⟩ ⟨"ChunkCodeModel", "decode", "()I"⟩ ∈ TS := gd_mem 496 (by decide +kernel) (by decide +kernel)
theorem kw_497 : Cond.code ⟨"ChunkCodeModel", "decode", "()I"⟩ prog_7_method_15_code 3 (Option.some FieldType.int) ∈ TS := gd_mem 497 (by decide +kernel) (by decide +kernel)
theorem kw_498 : Cond.methodLink "ChunkCodeModel" 67 ⟨"ChunkCodeModel", "wrongAt", "()I"⟩ ∈ TS := gd_mem 498 (by decide +kernel) (by decide +kernel)
theorem kw_500 : Cond.instanceMethod ⟨"ChunkCodeModel", "wrongAt", "()I"⟩ ∈ TS := gd_mem 500 (by decide +kernel) (by decide +kernel)
theorem kw_501 : Cond.code ⟨"ChunkCodeModel", "wrongAt", "()I"⟩ prog_7_method_14_code 12 (Option.some FieldType.int) ∈ TS := gd_mem 501 (by decide +kernel) (by decide +kernel)
theorem kw_502 : Cond.methodLink "ChunkCodeLaw" 91 ⟨"ChunkCodeModel", "wrong", "()I"⟩ ∈ TS := gd_mem 502 (by decide +kernel) (by decide +kernel)
theorem kw_503 : Cond.instanceMethod ⟨"ChunkCodeModel", "wrong", "()I"⟩ ∈ TS := gd_mem 503 (by decide +kernel) (by decide +kernel)
theorem kw_504 : Cond.selects "ChunkCodeModel" ⟨"ChunkCodeModel", "wrong", "()I"⟩ ⟨"ChunkCodeModel", "wrong", "()I"⟩ ∈ TS := gd_mem 504 (by decide +kernel) (by decide +kernel)
theorem kw_505 : Cond.code ⟨"ChunkCodeModel", "wrong", "()I"⟩ prog_7_method_16_code 1 (Option.some FieldType.int) ∈ TS := gd_mem 505 (by decide +kernel) (by decide +kernel)
theorem kw_506 : Cond.methodLink "ChunkCodeLaw" 94 ⟨"ChunkCodeModel", "count", "(I)I"⟩ ∈ TS := gd_mem 506 (by decide +kernel) (by decide +kernel)
theorem kw_507 : Cond.instanceMethod ⟨"ChunkCodeModel", "count", "(I)I"⟩ ∈ TS := gd_mem 507 (by decide +kernel) (by decide +kernel)
theorem kw_508 : Cond.selects "ChunkCodeModel" ⟨"ChunkCodeModel", "count", "(I)I"⟩ ⟨"ChunkCodeModel", "count", "(I)I"⟩ ∈ TS := gd_mem 508 (by decide +kernel) (by decide +kernel)
theorem kw_509 : Cond.code ⟨"ChunkCodeModel", "count", "(I)I"⟩ prog_7_method_17_code 5 (Option.some FieldType.int) ∈ TS := gd_mem 509 (by decide +kernel) (by decide +kernel)
theorem kw_510 : Cond.constantLong "ChunkCodeLaw" 50 (4294967295 : Int64) ∈ TS := gd_mem 510 (by decide +kernel) (by decide +kernel)
end
section
/-! instructions -/
theorem dd_Cl_init_0 : decode bb_Cl_init 0 = .ok (.aload_n 0, 1) := by decide +kernel
theorem dd_Cl_init_1 : decode bb_Cl_init 1 = .ok (.invokespecial 3, 3) := by decide +kernel
theorem dd_Cl_init_4 : decode bb_Cl_init 4 = .ok (.aload_n 0, 1) := by decide +kernel
theorem dd_Cl_init_5 : decode bb_Cl_init 5 = .ok (.bipush 64, 2) := by decide +kernel
theorem dd_Cl_init_7 : decode bb_Cl_init 7 = .ok (.newarray .long, 2) := by decide +kernel
theorem dd_Cl_init_9 : decode bb_Cl_init 9 = .ok (.putfield 9, 3) := by decide +kernel
theorem dd_Cl_init_12 : decode bb_Cl_init 12 = .ok (.return_, 1) := by decide +kernel
theorem dd_Ru_init_0 : decode bb_Ru_init 0 = .ok (.aload_n 0, 1) := by decide +kernel
theorem dd_Ru_init_1 : decode bb_Ru_init 1 = .ok (.invokespecial 3, 3) := by decide +kernel
theorem dd_Ru_init_4 : decode bb_Ru_init 4 = .ok (.aload_n 0, 1) := by decide +kernel
theorem dd_Ru_init_5 : decode bb_Ru_init 5 = .ok (.bipush 64, 2) := by decide +kernel
theorem dd_Ru_init_7 : decode bb_Ru_init 7 = .ok (.newarray .long, 2) := by decide +kernel
theorem dd_Ru_init_9 : decode bb_Ru_init 9 = .ok (.putfield 9, 3) := by decide +kernel
theorem dd_Ru_init_12 : decode bb_Ru_init 12 = .ok (.aload_n 0, 1) := by decide +kernel
theorem dd_Ru_init_13 : decode bb_Ru_init 13 = .ok (.bipush 64, 2) := by decide +kernel
theorem dd_Ru_init_15 : decode bb_Ru_init 15 = .ok (.newarray .int, 2) := by decide +kernel
theorem dd_Ru_init_17 : decode bb_Ru_init 17 = .ok (.putfield 15, 3) := by decide +kernel
theorem dd_Ru_init_20 : decode bb_Ru_init 20 = .ok (.return_, 1) := by decide +kernel
theorem dd_Oc_init_0 : decode bb_Oc_init 0 = .ok (.aload_n 0, 1) := by decide +kernel
theorem dd_Oc_init_1 : decode bb_Oc_init 1 = .ok (.invokespecial 1, 3) := by decide +kernel
theorem dd_Oc_init_4 : decode bb_Oc_init 4 = .ok (.aload_n 0, 1) := by decide +kernel
theorem dd_Oc_init_5 : decode bb_Oc_init 5 = .ok (.iload_n 1, 1) := by decide +kernel
theorem dd_Oc_init_6 : decode bb_Oc_init 6 = .ok (.newarray .byte, 2) := by decide +kernel
theorem dd_Oc_init_8 : decode bb_Oc_init 8 = .ok (.putfield 7, 3) := by decide +kernel
theorem dd_Oc_init_11 : decode bb_Oc_init 11 = .ok (.return_, 1) := by decide +kernel
theorem dd_Rd_init_0 : decode bb_Rd_init 0 = .ok (.aload_n 0, 1) := by decide +kernel
theorem dd_Rd_init_1 : decode bb_Rd_init 1 = .ok (.invokespecial 3, 3) := by decide +kernel
theorem dd_Rd_init_4 : decode bb_Rd_init 4 = .ok (.return_, 1) := by decide +kernel
theorem dd_Ru_gather_0 : decode bb_Ru_gather 0 = .ok (.aload_n 0, 1) := by decide +kernel
theorem dd_Ru_gather_1 : decode bb_Ru_gather 1 = .ok (.iconst 0, 1) := by decide +kernel
theorem dd_Ru_gather_2 : decode bb_Ru_gather 2 = .ok (.putfield 19, 3) := by decide +kernel
theorem dd_Ru_gather_5 : decode bb_Ru_gather 5 = .ok (.iconst 0, 1) := by decide +kernel
theorem dd_Ru_gather_6 : decode bb_Ru_gather 6 = .ok (.istore_n 2, 1) := by decide +kernel
theorem dd_Ru_gather_7 : decode bb_Ru_gather 7 = .ok (.iload_n 2, 1) := by decide +kernel
theorem dd_Ru_gather_8 : decode bb_Ru_gather 8 = .ok (.bipush 64, 2) := by decide +kernel
theorem dd_Ru_gather_10 : decode bb_Ru_gather 10 = .ok (.if_icmp .ge 26, 3) := by decide +kernel
theorem dd_Ru_gather_13 : decode bb_Ru_gather 13 = .ok (.aload_n 1, 1) := by decide +kernel
theorem dd_Ru_gather_14 : decode bb_Ru_gather 14 = .ok (.iload_n 2, 1) := by decide +kernel
theorem dd_Ru_gather_15 : decode bb_Ru_gather 15 = .ok (.invokevirtual 23, 3) := by decide +kernel
theorem dd_Ru_gather_18 : decode bb_Ru_gather 18 = .ok (.ifCond .eq 12, 3) := by decide +kernel
theorem dd_Ru_gather_21 : decode bb_Ru_gather 21 = .ok (.aload_n 0, 1) := by decide +kernel
theorem dd_Ru_gather_22 : decode bb_Ru_gather 22 = .ok (.aload_n 1, 1) := by decide +kernel
theorem dd_Ru_gather_23 : decode bb_Ru_gather 23 = .ok (.iload_n 2, 1) := by decide +kernel
theorem dd_Ru_gather_24 : decode bb_Ru_gather 24 = .ok (.invokevirtual 29, 3) := by decide +kernel
theorem dd_Ru_gather_27 : decode bb_Ru_gather 27 = .ok (.invokevirtual 33, 3) := by decide +kernel
theorem dd_Ru_gather_30 : decode bb_Ru_gather 30 = .ok (.iinc 2 1, 3) := by decide +kernel
theorem dd_Ru_gather_33 : decode bb_Ru_gather 33 = .ok (.goto (-26), 3) := by decide +kernel
theorem dd_Ru_gather_36 : decode bb_Ru_gather 36 = .ok (.return_, 1) := by decide +kernel
theorem dd_Cl_isFull_0 : decode bb_Cl_isFull 0 = .ok (.aload_n 0, 1) := by decide +kernel
theorem dd_Cl_isFull_1 : decode bb_Cl_isFull 1 = .ok (.getfield 15, 3) := by decide +kernel
theorem dd_Cl_isFull_4 : decode bb_Cl_isFull 4 = .ok (.iload_n 1, 1) := by decide +kernel
theorem dd_Cl_isFull_5 : decode bb_Cl_isFull 5 = .ok (.lushr, 1) := by decide +kernel
theorem dd_Cl_isFull_6 : decode bb_Cl_isFull 6 = .ok (.lconst 1, 1) := by decide +kernel
theorem dd_Cl_isFull_7 : decode bb_Cl_isFull 7 = .ok (.land, 1) := by decide +kernel
theorem dd_Cl_isFull_8 : decode bb_Cl_isFull 8 = .ok (.lconst 1, 1) := by decide +kernel
theorem dd_Cl_isFull_9 : decode bb_Cl_isFull 9 = .ok (.lcmp, 1) := by decide +kernel
theorem dd_Cl_isFull_10 : decode bb_Cl_isFull 10 = .ok (.ifCond .ne 7, 3) := by decide +kernel
theorem dd_Cl_isFull_13 : decode bb_Cl_isFull 13 = .ok (.iconst 1, 1) := by decide +kernel
theorem dd_Cl_isFull_14 : decode bb_Cl_isFull 14 = .ok (.goto 4, 3) := by decide +kernel
theorem dd_Cl_isFull_17 : decode bb_Cl_isFull 17 = .ok (.iconst 0, 1) := by decide +kernel
theorem dd_Cl_isFull_18 : decode bb_Cl_isFull 18 = .ok (.ireturn, 1) := by decide +kernel
theorem dd_Cl_number_0 : decode bb_Cl_number 0 = .ok (.aload_n 0, 1) := by decide +kernel
theorem dd_Cl_number_1 : decode bb_Cl_number 1 = .ok (.getfield 9, 3) := by decide +kernel
theorem dd_Cl_number_4 : decode bb_Cl_number 4 = .ok (.iload_n 1, 1) := by decide +kernel
theorem dd_Cl_number_5 : decode bb_Cl_number 5 = .ok (.laload, 1) := by decide +kernel
theorem dd_Cl_number_6 : decode bb_Cl_number 6 = .ok (.lreturn, 1) := by decide +kernel
theorem dd_Ru_addCell_0 : decode bb_Ru_addCell 0 = .ok (.aload_n 0, 1) := by decide +kernel
theorem dd_Ru_addCell_1 : decode bb_Ru_addCell 1 = .ok (.getfield 19, 3) := by decide +kernel
theorem dd_Ru_addCell_4 : decode bb_Ru_addCell 4 = .ok (.ifCond .eq 19, 3) := by decide +kernel
theorem dd_Ru_addCell_7 : decode bb_Ru_addCell 7 = .ok (.aload_n 0, 1) := by decide +kernel
theorem dd_Ru_addCell_8 : decode bb_Ru_addCell 8 = .ok (.getfield 9, 3) := by decide +kernel
theorem dd_Ru_addCell_11 : decode bb_Ru_addCell 11 = .ok (.aload_n 0, 1) := by decide +kernel
theorem dd_Ru_addCell_12 : decode bb_Ru_addCell 12 = .ok (.getfield 19, 3) := by decide +kernel
theorem dd_Ru_addCell_15 : decode bb_Ru_addCell 15 = .ok (.iconst 1, 1) := by decide +kernel
theorem dd_Ru_addCell_16 : decode bb_Ru_addCell 16 = .ok (.isub, 1) := by decide +kernel
theorem dd_Ru_addCell_17 : decode bb_Ru_addCell 17 = .ok (.laload, 1) := by decide +kernel
theorem dd_Ru_addCell_18 : decode bb_Ru_addCell 18 = .ok (.lload_n 1, 1) := by decide +kernel
theorem dd_Ru_addCell_19 : decode bb_Ru_addCell 19 = .ok (.lcmp, 1) := by decide +kernel
theorem dd_Ru_addCell_20 : decode bb_Ru_addCell 20 = .ok (.ifCond .eq 33, 3) := by decide +kernel
theorem dd_Ru_addCell_23 : decode bb_Ru_addCell 23 = .ok (.aload_n 0, 1) := by decide +kernel
theorem dd_Ru_addCell_24 : decode bb_Ru_addCell 24 = .ok (.getfield 9, 3) := by decide +kernel
theorem dd_Ru_addCell_27 : decode bb_Ru_addCell 27 = .ok (.aload_n 0, 1) := by decide +kernel
theorem dd_Ru_addCell_28 : decode bb_Ru_addCell 28 = .ok (.getfield 19, 3) := by decide +kernel
theorem dd_Ru_addCell_31 : decode bb_Ru_addCell 31 = .ok (.lload_n 1, 1) := by decide +kernel
theorem dd_Ru_addCell_32 : decode bb_Ru_addCell 32 = .ok (.lastore, 1) := by decide +kernel
theorem dd_Ru_addCell_33 : decode bb_Ru_addCell 33 = .ok (.aload_n 0, 1) := by decide +kernel
theorem dd_Ru_addCell_34 : decode bb_Ru_addCell 34 = .ok (.getfield 15, 3) := by decide +kernel
theorem dd_Ru_addCell_37 : decode bb_Ru_addCell 37 = .ok (.aload_n 0, 1) := by decide +kernel
theorem dd_Ru_addCell_38 : decode bb_Ru_addCell 38 = .ok (.getfield 19, 3) := by decide +kernel
theorem dd_Ru_addCell_41 : decode bb_Ru_addCell 41 = .ok (.iconst 0, 1) := by decide +kernel
theorem dd_Ru_addCell_42 : decode bb_Ru_addCell 42 = .ok (.iastore, 1) := by decide +kernel
theorem dd_Ru_addCell_43 : decode bb_Ru_addCell 43 = .ok (.aload_n 0, 1) := by decide +kernel
theorem dd_Ru_addCell_44 : decode bb_Ru_addCell 44 = .ok (.dup, 1) := by decide +kernel
theorem dd_Ru_addCell_45 : decode bb_Ru_addCell 45 = .ok (.getfield 19, 3) := by decide +kernel
theorem dd_Ru_addCell_48 : decode bb_Ru_addCell 48 = .ok (.iconst 1, 1) := by decide +kernel
theorem dd_Ru_addCell_49 : decode bb_Ru_addCell 49 = .ok (.iadd, 1) := by decide +kernel
theorem dd_Ru_addCell_50 : decode bb_Ru_addCell 50 = .ok (.putfield 19, 3) := by decide +kernel
theorem dd_Ru_addCell_53 : decode bb_Ru_addCell 53 = .ok (.aload_n 0, 1) := by decide +kernel
theorem dd_Ru_addCell_54 : decode bb_Ru_addCell 54 = .ok (.getfield 15, 3) := by decide +kernel
theorem dd_Ru_addCell_57 : decode bb_Ru_addCell 57 = .ok (.aload_n 0, 1) := by decide +kernel
theorem dd_Ru_addCell_58 : decode bb_Ru_addCell 58 = .ok (.getfield 19, 3) := by decide +kernel
theorem dd_Ru_addCell_61 : decode bb_Ru_addCell 61 = .ok (.iconst 1, 1) := by decide +kernel
theorem dd_Ru_addCell_62 : decode bb_Ru_addCell 62 = .ok (.isub, 1) := by decide +kernel
theorem dd_Ru_addCell_63 : decode bb_Ru_addCell 63 = .ok (.dup2, 1) := by decide +kernel
theorem dd_Ru_addCell_64 : decode bb_Ru_addCell 64 = .ok (.iaload, 1) := by decide +kernel
theorem dd_Ru_addCell_65 : decode bb_Ru_addCell 65 = .ok (.iconst 1, 1) := by decide +kernel
theorem dd_Ru_addCell_66 : decode bb_Ru_addCell 66 = .ok (.iadd, 1) := by decide +kernel
theorem dd_Ru_addCell_67 : decode bb_Ru_addCell 67 = .ok (.iastore, 1) := by decide +kernel
theorem dd_Ru_addCell_68 : decode bb_Ru_addCell 68 = .ok (.return_, 1) := by decide +kernel
theorem dd_Oc_clear_0 : decode bb_Oc_clear 0 = .ok (.aload_n 0, 1) := by decide +kernel
theorem dd_Oc_clear_1 : decode bb_Oc_clear 1 = .ok (.iconst 0, 1) := by decide +kernel
theorem dd_Oc_clear_2 : decode bb_Oc_clear 2 = .ok (.putfield 13, 3) := by decide +kernel
theorem dd_Oc_clear_5 : decode bb_Oc_clear 5 = .ok (.return_, 1) := by decide +kernel
theorem dd_Cl_mask_0 : decode bb_Cl_mask 0 = .ok (.aload_n 0, 1) := by decide +kernel
theorem dd_Cl_mask_1 : decode bb_Cl_mask 1 = .ok (.getfield 15, 3) := by decide +kernel
theorem dd_Cl_mask_4 : decode bb_Cl_mask 4 = .ok (.lreturn, 1) := by decide +kernel
theorem dd_Oc_add_0 : decode bb_Oc_add 0 = .ok (.aload_n 0, 1) := by decide +kernel
theorem dd_Oc_add_1 : decode bb_Oc_add 1 = .ok (.getfield 7, 3) := by decide +kernel
theorem dd_Oc_add_4 : decode bb_Oc_add 4 = .ok (.aload_n 0, 1) := by decide +kernel
theorem dd_Oc_add_5 : decode bb_Oc_add 5 = .ok (.getfield 13, 3) := by decide +kernel
theorem dd_Oc_add_8 : decode bb_Oc_add 8 = .ok (.iload_n 1, 1) := by decide +kernel
theorem dd_Oc_add_9 : decode bb_Oc_add 9 = .ok (.i2b, 1) := by decide +kernel
theorem dd_Oc_add_10 : decode bb_Oc_add 10 = .ok (.bastore, 1) := by decide +kernel
theorem dd_Oc_add_11 : decode bb_Oc_add 11 = .ok (.aload_n 0, 1) := by decide +kernel
theorem dd_Oc_add_12 : decode bb_Oc_add 12 = .ok (.dup, 1) := by decide +kernel
theorem dd_Oc_add_13 : decode bb_Oc_add 13 = .ok (.getfield 13, 3) := by decide +kernel
theorem dd_Oc_add_16 : decode bb_Oc_add 16 = .ok (.iconst 1, 1) := by decide +kernel
theorem dd_Oc_add_17 : decode bb_Oc_add 17 = .ok (.iadd, 1) := by decide +kernel
theorem dd_Oc_add_18 : decode bb_Oc_add 18 = .ok (.putfield 13, 3) := by decide +kernel
theorem dd_Oc_add_21 : decode bb_Oc_add 21 = .ok (.return_, 1) := by decide +kernel
theorem dd_Ru_many_0 : decode bb_Ru_many 0 = .ok (.aload_n 0, 1) := by decide +kernel
theorem dd_Ru_many_1 : decode bb_Ru_many 1 = .ok (.getfield 19, 3) := by decide +kernel
theorem dd_Ru_many_4 : decode bb_Ru_many 4 = .ok (.ireturn, 1) := by decide +kernel
theorem dd_Ru_size_0 : decode bb_Ru_size 0 = .ok (.aload_n 0, 1) := by decide +kernel
theorem dd_Ru_size_1 : decode bb_Ru_size 1 = .ok (.getfield 15, 3) := by decide +kernel
theorem dd_Ru_size_4 : decode bb_Ru_size 4 = .ok (.iload_n 1, 1) := by decide +kernel
theorem dd_Ru_size_5 : decode bb_Ru_size 5 = .ok (.iaload, 1) := by decide +kernel
theorem dd_Ru_size_6 : decode bb_Ru_size 6 = .ok (.ireturn, 1) := by decide +kernel
theorem dd_Ru_folded_0 : decode bb_Ru_folded 0 = .ok (.iload_n 1, 1) := by decide +kernel
theorem dd_Ru_folded_1 : decode bb_Ru_folded 1 = .ok (.ifCond .ne 7, 3) := by decide +kernel
theorem dd_Ru_folded_4 : decode bb_Ru_folded 4 = .ok (.lconst 0, 1) := by decide +kernel
theorem dd_Ru_folded_5 : decode bb_Ru_folded 5 = .ok (.goto 11, 3) := by decide +kernel
theorem dd_Ru_folded_8 : decode bb_Ru_folded 8 = .ok (.aload_n 0, 1) := by decide +kernel
theorem dd_Ru_folded_9 : decode bb_Ru_folded 9 = .ok (.getfield 9, 3) := by decide +kernel
theorem dd_Ru_folded_12 : decode bb_Ru_folded 12 = .ok (.iload_n 1, 1) := by decide +kernel
theorem dd_Ru_folded_13 : decode bb_Ru_folded 13 = .ok (.iconst 1, 1) := by decide +kernel
theorem dd_Ru_folded_14 : decode bb_Ru_folded 14 = .ok (.isub, 1) := by decide +kernel
theorem dd_Ru_folded_15 : decode bb_Ru_folded 15 = .ok (.laload, 1) := by decide +kernel
theorem dd_Ru_folded_16 : decode bb_Ru_folded 16 = .ok (.lstore_n 2, 1) := by decide +kernel
theorem dd_Ru_folded_17 : decode bb_Ru_folded 17 = .ok (.aload_n 0, 1) := by decide +kernel
theorem dd_Ru_folded_18 : decode bb_Ru_folded 18 = .ok (.getfield 9, 3) := by decide +kernel
theorem dd_Ru_folded_21 : decode bb_Ru_folded 21 = .ok (.iload_n 1, 1) := by decide +kernel
theorem dd_Ru_folded_22 : decode bb_Ru_folded 22 = .ok (.laload, 1) := by decide +kernel
theorem dd_Ru_folded_23 : decode bb_Ru_folded 23 = .ok (.lload_n 2, 1) := by decide +kernel
theorem dd_Ru_folded_24 : decode bb_Ru_folded 24 = .ok (.lsub, 1) := by decide +kernel
theorem dd_Ru_folded_25 : decode bb_Ru_folded 25 = .ok (.lstore 4, 2) := by decide +kernel
theorem dd_Ru_folded_27 : decode bb_Ru_folded 27 = .ok (.lload 4, 2) := by decide +kernel
theorem dd_Ru_folded_29 : decode bb_Ru_folded 29 = .ok (.iconst 1, 1) := by decide +kernel
theorem dd_Ru_folded_30 : decode bb_Ru_folded 30 = .ok (.lshl, 1) := by decide +kernel
theorem dd_Ru_folded_31 : decode bb_Ru_folded 31 = .ok (.lload 4, 2) := by decide +kernel
theorem dd_Ru_folded_33 : decode bb_Ru_folded 33 = .ok (.bipush 63, 2) := by decide +kernel
theorem dd_Ru_folded_35 : decode bb_Ru_folded 35 = .ok (.lshr, 1) := by decide +kernel
theorem dd_Ru_folded_36 : decode bb_Ru_folded 36 = .ok (.lxor, 1) := by decide +kernel
theorem dd_Ru_folded_37 : decode bb_Ru_folded 37 = .ok (.lreturn, 1) := by decide +kernel
theorem dd_Oc_length_0 : decode bb_Oc_length 0 = .ok (.aload_n 0, 1) := by decide +kernel
theorem dd_Oc_length_1 : decode bb_Oc_length 1 = .ok (.getfield 13, 3) := by decide +kernel
theorem dd_Oc_length_4 : decode bb_Oc_length 4 = .ok (.ireturn, 1) := by decide +kernel
theorem dd_Cl_fill_0 : decode bb_Cl_fill 0 = .ok (.aload_n 0, 1) := by decide +kernel
theorem dd_Cl_fill_1 : decode bb_Cl_fill 1 = .ok (.getfield 9, 3) := by decide +kernel
theorem dd_Cl_fill_4 : decode bb_Cl_fill 4 = .ok (.iload_n 1, 1) := by decide +kernel
theorem dd_Cl_fill_5 : decode bb_Cl_fill 5 = .ok (.lload_n 2, 1) := by decide +kernel
theorem dd_Cl_fill_6 : decode bb_Cl_fill 6 = .ok (.lastore, 1) := by decide +kernel
theorem dd_Cl_fill_7 : decode bb_Cl_fill 7 = .ok (.aload_n 0, 1) := by decide +kernel
theorem dd_Cl_fill_8 : decode bb_Cl_fill 8 = .ok (.dup, 1) := by decide +kernel
theorem dd_Cl_fill_9 : decode bb_Cl_fill 9 = .ok (.getfield 15, 3) := by decide +kernel
theorem dd_Cl_fill_12 : decode bb_Cl_fill 12 = .ok (.lconst 1, 1) := by decide +kernel
theorem dd_Cl_fill_13 : decode bb_Cl_fill 13 = .ok (.iload_n 1, 1) := by decide +kernel
theorem dd_Cl_fill_14 : decode bb_Cl_fill 14 = .ok (.lshl, 1) := by decide +kernel
theorem dd_Cl_fill_15 : decode bb_Cl_fill 15 = .ok (.lor, 1) := by decide +kernel
theorem dd_Cl_fill_16 : decode bb_Cl_fill 16 = .ok (.putfield 15, 3) := by decide +kernel
theorem dd_Cl_fill_19 : decode bb_Cl_fill 19 = .ok (.return_, 1) := by decide +kernel
theorem dd_Cl_clear_0 : decode bb_Cl_clear 0 = .ok (.aload_n 0, 1) := by decide +kernel
theorem dd_Cl_clear_1 : decode bb_Cl_clear 1 = .ok (.dup, 1) := by decide +kernel
theorem dd_Cl_clear_2 : decode bb_Cl_clear 2 = .ok (.getfield 15, 3) := by decide +kernel
theorem dd_Cl_clear_5 : decode bb_Cl_clear 5 = .ok (.lconst 1, 1) := by decide +kernel
theorem dd_Cl_clear_6 : decode bb_Cl_clear 6 = .ok (.iload_n 1, 1) := by decide +kernel
theorem dd_Cl_clear_7 : decode bb_Cl_clear 7 = .ok (.lshl, 1) := by decide +kernel
theorem dd_Cl_clear_8 : decode bb_Cl_clear 8 = .ok (.ldc2_w 19, 3) := by decide +kernel
theorem dd_Cl_clear_11 : decode bb_Cl_clear 11 = .ok (.lxor, 1) := by decide +kernel
theorem dd_Cl_clear_12 : decode bb_Cl_clear 12 = .ok (.land, 1) := by decide +kernel
theorem dd_Cl_clear_13 : decode bb_Cl_clear 13 = .ok (.putfield 15, 3) := by decide +kernel
theorem dd_Cl_clear_16 : decode bb_Cl_clear 16 = .ok (.return_, 1) := by decide +kernel
theorem dd_Oc_octetOrZero_0 : decode bb_Oc_octetOrZero 0 = .ok (.iload_n 1, 1) := by decide +kernel
theorem dd_Oc_octetOrZero_1 : decode bb_Oc_octetOrZero 1 = .ok (.aload_n 0, 1) := by decide +kernel
theorem dd_Oc_octetOrZero_2 : decode bb_Oc_octetOrZero 2 = .ok (.getfield 13, 3) := by decide +kernel
theorem dd_Oc_octetOrZero_5 : decode bb_Oc_octetOrZero 5 = .ok (.if_icmp .ge 16, 3) := by decide +kernel
theorem dd_Oc_octetOrZero_8 : decode bb_Oc_octetOrZero 8 = .ok (.aload_n 0, 1) := by decide +kernel
theorem dd_Oc_octetOrZero_9 : decode bb_Oc_octetOrZero 9 = .ok (.getfield 7, 3) := by decide +kernel
theorem dd_Oc_octetOrZero_12 : decode bb_Oc_octetOrZero 12 = .ok (.iload_n 1, 1) := by decide +kernel
theorem dd_Oc_octetOrZero_13 : decode bb_Oc_octetOrZero 13 = .ok (.baload, 1) := by decide +kernel
theorem dd_Oc_octetOrZero_14 : decode bb_Oc_octetOrZero 14 = .ok (.sipush 255, 3) := by decide +kernel
theorem dd_Oc_octetOrZero_17 : decode bb_Oc_octetOrZero 17 = .ok (.iand, 1) := by decide +kernel
theorem dd_Oc_octetOrZero_18 : decode bb_Oc_octetOrZero 18 = .ok (.goto 4, 3) := by decide +kernel
theorem dd_Oc_octetOrZero_21 : decode bb_Oc_octetOrZero 21 = .ok (.iconst 0, 1) := by decide +kernel
theorem dd_Oc_octetOrZero_22 : decode bb_Oc_octetOrZero 22 = .ok (.ireturn, 1) := by decide +kernel
theorem dd_Rd_read_0 : decode bb_Rd_read 0 = .ok (.aload_n 0, 1) := by decide +kernel
theorem dd_Rd_read_1 : decode bb_Rd_read 1 = .ok (.iconst 0, 1) := by decide +kernel
theorem dd_Rd_read_2 : decode bb_Rd_read 2 = .ok (.putfield 9, 3) := by decide +kernel
theorem dd_Rd_read_5 : decode bb_Rd_read 5 = .ok (.aload_n 2, 1) := by decide +kernel
theorem dd_Rd_read_6 : decode bb_Rd_read 6 = .ok (.invokevirtual 15, 3) := by decide +kernel
theorem dd_Rd_read_9 : decode bb_Rd_read 9 = .ok (.aload_n 1, 1) := by decide +kernel
theorem dd_Rd_read_10 : decode bb_Rd_read 10 = .ok (.invokevirtual 20, 3) := by decide +kernel
theorem dd_Rd_read_13 : decode bb_Rd_read 13 = .ok (.bipush 8, 2) := by decide +kernel
theorem dd_Rd_read_15 : decode bb_Rd_read 15 = .ok (.if_icmp .ge 13, 3) := by decide +kernel
theorem dd_Rd_read_18 : decode bb_Rd_read 18 = .ok (.aload_n 0, 1) := by decide +kernel
theorem dd_Rd_read_19 : decode bb_Rd_read 19 = .ok (.aload_n 1, 1) := by decide +kernel
theorem dd_Rd_read_20 : decode bb_Rd_read 20 = .ok (.invokevirtual 20, 3) := by decide +kernel
theorem dd_Rd_read_23 : decode bb_Rd_read 23 = .ok (.putfield 9, 3) := by decide +kernel
theorem dd_Rd_read_26 : decode bb_Rd_read 26 = .ok (.iconst 0, 1) := by decide +kernel
theorem dd_Rd_read_27 : decode bb_Rd_read 27 = .ok (.ireturn, 1) := by decide +kernel
theorem dd_Rd_read_28 : decode bb_Rd_read 28 = .ok (.aload_n 0, 1) := by decide +kernel
theorem dd_Rd_read_29 : decode bb_Rd_read 29 = .ok (.aload_n 1, 1) := by decide +kernel
theorem dd_Rd_read_30 : decode bb_Rd_read 30 = .ok (.invokevirtual 26, 3) := by decide +kernel
theorem dd_Rd_read_33 : decode bb_Rd_read 33 = .ok (.lstore_n 3, 1) := by decide +kernel
theorem dd_Rd_read_34 : decode bb_Rd_read 34 = .ok (.aload_n 0, 1) := by decide +kernel
theorem dd_Rd_read_35 : decode bb_Rd_read 35 = .ok (.aload_n 1, 1) := by decide +kernel
theorem dd_Rd_read_36 : decode bb_Rd_read 36 = .ok (.lload_n 3, 1) := by decide +kernel
theorem dd_Rd_read_37 : decode bb_Rd_read 37 = .ok (.aload_n 2, 1) := by decide +kernel
theorem dd_Rd_read_38 : decode bb_Rd_read 38 = .ok (.invokevirtual 30, 3) := by decide +kernel
theorem dd_Rd_read_41 : decode bb_Rd_read 41 = .ok (.ifCond .eq 18, 3) := by decide +kernel
theorem dd_Rd_read_44 : decode bb_Rd_read 44 = .ok (.aload_n 0, 1) := by decide +kernel
theorem dd_Rd_read_45 : decode bb_Rd_read 45 = .ok (.getfield 9, 3) := by decide +kernel
theorem dd_Rd_read_48 : decode bb_Rd_read 48 = .ok (.aload_n 1, 1) := by decide +kernel
theorem dd_Rd_read_49 : decode bb_Rd_read 49 = .ok (.invokevirtual 20, 3) := by decide +kernel
theorem dd_Rd_read_52 : decode bb_Rd_read 52 = .ok (.if_icmp .ne 7, 3) := by decide +kernel
theorem dd_Rd_read_55 : decode bb_Rd_read 55 = .ok (.iconst 1, 1) := by decide +kernel
theorem dd_Rd_read_56 : decode bb_Rd_read 56 = .ok (.goto 4, 3) := by decide +kernel
theorem dd_Rd_read_59 : decode bb_Rd_read 59 = .ok (.iconst 0, 1) := by decide +kernel
theorem dd_Rd_read_60 : decode bb_Rd_read 60 = .ok (.ireturn, 1) := by decide +kernel
theorem dd_Cl_clearAll_0 : decode bb_Cl_clearAll 0 = .ok (.aload_n 0, 1) := by decide +kernel
theorem dd_Cl_clearAll_1 : decode bb_Cl_clearAll 1 = .ok (.lconst 0, 1) := by decide +kernel
theorem dd_Cl_clearAll_2 : decode bb_Cl_clearAll 2 = .ok (.putfield 15, 3) := by decide +kernel
theorem dd_Cl_clearAll_5 : decode bb_Cl_clearAll 5 = .ok (.return_, 1) := by decide +kernel
theorem dd_Rd_readMask_0 : decode bb_Rd_readMask 0 = .ok (.lconst 0, 1) := by decide +kernel
theorem dd_Rd_readMask_1 : decode bb_Rd_readMask 1 = .ok (.lstore_n 2, 1) := by decide +kernel
theorem dd_Rd_readMask_2 : decode bb_Rd_readMask 2 = .ok (.iconst 0, 1) := by decide +kernel
theorem dd_Rd_readMask_3 : decode bb_Rd_readMask 3 = .ok (.istore 4, 2) := by decide +kernel
theorem dd_Rd_readMask_5 : decode bb_Rd_readMask 5 = .ok (.iload 4, 2) := by decide +kernel
theorem dd_Rd_readMask_7 : decode bb_Rd_readMask 7 = .ok (.bipush 8, 2) := by decide +kernel
theorem dd_Rd_readMask_9 : decode bb_Rd_readMask 9 = .ok (.if_icmp .ge 25, 3) := by decide +kernel
theorem dd_Rd_readMask_12 : decode bb_Rd_readMask 12 = .ok (.lload_n 2, 1) := by decide +kernel
theorem dd_Rd_readMask_13 : decode bb_Rd_readMask 13 = .ok (.aload_n 1, 1) := by decide +kernel
theorem dd_Rd_readMask_14 : decode bb_Rd_readMask 14 = .ok (.iload 4, 2) := by decide +kernel
theorem dd_Rd_readMask_16 : decode bb_Rd_readMask 16 = .ok (.invokevirtual 34, 3) := by decide +kernel
theorem dd_Rd_readMask_19 : decode bb_Rd_readMask 19 = .ok (.i2l, 1) := by decide +kernel
theorem dd_Rd_readMask_20 : decode bb_Rd_readMask 20 = .ok (.bipush 8, 2) := by decide +kernel
theorem dd_Rd_readMask_22 : decode bb_Rd_readMask 22 = .ok (.iload 4, 2) := by decide +kernel
theorem dd_Rd_readMask_24 : decode bb_Rd_readMask 24 = .ok (.imul, 1) := by decide +kernel
theorem dd_Rd_readMask_25 : decode bb_Rd_readMask 25 = .ok (.lshl, 1) := by decide +kernel
theorem dd_Rd_readMask_26 : decode bb_Rd_readMask 26 = .ok (.lor, 1) := by decide +kernel
theorem dd_Rd_readMask_27 : decode bb_Rd_readMask 27 = .ok (.lstore_n 2, 1) := by decide +kernel
theorem dd_Rd_readMask_28 : decode bb_Rd_readMask 28 = .ok (.iinc 4 1, 3) := by decide +kernel
theorem dd_Rd_readMask_31 : decode bb_Rd_readMask 31 = .ok (.goto (-26), 3) := by decide +kernel
theorem dd_Rd_readMask_34 : decode bb_Rd_readMask 34 = .ok (.aload_n 0, 1) := by decide +kernel
theorem dd_Rd_readMask_35 : decode bb_Rd_readMask 35 = .ok (.bipush 8, 2) := by decide +kernel
theorem dd_Rd_readMask_37 : decode bb_Rd_readMask 37 = .ok (.putfield 9, 3) := by decide +kernel
theorem dd_Rd_readMask_40 : decode bb_Rd_readMask 40 = .ok (.lload_n 2, 1) := by decide +kernel
theorem dd_Rd_readMask_41 : decode bb_Rd_readMask 41 = .ok (.lreturn, 1) := by decide +kernel
theorem dd_Rd_readRuns_0 : decode bb_Rd_readRuns 0 = .ok (.lload_n 2, 1) := by decide +kernel
theorem dd_Rd_readRuns_1 : decode bb_Rd_readRuns 1 = .ok (.invokestatic 38, 3) := by decide +kernel
theorem dd_Rd_readRuns_4 : decode bb_Rd_readRuns 4 = .ok (.istore 5, 2) := by decide +kernel
theorem dd_Rd_readRuns_6 : decode bb_Rd_readRuns 6 = .ok (.iconst 0, 1) := by decide +kernel
theorem dd_Rd_readRuns_7 : decode bb_Rd_readRuns 7 = .ok (.istore 6, 2) := by decide +kernel
theorem dd_Rd_readRuns_9 : decode bb_Rd_readRuns 9 = .ok (.lconst 0, 1) := by decide +kernel
theorem dd_Rd_readRuns_10 : decode bb_Rd_readRuns 10 = .ok (.lstore 7, 2) := by decide +kernel
theorem dd_Rd_readRuns_12 : decode bb_Rd_readRuns 12 = .ok (.iconst 1, 1) := by decide +kernel
theorem dd_Rd_readRuns_13 : decode bb_Rd_readRuns 13 = .ok (.istore 9, 2) := by decide +kernel
theorem dd_Rd_readRuns_15 : decode bb_Rd_readRuns 15 = .ok (.iconst 0, 1) := by decide +kernel
theorem dd_Rd_readRuns_16 : decode bb_Rd_readRuns 16 = .ok (.istore 10, 2) := by decide +kernel
theorem dd_Rd_readRuns_18 : decode bb_Rd_readRuns 18 = .ok (.iload 10, 2) := by decide +kernel
theorem dd_Rd_readRuns_20 : decode bb_Rd_readRuns 20 = .ok (.bipush 64, 2) := by decide +kernel
theorem dd_Rd_readRuns_22 : decode bb_Rd_readRuns 22 = .ok (.if_icmp .ge 91, 3) := by decide +kernel
theorem dd_Rd_readRuns_25 : decode bb_Rd_readRuns 25 = .ok (.lload_n 2, 1) := by decide +kernel
theorem dd_Rd_readRuns_26 : decode bb_Rd_readRuns 26 = .ok (.iload 10, 2) := by decide +kernel
theorem dd_Rd_readRuns_28 : decode bb_Rd_readRuns 28 = .ok (.lushr, 1) := by decide +kernel
theorem dd_Rd_readRuns_29 : decode bb_Rd_readRuns 29 = .ok (.lconst 1, 1) := by decide +kernel
theorem dd_Rd_readRuns_30 : decode bb_Rd_readRuns 30 = .ok (.land, 1) := by decide +kernel
theorem dd_Rd_readRuns_31 : decode bb_Rd_readRuns 31 = .ok (.lconst 0, 1) := by decide +kernel
theorem dd_Rd_readRuns_32 : decode bb_Rd_readRuns 32 = .ok (.lcmp, 1) := by decide +kernel
theorem dd_Rd_readRuns_33 : decode bb_Rd_readRuns 33 = .ok (.ifCond .ne 6, 3) := by decide +kernel
theorem dd_Rd_readRuns_36 : decode bb_Rd_readRuns 36 = .ok (.goto 71, 3) := by decide +kernel
theorem dd_Rd_readRuns_39 : decode bb_Rd_readRuns 39 = .ok (.iload 6, 2) := by decide +kernel
theorem dd_Rd_readRuns_41 : decode bb_Rd_readRuns 41 = .ok (.ifCond .ne 51, 3) := by decide +kernel
theorem dd_Rd_readRuns_44 : decode bb_Rd_readRuns 44 = .ok (.aload_n 0, 1) := by decide +kernel
theorem dd_Rd_readRuns_45 : decode bb_Rd_readRuns 45 = .ok (.aload_n 1, 1) := by decide +kernel
theorem dd_Rd_readRuns_46 : decode bb_Rd_readRuns 46 = .ok (.iload 5, 2) := by decide +kernel
theorem dd_Rd_readRuns_48 : decode bb_Rd_readRuns 48 = .ok (.invokevirtual 44, 3) := by decide +kernel
theorem dd_Rd_readRuns_51 : decode bb_Rd_readRuns 51 = .ok (.istore 6, 2) := by decide +kernel
theorem dd_Rd_readRuns_53 : decode bb_Rd_readRuns 53 = .ok (.iload 6, 2) := by decide +kernel
theorem dd_Rd_readRuns_55 : decode bb_Rd_readRuns 55 = .ok (.ifCond .eq 13, 3) := by decide +kernel
theorem dd_Rd_readRuns_58 : decode bb_Rd_readRuns 58 = .ok (.aload_n 0, 1) := by decide +kernel
theorem dd_Rd_readRuns_59 : decode bb_Rd_readRuns 59 = .ok (.aload_n 1, 1) := by decide +kernel
theorem dd_Rd_readRuns_60 : decode bb_Rd_readRuns 60 = .ok (.iload 9, 2) := by decide +kernel
theorem dd_Rd_readRuns_62 : decode bb_Rd_readRuns 62 = .ok (.invokevirtual 48, 3) := by decide +kernel
theorem dd_Rd_readRuns_65 : decode bb_Rd_readRuns 65 = .ok (.ifCond .ne 5, 3) := by decide +kernel
theorem dd_Rd_readRuns_68 : decode bb_Rd_readRuns 68 = .ok (.iconst 0, 1) := by decide +kernel
theorem dd_Rd_readRuns_69 : decode bb_Rd_readRuns 69 = .ok (.ireturn, 1) := by decide +kernel
theorem dd_Rd_readRuns_70 : decode bb_Rd_readRuns 70 = .ok (.lload 7, 2) := by decide +kernel
theorem dd_Rd_readRuns_72 : decode bb_Rd_readRuns 72 = .ok (.aload_n 0, 1) := by decide +kernel
theorem dd_Rd_readRuns_73 : decode bb_Rd_readRuns 73 = .ok (.getfield 52, 3) := by decide +kernel
theorem dd_Rd_readRuns_76 : decode bb_Rd_readRuns 76 = .ok (.iconst 1, 1) := by decide +kernel
theorem dd_Rd_readRuns_77 : decode bb_Rd_readRuns 77 = .ok (.lushr, 1) := by decide +kernel
theorem dd_Rd_readRuns_78 : decode bb_Rd_readRuns 78 = .ok (.aload_n 0, 1) := by decide +kernel
theorem dd_Rd_readRuns_79 : decode bb_Rd_readRuns 79 = .ok (.getfield 52, 3) := by decide +kernel
theorem dd_Rd_readRuns_82 : decode bb_Rd_readRuns 82 = .ok (.lconst 1, 1) := by decide +kernel
theorem dd_Rd_readRuns_83 : decode bb_Rd_readRuns 83 = .ok (.land, 1) := by decide +kernel
theorem dd_Rd_readRuns_84 : decode bb_Rd_readRuns 84 = .ok (.lneg, 1) := by decide +kernel
theorem dd_Rd_readRuns_85 : decode bb_Rd_readRuns 85 = .ok (.lxor, 1) := by decide +kernel
theorem dd_Rd_readRuns_86 : decode bb_Rd_readRuns 86 = .ok (.ladd, 1) := by decide +kernel
theorem dd_Rd_readRuns_87 : decode bb_Rd_readRuns 87 = .ok (.lstore 7, 2) := by decide +kernel
theorem dd_Rd_readRuns_89 : decode bb_Rd_readRuns 89 = .ok (.iconst 0, 1) := by decide +kernel
theorem dd_Rd_readRuns_90 : decode bb_Rd_readRuns 90 = .ok (.istore 9, 2) := by decide +kernel
theorem dd_Rd_readRuns_92 : decode bb_Rd_readRuns 92 = .ok (.aload 4, 2) := by decide +kernel
theorem dd_Rd_readRuns_94 : decode bb_Rd_readRuns 94 = .ok (.iload 10, 2) := by decide +kernel
theorem dd_Rd_readRuns_96 : decode bb_Rd_readRuns 96 = .ok (.lload 7, 2) := by decide +kernel
theorem dd_Rd_readRuns_98 : decode bb_Rd_readRuns 98 = .ok (.invokevirtual 56, 3) := by decide +kernel
theorem dd_Rd_readRuns_101 : decode bb_Rd_readRuns 101 = .ok (.iinc 5 (-1), 3) := by decide +kernel
theorem dd_Rd_readRuns_104 : decode bb_Rd_readRuns 104 = .ok (.iinc 6 (-1), 3) := by decide +kernel
theorem dd_Rd_readRuns_107 : decode bb_Rd_readRuns 107 = .ok (.iinc 10 1, 3) := by decide +kernel
theorem dd_Rd_readRuns_110 : decode bb_Rd_readRuns 110 = .ok (.goto (-92), 3) := by decide +kernel
theorem dd_Rd_readRuns_113 : decode bb_Rd_readRuns 113 = .ok (.iconst 1, 1) := by decide +kernel
theorem dd_Rd_readRuns_114 : decode bb_Rd_readRuns 114 = .ok (.ireturn, 1) := by decide +kernel
theorem dd_Lo_bitCount_0 : decode bb_Lo_bitCount 0 = .ok (.lload_n 0, 1) := by decide +kernel
theorem dd_Lo_bitCount_1 : decode bb_Lo_bitCount 1 = .ok (.lload_n 0, 1) := by decide +kernel
theorem dd_Lo_bitCount_2 : decode bb_Lo_bitCount 2 = .ok (.iconst 1, 1) := by decide +kernel
theorem dd_Lo_bitCount_3 : decode bb_Lo_bitCount 3 = .ok (.lushr, 1) := by decide +kernel
theorem dd_Lo_bitCount_4 : decode bb_Lo_bitCount 4 = .ok (.ldc2_w 314, 3) := by decide +kernel
theorem dd_Lo_bitCount_7 : decode bb_Lo_bitCount 7 = .ok (.land, 1) := by decide +kernel
theorem dd_Lo_bitCount_8 : decode bb_Lo_bitCount 8 = .ok (.lsub, 1) := by decide +kernel
theorem dd_Lo_bitCount_9 : decode bb_Lo_bitCount 9 = .ok (.lstore_n 0, 1) := by decide +kernel
theorem dd_Lo_bitCount_10 : decode bb_Lo_bitCount 10 = .ok (.lload_n 0, 1) := by decide +kernel
theorem dd_Lo_bitCount_11 : decode bb_Lo_bitCount 11 = .ok (.ldc2_w 316, 3) := by decide +kernel
theorem dd_Lo_bitCount_14 : decode bb_Lo_bitCount 14 = .ok (.land, 1) := by decide +kernel
theorem dd_Lo_bitCount_15 : decode bb_Lo_bitCount 15 = .ok (.lload_n 0, 1) := by decide +kernel
theorem dd_Lo_bitCount_16 : decode bb_Lo_bitCount 16 = .ok (.iconst 2, 1) := by decide +kernel
theorem dd_Lo_bitCount_17 : decode bb_Lo_bitCount 17 = .ok (.lushr, 1) := by decide +kernel
theorem dd_Lo_bitCount_18 : decode bb_Lo_bitCount 18 = .ok (.ldc2_w 316, 3) := by decide +kernel
theorem dd_Lo_bitCount_21 : decode bb_Lo_bitCount 21 = .ok (.land, 1) := by decide +kernel
theorem dd_Lo_bitCount_22 : decode bb_Lo_bitCount 22 = .ok (.ladd, 1) := by decide +kernel
theorem dd_Lo_bitCount_23 : decode bb_Lo_bitCount 23 = .ok (.lstore_n 0, 1) := by decide +kernel
theorem dd_Lo_bitCount_24 : decode bb_Lo_bitCount 24 = .ok (.lload_n 0, 1) := by decide +kernel
theorem dd_Lo_bitCount_25 : decode bb_Lo_bitCount 25 = .ok (.lload_n 0, 1) := by decide +kernel
theorem dd_Lo_bitCount_26 : decode bb_Lo_bitCount 26 = .ok (.iconst 4, 1) := by decide +kernel
theorem dd_Lo_bitCount_27 : decode bb_Lo_bitCount 27 = .ok (.lushr, 1) := by decide +kernel
theorem dd_Lo_bitCount_28 : decode bb_Lo_bitCount 28 = .ok (.ladd, 1) := by decide +kernel
theorem dd_Lo_bitCount_29 : decode bb_Lo_bitCount 29 = .ok (.ldc2_w 318, 3) := by decide +kernel
theorem dd_Lo_bitCount_32 : decode bb_Lo_bitCount 32 = .ok (.land, 1) := by decide +kernel
theorem dd_Lo_bitCount_33 : decode bb_Lo_bitCount 33 = .ok (.lstore_n 0, 1) := by decide +kernel
theorem dd_Lo_bitCount_34 : decode bb_Lo_bitCount 34 = .ok (.lload_n 0, 1) := by decide +kernel
theorem dd_Lo_bitCount_35 : decode bb_Lo_bitCount 35 = .ok (.lload_n 0, 1) := by decide +kernel
theorem dd_Lo_bitCount_36 : decode bb_Lo_bitCount 36 = .ok (.bipush 8, 2) := by decide +kernel
theorem dd_Lo_bitCount_38 : decode bb_Lo_bitCount 38 = .ok (.lushr, 1) := by decide +kernel
theorem dd_Lo_bitCount_39 : decode bb_Lo_bitCount 39 = .ok (.ladd, 1) := by decide +kernel
theorem dd_Lo_bitCount_40 : decode bb_Lo_bitCount 40 = .ok (.lstore_n 0, 1) := by decide +kernel
theorem dd_Lo_bitCount_41 : decode bb_Lo_bitCount 41 = .ok (.lload_n 0, 1) := by decide +kernel
theorem dd_Lo_bitCount_42 : decode bb_Lo_bitCount 42 = .ok (.lload_n 0, 1) := by decide +kernel
theorem dd_Lo_bitCount_43 : decode bb_Lo_bitCount 43 = .ok (.bipush 16, 2) := by decide +kernel
theorem dd_Lo_bitCount_45 : decode bb_Lo_bitCount 45 = .ok (.lushr, 1) := by decide +kernel
theorem dd_Lo_bitCount_46 : decode bb_Lo_bitCount 46 = .ok (.ladd, 1) := by decide +kernel
theorem dd_Lo_bitCount_47 : decode bb_Lo_bitCount 47 = .ok (.lstore_n 0, 1) := by decide +kernel
theorem dd_Lo_bitCount_48 : decode bb_Lo_bitCount 48 = .ok (.lload_n 0, 1) := by decide +kernel
theorem dd_Lo_bitCount_49 : decode bb_Lo_bitCount 49 = .ok (.lload_n 0, 1) := by decide +kernel
theorem dd_Lo_bitCount_50 : decode bb_Lo_bitCount 50 = .ok (.bipush 32, 2) := by decide +kernel
theorem dd_Lo_bitCount_52 : decode bb_Lo_bitCount 52 = .ok (.lushr, 1) := by decide +kernel
theorem dd_Lo_bitCount_53 : decode bb_Lo_bitCount 53 = .ok (.ladd, 1) := by decide +kernel
theorem dd_Lo_bitCount_54 : decode bb_Lo_bitCount 54 = .ok (.lstore_n 0, 1) := by decide +kernel
theorem dd_Lo_bitCount_55 : decode bb_Lo_bitCount 55 = .ok (.lload_n 0, 1) := by decide +kernel
theorem dd_Lo_bitCount_56 : decode bb_Lo_bitCount 56 = .ok (.l2i, 1) := by decide +kernel
theorem dd_Lo_bitCount_57 : decode bb_Lo_bitCount 57 = .ok (.bipush 127, 2) := by decide +kernel
theorem dd_Lo_bitCount_59 : decode bb_Lo_bitCount 59 = .ok (.iand, 1) := by decide +kernel
theorem dd_Lo_bitCount_60 : decode bb_Lo_bitCount 60 = .ok (.ireturn, 1) := by decide +kernel
theorem dd_Rd_readSize_0 : decode bb_Rd_readSize 0 = .ok (.aload_n 1, 1) := by decide +kernel
theorem dd_Rd_readSize_1 : decode bb_Rd_readSize 1 = .ok (.aload_n 0, 1) := by decide +kernel
theorem dd_Rd_readSize_2 : decode bb_Rd_readSize 2 = .ok (.getfield 9, 3) := by decide +kernel
theorem dd_Rd_readSize_5 : decode bb_Rd_readSize 5 = .ok (.invokevirtual 34, 3) := by decide +kernel
theorem dd_Rd_readSize_8 : decode bb_Rd_readSize 8 = .ok (.istore_n 3, 1) := by decide +kernel
theorem dd_Rd_readSize_9 : decode bb_Rd_readSize 9 = .ok (.iload_n 3, 1) := by decide +kernel
theorem dd_Rd_readSize_10 : decode bb_Rd_readSize 10 = .ok (.ifCond .eq 8, 3) := by decide +kernel
theorem dd_Rd_readSize_13 : decode bb_Rd_readSize 13 = .ok (.iload_n 3, 1) := by decide +kernel
theorem dd_Rd_readSize_14 : decode bb_Rd_readSize 14 = .ok (.iload_n 2, 1) := by decide +kernel
theorem dd_Rd_readSize_15 : decode bb_Rd_readSize 15 = .ok (.if_icmp .le 5, 3) := by decide +kernel
theorem dd_Rd_readSize_18 : decode bb_Rd_readSize 18 = .ok (.iconst 0, 1) := by decide +kernel
theorem dd_Rd_readSize_19 : decode bb_Rd_readSize 19 = .ok (.ireturn, 1) := by decide +kernel
theorem dd_Rd_readSize_20 : decode bb_Rd_readSize 20 = .ok (.aload_n 0, 1) := by decide +kernel
theorem dd_Rd_readSize_21 : decode bb_Rd_readSize 21 = .ok (.dup, 1) := by decide +kernel
theorem dd_Rd_readSize_22 : decode bb_Rd_readSize 22 = .ok (.getfield 9, 3) := by decide +kernel
theorem dd_Rd_readSize_25 : decode bb_Rd_readSize 25 = .ok (.iconst 1, 1) := by decide +kernel
theorem dd_Rd_readSize_26 : decode bb_Rd_readSize 26 = .ok (.iadd, 1) := by decide +kernel
theorem dd_Rd_readSize_27 : decode bb_Rd_readSize 27 = .ok (.putfield 9, 3) := by decide +kernel
theorem dd_Rd_readSize_30 : decode bb_Rd_readSize 30 = .ok (.iload_n 3, 1) := by decide +kernel
theorem dd_Rd_readSize_31 : decode bb_Rd_readSize 31 = .ok (.ireturn, 1) := by decide +kernel
theorem dd_Rd_readFolded_0 : decode bb_Rd_readFolded 0 = .ok (.aload_n 0, 1) := by decide +kernel
theorem dd_Rd_readFolded_1 : decode bb_Rd_readFolded 1 = .ok (.lconst 0, 1) := by decide +kernel
theorem dd_Rd_readFolded_2 : decode bb_Rd_readFolded 2 = .ok (.putfield 52, 3) := by decide +kernel
theorem dd_Rd_readFolded_5 : decode bb_Rd_readFolded 5 = .ok (.iconst 0, 1) := by decide +kernel
theorem dd_Rd_readFolded_6 : decode bb_Rd_readFolded 6 = .ok (.istore_n 3, 1) := by decide +kernel
theorem dd_Rd_readFolded_7 : decode bb_Rd_readFolded 7 = .ok (.iload_n 3, 1) := by decide +kernel
theorem dd_Rd_readFolded_8 : decode bb_Rd_readFolded 8 = .ok (.bipush 63, 2) := by decide +kernel
theorem dd_Rd_readFolded_10 : decode bb_Rd_readFolded 10 = .ok (.if_icmp .gt 101, 3) := by decide +kernel
theorem dd_Rd_readFolded_13 : decode bb_Rd_readFolded 13 = .ok (.aload_n 0, 1) := by decide +kernel
theorem dd_Rd_readFolded_14 : decode bb_Rd_readFolded 14 = .ok (.getfield 9, 3) := by decide +kernel
theorem dd_Rd_readFolded_17 : decode bb_Rd_readFolded 17 = .ok (.aload_n 1, 1) := by decide +kernel
theorem dd_Rd_readFolded_18 : decode bb_Rd_readFolded 18 = .ok (.invokevirtual 20, 3) := by decide +kernel
theorem dd_Rd_readFolded_21 : decode bb_Rd_readFolded 21 = .ok (.if_icmp .lt 5, 3) := by decide +kernel
theorem dd_Rd_readFolded_24 : decode bb_Rd_readFolded 24 = .ok (.iconst 0, 1) := by decide +kernel
theorem dd_Rd_readFolded_25 : decode bb_Rd_readFolded 25 = .ok (.ireturn, 1) := by decide +kernel
theorem dd_Rd_readFolded_26 : decode bb_Rd_readFolded 26 = .ok (.aload_n 1, 1) := by decide +kernel
theorem dd_Rd_readFolded_27 : decode bb_Rd_readFolded 27 = .ok (.aload_n 0, 1) := by decide +kernel
theorem dd_Rd_readFolded_28 : decode bb_Rd_readFolded 28 = .ok (.getfield 9, 3) := by decide +kernel
theorem dd_Rd_readFolded_31 : decode bb_Rd_readFolded 31 = .ok (.invokevirtual 34, 3) := by decide +kernel
theorem dd_Rd_readFolded_34 : decode bb_Rd_readFolded 34 = .ok (.istore 4, 2) := by decide +kernel
theorem dd_Rd_readFolded_36 : decode bb_Rd_readFolded 36 = .ok (.iload_n 3, 1) := by decide +kernel
theorem dd_Rd_readFolded_37 : decode bb_Rd_readFolded 37 = .ok (.bipush 63, 2) := by decide +kernel
theorem dd_Rd_readFolded_39 : decode bb_Rd_readFolded 39 = .ok (.if_icmp .ne 11, 3) := by decide +kernel
theorem dd_Rd_readFolded_42 : decode bb_Rd_readFolded 42 = .ok (.iload 4, 2) := by decide +kernel
theorem dd_Rd_readFolded_44 : decode bb_Rd_readFolded 44 = .ok (.iconst 1, 1) := by decide +kernel
theorem dd_Rd_readFolded_45 : decode bb_Rd_readFolded 45 = .ok (.if_icmp .le 5, 3) := by decide +kernel
theorem dd_Rd_readFolded_48 : decode bb_Rd_readFolded 48 = .ok (.iconst 0, 1) := by decide +kernel
theorem dd_Rd_readFolded_49 : decode bb_Rd_readFolded 49 = .ok (.ireturn, 1) := by decide +kernel
theorem dd_Rd_readFolded_50 : decode bb_Rd_readFolded 50 = .ok (.aload_n 0, 1) := by decide +kernel
theorem dd_Rd_readFolded_51 : decode bb_Rd_readFolded 51 = .ok (.dup, 1) := by decide +kernel
theorem dd_Rd_readFolded_52 : decode bb_Rd_readFolded 52 = .ok (.getfield 52, 3) := by decide +kernel
theorem dd_Rd_readFolded_55 : decode bb_Rd_readFolded 55 = .ok (.iload 4, 2) := by decide +kernel
theorem dd_Rd_readFolded_57 : decode bb_Rd_readFolded 57 = .ok (.bipush 127, 2) := by decide +kernel
theorem dd_Rd_readFolded_59 : decode bb_Rd_readFolded 59 = .ok (.iand, 1) := by decide +kernel
theorem dd_Rd_readFolded_60 : decode bb_Rd_readFolded 60 = .ok (.i2l, 1) := by decide +kernel
theorem dd_Rd_readFolded_61 : decode bb_Rd_readFolded 61 = .ok (.iload_n 3, 1) := by decide +kernel
theorem dd_Rd_readFolded_62 : decode bb_Rd_readFolded 62 = .ok (.lshl, 1) := by decide +kernel
theorem dd_Rd_readFolded_63 : decode bb_Rd_readFolded 63 = .ok (.lor, 1) := by decide +kernel
theorem dd_Rd_readFolded_64 : decode bb_Rd_readFolded 64 = .ok (.putfield 52, 3) := by decide +kernel
theorem dd_Rd_readFolded_67 : decode bb_Rd_readFolded 67 = .ok (.iload 4, 2) := by decide +kernel
theorem dd_Rd_readFolded_69 : decode bb_Rd_readFolded 69 = .ok (.sipush 128, 3) := by decide +kernel
theorem dd_Rd_readFolded_72 : decode bb_Rd_readFolded 72 = .ok (.if_icmp .ge 23, 3) := by decide +kernel
theorem dd_Rd_readFolded_75 : decode bb_Rd_readFolded 75 = .ok (.aload_n 0, 1) := by decide +kernel
theorem dd_Rd_readFolded_76 : decode bb_Rd_readFolded 76 = .ok (.iload 4, 2) := by decide +kernel
theorem dd_Rd_readFolded_78 : decode bb_Rd_readFolded 78 = .ok (.ifCond .ne 11, 3) := by decide +kernel
theorem dd_Rd_readFolded_81 : decode bb_Rd_readFolded 81 = .ok (.iload_n 3, 1) := by decide +kernel
theorem dd_Rd_readFolded_82 : decode bb_Rd_readFolded 82 = .ok (.ifCond .le 7, 3) := by decide +kernel
theorem dd_Rd_readFolded_85 : decode bb_Rd_readFolded 85 = .ok (.iconst 1, 1) := by decide +kernel
theorem dd_Rd_readFolded_86 : decode bb_Rd_readFolded 86 = .ok (.goto 4, 3) := by decide +kernel
theorem dd_Rd_readFolded_89 : decode bb_Rd_readFolded 89 = .ok (.iconst 0, 1) := by decide +kernel
theorem dd_Rd_readFolded_90 : decode bb_Rd_readFolded 90 = .ok (.iload_n 2, 1) := by decide +kernel
theorem dd_Rd_readFolded_91 : decode bb_Rd_readFolded 91 = .ok (.invokevirtual 60, 3) := by decide +kernel
theorem dd_Rd_readFolded_94 : decode bb_Rd_readFolded 94 = .ok (.ireturn, 1) := by decide +kernel
theorem dd_Rd_readFolded_95 : decode bb_Rd_readFolded 95 = .ok (.aload_n 0, 1) := by decide +kernel
theorem dd_Rd_readFolded_96 : decode bb_Rd_readFolded 96 = .ok (.dup, 1) := by decide +kernel
theorem dd_Rd_readFolded_97 : decode bb_Rd_readFolded 97 = .ok (.getfield 9, 3) := by decide +kernel
theorem dd_Rd_readFolded_100 : decode bb_Rd_readFolded 100 = .ok (.iconst 1, 1) := by decide +kernel
theorem dd_Rd_readFolded_101 : decode bb_Rd_readFolded 101 = .ok (.iadd, 1) := by decide +kernel
theorem dd_Rd_readFolded_102 : decode bb_Rd_readFolded 102 = .ok (.putfield 9, 3) := by decide +kernel
theorem dd_Rd_readFolded_105 : decode bb_Rd_readFolded 105 = .ok (.iinc 3 7, 3) := by decide +kernel
theorem dd_Rd_readFolded_108 : decode bb_Rd_readFolded 108 = .ok (.goto (-101), 3) := by decide +kernel
theorem dd_Rd_readFolded_111 : decode bb_Rd_readFolded 111 = .ok (.iconst 0, 1) := by decide +kernel
theorem dd_Rd_readFolded_112 : decode bb_Rd_readFolded 112 = .ok (.ireturn, 1) := by decide +kernel
theorem dd_Rd_endFolded_0 : decode bb_Rd_endFolded 0 = .ok (.iload_n 1, 1) := by decide +kernel
theorem dd_Rd_endFolded_1 : decode bb_Rd_endFolded 1 = .ok (.ifCond .ne 16, 3) := by decide +kernel
theorem dd_Rd_endFolded_4 : decode bb_Rd_endFolded 4 = .ok (.aload_n 0, 1) := by decide +kernel
theorem dd_Rd_endFolded_5 : decode bb_Rd_endFolded 5 = .ok (.getfield 52, 3) := by decide +kernel
theorem dd_Rd_endFolded_8 : decode bb_Rd_endFolded 8 = .ok (.lconst 0, 1) := by decide +kernel
theorem dd_Rd_endFolded_9 : decode bb_Rd_endFolded 9 = .ok (.lcmp, 1) := by decide +kernel
theorem dd_Rd_endFolded_10 : decode bb_Rd_endFolded 10 = .ok (.ifCond .ne 9, 3) := by decide +kernel
theorem dd_Rd_endFolded_13 : decode bb_Rd_endFolded 13 = .ok (.iload_n 2, 1) := by decide +kernel
theorem dd_Rd_endFolded_14 : decode bb_Rd_endFolded 14 = .ok (.ifCond .ne 5, 3) := by decide +kernel
theorem dd_Rd_endFolded_17 : decode bb_Rd_endFolded 17 = .ok (.iconst 0, 1) := by decide +kernel
theorem dd_Rd_endFolded_18 : decode bb_Rd_endFolded 18 = .ok (.ireturn, 1) := by decide +kernel
theorem dd_Rd_endFolded_19 : decode bb_Rd_endFolded 19 = .ok (.aload_n 0, 1) := by decide +kernel
theorem dd_Rd_endFolded_20 : decode bb_Rd_endFolded 20 = .ok (.dup, 1) := by decide +kernel
theorem dd_Rd_endFolded_21 : decode bb_Rd_endFolded 21 = .ok (.getfield 9, 3) := by decide +kernel
theorem dd_Rd_endFolded_24 : decode bb_Rd_endFolded 24 = .ok (.iconst 1, 1) := by decide +kernel
theorem dd_Rd_endFolded_25 : decode bb_Rd_endFolded 25 = .ok (.iadd, 1) := by decide +kernel
theorem dd_Rd_endFolded_26 : decode bb_Rd_endFolded 26 = .ok (.putfield 9, 3) := by decide +kernel
theorem dd_Rd_endFolded_29 : decode bb_Rd_endFolded 29 = .ok (.iconst 1, 1) := by decide +kernel
theorem dd_Rd_endFolded_30 : decode bb_Rd_endFolded 30 = .ok (.ireturn, 1) := by decide +kernel
theorem dd_Rd_at_0 : decode bb_Rd_at 0 = .ok (.aload_n 0, 1) := by decide +kernel
theorem dd_Rd_at_1 : decode bb_Rd_at 1 = .ok (.getfield 9, 3) := by decide +kernel
theorem dd_Rd_at_4 : decode bb_Rd_at 4 = .ok (.ireturn, 1) := by decide +kernel
theorem dd_Cl_many_0 : decode bb_Cl_many 0 = .ok (.aload_n 0, 1) := by decide +kernel
theorem dd_Cl_many_1 : decode bb_Cl_many 1 = .ok (.getfield 15, 3) := by decide +kernel
theorem dd_Cl_many_4 : decode bb_Cl_many 4 = .ok (.invokestatic 21, 3) := by decide +kernel
theorem dd_Cl_many_7 : decode bb_Cl_many 7 = .ok (.ireturn, 1) := by decide +kernel
end
section
/-! instructions -/
theorem dd_Ch_init_0 : decode bb_Ch_init 0 = .ok (.aload_n 0, 1) := by decide +kernel
theorem dd_Ch_init_1 : decode bb_Ch_init 1 = .ok (.invokespecial 3, 3) := by decide +kernel
theorem dd_Ch_init_4 : decode bb_Ch_init 4 = .ok (.aload_n 0, 1) := by decide +kernel
theorem dd_Ch_init_5 : decode bb_Ch_init 5 = .ok (.new 9, 3) := by decide +kernel
theorem dd_Ch_init_8 : decode bb_Ch_init 8 = .ok (.dup, 1) := by decide +kernel
theorem dd_Ch_init_9 : decode bb_Ch_init 9 = .ok (.invokespecial 11, 3) := by decide +kernel
theorem dd_Ch_init_12 : decode bb_Ch_init 12 = .ok (.putfield 12, 3) := by decide +kernel
theorem dd_Ch_init_15 : decode bb_Ch_init 15 = .ok (.aload_n 0, 1) := by decide +kernel
theorem dd_Ch_init_16 : decode bb_Ch_init 16 = .ok (.new 9, 3) := by decide +kernel
theorem dd_Ch_init_19 : decode bb_Ch_init 19 = .ok (.dup, 1) := by decide +kernel
theorem dd_Ch_init_20 : decode bb_Ch_init 20 = .ok (.invokespecial 11, 3) := by decide +kernel
theorem dd_Ch_init_23 : decode bb_Ch_init 23 = .ok (.putfield 16, 3) := by decide +kernel
theorem dd_Ch_init_26 : decode bb_Ch_init 26 = .ok (.aload_n 0, 1) := by decide +kernel
theorem dd_Ch_init_27 : decode bb_Ch_init 27 = .ok (.new 19, 3) := by decide +kernel
theorem dd_Ch_init_30 : decode bb_Ch_init 30 = .ok (.dup, 1) := by decide +kernel
theorem dd_Ch_init_31 : decode bb_Ch_init 31 = .ok (.invokespecial 21, 3) := by decide +kernel
theorem dd_Ch_init_34 : decode bb_Ch_init 34 = .ok (.putfield 22, 3) := by decide +kernel
theorem dd_Ch_init_37 : decode bb_Ch_init 37 = .ok (.aload_n 0, 1) := by decide +kernel
theorem dd_Ch_init_38 : decode bb_Ch_init 38 = .ok (.new 26, 3) := by decide +kernel
theorem dd_Ch_init_41 : decode bb_Ch_init 41 = .ok (.dup, 1) := by decide +kernel
theorem dd_Ch_init_42 : decode bb_Ch_init 42 = .ok (.sipush 712, 3) := by decide +kernel
theorem dd_Ch_init_45 : decode bb_Ch_init 45 = .ok (.invokespecial 28, 3) := by decide +kernel
theorem dd_Ch_init_48 : decode bb_Ch_init 48 = .ok (.putfield 31, 3) := by decide +kernel
theorem dd_Ch_init_51 : decode bb_Ch_init 51 = .ok (.aload_n 0, 1) := by decide +kernel
theorem dd_Ch_init_52 : decode bb_Ch_init 52 = .ok (.new 26, 3) := by decide +kernel
theorem dd_Ch_init_55 : decode bb_Ch_init 55 = .ok (.dup, 1) := by decide +kernel
theorem dd_Ch_init_56 : decode bb_Ch_init 56 = .ok (.sipush 1000, 3) := by decide +kernel
theorem dd_Ch_init_59 : decode bb_Ch_init 59 = .ok (.invokespecial 28, 3) := by decide +kernel
theorem dd_Ch_init_62 : decode bb_Ch_init 62 = .ok (.putfield 35, 3) := by decide +kernel
theorem dd_Ch_init_65 : decode bb_Ch_init 65 = .ok (.aload_n 0, 1) := by decide +kernel
theorem dd_Ch_init_66 : decode bb_Ch_init 66 = .ok (.new 38, 3) := by decide +kernel
theorem dd_Ch_init_69 : decode bb_Ch_init 69 = .ok (.dup, 1) := by decide +kernel
theorem dd_Ch_init_70 : decode bb_Ch_init 70 = .ok (.invokespecial 40, 3) := by decide +kernel
theorem dd_Ch_init_73 : decode bb_Ch_init 73 = .ok (.putfield 41, 3) := by decide +kernel
theorem dd_Ch_init_76 : decode bb_Ch_init 76 = .ok (.aload_n 0, 1) := by decide +kernel
theorem dd_Ch_init_77 : decode bb_Ch_init 77 = .ok (.iconst (-1), 1) := by decide +kernel
theorem dd_Ch_init_78 : decode bb_Ch_init 78 = .ok (.putfield 45, 3) := by decide +kernel
theorem dd_Ch_init_81 : decode bb_Ch_init 81 = .ok (.return_, 1) := by decide +kernel
theorem dd_Ch_encode_0 : decode bb_Ch_encode 0 = .ok (.aload_n 0, 1) := by decide +kernel
theorem dd_Ch_encode_1 : decode bb_Ch_encode 1 = .ok (.getfield 22, 3) := by decide +kernel
theorem dd_Ch_encode_4 : decode bb_Ch_encode 4 = .ok (.aload_n 0, 1) := by decide +kernel
theorem dd_Ch_encode_5 : decode bb_Ch_encode 5 = .ok (.getfield 12, 3) := by decide +kernel
theorem dd_Ch_encode_8 : decode bb_Ch_encode 8 = .ok (.invokevirtual 74, 3) := by decide +kernel
theorem dd_Ch_encode_11 : decode bb_Ch_encode 11 = .ok (.aload_n 0, 1) := by decide +kernel
theorem dd_Ch_encode_12 : decode bb_Ch_encode 12 = .ok (.getfield 31, 3) := by decide +kernel
theorem dd_Ch_encode_15 : decode bb_Ch_encode 15 = .ok (.invokevirtual 78, 3) := by decide +kernel
theorem dd_Ch_encode_18 : decode bb_Ch_encode 18 = .ok (.iconst 0, 1) := by decide +kernel
theorem dd_Ch_encode_19 : decode bb_Ch_encode 19 = .ok (.istore_n 1, 1) := by decide +kernel
theorem dd_Ch_encode_20 : decode bb_Ch_encode 20 = .ok (.iload_n 1, 1) := by decide +kernel
theorem dd_Ch_encode_21 : decode bb_Ch_encode 21 = .ok (.bipush 8, 2) := by decide +kernel
theorem dd_Ch_encode_23 : decode bb_Ch_encode 23 = .ok (.if_icmp .ge 29, 3) := by decide +kernel
theorem dd_Ch_encode_26 : decode bb_Ch_encode 26 = .ok (.aload_n 0, 1) := by decide +kernel
theorem dd_Ch_encode_27 : decode bb_Ch_encode 27 = .ok (.getfield 31, 3) := by decide +kernel
theorem dd_Ch_encode_30 : decode bb_Ch_encode 30 = .ok (.aload_n 0, 1) := by decide +kernel
theorem dd_Ch_encode_31 : decode bb_Ch_encode 31 = .ok (.getfield 12, 3) := by decide +kernel
theorem dd_Ch_encode_34 : decode bb_Ch_encode 34 = .ok (.invokevirtual 80, 3) := by decide +kernel
theorem dd_Ch_encode_37 : decode bb_Ch_encode 37 = .ok (.bipush 8, 2) := by decide +kernel
theorem dd_Ch_encode_39 : decode bb_Ch_encode 39 = .ok (.iload_n 1, 1) := by decide +kernel
theorem dd_Ch_encode_40 : decode bb_Ch_encode 40 = .ok (.imul, 1) := by decide +kernel
theorem dd_Ch_encode_41 : decode bb_Ch_encode 41 = .ok (.lushr, 1) := by decide +kernel
theorem dd_Ch_encode_42 : decode bb_Ch_encode 42 = .ok (.l2i, 1) := by decide +kernel
theorem dd_Ch_encode_43 : decode bb_Ch_encode 43 = .ok (.invokevirtual 84, 3) := by decide +kernel
theorem dd_Ch_encode_46 : decode bb_Ch_encode 46 = .ok (.iinc 1 1, 3) := by decide +kernel
theorem dd_Ch_encode_49 : decode bb_Ch_encode 49 = .ok (.goto (-29), 3) := by decide +kernel
theorem dd_Ch_encode_52 : decode bb_Ch_encode 52 = .ok (.iconst 0, 1) := by decide +kernel
theorem dd_Ch_encode_53 : decode bb_Ch_encode 53 = .ok (.istore_n 1, 1) := by decide +kernel
theorem dd_Ch_encode_54 : decode bb_Ch_encode 54 = .ok (.iload_n 1, 1) := by decide +kernel
theorem dd_Ch_encode_55 : decode bb_Ch_encode 55 = .ok (.aload_n 0, 1) := by decide +kernel
theorem dd_Ch_encode_56 : decode bb_Ch_encode 56 = .ok (.getfield 22, 3) := by decide +kernel
theorem dd_Ch_encode_59 : decode bb_Ch_encode 59 = .ok (.invokevirtual 87, 3) := by decide +kernel
theorem dd_Ch_encode_62 : decode bb_Ch_encode 62 = .ok (.if_icmp .ge 39, 3) := by decide +kernel
theorem dd_Ch_encode_65 : decode bb_Ch_encode 65 = .ok (.aload_n 0, 1) := by decide +kernel
theorem dd_Ch_encode_66 : decode bb_Ch_encode 66 = .ok (.getfield 31, 3) := by decide +kernel
theorem dd_Ch_encode_69 : decode bb_Ch_encode 69 = .ok (.aload_n 0, 1) := by decide +kernel
theorem dd_Ch_encode_70 : decode bb_Ch_encode 70 = .ok (.getfield 22, 3) := by decide +kernel
theorem dd_Ch_encode_73 : decode bb_Ch_encode 73 = .ok (.iload_n 1, 1) := by decide +kernel
theorem dd_Ch_encode_74 : decode bb_Ch_encode 74 = .ok (.invokevirtual 91, 3) := by decide +kernel
theorem dd_Ch_encode_77 : decode bb_Ch_encode 77 = .ok (.invokevirtual 84, 3) := by decide +kernel
theorem dd_Ch_encode_80 : decode bb_Ch_encode 80 = .ok (.aload_n 0, 1) := by decide +kernel
theorem dd_Ch_encode_81 : decode bb_Ch_encode 81 = .ok (.getfield 31, 3) := by decide +kernel
theorem dd_Ch_encode_84 : decode bb_Ch_encode 84 = .ok (.aload_n 0, 1) := by decide +kernel
theorem dd_Ch_encode_85 : decode bb_Ch_encode 85 = .ok (.getfield 22, 3) := by decide +kernel
theorem dd_Ch_encode_88 : decode bb_Ch_encode 88 = .ok (.iload_n 1, 1) := by decide +kernel
theorem dd_Ch_encode_89 : decode bb_Ch_encode 89 = .ok (.invokevirtual 95, 3) := by decide +kernel
theorem dd_Ch_encode_92 : decode bb_Ch_encode 92 = .ok (.invokestatic 98, 3) := by decide +kernel
theorem dd_Ch_encode_95 : decode bb_Ch_encode 95 = .ok (.iinc 1 1, 3) := by decide +kernel
theorem dd_Ch_encode_98 : decode bb_Ch_encode 98 = .ok (.goto (-44), 3) := by decide +kernel
theorem dd_Ch_encode_101 : decode bb_Ch_encode 101 = .ok (.aload_n 0, 1) := by decide +kernel
theorem dd_Ch_encode_102 : decode bb_Ch_encode 102 = .ok (.getfield 31, 3) := by decide +kernel
theorem dd_Ch_encode_105 : decode bb_Ch_encode 105 = .ok (.invokevirtual 102, 3) := by decide +kernel
theorem dd_Ch_encode_108 : decode bb_Ch_encode 108 = .ok (.ireturn, 1) := by decide +kernel
theorem dd_Ch_addNumber_0 : decode bb_Ch_addNumber 0 = .ok (.lload_n 1, 1) := by decide +kernel
theorem dd_Ch_addNumber_1 : decode bb_Ch_addNumber 1 = .ok (.invokestatic 137, 3) := by decide +kernel
theorem dd_Ch_addNumber_4 : decode bb_Ch_addNumber 4 = .ok (.iconst 1, 1) := by decide +kernel
theorem dd_Ch_addNumber_5 : decode bb_Ch_addNumber 5 = .ok (.isub, 1) := by decide +kernel
theorem dd_Ch_addNumber_6 : decode bb_Ch_addNumber 6 = .ok (.istore_n 3, 1) := by decide +kernel
theorem dd_Ch_addNumber_7 : decode bb_Ch_addNumber 7 = .ok (.iconst 0, 1) := by decide +kernel
theorem dd_Ch_addNumber_8 : decode bb_Ch_addNumber 8 = .ok (.istore 4, 2) := by decide +kernel
theorem dd_Ch_addNumber_10 : decode bb_Ch_addNumber 10 = .ok (.iload 4, 2) := by decide +kernel
theorem dd_Ch_addNumber_12 : decode bb_Ch_addNumber 12 = .ok (.iload_n 3, 1) := by decide +kernel
theorem dd_Ch_addNumber_13 : decode bb_Ch_addNumber 13 = .ok (.if_icmp .ge 25, 3) := by decide +kernel
theorem dd_Ch_addNumber_16 : decode bb_Ch_addNumber 16 = .ok (.aload_n 0, 1) := by decide +kernel
theorem dd_Ch_addNumber_17 : decode bb_Ch_addNumber 17 = .ok (.lload_n 1, 1) := by decide +kernel
theorem dd_Ch_addNumber_18 : decode bb_Ch_addNumber 18 = .ok (.bipush 7, 2) := by decide +kernel
theorem dd_Ch_addNumber_20 : decode bb_Ch_addNumber 20 = .ok (.iload 4, 2) := by decide +kernel
theorem dd_Ch_addNumber_22 : decode bb_Ch_addNumber 22 = .ok (.imul, 1) := by decide +kernel
theorem dd_Ch_addNumber_23 : decode bb_Ch_addNumber 23 = .ok (.lushr, 1) := by decide +kernel
theorem dd_Ch_addNumber_24 : decode bb_Ch_addNumber 24 = .ok (.l2i, 1) := by decide +kernel
theorem dd_Ch_addNumber_25 : decode bb_Ch_addNumber 25 = .ok (.sipush 128, 3) := by decide +kernel
theorem dd_Ch_addNumber_28 : decode bb_Ch_addNumber 28 = .ok (.ior, 1) := by decide +kernel
theorem dd_Ch_addNumber_29 : decode bb_Ch_addNumber 29 = .ok (.invokevirtual 84, 3) := by decide +kernel
theorem dd_Ch_addNumber_32 : decode bb_Ch_addNumber 32 = .ok (.iinc 4 1, 3) := by decide +kernel
theorem dd_Ch_addNumber_35 : decode bb_Ch_addNumber 35 = .ok (.goto (-25), 3) := by decide +kernel
theorem dd_Ch_addNumber_38 : decode bb_Ch_addNumber 38 = .ok (.aload_n 0, 1) := by decide +kernel
theorem dd_Ch_addNumber_39 : decode bb_Ch_addNumber 39 = .ok (.lload_n 1, 1) := by decide +kernel
theorem dd_Ch_addNumber_40 : decode bb_Ch_addNumber 40 = .ok (.bipush 7, 2) := by decide +kernel
theorem dd_Ch_addNumber_42 : decode bb_Ch_addNumber 42 = .ok (.iload_n 3, 1) := by decide +kernel
theorem dd_Ch_addNumber_43 : decode bb_Ch_addNumber 43 = .ok (.imul, 1) := by decide +kernel
theorem dd_Ch_addNumber_44 : decode bb_Ch_addNumber 44 = .ok (.lushr, 1) := by decide +kernel
theorem dd_Ch_addNumber_45 : decode bb_Ch_addNumber 45 = .ok (.l2i, 1) := by decide +kernel
theorem dd_Ch_addNumber_46 : decode bb_Ch_addNumber 46 = .ok (.invokevirtual 84, 3) := by decide +kernel
theorem dd_Ch_addNumber_49 : decode bb_Ch_addNumber 49 = .ok (.return_, 1) := by decide +kernel
theorem dd_Ch_numberOctets_0 : decode bb_Ch_numberOctets 0 = .ok (.iconst 1, 1) := by decide +kernel
theorem dd_Ch_numberOctets_1 : decode bb_Ch_numberOctets 1 = .ok (.istore_n 2, 1) := by decide +kernel
theorem dd_Ch_numberOctets_2 : decode bb_Ch_numberOctets 2 = .ok (.bipush 7, 2) := by decide +kernel
theorem dd_Ch_numberOctets_4 : decode bb_Ch_numberOctets 4 = .ok (.istore_n 3, 1) := by decide +kernel
theorem dd_Ch_numberOctets_5 : decode bb_Ch_numberOctets 5 = .ok (.iload_n 3, 1) := by decide +kernel
theorem dd_Ch_numberOctets_6 : decode bb_Ch_numberOctets 6 = .ok (.bipush 63, 2) := by decide +kernel
theorem dd_Ch_numberOctets_8 : decode bb_Ch_numberOctets 8 = .ok (.if_icmp .gt 20, 3) := by decide +kernel
theorem dd_Ch_numberOctets_11 : decode bb_Ch_numberOctets 11 = .ok (.lload_n 0, 1) := by decide +kernel
theorem dd_Ch_numberOctets_12 : decode bb_Ch_numberOctets 12 = .ok (.iload_n 3, 1) := by decide +kernel
theorem dd_Ch_numberOctets_13 : decode bb_Ch_numberOctets 13 = .ok (.lushr, 1) := by decide +kernel
theorem dd_Ch_numberOctets_14 : decode bb_Ch_numberOctets 14 = .ok (.lconst 0, 1) := by decide +kernel
theorem dd_Ch_numberOctets_15 : decode bb_Ch_numberOctets 15 = .ok (.lcmp, 1) := by decide +kernel
theorem dd_Ch_numberOctets_16 : decode bb_Ch_numberOctets 16 = .ok (.ifCond .eq 6, 3) := by decide +kernel
theorem dd_Ch_numberOctets_19 : decode bb_Ch_numberOctets 19 = .ok (.iinc 2 1, 3) := by decide +kernel
theorem dd_Ch_numberOctets_22 : decode bb_Ch_numberOctets 22 = .ok (.iinc 3 7, 3) := by decide +kernel
theorem dd_Ch_numberOctets_25 : decode bb_Ch_numberOctets 25 = .ok (.goto (-20), 3) := by decide +kernel
theorem dd_Ch_numberOctets_28 : decode bb_Ch_numberOctets 28 = .ok (.iload_n 2, 1) := by decide +kernel
theorem dd_Ch_numberOctets_29 : decode bb_Ch_numberOctets 29 = .ok (.ireturn, 1) := by decide +kernel
theorem dd_Ch_wrong_0 : decode bb_Ch_wrong 0 = .ok (.aload_n 0, 1) := by decide +kernel
theorem dd_Ch_wrong_1 : decode bb_Ch_wrong 1 = .ok (.getfield 45, 3) := by decide +kernel
theorem dd_Ch_wrong_4 : decode bb_Ch_wrong 4 = .ok (.ireturn, 1) := by decide +kernel
theorem dd_Ch_put_0 : decode bb_Ch_put 0 = .ok (.iload_n 1, 1) := by decide +kernel
theorem dd_Ch_put_1 : decode bb_Ch_put 1 = .ok (.invokestatic 49, 3) := by decide +kernel
theorem dd_Ch_put_4 : decode bb_Ch_put 4 = .ok (.aload_n 0, 1) := by decide +kernel
theorem dd_Ch_put_5 : decode bb_Ch_put 5 = .ok (.getfield 12, 3) := by decide +kernel
theorem dd_Ch_put_8 : decode bb_Ch_put 8 = .ok (.iload_n 1, 1) := by decide +kernel
theorem dd_Ch_put_9 : decode bb_Ch_put 9 = .ok (.lload_n 2, 1) := by decide +kernel
theorem dd_Ch_put_10 : decode bb_Ch_put 10 = .ok (.invokevirtual 52, 3) := by decide +kernel
theorem dd_Ch_put_13 : decode bb_Ch_put 13 = .ok (.return_, 1) := by decide +kernel
theorem dd_Ch_needCell_0 : decode bb_Ch_needCell 0 = .ok (.iload_n 0, 1) := by decide +kernel
theorem dd_Ch_needCell_1 : decode bb_Ch_needCell 1 = .ok (.ifCond .lt 9, 3) := by decide +kernel
theorem dd_Ch_needCell_4 : decode bb_Ch_needCell 4 = .ok (.iload_n 0, 1) := by decide +kernel
theorem dd_Ch_needCell_5 : decode bb_Ch_needCell 5 = .ok (.bipush 64, 2) := by decide +kernel
theorem dd_Ch_needCell_7 : decode bb_Ch_needCell 7 = .ok (.if_icmp .lt 13, 3) := by decide +kernel
theorem dd_Ch_needCell_10 : decode bb_Ch_needCell 10 = .ok (.new 105, 3) := by decide +kernel
theorem dd_Ch_needCell_13 : decode bb_Ch_needCell 13 = .ok (.dup, 1) := by decide +kernel
theorem dd_Ch_needCell_14 : decode bb_Ch_needCell 14 = .ok (.ldc 135, 2) := by decide +kernel
theorem dd_Ch_needCell_16 : decode bb_Ch_needCell 16 = .ok (.invokespecial 109, 3) := by decide +kernel
theorem dd_Ch_needCell_19 : decode bb_Ch_needCell 19 = .ok (.athrow, 1) := by decide +kernel
theorem dd_Ch_needCell_20 : decode bb_Ch_needCell 20 = .ok (.return_, 1) := by decide +kernel
theorem dd_Ch_erase_0 : decode bb_Ch_erase 0 = .ok (.iload_n 1, 1) := by decide +kernel
theorem dd_Ch_erase_1 : decode bb_Ch_erase 1 = .ok (.invokestatic 49, 3) := by decide +kernel
theorem dd_Ch_erase_4 : decode bb_Ch_erase 4 = .ok (.iload_n 2, 1) := by decide +kernel
theorem dd_Ch_erase_5 : decode bb_Ch_erase 5 = .ok (.invokestatic 49, 3) := by decide +kernel
theorem dd_Ch_erase_8 : decode bb_Ch_erase 8 = .ok (.iload_n 1, 1) := by decide +kernel
theorem dd_Ch_erase_9 : decode bb_Ch_erase 9 = .ok (.istore_n 3, 1) := by decide +kernel
theorem dd_Ch_erase_10 : decode bb_Ch_erase 10 = .ok (.iload_n 3, 1) := by decide +kernel
theorem dd_Ch_erase_11 : decode bb_Ch_erase 11 = .ok (.iload_n 2, 1) := by decide +kernel
theorem dd_Ch_erase_12 : decode bb_Ch_erase 12 = .ok (.if_icmp .gt 17, 3) := by decide +kernel
theorem dd_Ch_erase_15 : decode bb_Ch_erase 15 = .ok (.aload_n 0, 1) := by decide +kernel
theorem dd_Ch_erase_16 : decode bb_Ch_erase 16 = .ok (.getfield 12, 3) := by decide +kernel
theorem dd_Ch_erase_19 : decode bb_Ch_erase 19 = .ok (.iload_n 3, 1) := by decide +kernel
theorem dd_Ch_erase_20 : decode bb_Ch_erase 20 = .ok (.invokevirtual 56, 3) := by decide +kernel
theorem dd_Ch_erase_23 : decode bb_Ch_erase 23 = .ok (.iinc 3 1, 3) := by decide +kernel
theorem dd_Ch_erase_26 : decode bb_Ch_erase 26 = .ok (.goto (-16), 3) := by decide +kernel
theorem dd_Ch_erase_29 : decode bb_Ch_erase 29 = .ok (.return_, 1) := by decide +kernel
theorem dd_Ch_get_0 : decode bb_Ch_get 0 = .ok (.iload_n 1, 1) := by decide +kernel
theorem dd_Ch_get_1 : decode bb_Ch_get 1 = .ok (.invokestatic 49, 3) := by decide +kernel
theorem dd_Ch_get_4 : decode bb_Ch_get 4 = .ok (.aload_n 0, 1) := by decide +kernel
theorem dd_Ch_get_5 : decode bb_Ch_get 5 = .ok (.getfield 12, 3) := by decide +kernel
theorem dd_Ch_get_8 : decode bb_Ch_get 8 = .ok (.iload_n 1, 1) := by decide +kernel
theorem dd_Ch_get_9 : decode bb_Ch_get 9 = .ok (.invokevirtual 59, 3) := by decide +kernel
theorem dd_Ch_get_12 : decode bb_Ch_get 12 = .ok (.ifCond .ne 13, 3) := by decide +kernel
theorem dd_Ch_get_15 : decode bb_Ch_get 15 = .ok (.new 63, 3) := by decide +kernel
theorem dd_Ch_get_18 : decode bb_Ch_get 18 = .ok (.dup, 1) := by decide +kernel
theorem dd_Ch_get_19 : decode bb_Ch_get 19 = .ok (.ldc 65, 2) := by decide +kernel
theorem dd_Ch_get_21 : decode bb_Ch_get 21 = .ok (.invokespecial 67, 3) := by decide +kernel
theorem dd_Ch_get_24 : decode bb_Ch_get 24 = .ok (.athrow, 1) := by decide +kernel
theorem dd_Ch_get_25 : decode bb_Ch_get 25 = .ok (.aload_n 0, 1) := by decide +kernel
theorem dd_Ch_get_26 : decode bb_Ch_get 26 = .ok (.getfield 12, 3) := by decide +kernel
theorem dd_Ch_get_29 : decode bb_Ch_get 29 = .ok (.iload_n 1, 1) := by decide +kernel
theorem dd_Ch_get_30 : decode bb_Ch_get 30 = .ok (.invokevirtual 70, 3) := by decide +kernel
theorem dd_Ch_get_33 : decode bb_Ch_get 33 = .ok (.lreturn, 1) := by decide +kernel
theorem dd_Ch_sum_0 : decode bb_Ch_sum 0 = .ok (.iload_n 1, 1) := by decide +kernel
theorem dd_Ch_sum_1 : decode bb_Ch_sum 1 = .ok (.invokestatic 49, 3) := by decide +kernel
theorem dd_Ch_sum_4 : decode bb_Ch_sum 4 = .ok (.iload_n 2, 1) := by decide +kernel
theorem dd_Ch_sum_5 : decode bb_Ch_sum 5 = .ok (.invokestatic 49, 3) := by decide +kernel
theorem dd_Ch_sum_8 : decode bb_Ch_sum 8 = .ok (.lconst 0, 1) := by decide +kernel
theorem dd_Ch_sum_9 : decode bb_Ch_sum 9 = .ok (.lstore_n 3, 1) := by decide +kernel
theorem dd_Ch_sum_10 : decode bb_Ch_sum 10 = .ok (.iload_n 1, 1) := by decide +kernel
theorem dd_Ch_sum_11 : decode bb_Ch_sum 11 = .ok (.istore 5, 2) := by decide +kernel
theorem dd_Ch_sum_13 : decode bb_Ch_sum 13 = .ok (.iload 5, 2) := by decide +kernel
theorem dd_Ch_sum_15 : decode bb_Ch_sum 15 = .ok (.iload_n 2, 1) := by decide +kernel
theorem dd_Ch_sum_16 : decode bb_Ch_sum 16 = .ok (.if_icmp .gt 33, 3) := by decide +kernel
theorem dd_Ch_sum_19 : decode bb_Ch_sum 19 = .ok (.aload_n 0, 1) := by decide +kernel
theorem dd_Ch_sum_20 : decode bb_Ch_sum 20 = .ok (.getfield 12, 3) := by decide +kernel
theorem dd_Ch_sum_23 : decode bb_Ch_sum 23 = .ok (.iload 5, 2) := by decide +kernel
theorem dd_Ch_sum_25 : decode bb_Ch_sum 25 = .ok (.invokevirtual 59, 3) := by decide +kernel
theorem dd_Ch_sum_28 : decode bb_Ch_sum 28 = .ok (.ifCond .eq 15, 3) := by decide +kernel
theorem dd_Ch_sum_31 : decode bb_Ch_sum 31 = .ok (.lload_n 3, 1) := by decide +kernel
theorem dd_Ch_sum_32 : decode bb_Ch_sum 32 = .ok (.aload_n 0, 1) := by decide +kernel
theorem dd_Ch_sum_33 : decode bb_Ch_sum 33 = .ok (.getfield 12, 3) := by decide +kernel
theorem dd_Ch_sum_36 : decode bb_Ch_sum 36 = .ok (.iload 5, 2) := by decide +kernel
theorem dd_Ch_sum_38 : decode bb_Ch_sum 38 = .ok (.invokevirtual 70, 3) := by decide +kernel
theorem dd_Ch_sum_41 : decode bb_Ch_sum 41 = .ok (.ladd, 1) := by decide +kernel
theorem dd_Ch_sum_42 : decode bb_Ch_sum 42 = .ok (.lstore_n 3, 1) := by decide +kernel
theorem dd_Ch_sum_43 : decode bb_Ch_sum 43 = .ok (.iinc 5 1, 3) := by decide +kernel
theorem dd_Ch_sum_46 : decode bb_Ch_sum 46 = .ok (.goto (-33), 3) := by decide +kernel
theorem dd_Ch_sum_49 : decode bb_Ch_sum 49 = .ok (.lload_n 3, 1) := by decide +kernel
theorem dd_Ch_sum_50 : decode bb_Ch_sum 50 = .ok (.lreturn, 1) := by decide +kernel
theorem dd_Ch_code_0 : decode bb_Ch_code 0 = .ok (.aload_n 0, 1) := by decide +kernel
theorem dd_Ch_code_1 : decode bb_Ch_code 1 = .ok (.getfield 31, 3) := by decide +kernel
theorem dd_Ch_code_4 : decode bb_Ch_code 4 = .ok (.invokevirtual 102, 3) := by decide +kernel
theorem dd_Ch_code_7 : decode bb_Ch_code 7 = .ok (.bipush 8, 2) := by decide +kernel
theorem dd_Ch_code_9 : decode bb_Ch_code 9 = .ok (.iadd, 1) := by decide +kernel
theorem dd_Ch_code_10 : decode bb_Ch_code 10 = .ok (.iconst 1, 1) := by decide +kernel
theorem dd_Ch_code_11 : decode bb_Ch_code 11 = .ok (.isub, 1) := by decide +kernel
theorem dd_Ch_code_12 : decode bb_Ch_code 12 = .ok (.bipush 8, 2) := by decide +kernel
theorem dd_Ch_code_14 : decode bb_Ch_code 14 = .ok (.idiv, 1) := by decide +kernel
theorem dd_Ch_code_15 : decode bb_Ch_code 15 = .ok (.istore_n 2, 1) := by decide +kernel
theorem dd_Ch_code_16 : decode bb_Ch_code 16 = .ok (.iload_n 1, 1) := by decide +kernel
theorem dd_Ch_code_17 : decode bb_Ch_code 17 = .ok (.ifCond .lt 8, 3) := by decide +kernel
theorem dd_Ch_code_20 : decode bb_Ch_code 20 = .ok (.iload_n 1, 1) := by decide +kernel
theorem dd_Ch_code_21 : decode bb_Ch_code 21 = .ok (.iload_n 2, 1) := by decide +kernel
theorem dd_Ch_code_22 : decode bb_Ch_code 22 = .ok (.if_icmp .lt 13, 3) := by decide +kernel
theorem dd_Ch_code_25 : decode bb_Ch_code 25 = .ok (.new 105, 3) := by decide +kernel
theorem dd_Ch_code_28 : decode bb_Ch_code 28 = .ok (.dup, 1) := by decide +kernel
theorem dd_Ch_code_29 : decode bb_Ch_code 29 = .ok (.ldc 107, 2) := by decide +kernel
theorem dd_Ch_code_31 : decode bb_Ch_code 31 = .ok (.invokespecial 109, 3) := by decide +kernel
theorem dd_Ch_code_34 : decode bb_Ch_code 34 = .ok (.athrow, 1) := by decide +kernel
theorem dd_Ch_code_35 : decode bb_Ch_code 35 = .ok (.lconst 0, 1) := by decide +kernel
theorem dd_Ch_code_36 : decode bb_Ch_code 36 = .ok (.lstore_n 3, 1) := by decide +kernel
theorem dd_Ch_code_37 : decode bb_Ch_code 37 = .ok (.iconst 0, 1) := by decide +kernel
theorem dd_Ch_code_38 : decode bb_Ch_code 38 = .ok (.istore 5, 2) := by decide +kernel
theorem dd_Ch_code_40 : decode bb_Ch_code 40 = .ok (.iload 5, 2) := by decide +kernel
theorem dd_Ch_code_42 : decode bb_Ch_code 42 = .ok (.bipush 8, 2) := by decide +kernel
theorem dd_Ch_code_44 : decode bb_Ch_code 44 = .ok (.if_icmp .ge 30, 3) := by decide +kernel
theorem dd_Ch_code_47 : decode bb_Ch_code 47 = .ok (.lload_n 3, 1) := by decide +kernel
theorem dd_Ch_code_48 : decode bb_Ch_code 48 = .ok (.bipush 8, 2) := by decide +kernel
theorem dd_Ch_code_50 : decode bb_Ch_code 50 = .ok (.lshl, 1) := by decide +kernel
theorem dd_Ch_code_51 : decode bb_Ch_code 51 = .ok (.aload_n 0, 1) := by decide +kernel
theorem dd_Ch_code_52 : decode bb_Ch_code 52 = .ok (.getfield 31, 3) := by decide +kernel
theorem dd_Ch_code_55 : decode bb_Ch_code 55 = .ok (.bipush 8, 2) := by decide +kernel
theorem dd_Ch_code_57 : decode bb_Ch_code 57 = .ok (.iload_n 1, 1) := by decide +kernel
theorem dd_Ch_code_58 : decode bb_Ch_code 58 = .ok (.imul, 1) := by decide +kernel
theorem dd_Ch_code_59 : decode bb_Ch_code 59 = .ok (.iload 5, 2) := by decide +kernel
theorem dd_Ch_code_61 : decode bb_Ch_code 61 = .ok (.iadd, 1) := by decide +kernel
theorem dd_Ch_code_62 : decode bb_Ch_code 62 = .ok (.invokevirtual 110, 3) := by decide +kernel
theorem dd_Ch_code_65 : decode bb_Ch_code 65 = .ok (.i2l, 1) := by decide +kernel
theorem dd_Ch_code_66 : decode bb_Ch_code 66 = .ok (.lor, 1) := by decide +kernel
theorem dd_Ch_code_67 : decode bb_Ch_code 67 = .ok (.lstore_n 3, 1) := by decide +kernel
theorem dd_Ch_code_68 : decode bb_Ch_code 68 = .ok (.iinc 5 1, 3) := by decide +kernel
theorem dd_Ch_code_71 : decode bb_Ch_code 71 = .ok (.goto (-31), 3) := by decide +kernel
theorem dd_Ch_code_74 : decode bb_Ch_code 74 = .ok (.lload_n 3, 1) := by decide +kernel
theorem dd_Ch_code_75 : decode bb_Ch_code 75 = .ok (.lreturn, 1) := by decide +kernel
theorem dd_Ch_feed_0 : decode bb_Ch_feed 0 = .ok (.iload_n 3, 1) := by decide +kernel
theorem dd_Ch_feed_1 : decode bb_Ch_feed 1 = .ok (.iconst 1, 1) := by decide +kernel
theorem dd_Ch_feed_2 : decode bb_Ch_feed 2 = .ok (.if_icmp .lt 9, 3) := by decide +kernel
theorem dd_Ch_feed_5 : decode bb_Ch_feed 5 = .ok (.iload_n 3, 1) := by decide +kernel
theorem dd_Ch_feed_6 : decode bb_Ch_feed 6 = .ok (.bipush 8, 2) := by decide +kernel
theorem dd_Ch_feed_8 : decode bb_Ch_feed 8 = .ok (.if_icmp .le 13, 3) := by decide +kernel
theorem dd_Ch_feed_11 : decode bb_Ch_feed 11 = .ok (.new 113, 3) := by decide +kernel
theorem dd_Ch_feed_14 : decode bb_Ch_feed 14 = .ok (.dup, 1) := by decide +kernel
theorem dd_Ch_feed_15 : decode bb_Ch_feed 15 = .ok (.ldc 115, 2) := by decide +kernel
theorem dd_Ch_feed_17 : decode bb_Ch_feed 17 = .ok (.invokespecial 117, 3) := by decide +kernel
theorem dd_Ch_feed_20 : decode bb_Ch_feed 20 = .ok (.athrow, 1) := by decide +kernel
theorem dd_Ch_feed_21 : decode bb_Ch_feed 21 = .ok (.aload_n 0, 1) := by decide +kernel
theorem dd_Ch_feed_22 : decode bb_Ch_feed 22 = .ok (.getfield 35, 3) := by decide +kernel
theorem dd_Ch_feed_25 : decode bb_Ch_feed 25 = .ok (.invokevirtual 102, 3) := by decide +kernel
theorem dd_Ch_feed_28 : decode bb_Ch_feed 28 = .ok (.iload_n 3, 1) := by decide +kernel
theorem dd_Ch_feed_29 : decode bb_Ch_feed 29 = .ok (.iadd, 1) := by decide +kernel
theorem dd_Ch_feed_30 : decode bb_Ch_feed 30 = .ok (.sipush 1000, 3) := by decide +kernel
theorem dd_Ch_feed_33 : decode bb_Ch_feed 33 = .ok (.if_icmp .le 13, 3) := by decide +kernel
theorem dd_Ch_feed_36 : decode bb_Ch_feed 36 = .ok (.new 105, 3) := by decide +kernel
theorem dd_Ch_feed_39 : decode bb_Ch_feed 39 = .ok (.dup, 1) := by decide +kernel
theorem dd_Ch_feed_40 : decode bb_Ch_feed 40 = .ok (.ldc 118, 2) := by decide +kernel
theorem dd_Ch_feed_42 : decode bb_Ch_feed 42 = .ok (.invokespecial 109, 3) := by decide +kernel
theorem dd_Ch_feed_45 : decode bb_Ch_feed 45 = .ok (.athrow, 1) := by decide +kernel
theorem dd_Ch_feed_46 : decode bb_Ch_feed 46 = .ok (.iconst 0, 1) := by decide +kernel
theorem dd_Ch_feed_47 : decode bb_Ch_feed 47 = .ok (.istore 4, 2) := by decide +kernel
theorem dd_Ch_feed_49 : decode bb_Ch_feed 49 = .ok (.iload 4, 2) := by decide +kernel
theorem dd_Ch_feed_51 : decode bb_Ch_feed 51 = .ok (.iload_n 3, 1) := by decide +kernel
theorem dd_Ch_feed_52 : decode bb_Ch_feed 52 = .ok (.if_icmp .ge 27, 3) := by decide +kernel
theorem dd_Ch_feed_55 : decode bb_Ch_feed 55 = .ok (.aload_n 0, 1) := by decide +kernel
theorem dd_Ch_feed_56 : decode bb_Ch_feed 56 = .ok (.getfield 35, 3) := by decide +kernel
theorem dd_Ch_feed_59 : decode bb_Ch_feed 59 = .ok (.lload_n 1, 1) := by decide +kernel
theorem dd_Ch_feed_60 : decode bb_Ch_feed 60 = .ok (.bipush 56, 2) := by decide +kernel
theorem dd_Ch_feed_62 : decode bb_Ch_feed 62 = .ok (.bipush 8, 2) := by decide +kernel
theorem dd_Ch_feed_64 : decode bb_Ch_feed 64 = .ok (.iload 4, 2) := by decide +kernel
theorem dd_Ch_feed_66 : decode bb_Ch_feed 66 = .ok (.imul, 1) := by decide +kernel
theorem dd_Ch_feed_67 : decode bb_Ch_feed 67 = .ok (.isub, 1) := by decide +kernel
theorem dd_Ch_feed_68 : decode bb_Ch_feed 68 = .ok (.lushr, 1) := by decide +kernel
theorem dd_Ch_feed_69 : decode bb_Ch_feed 69 = .ok (.l2i, 1) := by decide +kernel
theorem dd_Ch_feed_70 : decode bb_Ch_feed 70 = .ok (.invokevirtual 84, 3) := by decide +kernel
theorem dd_Ch_feed_73 : decode bb_Ch_feed 73 = .ok (.iinc 4 1, 3) := by decide +kernel
theorem dd_Ch_feed_76 : decode bb_Ch_feed 76 = .ok (.goto (-27), 3) := by decide +kernel
theorem dd_Ch_feed_79 : decode bb_Ch_feed 79 = .ok (.aload_n 0, 1) := by decide +kernel
theorem dd_Ch_feed_80 : decode bb_Ch_feed 80 = .ok (.getfield 35, 3) := by decide +kernel
theorem dd_Ch_feed_83 : decode bb_Ch_feed 83 = .ok (.invokevirtual 102, 3) := by decide +kernel
theorem dd_Ch_feed_86 : decode bb_Ch_feed 86 = .ok (.ireturn, 1) := by decide +kernel
theorem dd_Ch_decode_0 : decode bb_Ch_decode 0 = .ok (.aload_n 0, 1) := by decide +kernel
theorem dd_Ch_decode_1 : decode bb_Ch_decode 1 = .ok (.getfield 41, 3) := by decide +kernel
theorem dd_Ch_decode_4 : decode bb_Ch_decode 4 = .ok (.aload_n 0, 1) := by decide +kernel
theorem dd_Ch_decode_5 : decode bb_Ch_decode 5 = .ok (.getfield 35, 3) := by decide +kernel
theorem dd_Ch_decode_8 : decode bb_Ch_decode 8 = .ok (.aload_n 0, 1) := by decide +kernel
theorem dd_Ch_decode_9 : decode bb_Ch_decode 9 = .ok (.getfield 16, 3) := by decide +kernel
theorem dd_Ch_decode_12 : decode bb_Ch_decode 12 = .ok (.invokevirtual 120, 3) := by decide +kernel
theorem dd_Ch_decode_15 : decode bb_Ch_decode 15 = .ok (.istore_n 1, 1) := by decide +kernel
theorem dd_Ch_decode_16 : decode bb_Ch_decode 16 = .ok (.aload_n 0, 1) := by decide +kernel
theorem dd_Ch_decode_17 : decode bb_Ch_decode 17 = .ok (.getfield 35, 3) := by decide +kernel
theorem dd_Ch_decode_20 : decode bb_Ch_decode 20 = .ok (.invokevirtual 78, 3) := by decide +kernel
theorem dd_Ch_decode_23 : decode bb_Ch_decode 23 = .ok (.iload_n 1, 1) := by decide +kernel
theorem dd_Ch_decode_24 : decode bb_Ch_decode 24 = .ok (.ifCond .ne 24, 3) := by decide +kernel
theorem dd_Ch_decode_27 : decode bb_Ch_decode 27 = .ok (.aload_n 0, 1) := by decide +kernel
theorem dd_Ch_decode_28 : decode bb_Ch_decode 28 = .ok (.aload_n 0, 1) := by decide +kernel
theorem dd_Ch_decode_29 : decode bb_Ch_decode 29 = .ok (.getfield 41, 3) := by decide +kernel
theorem dd_Ch_decode_32 : decode bb_Ch_decode 32 = .ok (.invokevirtual 124, 3) := by decide +kernel
theorem dd_Ch_decode_35 : decode bb_Ch_decode 35 = .ok (.putfield 45, 3) := by decide +kernel
theorem dd_Ch_decode_38 : decode bb_Ch_decode 38 = .ok (.new 113, 3) := by decide +kernel
theorem dd_Ch_decode_41 : decode bb_Ch_decode 41 = .ok (.dup, 1) := by decide +kernel
theorem dd_Ch_decode_42 : decode bb_Ch_decode 42 = .ok (.ldc 127, 2) := by decide +kernel
theorem dd_Ch_decode_44 : decode bb_Ch_decode 44 = .ok (.invokespecial 117, 3) := by decide +kernel
theorem dd_Ch_decode_47 : decode bb_Ch_decode 47 = .ok (.athrow, 1) := by decide +kernel
theorem dd_Ch_decode_48 : decode bb_Ch_decode 48 = .ok (.aload_n 0, 1) := by decide +kernel
theorem dd_Ch_decode_49 : decode bb_Ch_decode 49 = .ok (.iconst (-1), 1) := by decide +kernel
theorem dd_Ch_decode_50 : decode bb_Ch_decode 50 = .ok (.putfield 45, 3) := by decide +kernel
theorem dd_Ch_decode_53 : decode bb_Ch_decode 53 = .ok (.aload_n 0, 1) := by decide +kernel
theorem dd_Ch_decode_54 : decode bb_Ch_decode 54 = .ok (.getfield 12, 3) := by decide +kernel
theorem dd_Ch_decode_57 : decode bb_Ch_decode 57 = .ok (.astore_n 2, 1) := by decide +kernel
theorem dd_Ch_decode_58 : decode bb_Ch_decode 58 = .ok (.aload_n 0, 1) := by decide +kernel
theorem dd_Ch_decode_59 : decode bb_Ch_decode 59 = .ok (.aload_n 0, 1) := by decide +kernel
theorem dd_Ch_decode_60 : decode bb_Ch_decode 60 = .ok (.getfield 16, 3) := by decide +kernel
theorem dd_Ch_decode_63 : decode bb_Ch_decode 63 = .ok (.putfield 12, 3) := by decide +kernel
theorem dd_Ch_decode_66 : decode bb_Ch_decode 66 = .ok (.aload_n 0, 1) := by decide +kernel
theorem dd_Ch_decode_67 : decode bb_Ch_decode 67 = .ok (.aload_n 2, 1) := by decide +kernel
theorem dd_Ch_decode_68 : decode bb_Ch_decode 68 = .ok (.putfield 16, 3) := by decide +kernel
theorem dd_Ch_decode_71 : decode bb_Ch_decode 71 = .ok (.aload_n 0, 1) := by decide +kernel
theorem dd_Ch_decode_72 : decode bb_Ch_decode 72 = .ok (.getfield 12, 3) := by decide +kernel
theorem dd_Ch_decode_75 : decode bb_Ch_decode 75 = .ok (.invokevirtual 129, 3) := by decide +kernel
theorem dd_Ch_decode_78 : decode bb_Ch_decode 78 = .ok (.ireturn, 1) := by decide +kernel
theorem dd_Ch_count_0 : decode bb_Ch_count 0 = .ok (.iload_n 1, 1) := by decide +kernel
theorem dd_Ch_count_1 : decode bb_Ch_count 1 = .ok (.tableswitch 83 0 4 #[35, 43, 62, 70, 78], 35) := by decide +kernel
theorem dd_Ch_count_36 : decode bb_Ch_count 36 = .ok (.aload_n 0, 1) := by decide +kernel
theorem dd_Ch_count_37 : decode bb_Ch_count 37 = .ok (.getfield 12, 3) := by decide +kernel
theorem dd_Ch_count_40 : decode bb_Ch_count 40 = .ok (.invokevirtual 129, 3) := by decide +kernel
theorem dd_Ch_count_43 : decode bb_Ch_count 43 = .ok (.ireturn, 1) := by decide +kernel
theorem dd_Ch_count_44 : decode bb_Ch_count 44 = .ok (.aload_n 0, 1) := by decide +kernel
theorem dd_Ch_count_45 : decode bb_Ch_count 45 = .ok (.getfield 22, 3) := by decide +kernel
theorem dd_Ch_count_48 : decode bb_Ch_count 48 = .ok (.aload_n 0, 1) := by decide +kernel
theorem dd_Ch_count_49 : decode bb_Ch_count 49 = .ok (.getfield 12, 3) := by decide +kernel
theorem dd_Ch_count_52 : decode bb_Ch_count 52 = .ok (.invokevirtual 74, 3) := by decide +kernel
theorem dd_Ch_count_55 : decode bb_Ch_count 55 = .ok (.aload_n 0, 1) := by decide +kernel
theorem dd_Ch_count_56 : decode bb_Ch_count 56 = .ok (.getfield 22, 3) := by decide +kernel
theorem dd_Ch_count_59 : decode bb_Ch_count 59 = .ok (.invokevirtual 87, 3) := by decide +kernel
theorem dd_Ch_count_62 : decode bb_Ch_count 62 = .ok (.ireturn, 1) := by decide +kernel
theorem dd_Ch_count_63 : decode bb_Ch_count 63 = .ok (.aload_n 0, 1) := by decide +kernel
theorem dd_Ch_count_64 : decode bb_Ch_count 64 = .ok (.getfield 35, 3) := by decide +kernel
theorem dd_Ch_count_67 : decode bb_Ch_count 67 = .ok (.invokevirtual 102, 3) := by decide +kernel
theorem dd_Ch_count_70 : decode bb_Ch_count 70 = .ok (.ireturn, 1) := by decide +kernel
theorem dd_Ch_count_71 : decode bb_Ch_count 71 = .ok (.aload_n 0, 1) := by decide +kernel
theorem dd_Ch_count_72 : decode bb_Ch_count 72 = .ok (.getfield 31, 3) := by decide +kernel
theorem dd_Ch_count_75 : decode bb_Ch_count 75 = .ok (.invokevirtual 102, 3) := by decide +kernel
theorem dd_Ch_count_78 : decode bb_Ch_count 78 = .ok (.ireturn, 1) := by decide +kernel
theorem dd_Ch_count_79 : decode bb_Ch_count 79 = .ok (.aload_n 0, 1) := by decide +kernel
theorem dd_Ch_count_80 : decode bb_Ch_count 80 = .ok (.invokevirtual 130, 3) := by decide +kernel
theorem dd_Ch_count_83 : decode bb_Ch_count 83 = .ok (.ireturn, 1) := by decide +kernel
theorem dd_Ch_count_84 : decode bb_Ch_count 84 = .ok (.new 113, 3) := by decide +kernel
theorem dd_Ch_count_87 : decode bb_Ch_count 87 = .ok (.dup, 1) := by decide +kernel
theorem dd_Ch_count_88 : decode bb_Ch_count 88 = .ok (.ldc 133, 2) := by decide +kernel
theorem dd_Ch_count_90 : decode bb_Ch_count 90 = .ok (.invokespecial 117, 3) := by decide +kernel
theorem dd_Ch_count_93 : decode bb_Ch_count 93 = .ok (.athrow, 1) := by decide +kernel
theorem dd_Ch_octetsNow_0 : decode bb_Ch_octetsNow 0 = .ok (.aload_n 0, 1) := by decide +kernel
theorem dd_Ch_octetsNow_1 : decode bb_Ch_octetsNow 1 = .ok (.getfield 22, 3) := by decide +kernel
theorem dd_Ch_octetsNow_4 : decode bb_Ch_octetsNow 4 = .ok (.aload_n 0, 1) := by decide +kernel
theorem dd_Ch_octetsNow_5 : decode bb_Ch_octetsNow 5 = .ok (.getfield 12, 3) := by decide +kernel
theorem dd_Ch_octetsNow_8 : decode bb_Ch_octetsNow 8 = .ok (.invokevirtual 74, 3) := by decide +kernel
theorem dd_Ch_octetsNow_11 : decode bb_Ch_octetsNow 11 = .ok (.bipush 8, 2) := by decide +kernel
theorem dd_Ch_octetsNow_13 : decode bb_Ch_octetsNow 13 = .ok (.istore_n 1, 1) := by decide +kernel
theorem dd_Ch_octetsNow_14 : decode bb_Ch_octetsNow 14 = .ok (.iconst 0, 1) := by decide +kernel
theorem dd_Ch_octetsNow_15 : decode bb_Ch_octetsNow 15 = .ok (.istore_n 2, 1) := by decide +kernel
theorem dd_Ch_octetsNow_16 : decode bb_Ch_octetsNow 16 = .ok (.iload_n 2, 1) := by decide +kernel
theorem dd_Ch_octetsNow_17 : decode bb_Ch_octetsNow 17 = .ok (.aload_n 0, 1) := by decide +kernel
theorem dd_Ch_octetsNow_18 : decode bb_Ch_octetsNow 18 = .ok (.getfield 22, 3) := by decide +kernel
theorem dd_Ch_octetsNow_21 : decode bb_Ch_octetsNow 21 = .ok (.invokevirtual 87, 3) := by decide +kernel
theorem dd_Ch_octetsNow_24 : decode bb_Ch_octetsNow 24 = .ok (.if_icmp .ge 25, 3) := by decide +kernel
theorem dd_Ch_octetsNow_27 : decode bb_Ch_octetsNow 27 = .ok (.iload_n 1, 1) := by decide +kernel
theorem dd_Ch_octetsNow_28 : decode bb_Ch_octetsNow 28 = .ok (.iconst 1, 1) := by decide +kernel
theorem dd_Ch_octetsNow_29 : decode bb_Ch_octetsNow 29 = .ok (.aload_n 0, 1) := by decide +kernel
theorem dd_Ch_octetsNow_30 : decode bb_Ch_octetsNow 30 = .ok (.getfield 22, 3) := by decide +kernel
theorem dd_Ch_octetsNow_33 : decode bb_Ch_octetsNow 33 = .ok (.iload_n 2, 1) := by decide +kernel
theorem dd_Ch_octetsNow_34 : decode bb_Ch_octetsNow 34 = .ok (.invokevirtual 95, 3) := by decide +kernel
theorem dd_Ch_octetsNow_37 : decode bb_Ch_octetsNow 37 = .ok (.invokestatic 137, 3) := by decide +kernel
theorem dd_Ch_octetsNow_40 : decode bb_Ch_octetsNow 40 = .ok (.iadd, 1) := by decide +kernel
theorem dd_Ch_octetsNow_41 : decode bb_Ch_octetsNow 41 = .ok (.iadd, 1) := by decide +kernel
theorem dd_Ch_octetsNow_42 : decode bb_Ch_octetsNow 42 = .ok (.istore_n 1, 1) := by decide +kernel
theorem dd_Ch_octetsNow_43 : decode bb_Ch_octetsNow 43 = .ok (.iinc 2 1, 3) := by decide +kernel
theorem dd_Ch_octetsNow_46 : decode bb_Ch_octetsNow 46 = .ok (.goto (-30), 3) := by decide +kernel
theorem dd_Ch_octetsNow_49 : decode bb_Ch_octetsNow 49 = .ok (.iload_n 1, 1) := by decide +kernel
theorem dd_Ch_octetsNow_50 : decode bb_Ch_octetsNow 50 = .ok (.ireturn, 1) := by decide +kernel
end
section
/-! instructions -/
theorem dd_Mo_init_0 : decode bb_Mo_init 0 = .ok (.aload_n 0, 1) := by decide +kernel
theorem dd_Mo_init_1 : decode bb_Mo_init 1 = .ok (.invokespecial 1, 3) := by decide +kernel
theorem dd_Mo_init_4 : decode bb_Mo_init 4 = .ok (.aload_n 0, 1) := by decide +kernel
theorem dd_Mo_init_5 : decode bb_Mo_init 5 = .ok (.bipush 64, 2) := by decide +kernel
theorem dd_Mo_init_7 : decode bb_Mo_init 7 = .ok (.newarray .long, 2) := by decide +kernel
theorem dd_Mo_init_9 : decode bb_Mo_init 9 = .ok (.putfield 7, 3) := by decide +kernel
theorem dd_Mo_init_12 : decode bb_Mo_init 12 = .ok (.aload_n 0, 1) := by decide +kernel
theorem dd_Mo_init_13 : decode bb_Mo_init 13 = .ok (.bipush 64, 2) := by decide +kernel
theorem dd_Mo_init_15 : decode bb_Mo_init 15 = .ok (.newarray .long, 2) := by decide +kernel
theorem dd_Mo_init_17 : decode bb_Mo_init 17 = .ok (.putfield 13, 3) := by decide +kernel
theorem dd_Mo_init_20 : decode bb_Mo_init 20 = .ok (.aload_n 0, 1) := by decide +kernel
theorem dd_Mo_init_21 : decode bb_Mo_init 21 = .ok (.bipush 64, 2) := by decide +kernel
theorem dd_Mo_init_23 : decode bb_Mo_init 23 = .ok (.newarray .boolean, 2) := by decide +kernel
theorem dd_Mo_init_25 : decode bb_Mo_init 25 = .ok (.putfield 16, 3) := by decide +kernel
theorem dd_Mo_init_28 : decode bb_Mo_init 28 = .ok (.aload_n 0, 1) := by decide +kernel
theorem dd_Mo_init_29 : decode bb_Mo_init 29 = .ok (.bipush 64, 2) := by decide +kernel
theorem dd_Mo_init_31 : decode bb_Mo_init 31 = .ok (.newarray .boolean, 2) := by decide +kernel
theorem dd_Mo_init_33 : decode bb_Mo_init 33 = .ok (.putfield 20, 3) := by decide +kernel
theorem dd_Mo_init_36 : decode bb_Mo_init 36 = .ok (.aload_n 0, 1) := by decide +kernel
theorem dd_Mo_init_37 : decode bb_Mo_init 37 = .ok (.sipush 720, 3) := by decide +kernel
theorem dd_Mo_init_40 : decode bb_Mo_init 40 = .ok (.newarray .int, 2) := by decide +kernel
theorem dd_Mo_init_42 : decode bb_Mo_init 42 = .ok (.putfield 23, 3) := by decide +kernel
theorem dd_Mo_init_45 : decode bb_Mo_init 45 = .ok (.aload_n 0, 1) := by decide +kernel
theorem dd_Mo_init_46 : decode bb_Mo_init 46 = .ok (.sipush 720, 3) := by decide +kernel
theorem dd_Mo_init_49 : decode bb_Mo_init 49 = .ok (.newarray .int, 2) := by decide +kernel
theorem dd_Mo_init_51 : decode bb_Mo_init 51 = .ok (.putfield 27, 3) := by decide +kernel
theorem dd_Mo_init_54 : decode bb_Mo_init 54 = .ok (.aload_n 0, 1) := by decide +kernel
theorem dd_Mo_init_55 : decode bb_Mo_init 55 = .ok (.sipush 1000, 3) := by decide +kernel
theorem dd_Mo_init_58 : decode bb_Mo_init 58 = .ok (.newarray .int, 2) := by decide +kernel
theorem dd_Mo_init_60 : decode bb_Mo_init 60 = .ok (.putfield 30, 3) := by decide +kernel
theorem dd_Mo_init_63 : decode bb_Mo_init 63 = .ok (.aload_n 0, 1) := by decide +kernel
theorem dd_Mo_init_64 : decode bb_Mo_init 64 = .ok (.iconst (-1), 1) := by decide +kernel
theorem dd_Mo_init_65 : decode bb_Mo_init 65 = .ok (.putfield 33, 3) := by decide +kernel
theorem dd_Mo_init_68 : decode bb_Mo_init 68 = .ok (.return_, 1) := by decide +kernel
theorem dd_Mo_thrown_0 : decode bb_Mo_thrown 0 = .ok (.aload_n 0, 1) := by decide +kernel
theorem dd_Mo_thrown_1 : decode bb_Mo_thrown 1 = .ok (.getfield 37, 3) := by decide +kernel
theorem dd_Mo_thrown_4 : decode bb_Mo_thrown 4 = .ok (.ireturn, 1) := by decide +kernel
theorem dd_Mo_put_0 : decode bb_Mo_put 0 = .ok (.aload_n 0, 1) := by decide +kernel
theorem dd_Mo_put_1 : decode bb_Mo_put 1 = .ok (.iload_n 1, 1) := by decide +kernel
theorem dd_Mo_put_2 : decode bb_Mo_put 2 = .ok (.invokestatic 40, 3) := by decide +kernel
theorem dd_Mo_put_5 : decode bb_Mo_put 5 = .ok (.iconst 1, 1) := by decide +kernel
theorem dd_Mo_put_6 : decode bb_Mo_put 6 = .ok (.invokevirtual 44, 3) := by decide +kernel
theorem dd_Mo_put_9 : decode bb_Mo_put 9 = .ok (.ifCond .eq 4, 3) := by decide +kernel
theorem dd_Mo_put_12 : decode bb_Mo_put 12 = .ok (.return_, 1) := by decide +kernel
theorem dd_Mo_put_13 : decode bb_Mo_put 13 = .ok (.aload_n 0, 1) := by decide +kernel
theorem dd_Mo_put_14 : decode bb_Mo_put 14 = .ok (.getfield 7, 3) := by decide +kernel
theorem dd_Mo_put_17 : decode bb_Mo_put 17 = .ok (.iload_n 1, 1) := by decide +kernel
theorem dd_Mo_put_18 : decode bb_Mo_put 18 = .ok (.lload_n 2, 1) := by decide +kernel
theorem dd_Mo_put_19 : decode bb_Mo_put 19 = .ok (.lastore, 1) := by decide +kernel
theorem dd_Mo_put_20 : decode bb_Mo_put 20 = .ok (.aload_n 0, 1) := by decide +kernel
theorem dd_Mo_put_21 : decode bb_Mo_put 21 = .ok (.getfield 16, 3) := by decide +kernel
theorem dd_Mo_put_24 : decode bb_Mo_put 24 = .ok (.iload_n 1, 1) := by decide +kernel
theorem dd_Mo_put_25 : decode bb_Mo_put 25 = .ok (.iconst 1, 1) := by decide +kernel
theorem dd_Mo_put_26 : decode bb_Mo_put 26 = .ok (.bastore, 1) := by decide +kernel
theorem dd_Mo_put_27 : decode bb_Mo_put 27 = .ok (.return_, 1) := by decide +kernel
theorem dd_Mo_none_0 : decode bb_Mo_none 0 = .ok (.iload_n 0, 1) := by decide +kernel
theorem dd_Mo_none_1 : decode bb_Mo_none 1 = .ok (.ifCond .lt 9, 3) := by decide +kernel
theorem dd_Mo_none_4 : decode bb_Mo_none 4 = .ok (.iload_n 0, 1) := by decide +kernel
theorem dd_Mo_none_5 : decode bb_Mo_none 5 = .ok (.bipush 64, 2) := by decide +kernel
theorem dd_Mo_none_7 : decode bb_Mo_none 7 = .ok (.if_icmp .lt 7, 3) := by decide +kernel
theorem dd_Mo_none_10 : decode bb_Mo_none 10 = .ok (.iconst 1, 1) := by decide +kernel
theorem dd_Mo_none_11 : decode bb_Mo_none 11 = .ok (.goto 4, 3) := by decide +kernel
theorem dd_Mo_none_14 : decode bb_Mo_none 14 = .ok (.iconst 0, 1) := by decide +kernel
theorem dd_Mo_none_15 : decode bb_Mo_none 15 = .ok (.ireturn, 1) := by decide +kernel
theorem dd_Mo_fails_0 : decode bb_Mo_fails 0 = .ok (.aload_n 0, 1) := by decide +kernel
theorem dd_Mo_fails_1 : decode bb_Mo_fails 1 = .ok (.iload_n 1, 1) := by decide +kernel
theorem dd_Mo_fails_2 : decode bb_Mo_fails 2 = .ok (.ifCond .eq 7, 3) := by decide +kernel
theorem dd_Mo_fails_5 : decode bb_Mo_fails 5 = .ok (.iload_n 2, 1) := by decide +kernel
theorem dd_Mo_fails_6 : decode bb_Mo_fails 6 = .ok (.goto 4, 3) := by decide +kernel
theorem dd_Mo_fails_9 : decode bb_Mo_fails 9 = .ok (.iconst 0, 1) := by decide +kernel
theorem dd_Mo_fails_10 : decode bb_Mo_fails 10 = .ok (.putfield 37, 3) := by decide +kernel
theorem dd_Mo_fails_13 : decode bb_Mo_fails 13 = .ok (.iload_n 1, 1) := by decide +kernel
theorem dd_Mo_fails_14 : decode bb_Mo_fails 14 = .ok (.ireturn, 1) := by decide +kernel
theorem dd_Mo_erase_0 : decode bb_Mo_erase 0 = .ok (.aload_n 0, 1) := by decide +kernel
theorem dd_Mo_erase_1 : decode bb_Mo_erase 1 = .ok (.iload_n 1, 1) := by decide +kernel
theorem dd_Mo_erase_2 : decode bb_Mo_erase 2 = .ok (.invokestatic 40, 3) := by decide +kernel
theorem dd_Mo_erase_5 : decode bb_Mo_erase 5 = .ok (.ifCond .ne 10, 3) := by decide +kernel
theorem dd_Mo_erase_8 : decode bb_Mo_erase 8 = .ok (.iload_n 2, 1) := by decide +kernel
theorem dd_Mo_erase_9 : decode bb_Mo_erase 9 = .ok (.invokestatic 40, 3) := by decide +kernel
theorem dd_Mo_erase_12 : decode bb_Mo_erase 12 = .ok (.ifCond .eq 7, 3) := by decide +kernel
theorem dd_Mo_erase_15 : decode bb_Mo_erase 15 = .ok (.iconst 1, 1) := by decide +kernel
theorem dd_Mo_erase_16 : decode bb_Mo_erase 16 = .ok (.goto 4, 3) := by decide +kernel
theorem dd_Mo_erase_19 : decode bb_Mo_erase 19 = .ok (.iconst 0, 1) := by decide +kernel
theorem dd_Mo_erase_20 : decode bb_Mo_erase 20 = .ok (.iconst 1, 1) := by decide +kernel
theorem dd_Mo_erase_21 : decode bb_Mo_erase 21 = .ok (.invokevirtual 44, 3) := by decide +kernel
theorem dd_Mo_erase_24 : decode bb_Mo_erase 24 = .ok (.ifCond .eq 4, 3) := by decide +kernel
theorem dd_Mo_erase_27 : decode bb_Mo_erase 27 = .ok (.return_, 1) := by decide +kernel
theorem dd_Mo_erase_28 : decode bb_Mo_erase 28 = .ok (.iload_n 1, 1) := by decide +kernel
theorem dd_Mo_erase_29 : decode bb_Mo_erase 29 = .ok (.istore_n 3, 1) := by decide +kernel
theorem dd_Mo_erase_30 : decode bb_Mo_erase 30 = .ok (.iload_n 3, 1) := by decide +kernel
theorem dd_Mo_erase_31 : decode bb_Mo_erase 31 = .ok (.iload_n 2, 1) := by decide +kernel
theorem dd_Mo_erase_32 : decode bb_Mo_erase 32 = .ok (.if_icmp .gt 16, 3) := by decide +kernel
theorem dd_Mo_erase_35 : decode bb_Mo_erase 35 = .ok (.aload_n 0, 1) := by decide +kernel
theorem dd_Mo_erase_36 : decode bb_Mo_erase 36 = .ok (.getfield 16, 3) := by decide +kernel
theorem dd_Mo_erase_39 : decode bb_Mo_erase 39 = .ok (.iload_n 3, 1) := by decide +kernel
theorem dd_Mo_erase_40 : decode bb_Mo_erase 40 = .ok (.iconst 0, 1) := by decide +kernel
theorem dd_Mo_erase_41 : decode bb_Mo_erase 41 = .ok (.bastore, 1) := by decide +kernel
theorem dd_Mo_erase_42 : decode bb_Mo_erase 42 = .ok (.iinc 3 1, 3) := by decide +kernel
theorem dd_Mo_erase_45 : decode bb_Mo_erase 45 = .ok (.goto (-15), 3) := by decide +kernel
theorem dd_Mo_erase_48 : decode bb_Mo_erase 48 = .ok (.return_, 1) := by decide +kernel
theorem dd_Mo_get_0 : decode bb_Mo_get 0 = .ok (.aload_n 0, 1) := by decide +kernel
theorem dd_Mo_get_1 : decode bb_Mo_get 1 = .ok (.iload_n 1, 1) := by decide +kernel
theorem dd_Mo_get_2 : decode bb_Mo_get 2 = .ok (.invokestatic 40, 3) := by decide +kernel
theorem dd_Mo_get_5 : decode bb_Mo_get 5 = .ok (.iconst 1, 1) := by decide +kernel
theorem dd_Mo_get_6 : decode bb_Mo_get 6 = .ok (.invokevirtual 44, 3) := by decide +kernel
theorem dd_Mo_get_9 : decode bb_Mo_get 9 = .ok (.ifCond .eq 5, 3) := by decide +kernel
theorem dd_Mo_get_12 : decode bb_Mo_get 12 = .ok (.lconst 0, 1) := by decide +kernel
theorem dd_Mo_get_13 : decode bb_Mo_get 13 = .ok (.lreturn, 1) := by decide +kernel
theorem dd_Mo_get_14 : decode bb_Mo_get 14 = .ok (.aload_n 0, 1) := by decide +kernel
theorem dd_Mo_get_15 : decode bb_Mo_get 15 = .ok (.aload_n 0, 1) := by decide +kernel
theorem dd_Mo_get_16 : decode bb_Mo_get 16 = .ok (.getfield 16, 3) := by decide +kernel
theorem dd_Mo_get_19 : decode bb_Mo_get 19 = .ok (.iload_n 1, 1) := by decide +kernel
theorem dd_Mo_get_20 : decode bb_Mo_get 20 = .ok (.baload, 1) := by decide +kernel
theorem dd_Mo_get_21 : decode bb_Mo_get 21 = .ok (.ifCond .ne 7, 3) := by decide +kernel
theorem dd_Mo_get_24 : decode bb_Mo_get 24 = .ok (.iconst 1, 1) := by decide +kernel
theorem dd_Mo_get_25 : decode bb_Mo_get 25 = .ok (.goto 4, 3) := by decide +kernel
theorem dd_Mo_get_28 : decode bb_Mo_get 28 = .ok (.iconst 0, 1) := by decide +kernel
theorem dd_Mo_get_29 : decode bb_Mo_get 29 = .ok (.iconst 2, 1) := by decide +kernel
theorem dd_Mo_get_30 : decode bb_Mo_get 30 = .ok (.invokevirtual 44, 3) := by decide +kernel
theorem dd_Mo_get_33 : decode bb_Mo_get 33 = .ok (.ifCond .eq 7, 3) := by decide +kernel
theorem dd_Mo_get_36 : decode bb_Mo_get 36 = .ok (.lconst 0, 1) := by decide +kernel
theorem dd_Mo_get_37 : decode bb_Mo_get 37 = .ok (.goto 9, 3) := by decide +kernel
theorem dd_Mo_get_40 : decode bb_Mo_get 40 = .ok (.aload_n 0, 1) := by decide +kernel
theorem dd_Mo_get_41 : decode bb_Mo_get 41 = .ok (.getfield 7, 3) := by decide +kernel
theorem dd_Mo_get_44 : decode bb_Mo_get 44 = .ok (.iload_n 1, 1) := by decide +kernel
theorem dd_Mo_get_45 : decode bb_Mo_get 45 = .ok (.laload, 1) := by decide +kernel
theorem dd_Mo_get_46 : decode bb_Mo_get 46 = .ok (.lreturn, 1) := by decide +kernel
theorem dd_Mo_sum_0 : decode bb_Mo_sum 0 = .ok (.aload_n 0, 1) := by decide +kernel
theorem dd_Mo_sum_1 : decode bb_Mo_sum 1 = .ok (.iload_n 1, 1) := by decide +kernel
theorem dd_Mo_sum_2 : decode bb_Mo_sum 2 = .ok (.invokestatic 40, 3) := by decide +kernel
theorem dd_Mo_sum_5 : decode bb_Mo_sum 5 = .ok (.ifCond .ne 10, 3) := by decide +kernel
theorem dd_Mo_sum_8 : decode bb_Mo_sum 8 = .ok (.iload_n 2, 1) := by decide +kernel
theorem dd_Mo_sum_9 : decode bb_Mo_sum 9 = .ok (.invokestatic 40, 3) := by decide +kernel
theorem dd_Mo_sum_12 : decode bb_Mo_sum 12 = .ok (.ifCond .eq 7, 3) := by decide +kernel
theorem dd_Mo_sum_15 : decode bb_Mo_sum 15 = .ok (.iconst 1, 1) := by decide +kernel
theorem dd_Mo_sum_16 : decode bb_Mo_sum 16 = .ok (.goto 4, 3) := by decide +kernel
theorem dd_Mo_sum_19 : decode bb_Mo_sum 19 = .ok (.iconst 0, 1) := by decide +kernel
theorem dd_Mo_sum_20 : decode bb_Mo_sum 20 = .ok (.iconst 1, 1) := by decide +kernel
theorem dd_Mo_sum_21 : decode bb_Mo_sum 21 = .ok (.invokevirtual 44, 3) := by decide +kernel
theorem dd_Mo_sum_24 : decode bb_Mo_sum 24 = .ok (.ifCond .eq 5, 3) := by decide +kernel
theorem dd_Mo_sum_27 : decode bb_Mo_sum 27 = .ok (.lconst 0, 1) := by decide +kernel
theorem dd_Mo_sum_28 : decode bb_Mo_sum 28 = .ok (.lreturn, 1) := by decide +kernel
theorem dd_Mo_sum_29 : decode bb_Mo_sum 29 = .ok (.lconst 0, 1) := by decide +kernel
theorem dd_Mo_sum_30 : decode bb_Mo_sum 30 = .ok (.lstore_n 3, 1) := by decide +kernel
theorem dd_Mo_sum_31 : decode bb_Mo_sum 31 = .ok (.iload_n 1, 1) := by decide +kernel
theorem dd_Mo_sum_32 : decode bb_Mo_sum 32 = .ok (.istore 5, 2) := by decide +kernel
theorem dd_Mo_sum_34 : decode bb_Mo_sum 34 = .ok (.iload 5, 2) := by decide +kernel
theorem dd_Mo_sum_36 : decode bb_Mo_sum 36 = .ok (.iload_n 2, 1) := by decide +kernel
theorem dd_Mo_sum_37 : decode bb_Mo_sum 37 = .ok (.if_icmp .gt 29, 3) := by decide +kernel
theorem dd_Mo_sum_40 : decode bb_Mo_sum 40 = .ok (.aload_n 0, 1) := by decide +kernel
theorem dd_Mo_sum_41 : decode bb_Mo_sum 41 = .ok (.getfield 16, 3) := by decide +kernel
theorem dd_Mo_sum_44 : decode bb_Mo_sum 44 = .ok (.iload 5, 2) := by decide +kernel
theorem dd_Mo_sum_46 : decode bb_Mo_sum 46 = .ok (.baload, 1) := by decide +kernel
theorem dd_Mo_sum_47 : decode bb_Mo_sum 47 = .ok (.ifCond .eq 13, 3) := by decide +kernel
theorem dd_Mo_sum_50 : decode bb_Mo_sum 50 = .ok (.lload_n 3, 1) := by decide +kernel
theorem dd_Mo_sum_51 : decode bb_Mo_sum 51 = .ok (.aload_n 0, 1) := by decide +kernel
theorem dd_Mo_sum_52 : decode bb_Mo_sum 52 = .ok (.getfield 7, 3) := by decide +kernel
theorem dd_Mo_sum_55 : decode bb_Mo_sum 55 = .ok (.iload 5, 2) := by decide +kernel
theorem dd_Mo_sum_57 : decode bb_Mo_sum 57 = .ok (.laload, 1) := by decide +kernel
theorem dd_Mo_sum_58 : decode bb_Mo_sum 58 = .ok (.ladd, 1) := by decide +kernel
theorem dd_Mo_sum_59 : decode bb_Mo_sum 59 = .ok (.lstore_n 3, 1) := by decide +kernel
theorem dd_Mo_sum_60 : decode bb_Mo_sum 60 = .ok (.iinc 5 1, 3) := by decide +kernel
theorem dd_Mo_sum_63 : decode bb_Mo_sum 63 = .ok (.goto (-29), 3) := by decide +kernel
theorem dd_Mo_sum_66 : decode bb_Mo_sum 66 = .ok (.lload_n 3, 1) := by decide +kernel
theorem dd_Mo_sum_67 : decode bb_Mo_sum 67 = .ok (.lreturn, 1) := by decide +kernel
theorem dd_Mo_encode_0 : decode bb_Mo_encode 0 = .ok (.aload_n 0, 1) := by decide +kernel
theorem dd_Mo_encode_1 : decode bb_Mo_encode 1 = .ok (.iconst 0, 1) := by decide +kernel
theorem dd_Mo_encode_2 : decode bb_Mo_encode 2 = .ok (.putfield 37, 3) := by decide +kernel
theorem dd_Mo_encode_5 : decode bb_Mo_encode 5 = .ok (.aload_n 0, 1) := by decide +kernel
theorem dd_Mo_encode_6 : decode bb_Mo_encode 6 = .ok (.invokevirtual 57, 3) := by decide +kernel
theorem dd_Mo_encode_9 : decode bb_Mo_encode 9 = .ok (.pop, 1) := by decide +kernel
theorem dd_Mo_encode_10 : decode bb_Mo_encode 10 = .ok (.aload_n 0, 1) := by decide +kernel
theorem dd_Mo_encode_11 : decode bb_Mo_encode 11 = .ok (.aload_n 0, 1) := by decide +kernel
theorem dd_Mo_encode_12 : decode bb_Mo_encode 12 = .ok (.getfield 48, 3) := by decide +kernel
theorem dd_Mo_encode_15 : decode bb_Mo_encode 15 = .ok (.putfield 61, 3) := by decide +kernel
theorem dd_Mo_encode_18 : decode bb_Mo_encode 18 = .ok (.iconst 0, 1) := by decide +kernel
theorem dd_Mo_encode_19 : decode bb_Mo_encode 19 = .ok (.istore_n 1, 1) := by decide +kernel
theorem dd_Mo_encode_20 : decode bb_Mo_encode 20 = .ok (.iload_n 1, 1) := by decide +kernel
theorem dd_Mo_encode_21 : decode bb_Mo_encode 21 = .ok (.aload_n 0, 1) := by decide +kernel
theorem dd_Mo_encode_22 : decode bb_Mo_encode 22 = .ok (.getfield 61, 3) := by decide +kernel
theorem dd_Mo_encode_25 : decode bb_Mo_encode 25 = .ok (.if_icmp .ge 21, 3) := by decide +kernel
theorem dd_Mo_encode_28 : decode bb_Mo_encode 28 = .ok (.aload_n 0, 1) := by decide +kernel
theorem dd_Mo_encode_29 : decode bb_Mo_encode 29 = .ok (.getfield 23, 3) := by decide +kernel
theorem dd_Mo_encode_32 : decode bb_Mo_encode 32 = .ok (.iload_n 1, 1) := by decide +kernel
theorem dd_Mo_encode_33 : decode bb_Mo_encode 33 = .ok (.aload_n 0, 1) := by decide +kernel
theorem dd_Mo_encode_34 : decode bb_Mo_encode 34 = .ok (.getfield 27, 3) := by decide +kernel
theorem dd_Mo_encode_37 : decode bb_Mo_encode 37 = .ok (.iload_n 1, 1) := by decide +kernel
theorem dd_Mo_encode_38 : decode bb_Mo_encode 38 = .ok (.iaload, 1) := by decide +kernel
theorem dd_Mo_encode_39 : decode bb_Mo_encode 39 = .ok (.iastore, 1) := by decide +kernel
theorem dd_Mo_encode_40 : decode bb_Mo_encode 40 = .ok (.iinc 1 1, 3) := by decide +kernel
theorem dd_Mo_encode_43 : decode bb_Mo_encode 43 = .ok (.goto (-23), 3) := by decide +kernel
theorem dd_Mo_encode_46 : decode bb_Mo_encode 46 = .ok (.aload_n 0, 1) := by decide +kernel
theorem dd_Mo_encode_47 : decode bb_Mo_encode 47 = .ok (.getfield 61, 3) := by decide +kernel
theorem dd_Mo_encode_50 : decode bb_Mo_encode 50 = .ok (.ireturn, 1) := by decide +kernel
theorem dd_Mo_lay_0 : decode bb_Mo_lay 0 = .ok (.aload_n 0, 1) := by decide +kernel
theorem dd_Mo_lay_1 : decode bb_Mo_lay 1 = .ok (.bipush 8, 2) := by decide +kernel
theorem dd_Mo_lay_3 : decode bb_Mo_lay 3 = .ok (.putfield 48, 3) := by decide +kernel
theorem dd_Mo_lay_6 : decode bb_Mo_lay 6 = .ok (.iconst 0, 1) := by decide +kernel
theorem dd_Mo_lay_7 : decode bb_Mo_lay 7 = .ok (.istore_n 1, 1) := by decide +kernel
theorem dd_Mo_lay_8 : decode bb_Mo_lay 8 = .ok (.iload_n 1, 1) := by decide +kernel
theorem dd_Mo_lay_9 : decode bb_Mo_lay 9 = .ok (.bipush 8, 2) := by decide +kernel
theorem dd_Mo_lay_11 : decode bb_Mo_lay 11 = .ok (.if_icmp .ge 56, 3) := by decide +kernel
theorem dd_Mo_lay_14 : decode bb_Mo_lay 14 = .ok (.aload_n 0, 1) := by decide +kernel
theorem dd_Mo_lay_15 : decode bb_Mo_lay 15 = .ok (.getfield 27, 3) := by decide +kernel
theorem dd_Mo_lay_18 : decode bb_Mo_lay 18 = .ok (.iload_n 1, 1) := by decide +kernel
theorem dd_Mo_lay_19 : decode bb_Mo_lay 19 = .ok (.iconst 0, 1) := by decide +kernel
theorem dd_Mo_lay_20 : decode bb_Mo_lay 20 = .ok (.iastore, 1) := by decide +kernel
theorem dd_Mo_lay_21 : decode bb_Mo_lay 21 = .ok (.iconst 0, 1) := by decide +kernel
theorem dd_Mo_lay_22 : decode bb_Mo_lay 22 = .ok (.istore_n 2, 1) := by decide +kernel
theorem dd_Mo_lay_23 : decode bb_Mo_lay 23 = .ok (.iload_n 2, 1) := by decide +kernel
theorem dd_Mo_lay_24 : decode bb_Mo_lay 24 = .ok (.bipush 8, 2) := by decide +kernel
theorem dd_Mo_lay_26 : decode bb_Mo_lay 26 = .ok (.if_icmp .ge 35, 3) := by decide +kernel
theorem dd_Mo_lay_29 : decode bb_Mo_lay 29 = .ok (.aload_n 0, 1) := by decide +kernel
theorem dd_Mo_lay_30 : decode bb_Mo_lay 30 = .ok (.getfield 16, 3) := by decide +kernel
theorem dd_Mo_lay_33 : decode bb_Mo_lay 33 = .ok (.bipush 8, 2) := by decide +kernel
theorem dd_Mo_lay_35 : decode bb_Mo_lay 35 = .ok (.iload_n 1, 1) := by decide +kernel
theorem dd_Mo_lay_36 : decode bb_Mo_lay 36 = .ok (.imul, 1) := by decide +kernel
theorem dd_Mo_lay_37 : decode bb_Mo_lay 37 = .ok (.iload_n 2, 1) := by decide +kernel
theorem dd_Mo_lay_38 : decode bb_Mo_lay 38 = .ok (.iadd, 1) := by decide +kernel
theorem dd_Mo_lay_39 : decode bb_Mo_lay 39 = .ok (.baload, 1) := by decide +kernel
theorem dd_Mo_lay_40 : decode bb_Mo_lay 40 = .ok (.ifCond .eq 15, 3) := by decide +kernel
theorem dd_Mo_lay_43 : decode bb_Mo_lay 43 = .ok (.aload_n 0, 1) := by decide +kernel
theorem dd_Mo_lay_44 : decode bb_Mo_lay 44 = .ok (.getfield 27, 3) := by decide +kernel
theorem dd_Mo_lay_47 : decode bb_Mo_lay 47 = .ok (.iload_n 1, 1) := by decide +kernel
theorem dd_Mo_lay_48 : decode bb_Mo_lay 48 = .ok (.dup2, 1) := by decide +kernel
theorem dd_Mo_lay_49 : decode bb_Mo_lay 49 = .ok (.iaload, 1) := by decide +kernel
theorem dd_Mo_lay_50 : decode bb_Mo_lay 50 = .ok (.iconst 1, 1) := by decide +kernel
theorem dd_Mo_lay_51 : decode bb_Mo_lay 51 = .ok (.iload_n 2, 1) := by decide +kernel
theorem dd_Mo_lay_52 : decode bb_Mo_lay 52 = .ok (.ishl, 1) := by decide +kernel
theorem dd_Mo_lay_53 : decode bb_Mo_lay 53 = .ok (.ior, 1) := by decide +kernel
theorem dd_Mo_lay_54 : decode bb_Mo_lay 54 = .ok (.iastore, 1) := by decide +kernel
theorem dd_Mo_lay_55 : decode bb_Mo_lay 55 = .ok (.iinc 2 1, 3) := by decide +kernel
theorem dd_Mo_lay_58 : decode bb_Mo_lay 58 = .ok (.goto (-35), 3) := by decide +kernel
theorem dd_Mo_lay_61 : decode bb_Mo_lay 61 = .ok (.iinc 1 1, 3) := by decide +kernel
theorem dd_Mo_lay_64 : decode bb_Mo_lay 64 = .ok (.goto (-56), 3) := by decide +kernel
theorem dd_Mo_lay_67 : decode bb_Mo_lay 67 = .ok (.iconst 0, 1) := by decide +kernel
theorem dd_Mo_lay_68 : decode bb_Mo_lay 68 = .ok (.istore_n 1, 1) := by decide +kernel
theorem dd_Mo_lay_69 : decode bb_Mo_lay 69 = .ok (.aload_n 0, 1) := by decide +kernel
theorem dd_Mo_lay_70 : decode bb_Mo_lay 70 = .ok (.iconst 0, 1) := by decide +kernel
theorem dd_Mo_lay_71 : decode bb_Mo_lay 71 = .ok (.invokevirtual 51, 3) := by decide +kernel
theorem dd_Mo_lay_74 : decode bb_Mo_lay 74 = .ok (.istore_n 2, 1) := by decide +kernel
theorem dd_Mo_lay_75 : decode bb_Mo_lay 75 = .ok (.lconst 0, 1) := by decide +kernel
theorem dd_Mo_lay_76 : decode bb_Mo_lay 76 = .ok (.lstore_n 3, 1) := by decide +kernel
theorem dd_Mo_lay_77 : decode bb_Mo_lay 77 = .ok (.iload_n 2, 1) := by decide +kernel
theorem dd_Mo_lay_78 : decode bb_Mo_lay 78 = .ok (.bipush 64, 2) := by decide +kernel
theorem dd_Mo_lay_80 : decode bb_Mo_lay 80 = .ok (.if_icmp .ge 148, 3) := by decide +kernel
theorem dd_Mo_lay_83 : decode bb_Mo_lay 83 = .ok (.iconst 0, 1) := by decide +kernel
theorem dd_Mo_lay_84 : decode bb_Mo_lay 84 = .ok (.istore 5, 2) := by decide +kernel
theorem dd_Mo_lay_86 : decode bb_Mo_lay 86 = .ok (.aload_n 0, 1) := by decide +kernel
theorem dd_Mo_lay_87 : decode bb_Mo_lay 87 = .ok (.getfield 7, 3) := by decide +kernel
theorem dd_Mo_lay_90 : decode bb_Mo_lay 90 = .ok (.iload_n 2, 1) := by decide +kernel
theorem dd_Mo_lay_91 : decode bb_Mo_lay 91 = .ok (.laload, 1) := by decide +kernel
theorem dd_Mo_lay_92 : decode bb_Mo_lay 92 = .ok (.lstore 6, 2) := by decide +kernel
theorem dd_Mo_lay_94 : decode bb_Mo_lay 94 = .ok (.lload 6, 2) := by decide +kernel
theorem dd_Mo_lay_96 : decode bb_Mo_lay 96 = .ok (.lload_n 3, 1) := by decide +kernel
theorem dd_Mo_lay_97 : decode bb_Mo_lay 97 = .ok (.lsub, 1) := by decide +kernel
theorem dd_Mo_lay_98 : decode bb_Mo_lay 98 = .ok (.lstore 8, 2) := by decide +kernel
theorem dd_Mo_lay_100 : decode bb_Mo_lay 100 = .ok (.iload_n 2, 1) := by decide +kernel
theorem dd_Mo_lay_101 : decode bb_Mo_lay 101 = .ok (.bipush 64, 2) := by decide +kernel
theorem dd_Mo_lay_103 : decode bb_Mo_lay 103 = .ok (.if_icmp .ge 29, 3) := by decide +kernel
theorem dd_Mo_lay_106 : decode bb_Mo_lay 106 = .ok (.aload_n 0, 1) := by decide +kernel
theorem dd_Mo_lay_107 : decode bb_Mo_lay 107 = .ok (.getfield 7, 3) := by decide +kernel
theorem dd_Mo_lay_110 : decode bb_Mo_lay 110 = .ok (.iload_n 2, 1) := by decide +kernel
theorem dd_Mo_lay_111 : decode bb_Mo_lay 111 = .ok (.laload, 1) := by decide +kernel
theorem dd_Mo_lay_112 : decode bb_Mo_lay 112 = .ok (.lload 6, 2) := by decide +kernel
theorem dd_Mo_lay_114 : decode bb_Mo_lay 114 = .ok (.lcmp, 1) := by decide +kernel
theorem dd_Mo_lay_115 : decode bb_Mo_lay 115 = .ok (.ifCond .ne 17, 3) := by decide +kernel
theorem dd_Mo_lay_118 : decode bb_Mo_lay 118 = .ok (.iinc 5 1, 3) := by decide +kernel
theorem dd_Mo_lay_121 : decode bb_Mo_lay 121 = .ok (.aload_n 0, 1) := by decide +kernel
theorem dd_Mo_lay_122 : decode bb_Mo_lay 122 = .ok (.iload_n 2, 1) := by decide +kernel
theorem dd_Mo_lay_123 : decode bb_Mo_lay 123 = .ok (.iconst 1, 1) := by decide +kernel
theorem dd_Mo_lay_124 : decode bb_Mo_lay 124 = .ok (.iadd, 1) := by decide +kernel
theorem dd_Mo_lay_125 : decode bb_Mo_lay 125 = .ok (.invokevirtual 51, 3) := by decide +kernel
theorem dd_Mo_lay_128 : decode bb_Mo_lay 128 = .ok (.istore_n 2, 1) := by decide +kernel
theorem dd_Mo_lay_129 : decode bb_Mo_lay 129 = .ok (.goto (-29), 3) := by decide +kernel
theorem dd_Mo_lay_132 : decode bb_Mo_lay 132 = .ok (.aload_n 0, 1) := by decide +kernel
theorem dd_Mo_lay_133 : decode bb_Mo_lay 133 = .ok (.getfield 27, 3) := by decide +kernel
theorem dd_Mo_lay_136 : decode bb_Mo_lay 136 = .ok (.aload_n 0, 1) := by decide +kernel
theorem dd_Mo_lay_137 : decode bb_Mo_lay 137 = .ok (.dup, 1) := by decide +kernel
theorem dd_Mo_lay_138 : decode bb_Mo_lay 138 = .ok (.getfield 48, 3) := by decide +kernel
theorem dd_Mo_lay_141 : decode bb_Mo_lay 141 = .ok (.dup_x1, 1) := by decide +kernel
theorem dd_Mo_lay_142 : decode bb_Mo_lay 142 = .ok (.iconst 1, 1) := by decide +kernel
theorem dd_Mo_lay_143 : decode bb_Mo_lay 143 = .ok (.iadd, 1) := by decide +kernel
theorem dd_Mo_lay_144 : decode bb_Mo_lay 144 = .ok (.putfield 48, 3) := by decide +kernel
theorem dd_Mo_lay_147 : decode bb_Mo_lay 147 = .ok (.iload 5, 2) := by decide +kernel
theorem dd_Mo_lay_149 : decode bb_Mo_lay 149 = .ok (.iastore, 1) := by decide +kernel
theorem dd_Mo_lay_150 : decode bb_Mo_lay 150 = .ok (.lload 8, 2) := by decide +kernel
theorem dd_Mo_lay_152 : decode bb_Mo_lay 152 = .ok (.iconst 1, 1) := by decide +kernel
theorem dd_Mo_lay_153 : decode bb_Mo_lay 153 = .ok (.lshl, 1) := by decide +kernel
theorem dd_Mo_lay_154 : decode bb_Mo_lay 154 = .ok (.lload 8, 2) := by decide +kernel
theorem dd_Mo_lay_156 : decode bb_Mo_lay 156 = .ok (.bipush 63, 2) := by decide +kernel
theorem dd_Mo_lay_158 : decode bb_Mo_lay 158 = .ok (.lshr, 1) := by decide +kernel
theorem dd_Mo_lay_159 : decode bb_Mo_lay 159 = .ok (.lxor, 1) := by decide +kernel
theorem dd_Mo_lay_160 : decode bb_Mo_lay 160 = .ok (.lstore 10, 2) := by decide +kernel
theorem dd_Mo_lay_162 : decode bb_Mo_lay 162 = .ok (.lload 10, 2) := by decide +kernel
theorem dd_Mo_lay_164 : decode bb_Mo_lay 164 = .ok (.ldc2_w 55, 3) := by decide +kernel
theorem dd_Mo_lay_167 : decode bb_Mo_lay 167 = .ok (.land, 1) := by decide +kernel
theorem dd_Mo_lay_168 : decode bb_Mo_lay 168 = .ok (.l2i, 1) := by decide +kernel
theorem dd_Mo_lay_169 : decode bb_Mo_lay 169 = .ok (.istore 12, 2) := by decide +kernel
theorem dd_Mo_lay_171 : decode bb_Mo_lay 171 = .ok (.lload 10, 2) := by decide +kernel
theorem dd_Mo_lay_173 : decode bb_Mo_lay 173 = .ok (.bipush 7, 2) := by decide +kernel
theorem dd_Mo_lay_175 : decode bb_Mo_lay 175 = .ok (.lushr, 1) := by decide +kernel
theorem dd_Mo_lay_176 : decode bb_Mo_lay 176 = .ok (.lstore 10, 2) := by decide +kernel
theorem dd_Mo_lay_178 : decode bb_Mo_lay 178 = .ok (.aload_n 0, 1) := by decide +kernel
theorem dd_Mo_lay_179 : decode bb_Mo_lay 179 = .ok (.getfield 27, 3) := by decide +kernel
theorem dd_Mo_lay_182 : decode bb_Mo_lay 182 = .ok (.aload_n 0, 1) := by decide +kernel
theorem dd_Mo_lay_183 : decode bb_Mo_lay 183 = .ok (.dup, 1) := by decide +kernel
theorem dd_Mo_lay_184 : decode bb_Mo_lay 184 = .ok (.getfield 48, 3) := by decide +kernel
theorem dd_Mo_lay_187 : decode bb_Mo_lay 187 = .ok (.dup_x1, 1) := by decide +kernel
theorem dd_Mo_lay_188 : decode bb_Mo_lay 188 = .ok (.iconst 1, 1) := by decide +kernel
theorem dd_Mo_lay_189 : decode bb_Mo_lay 189 = .ok (.iadd, 1) := by decide +kernel
theorem dd_Mo_lay_190 : decode bb_Mo_lay 190 = .ok (.putfield 48, 3) := by decide +kernel
theorem dd_Mo_lay_193 : decode bb_Mo_lay 193 = .ok (.lload 10, 2) := by decide +kernel
theorem dd_Mo_lay_195 : decode bb_Mo_lay 195 = .ok (.lconst 0, 1) := by decide +kernel
theorem dd_Mo_lay_196 : decode bb_Mo_lay 196 = .ok (.lcmp, 1) := by decide +kernel
theorem dd_Mo_lay_197 : decode bb_Mo_lay 197 = .ok (.ifCond .ne 8, 3) := by decide +kernel
theorem dd_Mo_lay_200 : decode bb_Mo_lay 200 = .ok (.iload 12, 2) := by decide +kernel
theorem dd_Mo_lay_202 : decode bb_Mo_lay 202 = .ok (.goto 9, 3) := by decide +kernel
theorem dd_Mo_lay_205 : decode bb_Mo_lay 205 = .ok (.iload 12, 2) := by decide +kernel
theorem dd_Mo_lay_207 : decode bb_Mo_lay 207 = .ok (.sipush 128, 3) := by decide +kernel
theorem dd_Mo_lay_210 : decode bb_Mo_lay 210 = .ok (.iadd, 1) := by decide +kernel
theorem dd_Mo_lay_211 : decode bb_Mo_lay 211 = .ok (.iastore, 1) := by decide +kernel
theorem dd_Mo_lay_212 : decode bb_Mo_lay 212 = .ok (.lload 10, 2) := by decide +kernel
theorem dd_Mo_lay_214 : decode bb_Mo_lay 214 = .ok (.lconst 0, 1) := by decide +kernel
theorem dd_Mo_lay_215 : decode bb_Mo_lay 215 = .ok (.lcmp, 1) := by decide +kernel
theorem dd_Mo_lay_216 : decode bb_Mo_lay 216 = .ok (.ifCond .ne (-54), 3) := by decide +kernel
theorem dd_Mo_lay_219 : decode bb_Mo_lay 219 = .ok (.lload 6, 2) := by decide +kernel
theorem dd_Mo_lay_221 : decode bb_Mo_lay 221 = .ok (.lstore_n 3, 1) := by decide +kernel
theorem dd_Mo_lay_222 : decode bb_Mo_lay 222 = .ok (.iinc 1 1, 3) := by decide +kernel
theorem dd_Mo_lay_225 : decode bb_Mo_lay 225 = .ok (.goto (-148), 3) := by decide +kernel
theorem dd_Mo_lay_228 : decode bb_Mo_lay 228 = .ok (.iload_n 1, 1) := by decide +kernel
theorem dd_Mo_lay_229 : decode bb_Mo_lay 229 = .ok (.ireturn, 1) := by decide +kernel
theorem dd_Mo_next_0 : decode bb_Mo_next 0 = .ok (.iload_n 1, 1) := by decide +kernel
theorem dd_Mo_next_1 : decode bb_Mo_next 1 = .ok (.istore_n 2, 1) := by decide +kernel
theorem dd_Mo_next_2 : decode bb_Mo_next 2 = .ok (.iload_n 2, 1) := by decide +kernel
theorem dd_Mo_next_3 : decode bb_Mo_next 3 = .ok (.bipush 64, 2) := by decide +kernel
theorem dd_Mo_next_5 : decode bb_Mo_next 5 = .ok (.if_icmp .ge 18, 3) := by decide +kernel
theorem dd_Mo_next_8 : decode bb_Mo_next 8 = .ok (.aload_n 0, 1) := by decide +kernel
theorem dd_Mo_next_9 : decode bb_Mo_next 9 = .ok (.getfield 16, 3) := by decide +kernel
theorem dd_Mo_next_12 : decode bb_Mo_next 12 = .ok (.iload_n 2, 1) := by decide +kernel
theorem dd_Mo_next_13 : decode bb_Mo_next 13 = .ok (.baload, 1) := by decide +kernel
theorem dd_Mo_next_14 : decode bb_Mo_next 14 = .ok (.ifCond .ne 9, 3) := by decide +kernel
theorem dd_Mo_next_17 : decode bb_Mo_next 17 = .ok (.iinc 2 1, 3) := by decide +kernel
theorem dd_Mo_next_20 : decode bb_Mo_next 20 = .ok (.goto (-18), 3) := by decide +kernel
theorem dd_Mo_next_23 : decode bb_Mo_next 23 = .ok (.iload_n 2, 1) := by decide +kernel
theorem dd_Mo_next_24 : decode bb_Mo_next 24 = .ok (.ireturn, 1) := by decide +kernel
theorem dd_Mo_code_0 : decode bb_Mo_code 0 = .ok (.aload_n 0, 1) := by decide +kernel
theorem dd_Mo_code_1 : decode bb_Mo_code 1 = .ok (.iload_n 1, 1) := by decide +kernel
theorem dd_Mo_code_2 : decode bb_Mo_code 2 = .ok (.ifCond .lt 17, 3) := by decide +kernel
theorem dd_Mo_code_5 : decode bb_Mo_code 5 = .ok (.iload_n 1, 1) := by decide +kernel
theorem dd_Mo_code_6 : decode bb_Mo_code 6 = .ok (.aload_n 0, 1) := by decide +kernel
theorem dd_Mo_code_7 : decode bb_Mo_code 7 = .ok (.getfield 61, 3) := by decide +kernel
theorem dd_Mo_code_10 : decode bb_Mo_code 10 = .ok (.bipush 7, 2) := by decide +kernel
theorem dd_Mo_code_12 : decode bb_Mo_code 12 = .ok (.iadd, 1) := by decide +kernel
theorem dd_Mo_code_13 : decode bb_Mo_code 13 = .ok (.bipush 8, 2) := by decide +kernel
theorem dd_Mo_code_15 : decode bb_Mo_code 15 = .ok (.idiv, 1) := by decide +kernel
theorem dd_Mo_code_16 : decode bb_Mo_code 16 = .ok (.if_icmp .lt 7, 3) := by decide +kernel
theorem dd_Mo_code_19 : decode bb_Mo_code 19 = .ok (.iconst 1, 1) := by decide +kernel
theorem dd_Mo_code_20 : decode bb_Mo_code 20 = .ok (.goto 4, 3) := by decide +kernel
theorem dd_Mo_code_23 : decode bb_Mo_code 23 = .ok (.iconst 0, 1) := by decide +kernel
theorem dd_Mo_code_24 : decode bb_Mo_code 24 = .ok (.iconst 1, 1) := by decide +kernel
theorem dd_Mo_code_25 : decode bb_Mo_code 25 = .ok (.invokevirtual 44, 3) := by decide +kernel
theorem dd_Mo_code_28 : decode bb_Mo_code 28 = .ok (.ifCond .eq 5, 3) := by decide +kernel
theorem dd_Mo_code_31 : decode bb_Mo_code 31 = .ok (.lconst 0, 1) := by decide +kernel
theorem dd_Mo_code_32 : decode bb_Mo_code 32 = .ok (.lreturn, 1) := by decide +kernel
theorem dd_Mo_code_33 : decode bb_Mo_code 33 = .ok (.lconst 0, 1) := by decide +kernel
theorem dd_Mo_code_34 : decode bb_Mo_code 34 = .ok (.lstore_n 2, 1) := by decide +kernel
theorem dd_Mo_code_35 : decode bb_Mo_code 35 = .ok (.bipush 8, 2) := by decide +kernel
theorem dd_Mo_code_37 : decode bb_Mo_code 37 = .ok (.iload_n 1, 1) := by decide +kernel
theorem dd_Mo_code_38 : decode bb_Mo_code 38 = .ok (.imul, 1) := by decide +kernel
theorem dd_Mo_code_39 : decode bb_Mo_code 39 = .ok (.istore 4, 2) := by decide +kernel
theorem dd_Mo_code_41 : decode bb_Mo_code 41 = .ok (.iload 4, 2) := by decide +kernel
theorem dd_Mo_code_43 : decode bb_Mo_code 43 = .ok (.bipush 8, 2) := by decide +kernel
theorem dd_Mo_code_45 : decode bb_Mo_code 45 = .ok (.iload_n 1, 1) := by decide +kernel
theorem dd_Mo_code_46 : decode bb_Mo_code 46 = .ok (.imul, 1) := by decide +kernel
theorem dd_Mo_code_47 : decode bb_Mo_code 47 = .ok (.bipush 8, 2) := by decide +kernel
theorem dd_Mo_code_49 : decode bb_Mo_code 49 = .ok (.iadd, 1) := by decide +kernel
theorem dd_Mo_code_50 : decode bb_Mo_code 50 = .ok (.if_icmp .ge 36, 3) := by decide +kernel
theorem dd_Mo_code_53 : decode bb_Mo_code 53 = .ok (.lload_n 2, 1) := by decide +kernel
theorem dd_Mo_code_54 : decode bb_Mo_code 54 = .ok (.bipush 8, 2) := by decide +kernel
theorem dd_Mo_code_56 : decode bb_Mo_code 56 = .ok (.lshl, 1) := by decide +kernel
theorem dd_Mo_code_57 : decode bb_Mo_code 57 = .ok (.iload 4, 2) := by decide +kernel
theorem dd_Mo_code_59 : decode bb_Mo_code 59 = .ok (.aload_n 0, 1) := by decide +kernel
theorem dd_Mo_code_60 : decode bb_Mo_code 60 = .ok (.getfield 61, 3) := by decide +kernel
theorem dd_Mo_code_63 : decode bb_Mo_code 63 = .ok (.if_icmp .ge 13, 3) := by decide +kernel
theorem dd_Mo_code_66 : decode bb_Mo_code 66 = .ok (.aload_n 0, 1) := by decide +kernel
theorem dd_Mo_code_67 : decode bb_Mo_code 67 = .ok (.getfield 23, 3) := by decide +kernel
theorem dd_Mo_code_70 : decode bb_Mo_code 70 = .ok (.iload 4, 2) := by decide +kernel
theorem dd_Mo_code_72 : decode bb_Mo_code 72 = .ok (.iaload, 1) := by decide +kernel
theorem dd_Mo_code_73 : decode bb_Mo_code 73 = .ok (.goto 4, 3) := by decide +kernel
theorem dd_Mo_code_76 : decode bb_Mo_code 76 = .ok (.iconst 0, 1) := by decide +kernel
theorem dd_Mo_code_77 : decode bb_Mo_code 77 = .ok (.i2l, 1) := by decide +kernel
theorem dd_Mo_code_78 : decode bb_Mo_code 78 = .ok (.lor, 1) := by decide +kernel
theorem dd_Mo_code_79 : decode bb_Mo_code 79 = .ok (.lstore_n 2, 1) := by decide +kernel
theorem dd_Mo_code_80 : decode bb_Mo_code 80 = .ok (.iinc 4 1, 3) := by decide +kernel
theorem dd_Mo_code_83 : decode bb_Mo_code 83 = .ok (.goto (-42), 3) := by decide +kernel
theorem dd_Mo_code_86 : decode bb_Mo_code 86 = .ok (.lload_n 2, 1) := by decide +kernel
theorem dd_Mo_code_87 : decode bb_Mo_code 87 = .ok (.lreturn, 1) := by decide +kernel
theorem dd_Mo_feed_0 : decode bb_Mo_feed 0 = .ok (.aload_n 0, 1) := by decide +kernel
theorem dd_Mo_feed_1 : decode bb_Mo_feed 1 = .ok (.iload_n 3, 1) := by decide +kernel
theorem dd_Mo_feed_2 : decode bb_Mo_feed 2 = .ok (.iconst 1, 1) := by decide +kernel
theorem dd_Mo_feed_3 : decode bb_Mo_feed 3 = .ok (.if_icmp .lt 9, 3) := by decide +kernel
theorem dd_Mo_feed_6 : decode bb_Mo_feed 6 = .ok (.iload_n 3, 1) := by decide +kernel
theorem dd_Mo_feed_7 : decode bb_Mo_feed 7 = .ok (.bipush 8, 2) := by decide +kernel
theorem dd_Mo_feed_9 : decode bb_Mo_feed 9 = .ok (.if_icmp .le 7, 3) := by decide +kernel
theorem dd_Mo_feed_12 : decode bb_Mo_feed 12 = .ok (.iconst 1, 1) := by decide +kernel
theorem dd_Mo_feed_13 : decode bb_Mo_feed 13 = .ok (.goto 4, 3) := by decide +kernel
theorem dd_Mo_feed_16 : decode bb_Mo_feed 16 = .ok (.iconst 0, 1) := by decide +kernel
theorem dd_Mo_feed_17 : decode bb_Mo_feed 17 = .ok (.iconst 1, 1) := by decide +kernel
theorem dd_Mo_feed_18 : decode bb_Mo_feed 18 = .ok (.invokevirtual 44, 3) := by decide +kernel
theorem dd_Mo_feed_21 : decode bb_Mo_feed 21 = .ok (.ifCond .eq 5, 3) := by decide +kernel
theorem dd_Mo_feed_24 : decode bb_Mo_feed 24 = .ok (.iconst 0, 1) := by decide +kernel
theorem dd_Mo_feed_25 : decode bb_Mo_feed 25 = .ok (.ireturn, 1) := by decide +kernel
theorem dd_Mo_feed_26 : decode bb_Mo_feed 26 = .ok (.aload_n 0, 1) := by decide +kernel
theorem dd_Mo_feed_27 : decode bb_Mo_feed 27 = .ok (.aload_n 0, 1) := by decide +kernel
theorem dd_Mo_feed_28 : decode bb_Mo_feed 28 = .ok (.getfield 64, 3) := by decide +kernel
theorem dd_Mo_feed_31 : decode bb_Mo_feed 31 = .ok (.iload_n 3, 1) := by decide +kernel
theorem dd_Mo_feed_32 : decode bb_Mo_feed 32 = .ok (.iadd, 1) := by decide +kernel
theorem dd_Mo_feed_33 : decode bb_Mo_feed 33 = .ok (.sipush 1000, 3) := by decide +kernel
theorem dd_Mo_feed_36 : decode bb_Mo_feed 36 = .ok (.if_icmp .le 7, 3) := by decide +kernel
theorem dd_Mo_feed_39 : decode bb_Mo_feed 39 = .ok (.iconst 1, 1) := by decide +kernel
theorem dd_Mo_feed_40 : decode bb_Mo_feed 40 = .ok (.goto 4, 3) := by decide +kernel
theorem dd_Mo_feed_43 : decode bb_Mo_feed 43 = .ok (.iconst 0, 1) := by decide +kernel
theorem dd_Mo_feed_44 : decode bb_Mo_feed 44 = .ok (.iconst 2, 1) := by decide +kernel
theorem dd_Mo_feed_45 : decode bb_Mo_feed 45 = .ok (.invokevirtual 44, 3) := by decide +kernel
theorem dd_Mo_feed_48 : decode bb_Mo_feed 48 = .ok (.ifCond .eq 5, 3) := by decide +kernel
theorem dd_Mo_feed_51 : decode bb_Mo_feed 51 = .ok (.iconst 0, 1) := by decide +kernel
theorem dd_Mo_feed_52 : decode bb_Mo_feed 52 = .ok (.ireturn, 1) := by decide +kernel
theorem dd_Mo_feed_53 : decode bb_Mo_feed 53 = .ok (.iconst 0, 1) := by decide +kernel
theorem dd_Mo_feed_54 : decode bb_Mo_feed 54 = .ok (.istore 4, 2) := by decide +kernel
theorem dd_Mo_feed_56 : decode bb_Mo_feed 56 = .ok (.iload 4, 2) := by decide +kernel
theorem dd_Mo_feed_58 : decode bb_Mo_feed 58 = .ok (.iload_n 3, 1) := by decide +kernel
theorem dd_Mo_feed_59 : decode bb_Mo_feed 59 = .ok (.if_icmp .ge 40, 3) := by decide +kernel
theorem dd_Mo_feed_62 : decode bb_Mo_feed 62 = .ok (.aload_n 0, 1) := by decide +kernel
theorem dd_Mo_feed_63 : decode bb_Mo_feed 63 = .ok (.getfield 30, 3) := by decide +kernel
theorem dd_Mo_feed_66 : decode bb_Mo_feed 66 = .ok (.aload_n 0, 1) := by decide +kernel
theorem dd_Mo_feed_67 : decode bb_Mo_feed 67 = .ok (.dup, 1) := by decide +kernel
theorem dd_Mo_feed_68 : decode bb_Mo_feed 68 = .ok (.getfield 64, 3) := by decide +kernel
theorem dd_Mo_feed_71 : decode bb_Mo_feed 71 = .ok (.dup_x1, 1) := by decide +kernel
theorem dd_Mo_feed_72 : decode bb_Mo_feed 72 = .ok (.iconst 1, 1) := by decide +kernel
theorem dd_Mo_feed_73 : decode bb_Mo_feed 73 = .ok (.iadd, 1) := by decide +kernel
theorem dd_Mo_feed_74 : decode bb_Mo_feed 74 = .ok (.putfield 64, 3) := by decide +kernel
theorem dd_Mo_feed_77 : decode bb_Mo_feed 77 = .ok (.lload_n 1, 1) := by decide +kernel
theorem dd_Mo_feed_78 : decode bb_Mo_feed 78 = .ok (.bipush 56, 2) := by decide +kernel
theorem dd_Mo_feed_80 : decode bb_Mo_feed 80 = .ok (.bipush 8, 2) := by decide +kernel
theorem dd_Mo_feed_82 : decode bb_Mo_feed 82 = .ok (.iload 4, 2) := by decide +kernel
theorem dd_Mo_feed_84 : decode bb_Mo_feed 84 = .ok (.imul, 1) := by decide +kernel
theorem dd_Mo_feed_85 : decode bb_Mo_feed 85 = .ok (.isub, 1) := by decide +kernel
theorem dd_Mo_feed_86 : decode bb_Mo_feed 86 = .ok (.lushr, 1) := by decide +kernel
theorem dd_Mo_feed_87 : decode bb_Mo_feed 87 = .ok (.l2i, 1) := by decide +kernel
theorem dd_Mo_feed_88 : decode bb_Mo_feed 88 = .ok (.sipush 255, 3) := by decide +kernel
theorem dd_Mo_feed_91 : decode bb_Mo_feed 91 = .ok (.iand, 1) := by decide +kernel
theorem dd_Mo_feed_92 : decode bb_Mo_feed 92 = .ok (.iastore, 1) := by decide +kernel
theorem dd_Mo_feed_93 : decode bb_Mo_feed 93 = .ok (.iinc 4 1, 3) := by decide +kernel
theorem dd_Mo_feed_96 : decode bb_Mo_feed 96 = .ok (.goto (-40), 3) := by decide +kernel
theorem dd_Mo_feed_99 : decode bb_Mo_feed 99 = .ok (.aload_n 0, 1) := by decide +kernel
theorem dd_Mo_feed_100 : decode bb_Mo_feed 100 = .ok (.getfield 64, 3) := by decide +kernel
theorem dd_Mo_feed_103 : decode bb_Mo_feed 103 = .ok (.ireturn, 1) := by decide +kernel
theorem dd_Mo_decode_0 : decode bb_Mo_decode 0 = .ok (.aload_n 0, 1) := by decide +kernel
theorem dd_Mo_decode_1 : decode bb_Mo_decode 1 = .ok (.aload_n 0, 1) := by decide +kernel
theorem dd_Mo_decode_2 : decode bb_Mo_decode 2 = .ok (.invokevirtual 67, 3) := by decide +kernel
theorem dd_Mo_decode_5 : decode bb_Mo_decode 5 = .ok (.putfield 33, 3) := by decide +kernel
theorem dd_Mo_decode_8 : decode bb_Mo_decode 8 = .ok (.aload_n 0, 1) := by decide +kernel
theorem dd_Mo_decode_9 : decode bb_Mo_decode 9 = .ok (.iconst 0, 1) := by decide +kernel
theorem dd_Mo_decode_10 : decode bb_Mo_decode 10 = .ok (.putfield 64, 3) := by decide +kernel
theorem dd_Mo_decode_13 : decode bb_Mo_decode 13 = .ok (.aload_n 0, 1) := by decide +kernel
theorem dd_Mo_decode_14 : decode bb_Mo_decode 14 = .ok (.aload_n 0, 1) := by decide +kernel
theorem dd_Mo_decode_15 : decode bb_Mo_decode 15 = .ok (.getfield 33, 3) := by decide +kernel
theorem dd_Mo_decode_18 : decode bb_Mo_decode 18 = .ok (.ifCond .lt 7, 3) := by decide +kernel
theorem dd_Mo_decode_21 : decode bb_Mo_decode 21 = .ok (.iconst 1, 1) := by decide +kernel
theorem dd_Mo_decode_22 : decode bb_Mo_decode 22 = .ok (.goto 4, 3) := by decide +kernel
theorem dd_Mo_decode_25 : decode bb_Mo_decode 25 = .ok (.iconst 0, 1) := by decide +kernel
theorem dd_Mo_decode_26 : decode bb_Mo_decode 26 = .ok (.iconst 1, 1) := by decide +kernel
theorem dd_Mo_decode_27 : decode bb_Mo_decode 27 = .ok (.invokevirtual 44, 3) := by decide +kernel
theorem dd_Mo_decode_30 : decode bb_Mo_decode 30 = .ok (.ifCond .eq 5, 3) := by decide +kernel
theorem dd_Mo_decode_33 : decode bb_Mo_decode 33 = .ok (.iconst 0, 1) := by decide +kernel
theorem dd_Mo_decode_34 : decode bb_Mo_decode 34 = .ok (.ireturn, 1) := by decide +kernel
theorem dd_Mo_decode_35 : decode bb_Mo_decode 35 = .ok (.iconst 0, 1) := by decide +kernel
theorem dd_Mo_decode_36 : decode bb_Mo_decode 36 = .ok (.istore_n 1, 1) := by decide +kernel
theorem dd_Mo_decode_37 : decode bb_Mo_decode 37 = .ok (.iconst 0, 1) := by decide +kernel
theorem dd_Mo_decode_38 : decode bb_Mo_decode 38 = .ok (.istore_n 2, 1) := by decide +kernel
theorem dd_Mo_decode_39 : decode bb_Mo_decode 39 = .ok (.iload_n 2, 1) := by decide +kernel
theorem dd_Mo_decode_40 : decode bb_Mo_decode 40 = .ok (.bipush 64, 2) := by decide +kernel
theorem dd_Mo_decode_42 : decode bb_Mo_decode 42 = .ok (.if_icmp .ge 45, 3) := by decide +kernel
theorem dd_Mo_decode_45 : decode bb_Mo_decode 45 = .ok (.aload_n 0, 1) := by decide +kernel
theorem dd_Mo_decode_46 : decode bb_Mo_decode 46 = .ok (.getfield 16, 3) := by decide +kernel
theorem dd_Mo_decode_49 : decode bb_Mo_decode 49 = .ok (.iload_n 2, 1) := by decide +kernel
theorem dd_Mo_decode_50 : decode bb_Mo_decode 50 = .ok (.aload_n 0, 1) := by decide +kernel
theorem dd_Mo_decode_51 : decode bb_Mo_decode 51 = .ok (.getfield 20, 3) := by decide +kernel
theorem dd_Mo_decode_54 : decode bb_Mo_decode 54 = .ok (.iload_n 2, 1) := by decide +kernel
theorem dd_Mo_decode_55 : decode bb_Mo_decode 55 = .ok (.baload, 1) := by decide +kernel
theorem dd_Mo_decode_56 : decode bb_Mo_decode 56 = .ok (.bastore, 1) := by decide +kernel
theorem dd_Mo_decode_57 : decode bb_Mo_decode 57 = .ok (.aload_n 0, 1) := by decide +kernel
theorem dd_Mo_decode_58 : decode bb_Mo_decode 58 = .ok (.getfield 20, 3) := by decide +kernel
theorem dd_Mo_decode_61 : decode bb_Mo_decode 61 = .ok (.iload_n 2, 1) := by decide +kernel
theorem dd_Mo_decode_62 : decode bb_Mo_decode 62 = .ok (.baload, 1) := by decide +kernel
theorem dd_Mo_decode_63 : decode bb_Mo_decode 63 = .ok (.ifCond .eq 18, 3) := by decide +kernel
theorem dd_Mo_decode_66 : decode bb_Mo_decode 66 = .ok (.aload_n 0, 1) := by decide +kernel
theorem dd_Mo_decode_67 : decode bb_Mo_decode 67 = .ok (.getfield 7, 3) := by decide +kernel
theorem dd_Mo_decode_70 : decode bb_Mo_decode 70 = .ok (.iload_n 2, 1) := by decide +kernel
theorem dd_Mo_decode_71 : decode bb_Mo_decode 71 = .ok (.aload_n 0, 1) := by decide +kernel
theorem dd_Mo_decode_72 : decode bb_Mo_decode 72 = .ok (.getfield 13, 3) := by decide +kernel
theorem dd_Mo_decode_75 : decode bb_Mo_decode 75 = .ok (.iload_n 2, 1) := by decide +kernel
theorem dd_Mo_decode_76 : decode bb_Mo_decode 76 = .ok (.laload, 1) := by decide +kernel
theorem dd_Mo_decode_77 : decode bb_Mo_decode 77 = .ok (.lastore, 1) := by decide +kernel
theorem dd_Mo_decode_78 : decode bb_Mo_decode 78 = .ok (.iinc 1 1, 3) := by decide +kernel
theorem dd_Mo_decode_81 : decode bb_Mo_decode 81 = .ok (.iinc 2 1, 3) := by decide +kernel
theorem dd_Mo_decode_84 : decode bb_Mo_decode 84 = .ok (.goto (-45), 3) := by decide +kernel
theorem dd_Mo_decode_87 : decode bb_Mo_decode 87 = .ok (.iload_n 1, 1) := by decide +kernel
theorem dd_Mo_decode_88 : decode bb_Mo_decode 88 = .ok (.ireturn, 1) := by decide +kernel
theorem dd_Mo_wrongAt_0 : decode bb_Mo_wrongAt 0 = .ok (.aload_n 0, 1) := by decide +kernel
theorem dd_Mo_wrongAt_1 : decode bb_Mo_wrongAt 1 = .ok (.getfield 64, 3) := by decide +kernel
theorem dd_Mo_wrongAt_4 : decode bb_Mo_wrongAt 4 = .ok (.bipush 8, 2) := by decide +kernel
theorem dd_Mo_wrongAt_6 : decode bb_Mo_wrongAt 6 = .ok (.if_icmp .ge 8, 3) := by decide +kernel
theorem dd_Mo_wrongAt_9 : decode bb_Mo_wrongAt 9 = .ok (.aload_n 0, 1) := by decide +kernel
theorem dd_Mo_wrongAt_10 : decode bb_Mo_wrongAt 10 = .ok (.getfield 64, 3) := by decide +kernel
theorem dd_Mo_wrongAt_13 : decode bb_Mo_wrongAt 13 = .ok (.ireturn, 1) := by decide +kernel
theorem dd_Mo_wrongAt_14 : decode bb_Mo_wrongAt 14 = .ok (.iconst 0, 1) := by decide +kernel
theorem dd_Mo_wrongAt_15 : decode bb_Mo_wrongAt 15 = .ok (.istore_n 1, 1) := by decide +kernel
theorem dd_Mo_wrongAt_16 : decode bb_Mo_wrongAt 16 = .ok (.bipush 8, 2) := by decide +kernel
theorem dd_Mo_wrongAt_18 : decode bb_Mo_wrongAt 18 = .ok (.istore_n 2, 1) := by decide +kernel
theorem dd_Mo_wrongAt_19 : decode bb_Mo_wrongAt 19 = .ok (.iconst 0, 1) := by decide +kernel
theorem dd_Mo_wrongAt_20 : decode bb_Mo_wrongAt 20 = .ok (.istore_n 3, 1) := by decide +kernel
theorem dd_Mo_wrongAt_21 : decode bb_Mo_wrongAt 21 = .ok (.iconst 0, 1) := by decide +kernel
theorem dd_Mo_wrongAt_22 : decode bb_Mo_wrongAt 22 = .ok (.istore 4, 2) := by decide +kernel
theorem dd_Mo_wrongAt_24 : decode bb_Mo_wrongAt 24 = .ok (.iload 4, 2) := by decide +kernel
theorem dd_Mo_wrongAt_26 : decode bb_Mo_wrongAt 26 = .ok (.bipush 64, 2) := by decide +kernel
theorem dd_Mo_wrongAt_28 : decode bb_Mo_wrongAt 28 = .ok (.if_icmp .ge 56, 3) := by decide +kernel
theorem dd_Mo_wrongAt_31 : decode bb_Mo_wrongAt 31 = .ok (.aload_n 0, 1) := by decide +kernel
theorem dd_Mo_wrongAt_32 : decode bb_Mo_wrongAt 32 = .ok (.getfield 20, 3) := by decide +kernel
theorem dd_Mo_wrongAt_35 : decode bb_Mo_wrongAt 35 = .ok (.iload 4, 2) := by decide +kernel
theorem dd_Mo_wrongAt_37 : decode bb_Mo_wrongAt 37 = .ok (.aload_n 0, 1) := by decide +kernel
theorem dd_Mo_wrongAt_38 : decode bb_Mo_wrongAt 38 = .ok (.getfield 30, 3) := by decide +kernel
theorem dd_Mo_wrongAt_41 : decode bb_Mo_wrongAt 41 = .ok (.iload 4, 2) := by decide +kernel
theorem dd_Mo_wrongAt_43 : decode bb_Mo_wrongAt 43 = .ok (.bipush 8, 2) := by decide +kernel
theorem dd_Mo_wrongAt_45 : decode bb_Mo_wrongAt 45 = .ok (.idiv, 1) := by decide +kernel
theorem dd_Mo_wrongAt_46 : decode bb_Mo_wrongAt 46 = .ok (.iaload, 1) := by decide +kernel
theorem dd_Mo_wrongAt_47 : decode bb_Mo_wrongAt 47 = .ok (.iload 4, 2) := by decide +kernel
theorem dd_Mo_wrongAt_49 : decode bb_Mo_wrongAt 49 = .ok (.bipush 8, 2) := by decide +kernel
theorem dd_Mo_wrongAt_51 : decode bb_Mo_wrongAt 51 = .ok (.irem, 1) := by decide +kernel
theorem dd_Mo_wrongAt_52 : decode bb_Mo_wrongAt 52 = .ok (.ishr, 1) := by decide +kernel
theorem dd_Mo_wrongAt_53 : decode bb_Mo_wrongAt 53 = .ok (.iconst 1, 1) := by decide +kernel
theorem dd_Mo_wrongAt_54 : decode bb_Mo_wrongAt 54 = .ok (.iand, 1) := by decide +kernel
theorem dd_Mo_wrongAt_55 : decode bb_Mo_wrongAt 55 = .ok (.iconst 1, 1) := by decide +kernel
theorem dd_Mo_wrongAt_56 : decode bb_Mo_wrongAt 56 = .ok (.if_icmp .ne 7, 3) := by decide +kernel
theorem dd_Mo_wrongAt_59 : decode bb_Mo_wrongAt 59 = .ok (.iconst 1, 1) := by decide +kernel
theorem dd_Mo_wrongAt_60 : decode bb_Mo_wrongAt 60 = .ok (.goto 4, 3) := by decide +kernel
theorem dd_Mo_wrongAt_63 : decode bb_Mo_wrongAt 63 = .ok (.iconst 0, 1) := by decide +kernel
theorem dd_Mo_wrongAt_64 : decode bb_Mo_wrongAt 64 = .ok (.bastore, 1) := by decide +kernel
theorem dd_Mo_wrongAt_65 : decode bb_Mo_wrongAt 65 = .ok (.aload_n 0, 1) := by decide +kernel
theorem dd_Mo_wrongAt_66 : decode bb_Mo_wrongAt 66 = .ok (.getfield 20, 3) := by decide +kernel
theorem dd_Mo_wrongAt_69 : decode bb_Mo_wrongAt 69 = .ok (.iload 4, 2) := by decide +kernel
theorem dd_Mo_wrongAt_71 : decode bb_Mo_wrongAt 71 = .ok (.baload, 1) := by decide +kernel
theorem dd_Mo_wrongAt_72 : decode bb_Mo_wrongAt 72 = .ok (.ifCond .eq 6, 3) := by decide +kernel
theorem dd_Mo_wrongAt_75 : decode bb_Mo_wrongAt 75 = .ok (.iinc 1 1, 3) := by decide +kernel
theorem dd_Mo_wrongAt_78 : decode bb_Mo_wrongAt 78 = .ok (.iinc 4 1, 3) := by decide +kernel
theorem dd_Mo_wrongAt_81 : decode bb_Mo_wrongAt 81 = .ok (.goto (-57), 3) := by decide +kernel
theorem dd_Mo_wrongAt_84 : decode bb_Mo_wrongAt 84 = .ok (.lconst 0, 1) := by decide +kernel
theorem dd_Mo_wrongAt_85 : decode bb_Mo_wrongAt 85 = .ok (.lstore 4, 2) := by decide +kernel
theorem dd_Mo_wrongAt_87 : decode bb_Mo_wrongAt 87 = .ok (.iconst 1, 1) := by decide +kernel
theorem dd_Mo_wrongAt_88 : decode bb_Mo_wrongAt 88 = .ok (.istore 6, 2) := by decide +kernel
theorem dd_Mo_wrongAt_90 : decode bb_Mo_wrongAt 90 = .ok (.iload_n 1, 1) := by decide +kernel
theorem dd_Mo_wrongAt_91 : decode bb_Mo_wrongAt 91 = .ok (.ifCond .le 209, 3) := by decide +kernel
theorem dd_Mo_wrongAt_94 : decode bb_Mo_wrongAt 94 = .ok (.iload_n 2, 1) := by decide +kernel
theorem dd_Mo_wrongAt_95 : decode bb_Mo_wrongAt 95 = .ok (.aload_n 0, 1) := by decide +kernel
theorem dd_Mo_wrongAt_96 : decode bb_Mo_wrongAt 96 = .ok (.getfield 64, 3) := by decide +kernel
theorem dd_Mo_wrongAt_99 : decode bb_Mo_wrongAt 99 = .ok (.if_icmp .eq 23, 3) := by decide +kernel
theorem dd_Mo_wrongAt_102 : decode bb_Mo_wrongAt 102 = .ok (.aload_n 0, 1) := by decide +kernel
theorem dd_Mo_wrongAt_103 : decode bb_Mo_wrongAt 103 = .ok (.getfield 30, 3) := by decide +kernel
theorem dd_Mo_wrongAt_106 : decode bb_Mo_wrongAt 106 = .ok (.iload_n 2, 1) := by decide +kernel
theorem dd_Mo_wrongAt_107 : decode bb_Mo_wrongAt 107 = .ok (.iaload, 1) := by decide +kernel
theorem dd_Mo_wrongAt_108 : decode bb_Mo_wrongAt 108 = .ok (.iconst 1, 1) := by decide +kernel
theorem dd_Mo_wrongAt_109 : decode bb_Mo_wrongAt 109 = .ok (.if_icmp .lt 13, 3) := by decide +kernel
theorem dd_Mo_wrongAt_112 : decode bb_Mo_wrongAt 112 = .ok (.aload_n 0, 1) := by decide +kernel
theorem dd_Mo_wrongAt_113 : decode bb_Mo_wrongAt 113 = .ok (.getfield 30, 3) := by decide +kernel
theorem dd_Mo_wrongAt_116 : decode bb_Mo_wrongAt 116 = .ok (.iload_n 2, 1) := by decide +kernel
theorem dd_Mo_wrongAt_117 : decode bb_Mo_wrongAt 117 = .ok (.iaload, 1) := by decide +kernel
theorem dd_Mo_wrongAt_118 : decode bb_Mo_wrongAt 118 = .ok (.iload_n 1, 1) := by decide +kernel
theorem dd_Mo_wrongAt_119 : decode bb_Mo_wrongAt 119 = .ok (.if_icmp .le 5, 3) := by decide +kernel
theorem dd_Mo_wrongAt_122 : decode bb_Mo_wrongAt 122 = .ok (.iload_n 2, 1) := by decide +kernel
theorem dd_Mo_wrongAt_123 : decode bb_Mo_wrongAt 123 = .ok (.ireturn, 1) := by decide +kernel
theorem dd_Mo_wrongAt_124 : decode bb_Mo_wrongAt 124 = .ok (.aload_n 0, 1) := by decide +kernel
theorem dd_Mo_wrongAt_125 : decode bb_Mo_wrongAt 125 = .ok (.getfield 30, 3) := by decide +kernel
theorem dd_Mo_wrongAt_128 : decode bb_Mo_wrongAt 128 = .ok (.iload_n 2, 1) := by decide +kernel
theorem dd_Mo_wrongAt_129 : decode bb_Mo_wrongAt 129 = .ok (.iinc 2 1, 3) := by decide +kernel
theorem dd_Mo_wrongAt_132 : decode bb_Mo_wrongAt 132 = .ok (.iaload, 1) := by decide +kernel
theorem dd_Mo_wrongAt_133 : decode bb_Mo_wrongAt 133 = .ok (.istore 7, 2) := by decide +kernel
theorem dd_Mo_wrongAt_135 : decode bb_Mo_wrongAt 135 = .ok (.iconst 0, 1) := by decide +kernel
theorem dd_Mo_wrongAt_136 : decode bb_Mo_wrongAt 136 = .ok (.istore 8, 2) := by decide +kernel
theorem dd_Mo_wrongAt_138 : decode bb_Mo_wrongAt 138 = .ok (.lconst 0, 1) := by decide +kernel
theorem dd_Mo_wrongAt_139 : decode bb_Mo_wrongAt 139 = .ok (.lstore 9, 2) := by decide +kernel
theorem dd_Mo_wrongAt_141 : decode bb_Mo_wrongAt 141 = .ok (.iload_n 2, 1) := by decide +kernel
theorem dd_Mo_wrongAt_142 : decode bb_Mo_wrongAt 142 = .ok (.aload_n 0, 1) := by decide +kernel
theorem dd_Mo_wrongAt_143 : decode bb_Mo_wrongAt 143 = .ok (.getfield 64, 3) := by decide +kernel
theorem dd_Mo_wrongAt_146 : decode bb_Mo_wrongAt 146 = .ok (.if_icmp .ne 5, 3) := by decide +kernel
theorem dd_Mo_wrongAt_149 : decode bb_Mo_wrongAt 149 = .ok (.iload_n 2, 1) := by decide +kernel
theorem dd_Mo_wrongAt_150 : decode bb_Mo_wrongAt 150 = .ok (.ireturn, 1) := by decide +kernel
theorem dd_Mo_wrongAt_151 : decode bb_Mo_wrongAt 151 = .ok (.aload_n 0, 1) := by decide +kernel
theorem dd_Mo_wrongAt_152 : decode bb_Mo_wrongAt 152 = .ok (.getfield 30, 3) := by decide +kernel
theorem dd_Mo_wrongAt_155 : decode bb_Mo_wrongAt 155 = .ok (.iload_n 2, 1) := by decide +kernel
theorem dd_Mo_wrongAt_156 : decode bb_Mo_wrongAt 156 = .ok (.iaload, 1) := by decide +kernel
theorem dd_Mo_wrongAt_157 : decode bb_Mo_wrongAt 157 = .ok (.istore 11, 2) := by decide +kernel
theorem dd_Mo_wrongAt_159 : decode bb_Mo_wrongAt 159 = .ok (.iload 8, 2) := by decide +kernel
theorem dd_Mo_wrongAt_161 : decode bb_Mo_wrongAt 161 = .ok (.bipush 9, 2) := by decide +kernel
theorem dd_Mo_wrongAt_163 : decode bb_Mo_wrongAt 163 = .ok (.if_icmp .ne 11, 3) := by decide +kernel
theorem dd_Mo_wrongAt_166 : decode bb_Mo_wrongAt 166 = .ok (.iload 11, 2) := by decide +kernel
theorem dd_Mo_wrongAt_168 : decode bb_Mo_wrongAt 168 = .ok (.iconst 1, 1) := by decide +kernel
theorem dd_Mo_wrongAt_169 : decode bb_Mo_wrongAt 169 = .ok (.if_icmp .eq 5, 3) := by decide +kernel
theorem dd_Mo_wrongAt_172 : decode bb_Mo_wrongAt 172 = .ok (.iload_n 2, 1) := by decide +kernel
theorem dd_Mo_wrongAt_173 : decode bb_Mo_wrongAt 173 = .ok (.ireturn, 1) := by decide +kernel
theorem dd_Mo_wrongAt_174 : decode bb_Mo_wrongAt 174 = .ok (.lload 9, 2) := by decide +kernel
theorem dd_Mo_wrongAt_176 : decode bb_Mo_wrongAt 176 = .ok (.iload 11, 2) := by decide +kernel
theorem dd_Mo_wrongAt_178 : decode bb_Mo_wrongAt 178 = .ok (.bipush 127, 2) := by decide +kernel
theorem dd_Mo_wrongAt_180 : decode bb_Mo_wrongAt 180 = .ok (.iand, 1) := by decide +kernel
theorem dd_Mo_wrongAt_181 : decode bb_Mo_wrongAt 181 = .ok (.i2l, 1) := by decide +kernel
theorem dd_Mo_wrongAt_182 : decode bb_Mo_wrongAt 182 = .ok (.bipush 7, 2) := by decide +kernel
theorem dd_Mo_wrongAt_184 : decode bb_Mo_wrongAt 184 = .ok (.iload 8, 2) := by decide +kernel
theorem dd_Mo_wrongAt_186 : decode bb_Mo_wrongAt 186 = .ok (.imul, 1) := by decide +kernel
theorem dd_Mo_wrongAt_187 : decode bb_Mo_wrongAt 187 = .ok (.lshl, 1) := by decide +kernel
theorem dd_Mo_wrongAt_188 : decode bb_Mo_wrongAt 188 = .ok (.lor, 1) := by decide +kernel
theorem dd_Mo_wrongAt_189 : decode bb_Mo_wrongAt 189 = .ok (.lstore 9, 2) := by decide +kernel
theorem dd_Mo_wrongAt_191 : decode bb_Mo_wrongAt 191 = .ok (.iinc 8 1, 3) := by decide +kernel
theorem dd_Mo_wrongAt_194 : decode bb_Mo_wrongAt 194 = .ok (.iload 11, 2) := by decide +kernel
theorem dd_Mo_wrongAt_196 : decode bb_Mo_wrongAt 196 = .ok (.sipush 128, 3) := by decide +kernel
theorem dd_Mo_wrongAt_199 : decode bb_Mo_wrongAt 199 = .ok (.if_icmp .lt 9, 3) := by decide +kernel
theorem dd_Mo_wrongAt_202 : decode bb_Mo_wrongAt 202 = .ok (.iinc 2 1, 3) := by decide +kernel
theorem dd_Mo_wrongAt_205 : decode bb_Mo_wrongAt 205 = .ok (.goto (-64), 3) := by decide +kernel
theorem dd_Mo_wrongAt_208 : decode bb_Mo_wrongAt 208 = .ok (.iload 11, 2) := by decide +kernel
theorem dd_Mo_wrongAt_210 : decode bb_Mo_wrongAt 210 = .ok (.ifCond .ne 16, 3) := by decide +kernel
theorem dd_Mo_wrongAt_213 : decode bb_Mo_wrongAt 213 = .ok (.iload 8, 2) := by decide +kernel
theorem dd_Mo_wrongAt_215 : decode bb_Mo_wrongAt 215 = .ok (.iconst 1, 1) := by decide +kernel
theorem dd_Mo_wrongAt_216 : decode bb_Mo_wrongAt 216 = .ok (.if_icmp .gt 8, 3) := by decide +kernel
theorem dd_Mo_wrongAt_219 : decode bb_Mo_wrongAt 219 = .ok (.iload 6, 2) := by decide +kernel
theorem dd_Mo_wrongAt_221 : decode bb_Mo_wrongAt 221 = .ok (.ifCond .ne 5, 3) := by decide +kernel
theorem dd_Mo_wrongAt_224 : decode bb_Mo_wrongAt 224 = .ok (.iload_n 2, 1) := by decide +kernel
theorem dd_Mo_wrongAt_225 : decode bb_Mo_wrongAt 225 = .ok (.ireturn, 1) := by decide +kernel
theorem dd_Mo_wrongAt_226 : decode bb_Mo_wrongAt 226 = .ok (.iinc 2 1, 3) := by decide +kernel
theorem dd_Mo_wrongAt_229 : decode bb_Mo_wrongAt 229 = .ok (.goto 3, 3) := by decide +kernel
theorem dd_Mo_wrongAt_232 : decode bb_Mo_wrongAt 232 = .ok (.lload 4, 2) := by decide +kernel
theorem dd_Mo_wrongAt_234 : decode bb_Mo_wrongAt 234 = .ok (.lload 9, 2) := by decide +kernel
theorem dd_Mo_wrongAt_236 : decode bb_Mo_wrongAt 236 = .ok (.iconst 1, 1) := by decide +kernel
theorem dd_Mo_wrongAt_237 : decode bb_Mo_wrongAt 237 = .ok (.lushr, 1) := by decide +kernel
theorem dd_Mo_wrongAt_238 : decode bb_Mo_wrongAt 238 = .ok (.lload 9, 2) := by decide +kernel
theorem dd_Mo_wrongAt_240 : decode bb_Mo_wrongAt 240 = .ok (.lconst 1, 1) := by decide +kernel
theorem dd_Mo_wrongAt_241 : decode bb_Mo_wrongAt 241 = .ok (.land, 1) := by decide +kernel
theorem dd_Mo_wrongAt_242 : decode bb_Mo_wrongAt 242 = .ok (.lneg, 1) := by decide +kernel
theorem dd_Mo_wrongAt_243 : decode bb_Mo_wrongAt 243 = .ok (.lxor, 1) := by decide +kernel
theorem dd_Mo_wrongAt_244 : decode bb_Mo_wrongAt 244 = .ok (.ladd, 1) := by decide +kernel
theorem dd_Mo_wrongAt_245 : decode bb_Mo_wrongAt 245 = .ok (.lstore 4, 2) := by decide +kernel
theorem dd_Mo_wrongAt_247 : decode bb_Mo_wrongAt 247 = .ok (.iconst 0, 1) := by decide +kernel
theorem dd_Mo_wrongAt_248 : decode bb_Mo_wrongAt 248 = .ok (.istore 6, 2) := by decide +kernel
theorem dd_Mo_wrongAt_250 : decode bb_Mo_wrongAt 250 = .ok (.iload_n 1, 1) := by decide +kernel
theorem dd_Mo_wrongAt_251 : decode bb_Mo_wrongAt 251 = .ok (.iload 7, 2) := by decide +kernel
theorem dd_Mo_wrongAt_253 : decode bb_Mo_wrongAt 253 = .ok (.isub, 1) := by decide +kernel
theorem dd_Mo_wrongAt_254 : decode bb_Mo_wrongAt 254 = .ok (.istore_n 1, 1) := by decide +kernel
theorem dd_Mo_wrongAt_255 : decode bb_Mo_wrongAt 255 = .ok (.iconst 0, 1) := by decide +kernel
theorem dd_Mo_wrongAt_256 : decode bb_Mo_wrongAt 256 = .ok (.istore 11, 2) := by decide +kernel
theorem dd_Mo_wrongAt_258 : decode bb_Mo_wrongAt 258 = .ok (.iload 11, 2) := by decide +kernel
theorem dd_Mo_wrongAt_260 : decode bb_Mo_wrongAt 260 = .ok (.iload 7, 2) := by decide +kernel
theorem dd_Mo_wrongAt_262 : decode bb_Mo_wrongAt 262 = .ok (.if_icmp .ge 35, 3) := by decide +kernel
theorem dd_Mo_wrongAt_265 : decode bb_Mo_wrongAt 265 = .ok (.aload_n 0, 1) := by decide +kernel
theorem dd_Mo_wrongAt_266 : decode bb_Mo_wrongAt 266 = .ok (.getfield 20, 3) := by decide +kernel
theorem dd_Mo_wrongAt_269 : decode bb_Mo_wrongAt 269 = .ok (.iload_n 3, 1) := by decide +kernel
theorem dd_Mo_wrongAt_270 : decode bb_Mo_wrongAt 270 = .ok (.baload, 1) := by decide +kernel
theorem dd_Mo_wrongAt_271 : decode bb_Mo_wrongAt 271 = .ok (.ifCond .ne 9, 3) := by decide +kernel
theorem dd_Mo_wrongAt_274 : decode bb_Mo_wrongAt 274 = .ok (.iinc 3 1, 3) := by decide +kernel
theorem dd_Mo_wrongAt_277 : decode bb_Mo_wrongAt 277 = .ok (.goto (-12), 3) := by decide +kernel
theorem dd_Mo_wrongAt_280 : decode bb_Mo_wrongAt 280 = .ok (.aload_n 0, 1) := by decide +kernel
theorem dd_Mo_wrongAt_281 : decode bb_Mo_wrongAt 281 = .ok (.getfield 13, 3) := by decide +kernel
theorem dd_Mo_wrongAt_284 : decode bb_Mo_wrongAt 284 = .ok (.iload_n 3, 1) := by decide +kernel
theorem dd_Mo_wrongAt_285 : decode bb_Mo_wrongAt 285 = .ok (.iinc 3 1, 3) := by decide +kernel
theorem dd_Mo_wrongAt_288 : decode bb_Mo_wrongAt 288 = .ok (.lload 4, 2) := by decide +kernel
theorem dd_Mo_wrongAt_290 : decode bb_Mo_wrongAt 290 = .ok (.lastore, 1) := by decide +kernel
theorem dd_Mo_wrongAt_291 : decode bb_Mo_wrongAt 291 = .ok (.iinc 11 1, 3) := by decide +kernel
theorem dd_Mo_wrongAt_294 : decode bb_Mo_wrongAt 294 = .ok (.goto (-36), 3) := by decide +kernel
theorem dd_Mo_wrongAt_297 : decode bb_Mo_wrongAt 297 = .ok (.goto (-207), 3) := by decide +kernel
theorem dd_Mo_wrongAt_300 : decode bb_Mo_wrongAt 300 = .ok (.iload_n 2, 1) := by decide +kernel
theorem dd_Mo_wrongAt_301 : decode bb_Mo_wrongAt 301 = .ok (.aload_n 0, 1) := by decide +kernel
theorem dd_Mo_wrongAt_302 : decode bb_Mo_wrongAt 302 = .ok (.getfield 64, 3) := by decide +kernel
theorem dd_Mo_wrongAt_305 : decode bb_Mo_wrongAt 305 = .ok (.if_icmp .ge 7, 3) := by decide +kernel
theorem dd_Mo_wrongAt_308 : decode bb_Mo_wrongAt 308 = .ok (.iload_n 2, 1) := by decide +kernel
theorem dd_Mo_wrongAt_309 : decode bb_Mo_wrongAt 309 = .ok (.goto 4, 3) := by decide +kernel
theorem dd_Mo_wrongAt_312 : decode bb_Mo_wrongAt 312 = .ok (.iconst (-1), 1) := by decide +kernel
theorem dd_Mo_wrongAt_313 : decode bb_Mo_wrongAt 313 = .ok (.ireturn, 1) := by decide +kernel
theorem dd_Mo_wrong_0 : decode bb_Mo_wrong 0 = .ok (.aload_n 0, 1) := by decide +kernel
theorem dd_Mo_wrong_1 : decode bb_Mo_wrong 1 = .ok (.iconst 0, 1) := by decide +kernel
theorem dd_Mo_wrong_2 : decode bb_Mo_wrong 2 = .ok (.putfield 37, 3) := by decide +kernel
theorem dd_Mo_wrong_5 : decode bb_Mo_wrong 5 = .ok (.aload_n 0, 1) := by decide +kernel
theorem dd_Mo_wrong_6 : decode bb_Mo_wrong 6 = .ok (.getfield 33, 3) := by decide +kernel
theorem dd_Mo_wrong_9 : decode bb_Mo_wrong 9 = .ok (.ireturn, 1) := by decide +kernel
theorem dd_Mo_count_0 : decode bb_Mo_count 0 = .ok (.aload_n 0, 1) := by decide +kernel
theorem dd_Mo_count_1 : decode bb_Mo_count 1 = .ok (.iload_n 1, 1) := by decide +kernel
theorem dd_Mo_count_2 : decode bb_Mo_count 2 = .ok (.ifCond .lt 8, 3) := by decide +kernel
theorem dd_Mo_count_5 : decode bb_Mo_count 5 = .ok (.iload_n 1, 1) := by decide +kernel
theorem dd_Mo_count_6 : decode bb_Mo_count 6 = .ok (.iconst 4, 1) := by decide +kernel
theorem dd_Mo_count_7 : decode bb_Mo_count 7 = .ok (.if_icmp .le 7, 3) := by decide +kernel
theorem dd_Mo_count_10 : decode bb_Mo_count 10 = .ok (.iconst 1, 1) := by decide +kernel
theorem dd_Mo_count_11 : decode bb_Mo_count 11 = .ok (.goto 4, 3) := by decide +kernel
theorem dd_Mo_count_14 : decode bb_Mo_count 14 = .ok (.iconst 0, 1) := by decide +kernel
theorem dd_Mo_count_15 : decode bb_Mo_count 15 = .ok (.iconst 1, 1) := by decide +kernel
theorem dd_Mo_count_16 : decode bb_Mo_count 16 = .ok (.invokevirtual 44, 3) := by decide +kernel
theorem dd_Mo_count_19 : decode bb_Mo_count 19 = .ok (.ifCond .eq 5, 3) := by decide +kernel
theorem dd_Mo_count_22 : decode bb_Mo_count 22 = .ok (.iconst 0, 1) := by decide +kernel
theorem dd_Mo_count_23 : decode bb_Mo_count 23 = .ok (.ireturn, 1) := by decide +kernel
theorem dd_Mo_count_24 : decode bb_Mo_count 24 = .ok (.iconst 0, 1) := by decide +kernel
theorem dd_Mo_count_25 : decode bb_Mo_count 25 = .ok (.istore_n 2, 1) := by decide +kernel
theorem dd_Mo_count_26 : decode bb_Mo_count 26 = .ok (.aload_n 0, 1) := by decide +kernel
theorem dd_Mo_count_27 : decode bb_Mo_count 27 = .ok (.invokevirtual 57, 3) := by decide +kernel
theorem dd_Mo_count_30 : decode bb_Mo_count 30 = .ok (.istore_n 3, 1) := by decide +kernel
theorem dd_Mo_count_31 : decode bb_Mo_count 31 = .ok (.iconst 0, 1) := by decide +kernel
theorem dd_Mo_count_32 : decode bb_Mo_count 32 = .ok (.istore 4, 2) := by decide +kernel
theorem dd_Mo_count_34 : decode bb_Mo_count 34 = .ok (.iload 4, 2) := by decide +kernel
theorem dd_Mo_count_36 : decode bb_Mo_count 36 = .ok (.bipush 64, 2) := by decide +kernel
theorem dd_Mo_count_38 : decode bb_Mo_count 38 = .ok (.if_icmp .ge 22, 3) := by decide +kernel
theorem dd_Mo_count_41 : decode bb_Mo_count 41 = .ok (.aload_n 0, 1) := by decide +kernel
theorem dd_Mo_count_42 : decode bb_Mo_count 42 = .ok (.getfield 16, 3) := by decide +kernel
theorem dd_Mo_count_45 : decode bb_Mo_count 45 = .ok (.iload 4, 2) := by decide +kernel
theorem dd_Mo_count_47 : decode bb_Mo_count 47 = .ok (.baload, 1) := by decide +kernel
theorem dd_Mo_count_48 : decode bb_Mo_count 48 = .ok (.ifCond .eq 6, 3) := by decide +kernel
theorem dd_Mo_count_51 : decode bb_Mo_count 51 = .ok (.iinc 2 1, 3) := by decide +kernel
theorem dd_Mo_count_54 : decode bb_Mo_count 54 = .ok (.iinc 4 1, 3) := by decide +kernel
theorem dd_Mo_count_57 : decode bb_Mo_count 57 = .ok (.goto (-23), 3) := by decide +kernel
theorem dd_Mo_count_60 : decode bb_Mo_count 60 = .ok (.iload_n 1, 1) := by decide +kernel
theorem dd_Mo_count_61 : decode bb_Mo_count 61 = .ok (.ifCond .ne 7, 3) := by decide +kernel
theorem dd_Mo_count_64 : decode bb_Mo_count 64 = .ok (.iload_n 2, 1) := by decide +kernel
theorem dd_Mo_count_65 : decode bb_Mo_count 65 = .ok (.goto 40, 3) := by decide +kernel
theorem dd_Mo_count_68 : decode bb_Mo_count 68 = .ok (.iload_n 1, 1) := by decide +kernel
theorem dd_Mo_count_69 : decode bb_Mo_count 69 = .ok (.iconst 1, 1) := by decide +kernel
theorem dd_Mo_count_70 : decode bb_Mo_count 70 = .ok (.if_icmp .ne 7, 3) := by decide +kernel
theorem dd_Mo_count_73 : decode bb_Mo_count 73 = .ok (.iload_n 3, 1) := by decide +kernel
theorem dd_Mo_count_74 : decode bb_Mo_count 74 = .ok (.goto 31, 3) := by decide +kernel
theorem dd_Mo_count_77 : decode bb_Mo_count 77 = .ok (.iload_n 1, 1) := by decide +kernel
theorem dd_Mo_count_78 : decode bb_Mo_count 78 = .ok (.iconst 2, 1) := by decide +kernel
theorem dd_Mo_count_79 : decode bb_Mo_count 79 = .ok (.if_icmp .ne 10, 3) := by decide +kernel
theorem dd_Mo_count_82 : decode bb_Mo_count 82 = .ok (.aload_n 0, 1) := by decide +kernel
theorem dd_Mo_count_83 : decode bb_Mo_count 83 = .ok (.getfield 64, 3) := by decide +kernel
theorem dd_Mo_count_86 : decode bb_Mo_count 86 = .ok (.goto 19, 3) := by decide +kernel
theorem dd_Mo_count_89 : decode bb_Mo_count 89 = .ok (.iload_n 1, 1) := by decide +kernel
theorem dd_Mo_count_90 : decode bb_Mo_count 90 = .ok (.iconst 3, 1) := by decide +kernel
theorem dd_Mo_count_91 : decode bb_Mo_count 91 = .ok (.if_icmp .ne 10, 3) := by decide +kernel
theorem dd_Mo_count_94 : decode bb_Mo_count 94 = .ok (.aload_n 0, 1) := by decide +kernel
theorem dd_Mo_count_95 : decode bb_Mo_count 95 = .ok (.getfield 61, 3) := by decide +kernel
theorem dd_Mo_count_98 : decode bb_Mo_count 98 = .ok (.goto 7, 3) := by decide +kernel
theorem dd_Mo_count_101 : decode bb_Mo_count 101 = .ok (.aload_n 0, 1) := by decide +kernel
theorem dd_Mo_count_102 : decode bb_Mo_count 102 = .ok (.getfield 48, 3) := by decide +kernel
theorem dd_Mo_count_105 : decode bb_Mo_count 105 = .ok (.ireturn, 1) := by decide +kernel
end
section
/-! instructions -/
theorem dd_La_put_0 : decode bb_La_put 0 = .ok (.aload_n 0, 1) := by decide +kernel
theorem dd_La_put_1 : decode bb_La_put 1 = .ok (.iload_n 1, 1) := by decide +kernel
theorem dd_La_put_2 : decode bb_La_put 2 = .ok (.lload_n 2, 1) := by decide +kernel
theorem dd_La_put_3 : decode bb_La_put 3 = .ok (.invokevirtual 7, 3) := by decide +kernel
theorem dd_La_put_6 : decode bb_La_put 6 = .ok (.goto 7, 3) := by decide +kernel
theorem dd_La_put_9 : decode bb_La_put 9 = .ok (.astore 4, 2) := by decide +kernel
theorem dd_La_put_11 : decode bb_La_put 11 = .ok (.iconst 1, 1) := by decide +kernel
theorem dd_La_put_12 : decode bb_La_put 12 = .ok (.ireturn, 1) := by decide +kernel
theorem dd_La_put_13 : decode bb_La_put 13 = .ok (.iconst 0, 1) := by decide +kernel
theorem dd_La_put_14 : decode bb_La_put 14 = .ok (.ireturn, 1) := by decide +kernel
theorem dd_La_erase_0 : decode bb_La_erase 0 = .ok (.aload_n 0, 1) := by decide +kernel
theorem dd_La_erase_1 : decode bb_La_erase 1 = .ok (.iload_n 1, 1) := by decide +kernel
theorem dd_La_erase_2 : decode bb_La_erase 2 = .ok (.iload_n 2, 1) := by decide +kernel
theorem dd_La_erase_3 : decode bb_La_erase 3 = .ok (.invokevirtual 15, 3) := by decide +kernel
theorem dd_La_erase_6 : decode bb_La_erase 6 = .ok (.goto 6, 3) := by decide +kernel
theorem dd_La_erase_9 : decode bb_La_erase 9 = .ok (.astore_n 3, 1) := by decide +kernel
theorem dd_La_erase_10 : decode bb_La_erase 10 = .ok (.iconst 1, 1) := by decide +kernel
theorem dd_La_erase_11 : decode bb_La_erase 11 = .ok (.ireturn, 1) := by decide +kernel
theorem dd_La_erase_12 : decode bb_La_erase 12 = .ok (.iconst 0, 1) := by decide +kernel
theorem dd_La_erase_13 : decode bb_La_erase 13 = .ok (.ireturn, 1) := by decide +kernel
theorem dd_La_get_0 : decode bb_La_get 0 = .ok (.aload_n 2, 1) := by decide +kernel
theorem dd_La_get_1 : decode bb_La_get 1 = .ok (.iconst 0, 1) := by decide +kernel
theorem dd_La_get_2 : decode bb_La_get 2 = .ok (.aload_n 0, 1) := by decide +kernel
theorem dd_La_get_3 : decode bb_La_get 3 = .ok (.iload_n 1, 1) := by decide +kernel
theorem dd_La_get_4 : decode bb_La_get 4 = .ok (.invokevirtual 19, 3) := by decide +kernel
theorem dd_La_get_7 : decode bb_La_get 7 = .ok (.lastore, 1) := by decide +kernel
theorem dd_La_get_8 : decode bb_La_get 8 = .ok (.goto 9, 3) := by decide +kernel
theorem dd_La_get_11 : decode bb_La_get 11 = .ok (.astore_n 3, 1) := by decide +kernel
theorem dd_La_get_12 : decode bb_La_get 12 = .ok (.iconst 1, 1) := by decide +kernel
theorem dd_La_get_13 : decode bb_La_get 13 = .ok (.ireturn, 1) := by decide +kernel
theorem dd_La_get_14 : decode bb_La_get 14 = .ok (.astore_n 3, 1) := by decide +kernel
theorem dd_La_get_15 : decode bb_La_get 15 = .ok (.iconst 2, 1) := by decide +kernel
theorem dd_La_get_16 : decode bb_La_get 16 = .ok (.ireturn, 1) := by decide +kernel
theorem dd_La_get_17 : decode bb_La_get 17 = .ok (.iconst 0, 1) := by decide +kernel
theorem dd_La_get_18 : decode bb_La_get 18 = .ok (.ireturn, 1) := by decide +kernel
theorem dd_La_sum_0 : decode bb_La_sum 0 = .ok (.aload_n 3, 1) := by decide +kernel
theorem dd_La_sum_1 : decode bb_La_sum 1 = .ok (.iconst 0, 1) := by decide +kernel
theorem dd_La_sum_2 : decode bb_La_sum 2 = .ok (.aload_n 0, 1) := by decide +kernel
theorem dd_La_sum_3 : decode bb_La_sum 3 = .ok (.iload_n 1, 1) := by decide +kernel
theorem dd_La_sum_4 : decode bb_La_sum 4 = .ok (.iload_n 2, 1) := by decide +kernel
theorem dd_La_sum_5 : decode bb_La_sum 5 = .ok (.invokevirtual 25, 3) := by decide +kernel
theorem dd_La_sum_8 : decode bb_La_sum 8 = .ok (.lastore, 1) := by decide +kernel
theorem dd_La_sum_9 : decode bb_La_sum 9 = .ok (.goto 7, 3) := by decide +kernel
theorem dd_La_sum_12 : decode bb_La_sum 12 = .ok (.astore 4, 2) := by decide +kernel
theorem dd_La_sum_14 : decode bb_La_sum 14 = .ok (.iconst 1, 1) := by decide +kernel
theorem dd_La_sum_15 : decode bb_La_sum 15 = .ok (.ireturn, 1) := by decide +kernel
theorem dd_La_sum_16 : decode bb_La_sum 16 = .ok (.iconst 0, 1) := by decide +kernel
theorem dd_La_sum_17 : decode bb_La_sum 17 = .ok (.ireturn, 1) := by decide +kernel
theorem dd_La_code_0 : decode bb_La_code 0 = .ok (.aload_n 2, 1) := by decide +kernel
theorem dd_La_code_1 : decode bb_La_code 1 = .ok (.iconst 0, 1) := by decide +kernel
theorem dd_La_code_2 : decode bb_La_code 2 = .ok (.aload_n 0, 1) := by decide +kernel
theorem dd_La_code_3 : decode bb_La_code 3 = .ok (.iload_n 1, 1) := by decide +kernel
theorem dd_La_code_4 : decode bb_La_code 4 = .ok (.invokevirtual 29, 3) := by decide +kernel
theorem dd_La_code_7 : decode bb_La_code 7 = .ok (.lastore, 1) := by decide +kernel
theorem dd_La_code_8 : decode bb_La_code 8 = .ok (.goto 6, 3) := by decide +kernel
theorem dd_La_code_11 : decode bb_La_code 11 = .ok (.astore_n 3, 1) := by decide +kernel
theorem dd_La_code_12 : decode bb_La_code 12 = .ok (.iconst 1, 1) := by decide +kernel
theorem dd_La_code_13 : decode bb_La_code 13 = .ok (.ireturn, 1) := by decide +kernel
theorem dd_La_code_14 : decode bb_La_code 14 = .ok (.iconst 0, 1) := by decide +kernel
theorem dd_La_code_15 : decode bb_La_code 15 = .ok (.ireturn, 1) := by decide +kernel
theorem dd_La_feed_0 : decode bb_La_feed 0 = .ok (.aload 4, 2) := by decide +kernel
theorem dd_La_feed_2 : decode bb_La_feed 2 = .ok (.iconst 0, 1) := by decide +kernel
theorem dd_La_feed_3 : decode bb_La_feed 3 = .ok (.aload_n 0, 1) := by decide +kernel
theorem dd_La_feed_4 : decode bb_La_feed 4 = .ok (.lload_n 1, 1) := by decide +kernel
theorem dd_La_feed_5 : decode bb_La_feed 5 = .ok (.iload_n 3, 1) := by decide +kernel
theorem dd_La_feed_6 : decode bb_La_feed 6 = .ok (.invokevirtual 32, 3) := by decide +kernel
theorem dd_La_feed_9 : decode bb_La_feed 9 = .ok (.i2l, 1) := by decide +kernel
theorem dd_La_feed_10 : decode bb_La_feed 10 = .ok (.lastore, 1) := by decide +kernel
theorem dd_La_feed_11 : decode bb_La_feed 11 = .ok (.goto 11, 3) := by decide +kernel
theorem dd_La_feed_14 : decode bb_La_feed 14 = .ok (.astore 5, 2) := by decide +kernel
theorem dd_La_feed_16 : decode bb_La_feed 16 = .ok (.iconst 1, 1) := by decide +kernel
theorem dd_La_feed_17 : decode bb_La_feed 17 = .ok (.ireturn, 1) := by decide +kernel
theorem dd_La_feed_18 : decode bb_La_feed 18 = .ok (.astore 5, 2) := by decide +kernel
theorem dd_La_feed_20 : decode bb_La_feed 20 = .ok (.iconst 2, 1) := by decide +kernel
theorem dd_La_feed_21 : decode bb_La_feed 21 = .ok (.ireturn, 1) := by decide +kernel
theorem dd_La_feed_22 : decode bb_La_feed 22 = .ok (.iconst 0, 1) := by decide +kernel
theorem dd_La_feed_23 : decode bb_La_feed 23 = .ok (.ireturn, 1) := by decide +kernel
theorem dd_La_decode_0 : decode bb_La_decode 0 = .ok (.aload_n 1, 1) := by decide +kernel
theorem dd_La_decode_1 : decode bb_La_decode 1 = .ok (.iconst 0, 1) := by decide +kernel
theorem dd_La_decode_2 : decode bb_La_decode 2 = .ok (.aload_n 0, 1) := by decide +kernel
theorem dd_La_decode_3 : decode bb_La_decode 3 = .ok (.invokevirtual 38, 3) := by decide +kernel
theorem dd_La_decode_6 : decode bb_La_decode 6 = .ok (.i2l, 1) := by decide +kernel
theorem dd_La_decode_7 : decode bb_La_decode 7 = .ok (.lastore, 1) := by decide +kernel
theorem dd_La_decode_8 : decode bb_La_decode 8 = .ok (.goto 6, 3) := by decide +kernel
theorem dd_La_decode_11 : decode bb_La_decode 11 = .ok (.astore_n 2, 1) := by decide +kernel
theorem dd_La_decode_12 : decode bb_La_decode 12 = .ok (.iconst 1, 1) := by decide +kernel
theorem dd_La_decode_13 : decode bb_La_decode 13 = .ok (.ireturn, 1) := by decide +kernel
theorem dd_La_decode_14 : decode bb_La_decode 14 = .ok (.iconst 0, 1) := by decide +kernel
theorem dd_La_decode_15 : decode bb_La_decode 15 = .ok (.ireturn, 1) := by decide +kernel
theorem dd_La_count_0 : decode bb_La_count 0 = .ok (.aload_n 2, 1) := by decide +kernel
theorem dd_La_count_1 : decode bb_La_count 1 = .ok (.iconst 0, 1) := by decide +kernel
theorem dd_La_count_2 : decode bb_La_count 2 = .ok (.aload_n 0, 1) := by decide +kernel
theorem dd_La_count_3 : decode bb_La_count 3 = .ok (.iload_n 1, 1) := by decide +kernel
theorem dd_La_count_4 : decode bb_La_count 4 = .ok (.invokevirtual 42, 3) := by decide +kernel
theorem dd_La_count_7 : decode bb_La_count 7 = .ok (.i2l, 1) := by decide +kernel
theorem dd_La_count_8 : decode bb_La_count 8 = .ok (.lastore, 1) := by decide +kernel
theorem dd_La_count_9 : decode bb_La_count 9 = .ok (.goto 6, 3) := by decide +kernel
theorem dd_La_count_12 : decode bb_La_count 12 = .ok (.astore_n 3, 1) := by decide +kernel
theorem dd_La_count_13 : decode bb_La_count 13 = .ok (.iconst 1, 1) := by decide +kernel
theorem dd_La_count_14 : decode bb_La_count 14 = .ok (.ireturn, 1) := by decide +kernel
theorem dd_La_count_15 : decode bb_La_count 15 = .ok (.iconst 0, 1) := by decide +kernel
theorem dd_La_count_16 : decode bb_La_count 16 = .ok (.ireturn, 1) := by decide +kernel
end
section
/-! instructions -/
theorem dd_La_law_0 : decode bb_La_law 0 = .ok (.new 8, 3) := by decide +kernel
theorem dd_La_law_3 : decode bb_La_law 3 = .ok (.dup, 1) := by decide +kernel
theorem dd_La_law_4 : decode bb_La_law 4 = .ok (.invokespecial 46, 3) := by decide +kernel
theorem dd_La_law_7 : decode bb_La_law 7 = .ok (.astore_n 1, 1) := by decide +kernel
theorem dd_La_law_8 : decode bb_La_law 8 = .ok (.new 47, 3) := by decide +kernel
theorem dd_La_law_11 : decode bb_La_law 11 = .ok (.dup, 1) := by decide +kernel
theorem dd_La_law_12 : decode bb_La_law 12 = .ok (.invokespecial 49, 3) := by decide +kernel
theorem dd_La_law_15 : decode bb_La_law 15 = .ok (.astore_n 2, 1) := by decide +kernel
theorem dd_La_law_16 : decode bb_La_law 16 = .ok (.iconst 1, 1) := by decide +kernel
theorem dd_La_law_17 : decode bb_La_law 17 = .ok (.newarray .long, 2) := by decide +kernel
theorem dd_La_law_19 : decode bb_La_law 19 = .ok (.astore_n 3, 1) := by decide +kernel
theorem dd_La_law_20 : decode bb_La_law 20 = .ok (.iconst 0, 1) := by decide +kernel
theorem dd_La_law_21 : decode bb_La_law 21 = .ok (.istore 4, 2) := by decide +kernel
theorem dd_La_law_23 : decode bb_La_law 23 = .ok (.iload 4, 2) := by decide +kernel
theorem dd_La_law_25 : decode bb_La_law 25 = .ok (.aload_n 0, 1) := by decide +kernel
theorem dd_La_law_26 : decode bb_La_law 26 = .ok (.arraylength, 1) := by decide +kernel
theorem dd_La_law_27 : decode bb_La_law 27 = .ok (.iconst 4, 1) := by decide +kernel
theorem dd_La_law_28 : decode bb_La_law 28 = .ok (.isub, 1) := by decide +kernel
theorem dd_La_law_29 : decode bb_La_law 29 = .ok (.if_icmp .gt 600, 3) := by decide +kernel
theorem dd_La_law_32 : decode bb_La_law 32 = .ok (.aload_n 0, 1) := by decide +kernel
theorem dd_La_law_33 : decode bb_La_law 33 = .ok (.iload 4, 2) := by decide +kernel
theorem dd_La_law_35 : decode bb_La_law 35 = .ok (.iaload, 1) := by decide +kernel
theorem dd_La_law_36 : decode bb_La_law 36 = .ok (.bipush 15, 2) := by decide +kernel
theorem dd_La_law_38 : decode bb_La_law 38 = .ok (.iand, 1) := by decide +kernel
theorem dd_La_law_39 : decode bb_La_law 39 = .ok (.tableswitch 584 0 9 #[53, 133, 181, 236, 303, 316, 371, 471, 515, 528], 53) := by decide +kernel
theorem dd_La_law_92 : decode bb_La_law 92 = .ok (.aload_n 1, 1) := by decide +kernel
theorem dd_La_law_93 : decode bb_La_law 93 = .ok (.aload_n 0, 1) := by decide +kernel
theorem dd_La_law_94 : decode bb_La_law 94 = .ok (.iload 4, 2) := by decide +kernel
theorem dd_La_law_96 : decode bb_La_law 96 = .ok (.iconst 1, 1) := by decide +kernel
theorem dd_La_law_97 : decode bb_La_law 97 = .ok (.iadd, 1) := by decide +kernel
theorem dd_La_law_98 : decode bb_La_law 98 = .ok (.iaload, 1) := by decide +kernel
theorem dd_La_law_99 : decode bb_La_law 99 = .ok (.aload_n 0, 1) := by decide +kernel
theorem dd_La_law_100 : decode bb_La_law 100 = .ok (.iload 4, 2) := by decide +kernel
theorem dd_La_law_102 : decode bb_La_law 102 = .ok (.iconst 2, 1) := by decide +kernel
theorem dd_La_law_103 : decode bb_La_law 103 = .ok (.iadd, 1) := by decide +kernel
theorem dd_La_law_104 : decode bb_La_law 104 = .ok (.iaload, 1) := by decide +kernel
theorem dd_La_law_105 : decode bb_La_law 105 = .ok (.i2l, 1) := by decide +kernel
theorem dd_La_law_106 : decode bb_La_law 106 = .ok (.bipush 32, 2) := by decide +kernel
theorem dd_La_law_108 : decode bb_La_law 108 = .ok (.lshl, 1) := by decide +kernel
theorem dd_La_law_109 : decode bb_La_law 109 = .ok (.aload_n 0, 1) := by decide +kernel
theorem dd_La_law_110 : decode bb_La_law 110 = .ok (.iload 4, 2) := by decide +kernel
theorem dd_La_law_112 : decode bb_La_law 112 = .ok (.iconst 3, 1) := by decide +kernel
theorem dd_La_law_113 : decode bb_La_law 113 = .ok (.iadd, 1) := by decide +kernel
theorem dd_La_law_114 : decode bb_La_law 114 = .ok (.iaload, 1) := by decide +kernel
theorem dd_La_law_115 : decode bb_La_law 115 = .ok (.i2l, 1) := by decide +kernel
theorem dd_La_law_116 : decode bb_La_law 116 = .ok (.ldc2_w 50, 3) := by decide +kernel
theorem dd_La_law_119 : decode bb_La_law 119 = .ok (.land, 1) := by decide +kernel
theorem dd_La_law_120 : decode bb_La_law 120 = .ok (.lor, 1) := by decide +kernel
theorem dd_La_law_121 : decode bb_La_law 121 = .ok (.invokestatic 52, 3) := by decide +kernel
theorem dd_La_law_124 : decode bb_La_law 124 = .ok (.istore 5, 2) := by decide +kernel
theorem dd_La_law_126 : decode bb_La_law 126 = .ok (.aload_n 2, 1) := by decide +kernel
theorem dd_La_law_127 : decode bb_La_law 127 = .ok (.aload_n 0, 1) := by decide +kernel
theorem dd_La_law_128 : decode bb_La_law 128 = .ok (.iload 4, 2) := by decide +kernel
theorem dd_La_law_130 : decode bb_La_law 130 = .ok (.iconst 1, 1) := by decide +kernel
theorem dd_La_law_131 : decode bb_La_law 131 = .ok (.iadd, 1) := by decide +kernel
theorem dd_La_law_132 : decode bb_La_law 132 = .ok (.iaload, 1) := by decide +kernel
theorem dd_La_law_133 : decode bb_La_law 133 = .ok (.aload_n 0, 1) := by decide +kernel
theorem dd_La_law_134 : decode bb_La_law 134 = .ok (.iload 4, 2) := by decide +kernel
theorem dd_La_law_136 : decode bb_La_law 136 = .ok (.iconst 2, 1) := by decide +kernel
theorem dd_La_law_137 : decode bb_La_law 137 = .ok (.iadd, 1) := by decide +kernel
theorem dd_La_law_138 : decode bb_La_law 138 = .ok (.iaload, 1) := by decide +kernel
theorem dd_La_law_139 : decode bb_La_law 139 = .ok (.i2l, 1) := by decide +kernel
theorem dd_La_law_140 : decode bb_La_law 140 = .ok (.bipush 32, 2) := by decide +kernel
theorem dd_La_law_142 : decode bb_La_law 142 = .ok (.lshl, 1) := by decide +kernel
theorem dd_La_law_143 : decode bb_La_law 143 = .ok (.aload_n 0, 1) := by decide +kernel
theorem dd_La_law_144 : decode bb_La_law 144 = .ok (.iload 4, 2) := by decide +kernel
theorem dd_La_law_146 : decode bb_La_law 146 = .ok (.iconst 3, 1) := by decide +kernel
theorem dd_La_law_147 : decode bb_La_law 147 = .ok (.iadd, 1) := by decide +kernel
theorem dd_La_law_148 : decode bb_La_law 148 = .ok (.iaload, 1) := by decide +kernel
theorem dd_La_law_149 : decode bb_La_law 149 = .ok (.i2l, 1) := by decide +kernel
theorem dd_La_law_150 : decode bb_La_law 150 = .ok (.ldc2_w 50, 3) := by decide +kernel
theorem dd_La_law_153 : decode bb_La_law 153 = .ok (.land, 1) := by decide +kernel
theorem dd_La_law_154 : decode bb_La_law 154 = .ok (.lor, 1) := by decide +kernel
theorem dd_La_law_155 : decode bb_La_law 155 = .ok (.invokevirtual 57, 3) := by decide +kernel
theorem dd_La_law_158 : decode bb_La_law 158 = .ok (.aload_n 2, 1) := by decide +kernel
theorem dd_La_law_159 : decode bb_La_law 159 = .ok (.invokevirtual 58, 3) := by decide +kernel
theorem dd_La_law_162 : decode bb_La_law 162 = .ok (.iload 5, 2) := by decide +kernel
theorem dd_La_law_164 : decode bb_La_law 164 = .ok (.if_icmp .eq 5, 3) := by decide +kernel
theorem dd_La_law_167 : decode bb_La_law 167 = .ok (.iconst 0, 1) := by decide +kernel
theorem dd_La_law_168 : decode bb_La_law 168 = .ok (.ireturn, 1) := by decide +kernel
theorem dd_La_law_169 : decode bb_La_law 169 = .ok (.goto 454, 3) := by decide +kernel
theorem dd_La_law_172 : decode bb_La_law 172 = .ok (.aload_n 1, 1) := by decide +kernel
theorem dd_La_law_173 : decode bb_La_law 173 = .ok (.aload_n 0, 1) := by decide +kernel
theorem dd_La_law_174 : decode bb_La_law 174 = .ok (.iload 4, 2) := by decide +kernel
theorem dd_La_law_176 : decode bb_La_law 176 = .ok (.iconst 1, 1) := by decide +kernel
theorem dd_La_law_177 : decode bb_La_law 177 = .ok (.iadd, 1) := by decide +kernel
theorem dd_La_law_178 : decode bb_La_law 178 = .ok (.iaload, 1) := by decide +kernel
theorem dd_La_law_179 : decode bb_La_law 179 = .ok (.aload_n 0, 1) := by decide +kernel
theorem dd_La_law_180 : decode bb_La_law 180 = .ok (.iload 4, 2) := by decide +kernel
theorem dd_La_law_182 : decode bb_La_law 182 = .ok (.iconst 2, 1) := by decide +kernel
theorem dd_La_law_183 : decode bb_La_law 183 = .ok (.iadd, 1) := by decide +kernel
theorem dd_La_law_184 : decode bb_La_law 184 = .ok (.iaload, 1) := by decide +kernel
theorem dd_La_law_185 : decode bb_La_law 185 = .ok (.invokestatic 61, 3) := by decide +kernel
theorem dd_La_law_188 : decode bb_La_law 188 = .ok (.istore 5, 2) := by decide +kernel
theorem dd_La_law_190 : decode bb_La_law 190 = .ok (.aload_n 2, 1) := by decide +kernel
theorem dd_La_law_191 : decode bb_La_law 191 = .ok (.aload_n 0, 1) := by decide +kernel
theorem dd_La_law_192 : decode bb_La_law 192 = .ok (.iload 4, 2) := by decide +kernel
theorem dd_La_law_194 : decode bb_La_law 194 = .ok (.iconst 1, 1) := by decide +kernel
theorem dd_La_law_195 : decode bb_La_law 195 = .ok (.iadd, 1) := by decide +kernel
theorem dd_La_law_196 : decode bb_La_law 196 = .ok (.iaload, 1) := by decide +kernel
theorem dd_La_law_197 : decode bb_La_law 197 = .ok (.aload_n 0, 1) := by decide +kernel
theorem dd_La_law_198 : decode bb_La_law 198 = .ok (.iload 4, 2) := by decide +kernel
theorem dd_La_law_200 : decode bb_La_law 200 = .ok (.iconst 2, 1) := by decide +kernel
theorem dd_La_law_201 : decode bb_La_law 201 = .ok (.iadd, 1) := by decide +kernel
theorem dd_La_law_202 : decode bb_La_law 202 = .ok (.iaload, 1) := by decide +kernel
theorem dd_La_law_203 : decode bb_La_law 203 = .ok (.invokevirtual 64, 3) := by decide +kernel
theorem dd_La_law_206 : decode bb_La_law 206 = .ok (.aload_n 2, 1) := by decide +kernel
theorem dd_La_law_207 : decode bb_La_law 207 = .ok (.invokevirtual 58, 3) := by decide +kernel
theorem dd_La_law_210 : decode bb_La_law 210 = .ok (.iload 5, 2) := by decide +kernel
theorem dd_La_law_212 : decode bb_La_law 212 = .ok (.if_icmp .eq 5, 3) := by decide +kernel
theorem dd_La_law_215 : decode bb_La_law 215 = .ok (.iconst 0, 1) := by decide +kernel
theorem dd_La_law_216 : decode bb_La_law 216 = .ok (.ireturn, 1) := by decide +kernel
theorem dd_La_law_217 : decode bb_La_law 217 = .ok (.goto 406, 3) := by decide +kernel
theorem dd_La_law_220 : decode bb_La_law 220 = .ok (.aload_n 1, 1) := by decide +kernel
theorem dd_La_law_221 : decode bb_La_law 221 = .ok (.aload_n 0, 1) := by decide +kernel
theorem dd_La_law_222 : decode bb_La_law 222 = .ok (.iload 4, 2) := by decide +kernel
theorem dd_La_law_224 : decode bb_La_law 224 = .ok (.iconst 1, 1) := by decide +kernel
theorem dd_La_law_225 : decode bb_La_law 225 = .ok (.iadd, 1) := by decide +kernel
theorem dd_La_law_226 : decode bb_La_law 226 = .ok (.iaload, 1) := by decide +kernel
theorem dd_La_law_227 : decode bb_La_law 227 = .ok (.aload_n 3, 1) := by decide +kernel
theorem dd_La_law_228 : decode bb_La_law 228 = .ok (.invokestatic 65, 3) := by decide +kernel
theorem dd_La_law_231 : decode bb_La_law 231 = .ok (.istore 5, 2) := by decide +kernel
theorem dd_La_law_233 : decode bb_La_law 233 = .ok (.aload_n 2, 1) := by decide +kernel
theorem dd_La_law_234 : decode bb_La_law 234 = .ok (.aload_n 0, 1) := by decide +kernel
theorem dd_La_law_235 : decode bb_La_law 235 = .ok (.iload 4, 2) := by decide +kernel
theorem dd_La_law_237 : decode bb_La_law 237 = .ok (.iconst 1, 1) := by decide +kernel
theorem dd_La_law_238 : decode bb_La_law 238 = .ok (.iadd, 1) := by decide +kernel
theorem dd_La_law_239 : decode bb_La_law 239 = .ok (.iaload, 1) := by decide +kernel
theorem dd_La_law_240 : decode bb_La_law 240 = .ok (.invokevirtual 68, 3) := by decide +kernel
theorem dd_La_law_243 : decode bb_La_law 243 = .ok (.lstore 6, 2) := by decide +kernel
theorem dd_La_law_245 : decode bb_La_law 245 = .ok (.aload_n 2, 1) := by decide +kernel
theorem dd_La_law_246 : decode bb_La_law 246 = .ok (.invokevirtual 58, 3) := by decide +kernel
theorem dd_La_law_249 : decode bb_La_law 249 = .ok (.iload 5, 2) := by decide +kernel
theorem dd_La_law_251 : decode bb_La_law 251 = .ok (.if_icmp .eq 5, 3) := by decide +kernel
theorem dd_La_law_254 : decode bb_La_law 254 = .ok (.iconst 0, 1) := by decide +kernel
theorem dd_La_law_255 : decode bb_La_law 255 = .ok (.ireturn, 1) := by decide +kernel
theorem dd_La_law_256 : decode bb_La_law 256 = .ok (.iload 5, 2) := by decide +kernel
theorem dd_La_law_258 : decode bb_La_law 258 = .ok (.ifCond .ne 14, 3) := by decide +kernel
theorem dd_La_law_261 : decode bb_La_law 261 = .ok (.aload_n 3, 1) := by decide +kernel
theorem dd_La_law_262 : decode bb_La_law 262 = .ok (.iconst 0, 1) := by decide +kernel
theorem dd_La_law_263 : decode bb_La_law 263 = .ok (.laload, 1) := by decide +kernel
theorem dd_La_law_264 : decode bb_La_law 264 = .ok (.lload 6, 2) := by decide +kernel
theorem dd_La_law_266 : decode bb_La_law 266 = .ok (.lcmp, 1) := by decide +kernel
theorem dd_La_law_267 : decode bb_La_law 267 = .ok (.ifCond .eq 5, 3) := by decide +kernel
theorem dd_La_law_270 : decode bb_La_law 270 = .ok (.iconst 0, 1) := by decide +kernel
theorem dd_La_law_271 : decode bb_La_law 271 = .ok (.ireturn, 1) := by decide +kernel
theorem dd_La_law_272 : decode bb_La_law 272 = .ok (.goto 351, 3) := by decide +kernel
theorem dd_La_law_275 : decode bb_La_law 275 = .ok (.aload_n 1, 1) := by decide +kernel
theorem dd_La_law_276 : decode bb_La_law 276 = .ok (.aload_n 0, 1) := by decide +kernel
theorem dd_La_law_277 : decode bb_La_law 277 = .ok (.iload 4, 2) := by decide +kernel
theorem dd_La_law_279 : decode bb_La_law 279 = .ok (.iconst 1, 1) := by decide +kernel
theorem dd_La_law_280 : decode bb_La_law 280 = .ok (.iadd, 1) := by decide +kernel
theorem dd_La_law_281 : decode bb_La_law 281 = .ok (.iaload, 1) := by decide +kernel
theorem dd_La_law_282 : decode bb_La_law 282 = .ok (.aload_n 0, 1) := by decide +kernel
theorem dd_La_law_283 : decode bb_La_law 283 = .ok (.iload 4, 2) := by decide +kernel
theorem dd_La_law_285 : decode bb_La_law 285 = .ok (.iconst 2, 1) := by decide +kernel
theorem dd_La_law_286 : decode bb_La_law 286 = .ok (.iadd, 1) := by decide +kernel
theorem dd_La_law_287 : decode bb_La_law 287 = .ok (.iaload, 1) := by decide +kernel
theorem dd_La_law_288 : decode bb_La_law 288 = .ok (.aload_n 3, 1) := by decide +kernel
theorem dd_La_law_289 : decode bb_La_law 289 = .ok (.invokestatic 69, 3) := by decide +kernel
theorem dd_La_law_292 : decode bb_La_law 292 = .ok (.istore 5, 2) := by decide +kernel
theorem dd_La_law_294 : decode bb_La_law 294 = .ok (.aload_n 2, 1) := by decide +kernel
theorem dd_La_law_295 : decode bb_La_law 295 = .ok (.aload_n 0, 1) := by decide +kernel
theorem dd_La_law_296 : decode bb_La_law 296 = .ok (.iload 4, 2) := by decide +kernel
theorem dd_La_law_298 : decode bb_La_law 298 = .ok (.iconst 1, 1) := by decide +kernel
theorem dd_La_law_299 : decode bb_La_law 299 = .ok (.iadd, 1) := by decide +kernel
theorem dd_La_law_300 : decode bb_La_law 300 = .ok (.iaload, 1) := by decide +kernel
theorem dd_La_law_301 : decode bb_La_law 301 = .ok (.aload_n 0, 1) := by decide +kernel
theorem dd_La_law_302 : decode bb_La_law 302 = .ok (.iload 4, 2) := by decide +kernel
theorem dd_La_law_304 : decode bb_La_law 304 = .ok (.iconst 2, 1) := by decide +kernel
theorem dd_La_law_305 : decode bb_La_law 305 = .ok (.iadd, 1) := by decide +kernel
theorem dd_La_law_306 : decode bb_La_law 306 = .ok (.iaload, 1) := by decide +kernel
theorem dd_La_law_307 : decode bb_La_law 307 = .ok (.invokevirtual 72, 3) := by decide +kernel
theorem dd_La_law_310 : decode bb_La_law 310 = .ok (.lstore 6, 2) := by decide +kernel
theorem dd_La_law_312 : decode bb_La_law 312 = .ok (.aload_n 2, 1) := by decide +kernel
theorem dd_La_law_313 : decode bb_La_law 313 = .ok (.invokevirtual 58, 3) := by decide +kernel
theorem dd_La_law_316 : decode bb_La_law 316 = .ok (.iload 5, 2) := by decide +kernel
theorem dd_La_law_318 : decode bb_La_law 318 = .ok (.if_icmp .eq 5, 3) := by decide +kernel
theorem dd_La_law_321 : decode bb_La_law 321 = .ok (.iconst 0, 1) := by decide +kernel
theorem dd_La_law_322 : decode bb_La_law 322 = .ok (.ireturn, 1) := by decide +kernel
theorem dd_La_law_323 : decode bb_La_law 323 = .ok (.iload 5, 2) := by decide +kernel
theorem dd_La_law_325 : decode bb_La_law 325 = .ok (.ifCond .ne 14, 3) := by decide +kernel
theorem dd_La_law_328 : decode bb_La_law 328 = .ok (.aload_n 3, 1) := by decide +kernel
theorem dd_La_law_329 : decode bb_La_law 329 = .ok (.iconst 0, 1) := by decide +kernel
theorem dd_La_law_330 : decode bb_La_law 330 = .ok (.laload, 1) := by decide +kernel
theorem dd_La_law_331 : decode bb_La_law 331 = .ok (.lload 6, 2) := by decide +kernel
end
section
/-! instructions -/
theorem dd_La_law_333 : decode bb_La_law 333 = .ok (.lcmp, 1) := by decide +kernel
theorem dd_La_law_334 : decode bb_La_law 334 = .ok (.ifCond .eq 5, 3) := by decide +kernel
theorem dd_La_law_337 : decode bb_La_law 337 = .ok (.iconst 0, 1) := by decide +kernel
theorem dd_La_law_338 : decode bb_La_law 338 = .ok (.ireturn, 1) := by decide +kernel
theorem dd_La_law_339 : decode bb_La_law 339 = .ok (.goto 284, 3) := by decide +kernel
theorem dd_La_law_342 : decode bb_La_law 342 = .ok (.aload_n 1, 1) := by decide +kernel
theorem dd_La_law_343 : decode bb_La_law 343 = .ok (.invokevirtual 73, 3) := by decide +kernel
theorem dd_La_law_346 : decode bb_La_law 346 = .ok (.aload_n 2, 1) := by decide +kernel
theorem dd_La_law_347 : decode bb_La_law 347 = .ok (.invokevirtual 76, 3) := by decide +kernel
theorem dd_La_law_350 : decode bb_La_law 350 = .ok (.if_icmp .eq 273, 3) := by decide +kernel
theorem dd_La_law_353 : decode bb_La_law 353 = .ok (.iconst 0, 1) := by decide +kernel
theorem dd_La_law_354 : decode bb_La_law 354 = .ok (.ireturn, 1) := by decide +kernel
theorem dd_La_law_355 : decode bb_La_law 355 = .ok (.aload_n 1, 1) := by decide +kernel
theorem dd_La_law_356 : decode bb_La_law 356 = .ok (.aload_n 0, 1) := by decide +kernel
theorem dd_La_law_357 : decode bb_La_law 357 = .ok (.iload 4, 2) := by decide +kernel
theorem dd_La_law_359 : decode bb_La_law 359 = .ok (.iconst 1, 1) := by decide +kernel
theorem dd_La_law_360 : decode bb_La_law 360 = .ok (.iadd, 1) := by decide +kernel
theorem dd_La_law_361 : decode bb_La_law 361 = .ok (.iaload, 1) := by decide +kernel
theorem dd_La_law_362 : decode bb_La_law 362 = .ok (.aload_n 3, 1) := by decide +kernel
theorem dd_La_law_363 : decode bb_La_law 363 = .ok (.invokestatic 77, 3) := by decide +kernel
theorem dd_La_law_366 : decode bb_La_law 366 = .ok (.istore 5, 2) := by decide +kernel
theorem dd_La_law_368 : decode bb_La_law 368 = .ok (.aload_n 2, 1) := by decide +kernel
theorem dd_La_law_369 : decode bb_La_law 369 = .ok (.aload_n 0, 1) := by decide +kernel
theorem dd_La_law_370 : decode bb_La_law 370 = .ok (.iload 4, 2) := by decide +kernel
theorem dd_La_law_372 : decode bb_La_law 372 = .ok (.iconst 1, 1) := by decide +kernel
theorem dd_La_law_373 : decode bb_La_law 373 = .ok (.iadd, 1) := by decide +kernel
theorem dd_La_law_374 : decode bb_La_law 374 = .ok (.iaload, 1) := by decide +kernel
theorem dd_La_law_375 : decode bb_La_law 375 = .ok (.invokevirtual 79, 3) := by decide +kernel
theorem dd_La_law_378 : decode bb_La_law 378 = .ok (.lstore 6, 2) := by decide +kernel
theorem dd_La_law_380 : decode bb_La_law 380 = .ok (.aload_n 2, 1) := by decide +kernel
theorem dd_La_law_381 : decode bb_La_law 381 = .ok (.invokevirtual 58, 3) := by decide +kernel
theorem dd_La_law_384 : decode bb_La_law 384 = .ok (.iload 5, 2) := by decide +kernel
theorem dd_La_law_386 : decode bb_La_law 386 = .ok (.if_icmp .eq 5, 3) := by decide +kernel
theorem dd_La_law_389 : decode bb_La_law 389 = .ok (.iconst 0, 1) := by decide +kernel
theorem dd_La_law_390 : decode bb_La_law 390 = .ok (.ireturn, 1) := by decide +kernel
theorem dd_La_law_391 : decode bb_La_law 391 = .ok (.iload 5, 2) := by decide +kernel
theorem dd_La_law_393 : decode bb_La_law 393 = .ok (.ifCond .ne 14, 3) := by decide +kernel
theorem dd_La_law_396 : decode bb_La_law 396 = .ok (.aload_n 3, 1) := by decide +kernel
theorem dd_La_law_397 : decode bb_La_law 397 = .ok (.iconst 0, 1) := by decide +kernel
theorem dd_La_law_398 : decode bb_La_law 398 = .ok (.laload, 1) := by decide +kernel
theorem dd_La_law_399 : decode bb_La_law 399 = .ok (.lload 6, 2) := by decide +kernel
theorem dd_La_law_401 : decode bb_La_law 401 = .ok (.lcmp, 1) := by decide +kernel
theorem dd_La_law_402 : decode bb_La_law 402 = .ok (.ifCond .eq 5, 3) := by decide +kernel
theorem dd_La_law_405 : decode bb_La_law 405 = .ok (.iconst 0, 1) := by decide +kernel
theorem dd_La_law_406 : decode bb_La_law 406 = .ok (.ireturn, 1) := by decide +kernel
theorem dd_La_law_407 : decode bb_La_law 407 = .ok (.goto 216, 3) := by decide +kernel
theorem dd_La_law_410 : decode bb_La_law 410 = .ok (.aload_n 1, 1) := by decide +kernel
theorem dd_La_law_411 : decode bb_La_law 411 = .ok (.aload_n 0, 1) := by decide +kernel
theorem dd_La_law_412 : decode bb_La_law 412 = .ok (.iload 4, 2) := by decide +kernel
theorem dd_La_law_414 : decode bb_La_law 414 = .ok (.iconst 1, 1) := by decide +kernel
theorem dd_La_law_415 : decode bb_La_law 415 = .ok (.iadd, 1) := by decide +kernel
theorem dd_La_law_416 : decode bb_La_law 416 = .ok (.iaload, 1) := by decide +kernel
theorem dd_La_law_417 : decode bb_La_law 417 = .ok (.i2l, 1) := by decide +kernel
theorem dd_La_law_418 : decode bb_La_law 418 = .ok (.bipush 32, 2) := by decide +kernel
theorem dd_La_law_420 : decode bb_La_law 420 = .ok (.lshl, 1) := by decide +kernel
theorem dd_La_law_421 : decode bb_La_law 421 = .ok (.aload_n 0, 1) := by decide +kernel
theorem dd_La_law_422 : decode bb_La_law 422 = .ok (.iload 4, 2) := by decide +kernel
theorem dd_La_law_424 : decode bb_La_law 424 = .ok (.iconst 2, 1) := by decide +kernel
theorem dd_La_law_425 : decode bb_La_law 425 = .ok (.iadd, 1) := by decide +kernel
theorem dd_La_law_426 : decode bb_La_law 426 = .ok (.iaload, 1) := by decide +kernel
theorem dd_La_law_427 : decode bb_La_law 427 = .ok (.i2l, 1) := by decide +kernel
theorem dd_La_law_428 : decode bb_La_law 428 = .ok (.ldc2_w 50, 3) := by decide +kernel
theorem dd_La_law_431 : decode bb_La_law 431 = .ok (.land, 1) := by decide +kernel
theorem dd_La_law_432 : decode bb_La_law 432 = .ok (.lor, 1) := by decide +kernel
theorem dd_La_law_433 : decode bb_La_law 433 = .ok (.aload_n 0, 1) := by decide +kernel
theorem dd_La_law_434 : decode bb_La_law 434 = .ok (.iload 4, 2) := by decide +kernel
theorem dd_La_law_436 : decode bb_La_law 436 = .ok (.iconst 3, 1) := by decide +kernel
theorem dd_La_law_437 : decode bb_La_law 437 = .ok (.iadd, 1) := by decide +kernel
theorem dd_La_law_438 : decode bb_La_law 438 = .ok (.iaload, 1) := by decide +kernel
theorem dd_La_law_439 : decode bb_La_law 439 = .ok (.aload_n 3, 1) := by decide +kernel
theorem dd_La_law_440 : decode bb_La_law 440 = .ok (.invokestatic 80, 3) := by decide +kernel
theorem dd_La_law_443 : decode bb_La_law 443 = .ok (.istore 5, 2) := by decide +kernel
theorem dd_La_law_445 : decode bb_La_law 445 = .ok (.aload_n 2, 1) := by decide +kernel
theorem dd_La_law_446 : decode bb_La_law 446 = .ok (.aload_n 0, 1) := by decide +kernel
theorem dd_La_law_447 : decode bb_La_law 447 = .ok (.iload 4, 2) := by decide +kernel
theorem dd_La_law_449 : decode bb_La_law 449 = .ok (.iconst 1, 1) := by decide +kernel
theorem dd_La_law_450 : decode bb_La_law 450 = .ok (.iadd, 1) := by decide +kernel
theorem dd_La_law_451 : decode bb_La_law 451 = .ok (.iaload, 1) := by decide +kernel
theorem dd_La_law_452 : decode bb_La_law 452 = .ok (.i2l, 1) := by decide +kernel
theorem dd_La_law_453 : decode bb_La_law 453 = .ok (.bipush 32, 2) := by decide +kernel
theorem dd_La_law_455 : decode bb_La_law 455 = .ok (.lshl, 1) := by decide +kernel
theorem dd_La_law_456 : decode bb_La_law 456 = .ok (.aload_n 0, 1) := by decide +kernel
theorem dd_La_law_457 : decode bb_La_law 457 = .ok (.iload 4, 2) := by decide +kernel
theorem dd_La_law_459 : decode bb_La_law 459 = .ok (.iconst 2, 1) := by decide +kernel
theorem dd_La_law_460 : decode bb_La_law 460 = .ok (.iadd, 1) := by decide +kernel
theorem dd_La_law_461 : decode bb_La_law 461 = .ok (.iaload, 1) := by decide +kernel
theorem dd_La_law_462 : decode bb_La_law 462 = .ok (.i2l, 1) := by decide +kernel
theorem dd_La_law_463 : decode bb_La_law 463 = .ok (.ldc2_w 50, 3) := by decide +kernel
theorem dd_La_law_466 : decode bb_La_law 466 = .ok (.land, 1) := by decide +kernel
theorem dd_La_law_467 : decode bb_La_law 467 = .ok (.lor, 1) := by decide +kernel
theorem dd_La_law_468 : decode bb_La_law 468 = .ok (.aload_n 0, 1) := by decide +kernel
theorem dd_La_law_469 : decode bb_La_law 469 = .ok (.iload 4, 2) := by decide +kernel
theorem dd_La_law_471 : decode bb_La_law 471 = .ok (.iconst 3, 1) := by decide +kernel
theorem dd_La_law_472 : decode bb_La_law 472 = .ok (.iadd, 1) := by decide +kernel
theorem dd_La_law_473 : decode bb_La_law 473 = .ok (.iaload, 1) := by decide +kernel
theorem dd_La_law_474 : decode bb_La_law 474 = .ok (.invokevirtual 83, 3) := by decide +kernel
theorem dd_La_law_477 : decode bb_La_law 477 = .ok (.istore 6, 2) := by decide +kernel
theorem dd_La_law_479 : decode bb_La_law 479 = .ok (.aload_n 2, 1) := by decide +kernel
theorem dd_La_law_480 : decode bb_La_law 480 = .ok (.invokevirtual 58, 3) := by decide +kernel
theorem dd_La_law_483 : decode bb_La_law 483 = .ok (.iload 5, 2) := by decide +kernel
theorem dd_La_law_485 : decode bb_La_law 485 = .ok (.if_icmp .eq 5, 3) := by decide +kernel
theorem dd_La_law_488 : decode bb_La_law 488 = .ok (.iconst 0, 1) := by decide +kernel
theorem dd_La_law_489 : decode bb_La_law 489 = .ok (.ireturn, 1) := by decide +kernel
theorem dd_La_law_490 : decode bb_La_law 490 = .ok (.iload 5, 2) := by decide +kernel
theorem dd_La_law_492 : decode bb_La_law 492 = .ok (.ifCond .ne 15, 3) := by decide +kernel
theorem dd_La_law_495 : decode bb_La_law 495 = .ok (.aload_n 3, 1) := by decide +kernel
theorem dd_La_law_496 : decode bb_La_law 496 = .ok (.iconst 0, 1) := by decide +kernel
theorem dd_La_law_497 : decode bb_La_law 497 = .ok (.laload, 1) := by decide +kernel
theorem dd_La_law_498 : decode bb_La_law 498 = .ok (.iload 6, 2) := by decide +kernel
theorem dd_La_law_500 : decode bb_La_law 500 = .ok (.i2l, 1) := by decide +kernel
theorem dd_La_law_501 : decode bb_La_law 501 = .ok (.lcmp, 1) := by decide +kernel
theorem dd_La_law_502 : decode bb_La_law 502 = .ok (.ifCond .eq 5, 3) := by decide +kernel
theorem dd_La_law_505 : decode bb_La_law 505 = .ok (.iconst 0, 1) := by decide +kernel
theorem dd_La_law_506 : decode bb_La_law 506 = .ok (.ireturn, 1) := by decide +kernel
theorem dd_La_law_507 : decode bb_La_law 507 = .ok (.goto 116, 3) := by decide +kernel
theorem dd_La_law_510 : decode bb_La_law 510 = .ok (.aload_n 1, 1) := by decide +kernel
theorem dd_La_law_511 : decode bb_La_law 511 = .ok (.aload_n 3, 1) := by decide +kernel
theorem dd_La_law_512 : decode bb_La_law 512 = .ok (.invokestatic 84, 3) := by decide +kernel
theorem dd_La_law_515 : decode bb_La_law 515 = .ok (.istore 5, 2) := by decide +kernel
theorem dd_La_law_517 : decode bb_La_law 517 = .ok (.aload_n 2, 1) := by decide +kernel
theorem dd_La_law_518 : decode bb_La_law 518 = .ok (.invokevirtual 87, 3) := by decide +kernel
theorem dd_La_law_521 : decode bb_La_law 521 = .ok (.istore 6, 2) := by decide +kernel
theorem dd_La_law_523 : decode bb_La_law 523 = .ok (.aload_n 2, 1) := by decide +kernel
theorem dd_La_law_524 : decode bb_La_law 524 = .ok (.invokevirtual 58, 3) := by decide +kernel
theorem dd_La_law_527 : decode bb_La_law 527 = .ok (.iload 5, 2) := by decide +kernel
theorem dd_La_law_529 : decode bb_La_law 529 = .ok (.if_icmp .eq 5, 3) := by decide +kernel
theorem dd_La_law_532 : decode bb_La_law 532 = .ok (.iconst 0, 1) := by decide +kernel
theorem dd_La_law_533 : decode bb_La_law 533 = .ok (.ireturn, 1) := by decide +kernel
theorem dd_La_law_534 : decode bb_La_law 534 = .ok (.iload 5, 2) := by decide +kernel
theorem dd_La_law_536 : decode bb_La_law 536 = .ok (.ifCond .ne 15, 3) := by decide +kernel
theorem dd_La_law_539 : decode bb_La_law 539 = .ok (.aload_n 3, 1) := by decide +kernel
theorem dd_La_law_540 : decode bb_La_law 540 = .ok (.iconst 0, 1) := by decide +kernel
theorem dd_La_law_541 : decode bb_La_law 541 = .ok (.laload, 1) := by decide +kernel
theorem dd_La_law_542 : decode bb_La_law 542 = .ok (.iload 6, 2) := by decide +kernel
theorem dd_La_law_544 : decode bb_La_law 544 = .ok (.i2l, 1) := by decide +kernel
theorem dd_La_law_545 : decode bb_La_law 545 = .ok (.lcmp, 1) := by decide +kernel
theorem dd_La_law_546 : decode bb_La_law 546 = .ok (.ifCond .eq 5, 3) := by decide +kernel
theorem dd_La_law_549 : decode bb_La_law 549 = .ok (.iconst 0, 1) := by decide +kernel
theorem dd_La_law_550 : decode bb_La_law 550 = .ok (.ireturn, 1) := by decide +kernel
theorem dd_La_law_551 : decode bb_La_law 551 = .ok (.goto 72, 3) := by decide +kernel
theorem dd_La_law_554 : decode bb_La_law 554 = .ok (.aload_n 1, 1) := by decide +kernel
theorem dd_La_law_555 : decode bb_La_law 555 = .ok (.invokevirtual 88, 3) := by decide +kernel
theorem dd_La_law_558 : decode bb_La_law 558 = .ok (.aload_n 2, 1) := by decide +kernel
theorem dd_La_law_559 : decode bb_La_law 559 = .ok (.invokevirtual 91, 3) := by decide +kernel
theorem dd_La_law_562 : decode bb_La_law 562 = .ok (.if_icmp .eq 61, 3) := by decide +kernel
theorem dd_La_law_565 : decode bb_La_law 565 = .ok (.iconst 0, 1) := by decide +kernel
theorem dd_La_law_566 : decode bb_La_law 566 = .ok (.ireturn, 1) := by decide +kernel
theorem dd_La_law_567 : decode bb_La_law 567 = .ok (.aload_n 1, 1) := by decide +kernel
theorem dd_La_law_568 : decode bb_La_law 568 = .ok (.aload_n 0, 1) := by decide +kernel
theorem dd_La_law_569 : decode bb_La_law 569 = .ok (.iload 4, 2) := by decide +kernel
theorem dd_La_law_571 : decode bb_La_law 571 = .ok (.iconst 1, 1) := by decide +kernel
theorem dd_La_law_572 : decode bb_La_law 572 = .ok (.iadd, 1) := by decide +kernel
theorem dd_La_law_573 : decode bb_La_law 573 = .ok (.iaload, 1) := by decide +kernel
theorem dd_La_law_574 : decode bb_La_law 574 = .ok (.aload_n 3, 1) := by decide +kernel
theorem dd_La_law_575 : decode bb_La_law 575 = .ok (.invokestatic 92, 3) := by decide +kernel
theorem dd_La_law_578 : decode bb_La_law 578 = .ok (.istore 5, 2) := by decide +kernel
theorem dd_La_law_580 : decode bb_La_law 580 = .ok (.aload_n 2, 1) := by decide +kernel
theorem dd_La_law_581 : decode bb_La_law 581 = .ok (.aload_n 0, 1) := by decide +kernel
theorem dd_La_law_582 : decode bb_La_law 582 = .ok (.iload 4, 2) := by decide +kernel
theorem dd_La_law_584 : decode bb_La_law 584 = .ok (.iconst 1, 1) := by decide +kernel
theorem dd_La_law_585 : decode bb_La_law 585 = .ok (.iadd, 1) := by decide +kernel
theorem dd_La_law_586 : decode bb_La_law 586 = .ok (.iaload, 1) := by decide +kernel
theorem dd_La_law_587 : decode bb_La_law 587 = .ok (.invokevirtual 94, 3) := by decide +kernel
theorem dd_La_law_590 : decode bb_La_law 590 = .ok (.istore 6, 2) := by decide +kernel
theorem dd_La_law_592 : decode bb_La_law 592 = .ok (.aload_n 2, 1) := by decide +kernel
theorem dd_La_law_593 : decode bb_La_law 593 = .ok (.invokevirtual 58, 3) := by decide +kernel
theorem dd_La_law_596 : decode bb_La_law 596 = .ok (.iload 5, 2) := by decide +kernel
theorem dd_La_law_598 : decode bb_La_law 598 = .ok (.if_icmp .eq 5, 3) := by decide +kernel
theorem dd_La_law_601 : decode bb_La_law 601 = .ok (.iconst 0, 1) := by decide +kernel
theorem dd_La_law_602 : decode bb_La_law 602 = .ok (.ireturn, 1) := by decide +kernel
theorem dd_La_law_603 : decode bb_La_law 603 = .ok (.iload 5, 2) := by decide +kernel
theorem dd_La_law_605 : decode bb_La_law 605 = .ok (.ifCond .ne 15, 3) := by decide +kernel
theorem dd_La_law_608 : decode bb_La_law 608 = .ok (.aload_n 3, 1) := by decide +kernel
theorem dd_La_law_609 : decode bb_La_law 609 = .ok (.iconst 0, 1) := by decide +kernel
theorem dd_La_law_610 : decode bb_La_law 610 = .ok (.laload, 1) := by decide +kernel
theorem dd_La_law_611 : decode bb_La_law 611 = .ok (.iload 6, 2) := by decide +kernel
theorem dd_La_law_613 : decode bb_La_law 613 = .ok (.i2l, 1) := by decide +kernel
theorem dd_La_law_614 : decode bb_La_law 614 = .ok (.lcmp, 1) := by decide +kernel
theorem dd_La_law_615 : decode bb_La_law 615 = .ok (.ifCond .eq 5, 3) := by decide +kernel
theorem dd_La_law_618 : decode bb_La_law 618 = .ok (.iconst 0, 1) := by decide +kernel
theorem dd_La_law_619 : decode bb_La_law 619 = .ok (.ireturn, 1) := by decide +kernel
theorem dd_La_law_620 : decode bb_La_law 620 = .ok (.goto 3, 3) := by decide +kernel
theorem dd_La_law_623 : decode bb_La_law 623 = .ok (.iinc 4 4, 3) := by decide +kernel
theorem dd_La_law_626 : decode bb_La_law 626 = .ok (.goto (-603), 3) := by decide +kernel
theorem dd_La_law_629 : decode bb_La_law 629 = .ok (.iconst 1, 1) := by decide +kernel
theorem dd_La_law_630 : decode bb_La_law 630 = .ok (.ireturn, 1) := by decide +kernel
end
section
/-! how many bits are set: Long.bitCount -/
def pc_1 (x : Int64) : Int64 := x - ((x.toUInt64 >>> ((1 : Int32).toInt64.toUInt64 &&& Int64.toUInt64 63)).toInt64 &&& 6148914691236517205)
def pc_2 (x : Int64) : Int64 := (x &&& 3689348814741910323) + ((x.toUInt64 >>> ((2 : Int32).toInt64.toUInt64 &&& Int64.toUInt64 63)).toInt64 &&& 3689348814741910323)
def pc_3 (x : Int64) : Int64 := (x + (x.toUInt64 >>> ((4 : Int32).toInt64.toUInt64 &&& Int64.toUInt64 63)).toInt64) &&& 1085102592571150095
def pc_4 (x : Int64) : Int64 := x + (x.toUInt64 >>> ((8 : Int32).toInt64.toUInt64 &&& Int64.toUInt64 63)).toInt64
def pc_5 (x : Int64) : Int64 := x + (x.toUInt64 >>> ((16 : Int32).toInt64.toUInt64 &&& Int64.toUInt64 63)).toInt64
def pc_6 (x : Int64) : Int64 := x + (x.toUInt64 >>> ((32 : Int32).toInt64.toUInt64 &&& Int64.toUInt64 63)).toInt64
theorem pc_split (a b p q : Nat) (ha : a < 256) (hp : p < 256) : (a + 256 * b) &&& (p + 256 * q) = (a &&& p) + 256 * (b &&& q) := by
  have ha : a < 2 ^ 8 := ha
  have hp : p < 2 ^ 8 := hp
  have e1 : a + 256 * b = 2 ^ 8 * b + a := by omega
  have e2 : p + 256 * q = 2 ^ 8 * q + p := by omega
  have h3 : a &&& p < 2 ^ 8 := Nat.and_lt_two_pow a hp
  have e3 : (a &&& p) + 256 * (b &&& q) = 2 ^ 8 * (b &&& q) + (a &&& p) := by omega
  rw [e1, e2, e3]
  apply Nat.eq_of_testBit_eq
  intro i
  rw [Nat.testBit_and, Nat.testBit_two_pow_mul_add _ ha, Nat.testBit_two_pow_mul_add _ hp, Nat.testBit_two_pow_mul_add _ h3]
  split
  · rw [Nat.testBit_and]
  · rw [Nat.testBit_and]
def pc_rep (m : Nat) : Nat → Nat
  | 0 => 0
  | n + 1 => m + 256 * pc_rep m n
def pf_1 (n x : Nat) : Nat := x - (x / 2 &&& pc_rep 85 n)
def pf_2 (n x : Nat) : Nat := (x &&& pc_rep 51 n) + (x / 4 &&& pc_rep 51 n)
def pf_3 (n x : Nat) : Nat := (x + x / 16) &&& pc_rep 15 n
def pg_1 (c : Nat) : Nat := c - (c / 2 &&& 85)
def pg_2 (c : Nat) : Nat := (c &&& 51) + (c / 4 &&& 51)
def pg_3 (c : Nat) : Nat := (c + c / 16) &&& 15
theorem pd_1 : ∀ c, c < 128 → ∀ b, b < 2 → (c + 128 * b) &&& 85 = c &&& 85 := by decide +kernel
theorem pd_2 : ∀ c, c < 64 → ∀ b, b < 4 → (c + 64 * b) &&& 51 = c &&& 51 := by decide +kernel
theorem pd_3 : ∀ c, c < 256 → (pg_2 (pg_1 c)) + (pg_2 (pg_1 c)) / 16 + 16 * 4 < 256 ∧ pg_2 (pg_1 c) < 256 ∧ pg_1 c < 256 ∧ pg_2 (pg_1 c) % 16 ≤ 4 ∧ pg_2 (pg_1 c) ≤ 68 := by decide +kernel
theorem pr_1 (n c x : Nat) (hc : c < 256) : pf_1 (n + 1) (c + 256 * x) = pg_1 c + 256 * pf_1 n x := by
  have e : (c + 256 * x) / 2 = (c / 2 + 128 * (x % 2)) + 256 * (x / 2) := by omega
  have h1 : (c + 256 * x) / 2 &&& pc_rep 85 (n + 1) = (c / 2 &&& 85) + 256 * (x / 2 &&& pc_rep 85 n) := by
    rw [e]
    show _ &&& (85 + 256 * pc_rep 85 n) = _
    rw [pc_split _ _ _ _ (by omega) (by decide), pd_1 _ (by omega) _ (by omega)]
  have h2 : c / 2 &&& 85 ≤ c / 2 := Nat.and_le_left
  have h3 : x / 2 &&& pc_rep 85 n ≤ x / 2 := Nat.and_le_left
  unfold pf_1 pg_1
  rw [h1]
  omega
theorem pr_2 (n c x : Nat) (hc : c < 256) : pf_2 (n + 1) (c + 256 * x) = pg_2 c + 256 * pf_2 n x := by
  have e : (c + 256 * x) / 4 = (c / 4 + 64 * (x % 4)) + 256 * (x / 4) := by omega
  have h1 : (c + 256 * x) / 4 &&& pc_rep 51 (n + 1) = (c / 4 &&& 51) + 256 * (x / 4 &&& pc_rep 51 n) := by
    rw [e]
    show _ &&& (51 + 256 * pc_rep 51 n) = _
    rw [pc_split _ _ _ _ (by omega) (by decide), pd_2 _ (by omega) _ (by omega)]
  have h2 : (c + 256 * x) &&& pc_rep 51 (n + 1) = (c &&& 51) + 256 * (x &&& pc_rep 51 n) := by
    show _ &&& (51 + 256 * pc_rep 51 n) = _
    rw [pc_split _ _ _ _ hc (by decide)]
  unfold pf_2 pg_2
  rw [h1, h2]
  omega
theorem pr_3 (n c x : Nat) (hc : c ≤ 68) (hx : x % 16 ≤ 4) : pf_3 (n + 1) (c + 256 * x) = pg_3 c + 256 * pf_3 n x := by
  have e : (c + 256 * x) + (c + 256 * x) / 16 = (c + c / 16 + 16 * (x % 16)) + 256 * (x + x / 16) := by omega
  have h0 : ∀ y, y &&& 15 = y % 16 := fun y => Nat.and_two_pow_sub_one_eq_mod y 4
  unfold pf_3 pg_3
  rw [e]
  show _ &&& (15 + 256 * pc_rep 15 n) = _
  rw [pc_split _ _ _ _ (by omega) (by decide), h0, h0]
  omega
def pb_n : Nat → Nat → Nat
  | 0, _ => 0
  | n + 1, x => x % 2 + pb_n n (x / 2)
theorem pb_snoc : ∀ n x, pb_n (n + 1) x = pb_n n x + x / 2 ^ n % 2
  | 0, x => by simp [pb_n]
  | n + 1, x => by
    have e : x / 2 / 2 ^ n = x / 2 ^ (n + 1) := by rw [Nat.div_div_eq_div_mul, Nat.pow_succ']
    show x % 2 + pb_n (n + 1) (x / 2) = (x % 2 + pb_n n (x / 2)) + _
    rw [pb_snoc n (x / 2), e]
    omega
theorem pb_pop (w : Int64) : ∀ n, ch_pop w n = pb_n n (uN w)
  | 0 => rfl
  | n + 1 => by
    rw [pb_snoc, ← pb_pop w n]
    show ch_pop w n + (if ch_bit w n = true then 1 else 0) = _
    unfold ch_bit
    rw [Nat.testBit_eq_decide_div_mod_eq]
    by_cases h : uN w / 2 ^ n % 2 = 1
    · rw [h, if_pos (by decide)]
    · have h0 : uN w / 2 ^ n % 2 = 0 := by omega
      rw [h0, if_neg (by decide)]
theorem pb_byte (n c x : Nat) (hc : c < 256) : pb_n (n + 8) (c + 256 * x) = pb_n 8 c + pb_n n x := by
  simp only [pb_n, Nat.add_eq, Nat.div_div_eq_div_mul]
  have e : (c + 256 * x) / (2 * 2 * 2 * 2 * 2 * 2 * 2 * 2) = x := by omega
  rw [e]
  omega
theorem pd_4 : ∀ c, c < 256 → pg_3 (pg_2 (pg_1 c)) = pb_n 8 c ∧ pb_n 8 c ≤ 8 := by decide +kernel
theorem pu_1 (x : Int64) : uN (pc_1 x) = pf_1 8 (uN x) := by
  have e : ((1 : Int32)) = nI 1 := rfl
  have h1 : uN ((x.toUInt64 >>> ((1 : Int32).toInt64.toUInt64 &&& Int64.toUInt64 63)).toInt64 &&& 6148914691236517205) = uN x / 2 &&& pc_rep 85 8 := by
    rw [uN_and', e, uN_sk x (by decide)]; rfl
  have h2 : uN x / 2 &&& pc_rep 85 8 ≤ uN x / 2 := Nat.and_le_left
  have hx := uN_lt x
  unfold pc_1 pf_1
  rw [← h1] at h2 ⊢
  generalize (x.toUInt64 >>> ((1 : Int32).toInt64.toUInt64 &&& Int64.toUInt64 63)).toInt64 &&& 6148914691236517205 = y at h2 ⊢
  have hy := uN_lt y
  show (x.toUInt64 - y.toUInt64).toNat = uN x - uN y
  have h3 : y.toUInt64 ≤ x.toUInt64 := by rw [UInt64.le_iff_toNat_le]; show uN y ≤ uN x; omega
  exact UInt64.toNat_sub_of_le _ _ h3
theorem pu_2 (x : Int64) : uN (pc_2 x) = pf_2 8 (uN x) := by
  have e : ((2 : Int32)) = nI 2 := rfl
  have h1 : uN ((x.toUInt64 >>> ((2 : Int32).toInt64.toUInt64 &&& Int64.toUInt64 63)).toInt64 &&& 3689348814741910323) = uN x / 4 &&& pc_rep 51 8 := by
    rw [uN_and', e, uN_sk x (by decide)]; rfl
  have h2 : uN (x &&& 3689348814741910323) = uN x &&& pc_rep 51 8 := by rw [uN_and']; rfl
  have h3 : uN x / 4 &&& pc_rep 51 8 ≤ pc_rep 51 8 := Nat.and_le_right
  have h4 : uN x &&& pc_rep 51 8 ≤ pc_rep 51 8 := Nat.and_le_right
  have h5 : pc_rep 51 8 = 3689348814741910323 := by decide
  unfold pc_2 pf_2
  rw [uN_add, h1, h2]
  exact Nat.mod_eq_of_lt (by omega)
theorem pu_3 (x : Int64) (hx : uN x ≤ 7378697629483820646) : uN (pc_3 x) = pf_3 8 (uN x) := by
  have e : ((4 : Int32)) = nI 4 := rfl
  have h1 : uN ((x.toUInt64 >>> ((4 : Int32).toInt64.toUInt64 &&& Int64.toUInt64 63)).toInt64) = uN x / 16 := by rw [e, uN_sk x (by decide)]
  unfold pc_3 pf_3
  rw [uN_and', uN_add, h1, Nat.mod_eq_of_lt (by omega)]
  rfl
theorem pf_2_le (x : Nat) : pf_2 8 x ≤ 7378697629483820646 := by
  have h3 : x / 4 &&& pc_rep 51 8 ≤ pc_rep 51 8 := Nat.and_le_right
  have h4 : x &&& pc_rep 51 8 ≤ pc_rep 51 8 := Nat.and_le_right
  have h5 : pc_rep 51 8 = 3689348814741910323 := by decide
  unfold pf_2
  omega
/-- by octets -/
def pc_P : Nat → Nat → Nat
  | 0, _ => 0
  | n + 1, x => pb_n 8 (x % 256) + 256 * pc_P n (x / 256)
theorem pc_mod (n x : Nat) : pf_2 (n + 1) (pf_1 (n + 1) x) % 16 ≤ 4 := by
  have e : x = x % 256 + 256 * (x / 256) := by omega
  rw [e, pr_1 _ _ _ (by omega), pr_2 _ _ _ (pd_3 _ (by omega)).2.2.1]
  have := (pd_3 (x % 256) (by omega)).2.2.2.1
  omega
theorem pc_all3 : ∀ (n x : Nat), x < 256 ^ n → pf_3 n (pf_2 n (pf_1 n x)) = pc_P n x
  | 0, x, h => by
    have : x = 0 := by simpa using h
    subst this; decide
  | n + 1, x, h => by
    have e : x = x % 256 + 256 * (x / 256) := by omega
    have h2 : x / 256 < 256 ^ n := by rw [Nat.pow_succ] at h; omega
    have ih := pc_all3 n (x / 256) h2
    show _ = pb_n 8 (x % 256) + 256 * pc_P n (x / 256)
    conv => lhs; rw [e]
    have hm : pf_2 n (pf_1 n (x / 256)) % 16 ≤ 4 := by
      cases n with
      | zero =>
        have : x / 256 = 0 := by simpa using h2
        rw [this]; decide
      | succ n => exact pc_mod n _
    have hd := pd_3 (x % 256) (by omega)
    rw [pr_1 _ _ _ (by omega), pr_2 _ _ _ hd.2.2.1, pr_3 _ _ _ hd.2.2.2.2 hm, (pd_4 _ (by omega)).1, ih]
theorem pb_le (c : Nat) : pb_n 8 (c % 256) ≤ 8 := (pd_4 _ (by omega)).2
theorem pb_64 (x : Nat) : pb_n 64 x = pb_n 8 (x % 256) + (pb_n 8 (x / 256 % 256) + (pb_n 8 (x / 256 / 256 % 256) + (pb_n 8 (x / 256 / 256 / 256 % 256) + (pb_n 8 (x / 256 / 256 / 256 / 256 % 256) + (pb_n 8 (x / 256 / 256 / 256 / 256 / 256 % 256) + (pb_n 8 (x / 256 / 256 / 256 / 256 / 256 / 256 % 256) + (pb_n 8 (x / 256 / 256 / 256 / 256 / 256 / 256 / 256 % 256) + 0))))))) := by
  have k : ∀ n y, pb_n (n + 8) y = pb_n 8 (y % 256) + pb_n n (y / 256) := fun n y => by
    have := pb_byte n (y % 256) (y / 256) (by omega)
    rw [← this]
    congr 1
    omega
  have k7 : pb_n 8 (x / 256 / 256 / 256 / 256 / 256 / 256 / 256) = pb_n 8 (x / 256 / 256 / 256 / 256 / 256 / 256 / 256 % 256) + 0 := k 0 _
  rw [k 56, k 48, k 40, k 32, k 24, k 16, k 8, k7]
theorem pc_dv (a q m : Nat) (h : a < m) : (a + m * q) / m = q := by
  rw [Nat.add_mul_div_left _ _ (by omega), Nat.div_eq_of_lt h, Nat.zero_add]
theorem pc_sumA (p0 p1 p2 p3 p4 p5 p6 p7 : Nat) (h0 : p0 ≤ 8) (z : Nat) (hz : z = p0 + 256 * p1 + 65536 * p2 + 16777216 * p3 + 4294967296 * p4 + 1099511627776 * p5 + 281474976710656 * p6 + 72057594037927936 * p7) : z + z / 256 = (p0 + p1) + 256 * (p1 + p2) + 65536 * (p2 + p3) + 16777216 * (p3 + p4) + 4294967296 * (p4 + p5) + 1099511627776 * (p5 + p6) + 281474976710656 * (p6 + p7) + 72057594037927936 * p7 := by
  have e : z = p0 + 256 * (p1 + 256 * p2 + 65536 * p3 + 16777216 * p4 + 4294967296 * p5 + 1099511627776 * p6 + 281474976710656 * p7) := by omega
  have d : z / 256 = p1 + 256 * p2 + 65536 * p3 + 16777216 * p4 + 4294967296 * p5 + 1099511627776 * p6 + 281474976710656 * p7 := by rw [e]; exact pc_dv _ _ _ (by omega)
  rw [d, hz]; omega
theorem pc_sumB (p0 p1 p2 p3 p4 p5 p6 p7 : Nat) (h0 : p0 ≤ 8) (h1 : p1 ≤ 8) (h2 : p2 ≤ 8) (z : Nat) (hz : z = (p0 + p1) + 256 * (p1 + p2) + 65536 * (p2 + p3) + 16777216 * (p3 + p4) + 4294967296 * (p4 + p5) + 1099511627776 * (p5 + p6) + 281474976710656 * (p6 + p7) + 72057594037927936 * p7) : z + z / 65536 = (p0 + p1 + p2 + p3) + 256 * (p1 + p2 + p3 + p4) + 65536 * (p2 + p3 + p4 + p5) + 16777216 * (p3 + p4 + p5 + p6) + 4294967296 * (p4 + p5 + p6 + p7) + 1099511627776 * (p5 + p6 + p7) + 281474976710656 * (p6 + p7) + 72057594037927936 * (p7) := by
  have e : z = ((p0 + p1) + 256 * (p1 + p2)) + 65536 * ((p2 + p3) + 256 * (p3 + p4) + 65536 * (p4 + p5) + 16777216 * (p5 + p6) + 4294967296 * (p6 + p7) + 1099511627776 * p7) := by omega
  have d : z / 65536 = (p2 + p3) + 256 * (p3 + p4) + 65536 * (p4 + p5) + 16777216 * (p5 + p6) + 4294967296 * (p6 + p7) + 1099511627776 * p7 := by rw [e]; exact pc_dv _ _ _ (by omega)
  rw [d, hz]; omega
theorem pc_sumC (p0 p1 p2 p3 p4 p5 p6 p7 : Nat) (h0 : p0 ≤ 8) (h1 : p1 ≤ 8) (h2 : p2 ≤ 8) (h3 : p3 ≤ 8) (h4 : p4 ≤ 8) (h5 : p5 ≤ 8) (h6 : p6 ≤ 8) (h7 : p7 ≤ 8) (z : Nat) (hz : z = (p0 + p1 + p2 + p3) + 256 * (p1 + p2 + p3 + p4) + 65536 * (p2 + p3 + p4 + p5) + 16777216 * (p3 + p4 + p5 + p6) + 4294967296 * (p4 + p5 + p6 + p7) + 1099511627776 * (p5 + p6 + p7) + 281474976710656 * (p6 + p7) + 72057594037927936 * (p7)) : (z + z / 4294967296) % 128 = p0 + (p1 + (p2 + (p3 + (p4 + (p5 + (p6 + (p7 + 0))))))) := by
  have e : z = ((p0 + p1 + p2 + p3) + 256 * (p1 + p2 + p3 + p4) + 65536 * (p2 + p3 + p4 + p5) + 16777216 * (p3 + p4 + p5 + p6)) + 4294967296 * ((p4 + p5 + p6 + p7) + 256 * (p5 + p6 + p7) + 65536 * (p6 + p7) + 16777216 * (p7)) := by omega
  have d : z / 4294967296 = (p4 + p5 + p6 + p7) + 256 * (p5 + p6 + p7) + 65536 * (p6 + p7) + 16777216 * (p7) := by rw [e]; exact pc_dv _ _ _ (by omega)
  have f : z + z / 4294967296 = (p0 + (p1 + (p2 + (p3 + (p4 + (p5 + (p6 + (p7 + 0)))))))) + 128 * (2 * ((p1 + p2 + p3 + p4) + (p5 + p6 + p7) + 256 * (p2 + p3 + p4 + p5) + 256 * (p6 + p7) + 65536 * (p3 + p4 + p5 + p6) + 65536 * (p7) + 16777216 * ((p4 + p5 + p6 + p7) + 256 * (p5 + p6 + p7) + 65536 * (p6 + p7) + 16777216 * (p7)))) := by rw [d, hz]; omega
  rw [f, Nat.add_mul_mod_self_left]
  exact Nat.mod_eq_of_lt (by omega)
theorem ch_bitcount (w : Int64) : (pc_6 (pc_5 (pc_4 (pc_3 (pc_2 (pc_1 w)))))).toInt32 &&& 127 = nI (ch_pop w 64) := by
  have hw := uN_lt w
  have h3 : uN (pc_3 (pc_2 (pc_1 w))) = pc_P 8 (uN w) := by
    rw [pu_3 _ (by rw [pu_2]; exact pf_2_le _), pu_2, pu_1]
    exact pc_all3 8 _ hw
  rw [pb_pop, pb_64]
  simp only [pc_P] at h3
  generalize pc_3 (pc_2 (pc_1 w)) = z at h3 ⊢
  have b0 := pb_le (uN w)
  have b1 := pb_le (uN w / 256)
  have b2 := pb_le (uN w / 256 / 256)
  have b3 := pb_le (uN w / 256 / 256 / 256)
  have b4 := pb_le (uN w / 256 / 256 / 256 / 256)
  have b5 := pb_le (uN w / 256 / 256 / 256 / 256 / 256)
  have b6 := pb_le (uN w / 256 / 256 / 256 / 256 / 256 / 256)
  have b7 := pb_le (uN w / 256 / 256 / 256 / 256 / 256 / 256 / 256)
  generalize pb_n 8 (uN w % 256) = p0 at *
  generalize pb_n 8 (uN w / 256 % 256) = p1 at *
  generalize pb_n 8 (uN w / 256 / 256 % 256) = p2 at *
  generalize pb_n 8 (uN w / 256 / 256 / 256 % 256) = p3 at *
  generalize pb_n 8 (uN w / 256 / 256 / 256 / 256 % 256) = p4 at *
  generalize pb_n 8 (uN w / 256 / 256 / 256 / 256 / 256 % 256) = p5 at *
  generalize pb_n 8 (uN w / 256 / 256 / 256 / 256 / 256 / 256 % 256) = p6 at *
  generalize pb_n 8 (uN w / 256 / 256 / 256 / 256 / 256 / 256 / 256 % 256) = p7 at *
  have d0 : uN z = p0 + 256 * p1 + 65536 * p2 + 16777216 * p3 + 4294967296 * p4 + 1099511627776 * p5 + 281474976710656 * p6 + 72057594037927936 * p7 := by rw [h3]; omega
  clear h3 hw
  have q4 := pc_sumA p0 p1 p2 p3 p4 p5 p6 p7 b0 _ d0
  have s4 : uN (pc_4 z) = uN z + uN z / 256 := by
    have e : ((8 : Int32)) = nI 8 := rfl
    unfold pc_4
    rw [uN_add, e, uN_sk z (by decide)]
    show (uN z + uN z / 256) % _ = _
    rw [q4]
    exact Nat.mod_eq_of_lt (by clear q4 d0; omega)
  rw [← s4] at q4
  have q5 := pc_sumB p0 p1 p2 p3 p4 p5 p6 p7 b0 b1 b2 _ q4
  have s5 : uN (pc_5 (pc_4 z)) = uN (pc_4 z) + uN (pc_4 z) / 65536 := by
    have e : ((16 : Int32)) = nI 16 := rfl
    unfold pc_5
    rw [uN_add, e, uN_sk _ (by decide)]
    show (uN (pc_4 z) + uN (pc_4 z) / 65536) % _ = _
    rw [q5]
    exact Nat.mod_eq_of_lt (by clear q5 q4 s4 d0; omega)
  rw [← s5] at q5
  have q6 := pc_sumC p0 p1 p2 p3 p4 p5 p6 p7 b0 b1 b2 b3 b4 b5 b6 b7 _ q5
  have s7 : uN (pc_6 (pc_5 (pc_4 z))) % 128 = p0 + (p1 + (p2 + (p3 + (p4 + (p5 + (p6 + (p7 + 0))))))) := by
    have e : ((32 : Int32)) = nI 32 := rfl
    have h9 : uN (pc_6 (pc_5 (pc_4 z))) = (uN (pc_5 (pc_4 z)) + uN (pc_5 (pc_4 z)) / 4294967296) % 18446744073709551616 := by
      unfold pc_6
      rw [uN_add, e, uN_sk _ (by decide)]
    rw [h9, ← q6]
    exact Nat.mod_mod_of_dvd _ (by decide)
  clear q6 q5 q4 s4 s5 d0
  generalize pc_6 (pc_5 (pc_4 z)) = y at s7 ⊢
  have h5 : y.toInt32 &&& 127 = nI (y.toInt32.toBitVec.toNat % 2 ^ 7) := pk_and _ 7 (by decide)
  rw [h5]
  congr 1
  have h6 : y.toInt32.toBitVec.toNat = uN y % 4294967296 := by
    show (y.toBitVec.signExtend 32).toNat = _
    rw [BitVec.signExtend_eq_setWidth_of_le _ (by decide), BitVec.toNat_setWidth]
    rfl
  rw [h6, ← s7]
  omega
end
section
/-! arrays beside lists -/
theorem bp_b (x : Int32) : x.toInt8.toInt32 &&& 255 = x &&& 255 := by
  apply Int32.toBitVec_inj.mp
  rw [Int32.toBitVec_and, Int32.toBitVec_and, Int8.toBitVec_toInt32, Int32.toBitVec_toInt8]
  apply BitVec.eq_of_getLsbD_eq
  intro i hi
  rw [BitVec.getLsbD_and, BitVec.getLsbD_and]
  have hm : ∀ i < 32, 8 ≤ i → (255 : Int32).toBitVec.getLsbD i = false := by decide
  rcases Nat.lt_or_ge i 8 with z | z
  · rw [BitVec.getLsbD_signExtend, BitVec.getLsbD_signExtend, if_pos z, if_pos hi]
    simp only [z, hi, decide_true, Bool.true_and]
  · rw [hm i hi z]; simp
/-- a row of octets holds a list -/
def ch_B (f : Nat → Int32) (L : List Nat) : Prop := ∀ i, i < L.length → f i &&& 255 = nI (L.getD i 0)
theorem ch_B_nil (f : Nat → Int32) : ch_B f [] := fun i h => absurd h (Nat.not_lt_zero _)
theorem ch_B_add {f : Nat → Int32} {L : List Nat} {x : Int32} {o : Nat} (h : ch_B f L) (hx : x &&& 255 = nI o) : ch_B (upd f L.length (vp_nar .byte x.toInt8.toInt32)) (L ++ [o]) := by
  intro i hi
  rw [List.length_append] at hi
  by_cases e : i = L.length
  · subst e
    rw [pk_us, pk_vb]
    have : (L ++ [o]).getD L.length 0 = o := by simp
    rw [this, ← hx]
    exact bp_b x
  · have hi' : i < L.length := by simp at hi; omega
    rw [pk_un e, h i hi']
    congr 1
    simp [List.getD, List.getElem?_append_left hi']
theorem ch_getD_out {L : List Nat} {j : Nat} (h : L.length ≤ j) : L.getD j 0 = 0 := by simp [List.getD, h]
/-- the runs' two rows hold a list of runs, the last first -/
def ch_R (rn : Nat → Int64) (rs : Nat → Int32) (L : List (Int64 × Nat)) : Prop := ∀ i, i < L.length → rn (L.length - 1 - i) = (L.getD i (0, 0)).1 ∧ rs (L.length - 1 - i) = nI (L.getD i (0, 0)).2
theorem ch_R_nil (rn : Nat → Int64) (rs : Nat → Int32) : ch_R rn rs [] := fun i h => absurd h (Nat.not_lt_zero _)
theorem ch_R_new {rn : Nat → Int64} {rs : Nat → Int32} {L : List (Int64 × Nat)} (h : ch_R rn rs L) (v : Int64) (n : Nat) : ch_R (vp_updL rn L.length v) (upd rs L.length (nI n)) ((v, n) :: L) := by
  intro i hi
  rw [List.length_cons] at hi ⊢
  cases i with
  | zero =>
    have e : L.length + 1 - 1 - 0 = L.length := by omega
    rw [e, pk_uLs, pk_us]
    exact ⟨rfl, rfl⟩
  | succ i =>
    have e : L.length + 1 - 1 - (i + 1) = L.length - 1 - i := by omega
    rw [e, pk_uLn (by omega), pk_un (by omega)]
    exact h i (by omega)
theorem ch_R_inc {rn : Nat → Int64} {rs : Nat → Int32} {L : List (Int64 × Nat)} {v : Int64} {n m : Nat} (h : ch_R rn rs ((v, n) :: L)) : ch_R rn (upd rs L.length (nI m)) ((v, m) :: L) := by
  intro i hi
  rw [List.length_cons] at hi ⊢
  have h9 := h i hi
  rw [List.length_cons] at h9
  cases i with
  | zero =>
    have e : L.length + 1 - 1 - 0 = L.length := by omega
    rw [e] at h9 ⊢
    rw [pk_us]
    exact ⟨h9.1, rfl⟩
  | succ i =>
    have e : L.length + 1 - 1 - (i + 1) = L.length - 1 - i := by omega
    rw [e] at h9 ⊢
    rw [pk_un (by omega)]
    exact h9
theorem ch_R_top {rn : Nat → Int64} {rs : Nat → Int32} {q : Int64 × Nat} {L : List (Int64 × Nat)} (h : ch_R rn rs (q :: L)) : rn L.length = q.1 ∧ rs L.length = nI q.2 := by
  have h9 := h 0 (by simp)
  have e : (q :: L).length - 1 - 0 = L.length := by simp
  rw [e] at h9
  exact h9
theorem ch_upd2 (f : Nat → Int32) (k : Nat) (x y : Int32) : upd (upd f k x) k y = upd f k y := by
  funext j
  unfold upd
  split <;> rfl
theorem ch_cmp0 {x y : Int64} : lg_cmp x y = 0 ↔ x = y := by
  unfold lg_cmp
  split
  · rename_i h
    constructor
    · intro q; exact absurd q (by decide)
    · intro q; subst q; exact absurd h (Int64.lt_irrefl)
  · split
    · rename_i h; simp [h]
    · rename_i h; simp [h]
theorem ch_add_nil {L : List (Int64 × Nat)} (v : Int64) (h : L.length = 0) : ch_add L v = (v, 1) :: L := by
  cases L with
  | nil => rfl
  | cons q t => simp at h
theorem ch_add_ne {L : List (Int64 × Nat)} (v : Int64) (h : (L.getD 0 (0, 0)).1 ≠ v) : ch_add L v = (v, 1) :: L := by
  cases L with
  | nil => rfl
  | cons q t => rw [ch_add_c]; exact if_neg (fun e => h e)
theorem ch_add_eq {L : List (Int64 × Nat)} (v : Int64) (hp : 0 < L.length) (h : (L.getD 0 (0, 0)).1 = v) : ∃ t, L = (v, (L.getD 0 (0, 0)).2) :: t ∧ ch_add L v = (v, (L.getD 0 (0, 0)).2 + 1) :: t := by
  cases L with
  | nil => simp at hp
  | cons q t =>
    have h1 : q.1 = v := h
    refine ⟨t, ?_, ?_⟩
    · have : ((q :: t).getD 0 (0, 0)) = q := rfl
      rw [this, ← h1]
    · rw [ch_add_c, if_pos h1]; rfl
theorem nI_0' {n : Nat} (h : n < 2 ^ 31) (e : nI n = 0) : n = 0 := (nI_eq h (by decide)).mp (by rw [e]; rfl)
end
section
/-! what going out needs -/
theorem ch_i32 (y : Int64) : y.toInt32.toBitVec.toNat = uN y % 4294967296 := by
  show (y.toBitVec.signExtend 32).toNat = _
  rw [BitVec.signExtend_eq_setWidth_of_le _ (by decide), BitVec.toNat_setWidth]
  rfl
theorem ch_and255 (x : Int32) : x &&& 255 = nI (x.toBitVec.toNat % 256) := pk_and x 8 (by decide)
theorem ch_low (y : Int64) : y.toInt32 &&& 255 = nI (uN y % 256) := by
  rw [ch_and255, ch_i32]
  congr 1
  omega
theorem ch_or128 : ∀ a, a < 256 → a ||| 128 = a % 128 + 128 := by decide +kernel
theorem ch_low128 (y : Int64) : (y.toInt32 ||| 128) &&& 255 = nI (uN y % 128 + 128) := by
  have e1 : (y.toInt32 ||| 128).toBitVec.toNat = y.toInt32.toBitVec.toNat ||| 128 := by
    rw [Int32.toBitVec_or, BitVec.toNat_or]; rfl
  rw [ch_and255, e1, ch_i32]
  congr 1
  have e2 := Nat.or_mod_two_pow (a := uN y % 4294967296) (b := 128) (n := 8)
  have e3 : (uN y % 4294967296 ||| 128) % 256 = (uN y % 4294967296 % 256) ||| 128 := e2
  rw [e3, ch_or128 _ (by omega)]
  omega
theorem ch_n255 {n : Nat} (h : n < 256) : nI n &&& 255 = nI n := by
  have e := pk_andN (n := n) (by omega) (m := 255) 8 (by decide)
  rw [e]
  congr 1
  omega
theorem ch_sh0 (x : Int64) {k : Nat} (hk : k < 64) : (x.toUInt64 >>> ((nI k).toInt64.toUInt64 &&& Int64.toUInt64 63)).toInt64 = 0 ↔ uN x / 2 ^ k = 0 := by
  rw [← uN_sk x hk]
  constructor
  · intro h; rw [h]; rfl
  · intro h; exact uN_inj (h.trans rfl)
theorem ch_pow7 (j : Nat) : 2 ^ (7 * j) = 128 ^ j := by rw [Nat.pow_mul]
theorem ch_cnt_step (u n : Nat) : ch_cnt u (n + 1) = ch_cnt u n + if u / 128 ^ (n + 1) = 0 then 0 else 1 := rfl
theorem ch_cnt_le (u : Nat) : ∀ n, ch_cnt u n ≤ n + 1
  | 0 => Nat.le_refl _
  | n + 1 => by
    have := ch_cnt_le u n
    rw [ch_cnt_step]
    split <;> omega
theorem ch_cnt_pos (u : Nat) : ∀ n, 1 ≤ ch_cnt u n
  | 0 => Nat.le_refl _
  | n + 1 => by
    have := ch_cnt_pos u n
    rw [ch_cnt_step]
    omega
theorem ch_num_le (u : Nat) : (ch_num 9 u).length ≤ 10 := by rw [ch_num_len]; exact ch_cnt_le u 9
theorem ch_octs_len : ∀ L : List (Int64 × Nat), (ch_octs L).length ≤ 11 * L.length
  | [] => Nat.le_refl _
  | q :: r => by
    have h := ch_octs_len r
    have h2 := ch_num_le (uN (ch_zz (q.1 - ch_hd r)))
    show (ch_octs r ++ ch_run q (ch_hd r)).length ≤ _
    rw [List.length_append, List.length_cons]
    show _ + (ch_num 9 (uN (ch_zz (q.1 - ch_hd r)))).length.succ ≤ _
    omega
theorem ch_drop_step {L : List (Int64 × Nat)} {r : Nat} (h : r < L.length) : L.drop (L.length - (r + 1)) = L.getD (L.length - 1 - r) (0, 0) :: L.drop (L.length - r) := by
  have hk : L.length - (r + 1) < L.length := by omega
  rw [List.drop_eq_getElem_cons hk]
  have e1 : L.length - (r + 1) + 1 = L.length - r := by omega
  have e2 : L.length - 1 - r = L.length - (r + 1) := by omega
  rw [e1, e2]
  simp [List.getD, hk]
theorem ch_R_step {rn : Nat → Int64} {rs : Nat → Int32} {L : List (Int64 × Nat)} (hR : ch_R rn rs L) {r : Nat} (h : r < L.length) :
    (rn r - if r = 0 then 0 else rn (r - 1)) = (L.getD (L.length - 1 - r) (0, 0)).1 - ch_hd (L.drop (L.length - r)) ∧ rs r = nI (L.getD (L.length - 1 - r) (0, 0)).2 := by
  have h1 := hR (L.length - 1 - r) (by omega)
  have e1 : L.length - 1 - (L.length - 1 - r) = r := by omega
  rw [e1] at h1
  refine ⟨?_, h1.2⟩
  rw [h1.1]
  congr 1
  by_cases h0 : r = 0
  · subst h0
    rw [if_pos rfl, Nat.sub_zero, List.drop_length]
    rfl
  · rw [if_neg h0]
    have h2 := hR (L.length - r) (by omega)
    have e2 : L.length - 1 - (L.length - r) = r - 1 := by omega
    rw [e2] at h2
    rw [h2.1]
    have hk : L.length - r < L.length := by omega
    rw [List.drop_eq_getElem_cons hk]
    simp [ch_hd, List.getD, hk]
theorem ch_octs_step {L : List (Int64 × Nat)} {r : Nat} (h : r < L.length) : ch_octs (L.drop (L.length - (r + 1))) = ch_octs (L.drop (L.length - r)) ++ ((L.getD (L.length - 1 - r) (0, 0)).2 :: ch_num 9 (uN (ch_zz ((L.getD (L.length - 1 - r) (0, 0)).1 - ch_hd (L.drop (L.length - r)))))) := by
  rw [ch_drop_step h]; rfl
theorem ch_runs_sz (w : Int64) (f : Nat → Int64) : ∀ k, ∀ q ∈ ch_runs w f k, q.2 ≤ k
  | 0, q, h => nomatch h
  | k + 1, q, h => by
    have ih := ch_runs_sz w f k
    unfold ch_runs at h
    split at h
    · cases hr : ch_runs w f k with
      | nil =>
        rw [hr] at h
        have : q = (f k, 1) := by simpa [ch_add] using h
        subst this; show 1 ≤ k + 1; omega
      | cons z t =>
        rw [hr, ch_add_c] at h
        rw [hr] at ih
        split at h
        · rcases List.mem_cons.mp h with rfl | h1
          · have := ih z List.mem_cons_self
            show z.2 + 1 ≤ k + 1; omega
          · have := ih q (List.mem_cons_of_mem _ h1); omega
        · rcases List.mem_cons.mp h with rfl | h1
          · show 1 ≤ k + 1; omega
          · have := ih q h1; omega
    · have := ih q h; omega
theorem ch_runs_szD (w : Int64) (f : Nat → Int64) {i : Nat} (h : i < (ch_runs w f 64).length) : ((ch_runs w f 64).getD i (0, 0)).2 < 256 := by
  have h1 : (ch_runs w f 64).getD i (0, 0) ∈ ch_runs w f 64 := by
    have : (ch_runs w f 64).getD i (0, 0) = (ch_runs w f 64)[i] := by simp [List.getD, h]
    rw [this]; exact List.getElem_mem h
  have := ch_runs_sz w f 64 _ h1
  omega
theorem ch_mask_len (w : Int64) : (ch_mask w).length = 8 := by simp [ch_mask]
theorem ch_mask_step (w : Int64) {i : Nat} (h : i < 8) : (ch_mask w).take (i + 1) = (ch_mask w).take i ++ [uN w / 256 ^ i % 256] := by
  rw [List.take_succ]
  congr 1
  simp [ch_mask, h]
theorem ch_pow8 (j : Nat) : 2 ^ (8 * j) = 256 ^ j := by rw [Nat.pow_mul]
theorem ch_take_all {L : List Nat} {n : Nat} (h : L.length ≤ n) : L.take n = L := List.take_of_length_le h
theorem ch_take_step {L : List Nat} {i : Nat} (h : i < L.length) : L.take (i + 1) = L.take i ++ [L.getD i 0] := by
  rw [List.take_succ]
  congr 1
  simp [List.getD, h]
theorem ch_num_lt : ∀ (n u i : Nat), i + 1 = (ch_num n u).length → u < 128 ^ (n + 1) * 2 → u / 128 ^ i < 256
  | 0, u, i, h, hu => by
    have h0 : i = 0 := by simpa [ch_num] using h
    subst h0
    simp at hu ⊢
    omega
  | n + 1, u, i, h, hu => by
    unfold ch_num at h
    by_cases h1 : u < 128
    · rw [if_pos h1] at h
      have h0 : i = 0 := by simpa using h
      subst h0
      simp; omega
    · rw [if_neg h1] at h
      cases i with
      | zero =>
        have := ch_num_pos n (u / 128)
        rw [List.length_cons] at h
        omega
      | succ i =>
        rw [List.length_cons] at h
        have hu2 : u / 128 < 128 ^ (n + 1) * 2 := by
          rw [Nat.div_lt_iff_lt_mul (by decide)]
          have e : 128 ^ (n + 1 + 1) * 2 = 128 ^ (n + 1) * 2 * 128 := by rw [Nat.pow_succ]; omega
          rw [← e]; exact hu
        have := ch_num_lt n (u / 128) i (by omega) hu2
        rw [Nat.div_div_eq_div_mul, ← Nat.pow_succ'] at this
        exact this
end
section
/-! what the other calls answer -/
def ch_wd (L : List Nat) (j : Nat) : Nat → Int64
  | 0 => 0
  | i + 1 => (ch_wd L j i <<< ((8 : Int32).toInt64 &&& 63)) ||| (nI (L.getD (8 * j + i) 0)).toInt64
def ch_fd (x : Int64) : List Nat := (List.range 8).map (fun i => uN x / 2 ^ (56 - 8 * i) % 256)
theorem ch_fd_len (x : Int64) : (ch_fd x).length = 8 := by simp [ch_fd]
theorem ch_fd_step (x : Int64) {i : Nat} (h : i < 8) : (ch_fd x).take (i + 1) = (ch_fd x).take i ++ [uN x / 2 ^ (56 - 8 * i) % 256] := by
  rw [List.take_succ]
  congr 1
  simp [ch_fd, h]
def ch_er (w : Int64) (a : Nat) : Nat → Int64
  | 0 => w
  | n + 1 => ch_er w a n &&& (((1 : Int64) <<< ((nI (a + n)).toInt64 &&& 63)) ^^^ (-1))
def ch_su (w : Int64) (f : Nat → Int64) (a : Nat) : Nat → Int64
  | 0 => 0
  | n + 1 => if ch_bit w (a + n) then ch_su w f a n + f (a + n) else ch_su w f a n
def ch_IO : String := "java/lang/IndexOutOfBoundsException"
def ch_UO : String := "java/lang/UnsupportedOperationException"
def ch_IA : String := "java/lang/IllegalArgumentException"
theorem ch_ix {k : Int32} {n : Nat} (hn : n < 2 ^ 31) (h1 : ¬ k < 0) (h2 : k < nI n) : ∃ j, j < n ∧ k = nI j := by
  obtain ⟨j, hj, rfl⟩ := nI_of h1
  exact ⟨j, (nI_ltI hj hn).mp h2, rfl⟩
theorem ch_nlt {a b : Int32} (h : ¬ a < b) : b ≤ a := Int32.not_lt.mp h
theorem ch_nle {a b : Int32} (h : ¬ a ≤ b) : b < a := Int32.not_le.mp h
/-- count(j) -/
def ch_ct (w : Int64) (f : Nat → Int64) (Lf Lm : List Nat) (j : Nat) : Nat := match j with
  | 0 => ch_pop w 64
  | 1 => (ch_runs w f 64).length
  | 2 => Lf.length
  | 3 => Lm.length
  | _ => 8 + (ch_octs (ch_runs w f 64)).length
end
section
/-! what coming in needs -/
theorem ch_sh7_u (u : Int64) (o : Nat) {i : Nat} (hi : i ≤ 9) : uN (ch_sh7 u o i) = uN u ||| (o % 128 * 2 ^ (7 * i) % 18446744073709551616) := by
  have h1 : o % 128 < 128 := Nat.mod_lt _ (by decide)
  unfold ch_sh7
  rw [uN_or', uN_shlk _ (by omega), nI_l (by omega)]
  have h2 : uN (lN (o % 128)) = o % 128 := by
    show (o % 128) % 2 ^ 64 = _
    omega
  rw [h2]
theorem ch_sh7_ne (u : Int64) {o i : Nat} (ho : o ≠ 0) (h : o < 128) (hi : i ≤ 9) (h9 : i = 9 → o ≤ 1) : ch_sh7 u o i ≠ 0 := by
  intro q
  have h1 := ch_sh7_u u o hi
  rw [q] at h1
  have h0 : uN 0 = 0 := rfl
  rw [h0] at h1
  have h2 := (Nat.or_eq_zero_iff.mp h1.symm).2
  have hp : 0 < 2 ^ (7 * i) := Nat.two_pow_pos _
  rw [Nat.mod_eq_of_lt h] at h2
  have h3 : o * 2 ^ (7 * i) < 18446744073709551616 := by
    by_cases e : i = 9
    · have := h9 e
      subst e
      have : o = 1 := by omega
      subst this; decide
    · have h4 : 2 ^ (7 * i) ≤ 2 ^ 56 := Nat.pow_le_pow_right (by decide) (by omega)
      calc o * 2 ^ (7 * i) ≤ o * 2 ^ 56 := Nat.mul_le_mul_left _ h4
        _ < 128 * 2 ^ 56 := Nat.mul_lt_mul_of_pos_right h (by decide)
        _ ≤ _ := by decide
  rw [Nat.mod_eq_of_lt h3] at h2
  rcases Nat.mul_eq_zero.mp h2 with h5 | h5
  · exact ho h5
  · omega
theorem ch_sh7_0 : ch_sh7 0 0 0 = 0 := by decide
/-- when a number's last octet can't stand: the two ways to say it -/
theorem ch_endc {u : Int64} {o m : Nat} {q : Bool} (hm : m ≤ 9) (ho : o < 128) (h9 : m = 0 → o ≤ 1) (hu : m = 9 → u = 0) :
    ((o = 0 ∧ 0 < 9 - m) ∨ (ch_sh7 u o (9 - m) = 0 ∧ q = false)) ↔ ((m = 0 ∧ o ≠ 1) ∨ (o = 0 ∧ (m ≠ 9 ∨ q = false))) := by
  constructor
  · rintro (⟨h1, h2⟩ | ⟨h1, h2⟩)
    · exact Or.inr ⟨h1, Or.inl (by omega)⟩
    · have h3 : o = 0 := by
        apply Classical.byContradiction
        intro h4
        exact ch_sh7_ne u h4 ho (by omega) (fun e => h9 (by omega)) h1
      exact Or.inr ⟨h3, Or.inr h2⟩
  · rintro (⟨h1, h2⟩ | ⟨h1, h2⟩)
    · have := h9 h1
      exact Or.inl ⟨by omega, by omega⟩
    · by_cases h3 : m = 9
      · rcases h2 with h2 | h2
        · exact absurd h3 h2
        · refine Or.inr ⟨?_, h2⟩
          subst h1; subst h3; rw [hu rfl]; exact ch_sh7_0
      · exact Or.inl ⟨h1, by omega⟩
theorem ch_rd_S (L : List Nat) (first : Bool) (n a : Nat) (u : Int64) : ch_rd L first (n + 1) a u =
    if L.length ≤ a then (a, none)
    else if n = 0 ∧ L.getD a 0 ≠ 1 then (a, none)
    else if 128 ≤ L.getD a 0 then ch_rd L first n (a + 1) (ch_sh7 u (L.getD a 0) (9 - n))
    else if L.getD a 0 = 0 ∧ (n ≠ 9 ∨ first = false) then (a, none)
    else (a + 1, some (ch_sh7 u (L.getD a 0) (9 - n))) := rfl
theorem ch_rd_le (L : List Nat) (first : Bool) : ∀ (n a : Nat) (u : Int64), a ≤ L.length → (ch_rd L first n a u).1 ≤ L.length
  | 0, a, u, h => h
  | n + 1, a, u, h => by
    rw [ch_rd_S]
    split
    · exact h
    · rename_i h1
      split
      · exact h
      · split
        · exact ch_rd_le L first n (a + 1) _ (by omega)
        · split
          · exact h
          · show a + 1 ≤ _; omega
theorem ch_cells_S (L : List Nat) (w : Int64) (m left lor : Nat) (v : Int64) (first : Bool) (a : Nat) (g : Nat → Int64) : ch_cells L w (m + 1) left lor v first a g =
    if ch_bit w (63 - m) = false then ch_cells L w m left lor v first a g
    else if lor = 0 then
      if L.getD a 0 = 0 ∨ left < L.getD a 0 then (a, none)
      else match ch_rd L first 10 (a + 1) 0 with
        | (a1, none) => (a1, none)
        | (a1, some u) => ch_cells L w m (left - 1) (L.getD a 0 - 1) (v + ch_un u) false a1 (vp_updL g (63 - m) (v + ch_un u))
    else ch_cells L w m (left - 1) (lor - 1) v first a (vp_updL g (63 - m) v) := rfl
theorem ch_pop_le (w : Int64) : ∀ k, ch_pop w k ≤ k
  | 0 => Nat.le_refl _
  | k + 1 => by
    have := ch_pop_le w k
    show ch_pop w k + (if ch_bit w k then 1 else 0) ≤ _
    split <;> omega
theorem ch_pop_mono (w : Int64) (k : Nat) : ∀ n, ch_pop w k ≤ ch_pop w (k + n)
  | 0 => Nat.le_refl _
  | n + 1 => by
    have := ch_pop_mono w k n
    show _ ≤ ch_pop w (k + n) + (if ch_bit w (k + n) then 1 else 0)
    omega
theorem ch_bit_ext {x y : Int64} (h : ∀ j, j < 64 → ch_bit x j = ch_bit y j) : x = y := by
  apply uN_inj
  apply Nat.eq_of_testBit_eq
  intro i
  by_cases hi : i < 64
  · exact h i hi
  · have hx : uN x < 2 ^ i := Nat.lt_of_lt_of_le (uN_lt x) (Nat.pow_le_pow_right (n := 2) (by decide) (by omega : 64 ≤ i))
    have hy : uN y < 2 ^ i := Nat.lt_of_lt_of_le (uN_lt y) (Nat.pow_le_pow_right (n := 2) (by decide) (by omega : 64 ≤ i))
    rw [Nat.testBit_lt_two_pow hx, Nat.testBit_lt_two_pow hy]
theorem ch_getD_lt {L : List Nat} (h : ∀ x ∈ L, x < 256) (j : Nat) : L.getD j 0 < 256 := by
  by_cases hj : j < L.length
  · have : L.getD j 0 = L[j] := by simp [List.getD, hj]
    rw [this]; exact h _ (List.getElem_mem hj)
  · rw [ch_getD_out (by omega)]; decide
theorem ch_ib (b : Bool) : (if b then (1 : Int32) else 0) = 0 ↔ b = false := by cases b <;> decide
theorem ch_x0 {x : Int32} {b : Bool} (h : x = if b then (1 : Int32) else 0) : x = 0 ↔ b = false := by rw [h]; exact ch_ib b
theorem ch_rd_end {L : List Nat} {q : Bool} {n a : Nat} {u : Int64} (h1 : a < L.length) (hn : n ≤ 9) (ho : L.getD a 0 < 128) (h9 : n = 0 → L.getD a 0 ≤ 1) (hu : n = 9 → u = 0) (p : Bool) (hp : p = true ↔ (L.getD a 0 = 0 ∧ 0 < 9 - n)) {r : Nat × Option Int64} (hr : r = ch_rd L q (n + 1) a u) :
    ((p = true ∨ (ch_sh7 u (L.getD a 0) (9 - n) = 0 ∧ q = false)) → r = (a, none)) ∧ (¬ (p = true ∨ (ch_sh7 u (L.getD a 0) (9 - n) = 0 ∧ q = false)) → r = (a + 1, some (ch_sh7 u (L.getD a 0) (9 - n)))) := by
  have hc := ch_endc (u := u) (q := q) hn ho h9 hu
  rw [hp, hc, hr, ch_rd_S, if_neg (by omega)]
  constructor
  · rintro (h | h)
    · rw [if_pos h]
    · split
      · rfl
      · (try rw [if_neg (show ¬ 128 ≤ L.getD a 0 by omega)]) <;> (try rw [if_pos h])
  · intro h
    rw [if_neg (fun q => h (Or.inl q)), if_neg (show ¬ 128 ≤ L.getD a 0 by omega), if_neg (fun q => h (Or.inr q))]
theorem ch_cells_le (L : List Nat) (w : Int64) : ∀ (m left lor : Nat) (v : Int64) (first : Bool) (a : Nat) (g : Nat → Int64), a ≤ L.length → (ch_cells L w m left lor v first a g).1 ≤ L.length
  | 0, left, lor, v, first, a, g, h => h
  | m + 1, left, lor, v, first, a, g, h => by
    rw [ch_cells_S]
    split
    · exact ch_cells_le L w m _ _ _ _ _ _ h
    · split
      · split
        · exact h
        · rename_i h1
          have hal : a < L.length := Nat.lt_of_not_le (fun e => h1 (Or.inl (ch_getD_out e)))
          have h2 := ch_rd_le L first 10 (a + 1) 0 (by omega)
          rcases hrd : ch_rd L first 10 (a + 1) 0 with ⟨a1, ru⟩
          rw [hrd] at h2
          cases ru with
          | none => exact h2
          | some u => exact ch_cells_le L w m _ _ _ _ _ _ h2
      · exact ch_cells_le L w m _ _ _ _ _ _ h
end
section
/-! the reference's words -/
def ch_no (k : Int32) : Bool := decide (k < 0 ∨ 64 ≤ k)
theorem ch_no_t {k : Int32} (h : k < 0 ∨ 64 ≤ k) : ch_no k = true := decide_eq_true h
theorem ch_no_f {k : Int32} (h : ¬ (k < 0 ∨ 64 ≤ k)) : ch_no k = false := decide_eq_false h
theorem ch_no_ix {k : Int32} (h : ch_no k = false) : ∃ j, j < 64 ∧ k = nI j := by
  have h1 := of_decide_eq_false h
  exact ch_ix (n := 64) (by decide) (fun q => h1 (Or.inl q)) (Int32.not_le.mp (fun q => h1 (Or.inr q)))
theorem ch_no_nI {j : Nat} (h : j < 64) : ch_no (nI j) = false := ch_no_f (by
  rintro (q | q)
  · exact nI_pos (by omega) q
  · exact absurd ((nI_leI (a := 64) (by decide) (by omega)).mp q) (by omega))
theorem ch_ifb (b : Bool) : ¬ (if b then (1 : Int32) else 0) = 0 ↔ b = true := by cases b <;> decide
def ch_M (w : Int64) (f : Nat → Int64) (vf : Nat → Int64) (fu : Nat → Int32) : Prop := ∀ k, k < 64 → fu k = (if ch_bit w k then 1 else 0) ∧ (ch_bit w k = true → vf k = f k)
def ch_fe (fu : Nat → Int32) (a : Nat) : Nat → Nat → Int32
  | 0 => fu
  | n + 1 => upd (ch_fe fu a n) (a + n) (vp_nar .boolean 0)
theorem ch_M_put {w : Int64} {f vf : Nat → Int64} {fu : Nat → Int32} (h : ch_M w f vf fu) {j : Nat} (hj : j < 64) (v : Int64) : ch_M (w ||| ((1 : Int64) <<< ((nI j).toInt64 &&& 63))) (vp_updL f j v) (vp_updL vf j v) (upd fu j (vp_nar .boolean 1)) := by
  intro k hk
  rw [ch_fill w hj k]
  by_cases e : k = j
  · subst e
    rw [pk_us, pk_uLs, pk_uLs]
    simp
    rfl
  · rw [pk_un e, pk_uLn e, pk_uLn e]
    have e2 : decide (j = k) = false := decide_eq_false (fun q => e q.symm)
    rw [e2, Bool.or_false]
    exact h k hk
theorem ch_M_er {w : Int64} {f vf : Nat → Int64} {fu : Nat → Int32} (h : ch_M w f vf fu) {a : Nat} : ∀ n, a + n ≤ 64 → ch_M (ch_er w a n) f vf (ch_fe fu a n)
  | 0, _ => h
  | n + 1, hn => by
    have ih := ch_M_er (a := a) h n (by omega)
    intro k hk
    have e1 := ch_clear (ch_er w a n) (k := a + n) (by omega) hk
    show upd (ch_fe fu a n) (a + n) (vp_nar .boolean 0) k = (if ch_bit (ch_er w a n &&& (((1 : Int64) <<< ((nI (a + n)).toInt64 &&& 63)) ^^^ (-1))) k then 1 else 0) ∧ (ch_bit (ch_er w a n &&& (((1 : Int64) <<< ((nI (a + n)).toInt64 &&& 63)) ^^^ (-1))) k = true → vf k = f k)
    rw [e1]
    by_cases e : k = a + n
    · subst e
      rw [pk_us]
      simp
      rfl
    · rw [pk_un e]
      have e2 : decide (a + n = k) = false := decide_eq_false (fun q => e q.symm)
      rw [e2, Bool.not_false, Bool.and_true]
      exact ih k hk
def ch_nx (w : Int64) : Nat → Nat → Nat
  | 0, k => k
  | n + 1, k => if ch_bit w k then k else ch_nx w n (k + 1)
theorem ch_nx_le (w : Int64) : ∀ n k, n + k = 64 → k ≤ ch_nx w n k ∧ ch_nx w n k ≤ 64
  | 0, k, h => ⟨Nat.le_refl _, by show k ≤ 64; omega⟩
  | n + 1, k, h => by
    have ih := ch_nx_le w n (k + 1) (by omega)
    show k ≤ (if ch_bit w k then k else ch_nx w n (k + 1)) ∧ (if ch_bit w k then k else ch_nx w n (k + 1)) ≤ 64
    split <;> omega
theorem ch_nx_bit (w : Int64) : ∀ n k, n + k = 64 → ch_nx w n k < 64 → ch_bit w (ch_nx w n k) = true
  | 0, k, h, h2 => by
    have h2 : k < 64 := h2
    omega
  | n + 1, k, h, h2 => by
    have ih := ch_nx_bit w n (k + 1) (by omega)
    have e : ch_nx w (n + 1) k = if ch_bit w k then k else ch_nx w n (k + 1) := rfl
    rw [e] at h2 ⊢
    by_cases hb : ch_bit w k = true
    · rw [if_pos hb]; exact hb
    · rw [if_neg hb] at h2 ⊢; exact ih h2
theorem ch_nx_runs (w : Int64) (f : Nat → Int64) : ∀ n k, n + k = 64 → ch_runs w f (ch_nx w n k) = ch_runs w f k
  | 0, k, h => rfl
  | n + 1, k, h => by
    have ih := ch_nx_runs w f n (k + 1) (by omega)
    show ch_runs w f (if ch_bit w k then k else ch_nx w n (k + 1)) = _
    by_cases hb : ch_bit w k = true
    · rw [if_pos hb]
    · rw [if_neg hb, ih]
      show (if ch_bit w k = true then _ else _) = _
      rw [if_neg hb]
/-- a row of ints holds a list of octets -/
def ch_I (f : Nat → Int32) (L : List Nat) : Prop := ∀ i, i < L.length → f i = nI (L.getD i 0)
theorem ch_I_add {f : Nat → Int32} {L : List Nat} {x : Int32} {o : Nat} (h : ch_I f L) (hx : x = nI o) : ch_I (upd f L.length x) (L ++ [o]) := by
  intro i hi
  rw [List.length_append] at hi
  by_cases e : i = L.length
  · subst e
    rw [pk_us, hx]
    simp
  · have hi' : i < L.length := by simp at hi; omega
    rw [pk_un e, h i hi']
    congr 1
    simp [List.getD, List.getElem?_append_left hi']
theorem ch_or1 : ∀ j, j < 8 → ∀ a, a < 256 → a < 2 ^ j → nI a ||| ((1 : Int32) <<< (nI j &&& 31)) = nI (a + 2 ^ j) := by decide +kernel
theorem ch_bit8 (w : Int64) (i j : Nat) : ch_bit w (8 * i + j) = decide (uN w / 256 ^ i / 2 ^ j % 2 = 1) := by
  unfold ch_bit
  rw [Nat.testBit_eq_decide_div_mod_eq, Nat.div_div_eq_div_mul, Nat.pow_add, ch_pow8]
theorem ch_mod2 (x j : Nat) : x % 2 ^ (j + 1) = x % 2 ^ j + 2 ^ j * (x / 2 ^ j % 2) := by
  rw [Nat.pow_succ, Nat.mod_mul]
theorem ch_add1 {E : List (Int64 × Nat)} {v : Int64} (h : E = [] ∨ ch_hd E ≠ v) : ch_add E v = (v, 1) :: E := by
  cases E with
  | nil => rfl
  | cons q t =>
    rw [ch_add_c, if_neg]
    rcases h with h | h
    · cases h
    · exact h
theorem ch_addn (E : List (Int64 × Nat)) (v : Int64) (n : Nat) : ch_add ((v, n) :: E) v = (v, n + 1) :: E := by rw [ch_add_c, if_pos rfl]
theorem ch_runs_bit {w : Int64} {k : Nat} (f : Nat → Int64) (h : ch_bit w k = true) : ch_runs w f (k + 1) = ch_add (ch_runs w f k) (f k) := by
  show (if ch_bit w k = true then _ else _) = _
  rw [if_pos h]
theorem ch_low7 (x : Int64) : (x &&& 127).toInt32 = nI (uN x % 128) := by
  have h1 : uN (x &&& 127) = uN x % 128 := by
    rw [uN_and']
    exact Nat.and_two_pow_sub_one_eq_mod _ 7
  have h2 : x &&& 127 = lN (uN x % 128) := uN_inj (by
    rw [h1]
    show _ = (uN x % 128) % 2 ^ 64
    omega)
  rw [h2, lN_i]
theorem ch_maskD (w : Int64) {i : Nat} (h : i < 8) : (ch_mask w).getD i 0 = uN w / 256 ^ i % 256 := by simp [ch_mask, List.getD, h]
def ch_WL (w : Int64) (E : List (Int64 × Nat)) : List Nat := ch_mask w ++ ch_octs E
theorem ch_WL_len (w : Int64) (E : List (Int64 × Nat)) : (ch_WL w E).length ≤ 8 + 11 * E.length := by
  have := ch_octs_len E
  unfold ch_WL
  rw [List.length_append, ch_mask_len]
  omega
theorem ch_WL_step (w : Int64) (E : List (Int64 × Nat)) (v : Int64) (n : Nat) : ch_WL w ((v, n) :: E) = (ch_WL w E ++ [n]) ++ ch_num 9 (uN (ch_zz (v - ch_hd E))) := by
  unfold ch_WL
  show ch_mask w ++ (ch_octs E ++ (n :: ch_num 9 (uN (ch_zz (v - ch_hd E))))) = _
  simp [List.append_assoc]
theorem ch_num_s {fu y : Nat} (h : y < 128) : ch_num fu y = [y] := by
  cases fu with
  | zero => rfl
  | succ n => unfold ch_num; rw [if_pos h]
theorem ch_num_b {fu y : Nat} (h : ¬ y < 128) : ch_num (fu + 1) y = (y % 128 + 128) :: ch_num fu (y / 128) := by
  show (if y < 128 then [y] else (y % 128 + 128) :: ch_num fu (y / 128)) = _
  rw [if_neg h]
theorem ch_sk7 (x : Int64) : uN (x.toUInt64 >>> ((7 : Int32).toInt64.toUInt64 &&& Int64.toUInt64 63)).toInt64 = uN x / 128 := uN_sk x (k := 7) (by decide)
theorem ch_l0 {y : Int64} : y = 0 ↔ uN y = 0 := ⟨fun h => by rw [h]; rfl, fun h => uN_inj (h.trans rfl)⟩
end
section
/-! A walk with its world, its locals and its operands in sight (gd_): what is fixed in a method lies in one tuple X. -/
/-- (the numbers and slots of the kinds), the kinds of int[], long[], byte[], boolean[], and the size of the heap at the start -/
abbrev gd_K : Type := va_G × ClassId × ClassId × ClassId × ClassId × Nat
abbrev gd_tys (K : gd_K) : List (ClassId × FieldType) := [(K.2.1, .int), (K.2.2.1, .long), (K.2.2.2.1, .byte), (K.2.2.2.2.1, .boolean)]
abbrev gd_sb (K : gd_K) : Nat := K.2.2.2.2.2
/-- arrays and objects of a world -/
abbrev gd_aI (K : gd_K) (r n : Nat) (f : Nat → Int32) : Nat × va_E := (r, .inl (K.2.1, n, .inl f))
abbrev gd_aJ (K : gd_K) (r n : Nat) (f : Nat → Int64) : Nat × va_E := (r, .inl (K.2.2.1, n, .inr (.inl f)))
abbrev gd_aB (K : gd_K) (r n : Nat) (f : Nat → Int32) : Nat × va_E := (r, .inl (K.2.2.2.1, n, .inl f))
abbrev gd_aZ (K : gd_K) (r n : Nat) (f : Nat → Int32) : Nat × va_E := (r, .inl (K.2.2.2.2.1, n, .inl f))
abbrev gd_ob (ci : Nat) (h : Nat) (fs : List Value) : Nat × va_E := (h, .inr (ci, fs))
/-- the texts of the throws -/
def gd_str : List (Nat × String) := [(135, "there is no such cell"), (65, "the cell is empty"), (107, "the code has no such octets"), (115, "a feed is of 1 to 8 octets"), (118, "more would be fed than there is room for"), (127, "what was fed is no code"), (133, "there is no such count")]
/-- the two statics that a throw reads, and its texts -/
def gd_Z (sb : Nat) (U : State) (H : Heap) : Prop :=
  vx_Zq Bundle.tN "UNASSIGNED_STACK" Bundle.steD (fun q => sb ≤ q) U H ∧ vx_Zq Bundle.tN "SUPPRESSED_SENTINEL" Bundle.listD (fun q => sb ≤ q) U H ∧ (∀ x ∈ gd_str, ∃ a, vk_R "ChunkCode" x.1 x.2 a U) ∧ va_Nc "java/lang/IndexOutOfBoundsException" "java/lang/IllegalArgumentException" U ∧ va_Nc "java/lang/UnsupportedOperationException" "java/lang/IndexOutOfBoundsException" U
theorem gd_Z.at {sb : Nat} {s U : State} (hW : s.WarmedH U.vm) (hq : ∀ q, q < sb → U.heap[q]? = s.heap[q]?) (h : gd_Z sb s s.heap) : gd_Z sb U U.heap := by
  obtain ⟨h1, h2, h3, h4, h5⟩ := h
  have hk : ∀ a : Nat, a < s.heap.size → ¬ (sb ≤ a) → U.heap[a]? = s.heap[a]? := fun a _ h => hq a (Nat.lt_of_not_le h)
  refine ⟨vx_Zq.moved hW.alike (h1.kept hk), vx_Zq.moved hW.alike (h2.kept hk), fun x hx => ?_, va_Nc.moved hW.alike h4, va_Nc.moved hW.alike h5⟩
  obtain ⟨a, ha⟩ := h3 x hx
  exact ⟨a, vk_R.warm hW ha⟩
/-- what holds in every state of the run: the tables' words, the kinds, the statics that a throw reads -/
def gd_S (K : gd_K) (args : Array Value) (s : State) : Prop :=
  (∀ w ∈ TS, w.before args s = true) ∧ va_K K.1 cls_ (gd_tys K) s ∧ gd_sb K ≤ s.heap.size ∧ gd_Z (gd_sb K) s s.heap
/-- how a method ends: its answer, or the kind of what it throws, with its world -/
def gd_Q (below : List Frame) (s : State) (K : gd_K) (wc : va_W) (post : Option Value → va_W → Prop) (xp : String → va_W → Prop) (mc ms : Nat) : State → Prop := fun t =>
  ∃ (o : Outcome) (L : List Loc), t.status = .running ∧ Ended t below o ∧ s.WarmedH t.vm ∧ s.sameButNew ({ t with vm := s.vm } : State) L mc ms ∧ (∀ q ∈ L, va_A wc s.heap.size q.base) ∧
    va_F (va_A wc s.heap.size) s t ∧
    ((∃ (v : Option Value) (w1 : va_W), o = .returned v ∧ post v w1 ∧ va_P K.1 cls_ w1 t.heap ∧ va_D (va_A wc s.heap.size) w1) ∨
     (∃ (q : Addr) (E : String) (w1 : va_W) (ce : Cell), o = .threw q ∧ xp E w1 ∧ va_P K.1 cls_ w1 t.heap ∧ va_D (va_A wc s.heap.size) w1 ∧ t.heap[q]? = some ce ∧ ce.vm = .none ∧ s.vm.findClass E = some ce.cls))
/-- a method's contract: from every state of the run, with the world wc -/
def gd_M (l : Launch) (y : MethodName) (cc : ByteArray) (maxL : Nat) (ret : Option FieldType) (tb : List (Nat × Nat × Nat × Nat)) (fr lo mc ms : Nat) (K : gd_K) (As : List Value) (wc : va_W) (post : Option Value → va_W → Prop) (xp : String → va_W → Prop) : Prop :=
  ∀ (p : Program) (e : Env) (s : State) (m : MethodId) (args : Array Value) (below : List Frame) (meth : Method) (c : Code) (T : State),
    Stand p l e { frames := fr, cells := mc, slots := ms, locals := lo } s m args below meth c T [] 0 0 → T.heap = s.heap → p.tables.exec = Jvm.exec → gd_S K args s →
    c.code = cc → c.maxLocals = maxL → c.exceptionTable.toList.map (fun h => (h.startPc, h.endPc, h.handlerPc, h.catchType)) = tb → meth.sig.returnType = ret → meth.locks = false →
    s.vm.findClass y.cls = some m.cls → meth.name = y.name → args = As.toArray → va_P K.1 cls_ wc s.heap → va_D (fun q => gd_sb K ≤ q) wc →
    ∃ t, Steps p.tables e below (T.setTop (entryFrame m args maxL)) t ∧ gd_Q below s K wc post xp mc ms t
abbrev gd_X : Type := Program × Launch × Env × Room × State × MethodId × Array Value × List Frame × Method × Code × (State → Prop) × Nat × (Nat → Prop)
abbrev gx_p (X : gd_X) := X.1
abbrev gx_l (X : gd_X) := X.2.1
abbrev gx_e (X : gd_X) := X.2.2.1
abbrev gx_R (X : gd_X) := X.2.2.2.1
abbrev gx_s (X : gd_X) := X.2.2.2.2.1
abbrev gx_m (X : gd_X) := X.2.2.2.2.2.1
abbrev gx_args (X : gd_X) := X.2.2.2.2.2.2.1
abbrev gx_below (X : gd_X) := X.2.2.2.2.2.2.2.1
abbrev gx_meth (X : gd_X) := X.2.2.2.2.2.2.2.2.1
abbrev gx_c (X : gd_X) := X.2.2.2.2.2.2.2.2.2.1
abbrev gx_Q (X : gd_X) := X.2.2.2.2.2.2.2.2.2.2.1
abbrev gx_nL (X : gd_X) := X.2.2.2.2.2.2.2.2.2.2.2.1
abbrev gx_A (X : gd_X) := X.2.2.2.2.2.2.2.2.2.2.2.2
def gd_W (X : gd_X) (K : gd_K) (cells slots : Nat) (ws : va_W) (lv : List (Nat × Value)) (st : List Value) (pc : Nat) : Prop :=
  ∀ (H : Heap) (locs : List Loc) (ls : Array Slot), va_P K.1 cls_ ws H → va_D (gx_A X) ws → va_S (gx_A X) (gx_s X).heap H locs → lv_has ls (gx_nL X) lv →
    W (gx_p X) (gx_l X) (gx_e X) (gx_R X) (gx_s X) (gx_m X) (gx_args X) (gx_below X) (gx_meth X) (gx_c X) H locs cells slots (gx_Q X) (F0 (gx_m X) pc ls st)
/-- .. with an object of the kind E thrown at the instruction -/
def gd_T (X : gd_X) (K : gd_K) (cells slots : Nat) (ws : va_W) (lv : List (Nat × Value)) (st : List Value) (pc : Nat) (E : String) (q : Addr) : Prop :=
  ∀ (H : Heap) (locs : List Loc) (ls : Array Slot) (ce : Cell) (T : State), va_P K.1 cls_ ws H → va_D (gx_A X) ws → va_S (gx_A X) (gx_s X).heap H locs → lv_has ls (gx_nL X) lv →
    H[q]? = some ce → ce.vm = .none → (gx_s X).vm.findClass E = some ce.cls → T.heap = H →
    Stand (gx_p X) (gx_l X) (gx_e X) (gx_R X) (gx_s X) (gx_m X) (gx_args X) (gx_below X) (gx_meth X) (gx_c X) T locs cells slots →
    ∃ t, Steps (gx_p X).tables (gx_e X) (gx_below X) ((T.setTop (F0 (gx_m X) pc ls st)).pushFrame (.throwing q)) t ∧ gx_Q X t
/-- what is fixed in the method -/
def gd_C (X : gd_X) (K : gd_K) (cc : ByteArray) (own : String) (nL : Nat) (tb : List (Nat × Nat × Nat × Nat)) (rm : Room) : Prop :=
  (gx_p X).tables.exec = Jvm.exec ∧ (gx_c X).code = cc ∧ gd_S K (gx_args X) (gx_s X) ∧ (gx_s X).vm.findClass own = some (gx_m X).cls ∧ (∀ q, (gx_s X).heap.size ≤ q → gx_A X q) ∧ (∀ q, gx_A X q → gd_sb K ≤ q) ∧
  gx_nL X = nL ∧ (gx_c X).maxLocals = gx_nL X ∧ (gx_c X).exceptionTable.toList.map (fun h => (h.startPc, h.endPc, h.handlerPc, h.catchType)) = tb ∧ (gx_meth X).locks = false ∧ gx_R X = rm
/-- what the method owes at its end -/
def gd_E (X : gd_X) (K : gd_K) (ret : Option FieldType) (wc : va_W) (post : Option Value → va_W → Prop) (xp : String → va_W → Prop) (mc ms : Nat) : Prop :=
  (gx_meth X).sig.returnType = ret ∧ gx_A X = va_A wc (gx_s X).heap.size ∧ gx_Q X = gd_Q (gx_below X) (gx_s X) K wc post xp mc ms
theorem gd_weak {tb : Tables} {e : Env} {mid below : List Frame} {a b : State} (h : Steps tb e (mid ++ below) a b) : Steps tb e below a b := by
  obtain ⟨n, hn, w⟩ := h
  exact ⟨n, hn, fun k hk => (w k hk).weaken⟩
def gd_lk : List (Nat × Value) → Nat → Option Value
  | [], _ => none
  | q :: r, i => if q.1 = i then some q.2 else gd_lk r i
theorem gd_lk_at {ls : Array Slot} {nL : Nat} : ∀ {lv : List (Nat × Value)} {i : Nat} {v : Value}, lv_has ls nL lv → gd_lk lv i = some v → ls[i]? = some (.val v)
  | [], _, _, _, h => nomatch h
  | q :: r, i, v, h, hk => by
    unfold gd_lk at hk
    by_cases e : q.1 = i
    · rw [if_pos e] at hk
      have := h.2.2 q List.mem_cons_self
      rw [e] at this
      rw [this]
      cases hk
      rfl
    · rw [if_neg e] at hk
      exact gd_lk_at (lv := r) ⟨h.1, h.2.1, fun z hz => h.2.2 z (List.mem_cons_of_mem _ hz)⟩ hk
theorem gd_sub {ls : Array Slot} {nL : Nat} {lv lv' : List (Nat × Value)} (h : lv_has ls nL lv) (hs : ∀ q ∈ lv', q ∈ lv) : lv_has ls nL lv' := ⟨h.1, h.2.1, fun q hq => h.2.2 q (hs q hq)⟩
/-- a method's body, from its entry -/
theorem gd_body {l : Launch} {y : MethodName} {cc : ByteArray} {maxL : Nat} {ret : Option FieldType} {tb : List (Nat × Nat × Nat × Nat)} {fr lo mc ms : Nat} {K : gd_K} {As : List Value} {wc : va_W} {post : Option Value → va_W → Prop} {xp : String → va_W → Prop}
    (hlen : (lg_sl As).length ≤ maxL)
    (h : ∀ X : gd_X, gx_l X = l → (gx_meth X).name = y.name → gd_E X K ret wc post xp mc ms →
      gd_C X K cc y.cls maxL tb { frames := fr, cells := mc, slots := ms, locals := lo } → gd_W X K 0 0 wc (lv_args 0 As) [] 0) :
    gd_M l y cc maxL ret tb fr lo mc ms K As wc post xp := by
  intro p e s m args below meth c T Y hT hx hS hb hml htb hr hlk hown hnm ha hP hD
  subst ha
  have hl := lv_entry As (n := maxL) hlen
  have hA : ∀ q, va_A wc s.heap.size q → gd_sb K ≤ q := by
    intro q hq
    rcases hq with ⟨k, e1, h1⟩ | h1
    · exact hD.2 k _ h1
    · exact Nat.le_trans hS.2.2.1 h1
  have hg := h (p, l, e, { frames := fr, cells := mc, slots := ms, locals := lo }, s, m, As.toArray, below, meth, c, gd_Q below s K wc post xp mc ms, maxL, va_A wc s.heap.size) rfl hnm ⟨hr, rfl, rfl⟩
    ⟨hx, hb, hS, hown, fun q hq => Or.inr hq, hA, rfl, hml, htb, hlk, rfl⟩
    s.heap [] _ hP (hD.self (sz := s.heap.size)) va_S.rf hl
  obtain ⟨t, h1, h2⟩ := hg T hT Y
  refine ⟨t, ?_, h2⟩
  rw [lg_entry_eq]
  exact h1
end
section
/-! one row an instruction, over gd_W; written by program (wip/whole/mklayer.py) -/
section GDI
variable {X : gd_X} {K : gd_K} {cc : ByteArray} {own : String} {nL : Nat} {tb : List (Nat × Nat × Nat × Nat)} {rm : Room} {cells slots : Nat} {ws : va_W} {lv : List (Nat × Value)} {st : List Value}
theorem gd_iconst (hX : gd_C X K cc own nL tb rm) {n : Int} {v : Int32} (pc : Nat) (hd : decode cc pc = .ok (.iconst n, 1)) (hv : Int32.ofInt n = v) (k : gd_W X K cells slots ws lv (.int v :: st) (pc + 1)) : gd_W X K cells slots ws lv (st) pc := by
  intro H locs ls hP hD hS hl
  exact lv_iconst hX.1 hX.2.1 hd hv (k H locs ls hP hD hS hl)
theorem gd_bipush (hX : gd_C X K cc own nL tb rm) {n : Int} {v : Int32} (pc : Nat) (hd : decode cc pc = .ok (.bipush n, 2)) (hv : (Int8.ofInt n).toInt32 = v) (k : gd_W X K cells slots ws lv (.int v :: st) (pc + 2)) : gd_W X K cells slots ws lv (st) pc := by
  intro H locs ls hP hD hS hl
  exact lv_bipush hX.1 hX.2.1 hd hv (k H locs ls hP hD hS hl)
theorem gd_sipush (hX : gd_C X K cc own nL tb rm) {n : Int} {v : Int32} (pc : Nat) (hd : decode cc pc = .ok (.sipush n, 3)) (hv : (Int16.ofInt n).toInt32 = v) (k : gd_W X K cells slots ws lv (.int v :: st) (pc + 3)) : gd_W X K cells slots ws lv (st) pc := by
  intro H locs ls hP hD hS hl
  exact lv_sipush hX.1 hX.2.1 hd hv (k H locs ls hP hD hS hl)
theorem gd_lconst (hX : gd_C X K cc own nL tb rm) {n : Fin 2} {v : Int64} (pc : Nat) (hd : decode cc pc = .ok (.lconst n, 1)) (hv : Int64.ofNat (n : Nat) = v) (k : gd_W X K cells slots ws lv (.long v :: st) (pc + 1)) : gd_W X K cells slots ws lv (st) pc := by
  intro H locs ls hP hD hS hl
  exact lv_lconst hX.1 hX.2.1 hd hv (k H locs ls hP hD hS hl)
theorem gd_iload_n (hX : gd_C X K cc own nL tb rm) {k0 : Fin 4} {x : Int32} (pc : Nat) (hd : decode cc pc = .ok (.iload_n k0, 1)) (hk : gd_lk lv (k0 : Nat) = some (.int x)) (k : gd_W X K cells slots ws lv (.int x :: st) (pc + 1)) : gd_W X K cells slots ws lv (st) pc := by
  intro H locs ls hP hD hS hl
  exact lv_iload_n hX.1 hX.2.1 hd rfl (gd_lk_at hl hk) (k H locs ls hP hD hS hl)
theorem gd_iload (hX : gd_C X K cc own nL tb rm) {i : Nat} {x : Int32} (pc : Nat) (hd : decode cc pc = .ok (.iload i, 2)) (hk : gd_lk lv i = some (.int x)) (k : gd_W X K cells slots ws lv (.int x :: st) (pc + 2)) : gd_W X K cells slots ws lv (st) pc := by
  intro H locs ls hP hD hS hl
  exact lv_iload hX.1 hX.2.1 hd (gd_lk_at hl hk) (k H locs ls hP hD hS hl)
theorem gd_istore_n (hX : gd_C X K cc own nL tb rm) {k0 : Fin 4} {i : Nat} {x : Int32} (lv' : List (Nat × Value)) (pc : Nat) (hd : decode cc pc = .ok (.istore_n k0, 1)) (hi : (k0 : Nat) = i) (hn : i < nL) (hv : (i, Value.int x) :: lv.filter (fun q => !(q.1 == i) && !(q.1 + 1 == i && q.2.category == 2)) = lv') (k : gd_W X K cells slots ws lv' st (pc + 1)) : gd_W X K cells slots ws lv (.int x :: st) pc := by
  intro H locs ls hP hD hS hl
  exact lv_istore_n hX.1 hX.2.1 hd hi hl (by rw [hX.2.2.2.2.2.2.1]; exact hn) hv (fun ls1 hl1 => k H locs ls1 hP hD hS hl1)
theorem gd_istore (hX : gd_C X K cc own nL tb rm) {i : Nat} {x : Int32} (lv' : List (Nat × Value)) (pc : Nat) (hd : decode cc pc = .ok (.istore i, 2))  (hn : i < nL) (hv : (i, Value.int x) :: lv.filter (fun q => !(q.1 == i) && !(q.1 + 1 == i && q.2.category == 2)) = lv') (k : gd_W X K cells slots ws lv' st (pc + 2)) : gd_W X K cells slots ws lv (.int x :: st) pc := by
  intro H locs ls hP hD hS hl
  exact lv_istore hX.1 hX.2.1 hd hl (by rw [hX.2.2.2.2.2.2.1]; exact hn) hv (fun ls1 hl1 => k H locs ls1 hP hD hS hl1)
theorem gd_lload_n (hX : gd_C X K cc own nL tb rm) {k0 : Fin 4} {x : Int64} (pc : Nat) (hd : decode cc pc = .ok (.lload_n k0, 1)) (hk : gd_lk lv (k0 : Nat) = some (.long x)) (k : gd_W X K cells slots ws lv (.long x :: st) (pc + 1)) : gd_W X K cells slots ws lv (st) pc := by
  intro H locs ls hP hD hS hl
  exact lv_lload_n hX.1 hX.2.1 hd rfl (gd_lk_at hl hk) (k H locs ls hP hD hS hl)
theorem gd_lload (hX : gd_C X K cc own nL tb rm) {i : Nat} {x : Int64} (pc : Nat) (hd : decode cc pc = .ok (.lload i, 2)) (hk : gd_lk lv i = some (.long x)) (k : gd_W X K cells slots ws lv (.long x :: st) (pc + 2)) : gd_W X K cells slots ws lv (st) pc := by
  intro H locs ls hP hD hS hl
  exact lv_lload hX.1 hX.2.1 hd (gd_lk_at hl hk) (k H locs ls hP hD hS hl)
theorem gd_lstore_n (hX : gd_C X K cc own nL tb rm) {k0 : Fin 4} {i : Nat} {x : Int64} (lv' : List (Nat × Value)) (pc : Nat) (hd : decode cc pc = .ok (.lstore_n k0, 1)) (hi : (k0 : Nat) = i) (hn : i + 1 < nL) (hv : (i, Value.long x) :: lv.filter (fun q => !(q.1 == i) && (!(q.1 == i + 1) && !(q.1 + 1 == i && q.2.category == 2))) = lv') (k : gd_W X K cells slots ws lv' st (pc + 1)) : gd_W X K cells slots ws lv (.long x :: st) pc := by
  intro H locs ls hP hD hS hl
  exact lv_lstore_n hX.1 hX.2.1 hd hi hl (by rw [hX.2.2.2.2.2.2.1]; exact hn) hv (fun ls1 hl1 => k H locs ls1 hP hD hS hl1)
theorem gd_lstore (hX : gd_C X K cc own nL tb rm) {i : Nat} {x : Int64} (lv' : List (Nat × Value)) (pc : Nat) (hd : decode cc pc = .ok (.lstore i, 2))  (hn : i + 1 < nL) (hv : (i, Value.long x) :: lv.filter (fun q => !(q.1 == i) && (!(q.1 == i + 1) && !(q.1 + 1 == i && q.2.category == 2))) = lv') (k : gd_W X K cells slots ws lv' st (pc + 2)) : gd_W X K cells slots ws lv (.long x :: st) pc := by
  intro H locs ls hP hD hS hl
  exact lv_lstore hX.1 hX.2.1 hd hl (by rw [hX.2.2.2.2.2.2.1]; exact hn) hv (fun ls1 hl1 => k H locs ls1 hP hD hS hl1)
theorem gd_aload_n (hX : gd_C X K cc own nL tb rm) {k0 : Fin 4} {x : Nat} (pc : Nat) (hd : decode cc pc = .ok (.aload_n k0, 1)) (hk : gd_lk lv (k0 : Nat) = some (.ref x)) (k : gd_W X K cells slots ws lv (.ref x :: st) (pc + 1)) : gd_W X K cells slots ws lv (st) pc := by
  intro H locs ls hP hD hS hl
  exact lv_aload_n hX.1 hX.2.1 hd rfl (gd_lk_at hl hk) (k H locs ls hP hD hS hl)
theorem gd_aload (hX : gd_C X K cc own nL tb rm) {i : Nat} {x : Nat} (pc : Nat) (hd : decode cc pc = .ok (.aload i, 2)) (hk : gd_lk lv i = some (.ref x)) (k : gd_W X K cells slots ws lv (.ref x :: st) (pc + 2)) : gd_W X K cells slots ws lv (st) pc := by
  intro H locs ls hP hD hS hl
  exact lv_aload hX.1 hX.2.1 hd (gd_lk_at hl hk) (k H locs ls hP hD hS hl)
theorem gd_astore_n (hX : gd_C X K cc own nL tb rm) {k0 : Fin 4} {i : Nat} {x : Nat} (lv' : List (Nat × Value)) (pc : Nat) (hd : decode cc pc = .ok (.astore_n k0, 1)) (hi : (k0 : Nat) = i) (hn : i < nL) (hv : (i, Value.ref x) :: lv.filter (fun q => !(q.1 == i) && !(q.1 + 1 == i && q.2.category == 2)) = lv') (k : gd_W X K cells slots ws lv' st (pc + 1)) : gd_W X K cells slots ws lv (.ref x :: st) pc := by
  intro H locs ls hP hD hS hl
  exact lv_astore_n hX.1 hX.2.1 hd hi hl (by rw [hX.2.2.2.2.2.2.1]; exact hn) hv (fun ls1 hl1 => k H locs ls1 hP hD hS hl1)
theorem gd_astore (hX : gd_C X K cc own nL tb rm) {i : Nat} {x : Nat} (lv' : List (Nat × Value)) (pc : Nat) (hd : decode cc pc = .ok (.astore i, 2))  (hn : i < nL) (hv : (i, Value.ref x) :: lv.filter (fun q => !(q.1 == i) && !(q.1 + 1 == i && q.2.category == 2)) = lv') (k : gd_W X K cells slots ws lv' st (pc + 2)) : gd_W X K cells slots ws lv (.ref x :: st) pc := by
  intro H locs ls hP hD hS hl
  exact lv_astore hX.1 hX.2.1 hd hl (by rw [hX.2.2.2.2.2.2.1]; exact hn) hv (fun ls1 hl1 => k H locs ls1 hP hD hS hl1)
theorem gd_iinc (hX : gd_C X K cc own nL tb rm) {i : Nat} {n : Int} {x v : Int32} (j : Nat) (lv' : List (Nat × Value)) (pc : Nat) (hd : decode cc pc = .ok (.iinc i n, 3)) (hj : lv[j]? = some (i, .int x)) (hv : x + Int32.ofInt n = v) (hn : i < nL) (hw : (i, Value.int v) :: lv.filter (fun q => !(q.1 == i) && !(q.1 + 1 == i && q.2.category == 2)) = lv') (k : gd_W X K cells slots ws lv' st (pc + 3)) : gd_W X K cells slots ws lv st pc := by
  intro H locs ls hP hD hS hl
  exact lv_iinc hX.1 hX.2.1 hd hl hj hv (by rw [hX.2.2.2.2.2.2.1]; exact hn) hw (fun ls1 hl1 => k H locs ls1 hP hD hS hl1)
theorem gd_iadd (hX : gd_C X K cc own nL tb rm) {x y : Int32} (pc : Nat) (hd : decode cc pc = .ok (.iadd, 1))  (k : gd_W X K cells slots ws lv (.int (x + y) :: st) (pc + 1)) : gd_W X K cells slots ws lv (.int y :: .int x :: st) pc := by
  intro H locs ls hP hD hS hl
  exact lv_iadd hX.1 hX.2.1 hd (k H locs ls hP hD hS hl)
theorem gd_isub (hX : gd_C X K cc own nL tb rm) {x y : Int32} (pc : Nat) (hd : decode cc pc = .ok (.isub, 1))  (k : gd_W X K cells slots ws lv (.int (x - y) :: st) (pc + 1)) : gd_W X K cells slots ws lv (.int y :: .int x :: st) pc := by
  intro H locs ls hP hD hS hl
  exact lv_isub hX.1 hX.2.1 hd (k H locs ls hP hD hS hl)
theorem gd_imul (hX : gd_C X K cc own nL tb rm) {x y : Int32} (pc : Nat) (hd : decode cc pc = .ok (.imul, 1))  (k : gd_W X K cells slots ws lv (.int (x * y) :: st) (pc + 1)) : gd_W X K cells slots ws lv (.int y :: .int x :: st) pc := by
  intro H locs ls hP hD hS hl
  exact lv_imul hX.1 hX.2.1 hd (k H locs ls hP hD hS hl)
theorem gd_iand (hX : gd_C X K cc own nL tb rm) {x y : Int32} (pc : Nat) (hd : decode cc pc = .ok (.iand, 1))  (k : gd_W X K cells slots ws lv (.int (x &&& y) :: st) (pc + 1)) : gd_W X K cells slots ws lv (.int y :: .int x :: st) pc := by
  intro H locs ls hP hD hS hl
  exact lv_iand hX.1 hX.2.1 hd (k H locs ls hP hD hS hl)
theorem gd_ior (hX : gd_C X K cc own nL tb rm) {x y : Int32} (pc : Nat) (hd : decode cc pc = .ok (.ior, 1))  (k : gd_W X K cells slots ws lv (.int (x ||| y) :: st) (pc + 1)) : gd_W X K cells slots ws lv (.int y :: .int x :: st) pc := by
  intro H locs ls hP hD hS hl
  exact lv_ior hX.1 hX.2.1 hd (k H locs ls hP hD hS hl)
theorem gd_ixor (hX : gd_C X K cc own nL tb rm) {x y : Int32} (pc : Nat) (hd : decode cc pc = .ok (.ixor, 1))  (k : gd_W X K cells slots ws lv (.int (x ^^^ y) :: st) (pc + 1)) : gd_W X K cells slots ws lv (.int y :: .int x :: st) pc := by
  intro H locs ls hP hD hS hl
  exact lv_ixor hX.1 hX.2.1 hd (k H locs ls hP hD hS hl)
theorem gd_ishl (hX : gd_C X K cc own nL tb rm) {x y : Int32} (pc : Nat) (hd : decode cc pc = .ok (.ishl, 1))  (k : gd_W X K cells slots ws lv (.int (x <<< (y &&& 31)) :: st) (pc + 1)) : gd_W X K cells slots ws lv (.int y :: .int x :: st) pc := by
  intro H locs ls hP hD hS hl
  exact lv_ishl hX.1 hX.2.1 hd (k H locs ls hP hD hS hl)
theorem gd_ishr (hX : gd_C X K cc own nL tb rm) {x y : Int32} (pc : Nat) (hd : decode cc pc = .ok (.ishr, 1))  (k : gd_W X K cells slots ws lv (.int (x >>> (y &&& 31)) :: st) (pc + 1)) : gd_W X K cells slots ws lv (.int y :: .int x :: st) pc := by
  intro H locs ls hP hD hS hl
  exact lv_ishr hX.1 hX.2.1 hd (k H locs ls hP hD hS hl)
theorem gd_idiv (hX : gd_C X K cc own nL tb rm) {x y : Int32} (pc : Nat) (hd : decode cc pc = .ok (.idiv, 1)) (hne : ¬ y = 0) (k : gd_W X K cells slots ws lv (.int (x / y) :: st) (pc + 1)) : gd_W X K cells slots ws lv (.int y :: .int x :: st) pc := by
  intro H locs ls hP hD hS hl
  exact lv_idiv hX.1 hX.2.1 hd hne (k H locs ls hP hD hS hl)
theorem gd_irem (hX : gd_C X K cc own nL tb rm) {x y : Int32} (pc : Nat) (hd : decode cc pc = .ok (.irem, 1)) (hne : ¬ y = 0) (k : gd_W X K cells slots ws lv (.int (x - x / y * y) :: st) (pc + 1)) : gd_W X K cells slots ws lv (.int y :: .int x :: st) pc := by
  intro H locs ls hP hD hS hl
  exact lv_irem hX.1 hX.2.1 hd hne (k H locs ls hP hD hS hl)
theorem gd_ladd (hX : gd_C X K cc own nL tb rm) {x y : Int64} (pc : Nat) (hd : decode cc pc = .ok (.ladd, 1))  (k : gd_W X K cells slots ws lv (.long (x + y) :: st) (pc + 1)) : gd_W X K cells slots ws lv (.long y :: .long x :: st) pc := by
  intro H locs ls hP hD hS hl
  exact lv_ladd hX.1 hX.2.1 hd (k H locs ls hP hD hS hl)
theorem gd_lsub (hX : gd_C X K cc own nL tb rm) {x y : Int64} (pc : Nat) (hd : decode cc pc = .ok (.lsub, 1))  (k : gd_W X K cells slots ws lv (.long (x - y) :: st) (pc + 1)) : gd_W X K cells slots ws lv (.long y :: .long x :: st) pc := by
  intro H locs ls hP hD hS hl
  exact lv_lsub hX.1 hX.2.1 hd (k H locs ls hP hD hS hl)
theorem gd_lmul (hX : gd_C X K cc own nL tb rm) {x y : Int64} (pc : Nat) (hd : decode cc pc = .ok (.lmul, 1))  (k : gd_W X K cells slots ws lv (.long (x * y) :: st) (pc + 1)) : gd_W X K cells slots ws lv (.long y :: .long x :: st) pc := by
  intro H locs ls hP hD hS hl
  exact lv_lmul hX.1 hX.2.1 hd (k H locs ls hP hD hS hl)
theorem gd_land (hX : gd_C X K cc own nL tb rm) {x y : Int64} (pc : Nat) (hd : decode cc pc = .ok (.land, 1))  (k : gd_W X K cells slots ws lv (.long (x &&& y) :: st) (pc + 1)) : gd_W X K cells slots ws lv (.long y :: .long x :: st) pc := by
  intro H locs ls hP hD hS hl
  exact lv_land hX.1 hX.2.1 hd (k H locs ls hP hD hS hl)
theorem gd_lor (hX : gd_C X K cc own nL tb rm) {x y : Int64} (pc : Nat) (hd : decode cc pc = .ok (.lor, 1))  (k : gd_W X K cells slots ws lv (.long (x ||| y) :: st) (pc + 1)) : gd_W X K cells slots ws lv (.long y :: .long x :: st) pc := by
  intro H locs ls hP hD hS hl
  exact lv_lor hX.1 hX.2.1 hd (k H locs ls hP hD hS hl)
theorem gd_lxor (hX : gd_C X K cc own nL tb rm) {x y : Int64} (pc : Nat) (hd : decode cc pc = .ok (.lxor, 1))  (k : gd_W X K cells slots ws lv (.long (x ^^^ y) :: st) (pc + 1)) : gd_W X K cells slots ws lv (.long y :: .long x :: st) pc := by
  intro H locs ls hP hD hS hl
  exact lv_lxor hX.1 hX.2.1 hd (k H locs ls hP hD hS hl)
theorem gd_lneg (hX : gd_C X K cc own nL tb rm) {x : Int64} (pc : Nat) (hd : decode cc pc = .ok (.lneg, 1))  (k : gd_W X K cells slots ws lv (.long (-x) :: st) (pc + 1)) : gd_W X K cells slots ws lv (.long x :: st) pc := by
  intro H locs ls hP hD hS hl
  exact lv_lneg hX.1 hX.2.1 hd (k H locs ls hP hD hS hl)
theorem gd_ineg (hX : gd_C X K cc own nL tb rm) {x : Int32} (pc : Nat) (hd : decode cc pc = .ok (.ineg, 1))  (k : gd_W X K cells slots ws lv (.int (-x) :: st) (pc + 1)) : gd_W X K cells slots ws lv (.int x :: st) pc := by
  intro H locs ls hP hD hS hl
  exact lv_ineg hX.1 hX.2.1 hd (k H locs ls hP hD hS hl)
theorem gd_lushr (hX : gd_C X K cc own nL tb rm) {x : Int64} {y : Int32} (pc : Nat) (hd : decode cc pc = .ok (.lushr, 1))  (k : gd_W X K cells slots ws lv (.long (x.toUInt64 >>> (y.toInt64.toUInt64 &&& Int64.toUInt64 63)).toInt64 :: st) (pc + 1)) : gd_W X K cells slots ws lv (.int y :: .long x :: st) pc := by
  intro H locs ls hP hD hS hl
  exact lv_lushr hX.1 hX.2.1 hd rfl (k H locs ls hP hD hS hl)
theorem gd_lshl (hX : gd_C X K cc own nL tb rm) {x : Int64} {y : Int32} (pc : Nat) (hd : decode cc pc = .ok (.lshl, 1))  (k : gd_W X K cells slots ws lv (.long (x <<< (y.toInt64 &&& 63)) :: st) (pc + 1)) : gd_W X K cells slots ws lv (.int y :: .long x :: st) pc := by
  intro H locs ls hP hD hS hl
  exact lv_lshl hX.1 hX.2.1 hd rfl (k H locs ls hP hD hS hl)
theorem gd_lshr (hX : gd_C X K cc own nL tb rm) {x : Int64} {y : Int32} (pc : Nat) (hd : decode cc pc = .ok (.lshr, 1))  (k : gd_W X K cells slots ws lv (.long (x >>> (y.toInt64 &&& 63)) :: st) (pc + 1)) : gd_W X K cells slots ws lv (.int y :: .long x :: st) pc := by
  intro H locs ls hP hD hS hl
  exact lv_lshr hX.1 hX.2.1 hd rfl (k H locs ls hP hD hS hl)
theorem gd_iushr (hX : gd_C X K cc own nL tb rm) {x y : Int32} (pc : Nat) (hd : decode cc pc = .ok (.iushr, 1))  (k : gd_W X K cells slots ws lv (.int (x.toUInt32 >>> (y.toUInt32 &&& Int32.toUInt32 31)).toInt32 :: st) (pc + 1)) : gd_W X K cells slots ws lv (.int y :: .int x :: st) pc := by
  intro H locs ls hP hD hS hl
  exact lv_iushr hX.1 hX.2.1 hd rfl (k H locs ls hP hD hS hl)
theorem gd_i2l (hX : gd_C X K cc own nL tb rm) {x : Int32} (pc : Nat) (hd : decode cc pc = .ok (.i2l, 1))  (k : gd_W X K cells slots ws lv (.long x.toInt64 :: st) (pc + 1)) : gd_W X K cells slots ws lv (.int x :: st) pc := by
  intro H locs ls hP hD hS hl
  exact lv_i2l hX.1 hX.2.1 hd rfl (k H locs ls hP hD hS hl)
theorem gd_l2i (hX : gd_C X K cc own nL tb rm) {x : Int64} (pc : Nat) (hd : decode cc pc = .ok (.l2i, 1))  (k : gd_W X K cells slots ws lv (.int x.toInt32 :: st) (pc + 1)) : gd_W X K cells slots ws lv (.long x :: st) pc := by
  intro H locs ls hP hD hS hl
  exact lv_l2i hX.1 hX.2.1 hd rfl (k H locs ls hP hD hS hl)
theorem gd_i2b (hX : gd_C X K cc own nL tb rm) {x : Int32} (pc : Nat) (hd : decode cc pc = .ok (.i2b, 1))  (k : gd_W X K cells slots ws lv (.int x.toInt8.toInt32 :: st) (pc + 1)) : gd_W X K cells slots ws lv (.int x :: st) pc := by
  intro H locs ls hP hD hS hl
  exact lv_i2b hX.1 hX.2.1 hd rfl (k H locs ls hP hD hS hl)
theorem gd_dup (hX : gd_C X K cc own nL tb rm) {va : Value} (pc : Nat) (hd : decode cc pc = .ok (.dup, 1)) (hva : va.category = 1) (k : gd_W X K cells slots ws lv (va :: va :: st) (pc + 1)) : gd_W X K cells slots ws lv (va :: st) pc := by
  intro H locs ls hP hD hS hl
  exact lv_dup hX.1 hX.2.1 hd hva (k H locs ls hP hD hS hl)
theorem gd_pop (hX : gd_C X K cc own nL tb rm) {va : Value} (pc : Nat) (hd : decode cc pc = .ok (.pop, 1)) (hva : va.category = 1) (k : gd_W X K cells slots ws lv (st) (pc + 1)) : gd_W X K cells slots ws lv (va :: st) pc := by
  intro H locs ls hP hD hS hl
  exact lv_pop hX.1 hX.2.1 hd hva (k H locs ls hP hD hS hl)
theorem gd_dup_x1 (hX : gd_C X K cc own nL tb rm) {va vb : Value} (pc : Nat) (hd : decode cc pc = .ok (.dup_x1, 1)) (hva : va.category = 1) (hvb : vb.category = 1) (k : gd_W X K cells slots ws lv (va :: vb :: va :: st) (pc + 1)) : gd_W X K cells slots ws lv (va :: vb :: st) pc := by
  intro H locs ls hP hD hS hl
  exact lv_dup_x1 hX.1 hX.2.1 hd hva hvb (k H locs ls hP hD hS hl)
theorem gd_dup_x2 (hX : gd_C X K cc own nL tb rm) {va vb vd : Value} (pc : Nat) (hd : decode cc pc = .ok (.dup_x2, 1)) (hva : va.category = 1) (hvb : vb.category = 1) (hvd : vd.category = 1) (k : gd_W X K cells slots ws lv (va :: vb :: vd :: va :: st) (pc + 1)) : gd_W X K cells slots ws lv (va :: vb :: vd :: st) pc := by
  intro H locs ls hP hD hS hl
  exact lv_dup_x2 hX.1 hX.2.1 hd hva hvb hvd (k H locs ls hP hD hS hl)
theorem gd_dup2 (hX : gd_C X K cc own nL tb rm) {va vb : Value} (pc : Nat) (hd : decode cc pc = .ok (.dup2, 1)) (hva : va.category = 1) (hvb : vb.category = 1) (k : gd_W X K cells slots ws lv (va :: vb :: va :: vb :: st) (pc + 1)) : gd_W X K cells slots ws lv (va :: vb :: st) pc := by
  intro H locs ls hP hD hS hl
  exact lv_dup2_11 hX.1 hX.2.1 hd hva hvb (k H locs ls hP hD hS hl)
theorem gd_dup2L (hX : gd_C X K cc own nL tb rm) {va : Value} (pc : Nat) (hd : decode cc pc = .ok (.dup2, 1)) (hva : va.category = 2) (k : gd_W X K cells slots ws lv (va :: va :: st) (pc + 1)) : gd_W X K cells slots ws lv (va :: st) pc := by
  intro H locs ls hP hD hS hl
  exact lv_dup2_2 hX.1 hX.2.1 hd hva (k H locs ls hP hD hS hl)
theorem gd_pop2L (hX : gd_C X K cc own nL tb rm) {va : Value} (pc : Nat) (hd : decode cc pc = .ok (.pop2, 1)) (hva : va.category = 2) (k : gd_W X K cells slots ws lv (st) (pc + 1)) : gd_W X K cells slots ws lv (va :: st) pc := by
  intro H locs ls hP hD hS hl
  exact lv_pop2_2 hX.1 hX.2.1 hd hva (k H locs ls hP hD hS hl)
theorem gd_ldc2 (hX : gd_C X K cc own nL tb rm) {index : Nat} {v : Int64} (pc : Nat) (hd : decode cc pc = .ok (.ldc2_w index, 3)) (hk : Cond.constantLong own index v ∈ TS) (k : gd_W X K cells slots ws lv (.long v :: st) (pc + 3)) : gd_W X K cells slots ws lv (st) pc := by
  intro H locs ls hP hD hS hl
  exact lv_ldc2 hX.1 hX.2.1 hX.2.2.2.1 (hX.2.2.1.1 _ hk) hd (k H locs ls hP hD hS hl)
theorem gd_lcmp (hX : gd_C X K cc own nL tb rm) {x y : Int64} (pc : Nat) (hd : decode cc pc = .ok (.lcmp, 1))  (k : gd_W X K cells slots ws lv (.int (lg_cmp x y) :: st) (pc + 1)) : gd_W X K cells slots ws lv (.long y :: .long x :: st) pc := by
  intro H locs ls hP hD hS hl
  exact W.lcmp hX.1 hX.2.1 hd (k H locs ls hP hD hS hl)
theorem gd_if_eq (hX : gd_C X K cc own nL tb rm) {x : Int32} {off : Int} (pc tgt : Nat) (hd : decode cc pc = .ok (.ifCond .eq off, 3)) (ht : (pc : Int) + off = (tgt : Int)) (kt : x = 0 → gd_W X K cells slots ws lv st tgt) (kf : ¬ (x = 0) → gd_W X K cells slots ws lv st (pc + 3)) : gd_W X K cells slots ws lv (.int x :: st) pc := by
  intro H locs ls hP hD hS hl
  exact lv_if_eq hX.1 hX.2.1 hd ht (fun q => kt q H locs ls hP hD hS hl) (fun q => kf q H locs ls hP hD hS hl)
theorem gd_icmp_eq (hX : gd_C X K cc own nL tb rm) {x y : Int32} {off : Int} (pc tgt : Nat) (hd : decode cc pc = .ok (.if_icmp .eq off, 3)) (ht : (pc : Int) + off = (tgt : Int)) (kt : x = y → gd_W X K cells slots ws lv st tgt) (kf : ¬ (x = y) → gd_W X K cells slots ws lv st (pc + 3)) : gd_W X K cells slots ws lv (.int y :: .int x :: st) pc := by
  intro H locs ls hP hD hS hl
  exact lv_icmp_eq hX.1 hX.2.1 hd ht (fun q => kt q H locs ls hP hD hS hl) (fun q => kf q H locs ls hP hD hS hl)
theorem gd_if_ne (hX : gd_C X K cc own nL tb rm) {x : Int32} {off : Int} (pc tgt : Nat) (hd : decode cc pc = .ok (.ifCond .ne off, 3)) (ht : (pc : Int) + off = (tgt : Int)) (kt : ¬ (x = 0) → gd_W X K cells slots ws lv st tgt) (kf : x = 0 → gd_W X K cells slots ws lv st (pc + 3)) : gd_W X K cells slots ws lv (.int x :: st) pc := by
  intro H locs ls hP hD hS hl
  exact lv_if_ne hX.1 hX.2.1 hd ht (fun q => kt q H locs ls hP hD hS hl) (fun q => kf q H locs ls hP hD hS hl)
theorem gd_icmp_ne (hX : gd_C X K cc own nL tb rm) {x y : Int32} {off : Int} (pc tgt : Nat) (hd : decode cc pc = .ok (.if_icmp .ne off, 3)) (ht : (pc : Int) + off = (tgt : Int)) (kt : ¬ (x = y) → gd_W X K cells slots ws lv st tgt) (kf : x = y → gd_W X K cells slots ws lv st (pc + 3)) : gd_W X K cells slots ws lv (.int y :: .int x :: st) pc := by
  intro H locs ls hP hD hS hl
  exact lv_icmp_ne hX.1 hX.2.1 hd ht (fun q => kt q H locs ls hP hD hS hl) (fun q => kf q H locs ls hP hD hS hl)
theorem gd_if_lt (hX : gd_C X K cc own nL tb rm) {x : Int32} {off : Int} (pc tgt : Nat) (hd : decode cc pc = .ok (.ifCond .lt off, 3)) (ht : (pc : Int) + off = (tgt : Int)) (kt : x < 0 → gd_W X K cells slots ws lv st tgt) (kf : ¬ (x < 0) → gd_W X K cells slots ws lv st (pc + 3)) : gd_W X K cells slots ws lv (.int x :: st) pc := by
  intro H locs ls hP hD hS hl
  exact lv_if_lt hX.1 hX.2.1 hd ht (fun q => kt q H locs ls hP hD hS hl) (fun q => kf q H locs ls hP hD hS hl)
theorem gd_icmp_lt (hX : gd_C X K cc own nL tb rm) {x y : Int32} {off : Int} (pc tgt : Nat) (hd : decode cc pc = .ok (.if_icmp .lt off, 3)) (ht : (pc : Int) + off = (tgt : Int)) (kt : x < y → gd_W X K cells slots ws lv st tgt) (kf : ¬ (x < y) → gd_W X K cells slots ws lv st (pc + 3)) : gd_W X K cells slots ws lv (.int y :: .int x :: st) pc := by
  intro H locs ls hP hD hS hl
  exact lv_icmp_lt hX.1 hX.2.1 hd ht (fun q => kt q H locs ls hP hD hS hl) (fun q => kf q H locs ls hP hD hS hl)
theorem gd_if_ge (hX : gd_C X K cc own nL tb rm) {x : Int32} {off : Int} (pc tgt : Nat) (hd : decode cc pc = .ok (.ifCond .ge off, 3)) (ht : (pc : Int) + off = (tgt : Int)) (kt : 0 ≤ x → gd_W X K cells slots ws lv st tgt) (kf : ¬ (0 ≤ x) → gd_W X K cells slots ws lv st (pc + 3)) : gd_W X K cells slots ws lv (.int x :: st) pc := by
  intro H locs ls hP hD hS hl
  exact lv_if_ge hX.1 hX.2.1 hd ht (fun q => kt q H locs ls hP hD hS hl) (fun q => kf q H locs ls hP hD hS hl)
theorem gd_icmp_ge (hX : gd_C X K cc own nL tb rm) {x y : Int32} {off : Int} (pc tgt : Nat) (hd : decode cc pc = .ok (.if_icmp .ge off, 3)) (ht : (pc : Int) + off = (tgt : Int)) (kt : y ≤ x → gd_W X K cells slots ws lv st tgt) (kf : ¬ (y ≤ x) → gd_W X K cells slots ws lv st (pc + 3)) : gd_W X K cells slots ws lv (.int y :: .int x :: st) pc := by
  intro H locs ls hP hD hS hl
  exact lv_icmp_ge hX.1 hX.2.1 hd ht (fun q => kt q H locs ls hP hD hS hl) (fun q => kf q H locs ls hP hD hS hl)
theorem gd_if_gt (hX : gd_C X K cc own nL tb rm) {x : Int32} {off : Int} (pc tgt : Nat) (hd : decode cc pc = .ok (.ifCond .gt off, 3)) (ht : (pc : Int) + off = (tgt : Int)) (kt : 0 < x → gd_W X K cells slots ws lv st tgt) (kf : ¬ (0 < x) → gd_W X K cells slots ws lv st (pc + 3)) : gd_W X K cells slots ws lv (.int x :: st) pc := by
  intro H locs ls hP hD hS hl
  exact lv_if_gt hX.1 hX.2.1 hd ht (fun q => kt q H locs ls hP hD hS hl) (fun q => kf q H locs ls hP hD hS hl)
theorem gd_icmp_gt (hX : gd_C X K cc own nL tb rm) {x y : Int32} {off : Int} (pc tgt : Nat) (hd : decode cc pc = .ok (.if_icmp .gt off, 3)) (ht : (pc : Int) + off = (tgt : Int)) (kt : y < x → gd_W X K cells slots ws lv st tgt) (kf : ¬ (y < x) → gd_W X K cells slots ws lv st (pc + 3)) : gd_W X K cells slots ws lv (.int y :: .int x :: st) pc := by
  intro H locs ls hP hD hS hl
  exact lv_icmp_gt hX.1 hX.2.1 hd ht (fun q => kt q H locs ls hP hD hS hl) (fun q => kf q H locs ls hP hD hS hl)
theorem gd_if_le (hX : gd_C X K cc own nL tb rm) {x : Int32} {off : Int} (pc tgt : Nat) (hd : decode cc pc = .ok (.ifCond .le off, 3)) (ht : (pc : Int) + off = (tgt : Int)) (kt : x ≤ 0 → gd_W X K cells slots ws lv st tgt) (kf : ¬ (x ≤ 0) → gd_W X K cells slots ws lv st (pc + 3)) : gd_W X K cells slots ws lv (.int x :: st) pc := by
  intro H locs ls hP hD hS hl
  exact lv_if_le hX.1 hX.2.1 hd ht (fun q => kt q H locs ls hP hD hS hl) (fun q => kf q H locs ls hP hD hS hl)
theorem gd_icmp_le (hX : gd_C X K cc own nL tb rm) {x y : Int32} {off : Int} (pc tgt : Nat) (hd : decode cc pc = .ok (.if_icmp .le off, 3)) (ht : (pc : Int) + off = (tgt : Int)) (kt : x ≤ y → gd_W X K cells slots ws lv st tgt) (kf : ¬ (x ≤ y) → gd_W X K cells slots ws lv st (pc + 3)) : gd_W X K cells slots ws lv (.int y :: .int x :: st) pc := by
  intro H locs ls hP hD hS hl
  exact lv_icmp_le hX.1 hX.2.1 hd ht (fun q => kt q H locs ls hP hD hS hl) (fun q => kf q H locs ls hP hD hS hl)
theorem gd_goto (hX : gd_C X K cc own nL tb rm) {off : Int} (pc tgt : Nat) (hd : decode cc pc = .ok (.goto off, 3)) (ht : (pc : Int) + off = (tgt : Int)) (k : gd_W X K cells slots ws lv st tgt) : gd_W X K cells slots ws lv st pc := by
  intro H locs ls hP hD hS hl
  exact lv_goto hX.1 hX.2.1 hd ht (k H locs ls hP hD hS hl)
theorem gd_tableIn (hX : gd_C X K cc own nL tb rm) {dflt lo hi : Int} {offs : Array Int} {len : Nat} {x : Int32} {off : Int} (pc tgt : Nat) (hd : decode cc pc = .ok (.tableswitch dflt lo hi offs, len)) (h1 : ¬ x.toInt < lo) (h2 : ¬ hi < x.toInt) (ho : offs[(x.toInt - lo).toNat]? = some off) (ht : (pc : Int) + off = (tgt : Int)) (k : gd_W X K cells slots ws lv st tgt) : gd_W X K cells slots ws lv (.int x :: st) pc := by
  intro H locs ls hP hD hS hl
  exact lv_tableIn hX.1 hX.2.1 hd h1 h2 ho ht (k H locs ls hP hD hS hl)
theorem gd_tableOut (hX : gd_C X K cc own nL tb rm) {dflt lo hi : Int} {offs : Array Int} {len : Nat} {x : Int32} (pc tgt : Nat) (hd : decode cc pc = .ok (.tableswitch dflt lo hi offs, len)) (h : x.toInt < lo ∨ hi < x.toInt) (ht : (pc : Int) + dflt = (tgt : Int)) (k : gd_W X K cells slots ws lv st tgt) : gd_W X K cells slots ws lv (.int x :: st) pc := by
  intro H locs ls hP hD hS hl
  exact lv_tableOut hX.1 hX.2.1 hd h ht (k H locs ls hP hD hS hl)
theorem gd_eqi {x y : Int32} {pc : Nat} (h : x = y) (k : gd_W X K cells slots ws lv (.int y :: st) pc) : gd_W X K cells slots ws lv (.int x :: st) pc := by rw [h]; exact k
theorem gd_eql {x y : Int64} {pc : Nat} (h : x = y) (k : gd_W X K cells slots ws lv (.long y :: st) pc) : gd_W X K cells slots ws lv (.long x :: st) pc := by rw [h]; exact k
theorem gd_lvs (lv' : List (Nat × Value)) {pc : Nat} (ks : List Nat) (h : lv_pick lv ks = lv') (k : gd_W X K cells slots ws lv' st pc) : gd_W X K cells slots ws lv st pc := fun H locs ls hP hD hS hl => k H locs ls hP hD hS (lv_sub hl ks h)
theorem gd_wsp (ws' : va_W) {pc : Nat} (ks : List Nat) (hn : va_nd ks = true) (h : ks.map (fun i => ws[i]?) = ws'.map some) (h2 : ks.filterMap (fun i => ws[i]?) = ws') (k : gd_W X K cells slots ws' lv st pc) : gd_W X K cells slots ws lv st pc := fun H locs ls hP hD hS hl => k H locs ls (hP.sub ks h2) (hD.sub ks hn h) hS hl
theorem gd_wide {a b : Nat} {pc : Nat} (h1 : cells ≤ a) (h2 : slots ≤ b) (k : gd_W X K a b ws lv st pc) : gd_W X K cells slots ws lv st pc := fun H locs ls hP hD hS hl => W.widen h1 h2 (k H locs ls hP hD hS hl)
theorem gd_get (hX : gd_C X K cc own nL tb rm) {C : String} {T : u_T} {N ci index a : Nat} (hin : ∀ w ∈ u_ws C T N, w ∈ TS) (q0 k : Nat) (pc : Nat) (hd : decode cc pc = .ok (.getfield index, 3)) {fs : List Value} (he : ws[q0]? = some (a, .inr (ci, fs))) (hc : cls_[ci]? = some (C, T, N)) (hk : k < N) (hlink : Cond.fieldLink own index (T k).1 (T k).2.1 (T k).2.2.1 ∈ TS) {v : Value} (hv : fs[k]? = some v) (kk : gd_W X K cells slots ws lv (v :: st) (pc + 3)) : gd_W X K cells slots ws lv (.ref a :: st) pc := by
  intro H locs ls hP hD hS hl
  exact va_get hX.1 hX.2.1 hX.2.2.1.1 hin hX.2.2.2.1 hX.2.2.1.2.1 hP q0 he hc k hk (hX.2.2.1.1 _ hlink) (fun _ h => h) hv hd (kk H locs ls hP hD hS hl)
theorem gd_put (hX : gd_C X K cc own nL tb rm) {C : String} {T : u_T} {N ci index a : Nat} (hin : ∀ w ∈ u_ws C T N, w ∈ TS) (ty0 : Nat → FieldType) (hty : ∀ k, k < N → parseFieldDescriptor (T k).2.2.1 = some (ty0 k)) (hnm : ∀ a, a < N → ∀ b, b < N → a ≠ b → (T a).2.1 ≠ (T b).2.1) (q0 k : Nat) (ws' : va_W) (pc : Nat) (hd : decode cc pc = .ok (.putfield index, 3)) {fs : List Value} (he : ws[q0]? = some (a, .inr (ci, fs))) (hc : cls_[ci]? = some (C, T, N)) (hk : k < N) (hlink : Cond.fieldLink own index (T k).1 (T k).2.1 (T k).2.2.1 ∈ TS) (hfin : (T k).2.2.2 = false) {v : Value} (hn : narrow (ty0 k) v = v) (hfit : fits (ty0 k) v = true) (hlt : k < fs.length) (hw : ws.set q0 (a, .inr (ci, fs.set k v)) = ws') (kk : gd_W X K cells slots ws' lv st (pc + 3)) : gd_W X K cells slots ws lv (v :: .ref a :: st) pc := by
  subst hw
  intro H locs ls hP hD hS hl
  exact va_put hX.1 hX.2.1 hX.2.2.1.1 hin ty0 hty hnm hX.2.2.2.1 hX.2.2.1.2.1 hP hD hS q0 he hc k hk (hX.2.2.1.1 _ hlink) (fun _ h => h) hfin (hty k hk) hn hfit hlt hd (fun H1 locs1 hP1 hD1 hS1 => kk H1 locs1 ls hP1 hD1 hS1 hl)
theorem gd_putF (hX : gd_C X K cc own nL tb rm) {C : String} {T : u_T} {N ci index a : Nat} (hin : ∀ w ∈ u_ws C T N, w ∈ TS) (ty0 : Nat → FieldType) (hty : ∀ k, k < N → parseFieldDescriptor (T k).2.2.1 = some (ty0 k)) (hnm : ∀ a, a < N → ∀ b, b < N → a ≠ b → (T a).2.1 ≠ (T b).2.1) (q0 k : Nat) (ws' : va_W) (pc : Nat) (hd : decode cc pc = .ok (.putfield index, 3)) {fs : List Value} (he : ws[q0]? = some (a, .inr (ci, fs))) (hc : cls_[ci]? = some (C, T, N)) (hk : k < N) (hlink : Cond.fieldLink own index (T k).1 (T k).2.1 (T k).2.2.1 ∈ TS) (hfin : (T k).2.2.2 = true) (hin2 : (gx_meth X).name = "<init>") (hdecl : (T k).1 = own) {v : Value} (hn : narrow (ty0 k) v = v) (hfit : fits (ty0 k) v = true) (hlt : k < fs.length) (hw : ws.set q0 (a, .inr (ci, fs.set k v)) = ws') (kk : gd_W X K cells slots ws' lv st (pc + 3)) : gd_W X K cells slots ws lv (v :: .ref a :: st) pc := by
  subst hw
  intro H locs ls hP hD hS hl
  exact va_putF hX.1 hX.2.1 hX.2.2.1.1 hin ty0 hty hnm hX.2.2.2.1 hX.2.2.1.2.1 hP hD hS q0 he hc k hk (hX.2.2.1.1 _ hlink) (fun _ h => h) hfin hin2 hdecl (hty k hk) hn hfit hlt hd (fun H1 locs1 hP1 hD1 hS1 => kk H1 locs1 ls hP1 hD1 hS1 hl)
theorem gd_iald (hX : gd_C X K cc own nL tb rm) {a n : Nat} {f : Nat → Int32} {i : Int32} (q0 : Nat) (j : Nat) (pc : Nat) (hd : decode cc pc = .ok (.iaload, 1)) (he : ws[q0]? = some (a, .inl (K.2.1, n, .inl f))) (hi : i = nI j) (hj : j < n) (hn : n < 2 ^ 31) (kk : gd_W X K cells slots ws lv (.int (f j) :: st) (pc + 1)) : gd_W X K cells slots ws lv (.int i :: .ref a :: st) pc := by
  subst hi
  intro H locs ls hP hD hS hl
  refine va_iald hX.1 hX.2.1 hX.2.2.1.2.1 hP q0 0 he rfl (vp_in_nI hj hn) hd ?_
  rw [nI_clamp (Nat.lt_trans hj hn)]
  exact kk H locs ls hP hD hS hl
theorem gd_lald (hX : gd_C X K cc own nL tb rm) {a n : Nat} {f : Nat → Int64} {i : Int32} (q0 : Nat) (j : Nat) (pc : Nat) (hd : decode cc pc = .ok (.laload, 1)) (he : ws[q0]? = some (a, .inl (K.2.2.1, n, .inr (.inl f)))) (hi : i = nI j) (hj : j < n) (hn : n < 2 ^ 31) (kk : gd_W X K cells slots ws lv (.long (f j) :: st) (pc + 1)) : gd_W X K cells slots ws lv (.int i :: .ref a :: st) pc := by
  subst hi
  intro H locs ls hP hD hS hl
  refine va_lald hX.1 hX.2.1 hX.2.2.1.2.1 hP q0 1 he rfl (vp_in_nI hj hn) hd ?_
  rw [nI_clamp (Nat.lt_trans hj hn)]
  exact kk H locs ls hP hD hS hl
theorem gd_bald (hX : gd_C X K cc own nL tb rm) {a n : Nat} {f : Nat → Int32} {i : Int32} (q0 : Nat) (j : Nat) (pc : Nat) (hd : decode cc pc = .ok (.baload, 1)) (he : ws[q0]? = some (a, .inl (K.2.2.2.1, n, .inl f))) (hi : i = nI j) (hj : j < n) (hn : n < 2 ^ 31) (kk : gd_W X K cells slots ws lv (.int (f j) :: st) (pc + 1)) : gd_W X K cells slots ws lv (.int i :: .ref a :: st) pc := by
  subst hi
  intro H locs ls hP hD hS hl
  refine va_bald hX.1 hX.2.1 hX.2.2.1.2.1 hP q0 2 he rfl (vp_in_nI hj hn) hd ?_
  rw [nI_clamp (Nat.lt_trans hj hn)]
  exact kk H locs ls hP hD hS hl
theorem gd_zald (hX : gd_C X K cc own nL tb rm) {a n : Nat} {f : Nat → Int32} {i : Int32} (q0 : Nat) (j : Nat) (pc : Nat) (hd : decode cc pc = .ok (.baload, 1)) (he : ws[q0]? = some (a, .inl (K.2.2.2.2.1, n, .inl f))) (hi : i = nI j) (hj : j < n) (hn : n < 2 ^ 31) (kk : gd_W X K cells slots ws lv (.int (f j) :: st) (pc + 1)) : gd_W X K cells slots ws lv (.int i :: .ref a :: st) pc := by
  subst hi
  intro H locs ls hP hD hS hl
  refine va_zald hX.1 hX.2.1 hX.2.2.1.2.1 hP q0 3 he rfl (vp_in_nI hj hn) hd ?_
  rw [nI_clamp (Nat.lt_trans hj hn)]
  exact kk H locs ls hP hD hS hl
theorem gd_iast (hX : gd_C X K cc own nL tb rm) {a n : Nat} {f : Nat → Int32} {i : Int32} {x : Int32} (q0 : Nat) (j : Nat) (ws' : va_W) (pc : Nat) (hd : decode cc pc = .ok (.iastore, 1)) (he : ws[q0]? = some (a, .inl (K.2.1, n, .inl f))) (hi : i = nI j) (hj : j < n) (hn : n < 2 ^ 31) (hw : ws.set q0 (a, .inl (K.2.1, n, .inl (upd f j x))) = ws') (kk : gd_W X K cells slots ws' lv st (pc + 1)) : gd_W X K cells slots ws lv (.int x :: .int i :: .ref a :: st) pc := by
  subst hi
  subst hw
  intro H locs ls hP hD hS hl
  refine va_iast hX.1 hX.2.1 hX.2.2.1.2.1 hP hD hS q0 0 he rfl (vp_in_nI hj hn) hd (fun H1 locs1 hP1 hD1 hS1 => ?_)
  rw [nI_clamp (Nat.lt_trans hj hn)] at hP1 hD1
  exact kk H1 locs1 ls hP1 hD1 hS1 hl
theorem gd_last (hX : gd_C X K cc own nL tb rm) {a n : Nat} {f : Nat → Int64} {i : Int32} {x : Int64} (q0 : Nat) (j : Nat) (ws' : va_W) (pc : Nat) (hd : decode cc pc = .ok (.lastore, 1)) (he : ws[q0]? = some (a, .inl (K.2.2.1, n, .inr (.inl f)))) (hi : i = nI j) (hj : j < n) (hn : n < 2 ^ 31) (hw : ws.set q0 (a, .inl (K.2.2.1, n, .inr (.inl (vp_updL f j x)))) = ws') (kk : gd_W X K cells slots ws' lv st (pc + 1)) : gd_W X K cells slots ws lv (.long x :: .int i :: .ref a :: st) pc := by
  subst hi
  subst hw
  intro H locs ls hP hD hS hl
  refine va_last hX.1 hX.2.1 hX.2.2.1.2.1 hP hD hS q0 1 he rfl (vp_in_nI hj hn) hd (fun H1 locs1 hP1 hD1 hS1 => ?_)
  rw [nI_clamp (Nat.lt_trans hj hn)] at hP1 hD1
  exact kk H1 locs1 ls hP1 hD1 hS1 hl
theorem gd_bast (hX : gd_C X K cc own nL tb rm) {a n : Nat} {f : Nat → Int32} {i : Int32} {x : Int32} (q0 : Nat) (j : Nat) (ws' : va_W) (pc : Nat) (hd : decode cc pc = .ok (.bastore, 1)) (he : ws[q0]? = some (a, .inl (K.2.2.2.1, n, .inl f))) (hi : i = nI j) (hj : j < n) (hn : n < 2 ^ 31) (hw : ws.set q0 (a, .inl (K.2.2.2.1, n, .inl (upd f j (vp_nar .byte x)))) = ws') (kk : gd_W X K cells slots ws' lv st (pc + 1)) : gd_W X K cells slots ws lv (.int x :: .int i :: .ref a :: st) pc := by
  subst hi
  subst hw
  intro H locs ls hP hD hS hl
  refine va_bast hX.1 hX.2.1 hX.2.2.1.2.1 hP hD hS q0 2 he rfl (vp_in_nI hj hn) hd (fun H1 locs1 hP1 hD1 hS1 => ?_)
  rw [nI_clamp (Nat.lt_trans hj hn)] at hP1 hD1
  exact kk H1 locs1 ls hP1 hD1 hS1 hl
theorem gd_zast (hX : gd_C X K cc own nL tb rm) {a n : Nat} {f : Nat → Int32} {i : Int32} {x : Int32} (q0 : Nat) (j : Nat) (ws' : va_W) (pc : Nat) (hd : decode cc pc = .ok (.bastore, 1)) (he : ws[q0]? = some (a, .inl (K.2.2.2.2.1, n, .inl f))) (hi : i = nI j) (hj : j < n) (hn : n < 2 ^ 31) (hw : ws.set q0 (a, .inl (K.2.2.2.2.1, n, .inl (upd f j (vp_nar .boolean x)))) = ws') (kk : gd_W X K cells slots ws' lv st (pc + 1)) : gd_W X K cells slots ws lv (.int x :: .int i :: .ref a :: st) pc := by
  subst hi
  subst hw
  intro H locs ls hP hD hS hl
  refine va_zast hX.1 hX.2.1 hX.2.2.1.2.1 hP hD hS q0 3 he rfl (vp_in_nI hj hn) hd (fun H1 locs1 hP1 hD1 hS1 => ?_)
  rw [nI_clamp (Nat.lt_trans hj hn)] at hP1 hD1
  exact kk H1 locs1 ls hP1 hD1 hS1 hl
end GDI
end
section
/-! returns, calls, throws over gd_W -/
theorem gd_mono {p : Program} {l : Launch} {e : Env} {R : Room} {s : State} {m : MethodId} {args : Array Value} {below : List Frame} {meth : Method} {c : Code} {H : Heap} {locs : List Loc} {cells slots : Nat} {Q Q' : State → Prop} {g : JFrame}
    (h : ∀ t, Q t → Q' t) (k : W p l e R s m args below meth c H locs cells slots Q g) : W p l e R s m args below meth c H locs cells slots Q' g := by
  intro T hT X
  obtain ⟨t, a, b⟩ := k T hT X
  exact ⟨t, a, h t b⟩
/-- a return's end in the kit's words -/
def gd_R (K : gd_K) (wc : va_W) (post : Option Value → va_W → Prop) : Array Value → State → Outcome → State → Prop := fun _ s o t =>
  (∃ (v : Option Value) (w1 : va_W), o = .returned v ∧ post v w1 ∧ va_P K.1 cls_ w1 t.heap ∧ va_D (va_A wc s.heap.size) w1) ∧ va_F (va_A wc s.heap.size) s t
theorem gd_ofMQ {below : List Frame} {s : State} {args : Array Value} {K : gd_K} {wc : va_W} {post : Option Value → va_W → Prop} {xp : String → va_W → Prop} {mc ms : Nat} {t : State}
    (h : MQ below (gd_R K wc post) args s mc ms (va_A wc s.heap.size) t) : gd_Q below s K wc post xp mc ms t := by
  obtain ⟨o, h1, h2, ⟨h3, h4⟩, L, ⟨-, h5, h6⟩, h7⟩ := h
  exact ⟨o, L, h1, h2, h5, h6, h7, h4, Or.inl h3⟩
section GDR
variable {X : gd_X} {K : gd_K} {cc : ByteArray} {own : String} {nL : Nat} {tb : List (Nat × Nat × Nat × Nat)} {rm : Room} {cells slots : Nat} {ws : va_W} {lv : List (Nat × Value)} {st : List Value}
variable {wc : va_W} {post : Option Value → va_W → Prop} {xp : String → va_W → Prop}
theorem gd_iret (hX : gd_C X K cc own nL tb rm) (hE : gd_E X K (some .int) wc post xp cells slots) {v : Int32} (pc : Nat) (hd : decode cc pc = .ok (.ireturn, 1)) (hp : post (some (.int v)) ws) : gd_W X K cells slots ws lv [.int v] pc := by
  intro H locs ls hP hD hS hl
  rw [hE.2.2]
  rw [hE.2.1] at hD hS
  exact gd_mono (fun t h => gd_ofMQ h) (W.iret hX.1 hX.2.1 hE.1 (fun t ht _ => ⟨⟨_, ws, rfl, hp, by rw [ht]; exact hP, hD⟩, hS.F ht⟩) hS.2.2 hd hX.2.2.2.2.2.2.2.2.2.1)
theorem gd_zret (hX : gd_C X K cc own nL tb rm) (hE : gd_E X K (some .boolean) wc post xp cells slots) {v : Int32} (pc : Nat) (hd : decode cc pc = .ok (.ireturn, 1)) (hn : narrow .boolean (.int v) = .int v) (hp : post (some (.int v)) ws) : gd_W X K cells slots ws lv [.int v] pc := by
  intro H locs ls hP hD hS hl
  rw [hE.2.2]
  rw [hE.2.1] at hD hS
  exact gd_mono (fun t h => gd_ofMQ h) (W.zret hX.1 hX.2.1 hE.1 hn (fun t ht _ => ⟨⟨_, ws, rfl, hp, by rw [ht]; exact hP, hD⟩, hS.F ht⟩) hS.2.2 hd hX.2.2.2.2.2.2.2.2.2.1)
theorem gd_lret (hX : gd_C X K cc own nL tb rm) (hE : gd_E X K (some .long) wc post xp cells slots) {v : Int64} (pc : Nat) (hd : decode cc pc = .ok (.lreturn, 1)) (hp : post (some (.long v)) ws) : gd_W X K cells slots ws lv [.long v] pc := by
  intro H locs ls hP hD hS hl
  rw [hE.2.2]
  rw [hE.2.1] at hD hS
  exact gd_mono (fun t h => gd_ofMQ h) (W.lret hX.1 hX.2.1 hE.1 (fun t ht _ => ⟨⟨_, ws, rfl, hp, by rw [ht]; exact hP, hD⟩, hS.F ht⟩) hS.2.2 hd hX.2.2.2.2.2.2.2.2.2.1)
theorem gd_vret (hX : gd_C X K cc own nL tb rm) (hE : gd_E X K none wc post xp cells slots) (pc : Nat) (hd : decode cc pc = .ok (.return_, 1)) (hp : post none ws) : gd_W X K cells slots ws lv [] pc := by
  intro H locs ls hP hD hS hl
  rw [hE.2.2]
  rw [hE.2.1] at hD hS
  exact gd_mono (fun t h => gd_ofMQ h) (W.vret hX.1 hX.2.1 hE.1 (fun t ht _ => ⟨⟨_, ws, rfl, hp, by rw [ht]; exact hP, hD⟩, hS.F ht⟩) hS.2.2 hd hX.2.2.2.2.2.2.2.2.2.1)
/-- what is thrown leaves the method -/
theorem gd_out (hX : gd_C X K cc own nL tb rm) {ret : Option FieldType} (hE : gd_E X K ret wc post xp cells slots) {pc : Nat} {E : String} {q : Addr} (hout : ∀ x ∈ tb, ¬ (x.1 ≤ pc ∧ pc < x.2.1)) (hp : xp E ws) : gd_T X K cells slots ws lv st pc E q := by
  intro H locs ls ce T hP hD hS hl h1 h2 h3 hT Y
  rw [hE.2.1] at hD hS
  have ho : ∀ x ∈ (gx_c X).exceptionTable.toList, covers x pc = false := by
    intro x hx
    have h9 := hout (x.startPc, x.endPc, x.handlerPc, x.catchType) (by rw [← hX.2.2.2.2.2.2.2.2.1]; exact List.mem_map.mpr ⟨x, hx, rfl⟩)
    simp only [covers, Bool.and_eq_false_iff, decide_eq_false_iff_not]
    dsimp only at h9
    omega
  obtain ⟨a1, a2, a3, a4, a5⟩ := Y.leaveThrown q (g := F0 (gx_m X) pc ls st) rfl rfl rfl ho hX.2.2.2.2.2.2.2.2.2.1
  refine ⟨_, a1, ?_⟩
  rw [hE.2.2]
  refine ⟨.threw q, locs, a2, a3, a4, a5, hS.2.2, hS.F hT, Or.inr ⟨q, E, ws, ce, rfl, hp, ?_, hD, ?_, h2, h3⟩⟩
  · show va_P K.1 cls_ ws T.heap
    rw [hT]; exact hP
  · show T.heap[q]? = some ce
    rw [hT]; exact h1
theorem gd_wideT {a b : Nat} {pc : Nat} {E : String} {q : Addr} (h1 : cells ≤ a) (h2 : slots ≤ b) (k : gd_T X K a b ws lv st pc E q) : gd_T X K cells slots ws lv st pc E q :=
  fun H locs ls ce T hP hD hS hl h3 h4 h5 hT Y => k H locs ls ce T hP hD hS hl h3 h4 h5 hT (stand_widen Y h1 h2)
end GDR
/-- the machine's own step at a call: from the frame g to the callee's entry -/
def gd_N (X : gd_X) (H : Heap) (locs : List Loc) (cells slots : Nat) (g : JFrame) (st : List Value) (y : MethodName) (a : Array Value) : Prop :=
  ∀ T : State, T.heap = H → Stand (gx_p X) (gx_l X) (gx_e X) (gx_R X) (gx_s X) (gx_m X) (gx_args X) (gx_below X) (gx_meth X) (gx_c X) T locs cells slots →
    ∃ (mk : MethodId) (vm1 : Vm), (gx_s X).methodNamed? y = some mk ∧ Stand (gx_p X) (gx_l X) (gx_e X) (gx_R X) (gx_s X) (gx_m X) (gx_args X) (gx_below X) (gx_meth X) (gx_c X) (T.setVm vm1) locs cells slots ∧
      ∀ target, (∀ acts, Steps (gx_p X).tables (gx_e X) (gx_below X) (doInvoke (gx_e X) ((T.setVm vm1).setTop { g with stack := st }) acts mk a).1 target) → Steps (gx_p X).tables (gx_e X) (gx_below X) (T.setTop g) target
theorem gd_S.at {K : gd_K} {args a' : Array Value} {s U : State} {A : Nat → Prop} {locs : List Loc} (hW : s.WarmedH U.vm) (hA : ∀ q, A q → gd_sb K ≤ q) (hS : va_S A s.heap U.heap locs) (h : gd_S K args s) : gd_S K a' U := by
  obtain ⟨h1, h2, h3, h4⟩ := h
  refine ⟨gd_word hW h1, va_K.moved hW.alike h2, Nat.le_trans h3 hS.1, gd_Z.at hW (fun q hq => hS.2.1 q (Nat.lt_of_lt_of_le hq h3) (fun ha => ?_)) h4⟩
  have := hA q ha
  omega
section GDCALL
variable {X : gd_X} {K : gd_K} {cc : ByteArray} {own : String} {nL : Nat} {tb : List (Nat × Nat × Nat × Nat)} {rm : Room} {cells slots : Nat} {ws : va_W} {lv : List (Nat × Value)} {st stk : List Value}
/-- a call, by the callee's contract; what the caller's world has besides stays -/
theorem gd_call (hX : gd_C X K cc own nL tb rm) {y : MethodName} {bytes : ByteArray} {maxL : Nat} {ret : Option FieldType} {tbk : List (Nat × Nat × Nat × Nat)} {fr lo mc ms : Nat} {As : List Value} {wc wr : va_W} {post : Option Value → va_W → Prop} {xp : String → va_W → Prop} {ig : Instr}
    (hM : gd_M (gx_l X) y bytes maxL ret tbk fr lo mc ms K As wc post xp) (pc : Nat) (hd : decode cc pc = .ok (ig, 3))
    (hN : ∀ (H : Heap) (locs : List Loc) (ls : Array Slot), va_P K.1 cls_ ws H → gd_N X H locs cells slots (F0 (gx_m X) pc ls stk) st y As.toArray)
    (hcode : ∀ (U : State) (mk : MethodId) (a' : Array Value), (∀ w ∈ TS, w.before a' U = true) → U.methodNamed? y = some mk → ∃ methk ck, U.vm.method? mk = some methk ∧ methk.code = some ck ∧ ck.code = bytes ∧ ck.maxLocals = maxL ∧ methk.sig.returnType = ret ∧ methk.locks = false ∧ ck.exceptionTable.toList.map (fun h => (h.startPc, h.endPc, h.handlerPc, h.catchType)) = tbk)
    (hpl : plainFor y = true) (isC isR : List Nat) (hC : isC.map (fun i => ws[i]?) = wc.map some) (hC2 : isC.filterMap (fun i => ws[i]?) = wc) (hnC : va_nd isC = true) (hR : isR.map (fun i => ws[i]?) = wr.map some) (hnR : va_nd isR = true) (hdis : ∀ i ∈ isR, i ∉ isC)
    (hfr : fr + 1 ≤ rm.frames) (hlo : (st.map fun v => v.category).sum + (maxL + 11) + lo ≤ rm.locals) (hce : cells + mc ≤ rm.cells) (hsl : slots + ms ≤ rm.slots)
    (kr : ∀ (v : Option Value) (w1 : va_W), post v w1 → gd_W X K (cells + mc) (slots + ms) (wr ++ w1) lv (v.toList ++ st) (pc + 3))
    (kx : ∀ (E : String) (w1 : va_W) (q : Addr), xp E w1 → gd_T X K (cells + mc) (slots + ms) (wr ++ w1) lv st pc E q) : gd_W X K cells slots ws lv stk pc := by
  intro H locs ls hP hD hS hl T hT Y
  obtain ⟨mk, vm1, hn, Y1, st1⟩ := hN H locs ls hP T hT Y
  have hd' : decode (gx_c X).code (F0 (gx_m X) pc ls st).pc = .ok (ig, 3) := by rw [hX.2.1]; exact hd
  have hRm := hX.2.2.2.2.2.2.2.2.2.2
  have hW1 : (gx_s X).WarmedH vm1 := Y1.warmed
  have hsz : (F0 (gx_m X) pc ls st).locals.size = (gx_c X).maxLocals := by rw [hX.2.2.2.2.2.2.2.1]; exact hl.1
  have hn1 : (T.setVm vm1).methodNamed? y = some mk := by
    have e1 : ((gx_s X).setVm vm1).methodNamed? y = (gx_s X).methodNamed? y := State.methodNamed?_setVm hW1.alike y
    exact (show (T.setVm vm1).methodNamed? y = ((gx_s X).setVm vm1).methodNamed? y from rfl).trans (e1.trans hn)
  obtain ⟨methk, ck, hmk, hck, hbk, hmlk, hrk, hlk, htk⟩ := hcode (T.setVm vm1) mk #[] (gd_word (U := T.setVm vm1) hW1 hX.2.2.1.1) hn1
  have hpk : (T.setVm vm1).plainMethod mk := State.plainMethod.of_named hpl hn1 hmk
  obtain ⟨Z, hdo⟩ := Y1.into (g := F0 (gx_m X) pc ls st) rfl hsz hd' (mk := mk) As.toArray (R' := { frames := fr, cells := mc, slots := ms, locals := lo }) hmk hck hlk hpk
    (by rw [hRm]; exact hfr) (by rw [hRm, hmlk]; simpa [JFrame.monitorRoom] using hlo) (by rw [hRm]; exact hce) (by rw [hRm]; exact hsl)
  have hUh : ((T.setVm vm1).calling (F0 (gx_m X) pc ls st) mk As.toArray).heap = H := hT
  have hSU : gd_S K As.toArray ((T.setVm vm1).calling (F0 (gx_m X) pc ls st) mk As.toArray) := gd_S.at (A := gx_A X) (locs := locs) (U := (T.setVm vm1).calling (F0 (gx_m X) pc ls st) mk As.toArray) hW1 hX.2.2.2.2.2.1 (by rw [hUh]; exact hS) hX.2.2.1
  have hDc : va_D (fun q => gd_sb K ≤ q) wc := (hD.sub isC hnC hC).weaken (fun k q _ hq => hX.2.2.2.2.2.1 _ hq)
  obtain ⟨t, s2, o, L, b1, b2, b3, b4, b5, b6, b7⟩ := hM _ _ _ _ _ _ _ _ _ Z (by rfl) hX.1 hSU hbk hmlk htk hrk hlk
    (by exact findClass_of_methodNamed hn1) (name_of_methodNamed hn1 hmk).1 rfl (by rw [hUh]; exact hP.sub isC hC2) hDc
  rw [hUh] at b5
  have hF : ∀ q, va_A wc H.size q → gx_A X q := va_free hD hS hX.2.2.2.2.1 isC hC
  have hst : ∀ target, Steps (gx_p X).tables (gx_e X) (gx_below X) t target → Steps (gx_p X).tables (gx_e X) (gx_below X) (T.setTop (F0 (gx_m X) pc ls stk)) target := fun target h9 => st1 target (fun acts => by
    have e1 := hdo acts
    refine Steps.trans (s₂ := t) ?_ h9
    refine gd_weak (mid := [.java (F0 (gx_m X) pc ls st)]) ?_
    show Steps (gx_p X).tables (gx_e X) (.java (F0 (gx_m X) pc ls st) :: gx_below X) (doInvoke (gx_e X) ((T.setVm vm1).setTop (F0 (gx_m X) pc ls st)) acts mk As.toArray).1 t
    rw [e1, hmlk]
    rw [hmlk] at s2
    exact s2)
  have hS1 : va_S (gx_A X) (gx_s X).heap t.heap (locs ++ L) := by
    obtain ⟨f1, f2⟩ := b6
    rw [hUh] at f1 f2
    refine ⟨Nat.le_trans hS.1 f1, fun q hq ha => ?_, fun z hz => ?_⟩
    · rw [f2 q (Nat.lt_of_lt_of_le hq hS.1) (fun h => ha (hF q h))]
      exact hS.2.1 q hq ha
    · rcases List.mem_append.mp hz with h | h
      · exact hS.2.2 z h
      · exact hF _ (b5 z h)
  have hk1 : ∀ q : Nat, q < H.size → ¬ va_A wc H.size q → t.heap[q]? = H[q]? := by
    intro q h1 h2
    have := b6.2 q (by rw [hUh]; exact h1) (by rw [hUh]; exact h2)
    rw [hUh] at this
    exact this
  rcases b7 with ⟨v, w1, rfl, c1, c2, c3⟩ | ⟨q, E, w1, ce, rfl, c1, c2, c3, c4, c5, c6⟩
  · rw [hUh] at c3
    obtain ⟨hP1, hD1⟩ := va_join (wr := wr) (w1 := w1) hP hD isC isR hC hR hnR hdis hk1 hF c2 c3
    obtain ⟨T', X', -, -, ht⟩ := Y1.outOf (g := F0 (gx_m X) pc ls st) rfl hd' b2 b3 b4
    have hth : T'.heap = t.heap := by rw [ht]; simp
    obtain ⟨t2, a1, a2⟩ := kr v w1 c1 t.heap (locs ++ L) ls hP1 hD1 hS1 hl T' hth X'
    refine ⟨t2, hst t2 ?_, a2⟩
    rw [ht]
    exact a1
  · rw [hUh] at c3
    obtain ⟨hP1, hD1⟩ := va_join (wr := wr) (w1 := w1) hP hD isC isR hC hR hnR hdis hk1 hF c2 c3
    obtain ⟨T', X', -, -, ht⟩ := Y1.outOfThrown (g := F0 (gx_m X) pc ls st) rfl b2 b3 b4
    have hth : T'.heap = t.heap := by rw [ht]; exact (Stand.throwing_heap T' _ q).symm
    have c6' : (gx_s X).vm.findClass E = some ce.cls := by rw [← hW1.alike.findClass]; exact c6
    obtain ⟨t2, a1, a2⟩ := kx E w1 q c1 t.heap (locs ++ L) ls ce T' hP1 hD1 hS1 hl c4 c5 c6' hth X'
    refine ⟨t2, hst t2 ?_, a2⟩
    rw [ht]
    exact a1
end GDCALL
end
section
/-! the machine's step at each kind of call -/
theorem gd_codeOf {y : MethodName} {bytes : ByteArray} {maxL : Nat} {ret : Option FieldType} (h : Cond.code y bytes maxL ret ∈ TS) (U : State) (mk : MethodId) (a' : Array Value) (hts : ∀ w ∈ TS, w.before a' U = true) (hn : U.methodNamed? y = some mk) :
    ∃ methk ck, U.vm.method? mk = some methk ∧ methk.code = some ck ∧ ck.code = bytes ∧ ck.maxLocals = maxL ∧ methk.sig.returnType = ret ∧ methk.locks = false ∧ ck.exceptionTable.toList.map (fun h => (h.startPc, h.endPc, h.handlerPc, h.catchType)) = [] := by
  obtain ⟨meth, c, h1, h2, h3, h4, h5, h6, h7, -⟩ := Cond.code_spec hn (hts _ h)
  exact ⟨meth, c, h1, h2, h3, h4, h5, h6, by rw [Array.isEmpty_iff.mp h7]; rfl⟩
theorem gd_codeWithOf {y : MethodName} {bytes : ByteArray} {maxL : Nat} {ret : Option FieldType} {hs : List (Nat × Nat × Nat × Nat)} (h : Cond.codeWith y bytes maxL ret hs ∈ TS) (U : State) (mk : MethodId) (a' : Array Value) (hts : ∀ w ∈ TS, w.before a' U = true) (hn : U.methodNamed? y = some mk) :
    ∃ methk ck, U.vm.method? mk = some methk ∧ methk.code = some ck ∧ ck.code = bytes ∧ ck.maxLocals = maxL ∧ methk.sig.returnType = ret ∧ methk.locks = false ∧ ck.exceptionTable.toList.map (fun h => (h.startPc, h.endPc, h.handlerPc, h.catchType)) = hs := by
  obtain ⟨m9, meth, c, h0, h1, h2, h3, h4, h5, h6, h7, -⟩ := Cond.codeWith_spec (hts _ h)
  cases hn.symm.trans h0
  exact ⟨meth, c, h1, h2, h3, h4, h6, h7, h5⟩
/-- a method's descriptor -/
def gd_sig (y : MethodName) (n : Nat) : Prop := (∀ (U : State) (mk : MethodId) (a' : Array Value) (x : Method), (∀ w ∈ TS, w.before a' U = true) → U.methodNamed? y = some mk → U.vm.method? mk = some x → x.sig.parameters.length = n)
theorem gd_sigOf {y : MethodName} {bytes : ByteArray} {maxL n : Nat} {ret : Option FieldType} (h : Cond.code y bytes maxL ret ∈ TS) (hd : (parseMethodDescriptor y.desc).map (fun d => d.parameters.length) = some n) : gd_sig y n := by
  intro U mk a' x hts hn hx
  obtain ⟨meth, c, h1, h2, h3, h4, h5, h6, h7, h8⟩ := Cond.code_spec hn (hts _ h)
  cases h1.symm.trans hx
  rw [h8] at hd
  exact Option.some.inj hd
theorem gd_sigWithOf {y : MethodName} {bytes : ByteArray} {maxL n : Nat} {ret : Option FieldType} {hs : List (Nat × Nat × Nat × Nat)} (h : Cond.codeWith y bytes maxL ret hs ∈ TS) (hd : (parseMethodDescriptor y.desc).map (fun d => d.parameters.length) = some n) : gd_sig y n := by
  intro U mk a' x hts hn hx
  obtain ⟨m9, meth, c, h0, h1, h2, h3, h4, h5, h6, h7, h8⟩ := Cond.codeWith_spec (hts _ h)
  cases hn.symm.trans h0
  cases h1.symm.trans hx
  rw [h8] at hd
  exact Option.some.inj hd
section GDN
variable {X : gd_X} {K : gd_K} {cc : ByteArray} {own : String} {nL : Nat} {tb : List (Nat × Nat × Nat × Nat)} {rm : Room} {cells slots : Nat} {ws : va_W} {st stk : List Value}
theorem gd_nV (hX : gd_C X K cc own nL tb rm) {y : MethodName} {index pc : Nat} {b ci : Nat} {fs : List Value} {T9 : u_T} {N n : Nat} {As : List Value} (hlink : Cond.methodLink own index y ∈ TS) (hinst : Cond.instanceMethod y ∈ TS) (hsel : Cond.selects y.cls y y ∈ TS) (hsig : gd_sig y n) (hy : y.cls ≠ "java/lang/invoke/MethodHandle" ∧ y.cls ≠ "java/lang/invoke/VarHandle")
    (q0 : Nat) (he : ws[q0]? = some (b, .inr (ci, fs))) (hc : cls_[ci]? = some (y.cls, T9, N)) (hn : As.length = n) (hstk : stk = As.reverse ++ .ref b :: st) (hd : decode cc pc = .ok (.invokevirtual index, 3))
    (H : Heap) (locs : List Loc) (ls : Array Slot) (hP : va_P K.1 cls_ ws H) : gd_N X H locs cells slots (F0 (gx_m X) pc ls stk) st y (Value.ref b :: As).toArray := by
  intro T hT Y
  have hts := hX.2.2.1.1
  obtain ⟨mk, methM, hnamed, hmethM, hstM, habM⟩ := Cond.instanceMethod_spec (hts _ hinst)
  obtain ⟨c2, r2, m2, q1, q2, q3, q4, kP, hkP, hkPi⟩ := Cond.selects_spec (hts _ hsel)
  obtain ⟨cellB, hcB, hoB, hcls⟩ := va_recv hX.2.2.1.2.1 hP hc he
  cases hcls.symm.trans q1
  cases (State.methodFound?_of_named hnamed hy).symm.trans q2
  cases hnamed.symm.trans q3
  have hselP : selectMethod (gx_e X).platform (gx_s X).vm cellB.cls mk = .method mk := by rw [Launch.admits_selectMethod Y.admits]; exact q4
  obtain ⟨vm1, Y1, hs1⟩ := Y.invokevirtual hX.1 hX.2.2.2.1 (hts _ hlink) hnamed hmethM hstM hkP hkPi hy (a := b) (cell := cellB) (by rw [hT]; exact hcB)
    (fun z h => by rw [h] at hoB; cases hoB) hselP hmethM habM hkP hkPi (g := F0 (gx_m X) pc ls stk) rfl (argsL := As) (rest := st) (hn.trans (hsig _ _ _ _ hts hnamed hmethM).symm) hstk (by rw [hX.2.1]; exact hd)
  exact ⟨mk, vm1, hnamed, Y1, hs1⟩
theorem gd_nVN (hX : gd_C X K cc own nL tb rm) {y : MethodName} {host : String} {index pc : Nat} {b ci : Nat} {fs : List Value} {T9 : u_T} {N n : Nat} {As : List Value} (hlink : Cond.methodLinkNest own index y host ∈ TS) (hinst : Cond.instanceMethod y ∈ TS) (hsel : Cond.selects y.cls y y ∈ TS) (hsig : gd_sig y n) (hy : y.cls ≠ "java/lang/invoke/MethodHandle" ∧ y.cls ≠ "java/lang/invoke/VarHandle")
    (q0 : Nat) (he : ws[q0]? = some (b, .inr (ci, fs))) (hc : cls_[ci]? = some (y.cls, T9, N)) (hn : As.length = n) (hstk : stk = As.reverse ++ .ref b :: st) (hd : decode cc pc = .ok (.invokevirtual index, 3))
    (H : Heap) (locs : List Loc) (ls : Array Slot) (hP : va_P K.1 cls_ ws H) : gd_N X H locs cells slots (F0 (gx_m X) pc ls stk) st y (Value.ref b :: As).toArray := by
  intro T hT Y
  have hts := hX.2.2.1.1
  obtain ⟨mk, methM, hnamed, hmethM, hstM, habM⟩ := Cond.instanceMethod_spec (hts _ hinst)
  obtain ⟨c2, r2, m2, q1, q2, q3, q4, kP, hkP, hkPi⟩ := Cond.selects_spec (hts _ hsel)
  obtain ⟨cellB, hcB, hoB, hcls⟩ := va_recv hX.2.2.1.2.1 hP hc he
  cases hcls.symm.trans q1
  cases (State.methodFound?_of_named hnamed hy).symm.trans q2
  cases hnamed.symm.trans q3
  have hselP : selectMethod (gx_e X).platform (gx_s X).vm cellB.cls mk = .method mk := by rw [Launch.admits_selectMethod Y.admits]; exact q4
  obtain ⟨vm1, Y1, hs1⟩ := Y.invokevirtualNest hX.1 hX.2.2.2.1 (hts _ hlink) hnamed hmethM hstM hkP hkPi hy (a := b) (cell := cellB) (by rw [hT]; exact hcB)
    (fun z h => by rw [h] at hoB; cases hoB) hselP hmethM habM hkP hkPi (g := F0 (gx_m X) pc ls stk) rfl (argsL := As) (rest := st) (hn.trans (hsig _ _ _ _ hts hnamed hmethM).symm) hstk (by rw [hX.2.1]; exact hd)
  exact ⟨mk, vm1, hnamed, Y1, hs1⟩
theorem gd_nS (hX : gd_C X K cc own nL tb rm) {y : MethodName} {index pc : Nat} {n : Nat} {As : List Value} (hlink : Cond.methodLink own index y ∈ TS) (hst : Cond.static y ∈ TS) (hini : Cond.initialized y.cls ∈ TS) (hnm : ∀ (U : State) (a' : Array Value), (∀ w ∈ TS, w.before a' U = true) → ∃ mk methk, U.methodNamed? y = some mk ∧ U.vm.method? mk = some methk) (hsig : gd_sig y n) (hy : y.cls ≠ "java/lang/invoke/MethodHandle" ∧ y.cls ≠ "java/lang/invoke/VarHandle")
    (hn : As.length = n) (hstk : stk = As.reverse ++ st) (hd : decode cc pc = .ok (.invokestatic index, 3))
    (H : Heap) (locs : List Loc) (ls : Array Slot) (hP : va_P K.1 cls_ ws H) : gd_N X H locs cells slots (F0 (gx_m X) pc ls stk) st y As.toArray := by
  intro T hT Y
  have hts := hX.2.2.1.1
  obtain ⟨mk, methM, hnamed, hmethM⟩ := hnm (gx_s X) _ hts
  have hstatic : methM.isStatic = true := Cond.static_spec hnamed hmethM (hts _ hst)
  obtain ⟨kP, hkP, -⟩ := className_of_methodNamed hnamed
  have hinitP : kP.init = .initialized := Cond.initialized_spec (findClass_of_methodNamed hnamed) hkP (hts _ hini)
  obtain ⟨vm1, Y1, hs1⟩ := Y.invokestatic hX.1 hX.2.2.2.1 (hts _ hlink) hnamed hmethM hstatic hkP hinitP hy (g := F0 (gx_m X) pc ls stk) rfl (argsL := As) (rest := st) (hn.trans (hsig _ _ _ _ hts hnamed hmethM).symm) hstk (by rw [hX.2.1]; exact hd)
  exact ⟨mk, vm1, hnamed, Y1, hs1⟩
theorem gd_nI (hX : gd_C X K cc own nL tb rm) {y : MethodName} {bytes : ByteArray} {maxL : Nat} {index pc : Nat} {b n : Nat} {As : List Value} (hlink : Cond.methodLink own index y ∈ TS) (hinst : Cond.instanceMethod y ∈ TS) (hcode : Cond.code y bytes maxL none ∈ TS) (hy1 : y.name = "<init>") (hdn : (parseMethodDescriptor y.desc).map (fun d => d.parameters.length) = some n) (hy : y.cls ≠ "java/lang/invoke/MethodHandle" ∧ y.cls ≠ "java/lang/invoke/VarHandle")
    (hn : As.length = n) (hstk : stk = As.reverse ++ .ref b :: st) (hd : decode cc pc = .ok (.invokespecial index, 3))
    (H : Heap) (locs : List Loc) (ls : Array Slot) (hP : va_P K.1 cls_ ws H) : gd_N X H locs cells slots (F0 (gx_m X) pc ls stk) st y (Value.ref b :: As).toArray := by
  intro T hT Y
  have hts := hX.2.2.1.1
  have hpl : (gx_e X).platform.magicAccessors = ({} : Platform).magicAccessors := by rw [Y.admits.platform]
  obtain ⟨mk, methM, cM, kP, vm1, hnamed, hmethM, -, -, -, -, -, -, hW1, hs1⟩ := Steps.initColdArgs (e := gx_e X) Y.here hX.1 Y.warmed hpl hX.2.2.2.1 hy1 hy (hts _ hlink) (hts _ hinst) (hts _ hcode) (f := F0 (gx_m X) pc ls stk) rfl (argsL := As) (rest := st) (a := b) (fun sig h => by rw [h] at hdn; exact hn.trans (Option.some.inj hdn).symm) hstk (by rw [hX.2.1]; exact hd)
  exact ⟨mk, vm1, hnamed, Y.noted hW1, hs1⟩
theorem gd_nIN (hX : gd_C X K cc own nL tb rm) {y : MethodName} {host : String} {bytes : ByteArray} {maxL : Nat} {index pc : Nat} {b n : Nat} {As : List Value} (hlink : Cond.methodLinkNest own index y host ∈ TS) (hinst : Cond.instanceMethod y ∈ TS) (hcode : Cond.code y bytes maxL none ∈ TS) (hy1 : y.name = "<init>") (hdn : (parseMethodDescriptor y.desc).map (fun d => d.parameters.length) = some n) (hy : y.cls ≠ "java/lang/invoke/MethodHandle" ∧ y.cls ≠ "java/lang/invoke/VarHandle")
    (hn : As.length = n) (hstk : stk = As.reverse ++ .ref b :: st) (hd : decode cc pc = .ok (.invokespecial index, 3))
    (H : Heap) (locs : List Loc) (ls : Array Slot) (hP : va_P K.1 cls_ ws H) : gd_N X H locs cells slots (F0 (gx_m X) pc ls stk) st y (Value.ref b :: As).toArray := by
  intro T hT Y
  have hts := hX.2.2.1.1
  have hpl : (gx_e X).platform.magicAccessors = ({} : Platform).magicAccessors := by rw [Y.admits.platform]
  obtain ⟨mk, methM, cM, kP, vm1, hnamed, hmethM, -, -, -, -, -, -, hW1, hs1⟩ := Steps.initColdArgsNest (e := gx_e X) Y.here hX.1 Y.warmed hpl hX.2.2.2.1 hy1 hy (hts _ hlink) (hts _ hinst) (hts _ hcode) (f := F0 (gx_m X) pc ls stk) rfl (argsL := As) (rest := st) (a := b) (fun sig h => by rw [h] at hdn; exact hn.trans (Option.some.inj hdn).symm) hstk (by rw [hX.2.1]; exact hd)
  exact ⟨mk, vm1, hnamed, Y.noted hW1, hs1⟩
end GDN
end
section
/-! throws and catches -/
def gd_chain : List String := ["java/lang/RuntimeException", "java/lang/Exception"]
/-- a throw's words, for the three kinds of exceptions -/
def gd_tw (E : String) (ic ik : Nat) : Prop := Bundle.fit E = true ∧ Cond.classLink "ChunkCode" ik E ∈ TS ∧ Cond.initialized E ∈ TS ∧ ∀ w ∈ vx_atS "ChunkCode" ic E gd_chain, w ∈ TS
set_option maxRecDepth 20000 in
theorem tw_io : gd_tw "java/lang/IndexOutOfBoundsException" 109 105 := ⟨by decide +kernel, by decide +kernel, by decide +kernel, by decide +kernel⟩
set_option maxRecDepth 20000 in
theorem tw_uo : gd_tw "java/lang/UnsupportedOperationException" 67 63 := ⟨by decide +kernel, by decide +kernel, by decide +kernel, by decide +kernel⟩
set_option maxRecDepth 20000 in
theorem tw_ia : gd_tw "java/lang/IllegalArgumentException" 117 113 := ⟨by decide +kernel, by decide +kernel, by decide +kernel, by decide +kernel⟩
theorem gd_chain_fit : ∀ n ∈ gd_chain, Bundle.fit n = true := by decide +kernel
section GDT
variable {X : gd_X} {K : gd_K} {cc : ByteArray} {own : String} {nL : Nat} {tb : List (Nat × Nat × Nat × Nat)} {rm : Room} {cells slots : Nat} {ws : va_W} {lv : List (Nat × Value)} {st : List Value}
variable {wc : va_W} {post : Option Value → va_W → Prop} {xp : String → va_W → Prop} {mc ms : Nat}
/-- throw new E("text"), in a method without handlers there -/
theorem gd_throw (hX : gd_C X K cc "ChunkCode" nL tb rm) {ret : Option FieldType} (hE : gd_E X K ret wc post xp mc ms) (hl : (gx_l X).stackTraces = false) {E text : String} {ik is ic : Nat} (pc : Nat) (hw : gd_tw E ic ik) (htx : (is, text) ∈ gd_str)
    (d0 : decode cc pc = .ok (.new ik, 3)) (d3 : decode cc (pc + 3) = .ok (.dup, 1)) (d4 : decode cc (pc + 4) = .ok (.ldc is, 2)) (d6 : decode cc (pc + 6) = .ok (.invokespecial ic, 3)) (d9 : decode cc (pc + 9) = .ok (.athrow, 1))
    (hout : ∀ x ∈ tb, ¬ (x.1 ≤ pc + 9 ∧ pc + 9 < x.2.1)) (hfr : 5 < rm.frames) (hlo : (st.map fun v => v.category).sum + 82 ≤ rm.locals) (hce : cells + 1 ≤ rm.cells) (hsl : slots + 6 ≤ rm.slots) (hmc : cells + 1 ≤ mc) (hms : slots + 6 ≤ ms)
    (hp : xp E ws) : gd_W X K cells slots ws lv st pc := by
  intro H locs ls hP hD hS hlv T hT Y
  obtain ⟨hfit, hk, hini, hat⟩ := hw
  have hRm := hX.2.2.2.2.2.2.2.2.2.2
  have htr : (gx_e X).platform.stackTraces = false := (show (gx_e X).platform.stackTraces = (gx_l X).stackTraces by rw [Y.admits.platform]).trans hl
  have Y0 := vx_rebase Y (R' := { frames := (gx_R X).frames, locals := (gx_R X).locals, cells := 1, slots := 6 }) (Nat.le_refl _) (Nat.le_refl _) (by rw [hRm]; exact hce) (by rw [hRm]; exact hsl)
  obtain ⟨s', hA⟩ : ∃ z, z = (T.setVm (gx_s X).vm).setFrames (.invoking (gx_m X) (gx_args X) :: gx_below X) := ⟨_, rfl⟩
  rw [← hA] at Y0
  have hvm : s'.vm = (gx_s X).vm := by rw [hA]; rfl
  have hhp : s'.heap = H := by rw [hA]; exact hT
  have hW0 : (gx_s X).WarmedH s'.vm := by rw [hvm]; exact State.WarmedH.refl (gx_s X)
  have hS' : gd_S K (gx_args X) s' := gd_S.at (A := gx_A X) (locs := locs) hW0 hX.2.2.2.2.2.1 (by rw [hhp]; exact hS) hX.2.2.1
  obtain ⟨hts, -, -, hU', hN', hstrs, -, -⟩ := hS'
  have h : ∀ w ∈ Bundle.ownAtoms "ChunkCode" ic E gd_chain, w.before (gx_args X) s' = true := vx_own (fun w hw => hts w (hat w hw)) (vx_isRefq hU'.1) (vx_isRefq hN'.1) hU'.2.word hN'.2.word
  have hown' : s'.vm.findClass "ChunkCode" = some (gx_m X).cls := by rw [hvm]; exact hX.2.2.2.1
  have hins : (Cond.instantiable E 6).before (gx_args X) s' = true := h _ (by simp [Bundle.ownAtoms])
  obtain ⟨vm1, cX, kX, hfX, hkX, -, -, Y1, st1⟩ := Y0.newCold hX.1 (own := "ChunkCode") (C := E) (index := ik) (n := 6) hown' (hts _ hk) hins (hts _ hini)
    (g := F0 (gx_m X) pc ls st) rfl (by rw [hX.2.1]; exact d0) (Nat.le_refl _) (Nat.le_refl _)
  generalize hT1 : (T.setVm vm1).pushCell { cls := cX, slots := kX.instanceTypes.map defaultValue, vm := .none } = T1 at Y1 st1
  have hcat : (Value.ref T.heap.size).category = 1 := rfl
  have hcellA : T1.heap[T.heap.size]? = some (freshCell cX kX) := by rw [← hT1]; exact State.heap_pushCell_size _ _
  have d3' : decode (gx_c X).code (pc + 3) = .ok (.dup, 1) := by rw [hX.2.1]; exact d3
  have d4' : decode (gx_c X).code (pc + 4) = .ok (.ldc is, 2) := by rw [hX.2.1]; exact d4
  obtain ⟨sa, hstr⟩ := hstrs _ htx
  have ho : ∀ x ∈ (gx_c X).exceptionTable.toList, covers x (pc + 9) = false := by
    intro x hx
    have h9 := hout (x.startPc, x.endPc, x.handlerPc, x.catchType) (by rw [← hX.2.2.2.2.2.2.2.2.1]; exact List.mem_map.mpr ⟨x, hx, rfl⟩)
    simp only [covers, Bool.and_eq_false_iff, decide_eq_false_iff_not]
    dsimp only at h9
    omega
  obtain ⟨U, hsteps, hrun, hend, hW, hsame, ce, hce1, hO⟩ := Y1.ctorThrowS hX.1 htr (own := "ChunkCode") (cls := E) (names := gd_chain) (ic := ic) hown' hfit gd_chain_fit h (fun x hx => nomatch hx) hfX hkX hcellA (by rw [hhp, hT]; exact Nat.le_refl _) (msg := .ref sa) rfl
    (g := { method := gx_m X, pc := pc + 6, locals := ls, stack := .ref sa :: .ref T.heap.size :: .ref T.heap.size :: st, locked := none }) rfl (by rw [hX.2.2.2.2.2.2.2.1]; exact hlv.1) rfl rfl (rest := st) rfl
    (by rw [hX.2.1]; exact d6) (by rw [hX.2.1]; exact d9) ho (by rw [hRm]; exact hfr) (by
      show 2 * 0 + ((Value.ref T.heap.size :: st).map fun v => v.category).sum + (13 * (2 + 1) + 42) ≤ (gx_R X).locals
      rw [hRm]; simp only [List.map_cons, List.sum_cons, hcat]; omega) hX.2.2.2.2.2.2.2.2.2.1
  obtain ⟨f1, f2⟩ := vx_frame hsame
  rw [hhp] at f1 f2
  have hWs : (gx_s X).WarmedH U.vm := State.WarmedH.trans hW0 hW
  have hcl : (gx_s X).vm.findClass E = some ce.cls := by
    have h9 := hO.cls
    rw [hvm] at h9
    exact h9
  have hall : (gx_s X).sameButNew ({ U with vm := (gx_s X).vm } : State) locs mc ms := by
    subst hA
    obtain ⟨e1, e2⟩ := hsame
    rw [State.setFrames_setFrames] at e1
    have h2 : (T.setVm (gx_s X).vm).sameButNew ({ U with vm := (gx_s X).vm } : State) [] (0 + 1) (0 + 6) := ⟨e1, e2⟩
    have h3 := Y.same.trans h2
    rw [List.append_nil] at h3
    exact h3.mono hmc hms
  have hk2 : ∀ q : Nat, q < H.size → U.heap[q]? = H[q]? := fun q hq => f2 q hq (fun z hz => nomatch hz)
  refine ⟨U, ?_, ?_⟩
  · refine st1 _ ?_
    show Steps (gx_p X).tables (gx_e X) (gx_below X) (T1.setTop { method := gx_m X, pc := pc + 3, locals := ls, stack := .ref T.heap.size :: st, locked := none }) _
    have hx1 := hX.1
    jvm_step Y1.here [Y1.here.top, hx1, d3', Value.category]
    exact Y1.ldcString hX.1 (own := "ChunkCode") (text := text) (index := is) (a := sa) hown' hstr.1 hstr.2
      (g := { method := gx_m X, pc := pc + 4, locals := ls, stack := .ref T.heap.size :: .ref T.heap.size :: st, locked := none }) rfl d4' _ hsteps
  · rw [hE.2.2]
    rw [hE.2.1] at hD hS
    refine ⟨.threw T.heap.size, locs, hrun, hend, hWs, hall, hS.2.2, ⟨Nat.le_trans hS.1 f1, fun q h1 h2 => ?_⟩, Or.inr ⟨T.heap.size, E, ws, ce, rfl, hp, hP.kept (fun k q hq => hk2 _ (hP k q hq).lt), hD, hce1, hO.vm, hcl⟩⟩
    rw [hk2 q (Nat.lt_of_lt_of_le h1 hS.1)]
    exact hS.2.1 q h1 h2
/-- caught here: the rows ahead don't take it -/
theorem gd_catch (hX : gd_C X K cc own nL tb rm) {name E : String} {q pc : Nat} (pre : List (Nat × Nat × Nat × Nat)) (x : Nat × Nat × Nat × Nat) (suf : List (Nat × Nat × Nat × Nat)) (hsplit : tb = pre ++ x :: suf)
    (hpass : ∀ z ∈ pre, z.2.2.2 ≠ 0 ∧ ∃ nm : String, Cond.classLink own z.2.2.2 nm ∈ TS ∧ va_Nc E nm (gx_s X)) (hx : x.1 ≤ pc ∧ pc < x.2.1) (h0 : x.2.2.2 ≠ 0) (hlink : Cond.classLink own x.2.2.2 name ∈ TS) (hcast : Cond.castable E name ∈ TS)
    (kk : gd_W X K cells slots ws lv [.ref q] x.2.2.1) : gd_T X K cells slots ws lv st pc E q := by
  intro H locs ls ce T hP hD hS hl h1 h2 h3 hT Y
  have hts := hX.2.2.1.1
  have hpl : (gx_e X).platform.magicAccessors = ({} : Platform).magicAccessors := by rw [Y.admits.platform]
  obtain ⟨c3, c4, hc3, hc4, hasg⟩ := Cond.castable_spec (hts _ hcast)
  cases Option.some.inj (hc3.symm.trans h3)
  obtain ⟨c5, hc5, hcl5⟩ := Cond.classLink_spec hX.2.2.2.1 (hts _ hlink) (gx_e X).platform hpl
  cases Option.some.inj (hc4.symm.trans hc5)
  have htab : (gx_c X).exceptionTable.toList = tableOf tb := by rw [← hX.2.2.2.2.2.2.2.2.1, table_eq]
  have htab2 : (gx_c X).exceptionTable.toList = tableOf pre ++ ⟨x.1, x.2.1, x.2.2.1, x.2.2.2⟩ :: tableOf suf := by rw [htab, hsplit]; simp [tableOf]
  obtain ⟨vm', Y', st9⟩ := Y.thenCaughtThrough q (g := F0 (gx_m X) pc ls st) rfl (Steps.refl _) (by rw [hT]; exact h1) (by rw [h2]; rfl) (by obtain ⟨k9, h9, -⟩ := Vm.findClass_spec h3; exact ⟨k9, h9⟩) (tableOf pre) ⟨x.1, x.2.1, x.2.2.1, x.2.2.2⟩ (tableOf suf) htab2
    (fun z hz => by
      simp only [tableOf, List.mem_map] at hz
      obtain ⟨y, hy, rfl⟩ := hz
      obtain ⟨hz0, nm, hl1, a8, b8, g1, g2, g3⟩ := hpass y hy
      obtain ⟨c6, hc6, hcl6⟩ := Cond.classLink_spec hX.2.2.2.1 (hts _ hl1) (gx_e X).platform hpl
      cases Option.some.inj (g1.symm.trans h3)
      cases Option.some.inj (g2.symm.trans hc6)
      exact Or.inr ⟨hz0, _, hcl6, g3⟩) (by simp only [covers]; simp; omega) (Or.inr ⟨h0, c4, hcl5, hasg⟩)
  obtain ⟨t, a1, b1⟩ := kk H locs ls hP hD hS hl (T.setVm vm') hT Y'
  exact ⟨t, st9.trans a1, b1⟩
end GDT
end
section
theorem gd_nmOf {y : MethodName} {bytes : ByteArray} {maxL : Nat} {ret : Option FieldType} (h : Cond.code y bytes maxL ret ∈ TS) (U : State) (a' : Array Value) (hts : ∀ w ∈ TS, w.before a' U = true) : ∃ mk methk, U.methodNamed? y = some mk ∧ U.vm.method? mk = some methk := by
  obtain ⟨mk, hn⟩ := Cond.code_named (hts _ h)
  obtain ⟨meth, c, h1, -⟩ := Cond.code_spec hn (hts _ h)
  exact ⟨mk, meth, hn, h1⟩
theorem gd_nmWithOf {y : MethodName} {bytes : ByteArray} {maxL : Nat} {ret : Option FieldType} {hs : List (Nat × Nat × Nat × Nat)} (h : Cond.codeWith y bytes maxL ret hs ∈ TS) (U : State) (a' : Array Value) (hts : ∀ w ∈ TS, w.before a' U = true) : ∃ mk methk, U.methodNamed? y = some mk ∧ U.vm.method? mk = some methk := by
  obtain ⟨mk, meth, c, h0, h1, -⟩ := Cond.codeWith_spec (hts _ h)
  exact ⟨mk, meth, h0, h1⟩
theorem gd_inc (k : Nat) : nI k + Int32.ofInt 1 = nI (k + 1) := (nI_succ k).symm
end
section
/-! making objects and arrays -/
section GDM
variable {X : gd_X} {K : gd_K} {cc : ByteArray} {own : String} {nL : Nat} {tb : List (Nat × Nat × Nat × Nat)} {rm : Room} {cells slots : Nat} {ws : va_W} {lv : List (Nat × Value)} {st : List Value}
theorem gd_init (hX : gd_C X K cc own nL tb rm) {index a : Nat} (pc : Nat) (hd : decode cc pc = .ok (.invokespecial index, 3)) (hlink : Cond.methodLink own index ⟨"java/lang/Object", "<init>", "()V"⟩ ∈ TS) (hfr : 1 ≤ rm.frames) (hlo : (st.map fun v => v.category).sum + 12 ≤ rm.locals) (kk : gd_W X K cells slots ws lv st (pc + 3)) : gd_W X K cells slots ws lv (.ref a :: st) pc := by
  intro H locs ls hP hD hS hl
  have hRm := hX.2.2.2.2.2.2.2.2.2.2
  refine W.objInit hX.1 hX.2.1 hX.2.2.2.1 (hX.2.2.1.1 _ hlink) (hX.2.2.1.1 _ kw_32) (hX.2.2.1.1 _ kw_33) rfl (by rw [hX.2.2.2.2.2.2.2.1]; exact hl.1) rfl hd (by rw [hRm]; exact hfr) (by rw [hRm]; simpa using hlo) ?_
  exact kk H locs ls hP hD hS hl
theorem gd_new (hX : gd_C X K cc own nL tb rm) {C : String} {T : u_T} {N ci index : Nat} (hin : ∀ w ∈ u_ws C T N, w ∈ TS) (ty0 : Nat → FieldType) (hty : ∀ k, k < N → parseFieldDescriptor (T k).2.2.1 = some (ty0 k)) (fs : List Value) (pc : Nat) (hd : decode cc pc = .ok (.new index, 3)) (hcl : Cond.classLink own index C ∈ TS) (hinst : Cond.instantiable C N ∈ TS) (hini : Cond.initialized C ∈ TS) (hc : cls_[ci]? = some (C, T, N)) (hfs : ∀ j, j < N → defaultValue (ty0 j) = vp_V fs j) (hce : cells + 1 ≤ rm.cells) (hsl : slots + N ≤ rm.slots)
    (kk : ∀ q, gd_W X K (cells + 1) (slots + N) (ws ++ [gd_ob ci q fs]) lv (.ref q :: st) (pc + 3)) : gd_W X K cells slots ws lv st pc := by
  intro H locs ls hP hD hS hl
  have hRm := hX.2.2.2.2.2.2.2.2.2.2
  exact va_new hX.1 hX.2.1 hX.2.2.1.1 hin ty0 hty hX.2.2.2.1 (hX.2.2.1.1 _ hcl) (hX.2.2.1.1 _ hinst) (hX.2.2.1.1 _ hini) hX.2.2.1.2.1 hP hD hS hX.2.2.2.2.1 hc hfs (by rw [hRm]; exact hce) (by rw [hRm]; exact hsl) hd (fun q H1 hP1 hD1 hS1 => kk q H1 locs ls hP1 hD1 hS1 hl)
theorem gd_newaJ (hX : gd_C X K cc own nL tb rm) {n : Int32} (N : Nat) (pc : Nat) (hd : decode cc pc = .ok (.newarray .long, 2)) (hn : n = nI N) (hN : N < 65536) (hce : cells + 1 ≤ rm.cells) (hsl : slots + N ≤ rm.slots)
    (kk : ∀ q, gd_W X K (cells + 1) (slots + N) (ws ++ [gd_aJ K q N (fun _ => 0)]) lv (.ref q :: st) (pc + 2)) : gd_W X K cells slots ws lv (.int n :: st) pc := by
  subst hn
  intro H locs ls hP hD hS hl
  have hRm := hX.2.2.2.2.2.2.2.2.2.2
  refine va_newa hX.1 hX.2.1 (atype := .long) (hX.2.2.1.1 _ kw_47) (ty := .long) rfl hX.2.2.1.2.1 hP hD hS hX.2.2.2.2.1 (a0 := (N, .inr (.inl (fun _ => 0)))) (fun cA => rfl) (nI_pos (by omega)) (nI_clamp (by omega)) (by show N * 8 ≤ _; omega) (by rw [hRm]; exact hce) (by rw [hRm]; exact hsl) hd (fun q cA H1 hK1 hP1 hD1 hS1 => ?_)
  have e : cA = K.2.2.1 := Option.some.inj ((hK1.2 4 _ rfl).2.symm.trans (hX.2.2.1.2.1.2 1 _ rfl).2)
  subst e
  exact kk q H1 locs ls hP1 hD1 hS1 hl
theorem gd_newaI (hX : gd_C X K cc own nL tb rm) {n : Int32} (N : Nat) (pc : Nat) (hd : decode cc pc = .ok (.newarray .int, 2)) (hn : n = nI N) (hN : N < 65536) (hce : cells + 1 ≤ rm.cells) (hsl : slots + N ≤ rm.slots)
    (kk : ∀ q, gd_W X K (cells + 1) (slots + N) (ws ++ [gd_aI K q N (fun _ => 0)]) lv (.ref q :: st) (pc + 2)) : gd_W X K cells slots ws lv (.int n :: st) pc := by
  subst hn
  intro H locs ls hP hD hS hl
  have hRm := hX.2.2.2.2.2.2.2.2.2.2
  refine va_newa hX.1 hX.2.1 (atype := .int) (hX.2.2.1.1 _ kw_64) (ty := .int) rfl hX.2.2.1.2.1 hP hD hS hX.2.2.2.2.1 (a0 := (N, .inl (fun _ => 0))) (fun cA => rfl) (nI_pos (by omega)) (nI_clamp (by omega)) (by show N * 4 ≤ _; omega) (by rw [hRm]; exact hce) (by rw [hRm]; exact hsl) hd (fun q cA H1 hK1 hP1 hD1 hS1 => ?_)
  have e : cA = K.2.1 := Option.some.inj ((hK1.2 4 _ rfl).2.symm.trans (hX.2.2.1.2.1.2 0 _ rfl).2)
  subst e
  exact kk q H1 locs ls hP1 hD1 hS1 hl
theorem gd_newaB (hX : gd_C X K cc own nL tb rm) {n : Int32} (N : Nat) (pc : Nat) (hd : decode cc pc = .ok (.newarray .byte, 2)) (hn : n = nI N) (hN : N < 65536) (hce : cells + 1 ≤ rm.cells) (hsl : slots + N ≤ rm.slots)
    (kk : ∀ q, gd_W X K (cells + 1) (slots + N) (ws ++ [gd_aB K q N (fun _ => 0)]) lv (.ref q :: st) (pc + 2)) : gd_W X K cells slots ws lv (.int n :: st) pc := by
  subst hn
  intro H locs ls hP hD hS hl
  have hRm := hX.2.2.2.2.2.2.2.2.2.2
  refine va_newa hX.1 hX.2.1 (atype := .byte) (hX.2.2.1.1 _ kw_78) (ty := .byte) rfl hX.2.2.1.2.1 hP hD hS hX.2.2.2.2.1 (a0 := (N, .inl (fun _ => 0))) (fun cA => rfl) (nI_pos (by omega)) (nI_clamp (by omega)) (by show N * 1 ≤ _; omega) (by rw [hRm]; exact hce) (by rw [hRm]; exact hsl) hd (fun q cA H1 hK1 hP1 hD1 hS1 => ?_)
  have e : cA = K.2.2.2.1 := Option.some.inj ((hK1.2 4 _ rfl).2.symm.trans (hX.2.2.1.2.1.2 2 _ rfl).2)
  subst e
  exact kk q H1 locs ls hP1 hD1 hS1 hl
theorem gd_newaZ (hX : gd_C X K cc own nL tb rm) {n : Int32} (N : Nat) (pc : Nat) (hd : decode cc pc = .ok (.newarray .boolean, 2)) (hn : n = nI N) (hN : N < 65536) (hce : cells + 1 ≤ rm.cells) (hsl : slots + N ≤ rm.slots)
    (kk : ∀ q, gd_W X K (cells + 1) (slots + N) (ws ++ [gd_aZ K q N (fun _ => 0)]) lv (.ref q :: st) (pc + 2)) : gd_W X K cells slots ws lv (.int n :: st) pc := by
  subst hn
  intro H locs ls hP hD hS hl
  have hRm := hX.2.2.2.2.2.2.2.2.2.2
  refine va_newa hX.1 hX.2.1 (atype := .boolean) (hX.2.2.1.1 _ kw_445) (ty := .boolean) rfl hX.2.2.1.2.1 hP hD hS hX.2.2.2.2.1 (a0 := (N, .inl (fun _ => 0))) (fun cA => rfl) (nI_pos (by omega)) (nI_clamp (by omega)) (by show N * 1 ≤ _; omega) (by rw [hRm]; exact hce) (by rw [hRm]; exact hsl) hd (fun q cA H1 hK1 hP1 hD1 hS1 => ?_)
  have e : cA = K.2.2.2.2.1 := Option.some.inj ((hK1.2 4 _ rfl).2.symm.trans (hX.2.2.1.2.1.2 3 _ rfl).2)
  subst e
  exact kk q H1 locs ls hP1 hD1 hS1 hl
end GDM
end
section
set_option maxRecDepth 100000 in
set_option maxHeartbeats 4000000 in
theorem ct_Cl_isFull (l : Launch) (K : gd_K) (h a k : Nat) (w : Int64) (hk : k < 64) : gd_M l yy_Cl_isFull bb_Cl_isFull 2 (some .boolean) [] 0 0 0 0 K [.ref h, .int (nI k)] [gd_ob 0 h [.ref a, .long w]] (fun v w1 => v = some (.int (if ch_bit w k then 1 else 0)) ∧ w1 = [gd_ob 0 h [.ref a, .long w]]) (fun _ _ => False) := by
  refine gd_body (Nat.le_of_ble_eq_true rfl) (fun X hXl hin hE hX => ?_)
  refine gd_aload_n hX 0 dd_Cl_isFull_0 rfl ?_
  refine gd_get hX inC_Cl 0 1 1 dd_Cl_isFull_1 rfl rfl (by decide) kw_41 rfl ?_
  refine gd_iload_n hX 4 dd_Cl_isFull_4 rfl ?_
  refine gd_lushr hX 5 dd_Cl_isFull_5 ?_
  refine gd_lconst hX 6 dd_Cl_isFull_6 (v := 1) (by decide) ?_
  refine gd_land hX 7 dd_Cl_isFull_7 ?_
  refine gd_eql (show (((w.toUInt64 >>> ((nI k).toInt64.toUInt64 &&& Int64.toUInt64 63)).toInt64) &&& 1 : Int64) = (if ch_bit w k then 1 else 0) from ch_isfull w hk) ?_
  refine gd_lconst hX 8 dd_Cl_isFull_8 (v := 1) (by decide) ?_
  refine gd_lcmp hX 9 dd_Cl_isFull_9 ?_
  refine gd_eqi (show (lg_cmp (if ch_bit w k then 1 else 0) 1 : Int32) = (if ch_bit w k then 0 else (-1)) from by cases ch_bit w k <;> rfl) ?_
  refine gd_if_ne hX 10 17 dd_Cl_isFull_10 (by decide) (fun h1 => ?_) (fun h1 => ?_)
  · skip
    refine gd_iconst hX 17 dd_Cl_isFull_17 (v := 0) (by decide) ?_
    refine gd_zret hX hE 18 dd_Cl_isFull_18 rfl ⟨?_, rfl⟩
    cases hb : ch_bit w k <;> simp_all
  · skip
    refine gd_iconst hX 13 dd_Cl_isFull_13 (v := 1) (by decide) ?_
    refine gd_goto hX 14 18 dd_Cl_isFull_14 (by decide) ?_
    refine gd_zret hX hE 18 dd_Cl_isFull_18 rfl ⟨?_, rfl⟩
    cases hb : ch_bit w k <;> simp_all
set_option maxRecDepth 100000 in
set_option maxHeartbeats 4000000 in
theorem ct_Cl_number (l : Launch) (K : gd_K) (h a k : Nat) (w : Int64) (f : Nat → Int64) (hk : k < 64) : gd_M l yy_Cl_number bb_Cl_number 2 (some .long) [] 0 0 0 0 K [.ref h, .int (nI k)] [gd_ob 0 h [.ref a, .long w], gd_aJ K a 64 f] (fun v w1 => v = some (.long (f k)) ∧ w1 = [gd_ob 0 h [.ref a, .long w], gd_aJ K a 64 f]) (fun _ _ => False) := by
  refine gd_body (Nat.le_of_ble_eq_true rfl) (fun X hXl hin hE hX => ?_)
  refine gd_aload_n hX 0 dd_Cl_number_0 rfl ?_
  refine gd_get hX inC_Cl 0 0 1 dd_Cl_number_1 rfl rfl (by decide) kw_40 rfl ?_
  refine gd_iload_n hX 4 dd_Cl_number_4 rfl ?_
  refine gd_lald hX 1 k 5 dd_Cl_number_5 rfl rfl (by omega) (by decide) ?_
  exact gd_lret hX hE 6 dd_Cl_number_6 ⟨rfl, rfl⟩
set_option maxRecDepth 100000 in
set_option maxHeartbeats 4000000 in
theorem ct_Cl_fill (l : Launch) (K : gd_K) (h a k : Nat) (w : Int64) (f : Nat → Int64) (x : Int64) (hk : k < 64) : gd_M l yy_Cl_fill bb_Cl_fill 4 (none) [] 0 0 0 0 K [.ref h, .int (nI k), .long x] [gd_ob 0 h [.ref a, .long w], gd_aJ K a 64 f] (fun v w1 => v = none ∧ w1 = [gd_ob 0 h [.ref a, .long (w ||| ((1 : Int64) <<< ((nI k).toInt64 &&& 63)))], gd_aJ K a 64 (vp_updL f k x)]) (fun _ _ => False) := by
  refine gd_body (Nat.le_of_ble_eq_true rfl) (fun X hXl hin hE hX => ?_)
  refine gd_aload_n hX 0 dd_Cl_fill_0 rfl ?_
  refine gd_get hX inC_Cl 0 0 1 dd_Cl_fill_1 rfl rfl (by decide) kw_40 rfl ?_
  refine gd_iload_n hX 4 dd_Cl_fill_4 rfl ?_
  refine gd_lload_n hX 5 dd_Cl_fill_5 rfl ?_
  refine gd_last hX 1 k [gd_ob 0 h [.ref a, .long w], gd_aJ K a 64 (vp_updL f k x)] 6 dd_Cl_fill_6 rfl rfl (by omega) (by decide) rfl ?_
  refine gd_aload_n hX 7 dd_Cl_fill_7 rfl ?_
  refine gd_dup hX 8 dd_Cl_fill_8 rfl ?_
  refine gd_get hX inC_Cl 0 1 9 dd_Cl_fill_9 rfl rfl (by decide) kw_41 rfl ?_
  refine gd_lconst hX 12 dd_Cl_fill_12 (v := 1) (by decide) ?_
  refine gd_iload_n hX 13 dd_Cl_fill_13 rfl ?_
  refine gd_lshl hX 14 dd_Cl_fill_14 ?_
  refine gd_lor hX 15 dd_Cl_fill_15 ?_
  refine gd_put hX inC_Cl ty_Cl tyk_Cl nm_Cl 0 1 [gd_ob 0 h [.ref a, .long (w ||| ((1 : Int64) <<< ((nI k).toInt64 &&& 63)))], gd_aJ K a 64 (vp_updL f k x)] 16 dd_Cl_fill_16 rfl rfl (by decide) kw_41 rfl rfl rfl (Nat.le_of_ble_eq_true rfl) rfl ?_
  exact gd_vret hX hE 19 dd_Cl_fill_19 ⟨rfl, rfl⟩
end
section
set_option maxRecDepth 100000 in
set_option maxHeartbeats 4000000 in
theorem ct_Cl_clear (l : Launch) (K : gd_K) (h a k : Nat) (w : Int64) : gd_M l yy_Cl_clear bb_Cl_clear 2 (none) [] 0 0 0 0 K [.ref h, .int (nI k)] [gd_ob 0 h [.ref a, .long w]] (fun v w1 => v = none ∧ w1 = [gd_ob 0 h [.ref a, .long (w &&& (((1 : Int64) <<< ((nI k).toInt64 &&& 63)) ^^^ (-1)))]]) (fun _ _ => False) := by
  refine gd_body (Nat.le_of_ble_eq_true rfl) (fun X hXl hin hE hX => ?_)
  refine gd_aload_n hX 0 dd_Cl_clear_0 rfl ?_
  refine gd_dup hX 1 dd_Cl_clear_1 rfl ?_
  refine gd_get hX inC_Cl 0 1 2 dd_Cl_clear_2 rfl rfl (by decide) kw_41 rfl ?_
  refine gd_lconst hX 5 dd_Cl_clear_5 (v := 1) (by decide) ?_
  refine gd_iload_n hX 6 dd_Cl_clear_6 rfl ?_
  refine gd_lshl hX 7 dd_Cl_clear_7 ?_
  refine gd_ldc2 hX 8 dd_Cl_clear_8 (v := (-1)) kw_265 ?_
  refine gd_lxor hX 11 dd_Cl_clear_11 ?_
  refine gd_land hX 12 dd_Cl_clear_12 ?_
  refine gd_put hX inC_Cl ty_Cl tyk_Cl nm_Cl 0 1 [gd_ob 0 h [.ref a, .long (w &&& (((1 : Int64) <<< ((nI k).toInt64 &&& 63)) ^^^ (-1)))]] 13 dd_Cl_clear_13 rfl rfl (by decide) kw_41 rfl rfl rfl (Nat.le_of_ble_eq_true rfl) rfl ?_
  exact gd_vret hX hE 16 dd_Cl_clear_16 ⟨rfl, rfl⟩
set_option maxRecDepth 100000 in
set_option maxHeartbeats 4000000 in
theorem ct_Cl_clearAll (l : Launch) (K : gd_K) (h a : Nat) (w : Int64) : gd_M l yy_Cl_clearAll bb_Cl_clearAll 1 (none) [] 0 0 0 0 K [.ref h] [gd_ob 0 h [.ref a, .long w]] (fun v w1 => v = none ∧ w1 = [gd_ob 0 h [.ref a, .long 0]]) (fun _ _ => False) := by
  refine gd_body (Nat.le_of_ble_eq_true rfl) (fun X hXl hin hE hX => ?_)
  refine gd_aload_n hX 0 dd_Cl_clearAll_0 rfl ?_
  refine gd_lconst hX 1 dd_Cl_clearAll_1 (v := 0) (by decide) ?_
  refine gd_put hX inC_Cl ty_Cl tyk_Cl nm_Cl 0 1 [gd_ob 0 h [.ref a, .long 0]] 2 dd_Cl_clearAll_2 rfl rfl (by decide) kw_41 rfl rfl rfl (Nat.le_of_ble_eq_true rfl) rfl ?_
  exact gd_vret hX hE 5 dd_Cl_clearAll_5 ⟨rfl, rfl⟩
set_option maxRecDepth 100000 in
set_option maxHeartbeats 4000000 in
theorem ct_Cl_mask (l : Launch) (K : gd_K) (h a : Nat) (w : Int64) : gd_M l yy_Cl_mask bb_Cl_mask 1 (some .long) [] 0 0 0 0 K [.ref h] [gd_ob 0 h [.ref a, .long w]] (fun v w1 => v = some (.long w) ∧ w1 = [gd_ob 0 h [.ref a, .long w]]) (fun _ _ => False) := by
  refine gd_body (Nat.le_of_ble_eq_true rfl) (fun X hXl hin hE hX => ?_)
  refine gd_aload_n hX 0 dd_Cl_mask_0 rfl ?_
  refine gd_get hX inC_Cl 0 1 1 dd_Cl_mask_1 rfl rfl (by decide) kw_41 rfl ?_
  exact gd_lret hX hE 4 dd_Cl_mask_4 ⟨rfl, rfl⟩
set_option maxRecDepth 100000 in
set_option maxHeartbeats 4000000 in
theorem ct_Lo_bitCount (l : Launch) (K : gd_K) (w : Int64) : gd_M l yy_Lo_bitCount bb_Lo_bitCount 2 (some .int) [] 0 0 0 0 K [.long w] [] (fun v w1 => v = some (.int (nI (ch_pop w 64))) ∧ w1 = []) (fun _ _ => False) := by
  refine gd_body (Nat.le_of_ble_eq_true rfl) (fun X hXl hin hE hX => ?_)
  refine gd_lload_n hX 0 dd_Lo_bitCount_0 rfl ?_
  refine gd_lload_n hX 1 dd_Lo_bitCount_1 rfl ?_
  refine gd_iconst hX 2 dd_Lo_bitCount_2 (v := 1) (by decide) ?_
  refine gd_lushr hX 3 dd_Lo_bitCount_3 ?_
  refine gd_ldc2 hX 4 dd_Lo_bitCount_4 (v := 6148914691236517205) kw_364 ?_
  refine gd_land hX 7 dd_Lo_bitCount_7 ?_
  refine gd_lsub hX 8 dd_Lo_bitCount_8 ?_
  refine gd_eql (show (w - (((w.toUInt64 >>> ((1 : Int32).toInt64.toUInt64 &&& Int64.toUInt64 63)).toInt64) &&& 6148914691236517205) : Int64) = pc_1 w from rfl) ?_
  refine gd_lstore_n hX [(0, .long (pc_1 w))] 9 dd_Lo_bitCount_9 rfl (by decide) rfl ?_
  refine gd_lload_n hX 10 dd_Lo_bitCount_10 rfl ?_
  refine gd_ldc2 hX 11 dd_Lo_bitCount_11 (v := 3689348814741910323) kw_365 ?_
  refine gd_land hX 14 dd_Lo_bitCount_14 ?_
  refine gd_lload_n hX 15 dd_Lo_bitCount_15 rfl ?_
  refine gd_iconst hX 16 dd_Lo_bitCount_16 (v := 2) (by decide) ?_
  refine gd_lushr hX 17 dd_Lo_bitCount_17 ?_
  refine gd_ldc2 hX 18 dd_Lo_bitCount_18 (v := 3689348814741910323) kw_365 ?_
  refine gd_land hX 21 dd_Lo_bitCount_21 ?_
  refine gd_ladd hX 22 dd_Lo_bitCount_22 ?_
  refine gd_eql (show (((pc_1 w) &&& 3689348814741910323) + ((((pc_1 w).toUInt64 >>> ((2 : Int32).toInt64.toUInt64 &&& Int64.toUInt64 63)).toInt64) &&& 3689348814741910323) : Int64) = pc_2 (pc_1 w) from rfl) ?_
  refine gd_lstore_n hX [(0, .long (pc_2 (pc_1 w)))] 23 dd_Lo_bitCount_23 rfl (by decide) rfl ?_
  refine gd_lload_n hX 24 dd_Lo_bitCount_24 rfl ?_
  refine gd_lload_n hX 25 dd_Lo_bitCount_25 rfl ?_
  refine gd_iconst hX 26 dd_Lo_bitCount_26 (v := 4) (by decide) ?_
  refine gd_lushr hX 27 dd_Lo_bitCount_27 ?_
  refine gd_ladd hX 28 dd_Lo_bitCount_28 ?_
  refine gd_ldc2 hX 29 dd_Lo_bitCount_29 (v := 1085102592571150095) kw_366 ?_
  refine gd_land hX 32 dd_Lo_bitCount_32 ?_
  refine gd_eql (show (((pc_2 (pc_1 w)) + (((pc_2 (pc_1 w)).toUInt64 >>> ((4 : Int32).toInt64.toUInt64 &&& Int64.toUInt64 63)).toInt64)) &&& 1085102592571150095 : Int64) = pc_3 (pc_2 (pc_1 w)) from rfl) ?_
  refine gd_lstore_n hX [(0, .long (pc_3 (pc_2 (pc_1 w))))] 33 dd_Lo_bitCount_33 rfl (by decide) rfl ?_
  refine gd_lload_n hX 34 dd_Lo_bitCount_34 rfl ?_
  refine gd_lload_n hX 35 dd_Lo_bitCount_35 rfl ?_
  refine gd_bipush hX 36 dd_Lo_bitCount_36 (v := 8) (by decide) ?_
  refine gd_lushr hX 38 dd_Lo_bitCount_38 ?_
  refine gd_ladd hX 39 dd_Lo_bitCount_39 ?_
  refine gd_eql (show ((pc_3 (pc_2 (pc_1 w))) + (((pc_3 (pc_2 (pc_1 w))).toUInt64 >>> ((8 : Int32).toInt64.toUInt64 &&& Int64.toUInt64 63)).toInt64) : Int64) = pc_4 (pc_3 (pc_2 (pc_1 w))) from rfl) ?_
  refine gd_lstore_n hX [(0, .long (pc_4 (pc_3 (pc_2 (pc_1 w)))))] 40 dd_Lo_bitCount_40 rfl (by decide) rfl ?_
  refine gd_lload_n hX 41 dd_Lo_bitCount_41 rfl ?_
  refine gd_lload_n hX 42 dd_Lo_bitCount_42 rfl ?_
  refine gd_bipush hX 43 dd_Lo_bitCount_43 (v := 16) (by decide) ?_
  refine gd_lushr hX 45 dd_Lo_bitCount_45 ?_
  refine gd_ladd hX 46 dd_Lo_bitCount_46 ?_
  refine gd_eql (show ((pc_4 (pc_3 (pc_2 (pc_1 w)))) + (((pc_4 (pc_3 (pc_2 (pc_1 w)))).toUInt64 >>> ((16 : Int32).toInt64.toUInt64 &&& Int64.toUInt64 63)).toInt64) : Int64) = pc_5 (pc_4 (pc_3 (pc_2 (pc_1 w)))) from rfl) ?_
  refine gd_lstore_n hX [(0, .long (pc_5 (pc_4 (pc_3 (pc_2 (pc_1 w))))))] 47 dd_Lo_bitCount_47 rfl (by decide) rfl ?_
  refine gd_lload_n hX 48 dd_Lo_bitCount_48 rfl ?_
  refine gd_lload_n hX 49 dd_Lo_bitCount_49 rfl ?_
  refine gd_bipush hX 50 dd_Lo_bitCount_50 (v := 32) (by decide) ?_
  refine gd_lushr hX 52 dd_Lo_bitCount_52 ?_
  refine gd_ladd hX 53 dd_Lo_bitCount_53 ?_
  refine gd_eql (show ((pc_5 (pc_4 (pc_3 (pc_2 (pc_1 w))))) + (((pc_5 (pc_4 (pc_3 (pc_2 (pc_1 w))))).toUInt64 >>> ((32 : Int32).toInt64.toUInt64 &&& Int64.toUInt64 63)).toInt64) : Int64) = pc_6 (pc_5 (pc_4 (pc_3 (pc_2 (pc_1 w))))) from rfl) ?_
  refine gd_lstore_n hX [(0, .long (pc_6 (pc_5 (pc_4 (pc_3 (pc_2 (pc_1 w)))))))] 54 dd_Lo_bitCount_54 rfl (by decide) rfl ?_
  refine gd_lload_n hX 55 dd_Lo_bitCount_55 rfl ?_
  refine gd_l2i hX 56 dd_Lo_bitCount_56 ?_
  refine gd_bipush hX 57 dd_Lo_bitCount_57 (v := 127) (by decide) ?_
  refine gd_iand hX 59 dd_Lo_bitCount_59 ?_
  refine gd_eqi (show (((pc_6 (pc_5 (pc_4 (pc_3 (pc_2 (pc_1 w)))))).toInt32) &&& 127 : Int32) = nI (ch_pop w 64) from ch_bitcount w) ?_
  exact gd_iret hX hE 60 dd_Lo_bitCount_60 ⟨rfl, rfl⟩
set_option maxRecDepth 100000 in
set_option maxHeartbeats 4000000 in
theorem ct_Cl_many (l : Launch) (K : gd_K) (h a : Nat) (w : Int64) : gd_M l yy_Cl_many bb_Cl_many 1 (some .int) [] 1 13 0 0 K [.ref h] [gd_ob 0 h [.ref a, .long w]] (fun v w1 => v = some (.int (nI (ch_pop w 64))) ∧ w1 = [gd_ob 0 h [.ref a, .long w]]) (fun _ _ => False) := by
  refine gd_body (Nat.le_of_ble_eq_true rfl) (fun X hXl hin hE hX => ?_)
  refine gd_aload_n hX 0 dd_Cl_many_0 rfl ?_
  refine gd_get hX inC_Cl 0 1 1 dd_Cl_many_1 rfl rfl (by decide) kw_41 rfl ?_
  refine gd_call hX (st := []) (wr := [gd_ob 0 h [.ref a, .long w]]) (ct_Lo_bitCount _ K w) 4 dd_Cl_many_4 (gd_nS hX (As := [.long w]) kw_389 kw_362 kw_25 (gd_nmOf kw_363) (gd_sigOf (n := 1) kw_363 (by decide)) (by decide) rfl rfl dd_Cl_many_4) (gd_codeOf kw_363) (by decide) [] [0] rfl rfl rfl rfl rfl (by decide) (Nat.le_of_ble_eq_true rfl) (Nat.le_of_ble_eq_true rfl) (Nat.le_of_ble_eq_true rfl) (Nat.le_of_ble_eq_true rfl) (fun v9 w9 h9 => ?_) (fun E9 w9 q9 h9 => h9.elim)
  obtain ⟨rfl, rfl⟩ := h9
  show gd_W X K 0 0 [gd_ob 0 h [.ref a, .long w]] [(0, .ref h)] [.int (nI (ch_pop w 64))] 7
  exact gd_iret hX hE 7 dd_Cl_many_7 ⟨rfl, rfl⟩
set_option maxRecDepth 100000 in
set_option maxHeartbeats 4000000 in
theorem ct_Oc_clear (l : Launch) (K : gd_K) (h r : Nat) (n : Int32) : gd_M l yy_Oc_clear bb_Oc_clear 1 (none) [] 0 0 0 0 K [.ref h] [gd_ob 1 h [.ref r, .int n]] (fun v w1 => v = none ∧ w1 = [gd_ob 1 h [.ref r, .int (nI 0)]]) (fun _ _ => False) := by
  refine gd_body (Nat.le_of_ble_eq_true rfl) (fun X hXl hin hE hX => ?_)
  refine gd_aload_n hX 0 dd_Oc_clear_0 rfl ?_
  refine gd_iconst hX 1 dd_Oc_clear_1 (v := 0) (by decide) ?_
  refine gd_eqi (show (0 : Int32) = nI 0 from rfl) ?_
  refine gd_put hX inC_Oc ty_Oc tyk_Oc nm_Oc 0 1 [gd_ob 1 h [.ref r, .int (nI 0)]] 2 dd_Oc_clear_2 rfl rfl (by decide) kw_72 rfl rfl rfl (Nat.le_of_ble_eq_true rfl) rfl ?_
  exact gd_vret hX hE 5 dd_Oc_clear_5 ⟨rfl, rfl⟩
set_option maxRecDepth 100000 in
set_option maxHeartbeats 4000000 in
theorem ct_Oc_length (l : Launch) (K : gd_K) (h r : Nat) (n : Int32) : gd_M l yy_Oc_length bb_Oc_length 1 (some .int) [] 0 0 0 0 K [.ref h] [gd_ob 1 h [.ref r, .int n]] (fun v w1 => v = some (.int n) ∧ w1 = [gd_ob 1 h [.ref r, .int n]]) (fun _ _ => False) := by
  refine gd_body (Nat.le_of_ble_eq_true rfl) (fun X hXl hin hE hX => ?_)
  refine gd_aload_n hX 0 dd_Oc_length_0 rfl ?_
  refine gd_get hX inC_Oc 0 1 1 dd_Oc_length_1 rfl rfl (by decide) kw_72 rfl ?_
  exact gd_iret hX hE 4 dd_Oc_length_4 ⟨rfl, rfl⟩
set_option maxRecDepth 100000 in
set_option maxHeartbeats 4000000 in
theorem ct_Oc_add (l : Launch) (K : gd_K) (h r rom : Nat) (f : Nat → Int32) (L : List Nat) (x : Int32) (o : Nat) (hL : L.length < rom) (hrom : rom < 2 ^ 31) (hB : ch_B f L) (hx : x &&& 255 = nI o) : gd_M l yy_Oc_add bb_Oc_add 2 (none) [] 0 0 0 0 K [.ref h, .int x] [gd_ob 1 h [.ref r, .int (nI L.length)], gd_aB K r rom f] (fun v w1 => v = none ∧ ∃ f', w1 = [gd_ob 1 h [.ref r, .int (nI (L ++ [o]).length)], gd_aB K r rom f'] ∧ ch_B f' (L ++ [o])) (fun _ _ => False) := by
  refine gd_body (Nat.le_of_ble_eq_true rfl) (fun X hXl hin hE hX => ?_)
  refine gd_aload_n hX 0 dd_Oc_add_0 rfl ?_
  refine gd_get hX inC_Oc 0 0 1 dd_Oc_add_1 rfl rfl (by decide) kw_71 rfl ?_
  refine gd_aload_n hX 4 dd_Oc_add_4 rfl ?_
  refine gd_get hX inC_Oc 0 1 5 dd_Oc_add_5 rfl rfl (by decide) kw_72 rfl ?_
  refine gd_iload_n hX 8 dd_Oc_add_8 rfl ?_
  refine gd_i2b hX 9 dd_Oc_add_9 ?_
  refine gd_bast hX 1 L.length [gd_ob 1 h [.ref r, .int (nI L.length)], gd_aB K r rom (upd f L.length (vp_nar .byte x.toInt8.toInt32))] 10 dd_Oc_add_10 rfl rfl hL hrom rfl ?_
  refine gd_aload_n hX 11 dd_Oc_add_11 rfl ?_
  refine gd_dup hX 12 dd_Oc_add_12 rfl ?_
  refine gd_get hX inC_Oc 0 1 13 dd_Oc_add_13 rfl rfl (by decide) kw_72 rfl ?_
  refine gd_iconst hX 16 dd_Oc_add_16 (v := 1) (by decide) ?_
  refine gd_iadd hX 17 dd_Oc_add_17 ?_
  refine gd_eqi (show ((nI L.length) + 1 : Int32) = nI (L.length + 1) from nI_1 _) ?_
  refine gd_put hX inC_Oc ty_Oc tyk_Oc nm_Oc 0 1 [gd_ob 1 h [.ref r, .int (nI (L.length + 1))], gd_aB K r rom (upd f L.length (vp_nar .byte x.toInt8.toInt32))] 18 dd_Oc_add_18 rfl rfl (by decide) kw_72 rfl rfl rfl (Nat.le_of_ble_eq_true rfl) rfl ?_
  exact gd_vret hX hE 21 dd_Oc_add_21 ⟨rfl, _, by rw [List.length_append]; rfl, ch_B_add hB hx⟩
set_option maxRecDepth 100000 in
set_option maxHeartbeats 4000000 in
theorem ct_Oc_octetOrZero (l : Launch) (K : gd_K) (h r rom j : Nat) (f : Nat → Int32) (L : List Nat) (hL : L.length ≤ rom) (hrom : rom < 2 ^ 31) (hj : j < 2 ^ 31) (hB : ch_B f L) : gd_M l yy_Oc_octetOrZero bb_Oc_octetOrZero 2 (some .int) [] 0 0 0 0 K [.ref h, .int (nI j)] [gd_ob 1 h [.ref r, .int (nI L.length)], gd_aB K r rom f] (fun v w1 => v = some (.int (nI (L.getD j 0))) ∧ w1 = [gd_ob 1 h [.ref r, .int (nI L.length)], gd_aB K r rom f]) (fun _ _ => False) := by
  refine gd_body (Nat.le_of_ble_eq_true rfl) (fun X hXl hin hE hX => ?_)
  refine gd_iload_n hX 0 dd_Oc_octetOrZero_0 rfl ?_
  refine gd_aload_n hX 1 dd_Oc_octetOrZero_1 rfl ?_
  refine gd_get hX inC_Oc 0 1 2 dd_Oc_octetOrZero_2 rfl rfl (by decide) kw_72 rfl ?_
  refine gd_icmp_ge hX 5 21 dd_Oc_octetOrZero_5 (by decide) (fun h1 => ?_) (fun h1 => ?_)
  · skip
    have h2 : L.length ≤ j := (nI_leI (by omega) hj).mp h1
    refine gd_iconst hX 21 dd_Oc_octetOrZero_21 (v := 0) (by decide) ?_
    exact gd_iret hX hE 22 dd_Oc_octetOrZero_22 ⟨by rw [ch_getD_out h2]; rfl, rfl⟩
  · skip
    have h2 : j < L.length := Nat.lt_of_not_le (fun q => h1 ((nI_leI (by omega) hj).mpr q))
    refine gd_aload_n hX 8 dd_Oc_octetOrZero_8 rfl ?_
    refine gd_get hX inC_Oc 0 0 9 dd_Oc_octetOrZero_9 rfl rfl (by decide) kw_71 rfl ?_
    refine gd_iload_n hX 12 dd_Oc_octetOrZero_12 rfl ?_
    refine gd_bald hX 1 j 13 dd_Oc_octetOrZero_13 rfl rfl (by omega) hrom ?_
    refine gd_sipush hX 14 dd_Oc_octetOrZero_14 (v := 255) (by decide) ?_
    refine gd_iand hX 17 dd_Oc_octetOrZero_17 ?_
    refine gd_eqi (show ((f j) &&& 255 : Int32) = nI (L.getD j 0) from hB j h2) ?_
    refine gd_goto hX 18 22 dd_Oc_octetOrZero_18 (by decide) ?_
    exact gd_iret hX hE 22 dd_Oc_octetOrZero_22 ⟨rfl, rfl⟩
set_option maxRecDepth 100000 in
set_option maxHeartbeats 4000000 in
theorem ct_Ru_many (l : Launch) (K : gd_K) (h a b : Nat) (n : Int32) : gd_M l yy_Ru_many bb_Ru_many 1 (some .int) [] 0 0 0 0 K [.ref h] [gd_ob 3 h [.ref a, .ref b, .int n]] (fun v w1 => v = some (.int n) ∧ w1 = [gd_ob 3 h [.ref a, .ref b, .int n]]) (fun _ _ => False) := by
  refine gd_body (Nat.le_of_ble_eq_true rfl) (fun X hXl hin hE hX => ?_)
  refine gd_aload_n hX 0 dd_Ru_many_0 rfl ?_
  refine gd_get hX inC_Ru 0 2 1 dd_Ru_many_1 rfl rfl (by decide) kw_56 rfl ?_
  exact gd_iret hX hE 4 dd_Ru_many_4 ⟨rfl, rfl⟩
set_option maxRecDepth 100000 in
set_option maxHeartbeats 4000000 in
theorem ct_Ru_size (l : Launch) (K : gd_K) (h a b j : Nat) (n : Int32) (rs : Nat → Int32) (hj : j < 64) : gd_M l yy_Ru_size bb_Ru_size 2 (some .int) [] 0 0 0 0 K [.ref h, .int (nI j)] [gd_ob 3 h [.ref a, .ref b, .int n], gd_aI K b 64 rs] (fun v w1 => v = some (.int (rs j)) ∧ w1 = [gd_ob 3 h [.ref a, .ref b, .int n], gd_aI K b 64 rs]) (fun _ _ => False) := by
  refine gd_body (Nat.le_of_ble_eq_true rfl) (fun X hXl hin hE hX => ?_)
  refine gd_aload_n hX 0 dd_Ru_size_0 rfl ?_
  refine gd_get hX inC_Ru 0 1 1 dd_Ru_size_1 rfl rfl (by decide) kw_55 rfl ?_
  refine gd_iload_n hX 4 dd_Ru_size_4 rfl ?_
  refine gd_iald hX 1 j 5 dd_Ru_size_5 rfl rfl (by omega) (by decide) ?_
  exact gd_iret hX hE 6 dd_Ru_size_6 ⟨rfl, rfl⟩
set_option maxRecDepth 100000 in
set_option maxHeartbeats 4000000 in
theorem ct_Ru_folded (l : Launch) (K : gd_K) (h a b j : Nat) (n : Int32) (rn : Nat → Int64) (hj : j < 64) : gd_M l yy_Ru_folded bb_Ru_folded 6 (some .long) [] 0 0 0 0 K [.ref h, .int (nI j)] [gd_ob 3 h [.ref a, .ref b, .int n], gd_aJ K a 64 rn] (fun v w1 => v = some (.long (ch_zz (rn j - if j = 0 then 0 else rn (j - 1)))) ∧ w1 = [gd_ob 3 h [.ref a, .ref b, .int n], gd_aJ K a 64 rn]) (fun _ _ => False) := by
  refine gd_body (Nat.le_of_ble_eq_true rfl) (fun X hXl hin hE hX => ?_)
  refine gd_iload_n hX 0 dd_Ru_folded_0 rfl ?_
  refine gd_if_ne hX 1 8 dd_Ru_folded_1 (by decide) (fun h1 => ?_) (fun h1 => ?_)
  · skip
    have h2 : 0 < j := Nat.pos_of_ne_zero (fun q => h1 (by rw [q]; rfl))
    refine gd_aload_n hX 8 dd_Ru_folded_8 rfl ?_
    refine gd_get hX inC_Ru 0 0 9 dd_Ru_folded_9 rfl rfl (by decide) kw_54 rfl ?_
    refine gd_iload_n hX 12 dd_Ru_folded_12 rfl ?_
    refine gd_iconst hX 13 dd_Ru_folded_13 (v := 1) (by decide) ?_
    refine gd_isub hX 14 dd_Ru_folded_14 ?_
    refine gd_eqi (show ((nI j) - 1 : Int32) = nI (j - 1) from pk_sub (b := 1) (by omega)) ?_
    refine gd_lald hX 1 (j - 1) 15 dd_Ru_folded_15 rfl rfl (by omega) (by decide) ?_
    refine gd_lstore_n hX [(2, .long (rn (j - 1))), (0, .ref h), (1, .int (nI j))] 16 dd_Ru_folded_16 rfl (by decide) rfl ?_
    refine gd_aload_n hX 17 dd_Ru_folded_17 rfl ?_
    refine gd_get hX inC_Ru 0 0 18 dd_Ru_folded_18 rfl rfl (by decide) kw_54 rfl ?_
    refine gd_iload_n hX 21 dd_Ru_folded_21 rfl ?_
    refine gd_lald hX 1 j 22 dd_Ru_folded_22 rfl rfl (by omega) (by decide) ?_
    refine gd_lload_n hX 23 dd_Ru_folded_23 rfl ?_
    refine gd_lsub hX 24 dd_Ru_folded_24 ?_
    refine gd_lstore hX [(4, .long ((rn j) - (rn (j - 1)))), (2, .long (rn (j - 1))), (0, .ref h), (1, .int (nI j))] 25 dd_Ru_folded_25 (by decide) rfl ?_
    refine gd_lload hX 27 dd_Ru_folded_27 rfl ?_
    refine gd_iconst hX 29 dd_Ru_folded_29 (v := 1) (by decide) ?_
    refine gd_lshl hX 30 dd_Ru_folded_30 ?_
    refine gd_lload hX 31 dd_Ru_folded_31 rfl ?_
    refine gd_bipush hX 33 dd_Ru_folded_33 (v := 63) (by decide) ?_
    refine gd_lshr hX 35 dd_Ru_folded_35 ?_
    refine gd_lxor hX 36 dd_Ru_folded_36 ?_
    refine gd_eql (show ((((rn j) - (rn (j - 1))) <<< ((1 : Int32).toInt64 &&& 63)) ^^^ (((rn j) - (rn (j - 1))) >>> ((63 : Int32).toInt64 &&& 63)) : Int64) = ch_zz (rn j - rn (j - 1)) from rfl) ?_
    exact gd_lret hX hE 37 dd_Ru_folded_37 ⟨by rw [if_neg (by omega)], rfl⟩
  · skip
    have h2 : j = 0 := nI_0' (by omega) h1
    refine gd_lconst hX 4 dd_Ru_folded_4 (v := 0) (by decide) ?_
    refine gd_goto hX 5 16 dd_Ru_folded_5 (by decide) ?_
    refine gd_lstore_n hX [(2, .long 0), (0, .ref h), (1, .int (nI j))] 16 dd_Ru_folded_16 rfl (by decide) rfl ?_
    refine gd_aload_n hX 17 dd_Ru_folded_17 rfl ?_
    refine gd_get hX inC_Ru 0 0 18 dd_Ru_folded_18 rfl rfl (by decide) kw_54 rfl ?_
    refine gd_iload_n hX 21 dd_Ru_folded_21 rfl ?_
    refine gd_lald hX 1 j 22 dd_Ru_folded_22 rfl rfl (by omega) (by decide) ?_
    refine gd_lload_n hX 23 dd_Ru_folded_23 rfl ?_
    refine gd_lsub hX 24 dd_Ru_folded_24 ?_
    refine gd_lstore hX [(4, .long ((rn j) - 0)), (2, .long 0), (0, .ref h), (1, .int (nI j))] 25 dd_Ru_folded_25 (by decide) rfl ?_
    refine gd_lload hX 27 dd_Ru_folded_27 rfl ?_
    refine gd_iconst hX 29 dd_Ru_folded_29 (v := 1) (by decide) ?_
    refine gd_lshl hX 30 dd_Ru_folded_30 ?_
    refine gd_lload hX 31 dd_Ru_folded_31 rfl ?_
    refine gd_bipush hX 33 dd_Ru_folded_33 (v := 63) (by decide) ?_
    refine gd_lshr hX 35 dd_Ru_folded_35 ?_
    refine gd_lxor hX 36 dd_Ru_folded_36 ?_
    refine gd_eql (show ((((rn j) - 0) <<< ((1 : Int32).toInt64 &&& 63)) ^^^ (((rn j) - 0) >>> ((63 : Int32).toInt64 &&& 63)) : Int64) = ch_zz (rn j - 0) from rfl) ?_
    exact gd_lret hX hE 37 dd_Ru_folded_37 ⟨by rw [if_pos h2], rfl⟩
set_option maxRecDepth 100000 in
set_option maxHeartbeats 4000000 in
theorem ct_Ru_addCell (l : Launch) (K : gd_K) (h a b : Nat) (rn : Nat → Int64) (rs : Nat → Int32) (L : List (Int64 × Nat)) (v : Int64) (hL : L.length < 64) (hR : ch_R rn rs L) : gd_M l yy_Ru_addCell bb_Ru_addCell 3 (none) [] 0 0 0 0 K [.ref h, .long v] [gd_ob 3 h [.ref a, .ref b, .int (nI L.length)], gd_aJ K a 64 rn, gd_aI K b 64 rs] (fun v9 w1 => v9 = none ∧ ∃ rn' rs', w1 = [gd_ob 3 h [.ref a, .ref b, .int (nI (ch_add L v).length)], gd_aJ K a 64 rn', gd_aI K b 64 rs'] ∧ ch_R rn' rs' (ch_add L v)) (fun _ _ => False) := by
  refine gd_body (Nat.le_of_ble_eq_true rfl) (fun X hXl hin hE hX => ?_)
  refine gd_aload_n hX 0 dd_Ru_addCell_0 rfl ?_
  refine gd_get hX inC_Ru 0 2 1 dd_Ru_addCell_1 rfl rfl (by decide) kw_56 rfl ?_
  refine gd_if_eq hX 4 23 dd_Ru_addCell_4 (by decide) (fun h1 => ?_) (fun h1 => ?_)
  · skip
    have h2 : L.length = 0 := nI_0' (by omega) h1
    have hadd : ch_add L v = (v, 1) :: L := ch_add_nil v h2
    refine gd_aload_n hX 23 dd_Ru_addCell_23 rfl ?_
    refine gd_get hX inC_Ru 0 0 24 dd_Ru_addCell_24 rfl rfl (by decide) kw_54 rfl ?_
    refine gd_aload_n hX 27 dd_Ru_addCell_27 rfl ?_
    refine gd_get hX inC_Ru 0 2 28 dd_Ru_addCell_28 rfl rfl (by decide) kw_56 rfl ?_
    refine gd_lload_n hX 31 dd_Ru_addCell_31 rfl ?_
    refine gd_last hX 1 L.length [gd_ob 3 h [.ref a, .ref b, .int (nI L.length)], gd_aJ K a 64 (vp_updL rn L.length v), gd_aI K b 64 rs] 32 dd_Ru_addCell_32 rfl rfl (by omega) (by decide) rfl ?_
    refine gd_aload_n hX 33 dd_Ru_addCell_33 rfl ?_
    refine gd_get hX inC_Ru 0 1 34 dd_Ru_addCell_34 rfl rfl (by decide) kw_55 rfl ?_
    refine gd_aload_n hX 37 dd_Ru_addCell_37 rfl ?_
    refine gd_get hX inC_Ru 0 2 38 dd_Ru_addCell_38 rfl rfl (by decide) kw_56 rfl ?_
    refine gd_iconst hX 41 dd_Ru_addCell_41 (v := 0) (by decide) ?_
    refine gd_iast hX 2 L.length [gd_ob 3 h [.ref a, .ref b, .int (nI L.length)], gd_aJ K a 64 (vp_updL rn L.length v), gd_aI K b 64 (upd rs L.length 0)] 42 dd_Ru_addCell_42 rfl rfl (by omega) (by decide) rfl ?_
    refine gd_aload_n hX 43 dd_Ru_addCell_43 rfl ?_
    refine gd_dup hX 44 dd_Ru_addCell_44 rfl ?_
    refine gd_get hX inC_Ru 0 2 45 dd_Ru_addCell_45 rfl rfl (by decide) kw_56 rfl ?_
    refine gd_iconst hX 48 dd_Ru_addCell_48 (v := 1) (by decide) ?_
    refine gd_iadd hX 49 dd_Ru_addCell_49 ?_
    refine gd_eqi (show ((nI L.length) + 1 : Int32) = nI (L.length + 1) from nI_1 _) ?_
    refine gd_put hX inC_Ru ty_Ru tyk_Ru nm_Ru 0 2 [gd_ob 3 h [.ref a, .ref b, .int (nI (L.length + 1))], gd_aJ K a 64 (vp_updL rn L.length v), gd_aI K b 64 (upd rs L.length 0)] 50 dd_Ru_addCell_50 rfl rfl (by decide) kw_56 rfl rfl rfl (Nat.le_of_ble_eq_true rfl) rfl ?_
    refine gd_aload_n hX 53 dd_Ru_addCell_53 rfl ?_
    refine gd_get hX inC_Ru 0 1 54 dd_Ru_addCell_54 rfl rfl (by decide) kw_55 rfl ?_
    refine gd_aload_n hX 57 dd_Ru_addCell_57 rfl ?_
    refine gd_get hX inC_Ru 0 2 58 dd_Ru_addCell_58 rfl rfl (by decide) kw_56 rfl ?_
    refine gd_iconst hX 61 dd_Ru_addCell_61 (v := 1) (by decide) ?_
    refine gd_isub hX 62 dd_Ru_addCell_62 ?_
    refine gd_eqi (show ((nI (L.length + 1)) - 1 : Int32) = nI L.length from nI_pred _) ?_
    refine gd_dup2 hX 63 dd_Ru_addCell_63 rfl rfl ?_
    refine gd_iald hX 2 L.length 64 dd_Ru_addCell_64 rfl rfl (by omega) (by decide) ?_
    refine gd_iconst hX 65 dd_Ru_addCell_65 (v := 1) (by decide) ?_
    refine gd_iadd hX 66 dd_Ru_addCell_66 ?_
    refine gd_eqi (show (((upd rs L.length 0) L.length) + 1 : Int32) = nI 1 from (by rw [pk_us]; rfl)) ?_
    refine gd_iast hX 2 L.length [gd_ob 3 h [.ref a, .ref b, .int (nI (L.length + 1))], gd_aJ K a 64 (vp_updL rn L.length v), gd_aI K b 64 (upd (upd rs L.length 0) L.length (nI 1))] 67 dd_Ru_addCell_67 rfl rfl (by omega) (by decide) rfl ?_
    exact gd_vret hX hE 68 dd_Ru_addCell_68 ⟨rfl, _, _, by rw [hadd]; rfl, by rw [hadd, ch_upd2]; exact ch_R_new hR v 1⟩
  · skip
    have h2 : 0 < L.length := Nat.pos_of_ne_zero (fun q => h1 (by rw [q]; rfl))
    have h3 := hR 0 h2
    rw [Nat.sub_zero] at h3
    refine gd_aload_n hX 7 dd_Ru_addCell_7 rfl ?_
    refine gd_get hX inC_Ru 0 0 8 dd_Ru_addCell_8 rfl rfl (by decide) kw_54 rfl ?_
    refine gd_aload_n hX 11 dd_Ru_addCell_11 rfl ?_
    refine gd_get hX inC_Ru 0 2 12 dd_Ru_addCell_12 rfl rfl (by decide) kw_56 rfl ?_
    refine gd_iconst hX 15 dd_Ru_addCell_15 (v := 1) (by decide) ?_
    refine gd_isub hX 16 dd_Ru_addCell_16 ?_
    refine gd_eqi (show ((nI L.length) - 1 : Int32) = nI (L.length - 1) from pk_sub (b := 1) (by omega)) ?_
    refine gd_lald hX 1 (L.length - 1) 17 dd_Ru_addCell_17 rfl rfl (by omega) (by decide) ?_
    refine gd_lload_n hX 18 dd_Ru_addCell_18 rfl ?_
    refine gd_lcmp hX 19 dd_Ru_addCell_19 ?_
    refine gd_if_eq hX 20 53 dd_Ru_addCell_20 (by decide) (fun h4 => ?_) (fun h4 => ?_)
    · skip
      have h5 := ch_cmp0.mp h4
      rw [h3.1] at h5
      obtain ⟨t, h6, h7⟩ := ch_add_eq v h2 h5
      refine gd_aload_n hX 53 dd_Ru_addCell_53 rfl ?_
      refine gd_get hX inC_Ru 0 1 54 dd_Ru_addCell_54 rfl rfl (by decide) kw_55 rfl ?_
      refine gd_aload_n hX 57 dd_Ru_addCell_57 rfl ?_
      refine gd_get hX inC_Ru 0 2 58 dd_Ru_addCell_58 rfl rfl (by decide) kw_56 rfl ?_
      refine gd_iconst hX 61 dd_Ru_addCell_61 (v := 1) (by decide) ?_
      refine gd_isub hX 62 dd_Ru_addCell_62 ?_
      refine gd_eqi (show ((nI L.length) - 1 : Int32) = nI (L.length - 1) from pk_sub (b := 1) (by omega)) ?_
      refine gd_dup2 hX 63 dd_Ru_addCell_63 rfl rfl ?_
      refine gd_iald hX 2 (L.length - 1) 64 dd_Ru_addCell_64 rfl rfl (by omega) (by decide) ?_
      refine gd_iconst hX 65 dd_Ru_addCell_65 (v := 1) (by decide) ?_
      refine gd_iadd hX 66 dd_Ru_addCell_66 ?_
      refine gd_eqi (show ((rs (L.length - 1)) + 1 : Int32) = nI ((L.getD 0 (0, 0)).2 + 1) from (by rw [h3.2]; exact nI_1 _)) ?_
      refine gd_iast hX 2 (L.length - 1) [gd_ob 3 h [.ref a, .ref b, .int (nI L.length)], gd_aJ K a 64 rn, gd_aI K b 64 (upd rs (L.length - 1) (nI ((L.getD 0 (0, 0)).2 + 1)))] 67 dd_Ru_addCell_67 rfl rfl (by omega) (by decide) rfl ?_
      have h8 : L.length = t.length + 1 := by rw [h6]; rfl
      have h10 : L.length - 1 = t.length := by omega
      exact gd_vret hX hE 68 dd_Ru_addCell_68 ⟨rfl, _, _, by rw [show (ch_add L v).length = L.length by rw [h7, h8]; rfl], by rw [h7, h10]; rw [h6] at hR; exact ch_R_inc hR⟩
    · skip
      have h5 : (L.getD 0 (0, 0)).1 ≠ v := fun q => h4 (ch_cmp0.mpr (by rw [h3.1]; exact q))
      have hadd : ch_add L v = (v, 1) :: L := ch_add_ne v h5
      refine gd_aload_n hX 23 dd_Ru_addCell_23 rfl ?_
      refine gd_get hX inC_Ru 0 0 24 dd_Ru_addCell_24 rfl rfl (by decide) kw_54 rfl ?_
      refine gd_aload_n hX 27 dd_Ru_addCell_27 rfl ?_
      refine gd_get hX inC_Ru 0 2 28 dd_Ru_addCell_28 rfl rfl (by decide) kw_56 rfl ?_
      refine gd_lload_n hX 31 dd_Ru_addCell_31 rfl ?_
      refine gd_last hX 1 L.length [gd_ob 3 h [.ref a, .ref b, .int (nI L.length)], gd_aJ K a 64 (vp_updL rn L.length v), gd_aI K b 64 rs] 32 dd_Ru_addCell_32 rfl rfl (by omega) (by decide) rfl ?_
      refine gd_aload_n hX 33 dd_Ru_addCell_33 rfl ?_
      refine gd_get hX inC_Ru 0 1 34 dd_Ru_addCell_34 rfl rfl (by decide) kw_55 rfl ?_
      refine gd_aload_n hX 37 dd_Ru_addCell_37 rfl ?_
      refine gd_get hX inC_Ru 0 2 38 dd_Ru_addCell_38 rfl rfl (by decide) kw_56 rfl ?_
      refine gd_iconst hX 41 dd_Ru_addCell_41 (v := 0) (by decide) ?_
      refine gd_iast hX 2 L.length [gd_ob 3 h [.ref a, .ref b, .int (nI L.length)], gd_aJ K a 64 (vp_updL rn L.length v), gd_aI K b 64 (upd rs L.length 0)] 42 dd_Ru_addCell_42 rfl rfl (by omega) (by decide) rfl ?_
      refine gd_aload_n hX 43 dd_Ru_addCell_43 rfl ?_
      refine gd_dup hX 44 dd_Ru_addCell_44 rfl ?_
      refine gd_get hX inC_Ru 0 2 45 dd_Ru_addCell_45 rfl rfl (by decide) kw_56 rfl ?_
      refine gd_iconst hX 48 dd_Ru_addCell_48 (v := 1) (by decide) ?_
      refine gd_iadd hX 49 dd_Ru_addCell_49 ?_
      refine gd_eqi (show ((nI L.length) + 1 : Int32) = nI (L.length + 1) from nI_1 _) ?_
      refine gd_put hX inC_Ru ty_Ru tyk_Ru nm_Ru 0 2 [gd_ob 3 h [.ref a, .ref b, .int (nI (L.length + 1))], gd_aJ K a 64 (vp_updL rn L.length v), gd_aI K b 64 (upd rs L.length 0)] 50 dd_Ru_addCell_50 rfl rfl (by decide) kw_56 rfl rfl rfl (Nat.le_of_ble_eq_true rfl) rfl ?_
      refine gd_aload_n hX 53 dd_Ru_addCell_53 rfl ?_
      refine gd_get hX inC_Ru 0 1 54 dd_Ru_addCell_54 rfl rfl (by decide) kw_55 rfl ?_
      refine gd_aload_n hX 57 dd_Ru_addCell_57 rfl ?_
      refine gd_get hX inC_Ru 0 2 58 dd_Ru_addCell_58 rfl rfl (by decide) kw_56 rfl ?_
      refine gd_iconst hX 61 dd_Ru_addCell_61 (v := 1) (by decide) ?_
      refine gd_isub hX 62 dd_Ru_addCell_62 ?_
      refine gd_eqi (show ((nI (L.length + 1)) - 1 : Int32) = nI L.length from nI_pred _) ?_
      refine gd_dup2 hX 63 dd_Ru_addCell_63 rfl rfl ?_
      refine gd_iald hX 2 L.length 64 dd_Ru_addCell_64 rfl rfl (by omega) (by decide) ?_
      refine gd_iconst hX 65 dd_Ru_addCell_65 (v := 1) (by decide) ?_
      refine gd_iadd hX 66 dd_Ru_addCell_66 ?_
      refine gd_eqi (show (((upd rs L.length 0) L.length) + 1 : Int32) = nI 1 from (by rw [pk_us]; rfl)) ?_
      refine gd_iast hX 2 L.length [gd_ob 3 h [.ref a, .ref b, .int (nI (L.length + 1))], gd_aJ K a 64 (vp_updL rn L.length v), gd_aI K b 64 (upd (upd rs L.length 0) L.length (nI 1))] 67 dd_Ru_addCell_67 rfl rfl (by omega) (by decide) rfl ?_
      exact gd_vret hX hE 68 dd_Ru_addCell_68 ⟨rfl, _, _, by rw [hadd]; rfl, by rw [hadd, ch_upd2]; exact ch_R_new hR v 1⟩
set_option maxRecDepth 100000 in
set_option maxHeartbeats 4000000 in
theorem ct_Ru_gather (l : Launch) (K : gd_K) (h a b c ca : Nat) (n : Int32) (rn : Nat → Int64) (rs : Nat → Int32) (w : Int64) (f : Nat → Int64) : gd_M l yy_Ru_gather bb_Ru_gather 3 (none) [] 1 14 0 0 K [.ref h, .ref c] [gd_ob 3 h [.ref a, .ref b, .int n], gd_aJ K a 64 rn, gd_aI K b 64 rs, gd_ob 0 c [.ref ca, .long w], gd_aJ K ca 64 f] (fun v9 w1 => v9 = none ∧ ∃ rn' rs', w1 = [gd_ob 3 h [.ref a, .ref b, .int (nI (ch_runs w f 64).length)], gd_aJ K a 64 rn', gd_aI K b 64 rs', gd_ob 0 c [.ref ca, .long w], gd_aJ K ca 64 f] ∧ ch_R rn' rs' (ch_runs w f 64)) (fun _ _ => False) := by
  refine gd_body (Nat.le_of_ble_eq_true rfl) (fun X hXl hin hE hX => ?_)
  have loop : ∀ (m k : Nat) (rn : Nat → Int64) (rs : Nat → Int32), m + k = 64 → ch_R rn rs (ch_runs w f k) → gd_W X K 0 0 [gd_ob 3 h [.ref a, .ref b, .int (nI (ch_runs w f k).length)], gd_aJ K a 64 rn, gd_aI K b 64 rs, gd_ob 0 c [.ref ca, .long w], gd_aJ K ca 64 f] [(0, .ref h), (1, .ref c), (2, .int (nI k))] [] 7 := by
    intro m
    induction m with
    | zero =>
      intro k rn rs hk hR
      obtain rfl : k = 64 := by omega
      refine gd_iload_n hX 7 dd_Ru_gather_7 rfl ?_
      refine gd_bipush hX 8 dd_Ru_gather_8 (v := 64) (by decide) ?_
      refine gd_icmp_ge hX 10 36 dd_Ru_gather_10 (by decide) (fun h1 => ?_) (fun h1 => ?_)
      · skip
        exact gd_vret hX hE 36 dd_Ru_gather_36 ⟨rfl, _, _, rfl, hR⟩
      · skip
        exact absurd (by decide) h1
    | succ m ih =>
      intro k rn rs hk hR
      have hlen := ch_runs_len w f k
      refine gd_iload_n hX 7 dd_Ru_gather_7 rfl ?_
      refine gd_bipush hX 8 dd_Ru_gather_8 (v := 64) (by decide) ?_
      refine gd_icmp_ge hX 10 36 dd_Ru_gather_10 (by decide) (fun h1 => ?_) (fun h1 => ?_)
      · skip
        exact absurd ((nI_leI (a := 64) (by decide) (by omega)).mp h1) (by omega)
      · skip
        refine gd_aload_n hX 13 dd_Ru_gather_13 rfl ?_
        refine gd_iload_n hX 14 dd_Ru_gather_14 rfl ?_
        refine gd_call hX (st := []) (wr := [gd_ob 3 h [.ref a, .ref b, .int (nI (ch_runs w f k).length)], gd_aJ K a 64 rn, gd_aI K b 64 rs, gd_aJ K ca 64 f]) (ct_Cl_isFull _ K c ca k w (by omega)) 15 dd_Ru_gather_15 (gd_nV hX (As := [.int (nI k)]) kw_122 kw_123 kw_124 (gd_sigOf (n := 1) kw_125 (by decide)) (by decide) 3 rfl rfl rfl rfl dd_Ru_gather_15) (gd_codeOf kw_125) (by decide) [3] [0, 1, 2, 4] rfl rfl rfl rfl rfl (by decide) (Nat.le_of_ble_eq_true rfl) (Nat.le_of_ble_eq_true rfl) (Nat.le_of_ble_eq_true rfl) (Nat.le_of_ble_eq_true rfl) (fun v9 w9 h9 => ?_) (fun E9 w9 q9 h9 => h9.elim)
        obtain ⟨rfl, rfl⟩ := h9
        refine gd_wsp [gd_ob 3 h [.ref a, .ref b, .int (nI (ch_runs w f k).length)], gd_aJ K a 64 rn, gd_aI K b 64 rs, gd_ob 0 c [.ref ca, .long w], gd_aJ K ca 64 f] [0, 1, 2, 4, 3] rfl rfl rfl ?_
        show gd_W X K 0 0 [gd_ob 3 h [.ref a, .ref b, .int (nI (ch_runs w f k).length)], gd_aJ K a 64 rn, gd_aI K b 64 rs, gd_ob 0 c [.ref ca, .long w], gd_aJ K ca 64 f] [(0, .ref h), (1, .ref c), (2, .int (nI k))] [.int (if ch_bit w k then 1 else 0)] 18
        refine gd_if_eq hX 18 30 dd_Ru_gather_18 (by decide) (fun h2 => ?_) (fun h2 => ?_)
        · skip
          have h3 : ch_bit w k = false := by cases hb : ch_bit w k <;> simp_all
          refine gd_iinc hX 2 [(2, .int (nI (k + 1))), (0, .ref h), (1, .ref c)] 30 dd_Ru_gather_30 rfl (gd_inc k) (by decide) rfl ?_
          refine gd_goto hX 33 7 dd_Ru_gather_33 (by decide) ?_
          have h4 : ch_runs w f (k + 1) = ch_runs w f k := by show (if ch_bit w k = true then _ else _) = _; rw [h3]; rfl
          rw [← h4]
          rw [← h4] at hR
          refine gd_lvs [(0, .ref h), (1, .ref c), (2, .int (nI (k + 1)))] [1, 2, 0] rfl ?_
          exact ih (k + 1) rn rs (by omega) hR
        · skip
          have h3 : ch_bit w k = true := by cases hb : ch_bit w k <;> simp_all
          have h4 : ch_runs w f (k + 1) = ch_add (ch_runs w f k) (f k) := by show (if ch_bit w k = true then _ else _) = _; rw [h3]; rfl
          refine gd_aload_n hX 21 dd_Ru_gather_21 rfl ?_
          refine gd_aload_n hX 22 dd_Ru_gather_22 rfl ?_
          refine gd_iload_n hX 23 dd_Ru_gather_23 rfl ?_
          refine gd_call hX (st := [.ref h]) (wr := [gd_ob 3 h [.ref a, .ref b, .int (nI (ch_runs w f k).length)], gd_aJ K a 64 rn, gd_aI K b 64 rs]) (ct_Cl_number _ K c ca k w f (by omega)) 24 dd_Ru_gather_24 (gd_nV hX (As := [.int (nI k)]) kw_126 kw_127 kw_128 (gd_sigOf (n := 1) kw_129 (by decide)) (by decide) 3 rfl rfl rfl rfl dd_Ru_gather_24) (gd_codeOf kw_129) (by decide) [3, 4] [0, 1, 2] rfl rfl rfl rfl rfl (by decide) (Nat.le_of_ble_eq_true rfl) (Nat.le_of_ble_eq_true rfl) (Nat.le_of_ble_eq_true rfl) (Nat.le_of_ble_eq_true rfl) (fun v9 w9 h9 => ?_) (fun E9 w9 q9 h9 => h9.elim)
          obtain ⟨rfl, rfl⟩ := h9
          show gd_W X K 0 0 [gd_ob 3 h [.ref a, .ref b, .int (nI (ch_runs w f k).length)], gd_aJ K a 64 rn, gd_aI K b 64 rs, gd_ob 0 c [.ref ca, .long w], gd_aJ K ca 64 f] [(0, .ref h), (1, .ref c), (2, .int (nI k))] [.long (f k), .ref h] 27
          refine gd_call hX (st := []) (wr := [gd_ob 0 c [.ref ca, .long w], gd_aJ K ca 64 f]) (ct_Ru_addCell _ K h a b rn rs (ch_runs w f k) (f k) (by omega) hR) 27 dd_Ru_gather_27 (gd_nV hX (As := [.long (f k)]) kw_130 kw_132 kw_0 (gd_sigOf (n := 1) kw_133 (by decide)) (by decide) 0 rfl rfl rfl rfl dd_Ru_gather_27) (gd_codeOf kw_133) (by decide) [0, 1, 2] [3, 4] rfl rfl rfl rfl rfl (by decide) (Nat.le_of_ble_eq_true rfl) (Nat.le_of_ble_eq_true rfl) (Nat.le_of_ble_eq_true rfl) (Nat.le_of_ble_eq_true rfl) (fun v9 w9 h9 => ?_) (fun E9 w9 q9 h9 => h9.elim)
          obtain ⟨rfl, rn', rs', rfl, hR2⟩ := h9
          refine gd_wsp [gd_ob 3 h [.ref a, .ref b, .int (nI (ch_add (ch_runs w f k) (f k)).length)], gd_aJ K a 64 rn', gd_aI K b 64 rs', gd_ob 0 c [.ref ca, .long w], gd_aJ K ca 64 f] [2, 3, 4, 0, 1] rfl rfl rfl ?_
          show gd_W X K 0 0 [gd_ob 3 h [.ref a, .ref b, .int (nI (ch_add (ch_runs w f k) (f k)).length)], gd_aJ K a 64 rn', gd_aI K b 64 rs', gd_ob 0 c [.ref ca, .long w], gd_aJ K ca 64 f] [(0, .ref h), (1, .ref c), (2, .int (nI k))] [] 30
          refine gd_iinc hX 2 [(2, .int (nI (k + 1))), (0, .ref h), (1, .ref c)] 30 dd_Ru_gather_30 rfl (gd_inc k) (by decide) rfl ?_
          refine gd_goto hX 33 7 dd_Ru_gather_33 (by decide) ?_
          refine gd_lvs [(0, .ref h), (1, .ref c), (2, .int (nI (k + 1)))] [1, 2, 0] rfl ?_
          rw [← h4]
          rw [← h4] at hR2
          exact ih (k + 1) rn' rs' (by omega) hR2
  refine gd_aload_n hX 0 dd_Ru_gather_0 rfl ?_
  refine gd_iconst hX 1 dd_Ru_gather_1 (v := 0) (by decide) ?_
  refine gd_eqi (show (0 : Int32) = nI (ch_runs w f 0).length from rfl) ?_
  refine gd_put hX inC_Ru ty_Ru tyk_Ru nm_Ru 0 2 [gd_ob 3 h [.ref a, .ref b, .int (nI (ch_runs w f 0).length)], gd_aJ K a 64 rn, gd_aI K b 64 rs, gd_ob 0 c [.ref ca, .long w], gd_aJ K ca 64 f] 2 dd_Ru_gather_2 rfl rfl (by decide) kw_56 rfl rfl rfl (Nat.le_of_ble_eq_true rfl) rfl ?_
  refine gd_iconst hX 5 dd_Ru_gather_5 (v := 0) (by decide) ?_
  refine gd_eqi (show (0 : Int32) = nI 0 from rfl) ?_
  refine gd_istore_n hX [(2, .int (nI 0)), (0, .ref h), (1, .ref c)] 6 dd_Ru_gather_6 rfl (by decide) rfl ?_
  refine gd_lvs [(0, .ref h), (1, .ref c), (2, .int (nI 0))] [1, 2, 0] rfl ?_
  exact loop 64 0 rn rs rfl (ch_R_nil _ _)
end
section
set_option maxRecDepth 100000 in
set_option maxHeartbeats 4000000 in
theorem ct_Ch_numberOctets (l : Launch) (K : gd_K) (x : Int64) : gd_M l yy_Ch_numberOctets bb_Ch_numberOctets 4 (some .int) [] 0 0 0 0 K [.long x] [] (fun v w1 => v = some (.int (nI (ch_num 9 (uN x)).length)) ∧ w1 = []) (fun _ _ => False) := by
  refine gd_body (Nat.le_of_ble_eq_true rfl) (fun X hXl hin hE hX => ?_)
  have loop : ∀ (m j : Nat), m + j = 9 → gd_W X K 0 0 [] [(0, .long x), (2, .int (nI (ch_cnt (uN x) j))), (3, .int (nI (7 * (j + 1))))] [] 5 := by
    intro m
    induction m with
    | zero =>
      intro j hj
      obtain rfl : j = 9 := by omega
      refine gd_iload_n hX 5 dd_Ch_numberOctets_5 rfl ?_
      refine gd_bipush hX 6 dd_Ch_numberOctets_6 (v := 63) (by decide) ?_
      refine gd_icmp_gt hX 8 28 dd_Ch_numberOctets_8 (by decide) (fun h1 => ?_) (fun h1 => ?_)
      · skip
        refine gd_iload_n hX 28 dd_Ch_numberOctets_28 rfl ?_
        exact gd_iret hX hE 29 dd_Ch_numberOctets_29 ⟨by rw [ch_num_len], rfl⟩
      · skip
        exact absurd (by decide) h1
    | succ m ih =>
      intro j hj
      refine gd_iload_n hX 5 dd_Ch_numberOctets_5 rfl ?_
      refine gd_bipush hX 6 dd_Ch_numberOctets_6 (v := 63) (by decide) ?_
      refine gd_icmp_gt hX 8 28 dd_Ch_numberOctets_8 (by decide) (fun h1 => ?_) (fun h1 => ?_)
      · skip
        exact absurd ((nI_ltI (a := 63) (by decide) (by omega)).mp h1) (by omega)
      · skip
        refine gd_lload_n hX 11 dd_Ch_numberOctets_11 rfl ?_
        refine gd_iload_n hX 12 dd_Ch_numberOctets_12 rfl ?_
        refine gd_lushr hX 13 dd_Ch_numberOctets_13 ?_
        refine gd_lconst hX 14 dd_Ch_numberOctets_14 (v := 0) (by decide) ?_
        refine gd_lcmp hX 15 dd_Ch_numberOctets_15 ?_
        refine gd_if_eq hX 16 22 dd_Ch_numberOctets_16 (by decide) (fun h2 => ?_) (fun h2 => ?_)
        · skip
          have h3 := (ch_sh0 x (by omega)).mp (ch_cmp0.mp h2)
          rw [ch_pow7] at h3
          have h5 : ch_cnt (uN x) (j + 1) = ch_cnt (uN x) j := by rw [ch_cnt_step, if_pos h3]; rfl
          refine gd_iinc hX 2 [(3, .int (nI (7 * (j + 1 + 1)))), (0, .long x), (2, .int (nI (ch_cnt (uN x) j)))] 22 dd_Ch_numberOctets_22 rfl (by rw [show 7 * (j + 1 + 1) = 7 * (j + 1) + 7 by omega, ← nI_add]; rfl) (by decide) rfl ?_
          refine gd_goto hX 25 5 dd_Ch_numberOctets_25 (by decide) ?_
          refine gd_lvs [(0, .long x), (2, .int (nI (ch_cnt (uN x) j))), (3, .int (nI (7 * (j + 1 + 1))))] [1, 2, 0] rfl ?_
          rw [← h5]
          exact ih (j + 1) (by omega)
        · skip
          have h3 : ¬ uN x / 128 ^ (j + 1) = 0 := fun q => h2 (ch_cmp0.mpr ((ch_sh0 x (by omega)).mpr (by rw [ch_pow7]; exact q)))
          have h5 : ch_cnt (uN x) (j + 1) = ch_cnt (uN x) j + 1 := by rw [ch_cnt_step, if_neg h3]
          refine gd_iinc hX 1 [(2, .int (nI ((ch_cnt (uN x) j) + 1))), (0, .long x), (3, .int (nI (7 * (j + 1))))] 19 dd_Ch_numberOctets_19 rfl (gd_inc (ch_cnt (uN x) j)) (by decide) rfl ?_
          refine gd_iinc hX 2 [(3, .int (nI (7 * (j + 1 + 1)))), (2, .int (nI ((ch_cnt (uN x) j) + 1))), (0, .long x)] 22 dd_Ch_numberOctets_22 rfl (by rw [show 7 * (j + 1 + 1) = 7 * (j + 1) + 7 by omega, ← nI_add]; rfl) (by decide) rfl ?_
          refine gd_goto hX 25 5 dd_Ch_numberOctets_25 (by decide) ?_
          refine gd_lvs [(0, .long x), (2, .int (nI ((ch_cnt (uN x) j) + 1))), (3, .int (nI (7 * (j + 1 + 1))))] [2, 1, 0] rfl ?_
          rw [← h5]
          exact ih (j + 1) (by omega)
  refine gd_iconst hX 0 dd_Ch_numberOctets_0 (v := 1) (by decide) ?_
  refine gd_eqi (show (1 : Int32) = nI (ch_cnt (uN x) 0) from rfl) ?_
  refine gd_istore_n hX [(2, .int (nI (ch_cnt (uN x) 0))), (0, .long x)] 1 dd_Ch_numberOctets_1 rfl (by decide) rfl ?_
  refine gd_bipush hX 2 dd_Ch_numberOctets_2 (v := 7) (by decide) ?_
  refine gd_eqi (show (7 : Int32) = nI (7 * (0 + 1)) from rfl) ?_
  refine gd_istore_n hX [(3, .int (nI (7 * (0 + 1)))), (2, .int (nI (ch_cnt (uN x) 0))), (0, .long x)] 4 dd_Ch_numberOctets_4 rfl (by decide) rfl ?_
  refine gd_lvs [(0, .long x), (2, .int (nI (ch_cnt (uN x) 0))), (3, .int (nI (7 * (0 + 1))))] [2, 1, 0] rfl ?_
  exact loop 9 0 rfl
set_option maxRecDepth 100000 in
set_option maxHeartbeats 4000000 in
theorem ct_Ch_addNumber (l : Launch) (K : gd_K) (h r rom : Nat) (f : Nat → Int32) (L : List Nat) (x : Int64) (hroom : L.length + (ch_num 9 (uN x)).length ≤ rom) (hrom : rom < 2 ^ 31) (hB : ch_B f L) : gd_M l yy_Ch_addNumber bb_Ch_addNumber 5 (none) [] 1 15 0 0 K [.ref h, .long x] [gd_ob 1 h [.ref r, .int (nI L.length)], gd_aB K r rom f] (fun v w1 => v = none ∧ ∃ f', w1 = [gd_ob 1 h [.ref r, .int (nI (L ++ ch_num 9 (uN x)).length)], gd_aB K r rom f'] ∧ ch_B f' (L ++ ch_num 9 (uN x))) (fun _ _ => False) := by
  refine gd_body (Nat.le_of_ble_eq_true rfl) (fun X hXl hin hE hX => ?_)
  obtain ⟨N, hN⟩ : ∃ N, N = ch_num 9 (uN x) := ⟨_, rfl⟩
  rw [← hN] at hroom
  have hn0 : 0 < N.length := by rw [hN]; exact ch_num_pos _ _
  have hn1 : N.length ≤ 10 := by rw [hN]; exact ch_num_le _
  have loop : ∀ (m i : Nat) (f : Nat → Int32), m + i = N.length - 1 → ch_B f (L ++ N.take i) → gd_W X K 0 0 [gd_ob 1 h [.ref r, .int (nI (L ++ N.take i).length)], gd_aB K r rom f] [(0, .ref h), (1, .long x), (3, .int (nI (N.length - 1))), (4, .int (nI i))] [] 10 := by
    intro m
    induction m with
    | zero =>
      intro i f hi hB
      obtain rfl : i = N.length - 1 := by omega
      have hle : (L ++ N.take (N.length - 1)).length + 1 = L.length + N.length := by rw [List.length_append, List.length_take]; omega
      refine gd_iload hX 10 dd_Ch_addNumber_10 rfl ?_
      refine gd_iload_n hX 12 dd_Ch_addNumber_12 rfl ?_
      refine gd_icmp_ge hX 13 38 dd_Ch_addNumber_13 (by decide) (fun h1 => ?_) (fun h1 => ?_)
      · skip
        refine gd_aload_n hX 38 dd_Ch_addNumber_38 rfl ?_
        refine gd_lload_n hX 39 dd_Ch_addNumber_39 rfl ?_
        refine gd_bipush hX 40 dd_Ch_addNumber_40 (v := 7) (by decide) ?_
        refine gd_iload_n hX 42 dd_Ch_addNumber_42 rfl ?_
        refine gd_imul hX 43 dd_Ch_addNumber_43 ?_
        refine gd_eqi (show (7 * (nI (N.length - 1)) : Int32) = nI (7 * (N.length - 1)) from pk_mul 7 _) ?_
        refine gd_lushr hX 44 dd_Ch_addNumber_44 ?_
        refine gd_l2i hX 45 dd_Ch_addNumber_45 ?_
        have hx : ((x.toUInt64 >>> ((nI (7 * (N.length - 1))).toInt64.toUInt64 &&& Int64.toUInt64 63)).toInt64).toInt32 &&& 255 = nI (N.getD (N.length - 1) 0) := by
          have e1 := ch_num_end 9 (uN x) (N.length - 1) (by rw [← hN]; omega)
          have e2 : uN x / 128 ^ (N.length - 1) < 256 := by
            have e3 := ch_num_lt 9 (uN x) (N.length - 1) (by rw [← hN]; omega) (Nat.lt_of_lt_of_le (uN_lt x) (by decide))
            exact e3
          rw [← hN] at e1
          rw [ch_low, uN_sk x (by omega), ch_pow7, e1, Nat.mod_eq_of_lt e2]
        refine gd_call hX (st := []) (wr := []) (ct_Oc_add _ K h r rom f (L ++ N.take (N.length - 1)) _ (N.getD (N.length - 1) 0) (by omega) hrom hB hx) 46 dd_Ch_addNumber_46 (gd_nV hX (As := [.int (((x.toUInt64 >>> ((nI (7 * (N.length - 1))).toInt64.toUInt64 &&& Int64.toUInt64 63)).toInt64).toInt32)]) kw_142 kw_143 kw_144 (gd_sigOf (n := 1) kw_145 (by decide)) (by decide) 0 rfl rfl rfl rfl dd_Ch_addNumber_46) (gd_codeOf kw_145) (by decide) [0, 1] [] rfl rfl rfl rfl rfl (by decide) (Nat.le_of_ble_eq_true rfl) (Nat.le_of_ble_eq_true rfl) (Nat.le_of_ble_eq_true rfl) (Nat.le_of_ble_eq_true rfl) (fun v9 w9 h9 => ?_) (fun E9 w9 q9 h9 => h9.elim)
        obtain ⟨rfl, f', rfl, hB2⟩ := h9
        show gd_W X K 0 0 [gd_ob 1 h [.ref r, .int (nI ((L ++ N.take (N.length - 1)) ++ [N.getD (N.length - 1) 0]).length)], gd_aB K r rom f'] [(0, .ref h), (1, .long x), (3, .int (nI (N.length - 1))), (4, .int (nI (N.length - 1)))] [] 49
        have e5 : (L ++ N.take (N.length - 1)) ++ [N.getD (N.length - 1) 0] = L ++ ch_num 9 (uN x) := by
          rw [List.append_assoc, ← ch_take_step (by omega), ch_take_all (by omega), hN]
        rw [e5] at hB2 ⊢
        exact gd_vret hX hE 49 dd_Ch_addNumber_49 ⟨rfl, f', rfl, hB2⟩
      · skip
        exact absurd (Int32.le_refl _) h1
    | succ m ih =>
      intro i f hi hB
      have hle : (L ++ N.take i).length = L.length + i := by rw [List.length_append, List.length_take]; omega
      refine gd_iload hX 10 dd_Ch_addNumber_10 rfl ?_
      refine gd_iload_n hX 12 dd_Ch_addNumber_12 rfl ?_
      refine gd_icmp_ge hX 13 38 dd_Ch_addNumber_13 (by decide) (fun h1 => ?_) (fun h1 => ?_)
      · skip
        exact absurd ((nI_leI (by omega) (by omega)).mp h1) (by omega)
      · skip
        refine gd_aload_n hX 16 dd_Ch_addNumber_16 rfl ?_
        refine gd_lload_n hX 17 dd_Ch_addNumber_17 rfl ?_
        refine gd_bipush hX 18 dd_Ch_addNumber_18 (v := 7) (by decide) ?_
        refine gd_iload hX 20 dd_Ch_addNumber_20 rfl ?_
        refine gd_imul hX 22 dd_Ch_addNumber_22 ?_
        refine gd_eqi (show (7 * (nI i) : Int32) = nI (7 * i) from pk_mul 7 _) ?_
        refine gd_lushr hX 23 dd_Ch_addNumber_23 ?_
        refine gd_l2i hX 24 dd_Ch_addNumber_24 ?_
        refine gd_sipush hX 25 dd_Ch_addNumber_25 (v := 128) (by decide) ?_
        refine gd_ior hX 28 dd_Ch_addNumber_28 ?_
        have hx : ((((x.toUInt64 >>> ((nI (7 * i)).toInt64.toUInt64 &&& Int64.toUInt64 63)).toInt64).toInt32) ||| 128) &&& 255 = nI (N.getD i 0) := by
          rw [ch_low128, uN_sk x (by omega), ch_pow7, hN, ch_num_at 9 (uN x) i (by rw [← hN]; omega)]
        refine gd_call hX (st := []) (wr := []) (ct_Oc_add _ K h r rom f (L ++ N.take i) _ (N.getD i 0) (by omega) hrom hB hx) 29 dd_Ch_addNumber_29 (gd_nV hX (As := [.int ((((x.toUInt64 >>> ((nI (7 * i)).toInt64.toUInt64 &&& Int64.toUInt64 63)).toInt64).toInt32) ||| 128)]) kw_142 kw_143 kw_144 (gd_sigOf (n := 1) kw_145 (by decide)) (by decide) 0 rfl rfl rfl rfl dd_Ch_addNumber_29) (gd_codeOf kw_145) (by decide) [0, 1] [] rfl rfl rfl rfl rfl (by decide) (Nat.le_of_ble_eq_true rfl) (Nat.le_of_ble_eq_true rfl) (Nat.le_of_ble_eq_true rfl) (Nat.le_of_ble_eq_true rfl) (fun v9 w9 h9 => ?_) (fun E9 w9 q9 h9 => h9.elim)
        obtain ⟨rfl, f', rfl, hB2⟩ := h9
        show gd_W X K 0 0 [gd_ob 1 h [.ref r, .int (nI ((L ++ N.take i) ++ [N.getD i 0]).length)], gd_aB K r rom f'] [(0, .ref h), (1, .long x), (3, .int (nI (N.length - 1))), (4, .int (nI i))] [] 32
        have e5 : (L ++ N.take i) ++ [N.getD i 0] = L ++ N.take (i + 1) := by rw [List.append_assoc, ← ch_take_step (by omega)]
        rw [e5] at hB2 ⊢
        refine gd_iinc hX 3 [(4, .int (nI (i + 1))), (0, .ref h), (1, .long x), (3, .int (nI (N.length - 1)))] 32 dd_Ch_addNumber_32 rfl (gd_inc i) (by decide) rfl ?_
        refine gd_goto hX 35 10 dd_Ch_addNumber_35 (by decide) ?_
        refine gd_lvs [(0, .ref h), (1, .long x), (3, .int (nI (N.length - 1))), (4, .int (nI (i + 1)))] [1, 2, 3, 0] rfl ?_
        exact ih (i + 1) f' (by omega) hB2
  refine gd_lload_n hX 0 dd_Ch_addNumber_0 rfl ?_
  refine gd_call hX (st := []) (wr := [gd_ob 1 h [.ref r, .int (nI L.length)], gd_aB K r rom f]) (ct_Ch_numberOctets _ K x) 1 dd_Ch_addNumber_1 (gd_nS hX (As := [.long x]) kw_161 kw_162 kw_13 (gd_nmOf kw_163) (gd_sigOf (n := 1) kw_163 (by decide)) (by decide) rfl rfl dd_Ch_addNumber_1) (gd_codeOf kw_163) (by decide) [] [0, 1] rfl rfl rfl rfl rfl (by decide) (Nat.le_of_ble_eq_true rfl) (Nat.le_of_ble_eq_true rfl) (Nat.le_of_ble_eq_true rfl) (Nat.le_of_ble_eq_true rfl) (fun v9 w9 h9 => ?_) (fun E9 w9 q9 h9 => h9.elim)
  obtain ⟨rfl, rfl⟩ := h9
  show gd_W X K 0 0 [gd_ob 1 h [.ref r, .int (nI L.length)], gd_aB K r rom f] [(0, .ref h), (1, .long x)] [.int (nI (ch_num 9 (uN x)).length)] 4
  rw [← hN]
  refine gd_iconst hX 4 dd_Ch_addNumber_4 (v := 1) (by decide) ?_
  refine gd_isub hX 5 dd_Ch_addNumber_5 ?_
  refine gd_eqi (show ((nI N.length) - 1 : Int32) = nI (N.length - 1) from pk_sub (b := 1) (by omega)) ?_
  refine gd_istore_n hX [(3, .int (nI (N.length - 1))), (0, .ref h), (1, .long x)] 6 dd_Ch_addNumber_6 rfl (by decide) rfl ?_
  refine gd_iconst hX 7 dd_Ch_addNumber_7 (v := 0) (by decide) ?_
  refine gd_eqi (show (0 : Int32) = nI 0 from rfl) ?_
  refine gd_istore hX [(4, .int (nI 0)), (3, .int (nI (N.length - 1))), (0, .ref h), (1, .long x)] 8 dd_Ch_addNumber_8 (by decide) rfl ?_
  refine gd_lvs [(0, .ref h), (1, .long x), (3, .int (nI (N.length - 1))), (4, .int (nI 0))] [2, 3, 1, 0] rfl ?_
  have e0 : L = L ++ N.take 0 := by simp
  rw [e0] at hB
  have h9 := loop (N.length - 1) 0 f (by omega) hB
  rw [← e0] at h9
  exact h9
end
section
set_option maxRecDepth 100000 in
set_option maxHeartbeats 4000000 in
theorem ct_Ch_octetsNow (l : Launch) (K : gd_K) (h c sp ru md fe rd : Nat) (wa : Int32) (ra rb : Nat) (n : Int32) (rn : Nat → Int64) (rs : Nat → Int32) (ca : Nat) (w : Int64) (f : Nat → Int64) : gd_M l yy_Ch_octetsNow bb_Ch_octetsNow 3 (some .int) [] 2 28 0 0 K [.ref h] [gd_ob 4 h [.ref c, .ref sp, .ref ru, .ref md, .ref fe, .ref rd, .int wa], gd_ob 3 ru [.ref ra, .ref rb, .int n], gd_aJ K ra 64 rn, gd_aI K rb 64 rs, gd_ob 0 c [.ref ca, .long w], gd_aJ K ca 64 f] (fun v w1 => v = some (.int (nI (8 + (ch_octs (ch_runs w f 64)).length))) ∧ ∃ rn' rs', w1 = [gd_ob 4 h [.ref c, .ref sp, .ref ru, .ref md, .ref fe, .ref rd, .int wa], gd_ob 3 ru [.ref ra, .ref rb, .int (nI (ch_runs w f 64).length)], gd_aJ K ra 64 rn', gd_aI K rb 64 rs', gd_ob 0 c [.ref ca, .long w], gd_aJ K ca 64 f]) (fun _ _ => False) := by
  refine gd_body (Nat.le_of_ble_eq_true rfl) (fun X hXl hin hE hX => ?_)
  refine gd_aload_n hX 0 dd_Ch_octetsNow_0 rfl ?_
  refine gd_get hX inC_Ch 0 2 1 dd_Ch_octetsNow_1 rfl rfl (by decide) kw_94 rfl ?_
  refine gd_aload_n hX 4 dd_Ch_octetsNow_4 rfl ?_
  refine gd_get hX inC_Ch 0 0 5 dd_Ch_octetsNow_5 rfl rfl (by decide) kw_92 rfl ?_
  refine gd_call hX (st := []) (wr := [gd_ob 4 h [.ref c, .ref sp, .ref ru, .ref md, .ref fe, .ref rd, .int wa]]) (ct_Ru_gather _ K ru ra rb c ca n rn rs w f) 8 dd_Ch_octetsNow_8 (gd_nV hX (As := [.ref c]) kw_118 kw_119 kw_120 (gd_sigOf (n := 1) kw_121 (by decide)) (by decide) 1 rfl rfl rfl rfl dd_Ch_octetsNow_8) (gd_codeOf kw_121) (by decide) [1, 2, 3, 4, 5] [0] rfl rfl rfl rfl rfl (by decide) (Nat.le_of_ble_eq_true rfl) (Nat.le_of_ble_eq_true rfl) (Nat.le_of_ble_eq_true rfl) (Nat.le_of_ble_eq_true rfl) (fun v9 w9 h9 => ?_) (fun E9 w9 q9 h9 => h9.elim)
  obtain ⟨rfl, rn', rs', rfl, hR⟩ := h9
  show gd_W X K 0 0 [gd_ob 4 h [.ref c, .ref sp, .ref ru, .ref md, .ref fe, .ref rd, .int wa], gd_ob 3 ru [.ref ra, .ref rb, .int (nI (ch_runs w f 64).length)], gd_aJ K ra 64 rn', gd_aI K rb 64 rs', gd_ob 0 c [.ref ca, .long w], gd_aJ K ca 64 f] [(0, .ref h)] [] 11
  have hlen := ch_runs_len w f 64
  have hoc : (ch_octs (ch_runs w f 64)).length ≤ 11 * (ch_runs w f 64).length := ch_octs_len _
  generalize hL : ch_runs w f 64 = L at hR hlen hoc ⊢
  have loop : ∀ (m r : Nat), m + r = L.length → gd_W X K 0 0 [gd_ob 4 h [.ref c, .ref sp, .ref ru, .ref md, .ref fe, .ref rd, .int wa], gd_ob 3 ru [.ref ra, .ref rb, .int (nI L.length)], gd_aJ K ra 64 rn', gd_aI K rb 64 rs', gd_ob 0 c [.ref ca, .long w], gd_aJ K ca 64 f] [(0, .ref h), (1, .int (nI (8 + (ch_octs (L.drop (L.length - r))).length))), (2, .int (nI r))] [] 16 := by
    intro m
    induction m with
    | zero =>
      intro r hr
      obtain rfl : r = L.length := by omega
      refine gd_iload_n hX 16 dd_Ch_octetsNow_16 rfl ?_
      refine gd_aload_n hX 17 dd_Ch_octetsNow_17 rfl ?_
      refine gd_get hX inC_Ch 0 2 18 dd_Ch_octetsNow_18 rfl rfl (by decide) kw_94 rfl ?_
      refine gd_call hX (st := [.int (nI L.length)]) (wr := [gd_ob 4 h [.ref c, .ref sp, .ref ru, .ref md, .ref fe, .ref rd, .int wa], gd_aJ K ra 64 rn', gd_aI K rb 64 rs', gd_ob 0 c [.ref ca, .long w], gd_aJ K ca 64 f]) (ct_Ru_many _ K ru ra rb (nI L.length)) 21 dd_Ch_octetsNow_21 (gd_nV hX (As := []) kw_146 kw_147 kw_148 (gd_sigOf (n := 0) kw_149 (by decide)) (by decide) 1 rfl rfl rfl rfl dd_Ch_octetsNow_21) (gd_codeOf kw_149) (by decide) [1] [0, 2, 3, 4, 5] rfl rfl rfl rfl rfl (by decide) (Nat.le_of_ble_eq_true rfl) (Nat.le_of_ble_eq_true rfl) (Nat.le_of_ble_eq_true rfl) (Nat.le_of_ble_eq_true rfl) (fun v9 w9 h9 => ?_) (fun E9 w9 q9 h9 => h9.elim)
      obtain ⟨rfl, rfl⟩ := h9
      refine gd_wsp [gd_ob 4 h [.ref c, .ref sp, .ref ru, .ref md, .ref fe, .ref rd, .int wa], gd_ob 3 ru [.ref ra, .ref rb, .int (nI L.length)], gd_aJ K ra 64 rn', gd_aI K rb 64 rs', gd_ob 0 c [.ref ca, .long w], gd_aJ K ca 64 f] [0, 5, 1, 2, 3, 4] rfl rfl rfl ?_
      show gd_W X K 0 0 [gd_ob 4 h [.ref c, .ref sp, .ref ru, .ref md, .ref fe, .ref rd, .int wa], gd_ob 3 ru [.ref ra, .ref rb, .int (nI L.length)], gd_aJ K ra 64 rn', gd_aI K rb 64 rs', gd_ob 0 c [.ref ca, .long w], gd_aJ K ca 64 f] [(0, .ref h), (1, .int (nI (8 + (ch_octs (L.drop (L.length - L.length))).length))), (2, .int (nI L.length))] [.int (nI L.length), .int (nI L.length)] 24
      refine gd_icmp_ge hX 24 49 dd_Ch_octetsNow_24 (by decide) (fun h1 => ?_) (fun h1 => ?_)
      · skip
        refine gd_iload_n hX 49 dd_Ch_octetsNow_49 rfl ?_
        have e9 : L.drop (L.length - L.length) = L := by rw [Nat.sub_self]; rfl
        exact gd_iret hX hE 50 dd_Ch_octetsNow_50 ⟨by rw [e9, hL], rn', rs', by rw [hL]⟩
      · skip
        exact absurd (Int32.le_refl _) h1
    | succ m ih =>
      intro r hr
      have hlt : r < L.length := by omega
      have hs := ch_octs_step hlt
      have hq := ch_R_step hR hlt
      refine gd_iload_n hX 16 dd_Ch_octetsNow_16 rfl ?_
      refine gd_aload_n hX 17 dd_Ch_octetsNow_17 rfl ?_
      refine gd_get hX inC_Ch 0 2 18 dd_Ch_octetsNow_18 rfl rfl (by decide) kw_94 rfl ?_
      refine gd_call hX (st := [.int (nI r)]) (wr := [gd_ob 4 h [.ref c, .ref sp, .ref ru, .ref md, .ref fe, .ref rd, .int wa], gd_aJ K ra 64 rn', gd_aI K rb 64 rs', gd_ob 0 c [.ref ca, .long w], gd_aJ K ca 64 f]) (ct_Ru_many _ K ru ra rb (nI L.length)) 21 dd_Ch_octetsNow_21 (gd_nV hX (As := []) kw_146 kw_147 kw_148 (gd_sigOf (n := 0) kw_149 (by decide)) (by decide) 1 rfl rfl rfl rfl dd_Ch_octetsNow_21) (gd_codeOf kw_149) (by decide) [1] [0, 2, 3, 4, 5] rfl rfl rfl rfl rfl (by decide) (Nat.le_of_ble_eq_true rfl) (Nat.le_of_ble_eq_true rfl) (Nat.le_of_ble_eq_true rfl) (Nat.le_of_ble_eq_true rfl) (fun v9 w9 h9 => ?_) (fun E9 w9 q9 h9 => h9.elim)
      obtain ⟨rfl, rfl⟩ := h9
      refine gd_wsp [gd_ob 4 h [.ref c, .ref sp, .ref ru, .ref md, .ref fe, .ref rd, .int wa], gd_ob 3 ru [.ref ra, .ref rb, .int (nI L.length)], gd_aJ K ra 64 rn', gd_aI K rb 64 rs', gd_ob 0 c [.ref ca, .long w], gd_aJ K ca 64 f] [0, 5, 1, 2, 3, 4] rfl rfl rfl ?_
      show gd_W X K 0 0 [gd_ob 4 h [.ref c, .ref sp, .ref ru, .ref md, .ref fe, .ref rd, .int wa], gd_ob 3 ru [.ref ra, .ref rb, .int (nI L.length)], gd_aJ K ra 64 rn', gd_aI K rb 64 rs', gd_ob 0 c [.ref ca, .long w], gd_aJ K ca 64 f] [(0, .ref h), (1, .int (nI (8 + (ch_octs (L.drop (L.length - r))).length))), (2, .int (nI r))] [.int (nI L.length), .int (nI r)] 24
      refine gd_icmp_ge hX 24 49 dd_Ch_octetsNow_24 (by decide) (fun h1 => ?_) (fun h1 => ?_)
      · skip
        exact absurd ((nI_leI (by omega) (by omega)).mp h1) (by omega)
      · skip
        refine gd_iload_n hX 27 dd_Ch_octetsNow_27 rfl ?_
        refine gd_iconst hX 28 dd_Ch_octetsNow_28 (v := 1) (by decide) ?_
        refine gd_aload_n hX 29 dd_Ch_octetsNow_29 rfl ?_
        refine gd_get hX inC_Ch 0 2 30 dd_Ch_octetsNow_30 rfl rfl (by decide) kw_94 rfl ?_
        refine gd_iload_n hX 33 dd_Ch_octetsNow_33 rfl ?_
        refine gd_call hX (st := [.int 1, .int (nI (8 + (ch_octs (L.drop (L.length - r))).length))]) (wr := [gd_ob 4 h [.ref c, .ref sp, .ref ru, .ref md, .ref fe, .ref rd, .int wa], gd_aI K rb 64 rs', gd_ob 0 c [.ref ca, .long w], gd_aJ K ca 64 f]) (ct_Ru_folded _ K ru ra rb r (nI L.length) rn' (by omega)) 34 dd_Ch_octetsNow_34 (gd_nV hX (As := [.int (nI r)]) kw_154 kw_155 kw_156 (gd_sigOf (n := 1) kw_157 (by decide)) (by decide) 1 rfl rfl rfl rfl dd_Ch_octetsNow_34) (gd_codeOf kw_157) (by decide) [1, 2] [0, 3, 4, 5] rfl rfl rfl rfl rfl (by decide) (Nat.le_of_ble_eq_true rfl) (Nat.le_of_ble_eq_true rfl) (Nat.le_of_ble_eq_true rfl) (Nat.le_of_ble_eq_true rfl) (fun v9 w9 h9 => ?_) (fun E9 w9 q9 h9 => h9.elim)
        obtain ⟨rfl, rfl⟩ := h9
        refine gd_wsp [gd_ob 4 h [.ref c, .ref sp, .ref ru, .ref md, .ref fe, .ref rd, .int wa], gd_ob 3 ru [.ref ra, .ref rb, .int (nI L.length)], gd_aJ K ra 64 rn', gd_aI K rb 64 rs', gd_ob 0 c [.ref ca, .long w], gd_aJ K ca 64 f] [0, 4, 5, 1, 2, 3] rfl rfl rfl ?_
        show gd_W X K 0 0 [gd_ob 4 h [.ref c, .ref sp, .ref ru, .ref md, .ref fe, .ref rd, .int wa], gd_ob 3 ru [.ref ra, .ref rb, .int (nI L.length)], gd_aJ K ra 64 rn', gd_aI K rb 64 rs', gd_ob 0 c [.ref ca, .long w], gd_aJ K ca 64 f] [(0, .ref h), (1, .int (nI (8 + (ch_octs (L.drop (L.length - r))).length))), (2, .int (nI r))] [.long (ch_zz (rn' r - if r = 0 then 0 else rn' (r - 1))), .int 1, .int (nI (8 + (ch_octs (L.drop (L.length - r))).length))] 37
        refine gd_call hX (st := [.int 1, .int (nI (8 + (ch_octs (L.drop (L.length - r))).length))]) (wr := [gd_ob 4 h [.ref c, .ref sp, .ref ru, .ref md, .ref fe, .ref rd, .int wa], gd_ob 3 ru [.ref ra, .ref rb, .int (nI L.length)], gd_aJ K ra 64 rn', gd_aI K rb 64 rs', gd_ob 0 c [.ref ca, .long w], gd_aJ K ca 64 f]) (ct_Ch_numberOctets _ K (ch_zz (rn' r - if r = 0 then 0 else rn' (r - 1)))) 37 dd_Ch_octetsNow_37 (gd_nS hX (As := [.long (ch_zz (rn' r - if r = 0 then 0 else rn' (r - 1)))]) kw_161 kw_162 kw_13 (gd_nmOf kw_163) (gd_sigOf (n := 1) kw_163 (by decide)) (by decide) rfl rfl dd_Ch_octetsNow_37) (gd_codeOf kw_163) (by decide) [] [0, 1, 2, 3, 4, 5] rfl rfl rfl rfl rfl (by decide) (Nat.le_of_ble_eq_true rfl) (Nat.le_of_ble_eq_true rfl) (Nat.le_of_ble_eq_true rfl) (Nat.le_of_ble_eq_true rfl) (fun v9 w9 h9 => ?_) (fun E9 w9 q9 h9 => h9.elim)
        obtain ⟨rfl, rfl⟩ := h9
        show gd_W X K 0 0 [gd_ob 4 h [.ref c, .ref sp, .ref ru, .ref md, .ref fe, .ref rd, .int wa], gd_ob 3 ru [.ref ra, .ref rb, .int (nI L.length)], gd_aJ K ra 64 rn', gd_aI K rb 64 rs', gd_ob 0 c [.ref ca, .long w], gd_aJ K ca 64 f] [(0, .ref h), (1, .int (nI (8 + (ch_octs (L.drop (L.length - r))).length))), (2, .int (nI r))] [.int (nI (ch_num 9 (uN (ch_zz (rn' r - if r = 0 then 0 else rn' (r - 1))))).length), .int 1, .int (nI (8 + (ch_octs (L.drop (L.length - r))).length))] 40
        refine gd_iadd hX 40 dd_Ch_octetsNow_40 ?_
        refine gd_iadd hX 41 dd_Ch_octetsNow_41 ?_
        refine gd_eqi (show ((nI (8 + (ch_octs (L.drop (L.length - r))).length)) + (1 + (nI (ch_num 9 (uN (ch_zz (rn' r - if r = 0 then 0 else rn' (r - 1))))).length)) : Int32) = nI (8 + (ch_octs (L.drop (L.length - (r + 1)))).length) from by rw [hs, ← hq.1, List.length_append, List.length_cons, show (1 : Int32) = nI 1 from rfl, nI_add, nI_add]; congr 1; omega) ?_
        refine gd_istore_n hX [(1, .int (nI (8 + (ch_octs (L.drop (L.length - (r + 1)))).length))), (0, .ref h), (2, .int (nI r))] 42 dd_Ch_octetsNow_42 rfl (by decide) rfl ?_
        refine gd_iinc hX 2 [(2, .int (nI (r + 1))), (1, .int (nI (8 + (ch_octs (L.drop (L.length - (r + 1)))).length))), (0, .ref h)] 43 dd_Ch_octetsNow_43 rfl (gd_inc r) (by decide) rfl ?_
        refine gd_goto hX 46 16 dd_Ch_octetsNow_46 (by decide) ?_
        refine gd_lvs [(0, .ref h), (1, .int (nI (8 + (ch_octs (L.drop (L.length - (r + 1)))).length))), (2, .int (nI (r + 1)))] [2, 1, 0] rfl ?_
        exact ih (r + 1) (by omega)
  refine gd_bipush hX 11 dd_Ch_octetsNow_11 (v := 8) (by decide) ?_
  refine gd_eqi (show (8 : Int32) = nI (8 + (ch_octs (L.drop (L.length - 0))).length) from by rw [Nat.sub_zero, List.drop_length]; rfl) ?_
  refine gd_istore_n hX [(1, .int (nI (8 + (ch_octs (L.drop (L.length - 0))).length))), (0, .ref h)] 13 dd_Ch_octetsNow_13 rfl (by decide) rfl ?_
  refine gd_iconst hX 14 dd_Ch_octetsNow_14 (v := 0) (by decide) ?_
  refine gd_eqi (show (0 : Int32) = nI 0 from rfl) ?_
  refine gd_istore_n hX [(2, .int (nI 0)), (1, .int (nI (8 + (ch_octs (L.drop (L.length - 0))).length))), (0, .ref h)] 15 dd_Ch_octetsNow_15 rfl (by decide) rfl ?_
  refine gd_lvs [(0, .ref h), (1, .int (nI (8 + (ch_octs (L.drop (L.length - 0))).length))), (2, .int (nI 0))] [2, 1, 0] rfl ?_
  exact loop L.length 0 rfl
set_option maxRecDepth 100000 in
set_option maxHeartbeats 4000000 in
theorem ct_Ch_encode (l : Launch) (K : gd_K) (h c sp ru md fe rd : Nat) (wa : Int32) (ra rb : Nat) (n : Int32) (rn : Nat → Int64) (rs : Nat → Int32) (ca : Nat) (w : Int64) (f : Nat → Int64) (mr : Nat) (mn : Int32) (fm : Nat → Int32) : gd_M l yy_Ch_encode bb_Ch_encode 2 (some .int) [] 2 31 0 0 K [.ref h] [gd_ob 4 h [.ref c, .ref sp, .ref ru, .ref md, .ref fe, .ref rd, .int wa], gd_ob 3 ru [.ref ra, .ref rb, .int n], gd_aJ K ra 64 rn, gd_aI K rb 64 rs, gd_ob 0 c [.ref ca, .long w], gd_aJ K ca 64 f, gd_ob 1 md [.ref mr, .int mn], gd_aB K mr 712 fm] (fun v w1 => v = some (.int (nI (ch_code w f).length)) ∧ ∃ rn' rs' fm', w1 = [gd_ob 4 h [.ref c, .ref sp, .ref ru, .ref md, .ref fe, .ref rd, .int wa], gd_ob 3 ru [.ref ra, .ref rb, .int (nI (ch_runs w f 64).length)], gd_aJ K ra 64 rn', gd_aI K rb 64 rs', gd_ob 0 c [.ref ca, .long w], gd_aJ K ca 64 f, gd_ob 1 md [.ref mr, .int (nI (ch_code w f).length)], gd_aB K mr 712 fm'] ∧ ch_B fm' (ch_code w f)) (fun _ _ => False) := by
  refine gd_body (Nat.le_of_ble_eq_true rfl) (fun X hXl hin hE hX => ?_)
  refine gd_aload_n hX 0 dd_Ch_encode_0 rfl ?_
  refine gd_get hX inC_Ch 0 2 1 dd_Ch_encode_1 rfl rfl (by decide) kw_94 rfl ?_
  refine gd_aload_n hX 4 dd_Ch_encode_4 rfl ?_
  refine gd_get hX inC_Ch 0 0 5 dd_Ch_encode_5 rfl rfl (by decide) kw_92 rfl ?_
  refine gd_call hX (st := []) (wr := [gd_ob 4 h [.ref c, .ref sp, .ref ru, .ref md, .ref fe, .ref rd, .int wa], gd_ob 1 md [.ref mr, .int mn], gd_aB K mr 712 fm]) (ct_Ru_gather _ K ru ra rb c ca n rn rs w f) 8 dd_Ch_encode_8 (gd_nV hX (As := [.ref c]) kw_118 kw_119 kw_120 (gd_sigOf (n := 1) kw_121 (by decide)) (by decide) 1 rfl rfl rfl rfl dd_Ch_encode_8) (gd_codeOf kw_121) (by decide) [1, 2, 3, 4, 5] [0, 6, 7] rfl rfl rfl rfl rfl (by decide) (Nat.le_of_ble_eq_true rfl) (Nat.le_of_ble_eq_true rfl) (Nat.le_of_ble_eq_true rfl) (Nat.le_of_ble_eq_true rfl) (fun v9 w9 h9 => ?_) (fun E9 w9 q9 h9 => h9.elim)
  obtain ⟨rfl, rn', rs', rfl, hR⟩ := h9
  refine gd_wsp [gd_ob 4 h [.ref c, .ref sp, .ref ru, .ref md, .ref fe, .ref rd, .int wa], gd_ob 3 ru [.ref ra, .ref rb, .int (nI (ch_runs w f 64).length)], gd_aJ K ra 64 rn', gd_aI K rb 64 rs', gd_ob 0 c [.ref ca, .long w], gd_aJ K ca 64 f, gd_ob 1 md [.ref mr, .int mn], gd_aB K mr 712 fm] [0, 3, 4, 5, 6, 7, 1, 2] rfl rfl rfl ?_
  show gd_W X K 0 0 [gd_ob 4 h [.ref c, .ref sp, .ref ru, .ref md, .ref fe, .ref rd, .int wa], gd_ob 3 ru [.ref ra, .ref rb, .int (nI (ch_runs w f 64).length)], gd_aJ K ra 64 rn', gd_aI K rb 64 rs', gd_ob 0 c [.ref ca, .long w], gd_aJ K ca 64 f, gd_ob 1 md [.ref mr, .int mn], gd_aB K mr 712 fm] [(0, .ref h)] [] 11
  have hlen := ch_runs_len w f 64
  have hoc : (ch_octs (ch_runs w f 64)).length ≤ 11 * (ch_runs w f 64).length := ch_octs_len _
  have hsz := fun i => ch_runs_szD w f (i := i)
  have hcode : ch_mask w ++ ch_octs (ch_runs w f 64) = ch_code w f := rfl
  have hmk := ch_mask_len w
  generalize hL : ch_runs w f 64 = L at hR hlen hoc hsz hcode ⊢
  refine gd_aload_n hX 11 dd_Ch_encode_11 rfl ?_
  refine gd_get hX inC_Ch 0 3 12 dd_Ch_encode_12 rfl rfl (by decide) kw_95 rfl ?_
  refine gd_call hX (st := []) (wr := [gd_ob 4 h [.ref c, .ref sp, .ref ru, .ref md, .ref fe, .ref rd, .int wa], gd_ob 3 ru [.ref ra, .ref rb, .int (nI L.length)], gd_aJ K ra 64 rn', gd_aI K rb 64 rs', gd_ob 0 c [.ref ca, .long w], gd_aJ K ca 64 f, gd_aB K mr 712 fm]) (ct_Oc_clear _ K md mr mn) 15 dd_Ch_encode_15 (gd_nV hX (As := []) kw_134 kw_135 kw_136 (gd_sigOf (n := 0) kw_137 (by decide)) (by decide) 6 rfl rfl rfl rfl dd_Ch_encode_15) (gd_codeOf kw_137) (by decide) [6] [0, 1, 2, 3, 4, 5, 7] rfl rfl rfl rfl rfl (by decide) (Nat.le_of_ble_eq_true rfl) (Nat.le_of_ble_eq_true rfl) (Nat.le_of_ble_eq_true rfl) (Nat.le_of_ble_eq_true rfl) (fun v9 w9 h9 => ?_) (fun E9 w9 q9 h9 => h9.elim)
  obtain ⟨rfl, rfl⟩ := h9
  refine gd_wsp [gd_ob 4 h [.ref c, .ref sp, .ref ru, .ref md, .ref fe, .ref rd, .int wa], gd_ob 3 ru [.ref ra, .ref rb, .int (nI L.length)], gd_aJ K ra 64 rn', gd_aI K rb 64 rs', gd_ob 0 c [.ref ca, .long w], gd_aJ K ca 64 f, gd_ob 1 md [.ref mr, .int (nI 0)], gd_aB K mr 712 fm] [0, 1, 2, 3, 4, 5, 7, 6] rfl rfl rfl ?_
  show gd_W X K 0 0 [gd_ob 4 h [.ref c, .ref sp, .ref ru, .ref md, .ref fe, .ref rd, .int wa], gd_ob 3 ru [.ref ra, .ref rb, .int (nI L.length)], gd_aJ K ra 64 rn', gd_aI K rb 64 rs', gd_ob 0 c [.ref ca, .long w], gd_aJ K ca 64 f, gd_ob 1 md [.ref mr, .int (nI 0)], gd_aB K mr 712 fm] [(0, .ref h)] [] 18
  have loop2 : ∀ (m r : Nat) (fm : Nat → Int32), m + r = L.length → ch_B fm (ch_mask w ++ ch_octs (L.drop (L.length - r))) → gd_W X K 0 0 [gd_ob 4 h [.ref c, .ref sp, .ref ru, .ref md, .ref fe, .ref rd, .int wa], gd_ob 3 ru [.ref ra, .ref rb, .int (nI L.length)], gd_aJ K ra 64 rn', gd_aI K rb 64 rs', gd_ob 0 c [.ref ca, .long w], gd_aJ K ca 64 f, gd_ob 1 md [.ref mr, .int (nI (ch_mask w ++ ch_octs (L.drop (L.length - r))).length)], gd_aB K mr 712 fm] [(0, .ref h), (1, .int (nI r))] [] 54 := by
    intro m
    induction m with
    | zero =>
      intro r fm hr hB
      obtain rfl : r = L.length := by omega
      have e9 : L.drop (L.length - L.length) = L := by rw [Nat.sub_self]; rfl
      rw [e9, hcode] at hB ⊢
      refine gd_iload_n hX 54 dd_Ch_encode_54 rfl ?_
      refine gd_aload_n hX 55 dd_Ch_encode_55 rfl ?_
      refine gd_get hX inC_Ch 0 2 56 dd_Ch_encode_56 rfl rfl (by decide) kw_94 rfl ?_
      refine gd_call hX (st := [.int (nI L.length)]) (wr := [gd_ob 4 h [.ref c, .ref sp, .ref ru, .ref md, .ref fe, .ref rd, .int wa], gd_aJ K ra 64 rn', gd_aI K rb 64 rs', gd_ob 0 c [.ref ca, .long w], gd_aJ K ca 64 f, gd_ob 1 md [.ref mr, .int (nI (ch_code w f).length)], gd_aB K mr 712 fm]) (ct_Ru_many _ K ru ra rb (nI L.length)) 59 dd_Ch_encode_59 (gd_nV hX (As := []) kw_146 kw_147 kw_148 (gd_sigOf (n := 0) kw_149 (by decide)) (by decide) 1 rfl rfl rfl rfl dd_Ch_encode_59) (gd_codeOf kw_149) (by decide) [1] [0, 2, 3, 4, 5, 6, 7] rfl rfl rfl rfl rfl (by decide) (Nat.le_of_ble_eq_true rfl) (Nat.le_of_ble_eq_true rfl) (Nat.le_of_ble_eq_true rfl) (Nat.le_of_ble_eq_true rfl) (fun v9 w9 h9 => ?_) (fun E9 w9 q9 h9 => h9.elim)
      obtain ⟨rfl, rfl⟩ := h9
      refine gd_wsp [gd_ob 4 h [.ref c, .ref sp, .ref ru, .ref md, .ref fe, .ref rd, .int wa], gd_ob 3 ru [.ref ra, .ref rb, .int (nI L.length)], gd_aJ K ra 64 rn', gd_aI K rb 64 rs', gd_ob 0 c [.ref ca, .long w], gd_aJ K ca 64 f, gd_ob 1 md [.ref mr, .int (nI (ch_code w f).length)], gd_aB K mr 712 fm] [0, 7, 1, 2, 3, 4, 5, 6] rfl rfl rfl ?_
      show gd_W X K 0 0 [gd_ob 4 h [.ref c, .ref sp, .ref ru, .ref md, .ref fe, .ref rd, .int wa], gd_ob 3 ru [.ref ra, .ref rb, .int (nI L.length)], gd_aJ K ra 64 rn', gd_aI K rb 64 rs', gd_ob 0 c [.ref ca, .long w], gd_aJ K ca 64 f, gd_ob 1 md [.ref mr, .int (nI (ch_code w f).length)], gd_aB K mr 712 fm] [(0, .ref h), (1, .int (nI L.length))] [.int (nI L.length), .int (nI L.length)] 62
      refine gd_icmp_ge hX 62 101 dd_Ch_encode_62 (by decide) (fun h1 => ?_) (fun h1 => ?_)
      · skip
        refine gd_aload_n hX 101 dd_Ch_encode_101 rfl ?_
        refine gd_get hX inC_Ch 0 3 102 dd_Ch_encode_102 rfl rfl (by decide) kw_95 rfl ?_
        refine gd_call hX (st := []) (wr := [gd_ob 4 h [.ref c, .ref sp, .ref ru, .ref md, .ref fe, .ref rd, .int wa], gd_ob 3 ru [.ref ra, .ref rb, .int (nI L.length)], gd_aJ K ra 64 rn', gd_aI K rb 64 rs', gd_ob 0 c [.ref ca, .long w], gd_aJ K ca 64 f, gd_aB K mr 712 fm]) (ct_Oc_length _ K md mr (nI (ch_code w f).length)) 105 dd_Ch_encode_105 (gd_nV hX (As := []) kw_164 kw_165 kw_166 (gd_sigOf (n := 0) kw_167 (by decide)) (by decide) 6 rfl rfl rfl rfl dd_Ch_encode_105) (gd_codeOf kw_167) (by decide) [6] [0, 1, 2, 3, 4, 5, 7] rfl rfl rfl rfl rfl (by decide) (Nat.le_of_ble_eq_true rfl) (Nat.le_of_ble_eq_true rfl) (Nat.le_of_ble_eq_true rfl) (Nat.le_of_ble_eq_true rfl) (fun v9 w9 h9 => ?_) (fun E9 w9 q9 h9 => h9.elim)
        obtain ⟨rfl, rfl⟩ := h9
        refine gd_wsp [gd_ob 4 h [.ref c, .ref sp, .ref ru, .ref md, .ref fe, .ref rd, .int wa], gd_ob 3 ru [.ref ra, .ref rb, .int (nI L.length)], gd_aJ K ra 64 rn', gd_aI K rb 64 rs', gd_ob 0 c [.ref ca, .long w], gd_aJ K ca 64 f, gd_ob 1 md [.ref mr, .int (nI (ch_code w f).length)], gd_aB K mr 712 fm] [0, 1, 2, 3, 4, 5, 7, 6] rfl rfl rfl ?_
        show gd_W X K 0 0 [gd_ob 4 h [.ref c, .ref sp, .ref ru, .ref md, .ref fe, .ref rd, .int wa], gd_ob 3 ru [.ref ra, .ref rb, .int (nI L.length)], gd_aJ K ra 64 rn', gd_aI K rb 64 rs', gd_ob 0 c [.ref ca, .long w], gd_aJ K ca 64 f, gd_ob 1 md [.ref mr, .int (nI (ch_code w f).length)], gd_aB K mr 712 fm] [(0, .ref h), (1, .int (nI L.length))] [.int (nI (ch_code w f).length)] 108
        exact gd_iret hX hE 108 dd_Ch_encode_108 ⟨rfl, rn', rs', fm, by rw [← hL], hB⟩
      · skip
        exact absurd (Int32.le_refl _) h1
    | succ m ih =>
      intro r fm hr hB
      have hlt : r < L.length := by omega
      have hs := ch_octs_step hlt
      have hq := ch_R_step hR hlt
      have hz : (ch_octs (L.drop (L.length - (r + 1)))).length ≤ 704 := by have h7 := ch_octs_len (L.drop (L.length - (r + 1))); rw [List.length_drop] at h7; omega
      rw [hs, List.length_append, List.length_cons] at hz
      refine gd_iload_n hX 54 dd_Ch_encode_54 rfl ?_
      refine gd_aload_n hX 55 dd_Ch_encode_55 rfl ?_
      refine gd_get hX inC_Ch 0 2 56 dd_Ch_encode_56 rfl rfl (by decide) kw_94 rfl ?_
      refine gd_call hX (st := [.int (nI r)]) (wr := [gd_ob 4 h [.ref c, .ref sp, .ref ru, .ref md, .ref fe, .ref rd, .int wa], gd_aJ K ra 64 rn', gd_aI K rb 64 rs', gd_ob 0 c [.ref ca, .long w], gd_aJ K ca 64 f, gd_ob 1 md [.ref mr, .int (nI (ch_mask w ++ ch_octs (L.drop (L.length - r))).length)], gd_aB K mr 712 fm]) (ct_Ru_many _ K ru ra rb (nI L.length)) 59 dd_Ch_encode_59 (gd_nV hX (As := []) kw_146 kw_147 kw_148 (gd_sigOf (n := 0) kw_149 (by decide)) (by decide) 1 rfl rfl rfl rfl dd_Ch_encode_59) (gd_codeOf kw_149) (by decide) [1] [0, 2, 3, 4, 5, 6, 7] rfl rfl rfl rfl rfl (by decide) (Nat.le_of_ble_eq_true rfl) (Nat.le_of_ble_eq_true rfl) (Nat.le_of_ble_eq_true rfl) (Nat.le_of_ble_eq_true rfl) (fun v9 w9 h9 => ?_) (fun E9 w9 q9 h9 => h9.elim)
      obtain ⟨rfl, rfl⟩ := h9
      refine gd_wsp [gd_ob 4 h [.ref c, .ref sp, .ref ru, .ref md, .ref fe, .ref rd, .int wa], gd_ob 3 ru [.ref ra, .ref rb, .int (nI L.length)], gd_aJ K ra 64 rn', gd_aI K rb 64 rs', gd_ob 0 c [.ref ca, .long w], gd_aJ K ca 64 f, gd_ob 1 md [.ref mr, .int (nI (ch_mask w ++ ch_octs (L.drop (L.length - r))).length)], gd_aB K mr 712 fm] [0, 7, 1, 2, 3, 4, 5, 6] rfl rfl rfl ?_
      show gd_W X K 0 0 [gd_ob 4 h [.ref c, .ref sp, .ref ru, .ref md, .ref fe, .ref rd, .int wa], gd_ob 3 ru [.ref ra, .ref rb, .int (nI L.length)], gd_aJ K ra 64 rn', gd_aI K rb 64 rs', gd_ob 0 c [.ref ca, .long w], gd_aJ K ca 64 f, gd_ob 1 md [.ref mr, .int (nI (ch_mask w ++ ch_octs (L.drop (L.length - r))).length)], gd_aB K mr 712 fm] [(0, .ref h), (1, .int (nI r))] [.int (nI L.length), .int (nI r)] 62
      refine gd_icmp_ge hX 62 101 dd_Ch_encode_62 (by decide) (fun h1 => ?_) (fun h1 => ?_)
      · skip
        exact absurd ((nI_leI (by omega) (by omega)).mp h1) (by omega)
      · skip
        refine gd_aload_n hX 65 dd_Ch_encode_65 rfl ?_
        refine gd_get hX inC_Ch 0 3 66 dd_Ch_encode_66 rfl rfl (by decide) kw_95 rfl ?_
        refine gd_aload_n hX 69 dd_Ch_encode_69 rfl ?_
        refine gd_get hX inC_Ch 0 2 70 dd_Ch_encode_70 rfl rfl (by decide) kw_94 rfl ?_
        refine gd_iload_n hX 73 dd_Ch_encode_73 rfl ?_
        refine gd_call hX (st := [.ref md]) (wr := [gd_ob 4 h [.ref c, .ref sp, .ref ru, .ref md, .ref fe, .ref rd, .int wa], gd_aJ K ra 64 rn', gd_ob 0 c [.ref ca, .long w], gd_aJ K ca 64 f, gd_ob 1 md [.ref mr, .int (nI (ch_mask w ++ ch_octs (L.drop (L.length - r))).length)], gd_aB K mr 712 fm]) (ct_Ru_size _ K ru ra rb r (nI L.length) rs' (by omega)) 74 dd_Ch_encode_74 (gd_nV hX (As := [.int (nI r)]) kw_150 kw_151 kw_152 (gd_sigOf (n := 1) kw_153 (by decide)) (by decide) 1 rfl rfl rfl rfl dd_Ch_encode_74) (gd_codeOf kw_153) (by decide) [1, 3] [0, 2, 4, 5, 6, 7] rfl rfl rfl rfl rfl (by decide) (Nat.le_of_ble_eq_true rfl) (Nat.le_of_ble_eq_true rfl) (Nat.le_of_ble_eq_true rfl) (Nat.le_of_ble_eq_true rfl) (fun v9 w9 h9 => ?_) (fun E9 w9 q9 h9 => h9.elim)
        obtain ⟨rfl, rfl⟩ := h9
        refine gd_wsp [gd_ob 4 h [.ref c, .ref sp, .ref ru, .ref md, .ref fe, .ref rd, .int wa], gd_ob 3 ru [.ref ra, .ref rb, .int (nI L.length)], gd_aJ K ra 64 rn', gd_aI K rb 64 rs', gd_ob 0 c [.ref ca, .long w], gd_aJ K ca 64 f, gd_ob 1 md [.ref mr, .int (nI (ch_mask w ++ ch_octs (L.drop (L.length - r))).length)], gd_aB K mr 712 fm] [0, 6, 1, 7, 2, 3, 4, 5] rfl rfl rfl ?_
        show gd_W X K 0 0 [gd_ob 4 h [.ref c, .ref sp, .ref ru, .ref md, .ref fe, .ref rd, .int wa], gd_ob 3 ru [.ref ra, .ref rb, .int (nI L.length)], gd_aJ K ra 64 rn', gd_aI K rb 64 rs', gd_ob 0 c [.ref ca, .long w], gd_aJ K ca 64 f, gd_ob 1 md [.ref mr, .int (nI (ch_mask w ++ ch_octs (L.drop (L.length - r))).length)], gd_aB K mr 712 fm] [(0, .ref h), (1, .int (nI r))] [.int (rs' r), .ref md] 77
        refine gd_call hX (st := []) (wr := [gd_ob 4 h [.ref c, .ref sp, .ref ru, .ref md, .ref fe, .ref rd, .int wa], gd_ob 3 ru [.ref ra, .ref rb, .int (nI L.length)], gd_aJ K ra 64 rn', gd_aI K rb 64 rs', gd_ob 0 c [.ref ca, .long w], gd_aJ K ca 64 f]) (ct_Oc_add _ K md mr 712 fm (ch_mask w ++ ch_octs (L.drop (L.length - r))) _ (L.getD (L.length - 1 - r) (0, 0)).2 (by rw [List.length_append]; omega) (by decide) hB (by rw [hq.2]; exact ch_n255 (hsz _ (by omega)))) 77 dd_Ch_encode_77 (gd_nV hX (As := [.int (rs' r)]) kw_142 kw_143 kw_144 (gd_sigOf (n := 1) kw_145 (by decide)) (by decide) 6 rfl rfl rfl rfl dd_Ch_encode_77) (gd_codeOf kw_145) (by decide) [6, 7] [0, 1, 2, 3, 4, 5] rfl rfl rfl rfl rfl (by decide) (Nat.le_of_ble_eq_true rfl) (Nat.le_of_ble_eq_true rfl) (Nat.le_of_ble_eq_true rfl) (Nat.le_of_ble_eq_true rfl) (fun v9 w9 h9 => ?_) (fun E9 w9 q9 h9 => h9.elim)
        obtain ⟨rfl, f2, rfl, hB2⟩ := h9
        show gd_W X K 0 0 [gd_ob 4 h [.ref c, .ref sp, .ref ru, .ref md, .ref fe, .ref rd, .int wa], gd_ob 3 ru [.ref ra, .ref rb, .int (nI L.length)], gd_aJ K ra 64 rn', gd_aI K rb 64 rs', gd_ob 0 c [.ref ca, .long w], gd_aJ K ca 64 f, gd_ob 1 md [.ref mr, .int (nI ((ch_mask w ++ ch_octs (L.drop (L.length - r))) ++ [(L.getD (L.length - 1 - r) (0, 0)).2]).length)], gd_aB K mr 712 f2] [(0, .ref h), (1, .int (nI r))] [] 80
        refine gd_aload_n hX 80 dd_Ch_encode_80 rfl ?_
        refine gd_get hX inC_Ch 0 3 81 dd_Ch_encode_81 rfl rfl (by decide) kw_95 rfl ?_
        refine gd_aload_n hX 84 dd_Ch_encode_84 rfl ?_
        refine gd_get hX inC_Ch 0 2 85 dd_Ch_encode_85 rfl rfl (by decide) kw_94 rfl ?_
        refine gd_iload_n hX 88 dd_Ch_encode_88 rfl ?_
        refine gd_call hX (st := [.ref md]) (wr := [gd_ob 4 h [.ref c, .ref sp, .ref ru, .ref md, .ref fe, .ref rd, .int wa], gd_aI K rb 64 rs', gd_ob 0 c [.ref ca, .long w], gd_aJ K ca 64 f, gd_ob 1 md [.ref mr, .int (nI ((ch_mask w ++ ch_octs (L.drop (L.length - r))) ++ [(L.getD (L.length - 1 - r) (0, 0)).2]).length)], gd_aB K mr 712 f2]) (ct_Ru_folded _ K ru ra rb r (nI L.length) rn' (by omega)) 89 dd_Ch_encode_89 (gd_nV hX (As := [.int (nI r)]) kw_154 kw_155 kw_156 (gd_sigOf (n := 1) kw_157 (by decide)) (by decide) 1 rfl rfl rfl rfl dd_Ch_encode_89) (gd_codeOf kw_157) (by decide) [1, 2] [0, 3, 4, 5, 6, 7] rfl rfl rfl rfl rfl (by decide) (Nat.le_of_ble_eq_true rfl) (Nat.le_of_ble_eq_true rfl) (Nat.le_of_ble_eq_true rfl) (Nat.le_of_ble_eq_true rfl) (fun v9 w9 h9 => ?_) (fun E9 w9 q9 h9 => h9.elim)
        obtain ⟨rfl, rfl⟩ := h9
        refine gd_wsp [gd_ob 4 h [.ref c, .ref sp, .ref ru, .ref md, .ref fe, .ref rd, .int wa], gd_ob 3 ru [.ref ra, .ref rb, .int (nI L.length)], gd_aJ K ra 64 rn', gd_aI K rb 64 rs', gd_ob 0 c [.ref ca, .long w], gd_aJ K ca 64 f, gd_ob 1 md [.ref mr, .int (nI ((ch_mask w ++ ch_octs (L.drop (L.length - r))) ++ [(L.getD (L.length - 1 - r) (0, 0)).2]).length)], gd_aB K mr 712 f2] [0, 6, 7, 1, 2, 3, 4, 5] rfl rfl rfl ?_
        show gd_W X K 0 0 [gd_ob 4 h [.ref c, .ref sp, .ref ru, .ref md, .ref fe, .ref rd, .int wa], gd_ob 3 ru [.ref ra, .ref rb, .int (nI L.length)], gd_aJ K ra 64 rn', gd_aI K rb 64 rs', gd_ob 0 c [.ref ca, .long w], gd_aJ K ca 64 f, gd_ob 1 md [.ref mr, .int (nI ((ch_mask w ++ ch_octs (L.drop (L.length - r))) ++ [(L.getD (L.length - 1 - r) (0, 0)).2]).length)], gd_aB K mr 712 f2] [(0, .ref h), (1, .int (nI r))] [.long (ch_zz (rn' r - if r = 0 then 0 else rn' (r - 1))), .ref md] 92
        refine gd_call hX (st := []) (wr := [gd_ob 4 h [.ref c, .ref sp, .ref ru, .ref md, .ref fe, .ref rd, .int wa], gd_ob 3 ru [.ref ra, .ref rb, .int (nI L.length)], gd_aJ K ra 64 rn', gd_aI K rb 64 rs', gd_ob 0 c [.ref ca, .long w], gd_aJ K ca 64 f]) (ct_Ch_addNumber _ K md mr 712 f2 ((ch_mask w ++ ch_octs (L.drop (L.length - r))) ++ [(L.getD (L.length - 1 - r) (0, 0)).2]) _ (by rw [hq.1, List.length_append, List.length_append]; simp only [List.length_cons, List.length_nil]; omega) (by decide) hB2) 92 dd_Ch_encode_92 (gd_nS hX (As := [.ref md, .long (ch_zz (rn' r - if r = 0 then 0 else rn' (r - 1)))]) kw_158 kw_159 kw_13 (gd_nmOf kw_160) (gd_sigOf (n := 2) kw_160 (by decide)) (by decide) rfl rfl dd_Ch_encode_92) (gd_codeOf kw_160) (by decide) [6, 7] [0, 1, 2, 3, 4, 5] rfl rfl rfl rfl rfl (by decide) (Nat.le_of_ble_eq_true rfl) (Nat.le_of_ble_eq_true rfl) (Nat.le_of_ble_eq_true rfl) (Nat.le_of_ble_eq_true rfl) (fun v9 w9 h9 => ?_) (fun E9 w9 q9 h9 => h9.elim)
        obtain ⟨rfl, f3, rfl, hB3⟩ := h9
        show gd_W X K 0 0 [gd_ob 4 h [.ref c, .ref sp, .ref ru, .ref md, .ref fe, .ref rd, .int wa], gd_ob 3 ru [.ref ra, .ref rb, .int (nI L.length)], gd_aJ K ra 64 rn', gd_aI K rb 64 rs', gd_ob 0 c [.ref ca, .long w], gd_aJ K ca 64 f, gd_ob 1 md [.ref mr, .int (nI (((ch_mask w ++ ch_octs (L.drop (L.length - r))) ++ [(L.getD (L.length - 1 - r) (0, 0)).2]) ++ ch_num 9 (uN (ch_zz (rn' r - if r = 0 then 0 else rn' (r - 1))))).length)], gd_aB K mr 712 f3] [(0, .ref h), (1, .int (nI r))] [] 95
        have e5 : ((ch_mask w ++ ch_octs (L.drop (L.length - r))) ++ [(L.getD (L.length - 1 - r) (0, 0)).2]) ++ ch_num 9 (uN (ch_zz (rn' r - if r = 0 then 0 else rn' (r - 1)))) = ch_mask w ++ ch_octs (L.drop (L.length - (r + 1))) := by rw [hs, hq.1, List.append_assoc, List.append_assoc]; rfl
        rw [e5] at hB3 ⊢
        refine gd_iinc hX 1 [(1, .int (nI (r + 1))), (0, .ref h)] 95 dd_Ch_encode_95 rfl (gd_inc r) (by decide) rfl ?_
        refine gd_goto hX 98 54 dd_Ch_encode_98 (by decide) ?_
        refine gd_lvs [(0, .ref h), (1, .int (nI (r + 1)))] [1, 0] rfl ?_
        exact ih (r + 1) f3 (by omega) hB3
  have loop1 : ∀ (m i : Nat) (fm : Nat → Int32), m + i = 8 → ch_B fm ((ch_mask w).take i) → gd_W X K 0 0 [gd_ob 4 h [.ref c, .ref sp, .ref ru, .ref md, .ref fe, .ref rd, .int wa], gd_ob 3 ru [.ref ra, .ref rb, .int (nI L.length)], gd_aJ K ra 64 rn', gd_aI K rb 64 rs', gd_ob 0 c [.ref ca, .long w], gd_aJ K ca 64 f, gd_ob 1 md [.ref mr, .int (nI ((ch_mask w).take i).length)], gd_aB K mr 712 fm] [(0, .ref h), (1, .int (nI i))] [] 20 := by
    intro m
    induction m with
    | zero =>
      intro i fm hi hB
      obtain rfl : i = 8 := by omega
      refine gd_iload_n hX 20 dd_Ch_encode_20 rfl ?_
      refine gd_bipush hX 21 dd_Ch_encode_21 (v := 8) (by decide) ?_
      refine gd_icmp_ge hX 23 52 dd_Ch_encode_23 (by decide) (fun h1 => ?_) (fun h1 => ?_)
      · skip
        have e9 : (ch_mask w).take 8 = ch_mask w ++ ch_octs (L.drop (L.length - 0)) := by rw [ch_take_all (by omega), Nat.sub_zero, List.drop_length]; simp [ch_octs]
        rw [e9] at hB ⊢
        refine gd_iconst hX 52 dd_Ch_encode_52 (v := 0) (by decide) ?_
        refine gd_eqi (show (0 : Int32) = nI 0 from rfl) ?_
        refine gd_istore_n hX [(1, .int (nI 0)), (0, .ref h)] 53 dd_Ch_encode_53 rfl (by decide) rfl ?_
        refine gd_lvs [(0, .ref h), (1, .int (nI 0))] [1, 0] rfl ?_
        exact loop2 L.length 0 fm rfl hB
      · skip
        exact absurd (by decide) h1
    | succ m ih =>
      intro i fm hi hB
      have hle : ((ch_mask w).take i).length = i := by rw [List.length_take]; omega
      refine gd_iload_n hX 20 dd_Ch_encode_20 rfl ?_
      refine gd_bipush hX 21 dd_Ch_encode_21 (v := 8) (by decide) ?_
      refine gd_icmp_ge hX 23 52 dd_Ch_encode_23 (by decide) (fun h1 => ?_) (fun h1 => ?_)
      · skip
        exact absurd ((nI_leI (a := 8) (by decide) (by omega)).mp h1) (by omega)
      · skip
        refine gd_aload_n hX 26 dd_Ch_encode_26 rfl ?_
        refine gd_get hX inC_Ch 0 3 27 dd_Ch_encode_27 rfl rfl (by decide) kw_95 rfl ?_
        refine gd_aload_n hX 30 dd_Ch_encode_30 rfl ?_
        refine gd_get hX inC_Ch 0 0 31 dd_Ch_encode_31 rfl rfl (by decide) kw_92 rfl ?_
        refine gd_call hX (st := [.ref md]) (wr := [gd_ob 4 h [.ref c, .ref sp, .ref ru, .ref md, .ref fe, .ref rd, .int wa], gd_ob 3 ru [.ref ra, .ref rb, .int (nI L.length)], gd_aJ K ra 64 rn', gd_aI K rb 64 rs', gd_aJ K ca 64 f, gd_ob 1 md [.ref mr, .int (nI ((ch_mask w).take i).length)], gd_aB K mr 712 fm]) (ct_Cl_mask _ K c ca w) 34 dd_Ch_encode_34 (gd_nV hX (As := []) kw_138 kw_139 kw_140 (gd_sigOf (n := 0) kw_141 (by decide)) (by decide) 4 rfl rfl rfl rfl dd_Ch_encode_34) (gd_codeOf kw_141) (by decide) [4] [0, 1, 2, 3, 5, 6, 7] rfl rfl rfl rfl rfl (by decide) (Nat.le_of_ble_eq_true rfl) (Nat.le_of_ble_eq_true rfl) (Nat.le_of_ble_eq_true rfl) (Nat.le_of_ble_eq_true rfl) (fun v9 w9 h9 => ?_) (fun E9 w9 q9 h9 => h9.elim)
        obtain ⟨rfl, rfl⟩ := h9
        refine gd_wsp [gd_ob 4 h [.ref c, .ref sp, .ref ru, .ref md, .ref fe, .ref rd, .int wa], gd_ob 3 ru [.ref ra, .ref rb, .int (nI L.length)], gd_aJ K ra 64 rn', gd_aI K rb 64 rs', gd_ob 0 c [.ref ca, .long w], gd_aJ K ca 64 f, gd_ob 1 md [.ref mr, .int (nI ((ch_mask w).take i).length)], gd_aB K mr 712 fm] [0, 1, 2, 3, 7, 4, 5, 6] rfl rfl rfl ?_
        show gd_W X K 0 0 [gd_ob 4 h [.ref c, .ref sp, .ref ru, .ref md, .ref fe, .ref rd, .int wa], gd_ob 3 ru [.ref ra, .ref rb, .int (nI L.length)], gd_aJ K ra 64 rn', gd_aI K rb 64 rs', gd_ob 0 c [.ref ca, .long w], gd_aJ K ca 64 f, gd_ob 1 md [.ref mr, .int (nI ((ch_mask w).take i).length)], gd_aB K mr 712 fm] [(0, .ref h), (1, .int (nI i))] [.long w, .ref md] 37
        refine gd_bipush hX 37 dd_Ch_encode_37 (v := 8) (by decide) ?_
        refine gd_iload_n hX 39 dd_Ch_encode_39 rfl ?_
        refine gd_imul hX 40 dd_Ch_encode_40 ?_
        refine gd_eqi (show (8 * (nI i) : Int32) = nI (8 * i) from pk_mul 8 _) ?_
        refine gd_lushr hX 41 dd_Ch_encode_41 ?_
        refine gd_l2i hX 42 dd_Ch_encode_42 ?_
        refine gd_call hX (st := []) (wr := [gd_ob 4 h [.ref c, .ref sp, .ref ru, .ref md, .ref fe, .ref rd, .int wa], gd_ob 3 ru [.ref ra, .ref rb, .int (nI L.length)], gd_aJ K ra 64 rn', gd_aI K rb 64 rs', gd_ob 0 c [.ref ca, .long w], gd_aJ K ca 64 f]) (ct_Oc_add _ K md mr 712 fm ((ch_mask w).take i) _ (uN w / 256 ^ i % 256) (by omega) (by decide) hB (by rw [ch_low, uN_sk w (by omega), ch_pow8])) 43 dd_Ch_encode_43 (gd_nV hX (As := [.int (((w.toUInt64 >>> ((nI (8 * i)).toInt64.toUInt64 &&& Int64.toUInt64 63)).toInt64).toInt32)]) kw_142 kw_143 kw_144 (gd_sigOf (n := 1) kw_145 (by decide)) (by decide) 6 rfl rfl rfl rfl dd_Ch_encode_43) (gd_codeOf kw_145) (by decide) [6, 7] [0, 1, 2, 3, 4, 5] rfl rfl rfl rfl rfl (by decide) (Nat.le_of_ble_eq_true rfl) (Nat.le_of_ble_eq_true rfl) (Nat.le_of_ble_eq_true rfl) (Nat.le_of_ble_eq_true rfl) (fun v9 w9 h9 => ?_) (fun E9 w9 q9 h9 => h9.elim)
        obtain ⟨rfl, f2, rfl, hB2⟩ := h9
        show gd_W X K 0 0 [gd_ob 4 h [.ref c, .ref sp, .ref ru, .ref md, .ref fe, .ref rd, .int wa], gd_ob 3 ru [.ref ra, .ref rb, .int (nI L.length)], gd_aJ K ra 64 rn', gd_aI K rb 64 rs', gd_ob 0 c [.ref ca, .long w], gd_aJ K ca 64 f, gd_ob 1 md [.ref mr, .int (nI ((ch_mask w).take i ++ [uN w / 256 ^ i % 256]).length)], gd_aB K mr 712 f2] [(0, .ref h), (1, .int (nI i))] [] 46
        rw [← ch_mask_step w (by omega)] at hB2 ⊢
        refine gd_iinc hX 1 [(1, .int (nI (i + 1))), (0, .ref h)] 46 dd_Ch_encode_46 rfl (gd_inc i) (by decide) rfl ?_
        refine gd_goto hX 49 20 dd_Ch_encode_49 (by decide) ?_
        refine gd_lvs [(0, .ref h), (1, .int (nI (i + 1)))] [1, 0] rfl ?_
        exact ih (i + 1) f2 (by omega) hB2
  refine gd_iconst hX 18 dd_Ch_encode_18 (v := 0) (by decide) ?_
  refine gd_eqi (show (0 : Int32) = nI 0 from rfl) ?_
  refine gd_istore_n hX [(1, .int (nI 0)), (0, .ref h)] 19 dd_Ch_encode_19 rfl (by decide) rfl ?_
  refine gd_lvs [(0, .ref h), (1, .int (nI 0))] [1, 0] rfl ?_
  exact loop1 8 0 fm rfl (ch_B_nil _)
end
section
set_option maxRecDepth 100000 in
set_option maxHeartbeats 4000000 in
theorem ct_Ch_needCell (l : Launch) (K : gd_K) (hl : l.stackTraces = false) (k : Int32) : gd_M l yy_Ch_needCell bb_Ch_needCell 1 (none) [] 6 82 1 6 K [.int k] [] (fun v w1 => v = none ∧ w1 = [] ∧ ∃ j, j < 64 ∧ k = nI j) (fun E w1 => E = "java/lang/IndexOutOfBoundsException" ∧ w1 = [] ∧ (k < 0 ∨ 64 ≤ k)) := by
  refine gd_body (Nat.le_of_ble_eq_true rfl) (fun X hXl hin hE hX => ?_)
  refine gd_iload_n hX 0 dd_Ch_needCell_0 rfl ?_
  refine gd_if_lt hX 1 10 dd_Ch_needCell_1 (by decide) (fun h1 => ?_) (fun h1 => ?_)
  · skip
    exact gd_throw hX hE (by rw [hXl]; exact hl) (is := 135) (text := "there is no such cell") 10 tw_io (by decide) dd_Ch_needCell_10 dd_Ch_needCell_13 dd_Ch_needCell_14 dd_Ch_needCell_16 dd_Ch_needCell_19 (by decide) (Nat.le_of_ble_eq_true rfl) (Nat.le_of_ble_eq_true rfl) (Nat.le_of_ble_eq_true rfl) (Nat.le_of_ble_eq_true rfl) (Nat.le_of_ble_eq_true rfl) (Nat.le_of_ble_eq_true rfl) ⟨rfl, rfl, Or.inl h1⟩
  · skip
    refine gd_iload_n hX 4 dd_Ch_needCell_4 rfl ?_
    refine gd_bipush hX 5 dd_Ch_needCell_5 (v := 64) (by decide) ?_
    refine gd_icmp_lt hX 7 20 dd_Ch_needCell_7 (by decide) (fun h2 => ?_) (fun h2 => ?_)
    · skip
      refine gd_wide (a := 1) (b := 6) (by decide) (by decide) ?_
      obtain ⟨j, hj, rfl⟩ := ch_ix (n := 64) (by decide) h1 h2
      exact gd_vret hX hE 20 dd_Ch_needCell_20 ⟨rfl, rfl, j, hj, rfl⟩
    · skip
      exact gd_throw hX hE (by rw [hXl]; exact hl) (is := 135) (text := "there is no such cell") 10 tw_io (by decide) dd_Ch_needCell_10 dd_Ch_needCell_13 dd_Ch_needCell_14 dd_Ch_needCell_16 dd_Ch_needCell_19 (by decide) (Nat.le_of_ble_eq_true rfl) (Nat.le_of_ble_eq_true rfl) (Nat.le_of_ble_eq_true rfl) (Nat.le_of_ble_eq_true rfl) (Nat.le_of_ble_eq_true rfl) (Nat.le_of_ble_eq_true rfl) ⟨rfl, rfl, Or.inr (ch_nlt h2)⟩
set_option maxRecDepth 100000 in
set_option maxHeartbeats 4000000 in
theorem ct_Ch_put (l : Launch) (K : gd_K) (hl : l.stackTraces = false) (h c sp ru md fe rd : Nat) (wa : Int32) (ca : Nat) (w : Int64) (f : Nat → Int64) (k : Int32) (v : Int64) : gd_M l yy_Ch_put bb_Ch_put 4 (none) [] 7 94 1 6 K [.ref h, .int k, .long v] [gd_ob 4 h [.ref c, .ref sp, .ref ru, .ref md, .ref fe, .ref rd, .int wa], gd_ob 0 c [.ref ca, .long w], gd_aJ K ca 64 f] (fun v9 w1 => v9 = none ∧ ∃ j, j < 64 ∧ k = nI j ∧ w1 = [gd_ob 4 h [.ref c, .ref sp, .ref ru, .ref md, .ref fe, .ref rd, .int wa], gd_ob 0 c [.ref ca, .long (w ||| ((1 : Int64) <<< ((nI j).toInt64 &&& 63)))], gd_aJ K ca 64 (vp_updL f j v)]) (fun E w1 => E = "java/lang/IndexOutOfBoundsException" ∧ w1 = [gd_ob 4 h [.ref c, .ref sp, .ref ru, .ref md, .ref fe, .ref rd, .int wa], gd_ob 0 c [.ref ca, .long w], gd_aJ K ca 64 f] ∧ (k < 0 ∨ 64 ≤ k)) := by
  refine gd_body (Nat.le_of_ble_eq_true rfl) (fun X hXl hin hE hX => ?_)
  refine gd_iload_n hX 0 dd_Ch_put_0 rfl ?_
  refine gd_call hX (st := []) (wr := [gd_ob 4 h [.ref c, .ref sp, .ref ru, .ref md, .ref fe, .ref rd, .int wa], gd_ob 0 c [.ref ca, .long w], gd_aJ K ca 64 f]) (ct_Ch_needCell (gx_l X) K (by rw [hXl]; exact hl) k) 1 dd_Ch_put_1 (gd_nS hX (As := [.int k]) kw_180 kw_181 kw_13 (gd_nmOf kw_182) (gd_sigOf (n := 1) kw_182 (by decide)) (by decide) rfl rfl dd_Ch_put_1) (gd_codeOf kw_182) (by decide) [] [0, 1, 2] rfl rfl rfl rfl rfl (by decide) (Nat.le_of_ble_eq_true rfl) (Nat.le_of_ble_eq_true rfl) (Nat.le_of_ble_eq_true rfl) (Nat.le_of_ble_eq_true rfl) (fun v9 w9 h9 => ?_) (fun E9 w9 q9 hx9 => ?_)
  · skip
    obtain ⟨rfl, rfl, j, hj, rfl⟩ := h9
    show gd_W X K 1 6 [gd_ob 4 h [.ref c, .ref sp, .ref ru, .ref md, .ref fe, .ref rd, .int wa], gd_ob 0 c [.ref ca, .long w], gd_aJ K ca 64 f] [(0, .ref h), (1, .int (nI j)), (2, .long v)] [] 4
    refine gd_aload_n hX 4 dd_Ch_put_4 rfl ?_
    refine gd_get hX inC_Ch 0 0 5 dd_Ch_put_5 rfl rfl (by decide) kw_92 rfl ?_
    refine gd_iload_n hX 8 dd_Ch_put_8 rfl ?_
    refine gd_lload_n hX 9 dd_Ch_put_9 rfl ?_
    refine gd_call hX (st := []) (wr := [gd_ob 4 h [.ref c, .ref sp, .ref ru, .ref md, .ref fe, .ref rd, .int wa]]) (ct_Cl_fill _ K c ca j w f v hj) 10 dd_Ch_put_10 (gd_nV hX (As := [.int (nI j), .long v]) kw_250 kw_251 kw_252 (gd_sigOf (n := 2) kw_253 (by decide)) (by decide) 1 rfl rfl rfl rfl dd_Ch_put_10) (gd_codeOf kw_253) (by decide) [1, 2] [0] rfl rfl rfl rfl rfl (by decide) (Nat.le_of_ble_eq_true rfl) (Nat.le_of_ble_eq_true rfl) (Nat.le_of_ble_eq_true rfl) (Nat.le_of_ble_eq_true rfl) (fun v9 w9 h9 => ?_) (fun E9 w9 q9 h9 => h9.elim)
    obtain ⟨rfl, rfl⟩ := h9
    show gd_W X K 1 6 [gd_ob 4 h [.ref c, .ref sp, .ref ru, .ref md, .ref fe, .ref rd, .int wa], gd_ob 0 c [.ref ca, .long (w ||| ((1 : Int64) <<< ((nI j).toInt64 &&& 63)))], gd_aJ K ca 64 (vp_updL f j v)] [(0, .ref h), (1, .int (nI j)), (2, .long v)] [] 13
    exact gd_vret hX hE 13 dd_Ch_put_13 ⟨rfl, j, hj, rfl, rfl⟩
  · skip
    obtain ⟨rfl, rfl, hx⟩ := hx9
    exact gd_out hX hE (by decide) ⟨rfl, rfl, hx⟩
set_option maxRecDepth 100000 in
set_option maxHeartbeats 4000000 in
theorem ct_Ch_get (l : Launch) (K : gd_K) (hl : l.stackTraces = false) (h c sp ru md fe rd : Nat) (wa : Int32) (ca : Nat) (w : Int64) (f : Nat → Int64) (k : Int32) : gd_M l yy_Ch_get bb_Ch_get 2 (some .long) [] 7 94 2 12 K [.ref h, .int k] [gd_ob 4 h [.ref c, .ref sp, .ref ru, .ref md, .ref fe, .ref rd, .int wa], gd_ob 0 c [.ref ca, .long w], gd_aJ K ca 64 f] (fun v9 w1 => ∃ j, j < 64 ∧ k = nI j ∧ ch_bit w j = true ∧ v9 = some (.long (f j)) ∧ w1 = [gd_ob 4 h [.ref c, .ref sp, .ref ru, .ref md, .ref fe, .ref rd, .int wa], gd_ob 0 c [.ref ca, .long w], gd_aJ K ca 64 f]) (fun E w1 => (E = "java/lang/IndexOutOfBoundsException" ∧ w1 = [gd_ob 4 h [.ref c, .ref sp, .ref ru, .ref md, .ref fe, .ref rd, .int wa], gd_ob 0 c [.ref ca, .long w], gd_aJ K ca 64 f] ∧ (k < 0 ∨ 64 ≤ k)) ∨ (E = "java/lang/UnsupportedOperationException" ∧ w1 = [gd_ob 4 h [.ref c, .ref sp, .ref ru, .ref md, .ref fe, .ref rd, .int wa], gd_ob 0 c [.ref ca, .long w], gd_aJ K ca 64 f] ∧ ∃ j, j < 64 ∧ k = nI j ∧ ch_bit w j = false)) := by
  refine gd_body (Nat.le_of_ble_eq_true rfl) (fun X hXl hin hE hX => ?_)
  refine gd_iload_n hX 0 dd_Ch_get_0 rfl ?_
  refine gd_call hX (st := []) (wr := [gd_ob 4 h [.ref c, .ref sp, .ref ru, .ref md, .ref fe, .ref rd, .int wa], gd_ob 0 c [.ref ca, .long w], gd_aJ K ca 64 f]) (ct_Ch_needCell (gx_l X) K (by rw [hXl]; exact hl) k) 1 dd_Ch_get_1 (gd_nS hX (As := [.int k]) kw_180 kw_181 kw_13 (gd_nmOf kw_182) (gd_sigOf (n := 1) kw_182 (by decide)) (by decide) rfl rfl dd_Ch_get_1) (gd_codeOf kw_182) (by decide) [] [0, 1, 2] rfl rfl rfl rfl rfl (by decide) (Nat.le_of_ble_eq_true rfl) (Nat.le_of_ble_eq_true rfl) (Nat.le_of_ble_eq_true rfl) (Nat.le_of_ble_eq_true rfl) (fun v9 w9 h9 => ?_) (fun E9 w9 q9 hx9 => ?_)
  · skip
    obtain ⟨rfl, rfl, j, hj, rfl⟩ := h9
    show gd_W X K 1 6 [gd_ob 4 h [.ref c, .ref sp, .ref ru, .ref md, .ref fe, .ref rd, .int wa], gd_ob 0 c [.ref ca, .long w], gd_aJ K ca 64 f] [(0, .ref h), (1, .int (nI j))] [] 4
    refine gd_aload_n hX 4 dd_Ch_get_4 rfl ?_
    refine gd_get hX inC_Ch 0 0 5 dd_Ch_get_5 rfl rfl (by decide) kw_92 rfl ?_
    refine gd_iload_n hX 8 dd_Ch_get_8 rfl ?_
    refine gd_call hX (st := []) (wr := [gd_ob 4 h [.ref c, .ref sp, .ref ru, .ref md, .ref fe, .ref rd, .int wa], gd_aJ K ca 64 f]) (ct_Cl_isFull _ K c ca j w hj) 9 dd_Ch_get_9 (gd_nV hX (As := [.int (nI j)]) kw_274 kw_123 kw_124 (gd_sigOf (n := 1) kw_125 (by decide)) (by decide) 1 rfl rfl rfl rfl dd_Ch_get_9) (gd_codeOf kw_125) (by decide) [1] [0, 2] rfl rfl rfl rfl rfl (by decide) (Nat.le_of_ble_eq_true rfl) (Nat.le_of_ble_eq_true rfl) (Nat.le_of_ble_eq_true rfl) (Nat.le_of_ble_eq_true rfl) (fun v9 w9 h9 => ?_) (fun E9 w9 q9 h9 => h9.elim)
    obtain ⟨rfl, rfl⟩ := h9
    refine gd_wsp [gd_ob 4 h [.ref c, .ref sp, .ref ru, .ref md, .ref fe, .ref rd, .int wa], gd_ob 0 c [.ref ca, .long w], gd_aJ K ca 64 f] [0, 2, 1] rfl rfl rfl ?_
    show gd_W X K 1 6 [gd_ob 4 h [.ref c, .ref sp, .ref ru, .ref md, .ref fe, .ref rd, .int wa], gd_ob 0 c [.ref ca, .long w], gd_aJ K ca 64 f] [(0, .ref h), (1, .int (nI j))] [.int (if ch_bit w j then 1 else 0)] 12
    refine gd_if_ne hX 12 25 dd_Ch_get_12 (by decide) (fun h2 => ?_) (fun h2 => ?_)
    · skip
      have h3 : ch_bit w j = true := by cases hb : ch_bit w j <;> simp_all
      refine gd_aload_n hX 25 dd_Ch_get_25 rfl ?_
      refine gd_get hX inC_Ch 0 0 26 dd_Ch_get_26 rfl rfl (by decide) kw_92 rfl ?_
      refine gd_iload_n hX 29 dd_Ch_get_29 rfl ?_
      refine gd_call hX (st := []) (wr := [gd_ob 4 h [.ref c, .ref sp, .ref ru, .ref md, .ref fe, .ref rd, .int wa]]) (ct_Cl_number _ K c ca j w f hj) 30 dd_Ch_get_30 (gd_nV hX (As := [.int (nI j)]) kw_291 kw_127 kw_128 (gd_sigOf (n := 1) kw_129 (by decide)) (by decide) 1 rfl rfl rfl rfl dd_Ch_get_30) (gd_codeOf kw_129) (by decide) [1, 2] [0] rfl rfl rfl rfl rfl (by decide) (Nat.le_of_ble_eq_true rfl) (Nat.le_of_ble_eq_true rfl) (Nat.le_of_ble_eq_true rfl) (Nat.le_of_ble_eq_true rfl) (fun v9 w9 h9 => ?_) (fun E9 w9 q9 h9 => h9.elim)
      obtain ⟨rfl, rfl⟩ := h9
      show gd_W X K 1 6 [gd_ob 4 h [.ref c, .ref sp, .ref ru, .ref md, .ref fe, .ref rd, .int wa], gd_ob 0 c [.ref ca, .long w], gd_aJ K ca 64 f] [(0, .ref h), (1, .int (nI j))] [.long (f j)] 33
      refine gd_wide (a := 2) (b := 12) (by decide) (by decide) ?_
      exact gd_lret hX hE 33 dd_Ch_get_33 ⟨j, hj, rfl, h3, rfl, rfl⟩
    · skip
      have h3 : ch_bit w j = false := by cases hb : ch_bit w j <;> simp_all
      exact gd_throw hX hE (by rw [hXl]; exact hl) (is := 65) (text := "the cell is empty") 15 tw_uo (by decide) dd_Ch_get_15 dd_Ch_get_18 dd_Ch_get_19 dd_Ch_get_21 dd_Ch_get_24 (by decide) (Nat.le_of_ble_eq_true rfl) (Nat.le_of_ble_eq_true rfl) (Nat.le_of_ble_eq_true rfl) (Nat.le_of_ble_eq_true rfl) (Nat.le_of_ble_eq_true rfl) (Nat.le_of_ble_eq_true rfl) (Or.inr ⟨rfl, rfl, j, hj, rfl, h3⟩)
  · skip
    obtain ⟨rfl, rfl, hx⟩ := hx9
    refine gd_wideT (a := 2) (b := 12) (by decide) (by decide) ?_
    exact gd_out hX hE (by decide) (Or.inl ⟨rfl, rfl, hx⟩)
set_option maxRecDepth 100000 in
set_option maxHeartbeats 4000000 in
theorem ct_Ch_erase (l : Launch) (K : gd_K) (hl : l.stackTraces = false) (h c sp ru md fe rd : Nat) (wa : Int32) (ca : Nat) (w : Int64) (f : Nat → Int64) (k k2 : Int32) : gd_M l yy_Ch_erase bb_Ch_erase 4 (none) [] 7 94 2 12 K [.ref h, .int k, .int k2] [gd_ob 4 h [.ref c, .ref sp, .ref ru, .ref md, .ref fe, .ref rd, .int wa], gd_ob 0 c [.ref ca, .long w], gd_aJ K ca 64 f] (fun v9 w1 => v9 = none ∧ ∃ a b, a < 64 ∧ b < 64 ∧ k = nI a ∧ k2 = nI b ∧ w1 = [gd_ob 4 h [.ref c, .ref sp, .ref ru, .ref md, .ref fe, .ref rd, .int wa], gd_ob 0 c [.ref ca, .long (ch_er w a (b + 1 - a))], gd_aJ K ca 64 f]) (fun E w1 => E = "java/lang/IndexOutOfBoundsException" ∧ w1 = [gd_ob 4 h [.ref c, .ref sp, .ref ru, .ref md, .ref fe, .ref rd, .int wa], gd_ob 0 c [.ref ca, .long w], gd_aJ K ca 64 f] ∧ ((k < 0 ∨ 64 ≤ k) ∨ (k2 < 0 ∨ 64 ≤ k2))) := by
  refine gd_body (Nat.le_of_ble_eq_true rfl) (fun X hXl hin hE hX => ?_)
  refine gd_iload_n hX 0 dd_Ch_erase_0 rfl ?_
  refine gd_call hX (st := []) (wr := [gd_ob 4 h [.ref c, .ref sp, .ref ru, .ref md, .ref fe, .ref rd, .int wa], gd_ob 0 c [.ref ca, .long w], gd_aJ K ca 64 f]) (ct_Ch_needCell (gx_l X) K (by rw [hXl]; exact hl) k) 1 dd_Ch_erase_1 (gd_nS hX (As := [.int k]) kw_180 kw_181 kw_13 (gd_nmOf kw_182) (gd_sigOf (n := 1) kw_182 (by decide)) (by decide) rfl rfl dd_Ch_erase_1) (gd_codeOf kw_182) (by decide) [] [0, 1, 2] rfl rfl rfl rfl rfl (by decide) (Nat.le_of_ble_eq_true rfl) (Nat.le_of_ble_eq_true rfl) (Nat.le_of_ble_eq_true rfl) (Nat.le_of_ble_eq_true rfl) (fun v9 w9 h9 => ?_) (fun E9 w9 q9 hx9 => ?_)
  · skip
    obtain ⟨rfl, rfl, a, ha, rfl⟩ := h9
    show gd_W X K 1 6 [gd_ob 4 h [.ref c, .ref sp, .ref ru, .ref md, .ref fe, .ref rd, .int wa], gd_ob 0 c [.ref ca, .long w], gd_aJ K ca 64 f] [(0, .ref h), (1, .int (nI a)), (2, .int k2)] [] 4
    refine gd_iload_n hX 4 dd_Ch_erase_4 rfl ?_
    refine gd_call hX (st := []) (wr := [gd_ob 4 h [.ref c, .ref sp, .ref ru, .ref md, .ref fe, .ref rd, .int wa], gd_ob 0 c [.ref ca, .long w], gd_aJ K ca 64 f]) (ct_Ch_needCell (gx_l X) K (by rw [hXl]; exact hl) k2) 5 dd_Ch_erase_5 (gd_nS hX (As := [.int k2]) kw_180 kw_181 kw_13 (gd_nmOf kw_182) (gd_sigOf (n := 1) kw_182 (by decide)) (by decide) rfl rfl dd_Ch_erase_5) (gd_codeOf kw_182) (by decide) [] [0, 1, 2] rfl rfl rfl rfl rfl (by decide) (Nat.le_of_ble_eq_true rfl) (Nat.le_of_ble_eq_true rfl) (Nat.le_of_ble_eq_true rfl) (Nat.le_of_ble_eq_true rfl) (fun v9 w9 h9 => ?_) (fun E9 w9 q9 hx9 => ?_)
    · skip
      obtain ⟨rfl, rfl, b, hb, rfl⟩ := h9
      show gd_W X K 2 12 [gd_ob 4 h [.ref c, .ref sp, .ref ru, .ref md, .ref fe, .ref rd, .int wa], gd_ob 0 c [.ref ca, .long w], gd_aJ K ca 64 f] [(0, .ref h), (1, .int (nI a)), (2, .int (nI b))] [] 8
      have loop : ∀ (m n : Nat), m + (a + n) = max a (b + 1) → gd_W X K 2 12 [gd_ob 4 h [.ref c, .ref sp, .ref ru, .ref md, .ref fe, .ref rd, .int wa], gd_ob 0 c [.ref ca, .long (ch_er w a n)], gd_aJ K ca 64 f] [(0, .ref h), (1, .int (nI a)), (2, .int (nI b)), (3, .int (nI (a + n)))] [] 10 := by
        intro m
        induction m with
        | zero =>
          intro n hn
          refine gd_iload_n hX 10 dd_Ch_erase_10 rfl ?_
          refine gd_iload_n hX 11 dd_Ch_erase_11 rfl ?_
          refine gd_icmp_gt hX 12 29 dd_Ch_erase_12 (by decide) (fun h1 => ?_) (fun h1 => ?_)
          · skip
            have e9 : b + 1 - a = n := by omega
            exact gd_vret hX hE 29 dd_Ch_erase_29 ⟨rfl, a, b, ha, hb, rfl, rfl, by rw [e9]⟩
          · skip
            exact absurd ((nI_ltI (by omega) (by omega)).mpr (by omega)) h1
        | succ m ih =>
          intro n hn
          refine gd_iload_n hX 10 dd_Ch_erase_10 rfl ?_
          refine gd_iload_n hX 11 dd_Ch_erase_11 rfl ?_
          refine gd_icmp_gt hX 12 29 dd_Ch_erase_12 (by decide) (fun h1 => ?_) (fun h1 => ?_)
          · skip
            exact absurd ((nI_ltI (by omega) (by omega)).mp h1) (by omega)
          · skip
            refine gd_aload_n hX 15 dd_Ch_erase_15 rfl ?_
            refine gd_get hX inC_Ch 0 0 16 dd_Ch_erase_16 rfl rfl (by decide) kw_92 rfl ?_
            refine gd_iload_n hX 19 dd_Ch_erase_19 rfl ?_
            refine gd_call hX (st := []) (wr := [gd_ob 4 h [.ref c, .ref sp, .ref ru, .ref md, .ref fe, .ref rd, .int wa], gd_aJ K ca 64 f]) (ct_Cl_clear _ K c ca (a + n) (ch_er w a n)) 20 dd_Ch_erase_20 (gd_nV hX (As := [.int (nI (a + n))]) kw_261 kw_262 kw_263 (gd_sigOf (n := 1) kw_264 (by decide)) (by decide) 1 rfl rfl rfl rfl dd_Ch_erase_20) (gd_codeOf kw_264) (by decide) [1] [0, 2] rfl rfl rfl rfl rfl (by decide) (Nat.le_of_ble_eq_true rfl) (Nat.le_of_ble_eq_true rfl) (Nat.le_of_ble_eq_true rfl) (Nat.le_of_ble_eq_true rfl) (fun v9 w9 h9 => ?_) (fun E9 w9 q9 h9 => h9.elim)
            obtain ⟨rfl, rfl⟩ := h9
            refine gd_wsp [gd_ob 4 h [.ref c, .ref sp, .ref ru, .ref md, .ref fe, .ref rd, .int wa], gd_ob 0 c [.ref ca, .long (ch_er w a (n + 1))], gd_aJ K ca 64 f] [0, 2, 1] rfl rfl rfl ?_
            show gd_W X K 2 12 [gd_ob 4 h [.ref c, .ref sp, .ref ru, .ref md, .ref fe, .ref rd, .int wa], gd_ob 0 c [.ref ca, .long (ch_er w a (n + 1))], gd_aJ K ca 64 f] [(0, .ref h), (1, .int (nI a)), (2, .int (nI b)), (3, .int (nI (a + n)))] [] 23
            refine gd_iinc hX 3 [(3, .int (nI ((a + n) + 1))), (0, .ref h), (1, .int (nI a)), (2, .int (nI b))] 23 dd_Ch_erase_23 rfl (gd_inc (a + n)) (by decide) rfl ?_
            refine gd_goto hX 26 10 dd_Ch_erase_26 (by decide) ?_
            show gd_W X K 2 12 [gd_ob 4 h [.ref c, .ref sp, .ref ru, .ref md, .ref fe, .ref rd, .int wa], gd_ob 0 c [.ref ca, .long (ch_er w a (n + 1))], gd_aJ K ca 64 f] [(3, .int (nI ((a + n) + 1))), (0, .ref h), (1, .int (nI a)), (2, .int (nI b))] [] 10
            refine gd_lvs [(0, .ref h), (1, .int (nI a)), (2, .int (nI b)), (3, .int (nI ((a + n) + 1)))] [1, 2, 3, 0] rfl ?_
            exact ih (n + 1) (by omega)
      refine gd_iload_n hX 8 dd_Ch_erase_8 rfl ?_
      refine gd_eqi (show (nI a : Int32) = nI (a + 0) from rfl) ?_
      refine gd_istore_n hX [(3, .int (nI (a + 0))), (0, .ref h), (1, .int (nI a)), (2, .int (nI b))] 9 dd_Ch_erase_9 rfl (by decide) rfl ?_
      refine gd_lvs [(0, .ref h), (1, .int (nI a)), (2, .int (nI b)), (3, .int (nI (a + 0)))] [1, 2, 3, 0] rfl ?_
      exact loop (max a (b + 1) - a) 0 (by omega)
    · skip
      obtain ⟨rfl, rfl, hx⟩ := hx9
      exact gd_out hX hE (by decide) ⟨rfl, rfl, Or.inr hx⟩
  · skip
    obtain ⟨rfl, rfl, hx⟩ := hx9
    refine gd_wideT (a := 2) (b := 12) (by decide) (by decide) ?_
    exact gd_out hX hE (by decide) ⟨rfl, rfl, Or.inl hx⟩
set_option maxRecDepth 100000 in
set_option maxHeartbeats 4000000 in
theorem ct_Ch_sum (l : Launch) (K : gd_K) (hl : l.stackTraces = false) (h c sp ru md fe rd : Nat) (wa : Int32) (ca : Nat) (w : Int64) (f : Nat → Int64) (k k2 : Int32) : gd_M l yy_Ch_sum bb_Ch_sum 6 (some .long) [] 7 94 2 12 K [.ref h, .int k, .int k2] [gd_ob 4 h [.ref c, .ref sp, .ref ru, .ref md, .ref fe, .ref rd, .int wa], gd_ob 0 c [.ref ca, .long w], gd_aJ K ca 64 f] (fun v9 w1 => ∃ a b, a < 64 ∧ b < 64 ∧ k = nI a ∧ k2 = nI b ∧ v9 = some (.long (ch_su w f a (b + 1 - a))) ∧ w1 = [gd_ob 4 h [.ref c, .ref sp, .ref ru, .ref md, .ref fe, .ref rd, .int wa], gd_ob 0 c [.ref ca, .long w], gd_aJ K ca 64 f]) (fun E w1 => E = "java/lang/IndexOutOfBoundsException" ∧ w1 = [gd_ob 4 h [.ref c, .ref sp, .ref ru, .ref md, .ref fe, .ref rd, .int wa], gd_ob 0 c [.ref ca, .long w], gd_aJ K ca 64 f] ∧ ((k < 0 ∨ 64 ≤ k) ∨ (k2 < 0 ∨ 64 ≤ k2))) := by
  refine gd_body (Nat.le_of_ble_eq_true rfl) (fun X hXl hin hE hX => ?_)
  refine gd_iload_n hX 0 dd_Ch_sum_0 rfl ?_
  refine gd_call hX (st := []) (wr := [gd_ob 4 h [.ref c, .ref sp, .ref ru, .ref md, .ref fe, .ref rd, .int wa], gd_ob 0 c [.ref ca, .long w], gd_aJ K ca 64 f]) (ct_Ch_needCell (gx_l X) K (by rw [hXl]; exact hl) k) 1 dd_Ch_sum_1 (gd_nS hX (As := [.int k]) kw_180 kw_181 kw_13 (gd_nmOf kw_182) (gd_sigOf (n := 1) kw_182 (by decide)) (by decide) rfl rfl dd_Ch_sum_1) (gd_codeOf kw_182) (by decide) [] [0, 1, 2] rfl rfl rfl rfl rfl (by decide) (Nat.le_of_ble_eq_true rfl) (Nat.le_of_ble_eq_true rfl) (Nat.le_of_ble_eq_true rfl) (Nat.le_of_ble_eq_true rfl) (fun v9 w9 h9 => ?_) (fun E9 w9 q9 hx9 => ?_)
  · skip
    obtain ⟨rfl, rfl, a, ha, rfl⟩ := h9
    show gd_W X K 1 6 [gd_ob 4 h [.ref c, .ref sp, .ref ru, .ref md, .ref fe, .ref rd, .int wa], gd_ob 0 c [.ref ca, .long w], gd_aJ K ca 64 f] [(0, .ref h), (1, .int (nI a)), (2, .int k2)] [] 4
    refine gd_iload_n hX 4 dd_Ch_sum_4 rfl ?_
    refine gd_call hX (st := []) (wr := [gd_ob 4 h [.ref c, .ref sp, .ref ru, .ref md, .ref fe, .ref rd, .int wa], gd_ob 0 c [.ref ca, .long w], gd_aJ K ca 64 f]) (ct_Ch_needCell (gx_l X) K (by rw [hXl]; exact hl) k2) 5 dd_Ch_sum_5 (gd_nS hX (As := [.int k2]) kw_180 kw_181 kw_13 (gd_nmOf kw_182) (gd_sigOf (n := 1) kw_182 (by decide)) (by decide) rfl rfl dd_Ch_sum_5) (gd_codeOf kw_182) (by decide) [] [0, 1, 2] rfl rfl rfl rfl rfl (by decide) (Nat.le_of_ble_eq_true rfl) (Nat.le_of_ble_eq_true rfl) (Nat.le_of_ble_eq_true rfl) (Nat.le_of_ble_eq_true rfl) (fun v9 w9 h9 => ?_) (fun E9 w9 q9 hx9 => ?_)
    · skip
      obtain ⟨rfl, rfl, b, hb, rfl⟩ := h9
      show gd_W X K 2 12 [gd_ob 4 h [.ref c, .ref sp, .ref ru, .ref md, .ref fe, .ref rd, .int wa], gd_ob 0 c [.ref ca, .long w], gd_aJ K ca 64 f] [(0, .ref h), (1, .int (nI a)), (2, .int (nI b))] [] 8
      have loop : ∀ (m n : Nat), m + (a + n) = max a (b + 1) → gd_W X K 2 12 [gd_ob 4 h [.ref c, .ref sp, .ref ru, .ref md, .ref fe, .ref rd, .int wa], gd_ob 0 c [.ref ca, .long w], gd_aJ K ca 64 f] [(0, .ref h), (1, .int (nI a)), (2, .int (nI b)), (3, .long (ch_su w f a n)), (5, .int (nI (a + n)))] [] 13 := by
        intro m
        induction m with
        | zero =>
          intro n hn
          refine gd_iload hX 13 dd_Ch_sum_13 rfl ?_
          refine gd_iload_n hX 15 dd_Ch_sum_15 rfl ?_
          refine gd_icmp_gt hX 16 49 dd_Ch_sum_16 (by decide) (fun h1 => ?_) (fun h1 => ?_)
          · skip
            have e9 : b + 1 - a = n := by omega
            refine gd_lload_n hX 49 dd_Ch_sum_49 rfl ?_
            exact gd_lret hX hE 50 dd_Ch_sum_50 ⟨a, b, ha, hb, rfl, rfl, by rw [e9], rfl⟩
          · skip
            exact absurd ((nI_ltI (by omega) (by omega)).mpr (by omega)) h1
        | succ m ih =>
          intro n hn
          refine gd_iload hX 13 dd_Ch_sum_13 rfl ?_
          refine gd_iload_n hX 15 dd_Ch_sum_15 rfl ?_
          refine gd_icmp_gt hX 16 49 dd_Ch_sum_16 (by decide) (fun h1 => ?_) (fun h1 => ?_)
          · skip
            exact absurd ((nI_ltI (by omega) (by omega)).mp h1) (by omega)
          · skip
            refine gd_aload_n hX 19 dd_Ch_sum_19 rfl ?_
            refine gd_get hX inC_Ch 0 0 20 dd_Ch_sum_20 rfl rfl (by decide) kw_92 rfl ?_
            refine gd_iload hX 23 dd_Ch_sum_23 rfl ?_
            refine gd_call hX (st := []) (wr := [gd_ob 4 h [.ref c, .ref sp, .ref ru, .ref md, .ref fe, .ref rd, .int wa], gd_aJ K ca 64 f]) (ct_Cl_isFull _ K c ca (a + n) w (by omega)) 25 dd_Ch_sum_25 (gd_nV hX (As := [.int (nI (a + n))]) kw_274 kw_123 kw_124 (gd_sigOf (n := 1) kw_125 (by decide)) (by decide) 1 rfl rfl rfl rfl dd_Ch_sum_25) (gd_codeOf kw_125) (by decide) [1] [0, 2] rfl rfl rfl rfl rfl (by decide) (Nat.le_of_ble_eq_true rfl) (Nat.le_of_ble_eq_true rfl) (Nat.le_of_ble_eq_true rfl) (Nat.le_of_ble_eq_true rfl) (fun v9 w9 h9 => ?_) (fun E9 w9 q9 h9 => h9.elim)
            obtain ⟨rfl, rfl⟩ := h9
            refine gd_wsp [gd_ob 4 h [.ref c, .ref sp, .ref ru, .ref md, .ref fe, .ref rd, .int wa], gd_ob 0 c [.ref ca, .long w], gd_aJ K ca 64 f] [0, 2, 1] rfl rfl rfl ?_
            show gd_W X K 2 12 [gd_ob 4 h [.ref c, .ref sp, .ref ru, .ref md, .ref fe, .ref rd, .int wa], gd_ob 0 c [.ref ca, .long w], gd_aJ K ca 64 f] [(0, .ref h), (1, .int (nI a)), (2, .int (nI b)), (3, .long (ch_su w f a n)), (5, .int (nI (a + n)))] [.int (if ch_bit w (a + n) then 1 else 0)] 28
            refine gd_if_eq hX 28 43 dd_Ch_sum_28 (by decide) (fun h2 => ?_) (fun h2 => ?_)
            · skip
              have h3 : ch_bit w (a + n) = false := by cases hb : ch_bit w (a + n) <;> simp_all
              have h4 : ch_su w f a (n + 1) = ch_su w f a n := by show (if ch_bit w (a + n) = true then _ else _) = _; rw [h3]; rfl
              refine gd_iinc hX 4 [(5, .int (nI ((a + n) + 1))), (0, .ref h), (1, .int (nI a)), (2, .int (nI b)), (3, .long (ch_su w f a n))] 43 dd_Ch_sum_43 rfl (gd_inc (a + n)) (by decide) rfl ?_
              refine gd_goto hX 46 13 dd_Ch_sum_46 (by decide) ?_
              show gd_W X K 2 12 [gd_ob 4 h [.ref c, .ref sp, .ref ru, .ref md, .ref fe, .ref rd, .int wa], gd_ob 0 c [.ref ca, .long w], gd_aJ K ca 64 f] [(5, .int (nI ((a + n) + 1))), (0, .ref h), (1, .int (nI a)), (2, .int (nI b)), (3, .long (ch_su w f a n))] [] 13
              refine gd_lvs [(0, .ref h), (1, .int (nI a)), (2, .int (nI b)), (3, .long (ch_su w f a n)), (5, .int (nI ((a + n) + 1)))] [1, 2, 3, 4, 0] rfl ?_
              rw [← h4]
              exact ih (n + 1) (by omega)
            · skip
              have h3 : ch_bit w (a + n) = true := by cases hb : ch_bit w (a + n) <;> simp_all
              have h4 : ch_su w f a (n + 1) = ch_su w f a n + f (a + n) := by show (if ch_bit w (a + n) = true then _ else _) = _; rw [h3]; rfl
              refine gd_lload_n hX 31 dd_Ch_sum_31 rfl ?_
              refine gd_aload_n hX 32 dd_Ch_sum_32 rfl ?_
              refine gd_get hX inC_Ch 0 0 33 dd_Ch_sum_33 rfl rfl (by decide) kw_92 rfl ?_
              refine gd_iload hX 36 dd_Ch_sum_36 rfl ?_
              refine gd_call hX (st := [.long (ch_su w f a n)]) (wr := [gd_ob 4 h [.ref c, .ref sp, .ref ru, .ref md, .ref fe, .ref rd, .int wa]]) (ct_Cl_number _ K c ca (a + n) w f (by omega)) 38 dd_Ch_sum_38 (gd_nV hX (As := [.int (nI (a + n))]) kw_291 kw_127 kw_128 (gd_sigOf (n := 1) kw_129 (by decide)) (by decide) 1 rfl rfl rfl rfl dd_Ch_sum_38) (gd_codeOf kw_129) (by decide) [1, 2] [0] rfl rfl rfl rfl rfl (by decide) (Nat.le_of_ble_eq_true rfl) (Nat.le_of_ble_eq_true rfl) (Nat.le_of_ble_eq_true rfl) (Nat.le_of_ble_eq_true rfl) (fun v9 w9 h9 => ?_) (fun E9 w9 q9 h9 => h9.elim)
              obtain ⟨rfl, rfl⟩ := h9
              show gd_W X K 2 12 [gd_ob 4 h [.ref c, .ref sp, .ref ru, .ref md, .ref fe, .ref rd, .int wa], gd_ob 0 c [.ref ca, .long w], gd_aJ K ca 64 f] [(0, .ref h), (1, .int (nI a)), (2, .int (nI b)), (3, .long (ch_su w f a n)), (5, .int (nI (a + n)))] [.long (f (a + n)), .long (ch_su w f a n)] 41
              refine gd_ladd hX 41 dd_Ch_sum_41 ?_
              refine gd_eql (show ((ch_su w f a n) + (f (a + n)) : Int64) = ch_su w f a (n + 1) from h4.symm) ?_
              refine gd_lstore_n hX [(3, .long (ch_su w f a (n + 1))), (0, .ref h), (1, .int (nI a)), (2, .int (nI b)), (5, .int (nI (a + n)))] 42 dd_Ch_sum_42 rfl (by decide) rfl ?_
              refine gd_iinc hX 4 [(5, .int (nI ((a + n) + 1))), (3, .long (ch_su w f a (n + 1))), (0, .ref h), (1, .int (nI a)), (2, .int (nI b))] 43 dd_Ch_sum_43 rfl (gd_inc (a + n)) (by decide) rfl ?_
              refine gd_goto hX 46 13 dd_Ch_sum_46 (by decide) ?_
              show gd_W X K 2 12 [gd_ob 4 h [.ref c, .ref sp, .ref ru, .ref md, .ref fe, .ref rd, .int wa], gd_ob 0 c [.ref ca, .long w], gd_aJ K ca 64 f] [(5, .int (nI ((a + n) + 1))), (3, .long (ch_su w f a (n + 1))), (0, .ref h), (1, .int (nI a)), (2, .int (nI b))] [] 13
              refine gd_lvs [(0, .ref h), (1, .int (nI a)), (2, .int (nI b)), (3, .long (ch_su w f a (n + 1))), (5, .int (nI ((a + n) + 1)))] [2, 3, 4, 1, 0] rfl ?_
              exact ih (n + 1) (by omega)
      refine gd_lconst hX 8 dd_Ch_sum_8 (v := 0) (by decide) ?_
      refine gd_eql (show (0 : Int64) = ch_su w f a 0 from rfl) ?_
      refine gd_lstore_n hX [(3, .long (ch_su w f a 0)), (0, .ref h), (1, .int (nI a)), (2, .int (nI b))] 9 dd_Ch_sum_9 rfl (by decide) rfl ?_
      refine gd_iload_n hX 10 dd_Ch_sum_10 rfl ?_
      refine gd_eqi (show (nI a : Int32) = nI (a + 0) from rfl) ?_
      refine gd_istore hX [(5, .int (nI (a + 0))), (3, .long (ch_su w f a 0)), (0, .ref h), (1, .int (nI a)), (2, .int (nI b))] 11 dd_Ch_sum_11 (by decide) rfl ?_
      refine gd_lvs [(0, .ref h), (1, .int (nI a)), (2, .int (nI b)), (3, .long (ch_su w f a 0)), (5, .int (nI (a + 0)))] [2, 3, 4, 1, 0] rfl ?_
      exact loop (max a (b + 1) - a) 0 (by omega)
    · skip
      obtain ⟨rfl, rfl, hx⟩ := hx9
      exact gd_out hX hE (by decide) ⟨rfl, rfl, Or.inr hx⟩
  · skip
    obtain ⟨rfl, rfl, hx⟩ := hx9
    refine gd_wideT (a := 2) (b := 12) (by decide) (by decide) ?_
    exact gd_out hX hE (by decide) ⟨rfl, rfl, Or.inl hx⟩
set_option maxRecDepth 100000 in
set_option maxHeartbeats 4000000 in
theorem ct_Ch_wrong (l : Launch) (K : gd_K) (h c sp ru md fe rd : Nat) (wa : Int32) : gd_M l yy_Ch_wrong bb_Ch_wrong 1 (some .int) [] 0 0 0 0 K [.ref h] [gd_ob 4 h [.ref c, .ref sp, .ref ru, .ref md, .ref fe, .ref rd, .int wa]] (fun v w1 => v = some (.int wa) ∧ w1 = [gd_ob 4 h [.ref c, .ref sp, .ref ru, .ref md, .ref fe, .ref rd, .int wa]]) (fun _ _ => False) := by
  refine gd_body (Nat.le_of_ble_eq_true rfl) (fun X hXl hin hE hX => ?_)
  refine gd_aload_n hX 0 dd_Ch_wrong_0 rfl ?_
  refine gd_get hX inC_Ch 0 6 1 dd_Ch_wrong_1 rfl rfl (by decide) kw_98 rfl ?_
  exact gd_iret hX hE 4 dd_Ch_wrong_4 ⟨rfl, rfl⟩
end
section
set_option maxRecDepth 100000 in
set_option maxHeartbeats 4000000 in
theorem ct_Ch_code (l : Launch) (K : gd_K) (hl : l.stackTraces = false) (h c sp ru md fe rd : Nat) (wa : Int32) (mr : Nat) (L : List Nat) (fm : Nat → Int32) (k : Int32) (hL : L.length ≤ 712) (hB : ch_B fm L) : gd_M l yy_Ch_code bb_Ch_code 6 (some .long) [] 6 82 1 6 K [.ref h, .int k] [gd_ob 4 h [.ref c, .ref sp, .ref ru, .ref md, .ref fe, .ref rd, .int wa], gd_ob 1 md [.ref mr, .int (nI L.length)], gd_aB K mr 712 fm] (fun v9 w1 => ∃ j, j < (L.length + 7) / 8 ∧ k = nI j ∧ v9 = some (.long (ch_wd L j 8)) ∧ w1 = [gd_ob 4 h [.ref c, .ref sp, .ref ru, .ref md, .ref fe, .ref rd, .int wa], gd_ob 1 md [.ref mr, .int (nI L.length)], gd_aB K mr 712 fm]) (fun E w1 => E = "java/lang/IndexOutOfBoundsException" ∧ w1 = [gd_ob 4 h [.ref c, .ref sp, .ref ru, .ref md, .ref fe, .ref rd, .int wa], gd_ob 1 md [.ref mr, .int (nI L.length)], gd_aB K mr 712 fm] ∧ (k < 0 ∨ nI ((L.length + 7) / 8) ≤ k)) := by
  refine gd_body (Nat.le_of_ble_eq_true rfl) (fun X hXl hin hE hX => ?_)
  refine gd_aload_n hX 0 dd_Ch_code_0 rfl ?_
  refine gd_get hX inC_Ch 0 3 1 dd_Ch_code_1 rfl rfl (by decide) kw_95 rfl ?_
  refine gd_call hX (st := []) (wr := [gd_ob 4 h [.ref c, .ref sp, .ref ru, .ref md, .ref fe, .ref rd, .int wa], gd_aB K mr 712 fm]) (ct_Oc_length _ K md mr (nI L.length)) 4 dd_Ch_code_4 (gd_nV hX (As := []) kw_164 kw_165 kw_166 (gd_sigOf (n := 0) kw_167 (by decide)) (by decide) 1 rfl rfl rfl rfl dd_Ch_code_4) (gd_codeOf kw_167) (by decide) [1] [0, 2] rfl rfl rfl rfl rfl (by decide) (Nat.le_of_ble_eq_true rfl) (Nat.le_of_ble_eq_true rfl) (Nat.le_of_ble_eq_true rfl) (Nat.le_of_ble_eq_true rfl) (fun v9 w9 h9 => ?_) (fun E9 w9 q9 h9 => h9.elim)
  obtain ⟨rfl, rfl⟩ := h9
  refine gd_wsp [gd_ob 4 h [.ref c, .ref sp, .ref ru, .ref md, .ref fe, .ref rd, .int wa], gd_ob 1 md [.ref mr, .int (nI L.length)], gd_aB K mr 712 fm] [0, 2, 1] rfl rfl rfl ?_
  show gd_W X K 0 0 [gd_ob 4 h [.ref c, .ref sp, .ref ru, .ref md, .ref fe, .ref rd, .int wa], gd_ob 1 md [.ref mr, .int (nI L.length)], gd_aB K mr 712 fm] [(0, .ref h), (1, .int k)] [.int (nI L.length)] 7
  refine gd_bipush hX 7 dd_Ch_code_7 (v := 8) (by decide) ?_
  refine gd_iadd hX 9 dd_Ch_code_9 ?_
  refine gd_iconst hX 10 dd_Ch_code_10 (v := 1) (by decide) ?_
  refine gd_isub hX 11 dd_Ch_code_11 ?_
  refine gd_eqi (show (((nI L.length) + 8) - 1 : Int32) = nI (L.length + 7) from by rw [show (8 : Int32) = nI 8 from rfl, show (1 : Int32) = nI 1 from rfl, nI_add, pk_sub (by omega)]; congr 1) ?_
  refine gd_bipush hX 12 dd_Ch_code_12 (v := 8) (by decide) ?_
  refine gd_idiv hX 14 dd_Ch_code_14 (by decide) ?_
  refine gd_eqi (show ((nI (L.length + 7)) / 8 : Int32) = nI ((L.length + 7) / 8) from pk_div (d := 8) (by omega) (by decide) (by decide)) ?_
  refine gd_istore_n hX [(2, .int (nI ((L.length + 7) / 8))), (0, .ref h), (1, .int k)] 15 dd_Ch_code_15 rfl (by decide) rfl ?_
  refine gd_iload_n hX 16 dd_Ch_code_16 rfl ?_
  refine gd_if_lt hX 17 25 dd_Ch_code_17 (by decide) (fun h1 => ?_) (fun h1 => ?_)
  · skip
    exact gd_throw hX hE (by rw [hXl]; exact hl) (is := 107) (text := "the code has no such octets") 25 tw_io (by decide) dd_Ch_code_25 dd_Ch_code_28 dd_Ch_code_29 dd_Ch_code_31 dd_Ch_code_34 (by decide) (Nat.le_of_ble_eq_true rfl) (Nat.le_of_ble_eq_true rfl) (Nat.le_of_ble_eq_true rfl) (Nat.le_of_ble_eq_true rfl) (Nat.le_of_ble_eq_true rfl) (Nat.le_of_ble_eq_true rfl) ⟨rfl, rfl, Or.inl h1⟩
  · skip
    refine gd_iload_n hX 20 dd_Ch_code_20 rfl ?_
    refine gd_iload_n hX 21 dd_Ch_code_21 rfl ?_
    refine gd_icmp_lt hX 22 35 dd_Ch_code_22 (by decide) (fun h2 => ?_) (fun h2 => ?_)
    · skip
      refine gd_wide (a := 1) (b := 6) (by decide) (by decide) ?_
      obtain ⟨j, hj, rfl⟩ := ch_ix (by omega) h1 h2
      have loop : ∀ (m i : Nat), m + i = 8 → gd_W X K 1 6 [gd_ob 4 h [.ref c, .ref sp, .ref ru, .ref md, .ref fe, .ref rd, .int wa], gd_ob 1 md [.ref mr, .int (nI L.length)], gd_aB K mr 712 fm] [(0, .ref h), (1, .int (nI j)), (3, .long (ch_wd L j i)), (5, .int (nI i))] [] 40 := by
        intro m
        induction m with
        | zero =>
          intro i hi
          obtain rfl : i = 8 := by omega
          refine gd_iload hX 40 dd_Ch_code_40 rfl ?_
          refine gd_bipush hX 42 dd_Ch_code_42 (v := 8) (by decide) ?_
          refine gd_icmp_ge hX 44 74 dd_Ch_code_44 (by decide) (fun h3 => ?_) (fun h3 => ?_)
          · skip
            refine gd_lload_n hX 74 dd_Ch_code_74 rfl ?_
            exact gd_lret hX hE 75 dd_Ch_code_75 ⟨j, hj, rfl, rfl, rfl⟩
          · skip
            exact absurd (by decide) h3
        | succ m ih =>
          intro i hi
          refine gd_iload hX 40 dd_Ch_code_40 rfl ?_
          refine gd_bipush hX 42 dd_Ch_code_42 (v := 8) (by decide) ?_
          refine gd_icmp_ge hX 44 74 dd_Ch_code_44 (by decide) (fun h3 => ?_) (fun h3 => ?_)
          · skip
            exact absurd ((nI_leI (a := 8) (by decide) (by omega)).mp h3) (by omega)
          · skip
            refine gd_lload_n hX 47 dd_Ch_code_47 rfl ?_
            refine gd_bipush hX 48 dd_Ch_code_48 (v := 8) (by decide) ?_
            refine gd_lshl hX 50 dd_Ch_code_50 ?_
            refine gd_aload_n hX 51 dd_Ch_code_51 rfl ?_
            refine gd_get hX inC_Ch 0 3 52 dd_Ch_code_52 rfl rfl (by decide) kw_95 rfl ?_
            refine gd_bipush hX 55 dd_Ch_code_55 (v := 8) (by decide) ?_
            refine gd_iload_n hX 57 dd_Ch_code_57 rfl ?_
            refine gd_imul hX 58 dd_Ch_code_58 ?_
            refine gd_iload hX 59 dd_Ch_code_59 rfl ?_
            refine gd_iadd hX 61 dd_Ch_code_61 ?_
            refine gd_eqi (show ((8 * (nI j)) + (nI i) : Int32) = nI (8 * j + i) from by rw [show (8 : Int32) = nI 8 from rfl, pk_mul, nI_add]) ?_
            refine gd_call hX (st := [.long ((ch_wd L j i) <<< ((8 : Int32).toInt64 &&& 63))]) (wr := [gd_ob 4 h [.ref c, .ref sp, .ref ru, .ref md, .ref fe, .ref rd, .int wa]]) (ct_Oc_octetOrZero _ K md mr 712 (8 * j + i) fm L hL (by decide) (by omega) hB) 62 dd_Ch_code_62 (gd_nV hX (As := [.int (nI (8 * j + i))]) kw_307 kw_308 kw_309 (gd_sigOf (n := 1) kw_310 (by decide)) (by decide) 1 rfl rfl rfl rfl dd_Ch_code_62) (gd_codeOf kw_310) (by decide) [1, 2] [0] rfl rfl rfl rfl rfl (by decide) (Nat.le_of_ble_eq_true rfl) (Nat.le_of_ble_eq_true rfl) (Nat.le_of_ble_eq_true rfl) (Nat.le_of_ble_eq_true rfl) (fun v9 w9 h9 => ?_) (fun E9 w9 q9 h9 => h9.elim)
            obtain ⟨rfl, rfl⟩ := h9
            show gd_W X K 1 6 [gd_ob 4 h [.ref c, .ref sp, .ref ru, .ref md, .ref fe, .ref rd, .int wa], gd_ob 1 md [.ref mr, .int (nI L.length)], gd_aB K mr 712 fm] [(0, .ref h), (1, .int (nI j)), (3, .long (ch_wd L j i)), (5, .int (nI i))] [.int (nI (L.getD (8 * j + i) 0)), .long ((ch_wd L j i) <<< ((8 : Int32).toInt64 &&& 63))] 65
            refine gd_i2l hX 65 dd_Ch_code_65 ?_
            refine gd_lor hX 66 dd_Ch_code_66 ?_
            refine gd_eql (show (((ch_wd L j i) <<< ((8 : Int32).toInt64 &&& 63)) ||| ((nI (L.getD (8 * j + i) 0)).toInt64) : Int64) = ch_wd L j (i + 1) from rfl) ?_
            refine gd_lstore_n hX [(3, .long (ch_wd L j (i + 1))), (0, .ref h), (1, .int (nI j)), (5, .int (nI i))] 67 dd_Ch_code_67 rfl (by decide) rfl ?_
            refine gd_iinc hX 3 [(5, .int (nI (i + 1))), (3, .long (ch_wd L j (i + 1))), (0, .ref h), (1, .int (nI j))] 68 dd_Ch_code_68 rfl (gd_inc i) (by decide) rfl ?_
            refine gd_goto hX 71 40 dd_Ch_code_71 (by decide) ?_
            refine gd_lvs [(0, .ref h), (1, .int (nI j)), (3, .long (ch_wd L j (i + 1))), (5, .int (nI (i + 1)))] [2, 3, 1, 0] rfl ?_
            exact ih (i + 1) (by omega)
      refine gd_lconst hX 35 dd_Ch_code_35 (v := 0) (by decide) ?_
      refine gd_eql (show (0 : Int64) = ch_wd L j 0 from rfl) ?_
      refine gd_lstore_n hX [(3, .long (ch_wd L j 0)), (2, .int (nI ((L.length + 7) / 8))), (0, .ref h), (1, .int (nI j))] 36 dd_Ch_code_36 rfl (by decide) rfl ?_
      refine gd_iconst hX 37 dd_Ch_code_37 (v := 0) (by decide) ?_
      refine gd_eqi (show (0 : Int32) = nI 0 from rfl) ?_
      refine gd_istore hX [(5, .int (nI 0)), (3, .long (ch_wd L j 0)), (2, .int (nI ((L.length + 7) / 8))), (0, .ref h), (1, .int (nI j))] 38 dd_Ch_code_38 (by decide) rfl ?_
      refine gd_lvs [(0, .ref h), (1, .int (nI j)), (3, .long (ch_wd L j 0)), (5, .int (nI 0))] [3, 4, 1, 0] rfl ?_
      exact loop 8 0 rfl
    · skip
      exact gd_throw hX hE (by rw [hXl]; exact hl) (is := 107) (text := "the code has no such octets") 25 tw_io (by decide) dd_Ch_code_25 dd_Ch_code_28 dd_Ch_code_29 dd_Ch_code_31 dd_Ch_code_34 (by decide) (Nat.le_of_ble_eq_true rfl) (Nat.le_of_ble_eq_true rfl) (Nat.le_of_ble_eq_true rfl) (Nat.le_of_ble_eq_true rfl) (Nat.le_of_ble_eq_true rfl) (Nat.le_of_ble_eq_true rfl) ⟨rfl, rfl, Or.inr (ch_nlt h2)⟩
set_option maxRecDepth 100000 in
set_option maxHeartbeats 4000000 in
theorem ct_Ch_feed (l : Launch) (K : gd_K) (hl : l.stackTraces = false) (h c sp ru md fe rd : Nat) (wa : Int32) (fr : Nat) (L : List Nat) (ff : Nat → Int32) (x : Int64) (k : Int32) (hL : L.length ≤ 1000) (hB : ch_B ff L) : gd_M l yy_Ch_feed bb_Ch_feed 5 (some .int) [] 6 82 1 6 K [.ref h, .long x, .int k] [gd_ob 4 h [.ref c, .ref sp, .ref ru, .ref md, .ref fe, .ref rd, .int wa], gd_ob 1 fe [.ref fr, .int (nI L.length)], gd_aB K fr 1000 ff] (fun v9 w1 => ∃ n, 1 ≤ n ∧ n ≤ 8 ∧ k = nI n ∧ L.length + n ≤ 1000 ∧ v9 = some (.int (nI (L ++ (ch_fd x).take n).length)) ∧ ∃ ff', w1 = [gd_ob 4 h [.ref c, .ref sp, .ref ru, .ref md, .ref fe, .ref rd, .int wa], gd_ob 1 fe [.ref fr, .int (nI (L ++ (ch_fd x).take n).length)], gd_aB K fr 1000 ff'] ∧ ch_B ff' (L ++ (ch_fd x).take n)) (fun E w1 => (E = "java/lang/IllegalArgumentException" ∧ w1 = [gd_ob 4 h [.ref c, .ref sp, .ref ru, .ref md, .ref fe, .ref rd, .int wa], gd_ob 1 fe [.ref fr, .int (nI L.length)], gd_aB K fr 1000 ff] ∧ (k < 1 ∨ 8 < k)) ∨ (E = "java/lang/IndexOutOfBoundsException" ∧ w1 = [gd_ob 4 h [.ref c, .ref sp, .ref ru, .ref md, .ref fe, .ref rd, .int wa], gd_ob 1 fe [.ref fr, .int (nI L.length)], gd_aB K fr 1000 ff] ∧ ∃ n, 1 ≤ n ∧ n ≤ 8 ∧ k = nI n ∧ 1000 < L.length + n)) := by
  refine gd_body (Nat.le_of_ble_eq_true rfl) (fun X hXl hin hE hX => ?_)
  refine gd_iload_n hX 0 dd_Ch_feed_0 rfl ?_
  refine gd_iconst hX 1 dd_Ch_feed_1 (v := 1) (by decide) ?_
  refine gd_icmp_lt hX 2 11 dd_Ch_feed_2 (by decide) (fun h1 => ?_) (fun h1 => ?_)
  · skip
    exact gd_throw hX hE (by rw [hXl]; exact hl) (is := 115) (text := "a feed is of 1 to 8 octets") 11 tw_ia (by decide) dd_Ch_feed_11 dd_Ch_feed_14 dd_Ch_feed_15 dd_Ch_feed_17 dd_Ch_feed_20 (by decide) (Nat.le_of_ble_eq_true rfl) (Nat.le_of_ble_eq_true rfl) (Nat.le_of_ble_eq_true rfl) (Nat.le_of_ble_eq_true rfl) (Nat.le_of_ble_eq_true rfl) (Nat.le_of_ble_eq_true rfl) (Or.inl ⟨rfl, rfl, Or.inl h1⟩)
  · skip
    refine gd_iload_n hX 5 dd_Ch_feed_5 rfl ?_
    refine gd_bipush hX 6 dd_Ch_feed_6 (v := 8) (by decide) ?_
    refine gd_icmp_le hX 8 21 dd_Ch_feed_8 (by decide) (fun h2 => ?_) (fun h2 => ?_)
    · skip
      obtain ⟨n, hn, rfl⟩ := nI_of (x := k) (fun q => h1 (Int32.lt_of_lt_of_le q (by decide)))
      have hn1 : 1 ≤ n := Nat.le_of_not_lt (fun q => h1 ((nI_ltI (b := 1) hn (by decide)).mpr q))
      have hn8 : n ≤ 8 := (nI_leI (b := 8) hn (by decide)).mp h2
      refine gd_aload_n hX 21 dd_Ch_feed_21 rfl ?_
      refine gd_get hX inC_Ch 0 4 22 dd_Ch_feed_22 rfl rfl (by decide) kw_96 rfl ?_
      refine gd_call hX (st := []) (wr := [gd_ob 4 h [.ref c, .ref sp, .ref ru, .ref md, .ref fe, .ref rd, .int wa], gd_aB K fr 1000 ff]) (ct_Oc_length _ K fe fr (nI L.length)) 25 dd_Ch_feed_25 (gd_nV hX (As := []) kw_164 kw_165 kw_166 (gd_sigOf (n := 0) kw_167 (by decide)) (by decide) 1 rfl rfl rfl rfl dd_Ch_feed_25) (gd_codeOf kw_167) (by decide) [1] [0, 2] rfl rfl rfl rfl rfl (by decide) (Nat.le_of_ble_eq_true rfl) (Nat.le_of_ble_eq_true rfl) (Nat.le_of_ble_eq_true rfl) (Nat.le_of_ble_eq_true rfl) (fun v9 w9 h9 => ?_) (fun E9 w9 q9 h9 => h9.elim)
      obtain ⟨rfl, rfl⟩ := h9
      refine gd_wsp [gd_ob 4 h [.ref c, .ref sp, .ref ru, .ref md, .ref fe, .ref rd, .int wa], gd_ob 1 fe [.ref fr, .int (nI L.length)], gd_aB K fr 1000 ff] [0, 2, 1] rfl rfl rfl ?_
      show gd_W X K 0 0 [gd_ob 4 h [.ref c, .ref sp, .ref ru, .ref md, .ref fe, .ref rd, .int wa], gd_ob 1 fe [.ref fr, .int (nI L.length)], gd_aB K fr 1000 ff] [(0, .ref h), (1, .long x), (3, .int (nI n))] [.int (nI L.length)] 28
      refine gd_iload_n hX 28 dd_Ch_feed_28 rfl ?_
      refine gd_iadd hX 29 dd_Ch_feed_29 ?_
      refine gd_eqi (show ((nI L.length) + (nI n) : Int32) = nI (L.length + n) from nI_add _ _) ?_
      refine gd_sipush hX 30 dd_Ch_feed_30 (v := 1000) (by decide) ?_
      refine gd_icmp_le hX 33 46 dd_Ch_feed_33 (by decide) (fun h3 => ?_) (fun h3 => ?_)
      · skip
        have hle : L.length + n ≤ 1000 := (nI_leI (b := 1000) (by omega) (by decide)).mp h3
        refine gd_wide (a := 1) (b := 6) (by decide) (by decide) ?_
        have hfl := ch_fd_len x
        have loop : ∀ (m i : Nat) (ff : Nat → Int32), m + i = n → ch_B ff (L ++ (ch_fd x).take i) → gd_W X K 1 6 [gd_ob 4 h [.ref c, .ref sp, .ref ru, .ref md, .ref fe, .ref rd, .int wa], gd_ob 1 fe [.ref fr, .int (nI (L ++ (ch_fd x).take i).length)], gd_aB K fr 1000 ff] [(0, .ref h), (1, .long x), (3, .int (nI n)), (4, .int (nI i))] [] 49 := by
          intro m
          induction m with
          | zero =>
            intro i ff hi hB
            obtain rfl : i = n := by omega
            refine gd_iload hX 49 dd_Ch_feed_49 rfl ?_
            refine gd_iload_n hX 51 dd_Ch_feed_51 rfl ?_
            refine gd_icmp_ge hX 52 79 dd_Ch_feed_52 (by decide) (fun h4 => ?_) (fun h4 => ?_)
            · skip
              refine gd_aload_n hX 79 dd_Ch_feed_79 rfl ?_
              refine gd_get hX inC_Ch 0 4 80 dd_Ch_feed_80 rfl rfl (by decide) kw_96 rfl ?_
              refine gd_call hX (st := []) (wr := [gd_ob 4 h [.ref c, .ref sp, .ref ru, .ref md, .ref fe, .ref rd, .int wa], gd_aB K fr 1000 ff]) (ct_Oc_length _ K fe fr (nI (L ++ (ch_fd x).take i).length)) 83 dd_Ch_feed_83 (gd_nV hX (As := []) kw_164 kw_165 kw_166 (gd_sigOf (n := 0) kw_167 (by decide)) (by decide) 1 rfl rfl rfl rfl dd_Ch_feed_83) (gd_codeOf kw_167) (by decide) [1] [0, 2] rfl rfl rfl rfl rfl (by decide) (Nat.le_of_ble_eq_true rfl) (Nat.le_of_ble_eq_true rfl) (Nat.le_of_ble_eq_true rfl) (Nat.le_of_ble_eq_true rfl) (fun v9 w9 h9 => ?_) (fun E9 w9 q9 h9 => h9.elim)
              obtain ⟨rfl, rfl⟩ := h9
              refine gd_wsp [gd_ob 4 h [.ref c, .ref sp, .ref ru, .ref md, .ref fe, .ref rd, .int wa], gd_ob 1 fe [.ref fr, .int (nI (L ++ (ch_fd x).take i).length)], gd_aB K fr 1000 ff] [0, 2, 1] rfl rfl rfl ?_
              show gd_W X K 1 6 [gd_ob 4 h [.ref c, .ref sp, .ref ru, .ref md, .ref fe, .ref rd, .int wa], gd_ob 1 fe [.ref fr, .int (nI (L ++ (ch_fd x).take i).length)], gd_aB K fr 1000 ff] [(0, .ref h), (1, .long x), (3, .int (nI i)), (4, .int (nI i))] [.int (nI (L ++ (ch_fd x).take i).length)] 86
              exact gd_iret hX hE 86 dd_Ch_feed_86 ⟨i, hn1, hn8, rfl, hle, rfl, ff, rfl, hB⟩
            · skip
              exact absurd (Int32.le_refl _) h4
          | succ m ih =>
            intro i ff hi hB
            have hlen : (L ++ (ch_fd x).take i).length = L.length + i := by rw [List.length_append, List.length_take]; omega
            refine gd_iload hX 49 dd_Ch_feed_49 rfl ?_
            refine gd_iload_n hX 51 dd_Ch_feed_51 rfl ?_
            refine gd_icmp_ge hX 52 79 dd_Ch_feed_52 (by decide) (fun h4 => ?_) (fun h4 => ?_)
            · skip
              exact absurd ((nI_leI (by omega) (by omega)).mp h4) (by omega)
            · skip
              refine gd_aload_n hX 55 dd_Ch_feed_55 rfl ?_
              refine gd_get hX inC_Ch 0 4 56 dd_Ch_feed_56 rfl rfl (by decide) kw_96 rfl ?_
              refine gd_lload_n hX 59 dd_Ch_feed_59 rfl ?_
              refine gd_bipush hX 60 dd_Ch_feed_60 (v := 56) (by decide) ?_
              refine gd_bipush hX 62 dd_Ch_feed_62 (v := 8) (by decide) ?_
              refine gd_iload hX 64 dd_Ch_feed_64 rfl ?_
              refine gd_imul hX 66 dd_Ch_feed_66 ?_
              refine gd_isub hX 67 dd_Ch_feed_67 ?_
              refine gd_eqi (show (56 - (8 * (nI i)) : Int32) = nI (56 - 8 * i) from by rw [show (8 : Int32) = nI 8 from rfl, show (56 : Int32) = nI 56 from rfl, pk_mul, pk_sub (by omega)]) ?_
              refine gd_lushr hX 68 dd_Ch_feed_68 ?_
              refine gd_l2i hX 69 dd_Ch_feed_69 ?_
              refine gd_call hX (st := []) (wr := [gd_ob 4 h [.ref c, .ref sp, .ref ru, .ref md, .ref fe, .ref rd, .int wa]]) (ct_Oc_add _ K fe fr 1000 ff (L ++ (ch_fd x).take i) _ (uN x / 2 ^ (56 - 8 * i) % 256) (by omega) (by decide) hB (by rw [ch_low, uN_sk x (by omega)])) 70 dd_Ch_feed_70 (gd_nV hX (As := [.int (((x.toUInt64 >>> ((nI (56 - 8 * i)).toInt64.toUInt64 &&& Int64.toUInt64 63)).toInt64).toInt32)]) kw_142 kw_143 kw_144 (gd_sigOf (n := 1) kw_145 (by decide)) (by decide) 1 rfl rfl rfl rfl dd_Ch_feed_70) (gd_codeOf kw_145) (by decide) [1, 2] [0] rfl rfl rfl rfl rfl (by decide) (Nat.le_of_ble_eq_true rfl) (Nat.le_of_ble_eq_true rfl) (Nat.le_of_ble_eq_true rfl) (Nat.le_of_ble_eq_true rfl) (fun v9 w9 h9 => ?_) (fun E9 w9 q9 h9 => h9.elim)
              obtain ⟨rfl, f2, rfl, hB2⟩ := h9
              show gd_W X K 1 6 [gd_ob 4 h [.ref c, .ref sp, .ref ru, .ref md, .ref fe, .ref rd, .int wa], gd_ob 1 fe [.ref fr, .int (nI ((L ++ (ch_fd x).take i) ++ [uN x / 2 ^ (56 - 8 * i) % 256]).length)], gd_aB K fr 1000 f2] [(0, .ref h), (1, .long x), (3, .int (nI n)), (4, .int (nI i))] [] 73
              rw [List.append_assoc, ← ch_fd_step x (by omega)] at hB2 ⊢
              refine gd_iinc hX 3 [(4, .int (nI (i + 1))), (0, .ref h), (1, .long x), (3, .int (nI n))] 73 dd_Ch_feed_73 rfl (gd_inc i) (by decide) rfl ?_
              refine gd_goto hX 76 49 dd_Ch_feed_76 (by decide) ?_
              refine gd_lvs [(0, .ref h), (1, .long x), (3, .int (nI n)), (4, .int (nI (i + 1)))] [1, 2, 3, 0] rfl ?_
              exact ih (i + 1) f2 (by omega) hB2
        refine gd_iconst hX 46 dd_Ch_feed_46 (v := 0) (by decide) ?_
        refine gd_eqi (show (0 : Int32) = nI 0 from rfl) ?_
        refine gd_istore hX [(4, .int (nI 0)), (0, .ref h), (1, .long x), (3, .int (nI n))] 47 dd_Ch_feed_47 (by decide) rfl ?_
        refine gd_lvs [(0, .ref h), (1, .long x), (3, .int (nI n)), (4, .int (nI 0))] [1, 2, 3, 0] rfl ?_
        have e0 : L = L ++ (ch_fd x).take 0 := by simp
        rw [e0] at hB
        have h9 := loop n 0 ff rfl hB
        rw [← e0] at h9
        exact h9
      · skip
        have hle : 1000 < L.length + n := Nat.lt_of_not_le (fun q => h3 ((nI_leI (b := 1000) (by omega) (by decide)).mpr q))
        exact gd_throw hX hE (by rw [hXl]; exact hl) (is := 118) (text := "more would be fed than there is room for") 36 tw_io (by decide) dd_Ch_feed_36 dd_Ch_feed_39 dd_Ch_feed_40 dd_Ch_feed_42 dd_Ch_feed_45 (by decide) (Nat.le_of_ble_eq_true rfl) (Nat.le_of_ble_eq_true rfl) (Nat.le_of_ble_eq_true rfl) (Nat.le_of_ble_eq_true rfl) (Nat.le_of_ble_eq_true rfl) (Nat.le_of_ble_eq_true rfl) (Or.inr ⟨rfl, rfl, n, hn1, hn8, rfl, hle⟩)
    · skip
      exact gd_throw hX hE (by rw [hXl]; exact hl) (is := 115) (text := "a feed is of 1 to 8 octets") 11 tw_ia (by decide) dd_Ch_feed_11 dd_Ch_feed_14 dd_Ch_feed_15 dd_Ch_feed_17 dd_Ch_feed_20 (by decide) (Nat.le_of_ble_eq_true rfl) (Nat.le_of_ble_eq_true rfl) (Nat.le_of_ble_eq_true rfl) (Nat.le_of_ble_eq_true rfl) (Nat.le_of_ble_eq_true rfl) (Nat.le_of_ble_eq_true rfl) (Or.inl ⟨rfl, rfl, Or.inr (ch_nle h2)⟩)
set_option maxRecDepth 100000 in
set_option maxHeartbeats 4000000 in
theorem ct_Ch_count (l : Launch) (K : gd_K) (hl : l.stackTraces = false) (h c sp ru md fe rd : Nat) (wa : Int32) (ra rb : Nat) (n : Int32) (rn : Nat → Int64) (rs : Nat → Int32) (ca : Nat) (w : Int64) (f : Nat → Int64) (fr mr : Nat) (Lf Lm : List Nat) (k : Int32) : gd_M l yy_Ch_count bb_Ch_count 2 (some .int) [] 6 82 1 6 K [.ref h, .int k] [gd_ob 4 h [.ref c, .ref sp, .ref ru, .ref md, .ref fe, .ref rd, .int wa], gd_ob 3 ru [.ref ra, .ref rb, .int n], gd_aJ K ra 64 rn, gd_aI K rb 64 rs, gd_ob 0 c [.ref ca, .long w], gd_aJ K ca 64 f, gd_ob 1 fe [.ref fr, .int (nI Lf.length)], gd_ob 1 md [.ref mr, .int (nI Lm.length)]] (fun v9 w1 => ∃ j, j < 5 ∧ k = nI j ∧ v9 = some (.int (nI (ch_ct w f Lf Lm j))) ∧ ∃ n' rn' rs', w1 = [gd_ob 4 h [.ref c, .ref sp, .ref ru, .ref md, .ref fe, .ref rd, .int wa], gd_ob 3 ru [.ref ra, .ref rb, .int n'], gd_aJ K ra 64 rn', gd_aI K rb 64 rs', gd_ob 0 c [.ref ca, .long w], gd_aJ K ca 64 f, gd_ob 1 fe [.ref fr, .int (nI Lf.length)], gd_ob 1 md [.ref mr, .int (nI Lm.length)]]) (fun E w1 => E = "java/lang/IllegalArgumentException" ∧ w1 = [gd_ob 4 h [.ref c, .ref sp, .ref ru, .ref md, .ref fe, .ref rd, .int wa], gd_ob 3 ru [.ref ra, .ref rb, .int n], gd_aJ K ra 64 rn, gd_aI K rb 64 rs, gd_ob 0 c [.ref ca, .long w], gd_aJ K ca 64 f, gd_ob 1 fe [.ref fr, .int (nI Lf.length)], gd_ob 1 md [.ref mr, .int (nI Lm.length)]] ∧ (k.toInt < 0 ∨ 4 < k.toInt)) := by
  refine gd_body (Nat.le_of_ble_eq_true rfl) (fun X hXl hin hE hX => ?_)
  by_cases h0 : k.toInt < 0
  · skip
    refine gd_iload_n hX 0 dd_Ch_count_0 rfl ?_
    refine gd_tableOut hX 1 84 dd_Ch_count_1 (Or.inl h0) (by decide) ?_
    exact gd_throw hX hE (by rw [hXl]; exact hl) (is := 133) (text := "there is no such count") 84 tw_ia (by decide) dd_Ch_count_84 dd_Ch_count_87 dd_Ch_count_88 dd_Ch_count_90 dd_Ch_count_93 (by decide) (Nat.le_of_ble_eq_true rfl) (Nat.le_of_ble_eq_true rfl) (Nat.le_of_ble_eq_true rfl) (Nat.le_of_ble_eq_true rfl) (Nat.le_of_ble_eq_true rfl) (Nat.le_of_ble_eq_true rfl) ⟨rfl, rfl, Or.inl h0⟩
  by_cases h5 : 4 < k.toInt
  · skip
    refine gd_iload_n hX 0 dd_Ch_count_0 rfl ?_
    refine gd_tableOut hX 1 84 dd_Ch_count_1 (Or.inr h5) (by decide) ?_
    exact gd_throw hX hE (by rw [hXl]; exact hl) (is := 133) (text := "there is no such count") 84 tw_ia (by decide) dd_Ch_count_84 dd_Ch_count_87 dd_Ch_count_88 dd_Ch_count_90 dd_Ch_count_93 (by decide) (Nat.le_of_ble_eq_true rfl) (Nat.le_of_ble_eq_true rfl) (Nat.le_of_ble_eq_true rfl) (Nat.le_of_ble_eq_true rfl) (Nat.le_of_ble_eq_true rfl) (Nat.le_of_ble_eq_true rfl) ⟨rfl, rfl, Or.inr h5⟩
  obtain ⟨j, hj, rfl⟩ : ∃ j, j < 5 ∧ k = nI j := by
    obtain ⟨j, hj, rfl⟩ := nI_of (x := k) (fun q => h0 (by rw [Int32.lt_iff_toInt_lt] at q; exact q))
    rw [nI_toInt hj] at h5
    exact ⟨j, by omega, rfl⟩
  refine gd_iload_n hX 0 dd_Ch_count_0 rfl ?_
  refine gd_wide (a := 1) (b := 6) (by decide) (by decide) ?_
  rcases (show j = 0 ∨ j = 1 ∨ j = 2 ∨ j = 3 ∨ j = 4 by omega) with rfl | rfl | rfl | rfl | rfl
  · skip
    refine gd_tableIn hX (off := 35) 1 36 dd_Ch_count_1 (by decide) (by decide) (by decide) (by decide) ?_
    refine gd_aload_n hX 36 dd_Ch_count_36 rfl ?_
    refine gd_get hX inC_Ch 0 0 37 dd_Ch_count_37 rfl rfl (by decide) kw_92 rfl ?_
    refine gd_call hX (st := []) (wr := [gd_ob 4 h [.ref c, .ref sp, .ref ru, .ref md, .ref fe, .ref rd, .int wa], gd_ob 3 ru [.ref ra, .ref rb, .int n], gd_aJ K ra 64 rn, gd_aI K rb 64 rs, gd_aJ K ca 64 f, gd_ob 1 fe [.ref fr, .int (nI Lf.length)], gd_ob 1 md [.ref mr, .int (nI Lm.length)]]) (ct_Cl_many _ K c ca w) 40 dd_Ch_count_40 (gd_nV hX (As := []) kw_385 kw_386 kw_387 (gd_sigOf (n := 0) kw_388 (by decide)) (by decide) 4 rfl rfl rfl rfl dd_Ch_count_40) (gd_codeOf kw_388) (by decide) [4] [0, 1, 2, 3, 5, 6, 7] rfl rfl rfl rfl rfl (by decide) (Nat.le_of_ble_eq_true rfl) (Nat.le_of_ble_eq_true rfl) (Nat.le_of_ble_eq_true rfl) (Nat.le_of_ble_eq_true rfl) (fun v9 w9 h9 => ?_) (fun E9 w9 q9 h9 => h9.elim)
    obtain ⟨rfl, rfl⟩ := h9
    refine gd_wsp [gd_ob 4 h [.ref c, .ref sp, .ref ru, .ref md, .ref fe, .ref rd, .int wa], gd_ob 3 ru [.ref ra, .ref rb, .int n], gd_aJ K ra 64 rn, gd_aI K rb 64 rs, gd_ob 0 c [.ref ca, .long w], gd_aJ K ca 64 f, gd_ob 1 fe [.ref fr, .int (nI Lf.length)], gd_ob 1 md [.ref mr, .int (nI Lm.length)]] [0, 1, 2, 3, 7, 4, 5, 6] rfl rfl rfl ?_
    show gd_W X K 1 6 [gd_ob 4 h [.ref c, .ref sp, .ref ru, .ref md, .ref fe, .ref rd, .int wa], gd_ob 3 ru [.ref ra, .ref rb, .int n], gd_aJ K ra 64 rn, gd_aI K rb 64 rs, gd_ob 0 c [.ref ca, .long w], gd_aJ K ca 64 f, gd_ob 1 fe [.ref fr, .int (nI Lf.length)], gd_ob 1 md [.ref mr, .int (nI Lm.length)]] [(0, .ref h), (1, .int (nI 0))] [.int (nI (ch_pop w 64))] 43
    exact gd_iret hX hE 43 dd_Ch_count_43 ⟨0, by decide, rfl, rfl, _, _, _, rfl⟩
  · skip
    refine gd_tableIn hX (off := 43) 1 44 dd_Ch_count_1 (by decide) (by decide) (by decide) (by decide) ?_
    refine gd_aload_n hX 44 dd_Ch_count_44 rfl ?_
    refine gd_get hX inC_Ch 0 2 45 dd_Ch_count_45 rfl rfl (by decide) kw_94 rfl ?_
    refine gd_aload_n hX 48 dd_Ch_count_48 rfl ?_
    refine gd_get hX inC_Ch 0 0 49 dd_Ch_count_49 rfl rfl (by decide) kw_92 rfl ?_
    refine gd_call hX (st := []) (wr := [gd_ob 4 h [.ref c, .ref sp, .ref ru, .ref md, .ref fe, .ref rd, .int wa], gd_ob 1 fe [.ref fr, .int (nI Lf.length)], gd_ob 1 md [.ref mr, .int (nI Lm.length)]]) (ct_Ru_gather _ K ru ra rb c ca n rn rs w f) 52 dd_Ch_count_52 (gd_nV hX (As := [.ref c]) kw_118 kw_119 kw_120 (gd_sigOf (n := 1) kw_121 (by decide)) (by decide) 1 rfl rfl rfl rfl dd_Ch_count_52) (gd_codeOf kw_121) (by decide) [1, 2, 3, 4, 5] [0, 6, 7] rfl rfl rfl rfl rfl (by decide) (Nat.le_of_ble_eq_true rfl) (Nat.le_of_ble_eq_true rfl) (Nat.le_of_ble_eq_true rfl) (Nat.le_of_ble_eq_true rfl) (fun v9 w9 h9 => ?_) (fun E9 w9 q9 h9 => h9.elim)
    obtain ⟨rfl, rn', rs', rfl, hR⟩ := h9
    refine gd_wsp [gd_ob 4 h [.ref c, .ref sp, .ref ru, .ref md, .ref fe, .ref rd, .int wa], gd_ob 3 ru [.ref ra, .ref rb, .int (nI (ch_runs w f 64).length)], gd_aJ K ra 64 rn', gd_aI K rb 64 rs', gd_ob 0 c [.ref ca, .long w], gd_aJ K ca 64 f, gd_ob 1 fe [.ref fr, .int (nI Lf.length)], gd_ob 1 md [.ref mr, .int (nI Lm.length)]] [0, 3, 4, 5, 6, 7, 1, 2] rfl rfl rfl ?_
    show gd_W X K 1 6 [gd_ob 4 h [.ref c, .ref sp, .ref ru, .ref md, .ref fe, .ref rd, .int wa], gd_ob 3 ru [.ref ra, .ref rb, .int (nI (ch_runs w f 64).length)], gd_aJ K ra 64 rn', gd_aI K rb 64 rs', gd_ob 0 c [.ref ca, .long w], gd_aJ K ca 64 f, gd_ob 1 fe [.ref fr, .int (nI Lf.length)], gd_ob 1 md [.ref mr, .int (nI Lm.length)]] [(0, .ref h), (1, .int (nI 1))] [] 55
    refine gd_aload_n hX 55 dd_Ch_count_55 rfl ?_
    refine gd_get hX inC_Ch 0 2 56 dd_Ch_count_56 rfl rfl (by decide) kw_94 rfl ?_
    refine gd_call hX (st := []) (wr := [gd_ob 4 h [.ref c, .ref sp, .ref ru, .ref md, .ref fe, .ref rd, .int wa], gd_aJ K ra 64 rn', gd_aI K rb 64 rs', gd_ob 0 c [.ref ca, .long w], gd_aJ K ca 64 f, gd_ob 1 fe [.ref fr, .int (nI Lf.length)], gd_ob 1 md [.ref mr, .int (nI Lm.length)]]) (ct_Ru_many _ K ru ra rb (nI (ch_runs w f 64).length)) 59 dd_Ch_count_59 (gd_nV hX (As := []) kw_146 kw_147 kw_148 (gd_sigOf (n := 0) kw_149 (by decide)) (by decide) 1 rfl rfl rfl rfl dd_Ch_count_59) (gd_codeOf kw_149) (by decide) [1] [0, 2, 3, 4, 5, 6, 7] rfl rfl rfl rfl rfl (by decide) (Nat.le_of_ble_eq_true rfl) (Nat.le_of_ble_eq_true rfl) (Nat.le_of_ble_eq_true rfl) (Nat.le_of_ble_eq_true rfl) (fun v9 w9 h9 => ?_) (fun E9 w9 q9 h9 => h9.elim)
    obtain ⟨rfl, rfl⟩ := h9
    refine gd_wsp [gd_ob 4 h [.ref c, .ref sp, .ref ru, .ref md, .ref fe, .ref rd, .int wa], gd_ob 3 ru [.ref ra, .ref rb, .int (nI (ch_runs w f 64).length)], gd_aJ K ra 64 rn', gd_aI K rb 64 rs', gd_ob 0 c [.ref ca, .long w], gd_aJ K ca 64 f, gd_ob 1 fe [.ref fr, .int (nI Lf.length)], gd_ob 1 md [.ref mr, .int (nI Lm.length)]] [0, 7, 1, 2, 3, 4, 5, 6] rfl rfl rfl ?_
    show gd_W X K 1 6 [gd_ob 4 h [.ref c, .ref sp, .ref ru, .ref md, .ref fe, .ref rd, .int wa], gd_ob 3 ru [.ref ra, .ref rb, .int (nI (ch_runs w f 64).length)], gd_aJ K ra 64 rn', gd_aI K rb 64 rs', gd_ob 0 c [.ref ca, .long w], gd_aJ K ca 64 f, gd_ob 1 fe [.ref fr, .int (nI Lf.length)], gd_ob 1 md [.ref mr, .int (nI Lm.length)]] [(0, .ref h), (1, .int (nI 1))] [.int (nI (ch_runs w f 64).length)] 62
    exact gd_iret hX hE 62 dd_Ch_count_62 ⟨1, by decide, rfl, rfl, _, _, _, rfl⟩
  · skip
    refine gd_tableIn hX (off := 62) 1 63 dd_Ch_count_1 (by decide) (by decide) (by decide) (by decide) ?_
    refine gd_aload_n hX 63 dd_Ch_count_63 rfl ?_
    refine gd_get hX inC_Ch 0 4 64 dd_Ch_count_64 rfl rfl (by decide) kw_96 rfl ?_
    refine gd_call hX (st := []) (wr := [gd_ob 4 h [.ref c, .ref sp, .ref ru, .ref md, .ref fe, .ref rd, .int wa], gd_ob 3 ru [.ref ra, .ref rb, .int n], gd_aJ K ra 64 rn, gd_aI K rb 64 rs, gd_ob 0 c [.ref ca, .long w], gd_aJ K ca 64 f, gd_ob 1 md [.ref mr, .int (nI Lm.length)]]) (ct_Oc_length _ K fe fr (nI Lf.length)) 67 dd_Ch_count_67 (gd_nV hX (As := []) kw_164 kw_165 kw_166 (gd_sigOf (n := 0) kw_167 (by decide)) (by decide) 6 rfl rfl rfl rfl dd_Ch_count_67) (gd_codeOf kw_167) (by decide) [6] [0, 1, 2, 3, 4, 5, 7] rfl rfl rfl rfl rfl (by decide) (Nat.le_of_ble_eq_true rfl) (Nat.le_of_ble_eq_true rfl) (Nat.le_of_ble_eq_true rfl) (Nat.le_of_ble_eq_true rfl) (fun v9 w9 h9 => ?_) (fun E9 w9 q9 h9 => h9.elim)
    obtain ⟨rfl, rfl⟩ := h9
    refine gd_wsp [gd_ob 4 h [.ref c, .ref sp, .ref ru, .ref md, .ref fe, .ref rd, .int wa], gd_ob 3 ru [.ref ra, .ref rb, .int n], gd_aJ K ra 64 rn, gd_aI K rb 64 rs, gd_ob 0 c [.ref ca, .long w], gd_aJ K ca 64 f, gd_ob 1 fe [.ref fr, .int (nI Lf.length)], gd_ob 1 md [.ref mr, .int (nI Lm.length)]] [0, 1, 2, 3, 4, 5, 7, 6] rfl rfl rfl ?_
    show gd_W X K 1 6 [gd_ob 4 h [.ref c, .ref sp, .ref ru, .ref md, .ref fe, .ref rd, .int wa], gd_ob 3 ru [.ref ra, .ref rb, .int n], gd_aJ K ra 64 rn, gd_aI K rb 64 rs, gd_ob 0 c [.ref ca, .long w], gd_aJ K ca 64 f, gd_ob 1 fe [.ref fr, .int (nI Lf.length)], gd_ob 1 md [.ref mr, .int (nI Lm.length)]] [(0, .ref h), (1, .int (nI 2))] [.int (nI Lf.length)] 70
    exact gd_iret hX hE 70 dd_Ch_count_70 ⟨2, by decide, rfl, rfl, _, _, _, rfl⟩
  · skip
    refine gd_tableIn hX (off := 70) 1 71 dd_Ch_count_1 (by decide) (by decide) (by decide) (by decide) ?_
    refine gd_aload_n hX 71 dd_Ch_count_71 rfl ?_
    refine gd_get hX inC_Ch 0 3 72 dd_Ch_count_72 rfl rfl (by decide) kw_95 rfl ?_
    refine gd_call hX (st := []) (wr := [gd_ob 4 h [.ref c, .ref sp, .ref ru, .ref md, .ref fe, .ref rd, .int wa], gd_ob 3 ru [.ref ra, .ref rb, .int n], gd_aJ K ra 64 rn, gd_aI K rb 64 rs, gd_ob 0 c [.ref ca, .long w], gd_aJ K ca 64 f, gd_ob 1 fe [.ref fr, .int (nI Lf.length)]]) (ct_Oc_length _ K md mr (nI Lm.length)) 75 dd_Ch_count_75 (gd_nV hX (As := []) kw_164 kw_165 kw_166 (gd_sigOf (n := 0) kw_167 (by decide)) (by decide) 7 rfl rfl rfl rfl dd_Ch_count_75) (gd_codeOf kw_167) (by decide) [7] [0, 1, 2, 3, 4, 5, 6] rfl rfl rfl rfl rfl (by decide) (Nat.le_of_ble_eq_true rfl) (Nat.le_of_ble_eq_true rfl) (Nat.le_of_ble_eq_true rfl) (Nat.le_of_ble_eq_true rfl) (fun v9 w9 h9 => ?_) (fun E9 w9 q9 h9 => h9.elim)
    obtain ⟨rfl, rfl⟩ := h9
    show gd_W X K 1 6 [gd_ob 4 h [.ref c, .ref sp, .ref ru, .ref md, .ref fe, .ref rd, .int wa], gd_ob 3 ru [.ref ra, .ref rb, .int n], gd_aJ K ra 64 rn, gd_aI K rb 64 rs, gd_ob 0 c [.ref ca, .long w], gd_aJ K ca 64 f, gd_ob 1 fe [.ref fr, .int (nI Lf.length)], gd_ob 1 md [.ref mr, .int (nI Lm.length)]] [(0, .ref h), (1, .int (nI 3))] [.int (nI Lm.length)] 78
    exact gd_iret hX hE 78 dd_Ch_count_78 ⟨3, by decide, rfl, rfl, _, _, _, rfl⟩
  · skip
    refine gd_tableIn hX (off := 78) 1 79 dd_Ch_count_1 (by decide) (by decide) (by decide) (by decide) ?_
    refine gd_aload_n hX 79 dd_Ch_count_79 rfl ?_
    refine gd_call hX (st := []) (wr := [gd_ob 1 fe [.ref fr, .int (nI Lf.length)], gd_ob 1 md [.ref mr, .int (nI Lm.length)]]) (ct_Ch_octetsNow _ K h c sp ru md fe rd wa ra rb n rn rs ca w f) 80 dd_Ch_count_80 (gd_nV hX (As := []) kw_397 kw_399 kw_7 (gd_sigOf (n := 0) kw_400 (by decide)) (by decide) 0 rfl rfl rfl rfl dd_Ch_count_80) (gd_codeOf kw_400) (by decide) [0, 1, 2, 3, 4, 5] [6, 7] rfl rfl rfl rfl rfl (by decide) (Nat.le_of_ble_eq_true rfl) (Nat.le_of_ble_eq_true rfl) (Nat.le_of_ble_eq_true rfl) (Nat.le_of_ble_eq_true rfl) (fun v9 w9 h9 => ?_) (fun E9 w9 q9 h9 => h9.elim)
    obtain ⟨rfl, rn', rs', rfl⟩ := h9
    refine gd_wsp [gd_ob 4 h [.ref c, .ref sp, .ref ru, .ref md, .ref fe, .ref rd, .int wa], gd_ob 3 ru [.ref ra, .ref rb, .int (nI (ch_runs w f 64).length)], gd_aJ K ra 64 rn', gd_aI K rb 64 rs', gd_ob 0 c [.ref ca, .long w], gd_aJ K ca 64 f, gd_ob 1 fe [.ref fr, .int (nI Lf.length)], gd_ob 1 md [.ref mr, .int (nI Lm.length)]] [2, 3, 4, 5, 6, 7, 0, 1] rfl rfl rfl ?_
    show gd_W X K 1 6 [gd_ob 4 h [.ref c, .ref sp, .ref ru, .ref md, .ref fe, .ref rd, .int wa], gd_ob 3 ru [.ref ra, .ref rb, .int (nI (ch_runs w f 64).length)], gd_aJ K ra 64 rn', gd_aI K rb 64 rs', gd_ob 0 c [.ref ca, .long w], gd_aJ K ca 64 f, gd_ob 1 fe [.ref fr, .int (nI Lf.length)], gd_ob 1 md [.ref mr, .int (nI Lm.length)]] [(0, .ref h), (1, .int (nI 4))] [.int (nI (8 + (ch_octs (ch_runs w f 64)).length))] 83
    exact gd_iret hX hE 83 dd_Ch_count_83 ⟨4, by decide, rfl, rfl, _, _, _, rfl⟩
end
section
set_option maxRecDepth 100000 in
set_option maxHeartbeats 4000000 in
theorem ct_Rd_at (l : Launch) (K : gd_K) (h : Nat) (t : Int32) (fo : Int64) : gd_M l yy_Rd_at bb_Rd_at 1 (some .int) [] 0 0 0 0 K [.ref h] [gd_ob 2 h [.int t, .long fo]] (fun v w1 => v = some (.int t) ∧ w1 = [gd_ob 2 h [.int t, .long fo]]) (fun _ _ => False) := by
  refine gd_body (Nat.le_of_ble_eq_true rfl) (fun X hXl hin hE hX => ?_)
  refine gd_aload_n hX 0 dd_Rd_at_0 rfl ?_
  refine gd_get hX inC_Rd 0 0 1 dd_Rd_at_1 rfl rfl (by decide) kw_85 rfl ?_
  exact gd_iret hX hE 4 dd_Rd_at_4 ⟨rfl, rfl⟩
set_option maxRecDepth 100000 in
set_option maxHeartbeats 4000000 in
theorem ct_Rd_endFolded (l : Launch) (K : gd_K) (h t : Nat) (fo : Int64) (p q : Bool) : gd_M l yy_Rd_endFolded bb_Rd_endFolded 3 (some .boolean) [] 0 0 0 0 K [.ref h, .int (if p then 1 else 0), .int (if q then 1 else 0)] [gd_ob 2 h [.int (nI t), .long fo]] (fun v w1 => v = some (.int (if (p = true ∨ (fo = 0 ∧ q = false)) then 0 else 1)) ∧ w1 = [gd_ob 2 h [.int (nI (if (p = true ∨ (fo = 0 ∧ q = false)) then t else t + 1)), .long fo]]) (fun _ _ => False) := by
  refine gd_body (Nat.le_of_ble_eq_true rfl) (fun X hXl hin hE hX => ?_)
  refine gd_iload_n hX 0 dd_Rd_endFolded_0 rfl ?_
  refine gd_if_ne hX 1 17 dd_Rd_endFolded_1 (by decide) (fun h1 => ?_) (fun h1 => ?_)
  · skip
    have hC : (p = true ∨ (fo = 0 ∧ q = false)) := Or.inl (by cases p <;> simp_all)
    refine gd_iconst hX 17 dd_Rd_endFolded_17 (v := 0) (by decide) ?_
    exact gd_zret hX hE 18 dd_Rd_endFolded_18 rfl ⟨by rw [if_pos hC], by rw [if_pos hC]⟩
  · skip
    have hp : p = false := (ch_ib p).mp h1
    refine gd_aload_n hX 4 dd_Rd_endFolded_4 rfl ?_
    refine gd_get hX inC_Rd 0 1 5 dd_Rd_endFolded_5 rfl rfl (by decide) kw_86 rfl ?_
    refine gd_lconst hX 8 dd_Rd_endFolded_8 (v := 0) (by decide) ?_
    refine gd_lcmp hX 9 dd_Rd_endFolded_9 ?_
    refine gd_if_ne hX 10 19 dd_Rd_endFolded_10 (by decide) (fun h2 => ?_) (fun h2 => ?_)
    · skip
      have hC : ¬ (p = true ∨ (fo = 0 ∧ q = false)) := by rintro (h | h); { rw [hp] at h; cases h }; { exact h2 (ch_cmp0.mpr h.1) }
      refine gd_aload_n hX 19 dd_Rd_endFolded_19 rfl ?_
      refine gd_dup hX 20 dd_Rd_endFolded_20 rfl ?_
      refine gd_get hX inC_Rd 0 0 21 dd_Rd_endFolded_21 rfl rfl (by decide) kw_85 rfl ?_
      refine gd_iconst hX 24 dd_Rd_endFolded_24 (v := 1) (by decide) ?_
      refine gd_iadd hX 25 dd_Rd_endFolded_25 ?_
      refine gd_eqi (show ((nI t) + 1 : Int32) = nI (t + 1) from nI_1 _) ?_
      refine gd_put hX inC_Rd ty_Rd tyk_Rd nm_Rd 0 0 [gd_ob 2 h [.int (nI (t + 1)), .long fo]] 26 dd_Rd_endFolded_26 rfl rfl (by decide) kw_85 rfl rfl rfl (Nat.le_of_ble_eq_true rfl) rfl ?_
      refine gd_iconst hX 29 dd_Rd_endFolded_29 (v := 1) (by decide) ?_
      exact gd_zret hX hE 30 dd_Rd_endFolded_30 rfl ⟨by rw [if_neg hC], by rw [if_neg hC]⟩
    · skip
      have hf := ch_cmp0.mp h2
      refine gd_iload_n hX 13 dd_Rd_endFolded_13 rfl ?_
      refine gd_if_ne hX 14 19 dd_Rd_endFolded_14 (by decide) (fun h3 => ?_) (fun h3 => ?_)
      · skip
        have hC : ¬ (p = true ∨ (fo = 0 ∧ q = false)) := by rintro (h | h); { rw [hp] at h; cases h }; { exact h3 ((ch_ib q).mpr h.2) }
        refine gd_aload_n hX 19 dd_Rd_endFolded_19 rfl ?_
        refine gd_dup hX 20 dd_Rd_endFolded_20 rfl ?_
        refine gd_get hX inC_Rd 0 0 21 dd_Rd_endFolded_21 rfl rfl (by decide) kw_85 rfl ?_
        refine gd_iconst hX 24 dd_Rd_endFolded_24 (v := 1) (by decide) ?_
        refine gd_iadd hX 25 dd_Rd_endFolded_25 ?_
        refine gd_eqi (show ((nI t) + 1 : Int32) = nI (t + 1) from nI_1 _) ?_
        refine gd_put hX inC_Rd ty_Rd tyk_Rd nm_Rd 0 0 [gd_ob 2 h [.int (nI (t + 1)), .long fo]] 26 dd_Rd_endFolded_26 rfl rfl (by decide) kw_85 rfl rfl rfl (Nat.le_of_ble_eq_true rfl) rfl ?_
        refine gd_iconst hX 29 dd_Rd_endFolded_29 (v := 1) (by decide) ?_
        exact gd_zret hX hE 30 dd_Rd_endFolded_30 rfl ⟨by rw [if_neg hC], by rw [if_neg hC]⟩
      · skip
        have hC : (p = true ∨ (fo = 0 ∧ q = false)) := Or.inr ⟨hf, (ch_ib q).mp h3⟩
        refine gd_iconst hX 17 dd_Rd_endFolded_17 (v := 0) (by decide) ?_
        exact gd_zret hX hE 18 dd_Rd_endFolded_18 rfl ⟨by rw [if_pos hC], by rw [if_pos hC]⟩
set_option maxRecDepth 100000 in
set_option maxHeartbeats 4000000 in
theorem ct_Rd_readSize (l : Launch) (K : gd_K) (h a left : Nat) (fo : Int64) (fe fr : Nat) (L : List Nat) (ff : Nat → Int32) (hL : L.length ≤ 1000) (hB : ch_B ff L) (hO : ∀ x ∈ L, x < 256) (ha : a ≤ L.length) (hleft : left ≤ 64) : gd_M l yy_Rd_readSize bb_Rd_readSize 4 (some .int) [] 1 13 0 0 K [.ref h, .ref fe, .int (nI left)] [gd_ob 2 h [.int (nI a), .long fo], gd_ob 1 fe [.ref fr, .int (nI L.length)], gd_aB K fr 1000 ff] (fun v w1 => v = some (.int (nI (if (L.getD a 0 = 0 ∨ left < L.getD a 0) then 0 else L.getD a 0))) ∧ w1 = [gd_ob 2 h [.int (nI (if (L.getD a 0 = 0 ∨ left < L.getD a 0) then a else a + 1)), .long fo], gd_ob 1 fe [.ref fr, .int (nI L.length)], gd_aB K fr 1000 ff]) (fun _ _ => False) := by
  refine gd_body (Nat.le_of_ble_eq_true rfl) (fun X hXl hin hE hX => ?_)
  refine gd_aload_n hX 0 dd_Rd_readSize_0 rfl ?_
  refine gd_aload_n hX 1 dd_Rd_readSize_1 rfl ?_
  refine gd_get hX inC_Rd 0 0 2 dd_Rd_readSize_2 rfl rfl (by decide) kw_85 rfl ?_
  have ho := ch_getD_lt hO a
  refine gd_call hX (st := []) (wr := [gd_ob 2 h [.int (nI a), .long fo]]) (ct_Oc_octetOrZero _ K fe fr 1000 a ff L hL (by decide) (by omega) hB) 5 dd_Rd_readSize_5 (gd_nV hX (As := [.int (nI a)]) kw_356 kw_308 kw_309 (gd_sigOf (n := 1) kw_310 (by decide)) (by decide) 1 rfl rfl rfl rfl dd_Rd_readSize_5) (gd_codeOf kw_310) (by decide) [1, 2] [0] rfl rfl rfl rfl rfl (by decide) (Nat.le_of_ble_eq_true rfl) (Nat.le_of_ble_eq_true rfl) (Nat.le_of_ble_eq_true rfl) (Nat.le_of_ble_eq_true rfl) (fun v9 w9 h9 => ?_) (fun E9 w9 q9 h9 => h9.elim)
  obtain ⟨rfl, rfl⟩ := h9
  show gd_W X K 0 0 [gd_ob 2 h [.int (nI a), .long fo], gd_ob 1 fe [.ref fr, .int (nI L.length)], gd_aB K fr 1000 ff] [(0, .ref h), (1, .ref fe), (2, .int (nI left))] [.int (nI (L.getD a 0))] 8
  refine gd_istore_n hX [(3, .int (nI (L.getD a 0))), (0, .ref h), (1, .ref fe), (2, .int (nI left))] 8 dd_Rd_readSize_8 rfl (by decide) rfl ?_
  refine gd_iload_n hX 9 dd_Rd_readSize_9 rfl ?_
  refine gd_if_eq hX 10 18 dd_Rd_readSize_10 (by decide) (fun h1 => ?_) (fun h1 => ?_)
  · skip
    have hC : (L.getD a 0 = 0 ∨ left < L.getD a 0) := Or.inl (nI_0' (by omega) h1)
    refine gd_iconst hX 18 dd_Rd_readSize_18 (v := 0) (by decide) ?_
    refine gd_eqi (show (0 : Int32) = nI 0 from rfl) ?_
    exact gd_iret hX hE 19 dd_Rd_readSize_19 ⟨by rw [if_pos hC], by rw [if_pos hC]⟩
  · skip
    refine gd_iload_n hX 13 dd_Rd_readSize_13 rfl ?_
    refine gd_iload_n hX 14 dd_Rd_readSize_14 rfl ?_
    refine gd_icmp_le hX 15 20 dd_Rd_readSize_15 (by decide) (fun h2 => ?_) (fun h2 => ?_)
    · skip
      have hC : ¬ (L.getD a 0 = 0 ∨ left < L.getD a 0) := by rintro (h | h); { exact h1 (by rw [h]; rfl) }; { exact absurd ((nI_leI (by omega) (by omega)).mp h2) (by omega) }
      refine gd_aload_n hX 20 dd_Rd_readSize_20 rfl ?_
      refine gd_dup hX 21 dd_Rd_readSize_21 rfl ?_
      refine gd_get hX inC_Rd 0 0 22 dd_Rd_readSize_22 rfl rfl (by decide) kw_85 rfl ?_
      refine gd_iconst hX 25 dd_Rd_readSize_25 (v := 1) (by decide) ?_
      refine gd_iadd hX 26 dd_Rd_readSize_26 ?_
      refine gd_eqi (show ((nI a) + 1 : Int32) = nI (a + 1) from nI_1 _) ?_
      refine gd_put hX inC_Rd ty_Rd tyk_Rd nm_Rd 0 0 [gd_ob 2 h [.int (nI (a + 1)), .long fo], gd_ob 1 fe [.ref fr, .int (nI L.length)], gd_aB K fr 1000 ff] 27 dd_Rd_readSize_27 rfl rfl (by decide) kw_85 rfl rfl rfl (Nat.le_of_ble_eq_true rfl) rfl ?_
      refine gd_iload_n hX 30 dd_Rd_readSize_30 rfl ?_
      exact gd_iret hX hE 31 dd_Rd_readSize_31 ⟨by rw [if_neg hC], by rw [if_neg hC]⟩
    · skip
      have hC : (L.getD a 0 = 0 ∨ left < L.getD a 0) := Or.inr (Nat.lt_of_not_le (fun q => h2 ((nI_leI (by omega) (by omega)).mpr q)))
      refine gd_iconst hX 18 dd_Rd_readSize_18 (v := 0) (by decide) ?_
      refine gd_eqi (show (0 : Int32) = nI 0 from rfl) ?_
      exact gd_iret hX hE 19 dd_Rd_readSize_19 ⟨by rw [if_pos hC], by rw [if_pos hC]⟩
set_option maxRecDepth 100000 in
set_option maxHeartbeats 4000000 in
theorem ct_Rd_readMask (l : Launch) (K : gd_K) (h : Nat) (t : Int32) (fo : Int64) (fe fr : Nat) (L : List Nat) (ff : Nat → Int32) (hL : L.length ≤ 1000) (hB : ch_B ff L) : gd_M l yy_Rd_readMask bb_Rd_readMask 5 (some .long) [] 1 15 0 0 K [.ref h, .ref fe] [gd_ob 2 h [.int t, .long fo], gd_ob 1 fe [.ref fr, .int (nI L.length)], gd_aB K fr 1000 ff] (fun v w1 => v = some (.long (ch_rmask L 8)) ∧ w1 = [gd_ob 2 h [.int (nI 8), .long fo], gd_ob 1 fe [.ref fr, .int (nI L.length)], gd_aB K fr 1000 ff]) (fun _ _ => False) := by
  refine gd_body (Nat.le_of_ble_eq_true rfl) (fun X hXl hin hE hX => ?_)
  have loop : ∀ (m i : Nat), m + i = 8 → gd_W X K 0 0 [gd_ob 2 h [.int t, .long fo], gd_ob 1 fe [.ref fr, .int (nI L.length)], gd_aB K fr 1000 ff] [(0, .ref h), (1, .ref fe), (2, .long (ch_rmask L i)), (4, .int (nI i))] [] 5 := by
    intro m
    induction m with
    | zero =>
      intro i hi
      obtain rfl : i = 8 := by omega
      refine gd_iload hX 5 dd_Rd_readMask_5 rfl ?_
      refine gd_bipush hX 7 dd_Rd_readMask_7 (v := 8) (by decide) ?_
      refine gd_icmp_ge hX 9 34 dd_Rd_readMask_9 (by decide) (fun h1 => ?_) (fun h1 => ?_)
      · skip
        refine gd_aload_n hX 34 dd_Rd_readMask_34 rfl ?_
        refine gd_bipush hX 35 dd_Rd_readMask_35 (v := 8) (by decide) ?_
        refine gd_eqi (show (8 : Int32) = nI 8 from rfl) ?_
        refine gd_put hX inC_Rd ty_Rd tyk_Rd nm_Rd 0 0 [gd_ob 2 h [.int (nI 8), .long fo], gd_ob 1 fe [.ref fr, .int (nI L.length)], gd_aB K fr 1000 ff] 37 dd_Rd_readMask_37 rfl rfl (by decide) kw_85 rfl rfl rfl (Nat.le_of_ble_eq_true rfl) rfl ?_
        refine gd_lload_n hX 40 dd_Rd_readMask_40 rfl ?_
        exact gd_lret hX hE 41 dd_Rd_readMask_41 ⟨rfl, rfl⟩
      · skip
        exact absurd (by decide) h1
    | succ m ih =>
      intro i hi
      refine gd_iload hX 5 dd_Rd_readMask_5 rfl ?_
      refine gd_bipush hX 7 dd_Rd_readMask_7 (v := 8) (by decide) ?_
      refine gd_icmp_ge hX 9 34 dd_Rd_readMask_9 (by decide) (fun h1 => ?_) (fun h1 => ?_)
      · skip
        exact absurd ((nI_leI (a := 8) (by decide) (by omega)).mp h1) (by omega)
      · skip
        refine gd_lload_n hX 12 dd_Rd_readMask_12 rfl ?_
        refine gd_aload_n hX 13 dd_Rd_readMask_13 rfl ?_
        refine gd_iload hX 14 dd_Rd_readMask_14 rfl ?_
        refine gd_call hX (st := [.long (ch_rmask L i)]) (wr := [gd_ob 2 h [.int t, .long fo]]) (ct_Oc_octetOrZero _ K fe fr 1000 i ff L hL (by decide) (by omega) hB) 16 dd_Rd_readMask_16 (gd_nV hX (As := [.int (nI i)]) kw_356 kw_308 kw_309 (gd_sigOf (n := 1) kw_310 (by decide)) (by decide) 1 rfl rfl rfl rfl dd_Rd_readMask_16) (gd_codeOf kw_310) (by decide) [1, 2] [0] rfl rfl rfl rfl rfl (by decide) (Nat.le_of_ble_eq_true rfl) (Nat.le_of_ble_eq_true rfl) (Nat.le_of_ble_eq_true rfl) (Nat.le_of_ble_eq_true rfl) (fun v9 w9 h9 => ?_) (fun E9 w9 q9 h9 => h9.elim)
        obtain ⟨rfl, rfl⟩ := h9
        show gd_W X K 0 0 [gd_ob 2 h [.int t, .long fo], gd_ob 1 fe [.ref fr, .int (nI L.length)], gd_aB K fr 1000 ff] [(0, .ref h), (1, .ref fe), (2, .long (ch_rmask L i)), (4, .int (nI i))] [.int (nI (L.getD i 0)), .long (ch_rmask L i)] 19
        refine gd_i2l hX 19 dd_Rd_readMask_19 ?_
        refine gd_bipush hX 20 dd_Rd_readMask_20 (v := 8) (by decide) ?_
        refine gd_iload hX 22 dd_Rd_readMask_22 rfl ?_
        refine gd_imul hX 24 dd_Rd_readMask_24 ?_
        refine gd_eqi (show (8 * (nI i) : Int32) = nI (8 * i) from pk_mul 8 _) ?_
        refine gd_lshl hX 25 dd_Rd_readMask_25 ?_
        refine gd_lor hX 26 dd_Rd_readMask_26 ?_
        refine gd_eql (show ((ch_rmask L i) ||| (((nI (L.getD i 0)).toInt64) <<< ((nI (8 * i)).toInt64 &&& 63)) : Int64) = ch_rmask L (i + 1) from rfl) ?_
        refine gd_lstore_n hX [(2, .long (ch_rmask L (i + 1))), (0, .ref h), (1, .ref fe), (4, .int (nI i))] 27 dd_Rd_readMask_27 rfl (by decide) rfl ?_
        refine gd_iinc hX 3 [(4, .int (nI (i + 1))), (2, .long (ch_rmask L (i + 1))), (0, .ref h), (1, .ref fe)] 28 dd_Rd_readMask_28 rfl (gd_inc i) (by decide) rfl ?_
        refine gd_goto hX 31 5 dd_Rd_readMask_31 (by decide) ?_
        refine gd_lvs [(0, .ref h), (1, .ref fe), (2, .long (ch_rmask L (i + 1))), (4, .int (nI (i + 1)))] [2, 3, 1, 0] rfl ?_
        exact ih (i + 1) (by omega)
  refine gd_lconst hX 0 dd_Rd_readMask_0 (v := 0) (by decide) ?_
  refine gd_eql (show (0 : Int64) = ch_rmask L 0 from rfl) ?_
  refine gd_lstore_n hX [(2, .long (ch_rmask L 0)), (0, .ref h), (1, .ref fe)] 1 dd_Rd_readMask_1 rfl (by decide) rfl ?_
  refine gd_iconst hX 2 dd_Rd_readMask_2 (v := 0) (by decide) ?_
  refine gd_eqi (show (0 : Int32) = nI 0 from rfl) ?_
  refine gd_istore hX [(4, .int (nI 0)), (2, .long (ch_rmask L 0)), (0, .ref h), (1, .ref fe)] 3 dd_Rd_readMask_3 (by decide) rfl ?_
  refine gd_lvs [(0, .ref h), (1, .ref fe), (2, .long (ch_rmask L 0)), (4, .int (nI 0))] [2, 3, 1, 0] rfl ?_
  exact loop 8 0 rfl
set_option maxRecDepth 100000 in
set_option maxHeartbeats 4000000 in
theorem ct_Rd_readFolded (l : Launch) (K : gd_K) (h a0 : Nat) (fo : Int64) (q : Bool) (fe fr : Nat) (L : List Nat) (ff : Nat → Int32) (hL : L.length ≤ 1000) (hB : ch_B ff L) (hO : ∀ x ∈ L, x < 256) (ha : a0 ≤ L.length) : gd_M l yy_Rd_readFolded bb_Rd_readFolded 5 (some .boolean) [] 1 14 0 0 K [.ref h, .ref fe, .int (if q then 1 else 0)] [gd_ob 2 h [.int (nI a0), .long fo], gd_ob 1 fe [.ref fr, .int (nI L.length)], gd_aB K fr 1000 ff] (fun v w1 => v = some (.int (if (ch_rd L q 10 a0 0).2.isSome then 1 else 0)) ∧ ∃ fo', w1 = [gd_ob 2 h [.int (nI (ch_rd L q 10 a0 0).1), .long fo'], gd_ob 1 fe [.ref fr, .int (nI L.length)], gd_aB K fr 1000 ff] ∧ ∀ u, (ch_rd L q 10 a0 0).2 = some u → fo' = u) (fun _ _ => False) := by
  refine gd_body (Nat.le_of_ble_eq_true rfl) (fun X hXl hin hE hX => ?_)
  have loop : ∀ (n i a : Nat) (u : Int64), n + i = 10 → a ≤ L.length → (i = 0 → u = 0) → (ch_rd L q 10 a0 0) = ch_rd L q n a u → gd_W X K 0 0 [gd_ob 2 h [.int (nI a), .long u], gd_ob 1 fe [.ref fr, .int (nI L.length)], gd_aB K fr 1000 ff] [(0, .ref h), (1, .ref fe), (2, .int (if q then 1 else 0)), (3, .int (nI (7 * i)))] [] 7 := by
    intro n
    induction n with
    | zero =>
      intro i a u hi ha hu hres
      obtain rfl : i = 10 := by omega
      refine gd_iload_n hX 7 dd_Rd_readFolded_7 rfl ?_
      refine gd_bipush hX 8 dd_Rd_readFolded_8 (v := 63) (by decide) ?_
      refine gd_icmp_gt hX 10 111 dd_Rd_readFolded_10 (by decide) (fun h1 => ?_) (fun h1 => ?_)
      · skip
        have hr : (ch_rd L q 10 a0 0) = (a, none) := hres
        refine gd_iconst hX 111 dd_Rd_readFolded_111 (v := 0) (by decide) ?_
        exact gd_zret hX hE 112 dd_Rd_readFolded_112 rfl ⟨by rw [hr]; rfl, _, by rw [hr], by rw [hr]; exact fun _ h => nomatch h⟩
      · skip
        exact absurd (by decide) h1
    | succ n ih =>
      intro i a u hi ha hu hres
      obtain rfl : i = 9 - n := by omega
      have hn : n ≤ 9 := by omega
      have ho := ch_getD_lt hO a
      have hu9 : n = 9 → u = 0 := fun e => hu (by omega)
      refine gd_iload_n hX 7 dd_Rd_readFolded_7 rfl ?_
      refine gd_bipush hX 8 dd_Rd_readFolded_8 (v := 63) (by decide) ?_
      refine gd_icmp_gt hX 10 111 dd_Rd_readFolded_10 (by decide) (fun h1 => ?_) (fun h1 => ?_)
      · skip
        exact absurd ((nI_ltI (a := 63) (by decide) (by omega)).mp h1) (by omega)
      · skip
        refine gd_aload_n hX 13 dd_Rd_readFolded_13 rfl ?_
        refine gd_get hX inC_Rd 0 0 14 dd_Rd_readFolded_14 rfl rfl (by decide) kw_85 rfl ?_
        refine gd_aload_n hX 17 dd_Rd_readFolded_17 rfl ?_
        refine gd_call hX (st := [.int (nI a)]) (wr := [gd_ob 2 h [.int (nI a), .long u], gd_aB K fr 1000 ff]) (ct_Oc_length _ K fe fr (nI L.length)) 18 dd_Rd_readFolded_18 (gd_nV hX (As := []) kw_351 kw_165 kw_166 (gd_sigOf (n := 0) kw_167 (by decide)) (by decide) 1 rfl rfl rfl rfl dd_Rd_readFolded_18) (gd_codeOf kw_167) (by decide) [1] [0, 2] rfl rfl rfl rfl rfl (by decide) (Nat.le_of_ble_eq_true rfl) (Nat.le_of_ble_eq_true rfl) (Nat.le_of_ble_eq_true rfl) (Nat.le_of_ble_eq_true rfl) (fun v9 w9 h9 => ?_) (fun E9 w9 q9 h9 => h9.elim)
        obtain ⟨rfl, rfl⟩ := h9
        refine gd_wsp [gd_ob 2 h [.int (nI a), .long u], gd_ob 1 fe [.ref fr, .int (nI L.length)], gd_aB K fr 1000 ff] [0, 2, 1] rfl rfl rfl ?_
        show gd_W X K 0 0 [gd_ob 2 h [.int (nI a), .long u], gd_ob 1 fe [.ref fr, .int (nI L.length)], gd_aB K fr 1000 ff] [(0, .ref h), (1, .ref fe), (2, .int (if q then 1 else 0)), (3, .int (nI (7 * (9 - n))))] [.int (nI L.length), .int (nI a)] 21
        refine gd_icmp_lt hX 21 26 dd_Rd_readFolded_21 (by decide) (fun h2 => ?_) (fun h2 => ?_)
        · skip
          have h3 : a < L.length := (nI_ltI (by omega) (by omega)).mp h2
          refine gd_aload_n hX 26 dd_Rd_readFolded_26 rfl ?_
          refine gd_aload_n hX 27 dd_Rd_readFolded_27 rfl ?_
          refine gd_get hX inC_Rd 0 0 28 dd_Rd_readFolded_28 rfl rfl (by decide) kw_85 rfl ?_
          refine gd_call hX (st := []) (wr := [gd_ob 2 h [.int (nI a), .long u]]) (ct_Oc_octetOrZero _ K fe fr 1000 a ff L hL (by decide) (by omega) hB) 31 dd_Rd_readFolded_31 (gd_nV hX (As := [.int (nI a)]) kw_356 kw_308 kw_309 (gd_sigOf (n := 1) kw_310 (by decide)) (by decide) 1 rfl rfl rfl rfl dd_Rd_readFolded_31) (gd_codeOf kw_310) (by decide) [1, 2] [0] rfl rfl rfl rfl rfl (by decide) (Nat.le_of_ble_eq_true rfl) (Nat.le_of_ble_eq_true rfl) (Nat.le_of_ble_eq_true rfl) (Nat.le_of_ble_eq_true rfl) (fun v9 w9 h9 => ?_) (fun E9 w9 q9 h9 => h9.elim)
          obtain ⟨rfl, rfl⟩ := h9
          show gd_W X K 0 0 [gd_ob 2 h [.int (nI a), .long u], gd_ob 1 fe [.ref fr, .int (nI L.length)], gd_aB K fr 1000 ff] [(0, .ref h), (1, .ref fe), (2, .int (if q then 1 else 0)), (3, .int (nI (7 * (9 - n))))] [.int (nI (L.getD a 0))] 34
          refine gd_istore hX [(4, .int (nI (L.getD a 0))), (0, .ref h), (1, .ref fe), (2, .int (if q then 1 else 0)), (3, .int (nI (7 * (9 - n))))] 34 dd_Rd_readFolded_34 (by decide) rfl ?_
          refine gd_iload_n hX 36 dd_Rd_readFolded_36 rfl ?_
          refine gd_bipush hX 37 dd_Rd_readFolded_37 (v := 63) (by decide) ?_
          refine gd_icmp_ne hX 39 50 dd_Rd_readFolded_39 (by decide) (fun h4 => ?_) (fun h4 => ?_)
          · skip
            have hA : n = 0 → L.getD a 0 ≤ 1 := fun e => absurd (by rw [e]; rfl) h4
            refine gd_aload_n hX 50 dd_Rd_readFolded_50 rfl ?_
            refine gd_dup hX 51 dd_Rd_readFolded_51 rfl ?_
            refine gd_get hX inC_Rd 0 1 52 dd_Rd_readFolded_52 rfl rfl (by decide) kw_86 rfl ?_
            refine gd_iload hX 55 dd_Rd_readFolded_55 rfl ?_
            refine gd_bipush hX 57 dd_Rd_readFolded_57 (v := 127) (by decide) ?_
            refine gd_iand hX 59 dd_Rd_readFolded_59 ?_
            refine gd_eqi (show ((nI (L.getD a 0)) &&& 127 : Int32) = nI (L.getD a 0 % 128) from pk_andN (by omega) 7 (by decide)) ?_
            refine gd_i2l hX 60 dd_Rd_readFolded_60 ?_
            refine gd_iload_n hX 61 dd_Rd_readFolded_61 rfl ?_
            refine gd_lshl hX 62 dd_Rd_readFolded_62 ?_
            refine gd_lor hX 63 dd_Rd_readFolded_63 ?_
            refine gd_eql (show (u ||| (((nI (L.getD a 0 % 128)).toInt64) <<< ((nI (7 * (9 - n))).toInt64 &&& 63)) : Int64) = ch_sh7 u (L.getD a 0) (9 - n) from rfl) ?_
            refine gd_put hX inC_Rd ty_Rd tyk_Rd nm_Rd 0 1 [gd_ob 2 h [.int (nI a), .long (ch_sh7 u (L.getD a 0) (9 - n))], gd_ob 1 fe [.ref fr, .int (nI L.length)], gd_aB K fr 1000 ff] 64 dd_Rd_readFolded_64 rfl rfl (by decide) kw_86 rfl rfl rfl (Nat.le_of_ble_eq_true rfl) rfl ?_
            refine gd_iload hX 67 dd_Rd_readFolded_67 rfl ?_
            refine gd_sipush hX 69 dd_Rd_readFolded_69 (v := 128) (by decide) ?_
            refine gd_icmp_ge hX 72 95 dd_Rd_readFolded_72 (by decide) (fun h6 => ?_) (fun h6 => ?_)
            · skip
              have h7 : 128 ≤ L.getD a 0 := (nI_leI (a := 128) (by decide) (by omega)).mp h6
              refine gd_aload_n hX 95 dd_Rd_readFolded_95 rfl ?_
              refine gd_dup hX 96 dd_Rd_readFolded_96 rfl ?_
              refine gd_get hX inC_Rd 0 0 97 dd_Rd_readFolded_97 rfl rfl (by decide) kw_85 rfl ?_
              refine gd_iconst hX 100 dd_Rd_readFolded_100 (v := 1) (by decide) ?_
              refine gd_iadd hX 101 dd_Rd_readFolded_101 ?_
              refine gd_eqi (show ((nI a) + 1 : Int32) = nI (a + 1) from nI_1 _) ?_
              refine gd_put hX inC_Rd ty_Rd tyk_Rd nm_Rd 0 0 [gd_ob 2 h [.int (nI (a + 1)), .long (ch_sh7 u (L.getD a 0) (9 - n))], gd_ob 1 fe [.ref fr, .int (nI L.length)], gd_aB K fr 1000 ff] 102 dd_Rd_readFolded_102 rfl rfl (by decide) kw_85 rfl rfl rfl (Nat.le_of_ble_eq_true rfl) rfl ?_
              have hn1 : n ≠ 0 := fun e => by have := hA e; omega
              refine gd_iinc hX 4 [(3, .int (nI (7 * (10 - n)))), (4, .int (nI (L.getD a 0))), (0, .ref h), (1, .ref fe), (2, .int (if q then 1 else 0))] 105 dd_Rd_readFolded_105 rfl (by rw [show 7 * (10 - n) = 7 * (9 - n) + 7 by omega, ← nI_add]; rfl) (by decide) rfl ?_
              refine gd_goto hX 108 7 dd_Rd_readFolded_108 (by decide) ?_
              refine gd_lvs [(0, .ref h), (1, .ref fe), (2, .int (if q then 1 else 0)), (3, .int (nI (7 * (10 - n))))] [2, 3, 4, 0] rfl ?_
              exact ih (10 - n) (a + 1) _ (by omega) (by omega) (by omega) (by rw [hres, ch_rd_S, if_neg (by omega), if_neg (by omega), if_pos h7])
            · skip
              have h7 : L.getD a 0 < 128 := Nat.lt_of_not_le (fun q => h6 ((nI_leI (a := 128) (by decide) (by omega)).mpr q))
              refine gd_aload_n hX 75 dd_Rd_readFolded_75 rfl ?_
              refine gd_iload hX 76 dd_Rd_readFolded_76 rfl ?_
              refine gd_if_ne hX 78 89 dd_Rd_readFolded_78 (by decide) (fun h8 => ?_) (fun h8 => ?_)
              · skip
                have h9 : L.getD a 0 ≠ 0 := fun e => h8 (by rw [e]; rfl)
                refine gd_iconst hX 89 dd_Rd_readFolded_89 (v := 0) (by decide) ?_
                have hz := ch_rd_end (q := q) h3 hn h7 hA hu9 false (⟨fun h => (nomatch h), fun h => absurd h.1 h9⟩) hres
                refine gd_eqi (show (0 : Int32) = (if false then 1 else 0) from rfl) ?_
                refine gd_iload_n hX 90 dd_Rd_readFolded_90 rfl ?_
                refine gd_call hX (st := []) (wr := [gd_ob 1 fe [.ref fr, .int (nI L.length)], gd_aB K fr 1000 ff]) (ct_Rd_endFolded _ K h a (ch_sh7 u (L.getD a 0) (9 - n)) false q) 91 dd_Rd_readFolded_91 (gd_nV hX (As := [.int (if false then 1 else 0), .int (if q then 1 else 0)]) kw_375 kw_377 kw_6 (gd_sigOf (n := 2) kw_378 (by decide)) (by decide) 0 rfl rfl rfl rfl dd_Rd_readFolded_91) (gd_codeOf kw_378) (by decide) [0] [1, 2] rfl rfl rfl rfl rfl (by decide) (Nat.le_of_ble_eq_true rfl) (Nat.le_of_ble_eq_true rfl) (Nat.le_of_ble_eq_true rfl) (Nat.le_of_ble_eq_true rfl) (fun v9 w9 h9 => ?_) (fun E9 w9 q9 h9 => h9.elim)
                obtain ⟨rfl, rfl⟩ := h9
                refine gd_wsp [gd_ob 2 h [.int (nI (if (false = true ∨ (ch_sh7 u (L.getD a 0) (9 - n) = 0 ∧ q = false)) then a else a + 1)), .long (ch_sh7 u (L.getD a 0) (9 - n))], gd_ob 1 fe [.ref fr, .int (nI L.length)], gd_aB K fr 1000 ff] [2, 0, 1] rfl rfl rfl ?_
                show gd_W X K 0 0 [gd_ob 2 h [.int (nI (if (false = true ∨ (ch_sh7 u (L.getD a 0) (9 - n) = 0 ∧ q = false)) then a else a + 1)), .long (ch_sh7 u (L.getD a 0) (9 - n))], gd_ob 1 fe [.ref fr, .int (nI L.length)], gd_aB K fr 1000 ff] [(4, .int (nI (L.getD a 0))), (0, .ref h), (1, .ref fe), (2, .int (if q then 1 else 0)), (3, .int (nI (7 * (9 - n))))] [.int (if (false = true ∨ (ch_sh7 u (L.getD a 0) (9 - n) = 0 ∧ q = false)) then 0 else 1)] 94
                by_cases hC : (false = true ∨ (ch_sh7 u (L.getD a 0) (9 - n) = 0 ∧ q = false))
                · have hr := hz.1 hC
                  rw [if_pos hC, if_pos hC]
                  exact gd_zret hX hE 94 dd_Rd_readFolded_94 rfl ⟨by rw [hr]; rfl, _, by rw [hr], by rw [hr]; exact fun _ h => nomatch h⟩
                · have hr := hz.2 hC
                  rw [if_neg hC, if_neg hC]
                  exact gd_zret hX hE 94 dd_Rd_readFolded_94 rfl ⟨by rw [hr]; rfl, _, by rw [hr], by rw [hr]; exact fun _ h => Option.some.inj h⟩
              · skip
                have h9 : L.getD a 0 = 0 := nI_0' (by omega) h8
                refine gd_iload_n hX 81 dd_Rd_readFolded_81 rfl ?_
                refine gd_if_le hX 82 89 dd_Rd_readFolded_82 (by decide) (fun h10 => ?_) (fun h10 => ?_)
                · skip
                  have h11 : 9 - n = 0 := by have := (nI_leI (b := 0) (by omega) (by decide)).mp h10; omega
                  refine gd_iconst hX 89 dd_Rd_readFolded_89 (v := 0) (by decide) ?_
                  have hz := ch_rd_end (q := q) h3 hn h7 hA hu9 false (⟨fun h => (nomatch h), fun h => absurd h.2 (by omega)⟩) hres
                  refine gd_eqi (show (0 : Int32) = (if false then 1 else 0) from rfl) ?_
                  refine gd_iload_n hX 90 dd_Rd_readFolded_90 rfl ?_
                  refine gd_call hX (st := []) (wr := [gd_ob 1 fe [.ref fr, .int (nI L.length)], gd_aB K fr 1000 ff]) (ct_Rd_endFolded _ K h a (ch_sh7 u (L.getD a 0) (9 - n)) false q) 91 dd_Rd_readFolded_91 (gd_nV hX (As := [.int (if false then 1 else 0), .int (if q then 1 else 0)]) kw_375 kw_377 kw_6 (gd_sigOf (n := 2) kw_378 (by decide)) (by decide) 0 rfl rfl rfl rfl dd_Rd_readFolded_91) (gd_codeOf kw_378) (by decide) [0] [1, 2] rfl rfl rfl rfl rfl (by decide) (Nat.le_of_ble_eq_true rfl) (Nat.le_of_ble_eq_true rfl) (Nat.le_of_ble_eq_true rfl) (Nat.le_of_ble_eq_true rfl) (fun v9 w9 h9 => ?_) (fun E9 w9 q9 h9 => h9.elim)
                  obtain ⟨rfl, rfl⟩ := h9
                  refine gd_wsp [gd_ob 2 h [.int (nI (if (false = true ∨ (ch_sh7 u (L.getD a 0) (9 - n) = 0 ∧ q = false)) then a else a + 1)), .long (ch_sh7 u (L.getD a 0) (9 - n))], gd_ob 1 fe [.ref fr, .int (nI L.length)], gd_aB K fr 1000 ff] [2, 0, 1] rfl rfl rfl ?_
                  show gd_W X K 0 0 [gd_ob 2 h [.int (nI (if (false = true ∨ (ch_sh7 u (L.getD a 0) (9 - n) = 0 ∧ q = false)) then a else a + 1)), .long (ch_sh7 u (L.getD a 0) (9 - n))], gd_ob 1 fe [.ref fr, .int (nI L.length)], gd_aB K fr 1000 ff] [(4, .int (nI (L.getD a 0))), (0, .ref h), (1, .ref fe), (2, .int (if q then 1 else 0)), (3, .int (nI (7 * (9 - n))))] [.int (if (false = true ∨ (ch_sh7 u (L.getD a 0) (9 - n) = 0 ∧ q = false)) then 0 else 1)] 94
                  by_cases hC : (false = true ∨ (ch_sh7 u (L.getD a 0) (9 - n) = 0 ∧ q = false))
                  · have hr := hz.1 hC
                    rw [if_pos hC, if_pos hC]
                    exact gd_zret hX hE 94 dd_Rd_readFolded_94 rfl ⟨by rw [hr]; rfl, _, by rw [hr], by rw [hr]; exact fun _ h => nomatch h⟩
                  · have hr := hz.2 hC
                    rw [if_neg hC, if_neg hC]
                    exact gd_zret hX hE 94 dd_Rd_readFolded_94 rfl ⟨by rw [hr]; rfl, _, by rw [hr], by rw [hr]; exact fun _ h => Option.some.inj h⟩
                · skip
                  have h11 : 0 < 9 - n := Nat.pos_of_ne_zero (fun e => h10 (by rw [e]; decide))
                  refine gd_iconst hX 85 dd_Rd_readFolded_85 (v := 1) (by decide) ?_
                  refine gd_goto hX 86 90 dd_Rd_readFolded_86 (by decide) ?_
                  have hz := ch_rd_end (q := q) h3 hn h7 hA hu9 true (⟨fun _ => ⟨h9, h11⟩, fun _ => rfl⟩) hres
                  refine gd_eqi (show (1 : Int32) = (if true then 1 else 0) from rfl) ?_
                  refine gd_iload_n hX 90 dd_Rd_readFolded_90 rfl ?_
                  refine gd_call hX (st := []) (wr := [gd_ob 1 fe [.ref fr, .int (nI L.length)], gd_aB K fr 1000 ff]) (ct_Rd_endFolded _ K h a (ch_sh7 u (L.getD a 0) (9 - n)) true q) 91 dd_Rd_readFolded_91 (gd_nV hX (As := [.int (if true then 1 else 0), .int (if q then 1 else 0)]) kw_375 kw_377 kw_6 (gd_sigOf (n := 2) kw_378 (by decide)) (by decide) 0 rfl rfl rfl rfl dd_Rd_readFolded_91) (gd_codeOf kw_378) (by decide) [0] [1, 2] rfl rfl rfl rfl rfl (by decide) (Nat.le_of_ble_eq_true rfl) (Nat.le_of_ble_eq_true rfl) (Nat.le_of_ble_eq_true rfl) (Nat.le_of_ble_eq_true rfl) (fun v9 w9 h9 => ?_) (fun E9 w9 q9 h9 => h9.elim)
                  obtain ⟨rfl, rfl⟩ := h9
                  refine gd_wsp [gd_ob 2 h [.int (nI (if (true = true ∨ (ch_sh7 u (L.getD a 0) (9 - n) = 0 ∧ q = false)) then a else a + 1)), .long (ch_sh7 u (L.getD a 0) (9 - n))], gd_ob 1 fe [.ref fr, .int (nI L.length)], gd_aB K fr 1000 ff] [2, 0, 1] rfl rfl rfl ?_
                  show gd_W X K 0 0 [gd_ob 2 h [.int (nI (if (true = true ∨ (ch_sh7 u (L.getD a 0) (9 - n) = 0 ∧ q = false)) then a else a + 1)), .long (ch_sh7 u (L.getD a 0) (9 - n))], gd_ob 1 fe [.ref fr, .int (nI L.length)], gd_aB K fr 1000 ff] [(4, .int (nI (L.getD a 0))), (0, .ref h), (1, .ref fe), (2, .int (if q then 1 else 0)), (3, .int (nI (7 * (9 - n))))] [.int (if (true = true ∨ (ch_sh7 u (L.getD a 0) (9 - n) = 0 ∧ q = false)) then 0 else 1)] 94
                  by_cases hC : (true = true ∨ (ch_sh7 u (L.getD a 0) (9 - n) = 0 ∧ q = false))
                  · have hr := hz.1 hC
                    rw [if_pos hC, if_pos hC]
                    exact gd_zret hX hE 94 dd_Rd_readFolded_94 rfl ⟨by rw [hr]; rfl, _, by rw [hr], by rw [hr]; exact fun _ h => nomatch h⟩
                  · have hr := hz.2 hC
                    rw [if_neg hC, if_neg hC]
                    exact gd_zret hX hE 94 dd_Rd_readFolded_94 rfl ⟨by rw [hr]; rfl, _, by rw [hr], by rw [hr]; exact fun _ h => Option.some.inj h⟩
          · skip
            refine gd_iload hX 42 dd_Rd_readFolded_42 rfl ?_
            refine gd_iconst hX 44 dd_Rd_readFolded_44 (v := 1) (by decide) ?_
            refine gd_icmp_le hX 45 50 dd_Rd_readFolded_45 (by decide) (fun h5 => ?_) (fun h5 => ?_)
            · skip
              have hA : n = 0 → L.getD a 0 ≤ 1 := fun _ => (nI_leI (b := 1) (by omega) (by decide)).mp h5
              refine gd_aload_n hX 50 dd_Rd_readFolded_50 rfl ?_
              refine gd_dup hX 51 dd_Rd_readFolded_51 rfl ?_
              refine gd_get hX inC_Rd 0 1 52 dd_Rd_readFolded_52 rfl rfl (by decide) kw_86 rfl ?_
              refine gd_iload hX 55 dd_Rd_readFolded_55 rfl ?_
              refine gd_bipush hX 57 dd_Rd_readFolded_57 (v := 127) (by decide) ?_
              refine gd_iand hX 59 dd_Rd_readFolded_59 ?_
              refine gd_eqi (show ((nI (L.getD a 0)) &&& 127 : Int32) = nI (L.getD a 0 % 128) from pk_andN (by omega) 7 (by decide)) ?_
              refine gd_i2l hX 60 dd_Rd_readFolded_60 ?_
              refine gd_iload_n hX 61 dd_Rd_readFolded_61 rfl ?_
              refine gd_lshl hX 62 dd_Rd_readFolded_62 ?_
              refine gd_lor hX 63 dd_Rd_readFolded_63 ?_
              refine gd_eql (show (u ||| (((nI (L.getD a 0 % 128)).toInt64) <<< ((nI (7 * (9 - n))).toInt64 &&& 63)) : Int64) = ch_sh7 u (L.getD a 0) (9 - n) from rfl) ?_
              refine gd_put hX inC_Rd ty_Rd tyk_Rd nm_Rd 0 1 [gd_ob 2 h [.int (nI a), .long (ch_sh7 u (L.getD a 0) (9 - n))], gd_ob 1 fe [.ref fr, .int (nI L.length)], gd_aB K fr 1000 ff] 64 dd_Rd_readFolded_64 rfl rfl (by decide) kw_86 rfl rfl rfl (Nat.le_of_ble_eq_true rfl) rfl ?_
              refine gd_iload hX 67 dd_Rd_readFolded_67 rfl ?_
              refine gd_sipush hX 69 dd_Rd_readFolded_69 (v := 128) (by decide) ?_
              refine gd_icmp_ge hX 72 95 dd_Rd_readFolded_72 (by decide) (fun h6 => ?_) (fun h6 => ?_)
              · skip
                have h7 : 128 ≤ L.getD a 0 := (nI_leI (a := 128) (by decide) (by omega)).mp h6
                refine gd_aload_n hX 95 dd_Rd_readFolded_95 rfl ?_
                refine gd_dup hX 96 dd_Rd_readFolded_96 rfl ?_
                refine gd_get hX inC_Rd 0 0 97 dd_Rd_readFolded_97 rfl rfl (by decide) kw_85 rfl ?_
                refine gd_iconst hX 100 dd_Rd_readFolded_100 (v := 1) (by decide) ?_
                refine gd_iadd hX 101 dd_Rd_readFolded_101 ?_
                refine gd_eqi (show ((nI a) + 1 : Int32) = nI (a + 1) from nI_1 _) ?_
                refine gd_put hX inC_Rd ty_Rd tyk_Rd nm_Rd 0 0 [gd_ob 2 h [.int (nI (a + 1)), .long (ch_sh7 u (L.getD a 0) (9 - n))], gd_ob 1 fe [.ref fr, .int (nI L.length)], gd_aB K fr 1000 ff] 102 dd_Rd_readFolded_102 rfl rfl (by decide) kw_85 rfl rfl rfl (Nat.le_of_ble_eq_true rfl) rfl ?_
                have hn1 : n ≠ 0 := fun e => by have := hA e; omega
                refine gd_iinc hX 4 [(3, .int (nI (7 * (10 - n)))), (4, .int (nI (L.getD a 0))), (0, .ref h), (1, .ref fe), (2, .int (if q then 1 else 0))] 105 dd_Rd_readFolded_105 rfl (by rw [show 7 * (10 - n) = 7 * (9 - n) + 7 by omega, ← nI_add]; rfl) (by decide) rfl ?_
                refine gd_goto hX 108 7 dd_Rd_readFolded_108 (by decide) ?_
                refine gd_lvs [(0, .ref h), (1, .ref fe), (2, .int (if q then 1 else 0)), (3, .int (nI (7 * (10 - n))))] [2, 3, 4, 0] rfl ?_
                exact ih (10 - n) (a + 1) _ (by omega) (by omega) (by omega) (by rw [hres, ch_rd_S, if_neg (by omega), if_neg (by omega), if_pos h7])
              · skip
                have h7 : L.getD a 0 < 128 := Nat.lt_of_not_le (fun q => h6 ((nI_leI (a := 128) (by decide) (by omega)).mpr q))
                refine gd_aload_n hX 75 dd_Rd_readFolded_75 rfl ?_
                refine gd_iload hX 76 dd_Rd_readFolded_76 rfl ?_
                refine gd_if_ne hX 78 89 dd_Rd_readFolded_78 (by decide) (fun h8 => ?_) (fun h8 => ?_)
                · skip
                  have h9 : L.getD a 0 ≠ 0 := fun e => h8 (by rw [e]; rfl)
                  refine gd_iconst hX 89 dd_Rd_readFolded_89 (v := 0) (by decide) ?_
                  have hz := ch_rd_end (q := q) h3 hn h7 hA hu9 false (⟨fun h => (nomatch h), fun h => absurd h.1 h9⟩) hres
                  refine gd_eqi (show (0 : Int32) = (if false then 1 else 0) from rfl) ?_
                  refine gd_iload_n hX 90 dd_Rd_readFolded_90 rfl ?_
                  refine gd_call hX (st := []) (wr := [gd_ob 1 fe [.ref fr, .int (nI L.length)], gd_aB K fr 1000 ff]) (ct_Rd_endFolded _ K h a (ch_sh7 u (L.getD a 0) (9 - n)) false q) 91 dd_Rd_readFolded_91 (gd_nV hX (As := [.int (if false then 1 else 0), .int (if q then 1 else 0)]) kw_375 kw_377 kw_6 (gd_sigOf (n := 2) kw_378 (by decide)) (by decide) 0 rfl rfl rfl rfl dd_Rd_readFolded_91) (gd_codeOf kw_378) (by decide) [0] [1, 2] rfl rfl rfl rfl rfl (by decide) (Nat.le_of_ble_eq_true rfl) (Nat.le_of_ble_eq_true rfl) (Nat.le_of_ble_eq_true rfl) (Nat.le_of_ble_eq_true rfl) (fun v9 w9 h9 => ?_) (fun E9 w9 q9 h9 => h9.elim)
                  obtain ⟨rfl, rfl⟩ := h9
                  refine gd_wsp [gd_ob 2 h [.int (nI (if (false = true ∨ (ch_sh7 u (L.getD a 0) (9 - n) = 0 ∧ q = false)) then a else a + 1)), .long (ch_sh7 u (L.getD a 0) (9 - n))], gd_ob 1 fe [.ref fr, .int (nI L.length)], gd_aB K fr 1000 ff] [2, 0, 1] rfl rfl rfl ?_
                  show gd_W X K 0 0 [gd_ob 2 h [.int (nI (if (false = true ∨ (ch_sh7 u (L.getD a 0) (9 - n) = 0 ∧ q = false)) then a else a + 1)), .long (ch_sh7 u (L.getD a 0) (9 - n))], gd_ob 1 fe [.ref fr, .int (nI L.length)], gd_aB K fr 1000 ff] [(4, .int (nI (L.getD a 0))), (0, .ref h), (1, .ref fe), (2, .int (if q then 1 else 0)), (3, .int (nI (7 * (9 - n))))] [.int (if (false = true ∨ (ch_sh7 u (L.getD a 0) (9 - n) = 0 ∧ q = false)) then 0 else 1)] 94
                  by_cases hC : (false = true ∨ (ch_sh7 u (L.getD a 0) (9 - n) = 0 ∧ q = false))
                  · have hr := hz.1 hC
                    rw [if_pos hC, if_pos hC]
                    exact gd_zret hX hE 94 dd_Rd_readFolded_94 rfl ⟨by rw [hr]; rfl, _, by rw [hr], by rw [hr]; exact fun _ h => nomatch h⟩
                  · have hr := hz.2 hC
                    rw [if_neg hC, if_neg hC]
                    exact gd_zret hX hE 94 dd_Rd_readFolded_94 rfl ⟨by rw [hr]; rfl, _, by rw [hr], by rw [hr]; exact fun _ h => Option.some.inj h⟩
                · skip
                  have h9 : L.getD a 0 = 0 := nI_0' (by omega) h8
                  refine gd_iload_n hX 81 dd_Rd_readFolded_81 rfl ?_
                  refine gd_if_le hX 82 89 dd_Rd_readFolded_82 (by decide) (fun h10 => ?_) (fun h10 => ?_)
                  · skip
                    have h11 : 9 - n = 0 := by have := (nI_leI (b := 0) (by omega) (by decide)).mp h10; omega
                    refine gd_iconst hX 89 dd_Rd_readFolded_89 (v := 0) (by decide) ?_
                    have hz := ch_rd_end (q := q) h3 hn h7 hA hu9 false (⟨fun h => (nomatch h), fun h => absurd h.2 (by omega)⟩) hres
                    refine gd_eqi (show (0 : Int32) = (if false then 1 else 0) from rfl) ?_
                    refine gd_iload_n hX 90 dd_Rd_readFolded_90 rfl ?_
                    refine gd_call hX (st := []) (wr := [gd_ob 1 fe [.ref fr, .int (nI L.length)], gd_aB K fr 1000 ff]) (ct_Rd_endFolded _ K h a (ch_sh7 u (L.getD a 0) (9 - n)) false q) 91 dd_Rd_readFolded_91 (gd_nV hX (As := [.int (if false then 1 else 0), .int (if q then 1 else 0)]) kw_375 kw_377 kw_6 (gd_sigOf (n := 2) kw_378 (by decide)) (by decide) 0 rfl rfl rfl rfl dd_Rd_readFolded_91) (gd_codeOf kw_378) (by decide) [0] [1, 2] rfl rfl rfl rfl rfl (by decide) (Nat.le_of_ble_eq_true rfl) (Nat.le_of_ble_eq_true rfl) (Nat.le_of_ble_eq_true rfl) (Nat.le_of_ble_eq_true rfl) (fun v9 w9 h9 => ?_) (fun E9 w9 q9 h9 => h9.elim)
                    obtain ⟨rfl, rfl⟩ := h9
                    refine gd_wsp [gd_ob 2 h [.int (nI (if (false = true ∨ (ch_sh7 u (L.getD a 0) (9 - n) = 0 ∧ q = false)) then a else a + 1)), .long (ch_sh7 u (L.getD a 0) (9 - n))], gd_ob 1 fe [.ref fr, .int (nI L.length)], gd_aB K fr 1000 ff] [2, 0, 1] rfl rfl rfl ?_
                    show gd_W X K 0 0 [gd_ob 2 h [.int (nI (if (false = true ∨ (ch_sh7 u (L.getD a 0) (9 - n) = 0 ∧ q = false)) then a else a + 1)), .long (ch_sh7 u (L.getD a 0) (9 - n))], gd_ob 1 fe [.ref fr, .int (nI L.length)], gd_aB K fr 1000 ff] [(4, .int (nI (L.getD a 0))), (0, .ref h), (1, .ref fe), (2, .int (if q then 1 else 0)), (3, .int (nI (7 * (9 - n))))] [.int (if (false = true ∨ (ch_sh7 u (L.getD a 0) (9 - n) = 0 ∧ q = false)) then 0 else 1)] 94
                    by_cases hC : (false = true ∨ (ch_sh7 u (L.getD a 0) (9 - n) = 0 ∧ q = false))
                    · have hr := hz.1 hC
                      rw [if_pos hC, if_pos hC]
                      exact gd_zret hX hE 94 dd_Rd_readFolded_94 rfl ⟨by rw [hr]; rfl, _, by rw [hr], by rw [hr]; exact fun _ h => nomatch h⟩
                    · have hr := hz.2 hC
                      rw [if_neg hC, if_neg hC]
                      exact gd_zret hX hE 94 dd_Rd_readFolded_94 rfl ⟨by rw [hr]; rfl, _, by rw [hr], by rw [hr]; exact fun _ h => Option.some.inj h⟩
                  · skip
                    have h11 : 0 < 9 - n := Nat.pos_of_ne_zero (fun e => h10 (by rw [e]; decide))
                    refine gd_iconst hX 85 dd_Rd_readFolded_85 (v := 1) (by decide) ?_
                    refine gd_goto hX 86 90 dd_Rd_readFolded_86 (by decide) ?_
                    have hz := ch_rd_end (q := q) h3 hn h7 hA hu9 true (⟨fun _ => ⟨h9, h11⟩, fun _ => rfl⟩) hres
                    refine gd_eqi (show (1 : Int32) = (if true then 1 else 0) from rfl) ?_
                    refine gd_iload_n hX 90 dd_Rd_readFolded_90 rfl ?_
                    refine gd_call hX (st := []) (wr := [gd_ob 1 fe [.ref fr, .int (nI L.length)], gd_aB K fr 1000 ff]) (ct_Rd_endFolded _ K h a (ch_sh7 u (L.getD a 0) (9 - n)) true q) 91 dd_Rd_readFolded_91 (gd_nV hX (As := [.int (if true then 1 else 0), .int (if q then 1 else 0)]) kw_375 kw_377 kw_6 (gd_sigOf (n := 2) kw_378 (by decide)) (by decide) 0 rfl rfl rfl rfl dd_Rd_readFolded_91) (gd_codeOf kw_378) (by decide) [0] [1, 2] rfl rfl rfl rfl rfl (by decide) (Nat.le_of_ble_eq_true rfl) (Nat.le_of_ble_eq_true rfl) (Nat.le_of_ble_eq_true rfl) (Nat.le_of_ble_eq_true rfl) (fun v9 w9 h9 => ?_) (fun E9 w9 q9 h9 => h9.elim)
                    obtain ⟨rfl, rfl⟩ := h9
                    refine gd_wsp [gd_ob 2 h [.int (nI (if (true = true ∨ (ch_sh7 u (L.getD a 0) (9 - n) = 0 ∧ q = false)) then a else a + 1)), .long (ch_sh7 u (L.getD a 0) (9 - n))], gd_ob 1 fe [.ref fr, .int (nI L.length)], gd_aB K fr 1000 ff] [2, 0, 1] rfl rfl rfl ?_
                    show gd_W X K 0 0 [gd_ob 2 h [.int (nI (if (true = true ∨ (ch_sh7 u (L.getD a 0) (9 - n) = 0 ∧ q = false)) then a else a + 1)), .long (ch_sh7 u (L.getD a 0) (9 - n))], gd_ob 1 fe [.ref fr, .int (nI L.length)], gd_aB K fr 1000 ff] [(4, .int (nI (L.getD a 0))), (0, .ref h), (1, .ref fe), (2, .int (if q then 1 else 0)), (3, .int (nI (7 * (9 - n))))] [.int (if (true = true ∨ (ch_sh7 u (L.getD a 0) (9 - n) = 0 ∧ q = false)) then 0 else 1)] 94
                    by_cases hC : (true = true ∨ (ch_sh7 u (L.getD a 0) (9 - n) = 0 ∧ q = false))
                    · have hr := hz.1 hC
                      rw [if_pos hC, if_pos hC]
                      exact gd_zret hX hE 94 dd_Rd_readFolded_94 rfl ⟨by rw [hr]; rfl, _, by rw [hr], by rw [hr]; exact fun _ h => nomatch h⟩
                    · have hr := hz.2 hC
                      rw [if_neg hC, if_neg hC]
                      exact gd_zret hX hE 94 dd_Rd_readFolded_94 rfl ⟨by rw [hr]; rfl, _, by rw [hr], by rw [hr]; exact fun _ h => Option.some.inj h⟩
            · skip
              have h7 : n = 0 := by have := (nI_eq (b := 63) (by omega) (by decide)).mp h4; omega
              have h8 : ¬ L.getD a 0 ≤ 1 := fun q => h5 ((nI_leI (b := 1) (by omega) (by decide)).mpr q)
              have hr : (ch_rd L q 10 a0 0) = (a, none) := by rw [hres, ch_rd_S, if_neg (by omega), if_pos ⟨h7, by omega⟩]
              refine gd_iconst hX 48 dd_Rd_readFolded_48 (v := 0) (by decide) ?_
              exact gd_zret hX hE 49 dd_Rd_readFolded_49 rfl ⟨by rw [hr]; rfl, _, by rw [hr], by rw [hr]; exact fun _ h => nomatch h⟩
        · skip
          have hr : (ch_rd L q 10 a0 0) = (a, none) := by rw [hres, ch_rd_S, if_pos (Nat.le_of_not_lt (fun q => h2 ((nI_ltI (by omega) (by omega)).mpr q)))]
          refine gd_iconst hX 24 dd_Rd_readFolded_24 (v := 0) (by decide) ?_
          exact gd_zret hX hE 25 dd_Rd_readFolded_25 rfl ⟨by rw [hr]; rfl, _, by rw [hr], by rw [hr]; exact fun _ h => nomatch h⟩
  refine gd_aload_n hX 0 dd_Rd_readFolded_0 rfl ?_
  refine gd_lconst hX 1 dd_Rd_readFolded_1 (v := 0) (by decide) ?_
  refine gd_put hX inC_Rd ty_Rd tyk_Rd nm_Rd 0 1 [gd_ob 2 h [.int (nI a0), .long 0], gd_ob 1 fe [.ref fr, .int (nI L.length)], gd_aB K fr 1000 ff] 2 dd_Rd_readFolded_2 rfl rfl (by decide) kw_86 rfl rfl rfl (Nat.le_of_ble_eq_true rfl) rfl ?_
  refine gd_iconst hX 5 dd_Rd_readFolded_5 (v := 0) (by decide) ?_
  refine gd_eqi (show (0 : Int32) = nI (7 * 0) from rfl) ?_
  refine gd_istore_n hX [(3, .int (nI (7 * 0))), (0, .ref h), (1, .ref fe), (2, .int (if q then 1 else 0))] 6 dd_Rd_readFolded_6 rfl (by decide) rfl ?_
  refine gd_lvs [(0, .ref h), (1, .ref fe), (2, .int (if q then 1 else 0)), (3, .int (nI (7 * 0)))] [1, 2, 3, 0] rfl ?_
  exact loop 10 0 a0 0 rfl ha (fun _ => rfl) rfl
end
section
set_option maxRecDepth 100000 in
set_option maxHeartbeats 4000000 in
theorem ct_Rd_readRuns (l : Launch) (K : gd_K) (h sp sa : Nat) (fo w : Int64) (G : Nat → Int64) (fe fr : Nat) (L : List Nat) (ff : Nat → Int32) (hL : L.length ≤ 1000) (hB : ch_B ff L) (hO : ∀ x ∈ L, x < 256) (h8 : 8 ≤ L.length) : gd_M l yy_Rd_readRuns bb_Rd_readRuns 11 (some .boolean) [] 2 30 0 0 K [.ref h, .ref fe, .long w, .ref sp] [gd_ob 2 h [.int (nI 8), .long fo], gd_ob 1 fe [.ref fr, .int (nI L.length)], gd_aB K fr 1000 ff, gd_ob 0 sp [.ref sa, .long 0], gd_aJ K sa 64 G] (fun v w1 => v = some (.int (if (ch_cells L w 64 (ch_pop w 64) 0 0 true 8 (fun _ => 0)).2.isSome then 1 else 0)) ∧ ∃ fo' wm' G', w1 = [gd_ob 2 h [.int (nI (ch_cells L w 64 (ch_pop w 64) 0 0 true 8 (fun _ => 0)).1), .long fo'], gd_ob 1 fe [.ref fr, .int (nI L.length)], gd_aB K fr 1000 ff, gd_ob 0 sp [.ref sa, .long wm'], gd_aJ K sa 64 G'] ∧ ∀ z, (ch_cells L w 64 (ch_pop w 64) 0 0 true 8 (fun _ => 0)).2 = some z → wm' = w ∧ ∀ j, j < 64 → ch_bit w j = true → G' j = z j) (fun _ _ => False) := by
  refine gd_body (Nat.le_of_ble_eq_true rfl) (fun X hXl hin hE hX => ?_)
  have loop : ∀ (m k left lor : Nat) (v : Int64) (first : Bool) (a : Nat) (fo wm : Int64) (g G : Nat → Int64), m + k = 64 → left + ch_pop w k = ch_pop w 64 → lor ≤ 255 → a ≤ L.length → (∀ j, j < 64 → ch_bit wm j = (ch_bit w j && decide (j < k))) → (∀ j, j < k → ch_bit w j = true → G j = g j) → (ch_cells L w 64 (ch_pop w 64) 0 0 true 8 (fun _ => 0)) = ch_cells L w m left lor v first a g → gd_W X K 0 0 [gd_ob 2 h [.int (nI a), .long fo], gd_ob 1 fe [.ref fr, .int (nI L.length)], gd_aB K fr 1000 ff, gd_ob 0 sp [.ref sa, .long wm], gd_aJ K sa 64 G] [(0, .ref h), (1, .ref fe), (2, .long w), (4, .ref sp), (5, .int (nI left)), (6, .int (nI lor)), (7, .long v), (9, .int (if first then 1 else 0)), (10, .int (nI k))] [] 18 := by
    intro m
    induction m with
    | zero =>
      intro k left lor v first a fo wm g G hk hleft hlor ha hwm hG hres
      obtain rfl : k = 64 := by omega
      refine gd_iload hX 18 dd_Rd_readRuns_18 rfl ?_
      refine gd_bipush hX 20 dd_Rd_readRuns_20 (v := 64) (by decide) ?_
      refine gd_icmp_ge hX 22 113 dd_Rd_readRuns_22 (by decide) (fun h1 => ?_) (fun h1 => ?_)
      · skip
        have hr : (ch_cells L w 64 (ch_pop w 64) 0 0 true 8 (fun _ => 0)) = (a, some g) := hres
        have hw : wm = w := ch_bit_ext (fun j hj => by rw [hwm j hj]; simp [hj])
        refine gd_iconst hX 113 dd_Rd_readRuns_113 (v := 1) (by decide) ?_
        exact gd_zret hX hE 114 dd_Rd_readRuns_114 rfl ⟨by rw [hr]; rfl, _, _, _, by rw [hr], by rw [hr]; exact fun z hz => ⟨hw, fun j hj hb => by rw [← Option.some.inj hz]; exact hG j hj hb⟩⟩
      · skip
        exact absurd (by decide) h1
    | succ m ih =>
      intro k left lor v first a fo wm g G hk hleft hlor ha hwm hG hres
      obtain rfl : k = 63 - m := by omega
      have hk1 : 63 - m + 1 = 64 - m := by omega
      have hpl := ch_pop_le w 64
      have hS := ch_cells_S L w m left lor v first a g
      have hps : ch_pop w (64 - m) = ch_pop w (63 - m) + (if ch_bit w (63 - m) then 1 else 0) := by rw [← hk1]; rfl
      have hpm : ch_pop w (64 - m) ≤ ch_pop w 64 := by have := ch_pop_mono w (64 - m) m; rw [show 64 - m + m = 64 by omega] at this; exact this
      refine gd_iload hX 18 dd_Rd_readRuns_18 rfl ?_
      refine gd_bipush hX 20 dd_Rd_readRuns_20 (v := 64) (by decide) ?_
      refine gd_icmp_ge hX 22 113 dd_Rd_readRuns_22 (by decide) (fun h1 => ?_) (fun h1 => ?_)
      · skip
        exact absurd ((nI_leI (a := 64) (by decide) (by omega)).mp h1) (by omega)
      · skip
        refine gd_lload_n hX 25 dd_Rd_readRuns_25 rfl ?_
        refine gd_iload hX 26 dd_Rd_readRuns_26 rfl ?_
        refine gd_lushr hX 28 dd_Rd_readRuns_28 ?_
        refine gd_lconst hX 29 dd_Rd_readRuns_29 (v := 1) (by decide) ?_
        refine gd_land hX 30 dd_Rd_readRuns_30 ?_
        refine gd_eql (show (((w.toUInt64 >>> ((nI (63 - m)).toInt64.toUInt64 &&& Int64.toUInt64 63)).toInt64) &&& 1 : Int64) = (if ch_bit w (63 - m) then 1 else 0) from ch_isfull w (by omega)) ?_
        refine gd_lconst hX 31 dd_Rd_readRuns_31 (v := 0) (by decide) ?_
        refine gd_lcmp hX 32 dd_Rd_readRuns_32 ?_
        refine gd_if_ne hX 33 39 dd_Rd_readRuns_33 (by decide) (fun h2 => ?_) (fun h2 => ?_)
        · skip
          have hb : ch_bit w (63 - m) = true := by cases hb : ch_bit w (63 - m) with
            | true => rfl
            | false => exact absurd (by rw [hb]; rfl) h2
          rw [hb, if_pos rfl] at hps
          rw [hb, if_neg (by decide)] at hS
          have hwm2 : ∀ j, j < 64 → ch_bit (wm ||| ((1 : Int64) <<< ((nI (63 - m)).toInt64 &&& 63))) j = (ch_bit w j && decide (j < 64 - m)) := by
            intro j hj
            rw [ch_fill wm (by omega) j, hwm j hj]
            by_cases e : 63 - m = j
            · subst e; rw [hb]; simp; omega
            · have e2 : (j < 64 - m) = (j < 63 - m) := propext ⟨fun _ => by omega, fun _ => by omega⟩
              simp [e, e2]
          refine gd_iload hX 39 dd_Rd_readRuns_39 rfl ?_
          refine gd_if_ne hX 41 92 dd_Rd_readRuns_41 (by decide) (fun h3 => ?_) (fun h3 => ?_)
          · skip
            have hl0 : lor ≠ 0 := fun e => h3 (by rw [e]; rfl)
            rw [if_neg hl0] at hS
            refine gd_aload hX 92 dd_Rd_readRuns_92 rfl ?_
            refine gd_iload hX 94 dd_Rd_readRuns_94 rfl ?_
            refine gd_lload hX 96 dd_Rd_readRuns_96 rfl ?_
            refine gd_call hX (st := []) (wr := [gd_ob 2 h [.int (nI a), .long fo], gd_ob 1 fe [.ref fr, .int (nI L.length)], gd_aB K fr 1000 ff]) (ct_Cl_fill _ K sp sa (63 - m) wm G v (by omega)) 98 dd_Rd_readRuns_98 (gd_nV hX (As := [.int (nI (63 - m)), .long v]) kw_379 kw_251 kw_252 (gd_sigOf (n := 2) kw_253 (by decide)) (by decide) 3 rfl rfl rfl rfl dd_Rd_readRuns_98) (gd_codeOf kw_253) (by decide) [3, 4] [0, 1, 2] rfl rfl rfl rfl rfl (by decide) (Nat.le_of_ble_eq_true rfl) (Nat.le_of_ble_eq_true rfl) (Nat.le_of_ble_eq_true rfl) (Nat.le_of_ble_eq_true rfl) (fun v9 w9 h9 => ?_) (fun E9 w9 q9 h9 => h9.elim)
            obtain ⟨rfl, rfl⟩ := h9
            show gd_W X K 0 0 [gd_ob 2 h [.int (nI a), .long fo], gd_ob 1 fe [.ref fr, .int (nI L.length)], gd_aB K fr 1000 ff, gd_ob 0 sp [.ref sa, .long (wm ||| ((1 : Int64) <<< ((nI (63 - m)).toInt64 &&& 63)))], gd_aJ K sa 64 (vp_updL G (63 - m) v)] [(0, .ref h), (1, .ref fe), (2, .long w), (4, .ref sp), (5, .int (nI left)), (6, .int (nI lor)), (7, .long v), (9, .int (if first then 1 else 0)), (10, .int (nI (63 - m)))] [] 101
            refine gd_iinc hX 4 [(5, .int (nI (left - 1))), (0, .ref h), (1, .ref fe), (2, .long w), (4, .ref sp), (6, .int (nI lor)), (7, .long v), (9, .int (if first then 1 else 0)), (10, .int (nI (63 - m)))] 101 dd_Rd_readRuns_101 rfl (by rw [show left = left - 1 + 1 by omega]; exact pk_m1 _) (by decide) rfl ?_
            refine gd_iinc hX 5 [(6, .int (nI (lor - 1))), (5, .int (nI (left - 1))), (0, .ref h), (1, .ref fe), (2, .long w), (4, .ref sp), (7, .long v), (9, .int (if first then 1 else 0)), (10, .int (nI (63 - m)))] 104 dd_Rd_readRuns_104 rfl (by rw [show lor = lor - 1 + 1 by omega]; exact pk_m1 _) (by decide) rfl ?_
            refine gd_iinc hX 8 [(10, .int (nI (64 - m))), (6, .int (nI (lor - 1))), (5, .int (nI (left - 1))), (0, .ref h), (1, .ref fe), (2, .long w), (4, .ref sp), (7, .long v), (9, .int (if first then 1 else 0))] 107 dd_Rd_readRuns_107 rfl (by rw [← hk1]; exact gd_inc _) (by decide) rfl ?_
            refine gd_goto hX 110 18 dd_Rd_readRuns_110 (by decide) ?_
            refine gd_lvs [(0, .ref h), (1, .ref fe), (2, .long w), (4, .ref sp), (5, .int (nI (left - 1))), (6, .int (nI (lor - 1))), (7, .long v), (9, .int (if first then 1 else 0)), (10, .int (nI (64 - m)))] [3, 4, 5, 6, 2, 1, 7, 8, 0] rfl ?_
            exact ih (64 - m) (left - 1) (lor - 1) v first a fo _ (vp_updL g (63 - m) v) _ (by omega) (by omega) (by omega) (by omega) hwm2 (fun j hj hbj => by
              by_cases e : j = 63 - m
              · subst e; rw [pk_uLs, pk_uLs]
              · rw [pk_uLn e, pk_uLn e]; exact hG j (by omega) hbj) (by rw [hres, hS])
          · skip
            have hl0 : lor = 0 := nI_0' (by omega) h3
            rw [if_pos hl0] at hS
            have ho := ch_getD_lt hO a
            refine gd_aload_n hX 44 dd_Rd_readRuns_44 rfl ?_
            refine gd_aload_n hX 45 dd_Rd_readRuns_45 rfl ?_
            refine gd_iload hX 46 dd_Rd_readRuns_46 rfl ?_
            refine gd_call hX (st := []) (wr := [gd_ob 0 sp [.ref sa, .long wm], gd_aJ K sa 64 G]) (ct_Rd_readSize _ K h a left fo fe fr L ff hL hB hO ha (by omega)) 48 dd_Rd_readRuns_48 (gd_nV hX (As := [.ref fe, .int (nI left)]) kw_367 kw_369 kw_4 (gd_sigOf (n := 2) kw_370 (by decide)) (by decide) 0 rfl rfl rfl rfl dd_Rd_readRuns_48) (gd_codeOf kw_370) (by decide) [0, 1, 2] [3, 4] rfl rfl rfl rfl rfl (by decide) (Nat.le_of_ble_eq_true rfl) (Nat.le_of_ble_eq_true rfl) (Nat.le_of_ble_eq_true rfl) (Nat.le_of_ble_eq_true rfl) (fun v9 w9 h9 => ?_) (fun E9 w9 q9 h9 => h9.elim)
            obtain ⟨rfl, rfl⟩ := h9
            refine gd_wsp [gd_ob 2 h [.int (nI (if (L.getD a 0 = 0 ∨ left < L.getD a 0) then a else a + 1)), .long fo], gd_ob 1 fe [.ref fr, .int (nI L.length)], gd_aB K fr 1000 ff, gd_ob 0 sp [.ref sa, .long wm], gd_aJ K sa 64 G] [2, 3, 4, 0, 1] rfl rfl rfl ?_
            show gd_W X K 0 0 [gd_ob 2 h [.int (nI (if (L.getD a 0 = 0 ∨ left < L.getD a 0) then a else a + 1)), .long fo], gd_ob 1 fe [.ref fr, .int (nI L.length)], gd_aB K fr 1000 ff, gd_ob 0 sp [.ref sa, .long wm], gd_aJ K sa 64 G] [(0, .ref h), (1, .ref fe), (2, .long w), (4, .ref sp), (5, .int (nI left)), (6, .int (nI lor)), (7, .long v), (9, .int (if first then 1 else 0)), (10, .int (nI (63 - m)))] [.int (nI (if (L.getD a 0 = 0 ∨ left < L.getD a 0) then 0 else L.getD a 0))] 51
            by_cases hC : (L.getD a 0 = 0 ∨ left < L.getD a 0)
            · skip
              rw [if_pos hC, if_pos hC]
              rw [if_pos hC] at hS
              refine gd_istore hX [(6, .int (nI 0)), (0, .ref h), (1, .ref fe), (2, .long w), (4, .ref sp), (5, .int (nI left)), (7, .long v), (9, .int (if first then 1 else 0)), (10, .int (nI (63 - m)))] 51 dd_Rd_readRuns_51 (by decide) rfl ?_
              refine gd_iload hX 53 dd_Rd_readRuns_53 rfl ?_
              refine gd_if_eq hX 55 68 dd_Rd_readRuns_55 (by decide) (fun h4 => ?_) (fun h4 => ?_)
              · skip
                have hr : (ch_cells L w 64 (ch_pop w 64) 0 0 true 8 (fun _ => 0)) = (a, none) := by rw [hres, hS]
                refine gd_iconst hX 68 dd_Rd_readRuns_68 (v := 0) (by decide) ?_
                exact gd_zret hX hE 69 dd_Rd_readRuns_69 rfl ⟨by rw [hr]; rfl, _, _, _, by rw [hr], by rw [hr]; exact fun z hz => nomatch hz⟩
              · skip
                exact absurd rfl h4
            · skip
              rw [if_neg hC, if_neg hC]
              rw [if_neg hC] at hS
              have hal : a < L.length := Nat.lt_of_not_le (fun e => hC (Or.inl (ch_getD_out e)))
              refine gd_istore hX [(6, .int (nI (L.getD a 0))), (0, .ref h), (1, .ref fe), (2, .long w), (4, .ref sp), (5, .int (nI left)), (7, .long v), (9, .int (if first then 1 else 0)), (10, .int (nI (63 - m)))] 51 dd_Rd_readRuns_51 (by decide) rfl ?_
              refine gd_iload hX 53 dd_Rd_readRuns_53 rfl ?_
              refine gd_if_eq hX 55 68 dd_Rd_readRuns_55 (by decide) (fun h4 => ?_) (fun h4 => ?_)
              · skip
                exact absurd (Or.inl (nI_0' (by omega) h4)) hC
              · skip
                refine gd_aload_n hX 58 dd_Rd_readRuns_58 rfl ?_
                refine gd_aload_n hX 59 dd_Rd_readRuns_59 rfl ?_
                refine gd_iload hX 60 dd_Rd_readRuns_60 rfl ?_
                refine gd_call hX (st := []) (wr := [gd_ob 0 sp [.ref sa, .long wm], gd_aJ K sa 64 G]) (ct_Rd_readFolded _ K h (a + 1) fo first fe fr L ff hL hB hO (by omega)) 62 dd_Rd_readRuns_62 (gd_nV hX (As := [.ref fe, .int (if first then 1 else 0)]) kw_371 kw_373 kw_5 (gd_sigOf (n := 2) kw_374 (by decide)) (by decide) 0 rfl rfl rfl rfl dd_Rd_readRuns_62) (gd_codeOf kw_374) (by decide) [0, 1, 2] [3, 4] rfl rfl rfl rfl rfl (by decide) (Nat.le_of_ble_eq_true rfl) (Nat.le_of_ble_eq_true rfl) (Nat.le_of_ble_eq_true rfl) (Nat.le_of_ble_eq_true rfl) (fun v9 w9 h9 => ?_) (fun E9 w9 q9 h9 => h9.elim)
                obtain ⟨rfl, fo2, rfl, hfo⟩ := h9
                refine gd_wsp [gd_ob 2 h [.int (nI (ch_rd L first 10 (a + 1) 0).1), .long fo2], gd_ob 1 fe [.ref fr, .int (nI L.length)], gd_aB K fr 1000 ff, gd_ob 0 sp [.ref sa, .long wm], gd_aJ K sa 64 G] [2, 3, 4, 0, 1] rfl rfl rfl ?_
                show gd_W X K 0 0 [gd_ob 2 h [.int (nI (ch_rd L first 10 (a + 1) 0).1), .long fo2], gd_ob 1 fe [.ref fr, .int (nI L.length)], gd_aB K fr 1000 ff, gd_ob 0 sp [.ref sa, .long wm], gd_aJ K sa 64 G] [(6, .int (nI (L.getD a 0))), (0, .ref h), (1, .ref fe), (2, .long w), (4, .ref sp), (5, .int (nI left)), (7, .long v), (9, .int (if first then 1 else 0)), (10, .int (nI (63 - m)))] [.int (if (ch_rd L first 10 (a + 1) 0).2.isSome then 1 else 0)] 65
                have hdl := ch_rd_le L first 10 (a + 1) 0 (by omega)
                rcases hrd : (ch_rd L first 10 (a + 1) 0) with ⟨a1, ru⟩
                rw [hrd] at hS hfo hdl
                cases ru with
                | none =>
                  show gd_W X K 0 0 [gd_ob 2 h [.int (nI a1), .long fo2], gd_ob 1 fe [.ref fr, .int (nI L.length)], gd_aB K fr 1000 ff, gd_ob 0 sp [.ref sa, .long wm], gd_aJ K sa 64 G] [(6, .int (nI (L.getD a 0))), (0, .ref h), (1, .ref fe), (2, .long w), (4, .ref sp), (5, .int (nI left)), (7, .long v), (9, .int (if first then 1 else 0)), (10, .int (nI (63 - m)))] [.int (if (none : Option Int64).isSome then 1 else 0)] 65
                  refine gd_if_ne hX 65 70 dd_Rd_readRuns_65 (by decide) (fun h5 => ?_) (fun h5 => ?_)
                  · skip
                    exact absurd rfl h5
                  · skip
                    have hr : (ch_cells L w 64 (ch_pop w 64) 0 0 true 8 (fun _ => 0)) = (a1, none) := by rw [hres, hS]
                    refine gd_iconst hX 68 dd_Rd_readRuns_68 (v := 0) (by decide) ?_
                    exact gd_zret hX hE 69 dd_Rd_readRuns_69 rfl ⟨by rw [hr]; rfl, _, _, _, by rw [hr], by rw [hr]; exact fun z hz => nomatch hz⟩
                | some u =>
                  obtain rfl := hfo u rfl
                  show gd_W X K 0 0 [gd_ob 2 h [.int (nI a1), .long fo2], gd_ob 1 fe [.ref fr, .int (nI L.length)], gd_aB K fr 1000 ff, gd_ob 0 sp [.ref sa, .long wm], gd_aJ K sa 64 G] [(6, .int (nI (L.getD a 0))), (0, .ref h), (1, .ref fe), (2, .long w), (4, .ref sp), (5, .int (nI left)), (7, .long v), (9, .int (if first then 1 else 0)), (10, .int (nI (63 - m)))] [.int (if (some fo2 : Option Int64).isSome then 1 else 0)] 65
                  refine gd_if_ne hX 65 70 dd_Rd_readRuns_65 (by decide) (fun h5 => ?_) (fun h5 => ?_)
                  · skip
                    refine gd_lload hX 70 dd_Rd_readRuns_70 rfl ?_
                    refine gd_aload_n hX 72 dd_Rd_readRuns_72 rfl ?_
                    refine gd_get hX inC_Rd 0 1 73 dd_Rd_readRuns_73 rfl rfl (by decide) kw_86 rfl ?_
                    refine gd_iconst hX 76 dd_Rd_readRuns_76 (v := 1) (by decide) ?_
                    refine gd_lushr hX 77 dd_Rd_readRuns_77 ?_
                    refine gd_aload_n hX 78 dd_Rd_readRuns_78 rfl ?_
                    refine gd_get hX inC_Rd 0 1 79 dd_Rd_readRuns_79 rfl rfl (by decide) kw_86 rfl ?_
                    refine gd_lconst hX 82 dd_Rd_readRuns_82 (v := 1) (by decide) ?_
                    refine gd_land hX 83 dd_Rd_readRuns_83 ?_
                    refine gd_lneg hX 84 dd_Rd_readRuns_84 ?_
                    refine gd_lxor hX 85 dd_Rd_readRuns_85 ?_
                    refine gd_ladd hX 86 dd_Rd_readRuns_86 ?_
                    refine gd_eql (show (v + (((fo2.toUInt64 >>> ((1 : Int32).toInt64.toUInt64 &&& Int64.toUInt64 63)).toInt64) ^^^ (-(fo2 &&& 1))) : Int64) = v + ch_un fo2 from rfl) ?_
                    refine gd_lstore hX [(7, .long (v + ch_un fo2)), (6, .int (nI (L.getD a 0))), (0, .ref h), (1, .ref fe), (2, .long w), (4, .ref sp), (5, .int (nI left)), (9, .int (if first then 1 else 0)), (10, .int (nI (63 - m)))] 87 dd_Rd_readRuns_87 (by decide) rfl ?_
                    refine gd_iconst hX 89 dd_Rd_readRuns_89 (v := 0) (by decide) ?_
                    refine gd_eqi (show (0 : Int32) = (if false then 1 else 0) from rfl) ?_
                    refine gd_istore hX [(9, .int (if false then 1 else 0)), (7, .long (v + ch_un fo2)), (6, .int (nI (L.getD a 0))), (0, .ref h), (1, .ref fe), (2, .long w), (4, .ref sp), (5, .int (nI left)), (10, .int (nI (63 - m)))] 90 dd_Rd_readRuns_90 (by decide) rfl ?_
                    have hdl : a1 ≤ L.length := hdl
                    refine gd_aload hX 92 dd_Rd_readRuns_92 rfl ?_
                    refine gd_iload hX 94 dd_Rd_readRuns_94 rfl ?_
                    refine gd_lload hX 96 dd_Rd_readRuns_96 rfl ?_
                    refine gd_call hX (st := []) (wr := [gd_ob 2 h [.int (nI a1), .long fo2], gd_ob 1 fe [.ref fr, .int (nI L.length)], gd_aB K fr 1000 ff]) (ct_Cl_fill _ K sp sa (63 - m) wm G (v + ch_un fo2) (by omega)) 98 dd_Rd_readRuns_98 (gd_nV hX (As := [.int (nI (63 - m)), .long (v + ch_un fo2)]) kw_379 kw_251 kw_252 (gd_sigOf (n := 2) kw_253 (by decide)) (by decide) 3 rfl rfl rfl rfl dd_Rd_readRuns_98) (gd_codeOf kw_253) (by decide) [3, 4] [0, 1, 2] rfl rfl rfl rfl rfl (by decide) (Nat.le_of_ble_eq_true rfl) (Nat.le_of_ble_eq_true rfl) (Nat.le_of_ble_eq_true rfl) (Nat.le_of_ble_eq_true rfl) (fun v9 w9 h9 => ?_) (fun E9 w9 q9 h9 => h9.elim)
                    obtain ⟨rfl, rfl⟩ := h9
                    show gd_W X K 0 0 [gd_ob 2 h [.int (nI a1), .long fo2], gd_ob 1 fe [.ref fr, .int (nI L.length)], gd_aB K fr 1000 ff, gd_ob 0 sp [.ref sa, .long (wm ||| ((1 : Int64) <<< ((nI (63 - m)).toInt64 &&& 63)))], gd_aJ K sa 64 (vp_updL G (63 - m) (v + ch_un fo2))] [(9, .int (if false then 1 else 0)), (7, .long (v + ch_un fo2)), (6, .int (nI (L.getD a 0))), (0, .ref h), (1, .ref fe), (2, .long w), (4, .ref sp), (5, .int (nI left)), (10, .int (nI (63 - m)))] [] 101
                    refine gd_iinc hX 7 [(5, .int (nI (left - 1))), (9, .int (if false then 1 else 0)), (7, .long (v + ch_un fo2)), (6, .int (nI (L.getD a 0))), (0, .ref h), (1, .ref fe), (2, .long w), (4, .ref sp), (10, .int (nI (63 - m)))] 101 dd_Rd_readRuns_101 rfl (by rw [show left = left - 1 + 1 by omega]; exact pk_m1 _) (by decide) rfl ?_
                    refine gd_iinc hX 3 [(6, .int (nI (L.getD a 0 - 1))), (5, .int (nI (left - 1))), (9, .int (if false then 1 else 0)), (7, .long (v + ch_un fo2)), (0, .ref h), (1, .ref fe), (2, .long w), (4, .ref sp), (10, .int (nI (63 - m)))] 104 dd_Rd_readRuns_104 rfl (by rw [show L.getD a 0 = L.getD a 0 - 1 + 1 by omega]; exact pk_m1 _) (by decide) rfl ?_
                    refine gd_iinc hX 8 [(10, .int (nI (64 - m))), (6, .int (nI (L.getD a 0 - 1))), (5, .int (nI (left - 1))), (9, .int (if false then 1 else 0)), (7, .long (v + ch_un fo2)), (0, .ref h), (1, .ref fe), (2, .long w), (4, .ref sp)] 107 dd_Rd_readRuns_107 rfl (by rw [← hk1]; exact gd_inc _) (by decide) rfl ?_
                    refine gd_goto hX 110 18 dd_Rd_readRuns_110 (by decide) ?_
                    refine gd_lvs [(0, .ref h), (1, .ref fe), (2, .long w), (4, .ref sp), (5, .int (nI (left - 1))), (6, .int (nI (L.getD a 0 - 1))), (7, .long (v + ch_un fo2)), (9, .int (if false then 1 else 0)), (10, .int (nI (64 - m)))] [5, 6, 7, 8, 2, 1, 4, 3, 0] rfl ?_
                    exact ih (64 - m) (left - 1) (L.getD a 0 - 1) (v + ch_un fo2) false a1 fo2 _ (vp_updL g (63 - m) (v + ch_un fo2)) _ (by omega) (by omega) (by omega) (by omega) hwm2 (fun j hj hbj => by
                      by_cases e : j = 63 - m
                      · subst e; rw [pk_uLs, pk_uLs]
                      · rw [pk_uLn e, pk_uLn e]; exact hG j (by omega) hbj) (by rw [hres, hS])
                  · skip
                    exact absurd (show (1 : Int32) = 0 from h5) (by decide)
        · skip
          have hb : ch_bit w (63 - m) = false := by cases hb : ch_bit w (63 - m) with
            | false => rfl
            | true => rw [hb] at h2; exact absurd h2 (by decide)
          rw [hb] at hps
          rw [hb, if_pos rfl] at hS
          refine gd_goto hX 36 107 dd_Rd_readRuns_36 (by decide) ?_
          refine gd_iinc hX 8 [(10, .int (nI (64 - m))), (0, .ref h), (1, .ref fe), (2, .long w), (4, .ref sp), (5, .int (nI left)), (6, .int (nI lor)), (7, .long v), (9, .int (if first then 1 else 0))] 107 dd_Rd_readRuns_107 rfl (by rw [← hk1]; exact gd_inc _) (by decide) rfl ?_
          refine gd_goto hX 110 18 dd_Rd_readRuns_110 (by decide) ?_
          refine gd_lvs [(0, .ref h), (1, .ref fe), (2, .long w), (4, .ref sp), (5, .int (nI left)), (6, .int (nI lor)), (7, .long v), (9, .int (if first then 1 else 0)), (10, .int (nI (64 - m)))] [1, 2, 3, 4, 5, 6, 7, 8, 0] rfl ?_
          exact ih (64 - m) left lor v first a fo wm g G (by omega) (by rw [hps]; exact hleft) hlor ha (fun j hj => by
            rw [hwm j hj]
            by_cases e : j = 63 - m
            · subst e; rw [hb]; rfl
            · have e2 : (j < 64 - m) = (j < 63 - m) := propext ⟨fun _ => by omega, fun _ => by omega⟩
              simp only [e2]) (fun j hj hbj => hG j (by have : j ≠ 63 - m := (fun e => by rw [e, hb] at hbj; cases hbj); omega) hbj) (by rw [hres, hS])
  refine gd_lload_n hX 0 dd_Rd_readRuns_0 rfl ?_
  refine gd_call hX (st := []) (wr := [gd_ob 2 h [.int (nI 8), .long fo], gd_ob 1 fe [.ref fr, .int (nI L.length)], gd_aB K fr 1000 ff, gd_ob 0 sp [.ref sa, .long 0], gd_aJ K sa 64 G]) (ct_Lo_bitCount _ K w) 1 dd_Rd_readRuns_1 (gd_nS hX (As := [.long w]) kw_361 kw_362 kw_25 (gd_nmOf kw_363) (gd_sigOf (n := 1) kw_363 (by decide)) (by decide) rfl rfl dd_Rd_readRuns_1) (gd_codeOf kw_363) (by decide) [] [0, 1, 2, 3, 4] rfl rfl rfl rfl rfl (by decide) (Nat.le_of_ble_eq_true rfl) (Nat.le_of_ble_eq_true rfl) (Nat.le_of_ble_eq_true rfl) (Nat.le_of_ble_eq_true rfl) (fun v9 w9 h9 => ?_) (fun E9 w9 q9 h9 => h9.elim)
  obtain ⟨rfl, rfl⟩ := h9
  show gd_W X K 0 0 [gd_ob 2 h [.int (nI 8), .long fo], gd_ob 1 fe [.ref fr, .int (nI L.length)], gd_aB K fr 1000 ff, gd_ob 0 sp [.ref sa, .long 0], gd_aJ K sa 64 G] [(0, .ref h), (1, .ref fe), (2, .long w), (4, .ref sp)] [.int (nI (ch_pop w 64))] 4
  refine gd_istore hX [(5, .int (nI (ch_pop w 64))), (0, .ref h), (1, .ref fe), (2, .long w), (4, .ref sp)] 4 dd_Rd_readRuns_4 (by decide) rfl ?_
  refine gd_iconst hX 6 dd_Rd_readRuns_6 (v := 0) (by decide) ?_
  refine gd_eqi (show (0 : Int32) = nI 0 from rfl) ?_
  refine gd_istore hX [(6, .int (nI 0)), (5, .int (nI (ch_pop w 64))), (0, .ref h), (1, .ref fe), (2, .long w), (4, .ref sp)] 7 dd_Rd_readRuns_7 (by decide) rfl ?_
  refine gd_lconst hX 9 dd_Rd_readRuns_9 (v := 0) (by decide) ?_
  refine gd_lstore hX [(7, .long 0), (6, .int (nI 0)), (5, .int (nI (ch_pop w 64))), (0, .ref h), (1, .ref fe), (2, .long w), (4, .ref sp)] 10 dd_Rd_readRuns_10 (by decide) rfl ?_
  refine gd_iconst hX 12 dd_Rd_readRuns_12 (v := 1) (by decide) ?_
  refine gd_eqi (show (1 : Int32) = (if true then 1 else 0) from rfl) ?_
  refine gd_istore hX [(9, .int (if true then 1 else 0)), (7, .long 0), (6, .int (nI 0)), (5, .int (nI (ch_pop w 64))), (0, .ref h), (1, .ref fe), (2, .long w), (4, .ref sp)] 13 dd_Rd_readRuns_13 (by decide) rfl ?_
  refine gd_iconst hX 15 dd_Rd_readRuns_15 (v := 0) (by decide) ?_
  refine gd_eqi (show (0 : Int32) = nI 0 from rfl) ?_
  refine gd_istore hX [(10, .int (nI 0)), (9, .int (if true then 1 else 0)), (7, .long 0), (6, .int (nI 0)), (5, .int (nI (ch_pop w 64))), (0, .ref h), (1, .ref fe), (2, .long w), (4, .ref sp)] 16 dd_Rd_readRuns_16 (by decide) rfl ?_
  refine gd_lvs [(0, .ref h), (1, .ref fe), (2, .long w), (4, .ref sp), (5, .int (nI (ch_pop w 64))), (6, .int (nI 0)), (7, .long 0), (9, .int (if true then 1 else 0)), (10, .int (nI 0))] [5, 6, 7, 8, 4, 3, 2, 1, 0] rfl ?_
  exact loop 64 0 (ch_pop w 64) 0 0 true 8 fo 0 (fun _ => 0) G rfl rfl (by omega) h8 (fun j _ => by rw [ch_bit0]; simp) (fun j hj => absurd hj (Nat.not_lt_zero _)) rfl
end
section
set_option maxRecDepth 100000 in
set_option maxHeartbeats 4000000 in
theorem ct_Rd_read (l : Launch) (K : gd_K) (h sp sa : Nat) (t : Int32) (fo w0 : Int64) (G : Nat → Int64) (fe fr : Nat) (L : List Nat) (ff : Nat → Int32) (hL : L.length ≤ 1000) (hB : ch_B ff L) (hO : ∀ x ∈ L, x < 256) : gd_M l yy_Rd_read bb_Rd_read 5 (some .boolean) [] 3 52 0 0 K [.ref h, .ref fe, .ref sp] [gd_ob 2 h [.int t, .long fo], gd_ob 1 fe [.ref fr, .int (nI L.length)], gd_aB K fr 1000 ff, gd_ob 0 sp [.ref sa, .long w0], gd_aJ K sa 64 G] (fun v w1 => v = some (.int (if (ch_dec L).2.isSome then 1 else 0)) ∧ ∃ fo' wm' G', w1 = [gd_ob 2 h [.int (nI (ch_dec L).1), .long fo'], gd_ob 1 fe [.ref fr, .int (nI L.length)], gd_aB K fr 1000 ff, gd_ob 0 sp [.ref sa, .long wm'], gd_aJ K sa 64 G'] ∧ ∀ z, (ch_dec L).2 = some z → wm' = z.1 ∧ ∀ j, j < 64 → ch_bit z.1 j = true → G' j = z.2 j) (fun _ _ => False) := by
  refine gd_body (Nat.le_of_ble_eq_true rfl) (fun X hXl hin hE hX => ?_)
  refine gd_aload_n hX 0 dd_Rd_read_0 rfl ?_
  refine gd_iconst hX 1 dd_Rd_read_1 (v := 0) (by decide) ?_
  refine gd_eqi (show (0 : Int32) = nI 0 from rfl) ?_
  refine gd_put hX inC_Rd ty_Rd tyk_Rd nm_Rd 0 0 [gd_ob 2 h [.int (nI 0), .long fo], gd_ob 1 fe [.ref fr, .int (nI L.length)], gd_aB K fr 1000 ff, gd_ob 0 sp [.ref sa, .long w0], gd_aJ K sa 64 G] 2 dd_Rd_read_2 rfl rfl (by decide) kw_85 rfl rfl rfl (Nat.le_of_ble_eq_true rfl) rfl ?_
  refine gd_aload_n hX 5 dd_Rd_read_5 rfl ?_
  refine gd_call hX (st := []) (wr := [gd_ob 2 h [.int (nI 0), .long fo], gd_ob 1 fe [.ref fr, .int (nI L.length)], gd_aB K fr 1000 ff, gd_aJ K sa 64 G]) (ct_Cl_clearAll _ K sp sa w0) 6 dd_Rd_read_6 (gd_nV hX (As := []) kw_347 kw_348 kw_349 (gd_sigOf (n := 0) kw_350 (by decide)) (by decide) 3 rfl rfl rfl rfl dd_Rd_read_6) (gd_codeOf kw_350) (by decide) [3] [0, 1, 2, 4] rfl rfl rfl rfl rfl (by decide) (Nat.le_of_ble_eq_true rfl) (Nat.le_of_ble_eq_true rfl) (Nat.le_of_ble_eq_true rfl) (Nat.le_of_ble_eq_true rfl) (fun v9 w9 h9 => ?_) (fun E9 w9 q9 h9 => h9.elim)
  obtain ⟨rfl, rfl⟩ := h9
  refine gd_wsp [gd_ob 2 h [.int (nI 0), .long fo], gd_ob 1 fe [.ref fr, .int (nI L.length)], gd_aB K fr 1000 ff, gd_ob 0 sp [.ref sa, .long 0], gd_aJ K sa 64 G] [0, 1, 2, 4, 3] rfl rfl rfl ?_
  show gd_W X K 0 0 [gd_ob 2 h [.int (nI 0), .long fo], gd_ob 1 fe [.ref fr, .int (nI L.length)], gd_aB K fr 1000 ff, gd_ob 0 sp [.ref sa, .long 0], gd_aJ K sa 64 G] [(0, .ref h), (1, .ref fe), (2, .ref sp)] [] 9
  refine gd_aload_n hX 9 dd_Rd_read_9 rfl ?_
  refine gd_call hX (st := []) (wr := [gd_ob 2 h [.int (nI 0), .long fo], gd_aB K fr 1000 ff, gd_ob 0 sp [.ref sa, .long 0], gd_aJ K sa 64 G]) (ct_Oc_length _ K fe fr (nI L.length)) 10 dd_Rd_read_10 (gd_nV hX (As := []) kw_351 kw_165 kw_166 (gd_sigOf (n := 0) kw_167 (by decide)) (by decide) 1 rfl rfl rfl rfl dd_Rd_read_10) (gd_codeOf kw_167) (by decide) [1] [0, 2, 3, 4] rfl rfl rfl rfl rfl (by decide) (Nat.le_of_ble_eq_true rfl) (Nat.le_of_ble_eq_true rfl) (Nat.le_of_ble_eq_true rfl) (Nat.le_of_ble_eq_true rfl) (fun v9 w9 h9 => ?_) (fun E9 w9 q9 h9 => h9.elim)
  obtain ⟨rfl, rfl⟩ := h9
  refine gd_wsp [gd_ob 2 h [.int (nI 0), .long fo], gd_ob 1 fe [.ref fr, .int (nI L.length)], gd_aB K fr 1000 ff, gd_ob 0 sp [.ref sa, .long 0], gd_aJ K sa 64 G] [0, 4, 1, 2, 3] rfl rfl rfl ?_
  show gd_W X K 0 0 [gd_ob 2 h [.int (nI 0), .long fo], gd_ob 1 fe [.ref fr, .int (nI L.length)], gd_aB K fr 1000 ff, gd_ob 0 sp [.ref sa, .long 0], gd_aJ K sa 64 G] [(0, .ref h), (1, .ref fe), (2, .ref sp)] [.int (nI L.length)] 13
  refine gd_bipush hX 13 dd_Rd_read_13 (v := 8) (by decide) ?_
  refine gd_icmp_ge hX 15 28 dd_Rd_read_15 (by decide) (fun h1 => ?_) (fun h1 => ?_)
  · skip
    have h8 : 8 ≤ L.length := (nI_leI (a := 8) (by decide) (by omega)).mp h1
    have hd : ch_dec L = match (ch_cells L (ch_rmask L 8) 64 (ch_pop (ch_rmask L 8) 64) 0 0 true 8 (fun _ => 0)) with | (a, none) => (a, none) | (a, some g) => if a = L.length then (a, some ((ch_rmask L 8), g)) else (a, none) := if_neg (by omega)
    refine gd_aload_n hX 28 dd_Rd_read_28 rfl ?_
    refine gd_aload_n hX 29 dd_Rd_read_29 rfl ?_
    refine gd_call hX (st := []) (wr := [gd_ob 0 sp [.ref sa, .long 0], gd_aJ K sa 64 G]) (ct_Rd_readMask _ K h (nI 0) fo fe fr L ff hL hB) 30 dd_Rd_read_30 (gd_nV hX (As := [.ref fe]) kw_352 kw_354 kw_2 (gd_sigOf (n := 1) kw_355 (by decide)) (by decide) 0 rfl rfl rfl rfl dd_Rd_read_30) (gd_codeOf kw_355) (by decide) [0, 1, 2] [3, 4] rfl rfl rfl rfl rfl (by decide) (Nat.le_of_ble_eq_true rfl) (Nat.le_of_ble_eq_true rfl) (Nat.le_of_ble_eq_true rfl) (Nat.le_of_ble_eq_true rfl) (fun v9 w9 h9 => ?_) (fun E9 w9 q9 h9 => h9.elim)
    obtain ⟨rfl, rfl⟩ := h9
    refine gd_wsp [gd_ob 2 h [.int (nI 8), .long fo], gd_ob 1 fe [.ref fr, .int (nI L.length)], gd_aB K fr 1000 ff, gd_ob 0 sp [.ref sa, .long 0], gd_aJ K sa 64 G] [2, 3, 4, 0, 1] rfl rfl rfl ?_
    show gd_W X K 0 0 [gd_ob 2 h [.int (nI 8), .long fo], gd_ob 1 fe [.ref fr, .int (nI L.length)], gd_aB K fr 1000 ff, gd_ob 0 sp [.ref sa, .long 0], gd_aJ K sa 64 G] [(0, .ref h), (1, .ref fe), (2, .ref sp)] [.long (ch_rmask L 8)] 33
    refine gd_lstore_n hX [(3, .long (ch_rmask L 8)), (0, .ref h), (1, .ref fe), (2, .ref sp)] 33 dd_Rd_read_33 rfl (by decide) rfl ?_
    refine gd_aload_n hX 34 dd_Rd_read_34 rfl ?_
    refine gd_aload_n hX 35 dd_Rd_read_35 rfl ?_
    refine gd_lload_n hX 36 dd_Rd_read_36 rfl ?_
    refine gd_aload_n hX 37 dd_Rd_read_37 rfl ?_
    refine gd_call hX (st := []) (wr := []) (ct_Rd_readRuns _ K h sp sa fo (ch_rmask L 8) G fe fr L ff hL hB hO h8) 38 dd_Rd_read_38 (gd_nV hX (As := [.ref fe, .long (ch_rmask L 8), .ref sp]) kw_357 kw_359 kw_3 (gd_sigOf (n := 3) kw_360 (by decide)) (by decide) 0 rfl rfl rfl rfl dd_Rd_read_38) (gd_codeOf kw_360) (by decide) [0, 1, 2, 3, 4] [] rfl rfl rfl rfl rfl (by decide) (Nat.le_of_ble_eq_true rfl) (Nat.le_of_ble_eq_true rfl) (Nat.le_of_ble_eq_true rfl) (Nat.le_of_ble_eq_true rfl) (fun v9 w9 h9 => ?_) (fun E9 w9 q9 h9 => h9.elim)
    obtain ⟨rfl, fo1, w1, G1, rfl, hz⟩ := h9
    show gd_W X K 0 0 [gd_ob 2 h [.int (nI (ch_cells L (ch_rmask L 8) 64 (ch_pop (ch_rmask L 8) 64) 0 0 true 8 (fun _ => 0)).1), .long fo1], gd_ob 1 fe [.ref fr, .int (nI L.length)], gd_aB K fr 1000 ff, gd_ob 0 sp [.ref sa, .long w1], gd_aJ K sa 64 G1] [(3, .long (ch_rmask L 8)), (0, .ref h), (1, .ref fe), (2, .ref sp)] [.int (if (ch_cells L (ch_rmask L 8) 64 (ch_pop (ch_rmask L 8) 64) 0 0 true 8 (fun _ => 0)).2.isSome then 1 else 0)] 41
    have hcl := ch_cells_le L (ch_rmask L 8) 64 (ch_pop (ch_rmask L 8) 64) 0 0 true 8 (fun _ => 0) h8
    rcases hrd : (ch_cells L (ch_rmask L 8) 64 (ch_pop (ch_rmask L 8) 64) 0 0 true 8 (fun _ => 0)) with ⟨a1, ru⟩
    rw [hrd] at hd hz hcl
    cases ru with
    | none =>
      show gd_W X K 0 0 [gd_ob 2 h [.int (nI a1), .long fo1], gd_ob 1 fe [.ref fr, .int (nI L.length)], gd_aB K fr 1000 ff, gd_ob 0 sp [.ref sa, .long w1], gd_aJ K sa 64 G1] [(3, .long (ch_rmask L 8)), (0, .ref h), (1, .ref fe), (2, .ref sp)] [.int (if (none : Option (Nat → Int64)).isSome then 1 else 0)] 41
      refine gd_if_eq hX 41 59 dd_Rd_read_41 (by decide) (fun h2 => ?_) (fun h2 => ?_)
      · skip
        refine gd_iconst hX 59 dd_Rd_read_59 (v := 0) (by decide) ?_
        have hr : ch_dec L = (a1, none) := hd
        exact gd_zret hX hE 60 dd_Rd_read_60 rfl ⟨by rw [hr]; rfl, _, _, _, by rw [hr], by rw [hr]; exact fun z hz => nomatch hz⟩
      · skip
        exact absurd rfl h2
    | some gg =>
      show gd_W X K 0 0 [gd_ob 2 h [.int (nI a1), .long fo1], gd_ob 1 fe [.ref fr, .int (nI L.length)], gd_aB K fr 1000 ff, gd_ob 0 sp [.ref sa, .long w1], gd_aJ K sa 64 G1] [(3, .long (ch_rmask L 8)), (0, .ref h), (1, .ref fe), (2, .ref sp)] [.int (if (some gg : Option (Nat → Int64)).isSome then 1 else 0)] 41
      have hcl : a1 ≤ L.length := hcl
      have hd : ch_dec L = if a1 = L.length then (a1, some ((ch_rmask L 8), gg)) else (a1, none) := hd
      refine gd_if_eq hX 41 59 dd_Rd_read_41 (by decide) (fun h2 => ?_) (fun h2 => ?_)
      · skip
        exact absurd (show (1 : Int32) = 0 from h2) (by decide)
      · skip
        refine gd_aload_n hX 44 dd_Rd_read_44 rfl ?_
        refine gd_get hX inC_Rd 0 0 45 dd_Rd_read_45 rfl rfl (by decide) kw_85 rfl ?_
        refine gd_aload_n hX 48 dd_Rd_read_48 rfl ?_
        refine gd_call hX (st := [.int (nI a1)]) (wr := [gd_ob 2 h [.int (nI a1), .long fo1], gd_aB K fr 1000 ff, gd_ob 0 sp [.ref sa, .long w1], gd_aJ K sa 64 G1]) (ct_Oc_length _ K fe fr (nI L.length)) 49 dd_Rd_read_49 (gd_nV hX (As := []) kw_351 kw_165 kw_166 (gd_sigOf (n := 0) kw_167 (by decide)) (by decide) 1 rfl rfl rfl rfl dd_Rd_read_49) (gd_codeOf kw_167) (by decide) [1] [0, 2, 3, 4] rfl rfl rfl rfl rfl (by decide) (Nat.le_of_ble_eq_true rfl) (Nat.le_of_ble_eq_true rfl) (Nat.le_of_ble_eq_true rfl) (Nat.le_of_ble_eq_true rfl) (fun v9 w9 h9 => ?_) (fun E9 w9 q9 h9 => h9.elim)
        obtain ⟨rfl, rfl⟩ := h9
        refine gd_wsp [gd_ob 2 h [.int (nI a1), .long fo1], gd_ob 1 fe [.ref fr, .int (nI L.length)], gd_aB K fr 1000 ff, gd_ob 0 sp [.ref sa, .long w1], gd_aJ K sa 64 G1] [0, 4, 1, 2, 3] rfl rfl rfl ?_
        show gd_W X K 0 0 [gd_ob 2 h [.int (nI a1), .long fo1], gd_ob 1 fe [.ref fr, .int (nI L.length)], gd_aB K fr 1000 ff, gd_ob 0 sp [.ref sa, .long w1], gd_aJ K sa 64 G1] [(3, .long (ch_rmask L 8)), (0, .ref h), (1, .ref fe), (2, .ref sp)] [.int (nI L.length), .int (nI a1)] 52
        refine gd_icmp_ne hX 52 59 dd_Rd_read_52 (by decide) (fun h3 => ?_) (fun h3 => ?_)
        · skip
          have hr : ch_dec L = (a1, none) := by rw [hd, if_neg (fun e => h3 (by rw [e]))]
          refine gd_iconst hX 59 dd_Rd_read_59 (v := 0) (by decide) ?_
          exact gd_zret hX hE 60 dd_Rd_read_60 rfl ⟨by rw [hr]; rfl, _, _, _, by rw [hr], by rw [hr]; exact fun z hz => nomatch hz⟩
        · skip
          have hr : ch_dec L = (a1, some ((ch_rmask L 8), gg)) := by rw [hd, if_pos ((nI_eq (by omega) (by omega)).mp h3)]
          refine gd_iconst hX 55 dd_Rd_read_55 (v := 1) (by decide) ?_
          refine gd_goto hX 56 60 dd_Rd_read_56 (by decide) ?_
          exact gd_zret hX hE 60 dd_Rd_read_60 rfl ⟨by rw [hr]; rfl, _, _, _, by rw [hr], by rw [hr]; exact fun z hz2 => by cases hz2; exact hz gg rfl⟩
  · skip
    have hlt : L.length < 8 := Nat.lt_of_not_le (fun q => h1 ((nI_leI (a := 8) (by decide) (by omega)).mpr q))
    have hr : ch_dec L = (L.length, none) := if_pos hlt
    refine gd_aload_n hX 18 dd_Rd_read_18 rfl ?_
    refine gd_aload_n hX 19 dd_Rd_read_19 rfl ?_
    refine gd_call hX (st := [.ref h]) (wr := [gd_ob 2 h [.int (nI 0), .long fo], gd_aB K fr 1000 ff, gd_ob 0 sp [.ref sa, .long 0], gd_aJ K sa 64 G]) (ct_Oc_length _ K fe fr (nI L.length)) 20 dd_Rd_read_20 (gd_nV hX (As := []) kw_351 kw_165 kw_166 (gd_sigOf (n := 0) kw_167 (by decide)) (by decide) 1 rfl rfl rfl rfl dd_Rd_read_20) (gd_codeOf kw_167) (by decide) [1] [0, 2, 3, 4] rfl rfl rfl rfl rfl (by decide) (Nat.le_of_ble_eq_true rfl) (Nat.le_of_ble_eq_true rfl) (Nat.le_of_ble_eq_true rfl) (Nat.le_of_ble_eq_true rfl) (fun v9 w9 h9 => ?_) (fun E9 w9 q9 h9 => h9.elim)
    obtain ⟨rfl, rfl⟩ := h9
    refine gd_wsp [gd_ob 2 h [.int (nI 0), .long fo], gd_ob 1 fe [.ref fr, .int (nI L.length)], gd_aB K fr 1000 ff, gd_ob 0 sp [.ref sa, .long 0], gd_aJ K sa 64 G] [0, 4, 1, 2, 3] rfl rfl rfl ?_
    show gd_W X K 0 0 [gd_ob 2 h [.int (nI 0), .long fo], gd_ob 1 fe [.ref fr, .int (nI L.length)], gd_aB K fr 1000 ff, gd_ob 0 sp [.ref sa, .long 0], gd_aJ K sa 64 G] [(0, .ref h), (1, .ref fe), (2, .ref sp)] [.int (nI L.length), .ref h] 23
    refine gd_put hX inC_Rd ty_Rd tyk_Rd nm_Rd 0 0 [gd_ob 2 h [.int (nI L.length), .long fo], gd_ob 1 fe [.ref fr, .int (nI L.length)], gd_aB K fr 1000 ff, gd_ob 0 sp [.ref sa, .long 0], gd_aJ K sa 64 G] 23 dd_Rd_read_23 rfl rfl (by decide) kw_85 rfl rfl rfl (Nat.le_of_ble_eq_true rfl) rfl ?_
    refine gd_iconst hX 26 dd_Rd_read_26 (v := 0) (by decide) ?_
    exact gd_zret hX hE 27 dd_Rd_read_27 rfl ⟨by rw [hr]; rfl, _, _, _, by rw [hr], by rw [hr]; exact fun z hz => nomatch hz⟩
set_option maxRecDepth 100000 in
set_option maxHeartbeats 4000000 in
theorem ct_Ch_decode (l : Launch) (K : gd_K) (hl : l.stackTraces = false) (h c sp ru md fe rd : Nat) (wa : Int32) (sa : Nat) (t : Int32) (fo w0 : Int64) (G : Nat → Int64) (fr : Nat) (L : List Nat) (ff : Nat → Int32) (hL : L.length ≤ 1000) (hB : ch_B ff L) (hO : ∀ x ∈ L, x < 256) : gd_M l yy_Ch_decode bb_Ch_decode 3 (some .int) [] 6 82 1 6 K [.ref h] [gd_ob 4 h [.ref c, .ref sp, .ref ru, .ref md, .ref fe, .ref rd, .int wa], gd_ob 2 rd [.int t, .long fo], gd_ob 1 fe [.ref fr, .int (nI L.length)], gd_aB K fr 1000 ff, gd_ob 0 sp [.ref sa, .long w0], gd_aJ K sa 64 G] (fun v9 w1 => ∃ z, (ch_dec L).2 = some z ∧ v9 = some (.int (nI (ch_pop z.1 64))) ∧ ∃ fo' G', w1 = [gd_ob 4 h [.ref sp, .ref c, .ref ru, .ref md, .ref fe, .ref rd, .int (-1)], gd_ob 2 rd [.int (nI (ch_dec L).1), .long fo'], gd_ob 1 fe [.ref fr, .int (nI 0)], gd_aB K fr 1000 ff, gd_ob 0 sp [.ref sa, .long z.1], gd_aJ K sa 64 G'] ∧ ∀ j, j < 64 → ch_bit z.1 j = true → G' j = z.2 j) (fun E w1 => E = "java/lang/IllegalArgumentException" ∧ (ch_dec L).2 = none ∧ ∃ fo' wm' G', w1 = [gd_ob 4 h [.ref c, .ref sp, .ref ru, .ref md, .ref fe, .ref rd, .int (nI (ch_dec L).1)], gd_ob 2 rd [.int (nI (ch_dec L).1), .long fo'], gd_ob 1 fe [.ref fr, .int (nI 0)], gd_aB K fr 1000 ff, gd_ob 0 sp [.ref sa, .long wm'], gd_aJ K sa 64 G']) := by
  refine gd_body (Nat.le_of_ble_eq_true rfl) (fun X hXl hin hE hX => ?_)
  refine gd_aload_n hX 0 dd_Ch_decode_0 rfl ?_
  refine gd_get hX inC_Ch 0 5 1 dd_Ch_decode_1 rfl rfl (by decide) kw_97 rfl ?_
  refine gd_aload_n hX 4 dd_Ch_decode_4 rfl ?_
  refine gd_get hX inC_Ch 0 4 5 dd_Ch_decode_5 rfl rfl (by decide) kw_96 rfl ?_
  refine gd_aload_n hX 8 dd_Ch_decode_8 rfl ?_
  refine gd_get hX inC_Ch 0 1 9 dd_Ch_decode_9 rfl rfl (by decide) kw_93 rfl ?_
  refine gd_call hX (st := []) (wr := [gd_ob 4 h [.ref c, .ref sp, .ref ru, .ref md, .ref fe, .ref rd, .int wa]]) (ct_Rd_read _ K rd sp sa t fo w0 G fe fr L ff hL hB hO) 12 dd_Ch_decode_12 (gd_nV hX (As := [.ref fe, .ref sp]) kw_343 kw_344 kw_345 (gd_sigOf (n := 2) kw_346 (by decide)) (by decide) 1 rfl rfl rfl rfl dd_Ch_decode_12) (gd_codeOf kw_346) (by decide) [1, 2, 3, 4, 5] [0] rfl rfl rfl rfl rfl (by decide) (Nat.le_of_ble_eq_true rfl) (Nat.le_of_ble_eq_true rfl) (Nat.le_of_ble_eq_true rfl) (Nat.le_of_ble_eq_true rfl) (fun v9 w9 h9 => ?_) (fun E9 w9 q9 h9 => h9.elim)
  obtain ⟨rfl, fo1, w1, G1, rfl, hz⟩ := h9
  show gd_W X K 0 0 [gd_ob 4 h [.ref c, .ref sp, .ref ru, .ref md, .ref fe, .ref rd, .int wa], gd_ob 2 rd [.int (nI (ch_dec L).1), .long fo1], gd_ob 1 fe [.ref fr, .int (nI L.length)], gd_aB K fr 1000 ff, gd_ob 0 sp [.ref sa, .long w1], gd_aJ K sa 64 G1] [(0, .ref h)] [.int (if (ch_dec L).2.isSome then 1 else 0)] 15
  refine gd_istore_n hX [(1, .int (if (ch_dec L).2.isSome then 1 else 0)), (0, .ref h)] 15 dd_Ch_decode_15 rfl (by decide) rfl ?_
  refine gd_aload_n hX 16 dd_Ch_decode_16 rfl ?_
  refine gd_get hX inC_Ch 0 4 17 dd_Ch_decode_17 rfl rfl (by decide) kw_96 rfl ?_
  refine gd_call hX (st := []) (wr := [gd_ob 4 h [.ref c, .ref sp, .ref ru, .ref md, .ref fe, .ref rd, .int wa], gd_ob 2 rd [.int (nI (ch_dec L).1), .long fo1], gd_aB K fr 1000 ff, gd_ob 0 sp [.ref sa, .long w1], gd_aJ K sa 64 G1]) (ct_Oc_clear _ K fe fr (nI L.length)) 20 dd_Ch_decode_20 (gd_nV hX (As := []) kw_134 kw_135 kw_136 (gd_sigOf (n := 0) kw_137 (by decide)) (by decide) 2 rfl rfl rfl rfl dd_Ch_decode_20) (gd_codeOf kw_137) (by decide) [2] [0, 1, 3, 4, 5] rfl rfl rfl rfl rfl (by decide) (Nat.le_of_ble_eq_true rfl) (Nat.le_of_ble_eq_true rfl) (Nat.le_of_ble_eq_true rfl) (Nat.le_of_ble_eq_true rfl) (fun v9 w9 h9 => ?_) (fun E9 w9 q9 h9 => h9.elim)
  obtain ⟨rfl, rfl⟩ := h9
  refine gd_wsp [gd_ob 4 h [.ref c, .ref sp, .ref ru, .ref md, .ref fe, .ref rd, .int wa], gd_ob 2 rd [.int (nI (ch_dec L).1), .long fo1], gd_ob 1 fe [.ref fr, .int (nI 0)], gd_aB K fr 1000 ff, gd_ob 0 sp [.ref sa, .long w1], gd_aJ K sa 64 G1] [0, 1, 5, 2, 3, 4] rfl rfl rfl ?_
  show gd_W X K 0 0 [gd_ob 4 h [.ref c, .ref sp, .ref ru, .ref md, .ref fe, .ref rd, .int wa], gd_ob 2 rd [.int (nI (ch_dec L).1), .long fo1], gd_ob 1 fe [.ref fr, .int (nI 0)], gd_aB K fr 1000 ff, gd_ob 0 sp [.ref sa, .long w1], gd_aJ K sa 64 G1] [(1, .int (if (ch_dec L).2.isSome then 1 else 0)), (0, .ref h)] [] 23
  refine gd_iload_n hX 23 dd_Ch_decode_23 rfl ?_
  refine gd_if_ne hX 24 48 dd_Ch_decode_24 (by decide) (fun h1 => ?_) (fun h1 => ?_)
  · skip
    obtain ⟨z, hs⟩ : ∃ z, (ch_dec L).2 = some z := by
      cases hq : (ch_dec L).2 with
      | none => rw [hq] at h1; exact absurd rfl h1
      | some z => exact ⟨z, rfl⟩
    obtain ⟨rfl, hzz⟩ := hz z hs
    show gd_W X K 0 0 [gd_ob 4 h [.ref c, .ref sp, .ref ru, .ref md, .ref fe, .ref rd, .int wa], gd_ob 2 rd [.int (nI (ch_dec L).1), .long fo1], gd_ob 1 fe [.ref fr, .int (nI 0)], gd_aB K fr 1000 ff, gd_ob 0 sp [.ref sa, .long z.1], gd_aJ K sa 64 G1] [(1, .int (if (ch_dec L).2.isSome then 1 else 0)), (0, .ref h)] [] 48
    refine gd_aload_n hX 48 dd_Ch_decode_48 rfl ?_
    refine gd_iconst hX 49 dd_Ch_decode_49 (v := (-1)) (by decide) ?_
    refine gd_put hX inC_Ch ty_Ch tyk_Ch nm_Ch 0 6 [gd_ob 4 h [.ref c, .ref sp, .ref ru, .ref md, .ref fe, .ref rd, .int (-1)], gd_ob 2 rd [.int (nI (ch_dec L).1), .long fo1], gd_ob 1 fe [.ref fr, .int (nI 0)], gd_aB K fr 1000 ff, gd_ob 0 sp [.ref sa, .long z.1], gd_aJ K sa 64 G1] 50 dd_Ch_decode_50 rfl rfl (by decide) kw_98 rfl rfl rfl (Nat.le_of_ble_eq_true rfl) rfl ?_
    refine gd_aload_n hX 53 dd_Ch_decode_53 rfl ?_
    refine gd_get hX inC_Ch 0 0 54 dd_Ch_decode_54 rfl rfl (by decide) kw_92 rfl ?_
    refine gd_astore_n hX [(2, .ref c), (1, .int (if (ch_dec L).2.isSome then 1 else 0)), (0, .ref h)] 57 dd_Ch_decode_57 rfl (by decide) rfl ?_
    refine gd_aload_n hX 58 dd_Ch_decode_58 rfl ?_
    refine gd_aload_n hX 59 dd_Ch_decode_59 rfl ?_
    refine gd_get hX inC_Ch 0 1 60 dd_Ch_decode_60 rfl rfl (by decide) kw_93 rfl ?_
    refine gd_put hX inC_Ch ty_Ch tyk_Ch nm_Ch 0 0 [gd_ob 4 h [.ref sp, .ref sp, .ref ru, .ref md, .ref fe, .ref rd, .int (-1)], gd_ob 2 rd [.int (nI (ch_dec L).1), .long fo1], gd_ob 1 fe [.ref fr, .int (nI 0)], gd_aB K fr 1000 ff, gd_ob 0 sp [.ref sa, .long z.1], gd_aJ K sa 64 G1] 63 dd_Ch_decode_63 rfl rfl (by decide) kw_92 rfl rfl rfl (Nat.le_of_ble_eq_true rfl) rfl ?_
    refine gd_aload_n hX 66 dd_Ch_decode_66 rfl ?_
    refine gd_aload_n hX 67 dd_Ch_decode_67 rfl ?_
    refine gd_put hX inC_Ch ty_Ch tyk_Ch nm_Ch 0 1 [gd_ob 4 h [.ref sp, .ref c, .ref ru, .ref md, .ref fe, .ref rd, .int (-1)], gd_ob 2 rd [.int (nI (ch_dec L).1), .long fo1], gd_ob 1 fe [.ref fr, .int (nI 0)], gd_aB K fr 1000 ff, gd_ob 0 sp [.ref sa, .long z.1], gd_aJ K sa 64 G1] 68 dd_Ch_decode_68 rfl rfl (by decide) kw_93 rfl rfl rfl (Nat.le_of_ble_eq_true rfl) rfl ?_
    refine gd_aload_n hX 71 dd_Ch_decode_71 rfl ?_
    refine gd_get hX inC_Ch 0 0 72 dd_Ch_decode_72 rfl rfl (by decide) kw_92 rfl ?_
    refine gd_call hX (st := []) (wr := [gd_ob 4 h [.ref sp, .ref c, .ref ru, .ref md, .ref fe, .ref rd, .int (-1)], gd_ob 2 rd [.int (nI (ch_dec L).1), .long fo1], gd_ob 1 fe [.ref fr, .int (nI 0)], gd_aB K fr 1000 ff, gd_aJ K sa 64 G1]) (ct_Cl_many _ K sp sa z.1) 75 dd_Ch_decode_75 (gd_nV hX (As := []) kw_385 kw_386 kw_387 (gd_sigOf (n := 0) kw_388 (by decide)) (by decide) 4 rfl rfl rfl rfl dd_Ch_decode_75) (gd_codeOf kw_388) (by decide) [4] [0, 1, 2, 3, 5] rfl rfl rfl rfl rfl (by decide) (Nat.le_of_ble_eq_true rfl) (Nat.le_of_ble_eq_true rfl) (Nat.le_of_ble_eq_true rfl) (Nat.le_of_ble_eq_true rfl) (fun v9 w9 h9 => ?_) (fun E9 w9 q9 h9 => h9.elim)
    obtain ⟨rfl, rfl⟩ := h9
    refine gd_wsp [gd_ob 4 h [.ref sp, .ref c, .ref ru, .ref md, .ref fe, .ref rd, .int (-1)], gd_ob 2 rd [.int (nI (ch_dec L).1), .long fo1], gd_ob 1 fe [.ref fr, .int (nI 0)], gd_aB K fr 1000 ff, gd_ob 0 sp [.ref sa, .long z.1], gd_aJ K sa 64 G1] [0, 1, 2, 3, 5, 4] rfl rfl rfl ?_
    show gd_W X K 0 0 [gd_ob 4 h [.ref sp, .ref c, .ref ru, .ref md, .ref fe, .ref rd, .int (-1)], gd_ob 2 rd [.int (nI (ch_dec L).1), .long fo1], gd_ob 1 fe [.ref fr, .int (nI 0)], gd_aB K fr 1000 ff, gd_ob 0 sp [.ref sa, .long z.1], gd_aJ K sa 64 G1] [(2, .ref c), (1, .int (if (ch_dec L).2.isSome then 1 else 0)), (0, .ref h)] [.int (nI (ch_pop z.1 64))] 78
    refine gd_wide (a := 1) (b := 6) (by decide) (by decide) ?_
    exact gd_iret hX hE 78 dd_Ch_decode_78 ⟨z, hs, rfl, _, _, rfl, hzz⟩
  · skip
    have hs : (ch_dec L).2 = none := by
      cases hq : (ch_dec L).2 with
      | none => rfl
      | some z => rw [hq] at h1; exact absurd (show (1 : Int32) = 0 from h1) (by decide)
    refine gd_aload_n hX 27 dd_Ch_decode_27 rfl ?_
    refine gd_aload_n hX 28 dd_Ch_decode_28 rfl ?_
    refine gd_get hX inC_Ch 0 5 29 dd_Ch_decode_29 rfl rfl (by decide) kw_97 rfl ?_
    refine gd_call hX (st := [.ref h]) (wr := [gd_ob 4 h [.ref c, .ref sp, .ref ru, .ref md, .ref fe, .ref rd, .int wa], gd_ob 1 fe [.ref fr, .int (nI 0)], gd_aB K fr 1000 ff, gd_ob 0 sp [.ref sa, .long w1], gd_aJ K sa 64 G1]) (ct_Rd_at _ K rd (nI (ch_dec L).1) fo1) 32 dd_Ch_decode_32 (gd_nV hX (As := []) kw_380 kw_381 kw_382 (gd_sigOf (n := 0) kw_383 (by decide)) (by decide) 1 rfl rfl rfl rfl dd_Ch_decode_32) (gd_codeOf kw_383) (by decide) [1] [0, 2, 3, 4, 5] rfl rfl rfl rfl rfl (by decide) (Nat.le_of_ble_eq_true rfl) (Nat.le_of_ble_eq_true rfl) (Nat.le_of_ble_eq_true rfl) (Nat.le_of_ble_eq_true rfl) (fun v9 w9 h9 => ?_) (fun E9 w9 q9 h9 => h9.elim)
    obtain ⟨rfl, rfl⟩ := h9
    refine gd_wsp [gd_ob 4 h [.ref c, .ref sp, .ref ru, .ref md, .ref fe, .ref rd, .int wa], gd_ob 2 rd [.int (nI (ch_dec L).1), .long fo1], gd_ob 1 fe [.ref fr, .int (nI 0)], gd_aB K fr 1000 ff, gd_ob 0 sp [.ref sa, .long w1], gd_aJ K sa 64 G1] [0, 5, 1, 2, 3, 4] rfl rfl rfl ?_
    show gd_W X K 0 0 [gd_ob 4 h [.ref c, .ref sp, .ref ru, .ref md, .ref fe, .ref rd, .int wa], gd_ob 2 rd [.int (nI (ch_dec L).1), .long fo1], gd_ob 1 fe [.ref fr, .int (nI 0)], gd_aB K fr 1000 ff, gd_ob 0 sp [.ref sa, .long w1], gd_aJ K sa 64 G1] [(1, .int (if (ch_dec L).2.isSome then 1 else 0)), (0, .ref h)] [.int (nI (ch_dec L).1), .ref h] 35
    refine gd_put hX inC_Ch ty_Ch tyk_Ch nm_Ch 0 6 [gd_ob 4 h [.ref c, .ref sp, .ref ru, .ref md, .ref fe, .ref rd, .int (nI (ch_dec L).1)], gd_ob 2 rd [.int (nI (ch_dec L).1), .long fo1], gd_ob 1 fe [.ref fr, .int (nI 0)], gd_aB K fr 1000 ff, gd_ob 0 sp [.ref sa, .long w1], gd_aJ K sa 64 G1] 35 dd_Ch_decode_35 rfl rfl (by decide) kw_98 rfl rfl rfl (Nat.le_of_ble_eq_true rfl) rfl ?_
    exact gd_throw hX hE (by rw [hXl]; exact hl) (is := 127) (text := "what was fed is no code") 38 tw_ia (by decide) dd_Ch_decode_38 dd_Ch_decode_41 dd_Ch_decode_42 dd_Ch_decode_44 dd_Ch_decode_47 (by decide) (Nat.le_of_ble_eq_true rfl) (Nat.le_of_ble_eq_true rfl) (Nat.le_of_ble_eq_true rfl) (Nat.le_of_ble_eq_true rfl) (Nat.le_of_ble_eq_true rfl) (Nat.le_of_ble_eq_true rfl) ⟨rfl, hs, _, _, _, rfl⟩
end
section
set_option maxRecDepth 100000 in
set_option maxHeartbeats 4000000 in
theorem ct_Cl_init (l : Launch) (K : gd_K) (h : Nat) : gd_M l yy_Cl_init bb_Cl_init 1 (none) [] 1 12 1 64 K [.ref h] [gd_ob 0 h [.null, .long 0]] (fun v w1 => v = none ∧ ∃ a, w1 = [gd_ob 0 h [.ref a, .long 0], gd_aJ K a 64 (fun _ => 0)]) (fun _ _ => False) := by
  refine gd_body (Nat.le_of_ble_eq_true rfl) (fun X hXl hin hE hX => ?_)
  refine gd_aload_n hX 0 dd_Cl_init_0 rfl ?_
  refine gd_init hX 1 dd_Cl_init_1 kw_39 (Nat.le_of_ble_eq_true rfl) (Nat.le_of_ble_eq_true rfl) ?_
  refine gd_aload_n hX 4 dd_Cl_init_4 rfl ?_
  refine gd_bipush hX 5 dd_Cl_init_5 (v := 64) (by decide) ?_
  refine gd_newaJ hX 64 7 dd_Cl_init_7 rfl (by omega) (by simp) (by simp) (fun a => ?_)
  show gd_W X K 1 64 [gd_ob 0 h [.null, .long 0], gd_aJ K a 64 (fun _ => 0)] [(0, .ref h)] [.ref a, .ref h] 9
  refine gd_putF hX inC_Cl ty_Cl tyk_Cl nm_Cl 0 0 [gd_ob 0 h [.ref a, .long 0], gd_aJ K a 64 (fun _ => 0)] 9 dd_Cl_init_9 rfl rfl (by decide) kw_40 rfl hin (by decide) rfl rfl (Nat.le_of_ble_eq_true rfl) rfl ?_
  exact gd_vret hX hE 12 dd_Cl_init_12 ⟨rfl, a, rfl⟩
set_option maxRecDepth 100000 in
set_option maxHeartbeats 4000000 in
theorem ct_Ru_init (l : Launch) (K : gd_K) (h : Nat) : gd_M l yy_Ru_init bb_Ru_init 1 (none) [] 1 12 2 128 K [.ref h] [gd_ob 3 h [.null, .null, .int 0]] (fun v w1 => v = none ∧ ∃ a b, w1 = [gd_ob 3 h [.ref a, .ref b, .int 0], gd_aJ K a 64 (fun _ => 0), gd_aI K b 64 (fun _ => 0)]) (fun _ _ => False) := by
  refine gd_body (Nat.le_of_ble_eq_true rfl) (fun X hXl hin hE hX => ?_)
  refine gd_aload_n hX 0 dd_Ru_init_0 rfl ?_
  refine gd_init hX 1 dd_Ru_init_1 kw_53 (Nat.le_of_ble_eq_true rfl) (Nat.le_of_ble_eq_true rfl) ?_
  refine gd_aload_n hX 4 dd_Ru_init_4 rfl ?_
  refine gd_bipush hX 5 dd_Ru_init_5 (v := 64) (by decide) ?_
  refine gd_newaJ hX 64 7 dd_Ru_init_7 rfl (by omega) (by simp) (by simp) (fun a => ?_)
  show gd_W X K 1 64 [gd_ob 3 h [.null, .null, .int 0], gd_aJ K a 64 (fun _ => 0)] [(0, .ref h)] [.ref a, .ref h] 9
  refine gd_putF hX inC_Ru ty_Ru tyk_Ru nm_Ru 0 0 [gd_ob 3 h [.ref a, .null, .int 0], gd_aJ K a 64 (fun _ => 0)] 9 dd_Ru_init_9 rfl rfl (by decide) kw_54 rfl hin (by decide) rfl rfl (Nat.le_of_ble_eq_true rfl) rfl ?_
  refine gd_aload_n hX 12 dd_Ru_init_12 rfl ?_
  refine gd_bipush hX 13 dd_Ru_init_13 (v := 64) (by decide) ?_
  refine gd_newaI hX 64 15 dd_Ru_init_15 rfl (by omega) (by simp) (by simp) (fun b => ?_)
  show gd_W X K 2 128 [gd_ob 3 h [.ref a, .null, .int 0], gd_aJ K a 64 (fun _ => 0), gd_aI K b 64 (fun _ => 0)] [(0, .ref h)] [.ref b, .ref h] 17
  refine gd_putF hX inC_Ru ty_Ru tyk_Ru nm_Ru 0 1 [gd_ob 3 h [.ref a, .ref b, .int 0], gd_aJ K a 64 (fun _ => 0), gd_aI K b 64 (fun _ => 0)] 17 dd_Ru_init_17 rfl rfl (by decide) kw_55 rfl hin (by decide) rfl rfl (Nat.le_of_ble_eq_true rfl) rfl ?_
  exact gd_vret hX hE 20 dd_Ru_init_20 ⟨rfl, a, b, rfl⟩
set_option maxRecDepth 100000 in
set_option maxHeartbeats 4000000 in
theorem ct_Rd_init (l : Launch) (K : gd_K) (h : Nat) : gd_M l yy_Rd_init bb_Rd_init 1 (none) [] 1 12 0 0 K [.ref h] [gd_ob 2 h [.int 0, .long 0]] (fun v w1 => v = none ∧ w1 = [gd_ob 2 h [.int 0, .long 0]]) (fun _ _ => False) := by
  refine gd_body (Nat.le_of_ble_eq_true rfl) (fun X hXl hin hE hX => ?_)
  refine gd_aload_n hX 0 dd_Rd_init_0 rfl ?_
  refine gd_init hX 1 dd_Rd_init_1 kw_84 (Nat.le_of_ble_eq_true rfl) (Nat.le_of_ble_eq_true rfl) ?_
  exact gd_vret hX hE 4 dd_Rd_init_4 ⟨rfl, rfl⟩
set_option maxRecDepth 100000 in
set_option maxHeartbeats 4000000 in
theorem ct_Oc_inita (l : Launch) (K : gd_K) (h : Nat) : gd_M l yy_Oc_init bb_Oc_init 2 (none) [] 1 12 1 712 K [.ref h, .int 712] [gd_ob 1 h [.null, .int 0]] (fun v w1 => v = none ∧ ∃ r, w1 = [gd_ob 1 h [.ref r, .int 0], gd_aB K r 712 (fun _ => 0)]) (fun _ _ => False) := by
  refine gd_body (Nat.le_of_ble_eq_true rfl) (fun X hXl hin hE hX => ?_)
  refine gd_aload_n hX 0 dd_Oc_init_0 rfl ?_
  refine gd_init hX 1 dd_Oc_init_1 kw_70 (Nat.le_of_ble_eq_true rfl) (Nat.le_of_ble_eq_true rfl) ?_
  refine gd_aload_n hX 4 dd_Oc_init_4 rfl ?_
  refine gd_iload_n hX 5 dd_Oc_init_5 rfl ?_
  refine gd_newaB hX 712 6 dd_Oc_init_6 rfl (by omega) (by simp) (by simp) (fun r => ?_)
  show gd_W X K 1 712 [gd_ob 1 h [.null, .int 0], gd_aB K r 712 (fun _ => 0)] [(0, .ref h), (1, .int 712)] [.ref r, .ref h] 8
  refine gd_putF hX inC_Oc ty_Oc tyk_Oc nm_Oc 0 0 [gd_ob 1 h [.ref r, .int 0], gd_aB K r 712 (fun _ => 0)] 8 dd_Oc_init_8 rfl rfl (by decide) kw_71 rfl hin (by decide) rfl rfl (Nat.le_of_ble_eq_true rfl) rfl ?_
  exact gd_vret hX hE 11 dd_Oc_init_11 ⟨rfl, r, rfl⟩
set_option maxRecDepth 100000 in
set_option maxHeartbeats 4000000 in
theorem ct_Oc_initb (l : Launch) (K : gd_K) (h : Nat) : gd_M l yy_Oc_init bb_Oc_init 2 (none) [] 1 12 1 1000 K [.ref h, .int 1000] [gd_ob 1 h [.null, .int 0]] (fun v w1 => v = none ∧ ∃ r, w1 = [gd_ob 1 h [.ref r, .int 0], gd_aB K r 1000 (fun _ => 0)]) (fun _ _ => False) := by
  refine gd_body (Nat.le_of_ble_eq_true rfl) (fun X hXl hin hE hX => ?_)
  refine gd_aload_n hX 0 dd_Oc_init_0 rfl ?_
  refine gd_init hX 1 dd_Oc_init_1 kw_70 (Nat.le_of_ble_eq_true rfl) (Nat.le_of_ble_eq_true rfl) ?_
  refine gd_aload_n hX 4 dd_Oc_init_4 rfl ?_
  refine gd_iload_n hX 5 dd_Oc_init_5 rfl ?_
  refine gd_newaB hX 1000 6 dd_Oc_init_6 rfl (by omega) (by simp) (by simp) (fun r => ?_)
  show gd_W X K 1 1000 [gd_ob 1 h [.null, .int 0], gd_aB K r 1000 (fun _ => 0)] [(0, .ref h), (1, .int 1000)] [.ref r, .ref h] 8
  refine gd_putF hX inC_Oc ty_Oc tyk_Oc nm_Oc 0 0 [gd_ob 1 h [.ref r, .int 0], gd_aB K r 1000 (fun _ => 0)] 8 dd_Oc_init_8 rfl rfl (by decide) kw_71 rfl hin (by decide) rfl rfl (Nat.le_of_ble_eq_true rfl) rfl ?_
  exact gd_vret hX hE 11 dd_Oc_init_11 ⟨rfl, r, rfl⟩
set_option maxRecDepth 100000 in
set_option maxHeartbeats 4000000 in
theorem ct_Ch_init (l : Launch) (K : gd_K) (h : Nat) : gd_M l yy_Ch_init bb_Ch_init 1 (none) [] 2 27 12 1981 K [.ref h] [gd_ob 4 h [.null, .null, .null, .null, .null, .null, .int 0]] (fun v w1 => v = none ∧ ∃ c ca sp sa ru ra rb md mr fe fr rd, w1 = [gd_ob 4 h [.ref c, .ref sp, .ref ru, .ref md, .ref fe, .ref rd, .int (-1)], gd_ob 0 c [.ref ca, .long 0], gd_aJ K ca 64 (fun _ => 0), gd_ob 0 sp [.ref sa, .long 0], gd_aJ K sa 64 (fun _ => 0), gd_ob 3 ru [.ref ra, .ref rb, .int 0], gd_aJ K ra 64 (fun _ => 0), gd_aI K rb 64 (fun _ => 0), gd_ob 1 md [.ref mr, .int 0], gd_aB K mr 712 (fun _ => 0), gd_ob 1 fe [.ref fr, .int 0], gd_aB K fr 1000 (fun _ => 0), gd_ob 2 rd [.int 0, .long 0]]) (fun _ _ => False) := by
  refine gd_body (Nat.le_of_ble_eq_true rfl) (fun X hXl hin hE hX => ?_)
  refine gd_aload_n hX 0 dd_Ch_init_0 rfl ?_
  refine gd_init hX 1 dd_Ch_init_1 kw_31 (Nat.le_of_ble_eq_true rfl) (Nat.le_of_ble_eq_true rfl) ?_
  refine gd_aload_n hX 4 dd_Ch_init_4 rfl ?_
  refine gd_new hX (ci := 0) inC_Cl ty_Cl tyk_Cl [.null, .long 0] 5 dd_Ch_init_5 kw_34 kw_35 kw_14 rfl (by decide) (Nat.le_of_ble_eq_true rfl) (Nat.le_of_ble_eq_true rfl) (fun c => ?_)
  show gd_W X K 1 2 [gd_ob 4 h [.null, .null, .null, .null, .null, .null, .int 0], gd_ob 0 c [.null, .long 0]] [(0, .ref h)] [.ref c, .ref h] 8
  refine gd_dup hX 8 dd_Ch_init_8 rfl ?_
  refine gd_call hX (st := [.ref c, .ref h]) (wr := [gd_ob 4 h [.null, .null, .null, .null, .null, .null, .int 0]]) (ct_Cl_init _ K c) 9 dd_Ch_init_9 (gd_nIN hX (As := []) kw_36 kw_37 kw_38 rfl (by decide) (by decide) rfl rfl dd_Ch_init_9) (gd_codeOf kw_38) (by decide) [1] [0] rfl rfl rfl rfl rfl (by decide) (Nat.le_of_ble_eq_true rfl) (Nat.le_of_ble_eq_true rfl) (Nat.le_of_ble_eq_true rfl) (Nat.le_of_ble_eq_true rfl) (fun v9 w9 h9 => ?_) (fun E9 w9 q9 h9 => h9.elim)
  obtain ⟨rfl, ca, rfl⟩ := h9
  show gd_W X K 2 66 [gd_ob 4 h [.null, .null, .null, .null, .null, .null, .int 0], gd_ob 0 c [.ref ca, .long 0], gd_aJ K ca 64 (fun _ => 0)] [(0, .ref h)] [.ref c, .ref h] 12
  refine gd_put hX inC_Ch ty_Ch tyk_Ch nm_Ch 0 0 [gd_ob 4 h [.ref c, .null, .null, .null, .null, .null, .int 0], gd_ob 0 c [.ref ca, .long 0], gd_aJ K ca 64 (fun _ => 0)] 12 dd_Ch_init_12 rfl rfl (by decide) kw_92 rfl rfl rfl (Nat.le_of_ble_eq_true rfl) rfl ?_
  refine gd_aload_n hX 15 dd_Ch_init_15 rfl ?_
  refine gd_new hX (ci := 0) inC_Cl ty_Cl tyk_Cl [.null, .long 0] 16 dd_Ch_init_16 kw_34 kw_35 kw_14 rfl (by decide) (Nat.le_of_ble_eq_true rfl) (Nat.le_of_ble_eq_true rfl) (fun sp => ?_)
  show gd_W X K 3 68 [gd_ob 4 h [.ref c, .null, .null, .null, .null, .null, .int 0], gd_ob 0 c [.ref ca, .long 0], gd_aJ K ca 64 (fun _ => 0), gd_ob 0 sp [.null, .long 0]] [(0, .ref h)] [.ref sp, .ref h] 19
  refine gd_dup hX 19 dd_Ch_init_19 rfl ?_
  refine gd_call hX (st := [.ref sp, .ref h]) (wr := [gd_ob 4 h [.ref c, .null, .null, .null, .null, .null, .int 0], gd_ob 0 c [.ref ca, .long 0], gd_aJ K ca 64 (fun _ => 0)]) (ct_Cl_init _ K sp) 20 dd_Ch_init_20 (gd_nIN hX (As := []) kw_36 kw_37 kw_38 rfl (by decide) (by decide) rfl rfl dd_Ch_init_20) (gd_codeOf kw_38) (by decide) [3] [0, 1, 2] rfl rfl rfl rfl rfl (by decide) (Nat.le_of_ble_eq_true rfl) (Nat.le_of_ble_eq_true rfl) (Nat.le_of_ble_eq_true rfl) (Nat.le_of_ble_eq_true rfl) (fun v9 w9 h9 => ?_) (fun E9 w9 q9 h9 => h9.elim)
  obtain ⟨rfl, sa, rfl⟩ := h9
  show gd_W X K 4 132 [gd_ob 4 h [.ref c, .null, .null, .null, .null, .null, .int 0], gd_ob 0 c [.ref ca, .long 0], gd_aJ K ca 64 (fun _ => 0), gd_ob 0 sp [.ref sa, .long 0], gd_aJ K sa 64 (fun _ => 0)] [(0, .ref h)] [.ref sp, .ref h] 23
  refine gd_put hX inC_Ch ty_Ch tyk_Ch nm_Ch 0 1 [gd_ob 4 h [.ref c, .ref sp, .null, .null, .null, .null, .int 0], gd_ob 0 c [.ref ca, .long 0], gd_aJ K ca 64 (fun _ => 0), gd_ob 0 sp [.ref sa, .long 0], gd_aJ K sa 64 (fun _ => 0)] 23 dd_Ch_init_23 rfl rfl (by decide) kw_93 rfl rfl rfl (Nat.le_of_ble_eq_true rfl) rfl ?_
  refine gd_aload_n hX 26 dd_Ch_init_26 rfl ?_
  refine gd_new hX (ci := 3) inC_Ru ty_Ru tyk_Ru [.null, .null, .int 0] 27 dd_Ch_init_27 kw_48 kw_49 kw_15 rfl (by decide) (Nat.le_of_ble_eq_true rfl) (Nat.le_of_ble_eq_true rfl) (fun ru => ?_)
  show gd_W X K 5 135 [gd_ob 4 h [.ref c, .ref sp, .null, .null, .null, .null, .int 0], gd_ob 0 c [.ref ca, .long 0], gd_aJ K ca 64 (fun _ => 0), gd_ob 0 sp [.ref sa, .long 0], gd_aJ K sa 64 (fun _ => 0), gd_ob 3 ru [.null, .null, .int 0]] [(0, .ref h)] [.ref ru, .ref h] 30
  refine gd_dup hX 30 dd_Ch_init_30 rfl ?_
  refine gd_call hX (st := [.ref ru, .ref h]) (wr := [gd_ob 4 h [.ref c, .ref sp, .null, .null, .null, .null, .int 0], gd_ob 0 c [.ref ca, .long 0], gd_aJ K ca 64 (fun _ => 0), gd_ob 0 sp [.ref sa, .long 0], gd_aJ K sa 64 (fun _ => 0)]) (ct_Ru_init _ K ru) 31 dd_Ch_init_31 (gd_nIN hX (As := []) kw_50 kw_51 kw_52 rfl (by decide) (by decide) rfl rfl dd_Ch_init_31) (gd_codeOf kw_52) (by decide) [5] [0, 1, 2, 3, 4] rfl rfl rfl rfl rfl (by decide) (Nat.le_of_ble_eq_true rfl) (Nat.le_of_ble_eq_true rfl) (Nat.le_of_ble_eq_true rfl) (Nat.le_of_ble_eq_true rfl) (fun v9 w9 h9 => ?_) (fun E9 w9 q9 h9 => h9.elim)
  obtain ⟨rfl, ra, rb, rfl⟩ := h9
  show gd_W X K 7 263 [gd_ob 4 h [.ref c, .ref sp, .null, .null, .null, .null, .int 0], gd_ob 0 c [.ref ca, .long 0], gd_aJ K ca 64 (fun _ => 0), gd_ob 0 sp [.ref sa, .long 0], gd_aJ K sa 64 (fun _ => 0), gd_ob 3 ru [.ref ra, .ref rb, .int 0], gd_aJ K ra 64 (fun _ => 0), gd_aI K rb 64 (fun _ => 0)] [(0, .ref h)] [.ref ru, .ref h] 34
  refine gd_putF hX inC_Ch ty_Ch tyk_Ch nm_Ch 0 2 [gd_ob 4 h [.ref c, .ref sp, .ref ru, .null, .null, .null, .int 0], gd_ob 0 c [.ref ca, .long 0], gd_aJ K ca 64 (fun _ => 0), gd_ob 0 sp [.ref sa, .long 0], gd_aJ K sa 64 (fun _ => 0), gd_ob 3 ru [.ref ra, .ref rb, .int 0], gd_aJ K ra 64 (fun _ => 0), gd_aI K rb 64 (fun _ => 0)] 34 dd_Ch_init_34 rfl rfl (by decide) kw_94 rfl hin (by decide) rfl rfl (Nat.le_of_ble_eq_true rfl) rfl ?_
  refine gd_aload_n hX 37 dd_Ch_init_37 rfl ?_
  refine gd_new hX (ci := 1) inC_Oc ty_Oc tyk_Oc [.null, .int 0] 38 dd_Ch_init_38 kw_65 kw_66 kw_16 rfl (by decide) (Nat.le_of_ble_eq_true rfl) (Nat.le_of_ble_eq_true rfl) (fun md => ?_)
  show gd_W X K 8 265 [gd_ob 4 h [.ref c, .ref sp, .ref ru, .null, .null, .null, .int 0], gd_ob 0 c [.ref ca, .long 0], gd_aJ K ca 64 (fun _ => 0), gd_ob 0 sp [.ref sa, .long 0], gd_aJ K sa 64 (fun _ => 0), gd_ob 3 ru [.ref ra, .ref rb, .int 0], gd_aJ K ra 64 (fun _ => 0), gd_aI K rb 64 (fun _ => 0), gd_ob 1 md [.null, .int 0]] [(0, .ref h)] [.ref md, .ref h] 41
  refine gd_dup hX 41 dd_Ch_init_41 rfl ?_
  refine gd_sipush hX 42 dd_Ch_init_42 (v := 712) (by decide) ?_
  refine gd_call hX (st := [.ref md, .ref h]) (wr := [gd_ob 4 h [.ref c, .ref sp, .ref ru, .null, .null, .null, .int 0], gd_ob 0 c [.ref ca, .long 0], gd_aJ K ca 64 (fun _ => 0), gd_ob 0 sp [.ref sa, .long 0], gd_aJ K sa 64 (fun _ => 0), gd_ob 3 ru [.ref ra, .ref rb, .int 0], gd_aJ K ra 64 (fun _ => 0), gd_aI K rb 64 (fun _ => 0)]) (ct_Oc_inita _ K md) 45 dd_Ch_init_45 (gd_nI hX (As := [.int 712]) kw_67 kw_68 kw_69 rfl (by decide) (by decide) rfl rfl dd_Ch_init_45) (gd_codeOf kw_69) (by decide) [8] [0, 1, 2, 3, 4, 5, 6, 7] rfl rfl rfl rfl rfl (by decide) (Nat.le_of_ble_eq_true rfl) (Nat.le_of_ble_eq_true rfl) (Nat.le_of_ble_eq_true rfl) (Nat.le_of_ble_eq_true rfl) (fun v9 w9 h9 => ?_) (fun E9 w9 q9 h9 => h9.elim)
  obtain ⟨rfl, mr, rfl⟩ := h9
  show gd_W X K 9 977 [gd_ob 4 h [.ref c, .ref sp, .ref ru, .null, .null, .null, .int 0], gd_ob 0 c [.ref ca, .long 0], gd_aJ K ca 64 (fun _ => 0), gd_ob 0 sp [.ref sa, .long 0], gd_aJ K sa 64 (fun _ => 0), gd_ob 3 ru [.ref ra, .ref rb, .int 0], gd_aJ K ra 64 (fun _ => 0), gd_aI K rb 64 (fun _ => 0), gd_ob 1 md [.ref mr, .int 0], gd_aB K mr 712 (fun _ => 0)] [(0, .ref h)] [.ref md, .ref h] 48
  refine gd_putF hX inC_Ch ty_Ch tyk_Ch nm_Ch 0 3 [gd_ob 4 h [.ref c, .ref sp, .ref ru, .ref md, .null, .null, .int 0], gd_ob 0 c [.ref ca, .long 0], gd_aJ K ca 64 (fun _ => 0), gd_ob 0 sp [.ref sa, .long 0], gd_aJ K sa 64 (fun _ => 0), gd_ob 3 ru [.ref ra, .ref rb, .int 0], gd_aJ K ra 64 (fun _ => 0), gd_aI K rb 64 (fun _ => 0), gd_ob 1 md [.ref mr, .int 0], gd_aB K mr 712 (fun _ => 0)] 48 dd_Ch_init_48 rfl rfl (by decide) kw_95 rfl hin (by decide) rfl rfl (Nat.le_of_ble_eq_true rfl) rfl ?_
  refine gd_aload_n hX 51 dd_Ch_init_51 rfl ?_
  refine gd_new hX (ci := 1) inC_Oc ty_Oc tyk_Oc [.null, .int 0] 52 dd_Ch_init_52 kw_65 kw_66 kw_16 rfl (by decide) (Nat.le_of_ble_eq_true rfl) (Nat.le_of_ble_eq_true rfl) (fun fe => ?_)
  show gd_W X K 10 979 [gd_ob 4 h [.ref c, .ref sp, .ref ru, .ref md, .null, .null, .int 0], gd_ob 0 c [.ref ca, .long 0], gd_aJ K ca 64 (fun _ => 0), gd_ob 0 sp [.ref sa, .long 0], gd_aJ K sa 64 (fun _ => 0), gd_ob 3 ru [.ref ra, .ref rb, .int 0], gd_aJ K ra 64 (fun _ => 0), gd_aI K rb 64 (fun _ => 0), gd_ob 1 md [.ref mr, .int 0], gd_aB K mr 712 (fun _ => 0), gd_ob 1 fe [.null, .int 0]] [(0, .ref h)] [.ref fe, .ref h] 55
  refine gd_dup hX 55 dd_Ch_init_55 rfl ?_
  refine gd_sipush hX 56 dd_Ch_init_56 (v := 1000) (by decide) ?_
  refine gd_call hX (st := [.ref fe, .ref h]) (wr := [gd_ob 4 h [.ref c, .ref sp, .ref ru, .ref md, .null, .null, .int 0], gd_ob 0 c [.ref ca, .long 0], gd_aJ K ca 64 (fun _ => 0), gd_ob 0 sp [.ref sa, .long 0], gd_aJ K sa 64 (fun _ => 0), gd_ob 3 ru [.ref ra, .ref rb, .int 0], gd_aJ K ra 64 (fun _ => 0), gd_aI K rb 64 (fun _ => 0), gd_ob 1 md [.ref mr, .int 0], gd_aB K mr 712 (fun _ => 0)]) (ct_Oc_initb _ K fe) 59 dd_Ch_init_59 (gd_nI hX (As := [.int 1000]) kw_67 kw_68 kw_69 rfl (by decide) (by decide) rfl rfl dd_Ch_init_59) (gd_codeOf kw_69) (by decide) [10] [0, 1, 2, 3, 4, 5, 6, 7, 8, 9] rfl rfl rfl rfl rfl (by decide) (Nat.le_of_ble_eq_true rfl) (Nat.le_of_ble_eq_true rfl) (Nat.le_of_ble_eq_true rfl) (Nat.le_of_ble_eq_true rfl) (fun v9 w9 h9 => ?_) (fun E9 w9 q9 h9 => h9.elim)
  obtain ⟨rfl, fr, rfl⟩ := h9
  show gd_W X K 11 1979 [gd_ob 4 h [.ref c, .ref sp, .ref ru, .ref md, .null, .null, .int 0], gd_ob 0 c [.ref ca, .long 0], gd_aJ K ca 64 (fun _ => 0), gd_ob 0 sp [.ref sa, .long 0], gd_aJ K sa 64 (fun _ => 0), gd_ob 3 ru [.ref ra, .ref rb, .int 0], gd_aJ K ra 64 (fun _ => 0), gd_aI K rb 64 (fun _ => 0), gd_ob 1 md [.ref mr, .int 0], gd_aB K mr 712 (fun _ => 0), gd_ob 1 fe [.ref fr, .int 0], gd_aB K fr 1000 (fun _ => 0)] [(0, .ref h)] [.ref fe, .ref h] 62
  refine gd_putF hX inC_Ch ty_Ch tyk_Ch nm_Ch 0 4 [gd_ob 4 h [.ref c, .ref sp, .ref ru, .ref md, .ref fe, .null, .int 0], gd_ob 0 c [.ref ca, .long 0], gd_aJ K ca 64 (fun _ => 0), gd_ob 0 sp [.ref sa, .long 0], gd_aJ K sa 64 (fun _ => 0), gd_ob 3 ru [.ref ra, .ref rb, .int 0], gd_aJ K ra 64 (fun _ => 0), gd_aI K rb 64 (fun _ => 0), gd_ob 1 md [.ref mr, .int 0], gd_aB K mr 712 (fun _ => 0), gd_ob 1 fe [.ref fr, .int 0], gd_aB K fr 1000 (fun _ => 0)] 62 dd_Ch_init_62 rfl rfl (by decide) kw_96 rfl hin (by decide) rfl rfl (Nat.le_of_ble_eq_true rfl) rfl ?_
  refine gd_aload_n hX 65 dd_Ch_init_65 rfl ?_
  refine gd_new hX (ci := 2) inC_Rd ty_Rd tyk_Rd [.int 0, .long 0] 66 dd_Ch_init_66 kw_79 kw_80 kw_17 rfl (by decide) (Nat.le_of_ble_eq_true rfl) (Nat.le_of_ble_eq_true rfl) (fun rd => ?_)
  show gd_W X K 12 1981 [gd_ob 4 h [.ref c, .ref sp, .ref ru, .ref md, .ref fe, .null, .int 0], gd_ob 0 c [.ref ca, .long 0], gd_aJ K ca 64 (fun _ => 0), gd_ob 0 sp [.ref sa, .long 0], gd_aJ K sa 64 (fun _ => 0), gd_ob 3 ru [.ref ra, .ref rb, .int 0], gd_aJ K ra 64 (fun _ => 0), gd_aI K rb 64 (fun _ => 0), gd_ob 1 md [.ref mr, .int 0], gd_aB K mr 712 (fun _ => 0), gd_ob 1 fe [.ref fr, .int 0], gd_aB K fr 1000 (fun _ => 0), gd_ob 2 rd [.int 0, .long 0]] [(0, .ref h)] [.ref rd, .ref h] 69
  refine gd_dup hX 69 dd_Ch_init_69 rfl ?_
  refine gd_call hX (st := [.ref rd, .ref h]) (wr := [gd_ob 4 h [.ref c, .ref sp, .ref ru, .ref md, .ref fe, .null, .int 0], gd_ob 0 c [.ref ca, .long 0], gd_aJ K ca 64 (fun _ => 0), gd_ob 0 sp [.ref sa, .long 0], gd_aJ K sa 64 (fun _ => 0), gd_ob 3 ru [.ref ra, .ref rb, .int 0], gd_aJ K ra 64 (fun _ => 0), gd_aI K rb 64 (fun _ => 0), gd_ob 1 md [.ref mr, .int 0], gd_aB K mr 712 (fun _ => 0), gd_ob 1 fe [.ref fr, .int 0], gd_aB K fr 1000 (fun _ => 0)]) (ct_Rd_init _ K rd) 70 dd_Ch_init_70 (gd_nIN hX (As := []) kw_81 kw_82 kw_83 rfl (by decide) (by decide) rfl rfl dd_Ch_init_70) (gd_codeOf kw_83) (by decide) [12] [0, 1, 2, 3, 4, 5, 6, 7, 8, 9, 10, 11] rfl rfl rfl rfl rfl (by decide) (Nat.le_of_ble_eq_true rfl) (Nat.le_of_ble_eq_true rfl) (Nat.le_of_ble_eq_true rfl) (Nat.le_of_ble_eq_true rfl) (fun v9 w9 h9 => ?_) (fun E9 w9 q9 h9 => h9.elim)
  obtain ⟨rfl, rfl⟩ := h9
  show gd_W X K 12 1981 [gd_ob 4 h [.ref c, .ref sp, .ref ru, .ref md, .ref fe, .null, .int 0], gd_ob 0 c [.ref ca, .long 0], gd_aJ K ca 64 (fun _ => 0), gd_ob 0 sp [.ref sa, .long 0], gd_aJ K sa 64 (fun _ => 0), gd_ob 3 ru [.ref ra, .ref rb, .int 0], gd_aJ K ra 64 (fun _ => 0), gd_aI K rb 64 (fun _ => 0), gd_ob 1 md [.ref mr, .int 0], gd_aB K mr 712 (fun _ => 0), gd_ob 1 fe [.ref fr, .int 0], gd_aB K fr 1000 (fun _ => 0), gd_ob 2 rd [.int 0, .long 0]] [(0, .ref h)] [.ref rd, .ref h] 73
  refine gd_putF hX inC_Ch ty_Ch tyk_Ch nm_Ch 0 5 [gd_ob 4 h [.ref c, .ref sp, .ref ru, .ref md, .ref fe, .ref rd, .int 0], gd_ob 0 c [.ref ca, .long 0], gd_aJ K ca 64 (fun _ => 0), gd_ob 0 sp [.ref sa, .long 0], gd_aJ K sa 64 (fun _ => 0), gd_ob 3 ru [.ref ra, .ref rb, .int 0], gd_aJ K ra 64 (fun _ => 0), gd_aI K rb 64 (fun _ => 0), gd_ob 1 md [.ref mr, .int 0], gd_aB K mr 712 (fun _ => 0), gd_ob 1 fe [.ref fr, .int 0], gd_aB K fr 1000 (fun _ => 0), gd_ob 2 rd [.int 0, .long 0]] 73 dd_Ch_init_73 rfl rfl (by decide) kw_97 rfl hin (by decide) rfl rfl (Nat.le_of_ble_eq_true rfl) rfl ?_
  refine gd_aload_n hX 76 dd_Ch_init_76 rfl ?_
  refine gd_iconst hX 77 dd_Ch_init_77 (v := (-1)) (by decide) ?_
  refine gd_put hX inC_Ch ty_Ch tyk_Ch nm_Ch 0 6 [gd_ob 4 h [.ref c, .ref sp, .ref ru, .ref md, .ref fe, .ref rd, .int (-1)], gd_ob 0 c [.ref ca, .long 0], gd_aJ K ca 64 (fun _ => 0), gd_ob 0 sp [.ref sa, .long 0], gd_aJ K sa 64 (fun _ => 0), gd_ob 3 ru [.ref ra, .ref rb, .int 0], gd_aJ K ra 64 (fun _ => 0), gd_aI K rb 64 (fun _ => 0), gd_ob 1 md [.ref mr, .int 0], gd_aB K mr 712 (fun _ => 0), gd_ob 1 fe [.ref fr, .int 0], gd_aB K fr 1000 (fun _ => 0), gd_ob 2 rd [.int 0, .long 0]] 78 dd_Ch_init_78 rfl rfl (by decide) kw_98 rfl rfl rfl (Nat.le_of_ble_eq_true rfl) rfl ?_
  exact gd_vret hX hE 81 dd_Ch_init_81 ⟨rfl, c, ca, sp, sa, ru, ra, rb, md, mr, fe, fr, rd, rfl⟩
end
section
set_option maxRecDepth 100000 in
set_option maxHeartbeats 4000000 in
theorem ct_Mo_init (l : Launch) (K : gd_K) (h : Nat) : gd_M l yy_Mo_init bb_Mo_init 1 (none) [] 1 12 7 2696 K [.ref h] [gd_ob 5 h [.int 0, .null, .null, .null, .null, .null, .null, .null, .int 0, .int 0, .int 0, .int 0]] (fun v w1 => v = none ∧ ∃ va re fu wi ma wo fd, w1 = [gd_ob 5 h [.int 0, .ref va, .ref re, .ref fu, .ref wi, .ref ma, .ref wo, .ref fd, .int 0, .int 0, .int 0, .int (-1)], gd_aJ K va 64 (fun _ => 0), gd_aJ K re 64 (fun _ => 0), gd_aZ K fu 64 (fun _ => 0), gd_aZ K wi 64 (fun _ => 0), gd_aI K ma 720 (fun _ => 0), gd_aI K wo 720 (fun _ => 0), gd_aI K fd 1000 (fun _ => 0)]) (fun _ _ => False) := by
  refine gd_body (Nat.le_of_ble_eq_true rfl) (fun X hXl hin hE hX => ?_)
  refine gd_aload_n hX 0 dd_Mo_init_0 rfl ?_
  refine gd_init hX 1 dd_Mo_init_1 kw_407 (Nat.le_of_ble_eq_true rfl) (Nat.le_of_ble_eq_true rfl) ?_
  refine gd_aload_n hX 4 dd_Mo_init_4 rfl ?_
  refine gd_bipush hX 5 dd_Mo_init_5 (v := 64) (by decide) ?_
  refine gd_newaJ hX 64 7 dd_Mo_init_7 rfl (by omega) (by simp) (by simp) (fun va => ?_)
  show gd_W X K 1 64 [gd_ob 5 h [.int 0, .null, .null, .null, .null, .null, .null, .null, .int 0, .int 0, .int 0, .int 0], gd_aJ K va 64 (fun _ => 0)] [(0, .ref h)] [.ref va, .ref h] 9
  refine gd_putF hX inC_Mo ty_Mo tyk_Mo nm_Mo 0 1 [gd_ob 5 h [.int 0, .ref va, .null, .null, .null, .null, .null, .null, .int 0, .int 0, .int 0, .int 0], gd_aJ K va 64 (fun _ => 0)] 9 dd_Mo_init_9 rfl rfl (by decide) kw_409 rfl hin (by decide) rfl rfl (Nat.le_of_ble_eq_true rfl) rfl ?_
  refine gd_aload_n hX 12 dd_Mo_init_12 rfl ?_
  refine gd_bipush hX 13 dd_Mo_init_13 (v := 64) (by decide) ?_
  refine gd_newaJ hX 64 15 dd_Mo_init_15 rfl (by omega) (by simp) (by simp) (fun re => ?_)
  show gd_W X K 2 128 [gd_ob 5 h [.int 0, .ref va, .null, .null, .null, .null, .null, .null, .int 0, .int 0, .int 0, .int 0], gd_aJ K va 64 (fun _ => 0), gd_aJ K re 64 (fun _ => 0)] [(0, .ref h)] [.ref re, .ref h] 17
  refine gd_putF hX inC_Mo ty_Mo tyk_Mo nm_Mo 0 2 [gd_ob 5 h [.int 0, .ref va, .ref re, .null, .null, .null, .null, .null, .int 0, .int 0, .int 0, .int 0], gd_aJ K va 64 (fun _ => 0), gd_aJ K re 64 (fun _ => 0)] 17 dd_Mo_init_17 rfl rfl (by decide) kw_410 rfl hin (by decide) rfl rfl (Nat.le_of_ble_eq_true rfl) rfl ?_
  refine gd_aload_n hX 20 dd_Mo_init_20 rfl ?_
  refine gd_bipush hX 21 dd_Mo_init_21 (v := 64) (by decide) ?_
  refine gd_newaZ hX 64 23 dd_Mo_init_23 rfl (by omega) (by simp) (by simp) (fun fu => ?_)
  show gd_W X K 3 192 [gd_ob 5 h [.int 0, .ref va, .ref re, .null, .null, .null, .null, .null, .int 0, .int 0, .int 0, .int 0], gd_aJ K va 64 (fun _ => 0), gd_aJ K re 64 (fun _ => 0), gd_aZ K fu 64 (fun _ => 0)] [(0, .ref h)] [.ref fu, .ref h] 25
  refine gd_putF hX inC_Mo ty_Mo tyk_Mo nm_Mo 0 3 [gd_ob 5 h [.int 0, .ref va, .ref re, .ref fu, .null, .null, .null, .null, .int 0, .int 0, .int 0, .int 0], gd_aJ K va 64 (fun _ => 0), gd_aJ K re 64 (fun _ => 0), gd_aZ K fu 64 (fun _ => 0)] 25 dd_Mo_init_25 rfl rfl (by decide) kw_411 rfl hin (by decide) rfl rfl (Nat.le_of_ble_eq_true rfl) rfl ?_
  refine gd_aload_n hX 28 dd_Mo_init_28 rfl ?_
  refine gd_bipush hX 29 dd_Mo_init_29 (v := 64) (by decide) ?_
  refine gd_newaZ hX 64 31 dd_Mo_init_31 rfl (by omega) (by simp) (by simp) (fun wi => ?_)
  show gd_W X K 4 256 [gd_ob 5 h [.int 0, .ref va, .ref re, .ref fu, .null, .null, .null, .null, .int 0, .int 0, .int 0, .int 0], gd_aJ K va 64 (fun _ => 0), gd_aJ K re 64 (fun _ => 0), gd_aZ K fu 64 (fun _ => 0), gd_aZ K wi 64 (fun _ => 0)] [(0, .ref h)] [.ref wi, .ref h] 33
  refine gd_putF hX inC_Mo ty_Mo tyk_Mo nm_Mo 0 4 [gd_ob 5 h [.int 0, .ref va, .ref re, .ref fu, .ref wi, .null, .null, .null, .int 0, .int 0, .int 0, .int 0], gd_aJ K va 64 (fun _ => 0), gd_aJ K re 64 (fun _ => 0), gd_aZ K fu 64 (fun _ => 0), gd_aZ K wi 64 (fun _ => 0)] 33 dd_Mo_init_33 rfl rfl (by decide) kw_412 rfl hin (by decide) rfl rfl (Nat.le_of_ble_eq_true rfl) rfl ?_
  refine gd_aload_n hX 36 dd_Mo_init_36 rfl ?_
  refine gd_sipush hX 37 dd_Mo_init_37 (v := 720) (by decide) ?_
  refine gd_newaI hX 720 40 dd_Mo_init_40 rfl (by omega) (by simp) (by simp) (fun ma => ?_)
  show gd_W X K 5 976 [gd_ob 5 h [.int 0, .ref va, .ref re, .ref fu, .ref wi, .null, .null, .null, .int 0, .int 0, .int 0, .int 0], gd_aJ K va 64 (fun _ => 0), gd_aJ K re 64 (fun _ => 0), gd_aZ K fu 64 (fun _ => 0), gd_aZ K wi 64 (fun _ => 0), gd_aI K ma 720 (fun _ => 0)] [(0, .ref h)] [.ref ma, .ref h] 42
  refine gd_putF hX inC_Mo ty_Mo tyk_Mo nm_Mo 0 5 [gd_ob 5 h [.int 0, .ref va, .ref re, .ref fu, .ref wi, .ref ma, .null, .null, .int 0, .int 0, .int 0, .int 0], gd_aJ K va 64 (fun _ => 0), gd_aJ K re 64 (fun _ => 0), gd_aZ K fu 64 (fun _ => 0), gd_aZ K wi 64 (fun _ => 0), gd_aI K ma 720 (fun _ => 0)] 42 dd_Mo_init_42 rfl rfl (by decide) kw_413 rfl hin (by decide) rfl rfl (Nat.le_of_ble_eq_true rfl) rfl ?_
  refine gd_aload_n hX 45 dd_Mo_init_45 rfl ?_
  refine gd_sipush hX 46 dd_Mo_init_46 (v := 720) (by decide) ?_
  refine gd_newaI hX 720 49 dd_Mo_init_49 rfl (by omega) (by simp) (by simp) (fun wo => ?_)
  show gd_W X K 6 1696 [gd_ob 5 h [.int 0, .ref va, .ref re, .ref fu, .ref wi, .ref ma, .null, .null, .int 0, .int 0, .int 0, .int 0], gd_aJ K va 64 (fun _ => 0), gd_aJ K re 64 (fun _ => 0), gd_aZ K fu 64 (fun _ => 0), gd_aZ K wi 64 (fun _ => 0), gd_aI K ma 720 (fun _ => 0), gd_aI K wo 720 (fun _ => 0)] [(0, .ref h)] [.ref wo, .ref h] 51
  refine gd_putF hX inC_Mo ty_Mo tyk_Mo nm_Mo 0 6 [gd_ob 5 h [.int 0, .ref va, .ref re, .ref fu, .ref wi, .ref ma, .ref wo, .null, .int 0, .int 0, .int 0, .int 0], gd_aJ K va 64 (fun _ => 0), gd_aJ K re 64 (fun _ => 0), gd_aZ K fu 64 (fun _ => 0), gd_aZ K wi 64 (fun _ => 0), gd_aI K ma 720 (fun _ => 0), gd_aI K wo 720 (fun _ => 0)] 51 dd_Mo_init_51 rfl rfl (by decide) kw_414 rfl hin (by decide) rfl rfl (Nat.le_of_ble_eq_true rfl) rfl ?_
  refine gd_aload_n hX 54 dd_Mo_init_54 rfl ?_
  refine gd_sipush hX 55 dd_Mo_init_55 (v := 1000) (by decide) ?_
  refine gd_newaI hX 1000 58 dd_Mo_init_58 rfl (by omega) (by simp) (by simp) (fun fd => ?_)
  show gd_W X K 7 2696 [gd_ob 5 h [.int 0, .ref va, .ref re, .ref fu, .ref wi, .ref ma, .ref wo, .null, .int 0, .int 0, .int 0, .int 0], gd_aJ K va 64 (fun _ => 0), gd_aJ K re 64 (fun _ => 0), gd_aZ K fu 64 (fun _ => 0), gd_aZ K wi 64 (fun _ => 0), gd_aI K ma 720 (fun _ => 0), gd_aI K wo 720 (fun _ => 0), gd_aI K fd 1000 (fun _ => 0)] [(0, .ref h)] [.ref fd, .ref h] 60
  refine gd_putF hX inC_Mo ty_Mo tyk_Mo nm_Mo 0 7 [gd_ob 5 h [.int 0, .ref va, .ref re, .ref fu, .ref wi, .ref ma, .ref wo, .ref fd, .int 0, .int 0, .int 0, .int 0], gd_aJ K va 64 (fun _ => 0), gd_aJ K re 64 (fun _ => 0), gd_aZ K fu 64 (fun _ => 0), gd_aZ K wi 64 (fun _ => 0), gd_aI K ma 720 (fun _ => 0), gd_aI K wo 720 (fun _ => 0), gd_aI K fd 1000 (fun _ => 0)] 60 dd_Mo_init_60 rfl rfl (by decide) kw_415 rfl hin (by decide) rfl rfl (Nat.le_of_ble_eq_true rfl) rfl ?_
  refine gd_aload_n hX 63 dd_Mo_init_63 rfl ?_
  refine gd_iconst hX 64 dd_Mo_init_64 (v := (-1)) (by decide) ?_
  refine gd_put hX inC_Mo ty_Mo tyk_Mo nm_Mo 0 11 [gd_ob 5 h [.int 0, .ref va, .ref re, .ref fu, .ref wi, .ref ma, .ref wo, .ref fd, .int 0, .int 0, .int 0, .int (-1)], gd_aJ K va 64 (fun _ => 0), gd_aJ K re 64 (fun _ => 0), gd_aZ K fu 64 (fun _ => 0), gd_aZ K wi 64 (fun _ => 0), gd_aI K ma 720 (fun _ => 0), gd_aI K wo 720 (fun _ => 0), gd_aI K fd 1000 (fun _ => 0)] 65 dd_Mo_init_65 rfl rfl (by decide) kw_419 rfl rfl rfl (Nat.le_of_ble_eq_true rfl) rfl ?_
  exact gd_vret hX hE 68 dd_Mo_init_68 ⟨rfl, va, re, fu, wi, ma, wo, fd, rfl⟩
set_option maxRecDepth 100000 in
set_option maxHeartbeats 4000000 in
theorem ct_Mo_thrown (l : Launch) (K : gd_K) (h va re fu wi ma wo fd : Nat) (er mm wm mn pl : Int32) : gd_M l yy_Mo_thrown bb_Mo_thrown 1 (some .int) [] 0 0 0 0 K [.ref h] [gd_ob 5 h [.int er, .ref va, .ref re, .ref fu, .ref wi, .ref ma, .ref wo, .ref fd, .int mm, .int wm, .int mn, .int pl]] (fun v w1 => v = some (.int er) ∧ w1 = [gd_ob 5 h [.int er, .ref va, .ref re, .ref fu, .ref wi, .ref ma, .ref wo, .ref fd, .int mm, .int wm, .int mn, .int pl]]) (fun _ _ => False) := by
  refine gd_body (Nat.le_of_ble_eq_true rfl) (fun X hXl hin hE hX => ?_)
  refine gd_aload_n hX 0 dd_Mo_thrown_0 rfl ?_
  refine gd_get hX inC_Mo 0 0 1 dd_Mo_thrown_1 rfl rfl (by decide) kw_408 rfl ?_
  exact gd_iret hX hE 4 dd_Mo_thrown_4 ⟨rfl, rfl⟩
set_option maxRecDepth 100000 in
set_option maxHeartbeats 4000000 in
theorem ct_Mo_fails (l : Launch) (K : gd_K) (h va re fu wi ma wo fd : Nat) (er mm wm mn pl : Int32) (p : Bool) (y : Int32) : gd_M l yy_Mo_fails bb_Mo_fails 3 (some .boolean) [] 0 0 0 0 K [.ref h, .int (if p then 1 else 0), .int y] [gd_ob 5 h [.int er, .ref va, .ref re, .ref fu, .ref wi, .ref ma, .ref wo, .ref fd, .int mm, .int wm, .int mn, .int pl]] (fun v w1 => v = some (.int (if p then 1 else 0)) ∧ w1 = [gd_ob 5 h [.int (if p then y else 0), .ref va, .ref re, .ref fu, .ref wi, .ref ma, .ref wo, .ref fd, .int mm, .int wm, .int mn, .int pl]]) (fun _ _ => False) := by
  refine gd_body (Nat.le_of_ble_eq_true rfl) (fun X hXl hin hE hX => ?_)
  refine gd_aload_n hX 0 dd_Mo_fails_0 rfl ?_
  refine gd_iload_n hX 1 dd_Mo_fails_1 rfl ?_
  refine gd_if_eq hX 2 9 dd_Mo_fails_2 (by decide) (fun h1 => ?_) (fun h1 => ?_)
  · skip
    have hp := (ch_ib p).mp h1
    refine gd_iconst hX 9 dd_Mo_fails_9 (v := 0) (by decide) ?_
    refine gd_put hX inC_Mo ty_Mo tyk_Mo nm_Mo 0 0 [gd_ob 5 h [.int 0, .ref va, .ref re, .ref fu, .ref wi, .ref ma, .ref wo, .ref fd, .int mm, .int wm, .int mn, .int pl]] 10 dd_Mo_fails_10 rfl rfl (by decide) kw_408 rfl rfl rfl (Nat.le_of_ble_eq_true rfl) rfl ?_
    refine gd_iload_n hX 13 dd_Mo_fails_13 rfl ?_
    exact gd_zret hX hE 14 dd_Mo_fails_14 (by cases p <;> rfl) ⟨rfl, by rw [hp]; rfl⟩
  · skip
    have hp := (ch_ifb p).mp h1
    refine gd_iload_n hX 5 dd_Mo_fails_5 rfl ?_
    refine gd_goto hX 6 10 dd_Mo_fails_6 (by decide) ?_
    refine gd_put hX inC_Mo ty_Mo tyk_Mo nm_Mo 0 0 [gd_ob 5 h [.int y, .ref va, .ref re, .ref fu, .ref wi, .ref ma, .ref wo, .ref fd, .int mm, .int wm, .int mn, .int pl]] 10 dd_Mo_fails_10 rfl rfl (by decide) kw_408 rfl rfl rfl (Nat.le_of_ble_eq_true rfl) rfl ?_
    refine gd_iload_n hX 13 dd_Mo_fails_13 rfl ?_
    exact gd_zret hX hE 14 dd_Mo_fails_14 (by cases p <;> rfl) ⟨rfl, by rw [hp]; rfl⟩
set_option maxRecDepth 100000 in
set_option maxHeartbeats 4000000 in
theorem ct_Mo_none (l : Launch) (K : gd_K) (k : Int32) : gd_M l yy_Mo_none bb_Mo_none 1 (some .boolean) [] 0 0 0 0 K [.int k] [] (fun v w1 => v = some (.int (if ch_no k then 1 else 0)) ∧ w1 = []) (fun _ _ => False) := by
  refine gd_body (Nat.le_of_ble_eq_true rfl) (fun X hXl hin hE hX => ?_)
  refine gd_iload_n hX 0 dd_Mo_none_0 rfl ?_
  refine gd_if_lt hX 1 10 dd_Mo_none_1 (by decide) (fun h1 => ?_) (fun h1 => ?_)
  · skip
    have hp := ch_no_t (Or.inl h1)
    refine gd_iconst hX 10 dd_Mo_none_10 (v := 1) (by decide) ?_
    refine gd_goto hX 11 15 dd_Mo_none_11 (by decide) ?_
    exact gd_zret hX hE 15 dd_Mo_none_15 rfl ⟨by rw [hp]; rfl, rfl⟩
  · skip
    refine gd_iload_n hX 4 dd_Mo_none_4 rfl ?_
    refine gd_bipush hX 5 dd_Mo_none_5 (v := 64) (by decide) ?_
    refine gd_icmp_lt hX 7 14 dd_Mo_none_7 (by decide) (fun h2 => ?_) (fun h2 => ?_)
    · skip
      have hp : ch_no k = false := ch_no_f (by rintro (q | q); { exact h1 q }; { exact Int32.not_le.mpr h2 q })
      refine gd_iconst hX 14 dd_Mo_none_14 (v := 0) (by decide) ?_
      exact gd_zret hX hE 15 dd_Mo_none_15 rfl ⟨by rw [hp]; rfl, rfl⟩
    · skip
      have hp := ch_no_t (k := k) (Or.inr (ch_nlt h2))
      refine gd_iconst hX 10 dd_Mo_none_10 (v := 1) (by decide) ?_
      refine gd_goto hX 11 15 dd_Mo_none_11 (by decide) ?_
      exact gd_zret hX hE 15 dd_Mo_none_15 rfl ⟨by rw [hp]; rfl, rfl⟩
set_option maxRecDepth 100000 in
set_option maxHeartbeats 4000000 in
theorem ct_Mo_put (l : Launch) (K : gd_K) (h va re fu wi ma wo fd : Nat) (er mm wm mn pl : Int32) (vf : Nat → Int64) (uf : Nat → Int32) (k : Int32) (v : Int64) : gd_M l yy_Mo_put bb_Mo_put 4 (none) [] 1 14 0 0 K [.ref h, .int k, .long v] [gd_ob 5 h [.int er, .ref va, .ref re, .ref fu, .ref wi, .ref ma, .ref wo, .ref fd, .int mm, .int wm, .int mn, .int pl], gd_aJ K va 64 vf, gd_aZ K fu 64 uf] (fun v9 w1 => v9 = none ∧ ((ch_no k = true ∧ w1 = [gd_ob 5 h [.int 1, .ref va, .ref re, .ref fu, .ref wi, .ref ma, .ref wo, .ref fd, .int mm, .int wm, .int mn, .int pl], gd_aJ K va 64 vf, gd_aZ K fu 64 uf]) ∨ ∃ j, j < 64 ∧ k = nI j ∧ w1 = [gd_ob 5 h [.int 0, .ref va, .ref re, .ref fu, .ref wi, .ref ma, .ref wo, .ref fd, .int mm, .int wm, .int mn, .int pl], gd_aJ K va 64 (vp_updL vf j v), gd_aZ K fu 64 (upd uf j (vp_nar .boolean 1))])) (fun _ _ => False) := by
  refine gd_body (Nat.le_of_ble_eq_true rfl) (fun X hXl hin hE hX => ?_)
  refine gd_aload_n hX 0 dd_Mo_put_0 rfl ?_
  refine gd_iload_n hX 1 dd_Mo_put_1 rfl ?_
  refine gd_call hX (st := [.ref h]) (wr := [gd_ob 5 h [.int er, .ref va, .ref re, .ref fu, .ref wi, .ref ma, .ref wo, .ref fd, .int mm, .int wm, .int mn, .int pl], gd_aJ K va 64 vf, gd_aZ K fu 64 uf]) (ct_Mo_none _ K k) 2 dd_Mo_put_2 (gd_nS hX (As := [.int k]) kw_454 kw_455 kw_18 (gd_nmOf kw_456) (gd_sigOf (n := 1) kw_456 (by decide)) (by decide) rfl rfl dd_Mo_put_2) (gd_codeOf kw_456) (by decide) [] [0, 1, 2] rfl rfl rfl rfl rfl (by decide) (Nat.le_of_ble_eq_true rfl) (Nat.le_of_ble_eq_true rfl) (Nat.le_of_ble_eq_true rfl) (Nat.le_of_ble_eq_true rfl) (fun v9 w9 h9 => ?_) (fun E9 w9 q9 h9 => h9.elim)
  obtain ⟨rfl, rfl⟩ := h9
  show gd_W X K 0 0 [gd_ob 5 h [.int er, .ref va, .ref re, .ref fu, .ref wi, .ref ma, .ref wo, .ref fd, .int mm, .int wm, .int mn, .int pl], gd_aJ K va 64 vf, gd_aZ K fu 64 uf] [(0, .ref h), (1, .int k), (2, .long v)] [.int (if ch_no k then 1 else 0), .ref h] 5
  refine gd_iconst hX 5 dd_Mo_put_5 (v := 1) (by decide) ?_
  refine gd_call hX (st := []) (wr := [gd_aJ K va 64 vf, gd_aZ K fu 64 uf]) (ct_Mo_fails _ K h va re fu wi ma wo fd er mm wm mn pl (ch_no k) 1) 6 dd_Mo_put_6 (gd_nV hX (As := [.int (if ch_no k then 1 else 0), .int 1]) kw_457 kw_459 kw_8 (gd_sigOf (n := 2) kw_460 (by decide)) (by decide) 0 rfl rfl rfl rfl dd_Mo_put_6) (gd_codeOf kw_460) (by decide) [0] [1, 2] rfl rfl rfl rfl rfl (by decide) (Nat.le_of_ble_eq_true rfl) (Nat.le_of_ble_eq_true rfl) (Nat.le_of_ble_eq_true rfl) (Nat.le_of_ble_eq_true rfl) (fun v9 w9 h9 => ?_) (fun E9 w9 q9 h9 => h9.elim)
  obtain ⟨rfl, rfl⟩ := h9
  refine gd_wsp [gd_ob 5 h [.int (if ch_no k then 1 else 0), .ref va, .ref re, .ref fu, .ref wi, .ref ma, .ref wo, .ref fd, .int mm, .int wm, .int mn, .int pl], gd_aJ K va 64 vf, gd_aZ K fu 64 uf] [2, 0, 1] rfl rfl rfl ?_
  show gd_W X K 0 0 [gd_ob 5 h [.int (if ch_no k then 1 else 0), .ref va, .ref re, .ref fu, .ref wi, .ref ma, .ref wo, .ref fd, .int mm, .int wm, .int mn, .int pl], gd_aJ K va 64 vf, gd_aZ K fu 64 uf] [(0, .ref h), (1, .int k), (2, .long v)] [.int (if ch_no k then 1 else 0)] 9
  refine gd_if_eq hX 9 13 dd_Mo_put_9 (by decide) (fun h1 => ?_) (fun h1 => ?_)
  · skip
    have hp := (ch_ib _).mp h1
    obtain ⟨j, hj, rfl⟩ := ch_no_ix hp
    rw [hp]
    show gd_W X K 0 0 [gd_ob 5 h [.int 0, .ref va, .ref re, .ref fu, .ref wi, .ref ma, .ref wo, .ref fd, .int mm, .int wm, .int mn, .int pl], gd_aJ K va 64 vf, gd_aZ K fu 64 uf] [(0, .ref h), (1, .int (nI j)), (2, .long v)] [] 13
    refine gd_aload_n hX 13 dd_Mo_put_13 rfl ?_
    refine gd_get hX inC_Mo 0 1 14 dd_Mo_put_14 rfl rfl (by decide) kw_409 rfl ?_
    refine gd_iload_n hX 17 dd_Mo_put_17 rfl ?_
    refine gd_lload_n hX 18 dd_Mo_put_18 rfl ?_
    refine gd_last hX 1 j [gd_ob 5 h [.int 0, .ref va, .ref re, .ref fu, .ref wi, .ref ma, .ref wo, .ref fd, .int mm, .int wm, .int mn, .int pl], gd_aJ K va 64 (vp_updL vf j v), gd_aZ K fu 64 uf] 19 dd_Mo_put_19 rfl rfl hj (by decide) rfl ?_
    refine gd_aload_n hX 20 dd_Mo_put_20 rfl ?_
    refine gd_get hX inC_Mo 0 3 21 dd_Mo_put_21 rfl rfl (by decide) kw_411 rfl ?_
    refine gd_iload_n hX 24 dd_Mo_put_24 rfl ?_
    refine gd_iconst hX 25 dd_Mo_put_25 (v := 1) (by decide) ?_
    refine gd_zast hX 2 j [gd_ob 5 h [.int 0, .ref va, .ref re, .ref fu, .ref wi, .ref ma, .ref wo, .ref fd, .int mm, .int wm, .int mn, .int pl], gd_aJ K va 64 (vp_updL vf j v), gd_aZ K fu 64 (upd uf j (vp_nar .boolean 1))] 26 dd_Mo_put_26 rfl rfl hj (by decide) rfl ?_
    exact gd_vret hX hE 27 dd_Mo_put_27 ⟨rfl, Or.inr ⟨j, hj, rfl, rfl⟩⟩
  · skip
    have hp := (ch_ifb _).mp h1
    rw [hp]
    exact gd_vret hX hE 12 dd_Mo_put_12 ⟨rfl, Or.inl ⟨hp, rfl⟩⟩
set_option maxRecDepth 100000 in
set_option maxHeartbeats 4000000 in
theorem ct_Mo_get (l : Launch) (K : gd_K) (h va re fu wi ma wo fd : Nat) (er mm wm mn pl : Int32) (w : Int64) (f vf : Nat → Int64) (uf : Nat → Int32) (hM : ch_M w f vf uf) (k : Int32) : gd_M l yy_Mo_get bb_Mo_get 2 (some .long) [] 1 14 0 0 K [.ref h, .int k] [gd_ob 5 h [.int er, .ref va, .ref re, .ref fu, .ref wi, .ref ma, .ref wo, .ref fd, .int mm, .int wm, .int mn, .int pl], gd_aJ K va 64 vf, gd_aZ K fu 64 uf] (fun v9 w1 => (ch_no k = true ∧ v9 = some (.long 0) ∧ w1 = [gd_ob 5 h [.int 1, .ref va, .ref re, .ref fu, .ref wi, .ref ma, .ref wo, .ref fd, .int mm, .int wm, .int mn, .int pl], gd_aJ K va 64 vf, gd_aZ K fu 64 uf]) ∨ ∃ j, j < 64 ∧ k = nI j ∧ ((ch_bit w j = false ∧ v9 = some (.long 0) ∧ w1 = [gd_ob 5 h [.int 2, .ref va, .ref re, .ref fu, .ref wi, .ref ma, .ref wo, .ref fd, .int mm, .int wm, .int mn, .int pl], gd_aJ K va 64 vf, gd_aZ K fu 64 uf]) ∨ (ch_bit w j = true ∧ v9 = some (.long (f j)) ∧ w1 = [gd_ob 5 h [.int 0, .ref va, .ref re, .ref fu, .ref wi, .ref ma, .ref wo, .ref fd, .int mm, .int wm, .int mn, .int pl], gd_aJ K va 64 vf, gd_aZ K fu 64 uf]))) (fun _ _ => False) := by
  refine gd_body (Nat.le_of_ble_eq_true rfl) (fun X hXl hin hE hX => ?_)
  refine gd_aload_n hX 0 dd_Mo_get_0 rfl ?_
  refine gd_iload_n hX 1 dd_Mo_get_1 rfl ?_
  refine gd_call hX (st := [.ref h]) (wr := [gd_ob 5 h [.int er, .ref va, .ref re, .ref fu, .ref wi, .ref ma, .ref wo, .ref fd, .int mm, .int wm, .int mn, .int pl], gd_aJ K va 64 vf, gd_aZ K fu 64 uf]) (ct_Mo_none _ K k) 2 dd_Mo_get_2 (gd_nS hX (As := [.int k]) kw_454 kw_455 kw_18 (gd_nmOf kw_456) (gd_sigOf (n := 1) kw_456 (by decide)) (by decide) rfl rfl dd_Mo_get_2) (gd_codeOf kw_456) (by decide) [] [0, 1, 2] rfl rfl rfl rfl rfl (by decide) (Nat.le_of_ble_eq_true rfl) (Nat.le_of_ble_eq_true rfl) (Nat.le_of_ble_eq_true rfl) (Nat.le_of_ble_eq_true rfl) (fun v9 w9 h9 => ?_) (fun E9 w9 q9 h9 => h9.elim)
  obtain ⟨rfl, rfl⟩ := h9
  show gd_W X K 0 0 [gd_ob 5 h [.int er, .ref va, .ref re, .ref fu, .ref wi, .ref ma, .ref wo, .ref fd, .int mm, .int wm, .int mn, .int pl], gd_aJ K va 64 vf, gd_aZ K fu 64 uf] [(0, .ref h), (1, .int k)] [.int (if ch_no k then 1 else 0), .ref h] 5
  refine gd_iconst hX 5 dd_Mo_get_5 (v := 1) (by decide) ?_
  refine gd_call hX (st := []) (wr := [gd_aJ K va 64 vf, gd_aZ K fu 64 uf]) (ct_Mo_fails _ K h va re fu wi ma wo fd er mm wm mn pl (ch_no k) 1) 6 dd_Mo_get_6 (gd_nV hX (As := [.int (if ch_no k then 1 else 0), .int 1]) kw_457 kw_459 kw_8 (gd_sigOf (n := 2) kw_460 (by decide)) (by decide) 0 rfl rfl rfl rfl dd_Mo_get_6) (gd_codeOf kw_460) (by decide) [0] [1, 2] rfl rfl rfl rfl rfl (by decide) (Nat.le_of_ble_eq_true rfl) (Nat.le_of_ble_eq_true rfl) (Nat.le_of_ble_eq_true rfl) (Nat.le_of_ble_eq_true rfl) (fun v9 w9 h9 => ?_) (fun E9 w9 q9 h9 => h9.elim)
  obtain ⟨rfl, rfl⟩ := h9
  refine gd_wsp [gd_ob 5 h [.int (if ch_no k then 1 else 0), .ref va, .ref re, .ref fu, .ref wi, .ref ma, .ref wo, .ref fd, .int mm, .int wm, .int mn, .int pl], gd_aJ K va 64 vf, gd_aZ K fu 64 uf] [2, 0, 1] rfl rfl rfl ?_
  show gd_W X K 0 0 [gd_ob 5 h [.int (if ch_no k then 1 else 0), .ref va, .ref re, .ref fu, .ref wi, .ref ma, .ref wo, .ref fd, .int mm, .int wm, .int mn, .int pl], gd_aJ K va 64 vf, gd_aZ K fu 64 uf] [(0, .ref h), (1, .int k)] [.int (if ch_no k then 1 else 0)] 9
  refine gd_if_eq hX 9 14 dd_Mo_get_9 (by decide) (fun h1 => ?_) (fun h1 => ?_)
  · skip
    have hp := (ch_ib _).mp h1
    obtain ⟨j, hj, rfl⟩ := ch_no_ix hp
    rw [hp]
    show gd_W X K 0 0 [gd_ob 5 h [.int 0, .ref va, .ref re, .ref fu, .ref wi, .ref ma, .ref wo, .ref fd, .int mm, .int wm, .int mn, .int pl], gd_aJ K va 64 vf, gd_aZ K fu 64 uf] [(0, .ref h), (1, .int (nI j))] [] 14
    have hm := hM j hj
    refine gd_aload_n hX 14 dd_Mo_get_14 rfl ?_
    refine gd_aload_n hX 15 dd_Mo_get_15 rfl ?_
    refine gd_get hX inC_Mo 0 3 16 dd_Mo_get_16 rfl rfl (by decide) kw_411 rfl ?_
    refine gd_iload_n hX 19 dd_Mo_get_19 rfl ?_
    refine gd_zald hX 2 j 20 dd_Mo_get_20 rfl rfl hj (by decide) ?_
    refine gd_eqi (show (uf j : Int32) = (if ch_bit w j then 1 else 0) from hm.1) ?_
    refine gd_if_ne hX 21 28 dd_Mo_get_21 (by decide) (fun h2 => ?_) (fun h2 => ?_)
    · skip
      have hb := (ch_ifb _).mp h2
      refine gd_iconst hX 28 dd_Mo_get_28 (v := 0) (by decide) ?_
      refine gd_eqi (show (0 : Int32) = (if false then 1 else 0) from rfl) ?_
      refine gd_iconst hX 29 dd_Mo_get_29 (v := 2) (by decide) ?_
      refine gd_call hX (st := []) (wr := [gd_aJ K va 64 vf, gd_aZ K fu 64 uf]) (ct_Mo_fails _ K h va re fu wi ma wo fd 0 mm wm mn pl false 2) 30 dd_Mo_get_30 (gd_nV hX (As := [.int (if false then 1 else 0), .int 2]) kw_457 kw_459 kw_8 (gd_sigOf (n := 2) kw_460 (by decide)) (by decide) 0 rfl rfl rfl rfl dd_Mo_get_30) (gd_codeOf kw_460) (by decide) [0] [1, 2] rfl rfl rfl rfl rfl (by decide) (Nat.le_of_ble_eq_true rfl) (Nat.le_of_ble_eq_true rfl) (Nat.le_of_ble_eq_true rfl) (Nat.le_of_ble_eq_true rfl) (fun v9 w9 h9 => ?_) (fun E9 w9 q9 h9 => h9.elim)
      obtain ⟨rfl, rfl⟩ := h9
      refine gd_wsp [gd_ob 5 h [.int (if false then 2 else 0), .ref va, .ref re, .ref fu, .ref wi, .ref ma, .ref wo, .ref fd, .int mm, .int wm, .int mn, .int pl], gd_aJ K va 64 vf, gd_aZ K fu 64 uf] [2, 0, 1] rfl rfl rfl ?_
      show gd_W X K 0 0 [gd_ob 5 h [.int (if false then 2 else 0), .ref va, .ref re, .ref fu, .ref wi, .ref ma, .ref wo, .ref fd, .int mm, .int wm, .int mn, .int pl], gd_aJ K va 64 vf, gd_aZ K fu 64 uf] [(0, .ref h), (1, .int (nI j))] [.int (if false then 1 else 0)] 33
      refine gd_if_eq hX 33 40 dd_Mo_get_33 (by decide) (fun h3 => ?_) (fun h3 => ?_)
      · skip
        show gd_W X K 0 0 [gd_ob 5 h [.int 0, .ref va, .ref re, .ref fu, .ref wi, .ref ma, .ref wo, .ref fd, .int mm, .int wm, .int mn, .int pl], gd_aJ K va 64 vf, gd_aZ K fu 64 uf] [(0, .ref h), (1, .int (nI j))] [] 40
        refine gd_aload_n hX 40 dd_Mo_get_40 rfl ?_
        refine gd_get hX inC_Mo 0 1 41 dd_Mo_get_41 rfl rfl (by decide) kw_409 rfl ?_
        refine gd_iload_n hX 44 dd_Mo_get_44 rfl ?_
        refine gd_lald hX 1 j 45 dd_Mo_get_45 rfl rfl hj (by decide) ?_
        refine gd_eql (show (vf j : Int64) = f j from hm.2 hb) ?_
        exact gd_lret hX hE 46 dd_Mo_get_46 (Or.inr ⟨j, hj, rfl, Or.inr ⟨hb, rfl, rfl⟩⟩)
      · skip
        exact absurd rfl h3
    · skip
      have hb := (ch_ib _).mp h2
      refine gd_iconst hX 24 dd_Mo_get_24 (v := 1) (by decide) ?_
      refine gd_goto hX 25 29 dd_Mo_get_25 (by decide) ?_
      refine gd_eqi (show (1 : Int32) = (if true then 1 else 0) from rfl) ?_
      refine gd_iconst hX 29 dd_Mo_get_29 (v := 2) (by decide) ?_
      refine gd_call hX (st := []) (wr := [gd_aJ K va 64 vf, gd_aZ K fu 64 uf]) (ct_Mo_fails _ K h va re fu wi ma wo fd 0 mm wm mn pl true 2) 30 dd_Mo_get_30 (gd_nV hX (As := [.int (if true then 1 else 0), .int 2]) kw_457 kw_459 kw_8 (gd_sigOf (n := 2) kw_460 (by decide)) (by decide) 0 rfl rfl rfl rfl dd_Mo_get_30) (gd_codeOf kw_460) (by decide) [0] [1, 2] rfl rfl rfl rfl rfl (by decide) (Nat.le_of_ble_eq_true rfl) (Nat.le_of_ble_eq_true rfl) (Nat.le_of_ble_eq_true rfl) (Nat.le_of_ble_eq_true rfl) (fun v9 w9 h9 => ?_) (fun E9 w9 q9 h9 => h9.elim)
      obtain ⟨rfl, rfl⟩ := h9
      refine gd_wsp [gd_ob 5 h [.int (if true then 2 else 0), .ref va, .ref re, .ref fu, .ref wi, .ref ma, .ref wo, .ref fd, .int mm, .int wm, .int mn, .int pl], gd_aJ K va 64 vf, gd_aZ K fu 64 uf] [2, 0, 1] rfl rfl rfl ?_
      show gd_W X K 0 0 [gd_ob 5 h [.int (if true then 2 else 0), .ref va, .ref re, .ref fu, .ref wi, .ref ma, .ref wo, .ref fd, .int mm, .int wm, .int mn, .int pl], gd_aJ K va 64 vf, gd_aZ K fu 64 uf] [(0, .ref h), (1, .int (nI j))] [.int (if true then 1 else 0)] 33
      refine gd_if_eq hX 33 40 dd_Mo_get_33 (by decide) (fun h3 => ?_) (fun h3 => ?_)
      · skip
        exact absurd (show (1 : Int32) = 0 from h3) (by decide)
      · skip
        show gd_W X K 0 0 [gd_ob 5 h [.int 2, .ref va, .ref re, .ref fu, .ref wi, .ref ma, .ref wo, .ref fd, .int mm, .int wm, .int mn, .int pl], gd_aJ K va 64 vf, gd_aZ K fu 64 uf] [(0, .ref h), (1, .int (nI j))] [] 36
        refine gd_lconst hX 36 dd_Mo_get_36 (v := 0) (by decide) ?_
        refine gd_goto hX 37 46 dd_Mo_get_37 (by decide) ?_
        exact gd_lret hX hE 46 dd_Mo_get_46 (Or.inr ⟨j, hj, rfl, Or.inl ⟨hb, rfl, rfl⟩⟩)
  · skip
    have hp := (ch_ifb _).mp h1
    rw [hp]
    show gd_W X K 0 0 [gd_ob 5 h [.int 1, .ref va, .ref re, .ref fu, .ref wi, .ref ma, .ref wo, .ref fd, .int mm, .int wm, .int mn, .int pl], gd_aJ K va 64 vf, gd_aZ K fu 64 uf] [(0, .ref h), (1, .int k)] [] 12
    refine gd_lconst hX 12 dd_Mo_get_12 (v := 0) (by decide) ?_
    exact gd_lret hX hE 13 dd_Mo_get_13 (Or.inl ⟨hp, rfl, rfl⟩)
set_option maxRecDepth 100000 in
set_option maxHeartbeats 4000000 in
theorem ct_Mo_erase (l : Launch) (K : gd_K) (h va re fu wi ma wo fd : Nat) (er mm wm mn pl : Int32) (uf : Nat → Int32) (k k2 : Int32) : gd_M l yy_Mo_erase bb_Mo_erase 4 (none) [] 1 14 0 0 K [.ref h, .int k, .int k2] [gd_ob 5 h [.int er, .ref va, .ref re, .ref fu, .ref wi, .ref ma, .ref wo, .ref fd, .int mm, .int wm, .int mn, .int pl], gd_aZ K fu 64 uf] (fun v9 w1 => v9 = none ∧ (((ch_no k || ch_no k2) = true ∧ w1 = [gd_ob 5 h [.int 1, .ref va, .ref re, .ref fu, .ref wi, .ref ma, .ref wo, .ref fd, .int mm, .int wm, .int mn, .int pl], gd_aZ K fu 64 uf]) ∨ ∃ a b, a < 64 ∧ b < 64 ∧ k = nI a ∧ k2 = nI b ∧ w1 = [gd_ob 5 h [.int 0, .ref va, .ref re, .ref fu, .ref wi, .ref ma, .ref wo, .ref fd, .int mm, .int wm, .int mn, .int pl], gd_aZ K fu 64 (ch_fe uf a (b + 1 - a))])) (fun _ _ => False) := by
  refine gd_body (Nat.le_of_ble_eq_true rfl) (fun X hXl hin hE hX => ?_)
  refine gd_aload_n hX 0 dd_Mo_erase_0 rfl ?_
  refine gd_iload_n hX 1 dd_Mo_erase_1 rfl ?_
  refine gd_call hX (st := [.ref h]) (wr := [gd_ob 5 h [.int er, .ref va, .ref re, .ref fu, .ref wi, .ref ma, .ref wo, .ref fd, .int mm, .int wm, .int mn, .int pl], gd_aZ K fu 64 uf]) (ct_Mo_none _ K k) 2 dd_Mo_erase_2 (gd_nS hX (As := [.int k]) kw_454 kw_455 kw_18 (gd_nmOf kw_456) (gd_sigOf (n := 1) kw_456 (by decide)) (by decide) rfl rfl dd_Mo_erase_2) (gd_codeOf kw_456) (by decide) [] [0, 1] rfl rfl rfl rfl rfl (by decide) (Nat.le_of_ble_eq_true rfl) (Nat.le_of_ble_eq_true rfl) (Nat.le_of_ble_eq_true rfl) (Nat.le_of_ble_eq_true rfl) (fun v9 w9 h9 => ?_) (fun E9 w9 q9 h9 => h9.elim)
  obtain ⟨rfl, rfl⟩ := h9
  show gd_W X K 0 0 [gd_ob 5 h [.int er, .ref va, .ref re, .ref fu, .ref wi, .ref ma, .ref wo, .ref fd, .int mm, .int wm, .int mn, .int pl], gd_aZ K fu 64 uf] [(0, .ref h), (1, .int k), (2, .int k2)] [.int (if ch_no k then 1 else 0), .ref h] 5
  refine gd_if_ne hX 5 15 dd_Mo_erase_5 (by decide) (fun h1 => ?_) (fun h1 => ?_)
  · skip
    have hor : (ch_no k || ch_no k2) = true := by rw [(ch_ifb _).mp h1]; rfl
    refine gd_iconst hX 15 dd_Mo_erase_15 (v := 1) (by decide) ?_
    refine gd_goto hX 16 20 dd_Mo_erase_16 (by decide) ?_
    refine gd_eqi (show (1 : Int32) = (if true then 1 else 0) from rfl) ?_
    refine gd_iconst hX 20 dd_Mo_erase_20 (v := 1) (by decide) ?_
    refine gd_call hX (st := []) (wr := [gd_aZ K fu 64 uf]) (ct_Mo_fails _ K h va re fu wi ma wo fd er mm wm mn pl true 1) 21 dd_Mo_erase_21 (gd_nV hX (As := [.int (if true then 1 else 0), .int 1]) kw_457 kw_459 kw_8 (gd_sigOf (n := 2) kw_460 (by decide)) (by decide) 0 rfl rfl rfl rfl dd_Mo_erase_21) (gd_codeOf kw_460) (by decide) [0] [1] rfl rfl rfl rfl rfl (by decide) (Nat.le_of_ble_eq_true rfl) (Nat.le_of_ble_eq_true rfl) (Nat.le_of_ble_eq_true rfl) (Nat.le_of_ble_eq_true rfl) (fun v9 w9 h9 => ?_) (fun E9 w9 q9 h9 => h9.elim)
    obtain ⟨rfl, rfl⟩ := h9
    refine gd_wsp [gd_ob 5 h [.int (if true then 1 else 0), .ref va, .ref re, .ref fu, .ref wi, .ref ma, .ref wo, .ref fd, .int mm, .int wm, .int mn, .int pl], gd_aZ K fu 64 uf] [1, 0] rfl rfl rfl ?_
    show gd_W X K 0 0 [gd_ob 5 h [.int (if true then 1 else 0), .ref va, .ref re, .ref fu, .ref wi, .ref ma, .ref wo, .ref fd, .int mm, .int wm, .int mn, .int pl], gd_aZ K fu 64 uf] [(0, .ref h), (1, .int k), (2, .int k2)] [.int (if true then 1 else 0)] 24
    refine gd_if_eq hX 24 28 dd_Mo_erase_24 (by decide) (fun h9 => ?_) (fun h9 => ?_)
    · skip
      exact absurd (show (1 : Int32) = 0 from h9) (by decide)
    · skip
      show gd_W X K 0 0 [gd_ob 5 h [.int 1, .ref va, .ref re, .ref fu, .ref wi, .ref ma, .ref wo, .ref fd, .int mm, .int wm, .int mn, .int pl], gd_aZ K fu 64 uf] [(0, .ref h), (1, .int k), (2, .int k2)] [] 27
      exact gd_vret hX hE 27 dd_Mo_erase_27 ⟨rfl, Or.inl ⟨hor, rfl⟩⟩
  · skip
    have hp := (ch_ib _).mp h1
    refine gd_iload_n hX 8 dd_Mo_erase_8 rfl ?_
    refine gd_call hX (st := [.ref h]) (wr := [gd_ob 5 h [.int er, .ref va, .ref re, .ref fu, .ref wi, .ref ma, .ref wo, .ref fd, .int mm, .int wm, .int mn, .int pl], gd_aZ K fu 64 uf]) (ct_Mo_none _ K k2) 9 dd_Mo_erase_9 (gd_nS hX (As := [.int k2]) kw_454 kw_455 kw_18 (gd_nmOf kw_456) (gd_sigOf (n := 1) kw_456 (by decide)) (by decide) rfl rfl dd_Mo_erase_9) (gd_codeOf kw_456) (by decide) [] [0, 1] rfl rfl rfl rfl rfl (by decide) (Nat.le_of_ble_eq_true rfl) (Nat.le_of_ble_eq_true rfl) (Nat.le_of_ble_eq_true rfl) (Nat.le_of_ble_eq_true rfl) (fun v9 w9 h9 => ?_) (fun E9 w9 q9 h9 => h9.elim)
    obtain ⟨rfl, rfl⟩ := h9
    show gd_W X K 0 0 [gd_ob 5 h [.int er, .ref va, .ref re, .ref fu, .ref wi, .ref ma, .ref wo, .ref fd, .int mm, .int wm, .int mn, .int pl], gd_aZ K fu 64 uf] [(0, .ref h), (1, .int k), (2, .int k2)] [.int (if ch_no k2 then 1 else 0), .ref h] 12
    refine gd_if_eq hX 12 19 dd_Mo_erase_12 (by decide) (fun h2 => ?_) (fun h2 => ?_)
    · skip
      have hp2 := (ch_ib _).mp h2
      refine gd_iconst hX 19 dd_Mo_erase_19 (v := 0) (by decide) ?_
      refine gd_eqi (show (0 : Int32) = (if false then 1 else 0) from rfl) ?_
      refine gd_iconst hX 20 dd_Mo_erase_20 (v := 1) (by decide) ?_
      refine gd_call hX (st := []) (wr := [gd_aZ K fu 64 uf]) (ct_Mo_fails _ K h va re fu wi ma wo fd er mm wm mn pl false 1) 21 dd_Mo_erase_21 (gd_nV hX (As := [.int (if false then 1 else 0), .int 1]) kw_457 kw_459 kw_8 (gd_sigOf (n := 2) kw_460 (by decide)) (by decide) 0 rfl rfl rfl rfl dd_Mo_erase_21) (gd_codeOf kw_460) (by decide) [0] [1] rfl rfl rfl rfl rfl (by decide) (Nat.le_of_ble_eq_true rfl) (Nat.le_of_ble_eq_true rfl) (Nat.le_of_ble_eq_true rfl) (Nat.le_of_ble_eq_true rfl) (fun v9 w9 h9 => ?_) (fun E9 w9 q9 h9 => h9.elim)
      obtain ⟨rfl, rfl⟩ := h9
      refine gd_wsp [gd_ob 5 h [.int (if false then 1 else 0), .ref va, .ref re, .ref fu, .ref wi, .ref ma, .ref wo, .ref fd, .int mm, .int wm, .int mn, .int pl], gd_aZ K fu 64 uf] [1, 0] rfl rfl rfl ?_
      show gd_W X K 0 0 [gd_ob 5 h [.int (if false then 1 else 0), .ref va, .ref re, .ref fu, .ref wi, .ref ma, .ref wo, .ref fd, .int mm, .int wm, .int mn, .int pl], gd_aZ K fu 64 uf] [(0, .ref h), (1, .int k), (2, .int k2)] [.int (if false then 1 else 0)] 24
      refine gd_if_eq hX 24 28 dd_Mo_erase_24 (by decide) (fun h9 => ?_) (fun h9 => ?_)
      · skip
        obtain ⟨a, ha, rfl⟩ := ch_no_ix hp
        obtain ⟨b, hb, rfl⟩ := ch_no_ix hp2
        show gd_W X K 0 0 [gd_ob 5 h [.int 0, .ref va, .ref re, .ref fu, .ref wi, .ref ma, .ref wo, .ref fd, .int mm, .int wm, .int mn, .int pl], gd_aZ K fu 64 uf] [(0, .ref h), (1, .int (nI a)), (2, .int (nI b))] [] 28
        have loop : ∀ (m n : Nat), m + (a + n) = max a (b + 1) → gd_W X K 0 0 [gd_ob 5 h [.int 0, .ref va, .ref re, .ref fu, .ref wi, .ref ma, .ref wo, .ref fd, .int mm, .int wm, .int mn, .int pl], gd_aZ K fu 64 (ch_fe uf a n)] [(0, .ref h), (1, .int (nI a)), (2, .int (nI b)), (3, .int (nI (a + n)))] [] 30 := by
          intro m
          induction m with
          | zero =>
            intro n hn
            refine gd_iload_n hX 30 dd_Mo_erase_30 rfl ?_
            refine gd_iload_n hX 31 dd_Mo_erase_31 rfl ?_
            refine gd_icmp_gt hX 32 48 dd_Mo_erase_32 (by decide) (fun h3 => ?_) (fun h3 => ?_)
            · skip
              have e9 : b + 1 - a = n := by omega
              exact gd_vret hX hE 48 dd_Mo_erase_48 ⟨rfl, Or.inr ⟨a, b, ha, hb, rfl, rfl, by rw [e9]⟩⟩
            · skip
              exact absurd ((nI_ltI (by omega) (by omega)).mpr (by omega)) h3
          | succ m ih =>
            intro n hn
            refine gd_iload_n hX 30 dd_Mo_erase_30 rfl ?_
            refine gd_iload_n hX 31 dd_Mo_erase_31 rfl ?_
            refine gd_icmp_gt hX 32 48 dd_Mo_erase_32 (by decide) (fun h3 => ?_) (fun h3 => ?_)
            · skip
              exact absurd ((nI_ltI (by omega) (by omega)).mp h3) (by omega)
            · skip
              refine gd_aload_n hX 35 dd_Mo_erase_35 rfl ?_
              refine gd_get hX inC_Mo 0 3 36 dd_Mo_erase_36 rfl rfl (by decide) kw_411 rfl ?_
              refine gd_iload_n hX 39 dd_Mo_erase_39 rfl ?_
              refine gd_iconst hX 40 dd_Mo_erase_40 (v := 0) (by decide) ?_
              refine gd_zast hX 1 (a + n) [gd_ob 5 h [.int 0, .ref va, .ref re, .ref fu, .ref wi, .ref ma, .ref wo, .ref fd, .int mm, .int wm, .int mn, .int pl], gd_aZ K fu 64 (upd (ch_fe uf a n) (a + n) (vp_nar .boolean 0))] 41 dd_Mo_erase_41 rfl rfl (by omega) (by decide) rfl ?_
              refine gd_iinc hX 3 [(3, .int (nI ((a + n) + 1))), (0, .ref h), (1, .int (nI a)), (2, .int (nI b))] 42 dd_Mo_erase_42 rfl (gd_inc (a + n)) (by decide) rfl ?_
              refine gd_goto hX 45 30 dd_Mo_erase_45 (by decide) ?_
              show gd_W X K 0 0 [gd_ob 5 h [.int 0, .ref va, .ref re, .ref fu, .ref wi, .ref ma, .ref wo, .ref fd, .int mm, .int wm, .int mn, .int pl], gd_aZ K fu 64 (ch_fe uf a (n + 1))] [(3, .int (nI ((a + n) + 1))), (0, .ref h), (1, .int (nI a)), (2, .int (nI b))] [] 30
              refine gd_lvs [(0, .ref h), (1, .int (nI a)), (2, .int (nI b)), (3, .int (nI ((a + n) + 1)))] [1, 2, 3, 0] rfl ?_
              exact ih (n + 1) (by omega)
        refine gd_iload_n hX 28 dd_Mo_erase_28 rfl ?_
        refine gd_eqi (show (nI a : Int32) = nI (a + 0) from rfl) ?_
        refine gd_istore_n hX [(3, .int (nI (a + 0))), (0, .ref h), (1, .int (nI a)), (2, .int (nI b))] 29 dd_Mo_erase_29 rfl (by decide) rfl ?_
        refine gd_lvs [(0, .ref h), (1, .int (nI a)), (2, .int (nI b)), (3, .int (nI (a + 0)))] [1, 2, 3, 0] rfl ?_
        exact loop (max a (b + 1) - a) 0 (by omega)
      · skip
        exact absurd rfl h9
    · skip
      have hor : (ch_no k || ch_no k2) = true := by rw [(ch_ifb _).mp h2, Bool.or_true]
      refine gd_iconst hX 15 dd_Mo_erase_15 (v := 1) (by decide) ?_
      refine gd_goto hX 16 20 dd_Mo_erase_16 (by decide) ?_
      refine gd_eqi (show (1 : Int32) = (if true then 1 else 0) from rfl) ?_
      refine gd_iconst hX 20 dd_Mo_erase_20 (v := 1) (by decide) ?_
      refine gd_call hX (st := []) (wr := [gd_aZ K fu 64 uf]) (ct_Mo_fails _ K h va re fu wi ma wo fd er mm wm mn pl true 1) 21 dd_Mo_erase_21 (gd_nV hX (As := [.int (if true then 1 else 0), .int 1]) kw_457 kw_459 kw_8 (gd_sigOf (n := 2) kw_460 (by decide)) (by decide) 0 rfl rfl rfl rfl dd_Mo_erase_21) (gd_codeOf kw_460) (by decide) [0] [1] rfl rfl rfl rfl rfl (by decide) (Nat.le_of_ble_eq_true rfl) (Nat.le_of_ble_eq_true rfl) (Nat.le_of_ble_eq_true rfl) (Nat.le_of_ble_eq_true rfl) (fun v9 w9 h9 => ?_) (fun E9 w9 q9 h9 => h9.elim)
      obtain ⟨rfl, rfl⟩ := h9
      refine gd_wsp [gd_ob 5 h [.int (if true then 1 else 0), .ref va, .ref re, .ref fu, .ref wi, .ref ma, .ref wo, .ref fd, .int mm, .int wm, .int mn, .int pl], gd_aZ K fu 64 uf] [1, 0] rfl rfl rfl ?_
      show gd_W X K 0 0 [gd_ob 5 h [.int (if true then 1 else 0), .ref va, .ref re, .ref fu, .ref wi, .ref ma, .ref wo, .ref fd, .int mm, .int wm, .int mn, .int pl], gd_aZ K fu 64 uf] [(0, .ref h), (1, .int k), (2, .int k2)] [.int (if true then 1 else 0)] 24
      refine gd_if_eq hX 24 28 dd_Mo_erase_24 (by decide) (fun h9 => ?_) (fun h9 => ?_)
      · skip
        exact absurd (show (1 : Int32) = 0 from h9) (by decide)
      · skip
        show gd_W X K 0 0 [gd_ob 5 h [.int 1, .ref va, .ref re, .ref fu, .ref wi, .ref ma, .ref wo, .ref fd, .int mm, .int wm, .int mn, .int pl], gd_aZ K fu 64 uf] [(0, .ref h), (1, .int k), (2, .int k2)] [] 27
        exact gd_vret hX hE 27 dd_Mo_erase_27 ⟨rfl, Or.inl ⟨hor, rfl⟩⟩
set_option maxRecDepth 100000 in
set_option maxHeartbeats 4000000 in
theorem ct_Mo_sum (l : Launch) (K : gd_K) (h va re fu wi ma wo fd : Nat) (er mm wm mn pl : Int32) (w : Int64) (f vf : Nat → Int64) (uf : Nat → Int32) (hM : ch_M w f vf uf) (k k2 : Int32) : gd_M l yy_Mo_sum bb_Mo_sum 6 (some .long) [] 1 14 0 0 K [.ref h, .int k, .int k2] [gd_ob 5 h [.int er, .ref va, .ref re, .ref fu, .ref wi, .ref ma, .ref wo, .ref fd, .int mm, .int wm, .int mn, .int pl], gd_aJ K va 64 vf, gd_aZ K fu 64 uf] (fun v9 w1 => ((ch_no k || ch_no k2) = true ∧ v9 = some (.long 0) ∧ w1 = [gd_ob 5 h [.int 1, .ref va, .ref re, .ref fu, .ref wi, .ref ma, .ref wo, .ref fd, .int mm, .int wm, .int mn, .int pl], gd_aJ K va 64 vf, gd_aZ K fu 64 uf]) ∨ ∃ a b, a < 64 ∧ b < 64 ∧ k = nI a ∧ k2 = nI b ∧ v9 = some (.long (ch_su w f a (b + 1 - a))) ∧ w1 = [gd_ob 5 h [.int 0, .ref va, .ref re, .ref fu, .ref wi, .ref ma, .ref wo, .ref fd, .int mm, .int wm, .int mn, .int pl], gd_aJ K va 64 vf, gd_aZ K fu 64 uf]) (fun _ _ => False) := by
  refine gd_body (Nat.le_of_ble_eq_true rfl) (fun X hXl hin hE hX => ?_)
  refine gd_aload_n hX 0 dd_Mo_sum_0 rfl ?_
  refine gd_iload_n hX 1 dd_Mo_sum_1 rfl ?_
  refine gd_call hX (st := [.ref h]) (wr := [gd_ob 5 h [.int er, .ref va, .ref re, .ref fu, .ref wi, .ref ma, .ref wo, .ref fd, .int mm, .int wm, .int mn, .int pl], gd_aJ K va 64 vf, gd_aZ K fu 64 uf]) (ct_Mo_none _ K k) 2 dd_Mo_sum_2 (gd_nS hX (As := [.int k]) kw_454 kw_455 kw_18 (gd_nmOf kw_456) (gd_sigOf (n := 1) kw_456 (by decide)) (by decide) rfl rfl dd_Mo_sum_2) (gd_codeOf kw_456) (by decide) [] [0, 1, 2] rfl rfl rfl rfl rfl (by decide) (Nat.le_of_ble_eq_true rfl) (Nat.le_of_ble_eq_true rfl) (Nat.le_of_ble_eq_true rfl) (Nat.le_of_ble_eq_true rfl) (fun v9 w9 h9 => ?_) (fun E9 w9 q9 h9 => h9.elim)
  obtain ⟨rfl, rfl⟩ := h9
  show gd_W X K 0 0 [gd_ob 5 h [.int er, .ref va, .ref re, .ref fu, .ref wi, .ref ma, .ref wo, .ref fd, .int mm, .int wm, .int mn, .int pl], gd_aJ K va 64 vf, gd_aZ K fu 64 uf] [(0, .ref h), (1, .int k), (2, .int k2)] [.int (if ch_no k then 1 else 0), .ref h] 5
  refine gd_if_ne hX 5 15 dd_Mo_sum_5 (by decide) (fun h1 => ?_) (fun h1 => ?_)
  · skip
    have hor : (ch_no k || ch_no k2) = true := by rw [(ch_ifb _).mp h1]; rfl
    refine gd_iconst hX 15 dd_Mo_sum_15 (v := 1) (by decide) ?_
    refine gd_goto hX 16 20 dd_Mo_sum_16 (by decide) ?_
    refine gd_eqi (show (1 : Int32) = (if true then 1 else 0) from rfl) ?_
    refine gd_iconst hX 20 dd_Mo_sum_20 (v := 1) (by decide) ?_
    refine gd_call hX (st := []) (wr := [gd_aJ K va 64 vf, gd_aZ K fu 64 uf]) (ct_Mo_fails _ K h va re fu wi ma wo fd er mm wm mn pl true 1) 21 dd_Mo_sum_21 (gd_nV hX (As := [.int (if true then 1 else 0), .int 1]) kw_457 kw_459 kw_8 (gd_sigOf (n := 2) kw_460 (by decide)) (by decide) 0 rfl rfl rfl rfl dd_Mo_sum_21) (gd_codeOf kw_460) (by decide) [0] [1, 2] rfl rfl rfl rfl rfl (by decide) (Nat.le_of_ble_eq_true rfl) (Nat.le_of_ble_eq_true rfl) (Nat.le_of_ble_eq_true rfl) (Nat.le_of_ble_eq_true rfl) (fun v9 w9 h9 => ?_) (fun E9 w9 q9 h9 => h9.elim)
    obtain ⟨rfl, rfl⟩ := h9
    refine gd_wsp [gd_ob 5 h [.int (if true then 1 else 0), .ref va, .ref re, .ref fu, .ref wi, .ref ma, .ref wo, .ref fd, .int mm, .int wm, .int mn, .int pl], gd_aJ K va 64 vf, gd_aZ K fu 64 uf] [2, 0, 1] rfl rfl rfl ?_
    show gd_W X K 0 0 [gd_ob 5 h [.int (if true then 1 else 0), .ref va, .ref re, .ref fu, .ref wi, .ref ma, .ref wo, .ref fd, .int mm, .int wm, .int mn, .int pl], gd_aJ K va 64 vf, gd_aZ K fu 64 uf] [(0, .ref h), (1, .int k), (2, .int k2)] [.int (if true then 1 else 0)] 24
    refine gd_if_eq hX 24 29 dd_Mo_sum_24 (by decide) (fun h9 => ?_) (fun h9 => ?_)
    · skip
      exact absurd (show (1 : Int32) = 0 from h9) (by decide)
    · skip
      show gd_W X K 0 0 [gd_ob 5 h [.int 1, .ref va, .ref re, .ref fu, .ref wi, .ref ma, .ref wo, .ref fd, .int mm, .int wm, .int mn, .int pl], gd_aJ K va 64 vf, gd_aZ K fu 64 uf] [(0, .ref h), (1, .int k), (2, .int k2)] [] 27
      refine gd_lconst hX 27 dd_Mo_sum_27 (v := 0) (by decide) ?_
      exact gd_lret hX hE 28 dd_Mo_sum_28 (Or.inl ⟨hor, rfl, rfl⟩)
  · skip
    have hp := (ch_ib _).mp h1
    refine gd_iload_n hX 8 dd_Mo_sum_8 rfl ?_
    refine gd_call hX (st := [.ref h]) (wr := [gd_ob 5 h [.int er, .ref va, .ref re, .ref fu, .ref wi, .ref ma, .ref wo, .ref fd, .int mm, .int wm, .int mn, .int pl], gd_aJ K va 64 vf, gd_aZ K fu 64 uf]) (ct_Mo_none _ K k2) 9 dd_Mo_sum_9 (gd_nS hX (As := [.int k2]) kw_454 kw_455 kw_18 (gd_nmOf kw_456) (gd_sigOf (n := 1) kw_456 (by decide)) (by decide) rfl rfl dd_Mo_sum_9) (gd_codeOf kw_456) (by decide) [] [0, 1, 2] rfl rfl rfl rfl rfl (by decide) (Nat.le_of_ble_eq_true rfl) (Nat.le_of_ble_eq_true rfl) (Nat.le_of_ble_eq_true rfl) (Nat.le_of_ble_eq_true rfl) (fun v9 w9 h9 => ?_) (fun E9 w9 q9 h9 => h9.elim)
    obtain ⟨rfl, rfl⟩ := h9
    show gd_W X K 0 0 [gd_ob 5 h [.int er, .ref va, .ref re, .ref fu, .ref wi, .ref ma, .ref wo, .ref fd, .int mm, .int wm, .int mn, .int pl], gd_aJ K va 64 vf, gd_aZ K fu 64 uf] [(0, .ref h), (1, .int k), (2, .int k2)] [.int (if ch_no k2 then 1 else 0), .ref h] 12
    refine gd_if_eq hX 12 19 dd_Mo_sum_12 (by decide) (fun h2 => ?_) (fun h2 => ?_)
    · skip
      have hp2 := (ch_ib _).mp h2
      refine gd_iconst hX 19 dd_Mo_sum_19 (v := 0) (by decide) ?_
      refine gd_eqi (show (0 : Int32) = (if false then 1 else 0) from rfl) ?_
      refine gd_iconst hX 20 dd_Mo_sum_20 (v := 1) (by decide) ?_
      refine gd_call hX (st := []) (wr := [gd_aJ K va 64 vf, gd_aZ K fu 64 uf]) (ct_Mo_fails _ K h va re fu wi ma wo fd er mm wm mn pl false 1) 21 dd_Mo_sum_21 (gd_nV hX (As := [.int (if false then 1 else 0), .int 1]) kw_457 kw_459 kw_8 (gd_sigOf (n := 2) kw_460 (by decide)) (by decide) 0 rfl rfl rfl rfl dd_Mo_sum_21) (gd_codeOf kw_460) (by decide) [0] [1, 2] rfl rfl rfl rfl rfl (by decide) (Nat.le_of_ble_eq_true rfl) (Nat.le_of_ble_eq_true rfl) (Nat.le_of_ble_eq_true rfl) (Nat.le_of_ble_eq_true rfl) (fun v9 w9 h9 => ?_) (fun E9 w9 q9 h9 => h9.elim)
      obtain ⟨rfl, rfl⟩ := h9
      refine gd_wsp [gd_ob 5 h [.int (if false then 1 else 0), .ref va, .ref re, .ref fu, .ref wi, .ref ma, .ref wo, .ref fd, .int mm, .int wm, .int mn, .int pl], gd_aJ K va 64 vf, gd_aZ K fu 64 uf] [2, 0, 1] rfl rfl rfl ?_
      show gd_W X K 0 0 [gd_ob 5 h [.int (if false then 1 else 0), .ref va, .ref re, .ref fu, .ref wi, .ref ma, .ref wo, .ref fd, .int mm, .int wm, .int mn, .int pl], gd_aJ K va 64 vf, gd_aZ K fu 64 uf] [(0, .ref h), (1, .int k), (2, .int k2)] [.int (if false then 1 else 0)] 24
      refine gd_if_eq hX 24 29 dd_Mo_sum_24 (by decide) (fun h9 => ?_) (fun h9 => ?_)
      · skip
        obtain ⟨a, ha, rfl⟩ := ch_no_ix hp
        obtain ⟨b, hb, rfl⟩ := ch_no_ix hp2
        show gd_W X K 0 0 [gd_ob 5 h [.int 0, .ref va, .ref re, .ref fu, .ref wi, .ref ma, .ref wo, .ref fd, .int mm, .int wm, .int mn, .int pl], gd_aJ K va 64 vf, gd_aZ K fu 64 uf] [(0, .ref h), (1, .int (nI a)), (2, .int (nI b))] [] 29
        have loop : ∀ (m n : Nat), m + (a + n) = max a (b + 1) → gd_W X K 0 0 [gd_ob 5 h [.int 0, .ref va, .ref re, .ref fu, .ref wi, .ref ma, .ref wo, .ref fd, .int mm, .int wm, .int mn, .int pl], gd_aJ K va 64 vf, gd_aZ K fu 64 uf] [(0, .ref h), (1, .int (nI a)), (2, .int (nI b)), (3, .long (ch_su w f a n)), (5, .int (nI (a + n)))] [] 34 := by
          intro m
          induction m with
          | zero =>
            intro n hn
            refine gd_iload hX 34 dd_Mo_sum_34 rfl ?_
            refine gd_iload_n hX 36 dd_Mo_sum_36 rfl ?_
            refine gd_icmp_gt hX 37 66 dd_Mo_sum_37 (by decide) (fun h3 => ?_) (fun h3 => ?_)
            · skip
              have e9 : b + 1 - a = n := by omega
              refine gd_lload_n hX 66 dd_Mo_sum_66 rfl ?_
              exact gd_lret hX hE 67 dd_Mo_sum_67 (Or.inr ⟨a, b, ha, hb, rfl, rfl, by rw [e9], rfl⟩)
            · skip
              exact absurd ((nI_ltI (by omega) (by omega)).mpr (by omega)) h3
          | succ m ih =>
            intro n hn
            have hm := hM (a + n) (by omega)
            refine gd_iload hX 34 dd_Mo_sum_34 rfl ?_
            refine gd_iload_n hX 36 dd_Mo_sum_36 rfl ?_
            refine gd_icmp_gt hX 37 66 dd_Mo_sum_37 (by decide) (fun h3 => ?_) (fun h3 => ?_)
            · skip
              exact absurd ((nI_ltI (by omega) (by omega)).mp h3) (by omega)
            · skip
              refine gd_aload_n hX 40 dd_Mo_sum_40 rfl ?_
              refine gd_get hX inC_Mo 0 3 41 dd_Mo_sum_41 rfl rfl (by decide) kw_411 rfl ?_
              refine gd_iload hX 44 dd_Mo_sum_44 rfl ?_
              refine gd_zald hX 2 (a + n) 46 dd_Mo_sum_46 rfl rfl (by omega) (by decide) ?_
              refine gd_eqi (show (uf (a + n) : Int32) = (if ch_bit w (a + n) then 1 else 0) from hm.1) ?_
              refine gd_if_eq hX 47 60 dd_Mo_sum_47 (by decide) (fun h4 => ?_) (fun h4 => ?_)
              · skip
                have h5 := (ch_ib _).mp h4
                have h6 : ch_su w f a (n + 1) = ch_su w f a n := by show (if ch_bit w (a + n) = true then _ else _) = _; rw [h5]; rfl
                refine gd_iinc hX 4 [(5, .int (nI ((a + n) + 1))), (0, .ref h), (1, .int (nI a)), (2, .int (nI b)), (3, .long (ch_su w f a n))] 60 dd_Mo_sum_60 rfl (gd_inc (a + n)) (by decide) rfl ?_
                refine gd_goto hX 63 34 dd_Mo_sum_63 (by decide) ?_
                show gd_W X K 0 0 [gd_ob 5 h [.int 0, .ref va, .ref re, .ref fu, .ref wi, .ref ma, .ref wo, .ref fd, .int mm, .int wm, .int mn, .int pl], gd_aJ K va 64 vf, gd_aZ K fu 64 uf] [(5, .int (nI ((a + n) + 1))), (0, .ref h), (1, .int (nI a)), (2, .int (nI b)), (3, .long (ch_su w f a n))] [] 34
                refine gd_lvs [(0, .ref h), (1, .int (nI a)), (2, .int (nI b)), (3, .long (ch_su w f a n)), (5, .int (nI ((a + n) + 1)))] [1, 2, 3, 4, 0] rfl ?_
                rw [← h6]
                exact ih (n + 1) (by omega)
              · skip
                have h5 := (ch_ifb _).mp h4
                have h6 : ch_su w f a (n + 1) = ch_su w f a n + f (a + n) := by show (if ch_bit w (a + n) = true then _ else _) = _; rw [h5]; rfl
                refine gd_lload_n hX 50 dd_Mo_sum_50 rfl ?_
                refine gd_aload_n hX 51 dd_Mo_sum_51 rfl ?_
                refine gd_get hX inC_Mo 0 1 52 dd_Mo_sum_52 rfl rfl (by decide) kw_409 rfl ?_
                refine gd_iload hX 55 dd_Mo_sum_55 rfl ?_
                refine gd_lald hX 1 (a + n) 57 dd_Mo_sum_57 rfl rfl (by omega) (by decide) ?_
                refine gd_eql (show (vf (a + n) : Int64) = f (a + n) from hm.2 h5) ?_
                refine gd_ladd hX 58 dd_Mo_sum_58 ?_
                refine gd_eql (show ((ch_su w f a n) + (f (a + n)) : Int64) = ch_su w f a (n + 1) from h6.symm) ?_
                refine gd_lstore_n hX [(3, .long (ch_su w f a (n + 1))), (0, .ref h), (1, .int (nI a)), (2, .int (nI b)), (5, .int (nI (a + n)))] 59 dd_Mo_sum_59 rfl (by decide) rfl ?_
                refine gd_iinc hX 4 [(5, .int (nI ((a + n) + 1))), (3, .long (ch_su w f a (n + 1))), (0, .ref h), (1, .int (nI a)), (2, .int (nI b))] 60 dd_Mo_sum_60 rfl (gd_inc (a + n)) (by decide) rfl ?_
                refine gd_goto hX 63 34 dd_Mo_sum_63 (by decide) ?_
                show gd_W X K 0 0 [gd_ob 5 h [.int 0, .ref va, .ref re, .ref fu, .ref wi, .ref ma, .ref wo, .ref fd, .int mm, .int wm, .int mn, .int pl], gd_aJ K va 64 vf, gd_aZ K fu 64 uf] [(5, .int (nI ((a + n) + 1))), (3, .long (ch_su w f a (n + 1))), (0, .ref h), (1, .int (nI a)), (2, .int (nI b))] [] 34
                refine gd_lvs [(0, .ref h), (1, .int (nI a)), (2, .int (nI b)), (3, .long (ch_su w f a (n + 1))), (5, .int (nI ((a + n) + 1)))] [2, 3, 4, 1, 0] rfl ?_
                exact ih (n + 1) (by omega)
        refine gd_lconst hX 29 dd_Mo_sum_29 (v := 0) (by decide) ?_
        refine gd_eql (show (0 : Int64) = ch_su w f a 0 from rfl) ?_
        refine gd_lstore_n hX [(3, .long (ch_su w f a 0)), (0, .ref h), (1, .int (nI a)), (2, .int (nI b))] 30 dd_Mo_sum_30 rfl (by decide) rfl ?_
        refine gd_iload_n hX 31 dd_Mo_sum_31 rfl ?_
        refine gd_eqi (show (nI a : Int32) = nI (a + 0) from rfl) ?_
        refine gd_istore hX [(5, .int (nI (a + 0))), (3, .long (ch_su w f a 0)), (0, .ref h), (1, .int (nI a)), (2, .int (nI b))] 32 dd_Mo_sum_32 (by decide) rfl ?_
        refine gd_lvs [(0, .ref h), (1, .int (nI a)), (2, .int (nI b)), (3, .long (ch_su w f a 0)), (5, .int (nI (a + 0)))] [2, 3, 4, 1, 0] rfl ?_
        exact loop (max a (b + 1) - a) 0 (by omega)
      · skip
        exact absurd rfl h9
    · skip
      have hor : (ch_no k || ch_no k2) = true := by rw [(ch_ifb _).mp h2, Bool.or_true]
      refine gd_iconst hX 15 dd_Mo_sum_15 (v := 1) (by decide) ?_
      refine gd_goto hX 16 20 dd_Mo_sum_16 (by decide) ?_
      refine gd_eqi (show (1 : Int32) = (if true then 1 else 0) from rfl) ?_
      refine gd_iconst hX 20 dd_Mo_sum_20 (v := 1) (by decide) ?_
      refine gd_call hX (st := []) (wr := [gd_aJ K va 64 vf, gd_aZ K fu 64 uf]) (ct_Mo_fails _ K h va re fu wi ma wo fd er mm wm mn pl true 1) 21 dd_Mo_sum_21 (gd_nV hX (As := [.int (if true then 1 else 0), .int 1]) kw_457 kw_459 kw_8 (gd_sigOf (n := 2) kw_460 (by decide)) (by decide) 0 rfl rfl rfl rfl dd_Mo_sum_21) (gd_codeOf kw_460) (by decide) [0] [1, 2] rfl rfl rfl rfl rfl (by decide) (Nat.le_of_ble_eq_true rfl) (Nat.le_of_ble_eq_true rfl) (Nat.le_of_ble_eq_true rfl) (Nat.le_of_ble_eq_true rfl) (fun v9 w9 h9 => ?_) (fun E9 w9 q9 h9 => h9.elim)
      obtain ⟨rfl, rfl⟩ := h9
      refine gd_wsp [gd_ob 5 h [.int (if true then 1 else 0), .ref va, .ref re, .ref fu, .ref wi, .ref ma, .ref wo, .ref fd, .int mm, .int wm, .int mn, .int pl], gd_aJ K va 64 vf, gd_aZ K fu 64 uf] [2, 0, 1] rfl rfl rfl ?_
      show gd_W X K 0 0 [gd_ob 5 h [.int (if true then 1 else 0), .ref va, .ref re, .ref fu, .ref wi, .ref ma, .ref wo, .ref fd, .int mm, .int wm, .int mn, .int pl], gd_aJ K va 64 vf, gd_aZ K fu 64 uf] [(0, .ref h), (1, .int k), (2, .int k2)] [.int (if true then 1 else 0)] 24
      refine gd_if_eq hX 24 29 dd_Mo_sum_24 (by decide) (fun h9 => ?_) (fun h9 => ?_)
      · skip
        exact absurd (show (1 : Int32) = 0 from h9) (by decide)
      · skip
        show gd_W X K 0 0 [gd_ob 5 h [.int 1, .ref va, .ref re, .ref fu, .ref wi, .ref ma, .ref wo, .ref fd, .int mm, .int wm, .int mn, .int pl], gd_aJ K va 64 vf, gd_aZ K fu 64 uf] [(0, .ref h), (1, .int k), (2, .int k2)] [] 27
        refine gd_lconst hX 27 dd_Mo_sum_27 (v := 0) (by decide) ?_
        exact gd_lret hX hE 28 dd_Mo_sum_28 (Or.inl ⟨hor, rfl, rfl⟩)
set_option maxRecDepth 100000 in
set_option maxHeartbeats 4000000 in
theorem ct_Mo_next (l : Launch) (K : gd_K) (h va re fu wi ma wo fd : Nat) (er mm wm mn pl : Int32) (w : Int64) (f vf : Nat → Int64) (uf : Nat → Int32) (hM : ch_M w f vf uf) (k : Nat) (hk : k ≤ 64) : gd_M l yy_Mo_next bb_Mo_next 3 (some .int) [] 0 0 0 0 K [.ref h, .int (nI k)] [gd_ob 5 h [.int er, .ref va, .ref re, .ref fu, .ref wi, .ref ma, .ref wo, .ref fd, .int mm, .int wm, .int mn, .int pl], gd_aZ K fu 64 uf] (fun v9 w1 => v9 = some (.int (nI (ch_nx w (64 - k) k))) ∧ w1 = [gd_ob 5 h [.int er, .ref va, .ref re, .ref fu, .ref wi, .ref ma, .ref wo, .ref fd, .int mm, .int wm, .int mn, .int pl], gd_aZ K fu 64 uf]) (fun _ _ => False) := by
  refine gd_body (Nat.le_of_ble_eq_true rfl) (fun X hXl hin hE hX => ?_)
  have loop : ∀ (n i : Nat), n + i = 64 → ch_nx w (64 - k) k = ch_nx w n i → gd_W X K 0 0 [gd_ob 5 h [.int er, .ref va, .ref re, .ref fu, .ref wi, .ref ma, .ref wo, .ref fd, .int mm, .int wm, .int mn, .int pl], gd_aZ K fu 64 uf] [(0, .ref h), (2, .int (nI i))] [] 2 := by
    intro n
    induction n with
    | zero =>
      intro i hi hr
      obtain rfl : i = 64 := by omega
      refine gd_iload_n hX 2 dd_Mo_next_2 rfl ?_
      refine gd_bipush hX 3 dd_Mo_next_3 (v := 64) (by decide) ?_
      refine gd_icmp_ge hX 5 23 dd_Mo_next_5 (by decide) (fun h1 => ?_) (fun h1 => ?_)
      · skip
        refine gd_iload_n hX 23 dd_Mo_next_23 rfl ?_
        exact gd_iret hX hE 24 dd_Mo_next_24 ⟨by rw [hr]; rfl, rfl⟩
      · skip
        exact absurd (by decide) h1
    | succ n ih =>
      intro i hi hr
      have hm := hM i (by omega)
      have e : ch_nx w (n + 1) i = if ch_bit w i then i else ch_nx w n (i + 1) := rfl
      refine gd_iload_n hX 2 dd_Mo_next_2 rfl ?_
      refine gd_bipush hX 3 dd_Mo_next_3 (v := 64) (by decide) ?_
      refine gd_icmp_ge hX 5 23 dd_Mo_next_5 (by decide) (fun h1 => ?_) (fun h1 => ?_)
      · skip
        exact absurd ((nI_leI (a := 64) (by decide) (by omega)).mp h1) (by omega)
      · skip
        refine gd_aload_n hX 8 dd_Mo_next_8 rfl ?_
        refine gd_get hX inC_Mo 0 3 9 dd_Mo_next_9 rfl rfl (by decide) kw_411 rfl ?_
        refine gd_iload_n hX 12 dd_Mo_next_12 rfl ?_
        refine gd_zald hX 1 i 13 dd_Mo_next_13 rfl rfl (by omega) (by decide) ?_
        refine gd_eqi (show (uf i : Int32) = (if ch_bit w i then 1 else 0) from hm.1) ?_
        refine gd_if_ne hX 14 23 dd_Mo_next_14 (by decide) (fun h2 => ?_) (fun h2 => ?_)
        · skip
          have h5 := (ch_ifb _).mp h2
          refine gd_iload_n hX 23 dd_Mo_next_23 rfl ?_
          exact gd_iret hX hE 24 dd_Mo_next_24 ⟨by rw [hr, e, if_pos h5], rfl⟩
        · skip
          have h5 := (ch_ib _).mp h2
          refine gd_iinc hX 1 [(2, .int (nI (i + 1))), (0, .ref h)] 17 dd_Mo_next_17 rfl (gd_inc i) (by decide) rfl ?_
          refine gd_goto hX 20 2 dd_Mo_next_20 (by decide) ?_
          refine gd_lvs [(0, .ref h), (2, .int (nI (i + 1)))] [1, 0] rfl ?_
          exact ih (i + 1) (by omega) (by rw [hr, e, if_neg (by rw [h5]; decide)])
  refine gd_iload_n hX 0 dd_Mo_next_0 rfl ?_
  refine gd_istore_n hX [(2, .int (nI k)), (0, .ref h), (1, .int (nI k))] 1 dd_Mo_next_1 rfl (by decide) rfl ?_
  refine gd_lvs [(0, .ref h), (2, .int (nI k))] [1, 0] rfl ?_
  exact loop (64 - k) k (by omega) rfl
end
section
theorem ch_len1 (A : List Nat) (x : Nat) : (A ++ [x]).length = A.length + 1 := by simp
set_option maxRecDepth 100000 in
set_option maxHeartbeats 4000000 in
theorem ct_Mo_lay (l : Launch) (K : gd_K) (h va re fu wi ma wo fd : Nat) (er mm wm mn pl : Int32) (w : Int64) (f vf : Nat → Int64) (uf : Nat → Int32) (hM : ch_M w f vf uf) (wk : Nat → Int32) : gd_M l yy_Mo_lay bb_Mo_lay 13 (some .int) [] 1 14 0 0 K [.ref h] [gd_ob 5 h [.int er, .ref va, .ref re, .ref fu, .ref wi, .ref ma, .ref wo, .ref fd, .int mm, .int wm, .int mn, .int pl], gd_aJ K va 64 vf, gd_aZ K fu 64 uf, gd_aI K wo 720 wk] (fun v9 w1 => v9 = some (.int (nI (ch_runs w f 64).length)) ∧ ∃ wk', w1 = [gd_ob 5 h [.int er, .ref va, .ref re, .ref fu, .ref wi, .ref ma, .ref wo, .ref fd, .int mm, .int (nI (ch_code w f).length), .int mn, .int pl], gd_aJ K va 64 vf, gd_aZ K fu 64 uf, gd_aI K wo 720 wk'] ∧ ch_I wk' (ch_code w f)) (fun _ _ => False) := by
  refine gd_body (Nat.le_of_ble_eq_true rfl) (fun X hXl hin hE hX => ?_)
  have loop : ∀ (m k : Nat) (E : List (Int64 × Nat)) (wk : Nat → Int32), 64 ≤ k + m → k ≤ 64 → (k < 64 → ch_bit w k = true ∧ (E = [] ∨ ch_hd E ≠ f k)) → ch_runs w f k = E → ch_I wk (ch_WL w E) → gd_W X K 0 0 [gd_ob 5 h [.int er, .ref va, .ref re, .ref fu, .ref wi, .ref ma, .ref wo, .ref fd, .int mm, .int (nI (ch_WL w E).length), .int mn, .int pl], gd_aJ K va 64 vf, gd_aZ K fu 64 uf, gd_aI K wo 720 wk] [(0, .ref h), (1, .int (nI E.length)), (2, .int (nI k)), (3, .long (ch_hd E))] [] 77 := by
    intro m
    induction m with
    | zero =>
      intro k E wk hm hk hb hE9 hI
      obtain rfl : k = 64 := by omega
      refine gd_iload_n hX 77 dd_Mo_lay_77 rfl ?_
      refine gd_bipush hX 78 dd_Mo_lay_78 (v := 64) (by decide) ?_
      refine gd_icmp_ge hX 80 228 dd_Mo_lay_80 (by decide) (fun h1 => ?_) (fun h1 => ?_)
      · skip
        refine gd_iload_n hX 228 dd_Mo_lay_228 rfl ?_
        exact gd_iret hX hE 229 dd_Mo_lay_229 ⟨by rw [← hE9], _, by unfold ch_code; rw [hE9]; rfl, by unfold ch_code; rw [hE9]; exact hI⟩
      · skip
        exact absurd (by decide) h1
    | succ m ih =>
      intro k E wk hm hk hb hE9 hI
      refine gd_iload_n hX 77 dd_Mo_lay_77 rfl ?_
      refine gd_bipush hX 78 dd_Mo_lay_78 (v := 64) (by decide) ?_
      refine gd_icmp_ge hX 80 228 dd_Mo_lay_80 (by decide) (fun h1 => ?_) (fun h1 => ?_)
      · skip
        obtain rfl : k = 64 := by have := (nI_leI (a := 64) (by decide) (by omega)).mp h1; omega
        refine gd_iload_n hX 228 dd_Mo_lay_228 rfl ?_
        exact gd_iret hX hE 229 dd_Mo_lay_229 ⟨by rw [← hE9], _, by unfold ch_code; rw [hE9]; rfl, by unfold ch_code; rw [hE9]; exact hI⟩
      · skip
        have hk1 : k < 64 := Nat.lt_of_not_le (fun q => h1 ((nI_leI (a := 64) (by decide) (by omega)).mpr q))
        obtain ⟨hbk, hEv⟩ := hb hk1
        have hEl := ch_runs_len w f k
        rw [hE9] at hEl
        have hWl := ch_WL_len w E
        have dw : ∀ (n k2 : Nat), k2 ≤ 64 → k < k2 → (k2 < 64 → ch_bit w k2 = true ∧ f k ≠ f k2) → ch_runs w f k2 = (f k, n) :: E → ∀ (q : Nat) (x : Int64) (P : List Nat) (wk : Nat → Int32), ch_num 9 (uN (ch_zz (f k - ch_hd E))) = P ++ ch_num q (uN x) → uN x < 2 * 128 ^ q → ch_I wk ((ch_WL w E ++ [n]) ++ P) → gd_W X K 0 0 [gd_ob 5 h [.int er, .ref va, .ref re, .ref fu, .ref wi, .ref ma, .ref wo, .ref fd, .int mm, .int (nI ((ch_WL w E ++ [n]) ++ P).length), .int mn, .int pl], gd_aJ K va 64 vf, gd_aZ K fu 64 uf, gd_aI K wo 720 wk] [(0, .ref h), (1, .int (nI E.length)), (2, .int (nI k2)), (3, .long (ch_hd E)), (5, .int (nI n)), (6, .long (f k)), (8, .long (f k - ch_hd E)), (10, .long x)] [] 162 := by
          intro n k2 hk2 hkk hb2 hr2 q
          have hE2 : (ch_WL w ((f k, n) :: E)).length ≤ 712 := by have h7 := ch_WL_len w ((f k, n) :: E); have h8 := ch_runs_len w f k2; rw [hr2] at h8; omega
          rw [ch_WL_step, List.length_append] at hE2
          induction q with
          | zero =>
            intro x P wk hN hx hI
            obtain ⟨q0, hq0⟩ : ∃ q0, q0 = 0 := ⟨_, rfl⟩
            rw [← hq0] at hN
            refine gd_lload hX 162 dd_Mo_lay_162 rfl ?_
            refine gd_ldc2 hX 164 dd_Mo_lay_164 (v := 127) kw_485 ?_
            refine gd_land hX 167 dd_Mo_lay_167 ?_
            refine gd_l2i hX 168 dd_Mo_lay_168 ?_
            refine gd_eqi (show ((x &&& 127).toInt32 : Int32) = nI (uN x % 128) from ch_low7 x) ?_
            refine gd_istore hX [(12, .int (nI (uN x % 128))), (0, .ref h), (1, .int (nI E.length)), (2, .int (nI k2)), (3, .long (ch_hd E)), (5, .int (nI n)), (6, .long (f k)), (8, .long (f k - ch_hd E)), (10, .long x)] 169 dd_Mo_lay_169 (by decide) rfl ?_
            refine gd_lload hX 171 dd_Mo_lay_171 rfl ?_
            refine gd_bipush hX 173 dd_Mo_lay_173 (v := 7) (by decide) ?_
            refine gd_lushr hX 175 dd_Mo_lay_175 ?_
            obtain ⟨y, hy⟩ : ∃ y, y = (x.toUInt64 >>> ((7 : Int32).toInt64.toUInt64 &&& Int64.toUInt64 63)).toInt64 := ⟨_, rfl⟩
            refine gd_eql (show ((x.toUInt64 >>> ((7 : Int32).toInt64.toUInt64 &&& Int64.toUInt64 63)).toInt64 : Int64) = y from hy.symm) ?_
            have hyu : uN y = uN x / 128 := by rw [hy]; exact ch_sk7 x
            refine gd_lstore hX [(10, .long y), (12, .int (nI (uN x % 128))), (0, .ref h), (1, .int (nI E.length)), (2, .int (nI k2)), (3, .long (ch_hd E)), (5, .int (nI n)), (6, .long (f k)), (8, .long (f k - ch_hd E))] 176 dd_Mo_lay_176 (by decide) rfl ?_
            refine gd_aload_n hX 178 dd_Mo_lay_178 rfl ?_
            refine gd_get hX inC_Mo 0 6 179 dd_Mo_lay_179 rfl rfl (by decide) kw_414 rfl ?_
            refine gd_aload_n hX 182 dd_Mo_lay_182 rfl ?_
            refine gd_dup hX 183 dd_Mo_lay_183 rfl ?_
            refine gd_get hX inC_Mo 0 9 184 dd_Mo_lay_184 rfl rfl (by decide) kw_417 rfl ?_
            refine gd_dup_x1 hX 187 dd_Mo_lay_187 rfl rfl ?_
            refine gd_iconst hX 188 dd_Mo_lay_188 (v := 1) (by decide) ?_
            refine gd_iadd hX 189 dd_Mo_lay_189 ?_
            refine gd_eqi (show ((nI ((ch_WL w E ++ [n]) ++ P).length) + 1 : Int32) = nI (((ch_WL w E ++ [n]) ++ P).length + 1) from nI_1 _) ?_
            refine gd_put hX inC_Mo ty_Mo tyk_Mo nm_Mo 0 9 [gd_ob 5 h [.int er, .ref va, .ref re, .ref fu, .ref wi, .ref ma, .ref wo, .ref fd, .int mm, .int (nI (((ch_WL w E ++ [n]) ++ P).length + 1)), .int mn, .int pl], gd_aJ K va 64 vf, gd_aZ K fu 64 uf, gd_aI K wo 720 wk] 190 dd_Mo_lay_190 rfl rfl (by decide) kw_417 rfl rfl rfl (Nat.le_of_ble_eq_true rfl) rfl ?_
            refine gd_lload hX 193 dd_Mo_lay_193 rfl ?_
            refine gd_lconst hX 195 dd_Mo_lay_195 (v := 0) (by decide) ?_
            refine gd_lcmp hX 196 dd_Mo_lay_196 ?_
            refine gd_if_ne hX 197 205 dd_Mo_lay_197 (by decide) (fun h2 => ?_) (fun h2 => ?_)
            · skip
              exact absurd (ch_cmp0.mpr (ch_l0.mpr (by rw [hyu]; simp at hx; omega))) h2
            · skip
              have hy0 : uN x < 128 := by have := ch_l0.mp (ch_cmp0.mp h2); rw [hyu] at this; omega
              have hns := ch_num_s (fu := q0) hy0
              rw [hns] at hN
              have hlen : ((ch_WL w E ++ [n]) ++ P).length + 1 ≤ 712 := by rw [hN] at hE2; simp only [List.length_append, List.length_cons, List.length_nil] at hE2 ⊢; omega
              refine gd_iload hX 200 dd_Mo_lay_200 rfl ?_
              refine gd_goto hX 202 211 dd_Mo_lay_202 (by decide) ?_
              refine gd_eqi (show (nI (uN x % 128) : Int32) = nI (uN x) from by rw [Nat.mod_eq_of_lt hy0]) ?_
              refine gd_iast hX 3 (((ch_WL w E ++ [n]) ++ P).length) [gd_ob 5 h [.int er, .ref va, .ref re, .ref fu, .ref wi, .ref ma, .ref wo, .ref fd, .int mm, .int (nI (((ch_WL w E ++ [n]) ++ P).length + 1)), .int mn, .int pl], gd_aJ K va 64 vf, gd_aZ K fu 64 uf, gd_aI K wo 720 (upd wk (((ch_WL w E ++ [n]) ++ P).length) (nI (uN x)))] 211 dd_Mo_lay_211 rfl rfl (by omega) (by decide) rfl ?_
              have hI2 := ch_I_add (x := nI (uN x)) hI rfl
              have e9 : ((ch_WL w E ++ [n]) ++ P) ++ [uN x] = ch_WL w ((f k, n) :: E) := by rw [ch_WL_step, hN, List.append_assoc (ch_WL w E ++ [n])]
              rw [e9] at hI2
              refine gd_lload hX 212 dd_Mo_lay_212 rfl ?_
              refine gd_lconst hX 214 dd_Mo_lay_214 (v := 0) (by decide) ?_
              refine gd_lcmp hX 215 dd_Mo_lay_215 ?_
              refine gd_if_ne hX 216 162 dd_Mo_lay_216 (by decide) (fun h3 => ?_) (fun h3 => ?_)
              · skip
                exact absurd h2 h3
              · skip
                refine gd_lload hX 219 dd_Mo_lay_219 rfl ?_
                refine gd_lstore_n hX [(3, .long (f k)), (10, .long y), (12, .int (nI (uN x % 128))), (0, .ref h), (1, .int (nI E.length)), (2, .int (nI k2)), (5, .int (nI n)), (6, .long (f k)), (8, .long (f k - ch_hd E))] 221 dd_Mo_lay_221 rfl (by decide) rfl ?_
                refine gd_iinc hX 4 [(1, .int (nI (E.length + 1))), (3, .long (f k)), (10, .long y), (12, .int (nI (uN x % 128))), (0, .ref h), (2, .int (nI k2)), (5, .int (nI n)), (6, .long (f k)), (8, .long (f k - ch_hd E))] 222 dd_Mo_lay_222 rfl (gd_inc E.length) (by decide) rfl ?_
                refine gd_goto hX 225 77 dd_Mo_lay_225 (by decide) ?_
                show gd_W X K 0 0 [gd_ob 5 h [.int er, .ref va, .ref re, .ref fu, .ref wi, .ref ma, .ref wo, .ref fd, .int mm, .int (nI (((ch_WL w E ++ [n]) ++ P).length + 1)), .int mn, .int pl], gd_aJ K va 64 vf, gd_aZ K fu 64 uf, gd_aI K wo 720 (upd wk (((ch_WL w E ++ [n]) ++ P).length) (nI (uN x)))] [(1, .int (nI ((f k, n) :: E).length)), (3, .long (ch_hd ((f k, n) :: E))), (10, .long y), (12, .int (nI (uN x % 128))), (0, .ref h), (2, .int (nI k2)), (5, .int (nI n)), (6, .long (f k)), (8, .long (f k - ch_hd E))] [] 77
                refine gd_lvs [(0, .ref h), (1, .int (nI ((f k, n) :: E).length)), (2, .int (nI k2)), (3, .long (ch_hd ((f k, n) :: E)))] [4, 0, 5, 1] rfl ?_
                have e10 : nI (((ch_WL w E ++ [n]) ++ P).length + 1) = nI (ch_WL w ((f k, n) :: E)).length := by rw [← e9, ch_len1]
                rw [e10]
                exact ih k2 ((f k, n) :: E) _ (by omega) hk2 (fun q => ⟨(hb2 q).1, Or.inr (hb2 q).2⟩) hr2 hI2
          | succ q ihq =>
            intro x P wk hN hx hI
            refine gd_lload hX 162 dd_Mo_lay_162 rfl ?_
            refine gd_ldc2 hX 164 dd_Mo_lay_164 (v := 127) kw_485 ?_
            refine gd_land hX 167 dd_Mo_lay_167 ?_
            refine gd_l2i hX 168 dd_Mo_lay_168 ?_
            refine gd_eqi (show ((x &&& 127).toInt32 : Int32) = nI (uN x % 128) from ch_low7 x) ?_
            refine gd_istore hX [(12, .int (nI (uN x % 128))), (0, .ref h), (1, .int (nI E.length)), (2, .int (nI k2)), (3, .long (ch_hd E)), (5, .int (nI n)), (6, .long (f k)), (8, .long (f k - ch_hd E)), (10, .long x)] 169 dd_Mo_lay_169 (by decide) rfl ?_
            refine gd_lload hX 171 dd_Mo_lay_171 rfl ?_
            refine gd_bipush hX 173 dd_Mo_lay_173 (v := 7) (by decide) ?_
            refine gd_lushr hX 175 dd_Mo_lay_175 ?_
            obtain ⟨y, hy⟩ : ∃ y, y = (x.toUInt64 >>> ((7 : Int32).toInt64.toUInt64 &&& Int64.toUInt64 63)).toInt64 := ⟨_, rfl⟩
            refine gd_eql (show ((x.toUInt64 >>> ((7 : Int32).toInt64.toUInt64 &&& Int64.toUInt64 63)).toInt64 : Int64) = y from hy.symm) ?_
            have hyu : uN y = uN x / 128 := by rw [hy]; exact ch_sk7 x
            refine gd_lstore hX [(10, .long y), (12, .int (nI (uN x % 128))), (0, .ref h), (1, .int (nI E.length)), (2, .int (nI k2)), (3, .long (ch_hd E)), (5, .int (nI n)), (6, .long (f k)), (8, .long (f k - ch_hd E))] 176 dd_Mo_lay_176 (by decide) rfl ?_
            refine gd_aload_n hX 178 dd_Mo_lay_178 rfl ?_
            refine gd_get hX inC_Mo 0 6 179 dd_Mo_lay_179 rfl rfl (by decide) kw_414 rfl ?_
            refine gd_aload_n hX 182 dd_Mo_lay_182 rfl ?_
            refine gd_dup hX 183 dd_Mo_lay_183 rfl ?_
            refine gd_get hX inC_Mo 0 9 184 dd_Mo_lay_184 rfl rfl (by decide) kw_417 rfl ?_
            refine gd_dup_x1 hX 187 dd_Mo_lay_187 rfl rfl ?_
            refine gd_iconst hX 188 dd_Mo_lay_188 (v := 1) (by decide) ?_
            refine gd_iadd hX 189 dd_Mo_lay_189 ?_
            refine gd_eqi (show ((nI ((ch_WL w E ++ [n]) ++ P).length) + 1 : Int32) = nI (((ch_WL w E ++ [n]) ++ P).length + 1) from nI_1 _) ?_
            refine gd_put hX inC_Mo ty_Mo tyk_Mo nm_Mo 0 9 [gd_ob 5 h [.int er, .ref va, .ref re, .ref fu, .ref wi, .ref ma, .ref wo, .ref fd, .int mm, .int (nI (((ch_WL w E ++ [n]) ++ P).length + 1)), .int mn, .int pl], gd_aJ K va 64 vf, gd_aZ K fu 64 uf, gd_aI K wo 720 wk] 190 dd_Mo_lay_190 rfl rfl (by decide) kw_417 rfl rfl rfl (Nat.le_of_ble_eq_true rfl) rfl ?_
            refine gd_lload hX 193 dd_Mo_lay_193 rfl ?_
            refine gd_lconst hX 195 dd_Mo_lay_195 (v := 0) (by decide) ?_
            refine gd_lcmp hX 196 dd_Mo_lay_196 ?_
            refine gd_if_ne hX 197 205 dd_Mo_lay_197 (by decide) (fun h2 => ?_) (fun h2 => ?_)
            · skip
              have hy0 : ¬ uN x < 128 := fun h => h2 (ch_cmp0.mpr (ch_l0.mpr (by rw [hyu]; omega)))
              rw [ch_num_b hy0, ← hyu] at hN
              have hlen : ((ch_WL w E ++ [n]) ++ P).length + 1 ≤ 712 := by rw [hN] at hE2; simp only [List.length_append, List.length_cons, List.length_nil] at hE2 ⊢; omega
              refine gd_iload hX 205 dd_Mo_lay_205 rfl ?_
              refine gd_sipush hX 207 dd_Mo_lay_207 (v := 128) (by decide) ?_
              refine gd_iadd hX 210 dd_Mo_lay_210 ?_
              refine gd_eqi (show ((nI (uN x % 128)) + 128 : Int32) = nI (uN x % 128 + 128) from nI_add _ 128) ?_
              refine gd_iast hX 3 (((ch_WL w E ++ [n]) ++ P).length) [gd_ob 5 h [.int er, .ref va, .ref re, .ref fu, .ref wi, .ref ma, .ref wo, .ref fd, .int mm, .int (nI (((ch_WL w E ++ [n]) ++ P).length + 1)), .int mn, .int pl], gd_aJ K va 64 vf, gd_aZ K fu 64 uf, gd_aI K wo 720 (upd wk (((ch_WL w E ++ [n]) ++ P).length) (nI (uN x % 128 + 128)))] 211 dd_Mo_lay_211 rfl rfl (by omega) (by decide) rfl ?_
              have hI2 := ch_I_add (x := nI (uN x % 128 + 128)) hI rfl
              have e9 : ((ch_WL w E ++ [n]) ++ P) ++ [uN x % 128 + 128] = (ch_WL w E ++ [n]) ++ (P ++ [uN x % 128 + 128]) := by rw [List.append_assoc (ch_WL w E ++ [n])]
              rw [e9] at hI2
              refine gd_lload hX 212 dd_Mo_lay_212 rfl ?_
              refine gd_lconst hX 214 dd_Mo_lay_214 (v := 0) (by decide) ?_
              refine gd_lcmp hX 215 dd_Mo_lay_215 ?_
              refine gd_if_ne hX 216 162 dd_Mo_lay_216 (by decide) (fun h3 => ?_) (fun h3 => ?_)
              · skip
                have e10 : nI (((ch_WL w E ++ [n]) ++ P).length + 1) = nI ((ch_WL w E ++ [n]) ++ (P ++ [uN x % 128 + 128])).length := by rw [← e9, ch_len1]
                rw [e10]
                refine gd_lvs [(0, .ref h), (1, .int (nI E.length)), (2, .int (nI k2)), (3, .long (ch_hd E)), (5, .int (nI n)), (6, .long (f k)), (8, .long (f k - ch_hd E)), (10, .long y)] [2, 3, 4, 5, 6, 7, 8, 0] rfl ?_
                exact ihq y (P ++ [uN x % 128 + 128]) _ (by rw [hN, List.append_assoc]; rfl) (by rw [hyu, Nat.pow_succ] at *; omega) hI2
              · skip
                exact absurd h3 h2
            · skip
              obtain ⟨q0, hq0⟩ : ∃ q0, q0 = q + 1 := ⟨_, rfl⟩
              rw [← hq0] at hN
              have hy0 : uN x < 128 := by have := ch_l0.mp (ch_cmp0.mp h2); rw [hyu] at this; omega
              have hns := ch_num_s (fu := q0) hy0
              rw [hns] at hN
              have hlen : ((ch_WL w E ++ [n]) ++ P).length + 1 ≤ 712 := by rw [hN] at hE2; simp only [List.length_append, List.length_cons, List.length_nil] at hE2 ⊢; omega
              refine gd_iload hX 200 dd_Mo_lay_200 rfl ?_
              refine gd_goto hX 202 211 dd_Mo_lay_202 (by decide) ?_
              refine gd_eqi (show (nI (uN x % 128) : Int32) = nI (uN x) from by rw [Nat.mod_eq_of_lt hy0]) ?_
              refine gd_iast hX 3 (((ch_WL w E ++ [n]) ++ P).length) [gd_ob 5 h [.int er, .ref va, .ref re, .ref fu, .ref wi, .ref ma, .ref wo, .ref fd, .int mm, .int (nI (((ch_WL w E ++ [n]) ++ P).length + 1)), .int mn, .int pl], gd_aJ K va 64 vf, gd_aZ K fu 64 uf, gd_aI K wo 720 (upd wk (((ch_WL w E ++ [n]) ++ P).length) (nI (uN x)))] 211 dd_Mo_lay_211 rfl rfl (by omega) (by decide) rfl ?_
              have hI2 := ch_I_add (x := nI (uN x)) hI rfl
              have e9 : ((ch_WL w E ++ [n]) ++ P) ++ [uN x] = ch_WL w ((f k, n) :: E) := by rw [ch_WL_step, hN, List.append_assoc (ch_WL w E ++ [n])]
              rw [e9] at hI2
              refine gd_lload hX 212 dd_Mo_lay_212 rfl ?_
              refine gd_lconst hX 214 dd_Mo_lay_214 (v := 0) (by decide) ?_
              refine gd_lcmp hX 215 dd_Mo_lay_215 ?_
              refine gd_if_ne hX 216 162 dd_Mo_lay_216 (by decide) (fun h3 => ?_) (fun h3 => ?_)
              · skip
                exact absurd h2 h3
              · skip
                refine gd_lload hX 219 dd_Mo_lay_219 rfl ?_
                refine gd_lstore_n hX [(3, .long (f k)), (10, .long y), (12, .int (nI (uN x % 128))), (0, .ref h), (1, .int (nI E.length)), (2, .int (nI k2)), (5, .int (nI n)), (6, .long (f k)), (8, .long (f k - ch_hd E))] 221 dd_Mo_lay_221 rfl (by decide) rfl ?_
                refine gd_iinc hX 4 [(1, .int (nI (E.length + 1))), (3, .long (f k)), (10, .long y), (12, .int (nI (uN x % 128))), (0, .ref h), (2, .int (nI k2)), (5, .int (nI n)), (6, .long (f k)), (8, .long (f k - ch_hd E))] 222 dd_Mo_lay_222 rfl (gd_inc E.length) (by decide) rfl ?_
                refine gd_goto hX 225 77 dd_Mo_lay_225 (by decide) ?_
                show gd_W X K 0 0 [gd_ob 5 h [.int er, .ref va, .ref re, .ref fu, .ref wi, .ref ma, .ref wo, .ref fd, .int mm, .int (nI (((ch_WL w E ++ [n]) ++ P).length + 1)), .int mn, .int pl], gd_aJ K va 64 vf, gd_aZ K fu 64 uf, gd_aI K wo 720 (upd wk (((ch_WL w E ++ [n]) ++ P).length) (nI (uN x)))] [(1, .int (nI ((f k, n) :: E).length)), (3, .long (ch_hd ((f k, n) :: E))), (10, .long y), (12, .int (nI (uN x % 128))), (0, .ref h), (2, .int (nI k2)), (5, .int (nI n)), (6, .long (f k)), (8, .long (f k - ch_hd E))] [] 77
                refine gd_lvs [(0, .ref h), (1, .int (nI ((f k, n) :: E).length)), (2, .int (nI k2)), (3, .long (ch_hd ((f k, n) :: E)))] [4, 0, 5, 1] rfl ?_
                have e10 : nI (((ch_WL w E ++ [n]) ++ P).length + 1) = nI (ch_WL w ((f k, n) :: E)).length := by rw [← e9, ch_len1]
                rw [e10]
                exact ih k2 ((f k, n) :: E) _ (by omega) hk2 (fun q => ⟨(hb2 q).1, Or.inr (hb2 q).2⟩) hr2 hI2
        have inner : ∀ (p n k2 : Nat), 64 ≤ k2 + p → k2 ≤ 64 → (k2 < 64 → ch_bit w k2 = true) → ((n = 0 ∧ k2 = k) ∨ (k < k2 ∧ ch_runs w f k2 = (f k, n) :: E)) → gd_W X K 0 0 [gd_ob 5 h [.int er, .ref va, .ref re, .ref fu, .ref wi, .ref ma, .ref wo, .ref fd, .int mm, .int (nI (ch_WL w E).length), .int mn, .int pl], gd_aJ K va 64 vf, gd_aZ K fu 64 uf, gd_aI K wo 720 wk] [(0, .ref h), (1, .int (nI E.length)), (2, .int (nI k2)), (3, .long (ch_hd E)), (5, .int (nI n)), (6, .long (f k)), (8, .long (f k - ch_hd E))] [] 100 := by
          intro p
          induction p with
          | zero =>
            intro n k2 hp hk2 hb2 hc
            obtain rfl : k2 = 64 := by omega
            obtain ⟨hkk, hr2⟩ : k < 64 ∧ ch_runs w f 64 = (f k, n) :: E := by rcases hc with h | h; { omega }; { exact h }
            refine gd_iload_n hX 100 dd_Mo_lay_100 rfl ?_
            refine gd_bipush hX 101 dd_Mo_lay_101 (v := 64) (by decide) ?_
            refine gd_icmp_ge hX 103 132 dd_Mo_lay_103 (by decide) (fun h2 => ?_) (fun h2 => ?_)
            · skip
              obtain ⟨k2, hk9⟩ : ∃ k2, k2 = 64 := ⟨_, rfl⟩
              rw [← hk9] at hkk hr2
              have hk2 : k2 ≤ 64 := by omega
              rw [show nI 64 = nI k2 by rw [hk9]]
              have hb3 : k2 < 64 → ch_bit w k2 = true ∧ f k ≠ f k2 := fun q => absurd q (by omega)
              have hn64 : n ≤ 64 := by have := ch_runs_sz w f k2 (f k, n) (by rw [hr2]; exact List.mem_cons_self); show n ≤ 64; have h7 : n ≤ k2 := this; omega
              refine gd_aload_n hX 132 dd_Mo_lay_132 rfl ?_
              refine gd_get hX inC_Mo 0 6 133 dd_Mo_lay_133 rfl rfl (by decide) kw_414 rfl ?_
              refine gd_aload_n hX 136 dd_Mo_lay_136 rfl ?_
              refine gd_dup hX 137 dd_Mo_lay_137 rfl ?_
              refine gd_get hX inC_Mo 0 9 138 dd_Mo_lay_138 rfl rfl (by decide) kw_417 rfl ?_
              refine gd_dup_x1 hX 141 dd_Mo_lay_141 rfl rfl ?_
              refine gd_iconst hX 142 dd_Mo_lay_142 (v := 1) (by decide) ?_
              refine gd_iadd hX 143 dd_Mo_lay_143 ?_
              refine gd_eqi (show ((nI (ch_WL w E).length) + 1 : Int32) = nI ((ch_WL w E).length + 1) from nI_1 _) ?_
              refine gd_put hX inC_Mo ty_Mo tyk_Mo nm_Mo 0 9 [gd_ob 5 h [.int er, .ref va, .ref re, .ref fu, .ref wi, .ref ma, .ref wo, .ref fd, .int mm, .int (nI ((ch_WL w E).length + 1)), .int mn, .int pl], gd_aJ K va 64 vf, gd_aZ K fu 64 uf, gd_aI K wo 720 wk] 144 dd_Mo_lay_144 rfl rfl (by decide) kw_417 rfl rfl rfl (Nat.le_of_ble_eq_true rfl) rfl ?_
              refine gd_iload hX 147 dd_Mo_lay_147 rfl ?_
              refine gd_iast hX 3 ((ch_WL w E).length) [gd_ob 5 h [.int er, .ref va, .ref re, .ref fu, .ref wi, .ref ma, .ref wo, .ref fd, .int mm, .int (nI ((ch_WL w E).length + 1)), .int mn, .int pl], gd_aJ K va 64 vf, gd_aZ K fu 64 uf, gd_aI K wo 720 (upd wk ((ch_WL w E).length) (nI n))] 149 dd_Mo_lay_149 rfl rfl (by omega) (by decide) rfl ?_
              have hI2 := ch_I_add (x := nI n) hI rfl
              refine gd_lload hX 150 dd_Mo_lay_150 rfl ?_
              refine gd_iconst hX 152 dd_Mo_lay_152 (v := 1) (by decide) ?_
              refine gd_lshl hX 153 dd_Mo_lay_153 ?_
              refine gd_lload hX 154 dd_Mo_lay_154 rfl ?_
              refine gd_bipush hX 156 dd_Mo_lay_156 (v := 63) (by decide) ?_
              refine gd_lshr hX 158 dd_Mo_lay_158 ?_
              refine gd_lxor hX 159 dd_Mo_lay_159 ?_
              refine gd_eql (show (((f k - ch_hd E) <<< ((1 : Int32).toInt64 &&& 63)) ^^^ ((f k - ch_hd E) >>> ((63 : Int32).toInt64 &&& 63)) : Int64) = ch_zz (f k - ch_hd E) from rfl) ?_
              refine gd_lstore hX [(10, .long (ch_zz (f k - ch_hd E))), (0, .ref h), (1, .int (nI E.length)), (2, .int (nI k2)), (3, .long (ch_hd E)), (5, .int (nI n)), (6, .long (f k)), (8, .long (f k - ch_hd E))] 160 dd_Mo_lay_160 (by decide) rfl ?_
              have e9 : ch_WL w E ++ [n] = (ch_WL w E ++ [n]) ++ [] := by simp
              have e10 : nI ((ch_WL w E).length + 1) = nI ((ch_WL w E ++ [n]) ++ []).length := by rw [← e9, ch_len1]
              rw [e9] at hI2
              rw [e10]
              refine gd_lvs [(0, .ref h), (1, .int (nI E.length)), (2, .int (nI k2)), (3, .long (ch_hd E)), (5, .int (nI n)), (6, .long (f k)), (8, .long (f k - ch_hd E)), (10, .long (ch_zz (f k - ch_hd E)))] [1, 2, 3, 4, 5, 6, 7, 0] rfl ?_
              exact dw n k2 hk2 hkk hb3 hr2 9 _ [] _ rfl (uN_lt _) hI2
            · skip
              exact absurd (by decide) h2
          | succ p ihp =>
            intro n k2 hp hk2 hb2 hc
            refine gd_iload_n hX 100 dd_Mo_lay_100 rfl ?_
            refine gd_bipush hX 101 dd_Mo_lay_101 (v := 64) (by decide) ?_
            refine gd_icmp_ge hX 103 132 dd_Mo_lay_103 (by decide) (fun h2 => ?_) (fun h2 => ?_)
            · skip
              have hk9 : k2 = 64 := by have := (nI_leI (a := 64) (by decide) (by omega)).mp h2; omega
              obtain ⟨hkk, hr2⟩ : k < k2 ∧ ch_runs w f k2 = (f k, n) :: E := by rcases hc with h | h; { omega }; { exact h }
              have hb3 : k2 < 64 → ch_bit w k2 = true ∧ f k ≠ f k2 := fun q => absurd q (by omega)
              have hn64 : n ≤ 64 := by have := ch_runs_sz w f k2 (f k, n) (by rw [hr2]; exact List.mem_cons_self); show n ≤ 64; have h7 : n ≤ k2 := this; omega
              refine gd_aload_n hX 132 dd_Mo_lay_132 rfl ?_
              refine gd_get hX inC_Mo 0 6 133 dd_Mo_lay_133 rfl rfl (by decide) kw_414 rfl ?_
              refine gd_aload_n hX 136 dd_Mo_lay_136 rfl ?_
              refine gd_dup hX 137 dd_Mo_lay_137 rfl ?_
              refine gd_get hX inC_Mo 0 9 138 dd_Mo_lay_138 rfl rfl (by decide) kw_417 rfl ?_
              refine gd_dup_x1 hX 141 dd_Mo_lay_141 rfl rfl ?_
              refine gd_iconst hX 142 dd_Mo_lay_142 (v := 1) (by decide) ?_
              refine gd_iadd hX 143 dd_Mo_lay_143 ?_
              refine gd_eqi (show ((nI (ch_WL w E).length) + 1 : Int32) = nI ((ch_WL w E).length + 1) from nI_1 _) ?_
              refine gd_put hX inC_Mo ty_Mo tyk_Mo nm_Mo 0 9 [gd_ob 5 h [.int er, .ref va, .ref re, .ref fu, .ref wi, .ref ma, .ref wo, .ref fd, .int mm, .int (nI ((ch_WL w E).length + 1)), .int mn, .int pl], gd_aJ K va 64 vf, gd_aZ K fu 64 uf, gd_aI K wo 720 wk] 144 dd_Mo_lay_144 rfl rfl (by decide) kw_417 rfl rfl rfl (Nat.le_of_ble_eq_true rfl) rfl ?_
              refine gd_iload hX 147 dd_Mo_lay_147 rfl ?_
              refine gd_iast hX 3 ((ch_WL w E).length) [gd_ob 5 h [.int er, .ref va, .ref re, .ref fu, .ref wi, .ref ma, .ref wo, .ref fd, .int mm, .int (nI ((ch_WL w E).length + 1)), .int mn, .int pl], gd_aJ K va 64 vf, gd_aZ K fu 64 uf, gd_aI K wo 720 (upd wk ((ch_WL w E).length) (nI n))] 149 dd_Mo_lay_149 rfl rfl (by omega) (by decide) rfl ?_
              have hI2 := ch_I_add (x := nI n) hI rfl
              refine gd_lload hX 150 dd_Mo_lay_150 rfl ?_
              refine gd_iconst hX 152 dd_Mo_lay_152 (v := 1) (by decide) ?_
              refine gd_lshl hX 153 dd_Mo_lay_153 ?_
              refine gd_lload hX 154 dd_Mo_lay_154 rfl ?_
              refine gd_bipush hX 156 dd_Mo_lay_156 (v := 63) (by decide) ?_
              refine gd_lshr hX 158 dd_Mo_lay_158 ?_
              refine gd_lxor hX 159 dd_Mo_lay_159 ?_
              refine gd_eql (show (((f k - ch_hd E) <<< ((1 : Int32).toInt64 &&& 63)) ^^^ ((f k - ch_hd E) >>> ((63 : Int32).toInt64 &&& 63)) : Int64) = ch_zz (f k - ch_hd E) from rfl) ?_
              refine gd_lstore hX [(10, .long (ch_zz (f k - ch_hd E))), (0, .ref h), (1, .int (nI E.length)), (2, .int (nI k2)), (3, .long (ch_hd E)), (5, .int (nI n)), (6, .long (f k)), (8, .long (f k - ch_hd E))] 160 dd_Mo_lay_160 (by decide) rfl ?_
              have e9 : ch_WL w E ++ [n] = (ch_WL w E ++ [n]) ++ [] := by simp
              have e10 : nI ((ch_WL w E).length + 1) = nI ((ch_WL w E ++ [n]) ++ []).length := by rw [← e9, ch_len1]
              rw [e9] at hI2
              rw [e10]
              refine gd_lvs [(0, .ref h), (1, .int (nI E.length)), (2, .int (nI k2)), (3, .long (ch_hd E)), (5, .int (nI n)), (6, .long (f k)), (8, .long (f k - ch_hd E)), (10, .long (ch_zz (f k - ch_hd E)))] [1, 2, 3, 4, 5, 6, 7, 0] rfl ?_
              exact dw n k2 hk2 hkk hb3 hr2 9 _ [] _ rfl (uN_lt _) hI2
            · skip
              have hk9 : k2 < 64 := Nat.lt_of_not_le (fun q => h2 ((nI_leI (a := 64) (by decide) (by omega)).mpr q))
              have hbb := hb2 hk9
              refine gd_aload_n hX 106 dd_Mo_lay_106 rfl ?_
              refine gd_get hX inC_Mo 0 1 107 dd_Mo_lay_107 rfl rfl (by decide) kw_409 rfl ?_
              refine gd_iload_n hX 110 dd_Mo_lay_110 rfl ?_
              refine gd_lald hX 1 k2 111 dd_Mo_lay_111 rfl rfl hk9 (by decide) ?_
              refine gd_eql (show (vf k2 : Int64) = f k2 from (hM k2 hk9).2 hbb) ?_
              refine gd_lload hX 112 dd_Mo_lay_112 rfl ?_
              refine gd_lcmp hX 114 dd_Mo_lay_114 ?_
              refine gd_if_ne hX 115 132 dd_Mo_lay_115 (by decide) (fun h3 => ?_) (fun h3 => ?_)
              · skip
                have hne : f k ≠ f k2 := fun e => h3 (ch_cmp0.mpr e.symm)
                obtain ⟨hkk, hr2⟩ : k < k2 ∧ ch_runs w f k2 = (f k, n) :: E := by rcases hc with h | h; { exact absurd (by rw [h.2]) hne }; { exact h }
                have hb3 : k2 < 64 → ch_bit w k2 = true ∧ f k ≠ f k2 := fun _ => ⟨hbb, hne⟩
                have hn64 : n ≤ 64 := by have := ch_runs_sz w f k2 (f k, n) (by rw [hr2]; exact List.mem_cons_self); show n ≤ 64; have h7 : n ≤ k2 := this; omega
                refine gd_aload_n hX 132 dd_Mo_lay_132 rfl ?_
                refine gd_get hX inC_Mo 0 6 133 dd_Mo_lay_133 rfl rfl (by decide) kw_414 rfl ?_
                refine gd_aload_n hX 136 dd_Mo_lay_136 rfl ?_
                refine gd_dup hX 137 dd_Mo_lay_137 rfl ?_
                refine gd_get hX inC_Mo 0 9 138 dd_Mo_lay_138 rfl rfl (by decide) kw_417 rfl ?_
                refine gd_dup_x1 hX 141 dd_Mo_lay_141 rfl rfl ?_
                refine gd_iconst hX 142 dd_Mo_lay_142 (v := 1) (by decide) ?_
                refine gd_iadd hX 143 dd_Mo_lay_143 ?_
                refine gd_eqi (show ((nI (ch_WL w E).length) + 1 : Int32) = nI ((ch_WL w E).length + 1) from nI_1 _) ?_
                refine gd_put hX inC_Mo ty_Mo tyk_Mo nm_Mo 0 9 [gd_ob 5 h [.int er, .ref va, .ref re, .ref fu, .ref wi, .ref ma, .ref wo, .ref fd, .int mm, .int (nI ((ch_WL w E).length + 1)), .int mn, .int pl], gd_aJ K va 64 vf, gd_aZ K fu 64 uf, gd_aI K wo 720 wk] 144 dd_Mo_lay_144 rfl rfl (by decide) kw_417 rfl rfl rfl (Nat.le_of_ble_eq_true rfl) rfl ?_
                refine gd_iload hX 147 dd_Mo_lay_147 rfl ?_
                refine gd_iast hX 3 ((ch_WL w E).length) [gd_ob 5 h [.int er, .ref va, .ref re, .ref fu, .ref wi, .ref ma, .ref wo, .ref fd, .int mm, .int (nI ((ch_WL w E).length + 1)), .int mn, .int pl], gd_aJ K va 64 vf, gd_aZ K fu 64 uf, gd_aI K wo 720 (upd wk ((ch_WL w E).length) (nI n))] 149 dd_Mo_lay_149 rfl rfl (by omega) (by decide) rfl ?_
                have hI2 := ch_I_add (x := nI n) hI rfl
                refine gd_lload hX 150 dd_Mo_lay_150 rfl ?_
                refine gd_iconst hX 152 dd_Mo_lay_152 (v := 1) (by decide) ?_
                refine gd_lshl hX 153 dd_Mo_lay_153 ?_
                refine gd_lload hX 154 dd_Mo_lay_154 rfl ?_
                refine gd_bipush hX 156 dd_Mo_lay_156 (v := 63) (by decide) ?_
                refine gd_lshr hX 158 dd_Mo_lay_158 ?_
                refine gd_lxor hX 159 dd_Mo_lay_159 ?_
                refine gd_eql (show (((f k - ch_hd E) <<< ((1 : Int32).toInt64 &&& 63)) ^^^ ((f k - ch_hd E) >>> ((63 : Int32).toInt64 &&& 63)) : Int64) = ch_zz (f k - ch_hd E) from rfl) ?_
                refine gd_lstore hX [(10, .long (ch_zz (f k - ch_hd E))), (0, .ref h), (1, .int (nI E.length)), (2, .int (nI k2)), (3, .long (ch_hd E)), (5, .int (nI n)), (6, .long (f k)), (8, .long (f k - ch_hd E))] 160 dd_Mo_lay_160 (by decide) rfl ?_
                have e9 : ch_WL w E ++ [n] = (ch_WL w E ++ [n]) ++ [] := by simp
                have e10 : nI ((ch_WL w E).length + 1) = nI ((ch_WL w E ++ [n]) ++ []).length := by rw [← e9, ch_len1]
                rw [e9] at hI2
                rw [e10]
                refine gd_lvs [(0, .ref h), (1, .int (nI E.length)), (2, .int (nI k2)), (3, .long (ch_hd E)), (5, .int (nI n)), (6, .long (f k)), (8, .long (f k - ch_hd E)), (10, .long (ch_zz (f k - ch_hd E)))] [1, 2, 3, 4, 5, 6, 7, 0] rfl ?_
                exact dw n k2 hk2 hkk hb3 hr2 9 _ [] _ rfl (uN_lt _) hI2
              · skip
                have heq : f k2 = f k := ch_cmp0.mp h3
                have hadd : ch_runs w f (k2 + 1) = (f k, n + 1) :: E := by
                  rw [ch_runs_bit f hbb, heq]
                  rcases hc with ⟨h, h9⟩ | ⟨h, h9⟩
                  · rw [h9, hE9, h]; exact ch_add1 hEv
                  · rw [h9]; exact ch_addn E (f k) n
                refine gd_iinc hX 4 [(5, .int (nI (n + 1))), (0, .ref h), (1, .int (nI E.length)), (2, .int (nI k2)), (3, .long (ch_hd E)), (6, .long (f k)), (8, .long (f k - ch_hd E))] 118 dd_Mo_lay_118 rfl (gd_inc n) (by decide) rfl ?_
                refine gd_aload_n hX 121 dd_Mo_lay_121 rfl ?_
                refine gd_iload_n hX 122 dd_Mo_lay_122 rfl ?_
                refine gd_iconst hX 123 dd_Mo_lay_123 (v := 1) (by decide) ?_
                refine gd_iadd hX 124 dd_Mo_lay_124 ?_
                refine gd_eqi (show ((nI k2) + 1 : Int32) = nI (k2 + 1) from nI_1 _) ?_
                refine gd_call hX (st := []) (wr := [gd_aJ K va 64 vf, gd_aI K wo 720 wk]) (ct_Mo_next _ K h va re fu wi ma wo fd er mm (nI (ch_WL w E).length) mn pl w f vf uf hM (k2 + 1) (by omega)) 125 dd_Mo_lay_125 (gd_nV hX (As := [.int (nI (k2 + 1))]) kw_481 kw_483 kw_10 (gd_sigOf (n := 1) kw_484 (by decide)) (by decide) 0 rfl rfl rfl rfl dd_Mo_lay_125) (gd_codeOf kw_484) (by decide) [0, 2] [1, 3] rfl rfl rfl rfl rfl (by decide) (Nat.le_of_ble_eq_true rfl) (Nat.le_of_ble_eq_true rfl) (Nat.le_of_ble_eq_true rfl) (Nat.le_of_ble_eq_true rfl) (fun v9 w9 h9 => ?_) (fun E9 w9 q9 h9 => h9.elim)
                obtain ⟨rfl, rfl⟩ := h9
                refine gd_wsp [gd_ob 5 h [.int er, .ref va, .ref re, .ref fu, .ref wi, .ref ma, .ref wo, .ref fd, .int mm, .int (nI (ch_WL w E).length), .int mn, .int pl], gd_aJ K va 64 vf, gd_aZ K fu 64 uf, gd_aI K wo 720 wk] [2, 0, 3, 1] rfl rfl rfl ?_
                show gd_W X K 0 0 [gd_ob 5 h [.int er, .ref va, .ref re, .ref fu, .ref wi, .ref ma, .ref wo, .ref fd, .int mm, .int (nI (ch_WL w E).length), .int mn, .int pl], gd_aJ K va 64 vf, gd_aZ K fu 64 uf, gd_aI K wo 720 wk] [(5, .int (nI (n + 1))), (0, .ref h), (1, .int (nI E.length)), (2, .int (nI k2)), (3, .long (ch_hd E)), (6, .long (f k)), (8, .long (f k - ch_hd E))] [.int (nI (ch_nx w (64 - (k2 + 1)) (k2 + 1)))] 128
                have hnl := ch_nx_le w (64 - (k2 + 1)) (k2 + 1) (by omega)
                refine gd_istore_n hX [(2, .int (nI (ch_nx w (64 - (k2 + 1)) (k2 + 1)))), (5, .int (nI (n + 1))), (0, .ref h), (1, .int (nI E.length)), (3, .long (ch_hd E)), (6, .long (f k)), (8, .long (f k - ch_hd E))] 128 dd_Mo_lay_128 rfl (by decide) rfl ?_
                refine gd_goto hX 129 100 dd_Mo_lay_129 (by decide) ?_
                refine gd_lvs [(0, .ref h), (1, .int (nI E.length)), (2, .int (nI (ch_nx w (64 - (k2 + 1)) (k2 + 1)))), (3, .long (ch_hd E)), (5, .int (nI (n + 1))), (6, .long (f k)), (8, .long (f k - ch_hd E))] [2, 3, 0, 4, 1, 5, 6] rfl ?_
                exact ihp (n + 1) _ (by omega) hnl.2 (fun q => ch_nx_bit w _ _ (by omega) q) (Or.inr ⟨by omega, by rw [ch_nx_runs w f _ _ (by omega)]; exact hadd⟩)
        refine gd_iconst hX 83 dd_Mo_lay_83 (v := 0) (by decide) ?_
        refine gd_eqi (show (0 : Int32) = nI 0 from rfl) ?_
        refine gd_istore hX [(5, .int (nI 0)), (0, .ref h), (1, .int (nI E.length)), (2, .int (nI k)), (3, .long (ch_hd E))] 84 dd_Mo_lay_84 (by decide) rfl ?_
        refine gd_aload_n hX 86 dd_Mo_lay_86 rfl ?_
        refine gd_get hX inC_Mo 0 1 87 dd_Mo_lay_87 rfl rfl (by decide) kw_409 rfl ?_
        refine gd_iload_n hX 90 dd_Mo_lay_90 rfl ?_
        refine gd_lald hX 1 k 91 dd_Mo_lay_91 rfl rfl hk1 (by decide) ?_
        refine gd_eql (show (vf k : Int64) = f k from (hM k hk1).2 hbk) ?_
        refine gd_lstore hX [(6, .long (f k)), (5, .int (nI 0)), (0, .ref h), (1, .int (nI E.length)), (2, .int (nI k)), (3, .long (ch_hd E))] 92 dd_Mo_lay_92 (by decide) rfl ?_
        refine gd_lload hX 94 dd_Mo_lay_94 rfl ?_
        refine gd_lload_n hX 96 dd_Mo_lay_96 rfl ?_
        refine gd_lsub hX 97 dd_Mo_lay_97 ?_
        refine gd_lstore hX [(8, .long ((f k) - (ch_hd E))), (6, .long (f k)), (5, .int (nI 0)), (0, .ref h), (1, .int (nI E.length)), (2, .int (nI k)), (3, .long (ch_hd E))] 98 dd_Mo_lay_98 (by decide) rfl ?_
        refine gd_lvs [(0, .ref h), (1, .int (nI E.length)), (2, .int (nI k)), (3, .long (ch_hd E)), (5, .int (nI 0)), (6, .long (f k)), (8, .long ((f k) - (ch_hd E)))] [3, 4, 5, 6, 2, 1, 0] rfl ?_
        exact inner 64 0 k (by omega) hk (fun _ => hbk) (Or.inl ⟨rfl, rfl⟩)
  have mask : ∀ (m i : Nat) (wk : Nat → Int32), m + i = 8 → (∀ t, t < i → wk t = nI (uN w / 256 ^ t % 256)) → gd_W X K 0 0 [gd_ob 5 h [.int er, .ref va, .ref re, .ref fu, .ref wi, .ref ma, .ref wo, .ref fd, .int mm, .int (nI 8), .int mn, .int pl], gd_aJ K va 64 vf, gd_aZ K fu 64 uf, gd_aI K wo 720 wk] [(0, .ref h), (1, .int (nI i))] [] 8 := by
    intro m
    induction m with
    | zero =>
      intro i wk hi hw
      obtain rfl : i = 8 := by omega
      refine gd_iload_n hX 8 dd_Mo_lay_8 rfl ?_
      refine gd_bipush hX 9 dd_Mo_lay_9 (v := 8) (by decide) ?_
      refine gd_icmp_ge hX 11 67 dd_Mo_lay_11 (by decide) (fun h1 => ?_) (fun h1 => ?_)
      · skip
        have hI : ch_I wk (ch_WL w []) := by
          intro t ht
          have ht : t < 8 := by simpa [ch_WL, ch_octs, ch_mask] using ht
          rw [hw t ht]
          have e1 : ch_WL w [] = ch_mask w := by simp [ch_WL, ch_octs]
          rw [e1, ch_maskD w ht]
        have e8 : nI 8 = nI (ch_WL w []).length := by simp [ch_WL, ch_octs, ch_mask]
        rw [e8]
        refine gd_iconst hX 67 dd_Mo_lay_67 (v := 0) (by decide) ?_
        refine gd_eqi (show (0 : Int32) = nI ([] : List (Int64 × Nat)).length from rfl) ?_
        refine gd_istore_n hX [(1, .int (nI ([] : List (Int64 × Nat)).length)), (0, .ref h)] 68 dd_Mo_lay_68 rfl (by decide) rfl ?_
        refine gd_aload_n hX 69 dd_Mo_lay_69 rfl ?_
        refine gd_iconst hX 70 dd_Mo_lay_70 (v := 0) (by decide) ?_
        refine gd_eqi (show (0 : Int32) = nI 0 from rfl) ?_
        refine gd_call hX (st := []) (wr := [gd_aJ K va 64 vf, gd_aI K wo 720 wk]) (ct_Mo_next _ K h va re fu wi ma wo fd er mm (nI (ch_WL w []).length) mn pl w f vf uf hM 0 (by omega)) 71 dd_Mo_lay_71 (gd_nV hX (As := [.int (nI 0)]) kw_481 kw_483 kw_10 (gd_sigOf (n := 1) kw_484 (by decide)) (by decide) 0 rfl rfl rfl rfl dd_Mo_lay_71) (gd_codeOf kw_484) (by decide) [0, 2] [1, 3] rfl rfl rfl rfl rfl (by decide) (Nat.le_of_ble_eq_true rfl) (Nat.le_of_ble_eq_true rfl) (Nat.le_of_ble_eq_true rfl) (Nat.le_of_ble_eq_true rfl) (fun v9 w9 h9 => ?_) (fun E9 w9 q9 h9 => h9.elim)
        obtain ⟨rfl, rfl⟩ := h9
        refine gd_wsp [gd_ob 5 h [.int er, .ref va, .ref re, .ref fu, .ref wi, .ref ma, .ref wo, .ref fd, .int mm, .int (nI (ch_WL w []).length), .int mn, .int pl], gd_aJ K va 64 vf, gd_aZ K fu 64 uf, gd_aI K wo 720 wk] [2, 0, 3, 1] rfl rfl rfl ?_
        show gd_W X K 0 0 [gd_ob 5 h [.int er, .ref va, .ref re, .ref fu, .ref wi, .ref ma, .ref wo, .ref fd, .int mm, .int (nI (ch_WL w []).length), .int mn, .int pl], gd_aJ K va 64 vf, gd_aZ K fu 64 uf, gd_aI K wo 720 wk] [(1, .int (nI ([] : List (Int64 × Nat)).length)), (0, .ref h)] [.int (nI (ch_nx w (64 - 0) 0))] 74
        refine gd_istore_n hX [(2, .int (nI (ch_nx w (64 - 0) 0))), (1, .int (nI ([] : List (Int64 × Nat)).length)), (0, .ref h)] 74 dd_Mo_lay_74 rfl (by decide) rfl ?_
        refine gd_lconst hX 75 dd_Mo_lay_75 (v := 0) (by decide) ?_
        refine gd_eql (show (0 : Int64) = ch_hd ([] : List (Int64 × Nat)) from rfl) ?_
        refine gd_lstore_n hX [(3, .long (ch_hd ([] : List (Int64 × Nat)))), (2, .int (nI (ch_nx w (64 - 0) 0))), (1, .int (nI ([] : List (Int64 × Nat)).length)), (0, .ref h)] 76 dd_Mo_lay_76 rfl (by decide) rfl ?_
        refine gd_lvs [(0, .ref h), (1, .int (nI ([] : List (Int64 × Nat)).length)), (2, .int (nI (ch_nx w (64 - 0) 0))), (3, .long (ch_hd ([] : List (Int64 × Nat))))] [3, 2, 1, 0] rfl ?_
        have hnl := ch_nx_le w (64 - 0) 0 rfl
        exact loop 64 _ [] wk (by omega) hnl.2 (fun q => ⟨ch_nx_bit w _ _ rfl q, Or.inl rfl⟩) (by rw [ch_nx_runs w f _ _ rfl]; rfl) hI
      · skip
        exact absurd (by decide) h1
    | succ m ih =>
      intro i wk hi hw
      refine gd_iload_n hX 8 dd_Mo_lay_8 rfl ?_
      refine gd_bipush hX 9 dd_Mo_lay_9 (v := 8) (by decide) ?_
      refine gd_icmp_ge hX 11 67 dd_Mo_lay_11 (by decide) (fun h1 => ?_) (fun h1 => ?_)
      · skip
        exact absurd ((nI_leI (a := 8) (by decide) (by omega)).mp h1) (by omega)
      · skip
        have inn : ∀ (p j : Nat) (wk : Nat → Int32), p + j = 8 → (∀ t, t < i → wk t = nI (uN w / 256 ^ t % 256)) → wk i = nI (uN w / 256 ^ i % 2 ^ j) → gd_W X K 0 0 [gd_ob 5 h [.int er, .ref va, .ref re, .ref fu, .ref wi, .ref ma, .ref wo, .ref fd, .int mm, .int (nI 8), .int mn, .int pl], gd_aJ K va 64 vf, gd_aZ K fu 64 uf, gd_aI K wo 720 wk] [(0, .ref h), (1, .int (nI i)), (2, .int (nI j))] [] 23 := by
          intro p
          induction p with
          | zero =>
            intro j wk hj hw hwi
            obtain rfl : j = 8 := by omega
            refine gd_iload_n hX 23 dd_Mo_lay_23 rfl ?_
            refine gd_bipush hX 24 dd_Mo_lay_24 (v := 8) (by decide) ?_
            refine gd_icmp_ge hX 26 61 dd_Mo_lay_26 (by decide) (fun h2 => ?_) (fun h2 => ?_)
            · skip
              refine gd_iinc hX 1 [(1, .int (nI (i + 1))), (0, .ref h), (2, .int (nI 8))] 61 dd_Mo_lay_61 rfl (gd_inc i) (by decide) rfl ?_
              refine gd_goto hX 64 8 dd_Mo_lay_64 (by decide) ?_
              refine gd_lvs [(0, .ref h), (1, .int (nI (i + 1)))] [1, 0] rfl ?_
              exact ih (i + 1) wk (by omega) (fun t ht => by rcases Nat.lt_succ_iff_lt_or_eq.mp ht with h | h; { exact hw t h }; { subst h; exact hwi })
            · skip
              exact absurd (by decide) h2
          | succ p ihp =>
            intro j wk hj hw hwi
            have hm2 := ch_mod2 (uN w / 256 ^ i) j
            have hb8 := ch_bit8 w i j
            refine gd_iload_n hX 23 dd_Mo_lay_23 rfl ?_
            refine gd_bipush hX 24 dd_Mo_lay_24 (v := 8) (by decide) ?_
            refine gd_icmp_ge hX 26 61 dd_Mo_lay_26 (by decide) (fun h2 => ?_) (fun h2 => ?_)
            · skip
              exact absurd ((nI_leI (a := 8) (by decide) (by omega)).mp h2) (by omega)
            · skip
              refine gd_aload_n hX 29 dd_Mo_lay_29 rfl ?_
              refine gd_get hX inC_Mo 0 3 30 dd_Mo_lay_30 rfl rfl (by decide) kw_411 rfl ?_
              refine gd_bipush hX 33 dd_Mo_lay_33 (v := 8) (by decide) ?_
              refine gd_iload_n hX 35 dd_Mo_lay_35 rfl ?_
              refine gd_imul hX 36 dd_Mo_lay_36 ?_
              refine gd_iload_n hX 37 dd_Mo_lay_37 rfl ?_
              refine gd_iadd hX 38 dd_Mo_lay_38 ?_
              refine gd_eqi (show ((8 * (nI i)) + (nI j) : Int32) = nI (8 * i + j) from by rw [show (8 : Int32) = nI 8 from rfl, pk_mul, nI_add]) ?_
              refine gd_zald hX 2 (8 * i + j) 39 dd_Mo_lay_39 rfl rfl (by omega) (by decide) ?_
              refine gd_eqi (show (uf (8 * i + j) : Int32) = (if ch_bit w (8 * i + j) then 1 else 0) from (hM (8 * i + j) (by omega)).1) ?_
              refine gd_if_eq hX 40 55 dd_Mo_lay_40 (by decide) (fun h3 => ?_) (fun h3 => ?_)
              · skip
                have h4 := (ch_ib _).mp h3
                rw [hb8] at h4
                have h5 := of_decide_eq_false h4
                refine gd_iinc hX 2 [(2, .int (nI (j + 1))), (0, .ref h), (1, .int (nI i))] 55 dd_Mo_lay_55 rfl (gd_inc j) (by decide) rfl ?_
                refine gd_goto hX 58 23 dd_Mo_lay_58 (by decide) ?_
                refine gd_lvs [(0, .ref h), (1, .int (nI i)), (2, .int (nI (j + 1)))] [1, 2, 0] rfl ?_
                exact ihp (j + 1) wk (by omega) hw (by rw [hwi, hm2, show uN w / 256 ^ i / 2 ^ j % 2 = 0 by omega]; rfl)
              · skip
                have h4 := (ch_ifb _).mp h3
                rw [hb8] at h4
                have h5 := of_decide_eq_true h4
                refine gd_aload_n hX 43 dd_Mo_lay_43 rfl ?_
                refine gd_get hX inC_Mo 0 6 44 dd_Mo_lay_44 rfl rfl (by decide) kw_414 rfl ?_
                refine gd_iload_n hX 47 dd_Mo_lay_47 rfl ?_
                refine gd_dup2 hX 48 dd_Mo_lay_48 rfl rfl ?_
                refine gd_iald hX 3 i 49 dd_Mo_lay_49 rfl rfl (by omega) (by decide) ?_
                refine gd_eqi (show (wk i : Int32) = nI (uN w / 256 ^ i % 2 ^ j) from hwi) ?_
                refine gd_iconst hX 50 dd_Mo_lay_50 (v := 1) (by decide) ?_
                refine gd_iload_n hX 51 dd_Mo_lay_51 rfl ?_
                refine gd_ishl hX 52 dd_Mo_lay_52 ?_
                refine gd_ior hX 53 dd_Mo_lay_53 ?_
                have hlt : uN w / 256 ^ i % 2 ^ j < 2 ^ j := Nat.mod_lt _ (Nat.two_pow_pos _)
                have hle : 2 ^ j ≤ 2 ^ 8 := Nat.pow_le_pow_right (by decide) (by omega)
                refine gd_eqi (show ((nI (uN w / 256 ^ i % 2 ^ j)) ||| ((1 : Int32) <<< ((nI j) &&& 31)) : Int32) = nI (uN w / 256 ^ i % 2 ^ (j + 1)) from by rw [ch_or1 j (by omega) _ (by omega) hlt, hm2, h5, Nat.mul_one]) ?_
                refine gd_iast hX 3 i [gd_ob 5 h [.int er, .ref va, .ref re, .ref fu, .ref wi, .ref ma, .ref wo, .ref fd, .int mm, .int (nI 8), .int mn, .int pl], gd_aJ K va 64 vf, gd_aZ K fu 64 uf, gd_aI K wo 720 (upd wk i (nI (uN w / 256 ^ i % 2 ^ (j + 1))))] 54 dd_Mo_lay_54 rfl rfl (by omega) (by decide) rfl ?_
                refine gd_iinc hX 2 [(2, .int (nI (j + 1))), (0, .ref h), (1, .int (nI i))] 55 dd_Mo_lay_55 rfl (gd_inc j) (by decide) rfl ?_
                refine gd_goto hX 58 23 dd_Mo_lay_58 (by decide) ?_
                refine gd_lvs [(0, .ref h), (1, .int (nI i)), (2, .int (nI (j + 1)))] [1, 2, 0] rfl ?_
                exact ihp (j + 1) _ (by omega) (fun t ht => by rw [pk_un (by omega)]; exact hw t ht) (by rw [pk_us])
        refine gd_aload_n hX 14 dd_Mo_lay_14 rfl ?_
        refine gd_get hX inC_Mo 0 6 15 dd_Mo_lay_15 rfl rfl (by decide) kw_414 rfl ?_
        refine gd_iload_n hX 18 dd_Mo_lay_18 rfl ?_
        refine gd_iconst hX 19 dd_Mo_lay_19 (v := 0) (by decide) ?_
        refine gd_iast hX 3 i [gd_ob 5 h [.int er, .ref va, .ref re, .ref fu, .ref wi, .ref ma, .ref wo, .ref fd, .int mm, .int (nI 8), .int mn, .int pl], gd_aJ K va 64 vf, gd_aZ K fu 64 uf, gd_aI K wo 720 (upd wk i 0)] 20 dd_Mo_lay_20 rfl rfl (by omega) (by decide) rfl ?_
        refine gd_iconst hX 21 dd_Mo_lay_21 (v := 0) (by decide) ?_
        refine gd_eqi (show (0 : Int32) = nI 0 from rfl) ?_
        refine gd_istore_n hX [(2, .int (nI 0)), (0, .ref h), (1, .int (nI i))] 22 dd_Mo_lay_22 rfl (by decide) rfl ?_
        refine gd_lvs [(0, .ref h), (1, .int (nI i)), (2, .int (nI 0))] [1, 2, 0] rfl ?_
        exact inn 8 0 _ rfl (fun t ht => by rw [pk_un (by omega)]; exact hw t ht) (by rw [pk_us, Nat.pow_zero, Nat.mod_one]; rfl)
  refine gd_aload_n hX 0 dd_Mo_lay_0 rfl ?_
  refine gd_bipush hX 1 dd_Mo_lay_1 (v := 8) (by decide) ?_
  refine gd_eqi (show (8 : Int32) = nI 8 from rfl) ?_
  refine gd_put hX inC_Mo ty_Mo tyk_Mo nm_Mo 0 9 [gd_ob 5 h [.int er, .ref va, .ref re, .ref fu, .ref wi, .ref ma, .ref wo, .ref fd, .int mm, .int (nI 8), .int mn, .int pl], gd_aJ K va 64 vf, gd_aZ K fu 64 uf, gd_aI K wo 720 wk] 3 dd_Mo_lay_3 rfl rfl (by decide) kw_417 rfl rfl rfl (Nat.le_of_ble_eq_true rfl) rfl ?_
  refine gd_iconst hX 6 dd_Mo_lay_6 (v := 0) (by decide) ?_
  refine gd_eqi (show (0 : Int32) = nI 0 from rfl) ?_
  refine gd_istore_n hX [(1, .int (nI 0)), (0, .ref h)] 7 dd_Mo_lay_7 rfl (by decide) rfl ?_
  refine gd_lvs [(0, .ref h), (1, .int (nI 0))] [1, 0] rfl ?_
  exact mask 8 0 wk rfl (fun t ht => absurd ht (Nat.not_lt_zero _))
end
section
theorem ch_code_len (w : Int64) (f : Nat → Int64) : (ch_code w f).length ≤ 712 := by
  have h1 : (ch_code w f).length ≤ _ := ch_WL_len w (ch_runs w f 64)
  have h2 := ch_runs_len w f 64
  omega
theorem ch_ct4 (w : Int64) (f : Nat → Int64) (Lf Lm : List Nat) : ch_ct w f Lf Lm 4 = (ch_code w f).length := by
  unfold ch_code
  rw [List.length_append, ch_mask_len]
  rfl
set_option maxRecDepth 100000 in
set_option maxHeartbeats 4000000 in
theorem ct_Mo_encode (l : Launch) (K : gd_K) (h va re fu wi ma wo fd : Nat) (er mm wm mn pl : Int32) (w : Int64) (f vf : Nat → Int64) (uf : Nat → Int32) (hM : ch_M w f vf uf) (wk mf : Nat → Int32) : gd_M l yy_Mo_encode bb_Mo_encode 2 (some .int) [] 2 38 0 0 K [.ref h] [gd_ob 5 h [.int er, .ref va, .ref re, .ref fu, .ref wi, .ref ma, .ref wo, .ref fd, .int mm, .int wm, .int mn, .int pl], gd_aJ K va 64 vf, gd_aZ K fu 64 uf, gd_aI K wo 720 wk, gd_aI K ma 720 mf] (fun v9 w1 => v9 = some (.int (nI (ch_code w f).length)) ∧ ∃ wk' mf', w1 = [gd_ob 5 h [.int 0, .ref va, .ref re, .ref fu, .ref wi, .ref ma, .ref wo, .ref fd, .int (nI (ch_code w f).length), .int (nI (ch_code w f).length), .int mn, .int pl], gd_aJ K va 64 vf, gd_aZ K fu 64 uf, gd_aI K wo 720 wk', gd_aI K ma 720 mf'] ∧ ch_I mf' (ch_code w f)) (fun _ _ => False) := by
  refine gd_body (Nat.le_of_ble_eq_true rfl) (fun X hXl hin hE hX => ?_)
  have hC := ch_code_len w f
  refine gd_aload_n hX 0 dd_Mo_encode_0 rfl ?_
  refine gd_iconst hX 1 dd_Mo_encode_1 (v := 0) (by decide) ?_
  refine gd_put hX inC_Mo ty_Mo tyk_Mo nm_Mo 0 0 [gd_ob 5 h [.int 0, .ref va, .ref re, .ref fu, .ref wi, .ref ma, .ref wo, .ref fd, .int mm, .int wm, .int mn, .int pl], gd_aJ K va 64 vf, gd_aZ K fu 64 uf, gd_aI K wo 720 wk, gd_aI K ma 720 mf] 2 dd_Mo_encode_2 rfl rfl (by decide) kw_408 rfl rfl rfl (Nat.le_of_ble_eq_true rfl) rfl ?_
  refine gd_aload_n hX 5 dd_Mo_encode_5 rfl ?_
  refine gd_call hX (st := []) (wr := [gd_aI K ma 720 mf]) (ct_Mo_lay _ K h va re fu wi ma wo fd 0 mm wm mn pl w f vf uf hM wk) 6 dd_Mo_encode_6 (gd_nV hX (As := []) kw_477 kw_479 kw_9 (gd_sigOf (n := 0) kw_480 (by decide)) (by decide) 0 rfl rfl rfl rfl dd_Mo_encode_6) (gd_codeOf kw_480) (by decide) [0, 1, 2, 3] [4] rfl rfl rfl rfl rfl (by decide) (Nat.le_of_ble_eq_true rfl) (Nat.le_of_ble_eq_true rfl) (Nat.le_of_ble_eq_true rfl) (Nat.le_of_ble_eq_true rfl) (fun v9 w9 h9 => ?_) (fun E9 w9 q9 h9 => h9.elim)
  obtain ⟨rfl, wk1, rfl, hI⟩ := h9
  refine gd_wsp [gd_ob 5 h [.int 0, .ref va, .ref re, .ref fu, .ref wi, .ref ma, .ref wo, .ref fd, .int mm, .int (nI (ch_code w f).length), .int mn, .int pl], gd_aJ K va 64 vf, gd_aZ K fu 64 uf, gd_aI K wo 720 wk1, gd_aI K ma 720 mf] [1, 2, 3, 4, 0] rfl rfl rfl ?_
  show gd_W X K 0 0 [gd_ob 5 h [.int 0, .ref va, .ref re, .ref fu, .ref wi, .ref ma, .ref wo, .ref fd, .int mm, .int (nI (ch_code w f).length), .int mn, .int pl], gd_aJ K va 64 vf, gd_aZ K fu 64 uf, gd_aI K wo 720 wk1, gd_aI K ma 720 mf] [(0, .ref h)] [.int (nI (ch_runs w f 64).length)] 9
  have loop : ∀ (m i : Nat) (mf : Nat → Int32), m + i = (ch_code w f).length → (∀ t, t < i → mf t = nI ((ch_code w f).getD t 0)) → gd_W X K 0 0 [gd_ob 5 h [.int 0, .ref va, .ref re, .ref fu, .ref wi, .ref ma, .ref wo, .ref fd, .int (nI (ch_code w f).length), .int (nI (ch_code w f).length), .int mn, .int pl], gd_aJ K va 64 vf, gd_aZ K fu 64 uf, gd_aI K wo 720 wk1, gd_aI K ma 720 mf] [(0, .ref h), (1, .int (nI i))] [] 20 := by
    intro m
    induction m with
    | zero =>
      intro i mf hi hm
      refine gd_iload_n hX 20 dd_Mo_encode_20 rfl ?_
      refine gd_aload_n hX 21 dd_Mo_encode_21 rfl ?_
      refine gd_get hX inC_Mo 0 8 22 dd_Mo_encode_22 rfl rfl (by decide) kw_416 rfl ?_
      refine gd_icmp_ge hX 25 46 dd_Mo_encode_25 (by decide) (fun h1 => ?_) (fun h1 => ?_)
      · skip
        refine gd_aload_n hX 46 dd_Mo_encode_46 rfl ?_
        refine gd_get hX inC_Mo 0 8 47 dd_Mo_encode_47 rfl rfl (by decide) kw_416 rfl ?_
        exact gd_iret hX hE 50 dd_Mo_encode_50 ⟨rfl, wk1, mf, rfl, fun t ht => hm t (by omega)⟩
      · skip
        exact absurd ((nI_leI (by omega) (by omega)).mpr (by omega)) h1
    | succ m ih =>
      intro i mf hi hm
      refine gd_iload_n hX 20 dd_Mo_encode_20 rfl ?_
      refine gd_aload_n hX 21 dd_Mo_encode_21 rfl ?_
      refine gd_get hX inC_Mo 0 8 22 dd_Mo_encode_22 rfl rfl (by decide) kw_416 rfl ?_
      refine gd_icmp_ge hX 25 46 dd_Mo_encode_25 (by decide) (fun h1 => ?_) (fun h1 => ?_)
      · skip
        exact absurd ((nI_leI (by omega) (by omega)).mp h1) (by omega)
      · skip
        refine gd_aload_n hX 28 dd_Mo_encode_28 rfl ?_
        refine gd_get hX inC_Mo 0 5 29 dd_Mo_encode_29 rfl rfl (by decide) kw_413 rfl ?_
        refine gd_iload_n hX 32 dd_Mo_encode_32 rfl ?_
        refine gd_aload_n hX 33 dd_Mo_encode_33 rfl ?_
        refine gd_get hX inC_Mo 0 6 34 dd_Mo_encode_34 rfl rfl (by decide) kw_414 rfl ?_
        refine gd_iload_n hX 37 dd_Mo_encode_37 rfl ?_
        refine gd_iald hX 3 i 38 dd_Mo_encode_38 rfl rfl (by omega) (by decide) ?_
        refine gd_eqi (show (wk1 i : Int32) = nI ((ch_code w f).getD i 0) from hI i (by omega)) ?_
        refine gd_iast hX 4 i [gd_ob 5 h [.int 0, .ref va, .ref re, .ref fu, .ref wi, .ref ma, .ref wo, .ref fd, .int (nI (ch_code w f).length), .int (nI (ch_code w f).length), .int mn, .int pl], gd_aJ K va 64 vf, gd_aZ K fu 64 uf, gd_aI K wo 720 wk1, gd_aI K ma 720 (upd mf i (nI ((ch_code w f).getD i 0)))] 39 dd_Mo_encode_39 rfl rfl (by omega) (by decide) rfl ?_
        refine gd_iinc hX 1 [(1, .int (nI (i + 1))), (0, .ref h)] 40 dd_Mo_encode_40 rfl (gd_inc i) (by decide) rfl ?_
        refine gd_goto hX 43 20 dd_Mo_encode_43 (by decide) ?_
        refine gd_lvs [(0, .ref h), (1, .int (nI (i + 1)))] [1, 0] rfl ?_
        exact ih (i + 1) _ (by omega) (fun t ht => by by_cases e : t = i; { subst e; rw [pk_us] }; { rw [pk_un e]; exact hm t (by omega) })
  refine gd_pop hX 9 dd_Mo_encode_9 rfl ?_
  refine gd_aload_n hX 10 dd_Mo_encode_10 rfl ?_
  refine gd_aload_n hX 11 dd_Mo_encode_11 rfl ?_
  refine gd_get hX inC_Mo 0 9 12 dd_Mo_encode_12 rfl rfl (by decide) kw_417 rfl ?_
  refine gd_put hX inC_Mo ty_Mo tyk_Mo nm_Mo 0 8 [gd_ob 5 h [.int 0, .ref va, .ref re, .ref fu, .ref wi, .ref ma, .ref wo, .ref fd, .int (nI (ch_code w f).length), .int (nI (ch_code w f).length), .int mn, .int pl], gd_aJ K va 64 vf, gd_aZ K fu 64 uf, gd_aI K wo 720 wk1, gd_aI K ma 720 mf] 15 dd_Mo_encode_15 rfl rfl (by decide) kw_416 rfl rfl rfl (Nat.le_of_ble_eq_true rfl) rfl ?_
  refine gd_iconst hX 18 dd_Mo_encode_18 (v := 0) (by decide) ?_
  refine gd_eqi (show (0 : Int32) = nI 0 from rfl) ?_
  refine gd_istore_n hX [(1, .int (nI 0)), (0, .ref h)] 19 dd_Mo_encode_19 rfl (by decide) rfl ?_
  refine gd_lvs [(0, .ref h), (1, .int (nI 0))] [1, 0] rfl ?_
  exact loop _ 0 mf rfl (fun t ht => absurd ht (Nat.not_lt_zero _))
set_option maxRecDepth 100000 in
set_option maxHeartbeats 4000000 in
theorem ct_Mo_code (l : Launch) (K : gd_K) (h va re fu wi ma wo fd : Nat) (er mm wm mn pl : Int32) (L : List Nat) (mf : Nat → Int32) (k : Int32) (hL : L.length ≤ 712) (hI : ch_I mf L) : gd_M l yy_Mo_code bb_Mo_code 5 (some .long) [] 1 14 0 0 K [.ref h, .int k] [gd_ob 5 h [.int er, .ref va, .ref re, .ref fu, .ref wi, .ref ma, .ref wo, .ref fd, .int (nI L.length), .int wm, .int mn, .int pl], gd_aI K ma 720 mf] (fun v9 w1 => ((k < 0 ∨ nI ((L.length + 7) / 8) ≤ k) ∧ v9 = some (.long 0) ∧ w1 = [gd_ob 5 h [.int 1, .ref va, .ref re, .ref fu, .ref wi, .ref ma, .ref wo, .ref fd, .int (nI L.length), .int wm, .int mn, .int pl], gd_aI K ma 720 mf]) ∨ ∃ j, j < (L.length + 7) / 8 ∧ k = nI j ∧ v9 = some (.long (ch_wd L j 8)) ∧ w1 = [gd_ob 5 h [.int 0, .ref va, .ref re, .ref fu, .ref wi, .ref ma, .ref wo, .ref fd, .int (nI L.length), .int wm, .int mn, .int pl], gd_aI K ma 720 mf]) (fun _ _ => False) := by
  refine gd_body (Nat.le_of_ble_eq_true rfl) (fun X hXl hin hE hX => ?_)
  refine gd_aload_n hX 0 dd_Mo_code_0 rfl ?_
  refine gd_iload_n hX 1 dd_Mo_code_1 rfl ?_
  refine gd_if_lt hX 2 19 dd_Mo_code_2 (by decide) (fun h1 => ?_) (fun h1 => ?_)
  · skip
    refine gd_iconst hX 19 dd_Mo_code_19 (v := 1) (by decide) ?_
    refine gd_goto hX 20 24 dd_Mo_code_20 (by decide) ?_
    refine gd_eqi (show (1 : Int32) = (if true then 1 else 0) from rfl) ?_
    refine gd_iconst hX 24 dd_Mo_code_24 (v := 1) (by decide) ?_
    refine gd_call hX (st := []) (wr := [gd_aI K ma 720 mf]) (ct_Mo_fails _ K h va re fu wi ma wo fd er (nI L.length) wm mn pl true 1) 25 dd_Mo_code_25 (gd_nV hX (As := [.int (if true then 1 else 0), .int 1]) kw_457 kw_459 kw_8 (gd_sigOf (n := 2) kw_460 (by decide)) (by decide) 0 rfl rfl rfl rfl dd_Mo_code_25) (gd_codeOf kw_460) (by decide) [0] [1] rfl rfl rfl rfl rfl (by decide) (Nat.le_of_ble_eq_true rfl) (Nat.le_of_ble_eq_true rfl) (Nat.le_of_ble_eq_true rfl) (Nat.le_of_ble_eq_true rfl) (fun v9 w9 h9 => ?_) (fun E9 w9 q9 h9 => h9.elim)
    obtain ⟨rfl, rfl⟩ := h9
    refine gd_wsp [gd_ob 5 h [.int (if true then 1 else 0), .ref va, .ref re, .ref fu, .ref wi, .ref ma, .ref wo, .ref fd, .int (nI L.length), .int wm, .int mn, .int pl], gd_aI K ma 720 mf] [1, 0] rfl rfl rfl ?_
    show gd_W X K 0 0 [gd_ob 5 h [.int (if true then 1 else 0), .ref va, .ref re, .ref fu, .ref wi, .ref ma, .ref wo, .ref fd, .int (nI L.length), .int wm, .int mn, .int pl], gd_aI K ma 720 mf] [(0, .ref h), (1, .int k)] [.int (if true then 1 else 0)] 28
    refine gd_if_eq hX 28 33 dd_Mo_code_28 (by decide) (fun h9 => ?_) (fun h9 => ?_)
    · skip
      exact absurd (show (1 : Int32) = 0 from h9) (by decide)
    · skip
      show gd_W X K 0 0 [gd_ob 5 h [.int 1, .ref va, .ref re, .ref fu, .ref wi, .ref ma, .ref wo, .ref fd, .int (nI L.length), .int wm, .int mn, .int pl], gd_aI K ma 720 mf] [(0, .ref h), (1, .int k)] [] 31
      refine gd_lconst hX 31 dd_Mo_code_31 (v := 0) (by decide) ?_
      exact gd_lret hX hE 32 dd_Mo_code_32 (Or.inl ⟨Or.inl h1, rfl, rfl⟩)
  · skip
    refine gd_iload_n hX 5 dd_Mo_code_5 rfl ?_
    refine gd_aload_n hX 6 dd_Mo_code_6 rfl ?_
    refine gd_get hX inC_Mo 0 8 7 dd_Mo_code_7 rfl rfl (by decide) kw_416 rfl ?_
    refine gd_bipush hX 10 dd_Mo_code_10 (v := 7) (by decide) ?_
    refine gd_iadd hX 12 dd_Mo_code_12 ?_
    refine gd_eqi (show ((nI L.length) + 7 : Int32) = nI (L.length + 7) from nI_add _ 7) ?_
    refine gd_bipush hX 13 dd_Mo_code_13 (v := 8) (by decide) ?_
    refine gd_idiv hX 15 dd_Mo_code_15 (by decide) ?_
    refine gd_eqi (show ((nI (L.length + 7)) / 8 : Int32) = nI ((L.length + 7) / 8) from pk_div (d := 8) (by omega) (by decide) (by decide)) ?_
    refine gd_icmp_lt hX 16 23 dd_Mo_code_16 (by decide) (fun h2 => ?_) (fun h2 => ?_)
    · skip
      refine gd_iconst hX 23 dd_Mo_code_23 (v := 0) (by decide) ?_
      refine gd_eqi (show (0 : Int32) = (if false then 1 else 0) from rfl) ?_
      refine gd_iconst hX 24 dd_Mo_code_24 (v := 1) (by decide) ?_
      refine gd_call hX (st := []) (wr := [gd_aI K ma 720 mf]) (ct_Mo_fails _ K h va re fu wi ma wo fd er (nI L.length) wm mn pl false 1) 25 dd_Mo_code_25 (gd_nV hX (As := [.int (if false then 1 else 0), .int 1]) kw_457 kw_459 kw_8 (gd_sigOf (n := 2) kw_460 (by decide)) (by decide) 0 rfl rfl rfl rfl dd_Mo_code_25) (gd_codeOf kw_460) (by decide) [0] [1] rfl rfl rfl rfl rfl (by decide) (Nat.le_of_ble_eq_true rfl) (Nat.le_of_ble_eq_true rfl) (Nat.le_of_ble_eq_true rfl) (Nat.le_of_ble_eq_true rfl) (fun v9 w9 h9 => ?_) (fun E9 w9 q9 h9 => h9.elim)
      obtain ⟨rfl, rfl⟩ := h9
      refine gd_wsp [gd_ob 5 h [.int (if false then 1 else 0), .ref va, .ref re, .ref fu, .ref wi, .ref ma, .ref wo, .ref fd, .int (nI L.length), .int wm, .int mn, .int pl], gd_aI K ma 720 mf] [1, 0] rfl rfl rfl ?_
      show gd_W X K 0 0 [gd_ob 5 h [.int (if false then 1 else 0), .ref va, .ref re, .ref fu, .ref wi, .ref ma, .ref wo, .ref fd, .int (nI L.length), .int wm, .int mn, .int pl], gd_aI K ma 720 mf] [(0, .ref h), (1, .int k)] [.int (if false then 1 else 0)] 28
      refine gd_if_eq hX 28 33 dd_Mo_code_28 (by decide) (fun h9 => ?_) (fun h9 => ?_)
      · skip
        show gd_W X K 0 0 [gd_ob 5 h [.int 0, .ref va, .ref re, .ref fu, .ref wi, .ref ma, .ref wo, .ref fd, .int (nI L.length), .int wm, .int mn, .int pl], gd_aI K ma 720 mf] [(0, .ref h), (1, .int k)] [] 33
        obtain ⟨j, hj, rfl⟩ := ch_ix (by omega) h1 h2
        show gd_W X K 0 0 [gd_ob 5 h [.int 0, .ref va, .ref re, .ref fu, .ref wi, .ref ma, .ref wo, .ref fd, .int (nI L.length), .int wm, .int mn, .int pl], gd_aI K ma 720 mf] [(0, .ref h), (1, .int (nI j))] [] 33
        have loop : ∀ (m i : Nat), m + i = 8 → gd_W X K 0 0 [gd_ob 5 h [.int 0, .ref va, .ref re, .ref fu, .ref wi, .ref ma, .ref wo, .ref fd, .int (nI L.length), .int wm, .int mn, .int pl], gd_aI K ma 720 mf] [(0, .ref h), (1, .int (nI j)), (2, .long (ch_wd L j i)), (4, .int (nI (8 * j + i)))] [] 41 := by
          intro m
          induction m with
          | zero =>
            intro i hi
            obtain rfl : i = 8 := by omega
            refine gd_iload hX 41 dd_Mo_code_41 rfl ?_
            refine gd_bipush hX 43 dd_Mo_code_43 (v := 8) (by decide) ?_
            refine gd_iload_n hX 45 dd_Mo_code_45 rfl ?_
            refine gd_imul hX 46 dd_Mo_code_46 ?_
            refine gd_eqi (show (8 * (nI j) : Int32) = nI (8 * j) from by rw [show (8 : Int32) = nI 8 from rfl, pk_mul]) ?_
            refine gd_bipush hX 47 dd_Mo_code_47 (v := 8) (by decide) ?_
            refine gd_iadd hX 49 dd_Mo_code_49 ?_
            refine gd_eqi (show ((nI (8 * j)) + 8 : Int32) = nI (8 * j + 8) from nI_add _ 8) ?_
            refine gd_icmp_ge hX 50 86 dd_Mo_code_50 (by decide) (fun h3 => ?_) (fun h3 => ?_)
            · skip
              refine gd_lload_n hX 86 dd_Mo_code_86 rfl ?_
              exact gd_lret hX hE 87 dd_Mo_code_87 (Or.inr ⟨j, hj, rfl, rfl, rfl⟩)
            · skip
              exact absurd (Int32.le_refl _) h3
          | succ m ih =>
            intro i hi
            refine gd_iload hX 41 dd_Mo_code_41 rfl ?_
            refine gd_bipush hX 43 dd_Mo_code_43 (v := 8) (by decide) ?_
            refine gd_iload_n hX 45 dd_Mo_code_45 rfl ?_
            refine gd_imul hX 46 dd_Mo_code_46 ?_
            refine gd_eqi (show (8 * (nI j) : Int32) = nI (8 * j) from by rw [show (8 : Int32) = nI 8 from rfl, pk_mul]) ?_
            refine gd_bipush hX 47 dd_Mo_code_47 (v := 8) (by decide) ?_
            refine gd_iadd hX 49 dd_Mo_code_49 ?_
            refine gd_eqi (show ((nI (8 * j)) + 8 : Int32) = nI (8 * j + 8) from nI_add _ 8) ?_
            refine gd_icmp_ge hX 50 86 dd_Mo_code_50 (by decide) (fun h3 => ?_) (fun h3 => ?_)
            · skip
              exact absurd ((nI_leI (by omega) (by omega)).mp h3) (by omega)
            · skip
              refine gd_lload_n hX 53 dd_Mo_code_53 rfl ?_
              refine gd_bipush hX 54 dd_Mo_code_54 (v := 8) (by decide) ?_
              refine gd_lshl hX 56 dd_Mo_code_56 ?_
              refine gd_iload hX 57 dd_Mo_code_57 rfl ?_
              refine gd_aload_n hX 59 dd_Mo_code_59 rfl ?_
              refine gd_get hX inC_Mo 0 8 60 dd_Mo_code_60 rfl rfl (by decide) kw_416 rfl ?_
              refine gd_icmp_ge hX 63 76 dd_Mo_code_63 (by decide) (fun h4 => ?_) (fun h4 => ?_)
              · skip
                have h5 : L.length ≤ 8 * j + i := (nI_leI (by omega) (by omega)).mp h4
                refine gd_iconst hX 76 dd_Mo_code_76 (v := 0) (by decide) ?_
                refine gd_eqi (show (0 : Int32) = nI (L.getD (8 * j + i) 0) from by rw [ch_getD_out h5]; rfl) ?_
                refine gd_i2l hX 77 dd_Mo_code_77 ?_
                refine gd_lor hX 78 dd_Mo_code_78 ?_
                refine gd_eql (show (((ch_wd L j i) <<< ((8 : Int32).toInt64 &&& 63)) ||| ((nI (L.getD (8 * j + i) 0)).toInt64) : Int64) = ch_wd L j (i + 1) from rfl) ?_
                refine gd_lstore_n hX [(2, .long (ch_wd L j (i + 1))), (0, .ref h), (1, .int (nI j)), (4, .int (nI (8 * j + i)))] 79 dd_Mo_code_79 rfl (by decide) rfl ?_
                refine gd_iinc hX 3 [(4, .int (nI ((8 * j + i) + 1))), (2, .long (ch_wd L j (i + 1))), (0, .ref h), (1, .int (nI j))] 80 dd_Mo_code_80 rfl (gd_inc (8 * j + i)) (by decide) rfl ?_
                refine gd_goto hX 83 41 dd_Mo_code_83 (by decide) ?_
                show gd_W X K 0 0 [gd_ob 5 h [.int 0, .ref va, .ref re, .ref fu, .ref wi, .ref ma, .ref wo, .ref fd, .int (nI L.length), .int wm, .int mn, .int pl], gd_aI K ma 720 mf] [(4, .int (nI ((8 * j + i) + 1))), (2, .long (ch_wd L j (i + 1))), (0, .ref h), (1, .int (nI j))] [] 41
                refine gd_lvs [(0, .ref h), (1, .int (nI j)), (2, .long (ch_wd L j (i + 1))), (4, .int (nI ((8 * j + i) + 1)))] [2, 3, 1, 0] rfl ?_
                exact ih (i + 1) (by omega)
              · skip
                have h5 : 8 * j + i < L.length := Nat.lt_of_not_le (fun q => h4 ((nI_leI (by omega) (by omega)).mpr q))
                refine gd_aload_n hX 66 dd_Mo_code_66 rfl ?_
                refine gd_get hX inC_Mo 0 5 67 dd_Mo_code_67 rfl rfl (by decide) kw_413 rfl ?_
                refine gd_iload hX 70 dd_Mo_code_70 rfl ?_
                refine gd_iald hX 1 (8 * j + i) 72 dd_Mo_code_72 rfl rfl (by omega) (by decide) ?_
                refine gd_eqi (show (mf (8 * j + i) : Int32) = nI (L.getD (8 * j + i) 0) from hI _ h5) ?_
                refine gd_goto hX 73 77 dd_Mo_code_73 (by decide) ?_
                refine gd_i2l hX 77 dd_Mo_code_77 ?_
                refine gd_lor hX 78 dd_Mo_code_78 ?_
                refine gd_eql (show (((ch_wd L j i) <<< ((8 : Int32).toInt64 &&& 63)) ||| ((nI (L.getD (8 * j + i) 0)).toInt64) : Int64) = ch_wd L j (i + 1) from rfl) ?_
                refine gd_lstore_n hX [(2, .long (ch_wd L j (i + 1))), (0, .ref h), (1, .int (nI j)), (4, .int (nI (8 * j + i)))] 79 dd_Mo_code_79 rfl (by decide) rfl ?_
                refine gd_iinc hX 3 [(4, .int (nI ((8 * j + i) + 1))), (2, .long (ch_wd L j (i + 1))), (0, .ref h), (1, .int (nI j))] 80 dd_Mo_code_80 rfl (gd_inc (8 * j + i)) (by decide) rfl ?_
                refine gd_goto hX 83 41 dd_Mo_code_83 (by decide) ?_
                show gd_W X K 0 0 [gd_ob 5 h [.int 0, .ref va, .ref re, .ref fu, .ref wi, .ref ma, .ref wo, .ref fd, .int (nI L.length), .int wm, .int mn, .int pl], gd_aI K ma 720 mf] [(4, .int (nI ((8 * j + i) + 1))), (2, .long (ch_wd L j (i + 1))), (0, .ref h), (1, .int (nI j))] [] 41
                refine gd_lvs [(0, .ref h), (1, .int (nI j)), (2, .long (ch_wd L j (i + 1))), (4, .int (nI ((8 * j + i) + 1)))] [2, 3, 1, 0] rfl ?_
                exact ih (i + 1) (by omega)
        refine gd_lconst hX 33 dd_Mo_code_33 (v := 0) (by decide) ?_
        refine gd_eql (show (0 : Int64) = ch_wd L j 0 from rfl) ?_
        refine gd_lstore_n hX [(2, .long (ch_wd L j 0)), (0, .ref h), (1, .int (nI j))] 34 dd_Mo_code_34 rfl (by decide) rfl ?_
        refine gd_bipush hX 35 dd_Mo_code_35 (v := 8) (by decide) ?_
        refine gd_iload_n hX 37 dd_Mo_code_37 rfl ?_
        refine gd_imul hX 38 dd_Mo_code_38 ?_
        refine gd_eqi (show (8 * (nI j) : Int32) = nI (8 * j + 0) from by rw [show (8 : Int32) = nI 8 from rfl, pk_mul]; rfl) ?_
        refine gd_istore hX [(4, .int (nI (8 * j + 0))), (2, .long (ch_wd L j 0)), (0, .ref h), (1, .int (nI j))] 39 dd_Mo_code_39 (by decide) rfl ?_
        refine gd_lvs [(0, .ref h), (1, .int (nI j)), (2, .long (ch_wd L j 0)), (4, .int (nI (8 * j + 0)))] [2, 3, 1, 0] rfl ?_
        exact loop 8 0 rfl
      · skip
        exact absurd rfl h9
    · skip
      refine gd_iconst hX 19 dd_Mo_code_19 (v := 1) (by decide) ?_
      refine gd_goto hX 20 24 dd_Mo_code_20 (by decide) ?_
      refine gd_eqi (show (1 : Int32) = (if true then 1 else 0) from rfl) ?_
      refine gd_iconst hX 24 dd_Mo_code_24 (v := 1) (by decide) ?_
      refine gd_call hX (st := []) (wr := [gd_aI K ma 720 mf]) (ct_Mo_fails _ K h va re fu wi ma wo fd er (nI L.length) wm mn pl true 1) 25 dd_Mo_code_25 (gd_nV hX (As := [.int (if true then 1 else 0), .int 1]) kw_457 kw_459 kw_8 (gd_sigOf (n := 2) kw_460 (by decide)) (by decide) 0 rfl rfl rfl rfl dd_Mo_code_25) (gd_codeOf kw_460) (by decide) [0] [1] rfl rfl rfl rfl rfl (by decide) (Nat.le_of_ble_eq_true rfl) (Nat.le_of_ble_eq_true rfl) (Nat.le_of_ble_eq_true rfl) (Nat.le_of_ble_eq_true rfl) (fun v9 w9 h9 => ?_) (fun E9 w9 q9 h9 => h9.elim)
      obtain ⟨rfl, rfl⟩ := h9
      refine gd_wsp [gd_ob 5 h [.int (if true then 1 else 0), .ref va, .ref re, .ref fu, .ref wi, .ref ma, .ref wo, .ref fd, .int (nI L.length), .int wm, .int mn, .int pl], gd_aI K ma 720 mf] [1, 0] rfl rfl rfl ?_
      show gd_W X K 0 0 [gd_ob 5 h [.int (if true then 1 else 0), .ref va, .ref re, .ref fu, .ref wi, .ref ma, .ref wo, .ref fd, .int (nI L.length), .int wm, .int mn, .int pl], gd_aI K ma 720 mf] [(0, .ref h), (1, .int k)] [.int (if true then 1 else 0)] 28
      refine gd_if_eq hX 28 33 dd_Mo_code_28 (by decide) (fun h9 => ?_) (fun h9 => ?_)
      · skip
        exact absurd (show (1 : Int32) = 0 from h9) (by decide)
      · skip
        show gd_W X K 0 0 [gd_ob 5 h [.int 1, .ref va, .ref re, .ref fu, .ref wi, .ref ma, .ref wo, .ref fd, .int (nI L.length), .int wm, .int mn, .int pl], gd_aI K ma 720 mf] [(0, .ref h), (1, .int k)] [] 31
        refine gd_lconst hX 31 dd_Mo_code_31 (v := 0) (by decide) ?_
        exact gd_lret hX hE 32 dd_Mo_code_32 (Or.inl ⟨Or.inr (ch_nlt h2), rfl, rfl⟩)
set_option maxRecDepth 100000 in
set_option maxHeartbeats 4000000 in
theorem ct_Mo_feed (l : Launch) (K : gd_K) (h va re fu wi ma wo fd : Nat) (er mm wm mn pl : Int32) (L : List Nat) (ff : Nat → Int32) (x : Int64) (k : Int32) (hL : L.length ≤ 1000) (hI : ch_I ff L) : gd_M l yy_Mo_feed bb_Mo_feed 5 (some .int) [] 1 14 0 0 K [.ref h, .long x, .int k] [gd_ob 5 h [.int er, .ref va, .ref re, .ref fu, .ref wi, .ref ma, .ref wo, .ref fd, .int mm, .int wm, .int (nI L.length), .int pl], gd_aI K fd 1000 ff] (fun v9 w1 => ((k < 1 ∨ 8 < k) ∧ v9 = some (.int 0) ∧ w1 = [gd_ob 5 h [.int 1, .ref va, .ref re, .ref fu, .ref wi, .ref ma, .ref wo, .ref fd, .int mm, .int wm, .int (nI L.length), .int pl], gd_aI K fd 1000 ff]) ∨ (∃ n, 1 ≤ n ∧ n ≤ 8 ∧ k = nI n ∧ 1000 < L.length + n ∧ v9 = some (.int 0) ∧ w1 = [gd_ob 5 h [.int 2, .ref va, .ref re, .ref fu, .ref wi, .ref ma, .ref wo, .ref fd, .int mm, .int wm, .int (nI L.length), .int pl], gd_aI K fd 1000 ff]) ∨ ∃ n, 1 ≤ n ∧ n ≤ 8 ∧ k = nI n ∧ L.length + n ≤ 1000 ∧ v9 = some (.int (nI (L ++ (ch_fd x).take n).length)) ∧ ∃ ff', w1 = [gd_ob 5 h [.int 0, .ref va, .ref re, .ref fu, .ref wi, .ref ma, .ref wo, .ref fd, .int mm, .int wm, .int (nI (L ++ (ch_fd x).take n).length), .int pl], gd_aI K fd 1000 ff'] ∧ ch_I ff' (L ++ (ch_fd x).take n)) (fun _ _ => False) := by
  refine gd_body (Nat.le_of_ble_eq_true rfl) (fun X hXl hin hE hX => ?_)
  refine gd_aload_n hX 0 dd_Mo_feed_0 rfl ?_
  refine gd_iload_n hX 1 dd_Mo_feed_1 rfl ?_
  refine gd_iconst hX 2 dd_Mo_feed_2 (v := 1) (by decide) ?_
  refine gd_icmp_lt hX 3 12 dd_Mo_feed_3 (by decide) (fun h1 => ?_) (fun h1 => ?_)
  · skip
    refine gd_iconst hX 12 dd_Mo_feed_12 (v := 1) (by decide) ?_
    refine gd_goto hX 13 17 dd_Mo_feed_13 (by decide) ?_
    refine gd_eqi (show (1 : Int32) = (if true then 1 else 0) from rfl) ?_
    refine gd_iconst hX 17 dd_Mo_feed_17 (v := 1) (by decide) ?_
    refine gd_call hX (st := []) (wr := [gd_aI K fd 1000 ff]) (ct_Mo_fails _ K h va re fu wi ma wo fd er mm wm (nI L.length) pl true 1) 18 dd_Mo_feed_18 (gd_nV hX (As := [.int (if true then 1 else 0), .int 1]) kw_457 kw_459 kw_8 (gd_sigOf (n := 2) kw_460 (by decide)) (by decide) 0 rfl rfl rfl rfl dd_Mo_feed_18) (gd_codeOf kw_460) (by decide) [0] [1] rfl rfl rfl rfl rfl (by decide) (Nat.le_of_ble_eq_true rfl) (Nat.le_of_ble_eq_true rfl) (Nat.le_of_ble_eq_true rfl) (Nat.le_of_ble_eq_true rfl) (fun v9 w9 h9 => ?_) (fun E9 w9 q9 h9 => h9.elim)
    obtain ⟨rfl, rfl⟩ := h9
    refine gd_wsp [gd_ob 5 h [.int (if true then 1 else 0), .ref va, .ref re, .ref fu, .ref wi, .ref ma, .ref wo, .ref fd, .int mm, .int wm, .int (nI L.length), .int pl], gd_aI K fd 1000 ff] [1, 0] rfl rfl rfl ?_
    show gd_W X K 0 0 [gd_ob 5 h [.int (if true then 1 else 0), .ref va, .ref re, .ref fu, .ref wi, .ref ma, .ref wo, .ref fd, .int mm, .int wm, .int (nI L.length), .int pl], gd_aI K fd 1000 ff] [(0, .ref h), (1, .long x), (3, .int k)] [.int (if true then 1 else 0)] 21
    refine gd_if_eq hX 21 26 dd_Mo_feed_21 (by decide) (fun h9 => ?_) (fun h9 => ?_)
    · skip
      exact absurd (show (1 : Int32) = 0 from h9) (by decide)
    · skip
      show gd_W X K 0 0 [gd_ob 5 h [.int 1, .ref va, .ref re, .ref fu, .ref wi, .ref ma, .ref wo, .ref fd, .int mm, .int wm, .int (nI L.length), .int pl], gd_aI K fd 1000 ff] [(0, .ref h), (1, .long x), (3, .int k)] [] 24
      refine gd_iconst hX 24 dd_Mo_feed_24 (v := 0) (by decide) ?_
      exact gd_iret hX hE 25 dd_Mo_feed_25 (Or.inl ⟨Or.inl h1, rfl, rfl⟩)
  · skip
    refine gd_iload_n hX 6 dd_Mo_feed_6 rfl ?_
    refine gd_bipush hX 7 dd_Mo_feed_7 (v := 8) (by decide) ?_
    refine gd_icmp_le hX 9 16 dd_Mo_feed_9 (by decide) (fun h2 => ?_) (fun h2 => ?_)
    · skip
      obtain ⟨n, hn, rfl⟩ := nI_of (x := k) (fun q => h1 (Int32.lt_of_lt_of_le q (by decide)))
      have hn1 : 1 ≤ n := Nat.le_of_not_lt (fun q => h1 ((nI_ltI (b := 1) hn (by decide)).mpr q))
      have hn8 : n ≤ 8 := (nI_leI (b := 8) hn (by decide)).mp h2
      refine gd_iconst hX 16 dd_Mo_feed_16 (v := 0) (by decide) ?_
      refine gd_eqi (show (0 : Int32) = (if false then 1 else 0) from rfl) ?_
      refine gd_iconst hX 17 dd_Mo_feed_17 (v := 1) (by decide) ?_
      refine gd_call hX (st := []) (wr := [gd_aI K fd 1000 ff]) (ct_Mo_fails _ K h va re fu wi ma wo fd er mm wm (nI L.length) pl false 1) 18 dd_Mo_feed_18 (gd_nV hX (As := [.int (if false then 1 else 0), .int 1]) kw_457 kw_459 kw_8 (gd_sigOf (n := 2) kw_460 (by decide)) (by decide) 0 rfl rfl rfl rfl dd_Mo_feed_18) (gd_codeOf kw_460) (by decide) [0] [1] rfl rfl rfl rfl rfl (by decide) (Nat.le_of_ble_eq_true rfl) (Nat.le_of_ble_eq_true rfl) (Nat.le_of_ble_eq_true rfl) (Nat.le_of_ble_eq_true rfl) (fun v9 w9 h9 => ?_) (fun E9 w9 q9 h9 => h9.elim)
      obtain ⟨rfl, rfl⟩ := h9
      refine gd_wsp [gd_ob 5 h [.int (if false then 1 else 0), .ref va, .ref re, .ref fu, .ref wi, .ref ma, .ref wo, .ref fd, .int mm, .int wm, .int (nI L.length), .int pl], gd_aI K fd 1000 ff] [1, 0] rfl rfl rfl ?_
      show gd_W X K 0 0 [gd_ob 5 h [.int (if false then 1 else 0), .ref va, .ref re, .ref fu, .ref wi, .ref ma, .ref wo, .ref fd, .int mm, .int wm, .int (nI L.length), .int pl], gd_aI K fd 1000 ff] [(0, .ref h), (1, .long x), (3, .int (nI n))] [.int (if false then 1 else 0)] 21
      refine gd_if_eq hX 21 26 dd_Mo_feed_21 (by decide) (fun h9 => ?_) (fun h9 => ?_)
      · skip
        show gd_W X K 0 0 [gd_ob 5 h [.int 0, .ref va, .ref re, .ref fu, .ref wi, .ref ma, .ref wo, .ref fd, .int mm, .int wm, .int (nI L.length), .int pl], gd_aI K fd 1000 ff] [(0, .ref h), (1, .long x), (3, .int (nI n))] [] 26
        refine gd_aload_n hX 26 dd_Mo_feed_26 rfl ?_
        refine gd_aload_n hX 27 dd_Mo_feed_27 rfl ?_
        refine gd_get hX inC_Mo 0 10 28 dd_Mo_feed_28 rfl rfl (by decide) kw_418 rfl ?_
        refine gd_iload_n hX 31 dd_Mo_feed_31 rfl ?_
        refine gd_iadd hX 32 dd_Mo_feed_32 ?_
        refine gd_eqi (show ((nI L.length) + (nI n) : Int32) = nI (L.length + n) from nI_add _ _) ?_
        refine gd_sipush hX 33 dd_Mo_feed_33 (v := 1000) (by decide) ?_
        refine gd_icmp_le hX 36 43 dd_Mo_feed_36 (by decide) (fun h3 => ?_) (fun h3 => ?_)
        · skip
          have hle : L.length + n ≤ 1000 := (nI_leI (b := 1000) (by omega) (by decide)).mp h3
          refine gd_iconst hX 43 dd_Mo_feed_43 (v := 0) (by decide) ?_
          refine gd_eqi (show (0 : Int32) = (if false then 1 else 0) from rfl) ?_
          refine gd_iconst hX 44 dd_Mo_feed_44 (v := 2) (by decide) ?_
          refine gd_call hX (st := []) (wr := [gd_aI K fd 1000 ff]) (ct_Mo_fails _ K h va re fu wi ma wo fd 0 mm wm (nI L.length) pl false 2) 45 dd_Mo_feed_45 (gd_nV hX (As := [.int (if false then 1 else 0), .int 2]) kw_457 kw_459 kw_8 (gd_sigOf (n := 2) kw_460 (by decide)) (by decide) 0 rfl rfl rfl rfl dd_Mo_feed_45) (gd_codeOf kw_460) (by decide) [0] [1] rfl rfl rfl rfl rfl (by decide) (Nat.le_of_ble_eq_true rfl) (Nat.le_of_ble_eq_true rfl) (Nat.le_of_ble_eq_true rfl) (Nat.le_of_ble_eq_true rfl) (fun v9 w9 h9 => ?_) (fun E9 w9 q9 h9 => h9.elim)
          obtain ⟨rfl, rfl⟩ := h9
          refine gd_wsp [gd_ob 5 h [.int (if false then 2 else 0), .ref va, .ref re, .ref fu, .ref wi, .ref ma, .ref wo, .ref fd, .int mm, .int wm, .int (nI L.length), .int pl], gd_aI K fd 1000 ff] [1, 0] rfl rfl rfl ?_
          show gd_W X K 0 0 [gd_ob 5 h [.int (if false then 2 else 0), .ref va, .ref re, .ref fu, .ref wi, .ref ma, .ref wo, .ref fd, .int mm, .int wm, .int (nI L.length), .int pl], gd_aI K fd 1000 ff] [(0, .ref h), (1, .long x), (3, .int (nI n))] [.int (if false then 1 else 0)] 48
          refine gd_if_eq hX 48 53 dd_Mo_feed_48 (by decide) (fun h9 => ?_) (fun h9 => ?_)
          · skip
            show gd_W X K 0 0 [gd_ob 5 h [.int 0, .ref va, .ref re, .ref fu, .ref wi, .ref ma, .ref wo, .ref fd, .int mm, .int wm, .int (nI L.length), .int pl], gd_aI K fd 1000 ff] [(0, .ref h), (1, .long x), (3, .int (nI n))] [] 53
            have hfl := ch_fd_len x
            have loop : ∀ (m i : Nat) (ff : Nat → Int32), m + i = n → ch_I ff (L ++ (ch_fd x).take i) → gd_W X K 0 0 [gd_ob 5 h [.int 0, .ref va, .ref re, .ref fu, .ref wi, .ref ma, .ref wo, .ref fd, .int mm, .int wm, .int (nI (L ++ (ch_fd x).take i).length), .int pl], gd_aI K fd 1000 ff] [(0, .ref h), (1, .long x), (3, .int (nI n)), (4, .int (nI i))] [] 56 := by
              intro m
              induction m with
              | zero =>
                intro i ff hi hB
                obtain rfl : i = n := by omega
                refine gd_iload hX 56 dd_Mo_feed_56 rfl ?_
                refine gd_iload_n hX 58 dd_Mo_feed_58 rfl ?_
                refine gd_icmp_ge hX 59 99 dd_Mo_feed_59 (by decide) (fun h4 => ?_) (fun h4 => ?_)
                · skip
                  refine gd_aload_n hX 99 dd_Mo_feed_99 rfl ?_
                  refine gd_get hX inC_Mo 0 10 100 dd_Mo_feed_100 rfl rfl (by decide) kw_418 rfl ?_
                  exact gd_iret hX hE 103 dd_Mo_feed_103 (Or.inr (Or.inr ⟨i, hn1, hn8, rfl, hle, rfl, ff, rfl, hB⟩))
                · skip
                  exact absurd (Int32.le_refl _) h4
              | succ m ih =>
                intro i ff hi hB
                have hlen : (L ++ (ch_fd x).take i).length = L.length + i := by rw [List.length_append, List.length_take]; omega
                refine gd_iload hX 56 dd_Mo_feed_56 rfl ?_
                refine gd_iload_n hX 58 dd_Mo_feed_58 rfl ?_
                refine gd_icmp_ge hX 59 99 dd_Mo_feed_59 (by decide) (fun h4 => ?_) (fun h4 => ?_)
                · skip
                  exact absurd ((nI_leI (by omega) (by omega)).mp h4) (by omega)
                · skip
                  refine gd_aload_n hX 62 dd_Mo_feed_62 rfl ?_
                  refine gd_get hX inC_Mo 0 7 63 dd_Mo_feed_63 rfl rfl (by decide) kw_415 rfl ?_
                  refine gd_aload_n hX 66 dd_Mo_feed_66 rfl ?_
                  refine gd_dup hX 67 dd_Mo_feed_67 rfl ?_
                  refine gd_get hX inC_Mo 0 10 68 dd_Mo_feed_68 rfl rfl (by decide) kw_418 rfl ?_
                  refine gd_dup_x1 hX 71 dd_Mo_feed_71 rfl rfl ?_
                  refine gd_iconst hX 72 dd_Mo_feed_72 (v := 1) (by decide) ?_
                  refine gd_iadd hX 73 dd_Mo_feed_73 ?_
                  refine gd_eqi (show ((nI (L ++ (ch_fd x).take i).length) + 1 : Int32) = nI ((L ++ (ch_fd x).take i).length + 1) from nI_1 _) ?_
                  refine gd_put hX inC_Mo ty_Mo tyk_Mo nm_Mo 0 10 [gd_ob 5 h [.int 0, .ref va, .ref re, .ref fu, .ref wi, .ref ma, .ref wo, .ref fd, .int mm, .int wm, .int (nI ((L ++ (ch_fd x).take i).length + 1)), .int pl], gd_aI K fd 1000 ff] 74 dd_Mo_feed_74 rfl rfl (by decide) kw_418 rfl rfl rfl (Nat.le_of_ble_eq_true rfl) rfl ?_
                  refine gd_lload_n hX 77 dd_Mo_feed_77 rfl ?_
                  refine gd_bipush hX 78 dd_Mo_feed_78 (v := 56) (by decide) ?_
                  refine gd_bipush hX 80 dd_Mo_feed_80 (v := 8) (by decide) ?_
                  refine gd_iload hX 82 dd_Mo_feed_82 rfl ?_
                  refine gd_imul hX 84 dd_Mo_feed_84 ?_
                  refine gd_isub hX 85 dd_Mo_feed_85 ?_
                  refine gd_eqi (show (56 - (8 * (nI i)) : Int32) = nI (56 - 8 * i) from by rw [show (8 : Int32) = nI 8 from rfl, show (56 : Int32) = nI 56 from rfl, pk_mul, pk_sub (by omega)]) ?_
                  refine gd_lushr hX 86 dd_Mo_feed_86 ?_
                  refine gd_l2i hX 87 dd_Mo_feed_87 ?_
                  refine gd_sipush hX 88 dd_Mo_feed_88 (v := 255) (by decide) ?_
                  refine gd_iand hX 91 dd_Mo_feed_91 ?_
                  refine gd_eqi (show ((((x.toUInt64 >>> ((nI (56 - 8 * i)).toInt64.toUInt64 &&& Int64.toUInt64 63)).toInt64).toInt32) &&& 255 : Int32) = nI (uN x / 2 ^ (56 - 8 * i) % 256) from by rw [ch_low, uN_sk x (by omega)]) ?_
                  refine gd_iast hX 1 ((L ++ (ch_fd x).take i).length) [gd_ob 5 h [.int 0, .ref va, .ref re, .ref fu, .ref wi, .ref ma, .ref wo, .ref fd, .int mm, .int wm, .int (nI ((L ++ (ch_fd x).take i).length + 1)), .int pl], gd_aI K fd 1000 (upd ff ((L ++ (ch_fd x).take i).length) (nI (uN x / 2 ^ (56 - 8 * i) % 256)))] 92 dd_Mo_feed_92 rfl rfl (by omega) (by decide) rfl ?_
                  have hI2 := ch_I_add (x := nI (uN x / 2 ^ (56 - 8 * i) % 256)) hB rfl
                  have e9 : (L ++ (ch_fd x).take i) ++ [uN x / 2 ^ (56 - 8 * i) % 256] = (L ++ (ch_fd x).take (i + 1)) := by rw [List.append_assoc, ← ch_fd_step x (by omega)]
                  have e10 : nI ((L ++ (ch_fd x).take i).length + 1) = nI (L ++ (ch_fd x).take (i + 1)).length := by rw [← e9, ch_len1]
                  rw [e9] at hI2
                  rw [e10]
                  refine gd_iinc hX 3 [(4, .int (nI (i + 1))), (0, .ref h), (1, .long x), (3, .int (nI n))] 93 dd_Mo_feed_93 rfl (gd_inc i) (by decide) rfl ?_
                  refine gd_goto hX 96 56 dd_Mo_feed_96 (by decide) ?_
                  refine gd_lvs [(0, .ref h), (1, .long x), (3, .int (nI n)), (4, .int (nI (i + 1)))] [1, 2, 3, 0] rfl ?_
                  exact ih (i + 1) _ (by omega) hI2
            refine gd_iconst hX 53 dd_Mo_feed_53 (v := 0) (by decide) ?_
            refine gd_eqi (show (0 : Int32) = nI 0 from rfl) ?_
            refine gd_istore hX [(4, .int (nI 0)), (0, .ref h), (1, .long x), (3, .int (nI n))] 54 dd_Mo_feed_54 (by decide) rfl ?_
            refine gd_lvs [(0, .ref h), (1, .long x), (3, .int (nI n)), (4, .int (nI 0))] [1, 2, 3, 0] rfl ?_
            have e0 : L = (L ++ (ch_fd x).take 0) := by simp
            rw [e0] at hI
            have h9 := loop n 0 ff rfl hI
            rw [← e0] at h9
            exact h9
          · skip
            exact absurd rfl h9
        · skip
          have hle : 1000 < L.length + n := Nat.lt_of_not_le (fun q => h3 ((nI_leI (b := 1000) (by omega) (by decide)).mpr q))
          refine gd_iconst hX 39 dd_Mo_feed_39 (v := 1) (by decide) ?_
          refine gd_goto hX 40 44 dd_Mo_feed_40 (by decide) ?_
          refine gd_eqi (show (1 : Int32) = (if true then 1 else 0) from rfl) ?_
          refine gd_iconst hX 44 dd_Mo_feed_44 (v := 2) (by decide) ?_
          refine gd_call hX (st := []) (wr := [gd_aI K fd 1000 ff]) (ct_Mo_fails _ K h va re fu wi ma wo fd 0 mm wm (nI L.length) pl true 2) 45 dd_Mo_feed_45 (gd_nV hX (As := [.int (if true then 1 else 0), .int 2]) kw_457 kw_459 kw_8 (gd_sigOf (n := 2) kw_460 (by decide)) (by decide) 0 rfl rfl rfl rfl dd_Mo_feed_45) (gd_codeOf kw_460) (by decide) [0] [1] rfl rfl rfl rfl rfl (by decide) (Nat.le_of_ble_eq_true rfl) (Nat.le_of_ble_eq_true rfl) (Nat.le_of_ble_eq_true rfl) (Nat.le_of_ble_eq_true rfl) (fun v9 w9 h9 => ?_) (fun E9 w9 q9 h9 => h9.elim)
          obtain ⟨rfl, rfl⟩ := h9
          refine gd_wsp [gd_ob 5 h [.int (if true then 2 else 0), .ref va, .ref re, .ref fu, .ref wi, .ref ma, .ref wo, .ref fd, .int mm, .int wm, .int (nI L.length), .int pl], gd_aI K fd 1000 ff] [1, 0] rfl rfl rfl ?_
          show gd_W X K 0 0 [gd_ob 5 h [.int (if true then 2 else 0), .ref va, .ref re, .ref fu, .ref wi, .ref ma, .ref wo, .ref fd, .int mm, .int wm, .int (nI L.length), .int pl], gd_aI K fd 1000 ff] [(0, .ref h), (1, .long x), (3, .int (nI n))] [.int (if true then 1 else 0)] 48
          refine gd_if_eq hX 48 53 dd_Mo_feed_48 (by decide) (fun h9 => ?_) (fun h9 => ?_)
          · skip
            exact absurd (show (1 : Int32) = 0 from h9) (by decide)
          · skip
            show gd_W X K 0 0 [gd_ob 5 h [.int 2, .ref va, .ref re, .ref fu, .ref wi, .ref ma, .ref wo, .ref fd, .int mm, .int wm, .int (nI L.length), .int pl], gd_aI K fd 1000 ff] [(0, .ref h), (1, .long x), (3, .int (nI n))] [] 51
            refine gd_iconst hX 51 dd_Mo_feed_51 (v := 0) (by decide) ?_
            exact gd_iret hX hE 52 dd_Mo_feed_52 (Or.inr (Or.inl ⟨n, hn1, hn8, rfl, hle, rfl, rfl⟩))
      · skip
        exact absurd rfl h9
    · skip
      refine gd_iconst hX 12 dd_Mo_feed_12 (v := 1) (by decide) ?_
      refine gd_goto hX 13 17 dd_Mo_feed_13 (by decide) ?_
      refine gd_eqi (show (1 : Int32) = (if true then 1 else 0) from rfl) ?_
      refine gd_iconst hX 17 dd_Mo_feed_17 (v := 1) (by decide) ?_
      refine gd_call hX (st := []) (wr := [gd_aI K fd 1000 ff]) (ct_Mo_fails _ K h va re fu wi ma wo fd er mm wm (nI L.length) pl true 1) 18 dd_Mo_feed_18 (gd_nV hX (As := [.int (if true then 1 else 0), .int 1]) kw_457 kw_459 kw_8 (gd_sigOf (n := 2) kw_460 (by decide)) (by decide) 0 rfl rfl rfl rfl dd_Mo_feed_18) (gd_codeOf kw_460) (by decide) [0] [1] rfl rfl rfl rfl rfl (by decide) (Nat.le_of_ble_eq_true rfl) (Nat.le_of_ble_eq_true rfl) (Nat.le_of_ble_eq_true rfl) (Nat.le_of_ble_eq_true rfl) (fun v9 w9 h9 => ?_) (fun E9 w9 q9 h9 => h9.elim)
      obtain ⟨rfl, rfl⟩ := h9
      refine gd_wsp [gd_ob 5 h [.int (if true then 1 else 0), .ref va, .ref re, .ref fu, .ref wi, .ref ma, .ref wo, .ref fd, .int mm, .int wm, .int (nI L.length), .int pl], gd_aI K fd 1000 ff] [1, 0] rfl rfl rfl ?_
      show gd_W X K 0 0 [gd_ob 5 h [.int (if true then 1 else 0), .ref va, .ref re, .ref fu, .ref wi, .ref ma, .ref wo, .ref fd, .int mm, .int wm, .int (nI L.length), .int pl], gd_aI K fd 1000 ff] [(0, .ref h), (1, .long x), (3, .int k)] [.int (if true then 1 else 0)] 21
      refine gd_if_eq hX 21 26 dd_Mo_feed_21 (by decide) (fun h9 => ?_) (fun h9 => ?_)
      · skip
        exact absurd (show (1 : Int32) = 0 from h9) (by decide)
      · skip
        show gd_W X K 0 0 [gd_ob 5 h [.int 1, .ref va, .ref re, .ref fu, .ref wi, .ref ma, .ref wo, .ref fd, .int mm, .int wm, .int (nI L.length), .int pl], gd_aI K fd 1000 ff] [(0, .ref h), (1, .long x), (3, .int k)] [] 24
        refine gd_iconst hX 24 dd_Mo_feed_24 (v := 0) (by decide) ?_
        exact gd_iret hX hE 25 dd_Mo_feed_25 (Or.inl ⟨Or.inr (ch_nle h2), rfl, rfl⟩)
set_option maxRecDepth 100000 in
set_option maxHeartbeats 4000000 in
theorem ct_Mo_wrong (l : Launch) (K : gd_K) (h va re fu wi ma wo fd : Nat) (er mm wm mn pl : Int32) : gd_M l yy_Mo_wrong bb_Mo_wrong 1 (some .int) [] 0 0 0 0 K [.ref h] [gd_ob 5 h [.int er, .ref va, .ref re, .ref fu, .ref wi, .ref ma, .ref wo, .ref fd, .int mm, .int wm, .int mn, .int pl]] (fun v w1 => v = some (.int pl) ∧ w1 = [gd_ob 5 h [.int 0, .ref va, .ref re, .ref fu, .ref wi, .ref ma, .ref wo, .ref fd, .int mm, .int wm, .int mn, .int pl]]) (fun _ _ => False) := by
  refine gd_body (Nat.le_of_ble_eq_true rfl) (fun X hXl hin hE hX => ?_)
  refine gd_aload_n hX 0 dd_Mo_wrong_0 rfl ?_
  refine gd_iconst hX 1 dd_Mo_wrong_1 (v := 0) (by decide) ?_
  refine gd_put hX inC_Mo ty_Mo tyk_Mo nm_Mo 0 0 [gd_ob 5 h [.int 0, .ref va, .ref re, .ref fu, .ref wi, .ref ma, .ref wo, .ref fd, .int mm, .int wm, .int mn, .int pl]] 2 dd_Mo_wrong_2 rfl rfl (by decide) kw_408 rfl rfl rfl (Nat.le_of_ble_eq_true rfl) rfl ?_
  refine gd_aload_n hX 5 dd_Mo_wrong_5 rfl ?_
  refine gd_get hX inC_Mo 0 11 6 dd_Mo_wrong_6 rfl rfl (by decide) kw_419 rfl ?_
  exact gd_iret hX hE 9 dd_Mo_wrong_9 ⟨rfl, rfl⟩
set_option maxRecDepth 100000 in
set_option maxHeartbeats 4000000 in
theorem ct_Mo_count (l : Launch) (K : gd_K) (h va re fu wi ma wo fd : Nat) (er mm wm mn pl : Int32) (w : Int64) (f vf : Nat → Int64) (uf : Nat → Int32) (hM : ch_M w f vf uf) (wk : Nat → Int32) (Lf Lm : List Nat) (k : Int32) : gd_M l yy_Mo_count bb_Mo_count 5 (some .int) [] 2 38 0 0 K [.ref h, .int k] [gd_ob 5 h [.int er, .ref va, .ref re, .ref fu, .ref wi, .ref ma, .ref wo, .ref fd, .int (nI Lm.length), .int wm, .int (nI Lf.length), .int pl], gd_aJ K va 64 vf, gd_aZ K fu 64 uf, gd_aI K wo 720 wk] (fun v9 w1 => ((k < 0 ∨ 4 < k) ∧ v9 = some (.int 0) ∧ w1 = [gd_ob 5 h [.int 1, .ref va, .ref re, .ref fu, .ref wi, .ref ma, .ref wo, .ref fd, .int (nI Lm.length), .int wm, .int (nI Lf.length), .int pl], gd_aJ K va 64 vf, gd_aZ K fu 64 uf, gd_aI K wo 720 wk]) ∨ ∃ j, j < 5 ∧ k = nI j ∧ v9 = some (.int (nI (ch_ct w f Lf Lm j))) ∧ ∃ wk', w1 = [gd_ob 5 h [.int 0, .ref va, .ref re, .ref fu, .ref wi, .ref ma, .ref wo, .ref fd, .int (nI Lm.length), .int (nI (ch_code w f).length), .int (nI Lf.length), .int pl], gd_aJ K va 64 vf, gd_aZ K fu 64 uf, gd_aI K wo 720 wk']) (fun _ _ => False) := by
  refine gd_body (Nat.le_of_ble_eq_true rfl) (fun X hXl hin hE hX => ?_)
  refine gd_aload_n hX 0 dd_Mo_count_0 rfl ?_
  refine gd_iload_n hX 1 dd_Mo_count_1 rfl ?_
  refine gd_if_lt hX 2 10 dd_Mo_count_2 (by decide) (fun h1 => ?_) (fun h1 => ?_)
  · skip
    refine gd_iconst hX 10 dd_Mo_count_10 (v := 1) (by decide) ?_
    refine gd_goto hX 11 15 dd_Mo_count_11 (by decide) ?_
    refine gd_eqi (show (1 : Int32) = (if true then 1 else 0) from rfl) ?_
    refine gd_iconst hX 15 dd_Mo_count_15 (v := 1) (by decide) ?_
    refine gd_call hX (st := []) (wr := [gd_aJ K va 64 vf, gd_aZ K fu 64 uf, gd_aI K wo 720 wk]) (ct_Mo_fails _ K h va re fu wi ma wo fd er (nI Lm.length) wm (nI Lf.length) pl true 1) 16 dd_Mo_count_16 (gd_nV hX (As := [.int (if true then 1 else 0), .int 1]) kw_457 kw_459 kw_8 (gd_sigOf (n := 2) kw_460 (by decide)) (by decide) 0 rfl rfl rfl rfl dd_Mo_count_16) (gd_codeOf kw_460) (by decide) [0] [1, 2, 3] rfl rfl rfl rfl rfl (by decide) (Nat.le_of_ble_eq_true rfl) (Nat.le_of_ble_eq_true rfl) (Nat.le_of_ble_eq_true rfl) (Nat.le_of_ble_eq_true rfl) (fun v9 w9 h9 => ?_) (fun E9 w9 q9 h9 => h9.elim)
    obtain ⟨rfl, rfl⟩ := h9
    refine gd_wsp [gd_ob 5 h [.int (if true then 1 else 0), .ref va, .ref re, .ref fu, .ref wi, .ref ma, .ref wo, .ref fd, .int (nI Lm.length), .int wm, .int (nI Lf.length), .int pl], gd_aJ K va 64 vf, gd_aZ K fu 64 uf, gd_aI K wo 720 wk] [3, 0, 1, 2] rfl rfl rfl ?_
    show gd_W X K 0 0 [gd_ob 5 h [.int (if true then 1 else 0), .ref va, .ref re, .ref fu, .ref wi, .ref ma, .ref wo, .ref fd, .int (nI Lm.length), .int wm, .int (nI Lf.length), .int pl], gd_aJ K va 64 vf, gd_aZ K fu 64 uf, gd_aI K wo 720 wk] [(0, .ref h), (1, .int k)] [.int (if true then 1 else 0)] 19
    refine gd_if_eq hX 19 24 dd_Mo_count_19 (by decide) (fun h9 => ?_) (fun h9 => ?_)
    · skip
      exact absurd (show (1 : Int32) = 0 from h9) (by decide)
    · skip
      show gd_W X K 0 0 [gd_ob 5 h [.int 1, .ref va, .ref re, .ref fu, .ref wi, .ref ma, .ref wo, .ref fd, .int (nI Lm.length), .int wm, .int (nI Lf.length), .int pl], gd_aJ K va 64 vf, gd_aZ K fu 64 uf, gd_aI K wo 720 wk] [(0, .ref h), (1, .int k)] [] 22
      refine gd_iconst hX 22 dd_Mo_count_22 (v := 0) (by decide) ?_
      exact gd_iret hX hE 23 dd_Mo_count_23 (Or.inl ⟨Or.inl h1, rfl, rfl⟩)
  · skip
    refine gd_iload_n hX 5 dd_Mo_count_5 rfl ?_
    refine gd_iconst hX 6 dd_Mo_count_6 (v := 4) (by decide) ?_
    refine gd_icmp_le hX 7 14 dd_Mo_count_7 (by decide) (fun h2 => ?_) (fun h2 => ?_)
    · skip
      obtain ⟨j, hj5, rfl⟩ : ∃ j, j < 5 ∧ k = nI j := by
        obtain ⟨j, hj, rfl⟩ := nI_of (x := k) h1
        have := (nI_leI (b := 4) hj (by decide)).mp h2
        exact ⟨j, by omega, rfl⟩
      refine gd_iconst hX 14 dd_Mo_count_14 (v := 0) (by decide) ?_
      refine gd_eqi (show (0 : Int32) = (if false then 1 else 0) from rfl) ?_
      refine gd_iconst hX 15 dd_Mo_count_15 (v := 1) (by decide) ?_
      refine gd_call hX (st := []) (wr := [gd_aJ K va 64 vf, gd_aZ K fu 64 uf, gd_aI K wo 720 wk]) (ct_Mo_fails _ K h va re fu wi ma wo fd er (nI Lm.length) wm (nI Lf.length) pl false 1) 16 dd_Mo_count_16 (gd_nV hX (As := [.int (if false then 1 else 0), .int 1]) kw_457 kw_459 kw_8 (gd_sigOf (n := 2) kw_460 (by decide)) (by decide) 0 rfl rfl rfl rfl dd_Mo_count_16) (gd_codeOf kw_460) (by decide) [0] [1, 2, 3] rfl rfl rfl rfl rfl (by decide) (Nat.le_of_ble_eq_true rfl) (Nat.le_of_ble_eq_true rfl) (Nat.le_of_ble_eq_true rfl) (Nat.le_of_ble_eq_true rfl) (fun v9 w9 h9 => ?_) (fun E9 w9 q9 h9 => h9.elim)
      obtain ⟨rfl, rfl⟩ := h9
      refine gd_wsp [gd_ob 5 h [.int (if false then 1 else 0), .ref va, .ref re, .ref fu, .ref wi, .ref ma, .ref wo, .ref fd, .int (nI Lm.length), .int wm, .int (nI Lf.length), .int pl], gd_aJ K va 64 vf, gd_aZ K fu 64 uf, gd_aI K wo 720 wk] [3, 0, 1, 2] rfl rfl rfl ?_
      show gd_W X K 0 0 [gd_ob 5 h [.int (if false then 1 else 0), .ref va, .ref re, .ref fu, .ref wi, .ref ma, .ref wo, .ref fd, .int (nI Lm.length), .int wm, .int (nI Lf.length), .int pl], gd_aJ K va 64 vf, gd_aZ K fu 64 uf, gd_aI K wo 720 wk] [(0, .ref h), (1, .int (nI j))] [.int (if false then 1 else 0)] 19
      refine gd_if_eq hX 19 24 dd_Mo_count_19 (by decide) (fun h9 => ?_) (fun h9 => ?_)
      · skip
        show gd_W X K 0 0 [gd_ob 5 h [.int 0, .ref va, .ref re, .ref fu, .ref wi, .ref ma, .ref wo, .ref fd, .int (nI Lm.length), .int wm, .int (nI Lf.length), .int pl], gd_aJ K va 64 vf, gd_aZ K fu 64 uf, gd_aI K wo 720 wk] [(0, .ref h), (1, .int (nI j))] [] 24
        refine gd_iconst hX 24 dd_Mo_count_24 (v := 0) (by decide) ?_
        refine gd_eqi (show (0 : Int32) = nI 0 from rfl) ?_
        refine gd_istore_n hX [(2, .int (nI 0)), (0, .ref h), (1, .int (nI j))] 25 dd_Mo_count_25 rfl (by decide) rfl ?_
        refine gd_aload_n hX 26 dd_Mo_count_26 rfl ?_
        refine gd_call hX (st := []) (wr := []) (ct_Mo_lay _ K h va re fu wi ma wo fd 0 (nI Lm.length) wm (nI Lf.length) pl w f vf uf hM wk) 27 dd_Mo_count_27 (gd_nV hX (As := []) kw_477 kw_479 kw_9 (gd_sigOf (n := 0) kw_480 (by decide)) (by decide) 0 rfl rfl rfl rfl dd_Mo_count_27) (gd_codeOf kw_480) (by decide) [0, 1, 2, 3] [] rfl rfl rfl rfl rfl (by decide) (Nat.le_of_ble_eq_true rfl) (Nat.le_of_ble_eq_true rfl) (Nat.le_of_ble_eq_true rfl) (Nat.le_of_ble_eq_true rfl) (fun v9 w9 h9 => ?_) (fun E9 w9 q9 h9 => h9.elim)
        obtain ⟨rfl, wk1, rfl, hI⟩ := h9
        show gd_W X K 0 0 [gd_ob 5 h [.int 0, .ref va, .ref re, .ref fu, .ref wi, .ref ma, .ref wo, .ref fd, .int (nI Lm.length), .int (nI (ch_code w f).length), .int (nI Lf.length), .int pl], gd_aJ K va 64 vf, gd_aZ K fu 64 uf, gd_aI K wo 720 wk1] [(2, .int (nI 0)), (0, .ref h), (1, .int (nI j))] [.int (nI (ch_runs w f 64).length)] 30
        refine gd_istore_n hX [(3, .int (nI (ch_runs w f 64).length)), (2, .int (nI 0)), (0, .ref h), (1, .int (nI j))] 30 dd_Mo_count_30 rfl (by decide) rfl ?_
        refine gd_iconst hX 31 dd_Mo_count_31 (v := 0) (by decide) ?_
        refine gd_eqi (show (0 : Int32) = nI 0 from rfl) ?_
        have loop : ∀ (m i : Nat), m + i = 64 → gd_W X K 0 0 [gd_ob 5 h [.int 0, .ref va, .ref re, .ref fu, .ref wi, .ref ma, .ref wo, .ref fd, .int (nI Lm.length), .int (nI (ch_code w f).length), .int (nI Lf.length), .int pl], gd_aJ K va 64 vf, gd_aZ K fu 64 uf, gd_aI K wo 720 wk1] [(0, .ref h), (1, .int (nI j)), (2, .int (nI (ch_pop w i))), (3, .int (nI (ch_runs w f 64).length)), (4, .int (nI i))] [] 34 := by
          intro m
          induction m with
          | zero =>
            intro i hi
            obtain rfl : i = 64 := by omega
            refine gd_iload hX 34 dd_Mo_count_34 rfl ?_
            refine gd_bipush hX 36 dd_Mo_count_36 (v := 64) (by decide) ?_
            refine gd_icmp_ge hX 38 60 dd_Mo_count_38 (by decide) (fun h3 => ?_) (fun h3 => ?_)
            · skip
              rcases (show j = 0 ∨ j = 1 ∨ j = 2 ∨ j = 3 ∨ j = 4 by omega) with rfl | rfl | rfl | rfl | rfl
              · skip
                refine gd_iload_n hX 60 dd_Mo_count_60 rfl ?_
                refine gd_if_ne hX 61 68 dd_Mo_count_61 (by decide) (fun h7 => ?_) (fun h7 => ?_)
                · skip
                  exact absurd rfl h7
                · skip
                  refine gd_iload_n hX 64 dd_Mo_count_64 rfl ?_
                  refine gd_goto hX 65 105 dd_Mo_count_65 (by decide) ?_
                  exact gd_iret hX hE 105 dd_Mo_count_105 (Or.inr ⟨0, by decide, rfl, rfl, wk1, rfl⟩)
              · skip
                refine gd_iload_n hX 60 dd_Mo_count_60 rfl ?_
                refine gd_if_ne hX 61 68 dd_Mo_count_61 (by decide) (fun h7 => ?_) (fun h7 => ?_)
                · skip
                  refine gd_iload_n hX 68 dd_Mo_count_68 rfl ?_
                  refine gd_iconst hX 69 dd_Mo_count_69 (v := 1) (by decide) ?_
                  refine gd_icmp_ne hX 70 77 dd_Mo_count_70 (by decide) (fun h7 => ?_) (fun h7 => ?_)
                  · skip
                    exact absurd rfl h7
                  · skip
                    refine gd_iload_n hX 73 dd_Mo_count_73 rfl ?_
                    refine gd_goto hX 74 105 dd_Mo_count_74 (by decide) ?_
                    exact gd_iret hX hE 105 dd_Mo_count_105 (Or.inr ⟨1, by decide, rfl, rfl, wk1, rfl⟩)
                · skip
                  exact absurd h7 (by decide)
              · skip
                refine gd_iload_n hX 60 dd_Mo_count_60 rfl ?_
                refine gd_if_ne hX 61 68 dd_Mo_count_61 (by decide) (fun h7 => ?_) (fun h7 => ?_)
                · skip
                  refine gd_iload_n hX 68 dd_Mo_count_68 rfl ?_
                  refine gd_iconst hX 69 dd_Mo_count_69 (v := 1) (by decide) ?_
                  refine gd_icmp_ne hX 70 77 dd_Mo_count_70 (by decide) (fun h7 => ?_) (fun h7 => ?_)
                  · skip
                    refine gd_iload_n hX 77 dd_Mo_count_77 rfl ?_
                    refine gd_iconst hX 78 dd_Mo_count_78 (v := 2) (by decide) ?_
                    refine gd_icmp_ne hX 79 89 dd_Mo_count_79 (by decide) (fun h7 => ?_) (fun h7 => ?_)
                    · skip
                      exact absurd rfl h7
                    · skip
                      refine gd_aload_n hX 82 dd_Mo_count_82 rfl ?_
                      refine gd_get hX inC_Mo 0 10 83 dd_Mo_count_83 rfl rfl (by decide) kw_418 rfl ?_
                      refine gd_goto hX 86 105 dd_Mo_count_86 (by decide) ?_
                      exact gd_iret hX hE 105 dd_Mo_count_105 (Or.inr ⟨2, by decide, rfl, rfl, wk1, rfl⟩)
                  · skip
                    exact absurd h7 (by decide)
                · skip
                  exact absurd h7 (by decide)
              · skip
                refine gd_iload_n hX 60 dd_Mo_count_60 rfl ?_
                refine gd_if_ne hX 61 68 dd_Mo_count_61 (by decide) (fun h7 => ?_) (fun h7 => ?_)
                · skip
                  refine gd_iload_n hX 68 dd_Mo_count_68 rfl ?_
                  refine gd_iconst hX 69 dd_Mo_count_69 (v := 1) (by decide) ?_
                  refine gd_icmp_ne hX 70 77 dd_Mo_count_70 (by decide) (fun h7 => ?_) (fun h7 => ?_)
                  · skip
                    refine gd_iload_n hX 77 dd_Mo_count_77 rfl ?_
                    refine gd_iconst hX 78 dd_Mo_count_78 (v := 2) (by decide) ?_
                    refine gd_icmp_ne hX 79 89 dd_Mo_count_79 (by decide) (fun h7 => ?_) (fun h7 => ?_)
                    · skip
                      refine gd_iload_n hX 89 dd_Mo_count_89 rfl ?_
                      refine gd_iconst hX 90 dd_Mo_count_90 (v := 3) (by decide) ?_
                      refine gd_icmp_ne hX 91 101 dd_Mo_count_91 (by decide) (fun h7 => ?_) (fun h7 => ?_)
                      · skip
                        exact absurd rfl h7
                      · skip
                        refine gd_aload_n hX 94 dd_Mo_count_94 rfl ?_
                        refine gd_get hX inC_Mo 0 8 95 dd_Mo_count_95 rfl rfl (by decide) kw_416 rfl ?_
                        refine gd_goto hX 98 105 dd_Mo_count_98 (by decide) ?_
                        exact gd_iret hX hE 105 dd_Mo_count_105 (Or.inr ⟨3, by decide, rfl, rfl, wk1, rfl⟩)
                    · skip
                      exact absurd h7 (by decide)
                  · skip
                    exact absurd h7 (by decide)
                · skip
                  exact absurd h7 (by decide)
              · skip
                refine gd_iload_n hX 60 dd_Mo_count_60 rfl ?_
                refine gd_if_ne hX 61 68 dd_Mo_count_61 (by decide) (fun h7 => ?_) (fun h7 => ?_)
                · skip
                  refine gd_iload_n hX 68 dd_Mo_count_68 rfl ?_
                  refine gd_iconst hX 69 dd_Mo_count_69 (v := 1) (by decide) ?_
                  refine gd_icmp_ne hX 70 77 dd_Mo_count_70 (by decide) (fun h7 => ?_) (fun h7 => ?_)
                  · skip
                    refine gd_iload_n hX 77 dd_Mo_count_77 rfl ?_
                    refine gd_iconst hX 78 dd_Mo_count_78 (v := 2) (by decide) ?_
                    refine gd_icmp_ne hX 79 89 dd_Mo_count_79 (by decide) (fun h7 => ?_) (fun h7 => ?_)
                    · skip
                      refine gd_iload_n hX 89 dd_Mo_count_89 rfl ?_
                      refine gd_iconst hX 90 dd_Mo_count_90 (v := 3) (by decide) ?_
                      refine gd_icmp_ne hX 91 101 dd_Mo_count_91 (by decide) (fun h7 => ?_) (fun h7 => ?_)
                      · skip
                        refine gd_aload_n hX 101 dd_Mo_count_101 rfl ?_
                        refine gd_get hX inC_Mo 0 9 102 dd_Mo_count_102 rfl rfl (by decide) kw_417 rfl ?_
                        exact gd_iret hX hE 105 dd_Mo_count_105 (Or.inr ⟨4, by decide, rfl, by rw [ch_ct4], wk1, rfl⟩)
                      · skip
                        exact absurd h7 (by decide)
                    · skip
                      exact absurd h7 (by decide)
                  · skip
                    exact absurd h7 (by decide)
                · skip
                  exact absurd h7 (by decide)
            · skip
              exact absurd (by decide) h3
          | succ m ih =>
            intro i hi
            have hm := hM i (by omega)
            refine gd_iload hX 34 dd_Mo_count_34 rfl ?_
            refine gd_bipush hX 36 dd_Mo_count_36 (v := 64) (by decide) ?_
            refine gd_icmp_ge hX 38 60 dd_Mo_count_38 (by decide) (fun h3 => ?_) (fun h3 => ?_)
            · skip
              exact absurd ((nI_leI (a := 64) (by decide) (by omega)).mp h3) (by omega)
            · skip
              refine gd_aload_n hX 41 dd_Mo_count_41 rfl ?_
              refine gd_get hX inC_Mo 0 3 42 dd_Mo_count_42 rfl rfl (by decide) kw_411 rfl ?_
              refine gd_iload hX 45 dd_Mo_count_45 rfl ?_
              refine gd_zald hX 2 i 47 dd_Mo_count_47 rfl rfl (by omega) (by decide) ?_
              refine gd_eqi (show (uf i : Int32) = (if ch_bit w i then 1 else 0) from hm.1) ?_
              refine gd_if_eq hX 48 54 dd_Mo_count_48 (by decide) (fun h4 => ?_) (fun h4 => ?_)
              · skip
                have h5 := (ch_ib _).mp h4
                have h6 : ch_pop w (i + 1) = ch_pop w i := by show ch_pop w i + (if ch_bit w i = true then 1 else 0) = _; rw [h5]; rfl
                refine gd_iinc hX 4 [(4, .int (nI (i + 1))), (0, .ref h), (1, .int (nI j)), (2, .int (nI (ch_pop w i))), (3, .int (nI (ch_runs w f 64).length))] 54 dd_Mo_count_54 rfl (gd_inc i) (by decide) rfl ?_
                refine gd_goto hX 57 34 dd_Mo_count_57 (by decide) ?_
                refine gd_lvs [(0, .ref h), (1, .int (nI j)), (2, .int (nI (ch_pop w i))), (3, .int (nI (ch_runs w f 64).length)), (4, .int (nI (i + 1)))] [1, 2, 3, 4, 0] rfl ?_
                rw [← h6]
                exact ih (i + 1) (by omega)
              · skip
                have h5 := (ch_ifb _).mp h4
                have h6 : ch_pop w (i + 1) = ch_pop w i + 1 := by show ch_pop w i + (if ch_bit w i = true then 1 else 0) = _; rw [h5]; rfl
                refine gd_iinc hX 2 [(2, .int (nI ((ch_pop w i) + 1))), (0, .ref h), (1, .int (nI j)), (3, .int (nI (ch_runs w f 64).length)), (4, .int (nI i))] 51 dd_Mo_count_51 rfl (gd_inc (ch_pop w i)) (by decide) rfl ?_
                refine gd_iinc hX 4 [(4, .int (nI (i + 1))), (2, .int (nI ((ch_pop w i) + 1))), (0, .ref h), (1, .int (nI j)), (3, .int (nI (ch_runs w f 64).length))] 54 dd_Mo_count_54 rfl (gd_inc i) (by decide) rfl ?_
                refine gd_goto hX 57 34 dd_Mo_count_57 (by decide) ?_
                refine gd_lvs [(0, .ref h), (1, .int (nI j)), (2, .int (nI ((ch_pop w i) + 1))), (3, .int (nI (ch_runs w f 64).length)), (4, .int (nI (i + 1)))] [2, 3, 1, 4, 0] rfl ?_
                rw [← h6]
                exact ih (i + 1) (by omega)
        refine gd_istore hX [(4, .int (nI 0)), (3, .int (nI (ch_runs w f 64).length)), (2, .int (nI 0)), (0, .ref h), (1, .int (nI j))] 32 dd_Mo_count_32 (by decide) rfl ?_
        refine gd_lvs [(0, .ref h), (1, .int (nI j)), (2, .int (nI 0)), (3, .int (nI (ch_runs w f 64).length)), (4, .int (nI 0))] [3, 4, 2, 1, 0] rfl ?_
        exact loop 64 0 rfl
      · skip
        exact absurd rfl h9
    · skip
      refine gd_iconst hX 10 dd_Mo_count_10 (v := 1) (by decide) ?_
      refine gd_goto hX 11 15 dd_Mo_count_11 (by decide) ?_
      refine gd_eqi (show (1 : Int32) = (if true then 1 else 0) from rfl) ?_
      refine gd_iconst hX 15 dd_Mo_count_15 (v := 1) (by decide) ?_
      refine gd_call hX (st := []) (wr := [gd_aJ K va 64 vf, gd_aZ K fu 64 uf, gd_aI K wo 720 wk]) (ct_Mo_fails _ K h va re fu wi ma wo fd er (nI Lm.length) wm (nI Lf.length) pl true 1) 16 dd_Mo_count_16 (gd_nV hX (As := [.int (if true then 1 else 0), .int 1]) kw_457 kw_459 kw_8 (gd_sigOf (n := 2) kw_460 (by decide)) (by decide) 0 rfl rfl rfl rfl dd_Mo_count_16) (gd_codeOf kw_460) (by decide) [0] [1, 2, 3] rfl rfl rfl rfl rfl (by decide) (Nat.le_of_ble_eq_true rfl) (Nat.le_of_ble_eq_true rfl) (Nat.le_of_ble_eq_true rfl) (Nat.le_of_ble_eq_true rfl) (fun v9 w9 h9 => ?_) (fun E9 w9 q9 h9 => h9.elim)
      obtain ⟨rfl, rfl⟩ := h9
      refine gd_wsp [gd_ob 5 h [.int (if true then 1 else 0), .ref va, .ref re, .ref fu, .ref wi, .ref ma, .ref wo, .ref fd, .int (nI Lm.length), .int wm, .int (nI Lf.length), .int pl], gd_aJ K va 64 vf, gd_aZ K fu 64 uf, gd_aI K wo 720 wk] [3, 0, 1, 2] rfl rfl rfl ?_
      show gd_W X K 0 0 [gd_ob 5 h [.int (if true then 1 else 0), .ref va, .ref re, .ref fu, .ref wi, .ref ma, .ref wo, .ref fd, .int (nI Lm.length), .int wm, .int (nI Lf.length), .int pl], gd_aJ K va 64 vf, gd_aZ K fu 64 uf, gd_aI K wo 720 wk] [(0, .ref h), (1, .int k)] [.int (if true then 1 else 0)] 19
      refine gd_if_eq hX 19 24 dd_Mo_count_19 (by decide) (fun h9 => ?_) (fun h9 => ?_)
      · skip
        exact absurd (show (1 : Int32) = 0 from h9) (by decide)
      · skip
        show gd_W X K 0 0 [gd_ob 5 h [.int 1, .ref va, .ref re, .ref fu, .ref wi, .ref ma, .ref wo, .ref fd, .int (nI Lm.length), .int wm, .int (nI Lf.length), .int pl], gd_aJ K va 64 vf, gd_aZ K fu 64 uf, gd_aI K wo 720 wk] [(0, .ref h), (1, .int k)] [] 22
        refine gd_iconst hX 22 dd_Mo_count_22 (v := 0) (by decide) ?_
        exact gd_iret hX hE 23 dd_Mo_count_23 (Or.inl ⟨Or.inr (ch_nle h2), rfl, rfl⟩)
end
section
/-! the reference's reading -/
def ch_rest (w : Int64) : Nat → Nat
  | 0 => 0
  | m + 1 => ch_rest w m + if ch_bit w (63 - m) then 1 else 0
theorem ch_rest_S (w : Int64) (m : Nat) : ch_rest w (m + 1) = ch_rest w m + if ch_bit w (63 - m) then 1 else 0 := rfl
theorem ch_pop_S (w : Int64) (k : Nat) : ch_pop w (k + 1) = ch_pop w k + if ch_bit w k then 1 else 0 := rfl
theorem ch_rest_pop (w : Int64) : ∀ m, m ≤ 64 → ch_pop w (64 - m) + ch_rest w m = ch_pop w 64
  | 0, _ => rfl
  | m + 1, h => by
    have ih := ch_rest_pop w m (by omega)
    have e : 64 - m = (63 - m) + 1 := by omega
    rw [e, ch_pop_S] at ih
    have e2 : 64 - (m + 1) = 63 - m := by omega
    rw [e2, ch_rest_S]
    omega
theorem ch_rest_c {w : Int64} {c : Nat} (h : c < 64) : ch_rest w (64 - c) = ch_rest w (64 - (c + 1)) + if ch_bit w c then 1 else 0 := by
  have e : 64 - c = (64 - (c + 1)) + 1 := by omega
  have e2 : 63 - (64 - (c + 1)) = c := by omega
  rw [e, ch_rest_S, e2]
theorem ch_cells_skip (L : List Nat) {w : Int64} {c : Nat} (hc : c < 64) (hb : ch_bit w c = false) (left lor : Nat) (v : Int64) (q : Bool) (a : Nat) (g : Nat → Int64) : ch_cells L w (64 - c) left lor v q a g = ch_cells L w (64 - (c + 1)) left lor v q a g := by
  have e : 64 - c = (64 - (c + 1)) + 1 := by omega
  have e2 : 63 - (64 - (c + 1)) = c := by omega
  rw [e, ch_cells_S, e2, if_pos hb]
theorem ch_cells_fill (L : List Nat) {w : Int64} {c : Nat} (hc : c < 64) (hb : ch_bit w c = true) (left : Nat) {lor : Nat} (hl : lor ≠ 0) (v : Int64) (q : Bool) (a : Nat) (g : Nat → Int64) : ch_cells L w (64 - c) left lor v q a g = ch_cells L w (64 - (c + 1)) (left - 1) (lor - 1) v q a (vp_updL g c v) := by
  have e : 64 - c = (64 - (c + 1)) + 1 := by omega
  have e2 : 63 - (64 - (c + 1)) = c := by omega
  rw [e, ch_cells_S, e2, if_neg (by rw [hb]; decide), if_neg hl]
theorem ch_cells_done (L : List Nat) (w : Int64) : ∀ (m left lor : Nat) (v : Int64) (q : Bool) (a : Nat) (g : Nat → Int64), ch_rest w m = 0 → ch_cells L w m left lor v q a g = (a, some g)
  | 0, _, _, _, _, _, _, _ => rfl
  | m + 1, left, lor, v, q, a, g, h => by
    rw [ch_rest_S] at h
    have hb : ch_bit w (63 - m) = false := by
      cases hq : ch_bit w (63 - m) with
      | false => rfl
      | true => rw [hq, if_pos rfl] at h; omega
    rw [ch_cells_S, if_pos hb]
    exact ch_cells_done L w m left lor v q a g (by omega)
theorem ch_cells_bad (L : List Nat) (w : Int64) : ∀ (m left : Nat) (v : Int64) (q : Bool) (a : Nat) (g : Nat → Int64), 0 < ch_rest w m → (L.getD a 0 = 0 ∨ left < L.getD a 0) → ch_cells L w m left 0 v q a g = (a, none)
  | 0, _, _, _, _, _, h, _ => absurd h (Nat.not_lt_zero _)
  | m + 1, left, v, q, a, g, h, h2 => by
    rw [ch_rest_S] at h
    rw [ch_cells_S]
    split
    · rename_i hb
      rw [hb] at h
      exact ch_cells_bad L w m left v q a g h h2
    · rw [if_pos rfl]
theorem ch_cells_badn (L : List Nat) (w : Int64) : ∀ (m left : Nat) (v : Int64) (q : Bool) (a a1 : Nat) (g : Nat → Int64), 0 < ch_rest w m → ¬ (L.getD a 0 = 0 ∨ left < L.getD a 0) → ch_rd L q 10 (a + 1) 0 = (a1, none) → ch_cells L w m left 0 v q a g = (a1, none)
  | 0, _, _, _, _, _, _, h, _, _ => absurd h (Nat.not_lt_zero _)
  | m + 1, left, v, q, a, a1, g, h, h2, h3 => by
    rw [ch_rest_S] at h
    rw [ch_cells_S]
    by_cases hb : ch_bit w (63 - m) = false
    · rw [hb] at h
      rw [if_pos hb]
      exact ch_cells_badn L w m left v q a a1 g h h2 h3
    · rw [if_neg hb, if_pos rfl, if_neg h2, h3]
theorem ch_cells_go (L : List Nat) (w : Int64) : ∀ (m left : Nat) (v : Int64) (q : Bool) (a a1 : Nat) (u : Int64) (g : Nat → Int64), 0 < ch_rest w m → ¬ (L.getD a 0 = 0 ∨ left < L.getD a 0) → ch_rd L q 10 (a + 1) 0 = (a1, some u) → ch_cells L w m left 0 v q a g = ch_cells L w m left (L.getD a 0) (v + ch_un u) false a1 g
  | 0, _, _, _, _, _, _, _, h, _, _ => absurd h (Nat.not_lt_zero _)
  | m + 1, left, v, q, a, a1, u, g, h, h2, h3 => by
    rw [ch_rest_S] at h
    rw [ch_cells_S, ch_cells_S]
    by_cases hb : ch_bit w (63 - m) = false
    · rw [hb] at h
      rw [if_pos hb, if_pos hb]
      exact ch_cells_go L w m left v q a a1 u g h h2 h3
    · rw [if_neg hb, if_neg hb, if_pos rfl, if_neg h2, h3, if_neg (fun e => h2 (Or.inl e))]
theorem ch_ob : ∀ o, o < 256 → ∀ r, r < 8 → (nI o >>> (nI r &&& 31)) &&& 1 = if o.testBit r then 1 else 0 := by decide +kernel
theorem ch_rm_u (L : List Nat) (hO : ∀ x ∈ L, x < 256) : ∀ n, n ≤ 8 → ∀ i, (uN (ch_rmask L n)).testBit i = (decide (i < 8 * n) && (L.getD (i / 8) 0).testBit (i % 8))
  | 0, _, i => by
    have : uN (ch_rmask L 0) = 0 := rfl
    rw [this, Nat.zero_testBit]
    simp
  | n + 1, hn, i => by
    have ih := ch_rm_u L hO n (by omega) i
    have ho := ch_getD_lt hO n
    show (uN (ch_rmask L n ||| ((nI (L.getD n 0)).toInt64 <<< ((nI (8 * n)).toInt64 &&& 63)))).testBit i = _
    rw [uN_or', uN_shlk _ (by omega), nI_l (by omega)]
    have h2 : uN (lN (L.getD n 0)) = L.getD n 0 := by
      show (L.getD n 0) % 2 ^ 64 = _
      omega
    have h3 : L.getD n 0 * 2 ^ (8 * n) < 18446744073709551616 := by
      have h4 : 2 ^ (8 * n) ≤ 2 ^ 56 := Nat.pow_le_pow_right (by decide) (by omega)
      calc L.getD n 0 * 2 ^ (8 * n) ≤ L.getD n 0 * 2 ^ 56 := Nat.mul_le_mul_left _ h4
        _ < 256 * 2 ^ 56 := Nat.mul_lt_mul_of_pos_right ho (by decide)
        _ ≤ _ := by decide
    rw [h2, Nat.mod_eq_of_lt h3, Nat.testBit_or, ih, Nat.testBit_mul_two_pow]
    by_cases h5 : i < 8 * n
    · have h6 : ¬ 8 * n ≤ i := by omega
      have h7 : i < 8 * (n + 1) := by omega
      simp [h5, h6, h7]
    · by_cases h7 : i < 8 * (n + 1)
      · have h6 : 8 * n ≤ i := by omega
        have e1 : i / 8 = n := by omega
        have e2 : i % 8 = i - 8 * n := by omega
        rw [e1, e2]
        simp [h5, h6, h7]
      · have h6 : 8 * n ≤ i := by omega
        have h8 : (L.getD n 0).testBit (i - 8 * n) = false := by
          apply Nat.testBit_lt_two_pow
          have : 2 ^ 8 ≤ 2 ^ (i - 8 * n) := Nat.pow_le_pow_right (by decide) (by omega)
          omega
        rw [h8]
        simp [h5, h7]
theorem ch_rm_bit (L : List Nat) (hO : ∀ x ∈ L, x < 256) {i : Nat} (h : i < 64) : ch_bit (ch_rmask L 8) i = (L.getD (i / 8) 0).testBit (i % 8) := by
  show (uN (ch_rmask L 8)).testBit i = _
  rw [ch_rm_u L hO 8 (by decide) i]
  have : i < 8 * 8 := by omega
  simp [this]
theorem ch_narz (b : Bool) : vp_nar .boolean (if b then (1 : Int32) else 0) = if b then 1 else 0 := by cases b <;> rfl
def ch_pl (d : Nat × Option (Int64 × (Nat → Int64))) : Int32 := if d.2.isSome then -1 else nI d.1
theorem ch_pl_n {d : Nat × Option (Int64 × (Nat → Int64))} {a : Nat} (h : d = (a, none)) : ch_pl d = nI a := by subst h; rfl
theorem ch_pl_s {d : Nat × Option (Int64 × (Nat → Int64))} {a : Nat} {z : Int64 × (Nat → Int64)} (h : d = (a, some z)) : ch_pl d = -1 := by subst h; rfl
end
section
theorem ch_rem8 {i : Nat} (h : i < 2 ^ 31) : nI i - nI i / 8 * 8 = nI (i % 8) := by
  have e : nI i / 8 = nI (i / 8) := pk_div (d := 8) h (by decide) (by decide)
  rw [e, show (8 : Int32) = nI 8 from rfl, pk_mul, pk_sub (by omega)]
  congr 1
  omega
theorem ch_rest_no {w : Int64} {c : Nat} (h0 : ch_rest w (64 - c) = 0) {j : Nat} (h1 : c ≤ j) (h2 : j < 64) : ch_bit w j = true → False := by
  intro hb
  have : ∀ n, c + n ≤ 64 → ch_rest w (64 - (c + n)) = 0 := by
    intro n
    induction n with
    | zero => intro _; exact h0
    | succ n ih =>
      intro hn
      have h3 := ih (by omega)
      rw [ch_rest_c (by omega)] at h3
      have e : c + n + 1 = c + (n + 1) := by omega
      rw [e] at h3
      omega
  have h3 := this (j - c) (by omega)
  have e : c + (j - c) = j := by omega
  rw [e, ch_rest_c h2, hb, if_pos rfl] at h3
  omega
set_option maxRecDepth 100000 in
set_option maxHeartbeats 4000000 in
theorem ct_Mo_wrongAt (l : Launch) (K : gd_K) (h va re fu wi ma wo fd : Nat) (er mm wm mn pl : Int32) (wl : Nat → Int32) (rf : Nat → Int64) (L : List Nat) (ff : Nat → Int32) (hL : L.length ≤ 1000) (hI : ch_I ff L) (hO : ∀ x ∈ L, x < 256) : gd_M l yy_Mo_wrongAt bb_Mo_wrongAt 12 (some .int) [] 0 0 0 0 K [.ref h] [gd_ob 5 h [.int er, .ref va, .ref re, .ref fu, .ref wi, .ref ma, .ref wo, .ref fd, .int mm, .int wm, .int (nI L.length), .int pl], gd_aZ K wi 64 wl, gd_aJ K re 64 rf, gd_aI K fd 1000 ff] (fun v9 w1 => v9 = some (.int (ch_pl (ch_dec L))) ∧ ∃ wl' rf', w1 = [gd_ob 5 h [.int er, .ref va, .ref re, .ref fu, .ref wi, .ref ma, .ref wo, .ref fd, .int mm, .int wm, .int (nI L.length), .int pl], gd_aZ K wi 64 wl', gd_aJ K re 64 rf', gd_aI K fd 1000 ff] ∧ ∀ z, (ch_dec L).2 = some z → (∀ j, j < 64 → wl' j = (if ch_bit z.1 j then 1 else 0)) ∧ ∀ j, j < 64 → ch_bit z.1 j = true → rf' j = z.2 j) (fun _ _ => False) := by
  refine gd_body (Nat.le_of_ble_eq_true rfl) (fun X hXl hin hE hX => ?_)
  refine gd_aload_n hX 0 dd_Mo_wrongAt_0 rfl ?_
  refine gd_get hX inC_Mo 0 10 1 dd_Mo_wrongAt_1 rfl rfl (by decide) kw_418 rfl ?_
  refine gd_bipush hX 4 dd_Mo_wrongAt_4 (v := 8) (by decide) ?_
  refine gd_icmp_ge hX 6 14 dd_Mo_wrongAt_6 (by decide) (fun h1 => ?_) (fun h1 => ?_)
  · skip
    have h8 : 8 ≤ L.length := (nI_leI (a := 8) (by decide) (by omega)).mp h1
    have hd : ch_dec L = match (ch_cells L (ch_rmask L 8) 64 (ch_pop (ch_rmask L 8) 64) 0 0 true 8 (fun _ => 0)) with | (a, none) => (a, none) | (a, some g) => if a = L.length then (a, some ((ch_rmask L 8), g)) else (a, none) := if_neg (by omega)
    obtain ⟨w, hw⟩ : ∃ w, w = (ch_rmask L 8) := ⟨_, rfl⟩
    have hbits : ∀ i, i < 64 → ch_bit w i = (L.getD (i / 8) 0).testBit (i % 8) := fun i hi => by rw [hw]; exact ch_rm_bit L hO hi
    rw [← hw] at hd
    obtain ⟨R, hR⟩ : ∃ R, R = ch_cells L w 64 (ch_pop w 64) 0 0 true 8 (fun _ => 0) := ⟨_, rfl⟩
    rw [← hR] at hd
    have outer : ∀ (wl : Nat → Int32), (∀ j, j < 64 → wl j = (if ch_bit w j then 1 else 0)) → ∀ (N c left : Nat) (v : Int64) (q : Bool) (a : Nat) (G rf : Nat → Int64), left ≤ N → c ≤ 64 → ch_rest w (64 - c) = left → a ≤ L.length → R = ch_cells L w (64 - c) left 0 v q a G → (∀ j, j < c → ch_bit w j = true → rf j = G j) → gd_W X K 0 0 [gd_ob 5 h [.int er, .ref va, .ref re, .ref fu, .ref wi, .ref ma, .ref wo, .ref fd, .int mm, .int wm, .int (nI L.length), .int pl], gd_aZ K wi 64 wl, gd_aJ K re 64 rf, gd_aI K fd 1000 ff] [(0, .ref h), (1, .int (nI left)), (2, .int (nI a)), (3, .int (nI c)), (4, .long v), (6, .int (if q then 1 else 0))] [] 90 := by
      intro wl hwl N
      induction N with
      | zero =>
        intro c left v q a G rf hN hc hrest hal hRR hrf
        obtain rfl : left = 0 := by omega
        refine gd_iload_n hX 90 dd_Mo_wrongAt_90 rfl ?_
        refine gd_if_le hX 91 300 dd_Mo_wrongAt_91 (by decide) (fun h2 => ?_) (fun h2 => ?_)
        · skip
          have hRs : R = (a, some G) := by rw [hRR]; exact ch_cells_done L w _ _ _ _ _ _ _ (by omega)
          rw [hRs] at hd
          have hd : ch_dec L = if a = L.length then (a, some (w, G)) else (a, none) := hd
          refine gd_iload_n hX 300 dd_Mo_wrongAt_300 rfl ?_
          refine gd_aload_n hX 301 dd_Mo_wrongAt_301 rfl ?_
          refine gd_get hX inC_Mo 0 10 302 dd_Mo_wrongAt_302 rfl rfl (by decide) kw_418 rfl ?_
          refine gd_icmp_ge hX 305 312 dd_Mo_wrongAt_305 (by decide) (fun h3 => ?_) (fun h3 => ?_)
          · skip
            have hdd : ch_dec L = (a, some (w, G)) := by rw [hd, if_pos (Nat.le_antisymm hal ((nI_leI (by omega) (by omega)).mp h3))]
            refine gd_iconst hX 312 dd_Mo_wrongAt_312 (v := (-1)) (by decide) ?_
            have hcut : ∀ j, j < 64 → ch_bit w j = true → j < c := by
              intro j hj hb
              apply Classical.byContradiction
              intro hn
              exact ch_rest_no (by omega : ch_rest w (64 - c) = 0) (by omega) hj hb
            exact gd_iret hX hE 313 dd_Mo_wrongAt_313 ⟨by rw [ch_pl_s hdd], _, _, rfl, by rw [hdd]; exact fun z hz => by cases hz; exact ⟨hwl, fun j hj hb => hrf j (hcut j hj hb) hb⟩⟩
          · skip
            have hdd : ch_dec L = (a, none) := by rw [hd, if_neg (fun e => h3 (by rw [e]; exact Int32.le_refl _))]
            refine gd_iload_n hX 308 dd_Mo_wrongAt_308 rfl ?_
            refine gd_goto hX 309 313 dd_Mo_wrongAt_309 (by decide) ?_
            exact gd_iret hX hE 313 dd_Mo_wrongAt_313 ⟨by rw [ch_pl_n hdd], _, _, rfl, by rw [hdd]; exact fun z hz => nomatch hz⟩
        · skip
          exact absurd (by decide) h2
      | succ N ih =>
        intro c left v q a G rf hN hc hrest hal hRR hrf
        have hr64 : ch_rest w (64 - c) ≤ 64 := by have := ch_rest_pop w (64 - c) (by omega); have := ch_pop_le w 64; omega
        have hO9 := ch_getD_lt hO
        refine gd_iload_n hX 90 dd_Mo_wrongAt_90 rfl ?_
        refine gd_if_le hX 91 300 dd_Mo_wrongAt_91 (by decide) (fun h2 => ?_) (fun h2 => ?_)
        · skip
          obtain rfl : left = 0 := by have h3 := (nI_leI (b := 0) (by omega) (by decide)).mp h2; omega
          have hRs : R = (a, some G) := by rw [hRR]; exact ch_cells_done L w _ _ _ _ _ _ _ (by omega)
          rw [hRs] at hd
          have hd : ch_dec L = if a = L.length then (a, some (w, G)) else (a, none) := hd
          refine gd_iload_n hX 300 dd_Mo_wrongAt_300 rfl ?_
          refine gd_aload_n hX 301 dd_Mo_wrongAt_301 rfl ?_
          refine gd_get hX inC_Mo 0 10 302 dd_Mo_wrongAt_302 rfl rfl (by decide) kw_418 rfl ?_
          refine gd_icmp_ge hX 305 312 dd_Mo_wrongAt_305 (by decide) (fun h3 => ?_) (fun h3 => ?_)
          · skip
            have hdd : ch_dec L = (a, some (w, G)) := by rw [hd, if_pos (Nat.le_antisymm hal ((nI_leI (by omega) (by omega)).mp h3))]
            refine gd_iconst hX 312 dd_Mo_wrongAt_312 (v := (-1)) (by decide) ?_
            have hcut : ∀ j, j < 64 → ch_bit w j = true → j < c := by
              intro j hj hb
              apply Classical.byContradiction
              intro hn
              exact ch_rest_no (by omega : ch_rest w (64 - c) = 0) (by omega) hj hb
            exact gd_iret hX hE 313 dd_Mo_wrongAt_313 ⟨by rw [ch_pl_s hdd], _, _, rfl, by rw [hdd]; exact fun z hz => by cases hz; exact ⟨hwl, fun j hj hb => hrf j (hcut j hj hb) hb⟩⟩
          · skip
            have hdd : ch_dec L = (a, none) := by rw [hd, if_neg (fun e => h3 (by rw [e]; exact Int32.le_refl _))]
            refine gd_iload_n hX 308 dd_Mo_wrongAt_308 rfl ?_
            refine gd_goto hX 309 313 dd_Mo_wrongAt_309 (by decide) ?_
            exact gd_iret hX hE 313 dd_Mo_wrongAt_313 ⟨by rw [ch_pl_n hdd], _, _, rfl, by rw [hdd]; exact fun z hz => nomatch hz⟩
        · skip
          have hpos : 0 < left := Nat.pos_of_ne_zero (fun e => h2 (by rw [e]; decide))
          have bad : (L.getD a 0 = 0 ∨ left < L.getD a 0) → gd_W X K 0 0 [gd_ob 5 h [.int er, .ref va, .ref re, .ref fu, .ref wi, .ref ma, .ref wo, .ref fd, .int mm, .int wm, .int (nI L.length), .int pl], gd_aZ K wi 64 wl, gd_aJ K re 64 rf, gd_aI K fd 1000 ff] [(0, .ref h), (1, .int (nI left)), (2, .int (nI a)), (3, .int (nI c)), (4, .long v), (6, .int (if q then 1 else 0))] [] 122 := by
            intro hb9
            have hRs : R = (a, none) := by rw [hRR]; exact ch_cells_bad L w _ _ _ _ _ _ (by omega) hb9
            rw [hRs] at hd
            have hdd : ch_dec L = (a, none) := hd
            refine gd_iload_n hX 122 dd_Mo_wrongAt_122 rfl ?_
            exact gd_iret hX hE 123 dd_Mo_wrongAt_123 ⟨by rw [ch_pl_n hdd], _, _, rfl, by rw [hdd]; exact fun z hz => nomatch hz⟩
          by_cases hbad : L.getD a 0 = 0 ∨ left < L.getD a 0
          · skip
            refine gd_iload_n hX 94 dd_Mo_wrongAt_94 rfl ?_
            refine gd_aload_n hX 95 dd_Mo_wrongAt_95 rfl ?_
            refine gd_get hX inC_Mo 0 10 96 dd_Mo_wrongAt_96 rfl rfl (by decide) kw_418 rfl ?_
            refine gd_icmp_eq hX 99 122 dd_Mo_wrongAt_99 (by decide) (fun h3 => ?_) (fun h3 => ?_)
            · skip
              exact bad hbad
            · skip
              have hlt : a < L.length := Nat.lt_of_le_of_ne hal (fun e => h3 (by rw [e]))
              refine gd_aload_n hX 102 dd_Mo_wrongAt_102 rfl ?_
              refine gd_get hX inC_Mo 0 7 103 dd_Mo_wrongAt_103 rfl rfl (by decide) kw_415 rfl ?_
              refine gd_iload_n hX 106 dd_Mo_wrongAt_106 rfl ?_
              refine gd_iald hX 3 a 107 dd_Mo_wrongAt_107 rfl rfl (by omega) (by decide) ?_
              refine gd_eqi (show (ff a : Int32) = nI (L.getD a 0) from hI a hlt) ?_
              refine gd_iconst hX 108 dd_Mo_wrongAt_108 (v := 1) (by decide) ?_
              refine gd_icmp_lt hX 109 122 dd_Mo_wrongAt_109 (by decide) (fun h4 => ?_) (fun h4 => ?_)
              · skip
                exact bad hbad
              · skip
                refine gd_aload_n hX 112 dd_Mo_wrongAt_112 rfl ?_
                refine gd_get hX inC_Mo 0 7 113 dd_Mo_wrongAt_113 rfl rfl (by decide) kw_415 rfl ?_
                refine gd_iload_n hX 116 dd_Mo_wrongAt_116 rfl ?_
                refine gd_iald hX 3 a 117 dd_Mo_wrongAt_117 rfl rfl (by omega) (by decide) ?_
                refine gd_eqi (show (ff a : Int32) = nI (L.getD a 0) from hI a hlt) ?_
                refine gd_iload_n hX 118 dd_Mo_wrongAt_118 rfl ?_
                refine gd_icmp_le hX 119 124 dd_Mo_wrongAt_119 (by decide) (fun h5 => ?_) (fun h5 => ?_)
                · skip
                  have h6 := (nI_leI (by have := hO9 a; omega) (by omega)).mp h5
                  have h7 : ¬ L.getD a 0 < 1 := fun q => h4 ((nI_ltI (b := 1) (by have := hO9 a; omega) (by decide)).mpr q)
                  omega
                · skip
                  exact bad hbad
          · skip
            have hlt : a < L.length := Nat.lt_of_le_of_ne hal (fun e => hbad (Or.inl (ch_getD_out (by omega))))
            obtain ⟨o, ho⟩ : ∃ o, o = L.getD a 0 := ⟨_, rfl⟩
            have ho8 : o < 256 := by rw [ho]; exact hO9 a
            have ho1 : 1 ≤ o ∧ o ≤ left := by omega
            have fill : ∀ (u : Int64) (a1 : Nat), a1 ≤ L.length → ∀ (p k c : Nat) (G rf : Nat → Int64), p + k = o → c ≤ 64 → ch_rest w (64 - c) = left - k → R = ch_cells L w (64 - c) (left - k) (o - k) (v + ch_un u) false a1 G → (∀ j, j < c → ch_bit w j = true → rf j = G j) → gd_W X K 0 0 [gd_ob 5 h [.int er, .ref va, .ref re, .ref fu, .ref wi, .ref ma, .ref wo, .ref fd, .int mm, .int wm, .int (nI L.length), .int pl], gd_aZ K wi 64 wl, gd_aJ K re 64 rf, gd_aI K fd 1000 ff] [(0, .ref h), (1, .int (nI (left - o))), (2, .int (nI a1)), (3, .int (nI c)), (4, .long (v + ch_un u)), (6, .int (if false then 1 else 0)), (7, .int (nI o)), (11, .int (nI k))] [] 258 := by
              intro u a1 ha1 p
              induction p with
              | zero =>
                intro k c G rf hk hc hrest hRR hrf
                obtain rfl : k = o := by omega
                refine gd_iload hX 258 dd_Mo_wrongAt_258 rfl ?_
                refine gd_iload hX 260 dd_Mo_wrongAt_260 rfl ?_
                refine gd_icmp_ge hX 262 297 dd_Mo_wrongAt_262 (by decide) (fun h3 => ?_) (fun h3 => ?_)
                · skip
                  refine gd_goto hX 297 90 dd_Mo_wrongAt_297 (by decide) ?_
                  refine gd_lvs [(0, .ref h), (1, .int (nI (left - k))), (2, .int (nI a1)), (3, .int (nI c)), (4, .long (v + ch_un u)), (6, .int (if false then 1 else 0))] [0, 1, 2, 3, 4, 5] rfl ?_
                  rw [Nat.sub_self] at hRR
                  exact ih c (left - k) _ false a1 G rf (by omega) hc hrest ha1 hRR hrf
                · skip
                  exact absurd (Int32.le_refl _) h3
              | succ p ihp =>
                intro k c G rf hk hc hrest hRR hrf
                have skip : ∀ (m c : Nat), m + c = 64 → ch_rest w (64 - c) = left - k → R = ch_cells L w (64 - c) (left - k) (o - k) (v + ch_un u) false a1 G → (∀ j, j < c → ch_bit w j = true → rf j = G j) → gd_W X K 0 0 [gd_ob 5 h [.int er, .ref va, .ref re, .ref fu, .ref wi, .ref ma, .ref wo, .ref fd, .int mm, .int wm, .int (nI L.length), .int pl], gd_aZ K wi 64 wl, gd_aJ K re 64 rf, gd_aI K fd 1000 ff] [(0, .ref h), (1, .int (nI (left - o))), (2, .int (nI a1)), (3, .int (nI c)), (4, .long (v + ch_un u)), (6, .int (if false then 1 else 0)), (7, .int (nI o)), (11, .int (nI k))] [] 265 := by
                  intro m
                  induction m with
                  | zero =>
                    intro c hm hrest hRR hrf
                    obtain rfl : c = 64 := by omega
                    have h0 : ch_rest w (64 - 64) = 0 := rfl
                    omega
                  | succ m ihm =>
                    intro c hm hrest hRR hrf
                    have hc9 : c < 64 := by omega
                    have hrc := ch_rest_c (w := w) hc9
                    refine gd_aload_n hX 265 dd_Mo_wrongAt_265 rfl ?_
                    refine gd_get hX inC_Mo 0 4 266 dd_Mo_wrongAt_266 rfl rfl (by decide) kw_412 rfl ?_
                    refine gd_iload_n hX 269 dd_Mo_wrongAt_269 rfl ?_
                    refine gd_zald hX 1 c 270 dd_Mo_wrongAt_270 rfl rfl hc9 (by decide) ?_
                    refine gd_eqi (show (wl c : Int32) = (if ch_bit w c then 1 else 0) from hwl c hc9) ?_
                    refine gd_if_ne hX 271 280 dd_Mo_wrongAt_271 (by decide) (fun h4 => ?_) (fun h4 => ?_)
                    · skip
                      have h5 := (ch_ifb _).mp h4
                      rw [h5, if_pos rfl] at hrc
                      refine gd_aload_n hX 280 dd_Mo_wrongAt_280 rfl ?_
                      refine gd_get hX inC_Mo 0 2 281 dd_Mo_wrongAt_281 rfl rfl (by decide) kw_410 rfl ?_
                      refine gd_iload_n hX 284 dd_Mo_wrongAt_284 rfl ?_
                      refine gd_iinc hX 3 [(3, .int (nI (c + 1))), (0, .ref h), (1, .int (nI (left - o))), (2, .int (nI a1)), (4, .long (v + ch_un u)), (6, .int (if false then 1 else 0)), (7, .int (nI o)), (11, .int (nI k))] 285 dd_Mo_wrongAt_285 rfl (gd_inc c) (by decide) rfl ?_
                      refine gd_lload hX 288 dd_Mo_wrongAt_288 rfl ?_
                      refine gd_last hX 2 c [gd_ob 5 h [.int er, .ref va, .ref re, .ref fu, .ref wi, .ref ma, .ref wo, .ref fd, .int mm, .int wm, .int (nI L.length), .int pl], gd_aZ K wi 64 wl, gd_aJ K re 64 (vp_updL rf c (v + ch_un u)), gd_aI K fd 1000 ff] 290 dd_Mo_wrongAt_290 rfl rfl hc9 (by decide) rfl ?_
                      refine gd_iinc hX 7 [(11, .int (nI (k + 1))), (3, .int (nI (c + 1))), (0, .ref h), (1, .int (nI (left - o))), (2, .int (nI a1)), (4, .long (v + ch_un u)), (6, .int (if false then 1 else 0)), (7, .int (nI o))] 291 dd_Mo_wrongAt_291 rfl (gd_inc k) (by decide) rfl ?_
                      refine gd_goto hX 294 258 dd_Mo_wrongAt_294 (by decide) ?_
                      refine gd_lvs [(0, .ref h), (1, .int (nI (left - o))), (2, .int (nI a1)), (3, .int (nI (c + 1))), (4, .long (v + ch_un u)), (6, .int (if false then 1 else 0)), (7, .int (nI o)), (11, .int (nI (k + 1)))] [2, 3, 4, 1, 5, 6, 7, 0] rfl ?_
                      rw [ch_cells_fill L hc9 h5 _ (by omega)] at hRR
                      have e1 : left - k - 1 = left - (k + 1) := by omega
                      have e2 : o - k - 1 = o - (k + 1) := by omega
                      rw [e1, e2] at hRR
                      exact ihp (k + 1) (c + 1) _ _ (by omega) (by omega) (by omega) hRR (fun j hj hb => by by_cases e : j = c; { subst e; rw [pk_uLs, pk_uLs] }; { rw [pk_uLn e, pk_uLn e]; exact hrf j (by omega) hb })
                    · skip
                      have h5 := (ch_ib _).mp h4
                      rw [h5] at hrc
                      have hrc : ch_rest w (64 - c) = ch_rest w (64 - (c + 1)) := hrc
                      refine gd_iinc hX 3 [(3, .int (nI (c + 1))), (0, .ref h), (1, .int (nI (left - o))), (2, .int (nI a1)), (4, .long (v + ch_un u)), (6, .int (if false then 1 else 0)), (7, .int (nI o)), (11, .int (nI k))] 274 dd_Mo_wrongAt_274 rfl (gd_inc c) (by decide) rfl ?_
                      refine gd_goto hX 277 265 dd_Mo_wrongAt_277 (by decide) ?_
                      refine gd_lvs [(0, .ref h), (1, .int (nI (left - o))), (2, .int (nI a1)), (3, .int (nI (c + 1))), (4, .long (v + ch_un u)), (6, .int (if false then 1 else 0)), (7, .int (nI o)), (11, .int (nI k))] [1, 2, 3, 0, 4, 5, 6, 7] rfl ?_
                      rw [ch_cells_skip L hc9 h5] at hRR
                      exact ihm (c + 1) (by omega) (by omega) hRR (fun j hj hb => by by_cases e : j = c; { subst e; rw [h5] at hb; cases hb }; { exact hrf j (by omega) hb })
                refine gd_iload hX 258 dd_Mo_wrongAt_258 rfl ?_
                refine gd_iload hX 260 dd_Mo_wrongAt_260 rfl ?_
                refine gd_icmp_ge hX 262 297 dd_Mo_wrongAt_262 (by decide) (fun h3 => ?_) (fun h3 => ?_)
                · skip
                  exact absurd ((nI_leI (by omega) (by omega)).mp h3) (by omega)
                · skip
                  exact skip (64 - c) c (by omega) hrest hRR hrf
            have go : ∀ (u : Int64) (a1 : Nat), ch_rd L q 10 (a + 1) 0 = (a1, some u) → gd_W X K 0 0 [gd_ob 5 h [.int er, .ref va, .ref re, .ref fu, .ref wi, .ref ma, .ref wo, .ref fd, .int mm, .int wm, .int (nI L.length), .int pl], gd_aZ K wi 64 wl, gd_aJ K re 64 rf, gd_aI K fd 1000 ff] [(0, .ref h), (1, .int (nI left)), (2, .int (nI a1)), (3, .int (nI c)), (4, .long v), (6, .int (if q then 1 else 0)), (7, .int (nI o)), (9, .long u)] [] 232 := by
              intro u a1 hrd
              have ha1 : a1 ≤ L.length := by have := ch_rd_le L q 10 (a + 1) 0 (by omega); rw [hrd] at this; exact this
              rw [ch_cells_go L w _ _ _ _ _ _ _ _ (by omega) hbad hrd, ← ho] at hRR
              refine gd_lload hX 232 dd_Mo_wrongAt_232 rfl ?_
              refine gd_lload hX 234 dd_Mo_wrongAt_234 rfl ?_
              refine gd_iconst hX 236 dd_Mo_wrongAt_236 (v := 1) (by decide) ?_
              refine gd_lushr hX 237 dd_Mo_wrongAt_237 ?_
              refine gd_lload hX 238 dd_Mo_wrongAt_238 rfl ?_
              refine gd_lconst hX 240 dd_Mo_wrongAt_240 (v := 1) (by decide) ?_
              refine gd_land hX 241 dd_Mo_wrongAt_241 ?_
              refine gd_lneg hX 242 dd_Mo_wrongAt_242 ?_
              refine gd_lxor hX 243 dd_Mo_wrongAt_243 ?_
              refine gd_ladd hX 244 dd_Mo_wrongAt_244 ?_
              refine gd_eql (show (v + (((u.toUInt64 >>> ((1 : Int32).toInt64.toUInt64 &&& Int64.toUInt64 63)).toInt64) ^^^ (-(u &&& 1))) : Int64) = v + ch_un u from rfl) ?_
              refine gd_lstore hX [(4, .long (v + ch_un u)), (0, .ref h), (1, .int (nI left)), (2, .int (nI a1)), (3, .int (nI c)), (6, .int (if q then 1 else 0)), (7, .int (nI o)), (9, .long u)] 245 dd_Mo_wrongAt_245 (by decide) rfl ?_
              refine gd_iconst hX 247 dd_Mo_wrongAt_247 (v := 0) (by decide) ?_
              refine gd_eqi (show (0 : Int32) = (if false then 1 else 0) from rfl) ?_
              refine gd_istore hX [(6, .int (if false then 1 else 0)), (4, .long (v + ch_un u)), (0, .ref h), (1, .int (nI left)), (2, .int (nI a1)), (3, .int (nI c)), (7, .int (nI o)), (9, .long u)] 248 dd_Mo_wrongAt_248 (by decide) rfl ?_
              refine gd_iload_n hX 250 dd_Mo_wrongAt_250 rfl ?_
              refine gd_iload hX 251 dd_Mo_wrongAt_251 rfl ?_
              refine gd_isub hX 253 dd_Mo_wrongAt_253 ?_
              refine gd_eqi (show ((nI left) - (nI o) : Int32) = nI (left - o) from pk_sub (by omega)) ?_
              refine gd_istore_n hX [(1, .int (nI (left - o))), (6, .int (if false then 1 else 0)), (4, .long (v + ch_un u)), (0, .ref h), (2, .int (nI a1)), (3, .int (nI c)), (7, .int (nI o)), (9, .long u)] 254 dd_Mo_wrongAt_254 rfl (by decide) rfl ?_
              refine gd_iconst hX 255 dd_Mo_wrongAt_255 (v := 0) (by decide) ?_
              refine gd_eqi (show (0 : Int32) = nI 0 from rfl) ?_
              refine gd_istore hX [(11, .int (nI 0)), (1, .int (nI (left - o))), (6, .int (if false then 1 else 0)), (4, .long (v + ch_un u)), (0, .ref h), (2, .int (nI a1)), (3, .int (nI c)), (7, .int (nI o)), (9, .long u)] 256 dd_Mo_wrongAt_256 (by decide) rfl ?_
              refine gd_lvs [(0, .ref h), (1, .int (nI (left - o))), (2, .int (nI a1)), (3, .int (nI c)), (4, .long (v + ch_un u)), (6, .int (if false then 1 else 0)), (7, .int (nI o)), (11, .int (nI 0))] [4, 1, 5, 6, 3, 2, 7, 0] rfl ?_
              exact fill u a1 ha1 o 0 c G rf (by omega) hc (by omega) hRR hrf
            have num : ∀ (n a2 : Nat) (u : Int64), n ≤ 9 → a2 ≤ L.length → ch_rd L q 10 (a + 1) 0 = ch_rd L q (n + 1) a2 u → gd_W X K 0 0 [gd_ob 5 h [.int er, .ref va, .ref re, .ref fu, .ref wi, .ref ma, .ref wo, .ref fd, .int mm, .int wm, .int (nI L.length), .int pl], gd_aZ K wi 64 wl, gd_aJ K re 64 rf, gd_aI K fd 1000 ff] [(0, .ref h), (1, .int (nI left)), (2, .int (nI a2)), (3, .int (nI c)), (4, .long v), (6, .int (if q then 1 else 0)), (7, .int (nI o)), (8, .int (nI (9 - n))), (9, .long u)] [] 141 := by
              intro n
              induction n with
              | zero =>
                intro a2 u hn ha2 hrd
                rw [ch_rd_S L q 0 a2 u] at hrd
                refine gd_iload_n hX 141 dd_Mo_wrongAt_141 rfl ?_
                refine gd_aload_n hX 142 dd_Mo_wrongAt_142 rfl ?_
                refine gd_get hX inC_Mo 0 10 143 dd_Mo_wrongAt_143 rfl rfl (by decide) kw_418 rfl ?_
                refine gd_icmp_ne hX 146 151 dd_Mo_wrongAt_146 (by decide) (fun h3 => ?_) (fun h3 => ?_)
                · skip
                  have hl2 : a2 < L.length := Nat.lt_of_le_of_ne ha2 (fun e => h3 (by rw [e]))
                  rw [if_neg (by omega)] at hrd
                  have hc8 : L.getD a2 0 < 256 := hO9 a2
                  refine gd_aload_n hX 151 dd_Mo_wrongAt_151 rfl ?_
                  refine gd_get hX inC_Mo 0 7 152 dd_Mo_wrongAt_152 rfl rfl (by decide) kw_415 rfl ?_
                  refine gd_iload_n hX 155 dd_Mo_wrongAt_155 rfl ?_
                  refine gd_iald hX 3 a2 156 dd_Mo_wrongAt_156 rfl rfl (by omega) (by decide) ?_
                  refine gd_eqi (show (ff a2 : Int32) = nI (L.getD a2 0) from hI a2 hl2) ?_
                  refine gd_istore hX [(11, .int (nI (L.getD a2 0))), (0, .ref h), (1, .int (nI left)), (2, .int (nI a2)), (3, .int (nI c)), (4, .long v), (6, .int (if q then 1 else 0)), (7, .int (nI o)), (8, .int (nI (9 - 0))), (9, .long u)] 157 dd_Mo_wrongAt_157 (by decide) rfl ?_
                  have at174 : (0 = 0 → L.getD a2 0 = 1) → gd_W X K 0 0 [gd_ob 5 h [.int er, .ref va, .ref re, .ref fu, .ref wi, .ref ma, .ref wo, .ref fd, .int mm, .int wm, .int (nI L.length), .int pl], gd_aZ K wi 64 wl, gd_aJ K re 64 rf, gd_aI K fd 1000 ff] [(0, .ref h), (1, .int (nI left)), (2, .int (nI a2)), (3, .int (nI c)), (4, .long v), (6, .int (if q then 1 else 0)), (7, .int (nI o)), (8, .int (nI (9 - 0))), (9, .long u), (11, .int (nI (L.getD a2 0)))] [] 174 := by
                    intro h9
                    rw [if_neg (fun z => z.2 (h9 z.1))] at hrd
                    refine gd_lload hX 174 dd_Mo_wrongAt_174 rfl ?_
                    refine gd_iload hX 176 dd_Mo_wrongAt_176 rfl ?_
                    refine gd_bipush hX 178 dd_Mo_wrongAt_178 (v := 127) (by decide) ?_
                    refine gd_iand hX 180 dd_Mo_wrongAt_180 ?_
                    refine gd_eqi (show ((nI (L.getD a2 0)) &&& 127 : Int32) = nI (L.getD a2 0 % 128) from pk_andN (m := 127) (by omega) 7 (by decide)) ?_
                    refine gd_i2l hX 181 dd_Mo_wrongAt_181 ?_
                    refine gd_bipush hX 182 dd_Mo_wrongAt_182 (v := 7) (by decide) ?_
                    refine gd_iload hX 184 dd_Mo_wrongAt_184 rfl ?_
                    refine gd_imul hX 186 dd_Mo_wrongAt_186 ?_
                    refine gd_eqi (show (7 * (nI (9 - 0)) : Int32) = nI (7 * (9 - 0)) from by rw [show (7 : Int32) = nI 7 from rfl, pk_mul]) ?_
                    refine gd_lshl hX 187 dd_Mo_wrongAt_187 ?_
                    refine gd_lor hX 188 dd_Mo_wrongAt_188 ?_
                    refine gd_eql (show (u ||| (((nI (L.getD a2 0 % 128)).toInt64) <<< ((nI (7 * (9 - 0))).toInt64 &&& 63)) : Int64) = ch_sh7 u (L.getD a2 0) (9 - 0) from rfl) ?_
                    refine gd_lstore hX [(9, .long (ch_sh7 u (L.getD a2 0) (9 - 0))), (0, .ref h), (1, .int (nI left)), (2, .int (nI a2)), (3, .int (nI c)), (4, .long v), (6, .int (if q then 1 else 0)), (7, .int (nI o)), (8, .int (nI (9 - 0))), (11, .int (nI (L.getD a2 0)))] 189 dd_Mo_wrongAt_189 (by decide) rfl ?_
                    refine gd_iinc hX 8 [(8, .int (nI ((9 - 0) + 1))), (9, .long (ch_sh7 u (L.getD a2 0) (9 - 0))), (0, .ref h), (1, .int (nI left)), (2, .int (nI a2)), (3, .int (nI c)), (4, .long v), (6, .int (if q then 1 else 0)), (7, .int (nI o)), (11, .int (nI (L.getD a2 0)))] 191 dd_Mo_wrongAt_191 rfl (gd_inc (9 - 0)) (by decide) rfl ?_
                    refine gd_iload hX 194 dd_Mo_wrongAt_194 rfl ?_
                    refine gd_sipush hX 196 dd_Mo_wrongAt_196 (v := 128) (by decide) ?_
                    refine gd_icmp_lt hX 199 208 dd_Mo_wrongAt_199 (by decide) (fun h5 => ?_) (fun h5 => ?_)
                    · skip
                      have hc1 : ¬ 128 ≤ L.getD a2 0 := Nat.not_le_of_lt ((nI_ltI (b := 128) (by omega) (by decide)).mp h5)
                      rw [if_neg hc1] at hrd
                      have at226 : ¬ (L.getD a2 0 = 0 ∧ (0 ≠ 9 ∨ q = false)) → gd_W X K 0 0 [gd_ob 5 h [.int er, .ref va, .ref re, .ref fu, .ref wi, .ref ma, .ref wo, .ref fd, .int mm, .int wm, .int (nI L.length), .int pl], gd_aZ K wi 64 wl, gd_aJ K re 64 rf, gd_aI K fd 1000 ff] [(8, .int (nI ((9 - 0) + 1))), (9, .long (ch_sh7 u (L.getD a2 0) (9 - 0))), (0, .ref h), (1, .int (nI left)), (2, .int (nI a2)), (3, .int (nI c)), (4, .long v), (6, .int (if q then 1 else 0)), (7, .int (nI o)), (11, .int (nI (L.getD a2 0)))] [] 226 := by
                        intro hz9
                        rw [if_neg hz9] at hrd
                        refine gd_iinc hX 4 [(2, .int (nI (a2 + 1))), (8, .int (nI ((9 - 0) + 1))), (9, .long (ch_sh7 u (L.getD a2 0) (9 - 0))), (0, .ref h), (1, .int (nI left)), (3, .int (nI c)), (4, .long v), (6, .int (if q then 1 else 0)), (7, .int (nI o)), (11, .int (nI (L.getD a2 0)))] 226 dd_Mo_wrongAt_226 rfl (gd_inc a2) (by decide) rfl ?_
                        refine gd_goto hX 229 232 dd_Mo_wrongAt_229 (by decide) ?_
                        refine gd_lvs [(0, .ref h), (1, .int (nI left)), (2, .int (nI (a2 + 1))), (3, .int (nI c)), (4, .long v), (6, .int (if q then 1 else 0)), (7, .int (nI o)), (9, .long (ch_sh7 u (L.getD a2 0) (9 - 0)))] [3, 4, 0, 5, 6, 7, 8, 2] rfl ?_
                        exact go _ _ hrd
                      have at224 : (L.getD a2 0 = 0 ∧ (0 ≠ 9 ∨ q = false)) → gd_W X K 0 0 [gd_ob 5 h [.int er, .ref va, .ref re, .ref fu, .ref wi, .ref ma, .ref wo, .ref fd, .int mm, .int wm, .int (nI L.length), .int pl], gd_aZ K wi 64 wl, gd_aJ K re 64 rf, gd_aI K fd 1000 ff] [(8, .int (nI ((9 - 0) + 1))), (9, .long (ch_sh7 u (L.getD a2 0) (9 - 0))), (0, .ref h), (1, .int (nI left)), (2, .int (nI a2)), (3, .int (nI c)), (4, .long v), (6, .int (if q then 1 else 0)), (7, .int (nI o)), (11, .int (nI (L.getD a2 0)))] [] 224 := by
                        intro hz9
                        rw [if_pos hz9] at hrd
                        refine gd_iload_n hX 224 dd_Mo_wrongAt_224 rfl ?_
                        have hrd9 : ch_rd L q 10 (a + 1) 0 = (a2, none) := by exact hrd
                        have hRs : R = (a2, none) := by rw [hRR]; exact ch_cells_badn L w _ _ _ _ _ _ _ (by omega) hbad hrd9
                        rw [hRs] at hd
                        have hdd : ch_dec L = (a2, none) := hd
                        exact gd_iret hX hE 225 dd_Mo_wrongAt_225 ⟨by rw [ch_pl_n hdd], _, _, rfl, by rw [hdd]; exact fun z hz => nomatch hz⟩
                      refine gd_iload hX 208 dd_Mo_wrongAt_208 rfl ?_
                      refine gd_if_ne hX 210 226 dd_Mo_wrongAt_210 (by decide) (fun h6 => ?_) (fun h6 => ?_)
                      · skip
                        exact at226 (fun z => h6 (by rw [z.1]; rfl))
                      · skip
                        have hz0 : L.getD a2 0 = 0 := nI_0' (by omega) h6
                        refine gd_iload hX 213 dd_Mo_wrongAt_213 rfl ?_
                        refine gd_iconst hX 215 dd_Mo_wrongAt_215 (v := 1) (by decide) ?_
                        refine gd_icmp_gt hX 216 224 dd_Mo_wrongAt_216 (by decide) (fun h7 => ?_) (fun h7 => ?_)
                        · skip
                          have h8b := (nI_ltI (a := 1) (by decide) (by omega)).mp h7
                          exact at224 ⟨hz0, Or.inl (by omega)⟩
                        · skip
                          exact absurd ((nI_ltI (a := 1) (by decide) (by decide)).mpr (by decide)) h7
                    · skip
                      have hc1 : 128 ≤ L.getD a2 0 := Nat.le_of_not_lt (fun z => h5 ((nI_ltI (b := 128) (by omega) (by decide)).mpr z))
                      have := h9 rfl
                      omega
                  refine gd_iload hX 159 dd_Mo_wrongAt_159 rfl ?_
                  refine gd_bipush hX 161 dd_Mo_wrongAt_161 (v := 9) (by decide) ?_
                  refine gd_icmp_ne hX 163 174 dd_Mo_wrongAt_163 (by decide) (fun h5 => ?_) (fun h5 => ?_)
                  · skip
                    refine gd_lvs [(0, .ref h), (1, .int (nI left)), (2, .int (nI a2)), (3, .int (nI c)), (4, .long v), (6, .int (if q then 1 else 0)), (7, .int (nI o)), (8, .int (nI (9 - 0))), (9, .long u), (11, .int (nI (L.getD a2 0)))] [1, 2, 3, 4, 5, 6, 7, 8, 9, 0] rfl ?_
                    exact absurd rfl h5
                  · skip
                    refine gd_iload hX 166 dd_Mo_wrongAt_166 rfl ?_
                    refine gd_iconst hX 168 dd_Mo_wrongAt_168 (v := 1) (by decide) ?_
                    refine gd_icmp_eq hX 169 174 dd_Mo_wrongAt_169 (by decide) (fun h6 => ?_) (fun h6 => ?_)
                    · skip
                      refine gd_lvs [(0, .ref h), (1, .int (nI left)), (2, .int (nI a2)), (3, .int (nI c)), (4, .long v), (6, .int (if q then 1 else 0)), (7, .int (nI o)), (8, .int (nI (9 - 0))), (9, .long u), (11, .int (nI (L.getD a2 0)))] [1, 2, 3, 4, 5, 6, 7, 8, 9, 0] rfl ?_
                      exact at174 (fun _ => (nI_eq (by omega) (by decide)).mp h6)
                    · skip
                      refine gd_iload_n hX 172 dd_Mo_wrongAt_172 rfl ?_
                      have hrd9 : ch_rd L q 10 (a + 1) 0 = (a2, none) := by rw [hrd, if_pos ⟨rfl, fun e => h6 (by rw [e]; rfl)⟩]
                      have hRs : R = (a2, none) := by rw [hRR]; exact ch_cells_badn L w _ _ _ _ _ _ _ (by omega) hbad hrd9
                      rw [hRs] at hd
                      have hdd : ch_dec L = (a2, none) := hd
                      exact gd_iret hX hE 173 dd_Mo_wrongAt_173 ⟨by rw [ch_pl_n hdd], _, _, rfl, by rw [hdd]; exact fun z hz => nomatch hz⟩
                · skip
                  have hl2 : L.length ≤ a2 := Nat.le_of_eq ((nI_eq (by omega) (by omega)).mp h3).symm
                  refine gd_iload_n hX 149 dd_Mo_wrongAt_149 rfl ?_
                  have hrd9 : ch_rd L q 10 (a + 1) 0 = (a2, none) := by rw [hrd, if_pos hl2]
                  have hRs : R = (a2, none) := by rw [hRR]; exact ch_cells_badn L w _ _ _ _ _ _ _ (by omega) hbad hrd9
                  rw [hRs] at hd
                  have hdd : ch_dec L = (a2, none) := hd
                  exact gd_iret hX hE 150 dd_Mo_wrongAt_150 ⟨by rw [ch_pl_n hdd], _, _, rfl, by rw [hdd]; exact fun z hz => nomatch hz⟩
              | succ n ihn =>
                intro a2 u hn ha2 hrd
                rw [ch_rd_S L q (n + 1) a2 u] at hrd
                refine gd_iload_n hX 141 dd_Mo_wrongAt_141 rfl ?_
                refine gd_aload_n hX 142 dd_Mo_wrongAt_142 rfl ?_
                refine gd_get hX inC_Mo 0 10 143 dd_Mo_wrongAt_143 rfl rfl (by decide) kw_418 rfl ?_
                refine gd_icmp_ne hX 146 151 dd_Mo_wrongAt_146 (by decide) (fun h3 => ?_) (fun h3 => ?_)
                · skip
                  have hl2 : a2 < L.length := Nat.lt_of_le_of_ne ha2 (fun e => h3 (by rw [e]))
                  rw [if_neg (by omega)] at hrd
                  have hc8 : L.getD a2 0 < 256 := hO9 a2
                  refine gd_aload_n hX 151 dd_Mo_wrongAt_151 rfl ?_
                  refine gd_get hX inC_Mo 0 7 152 dd_Mo_wrongAt_152 rfl rfl (by decide) kw_415 rfl ?_
                  refine gd_iload_n hX 155 dd_Mo_wrongAt_155 rfl ?_
                  refine gd_iald hX 3 a2 156 dd_Mo_wrongAt_156 rfl rfl (by omega) (by decide) ?_
                  refine gd_eqi (show (ff a2 : Int32) = nI (L.getD a2 0) from hI a2 hl2) ?_
                  refine gd_istore hX [(11, .int (nI (L.getD a2 0))), (0, .ref h), (1, .int (nI left)), (2, .int (nI a2)), (3, .int (nI c)), (4, .long v), (6, .int (if q then 1 else 0)), (7, .int (nI o)), (8, .int (nI (9 - (n + 1)))), (9, .long u)] 157 dd_Mo_wrongAt_157 (by decide) rfl ?_
                  have at174 : ((n + 1) = 0 → L.getD a2 0 = 1) → gd_W X K 0 0 [gd_ob 5 h [.int er, .ref va, .ref re, .ref fu, .ref wi, .ref ma, .ref wo, .ref fd, .int mm, .int wm, .int (nI L.length), .int pl], gd_aZ K wi 64 wl, gd_aJ K re 64 rf, gd_aI K fd 1000 ff] [(0, .ref h), (1, .int (nI left)), (2, .int (nI a2)), (3, .int (nI c)), (4, .long v), (6, .int (if q then 1 else 0)), (7, .int (nI o)), (8, .int (nI (9 - (n + 1)))), (9, .long u), (11, .int (nI (L.getD a2 0)))] [] 174 := by
                    intro h9
                    rw [if_neg (fun z => z.2 (h9 z.1))] at hrd
                    refine gd_lload hX 174 dd_Mo_wrongAt_174 rfl ?_
                    refine gd_iload hX 176 dd_Mo_wrongAt_176 rfl ?_
                    refine gd_bipush hX 178 dd_Mo_wrongAt_178 (v := 127) (by decide) ?_
                    refine gd_iand hX 180 dd_Mo_wrongAt_180 ?_
                    refine gd_eqi (show ((nI (L.getD a2 0)) &&& 127 : Int32) = nI (L.getD a2 0 % 128) from pk_andN (m := 127) (by omega) 7 (by decide)) ?_
                    refine gd_i2l hX 181 dd_Mo_wrongAt_181 ?_
                    refine gd_bipush hX 182 dd_Mo_wrongAt_182 (v := 7) (by decide) ?_
                    refine gd_iload hX 184 dd_Mo_wrongAt_184 rfl ?_
                    refine gd_imul hX 186 dd_Mo_wrongAt_186 ?_
                    refine gd_eqi (show (7 * (nI (9 - (n + 1))) : Int32) = nI (7 * (9 - (n + 1))) from by rw [show (7 : Int32) = nI 7 from rfl, pk_mul]) ?_
                    refine gd_lshl hX 187 dd_Mo_wrongAt_187 ?_
                    refine gd_lor hX 188 dd_Mo_wrongAt_188 ?_
                    refine gd_eql (show (u ||| (((nI (L.getD a2 0 % 128)).toInt64) <<< ((nI (7 * (9 - (n + 1)))).toInt64 &&& 63)) : Int64) = ch_sh7 u (L.getD a2 0) (9 - (n + 1)) from rfl) ?_
                    refine gd_lstore hX [(9, .long (ch_sh7 u (L.getD a2 0) (9 - (n + 1)))), (0, .ref h), (1, .int (nI left)), (2, .int (nI a2)), (3, .int (nI c)), (4, .long v), (6, .int (if q then 1 else 0)), (7, .int (nI o)), (8, .int (nI (9 - (n + 1)))), (11, .int (nI (L.getD a2 0)))] 189 dd_Mo_wrongAt_189 (by decide) rfl ?_
                    refine gd_iinc hX 8 [(8, .int (nI ((9 - (n + 1)) + 1))), (9, .long (ch_sh7 u (L.getD a2 0) (9 - (n + 1)))), (0, .ref h), (1, .int (nI left)), (2, .int (nI a2)), (3, .int (nI c)), (4, .long v), (6, .int (if q then 1 else 0)), (7, .int (nI o)), (11, .int (nI (L.getD a2 0)))] 191 dd_Mo_wrongAt_191 rfl (gd_inc (9 - (n + 1))) (by decide) rfl ?_
                    refine gd_iload hX 194 dd_Mo_wrongAt_194 rfl ?_
                    refine gd_sipush hX 196 dd_Mo_wrongAt_196 (v := 128) (by decide) ?_
                    refine gd_icmp_lt hX 199 208 dd_Mo_wrongAt_199 (by decide) (fun h5 => ?_) (fun h5 => ?_)
                    · skip
                      have hc1 : ¬ 128 ≤ L.getD a2 0 := Nat.not_le_of_lt ((nI_ltI (b := 128) (by omega) (by decide)).mp h5)
                      rw [if_neg hc1] at hrd
                      have at226 : ¬ (L.getD a2 0 = 0 ∧ ((n + 1) ≠ 9 ∨ q = false)) → gd_W X K 0 0 [gd_ob 5 h [.int er, .ref va, .ref re, .ref fu, .ref wi, .ref ma, .ref wo, .ref fd, .int mm, .int wm, .int (nI L.length), .int pl], gd_aZ K wi 64 wl, gd_aJ K re 64 rf, gd_aI K fd 1000 ff] [(8, .int (nI ((9 - (n + 1)) + 1))), (9, .long (ch_sh7 u (L.getD a2 0) (9 - (n + 1)))), (0, .ref h), (1, .int (nI left)), (2, .int (nI a2)), (3, .int (nI c)), (4, .long v), (6, .int (if q then 1 else 0)), (7, .int (nI o)), (11, .int (nI (L.getD a2 0)))] [] 226 := by
                        intro hz9
                        rw [if_neg hz9] at hrd
                        refine gd_iinc hX 4 [(2, .int (nI (a2 + 1))), (8, .int (nI ((9 - (n + 1)) + 1))), (9, .long (ch_sh7 u (L.getD a2 0) (9 - (n + 1)))), (0, .ref h), (1, .int (nI left)), (3, .int (nI c)), (4, .long v), (6, .int (if q then 1 else 0)), (7, .int (nI o)), (11, .int (nI (L.getD a2 0)))] 226 dd_Mo_wrongAt_226 rfl (gd_inc a2) (by decide) rfl ?_
                        refine gd_goto hX 229 232 dd_Mo_wrongAt_229 (by decide) ?_
                        refine gd_lvs [(0, .ref h), (1, .int (nI left)), (2, .int (nI (a2 + 1))), (3, .int (nI c)), (4, .long v), (6, .int (if q then 1 else 0)), (7, .int (nI o)), (9, .long (ch_sh7 u (L.getD a2 0) (9 - (n + 1))))] [3, 4, 0, 5, 6, 7, 8, 2] rfl ?_
                        exact go _ _ hrd
                      have at224 : (L.getD a2 0 = 0 ∧ ((n + 1) ≠ 9 ∨ q = false)) → gd_W X K 0 0 [gd_ob 5 h [.int er, .ref va, .ref re, .ref fu, .ref wi, .ref ma, .ref wo, .ref fd, .int mm, .int wm, .int (nI L.length), .int pl], gd_aZ K wi 64 wl, gd_aJ K re 64 rf, gd_aI K fd 1000 ff] [(8, .int (nI ((9 - (n + 1)) + 1))), (9, .long (ch_sh7 u (L.getD a2 0) (9 - (n + 1)))), (0, .ref h), (1, .int (nI left)), (2, .int (nI a2)), (3, .int (nI c)), (4, .long v), (6, .int (if q then 1 else 0)), (7, .int (nI o)), (11, .int (nI (L.getD a2 0)))] [] 224 := by
                        intro hz9
                        rw [if_pos hz9] at hrd
                        refine gd_iload_n hX 224 dd_Mo_wrongAt_224 rfl ?_
                        have hrd9 : ch_rd L q 10 (a + 1) 0 = (a2, none) := by exact hrd
                        have hRs : R = (a2, none) := by rw [hRR]; exact ch_cells_badn L w _ _ _ _ _ _ _ (by omega) hbad hrd9
                        rw [hRs] at hd
                        have hdd : ch_dec L = (a2, none) := hd
                        exact gd_iret hX hE 225 dd_Mo_wrongAt_225 ⟨by rw [ch_pl_n hdd], _, _, rfl, by rw [hdd]; exact fun z hz => nomatch hz⟩
                      refine gd_iload hX 208 dd_Mo_wrongAt_208 rfl ?_
                      refine gd_if_ne hX 210 226 dd_Mo_wrongAt_210 (by decide) (fun h6 => ?_) (fun h6 => ?_)
                      · skip
                        exact at226 (fun z => h6 (by rw [z.1]; rfl))
                      · skip
                        have hz0 : L.getD a2 0 = 0 := nI_0' (by omega) h6
                        refine gd_iload hX 213 dd_Mo_wrongAt_213 rfl ?_
                        refine gd_iconst hX 215 dd_Mo_wrongAt_215 (v := 1) (by decide) ?_
                        refine gd_icmp_gt hX 216 224 dd_Mo_wrongAt_216 (by decide) (fun h7 => ?_) (fun h7 => ?_)
                        · skip
                          have h8b := (nI_ltI (a := 1) (by decide) (by omega)).mp h7
                          exact at224 ⟨hz0, Or.inl (by omega)⟩
                        · skip
                          have h8b : (n + 1) = 9 := by have h9b : ¬ 1 < 9 - (n + 1) + 1 := fun z => h7 ((nI_ltI (a := 1) (by decide) (by omega)).mpr z); omega
                          refine gd_iload hX 219 dd_Mo_wrongAt_219 rfl ?_
                          refine gd_if_ne hX 221 226 dd_Mo_wrongAt_221 (by decide) (fun h8 => ?_) (fun h8 => ?_)
                          · skip
                            have h9c := (ch_ifb _).mp h8
                            exact at226 (fun z => by rcases z.2 with z | z; { exact z h8b }; { rw [h9c] at z; cases z })
                          · skip
                            have h9c := (ch_ib _).mp h8
                            exact at224 ⟨hz0, Or.inr h9c⟩
                    · skip
                      have hc1 : 128 ≤ L.getD a2 0 := Nat.le_of_not_lt (fun z => h5 ((nI_ltI (b := 128) (by omega) (by decide)).mpr z))
                      rw [if_pos hc1] at hrd
                      refine gd_iinc hX 4 [(2, .int (nI (a2 + 1))), (8, .int (nI ((9 - (n + 1)) + 1))), (9, .long (ch_sh7 u (L.getD a2 0) (9 - (n + 1)))), (0, .ref h), (1, .int (nI left)), (3, .int (nI c)), (4, .long v), (6, .int (if q then 1 else 0)), (7, .int (nI o)), (11, .int (nI (L.getD a2 0)))] 202 dd_Mo_wrongAt_202 rfl (gd_inc a2) (by decide) rfl ?_
                      refine gd_goto hX 205 141 dd_Mo_wrongAt_205 (by decide) ?_
                      have e9 : 9 - (n + 1) + 1 = 9 - n := by omega
                      rw [e9]
                      refine gd_lvs [(0, .ref h), (1, .int (nI left)), (2, .int (nI (a2 + 1))), (3, .int (nI c)), (4, .long v), (6, .int (if q then 1 else 0)), (7, .int (nI o)), (8, .int (nI (9 - n))), (9, .long (ch_sh7 u (L.getD a2 0) (9 - (n + 1))))] [3, 4, 0, 5, 6, 7, 8, 1, 2] rfl ?_
                      exact ihn (a2 + 1) _ (by omega) (by omega) hrd
                  refine gd_iload hX 159 dd_Mo_wrongAt_159 rfl ?_
                  refine gd_bipush hX 161 dd_Mo_wrongAt_161 (v := 9) (by decide) ?_
                  refine gd_icmp_ne hX 163 174 dd_Mo_wrongAt_163 (by decide) (fun h5 => ?_) (fun h5 => ?_)
                  · skip
                    refine gd_lvs [(0, .ref h), (1, .int (nI left)), (2, .int (nI a2)), (3, .int (nI c)), (4, .long v), (6, .int (if q then 1 else 0)), (7, .int (nI o)), (8, .int (nI (9 - (n + 1)))), (9, .long u), (11, .int (nI (L.getD a2 0)))] [1, 2, 3, 4, 5, 6, 7, 8, 9, 0] rfl ?_
                    exact at174 (fun z => absurd z (by omega))
                  · skip
                    have h6 := (nI_eq (b := 9) (by omega) (by decide)).mp h5
                    omega
                · skip
                  have hl2 : L.length ≤ a2 := Nat.le_of_eq ((nI_eq (by omega) (by omega)).mp h3).symm
                  refine gd_iload_n hX 149 dd_Mo_wrongAt_149 rfl ?_
                  have hrd9 : ch_rd L q 10 (a + 1) 0 = (a2, none) := by rw [hrd, if_pos hl2]
                  have hRs : R = (a2, none) := by rw [hRR]; exact ch_cells_badn L w _ _ _ _ _ _ _ (by omega) hbad hrd9
                  rw [hRs] at hd
                  have hdd : ch_dec L = (a2, none) := hd
                  exact gd_iret hX hE 150 dd_Mo_wrongAt_150 ⟨by rw [ch_pl_n hdd], _, _, rfl, by rw [hdd]; exact fun z hz => nomatch hz⟩
            refine gd_iload_n hX 94 dd_Mo_wrongAt_94 rfl ?_
            refine gd_aload_n hX 95 dd_Mo_wrongAt_95 rfl ?_
            refine gd_get hX inC_Mo 0 10 96 dd_Mo_wrongAt_96 rfl rfl (by decide) kw_418 rfl ?_
            refine gd_icmp_eq hX 99 122 dd_Mo_wrongAt_99 (by decide) (fun h3 => ?_) (fun h3 => ?_)
            · skip
              exact absurd ((nI_eq (by omega) (by omega)).mp h3) (by omega)
            · skip
              refine gd_aload_n hX 102 dd_Mo_wrongAt_102 rfl ?_
              refine gd_get hX inC_Mo 0 7 103 dd_Mo_wrongAt_103 rfl rfl (by decide) kw_415 rfl ?_
              refine gd_iload_n hX 106 dd_Mo_wrongAt_106 rfl ?_
              refine gd_iald hX 3 a 107 dd_Mo_wrongAt_107 rfl rfl (by omega) (by decide) ?_
              refine gd_eqi (show (ff a : Int32) = nI o from by rw [hI a hlt, ho]) ?_
              refine gd_iconst hX 108 dd_Mo_wrongAt_108 (v := 1) (by decide) ?_
              refine gd_icmp_lt hX 109 122 dd_Mo_wrongAt_109 (by decide) (fun h4 => ?_) (fun h4 => ?_)
              · skip
                exact absurd ((nI_ltI (b := 1) (by omega) (by decide)).mp h4) (by omega)
              · skip
                refine gd_aload_n hX 112 dd_Mo_wrongAt_112 rfl ?_
                refine gd_get hX inC_Mo 0 7 113 dd_Mo_wrongAt_113 rfl rfl (by decide) kw_415 rfl ?_
                refine gd_iload_n hX 116 dd_Mo_wrongAt_116 rfl ?_
                refine gd_iald hX 3 a 117 dd_Mo_wrongAt_117 rfl rfl (by omega) (by decide) ?_
                refine gd_eqi (show (ff a : Int32) = nI o from by rw [hI a hlt, ho]) ?_
                refine gd_iload_n hX 118 dd_Mo_wrongAt_118 rfl ?_
                refine gd_icmp_le hX 119 124 dd_Mo_wrongAt_119 (by decide) (fun h5 => ?_) (fun h5 => ?_)
                · skip
                  refine gd_aload_n hX 124 dd_Mo_wrongAt_124 rfl ?_
                  refine gd_get hX inC_Mo 0 7 125 dd_Mo_wrongAt_125 rfl rfl (by decide) kw_415 rfl ?_
                  refine gd_iload_n hX 128 dd_Mo_wrongAt_128 rfl ?_
                  refine gd_iinc hX 2 [(2, .int (nI (a + 1))), (0, .ref h), (1, .int (nI left)), (3, .int (nI c)), (4, .long v), (6, .int (if q then 1 else 0))] 129 dd_Mo_wrongAt_129 rfl (gd_inc a) (by decide) rfl ?_
                  refine gd_iald hX 3 a 132 dd_Mo_wrongAt_132 rfl rfl (by omega) (by decide) ?_
                  refine gd_eqi (show (ff a : Int32) = nI o from by rw [hI a hlt, ho]) ?_
                  refine gd_istore hX [(7, .int (nI o)), (2, .int (nI (a + 1))), (0, .ref h), (1, .int (nI left)), (3, .int (nI c)), (4, .long v), (6, .int (if q then 1 else 0))] 133 dd_Mo_wrongAt_133 (by decide) rfl ?_
                  refine gd_iconst hX 135 dd_Mo_wrongAt_135 (v := 0) (by decide) ?_
                  refine gd_eqi (show (0 : Int32) = nI (9 - 9) from rfl) ?_
                  refine gd_istore hX [(8, .int (nI (9 - 9))), (7, .int (nI o)), (2, .int (nI (a + 1))), (0, .ref h), (1, .int (nI left)), (3, .int (nI c)), (4, .long v), (6, .int (if q then 1 else 0))] 136 dd_Mo_wrongAt_136 (by decide) rfl ?_
                  refine gd_lconst hX 138 dd_Mo_wrongAt_138 (v := 0) (by decide) ?_
                  refine gd_lstore hX [(9, .long 0), (8, .int (nI (9 - 9))), (7, .int (nI o)), (2, .int (nI (a + 1))), (0, .ref h), (1, .int (nI left)), (3, .int (nI c)), (4, .long v), (6, .int (if q then 1 else 0))] 139 dd_Mo_wrongAt_139 (by decide) rfl ?_
                  refine gd_lvs [(0, .ref h), (1, .int (nI left)), (2, .int (nI (a + 1))), (3, .int (nI c)), (4, .long v), (6, .int (if q then 1 else 0)), (7, .int (nI o)), (8, .int (nI (9 - 9))), (9, .long 0)] [4, 5, 3, 6, 7, 8, 2, 1, 0] rfl ?_
                  exact num 9 (a + 1) 0 (by omega) (by omega) rfl
                · skip
                  exact absurd ((nI_leI (by omega) (by omega)).mpr (by omega)) h5
    have will : ∀ (m i : Nat) (wl : Nat → Int32), m + i = 64 → (∀ j, j < i → wl j = (if ch_bit w j then 1 else 0)) → gd_W X K 0 0 [gd_ob 5 h [.int er, .ref va, .ref re, .ref fu, .ref wi, .ref ma, .ref wo, .ref fd, .int mm, .int wm, .int (nI L.length), .int pl], gd_aZ K wi 64 wl, gd_aJ K re 64 rf, gd_aI K fd 1000 ff] [(0, .ref h), (1, .int (nI (ch_pop w i))), (2, .int (nI 8)), (3, .int (nI 0)), (4, .int (nI i))] [] 24 := by
      intro m
      induction m with
      | zero =>
        intro i wl hi hwl
        obtain rfl : i = 64 := by omega
        refine gd_iload hX 24 dd_Mo_wrongAt_24 rfl ?_
        refine gd_bipush hX 26 dd_Mo_wrongAt_26 (v := 64) (by decide) ?_
        refine gd_icmp_ge hX 28 84 dd_Mo_wrongAt_28 (by decide) (fun h2 => ?_) (fun h2 => ?_)
        · skip
          refine gd_lconst hX 84 dd_Mo_wrongAt_84 (v := 0) (by decide) ?_
          refine gd_lstore hX [(4, .long 0), (0, .ref h), (1, .int (nI (ch_pop w 64))), (2, .int (nI 8)), (3, .int (nI 0))] 85 dd_Mo_wrongAt_85 (by decide) rfl ?_
          refine gd_iconst hX 87 dd_Mo_wrongAt_87 (v := 1) (by decide) ?_
          refine gd_eqi (show (1 : Int32) = (if true then 1 else 0) from rfl) ?_
          refine gd_istore hX [(6, .int (if true then 1 else 0)), (4, .long 0), (0, .ref h), (1, .int (nI (ch_pop w 64))), (2, .int (nI 8)), (3, .int (nI 0))] 88 dd_Mo_wrongAt_88 (by decide) rfl ?_
          refine gd_lvs [(0, .ref h), (1, .int (nI (ch_pop w 64))), (2, .int (nI 8)), (3, .int (nI 0)), (4, .long 0), (6, .int (if true then 1 else 0))] [2, 3, 4, 5, 1, 0] rfl ?_
          have hrp := ch_rest_pop w 64 (by decide)
          have hp0 : ch_pop w (64 - 64) = 0 := rfl
          exact outer wl hwl 64 0 (ch_pop w 64) 0 true 8 (fun _ => 0) rf (ch_pop_le w 64) (by omega) (by rw [Nat.sub_zero]; omega) h8 hR (fun j hj => absurd hj (Nat.not_lt_zero _))
        · skip
          exact absurd (by decide) h2
      | succ m ih =>
        intro i wl hi hwl
        have hbi := hbits i (by omega)
        have hoi := ch_getD_lt hO (i / 8)
        have hps := ch_pop_S w i
        refine gd_iload hX 24 dd_Mo_wrongAt_24 rfl ?_
        refine gd_bipush hX 26 dd_Mo_wrongAt_26 (v := 64) (by decide) ?_
        refine gd_icmp_ge hX 28 84 dd_Mo_wrongAt_28 (by decide) (fun h2 => ?_) (fun h2 => ?_)
        · skip
          exact absurd ((nI_leI (a := 64) (by decide) (by omega)).mp h2) (by omega)
        · skip
          refine gd_aload_n hX 31 dd_Mo_wrongAt_31 rfl ?_
          refine gd_get hX inC_Mo 0 4 32 dd_Mo_wrongAt_32 rfl rfl (by decide) kw_412 rfl ?_
          refine gd_iload hX 35 dd_Mo_wrongAt_35 rfl ?_
          refine gd_aload_n hX 37 dd_Mo_wrongAt_37 rfl ?_
          refine gd_get hX inC_Mo 0 7 38 dd_Mo_wrongAt_38 rfl rfl (by decide) kw_415 rfl ?_
          refine gd_iload hX 41 dd_Mo_wrongAt_41 rfl ?_
          refine gd_bipush hX 43 dd_Mo_wrongAt_43 (v := 8) (by decide) ?_
          refine gd_idiv hX 45 dd_Mo_wrongAt_45 (by decide) ?_
          refine gd_eqi (show ((nI i) / 8 : Int32) = nI (i / 8) from pk_div (d := 8) (by omega) (by decide) (by decide)) ?_
          refine gd_iald hX 3 (i / 8) 46 dd_Mo_wrongAt_46 rfl rfl (by omega) (by decide) ?_
          refine gd_eqi (show (ff (i / 8) : Int32) = nI (L.getD (i / 8) 0) from hI (i / 8) (by omega)) ?_
          refine gd_iload hX 47 dd_Mo_wrongAt_47 rfl ?_
          refine gd_bipush hX 49 dd_Mo_wrongAt_49 (v := 8) (by decide) ?_
          refine gd_irem hX 51 dd_Mo_wrongAt_51 (by decide) ?_
          refine gd_eqi (show ((nI i) - (nI i) / 8 * 8 : Int32) = nI (i % 8) from ch_rem8 (by omega)) ?_
          refine gd_ishr hX 52 dd_Mo_wrongAt_52 ?_
          refine gd_iconst hX 53 dd_Mo_wrongAt_53 (v := 1) (by decide) ?_
          refine gd_iand hX 54 dd_Mo_wrongAt_54 ?_
          refine gd_eqi (show (((nI (L.getD (i / 8) 0)) >>> ((nI (i % 8)) &&& 31)) &&& 1 : Int32) = (if ch_bit w i then 1 else 0) from by rw [ch_ob _ hoi _ (by omega), hbi]) ?_
          refine gd_iconst hX 55 dd_Mo_wrongAt_55 (v := 1) (by decide) ?_
          refine gd_icmp_ne hX 56 63 dd_Mo_wrongAt_56 (by decide) (fun h3 => ?_) (fun h3 => ?_)
          · skip
            have h4 : ch_bit w i = false := by cases hq : ch_bit w i with | false => rfl | true => rw [hq] at h3; exact absurd rfl h3
            refine gd_iconst hX 63 dd_Mo_wrongAt_63 (v := 0) (by decide) ?_
            refine gd_eqi (show (0 : Int32) = (if ch_bit w i then 1 else 0) from by rw [h4]; rfl) ?_
            refine gd_zast hX 1 i [gd_ob 5 h [.int er, .ref va, .ref re, .ref fu, .ref wi, .ref ma, .ref wo, .ref fd, .int mm, .int wm, .int (nI L.length), .int pl], gd_aZ K wi 64 (upd wl i (vp_nar .boolean (if ch_bit w i then 1 else 0))), gd_aJ K re 64 rf, gd_aI K fd 1000 ff] 64 dd_Mo_wrongAt_64 rfl rfl (by omega) (by decide) rfl ?_
            refine gd_aload_n hX 65 dd_Mo_wrongAt_65 rfl ?_
            refine gd_get hX inC_Mo 0 4 66 dd_Mo_wrongAt_66 rfl rfl (by decide) kw_412 rfl ?_
            refine gd_iload hX 69 dd_Mo_wrongAt_69 rfl ?_
            refine gd_zald hX 1 i 71 dd_Mo_wrongAt_71 rfl rfl (by omega) (by decide) ?_
            refine gd_eqi (show ((upd wl i (vp_nar .boolean (if ch_bit w i then 1 else 0))) i : Int32) = (if ch_bit w i then 1 else 0) from by rw [pk_us, ch_narz]) ?_
            refine gd_if_eq hX 72 78 dd_Mo_wrongAt_72 (by decide) (fun h5 => ?_) (fun h5 => ?_)
            · skip
              have h6 := (ch_ib _).mp h5
              rw [h6] at hps
              have hps : ch_pop w (i + 1) = ch_pop w i := hps
              refine gd_iinc hX 4 [(4, .int (nI (i + 1))), (0, .ref h), (1, .int (nI (ch_pop w i))), (2, .int (nI 8)), (3, .int (nI 0))] 78 dd_Mo_wrongAt_78 rfl (gd_inc i) (by decide) rfl ?_
              refine gd_goto hX 81 24 dd_Mo_wrongAt_81 (by decide) ?_
              refine gd_lvs [(0, .ref h), (1, .int (nI (ch_pop w i))), (2, .int (nI 8)), (3, .int (nI 0)), (4, .int (nI (i + 1)))] [1, 2, 3, 4, 0] rfl ?_
              rw [← hps]
              exact ih (i + 1) _ (by omega) (fun j hj => by by_cases e : j = i; { subst e; rw [pk_us, ch_narz] }; { rw [pk_un e]; exact hwl j (by omega) })
            · skip
              have h6 := (ch_ifb _).mp h5
              rw [h6, if_pos rfl] at hps
              refine gd_iinc hX 1 [(1, .int (nI ((ch_pop w i) + 1))), (0, .ref h), (2, .int (nI 8)), (3, .int (nI 0)), (4, .int (nI i))] 75 dd_Mo_wrongAt_75 rfl (gd_inc (ch_pop w i)) (by decide) rfl ?_
              refine gd_iinc hX 4 [(4, .int (nI (i + 1))), (1, .int (nI ((ch_pop w i) + 1))), (0, .ref h), (2, .int (nI 8)), (3, .int (nI 0))] 78 dd_Mo_wrongAt_78 rfl (gd_inc i) (by decide) rfl ?_
              refine gd_goto hX 81 24 dd_Mo_wrongAt_81 (by decide) ?_
              refine gd_lvs [(0, .ref h), (1, .int (nI ((ch_pop w i) + 1))), (2, .int (nI 8)), (3, .int (nI 0)), (4, .int (nI (i + 1)))] [2, 1, 3, 4, 0] rfl ?_
              rw [← hps]
              exact ih (i + 1) _ (by omega) (fun j hj => by by_cases e : j = i; { subst e; rw [pk_us, ch_narz] }; { rw [pk_un e]; exact hwl j (by omega) })
          · skip
            have h4 : ch_bit w i = true := by cases hq : ch_bit w i with | true => rfl | false => rw [hq] at h3; exact absurd h3 (by decide)
            refine gd_iconst hX 59 dd_Mo_wrongAt_59 (v := 1) (by decide) ?_
            refine gd_goto hX 60 64 dd_Mo_wrongAt_60 (by decide) ?_
            refine gd_eqi (show (1 : Int32) = (if ch_bit w i then 1 else 0) from by rw [h4]; rfl) ?_
            refine gd_zast hX 1 i [gd_ob 5 h [.int er, .ref va, .ref re, .ref fu, .ref wi, .ref ma, .ref wo, .ref fd, .int mm, .int wm, .int (nI L.length), .int pl], gd_aZ K wi 64 (upd wl i (vp_nar .boolean (if ch_bit w i then 1 else 0))), gd_aJ K re 64 rf, gd_aI K fd 1000 ff] 64 dd_Mo_wrongAt_64 rfl rfl (by omega) (by decide) rfl ?_
            refine gd_aload_n hX 65 dd_Mo_wrongAt_65 rfl ?_
            refine gd_get hX inC_Mo 0 4 66 dd_Mo_wrongAt_66 rfl rfl (by decide) kw_412 rfl ?_
            refine gd_iload hX 69 dd_Mo_wrongAt_69 rfl ?_
            refine gd_zald hX 1 i 71 dd_Mo_wrongAt_71 rfl rfl (by omega) (by decide) ?_
            refine gd_eqi (show ((upd wl i (vp_nar .boolean (if ch_bit w i then 1 else 0))) i : Int32) = (if ch_bit w i then 1 else 0) from by rw [pk_us, ch_narz]) ?_
            refine gd_if_eq hX 72 78 dd_Mo_wrongAt_72 (by decide) (fun h5 => ?_) (fun h5 => ?_)
            · skip
              have h6 := (ch_ib _).mp h5
              rw [h6] at hps
              have hps : ch_pop w (i + 1) = ch_pop w i := hps
              refine gd_iinc hX 4 [(4, .int (nI (i + 1))), (0, .ref h), (1, .int (nI (ch_pop w i))), (2, .int (nI 8)), (3, .int (nI 0))] 78 dd_Mo_wrongAt_78 rfl (gd_inc i) (by decide) rfl ?_
              refine gd_goto hX 81 24 dd_Mo_wrongAt_81 (by decide) ?_
              refine gd_lvs [(0, .ref h), (1, .int (nI (ch_pop w i))), (2, .int (nI 8)), (3, .int (nI 0)), (4, .int (nI (i + 1)))] [1, 2, 3, 4, 0] rfl ?_
              rw [← hps]
              exact ih (i + 1) _ (by omega) (fun j hj => by by_cases e : j = i; { subst e; rw [pk_us, ch_narz] }; { rw [pk_un e]; exact hwl j (by omega) })
            · skip
              have h6 := (ch_ifb _).mp h5
              rw [h6, if_pos rfl] at hps
              refine gd_iinc hX 1 [(1, .int (nI ((ch_pop w i) + 1))), (0, .ref h), (2, .int (nI 8)), (3, .int (nI 0)), (4, .int (nI i))] 75 dd_Mo_wrongAt_75 rfl (gd_inc (ch_pop w i)) (by decide) rfl ?_
              refine gd_iinc hX 4 [(4, .int (nI (i + 1))), (1, .int (nI ((ch_pop w i) + 1))), (0, .ref h), (2, .int (nI 8)), (3, .int (nI 0))] 78 dd_Mo_wrongAt_78 rfl (gd_inc i) (by decide) rfl ?_
              refine gd_goto hX 81 24 dd_Mo_wrongAt_81 (by decide) ?_
              refine gd_lvs [(0, .ref h), (1, .int (nI ((ch_pop w i) + 1))), (2, .int (nI 8)), (3, .int (nI 0)), (4, .int (nI (i + 1)))] [2, 1, 3, 4, 0] rfl ?_
              rw [← hps]
              exact ih (i + 1) _ (by omega) (fun j hj => by by_cases e : j = i; { subst e; rw [pk_us, ch_narz] }; { rw [pk_un e]; exact hwl j (by omega) })
    refine gd_iconst hX 14 dd_Mo_wrongAt_14 (v := 0) (by decide) ?_
    refine gd_eqi (show (0 : Int32) = nI (ch_pop w 0) from rfl) ?_
    refine gd_istore_n hX [(1, .int (nI (ch_pop w 0))), (0, .ref h)] 15 dd_Mo_wrongAt_15 rfl (by decide) rfl ?_
    refine gd_bipush hX 16 dd_Mo_wrongAt_16 (v := 8) (by decide) ?_
    refine gd_eqi (show (8 : Int32) = nI 8 from rfl) ?_
    refine gd_istore_n hX [(2, .int (nI 8)), (1, .int (nI (ch_pop w 0))), (0, .ref h)] 18 dd_Mo_wrongAt_18 rfl (by decide) rfl ?_
    refine gd_iconst hX 19 dd_Mo_wrongAt_19 (v := 0) (by decide) ?_
    refine gd_eqi (show (0 : Int32) = nI 0 from rfl) ?_
    refine gd_istore_n hX [(3, .int (nI 0)), (2, .int (nI 8)), (1, .int (nI (ch_pop w 0))), (0, .ref h)] 20 dd_Mo_wrongAt_20 rfl (by decide) rfl ?_
    refine gd_iconst hX 21 dd_Mo_wrongAt_21 (v := 0) (by decide) ?_
    refine gd_eqi (show (0 : Int32) = nI 0 from rfl) ?_
    refine gd_istore hX [(4, .int (nI 0)), (3, .int (nI 0)), (2, .int (nI 8)), (1, .int (nI (ch_pop w 0))), (0, .ref h)] 22 dd_Mo_wrongAt_22 (by decide) rfl ?_
    refine gd_lvs [(0, .ref h), (1, .int (nI (ch_pop w 0))), (2, .int (nI 8)), (3, .int (nI 0)), (4, .int (nI 0))] [4, 3, 2, 1, 0] rfl ?_
    exact will 64 0 wl rfl (fun j hj => absurd hj (Nat.not_lt_zero _))
  · skip
    have hlt : L.length < 8 := Nat.lt_of_not_le (fun q => h1 ((nI_leI (a := 8) (by decide) (by omega)).mpr q))
    have hr : ch_dec L = (L.length, none) := if_pos hlt
    refine gd_aload_n hX 9 dd_Mo_wrongAt_9 rfl ?_
    refine gd_get hX inC_Mo 0 10 10 dd_Mo_wrongAt_10 rfl rfl (by decide) kw_418 rfl ?_
    exact gd_iret hX hE 13 dd_Mo_wrongAt_13 ⟨by rw [ch_pl_n hr], _, _, rfl, by rw [hr]; exact fun z hz => nomatch hz⟩
end
section
theorem ch_dec_le (L : List Nat) : (ch_dec L).1 ≤ L.length := by
  unfold ch_dec
  by_cases h8 : L.length < 8
  · rw [if_pos h8]; exact Nat.le_refl _
  · rw [if_neg h8]
    have h := ch_cells_le L (ch_rmask L 8) 64 (ch_pop (ch_rmask L 8) 64) 0 0 true 8 (fun _ => 0) (by omega)
    rcases hq : ch_cells L (ch_rmask L 8) 64 (ch_pop (ch_rmask L 8) 64) 0 0 true 8 (fun _ => 0) with ⟨a, r⟩
    rw [hq] at h
    cases r with
    | none => exact h
    | some G =>
      show (if a = L.length then (a, some (ch_rmask L 8, G)) else (a, none)).1 ≤ L.length
      split <;> exact h
theorem ch_pl_N {d : Nat × Option (Int64 × (Nat → Int64))} (h : d.2 = none) : ch_pl d = nI d.1 := by unfold ch_pl; rw [h]; rfl
theorem ch_pl_S {d : Nat × Option (Int64 × (Nat → Int64))} {z : Int64 × (Nat → Int64)} (h : d.2 = some z) : ch_pl d = -1 := by unfold ch_pl; rw [h]; rfl
set_option maxRecDepth 100000 in
set_option maxHeartbeats 4000000 in
theorem ct_Mo_decode (l : Launch) (K : gd_K) (h va re fu wi ma wo fd : Nat) (er mm wm mn pl : Int32) (vf : Nat → Int64) (uf wl : Nat → Int32) (rf : Nat → Int64) (L : List Nat) (ff : Nat → Int32) (hL : L.length ≤ 1000) (hI : ch_I ff L) (hO : ∀ x ∈ L, x < 256) : gd_M l yy_Mo_decode bb_Mo_decode 3 (some .int) [] 1 24 0 0 K [.ref h] [gd_ob 5 h [.int er, .ref va, .ref re, .ref fu, .ref wi, .ref ma, .ref wo, .ref fd, .int mm, .int wm, .int (nI L.length), .int pl], gd_aJ K va 64 vf, gd_aZ K fu 64 uf, gd_aZ K wi 64 wl, gd_aJ K re 64 rf, gd_aI K fd 1000 ff] (fun v9 w1 => (∃ z, (ch_dec L).2 = some z ∧ v9 = some (.int (nI (ch_pop z.1 64))) ∧ ∃ vf' uf' wl' rf', w1 = [gd_ob 5 h [.int 0, .ref va, .ref re, .ref fu, .ref wi, .ref ma, .ref wo, .ref fd, .int mm, .int wm, .int (nI 0), .int (-1)], gd_aJ K va 64 vf', gd_aZ K fu 64 uf', gd_aZ K wi 64 wl', gd_aJ K re 64 rf', gd_aI K fd 1000 ff] ∧ ch_M z.1 z.2 vf' uf') ∨ ((ch_dec L).2 = none ∧ v9 = some (.int 0) ∧ ∃ wl' rf', w1 = [gd_ob 5 h [.int 1, .ref va, .ref re, .ref fu, .ref wi, .ref ma, .ref wo, .ref fd, .int mm, .int wm, .int (nI 0), .int (nI (ch_dec L).1)], gd_aJ K va 64 vf, gd_aZ K fu 64 uf, gd_aZ K wi 64 wl', gd_aJ K re 64 rf', gd_aI K fd 1000 ff])) (fun _ _ => False) := by
  refine gd_body (Nat.le_of_ble_eq_true rfl) (fun X hXl hin hE hX => ?_)
  refine gd_aload_n hX 0 dd_Mo_decode_0 rfl ?_
  refine gd_aload_n hX 1 dd_Mo_decode_1 rfl ?_
  refine gd_call hX (st := [.ref h]) (wr := [gd_aJ K va 64 vf, gd_aZ K fu 64 uf]) (ct_Mo_wrongAt _ K h va re fu wi ma wo fd er mm wm mn pl wl rf L ff hL hI hO) 2 dd_Mo_decode_2 (gd_nV hX (As := []) kw_498 kw_500 kw_11 (gd_sigOf (n := 0) kw_501 (by decide)) (by decide) 0 rfl rfl rfl rfl dd_Mo_decode_2) (gd_codeOf kw_501) (by decide) [0, 3, 4, 5] [1, 2] rfl rfl rfl rfl rfl (by decide) (Nat.le_of_ble_eq_true rfl) (Nat.le_of_ble_eq_true rfl) (Nat.le_of_ble_eq_true rfl) (Nat.le_of_ble_eq_true rfl) (fun v9 w9 h9 => ?_) (fun E9 w9 q9 h9 => h9.elim)
  obtain ⟨rfl, wl1, rf1, rfl, hz⟩ := h9
  refine gd_wsp [gd_ob 5 h [.int er, .ref va, .ref re, .ref fu, .ref wi, .ref ma, .ref wo, .ref fd, .int mm, .int wm, .int (nI L.length), .int pl], gd_aJ K va 64 vf, gd_aZ K fu 64 uf, gd_aZ K wi 64 wl1, gd_aJ K re 64 rf1, gd_aI K fd 1000 ff] [2, 0, 1, 3, 4, 5] rfl rfl rfl ?_
  show gd_W X K 0 0 [gd_ob 5 h [.int er, .ref va, .ref re, .ref fu, .ref wi, .ref ma, .ref wo, .ref fd, .int mm, .int wm, .int (nI L.length), .int pl], gd_aJ K va 64 vf, gd_aZ K fu 64 uf, gd_aZ K wi 64 wl1, gd_aJ K re 64 rf1, gd_aI K fd 1000 ff] [(0, .ref h)] [.int (ch_pl (ch_dec L)), .ref h] 5
  refine gd_put hX inC_Mo ty_Mo tyk_Mo nm_Mo 0 11 [gd_ob 5 h [.int er, .ref va, .ref re, .ref fu, .ref wi, .ref ma, .ref wo, .ref fd, .int mm, .int wm, .int (nI L.length), .int (ch_pl (ch_dec L))], gd_aJ K va 64 vf, gd_aZ K fu 64 uf, gd_aZ K wi 64 wl1, gd_aJ K re 64 rf1, gd_aI K fd 1000 ff] 5 dd_Mo_decode_5 rfl rfl (by decide) kw_419 rfl rfl rfl (Nat.le_of_ble_eq_true rfl) rfl ?_
  refine gd_aload_n hX 8 dd_Mo_decode_8 rfl ?_
  refine gd_iconst hX 9 dd_Mo_decode_9 (v := 0) (by decide) ?_
  refine gd_eqi (show (0 : Int32) = nI 0 from rfl) ?_
  refine gd_put hX inC_Mo ty_Mo tyk_Mo nm_Mo 0 10 [gd_ob 5 h [.int er, .ref va, .ref re, .ref fu, .ref wi, .ref ma, .ref wo, .ref fd, .int mm, .int wm, .int (nI 0), .int (ch_pl (ch_dec L))], gd_aJ K va 64 vf, gd_aZ K fu 64 uf, gd_aZ K wi 64 wl1, gd_aJ K re 64 rf1, gd_aI K fd 1000 ff] 10 dd_Mo_decode_10 rfl rfl (by decide) kw_418 rfl rfl rfl (Nat.le_of_ble_eq_true rfl) rfl ?_
  refine gd_aload_n hX 13 dd_Mo_decode_13 rfl ?_
  refine gd_aload_n hX 14 dd_Mo_decode_14 rfl ?_
  refine gd_get hX inC_Mo 0 11 15 dd_Mo_decode_15 rfl rfl (by decide) kw_419 rfl ?_
  refine gd_if_lt hX 18 25 dd_Mo_decode_18 (by decide) (fun h1 => ?_) (fun h1 => ?_)
  · skip
    obtain ⟨z, hs⟩ : ∃ z, (ch_dec L).2 = some z := by
      cases hq : (ch_dec L).2 with
      | none => rw [ch_pl_N hq] at h1; exact absurd h1 (nI_pos (by have := ch_dec_le L; omega))
      | some z => exact ⟨z, rfl⟩
    have hpl := ch_pl_S hs
    obtain ⟨hwl, hrf⟩ := hz z hs
    rw [hpl]
    refine gd_iconst hX 25 dd_Mo_decode_25 (v := 0) (by decide) ?_
    refine gd_eqi (show (0 : Int32) = (if false then 1 else 0) from rfl) ?_
    refine gd_iconst hX 26 dd_Mo_decode_26 (v := 1) (by decide) ?_
    refine gd_call hX (st := []) (wr := [gd_aJ K va 64 vf, gd_aZ K fu 64 uf, gd_aZ K wi 64 wl1, gd_aJ K re 64 rf1, gd_aI K fd 1000 ff]) (ct_Mo_fails _ K h va re fu wi ma wo fd er mm wm (nI 0) (-1) false 1) 27 dd_Mo_decode_27 (gd_nV hX (As := [.int (if false then 1 else 0), .int 1]) kw_457 kw_459 kw_8 (gd_sigOf (n := 2) kw_460 (by decide)) (by decide) 0 rfl rfl rfl rfl dd_Mo_decode_27) (gd_codeOf kw_460) (by decide) [0] [1, 2, 3, 4, 5] rfl rfl rfl rfl rfl (by decide) (Nat.le_of_ble_eq_true rfl) (Nat.le_of_ble_eq_true rfl) (Nat.le_of_ble_eq_true rfl) (Nat.le_of_ble_eq_true rfl) (fun v9 w9 h9 => ?_) (fun E9 w9 q9 h9 => h9.elim)
    obtain ⟨rfl, rfl⟩ := h9
    refine gd_wsp [gd_ob 5 h [.int (if false then 1 else 0), .ref va, .ref re, .ref fu, .ref wi, .ref ma, .ref wo, .ref fd, .int mm, .int wm, .int (nI 0), .int (-1)], gd_aJ K va 64 vf, gd_aZ K fu 64 uf, gd_aZ K wi 64 wl1, gd_aJ K re 64 rf1, gd_aI K fd 1000 ff] [5, 0, 1, 2, 3, 4] rfl rfl rfl ?_
    show gd_W X K 0 0 [gd_ob 5 h [.int (if false then 1 else 0), .ref va, .ref re, .ref fu, .ref wi, .ref ma, .ref wo, .ref fd, .int mm, .int wm, .int (nI 0), .int (-1)], gd_aJ K va 64 vf, gd_aZ K fu 64 uf, gd_aZ K wi 64 wl1, gd_aJ K re 64 rf1, gd_aI K fd 1000 ff] [(0, .ref h)] [.int (if false then 1 else 0)] 30
    refine gd_if_eq hX 30 35 dd_Mo_decode_30 (by decide) (fun h9 => ?_) (fun h9 => ?_)
    · skip
      show gd_W X K 0 0 [gd_ob 5 h [.int 0, .ref va, .ref re, .ref fu, .ref wi, .ref ma, .ref wo, .ref fd, .int mm, .int wm, .int (nI 0), .int (-1)], gd_aJ K va 64 vf, gd_aZ K fu 64 uf, gd_aZ K wi 64 wl1, gd_aJ K re 64 rf1, gd_aI K fd 1000 ff] [(0, .ref h)] [] 35
      have loop : ∀ (m i : Nat) (vf : Nat → Int64) (uf : Nat → Int32), m + i = 64 → (∀ t, t < i → uf t = (if ch_bit z.1 t then 1 else 0) ∧ (ch_bit z.1 t = true → vf t = z.2 t)) → gd_W X K 0 0 [gd_ob 5 h [.int 0, .ref va, .ref re, .ref fu, .ref wi, .ref ma, .ref wo, .ref fd, .int mm, .int wm, .int (nI 0), .int (-1)], gd_aJ K va 64 vf, gd_aZ K fu 64 uf, gd_aZ K wi 64 wl1, gd_aJ K re 64 rf1, gd_aI K fd 1000 ff] [(0, .ref h), (1, .int (nI (ch_pop z.1 i))), (2, .int (nI i))] [] 39 := by
        intro m
        induction m with
        | zero =>
          intro i vf uf hi hm
          obtain rfl : i = 64 := by omega
          refine gd_iload_n hX 39 dd_Mo_decode_39 rfl ?_
          refine gd_bipush hX 40 dd_Mo_decode_40 (v := 64) (by decide) ?_
          refine gd_icmp_ge hX 42 87 dd_Mo_decode_42 (by decide) (fun h2 => ?_) (fun h2 => ?_)
          · skip
            refine gd_iload_n hX 87 dd_Mo_decode_87 rfl ?_
            exact gd_iret hX hE 88 dd_Mo_decode_88 (Or.inl ⟨z, hs, rfl, vf, uf, wl1, rf1, rfl, hm⟩)
          · skip
            exact absurd (by decide) h2
        | succ m ih =>
          intro i vf uf hi hm
          have hps := ch_pop_S z.1 i
          have hwi := hwl i (by omega)
          refine gd_iload_n hX 39 dd_Mo_decode_39 rfl ?_
          refine gd_bipush hX 40 dd_Mo_decode_40 (v := 64) (by decide) ?_
          refine gd_icmp_ge hX 42 87 dd_Mo_decode_42 (by decide) (fun h2 => ?_) (fun h2 => ?_)
          · skip
            exact absurd ((nI_leI (a := 64) (by decide) (by omega)).mp h2) (by omega)
          · skip
            refine gd_aload_n hX 45 dd_Mo_decode_45 rfl ?_
            refine gd_get hX inC_Mo 0 3 46 dd_Mo_decode_46 rfl rfl (by decide) kw_411 rfl ?_
            refine gd_iload_n hX 49 dd_Mo_decode_49 rfl ?_
            refine gd_aload_n hX 50 dd_Mo_decode_50 rfl ?_
            refine gd_get hX inC_Mo 0 4 51 dd_Mo_decode_51 rfl rfl (by decide) kw_412 rfl ?_
            refine gd_iload_n hX 54 dd_Mo_decode_54 rfl ?_
            refine gd_zald hX 3 i 55 dd_Mo_decode_55 rfl rfl (by omega) (by decide) ?_
            refine gd_eqi (show (wl1 i : Int32) = (if ch_bit z.1 i then 1 else 0) from hwi) ?_
            refine gd_zast hX 2 i [gd_ob 5 h [.int 0, .ref va, .ref re, .ref fu, .ref wi, .ref ma, .ref wo, .ref fd, .int mm, .int wm, .int (nI 0), .int (-1)], gd_aJ K va 64 vf, gd_aZ K fu 64 (upd uf i (vp_nar .boolean (if ch_bit z.1 i then 1 else 0))), gd_aZ K wi 64 wl1, gd_aJ K re 64 rf1, gd_aI K fd 1000 ff] 56 dd_Mo_decode_56 rfl rfl (by omega) (by decide) rfl ?_
            refine gd_aload_n hX 57 dd_Mo_decode_57 rfl ?_
            refine gd_get hX inC_Mo 0 4 58 dd_Mo_decode_58 rfl rfl (by decide) kw_412 rfl ?_
            refine gd_iload_n hX 61 dd_Mo_decode_61 rfl ?_
            refine gd_zald hX 3 i 62 dd_Mo_decode_62 rfl rfl (by omega) (by decide) ?_
            refine gd_eqi (show (wl1 i : Int32) = (if ch_bit z.1 i then 1 else 0) from hwi) ?_
            refine gd_if_eq hX 63 81 dd_Mo_decode_63 (by decide) (fun h3 => ?_) (fun h3 => ?_)
            · skip
              have h6 := (ch_ib _).mp h3
              rw [h6] at hps
              have hps : ch_pop z.1 (i + 1) = ch_pop z.1 i := hps
              refine gd_iinc hX 2 [(2, .int (nI (i + 1))), (0, .ref h), (1, .int (nI (ch_pop z.1 i)))] 81 dd_Mo_decode_81 rfl (gd_inc i) (by decide) rfl ?_
              refine gd_goto hX 84 39 dd_Mo_decode_84 (by decide) ?_
              refine gd_lvs [(0, .ref h), (1, .int (nI (ch_pop z.1 i))), (2, .int (nI (i + 1)))] [1, 2, 0] rfl ?_
              rw [← hps]
              exact ih (i + 1) _ _ (by omega) (fun j hj => by by_cases e : j = i; { subst e; rw [pk_us, ch_narz]; exact ⟨rfl, fun q => by rw [h6] at q; cases q⟩ }; { rw [pk_un e]; exact hm j (by omega) })
            · skip
              have h6 := (ch_ifb _).mp h3
              rw [h6, if_pos rfl] at hps
              refine gd_aload_n hX 66 dd_Mo_decode_66 rfl ?_
              refine gd_get hX inC_Mo 0 1 67 dd_Mo_decode_67 rfl rfl (by decide) kw_409 rfl ?_
              refine gd_iload_n hX 70 dd_Mo_decode_70 rfl ?_
              refine gd_aload_n hX 71 dd_Mo_decode_71 rfl ?_
              refine gd_get hX inC_Mo 0 2 72 dd_Mo_decode_72 rfl rfl (by decide) kw_410 rfl ?_
              refine gd_iload_n hX 75 dd_Mo_decode_75 rfl ?_
              refine gd_lald hX 4 i 76 dd_Mo_decode_76 rfl rfl (by omega) (by decide) ?_
              refine gd_eql (show (rf1 i : Int64) = z.2 i from hrf i (by omega) h6) ?_
              refine gd_last hX 1 i [gd_ob 5 h [.int 0, .ref va, .ref re, .ref fu, .ref wi, .ref ma, .ref wo, .ref fd, .int mm, .int wm, .int (nI 0), .int (-1)], gd_aJ K va 64 (vp_updL vf i (z.2 i)), gd_aZ K fu 64 (upd uf i (vp_nar .boolean (if ch_bit z.1 i then 1 else 0))), gd_aZ K wi 64 wl1, gd_aJ K re 64 rf1, gd_aI K fd 1000 ff] 77 dd_Mo_decode_77 rfl rfl (by omega) (by decide) rfl ?_
              refine gd_iinc hX 1 [(1, .int (nI ((ch_pop z.1 i) + 1))), (0, .ref h), (2, .int (nI i))] 78 dd_Mo_decode_78 rfl (gd_inc (ch_pop z.1 i)) (by decide) rfl ?_
              refine gd_iinc hX 2 [(2, .int (nI (i + 1))), (1, .int (nI ((ch_pop z.1 i) + 1))), (0, .ref h)] 81 dd_Mo_decode_81 rfl (gd_inc i) (by decide) rfl ?_
              refine gd_goto hX 84 39 dd_Mo_decode_84 (by decide) ?_
              refine gd_lvs [(0, .ref h), (1, .int (nI ((ch_pop z.1 i) + 1))), (2, .int (nI (i + 1)))] [2, 1, 0] rfl ?_
              rw [← hps]
              exact ih (i + 1) _ _ (by omega) (fun j hj => by by_cases e : j = i; { subst e; rw [pk_us, ch_narz, pk_uLs]; exact ⟨rfl, fun _ => rfl⟩ }; { rw [pk_un e, pk_uLn e]; exact hm j (by omega) })
      refine gd_iconst hX 35 dd_Mo_decode_35 (v := 0) (by decide) ?_
      refine gd_eqi (show (0 : Int32) = nI (ch_pop z.1 0) from rfl) ?_
      refine gd_istore_n hX [(1, .int (nI (ch_pop z.1 0))), (0, .ref h)] 36 dd_Mo_decode_36 rfl (by decide) rfl ?_
      refine gd_iconst hX 37 dd_Mo_decode_37 (v := 0) (by decide) ?_
      refine gd_eqi (show (0 : Int32) = nI 0 from rfl) ?_
      refine gd_istore_n hX [(2, .int (nI 0)), (1, .int (nI (ch_pop z.1 0))), (0, .ref h)] 38 dd_Mo_decode_38 rfl (by decide) rfl ?_
      refine gd_lvs [(0, .ref h), (1, .int (nI (ch_pop z.1 0))), (2, .int (nI 0))] [2, 1, 0] rfl ?_
      exact loop 64 0 vf uf rfl (fun t ht => absurd ht (Nat.not_lt_zero _))
    · skip
      exact absurd rfl h9
  · skip
    have hs : (ch_dec L).2 = none := by
      cases hq : (ch_dec L).2 with
      | none => rfl
      | some z => rw [ch_pl_S hq] at h1; exact absurd (by decide) h1
    have hpl := ch_pl_N hs
    rw [hpl]
    refine gd_iconst hX 21 dd_Mo_decode_21 (v := 1) (by decide) ?_
    refine gd_goto hX 22 26 dd_Mo_decode_22 (by decide) ?_
    refine gd_eqi (show (1 : Int32) = (if true then 1 else 0) from rfl) ?_
    refine gd_iconst hX 26 dd_Mo_decode_26 (v := 1) (by decide) ?_
    refine gd_call hX (st := []) (wr := [gd_aJ K va 64 vf, gd_aZ K fu 64 uf, gd_aZ K wi 64 wl1, gd_aJ K re 64 rf1, gd_aI K fd 1000 ff]) (ct_Mo_fails _ K h va re fu wi ma wo fd er mm wm (nI 0) (nI (ch_dec L).1) true 1) 27 dd_Mo_decode_27 (gd_nV hX (As := [.int (if true then 1 else 0), .int 1]) kw_457 kw_459 kw_8 (gd_sigOf (n := 2) kw_460 (by decide)) (by decide) 0 rfl rfl rfl rfl dd_Mo_decode_27) (gd_codeOf kw_460) (by decide) [0] [1, 2, 3, 4, 5] rfl rfl rfl rfl rfl (by decide) (Nat.le_of_ble_eq_true rfl) (Nat.le_of_ble_eq_true rfl) (Nat.le_of_ble_eq_true rfl) (Nat.le_of_ble_eq_true rfl) (fun v9 w9 h9 => ?_) (fun E9 w9 q9 h9 => h9.elim)
    obtain ⟨rfl, rfl⟩ := h9
    refine gd_wsp [gd_ob 5 h [.int (if true then 1 else 0), .ref va, .ref re, .ref fu, .ref wi, .ref ma, .ref wo, .ref fd, .int mm, .int wm, .int (nI 0), .int (nI (ch_dec L).1)], gd_aJ K va 64 vf, gd_aZ K fu 64 uf, gd_aZ K wi 64 wl1, gd_aJ K re 64 rf1, gd_aI K fd 1000 ff] [5, 0, 1, 2, 3, 4] rfl rfl rfl ?_
    show gd_W X K 0 0 [gd_ob 5 h [.int (if true then 1 else 0), .ref va, .ref re, .ref fu, .ref wi, .ref ma, .ref wo, .ref fd, .int mm, .int wm, .int (nI 0), .int (nI (ch_dec L).1)], gd_aJ K va 64 vf, gd_aZ K fu 64 uf, gd_aZ K wi 64 wl1, gd_aJ K re 64 rf1, gd_aI K fd 1000 ff] [(0, .ref h)] [.int (if true then 1 else 0)] 30
    refine gd_if_eq hX 30 35 dd_Mo_decode_30 (by decide) (fun h9 => ?_) (fun h9 => ?_)
    · skip
      exact absurd (show (1 : Int32) = 0 from h9) (by decide)
    · skip
      show gd_W X K 0 0 [gd_ob 5 h [.int 1, .ref va, .ref re, .ref fu, .ref wi, .ref ma, .ref wo, .ref fd, .int mm, .int wm, .int (nI 0), .int (nI (ch_dec L).1)], gd_aJ K va 64 vf, gd_aZ K fu 64 uf, gd_aZ K wi 64 wl1, gd_aJ K re 64 rf1, gd_aI K fd 1000 ff] [(0, .ref h)] [] 33
      refine gd_iconst hX 33 dd_Mo_decode_33 (v := 0) (by decide) ?_
      exact gd_iret hX hE 34 dd_Mo_decode_34 (Or.inr ⟨hs, rfl, _, _, rfl⟩)
end
section
set_option maxRecDepth 100000 in
set_option maxHeartbeats 4000000 in
theorem ct_La_put (l : Launch) (K : gd_K) (hl : l.stackTraces = false) (h c sp ru md fe rd : Nat) (wa : Int32) (ca : Nat) (w : Int64) (f : Nat → Int64) (k : Int32) (v : Int64) : gd_M l yy_La_put bb_La_put 5 (some .int) [(0, 6, 9, 13)] 8 109 1 6 K [.ref h, .int k, .long v] [gd_ob 4 h [.ref c, .ref sp, .ref ru, .ref md, .ref fe, .ref rd, .int wa], gd_ob 0 c [.ref ca, .long w], gd_aJ K ca 64 f] (fun v9 w1 => (v9 = some (.int 0) ∧ ∃ j, j < 64 ∧ k = nI j ∧ w1 = [gd_ob 4 h [.ref c, .ref sp, .ref ru, .ref md, .ref fe, .ref rd, .int wa], gd_ob 0 c [.ref ca, .long (w ||| ((1 : Int64) <<< ((nI j).toInt64 &&& 63)))], gd_aJ K ca 64 (vp_updL f j v)]) ∨ (v9 = some (.int 1) ∧ ch_no k = true ∧ w1 = [gd_ob 4 h [.ref c, .ref sp, .ref ru, .ref md, .ref fe, .ref rd, .int wa], gd_ob 0 c [.ref ca, .long w], gd_aJ K ca 64 f])) (fun _ _ => False) := by
  refine gd_body (Nat.le_of_ble_eq_true rfl) (fun X hXl hin hE hX => ?_)
  refine gd_aload_n hX 0 dd_La_put_0 rfl ?_
  refine gd_iload_n hX 1 dd_La_put_1 rfl ?_
  refine gd_lload_n hX 2 dd_La_put_2 rfl ?_
  refine gd_call hX (st := []) (wr := []) (ct_Ch_put _ K (by rw [hXl]; exact hl) h c sp ru md fe rd wa ca w f k v) 3 dd_La_put_3 (gd_nV hX (As := [.int k, .long v]) kw_176 kw_177 kw_178 (gd_sigOf (n := 2) kw_179 (by decide)) (by decide) 0 rfl rfl rfl rfl dd_La_put_3) (gd_codeOf kw_179) (by decide) [0, 1, 2] [] rfl rfl rfl rfl rfl (by decide) (Nat.le_of_ble_eq_true rfl) (Nat.le_of_ble_eq_true rfl) (Nat.le_of_ble_eq_true rfl) (Nat.le_of_ble_eq_true rfl) (fun v9 w9 h9 => ?_) (fun E9 w9 q9 hx9 => ?_)
  · skip
    obtain ⟨rfl, j, hj, hk, rfl⟩ := h9
    show gd_W X K 1 6 [gd_ob 4 h [.ref c, .ref sp, .ref ru, .ref md, .ref fe, .ref rd, .int wa], gd_ob 0 c [.ref ca, .long (w ||| ((1 : Int64) <<< ((nI j).toInt64 &&& 63)))], gd_aJ K ca 64 (vp_updL f j v)] [(0, .ref h), (1, .int k), (2, .long v)] [] 6
    refine gd_goto hX 6 13 dd_La_put_6 (by decide) ?_
    refine gd_iconst hX 13 dd_La_put_13 (v := 0) (by decide) ?_
    exact gd_iret hX hE 14 dd_La_put_14 (Or.inl ⟨rfl, j, hj, hk, rfl⟩)
  · skip
    obtain ⟨rfl, rfl, hx⟩ := hx9
    refine gd_catch hX [] (0, 6, 9, 13) [] rfl (fun z hz => nomatch hz) (by decide) (by decide) kw_175 kw_185 ?_
    show gd_W X K 1 6 [gd_ob 4 h [.ref c, .ref sp, .ref ru, .ref md, .ref fe, .ref rd, .int wa], gd_ob 0 c [.ref ca, .long w], gd_aJ K ca 64 f] [(0, .ref h), (1, .int k), (2, .long v)] [.ref q9] 9
    show gd_W X K 1 6 [gd_ob 4 h [.ref c, .ref sp, .ref ru, .ref md, .ref fe, .ref rd, .int wa], gd_ob 0 c [.ref ca, .long w], gd_aJ K ca 64 f] [(0, .ref h), (1, .int k), (2, .long v)] [.ref q9] 9
    refine gd_astore hX [(4, .ref q9), (0, .ref h), (1, .int k), (2, .long v)] 9 dd_La_put_9 (by decide) rfl ?_
    refine gd_iconst hX 11 dd_La_put_11 (v := 1) (by decide) ?_
    exact gd_iret hX hE 12 dd_La_put_12 (Or.inr ⟨rfl, ch_no_t hx, rfl⟩)
set_option maxRecDepth 100000 in
set_option maxHeartbeats 4000000 in
theorem ct_La_erase (l : Launch) (K : gd_K) (hl : l.stackTraces = false) (h c sp ru md fe rd : Nat) (wa : Int32) (ca : Nat) (w : Int64) (f : Nat → Int64) (k k2 : Int32) : gd_M l yy_La_erase bb_La_erase 4 (some .int) [(0, 6, 9, 13)] 8 109 2 12 K [.ref h, .int k, .int k2] [gd_ob 4 h [.ref c, .ref sp, .ref ru, .ref md, .ref fe, .ref rd, .int wa], gd_ob 0 c [.ref ca, .long w], gd_aJ K ca 64 f] (fun v9 w1 => (v9 = some (.int 0) ∧ ∃ a b, a < 64 ∧ b < 64 ∧ k = nI a ∧ k2 = nI b ∧ w1 = [gd_ob 4 h [.ref c, .ref sp, .ref ru, .ref md, .ref fe, .ref rd, .int wa], gd_ob 0 c [.ref ca, .long (ch_er w a (b + 1 - a))], gd_aJ K ca 64 f]) ∨ (v9 = some (.int 1) ∧ (ch_no k || ch_no k2) = true ∧ w1 = [gd_ob 4 h [.ref c, .ref sp, .ref ru, .ref md, .ref fe, .ref rd, .int wa], gd_ob 0 c [.ref ca, .long w], gd_aJ K ca 64 f])) (fun _ _ => False) := by
  refine gd_body (Nat.le_of_ble_eq_true rfl) (fun X hXl hin hE hX => ?_)
  refine gd_aload_n hX 0 dd_La_erase_0 rfl ?_
  refine gd_iload_n hX 1 dd_La_erase_1 rfl ?_
  refine gd_iload_n hX 2 dd_La_erase_2 rfl ?_
  refine gd_call hX (st := []) (wr := []) (ct_Ch_erase _ K (by rw [hXl]; exact hl) h c sp ru md fe rd wa ca w f k k2) 3 dd_La_erase_3 (gd_nV hX (As := [.int k, .int k2]) kw_257 kw_258 kw_259 (gd_sigOf (n := 2) kw_260 (by decide)) (by decide) 0 rfl rfl rfl rfl dd_La_erase_3) (gd_codeOf kw_260) (by decide) [0, 1, 2] [] rfl rfl rfl rfl rfl (by decide) (Nat.le_of_ble_eq_true rfl) (Nat.le_of_ble_eq_true rfl) (Nat.le_of_ble_eq_true rfl) (Nat.le_of_ble_eq_true rfl) (fun v9 w9 h9 => ?_) (fun E9 w9 q9 hx9 => ?_)
  · skip
    obtain ⟨rfl, a, b, ha, hb, hk, hk2, rfl⟩ := h9
    show gd_W X K 2 12 [gd_ob 4 h [.ref c, .ref sp, .ref ru, .ref md, .ref fe, .ref rd, .int wa], gd_ob 0 c [.ref ca, .long (ch_er w a (b + 1 - a))], gd_aJ K ca 64 f] [(0, .ref h), (1, .int k), (2, .int k2)] [] 6
    refine gd_goto hX 6 12 dd_La_erase_6 (by decide) ?_
    refine gd_iconst hX 12 dd_La_erase_12 (v := 0) (by decide) ?_
    exact gd_iret hX hE 13 dd_La_erase_13 (Or.inl ⟨rfl, a, b, ha, hb, hk, hk2, rfl⟩)
  · skip
    obtain ⟨rfl, rfl, hx⟩ := hx9
    refine gd_catch hX [] (0, 6, 9, 13) [] rfl (fun z hz => nomatch hz) (by decide) (by decide) kw_175 kw_185 ?_
    show gd_W X K 2 12 [gd_ob 4 h [.ref c, .ref sp, .ref ru, .ref md, .ref fe, .ref rd, .int wa], gd_ob 0 c [.ref ca, .long w], gd_aJ K ca 64 f] [(0, .ref h), (1, .int k), (2, .int k2)] [.ref q9] 9
    show gd_W X K 2 12 [gd_ob 4 h [.ref c, .ref sp, .ref ru, .ref md, .ref fe, .ref rd, .int wa], gd_ob 0 c [.ref ca, .long w], gd_aJ K ca 64 f] [(0, .ref h), (1, .int k), (2, .int k2)] [.ref q9] 9
    refine gd_astore_n hX [(3, .ref q9), (0, .ref h), (1, .int k), (2, .int k2)] 9 dd_La_erase_9 rfl (by decide) rfl ?_
    refine gd_iconst hX 10 dd_La_erase_10 (v := 1) (by decide) ?_
    exact gd_iret hX hE 11 dd_La_erase_11 (Or.inr ⟨rfl, (by rcases hx with h | h; { rw [ch_no_t h]; rfl }; { rw [ch_no_t h, Bool.or_true] }), rfl⟩)
set_option maxRecDepth 100000 in
set_option maxHeartbeats 4000000 in
theorem ct_La_get (l : Launch) (K : gd_K) (hl : l.stackTraces = false) (h c sp ru md fe rd : Nat) (wa : Int32) (ca : Nat) (w : Int64) (f : Nat → Int64) (ou : Nat) (of : Nat → Int64) (k : Int32) : gd_M l yy_La_get bb_La_get 4 (some .int) [(0, 8, 11, 13), (0, 8, 14, 23)] 8 109 2 12 K [.ref h, .int k, .ref ou] [gd_ob 4 h [.ref c, .ref sp, .ref ru, .ref md, .ref fe, .ref rd, .int wa], gd_ob 0 c [.ref ca, .long w], gd_aJ K ca 64 f, gd_aJ K ou 1 of] (fun v9 w1 => (v9 = some (.int 0) ∧ ∃ j, j < 64 ∧ k = nI j ∧ ch_bit w j = true ∧ w1 = [gd_ob 4 h [.ref c, .ref sp, .ref ru, .ref md, .ref fe, .ref rd, .int wa], gd_ob 0 c [.ref ca, .long w], gd_aJ K ca 64 f, gd_aJ K ou 1 (vp_updL of 0 (f j))]) ∨ (v9 = some (.int 1) ∧ ch_no k = true ∧ w1 = [gd_ob 4 h [.ref c, .ref sp, .ref ru, .ref md, .ref fe, .ref rd, .int wa], gd_ob 0 c [.ref ca, .long w], gd_aJ K ca 64 f, gd_aJ K ou 1 of]) ∨ (v9 = some (.int 2) ∧ ∃ j, j < 64 ∧ k = nI j ∧ ch_bit w j = false ∧ w1 = [gd_ob 4 h [.ref c, .ref sp, .ref ru, .ref md, .ref fe, .ref rd, .int wa], gd_ob 0 c [.ref ca, .long w], gd_aJ K ca 64 f, gd_aJ K ou 1 of])) (fun _ _ => False) := by
  refine gd_body (Nat.le_of_ble_eq_true rfl) (fun X hXl hin hE hX => ?_)
  refine gd_aload_n hX 0 dd_La_get_0 rfl ?_
  refine gd_iconst hX 1 dd_La_get_1 (v := 0) (by decide) ?_
  refine gd_aload_n hX 2 dd_La_get_2 rfl ?_
  refine gd_iload_n hX 3 dd_La_get_3 rfl ?_
  refine gd_call hX (st := [.int 0, .ref ou]) (wr := [gd_aJ K ou 1 of]) (ct_Ch_get _ K (by rw [hXl]; exact hl) h c sp ru md fe rd wa ca w f k) 4 dd_La_get_4 (gd_nV hX (As := [.int k]) kw_270 kw_271 kw_272 (gd_sigOf (n := 1) kw_273 (by decide)) (by decide) 0 rfl rfl rfl rfl dd_La_get_4) (gd_codeOf kw_273) (by decide) [0, 1, 2] [3] rfl rfl rfl rfl rfl (by decide) (Nat.le_of_ble_eq_true rfl) (Nat.le_of_ble_eq_true rfl) (Nat.le_of_ble_eq_true rfl) (Nat.le_of_ble_eq_true rfl) (fun v9 w9 h9 => ?_) (fun E9 w9 q9 hx9 => ?_)
  · skip
    obtain ⟨j, hj, hk, hb, rfl, rfl⟩ := h9
    refine gd_wsp [gd_ob 4 h [.ref c, .ref sp, .ref ru, .ref md, .ref fe, .ref rd, .int wa], gd_ob 0 c [.ref ca, .long w], gd_aJ K ca 64 f, gd_aJ K ou 1 of] [1, 2, 3, 0] rfl rfl rfl ?_
    show gd_W X K 2 12 [gd_ob 4 h [.ref c, .ref sp, .ref ru, .ref md, .ref fe, .ref rd, .int wa], gd_ob 0 c [.ref ca, .long w], gd_aJ K ca 64 f, gd_aJ K ou 1 of] [(0, .ref h), (1, .int k), (2, .ref ou)] [.long (f j), .int 0, .ref ou] 7
    refine gd_last hX 3 0 [gd_ob 4 h [.ref c, .ref sp, .ref ru, .ref md, .ref fe, .ref rd, .int wa], gd_ob 0 c [.ref ca, .long w], gd_aJ K ca 64 f, gd_aJ K ou 1 (vp_updL of 0 (f j))] 7 dd_La_get_7 rfl rfl (by omega) (by decide) rfl ?_
    refine gd_goto hX 8 17 dd_La_get_8 (by decide) ?_
    refine gd_iconst hX 17 dd_La_get_17 (v := 0) (by decide) ?_
    exact gd_iret hX hE 18 dd_La_get_18 (Or.inl ⟨rfl, j, hj, hk, hb, rfl⟩)
  · skip
    rcases hx9 with hx9 | hx9
    · skip
      obtain ⟨rfl, rfl, hx⟩ := hx9
      refine gd_catch hX [] (0, 8, 11, 13) [(0, 8, 14, 23)] rfl (fun z hz => nomatch hz) (by decide) (by decide) kw_175 kw_185 ?_
      show gd_W X K 2 12 [gd_aJ K ou 1 of, gd_ob 4 h [.ref c, .ref sp, .ref ru, .ref md, .ref fe, .ref rd, .int wa], gd_ob 0 c [.ref ca, .long w], gd_aJ K ca 64 f] [(0, .ref h), (1, .int k), (2, .ref ou)] [.ref q9] 11
      refine gd_wsp [gd_ob 4 h [.ref c, .ref sp, .ref ru, .ref md, .ref fe, .ref rd, .int wa], gd_ob 0 c [.ref ca, .long w], gd_aJ K ca 64 f, gd_aJ K ou 1 of] [1, 2, 3, 0] rfl rfl rfl ?_
      show gd_W X K 2 12 [gd_ob 4 h [.ref c, .ref sp, .ref ru, .ref md, .ref fe, .ref rd, .int wa], gd_ob 0 c [.ref ca, .long w], gd_aJ K ca 64 f, gd_aJ K ou 1 of] [(0, .ref h), (1, .int k), (2, .ref ou)] [.ref q9] 11
      refine gd_astore_n hX [(3, .ref q9), (0, .ref h), (1, .int k), (2, .ref ou)] 11 dd_La_get_11 rfl (by decide) rfl ?_
      refine gd_iconst hX 12 dd_La_get_12 (v := 1) (by decide) ?_
      exact gd_iret hX hE 13 dd_La_get_13 (Or.inr (Or.inl ⟨rfl, ch_no_t hx, rfl⟩))
    · skip
      obtain ⟨rfl, rfl, j, hj, hk, hb⟩ := hx9
      refine gd_catch hX [(0, 8, 11, 13)] (0, 8, 14, 23) [] rfl (fun z hz => by cases List.mem_singleton.mp hz; exact ⟨by decide, _, kw_175, hX.2.2.1.2.2.2.2.2.2.2⟩) (by decide) (by decide) kw_269 kw_277 ?_
      show gd_W X K 2 12 [gd_aJ K ou 1 of, gd_ob 4 h [.ref c, .ref sp, .ref ru, .ref md, .ref fe, .ref rd, .int wa], gd_ob 0 c [.ref ca, .long w], gd_aJ K ca 64 f] [(0, .ref h), (1, .int k), (2, .ref ou)] [.ref q9] 14
      refine gd_wsp [gd_ob 4 h [.ref c, .ref sp, .ref ru, .ref md, .ref fe, .ref rd, .int wa], gd_ob 0 c [.ref ca, .long w], gd_aJ K ca 64 f, gd_aJ K ou 1 of] [1, 2, 3, 0] rfl rfl rfl ?_
      show gd_W X K 2 12 [gd_ob 4 h [.ref c, .ref sp, .ref ru, .ref md, .ref fe, .ref rd, .int wa], gd_ob 0 c [.ref ca, .long w], gd_aJ K ca 64 f, gd_aJ K ou 1 of] [(0, .ref h), (1, .int k), (2, .ref ou)] [.ref q9] 14
      refine gd_astore_n hX [(3, .ref q9), (0, .ref h), (1, .int k), (2, .ref ou)] 14 dd_La_get_14 rfl (by decide) rfl ?_
      refine gd_iconst hX 15 dd_La_get_15 (v := 2) (by decide) ?_
      exact gd_iret hX hE 16 dd_La_get_16 (Or.inr (Or.inr ⟨rfl, j, hj, hk, hb, rfl⟩))
set_option maxRecDepth 100000 in
set_option maxHeartbeats 4000000 in
theorem ct_La_sum (l : Launch) (K : gd_K) (hl : l.stackTraces = false) (h c sp ru md fe rd : Nat) (wa : Int32) (ca : Nat) (w : Int64) (f : Nat → Int64) (ou : Nat) (of : Nat → Int64) (k k2 : Int32) : gd_M l yy_La_sum bb_La_sum 5 (some .int) [(0, 9, 12, 13)] 8 113 2 12 K [.ref h, .int k, .int k2, .ref ou] [gd_ob 4 h [.ref c, .ref sp, .ref ru, .ref md, .ref fe, .ref rd, .int wa], gd_ob 0 c [.ref ca, .long w], gd_aJ K ca 64 f, gd_aJ K ou 1 of] (fun v9 w1 => (v9 = some (.int 0) ∧ ∃ a b, a < 64 ∧ b < 64 ∧ k = nI a ∧ k2 = nI b ∧ w1 = [gd_ob 4 h [.ref c, .ref sp, .ref ru, .ref md, .ref fe, .ref rd, .int wa], gd_ob 0 c [.ref ca, .long w], gd_aJ K ca 64 f, gd_aJ K ou 1 (vp_updL of 0 (ch_su w f a (b + 1 - a)))]) ∨ (v9 = some (.int 1) ∧ (ch_no k || ch_no k2) = true ∧ w1 = [gd_ob 4 h [.ref c, .ref sp, .ref ru, .ref md, .ref fe, .ref rd, .int wa], gd_ob 0 c [.ref ca, .long w], gd_aJ K ca 64 f, gd_aJ K ou 1 of])) (fun _ _ => False) := by
  refine gd_body (Nat.le_of_ble_eq_true rfl) (fun X hXl hin hE hX => ?_)
  refine gd_aload_n hX 0 dd_La_sum_0 rfl ?_
  refine gd_iconst hX 1 dd_La_sum_1 (v := 0) (by decide) ?_
  refine gd_aload_n hX 2 dd_La_sum_2 rfl ?_
  refine gd_iload_n hX 3 dd_La_sum_3 rfl ?_
  refine gd_iload_n hX 4 dd_La_sum_4 rfl ?_
  refine gd_call hX (st := [.int 0, .ref ou]) (wr := [gd_aJ K ou 1 of]) (ct_Ch_sum _ K (by rw [hXl]; exact hl) h c sp ru md fe rd wa ca w f k k2) 5 dd_La_sum_5 (gd_nV hX (As := [.int k, .int k2]) kw_295 kw_296 kw_297 (gd_sigOf (n := 2) kw_298 (by decide)) (by decide) 0 rfl rfl rfl rfl dd_La_sum_5) (gd_codeOf kw_298) (by decide) [0, 1, 2] [3] rfl rfl rfl rfl rfl (by decide) (Nat.le_of_ble_eq_true rfl) (Nat.le_of_ble_eq_true rfl) (Nat.le_of_ble_eq_true rfl) (Nat.le_of_ble_eq_true rfl) (fun v9 w9 h9 => ?_) (fun E9 w9 q9 hx9 => ?_)
  · skip
    obtain ⟨a, b, ha, hb, hk, hk2, rfl, rfl⟩ := h9
    refine gd_wsp [gd_ob 4 h [.ref c, .ref sp, .ref ru, .ref md, .ref fe, .ref rd, .int wa], gd_ob 0 c [.ref ca, .long w], gd_aJ K ca 64 f, gd_aJ K ou 1 of] [1, 2, 3, 0] rfl rfl rfl ?_
    show gd_W X K 2 12 [gd_ob 4 h [.ref c, .ref sp, .ref ru, .ref md, .ref fe, .ref rd, .int wa], gd_ob 0 c [.ref ca, .long w], gd_aJ K ca 64 f, gd_aJ K ou 1 of] [(0, .ref h), (1, .int k), (2, .int k2), (3, .ref ou)] [.long (ch_su w f a (b + 1 - a)), .int 0, .ref ou] 8
    refine gd_last hX 3 0 [gd_ob 4 h [.ref c, .ref sp, .ref ru, .ref md, .ref fe, .ref rd, .int wa], gd_ob 0 c [.ref ca, .long w], gd_aJ K ca 64 f, gd_aJ K ou 1 (vp_updL of 0 (ch_su w f a (b + 1 - a)))] 8 dd_La_sum_8 rfl rfl (by omega) (by decide) rfl ?_
    refine gd_goto hX 9 16 dd_La_sum_9 (by decide) ?_
    refine gd_iconst hX 16 dd_La_sum_16 (v := 0) (by decide) ?_
    exact gd_iret hX hE 17 dd_La_sum_17 (Or.inl ⟨rfl, a, b, ha, hb, hk, hk2, rfl⟩)
  · skip
    obtain ⟨rfl, rfl, hx⟩ := hx9
    refine gd_catch hX [] (0, 9, 12, 13) [] rfl (fun z hz => nomatch hz) (by decide) (by decide) kw_175 kw_185 ?_
    show gd_W X K 2 12 [gd_aJ K ou 1 of, gd_ob 4 h [.ref c, .ref sp, .ref ru, .ref md, .ref fe, .ref rd, .int wa], gd_ob 0 c [.ref ca, .long w], gd_aJ K ca 64 f] [(0, .ref h), (1, .int k), (2, .int k2), (3, .ref ou)] [.ref q9] 12
    refine gd_wsp [gd_ob 4 h [.ref c, .ref sp, .ref ru, .ref md, .ref fe, .ref rd, .int wa], gd_ob 0 c [.ref ca, .long w], gd_aJ K ca 64 f, gd_aJ K ou 1 of] [1, 2, 3, 0] rfl rfl rfl ?_
    show gd_W X K 2 12 [gd_ob 4 h [.ref c, .ref sp, .ref ru, .ref md, .ref fe, .ref rd, .int wa], gd_ob 0 c [.ref ca, .long w], gd_aJ K ca 64 f, gd_aJ K ou 1 of] [(0, .ref h), (1, .int k), (2, .int k2), (3, .ref ou)] [.ref q9] 12
    refine gd_astore hX [(4, .ref q9), (0, .ref h), (1, .int k), (2, .int k2), (3, .ref ou)] 12 dd_La_sum_12 (by decide) rfl ?_
    refine gd_iconst hX 14 dd_La_sum_14 (v := 1) (by decide) ?_
    exact gd_iret hX hE 15 dd_La_sum_15 (Or.inr ⟨rfl, (by rcases hx with h | h; { rw [ch_no_t h]; rfl }; { rw [ch_no_t h, Bool.or_true] }), rfl⟩)
set_option maxRecDepth 100000 in
set_option maxHeartbeats 4000000 in
theorem ct_La_code (l : Launch) (K : gd_K) (hl : l.stackTraces = false) (h c sp ru md fe rd : Nat) (wa : Int32) (mr : Nat) (L : List Nat) (fm : Nat → Int32) (ou : Nat) (of : Nat → Int64) (k : Int32) (hL : L.length ≤ 712) (hB : ch_B fm L) : gd_M l yy_La_code bb_La_code 4 (some .int) [(0, 8, 11, 13)] 7 101 1 6 K [.ref h, .int k, .ref ou] [gd_ob 4 h [.ref c, .ref sp, .ref ru, .ref md, .ref fe, .ref rd, .int wa], gd_ob 1 md [.ref mr, .int (nI L.length)], gd_aB K mr 712 fm, gd_aJ K ou 1 of] (fun v9 w1 => (v9 = some (.int 0) ∧ ∃ j, j < (L.length + 7) / 8 ∧ k = nI j ∧ w1 = [gd_ob 4 h [.ref c, .ref sp, .ref ru, .ref md, .ref fe, .ref rd, .int wa], gd_ob 1 md [.ref mr, .int (nI L.length)], gd_aB K mr 712 fm, gd_aJ K ou 1 (vp_updL of 0 (ch_wd L j 8))]) ∨ (v9 = some (.int 1) ∧ (k < 0 ∨ nI ((L.length + 7) / 8) ≤ k) ∧ w1 = [gd_ob 4 h [.ref c, .ref sp, .ref ru, .ref md, .ref fe, .ref rd, .int wa], gd_ob 1 md [.ref mr, .int (nI L.length)], gd_aB K mr 712 fm, gd_aJ K ou 1 of])) (fun _ _ => False) := by
  refine gd_body (Nat.le_of_ble_eq_true rfl) (fun X hXl hin hE hX => ?_)
  refine gd_aload_n hX 0 dd_La_code_0 rfl ?_
  refine gd_iconst hX 1 dd_La_code_1 (v := 0) (by decide) ?_
  refine gd_aload_n hX 2 dd_La_code_2 rfl ?_
  refine gd_iload_n hX 3 dd_La_code_3 rfl ?_
  refine gd_call hX (st := [.int 0, .ref ou]) (wr := [gd_aJ K ou 1 of]) (ct_Ch_code _ K (by rw [hXl]; exact hl) h c sp ru md fe rd wa mr L fm k hL hB) 4 dd_La_code_4 (gd_nV hX (As := [.int k]) kw_302 kw_303 kw_304 (gd_sigOf (n := 1) kw_305 (by decide)) (by decide) 0 rfl rfl rfl rfl dd_La_code_4) (gd_codeOf kw_305) (by decide) [0, 1, 2] [3] rfl rfl rfl rfl rfl (by decide) (Nat.le_of_ble_eq_true rfl) (Nat.le_of_ble_eq_true rfl) (Nat.le_of_ble_eq_true rfl) (Nat.le_of_ble_eq_true rfl) (fun v9 w9 h9 => ?_) (fun E9 w9 q9 hx9 => ?_)
  · skip
    obtain ⟨j, hj, hk, rfl, rfl⟩ := h9
    refine gd_wsp [gd_ob 4 h [.ref c, .ref sp, .ref ru, .ref md, .ref fe, .ref rd, .int wa], gd_ob 1 md [.ref mr, .int (nI L.length)], gd_aB K mr 712 fm, gd_aJ K ou 1 of] [1, 2, 3, 0] rfl rfl rfl ?_
    show gd_W X K 1 6 [gd_ob 4 h [.ref c, .ref sp, .ref ru, .ref md, .ref fe, .ref rd, .int wa], gd_ob 1 md [.ref mr, .int (nI L.length)], gd_aB K mr 712 fm, gd_aJ K ou 1 of] [(0, .ref h), (1, .int k), (2, .ref ou)] [.long (ch_wd L j 8), .int 0, .ref ou] 7
    refine gd_last hX 3 0 [gd_ob 4 h [.ref c, .ref sp, .ref ru, .ref md, .ref fe, .ref rd, .int wa], gd_ob 1 md [.ref mr, .int (nI L.length)], gd_aB K mr 712 fm, gd_aJ K ou 1 (vp_updL of 0 (ch_wd L j 8))] 7 dd_La_code_7 rfl rfl (by omega) (by decide) rfl ?_
    refine gd_goto hX 8 14 dd_La_code_8 (by decide) ?_
    refine gd_iconst hX 14 dd_La_code_14 (v := 0) (by decide) ?_
    exact gd_iret hX hE 15 dd_La_code_15 (Or.inl ⟨rfl, j, hj, hk, rfl⟩)
  · skip
    obtain ⟨rfl, rfl, hx⟩ := hx9
    refine gd_catch hX [] (0, 8, 11, 13) [] rfl (fun z hz => nomatch hz) (by decide) (by decide) kw_175 kw_185 ?_
    show gd_W X K 1 6 [gd_aJ K ou 1 of, gd_ob 4 h [.ref c, .ref sp, .ref ru, .ref md, .ref fe, .ref rd, .int wa], gd_ob 1 md [.ref mr, .int (nI L.length)], gd_aB K mr 712 fm] [(0, .ref h), (1, .int k), (2, .ref ou)] [.ref q9] 11
    refine gd_wsp [gd_ob 4 h [.ref c, .ref sp, .ref ru, .ref md, .ref fe, .ref rd, .int wa], gd_ob 1 md [.ref mr, .int (nI L.length)], gd_aB K mr 712 fm, gd_aJ K ou 1 of] [1, 2, 3, 0] rfl rfl rfl ?_
    show gd_W X K 1 6 [gd_ob 4 h [.ref c, .ref sp, .ref ru, .ref md, .ref fe, .ref rd, .int wa], gd_ob 1 md [.ref mr, .int (nI L.length)], gd_aB K mr 712 fm, gd_aJ K ou 1 of] [(0, .ref h), (1, .int k), (2, .ref ou)] [.ref q9] 11
    refine gd_astore_n hX [(3, .ref q9), (0, .ref h), (1, .int k), (2, .ref ou)] 11 dd_La_code_11 rfl (by decide) rfl ?_
    refine gd_iconst hX 12 dd_La_code_12 (v := 1) (by decide) ?_
    exact gd_iret hX hE 13 dd_La_code_13 (Or.inr ⟨rfl, hx, rfl⟩)
set_option maxRecDepth 100000 in
set_option maxHeartbeats 4000000 in
theorem ct_La_feed (l : Launch) (K : gd_K) (hl : l.stackTraces = false) (h c sp ru md fe rd : Nat) (wa : Int32) (fr : Nat) (L : List Nat) (ff : Nat → Int32) (ou : Nat) (of : Nat → Int64) (x : Int64) (k : Int32) (hL : L.length ≤ 1000) (hB : ch_B ff L) : gd_M l yy_La_feed bb_La_feed 6 (some .int) [(0, 11, 14, 36), (0, 11, 18, 13)] 7 100 1 6 K [.ref h, .long x, .int k, .ref ou] [gd_ob 4 h [.ref c, .ref sp, .ref ru, .ref md, .ref fe, .ref rd, .int wa], gd_ob 1 fe [.ref fr, .int (nI L.length)], gd_aB K fr 1000 ff, gd_aJ K ou 1 of] (fun v9 w1 => (v9 = some (.int 0) ∧ ∃ n, 1 ≤ n ∧ n ≤ 8 ∧ k = nI n ∧ L.length + n ≤ 1000 ∧ ∃ ff', w1 = [gd_ob 4 h [.ref c, .ref sp, .ref ru, .ref md, .ref fe, .ref rd, .int wa], gd_ob 1 fe [.ref fr, .int (nI (L ++ (ch_fd x).take n).length)], gd_aB K fr 1000 ff', gd_aJ K ou 1 (vp_updL of 0 ((nI (L ++ (ch_fd x).take n).length).toInt64))] ∧ ch_B ff' (L ++ (ch_fd x).take n)) ∨ (v9 = some (.int 1) ∧ (k < 1 ∨ 8 < k) ∧ w1 = [gd_ob 4 h [.ref c, .ref sp, .ref ru, .ref md, .ref fe, .ref rd, .int wa], gd_ob 1 fe [.ref fr, .int (nI L.length)], gd_aB K fr 1000 ff, gd_aJ K ou 1 of]) ∨ (v9 = some (.int 2) ∧ ∃ n, 1 ≤ n ∧ n ≤ 8 ∧ k = nI n ∧ 1000 < L.length + n ∧ w1 = [gd_ob 4 h [.ref c, .ref sp, .ref ru, .ref md, .ref fe, .ref rd, .int wa], gd_ob 1 fe [.ref fr, .int (nI L.length)], gd_aB K fr 1000 ff, gd_aJ K ou 1 of])) (fun _ _ => False) := by
  refine gd_body (Nat.le_of_ble_eq_true rfl) (fun X hXl hin hE hX => ?_)
  refine gd_aload hX 0 dd_La_feed_0 rfl ?_
  refine gd_iconst hX 2 dd_La_feed_2 (v := 0) (by decide) ?_
  refine gd_aload_n hX 3 dd_La_feed_3 rfl ?_
  refine gd_lload_n hX 4 dd_La_feed_4 rfl ?_
  refine gd_iload_n hX 5 dd_La_feed_5 rfl ?_
  refine gd_call hX (st := [.int 0, .ref ou]) (wr := [gd_aJ K ou 1 of]) (ct_Ch_feed _ K (by rw [hXl]; exact hl) h c sp ru md fe rd wa fr L ff x k hL hB) 6 dd_La_feed_6 (gd_nV hX (As := [.long x, .int k]) kw_315 kw_316 kw_317 (gd_sigOf (n := 2) kw_318 (by decide)) (by decide) 0 rfl rfl rfl rfl dd_La_feed_6) (gd_codeOf kw_318) (by decide) [0, 1, 2] [3] rfl rfl rfl rfl rfl (by decide) (Nat.le_of_ble_eq_true rfl) (Nat.le_of_ble_eq_true rfl) (Nat.le_of_ble_eq_true rfl) (Nat.le_of_ble_eq_true rfl) (fun v9 w9 h9 => ?_) (fun E9 w9 q9 hx9 => ?_)
  · skip
    obtain ⟨n, h1, h2, hk, h3, rfl, ff', rfl, hB2⟩ := h9
    refine gd_wsp [gd_ob 4 h [.ref c, .ref sp, .ref ru, .ref md, .ref fe, .ref rd, .int wa], gd_ob 1 fe [.ref fr, .int (nI (L ++ (ch_fd x).take n).length)], gd_aB K fr 1000 ff', gd_aJ K ou 1 of] [1, 2, 3, 0] rfl rfl rfl ?_
    show gd_W X K 1 6 [gd_ob 4 h [.ref c, .ref sp, .ref ru, .ref md, .ref fe, .ref rd, .int wa], gd_ob 1 fe [.ref fr, .int (nI (L ++ (ch_fd x).take n).length)], gd_aB K fr 1000 ff', gd_aJ K ou 1 of] [(0, .ref h), (1, .long x), (3, .int k), (4, .ref ou)] [.int (nI (L ++ (ch_fd x).take n).length), .int 0, .ref ou] 9
    refine gd_i2l hX 9 dd_La_feed_9 ?_
    refine gd_last hX 3 0 [gd_ob 4 h [.ref c, .ref sp, .ref ru, .ref md, .ref fe, .ref rd, .int wa], gd_ob 1 fe [.ref fr, .int (nI (L ++ (ch_fd x).take n).length)], gd_aB K fr 1000 ff', gd_aJ K ou 1 (vp_updL of 0 ((nI (L ++ (ch_fd x).take n).length).toInt64))] 10 dd_La_feed_10 rfl rfl (by omega) (by decide) rfl ?_
    refine gd_goto hX 11 22 dd_La_feed_11 (by decide) ?_
    refine gd_iconst hX 22 dd_La_feed_22 (v := 0) (by decide) ?_
    exact gd_iret hX hE 23 dd_La_feed_23 (Or.inl ⟨rfl, n, h1, h2, hk, h3, ff', rfl, hB2⟩)
  · skip
    rcases hx9 with hx9 | hx9
    · skip
      obtain ⟨rfl, rfl, hx⟩ := hx9
      refine gd_catch hX [] (0, 11, 14, 36) [(0, 11, 18, 13)] rfl (fun z hz => nomatch hz) (by decide) (by decide) kw_314 kw_321 ?_
      show gd_W X K 1 6 [gd_aJ K ou 1 of, gd_ob 4 h [.ref c, .ref sp, .ref ru, .ref md, .ref fe, .ref rd, .int wa], gd_ob 1 fe [.ref fr, .int (nI L.length)], gd_aB K fr 1000 ff] [(0, .ref h), (1, .long x), (3, .int k), (4, .ref ou)] [.ref q9] 14
      refine gd_wsp [gd_ob 4 h [.ref c, .ref sp, .ref ru, .ref md, .ref fe, .ref rd, .int wa], gd_ob 1 fe [.ref fr, .int (nI L.length)], gd_aB K fr 1000 ff, gd_aJ K ou 1 of] [1, 2, 3, 0] rfl rfl rfl ?_
      show gd_W X K 1 6 [gd_ob 4 h [.ref c, .ref sp, .ref ru, .ref md, .ref fe, .ref rd, .int wa], gd_ob 1 fe [.ref fr, .int (nI L.length)], gd_aB K fr 1000 ff, gd_aJ K ou 1 of] [(0, .ref h), (1, .long x), (3, .int k), (4, .ref ou)] [.ref q9] 14
      refine gd_astore hX [(5, .ref q9), (0, .ref h), (1, .long x), (3, .int k), (4, .ref ou)] 14 dd_La_feed_14 (by decide) rfl ?_
      refine gd_iconst hX 16 dd_La_feed_16 (v := 1) (by decide) ?_
      exact gd_iret hX hE 17 dd_La_feed_17 (Or.inr (Or.inl ⟨rfl, hx, rfl⟩))
    · skip
      obtain ⟨rfl, rfl, n, h1, h2, hk, h3⟩ := hx9
      refine gd_catch hX [(0, 11, 14, 36)] (0, 11, 18, 13) [] rfl (fun z hz => by cases List.mem_singleton.mp hz; exact ⟨by decide, _, kw_314, hX.2.2.1.2.2.2.2.2.2.1⟩) (by decide) (by decide) kw_175 kw_185 ?_
      show gd_W X K 1 6 [gd_aJ K ou 1 of, gd_ob 4 h [.ref c, .ref sp, .ref ru, .ref md, .ref fe, .ref rd, .int wa], gd_ob 1 fe [.ref fr, .int (nI L.length)], gd_aB K fr 1000 ff] [(0, .ref h), (1, .long x), (3, .int k), (4, .ref ou)] [.ref q9] 18
      refine gd_wsp [gd_ob 4 h [.ref c, .ref sp, .ref ru, .ref md, .ref fe, .ref rd, .int wa], gd_ob 1 fe [.ref fr, .int (nI L.length)], gd_aB K fr 1000 ff, gd_aJ K ou 1 of] [1, 2, 3, 0] rfl rfl rfl ?_
      show gd_W X K 1 6 [gd_ob 4 h [.ref c, .ref sp, .ref ru, .ref md, .ref fe, .ref rd, .int wa], gd_ob 1 fe [.ref fr, .int (nI L.length)], gd_aB K fr 1000 ff, gd_aJ K ou 1 of] [(0, .ref h), (1, .long x), (3, .int k), (4, .ref ou)] [.ref q9] 18
      refine gd_astore hX [(5, .ref q9), (0, .ref h), (1, .long x), (3, .int k), (4, .ref ou)] 18 dd_La_feed_18 (by decide) rfl ?_
      refine gd_iconst hX 20 dd_La_feed_20 (v := 2) (by decide) ?_
      exact gd_iret hX hE 21 dd_La_feed_21 (Or.inr (Or.inr ⟨rfl, n, h1, h2, hk, h3, rfl⟩))
set_option maxRecDepth 100000 in
set_option maxHeartbeats 4000000 in
theorem ct_La_decode (l : Launch) (K : gd_K) (hl : l.stackTraces = false) (h c sp ru md fe rd : Nat) (wa : Int32) (sa : Nat) (t : Int32) (fo w0 : Int64) (G : Nat → Int64) (fr : Nat) (L : List Nat) (ff : Nat → Int32) (ou : Nat) (of : Nat → Int64) (hL : L.length ≤ 1000) (hB : ch_B ff L) (hO : ∀ x ∈ L, x < 256) : gd_M l yy_La_decode bb_La_decode 3 (some .int) [(0, 8, 11, 36)] 7 98 1 6 K [.ref h, .ref ou] [gd_ob 4 h [.ref c, .ref sp, .ref ru, .ref md, .ref fe, .ref rd, .int wa], gd_ob 2 rd [.int t, .long fo], gd_ob 1 fe [.ref fr, .int (nI L.length)], gd_aB K fr 1000 ff, gd_ob 0 sp [.ref sa, .long w0], gd_aJ K sa 64 G, gd_aJ K ou 1 of] (fun v9 w1 => (v9 = some (.int 0) ∧ ∃ z, (ch_dec L).2 = some z ∧ ∃ fo' G', w1 = [gd_ob 4 h [.ref sp, .ref c, .ref ru, .ref md, .ref fe, .ref rd, .int (-1)], gd_ob 2 rd [.int (nI (ch_dec L).1), .long fo'], gd_ob 1 fe [.ref fr, .int (nI 0)], gd_aB K fr 1000 ff, gd_ob 0 sp [.ref sa, .long z.1], gd_aJ K sa 64 G', gd_aJ K ou 1 (vp_updL of 0 ((nI (ch_pop z.1 64)).toInt64))] ∧ ∀ j, j < 64 → ch_bit z.1 j = true → G' j = z.2 j) ∨ (v9 = some (.int 1) ∧ (ch_dec L).2 = none ∧ ∃ fo' wm' G', w1 = [gd_ob 4 h [.ref c, .ref sp, .ref ru, .ref md, .ref fe, .ref rd, .int (nI (ch_dec L).1)], gd_ob 2 rd [.int (nI (ch_dec L).1), .long fo'], gd_ob 1 fe [.ref fr, .int (nI 0)], gd_aB K fr 1000 ff, gd_ob 0 sp [.ref sa, .long wm'], gd_aJ K sa 64 G', gd_aJ K ou 1 of])) (fun _ _ => False) := by
  refine gd_body (Nat.le_of_ble_eq_true rfl) (fun X hXl hin hE hX => ?_)
  refine gd_aload_n hX 0 dd_La_decode_0 rfl ?_
  refine gd_iconst hX 1 dd_La_decode_1 (v := 0) (by decide) ?_
  refine gd_aload_n hX 2 dd_La_decode_2 rfl ?_
  refine gd_call hX (st := [.int 0, .ref ou]) (wr := [gd_aJ K ou 1 of]) (ct_Ch_decode _ K (by rw [hXl]; exact hl) h c sp ru md fe rd wa sa t fo w0 G fr L ff hL hB hO) 3 dd_La_decode_3 (gd_nV hX (As := []) kw_339 kw_340 kw_341 (gd_sigOf (n := 0) kw_342 (by decide)) (by decide) 0 rfl rfl rfl rfl dd_La_decode_3) (gd_codeOf kw_342) (by decide) [0, 1, 2, 3, 4, 5] [6] rfl rfl rfl rfl rfl (by decide) (Nat.le_of_ble_eq_true rfl) (Nat.le_of_ble_eq_true rfl) (Nat.le_of_ble_eq_true rfl) (Nat.le_of_ble_eq_true rfl) (fun v9 w9 h9 => ?_) (fun E9 w9 q9 hx9 => ?_)
  · skip
    obtain ⟨z, hz, rfl, fo', G', rfl, hG⟩ := h9
    refine gd_wsp [gd_ob 4 h [.ref sp, .ref c, .ref ru, .ref md, .ref fe, .ref rd, .int (-1)], gd_ob 2 rd [.int (nI (ch_dec L).1), .long fo'], gd_ob 1 fe [.ref fr, .int (nI 0)], gd_aB K fr 1000 ff, gd_ob 0 sp [.ref sa, .long z.1], gd_aJ K sa 64 G', gd_aJ K ou 1 of] [1, 2, 3, 4, 5, 6, 0] rfl rfl rfl ?_
    show gd_W X K 1 6 [gd_ob 4 h [.ref sp, .ref c, .ref ru, .ref md, .ref fe, .ref rd, .int (-1)], gd_ob 2 rd [.int (nI (ch_dec L).1), .long fo'], gd_ob 1 fe [.ref fr, .int (nI 0)], gd_aB K fr 1000 ff, gd_ob 0 sp [.ref sa, .long z.1], gd_aJ K sa 64 G', gd_aJ K ou 1 of] [(0, .ref h), (1, .ref ou)] [.int (nI (ch_pop z.1 64)), .int 0, .ref ou] 6
    refine gd_i2l hX 6 dd_La_decode_6 ?_
    refine gd_last hX 6 0 [gd_ob 4 h [.ref sp, .ref c, .ref ru, .ref md, .ref fe, .ref rd, .int (-1)], gd_ob 2 rd [.int (nI (ch_dec L).1), .long fo'], gd_ob 1 fe [.ref fr, .int (nI 0)], gd_aB K fr 1000 ff, gd_ob 0 sp [.ref sa, .long z.1], gd_aJ K sa 64 G', gd_aJ K ou 1 (vp_updL of 0 ((nI (ch_pop z.1 64)).toInt64))] 7 dd_La_decode_7 rfl rfl (by omega) (by decide) rfl ?_
    refine gd_goto hX 8 14 dd_La_decode_8 (by decide) ?_
    refine gd_iconst hX 14 dd_La_decode_14 (v := 0) (by decide) ?_
    exact gd_iret hX hE 15 dd_La_decode_15 (Or.inl ⟨rfl, z, hz, fo', G', rfl, hG⟩)
  · skip
    obtain ⟨rfl, hn, fo', wm', G', rfl⟩ := hx9
    refine gd_catch hX [] (0, 8, 11, 36) [] rfl (fun z hz => nomatch hz) (by decide) (by decide) kw_314 kw_321 ?_
    show gd_W X K 1 6 [gd_aJ K ou 1 of, gd_ob 4 h [.ref c, .ref sp, .ref ru, .ref md, .ref fe, .ref rd, .int (nI (ch_dec L).1)], gd_ob 2 rd [.int (nI (ch_dec L).1), .long fo'], gd_ob 1 fe [.ref fr, .int (nI 0)], gd_aB K fr 1000 ff, gd_ob 0 sp [.ref sa, .long wm'], gd_aJ K sa 64 G'] [(0, .ref h), (1, .ref ou)] [.ref q9] 11
    refine gd_wsp [gd_ob 4 h [.ref c, .ref sp, .ref ru, .ref md, .ref fe, .ref rd, .int (nI (ch_dec L).1)], gd_ob 2 rd [.int (nI (ch_dec L).1), .long fo'], gd_ob 1 fe [.ref fr, .int (nI 0)], gd_aB K fr 1000 ff, gd_ob 0 sp [.ref sa, .long wm'], gd_aJ K sa 64 G', gd_aJ K ou 1 of] [1, 2, 3, 4, 5, 6, 0] rfl rfl rfl ?_
    show gd_W X K 1 6 [gd_ob 4 h [.ref c, .ref sp, .ref ru, .ref md, .ref fe, .ref rd, .int (nI (ch_dec L).1)], gd_ob 2 rd [.int (nI (ch_dec L).1), .long fo'], gd_ob 1 fe [.ref fr, .int (nI 0)], gd_aB K fr 1000 ff, gd_ob 0 sp [.ref sa, .long wm'], gd_aJ K sa 64 G', gd_aJ K ou 1 of] [(0, .ref h), (1, .ref ou)] [.ref q9] 11
    refine gd_astore_n hX [(2, .ref q9), (0, .ref h), (1, .ref ou)] 11 dd_La_decode_11 rfl (by decide) rfl ?_
    refine gd_iconst hX 12 dd_La_decode_12 (v := 1) (by decide) ?_
    exact gd_iret hX hE 13 dd_La_decode_13 (Or.inr ⟨rfl, hn, fo', wm', G', rfl⟩)
set_option maxRecDepth 100000 in
set_option maxHeartbeats 4000000 in
theorem ct_La_count (l : Launch) (K : gd_K) (hl : l.stackTraces = false) (h c sp ru md fe rd : Nat) (wa : Int32) (ra rb : Nat) (n : Int32) (rn : Nat → Int64) (rs : Nat → Int32) (ca : Nat) (w : Int64) (f : Nat → Int64) (fr mr : Nat) (Lf Lm : List Nat) (ou : Nat) (of : Nat → Int64) (k : Int32) : gd_M l yy_La_count bb_La_count 4 (some .int) [(0, 9, 12, 36)] 7 97 1 6 K [.ref h, .int k, .ref ou] [gd_ob 4 h [.ref c, .ref sp, .ref ru, .ref md, .ref fe, .ref rd, .int wa], gd_ob 3 ru [.ref ra, .ref rb, .int n], gd_aJ K ra 64 rn, gd_aI K rb 64 rs, gd_ob 0 c [.ref ca, .long w], gd_aJ K ca 64 f, gd_ob 1 fe [.ref fr, .int (nI Lf.length)], gd_ob 1 md [.ref mr, .int (nI Lm.length)], gd_aJ K ou 1 of] (fun v9 w1 => (v9 = some (.int 0) ∧ ∃ j, j < 5 ∧ k = nI j ∧ ∃ n' rn' rs', w1 = [gd_ob 4 h [.ref c, .ref sp, .ref ru, .ref md, .ref fe, .ref rd, .int wa], gd_ob 3 ru [.ref ra, .ref rb, .int n'], gd_aJ K ra 64 rn', gd_aI K rb 64 rs', gd_ob 0 c [.ref ca, .long w], gd_aJ K ca 64 f, gd_ob 1 fe [.ref fr, .int (nI Lf.length)], gd_ob 1 md [.ref mr, .int (nI Lm.length)], gd_aJ K ou 1 (vp_updL of 0 ((nI (ch_ct w f Lf Lm j)).toInt64))]) ∨ (v9 = some (.int 1) ∧ (k < 0 ∨ 4 < k) ∧ w1 = [gd_ob 4 h [.ref c, .ref sp, .ref ru, .ref md, .ref fe, .ref rd, .int wa], gd_ob 3 ru [.ref ra, .ref rb, .int n], gd_aJ K ra 64 rn, gd_aI K rb 64 rs, gd_ob 0 c [.ref ca, .long w], gd_aJ K ca 64 f, gd_ob 1 fe [.ref fr, .int (nI Lf.length)], gd_ob 1 md [.ref mr, .int (nI Lm.length)], gd_aJ K ou 1 of])) (fun _ _ => False) := by
  refine gd_body (Nat.le_of_ble_eq_true rfl) (fun X hXl hin hE hX => ?_)
  refine gd_aload_n hX 0 dd_La_count_0 rfl ?_
  refine gd_iconst hX 1 dd_La_count_1 (v := 0) (by decide) ?_
  refine gd_aload_n hX 2 dd_La_count_2 rfl ?_
  refine gd_iload_n hX 3 dd_La_count_3 rfl ?_
  refine gd_call hX (st := [.int 0, .ref ou]) (wr := [gd_aJ K ou 1 of]) (ct_Ch_count _ K (by rw [hXl]; exact hl) h c sp ru md fe rd wa ra rb n rn rs ca w f fr mr Lf Lm k) 4 dd_La_count_4 (gd_nV hX (As := [.int k]) kw_393 kw_394 kw_395 (gd_sigOf (n := 1) kw_396 (by decide)) (by decide) 0 rfl rfl rfl rfl dd_La_count_4) (gd_codeOf kw_396) (by decide) [0, 1, 2, 3, 4, 5, 6, 7] [8] rfl rfl rfl rfl rfl (by decide) (Nat.le_of_ble_eq_true rfl) (Nat.le_of_ble_eq_true rfl) (Nat.le_of_ble_eq_true rfl) (Nat.le_of_ble_eq_true rfl) (fun v9 w9 h9 => ?_) (fun E9 w9 q9 hx9 => ?_)
  · skip
    obtain ⟨j, hj, hk, rfl, n', rn', rs', rfl⟩ := h9
    refine gd_wsp [gd_ob 4 h [.ref c, .ref sp, .ref ru, .ref md, .ref fe, .ref rd, .int wa], gd_ob 3 ru [.ref ra, .ref rb, .int n'], gd_aJ K ra 64 rn', gd_aI K rb 64 rs', gd_ob 0 c [.ref ca, .long w], gd_aJ K ca 64 f, gd_ob 1 fe [.ref fr, .int (nI Lf.length)], gd_ob 1 md [.ref mr, .int (nI Lm.length)], gd_aJ K ou 1 of] [1, 2, 3, 4, 5, 6, 7, 8, 0] rfl rfl rfl ?_
    show gd_W X K 1 6 [gd_ob 4 h [.ref c, .ref sp, .ref ru, .ref md, .ref fe, .ref rd, .int wa], gd_ob 3 ru [.ref ra, .ref rb, .int n'], gd_aJ K ra 64 rn', gd_aI K rb 64 rs', gd_ob 0 c [.ref ca, .long w], gd_aJ K ca 64 f, gd_ob 1 fe [.ref fr, .int (nI Lf.length)], gd_ob 1 md [.ref mr, .int (nI Lm.length)], gd_aJ K ou 1 of] [(0, .ref h), (1, .int k), (2, .ref ou)] [.int (nI (ch_ct w f Lf Lm j)), .int 0, .ref ou] 7
    refine gd_i2l hX 7 dd_La_count_7 ?_
    refine gd_last hX 8 0 [gd_ob 4 h [.ref c, .ref sp, .ref ru, .ref md, .ref fe, .ref rd, .int wa], gd_ob 3 ru [.ref ra, .ref rb, .int n'], gd_aJ K ra 64 rn', gd_aI K rb 64 rs', gd_ob 0 c [.ref ca, .long w], gd_aJ K ca 64 f, gd_ob 1 fe [.ref fr, .int (nI Lf.length)], gd_ob 1 md [.ref mr, .int (nI Lm.length)], gd_aJ K ou 1 (vp_updL of 0 ((nI (ch_ct w f Lf Lm j)).toInt64))] 8 dd_La_count_8 rfl rfl (by omega) (by decide) rfl ?_
    refine gd_goto hX 9 15 dd_La_count_9 (by decide) ?_
    refine gd_iconst hX 15 dd_La_count_15 (v := 0) (by decide) ?_
    exact gd_iret hX hE 16 dd_La_count_16 (Or.inl ⟨rfl, j, hj, hk, n', rn', rs', rfl⟩)
  · skip
    obtain ⟨rfl, rfl, hx⟩ := hx9
    refine gd_catch hX [] (0, 9, 12, 36) [] rfl (fun z hz => nomatch hz) (by decide) (by decide) kw_314 kw_321 ?_
    show gd_W X K 1 6 [gd_aJ K ou 1 of, gd_ob 4 h [.ref c, .ref sp, .ref ru, .ref md, .ref fe, .ref rd, .int wa], gd_ob 3 ru [.ref ra, .ref rb, .int n], gd_aJ K ra 64 rn, gd_aI K rb 64 rs, gd_ob 0 c [.ref ca, .long w], gd_aJ K ca 64 f, gd_ob 1 fe [.ref fr, .int (nI Lf.length)], gd_ob 1 md [.ref mr, .int (nI Lm.length)]] [(0, .ref h), (1, .int k), (2, .ref ou)] [.ref q9] 12
    refine gd_wsp [gd_ob 4 h [.ref c, .ref sp, .ref ru, .ref md, .ref fe, .ref rd, .int wa], gd_ob 3 ru [.ref ra, .ref rb, .int n], gd_aJ K ra 64 rn, gd_aI K rb 64 rs, gd_ob 0 c [.ref ca, .long w], gd_aJ K ca 64 f, gd_ob 1 fe [.ref fr, .int (nI Lf.length)], gd_ob 1 md [.ref mr, .int (nI Lm.length)], gd_aJ K ou 1 of] [1, 2, 3, 4, 5, 6, 7, 8, 0] rfl rfl rfl ?_
    show gd_W X K 1 6 [gd_ob 4 h [.ref c, .ref sp, .ref ru, .ref md, .ref fe, .ref rd, .int wa], gd_ob 3 ru [.ref ra, .ref rb, .int n], gd_aJ K ra 64 rn, gd_aI K rb 64 rs, gd_ob 0 c [.ref ca, .long w], gd_aJ K ca 64 f, gd_ob 1 fe [.ref fr, .int (nI Lf.length)], gd_ob 1 md [.ref mr, .int (nI Lm.length)], gd_aJ K ou 1 of] [(0, .ref h), (1, .int k), (2, .ref ou)] [.ref q9] 12
    refine gd_astore_n hX [(3, .ref q9), (0, .ref h), (1, .int k), (2, .ref ou)] 12 dd_La_count_12 rfl (by decide) rfl ?_
    refine gd_iconst hX 13 dd_La_count_13 (v := 1) (by decide) ?_
    exact gd_iret hX hE 14 dd_La_count_14 (Or.inr ⟨rfl, (by rcases hx with h | h; { exact Or.inl (Int32.lt_iff_toInt_lt.mpr h) }; { exact Or.inr (Int32.lt_iff_toInt_lt.mpr h) }), rfl⟩)
end
