/-! A walk with its world, its locals and its operands in sight (gd_): what is fixed in a method lies in one tuple X. -/
/-- (the numbers and slots of the kinds), the kinds of int[], long[], byte[], boolean[], and the size of the heap at the start -/
abbrev gd_K : Type := va_G × ClassId × ClassId × ClassId × ClassId × Nat
abbrev gd_tys (K : gd_K) : List (ClassId × FieldType) := [(K.2.1, .int), (K.2.2.1, .long), (K.2.2.2.1, .byte), (K.2.2.2.2.1, .boolean)]
abbrev gd_sb (K : gd_K) : Nat := K.2.2.2.2.2
/-- arrays and objects of a world -/
abbrev gd_aI (K : gd_K) (r n : Nat) (f : Nat → Int32) : Nat × va_E := (r, .inl (K.2.1, n, .inl f))
abbrev gd_aJ (K : gd_K) (r n : Nat) (f : Nat → Int64) : Nat × va_E := (r, .inl (K.2.2.1, n, .inr (.inl f)))
abbrev gd_aB (K : gd_K) (r n : Nat) (f : Nat → Int32) : Nat × va_E := (r, .inl (K.2.2.2.1, n, .inl f))
abbrev gd_aZ (K : gd_K) (r n : Nat) (f : Nat → Int32) : Nat × va_E := (r, .inl (K.2.2.2.2.1, n, .inl f))
abbrev gd_ob (ci : Nat) (h : Nat) (fs : List Value) : Nat × va_E := (h, .inr (ci, fs))
/-- the texts of the throws -/
def gd_str : List (Nat × String) := [(135, "there is no such cell"), (65, "the cell is empty"), (107, "the code has no such octets"), (115, "a feed is of 1 to 8 octets"), (118, "more would be fed than there is room for"), (127, "what was fed is no code"), (133, "there is no such count")]
/-- the two statics that a throw reads, and its texts -/
def gd_Z (sb : Nat) (U : State) (H : Heap) : Prop :=
  vx_Zq Bundle.tN "UNASSIGNED_STACK" Bundle.steD (fun q => sb ≤ q) U H ∧ vx_Zq Bundle.tN "SUPPRESSED_SENTINEL" Bundle.listD (fun q => sb ≤ q) U H ∧ (∀ x ∈ gd_str, ∃ a, vk_R "ChunkCode" x.1 x.2 a U) ∧ va_Nc "java/lang/IndexOutOfBoundsException" "java/lang/IllegalArgumentException" U ∧ va_Nc "java/lang/UnsupportedOperationException" "java/lang/IndexOutOfBoundsException" U
theorem gd_Z.at {sb : Nat} {s U : State} (hW : s.WarmedH U.vm) (hq : ∀ q, q < sb → U.heap[q]? = s.heap[q]?) (h : gd_Z sb s s.heap) : gd_Z sb U U.heap := by
  obtain ⟨h1, h2, h3, h4, h5⟩ := h
  have hk : ∀ a : Nat, a < s.heap.size → ¬ (sb ≤ a) → U.heap[a]? = s.heap[a]? := fun a _ h => hq a (Nat.lt_of_not_le h)
  refine ⟨vx_Zq.moved hW.alike (h1.kept hk), vx_Zq.moved hW.alike (h2.kept hk), fun x hx => ?_, va_Nc.moved hW.alike h4, va_Nc.moved hW.alike h5⟩
  obtain ⟨a, ha⟩ := h3 x hx
  exact ⟨a, vk_R.warm hW ha⟩
/-- what holds in every state of the run: the tables' words, the kinds, the statics that a throw reads -/
def gd_S (K : gd_K) (args : Array Value) (s : State) : Prop :=
  (∀ w ∈ TS, w.before args s = true) ∧ va_K K.1 cls_ (gd_tys K) s ∧ gd_sb K ≤ s.heap.size ∧ gd_Z (gd_sb K) s s.heap
/-- how a method ends: its answer, or the kind of what it throws, with its world -/
def gd_Q (below : List Frame) (s : State) (K : gd_K) (wc : va_W) (post : Option Value → va_W → Prop) (xp : String → va_W → Prop) (mc ms : Nat) : State → Prop := fun t =>
  ∃ (o : Outcome) (L : List Loc), t.status = .running ∧ Ended t below o ∧ s.WarmedH t.vm ∧ s.sameButNew ({ t with vm := s.vm } : State) L mc ms ∧ (∀ q ∈ L, va_A wc s.heap.size q.base) ∧
    va_F (va_A wc s.heap.size) s t ∧
    ((∃ (v : Option Value) (w1 : va_W), o = .returned v ∧ post v w1 ∧ va_P K.1 cls_ w1 t.heap ∧ va_D (va_A wc s.heap.size) w1) ∨
     (∃ (q : Addr) (E : String) (w1 : va_W) (ce : Cell), o = .threw q ∧ xp E w1 ∧ va_P K.1 cls_ w1 t.heap ∧ va_D (va_A wc s.heap.size) w1 ∧ t.heap[q]? = some ce ∧ ce.vm = .none ∧ s.vm.findClass E = some ce.cls))
/-- a method's contract: from every state of the run, with the world wc -/
def gd_M (l : Launch) (y : MethodName) (cc : ByteArray) (maxL : Nat) (ret : Option FieldType) (tb : List (Nat × Nat × Nat × Nat)) (fr lo mc ms : Nat) (K : gd_K) (As : List Value) (wc : va_W) (post : Option Value → va_W → Prop) (xp : String → va_W → Prop) : Prop :=
  ∀ (p : Program) (e : Env) (s : State) (m : MethodId) (args : Array Value) (below : List Frame) (meth : Method) (c : Code) (T : State),
    Stand p l e { frames := fr, cells := mc, slots := ms, locals := lo } s m args below meth c T [] 0 0 → T.heap = s.heap → p.tables.exec = Jvm.exec → gd_S K args s →
    c.code = cc → c.maxLocals = maxL → c.exceptionTable.toList.map (fun h => (h.startPc, h.endPc, h.handlerPc, h.catchType)) = tb → meth.sig.returnType = ret → meth.locks = false →
    s.vm.findClass y.cls = some m.cls → meth.name = y.name → args = As.toArray → va_P K.1 cls_ wc s.heap → va_D (fun q => gd_sb K ≤ q) wc →
    ∃ t, Steps p.tables e below (T.setTop (entryFrame m args maxL)) t ∧ gd_Q below s K wc post xp mc ms t
abbrev gd_X : Type := Program × Launch × Env × Room × State × MethodId × Array Value × List Frame × Method × Code × (State → Prop) × Nat × (Nat → Prop)
abbrev gx_p (X : gd_X) := X.1
abbrev gx_l (X : gd_X) := X.2.1
abbrev gx_e (X : gd_X) := X.2.2.1
abbrev gx_R (X : gd_X) := X.2.2.2.1
abbrev gx_s (X : gd_X) := X.2.2.2.2.1
abbrev gx_m (X : gd_X) := X.2.2.2.2.2.1
abbrev gx_args (X : gd_X) := X.2.2.2.2.2.2.1
abbrev gx_below (X : gd_X) := X.2.2.2.2.2.2.2.1
abbrev gx_meth (X : gd_X) := X.2.2.2.2.2.2.2.2.1
abbrev gx_c (X : gd_X) := X.2.2.2.2.2.2.2.2.2.1
abbrev gx_Q (X : gd_X) := X.2.2.2.2.2.2.2.2.2.2.1
abbrev gx_nL (X : gd_X) := X.2.2.2.2.2.2.2.2.2.2.2.1
abbrev gx_A (X : gd_X) := X.2.2.2.2.2.2.2.2.2.2.2.2
def gd_W (X : gd_X) (K : gd_K) (cells slots : Nat) (ws : va_W) (lv : List (Nat × Value)) (st : List Value) (pc : Nat) : Prop :=
  ∀ (H : Heap) (locs : List Loc) (ls : Array Slot), va_P K.1 cls_ ws H → va_D (gx_A X) ws → va_S (gx_A X) (gx_s X).heap H locs → lv_has ls (gx_nL X) lv →
    W (gx_p X) (gx_l X) (gx_e X) (gx_R X) (gx_s X) (gx_m X) (gx_args X) (gx_below X) (gx_meth X) (gx_c X) H locs cells slots (gx_Q X) (F0 (gx_m X) pc ls st)
/-- .. with an object of the kind E thrown at the instruction -/
def gd_T (X : gd_X) (K : gd_K) (cells slots : Nat) (ws : va_W) (lv : List (Nat × Value)) (st : List Value) (pc : Nat) (E : String) (q : Addr) : Prop :=
  ∀ (H : Heap) (locs : List Loc) (ls : Array Slot) (ce : Cell) (T : State), va_P K.1 cls_ ws H → va_D (gx_A X) ws → va_S (gx_A X) (gx_s X).heap H locs → lv_has ls (gx_nL X) lv →
    H[q]? = some ce → ce.vm = .none → (gx_s X).vm.findClass E = some ce.cls → T.heap = H →
    Stand (gx_p X) (gx_l X) (gx_e X) (gx_R X) (gx_s X) (gx_m X) (gx_args X) (gx_below X) (gx_meth X) (gx_c X) T locs cells slots →
    ∃ t, Steps (gx_p X).tables (gx_e X) (gx_below X) ((T.setTop (F0 (gx_m X) pc ls st)).pushFrame (.throwing q)) t ∧ gx_Q X t
/-- what is fixed in the method -/
def gd_C (X : gd_X) (K : gd_K) (cc : ByteArray) (own : String) (nL : Nat) (tb : List (Nat × Nat × Nat × Nat)) (rm : Room) : Prop :=
  (gx_p X).tables.exec = Jvm.exec ∧ (gx_c X).code = cc ∧ gd_S K (gx_args X) (gx_s X) ∧ (gx_s X).vm.findClass own = some (gx_m X).cls ∧ (∀ q, (gx_s X).heap.size ≤ q → gx_A X q) ∧ (∀ q, gx_A X q → gd_sb K ≤ q) ∧
  gx_nL X = nL ∧ (gx_c X).maxLocals = gx_nL X ∧ (gx_c X).exceptionTable.toList.map (fun h => (h.startPc, h.endPc, h.handlerPc, h.catchType)) = tb ∧ (gx_meth X).locks = false ∧ gx_R X = rm
/-- what the method owes at its end -/
def gd_E (X : gd_X) (K : gd_K) (ret : Option FieldType) (wc : va_W) (post : Option Value → va_W → Prop) (xp : String → va_W → Prop) (mc ms : Nat) : Prop :=
  (gx_meth X).sig.returnType = ret ∧ gx_A X = va_A wc (gx_s X).heap.size ∧ gx_Q X = gd_Q (gx_below X) (gx_s X) K wc post xp mc ms
theorem gd_weak {tb : Tables} {e : Env} {mid below : List Frame} {a b : State} (h : Steps tb e (mid ++ below) a b) : Steps tb e below a b := by
  obtain ⟨n, hn, w⟩ := h
  exact ⟨n, hn, fun k hk => (w k hk).weaken⟩
def gd_lk : List (Nat × Value) → Nat → Option Value
  | [], _ => none
  | q :: r, i => if q.1 = i then some q.2 else gd_lk r i
theorem gd_lk_at {ls : Array Slot} {nL : Nat} : ∀ {lv : List (Nat × Value)} {i : Nat} {v : Value}, lv_has ls nL lv → gd_lk lv i = some v → ls[i]? = some (.val v)
  | [], _, _, _, h => nomatch h
  | q :: r, i, v, h, hk => by
    unfold gd_lk at hk
    by_cases e : q.1 = i
    · rw [if_pos e] at hk
      have := h.2.2 q List.mem_cons_self
      rw [e] at this
      rw [this]
      cases hk
      rfl
    · rw [if_neg e] at hk
      exact gd_lk_at (lv := r) ⟨h.1, h.2.1, fun z hz => h.2.2 z (List.mem_cons_of_mem _ hz)⟩ hk
theorem gd_sub {ls : Array Slot} {nL : Nat} {lv lv' : List (Nat × Value)} (h : lv_has ls nL lv) (hs : ∀ q ∈ lv', q ∈ lv) : lv_has ls nL lv' := ⟨h.1, h.2.1, fun q hq => h.2.2 q (hs q hq)⟩
/-- a method's body, from its entry -/
theorem gd_body {l : Launch} {y : MethodName} {cc : ByteArray} {maxL : Nat} {ret : Option FieldType} {tb : List (Nat × Nat × Nat × Nat)} {fr lo mc ms : Nat} {K : gd_K} {As : List Value} {wc : va_W} {post : Option Value → va_W → Prop} {xp : String → va_W → Prop}
    (hlen : (lg_sl As).length ≤ maxL)
    (h : ∀ X : gd_X, gx_l X = l → (gx_meth X).name = y.name → gd_E X K ret wc post xp mc ms →
      gd_C X K cc y.cls maxL tb { frames := fr, cells := mc, slots := ms, locals := lo } → gd_W X K 0 0 wc (lv_args 0 As) [] 0) :
    gd_M l y cc maxL ret tb fr lo mc ms K As wc post xp := by
  intro p e s m args below meth c T Y hT hx hS hb hml htb hr hlk hown hnm ha hP hD
  subst ha
  have hl := lv_entry As (n := maxL) hlen
  have hA : ∀ q, va_A wc s.heap.size q → gd_sb K ≤ q := by
    intro q hq
    rcases hq with ⟨k, e1, h1⟩ | h1
    · exact hD.2 k _ h1
    · exact Nat.le_trans hS.2.2.1 h1
  have hg := h (p, l, e, { frames := fr, cells := mc, slots := ms, locals := lo }, s, m, As.toArray, below, meth, c, gd_Q below s K wc post xp mc ms, maxL, va_A wc s.heap.size) rfl hnm ⟨hr, rfl, rfl⟩
    ⟨hx, hb, hS, hown, fun q hq => Or.inr hq, hA, rfl, hml, htb, hlk, rfl⟩
    s.heap [] _ hP (hD.self (sz := s.heap.size)) va_S.rf hl
  obtain ⟨t, h1, h2⟩ := hg T hT Y
  refine ⟨t, ?_, h2⟩
  rw [lg_entry_eq]
  exact h1
