/-! making objects and arrays -/
section GDM
variable {X : gd_X} {K : gd_K} {cc : ByteArray} {own : String} {nL : Nat} {tb : List (Nat × Nat × Nat × Nat)} {rm : Room} {cells slots : Nat} {ws : va_W} {lv : List (Nat × Value)} {st : List Value}
theorem gd_init (hX : gd_C X K cc own nL tb rm) {index a : Nat} (pc : Nat) (hd : decode cc pc = .ok (.invokespecial index, 3)) (hlink : Cond.methodLink own index ⟨"java/lang/Object", "<init>", "()V"⟩ ∈ TS) (hfr : 1 ≤ rm.frames) (hlo : (st.map fun v => v.category).sum + 12 ≤ rm.locals) (kk : gd_W X K cells slots ws lv st (pc + 3)) : gd_W X K cells slots ws lv (.ref a :: st) pc := by
  intro H locs ls hP hD hS hl
  have hRm := hX.2.2.2.2.2.2.2.2.2.2
  refine W.objInit hX.1 hX.2.1 hX.2.2.2.1 (hX.2.2.1.1 _ hlink) (hX.2.2.1.1 _ kw_32) (hX.2.2.1.1 _ kw_33) rfl (by rw [hX.2.2.2.2.2.2.2.1]; exact hl.1) rfl hd (by rw [hRm]; exact hfr) (by rw [hRm]; simpa using hlo) ?_
  exact kk H locs ls hP hD hS hl
theorem gd_new (hX : gd_C X K cc own nL tb rm) {C : String} {T : u_T} {N ci index : Nat} (hin : ∀ w ∈ u_ws C T N, w ∈ TS) (ty0 : Nat → FieldType) (hty : ∀ k, k < N → parseFieldDescriptor (T k).2.2.1 = some (ty0 k)) (fs : List Value) (pc : Nat) (hd : decode cc pc = .ok (.new index, 3)) (hcl : Cond.classLink own index C ∈ TS) (hinst : Cond.instantiable C N ∈ TS) (hini : Cond.initialized C ∈ TS) (hc : cls_[ci]? = some (C, T, N)) (hfs : ∀ j, j < N → defaultValue (ty0 j) = vp_V fs j) (hce : cells + 1 ≤ rm.cells) (hsl : slots + N ≤ rm.slots)
    (kk : ∀ q, gd_W X K (cells + 1) (slots + N) (ws ++ [gd_ob ci q fs]) lv (.ref q :: st) (pc + 3)) : gd_W X K cells slots ws lv st pc := by
  intro H locs ls hP hD hS hl
  have hRm := hX.2.2.2.2.2.2.2.2.2.2
  exact va_new hX.1 hX.2.1 hX.2.2.1.1 hin ty0 hty hX.2.2.2.1 (hX.2.2.1.1 _ hcl) (hX.2.2.1.1 _ hinst) (hX.2.2.1.1 _ hini) hX.2.2.1.2.1 hP hD hS hX.2.2.2.2.1 hc hfs (by rw [hRm]; exact hce) (by rw [hRm]; exact hsl) hd (fun q H1 hP1 hD1 hS1 => kk q H1 locs ls hP1 hD1 hS1 hl)
theorem gd_newaJ (hX : gd_C X K cc own nL tb rm) {n : Int32} (N : Nat) (pc : Nat) (hd : decode cc pc = .ok (.newarray .long, 2)) (hn : n = nI N) (hN : N < 65536) (hce : cells + 1 ≤ rm.cells) (hsl : slots + N ≤ rm.slots)
    (kk : ∀ q, gd_W X K (cells + 1) (slots + N) (ws ++ [gd_aJ K q N (fun _ => 0)]) lv (.ref q :: st) (pc + 2)) : gd_W X K cells slots ws lv (.int n :: st) pc := by
  subst hn
  intro H locs ls hP hD hS hl
  have hRm := hX.2.2.2.2.2.2.2.2.2.2
  refine va_newa hX.1 hX.2.1 (atype := .long) (hX.2.2.1.1 _ kw_47) (ty := .long) rfl hX.2.2.1.2.1 hP hD hS hX.2.2.2.2.1 (a0 := (N, .inr (.inl (fun _ => 0)))) (fun cA => rfl) (nI_pos (by omega)) (nI_clamp (by omega)) (by show N * 8 ≤ _; omega) (by rw [hRm]; exact hce) (by rw [hRm]; exact hsl) hd (fun q cA H1 hK1 hP1 hD1 hS1 => ?_)
  have e : cA = K.2.2.1 := Option.some.inj ((hK1.2 4 _ rfl).2.symm.trans (hX.2.2.1.2.1.2 1 _ rfl).2)
  subst e
  exact kk q H1 locs ls hP1 hD1 hS1 hl
theorem gd_newaI (hX : gd_C X K cc own nL tb rm) {n : Int32} (N : Nat) (pc : Nat) (hd : decode cc pc = .ok (.newarray .int, 2)) (hn : n = nI N) (hN : N < 65536) (hce : cells + 1 ≤ rm.cells) (hsl : slots + N ≤ rm.slots)
    (kk : ∀ q, gd_W X K (cells + 1) (slots + N) (ws ++ [gd_aI K q N (fun _ => 0)]) lv (.ref q :: st) (pc + 2)) : gd_W X K cells slots ws lv (.int n :: st) pc := by
  subst hn
  intro H locs ls hP hD hS hl
  have hRm := hX.2.2.2.2.2.2.2.2.2.2
  refine va_newa hX.1 hX.2.1 (atype := .int) (hX.2.2.1.1 _ kw_64) (ty := .int) rfl hX.2.2.1.2.1 hP hD hS hX.2.2.2.2.1 (a0 := (N, .inl (fun _ => 0))) (fun cA => rfl) (nI_pos (by omega)) (nI_clamp (by omega)) (by show N * 4 ≤ _; omega) (by rw [hRm]; exact hce) (by rw [hRm]; exact hsl) hd (fun q cA H1 hK1 hP1 hD1 hS1 => ?_)
  have e : cA = K.2.1 := Option.some.inj ((hK1.2 4 _ rfl).2.symm.trans (hX.2.2.1.2.1.2 0 _ rfl).2)
  subst e
  exact kk q H1 locs ls hP1 hD1 hS1 hl
theorem gd_newaB (hX : gd_C X K cc own nL tb rm) {n : Int32} (N : Nat) (pc : Nat) (hd : decode cc pc = .ok (.newarray .byte, 2)) (hn : n = nI N) (hN : N < 65536) (hce : cells + 1 ≤ rm.cells) (hsl : slots + N ≤ rm.slots)
    (kk : ∀ q, gd_W X K (cells + 1) (slots + N) (ws ++ [gd_aB K q N (fun _ => 0)]) lv (.ref q :: st) (pc + 2)) : gd_W X K cells slots ws lv (.int n :: st) pc := by
  subst hn
  intro H locs ls hP hD hS hl
  have hRm := hX.2.2.2.2.2.2.2.2.2.2
  refine va_newa hX.1 hX.2.1 (atype := .byte) (hX.2.2.1.1 _ kw_78) (ty := .byte) rfl hX.2.2.1.2.1 hP hD hS hX.2.2.2.2.1 (a0 := (N, .inl (fun _ => 0))) (fun cA => rfl) (nI_pos (by omega)) (nI_clamp (by omega)) (by show N * 1 ≤ _; omega) (by rw [hRm]; exact hce) (by rw [hRm]; exact hsl) hd (fun q cA H1 hK1 hP1 hD1 hS1 => ?_)
  have e : cA = K.2.2.2.1 := Option.some.inj ((hK1.2 4 _ rfl).2.symm.trans (hX.2.2.1.2.1.2 2 _ rfl).2)
  subst e
  exact kk q H1 locs ls hP1 hD1 hS1 hl
theorem gd_newaZ (hX : gd_C X K cc own nL tb rm) {n : Int32} (N : Nat) (pc : Nat) (hd : decode cc pc = .ok (.newarray .boolean, 2)) (hn : n = nI N) (hN : N < 65536) (hce : cells + 1 ≤ rm.cells) (hsl : slots + N ≤ rm.slots)
    (kk : ∀ q, gd_W X K (cells + 1) (slots + N) (ws ++ [gd_aZ K q N (fun _ => 0)]) lv (.ref q :: st) (pc + 2)) : gd_W X K cells slots ws lv (.int n :: st) pc := by
  subst hn
  intro H locs ls hP hD hS hl
  have hRm := hX.2.2.2.2.2.2.2.2.2.2
  refine va_newa hX.1 hX.2.1 (atype := .boolean) (hX.2.2.1.1 _ kw_445) (ty := .boolean) rfl hX.2.2.1.2.1 hP hD hS hX.2.2.2.2.1 (a0 := (N, .inl (fun _ => 0))) (fun cA => rfl) (nI_pos (by omega)) (nI_clamp (by omega)) (by show N * 1 ≤ _; omega) (by rw [hRm]; exact hce) (by rw [hRm]; exact hsl) hd (fun q cA H1 hK1 hP1 hD1 hS1 => ?_)
  have e : cA = K.2.2.2.2.1 := Option.some.inj ((hK1.2 4 _ rfl).2.symm.trans (hX.2.2.1.2.1.2 3 _ rfl).2)
  subst e
  exact kk q H1 locs ls hP1 hD1 hS1 hl
end GDM
