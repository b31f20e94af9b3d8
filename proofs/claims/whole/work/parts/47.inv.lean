/-! the law's loop: its script, and what holds between the two systems -/
section GDSC
variable {X : gd_X} {K : gd_K} {cc : ByteArray} {own : String} {nL : Nat} {tb : List (Nat × Nat × Nat × Nat)} {rm : Room} {cells slots : Nat} {ws : va_W} {lv : List (Nat × Value)} {st : List Value}
def gd_sc (X : gd_X) (b N : Nat) (xs : Nat → Int32) : Prop := va_X b N xs (gx_s X) (gx_s X).heap ∧ b < (gx_s X).heap.size ∧ ¬ gx_A X b
theorem gd_sld (hX : gd_C X K cc own nL tb rm) {b N : Nat} {xs : Nat → Int32} (hs : gd_sc X b N xs) {i : Int32} (j : Nat) (pc : Nat) (hd : decode cc pc = .ok (.iaload, 1)) (hi : i = nI j) (hj : j < N) (hn : N < 2 ^ 31) (kk : gd_W X K cells slots ws lv (.int (xs j) :: st) (pc + 1)) : gd_W X K cells slots ws lv (.int i :: .ref b :: st) pc := by
  subst hi
  intro H locs ls hP hD hS hl
  refine va_sld hX.1 hX.2.1 hs.1 hs.2.1 hs.2.2 hS (vp_in_nI hj hn) hd ?_
  rw [nI_clamp (Nat.lt_trans hj hn)]
  exact kk H locs ls hP hD hS hl
theorem gd_slen (hX : gd_C X K cc own nL tb rm) {b N : Nat} {xs : Nat → Int32} (hs : gd_sc X b N xs) (pc : Nat) (hd : decode cc pc = .ok (.arraylength, 1)) (kk : gd_W X K cells slots ws lv (.int (nI N) :: st) (pc + 1)) : gd_W X K cells slots ws lv (.ref b :: st) pc := by
  intro H locs ls hP hD hS hl
  exact va_slen hX.1 hX.2.1 hs.1 hs.2.1 hs.2.2 hS hd (kk H locs ls hP hD hS hl)
end GDSC
theorem ch_end {N i : Nat} (hN : N ≤ 2048) (hi : 4 * i ≤ 2048) : nI N - 4 < nI (4 * i) ↔ N < 4 * i + 4 := by
  by_cases h : 4 ≤ N
  · have e : nI N - 4 = nI (N - 4) := pk_sub (b := 4) h
    rw [e, nI_ltI (by omega) (by omega)]
    omega
  · have h0 : ∀ x : Int32, x < 0 → x < nI (4 * i) := fun x hx => Int32.lt_of_lt_of_le hx (Int32.not_lt.mp (nI_pos (by omega)))
    have h1 : nI N - 4 < nI (4 * i) := by
      rcases (show N = 0 ∨ N = 1 ∨ N = 2 ∨ N = 3 by omega) with rfl | rfl | rfl | rfl <;> exact h0 _ (by decide)
    exact ⟨fun _ => by omega, fun _ => h1⟩
theorem ch_fd_lt (x : Int64) (n : Nat) : ∀ y ∈ (ch_fd x).take n, y < 256 := by
  intro y hy
  have h1 := List.mem_of_mem_take hy
  simp only [ch_fd, List.mem_map] at h1
  obtain ⟨i, -, rfl⟩ := h1
  exact Nat.mod_lt _ (by decide)
/-- the two systems say the same -/
def lk_I (w : Int64) (f vf : Nat → Int64) (uf : Nat → Int32) (Lm : List Nat) (fm mf : Nat → Int32) (Lf : List Nat) (ff mff : Nat → Int32) : Prop :=
  ch_M w f vf uf ∧ ch_B fm Lm ∧ ch_I mf Lm ∧ Lm.length ≤ 712 ∧ ch_B ff Lf ∧ ch_I mff Lf ∧ Lf.length ≤ 1000 ∧ ∀ x ∈ Lf, x < 256
theorem ch_M_same {w : Int64} {f g vf : Nat → Int64} {uf : Nat → Int32} (h : ch_M w f vf uf) (hg : ∀ j, j < 64 → ch_bit w j = true → g j = f j) : ch_M w g vf uf := fun k hk => ⟨(h k hk).1, fun hb => by rw [(h k hk).2 hb, hg k hk hb]⟩
theorem ch_n4 {j : Nat} (h : j < 5) : ¬ (nI j < 0 ∨ 4 < nI j) := by
  rintro (q | q)
  · exact nI_pos (by omega) q
  · have := (nI_ltI (a := 4) (by decide) (by omega)).mp q; omega
theorem ch_n8 {n : Nat} (h1 : 1 ≤ n) (h2 : n ≤ 8) : ¬ (nI n < 1 ∨ 8 < nI n) := by
  rintro (q | q)
  · have := (nI_ltI (b := 1) (by omega) (by decide)).mp q; omega
  · have := (nI_ltI (a := 8) (by decide) (by omega)).mp q; omega
theorem ch_nm {j n : Nat} (h : j < n) (hn : n < 2 ^ 31) : ¬ (nI j < 0 ∨ nI n ≤ nI j) := by
  rintro (q | q)
  · exact nI_pos (by omega) q
  · have := (nI_leI hn (by omega)).mp q; omega
theorem ch_no2 {a b : Nat} (ha : a < 64) (hb : b < 64) : ¬ (ch_no (nI a) || ch_no (nI b)) = true := by
  rw [ch_no_nI ha, ch_no_nI hb]; decide
/-- behind a turn -/
def lk_K (X : gd_X) (K : gd_K) (h ru ra rb md mr fe fr rd mh va re fu wi ma wo fd ou b i ce sl : Nat) : Prop := ∀ (c ca sp sa : Nat) (w w0 fo : Int64) (f G rn vf rf of : Nat → Int64) (n0 t0 wa er wm : Int32) (rs fm ff uf wl mf wk mff : Nat → Int32) (Lm Lf : List Nat), lk_I w f vf uf Lm fm mf Lf ff mff → gd_W X K (ce + 2) (sl + 12) [gd_ob 4 h [.ref c, .ref sp, .ref ru, .ref md, .ref fe, .ref rd, .int wa], gd_ob 0 c [.ref ca, .long w], gd_aJ K ca 64 f, gd_ob 0 sp [.ref sa, .long w0], gd_aJ K sa 64 G, gd_ob 3 ru [.ref ra, .ref rb, .int n0], gd_aJ K ra 64 rn, gd_aI K rb 64 rs, gd_ob 1 md [.ref mr, .int (nI Lm.length)], gd_aB K mr 712 fm, gd_ob 1 fe [.ref fr, .int (nI Lf.length)], gd_aB K fr 1000 ff, gd_ob 2 rd [.int t0, .long fo], gd_ob 5 mh [.int er, .ref va, .ref re, .ref fu, .ref wi, .ref ma, .ref wo, .ref fd, .int (nI Lm.length), .int wm, .int (nI Lf.length), .int wa], gd_aJ K va 64 vf, gd_aJ K re 64 rf, gd_aZ K fu 64 uf, gd_aZ K wi 64 wl, gd_aI K ma 720 mf, gd_aI K wo 720 wk, gd_aI K fd 1000 mff, gd_aJ K ou 1 of] [(0, .ref b), (1, .ref h), (2, .ref mh), (3, .ref ou), (4, .int (nI (4 * i)))] [] 623
