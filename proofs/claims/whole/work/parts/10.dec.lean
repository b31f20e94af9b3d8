/-! what coming in needs -/
theorem ch_sh7_u (u : Int64) (o : Nat) {i : Nat} (hi : i ≤ 9) : uN (ch_sh7 u o i) = uN u ||| (o % 128 * 2 ^ (7 * i) % 18446744073709551616) := by
  have h1 : o % 128 < 128 := Nat.mod_lt _ (by decide)
  unfold ch_sh7
  rw [uN_or', uN_shlk _ (by omega), nI_l (by omega)]
  have h2 : uN (lN (o % 128)) = o % 128 := by
    show (o % 128) % 2 ^ 64 = _
    omega
  rw [h2]
theorem ch_sh7_ne (u : Int64) {o i : Nat} (ho : o ≠ 0) (h : o < 128) (hi : i ≤ 9) (h9 : i = 9 → o ≤ 1) : ch_sh7 u o i ≠ 0 := by
  intro q
  have h1 := ch_sh7_u u o hi
  rw [q] at h1
  have h0 : uN 0 = 0 := rfl
  rw [h0] at h1
  have h2 := (Nat.or_eq_zero_iff.mp h1.symm).2
  have hp : 0 < 2 ^ (7 * i) := Nat.two_pow_pos _
  rw [Nat.mod_eq_of_lt h] at h2
  have h3 : o * 2 ^ (7 * i) < 18446744073709551616 := by
    by_cases e : i = 9
    · have := h9 e
      subst e
      have : o = 1 := by omega
      subst this; decide
    · have h4 : 2 ^ (7 * i) ≤ 2 ^ 56 := Nat.pow_le_pow_right (by decide) (by omega)
      calc o * 2 ^ (7 * i) ≤ o * 2 ^ 56 := Nat.mul_le_mul_left _ h4
        _ < 128 * 2 ^ 56 := Nat.mul_lt_mul_of_pos_right h (by decide)
        _ ≤ _ := by decide
  rw [Nat.mod_eq_of_lt h3] at h2
  rcases Nat.mul_eq_zero.mp h2 with h5 | h5
  · exact ho h5
  · omega
theorem ch_sh7_0 : ch_sh7 0 0 0 = 0 := by decide
/-- when a number's last octet can't stand: the two ways to say it -/
theorem ch_endc {u : Int64} {o m : Nat} {q : Bool} (hm : m ≤ 9) (ho : o < 128) (h9 : m = 0 → o ≤ 1) (hu : m = 9 → u = 0) :
    ((o = 0 ∧ 0 < 9 - m) ∨ (ch_sh7 u o (9 - m) = 0 ∧ q = false)) ↔ ((m = 0 ∧ o ≠ 1) ∨ (o = 0 ∧ (m ≠ 9 ∨ q = false))) := by
  constructor
  · rintro (⟨h1, h2⟩ | ⟨h1, h2⟩)
    · exact Or.inr ⟨h1, Or.inl (by omega)⟩
    · have h3 : o = 0 := by
        apply Classical.byContradiction
        intro h4
        exact ch_sh7_ne u h4 ho (by omega) (fun e => h9 (by omega)) h1
      exact Or.inr ⟨h3, Or.inr h2⟩
  · rintro (⟨h1, h2⟩ | ⟨h1, h2⟩)
    · have := h9 h1
      exact Or.inl ⟨by omega, by omega⟩
    · by_cases h3 : m = 9
      · rcases h2 with h2 | h2
        · exact absurd h3 h2
        · refine Or.inr ⟨?_, h2⟩
          subst h1; subst h3; rw [hu rfl]; exact ch_sh7_0
      · exact Or.inl ⟨h1, by omega⟩
theorem ch_rd_S (L : List Nat) (first : Bool) (n a : Nat) (u : Int64) : ch_rd L first (n + 1) a u =
    if L.length ≤ a then (a, none)
    else if n = 0 ∧ L.getD a 0 ≠ 1 then (a, none)
    else if 128 ≤ L.getD a 0 then ch_rd L first n (a + 1) (ch_sh7 u (L.getD a 0) (9 - n))
    else if L.getD a 0 = 0 ∧ (n ≠ 9 ∨ first = false) then (a, none)
    else (a + 1, some (ch_sh7 u (L.getD a 0) (9 - n))) := rfl
theorem ch_rd_le (L : List Nat) (first : Bool) : ∀ (n a : Nat) (u : Int64), a ≤ L.length → (ch_rd L first n a u).1 ≤ L.length
  | 0, a, u, h => h
  | n + 1, a, u, h => by
    rw [ch_rd_S]
    split
    · exact h
    · rename_i h1
      split
      · exact h
      · split
        · exact ch_rd_le L first n (a + 1) _ (by omega)
        · split
          · exact h
          · show a + 1 ≤ _; omega
theorem ch_cells_S (L : List Nat) (w : Int64) (m left lor : Nat) (v : Int64) (first : Bool) (a : Nat) (g : Nat → Int64) : ch_cells L w (m + 1) left lor v first a g =
    if ch_bit w (63 - m) = false then ch_cells L w m left lor v first a g
    else if lor = 0 then
      if L.getD a 0 = 0 ∨ left < L.getD a 0 then (a, none)
      else match ch_rd L first 10 (a + 1) 0 with
        | (a1, none) => (a1, none)
        | (a1, some u) => ch_cells L w m (left - 1) (L.getD a 0 - 1) (v + ch_un u) false a1 (vp_updL g (63 - m) (v + ch_un u))
    else ch_cells L w m (left - 1) (lor - 1) v first a (vp_updL g (63 - m) v) := rfl
theorem ch_pop_le (w : Int64) : ∀ k, ch_pop w k ≤ k
  | 0 => Nat.le_refl _
  | k + 1 => by
    have := ch_pop_le w k
    show ch_pop w k + (if ch_bit w k then 1 else 0) ≤ _
    split <;> omega
theorem ch_pop_mono (w : Int64) (k : Nat) : ∀ n, ch_pop w k ≤ ch_pop w (k + n)
  | 0 => Nat.le_refl _
  | n + 1 => by
    have := ch_pop_mono w k n
    show _ ≤ ch_pop w (k + n) + (if ch_bit w (k + n) then 1 else 0)
    omega
theorem ch_bit_ext {x y : Int64} (h : ∀ j, j < 64 → ch_bit x j = ch_bit y j) : x = y := by
  apply uN_inj
  apply Nat.eq_of_testBit_eq
  intro i
  by_cases hi : i < 64
  · exact h i hi
  · have hx : uN x < 2 ^ i := Nat.lt_of_lt_of_le (uN_lt x) (Nat.pow_le_pow_right (n := 2) (by decide) (by omega : 64 ≤ i))
    have hy : uN y < 2 ^ i := Nat.lt_of_lt_of_le (uN_lt y) (Nat.pow_le_pow_right (n := 2) (by decide) (by omega : 64 ≤ i))
    rw [Nat.testBit_lt_two_pow hx, Nat.testBit_lt_two_pow hy]
theorem ch_getD_lt {L : List Nat} (h : ∀ x ∈ L, x < 256) (j : Nat) : L.getD j 0 < 256 := by
  by_cases hj : j < L.length
  · have : L.getD j 0 = L[j] := by simp [List.getD, hj]
    rw [this]; exact h _ (List.getElem_mem hj)
  · rw [ch_getD_out (by omega)]; decide
theorem ch_ib (b : Bool) : (if b then (1 : Int32) else 0) = 0 ↔ b = false := by cases b <;> decide
theorem ch_x0 {x : Int32} {b : Bool} (h : x = if b then (1 : Int32) else 0) : x = 0 ↔ b = false := by rw [h]; exact ch_ib b
theorem ch_rd_end {L : List Nat} {q : Bool} {n a : Nat} {u : Int64} (h1 : a < L.length) (hn : n ≤ 9) (ho : L.getD a 0 < 128) (h9 : n = 0 → L.getD a 0 ≤ 1) (hu : n = 9 → u = 0) (p : Bool) (hp : p = true ↔ (L.getD a 0 = 0 ∧ 0 < 9 - n)) {r : Nat × Option Int64} (hr : r = ch_rd L q (n + 1) a u) :
    ((p = true ∨ (ch_sh7 u (L.getD a 0) (9 - n) = 0 ∧ q = false)) → r = (a, none)) ∧ (¬ (p = true ∨ (ch_sh7 u (L.getD a 0) (9 - n) = 0 ∧ q = false)) → r = (a + 1, some (ch_sh7 u (L.getD a 0) (9 - n)))) := by
  have hc := ch_endc (u := u) (q := q) hn ho h9 hu
  rw [hp, hc, hr, ch_rd_S, if_neg (by omega)]
  constructor
  · rintro (h | h)
    · rw [if_pos h]
    · split
      · rfl
      · (try rw [if_neg (show ¬ 128 ≤ L.getD a 0 by omega)]) <;> (try rw [if_pos h])
  · intro h
    rw [if_neg (fun q => h (Or.inl q)), if_neg (show ¬ 128 ≤ L.getD a 0 by omega), if_neg (fun q => h (Or.inr q))]
theorem ch_cells_le (L : List Nat) (w : Int64) : ∀ (m left lor : Nat) (v : Int64) (first : Bool) (a : Nat) (g : Nat → Int64), a ≤ L.length → (ch_cells L w m left lor v first a g).1 ≤ L.length
  | 0, left, lor, v, first, a, g, h => h
  | m + 1, left, lor, v, first, a, g, h => by
    rw [ch_cells_S]
    split
    · exact ch_cells_le L w m _ _ _ _ _ _ h
    · split
      · split
        · exact h
        · rename_i h1
          have hal : a < L.length := Nat.lt_of_not_le (fun e => h1 (Or.inl (ch_getD_out e)))
          have h2 := ch_rd_le L first 10 (a + 1) 0 (by omega)
          rcases hrd : ch_rd L first 10 (a + 1) 0 with ⟨a1, ru⟩
          rw [hrd] at h2
          cases ru with
          | none => exact h2
          | some u => exact ch_cells_le L w m _ _ _ _ _ _ h2
      · exact ch_cells_le L w m _ _ _ _ _ _ h
