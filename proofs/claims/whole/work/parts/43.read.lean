/-! the reference's reading -/
def ch_rest (w : Int64) : Nat → Nat
  | 0 => 0
  | m + 1 => ch_rest w m + if ch_bit w (63 - m) then 1 else 0
theorem ch_rest_S (w : Int64) (m : Nat) : ch_rest w (m + 1) = ch_rest w m + if ch_bit w (63 - m) then 1 else 0 := rfl
theorem ch_pop_S (w : Int64) (k : Nat) : ch_pop w (k + 1) = ch_pop w k + if ch_bit w k then 1 else 0 := rfl
theorem ch_rest_pop (w : Int64) : ∀ m, m ≤ 64 → ch_pop w (64 - m) + ch_rest w m = ch_pop w 64
  | 0, _ => rfl
  | m + 1, h => by
    have ih := ch_rest_pop w m (by omega)
    have e : 64 - m = (63 - m) + 1 := by omega
    rw [e, ch_pop_S] at ih
    have e2 : 64 - (m + 1) = 63 - m := by omega
    rw [e2, ch_rest_S]
    omega
theorem ch_rest_c {w : Int64} {c : Nat} (h : c < 64) : ch_rest w (64 - c) = ch_rest w (64 - (c + 1)) + if ch_bit w c then 1 else 0 := by
  have e : 64 - c = (64 - (c + 1)) + 1 := by omega
  have e2 : 63 - (64 - (c + 1)) = c := by omega
  rw [e, ch_rest_S, e2]
theorem ch_cells_skip (L : List Nat) {w : Int64} {c : Nat} (hc : c < 64) (hb : ch_bit w c = false) (left lor : Nat) (v : Int64) (q : Bool) (a : Nat) (g : Nat → Int64) : ch_cells L w (64 - c) left lor v q a g = ch_cells L w (64 - (c + 1)) left lor v q a g := by
  have e : 64 - c = (64 - (c + 1)) + 1 := by omega
  have e2 : 63 - (64 - (c + 1)) = c := by omega
  rw [e, ch_cells_S, e2, if_pos hb]
theorem ch_cells_fill (L : List Nat) {w : Int64} {c : Nat} (hc : c < 64) (hb : ch_bit w c = true) (left : Nat) {lor : Nat} (hl : lor ≠ 0) (v : Int64) (q : Bool) (a : Nat) (g : Nat → Int64) : ch_cells L w (64 - c) left lor v q a g = ch_cells L w (64 - (c + 1)) (left - 1) (lor - 1) v q a (vp_updL g c v) := by
  have e : 64 - c = (64 - (c + 1)) + 1 := by omega
  have e2 : 63 - (64 - (c + 1)) = c := by omega
  rw [e, ch_cells_S, e2, if_neg (by rw [hb]; decide), if_neg hl]
theorem ch_cells_done (L : List Nat) (w : Int64) : ∀ (m left lor : Nat) (v : Int64) (q : Bool) (a : Nat) (g : Nat → Int64), ch_rest w m = 0 → ch_cells L w m left lor v q a g = (a, some g)
  | 0, _, _, _, _, _, _, _ => rfl
  | m + 1, left, lor, v, q, a, g, h => by
    rw [ch_rest_S] at h
    have hb : ch_bit w (63 - m) = false := by
      cases hq : ch_bit w (63 - m) with
      | false => rfl
      | true => rw [hq, if_pos rfl] at h; omega
    rw [ch_cells_S, if_pos hb]
    exact ch_cells_done L w m left lor v q a g (by omega)
theorem ch_cells_bad (L : List Nat) (w : Int64) : ∀ (m left : Nat) (v : Int64) (q : Bool) (a : Nat) (g : Nat → Int64), 0 < ch_rest w m → (L.getD a 0 = 0 ∨ left < L.getD a 0) → ch_cells L w m left 0 v q a g = (a, none)
  | 0, _, _, _, _, _, h, _ => absurd h (Nat.not_lt_zero _)
  | m + 1, left, v, q, a, g, h, h2 => by
    rw [ch_rest_S] at h
    rw [ch_cells_S]
    split
    · rename_i hb
      rw [hb] at h
      exact ch_cells_bad L w m left v q a g h h2
    · rw [if_pos rfl]
theorem ch_cells_badn (L : List Nat) (w : Int64) : ∀ (m left : Nat) (v : Int64) (q : Bool) (a a1 : Nat) (g : Nat → Int64), 0 < ch_rest w m → ¬ (L.getD a 0 = 0 ∨ left < L.getD a 0) → ch_rd L q 10 (a + 1) 0 = (a1, none) → ch_cells L w m left 0 v q a g = (a1, none)
  | 0, _, _, _, _, _, _, h, _, _ => absurd h (Nat.not_lt_zero _)
  | m + 1, left, v, q, a, a1, g, h, h2, h3 => by
    rw [ch_rest_S] at h
    rw [ch_cells_S]
    by_cases hb : ch_bit w (63 - m) = false
    · rw [hb] at h
      rw [if_pos hb]
      exact ch_cells_badn L w m left v q a a1 g h h2 h3
    · rw [if_neg hb, if_pos rfl, if_neg h2, h3]
theorem ch_cells_go (L : List Nat) (w : Int64) : ∀ (m left : Nat) (v : Int64) (q : Bool) (a a1 : Nat) (u : Int64) (g : Nat → Int64), 0 < ch_rest w m → ¬ (L.getD a 0 = 0 ∨ left < L.getD a 0) → ch_rd L q 10 (a + 1) 0 = (a1, some u) → ch_cells L w m left 0 v q a g = ch_cells L w m left (L.getD a 0) (v + ch_un u) false a1 g
  | 0, _, _, _, _, _, _, _, h, _, _ => absurd h (Nat.not_lt_zero _)
  | m + 1, left, v, q, a, a1, u, g, h, h2, h3 => by
    rw [ch_rest_S] at h
    rw [ch_cells_S, ch_cells_S]
    by_cases hb : ch_bit w (63 - m) = false
    · rw [hb] at h
      rw [if_pos hb, if_pos hb]
      exact ch_cells_go L w m left v q a a1 u g h h2 h3
    · rw [if_neg hb, if_neg hb, if_pos rfl, if_neg h2, h3, if_neg (fun e => h2 (Or.inl e))]
theorem ch_ob : ∀ o, o < 256 → ∀ r, r < 8 → (nI o >>> (nI r &&& 31)) &&& 1 = if o.testBit r then 1 else 0 := by decide +kernel
theorem ch_rm_u (L : List Nat) (hO : ∀ x ∈ L, x < 256) : ∀ n, n ≤ 8 → ∀ i, (uN (ch_rmask L n)).testBit i = (decide (i < 8 * n) && (L.getD (i / 8) 0).testBit (i % 8))
  | 0, _, i => by
    have : uN (ch_rmask L 0) = 0 := rfl
    rw [this, Nat.zero_testBit]
    simp
  | n + 1, hn, i => by
    have ih := ch_rm_u L hO n (by omega) i
    have ho := ch_getD_lt hO n
    show (uN (ch_rmask L n ||| ((nI (L.getD n 0)).toInt64 <<< ((nI (8 * n)).toInt64 &&& 63)))).testBit i = _
    rw [uN_or', uN_shlk _ (by omega), nI_l (by omega)]
    have h2 : uN (lN (L.getD n 0)) = L.getD n 0 := by
      show (L.getD n 0) % 2 ^ 64 = _
      omega
    have h3 : L.getD n 0 * 2 ^ (8 * n) < 18446744073709551616 := by
      have h4 : 2 ^ (8 * n) ≤ 2 ^ 56 := Nat.pow_le_pow_right (by decide) (by omega)
      calc L.getD n 0 * 2 ^ (8 * n) ≤ L.getD n 0 * 2 ^ 56 := Nat.mul_le_mul_left _ h4
        _ < 256 * 2 ^ 56 := Nat.mul_lt_mul_of_pos_right ho (by decide)
        _ ≤ _ := by decide
    rw [h2, Nat.mod_eq_of_lt h3, Nat.testBit_or, ih, Nat.testBit_mul_two_pow]
    by_cases h5 : i < 8 * n
    · have h6 : ¬ 8 * n ≤ i := by omega
      have h7 : i < 8 * (n + 1) := by omega
      simp [h5, h6, h7]
    · by_cases h7 : i < 8 * (n + 1)
      · have h6 : 8 * n ≤ i := by omega
        have e1 : i / 8 = n := by omega
        have e2 : i % 8 = i - 8 * n := by omega
        rw [e1, e2]
        simp [h5, h6, h7]
      · have h6 : 8 * n ≤ i := by omega
        have h8 : (L.getD n 0).testBit (i - 8 * n) = false := by
          apply Nat.testBit_lt_two_pow
          have : 2 ^ 8 ≤ 2 ^ (i - 8 * n) := Nat.pow_le_pow_right (by decide) (by omega)
          omega
        rw [h8]
        simp [h5, h7]
theorem ch_rm_bit (L : List Nat) (hO : ∀ x ∈ L, x < 256) {i : Nat} (h : i < 64) : ch_bit (ch_rmask L 8) i = (L.getD (i / 8) 0).testBit (i % 8) := by
  show (uN (ch_rmask L 8)).testBit i = _
  rw [ch_rm_u L hO 8 (by decide) i]
  have : i < 8 * 8 := by omega
  simp [this]
theorem ch_narz (b : Bool) : vp_nar .boolean (if b then (1 : Int32) else 0) = if b then 1 else 0 := by cases b <;> rfl
def ch_pl (d : Nat × Option (Int64 × (Nat → Int64))) : Int32 := if d.2.isSome then -1 else nI d.1
theorem ch_pl_n {d : Nat × Option (Int64 × (Nat → Int64))} {a : Nat} (h : d = (a, none)) : ch_pl d = nI a := by subst h; rfl
theorem ch_pl_s {d : Nat × Option (Int64 × (Nat → Int64))} {a : Nat} {z : Int64 × (Nat → Int64)} (h : d = (a, some z)) : ch_pl d = -1 := by subst h; rfl
