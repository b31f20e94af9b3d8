/-! the reference's words -/
def ch_no (k : Int32) : Bool := decide (k < 0 ∨ 64 ≤ k)
theorem ch_no_t {k : Int32} (h : k < 0 ∨ 64 ≤ k) : ch_no k = true := decide_eq_true h
theorem ch_no_f {k : Int32} (h : ¬ (k < 0 ∨ 64 ≤ k)) : ch_no k = false := decide_eq_false h
theorem ch_no_ix {k : Int32} (h : ch_no k = false) : ∃ j, j < 64 ∧ k = nI j := by
  have h1 := of_decide_eq_false h
  exact ch_ix (n := 64) (by decide) (fun q => h1 (Or.inl q)) (Int32.not_le.mp (fun q => h1 (Or.inr q)))
theorem ch_no_nI {j : Nat} (h : j < 64) : ch_no (nI j) = false := ch_no_f (by
  rintro (q | q)
  · exact nI_pos (by omega) q
  · exact absurd ((nI_leI (a := 64) (by decide) (by omega)).mp q) (by omega))
theorem ch_ifb (b : Bool) : ¬ (if b then (1 : Int32) else 0) = 0 ↔ b = true := by cases b <;> decide
def ch_M (w : Int64) (f : Nat → Int64) (vf : Nat → Int64) (fu : Nat → Int32) : Prop := ∀ k, k < 64 → fu k = (if ch_bit w k then 1 else 0) ∧ (ch_bit w k = true → vf k = f k)
def ch_fe (fu : Nat → Int32) (a : Nat) : Nat → Nat → Int32
  | 0 => fu
  | n + 1 => upd (ch_fe fu a n) (a + n) (vp_nar .boolean 0)
theorem ch_M_put {w : Int64} {f vf : Nat → Int64} {fu : Nat → Int32} (h : ch_M w f vf fu) {j : Nat} (hj : j < 64) (v : Int64) : ch_M (w ||| ((1 : Int64) <<< ((nI j).toInt64 &&& 63))) (vp_updL f j v) (vp_updL vf j v) (upd fu j (vp_nar .boolean 1)) := by
  intro k hk
  rw [ch_fill w hj k]
  by_cases e : k = j
  · subst e
    rw [pk_us, pk_uLs, pk_uLs]
    simp
    rfl
  · rw [pk_un e, pk_uLn e, pk_uLn e]
    have e2 : decide (j = k) = false := decide_eq_false (fun q => e q.symm)
    rw [e2, Bool.or_false]
    exact h k hk
theorem ch_M_er {w : Int64} {f vf : Nat → Int64} {fu : Nat → Int32} (h : ch_M w f vf fu) {a : Nat} : ∀ n, a + n ≤ 64 → ch_M (ch_er w a n) f vf (ch_fe fu a n)
  | 0, _ => h
  | n + 1, hn => by
    have ih := ch_M_er (a := a) h n (by omega)
    intro k hk
    have e1 := ch_clear (ch_er w a n) (k := a + n) (by omega) hk
    show upd (ch_fe fu a n) (a + n) (vp_nar .boolean 0) k = (if ch_bit (ch_er w a n &&& (((1 : Int64) <<< ((nI (a + n)).toInt64 &&& 63)) ^^^ (-1))) k then 1 else 0) ∧ (ch_bit (ch_er w a n &&& (((1 : Int64) <<< ((nI (a + n)).toInt64 &&& 63)) ^^^ (-1))) k = true → vf k = f k)
    rw [e1]
    by_cases e : k = a + n
    · subst e
      rw [pk_us]
      simp
      rfl
    · rw [pk_un e]
      have e2 : decide (a + n = k) = false := decide_eq_false (fun q => e q.symm)
      rw [e2, Bool.not_false, Bool.and_true]
      exact ih k hk
def ch_nx (w : Int64) : Nat → Nat → Nat
  | 0, k => k
  | n + 1, k => if ch_bit w k then k else ch_nx w n (k + 1)
theorem ch_nx_le (w : Int64) : ∀ n k, n + k = 64 → k ≤ ch_nx w n k ∧ ch_nx w n k ≤ 64
  | 0, k, h => ⟨Nat.le_refl _, by show k ≤ 64; omega⟩
  | n + 1, k, h => by
    have ih := ch_nx_le w n (k + 1) (by omega)
    show k ≤ (if ch_bit w k then k else ch_nx w n (k + 1)) ∧ (if ch_bit w k then k else ch_nx w n (k + 1)) ≤ 64
    split <;> omega
theorem ch_nx_bit (w : Int64) : ∀ n k, n + k = 64 → ch_nx w n k < 64 → ch_bit w (ch_nx w n k) = true
  | 0, k, h, h2 => by
    have h2 : k < 64 := h2
    omega
  | n + 1, k, h, h2 => by
    have ih := ch_nx_bit w n (k + 1) (by omega)
    have e : ch_nx w (n + 1) k = if ch_bit w k then k else ch_nx w n (k + 1) := rfl
    rw [e] at h2 ⊢
    by_cases hb : ch_bit w k = true
    · rw [if_pos hb]; exact hb
    · rw [if_neg hb] at h2 ⊢; exact ih h2
theorem ch_nx_runs (w : Int64) (f : Nat → Int64) : ∀ n k, n + k = 64 → ch_runs w f (ch_nx w n k) = ch_runs w f k
  | 0, k, h => rfl
  | n + 1, k, h => by
    have ih := ch_nx_runs w f n (k + 1) (by omega)
    show ch_runs w f (if ch_bit w k then k else ch_nx w n (k + 1)) = _
    by_cases hb : ch_bit w k = true
    · rw [if_pos hb]
    · rw [if_neg hb, ih]
      show (if ch_bit w k = true then _ else _) = _
      rw [if_neg hb]
/-- a row of ints holds a list of octets -/
def ch_I (f : Nat → Int32) (L : List Nat) : Prop := ∀ i, i < L.length → f i = nI (L.getD i 0)
theorem ch_I_add {f : Nat → Int32} {L : List Nat} {x : Int32} {o : Nat} (h : ch_I f L) (hx : x = nI o) : ch_I (upd f L.length x) (L ++ [o]) := by
  intro i hi
  rw [List.length_append] at hi
  by_cases e : i = L.length
  · subst e
    rw [pk_us, hx]
    simp
  · have hi' : i < L.length := by simp at hi; omega
    rw [pk_un e, h i hi']
    congr 1
    simp [List.getD, List.getElem?_append_left hi']
theorem ch_or1 : ∀ j, j < 8 → ∀ a, a < 256 → a < 2 ^ j → nI a ||| ((1 : Int32) <<< (nI j &&& 31)) = nI (a + 2 ^ j) := by decide +kernel
theorem ch_bit8 (w : Int64) (i j : Nat) : ch_bit w (8 * i + j) = decide (uN w / 256 ^ i / 2 ^ j % 2 = 1) := by
  unfold ch_bit
  rw [Nat.testBit_eq_decide_div_mod_eq, Nat.div_div_eq_div_mul, Nat.pow_add, ch_pow8]
theorem ch_mod2 (x j : Nat) : x % 2 ^ (j + 1) = x % 2 ^ j + 2 ^ j * (x / 2 ^ j % 2) := by
  rw [Nat.pow_succ, Nat.mod_mul]
theorem ch_add1 {E : List (Int64 × Nat)} {v : Int64} (h : E = [] ∨ ch_hd E ≠ v) : ch_add E v = (v, 1) :: E := by
  cases E with
  | nil => rfl
  | cons q t =>
    rw [ch_add_c, if_neg]
    rcases h with h | h
    · cases h
    · exact h
theorem ch_addn (E : List (Int64 × Nat)) (v : Int64) (n : Nat) : ch_add ((v, n) :: E) v = (v, n + 1) :: E := by rw [ch_add_c, if_pos rfl]
theorem ch_runs_bit {w : Int64} {k : Nat} (f : Nat → Int64) (h : ch_bit w k = true) : ch_runs w f (k + 1) = ch_add (ch_runs w f k) (f k) := by
  show (if ch_bit w k = true then _ else _) = _
  rw [if_pos h]
theorem ch_low7 (x : Int64) : (x &&& 127).toInt32 = nI (uN x % 128) := by
  have h1 : uN (x &&& 127) = uN x % 128 := by
    rw [uN_and']
    exact Nat.and_two_pow_sub_one_eq_mod _ 7
  have h2 : x &&& 127 = lN (uN x % 128) := uN_inj (by
    rw [h1]
    show _ = (uN x % 128) % 2 ^ 64
    omega)
  rw [h2, lN_i]
theorem ch_maskD (w : Int64) {i : Nat} (h : i < 8) : (ch_mask w).getD i 0 = uN w / 256 ^ i % 256 := by simp [ch_mask, List.getD, h]
def ch_WL (w : Int64) (E : List (Int64 × Nat)) : List Nat := ch_mask w ++ ch_octs E
theorem ch_WL_len (w : Int64) (E : List (Int64 × Nat)) : (ch_WL w E).length ≤ 8 + 11 * E.length := by
  have := ch_octs_len E
  unfold ch_WL
  rw [List.length_append, ch_mask_len]
  omega
theorem ch_WL_step (w : Int64) (E : List (Int64 × Nat)) (v : Int64) (n : Nat) : ch_WL w ((v, n) :: E) = (ch_WL w E ++ [n]) ++ ch_num 9 (uN (ch_zz (v - ch_hd E))) := by
  unfold ch_WL
  show ch_mask w ++ (ch_octs E ++ (n :: ch_num 9 (uN (ch_zz (v - ch_hd E))))) = _
  simp [List.append_assoc]
theorem ch_num_s {fu y : Nat} (h : y < 128) : ch_num fu y = [y] := by
  cases fu with
  | zero => rfl
  | succ n => unfold ch_num; rw [if_pos h]
theorem ch_num_b {fu y : Nat} (h : ¬ y < 128) : ch_num (fu + 1) y = (y % 128 + 128) :: ch_num fu (y / 128) := by
  show (if y < 128 then [y] else (y % 128 + 128) :: ch_num fu (y / 128)) = _
  rw [if_neg h]
theorem ch_sk7 (x : Int64) : uN (x.toUInt64 >>> ((7 : Int32).toInt64.toUInt64 &&& Int64.toUInt64 63)).toInt64 = uN x / 128 := uN_sk x (k := 7) (by decide)
theorem ch_l0 {y : Int64} : y = 0 ↔ uN y = 0 := ⟨fun h => by rw [h]; rfl, fun h => uN_inj (h.trans rfl)⟩
