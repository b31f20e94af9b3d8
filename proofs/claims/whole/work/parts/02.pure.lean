/-! numbers alone: bits of a mask, octets of a number, runs, and what a code says. The rows uN began as kit/laws/BITS.to-paste's. -/
def uN (x : Int64) : Nat := x.toUInt64.toNat
theorem uN_lt (x : Int64) : uN x < 18446744073709551616 := x.toUInt64.toNat_lt
theorem uN_inj {x y : Int64} (h : uN x = uN y) : x = y := congrArg UInt64.toInt64 (UInt64.toNat_inj.mp h)
theorem uN_add (x y : Int64) : uN (x + y) = (uN x + uN y) % 18446744073709551616 := by
  show (x.toUInt64 + y.toUInt64).toNat = _
  exact UInt64.toNat_add _ _
theorem uN_mul (x y : Int64) : uN (x * y) = (uN x * uN y) % 18446744073709551616 := by
  show (x.toUInt64 * y.toUInt64).toNat = _
  exact UInt64.toNat_mul _ _
theorem uN_shl (x : Int64) : uN (x <<< ((1 : Int32).toInt64 &&& 63)) = (2 * uN x) % 18446744073709551616 := by
  have h : (((1 : Int32).toInt64 &&& 63).toBitVec.smod 64).toNat = 1 := by decide
  show (x.toBitVec <<< (((1 : Int32).toInt64 &&& 63).toBitVec.smod 64).toNat).toNat = _
  rw [h, BitVec.toNat_shiftLeft, Nat.shiftLeft_eq, Nat.mul_comm]
  rfl
theorem uN_shr (x : Int64) (s : UInt64) : uN (x.toUInt64 >>> s).toInt64 = uN x / 2 ^ (s.toNat % 64) := by
  show (x.toUInt64 >>> s).toNat = _
  rw [UInt64.toNat_shiftRight, Nat.shiftRight_eq_div_pow]
  rfl
theorem uN_s32 (x : Int64) : uN (x.toUInt64 >>> ((32 : Int32).toInt64.toUInt64 &&& Int64.toUInt64 63)).toInt64 = uN x / 4294967296 := by
  have h : ((32 : Int32).toInt64.toUInt64 &&& Int64.toUInt64 63).toNat % 64 = 32 := by decide
  rw [uN_shr, h]
theorem uN_s63 (x : Int64) : uN (x.toUInt64 >>> ((63 : Int32).toInt64.toUInt64 &&& Int64.toUInt64 63)).toInt64 = uN x / 9223372036854775808 := by
  have h : ((63 : Int32).toInt64.toUInt64 &&& Int64.toUInt64 63).toNat % 64 = 63 := by decide
  rw [uN_shr, h]
theorem uN_lo (x : Int64) : uN (x &&& 4294967295) = uN x % 4294967296 := by
  show (x.toUInt64 &&& Int64.toUInt64 4294967295).toNat = _
  rw [UInt64.toNat_and]
  exact Nat.and_two_pow_sub_one_eq_mod _ 32
theorem uN_bit (x : Int64) : (x &&& 1) = 0 ↔ uN x % 2 = 0 := by
  have h : uN (x &&& 1) = uN x % 2 := by
    show (x.toUInt64 &&& Int64.toUInt64 1).toNat = _
    rw [UInt64.toNat_and]
    exact Nat.and_two_pow_sub_one_eq_mod _ 1
  rw [← h]
  exact ⟨fun z => by rw [z]; rfl, fun z => uN_inj (z.trans rfl)⟩
theorem uN_or {x y : Int64} (hy : uN y < 2) : uN ((x <<< ((1 : Int32).toInt64 &&& 63)) ||| y) = (2 * uN x) % 18446744073709551616 + uN y := by
  have h1 : uN ((x <<< ((1 : Int32).toInt64 &&& 63)) ||| y) = uN (x <<< ((1 : Int32).toInt64 &&& 63)) ||| uN y := UInt64.toNat_or _ _
  have h2 : (2 * uN x) % 18446744073709551616 = 2 ^ 1 * (uN x % 9223372036854775808) := by omega
  rw [h1, uN_shl, h2]
  exact (Nat.two_pow_add_eq_or_of_lt (i := 1) hy _).symm
theorem nat_xor {a : Nat} (h : a < 18446744073709551616) : a ^^^ 2 ^ 63 = (a + 9223372036854775808) % 18446744073709551616 := by
  have h1 : (a ^^^ 2 ^ 63) % 2 ^ 63 = a % 2 ^ 63 := by rw [Nat.xor_mod_two_pow, Nat.mod_self, Nat.xor_zero]
  have h2 : (a ^^^ 2 ^ 63) / 2 ^ 63 = (a / 2 ^ 63) ^^^ 1 := by rw [Nat.xor_div_two_pow, Nat.div_self (Nat.two_pow_pos 63)]
  have h3 : a / 2 ^ 63 = 0 ∨ a / 2 ^ 63 = 1 := by omega
  generalize a ^^^ 2 ^ 63 = t at h1 h2
  rcases h3 with h3 | h3
  · rw [h3] at h2
    have h2 : t / 2 ^ 63 = 1 := h2
    omega
  · rw [h3] at h2
    have h2 : t / 2 ^ 63 = 0 := h2
    omega
theorem uN_xor (x : Int64) : uN (x ^^^ (-9223372036854775808)) = (uN x + 9223372036854775808) % 18446744073709551616 := by
  rw [← nat_xor (uN_lt x)]
  exact UInt64.toNat_xor _ _
theorem uN_int (x : Int64) : x.toInt = if 2 * uN x < 18446744073709551616 then (uN x : Int) else (uN x : Int) - 18446744073709551616 := BitVec.toInt_eq_toNat_cond _
theorem uN_le (x y : Int64) : (x ^^^ (-9223372036854775808)) ≤ (y ^^^ (-9223372036854775808)) ↔ uN x ≤ uN y := by
  have hx := uN_lt x
  have hy := uN_lt y
  rw [Int64.le_iff_toInt_le, uN_int, uN_int, uN_xor, uN_xor]
  omega
theorem uN_sk (x : Int64) {k : Nat} (hk : k < 64) : uN (x.toUInt64 >>> ((nI k).toInt64.toUInt64 &&& Int64.toUInt64 63)).toInt64 = uN x / 2 ^ k := by
  have h : ((nI k).toInt64.toUInt64 &&& Int64.toUInt64 63).toNat % 64 = k := by
    rw [nI_l (by omega), UInt64.toNat_and]
    have e : (lN k).toUInt64.toNat = k % 2 ^ 64 := rfl
    have e2 : (Int64.toUInt64 63).toNat = 2 ^ 6 - 1 := by decide
    rw [e, e2, Nat.and_two_pow_sub_one_eq_mod]
    omega
  rw [uN_shr, h]
theorem uN_or' (x y : Int64) : uN (x ||| y) = uN x ||| uN y := UInt64.toNat_or _ _
theorem uN_and' (x y : Int64) : uN (x &&& y) = uN x &&& uN y := UInt64.toNat_and _ _
theorem uN_xor' (x y : Int64) : uN (x ^^^ y) = uN x ^^^ uN y := UInt64.toNat_xor _ _
theorem uN_and1 (x : Int64) : uN (x &&& 1) = uN x % 2 := by
  rw [uN_and']
  exact Nat.and_two_pow_sub_one_eq_mod _ 1
theorem ch_sm : ∀ k, k < 64 → (((nI k).toInt64 &&& 63).toBitVec.smod 64).toNat = k := by decide +kernel
theorem uN_shlk (x : Int64) {k : Nat} (hk : k < 64) : uN (x <<< ((nI k).toInt64 &&& 63)) = (uN x * 2 ^ k) % 18446744073709551616 := by
  show (x.toBitVec <<< (((nI k).toInt64 &&& 63).toBitVec.smod 64).toNat).toNat = _
  rw [ch_sm k hk, BitVec.toNat_shiftLeft, Nat.shiftLeft_eq]
  rfl
theorem uN_1sh {k : Nat} (hk : k < 64) : uN ((1 : Int64) <<< ((nI k).toInt64 &&& 63)) = 2 ^ k := by
  have h1 : 2 ^ k < 2 ^ 64 := Nat.pow_lt_pow_right (by decide) hk
  have h2 : uN 1 = 1 := rfl
  rw [uN_shlk _ hk, h2, Nat.one_mul]
  exact Nat.mod_eq_of_lt h1
def ch_bit (w : Int64) (k : Nat) : Bool := (uN w).testBit k
theorem ch_isfull (w : Int64) {k : Nat} (hk : k < 64) : (w.toUInt64 >>> ((nI k).toInt64.toUInt64 &&& Int64.toUInt64 63)).toInt64 &&& 1 = if ch_bit w k then 1 else 0 := by
  apply uN_inj
  rw [uN_and1, uN_sk w hk]
  unfold ch_bit
  rw [Nat.testBit_eq_decide_div_mod_eq]
  by_cases h : uN w / 2 ^ k % 2 = 1
  · rw [h, if_pos (by decide)]; rfl
  · have h0 : uN w / 2 ^ k % 2 = 0 := by omega
    rw [h0, if_neg (by decide)]; rfl
theorem ch_fill (w : Int64) {k : Nat} (hk : k < 64) (j : Nat) : ch_bit (w ||| ((1 : Int64) <<< ((nI k).toInt64 &&& 63))) j = (ch_bit w j || decide (k = j)) := by
  unfold ch_bit
  rw [uN_or', uN_1sh hk, Nat.testBit_or, Nat.testBit_two_pow]
theorem ch_clear (w : Int64) {k : Nat} (hk : k < 64) {j : Nat} (hj : j < 64) : ch_bit (w &&& (((1 : Int64) <<< ((nI k).toInt64 &&& 63)) ^^^ (-1))) j = (ch_bit w j && !decide (k = j)) := by
  have h1 : uN (-1) = 2 ^ 64 - 1 := by decide
  unfold ch_bit
  rw [uN_and', uN_xor', uN_1sh hk, h1, Nat.testBit_and, Nat.testBit_xor, Nat.testBit_two_pow, Nat.testBit_two_pow_sub_one]
  simp [hj]
theorem ch_bit0 (k : Nat) : ch_bit 0 k = false := by
  have h : uN 0 = 0 := rfl
  unfold ch_bit
  rw [h]
  simp
/-- octets of a number without sign, 7 bits each, the lowest first -/
def ch_num : Nat → Nat → List Nat
  | 0, u => [u]
  | n + 1, u => if u < 128 then [u] else (u % 128 + 128) :: ch_num n (u / 128)
def ch_cnt (u : Nat) : Nat → Nat
  | 0 => 1
  | n + 1 => ch_cnt u n + if u / 128 ^ (n + 1) = 0 then 0 else 1
theorem ch_cnt_succ (u : Nat) : ∀ n, ch_cnt u (n + 1) = (if u / 128 = 0 then 0 else 1) + ch_cnt (u / 128) n
  | 0 => by simp [ch_cnt]; omega
  | n + 1 => by
    have ih := ch_cnt_succ u n
    have e : u / 128 ^ (n + 1 + 1) = u / 128 / 128 ^ (n + 1) := by rw [Nat.div_div_eq_div_mul, Nat.pow_succ' (n := n + 1)]
    show ch_cnt u (n + 1) + (if u / 128 ^ (n + 1 + 1) = 0 then 0 else 1) = _
    rw [ih, e]
    show _ = _ + (ch_cnt (u / 128) n + _)
    omega
theorem ch_num_len : ∀ (n u : Nat), (ch_num n u).length = ch_cnt u n
  | 0, u => rfl
  | n + 1, u => by
    rw [ch_cnt_succ]
    unfold ch_num
    by_cases h : u < 128
    · rw [if_pos h]
      have h1 : u / 128 = 0 := by omega
      rw [h1, if_pos rfl]
      have h2 : ∀ n, ch_cnt 0 n = 1 := by
        intro n
        induction n with
        | zero => rfl
        | succ n ih => simp [ch_cnt, ih]
      rw [h2]; rfl
    · rw [if_neg h]
      have h1 : ¬ u / 128 = 0 := by omega
      rw [if_neg h1, List.length_cons, ch_num_len n (u / 128)]
      omega
theorem ch_num_pos (n u : Nat) : 0 < (ch_num n u).length := by
  cases n with
  | zero => simp [ch_num]
  | succ n => unfold ch_num; split <;> simp
/-- an octet of it that is not the last, and the last -/
theorem ch_num_at : ∀ (n u i : Nat), i + 1 < (ch_num n u).length → (ch_num n u).getD i 0 = u / 128 ^ i % 128 + 128
  | 0, u, i, h => by simp [ch_num] at h
  | n + 1, u, i, h => by
    unfold ch_num at h ⊢
    by_cases hu : u < 128
    · rw [if_pos hu] at h; simp at h
    · rw [if_neg hu] at h ⊢
      cases i with
      | zero => simp
      | succ i =>
        rw [List.length_cons] at h
        have := ch_num_at n (u / 128) i (by omega)
        rw [List.getD_cons_succ, this, Nat.div_div_eq_div_mul, Nat.pow_succ']
theorem ch_num_end : ∀ (n u i : Nat), i + 1 = (ch_num n u).length → (ch_num n u).getD i 0 = u / 128 ^ i
  | 0, u, i, h => by simp [ch_num] at h; subst h; simp [ch_num]
  | n + 1, u, i, h => by
    unfold ch_num at h ⊢
    by_cases hu : u < 128
    · rw [if_pos hu] at h ⊢; simp at h; subst h; simp
    · rw [if_neg hu] at h ⊢
      cases i with
      | zero =>
        have := ch_num_pos n (u / 128)
        rw [List.length_cons] at h
        omega
      | succ i =>
        rw [List.length_cons] at h
        have := ch_num_end n (u / 128) i (by omega)
        rw [List.getD_cons_succ, this, Nat.div_div_eq_div_mul, Nat.pow_succ']
/-- runs, the last first -/
def ch_add : List (Int64 × Nat) → Int64 → List (Int64 × Nat)
  | [], v => [(v, 1)]
  | q :: r, v => if q.1 = v then (v, q.2 + 1) :: r else (v, 1) :: q :: r
def ch_runs (w : Int64) (f : Nat → Int64) : Nat → List (Int64 × Nat)
  | 0 => []
  | k + 1 => if ch_bit w k then ch_add (ch_runs w f k) (f k) else ch_runs w f k
def ch_hd (r : List (Int64 × Nat)) : Int64 := match r with
  | [] => 0
  | q :: _ => q.1
def ch_zz (d : Int64) : Int64 := (d <<< ((1 : Int32).toInt64 &&& 63)) ^^^ (d >>> ((63 : Int32).toInt64 &&& 63))
def ch_un (u : Int64) : Int64 := (u.toUInt64 >>> ((1 : Int32).toInt64.toUInt64 &&& Int64.toUInt64 63)).toInt64 ^^^ (-(u &&& 1))
/-- a run's octets: how many, and its step -/
def ch_run (q : Int64 × Nat) (before : Int64) : List Nat := q.2 :: ch_num 9 (uN (ch_zz (q.1 - before)))
def ch_octs : List (Int64 × Nat) → List Nat
  | [] => []
  | q :: r => ch_octs r ++ ch_run q (ch_hd r)
def ch_mask (w : Int64) : List Nat := (List.range 8).map (fun i => uN w / 256 ^ i % 256)
/-- THE CODE -/
def ch_code (w : Int64) (f : Nat → Int64) : List Nat := ch_mask w ++ ch_octs (ch_runs w f 64)
theorem ch_add_c (q : Int64 × Nat) (r : List (Int64 × Nat)) (v : Int64) : ch_add (q :: r) v = if q.1 = v then (v, q.2 + 1) :: r else (v, 1) :: q :: r := rfl
theorem ch_add_len (r : List (Int64 × Nat)) (v : Int64) : (ch_add r v).length ≤ r.length + 1 := by
  cases r with
  | nil => simp [ch_add]
  | cons q r => rw [ch_add_c]; split <;> simp
theorem ch_runs_len (w : Int64) (f : Nat → Int64) : ∀ k, (ch_runs w f k).length ≤ k
  | 0 => Nat.le_refl _
  | k + 1 => by
    have h := ch_runs_len w f k
    unfold ch_runs
    split
    · exact Nat.le_trans (ch_add_len _ _) (by omega)
    · omega
theorem ch_add_pos (r : List (Int64 × Nat)) (v : Int64) (h : ∀ q ∈ r, 0 < q.2) : ∀ q ∈ ch_add r v, 0 < q.2 := by
  cases r with
  | nil => intro q hq; simp [ch_add] at hq; subst hq; exact Nat.one_pos
  | cons z r =>
    intro q hq
    rw [ch_add_c] at hq
    split at hq
    · rcases List.mem_cons.mp hq with rfl | h1
      · show 0 < z.2 + 1; omega
      · exact h q (List.mem_cons_of_mem _ h1)
    · rcases List.mem_cons.mp hq with rfl | h1
      · show 0 < 1; omega
      · exact h q h1
/-- reading: u with the seven bits of o at place i -/
def ch_sh7 (u : Int64) (o i : Nat) : Int64 := u ||| ((nI (o % 128)).toInt64 <<< ((nI (7 * i)).toInt64 &&& 63))
/-- a number read at a place: where it ends, or where it is wrong -/
def ch_rd (L : List Nat) (first : Bool) : Nat → Nat → Int64 → Nat × Option Int64
  | 0, a, _ => (a, none)
  | n + 1, a, u =>
    if L.length ≤ a then (a, none)
    else if n = 0 ∧ L.getD a 0 ≠ 1 then (a, none)
    else if 128 ≤ L.getD a 0 then ch_rd L first n (a + 1) (ch_sh7 u (L.getD a 0) (9 - n))
    else if L.getD a 0 = 0 ∧ (n ≠ 9 ∨ first = false) then (a, none)
    else (a + 1, some (ch_sh7 u (L.getD a 0) (9 - n)))
/-- the cells from 64 - m on -/
def ch_cells (L : List Nat) (w : Int64) : Nat → Nat → Nat → Int64 → Bool → Nat → (Nat → Int64) → Nat × Option (Nat → Int64)
  | 0, _, _, _, _, a, g => (a, some g)
  | m + 1, left, lor, v, first, a, g =>
    if ch_bit w (63 - m) = false then ch_cells L w m left lor v first a g
    else if lor = 0 then
      if L.getD a 0 = 0 ∨ left < L.getD a 0 then (a, none)
      else match ch_rd L first 10 (a + 1) 0 with
        | (a1, none) => (a1, none)
        | (a1, some u) => ch_cells L w m (left - 1) (L.getD a 0 - 1) (v + ch_un u) false a1 (vp_updL g (63 - m) (v + ch_un u))
    else ch_cells L w m (left - 1) (lor - 1) v first a (vp_updL g (63 - m) v)
def ch_pop (w : Int64) : Nat → Nat
  | 0 => 0
  | k + 1 => ch_pop w k + if ch_bit w k then 1 else 0
def ch_rmask (L : List Nat) : Nat → Int64
  | 0 => 0
  | i + 1 => ch_rmask L i ||| ((nI (L.getD i 0)).toInt64 <<< ((nI (8 * i)).toInt64 &&& 63))
/-- what is fed, read: the place (wrong, or the end), and the cells if it is a code -/
def ch_dec (L : List Nat) : Nat × Option (Int64 × (Nat → Int64)) :=
  if L.length < 8 then (L.length, none)
  else match ch_cells L (ch_rmask L 8) 64 (ch_pop (ch_rmask L 8) 64) 0 0 true 8 (fun _ => 0) with
    | (a, none) => (a, none)
    | (a, some g) => if a = L.length then (a, some (ch_rmask L 8, g)) else (a, none)
