/-! what going out needs -/
theorem ch_i32 (y : Int64) : y.toInt32.toBitVec.toNat = uN y % 4294967296 := by
  show (y.toBitVec.signExtend 32).toNat = _
  rw [BitVec.signExtend_eq_setWidth_of_le _ (by decide), BitVec.toNat_setWidth]
  rfl
theorem ch_and255 (x : Int32) : x &&& 255 = nI (x.toBitVec.toNat % 256) := pk_and x 8 (by decide)
theorem ch_low (y : Int64) : y.toInt32 &&& 255 = nI (uN y % 256) := by
  rw [ch_and255, ch_i32]
  congr 1
  omega
theorem ch_or128 : ∀ a, a < 256 → a ||| 128 = a % 128 + 128 := by decide +kernel
theorem ch_low128 (y : Int64) : (y.toInt32 ||| 128) &&& 255 = nI (uN y % 128 + 128) := by
  have e1 : (y.toInt32 ||| 128).toBitVec.toNat = y.toInt32.toBitVec.toNat ||| 128 := by
    rw [Int32.toBitVec_or, BitVec.toNat_or]; rfl
  rw [ch_and255, e1, ch_i32]
  congr 1
  have e2 := Nat.or_mod_two_pow (a := uN y % 4294967296) (b := 128) (n := 8)
  have e3 : (uN y % 4294967296 ||| 128) % 256 = (uN y % 4294967296 % 256) ||| 128 := e2
  rw [e3, ch_or128 _ (by omega)]
  omega
theorem ch_n255 {n : Nat} (h : n < 256) : nI n &&& 255 = nI n := by
  have e := pk_andN (n := n) (by omega) (m := 255) 8 (by decide)
  rw [e]
  congr 1
  omega
theorem ch_sh0 (x : Int64) {k : Nat} (hk : k < 64) : (x.toUInt64 >>> ((nI k).toInt64.toUInt64 &&& Int64.toUInt64 63)).toInt64 = 0 ↔ uN x / 2 ^ k = 0 := by
  rw [← uN_sk x hk]
  constructor
  · intro h; rw [h]; rfl
  · intro h; exact uN_inj (h.trans rfl)
theorem ch_pow7 (j : Nat) : 2 ^ (7 * j) = 128 ^ j := by rw [Nat.pow_mul]
theorem ch_cnt_step (u n : Nat) : ch_cnt u (n + 1) = ch_cnt u n + if u / 128 ^ (n + 1) = 0 then 0 else 1 := rfl
theorem ch_cnt_le (u : Nat) : ∀ n, ch_cnt u n ≤ n + 1
  | 0 => Nat.le_refl _
  | n + 1 => by
    have := ch_cnt_le u n
    rw [ch_cnt_step]
    split <;> omega
theorem ch_cnt_pos (u : Nat) : ∀ n, 1 ≤ ch_cnt u n
  | 0 => Nat.le_refl _
  | n + 1 => by
    have := ch_cnt_pos u n
    rw [ch_cnt_step]
    omega
theorem ch_num_le (u : Nat) : (ch_num 9 u).length ≤ 10 := by rw [ch_num_len]; exact ch_cnt_le u 9
theorem ch_octs_len : ∀ L : List (Int64 × Nat), (ch_octs L).length ≤ 11 * L.length
  | [] => Nat.le_refl _
  | q :: r => by
    have h := ch_octs_len r
    have h2 := ch_num_le (uN (ch_zz (q.1 - ch_hd r)))
    show (ch_octs r ++ ch_run q (ch_hd r)).length ≤ _
    rw [List.length_append, List.length_cons]
    show _ + (ch_num 9 (uN (ch_zz (q.1 - ch_hd r)))).length.succ ≤ _
    omega
theorem ch_drop_step {L : List (Int64 × Nat)} {r : Nat} (h : r < L.length) : L.drop (L.length - (r + 1)) = L.getD (L.length - 1 - r) (0, 0) :: L.drop (L.length - r) := by
  have hk : L.length - (r + 1) < L.length := by omega
  rw [List.drop_eq_getElem_cons hk]
  have e1 : L.length - (r + 1) + 1 = L.length - r := by omega
  have e2 : L.length - 1 - r = L.length - (r + 1) := by omega
  rw [e1, e2]
  simp [List.getD, hk]
theorem ch_R_step {rn : Nat → Int64} {rs : Nat → Int32} {L : List (Int64 × Nat)} (hR : ch_R rn rs L) {r : Nat} (h : r < L.length) :
    (rn r - if r = 0 then 0 else rn (r - 1)) = (L.getD (L.length - 1 - r) (0, 0)).1 - ch_hd (L.drop (L.length - r)) ∧ rs r = nI (L.getD (L.length - 1 - r) (0, 0)).2 := by
  have h1 := hR (L.length - 1 - r) (by omega)
  have e1 : L.length - 1 - (L.length - 1 - r) = r := by omega
  rw [e1] at h1
  refine ⟨?_, h1.2⟩
  rw [h1.1]
  congr 1
  by_cases h0 : r = 0
  · subst h0
    rw [if_pos rfl, Nat.sub_zero, List.drop_length]
    rfl
  · rw [if_neg h0]
    have h2 := hR (L.length - r) (by omega)
    have e2 : L.length - 1 - (L.length - r) = r - 1 := by omega
    rw [e2] at h2
    rw [h2.1]
    have hk : L.length - r < L.length := by omega
    rw [List.drop_eq_getElem_cons hk]
    simp [ch_hd, List.getD, hk]
theorem ch_octs_step {L : List (Int64 × Nat)} {r : Nat} (h : r < L.length) : ch_octs (L.drop (L.length - (r + 1))) = ch_octs (L.drop (L.length - r)) ++ ((L.getD (L.length - 1 - r) (0, 0)).2 :: ch_num 9 (uN (ch_zz ((L.getD (L.length - 1 - r) (0, 0)).1 - ch_hd (L.drop (L.length - r)))))) := by
  rw [ch_drop_step h]; rfl
theorem ch_runs_sz (w : Int64) (f : Nat → Int64) : ∀ k, ∀ q ∈ ch_runs w f k, q.2 ≤ k
  | 0, q, h => nomatch h
  | k + 1, q, h => by
    have ih := ch_runs_sz w f k
    unfold ch_runs at h
    split at h
    · cases hr : ch_runs w f k with
      | nil =>
        rw [hr] at h
        have : q = (f k, 1) := by simpa [ch_add] using h
        subst this; show 1 ≤ k + 1; omega
      | cons z t =>
        rw [hr, ch_add_c] at h
        rw [hr] at ih
        split at h
        · rcases List.mem_cons.mp h with rfl | h1
          · have := ih z List.mem_cons_self
            show z.2 + 1 ≤ k + 1; omega
          · have := ih q (List.mem_cons_of_mem _ h1); omega
        · rcases List.mem_cons.mp h with rfl | h1
          · show 1 ≤ k + 1; omega
          · have := ih q h1; omega
    · have := ih q h; omega
theorem ch_runs_szD (w : Int64) (f : Nat → Int64) {i : Nat} (h : i < (ch_runs w f 64).length) : ((ch_runs w f 64).getD i (0, 0)).2 < 256 := by
  have h1 : (ch_runs w f 64).getD i (0, 0) ∈ ch_runs w f 64 := by
    have : (ch_runs w f 64).getD i (0, 0) = (ch_runs w f 64)[i] := by simp [List.getD, h]
    rw [this]; exact List.getElem_mem h
  have := ch_runs_sz w f 64 _ h1
  omega
theorem ch_mask_len (w : Int64) : (ch_mask w).length = 8 := by simp [ch_mask]
theorem ch_mask_step (w : Int64) {i : Nat} (h : i < 8) : (ch_mask w).take (i + 1) = (ch_mask w).take i ++ [uN w / 256 ^ i % 256] := by
  rw [List.take_succ]
  congr 1
  simp [ch_mask, h]
theorem ch_pow8 (j : Nat) : 2 ^ (8 * j) = 256 ^ j := by rw [Nat.pow_mul]
theorem ch_take_all {L : List Nat} {n : Nat} (h : L.length ≤ n) : L.take n = L := List.take_of_length_le h
theorem ch_take_step {L : List Nat} {i : Nat} (h : i < L.length) : L.take (i + 1) = L.take i ++ [L.getD i 0] := by
  rw [List.take_succ]
  congr 1
  simp [List.getD, h]
theorem ch_num_lt : ∀ (n u i : Nat), i + 1 = (ch_num n u).length → u < 128 ^ (n + 1) * 2 → u / 128 ^ i < 256
  | 0, u, i, h, hu => by
    have h0 : i = 0 := by simpa [ch_num] using h
    subst h0
    simp at hu ⊢
    omega
  | n + 1, u, i, h, hu => by
    unfold ch_num at h
    by_cases h1 : u < 128
    · rw [if_pos h1] at h
      have h0 : i = 0 := by simpa using h
      subst h0
      simp; omega
    · rw [if_neg h1] at h
      cases i with
      | zero =>
        have := ch_num_pos n (u / 128)
        rw [List.length_cons] at h
        omega
      | succ i =>
        rw [List.length_cons] at h
        have hu2 : u / 128 < 128 ^ (n + 1) * 2 := by
          rw [Nat.div_lt_iff_lt_mul (by decide)]
          have e : 128 ^ (n + 1 + 1) * 2 = 128 ^ (n + 1) * 2 * 128 := by rw [Nat.pow_succ]; omega
          rw [← e]; exact hu
        have := ch_num_lt n (u / 128) i (by omega) hu2
        rw [Nat.div_div_eq_div_mul, ← Nat.pow_succ'] at this
        exact this
