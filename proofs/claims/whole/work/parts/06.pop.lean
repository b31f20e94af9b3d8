/-! how many bits are set: Long.bitCount -/
def pc_1 (x : Int64) : Int64 := x - ((x.toUInt64 >>> ((1 : Int32).toInt64.toUInt64 &&& Int64.toUInt64 63)).toInt64 &&& 6148914691236517205)
def pc_2 (x : Int64) : Int64 := (x &&& 3689348814741910323) + ((x.toUInt64 >>> ((2 : Int32).toInt64.toUInt64 &&& Int64.toUInt64 63)).toInt64 &&& 3689348814741910323)
def pc_3 (x : Int64) : Int64 := (x + (x.toUInt64 >>> ((4 : Int32).toInt64.toUInt64 &&& Int64.toUInt64 63)).toInt64) &&& 1085102592571150095
def pc_4 (x : Int64) : Int64 := x + (x.toUInt64 >>> ((8 : Int32).toInt64.toUInt64 &&& Int64.toUInt64 63)).toInt64
def pc_5 (x : Int64) : Int64 := x + (x.toUInt64 >>> ((16 : Int32).toInt64.toUInt64 &&& Int64.toUInt64 63)).toInt64
def pc_6 (x : Int64) : Int64 := x + (x.toUInt64 >>> ((32 : Int32).toInt64.toUInt64 &&& Int64.toUInt64 63)).toInt64
theorem pc_split (a b p q : Nat) (ha : a < 256) (hp : p < 256) : (a + 256 * b) &&& (p + 256 * q) = (a &&& p) + 256 * (b &&& q) := by
  have ha : a < 2 ^ 8 := ha
  have hp : p < 2 ^ 8 := hp
  have e1 : a + 256 * b = 2 ^ 8 * b + a := by omega
  have e2 : p + 256 * q = 2 ^ 8 * q + p := by omega
  have h3 : a &&& p < 2 ^ 8 := Nat.and_lt_two_pow a hp
  have e3 : (a &&& p) + 256 * (b &&& q) = 2 ^ 8 * (b &&& q) + (a &&& p) := by omega
  rw [e1, e2, e3]
  apply Nat.eq_of_testBit_eq
  intro i
  rw [Nat.testBit_and, Nat.testBit_two_pow_mul_add _ ha, Nat.testBit_two_pow_mul_add _ hp, Nat.testBit_two_pow_mul_add _ h3]
  split
  · rw [Nat.testBit_and]
  · rw [Nat.testBit_and]
def pc_rep (m : Nat) : Nat → Nat
  | 0 => 0
  | n + 1 => m + 256 * pc_rep m n
def pf_1 (n x : Nat) : Nat := x - (x / 2 &&& pc_rep 85 n)
def pf_2 (n x : Nat) : Nat := (x &&& pc_rep 51 n) + (x / 4 &&& pc_rep 51 n)
def pf_3 (n x : Nat) : Nat := (x + x / 16) &&& pc_rep 15 n
def pg_1 (c : Nat) : Nat := c - (c / 2 &&& 85)
def pg_2 (c : Nat) : Nat := (c &&& 51) + (c / 4 &&& 51)
def pg_3 (c : Nat) : Nat := (c + c / 16) &&& 15
theorem pd_1 : ∀ c, c < 128 → ∀ b, b < 2 → (c + 128 * b) &&& 85 = c &&& 85 := by decide +kernel
theorem pd_2 : ∀ c, c < 64 → ∀ b, b < 4 → (c + 64 * b) &&& 51 = c &&& 51 := by decide +kernel
theorem pd_3 : ∀ c, c < 256 → (pg_2 (pg_1 c)) + (pg_2 (pg_1 c)) / 16 + 16 * 4 < 256 ∧ pg_2 (pg_1 c) < 256 ∧ pg_1 c < 256 ∧ pg_2 (pg_1 c) % 16 ≤ 4 ∧ pg_2 (pg_1 c) ≤ 68 := by decide +kernel
theorem pr_1 (n c x : Nat) (hc : c < 256) : pf_1 (n + 1) (c + 256 * x) = pg_1 c + 256 * pf_1 n x := by
  have e : (c + 256 * x) / 2 = (c / 2 + 128 * (x % 2)) + 256 * (x / 2) := by omega
  have h1 : (c + 256 * x) / 2 &&& pc_rep 85 (n + 1) = (c / 2 &&& 85) + 256 * (x / 2 &&& pc_rep 85 n) := by
    rw [e]
    show _ &&& (85 + 256 * pc_rep 85 n) = _
    rw [pc_split _ _ _ _ (by omega) (by decide), pd_1 _ (by omega) _ (by omega)]
  have h2 : c / 2 &&& 85 ≤ c / 2 := Nat.and_le_left
  have h3 : x / 2 &&& pc_rep 85 n ≤ x / 2 := Nat.and_le_left
  unfold pf_1 pg_1
  rw [h1]
  omega
theorem pr_2 (n c x : Nat) (hc : c < 256) : pf_2 (n + 1) (c + 256 * x) = pg_2 c + 256 * pf_2 n x := by
  have e : (c + 256 * x) / 4 = (c / 4 + 64 * (x % 4)) + 256 * (x / 4) := by omega
  have h1 : (c + 256 * x) / 4 &&& pc_rep 51 (n + 1) = (c / 4 &&& 51) + 256 * (x / 4 &&& pc_rep 51 n) := by
    rw [e]
    show _ &&& (51 + 256 * pc_rep 51 n) = _
    rw [pc_split _ _ _ _ (by omega) (by decide), pd_2 _ (by omega) _ (by omega)]
  have h2 : (c + 256 * x) &&& pc_rep 51 (n + 1) = (c &&& 51) + 256 * (x &&& pc_rep 51 n) := by
    show _ &&& (51 + 256 * pc_rep 51 n) = _
    rw [pc_split _ _ _ _ hc (by decide)]
  unfold pf_2 pg_2
  rw [h1, h2]
  omega
theorem pr_3 (n c x : Nat) (hc : c ≤ 68) (hx : x % 16 ≤ 4) : pf_3 (n + 1) (c + 256 * x) = pg_3 c + 256 * pf_3 n x := by
  have e : (c + 256 * x) + (c + 256 * x) / 16 = (c + c / 16 + 16 * (x % 16)) + 256 * (x + x / 16) := by omega
  have h0 : ∀ y, y &&& 15 = y % 16 := fun y => Nat.and_two_pow_sub_one_eq_mod y 4
  unfold pf_3 pg_3
  rw [e]
  show _ &&& (15 + 256 * pc_rep 15 n) = _
  rw [pc_split _ _ _ _ (by omega) (by decide), h0, h0]
  omega
def pb_n : Nat → Nat → Nat
  | 0, _ => 0
  | n + 1, x => x % 2 + pb_n n (x / 2)
theorem pb_snoc : ∀ n x, pb_n (n + 1) x = pb_n n x + x / 2 ^ n % 2
  | 0, x => by simp [pb_n]
  | n + 1, x => by
    have e : x / 2 / 2 ^ n = x / 2 ^ (n + 1) := by rw [Nat.div_div_eq_div_mul, Nat.pow_succ']
    show x % 2 + pb_n (n + 1) (x / 2) = (x % 2 + pb_n n (x / 2)) + _
    rw [pb_snoc n (x / 2), e]
    omega
theorem pb_pop (w : Int64) : ∀ n, ch_pop w n = pb_n n (uN w)
  | 0 => rfl
  | n + 1 => by
    rw [pb_snoc, ← pb_pop w n]
    show ch_pop w n + (if ch_bit w n = true then 1 else 0) = _
    unfold ch_bit
    rw [Nat.testBit_eq_decide_div_mod_eq]
    by_cases h : uN w / 2 ^ n % 2 = 1
    · rw [h, if_pos (by decide)]
    · have h0 : uN w / 2 ^ n % 2 = 0 := by omega
      rw [h0, if_neg (by decide)]
theorem pb_byte (n c x : Nat) (hc : c < 256) : pb_n (n + 8) (c + 256 * x) = pb_n 8 c + pb_n n x := by
  simp only [pb_n, Nat.add_eq, Nat.div_div_eq_div_mul]
  have e : (c + 256 * x) / (2 * 2 * 2 * 2 * 2 * 2 * 2 * 2) = x := by omega
  rw [e]
  omega
theorem pd_4 : ∀ c, c < 256 → pg_3 (pg_2 (pg_1 c)) = pb_n 8 c ∧ pb_n 8 c ≤ 8 := by decide +kernel
theorem pu_1 (x : Int64) : uN (pc_1 x) = pf_1 8 (uN x) := by
  have e : ((1 : Int32)) = nI 1 := rfl
  have h1 : uN ((x.toUInt64 >>> ((1 : Int32).toInt64.toUInt64 &&& Int64.toUInt64 63)).toInt64 &&& 6148914691236517205) = uN x / 2 &&& pc_rep 85 8 := by
    rw [uN_and', e, uN_sk x (by decide)]; rfl
  have h2 : uN x / 2 &&& pc_rep 85 8 ≤ uN x / 2 := Nat.and_le_left
  have hx := uN_lt x
  unfold pc_1 pf_1
  rw [← h1] at h2 ⊢
  generalize (x.toUInt64 >>> ((1 : Int32).toInt64.toUInt64 &&& Int64.toUInt64 63)).toInt64 &&& 6148914691236517205 = y at h2 ⊢
  have hy := uN_lt y
  show (x.toUInt64 - y.toUInt64).toNat = uN x - uN y
  have h3 : y.toUInt64 ≤ x.toUInt64 := by rw [UInt64.le_iff_toNat_le]; show uN y ≤ uN x; omega
  exact UInt64.toNat_sub_of_le _ _ h3
theorem pu_2 (x : Int64) : uN (pc_2 x) = pf_2 8 (uN x) := by
  have e : ((2 : Int32)) = nI 2 := rfl
  have h1 : uN ((x.toUInt64 >>> ((2 : Int32).toInt64.toUInt64 &&& Int64.toUInt64 63)).toInt64 &&& 3689348814741910323) = uN x / 4 &&& pc_rep 51 8 := by
    rw [uN_and', e, uN_sk x (by decide)]; rfl
  have h2 : uN (x &&& 3689348814741910323) = uN x &&& pc_rep 51 8 := by rw [uN_and']; rfl
  have h3 : uN x / 4 &&& pc_rep 51 8 ≤ pc_rep 51 8 := Nat.and_le_right
  have h4 : uN x &&& pc_rep 51 8 ≤ pc_rep 51 8 := Nat.and_le_right
  have h5 : pc_rep 51 8 = 3689348814741910323 := by decide
  unfold pc_2 pf_2
  rw [uN_add, h1, h2]
  exact Nat.mod_eq_of_lt (by omega)
theorem pu_3 (x : Int64) (hx : uN x ≤ 7378697629483820646) : uN (pc_3 x) = pf_3 8 (uN x) := by
  have e : ((4 : Int32)) = nI 4 := rfl
  have h1 : uN ((x.toUInt64 >>> ((4 : Int32).toInt64.toUInt64 &&& Int64.toUInt64 63)).toInt64) = uN x / 16 := by rw [e, uN_sk x (by decide)]
  unfold pc_3 pf_3
  rw [uN_and', uN_add, h1, Nat.mod_eq_of_lt (by omega)]
  rfl
theorem pf_2_le (x : Nat) : pf_2 8 x ≤ 7378697629483820646 := by
  have h3 : x / 4 &&& pc_rep 51 8 ≤ pc_rep 51 8 := Nat.and_le_right
  have h4 : x &&& pc_rep 51 8 ≤ pc_rep 51 8 := Nat.and_le_right
  have h5 : pc_rep 51 8 = 3689348814741910323 := by decide
  unfold pf_2
  omega
/-- by octets -/
def pc_P : Nat → Nat → Nat
  | 0, _ => 0
  | n + 1, x => pb_n 8 (x % 256) + 256 * pc_P n (x / 256)
theorem pc_mod (n x : Nat) : pf_2 (n + 1) (pf_1 (n + 1) x) % 16 ≤ 4 := by
  have e : x = x % 256 + 256 * (x / 256) := by omega
  rw [e, pr_1 _ _ _ (by omega), pr_2 _ _ _ (pd_3 _ (by omega)).2.2.1]
  have := (pd_3 (x % 256) (by omega)).2.2.2.1
  omega
theorem pc_all3 : ∀ (n x : Nat), x < 256 ^ n → pf_3 n (pf_2 n (pf_1 n x)) = pc_P n x
  | 0, x, h => by
    have : x = 0 := by simpa using h
    subst this; decide
  | n + 1, x, h => by
    have e : x = x % 256 + 256 * (x / 256) := by omega
    have h2 : x / 256 < 256 ^ n := by rw [Nat.pow_succ] at h; omega
    have ih := pc_all3 n (x / 256) h2
    show _ = pb_n 8 (x % 256) + 256 * pc_P n (x / 256)
    conv => lhs; rw [e]
    have hm : pf_2 n (pf_1 n (x / 256)) % 16 ≤ 4 := by
      cases n with
      | zero =>
        have : x / 256 = 0 := by simpa using h2
        rw [this]; decide
      | succ n => exact pc_mod n _
    have hd := pd_3 (x % 256) (by omega)
    rw [pr_1 _ _ _ (by omega), pr_2 _ _ _ hd.2.2.1, pr_3 _ _ _ hd.2.2.2.2 hm, (pd_4 _ (by omega)).1, ih]
theorem pb_le (c : Nat) : pb_n 8 (c % 256) ≤ 8 := (pd_4 _ (by omega)).2
theorem pb_64 (x : Nat) : pb_n 64 x = pb_n 8 (x % 256) + (pb_n 8 (x / 256 % 256) + (pb_n 8 (x / 256 / 256 % 256) + (pb_n 8 (x / 256 / 256 / 256 % 256) + (pb_n 8 (x / 256 / 256 / 256 / 256 % 256) + (pb_n 8 (x / 256 / 256 / 256 / 256 / 256 % 256) + (pb_n 8 (x / 256 / 256 / 256 / 256 / 256 / 256 % 256) + (pb_n 8 (x / 256 / 256 / 256 / 256 / 256 / 256 / 256 % 256) + 0))))))) := by
  have k : ∀ n y, pb_n (n + 8) y = pb_n 8 (y % 256) + pb_n n (y / 256) := fun n y => by
    have := pb_byte n (y % 256) (y / 256) (by omega)
    rw [← this]
    congr 1
    omega
  have k7 : pb_n 8 (x / 256 / 256 / 256 / 256 / 256 / 256 / 256) = pb_n 8 (x / 256 / 256 / 256 / 256 / 256 / 256 / 256 % 256) + 0 := k 0 _
  rw [k 56, k 48, k 40, k 32, k 24, k 16, k 8, k7]
theorem pc_dv (a q m : Nat) (h : a < m) : (a + m * q) / m = q := by
  rw [Nat.add_mul_div_left _ _ (by omega), Nat.div_eq_of_lt h, Nat.zero_add]
theorem pc_sumA (p0 p1 p2 p3 p4 p5 p6 p7 : Nat) (h0 : p0 ≤ 8) (z : Nat) (hz : z = p0 + 256 * p1 + 65536 * p2 + 16777216 * p3 + 4294967296 * p4 + 1099511627776 * p5 + 281474976710656 * p6 + 72057594037927936 * p7) : z + z / 256 = (p0 + p1) + 256 * (p1 + p2) + 65536 * (p2 + p3) + 16777216 * (p3 + p4) + 4294967296 * (p4 + p5) + 1099511627776 * (p5 + p6) + 281474976710656 * (p6 + p7) + 72057594037927936 * p7 := by
  have e : z = p0 + 256 * (p1 + 256 * p2 + 65536 * p3 + 16777216 * p4 + 4294967296 * p5 + 1099511627776 * p6 + 281474976710656 * p7) := by omega
  have d : z / 256 = p1 + 256 * p2 + 65536 * p3 + 16777216 * p4 + 4294967296 * p5 + 1099511627776 * p6 + 281474976710656 * p7 := by rw [e]; exact pc_dv _ _ _ (by omega)
  rw [d, hz]; omega
theorem pc_sumB (p0 p1 p2 p3 p4 p5 p6 p7 : Nat) (h0 : p0 ≤ 8) (h1 : p1 ≤ 8) (h2 : p2 ≤ 8) (z : Nat) (hz : z = (p0 + p1) + 256 * (p1 + p2) + 65536 * (p2 + p3) + 16777216 * (p3 + p4) + 4294967296 * (p4 + p5) + 1099511627776 * (p5 + p6) + 281474976710656 * (p6 + p7) + 72057594037927936 * p7) : z + z / 65536 = (p0 + p1 + p2 + p3) + 256 * (p1 + p2 + p3 + p4) + 65536 * (p2 + p3 + p4 + p5) + 16777216 * (p3 + p4 + p5 + p6) + 4294967296 * (p4 + p5 + p6 + p7) + 1099511627776 * (p5 + p6 + p7) + 281474976710656 * (p6 + p7) + 72057594037927936 * (p7) := by
  have e : z = ((p0 + p1) + 256 * (p1 + p2)) + 65536 * ((p2 + p3) + 256 * (p3 + p4) + 65536 * (p4 + p5) + 16777216 * (p5 + p6) + 4294967296 * (p6 + p7) + 1099511627776 * p7) := by omega
  have d : z / 65536 = (p2 + p3) + 256 * (p3 + p4) + 65536 * (p4 + p5) + 16777216 * (p5 + p6) + 4294967296 * (p6 + p7) + 1099511627776 * p7 := by rw [e]; exact pc_dv _ _ _ (by omega)
  rw [d, hz]; omega
theorem pc_sumC (p0 p1 p2 p3 p4 p5 p6 p7 : Nat) (h0 : p0 ≤ 8) (h1 : p1 ≤ 8) (h2 : p2 ≤ 8) (h3 : p3 ≤ 8) (h4 : p4 ≤ 8) (h5 : p5 ≤ 8) (h6 : p6 ≤ 8) (h7 : p7 ≤ 8) (z : Nat) (hz : z = (p0 + p1 + p2 + p3) + 256 * (p1 + p2 + p3 + p4) + 65536 * (p2 + p3 + p4 + p5) + 16777216 * (p3 + p4 + p5 + p6) + 4294967296 * (p4 + p5 + p6 + p7) + 1099511627776 * (p5 + p6 + p7) + 281474976710656 * (p6 + p7) + 72057594037927936 * (p7)) : (z + z / 4294967296) % 128 = p0 + (p1 + (p2 + (p3 + (p4 + (p5 + (p6 + (p7 + 0))))))) := by
  have e : z = ((p0 + p1 + p2 + p3) + 256 * (p1 + p2 + p3 + p4) + 65536 * (p2 + p3 + p4 + p5) + 16777216 * (p3 + p4 + p5 + p6)) + 4294967296 * ((p4 + p5 + p6 + p7) + 256 * (p5 + p6 + p7) + 65536 * (p6 + p7) + 16777216 * (p7)) := by omega
  have d : z / 4294967296 = (p4 + p5 + p6 + p7) + 256 * (p5 + p6 + p7) + 65536 * (p6 + p7) + 16777216 * (p7) := by rw [e]; exact pc_dv _ _ _ (by omega)
  have f : z + z / 4294967296 = (p0 + (p1 + (p2 + (p3 + (p4 + (p5 + (p6 + (p7 + 0)))))))) + 128 * (2 * ((p1 + p2 + p3 + p4) + (p5 + p6 + p7) + 256 * (p2 + p3 + p4 + p5) + 256 * (p6 + p7) + 65536 * (p3 + p4 + p5 + p6) + 65536 * (p7) + 16777216 * ((p4 + p5 + p6 + p7) + 256 * (p5 + p6 + p7) + 65536 * (p6 + p7) + 16777216 * (p7)))) := by rw [d, hz]; omega
  rw [f, Nat.add_mul_mod_self_left]
  exact Nat.mod_eq_of_lt (by omega)
theorem ch_bitcount (w : Int64) : (pc_6 (pc_5 (pc_4 (pc_3 (pc_2 (pc_1 w)))))).toInt32 &&& 127 = nI (ch_pop w 64) := by
  have hw := uN_lt w
  have h3 : uN (pc_3 (pc_2 (pc_1 w))) = pc_P 8 (uN w) := by
    rw [pu_3 _ (by rw [pu_2]; exact pf_2_le _), pu_2, pu_1]
    exact pc_all3 8 _ hw
  rw [pb_pop, pb_64]
  simp only [pc_P] at h3
  generalize pc_3 (pc_2 (pc_1 w)) = z at h3 ⊢
  have b0 := pb_le (uN w)
  have b1 := pb_le (uN w / 256)
  have b2 := pb_le (uN w / 256 / 256)
  have b3 := pb_le (uN w / 256 / 256 / 256)
  have b4 := pb_le (uN w / 256 / 256 / 256 / 256)
  have b5 := pb_le (uN w / 256 / 256 / 256 / 256 / 256)
  have b6 := pb_le (uN w / 256 / 256 / 256 / 256 / 256 / 256)
  have b7 := pb_le (uN w / 256 / 256 / 256 / 256 / 256 / 256 / 256)
  generalize pb_n 8 (uN w % 256) = p0 at *
  generalize pb_n 8 (uN w / 256 % 256) = p1 at *
  generalize pb_n 8 (uN w / 256 / 256 % 256) = p2 at *
  generalize pb_n 8 (uN w / 256 / 256 / 256 % 256) = p3 at *
  generalize pb_n 8 (uN w / 256 / 256 / 256 / 256 % 256) = p4 at *
  generalize pb_n 8 (uN w / 256 / 256 / 256 / 256 / 256 % 256) = p5 at *
  generalize pb_n 8 (uN w / 256 / 256 / 256 / 256 / 256 / 256 % 256) = p6 at *
  generalize pb_n 8 (uN w / 256 / 256 / 256 / 256 / 256 / 256 / 256 % 256) = p7 at *
  have d0 : uN z = p0 + 256 * p1 + 65536 * p2 + 16777216 * p3 + 4294967296 * p4 + 1099511627776 * p5 + 281474976710656 * p6 + 72057594037927936 * p7 := by rw [h3]; omega
  clear h3 hw
  have q4 := pc_sumA p0 p1 p2 p3 p4 p5 p6 p7 b0 _ d0
  have s4 : uN (pc_4 z) = uN z + uN z / 256 := by
    have e : ((8 : Int32)) = nI 8 := rfl
    unfold pc_4
    rw [uN_add, e, uN_sk z (by decide)]
    show (uN z + uN z / 256) % _ = _
    rw [q4]
    exact Nat.mod_eq_of_lt (by clear q4 d0; omega)
  rw [← s4] at q4
  have q5 := pc_sumB p0 p1 p2 p3 p4 p5 p6 p7 b0 b1 b2 _ q4
  have s5 : uN (pc_5 (pc_4 z)) = uN (pc_4 z) + uN (pc_4 z) / 65536 := by
    have e : ((16 : Int32)) = nI 16 := rfl
    unfold pc_5
    rw [uN_add, e, uN_sk _ (by decide)]
    show (uN (pc_4 z) + uN (pc_4 z) / 65536) % _ = _
    rw [q5]
    exact Nat.mod_eq_of_lt (by clear q5 q4 s4 d0; omega)
  rw [← s5] at q5
  have q6 := pc_sumC p0 p1 p2 p3 p4 p5 p6 p7 b0 b1 b2 b3 b4 b5 b6 b7 _ q5
  have s7 : uN (pc_6 (pc_5 (pc_4 z))) % 128 = p0 + (p1 + (p2 + (p3 + (p4 + (p5 + (p6 + (p7 + 0))))))) := by
    have e : ((32 : Int32)) = nI 32 := rfl
    have h9 : uN (pc_6 (pc_5 (pc_4 z))) = (uN (pc_5 (pc_4 z)) + uN (pc_5 (pc_4 z)) / 4294967296) % 18446744073709551616 := by
      unfold pc_6
      rw [uN_add, e, uN_sk _ (by decide)]
    rw [h9, ← q6]
    exact Nat.mod_mod_of_dvd _ (by decide)
  clear q6 q5 q4 s4 s5 d0
  generalize pc_6 (pc_5 (pc_4 z)) = y at s7 ⊢
  have h5 : y.toInt32 &&& 127 = nI (y.toInt32.toBitVec.toNat % 2 ^ 7) := pk_and _ 7 (by decide)
  rw [h5]
  congr 1
  have h6 : y.toInt32.toBitVec.toNat = uN y % 4294967296 := by
    show (y.toBitVec.signExtend 32).toNat = _
    rw [BitVec.signExtend_eq_setWidth_of_le _ (by decide), BitVec.toNat_setWidth]
    rfl
  rw [h6, ← s7]
  omega
