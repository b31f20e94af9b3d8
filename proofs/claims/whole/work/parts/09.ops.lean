/-! what the other calls answer -/
def ch_wd (L : List Nat) (j : Nat) : Nat → Int64
  | 0 => 0
  | i + 1 => (ch_wd L j i <<< ((8 : Int32).toInt64 &&& 63)) ||| (nI (L.getD (8 * j + i) 0)).toInt64
def ch_fd (x : Int64) : List Nat := (List.range 8).map (fun i => uN x / 2 ^ (56 - 8 * i) % 256)
theorem ch_fd_len (x : Int64) : (ch_fd x).length = 8 := by simp [ch_fd]
theorem ch_fd_step (x : Int64) {i : Nat} (h : i < 8) : (ch_fd x).take (i + 1) = (ch_fd x).take i ++ [uN x / 2 ^ (56 - 8 * i) % 256] := by
  rw [List.take_succ]
  congr 1
  simp [ch_fd, h]
def ch_er (w : Int64) (a : Nat) : Nat → Int64
  | 0 => w
  | n + 1 => ch_er w a n &&& (((1 : Int64) <<< ((nI (a + n)).toInt64 &&& 63)) ^^^ (-1))
def ch_su (w : Int64) (f : Nat → Int64) (a : Nat) : Nat → Int64
  | 0 => 0
  | n + 1 => if ch_bit w (a + n) then ch_su w f a n + f (a + n) else ch_su w f a n
def ch_IO : String := "java/lang/IndexOutOfBoundsException"
def ch_UO : String := "java/lang/UnsupportedOperationException"
def ch_IA : String := "java/lang/IllegalArgumentException"
theorem ch_ix {k : Int32} {n : Nat} (hn : n < 2 ^ 31) (h1 : ¬ k < 0) (h2 : k < nI n) : ∃ j, j < n ∧ k = nI j := by
  obtain ⟨j, hj, rfl⟩ := nI_of h1
  exact ⟨j, (nI_ltI hj hn).mp h2, rfl⟩
theorem ch_nlt {a b : Int32} (h : ¬ a < b) : b ≤ a := Int32.not_lt.mp h
theorem ch_nle {a b : Int32} (h : ¬ a ≤ b) : b < a := Int32.not_le.mp h
/-- count(j) -/
def ch_ct (w : Int64) (f : Nat → Int64) (Lf Lm : List Nat) (j : Nat) : Nat := match j with
  | 0 => ch_pop w 64
  | 1 => (ch_runs w f 64).length
  | 2 => Lf.length
  | 3 => Lm.length
  | _ => 8 + (ch_octs (ch_runs w f 64)).length
