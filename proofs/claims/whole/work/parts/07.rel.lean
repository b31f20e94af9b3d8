/-! arrays beside lists -/
theorem bp_b (x : Int32) : x.toInt8.toInt32 &&& 255 = x &&& 255 := by
  apply Int32.toBitVec_inj.mp
  rw [Int32.toBitVec_and, Int32.toBitVec_and, Int8.toBitVec_toInt32, Int32.toBitVec_toInt8]
  apply BitVec.eq_of_getLsbD_eq
  intro i hi
  rw [BitVec.getLsbD_and, BitVec.getLsbD_and]
  have hm : ∀ i < 32, 8 ≤ i → (255 : Int32).toBitVec.getLsbD i = false := by decide
  rcases Nat.lt_or_ge i 8 with z | z
  · rw [BitVec.getLsbD_signExtend, BitVec.getLsbD_signExtend, if_pos z, if_pos hi]
    simp only [z, hi, decide_true, Bool.true_and]
  · rw [hm i hi z]; simp
/-- a row of octets holds a list -/
def ch_B (f : Nat → Int32) (L : List Nat) : Prop := ∀ i, i < L.length → f i &&& 255 = nI (L.getD i 0)
theorem ch_B_nil (f : Nat → Int32) : ch_B f [] := fun i h => absurd h (Nat.not_lt_zero _)
theorem ch_B_add {f : Nat → Int32} {L : List Nat} {x : Int32} {o : Nat} (h : ch_B f L) (hx : x &&& 255 = nI o) : ch_B (upd f L.length (vp_nar .byte x.toInt8.toInt32)) (L ++ [o]) := by
  intro i hi
  rw [List.length_append] at hi
  by_cases e : i = L.length
  · subst e
    rw [pk_us, pk_vb]
    have : (L ++ [o]).getD L.length 0 = o := by simp
    rw [this, ← hx]
    exact bp_b x
  · have hi' : i < L.length := by simp at hi; omega
    rw [pk_un e, h i hi']
    congr 1
    simp [List.getD, List.getElem?_append_left hi']
theorem ch_getD_out {L : List Nat} {j : Nat} (h : L.length ≤ j) : L.getD j 0 = 0 := by simp [List.getD, h]
/-- the runs' two rows hold a list of runs, the last first -/
def ch_R (rn : Nat → Int64) (rs : Nat → Int32) (L : List (Int64 × Nat)) : Prop := ∀ i, i < L.length → rn (L.length - 1 - i) = (L.getD i (0, 0)).1 ∧ rs (L.length - 1 - i) = nI (L.getD i (0, 0)).2
theorem ch_R_nil (rn : Nat → Int64) (rs : Nat → Int32) : ch_R rn rs [] := fun i h => absurd h (Nat.not_lt_zero _)
theorem ch_R_new {rn : Nat → Int64} {rs : Nat → Int32} {L : List (Int64 × Nat)} (h : ch_R rn rs L) (v : Int64) (n : Nat) : ch_R (vp_updL rn L.length v) (upd rs L.length (nI n)) ((v, n) :: L) := by
  intro i hi
  rw [List.length_cons] at hi ⊢
  cases i with
  | zero =>
    have e : L.length + 1 - 1 - 0 = L.length := by omega
    rw [e, pk_uLs, pk_us]
    exact ⟨rfl, rfl⟩
  | succ i =>
    have e : L.length + 1 - 1 - (i + 1) = L.length - 1 - i := by omega
    rw [e, pk_uLn (by omega), pk_un (by omega)]
    exact h i (by omega)
theorem ch_R_inc {rn : Nat → Int64} {rs : Nat → Int32} {L : List (Int64 × Nat)} {v : Int64} {n m : Nat} (h : ch_R rn rs ((v, n) :: L)) : ch_R rn (upd rs L.length (nI m)) ((v, m) :: L) := by
  intro i hi
  rw [List.length_cons] at hi ⊢
  have h9 := h i hi
  rw [List.length_cons] at h9
  cases i with
  | zero =>
    have e : L.length + 1 - 1 - 0 = L.length := by omega
    rw [e] at h9 ⊢
    rw [pk_us]
    exact ⟨h9.1, rfl⟩
  | succ i =>
    have e : L.length + 1 - 1 - (i + 1) = L.length - 1 - i := by omega
    rw [e] at h9 ⊢
    rw [pk_un (by omega)]
    exact h9
theorem ch_R_top {rn : Nat → Int64} {rs : Nat → Int32} {q : Int64 × Nat} {L : List (Int64 × Nat)} (h : ch_R rn rs (q :: L)) : rn L.length = q.1 ∧ rs L.length = nI q.2 := by
  have h9 := h 0 (by simp)
  have e : (q :: L).length - 1 - 0 = L.length := by simp
  rw [e] at h9
  exact h9
theorem ch_upd2 (f : Nat → Int32) (k : Nat) (x y : Int32) : upd (upd f k x) k y = upd f k y := by
  funext j
  unfold upd
  split <;> rfl
theorem ch_cmp0 {x y : Int64} : lg_cmp x y = 0 ↔ x = y := by
  unfold lg_cmp
  split
  · rename_i h
    constructor
    · intro q; exact absurd q (by decide)
    · intro q; subst q; exact absurd h (Int64.lt_irrefl)
  · split
    · rename_i h; simp [h]
    · rename_i h; simp [h]
theorem ch_add_nil {L : List (Int64 × Nat)} (v : Int64) (h : L.length = 0) : ch_add L v = (v, 1) :: L := by
  cases L with
  | nil => rfl
  | cons q t => simp at h
theorem ch_add_ne {L : List (Int64 × Nat)} (v : Int64) (h : (L.getD 0 (0, 0)).1 ≠ v) : ch_add L v = (v, 1) :: L := by
  cases L with
  | nil => rfl
  | cons q t => rw [ch_add_c]; exact if_neg (fun e => h e)
theorem ch_add_eq {L : List (Int64 × Nat)} (v : Int64) (hp : 0 < L.length) (h : (L.getD 0 (0, 0)).1 = v) : ∃ t, L = (v, (L.getD 0 (0, 0)).2) :: t ∧ ch_add L v = (v, (L.getD 0 (0, 0)).2 + 1) :: t := by
  cases L with
  | nil => simp at hp
  | cons q t =>
    have h1 : q.1 = v := h
    refine ⟨t, ?_, ?_⟩
    · have : ((q :: t).getD 0 (0, 0)) = q := rfl
      rw [this, ← h1]
    · rw [ch_add_c, if_pos h1]; rfl
theorem nI_0' {n : Nat} (h : n < 2 ^ 31) (e : nI n = 0) : n = 0 := (nI_eq h (by decide)).mp (by rw [e]; rfl)
