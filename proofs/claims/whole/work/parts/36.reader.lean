set_option maxRecDepth 100000 in
set_option maxHeartbeats 4000000 in
theorem ct_Rd_at (l : Launch) (K : gd_K) (h : Nat) (t : Int32) (fo : Int64) : gd_M l yy_Rd_at bb_Rd_at 1 (some .int) [] 0 0 0 0 K [.ref h] [gd_ob 2 h [.int t, .long fo]] (fun v w1 => v = some (.int t) ∧ w1 = [gd_ob 2 h [.int t, .long fo]]) (fun _ _ => False) := by
  refine gd_body (Nat.le_of_ble_eq_true rfl) (fun X hXl hin hE hX => ?_)
  refine gd_aload_n hX 0 dd_Rd_at_0 rfl ?_
  refine gd_get hX inC_Rd 0 0 1 dd_Rd_at_1 rfl rfl (by decide) kw_85 rfl ?_
  exact gd_iret hX hE 4 dd_Rd_at_4 ⟨rfl, rfl⟩
set_option maxRecDepth 100000 in
set_option maxHeartbeats 4000000 in
theorem ct_Rd_endFolded (l : Launch) (K : gd_K) (h t : Nat) (fo : Int64) (p q : Bool) : gd_M l yy_Rd_endFolded bb_Rd_endFolded 3 (some .boolean) [] 0 0 0 0 K [.ref h, .int (if p then 1 else 0), .int (if q then 1 else 0)] [gd_ob 2 h [.int (nI t), .long fo]] (fun v w1 => v = some (.int (if (p = true ∨ (fo = 0 ∧ q = false)) then 0 else 1)) ∧ w1 = [gd_ob 2 h [.int (nI (if (p = true ∨ (fo = 0 ∧ q = false)) then t else t + 1)), .long fo]]) (fun _ _ => False) := by
  refine gd_body (Nat.le_of_ble_eq_true rfl) (fun X hXl hin hE hX => ?_)
  refine gd_iload_n hX 0 dd_Rd_endFolded_0 rfl ?_
  refine gd_if_ne hX 1 17 dd_Rd_endFolded_1 (by decide) (fun h1 => ?_) (fun h1 => ?_)
  · skip
    have hC : (p = true ∨ (fo = 0 ∧ q = false)) := Or.inl (by cases p <;> simp_all)
    refine gd_iconst hX 17 dd_Rd_endFolded_17 (v := 0) (by decide) ?_
    exact gd_zret hX hE 18 dd_Rd_endFolded_18 rfl ⟨by rw [if_pos hC], by rw [if_pos hC]⟩
  · skip
    have hp : p = false := (ch_ib p).mp h1
    refine gd_aload_n hX 4 dd_Rd_endFolded_4 rfl ?_
    refine gd_get hX inC_Rd 0 1 5 dd_Rd_endFolded_5 rfl rfl (by decide) kw_86 rfl ?_
    refine gd_lconst hX 8 dd_Rd_endFolded_8 (v := 0) (by decide) ?_
    refine gd_lcmp hX 9 dd_Rd_endFolded_9 ?_
    refine gd_if_ne hX 10 19 dd_Rd_endFolded_10 (by decide) (fun h2 => ?_) (fun h2 => ?_)
    · skip
      have hC : ¬ (p = true ∨ (fo = 0 ∧ q = false)) := by rintro (h | h); { rw [hp] at h; cases h }; { exact h2 (ch_cmp0.mpr h.1) }
      refine gd_aload_n hX 19 dd_Rd_endFolded_19 rfl ?_
      refine gd_dup hX 20 dd_Rd_endFolded_20 rfl ?_
      refine gd_get hX inC_Rd 0 0 21 dd_Rd_endFolded_21 rfl rfl (by decide) kw_85 rfl ?_
      refine gd_iconst hX 24 dd_Rd_endFolded_24 (v := 1) (by decide) ?_
      refine gd_iadd hX 25 dd_Rd_endFolded_25 ?_
      refine gd_eqi (show ((nI t) + 1 : Int32) = nI (t + 1) from nI_1 _) ?_
      refine gd_put hX inC_Rd ty_Rd tyk_Rd nm_Rd 0 0 [gd_ob 2 h [.int (nI (t + 1)), .long fo]] 26 dd_Rd_endFolded_26 rfl rfl (by decide) kw_85 rfl rfl rfl (Nat.le_of_ble_eq_true rfl) rfl ?_
      refine gd_iconst hX 29 dd_Rd_endFolded_29 (v := 1) (by decide) ?_
      exact gd_zret hX hE 30 dd_Rd_endFolded_30 rfl ⟨by rw [if_neg hC], by rw [if_neg hC]⟩
    · skip
      have hf := ch_cmp0.mp h2
      refine gd_iload_n hX 13 dd_Rd_endFolded_13 rfl ?_
      refine gd_if_ne hX 14 19 dd_Rd_endFolded_14 (by decide) (fun h3 => ?_) (fun h3 => ?_)
      · skip
        have hC : ¬ (p = true ∨ (fo = 0 ∧ q = false)) := by rintro (h | h); { rw [hp] at h; cases h }; { exact h3 ((ch_ib q).mpr h.2) }
        refine gd_aload_n hX 19 dd_Rd_endFolded_19 rfl ?_
        refine gd_dup hX 20 dd_Rd_endFolded_20 rfl ?_
        refine gd_get hX inC_Rd 0 0 21 dd_Rd_endFolded_21 rfl rfl (by decide) kw_85 rfl ?_
        refine gd_iconst hX 24 dd_Rd_endFolded_24 (v := 1) (by decide) ?_
        refine gd_iadd hX 25 dd_Rd_endFolded_25 ?_
        refine gd_eqi (show ((nI t) + 1 : Int32) = nI (t + 1) from nI_1 _) ?_
        refine gd_put hX inC_Rd ty_Rd tyk_Rd nm_Rd 0 0 [gd_ob 2 h [.int (nI (t + 1)), .long fo]] 26 dd_Rd_endFolded_26 rfl rfl (by decide) kw_85 rfl rfl rfl (Nat.le_of_ble_eq_true rfl) rfl ?_
        refine gd_iconst hX 29 dd_Rd_endFolded_29 (v := 1) (by decide) ?_
        exact gd_zret hX hE 30 dd_Rd_endFolded_30 rfl ⟨by rw [if_neg hC], by rw [if_neg hC]⟩
      · skip
        have hC : (p = true ∨ (fo = 0 ∧ q = false)) := Or.inr ⟨hf, (ch_ib q).mp h3⟩
        refine gd_iconst hX 17 dd_Rd_endFolded_17 (v := 0) (by decide) ?_
        exact gd_zret hX hE 18 dd_Rd_endFolded_18 rfl ⟨by rw [if_pos hC], by rw [if_pos hC]⟩
set_option maxRecDepth 100000 in
set_option maxHeartbeats 4000000 in
theorem ct_Rd_readSize (l : Launch) (K : gd_K) (h a left : Nat) (fo : Int64) (fe fr : Nat) (L : List Nat) (ff : Nat → Int32) (hL : L.length ≤ 1000) (hB : ch_B ff L) (hO : ∀ x ∈ L, x < 256) (ha : a ≤ L.length) (hleft : left ≤ 64) : gd_M l yy_Rd_readSize bb_Rd_readSize 4 (some .int) [] 1 13 0 0 K [.ref h, .ref fe, .int (nI left)] [gd_ob 2 h [.int (nI a), .long fo], gd_ob 1 fe [.ref fr, .int (nI L.length)], gd_aB K fr 1000 ff] (fun v w1 => v = some (.int (nI (if (L.getD a 0 = 0 ∨ left < L.getD a 0) then 0 else L.getD a 0))) ∧ w1 = [gd_ob 2 h [.int (nI (if (L.getD a 0 = 0 ∨ left < L.getD a 0) then a else a + 1)), .long fo], gd_ob 1 fe [.ref fr, .int (nI L.length)], gd_aB K fr 1000 ff]) (fun _ _ => False) := by
  refine gd_body (Nat.le_of_ble_eq_true rfl) (fun X hXl hin hE hX => ?_)
  refine gd_aload_n hX 0 dd_Rd_readSize_0 rfl ?_
  refine gd_aload_n hX 1 dd_Rd_readSize_1 rfl ?_
  refine gd_get hX inC_Rd 0 0 2 dd_Rd_readSize_2 rfl rfl (by decide) kw_85 rfl ?_
  have ho := ch_getD_lt hO a
  refine gd_call hX (st := []) (wr := [gd_ob 2 h [.int (nI a), .long fo]]) (ct_Oc_octetOrZero _ K fe fr 1000 a ff L hL (by decide) (by omega) hB) 5 dd_Rd_readSize_5 (gd_nV hX (As := [.int (nI a)]) kw_356 kw_308 kw_309 (gd_sigOf (n := 1) kw_310 (by decide)) (by decide) 1 rfl rfl rfl rfl dd_Rd_readSize_5) (gd_codeOf kw_310) (by decide) [1, 2] [0] rfl rfl rfl rfl rfl (by decide) (Nat.le_of_ble_eq_true rfl) (Nat.le_of_ble_eq_true rfl) (Nat.le_of_ble_eq_true rfl) (Nat.le_of_ble_eq_true rfl) (fun v9 w9 h9 => ?_) (fun E9 w9 q9 h9 => h9.elim)
  obtain ⟨rfl, rfl⟩ := h9
  show gd_W X K 0 0 [gd_ob 2 h [.int (nI a), .long fo], gd_ob 1 fe [.ref fr, .int (nI L.length)], gd_aB K fr 1000 ff] [(0, .ref h), (1, .ref fe), (2, .int (nI left))] [.int (nI (L.getD a 0))] 8
  refine gd_istore_n hX [(3, .int (nI (L.getD a 0))), (0, .ref h), (1, .ref fe), (2, .int (nI left))] 8 dd_Rd_readSize_8 rfl (by decide) rfl ?_
  refine gd_iload_n hX 9 dd_Rd_readSize_9 rfl ?_
  refine gd_if_eq hX 10 18 dd_Rd_readSize_10 (by decide) (fun h1 => ?_) (fun h1 => ?_)
  · skip
    have hC : (L.getD a 0 = 0 ∨ left < L.getD a 0) := Or.inl (nI_0' (by omega) h1)
    refine gd_iconst hX 18 dd_Rd_readSize_18 (v := 0) (by decide) ?_
    refine gd_eqi (show (0 : Int32) = nI 0 from rfl) ?_
    exact gd_iret hX hE 19 dd_Rd_readSize_19 ⟨by rw [if_pos hC], by rw [if_pos hC]⟩
  · skip
    refine gd_iload_n hX 13 dd_Rd_readSize_13 rfl ?_
    refine gd_iload_n hX 14 dd_Rd_readSize_14 rfl ?_
    refine gd_icmp_le hX 15 20 dd_Rd_readSize_15 (by decide) (fun h2 => ?_) (fun h2 => ?_)
    · skip
      have hC : ¬ (L.getD a 0 = 0 ∨ left < L.getD a 0) := by rintro (h | h); { exact h1 (by rw [h]; rfl) }; { exact absurd ((nI_leI (by omega) (by omega)).mp h2) (by omega) }
      refine gd_aload_n hX 20 dd_Rd_readSize_20 rfl ?_
      refine gd_dup hX 21 dd_Rd_readSize_21 rfl ?_
      refine gd_get hX inC_Rd 0 0 22 dd_Rd_readSize_22 rfl rfl (by decide) kw_85 rfl ?_
      refine gd_iconst hX 25 dd_Rd_readSize_25 (v := 1) (by decide) ?_
      refine gd_iadd hX 26 dd_Rd_readSize_26 ?_
      refine gd_eqi (show ((nI a) + 1 : Int32) = nI (a + 1) from nI_1 _) ?_
      refine gd_put hX inC_Rd ty_Rd tyk_Rd nm_Rd 0 0 [gd_ob 2 h [.int (nI (a + 1)), .long fo], gd_ob 1 fe [.ref fr, .int (nI L.length)], gd_aB K fr 1000 ff] 27 dd_Rd_readSize_27 rfl rfl (by decide) kw_85 rfl rfl rfl (Nat.le_of_ble_eq_true rfl) rfl ?_
      refine gd_iload_n hX 30 dd_Rd_readSize_30 rfl ?_
      exact gd_iret hX hE 31 dd_Rd_readSize_31 ⟨by rw [if_neg hC], by rw [if_neg hC]⟩
    · skip
      have hC : (L.getD a 0 = 0 ∨ left < L.getD a 0) := Or.inr (Nat.lt_of_not_le (fun q => h2 ((nI_leI (by omega) (by omega)).mpr q)))
      refine gd_iconst hX 18 dd_Rd_readSize_18 (v := 0) (by decide) ?_
      refine gd_eqi (show (0 : Int32) = nI 0 from rfl) ?_
      exact gd_iret hX hE 19 dd_Rd_readSize_19 ⟨by rw [if_pos hC], by rw [if_pos hC]⟩
set_option maxRecDepth 100000 in
set_option maxHeartbeats 4000000 in
theorem ct_Rd_readMask (l : Launch) (K : gd_K) (h : Nat) (t : Int32) (fo : Int64) (fe fr : Nat) (L : List Nat) (ff : Nat → Int32) (hL : L.length ≤ 1000) (hB : ch_B ff L) : gd_M l yy_Rd_readMask bb_Rd_readMask 5 (some .long) [] 1 15 0 0 K [.ref h, .ref fe] [gd_ob 2 h [.int t, .long fo], gd_ob 1 fe [.ref fr, .int (nI L.length)], gd_aB K fr 1000 ff] (fun v w1 => v = some (.long (ch_rmask L 8)) ∧ w1 = [gd_ob 2 h [.int (nI 8), .long fo], gd_ob 1 fe [.ref fr, .int (nI L.length)], gd_aB K fr 1000 ff]) (fun _ _ => False) := by
  refine gd_body (Nat.le_of_ble_eq_true rfl) (fun X hXl hin hE hX => ?_)
  have loop : ∀ (m i : Nat), m + i = 8 → gd_W X K 0 0 [gd_ob 2 h [.int t, .long fo], gd_ob 1 fe [.ref fr, .int (nI L.length)], gd_aB K fr 1000 ff] [(0, .ref h), (1, .ref fe), (2, .long (ch_rmask L i)), (4, .int (nI i))] [] 5 := by
    intro m
    induction m with
    | zero =>
      intro i hi
      obtain rfl : i = 8 := by omega
      refine gd_iload hX 5 dd_Rd_readMask_5 rfl ?_
      refine gd_bipush hX 7 dd_Rd_readMask_7 (v := 8) (by decide) ?_
      refine gd_icmp_ge hX 9 34 dd_Rd_readMask_9 (by decide) (fun h1 => ?_) (fun h1 => ?_)
      · skip
        refine gd_aload_n hX 34 dd_Rd_readMask_34 rfl ?_
        refine gd_bipush hX 35 dd_Rd_readMask_35 (v := 8) (by decide) ?_
        refine gd_eqi (show (8 : Int32) = nI 8 from rfl) ?_
        refine gd_put hX inC_Rd ty_Rd tyk_Rd nm_Rd 0 0 [gd_ob 2 h [.int (nI 8), .long fo], gd_ob 1 fe [.ref fr, .int (nI L.length)], gd_aB K fr 1000 ff] 37 dd_Rd_readMask_37 rfl rfl (by decide) kw_85 rfl rfl rfl (Nat.le_of_ble_eq_true rfl) rfl ?_
        refine gd_lload_n hX 40 dd_Rd_readMask_40 rfl ?_
        exact gd_lret hX hE 41 dd_Rd_readMask_41 ⟨rfl, rfl⟩
      · skip
        exact absurd (by decide) h1
    | succ m ih =>
      intro i hi
      refine gd_iload hX 5 dd_Rd_readMask_5 rfl ?_
      refine gd_bipush hX 7 dd_Rd_readMask_7 (v := 8) (by decide) ?_
      refine gd_icmp_ge hX 9 34 dd_Rd_readMask_9 (by decide) (fun h1 => ?_) (fun h1 => ?_)
      · skip
        exact absurd ((nI_leI (a := 8) (by decide) (by omega)).mp h1) (by omega)
      · skip
        refine gd_lload_n hX 12 dd_Rd_readMask_12 rfl ?_
        refine gd_aload_n hX 13 dd_Rd_readMask_13 rfl ?_
        refine gd_iload hX 14 dd_Rd_readMask_14 rfl ?_
        refine gd_call hX (st := [.long (ch_rmask L i)]) (wr := [gd_ob 2 h [.int t, .long fo]]) (ct_Oc_octetOrZero _ K fe fr 1000 i ff L hL (by decide) (by omega) hB) 16 dd_Rd_readMask_16 (gd_nV hX (As := [.int (nI i)]) kw_356 kw_308 kw_309 (gd_sigOf (n := 1) kw_310 (by decide)) (by decide) 1 rfl rfl rfl rfl dd_Rd_readMask_16) (gd_codeOf kw_310) (by decide) [1, 2] [0] rfl rfl rfl rfl rfl (by decide) (Nat.le_of_ble_eq_true rfl) (Nat.le_of_ble_eq_true rfl) (Nat.le_of_ble_eq_true rfl) (Nat.le_of_ble_eq_true rfl) (fun v9 w9 h9 => ?_) (fun E9 w9 q9 h9 => h9.elim)
        obtain ⟨rfl, rfl⟩ := h9
        show gd_W X K 0 0 [gd_ob 2 h [.int t, .long fo], gd_ob 1 fe [.ref fr, .int (nI L.length)], gd_aB K fr 1000 ff] [(0, .ref h), (1, .ref fe), (2, .long (ch_rmask L i)), (4, .int (nI i))] [.int (nI (L.getD i 0)), .long (ch_rmask L i)] 19
        refine gd_i2l hX 19 dd_Rd_readMask_19 ?_
        refine gd_bipush hX 20 dd_Rd_readMask_20 (v := 8) (by decide) ?_
        refine gd_iload hX 22 dd_Rd_readMask_22 rfl ?_
        refine gd_imul hX 24 dd_Rd_readMask_24 ?_
        refine gd_eqi (show (8 * (nI i) : Int32) = nI (8 * i) from pk_mul 8 _) ?_
        refine gd_lshl hX 25 dd_Rd_readMask_25 ?_
        refine gd_lor hX 26 dd_Rd_readMask_26 ?_
        refine gd_eql (show ((ch_rmask L i) ||| (((nI (L.getD i 0)).toInt64) <<< ((nI (8 * i)).toInt64 &&& 63)) : Int64) = ch_rmask L (i + 1) from rfl) ?_
        refine gd_lstore_n hX [(2, .long (ch_rmask L (i + 1))), (0, .ref h), (1, .ref fe), (4, .int (nI i))] 27 dd_Rd_readMask_27 rfl (by decide) rfl ?_
        refine gd_iinc hX 3 [(4, .int (nI (i + 1))), (2, .long (ch_rmask L (i + 1))), (0, .ref h), (1, .ref fe)] 28 dd_Rd_readMask_28 rfl (gd_inc i) (by decide) rfl ?_
        refine gd_goto hX 31 5 dd_Rd_readMask_31 (by decide) ?_
        refine gd_lvs [(0, .ref h), (1, .ref fe), (2, .long (ch_rmask L (i + 1))), (4, .int (nI (i + 1)))] [2, 3, 1, 0] rfl ?_
        exact ih (i + 1) (by omega)
  refine gd_lconst hX 0 dd_Rd_readMask_0 (v := 0) (by decide) ?_
  refine gd_eql (show (0 : Int64) = ch_rmask L 0 from rfl) ?_
  refine gd_lstore_n hX [(2, .long (ch_rmask L 0)), (0, .ref h), (1, .ref fe)] 1 dd_Rd_readMask_1 rfl (by decide) rfl ?_
  refine gd_iconst hX 2 dd_Rd_readMask_2 (v := 0) (by decide) ?_
  refine gd_eqi (show (0 : Int32) = nI 0 from rfl) ?_
  refine gd_istore hX [(4, .int (nI 0)), (2, .long (ch_rmask L 0)), (0, .ref h), (1, .ref fe)] 3 dd_Rd_readMask_3 (by decide) rfl ?_
  refine gd_lvs [(0, .ref h), (1, .ref fe), (2, .long (ch_rmask L 0)), (4, .int (nI 0))] [2, 3, 1, 0] rfl ?_
  exact loop 8 0 rfl
set_option maxRecDepth 100000 in
set_option maxHeartbeats 4000000 in
theorem ct_Rd_readFolded (l : Launch) (K : gd_K) (h a0 : Nat) (fo : Int64) (q : Bool) (fe fr : Nat) (L : List Nat) (ff : Nat → Int32) (hL : L.length ≤ 1000) (hB : ch_B ff L) (hO : ∀ x ∈ L, x < 256) (ha : a0 ≤ L.length) : gd_M l yy_Rd_readFolded bb_Rd_readFolded 5 (some .boolean) [] 1 14 0 0 K [.ref h, .ref fe, .int (if q then 1 else 0)] [gd_ob 2 h [.int (nI a0), .long fo], gd_ob 1 fe [.ref fr, .int (nI L.length)], gd_aB K fr 1000 ff] (fun v w1 => v = some (.int (if (ch_rd L q 10 a0 0).2.isSome then 1 else 0)) ∧ ∃ fo', w1 = [gd_ob 2 h [.int (nI (ch_rd L q 10 a0 0).1), .long fo'], gd_ob 1 fe [.ref fr, .int (nI L.length)], gd_aB K fr 1000 ff] ∧ ∀ u, (ch_rd L q 10 a0 0).2 = some u → fo' = u) (fun _ _ => False) := by
  refine gd_body (Nat.le_of_ble_eq_true rfl) (fun X hXl hin hE hX => ?_)
  have loop : ∀ (n i a : Nat) (u : Int64), n + i = 10 → a ≤ L.length → (i = 0 → u = 0) → (ch_rd L q 10 a0 0) = ch_rd L q n a u → gd_W X K 0 0 [gd_ob 2 h [.int (nI a), .long u], gd_ob 1 fe [.ref fr, .int (nI L.length)], gd_aB K fr 1000 ff] [(0, .ref h), (1, .ref fe), (2, .int (if q then 1 else 0)), (3, .int (nI (7 * i)))] [] 7 := by
    intro n
    induction n with
    | zero =>
      intro i a u hi ha hu hres
      obtain rfl : i = 10 := by omega
      refine gd_iload_n hX 7 dd_Rd_readFolded_7 rfl ?_
      refine gd_bipush hX 8 dd_Rd_readFolded_8 (v := 63) (by decide) ?_
      refine gd_icmp_gt hX 10 111 dd_Rd_readFolded_10 (by decide) (fun h1 => ?_) (fun h1 => ?_)
      · skip
        have hr : (ch_rd L q 10 a0 0) = (a, none) := hres
        refine gd_iconst hX 111 dd_Rd_readFolded_111 (v := 0) (by decide) ?_
        exact gd_zret hX hE 112 dd_Rd_readFolded_112 rfl ⟨by rw [hr]; rfl, _, by rw [hr], by rw [hr]; exact fun _ h => nomatch h⟩
      · skip
        exact absurd (by decide) h1
    | succ n ih =>
      intro i a u hi ha hu hres
      obtain rfl : i = 9 - n := by omega
      have hn : n ≤ 9 := by omega
      have ho := ch_getD_lt hO a
      have hu9 : n = 9 → u = 0 := fun e => hu (by omega)
      refine gd_iload_n hX 7 dd_Rd_readFolded_7 rfl ?_
      refine gd_bipush hX 8 dd_Rd_readFolded_8 (v := 63) (by decide) ?_
      refine gd_icmp_gt hX 10 111 dd_Rd_readFolded_10 (by decide) (fun h1 => ?_) (fun h1 => ?_)
      · skip
        exact absurd ((nI_ltI (a := 63) (by decide) (by omega)).mp h1) (by omega)
      · skip
        refine gd_aload_n hX 13 dd_Rd_readFolded_13 rfl ?_
        refine gd_get hX inC_Rd 0 0 14 dd_Rd_readFolded_14 rfl rfl (by decide) kw_85 rfl ?_
        refine gd_aload_n hX 17 dd_Rd_readFolded_17 rfl ?_
        refine gd_call hX (st := [.int (nI a)]) (wr := [gd_ob 2 h [.int (nI a), .long u], gd_aB K fr 1000 ff]) (ct_Oc_length _ K fe fr (nI L.length)) 18 dd_Rd_readFolded_18 (gd_nV hX (As := []) kw_351 kw_165 kw_166 (gd_sigOf (n := 0) kw_167 (by decide)) (by decide) 1 rfl rfl rfl rfl dd_Rd_readFolded_18) (gd_codeOf kw_167) (by decide) [1] [0, 2] rfl rfl rfl rfl rfl (by decide) (Nat.le_of_ble_eq_true rfl) (Nat.le_of_ble_eq_true rfl) (Nat.le_of_ble_eq_true rfl) (Nat.le_of_ble_eq_true rfl) (fun v9 w9 h9 => ?_) (fun E9 w9 q9 h9 => h9.elim)
        obtain ⟨rfl, rfl⟩ := h9
        refine gd_wsp [gd_ob 2 h [.int (nI a), .long u], gd_ob 1 fe [.ref fr, .int (nI L.length)], gd_aB K fr 1000 ff] [0, 2, 1] rfl rfl rfl ?_
        show gd_W X K 0 0 [gd_ob 2 h [.int (nI a), .long u], gd_ob 1 fe [.ref fr, .int (nI L.length)], gd_aB K fr 1000 ff] [(0, .ref h), (1, .ref fe), (2, .int (if q then 1 else 0)), (3, .int (nI (7 * (9 - n))))] [.int (nI L.length), .int (nI a)] 21
        refine gd_icmp_lt hX 21 26 dd_Rd_readFolded_21 (by decide) (fun h2 => ?_) (fun h2 => ?_)
        · skip
          have h3 : a < L.length := (nI_ltI (by omega) (by omega)).mp h2
          refine gd_aload_n hX 26 dd_Rd_readFolded_26 rfl ?_
          refine gd_aload_n hX 27 dd_Rd_readFolded_27 rfl ?_
          refine gd_get hX inC_Rd 0 0 28 dd_Rd_readFolded_28 rfl rfl (by decide) kw_85 rfl ?_
          refine gd_call hX (st := []) (wr := [gd_ob 2 h [.int (nI a), .long u]]) (ct_Oc_octetOrZero _ K fe fr 1000 a ff L hL (by decide) (by omega) hB) 31 dd_Rd_readFolded_31 (gd_nV hX (As := [.int (nI a)]) kw_356 kw_308 kw_309 (gd_sigOf (n := 1) kw_310 (by decide)) (by decide) 1 rfl rfl rfl rfl dd_Rd_readFolded_31) (gd_codeOf kw_310) (by decide) [1, 2] [0] rfl rfl rfl rfl rfl (by decide) (Nat.le_of_ble_eq_true rfl) (Nat.le_of_ble_eq_true rfl) (Nat.le_of_ble_eq_true rfl) (Nat.le_of_ble_eq_true rfl) (fun v9 w9 h9 => ?_) (fun E9 w9 q9 h9 => h9.elim)
          obtain ⟨rfl, rfl⟩ := h9
          show gd_W X K 0 0 [gd_ob 2 h [.int (nI a), .long u], gd_ob 1 fe [.ref fr, .int (nI L.length)], gd_aB K fr 1000 ff] [(0, .ref h), (1, .ref fe), (2, .int (if q then 1 else 0)), (3, .int (nI (7 * (9 - n))))] [.int (nI (L.getD a 0))] 34
          refine gd_istore hX [(4, .int (nI (L.getD a 0))), (0, .ref h), (1, .ref fe), (2, .int (if q then 1 else 0)), (3, .int (nI (7 * (9 - n))))] 34 dd_Rd_readFolded_34 (by decide) rfl ?_
          refine gd_iload_n hX 36 dd_Rd_readFolded_36 rfl ?_
          refine gd_bipush hX 37 dd_Rd_readFolded_37 (v := 63) (by decide) ?_
          refine gd_icmp_ne hX 39 50 dd_Rd_readFolded_39 (by decide) (fun h4 => ?_) (fun h4 => ?_)
          · skip
            have hA : n = 0 → L.getD a 0 ≤ 1 := fun e => absurd (by rw [e]; rfl) h4
            refine gd_aload_n hX 50 dd_Rd_readFolded_50 rfl ?_
            refine gd_dup hX 51 dd_Rd_readFolded_51 rfl ?_
            refine gd_get hX inC_Rd 0 1 52 dd_Rd_readFolded_52 rfl rfl (by decide) kw_86 rfl ?_
            refine gd_iload hX 55 dd_Rd_readFolded_55 rfl ?_
            refine gd_bipush hX 57 dd_Rd_readFolded_57 (v := 127) (by decide) ?_
            refine gd_iand hX 59 dd_Rd_readFolded_59 ?_
            refine gd_eqi (show ((nI (L.getD a 0)) &&& 127 : Int32) = nI (L.getD a 0 % 128) from pk_andN (by omega) 7 (by decide)) ?_
            refine gd_i2l hX 60 dd_Rd_readFolded_60 ?_
            refine gd_iload_n hX 61 dd_Rd_readFolded_61 rfl ?_
            refine gd_lshl hX 62 dd_Rd_readFolded_62 ?_
            refine gd_lor hX 63 dd_Rd_readFolded_63 ?_
            refine gd_eql (show (u ||| (((nI (L.getD a 0 % 128)).toInt64) <<< ((nI (7 * (9 - n))).toInt64 &&& 63)) : Int64) = ch_sh7 u (L.getD a 0) (9 - n) from rfl) ?_
            refine gd_put hX inC_Rd ty_Rd tyk_Rd nm_Rd 0 1 [gd_ob 2 h [.int (nI a), .long (ch_sh7 u (L.getD a 0) (9 - n))], gd_ob 1 fe [.ref fr, .int (nI L.length)], gd_aB K fr 1000 ff] 64 dd_Rd_readFolded_64 rfl rfl (by decide) kw_86 rfl rfl rfl (Nat.le_of_ble_eq_true rfl) rfl ?_
            refine gd_iload hX 67 dd_Rd_readFolded_67 rfl ?_
            refine gd_sipush hX 69 dd_Rd_readFolded_69 (v := 128) (by decide) ?_
            refine gd_icmp_ge hX 72 95 dd_Rd_readFolded_72 (by decide) (fun h6 => ?_) (fun h6 => ?_)
            · skip
              have h7 : 128 ≤ L.getD a 0 := (nI_leI (a := 128) (by decide) (by omega)).mp h6
              refine gd_aload_n hX 95 dd_Rd_readFolded_95 rfl ?_
              refine gd_dup hX 96 dd_Rd_readFolded_96 rfl ?_
              refine gd_get hX inC_Rd 0 0 97 dd_Rd_readFolded_97 rfl rfl (by decide) kw_85 rfl ?_
              refine gd_iconst hX 100 dd_Rd_readFolded_100 (v := 1) (by decide) ?_
              refine gd_iadd hX 101 dd_Rd_readFolded_101 ?_
              refine gd_eqi (show ((nI a) + 1 : Int32) = nI (a + 1) from nI_1 _) ?_
              refine gd_put hX inC_Rd ty_Rd tyk_Rd nm_Rd 0 0 [gd_ob 2 h [.int (nI (a + 1)), .long (ch_sh7 u (L.getD a 0) (9 - n))], gd_ob 1 fe [.ref fr, .int (nI L.length)], gd_aB K fr 1000 ff] 102 dd_Rd_readFolded_102 rfl rfl (by decide) kw_85 rfl rfl rfl (Nat.le_of_ble_eq_true rfl) rfl ?_
              have hn1 : n ≠ 0 := fun e => by have := hA e; omega
              refine gd_iinc hX 4 [(3, .int (nI (7 * (10 - n)))), (4, .int (nI (L.getD a 0))), (0, .ref h), (1, .ref fe), (2, .int (if q then 1 else 0))] 105 dd_Rd_readFolded_105 rfl (by rw [show 7 * (10 - n) = 7 * (9 - n) + 7 by omega, ← nI_add]; rfl) (by decide) rfl ?_
              refine gd_goto hX 108 7 dd_Rd_readFolded_108 (by decide) ?_
              refine gd_lvs [(0, .ref h), (1, .ref fe), (2, .int (if q then 1 else 0)), (3, .int (nI (7 * (10 - n))))] [2, 3, 4, 0] rfl ?_
              exact ih (10 - n) (a + 1) _ (by omega) (by omega) (by omega) (by rw [hres, ch_rd_S, if_neg (by omega), if_neg (by omega), if_pos h7])
            · skip
              have h7 : L.getD a 0 < 128 := Nat.lt_of_not_le (fun q => h6 ((nI_leI (a := 128) (by decide) (by omega)).mpr q))
              refine gd_aload_n hX 75 dd_Rd_readFolded_75 rfl ?_
              refine gd_iload hX 76 dd_Rd_readFolded_76 rfl ?_
              refine gd_if_ne hX 78 89 dd_Rd_readFolded_78 (by decide) (fun h8 => ?_) (fun h8 => ?_)
              · skip
                have h9 : L.getD a 0 ≠ 0 := fun e => h8 (by rw [e]; rfl)
                refine gd_iconst hX 89 dd_Rd_readFolded_89 (v := 0) (by decide) ?_
                have hz := ch_rd_end (q := q) h3 hn h7 hA hu9 false (⟨fun h => (nomatch h), fun h => absurd h.1 h9⟩) hres
                refine gd_eqi (show (0 : Int32) = (if false then 1 else 0) from rfl) ?_
                refine gd_iload_n hX 90 dd_Rd_readFolded_90 rfl ?_
                refine gd_call hX (st := []) (wr := [gd_ob 1 fe [.ref fr, .int (nI L.length)], gd_aB K fr 1000 ff]) (ct_Rd_endFolded _ K h a (ch_sh7 u (L.getD a 0) (9 - n)) false q) 91 dd_Rd_readFolded_91 (gd_nV hX (As := [.int (if false then 1 else 0), .int (if q then 1 else 0)]) kw_375 kw_377 kw_6 (gd_sigOf (n := 2) kw_378 (by decide)) (by decide) 0 rfl rfl rfl rfl dd_Rd_readFolded_91) (gd_codeOf kw_378) (by decide) [0] [1, 2] rfl rfl rfl rfl rfl (by decide) (Nat.le_of_ble_eq_true rfl) (Nat.le_of_ble_eq_true rfl) (Nat.le_of_ble_eq_true rfl) (Nat.le_of_ble_eq_true rfl) (fun v9 w9 h9 => ?_) (fun E9 w9 q9 h9 => h9.elim)
                obtain ⟨rfl, rfl⟩ := h9
                refine gd_wsp [gd_ob 2 h [.int (nI (if (false = true ∨ (ch_sh7 u (L.getD a 0) (9 - n) = 0 ∧ q = false)) then a else a + 1)), .long (ch_sh7 u (L.getD a 0) (9 - n))], gd_ob 1 fe [.ref fr, .int (nI L.length)], gd_aB K fr 1000 ff] [2, 0, 1] rfl rfl rfl ?_
                show gd_W X K 0 0 [gd_ob 2 h [.int (nI (if (false = true ∨ (ch_sh7 u (L.getD a 0) (9 - n) = 0 ∧ q = false)) then a else a + 1)), .long (ch_sh7 u (L.getD a 0) (9 - n))], gd_ob 1 fe [.ref fr, .int (nI L.length)], gd_aB K fr 1000 ff] [(4, .int (nI (L.getD a 0))), (0, .ref h), (1, .ref fe), (2, .int (if q then 1 else 0)), (3, .int (nI (7 * (9 - n))))] [.int (if (false = true ∨ (ch_sh7 u (L.getD a 0) (9 - n) = 0 ∧ q = false)) then 0 else 1)] 94
                by_cases hC : (false = true ∨ (ch_sh7 u (L.getD a 0) (9 - n) = 0 ∧ q = false))
                · have hr := hz.1 hC
                  rw [if_pos hC, if_pos hC]
                  exact gd_zret hX hE 94 dd_Rd_readFolded_94 rfl ⟨by rw [hr]; rfl, _, by rw [hr], by rw [hr]; exact fun _ h => nomatch h⟩
                · have hr := hz.2 hC
                  rw [if_neg hC, if_neg hC]
                  exact gd_zret hX hE 94 dd_Rd_readFolded_94 rfl ⟨by rw [hr]; rfl, _, by rw [hr], by rw [hr]; exact fun _ h => Option.some.inj h⟩
              · skip
                have h9 : L.getD a 0 = 0 := nI_0' (by omega) h8
                refine gd_iload_n hX 81 dd_Rd_readFolded_81 rfl ?_
                refine gd_if_le hX 82 89 dd_Rd_readFolded_82 (by decide) (fun h10 => ?_) (fun h10 => ?_)
                · skip
                  have h11 : 9 - n = 0 := by have := (nI_leI (b := 0) (by omega) (by decide)).mp h10; omega
                  refine gd_iconst hX 89 dd_Rd_readFolded_89 (v := 0) (by decide) ?_
                  have hz := ch_rd_end (q := q) h3 hn h7 hA hu9 false (⟨fun h => (nomatch h), fun h => absurd h.2 (by omega)⟩) hres
                  refine gd_eqi (show (0 : Int32) = (if false then 1 else 0) from rfl) ?_
                  refine gd_iload_n hX 90 dd_Rd_readFolded_90 rfl ?_
                  refine gd_call hX (st := []) (wr := [gd_ob 1 fe [.ref fr, .int (nI L.length)], gd_aB K fr 1000 ff]) (ct_Rd_endFolded _ K h a (ch_sh7 u (L.getD a 0) (9 - n)) false q) 91 dd_Rd_readFolded_91 (gd_nV hX (As := [.int (if false then 1 else 0), .int (if q then 1 else 0)]) kw_375 kw_377 kw_6 (gd_sigOf (n := 2) kw_378 (by decide)) (by decide) 0 rfl rfl rfl rfl dd_Rd_readFolded_91) (gd_codeOf kw_378) (by decide) [0] [1, 2] rfl rfl rfl rfl rfl (by decide) (Nat.le_of_ble_eq_true rfl) (Nat.le_of_ble_eq_true rfl) (Nat.le_of_ble_eq_true rfl) (Nat.le_of_ble_eq_true rfl) (fun v9 w9 h9 => ?_) (fun E9 w9 q9 h9 => h9.elim)
                  obtain ⟨rfl, rfl⟩ := h9
                  refine gd_wsp [gd_ob 2 h [.int (nI (if (false = true ∨ (ch_sh7 u (L.getD a 0) (9 - n) = 0 ∧ q = false)) then a else a + 1)), .long (ch_sh7 u (L.getD a 0) (9 - n))], gd_ob 1 fe [.ref fr, .int (nI L.length)], gd_aB K fr 1000 ff] [2, 0, 1] rfl rfl rfl ?_
                  show gd_W X K 0 0 [gd_ob 2 h [.int (nI (if (false = true ∨ (ch_sh7 u (L.getD a 0) (9 - n) = 0 ∧ q = false)) then a else a + 1)), .long (ch_sh7 u (L.getD a 0) (9 - n))], gd_ob 1 fe [.ref fr, .int (nI L.length)], gd_aB K fr 1000 ff] [(4, .int (nI (L.getD a 0))), (0, .ref h), (1, .ref fe), (2, .int (if q then 1 else 0)), (3, .int (nI (7 * (9 - n))))] [.int (if (false = true ∨ (ch_sh7 u (L.getD a 0) (9 - n) = 0 ∧ q = false)) then 0 else 1)] 94
                  by_cases hC : (false = true ∨ (ch_sh7 u (L.getD a 0) (9 - n) = 0 ∧ q = false))
                  · have hr := hz.1 hC
                    rw [if_pos hC, if_pos hC]
                    exact gd_zret hX hE 94 dd_Rd_readFolded_94 rfl ⟨by rw [hr]; rfl, _, by rw [hr], by rw [hr]; exact fun _ h => nomatch h⟩
                  · have hr := hz.2 hC
                    rw [if_neg hC, if_neg hC]
                    exact gd_zret hX hE 94 dd_Rd_readFolded_94 rfl ⟨by rw [hr]; rfl, _, by rw [hr], by rw [hr]; exact fun _ h => Option.some.inj h⟩
                · skip
                  have h11 : 0 < 9 - n := Nat.pos_of_ne_zero (fun e => h10 (by rw [e]; decide))
                  refine gd_iconst hX 85 dd_Rd_readFolded_85 (v := 1) (by decide) ?_
                  refine gd_goto hX 86 90 dd_Rd_readFolded_86 (by decide) ?_
                  have hz := ch_rd_end (q := q) h3 hn h7 hA hu9 true (⟨fun _ => ⟨h9, h11⟩, fun _ => rfl⟩) hres
                  refine gd_eqi (show (1 : Int32) = (if true then 1 else 0) from rfl) ?_
                  refine gd_iload_n hX 90 dd_Rd_readFolded_90 rfl ?_
                  refine gd_call hX (st := []) (wr := [gd_ob 1 fe [.ref fr, .int (nI L.length)], gd_aB K fr 1000 ff]) (ct_Rd_endFolded _ K h a (ch_sh7 u (L.getD a 0) (9 - n)) true q) 91 dd_Rd_readFolded_91 (gd_nV hX (As := [.int (if true then 1 else 0), .int (if q then 1 else 0)]) kw_375 kw_377 kw_6 (gd_sigOf (n := 2) kw_378 (by decide)) (by decide) 0 rfl rfl rfl rfl dd_Rd_readFolded_91) (gd_codeOf kw_378) (by decide) [0] [1, 2] rfl rfl rfl rfl rfl (by decide) (Nat.le_of_ble_eq_true rfl) (Nat.le_of_ble_eq_true rfl) (Nat.le_of_ble_eq_true rfl) (Nat.le_of_ble_eq_true rfl) (fun v9 w9 h9 => ?_) (fun E9 w9 q9 h9 => h9.elim)
                  obtain ⟨rfl, rfl⟩ := h9
                  refine gd_wsp [gd_ob 2 h [.int (nI (if (true = true ∨ (ch_sh7 u (L.getD a 0) (9 - n) = 0 ∧ q = false)) then a else a + 1)), .long (ch_sh7 u (L.getD a 0) (9 - n))], gd_ob 1 fe [.ref fr, .int (nI L.length)], gd_aB K fr 1000 ff] [2, 0, 1] rfl rfl rfl ?_
                  show gd_W X K 0 0 [gd_ob 2 h [.int (nI (if (true = true ∨ (ch_sh7 u (L.getD a 0) (9 - n) = 0 ∧ q = false)) then a else a + 1)), .long (ch_sh7 u (L.getD a 0) (9 - n))], gd_ob 1 fe [.ref fr, .int (nI L.length)], gd_aB K fr 1000 ff] [(4, .int (nI (L.getD a 0))), (0, .ref h), (1, .ref fe), (2, .int (if q then 1 else 0)), (3, .int (nI (7 * (9 - n))))] [.int (if (true = true ∨ (ch_sh7 u (L.getD a 0) (9 - n) = 0 ∧ q = false)) then 0 else 1)] 94
                  by_cases hC : (true = true ∨ (ch_sh7 u (L.getD a 0) (9 - n) = 0 ∧ q = false))
                  · have hr := hz.1 hC
                    rw [if_pos hC, if_pos hC]
                    exact gd_zret hX hE 94 dd_Rd_readFolded_94 rfl ⟨by rw [hr]; rfl, _, by rw [hr], by rw [hr]; exact fun _ h => nomatch h⟩
                  · have hr := hz.2 hC
                    rw [if_neg hC, if_neg hC]
                    exact gd_zret hX hE 94 dd_Rd_readFolded_94 rfl ⟨by rw [hr]; rfl, _, by rw [hr], by rw [hr]; exact fun _ h => Option.some.inj h⟩
          · skip
            refine gd_iload hX 42 dd_Rd_readFolded_42 rfl ?_
            refine gd_iconst hX 44 dd_Rd_readFolded_44 (v := 1) (by decide) ?_
            refine gd_icmp_le hX 45 50 dd_Rd_readFolded_45 (by decide) (fun h5 => ?_) (fun h5 => ?_)
            · skip
              have hA : n = 0 → L.getD a 0 ≤ 1 := fun _ => (nI_leI (b := 1) (by omega) (by decide)).mp h5
              refine gd_aload_n hX 50 dd_Rd_readFolded_50 rfl ?_
              refine gd_dup hX 51 dd_Rd_readFolded_51 rfl ?_
              refine gd_get hX inC_Rd 0 1 52 dd_Rd_readFolded_52 rfl rfl (by decide) kw_86 rfl ?_
              refine gd_iload hX 55 dd_Rd_readFolded_55 rfl ?_
              refine gd_bipush hX 57 dd_Rd_readFolded_57 (v := 127) (by decide) ?_
              refine gd_iand hX 59 dd_Rd_readFolded_59 ?_
              refine gd_eqi (show ((nI (L.getD a 0)) &&& 127 : Int32) = nI (L.getD a 0 % 128) from pk_andN (by omega) 7 (by decide)) ?_
              refine gd_i2l hX 60 dd_Rd_readFolded_60 ?_
              refine gd_iload_n hX 61 dd_Rd_readFolded_61 rfl ?_
              refine gd_lshl hX 62 dd_Rd_readFolded_62 ?_
              refine gd_lor hX 63 dd_Rd_readFolded_63 ?_
              refine gd_eql (show (u ||| (((nI (L.getD a 0 % 128)).toInt64) <<< ((nI (7 * (9 - n))).toInt64 &&& 63)) : Int64) = ch_sh7 u (L.getD a 0) (9 - n) from rfl) ?_
              refine gd_put hX inC_Rd ty_Rd tyk_Rd nm_Rd 0 1 [gd_ob 2 h [.int (nI a), .long (ch_sh7 u (L.getD a 0) (9 - n))], gd_ob 1 fe [.ref fr, .int (nI L.length)], gd_aB K fr 1000 ff] 64 dd_Rd_readFolded_64 rfl rfl (by decide) kw_86 rfl rfl rfl (Nat.le_of_ble_eq_true rfl) rfl ?_
              refine gd_iload hX 67 dd_Rd_readFolded_67 rfl ?_
              refine gd_sipush hX 69 dd_Rd_readFolded_69 (v := 128) (by decide) ?_
              refine gd_icmp_ge hX 72 95 dd_Rd_readFolded_72 (by decide) (fun h6 => ?_) (fun h6 => ?_)
              · skip
                have h7 : 128 ≤ L.getD a 0 := (nI_leI (a := 128) (by decide) (by omega)).mp h6
                refine gd_aload_n hX 95 dd_Rd_readFolded_95 rfl ?_
                refine gd_dup hX 96 dd_Rd_readFolded_96 rfl ?_
                refine gd_get hX inC_Rd 0 0 97 dd_Rd_readFolded_97 rfl rfl (by decide) kw_85 rfl ?_
                refine gd_iconst hX 100 dd_Rd_readFolded_100 (v := 1) (by decide) ?_
                refine gd_iadd hX 101 dd_Rd_readFolded_101 ?_
                refine gd_eqi (show ((nI a) + 1 : Int32) = nI (a + 1) from nI_1 _) ?_
                refine gd_put hX inC_Rd ty_Rd tyk_Rd nm_Rd 0 0 [gd_ob 2 h [.int (nI (a + 1)), .long (ch_sh7 u (L.getD a 0) (9 - n))], gd_ob 1 fe [.ref fr, .int (nI L.length)], gd_aB K fr 1000 ff] 102 dd_Rd_readFolded_102 rfl rfl (by decide) kw_85 rfl rfl rfl (Nat.le_of_ble_eq_true rfl) rfl ?_
                have hn1 : n ≠ 0 := fun e => by have := hA e; omega
                refine gd_iinc hX 4 [(3, .int (nI (7 * (10 - n)))), (4, .int (nI (L.getD a 0))), (0, .ref h), (1, .ref fe), (2, .int (if q then 1 else 0))] 105 dd_Rd_readFolded_105 rfl (by rw [show 7 * (10 - n) = 7 * (9 - n) + 7 by omega, ← nI_add]; rfl) (by decide) rfl ?_
                refine gd_goto hX 108 7 dd_Rd_readFolded_108 (by decide) ?_
                refine gd_lvs [(0, .ref h), (1, .ref fe), (2, .int (if q then 1 else 0)), (3, .int (nI (7 * (10 - n))))] [2, 3, 4, 0] rfl ?_
                exact ih (10 - n) (a + 1) _ (by omega) (by omega) (by omega) (by rw [hres, ch_rd_S, if_neg (by omega), if_neg (by omega), if_pos h7])
              · skip
                have h7 : L.getD a 0 < 128 := Nat.lt_of_not_le (fun q => h6 ((nI_leI (a := 128) (by decide) (by omega)).mpr q))
                refine gd_aload_n hX 75 dd_Rd_readFolded_75 rfl ?_
                refine gd_iload hX 76 dd_Rd_readFolded_76 rfl ?_
                refine gd_if_ne hX 78 89 dd_Rd_readFolded_78 (by decide) (fun h8 => ?_) (fun h8 => ?_)
                · skip
                  have h9 : L.getD a 0 ≠ 0 := fun e => h8 (by rw [e]; rfl)
                  refine gd_iconst hX 89 dd_Rd_readFolded_89 (v := 0) (by decide) ?_
                  have hz := ch_rd_end (q := q) h3 hn h7 hA hu9 false (⟨fun h => (nomatch h), fun h => absurd h.1 h9⟩) hres
                  refine gd_eqi (show (0 : Int32) = (if false then 1 else 0) from rfl) ?_
                  refine gd_iload_n hX 90 dd_Rd_readFolded_90 rfl ?_
                  refine gd_call hX (st := []) (wr := [gd_ob 1 fe [.ref fr, .int (nI L.length)], gd_aB K fr 1000 ff]) (ct_Rd_endFolded _ K h a (ch_sh7 u (L.getD a 0) (9 - n)) false q) 91 dd_Rd_readFolded_91 (gd_nV hX (As := [.int (if false then 1 else 0), .int (if q then 1 else 0)]) kw_375 kw_377 kw_6 (gd_sigOf (n := 2) kw_378 (by decide)) (by decide) 0 rfl rfl rfl rfl dd_Rd_readFolded_91) (gd_codeOf kw_378) (by decide) [0] [1, 2] rfl rfl rfl rfl rfl (by decide) (Nat.le_of_ble_eq_true rfl) (Nat.le_of_ble_eq_true rfl) (Nat.le_of_ble_eq_true rfl) (Nat.le_of_ble_eq_true rfl) (fun v9 w9 h9 => ?_) (fun E9 w9 q9 h9 => h9.elim)
                  obtain ⟨rfl, rfl⟩ := h9
                  refine gd_wsp [gd_ob 2 h [.int (nI (if (false = true ∨ (ch_sh7 u (L.getD a 0) (9 - n) = 0 ∧ q = false)) then a else a + 1)), .long (ch_sh7 u (L.getD a 0) (9 - n))], gd_ob 1 fe [.ref fr, .int (nI L.length)], gd_aB K fr 1000 ff] [2, 0, 1] rfl rfl rfl ?_
                  show gd_W X K 0 0 [gd_ob 2 h [.int (nI (if (false = true ∨ (ch_sh7 u (L.getD a 0) (9 - n) = 0 ∧ q = false)) then a else a + 1)), .long (ch_sh7 u (L.getD a 0) (9 - n))], gd_ob 1 fe [.ref fr, .int (nI L.length)], gd_aB K fr 1000 ff] [(4, .int (nI (L.getD a 0))), (0, .ref h), (1, .ref fe), (2, .int (if q then 1 else 0)), (3, .int (nI (7 * (9 - n))))] [.int (if (false = true ∨ (ch_sh7 u (L.getD a 0) (9 - n) = 0 ∧ q = false)) then 0 else 1)] 94
                  by_cases hC : (false = true ∨ (ch_sh7 u (L.getD a 0) (9 - n) = 0 ∧ q = false))
                  · have hr := hz.1 hC
                    rw [if_pos hC, if_pos hC]
                    exact gd_zret hX hE 94 dd_Rd_readFolded_94 rfl ⟨by rw [hr]; rfl, _, by rw [hr], by rw [hr]; exact fun _ h => nomatch h⟩
                  · have hr := hz.2 hC
                    rw [if_neg hC, if_neg hC]
                    exact gd_zret hX hE 94 dd_Rd_readFolded_94 rfl ⟨by rw [hr]; rfl, _, by rw [hr], by rw [hr]; exact fun _ h => Option.some.inj h⟩
                · skip
                  have h9 : L.getD a 0 = 0 := nI_0' (by omega) h8
                  refine gd_iload_n hX 81 dd_Rd_readFolded_81 rfl ?_
                  refine gd_if_le hX 82 89 dd_Rd_readFolded_82 (by decide) (fun h10 => ?_) (fun h10 => ?_)
                  · skip
                    have h11 : 9 - n = 0 := by have := (nI_leI (b := 0) (by omega) (by decide)).mp h10; omega
                    refine gd_iconst hX 89 dd_Rd_readFolded_89 (v := 0) (by decide) ?_
                    have hz := ch_rd_end (q := q) h3 hn h7 hA hu9 false (⟨fun h => (nomatch h), fun h => absurd h.2 (by omega)⟩) hres
                    refine gd_eqi (show (0 : Int32) = (if false then 1 else 0) from rfl) ?_
                    refine gd_iload_n hX 90 dd_Rd_readFolded_90 rfl ?_
                    refine gd_call hX (st := []) (wr := [gd_ob 1 fe [.ref fr, .int (nI L.length)], gd_aB K fr 1000 ff]) (ct_Rd_endFolded _ K h a (ch_sh7 u (L.getD a 0) (9 - n)) false q) 91 dd_Rd_readFolded_91 (gd_nV hX (As := [.int (if false then 1 else 0), .int (if q then 1 else 0)]) kw_375 kw_377 kw_6 (gd_sigOf (n := 2) kw_378 (by decide)) (by decide) 0 rfl rfl rfl rfl dd_Rd_readFolded_91) (gd_codeOf kw_378) (by decide) [0] [1, 2] rfl rfl rfl rfl rfl (by decide) (Nat.le_of_ble_eq_true rfl) (Nat.le_of_ble_eq_true rfl) (Nat.le_of_ble_eq_true rfl) (Nat.le_of_ble_eq_true rfl) (fun v9 w9 h9 => ?_) (fun E9 w9 q9 h9 => h9.elim)
                    obtain ⟨rfl, rfl⟩ := h9
                    refine gd_wsp [gd_ob 2 h [.int (nI (if (false = true ∨ (ch_sh7 u (L.getD a 0) (9 - n) = 0 ∧ q = false)) then a else a + 1)), .long (ch_sh7 u (L.getD a 0) (9 - n))], gd_ob 1 fe [.ref fr, .int (nI L.length)], gd_aB K fr 1000 ff] [2, 0, 1] rfl rfl rfl ?_
                    show gd_W X K 0 0 [gd_ob 2 h [.int (nI (if (false = true ∨ (ch_sh7 u (L.getD a 0) (9 - n) = 0 ∧ q = false)) then a else a + 1)), .long (ch_sh7 u (L.getD a 0) (9 - n))], gd_ob 1 fe [.ref fr, .int (nI L.length)], gd_aB K fr 1000 ff] [(4, .int (nI (L.getD a 0))), (0, .ref h), (1, .ref fe), (2, .int (if q then 1 else 0)), (3, .int (nI (7 * (9 - n))))] [.int (if (false = true ∨ (ch_sh7 u (L.getD a 0) (9 - n) = 0 ∧ q = false)) then 0 else 1)] 94
                    by_cases hC : (false = true ∨ (ch_sh7 u (L.getD a 0) (9 - n) = 0 ∧ q = false))
                    · have hr := hz.1 hC
                      rw [if_pos hC, if_pos hC]
                      exact gd_zret hX hE 94 dd_Rd_readFolded_94 rfl ⟨by rw [hr]; rfl, _, by rw [hr], by rw [hr]; exact fun _ h => nomatch h⟩
                    · have hr := hz.2 hC
                      rw [if_neg hC, if_neg hC]
                      exact gd_zret hX hE 94 dd_Rd_readFolded_94 rfl ⟨by rw [hr]; rfl, _, by rw [hr], by rw [hr]; exact fun _ h => Option.some.inj h⟩
                  · skip
                    have h11 : 0 < 9 - n := Nat.pos_of_ne_zero (fun e => h10 (by rw [e]; decide))
                    refine gd_iconst hX 85 dd_Rd_readFolded_85 (v := 1) (by decide) ?_
                    refine gd_goto hX 86 90 dd_Rd_readFolded_86 (by decide) ?_
                    have hz := ch_rd_end (q := q) h3 hn h7 hA hu9 true (⟨fun _ => ⟨h9, h11⟩, fun _ => rfl⟩) hres
                    refine gd_eqi (show (1 : Int32) = (if true then 1 else 0) from rfl) ?_
                    refine gd_iload_n hX 90 dd_Rd_readFolded_90 rfl ?_
                    refine gd_call hX (st := []) (wr := [gd_ob 1 fe [.ref fr, .int (nI L.length)], gd_aB K fr 1000 ff]) (ct_Rd_endFolded _ K h a (ch_sh7 u (L.getD a 0) (9 - n)) true q) 91 dd_Rd_readFolded_91 (gd_nV hX (As := [.int (if true then 1 else 0), .int (if q then 1 else 0)]) kw_375 kw_377 kw_6 (gd_sigOf (n := 2) kw_378 (by decide)) (by decide) 0 rfl rfl rfl rfl dd_Rd_readFolded_91) (gd_codeOf kw_378) (by decide) [0] [1, 2] rfl rfl rfl rfl rfl (by decide) (Nat.le_of_ble_eq_true rfl) (Nat.le_of_ble_eq_true rfl) (Nat.le_of_ble_eq_true rfl) (Nat.le_of_ble_eq_true rfl) (fun v9 w9 h9 => ?_) (fun E9 w9 q9 h9 => h9.elim)
                    obtain ⟨rfl, rfl⟩ := h9
                    refine gd_wsp [gd_ob 2 h [.int (nI (if (true = true ∨ (ch_sh7 u (L.getD a 0) (9 - n) = 0 ∧ q = false)) then a else a + 1)), .long (ch_sh7 u (L.getD a 0) (9 - n))], gd_ob 1 fe [.ref fr, .int (nI L.length)], gd_aB K fr 1000 ff] [2, 0, 1] rfl rfl rfl ?_
                    show gd_W X K 0 0 [gd_ob 2 h [.int (nI (if (true = true ∨ (ch_sh7 u (L.getD a 0) (9 - n) = 0 ∧ q = false)) then a else a + 1)), .long (ch_sh7 u (L.getD a 0) (9 - n))], gd_ob 1 fe [.ref fr, .int (nI L.length)], gd_aB K fr 1000 ff] [(4, .int (nI (L.getD a 0))), (0, .ref h), (1, .ref fe), (2, .int (if q then 1 else 0)), (3, .int (nI (7 * (9 - n))))] [.int (if (true = true ∨ (ch_sh7 u (L.getD a 0) (9 - n) = 0 ∧ q = false)) then 0 else 1)] 94
                    by_cases hC : (true = true ∨ (ch_sh7 u (L.getD a 0) (9 - n) = 0 ∧ q = false))
                    · have hr := hz.1 hC
                      rw [if_pos hC, if_pos hC]
                      exact gd_zret hX hE 94 dd_Rd_readFolded_94 rfl ⟨by rw [hr]; rfl, _, by rw [hr], by rw [hr]; exact fun _ h => nomatch h⟩
                    · have hr := hz.2 hC
                      rw [if_neg hC, if_neg hC]
                      exact gd_zret hX hE 94 dd_Rd_readFolded_94 rfl ⟨by rw [hr]; rfl, _, by rw [hr], by rw [hr]; exact fun _ h => Option.some.inj h⟩
            · skip
              have h7 : n = 0 := by have := (nI_eq (b := 63) (by omega) (by decide)).mp h4; omega
              have h8 : ¬ L.getD a 0 ≤ 1 := fun q => h5 ((nI_leI (b := 1) (by omega) (by decide)).mpr q)
              have hr : (ch_rd L q 10 a0 0) = (a, none) := by rw [hres, ch_rd_S, if_neg (by omega), if_pos ⟨h7, by omega⟩]
              refine gd_iconst hX 48 dd_Rd_readFolded_48 (v := 0) (by decide) ?_
              exact gd_zret hX hE 49 dd_Rd_readFolded_49 rfl ⟨by rw [hr]; rfl, _, by rw [hr], by rw [hr]; exact fun _ h => nomatch h⟩
        · skip
          have hr : (ch_rd L q 10 a0 0) = (a, none) := by rw [hres, ch_rd_S, if_pos (Nat.le_of_not_lt (fun q => h2 ((nI_ltI (by omega) (by omega)).mpr q)))]
          refine gd_iconst hX 24 dd_Rd_readFolded_24 (v := 0) (by decide) ?_
          exact gd_zret hX hE 25 dd_Rd_readFolded_25 rfl ⟨by rw [hr]; rfl, _, by rw [hr], by rw [hr]; exact fun _ h => nomatch h⟩
  refine gd_aload_n hX 0 dd_Rd_readFolded_0 rfl ?_
  refine gd_lconst hX 1 dd_Rd_readFolded_1 (v := 0) (by decide) ?_
  refine gd_put hX inC_Rd ty_Rd tyk_Rd nm_Rd 0 1 [gd_ob 2 h [.int (nI a0), .long 0], gd_ob 1 fe [.ref fr, .int (nI L.length)], gd_aB K fr 1000 ff] 2 dd_Rd_readFolded_2 rfl rfl (by decide) kw_86 rfl rfl rfl (Nat.le_of_ble_eq_true rfl) rfl ?_
  refine gd_iconst hX 5 dd_Rd_readFolded_5 (v := 0) (by decide) ?_
  refine gd_eqi (show (0 : Int32) = nI (7 * 0) from rfl) ?_
  refine gd_istore_n hX [(3, .int (nI (7 * 0))), (0, .ref h), (1, .ref fe), (2, .int (if q then 1 else 0))] 6 dd_Rd_readFolded_6 rfl (by decide) rfl ?_
  refine gd_lvs [(0, .ref h), (1, .ref fe), (2, .int (if q then 1 else 0)), (3, .int (nI (7 * 0)))] [1, 2, 3, 0] rfl ?_
  exact loop 10 0 a0 0 rfl ha (fun _ => rfl) rfl
