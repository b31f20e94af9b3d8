set_option maxRecDepth 100000 in
set_option maxHeartbeats 4000000 in
theorem ct_Ch_needCell (l : Launch) (K : gd_K) (hl : l.stackTraces = false) (k : Int32) : gd_M l yy_Ch_needCell bb_Ch_needCell 1 (none) [] 6 82 1 6 K [.int k] [] (fun v w1 => v = none ∧ w1 = [] ∧ ∃ j, j < 64 ∧ k = nI j) (fun E w1 => E = "java/lang/IndexOutOfBoundsException" ∧ w1 = [] ∧ (k < 0 ∨ 64 ≤ k)) := by
  refine gd_body (Nat.le_of_ble_eq_true rfl) (fun X hXl hin hE hX => ?_)
  refine gd_iload_n hX 0 dd_Ch_needCell_0 rfl ?_
  refine gd_if_lt hX 1 10 dd_Ch_needCell_1 (by decide) (fun h1 => ?_) (fun h1 => ?_)
  · skip
    exact gd_throw hX hE (by rw [hXl]; exact hl) (is := 135) (text := "there is no such cell") 10 tw_io (by decide) dd_Ch_needCell_10 dd_Ch_needCell_13 dd_Ch_needCell_14 dd_Ch_needCell_16 dd_Ch_needCell_19 (by decide) (Nat.le_of_ble_eq_true rfl) (Nat.le_of_ble_eq_true rfl) (Nat.le_of_ble_eq_true rfl) (Nat.le_of_ble_eq_true rfl) (Nat.le_of_ble_eq_true rfl) (Nat.le_of_ble_eq_true rfl) ⟨rfl, rfl, Or.inl h1⟩
  · skip
    refine gd_iload_n hX 4 dd_Ch_needCell_4 rfl ?_
    refine gd_bipush hX 5 dd_Ch_needCell_5 (v := 64) (by decide) ?_
    refine gd_icmp_lt hX 7 20 dd_Ch_needCell_7 (by decide) (fun h2 => ?_) (fun h2 => ?_)
    · skip
      refine gd_wide (a := 1) (b := 6) (by decide) (by decide) ?_
      obtain ⟨j, hj, rfl⟩ := ch_ix (n := 64) (by decide) h1 h2
      exact gd_vret hX hE 20 dd_Ch_needCell_20 ⟨rfl, rfl, j, hj, rfl⟩
    · skip
      exact gd_throw hX hE (by rw [hXl]; exact hl) (is := 135) (text := "there is no such cell") 10 tw_io (by decide) dd_Ch_needCell_10 dd_Ch_needCell_13 dd_Ch_needCell_14 dd_Ch_needCell_16 dd_Ch_needCell_19 (by decide) (Nat.le_of_ble_eq_true rfl) (Nat.le_of_ble_eq_true rfl) (Nat.le_of_ble_eq_true rfl) (Nat.le_of_ble_eq_true rfl) (Nat.le_of_ble_eq_true rfl) (Nat.le_of_ble_eq_true rfl) ⟨rfl, rfl, Or.inr (ch_nlt h2)⟩
set_option maxRecDepth 100000 in
set_option maxHeartbeats 4000000 in
theorem ct_Ch_put (l : Launch) (K : gd_K) (hl : l.stackTraces = false) (h c sp ru md fe rd : Nat) (wa : Int32) (ca : Nat) (w : Int64) (f : Nat → Int64) (k : Int32) (v : Int64) : gd_M l yy_Ch_put bb_Ch_put 4 (none) [] 7 94 1 6 K [.ref h, .int k, .long v] [gd_ob 4 h [.ref c, .ref sp, .ref ru, .ref md, .ref fe, .ref rd, .int wa], gd_ob 0 c [.ref ca, .long w], gd_aJ K ca 64 f] (fun v9 w1 => v9 = none ∧ ∃ j, j < 64 ∧ k = nI j ∧ w1 = [gd_ob 4 h [.ref c, .ref sp, .ref ru, .ref md, .ref fe, .ref rd, .int wa], gd_ob 0 c [.ref ca, .long (w ||| ((1 : Int64) <<< ((nI j).toInt64 &&& 63)))], gd_aJ K ca 64 (vp_updL f j v)]) (fun E w1 => E = "java/lang/IndexOutOfBoundsException" ∧ w1 = [gd_ob 4 h [.ref c, .ref sp, .ref ru, .ref md, .ref fe, .ref rd, .int wa], gd_ob 0 c [.ref ca, .long w], gd_aJ K ca 64 f] ∧ (k < 0 ∨ 64 ≤ k)) := by
  refine gd_body (Nat.le_of_ble_eq_true rfl) (fun X hXl hin hE hX => ?_)
  refine gd_iload_n hX 0 dd_Ch_put_0 rfl ?_
  refine gd_call hX (st := []) (wr := [gd_ob 4 h [.ref c, .ref sp, .ref ru, .ref md, .ref fe, .ref rd, .int wa], gd_ob 0 c [.ref ca, .long w], gd_aJ K ca 64 f]) (ct_Ch_needCell (gx_l X) K (by rw [hXl]; exact hl) k) 1 dd_Ch_put_1 (gd_nS hX (As := [.int k]) kw_180 kw_181 kw_13 (gd_nmOf kw_182) (gd_sigOf (n := 1) kw_182 (by decide)) (by decide) rfl rfl dd_Ch_put_1) (gd_codeOf kw_182) (by decide) [] [0, 1, 2] rfl rfl rfl rfl rfl (by decide) (Nat.le_of_ble_eq_true rfl) (Nat.le_of_ble_eq_true rfl) (Nat.le_of_ble_eq_true rfl) (Nat.le_of_ble_eq_true rfl) (fun v9 w9 h9 => ?_) (fun E9 w9 q9 hx9 => ?_)
  · skip
    obtain ⟨rfl, rfl, j, hj, rfl⟩ := h9
    show gd_W X K 1 6 [gd_ob 4 h [.ref c, .ref sp, .ref ru, .ref md, .ref fe, .ref rd, .int wa], gd_ob 0 c [.ref ca, .long w], gd_aJ K ca 64 f] [(0, .ref h), (1, .int (nI j)), (2, .long v)] [] 4
    refine gd_aload_n hX 4 dd_Ch_put_4 rfl ?_
    refine gd_get hX inC_Ch 0 0 5 dd_Ch_put_5 rfl rfl (by decide) kw_92 rfl ?_
    refine gd_iload_n hX 8 dd_Ch_put_8 rfl ?_
    refine gd_lload_n hX 9 dd_Ch_put_9 rfl ?_
    refine gd_call hX (st := []) (wr := [gd_ob 4 h [.ref c, .ref sp, .ref ru, .ref md, .ref fe, .ref rd, .int wa]]) (ct_Cl_fill _ K c ca j w f v hj) 10 dd_Ch_put_10 (gd_nV hX (As := [.int (nI j), .long v]) kw_250 kw_251 kw_252 (gd_sigOf (n := 2) kw_253 (by decide)) (by decide) 1 rfl rfl rfl rfl dd_Ch_put_10) (gd_codeOf kw_253) (by decide) [1, 2] [0] rfl rfl rfl rfl rfl (by decide) (Nat.le_of_ble_eq_true rfl) (Nat.le_of_ble_eq_true rfl) (Nat.le_of_ble_eq_true rfl) (Nat.le_of_ble_eq_true rfl) (fun v9 w9 h9 => ?_) (fun E9 w9 q9 h9 => h9.elim)
    obtain ⟨rfl, rfl⟩ := h9
    show gd_W X K 1 6 [gd_ob 4 h [.ref c, .ref sp, .ref ru, .ref md, .ref fe, .ref rd, .int wa], gd_ob 0 c [.ref ca, .long (w ||| ((1 : Int64) <<< ((nI j).toInt64 &&& 63)))], gd_aJ K ca 64 (vp_updL f j v)] [(0, .ref h), (1, .int (nI j)), (2, .long v)] [] 13
    exact gd_vret hX hE 13 dd_Ch_put_13 ⟨rfl, j, hj, rfl, rfl⟩
  · skip
    obtain ⟨rfl, rfl, hx⟩ := hx9
    exact gd_out hX hE (by decide) ⟨rfl, rfl, hx⟩
set_option maxRecDepth 100000 in
set_option maxHeartbeats 4000000 in
theorem ct_Ch_get (l : Launch) (K : gd_K) (hl : l.stackTraces = false) (h c sp ru md fe rd : Nat) (wa : Int32) (ca : Nat) (w : Int64) (f : Nat → Int64) (k : Int32) : gd_M l yy_Ch_get bb_Ch_get 2 (some .long) [] 7 94 2 12 K [.ref h, .int k] [gd_ob 4 h [.ref c, .ref sp, .ref ru, .ref md, .ref fe, .ref rd, .int wa], gd_ob 0 c [.ref ca, .long w], gd_aJ K ca 64 f] (fun v9 w1 => ∃ j, j < 64 ∧ k = nI j ∧ ch_bit w j = true ∧ v9 = some (.long (f j)) ∧ w1 = [gd_ob 4 h [.ref c, .ref sp, .ref ru, .ref md, .ref fe, .ref rd, .int wa], gd_ob 0 c [.ref ca, .long w], gd_aJ K ca 64 f]) (fun E w1 => (E = "java/lang/IndexOutOfBoundsException" ∧ w1 = [gd_ob 4 h [.ref c, .ref sp, .ref ru, .ref md, .ref fe, .ref rd, .int wa], gd_ob 0 c [.ref ca, .long w], gd_aJ K ca 64 f] ∧ (k < 0 ∨ 64 ≤ k)) ∨ (E = "java/lang/UnsupportedOperationException" ∧ w1 = [gd_ob 4 h [.ref c, .ref sp, .ref ru, .ref md, .ref fe, .ref rd, .int wa], gd_ob 0 c [.ref ca, .long w], gd_aJ K ca 64 f] ∧ ∃ j, j < 64 ∧ k = nI j ∧ ch_bit w j = false)) := by
  refine gd_body (Nat.le_of_ble_eq_true rfl) (fun X hXl hin hE hX => ?_)
  refine gd_iload_n hX 0 dd_Ch_get_0 rfl ?_
  refine gd_call hX (st := []) (wr := [gd_ob 4 h [.ref c, .ref sp, .ref ru, .ref md, .ref fe, .ref rd, .int wa], gd_ob 0 c [.ref ca, .long w], gd_aJ K ca 64 f]) (ct_Ch_needCell (gx_l X) K (by rw [hXl]; exact hl) k) 1 dd_Ch_get_1 (gd_nS hX (As := [.int k]) kw_180 kw_181 kw_13 (gd_nmOf kw_182) (gd_sigOf (n := 1) kw_182 (by decide)) (by decide) rfl rfl dd_Ch_get_1) (gd_codeOf kw_182) (by decide) [] [0, 1, 2] rfl rfl rfl rfl rfl (by decide) (Nat.le_of_ble_eq_true rfl) (Nat.le_of_ble_eq_true rfl) (Nat.le_of_ble_eq_true rfl) (Nat.le_of_ble_eq_true rfl) (fun v9 w9 h9 => ?_) (fun E9 w9 q9 hx9 => ?_)
  · skip
    obtain ⟨rfl, rfl, j, hj, rfl⟩ := h9
    show gd_W X K 1 6 [gd_ob 4 h [.ref c, .ref sp, .ref ru, .ref md, .ref fe, .ref rd, .int wa], gd_ob 0 c [.ref ca, .long w], gd_aJ K ca 64 f] [(0, .ref h), (1, .int (nI j))] [] 4
    refine gd_aload_n hX 4 dd_Ch_get_4 rfl ?_
    refine gd_get hX inC_Ch 0 0 5 dd_Ch_get_5 rfl rfl (by decide) kw_92 rfl ?_
    refine gd_iload_n hX 8 dd_Ch_get_8 rfl ?_
    refine gd_call hX (st := []) (wr := [gd_ob 4 h [.ref c, .ref sp, .ref ru, .ref md, .ref fe, .ref rd, .int wa], gd_aJ K ca 64 f]) (ct_Cl_isFull _ K c ca j w hj) 9 dd_Ch_get_9 (gd_nV hX (As := [.int (nI j)]) kw_274 kw_123 kw_124 (gd_sigOf (n := 1) kw_125 (by decide)) (by decide) 1 rfl rfl rfl rfl dd_Ch_get_9) (gd_codeOf kw_125) (by decide) [1] [0, 2] rfl rfl rfl rfl rfl (by decide) (Nat.le_of_ble_eq_true rfl) (Nat.le_of_ble_eq_true rfl) (Nat.le_of_ble_eq_true rfl) (Nat.le_of_ble_eq_true rfl) (fun v9 w9 h9 => ?_) (fun E9 w9 q9 h9 => h9.elim)
    obtain ⟨rfl, rfl⟩ := h9
    refine gd_wsp [gd_ob 4 h [.ref c, .ref sp, .ref ru, .ref md, .ref fe, .ref rd, .int wa], gd_ob 0 c [.ref ca, .long w], gd_aJ K ca 64 f] [0, 2, 1] rfl rfl rfl ?_
    show gd_W X K 1 6 [gd_ob 4 h [.ref c, .ref sp, .ref ru, .ref md, .ref fe, .ref rd, .int wa], gd_ob 0 c [.ref ca, .long w], gd_aJ K ca 64 f] [(0, .ref h), (1, .int (nI j))] [.int (if ch_bit w j then 1 else 0)] 12
    refine gd_if_ne hX 12 25 dd_Ch_get_12 (by decide) (fun h2 => ?_) (fun h2 => ?_)
    · skip
      have h3 : ch_bit w j = true := by cases hb : ch_bit w j <;> simp_all
      refine gd_aload_n hX 25 dd_Ch_get_25 rfl ?_
      refine gd_get hX inC_Ch 0 0 26 dd_Ch_get_26 rfl rfl (by decide) kw_92 rfl ?_
      refine gd_iload_n hX 29 dd_Ch_get_29 rfl ?_
      refine gd_call hX (st := []) (wr := [gd_ob 4 h [.ref c, .ref sp, .ref ru, .ref md, .ref fe, .ref rd, .int wa]]) (ct_Cl_number _ K c ca j w f hj) 30 dd_Ch_get_30 (gd_nV hX (As := [.int (nI j)]) kw_291 kw_127 kw_128 (gd_sigOf (n := 1) kw_129 (by decide)) (by decide) 1 rfl rfl rfl rfl dd_Ch_get_30) (gd_codeOf kw_129) (by decide) [1, 2] [0] rfl rfl rfl rfl rfl (by decide) (Nat.le_of_ble_eq_true rfl) (Nat.le_of_ble_eq_true rfl) (Nat.le_of_ble_eq_true rfl) (Nat.le_of_ble_eq_true rfl) (fun v9 w9 h9 => ?_) (fun E9 w9 q9 h9 => h9.elim)
      obtain ⟨rfl, rfl⟩ := h9
      show gd_W X K 1 6 [gd_ob 4 h [.ref c, .ref sp, .ref ru, .ref md, .ref fe, .ref rd, .int wa], gd_ob 0 c [.ref ca, .long w], gd_aJ K ca 64 f] [(0, .ref h), (1, .int (nI j))] [.long (f j)] 33
      refine gd_wide (a := 2) (b := 12) (by decide) (by decide) ?_
      exact gd_lret hX hE 33 dd_Ch_get_33 ⟨j, hj, rfl, h3, rfl, rfl⟩
    · skip
      have h3 : ch_bit w j = false := by cases hb : ch_bit w j <;> simp_all
      exact gd_throw hX hE (by rw [hXl]; exact hl) (is := 65) (text := "the cell is empty") 15 tw_uo (by decide) dd_Ch_get_15 dd_Ch_get_18 dd_Ch_get_19 dd_Ch_get_21 dd_Ch_get_24 (by decide) (Nat.le_of_ble_eq_true rfl) (Nat.le_of_ble_eq_true rfl) (Nat.le_of_ble_eq_true rfl) (Nat.le_of_ble_eq_true rfl) (Nat.le_of_ble_eq_true rfl) (Nat.le_of_ble_eq_true rfl) (Or.inr ⟨rfl, rfl, j, hj, rfl, h3⟩)
  · skip
    obtain ⟨rfl, rfl, hx⟩ := hx9
    refine gd_wideT (a := 2) (b := 12) (by decide) (by decide) ?_
    exact gd_out hX hE (by decide) (Or.inl ⟨rfl, rfl, hx⟩)
set_option maxRecDepth 100000 in
set_option maxHeartbeats 4000000 in
theorem ct_Ch_erase (l : Launch) (K : gd_K) (hl : l.stackTraces = false) (h c sp ru md fe rd : Nat) (wa : Int32) (ca : Nat) (w : Int64) (f : Nat → Int64) (k k2 : Int32) : gd_M l yy_Ch_erase bb_Ch_erase 4 (none) [] 7 94 2 12 K [.ref h, .int k, .int k2] [gd_ob 4 h [.ref c, .ref sp, .ref ru, .ref md, .ref fe, .ref rd, .int wa], gd_ob 0 c [.ref ca, .long w], gd_aJ K ca 64 f] (fun v9 w1 => v9 = none ∧ ∃ a b, a < 64 ∧ b < 64 ∧ k = nI a ∧ k2 = nI b ∧ w1 = [gd_ob 4 h [.ref c, .ref sp, .ref ru, .ref md, .ref fe, .ref rd, .int wa], gd_ob 0 c [.ref ca, .long (ch_er w a (b + 1 - a))], gd_aJ K ca 64 f]) (fun E w1 => E = "java/lang/IndexOutOfBoundsException" ∧ w1 = [gd_ob 4 h [.ref c, .ref sp, .ref ru, .ref md, .ref fe, .ref rd, .int wa], gd_ob 0 c [.ref ca, .long w], gd_aJ K ca 64 f] ∧ ((k < 0 ∨ 64 ≤ k) ∨ (k2 < 0 ∨ 64 ≤ k2))) := by
  refine gd_body (Nat.le_of_ble_eq_true rfl) (fun X hXl hin hE hX => ?_)
  refine gd_iload_n hX 0 dd_Ch_erase_0 rfl ?_
  refine gd_call hX (st := []) (wr := [gd_ob 4 h [.ref c, .ref sp, .ref ru, .ref md, .ref fe, .ref rd, .int wa], gd_ob 0 c [.ref ca, .long w], gd_aJ K ca 64 f]) (ct_Ch_needCell (gx_l X) K (by rw [hXl]; exact hl) k) 1 dd_Ch_erase_1 (gd_nS hX (As := [.int k]) kw_180 kw_181 kw_13 (gd_nmOf kw_182) (gd_sigOf (n := 1) kw_182 (by decide)) (by decide) rfl rfl dd_Ch_erase_1) (gd_codeOf kw_182) (by decide) [] [0, 1, 2] rfl rfl rfl rfl rfl (by decide) (Nat.le_of_ble_eq_true rfl) (Nat.le_of_ble_eq_true rfl) (Nat.le_of_ble_eq_true rfl) (Nat.le_of_ble_eq_true rfl) (fun v9 w9 h9 => ?_) (fun E9 w9 q9 hx9 => ?_)
  · skip
    obtain ⟨rfl, rfl, a, ha, rfl⟩ := h9
    show gd_W X K 1 6 [gd_ob 4 h [.ref c, .ref sp, .ref ru, .ref md, .ref fe, .ref rd, .int wa], gd_ob 0 c [.ref ca, .long w], gd_aJ K ca 64 f] [(0, .ref h), (1, .int (nI a)), (2, .int k2)] [] 4
    refine gd_iload_n hX 4 dd_Ch_erase_4 rfl ?_
    refine gd_call hX (st := []) (wr := [gd_ob 4 h [.ref c, .ref sp, .ref ru, .ref md, .ref fe, .ref rd, .int wa], gd_ob 0 c [.ref ca, .long w], gd_aJ K ca 64 f]) (ct_Ch_needCell (gx_l X) K (by rw [hXl]; exact hl) k2) 5 dd_Ch_erase_5 (gd_nS hX (As := [.int k2]) kw_180 kw_181 kw_13 (gd_nmOf kw_182) (gd_sigOf (n := 1) kw_182 (by decide)) (by decide) rfl rfl dd_Ch_erase_5) (gd_codeOf kw_182) (by decide) [] [0, 1, 2] rfl rfl rfl rfl rfl (by decide) (Nat.le_of_ble_eq_true rfl) (Nat.le_of_ble_eq_true rfl) (Nat.le_of_ble_eq_true rfl) (Nat.le_of_ble_eq_true rfl) (fun v9 w9 h9 => ?_) (fun E9 w9 q9 hx9 => ?_)
    · skip
      obtain ⟨rfl, rfl, b, hb, rfl⟩ := h9
      show gd_W X K 2 12 [gd_ob 4 h [.ref c, .ref sp, .ref ru, .ref md, .ref fe, .ref rd, .int wa], gd_ob 0 c [.ref ca, .long w], gd_aJ K ca 64 f] [(0, .ref h), (1, .int (nI a)), (2, .int (nI b))] [] 8
      have loop : ∀ (m n : Nat), m + (a + n) = max a (b + 1) → gd_W X K 2 12 [gd_ob 4 h [.ref c, .ref sp, .ref ru, .ref md, .ref fe, .ref rd, .int wa], gd_ob 0 c [.ref ca, .long (ch_er w a n)], gd_aJ K ca 64 f] [(0, .ref h), (1, .int (nI a)), (2, .int (nI b)), (3, .int (nI (a + n)))] [] 10 := by
        intro m
        induction m with
        | zero =>
          intro n hn
          refine gd_iload_n hX 10 dd_Ch_erase_10 rfl ?_
          refine gd_iload_n hX 11 dd_Ch_erase_11 rfl ?_
          refine gd_icmp_gt hX 12 29 dd_Ch_erase_12 (by decide) (fun h1 => ?_) (fun h1 => ?_)
          · skip
            have e9 : b + 1 - a = n := by omega
            exact gd_vret hX hE 29 dd_Ch_erase_29 ⟨rfl, a, b, ha, hb, rfl, rfl, by rw [e9]⟩
          · skip
            exact absurd ((nI_ltI (by omega) (by omega)).mpr (by omega)) h1
        | succ m ih =>
          intro n hn
          refine gd_iload_n hX 10 dd_Ch_erase_10 rfl ?_
          refine gd_iload_n hX 11 dd_Ch_erase_11 rfl ?_
          refine gd_icmp_gt hX 12 29 dd_Ch_erase_12 (by decide) (fun h1 => ?_) (fun h1 => ?_)
          · skip
            exact absurd ((nI_ltI (by omega) (by omega)).mp h1) (by omega)
          · skip
            refine gd_aload_n hX 15 dd_Ch_erase_15 rfl ?_
            refine gd_get hX inC_Ch 0 0 16 dd_Ch_erase_16 rfl rfl (by decide) kw_92 rfl ?_
            refine gd_iload_n hX 19 dd_Ch_erase_19 rfl ?_
            refine gd_call hX (st := []) (wr := [gd_ob 4 h [.ref c, .ref sp, .ref ru, .ref md, .ref fe, .ref rd, .int wa], gd_aJ K ca 64 f]) (ct_Cl_clear _ K c ca (a + n) (ch_er w a n)) 20 dd_Ch_erase_20 (gd_nV hX (As := [.int (nI (a + n))]) kw_261 kw_262 kw_263 (gd_sigOf (n := 1) kw_264 (by decide)) (by decide) 1 rfl rfl rfl rfl dd_Ch_erase_20) (gd_codeOf kw_264) (by decide) [1] [0, 2] rfl rfl rfl rfl rfl (by decide) (Nat.le_of_ble_eq_true rfl) (Nat.le_of_ble_eq_true rfl) (Nat.le_of_ble_eq_true rfl) (Nat.le_of_ble_eq_true rfl) (fun v9 w9 h9 => ?_) (fun E9 w9 q9 h9 => h9.elim)
            obtain ⟨rfl, rfl⟩ := h9
            refine gd_wsp [gd_ob 4 h [.ref c, .ref sp, .ref ru, .ref md, .ref fe, .ref rd, .int wa], gd_ob 0 c [.ref ca, .long (ch_er w a (n + 1))], gd_aJ K ca 64 f] [0, 2, 1] rfl rfl rfl ?_
            show gd_W X K 2 12 [gd_ob 4 h [.ref c, .ref sp, .ref ru, .ref md, .ref fe, .ref rd, .int wa], gd_ob 0 c [.ref ca, .long (ch_er w a (n + 1))], gd_aJ K ca 64 f] [(0, .ref h), (1, .int (nI a)), (2, .int (nI b)), (3, .int (nI (a + n)))] [] 23
            refine gd_iinc hX 3 [(3, .int (nI ((a + n) + 1))), (0, .ref h), (1, .int (nI a)), (2, .int (nI b))] 23 dd_Ch_erase_23 rfl (gd_inc (a + n)) (by decide) rfl ?_
            refine gd_goto hX 26 10 dd_Ch_erase_26 (by decide) ?_
            show gd_W X K 2 12 [gd_ob 4 h [.ref c, .ref sp, .ref ru, .ref md, .ref fe, .ref rd, .int wa], gd_ob 0 c [.ref ca, .long (ch_er w a (n + 1))], gd_aJ K ca 64 f] [(3, .int (nI ((a + n) + 1))), (0, .ref h), (1, .int (nI a)), (2, .int (nI b))] [] 10
            refine gd_lvs [(0, .ref h), (1, .int (nI a)), (2, .int (nI b)), (3, .int (nI ((a + n) + 1)))] [1, 2, 3, 0] rfl ?_
            exact ih (n + 1) (by omega)
      refine gd_iload_n hX 8 dd_Ch_erase_8 rfl ?_
      refine gd_eqi (show (nI a : Int32) = nI (a + 0) from rfl) ?_
      refine gd_istore_n hX [(3, .int (nI (a + 0))), (0, .ref h), (1, .int (nI a)), (2, .int (nI b))] 9 dd_Ch_erase_9 rfl (by decide) rfl ?_
      refine gd_lvs [(0, .ref h), (1, .int (nI a)), (2, .int (nI b)), (3, .int (nI (a + 0)))] [1, 2, 3, 0] rfl ?_
      exact loop (max a (b + 1) - a) 0 (by omega)
    · skip
      obtain ⟨rfl, rfl, hx⟩ := hx9
      exact gd_out hX hE (by decide) ⟨rfl, rfl, Or.inr hx⟩
  · skip
    obtain ⟨rfl, rfl, hx⟩ := hx9
    refine gd_wideT (a := 2) (b := 12) (by decide) (by decide) ?_
    exact gd_out hX hE (by decide) ⟨rfl, rfl, Or.inl hx⟩
set_option maxRecDepth 100000 in
set_option maxHeartbeats 4000000 in
theorem ct_Ch_sum (l : Launch) (K : gd_K) (hl : l.stackTraces = false) (h c sp ru md fe rd : Nat) (wa : Int32) (ca : Nat) (w : Int64) (f : Nat → Int64) (k k2 : Int32) : gd_M l yy_Ch_sum bb_Ch_sum 6 (some .long) [] 7 94 2 12 K [.ref h, .int k, .int k2] [gd_ob 4 h [.ref c, .ref sp, .ref ru, .ref md, .ref fe, .ref rd, .int wa], gd_ob 0 c [.ref ca, .long w], gd_aJ K ca 64 f] (fun v9 w1 => ∃ a b, a < 64 ∧ b < 64 ∧ k = nI a ∧ k2 = nI b ∧ v9 = some (.long (ch_su w f a (b + 1 - a))) ∧ w1 = [gd_ob 4 h [.ref c, .ref sp, .ref ru, .ref md, .ref fe, .ref rd, .int wa], gd_ob 0 c [.ref ca, .long w], gd_aJ K ca 64 f]) (fun E w1 => E = "java/lang/IndexOutOfBoundsException" ∧ w1 = [gd_ob 4 h [.ref c, .ref sp, .ref ru, .ref md, .ref fe, .ref rd, .int wa], gd_ob 0 c [.ref ca, .long w], gd_aJ K ca 64 f] ∧ ((k < 0 ∨ 64 ≤ k) ∨ (k2 < 0 ∨ 64 ≤ k2))) := by
  refine gd_body (Nat.le_of_ble_eq_true rfl) (fun X hXl hin hE hX => ?_)
  refine gd_iload_n hX 0 dd_Ch_sum_0 rfl ?_
  refine gd_call hX (st := []) (wr := [gd_ob 4 h [.ref c, .ref sp, .ref ru, .ref md, .ref fe, .ref rd, .int wa], gd_ob 0 c [.ref ca, .long w], gd_aJ K ca 64 f]) (ct_Ch_needCell (gx_l X) K (by rw [hXl]; exact hl) k) 1 dd_Ch_sum_1 (gd_nS hX (As := [.int k]) kw_180 kw_181 kw_13 (gd_nmOf kw_182) (gd_sigOf (n := 1) kw_182 (by decide)) (by decide) rfl rfl dd_Ch_sum_1) (gd_codeOf kw_182) (by decide) [] [0, 1, 2] rfl rfl rfl rfl rfl (by decide) (Nat.le_of_ble_eq_true rfl) (Nat.le_of_ble_eq_true rfl) (Nat.le_of_ble_eq_true rfl) (Nat.le_of_ble_eq_true rfl) (fun v9 w9 h9 => ?_) (fun E9 w9 q9 hx9 => ?_)
  · skip
    obtain ⟨rfl, rfl, a, ha, rfl⟩ := h9
    show gd_W X K 1 6 [gd_ob 4 h [.ref c, .ref sp, .ref ru, .ref md, .ref fe, .ref rd, .int wa], gd_ob 0 c [.ref ca, .long w], gd_aJ K ca 64 f] [(0, .ref h), (1, .int (nI a)), (2, .int k2)] [] 4
    refine gd_iload_n hX 4 dd_Ch_sum_4 rfl ?_
    refine gd_call hX (st := []) (wr := [gd_ob 4 h [.ref c, .ref sp, .ref ru, .ref md, .ref fe, .ref rd, .int wa], gd_ob 0 c [.ref ca, .long w], gd_aJ K ca 64 f]) (ct_Ch_needCell (gx_l X) K (by rw [hXl]; exact hl) k2) 5 dd_Ch_sum_5 (gd_nS hX (As := [.int k2]) kw_180 kw_181 kw_13 (gd_nmOf kw_182) (gd_sigOf (n := 1) kw_182 (by decide)) (by decide) rfl rfl dd_Ch_sum_5) (gd_codeOf kw_182) (by decide) [] [0, 1, 2] rfl rfl rfl rfl rfl (by decide) (Nat.le_of_ble_eq_true rfl) (Nat.le_of_ble_eq_true rfl) (Nat.le_of_ble_eq_true rfl) (Nat.le_of_ble_eq_true rfl) (fun v9 w9 h9 => ?_) (fun E9 w9 q9 hx9 => ?_)
    · skip
      obtain ⟨rfl, rfl, b, hb, rfl⟩ := h9
      show gd_W X K 2 12 [gd_ob 4 h [.ref c, .ref sp, .ref ru, .ref md, .ref fe, .ref rd, .int wa], gd_ob 0 c [.ref ca, .long w], gd_aJ K ca 64 f] [(0, .ref h), (1, .int (nI a)), (2, .int (nI b))] [] 8
      have loop : ∀ (m n : Nat), m + (a + n) = max a (b + 1) → gd_W X K 2 12 [gd_ob 4 h [.ref c, .ref sp, .ref ru, .ref md, .ref fe, .ref rd, .int wa], gd_ob 0 c [.ref ca, .long w], gd_aJ K ca 64 f] [(0, .ref h), (1, .int (nI a)), (2, .int (nI b)), (3, .long (ch_su w f a n)), (5, .int (nI (a + n)))] [] 13 := by
        intro m
        induction m with
        | zero =>
          intro n hn
          refine gd_iload hX 13 dd_Ch_sum_13 rfl ?_
          refine gd_iload_n hX 15 dd_Ch_sum_15 rfl ?_
          refine gd_icmp_gt hX 16 49 dd_Ch_sum_16 (by decide) (fun h1 => ?_) (fun h1 => ?_)
          · skip
            have e9 : b + 1 - a = n := by omega
            refine gd_lload_n hX 49 dd_Ch_sum_49 rfl ?_
            exact gd_lret hX hE 50 dd_Ch_sum_50 ⟨a, b, ha, hb, rfl, rfl, by rw [e9], rfl⟩
          · skip
            exact absurd ((nI_ltI (by omega) (by omega)).mpr (by omega)) h1
        | succ m ih =>
          intro n hn
          refine gd_iload hX 13 dd_Ch_sum_13 rfl ?_
          refine gd_iload_n hX 15 dd_Ch_sum_15 rfl ?_
          refine gd_icmp_gt hX 16 49 dd_Ch_sum_16 (by decide) (fun h1 => ?_) (fun h1 => ?_)
          · skip
            exact absurd ((nI_ltI (by omega) (by omega)).mp h1) (by omega)
          · skip
            refine gd_aload_n hX 19 dd_Ch_sum_19 rfl ?_
            refine gd_get hX inC_Ch 0 0 20 dd_Ch_sum_20 rfl rfl (by decide) kw_92 rfl ?_
            refine gd_iload hX 23 dd_Ch_sum_23 rfl ?_
            refine gd_call hX (st := []) (wr := [gd_ob 4 h [.ref c, .ref sp, .ref ru, .ref md, .ref fe, .ref rd, .int wa], gd_aJ K ca 64 f]) (ct_Cl_isFull _ K c ca (a + n) w (by omega)) 25 dd_Ch_sum_25 (gd_nV hX (As := [.int (nI (a + n))]) kw_274 kw_123 kw_124 (gd_sigOf (n := 1) kw_125 (by decide)) (by decide) 1 rfl rfl rfl rfl dd_Ch_sum_25) (gd_codeOf kw_125) (by decide) [1] [0, 2] rfl rfl rfl rfl rfl (by decide) (Nat.le_of_ble_eq_true rfl) (Nat.le_of_ble_eq_true rfl) (Nat.le_of_ble_eq_true rfl) (Nat.le_of_ble_eq_true rfl) (fun v9 w9 h9 => ?_) (fun E9 w9 q9 h9 => h9.elim)
            obtain ⟨rfl, rfl⟩ := h9
            refine gd_wsp [gd_ob 4 h [.ref c, .ref sp, .ref ru, .ref md, .ref fe, .ref rd, .int wa], gd_ob 0 c [.ref ca, .long w], gd_aJ K ca 64 f] [0, 2, 1] rfl rfl rfl ?_
            show gd_W X K 2 12 [gd_ob 4 h [.ref c, .ref sp, .ref ru, .ref md, .ref fe, .ref rd, .int wa], gd_ob 0 c [.ref ca, .long w], gd_aJ K ca 64 f] [(0, .ref h), (1, .int (nI a)), (2, .int (nI b)), (3, .long (ch_su w f a n)), (5, .int (nI (a + n)))] [.int (if ch_bit w (a + n) then 1 else 0)] 28
            refine gd_if_eq hX 28 43 dd_Ch_sum_28 (by decide) (fun h2 => ?_) (fun h2 => ?_)
            · skip
              have h3 : ch_bit w (a + n) = false := by cases hb : ch_bit w (a + n) <;> simp_all
              have h4 : ch_su w f a (n + 1) = ch_su w f a n := by show (if ch_bit w (a + n) = true then _ else _) = _; rw [h3]; rfl
              refine gd_iinc hX 4 [(5, .int (nI ((a + n) + 1))), (0, .ref h), (1, .int (nI a)), (2, .int (nI b)), (3, .long (ch_su w f a n))] 43 dd_Ch_sum_43 rfl (gd_inc (a + n)) (by decide) rfl ?_
              refine gd_goto hX 46 13 dd_Ch_sum_46 (by decide) ?_
              show gd_W X K 2 12 [gd_ob 4 h [.ref c, .ref sp, .ref ru, .ref md, .ref fe, .ref rd, .int wa], gd_ob 0 c [.ref ca, .long w], gd_aJ K ca 64 f] [(5, .int (nI ((a + n) + 1))), (0, .ref h), (1, .int (nI a)), (2, .int (nI b)), (3, .long (ch_su w f a n))] [] 13
              refine gd_lvs [(0, .ref h), (1, .int (nI a)), (2, .int (nI b)), (3, .long (ch_su w f a n)), (5, .int (nI ((a + n) + 1)))] [1, 2, 3, 4, 0] rfl ?_
              rw [← h4]
              exact ih (n + 1) (by omega)
            · skip
              have h3 : ch_bit w (a + n) = true := by cases hb : ch_bit w (a + n) <;> simp_all
              have h4 : ch_su w f a (n + 1) = ch_su w f a n + f (a + n) := by show (if ch_bit w (a + n) = true then _ else _) = _; rw [h3]; rfl
              refine gd_lload_n hX 31 dd_Ch_sum_31 rfl ?_
              refine gd_aload_n hX 32 dd_Ch_sum_32 rfl ?_
              refine gd_get hX inC_Ch 0 0 33 dd_Ch_sum_33 rfl rfl (by decide) kw_92 rfl ?_
              refine gd_iload hX 36 dd_Ch_sum_36 rfl ?_
              refine gd_call hX (st := [.long (ch_su w f a n)]) (wr := [gd_ob 4 h [.ref c, .ref sp, .ref ru, .ref md, .ref fe, .ref rd, .int wa]]) (ct_Cl_number _ K c ca (a + n) w f (by omega)) 38 dd_Ch_sum_38 (gd_nV hX (As := [.int (nI (a + n))]) kw_291 kw_127 kw_128 (gd_sigOf (n := 1) kw_129 (by decide)) (by decide) 1 rfl rfl rfl rfl dd_Ch_sum_38) (gd_codeOf kw_129) (by decide) [1, 2] [0] rfl rfl rfl rfl rfl (by decide) (Nat.le_of_ble_eq_true rfl) (Nat.le_of_ble_eq_true rfl) (Nat.le_of_ble_eq_true rfl) (Nat.le_of_ble_eq_true rfl) (fun v9 w9 h9 => ?_) (fun E9 w9 q9 h9 => h9.elim)
              obtain ⟨rfl, rfl⟩ := h9
              show gd_W X K 2 12 [gd_ob 4 h [.ref c, .ref sp, .ref ru, .ref md, .ref fe, .ref rd, .int wa], gd_ob 0 c [.ref ca, .long w], gd_aJ K ca 64 f] [(0, .ref h), (1, .int (nI a)), (2, .int (nI b)), (3, .long (ch_su w f a n)), (5, .int (nI (a + n)))] [.long (f (a + n)), .long (ch_su w f a n)] 41
              refine gd_ladd hX 41 dd_Ch_sum_41 ?_
              refine gd_eql (show ((ch_su w f a n) + (f (a + n)) : Int64) = ch_su w f a (n + 1) from h4.symm) ?_
              refine gd_lstore_n hX [(3, .long (ch_su w f a (n + 1))), (0, .ref h), (1, .int (nI a)), (2, .int (nI b)), (5, .int (nI (a + n)))] 42 dd_Ch_sum_42 rfl (by decide) rfl ?_
              refine gd_iinc hX 4 [(5, .int (nI ((a + n) + 1))), (3, .long (ch_su w f a (n + 1))), (0, .ref h), (1, .int (nI a)), (2, .int (nI b))] 43 dd_Ch_sum_43 rfl (gd_inc (a + n)) (by decide) rfl ?_
              refine gd_goto hX 46 13 dd_Ch_sum_46 (by decide) ?_
              show gd_W X K 2 12 [gd_ob 4 h [.ref c, .ref sp, .ref ru, .ref md, .ref fe, .ref rd, .int wa], gd_ob 0 c [.ref ca, .long w], gd_aJ K ca 64 f] [(5, .int (nI ((a + n) + 1))), (3, .long (ch_su w f a (n + 1))), (0, .ref h), (1, .int (nI a)), (2, .int (nI b))] [] 13
              refine gd_lvs [(0, .ref h), (1, .int (nI a)), (2, .int (nI b)), (3, .long (ch_su w f a (n + 1))), (5, .int (nI ((a + n) + 1)))] [2, 3, 4, 1, 0] rfl ?_
              exact ih (n + 1) (by omega)
      refine gd_lconst hX 8 dd_Ch_sum_8 (v := 0) (by decide) ?_
      refine gd_eql (show (0 : Int64) = ch_su w f a 0 from rfl) ?_
      refine gd_lstore_n hX [(3, .long (ch_su w f a 0)), (0, .ref h), (1, .int (nI a)), (2, .int (nI b))] 9 dd_Ch_sum_9 rfl (by decide) rfl ?_
      refine gd_iload_n hX 10 dd_Ch_sum_10 rfl ?_
      refine gd_eqi (show (nI a : Int32) = nI (a + 0) from rfl) ?_
      refine gd_istore hX [(5, .int (nI (a + 0))), (3, .long (ch_su w f a 0)), (0, .ref h), (1, .int (nI a)), (2, .int (nI b))] 11 dd_Ch_sum_11 (by decide) rfl ?_
      refine gd_lvs [(0, .ref h), (1, .int (nI a)), (2, .int (nI b)), (3, .long (ch_su w f a 0)), (5, .int (nI (a + 0)))] [2, 3, 4, 1, 0] rfl ?_
      exact loop (max a (b + 1) - a) 0 (by omega)
    · skip
      obtain ⟨rfl, rfl, hx⟩ := hx9
      exact gd_out hX hE (by decide) ⟨rfl, rfl, Or.inr hx⟩
  · skip
    obtain ⟨rfl, rfl, hx⟩ := hx9
    refine gd_wideT (a := 2) (b := 12) (by decide) (by decide) ?_
    exact gd_out hX hE (by decide) ⟨rfl, rfl, Or.inl hx⟩
set_option maxRecDepth 100000 in
set_option maxHeartbeats 4000000 in
theorem ct_Ch_wrong (l : Launch) (K : gd_K) (h c sp ru md fe rd : Nat) (wa : Int32) : gd_M l yy_Ch_wrong bb_Ch_wrong 1 (some .int) [] 0 0 0 0 K [.ref h] [gd_ob 4 h [.ref c, .ref sp, .ref ru, .ref md, .ref fe, .ref rd, .int wa]] (fun v w1 => v = some (.int wa) ∧ w1 = [gd_ob 4 h [.ref c, .ref sp, .ref ru, .ref md, .ref fe, .ref rd, .int wa]]) (fun _ _ => False) := by
  refine gd_body (Nat.le_of_ble_eq_true rfl) (fun X hXl hin hE hX => ?_)
  refine gd_aload_n hX 0 dd_Ch_wrong_0 rfl ?_
  refine gd_get hX inC_Ch 0 6 1 dd_Ch_wrong_1 rfl rfl (by decide) kw_98 rfl ?_
  exact gd_iret hX hE 4 dd_Ch_wrong_4 ⟨rfl, rfl⟩
