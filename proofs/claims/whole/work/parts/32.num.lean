set_option maxRecDepth 100000 in
set_option maxHeartbeats 4000000 in
theorem ct_Ch_numberOctets (l : Launch) (K : gd_K) (x : Int64) : gd_M l yy_Ch_numberOctets bb_Ch_numberOctets 4 (some .int) [] 0 0 0 0 K [.long x] [] (fun v w1 => v = some (.int (nI (ch_num 9 (uN x)).length)) ∧ w1 = []) (fun _ _ => False) := by
  refine gd_body (Nat.le_of_ble_eq_true rfl) (fun X hXl hin hE hX => ?_)
  have loop : ∀ (m j : Nat), m + j = 9 → gd_W X K 0 0 [] [(0, .long x), (2, .int (nI (ch_cnt (uN x) j))), (3, .int (nI (7 * (j + 1))))] [] 5 := by
    intro m
    induction m with
    | zero =>
      intro j hj
      obtain rfl : j = 9 := by omega
      refine gd_iload_n hX 5 dd_Ch_numberOctets_5 rfl ?_
      refine gd_bipush hX 6 dd_Ch_numberOctets_6 (v := 63) (by decide) ?_
      refine gd_icmp_gt hX 8 28 dd_Ch_numberOctets_8 (by decide) (fun h1 => ?_) (fun h1 => ?_)
      · skip
        refine gd_iload_n hX 28 dd_Ch_numberOctets_28 rfl ?_
        exact gd_iret hX hE 29 dd_Ch_numberOctets_29 ⟨by rw [ch_num_len], rfl⟩
      · skip
        exact absurd (by decide) h1
    | succ m ih =>
      intro j hj
      refine gd_iload_n hX 5 dd_Ch_numberOctets_5 rfl ?_
      refine gd_bipush hX 6 dd_Ch_numberOctets_6 (v := 63) (by decide) ?_
      refine gd_icmp_gt hX 8 28 dd_Ch_numberOctets_8 (by decide) (fun h1 => ?_) (fun h1 => ?_)
      · skip
        exact absurd ((nI_ltI (a := 63) (by decide) (by omega)).mp h1) (by omega)
      · skip
        refine gd_lload_n hX 11 dd_Ch_numberOctets_11 rfl ?_
        refine gd_iload_n hX 12 dd_Ch_numberOctets_12 rfl ?_
        refine gd_lushr hX 13 dd_Ch_numberOctets_13 ?_
        refine gd_lconst hX 14 dd_Ch_numberOctets_14 (v := 0) (by decide) ?_
        refine gd_lcmp hX 15 dd_Ch_numberOctets_15 ?_
        refine gd_if_eq hX 16 22 dd_Ch_numberOctets_16 (by decide) (fun h2 => ?_) (fun h2 => ?_)
        · skip
          have h3 := (ch_sh0 x (by omega)).mp (ch_cmp0.mp h2)
          rw [ch_pow7] at h3
          have h5 : ch_cnt (uN x) (j + 1) = ch_cnt (uN x) j := by rw [ch_cnt_step, if_pos h3]; rfl
          refine gd_iinc hX 2 [(3, .int (nI (7 * (j + 1 + 1)))), (0, .long x), (2, .int (nI (ch_cnt (uN x) j)))] 22 dd_Ch_numberOctets_22 rfl (by rw [show 7 * (j + 1 + 1) = 7 * (j + 1) + 7 by omega, ← nI_add]; rfl) (by decide) rfl ?_
          refine gd_goto hX 25 5 dd_Ch_numberOctets_25 (by decide) ?_
          refine gd_lvs [(0, .long x), (2, .int (nI (ch_cnt (uN x) j))), (3, .int (nI (7 * (j + 1 + 1))))] [1, 2, 0] rfl ?_
          rw [← h5]
          exact ih (j + 1) (by omega)
        · skip
          have h3 : ¬ uN x / 128 ^ (j + 1) = 0 := fun q => h2 (ch_cmp0.mpr ((ch_sh0 x (by omega)).mpr (by rw [ch_pow7]; exact q)))
          have h5 : ch_cnt (uN x) (j + 1) = ch_cnt (uN x) j + 1 := by rw [ch_cnt_step, if_neg h3]
          refine gd_iinc hX 1 [(2, .int (nI ((ch_cnt (uN x) j) + 1))), (0, .long x), (3, .int (nI (7 * (j + 1))))] 19 dd_Ch_numberOctets_19 rfl (gd_inc (ch_cnt (uN x) j)) (by decide) rfl ?_
          refine gd_iinc hX 2 [(3, .int (nI (7 * (j + 1 + 1)))), (2, .int (nI ((ch_cnt (uN x) j) + 1))), (0, .long x)] 22 dd_Ch_numberOctets_22 rfl (by rw [show 7 * (j + 1 + 1) = 7 * (j + 1) + 7 by omega, ← nI_add]; rfl) (by decide) rfl ?_
          refine gd_goto hX 25 5 dd_Ch_numberOctets_25 (by decide) ?_
          refine gd_lvs [(0, .long x), (2, .int (nI ((ch_cnt (uN x) j) + 1))), (3, .int (nI (7 * (j + 1 + 1))))] [2, 1, 0] rfl ?_
          rw [← h5]
          exact ih (j + 1) (by omega)
  refine gd_iconst hX 0 dd_Ch_numberOctets_0 (v := 1) (by decide) ?_
  refine gd_eqi (show (1 : Int32) = nI (ch_cnt (uN x) 0) from rfl) ?_
  refine gd_istore_n hX [(2, .int (nI (ch_cnt (uN x) 0))), (0, .long x)] 1 dd_Ch_numberOctets_1 rfl (by decide) rfl ?_
  refine gd_bipush hX 2 dd_Ch_numberOctets_2 (v := 7) (by decide) ?_
  refine gd_eqi (show (7 : Int32) = nI (7 * (0 + 1)) from rfl) ?_
  refine gd_istore_n hX [(3, .int (nI (7 * (0 + 1)))), (2, .int (nI (ch_cnt (uN x) 0))), (0, .long x)] 4 dd_Ch_numberOctets_4 rfl (by decide) rfl ?_
  refine gd_lvs [(0, .long x), (2, .int (nI (ch_cnt (uN x) 0))), (3, .int (nI (7 * (0 + 1))))] [2, 1, 0] rfl ?_
  exact loop 9 0 rfl
set_option maxRecDepth 100000 in
set_option maxHeartbeats 4000000 in
theorem ct_Ch_addNumber (l : Launch) (K : gd_K) (h r rom : Nat) (f : Nat → Int32) (L : List Nat) (x : Int64) (hroom : L.length + (ch_num 9 (uN x)).length ≤ rom) (hrom : rom < 2 ^ 31) (hB : ch_B f L) : gd_M l yy_Ch_addNumber bb_Ch_addNumber 5 (none) [] 1 15 0 0 K [.ref h, .long x] [gd_ob 1 h [.ref r, .int (nI L.length)], gd_aB K r rom f] (fun v w1 => v = none ∧ ∃ f', w1 = [gd_ob 1 h [.ref r, .int (nI (L ++ ch_num 9 (uN x)).length)], gd_aB K r rom f'] ∧ ch_B f' (L ++ ch_num 9 (uN x))) (fun _ _ => False) := by
  refine gd_body (Nat.le_of_ble_eq_true rfl) (fun X hXl hin hE hX => ?_)
  obtain ⟨N, hN⟩ : ∃ N, N = ch_num 9 (uN x) := ⟨_, rfl⟩
  rw [← hN] at hroom
  have hn0 : 0 < N.length := by rw [hN]; exact ch_num_pos _ _
  have hn1 : N.length ≤ 10 := by rw [hN]; exact ch_num_le _
  have loop : ∀ (m i : Nat) (f : Nat → Int32), m + i = N.length - 1 → ch_B f (L ++ N.take i) → gd_W X K 0 0 [gd_ob 1 h [.ref r, .int (nI (L ++ N.take i).length)], gd_aB K r rom f] [(0, .ref h), (1, .long x), (3, .int (nI (N.length - 1))), (4, .int (nI i))] [] 10 := by
    intro m
    induction m with
    | zero =>
      intro i f hi hB
      obtain rfl : i = N.length - 1 := by omega
      have hle : (L ++ N.take (N.length - 1)).length + 1 = L.length + N.length := by rw [List.length_append, List.length_take]; omega
      refine gd_iload hX 10 dd_Ch_addNumber_10 rfl ?_
      refine gd_iload_n hX 12 dd_Ch_addNumber_12 rfl ?_
      refine gd_icmp_ge hX 13 38 dd_Ch_addNumber_13 (by decide) (fun h1 => ?_) (fun h1 => ?_)
      · skip
        refine gd_aload_n hX 38 dd_Ch_addNumber_38 rfl ?_
        refine gd_lload_n hX 39 dd_Ch_addNumber_39 rfl ?_
        refine gd_bipush hX 40 dd_Ch_addNumber_40 (v := 7) (by decide) ?_
        refine gd_iload_n hX 42 dd_Ch_addNumber_42 rfl ?_
        refine gd_imul hX 43 dd_Ch_addNumber_43 ?_
        refine gd_eqi (show (7 * (nI (N.length - 1)) : Int32) = nI (7 * (N.length - 1)) from pk_mul 7 _) ?_
        refine gd_lushr hX 44 dd_Ch_addNumber_44 ?_
        refine gd_l2i hX 45 dd_Ch_addNumber_45 ?_
        have hx : ((x.toUInt64 >>> ((nI (7 * (N.length - 1))).toInt64.toUInt64 &&& Int64.toUInt64 63)).toInt64).toInt32 &&& 255 = nI (N.getD (N.length - 1) 0) := by
          have e1 := ch_num_end 9 (uN x) (N.length - 1) (by rw [← hN]; omega)
          have e2 : uN x / 128 ^ (N.length - 1) < 256 := by
            have e3 := ch_num_lt 9 (uN x) (N.length - 1) (by rw [← hN]; omega) (Nat.lt_of_lt_of_le (uN_lt x) (by decide))
            exact e3
          rw [← hN] at e1
          rw [ch_low, uN_sk x (by omega), ch_pow7, e1, Nat.mod_eq_of_lt e2]
        refine gd_call hX (st := []) (wr := []) (ct_Oc_add _ K h r rom f (L ++ N.take (N.length - 1)) _ (N.getD (N.length - 1) 0) (by omega) hrom hB hx) 46 dd_Ch_addNumber_46 (gd_nV hX (As := [.int (((x.toUInt64 >>> ((nI (7 * (N.length - 1))).toInt64.toUInt64 &&& Int64.toUInt64 63)).toInt64).toInt32)]) kw_142 kw_143 kw_144 (gd_sigOf (n := 1) kw_145 (by decide)) (by decide) 0 rfl rfl rfl rfl dd_Ch_addNumber_46) (gd_codeOf kw_145) (by decide) [0, 1] [] rfl rfl rfl rfl rfl (by decide) (Nat.le_of_ble_eq_true rfl) (Nat.le_of_ble_eq_true rfl) (Nat.le_of_ble_eq_true rfl) (Nat.le_of_ble_eq_true rfl) (fun v9 w9 h9 => ?_) (fun E9 w9 q9 h9 => h9.elim)
        obtain ⟨rfl, f', rfl, hB2⟩ := h9
        show gd_W X K 0 0 [gd_ob 1 h [.ref r, .int (nI ((L ++ N.take (N.length - 1)) ++ [N.getD (N.length - 1) 0]).length)], gd_aB K r rom f'] [(0, .ref h), (1, .long x), (3, .int (nI (N.length - 1))), (4, .int (nI (N.length - 1)))] [] 49
        have e5 : (L ++ N.take (N.length - 1)) ++ [N.getD (N.length - 1) 0] = L ++ ch_num 9 (uN x) := by
          rw [List.append_assoc, ← ch_take_step (by omega), ch_take_all (by omega), hN]
        rw [e5] at hB2 ⊢
        exact gd_vret hX hE 49 dd_Ch_addNumber_49 ⟨rfl, f', rfl, hB2⟩
      · skip
        exact absurd (Int32.le_refl _) h1
    | succ m ih =>
      intro i f hi hB
      have hle : (L ++ N.take i).length = L.length + i := by rw [List.length_append, List.length_take]; omega
      refine gd_iload hX 10 dd_Ch_addNumber_10 rfl ?_
      refine gd_iload_n hX 12 dd_Ch_addNumber_12 rfl ?_
      refine gd_icmp_ge hX 13 38 dd_Ch_addNumber_13 (by decide) (fun h1 => ?_) (fun h1 => ?_)
      · skip
        exact absurd ((nI_leI (by omega) (by omega)).mp h1) (by omega)
      · skip
        refine gd_aload_n hX 16 dd_Ch_addNumber_16 rfl ?_
        refine gd_lload_n hX 17 dd_Ch_addNumber_17 rfl ?_
        refine gd_bipush hX 18 dd_Ch_addNumber_18 (v := 7) (by decide) ?_
        refine gd_iload hX 20 dd_Ch_addNumber_20 rfl ?_
        refine gd_imul hX 22 dd_Ch_addNumber_22 ?_
        refine gd_eqi (show (7 * (nI i) : Int32) = nI (7 * i) from pk_mul 7 _) ?_
        refine gd_lushr hX 23 dd_Ch_addNumber_23 ?_
        refine gd_l2i hX 24 dd_Ch_addNumber_24 ?_
        refine gd_sipush hX 25 dd_Ch_addNumber_25 (v := 128) (by decide) ?_
        refine gd_ior hX 28 dd_Ch_addNumber_28 ?_
        have hx : ((((x.toUInt64 >>> ((nI (7 * i)).toInt64.toUInt64 &&& Int64.toUInt64 63)).toInt64).toInt32) ||| 128) &&& 255 = nI (N.getD i 0) := by
          rw [ch_low128, uN_sk x (by omega), ch_pow7, hN, ch_num_at 9 (uN x) i (by rw [← hN]; omega)]
        refine gd_call hX (st := []) (wr := []) (ct_Oc_add _ K h r rom f (L ++ N.take i) _ (N.getD i 0) (by omega) hrom hB hx) 29 dd_Ch_addNumber_29 (gd_nV hX (As := [.int ((((x.toUInt64 >>> ((nI (7 * i)).toInt64.toUInt64 &&& Int64.toUInt64 63)).toInt64).toInt32) ||| 128)]) kw_142 kw_143 kw_144 (gd_sigOf (n := 1) kw_145 (by decide)) (by decide) 0 rfl rfl rfl rfl dd_Ch_addNumber_29) (gd_codeOf kw_145) (by decide) [0, 1] [] rfl rfl rfl rfl rfl (by decide) (Nat.le_of_ble_eq_true rfl) (Nat.le_of_ble_eq_true rfl) (Nat.le_of_ble_eq_true rfl) (Nat.le_of_ble_eq_true rfl) (fun v9 w9 h9 => ?_) (fun E9 w9 q9 h9 => h9.elim)
        obtain ⟨rfl, f', rfl, hB2⟩ := h9
        show gd_W X K 0 0 [gd_ob 1 h [.ref r, .int (nI ((L ++ N.take i) ++ [N.getD i 0]).length)], gd_aB K r rom f'] [(0, .ref h), (1, .long x), (3, .int (nI (N.length - 1))), (4, .int (nI i))] [] 32
        have e5 : (L ++ N.take i) ++ [N.getD i 0] = L ++ N.take (i + 1) := by rw [List.append_assoc, ← ch_take_step (by omega)]
        rw [e5] at hB2 ⊢
        refine gd_iinc hX 3 [(4, .int (nI (i + 1))), (0, .ref h), (1, .long x), (3, .int (nI (N.length - 1)))] 32 dd_Ch_addNumber_32 rfl (gd_inc i) (by decide) rfl ?_
        refine gd_goto hX 35 10 dd_Ch_addNumber_35 (by decide) ?_
        refine gd_lvs [(0, .ref h), (1, .long x), (3, .int (nI (N.length - 1))), (4, .int (nI (i + 1)))] [1, 2, 3, 0] rfl ?_
        exact ih (i + 1) f' (by omega) hB2
  refine gd_lload_n hX 0 dd_Ch_addNumber_0 rfl ?_
  refine gd_call hX (st := []) (wr := [gd_ob 1 h [.ref r, .int (nI L.length)], gd_aB K r rom f]) (ct_Ch_numberOctets _ K x) 1 dd_Ch_addNumber_1 (gd_nS hX (As := [.long x]) kw_161 kw_162 kw_13 (gd_nmOf kw_163) (gd_sigOf (n := 1) kw_163 (by decide)) (by decide) rfl rfl dd_Ch_addNumber_1) (gd_codeOf kw_163) (by decide) [] [0, 1] rfl rfl rfl rfl rfl (by decide) (Nat.le_of_ble_eq_true rfl) (Nat.le_of_ble_eq_true rfl) (Nat.le_of_ble_eq_true rfl) (Nat.le_of_ble_eq_true rfl) (fun v9 w9 h9 => ?_) (fun E9 w9 q9 h9 => h9.elim)
  obtain ⟨rfl, rfl⟩ := h9
  show gd_W X K 0 0 [gd_ob 1 h [.ref r, .int (nI L.length)], gd_aB K r rom f] [(0, .ref h), (1, .long x)] [.int (nI (ch_num 9 (uN x)).length)] 4
  rw [← hN]
  refine gd_iconst hX 4 dd_Ch_addNumber_4 (v := 1) (by decide) ?_
  refine gd_isub hX 5 dd_Ch_addNumber_5 ?_
  refine gd_eqi (show ((nI N.length) - 1 : Int32) = nI (N.length - 1) from pk_sub (b := 1) (by omega)) ?_
  refine gd_istore_n hX [(3, .int (nI (N.length - 1))), (0, .ref h), (1, .long x)] 6 dd_Ch_addNumber_6 rfl (by decide) rfl ?_
  refine gd_iconst hX 7 dd_Ch_addNumber_7 (v := 0) (by decide) ?_
  refine gd_eqi (show (0 : Int32) = nI 0 from rfl) ?_
  refine gd_istore hX [(4, .int (nI 0)), (3, .int (nI (N.length - 1))), (0, .ref h), (1, .long x)] 8 dd_Ch_addNumber_8 (by decide) rfl ?_
  refine gd_lvs [(0, .ref h), (1, .long x), (3, .int (nI (N.length - 1))), (4, .int (nI 0))] [2, 3, 1, 0] rfl ?_
  have e0 : L = L ++ N.take 0 := by simp
  rw [e0] at hB
  have h9 := loop (N.length - 1) 0 f (by omega) hB
  rw [← e0] at h9
  exact h9
