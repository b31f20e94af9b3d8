set_option maxRecDepth 100000 in
set_option maxHeartbeats 4000000 in
theorem ct_Ch_code (l : Launch) (K : gd_K) (hl : l.stackTraces = false) (h c sp ru md fe rd : Nat) (wa : Int32) (mr : Nat) (L : List Nat) (fm : Nat → Int32) (k : Int32) (hL : L.length ≤ 712) (hB : ch_B fm L) : gd_M l yy_Ch_code bb_Ch_code 6 (some .long) [] 6 82 1 6 K [.ref h, .int k] [gd_ob 4 h [.ref c, .ref sp, .ref ru, .ref md, .ref fe, .ref rd, .int wa], gd_ob 1 md [.ref mr, .int (nI L.length)], gd_aB K mr 712 fm] (fun v9 w1 => ∃ j, j < (L.length + 7) / 8 ∧ k = nI j ∧ v9 = some (.long (ch_wd L j 8)) ∧ w1 = [gd_ob 4 h [.ref c, .ref sp, .ref ru, .ref md, .ref fe, .ref rd, .int wa], gd_ob 1 md [.ref mr, .int (nI L.length)], gd_aB K mr 712 fm]) (fun E w1 => E = "java/lang/IndexOutOfBoundsException" ∧ w1 = [gd_ob 4 h [.ref c, .ref sp, .ref ru, .ref md, .ref fe, .ref rd, .int wa], gd_ob 1 md [.ref mr, .int (nI L.length)], gd_aB K mr 712 fm] ∧ (k < 0 ∨ nI ((L.length + 7) / 8) ≤ k)) := by
  refine gd_body (Nat.le_of_ble_eq_true rfl) (fun X hXl hin hE hX => ?_)
  refine gd_aload_n hX 0 dd_Ch_code_0 rfl ?_
  refine gd_get hX inC_Ch 0 3 1 dd_Ch_code_1 rfl rfl (by decide) kw_95 rfl ?_
  refine gd_call hX (st := []) (wr := [gd_ob 4 h [.ref c, .ref sp, .ref ru, .ref md, .ref fe, .ref rd, .int wa], gd_aB K mr 712 fm]) (ct_Oc_length _ K md mr (nI L.length)) 4 dd_Ch_code_4 (gd_nV hX (As := []) kw_164 kw_165 kw_166 (gd_sigOf (n := 0) kw_167 (by decide)) (by decide) 1 rfl rfl rfl rfl dd_Ch_code_4) (gd_codeOf kw_167) (by decide) [1] [0, 2] rfl rfl rfl rfl rfl (by decide) (Nat.le_of_ble_eq_true rfl) (Nat.le_of_ble_eq_true rfl) (Nat.le_of_ble_eq_true rfl) (Nat.le_of_ble_eq_true rfl) (fun v9 w9 h9 => ?_) (fun E9 w9 q9 h9 => h9.elim)
  obtain ⟨rfl, rfl⟩ := h9
  refine gd_wsp [gd_ob 4 h [.ref c, .ref sp, .ref ru, .ref md, .ref fe, .ref rd, .int wa], gd_ob 1 md [.ref mr, .int (nI L.length)], gd_aB K mr 712 fm] [0, 2, 1] rfl rfl rfl ?_
  show gd_W X K 0 0 [gd_ob 4 h [.ref c, .ref sp, .ref ru, .ref md, .ref fe, .ref rd, .int wa], gd_ob 1 md [.ref mr, .int (nI L.length)], gd_aB K mr 712 fm] [(0, .ref h), (1, .int k)] [.int (nI L.length)] 7
  refine gd_bipush hX 7 dd_Ch_code_7 (v := 8) (by decide) ?_
  refine gd_iadd hX 9 dd_Ch_code_9 ?_
  refine gd_iconst hX 10 dd_Ch_code_10 (v := 1) (by decide) ?_
  refine gd_isub hX 11 dd_Ch_code_11 ?_
  refine gd_eqi (show (((nI L.length) + 8) - 1 : Int32) = nI (L.length + 7) from by rw [show (8 : Int32) = nI 8 from rfl, show (1 : Int32) = nI 1 from rfl, nI_add, pk_sub (by omega)]; congr 1) ?_
  refine gd_bipush hX 12 dd_Ch_code_12 (v := 8) (by decide) ?_
  refine gd_idiv hX 14 dd_Ch_code_14 (by decide) ?_
  refine gd_eqi (show ((nI (L.length + 7)) / 8 : Int32) = nI ((L.length + 7) / 8) from pk_div (d := 8) (by omega) (by decide) (by decide)) ?_
  refine gd_istore_n hX [(2, .int (nI ((L.length + 7) / 8))), (0, .ref h), (1, .int k)] 15 dd_Ch_code_15 rfl (by decide) rfl ?_
  refine gd_iload_n hX 16 dd_Ch_code_16 rfl ?_
  refine gd_if_lt hX 17 25 dd_Ch_code_17 (by decide) (fun h1 => ?_) (fun h1 => ?_)
  · skip
    exact gd_throw hX hE (by rw [hXl]; exact hl) (is := 107) (text := "the code has no such octets") 25 tw_io (by decide) dd_Ch_code_25 dd_Ch_code_28 dd_Ch_code_29 dd_Ch_code_31 dd_Ch_code_34 (by decide) (Nat.le_of_ble_eq_true rfl) (Nat.le_of_ble_eq_true rfl) (Nat.le_of_ble_eq_true rfl) (Nat.le_of_ble_eq_true rfl) (Nat.le_of_ble_eq_true rfl) (Nat.le_of_ble_eq_true rfl) ⟨rfl, rfl, Or.inl h1⟩
  · skip
    refine gd_iload_n hX 20 dd_Ch_code_20 rfl ?_
    refine gd_iload_n hX 21 dd_Ch_code_21 rfl ?_
    refine gd_icmp_lt hX 22 35 dd_Ch_code_22 (by decide) (fun h2 => ?_) (fun h2 => ?_)
    · skip
      refine gd_wide (a := 1) (b := 6) (by decide) (by decide) ?_
      obtain ⟨j, hj, rfl⟩ := ch_ix (by omega) h1 h2
      have loop : ∀ (m i : Nat), m + i = 8 → gd_W X K 1 6 [gd_ob 4 h [.ref c, .ref sp, .ref ru, .ref md, .ref fe, .ref rd, .int wa], gd_ob 1 md [.ref mr, .int (nI L.length)], gd_aB K mr 712 fm] [(0, .ref h), (1, .int (nI j)), (3, .long (ch_wd L j i)), (5, .int (nI i))] [] 40 := by
        intro m
        induction m with
        | zero =>
          intro i hi
          obtain rfl : i = 8 := by omega
          refine gd_iload hX 40 dd_Ch_code_40 rfl ?_
          refine gd_bipush hX 42 dd_Ch_code_42 (v := 8) (by decide) ?_
          refine gd_icmp_ge hX 44 74 dd_Ch_code_44 (by decide) (fun h3 => ?_) (fun h3 => ?_)
          · skip
            refine gd_lload_n hX 74 dd_Ch_code_74 rfl ?_
            exact gd_lret hX hE 75 dd_Ch_code_75 ⟨j, hj, rfl, rfl, rfl⟩
          · skip
            exact absurd (by decide) h3
        | succ m ih =>
          intro i hi
          refine gd_iload hX 40 dd_Ch_code_40 rfl ?_
          refine gd_bipush hX 42 dd_Ch_code_42 (v := 8) (by decide) ?_
          refine gd_icmp_ge hX 44 74 dd_Ch_code_44 (by decide) (fun h3 => ?_) (fun h3 => ?_)
          · skip
            exact absurd ((nI_leI (a := 8) (by decide) (by omega)).mp h3) (by omega)
          · skip
            refine gd_lload_n hX 47 dd_Ch_code_47 rfl ?_
            refine gd_bipush hX 48 dd_Ch_code_48 (v := 8) (by decide) ?_
            refine gd_lshl hX 50 dd_Ch_code_50 ?_
            refine gd_aload_n hX 51 dd_Ch_code_51 rfl ?_
            refine gd_get hX inC_Ch 0 3 52 dd_Ch_code_52 rfl rfl (by decide) kw_95 rfl ?_
            refine gd_bipush hX 55 dd_Ch_code_55 (v := 8) (by decide) ?_
            refine gd_iload_n hX 57 dd_Ch_code_57 rfl ?_
            refine gd_imul hX 58 dd_Ch_code_58 ?_
            refine gd_iload hX 59 dd_Ch_code_59 rfl ?_
            refine gd_iadd hX 61 dd_Ch_code_61 ?_
            refine gd_eqi (show ((8 * (nI j)) + (nI i) : Int32) = nI (8 * j + i) from by rw [show (8 : Int32) = nI 8 from rfl, pk_mul, nI_add]) ?_
            refine gd_call hX (st := [.long ((ch_wd L j i) <<< ((8 : Int32).toInt64 &&& 63))]) (wr := [gd_ob 4 h [.ref c, .ref sp, .ref ru, .ref md, .ref fe, .ref rd, .int wa]]) (ct_Oc_octetOrZero _ K md mr 712 (8 * j + i) fm L hL (by decide) (by omega) hB) 62 dd_Ch_code_62 (gd_nV hX (As := [.int (nI (8 * j + i))]) kw_307 kw_308 kw_309 (gd_sigOf (n := 1) kw_310 (by decide)) (by decide) 1 rfl rfl rfl rfl dd_Ch_code_62) (gd_codeOf kw_310) (by decide) [1, 2] [0] rfl rfl rfl rfl rfl (by decide) (Nat.le_of_ble_eq_true rfl) (Nat.le_of_ble_eq_true rfl) (Nat.le_of_ble_eq_true rfl) (Nat.le_of_ble_eq_true rfl) (fun v9 w9 h9 => ?_) (fun E9 w9 q9 h9 => h9.elim)
            obtain ⟨rfl, rfl⟩ := h9
            show gd_W X K 1 6 [gd_ob 4 h [.ref c, .ref sp, .ref ru, .ref md, .ref fe, .ref rd, .int wa], gd_ob 1 md [.ref mr, .int (nI L.length)], gd_aB K mr 712 fm] [(0, .ref h), (1, .int (nI j)), (3, .long (ch_wd L j i)), (5, .int (nI i))] [.int (nI (L.getD (8 * j + i) 0)), .long ((ch_wd L j i) <<< ((8 : Int32).toInt64 &&& 63))] 65
            refine gd_i2l hX 65 dd_Ch_code_65 ?_
            refine gd_lor hX 66 dd_Ch_code_66 ?_
            refine gd_eql (show (((ch_wd L j i) <<< ((8 : Int32).toInt64 &&& 63)) ||| ((nI (L.getD (8 * j + i) 0)).toInt64) : Int64) = ch_wd L j (i + 1) from rfl) ?_
            refine gd_lstore_n hX [(3, .long (ch_wd L j (i + 1))), (0, .ref h), (1, .int (nI j)), (5, .int (nI i))] 67 dd_Ch_code_67 rfl (by decide) rfl ?_
            refine gd_iinc hX 3 [(5, .int (nI (i + 1))), (3, .long (ch_wd L j (i + 1))), (0, .ref h), (1, .int (nI j))] 68 dd_Ch_code_68 rfl (gd_inc i) (by decide) rfl ?_
            refine gd_goto hX 71 40 dd_Ch_code_71 (by decide) ?_
            refine gd_lvs [(0, .ref h), (1, .int (nI j)), (3, .long (ch_wd L j (i + 1))), (5, .int (nI (i + 1)))] [2, 3, 1, 0] rfl ?_
            exact ih (i + 1) (by omega)
      refine gd_lconst hX 35 dd_Ch_code_35 (v := 0) (by decide) ?_
      refine gd_eql (show (0 : Int64) = ch_wd L j 0 from rfl) ?_
      refine gd_lstore_n hX [(3, .long (ch_wd L j 0)), (2, .int (nI ((L.length + 7) / 8))), (0, .ref h), (1, .int (nI j))] 36 dd_Ch_code_36 rfl (by decide) rfl ?_
      refine gd_iconst hX 37 dd_Ch_code_37 (v := 0) (by decide) ?_
      refine gd_eqi (show (0 : Int32) = nI 0 from rfl) ?_
      refine gd_istore hX [(5, .int (nI 0)), (3, .long (ch_wd L j 0)), (2, .int (nI ((L.length + 7) / 8))), (0, .ref h), (1, .int (nI j))] 38 dd_Ch_code_38 (by decide) rfl ?_
      refine gd_lvs [(0, .ref h), (1, .int (nI j)), (3, .long (ch_wd L j 0)), (5, .int (nI 0))] [3, 4, 1, 0] rfl ?_
      exact loop 8 0 rfl
    · skip
      exact gd_throw hX hE (by rw [hXl]; exact hl) (is := 107) (text := "the code has no such octets") 25 tw_io (by decide) dd_Ch_code_25 dd_Ch_code_28 dd_Ch_code_29 dd_Ch_code_31 dd_Ch_code_34 (by decide) (Nat.le_of_ble_eq_true rfl) (Nat.le_of_ble_eq_true rfl) (Nat.le_of_ble_eq_true rfl) (Nat.le_of_ble_eq_true rfl) (Nat.le_of_ble_eq_true rfl) (Nat.le_of_ble_eq_true rfl) ⟨rfl, rfl, Or.inr (ch_nlt h2)⟩
set_option maxRecDepth 100000 in
set_option maxHeartbeats 4000000 in
theorem ct_Ch_feed (l : Launch) (K : gd_K) (hl : l.stackTraces = false) (h c sp ru md fe rd : Nat) (wa : Int32) (fr : Nat) (L : List Nat) (ff : Nat → Int32) (x : Int64) (k : Int32) (hL : L.length ≤ 1000) (hB : ch_B ff L) : gd_M l yy_Ch_feed bb_Ch_feed 5 (some .int) [] 6 82 1 6 K [.ref h, .long x, .int k] [gd_ob 4 h [.ref c, .ref sp, .ref ru, .ref md, .ref fe, .ref rd, .int wa], gd_ob 1 fe [.ref fr, .int (nI L.length)], gd_aB K fr 1000 ff] (fun v9 w1 => ∃ n, 1 ≤ n ∧ n ≤ 8 ∧ k = nI n ∧ L.length + n ≤ 1000 ∧ v9 = some (.int (nI (L ++ (ch_fd x).take n).length)) ∧ ∃ ff', w1 = [gd_ob 4 h [.ref c, .ref sp, .ref ru, .ref md, .ref fe, .ref rd, .int wa], gd_ob 1 fe [.ref fr, .int (nI (L ++ (ch_fd x).take n).length)], gd_aB K fr 1000 ff'] ∧ ch_B ff' (L ++ (ch_fd x).take n)) (fun E w1 => (E = "java/lang/IllegalArgumentException" ∧ w1 = [gd_ob 4 h [.ref c, .ref sp, .ref ru, .ref md, .ref fe, .ref rd, .int wa], gd_ob 1 fe [.ref fr, .int (nI L.length)], gd_aB K fr 1000 ff] ∧ (k < 1 ∨ 8 < k)) ∨ (E = "java/lang/IndexOutOfBoundsException" ∧ w1 = [gd_ob 4 h [.ref c, .ref sp, .ref ru, .ref md, .ref fe, .ref rd, .int wa], gd_ob 1 fe [.ref fr, .int (nI L.length)], gd_aB K fr 1000 ff] ∧ ∃ n, 1 ≤ n ∧ n ≤ 8 ∧ k = nI n ∧ 1000 < L.length + n)) := by
  refine gd_body (Nat.le_of_ble_eq_true rfl) (fun X hXl hin hE hX => ?_)
  refine gd_iload_n hX 0 dd_Ch_feed_0 rfl ?_
  refine gd_iconst hX 1 dd_Ch_feed_1 (v := 1) (by decide) ?_
  refine gd_icmp_lt hX 2 11 dd_Ch_feed_2 (by decide) (fun h1 => ?_) (fun h1 => ?_)
  · skip
    exact gd_throw hX hE (by rw [hXl]; exact hl) (is := 115) (text := "a feed is of 1 to 8 octets") 11 tw_ia (by decide) dd_Ch_feed_11 dd_Ch_feed_14 dd_Ch_feed_15 dd_Ch_feed_17 dd_Ch_feed_20 (by decide) (Nat.le_of_ble_eq_true rfl) (Nat.le_of_ble_eq_true rfl) (Nat.le_of_ble_eq_true rfl) (Nat.le_of_ble_eq_true rfl) (Nat.le_of_ble_eq_true rfl) (Nat.le_of_ble_eq_true rfl) (Or.inl ⟨rfl, rfl, Or.inl h1⟩)
  · skip
    refine gd_iload_n hX 5 dd_Ch_feed_5 rfl ?_
    refine gd_bipush hX 6 dd_Ch_feed_6 (v := 8) (by decide) ?_
    refine gd_icmp_le hX 8 21 dd_Ch_feed_8 (by decide) (fun h2 => ?_) (fun h2 => ?_)
    · skip
      obtain ⟨n, hn, rfl⟩ := nI_of (x := k) (fun q => h1 (Int32.lt_of_lt_of_le q (by decide)))
      have hn1 : 1 ≤ n := Nat.le_of_not_lt (fun q => h1 ((nI_ltI (b := 1) hn (by decide)).mpr q))
      have hn8 : n ≤ 8 := (nI_leI (b := 8) hn (by decide)).mp h2
      refine gd_aload_n hX 21 dd_Ch_feed_21 rfl ?_
      refine gd_get hX inC_Ch 0 4 22 dd_Ch_feed_22 rfl rfl (by decide) kw_96 rfl ?_
      refine gd_call hX (st := []) (wr := [gd_ob 4 h [.ref c, .ref sp, .ref ru, .ref md, .ref fe, .ref rd, .int wa], gd_aB K fr 1000 ff]) (ct_Oc_length _ K fe fr (nI L.length)) 25 dd_Ch_feed_25 (gd_nV hX (As := []) kw_164 kw_165 kw_166 (gd_sigOf (n := 0) kw_167 (by decide)) (by decide) 1 rfl rfl rfl rfl dd_Ch_feed_25) (gd_codeOf kw_167) (by decide) [1] [0, 2] rfl rfl rfl rfl rfl (by decide) (Nat.le_of_ble_eq_true rfl) (Nat.le_of_ble_eq_true rfl) (Nat.le_of_ble_eq_true rfl) (Nat.le_of_ble_eq_true rfl) (fun v9 w9 h9 => ?_) (fun E9 w9 q9 h9 => h9.elim)
      obtain ⟨rfl, rfl⟩ := h9
      refine gd_wsp [gd_ob 4 h [.ref c, .ref sp, .ref ru, .ref md, .ref fe, .ref rd, .int wa], gd_ob 1 fe [.ref fr, .int (nI L.length)], gd_aB K fr 1000 ff] [0, 2, 1] rfl rfl rfl ?_
      show gd_W X K 0 0 [gd_ob 4 h [.ref c, .ref sp, .ref ru, .ref md, .ref fe, .ref rd, .int wa], gd_ob 1 fe [.ref fr, .int (nI L.length)], gd_aB K fr 1000 ff] [(0, .ref h), (1, .long x), (3, .int (nI n))] [.int (nI L.length)] 28
      refine gd_iload_n hX 28 dd_Ch_feed_28 rfl ?_
      refine gd_iadd hX 29 dd_Ch_feed_29 ?_
      refine gd_eqi (show ((nI L.length) + (nI n) : Int32) = nI (L.length + n) from nI_add _ _) ?_
      refine gd_sipush hX 30 dd_Ch_feed_30 (v := 1000) (by decide) ?_
      refine gd_icmp_le hX 33 46 dd_Ch_feed_33 (by decide) (fun h3 => ?_) (fun h3 => ?_)
      · skip
        have hle : L.length + n ≤ 1000 := (nI_leI (b := 1000) (by omega) (by decide)).mp h3
        refine gd_wide (a := 1) (b := 6) (by decide) (by decide) ?_
        have hfl := ch_fd_len x
        have loop : ∀ (m i : Nat) (ff : Nat → Int32), m + i = n → ch_B ff (L ++ (ch_fd x).take i) → gd_W X K 1 6 [gd_ob 4 h [.ref c, .ref sp, .ref ru, .ref md, .ref fe, .ref rd, .int wa], gd_ob 1 fe [.ref fr, .int (nI (L ++ (ch_fd x).take i).length)], gd_aB K fr 1000 ff] [(0, .ref h), (1, .long x), (3, .int (nI n)), (4, .int (nI i))] [] 49 := by
          intro m
          induction m with
          | zero =>
            intro i ff hi hB
            obtain rfl : i = n := by omega
            refine gd_iload hX 49 dd_Ch_feed_49 rfl ?_
            refine gd_iload_n hX 51 dd_Ch_feed_51 rfl ?_
            refine gd_icmp_ge hX 52 79 dd_Ch_feed_52 (by decide) (fun h4 => ?_) (fun h4 => ?_)
            · skip
              refine gd_aload_n hX 79 dd_Ch_feed_79 rfl ?_
              refine gd_get hX inC_Ch 0 4 80 dd_Ch_feed_80 rfl rfl (by decide) kw_96 rfl ?_
              refine gd_call hX (st := []) (wr := [gd_ob 4 h [.ref c, .ref sp, .ref ru, .ref md, .ref fe, .ref rd, .int wa], gd_aB K fr 1000 ff]) (ct_Oc_length _ K fe fr (nI (L ++ (ch_fd x).take i).length)) 83 dd_Ch_feed_83 (gd_nV hX (As := []) kw_164 kw_165 kw_166 (gd_sigOf (n := 0) kw_167 (by decide)) (by decide) 1 rfl rfl rfl rfl dd_Ch_feed_83) (gd_codeOf kw_167) (by decide) [1] [0, 2] rfl rfl rfl rfl rfl (by decide) (Nat.le_of_ble_eq_true rfl) (Nat.le_of_ble_eq_true rfl) (Nat.le_of_ble_eq_true rfl) (Nat.le_of_ble_eq_true rfl) (fun v9 w9 h9 => ?_) (fun E9 w9 q9 h9 => h9.elim)
              obtain ⟨rfl, rfl⟩ := h9
              refine gd_wsp [gd_ob 4 h [.ref c, .ref sp, .ref ru, .ref md, .ref fe, .ref rd, .int wa], gd_ob 1 fe [.ref fr, .int (nI (L ++ (ch_fd x).take i).length)], gd_aB K fr 1000 ff] [0, 2, 1] rfl rfl rfl ?_
              show gd_W X K 1 6 [gd_ob 4 h [.ref c, .ref sp, .ref ru, .ref md, .ref fe, .ref rd, .int wa], gd_ob 1 fe [.ref fr, .int (nI (L ++ (ch_fd x).take i).length)], gd_aB K fr 1000 ff] [(0, .ref h), (1, .long x), (3, .int (nI i)), (4, .int (nI i))] [.int (nI (L ++ (ch_fd x).take i).length)] 86
              exact gd_iret hX hE 86 dd_Ch_feed_86 ⟨i, hn1, hn8, rfl, hle, rfl, ff, rfl, hB⟩
            · skip
              exact absurd (Int32.le_refl _) h4
          | succ m ih =>
            intro i ff hi hB
            have hlen : (L ++ (ch_fd x).take i).length = L.length + i := by rw [List.length_append, List.length_take]; omega
            refine gd_iload hX 49 dd_Ch_feed_49 rfl ?_
            refine gd_iload_n hX 51 dd_Ch_feed_51 rfl ?_
            refine gd_icmp_ge hX 52 79 dd_Ch_feed_52 (by decide) (fun h4 => ?_) (fun h4 => ?_)
            · skip
              exact absurd ((nI_leI (by omega) (by omega)).mp h4) (by omega)
            · skip
              refine gd_aload_n hX 55 dd_Ch_feed_55 rfl ?_
              refine gd_get hX inC_Ch 0 4 56 dd_Ch_feed_56 rfl rfl (by decide) kw_96 rfl ?_
              refine gd_lload_n hX 59 dd_Ch_feed_59 rfl ?_
              refine gd_bipush hX 60 dd_Ch_feed_60 (v := 56) (by decide) ?_
              refine gd_bipush hX 62 dd_Ch_feed_62 (v := 8) (by decide) ?_
              refine gd_iload hX 64 dd_Ch_feed_64 rfl ?_
              refine gd_imul hX 66 dd_Ch_feed_66 ?_
              refine gd_isub hX 67 dd_Ch_feed_67 ?_
              refine gd_eqi (show (56 - (8 * (nI i)) : Int32) = nI (56 - 8 * i) from by rw [show (8 : Int32) = nI 8 from rfl, show (56 : Int32) = nI 56 from rfl, pk_mul, pk_sub (by omega)]) ?_
              refine gd_lushr hX 68 dd_Ch_feed_68 ?_
              refine gd_l2i hX 69 dd_Ch_feed_69 ?_
              refine gd_call hX (st := []) (wr := [gd_ob 4 h [.ref c, .ref sp, .ref ru, .ref md, .ref fe, .ref rd, .int wa]]) (ct_Oc_add _ K fe fr 1000 ff (L ++ (ch_fd x).take i) _ (uN x / 2 ^ (56 - 8 * i) % 256) (by omega) (by decide) hB (by rw [ch_low, uN_sk x (by omega)])) 70 dd_Ch_feed_70 (gd_nV hX (As := [.int (((x.toUInt64 >>> ((nI (56 - 8 * i)).toInt64.toUInt64 &&& Int64.toUInt64 63)).toInt64).toInt32)]) kw_142 kw_143 kw_144 (gd_sigOf (n := 1) kw_145 (by decide)) (by decide) 1 rfl rfl rfl rfl dd_Ch_feed_70) (gd_codeOf kw_145) (by decide) [1, 2] [0] rfl rfl rfl rfl rfl (by decide) (Nat.le_of_ble_eq_true rfl) (Nat.le_of_ble_eq_true rfl) (Nat.le_of_ble_eq_true rfl) (Nat.le_of_ble_eq_true rfl) (fun v9 w9 h9 => ?_) (fun E9 w9 q9 h9 => h9.elim)
              obtain ⟨rfl, f2, rfl, hB2⟩ := h9
              show gd_W X K 1 6 [gd_ob 4 h [.ref c, .ref sp, .ref ru, .ref md, .ref fe, .ref rd, .int wa], gd_ob 1 fe [.ref fr, .int (nI ((L ++ (ch_fd x).take i) ++ [uN x / 2 ^ (56 - 8 * i) % 256]).length)], gd_aB K fr 1000 f2] [(0, .ref h), (1, .long x), (3, .int (nI n)), (4, .int (nI i))] [] 73
              rw [List.append_assoc, ← ch_fd_step x (by omega)] at hB2 ⊢
              refine gd_iinc hX 3 [(4, .int (nI (i + 1))), (0, .ref h), (1, .long x), (3, .int (nI n))] 73 dd_Ch_feed_73 rfl (gd_inc i) (by decide) rfl ?_
              refine gd_goto hX 76 49 dd_Ch_feed_76 (by decide) ?_
              refine gd_lvs [(0, .ref h), (1, .long x), (3, .int (nI n)), (4, .int (nI (i + 1)))] [1, 2, 3, 0] rfl ?_
              exact ih (i + 1) f2 (by omega) hB2
        refine gd_iconst hX 46 dd_Ch_feed_46 (v := 0) (by decide) ?_
        refine gd_eqi (show (0 : Int32) = nI 0 from rfl) ?_
        refine gd_istore hX [(4, .int (nI 0)), (0, .ref h), (1, .long x), (3, .int (nI n))] 47 dd_Ch_feed_47 (by decide) rfl ?_
        refine gd_lvs [(0, .ref h), (1, .long x), (3, .int (nI n)), (4, .int (nI 0))] [1, 2, 3, 0] rfl ?_
        have e0 : L = L ++ (ch_fd x).take 0 := by simp
        rw [e0] at hB
        have h9 := loop n 0 ff rfl hB
        rw [← e0] at h9
        exact h9
      · skip
        have hle : 1000 < L.length + n := Nat.lt_of_not_le (fun q => h3 ((nI_leI (b := 1000) (by omega) (by decide)).mpr q))
        exact gd_throw hX hE (by rw [hXl]; exact hl) (is := 118) (text := "more would be fed than there is room for") 36 tw_io (by decide) dd_Ch_feed_36 dd_Ch_feed_39 dd_Ch_feed_40 dd_Ch_feed_42 dd_Ch_feed_45 (by decide) (Nat.le_of_ble_eq_true rfl) (Nat.le_of_ble_eq_true rfl) (Nat.le_of_ble_eq_true rfl) (Nat.le_of_ble_eq_true rfl) (Nat.le_of_ble_eq_true rfl) (Nat.le_of_ble_eq_true rfl) (Or.inr ⟨rfl, rfl, n, hn1, hn8, rfl, hle⟩)
    · skip
      exact gd_throw hX hE (by rw [hXl]; exact hl) (is := 115) (text := "a feed is of 1 to 8 octets") 11 tw_ia (by decide) dd_Ch_feed_11 dd_Ch_feed_14 dd_Ch_feed_15 dd_Ch_feed_17 dd_Ch_feed_20 (by decide) (Nat.le_of_ble_eq_true rfl) (Nat.le_of_ble_eq_true rfl) (Nat.le_of_ble_eq_true rfl) (Nat.le_of_ble_eq_true rfl) (Nat.le_of_ble_eq_true rfl) (Nat.le_of_ble_eq_true rfl) (Or.inl ⟨rfl, rfl, Or.inr (ch_nle h2)⟩)
set_option maxRecDepth 100000 in
set_option maxHeartbeats 4000000 in
theorem ct_Ch_count (l : Launch) (K : gd_K) (hl : l.stackTraces = false) (h c sp ru md fe rd : Nat) (wa : Int32) (ra rb : Nat) (n : Int32) (rn : Nat → Int64) (rs : Nat → Int32) (ca : Nat) (w : Int64) (f : Nat → Int64) (fr mr : Nat) (Lf Lm : List Nat) (k : Int32) : gd_M l yy_Ch_count bb_Ch_count 2 (some .int) [] 6 82 1 6 K [.ref h, .int k] [gd_ob 4 h [.ref c, .ref sp, .ref ru, .ref md, .ref fe, .ref rd, .int wa], gd_ob 3 ru [.ref ra, .ref rb, .int n], gd_aJ K ra 64 rn, gd_aI K rb 64 rs, gd_ob 0 c [.ref ca, .long w], gd_aJ K ca 64 f, gd_ob 1 fe [.ref fr, .int (nI Lf.length)], gd_ob 1 md [.ref mr, .int (nI Lm.length)]] (fun v9 w1 => ∃ j, j < 5 ∧ k = nI j ∧ v9 = some (.int (nI (ch_ct w f Lf Lm j))) ∧ ∃ n' rn' rs', w1 = [gd_ob 4 h [.ref c, .ref sp, .ref ru, .ref md, .ref fe, .ref rd, .int wa], gd_ob 3 ru [.ref ra, .ref rb, .int n'], gd_aJ K ra 64 rn', gd_aI K rb 64 rs', gd_ob 0 c [.ref ca, .long w], gd_aJ K ca 64 f, gd_ob 1 fe [.ref fr, .int (nI Lf.length)], gd_ob 1 md [.ref mr, .int (nI Lm.length)]]) (fun E w1 => E = "java/lang/IllegalArgumentException" ∧ w1 = [gd_ob 4 h [.ref c, .ref sp, .ref ru, .ref md, .ref fe, .ref rd, .int wa], gd_ob 3 ru [.ref ra, .ref rb, .int n], gd_aJ K ra 64 rn, gd_aI K rb 64 rs, gd_ob 0 c [.ref ca, .long w], gd_aJ K ca 64 f, gd_ob 1 fe [.ref fr, .int (nI Lf.length)], gd_ob 1 md [.ref mr, .int (nI Lm.length)]] ∧ (k.toInt < 0 ∨ 4 < k.toInt)) := by
  refine gd_body (Nat.le_of_ble_eq_true rfl) (fun X hXl hin hE hX => ?_)
  by_cases h0 : k.toInt < 0
  · skip
    refine gd_iload_n hX 0 dd_Ch_count_0 rfl ?_
    refine gd_tableOut hX 1 84 dd_Ch_count_1 (Or.inl h0) (by decide) ?_
    exact gd_throw hX hE (by rw [hXl]; exact hl) (is := 133) (text := "there is no such count") 84 tw_ia (by decide) dd_Ch_count_84 dd_Ch_count_87 dd_Ch_count_88 dd_Ch_count_90 dd_Ch_count_93 (by decide) (Nat.le_of_ble_eq_true rfl) (Nat.le_of_ble_eq_true rfl) (Nat.le_of_ble_eq_true rfl) (Nat.le_of_ble_eq_true rfl) (Nat.le_of_ble_eq_true rfl) (Nat.le_of_ble_eq_true rfl) ⟨rfl, rfl, Or.inl h0⟩
  by_cases h5 : 4 < k.toInt
  · skip
    refine gd_iload_n hX 0 dd_Ch_count_0 rfl ?_
    refine gd_tableOut hX 1 84 dd_Ch_count_1 (Or.inr h5) (by decide) ?_
    exact gd_throw hX hE (by rw [hXl]; exact hl) (is := 133) (text := "there is no such count") 84 tw_ia (by decide) dd_Ch_count_84 dd_Ch_count_87 dd_Ch_count_88 dd_Ch_count_90 dd_Ch_count_93 (by decide) (Nat.le_of_ble_eq_true rfl) (Nat.le_of_ble_eq_true rfl) (Nat.le_of_ble_eq_true rfl) (Nat.le_of_ble_eq_true rfl) (Nat.le_of_ble_eq_true rfl) (Nat.le_of_ble_eq_true rfl) ⟨rfl, rfl, Or.inr h5⟩
  obtain ⟨j, hj, rfl⟩ : ∃ j, j < 5 ∧ k = nI j := by
    obtain ⟨j, hj, rfl⟩ := nI_of (x := k) (fun q => h0 (by rw [Int32.lt_iff_toInt_lt] at q; exact q))
    rw [nI_toInt hj] at h5
    exact ⟨j, by omega, rfl⟩
  refine gd_iload_n hX 0 dd_Ch_count_0 rfl ?_
  refine gd_wide (a := 1) (b := 6) (by decide) (by decide) ?_
  rcases (show j = 0 ∨ j = 1 ∨ j = 2 ∨ j = 3 ∨ j = 4 by omega) with rfl | rfl | rfl | rfl | rfl
  · skip
    refine gd_tableIn hX (off := 35) 1 36 dd_Ch_count_1 (by decide) (by decide) (by decide) (by decide) ?_
    refine gd_aload_n hX 36 dd_Ch_count_36 rfl ?_
    refine gd_get hX inC_Ch 0 0 37 dd_Ch_count_37 rfl rfl (by decide) kw_92 rfl ?_
    refine gd_call hX (st := []) (wr := [gd_ob 4 h [.ref c, .ref sp, .ref ru, .ref md, .ref fe, .ref rd, .int wa], gd_ob 3 ru [.ref ra, .ref rb, .int n], gd_aJ K ra 64 rn, gd_aI K rb 64 rs, gd_aJ K ca 64 f, gd_ob 1 fe [.ref fr, .int (nI Lf.length)], gd_ob 1 md [.ref mr, .int (nI Lm.length)]]) (ct_Cl_many _ K c ca w) 40 dd_Ch_count_40 (gd_nV hX (As := []) kw_385 kw_386 kw_387 (gd_sigOf (n := 0) kw_388 (by decide)) (by decide) 4 rfl rfl rfl rfl dd_Ch_count_40) (gd_codeOf kw_388) (by decide) [4] [0, 1, 2, 3, 5, 6, 7] rfl rfl rfl rfl rfl (by decide) (Nat.le_of_ble_eq_true rfl) (Nat.le_of_ble_eq_true rfl) (Nat.le_of_ble_eq_true rfl) (Nat.le_of_ble_eq_true rfl) (fun v9 w9 h9 => ?_) (fun E9 w9 q9 h9 => h9.elim)
    obtain ⟨rfl, rfl⟩ := h9
    refine gd_wsp [gd_ob 4 h [.ref c, .ref sp, .ref ru, .ref md, .ref fe, .ref rd, .int wa], gd_ob 3 ru [.ref ra, .ref rb, .int n], gd_aJ K ra 64 rn, gd_aI K rb 64 rs, gd_ob 0 c [.ref ca, .long w], gd_aJ K ca 64 f, gd_ob 1 fe [.ref fr, .int (nI Lf.length)], gd_ob 1 md [.ref mr, .int (nI Lm.length)]] [0, 1, 2, 3, 7, 4, 5, 6] rfl rfl rfl ?_
    show gd_W X K 1 6 [gd_ob 4 h [.ref c, .ref sp, .ref ru, .ref md, .ref fe, .ref rd, .int wa], gd_ob 3 ru [.ref ra, .ref rb, .int n], gd_aJ K ra 64 rn, gd_aI K rb 64 rs, gd_ob 0 c [.ref ca, .long w], gd_aJ K ca 64 f, gd_ob 1 fe [.ref fr, .int (nI Lf.length)], gd_ob 1 md [.ref mr, .int (nI Lm.length)]] [(0, .ref h), (1, .int (nI 0))] [.int (nI (ch_pop w 64))] 43
    exact gd_iret hX hE 43 dd_Ch_count_43 ⟨0, by decide, rfl, rfl, _, _, _, rfl⟩
  · skip
    refine gd_tableIn hX (off := 43) 1 44 dd_Ch_count_1 (by decide) (by decide) (by decide) (by decide) ?_
    refine gd_aload_n hX 44 dd_Ch_count_44 rfl ?_
    refine gd_get hX inC_Ch 0 2 45 dd_Ch_count_45 rfl rfl (by decide) kw_94 rfl ?_
    refine gd_aload_n hX 48 dd_Ch_count_48 rfl ?_
    refine gd_get hX inC_Ch 0 0 49 dd_Ch_count_49 rfl rfl (by decide) kw_92 rfl ?_
    refine gd_call hX (st := []) (wr := [gd_ob 4 h [.ref c, .ref sp, .ref ru, .ref md, .ref fe, .ref rd, .int wa], gd_ob 1 fe [.ref fr, .int (nI Lf.length)], gd_ob 1 md [.ref mr, .int (nI Lm.length)]]) (ct_Ru_gather _ K ru ra rb c ca n rn rs w f) 52 dd_Ch_count_52 (gd_nV hX (As := [.ref c]) kw_118 kw_119 kw_120 (gd_sigOf (n := 1) kw_121 (by decide)) (by decide) 1 rfl rfl rfl rfl dd_Ch_count_52) (gd_codeOf kw_121) (by decide) [1, 2, 3, 4, 5] [0, 6, 7] rfl rfl rfl rfl rfl (by decide) (Nat.le_of_ble_eq_true rfl) (Nat.le_of_ble_eq_true rfl) (Nat.le_of_ble_eq_true rfl) (Nat.le_of_ble_eq_true rfl) (fun v9 w9 h9 => ?_) (fun E9 w9 q9 h9 => h9.elim)
    obtain ⟨rfl, rn', rs', rfl, hR⟩ := h9
    refine gd_wsp [gd_ob 4 h [.ref c, .ref sp, .ref ru, .ref md, .ref fe, .ref rd, .int wa], gd_ob 3 ru [.ref ra, .ref rb, .int (nI (ch_runs w f 64).length)], gd_aJ K ra 64 rn', gd_aI K rb 64 rs', gd_ob 0 c [.ref ca, .long w], gd_aJ K ca 64 f, gd_ob 1 fe [.ref fr, .int (nI Lf.length)], gd_ob 1 md [.ref mr, .int (nI Lm.length)]] [0, 3, 4, 5, 6, 7, 1, 2] rfl rfl rfl ?_
    show gd_W X K 1 6 [gd_ob 4 h [.ref c, .ref sp, .ref ru, .ref md, .ref fe, .ref rd, .int wa], gd_ob 3 ru [.ref ra, .ref rb, .int (nI (ch_runs w f 64).length)], gd_aJ K ra 64 rn', gd_aI K rb 64 rs', gd_ob 0 c [.ref ca, .long w], gd_aJ K ca 64 f, gd_ob 1 fe [.ref fr, .int (nI Lf.length)], gd_ob 1 md [.ref mr, .int (nI Lm.length)]] [(0, .ref h), (1, .int (nI 1))] [] 55
    refine gd_aload_n hX 55 dd_Ch_count_55 rfl ?_
    refine gd_get hX inC_Ch 0 2 56 dd_Ch_count_56 rfl rfl (by decide) kw_94 rfl ?_
    refine gd_call hX (st := []) (wr := [gd_ob 4 h [.ref c, .ref sp, .ref ru, .ref md, .ref fe, .ref rd, .int wa], gd_aJ K ra 64 rn', gd_aI K rb 64 rs', gd_ob 0 c [.ref ca, .long w], gd_aJ K ca 64 f, gd_ob 1 fe [.ref fr, .int (nI Lf.length)], gd_ob 1 md [.ref mr, .int (nI Lm.length)]]) (ct_Ru_many _ K ru ra rb (nI (ch_runs w f 64).length)) 59 dd_Ch_count_59 (gd_nV hX (As := []) kw_146 kw_147 kw_148 (gd_sigOf (n := 0) kw_149 (by decide)) (by decide) 1 rfl rfl rfl rfl dd_Ch_count_59) (gd_codeOf kw_149) (by decide) [1] [0, 2, 3, 4, 5, 6, 7] rfl rfl rfl rfl rfl (by decide) (Nat.le_of_ble_eq_true rfl) (Nat.le_of_ble_eq_true rfl) (Nat.le_of_ble_eq_true rfl) (Nat.le_of_ble_eq_true rfl) (fun v9 w9 h9 => ?_) (fun E9 w9 q9 h9 => h9.elim)
    obtain ⟨rfl, rfl⟩ := h9
    refine gd_wsp [gd_ob 4 h [.ref c, .ref sp, .ref ru, .ref md, .ref fe, .ref rd, .int wa], gd_ob 3 ru [.ref ra, .ref rb, .int (nI (ch_runs w f 64).length)], gd_aJ K ra 64 rn', gd_aI K rb 64 rs', gd_ob 0 c [.ref ca, .long w], gd_aJ K ca 64 f, gd_ob 1 fe [.ref fr, .int (nI Lf.length)], gd_ob 1 md [.ref mr, .int (nI Lm.length)]] [0, 7, 1, 2, 3, 4, 5, 6] rfl rfl rfl ?_
    show gd_W X K 1 6 [gd_ob 4 h [.ref c, .ref sp, .ref ru, .ref md, .ref fe, .ref rd, .int wa], gd_ob 3 ru [.ref ra, .ref rb, .int (nI (ch_runs w f 64).length)], gd_aJ K ra 64 rn', gd_aI K rb 64 rs', gd_ob 0 c [.ref ca, .long w], gd_aJ K ca 64 f, gd_ob 1 fe [.ref fr, .int (nI Lf.length)], gd_ob 1 md [.ref mr, .int (nI Lm.length)]] [(0, .ref h), (1, .int (nI 1))] [.int (nI (ch_runs w f 64).length)] 62
    exact gd_iret hX hE 62 dd_Ch_count_62 ⟨1, by decide, rfl, rfl, _, _, _, rfl⟩
  · skip
    refine gd_tableIn hX (off := 62) 1 63 dd_Ch_count_1 (by decide) (by decide) (by decide) (by decide) ?_
    refine gd_aload_n hX 63 dd_Ch_count_63 rfl ?_
    refine gd_get hX inC_Ch 0 4 64 dd_Ch_count_64 rfl rfl (by decide) kw_96 rfl ?_
    refine gd_call hX (st := []) (wr := [gd_ob 4 h [.ref c, .ref sp, .ref ru, .ref md, .ref fe, .ref rd, .int wa], gd_ob 3 ru [.ref ra, .ref rb, .int n], gd_aJ K ra 64 rn, gd_aI K rb 64 rs, gd_ob 0 c [.ref ca, .long w], gd_aJ K ca 64 f, gd_ob 1 md [.ref mr, .int (nI Lm.length)]]) (ct_Oc_length _ K fe fr (nI Lf.length)) 67 dd_Ch_count_67 (gd_nV hX (As := []) kw_164 kw_165 kw_166 (gd_sigOf (n := 0) kw_167 (by decide)) (by decide) 6 rfl rfl rfl rfl dd_Ch_count_67) (gd_codeOf kw_167) (by decide) [6] [0, 1, 2, 3, 4, 5, 7] rfl rfl rfl rfl rfl (by decide) (Nat.le_of_ble_eq_true rfl) (Nat.le_of_ble_eq_true rfl) (Nat.le_of_ble_eq_true rfl) (Nat.le_of_ble_eq_true rfl) (fun v9 w9 h9 => ?_) (fun E9 w9 q9 h9 => h9.elim)
    obtain ⟨rfl, rfl⟩ := h9
    refine gd_wsp [gd_ob 4 h [.ref c, .ref sp, .ref ru, .ref md, .ref fe, .ref rd, .int wa], gd_ob 3 ru [.ref ra, .ref rb, .int n], gd_aJ K ra 64 rn, gd_aI K rb 64 rs, gd_ob 0 c [.ref ca, .long w], gd_aJ K ca 64 f, gd_ob 1 fe [.ref fr, .int (nI Lf.length)], gd_ob 1 md [.ref mr, .int (nI Lm.length)]] [0, 1, 2, 3, 4, 5, 7, 6] rfl rfl rfl ?_
    show gd_W X K 1 6 [gd_ob 4 h [.ref c, .ref sp, .ref ru, .ref md, .ref fe, .ref rd, .int wa], gd_ob 3 ru [.ref ra, .ref rb, .int n], gd_aJ K ra 64 rn, gd_aI K rb 64 rs, gd_ob 0 c [.ref ca, .long w], gd_aJ K ca 64 f, gd_ob 1 fe [.ref fr, .int (nI Lf.length)], gd_ob 1 md [.ref mr, .int (nI Lm.length)]] [(0, .ref h), (1, .int (nI 2))] [.int (nI Lf.length)] 70
    exact gd_iret hX hE 70 dd_Ch_count_70 ⟨2, by decide, rfl, rfl, _, _, _, rfl⟩
  · skip
    refine gd_tableIn hX (off := 70) 1 71 dd_Ch_count_1 (by decide) (by decide) (by decide) (by decide) ?_
    refine gd_aload_n hX 71 dd_Ch_count_71 rfl ?_
    refine gd_get hX inC_Ch 0 3 72 dd_Ch_count_72 rfl rfl (by decide) kw_95 rfl ?_
    refine gd_call hX (st := []) (wr := [gd_ob 4 h [.ref c, .ref sp, .ref ru, .ref md, .ref fe, .ref rd, .int wa], gd_ob 3 ru [.ref ra, .ref rb, .int n], gd_aJ K ra 64 rn, gd_aI K rb 64 rs, gd_ob 0 c [.ref ca, .long w], gd_aJ K ca 64 f, gd_ob 1 fe [.ref fr, .int (nI Lf.length)]]) (ct_Oc_length _ K md mr (nI Lm.length)) 75 dd_Ch_count_75 (gd_nV hX (As := []) kw_164 kw_165 kw_166 (gd_sigOf (n := 0) kw_167 (by decide)) (by decide) 7 rfl rfl rfl rfl dd_Ch_count_75) (gd_codeOf kw_167) (by decide) [7] [0, 1, 2, 3, 4, 5, 6] rfl rfl rfl rfl rfl (by decide) (Nat.le_of_ble_eq_true rfl) (Nat.le_of_ble_eq_true rfl) (Nat.le_of_ble_eq_true rfl) (Nat.le_of_ble_eq_true rfl) (fun v9 w9 h9 => ?_) (fun E9 w9 q9 h9 => h9.elim)
    obtain ⟨rfl, rfl⟩ := h9
    show gd_W X K 1 6 [gd_ob 4 h [.ref c, .ref sp, .ref ru, .ref md, .ref fe, .ref rd, .int wa], gd_ob 3 ru [.ref ra, .ref rb, .int n], gd_aJ K ra 64 rn, gd_aI K rb 64 rs, gd_ob 0 c [.ref ca, .long w], gd_aJ K ca 64 f, gd_ob 1 fe [.ref fr, .int (nI Lf.length)], gd_ob 1 md [.ref mr, .int (nI Lm.length)]] [(0, .ref h), (1, .int (nI 3))] [.int (nI Lm.length)] 78
    exact gd_iret hX hE 78 dd_Ch_count_78 ⟨3, by decide, rfl, rfl, _, _, _, rfl⟩
  · skip
    refine gd_tableIn hX (off := 78) 1 79 dd_Ch_count_1 (by decide) (by decide) (by decide) (by decide) ?_
    refine gd_aload_n hX 79 dd_Ch_count_79 rfl ?_
    refine gd_call hX (st := []) (wr := [gd_ob 1 fe [.ref fr, .int (nI Lf.length)], gd_ob 1 md [.ref mr, .int (nI Lm.length)]]) (ct_Ch_octetsNow _ K h c sp ru md fe rd wa ra rb n rn rs ca w f) 80 dd_Ch_count_80 (gd_nV hX (As := []) kw_397 kw_399 kw_7 (gd_sigOf (n := 0) kw_400 (by decide)) (by decide) 0 rfl rfl rfl rfl dd_Ch_count_80) (gd_codeOf kw_400) (by decide) [0, 1, 2, 3, 4, 5] [6, 7] rfl rfl rfl rfl rfl (by decide) (Nat.le_of_ble_eq_true rfl) (Nat.le_of_ble_eq_true rfl) (Nat.le_of_ble_eq_true rfl) (Nat.le_of_ble_eq_true rfl) (fun v9 w9 h9 => ?_) (fun E9 w9 q9 h9 => h9.elim)
    obtain ⟨rfl, rn', rs', rfl⟩ := h9
    refine gd_wsp [gd_ob 4 h [.ref c, .ref sp, .ref ru, .ref md, .ref fe, .ref rd, .int wa], gd_ob 3 ru [.ref ra, .ref rb, .int (nI (ch_runs w f 64).length)], gd_aJ K ra 64 rn', gd_aI K rb 64 rs', gd_ob 0 c [.ref ca, .long w], gd_aJ K ca 64 f, gd_ob 1 fe [.ref fr, .int (nI Lf.length)], gd_ob 1 md [.ref mr, .int (nI Lm.length)]] [2, 3, 4, 5, 6, 7, 0, 1] rfl rfl rfl ?_
    show gd_W X K 1 6 [gd_ob 4 h [.ref c, .ref sp, .ref ru, .ref md, .ref fe, .ref rd, .int wa], gd_ob 3 ru [.ref ra, .ref rb, .int (nI (ch_runs w f 64).length)], gd_aJ K ra 64 rn', gd_aI K rb 64 rs', gd_ob 0 c [.ref ca, .long w], gd_aJ K ca 64 f, gd_ob 1 fe [.ref fr, .int (nI Lf.length)], gd_ob 1 md [.ref mr, .int (nI Lm.length)]] [(0, .ref h), (1, .int (nI 4))] [.int (nI (8 + (ch_octs (ch_runs w f 64)).length))] 83
    exact gd_iret hX hE 83 dd_Ch_count_83 ⟨4, by decide, rfl, rfl, _, _, _, rfl⟩
