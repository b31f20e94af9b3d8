set_option maxRecDepth 100000 in
set_option maxHeartbeats 4000000 in
theorem ct_La_put (l : Launch) (K : gd_K) (hl : l.stackTraces = false) (h c sp ru md fe rd : Nat) (wa : Int32) (ca : Nat) (w : Int64) (f : Nat → Int64) (k : Int32) (v : Int64) : gd_M l yy_La_put bb_La_put 5 (some .int) [(0, 6, 9, 13)] 8 109 1 6 K [.ref h, .int k, .long v] [gd_ob 4 h [.ref c, .ref sp, .ref ru, .ref md, .ref fe, .ref rd, .int wa], gd_ob 0 c [.ref ca, .long w], gd_aJ K ca 64 f] (fun v9 w1 => (v9 = some (.int 0) ∧ ∃ j, j < 64 ∧ k = nI j ∧ w1 = [gd_ob 4 h [.ref c, .ref sp, .ref ru, .ref md, .ref fe, .ref rd, .int wa], gd_ob 0 c [.ref ca, .long (w ||| ((1 : Int64) <<< ((nI j).toInt64 &&& 63)))], gd_aJ K ca 64 (vp_updL f j v)]) ∨ (v9 = some (.int 1) ∧ ch_no k = true ∧ w1 = [gd_ob 4 h [.ref c, .ref sp, .ref ru, .ref md, .ref fe, .ref rd, .int wa], gd_ob 0 c [.ref ca, .long w], gd_aJ K ca 64 f])) (fun _ _ => False) := by
  refine gd_body (Nat.le_of_ble_eq_true rfl) (fun X hXl hin hE hX => ?_)
  refine gd_aload_n hX 0 dd_La_put_0 rfl ?_
  refine gd_iload_n hX 1 dd_La_put_1 rfl ?_
  refine gd_lload_n hX 2 dd_La_put_2 rfl ?_
  refine gd_call hX (st := []) (wr := []) (ct_Ch_put _ K (by rw [hXl]; exact hl) h c sp ru md fe rd wa ca w f k v) 3 dd_La_put_3 (gd_nV hX (As := [.int k, .long v]) kw_176 kw_177 kw_178 (gd_sigOf (n := 2) kw_179 (by decide)) (by decide) 0 rfl rfl rfl rfl dd_La_put_3) (gd_codeOf kw_179) (by decide) [0, 1, 2] [] rfl rfl rfl rfl rfl (by decide) (Nat.le_of_ble_eq_true rfl) (Nat.le_of_ble_eq_true rfl) (Nat.le_of_ble_eq_true rfl) (Nat.le_of_ble_eq_true rfl) (fun v9 w9 h9 => ?_) (fun E9 w9 q9 hx9 => ?_)
  · skip
    obtain ⟨rfl, j, hj, hk, rfl⟩ := h9
    show gd_W X K 1 6 [gd_ob 4 h [.ref c, .ref sp, .ref ru, .ref md, .ref fe, .ref rd, .int wa], gd_ob 0 c [.ref ca, .long (w ||| ((1 : Int64) <<< ((nI j).toInt64 &&& 63)))], gd_aJ K ca 64 (vp_updL f j v)] [(0, .ref h), (1, .int k), (2, .long v)] [] 6
    refine gd_goto hX 6 13 dd_La_put_6 (by decide) ?_
    refine gd_iconst hX 13 dd_La_put_13 (v := 0) (by decide) ?_
    exact gd_iret hX hE 14 dd_La_put_14 (Or.inl ⟨rfl, j, hj, hk, rfl⟩)
  · skip
    obtain ⟨rfl, rfl, hx⟩ := hx9
    refine gd_catch hX [] (0, 6, 9, 13) [] rfl (fun z hz => nomatch hz) (by decide) (by decide) kw_175 kw_185 ?_
    show gd_W X K 1 6 [gd_ob 4 h [.ref c, .ref sp, .ref ru, .ref md, .ref fe, .ref rd, .int wa], gd_ob 0 c [.ref ca, .long w], gd_aJ K ca 64 f] [(0, .ref h), (1, .int k), (2, .long v)] [.ref q9] 9
    show gd_W X K 1 6 [gd_ob 4 h [.ref c, .ref sp, .ref ru, .ref md, .ref fe, .ref rd, .int wa], gd_ob 0 c [.ref ca, .long w], gd_aJ K ca 64 f] [(0, .ref h), (1, .int k), (2, .long v)] [.ref q9] 9
    refine gd_astore hX [(4, .ref q9), (0, .ref h), (1, .int k), (2, .long v)] 9 dd_La_put_9 (by decide) rfl ?_
    refine gd_iconst hX 11 dd_La_put_11 (v := 1) (by decide) ?_
    exact gd_iret hX hE 12 dd_La_put_12 (Or.inr ⟨rfl, ch_no_t hx, rfl⟩)
set_option maxRecDepth 100000 in
set_option maxHeartbeats 4000000 in
theorem ct_La_erase (l : Launch) (K : gd_K) (hl : l.stackTraces = false) (h c sp ru md fe rd : Nat) (wa : Int32) (ca : Nat) (w : Int64) (f : Nat → Int64) (k k2 : Int32) : gd_M l yy_La_erase bb_La_erase 4 (some .int) [(0, 6, 9, 13)] 8 109 2 12 K [.ref h, .int k, .int k2] [gd_ob 4 h [.ref c, .ref sp, .ref ru, .ref md, .ref fe, .ref rd, .int wa], gd_ob 0 c [.ref ca, .long w], gd_aJ K ca 64 f] (fun v9 w1 => (v9 = some (.int 0) ∧ ∃ a b, a < 64 ∧ b < 64 ∧ k = nI a ∧ k2 = nI b ∧ w1 = [gd_ob 4 h [.ref c, .ref sp, .ref ru, .ref md, .ref fe, .ref rd, .int wa], gd_ob 0 c [.ref ca, .long (ch_er w a (b + 1 - a))], gd_aJ K ca 64 f]) ∨ (v9 = some (.int 1) ∧ (ch_no k || ch_no k2) = true ∧ w1 = [gd_ob 4 h [.ref c, .ref sp, .ref ru, .ref md, .ref fe, .ref rd, .int wa], gd_ob 0 c [.ref ca, .long w], gd_aJ K ca 64 f])) (fun _ _ => False) := by
  refine gd_body (Nat.le_of_ble_eq_true rfl) (fun X hXl hin hE hX => ?_)
  refine gd_aload_n hX 0 dd_La_erase_0 rfl ?_
  refine gd_iload_n hX 1 dd_La_erase_1 rfl ?_
  refine gd_iload_n hX 2 dd_La_erase_2 rfl ?_
  refine gd_call hX (st := []) (wr := []) (ct_Ch_erase _ K (by rw [hXl]; exact hl) h c sp ru md fe rd wa ca w f k k2) 3 dd_La_erase_3 (gd_nV hX (As := [.int k, .int k2]) kw_257 kw_258 kw_259 (gd_sigOf (n := 2) kw_260 (by decide)) (by decide) 0 rfl rfl rfl rfl dd_La_erase_3) (gd_codeOf kw_260) (by decide) [0, 1, 2] [] rfl rfl rfl rfl rfl (by decide) (Nat.le_of_ble_eq_true rfl) (Nat.le_of_ble_eq_true rfl) (Nat.le_of_ble_eq_true rfl) (Nat.le_of_ble_eq_true rfl) (fun v9 w9 h9 => ?_) (fun E9 w9 q9 hx9 => ?_)
  · skip
    obtain ⟨rfl, a, b, ha, hb, hk, hk2, rfl⟩ := h9
    show gd_W X K 2 12 [gd_ob 4 h [.ref c, .ref sp, .ref ru, .ref md, .ref fe, .ref rd, .int wa], gd_ob 0 c [.ref ca, .long (ch_er w a (b + 1 - a))], gd_aJ K ca 64 f] [(0, .ref h), (1, .int k), (2, .int k2)] [] 6
    refine gd_goto hX 6 12 dd_La_erase_6 (by decide) ?_
    refine gd_iconst hX 12 dd_La_erase_12 (v := 0) (by decide) ?_
    exact gd_iret hX hE 13 dd_La_erase_13 (Or.inl ⟨rfl, a, b, ha, hb, hk, hk2, rfl⟩)
  · skip
    obtain ⟨rfl, rfl, hx⟩ := hx9
    refine gd_catch hX [] (0, 6, 9, 13) [] rfl (fun z hz => nomatch hz) (by decide) (by decide) kw_175 kw_185 ?_
    show gd_W X K 2 12 [gd_ob 4 h [.ref c, .ref sp, .ref ru, .ref md, .ref fe, .ref rd, .int wa], gd_ob 0 c [.ref ca, .long w], gd_aJ K ca 64 f] [(0, .ref h), (1, .int k), (2, .int k2)] [.ref q9] 9
    show gd_W X K 2 12 [gd_ob 4 h [.ref c, .ref sp, .ref ru, .ref md, .ref fe, .ref rd, .int wa], gd_ob 0 c [.ref ca, .long w], gd_aJ K ca 64 f] [(0, .ref h), (1, .int k), (2, .int k2)] [.ref q9] 9
    refine gd_astore_n hX [(3, .ref q9), (0, .ref h), (1, .int k), (2, .int k2)] 9 dd_La_erase_9 rfl (by decide) rfl ?_
    refine gd_iconst hX 10 dd_La_erase_10 (v := 1) (by decide) ?_
    exact gd_iret hX hE 11 dd_La_erase_11 (Or.inr ⟨rfl, (by rcases hx with h | h; { rw [ch_no_t h]; rfl }; { rw [ch_no_t h, Bool.or_true] }), rfl⟩)
set_option maxRecDepth 100000 in
set_option maxHeartbeats 4000000 in
theorem ct_La_get (l : Launch) (K : gd_K) (hl : l.stackTraces = false) (h c sp ru md fe rd : Nat) (wa : Int32) (ca : Nat) (w : Int64) (f : Nat → Int64) (ou : Nat) (of : Nat → Int64) (k : Int32) : gd_M l yy_La_get bb_La_get 4 (some .int) [(0, 8, 11, 13), (0, 8, 14, 23)] 8 109 2 12 K [.ref h, .int k, .ref ou] [gd_ob 4 h [.ref c, .ref sp, .ref ru, .ref md, .ref fe, .ref rd, .int wa], gd_ob 0 c [.ref ca, .long w], gd_aJ K ca 64 f, gd_aJ K ou 1 of] (fun v9 w1 => (v9 = some (.int 0) ∧ ∃ j, j < 64 ∧ k = nI j ∧ ch_bit w j = true ∧ w1 = [gd_ob 4 h [.ref c, .ref sp, .ref ru, .ref md, .ref fe, .ref rd, .int wa], gd_ob 0 c [.ref ca, .long w], gd_aJ K ca 64 f, gd_aJ K ou 1 (vp_updL of 0 (f j))]) ∨ (v9 = some (.int 1) ∧ ch_no k = true ∧ w1 = [gd_ob 4 h [.ref c, .ref sp, .ref ru, .ref md, .ref fe, .ref rd, .int wa], gd_ob 0 c [.ref ca, .long w], gd_aJ K ca 64 f, gd_aJ K ou 1 of]) ∨ (v9 = some (.int 2) ∧ ∃ j, j < 64 ∧ k = nI j ∧ ch_bit w j = false ∧ w1 = [gd_ob 4 h [.ref c, .ref sp, .ref ru, .ref md, .ref fe, .ref rd, .int wa], gd_ob 0 c [.ref ca, .long w], gd_aJ K ca 64 f, gd_aJ K ou 1 of])) (fun _ _ => False) := by
  refine gd_body (Nat.le_of_ble_eq_true rfl) (fun X hXl hin hE hX => ?_)
  refine gd_aload_n hX 0 dd_La_get_0 rfl ?_
  refine gd_iconst hX 1 dd_La_get_1 (v := 0) (by decide) ?_
  refine gd_aload_n hX 2 dd_La_get_2 rfl ?_
  refine gd_iload_n hX 3 dd_La_get_3 rfl ?_
  refine gd_call hX (st := [.int 0, .ref ou]) (wr := [gd_aJ K ou 1 of]) (ct_Ch_get _ K (by rw [hXl]; exact hl) h c sp ru md fe rd wa ca w f k) 4 dd_La_get_4 (gd_nV hX (As := [.int k]) kw_270 kw_271 kw_272 (gd_sigOf (n := 1) kw_273 (by decide)) (by decide) 0 rfl rfl rfl rfl dd_La_get_4) (gd_codeOf kw_273) (by decide) [0, 1, 2] [3] rfl rfl rfl rfl rfl (by decide) (Nat.le_of_ble_eq_true rfl) (Nat.le_of_ble_eq_true rfl) (Nat.le_of_ble_eq_true rfl) (Nat.le_of_ble_eq_true rfl) (fun v9 w9 h9 => ?_) (fun E9 w9 q9 hx9 => ?_)
  · skip
    obtain ⟨j, hj, hk, hb, rfl, rfl⟩ := h9
    refine gd_wsp [gd_ob 4 h [.ref c, .ref sp, .ref ru, .ref md, .ref fe, .ref rd, .int wa], gd_ob 0 c [.ref ca, .long w], gd_aJ K ca 64 f, gd_aJ K ou 1 of] [1, 2, 3, 0] rfl rfl rfl ?_
    show gd_W X K 2 12 [gd_ob 4 h [.ref c, .ref sp, .ref ru, .ref md, .ref fe, .ref rd, .int wa], gd_ob 0 c [.ref ca, .long w], gd_aJ K ca 64 f, gd_aJ K ou 1 of] [(0, .ref h), (1, .int k), (2, .ref ou)] [.long (f j), .int 0, .ref ou] 7
    refine gd_last hX 3 0 [gd_ob 4 h [.ref c, .ref sp, .ref ru, .ref md, .ref fe, .ref rd, .int wa], gd_ob 0 c [.ref ca, .long w], gd_aJ K ca 64 f, gd_aJ K ou 1 (vp_updL of 0 (f j))] 7 dd_La_get_7 rfl rfl (by omega) (by decide) rfl ?_
    refine gd_goto hX 8 17 dd_La_get_8 (by decide) ?_
    refine gd_iconst hX 17 dd_La_get_17 (v := 0) (by decide) ?_
    exact gd_iret hX hE 18 dd_La_get_18 (Or.inl ⟨rfl, j, hj, hk, hb, rfl⟩)
  · skip
    rcases hx9 with hx9 | hx9
    · skip
      obtain ⟨rfl, rfl, hx⟩ := hx9
      refine gd_catch hX [] (0, 8, 11, 13) [(0, 8, 14, 23)] rfl (fun z hz => nomatch hz) (by decide) (by decide) kw_175 kw_185 ?_
      show gd_W X K 2 12 [gd_aJ K ou 1 of, gd_ob 4 h [.ref c, .ref sp, .ref ru, .ref md, .ref fe, .ref rd, .int wa], gd_ob 0 c [.ref ca, .long w], gd_aJ K ca 64 f] [(0, .ref h), (1, .int k), (2, .ref ou)] [.ref q9] 11
      refine gd_wsp [gd_ob 4 h [.ref c, .ref sp, .ref ru, .ref md, .ref fe, .ref rd, .int wa], gd_ob 0 c [.ref ca, .long w], gd_aJ K ca 64 f, gd_aJ K ou 1 of] [1, 2, 3, 0] rfl rfl rfl ?_
      show gd_W X K 2 12 [gd_ob 4 h [.ref c, .ref sp, .ref ru, .ref md, .ref fe, .ref rd, .int wa], gd_ob 0 c [.ref ca, .long w], gd_aJ K ca 64 f, gd_aJ K ou 1 of] [(0, .ref h), (1, .int k), (2, .ref ou)] [.ref q9] 11
      refine gd_astore_n hX [(3, .ref q9), (0, .ref h), (1, .int k), (2, .ref ou)] 11 dd_La_get_11 rfl (by decide) rfl ?_
      refine gd_iconst hX 12 dd_La_get_12 (v := 1) (by decide) ?_
      exact gd_iret hX hE 13 dd_La_get_13 (Or.inr (Or.inl ⟨rfl, ch_no_t hx, rfl⟩))
    · skip
      obtain ⟨rfl, rfl, j, hj, hk, hb⟩ := hx9
      refine gd_catch hX [(0, 8, 11, 13)] (0, 8, 14, 23) [] rfl (fun z hz => by cases List.mem_singleton.mp hz; exact ⟨by decide, _, kw_175, hX.2.2.1.2.2.2.2.2.2.2⟩) (by decide) (by decide) kw_269 kw_277 ?_
      show gd_W X K 2 12 [gd_aJ K ou 1 of, gd_ob 4 h [.ref c, .ref sp, .ref ru, .ref md, .ref fe, .ref rd, .int wa], gd_ob 0 c [.ref ca, .long w], gd_aJ K ca 64 f] [(0, .ref h), (1, .int k), (2, .ref ou)] [.ref q9] 14
      refine gd_wsp [gd_ob 4 h [.ref c, .ref sp, .ref ru, .ref md, .ref fe, .ref rd, .int wa], gd_ob 0 c [.ref ca, .long w], gd_aJ K ca 64 f, gd_aJ K ou 1 of] [1, 2, 3, 0] rfl rfl rfl ?_
      show gd_W X K 2 12 [gd_ob 4 h [.ref c, .ref sp, .ref ru, .ref md, .ref fe, .ref rd, .int wa], gd_ob 0 c [.ref ca, .long w], gd_aJ K ca 64 f, gd_aJ K ou 1 of] [(0, .ref h), (1, .int k), (2, .ref ou)] [.ref q9] 14
      refine gd_astore_n hX [(3, .ref q9), (0, .ref h), (1, .int k), (2, .ref ou)] 14 dd_La_get_14 rfl (by decide) rfl ?_
      refine gd_iconst hX 15 dd_La_get_15 (v := 2) (by decide) ?_
      exact gd_iret hX hE 16 dd_La_get_16 (Or.inr (Or.inr ⟨rfl, j, hj, hk, hb, rfl⟩))
set_option maxRecDepth 100000 in
set_option maxHeartbeats 4000000 in
theorem ct_La_sum (l : Launch) (K : gd_K) (hl : l.stackTraces = false) (h c sp ru md fe rd : Nat) (wa : Int32) (ca : Nat) (w : Int64) (f : Nat → Int64) (ou : Nat) (of : Nat → Int64) (k k2 : Int32) : gd_M l yy_La_sum bb_La_sum 5 (some .int) [(0, 9, 12, 13)] 8 113 2 12 K [.ref h, .int k, .int k2, .ref ou] [gd_ob 4 h [.ref c, .ref sp, .ref ru, .ref md, .ref fe, .ref rd, .int wa], gd_ob 0 c [.ref ca, .long w], gd_aJ K ca 64 f, gd_aJ K ou 1 of] (fun v9 w1 => (v9 = some (.int 0) ∧ ∃ a b, a < 64 ∧ b < 64 ∧ k = nI a ∧ k2 = nI b ∧ w1 = [gd_ob 4 h [.ref c, .ref sp, .ref ru, .ref md, .ref fe, .ref rd, .int wa], gd_ob 0 c [.ref ca, .long w], gd_aJ K ca 64 f, gd_aJ K ou 1 (vp_updL of 0 (ch_su w f a (b + 1 - a)))]) ∨ (v9 = some (.int 1) ∧ (ch_no k || ch_no k2) = true ∧ w1 = [gd_ob 4 h [.ref c, .ref sp, .ref ru, .ref md, .ref fe, .ref rd, .int wa], gd_ob 0 c [.ref ca, .long w], gd_aJ K ca 64 f, gd_aJ K ou 1 of])) (fun _ _ => False) := by
  refine gd_body (Nat.le_of_ble_eq_true rfl) (fun X hXl hin hE hX => ?_)
  refine gd_aload_n hX 0 dd_La_sum_0 rfl ?_
  refine gd_iconst hX 1 dd_La_sum_1 (v := 0) (by decide) ?_
  refine gd_aload_n hX 2 dd_La_sum_2 rfl ?_
  refine gd_iload_n hX 3 dd_La_sum_3 rfl ?_
  refine gd_iload_n hX 4 dd_La_sum_4 rfl ?_
  refine gd_call hX (st := [.int 0, .ref ou]) (wr := [gd_aJ K ou 1 of]) (ct_Ch_sum _ K (by rw [hXl]; exact hl) h c sp ru md fe rd wa ca w f k k2) 5 dd_La_sum_5 (gd_nV hX (As := [.int k, .int k2]) kw_295 kw_296 kw_297 (gd_sigOf (n := 2) kw_298 (by decide)) (by decide) 0 rfl rfl rfl rfl dd_La_sum_5) (gd_codeOf kw_298) (by decide) [0, 1, 2] [3] rfl rfl rfl rfl rfl (by decide) (Nat.le_of_ble_eq_true rfl) (Nat.le_of_ble_eq_true rfl) (Nat.le_of_ble_eq_true rfl) (Nat.le_of_ble_eq_true rfl) (fun v9 w9 h9 => ?_) (fun E9 w9 q9 hx9 => ?_)
  · skip
    obtain ⟨a, b, ha, hb, hk, hk2, rfl, rfl⟩ := h9
    refine gd_wsp [gd_ob 4 h [.ref c, .ref sp, .ref ru, .ref md, .ref fe, .ref rd, .int wa], gd_ob 0 c [.ref ca, .long w], gd_aJ K ca 64 f, gd_aJ K ou 1 of] [1, 2, 3, 0] rfl rfl rfl ?_
    show gd_W X K 2 12 [gd_ob 4 h [.ref c, .ref sp, .ref ru, .ref md, .ref fe, .ref rd, .int wa], gd_ob 0 c [.ref ca, .long w], gd_aJ K ca 64 f, gd_aJ K ou 1 of] [(0, .ref h), (1, .int k), (2, .int k2), (3, .ref ou)] [.long (ch_su w f a (b + 1 - a)), .int 0, .ref ou] 8
    refine gd_last hX 3 0 [gd_ob 4 h [.ref c, .ref sp, .ref ru, .ref md, .ref fe, .ref rd, .int wa], gd_ob 0 c [.ref ca, .long w], gd_aJ K ca 64 f, gd_aJ K ou 1 (vp_updL of 0 (ch_su w f a (b + 1 - a)))] 8 dd_La_sum_8 rfl rfl (by omega) (by decide) rfl ?_
    refine gd_goto hX 9 16 dd_La_sum_9 (by decide) ?_
    refine gd_iconst hX 16 dd_La_sum_16 (v := 0) (by decide) ?_
    exact gd_iret hX hE 17 dd_La_sum_17 (Or.inl ⟨rfl, a, b, ha, hb, hk, hk2, rfl⟩)
  · skip
    obtain ⟨rfl, rfl, hx⟩ := hx9
    refine gd_catch hX [] (0, 9, 12, 13) [] rfl (fun z hz => nomatch hz) (by decide) (by decide) kw_175 kw_185 ?_
    show gd_W X K 2 12 [gd_aJ K ou 1 of, gd_ob 4 h [.ref c, .ref sp, .ref ru, .ref md, .ref fe, .ref rd, .int wa], gd_ob 0 c [.ref ca, .long w], gd_aJ K ca 64 f] [(0, .ref h), (1, .int k), (2, .int k2), (3, .ref ou)] [.ref q9] 12
    refine gd_wsp [gd_ob 4 h [.ref c, .ref sp, .ref ru, .ref md, .ref fe, .ref rd, .int wa], gd_ob 0 c [.ref ca, .long w], gd_aJ K ca 64 f, gd_aJ K ou 1 of] [1, 2, 3, 0] rfl rfl rfl ?_
    show gd_W X K 2 12 [gd_ob 4 h [.ref c, .ref sp, .ref ru, .ref md, .ref fe, .ref rd, .int wa], gd_ob 0 c [.ref ca, .long w], gd_aJ K ca 64 f, gd_aJ K ou 1 of] [(0, .ref h), (1, .int k), (2, .int k2), (3, .ref ou)] [.ref q9] 12
    refine gd_astore hX [(4, .ref q9), (0, .ref h), (1, .int k), (2, .int k2), (3, .ref ou)] 12 dd_La_sum_12 (by decide) rfl ?_
    refine gd_iconst hX 14 dd_La_sum_14 (v := 1) (by decide) ?_
    exact gd_iret hX hE 15 dd_La_sum_15 (Or.inr ⟨rfl, (by rcases hx with h | h; { rw [ch_no_t h]; rfl }; { rw [ch_no_t h, Bool.or_true] }), rfl⟩)
set_option maxRecDepth 100000 in
set_option maxHeartbeats 4000000 in
theorem ct_La_code (l : Launch) (K : gd_K) (hl : l.stackTraces = false) (h c sp ru md fe rd : Nat) (wa : Int32) (mr : Nat) (L : List Nat) (fm : Nat → Int32) (ou : Nat) (of : Nat → Int64) (k : Int32) (hL : L.length ≤ 712) (hB : ch_B fm L) : gd_M l yy_La_code bb_La_code 4 (some .int) [(0, 8, 11, 13)] 7 101 1 6 K [.ref h, .int k, .ref ou] [gd_ob 4 h [.ref c, .ref sp, .ref ru, .ref md, .ref fe, .ref rd, .int wa], gd_ob 1 md [.ref mr, .int (nI L.length)], gd_aB K mr 712 fm, gd_aJ K ou 1 of] (fun v9 w1 => (v9 = some (.int 0) ∧ ∃ j, j < (L.length + 7) / 8 ∧ k = nI j ∧ w1 = [gd_ob 4 h [.ref c, .ref sp, .ref ru, .ref md, .ref fe, .ref rd, .int wa], gd_ob 1 md [.ref mr, .int (nI L.length)], gd_aB K mr 712 fm, gd_aJ K ou 1 (vp_updL of 0 (ch_wd L j 8))]) ∨ (v9 = some (.int 1) ∧ (k < 0 ∨ nI ((L.length + 7) / 8) ≤ k) ∧ w1 = [gd_ob 4 h [.ref c, .ref sp, .ref ru, .ref md, .ref fe, .ref rd, .int wa], gd_ob 1 md [.ref mr, .int (nI L.length)], gd_aB K mr 712 fm, gd_aJ K ou 1 of])) (fun _ _ => False) := by
  refine gd_body (Nat.le_of_ble_eq_true rfl) (fun X hXl hin hE hX => ?_)
  refine gd_aload_n hX 0 dd_La_code_0 rfl ?_
  refine gd_iconst hX 1 dd_La_code_1 (v := 0) (by decide) ?_
  refine gd_aload_n hX 2 dd_La_code_2 rfl ?_
  refine gd_iload_n hX 3 dd_La_code_3 rfl ?_
  refine gd_call hX (st := [.int 0, .ref ou]) (wr := [gd_aJ K ou 1 of]) (ct_Ch_code _ K (by rw [hXl]; exact hl) h c sp ru md fe rd wa mr L fm k hL hB) 4 dd_La_code_4 (gd_nV hX (As := [.int k]) kw_302 kw_303 kw_304 (gd_sigOf (n := 1) kw_305 (by decide)) (by decide) 0 rfl rfl rfl rfl dd_La_code_4) (gd_codeOf kw_305) (by decide) [0, 1, 2] [3] rfl rfl rfl rfl rfl (by decide) (Nat.le_of_ble_eq_true rfl) (Nat.le_of_ble_eq_true rfl) (Nat.le_of_ble_eq_true rfl) (Nat.le_of_ble_eq_true rfl) (fun v9 w9 h9 => ?_) (fun E9 w9 q9 hx9 => ?_)
  · skip
    obtain ⟨j, hj, hk, rfl, rfl⟩ := h9
    refine gd_wsp [gd_ob 4 h [.ref c, .ref sp, .ref ru, .ref md, .ref fe, .ref rd, .int wa], gd_ob 1 md [.ref mr, .int (nI L.length)], gd_aB K mr 712 fm, gd_aJ K ou 1 of] [1, 2, 3, 0] rfl rfl rfl ?_
    show gd_W X K 1 6 [gd_ob 4 h [.ref c, .ref sp, .ref ru, .ref md, .ref fe, .ref rd, .int wa], gd_ob 1 md [.ref mr, .int (nI L.length)], gd_aB K mr 712 fm, gd_aJ K ou 1 of] [(0, .ref h), (1, .int k), (2, .ref ou)] [.long (ch_wd L j 8), .int 0, .ref ou] 7
    refine gd_last hX 3 0 [gd_ob 4 h [.ref c, .ref sp, .ref ru, .ref md, .ref fe, .ref rd, .int wa], gd_ob 1 md [.ref mr, .int (nI L.length)], gd_aB K mr 712 fm, gd_aJ K ou 1 (vp_updL of 0 (ch_wd L j 8))] 7 dd_La_code_7 rfl rfl (by omega) (by decide) rfl ?_
    refine gd_goto hX 8 14 dd_La_code_8 (by decide) ?_
    refine gd_iconst hX 14 dd_La_code_14 (v := 0) (by decide) ?_
    exact gd_iret hX hE 15 dd_La_code_15 (Or.inl ⟨rfl, j, hj, hk, rfl⟩)
  · skip
    obtain ⟨rfl, rfl, hx⟩ := hx9
    refine gd_catch hX [] (0, 8, 11, 13) [] rfl (fun z hz => nomatch hz) (by decide) (by decide) kw_175 kw_185 ?_
    show gd_W X K 1 6 [gd_aJ K ou 1 of, gd_ob 4 h [.ref c, .ref sp, .ref ru, .ref md, .ref fe, .ref rd, .int wa], gd_ob 1 md [.ref mr, .int (nI L.length)], gd_aB K mr 712 fm] [(0, .ref h), (1, .int k), (2, .ref ou)] [.ref q9] 11
    refine gd_wsp [gd_ob 4 h [.ref c, .ref sp, .ref ru, .ref md, .ref fe, .ref rd, .int wa], gd_ob 1 md [.ref mr, .int (nI L.length)], gd_aB K mr 712 fm, gd_aJ K ou 1 of] [1, 2, 3, 0] rfl rfl rfl ?_
    show gd_W X K 1 6 [gd_ob 4 h [.ref c, .ref sp, .ref ru, .ref md, .ref fe, .ref rd, .int wa], gd_ob 1 md [.ref mr, .int (nI L.length)], gd_aB K mr 712 fm, gd_aJ K ou 1 of] [(0, .ref h), (1, .int k), (2, .ref ou)] [.ref q9] 11
    refine gd_astore_n hX [(3, .ref q9), (0, .ref h), (1, .int k), (2, .ref ou)] 11 dd_La_code_11 rfl (by decide) rfl ?_
    refine gd_iconst hX 12 dd_La_code_12 (v := 1) (by decide) ?_
    exact gd_iret hX hE 13 dd_La_code_13 (Or.inr ⟨rfl, hx, rfl⟩)
set_option maxRecDepth 100000 in
set_option maxHeartbeats 4000000 in
theorem ct_La_feed (l : Launch) (K : gd_K) (hl : l.stackTraces = false) (h c sp ru md fe rd : Nat) (wa : Int32) (fr : Nat) (L : List Nat) (ff : Nat → Int32) (ou : Nat) (of : Nat → Int64) (x : Int64) (k : Int32) (hL : L.length ≤ 1000) (hB : ch_B ff L) : gd_M l yy_La_feed bb_La_feed 6 (some .int) [(0, 11, 14, 36), (0, 11, 18, 13)] 7 100 1 6 K [.ref h, .long x, .int k, .ref ou] [gd_ob 4 h [.ref c, .ref sp, .ref ru, .ref md, .ref fe, .ref rd, .int wa], gd_ob 1 fe [.ref fr, .int (nI L.length)], gd_aB K fr 1000 ff, gd_aJ K ou 1 of] (fun v9 w1 => (v9 = some (.int 0) ∧ ∃ n, 1 ≤ n ∧ n ≤ 8 ∧ k = nI n ∧ L.length + n ≤ 1000 ∧ ∃ ff', w1 = [gd_ob 4 h [.ref c, .ref sp, .ref ru, .ref md, .ref fe, .ref rd, .int wa], gd_ob 1 fe [.ref fr, .int (nI (L ++ (ch_fd x).take n).length)], gd_aB K fr 1000 ff', gd_aJ K ou 1 (vp_updL of 0 ((nI (L ++ (ch_fd x).take n).length).toInt64))] ∧ ch_B ff' (L ++ (ch_fd x).take n)) ∨ (v9 = some (.int 1) ∧ (k < 1 ∨ 8 < k) ∧ w1 = [gd_ob 4 h [.ref c, .ref sp, .ref ru, .ref md, .ref fe, .ref rd, .int wa], gd_ob 1 fe [.ref fr, .int (nI L.length)], gd_aB K fr 1000 ff, gd_aJ K ou 1 of]) ∨ (v9 = some (.int 2) ∧ ∃ n, 1 ≤ n ∧ n ≤ 8 ∧ k = nI n ∧ 1000 < L.length + n ∧ w1 = [gd_ob 4 h [.ref c, .ref sp, .ref ru, .ref md, .ref fe, .ref rd, .int wa], gd_ob 1 fe [.ref fr, .int (nI L.length)], gd_aB K fr 1000 ff, gd_aJ K ou 1 of])) (fun _ _ => False) := by
  refine gd_body (Nat.le_of_ble_eq_true rfl) (fun X hXl hin hE hX => ?_)
  refine gd_aload hX 0 dd_La_feed_0 rfl ?_
  refine gd_iconst hX 2 dd_La_feed_2 (v := 0) (by decide) ?_
  refine gd_aload_n hX 3 dd_La_feed_3 rfl ?_
  refine gd_lload_n hX 4 dd_La_feed_4 rfl ?_
  refine gd_iload_n hX 5 dd_La_feed_5 rfl ?_
  refine gd_call hX (st := [.int 0, .ref ou]) (wr := [gd_aJ K ou 1 of]) (ct_Ch_feed _ K (by rw [hXl]; exact hl) h c sp ru md fe rd wa fr L ff x k hL hB) 6 dd_La_feed_6 (gd_nV hX (As := [.long x, .int k]) kw_315 kw_316 kw_317 (gd_sigOf (n := 2) kw_318 (by decide)) (by decide) 0 rfl rfl rfl rfl dd_La_feed_6) (gd_codeOf kw_318) (by decide) [0, 1, 2] [3] rfl rfl rfl rfl rfl (by decide) (Nat.le_of_ble_eq_true rfl) (Nat.le_of_ble_eq_true rfl) (Nat.le_of_ble_eq_true rfl) (Nat.le_of_ble_eq_true rfl) (fun v9 w9 h9 => ?_) (fun E9 w9 q9 hx9 => ?_)
  · skip
    obtain ⟨n, h1, h2, hk, h3, rfl, ff', rfl, hB2⟩ := h9
    refine gd_wsp [gd_ob 4 h [.ref c, .ref sp, .ref ru, .ref md, .ref fe, .ref rd, .int wa], gd_ob 1 fe [.ref fr, .int (nI (L ++ (ch_fd x).take n).length)], gd_aB K fr 1000 ff', gd_aJ K ou 1 of] [1, 2, 3, 0] rfl rfl rfl ?_
    show gd_W X K 1 6 [gd_ob 4 h [.ref c, .ref sp, .ref ru, .ref md, .ref fe, .ref rd, .int wa], gd_ob 1 fe [.ref fr, .int (nI (L ++ (ch_fd x).take n).length)], gd_aB K fr 1000 ff', gd_aJ K ou 1 of] [(0, .ref h), (1, .long x), (3, .int k), (4, .ref ou)] [.int (nI (L ++ (ch_fd x).take n).length), .int 0, .ref ou] 9
    refine gd_i2l hX 9 dd_La_feed_9 ?_
    refine gd_last hX 3 0 [gd_ob 4 h [.ref c, .ref sp, .ref ru, .ref md, .ref fe, .ref rd, .int wa], gd_ob 1 fe [.ref fr, .int (nI (L ++ (ch_fd x).take n).length)], gd_aB K fr 1000 ff', gd_aJ K ou 1 (vp_updL of 0 ((nI (L ++ (ch_fd x).take n).length).toInt64))] 10 dd_La_feed_10 rfl rfl (by omega) (by decide) rfl ?_
    refine gd_goto hX 11 22 dd_La_feed_11 (by decide) ?_
    refine gd_iconst hX 22 dd_La_feed_22 (v := 0) (by decide) ?_
    exact gd_iret hX hE 23 dd_La_feed_23 (Or.inl ⟨rfl, n, h1, h2, hk, h3, ff', rfl, hB2⟩)
  · skip
    rcases hx9 with hx9 | hx9
    · skip
      obtain ⟨rfl, rfl, hx⟩ := hx9
      refine gd_catch hX [] (0, 11, 14, 36) [(0, 11, 18, 13)] rfl (fun z hz => nomatch hz) (by decide) (by decide) kw_314 kw_321 ?_
      show gd_W X K 1 6 [gd_aJ K ou 1 of, gd_ob 4 h [.ref c, .ref sp, .ref ru, .ref md, .ref fe, .ref rd, .int wa], gd_ob 1 fe [.ref fr, .int (nI L.length)], gd_aB K fr 1000 ff] [(0, .ref h), (1, .long x), (3, .int k), (4, .ref ou)] [.ref q9] 14
      refine gd_wsp [gd_ob 4 h [.ref c, .ref sp, .ref ru, .ref md, .ref fe, .ref rd, .int wa], gd_ob 1 fe [.ref fr, .int (nI L.length)], gd_aB K fr 1000 ff, gd_aJ K ou 1 of] [1, 2, 3, 0] rfl rfl rfl ?_
      show gd_W X K 1 6 [gd_ob 4 h [.ref c, .ref sp, .ref ru, .ref md, .ref fe, .ref rd, .int wa], gd_ob 1 fe [.ref fr, .int (nI L.length)], gd_aB K fr 1000 ff, gd_aJ K ou 1 of] [(0, .ref h), (1, .long x), (3, .int k), (4, .ref ou)] [.ref q9] 14
      refine gd_astore hX [(5, .ref q9), (0, .ref h), (1, .long x), (3, .int k), (4, .ref ou)] 14 dd_La_feed_14 (by decide) rfl ?_
      refine gd_iconst hX 16 dd_La_feed_16 (v := 1) (by decide) ?_
      exact gd_iret hX hE 17 dd_La_feed_17 (Or.inr (Or.inl ⟨rfl, hx, rfl⟩))
    · skip
      obtain ⟨rfl, rfl, n, h1, h2, hk, h3⟩ := hx9
      refine gd_catch hX [(0, 11, 14, 36)] (0, 11, 18, 13) [] rfl (fun z hz => by cases List.mem_singleton.mp hz; exact ⟨by decide, _, kw_314, hX.2.2.1.2.2.2.2.2.2.1⟩) (by decide) (by decide) kw_175 kw_185 ?_
      show gd_W X K 1 6 [gd_aJ K ou 1 of, gd_ob 4 h [.ref c, .ref sp, .ref ru, .ref md, .ref fe, .ref rd, .int wa], gd_ob 1 fe [.ref fr, .int (nI L.length)], gd_aB K fr 1000 ff] [(0, .ref h), (1, .long x), (3, .int k), (4, .ref ou)] [.ref q9] 18
      refine gd_wsp [gd_ob 4 h [.ref c, .ref sp, .ref ru, .ref md, .ref fe, .ref rd, .int wa], gd_ob 1 fe [.ref fr, .int (nI L.length)], gd_aB K fr 1000 ff, gd_aJ K ou 1 of] [1, 2, 3, 0] rfl rfl rfl ?_
      show gd_W X K 1 6 [gd_ob 4 h [.ref c, .ref sp, .ref ru, .ref md, .ref fe, .ref rd, .int wa], gd_ob 1 fe [.ref fr, .int (nI L.length)], gd_aB K fr 1000 ff, gd_aJ K ou 1 of] [(0, .ref h), (1, .long x), (3, .int k), (4, .ref ou)] [.ref q9] 18
      refine gd_astore hX [(5, .ref q9), (0, .ref h), (1, .long x), (3, .int k), (4, .ref ou)] 18 dd_La_feed_18 (by decide) rfl ?_
      refine gd_iconst hX 20 dd_La_feed_20 (v := 2) (by decide) ?_
      exact gd_iret hX hE 21 dd_La_feed_21 (Or.inr (Or.inr ⟨rfl, n, h1, h2, hk, h3, rfl⟩))
set_option maxRecDepth 100000 in
set_option maxHeartbeats 4000000 in
theorem ct_La_decode (l : Launch) (K : gd_K) (hl : l.stackTraces = false) (h c sp ru md fe rd : Nat) (wa : Int32) (sa : Nat) (t : Int32) (fo w0 : Int64) (G : Nat → Int64) (fr : Nat) (L : List Nat) (ff : Nat → Int32) (ou : Nat) (of : Nat → Int64) (hL : L.length ≤ 1000) (hB : ch_B ff L) (hO : ∀ x ∈ L, x < 256) : gd_M l yy_La_decode bb_La_decode 3 (some .int) [(0, 8, 11, 36)] 7 98 1 6 K [.ref h, .ref ou] [gd_ob 4 h [.ref c, .ref sp, .ref ru, .ref md, .ref fe, .ref rd, .int wa], gd_ob 2 rd [.int t, .long fo], gd_ob 1 fe [.ref fr, .int (nI L.length)], gd_aB K fr 1000 ff, gd_ob 0 sp [.ref sa, .long w0], gd_aJ K sa 64 G, gd_aJ K ou 1 of] (fun v9 w1 => (v9 = some (.int 0) ∧ ∃ z, (ch_dec L).2 = some z ∧ ∃ fo' G', w1 = [gd_ob 4 h [.ref sp, .ref c, .ref ru, .ref md, .ref fe, .ref rd, .int (-1)], gd_ob 2 rd [.int (nI (ch_dec L).1), .long fo'], gd_ob 1 fe [.ref fr, .int (nI 0)], gd_aB K fr 1000 ff, gd_ob 0 sp [.ref sa, .long z.1], gd_aJ K sa 64 G', gd_aJ K ou 1 (vp_updL of 0 ((nI (ch_pop z.1 64)).toInt64))] ∧ ∀ j, j < 64 → ch_bit z.1 j = true → G' j = z.2 j) ∨ (v9 = some (.int 1) ∧ (ch_dec L).2 = none ∧ ∃ fo' wm' G', w1 = [gd_ob 4 h [.ref c, .ref sp, .ref ru, .ref md, .ref fe, .ref rd, .int (nI (ch_dec L).1)], gd_ob 2 rd [.int (nI (ch_dec L).1), .long fo'], gd_ob 1 fe [.ref fr, .int (nI 0)], gd_aB K fr 1000 ff, gd_ob 0 sp [.ref sa, .long wm'], gd_aJ K sa 64 G', gd_aJ K ou 1 of])) (fun _ _ => False) := by
  refine gd_body (Nat.le_of_ble_eq_true rfl) (fun X hXl hin hE hX => ?_)
  refine gd_aload_n hX 0 dd_La_decode_0 rfl ?_
  refine gd_iconst hX 1 dd_La_decode_1 (v := 0) (by decide) ?_
  refine gd_aload_n hX 2 dd_La_decode_2 rfl ?_
  refine gd_call hX (st := [.int 0, .ref ou]) (wr := [gd_aJ K ou 1 of]) (ct_Ch_decode _ K (by rw [hXl]; exact hl) h c sp ru md fe rd wa sa t fo w0 G fr L ff hL hB hO) 3 dd_La_decode_3 (gd_nV hX (As := []) kw_339 kw_340 kw_341 (gd_sigOf (n := 0) kw_342 (by decide)) (by decide) 0 rfl rfl rfl rfl dd_La_decode_3) (gd_codeOf kw_342) (by decide) [0, 1, 2, 3, 4, 5] [6] rfl rfl rfl rfl rfl (by decide) (Nat.le_of_ble_eq_true rfl) (Nat.le_of_ble_eq_true rfl) (Nat.le_of_ble_eq_true rfl) (Nat.le_of_ble_eq_true rfl) (fun v9 w9 h9 => ?_) (fun E9 w9 q9 hx9 => ?_)
  · skip
    obtain ⟨z, hz, rfl, fo', G', rfl, hG⟩ := h9
    refine gd_wsp [gd_ob 4 h [.ref sp, .ref c, .ref ru, .ref md, .ref fe, .ref rd, .int (-1)], gd_ob 2 rd [.int (nI (ch_dec L).1), .long fo'], gd_ob 1 fe [.ref fr, .int (nI 0)], gd_aB K fr 1000 ff, gd_ob 0 sp [.ref sa, .long z.1], gd_aJ K sa 64 G', gd_aJ K ou 1 of] [1, 2, 3, 4, 5, 6, 0] rfl rfl rfl ?_
    show gd_W X K 1 6 [gd_ob 4 h [.ref sp, .ref c, .ref ru, .ref md, .ref fe, .ref rd, .int (-1)], gd_ob 2 rd [.int (nI (ch_dec L).1), .long fo'], gd_ob 1 fe [.ref fr, .int (nI 0)], gd_aB K fr 1000 ff, gd_ob 0 sp [.ref sa, .long z.1], gd_aJ K sa 64 G', gd_aJ K ou 1 of] [(0, .ref h), (1, .ref ou)] [.int (nI (ch_pop z.1 64)), .int 0, .ref ou] 6
    refine gd_i2l hX 6 dd_La_decode_6 ?_
    refine gd_last hX 6 0 [gd_ob 4 h [.ref sp, .ref c, .ref ru, .ref md, .ref fe, .ref rd, .int (-1)], gd_ob 2 rd [.int (nI (ch_dec L).1), .long fo'], gd_ob 1 fe [.ref fr, .int (nI 0)], gd_aB K fr 1000 ff, gd_ob 0 sp [.ref sa, .long z.1], gd_aJ K sa 64 G', gd_aJ K ou 1 (vp_updL of 0 ((nI (ch_pop z.1 64)).toInt64))] 7 dd_La_decode_7 rfl rfl (by omega) (by decide) rfl ?_
    refine gd_goto hX 8 14 dd_La_decode_8 (by decide) ?_
    refine gd_iconst hX 14 dd_La_decode_14 (v := 0) (by decide) ?_
    exact gd_iret hX hE 15 dd_La_decode_15 (Or.inl ⟨rfl, z, hz, fo', G', rfl, hG⟩)
  · skip
    obtain ⟨rfl, hn, fo', wm', G', rfl⟩ := hx9
    refine gd_catch hX [] (0, 8, 11, 36) [] rfl (fun z hz => nomatch hz) (by decide) (by decide) kw_314 kw_321 ?_
    show gd_W X K 1 6 [gd_aJ K ou 1 of, gd_ob 4 h [.ref c, .ref sp, .ref ru, .ref md, .ref fe, .ref rd, .int (nI (ch_dec L).1)], gd_ob 2 rd [.int (nI (ch_dec L).1), .long fo'], gd_ob 1 fe [.ref fr, .int (nI 0)], gd_aB K fr 1000 ff, gd_ob 0 sp [.ref sa, .long wm'], gd_aJ K sa 64 G'] [(0, .ref h), (1, .ref ou)] [.ref q9] 11
    refine gd_wsp [gd_ob 4 h [.ref c, .ref sp, .ref ru, .ref md, .ref fe, .ref rd, .int (nI (ch_dec L).1)], gd_ob 2 rd [.int (nI (ch_dec L).1), .long fo'], gd_ob 1 fe [.ref fr, .int (nI 0)], gd_aB K fr 1000 ff, gd_ob 0 sp [.ref sa, .long wm'], gd_aJ K sa 64 G', gd_aJ K ou 1 of] [1, 2, 3, 4, 5, 6, 0] rfl rfl rfl ?_
    show gd_W X K 1 6 [gd_ob 4 h [.ref c, .ref sp, .ref ru, .ref md, .ref fe, .ref rd, .int (nI (ch_dec L).1)], gd_ob 2 rd [.int (nI (ch_dec L).1), .long fo'], gd_ob 1 fe [.ref fr, .int (nI 0)], gd_aB K fr 1000 ff, gd_ob 0 sp [.ref sa, .long wm'], gd_aJ K sa 64 G', gd_aJ K ou 1 of] [(0, .ref h), (1, .ref ou)] [.ref q9] 11
    refine gd_astore_n hX [(2, .ref q9), (0, .ref h), (1, .ref ou)] 11 dd_La_decode_11 rfl (by decide) rfl ?_
    refine gd_iconst hX 12 dd_La_decode_12 (v := 1) (by decide) ?_
    exact gd_iret hX hE 13 dd_La_decode_13 (Or.inr ⟨rfl, hn, fo', wm', G', rfl⟩)
set_option maxRecDepth 100000 in
set_option maxHeartbeats 4000000 in
theorem ct_La_count (l : Launch) (K : gd_K) (hl : l.stackTraces = false) (h c sp ru md fe rd : Nat) (wa : Int32) (ra rb : Nat) (n : Int32) (rn : Nat → Int64) (rs : Nat → Int32) (ca : Nat) (w : Int64) (f : Nat → Int64) (fr mr : Nat) (Lf Lm : List Nat) (ou : Nat) (of : Nat → Int64) (k : Int32) : gd_M l yy_La_count bb_La_count 4 (some .int) [(0, 9, 12, 36)] 7 97 1 6 K [.ref h, .int k, .ref ou] [gd_ob 4 h [.ref c, .ref sp, .ref ru, .ref md, .ref fe, .ref rd, .int wa], gd_ob 3 ru [.ref ra, .ref rb, .int n], gd_aJ K ra 64 rn, gd_aI K rb 64 rs, gd_ob 0 c [.ref ca, .long w], gd_aJ K ca 64 f, gd_ob 1 fe [.ref fr, .int (nI Lf.length)], gd_ob 1 md [.ref mr, .int (nI Lm.length)], gd_aJ K ou 1 of] (fun v9 w1 => (v9 = some (.int 0) ∧ ∃ j, j < 5 ∧ k = nI j ∧ ∃ n' rn' rs', w1 = [gd_ob 4 h [.ref c, .ref sp, .ref ru, .ref md, .ref fe, .ref rd, .int wa], gd_ob 3 ru [.ref ra, .ref rb, .int n'], gd_aJ K ra 64 rn', gd_aI K rb 64 rs', gd_ob 0 c [.ref ca, .long w], gd_aJ K ca 64 f, gd_ob 1 fe [.ref fr, .int (nI Lf.length)], gd_ob 1 md [.ref mr, .int (nI Lm.length)], gd_aJ K ou 1 (vp_updL of 0 ((nI (ch_ct w f Lf Lm j)).toInt64))]) ∨ (v9 = some (.int 1) ∧ (k < 0 ∨ 4 < k) ∧ w1 = [gd_ob 4 h [.ref c, .ref sp, .ref ru, .ref md, .ref fe, .ref rd, .int wa], gd_ob 3 ru [.ref ra, .ref rb, .int n], gd_aJ K ra 64 rn, gd_aI K rb 64 rs, gd_ob 0 c [.ref ca, .long w], gd_aJ K ca 64 f, gd_ob 1 fe [.ref fr, .int (nI Lf.length)], gd_ob 1 md [.ref mr, .int (nI Lm.length)], gd_aJ K ou 1 of])) (fun _ _ => False) := by
  refine gd_body (Nat.le_of_ble_eq_true rfl) (fun X hXl hin hE hX => ?_)
  refine gd_aload_n hX 0 dd_La_count_0 rfl ?_
  refine gd_iconst hX 1 dd_La_count_1 (v := 0) (by decide) ?_
  refine gd_aload_n hX 2 dd_La_count_2 rfl ?_
  refine gd_iload_n hX 3 dd_La_count_3 rfl ?_
  refine gd_call hX (st := [.int 0, .ref ou]) (wr := [gd_aJ K ou 1 of]) (ct_Ch_count _ K (by rw [hXl]; exact hl) h c sp ru md fe rd wa ra rb n rn rs ca w f fr mr Lf Lm k) 4 dd_La_count_4 (gd_nV hX (As := [.int k]) kw_393 kw_394 kw_395 (gd_sigOf (n := 1) kw_396 (by decide)) (by decide) 0 rfl rfl rfl rfl dd_La_count_4) (gd_codeOf kw_396) (by decide) [0, 1, 2, 3, 4, 5, 6, 7] [8] rfl rfl rfl rfl rfl (by decide) (Nat.le_of_ble_eq_true rfl) (Nat.le_of_ble_eq_true rfl) (Nat.le_of_ble_eq_true rfl) (Nat.le_of_ble_eq_true rfl) (fun v9 w9 h9 => ?_) (fun E9 w9 q9 hx9 => ?_)
  · skip
    obtain ⟨j, hj, hk, rfl, n', rn', rs', rfl⟩ := h9
    refine gd_wsp [gd_ob 4 h [.ref c, .ref sp, .ref ru, .ref md, .ref fe, .ref rd, .int wa], gd_ob 3 ru [.ref ra, .ref rb, .int n'], gd_aJ K ra 64 rn', gd_aI K rb 64 rs', gd_ob 0 c [.ref ca, .long w], gd_aJ K ca 64 f, gd_ob 1 fe [.ref fr, .int (nI Lf.length)], gd_ob 1 md [.ref mr, .int (nI Lm.length)], gd_aJ K ou 1 of] [1, 2, 3, 4, 5, 6, 7, 8, 0] rfl rfl rfl ?_
    show gd_W X K 1 6 [gd_ob 4 h [.ref c, .ref sp, .ref ru, .ref md, .ref fe, .ref rd, .int wa], gd_ob 3 ru [.ref ra, .ref rb, .int n'], gd_aJ K ra 64 rn', gd_aI K rb 64 rs', gd_ob 0 c [.ref ca, .long w], gd_aJ K ca 64 f, gd_ob 1 fe [.ref fr, .int (nI Lf.length)], gd_ob 1 md [.ref mr, .int (nI Lm.length)], gd_aJ K ou 1 of] [(0, .ref h), (1, .int k), (2, .ref ou)] [.int (nI (ch_ct w f Lf Lm j)), .int 0, .ref ou] 7
    refine gd_i2l hX 7 dd_La_count_7 ?_
    refine gd_last hX 8 0 [gd_ob 4 h [.ref c, .ref sp, .ref ru, .ref md, .ref fe, .ref rd, .int wa], gd_ob 3 ru [.ref ra, .ref rb, .int n'], gd_aJ K ra 64 rn', gd_aI K rb 64 rs', gd_ob 0 c [.ref ca, .long w], gd_aJ K ca 64 f, gd_ob 1 fe [.ref fr, .int (nI Lf.length)], gd_ob 1 md [.ref mr, .int (nI Lm.length)], gd_aJ K ou 1 (vp_updL of 0 ((nI (ch_ct w f Lf Lm j)).toInt64))] 8 dd_La_count_8 rfl rfl (by omega) (by decide) rfl ?_
    refine gd_goto hX 9 15 dd_La_count_9 (by decide) ?_
    refine gd_iconst hX 15 dd_La_count_15 (v := 0) (by decide) ?_
    exact gd_iret hX hE 16 dd_La_count_16 (Or.inl ⟨rfl, j, hj, hk, n', rn', rs', rfl⟩)
  · skip
    obtain ⟨rfl, rfl, hx⟩ := hx9
    refine gd_catch hX [] (0, 9, 12, 36) [] rfl (fun z hz => nomatch hz) (by decide) (by decide) kw_314 kw_321 ?_
    show gd_W X K 1 6 [gd_aJ K ou 1 of, gd_ob 4 h [.ref c, .ref sp, .ref ru, .ref md, .ref fe, .ref rd, .int wa], gd_ob 3 ru [.ref ra, .ref rb, .int n], gd_aJ K ra 64 rn, gd_aI K rb 64 rs, gd_ob 0 c [.ref ca, .long w], gd_aJ K ca 64 f, gd_ob 1 fe [.ref fr, .int (nI Lf.length)], gd_ob 1 md [.ref mr, .int (nI Lm.length)]] [(0, .ref h), (1, .int k), (2, .ref ou)] [.ref q9] 12
    refine gd_wsp [gd_ob 4 h [.ref c, .ref sp, .ref ru, .ref md, .ref fe, .ref rd, .int wa], gd_ob 3 ru [.ref ra, .ref rb, .int n], gd_aJ K ra 64 rn, gd_aI K rb 64 rs, gd_ob 0 c [.ref ca, .long w], gd_aJ K ca 64 f, gd_ob 1 fe [.ref fr, .int (nI Lf.length)], gd_ob 1 md [.ref mr, .int (nI Lm.length)], gd_aJ K ou 1 of] [1, 2, 3, 4, 5, 6, 7, 8, 0] rfl rfl rfl ?_
    show gd_W X K 1 6 [gd_ob 4 h [.ref c, .ref sp, .ref ru, .ref md, .ref fe, .ref rd, .int wa], gd_ob 3 ru [.ref ra, .ref rb, .int n], gd_aJ K ra 64 rn, gd_aI K rb 64 rs, gd_ob 0 c [.ref ca, .long w], gd_aJ K ca 64 f, gd_ob 1 fe [.ref fr, .int (nI Lf.length)], gd_ob 1 md [.ref mr, .int (nI Lm.length)], gd_aJ K ou 1 of] [(0, .ref h), (1, .int k), (2, .ref ou)] [.ref q9] 12
    refine gd_astore_n hX [(3, .ref q9), (0, .ref h), (1, .int k), (2, .ref ou)] 12 dd_La_count_12 rfl (by decide) rfl ?_
    refine gd_iconst hX 13 dd_La_count_13 (v := 1) (by decide) ?_
    exact gd_iret hX hE 14 dd_La_count_14 (Or.inr ⟨rfl, (by rcases hx with h | h; { exact Or.inl (Int32.lt_iff_toInt_lt.mpr h) }; { exact Or.inr (Int32.lt_iff_toInt_lt.mpr h) }), rfl⟩)
