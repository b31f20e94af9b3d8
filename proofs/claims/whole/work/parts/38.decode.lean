set_option maxRecDepth 100000 in
set_option maxHeartbeats 4000000 in
theorem ct_Rd_read (l : Launch) (K : gd_K) (h sp sa : Nat) (t : Int32) (fo w0 : Int64) (G : Nat → Int64) (fe fr : Nat) (L : List Nat) (ff : Nat → Int32) (hL : L.length ≤ 1000) (hB : ch_B ff L) (hO : ∀ x ∈ L, x < 256) : gd_M l yy_Rd_read bb_Rd_read 5 (some .boolean) [] 3 52 0 0 K [.ref h, .ref fe, .ref sp] [gd_ob 2 h [.int t, .long fo], gd_ob 1 fe [.ref fr, .int (nI L.length)], gd_aB K fr 1000 ff, gd_ob 0 sp [.ref sa, .long w0], gd_aJ K sa 64 G] (fun v w1 => v = some (.int (if (ch_dec L).2.isSome then 1 else 0)) ∧ ∃ fo' wm' G', w1 = [gd_ob 2 h [.int (nI (ch_dec L).1), .long fo'], gd_ob 1 fe [.ref fr, .int (nI L.length)], gd_aB K fr 1000 ff, gd_ob 0 sp [.ref sa, .long wm'], gd_aJ K sa 64 G'] ∧ ∀ z, (ch_dec L).2 = some z → wm' = z.1 ∧ ∀ j, j < 64 → ch_bit z.1 j = true → G' j = z.2 j) (fun _ _ => False) := by
  refine gd_body (Nat.le_of_ble_eq_true rfl) (fun X hXl hin hE hX => ?_)
  refine gd_aload_n hX 0 dd_Rd_read_0 rfl ?_
  refine gd_iconst hX 1 dd_Rd_read_1 (v := 0) (by decide) ?_
  refine gd_eqi (show (0 : Int32) = nI 0 from rfl) ?_
  refine gd_put hX inC_Rd ty_Rd tyk_Rd nm_Rd 0 0 [gd_ob 2 h [.int (nI 0), .long fo], gd_ob 1 fe [.ref fr, .int (nI L.length)], gd_aB K fr 1000 ff, gd_ob 0 sp [.ref sa, .long w0], gd_aJ K sa 64 G] 2 dd_Rd_read_2 rfl rfl (by decide) kw_85 rfl rfl rfl (Nat.le_of_ble_eq_true rfl) rfl ?_
  refine gd_aload_n hX 5 dd_Rd_read_5 rfl ?_
  refine gd_call hX (st := []) (wr := [gd_ob 2 h [.int (nI 0), .long fo], gd_ob 1 fe [.ref fr, .int (nI L.length)], gd_aB K fr 1000 ff, gd_aJ K sa 64 G]) (ct_Cl_clearAll _ K sp sa w0) 6 dd_Rd_read_6 (gd_nV hX (As := []) kw_347 kw_348 kw_349 (gd_sigOf (n := 0) kw_350 (by decide)) (by decide) 3 rfl rfl rfl rfl dd_Rd_read_6) (gd_codeOf kw_350) (by decide) [3] [0, 1, 2, 4] rfl rfl rfl rfl rfl (by decide) (Nat.le_of_ble_eq_true rfl) (Nat.le_of_ble_eq_true rfl) (Nat.le_of_ble_eq_true rfl) (Nat.le_of_ble_eq_true rfl) (fun v9 w9 h9 => ?_) (fun E9 w9 q9 h9 => h9.elim)
  obtain ⟨rfl, rfl⟩ := h9
  refine gd_wsp [gd_ob 2 h [.int (nI 0), .long fo], gd_ob 1 fe [.ref fr, .int (nI L.length)], gd_aB K fr 1000 ff, gd_ob 0 sp [.ref sa, .long 0], gd_aJ K sa 64 G] [0, 1, 2, 4, 3] rfl rfl rfl ?_
  show gd_W X K 0 0 [gd_ob 2 h [.int (nI 0), .long fo], gd_ob 1 fe [.ref fr, .int (nI L.length)], gd_aB K fr 1000 ff, gd_ob 0 sp [.ref sa, .long 0], gd_aJ K sa 64 G] [(0, .ref h), (1, .ref fe), (2, .ref sp)] [] 9
  refine gd_aload_n hX 9 dd_Rd_read_9 rfl ?_
  refine gd_call hX (st := []) (wr := [gd_ob 2 h [.int (nI 0), .long fo], gd_aB K fr 1000 ff, gd_ob 0 sp [.ref sa, .long 0], gd_aJ K sa 64 G]) (ct_Oc_length _ K fe fr (nI L.length)) 10 dd_Rd_read_10 (gd_nV hX (As := []) kw_351 kw_165 kw_166 (gd_sigOf (n := 0) kw_167 (by decide)) (by decide) 1 rfl rfl rfl rfl dd_Rd_read_10) (gd_codeOf kw_167) (by decide) [1] [0, 2, 3, 4] rfl rfl rfl rfl rfl (by decide) (Nat.le_of_ble_eq_true rfl) (Nat.le_of_ble_eq_true rfl) (Nat.le_of_ble_eq_true rfl) (Nat.le_of_ble_eq_true rfl) (fun v9 w9 h9 => ?_) (fun E9 w9 q9 h9 => h9.elim)
  obtain ⟨rfl, rfl⟩ := h9
  refine gd_wsp [gd_ob 2 h [.int (nI 0), .long fo], gd_ob 1 fe [.ref fr, .int (nI L.length)], gd_aB K fr 1000 ff, gd_ob 0 sp [.ref sa, .long 0], gd_aJ K sa 64 G] [0, 4, 1, 2, 3] rfl rfl rfl ?_
  show gd_W X K 0 0 [gd_ob 2 h [.int (nI 0), .long fo], gd_ob 1 fe [.ref fr, .int (nI L.length)], gd_aB K fr 1000 ff, gd_ob 0 sp [.ref sa, .long 0], gd_aJ K sa 64 G] [(0, .ref h), (1, .ref fe), (2, .ref sp)] [.int (nI L.length)] 13
  refine gd_bipush hX 13 dd_Rd_read_13 (v := 8) (by decide) ?_
  refine gd_icmp_ge hX 15 28 dd_Rd_read_15 (by decide) (fun h1 => ?_) (fun h1 => ?_)
  · skip
    have h8 : 8 ≤ L.length := (nI_leI (a := 8) (by decide) (by omega)).mp h1
    have hd : ch_dec L = match (ch_cells L (ch_rmask L 8) 64 (ch_pop (ch_rmask L 8) 64) 0 0 true 8 (fun _ => 0)) with | (a, none) => (a, none) | (a, some g) => if a = L.length then (a, some ((ch_rmask L 8), g)) else (a, none) := if_neg (by omega)
    refine gd_aload_n hX 28 dd_Rd_read_28 rfl ?_
    refine gd_aload_n hX 29 dd_Rd_read_29 rfl ?_
    refine gd_call hX (st := []) (wr := [gd_ob 0 sp [.ref sa, .long 0], gd_aJ K sa 64 G]) (ct_Rd_readMask _ K h (nI 0) fo fe fr L ff hL hB) 30 dd_Rd_read_30 (gd_nV hX (As := [.ref fe]) kw_352 kw_354 kw_2 (gd_sigOf (n := 1) kw_355 (by decide)) (by decide) 0 rfl rfl rfl rfl dd_Rd_read_30) (gd_codeOf kw_355) (by decide) [0, 1, 2] [3, 4] rfl rfl rfl rfl rfl (by decide) (Nat.le_of_ble_eq_true rfl) (Nat.le_of_ble_eq_true rfl) (Nat.le_of_ble_eq_true rfl) (Nat.le_of_ble_eq_true rfl) (fun v9 w9 h9 => ?_) (fun E9 w9 q9 h9 => h9.elim)
    obtain ⟨rfl, rfl⟩ := h9
    refine gd_wsp [gd_ob 2 h [.int (nI 8), .long fo], gd_ob 1 fe [.ref fr, .int (nI L.length)], gd_aB K fr 1000 ff, gd_ob 0 sp [.ref sa, .long 0], gd_aJ K sa 64 G] [2, 3, 4, 0, 1] rfl rfl rfl ?_
    show gd_W X K 0 0 [gd_ob 2 h [.int (nI 8), .long fo], gd_ob 1 fe [.ref fr, .int (nI L.length)], gd_aB K fr 1000 ff, gd_ob 0 sp [.ref sa, .long 0], gd_aJ K sa 64 G] [(0, .ref h), (1, .ref fe), (2, .ref sp)] [.long (ch_rmask L 8)] 33
    refine gd_lstore_n hX [(3, .long (ch_rmask L 8)), (0, .ref h), (1, .ref fe), (2, .ref sp)] 33 dd_Rd_read_33 rfl (by decide) rfl ?_
    refine gd_aload_n hX 34 dd_Rd_read_34 rfl ?_
    refine gd_aload_n hX 35 dd_Rd_read_35 rfl ?_
    refine gd_lload_n hX 36 dd_Rd_read_36 rfl ?_
    refine gd_aload_n hX 37 dd_Rd_read_37 rfl ?_
    refine gd_call hX (st := []) (wr := []) (ct_Rd_readRuns _ K h sp sa fo (ch_rmask L 8) G fe fr L ff hL hB hO h8) 38 dd_Rd_read_38 (gd_nV hX (As := [.ref fe, .long (ch_rmask L 8), .ref sp]) kw_357 kw_359 kw_3 (gd_sigOf (n := 3) kw_360 (by decide)) (by decide) 0 rfl rfl rfl rfl dd_Rd_read_38) (gd_codeOf kw_360) (by decide) [0, 1, 2, 3, 4] [] rfl rfl rfl rfl rfl (by decide) (Nat.le_of_ble_eq_true rfl) (Nat.le_of_ble_eq_true rfl) (Nat.le_of_ble_eq_true rfl) (Nat.le_of_ble_eq_true rfl) (fun v9 w9 h9 => ?_) (fun E9 w9 q9 h9 => h9.elim)
    obtain ⟨rfl, fo1, w1, G1, rfl, hz⟩ := h9
    show gd_W X K 0 0 [gd_ob 2 h [.int (nI (ch_cells L (ch_rmask L 8) 64 (ch_pop (ch_rmask L 8) 64) 0 0 true 8 (fun _ => 0)).1), .long fo1], gd_ob 1 fe [.ref fr, .int (nI L.length)], gd_aB K fr 1000 ff, gd_ob 0 sp [.ref sa, .long w1], gd_aJ K sa 64 G1] [(3, .long (ch_rmask L 8)), (0, .ref h), (1, .ref fe), (2, .ref sp)] [.int (if (ch_cells L (ch_rmask L 8) 64 (ch_pop (ch_rmask L 8) 64) 0 0 true 8 (fun _ => 0)).2.isSome then 1 else 0)] 41
    have hcl := ch_cells_le L (ch_rmask L 8) 64 (ch_pop (ch_rmask L 8) 64) 0 0 true 8 (fun _ => 0) h8
    rcases hrd : (ch_cells L (ch_rmask L 8) 64 (ch_pop (ch_rmask L 8) 64) 0 0 true 8 (fun _ => 0)) with ⟨a1, ru⟩
    rw [hrd] at hd hz hcl
    cases ru with
    | none =>
      show gd_W X K 0 0 [gd_ob 2 h [.int (nI a1), .long fo1], gd_ob 1 fe [.ref fr, .int (nI L.length)], gd_aB K fr 1000 ff, gd_ob 0 sp [.ref sa, .long w1], gd_aJ K sa 64 G1] [(3, .long (ch_rmask L 8)), (0, .ref h), (1, .ref fe), (2, .ref sp)] [.int (if (none : Option (Nat → Int64)).isSome then 1 else 0)] 41
      refine gd_if_eq hX 41 59 dd_Rd_read_41 (by decide) (fun h2 => ?_) (fun h2 => ?_)
      · skip
        refine gd_iconst hX 59 dd_Rd_read_59 (v := 0) (by decide) ?_
        have hr : ch_dec L = (a1, none) := hd
        exact gd_zret hX hE 60 dd_Rd_read_60 rfl ⟨by rw [hr]; rfl, _, _, _, by rw [hr], by rw [hr]; exact fun z hz => nomatch hz⟩
      · skip
        exact absurd rfl h2
    | some gg =>
      show gd_W X K 0 0 [gd_ob 2 h [.int (nI a1), .long fo1], gd_ob 1 fe [.ref fr, .int (nI L.length)], gd_aB K fr 1000 ff, gd_ob 0 sp [.ref sa, .long w1], gd_aJ K sa 64 G1] [(3, .long (ch_rmask L 8)), (0, .ref h), (1, .ref fe), (2, .ref sp)] [.int (if (some gg : Option (Nat → Int64)).isSome then 1 else 0)] 41
      have hcl : a1 ≤ L.length := hcl
      have hd : ch_dec L = if a1 = L.length then (a1, some ((ch_rmask L 8), gg)) else (a1, none) := hd
      refine gd_if_eq hX 41 59 dd_Rd_read_41 (by decide) (fun h2 => ?_) (fun h2 => ?_)
      · skip
        exact absurd (show (1 : Int32) = 0 from h2) (by decide)
      · skip
        refine gd_aload_n hX 44 dd_Rd_read_44 rfl ?_
        refine gd_get hX inC_Rd 0 0 45 dd_Rd_read_45 rfl rfl (by decide) kw_85 rfl ?_
        refine gd_aload_n hX 48 dd_Rd_read_48 rfl ?_
        refine gd_call hX (st := [.int (nI a1)]) (wr := [gd_ob 2 h [.int (nI a1), .long fo1], gd_aB K fr 1000 ff, gd_ob 0 sp [.ref sa, .long w1], gd_aJ K sa 64 G1]) (ct_Oc_length _ K fe fr (nI L.length)) 49 dd_Rd_read_49 (gd_nV hX (As := []) kw_351 kw_165 kw_166 (gd_sigOf (n := 0) kw_167 (by decide)) (by decide) 1 rfl rfl rfl rfl dd_Rd_read_49) (gd_codeOf kw_167) (by decide) [1] [0, 2, 3, 4] rfl rfl rfl rfl rfl (by decide) (Nat.le_of_ble_eq_true rfl) (Nat.le_of_ble_eq_true rfl) (Nat.le_of_ble_eq_true rfl) (Nat.le_of_ble_eq_true rfl) (fun v9 w9 h9 => ?_) (fun E9 w9 q9 h9 => h9.elim)
        obtain ⟨rfl, rfl⟩ := h9
        refine gd_wsp [gd_ob 2 h [.int (nI a1), .long fo1], gd_ob 1 fe [.ref fr, .int (nI L.length)], gd_aB K fr 1000 ff, gd_ob 0 sp [.ref sa, .long w1], gd_aJ K sa 64 G1] [0, 4, 1, 2, 3] rfl rfl rfl ?_
        show gd_W X K 0 0 [gd_ob 2 h [.int (nI a1), .long fo1], gd_ob 1 fe [.ref fr, .int (nI L.length)], gd_aB K fr 1000 ff, gd_ob 0 sp [.ref sa, .long w1], gd_aJ K sa 64 G1] [(3, .long (ch_rmask L 8)), (0, .ref h), (1, .ref fe), (2, .ref sp)] [.int (nI L.length), .int (nI a1)] 52
        refine gd_icmp_ne hX 52 59 dd_Rd_read_52 (by decide) (fun h3 => ?_) (fun h3 => ?_)
        · skip
          have hr : ch_dec L = (a1, none) := by rw [hd, if_neg (fun e => h3 (by rw [e]))]
          refine gd_iconst hX 59 dd_Rd_read_59 (v := 0) (by decide) ?_
          exact gd_zret hX hE 60 dd_Rd_read_60 rfl ⟨by rw [hr]; rfl, _, _, _, by rw [hr], by rw [hr]; exact fun z hz => nomatch hz⟩
        · skip
          have hr : ch_dec L = (a1, some ((ch_rmask L 8), gg)) := by rw [hd, if_pos ((nI_eq (by omega) (by omega)).mp h3)]
          refine gd_iconst hX 55 dd_Rd_read_55 (v := 1) (by decide) ?_
          refine gd_goto hX 56 60 dd_Rd_read_56 (by decide) ?_
          exact gd_zret hX hE 60 dd_Rd_read_60 rfl ⟨by rw [hr]; rfl, _, _, _, by rw [hr], by rw [hr]; exact fun z hz2 => by cases hz2; exact hz gg rfl⟩
  · skip
    have hlt : L.length < 8 := Nat.lt_of_not_le (fun q => h1 ((nI_leI (a := 8) (by decide) (by omega)).mpr q))
    have hr : ch_dec L = (L.length, none) := if_pos hlt
    refine gd_aload_n hX 18 dd_Rd_read_18 rfl ?_
    refine gd_aload_n hX 19 dd_Rd_read_19 rfl ?_
    refine gd_call hX (st := [.ref h]) (wr := [gd_ob 2 h [.int (nI 0), .long fo], gd_aB K fr 1000 ff, gd_ob 0 sp [.ref sa, .long 0], gd_aJ K sa 64 G]) (ct_Oc_length _ K fe fr (nI L.length)) 20 dd_Rd_read_20 (gd_nV hX (As := []) kw_351 kw_165 kw_166 (gd_sigOf (n := 0) kw_167 (by decide)) (by decide) 1 rfl rfl rfl rfl dd_Rd_read_20) (gd_codeOf kw_167) (by decide) [1] [0, 2, 3, 4] rfl rfl rfl rfl rfl (by decide) (Nat.le_of_ble_eq_true rfl) (Nat.le_of_ble_eq_true rfl) (Nat.le_of_ble_eq_true rfl) (Nat.le_of_ble_eq_true rfl) (fun v9 w9 h9 => ?_) (fun E9 w9 q9 h9 => h9.elim)
    obtain ⟨rfl, rfl⟩ := h9
    refine gd_wsp [gd_ob 2 h [.int (nI 0), .long fo], gd_ob 1 fe [.ref fr, .int (nI L.length)], gd_aB K fr 1000 ff, gd_ob 0 sp [.ref sa, .long 0], gd_aJ K sa 64 G] [0, 4, 1, 2, 3] rfl rfl rfl ?_
    show gd_W X K 0 0 [gd_ob 2 h [.int (nI 0), .long fo], gd_ob 1 fe [.ref fr, .int (nI L.length)], gd_aB K fr 1000 ff, gd_ob 0 sp [.ref sa, .long 0], gd_aJ K sa 64 G] [(0, .ref h), (1, .ref fe), (2, .ref sp)] [.int (nI L.length), .ref h] 23
    refine gd_put hX inC_Rd ty_Rd tyk_Rd nm_Rd 0 0 [gd_ob 2 h [.int (nI L.length), .long fo], gd_ob 1 fe [.ref fr, .int (nI L.length)], gd_aB K fr 1000 ff, gd_ob 0 sp [.ref sa, .long 0], gd_aJ K sa 64 G] 23 dd_Rd_read_23 rfl rfl (by decide) kw_85 rfl rfl rfl (Nat.le_of_ble_eq_true rfl) rfl ?_
    refine gd_iconst hX 26 dd_Rd_read_26 (v := 0) (by decide) ?_
    exact gd_zret hX hE 27 dd_Rd_read_27 rfl ⟨by rw [hr]; rfl, _, _, _, by rw [hr], by rw [hr]; exact fun z hz => nomatch hz⟩
set_option maxRecDepth 100000 in
set_option maxHeartbeats 4000000 in
theorem ct_Ch_decode (l : Launch) (K : gd_K) (hl : l.stackTraces = false) (h c sp ru md fe rd : Nat) (wa : Int32) (sa : Nat) (t : Int32) (fo w0 : Int64) (G : Nat → Int64) (fr : Nat) (L : List Nat) (ff : Nat → Int32) (hL : L.length ≤ 1000) (hB : ch_B ff L) (hO : ∀ x ∈ L, x < 256) : gd_M l yy_Ch_decode bb_Ch_decode 3 (some .int) [] 6 82 1 6 K [.ref h] [gd_ob 4 h [.ref c, .ref sp, .ref ru, .ref md, .ref fe, .ref rd, .int wa], gd_ob 2 rd [.int t, .long fo], gd_ob 1 fe [.ref fr, .int (nI L.length)], gd_aB K fr 1000 ff, gd_ob 0 sp [.ref sa, .long w0], gd_aJ K sa 64 G] (fun v9 w1 => ∃ z, (ch_dec L).2 = some z ∧ v9 = some (.int (nI (ch_pop z.1 64))) ∧ ∃ fo' G', w1 = [gd_ob 4 h [.ref sp, .ref c, .ref ru, .ref md, .ref fe, .ref rd, .int (-1)], gd_ob 2 rd [.int (nI (ch_dec L).1), .long fo'], gd_ob 1 fe [.ref fr, .int (nI 0)], gd_aB K fr 1000 ff, gd_ob 0 sp [.ref sa, .long z.1], gd_aJ K sa 64 G'] ∧ ∀ j, j < 64 → ch_bit z.1 j = true → G' j = z.2 j) (fun E w1 => E = "java/lang/IllegalArgumentException" ∧ (ch_dec L).2 = none ∧ ∃ fo' wm' G', w1 = [gd_ob 4 h [.ref c, .ref sp, .ref ru, .ref md, .ref fe, .ref rd, .int (nI (ch_dec L).1)], gd_ob 2 rd [.int (nI (ch_dec L).1), .long fo'], gd_ob 1 fe [.ref fr, .int (nI 0)], gd_aB K fr 1000 ff, gd_ob 0 sp [.ref sa, .long wm'], gd_aJ K sa 64 G']) := by
  refine gd_body (Nat.le_of_ble_eq_true rfl) (fun X hXl hin hE hX => ?_)
  refine gd_aload_n hX 0 dd_Ch_decode_0 rfl ?_
  refine gd_get hX inC_Ch 0 5 1 dd_Ch_decode_1 rfl rfl (by decide) kw_97 rfl ?_
  refine gd_aload_n hX 4 dd_Ch_decode_4 rfl ?_
  refine gd_get hX inC_Ch 0 4 5 dd_Ch_decode_5 rfl rfl (by decide) kw_96 rfl ?_
  refine gd_aload_n hX 8 dd_Ch_decode_8 rfl ?_
  refine gd_get hX inC_Ch 0 1 9 dd_Ch_decode_9 rfl rfl (by decide) kw_93 rfl ?_
  refine gd_call hX (st := []) (wr := [gd_ob 4 h [.ref c, .ref sp, .ref ru, .ref md, .ref fe, .ref rd, .int wa]]) (ct_Rd_read _ K rd sp sa t fo w0 G fe fr L ff hL hB hO) 12 dd_Ch_decode_12 (gd_nV hX (As := [.ref fe, .ref sp]) kw_343 kw_344 kw_345 (gd_sigOf (n := 2) kw_346 (by decide)) (by decide) 1 rfl rfl rfl rfl dd_Ch_decode_12) (gd_codeOf kw_346) (by decide) [1, 2, 3, 4, 5] [0] rfl rfl rfl rfl rfl (by decide) (Nat.le_of_ble_eq_true rfl) (Nat.le_of_ble_eq_true rfl) (Nat.le_of_ble_eq_true rfl) (Nat.le_of_ble_eq_true rfl) (fun v9 w9 h9 => ?_) (fun E9 w9 q9 h9 => h9.elim)
  obtain ⟨rfl, fo1, w1, G1, rfl, hz⟩ := h9
  show gd_W X K 0 0 [gd_ob 4 h [.ref c, .ref sp, .ref ru, .ref md, .ref fe, .ref rd, .int wa], gd_ob 2 rd [.int (nI (ch_dec L).1), .long fo1], gd_ob 1 fe [.ref fr, .int (nI L.length)], gd_aB K fr 1000 ff, gd_ob 0 sp [.ref sa, .long w1], gd_aJ K sa 64 G1] [(0, .ref h)] [.int (if (ch_dec L).2.isSome then 1 else 0)] 15
  refine gd_istore_n hX [(1, .int (if (ch_dec L).2.isSome then 1 else 0)), (0, .ref h)] 15 dd_Ch_decode_15 rfl (by decide) rfl ?_
  refine gd_aload_n hX 16 dd_Ch_decode_16 rfl ?_
  refine gd_get hX inC_Ch 0 4 17 dd_Ch_decode_17 rfl rfl (by decide) kw_96 rfl ?_
  refine gd_call hX (st := []) (wr := [gd_ob 4 h [.ref c, .ref sp, .ref ru, .ref md, .ref fe, .ref rd, .int wa], gd_ob 2 rd [.int (nI (ch_dec L).1), .long fo1], gd_aB K fr 1000 ff, gd_ob 0 sp [.ref sa, .long w1], gd_aJ K sa 64 G1]) (ct_Oc_clear _ K fe fr (nI L.length)) 20 dd_Ch_decode_20 (gd_nV hX (As := []) kw_134 kw_135 kw_136 (gd_sigOf (n := 0) kw_137 (by decide)) (by decide) 2 rfl rfl rfl rfl dd_Ch_decode_20) (gd_codeOf kw_137) (by decide) [2] [0, 1, 3, 4, 5] rfl rfl rfl rfl rfl (by decide) (Nat.le_of_ble_eq_true rfl) (Nat.le_of_ble_eq_true rfl) (Nat.le_of_ble_eq_true rfl) (Nat.le_of_ble_eq_true rfl) (fun v9 w9 h9 => ?_) (fun E9 w9 q9 h9 => h9.elim)
  obtain ⟨rfl, rfl⟩ := h9
  refine gd_wsp [gd_ob 4 h [.ref c, .ref sp, .ref ru, .ref md, .ref fe, .ref rd, .int wa], gd_ob 2 rd [.int (nI (ch_dec L).1), .long fo1], gd_ob 1 fe [.ref fr, .int (nI 0)], gd_aB K fr 1000 ff, gd_ob 0 sp [.ref sa, .long w1], gd_aJ K sa 64 G1] [0, 1, 5, 2, 3, 4] rfl rfl rfl ?_
  show gd_W X K 0 0 [gd_ob 4 h [.ref c, .ref sp, .ref ru, .ref md, .ref fe, .ref rd, .int wa], gd_ob 2 rd [.int (nI (ch_dec L).1), .long fo1], gd_ob 1 fe [.ref fr, .int (nI 0)], gd_aB K fr 1000 ff, gd_ob 0 sp [.ref sa, .long w1], gd_aJ K sa 64 G1] [(1, .int (if (ch_dec L).2.isSome then 1 else 0)), (0, .ref h)] [] 23
  refine gd_iload_n hX 23 dd_Ch_decode_23 rfl ?_
  refine gd_if_ne hX 24 48 dd_Ch_decode_24 (by decide) (fun h1 => ?_) (fun h1 => ?_)
  · skip
    obtain ⟨z, hs⟩ : ∃ z, (ch_dec L).2 = some z := by
      cases hq : (ch_dec L).2 with
      | none => rw [hq] at h1; exact absurd rfl h1
      | some z => exact ⟨z, rfl⟩
    obtain ⟨rfl, hzz⟩ := hz z hs
    show gd_W X K 0 0 [gd_ob 4 h [.ref c, .ref sp, .ref ru, .ref md, .ref fe, .ref rd, .int wa], gd_ob 2 rd [.int (nI (ch_dec L).1), .long fo1], gd_ob 1 fe [.ref fr, .int (nI 0)], gd_aB K fr 1000 ff, gd_ob 0 sp [.ref sa, .long z.1], gd_aJ K sa 64 G1] [(1, .int (if (ch_dec L).2.isSome then 1 else 0)), (0, .ref h)] [] 48
    refine gd_aload_n hX 48 dd_Ch_decode_48 rfl ?_
    refine gd_iconst hX 49 dd_Ch_decode_49 (v := (-1)) (by decide) ?_
    refine gd_put hX inC_Ch ty_Ch tyk_Ch nm_Ch 0 6 [gd_ob 4 h [.ref c, .ref sp, .ref ru, .ref md, .ref fe, .ref rd, .int (-1)], gd_ob 2 rd [.int (nI (ch_dec L).1), .long fo1], gd_ob 1 fe [.ref fr, .int (nI 0)], gd_aB K fr 1000 ff, gd_ob 0 sp [.ref sa, .long z.1], gd_aJ K sa 64 G1] 50 dd_Ch_decode_50 rfl rfl (by decide) kw_98 rfl rfl rfl (Nat.le_of_ble_eq_true rfl) rfl ?_
    refine gd_aload_n hX 53 dd_Ch_decode_53 rfl ?_
    refine gd_get hX inC_Ch 0 0 54 dd_Ch_decode_54 rfl rfl (by decide) kw_92 rfl ?_
    refine gd_astore_n hX [(2, .ref c), (1, .int (if (ch_dec L).2.isSome then 1 else 0)), (0, .ref h)] 57 dd_Ch_decode_57 rfl (by decide) rfl ?_
    refine gd_aload_n hX 58 dd_Ch_decode_58 rfl ?_
    refine gd_aload_n hX 59 dd_Ch_decode_59 rfl ?_
    refine gd_get hX inC_Ch 0 1 60 dd_Ch_decode_60 rfl rfl (by decide) kw_93 rfl ?_
    refine gd_put hX inC_Ch ty_Ch tyk_Ch nm_Ch 0 0 [gd_ob 4 h [.ref sp, .ref sp, .ref ru, .ref md, .ref fe, .ref rd, .int (-1)], gd_ob 2 rd [.int (nI (ch_dec L).1), .long fo1], gd_ob 1 fe [.ref fr, .int (nI 0)], gd_aB K fr 1000 ff, gd_ob 0 sp [.ref sa, .long z.1], gd_aJ K sa 64 G1] 63 dd_Ch_decode_63 rfl rfl (by decide) kw_92 rfl rfl rfl (Nat.le_of_ble_eq_true rfl) rfl ?_
    refine gd_aload_n hX 66 dd_Ch_decode_66 rfl ?_
    refine gd_aload_n hX 67 dd_Ch_decode_67 rfl ?_
    refine gd_put hX inC_Ch ty_Ch tyk_Ch nm_Ch 0 1 [gd_ob 4 h [.ref sp, .ref c, .ref ru, .ref md, .ref fe, .ref rd, .int (-1)], gd_ob 2 rd [.int (nI (ch_dec L).1), .long fo1], gd_ob 1 fe [.ref fr, .int (nI 0)], gd_aB K fr 1000 ff, gd_ob 0 sp [.ref sa, .long z.1], gd_aJ K sa 64 G1] 68 dd_Ch_decode_68 rfl rfl (by decide) kw_93 rfl rfl rfl (Nat.le_of_ble_eq_true rfl) rfl ?_
    refine gd_aload_n hX 71 dd_Ch_decode_71 rfl ?_
    refine gd_get hX inC_Ch 0 0 72 dd_Ch_decode_72 rfl rfl (by decide) kw_92 rfl ?_
    refine gd_call hX (st := []) (wr := [gd_ob 4 h [.ref sp, .ref c, .ref ru, .ref md, .ref fe, .ref rd, .int (-1)], gd_ob 2 rd [.int (nI (ch_dec L).1), .long fo1], gd_ob 1 fe [.ref fr, .int (nI 0)], gd_aB K fr 1000 ff, gd_aJ K sa 64 G1]) (ct_Cl_many _ K sp sa z.1) 75 dd_Ch_decode_75 (gd_nV hX (As := []) kw_385 kw_386 kw_387 (gd_sigOf (n := 0) kw_388 (by decide)) (by decide) 4 rfl rfl rfl rfl dd_Ch_decode_75) (gd_codeOf kw_388) (by decide) [4] [0, 1, 2, 3, 5] rfl rfl rfl rfl rfl (by decide) (Nat.le_of_ble_eq_true rfl) (Nat.le_of_ble_eq_true rfl) (Nat.le_of_ble_eq_true rfl) (Nat.le_of_ble_eq_true rfl) (fun v9 w9 h9 => ?_) (fun E9 w9 q9 h9 => h9.elim)
    obtain ⟨rfl, rfl⟩ := h9
    refine gd_wsp [gd_ob 4 h [.ref sp, .ref c, .ref ru, .ref md, .ref fe, .ref rd, .int (-1)], gd_ob 2 rd [.int (nI (ch_dec L).1), .long fo1], gd_ob 1 fe [.ref fr, .int (nI 0)], gd_aB K fr 1000 ff, gd_ob 0 sp [.ref sa, .long z.1], gd_aJ K sa 64 G1] [0, 1, 2, 3, 5, 4] rfl rfl rfl ?_
    show gd_W X K 0 0 [gd_ob 4 h [.ref sp, .ref c, .ref ru, .ref md, .ref fe, .ref rd, .int (-1)], gd_ob 2 rd [.int (nI (ch_dec L).1), .long fo1], gd_ob 1 fe [.ref fr, .int (nI 0)], gd_aB K fr 1000 ff, gd_ob 0 sp [.ref sa, .long z.1], gd_aJ K sa 64 G1] [(2, .ref c), (1, .int (if (ch_dec L).2.isSome then 1 else 0)), (0, .ref h)] [.int (nI (ch_pop z.1 64))] 78
    refine gd_wide (a := 1) (b := 6) (by decide) (by decide) ?_
    exact gd_iret hX hE 78 dd_Ch_decode_78 ⟨z, hs, rfl, _, _, rfl, hzz⟩
  · skip
    have hs : (ch_dec L).2 = none := by
      cases hq : (ch_dec L).2 with
      | none => rfl
      | some z => rw [hq] at h1; exact absurd (show (1 : Int32) = 0 from h1) (by decide)
    refine gd_aload_n hX 27 dd_Ch_decode_27 rfl ?_
    refine gd_aload_n hX 28 dd_Ch_decode_28 rfl ?_
    refine gd_get hX inC_Ch 0 5 29 dd_Ch_decode_29 rfl rfl (by decide) kw_97 rfl ?_
    refine gd_call hX (st := [.ref h]) (wr := [gd_ob 4 h [.ref c, .ref sp, .ref ru, .ref md, .ref fe, .ref rd, .int wa], gd_ob 1 fe [.ref fr, .int (nI 0)], gd_aB K fr 1000 ff, gd_ob 0 sp [.ref sa, .long w1], gd_aJ K sa 64 G1]) (ct_Rd_at _ K rd (nI (ch_dec L).1) fo1) 32 dd_Ch_decode_32 (gd_nV hX (As := []) kw_380 kw_381 kw_382 (gd_sigOf (n := 0) kw_383 (by decide)) (by decide) 1 rfl rfl rfl rfl dd_Ch_decode_32) (gd_codeOf kw_383) (by decide) [1] [0, 2, 3, 4, 5] rfl rfl rfl rfl rfl (by decide) (Nat.le_of_ble_eq_true rfl) (Nat.le_of_ble_eq_true rfl) (Nat.le_of_ble_eq_true rfl) (Nat.le_of_ble_eq_true rfl) (fun v9 w9 h9 => ?_) (fun E9 w9 q9 h9 => h9.elim)
    obtain ⟨rfl, rfl⟩ := h9
    refine gd_wsp [gd_ob 4 h [.ref c, .ref sp, .ref ru, .ref md, .ref fe, .ref rd, .int wa], gd_ob 2 rd [.int (nI (ch_dec L).1), .long fo1], gd_ob 1 fe [.ref fr, .int (nI 0)], gd_aB K fr 1000 ff, gd_ob 0 sp [.ref sa, .long w1], gd_aJ K sa 64 G1] [0, 5, 1, 2, 3, 4] rfl rfl rfl ?_
    show gd_W X K 0 0 [gd_ob 4 h [.ref c, .ref sp, .ref ru, .ref md, .ref fe, .ref rd, .int wa], gd_ob 2 rd [.int (nI (ch_dec L).1), .long fo1], gd_ob 1 fe [.ref fr, .int (nI 0)], gd_aB K fr 1000 ff, gd_ob 0 sp [.ref sa, .long w1], gd_aJ K sa 64 G1] [(1, .int (if (ch_dec L).2.isSome then 1 else 0)), (0, .ref h)] [.int (nI (ch_dec L).1), .ref h] 35
    refine gd_put hX inC_Ch ty_Ch tyk_Ch nm_Ch 0 6 [gd_ob 4 h [.ref c, .ref sp, .ref ru, .ref md, .ref fe, .ref rd, .int (nI (ch_dec L).1)], gd_ob 2 rd [.int (nI (ch_dec L).1), .long fo1], gd_ob 1 fe [.ref fr, .int (nI 0)], gd_aB K fr 1000 ff, gd_ob 0 sp [.ref sa, .long w1], gd_aJ K sa 64 G1] 35 dd_Ch_decode_35 rfl rfl (by decide) kw_98 rfl rfl rfl (Nat.le_of_ble_eq_true rfl) rfl ?_
    exact gd_throw hX hE (by rw [hXl]; exact hl) (is := 127) (text := "what was fed is no code") 38 tw_ia (by decide) dd_Ch_decode_38 dd_Ch_decode_41 dd_Ch_decode_42 dd_Ch_decode_44 dd_Ch_decode_47 (by decide) (Nat.le_of_ble_eq_true rfl) (Nat.le_of_ble_eq_true rfl) (Nat.le_of_ble_eq_true rfl) (Nat.le_of_ble_eq_true rfl) (Nat.le_of_ble_eq_true rfl) (Nat.le_of_ble_eq_true rfl) ⟨rfl, hs, _, _, _, rfl⟩
