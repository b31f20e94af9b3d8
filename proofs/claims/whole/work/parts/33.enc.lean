set_option maxRecDepth 100000 in
set_option maxHeartbeats 4000000 in
theorem ct_Ch_octetsNow (l : Launch) (K : gd_K) (h c sp ru md fe rd : Nat) (wa : Int32) (ra rb : Nat) (n : Int32) (rn : Nat → Int64) (rs : Nat → Int32) (ca : Nat) (w : Int64) (f : Nat → Int64) : gd_M l yy_Ch_octetsNow bb_Ch_octetsNow 3 (some .int) [] 2 28 0 0 K [.ref h] [gd_ob 4 h [.ref c, .ref sp, .ref ru, .ref md, .ref fe, .ref rd, .int wa], gd_ob 3 ru [.ref ra, .ref rb, .int n], gd_aJ K ra 64 rn, gd_aI K rb 64 rs, gd_ob 0 c [.ref ca, .long w], gd_aJ K ca 64 f] (fun v w1 => v = some (.int (nI (8 + (ch_octs (ch_runs w f 64)).length))) ∧ ∃ rn' rs', w1 = [gd_ob 4 h [.ref c, .ref sp, .ref ru, .ref md, .ref fe, .ref rd, .int wa], gd_ob 3 ru [.ref ra, .ref rb, .int (nI (ch_runs w f 64).length)], gd_aJ K ra 64 rn', gd_aI K rb 64 rs', gd_ob 0 c [.ref ca, .long w], gd_aJ K ca 64 f]) (fun _ _ => False) := by
  refine gd_body (Nat.le_of_ble_eq_true rfl) (fun X hXl hin hE hX => ?_)
  refine gd_aload_n hX 0 dd_Ch_octetsNow_0 rfl ?_
  refine gd_get hX inC_Ch 0 2 1 dd_Ch_octetsNow_1 rfl rfl (by decide) kw_94 rfl ?_
  refine gd_aload_n hX 4 dd_Ch_octetsNow_4 rfl ?_
  refine gd_get hX inC_Ch 0 0 5 dd_Ch_octetsNow_5 rfl rfl (by decide) kw_92 rfl ?_
  refine gd_call hX (st := []) (wr := [gd_ob 4 h [.ref c, .ref sp, .ref ru, .ref md, .ref fe, .ref rd, .int wa]]) (ct_Ru_gather _ K ru ra rb c ca n rn rs w f) 8 dd_Ch_octetsNow_8 (gd_nV hX (As := [.ref c]) kw_118 kw_119 kw_120 (gd_sigOf (n := 1) kw_121 (by decide)) (by decide) 1 rfl rfl rfl rfl dd_Ch_octetsNow_8) (gd_codeOf kw_121) (by decide) [1, 2, 3, 4, 5] [0] rfl rfl rfl rfl rfl (by decide) (Nat.le_of_ble_eq_true rfl) (Nat.le_of_ble_eq_true rfl) (Nat.le_of_ble_eq_true rfl) (Nat.le_of_ble_eq_true rfl) (fun v9 w9 h9 => ?_) (fun E9 w9 q9 h9 => h9.elim)
  obtain ⟨rfl, rn', rs', rfl, hR⟩ := h9
  show gd_W X K 0 0 [gd_ob 4 h [.ref c, .ref sp, .ref ru, .ref md, .ref fe, .ref rd, .int wa], gd_ob 3 ru [.ref ra, .ref rb, .int (nI (ch_runs w f 64).length)], gd_aJ K ra 64 rn', gd_aI K rb 64 rs', gd_ob 0 c [.ref ca, .long w], gd_aJ K ca 64 f] [(0, .ref h)] [] 11
  have hlen := ch_runs_len w f 64
  have hoc : (ch_octs (ch_runs w f 64)).length ≤ 11 * (ch_runs w f 64).length := ch_octs_len _
  generalize hL : ch_runs w f 64 = L at hR hlen hoc ⊢
  have loop : ∀ (m r : Nat), m + r = L.length → gd_W X K 0 0 [gd_ob 4 h [.ref c, .ref sp, .ref ru, .ref md, .ref fe, .ref rd, .int wa], gd_ob 3 ru [.ref ra, .ref rb, .int (nI L.length)], gd_aJ K ra 64 rn', gd_aI K rb 64 rs', gd_ob 0 c [.ref ca, .long w], gd_aJ K ca 64 f] [(0, .ref h), (1, .int (nI (8 + (ch_octs (L.drop (L.length - r))).length))), (2, .int (nI r))] [] 16 := by
    intro m
    induction m with
    | zero =>
      intro r hr
      obtain rfl : r = L.length := by omega
      refine gd_iload_n hX 16 dd_Ch_octetsNow_16 rfl ?_
      refine gd_aload_n hX 17 dd_Ch_octetsNow_17 rfl ?_
      refine gd_get hX inC_Ch 0 2 18 dd_Ch_octetsNow_18 rfl rfl (by decide) kw_94 rfl ?_
      refine gd_call hX (st := [.int (nI L.length)]) (wr := [gd_ob 4 h [.ref c, .ref sp, .ref ru, .ref md, .ref fe, .ref rd, .int wa], gd_aJ K ra 64 rn', gd_aI K rb 64 rs', gd_ob 0 c [.ref ca, .long w], gd_aJ K ca 64 f]) (ct_Ru_many _ K ru ra rb (nI L.length)) 21 dd_Ch_octetsNow_21 (gd_nV hX (As := []) kw_146 kw_147 kw_148 (gd_sigOf (n := 0) kw_149 (by decide)) (by decide) 1 rfl rfl rfl rfl dd_Ch_octetsNow_21) (gd_codeOf kw_149) (by decide) [1] [0, 2, 3, 4, 5] rfl rfl rfl rfl rfl (by decide) (Nat.le_of_ble_eq_true rfl) (Nat.le_of_ble_eq_true rfl) (Nat.le_of_ble_eq_true rfl) (Nat.le_of_ble_eq_true rfl) (fun v9 w9 h9 => ?_) (fun E9 w9 q9 h9 => h9.elim)
      obtain ⟨rfl, rfl⟩ := h9
      refine gd_wsp [gd_ob 4 h [.ref c, .ref sp, .ref ru, .ref md, .ref fe, .ref rd, .int wa], gd_ob 3 ru [.ref ra, .ref rb, .int (nI L.length)], gd_aJ K ra 64 rn', gd_aI K rb 64 rs', gd_ob 0 c [.ref ca, .long w], gd_aJ K ca 64 f] [0, 5, 1, 2, 3, 4] rfl rfl rfl ?_
      show gd_W X K 0 0 [gd_ob 4 h [.ref c, .ref sp, .ref ru, .ref md, .ref fe, .ref rd, .int wa], gd_ob 3 ru [.ref ra, .ref rb, .int (nI L.length)], gd_aJ K ra 64 rn', gd_aI K rb 64 rs', gd_ob 0 c [.ref ca, .long w], gd_aJ K ca 64 f] [(0, .ref h), (1, .int (nI (8 + (ch_octs (L.drop (L.length - L.length))).length))), (2, .int (nI L.length))] [.int (nI L.length), .int (nI L.length)] 24
      refine gd_icmp_ge hX 24 49 dd_Ch_octetsNow_24 (by decide) (fun h1 => ?_) (fun h1 => ?_)
      · skip
        refine gd_iload_n hX 49 dd_Ch_octetsNow_49 rfl ?_
        have e9 : L.drop (L.length - L.length) = L := by rw [Nat.sub_self]; rfl
        exact gd_iret hX hE 50 dd_Ch_octetsNow_50 ⟨by rw [e9, hL], rn', rs', by rw [hL]⟩
      · skip
        exact absurd (Int32.le_refl _) h1
    | succ m ih =>
      intro r hr
      have hlt : r < L.length := by omega
      have hs := ch_octs_step hlt
      have hq := ch_R_step hR hlt
      refine gd_iload_n hX 16 dd_Ch_octetsNow_16 rfl ?_
      refine gd_aload_n hX 17 dd_Ch_octetsNow_17 rfl ?_
      refine gd_get hX inC_Ch 0 2 18 dd_Ch_octetsNow_18 rfl rfl (by decide) kw_94 rfl ?_
      refine gd_call hX (st := [.int (nI r)]) (wr := [gd_ob 4 h [.ref c, .ref sp, .ref ru, .ref md, .ref fe, .ref rd, .int wa], gd_aJ K ra 64 rn', gd_aI K rb 64 rs', gd_ob 0 c [.ref ca, .long w], gd_aJ K ca 64 f]) (ct_Ru_many _ K ru ra rb (nI L.length)) 21 dd_Ch_octetsNow_21 (gd_nV hX (As := []) kw_146 kw_147 kw_148 (gd_sigOf (n := 0) kw_149 (by decide)) (by decide) 1 rfl rfl rfl rfl dd_Ch_octetsNow_21) (gd_codeOf kw_149) (by decide) [1] [0, 2, 3, 4, 5] rfl rfl rfl rfl rfl (by decide) (Nat.le_of_ble_eq_true rfl) (Nat.le_of_ble_eq_true rfl) (Nat.le_of_ble_eq_true rfl) (Nat.le_of_ble_eq_true rfl) (fun v9 w9 h9 => ?_) (fun E9 w9 q9 h9 => h9.elim)
      obtain ⟨rfl, rfl⟩ := h9
      refine gd_wsp [gd_ob 4 h [.ref c, .ref sp, .ref ru, .ref md, .ref fe, .ref rd, .int wa], gd_ob 3 ru [.ref ra, .ref rb, .int (nI L.length)], gd_aJ K ra 64 rn', gd_aI K rb 64 rs', gd_ob 0 c [.ref ca, .long w], gd_aJ K ca 64 f] [0, 5, 1, 2, 3, 4] rfl rfl rfl ?_
      show gd_W X K 0 0 [gd_ob 4 h [.ref c, .ref sp, .ref ru, .ref md, .ref fe, .ref rd, .int wa], gd_ob 3 ru [.ref ra, .ref rb, .int (nI L.length)], gd_aJ K ra 64 rn', gd_aI K rb 64 rs', gd_ob 0 c [.ref ca, .long w], gd_aJ K ca 64 f] [(0, .ref h), (1, .int (nI (8 + (ch_octs (L.drop (L.length - r))).length))), (2, .int (nI r))] [.int (nI L.length), .int (nI r)] 24
      refine gd_icmp_ge hX 24 49 dd_Ch_octetsNow_24 (by decide) (fun h1 => ?_) (fun h1 => ?_)
      · skip
        exact absurd ((nI_leI (by omega) (by omega)).mp h1) (by omega)
      · skip
        refine gd_iload_n hX 27 dd_Ch_octetsNow_27 rfl ?_
        refine gd_iconst hX 28 dd_Ch_octetsNow_28 (v := 1) (by decide) ?_
        refine gd_aload_n hX 29 dd_Ch_octetsNow_29 rfl ?_
        refine gd_get hX inC_Ch 0 2 30 dd_Ch_octetsNow_30 rfl rfl (by decide) kw_94 rfl ?_
        refine gd_iload_n hX 33 dd_Ch_octetsNow_33 rfl ?_
        refine gd_call hX (st := [.int 1, .int (nI (8 + (ch_octs (L.drop (L.length - r))).length))]) (wr := [gd_ob 4 h [.ref c, .ref sp, .ref ru, .ref md, .ref fe, .ref rd, .int wa], gd_aI K rb 64 rs', gd_ob 0 c [.ref ca, .long w], gd_aJ K ca 64 f]) (ct_Ru_folded _ K ru ra rb r (nI L.length) rn' (by omega)) 34 dd_Ch_octetsNow_34 (gd_nV hX (As := [.int (nI r)]) kw_154 kw_155 kw_156 (gd_sigOf (n := 1) kw_157 (by decide)) (by decide) 1 rfl rfl rfl rfl dd_Ch_octetsNow_34) (gd_codeOf kw_157) (by decide) [1, 2] [0, 3, 4, 5] rfl rfl rfl rfl rfl (by decide) (Nat.le_of_ble_eq_true rfl) (Nat.le_of_ble_eq_true rfl) (Nat.le_of_ble_eq_true rfl) (Nat.le_of_ble_eq_true rfl) (fun v9 w9 h9 => ?_) (fun E9 w9 q9 h9 => h9.elim)
        obtain ⟨rfl, rfl⟩ := h9
        refine gd_wsp [gd_ob 4 h [.ref c, .ref sp, .ref ru, .ref md, .ref fe, .ref rd, .int wa], gd_ob 3 ru [.ref ra, .ref rb, .int (nI L.length)], gd_aJ K ra 64 rn', gd_aI K rb 64 rs', gd_ob 0 c [.ref ca, .long w], gd_aJ K ca 64 f] [0, 4, 5, 1, 2, 3] rfl rfl rfl ?_
        show gd_W X K 0 0 [gd_ob 4 h [.ref c, .ref sp, .ref ru, .ref md, .ref fe, .ref rd, .int wa], gd_ob 3 ru [.ref ra, .ref rb, .int (nI L.length)], gd_aJ K ra 64 rn', gd_aI K rb 64 rs', gd_ob 0 c [.ref ca, .long w], gd_aJ K ca 64 f] [(0, .ref h), (1, .int (nI (8 + (ch_octs (L.drop (L.length - r))).length))), (2, .int (nI r))] [.long (ch_zz (rn' r - if r = 0 then 0 else rn' (r - 1))), .int 1, .int (nI (8 + (ch_octs (L.drop (L.length - r))).length))] 37
        refine gd_call hX (st := [.int 1, .int (nI (8 + (ch_octs (L.drop (L.length - r))).length))]) (wr := [gd_ob 4 h [.ref c, .ref sp, .ref ru, .ref md, .ref fe, .ref rd, .int wa], gd_ob 3 ru [.ref ra, .ref rb, .int (nI L.length)], gd_aJ K ra 64 rn', gd_aI K rb 64 rs', gd_ob 0 c [.ref ca, .long w], gd_aJ K ca 64 f]) (ct_Ch_numberOctets _ K (ch_zz (rn' r - if r = 0 then 0 else rn' (r - 1)))) 37 dd_Ch_octetsNow_37 (gd_nS hX (As := [.long (ch_zz (rn' r - if r = 0 then 0 else rn' (r - 1)))]) kw_161 kw_162 kw_13 (gd_nmOf kw_163) (gd_sigOf (n := 1) kw_163 (by decide)) (by decide) rfl rfl dd_Ch_octetsNow_37) (gd_codeOf kw_163) (by decide) [] [0, 1, 2, 3, 4, 5] rfl rfl rfl rfl rfl (by decide) (Nat.le_of_ble_eq_true rfl) (Nat.le_of_ble_eq_true rfl) (Nat.le_of_ble_eq_true rfl) (Nat.le_of_ble_eq_true rfl) (fun v9 w9 h9 => ?_) (fun E9 w9 q9 h9 => h9.elim)
        obtain ⟨rfl, rfl⟩ := h9
        show gd_W X K 0 0 [gd_ob 4 h [.ref c, .ref sp, .ref ru, .ref md, .ref fe, .ref rd, .int wa], gd_ob 3 ru [.ref ra, .ref rb, .int (nI L.length)], gd_aJ K ra 64 rn', gd_aI K rb 64 rs', gd_ob 0 c [.ref ca, .long w], gd_aJ K ca 64 f] [(0, .ref h), (1, .int (nI (8 + (ch_octs (L.drop (L.length - r))).length))), (2, .int (nI r))] [.int (nI (ch_num 9 (uN (ch_zz (rn' r - if r = 0 then 0 else rn' (r - 1))))).length), .int 1, .int (nI (8 + (ch_octs (L.drop (L.length - r))).length))] 40
        refine gd_iadd hX 40 dd_Ch_octetsNow_40 ?_
        refine gd_iadd hX 41 dd_Ch_octetsNow_41 ?_
        refine gd_eqi (show ((nI (8 + (ch_octs (L.drop (L.length - r))).length)) + (1 + (nI (ch_num 9 (uN (ch_zz (rn' r - if r = 0 then 0 else rn' (r - 1))))).length)) : Int32) = nI (8 + (ch_octs (L.drop (L.length - (r + 1)))).length) from by rw [hs, ← hq.1, List.length_append, List.length_cons, show (1 : Int32) = nI 1 from rfl, nI_add, nI_add]; congr 1; omega) ?_
        refine gd_istore_n hX [(1, .int (nI (8 + (ch_octs (L.drop (L.length - (r + 1)))).length))), (0, .ref h), (2, .int (nI r))] 42 dd_Ch_octetsNow_42 rfl (by decide) rfl ?_
        refine gd_iinc hX 2 [(2, .int (nI (r + 1))), (1, .int (nI (8 + (ch_octs (L.drop (L.length - (r + 1)))).length))), (0, .ref h)] 43 dd_Ch_octetsNow_43 rfl (gd_inc r) (by decide) rfl ?_
        refine gd_goto hX 46 16 dd_Ch_octetsNow_46 (by decide) ?_
        refine gd_lvs [(0, .ref h), (1, .int (nI (8 + (ch_octs (L.drop (L.length - (r + 1)))).length))), (2, .int (nI (r + 1)))] [2, 1, 0] rfl ?_
        exact ih (r + 1) (by omega)
  refine gd_bipush hX 11 dd_Ch_octetsNow_11 (v := 8) (by decide) ?_
  refine gd_eqi (show (8 : Int32) = nI (8 + (ch_octs (L.drop (L.length - 0))).length) from by rw [Nat.sub_zero, List.drop_length]; rfl) ?_
  refine gd_istore_n hX [(1, .int (nI (8 + (ch_octs (L.drop (L.length - 0))).length))), (0, .ref h)] 13 dd_Ch_octetsNow_13 rfl (by decide) rfl ?_
  refine gd_iconst hX 14 dd_Ch_octetsNow_14 (v := 0) (by decide) ?_
  refine gd_eqi (show (0 : Int32) = nI 0 from rfl) ?_
  refine gd_istore_n hX [(2, .int (nI 0)), (1, .int (nI (8 + (ch_octs (L.drop (L.length - 0))).length))), (0, .ref h)] 15 dd_Ch_octetsNow_15 rfl (by decide) rfl ?_
  refine gd_lvs [(0, .ref h), (1, .int (nI (8 + (ch_octs (L.drop (L.length - 0))).length))), (2, .int (nI 0))] [2, 1, 0] rfl ?_
  exact loop L.length 0 rfl
set_option maxRecDepth 100000 in
set_option maxHeartbeats 4000000 in
theorem ct_Ch_encode (l : Launch) (K : gd_K) (h c sp ru md fe rd : Nat) (wa : Int32) (ra rb : Nat) (n : Int32) (rn : Nat → Int64) (rs : Nat → Int32) (ca : Nat) (w : Int64) (f : Nat → Int64) (mr : Nat) (mn : Int32) (fm : Nat → Int32) : gd_M l yy_Ch_encode bb_Ch_encode 2 (some .int) [] 2 31 0 0 K [.ref h] [gd_ob 4 h [.ref c, .ref sp, .ref ru, .ref md, .ref fe, .ref rd, .int wa], gd_ob 3 ru [.ref ra, .ref rb, .int n], gd_aJ K ra 64 rn, gd_aI K rb 64 rs, gd_ob 0 c [.ref ca, .long w], gd_aJ K ca 64 f, gd_ob 1 md [.ref mr, .int mn], gd_aB K mr 712 fm] (fun v w1 => v = some (.int (nI (ch_code w f).length)) ∧ ∃ rn' rs' fm', w1 = [gd_ob 4 h [.ref c, .ref sp, .ref ru, .ref md, .ref fe, .ref rd, .int wa], gd_ob 3 ru [.ref ra, .ref rb, .int (nI (ch_runs w f 64).length)], gd_aJ K ra 64 rn', gd_aI K rb 64 rs', gd_ob 0 c [.ref ca, .long w], gd_aJ K ca 64 f, gd_ob 1 md [.ref mr, .int (nI (ch_code w f).length)], gd_aB K mr 712 fm'] ∧ ch_B fm' (ch_code w f)) (fun _ _ => False) := by
  refine gd_body (Nat.le_of_ble_eq_true rfl) (fun X hXl hin hE hX => ?_)
  refine gd_aload_n hX 0 dd_Ch_encode_0 rfl ?_
  refine gd_get hX inC_Ch 0 2 1 dd_Ch_encode_1 rfl rfl (by decide) kw_94 rfl ?_
  refine gd_aload_n hX 4 dd_Ch_encode_4 rfl ?_
  refine gd_get hX inC_Ch 0 0 5 dd_Ch_encode_5 rfl rfl (by decide) kw_92 rfl ?_
  refine gd_call hX (st := []) (wr := [gd_ob 4 h [.ref c, .ref sp, .ref ru, .ref md, .ref fe, .ref rd, .int wa], gd_ob 1 md [.ref mr, .int mn], gd_aB K mr 712 fm]) (ct_Ru_gather _ K ru ra rb c ca n rn rs w f) 8 dd_Ch_encode_8 (gd_nV hX (As := [.ref c]) kw_118 kw_119 kw_120 (gd_sigOf (n := 1) kw_121 (by decide)) (by decide) 1 rfl rfl rfl rfl dd_Ch_encode_8) (gd_codeOf kw_121) (by decide) [1, 2, 3, 4, 5] [0, 6, 7] rfl rfl rfl rfl rfl (by decide) (Nat.le_of_ble_eq_true rfl) (Nat.le_of_ble_eq_true rfl) (Nat.le_of_ble_eq_true rfl) (Nat.le_of_ble_eq_true rfl) (fun v9 w9 h9 => ?_) (fun E9 w9 q9 h9 => h9.elim)
  obtain ⟨rfl, rn', rs', rfl, hR⟩ := h9
  refine gd_wsp [gd_ob 4 h [.ref c, .ref sp, .ref ru, .ref md, .ref fe, .ref rd, .int wa], gd_ob 3 ru [.ref ra, .ref rb, .int (nI (ch_runs w f 64).length)], gd_aJ K ra 64 rn', gd_aI K rb 64 rs', gd_ob 0 c [.ref ca, .long w], gd_aJ K ca 64 f, gd_ob 1 md [.ref mr, .int mn], gd_aB K mr 712 fm] [0, 3, 4, 5, 6, 7, 1, 2] rfl rfl rfl ?_
  show gd_W X K 0 0 [gd_ob 4 h [.ref c, .ref sp, .ref ru, .ref md, .ref fe, .ref rd, .int wa], gd_ob 3 ru [.ref ra, .ref rb, .int (nI (ch_runs w f 64).length)], gd_aJ K ra 64 rn', gd_aI K rb 64 rs', gd_ob 0 c [.ref ca, .long w], gd_aJ K ca 64 f, gd_ob 1 md [.ref mr, .int mn], gd_aB K mr 712 fm] [(0, .ref h)] [] 11
  have hlen := ch_runs_len w f 64
  have hoc : (ch_octs (ch_runs w f 64)).length ≤ 11 * (ch_runs w f 64).length := ch_octs_len _
  have hsz := fun i => ch_runs_szD w f (i := i)
  have hcode : ch_mask w ++ ch_octs (ch_runs w f 64) = ch_code w f := rfl
  have hmk := ch_mask_len w
  generalize hL : ch_runs w f 64 = L at hR hlen hoc hsz hcode ⊢
  refine gd_aload_n hX 11 dd_Ch_encode_11 rfl ?_
  refine gd_get hX inC_Ch 0 3 12 dd_Ch_encode_12 rfl rfl (by decide) kw_95 rfl ?_
  refine gd_call hX (st := []) (wr := [gd_ob 4 h [.ref c, .ref sp, .ref ru, .ref md, .ref fe, .ref rd, .int wa], gd_ob 3 ru [.ref ra, .ref rb, .int (nI L.length)], gd_aJ K ra 64 rn', gd_aI K rb 64 rs', gd_ob 0 c [.ref ca, .long w], gd_aJ K ca 64 f, gd_aB K mr 712 fm]) (ct_Oc_clear _ K md mr mn) 15 dd_Ch_encode_15 (gd_nV hX (As := []) kw_134 kw_135 kw_136 (gd_sigOf (n := 0) kw_137 (by decide)) (by decide) 6 rfl rfl rfl rfl dd_Ch_encode_15) (gd_codeOf kw_137) (by decide) [6] [0, 1, 2, 3, 4, 5, 7] rfl rfl rfl rfl rfl (by decide) (Nat.le_of_ble_eq_true rfl) (Nat.le_of_ble_eq_true rfl) (Nat.le_of_ble_eq_true rfl) (Nat.le_of_ble_eq_true rfl) (fun v9 w9 h9 => ?_) (fun E9 w9 q9 h9 => h9.elim)
  obtain ⟨rfl, rfl⟩ := h9
  refine gd_wsp [gd_ob 4 h [.ref c, .ref sp, .ref ru, .ref md, .ref fe, .ref rd, .int wa], gd_ob 3 ru [.ref ra, .ref rb, .int (nI L.length)], gd_aJ K ra 64 rn', gd_aI K rb 64 rs', gd_ob 0 c [.ref ca, .long w], gd_aJ K ca 64 f, gd_ob 1 md [.ref mr, .int (nI 0)], gd_aB K mr 712 fm] [0, 1, 2, 3, 4, 5, 7, 6] rfl rfl rfl ?_
  show gd_W X K 0 0 [gd_ob 4 h [.ref c, .ref sp, .ref ru, .ref md, .ref fe, .ref rd, .int wa], gd_ob 3 ru [.ref ra, .ref rb, .int (nI L.length)], gd_aJ K ra 64 rn', gd_aI K rb 64 rs', gd_ob 0 c [.ref ca, .long w], gd_aJ K ca 64 f, gd_ob 1 md [.ref mr, .int (nI 0)], gd_aB K mr 712 fm] [(0, .ref h)] [] 18
  have loop2 : ∀ (m r : Nat) (fm : Nat → Int32), m + r = L.length → ch_B fm (ch_mask w ++ ch_octs (L.drop (L.length - r))) → gd_W X K 0 0 [gd_ob 4 h [.ref c, .ref sp, .ref ru, .ref md, .ref fe, .ref rd, .int wa], gd_ob 3 ru [.ref ra, .ref rb, .int (nI L.length)], gd_aJ K ra 64 rn', gd_aI K rb 64 rs', gd_ob 0 c [.ref ca, .long w], gd_aJ K ca 64 f, gd_ob 1 md [.ref mr, .int (nI (ch_mask w ++ ch_octs (L.drop (L.length - r))).length)], gd_aB K mr 712 fm] [(0, .ref h), (1, .int (nI r))] [] 54 := by
    intro m
    induction m with
    | zero =>
      intro r fm hr hB
      obtain rfl : r = L.length := by omega
      have e9 : L.drop (L.length - L.length) = L := by rw [Nat.sub_self]; rfl
      rw [e9, hcode] at hB ⊢
      refine gd_iload_n hX 54 dd_Ch_encode_54 rfl ?_
      refine gd_aload_n hX 55 dd_Ch_encode_55 rfl ?_
      refine gd_get hX inC_Ch 0 2 56 dd_Ch_encode_56 rfl rfl (by decide) kw_94 rfl ?_
      refine gd_call hX (st := [.int (nI L.length)]) (wr := [gd_ob 4 h [.ref c, .ref sp, .ref ru, .ref md, .ref fe, .ref rd, .int wa], gd_aJ K ra 64 rn', gd_aI K rb 64 rs', gd_ob 0 c [.ref ca, .long w], gd_aJ K ca 64 f, gd_ob 1 md [.ref mr, .int (nI (ch_code w f).length)], gd_aB K mr 712 fm]) (ct_Ru_many _ K ru ra rb (nI L.length)) 59 dd_Ch_encode_59 (gd_nV hX (As := []) kw_146 kw_147 kw_148 (gd_sigOf (n := 0) kw_149 (by decide)) (by decide) 1 rfl rfl rfl rfl dd_Ch_encode_59) (gd_codeOf kw_149) (by decide) [1] [0, 2, 3, 4, 5, 6, 7] rfl rfl rfl rfl rfl (by decide) (Nat.le_of_ble_eq_true rfl) (Nat.le_of_ble_eq_true rfl) (Nat.le_of_ble_eq_true rfl) (Nat.le_of_ble_eq_true rfl) (fun v9 w9 h9 => ?_) (fun E9 w9 q9 h9 => h9.elim)
      obtain ⟨rfl, rfl⟩ := h9
      refine gd_wsp [gd_ob 4 h [.ref c, .ref sp, .ref ru, .ref md, .ref fe, .ref rd, .int wa], gd_ob 3 ru [.ref ra, .ref rb, .int (nI L.length)], gd_aJ K ra 64 rn', gd_aI K rb 64 rs', gd_ob 0 c [.ref ca, .long w], gd_aJ K ca 64 f, gd_ob 1 md [.ref mr, .int (nI (ch_code w f).length)], gd_aB K mr 712 fm] [0, 7, 1, 2, 3, 4, 5, 6] rfl rfl rfl ?_
      show gd_W X K 0 0 [gd_ob 4 h [.ref c, .ref sp, .ref ru, .ref md, .ref fe, .ref rd, .int wa], gd_ob 3 ru [.ref ra, .ref rb, .int (nI L.length)], gd_aJ K ra 64 rn', gd_aI K rb 64 rs', gd_ob 0 c [.ref ca, .long w], gd_aJ K ca 64 f, gd_ob 1 md [.ref mr, .int (nI (ch_code w f).length)], gd_aB K mr 712 fm] [(0, .ref h), (1, .int (nI L.length))] [.int (nI L.length), .int (nI L.length)] 62
      refine gd_icmp_ge hX 62 101 dd_Ch_encode_62 (by decide) (fun h1 => ?_) (fun h1 => ?_)
      · skip
        refine gd_aload_n hX 101 dd_Ch_encode_101 rfl ?_
        refine gd_get hX inC_Ch 0 3 102 dd_Ch_encode_102 rfl rfl (by decide) kw_95 rfl ?_
        refine gd_call hX (st := []) (wr := [gd_ob 4 h [.ref c, .ref sp, .ref ru, .ref md, .ref fe, .ref rd, .int wa], gd_ob 3 ru [.ref ra, .ref rb, .int (nI L.length)], gd_aJ K ra 64 rn', gd_aI K rb 64 rs', gd_ob 0 c [.ref ca, .long w], gd_aJ K ca 64 f, gd_aB K mr 712 fm]) (ct_Oc_length _ K md mr (nI (ch_code w f).length)) 105 dd_Ch_encode_105 (gd_nV hX (As := []) kw_164 kw_165 kw_166 (gd_sigOf (n := 0) kw_167 (by decide)) (by decide) 6 rfl rfl rfl rfl dd_Ch_encode_105) (gd_codeOf kw_167) (by decide) [6] [0, 1, 2, 3, 4, 5, 7] rfl rfl rfl rfl rfl (by decide) (Nat.le_of_ble_eq_true rfl) (Nat.le_of_ble_eq_true rfl) (Nat.le_of_ble_eq_true rfl) (Nat.le_of_ble_eq_true rfl) (fun v9 w9 h9 => ?_) (fun E9 w9 q9 h9 => h9.elim)
        obtain ⟨rfl, rfl⟩ := h9
        refine gd_wsp [gd_ob 4 h [.ref c, .ref sp, .ref ru, .ref md, .ref fe, .ref rd, .int wa], gd_ob 3 ru [.ref ra, .ref rb, .int (nI L.length)], gd_aJ K ra 64 rn', gd_aI K rb 64 rs', gd_ob 0 c [.ref ca, .long w], gd_aJ K ca 64 f, gd_ob 1 md [.ref mr, .int (nI (ch_code w f).length)], gd_aB K mr 712 fm] [0, 1, 2, 3, 4, 5, 7, 6] rfl rfl rfl ?_
        show gd_W X K 0 0 [gd_ob 4 h [.ref c, .ref sp, .ref ru, .ref md, .ref fe, .ref rd, .int wa], gd_ob 3 ru [.ref ra, .ref rb, .int (nI L.length)], gd_aJ K ra 64 rn', gd_aI K rb 64 rs', gd_ob 0 c [.ref ca, .long w], gd_aJ K ca 64 f, gd_ob 1 md [.ref mr, .int (nI (ch_code w f).length)], gd_aB K mr 712 fm] [(0, .ref h), (1, .int (nI L.length))] [.int (nI (ch_code w f).length)] 108
        exact gd_iret hX hE 108 dd_Ch_encode_108 ⟨rfl, rn', rs', fm, by rw [← hL], hB⟩
      · skip
        exact absurd (Int32.le_refl _) h1
    | succ m ih =>
      intro r fm hr hB
      have hlt : r < L.length := by omega
      have hs := ch_octs_step hlt
      have hq := ch_R_step hR hlt
      have hz : (ch_octs (L.drop (L.length - (r + 1)))).length ≤ 704 := by have h7 := ch_octs_len (L.drop (L.length - (r + 1))); rw [List.length_drop] at h7; omega
      rw [hs, List.length_append, List.length_cons] at hz
      refine gd_iload_n hX 54 dd_Ch_encode_54 rfl ?_
      refine gd_aload_n hX 55 dd_Ch_encode_55 rfl ?_
      refine gd_get hX inC_Ch 0 2 56 dd_Ch_encode_56 rfl rfl (by decide) kw_94 rfl ?_
      refine gd_call hX (st := [.int (nI r)]) (wr := [gd_ob 4 h [.ref c, .ref sp, .ref ru, .ref md, .ref fe, .ref rd, .int wa], gd_aJ K ra 64 rn', gd_aI K rb 64 rs', gd_ob 0 c [.ref ca, .long w], gd_aJ K ca 64 f, gd_ob 1 md [.ref mr, .int (nI (ch_mask w ++ ch_octs (L.drop (L.length - r))).length)], gd_aB K mr 712 fm]) (ct_Ru_many _ K ru ra rb (nI L.length)) 59 dd_Ch_encode_59 (gd_nV hX (As := []) kw_146 kw_147 kw_148 (gd_sigOf (n := 0) kw_149 (by decide)) (by decide) 1 rfl rfl rfl rfl dd_Ch_encode_59) (gd_codeOf kw_149) (by decide) [1] [0, 2, 3, 4, 5, 6, 7] rfl rfl rfl rfl rfl (by decide) (Nat.le_of_ble_eq_true rfl) (Nat.le_of_ble_eq_true rfl) (Nat.le_of_ble_eq_true rfl) (Nat.le_of_ble_eq_true rfl) (fun v9 w9 h9 => ?_) (fun E9 w9 q9 h9 => h9.elim)
      obtain ⟨rfl, rfl⟩ := h9
      refine gd_wsp [gd_ob 4 h [.ref c, .ref sp, .ref ru, .ref md, .ref fe, .ref rd, .int wa], gd_ob 3 ru [.ref ra, .ref rb, .int (nI L.length)], gd_aJ K ra 64 rn', gd_aI K rb 64 rs', gd_ob 0 c [.ref ca, .long w], gd_aJ K ca 64 f, gd_ob 1 md [.ref mr, .int (nI (ch_mask w ++ ch_octs (L.drop (L.length - r))).length)], gd_aB K mr 712 fm] [0, 7, 1, 2, 3, 4, 5, 6] rfl rfl rfl ?_
      show gd_W X K 0 0 [gd_ob 4 h [.ref c, .ref sp, .ref ru, .ref md, .ref fe, .ref rd, .int wa], gd_ob 3 ru [.ref ra, .ref rb, .int (nI L.length)], gd_aJ K ra 64 rn', gd_aI K rb 64 rs', gd_ob 0 c [.ref ca, .long w], gd_aJ K ca 64 f, gd_ob 1 md [.ref mr, .int (nI (ch_mask w ++ ch_octs (L.drop (L.length - r))).length)], gd_aB K mr 712 fm] [(0, .ref h), (1, .int (nI r))] [.int (nI L.length), .int (nI r)] 62
      refine gd_icmp_ge hX 62 101 dd_Ch_encode_62 (by decide) (fun h1 => ?_) (fun h1 => ?_)
      · skip
        exact absurd ((nI_leI (by omega) (by omega)).mp h1) (by omega)
      · skip
        refine gd_aload_n hX 65 dd_Ch_encode_65 rfl ?_
        refine gd_get hX inC_Ch 0 3 66 dd_Ch_encode_66 rfl rfl (by decide) kw_95 rfl ?_
        refine gd_aload_n hX 69 dd_Ch_encode_69 rfl ?_
        refine gd_get hX inC_Ch 0 2 70 dd_Ch_encode_70 rfl rfl (by decide) kw_94 rfl ?_
        refine gd_iload_n hX 73 dd_Ch_encode_73 rfl ?_
        refine gd_call hX (st := [.ref md]) (wr := [gd_ob 4 h [.ref c, .ref sp, .ref ru, .ref md, .ref fe, .ref rd, .int wa], gd_aJ K ra 64 rn', gd_ob 0 c [.ref ca, .long w], gd_aJ K ca 64 f, gd_ob 1 md [.ref mr, .int (nI (ch_mask w ++ ch_octs (L.drop (L.length - r))).length)], gd_aB K mr 712 fm]) (ct_Ru_size _ K ru ra rb r (nI L.length) rs' (by omega)) 74 dd_Ch_encode_74 (gd_nV hX (As := [.int (nI r)]) kw_150 kw_151 kw_152 (gd_sigOf (n := 1) kw_153 (by decide)) (by decide) 1 rfl rfl rfl rfl dd_Ch_encode_74) (gd_codeOf kw_153) (by decide) [1, 3] [0, 2, 4, 5, 6, 7] rfl rfl rfl rfl rfl (by decide) (Nat.le_of_ble_eq_true rfl) (Nat.le_of_ble_eq_true rfl) (Nat.le_of_ble_eq_true rfl) (Nat.le_of_ble_eq_true rfl) (fun v9 w9 h9 => ?_) (fun E9 w9 q9 h9 => h9.elim)
        obtain ⟨rfl, rfl⟩ := h9
        refine gd_wsp [gd_ob 4 h [.ref c, .ref sp, .ref ru, .ref md, .ref fe, .ref rd, .int wa], gd_ob 3 ru [.ref ra, .ref rb, .int (nI L.length)], gd_aJ K ra 64 rn', gd_aI K rb 64 rs', gd_ob 0 c [.ref ca, .long w], gd_aJ K ca 64 f, gd_ob 1 md [.ref mr, .int (nI (ch_mask w ++ ch_octs (L.drop (L.length - r))).length)], gd_aB K mr 712 fm] [0, 6, 1, 7, 2, 3, 4, 5] rfl rfl rfl ?_
        show gd_W X K 0 0 [gd_ob 4 h [.ref c, .ref sp, .ref ru, .ref md, .ref fe, .ref rd, .int wa], gd_ob 3 ru [.ref ra, .ref rb, .int (nI L.length)], gd_aJ K ra 64 rn', gd_aI K rb 64 rs', gd_ob 0 c [.ref ca, .long w], gd_aJ K ca 64 f, gd_ob 1 md [.ref mr, .int (nI (ch_mask w ++ ch_octs (L.drop (L.length - r))).length)], gd_aB K mr 712 fm] [(0, .ref h), (1, .int (nI r))] [.int (rs' r), .ref md] 77
        refine gd_call hX (st := []) (wr := [gd_ob 4 h [.ref c, .ref sp, .ref ru, .ref md, .ref fe, .ref rd, .int wa], gd_ob 3 ru [.ref ra, .ref rb, .int (nI L.length)], gd_aJ K ra 64 rn', gd_aI K rb 64 rs', gd_ob 0 c [.ref ca, .long w], gd_aJ K ca 64 f]) (ct_Oc_add _ K md mr 712 fm (ch_mask w ++ ch_octs (L.drop (L.length - r))) _ (L.getD (L.length - 1 - r) (0, 0)).2 (by rw [List.length_append]; omega) (by decide) hB (by rw [hq.2]; exact ch_n255 (hsz _ (by omega)))) 77 dd_Ch_encode_77 (gd_nV hX (As := [.int (rs' r)]) kw_142 kw_143 kw_144 (gd_sigOf (n := 1) kw_145 (by decide)) (by decide) 6 rfl rfl rfl rfl dd_Ch_encode_77) (gd_codeOf kw_145) (by decide) [6, 7] [0, 1, 2, 3, 4, 5] rfl rfl rfl rfl rfl (by decide) (Nat.le_of_ble_eq_true rfl) (Nat.le_of_ble_eq_true rfl) (Nat.le_of_ble_eq_true rfl) (Nat.le_of_ble_eq_true rfl) (fun v9 w9 h9 => ?_) (fun E9 w9 q9 h9 => h9.elim)
        obtain ⟨rfl, f2, rfl, hB2⟩ := h9
        show gd_W X K 0 0 [gd_ob 4 h [.ref c, .ref sp, .ref ru, .ref md, .ref fe, .ref rd, .int wa], gd_ob 3 ru [.ref ra, .ref rb, .int (nI L.length)], gd_aJ K ra 64 rn', gd_aI K rb 64 rs', gd_ob 0 c [.ref ca, .long w], gd_aJ K ca 64 f, gd_ob 1 md [.ref mr, .int (nI ((ch_mask w ++ ch_octs (L.drop (L.length - r))) ++ [(L.getD (L.length - 1 - r) (0, 0)).2]).length)], gd_aB K mr 712 f2] [(0, .ref h), (1, .int (nI r))] [] 80
        refine gd_aload_n hX 80 dd_Ch_encode_80 rfl ?_
        refine gd_get hX inC_Ch 0 3 81 dd_Ch_encode_81 rfl rfl (by decide) kw_95 rfl ?_
        refine gd_aload_n hX 84 dd_Ch_encode_84 rfl ?_
        refine gd_get hX inC_Ch 0 2 85 dd_Ch_encode_85 rfl rfl (by decide) kw_94 rfl ?_
        refine gd_iload_n hX 88 dd_Ch_encode_88 rfl ?_
        refine gd_call hX (st := [.ref md]) (wr := [gd_ob 4 h [.ref c, .ref sp, .ref ru, .ref md, .ref fe, .ref rd, .int wa], gd_aI K rb 64 rs', gd_ob 0 c [.ref ca, .long w], gd_aJ K ca 64 f, gd_ob 1 md [.ref mr, .int (nI ((ch_mask w ++ ch_octs (L.drop (L.length - r))) ++ [(L.getD (L.length - 1 - r) (0, 0)).2]).length)], gd_aB K mr 712 f2]) (ct_Ru_folded _ K ru ra rb r (nI L.length) rn' (by omega)) 89 dd_Ch_encode_89 (gd_nV hX (As := [.int (nI r)]) kw_154 kw_155 kw_156 (gd_sigOf (n := 1) kw_157 (by decide)) (by decide) 1 rfl rfl rfl rfl dd_Ch_encode_89) (gd_codeOf kw_157) (by decide) [1, 2] [0, 3, 4, 5, 6, 7] rfl rfl rfl rfl rfl (by decide) (Nat.le_of_ble_eq_true rfl) (Nat.le_of_ble_eq_true rfl) (Nat.le_of_ble_eq_true rfl) (Nat.le_of_ble_eq_true rfl) (fun v9 w9 h9 => ?_) (fun E9 w9 q9 h9 => h9.elim)
        obtain ⟨rfl, rfl⟩ := h9
        refine gd_wsp [gd_ob 4 h [.ref c, .ref sp, .ref ru, .ref md, .ref fe, .ref rd, .int wa], gd_ob 3 ru [.ref ra, .ref rb, .int (nI L.length)], gd_aJ K ra 64 rn', gd_aI K rb 64 rs', gd_ob 0 c [.ref ca, .long w], gd_aJ K ca 64 f, gd_ob 1 md [.ref mr, .int (nI ((ch_mask w ++ ch_octs (L.drop (L.length - r))) ++ [(L.getD (L.length - 1 - r) (0, 0)).2]).length)], gd_aB K mr 712 f2] [0, 6, 7, 1, 2, 3, 4, 5] rfl rfl rfl ?_
        show gd_W X K 0 0 [gd_ob 4 h [.ref c, .ref sp, .ref ru, .ref md, .ref fe, .ref rd, .int wa], gd_ob 3 ru [.ref ra, .ref rb, .int (nI L.length)], gd_aJ K ra 64 rn', gd_aI K rb 64 rs', gd_ob 0 c [.ref ca, .long w], gd_aJ K ca 64 f, gd_ob 1 md [.ref mr, .int (nI ((ch_mask w ++ ch_octs (L.drop (L.length - r))) ++ [(L.getD (L.length - 1 - r) (0, 0)).2]).length)], gd_aB K mr 712 f2] [(0, .ref h), (1, .int (nI r))] [.long (ch_zz (rn' r - if r = 0 then 0 else rn' (r - 1))), .ref md] 92
        refine gd_call hX (st := []) (wr := [gd_ob 4 h [.ref c, .ref sp, .ref ru, .ref md, .ref fe, .ref rd, .int wa], gd_ob 3 ru [.ref ra, .ref rb, .int (nI L.length)], gd_aJ K ra 64 rn', gd_aI K rb 64 rs', gd_ob 0 c [.ref ca, .long w], gd_aJ K ca 64 f]) (ct_Ch_addNumber _ K md mr 712 f2 ((ch_mask w ++ ch_octs (L.drop (L.length - r))) ++ [(L.getD (L.length - 1 - r) (0, 0)).2]) _ (by rw [hq.1, List.length_append, List.length_append]; simp only [List.length_cons, List.length_nil]; omega) (by decide) hB2) 92 dd_Ch_encode_92 (gd_nS hX (As := [.ref md, .long (ch_zz (rn' r - if r = 0 then 0 else rn' (r - 1)))]) kw_158 kw_159 kw_13 (gd_nmOf kw_160) (gd_sigOf (n := 2) kw_160 (by decide)) (by decide) rfl rfl dd_Ch_encode_92) (gd_codeOf kw_160) (by decide) [6, 7] [0, 1, 2, 3, 4, 5] rfl rfl rfl rfl rfl (by decide) (Nat.le_of_ble_eq_true rfl) (Nat.le_of_ble_eq_true rfl) (Nat.le_of_ble_eq_true rfl) (Nat.le_of_ble_eq_true rfl) (fun v9 w9 h9 => ?_) (fun E9 w9 q9 h9 => h9.elim)
        obtain ⟨rfl, f3, rfl, hB3⟩ := h9
        show gd_W X K 0 0 [gd_ob 4 h [.ref c, .ref sp, .ref ru, .ref md, .ref fe, .ref rd, .int wa], gd_ob 3 ru [.ref ra, .ref rb, .int (nI L.length)], gd_aJ K ra 64 rn', gd_aI K rb 64 rs', gd_ob 0 c [.ref ca, .long w], gd_aJ K ca 64 f, gd_ob 1 md [.ref mr, .int (nI (((ch_mask w ++ ch_octs (L.drop (L.length - r))) ++ [(L.getD (L.length - 1 - r) (0, 0)).2]) ++ ch_num 9 (uN (ch_zz (rn' r - if r = 0 then 0 else rn' (r - 1))))).length)], gd_aB K mr 712 f3] [(0, .ref h), (1, .int (nI r))] [] 95
        have e5 : ((ch_mask w ++ ch_octs (L.drop (L.length - r))) ++ [(L.getD (L.length - 1 - r) (0, 0)).2]) ++ ch_num 9 (uN (ch_zz (rn' r - if r = 0 then 0 else rn' (r - 1)))) = ch_mask w ++ ch_octs (L.drop (L.length - (r + 1))) := by rw [hs, hq.1, List.append_assoc, List.append_assoc]; rfl
        rw [e5] at hB3 ⊢
        refine gd_iinc hX 1 [(1, .int (nI (r + 1))), (0, .ref h)] 95 dd_Ch_encode_95 rfl (gd_inc r) (by decide) rfl ?_
        refine gd_goto hX 98 54 dd_Ch_encode_98 (by decide) ?_
        refine gd_lvs [(0, .ref h), (1, .int (nI (r + 1)))] [1, 0] rfl ?_
        exact ih (r + 1) f3 (by omega) hB3
  have loop1 : ∀ (m i : Nat) (fm : Nat → Int32), m + i = 8 → ch_B fm ((ch_mask w).take i) → gd_W X K 0 0 [gd_ob 4 h [.ref c, .ref sp, .ref ru, .ref md, .ref fe, .ref rd, .int wa], gd_ob 3 ru [.ref ra, .ref rb, .int (nI L.length)], gd_aJ K ra 64 rn', gd_aI K rb 64 rs', gd_ob 0 c [.ref ca, .long w], gd_aJ K ca 64 f, gd_ob 1 md [.ref mr, .int (nI ((ch_mask w).take i).length)], gd_aB K mr 712 fm] [(0, .ref h), (1, .int (nI i))] [] 20 := by
    intro m
    induction m with
    | zero =>
      intro i fm hi hB
      obtain rfl : i = 8 := by omega
      refine gd_iload_n hX 20 dd_Ch_encode_20 rfl ?_
      refine gd_bipush hX 21 dd_Ch_encode_21 (v := 8) (by decide) ?_
      refine gd_icmp_ge hX 23 52 dd_Ch_encode_23 (by decide) (fun h1 => ?_) (fun h1 => ?_)
      · skip
        have e9 : (ch_mask w).take 8 = ch_mask w ++ ch_octs (L.drop (L.length - 0)) := by rw [ch_take_all (by omega), Nat.sub_zero, List.drop_length]; simp [ch_octs]
        rw [e9] at hB ⊢
        refine gd_iconst hX 52 dd_Ch_encode_52 (v := 0) (by decide) ?_
        refine gd_eqi (show (0 : Int32) = nI 0 from rfl) ?_
        refine gd_istore_n hX [(1, .int (nI 0)), (0, .ref h)] 53 dd_Ch_encode_53 rfl (by decide) rfl ?_
        refine gd_lvs [(0, .ref h), (1, .int (nI 0))] [1, 0] rfl ?_
        exact loop2 L.length 0 fm rfl hB
      · skip
        exact absurd (by decide) h1
    | succ m ih =>
      intro i fm hi hB
      have hle : ((ch_mask w).take i).length = i := by rw [List.length_take]; omega
      refine gd_iload_n hX 20 dd_Ch_encode_20 rfl ?_
      refine gd_bipush hX 21 dd_Ch_encode_21 (v := 8) (by decide) ?_
      refine gd_icmp_ge hX 23 52 dd_Ch_encode_23 (by decide) (fun h1 => ?_) (fun h1 => ?_)
      · skip
        exact absurd ((nI_leI (a := 8) (by decide) (by omega)).mp h1) (by omega)
      · skip
        refine gd_aload_n hX 26 dd_Ch_encode_26 rfl ?_
        refine gd_get hX inC_Ch 0 3 27 dd_Ch_encode_27 rfl rfl (by decide) kw_95 rfl ?_
        refine gd_aload_n hX 30 dd_Ch_encode_30 rfl ?_
        refine gd_get hX inC_Ch 0 0 31 dd_Ch_encode_31 rfl rfl (by decide) kw_92 rfl ?_
        refine gd_call hX (st := [.ref md]) (wr := [gd_ob 4 h [.ref c, .ref sp, .ref ru, .ref md, .ref fe, .ref rd, .int wa], gd_ob 3 ru [.ref ra, .ref rb, .int (nI L.length)], gd_aJ K ra 64 rn', gd_aI K rb 64 rs', gd_aJ K ca 64 f, gd_ob 1 md [.ref mr, .int (nI ((ch_mask w).take i).length)], gd_aB K mr 712 fm]) (ct_Cl_mask _ K c ca w) 34 dd_Ch_encode_34 (gd_nV hX (As := []) kw_138 kw_139 kw_140 (gd_sigOf (n := 0) kw_141 (by decide)) (by decide) 4 rfl rfl rfl rfl dd_Ch_encode_34) (gd_codeOf kw_141) (by decide) [4] [0, 1, 2, 3, 5, 6, 7] rfl rfl rfl rfl rfl (by decide) (Nat.le_of_ble_eq_true rfl) (Nat.le_of_ble_eq_true rfl) (Nat.le_of_ble_eq_true rfl) (Nat.le_of_ble_eq_true rfl) (fun v9 w9 h9 => ?_) (fun E9 w9 q9 h9 => h9.elim)
        obtain ⟨rfl, rfl⟩ := h9
        refine gd_wsp [gd_ob 4 h [.ref c, .ref sp, .ref ru, .ref md, .ref fe, .ref rd, .int wa], gd_ob 3 ru [.ref ra, .ref rb, .int (nI L.length)], gd_aJ K ra 64 rn', gd_aI K rb 64 rs', gd_ob 0 c [.ref ca, .long w], gd_aJ K ca 64 f, gd_ob 1 md [.ref mr, .int (nI ((ch_mask w).take i).length)], gd_aB K mr 712 fm] [0, 1, 2, 3, 7, 4, 5, 6] rfl rfl rfl ?_
        show gd_W X K 0 0 [gd_ob 4 h [.ref c, .ref sp, .ref ru, .ref md, .ref fe, .ref rd, .int wa], gd_ob 3 ru [.ref ra, .ref rb, .int (nI L.length)], gd_aJ K ra 64 rn', gd_aI K rb 64 rs', gd_ob 0 c [.ref ca, .long w], gd_aJ K ca 64 f, gd_ob 1 md [.ref mr, .int (nI ((ch_mask w).take i).length)], gd_aB K mr 712 fm] [(0, .ref h), (1, .int (nI i))] [.long w, .ref md] 37
        refine gd_bipush hX 37 dd_Ch_encode_37 (v := 8) (by decide) ?_
        refine gd_iload_n hX 39 dd_Ch_encode_39 rfl ?_
        refine gd_imul hX 40 dd_Ch_encode_40 ?_
        refine gd_eqi (show (8 * (nI i) : Int32) = nI (8 * i) from pk_mul 8 _) ?_
        refine gd_lushr hX 41 dd_Ch_encode_41 ?_
        refine gd_l2i hX 42 dd_Ch_encode_42 ?_
        refine gd_call hX (st := []) (wr := [gd_ob 4 h [.ref c, .ref sp, .ref ru, .ref md, .ref fe, .ref rd, .int wa], gd_ob 3 ru [.ref ra, .ref rb, .int (nI L.length)], gd_aJ K ra 64 rn', gd_aI K rb 64 rs', gd_ob 0 c [.ref ca, .long w], gd_aJ K ca 64 f]) (ct_Oc_add _ K md mr 712 fm ((ch_mask w).take i) _ (uN w / 256 ^ i % 256) (by omega) (by decide) hB (by rw [ch_low, uN_sk w (by omega), ch_pow8])) 43 dd_Ch_encode_43 (gd_nV hX (As := [.int (((w.toUInt64 >>> ((nI (8 * i)).toInt64.toUInt64 &&& Int64.toUInt64 63)).toInt64).toInt32)]) kw_142 kw_143 kw_144 (gd_sigOf (n := 1) kw_145 (by decide)) (by decide) 6 rfl rfl rfl rfl dd_Ch_encode_43) (gd_codeOf kw_145) (by decide) [6, 7] [0, 1, 2, 3, 4, 5] rfl rfl rfl rfl rfl (by decide) (Nat.le_of_ble_eq_true rfl) (Nat.le_of_ble_eq_true rfl) (Nat.le_of_ble_eq_true rfl) (Nat.le_of_ble_eq_true rfl) (fun v9 w9 h9 => ?_) (fun E9 w9 q9 h9 => h9.elim)
        obtain ⟨rfl, f2, rfl, hB2⟩ := h9
        show gd_W X K 0 0 [gd_ob 4 h [.ref c, .ref sp, .ref ru, .ref md, .ref fe, .ref rd, .int wa], gd_ob 3 ru [.ref ra, .ref rb, .int (nI L.length)], gd_aJ K ra 64 rn', gd_aI K rb 64 rs', gd_ob 0 c [.ref ca, .long w], gd_aJ K ca 64 f, gd_ob 1 md [.ref mr, .int (nI ((ch_mask w).take i ++ [uN w / 256 ^ i % 256]).length)], gd_aB K mr 712 f2] [(0, .ref h), (1, .int (nI i))] [] 46
        rw [← ch_mask_step w (by omega)] at hB2 ⊢
        refine gd_iinc hX 1 [(1, .int (nI (i + 1))), (0, .ref h)] 46 dd_Ch_encode_46 rfl (gd_inc i) (by decide) rfl ?_
        refine gd_goto hX 49 20 dd_Ch_encode_49 (by decide) ?_
        refine gd_lvs [(0, .ref h), (1, .int (nI (i + 1)))] [1, 0] rfl ?_
        exact ih (i + 1) f2 (by omega) hB2
  refine gd_iconst hX 18 dd_Ch_encode_18 (v := 0) (by decide) ?_
  refine gd_eqi (show (0 : Int32) = nI 0 from rfl) ?_
  refine gd_istore_n hX [(1, .int (nI 0)), (0, .ref h)] 19 dd_Ch_encode_19 rfl (by decide) rfl ?_
  refine gd_lvs [(0, .ref h), (1, .int (nI 0))] [1, 0] rfl ?_
  exact loop1 8 0 fm rfl (ch_B_nil _)
