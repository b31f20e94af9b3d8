set_option maxRecDepth 100000 in
set_option maxHeartbeats 4000000 in
theorem ct_Cl_clear (l : Launch) (K : gd_K) (h a k : Nat) (w : Int64) : gd_M l yy_Cl_clear bb_Cl_clear 2 (none) [] 0 0 0 0 K [.ref h, .int (nI k)] [gd_ob 0 h [.ref a, .long w]] (fun v w1 => v = none ∧ w1 = [gd_ob 0 h [.ref a, .long (w &&& (((1 : Int64) <<< ((nI k).toInt64 &&& 63)) ^^^ (-1)))]]) (fun _ _ => False) := by
  refine gd_body (Nat.le_of_ble_eq_true rfl) (fun X hXl hin hE hX => ?_)
  refine gd_aload_n hX 0 dd_Cl_clear_0 rfl ?_
  refine gd_dup hX 1 dd_Cl_clear_1 rfl ?_
  refine gd_get hX inC_Cl 0 1 2 dd_Cl_clear_2 rfl rfl (by decide) kw_41 rfl ?_
  refine gd_lconst hX 5 dd_Cl_clear_5 (v := 1) (by decide) ?_
  refine gd_iload_n hX 6 dd_Cl_clear_6 rfl ?_
  refine gd_lshl hX 7 dd_Cl_clear_7 ?_
  refine gd_ldc2 hX 8 dd_Cl_clear_8 (v := (-1)) kw_265 ?_
  refine gd_lxor hX 11 dd_Cl_clear_11 ?_
  refine gd_land hX 12 dd_Cl_clear_12 ?_
  refine gd_put hX inC_Cl ty_Cl tyk_Cl nm_Cl 0 1 [gd_ob 0 h [.ref a, .long (w &&& (((1 : Int64) <<< ((nI k).toInt64 &&& 63)) ^^^ (-1)))]] 13 dd_Cl_clear_13 rfl rfl (by decide) kw_41 rfl rfl rfl (Nat.le_of_ble_eq_true rfl) rfl ?_
  exact gd_vret hX hE 16 dd_Cl_clear_16 ⟨rfl, rfl⟩
set_option maxRecDepth 100000 in
set_option maxHeartbeats 4000000 in
theorem ct_Cl_clearAll (l : Launch) (K : gd_K) (h a : Nat) (w : Int64) : gd_M l yy_Cl_clearAll bb_Cl_clearAll 1 (none) [] 0 0 0 0 K [.ref h] [gd_ob 0 h [.ref a, .long w]] (fun v w1 => v = none ∧ w1 = [gd_ob 0 h [.ref a, .long 0]]) (fun _ _ => False) := by
  refine gd_body (Nat.le_of_ble_eq_true rfl) (fun X hXl hin hE hX => ?_)
  refine gd_aload_n hX 0 dd_Cl_clearAll_0 rfl ?_
  refine gd_lconst hX 1 dd_Cl_clearAll_1 (v := 0) (by decide) ?_
  refine gd_put hX inC_Cl ty_Cl tyk_Cl nm_Cl 0 1 [gd_ob 0 h [.ref a, .long 0]] 2 dd_Cl_clearAll_2 rfl rfl (by decide) kw_41 rfl rfl rfl (Nat.le_of_ble_eq_true rfl) rfl ?_
  exact gd_vret hX hE 5 dd_Cl_clearAll_5 ⟨rfl, rfl⟩
set_option maxRecDepth 100000 in
set_option maxHeartbeats 4000000 in
theorem ct_Cl_mask (l : Launch) (K : gd_K) (h a : Nat) (w : Int64) : gd_M l yy_Cl_mask bb_Cl_mask 1 (some .long) [] 0 0 0 0 K [.ref h] [gd_ob 0 h [.ref a, .long w]] (fun v w1 => v = some (.long w) ∧ w1 = [gd_ob 0 h [.ref a, .long w]]) (fun _ _ => False) := by
  refine gd_body (Nat.le_of_ble_eq_true rfl) (fun X hXl hin hE hX => ?_)
  refine gd_aload_n hX 0 dd_Cl_mask_0 rfl ?_
  refine gd_get hX inC_Cl 0 1 1 dd_Cl_mask_1 rfl rfl (by decide) kw_41 rfl ?_
  exact gd_lret hX hE 4 dd_Cl_mask_4 ⟨rfl, rfl⟩
set_option maxRecDepth 100000 in
set_option maxHeartbeats 4000000 in
theorem ct_Lo_bitCount (l : Launch) (K : gd_K) (w : Int64) : gd_M l yy_Lo_bitCount bb_Lo_bitCount 2 (some .int) [] 0 0 0 0 K [.long w] [] (fun v w1 => v = some (.int (nI (ch_pop w 64))) ∧ w1 = []) (fun _ _ => False) := by
  refine gd_body (Nat.le_of_ble_eq_true rfl) (fun X hXl hin hE hX => ?_)
  refine gd_lload_n hX 0 dd_Lo_bitCount_0 rfl ?_
  refine gd_lload_n hX 1 dd_Lo_bitCount_1 rfl ?_
  refine gd_iconst hX 2 dd_Lo_bitCount_2 (v := 1) (by decide) ?_
  refine gd_lushr hX 3 dd_Lo_bitCount_3 ?_
  refine gd_ldc2 hX 4 dd_Lo_bitCount_4 (v := 6148914691236517205) kw_364 ?_
  refine gd_land hX 7 dd_Lo_bitCount_7 ?_
  refine gd_lsub hX 8 dd_Lo_bitCount_8 ?_
  refine gd_eql (show (w - (((w.toUInt64 >>> ((1 : Int32).toInt64.toUInt64 &&& Int64.toUInt64 63)).toInt64) &&& 6148914691236517205) : Int64) = pc_1 w from rfl) ?_
  refine gd_lstore_n hX [(0, .long (pc_1 w))] 9 dd_Lo_bitCount_9 rfl (by decide) rfl ?_
  refine gd_lload_n hX 10 dd_Lo_bitCount_10 rfl ?_
  refine gd_ldc2 hX 11 dd_Lo_bitCount_11 (v := 3689348814741910323) kw_365 ?_
  refine gd_land hX 14 dd_Lo_bitCount_14 ?_
  refine gd_lload_n hX 15 dd_Lo_bitCount_15 rfl ?_
  refine gd_iconst hX 16 dd_Lo_bitCount_16 (v := 2) (by decide) ?_
  refine gd_lushr hX 17 dd_Lo_bitCount_17 ?_
  refine gd_ldc2 hX 18 dd_Lo_bitCount_18 (v := 3689348814741910323) kw_365 ?_
  refine gd_land hX 21 dd_Lo_bitCount_21 ?_
  refine gd_ladd hX 22 dd_Lo_bitCount_22 ?_
  refine gd_eql (show (((pc_1 w) &&& 3689348814741910323) + ((((pc_1 w).toUInt64 >>> ((2 : Int32).toInt64.toUInt64 &&& Int64.toUInt64 63)).toInt64) &&& 3689348814741910323) : Int64) = pc_2 (pc_1 w) from rfl) ?_
  refine gd_lstore_n hX [(0, .long (pc_2 (pc_1 w)))] 23 dd_Lo_bitCount_23 rfl (by decide) rfl ?_
  refine gd_lload_n hX 24 dd_Lo_bitCount_24 rfl ?_
  refine gd_lload_n hX 25 dd_Lo_bitCount_25 rfl ?_
  refine gd_iconst hX 26 dd_Lo_bitCount_26 (v := 4) (by decide) ?_
  refine gd_lushr hX 27 dd_Lo_bitCount_27 ?_
  refine gd_ladd hX 28 dd_Lo_bitCount_28 ?_
  refine gd_ldc2 hX 29 dd_Lo_bitCount_29 (v := 1085102592571150095) kw_366 ?_
  refine gd_land hX 32 dd_Lo_bitCount_32 ?_
  refine gd_eql (show (((pc_2 (pc_1 w)) + (((pc_2 (pc_1 w)).toUInt64 >>> ((4 : Int32).toInt64.toUInt64 &&& Int64.toUInt64 63)).toInt64)) &&& 1085102592571150095 : Int64) = pc_3 (pc_2 (pc_1 w)) from rfl) ?_
  refine gd_lstore_n hX [(0, .long (pc_3 (pc_2 (pc_1 w))))] 33 dd_Lo_bitCount_33 rfl (by decide) rfl ?_
  refine gd_lload_n hX 34 dd_Lo_bitCount_34 rfl ?_
  refine gd_lload_n hX 35 dd_Lo_bitCount_35 rfl ?_
  refine gd_bipush hX 36 dd_Lo_bitCount_36 (v := 8) (by decide) ?_
  refine gd_lushr hX 38 dd_Lo_bitCount_38 ?_
  refine gd_ladd hX 39 dd_Lo_bitCount_39 ?_
  refine gd_eql (show ((pc_3 (pc_2 (pc_1 w))) + (((pc_3 (pc_2 (pc_1 w))).toUInt64 >>> ((8 : Int32).toInt64.toUInt64 &&& Int64.toUInt64 63)).toInt64) : Int64) = pc_4 (pc_3 (pc_2 (pc_1 w))) from rfl) ?_
  refine gd_lstore_n hX [(0, .long (pc_4 (pc_3 (pc_2 (pc_1 w)))))] 40 dd_Lo_bitCount_40 rfl (by decide) rfl ?_
  refine gd_lload_n hX 41 dd_Lo_bitCount_41 rfl ?_
  refine gd_lload_n hX 42 dd_Lo_bitCount_42 rfl ?_
  refine gd_bipush hX 43 dd_Lo_bitCount_43 (v := 16) (by decide) ?_
  refine gd_lushr hX 45 dd_Lo_bitCount_45 ?_
  refine gd_ladd hX 46 dd_Lo_bitCount_46 ?_
  refine gd_eql (show ((pc_4 (pc_3 (pc_2 (pc_1 w)))) + (((pc_4 (pc_3 (pc_2 (pc_1 w)))).toUInt64 >>> ((16 : Int32).toInt64.toUInt64 &&& Int64.toUInt64 63)).toInt64) : Int64) = pc_5 (pc_4 (pc_3 (pc_2 (pc_1 w)))) from rfl) ?_
  refine gd_lstore_n hX [(0, .long (pc_5 (pc_4 (pc_3 (pc_2 (pc_1 w))))))] 47 dd_Lo_bitCount_47 rfl (by decide) rfl ?_
  refine gd_lload_n hX 48 dd_Lo_bitCount_48 rfl ?_
  refine gd_lload_n hX 49 dd_Lo_bitCount_49 rfl ?_
  refine gd_bipush hX 50 dd_Lo_bitCount_50 (v := 32) (by decide) ?_
  refine gd_lushr hX 52 dd_Lo_bitCount_52 ?_
  refine gd_ladd hX 53 dd_Lo_bitCount_53 ?_
  refine gd_eql (show ((pc_5 (pc_4 (pc_3 (pc_2 (pc_1 w))))) + (((pc_5 (pc_4 (pc_3 (pc_2 (pc_1 w))))).toUInt64 >>> ((32 : Int32).toInt64.toUInt64 &&& Int64.toUInt64 63)).toInt64) : Int64) = pc_6 (pc_5 (pc_4 (pc_3 (pc_2 (pc_1 w))))) from rfl) ?_
  refine gd_lstore_n hX [(0, .long (pc_6 (pc_5 (pc_4 (pc_3 (pc_2 (pc_1 w)))))))] 54 dd_Lo_bitCount_54 rfl (by decide) rfl ?_
  refine gd_lload_n hX 55 dd_Lo_bitCount_55 rfl ?_
  refine gd_l2i hX 56 dd_Lo_bitCount_56 ?_
  refine gd_bipush hX 57 dd_Lo_bitCount_57 (v := 127) (by decide) ?_
  refine gd_iand hX 59 dd_Lo_bitCount_59 ?_
  refine gd_eqi (show (((pc_6 (pc_5 (pc_4 (pc_3 (pc_2 (pc_1 w)))))).toInt32) &&& 127 : Int32) = nI (ch_pop w 64) from ch_bitcount w) ?_
  exact gd_iret hX hE 60 dd_Lo_bitCount_60 ⟨rfl, rfl⟩
set_option maxRecDepth 100000 in
set_option maxHeartbeats 4000000 in
theorem ct_Cl_many (l : Launch) (K : gd_K) (h a : Nat) (w : Int64) : gd_M l yy_Cl_many bb_Cl_many 1 (some .int) [] 1 13 0 0 K [.ref h] [gd_ob 0 h [.ref a, .long w]] (fun v w1 => v = some (.int (nI (ch_pop w 64))) ∧ w1 = [gd_ob 0 h [.ref a, .long w]]) (fun _ _ => False) := by
  refine gd_body (Nat.le_of_ble_eq_true rfl) (fun X hXl hin hE hX => ?_)
  refine gd_aload_n hX 0 dd_Cl_many_0 rfl ?_
  refine gd_get hX inC_Cl 0 1 1 dd_Cl_many_1 rfl rfl (by decide) kw_41 rfl ?_
  refine gd_call hX (st := []) (wr := [gd_ob 0 h [.ref a, .long w]]) (ct_Lo_bitCount _ K w) 4 dd_Cl_many_4 (gd_nS hX (As := [.long w]) kw_389 kw_362 kw_25 (gd_nmOf kw_363) (gd_sigOf (n := 1) kw_363 (by decide)) (by decide) rfl rfl dd_Cl_many_4) (gd_codeOf kw_363) (by decide) [] [0] rfl rfl rfl rfl rfl (by decide) (Nat.le_of_ble_eq_true rfl) (Nat.le_of_ble_eq_true rfl) (Nat.le_of_ble_eq_true rfl) (Nat.le_of_ble_eq_true rfl) (fun v9 w9 h9 => ?_) (fun E9 w9 q9 h9 => h9.elim)
  obtain ⟨rfl, rfl⟩ := h9
  show gd_W X K 0 0 [gd_ob 0 h [.ref a, .long w]] [(0, .ref h)] [.int (nI (ch_pop w 64))] 7
  exact gd_iret hX hE 7 dd_Cl_many_7 ⟨rfl, rfl⟩
set_option maxRecDepth 100000 in
set_option maxHeartbeats 4000000 in
theorem ct_Oc_clear (l : Launch) (K : gd_K) (h r : Nat) (n : Int32) : gd_M l yy_Oc_clear bb_Oc_clear 1 (none) [] 0 0 0 0 K [.ref h] [gd_ob 1 h [.ref r, .int n]] (fun v w1 => v = none ∧ w1 = [gd_ob 1 h [.ref r, .int (nI 0)]]) (fun _ _ => False) := by
  refine gd_body (Nat.le_of_ble_eq_true rfl) (fun X hXl hin hE hX => ?_)
  refine gd_aload_n hX 0 dd_Oc_clear_0 rfl ?_
  refine gd_iconst hX 1 dd_Oc_clear_1 (v := 0) (by decide) ?_
  refine gd_eqi (show (0 : Int32) = nI 0 from rfl) ?_
  refine gd_put hX inC_Oc ty_Oc tyk_Oc nm_Oc 0 1 [gd_ob 1 h [.ref r, .int (nI 0)]] 2 dd_Oc_clear_2 rfl rfl (by decide) kw_72 rfl rfl rfl (Nat.le_of_ble_eq_true rfl) rfl ?_
  exact gd_vret hX hE 5 dd_Oc_clear_5 ⟨rfl, rfl⟩
set_option maxRecDepth 100000 in
set_option maxHeartbeats 4000000 in
theorem ct_Oc_length (l : Launch) (K : gd_K) (h r : Nat) (n : Int32) : gd_M l yy_Oc_length bb_Oc_length 1 (some .int) [] 0 0 0 0 K [.ref h] [gd_ob 1 h [.ref r, .int n]] (fun v w1 => v = some (.int n) ∧ w1 = [gd_ob 1 h [.ref r, .int n]]) (fun _ _ => False) := by
  refine gd_body (Nat.le_of_ble_eq_true rfl) (fun X hXl hin hE hX => ?_)
  refine gd_aload_n hX 0 dd_Oc_length_0 rfl ?_
  refine gd_get hX inC_Oc 0 1 1 dd_Oc_length_1 rfl rfl (by decide) kw_72 rfl ?_
  exact gd_iret hX hE 4 dd_Oc_length_4 ⟨rfl, rfl⟩
set_option maxRecDepth 100000 in
set_option maxHeartbeats 4000000 in
theorem ct_Oc_add (l : Launch) (K : gd_K) (h r rom : Nat) (f : Nat → Int32) (L : List Nat) (x : Int32) (o : Nat) (hL : L.length < rom) (hrom : rom < 2 ^ 31) (hB : ch_B f L) (hx : x &&& 255 = nI o) : gd_M l yy_Oc_add bb_Oc_add 2 (none) [] 0 0 0 0 K [.ref h, .int x] [gd_ob 1 h [.ref r, .int (nI L.length)], gd_aB K r rom f] (fun v w1 => v = none ∧ ∃ f', w1 = [gd_ob 1 h [.ref r, .int (nI (L ++ [o]).length)], gd_aB K r rom f'] ∧ ch_B f' (L ++ [o])) (fun _ _ => False) := by
  refine gd_body (Nat.le_of_ble_eq_true rfl) (fun X hXl hin hE hX => ?_)
  refine gd_aload_n hX 0 dd_Oc_add_0 rfl ?_
  refine gd_get hX inC_Oc 0 0 1 dd_Oc_add_1 rfl rfl (by decide) kw_71 rfl ?_
  refine gd_aload_n hX 4 dd_Oc_add_4 rfl ?_
  refine gd_get hX inC_Oc 0 1 5 dd_Oc_add_5 rfl rfl (by decide) kw_72 rfl ?_
  refine gd_iload_n hX 8 dd_Oc_add_8 rfl ?_
  refine gd_i2b hX 9 dd_Oc_add_9 ?_
  refine gd_bast hX 1 L.length [gd_ob 1 h [.ref r, .int (nI L.length)], gd_aB K r rom (upd f L.length (vp_nar .byte x.toInt8.toInt32))] 10 dd_Oc_add_10 rfl rfl hL hrom rfl ?_
  refine gd_aload_n hX 11 dd_Oc_add_11 rfl ?_
  refine gd_dup hX 12 dd_Oc_add_12 rfl ?_
  refine gd_get hX inC_Oc 0 1 13 dd_Oc_add_13 rfl rfl (by decide) kw_72 rfl ?_
  refine gd_iconst hX 16 dd_Oc_add_16 (v := 1) (by decide) ?_
  refine gd_iadd hX 17 dd_Oc_add_17 ?_
  refine gd_eqi (show ((nI L.length) + 1 : Int32) = nI (L.length + 1) from nI_1 _) ?_
  refine gd_put hX inC_Oc ty_Oc tyk_Oc nm_Oc 0 1 [gd_ob 1 h [.ref r, .int (nI (L.length + 1))], gd_aB K r rom (upd f L.length (vp_nar .byte x.toInt8.toInt32))] 18 dd_Oc_add_18 rfl rfl (by decide) kw_72 rfl rfl rfl (Nat.le_of_ble_eq_true rfl) rfl ?_
  exact gd_vret hX hE 21 dd_Oc_add_21 ⟨rfl, _, by rw [List.length_append]; rfl, ch_B_add hB hx⟩
set_option maxRecDepth 100000 in
set_option maxHeartbeats 4000000 in
theorem ct_Oc_octetOrZero (l : Launch) (K : gd_K) (h r rom j : Nat) (f : Nat → Int32) (L : List Nat) (hL : L.length ≤ rom) (hrom : rom < 2 ^ 31) (hj : j < 2 ^ 31) (hB : ch_B f L) : gd_M l yy_Oc_octetOrZero bb_Oc_octetOrZero 2 (some .int) [] 0 0 0 0 K [.ref h, .int (nI j)] [gd_ob 1 h [.ref r, .int (nI L.length)], gd_aB K r rom f] (fun v w1 => v = some (.int (nI (L.getD j 0))) ∧ w1 = [gd_ob 1 h [.ref r, .int (nI L.length)], gd_aB K r rom f]) (fun _ _ => False) := by
  refine gd_body (Nat.le_of_ble_eq_true rfl) (fun X hXl hin hE hX => ?_)
  refine gd_iload_n hX 0 dd_Oc_octetOrZero_0 rfl ?_
  refine gd_aload_n hX 1 dd_Oc_octetOrZero_1 rfl ?_
  refine gd_get hX inC_Oc 0 1 2 dd_Oc_octetOrZero_2 rfl rfl (by decide) kw_72 rfl ?_
  refine gd_icmp_ge hX 5 21 dd_Oc_octetOrZero_5 (by decide) (fun h1 => ?_) (fun h1 => ?_)
  · skip
    have h2 : L.length ≤ j := (nI_leI (by omega) hj).mp h1
    refine gd_iconst hX 21 dd_Oc_octetOrZero_21 (v := 0) (by decide) ?_
    exact gd_iret hX hE 22 dd_Oc_octetOrZero_22 ⟨by rw [ch_getD_out h2]; rfl, rfl⟩
  · skip
    have h2 : j < L.length := Nat.lt_of_not_le (fun q => h1 ((nI_leI (by omega) hj).mpr q))
    refine gd_aload_n hX 8 dd_Oc_octetOrZero_8 rfl ?_
    refine gd_get hX inC_Oc 0 0 9 dd_Oc_octetOrZero_9 rfl rfl (by decide) kw_71 rfl ?_
    refine gd_iload_n hX 12 dd_Oc_octetOrZero_12 rfl ?_
    refine gd_bald hX 1 j 13 dd_Oc_octetOrZero_13 rfl rfl (by omega) hrom ?_
    refine gd_sipush hX 14 dd_Oc_octetOrZero_14 (v := 255) (by decide) ?_
    refine gd_iand hX 17 dd_Oc_octetOrZero_17 ?_
    refine gd_eqi (show ((f j) &&& 255 : Int32) = nI (L.getD j 0) from hB j h2) ?_
    refine gd_goto hX 18 22 dd_Oc_octetOrZero_18 (by decide) ?_
    exact gd_iret hX hE 22 dd_Oc_octetOrZero_22 ⟨rfl, rfl⟩
set_option maxRecDepth 100000 in
set_option maxHeartbeats 4000000 in
theorem ct_Ru_many (l : Launch) (K : gd_K) (h a b : Nat) (n : Int32) : gd_M l yy_Ru_many bb_Ru_many 1 (some .int) [] 0 0 0 0 K [.ref h] [gd_ob 3 h [.ref a, .ref b, .int n]] (fun v w1 => v = some (.int n) ∧ w1 = [gd_ob 3 h [.ref a, .ref b, .int n]]) (fun _ _ => False) := by
  refine gd_body (Nat.le_of_ble_eq_true rfl) (fun X hXl hin hE hX => ?_)
  refine gd_aload_n hX 0 dd_Ru_many_0 rfl ?_
  refine gd_get hX inC_Ru 0 2 1 dd_Ru_many_1 rfl rfl (by decide) kw_56 rfl ?_
  exact gd_iret hX hE 4 dd_Ru_many_4 ⟨rfl, rfl⟩
set_option maxRecDepth 100000 in
set_option maxHeartbeats 4000000 in
theorem ct_Ru_size (l : Launch) (K : gd_K) (h a b j : Nat) (n : Int32) (rs : Nat → Int32) (hj : j < 64) : gd_M l yy_Ru_size bb_Ru_size 2 (some .int) [] 0 0 0 0 K [.ref h, .int (nI j)] [gd_ob 3 h [.ref a, .ref b, .int n], gd_aI K b 64 rs] (fun v w1 => v = some (.int (rs j)) ∧ w1 = [gd_ob 3 h [.ref a, .ref b, .int n], gd_aI K b 64 rs]) (fun _ _ => False) := by
  refine gd_body (Nat.le_of_ble_eq_true rfl) (fun X hXl hin hE hX => ?_)
  refine gd_aload_n hX 0 dd_Ru_size_0 rfl ?_
  refine gd_get hX inC_Ru 0 1 1 dd_Ru_size_1 rfl rfl (by decide) kw_55 rfl ?_
  refine gd_iload_n hX 4 dd_Ru_size_4 rfl ?_
  refine gd_iald hX 1 j 5 dd_Ru_size_5 rfl rfl (by omega) (by decide) ?_
  exact gd_iret hX hE 6 dd_Ru_size_6 ⟨rfl, rfl⟩
set_option maxRecDepth 100000 in
set_option maxHeartbeats 4000000 in
theorem ct_Ru_folded (l : Launch) (K : gd_K) (h a b j : Nat) (n : Int32) (rn : Nat → Int64) (hj : j < 64) : gd_M l yy_Ru_folded bb_Ru_folded 6 (some .long) [] 0 0 0 0 K [.ref h, .int (nI j)] [gd_ob 3 h [.ref a, .ref b, .int n], gd_aJ K a 64 rn] (fun v w1 => v = some (.long (ch_zz (rn j - if j = 0 then 0 else rn (j - 1)))) ∧ w1 = [gd_ob 3 h [.ref a, .ref b, .int n], gd_aJ K a 64 rn]) (fun _ _ => False) := by
  refine gd_body (Nat.le_of_ble_eq_true rfl) (fun X hXl hin hE hX => ?_)
  refine gd_iload_n hX 0 dd_Ru_folded_0 rfl ?_
  refine gd_if_ne hX 1 8 dd_Ru_folded_1 (by decide) (fun h1 => ?_) (fun h1 => ?_)
  · skip
    have h2 : 0 < j := Nat.pos_of_ne_zero (fun q => h1 (by rw [q]; rfl))
    refine gd_aload_n hX 8 dd_Ru_folded_8 rfl ?_
    refine gd_get hX inC_Ru 0 0 9 dd_Ru_folded_9 rfl rfl (by decide) kw_54 rfl ?_
    refine gd_iload_n hX 12 dd_Ru_folded_12 rfl ?_
    refine gd_iconst hX 13 dd_Ru_folded_13 (v := 1) (by decide) ?_
    refine gd_isub hX 14 dd_Ru_folded_14 ?_
    refine gd_eqi (show ((nI j) - 1 : Int32) = nI (j - 1) from pk_sub (b := 1) (by omega)) ?_
    refine gd_lald hX 1 (j - 1) 15 dd_Ru_folded_15 rfl rfl (by omega) (by decide) ?_
    refine gd_lstore_n hX [(2, .long (rn (j - 1))), (0, .ref h), (1, .int (nI j))] 16 dd_Ru_folded_16 rfl (by decide) rfl ?_
    refine gd_aload_n hX 17 dd_Ru_folded_17 rfl ?_
    refine gd_get hX inC_Ru 0 0 18 dd_Ru_folded_18 rfl rfl (by decide) kw_54 rfl ?_
    refine gd_iload_n hX 21 dd_Ru_folded_21 rfl ?_
    refine gd_lald hX 1 j 22 dd_Ru_folded_22 rfl rfl (by omega) (by decide) ?_
    refine gd_lload_n hX 23 dd_Ru_folded_23 rfl ?_
    refine gd_lsub hX 24 dd_Ru_folded_24 ?_
    refine gd_lstore hX [(4, .long ((rn j) - (rn (j - 1)))), (2, .long (rn (j - 1))), (0, .ref h), (1, .int (nI j))] 25 dd_Ru_folded_25 (by decide) rfl ?_
    refine gd_lload hX 27 dd_Ru_folded_27 rfl ?_
    refine gd_iconst hX 29 dd_Ru_folded_29 (v := 1) (by decide) ?_
    refine gd_lshl hX 30 dd_Ru_folded_30 ?_
    refine gd_lload hX 31 dd_Ru_folded_31 rfl ?_
    refine gd_bipush hX 33 dd_Ru_folded_33 (v := 63) (by decide) ?_
    refine gd_lshr hX 35 dd_Ru_folded_35 ?_
    refine gd_lxor hX 36 dd_Ru_folded_36 ?_
    refine gd_eql (show ((((rn j) - (rn (j - 1))) <<< ((1 : Int32).toInt64 &&& 63)) ^^^ (((rn j) - (rn (j - 1))) >>> ((63 : Int32).toInt64 &&& 63)) : Int64) = ch_zz (rn j - rn (j - 1)) from rfl) ?_
    exact gd_lret hX hE 37 dd_Ru_folded_37 ⟨by rw [if_neg (by omega)], rfl⟩
  · skip
    have h2 : j = 0 := nI_0' (by omega) h1
    refine gd_lconst hX 4 dd_Ru_folded_4 (v := 0) (by decide) ?_
    refine gd_goto hX 5 16 dd_Ru_folded_5 (by decide) ?_
    refine gd_lstore_n hX [(2, .long 0), (0, .ref h), (1, .int (nI j))] 16 dd_Ru_folded_16 rfl (by decide) rfl ?_
    refine gd_aload_n hX 17 dd_Ru_folded_17 rfl ?_
    refine gd_get hX inC_Ru 0 0 18 dd_Ru_folded_18 rfl rfl (by decide) kw_54 rfl ?_
    refine gd_iload_n hX 21 dd_Ru_folded_21 rfl ?_
    refine gd_lald hX 1 j 22 dd_Ru_folded_22 rfl rfl (by omega) (by decide) ?_
    refine gd_lload_n hX 23 dd_Ru_folded_23 rfl ?_
    refine gd_lsub hX 24 dd_Ru_folded_24 ?_
    refine gd_lstore hX [(4, .long ((rn j) - 0)), (2, .long 0), (0, .ref h), (1, .int (nI j))] 25 dd_Ru_folded_25 (by decide) rfl ?_
    refine gd_lload hX 27 dd_Ru_folded_27 rfl ?_
    refine gd_iconst hX 29 dd_Ru_folded_29 (v := 1) (by decide) ?_
    refine gd_lshl hX 30 dd_Ru_folded_30 ?_
    refine gd_lload hX 31 dd_Ru_folded_31 rfl ?_
    refine gd_bipush hX 33 dd_Ru_folded_33 (v := 63) (by decide) ?_
    refine gd_lshr hX 35 dd_Ru_folded_35 ?_
    refine gd_lxor hX 36 dd_Ru_folded_36 ?_
    refine gd_eql (show ((((rn j) - 0) <<< ((1 : Int32).toInt64 &&& 63)) ^^^ (((rn j) - 0) >>> ((63 : Int32).toInt64 &&& 63)) : Int64) = ch_zz (rn j - 0) from rfl) ?_
    exact gd_lret hX hE 37 dd_Ru_folded_37 ⟨by rw [if_pos h2], rfl⟩
set_option maxRecDepth 100000 in
set_option maxHeartbeats 4000000 in
theorem ct_Ru_addCell (l : Launch) (K : gd_K) (h a b : Nat) (rn : Nat → Int64) (rs : Nat → Int32) (L : List (Int64 × Nat)) (v : Int64) (hL : L.length < 64) (hR : ch_R rn rs L) : gd_M l yy_Ru_addCell bb_Ru_addCell 3 (none) [] 0 0 0 0 K [.ref h, .long v] [gd_ob 3 h [.ref a, .ref b, .int (nI L.length)], gd_aJ K a 64 rn, gd_aI K b 64 rs] (fun v9 w1 => v9 = none ∧ ∃ rn' rs', w1 = [gd_ob 3 h [.ref a, .ref b, .int (nI (ch_add L v).length)], gd_aJ K a 64 rn', gd_aI K b 64 rs'] ∧ ch_R rn' rs' (ch_add L v)) (fun _ _ => False) := by
  refine gd_body (Nat.le_of_ble_eq_true rfl) (fun X hXl hin hE hX => ?_)
  refine gd_aload_n hX 0 dd_Ru_addCell_0 rfl ?_
  refine gd_get hX inC_Ru 0 2 1 dd_Ru_addCell_1 rfl rfl (by decide) kw_56 rfl ?_
  refine gd_if_eq hX 4 23 dd_Ru_addCell_4 (by decide) (fun h1 => ?_) (fun h1 => ?_)
  · skip
    have h2 : L.length = 0 := nI_0' (by omega) h1
    have hadd : ch_add L v = (v, 1) :: L := ch_add_nil v h2
    refine gd_aload_n hX 23 dd_Ru_addCell_23 rfl ?_
    refine gd_get hX inC_Ru 0 0 24 dd_Ru_addCell_24 rfl rfl (by decide) kw_54 rfl ?_
    refine gd_aload_n hX 27 dd_Ru_addCell_27 rfl ?_
    refine gd_get hX inC_Ru 0 2 28 dd_Ru_addCell_28 rfl rfl (by decide) kw_56 rfl ?_
    refine gd_lload_n hX 31 dd_Ru_addCell_31 rfl ?_
    refine gd_last hX 1 L.length [gd_ob 3 h [.ref a, .ref b, .int (nI L.length)], gd_aJ K a 64 (vp_updL rn L.length v), gd_aI K b 64 rs] 32 dd_Ru_addCell_32 rfl rfl (by omega) (by decide) rfl ?_
    refine gd_aload_n hX 33 dd_Ru_addCell_33 rfl ?_
    refine gd_get hX inC_Ru 0 1 34 dd_Ru_addCell_34 rfl rfl (by decide) kw_55 rfl ?_
    refine gd_aload_n hX 37 dd_Ru_addCell_37 rfl ?_
    refine gd_get hX inC_Ru 0 2 38 dd_Ru_addCell_38 rfl rfl (by decide) kw_56 rfl ?_
    refine gd_iconst hX 41 dd_Ru_addCell_41 (v := 0) (by decide) ?_
    refine gd_iast hX 2 L.length [gd_ob 3 h [.ref a, .ref b, .int (nI L.length)], gd_aJ K a 64 (vp_updL rn L.length v), gd_aI K b 64 (upd rs L.length 0)] 42 dd_Ru_addCell_42 rfl rfl (by omega) (by decide) rfl ?_
    refine gd_aload_n hX 43 dd_Ru_addCell_43 rfl ?_
    refine gd_dup hX 44 dd_Ru_addCell_44 rfl ?_
    refine gd_get hX inC_Ru 0 2 45 dd_Ru_addCell_45 rfl rfl (by decide) kw_56 rfl ?_
    refine gd_iconst hX 48 dd_Ru_addCell_48 (v := 1) (by decide) ?_
    refine gd_iadd hX 49 dd_Ru_addCell_49 ?_
    refine gd_eqi (show ((nI L.length) + 1 : Int32) = nI (L.length + 1) from nI_1 _) ?_
    refine gd_put hX inC_Ru ty_Ru tyk_Ru nm_Ru 0 2 [gd_ob 3 h [.ref a, .ref b, .int (nI (L.length + 1))], gd_aJ K a 64 (vp_updL rn L.length v), gd_aI K b 64 (upd rs L.length 0)] 50 dd_Ru_addCell_50 rfl rfl (by decide) kw_56 rfl rfl rfl (Nat.le_of_ble_eq_true rfl) rfl ?_
    refine gd_aload_n hX 53 dd_Ru_addCell_53 rfl ?_
    refine gd_get hX inC_Ru 0 1 54 dd_Ru_addCell_54 rfl rfl (by decide) kw_55 rfl ?_
    refine gd_aload_n hX 57 dd_Ru_addCell_57 rfl ?_
    refine gd_get hX inC_Ru 0 2 58 dd_Ru_addCell_58 rfl rfl (by decide) kw_56 rfl ?_
    refine gd_iconst hX 61 dd_Ru_addCell_61 (v := 1) (by decide) ?_
    refine gd_isub hX 62 dd_Ru_addCell_62 ?_
    refine gd_eqi (show ((nI (L.length + 1)) - 1 : Int32) = nI L.length from nI_pred _) ?_
    refine gd_dup2 hX 63 dd_Ru_addCell_63 rfl rfl ?_
    refine gd_iald hX 2 L.length 64 dd_Ru_addCell_64 rfl rfl (by omega) (by decide) ?_
    refine gd_iconst hX 65 dd_Ru_addCell_65 (v := 1) (by decide) ?_
    refine gd_iadd hX 66 dd_Ru_addCell_66 ?_
    refine gd_eqi (show (((upd rs L.length 0) L.length) + 1 : Int32) = nI 1 from (by rw [pk_us]; rfl)) ?_
    refine gd_iast hX 2 L.length [gd_ob 3 h [.ref a, .ref b, .int (nI (L.length + 1))], gd_aJ K a 64 (vp_updL rn L.length v), gd_aI K b 64 (upd (upd rs L.length 0) L.length (nI 1))] 67 dd_Ru_addCell_67 rfl rfl (by omega) (by decide) rfl ?_
    exact gd_vret hX hE 68 dd_Ru_addCell_68 ⟨rfl, _, _, by rw [hadd]; rfl, by rw [hadd, ch_upd2]; exact ch_R_new hR v 1⟩
  · skip
    have h2 : 0 < L.length := Nat.pos_of_ne_zero (fun q => h1 (by rw [q]; rfl))
    have h3 := hR 0 h2
    rw [Nat.sub_zero] at h3
    refine gd_aload_n hX 7 dd_Ru_addCell_7 rfl ?_
    refine gd_get hX inC_Ru 0 0 8 dd_Ru_addCell_8 rfl rfl (by decide) kw_54 rfl ?_
    refine gd_aload_n hX 11 dd_Ru_addCell_11 rfl ?_
    refine gd_get hX inC_Ru 0 2 12 dd_Ru_addCell_12 rfl rfl (by decide) kw_56 rfl ?_
    refine gd_iconst hX 15 dd_Ru_addCell_15 (v := 1) (by decide) ?_
    refine gd_isub hX 16 dd_Ru_addCell_16 ?_
    refine gd_eqi (show ((nI L.length) - 1 : Int32) = nI (L.length - 1) from pk_sub (b := 1) (by omega)) ?_
    refine gd_lald hX 1 (L.length - 1) 17 dd_Ru_addCell_17 rfl rfl (by omega) (by decide) ?_
    refine gd_lload_n hX 18 dd_Ru_addCell_18 rfl ?_
    refine gd_lcmp hX 19 dd_Ru_addCell_19 ?_
    refine gd_if_eq hX 20 53 dd_Ru_addCell_20 (by decide) (fun h4 => ?_) (fun h4 => ?_)
    · skip
      have h5 := ch_cmp0.mp h4
      rw [h3.1] at h5
      obtain ⟨t, h6, h7⟩ := ch_add_eq v h2 h5
      refine gd_aload_n hX 53 dd_Ru_addCell_53 rfl ?_
      refine gd_get hX inC_Ru 0 1 54 dd_Ru_addCell_54 rfl rfl (by decide) kw_55 rfl ?_
      refine gd_aload_n hX 57 dd_Ru_addCell_57 rfl ?_
      refine gd_get hX inC_Ru 0 2 58 dd_Ru_addCell_58 rfl rfl (by decide) kw_56 rfl ?_
      refine gd_iconst hX 61 dd_Ru_addCell_61 (v := 1) (by decide) ?_
      refine gd_isub hX 62 dd_Ru_addCell_62 ?_
      refine gd_eqi (show ((nI L.length) - 1 : Int32) = nI (L.length - 1) from pk_sub (b := 1) (by omega)) ?_
      refine gd_dup2 hX 63 dd_Ru_addCell_63 rfl rfl ?_
      refine gd_iald hX 2 (L.length - 1) 64 dd_Ru_addCell_64 rfl rfl (by omega) (by decide) ?_
      refine gd_iconst hX 65 dd_Ru_addCell_65 (v := 1) (by decide) ?_
      refine gd_iadd hX 66 dd_Ru_addCell_66 ?_
      refine gd_eqi (show ((rs (L.length - 1)) + 1 : Int32) = nI ((L.getD 0 (0, 0)).2 + 1) from (by rw [h3.2]; exact nI_1 _)) ?_
      refine gd_iast hX 2 (L.length - 1) [gd_ob 3 h [.ref a, .ref b, .int (nI L.length)], gd_aJ K a 64 rn, gd_aI K b 64 (upd rs (L.length - 1) (nI ((L.getD 0 (0, 0)).2 + 1)))] 67 dd_Ru_addCell_67 rfl rfl (by omega) (by decide) rfl ?_
      have h8 : L.length = t.length + 1 := by rw [h6]; rfl
      have h10 : L.length - 1 = t.length := by omega
      exact gd_vret hX hE 68 dd_Ru_addCell_68 ⟨rfl, _, _, by rw [show (ch_add L v).length = L.length by rw [h7, h8]; rfl], by rw [h7, h10]; rw [h6] at hR; exact ch_R_inc hR⟩
    · skip
      have h5 : (L.getD 0 (0, 0)).1 ≠ v := fun q => h4 (ch_cmp0.mpr (by rw [h3.1]; exact q))
      have hadd : ch_add L v = (v, 1) :: L := ch_add_ne v h5
      refine gd_aload_n hX 23 dd_Ru_addCell_23 rfl ?_
      refine gd_get hX inC_Ru 0 0 24 dd_Ru_addCell_24 rfl rfl (by decide) kw_54 rfl ?_
      refine gd_aload_n hX 27 dd_Ru_addCell_27 rfl ?_
      refine gd_get hX inC_Ru 0 2 28 dd_Ru_addCell_28 rfl rfl (by decide) kw_56 rfl ?_
      refine gd_lload_n hX 31 dd_Ru_addCell_31 rfl ?_
      refine gd_last hX 1 L.length [gd_ob 3 h [.ref a, .ref b, .int (nI L.length)], gd_aJ K a 64 (vp_updL rn L.length v), gd_aI K b 64 rs] 32 dd_Ru_addCell_32 rfl rfl (by omega) (by decide) rfl ?_
      refine gd_aload_n hX 33 dd_Ru_addCell_33 rfl ?_
      refine gd_get hX inC_Ru 0 1 34 dd_Ru_addCell_34 rfl rfl (by decide) kw_55 rfl ?_
      refine gd_aload_n hX 37 dd_Ru_addCell_37 rfl ?_
      refine gd_get hX inC_Ru 0 2 38 dd_Ru_addCell_38 rfl rfl (by decide) kw_56 rfl ?_
      refine gd_iconst hX 41 dd_Ru_addCell_41 (v := 0) (by decide) ?_
      refine gd_iast hX 2 L.length [gd_ob 3 h [.ref a, .ref b, .int (nI L.length)], gd_aJ K a 64 (vp_updL rn L.length v), gd_aI K b 64 (upd rs L.length 0)] 42 dd_Ru_addCell_42 rfl rfl (by omega) (by decide) rfl ?_
      refine gd_aload_n hX 43 dd_Ru_addCell_43 rfl ?_
      refine gd_dup hX 44 dd_Ru_addCell_44 rfl ?_
      refine gd_get hX inC_Ru 0 2 45 dd_Ru_addCell_45 rfl rfl (by decide) kw_56 rfl ?_
      refine gd_iconst hX 48 dd_Ru_addCell_48 (v := 1) (by decide) ?_
      refine gd_iadd hX 49 dd_Ru_addCell_49 ?_
      refine gd_eqi (show ((nI L.length) + 1 : Int32) = nI (L.length + 1) from nI_1 _) ?_
      refine gd_put hX inC_Ru ty_Ru tyk_Ru nm_Ru 0 2 [gd_ob 3 h [.ref a, .ref b, .int (nI (L.length + 1))], gd_aJ K a 64 (vp_updL rn L.length v), gd_aI K b 64 (upd rs L.length 0)] 50 dd_Ru_addCell_50 rfl rfl (by decide) kw_56 rfl rfl rfl (Nat.le_of_ble_eq_true rfl) rfl ?_
      refine gd_aload_n hX 53 dd_Ru_addCell_53 rfl ?_
      refine gd_get hX inC_Ru 0 1 54 dd_Ru_addCell_54 rfl rfl (by decide) kw_55 rfl ?_
      refine gd_aload_n hX 57 dd_Ru_addCell_57 rfl ?_
      refine gd_get hX inC_Ru 0 2 58 dd_Ru_addCell_58 rfl rfl (by decide) kw_56 rfl ?_
      refine gd_iconst hX 61 dd_Ru_addCell_61 (v := 1) (by decide) ?_
      refine gd_isub hX 62 dd_Ru_addCell_62 ?_
      refine gd_eqi (show ((nI (L.length + 1)) - 1 : Int32) = nI L.length from nI_pred _) ?_
      refine gd_dup2 hX 63 dd_Ru_addCell_63 rfl rfl ?_
      refine gd_iald hX 2 L.length 64 dd_Ru_addCell_64 rfl rfl (by omega) (by decide) ?_
      refine gd_iconst hX 65 dd_Ru_addCell_65 (v := 1) (by decide) ?_
      refine gd_iadd hX 66 dd_Ru_addCell_66 ?_
      refine gd_eqi (show (((upd rs L.length 0) L.length) + 1 : Int32) = nI 1 from (by rw [pk_us]; rfl)) ?_
      refine gd_iast hX 2 L.length [gd_ob 3 h [.ref a, .ref b, .int (nI (L.length + 1))], gd_aJ K a 64 (vp_updL rn L.length v), gd_aI K b 64 (upd (upd rs L.length 0) L.length (nI 1))] 67 dd_Ru_addCell_67 rfl rfl (by omega) (by decide) rfl ?_
      exact gd_vret hX hE 68 dd_Ru_addCell_68 ⟨rfl, _, _, by rw [hadd]; rfl, by rw [hadd, ch_upd2]; exact ch_R_new hR v 1⟩
set_option maxRecDepth 100000 in
set_option maxHeartbeats 4000000 in
theorem ct_Ru_gather (l : Launch) (K : gd_K) (h a b c ca : Nat) (n : Int32) (rn : Nat → Int64) (rs : Nat → Int32) (w : Int64) (f : Nat → Int64) : gd_M l yy_Ru_gather bb_Ru_gather 3 (none) [] 1 14 0 0 K [.ref h, .ref c] [gd_ob 3 h [.ref a, .ref b, .int n], gd_aJ K a 64 rn, gd_aI K b 64 rs, gd_ob 0 c [.ref ca, .long w], gd_aJ K ca 64 f] (fun v9 w1 => v9 = none ∧ ∃ rn' rs', w1 = [gd_ob 3 h [.ref a, .ref b, .int (nI (ch_runs w f 64).length)], gd_aJ K a 64 rn', gd_aI K b 64 rs', gd_ob 0 c [.ref ca, .long w], gd_aJ K ca 64 f] ∧ ch_R rn' rs' (ch_runs w f 64)) (fun _ _ => False) := by
  refine gd_body (Nat.le_of_ble_eq_true rfl) (fun X hXl hin hE hX => ?_)
  have loop : ∀ (m k : Nat) (rn : Nat → Int64) (rs : Nat → Int32), m + k = 64 → ch_R rn rs (ch_runs w f k) → gd_W X K 0 0 [gd_ob 3 h [.ref a, .ref b, .int (nI (ch_runs w f k).length)], gd_aJ K a 64 rn, gd_aI K b 64 rs, gd_ob 0 c [.ref ca, .long w], gd_aJ K ca 64 f] [(0, .ref h), (1, .ref c), (2, .int (nI k))] [] 7 := by
    intro m
    induction m with
    | zero =>
      intro k rn rs hk hR
      obtain rfl : k = 64 := by omega
      refine gd_iload_n hX 7 dd_Ru_gather_7 rfl ?_
      refine gd_bipush hX 8 dd_Ru_gather_8 (v := 64) (by decide) ?_
      refine gd_icmp_ge hX 10 36 dd_Ru_gather_10 (by decide) (fun h1 => ?_) (fun h1 => ?_)
      · skip
        exact gd_vret hX hE 36 dd_Ru_gather_36 ⟨rfl, _, _, rfl, hR⟩
      · skip
        exact absurd (by decide) h1
    | succ m ih =>
      intro k rn rs hk hR
      have hlen := ch_runs_len w f k
      refine gd_iload_n hX 7 dd_Ru_gather_7 rfl ?_
      refine gd_bipush hX 8 dd_Ru_gather_8 (v := 64) (by decide) ?_
      refine gd_icmp_ge hX 10 36 dd_Ru_gather_10 (by decide) (fun h1 => ?_) (fun h1 => ?_)
      · skip
        exact absurd ((nI_leI (a := 64) (by decide) (by omega)).mp h1) (by omega)
      · skip
        refine gd_aload_n hX 13 dd_Ru_gather_13 rfl ?_
        refine gd_iload_n hX 14 dd_Ru_gather_14 rfl ?_
        refine gd_call hX (st := []) (wr := [gd_ob 3 h [.ref a, .ref b, .int (nI (ch_runs w f k).length)], gd_aJ K a 64 rn, gd_aI K b 64 rs, gd_aJ K ca 64 f]) (ct_Cl_isFull _ K c ca k w (by omega)) 15 dd_Ru_gather_15 (gd_nV hX (As := [.int (nI k)]) kw_122 kw_123 kw_124 (gd_sigOf (n := 1) kw_125 (by decide)) (by decide) 3 rfl rfl rfl rfl dd_Ru_gather_15) (gd_codeOf kw_125) (by decide) [3] [0, 1, 2, 4] rfl rfl rfl rfl rfl (by decide) (Nat.le_of_ble_eq_true rfl) (Nat.le_of_ble_eq_true rfl) (Nat.le_of_ble_eq_true rfl) (Nat.le_of_ble_eq_true rfl) (fun v9 w9 h9 => ?_) (fun E9 w9 q9 h9 => h9.elim)
        obtain ⟨rfl, rfl⟩ := h9
        refine gd_wsp [gd_ob 3 h [.ref a, .ref b, .int (nI (ch_runs w f k).length)], gd_aJ K a 64 rn, gd_aI K b 64 rs, gd_ob 0 c [.ref ca, .long w], gd_aJ K ca 64 f] [0, 1, 2, 4, 3] rfl rfl rfl ?_
        show gd_W X K 0 0 [gd_ob 3 h [.ref a, .ref b, .int (nI (ch_runs w f k).length)], gd_aJ K a 64 rn, gd_aI K b 64 rs, gd_ob 0 c [.ref ca, .long w], gd_aJ K ca 64 f] [(0, .ref h), (1, .ref c), (2, .int (nI k))] [.int (if ch_bit w k then 1 else 0)] 18
        refine gd_if_eq hX 18 30 dd_Ru_gather_18 (by decide) (fun h2 => ?_) (fun h2 => ?_)
        · skip
          have h3 : ch_bit w k = false := by cases hb : ch_bit w k <;> simp_all
          refine gd_iinc hX 2 [(2, .int (nI (k + 1))), (0, .ref h), (1, .ref c)] 30 dd_Ru_gather_30 rfl (gd_inc k) (by decide) rfl ?_
          refine gd_goto hX 33 7 dd_Ru_gather_33 (by decide) ?_
          have h4 : ch_runs w f (k + 1) = ch_runs w f k := by show (if ch_bit w k = true then _ else _) = _; rw [h3]; rfl
          rw [← h4]
          rw [← h4] at hR
          refine gd_lvs [(0, .ref h), (1, .ref c), (2, .int (nI (k + 1)))] [1, 2, 0] rfl ?_
          exact ih (k + 1) rn rs (by omega) hR
        · skip
          have h3 : ch_bit w k = true := by cases hb : ch_bit w k <;> simp_all
          have h4 : ch_runs w f (k + 1) = ch_add (ch_runs w f k) (f k) := by show (if ch_bit w k = true then _ else _) = _; rw [h3]; rfl
          refine gd_aload_n hX 21 dd_Ru_gather_21 rfl ?_
          refine gd_aload_n hX 22 dd_Ru_gather_22 rfl ?_
          refine gd_iload_n hX 23 dd_Ru_gather_23 rfl ?_
          refine gd_call hX (st := [.ref h]) (wr := [gd_ob 3 h [.ref a, .ref b, .int (nI (ch_runs w f k).length)], gd_aJ K a 64 rn, gd_aI K b 64 rs]) (ct_Cl_number _ K c ca k w f (by omega)) 24 dd_Ru_gather_24 (gd_nV hX (As := [.int (nI k)]) kw_126 kw_127 kw_128 (gd_sigOf (n := 1) kw_129 (by decide)) (by decide) 3 rfl rfl rfl rfl dd_Ru_gather_24) (gd_codeOf kw_129) (by decide) [3, 4] [0, 1, 2] rfl rfl rfl rfl rfl (by decide) (Nat.le_of_ble_eq_true rfl) (Nat.le_of_ble_eq_true rfl) (Nat.le_of_ble_eq_true rfl) (Nat.le_of_ble_eq_true rfl) (fun v9 w9 h9 => ?_) (fun E9 w9 q9 h9 => h9.elim)
          obtain ⟨rfl, rfl⟩ := h9
          show gd_W X K 0 0 [gd_ob 3 h [.ref a, .ref b, .int (nI (ch_runs w f k).length)], gd_aJ K a 64 rn, gd_aI K b 64 rs, gd_ob 0 c [.ref ca, .long w], gd_aJ K ca 64 f] [(0, .ref h), (1, .ref c), (2, .int (nI k))] [.long (f k), .ref h] 27
          refine gd_call hX (st := []) (wr := [gd_ob 0 c [.ref ca, .long w], gd_aJ K ca 64 f]) (ct_Ru_addCell _ K h a b rn rs (ch_runs w f k) (f k) (by omega) hR) 27 dd_Ru_gather_27 (gd_nV hX (As := [.long (f k)]) kw_130 kw_132 kw_0 (gd_sigOf (n := 1) kw_133 (by decide)) (by decide) 0 rfl rfl rfl rfl dd_Ru_gather_27) (gd_codeOf kw_133) (by decide) [0, 1, 2] [3, 4] rfl rfl rfl rfl rfl (by decide) (Nat.le_of_ble_eq_true rfl) (Nat.le_of_ble_eq_true rfl) (Nat.le_of_ble_eq_true rfl) (Nat.le_of_ble_eq_true rfl) (fun v9 w9 h9 => ?_) (fun E9 w9 q9 h9 => h9.elim)
          obtain ⟨rfl, rn', rs', rfl, hR2⟩ := h9
          refine gd_wsp [gd_ob 3 h [.ref a, .ref b, .int (nI (ch_add (ch_runs w f k) (f k)).length)], gd_aJ K a 64 rn', gd_aI K b 64 rs', gd_ob 0 c [.ref ca, .long w], gd_aJ K ca 64 f] [2, 3, 4, 0, 1] rfl rfl rfl ?_
          show gd_W X K 0 0 [gd_ob 3 h [.ref a, .ref b, .int (nI (ch_add (ch_runs w f k) (f k)).length)], gd_aJ K a 64 rn', gd_aI K b 64 rs', gd_ob 0 c [.ref ca, .long w], gd_aJ K ca 64 f] [(0, .ref h), (1, .ref c), (2, .int (nI k))] [] 30
          refine gd_iinc hX 2 [(2, .int (nI (k + 1))), (0, .ref h), (1, .ref c)] 30 dd_Ru_gather_30 rfl (gd_inc k) (by decide) rfl ?_
          refine gd_goto hX 33 7 dd_Ru_gather_33 (by decide) ?_
          refine gd_lvs [(0, .ref h), (1, .ref c), (2, .int (nI (k + 1)))] [1, 2, 0] rfl ?_
          rw [← h4]
          rw [← h4] at hR2
          exact ih (k + 1) rn' rs' (by omega) hR2
  refine gd_aload_n hX 0 dd_Ru_gather_0 rfl ?_
  refine gd_iconst hX 1 dd_Ru_gather_1 (v := 0) (by decide) ?_
  refine gd_eqi (show (0 : Int32) = nI (ch_runs w f 0).length from rfl) ?_
  refine gd_put hX inC_Ru ty_Ru tyk_Ru nm_Ru 0 2 [gd_ob 3 h [.ref a, .ref b, .int (nI (ch_runs w f 0).length)], gd_aJ K a 64 rn, gd_aI K b 64 rs, gd_ob 0 c [.ref ca, .long w], gd_aJ K ca 64 f] 2 dd_Ru_gather_2 rfl rfl (by decide) kw_56 rfl rfl rfl (Nat.le_of_ble_eq_true rfl) rfl ?_
  refine gd_iconst hX 5 dd_Ru_gather_5 (v := 0) (by decide) ?_
  refine gd_eqi (show (0 : Int32) = nI 0 from rfl) ?_
  refine gd_istore_n hX [(2, .int (nI 0)), (0, .ref h), (1, .ref c)] 6 dd_Ru_gather_6 rfl (by decide) rfl ?_
  refine gd_lvs [(0, .ref h), (1, .ref c), (2, .int (nI 0))] [1, 2, 0] rfl ?_
  exact loop 64 0 rn rs rfl (ch_R_nil _ _)
