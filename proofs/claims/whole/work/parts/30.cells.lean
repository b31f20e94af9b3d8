set_option maxRecDepth 100000 in
set_option maxHeartbeats 4000000 in
theorem ct_Cl_isFull (l : Launch) (K : gd_K) (h a k : Nat) (w : Int64) (hk : k < 64) : gd_M l yy_Cl_isFull bb_Cl_isFull 2 (some .boolean) [] 0 0 0 0 K [.ref h, .int (nI k)] [gd_ob 0 h [.ref a, .long w]] (fun v w1 => v = some (.int (if ch_bit w k then 1 else 0)) ∧ w1 = [gd_ob 0 h [.ref a, .long w]]) (fun _ _ => False) := by
  refine gd_body (Nat.le_of_ble_eq_true rfl) (fun X hXl hin hE hX => ?_)
  refine gd_aload_n hX 0 dd_Cl_isFull_0 rfl ?_
  refine gd_get hX inC_Cl 0 1 1 dd_Cl_isFull_1 rfl rfl (by decide) kw_41 rfl ?_
  refine gd_iload_n hX 4 dd_Cl_isFull_4 rfl ?_
  refine gd_lushr hX 5 dd_Cl_isFull_5 ?_
  refine gd_lconst hX 6 dd_Cl_isFull_6 (v := 1) (by decide) ?_
  refine gd_land hX 7 dd_Cl_isFull_7 ?_
  refine gd_eql (show (((w.toUInt64 >>> ((nI k).toInt64.toUInt64 &&& Int64.toUInt64 63)).toInt64) &&& 1 : Int64) = (if ch_bit w k then 1 else 0) from ch_isfull w hk) ?_
  refine gd_lconst hX 8 dd_Cl_isFull_8 (v := 1) (by decide) ?_
  refine gd_lcmp hX 9 dd_Cl_isFull_9 ?_
  refine gd_eqi (show (lg_cmp (if ch_bit w k then 1 else 0) 1 : Int32) = (if ch_bit w k then 0 else (-1)) from by cases ch_bit w k <;> rfl) ?_
  refine gd_if_ne hX 10 17 dd_Cl_isFull_10 (by decide) (fun h1 => ?_) (fun h1 => ?_)
  · skip
    refine gd_iconst hX 17 dd_Cl_isFull_17 (v := 0) (by decide) ?_
    refine gd_zret hX hE 18 dd_Cl_isFull_18 rfl ⟨?_, rfl⟩
    cases hb : ch_bit w k <;> simp_all
  · skip
    refine gd_iconst hX 13 dd_Cl_isFull_13 (v := 1) (by decide) ?_
    refine gd_goto hX 14 18 dd_Cl_isFull_14 (by decide) ?_
    refine gd_zret hX hE 18 dd_Cl_isFull_18 rfl ⟨?_, rfl⟩
    cases hb : ch_bit w k <;> simp_all
set_option maxRecDepth 100000 in
set_option maxHeartbeats 4000000 in
theorem ct_Cl_number (l : Launch) (K : gd_K) (h a k : Nat) (w : Int64) (f : Nat → Int64) (hk : k < 64) : gd_M l yy_Cl_number bb_Cl_number 2 (some .long) [] 0 0 0 0 K [.ref h, .int (nI k)] [gd_ob 0 h [.ref a, .long w], gd_aJ K a 64 f] (fun v w1 => v = some (.long (f k)) ∧ w1 = [gd_ob 0 h [.ref a, .long w], gd_aJ K a 64 f]) (fun _ _ => False) := by
  refine gd_body (Nat.le_of_ble_eq_true rfl) (fun X hXl hin hE hX => ?_)
  refine gd_aload_n hX 0 dd_Cl_number_0 rfl ?_
  refine gd_get hX inC_Cl 0 0 1 dd_Cl_number_1 rfl rfl (by decide) kw_40 rfl ?_
  refine gd_iload_n hX 4 dd_Cl_number_4 rfl ?_
  refine gd_lald hX 1 k 5 dd_Cl_number_5 rfl rfl (by omega) (by decide) ?_
  exact gd_lret hX hE 6 dd_Cl_number_6 ⟨rfl, rfl⟩
set_option maxRecDepth 100000 in
set_option maxHeartbeats 4000000 in
theorem ct_Cl_fill (l : Launch) (K : gd_K) (h a k : Nat) (w : Int64) (f : Nat → Int64) (x : Int64) (hk : k < 64) : gd_M l yy_Cl_fill bb_Cl_fill 4 (none) [] 0 0 0 0 K [.ref h, .int (nI k), .long x] [gd_ob 0 h [.ref a, .long w], gd_aJ K a 64 f] (fun v w1 => v = none ∧ w1 = [gd_ob 0 h [.ref a, .long (w ||| ((1 : Int64) <<< ((nI k).toInt64 &&& 63)))], gd_aJ K a 64 (vp_updL f k x)]) (fun _ _ => False) := by
  refine gd_body (Nat.le_of_ble_eq_true rfl) (fun X hXl hin hE hX => ?_)
  refine gd_aload_n hX 0 dd_Cl_fill_0 rfl ?_
  refine gd_get hX inC_Cl 0 0 1 dd_Cl_fill_1 rfl rfl (by decide) kw_40 rfl ?_
  refine gd_iload_n hX 4 dd_Cl_fill_4 rfl ?_
  refine gd_lload_n hX 5 dd_Cl_fill_5 rfl ?_
  refine gd_last hX 1 k [gd_ob 0 h [.ref a, .long w], gd_aJ K a 64 (vp_updL f k x)] 6 dd_Cl_fill_6 rfl rfl (by omega) (by decide) rfl ?_
  refine gd_aload_n hX 7 dd_Cl_fill_7 rfl ?_
  refine gd_dup hX 8 dd_Cl_fill_8 rfl ?_
  refine gd_get hX inC_Cl 0 1 9 dd_Cl_fill_9 rfl rfl (by decide) kw_41 rfl ?_
  refine gd_lconst hX 12 dd_Cl_fill_12 (v := 1) (by decide) ?_
  refine gd_iload_n hX 13 dd_Cl_fill_13 rfl ?_
  refine gd_lshl hX 14 dd_Cl_fill_14 ?_
  refine gd_lor hX 15 dd_Cl_fill_15 ?_
  refine gd_put hX inC_Cl ty_Cl tyk_Cl nm_Cl 0 1 [gd_ob 0 h [.ref a, .long (w ||| ((1 : Int64) <<< ((nI k).toInt64 &&& 63)))], gd_aJ K a 64 (vp_updL f k x)] 16 dd_Cl_fill_16 rfl rfl (by decide) kw_41 rfl rfl rfl (Nat.le_of_ble_eq_true rfl) rfl ?_
  exact gd_vret hX hE 19 dd_Cl_fill_19 ⟨rfl, rfl⟩
