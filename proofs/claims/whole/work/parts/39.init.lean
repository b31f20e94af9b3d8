set_option maxRecDepth 100000 in
set_option maxHeartbeats 4000000 in
theorem ct_Cl_init (l : Launch) (K : gd_K) (h : Nat) : gd_M l yy_Cl_init bb_Cl_init 1 (none) [] 1 12 1 64 K [.ref h] [gd_ob 0 h [.null, .long 0]] (fun v w1 => v = none ∧ ∃ a, w1 = [gd_ob 0 h [.ref a, .long 0], gd_aJ K a 64 (fun _ => 0)]) (fun _ _ => False) := by
  refine gd_body (Nat.le_of_ble_eq_true rfl) (fun X hXl hin hE hX => ?_)
  refine gd_aload_n hX 0 dd_Cl_init_0 rfl ?_
  refine gd_init hX 1 dd_Cl_init_1 kw_39 (Nat.le_of_ble_eq_true rfl) (Nat.le_of_ble_eq_true rfl) ?_
  refine gd_aload_n hX 4 dd_Cl_init_4 rfl ?_
  refine gd_bipush hX 5 dd_Cl_init_5 (v := 64) (by decide) ?_
  refine gd_newaJ hX 64 7 dd_Cl_init_7 rfl (by omega) (by simp) (by simp) (fun a => ?_)
  show gd_W X K 1 64 [gd_ob 0 h [.null, .long 0], gd_aJ K a 64 (fun _ => 0)] [(0, .ref h)] [.ref a, .ref h] 9
  refine gd_putF hX inC_Cl ty_Cl tyk_Cl nm_Cl 0 0 [gd_ob 0 h [.ref a, .long 0], gd_aJ K a 64 (fun _ => 0)] 9 dd_Cl_init_9 rfl rfl (by decide) kw_40 rfl hin (by decide) rfl rfl (Nat.le_of_ble_eq_true rfl) rfl ?_
  exact gd_vret hX hE 12 dd_Cl_init_12 ⟨rfl, a, rfl⟩
set_option maxRecDepth 100000 in
set_option maxHeartbeats 4000000 in
theorem ct_Ru_init (l : Launch) (K : gd_K) (h : Nat) : gd_M l yy_Ru_init bb_Ru_init 1 (none) [] 1 12 2 128 K [.ref h] [gd_ob 3 h [.null, .null, .int 0]] (fun v w1 => v = none ∧ ∃ a b, w1 = [gd_ob 3 h [.ref a, .ref b, .int 0], gd_aJ K a 64 (fun _ => 0), gd_aI K b 64 (fun _ => 0)]) (fun _ _ => False) := by
  refine gd_body (Nat.le_of_ble_eq_true rfl) (fun X hXl hin hE hX => ?_)
  refine gd_aload_n hX 0 dd_Ru_init_0 rfl ?_
  refine gd_init hX 1 dd_Ru_init_1 kw_53 (Nat.le_of_ble_eq_true rfl) (Nat.le_of_ble_eq_true rfl) ?_
  refine gd_aload_n hX 4 dd_Ru_init_4 rfl ?_
  refine gd_bipush hX 5 dd_Ru_init_5 (v := 64) (by decide) ?_
  refine gd_newaJ hX 64 7 dd_Ru_init_7 rfl (by omega) (by simp) (by simp) (fun a => ?_)
  show gd_W X K 1 64 [gd_ob 3 h [.null, .null, .int 0], gd_aJ K a 64 (fun _ => 0)] [(0, .ref h)] [.ref a, .ref h] 9
  refine gd_putF hX inC_Ru ty_Ru tyk_Ru nm_Ru 0 0 [gd_ob 3 h [.ref a, .null, .int 0], gd_aJ K a 64 (fun _ => 0)] 9 dd_Ru_init_9 rfl rfl (by decide) kw_54 rfl hin (by decide) rfl rfl (Nat.le_of_ble_eq_true rfl) rfl ?_
  refine gd_aload_n hX 12 dd_Ru_init_12 rfl ?_
  refine gd_bipush hX 13 dd_Ru_init_13 (v := 64) (by decide) ?_
  refine gd_newaI hX 64 15 dd_Ru_init_15 rfl (by omega) (by simp) (by simp) (fun b => ?_)
  show gd_W X K 2 128 [gd_ob 3 h [.ref a, .null, .int 0], gd_aJ K a 64 (fun _ => 0), gd_aI K b 64 (fun _ => 0)] [(0, .ref h)] [.ref b, .ref h] 17
  refine gd_putF hX inC_Ru ty_Ru tyk_Ru nm_Ru 0 1 [gd_ob 3 h [.ref a, .ref b, .int 0], gd_aJ K a 64 (fun _ => 0), gd_aI K b 64 (fun _ => 0)] 17 dd_Ru_init_17 rfl rfl (by decide) kw_55 rfl hin (by decide) rfl rfl (Nat.le_of_ble_eq_true rfl) rfl ?_
  exact gd_vret hX hE 20 dd_Ru_init_20 ⟨rfl, a, b, rfl⟩
set_option maxRecDepth 100000 in
set_option maxHeartbeats 4000000 in
theorem ct_Rd_init (l : Launch) (K : gd_K) (h : Nat) : gd_M l yy_Rd_init bb_Rd_init 1 (none) [] 1 12 0 0 K [.ref h] [gd_ob 2 h [.int 0, .long 0]] (fun v w1 => v = none ∧ w1 = [gd_ob 2 h [.int 0, .long 0]]) (fun _ _ => False) := by
  refine gd_body (Nat.le_of_ble_eq_true rfl) (fun X hXl hin hE hX => ?_)
  refine gd_aload_n hX 0 dd_Rd_init_0 rfl ?_
  refine gd_init hX 1 dd_Rd_init_1 kw_84 (Nat.le_of_ble_eq_true rfl) (Nat.le_of_ble_eq_true rfl) ?_
  exact gd_vret hX hE 4 dd_Rd_init_4 ⟨rfl, rfl⟩
set_option maxRecDepth 100000 in
set_option maxHeartbeats 4000000 in
theorem ct_Oc_inita (l : Launch) (K : gd_K) (h : Nat) : gd_M l yy_Oc_init bb_Oc_init 2 (none) [] 1 12 1 712 K [.ref h, .int 712] [gd_ob 1 h [.null, .int 0]] (fun v w1 => v = none ∧ ∃ r, w1 = [gd_ob 1 h [.ref r, .int 0], gd_aB K r 712 (fun _ => 0)]) (fun _ _ => False) := by
  refine gd_body (Nat.le_of_ble_eq_true rfl) (fun X hXl hin hE hX => ?_)
  refine gd_aload_n hX 0 dd_Oc_init_0 rfl ?_
  refine gd_init hX 1 dd_Oc_init_1 kw_70 (Nat.le_of_ble_eq_true rfl) (Nat.le_of_ble_eq_true rfl) ?_
  refine gd_aload_n hX 4 dd_Oc_init_4 rfl ?_
  refine gd_iload_n hX 5 dd_Oc_init_5 rfl ?_
  refine gd_newaB hX 712 6 dd_Oc_init_6 rfl (by omega) (by simp) (by simp) (fun r => ?_)
  show gd_W X K 1 712 [gd_ob 1 h [.null, .int 0], gd_aB K r 712 (fun _ => 0)] [(0, .ref h), (1, .int 712)] [.ref r, .ref h] 8
  refine gd_putF hX inC_Oc ty_Oc tyk_Oc nm_Oc 0 0 [gd_ob 1 h [.ref r, .int 0], gd_aB K r 712 (fun _ => 0)] 8 dd_Oc_init_8 rfl rfl (by decide) kw_71 rfl hin (by decide) rfl rfl (Nat.le_of_ble_eq_true rfl) rfl ?_
  exact gd_vret hX hE 11 dd_Oc_init_11 ⟨rfl, r, rfl⟩
set_option maxRecDepth 100000 in
set_option maxHeartbeats 4000000 in
theorem ct_Oc_initb (l : Launch) (K : gd_K) (h : Nat) : gd_M l yy_Oc_init bb_Oc_init 2 (none) [] 1 12 1 1000 K [.ref h, .int 1000] [gd_ob 1 h [.null, .int 0]] (fun v w1 => v = none ∧ ∃ r, w1 = [gd_ob 1 h [.ref r, .int 0], gd_aB K r 1000 (fun _ => 0)]) (fun _ _ => False) := by
  refine gd_body (Nat.le_of_ble_eq_true rfl) (fun X hXl hin hE hX => ?_)
  refine gd_aload_n hX 0 dd_Oc_init_0 rfl ?_
  refine gd_init hX 1 dd_Oc_init_1 kw_70 (Nat.le_of_ble_eq_true rfl) (Nat.le_of_ble_eq_true rfl) ?_
  refine gd_aload_n hX 4 dd_Oc_init_4 rfl ?_
  refine gd_iload_n hX 5 dd_Oc_init_5 rfl ?_
  refine gd_newaB hX 1000 6 dd_Oc_init_6 rfl (by omega) (by simp) (by simp) (fun r => ?_)
  show gd_W X K 1 1000 [gd_ob 1 h [.null, .int 0], gd_aB K r 1000 (fun _ => 0)] [(0, .ref h), (1, .int 1000)] [.ref r, .ref h] 8
  refine gd_putF hX inC_Oc ty_Oc tyk_Oc nm_Oc 0 0 [gd_ob 1 h [.ref r, .int 0], gd_aB K r 1000 (fun _ => 0)] 8 dd_Oc_init_8 rfl rfl (by decide) kw_71 rfl hin (by decide) rfl rfl (Nat.le_of_ble_eq_true rfl) rfl ?_
  exact gd_vret hX hE 11 dd_Oc_init_11 ⟨rfl, r, rfl⟩
set_option maxRecDepth 100000 in
set_option maxHeartbeats 4000000 in
theorem ct_Ch_init (l : Launch) (K : gd_K) (h : Nat) : gd_M l yy_Ch_init bb_Ch_init 1 (none) [] 2 27 12 1981 K [.ref h] [gd_ob 4 h [.null, .null, .null, .null, .null, .null, .int 0]] (fun v w1 => v = none ∧ ∃ c ca sp sa ru ra rb md mr fe fr rd, w1 = [gd_ob 4 h [.ref c, .ref sp, .ref ru, .ref md, .ref fe, .ref rd, .int (-1)], gd_ob 0 c [.ref ca, .long 0], gd_aJ K ca 64 (fun _ => 0), gd_ob 0 sp [.ref sa, .long 0], gd_aJ K sa 64 (fun _ => 0), gd_ob 3 ru [.ref ra, .ref rb, .int 0], gd_aJ K ra 64 (fun _ => 0), gd_aI K rb 64 (fun _ => 0), gd_ob 1 md [.ref mr, .int 0], gd_aB K mr 712 (fun _ => 0), gd_ob 1 fe [.ref fr, .int 0], gd_aB K fr 1000 (fun _ => 0), gd_ob 2 rd [.int 0, .long 0]]) (fun _ _ => False) := by
  refine gd_body (Nat.le_of_ble_eq_true rfl) (fun X hXl hin hE hX => ?_)
  refine gd_aload_n hX 0 dd_Ch_init_0 rfl ?_
  refine gd_init hX 1 dd_Ch_init_1 kw_31 (Nat.le_of_ble_eq_true rfl) (Nat.le_of_ble_eq_true rfl) ?_
  refine gd_aload_n hX 4 dd_Ch_init_4 rfl ?_
  refine gd_new hX (ci := 0) inC_Cl ty_Cl tyk_Cl [.null, .long 0] 5 dd_Ch_init_5 kw_34 kw_35 kw_14 rfl (by decide) (Nat.le_of_ble_eq_true rfl) (Nat.le_of_ble_eq_true rfl) (fun c => ?_)
  show gd_W X K 1 2 [gd_ob 4 h [.null, .null, .null, .null, .null, .null, .int 0], gd_ob 0 c [.null, .long 0]] [(0, .ref h)] [.ref c, .ref h] 8
  refine gd_dup hX 8 dd_Ch_init_8 rfl ?_
  refine gd_call hX (st := [.ref c, .ref h]) (wr := [gd_ob 4 h [.null, .null, .null, .null, .null, .null, .int 0]]) (ct_Cl_init _ K c) 9 dd_Ch_init_9 (gd_nIN hX (As := []) kw_36 kw_37 kw_38 rfl (by decide) (by decide) rfl rfl dd_Ch_init_9) (gd_codeOf kw_38) (by decide) [1] [0] rfl rfl rfl rfl rfl (by decide) (Nat.le_of_ble_eq_true rfl) (Nat.le_of_ble_eq_true rfl) (Nat.le_of_ble_eq_true rfl) (Nat.le_of_ble_eq_true rfl) (fun v9 w9 h9 => ?_) (fun E9 w9 q9 h9 => h9.elim)
  obtain ⟨rfl, ca, rfl⟩ := h9
  show gd_W X K 2 66 [gd_ob 4 h [.null, .null, .null, .null, .null, .null, .int 0], gd_ob 0 c [.ref ca, .long 0], gd_aJ K ca 64 (fun _ => 0)] [(0, .ref h)] [.ref c, .ref h] 12
  refine gd_put hX inC_Ch ty_Ch tyk_Ch nm_Ch 0 0 [gd_ob 4 h [.ref c, .null, .null, .null, .null, .null, .int 0], gd_ob 0 c [.ref ca, .long 0], gd_aJ K ca 64 (fun _ => 0)] 12 dd_Ch_init_12 rfl rfl (by decide) kw_92 rfl rfl rfl (Nat.le_of_ble_eq_true rfl) rfl ?_
  refine gd_aload_n hX 15 dd_Ch_init_15 rfl ?_
  refine gd_new hX (ci := 0) inC_Cl ty_Cl tyk_Cl [.null, .long 0] 16 dd_Ch_init_16 kw_34 kw_35 kw_14 rfl (by decide) (Nat.le_of_ble_eq_true rfl) (Nat.le_of_ble_eq_true rfl) (fun sp => ?_)
  show gd_W X K 3 68 [gd_ob 4 h [.ref c, .null, .null, .null, .null, .null, .int 0], gd_ob 0 c [.ref ca, .long 0], gd_aJ K ca 64 (fun _ => 0), gd_ob 0 sp [.null, .long 0]] [(0, .ref h)] [.ref sp, .ref h] 19
  refine gd_dup hX 19 dd_Ch_init_19 rfl ?_
  refine gd_call hX (st := [.ref sp, .ref h]) (wr := [gd_ob 4 h [.ref c, .null, .null, .null, .null, .null, .int 0], gd_ob 0 c [.ref ca, .long 0], gd_aJ K ca 64 (fun _ => 0)]) (ct_Cl_init _ K sp) 20 dd_Ch_init_20 (gd_nIN hX (As := []) kw_36 kw_37 kw_38 rfl (by decide) (by decide) rfl rfl dd_Ch_init_20) (gd_codeOf kw_38) (by decide) [3] [0, 1, 2] rfl rfl rfl rfl rfl (by decide) (Nat.le_of_ble_eq_true rfl) (Nat.le_of_ble_eq_true rfl) (Nat.le_of_ble_eq_true rfl) (Nat.le_of_ble_eq_true rfl) (fun v9 w9 h9 => ?_) (fun E9 w9 q9 h9 => h9.elim)
  obtain ⟨rfl, sa, rfl⟩ := h9
  show gd_W X K 4 132 [gd_ob 4 h [.ref c, .null, .null, .null, .null, .null, .int 0], gd_ob 0 c [.ref ca, .long 0], gd_aJ K ca 64 (fun _ => 0), gd_ob 0 sp [.ref sa, .long 0], gd_aJ K sa 64 (fun _ => 0)] [(0, .ref h)] [.ref sp, .ref h] 23
  refine gd_put hX inC_Ch ty_Ch tyk_Ch nm_Ch 0 1 [gd_ob 4 h [.ref c, .ref sp, .null, .null, .null, .null, .int 0], gd_ob 0 c [.ref ca, .long 0], gd_aJ K ca 64 (fun _ => 0), gd_ob 0 sp [.ref sa, .long 0], gd_aJ K sa 64 (fun _ => 0)] 23 dd_Ch_init_23 rfl rfl (by decide) kw_93 rfl rfl rfl (Nat.le_of_ble_eq_true rfl) rfl ?_
  refine gd_aload_n hX 26 dd_Ch_init_26 rfl ?_
  refine gd_new hX (ci := 3) inC_Ru ty_Ru tyk_Ru [.null, .null, .int 0] 27 dd_Ch_init_27 kw_48 kw_49 kw_15 rfl (by decide) (Nat.le_of_ble_eq_true rfl) (Nat.le_of_ble_eq_true rfl) (fun ru => ?_)
  show gd_W X K 5 135 [gd_ob 4 h [.ref c, .ref sp, .null, .null, .null, .null, .int 0], gd_ob 0 c [.ref ca, .long 0], gd_aJ K ca 64 (fun _ => 0), gd_ob 0 sp [.ref sa, .long 0], gd_aJ K sa 64 (fun _ => 0), gd_ob 3 ru [.null, .null, .int 0]] [(0, .ref h)] [.ref ru, .ref h] 30
  refine gd_dup hX 30 dd_Ch_init_30 rfl ?_
  refine gd_call hX (st := [.ref ru, .ref h]) (wr := [gd_ob 4 h [.ref c, .ref sp, .null, .null, .null, .null, .int 0], gd_ob 0 c [.ref ca, .long 0], gd_aJ K ca 64 (fun _ => 0), gd_ob 0 sp [.ref sa, .long 0], gd_aJ K sa 64 (fun _ => 0)]) (ct_Ru_init _ K ru) 31 dd_Ch_init_31 (gd_nIN hX (As := []) kw_50 kw_51 kw_52 rfl (by decide) (by decide) rfl rfl dd_Ch_init_31) (gd_codeOf kw_52) (by decide) [5] [0, 1, 2, 3, 4] rfl rfl rfl rfl rfl (by decide) (Nat.le_of_ble_eq_true rfl) (Nat.le_of_ble_eq_true rfl) (Nat.le_of_ble_eq_true rfl) (Nat.le_of_ble_eq_true rfl) (fun v9 w9 h9 => ?_) (fun E9 w9 q9 h9 => h9.elim)
  obtain ⟨rfl, ra, rb, rfl⟩ := h9
  show gd_W X K 7 263 [gd_ob 4 h [.ref c, .ref sp, .null, .null, .null, .null, .int 0], gd_ob 0 c [.ref ca, .long 0], gd_aJ K ca 64 (fun _ => 0), gd_ob 0 sp [.ref sa, .long 0], gd_aJ K sa 64 (fun _ => 0), gd_ob 3 ru [.ref ra, .ref rb, .int 0], gd_aJ K ra 64 (fun _ => 0), gd_aI K rb 64 (fun _ => 0)] [(0, .ref h)] [.ref ru, .ref h] 34
  refine gd_putF hX inC_Ch ty_Ch tyk_Ch nm_Ch 0 2 [gd_ob 4 h [.ref c, .ref sp, .ref ru, .null, .null, .null, .int 0], gd_ob 0 c [.ref ca, .long 0], gd_aJ K ca 64 (fun _ => 0), gd_ob 0 sp [.ref sa, .long 0], gd_aJ K sa 64 (fun _ => 0), gd_ob 3 ru [.ref ra, .ref rb, .int 0], gd_aJ K ra 64 (fun _ => 0), gd_aI K rb 64 (fun _ => 0)] 34 dd_Ch_init_34 rfl rfl (by decide) kw_94 rfl hin (by decide) rfl rfl (Nat.le_of_ble_eq_true rfl) rfl ?_
  refine gd_aload_n hX 37 dd_Ch_init_37 rfl ?_
  refine gd_new hX (ci := 1) inC_Oc ty_Oc tyk_Oc [.null, .int 0] 38 dd_Ch_init_38 kw_65 kw_66 kw_16 rfl (by decide) (Nat.le_of_ble_eq_true rfl) (Nat.le_of_ble_eq_true rfl) (fun md => ?_)
  show gd_W X K 8 265 [gd_ob 4 h [.ref c, .ref sp, .ref ru, .null, .null, .null, .int 0], gd_ob 0 c [.ref ca, .long 0], gd_aJ K ca 64 (fun _ => 0), gd_ob 0 sp [.ref sa, .long 0], gd_aJ K sa 64 (fun _ => 0), gd_ob 3 ru [.ref ra, .ref rb, .int 0], gd_aJ K ra 64 (fun _ => 0), gd_aI K rb 64 (fun _ => 0), gd_ob 1 md [.null, .int 0]] [(0, .ref h)] [.ref md, .ref h] 41
  refine gd_dup hX 41 dd_Ch_init_41 rfl ?_
  refine gd_sipush hX 42 dd_Ch_init_42 (v := 712) (by decide) ?_
  refine gd_call hX (st := [.ref md, .ref h]) (wr := [gd_ob 4 h [.ref c, .ref sp, .ref ru, .null, .null, .null, .int 0], gd_ob 0 c [.ref ca, .long 0], gd_aJ K ca 64 (fun _ => 0), gd_ob 0 sp [.ref sa, .long 0], gd_aJ K sa 64 (fun _ => 0), gd_ob 3 ru [.ref ra, .ref rb, .int 0], gd_aJ K ra 64 (fun _ => 0), gd_aI K rb 64 (fun _ => 0)]) (ct_Oc_inita _ K md) 45 dd_Ch_init_45 (gd_nI hX (As := [.int 712]) kw_67 kw_68 kw_69 rfl (by decide) (by decide) rfl rfl dd_Ch_init_45) (gd_codeOf kw_69) (by decide) [8] [0, 1, 2, 3, 4, 5, 6, 7] rfl rfl rfl rfl rfl (by decide) (Nat.le_of_ble_eq_true rfl) (Nat.le_of_ble_eq_true rfl) (Nat.le_of_ble_eq_true rfl) (Nat.le_of_ble_eq_true rfl) (fun v9 w9 h9 => ?_) (fun E9 w9 q9 h9 => h9.elim)
  obtain ⟨rfl, mr, rfl⟩ := h9
  show gd_W X K 9 977 [gd_ob 4 h [.ref c, .ref sp, .ref ru, .null, .null, .null, .int 0], gd_ob 0 c [.ref ca, .long 0], gd_aJ K ca 64 (fun _ => 0), gd_ob 0 sp [.ref sa, .long 0], gd_aJ K sa 64 (fun _ => 0), gd_ob 3 ru [.ref ra, .ref rb, .int 0], gd_aJ K ra 64 (fun _ => 0), gd_aI K rb 64 (fun _ => 0), gd_ob 1 md [.ref mr, .int 0], gd_aB K mr 712 (fun _ => 0)] [(0, .ref h)] [.ref md, .ref h] 48
  refine gd_putF hX inC_Ch ty_Ch tyk_Ch nm_Ch 0 3 [gd_ob 4 h [.ref c, .ref sp, .ref ru, .ref md, .null, .null, .int 0], gd_ob 0 c [.ref ca, .long 0], gd_aJ K ca 64 (fun _ => 0), gd_ob 0 sp [.ref sa, .long 0], gd_aJ K sa 64 (fun _ => 0), gd_ob 3 ru [.ref ra, .ref rb, .int 0], gd_aJ K ra 64 (fun _ => 0), gd_aI K rb 64 (fun _ => 0), gd_ob 1 md [.ref mr, .int 0], gd_aB K mr 712 (fun _ => 0)] 48 dd_Ch_init_48 rfl rfl (by decide) kw_95 rfl hin (by decide) rfl rfl (Nat.le_of_ble_eq_true rfl) rfl ?_
  refine gd_aload_n hX 51 dd_Ch_init_51 rfl ?_
  refine gd_new hX (ci := 1) inC_Oc ty_Oc tyk_Oc [.null, .int 0] 52 dd_Ch_init_52 kw_65 kw_66 kw_16 rfl (by decide) (Nat.le_of_ble_eq_true rfl) (Nat.le_of_ble_eq_true rfl) (fun fe => ?_)
  show gd_W X K 10 979 [gd_ob 4 h [.ref c, .ref sp, .ref ru, .ref md, .null, .null, .int 0], gd_ob 0 c [.ref ca, .long 0], gd_aJ K ca 64 (fun _ => 0), gd_ob 0 sp [.ref sa, .long 0], gd_aJ K sa 64 (fun _ => 0), gd_ob 3 ru [.ref ra, .ref rb, .int 0], gd_aJ K ra 64 (fun _ => 0), gd_aI K rb 64 (fun _ => 0), gd_ob 1 md [.ref mr, .int 0], gd_aB K mr 712 (fun _ => 0), gd_ob 1 fe [.null, .int 0]] [(0, .ref h)] [.ref fe, .ref h] 55
  refine gd_dup hX 55 dd_Ch_init_55 rfl ?_
  refine gd_sipush hX 56 dd_Ch_init_56 (v := 1000) (by decide) ?_
  refine gd_call hX (st := [.ref fe, .ref h]) (wr := [gd_ob 4 h [.ref c, .ref sp, .ref ru, .ref md, .null, .null, .int 0], gd_ob 0 c [.ref ca, .long 0], gd_aJ K ca 64 (fun _ => 0), gd_ob 0 sp [.ref sa, .long 0], gd_aJ K sa 64 (fun _ => 0), gd_ob 3 ru [.ref ra, .ref rb, .int 0], gd_aJ K ra 64 (fun _ => 0), gd_aI K rb 64 (fun _ => 0), gd_ob 1 md [.ref mr, .int 0], gd_aB K mr 712 (fun _ => 0)]) (ct_Oc_initb _ K fe) 59 dd_Ch_init_59 (gd_nI hX (As := [.int 1000]) kw_67 kw_68 kw_69 rfl (by decide) (by decide) rfl rfl dd_Ch_init_59) (gd_codeOf kw_69) (by decide) [10] [0, 1, 2, 3, 4, 5, 6, 7, 8, 9] rfl rfl rfl rfl rfl (by decide) (Nat.le_of_ble_eq_true rfl) (Nat.le_of_ble_eq_true rfl) (Nat.le_of_ble_eq_true rfl) (Nat.le_of_ble_eq_true rfl) (fun v9 w9 h9 => ?_) (fun E9 w9 q9 h9 => h9.elim)
  obtain ⟨rfl, fr, rfl⟩ := h9
  show gd_W X K 11 1979 [gd_ob 4 h [.ref c, .ref sp, .ref ru, .ref md, .null, .null, .int 0], gd_ob 0 c [.ref ca, .long 0], gd_aJ K ca 64 (fun _ => 0), gd_ob 0 sp [.ref sa, .long 0], gd_aJ K sa 64 (fun _ => 0), gd_ob 3 ru [.ref ra, .ref rb, .int 0], gd_aJ K ra 64 (fun _ => 0), gd_aI K rb 64 (fun _ => 0), gd_ob 1 md [.ref mr, .int 0], gd_aB K mr 712 (fun _ => 0), gd_ob 1 fe [.ref fr, .int 0], gd_aB K fr 1000 (fun _ => 0)] [(0, .ref h)] [.ref fe, .ref h] 62
  refine gd_putF hX inC_Ch ty_Ch tyk_Ch nm_Ch 0 4 [gd_ob 4 h [.ref c, .ref sp, .ref ru, .ref md, .ref fe, .null, .int 0], gd_ob 0 c [.ref ca, .long 0], gd_aJ K ca 64 (fun _ => 0), gd_ob 0 sp [.ref sa, .long 0], gd_aJ K sa 64 (fun _ => 0), gd_ob 3 ru [.ref ra, .ref rb, .int 0], gd_aJ K ra 64 (fun _ => 0), gd_aI K rb 64 (fun _ => 0), gd_ob 1 md [.ref mr, .int 0], gd_aB K mr 712 (fun _ => 0), gd_ob 1 fe [.ref fr, .int 0], gd_aB K fr 1000 (fun _ => 0)] 62 dd_Ch_init_62 rfl rfl (by decide) kw_96 rfl hin (by decide) rfl rfl (Nat.le_of_ble_eq_true rfl) rfl ?_
  refine gd_aload_n hX 65 dd_Ch_init_65 rfl ?_
  refine gd_new hX (ci := 2) inC_Rd ty_Rd tyk_Rd [.int 0, .long 0] 66 dd_Ch_init_66 kw_79 kw_80 kw_17 rfl (by decide) (Nat.le_of_ble_eq_true rfl) (Nat.le_of_ble_eq_true rfl) (fun rd => ?_)
  show gd_W X K 12 1981 [gd_ob 4 h [.ref c, .ref sp, .ref ru, .ref md, .ref fe, .null, .int 0], gd_ob 0 c [.ref ca, .long 0], gd_aJ K ca 64 (fun _ => 0), gd_ob 0 sp [.ref sa, .long 0], gd_aJ K sa 64 (fun _ => 0), gd_ob 3 ru [.ref ra, .ref rb, .int 0], gd_aJ K ra 64 (fun _ => 0), gd_aI K rb 64 (fun _ => 0), gd_ob 1 md [.ref mr, .int 0], gd_aB K mr 712 (fun _ => 0), gd_ob 1 fe [.ref fr, .int 0], gd_aB K fr 1000 (fun _ => 0), gd_ob 2 rd [.int 0, .long 0]] [(0, .ref h)] [.ref rd, .ref h] 69
  refine gd_dup hX 69 dd_Ch_init_69 rfl ?_
  refine gd_call hX (st := [.ref rd, .ref h]) (wr := [gd_ob 4 h [.ref c, .ref sp, .ref ru, .ref md, .ref fe, .null, .int 0], gd_ob 0 c [.ref ca, .long 0], gd_aJ K ca 64 (fun _ => 0), gd_ob 0 sp [.ref sa, .long 0], gd_aJ K sa 64 (fun _ => 0), gd_ob 3 ru [.ref ra, .ref rb, .int 0], gd_aJ K ra 64 (fun _ => 0), gd_aI K rb 64 (fun _ => 0), gd_ob 1 md [.ref mr, .int 0], gd_aB K mr 712 (fun _ => 0), gd_ob 1 fe [.ref fr, .int 0], gd_aB K fr 1000 (fun _ => 0)]) (ct_Rd_init _ K rd) 70 dd_Ch_init_70 (gd_nIN hX (As := []) kw_81 kw_82 kw_83 rfl (by decide) (by decide) rfl rfl dd_Ch_init_70) (gd_codeOf kw_83) (by decide) [12] [0, 1, 2, 3, 4, 5, 6, 7, 8, 9, 10, 11] rfl rfl rfl rfl rfl (by decide) (Nat.le_of_ble_eq_true rfl) (Nat.le_of_ble_eq_true rfl) (Nat.le_of_ble_eq_true rfl) (Nat.le_of_ble_eq_true rfl) (fun v9 w9 h9 => ?_) (fun E9 w9 q9 h9 => h9.elim)
  obtain ⟨rfl, rfl⟩ := h9
  show gd_W X K 12 1981 [gd_ob 4 h [.ref c, .ref sp, .ref ru, .ref md, .ref fe, .null, .int 0], gd_ob 0 c [.ref ca, .long 0], gd_aJ K ca 64 (fun _ => 0), gd_ob 0 sp [.ref sa, .long 0], gd_aJ K sa 64 (fun _ => 0), gd_ob 3 ru [.ref ra, .ref rb, .int 0], gd_aJ K ra 64 (fun _ => 0), gd_aI K rb 64 (fun _ => 0), gd_ob 1 md [.ref mr, .int 0], gd_aB K mr 712 (fun _ => 0), gd_ob 1 fe [.ref fr, .int 0], gd_aB K fr 1000 (fun _ => 0), gd_ob 2 rd [.int 0, .long 0]] [(0, .ref h)] [.ref rd, .ref h] 73
  refine gd_putF hX inC_Ch ty_Ch tyk_Ch nm_Ch 0 5 [gd_ob 4 h [.ref c, .ref sp, .ref ru, .ref md, .ref fe, .ref rd, .int 0], gd_ob 0 c [.ref ca, .long 0], gd_aJ K ca 64 (fun _ => 0), gd_ob 0 sp [.ref sa, .long 0], gd_aJ K sa 64 (fun _ => 0), gd_ob 3 ru [.ref ra, .ref rb, .int 0], gd_aJ K ra 64 (fun _ => 0), gd_aI K rb 64 (fun _ => 0), gd_ob 1 md [.ref mr, .int 0], gd_aB K mr 712 (fun _ => 0), gd_ob 1 fe [.ref fr, .int 0], gd_aB K fr 1000 (fun _ => 0), gd_ob 2 rd [.int 0, .long 0]] 73 dd_Ch_init_73 rfl rfl (by decide) kw_97 rfl hin (by decide) rfl rfl (Nat.le_of_ble_eq_true rfl) rfl ?_
  refine gd_aload_n hX 76 dd_Ch_init_76 rfl ?_
  refine gd_iconst hX 77 dd_Ch_init_77 (v := (-1)) (by decide) ?_
  refine gd_put hX inC_Ch ty_Ch tyk_Ch nm_Ch 0 6 [gd_ob 4 h [.ref c, .ref sp, .ref ru, .ref md, .ref fe, .ref rd, .int (-1)], gd_ob 0 c [.ref ca, .long 0], gd_aJ K ca 64 (fun _ => 0), gd_ob 0 sp [.ref sa, .long 0], gd_aJ K sa 64 (fun _ => 0), gd_ob 3 ru [.ref ra, .ref rb, .int 0], gd_aJ K ra 64 (fun _ => 0), gd_aI K rb 64 (fun _ => 0), gd_ob 1 md [.ref mr, .int 0], gd_aB K mr 712 (fun _ => 0), gd_ob 1 fe [.ref fr, .int 0], gd_aB K fr 1000 (fun _ => 0), gd_ob 2 rd [.int 0, .long 0]] 78 dd_Ch_init_78 rfl rfl (by decide) kw_98 rfl rfl rfl (Nat.le_of_ble_eq_true rfl) rfl ?_
  exact gd_vret hX hE 81 dd_Ch_init_81 ⟨rfl, c, ca, sp, sa, ru, ra, rb, md, mr, fe, fr, rd, rfl⟩
