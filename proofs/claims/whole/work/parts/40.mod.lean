set_option maxRecDepth 100000 in
set_option maxHeartbeats 4000000 in
theorem ct_Mo_init (l : Launch) (K : gd_K) (h : Nat) : gd_M l yy_Mo_init bb_Mo_init 1 (none) [] 1 12 7 2696 K [.ref h] [gd_ob 5 h [.int 0, .null, .null, .null, .null, .null, .null, .null, .int 0, .int 0, .int 0, .int 0]] (fun v w1 => v = none ∧ ∃ va re fu wi ma wo fd, w1 = [gd_ob 5 h [.int 0, .ref va, .ref re, .ref fu, .ref wi, .ref ma, .ref wo, .ref fd, .int 0, .int 0, .int 0, .int (-1)], gd_aJ K va 64 (fun _ => 0), gd_aJ K re 64 (fun _ => 0), gd_aZ K fu 64 (fun _ => 0), gd_aZ K wi 64 (fun _ => 0), gd_aI K ma 720 (fun _ => 0), gd_aI K wo 720 (fun _ => 0), gd_aI K fd 1000 (fun _ => 0)]) (fun _ _ => False) := by
  refine gd_body (Nat.le_of_ble_eq_true rfl) (fun X hXl hin hE hX => ?_)
  refine gd_aload_n hX 0 dd_Mo_init_0 rfl ?_
  refine gd_init hX 1 dd_Mo_init_1 kw_407 (Nat.le_of_ble_eq_true rfl) (Nat.le_of_ble_eq_true rfl) ?_
  refine gd_aload_n hX 4 dd_Mo_init_4 rfl ?_
  refine gd_bipush hX 5 dd_Mo_init_5 (v := 64) (by decide) ?_
  refine gd_newaJ hX 64 7 dd_Mo_init_7 rfl (by omega) (by simp) (by simp) (fun va => ?_)
  show gd_W X K 1 64 [gd_ob 5 h [.int 0, .null, .null, .null, .null, .null, .null, .null, .int 0, .int 0, .int 0, .int 0], gd_aJ K va 64 (fun _ => 0)] [(0, .ref h)] [.ref va, .ref h] 9
  refine gd_putF hX inC_Mo ty_Mo tyk_Mo nm_Mo 0 1 [gd_ob 5 h [.int 0, .ref va, .null, .null, .null, .null, .null, .null, .int 0, .int 0, .int 0, .int 0], gd_aJ K va 64 (fun _ => 0)] 9 dd_Mo_init_9 rfl rfl (by decide) kw_409 rfl hin (by decide) rfl rfl (Nat.le_of_ble_eq_true rfl) rfl ?_
  refine gd_aload_n hX 12 dd_Mo_init_12 rfl ?_
  refine gd_bipush hX 13 dd_Mo_init_13 (v := 64) (by decide) ?_
  refine gd_newaJ hX 64 15 dd_Mo_init_15 rfl (by omega) (by simp) (by simp) (fun re => ?_)
  show gd_W X K 2 128 [gd_ob 5 h [.int 0, .ref va, .null, .null, .null, .null, .null, .null, .int 0, .int 0, .int 0, .int 0], gd_aJ K va 64 (fun _ => 0), gd_aJ K re 64 (fun _ => 0)] [(0, .ref h)] [.ref re, .ref h] 17
  refine gd_putF hX inC_Mo ty_Mo tyk_Mo nm_Mo 0 2 [gd_ob 5 h [.int 0, .ref va, .ref re, .null, .null, .null, .null, .null, .int 0, .int 0, .int 0, .int 0], gd_aJ K va 64 (fun _ => 0), gd_aJ K re 64 (fun _ => 0)] 17 dd_Mo_init_17 rfl rfl (by decide) kw_410 rfl hin (by decide) rfl rfl (Nat.le_of_ble_eq_true rfl) rfl ?_
  refine gd_aload_n hX 20 dd_Mo_init_20 rfl ?_
  refine gd_bipush hX 21 dd_Mo_init_21 (v := 64) (by decide) ?_
  refine gd_newaZ hX 64 23 dd_Mo_init_23 rfl (by omega) (by simp) (by simp) (fun fu => ?_)
  show gd_W X K 3 192 [gd_ob 5 h [.int 0, .ref va, .ref re, .null, .null, .null, .null, .null, .int 0, .int 0, .int 0, .int 0], gd_aJ K va 64 (fun _ => 0), gd_aJ K re 64 (fun _ => 0), gd_aZ K fu 64 (fun _ => 0)] [(0, .ref h)] [.ref fu, .ref h] 25
  refine gd_putF hX inC_Mo ty_Mo tyk_Mo nm_Mo 0 3 [gd_ob 5 h [.int 0, .ref va, .ref re, .ref fu, .null, .null, .null, .null, .int 0, .int 0, .int 0, .int 0], gd_aJ K va 64 (fun _ => 0), gd_aJ K re 64 (fun _ => 0), gd_aZ K fu 64 (fun _ => 0)] 25 dd_Mo_init_25 rfl rfl (by decide) kw_411 rfl hin (by decide) rfl rfl (Nat.le_of_ble_eq_true rfl) rfl ?_
  refine gd_aload_n hX 28 dd_Mo_init_28 rfl ?_
  refine gd_bipush hX 29 dd_Mo_init_29 (v := 64) (by decide) ?_
  refine gd_newaZ hX 64 31 dd_Mo_init_31 rfl (by omega) (by simp) (by simp) (fun wi => ?_)
  show gd_W X K 4 256 [gd_ob 5 h [.int 0, .ref va, .ref re, .ref fu, .null, .null, .null, .null, .int 0, .int 0, .int 0, .int 0], gd_aJ K va 64 (fun _ => 0), gd_aJ K re 64 (fun _ => 0), gd_aZ K fu 64 (fun _ => 0), gd_aZ K wi 64 (fun _ => 0)] [(0, .ref h)] [.ref wi, .ref h] 33
  refine gd_putF hX inC_Mo ty_Mo tyk_Mo nm_Mo 0 4 [gd_ob 5 h [.int 0, .ref va, .ref re, .ref fu, .ref wi, .null, .null, .null, .int 0, .int 0, .int 0, .int 0], gd_aJ K va 64 (fun _ => 0), gd_aJ K re 64 (fun _ => 0), gd_aZ K fu 64 (fun _ => 0), gd_aZ K wi 64 (fun _ => 0)] 33 dd_Mo_init_33 rfl rfl (by decide) kw_412 rfl hin (by decide) rfl rfl (Nat.le_of_ble_eq_true rfl) rfl ?_
  refine gd_aload_n hX 36 dd_Mo_init_36 rfl ?_
  refine gd_sipush hX 37 dd_Mo_init_37 (v := 720) (by decide) ?_
  refine gd_newaI hX 720 40 dd_Mo_init_40 rfl (by omega) (by simp) (by simp) (fun ma => ?_)
  show gd_W X K 5 976 [gd_ob 5 h [.int 0, .ref va, .ref re, .ref fu, .ref wi, .null, .null, .null, .int 0, .int 0, .int 0, .int 0], gd_aJ K va 64 (fun _ => 0), gd_aJ K re 64 (fun _ => 0), gd_aZ K fu 64 (fun _ => 0), gd_aZ K wi 64 (fun _ => 0), gd_aI K ma 720 (fun _ => 0)] [(0, .ref h)] [.ref ma, .ref h] 42
  refine gd_putF hX inC_Mo ty_Mo tyk_Mo nm_Mo 0 5 [gd_ob 5 h [.int 0, .ref va, .ref re, .ref fu, .ref wi, .ref ma, .null, .null, .int 0, .int 0, .int 0, .int 0], gd_aJ K va 64 (fun _ => 0), gd_aJ K re 64 (fun _ => 0), gd_aZ K fu 64 (fun _ => 0), gd_aZ K wi 64 (fun _ => 0), gd_aI K ma 720 (fun _ => 0)] 42 dd_Mo_init_42 rfl rfl (by decide) kw_413 rfl hin (by decide) rfl rfl (Nat.le_of_ble_eq_true rfl) rfl ?_
  refine gd_aload_n hX 45 dd_Mo_init_45 rfl ?_
  refine gd_sipush hX 46 dd_Mo_init_46 (v := 720) (by decide) ?_
  refine gd_newaI hX 720 49 dd_Mo_init_49 rfl (by omega) (by simp) (by simp) (fun wo => ?_)
  show gd_W X K 6 1696 [gd_ob 5 h [.int 0, .ref va, .ref re, .ref fu, .ref wi, .ref ma, .null, .null, .int 0, .int 0, .int 0, .int 0], gd_aJ K va 64 (fun _ => 0), gd_aJ K re 64 (fun _ => 0), gd_aZ K fu 64 (fun _ => 0), gd_aZ K wi 64 (fun _ => 0), gd_aI K ma 720 (fun _ => 0), gd_aI K wo 720 (fun _ => 0)] [(0, .ref h)] [.ref wo, .ref h] 51
  refine gd_putF hX inC_Mo ty_Mo tyk_Mo nm_Mo 0 6 [gd_ob 5 h [.int 0, .ref va, .ref re, .ref fu, .ref wi, .ref ma, .ref wo, .null, .int 0, .int 0, .int 0, .int 0], gd_aJ K va 64 (fun _ => 0), gd_aJ K re 64 (fun _ => 0), gd_aZ K fu 64 (fun _ => 0), gd_aZ K wi 64 (fun _ => 0), gd_aI K ma 720 (fun _ => 0), gd_aI K wo 720 (fun _ => 0)] 51 dd_Mo_init_51 rfl rfl (by decide) kw_414 rfl hin (by decide) rfl rfl (Nat.le_of_ble_eq_true rfl) rfl ?_
  refine gd_aload_n hX 54 dd_Mo_init_54 rfl ?_
  refine gd_sipush hX 55 dd_Mo_init_55 (v := 1000) (by decide) ?_
  refine gd_newaI hX 1000 58 dd_Mo_init_58 rfl (by omega) (by simp) (by simp) (fun fd => ?_)
  show gd_W X K 7 2696 [gd_ob 5 h [.int 0, .ref va, .ref re, .ref fu, .ref wi, .ref ma, .ref wo, .null, .int 0, .int 0, .int 0, .int 0], gd_aJ K va 64 (fun _ => 0), gd_aJ K re 64 (fun _ => 0), gd_aZ K fu 64 (fun _ => 0), gd_aZ K wi 64 (fun _ => 0), gd_aI K ma 720 (fun _ => 0), gd_aI K wo 720 (fun _ => 0), gd_aI K fd 1000 (fun _ => 0)] [(0, .ref h)] [.ref fd, .ref h] 60
  refine gd_putF hX inC_Mo ty_Mo tyk_Mo nm_Mo 0 7 [gd_ob 5 h [.int 0, .ref va, .ref re, .ref fu, .ref wi, .ref ma, .ref wo, .ref fd, .int 0, .int 0, .int 0, .int 0], gd_aJ K va 64 (fun _ => 0), gd_aJ K re 64 (fun _ => 0), gd_aZ K fu 64 (fun _ => 0), gd_aZ K wi 64 (fun _ => 0), gd_aI K ma 720 (fun _ => 0), gd_aI K wo 720 (fun _ => 0), gd_aI K fd 1000 (fun _ => 0)] 60 dd_Mo_init_60 rfl rfl (by decide) kw_415 rfl hin (by decide) rfl rfl (Nat.le_of_ble_eq_true rfl) rfl ?_
  refine gd_aload_n hX 63 dd_Mo_init_63 rfl ?_
  refine gd_iconst hX 64 dd_Mo_init_64 (v := (-1)) (by decide) ?_
  refine gd_put hX inC_Mo ty_Mo tyk_Mo nm_Mo 0 11 [gd_ob 5 h [.int 0, .ref va, .ref re, .ref fu, .ref wi, .ref ma, .ref wo, .ref fd, .int 0, .int 0, .int 0, .int (-1)], gd_aJ K va 64 (fun _ => 0), gd_aJ K re 64 (fun _ => 0), gd_aZ K fu 64 (fun _ => 0), gd_aZ K wi 64 (fun _ => 0), gd_aI K ma 720 (fun _ => 0), gd_aI K wo 720 (fun _ => 0), gd_aI K fd 1000 (fun _ => 0)] 65 dd_Mo_init_65 rfl rfl (by decide) kw_419 rfl rfl rfl (Nat.le_of_ble_eq_true rfl) rfl ?_
  exact gd_vret hX hE 68 dd_Mo_init_68 ⟨rfl, va, re, fu, wi, ma, wo, fd, rfl⟩
set_option maxRecDepth 100000 in
set_option maxHeartbeats 4000000 in
theorem ct_Mo_thrown (l : Launch) (K : gd_K) (h va re fu wi ma wo fd : Nat) (er mm wm mn pl : Int32) : gd_M l yy_Mo_thrown bb_Mo_thrown 1 (some .int) [] 0 0 0 0 K [.ref h] [gd_ob 5 h [.int er, .ref va, .ref re, .ref fu, .ref wi, .ref ma, .ref wo, .ref fd, .int mm, .int wm, .int mn, .int pl]] (fun v w1 => v = some (.int er) ∧ w1 = [gd_ob 5 h [.int er, .ref va, .ref re, .ref fu, .ref wi, .ref ma, .ref wo, .ref fd, .int mm, .int wm, .int mn, .int pl]]) (fun _ _ => False) := by
  refine gd_body (Nat.le_of_ble_eq_true rfl) (fun X hXl hin hE hX => ?_)
  refine gd_aload_n hX 0 dd_Mo_thrown_0 rfl ?_
  refine gd_get hX inC_Mo 0 0 1 dd_Mo_thrown_1 rfl rfl (by decide) kw_408 rfl ?_
  exact gd_iret hX hE 4 dd_Mo_thrown_4 ⟨rfl, rfl⟩
set_option maxRecDepth 100000 in
set_option maxHeartbeats 4000000 in
theorem ct_Mo_fails (l : Launch) (K : gd_K) (h va re fu wi ma wo fd : Nat) (er mm wm mn pl : Int32) (p : Bool) (y : Int32) : gd_M l yy_Mo_fails bb_Mo_fails 3 (some .boolean) [] 0 0 0 0 K [.ref h, .int (if p then 1 else 0), .int y] [gd_ob 5 h [.int er, .ref va, .ref re, .ref fu, .ref wi, .ref ma, .ref wo, .ref fd, .int mm, .int wm, .int mn, .int pl]] (fun v w1 => v = some (.int (if p then 1 else 0)) ∧ w1 = [gd_ob 5 h [.int (if p then y else 0), .ref va, .ref re, .ref fu, .ref wi, .ref ma, .ref wo, .ref fd, .int mm, .int wm, .int mn, .int pl]]) (fun _ _ => False) := by
  refine gd_body (Nat.le_of_ble_eq_true rfl) (fun X hXl hin hE hX => ?_)
  refine gd_aload_n hX 0 dd_Mo_fails_0 rfl ?_
  refine gd_iload_n hX 1 dd_Mo_fails_1 rfl ?_
  refine gd_if_eq hX 2 9 dd_Mo_fails_2 (by decide) (fun h1 => ?_) (fun h1 => ?_)
  · skip
    have hp := (ch_ib p).mp h1
    refine gd_iconst hX 9 dd_Mo_fails_9 (v := 0) (by decide) ?_
    refine gd_put hX inC_Mo ty_Mo tyk_Mo nm_Mo 0 0 [gd_ob 5 h [.int 0, .ref va, .ref re, .ref fu, .ref wi, .ref ma, .ref wo, .ref fd, .int mm, .int wm, .int mn, .int pl]] 10 dd_Mo_fails_10 rfl rfl (by decide) kw_408 rfl rfl rfl (Nat.le_of_ble_eq_true rfl) rfl ?_
    refine gd_iload_n hX 13 dd_Mo_fails_13 rfl ?_
    exact gd_zret hX hE 14 dd_Mo_fails_14 (by cases p <;> rfl) ⟨rfl, by rw [hp]; rfl⟩
  · skip
    have hp := (ch_ifb p).mp h1
    refine gd_iload_n hX 5 dd_Mo_fails_5 rfl ?_
    refine gd_goto hX 6 10 dd_Mo_fails_6 (by decide) ?_
    refine gd_put hX inC_Mo ty_Mo tyk_Mo nm_Mo 0 0 [gd_ob 5 h [.int y, .ref va, .ref re, .ref fu, .ref wi, .ref ma, .ref wo, .ref fd, .int mm, .int wm, .int mn, .int pl]] 10 dd_Mo_fails_10 rfl rfl (by decide) kw_408 rfl rfl rfl (Nat.le_of_ble_eq_true rfl) rfl ?_
    refine gd_iload_n hX 13 dd_Mo_fails_13 rfl ?_
    exact gd_zret hX hE 14 dd_Mo_fails_14 (by cases p <;> rfl) ⟨rfl, by rw [hp]; rfl⟩
set_option maxRecDepth 100000 in
set_option maxHeartbeats 4000000 in
theorem ct_Mo_none (l : Launch) (K : gd_K) (k : Int32) : gd_M l yy_Mo_none bb_Mo_none 1 (some .boolean) [] 0 0 0 0 K [.int k] [] (fun v w1 => v = some (.int (if ch_no k then 1 else 0)) ∧ w1 = []) (fun _ _ => False) := by
  refine gd_body (Nat.le_of_ble_eq_true rfl) (fun X hXl hin hE hX => ?_)
  refine gd_iload_n hX 0 dd_Mo_none_0 rfl ?_
  refine gd_if_lt hX 1 10 dd_Mo_none_1 (by decide) (fun h1 => ?_) (fun h1 => ?_)
  · skip
    have hp := ch_no_t (Or.inl h1)
    refine gd_iconst hX 10 dd_Mo_none_10 (v := 1) (by decide) ?_
    refine gd_goto hX 11 15 dd_Mo_none_11 (by decide) ?_
    exact gd_zret hX hE 15 dd_Mo_none_15 rfl ⟨by rw [hp]; rfl, rfl⟩
  · skip
    refine gd_iload_n hX 4 dd_Mo_none_4 rfl ?_
    refine gd_bipush hX 5 dd_Mo_none_5 (v := 64) (by decide) ?_
    refine gd_icmp_lt hX 7 14 dd_Mo_none_7 (by decide) (fun h2 => ?_) (fun h2 => ?_)
    · skip
      have hp : ch_no k = false := ch_no_f (by rintro (q | q); { exact h1 q }; { exact Int32.not_le.mpr h2 q })
      refine gd_iconst hX 14 dd_Mo_none_14 (v := 0) (by decide) ?_
      exact gd_zret hX hE 15 dd_Mo_none_15 rfl ⟨by rw [hp]; rfl, rfl⟩
    · skip
      have hp := ch_no_t (k := k) (Or.inr (ch_nlt h2))
      refine gd_iconst hX 10 dd_Mo_none_10 (v := 1) (by decide) ?_
      refine gd_goto hX 11 15 dd_Mo_none_11 (by decide) ?_
      exact gd_zret hX hE 15 dd_Mo_none_15 rfl ⟨by rw [hp]; rfl, rfl⟩
set_option maxRecDepth 100000 in
set_option maxHeartbeats 4000000 in
theorem ct_Mo_put (l : Launch) (K : gd_K) (h va re fu wi ma wo fd : Nat) (er mm wm mn pl : Int32) (vf : Nat → Int64) (uf : Nat → Int32) (k : Int32) (v : Int64) : gd_M l yy_Mo_put bb_Mo_put 4 (none) [] 1 14 0 0 K [.ref h, .int k, .long v] [gd_ob 5 h [.int er, .ref va, .ref re, .ref fu, .ref wi, .ref ma, .ref wo, .ref fd, .int mm, .int wm, .int mn, .int pl], gd_aJ K va 64 vf, gd_aZ K fu 64 uf] (fun v9 w1 => v9 = none ∧ ((ch_no k = true ∧ w1 = [gd_ob 5 h [.int 1, .ref va, .ref re, .ref fu, .ref wi, .ref ma, .ref wo, .ref fd, .int mm, .int wm, .int mn, .int pl], gd_aJ K va 64 vf, gd_aZ K fu 64 uf]) ∨ ∃ j, j < 64 ∧ k = nI j ∧ w1 = [gd_ob 5 h [.int 0, .ref va, .ref re, .ref fu, .ref wi, .ref ma, .ref wo, .ref fd, .int mm, .int wm, .int mn, .int pl], gd_aJ K va 64 (vp_updL vf j v), gd_aZ K fu 64 (upd uf j (vp_nar .boolean 1))])) (fun _ _ => False) := by
  refine gd_body (Nat.le_of_ble_eq_true rfl) (fun X hXl hin hE hX => ?_)
  refine gd_aload_n hX 0 dd_Mo_put_0 rfl ?_
  refine gd_iload_n hX 1 dd_Mo_put_1 rfl ?_
  refine gd_call hX (st := [.ref h]) (wr := [gd_ob 5 h [.int er, .ref va, .ref re, .ref fu, .ref wi, .ref ma, .ref wo, .ref fd, .int mm, .int wm, .int mn, .int pl], gd_aJ K va 64 vf, gd_aZ K fu 64 uf]) (ct_Mo_none _ K k) 2 dd_Mo_put_2 (gd_nS hX (As := [.int k]) kw_454 kw_455 kw_18 (gd_nmOf kw_456) (gd_sigOf (n := 1) kw_456 (by decide)) (by decide) rfl rfl dd_Mo_put_2) (gd_codeOf kw_456) (by decide) [] [0, 1, 2] rfl rfl rfl rfl rfl (by decide) (Nat.le_of_ble_eq_true rfl) (Nat.le_of_ble_eq_true rfl) (Nat.le_of_ble_eq_true rfl) (Nat.le_of_ble_eq_true rfl) (fun v9 w9 h9 => ?_) (fun E9 w9 q9 h9 => h9.elim)
  obtain ⟨rfl, rfl⟩ := h9
  show gd_W X K 0 0 [gd_ob 5 h [.int er, .ref va, .ref re, .ref fu, .ref wi, .ref ma, .ref wo, .ref fd, .int mm, .int wm, .int mn, .int pl], gd_aJ K va 64 vf, gd_aZ K fu 64 uf] [(0, .ref h), (1, .int k), (2, .long v)] [.int (if ch_no k then 1 else 0), .ref h] 5
  refine gd_iconst hX 5 dd_Mo_put_5 (v := 1) (by decide) ?_
  refine gd_call hX (st := []) (wr := [gd_aJ K va 64 vf, gd_aZ K fu 64 uf]) (ct_Mo_fails _ K h va re fu wi ma wo fd er mm wm mn pl (ch_no k) 1) 6 dd_Mo_put_6 (gd_nV hX (As := [.int (if ch_no k then 1 else 0), .int 1]) kw_457 kw_459 kw_8 (gd_sigOf (n := 2) kw_460 (by decide)) (by decide) 0 rfl rfl rfl rfl dd_Mo_put_6) (gd_codeOf kw_460) (by decide) [0] [1, 2] rfl rfl rfl rfl rfl (by decide) (Nat.le_of_ble_eq_true rfl) (Nat.le_of_ble_eq_true rfl) (Nat.le_of_ble_eq_true rfl) (Nat.le_of_ble_eq_true rfl) (fun v9 w9 h9 => ?_) (fun E9 w9 q9 h9 => h9.elim)
  obtain ⟨rfl, rfl⟩ := h9
  refine gd_wsp [gd_ob 5 h [.int (if ch_no k then 1 else 0), .ref va, .ref re, .ref fu, .ref wi, .ref ma, .ref wo, .ref fd, .int mm, .int wm, .int mn, .int pl], gd_aJ K va 64 vf, gd_aZ K fu 64 uf] [2, 0, 1] rfl rfl rfl ?_
  show gd_W X K 0 0 [gd_ob 5 h [.int (if ch_no k then 1 else 0), .ref va, .ref re, .ref fu, .ref wi, .ref ma, .ref wo, .ref fd, .int mm, .int wm, .int mn, .int pl], gd_aJ K va 64 vf, gd_aZ K fu 64 uf] [(0, .ref h), (1, .int k), (2, .long v)] [.int (if ch_no k then 1 else 0)] 9
  refine gd_if_eq hX 9 13 dd_Mo_put_9 (by decide) (fun h1 => ?_) (fun h1 => ?_)
  · skip
    have hp := (ch_ib _).mp h1
    obtain ⟨j, hj, rfl⟩ := ch_no_ix hp
    rw [hp]
    show gd_W X K 0 0 [gd_ob 5 h [.int 0, .ref va, .ref re, .ref fu, .ref wi, .ref ma, .ref wo, .ref fd, .int mm, .int wm, .int mn, .int pl], gd_aJ K va 64 vf, gd_aZ K fu 64 uf] [(0, .ref h), (1, .int (nI j)), (2, .long v)] [] 13
    refine gd_aload_n hX 13 dd_Mo_put_13 rfl ?_
    refine gd_get hX inC_Mo 0 1 14 dd_Mo_put_14 rfl rfl (by decide) kw_409 rfl ?_
    refine gd_iload_n hX 17 dd_Mo_put_17 rfl ?_
    refine gd_lload_n hX 18 dd_Mo_put_18 rfl ?_
    refine gd_last hX 1 j [gd_ob 5 h [.int 0, .ref va, .ref re, .ref fu, .ref wi, .ref ma, .ref wo, .ref fd, .int mm, .int wm, .int mn, .int pl], gd_aJ K va 64 (vp_updL vf j v), gd_aZ K fu 64 uf] 19 dd_Mo_put_19 rfl rfl hj (by decide) rfl ?_
    refine gd_aload_n hX 20 dd_Mo_put_20 rfl ?_
    refine gd_get hX inC_Mo 0 3 21 dd_Mo_put_21 rfl rfl (by decide) kw_411 rfl ?_
    refine gd_iload_n hX 24 dd_Mo_put_24 rfl ?_
    refine gd_iconst hX 25 dd_Mo_put_25 (v := 1) (by decide) ?_
    refine gd_zast hX 2 j [gd_ob 5 h [.int 0, .ref va, .ref re, .ref fu, .ref wi, .ref ma, .ref wo, .ref fd, .int mm, .int wm, .int mn, .int pl], gd_aJ K va 64 (vp_updL vf j v), gd_aZ K fu 64 (upd uf j (vp_nar .boolean 1))] 26 dd_Mo_put_26 rfl rfl hj (by decide) rfl ?_
    exact gd_vret hX hE 27 dd_Mo_put_27 ⟨rfl, Or.inr ⟨j, hj, rfl, rfl⟩⟩
  · skip
    have hp := (ch_ifb _).mp h1
    rw [hp]
    exact gd_vret hX hE 12 dd_Mo_put_12 ⟨rfl, Or.inl ⟨hp, rfl⟩⟩
set_option maxRecDepth 100000 in
set_option maxHeartbeats 4000000 in
theorem ct_Mo_get (l : Launch) (K : gd_K) (h va re fu wi ma wo fd : Nat) (er mm wm mn pl : Int32) (w : Int64) (f vf : Nat → Int64) (uf : Nat → Int32) (hM : ch_M w f vf uf) (k : Int32) : gd_M l yy_Mo_get bb_Mo_get 2 (some .long) [] 1 14 0 0 K [.ref h, .int k] [gd_ob 5 h [.int er, .ref va, .ref re, .ref fu, .ref wi, .ref ma, .ref wo, .ref fd, .int mm, .int wm, .int mn, .int pl], gd_aJ K va 64 vf, gd_aZ K fu 64 uf] (fun v9 w1 => (ch_no k = true ∧ v9 = some (.long 0) ∧ w1 = [gd_ob 5 h [.int 1, .ref va, .ref re, .ref fu, .ref wi, .ref ma, .ref wo, .ref fd, .int mm, .int wm, .int mn, .int pl], gd_aJ K va 64 vf, gd_aZ K fu 64 uf]) ∨ ∃ j, j < 64 ∧ k = nI j ∧ ((ch_bit w j = false ∧ v9 = some (.long 0) ∧ w1 = [gd_ob 5 h [.int 2, .ref va, .ref re, .ref fu, .ref wi, .ref ma, .ref wo, .ref fd, .int mm, .int wm, .int mn, .int pl], gd_aJ K va 64 vf, gd_aZ K fu 64 uf]) ∨ (ch_bit w j = true ∧ v9 = some (.long (f j)) ∧ w1 = [gd_ob 5 h [.int 0, .ref va, .ref re, .ref fu, .ref wi, .ref ma, .ref wo, .ref fd, .int mm, .int wm, .int mn, .int pl], gd_aJ K va 64 vf, gd_aZ K fu 64 uf]))) (fun _ _ => False) := by
  refine gd_body (Nat.le_of_ble_eq_true rfl) (fun X hXl hin hE hX => ?_)
  refine gd_aload_n hX 0 dd_Mo_get_0 rfl ?_
  refine gd_iload_n hX 1 dd_Mo_get_1 rfl ?_
  refine gd_call hX (st := [.ref h]) (wr := [gd_ob 5 h [.int er, .ref va, .ref re, .ref fu, .ref wi, .ref ma, .ref wo, .ref fd, .int mm, .int wm, .int mn, .int pl], gd_aJ K va 64 vf, gd_aZ K fu 64 uf]) (ct_Mo_none _ K k) 2 dd_Mo_get_2 (gd_nS hX (As := [.int k]) kw_454 kw_455 kw_18 (gd_nmOf kw_456) (gd_sigOf (n := 1) kw_456 (by decide)) (by decide) rfl rfl dd_Mo_get_2) (gd_codeOf kw_456) (by decide) [] [0, 1, 2] rfl rfl rfl rfl rfl (by decide) (Nat.le_of_ble_eq_true rfl) (Nat.le_of_ble_eq_true rfl) (Nat.le_of_ble_eq_true rfl) (Nat.le_of_ble_eq_true rfl) (fun v9 w9 h9 => ?_) (fun E9 w9 q9 h9 => h9.elim)
  obtain ⟨rfl, rfl⟩ := h9
  show gd_W X K 0 0 [gd_ob 5 h [.int er, .ref va, .ref re, .ref fu, .ref wi, .ref ma, .ref wo, .ref fd, .int mm, .int wm, .int mn, .int pl], gd_aJ K va 64 vf, gd_aZ K fu 64 uf] [(0, .ref h), (1, .int k)] [.int (if ch_no k then 1 else 0), .ref h] 5
  refine gd_iconst hX 5 dd_Mo_get_5 (v := 1) (by decide) ?_
  refine gd_call hX (st := []) (wr := [gd_aJ K va 64 vf, gd_aZ K fu 64 uf]) (ct_Mo_fails _ K h va re fu wi ma wo fd er mm wm mn pl (ch_no k) 1) 6 dd_Mo_get_6 (gd_nV hX (As := [.int (if ch_no k then 1 else 0), .int 1]) kw_457 kw_459 kw_8 (gd_sigOf (n := 2) kw_460 (by decide)) (by decide) 0 rfl rfl rfl rfl dd_Mo_get_6) (gd_codeOf kw_460) (by decide) [0] [1, 2] rfl rfl rfl rfl rfl (by decide) (Nat.le_of_ble_eq_true rfl) (Nat.le_of_ble_eq_true rfl) (Nat.le_of_ble_eq_true rfl) (Nat.le_of_ble_eq_true rfl) (fun v9 w9 h9 => ?_) (fun E9 w9 q9 h9 => h9.elim)
  obtain ⟨rfl, rfl⟩ := h9
  refine gd_wsp [gd_ob 5 h [.int (if ch_no k then 1 else 0), .ref va, .ref re, .ref fu, .ref wi, .ref ma, .ref wo, .ref fd, .int mm, .int wm, .int mn, .int pl], gd_aJ K va 64 vf, gd_aZ K fu 64 uf] [2, 0, 1] rfl rfl rfl ?_
  show gd_W X K 0 0 [gd_ob 5 h [.int (if ch_no k then 1 else 0), .ref va, .ref re, .ref fu, .ref wi, .ref ma, .ref wo, .ref fd, .int mm, .int wm, .int mn, .int pl], gd_aJ K va 64 vf, gd_aZ K fu 64 uf] [(0, .ref h), (1, .int k)] [.int (if ch_no k then 1 else 0)] 9
  refine gd_if_eq hX 9 14 dd_Mo_get_9 (by decide) (fun h1 => ?_) (fun h1 => ?_)
  · skip
    have hp := (ch_ib _).mp h1
    obtain ⟨j, hj, rfl⟩ := ch_no_ix hp
    rw [hp]
    show gd_W X K 0 0 [gd_ob 5 h [.int 0, .ref va, .ref re, .ref fu, .ref wi, .ref ma, .ref wo, .ref fd, .int mm, .int wm, .int mn, .int pl], gd_aJ K va 64 vf, gd_aZ K fu 64 uf] [(0, .ref h), (1, .int (nI j))] [] 14
    have hm := hM j hj
    refine gd_aload_n hX 14 dd_Mo_get_14 rfl ?_
    refine gd_aload_n hX 15 dd_Mo_get_15 rfl ?_
    refine gd_get hX inC_Mo 0 3 16 dd_Mo_get_16 rfl rfl (by decide) kw_411 rfl ?_
    refine gd_iload_n hX 19 dd_Mo_get_19 rfl ?_
    refine gd_zald hX 2 j 20 dd_Mo_get_20 rfl rfl hj (by decide) ?_
    refine gd_eqi (show (uf j : Int32) = (if ch_bit w j then 1 else 0) from hm.1) ?_
    refine gd_if_ne hX 21 28 dd_Mo_get_21 (by decide) (fun h2 => ?_) (fun h2 => ?_)
    · skip
      have hb := (ch_ifb _).mp h2
      refine gd_iconst hX 28 dd_Mo_get_28 (v := 0) (by decide) ?_
      refine gd_eqi (show (0 : Int32) = (if false then 1 else 0) from rfl) ?_
      refine gd_iconst hX 29 dd_Mo_get_29 (v := 2) (by decide) ?_
      refine gd_call hX (st := []) (wr := [gd_aJ K va 64 vf, gd_aZ K fu 64 uf]) (ct_Mo_fails _ K h va re fu wi ma wo fd 0 mm wm mn pl false 2) 30 dd_Mo_get_30 (gd_nV hX (As := [.int (if false then 1 else 0), .int 2]) kw_457 kw_459 kw_8 (gd_sigOf (n := 2) kw_460 (by decide)) (by decide) 0 rfl rfl rfl rfl dd_Mo_get_30) (gd_codeOf kw_460) (by decide) [0] [1, 2] rfl rfl rfl rfl rfl (by decide) (Nat.le_of_ble_eq_true rfl) (Nat.le_of_ble_eq_true rfl) (Nat.le_of_ble_eq_true rfl) (Nat.le_of_ble_eq_true rfl) (fun v9 w9 h9 => ?_) (fun E9 w9 q9 h9 => h9.elim)
      obtain ⟨rfl, rfl⟩ := h9
      refine gd_wsp [gd_ob 5 h [.int (if false then 2 else 0), .ref va, .ref re, .ref fu, .ref wi, .ref ma, .ref wo, .ref fd, .int mm, .int wm, .int mn, .int pl], gd_aJ K va 64 vf, gd_aZ K fu 64 uf] [2, 0, 1] rfl rfl rfl ?_
      show gd_W X K 0 0 [gd_ob 5 h [.int (if false then 2 else 0), .ref va, .ref re, .ref fu, .ref wi, .ref ma, .ref wo, .ref fd, .int mm, .int wm, .int mn, .int pl], gd_aJ K va 64 vf, gd_aZ K fu 64 uf] [(0, .ref h), (1, .int (nI j))] [.int (if false then 1 else 0)] 33
      refine gd_if_eq hX 33 40 dd_Mo_get_33 (by decide) (fun h3 => ?_) (fun h3 => ?_)
      · skip
        show gd_W X K 0 0 [gd_ob 5 h [.int 0, .ref va, .ref re, .ref fu, .ref wi, .ref ma, .ref wo, .ref fd, .int mm, .int wm, .int mn, .int pl], gd_aJ K va 64 vf, gd_aZ K fu 64 uf] [(0, .ref h), (1, .int (nI j))] [] 40
        refine gd_aload_n hX 40 dd_Mo_get_40 rfl ?_
        refine gd_get hX inC_Mo 0 1 41 dd_Mo_get_41 rfl rfl (by decide) kw_409 rfl ?_
        refine gd_iload_n hX 44 dd_Mo_get_44 rfl ?_
        refine gd_lald hX 1 j 45 dd_Mo_get_45 rfl rfl hj (by decide) ?_
        refine gd_eql (show (vf j : Int64) = f j from hm.2 hb) ?_
        exact gd_lret hX hE 46 dd_Mo_get_46 (Or.inr ⟨j, hj, rfl, Or.inr ⟨hb, rfl, rfl⟩⟩)
      · skip
        exact absurd rfl h3
    · skip
      have hb := (ch_ib _).mp h2
      refine gd_iconst hX 24 dd_Mo_get_24 (v := 1) (by decide) ?_
      refine gd_goto hX 25 29 dd_Mo_get_25 (by decide) ?_
      refine gd_eqi (show (1 : Int32) = (if true then 1 else 0) from rfl) ?_
      refine gd_iconst hX 29 dd_Mo_get_29 (v := 2) (by decide) ?_
      refine gd_call hX (st := []) (wr := [gd_aJ K va 64 vf, gd_aZ K fu 64 uf]) (ct_Mo_fails _ K h va re fu wi ma wo fd 0 mm wm mn pl true 2) 30 dd_Mo_get_30 (gd_nV hX (As := [.int (if true then 1 else 0), .int 2]) kw_457 kw_459 kw_8 (gd_sigOf (n := 2) kw_460 (by decide)) (by decide) 0 rfl rfl rfl rfl dd_Mo_get_30) (gd_codeOf kw_460) (by decide) [0] [1, 2] rfl rfl rfl rfl rfl (by decide) (Nat.le_of_ble_eq_true rfl) (Nat.le_of_ble_eq_true rfl) (Nat.le_of_ble_eq_true rfl) (Nat.le_of_ble_eq_true rfl) (fun v9 w9 h9 => ?_) (fun E9 w9 q9 h9 => h9.elim)
      obtain ⟨rfl, rfl⟩ := h9
      refine gd_wsp [gd_ob 5 h [.int (if true then 2 else 0), .ref va, .ref re, .ref fu, .ref wi, .ref ma, .ref wo, .ref fd, .int mm, .int wm, .int mn, .int pl], gd_aJ K va 64 vf, gd_aZ K fu 64 uf] [2, 0, 1] rfl rfl rfl ?_
      show gd_W X K 0 0 [gd_ob 5 h [.int (if true then 2 else 0), .ref va, .ref re, .ref fu, .ref wi, .ref ma, .ref wo, .ref fd, .int mm, .int wm, .int mn, .int pl], gd_aJ K va 64 vf, gd_aZ K fu 64 uf] [(0, .ref h), (1, .int (nI j))] [.int (if true then 1 else 0)] 33
      refine gd_if_eq hX 33 40 dd_Mo_get_33 (by decide) (fun h3 => ?_) (fun h3 => ?_)
      · skip
        exact absurd (show (1 : Int32) = 0 from h3) (by decide)
      · skip
        show gd_W X K 0 0 [gd_ob 5 h [.int 2, .ref va, .ref re, .ref fu, .ref wi, .ref ma, .ref wo, .ref fd, .int mm, .int wm, .int mn, .int pl], gd_aJ K va 64 vf, gd_aZ K fu 64 uf] [(0, .ref h), (1, .int (nI j))] [] 36
        refine gd_lconst hX 36 dd_Mo_get_36 (v := 0) (by decide) ?_
        refine gd_goto hX 37 46 dd_Mo_get_37 (by decide) ?_
        exact gd_lret hX hE 46 dd_Mo_get_46 (Or.inr ⟨j, hj, rfl, Or.inl ⟨hb, rfl, rfl⟩⟩)
  · skip
    have hp := (ch_ifb _).mp h1
    rw [hp]
    show gd_W X K 0 0 [gd_ob 5 h [.int 1, .ref va, .ref re, .ref fu, .ref wi, .ref ma, .ref wo, .ref fd, .int mm, .int wm, .int mn, .int pl], gd_aJ K va 64 vf, gd_aZ K fu 64 uf] [(0, .ref h), (1, .int k)] [] 12
    refine gd_lconst hX 12 dd_Mo_get_12 (v := 0) (by decide) ?_
    exact gd_lret hX hE 13 dd_Mo_get_13 (Or.inl ⟨hp, rfl, rfl⟩)
set_option maxRecDepth 100000 in
set_option maxHeartbeats 4000000 in
theorem ct_Mo_erase (l : Launch) (K : gd_K) (h va re fu wi ma wo fd : Nat) (er mm wm mn pl : Int32) (uf : Nat → Int32) (k k2 : Int32) : gd_M l yy_Mo_erase bb_Mo_erase 4 (none) [] 1 14 0 0 K [.ref h, .int k, .int k2] [gd_ob 5 h [.int er, .ref va, .ref re, .ref fu, .ref wi, .ref ma, .ref wo, .ref fd, .int mm, .int wm, .int mn, .int pl], gd_aZ K fu 64 uf] (fun v9 w1 => v9 = none ∧ (((ch_no k || ch_no k2) = true ∧ w1 = [gd_ob 5 h [.int 1, .ref va, .ref re, .ref fu, .ref wi, .ref ma, .ref wo, .ref fd, .int mm, .int wm, .int mn, .int pl], gd_aZ K fu 64 uf]) ∨ ∃ a b, a < 64 ∧ b < 64 ∧ k = nI a ∧ k2 = nI b ∧ w1 = [gd_ob 5 h [.int 0, .ref va, .ref re, .ref fu, .ref wi, .ref ma, .ref wo, .ref fd, .int mm, .int wm, .int mn, .int pl], gd_aZ K fu 64 (ch_fe uf a (b + 1 - a))])) (fun _ _ => False) := by
  refine gd_body (Nat.le_of_ble_eq_true rfl) (fun X hXl hin hE hX => ?_)
  refine gd_aload_n hX 0 dd_Mo_erase_0 rfl ?_
  refine gd_iload_n hX 1 dd_Mo_erase_1 rfl ?_
  refine gd_call hX (st := [.ref h]) (wr := [gd_ob 5 h [.int er, .ref va, .ref re, .ref fu, .ref wi, .ref ma, .ref wo, .ref fd, .int mm, .int wm, .int mn, .int pl], gd_aZ K fu 64 uf]) (ct_Mo_none _ K k) 2 dd_Mo_erase_2 (gd_nS hX (As := [.int k]) kw_454 kw_455 kw_18 (gd_nmOf kw_456) (gd_sigOf (n := 1) kw_456 (by decide)) (by decide) rfl rfl dd_Mo_erase_2) (gd_codeOf kw_456) (by decide) [] [0, 1] rfl rfl rfl rfl rfl (by decide) (Nat.le_of_ble_eq_true rfl) (Nat.le_of_ble_eq_true rfl) (Nat.le_of_ble_eq_true rfl) (Nat.le_of_ble_eq_true rfl) (fun v9 w9 h9 => ?_) (fun E9 w9 q9 h9 => h9.elim)
  obtain ⟨rfl, rfl⟩ := h9
  show gd_W X K 0 0 [gd_ob 5 h [.int er, .ref va, .ref re, .ref fu, .ref wi, .ref ma, .ref wo, .ref fd, .int mm, .int wm, .int mn, .int pl], gd_aZ K fu 64 uf] [(0, .ref h), (1, .int k), (2, .int k2)] [.int (if ch_no k then 1 else 0), .ref h] 5
  refine gd_if_ne hX 5 15 dd_Mo_erase_5 (by decide) (fun h1 => ?_) (fun h1 => ?_)
  · skip
    have hor : (ch_no k || ch_no k2) = true := by rw [(ch_ifb _).mp h1]; rfl
    refine gd_iconst hX 15 dd_Mo_erase_15 (v := 1) (by decide) ?_
    refine gd_goto hX 16 20 dd_Mo_erase_16 (by decide) ?_
    refine gd_eqi (show (1 : Int32) = (if true then 1 else 0) from rfl) ?_
    refine gd_iconst hX 20 dd_Mo_erase_20 (v := 1) (by decide) ?_
    refine gd_call hX (st := []) (wr := [gd_aZ K fu 64 uf]) (ct_Mo_fails _ K h va re fu wi ma wo fd er mm wm mn pl true 1) 21 dd_Mo_erase_21 (gd_nV hX (As := [.int (if true then 1 else 0), .int 1]) kw_457 kw_459 kw_8 (gd_sigOf (n := 2) kw_460 (by decide)) (by decide) 0 rfl rfl rfl rfl dd_Mo_erase_21) (gd_codeOf kw_460) (by decide) [0] [1] rfl rfl rfl rfl rfl (by decide) (Nat.le_of_ble_eq_true rfl) (Nat.le_of_ble_eq_true rfl) (Nat.le_of_ble_eq_true rfl) (Nat.le_of_ble_eq_true rfl) (fun v9 w9 h9 => ?_) (fun E9 w9 q9 h9 => h9.elim)
    obtain ⟨rfl, rfl⟩ := h9
    refine gd_wsp [gd_ob 5 h [.int (if true then 1 else 0), .ref va, .ref re, .ref fu, .ref wi, .ref ma, .ref wo, .ref fd, .int mm, .int wm, .int mn, .int pl], gd_aZ K fu 64 uf] [1, 0] rfl rfl rfl ?_
    show gd_W X K 0 0 [gd_ob 5 h [.int (if true then 1 else 0), .ref va, .ref re, .ref fu, .ref wi, .ref ma, .ref wo, .ref fd, .int mm, .int wm, .int mn, .int pl], gd_aZ K fu 64 uf] [(0, .ref h), (1, .int k), (2, .int k2)] [.int (if true then 1 else 0)] 24
    refine gd_if_eq hX 24 28 dd_Mo_erase_24 (by decide) (fun h9 => ?_) (fun h9 => ?_)
    · skip
      exact absurd (show (1 : Int32) = 0 from h9) (by decide)
    · skip
      show gd_W X K 0 0 [gd_ob 5 h [.int 1, .ref va, .ref re, .ref fu, .ref wi, .ref ma, .ref wo, .ref fd, .int mm, .int wm, .int mn, .int pl], gd_aZ K fu 64 uf] [(0, .ref h), (1, .int k), (2, .int k2)] [] 27
      exact gd_vret hX hE 27 dd_Mo_erase_27 ⟨rfl, Or.inl ⟨hor, rfl⟩⟩
  · skip
    have hp := (ch_ib _).mp h1
    refine gd_iload_n hX 8 dd_Mo_erase_8 rfl ?_
    refine gd_call hX (st := [.ref h]) (wr := [gd_ob 5 h [.int er, .ref va, .ref re, .ref fu, .ref wi, .ref ma, .ref wo, .ref fd, .int mm, .int wm, .int mn, .int pl], gd_aZ K fu 64 uf]) (ct_Mo_none _ K k2) 9 dd_Mo_erase_9 (gd_nS hX (As := [.int k2]) kw_454 kw_455 kw_18 (gd_nmOf kw_456) (gd_sigOf (n := 1) kw_456 (by decide)) (by decide) rfl rfl dd_Mo_erase_9) (gd_codeOf kw_456) (by decide) [] [0, 1] rfl rfl rfl rfl rfl (by decide) (Nat.le_of_ble_eq_true rfl) (Nat.le_of_ble_eq_true rfl) (Nat.le_of_ble_eq_true rfl) (Nat.le_of_ble_eq_true rfl) (fun v9 w9 h9 => ?_) (fun E9 w9 q9 h9 => h9.elim)
    obtain ⟨rfl, rfl⟩ := h9
    show gd_W X K 0 0 [gd_ob 5 h [.int er, .ref va, .ref re, .ref fu, .ref wi, .ref ma, .ref wo, .ref fd, .int mm, .int wm, .int mn, .int pl], gd_aZ K fu 64 uf] [(0, .ref h), (1, .int k), (2, .int k2)] [.int (if ch_no k2 then 1 else 0), .ref h] 12
    refine gd_if_eq hX 12 19 dd_Mo_erase_12 (by decide) (fun h2 => ?_) (fun h2 => ?_)
    · skip
      have hp2 := (ch_ib _).mp h2
      refine gd_iconst hX 19 dd_Mo_erase_19 (v := 0) (by decide) ?_
      refine gd_eqi (show (0 : Int32) = (if false then 1 else 0) from rfl) ?_
      refine gd_iconst hX 20 dd_Mo_erase_20 (v := 1) (by decide) ?_
      refine gd_call hX (st := []) (wr := [gd_aZ K fu 64 uf]) (ct_Mo_fails _ K h va re fu wi ma wo fd er mm wm mn pl false 1) 21 dd_Mo_erase_21 (gd_nV hX (As := [.int (if false then 1 else 0), .int 1]) kw_457 kw_459 kw_8 (gd_sigOf (n := 2) kw_460 (by decide)) (by decide) 0 rfl rfl rfl rfl dd_Mo_erase_21) (gd_codeOf kw_460) (by decide) [0] [1] rfl rfl rfl rfl rfl (by decide) (Nat.le_of_ble_eq_true rfl) (Nat.le_of_ble_eq_true rfl) (Nat.le_of_ble_eq_true rfl) (Nat.le_of_ble_eq_true rfl) (fun v9 w9 h9 => ?_) (fun E9 w9 q9 h9 => h9.elim)
      obtain ⟨rfl, rfl⟩ := h9
      refine gd_wsp [gd_ob 5 h [.int (if false then 1 else 0), .ref va, .ref re, .ref fu, .ref wi, .ref ma, .ref wo, .ref fd, .int mm, .int wm, .int mn, .int pl], gd_aZ K fu 64 uf] [1, 0] rfl rfl rfl ?_
      show gd_W X K 0 0 [gd_ob 5 h [.int (if false then 1 else 0), .ref va, .ref re, .ref fu, .ref wi, .ref ma, .ref wo, .ref fd, .int mm, .int wm, .int mn, .int pl], gd_aZ K fu 64 uf] [(0, .ref h), (1, .int k), (2, .int k2)] [.int (if false then 1 else 0)] 24
      refine gd_if_eq hX 24 28 dd_Mo_erase_24 (by decide) (fun h9 => ?_) (fun h9 => ?_)
      · skip
        obtain ⟨a, ha, rfl⟩ := ch_no_ix hp
        obtain ⟨b, hb, rfl⟩ := ch_no_ix hp2
        show gd_W X K 0 0 [gd_ob 5 h [.int 0, .ref va, .ref re, .ref fu, .ref wi, .ref ma, .ref wo, .ref fd, .int mm, .int wm, .int mn, .int pl], gd_aZ K fu 64 uf] [(0, .ref h), (1, .int (nI a)), (2, .int (nI b))] [] 28
        have loop : ∀ (m n : Nat), m + (a + n) = max a (b + 1) → gd_W X K 0 0 [gd_ob 5 h [.int 0, .ref va, .ref re, .ref fu, .ref wi, .ref ma, .ref wo, .ref fd, .int mm, .int wm, .int mn, .int pl], gd_aZ K fu 64 (ch_fe uf a n)] [(0, .ref h), (1, .int (nI a)), (2, .int (nI b)), (3, .int (nI (a + n)))] [] 30 := by
          intro m
          induction m with
          | zero =>
            intro n hn
            refine gd_iload_n hX 30 dd_Mo_erase_30 rfl ?_
            refine gd_iload_n hX 31 dd_Mo_erase_31 rfl ?_
            refine gd_icmp_gt hX 32 48 dd_Mo_erase_32 (by decide) (fun h3 => ?_) (fun h3 => ?_)
            · skip
              have e9 : b + 1 - a = n := by omega
              exact gd_vret hX hE 48 dd_Mo_erase_48 ⟨rfl, Or.inr ⟨a, b, ha, hb, rfl, rfl, by rw [e9]⟩⟩
            · skip
              exact absurd ((nI_ltI (by omega) (by omega)).mpr (by omega)) h3
          | succ m ih =>
            intro n hn
            refine gd_iload_n hX 30 dd_Mo_erase_30 rfl ?_
            refine gd_iload_n hX 31 dd_Mo_erase_31 rfl ?_
            refine gd_icmp_gt hX 32 48 dd_Mo_erase_32 (by decide) (fun h3 => ?_) (fun h3 => ?_)
            · skip
              exact absurd ((nI_ltI (by omega) (by omega)).mp h3) (by omega)
            · skip
              refine gd_aload_n hX 35 dd_Mo_erase_35 rfl ?_
              refine gd_get hX inC_Mo 0 3 36 dd_Mo_erase_36 rfl rfl (by decide) kw_411 rfl ?_
              refine gd_iload_n hX 39 dd_Mo_erase_39 rfl ?_
              refine gd_iconst hX 40 dd_Mo_erase_40 (v := 0) (by decide) ?_
              refine gd_zast hX 1 (a + n) [gd_ob 5 h [.int 0, .ref va, .ref re, .ref fu, .ref wi, .ref ma, .ref wo, .ref fd, .int mm, .int wm, .int mn, .int pl], gd_aZ K fu 64 (upd (ch_fe uf a n) (a + n) (vp_nar .boolean 0))] 41 dd_Mo_erase_41 rfl rfl (by omega) (by decide) rfl ?_
              refine gd_iinc hX 3 [(3, .int (nI ((a + n) + 1))), (0, .ref h), (1, .int (nI a)), (2, .int (nI b))] 42 dd_Mo_erase_42 rfl (gd_inc (a + n)) (by decide) rfl ?_
              refine gd_goto hX 45 30 dd_Mo_erase_45 (by decide) ?_
              show gd_W X K 0 0 [gd_ob 5 h [.int 0, .ref va, .ref re, .ref fu, .ref wi, .ref ma, .ref wo, .ref fd, .int mm, .int wm, .int mn, .int pl], gd_aZ K fu 64 (ch_fe uf a (n + 1))] [(3, .int (nI ((a + n) + 1))), (0, .ref h), (1, .int (nI a)), (2, .int (nI b))] [] 30
              refine gd_lvs [(0, .ref h), (1, .int (nI a)), (2, .int (nI b)), (3, .int (nI ((a + n) + 1)))] [1, 2, 3, 0] rfl ?_
              exact ih (n + 1) (by omega)
        refine gd_iload_n hX 28 dd_Mo_erase_28 rfl ?_
        refine gd_eqi (show (nI a : Int32) = nI (a + 0) from rfl) ?_
        refine gd_istore_n hX [(3, .int (nI (a + 0))), (0, .ref h), (1, .int (nI a)), (2, .int (nI b))] 29 dd_Mo_erase_29 rfl (by decide) rfl ?_
        refine gd_lvs [(0, .ref h), (1, .int (nI a)), (2, .int (nI b)), (3, .int (nI (a + 0)))] [1, 2, 3, 0] rfl ?_
        exact loop (max a (b + 1) - a) 0 (by omega)
      · skip
        exact absurd rfl h9
    · skip
      have hor : (ch_no k || ch_no k2) = true := by rw [(ch_ifb _).mp h2, Bool.or_true]
      refine gd_iconst hX 15 dd_Mo_erase_15 (v := 1) (by decide) ?_
      refine gd_goto hX 16 20 dd_Mo_erase_16 (by decide) ?_
      refine gd_eqi (show (1 : Int32) = (if true then 1 else 0) from rfl) ?_
      refine gd_iconst hX 20 dd_Mo_erase_20 (v := 1) (by decide) ?_
      refine gd_call hX (st := []) (wr := [gd_aZ K fu 64 uf]) (ct_Mo_fails _ K h va re fu wi ma wo fd er mm wm mn pl true 1) 21 dd_Mo_erase_21 (gd_nV hX (As := [.int (if true then 1 else 0), .int 1]) kw_457 kw_459 kw_8 (gd_sigOf (n := 2) kw_460 (by decide)) (by decide) 0 rfl rfl rfl rfl dd_Mo_erase_21) (gd_codeOf kw_460) (by decide) [0] [1] rfl rfl rfl rfl rfl (by decide) (Nat.le_of_ble_eq_true rfl) (Nat.le_of_ble_eq_true rfl) (Nat.le_of_ble_eq_true rfl) (Nat.le_of_ble_eq_true rfl) (fun v9 w9 h9 => ?_) (fun E9 w9 q9 h9 => h9.elim)
      obtain ⟨rfl, rfl⟩ := h9
      refine gd_wsp [gd_ob 5 h [.int (if true then 1 else 0), .ref va, .ref re, .ref fu, .ref wi, .ref ma, .ref wo, .ref fd, .int mm, .int wm, .int mn, .int pl], gd_aZ K fu 64 uf] [1, 0] rfl rfl rfl ?_
      show gd_W X K 0 0 [gd_ob 5 h [.int (if true then 1 else 0), .ref va, .ref re, .ref fu, .ref wi, .ref ma, .ref wo, .ref fd, .int mm, .int wm, .int mn, .int pl], gd_aZ K fu 64 uf] [(0, .ref h), (1, .int k), (2, .int k2)] [.int (if true then 1 else 0)] 24
      refine gd_if_eq hX 24 28 dd_Mo_erase_24 (by decide) (fun h9 => ?_) (fun h9 => ?_)
      · skip
        exact absurd (show (1 : Int32) = 0 from h9) (by decide)
      · skip
        show gd_W X K 0 0 [gd_ob 5 h [.int 1, .ref va, .ref re, .ref fu, .ref wi, .ref ma, .ref wo, .ref fd, .int mm, .int wm, .int mn, .int pl], gd_aZ K fu 64 uf] [(0, .ref h), (1, .int k), (2, .int k2)] [] 27
        exact gd_vret hX hE 27 dd_Mo_erase_27 ⟨rfl, Or.inl ⟨hor, rfl⟩⟩
set_option maxRecDepth 100000 in
set_option maxHeartbeats 4000000 in
theorem ct_Mo_sum (l : Launch) (K : gd_K) (h va re fu wi ma wo fd : Nat) (er mm wm mn pl : Int32) (w : Int64) (f vf : Nat → Int64) (uf : Nat → Int32) (hM : ch_M w f vf uf) (k k2 : Int32) : gd_M l yy_Mo_sum bb_Mo_sum 6 (some .long) [] 1 14 0 0 K [.ref h, .int k, .int k2] [gd_ob 5 h [.int er, .ref va, .ref re, .ref fu, .ref wi, .ref ma, .ref wo, .ref fd, .int mm, .int wm, .int mn, .int pl], gd_aJ K va 64 vf, gd_aZ K fu 64 uf] (fun v9 w1 => ((ch_no k || ch_no k2) = true ∧ v9 = some (.long 0) ∧ w1 = [gd_ob 5 h [.int 1, .ref va, .ref re, .ref fu, .ref wi, .ref ma, .ref wo, .ref fd, .int mm, .int wm, .int mn, .int pl], gd_aJ K va 64 vf, gd_aZ K fu 64 uf]) ∨ ∃ a b, a < 64 ∧ b < 64 ∧ k = nI a ∧ k2 = nI b ∧ v9 = some (.long (ch_su w f a (b + 1 - a))) ∧ w1 = [gd_ob 5 h [.int 0, .ref va, .ref re, .ref fu, .ref wi, .ref ma, .ref wo, .ref fd, .int mm, .int wm, .int mn, .int pl], gd_aJ K va 64 vf, gd_aZ K fu 64 uf]) (fun _ _ => False) := by
  refine gd_body (Nat.le_of_ble_eq_true rfl) (fun X hXl hin hE hX => ?_)
  refine gd_aload_n hX 0 dd_Mo_sum_0 rfl ?_
  refine gd_iload_n hX 1 dd_Mo_sum_1 rfl ?_
  refine gd_call hX (st := [.ref h]) (wr := [gd_ob 5 h [.int er, .ref va, .ref re, .ref fu, .ref wi, .ref ma, .ref wo, .ref fd, .int mm, .int wm, .int mn, .int pl], gd_aJ K va 64 vf, gd_aZ K fu 64 uf]) (ct_Mo_none _ K k) 2 dd_Mo_sum_2 (gd_nS hX (As := [.int k]) kw_454 kw_455 kw_18 (gd_nmOf kw_456) (gd_sigOf (n := 1) kw_456 (by decide)) (by decide) rfl rfl dd_Mo_sum_2) (gd_codeOf kw_456) (by decide) [] [0, 1, 2] rfl rfl rfl rfl rfl (by decide) (Nat.le_of_ble_eq_true rfl) (Nat.le_of_ble_eq_true rfl) (Nat.le_of_ble_eq_true rfl) (Nat.le_of_ble_eq_true rfl) (fun v9 w9 h9 => ?_) (fun E9 w9 q9 h9 => h9.elim)
  obtain ⟨rfl, rfl⟩ := h9
  show gd_W X K 0 0 [gd_ob 5 h [.int er, .ref va, .ref re, .ref fu, .ref wi, .ref ma, .ref wo, .ref fd, .int mm, .int wm, .int mn, .int pl], gd_aJ K va 64 vf, gd_aZ K fu 64 uf] [(0, .ref h), (1, .int k), (2, .int k2)] [.int (if ch_no k then 1 else 0), .ref h] 5
  refine gd_if_ne hX 5 15 dd_Mo_sum_5 (by decide) (fun h1 => ?_) (fun h1 => ?_)
  · skip
    have hor : (ch_no k || ch_no k2) = true := by rw [(ch_ifb _).mp h1]; rfl
    refine gd_iconst hX 15 dd_Mo_sum_15 (v := 1) (by decide) ?_
    refine gd_goto hX 16 20 dd_Mo_sum_16 (by decide) ?_
    refine gd_eqi (show (1 : Int32) = (if true then 1 else 0) from rfl) ?_
    refine gd_iconst hX 20 dd_Mo_sum_20 (v := 1) (by decide) ?_
    refine gd_call hX (st := []) (wr := [gd_aJ K va 64 vf, gd_aZ K fu 64 uf]) (ct_Mo_fails _ K h va re fu wi ma wo fd er mm wm mn pl true 1) 21 dd_Mo_sum_21 (gd_nV hX (As := [.int (if true then 1 else 0), .int 1]) kw_457 kw_459 kw_8 (gd_sigOf (n := 2) kw_460 (by decide)) (by decide) 0 rfl rfl rfl rfl dd_Mo_sum_21) (gd_codeOf kw_460) (by decide) [0] [1, 2] rfl rfl rfl rfl rfl (by decide) (Nat.le_of_ble_eq_true rfl) (Nat.le_of_ble_eq_true rfl) (Nat.le_of_ble_eq_true rfl) (Nat.le_of_ble_eq_true rfl) (fun v9 w9 h9 => ?_) (fun E9 w9 q9 h9 => h9.elim)
    obtain ⟨rfl, rfl⟩ := h9
    refine gd_wsp [gd_ob 5 h [.int (if true then 1 else 0), .ref va, .ref re, .ref fu, .ref wi, .ref ma, .ref wo, .ref fd, .int mm, .int wm, .int mn, .int pl], gd_aJ K va 64 vf, gd_aZ K fu 64 uf] [2, 0, 1] rfl rfl rfl ?_
    show gd_W X K 0 0 [gd_ob 5 h [.int (if true then 1 else 0), .ref va, .ref re, .ref fu, .ref wi, .ref ma, .ref wo, .ref fd, .int mm, .int wm, .int mn, .int pl], gd_aJ K va 64 vf, gd_aZ K fu 64 uf] [(0, .ref h), (1, .int k), (2, .int k2)] [.int (if true then 1 else 0)] 24
    refine gd_if_eq hX 24 29 dd_Mo_sum_24 (by decide) (fun h9 => ?_) (fun h9 => ?_)
    · skip
      exact absurd (show (1 : Int32) = 0 from h9) (by decide)
    · skip
      show gd_W X K 0 0 [gd_ob 5 h [.int 1, .ref va, .ref re, .ref fu, .ref wi, .ref ma, .ref wo, .ref fd, .int mm, .int wm, .int mn, .int pl], gd_aJ K va 64 vf, gd_aZ K fu 64 uf] [(0, .ref h), (1, .int k), (2, .int k2)] [] 27
      refine gd_lconst hX 27 dd_Mo_sum_27 (v := 0) (by decide) ?_
      exact gd_lret hX hE 28 dd_Mo_sum_28 (Or.inl ⟨hor, rfl, rfl⟩)
  · skip
    have hp := (ch_ib _).mp h1
    refine gd_iload_n hX 8 dd_Mo_sum_8 rfl ?_
    refine gd_call hX (st := [.ref h]) (wr := [gd_ob 5 h [.int er, .ref va, .ref re, .ref fu, .ref wi, .ref ma, .ref wo, .ref fd, .int mm, .int wm, .int mn, .int pl], gd_aJ K va 64 vf, gd_aZ K fu 64 uf]) (ct_Mo_none _ K k2) 9 dd_Mo_sum_9 (gd_nS hX (As := [.int k2]) kw_454 kw_455 kw_18 (gd_nmOf kw_456) (gd_sigOf (n := 1) kw_456 (by decide)) (by decide) rfl rfl dd_Mo_sum_9) (gd_codeOf kw_456) (by decide) [] [0, 1, 2] rfl rfl rfl rfl rfl (by decide) (Nat.le_of_ble_eq_true rfl) (Nat.le_of_ble_eq_true rfl) (Nat.le_of_ble_eq_true rfl) (Nat.le_of_ble_eq_true rfl) (fun v9 w9 h9 => ?_) (fun E9 w9 q9 h9 => h9.elim)
    obtain ⟨rfl, rfl⟩ := h9
    show gd_W X K 0 0 [gd_ob 5 h [.int er, .ref va, .ref re, .ref fu, .ref wi, .ref ma, .ref wo, .ref fd, .int mm, .int wm, .int mn, .int pl], gd_aJ K va 64 vf, gd_aZ K fu 64 uf] [(0, .ref h), (1, .int k), (2, .int k2)] [.int (if ch_no k2 then 1 else 0), .ref h] 12
    refine gd_if_eq hX 12 19 dd_Mo_sum_12 (by decide) (fun h2 => ?_) (fun h2 => ?_)
    · skip
      have hp2 := (ch_ib _).mp h2
      refine gd_iconst hX 19 dd_Mo_sum_19 (v := 0) (by decide) ?_
      refine gd_eqi (show (0 : Int32) = (if false then 1 else 0) from rfl) ?_
      refine gd_iconst hX 20 dd_Mo_sum_20 (v := 1) (by decide) ?_
      refine gd_call hX (st := []) (wr := [gd_aJ K va 64 vf, gd_aZ K fu 64 uf]) (ct_Mo_fails _ K h va re fu wi ma wo fd er mm wm mn pl false 1) 21 dd_Mo_sum_21 (gd_nV hX (As := [.int (if false then 1 else 0), .int 1]) kw_457 kw_459 kw_8 (gd_sigOf (n := 2) kw_460 (by decide)) (by decide) 0 rfl rfl rfl rfl dd_Mo_sum_21) (gd_codeOf kw_460) (by decide) [0] [1, 2] rfl rfl rfl rfl rfl (by decide) (Nat.le_of_ble_eq_true rfl) (Nat.le_of_ble_eq_true rfl) (Nat.le_of_ble_eq_true rfl) (Nat.le_of_ble_eq_true rfl) (fun v9 w9 h9 => ?_) (fun E9 w9 q9 h9 => h9.elim)
      obtain ⟨rfl, rfl⟩ := h9
      refine gd_wsp [gd_ob 5 h [.int (if false then 1 else 0), .ref va, .ref re, .ref fu, .ref wi, .ref ma, .ref wo, .ref fd, .int mm, .int wm, .int mn, .int pl], gd_aJ K va 64 vf, gd_aZ K fu 64 uf] [2, 0, 1] rfl rfl rfl ?_
      show gd_W X K 0 0 [gd_ob 5 h [.int (if false then 1 else 0), .ref va, .ref re, .ref fu, .ref wi, .ref ma, .ref wo, .ref fd, .int mm, .int wm, .int mn, .int pl], gd_aJ K va 64 vf, gd_aZ K fu 64 uf] [(0, .ref h), (1, .int k), (2, .int k2)] [.int (if false then 1 else 0)] 24
      refine gd_if_eq hX 24 29 dd_Mo_sum_24 (by decide) (fun h9 => ?_) (fun h9 => ?_)
      · skip
        obtain ⟨a, ha, rfl⟩ := ch_no_ix hp
        obtain ⟨b, hb, rfl⟩ := ch_no_ix hp2
        show gd_W X K 0 0 [gd_ob 5 h [.int 0, .ref va, .ref re, .ref fu, .ref wi, .ref ma, .ref wo, .ref fd, .int mm, .int wm, .int mn, .int pl], gd_aJ K va 64 vf, gd_aZ K fu 64 uf] [(0, .ref h), (1, .int (nI a)), (2, .int (nI b))] [] 29
        have loop : ∀ (m n : Nat), m + (a + n) = max a (b + 1) → gd_W X K 0 0 [gd_ob 5 h [.int 0, .ref va, .ref re, .ref fu, .ref wi, .ref ma, .ref wo, .ref fd, .int mm, .int wm, .int mn, .int pl], gd_aJ K va 64 vf, gd_aZ K fu 64 uf] [(0, .ref h), (1, .int (nI a)), (2, .int (nI b)), (3, .long (ch_su w f a n)), (5, .int (nI (a + n)))] [] 34 := by
          intro m
          induction m with
          | zero =>
            intro n hn
            refine gd_iload hX 34 dd_Mo_sum_34 rfl ?_
            refine gd_iload_n hX 36 dd_Mo_sum_36 rfl ?_
            refine gd_icmp_gt hX 37 66 dd_Mo_sum_37 (by decide) (fun h3 => ?_) (fun h3 => ?_)
            · skip
              have e9 : b + 1 - a = n := by omega
              refine gd_lload_n hX 66 dd_Mo_sum_66 rfl ?_
              exact gd_lret hX hE 67 dd_Mo_sum_67 (Or.inr ⟨a, b, ha, hb, rfl, rfl, by rw [e9], rfl⟩)
            · skip
              exact absurd ((nI_ltI (by omega) (by omega)).mpr (by omega)) h3
          | succ m ih =>
            intro n hn
            have hm := hM (a + n) (by omega)
            refine gd_iload hX 34 dd_Mo_sum_34 rfl ?_
            refine gd_iload_n hX 36 dd_Mo_sum_36 rfl ?_
            refine gd_icmp_gt hX 37 66 dd_Mo_sum_37 (by decide) (fun h3 => ?_) (fun h3 => ?_)
            · skip
              exact absurd ((nI_ltI (by omega) (by omega)).mp h3) (by omega)
            · skip
              refine gd_aload_n hX 40 dd_Mo_sum_40 rfl ?_
              refine gd_get hX inC_Mo 0 3 41 dd_Mo_sum_41 rfl rfl (by decide) kw_411 rfl ?_
              refine gd_iload hX 44 dd_Mo_sum_44 rfl ?_
              refine gd_zald hX 2 (a + n) 46 dd_Mo_sum_46 rfl rfl (by omega) (by decide) ?_
              refine gd_eqi (show (uf (a + n) : Int32) = (if ch_bit w (a + n) then 1 else 0) from hm.1) ?_
              refine gd_if_eq hX 47 60 dd_Mo_sum_47 (by decide) (fun h4 => ?_) (fun h4 => ?_)
              · skip
                have h5 := (ch_ib _).mp h4
                have h6 : ch_su w f a (n + 1) = ch_su w f a n := by show (if ch_bit w (a + n) = true then _ else _) = _; rw [h5]; rfl
                refine gd_iinc hX 4 [(5, .int (nI ((a + n) + 1))), (0, .ref h), (1, .int (nI a)), (2, .int (nI b)), (3, .long (ch_su w f a n))] 60 dd_Mo_sum_60 rfl (gd_inc (a + n)) (by decide) rfl ?_
                refine gd_goto hX 63 34 dd_Mo_sum_63 (by decide) ?_
                show gd_W X K 0 0 [gd_ob 5 h [.int 0, .ref va, .ref re, .ref fu, .ref wi, .ref ma, .ref wo, .ref fd, .int mm, .int wm, .int mn, .int pl], gd_aJ K va 64 vf, gd_aZ K fu 64 uf] [(5, .int (nI ((a + n) + 1))), (0, .ref h), (1, .int (nI a)), (2, .int (nI b)), (3, .long (ch_su w f a n))] [] 34
                refine gd_lvs [(0, .ref h), (1, .int (nI a)), (2, .int (nI b)), (3, .long (ch_su w f a n)), (5, .int (nI ((a + n) + 1)))] [1, 2, 3, 4, 0] rfl ?_
                rw [← h6]
                exact ih (n + 1) (by omega)
              · skip
                have h5 := (ch_ifb _).mp h4
                have h6 : ch_su w f a (n + 1) = ch_su w f a n + f (a + n) := by show (if ch_bit w (a + n) = true then _ else _) = _; rw [h5]; rfl
                refine gd_lload_n hX 50 dd_Mo_sum_50 rfl ?_
                refine gd_aload_n hX 51 dd_Mo_sum_51 rfl ?_
                refine gd_get hX inC_Mo 0 1 52 dd_Mo_sum_52 rfl rfl (by decide) kw_409 rfl ?_
                refine gd_iload hX 55 dd_Mo_sum_55 rfl ?_
                refine gd_lald hX 1 (a + n) 57 dd_Mo_sum_57 rfl rfl (by omega) (by decide) ?_
                refine gd_eql (show (vf (a + n) : Int64) = f (a + n) from hm.2 h5) ?_
                refine gd_ladd hX 58 dd_Mo_sum_58 ?_
                refine gd_eql (show ((ch_su w f a n) + (f (a + n)) : Int64) = ch_su w f a (n + 1) from h6.symm) ?_
                refine gd_lstore_n hX [(3, .long (ch_su w f a (n + 1))), (0, .ref h), (1, .int (nI a)), (2, .int (nI b)), (5, .int (nI (a + n)))] 59 dd_Mo_sum_59 rfl (by decide) rfl ?_
                refine gd_iinc hX 4 [(5, .int (nI ((a + n) + 1))), (3, .long (ch_su w f a (n + 1))), (0, .ref h), (1, .int (nI a)), (2, .int (nI b))] 60 dd_Mo_sum_60 rfl (gd_inc (a + n)) (by decide) rfl ?_
                refine gd_goto hX 63 34 dd_Mo_sum_63 (by decide) ?_
                show gd_W X K 0 0 [gd_ob 5 h [.int 0, .ref va, .ref re, .ref fu, .ref wi, .ref ma, .ref wo, .ref fd, .int mm, .int wm, .int mn, .int pl], gd_aJ K va 64 vf, gd_aZ K fu 64 uf] [(5, .int (nI ((a + n) + 1))), (3, .long (ch_su w f a (n + 1))), (0, .ref h), (1, .int (nI a)), (2, .int (nI b))] [] 34
                refine gd_lvs [(0, .ref h), (1, .int (nI a)), (2, .int (nI b)), (3, .long (ch_su w f a (n + 1))), (5, .int (nI ((a + n) + 1)))] [2, 3, 4, 1, 0] rfl ?_
                exact ih (n + 1) (by omega)
        refine gd_lconst hX 29 dd_Mo_sum_29 (v := 0) (by decide) ?_
        refine gd_eql (show (0 : Int64) = ch_su w f a 0 from rfl) ?_
        refine gd_lstore_n hX [(3, .long (ch_su w f a 0)), (0, .ref h), (1, .int (nI a)), (2, .int (nI b))] 30 dd_Mo_sum_30 rfl (by decide) rfl ?_
        refine gd_iload_n hX 31 dd_Mo_sum_31 rfl ?_
        refine gd_eqi (show (nI a : Int32) = nI (a + 0) from rfl) ?_
        refine gd_istore hX [(5, .int (nI (a + 0))), (3, .long (ch_su w f a 0)), (0, .ref h), (1, .int (nI a)), (2, .int (nI b))] 32 dd_Mo_sum_32 (by decide) rfl ?_
        refine gd_lvs [(0, .ref h), (1, .int (nI a)), (2, .int (nI b)), (3, .long (ch_su w f a 0)), (5, .int (nI (a + 0)))] [2, 3, 4, 1, 0] rfl ?_
        exact loop (max a (b + 1) - a) 0 (by omega)
      · skip
        exact absurd rfl h9
    · skip
      have hor : (ch_no k || ch_no k2) = true := by rw [(ch_ifb _).mp h2, Bool.or_true]
      refine gd_iconst hX 15 dd_Mo_sum_15 (v := 1) (by decide) ?_
      refine gd_goto hX 16 20 dd_Mo_sum_16 (by decide) ?_
      refine gd_eqi (show (1 : Int32) = (if true then 1 else 0) from rfl) ?_
      refine gd_iconst hX 20 dd_Mo_sum_20 (v := 1) (by decide) ?_
      refine gd_call hX (st := []) (wr := [gd_aJ K va 64 vf, gd_aZ K fu 64 uf]) (ct_Mo_fails _ K h va re fu wi ma wo fd er mm wm mn pl true 1) 21 dd_Mo_sum_21 (gd_nV hX (As := [.int (if true then 1 else 0), .int 1]) kw_457 kw_459 kw_8 (gd_sigOf (n := 2) kw_460 (by decide)) (by decide) 0 rfl rfl rfl rfl dd_Mo_sum_21) (gd_codeOf kw_460) (by decide) [0] [1, 2] rfl rfl rfl rfl rfl (by decide) (Nat.le_of_ble_eq_true rfl) (Nat.le_of_ble_eq_true rfl) (Nat.le_of_ble_eq_true rfl) (Nat.le_of_ble_eq_true rfl) (fun v9 w9 h9 => ?_) (fun E9 w9 q9 h9 => h9.elim)
      obtain ⟨rfl, rfl⟩ := h9
      refine gd_wsp [gd_ob 5 h [.int (if true then 1 else 0), .ref va, .ref re, .ref fu, .ref wi, .ref ma, .ref wo, .ref fd, .int mm, .int wm, .int mn, .int pl], gd_aJ K va 64 vf, gd_aZ K fu 64 uf] [2, 0, 1] rfl rfl rfl ?_
      show gd_W X K 0 0 [gd_ob 5 h [.int (if true then 1 else 0), .ref va, .ref re, .ref fu, .ref wi, .ref ma, .ref wo, .ref fd, .int mm, .int wm, .int mn, .int pl], gd_aJ K va 64 vf, gd_aZ K fu 64 uf] [(0, .ref h), (1, .int k), (2, .int k2)] [.int (if true then 1 else 0)] 24
      refine gd_if_eq hX 24 29 dd_Mo_sum_24 (by decide) (fun h9 => ?_) (fun h9 => ?_)
      · skip
        exact absurd (show (1 : Int32) = 0 from h9) (by decide)
      · skip
        show gd_W X K 0 0 [gd_ob 5 h [.int 1, .ref va, .ref re, .ref fu, .ref wi, .ref ma, .ref wo, .ref fd, .int mm, .int wm, .int mn, .int pl], gd_aJ K va 64 vf, gd_aZ K fu 64 uf] [(0, .ref h), (1, .int k), (2, .int k2)] [] 27
        refine gd_lconst hX 27 dd_Mo_sum_27 (v := 0) (by decide) ?_
        exact gd_lret hX hE 28 dd_Mo_sum_28 (Or.inl ⟨hor, rfl, rfl⟩)
set_option maxRecDepth 100000 in
set_option maxHeartbeats 4000000 in
theorem ct_Mo_next (l : Launch) (K : gd_K) (h va re fu wi ma wo fd : Nat) (er mm wm mn pl : Int32) (w : Int64) (f vf : Nat → Int64) (uf : Nat → Int32) (hM : ch_M w f vf uf) (k : Nat) (hk : k ≤ 64) : gd_M l yy_Mo_next bb_Mo_next 3 (some .int) [] 0 0 0 0 K [.ref h, .int (nI k)] [gd_ob 5 h [.int er, .ref va, .ref re, .ref fu, .ref wi, .ref ma, .ref wo, .ref fd, .int mm, .int wm, .int mn, .int pl], gd_aZ K fu 64 uf] (fun v9 w1 => v9 = some (.int (nI (ch_nx w (64 - k) k))) ∧ w1 = [gd_ob 5 h [.int er, .ref va, .ref re, .ref fu, .ref wi, .ref ma, .ref wo, .ref fd, .int mm, .int wm, .int mn, .int pl], gd_aZ K fu 64 uf]) (fun _ _ => False) := by
  refine gd_body (Nat.le_of_ble_eq_true rfl) (fun X hXl hin hE hX => ?_)
  have loop : ∀ (n i : Nat), n + i = 64 → ch_nx w (64 - k) k = ch_nx w n i → gd_W X K 0 0 [gd_ob 5 h [.int er, .ref va, .ref re, .ref fu, .ref wi, .ref ma, .ref wo, .ref fd, .int mm, .int wm, .int mn, .int pl], gd_aZ K fu 64 uf] [(0, .ref h), (2, .int (nI i))] [] 2 := by
    intro n
    induction n with
    | zero =>
      intro i hi hr
      obtain rfl : i = 64 := by omega
      refine gd_iload_n hX 2 dd_Mo_next_2 rfl ?_
      refine gd_bipush hX 3 dd_Mo_next_3 (v := 64) (by decide) ?_
      refine gd_icmp_ge hX 5 23 dd_Mo_next_5 (by decide) (fun h1 => ?_) (fun h1 => ?_)
      · skip
        refine gd_iload_n hX 23 dd_Mo_next_23 rfl ?_
        exact gd_iret hX hE 24 dd_Mo_next_24 ⟨by rw [hr]; rfl, rfl⟩
      · skip
        exact absurd (by decide) h1
    | succ n ih =>
      intro i hi hr
      have hm := hM i (by omega)
      have e : ch_nx w (n + 1) i = if ch_bit w i then i else ch_nx w n (i + 1) := rfl
      refine gd_iload_n hX 2 dd_Mo_next_2 rfl ?_
      refine gd_bipush hX 3 dd_Mo_next_3 (v := 64) (by decide) ?_
      refine gd_icmp_ge hX 5 23 dd_Mo_next_5 (by decide) (fun h1 => ?_) (fun h1 => ?_)
      · skip
        exact absurd ((nI_leI (a := 64) (by decide) (by omega)).mp h1) (by omega)
      · skip
        refine gd_aload_n hX 8 dd_Mo_next_8 rfl ?_
        refine gd_get hX inC_Mo 0 3 9 dd_Mo_next_9 rfl rfl (by decide) kw_411 rfl ?_
        refine gd_iload_n hX 12 dd_Mo_next_12 rfl ?_
        refine gd_zald hX 1 i 13 dd_Mo_next_13 rfl rfl (by omega) (by decide) ?_
        refine gd_eqi (show (uf i : Int32) = (if ch_bit w i then 1 else 0) from hm.1) ?_
        refine gd_if_ne hX 14 23 dd_Mo_next_14 (by decide) (fun h2 => ?_) (fun h2 => ?_)
        · skip
          have h5 := (ch_ifb _).mp h2
          refine gd_iload_n hX 23 dd_Mo_next_23 rfl ?_
          exact gd_iret hX hE 24 dd_Mo_next_24 ⟨by rw [hr, e, if_pos h5], rfl⟩
        · skip
          have h5 := (ch_ib _).mp h2
          refine gd_iinc hX 1 [(2, .int (nI (i + 1))), (0, .ref h)] 17 dd_Mo_next_17 rfl (gd_inc i) (by decide) rfl ?_
          refine gd_goto hX 20 2 dd_Mo_next_20 (by decide) ?_
          refine gd_lvs [(0, .ref h), (2, .int (nI (i + 1)))] [1, 0] rfl ?_
          exact ih (i + 1) (by omega) (by rw [hr, e, if_neg (by rw [h5]; decide)])
  refine gd_iload_n hX 0 dd_Mo_next_0 rfl ?_
  refine gd_istore_n hX [(2, .int (nI k)), (0, .ref h), (1, .int (nI k))] 1 dd_Mo_next_1 rfl (by decide) rfl ?_
  refine gd_lvs [(0, .ref h), (2, .int (nI k))] [1, 0] rfl ?_
  exact loop (64 - k) k (by omega) rfl
