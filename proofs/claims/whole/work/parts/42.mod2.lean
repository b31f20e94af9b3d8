theorem ch_code_len (w : Int64) (f : Nat → Int64) : (ch_code w f).length ≤ 712 := by
  have h1 : (ch_code w f).length ≤ _ := ch_WL_len w (ch_runs w f 64)
  have h2 := ch_runs_len w f 64
  omega
theorem ch_ct4 (w : Int64) (f : Nat → Int64) (Lf Lm : List Nat) : ch_ct w f Lf Lm 4 = (ch_code w f).length := by
  unfold ch_code
  rw [List.length_append, ch_mask_len]
  rfl
set_option maxRecDepth 100000 in
set_option maxHeartbeats 4000000 in
theorem ct_Mo_encode (l : Launch) (K : gd_K) (h va re fu wi ma wo fd : Nat) (er mm wm mn pl : Int32) (w : Int64) (f vf : Nat → Int64) (uf : Nat → Int32) (hM : ch_M w f vf uf) (wk mf : Nat → Int32) : gd_M l yy_Mo_encode bb_Mo_encode 2 (some .int) [] 2 38 0 0 K [.ref h] [gd_ob 5 h [.int er, .ref va, .ref re, .ref fu, .ref wi, .ref ma, .ref wo, .ref fd, .int mm, .int wm, .int mn, .int pl], gd_aJ K va 64 vf, gd_aZ K fu 64 uf, gd_aI K wo 720 wk, gd_aI K ma 720 mf] (fun v9 w1 => v9 = some (.int (nI (ch_code w f).length)) ∧ ∃ wk' mf', w1 = [gd_ob 5 h [.int 0, .ref va, .ref re, .ref fu, .ref wi, .ref ma, .ref wo, .ref fd, .int (nI (ch_code w f).length), .int (nI (ch_code w f).length), .int mn, .int pl], gd_aJ K va 64 vf, gd_aZ K fu 64 uf, gd_aI K wo 720 wk', gd_aI K ma 720 mf'] ∧ ch_I mf' (ch_code w f)) (fun _ _ => False) := by
  refine gd_body (Nat.le_of_ble_eq_true rfl) (fun X hXl hin hE hX => ?_)
  have hC := ch_code_len w f
  refine gd_aload_n hX 0 dd_Mo_encode_0 rfl ?_
  refine gd_iconst hX 1 dd_Mo_encode_1 (v := 0) (by decide) ?_
  refine gd_put hX inC_Mo ty_Mo tyk_Mo nm_Mo 0 0 [gd_ob 5 h [.int 0, .ref va, .ref re, .ref fu, .ref wi, .ref ma, .ref wo, .ref fd, .int mm, .int wm, .int mn, .int pl], gd_aJ K va 64 vf, gd_aZ K fu 64 uf, gd_aI K wo 720 wk, gd_aI K ma 720 mf] 2 dd_Mo_encode_2 rfl rfl (by decide) kw_408 rfl rfl rfl (Nat.le_of_ble_eq_true rfl) rfl ?_
  refine gd_aload_n hX 5 dd_Mo_encode_5 rfl ?_
  refine gd_call hX (st := []) (wr := [gd_aI K ma 720 mf]) (ct_Mo_lay _ K h va re fu wi ma wo fd 0 mm wm mn pl w f vf uf hM wk) 6 dd_Mo_encode_6 (gd_nV hX (As := []) kw_477 kw_479 kw_9 (gd_sigOf (n := 0) kw_480 (by decide)) (by decide) 0 rfl rfl rfl rfl dd_Mo_encode_6) (gd_codeOf kw_480) (by decide) [0, 1, 2, 3] [4] rfl rfl rfl rfl rfl (by decide) (Nat.le_of_ble_eq_true rfl) (Nat.le_of_ble_eq_true rfl) (Nat.le_of_ble_eq_true rfl) (Nat.le_of_ble_eq_true rfl) (fun v9 w9 h9 => ?_) (fun E9 w9 q9 h9 => h9.elim)
  obtain ⟨rfl, wk1, rfl, hI⟩ := h9
  refine gd_wsp [gd_ob 5 h [.int 0, .ref va, .ref re, .ref fu, .ref wi, .ref ma, .ref wo, .ref fd, .int mm, .int (nI (ch_code w f).length), .int mn, .int pl], gd_aJ K va 64 vf, gd_aZ K fu 64 uf, gd_aI K wo 720 wk1, gd_aI K ma 720 mf] [1, 2, 3, 4, 0] rfl rfl rfl ?_
  show gd_W X K 0 0 [gd_ob 5 h [.int 0, .ref va, .ref re, .ref fu, .ref wi, .ref ma, .ref wo, .ref fd, .int mm, .int (nI (ch_code w f).length), .int mn, .int pl], gd_aJ K va 64 vf, gd_aZ K fu 64 uf, gd_aI K wo 720 wk1, gd_aI K ma 720 mf] [(0, .ref h)] [.int (nI (ch_runs w f 64).length)] 9
  have loop : ∀ (m i : Nat) (mf : Nat → Int32), m + i = (ch_code w f).length → (∀ t, t < i → mf t = nI ((ch_code w f).getD t 0)) → gd_W X K 0 0 [gd_ob 5 h [.int 0, .ref va, .ref re, .ref fu, .ref wi, .ref ma, .ref wo, .ref fd, .int (nI (ch_code w f).length), .int (nI (ch_code w f).length), .int mn, .int pl], gd_aJ K va 64 vf, gd_aZ K fu 64 uf, gd_aI K wo 720 wk1, gd_aI K ma 720 mf] [(0, .ref h), (1, .int (nI i))] [] 20 := by
    intro m
    induction m with
    | zero =>
      intro i mf hi hm
      refine gd_iload_n hX 20 dd_Mo_encode_20 rfl ?_
      refine gd_aload_n hX 21 dd_Mo_encode_21 rfl ?_
      refine gd_get hX inC_Mo 0 8 22 dd_Mo_encode_22 rfl rfl (by decide) kw_416 rfl ?_
      refine gd_icmp_ge hX 25 46 dd_Mo_encode_25 (by decide) (fun h1 => ?_) (fun h1 => ?_)
      · skip
        refine gd_aload_n hX 46 dd_Mo_encode_46 rfl ?_
        refine gd_get hX inC_Mo 0 8 47 dd_Mo_encode_47 rfl rfl (by decide) kw_416 rfl ?_
        exact gd_iret hX hE 50 dd_Mo_encode_50 ⟨rfl, wk1, mf, rfl, fun t ht => hm t (by omega)⟩
      · skip
        exact absurd ((nI_leI (by omega) (by omega)).mpr (by omega)) h1
    | succ m ih =>
      intro i mf hi hm
      refine gd_iload_n hX 20 dd_Mo_encode_20 rfl ?_
      refine gd_aload_n hX 21 dd_Mo_encode_21 rfl ?_
      refine gd_get hX inC_Mo 0 8 22 dd_Mo_encode_22 rfl rfl (by decide) kw_416 rfl ?_
      refine gd_icmp_ge hX 25 46 dd_Mo_encode_25 (by decide) (fun h1 => ?_) (fun h1 => ?_)
      · skip
        exact absurd ((nI_leI (by omega) (by omega)).mp h1) (by omega)
      · skip
        refine gd_aload_n hX 28 dd_Mo_encode_28 rfl ?_
        refine gd_get hX inC_Mo 0 5 29 dd_Mo_encode_29 rfl rfl (by decide) kw_413 rfl ?_
        refine gd_iload_n hX 32 dd_Mo_encode_32 rfl ?_
        refine gd_aload_n hX 33 dd_Mo_encode_33 rfl ?_
        refine gd_get hX inC_Mo 0 6 34 dd_Mo_encode_34 rfl rfl (by decide) kw_414 rfl ?_
        refine gd_iload_n hX 37 dd_Mo_encode_37 rfl ?_
        refine gd_iald hX 3 i 38 dd_Mo_encode_38 rfl rfl (by omega) (by decide) ?_
        refine gd_eqi (show (wk1 i : Int32) = nI ((ch_code w f).getD i 0) from hI i (by omega)) ?_
        refine gd_iast hX 4 i [gd_ob 5 h [.int 0, .ref va, .ref re, .ref fu, .ref wi, .ref ma, .ref wo, .ref fd, .int (nI (ch_code w f).length), .int (nI (ch_code w f).length), .int mn, .int pl], gd_aJ K va 64 vf, gd_aZ K fu 64 uf, gd_aI K wo 720 wk1, gd_aI K ma 720 (upd mf i (nI ((ch_code w f).getD i 0)))] 39 dd_Mo_encode_39 rfl rfl (by omega) (by decide) rfl ?_
        refine gd_iinc hX 1 [(1, .int (nI (i + 1))), (0, .ref h)] 40 dd_Mo_encode_40 rfl (gd_inc i) (by decide) rfl ?_
        refine gd_goto hX 43 20 dd_Mo_encode_43 (by decide) ?_
        refine gd_lvs [(0, .ref h), (1, .int (nI (i + 1)))] [1, 0] rfl ?_
        exact ih (i + 1) _ (by omega) (fun t ht => by by_cases e : t = i; { subst e; rw [pk_us] }; { rw [pk_un e]; exact hm t (by omega) })
  refine gd_pop hX 9 dd_Mo_encode_9 rfl ?_
  refine gd_aload_n hX 10 dd_Mo_encode_10 rfl ?_
  refine gd_aload_n hX 11 dd_Mo_encode_11 rfl ?_
  refine gd_get hX inC_Mo 0 9 12 dd_Mo_encode_12 rfl rfl (by decide) kw_417 rfl ?_
  refine gd_put hX inC_Mo ty_Mo tyk_Mo nm_Mo 0 8 [gd_ob 5 h [.int 0, .ref va, .ref re, .ref fu, .ref wi, .ref ma, .ref wo, .ref fd, .int (nI (ch_code w f).length), .int (nI (ch_code w f).length), .int mn, .int pl], gd_aJ K va 64 vf, gd_aZ K fu 64 uf, gd_aI K wo 720 wk1, gd_aI K ma 720 mf] 15 dd_Mo_encode_15 rfl rfl (by decide) kw_416 rfl rfl rfl (Nat.le_of_ble_eq_true rfl) rfl ?_
  refine gd_iconst hX 18 dd_Mo_encode_18 (v := 0) (by decide) ?_
  refine gd_eqi (show (0 : Int32) = nI 0 from rfl) ?_
  refine gd_istore_n hX [(1, .int (nI 0)), (0, .ref h)] 19 dd_Mo_encode_19 rfl (by decide) rfl ?_
  refine gd_lvs [(0, .ref h), (1, .int (nI 0))] [1, 0] rfl ?_
  exact loop _ 0 mf rfl (fun t ht => absurd ht (Nat.not_lt_zero _))
set_option maxRecDepth 100000 in
set_option maxHeartbeats 4000000 in
theorem ct_Mo_code (l : Launch) (K : gd_K) (h va re fu wi ma wo fd : Nat) (er mm wm mn pl : Int32) (L : List Nat) (mf : Nat → Int32) (k : Int32) (hL : L.length ≤ 712) (hI : ch_I mf L) : gd_M l yy_Mo_code bb_Mo_code 5 (some .long) [] 1 14 0 0 K [.ref h, .int k] [gd_ob 5 h [.int er, .ref va, .ref re, .ref fu, .ref wi, .ref ma, .ref wo, .ref fd, .int (nI L.length), .int wm, .int mn, .int pl], gd_aI K ma 720 mf] (fun v9 w1 => ((k < 0 ∨ nI ((L.length + 7) / 8) ≤ k) ∧ v9 = some (.long 0) ∧ w1 = [gd_ob 5 h [.int 1, .ref va, .ref re, .ref fu, .ref wi, .ref ma, .ref wo, .ref fd, .int (nI L.length), .int wm, .int mn, .int pl], gd_aI K ma 720 mf]) ∨ ∃ j, j < (L.length + 7) / 8 ∧ k = nI j ∧ v9 = some (.long (ch_wd L j 8)) ∧ w1 = [gd_ob 5 h [.int 0, .ref va, .ref re, .ref fu, .ref wi, .ref ma, .ref wo, .ref fd, .int (nI L.length), .int wm, .int mn, .int pl], gd_aI K ma 720 mf]) (fun _ _ => False) := by
  refine gd_body (Nat.le_of_ble_eq_true rfl) (fun X hXl hin hE hX => ?_)
  refine gd_aload_n hX 0 dd_Mo_code_0 rfl ?_
  refine gd_iload_n hX 1 dd_Mo_code_1 rfl ?_
  refine gd_if_lt hX 2 19 dd_Mo_code_2 (by decide) (fun h1 => ?_) (fun h1 => ?_)
  · skip
    refine gd_iconst hX 19 dd_Mo_code_19 (v := 1) (by decide) ?_
    refine gd_goto hX 20 24 dd_Mo_code_20 (by decide) ?_
    refine gd_eqi (show (1 : Int32) = (if true then 1 else 0) from rfl) ?_
    refine gd_iconst hX 24 dd_Mo_code_24 (v := 1) (by decide) ?_
    refine gd_call hX (st := []) (wr := [gd_aI K ma 720 mf]) (ct_Mo_fails _ K h va re fu wi ma wo fd er (nI L.length) wm mn pl true 1) 25 dd_Mo_code_25 (gd_nV hX (As := [.int (if true then 1 else 0), .int 1]) kw_457 kw_459 kw_8 (gd_sigOf (n := 2) kw_460 (by decide)) (by decide) 0 rfl rfl rfl rfl dd_Mo_code_25) (gd_codeOf kw_460) (by decide) [0] [1] rfl rfl rfl rfl rfl (by decide) (Nat.le_of_ble_eq_true rfl) (Nat.le_of_ble_eq_true rfl) (Nat.le_of_ble_eq_true rfl) (Nat.le_of_ble_eq_true rfl) (fun v9 w9 h9 => ?_) (fun E9 w9 q9 h9 => h9.elim)
    obtain ⟨rfl, rfl⟩ := h9
    refine gd_wsp [gd_ob 5 h [.int (if true then 1 else 0), .ref va, .ref re, .ref fu, .ref wi, .ref ma, .ref wo, .ref fd, .int (nI L.length), .int wm, .int mn, .int pl], gd_aI K ma 720 mf] [1, 0] rfl rfl rfl ?_
    show gd_W X K 0 0 [gd_ob 5 h [.int (if true then 1 else 0), .ref va, .ref re, .ref fu, .ref wi, .ref ma, .ref wo, .ref fd, .int (nI L.length), .int wm, .int mn, .int pl], gd_aI K ma 720 mf] [(0, .ref h), (1, .int k)] [.int (if true then 1 else 0)] 28
    refine gd_if_eq hX 28 33 dd_Mo_code_28 (by decide) (fun h9 => ?_) (fun h9 => ?_)
    · skip
      exact absurd (show (1 : Int32) = 0 from h9) (by decide)
    · skip
      show gd_W X K 0 0 [gd_ob 5 h [.int 1, .ref va, .ref re, .ref fu, .ref wi, .ref ma, .ref wo, .ref fd, .int (nI L.length), .int wm, .int mn, .int pl], gd_aI K ma 720 mf] [(0, .ref h), (1, .int k)] [] 31
      refine gd_lconst hX 31 dd_Mo_code_31 (v := 0) (by decide) ?_
      exact gd_lret hX hE 32 dd_Mo_code_32 (Or.inl ⟨Or.inl h1, rfl, rfl⟩)
  · skip
    refine gd_iload_n hX 5 dd_Mo_code_5 rfl ?_
    refine gd_aload_n hX 6 dd_Mo_code_6 rfl ?_
    refine gd_get hX inC_Mo 0 8 7 dd_Mo_code_7 rfl rfl (by decide) kw_416 rfl ?_
    refine gd_bipush hX 10 dd_Mo_code_10 (v := 7) (by decide) ?_
    refine gd_iadd hX 12 dd_Mo_code_12 ?_
    refine gd_eqi (show ((nI L.length) + 7 : Int32) = nI (L.length + 7) from nI_add _ 7) ?_
    refine gd_bipush hX 13 dd_Mo_code_13 (v := 8) (by decide) ?_
    refine gd_idiv hX 15 dd_Mo_code_15 (by decide) ?_
    refine gd_eqi (show ((nI (L.length + 7)) / 8 : Int32) = nI ((L.length + 7) / 8) from pk_div (d := 8) (by omega) (by decide) (by decide)) ?_
    refine gd_icmp_lt hX 16 23 dd_Mo_code_16 (by decide) (fun h2 => ?_) (fun h2 => ?_)
    · skip
      refine gd_iconst hX 23 dd_Mo_code_23 (v := 0) (by decide) ?_
      refine gd_eqi (show (0 : Int32) = (if false then 1 else 0) from rfl) ?_
      refine gd_iconst hX 24 dd_Mo_code_24 (v := 1) (by decide) ?_
      refine gd_call hX (st := []) (wr := [gd_aI K ma 720 mf]) (ct_Mo_fails _ K h va re fu wi ma wo fd er (nI L.length) wm mn pl false 1) 25 dd_Mo_code_25 (gd_nV hX (As := [.int (if false then 1 else 0), .int 1]) kw_457 kw_459 kw_8 (gd_sigOf (n := 2) kw_460 (by decide)) (by decide) 0 rfl rfl rfl rfl dd_Mo_code_25) (gd_codeOf kw_460) (by decide) [0] [1] rfl rfl rfl rfl rfl (by decide) (Nat.le_of_ble_eq_true rfl) (Nat.le_of_ble_eq_true rfl) (Nat.le_of_ble_eq_true rfl) (Nat.le_of_ble_eq_true rfl) (fun v9 w9 h9 => ?_) (fun E9 w9 q9 h9 => h9.elim)
      obtain ⟨rfl, rfl⟩ := h9
      refine gd_wsp [gd_ob 5 h [.int (if false then 1 else 0), .ref va, .ref re, .ref fu, .ref wi, .ref ma, .ref wo, .ref fd, .int (nI L.length), .int wm, .int mn, .int pl], gd_aI K ma 720 mf] [1, 0] rfl rfl rfl ?_
      show gd_W X K 0 0 [gd_ob 5 h [.int (if false then 1 else 0), .ref va, .ref re, .ref fu, .ref wi, .ref ma, .ref wo, .ref fd, .int (nI L.length), .int wm, .int mn, .int pl], gd_aI K ma 720 mf] [(0, .ref h), (1, .int k)] [.int (if false then 1 else 0)] 28
      refine gd_if_eq hX 28 33 dd_Mo_code_28 (by decide) (fun h9 => ?_) (fun h9 => ?_)
      · skip
        show gd_W X K 0 0 [gd_ob 5 h [.int 0, .ref va, .ref re, .ref fu, .ref wi, .ref ma, .ref wo, .ref fd, .int (nI L.length), .int wm, .int mn, .int pl], gd_aI K ma 720 mf] [(0, .ref h), (1, .int k)] [] 33
        obtain ⟨j, hj, rfl⟩ := ch_ix (by omega) h1 h2
        show gd_W X K 0 0 [gd_ob 5 h [.int 0, .ref va, .ref re, .ref fu, .ref wi, .ref ma, .ref wo, .ref fd, .int (nI L.length), .int wm, .int mn, .int pl], gd_aI K ma 720 mf] [(0, .ref h), (1, .int (nI j))] [] 33
        have loop : ∀ (m i : Nat), m + i = 8 → gd_W X K 0 0 [gd_ob 5 h [.int 0, .ref va, .ref re, .ref fu, .ref wi, .ref ma, .ref wo, .ref fd, .int (nI L.length), .int wm, .int mn, .int pl], gd_aI K ma 720 mf] [(0, .ref h), (1, .int (nI j)), (2, .long (ch_wd L j i)), (4, .int (nI (8 * j + i)))] [] 41 := by
          intro m
          induction m with
          | zero =>
            intro i hi
            obtain rfl : i = 8 := by omega
            refine gd_iload hX 41 dd_Mo_code_41 rfl ?_
            refine gd_bipush hX 43 dd_Mo_code_43 (v := 8) (by decide) ?_
            refine gd_iload_n hX 45 dd_Mo_code_45 rfl ?_
            refine gd_imul hX 46 dd_Mo_code_46 ?_
            refine gd_eqi (show (8 * (nI j) : Int32) = nI (8 * j) from by rw [show (8 : Int32) = nI 8 from rfl, pk_mul]) ?_
            refine gd_bipush hX 47 dd_Mo_code_47 (v := 8) (by decide) ?_
            refine gd_iadd hX 49 dd_Mo_code_49 ?_
            refine gd_eqi (show ((nI (8 * j)) + 8 : Int32) = nI (8 * j + 8) from nI_add _ 8) ?_
            refine gd_icmp_ge hX 50 86 dd_Mo_code_50 (by decide) (fun h3 => ?_) (fun h3 => ?_)
            · skip
              refine gd_lload_n hX 86 dd_Mo_code_86 rfl ?_
              exact gd_lret hX hE 87 dd_Mo_code_87 (Or.inr ⟨j, hj, rfl, rfl, rfl⟩)
            · skip
              exact absurd (Int32.le_refl _) h3
          | succ m ih =>
            intro i hi
            refine gd_iload hX 41 dd_Mo_code_41 rfl ?_
            refine gd_bipush hX 43 dd_Mo_code_43 (v := 8) (by decide) ?_
            refine gd_iload_n hX 45 dd_Mo_code_45 rfl ?_
            refine gd_imul hX 46 dd_Mo_code_46 ?_
            refine gd_eqi (show (8 * (nI j) : Int32) = nI (8 * j) from by rw [show (8 : Int32) = nI 8 from rfl, pk_mul]) ?_
            refine gd_bipush hX 47 dd_Mo_code_47 (v := 8) (by decide) ?_
            refine gd_iadd hX 49 dd_Mo_code_49 ?_
            refine gd_eqi (show ((nI (8 * j)) + 8 : Int32) = nI (8 * j + 8) from nI_add _ 8) ?_
            refine gd_icmp_ge hX 50 86 dd_Mo_code_50 (by decide) (fun h3 => ?_) (fun h3 => ?_)
            · skip
              exact absurd ((nI_leI (by omega) (by omega)).mp h3) (by omega)
            · skip
              refine gd_lload_n hX 53 dd_Mo_code_53 rfl ?_
              refine gd_bipush hX 54 dd_Mo_code_54 (v := 8) (by decide) ?_
              refine gd_lshl hX 56 dd_Mo_code_56 ?_
              refine gd_iload hX 57 dd_Mo_code_57 rfl ?_
              refine gd_aload_n hX 59 dd_Mo_code_59 rfl ?_
              refine gd_get hX inC_Mo 0 8 60 dd_Mo_code_60 rfl rfl (by decide) kw_416 rfl ?_
              refine gd_icmp_ge hX 63 76 dd_Mo_code_63 (by decide) (fun h4 => ?_) (fun h4 => ?_)
              · skip
                have h5 : L.length ≤ 8 * j + i := (nI_leI (by omega) (by omega)).mp h4
                refine gd_iconst hX 76 dd_Mo_code_76 (v := 0) (by decide) ?_
                refine gd_eqi (show (0 : Int32) = nI (L.getD (8 * j + i) 0) from by rw [ch_getD_out h5]; rfl) ?_
                refine gd_i2l hX 77 dd_Mo_code_77 ?_
                refine gd_lor hX 78 dd_Mo_code_78 ?_
                refine gd_eql (show (((ch_wd L j i) <<< ((8 : Int32).toInt64 &&& 63)) ||| ((nI (L.getD (8 * j + i) 0)).toInt64) : Int64) = ch_wd L j (i + 1) from rfl) ?_
                refine gd_lstore_n hX [(2, .long (ch_wd L j (i + 1))), (0, .ref h), (1, .int (nI j)), (4, .int (nI (8 * j + i)))] 79 dd_Mo_code_79 rfl (by decide) rfl ?_
                refine gd_iinc hX 3 [(4, .int (nI ((8 * j + i) + 1))), (2, .long (ch_wd L j (i + 1))), (0, .ref h), (1, .int (nI j))] 80 dd_Mo_code_80 rfl (gd_inc (8 * j + i)) (by decide) rfl ?_
                refine gd_goto hX 83 41 dd_Mo_code_83 (by decide) ?_
                show gd_W X K 0 0 [gd_ob 5 h [.int 0, .ref va, .ref re, .ref fu, .ref wi, .ref ma, .ref wo, .ref fd, .int (nI L.length), .int wm, .int mn, .int pl], gd_aI K ma 720 mf] [(4, .int (nI ((8 * j + i) + 1))), (2, .long (ch_wd L j (i + 1))), (0, .ref h), (1, .int (nI j))] [] 41
                refine gd_lvs [(0, .ref h), (1, .int (nI j)), (2, .long (ch_wd L j (i + 1))), (4, .int (nI ((8 * j + i) + 1)))] [2, 3, 1, 0] rfl ?_
                exact ih (i + 1) (by omega)
              · skip
                have h5 : 8 * j + i < L.length := Nat.lt_of_not_le (fun q => h4 ((nI_leI (by omega) (by omega)).mpr q))
                refine gd_aload_n hX 66 dd_Mo_code_66 rfl ?_
                refine gd_get hX inC_Mo 0 5 67 dd_Mo_code_67 rfl rfl (by decide) kw_413 rfl ?_
                refine gd_iload hX 70 dd_Mo_code_70 rfl ?_
                refine gd_iald hX 1 (8 * j + i) 72 dd_Mo_code_72 rfl rfl (by omega) (by decide) ?_
                refine gd_eqi (show (mf (8 * j + i) : Int32) = nI (L.getD (8 * j + i) 0) from hI _ h5) ?_
                refine gd_goto hX 73 77 dd_Mo_code_73 (by decide) ?_
                refine gd_i2l hX 77 dd_Mo_code_77 ?_
                refine gd_lor hX 78 dd_Mo_code_78 ?_
                refine gd_eql (show (((ch_wd L j i) <<< ((8 : Int32).toInt64 &&& 63)) ||| ((nI (L.getD (8 * j + i) 0)).toInt64) : Int64) = ch_wd L j (i + 1) from rfl) ?_
                refine gd_lstore_n hX [(2, .long (ch_wd L j (i + 1))), (0, .ref h), (1, .int (nI j)), (4, .int (nI (8 * j + i)))] 79 dd_Mo_code_79 rfl (by decide) rfl ?_
                refine gd_iinc hX 3 [(4, .int (nI ((8 * j + i) + 1))), (2, .long (ch_wd L j (i + 1))), (0, .ref h), (1, .int (nI j))] 80 dd_Mo_code_80 rfl (gd_inc (8 * j + i)) (by decide) rfl ?_
                refine gd_goto hX 83 41 dd_Mo_code_83 (by decide) ?_
                show gd_W X K 0 0 [gd_ob 5 h [.int 0, .ref va, .ref re, .ref fu, .ref wi, .ref ma, .ref wo, .ref fd, .int (nI L.length), .int wm, .int mn, .int pl], gd_aI K ma 720 mf] [(4, .int (nI ((8 * j + i) + 1))), (2, .long (ch_wd L j (i + 1))), (0, .ref h), (1, .int (nI j))] [] 41
                refine gd_lvs [(0, .ref h), (1, .int (nI j)), (2, .long (ch_wd L j (i + 1))), (4, .int (nI ((8 * j + i) + 1)))] [2, 3, 1, 0] rfl ?_
                exact ih (i + 1) (by omega)
        refine gd_lconst hX 33 dd_Mo_code_33 (v := 0) (by decide) ?_
        refine gd_eql (show (0 : Int64) = ch_wd L j 0 from rfl) ?_
        refine gd_lstore_n hX [(2, .long (ch_wd L j 0)), (0, .ref h), (1, .int (nI j))] 34 dd_Mo_code_34 rfl (by decide) rfl ?_
        refine gd_bipush hX 35 dd_Mo_code_35 (v := 8) (by decide) ?_
        refine gd_iload_n hX 37 dd_Mo_code_37 rfl ?_
        refine gd_imul hX 38 dd_Mo_code_38 ?_
        refine gd_eqi (show (8 * (nI j) : Int32) = nI (8 * j + 0) from by rw [show (8 : Int32) = nI 8 from rfl, pk_mul]; rfl) ?_
        refine gd_istore hX [(4, .int (nI (8 * j + 0))), (2, .long (ch_wd L j 0)), (0, .ref h), (1, .int (nI j))] 39 dd_Mo_code_39 (by decide) rfl ?_
        refine gd_lvs [(0, .ref h), (1, .int (nI j)), (2, .long (ch_wd L j 0)), (4, .int (nI (8 * j + 0)))] [2, 3, 1, 0] rfl ?_
        exact loop 8 0 rfl
      · skip
        exact absurd rfl h9
    · skip
      refine gd_iconst hX 19 dd_Mo_code_19 (v := 1) (by decide) ?_
      refine gd_goto hX 20 24 dd_Mo_code_20 (by decide) ?_
      refine gd_eqi (show (1 : Int32) = (if true then 1 else 0) from rfl) ?_
      refine gd_iconst hX 24 dd_Mo_code_24 (v := 1) (by decide) ?_
      refine gd_call hX (st := []) (wr := [gd_aI K ma 720 mf]) (ct_Mo_fails _ K h va re fu wi ma wo fd er (nI L.length) wm mn pl true 1) 25 dd_Mo_code_25 (gd_nV hX (As := [.int (if true then 1 else 0), .int 1]) kw_457 kw_459 kw_8 (gd_sigOf (n := 2) kw_460 (by decide)) (by decide) 0 rfl rfl rfl rfl dd_Mo_code_25) (gd_codeOf kw_460) (by decide) [0] [1] rfl rfl rfl rfl rfl (by decide) (Nat.le_of_ble_eq_true rfl) (Nat.le_of_ble_eq_true rfl) (Nat.le_of_ble_eq_true rfl) (Nat.le_of_ble_eq_true rfl) (fun v9 w9 h9 => ?_) (fun E9 w9 q9 h9 => h9.elim)
      obtain ⟨rfl, rfl⟩ := h9
      refine gd_wsp [gd_ob 5 h [.int (if true then 1 else 0), .ref va, .ref re, .ref fu, .ref wi, .ref ma, .ref wo, .ref fd, .int (nI L.length), .int wm, .int mn, .int pl], gd_aI K ma 720 mf] [1, 0] rfl rfl rfl ?_
      show gd_W X K 0 0 [gd_ob 5 h [.int (if true then 1 else 0), .ref va, .ref re, .ref fu, .ref wi, .ref ma, .ref wo, .ref fd, .int (nI L.length), .int wm, .int mn, .int pl], gd_aI K ma 720 mf] [(0, .ref h), (1, .int k)] [.int (if true then 1 else 0)] 28
      refine gd_if_eq hX 28 33 dd_Mo_code_28 (by decide) (fun h9 => ?_) (fun h9 => ?_)
      · skip
        exact absurd (show (1 : Int32) = 0 from h9) (by decide)
      · skip
        show gd_W X K 0 0 [gd_ob 5 h [.int 1, .ref va, .ref re, .ref fu, .ref wi, .ref ma, .ref wo, .ref fd, .int (nI L.length), .int wm, .int mn, .int pl], gd_aI K ma 720 mf] [(0, .ref h), (1, .int k)] [] 31
        refine gd_lconst hX 31 dd_Mo_code_31 (v := 0) (by decide) ?_
        exact gd_lret hX hE 32 dd_Mo_code_32 (Or.inl ⟨Or.inr (ch_nlt h2), rfl, rfl⟩)
set_option maxRecDepth 100000 in
set_option maxHeartbeats 4000000 in
theorem ct_Mo_feed (l : Launch) (K : gd_K) (h va re fu wi ma wo fd : Nat) (er mm wm mn pl : Int32) (L : List Nat) (ff : Nat → Int32) (x : Int64) (k : Int32) (hL : L.length ≤ 1000) (hI : ch_I ff L) : gd_M l yy_Mo_feed bb_Mo_feed 5 (some .int) [] 1 14 0 0 K [.ref h, .long x, .int k] [gd_ob 5 h [.int er, .ref va, .ref re, .ref fu, .ref wi, .ref ma, .ref wo, .ref fd, .int mm, .int wm, .int (nI L.length), .int pl], gd_aI K fd 1000 ff] (fun v9 w1 => ((k < 1 ∨ 8 < k) ∧ v9 = some (.int 0) ∧ w1 = [gd_ob 5 h [.int 1, .ref va, .ref re, .ref fu, .ref wi, .ref ma, .ref wo, .ref fd, .int mm, .int wm, .int (nI L.length), .int pl], gd_aI K fd 1000 ff]) ∨ (∃ n, 1 ≤ n ∧ n ≤ 8 ∧ k = nI n ∧ 1000 < L.length + n ∧ v9 = some (.int 0) ∧ w1 = [gd_ob 5 h [.int 2, .ref va, .ref re, .ref fu, .ref wi, .ref ma, .ref wo, .ref fd, .int mm, .int wm, .int (nI L.length), .int pl], gd_aI K fd 1000 ff]) ∨ ∃ n, 1 ≤ n ∧ n ≤ 8 ∧ k = nI n ∧ L.length + n ≤ 1000 ∧ v9 = some (.int (nI (L ++ (ch_fd x).take n).length)) ∧ ∃ ff', w1 = [gd_ob 5 h [.int 0, .ref va, .ref re, .ref fu, .ref wi, .ref ma, .ref wo, .ref fd, .int mm, .int wm, .int (nI (L ++ (ch_fd x).take n).length), .int pl], gd_aI K fd 1000 ff'] ∧ ch_I ff' (L ++ (ch_fd x).take n)) (fun _ _ => False) := by
  refine gd_body (Nat.le_of_ble_eq_true rfl) (fun X hXl hin hE hX => ?_)
  refine gd_aload_n hX 0 dd_Mo_feed_0 rfl ?_
  refine gd_iload_n hX 1 dd_Mo_feed_1 rfl ?_
  refine gd_iconst hX 2 dd_Mo_feed_2 (v := 1) (by decide) ?_
  refine gd_icmp_lt hX 3 12 dd_Mo_feed_3 (by decide) (fun h1 => ?_) (fun h1 => ?_)
  · skip
    refine gd_iconst hX 12 dd_Mo_feed_12 (v := 1) (by decide) ?_
    refine gd_goto hX 13 17 dd_Mo_feed_13 (by decide) ?_
    refine gd_eqi (show (1 : Int32) = (if true then 1 else 0) from rfl) ?_
    refine gd_iconst hX 17 dd_Mo_feed_17 (v := 1) (by decide) ?_
    refine gd_call hX (st := []) (wr := [gd_aI K fd 1000 ff]) (ct_Mo_fails _ K h va re fu wi ma wo fd er mm wm (nI L.length) pl true 1) 18 dd_Mo_feed_18 (gd_nV hX (As := [.int (if true then 1 else 0), .int 1]) kw_457 kw_459 kw_8 (gd_sigOf (n := 2) kw_460 (by decide)) (by decide) 0 rfl rfl rfl rfl dd_Mo_feed_18) (gd_codeOf kw_460) (by decide) [0] [1] rfl rfl rfl rfl rfl (by decide) (Nat.le_of_ble_eq_true rfl) (Nat.le_of_ble_eq_true rfl) (Nat.le_of_ble_eq_true rfl) (Nat.le_of_ble_eq_true rfl) (fun v9 w9 h9 => ?_) (fun E9 w9 q9 h9 => h9.elim)
    obtain ⟨rfl, rfl⟩ := h9
    refine gd_wsp [gd_ob 5 h [.int (if true then 1 else 0), .ref va, .ref re, .ref fu, .ref wi, .ref ma, .ref wo, .ref fd, .int mm, .int wm, .int (nI L.length), .int pl], gd_aI K fd 1000 ff] [1, 0] rfl rfl rfl ?_
    show gd_W X K 0 0 [gd_ob 5 h [.int (if true then 1 else 0), .ref va, .ref re, .ref fu, .ref wi, .ref ma, .ref wo, .ref fd, .int mm, .int wm, .int (nI L.length), .int pl], gd_aI K fd 1000 ff] [(0, .ref h), (1, .long x), (3, .int k)] [.int (if true then 1 else 0)] 21
    refine gd_if_eq hX 21 26 dd_Mo_feed_21 (by decide) (fun h9 => ?_) (fun h9 => ?_)
    · skip
      exact absurd (show (1 : Int32) = 0 from h9) (by decide)
    · skip
      show gd_W X K 0 0 [gd_ob 5 h [.int 1, .ref va, .ref re, .ref fu, .ref wi, .ref ma, .ref wo, .ref fd, .int mm, .int wm, .int (nI L.length), .int pl], gd_aI K fd 1000 ff] [(0, .ref h), (1, .long x), (3, .int k)] [] 24
      refine gd_iconst hX 24 dd_Mo_feed_24 (v := 0) (by decide) ?_
      exact gd_iret hX hE 25 dd_Mo_feed_25 (Or.inl ⟨Or.inl h1, rfl, rfl⟩)
  · skip
    refine gd_iload_n hX 6 dd_Mo_feed_6 rfl ?_
    refine gd_bipush hX 7 dd_Mo_feed_7 (v := 8) (by decide) ?_
    refine gd_icmp_le hX 9 16 dd_Mo_feed_9 (by decide) (fun h2 => ?_) (fun h2 => ?_)
    · skip
      obtain ⟨n, hn, rfl⟩ := nI_of (x := k) (fun q => h1 (Int32.lt_of_lt_of_le q (by decide)))
      have hn1 : 1 ≤ n := Nat.le_of_not_lt (fun q => h1 ((nI_ltI (b := 1) hn (by decide)).mpr q))
      have hn8 : n ≤ 8 := (nI_leI (b := 8) hn (by decide)).mp h2
      refine gd_iconst hX 16 dd_Mo_feed_16 (v := 0) (by decide) ?_
      refine gd_eqi (show (0 : Int32) = (if false then 1 else 0) from rfl) ?_
      refine gd_iconst hX 17 dd_Mo_feed_17 (v := 1) (by decide) ?_
      refine gd_call hX (st := []) (wr := [gd_aI K fd 1000 ff]) (ct_Mo_fails _ K h va re fu wi ma wo fd er mm wm (nI L.length) pl false 1) 18 dd_Mo_feed_18 (gd_nV hX (As := [.int (if false then 1 else 0), .int 1]) kw_457 kw_459 kw_8 (gd_sigOf (n := 2) kw_460 (by decide)) (by decide) 0 rfl rfl rfl rfl dd_Mo_feed_18) (gd_codeOf kw_460) (by decide) [0] [1] rfl rfl rfl rfl rfl (by decide) (Nat.le_of_ble_eq_true rfl) (Nat.le_of_ble_eq_true rfl) (Nat.le_of_ble_eq_true rfl) (Nat.le_of_ble_eq_true rfl) (fun v9 w9 h9 => ?_) (fun E9 w9 q9 h9 => h9.elim)
      obtain ⟨rfl, rfl⟩ := h9
      refine gd_wsp [gd_ob 5 h [.int (if false then 1 else 0), .ref va, .ref re, .ref fu, .ref wi, .ref ma, .ref wo, .ref fd, .int mm, .int wm, .int (nI L.length), .int pl], gd_aI K fd 1000 ff] [1, 0] rfl rfl rfl ?_
      show gd_W X K 0 0 [gd_ob 5 h [.int (if false then 1 else 0), .ref va, .ref re, .ref fu, .ref wi, .ref ma, .ref wo, .ref fd, .int mm, .int wm, .int (nI L.length), .int pl], gd_aI K fd 1000 ff] [(0, .ref h), (1, .long x), (3, .int (nI n))] [.int (if false then 1 else 0)] 21
      refine gd_if_eq hX 21 26 dd_Mo_feed_21 (by decide) (fun h9 => ?_) (fun h9 => ?_)
      · skip
        show gd_W X K 0 0 [gd_ob 5 h [.int 0, .ref va, .ref re, .ref fu, .ref wi, .ref ma, .ref wo, .ref fd, .int mm, .int wm, .int (nI L.length), .int pl], gd_aI K fd 1000 ff] [(0, .ref h), (1, .long x), (3, .int (nI n))] [] 26
        refine gd_aload_n hX 26 dd_Mo_feed_26 rfl ?_
        refine gd_aload_n hX 27 dd_Mo_feed_27 rfl ?_
        refine gd_get hX inC_Mo 0 10 28 dd_Mo_feed_28 rfl rfl (by decide) kw_418 rfl ?_
        refine gd_iload_n hX 31 dd_Mo_feed_31 rfl ?_
        refine gd_iadd hX 32 dd_Mo_feed_32 ?_
        refine gd_eqi (show ((nI L.length) + (nI n) : Int32) = nI (L.length + n) from nI_add _ _) ?_
        refine gd_sipush hX 33 dd_Mo_feed_33 (v := 1000) (by decide) ?_
        refine gd_icmp_le hX 36 43 dd_Mo_feed_36 (by decide) (fun h3 => ?_) (fun h3 => ?_)
        · skip
          have hle : L.length + n ≤ 1000 := (nI_leI (b := 1000) (by omega) (by decide)).mp h3
          refine gd_iconst hX 43 dd_Mo_feed_43 (v := 0) (by decide) ?_
          refine gd_eqi (show (0 : Int32) = (if false then 1 else 0) from rfl) ?_
          refine gd_iconst hX 44 dd_Mo_feed_44 (v := 2) (by decide) ?_
          refine gd_call hX (st := []) (wr := [gd_aI K fd 1000 ff]) (ct_Mo_fails _ K h va re fu wi ma wo fd 0 mm wm (nI L.length) pl false 2) 45 dd_Mo_feed_45 (gd_nV hX (As := [.int (if false then 1 else 0), .int 2]) kw_457 kw_459 kw_8 (gd_sigOf (n := 2) kw_460 (by decide)) (by decide) 0 rfl rfl rfl rfl dd_Mo_feed_45) (gd_codeOf kw_460) (by decide) [0] [1] rfl rfl rfl rfl rfl (by decide) (Nat.le_of_ble_eq_true rfl) (Nat.le_of_ble_eq_true rfl) (Nat.le_of_ble_eq_true rfl) (Nat.le_of_ble_eq_true rfl) (fun v9 w9 h9 => ?_) (fun E9 w9 q9 h9 => h9.elim)
          obtain ⟨rfl, rfl⟩ := h9
          refine gd_wsp [gd_ob 5 h [.int (if false then 2 else 0), .ref va, .ref re, .ref fu, .ref wi, .ref ma, .ref wo, .ref fd, .int mm, .int wm, .int (nI L.length), .int pl], gd_aI K fd 1000 ff] [1, 0] rfl rfl rfl ?_
          show gd_W X K 0 0 [gd_ob 5 h [.int (if false then 2 else 0), .ref va, .ref re, .ref fu, .ref wi, .ref ma, .ref wo, .ref fd, .int mm, .int wm, .int (nI L.length), .int pl], gd_aI K fd 1000 ff] [(0, .ref h), (1, .long x), (3, .int (nI n))] [.int (if false then 1 else 0)] 48
          refine gd_if_eq hX 48 53 dd_Mo_feed_48 (by decide) (fun h9 => ?_) (fun h9 => ?_)
          · skip
            show gd_W X K 0 0 [gd_ob 5 h [.int 0, .ref va, .ref re, .ref fu, .ref wi, .ref ma, .ref wo, .ref fd, .int mm, .int wm, .int (nI L.length), .int pl], gd_aI K fd 1000 ff] [(0, .ref h), (1, .long x), (3, .int (nI n))] [] 53
            have hfl := ch_fd_len x
            have loop : ∀ (m i : Nat) (ff : Nat → Int32), m + i = n → ch_I ff (L ++ (ch_fd x).take i) → gd_W X K 0 0 [gd_ob 5 h [.int 0, .ref va, .ref re, .ref fu, .ref wi, .ref ma, .ref wo, .ref fd, .int mm, .int wm, .int (nI (L ++ (ch_fd x).take i).length), .int pl], gd_aI K fd 1000 ff] [(0, .ref h), (1, .long x), (3, .int (nI n)), (4, .int (nI i))] [] 56 := by
              intro m
              induction m with
              | zero =>
                intro i ff hi hB
                obtain rfl : i = n := by omega
                refine gd_iload hX 56 dd_Mo_feed_56 rfl ?_
                refine gd_iload_n hX 58 dd_Mo_feed_58 rfl ?_
                refine gd_icmp_ge hX 59 99 dd_Mo_feed_59 (by decide) (fun h4 => ?_) (fun h4 => ?_)
                · skip
                  refine gd_aload_n hX 99 dd_Mo_feed_99 rfl ?_
                  refine gd_get hX inC_Mo 0 10 100 dd_Mo_feed_100 rfl rfl (by decide) kw_418 rfl ?_
                  exact gd_iret hX hE 103 dd_Mo_feed_103 (Or.inr (Or.inr ⟨i, hn1, hn8, rfl, hle, rfl, ff, rfl, hB⟩))
                · skip
                  exact absurd (Int32.le_refl _) h4
              | succ m ih =>
                intro i ff hi hB
                have hlen : (L ++ (ch_fd x).take i).length = L.length + i := by rw [List.length_append, List.length_take]; omega
                refine gd_iload hX 56 dd_Mo_feed_56 rfl ?_
                refine gd_iload_n hX 58 dd_Mo_feed_58 rfl ?_
                refine gd_icmp_ge hX 59 99 dd_Mo_feed_59 (by decide) (fun h4 => ?_) (fun h4 => ?_)
                · skip
                  exact absurd ((nI_leI (by omega) (by omega)).mp h4) (by omega)
                · skip
                  refine gd_aload_n hX 62 dd_Mo_feed_62 rfl ?_
                  refine gd_get hX inC_Mo 0 7 63 dd_Mo_feed_63 rfl rfl (by decide) kw_415 rfl ?_
                  refine gd_aload_n hX 66 dd_Mo_feed_66 rfl ?_
                  refine gd_dup hX 67 dd_Mo_feed_67 rfl ?_
                  refine gd_get hX inC_Mo 0 10 68 dd_Mo_feed_68 rfl rfl (by decide) kw_418 rfl ?_
                  refine gd_dup_x1 hX 71 dd_Mo_feed_71 rfl rfl ?_
                  refine gd_iconst hX 72 dd_Mo_feed_72 (v := 1) (by decide) ?_
                  refine gd_iadd hX 73 dd_Mo_feed_73 ?_
                  refine gd_eqi (show ((nI (L ++ (ch_fd x).take i).length) + 1 : Int32) = nI ((L ++ (ch_fd x).take i).length + 1) from nI_1 _) ?_
                  refine gd_put hX inC_Mo ty_Mo tyk_Mo nm_Mo 0 10 [gd_ob 5 h [.int 0, .ref va, .ref re, .ref fu, .ref wi, .ref ma, .ref wo, .ref fd, .int mm, .int wm, .int (nI ((L ++ (ch_fd x).take i).length + 1)), .int pl], gd_aI K fd 1000 ff] 74 dd_Mo_feed_74 rfl rfl (by decide) kw_418 rfl rfl rfl (Nat.le_of_ble_eq_true rfl) rfl ?_
                  refine gd_lload_n hX 77 dd_Mo_feed_77 rfl ?_
                  refine gd_bipush hX 78 dd_Mo_feed_78 (v := 56) (by decide) ?_
                  refine gd_bipush hX 80 dd_Mo_feed_80 (v := 8) (by decide) ?_
                  refine gd_iload hX 82 dd_Mo_feed_82 rfl ?_
                  refine gd_imul hX 84 dd_Mo_feed_84 ?_
                  refine gd_isub hX 85 dd_Mo_feed_85 ?_
                  refine gd_eqi (show (56 - (8 * (nI i)) : Int32) = nI (56 - 8 * i) from by rw [show (8 : Int32) = nI 8 from rfl, show (56 : Int32) = nI 56 from rfl, pk_mul, pk_sub (by omega)]) ?_
                  refine gd_lushr hX 86 dd_Mo_feed_86 ?_
                  refine gd_l2i hX 87 dd_Mo_feed_87 ?_
                  refine gd_sipush hX 88 dd_Mo_feed_88 (v := 255) (by decide) ?_
                  refine gd_iand hX 91 dd_Mo_feed_91 ?_
                  refine gd_eqi (show ((((x.toUInt64 >>> ((nI (56 - 8 * i)).toInt64.toUInt64 &&& Int64.toUInt64 63)).toInt64).toInt32) &&& 255 : Int32) = nI (uN x / 2 ^ (56 - 8 * i) % 256) from by rw [ch_low, uN_sk x (by omega)]) ?_
                  refine gd_iast hX 1 ((L ++ (ch_fd x).take i).length) [gd_ob 5 h [.int 0, .ref va, .ref re, .ref fu, .ref wi, .ref ma, .ref wo, .ref fd, .int mm, .int wm, .int (nI ((L ++ (ch_fd x).take i).length + 1)), .int pl], gd_aI K fd 1000 (upd ff ((L ++ (ch_fd x).take i).length) (nI (uN x / 2 ^ (56 - 8 * i) % 256)))] 92 dd_Mo_feed_92 rfl rfl (by omega) (by decide) rfl ?_
                  have hI2 := ch_I_add (x := nI (uN x / 2 ^ (56 - 8 * i) % 256)) hB rfl
                  have e9 : (L ++ (ch_fd x).take i) ++ [uN x / 2 ^ (56 - 8 * i) % 256] = (L ++ (ch_fd x).take (i + 1)) := by rw [List.append_assoc, ← ch_fd_step x (by omega)]
                  have e10 : nI ((L ++ (ch_fd x).take i).length + 1) = nI (L ++ (ch_fd x).take (i + 1)).length := by rw [← e9, ch_len1]
                  rw [e9] at hI2
                  rw [e10]
                  refine gd_iinc hX 3 [(4, .int (nI (i + 1))), (0, .ref h), (1, .long x), (3, .int (nI n))] 93 dd_Mo_feed_93 rfl (gd_inc i) (by decide) rfl ?_
                  refine gd_goto hX 96 56 dd_Mo_feed_96 (by decide) ?_
                  refine gd_lvs [(0, .ref h), (1, .long x), (3, .int (nI n)), (4, .int (nI (i + 1)))] [1, 2, 3, 0] rfl ?_
                  exact ih (i + 1) _ (by omega) hI2
            refine gd_iconst hX 53 dd_Mo_feed_53 (v := 0) (by decide) ?_
            refine gd_eqi (show (0 : Int32) = nI 0 from rfl) ?_
            refine gd_istore hX [(4, .int (nI 0)), (0, .ref h), (1, .long x), (3, .int (nI n))] 54 dd_Mo_feed_54 (by decide) rfl ?_
            refine gd_lvs [(0, .ref h), (1, .long x), (3, .int (nI n)), (4, .int (nI 0))] [1, 2, 3, 0] rfl ?_
            have e0 : L = (L ++ (ch_fd x).take 0) := by simp
            rw [e0] at hI
            have h9 := loop n 0 ff rfl hI
            rw [← e0] at h9
            exact h9
          · skip
            exact absurd rfl h9
        · skip
          have hle : 1000 < L.length + n := Nat.lt_of_not_le (fun q => h3 ((nI_leI (b := 1000) (by omega) (by decide)).mpr q))
          refine gd_iconst hX 39 dd_Mo_feed_39 (v := 1) (by decide) ?_
          refine gd_goto hX 40 44 dd_Mo_feed_40 (by decide) ?_
          refine gd_eqi (show (1 : Int32) = (if true then 1 else 0) from rfl) ?_
          refine gd_iconst hX 44 dd_Mo_feed_44 (v := 2) (by decide) ?_
          refine gd_call hX (st := []) (wr := [gd_aI K fd 1000 ff]) (ct_Mo_fails _ K h va re fu wi ma wo fd 0 mm wm (nI L.length) pl true 2) 45 dd_Mo_feed_45 (gd_nV hX (As := [.int (if true then 1 else 0), .int 2]) kw_457 kw_459 kw_8 (gd_sigOf (n := 2) kw_460 (by decide)) (by decide) 0 rfl rfl rfl rfl dd_Mo_feed_45) (gd_codeOf kw_460) (by decide) [0] [1] rfl rfl rfl rfl rfl (by decide) (Nat.le_of_ble_eq_true rfl) (Nat.le_of_ble_eq_true rfl) (Nat.le_of_ble_eq_true rfl) (Nat.le_of_ble_eq_true rfl) (fun v9 w9 h9 => ?_) (fun E9 w9 q9 h9 => h9.elim)
          obtain ⟨rfl, rfl⟩ := h9
          refine gd_wsp [gd_ob 5 h [.int (if true then 2 else 0), .ref va, .ref re, .ref fu, .ref wi, .ref ma, .ref wo, .ref fd, .int mm, .int wm, .int (nI L.length), .int pl], gd_aI K fd 1000 ff] [1, 0] rfl rfl rfl ?_
          show gd_W X K 0 0 [gd_ob 5 h [.int (if true then 2 else 0), .ref va, .ref re, .ref fu, .ref wi, .ref ma, .ref wo, .ref fd, .int mm, .int wm, .int (nI L.length), .int pl], gd_aI K fd 1000 ff] [(0, .ref h), (1, .long x), (3, .int (nI n))] [.int (if true then 1 else 0)] 48
          refine gd_if_eq hX 48 53 dd_Mo_feed_48 (by decide) (fun h9 => ?_) (fun h9 => ?_)
          · skip
            exact absurd (show (1 : Int32) = 0 from h9) (by decide)
          · skip
            show gd_W X K 0 0 [gd_ob 5 h [.int 2, .ref va, .ref re, .ref fu, .ref wi, .ref ma, .ref wo, .ref fd, .int mm, .int wm, .int (nI L.length), .int pl], gd_aI K fd 1000 ff] [(0, .ref h), (1, .long x), (3, .int (nI n))] [] 51
            refine gd_iconst hX 51 dd_Mo_feed_51 (v := 0) (by decide) ?_
            exact gd_iret hX hE 52 dd_Mo_feed_52 (Or.inr (Or.inl ⟨n, hn1, hn8, rfl, hle, rfl, rfl⟩))
      · skip
        exact absurd rfl h9
    · skip
      refine gd_iconst hX 12 dd_Mo_feed_12 (v := 1) (by decide) ?_
      refine gd_goto hX 13 17 dd_Mo_feed_13 (by decide) ?_
      refine gd_eqi (show (1 : Int32) = (if true then 1 else 0) from rfl) ?_
      refine gd_iconst hX 17 dd_Mo_feed_17 (v := 1) (by decide) ?_
      refine gd_call hX (st := []) (wr := [gd_aI K fd 1000 ff]) (ct_Mo_fails _ K h va re fu wi ma wo fd er mm wm (nI L.length) pl true 1) 18 dd_Mo_feed_18 (gd_nV hX (As := [.int (if true then 1 else 0), .int 1]) kw_457 kw_459 kw_8 (gd_sigOf (n := 2) kw_460 (by decide)) (by decide) 0 rfl rfl rfl rfl dd_Mo_feed_18) (gd_codeOf kw_460) (by decide) [0] [1] rfl rfl rfl rfl rfl (by decide) (Nat.le_of_ble_eq_true rfl) (Nat.le_of_ble_eq_true rfl) (Nat.le_of_ble_eq_true rfl) (Nat.le_of_ble_eq_true rfl) (fun v9 w9 h9 => ?_) (fun E9 w9 q9 h9 => h9.elim)
      obtain ⟨rfl, rfl⟩ := h9
      refine gd_wsp [gd_ob 5 h [.int (if true then 1 else 0), .ref va, .ref re, .ref fu, .ref wi, .ref ma, .ref wo, .ref fd, .int mm, .int wm, .int (nI L.length), .int pl], gd_aI K fd 1000 ff] [1, 0] rfl rfl rfl ?_
      show gd_W X K 0 0 [gd_ob 5 h [.int (if true then 1 else 0), .ref va, .ref re, .ref fu, .ref wi, .ref ma, .ref wo, .ref fd, .int mm, .int wm, .int (nI L.length), .int pl], gd_aI K fd 1000 ff] [(0, .ref h), (1, .long x), (3, .int k)] [.int (if true then 1 else 0)] 21
      refine gd_if_eq hX 21 26 dd_Mo_feed_21 (by decide) (fun h9 => ?_) (fun h9 => ?_)
      · skip
        exact absurd (show (1 : Int32) = 0 from h9) (by decide)
      · skip
        show gd_W X K 0 0 [gd_ob 5 h [.int 1, .ref va, .ref re, .ref fu, .ref wi, .ref ma, .ref wo, .ref fd, .int mm, .int wm, .int (nI L.length), .int pl], gd_aI K fd 1000 ff] [(0, .ref h), (1, .long x), (3, .int k)] [] 24
        refine gd_iconst hX 24 dd_Mo_feed_24 (v := 0) (by decide) ?_
        exact gd_iret hX hE 25 dd_Mo_feed_25 (Or.inl ⟨Or.inr (ch_nle h2), rfl, rfl⟩)
set_option maxRecDepth 100000 in
set_option maxHeartbeats 4000000 in
theorem ct_Mo_wrong (l : Launch) (K : gd_K) (h va re fu wi ma wo fd : Nat) (er mm wm mn pl : Int32) : gd_M l yy_Mo_wrong bb_Mo_wrong 1 (some .int) [] 0 0 0 0 K [.ref h] [gd_ob 5 h [.int er, .ref va, .ref re, .ref fu, .ref wi, .ref ma, .ref wo, .ref fd, .int mm, .int wm, .int mn, .int pl]] (fun v w1 => v = some (.int pl) ∧ w1 = [gd_ob 5 h [.int 0, .ref va, .ref re, .ref fu, .ref wi, .ref ma, .ref wo, .ref fd, .int mm, .int wm, .int mn, .int pl]]) (fun _ _ => False) := by
  refine gd_body (Nat.le_of_ble_eq_true rfl) (fun X hXl hin hE hX => ?_)
  refine gd_aload_n hX 0 dd_Mo_wrong_0 rfl ?_
  refine gd_iconst hX 1 dd_Mo_wrong_1 (v := 0) (by decide) ?_
  refine gd_put hX inC_Mo ty_Mo tyk_Mo nm_Mo 0 0 [gd_ob 5 h [.int 0, .ref va, .ref re, .ref fu, .ref wi, .ref ma, .ref wo, .ref fd, .int mm, .int wm, .int mn, .int pl]] 2 dd_Mo_wrong_2 rfl rfl (by decide) kw_408 rfl rfl rfl (Nat.le_of_ble_eq_true rfl) rfl ?_
  refine gd_aload_n hX 5 dd_Mo_wrong_5 rfl ?_
  refine gd_get hX inC_Mo 0 11 6 dd_Mo_wrong_6 rfl rfl (by decide) kw_419 rfl ?_
  exact gd_iret hX hE 9 dd_Mo_wrong_9 ⟨rfl, rfl⟩
set_option maxRecDepth 100000 in
set_option maxHeartbeats 4000000 in
theorem ct_Mo_count (l : Launch) (K : gd_K) (h va re fu wi ma wo fd : Nat) (er mm wm mn pl : Int32) (w : Int64) (f vf : Nat → Int64) (uf : Nat → Int32) (hM : ch_M w f vf uf) (wk : Nat → Int32) (Lf Lm : List Nat) (k : Int32) : gd_M l yy_Mo_count bb_Mo_count 5 (some .int) [] 2 38 0 0 K [.ref h, .int k] [gd_ob 5 h [.int er, .ref va, .ref re, .ref fu, .ref wi, .ref ma, .ref wo, .ref fd, .int (nI Lm.length), .int wm, .int (nI Lf.length), .int pl], gd_aJ K va 64 vf, gd_aZ K fu 64 uf, gd_aI K wo 720 wk] (fun v9 w1 => ((k < 0 ∨ 4 < k) ∧ v9 = some (.int 0) ∧ w1 = [gd_ob 5 h [.int 1, .ref va, .ref re, .ref fu, .ref wi, .ref ma, .ref wo, .ref fd, .int (nI Lm.length), .int wm, .int (nI Lf.length), .int pl], gd_aJ K va 64 vf, gd_aZ K fu 64 uf, gd_aI K wo 720 wk]) ∨ ∃ j, j < 5 ∧ k = nI j ∧ v9 = some (.int (nI (ch_ct w f Lf Lm j))) ∧ ∃ wk', w1 = [gd_ob 5 h [.int 0, .ref va, .ref re, .ref fu, .ref wi, .ref ma, .ref wo, .ref fd, .int (nI Lm.length), .int (nI (ch_code w f).length), .int (nI Lf.length), .int pl], gd_aJ K va 64 vf, gd_aZ K fu 64 uf, gd_aI K wo 720 wk']) (fun _ _ => False) := by
  refine gd_body (Nat.le_of_ble_eq_true rfl) (fun X hXl hin hE hX => ?_)
  refine gd_aload_n hX 0 dd_Mo_count_0 rfl ?_
  refine gd_iload_n hX 1 dd_Mo_count_1 rfl ?_
  refine gd_if_lt hX 2 10 dd_Mo_count_2 (by decide) (fun h1 => ?_) (fun h1 => ?_)
  · skip
    refine gd_iconst hX 10 dd_Mo_count_10 (v := 1) (by decide) ?_
    refine gd_goto hX 11 15 dd_Mo_count_11 (by decide) ?_
    refine gd_eqi (show (1 : Int32) = (if true then 1 else 0) from rfl) ?_
    refine gd_iconst hX 15 dd_Mo_count_15 (v := 1) (by decide) ?_
    refine gd_call hX (st := []) (wr := [gd_aJ K va 64 vf, gd_aZ K fu 64 uf, gd_aI K wo 720 wk]) (ct_Mo_fails _ K h va re fu wi ma wo fd er (nI Lm.length) wm (nI Lf.length) pl true 1) 16 dd_Mo_count_16 (gd_nV hX (As := [.int (if true then 1 else 0), .int 1]) kw_457 kw_459 kw_8 (gd_sigOf (n := 2) kw_460 (by decide)) (by decide) 0 rfl rfl rfl rfl dd_Mo_count_16) (gd_codeOf kw_460) (by decide) [0] [1, 2, 3] rfl rfl rfl rfl rfl (by decide) (Nat.le_of_ble_eq_true rfl) (Nat.le_of_ble_eq_true rfl) (Nat.le_of_ble_eq_true rfl) (Nat.le_of_ble_eq_true rfl) (fun v9 w9 h9 => ?_) (fun E9 w9 q9 h9 => h9.elim)
    obtain ⟨rfl, rfl⟩ := h9
    refine gd_wsp [gd_ob 5 h [.int (if true then 1 else 0), .ref va, .ref re, .ref fu, .ref wi, .ref ma, .ref wo, .ref fd, .int (nI Lm.length), .int wm, .int (nI Lf.length), .int pl], gd_aJ K va 64 vf, gd_aZ K fu 64 uf, gd_aI K wo 720 wk] [3, 0, 1, 2] rfl rfl rfl ?_
    show gd_W X K 0 0 [gd_ob 5 h [.int (if true then 1 else 0), .ref va, .ref re, .ref fu, .ref wi, .ref ma, .ref wo, .ref fd, .int (nI Lm.length), .int wm, .int (nI Lf.length), .int pl], gd_aJ K va 64 vf, gd_aZ K fu 64 uf, gd_aI K wo 720 wk] [(0, .ref h), (1, .int k)] [.int (if true then 1 else 0)] 19
    refine gd_if_eq hX 19 24 dd_Mo_count_19 (by decide) (fun h9 => ?_) (fun h9 => ?_)
    · skip
      exact absurd (show (1 : Int32) = 0 from h9) (by decide)
    · skip
      show gd_W X K 0 0 [gd_ob 5 h [.int 1, .ref va, .ref re, .ref fu, .ref wi, .ref ma, .ref wo, .ref fd, .int (nI Lm.length), .int wm, .int (nI Lf.length), .int pl], gd_aJ K va 64 vf, gd_aZ K fu 64 uf, gd_aI K wo 720 wk] [(0, .ref h), (1, .int k)] [] 22
      refine gd_iconst hX 22 dd_Mo_count_22 (v := 0) (by decide) ?_
      exact gd_iret hX hE 23 dd_Mo_count_23 (Or.inl ⟨Or.inl h1, rfl, rfl⟩)
  · skip
    refine gd_iload_n hX 5 dd_Mo_count_5 rfl ?_
    refine gd_iconst hX 6 dd_Mo_count_6 (v := 4) (by decide) ?_
    refine gd_icmp_le hX 7 14 dd_Mo_count_7 (by decide) (fun h2 => ?_) (fun h2 => ?_)
    · skip
      obtain ⟨j, hj5, rfl⟩ : ∃ j, j < 5 ∧ k = nI j := by
        obtain ⟨j, hj, rfl⟩ := nI_of (x := k) h1
        have := (nI_leI (b := 4) hj (by decide)).mp h2
        exact ⟨j, by omega, rfl⟩
      refine gd_iconst hX 14 dd_Mo_count_14 (v := 0) (by decide) ?_
      refine gd_eqi (show (0 : Int32) = (if false then 1 else 0) from rfl) ?_
      refine gd_iconst hX 15 dd_Mo_count_15 (v := 1) (by decide) ?_
      refine gd_call hX (st := []) (wr := [gd_aJ K va 64 vf, gd_aZ K fu 64 uf, gd_aI K wo 720 wk]) (ct_Mo_fails _ K h va re fu wi ma wo fd er (nI Lm.length) wm (nI Lf.length) pl false 1) 16 dd_Mo_count_16 (gd_nV hX (As := [.int (if false then 1 else 0), .int 1]) kw_457 kw_459 kw_8 (gd_sigOf (n := 2) kw_460 (by decide)) (by decide) 0 rfl rfl rfl rfl dd_Mo_count_16) (gd_codeOf kw_460) (by decide) [0] [1, 2, 3] rfl rfl rfl rfl rfl (by decide) (Nat.le_of_ble_eq_true rfl) (Nat.le_of_ble_eq_true rfl) (Nat.le_of_ble_eq_true rfl) (Nat.le_of_ble_eq_true rfl) (fun v9 w9 h9 => ?_) (fun E9 w9 q9 h9 => h9.elim)
      obtain ⟨rfl, rfl⟩ := h9
      refine gd_wsp [gd_ob 5 h [.int (if false then 1 else 0), .ref va, .ref re, .ref fu, .ref wi, .ref ma, .ref wo, .ref fd, .int (nI Lm.length), .int wm, .int (nI Lf.length), .int pl], gd_aJ K va 64 vf, gd_aZ K fu 64 uf, gd_aI K wo 720 wk] [3, 0, 1, 2] rfl rfl rfl ?_
      show gd_W X K 0 0 [gd_ob 5 h [.int (if false then 1 else 0), .ref va, .ref re, .ref fu, .ref wi, .ref ma, .ref wo, .ref fd, .int (nI Lm.length), .int wm, .int (nI Lf.length), .int pl], gd_aJ K va 64 vf, gd_aZ K fu 64 uf, gd_aI K wo 720 wk] [(0, .ref h), (1, .int (nI j))] [.int (if false then 1 else 0)] 19
      refine gd_if_eq hX 19 24 dd_Mo_count_19 (by decide) (fun h9 => ?_) (fun h9 => ?_)
      · skip
        show gd_W X K 0 0 [gd_ob 5 h [.int 0, .ref va, .ref re, .ref fu, .ref wi, .ref ma, .ref wo, .ref fd, .int (nI Lm.length), .int wm, .int (nI Lf.length), .int pl], gd_aJ K va 64 vf, gd_aZ K fu 64 uf, gd_aI K wo 720 wk] [(0, .ref h), (1, .int (nI j))] [] 24
        refine gd_iconst hX 24 dd_Mo_count_24 (v := 0) (by decide) ?_
        refine gd_eqi (show (0 : Int32) = nI 0 from rfl) ?_
        refine gd_istore_n hX [(2, .int (nI 0)), (0, .ref h), (1, .int (nI j))] 25 dd_Mo_count_25 rfl (by decide) rfl ?_
        refine gd_aload_n hX 26 dd_Mo_count_26 rfl ?_
        refine gd_call hX (st := []) (wr := []) (ct_Mo_lay _ K h va re fu wi ma wo fd 0 (nI Lm.length) wm (nI Lf.length) pl w f vf uf hM wk) 27 dd_Mo_count_27 (gd_nV hX (As := []) kw_477 kw_479 kw_9 (gd_sigOf (n := 0) kw_480 (by decide)) (by decide) 0 rfl rfl rfl rfl dd_Mo_count_27) (gd_codeOf kw_480) (by decide) [0, 1, 2, 3] [] rfl rfl rfl rfl rfl (by decide) (Nat.le_of_ble_eq_true rfl) (Nat.le_of_ble_eq_true rfl) (Nat.le_of_ble_eq_true rfl) (Nat.le_of_ble_eq_true rfl) (fun v9 w9 h9 => ?_) (fun E9 w9 q9 h9 => h9.elim)
        obtain ⟨rfl, wk1, rfl, hI⟩ := h9
        show gd_W X K 0 0 [gd_ob 5 h [.int 0, .ref va, .ref re, .ref fu, .ref wi, .ref ma, .ref wo, .ref fd, .int (nI Lm.length), .int (nI (ch_code w f).length), .int (nI Lf.length), .int pl], gd_aJ K va 64 vf, gd_aZ K fu 64 uf, gd_aI K wo 720 wk1] [(2, .int (nI 0)), (0, .ref h), (1, .int (nI j))] [.int (nI (ch_runs w f 64).length)] 30
        refine gd_istore_n hX [(3, .int (nI (ch_runs w f 64).length)), (2, .int (nI 0)), (0, .ref h), (1, .int (nI j))] 30 dd_Mo_count_30 rfl (by decide) rfl ?_
        refine gd_iconst hX 31 dd_Mo_count_31 (v := 0) (by decide) ?_
        refine gd_eqi (show (0 : Int32) = nI 0 from rfl) ?_
        have loop : ∀ (m i : Nat), m + i = 64 → gd_W X K 0 0 [gd_ob 5 h [.int 0, .ref va, .ref re, .ref fu, .ref wi, .ref ma, .ref wo, .ref fd, .int (nI Lm.length), .int (nI (ch_code w f).length), .int (nI Lf.length), .int pl], gd_aJ K va 64 vf, gd_aZ K fu 64 uf, gd_aI K wo 720 wk1] [(0, .ref h), (1, .int (nI j)), (2, .int (nI (ch_pop w i))), (3, .int (nI (ch_runs w f 64).length)), (4, .int (nI i))] [] 34 := by
          intro m
          induction m with
          | zero =>
            intro i hi
            obtain rfl : i = 64 := by omega
            refine gd_iload hX 34 dd_Mo_count_34 rfl ?_
            refine gd_bipush hX 36 dd_Mo_count_36 (v := 64) (by decide) ?_
            refine gd_icmp_ge hX 38 60 dd_Mo_count_38 (by decide) (fun h3 => ?_) (fun h3 => ?_)
            · skip
              rcases (show j = 0 ∨ j = 1 ∨ j = 2 ∨ j = 3 ∨ j = 4 by omega) with rfl | rfl | rfl | rfl | rfl
              · skip
                refine gd_iload_n hX 60 dd_Mo_count_60 rfl ?_
                refine gd_if_ne hX 61 68 dd_Mo_count_61 (by decide) (fun h7 => ?_) (fun h7 => ?_)
                · skip
                  exact absurd rfl h7
                · skip
                  refine gd_iload_n hX 64 dd_Mo_count_64 rfl ?_
                  refine gd_goto hX 65 105 dd_Mo_count_65 (by decide) ?_
                  exact gd_iret hX hE 105 dd_Mo_count_105 (Or.inr ⟨0, by decide, rfl, rfl, wk1, rfl⟩)
              · skip
                refine gd_iload_n hX 60 dd_Mo_count_60 rfl ?_
                refine gd_if_ne hX 61 68 dd_Mo_count_61 (by decide) (fun h7 => ?_) (fun h7 => ?_)
                · skip
                  refine gd_iload_n hX 68 dd_Mo_count_68 rfl ?_
                  refine gd_iconst hX 69 dd_Mo_count_69 (v := 1) (by decide) ?_
                  refine gd_icmp_ne hX 70 77 dd_Mo_count_70 (by decide) (fun h7 => ?_) (fun h7 => ?_)
                  · skip
                    exact absurd rfl h7
                  · skip
                    refine gd_iload_n hX 73 dd_Mo_count_73 rfl ?_
                    refine gd_goto hX 74 105 dd_Mo_count_74 (by decide) ?_
                    exact gd_iret hX hE 105 dd_Mo_count_105 (Or.inr ⟨1, by decide, rfl, rfl, wk1, rfl⟩)
                · skip
                  exact absurd h7 (by decide)
              · skip
                refine gd_iload_n hX 60 dd_Mo_count_60 rfl ?_
                refine gd_if_ne hX 61 68 dd_Mo_count_61 (by decide) (fun h7 => ?_) (fun h7 => ?_)
                · skip
                  refine gd_iload_n hX 68 dd_Mo_count_68 rfl ?_
                  refine gd_iconst hX 69 dd_Mo_count_69 (v := 1) (by decide) ?_
                  refine gd_icmp_ne hX 70 77 dd_Mo_count_70 (by decide) (fun h7 => ?_) (fun h7 => ?_)
                  · skip
                    refine gd_iload_n hX 77 dd_Mo_count_77 rfl ?_
                    refine gd_iconst hX 78 dd_Mo_count_78 (v := 2) (by decide) ?_
                    refine gd_icmp_ne hX 79 89 dd_Mo_count_79 (by decide) (fun h7 => ?_) (fun h7 => ?_)
                    · skip
                      exact absurd rfl h7
                    · skip
                      refine gd_aload_n hX 82 dd_Mo_count_82 rfl ?_
                      refine gd_get hX inC_Mo 0 10 83 dd_Mo_count_83 rfl rfl (by decide) kw_418 rfl ?_
                      refine gd_goto hX 86 105 dd_Mo_count_86 (by decide) ?_
                      exact gd_iret hX hE 105 dd_Mo_count_105 (Or.inr ⟨2, by decide, rfl, rfl, wk1, rfl⟩)
                  · skip
                    exact absurd h7 (by decide)
                · skip
                  exact absurd h7 (by decide)
              · skip
                refine gd_iload_n hX 60 dd_Mo_count_60 rfl ?_
                refine gd_if_ne hX 61 68 dd_Mo_count_61 (by decide) (fun h7 => ?_) (fun h7 => ?_)
                · skip
                  refine gd_iload_n hX 68 dd_Mo_count_68 rfl ?_
                  refine gd_iconst hX 69 dd_Mo_count_69 (v := 1) (by decide) ?_
                  refine gd_icmp_ne hX 70 77 dd_Mo_count_70 (by decide) (fun h7 => ?_) (fun h7 => ?_)
                  · skip
                    refine gd_iload_n hX 77 dd_Mo_count_77 rfl ?_
                    refine gd_iconst hX 78 dd_Mo_count_78 (v := 2) (by decide) ?_
                    refine gd_icmp_ne hX 79 89 dd_Mo_count_79 (by decide) (fun h7 => ?_) (fun h7 => ?_)
                    · skip
                      refine gd_iload_n hX 89 dd_Mo_count_89 rfl ?_
                      refine gd_iconst hX 90 dd_Mo_count_90 (v := 3) (by decide) ?_
                      refine gd_icmp_ne hX 91 101 dd_Mo_count_91 (by decide) (fun h7 => ?_) (fun h7 => ?_)
                      · skip
                        exact absurd rfl h7
                      · skip
                        refine gd_aload_n hX 94 dd_Mo_count_94 rfl ?_
                        refine gd_get hX inC_Mo 0 8 95 dd_Mo_count_95 rfl rfl (by decide) kw_416 rfl ?_
                        refine gd_goto hX 98 105 dd_Mo_count_98 (by decide) ?_
                        exact gd_iret hX hE 105 dd_Mo_count_105 (Or.inr ⟨3, by decide, rfl, rfl, wk1, rfl⟩)
                    · skip
                      exact absurd h7 (by decide)
                  · skip
                    exact absurd h7 (by decide)
                · skip
                  exact absurd h7 (by decide)
              · skip
                refine gd_iload_n hX 60 dd_Mo_count_60 rfl ?_
                refine gd_if_ne hX 61 68 dd_Mo_count_61 (by decide) (fun h7 => ?_) (fun h7 => ?_)
                · skip
                  refine gd_iload_n hX 68 dd_Mo_count_68 rfl ?_
                  refine gd_iconst hX 69 dd_Mo_count_69 (v := 1) (by decide) ?_
                  refine gd_icmp_ne hX 70 77 dd_Mo_count_70 (by decide) (fun h7 => ?_) (fun h7 => ?_)
                  · skip
                    refine gd_iload_n hX 77 dd_Mo_count_77 rfl ?_
                    refine gd_iconst hX 78 dd_Mo_count_78 (v := 2) (by decide) ?_
                    refine gd_icmp_ne hX 79 89 dd_Mo_count_79 (by decide) (fun h7 => ?_) (fun h7 => ?_)
                    · skip
                      refine gd_iload_n hX 89 dd_Mo_count_89 rfl ?_
                      refine gd_iconst hX 90 dd_Mo_count_90 (v := 3) (by decide) ?_
                      refine gd_icmp_ne hX 91 101 dd_Mo_count_91 (by decide) (fun h7 => ?_) (fun h7 => ?_)
                      · skip
                        refine gd_aload_n hX 101 dd_Mo_count_101 rfl ?_
                        refine gd_get hX inC_Mo 0 9 102 dd_Mo_count_102 rfl rfl (by decide) kw_417 rfl ?_
                        exact gd_iret hX hE 105 dd_Mo_count_105 (Or.inr ⟨4, by decide, rfl, by rw [ch_ct4], wk1, rfl⟩)
                      · skip
                        exact absurd h7 (by decide)
                    · skip
                      exact absurd h7 (by decide)
                  · skip
                    exact absurd h7 (by decide)
                · skip
                  exact absurd h7 (by decide)
            · skip
              exact absurd (by decide) h3
          | succ m ih =>
            intro i hi
            have hm := hM i (by omega)
            refine gd_iload hX 34 dd_Mo_count_34 rfl ?_
            refine gd_bipush hX 36 dd_Mo_count_36 (v := 64) (by decide) ?_
            refine gd_icmp_ge hX 38 60 dd_Mo_count_38 (by decide) (fun h3 => ?_) (fun h3 => ?_)
            · skip
              exact absurd ((nI_leI (a := 64) (by decide) (by omega)).mp h3) (by omega)
            · skip
              refine gd_aload_n hX 41 dd_Mo_count_41 rfl ?_
              refine gd_get hX inC_Mo 0 3 42 dd_Mo_count_42 rfl rfl (by decide) kw_411 rfl ?_
              refine gd_iload hX 45 dd_Mo_count_45 rfl ?_
              refine gd_zald hX 2 i 47 dd_Mo_count_47 rfl rfl (by omega) (by decide) ?_
              refine gd_eqi (show (uf i : Int32) = (if ch_bit w i then 1 else 0) from hm.1) ?_
              refine gd_if_eq hX 48 54 dd_Mo_count_48 (by decide) (fun h4 => ?_) (fun h4 => ?_)
              · skip
                have h5 := (ch_ib _).mp h4
                have h6 : ch_pop w (i + 1) = ch_pop w i := by show ch_pop w i + (if ch_bit w i = true then 1 else 0) = _; rw [h5]; rfl
                refine gd_iinc hX 4 [(4, .int (nI (i + 1))), (0, .ref h), (1, .int (nI j)), (2, .int (nI (ch_pop w i))), (3, .int (nI (ch_runs w f 64).length))] 54 dd_Mo_count_54 rfl (gd_inc i) (by decide) rfl ?_
                refine gd_goto hX 57 34 dd_Mo_count_57 (by decide) ?_
                refine gd_lvs [(0, .ref h), (1, .int (nI j)), (2, .int (nI (ch_pop w i))), (3, .int (nI (ch_runs w f 64).length)), (4, .int (nI (i + 1)))] [1, 2, 3, 4, 0] rfl ?_
                rw [← h6]
                exact ih (i + 1) (by omega)
              · skip
                have h5 := (ch_ifb _).mp h4
                have h6 : ch_pop w (i + 1) = ch_pop w i + 1 := by show ch_pop w i + (if ch_bit w i = true then 1 else 0) = _; rw [h5]; rfl
                refine gd_iinc hX 2 [(2, .int (nI ((ch_pop w i) + 1))), (0, .ref h), (1, .int (nI j)), (3, .int (nI (ch_runs w f 64).length)), (4, .int (nI i))] 51 dd_Mo_count_51 rfl (gd_inc (ch_pop w i)) (by decide) rfl ?_
                refine gd_iinc hX 4 [(4, .int (nI (i + 1))), (2, .int (nI ((ch_pop w i) + 1))), (0, .ref h), (1, .int (nI j)), (3, .int (nI (ch_runs w f 64).length))] 54 dd_Mo_count_54 rfl (gd_inc i) (by decide) rfl ?_
                refine gd_goto hX 57 34 dd_Mo_count_57 (by decide) ?_
                refine gd_lvs [(0, .ref h), (1, .int (nI j)), (2, .int (nI ((ch_pop w i) + 1))), (3, .int (nI (ch_runs w f 64).length)), (4, .int (nI (i + 1)))] [2, 3, 1, 4, 0] rfl ?_
                rw [← h6]
                exact ih (i + 1) (by omega)
        refine gd_istore hX [(4, .int (nI 0)), (3, .int (nI (ch_runs w f 64).length)), (2, .int (nI 0)), (0, .ref h), (1, .int (nI j))] 32 dd_Mo_count_32 (by decide) rfl ?_
        refine gd_lvs [(0, .ref h), (1, .int (nI j)), (2, .int (nI 0)), (3, .int (nI (ch_runs w f 64).length)), (4, .int (nI 0))] [3, 4, 2, 1, 0] rfl ?_
        exact loop 64 0 rfl
      · skip
        exact absurd rfl h9
    · skip
      refine gd_iconst hX 10 dd_Mo_count_10 (v := 1) (by decide) ?_
      refine gd_goto hX 11 15 dd_Mo_count_11 (by decide) ?_
      refine gd_eqi (show (1 : Int32) = (if true then 1 else 0) from rfl) ?_
      refine gd_iconst hX 15 dd_Mo_count_15 (v := 1) (by decide) ?_
      refine gd_call hX (st := []) (wr := [gd_aJ K va 64 vf, gd_aZ K fu 64 uf, gd_aI K wo 720 wk]) (ct_Mo_fails _ K h va re fu wi ma wo fd er (nI Lm.length) wm (nI Lf.length) pl true 1) 16 dd_Mo_count_16 (gd_nV hX (As := [.int (if true then 1 else 0), .int 1]) kw_457 kw_459 kw_8 (gd_sigOf (n := 2) kw_460 (by decide)) (by decide) 0 rfl rfl rfl rfl dd_Mo_count_16) (gd_codeOf kw_460) (by decide) [0] [1, 2, 3] rfl rfl rfl rfl rfl (by decide) (Nat.le_of_ble_eq_true rfl) (Nat.le_of_ble_eq_true rfl) (Nat.le_of_ble_eq_true rfl) (Nat.le_of_ble_eq_true rfl) (fun v9 w9 h9 => ?_) (fun E9 w9 q9 h9 => h9.elim)
      obtain ⟨rfl, rfl⟩ := h9
      refine gd_wsp [gd_ob 5 h [.int (if true then 1 else 0), .ref va, .ref re, .ref fu, .ref wi, .ref ma, .ref wo, .ref fd, .int (nI Lm.length), .int wm, .int (nI Lf.length), .int pl], gd_aJ K va 64 vf, gd_aZ K fu 64 uf, gd_aI K wo 720 wk] [3, 0, 1, 2] rfl rfl rfl ?_
      show gd_W X K 0 0 [gd_ob 5 h [.int (if true then 1 else 0), .ref va, .ref re, .ref fu, .ref wi, .ref ma, .ref wo, .ref fd, .int (nI Lm.length), .int wm, .int (nI Lf.length), .int pl], gd_aJ K va 64 vf, gd_aZ K fu 64 uf, gd_aI K wo 720 wk] [(0, .ref h), (1, .int k)] [.int (if true then 1 else 0)] 19
      refine gd_if_eq hX 19 24 dd_Mo_count_19 (by decide) (fun h9 => ?_) (fun h9 => ?_)
      · skip
        exact absurd (show (1 : Int32) = 0 from h9) (by decide)
      · skip
        show gd_W X K 0 0 [gd_ob 5 h [.int 1, .ref va, .ref re, .ref fu, .ref wi, .ref ma, .ref wo, .ref fd, .int (nI Lm.length), .int wm, .int (nI Lf.length), .int pl], gd_aJ K va 64 vf, gd_aZ K fu 64 uf, gd_aI K wo 720 wk] [(0, .ref h), (1, .int k)] [] 22
        refine gd_iconst hX 22 dd_Mo_count_22 (v := 0) (by decide) ?_
        exact gd_iret hX hE 23 dd_Mo_count_23 (Or.inl ⟨Or.inr (ch_nle h2), rfl, rfl⟩)
