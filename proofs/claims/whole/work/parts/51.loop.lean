set_option maxRecDepth 100000 in
set_option maxHeartbeats 8000000 in
theorem lk_loop (X : gd_X) (K : gd_K) {tb : List (Nat × Nat × Nat × Nat)} (hX : gd_C X K code "ChunkCodeLaw" 8 tb room_1) (hl : (gx_l X).stackTraces = false) (b N : Nat) (xs : Nat → Int32) (hsc : gd_sc X b N xs) (hN : N ≤ 2048) (hQ : ∀ (ce sl : Nat) (ws : va_W) (lv : List (Nat × Value)), ce ≤ 601024 → sl ≤ 7293034 → gd_W X K ce sl ws lv [.int 1] 630) (h ru ra rb md mr fe fr rd mh va re fu wi ma wo fd ou : Nat) : ∀ (m i ce sl : Nat) (c ca sp sa : Nat) (w w0 fo : Int64) (f G rn vf rf of : Nat → Int64) (n0 t0 wa er wm : Int32) (rs fm ff uf wl mf wk mff : Nat → Int32) (Lm Lf : List Nat), N < 4 * i + 4 * m + 4 → 4 * i ≤ 2048 → ce + 2 * m ≤ 601024 → sl + 12 * m ≤ 7293034 → lk_I w f vf uf Lm fm mf Lf ff mff → gd_W X K ce sl [gd_ob 4 h [.ref c, .ref sp, .ref ru, .ref md, .ref fe, .ref rd, .int wa], gd_ob 0 c [.ref ca, .long w], gd_aJ K ca 64 f, gd_ob 0 sp [.ref sa, .long w0], gd_aJ K sa 64 G, gd_ob 3 ru [.ref ra, .ref rb, .int n0], gd_aJ K ra 64 rn, gd_aI K rb 64 rs, gd_ob 1 md [.ref mr, .int (nI Lm.length)], gd_aB K mr 712 fm, gd_ob 1 fe [.ref fr, .int (nI Lf.length)], gd_aB K fr 1000 ff, gd_ob 2 rd [.int t0, .long fo], gd_ob 5 mh [.int er, .ref va, .ref re, .ref fu, .ref wi, .ref ma, .ref wo, .ref fd, .int (nI Lm.length), .int wm, .int (nI Lf.length), .int wa], gd_aJ K va 64 vf, gd_aJ K re 64 rf, gd_aZ K fu 64 uf, gd_aZ K wi 64 wl, gd_aI K ma 720 mf, gd_aI K wo 720 wk, gd_aI K fd 1000 mff, gd_aJ K ou 1 of] [(0, .ref b), (1, .ref h), (2, .ref mh), (3, .ref ou), (4, .int (nI (4 * i)))] [] 23 := by
  intro m
  induction m with
  | zero =>
    intro i ce sl c ca sp sa w w0 fo f G rn vf rf of n0 t0 wa er wm rs fm ff uf wl mf wk mff Lm Lf hm hi hce hsl hI
    refine gd_iload hX 23 dd_La_law_23 rfl ?_
    refine gd_aload_n hX 25 dd_La_law_25 rfl ?_
    refine gd_slen hX hsc 26 dd_La_law_26 ?_
    refine gd_iconst hX 27 dd_La_law_27 (v := 4) (by decide) ?_
    refine gd_isub hX 28 dd_La_law_28 ?_
    refine gd_icmp_gt hX 29 629 dd_La_law_29 (by decide) (fun h1 => ?_) (fun h1 => ?_)
    · skip
      refine gd_iconst hX 629 dd_La_law_629 (v := 1) (by decide) ?_
      exact hQ _ _ _ _ (by omega) (by omega)
    · skip
      exact absurd ((ch_end hN hi).mpr (by omega)) h1
  | succ m ih =>
    intro i ce sl c ca sp sa w w0 fo f G rn vf rf of n0 t0 wa er wm rs fm ff uf wl mf wk mff Lm Lf hm hi hce hsl hI
    refine gd_iload hX 23 dd_La_law_23 rfl ?_
    refine gd_aload_n hX 25 dd_La_law_25 rfl ?_
    refine gd_slen hX hsc 26 dd_La_law_26 ?_
    refine gd_iconst hX 27 dd_La_law_27 (v := 4) (by decide) ?_
    refine gd_isub hX 28 dd_La_law_28 ?_
    refine gd_icmp_gt hX 29 629 dd_La_law_29 (by decide) (fun h1 => ?_) (fun h1 => ?_)
    · skip
      refine gd_iconst hX 629 dd_La_law_629 (v := 1) (by decide) ?_
      exact hQ _ _ _ _ (by omega) (by omega)
    · skip
      have hin : 4 * i + 4 ≤ N := Nat.le_of_not_lt (fun q => h1 ((ch_end hN hi).mpr q))
      have kk : lk_K X K h ru ra rb md mr fe fr rd mh va re fu wi ma wo fd ou b i ce sl := by
        intro c ca sp sa w w0 fo f G rn vf rf of n0 t0 wa er wm rs fm ff uf wl mf wk mff Lm Lf hI
        refine gd_iinc hX 4 [(4, .int (nI (4 * (i + 1)))), (0, .ref b), (1, .ref h), (2, .ref mh), (3, .ref ou)] 623 dd_La_law_623 rfl (show nI (4 * i) + Int32.ofInt 4 = nI (4 * (i + 1)) by rw [show Int32.ofInt 4 = nI 4 from rfl, nI_add]; rfl) (by decide) rfl ?_
        refine gd_goto hX 626 23 dd_La_law_626 (by decide) ?_
        refine gd_lvs [(0, .ref b), (1, .ref h), (2, .ref mh), (3, .ref ou), (4, .int (nI (4 * (i + 1))))] [1, 2, 3, 4, 0] rfl ?_
        exact ih (i + 1) (ce + 2) (sl + 12) c ca sp sa w w0 fo f G rn vf rf of n0 t0 wa er wm rs fm ff uf wl mf wk mff Lm Lf (by omega) (by omega) (by omega) (by omega) hI
      refine gd_aload_n hX 32 dd_La_law_32 rfl ?_
      refine gd_iload hX 33 dd_La_law_33 rfl ?_
      refine gd_sld hX hsc (4 * i) 35 dd_La_law_35 rfl (by omega) (by omega) ?_
      refine gd_bipush hX 36 dd_La_law_36 (v := 15) (by decide) ?_
      refine gd_iand hX 38 dd_La_law_38 ?_
      obtain ⟨q, hq⟩ : ∃ q, q = (xs (4 * i)).toBitVec.toNat % 16 := ⟨_, rfl⟩
      have hq16 : q < 16 := by rw [hq]; exact Nat.mod_lt _ (by decide)
      refine gd_eqi (show ((xs (4 * i)) &&& 15 : Int32) = nI q from by rw [hq]; exact pk_and _ 4 (by decide)) ?_
      rcases (show q = 0 ∨ q = 1 ∨ q = 2 ∨ q = 3 ∨ q = 4 ∨ q = 5 ∨ q = 6 ∨ q = 7 ∨ q = 8 ∨ q = 9 ∨ 10 ≤ q by omega) with h9 | h9 | h9 | h9 | h9 | h9 | h9 | h9 | h9 | h9 | h9
      · subst h9
        refine gd_tableIn hX (off := 53) 39 92 dd_La_law_39 (by decide) (by decide) (by decide) (by decide) ?_
        exact lk_put X K hX hl h ru ra rb md mr fe fr rd mh va re fu wi ma wo fd ou b i ce sl N xs hsc hN hin (by omega) (by omega) kk c ca sp sa w w0 fo f G rn vf rf of n0 t0 wa er wm rs fm ff uf wl mf wk mff Lm Lf hI
      · subst h9
        refine gd_tableIn hX (off := 133) 39 172 dd_La_law_39 (by decide) (by decide) (by decide) (by decide) ?_
        exact lk_erase X K hX hl h ru ra rb md mr fe fr rd mh va re fu wi ma wo fd ou b i ce sl N xs hsc hN hin (by omega) (by omega) kk c ca sp sa w w0 fo f G rn vf rf of n0 t0 wa er wm rs fm ff uf wl mf wk mff Lm Lf hI
      · subst h9
        refine gd_tableIn hX (off := 181) 39 220 dd_La_law_39 (by decide) (by decide) (by decide) (by decide) ?_
        exact lk_get X K hX hl h ru ra rb md mr fe fr rd mh va re fu wi ma wo fd ou b i ce sl N xs hsc hN hin (by omega) (by omega) kk c ca sp sa w w0 fo f G rn vf rf of n0 t0 wa er wm rs fm ff uf wl mf wk mff Lm Lf hI
      · subst h9
        refine gd_tableIn hX (off := 236) 39 275 dd_La_law_39 (by decide) (by decide) (by decide) (by decide) ?_
        exact lk_sum X K hX hl h ru ra rb md mr fe fr rd mh va re fu wi ma wo fd ou b i ce sl N xs hsc hN hin (by omega) (by omega) kk c ca sp sa w w0 fo f G rn vf rf of n0 t0 wa er wm rs fm ff uf wl mf wk mff Lm Lf hI
      · subst h9
        refine gd_tableIn hX (off := 303) 39 342 dd_La_law_39 (by decide) (by decide) (by decide) (by decide) ?_
        exact lk_encode X K hX hl h ru ra rb md mr fe fr rd mh va re fu wi ma wo fd ou b i ce sl N xs hsc hN hin (by omega) (by omega) kk c ca sp sa w w0 fo f G rn vf rf of n0 t0 wa er wm rs fm ff uf wl mf wk mff Lm Lf hI
      · subst h9
        refine gd_tableIn hX (off := 316) 39 355 dd_La_law_39 (by decide) (by decide) (by decide) (by decide) ?_
        exact lk_code X K hX hl h ru ra rb md mr fe fr rd mh va re fu wi ma wo fd ou b i ce sl N xs hsc hN hin (by omega) (by omega) kk c ca sp sa w w0 fo f G rn vf rf of n0 t0 wa er wm rs fm ff uf wl mf wk mff Lm Lf hI
      · subst h9
        refine gd_tableIn hX (off := 371) 39 410 dd_La_law_39 (by decide) (by decide) (by decide) (by decide) ?_
        exact lk_feed X K hX hl h ru ra rb md mr fe fr rd mh va re fu wi ma wo fd ou b i ce sl N xs hsc hN hin (by omega) (by omega) kk c ca sp sa w w0 fo f G rn vf rf of n0 t0 wa er wm rs fm ff uf wl mf wk mff Lm Lf hI
      · subst h9
        refine gd_tableIn hX (off := 471) 39 510 dd_La_law_39 (by decide) (by decide) (by decide) (by decide) ?_
        exact lk_decode X K hX hl h ru ra rb md mr fe fr rd mh va re fu wi ma wo fd ou b i ce sl N xs hsc hN hin (by omega) (by omega) kk c ca sp sa w w0 fo f G rn vf rf of n0 t0 wa er wm rs fm ff uf wl mf wk mff Lm Lf hI
      · subst h9
        refine gd_tableIn hX (off := 515) 39 554 dd_La_law_39 (by decide) (by decide) (by decide) (by decide) ?_
        exact lk_wrong X K hX hl h ru ra rb md mr fe fr rd mh va re fu wi ma wo fd ou b i ce sl N xs hsc hN hin (by omega) (by omega) kk c ca sp sa w w0 fo f G rn vf rf of n0 t0 wa er wm rs fm ff uf wl mf wk mff Lm Lf hI
      · subst h9
        refine gd_tableIn hX (off := 528) 39 567 dd_La_law_39 (by decide) (by decide) (by decide) (by decide) ?_
        exact lk_count X K hX hl h ru ra rb md mr fe fr rd mh va re fu wi ma wo fd ou b i ce sl N xs hsc hN hin (by omega) (by omega) kk c ca sp sa w w0 fo f G rn vf rf of n0 t0 wa er wm rs fm ff uf wl mf wk mff Lm Lf hI
      · skip
        refine gd_tableOut hX 39 623 dd_La_law_39 (Or.inr (by rw [nI_toInt (by omega)]; omega)) (by decide) ?_
        refine gd_wide (a := ce + 2) (b := sl + 12) (by omega) (by omega) ?_
        exact kk c ca sp sa w w0 fo f G rn vf rf of n0 t0 wa er wm rs fm ff uf wl mf wk mff Lm Lf hI
set_option maxRecDepth 100000 in
set_option maxHeartbeats 8000000 in
theorem lk_run (X : gd_X) (K : gd_K) {tb : List (Nat × Nat × Nat × Nat)} (hX : gd_C X K code "ChunkCodeLaw" 8 tb room_1) (hl : (gx_l X).stackTraces = false) (b N : Nat) (xs : Nat → Int32) (hsc : gd_sc X b N xs) (hN : N ≤ 2048) (hQ : ∀ (ce sl : Nat) (ws : va_W) (lv : List (Nat × Value)), ce ≤ 601024 → sl ≤ 7293034 → gd_W X K ce sl ws lv [.int 1] 630) : gd_W X K 0 0 [] [(0, .ref b)] [] 0 := by
  refine gd_new hX (ci := 4) inC_Ch ty_Ch tyk_Ch [.null, .null, .null, .null, .null, .null, .int 0] 0 dd_La_law_0 kw_26 kw_27 kw_13 rfl (by decide) (Nat.le_of_ble_eq_true rfl) (Nat.le_of_ble_eq_true rfl) (fun h => ?_)
  show gd_W X K 1 7 [gd_ob 4 h [.null, .null, .null, .null, .null, .null, .int 0]] [(0, .ref b)] [.ref h] 3
  refine gd_dup hX 3 dd_La_law_3 rfl ?_
  refine gd_call hX (st := [.ref h]) (wr := []) (ct_Ch_init _ K h) 4 dd_La_law_4 (gd_nI hX (As := []) kw_28 kw_29 kw_30 rfl (by decide) (by decide) rfl rfl dd_La_law_4) (gd_codeOf kw_30) (by decide) [0] [] rfl rfl rfl rfl rfl (by decide) (Nat.le_of_ble_eq_true rfl) (Nat.le_of_ble_eq_true rfl) (show 1 + 12 ≤ 601024 by omega) (show 7 + 1981 ≤ 7293034 by omega) (fun v9 w9 h9 => ?_) (fun E9 w9 q9 h9 => h9.elim)
  obtain ⟨rfl, c, ca, sp, sa, ru, ra, rb, md, mr, fe, fr, rd, rfl⟩ := h9
  show gd_W X K 13 1988 [gd_ob 4 h [.ref c, .ref sp, .ref ru, .ref md, .ref fe, .ref rd, .int (-1)], gd_ob 0 c [.ref ca, .long 0], gd_aJ K ca 64 (fun _ => 0), gd_ob 0 sp [.ref sa, .long 0], gd_aJ K sa 64 (fun _ => 0), gd_ob 3 ru [.ref ra, .ref rb, .int 0], gd_aJ K ra 64 (fun _ => 0), gd_aI K rb 64 (fun _ => 0), gd_ob 1 md [.ref mr, .int 0], gd_aB K mr 712 (fun _ => 0), gd_ob 1 fe [.ref fr, .int 0], gd_aB K fr 1000 (fun _ => 0), gd_ob 2 rd [.int 0, .long 0]] [(0, .ref b)] [.ref h] 7
  refine gd_astore_n hX [(1, .ref h), (0, .ref b)] 7 dd_La_law_7 rfl (by decide) rfl ?_
  refine gd_new hX (ci := 5) inC_Mo ty_Mo tyk_Mo [.int 0, .null, .null, .null, .null, .null, .null, .null, .int 0, .int 0, .int 0, .int 0] 8 dd_La_law_8 kw_402 kw_403 kw_18 rfl (by decide) (Nat.le_of_ble_eq_true rfl) (Nat.le_of_ble_eq_true rfl) (fun mh => ?_)
  show gd_W X K 14 2000 [gd_ob 4 h [.ref c, .ref sp, .ref ru, .ref md, .ref fe, .ref rd, .int (-1)], gd_ob 0 c [.ref ca, .long 0], gd_aJ K ca 64 (fun _ => 0), gd_ob 0 sp [.ref sa, .long 0], gd_aJ K sa 64 (fun _ => 0), gd_ob 3 ru [.ref ra, .ref rb, .int 0], gd_aJ K ra 64 (fun _ => 0), gd_aI K rb 64 (fun _ => 0), gd_ob 1 md [.ref mr, .int 0], gd_aB K mr 712 (fun _ => 0), gd_ob 1 fe [.ref fr, .int 0], gd_aB K fr 1000 (fun _ => 0), gd_ob 2 rd [.int 0, .long 0], gd_ob 5 mh [.int 0, .null, .null, .null, .null, .null, .null, .null, .int 0, .int 0, .int 0, .int 0]] [(1, .ref h), (0, .ref b)] [.ref mh] 11
  refine gd_dup hX 11 dd_La_law_11 rfl ?_
  refine gd_call hX (st := [.ref mh]) (wr := [gd_ob 4 h [.ref c, .ref sp, .ref ru, .ref md, .ref fe, .ref rd, .int (-1)], gd_ob 0 c [.ref ca, .long 0], gd_aJ K ca 64 (fun _ => 0), gd_ob 0 sp [.ref sa, .long 0], gd_aJ K sa 64 (fun _ => 0), gd_ob 3 ru [.ref ra, .ref rb, .int 0], gd_aJ K ra 64 (fun _ => 0), gd_aI K rb 64 (fun _ => 0), gd_ob 1 md [.ref mr, .int 0], gd_aB K mr 712 (fun _ => 0), gd_ob 1 fe [.ref fr, .int 0], gd_aB K fr 1000 (fun _ => 0), gd_ob 2 rd [.int 0, .long 0]]) (ct_Mo_init _ K mh) 12 dd_La_law_12 (gd_nI hX (As := []) kw_404 kw_405 kw_406 rfl (by decide) (by decide) rfl rfl dd_La_law_12) (gd_codeOf kw_406) (by decide) [13] [0, 1, 2, 3, 4, 5, 6, 7, 8, 9, 10, 11, 12] rfl rfl rfl rfl rfl (by decide) (Nat.le_of_ble_eq_true rfl) (Nat.le_of_ble_eq_true rfl) (show 14 + 7 ≤ 601024 by omega) (show 2000 + 2696 ≤ 7293034 by omega) (fun v9 w9 h9 => ?_) (fun E9 w9 q9 h9 => h9.elim)
  obtain ⟨rfl, va, re, fu, wi, ma, wo, fd, rfl⟩ := h9
  show gd_W X K 21 4696 [gd_ob 4 h [.ref c, .ref sp, .ref ru, .ref md, .ref fe, .ref rd, .int (-1)], gd_ob 0 c [.ref ca, .long 0], gd_aJ K ca 64 (fun _ => 0), gd_ob 0 sp [.ref sa, .long 0], gd_aJ K sa 64 (fun _ => 0), gd_ob 3 ru [.ref ra, .ref rb, .int 0], gd_aJ K ra 64 (fun _ => 0), gd_aI K rb 64 (fun _ => 0), gd_ob 1 md [.ref mr, .int 0], gd_aB K mr 712 (fun _ => 0), gd_ob 1 fe [.ref fr, .int 0], gd_aB K fr 1000 (fun _ => 0), gd_ob 2 rd [.int 0, .long 0], gd_ob 5 mh [.int 0, .ref va, .ref re, .ref fu, .ref wi, .ref ma, .ref wo, .ref fd, .int 0, .int 0, .int 0, .int (-1)], gd_aJ K va 64 (fun _ => 0), gd_aJ K re 64 (fun _ => 0), gd_aZ K fu 64 (fun _ => 0), gd_aZ K wi 64 (fun _ => 0), gd_aI K ma 720 (fun _ => 0), gd_aI K wo 720 (fun _ => 0), gd_aI K fd 1000 (fun _ => 0)] [(1, .ref h), (0, .ref b)] [.ref mh] 15
  refine gd_astore_n hX [(2, .ref mh), (1, .ref h), (0, .ref b)] 15 dd_La_law_15 rfl (by decide) rfl ?_
  refine gd_iconst hX 16 dd_La_law_16 (v := 1) (by decide) ?_
  refine gd_newaJ hX 1 17 dd_La_law_17 rfl (by omega) (Nat.le_of_ble_eq_true rfl) (Nat.le_of_ble_eq_true rfl) (fun ou => ?_)
  show gd_W X K 22 4697 [gd_ob 4 h [.ref c, .ref sp, .ref ru, .ref md, .ref fe, .ref rd, .int (-1)], gd_ob 0 c [.ref ca, .long 0], gd_aJ K ca 64 (fun _ => 0), gd_ob 0 sp [.ref sa, .long 0], gd_aJ K sa 64 (fun _ => 0), gd_ob 3 ru [.ref ra, .ref rb, .int 0], gd_aJ K ra 64 (fun _ => 0), gd_aI K rb 64 (fun _ => 0), gd_ob 1 md [.ref mr, .int 0], gd_aB K mr 712 (fun _ => 0), gd_ob 1 fe [.ref fr, .int 0], gd_aB K fr 1000 (fun _ => 0), gd_ob 2 rd [.int 0, .long 0], gd_ob 5 mh [.int 0, .ref va, .ref re, .ref fu, .ref wi, .ref ma, .ref wo, .ref fd, .int 0, .int 0, .int 0, .int (-1)], gd_aJ K va 64 (fun _ => 0), gd_aJ K re 64 (fun _ => 0), gd_aZ K fu 64 (fun _ => 0), gd_aZ K wi 64 (fun _ => 0), gd_aI K ma 720 (fun _ => 0), gd_aI K wo 720 (fun _ => 0), gd_aI K fd 1000 (fun _ => 0), gd_aJ K ou 1 (fun _ => 0)] [(2, .ref mh), (1, .ref h), (0, .ref b)] [.ref ou] 19
  refine gd_astore_n hX [(3, .ref ou), (2, .ref mh), (1, .ref h), (0, .ref b)] 19 dd_La_law_19 rfl (by decide) rfl ?_
  refine gd_iconst hX 20 dd_La_law_20 (v := 0) (by decide) ?_
  refine gd_eqi (show (0 : Int32) = nI (4 * 0) from rfl) ?_
  refine gd_istore hX [(4, .int (nI (4 * 0))), (3, .ref ou), (2, .ref mh), (1, .ref h), (0, .ref b)] 21 dd_La_law_21 (by decide) rfl ?_
  refine gd_lvs [(0, .ref b), (1, .ref h), (2, .ref mh), (3, .ref ou), (4, .int (nI (4 * 0)))] [4, 3, 2, 1, 0] rfl ?_
  exact lk_loop X K hX hl b N xs hsc hN hQ h ru ra rb md mr fe fr rd mh va re fu wi ma wo fd ou 512 0 22 4697 c ca sp sa 0 0 0 (fun _ => 0) (fun _ => 0) (fun _ => 0) (fun _ => 0) (fun _ => 0) (fun _ => 0) 0 0 (-1) 0 0 (fun _ => 0) (fun _ => 0) (fun _ => 0) (fun _ => 0) (fun _ => 0) (fun _ => 0) (fun _ => 0) (fun _ => 0) [] [] (by omega) (by omega) (by omega) (by omega) ⟨fun k hk => ⟨by rw [ch_bit0]; rfl, fun _ => rfl⟩, ch_B_nil _, fun t ht => absurd ht (Nat.not_lt_zero _), Nat.zero_le _, ch_B_nil _, fun t ht => absurd ht (Nat.not_lt_zero _), Nat.zero_le _, fun y hy => nomatch hy⟩
