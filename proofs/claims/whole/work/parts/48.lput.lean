set_option maxRecDepth 100000 in
set_option maxHeartbeats 8000000 in
theorem lk_put (X : gd_X) (K : gd_K) {tb : List (Nat × Nat × Nat × Nat)} (hX : gd_C X K code "ChunkCodeLaw" 8 tb room_1) (hl : (gx_l X).stackTraces = false) (h ru ra rb md mr fe fr rd mh va re fu wi ma wo fd ou b i ce sl N : Nat) (xs : Nat → Int32) (hsc : gd_sc X b N xs) (hN : N ≤ 2048) (hi : 4 * i + 4 ≤ N) (hce : ce + 2 ≤ 601024) (hsl : sl + 12 ≤ 7293034) (kk : lk_K X K h ru ra rb md mr fe fr rd mh va re fu wi ma wo fd ou b i ce sl) (c ca sp sa : Nat) (w w0 fo : Int64) (f G rn vf rf of : Nat → Int64) (n0 t0 wa er wm : Int32) (rs fm ff uf wl mf wk mff : Nat → Int32) (Lm Lf : List Nat) (hI : lk_I w f vf uf Lm fm mf Lf ff mff) : gd_W X K ce sl [gd_ob 4 h [.ref c, .ref sp, .ref ru, .ref md, .ref fe, .ref rd, .int wa], gd_ob 0 c [.ref ca, .long w], gd_aJ K ca 64 f, gd_ob 0 sp [.ref sa, .long w0], gd_aJ K sa 64 G, gd_ob 3 ru [.ref ra, .ref rb, .int n0], gd_aJ K ra 64 rn, gd_aI K rb 64 rs, gd_ob 1 md [.ref mr, .int (nI Lm.length)], gd_aB K mr 712 fm, gd_ob 1 fe [.ref fr, .int (nI Lf.length)], gd_aB K fr 1000 ff, gd_ob 2 rd [.int t0, .long fo], gd_ob 5 mh [.int er, .ref va, .ref re, .ref fu, .ref wi, .ref ma, .ref wo, .ref fd, .int (nI Lm.length), .int wm, .int (nI Lf.length), .int wa], gd_aJ K va 64 vf, gd_aJ K re 64 rf, gd_aZ K fu 64 uf, gd_aZ K wi 64 wl, gd_aI K ma 720 mf, gd_aI K wo 720 wk, gd_aI K fd 1000 mff, gd_aJ K ou 1 of] [(0, .ref b), (1, .ref h), (2, .ref mh), (3, .ref ou), (4, .int (nI (4 * i)))] [] 92 := by
  obtain ⟨hM, hBm, hIm, hLm, hBf, hIf, hLf, hOf⟩ := hI
  refine gd_aload_n hX 92 dd_La_law_92 rfl ?_
  refine gd_aload_n hX 93 dd_La_law_93 rfl ?_
  refine gd_iload hX 94 dd_La_law_94 rfl ?_
  refine gd_iconst hX 96 dd_La_law_96 (v := 1) (by decide) ?_
  refine gd_iadd hX 97 dd_La_law_97 ?_
  refine gd_eqi (show ((nI (4 * i)) + 1 : Int32) = nI (4 * i + 1) from nI_add _ 1) ?_
  refine gd_sld hX hsc (4 * i + 1) 98 dd_La_law_98 rfl (by omega) (by omega) ?_
  obtain ⟨k, ek⟩ : ∃ k : Int32, k = xs (4 * i + 1) := ⟨_, rfl⟩
  refine gd_eqi (show (xs (4 * i + 1) : Int32) = k from ek.symm) ?_
  refine gd_aload_n hX 99 dd_La_law_99 rfl ?_
  refine gd_iload hX 100 dd_La_law_100 rfl ?_
  refine gd_iconst hX 102 dd_La_law_102 (v := 2) (by decide) ?_
  refine gd_iadd hX 103 dd_La_law_103 ?_
  refine gd_eqi (show ((nI (4 * i)) + 2 : Int32) = nI (4 * i + 2) from nI_add _ 2) ?_
  refine gd_sld hX hsc (4 * i + 2) 104 dd_La_law_104 rfl (by omega) (by omega) ?_
  refine gd_i2l hX 105 dd_La_law_105 ?_
  refine gd_bipush hX 106 dd_La_law_106 (v := 32) (by decide) ?_
  refine gd_lshl hX 108 dd_La_law_108 ?_
  refine gd_aload_n hX 109 dd_La_law_109 rfl ?_
  refine gd_iload hX 110 dd_La_law_110 rfl ?_
  refine gd_iconst hX 112 dd_La_law_112 (v := 3) (by decide) ?_
  refine gd_iadd hX 113 dd_La_law_113 ?_
  refine gd_eqi (show ((nI (4 * i)) + 3 : Int32) = nI (4 * i + 3) from nI_add _ 3) ?_
  refine gd_sld hX hsc (4 * i + 3) 114 dd_La_law_114 rfl (by omega) (by omega) ?_
  refine gd_i2l hX 115 dd_La_law_115 ?_
  refine gd_ldc2 hX 116 dd_La_law_116 (v := 4294967295) kw_510 ?_
  refine gd_land hX 119 dd_La_law_119 ?_
  refine gd_lor hX 120 dd_La_law_120 ?_
  obtain ⟨v, ev⟩ : ∃ v : Int64, v = (((xs (4 * i + 2)).toInt64) <<< ((32 : Int32).toInt64 &&& 63)) ||| (((xs (4 * i + 3)).toInt64) &&& 4294967295) := ⟨_, rfl⟩
  refine gd_eql (show ((((xs (4 * i + 2)).toInt64) <<< ((32 : Int32).toInt64 &&& 63)) ||| (((xs (4 * i + 3)).toInt64) &&& 4294967295) : Int64) = v from ev.symm) ?_
  refine gd_call hX (st := []) (wr := [gd_ob 0 sp [.ref sa, .long w0], gd_aJ K sa 64 G, gd_ob 3 ru [.ref ra, .ref rb, .int n0], gd_aJ K ra 64 rn, gd_aI K rb 64 rs, gd_ob 1 md [.ref mr, .int (nI Lm.length)], gd_aB K mr 712 fm, gd_ob 1 fe [.ref fr, .int (nI Lf.length)], gd_aB K fr 1000 ff, gd_ob 2 rd [.int t0, .long fo], gd_ob 5 mh [.int er, .ref va, .ref re, .ref fu, .ref wi, .ref ma, .ref wo, .ref fd, .int (nI Lm.length), .int wm, .int (nI Lf.length), .int wa], gd_aJ K va 64 vf, gd_aJ K re 64 rf, gd_aZ K fu 64 uf, gd_aZ K wi 64 wl, gd_aI K ma 720 mf, gd_aI K wo 720 wk, gd_aI K fd 1000 mff, gd_aJ K ou 1 of]) (ct_La_put _ K hl h c sp ru md fe rd wa ca w f k v) 121 dd_La_law_121 (gd_nS hX (As := [.ref h, .int k, .long v]) kw_172 kw_173 kw_12 (gd_nmWithOf kw_174) (gd_sigWithOf (n := 3) kw_174 (by decide)) (by decide) rfl rfl dd_La_law_121) (gd_codeWithOf kw_174) (by decide) [0, 1, 2] [3, 4, 5, 6, 7, 8, 9, 10, 11, 12, 13, 14, 15, 16, 17, 18, 19, 20, 21] rfl rfl rfl rfl rfl (by decide) (Nat.le_of_ble_eq_true rfl) (Nat.le_of_ble_eq_true rfl) (show ce + 1 ≤ 601024 by omega) (show sl + 6 ≤ 7293034 by omega) (fun v9 w9 h9 => ?_) (fun E9 w9 q9 h9 => h9.elim)
  rcases h9 with h9 | h9
  · skip
    obtain ⟨rfl, j, hj, hk, rfl⟩ := h9
    refine gd_wsp [gd_ob 4 h [.ref c, .ref sp, .ref ru, .ref md, .ref fe, .ref rd, .int wa], gd_ob 0 c [.ref ca, .long (w ||| ((1 : Int64) <<< ((nI j).toInt64 &&& 63)))], gd_aJ K ca 64 (vp_updL f j v), gd_ob 0 sp [.ref sa, .long w0], gd_aJ K sa 64 G, gd_ob 3 ru [.ref ra, .ref rb, .int n0], gd_aJ K ra 64 rn, gd_aI K rb 64 rs, gd_ob 1 md [.ref mr, .int (nI Lm.length)], gd_aB K mr 712 fm, gd_ob 1 fe [.ref fr, .int (nI Lf.length)], gd_aB K fr 1000 ff, gd_ob 2 rd [.int t0, .long fo], gd_ob 5 mh [.int er, .ref va, .ref re, .ref fu, .ref wi, .ref ma, .ref wo, .ref fd, .int (nI Lm.length), .int wm, .int (nI Lf.length), .int wa], gd_aJ K va 64 vf, gd_aJ K re 64 rf, gd_aZ K fu 64 uf, gd_aZ K wi 64 wl, gd_aI K ma 720 mf, gd_aI K wo 720 wk, gd_aI K fd 1000 mff, gd_aJ K ou 1 of] [19, 20, 21, 0, 1, 2, 3, 4, 5, 6, 7, 8, 9, 10, 11, 12, 13, 14, 15, 16, 17, 18] rfl rfl rfl ?_
    show gd_W X K (ce + 1) (sl + 6) [gd_ob 4 h [.ref c, .ref sp, .ref ru, .ref md, .ref fe, .ref rd, .int wa], gd_ob 0 c [.ref ca, .long (w ||| ((1 : Int64) <<< ((nI j).toInt64 &&& 63)))], gd_aJ K ca 64 (vp_updL f j v), gd_ob 0 sp [.ref sa, .long w0], gd_aJ K sa 64 G, gd_ob 3 ru [.ref ra, .ref rb, .int n0], gd_aJ K ra 64 rn, gd_aI K rb 64 rs, gd_ob 1 md [.ref mr, .int (nI Lm.length)], gd_aB K mr 712 fm, gd_ob 1 fe [.ref fr, .int (nI Lf.length)], gd_aB K fr 1000 ff, gd_ob 2 rd [.int t0, .long fo], gd_ob 5 mh [.int er, .ref va, .ref re, .ref fu, .ref wi, .ref ma, .ref wo, .ref fd, .int (nI Lm.length), .int wm, .int (nI Lf.length), .int wa], gd_aJ K va 64 vf, gd_aJ K re 64 rf, gd_aZ K fu 64 uf, gd_aZ K wi 64 wl, gd_aI K ma 720 mf, gd_aI K wo 720 wk, gd_aI K fd 1000 mff, gd_aJ K ou 1 of] [(0, .ref b), (1, .ref h), (2, .ref mh), (3, .ref ou), (4, .int (nI (4 * i)))] [.int 0] 124
    refine gd_istore hX [(5, .int 0), (0, .ref b), (1, .ref h), (2, .ref mh), (3, .ref ou), (4, .int (nI (4 * i)))] 124 dd_La_law_124 (by decide) rfl ?_
    refine gd_aload_n hX 126 dd_La_law_126 rfl ?_
    refine gd_aload_n hX 127 dd_La_law_127 rfl ?_
    refine gd_iload hX 128 dd_La_law_128 rfl ?_
    refine gd_iconst hX 130 dd_La_law_130 (v := 1) (by decide) ?_
    refine gd_iadd hX 131 dd_La_law_131 ?_
    refine gd_eqi (show ((nI (4 * i)) + 1 : Int32) = nI (4 * i + 1) from nI_add _ 1) ?_
    refine gd_sld hX hsc (4 * i + 1) 132 dd_La_law_132 rfl (by omega) (by omega) ?_
    refine gd_eqi (show (xs (4 * i + 1) : Int32) = k from ek.symm) ?_
    refine gd_aload_n hX 133 dd_La_law_133 rfl ?_
    refine gd_iload hX 134 dd_La_law_134 rfl ?_
    refine gd_iconst hX 136 dd_La_law_136 (v := 2) (by decide) ?_
    refine gd_iadd hX 137 dd_La_law_137 ?_
    refine gd_eqi (show ((nI (4 * i)) + 2 : Int32) = nI (4 * i + 2) from nI_add _ 2) ?_
    refine gd_sld hX hsc (4 * i + 2) 138 dd_La_law_138 rfl (by omega) (by omega) ?_
    refine gd_i2l hX 139 dd_La_law_139 ?_
    refine gd_bipush hX 140 dd_La_law_140 (v := 32) (by decide) ?_
    refine gd_lshl hX 142 dd_La_law_142 ?_
    refine gd_aload_n hX 143 dd_La_law_143 rfl ?_
    refine gd_iload hX 144 dd_La_law_144 rfl ?_
    refine gd_iconst hX 146 dd_La_law_146 (v := 3) (by decide) ?_
    refine gd_iadd hX 147 dd_La_law_147 ?_
    refine gd_eqi (show ((nI (4 * i)) + 3 : Int32) = nI (4 * i + 3) from nI_add _ 3) ?_
    refine gd_sld hX hsc (4 * i + 3) 148 dd_La_law_148 rfl (by omega) (by omega) ?_
    refine gd_i2l hX 149 dd_La_law_149 ?_
    refine gd_ldc2 hX 150 dd_La_law_150 (v := 4294967295) kw_510 ?_
    refine gd_land hX 153 dd_La_law_153 ?_
    refine gd_lor hX 154 dd_La_law_154 ?_
    refine gd_eql (show ((((xs (4 * i + 2)).toInt64) <<< ((32 : Int32).toInt64 &&& 63)) ||| (((xs (4 * i + 3)).toInt64) &&& 4294967295) : Int64) = v from ev.symm) ?_
    refine gd_call hX (st := []) (wr := [gd_ob 4 h [.ref c, .ref sp, .ref ru, .ref md, .ref fe, .ref rd, .int wa], gd_ob 0 c [.ref ca, .long (w ||| ((1 : Int64) <<< ((nI j).toInt64 &&& 63)))], gd_aJ K ca 64 (vp_updL f j v), gd_ob 0 sp [.ref sa, .long w0], gd_aJ K sa 64 G, gd_ob 3 ru [.ref ra, .ref rb, .int n0], gd_aJ K ra 64 rn, gd_aI K rb 64 rs, gd_ob 1 md [.ref mr, .int (nI Lm.length)], gd_aB K mr 712 fm, gd_ob 1 fe [.ref fr, .int (nI Lf.length)], gd_aB K fr 1000 ff, gd_ob 2 rd [.int t0, .long fo], gd_aJ K re 64 rf, gd_aZ K wi 64 wl, gd_aI K ma 720 mf, gd_aI K wo 720 wk, gd_aI K fd 1000 mff, gd_aJ K ou 1 of]) (ct_Mo_put _ K mh va re fu wi ma wo fd er (nI Lm.length) wm (nI Lf.length) wa vf uf k v) 155 dd_La_law_155 (gd_nV hX (As := [.int k, .long v]) kw_450 kw_451 kw_452 (gd_sigOf (n := 2) kw_453 (by decide)) (by decide) 13 rfl rfl rfl rfl dd_La_law_155) (gd_codeOf kw_453) (by decide) [13, 14, 16] [0, 1, 2, 3, 4, 5, 6, 7, 8, 9, 10, 11, 12, 15, 17, 18, 19, 20, 21] rfl rfl rfl rfl rfl (by decide) (Nat.le_of_ble_eq_true rfl) (Nat.le_of_ble_eq_true rfl) (show (ce + 1) + 0 ≤ 601024 by omega) (show (sl + 6) + 0 ≤ 7293034 by omega) (fun v9 w9 h9 => ?_) (fun E9 w9 q9 h9 => h9.elim)
    obtain ⟨rfl, h9⟩ := h9
    rcases h9 with h9 | h9
    · skip
      obtain ⟨hno2, rfl⟩ := h9
      refine gd_wsp [gd_ob 4 h [.ref c, .ref sp, .ref ru, .ref md, .ref fe, .ref rd, .int wa], gd_ob 0 c [.ref ca, .long (w ||| ((1 : Int64) <<< ((nI j).toInt64 &&& 63)))], gd_aJ K ca 64 (vp_updL f j v), gd_ob 0 sp [.ref sa, .long w0], gd_aJ K sa 64 G, gd_ob 3 ru [.ref ra, .ref rb, .int n0], gd_aJ K ra 64 rn, gd_aI K rb 64 rs, gd_ob 1 md [.ref mr, .int (nI Lm.length)], gd_aB K mr 712 fm, gd_ob 1 fe [.ref fr, .int (nI Lf.length)], gd_aB K fr 1000 ff, gd_ob 2 rd [.int t0, .long fo], gd_ob 5 mh [.int 1, .ref va, .ref re, .ref fu, .ref wi, .ref ma, .ref wo, .ref fd, .int (nI Lm.length), .int wm, .int (nI Lf.length), .int wa], gd_aJ K va 64 vf, gd_aJ K re 64 rf, gd_aZ K fu 64 uf, gd_aZ K wi 64 wl, gd_aI K ma 720 mf, gd_aI K wo 720 wk, gd_aI K fd 1000 mff, gd_aJ K ou 1 of] [0, 1, 2, 3, 4, 5, 6, 7, 8, 9, 10, 11, 12, 19, 20, 13, 21, 14, 15, 16, 17, 18] rfl rfl rfl ?_
      show gd_W X K (ce + 1) (sl + 6) [gd_ob 4 h [.ref c, .ref sp, .ref ru, .ref md, .ref fe, .ref rd, .int wa], gd_ob 0 c [.ref ca, .long (w ||| ((1 : Int64) <<< ((nI j).toInt64 &&& 63)))], gd_aJ K ca 64 (vp_updL f j v), gd_ob 0 sp [.ref sa, .long w0], gd_aJ K sa 64 G, gd_ob 3 ru [.ref ra, .ref rb, .int n0], gd_aJ K ra 64 rn, gd_aI K rb 64 rs, gd_ob 1 md [.ref mr, .int (nI Lm.length)], gd_aB K mr 712 fm, gd_ob 1 fe [.ref fr, .int (nI Lf.length)], gd_aB K fr 1000 ff, gd_ob 2 rd [.int t0, .long fo], gd_ob 5 mh [.int 1, .ref va, .ref re, .ref fu, .ref wi, .ref ma, .ref wo, .ref fd, .int (nI Lm.length), .int wm, .int (nI Lf.length), .int wa], gd_aJ K va 64 vf, gd_aJ K re 64 rf, gd_aZ K fu 64 uf, gd_aZ K wi 64 wl, gd_aI K ma 720 mf, gd_aI K wo 720 wk, gd_aI K fd 1000 mff, gd_aJ K ou 1 of] [(5, .int 0), (0, .ref b), (1, .ref h), (2, .ref mh), (3, .ref ou), (4, .int (nI (4 * i)))] [] 158
      rw [hk, ch_no_nI hj] at hno2; cases hno2
    · skip
      obtain ⟨j2, hj2, hk2, rfl⟩ := h9
      refine gd_wsp [gd_ob 4 h [.ref c, .ref sp, .ref ru, .ref md, .ref fe, .ref rd, .int wa], gd_ob 0 c [.ref ca, .long (w ||| ((1 : Int64) <<< ((nI j).toInt64 &&& 63)))], gd_aJ K ca 64 (vp_updL f j v), gd_ob 0 sp [.ref sa, .long w0], gd_aJ K sa 64 G, gd_ob 3 ru [.ref ra, .ref rb, .int n0], gd_aJ K ra 64 rn, gd_aI K rb 64 rs, gd_ob 1 md [.ref mr, .int (nI Lm.length)], gd_aB K mr 712 fm, gd_ob 1 fe [.ref fr, .int (nI Lf.length)], gd_aB K fr 1000 ff, gd_ob 2 rd [.int t0, .long fo], gd_ob 5 mh [.int 0, .ref va, .ref re, .ref fu, .ref wi, .ref ma, .ref wo, .ref fd, .int (nI Lm.length), .int wm, .int (nI Lf.length), .int wa], gd_aJ K va 64 (vp_updL vf j2 v), gd_aJ K re 64 rf, gd_aZ K fu 64 (upd uf j2 (vp_nar .boolean 1)), gd_aZ K wi 64 wl, gd_aI K ma 720 mf, gd_aI K wo 720 wk, gd_aI K fd 1000 mff, gd_aJ K ou 1 of] [0, 1, 2, 3, 4, 5, 6, 7, 8, 9, 10, 11, 12, 19, 20, 13, 21, 14, 15, 16, 17, 18] rfl rfl rfl ?_
      show gd_W X K (ce + 1) (sl + 6) [gd_ob 4 h [.ref c, .ref sp, .ref ru, .ref md, .ref fe, .ref rd, .int wa], gd_ob 0 c [.ref ca, .long (w ||| ((1 : Int64) <<< ((nI j).toInt64 &&& 63)))], gd_aJ K ca 64 (vp_updL f j v), gd_ob 0 sp [.ref sa, .long w0], gd_aJ K sa 64 G, gd_ob 3 ru [.ref ra, .ref rb, .int n0], gd_aJ K ra 64 rn, gd_aI K rb 64 rs, gd_ob 1 md [.ref mr, .int (nI Lm.length)], gd_aB K mr 712 fm, gd_ob 1 fe [.ref fr, .int (nI Lf.length)], gd_aB K fr 1000 ff, gd_ob 2 rd [.int t0, .long fo], gd_ob 5 mh [.int 0, .ref va, .ref re, .ref fu, .ref wi, .ref ma, .ref wo, .ref fd, .int (nI Lm.length), .int wm, .int (nI Lf.length), .int wa], gd_aJ K va 64 (vp_updL vf j2 v), gd_aJ K re 64 rf, gd_aZ K fu 64 (upd uf j2 (vp_nar .boolean 1)), gd_aZ K wi 64 wl, gd_aI K ma 720 mf, gd_aI K wo 720 wk, gd_aI K fd 1000 mff, gd_aJ K ou 1 of] [(5, .int 0), (0, .ref b), (1, .ref h), (2, .ref mh), (3, .ref ou), (4, .int (nI (4 * i)))] [] 158
      obtain rfl : j = j2 := (nI_eq (by omega) (by omega)).mp (hk.symm.trans hk2)
      show gd_W X K (ce + 1) (sl + 6) [gd_ob 4 h [.ref c, .ref sp, .ref ru, .ref md, .ref fe, .ref rd, .int wa], gd_ob 0 c [.ref ca, .long (w ||| ((1 : Int64) <<< ((nI j).toInt64 &&& 63)))], gd_aJ K ca 64 (vp_updL f j v), gd_ob 0 sp [.ref sa, .long w0], gd_aJ K sa 64 G, gd_ob 3 ru [.ref ra, .ref rb, .int n0], gd_aJ K ra 64 rn, gd_aI K rb 64 rs, gd_ob 1 md [.ref mr, .int (nI Lm.length)], gd_aB K mr 712 fm, gd_ob 1 fe [.ref fr, .int (nI Lf.length)], gd_aB K fr 1000 ff, gd_ob 2 rd [.int t0, .long fo], gd_ob 5 mh [.int 0, .ref va, .ref re, .ref fu, .ref wi, .ref ma, .ref wo, .ref fd, .int (nI Lm.length), .int wm, .int (nI Lf.length), .int wa], gd_aJ K va 64 (vp_updL vf j v), gd_aJ K re 64 rf, gd_aZ K fu 64 (upd uf j (vp_nar .boolean 1)), gd_aZ K wi 64 wl, gd_aI K ma 720 mf, gd_aI K wo 720 wk, gd_aI K fd 1000 mff, gd_aJ K ou 1 of] [(5, .int 0), (0, .ref b), (1, .ref h), (2, .ref mh), (3, .ref ou), (4, .int (nI (4 * i)))] [] 158
      refine gd_aload_n hX 158 dd_La_law_158 rfl ?_
      refine gd_call hX (st := []) (wr := [gd_ob 4 h [.ref c, .ref sp, .ref ru, .ref md, .ref fe, .ref rd, .int wa], gd_ob 0 c [.ref ca, .long (w ||| ((1 : Int64) <<< ((nI j).toInt64 &&& 63)))], gd_aJ K ca 64 (vp_updL f j v), gd_ob 0 sp [.ref sa, .long w0], gd_aJ K sa 64 G, gd_ob 3 ru [.ref ra, .ref rb, .int n0], gd_aJ K ra 64 rn, gd_aI K rb 64 rs, gd_ob 1 md [.ref mr, .int (nI Lm.length)], gd_aB K mr 712 fm, gd_ob 1 fe [.ref fr, .int (nI Lf.length)], gd_aB K fr 1000 ff, gd_ob 2 rd [.int t0, .long fo], gd_aJ K va 64 (vp_updL vf j v), gd_aJ K re 64 rf, gd_aZ K fu 64 (upd uf j (vp_nar .boolean 1)), gd_aZ K wi 64 wl, gd_aI K ma 720 mf, gd_aI K wo 720 wk, gd_aI K fd 1000 mff, gd_aJ K ou 1 of]) (ct_Mo_thrown _ K mh va re fu wi ma wo fd 0 (nI Lm.length) wm (nI Lf.length) wa) 159 dd_La_law_159 (gd_nV hX (As := []) kw_446 kw_447 kw_448 (gd_sigOf (n := 0) kw_449 (by decide)) (by decide) 13 rfl rfl rfl rfl dd_La_law_159) (gd_codeOf kw_449) (by decide) [13] [0, 1, 2, 3, 4, 5, 6, 7, 8, 9, 10, 11, 12, 14, 15, 16, 17, 18, 19, 20, 21] rfl rfl rfl rfl rfl (by decide) (Nat.le_of_ble_eq_true rfl) (Nat.le_of_ble_eq_true rfl) (show (ce + 1) + 0 ≤ 601024 by omega) (show (sl + 6) + 0 ≤ 7293034 by omega) (fun v9 w9 h9 => ?_) (fun E9 w9 q9 h9 => h9.elim)
      obtain ⟨rfl, rfl⟩ := h9
      refine gd_wsp [gd_ob 4 h [.ref c, .ref sp, .ref ru, .ref md, .ref fe, .ref rd, .int wa], gd_ob 0 c [.ref ca, .long (w ||| ((1 : Int64) <<< ((nI j).toInt64 &&& 63)))], gd_aJ K ca 64 (vp_updL f j v), gd_ob 0 sp [.ref sa, .long w0], gd_aJ K sa 64 G, gd_ob 3 ru [.ref ra, .ref rb, .int n0], gd_aJ K ra 64 rn, gd_aI K rb 64 rs, gd_ob 1 md [.ref mr, .int (nI Lm.length)], gd_aB K mr 712 fm, gd_ob 1 fe [.ref fr, .int (nI Lf.length)], gd_aB K fr 1000 ff, gd_ob 2 rd [.int t0, .long fo], gd_ob 5 mh [.int 0, .ref va, .ref re, .ref fu, .ref wi, .ref ma, .ref wo, .ref fd, .int (nI Lm.length), .int wm, .int (nI Lf.length), .int wa], gd_aJ K va 64 (vp_updL vf j v), gd_aJ K re 64 rf, gd_aZ K fu 64 (upd uf j (vp_nar .boolean 1)), gd_aZ K wi 64 wl, gd_aI K ma 720 mf, gd_aI K wo 720 wk, gd_aI K fd 1000 mff, gd_aJ K ou 1 of] [0, 1, 2, 3, 4, 5, 6, 7, 8, 9, 10, 11, 12, 21, 13, 14, 15, 16, 17, 18, 19, 20] rfl rfl rfl ?_
      show gd_W X K (ce + 1) (sl + 6) [gd_ob 4 h [.ref c, .ref sp, .ref ru, .ref md, .ref fe, .ref rd, .int wa], gd_ob 0 c [.ref ca, .long (w ||| ((1 : Int64) <<< ((nI j).toInt64 &&& 63)))], gd_aJ K ca 64 (vp_updL f j v), gd_ob 0 sp [.ref sa, .long w0], gd_aJ K sa 64 G, gd_ob 3 ru [.ref ra, .ref rb, .int n0], gd_aJ K ra 64 rn, gd_aI K rb 64 rs, gd_ob 1 md [.ref mr, .int (nI Lm.length)], gd_aB K mr 712 fm, gd_ob 1 fe [.ref fr, .int (nI Lf.length)], gd_aB K fr 1000 ff, gd_ob 2 rd [.int t0, .long fo], gd_ob 5 mh [.int 0, .ref va, .ref re, .ref fu, .ref wi, .ref ma, .ref wo, .ref fd, .int (nI Lm.length), .int wm, .int (nI Lf.length), .int wa], gd_aJ K va 64 (vp_updL vf j v), gd_aJ K re 64 rf, gd_aZ K fu 64 (upd uf j (vp_nar .boolean 1)), gd_aZ K wi 64 wl, gd_aI K ma 720 mf, gd_aI K wo 720 wk, gd_aI K fd 1000 mff, gd_aJ K ou 1 of] [(5, .int 0), (0, .ref b), (1, .ref h), (2, .ref mh), (3, .ref ou), (4, .int (nI (4 * i)))] [.int 0] 162
      refine gd_iload hX 162 dd_La_law_162 rfl ?_
      refine gd_icmp_eq hX 164 169 dd_La_law_164 (by decide) (fun h3 => ?_) (fun h3 => ?_)
      · skip
        refine gd_goto hX 169 623 dd_La_law_169 (by decide) ?_
        refine gd_lvs [(0, .ref b), (1, .ref h), (2, .ref mh), (3, .ref ou), (4, .int (nI (4 * i)))] [1, 2, 3, 4, 5] rfl ?_
        refine gd_wide (a := ce + 2) (b := sl + 12) (by omega) (by omega) ?_
        exact kk _ _ _ _ _ _ _ _ _ _ _ _ _ _ _ _ _ _ _ _ _ _ _ _ _ _ _ _ ⟨ch_M_put hM hj v, hBm, hIm, hLm, hBf, hIf, hLf, hOf⟩
      · skip
        exact absurd rfl h3
  · skip
    obtain ⟨rfl, hno, rfl⟩ := h9
    refine gd_wsp [gd_ob 4 h [.ref c, .ref sp, .ref ru, .ref md, .ref fe, .ref rd, .int wa], gd_ob 0 c [.ref ca, .long w], gd_aJ K ca 64 f, gd_ob 0 sp [.ref sa, .long w0], gd_aJ K sa 64 G, gd_ob 3 ru [.ref ra, .ref rb, .int n0], gd_aJ K ra 64 rn, gd_aI K rb 64 rs, gd_ob 1 md [.ref mr, .int (nI Lm.length)], gd_aB K mr 712 fm, gd_ob 1 fe [.ref fr, .int (nI Lf.length)], gd_aB K fr 1000 ff, gd_ob 2 rd [.int t0, .long fo], gd_ob 5 mh [.int er, .ref va, .ref re, .ref fu, .ref wi, .ref ma, .ref wo, .ref fd, .int (nI Lm.length), .int wm, .int (nI Lf.length), .int wa], gd_aJ K va 64 vf, gd_aJ K re 64 rf, gd_aZ K fu 64 uf, gd_aZ K wi 64 wl, gd_aI K ma 720 mf, gd_aI K wo 720 wk, gd_aI K fd 1000 mff, gd_aJ K ou 1 of] [19, 20, 21, 0, 1, 2, 3, 4, 5, 6, 7, 8, 9, 10, 11, 12, 13, 14, 15, 16, 17, 18] rfl rfl rfl ?_
    show gd_W X K (ce + 1) (sl + 6) [gd_ob 4 h [.ref c, .ref sp, .ref ru, .ref md, .ref fe, .ref rd, .int wa], gd_ob 0 c [.ref ca, .long w], gd_aJ K ca 64 f, gd_ob 0 sp [.ref sa, .long w0], gd_aJ K sa 64 G, gd_ob 3 ru [.ref ra, .ref rb, .int n0], gd_aJ K ra 64 rn, gd_aI K rb 64 rs, gd_ob 1 md [.ref mr, .int (nI Lm.length)], gd_aB K mr 712 fm, gd_ob 1 fe [.ref fr, .int (nI Lf.length)], gd_aB K fr 1000 ff, gd_ob 2 rd [.int t0, .long fo], gd_ob 5 mh [.int er, .ref va, .ref re, .ref fu, .ref wi, .ref ma, .ref wo, .ref fd, .int (nI Lm.length), .int wm, .int (nI Lf.length), .int wa], gd_aJ K va 64 vf, gd_aJ K re 64 rf, gd_aZ K fu 64 uf, gd_aZ K wi 64 wl, gd_aI K ma 720 mf, gd_aI K wo 720 wk, gd_aI K fd 1000 mff, gd_aJ K ou 1 of] [(0, .ref b), (1, .ref h), (2, .ref mh), (3, .ref ou), (4, .int (nI (4 * i)))] [.int 1] 124
    refine gd_istore hX [(5, .int 1), (0, .ref b), (1, .ref h), (2, .ref mh), (3, .ref ou), (4, .int (nI (4 * i)))] 124 dd_La_law_124 (by decide) rfl ?_
    refine gd_aload_n hX 126 dd_La_law_126 rfl ?_
    refine gd_aload_n hX 127 dd_La_law_127 rfl ?_
    refine gd_iload hX 128 dd_La_law_128 rfl ?_
    refine gd_iconst hX 130 dd_La_law_130 (v := 1) (by decide) ?_
    refine gd_iadd hX 131 dd_La_law_131 ?_
    refine gd_eqi (show ((nI (4 * i)) + 1 : Int32) = nI (4 * i + 1) from nI_add _ 1) ?_
    refine gd_sld hX hsc (4 * i + 1) 132 dd_La_law_132 rfl (by omega) (by omega) ?_
    refine gd_eqi (show (xs (4 * i + 1) : Int32) = k from ek.symm) ?_
    refine gd_aload_n hX 133 dd_La_law_133 rfl ?_
    refine gd_iload hX 134 dd_La_law_134 rfl ?_
    refine gd_iconst hX 136 dd_La_law_136 (v := 2) (by decide) ?_
    refine gd_iadd hX 137 dd_La_law_137 ?_
    refine gd_eqi (show ((nI (4 * i)) + 2 : Int32) = nI (4 * i + 2) from nI_add _ 2) ?_
    refine gd_sld hX hsc (4 * i + 2) 138 dd_La_law_138 rfl (by omega) (by omega) ?_
    refine gd_i2l hX 139 dd_La_law_139 ?_
    refine gd_bipush hX 140 dd_La_law_140 (v := 32) (by decide) ?_
    refine gd_lshl hX 142 dd_La_law_142 ?_
    refine gd_aload_n hX 143 dd_La_law_143 rfl ?_
    refine gd_iload hX 144 dd_La_law_144 rfl ?_
    refine gd_iconst hX 146 dd_La_law_146 (v := 3) (by decide) ?_
    refine gd_iadd hX 147 dd_La_law_147 ?_
    refine gd_eqi (show ((nI (4 * i)) + 3 : Int32) = nI (4 * i + 3) from nI_add _ 3) ?_
    refine gd_sld hX hsc (4 * i + 3) 148 dd_La_law_148 rfl (by omega) (by omega) ?_
    refine gd_i2l hX 149 dd_La_law_149 ?_
    refine gd_ldc2 hX 150 dd_La_law_150 (v := 4294967295) kw_510 ?_
    refine gd_land hX 153 dd_La_law_153 ?_
    refine gd_lor hX 154 dd_La_law_154 ?_
    refine gd_eql (show ((((xs (4 * i + 2)).toInt64) <<< ((32 : Int32).toInt64 &&& 63)) ||| (((xs (4 * i + 3)).toInt64) &&& 4294967295) : Int64) = v from ev.symm) ?_
    refine gd_call hX (st := []) (wr := [gd_ob 4 h [.ref c, .ref sp, .ref ru, .ref md, .ref fe, .ref rd, .int wa], gd_ob 0 c [.ref ca, .long w], gd_aJ K ca 64 f, gd_ob 0 sp [.ref sa, .long w0], gd_aJ K sa 64 G, gd_ob 3 ru [.ref ra, .ref rb, .int n0], gd_aJ K ra 64 rn, gd_aI K rb 64 rs, gd_ob 1 md [.ref mr, .int (nI Lm.length)], gd_aB K mr 712 fm, gd_ob 1 fe [.ref fr, .int (nI Lf.length)], gd_aB K fr 1000 ff, gd_ob 2 rd [.int t0, .long fo], gd_aJ K re 64 rf, gd_aZ K wi 64 wl, gd_aI K ma 720 mf, gd_aI K wo 720 wk, gd_aI K fd 1000 mff, gd_aJ K ou 1 of]) (ct_Mo_put _ K mh va re fu wi ma wo fd er (nI Lm.length) wm (nI Lf.length) wa vf uf k v) 155 dd_La_law_155 (gd_nV hX (As := [.int k, .long v]) kw_450 kw_451 kw_452 (gd_sigOf (n := 2) kw_453 (by decide)) (by decide) 13 rfl rfl rfl rfl dd_La_law_155) (gd_codeOf kw_453) (by decide) [13, 14, 16] [0, 1, 2, 3, 4, 5, 6, 7, 8, 9, 10, 11, 12, 15, 17, 18, 19, 20, 21] rfl rfl rfl rfl rfl (by decide) (Nat.le_of_ble_eq_true rfl) (Nat.le_of_ble_eq_true rfl) (show (ce + 1) + 0 ≤ 601024 by omega) (show (sl + 6) + 0 ≤ 7293034 by omega) (fun v9 w9 h9 => ?_) (fun E9 w9 q9 h9 => h9.elim)
    obtain ⟨rfl, h9⟩ := h9
    rcases h9 with h9 | h9
    · skip
      obtain ⟨hno2, rfl⟩ := h9
      refine gd_wsp [gd_ob 4 h [.ref c, .ref sp, .ref ru, .ref md, .ref fe, .ref rd, .int wa], gd_ob 0 c [.ref ca, .long w], gd_aJ K ca 64 f, gd_ob 0 sp [.ref sa, .long w0], gd_aJ K sa 64 G, gd_ob 3 ru [.ref ra, .ref rb, .int n0], gd_aJ K ra 64 rn, gd_aI K rb 64 rs, gd_ob 1 md [.ref mr, .int (nI Lm.length)], gd_aB K mr 712 fm, gd_ob 1 fe [.ref fr, .int (nI Lf.length)], gd_aB K fr 1000 ff, gd_ob 2 rd [.int t0, .long fo], gd_ob 5 mh [.int 1, .ref va, .ref re, .ref fu, .ref wi, .ref ma, .ref wo, .ref fd, .int (nI Lm.length), .int wm, .int (nI Lf.length), .int wa], gd_aJ K va 64 vf, gd_aJ K re 64 rf, gd_aZ K fu 64 uf, gd_aZ K wi 64 wl, gd_aI K ma 720 mf, gd_aI K wo 720 wk, gd_aI K fd 1000 mff, gd_aJ K ou 1 of] [0, 1, 2, 3, 4, 5, 6, 7, 8, 9, 10, 11, 12, 19, 20, 13, 21, 14, 15, 16, 17, 18] rfl rfl rfl ?_
      show gd_W X K (ce + 1) (sl + 6) [gd_ob 4 h [.ref c, .ref sp, .ref ru, .ref md, .ref fe, .ref rd, .int wa], gd_ob 0 c [.ref ca, .long w], gd_aJ K ca 64 f, gd_ob 0 sp [.ref sa, .long w0], gd_aJ K sa 64 G, gd_ob 3 ru [.ref ra, .ref rb, .int n0], gd_aJ K ra 64 rn, gd_aI K rb 64 rs, gd_ob 1 md [.ref mr, .int (nI Lm.length)], gd_aB K mr 712 fm, gd_ob 1 fe [.ref fr, .int (nI Lf.length)], gd_aB K fr 1000 ff, gd_ob 2 rd [.int t0, .long fo], gd_ob 5 mh [.int 1, .ref va, .ref re, .ref fu, .ref wi, .ref ma, .ref wo, .ref fd, .int (nI Lm.length), .int wm, .int (nI Lf.length), .int wa], gd_aJ K va 64 vf, gd_aJ K re 64 rf, gd_aZ K fu 64 uf, gd_aZ K wi 64 wl, gd_aI K ma 720 mf, gd_aI K wo 720 wk, gd_aI K fd 1000 mff, gd_aJ K ou 1 of] [(5, .int 1), (0, .ref b), (1, .ref h), (2, .ref mh), (3, .ref ou), (4, .int (nI (4 * i)))] [] 158
      refine gd_aload_n hX 158 dd_La_law_158 rfl ?_
      refine gd_call hX (st := []) (wr := [gd_ob 4 h [.ref c, .ref sp, .ref ru, .ref md, .ref fe, .ref rd, .int wa], gd_ob 0 c [.ref ca, .long w], gd_aJ K ca 64 f, gd_ob 0 sp [.ref sa, .long w0], gd_aJ K sa 64 G, gd_ob 3 ru [.ref ra, .ref rb, .int n0], gd_aJ K ra 64 rn, gd_aI K rb 64 rs, gd_ob 1 md [.ref mr, .int (nI Lm.length)], gd_aB K mr 712 fm, gd_ob 1 fe [.ref fr, .int (nI Lf.length)], gd_aB K fr 1000 ff, gd_ob 2 rd [.int t0, .long fo], gd_aJ K va 64 vf, gd_aJ K re 64 rf, gd_aZ K fu 64 uf, gd_aZ K wi 64 wl, gd_aI K ma 720 mf, gd_aI K wo 720 wk, gd_aI K fd 1000 mff, gd_aJ K ou 1 of]) (ct_Mo_thrown _ K mh va re fu wi ma wo fd 1 (nI Lm.length) wm (nI Lf.length) wa) 159 dd_La_law_159 (gd_nV hX (As := []) kw_446 kw_447 kw_448 (gd_sigOf (n := 0) kw_449 (by decide)) (by decide) 13 rfl rfl rfl rfl dd_La_law_159) (gd_codeOf kw_449) (by decide) [13] [0, 1, 2, 3, 4, 5, 6, 7, 8, 9, 10, 11, 12, 14, 15, 16, 17, 18, 19, 20, 21] rfl rfl rfl rfl rfl (by decide) (Nat.le_of_ble_eq_true rfl) (Nat.le_of_ble_eq_true rfl) (show (ce + 1) + 0 ≤ 601024 by omega) (show (sl + 6) + 0 ≤ 7293034 by omega) (fun v9 w9 h9 => ?_) (fun E9 w9 q9 h9 => h9.elim)
      obtain ⟨rfl, rfl⟩ := h9
      refine gd_wsp [gd_ob 4 h [.ref c, .ref sp, .ref ru, .ref md, .ref fe, .ref rd, .int wa], gd_ob 0 c [.ref ca, .long w], gd_aJ K ca 64 f, gd_ob 0 sp [.ref sa, .long w0], gd_aJ K sa 64 G, gd_ob 3 ru [.ref ra, .ref rb, .int n0], gd_aJ K ra 64 rn, gd_aI K rb 64 rs, gd_ob 1 md [.ref mr, .int (nI Lm.length)], gd_aB K mr 712 fm, gd_ob 1 fe [.ref fr, .int (nI Lf.length)], gd_aB K fr 1000 ff, gd_ob 2 rd [.int t0, .long fo], gd_ob 5 mh [.int 1, .ref va, .ref re, .ref fu, .ref wi, .ref ma, .ref wo, .ref fd, .int (nI Lm.length), .int wm, .int (nI Lf.length), .int wa], gd_aJ K va 64 vf, gd_aJ K re 64 rf, gd_aZ K fu 64 uf, gd_aZ K wi 64 wl, gd_aI K ma 720 mf, gd_aI K wo 720 wk, gd_aI K fd 1000 mff, gd_aJ K ou 1 of] [0, 1, 2, 3, 4, 5, 6, 7, 8, 9, 10, 11, 12, 21, 13, 14, 15, 16, 17, 18, 19, 20] rfl rfl rfl ?_
      show gd_W X K (ce + 1) (sl + 6) [gd_ob 4 h [.ref c, .ref sp, .ref ru, .ref md, .ref fe, .ref rd, .int wa], gd_ob 0 c [.ref ca, .long w], gd_aJ K ca 64 f, gd_ob 0 sp [.ref sa, .long w0], gd_aJ K sa 64 G, gd_ob 3 ru [.ref ra, .ref rb, .int n0], gd_aJ K ra 64 rn, gd_aI K rb 64 rs, gd_ob 1 md [.ref mr, .int (nI Lm.length)], gd_aB K mr 712 fm, gd_ob 1 fe [.ref fr, .int (nI Lf.length)], gd_aB K fr 1000 ff, gd_ob 2 rd [.int t0, .long fo], gd_ob 5 mh [.int 1, .ref va, .ref re, .ref fu, .ref wi, .ref ma, .ref wo, .ref fd, .int (nI Lm.length), .int wm, .int (nI Lf.length), .int wa], gd_aJ K va 64 vf, gd_aJ K re 64 rf, gd_aZ K fu 64 uf, gd_aZ K wi 64 wl, gd_aI K ma 720 mf, gd_aI K wo 720 wk, gd_aI K fd 1000 mff, gd_aJ K ou 1 of] [(5, .int 1), (0, .ref b), (1, .ref h), (2, .ref mh), (3, .ref ou), (4, .int (nI (4 * i)))] [.int 1] 162
      refine gd_iload hX 162 dd_La_law_162 rfl ?_
      refine gd_icmp_eq hX 164 169 dd_La_law_164 (by decide) (fun h3 => ?_) (fun h3 => ?_)
      · skip
        refine gd_goto hX 169 623 dd_La_law_169 (by decide) ?_
        refine gd_lvs [(0, .ref b), (1, .ref h), (2, .ref mh), (3, .ref ou), (4, .int (nI (4 * i)))] [1, 2, 3, 4, 5] rfl ?_
        refine gd_wide (a := ce + 2) (b := sl + 12) (by omega) (by omega) ?_
        exact kk _ _ _ _ _ _ _ _ _ _ _ _ _ _ _ _ _ _ _ _ _ _ _ _ _ _ _ _ ⟨hM, hBm, hIm, hLm, hBf, hIf, hLf, hOf⟩
      · skip
        exact absurd rfl h3
    · skip
      obtain ⟨j2, hj2, hk2, rfl⟩ := h9
      refine gd_wsp [gd_ob 4 h [.ref c, .ref sp, .ref ru, .ref md, .ref fe, .ref rd, .int wa], gd_ob 0 c [.ref ca, .long w], gd_aJ K ca 64 f, gd_ob 0 sp [.ref sa, .long w0], gd_aJ K sa 64 G, gd_ob 3 ru [.ref ra, .ref rb, .int n0], gd_aJ K ra 64 rn, gd_aI K rb 64 rs, gd_ob 1 md [.ref mr, .int (nI Lm.length)], gd_aB K mr 712 fm, gd_ob 1 fe [.ref fr, .int (nI Lf.length)], gd_aB K fr 1000 ff, gd_ob 2 rd [.int t0, .long fo], gd_ob 5 mh [.int 0, .ref va, .ref re, .ref fu, .ref wi, .ref ma, .ref wo, .ref fd, .int (nI Lm.length), .int wm, .int (nI Lf.length), .int wa], gd_aJ K va 64 (vp_updL vf j2 v), gd_aJ K re 64 rf, gd_aZ K fu 64 (upd uf j2 (vp_nar .boolean 1)), gd_aZ K wi 64 wl, gd_aI K ma 720 mf, gd_aI K wo 720 wk, gd_aI K fd 1000 mff, gd_aJ K ou 1 of] [0, 1, 2, 3, 4, 5, 6, 7, 8, 9, 10, 11, 12, 19, 20, 13, 21, 14, 15, 16, 17, 18] rfl rfl rfl ?_
      show gd_W X K (ce + 1) (sl + 6) [gd_ob 4 h [.ref c, .ref sp, .ref ru, .ref md, .ref fe, .ref rd, .int wa], gd_ob 0 c [.ref ca, .long w], gd_aJ K ca 64 f, gd_ob 0 sp [.ref sa, .long w0], gd_aJ K sa 64 G, gd_ob 3 ru [.ref ra, .ref rb, .int n0], gd_aJ K ra 64 rn, gd_aI K rb 64 rs, gd_ob 1 md [.ref mr, .int (nI Lm.length)], gd_aB K mr 712 fm, gd_ob 1 fe [.ref fr, .int (nI Lf.length)], gd_aB K fr 1000 ff, gd_ob 2 rd [.int t0, .long fo], gd_ob 5 mh [.int 0, .ref va, .ref re, .ref fu, .ref wi, .ref ma, .ref wo, .ref fd, .int (nI Lm.length), .int wm, .int (nI Lf.length), .int wa], gd_aJ K va 64 (vp_updL vf j2 v), gd_aJ K re 64 rf, gd_aZ K fu 64 (upd uf j2 (vp_nar .boolean 1)), gd_aZ K wi 64 wl, gd_aI K ma 720 mf, gd_aI K wo 720 wk, gd_aI K fd 1000 mff, gd_aJ K ou 1 of] [(5, .int 1), (0, .ref b), (1, .ref h), (2, .ref mh), (3, .ref ou), (4, .int (nI (4 * i)))] [] 158
      rw [hk2, ch_no_nI hj2] at hno; cases hno
