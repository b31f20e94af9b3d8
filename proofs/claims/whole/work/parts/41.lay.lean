theorem ch_len1 (A : List Nat) (x : Nat) : (A ++ [x]).length = A.length + 1 := by simp
set_option maxRecDepth 100000 in
set_option maxHeartbeats 4000000 in
theorem ct_Mo_lay (l : Launch) (K : gd_K) (h va re fu wi ma wo fd : Nat) (er mm wm mn pl : Int32) (w : Int64) (f vf : Nat → Int64) (uf : Nat → Int32) (hM : ch_M w f vf uf) (wk : Nat → Int32) : gd_M l yy_Mo_lay bb_Mo_lay 13 (some .int) [] 1 14 0 0 K [.ref h] [gd_ob 5 h [.int er, .ref va, .ref re, .ref fu, .ref wi, .ref ma, .ref wo, .ref fd, .int mm, .int wm, .int mn, .int pl], gd_aJ K va 64 vf, gd_aZ K fu 64 uf, gd_aI K wo 720 wk] (fun v9 w1 => v9 = some (.int (nI (ch_runs w f 64).length)) ∧ ∃ wk', w1 = [gd_ob 5 h [.int er, .ref va, .ref re, .ref fu, .ref wi, .ref ma, .ref wo, .ref fd, .int mm, .int (nI (ch_code w f).length), .int mn, .int pl], gd_aJ K va 64 vf, gd_aZ K fu 64 uf, gd_aI K wo 720 wk'] ∧ ch_I wk' (ch_code w f)) (fun _ _ => False) := by
  refine gd_body (Nat.le_of_ble_eq_true rfl) (fun X hXl hin hE hX => ?_)
  have loop : ∀ (m k : Nat) (E : List (Int64 × Nat)) (wk : Nat → Int32), 64 ≤ k + m → k ≤ 64 → (k < 64 → ch_bit w k = true ∧ (E = [] ∨ ch_hd E ≠ f k)) → ch_runs w f k = E → ch_I wk (ch_WL w E) → gd_W X K 0 0 [gd_ob 5 h [.int er, .ref va, .ref re, .ref fu, .ref wi, .ref ma, .ref wo, .ref fd, .int mm, .int (nI (ch_WL w E).length), .int mn, .int pl], gd_aJ K va 64 vf, gd_aZ K fu 64 uf, gd_aI K wo 720 wk] [(0, .ref h), (1, .int (nI E.length)), (2, .int (nI k)), (3, .long (ch_hd E))] [] 77 := by
    intro m
    induction m with
    | zero =>
      intro k E wk hm hk hb hE9 hI
      obtain rfl : k = 64 := by omega
      refine gd_iload_n hX 77 dd_Mo_lay_77 rfl ?_
      refine gd_bipush hX 78 dd_Mo_lay_78 (v := 64) (by decide) ?_
      refine gd_icmp_ge hX 80 228 dd_Mo_lay_80 (by decide) (fun h1 => ?_) (fun h1 => ?_)
      · skip
        refine gd_iload_n hX 228 dd_Mo_lay_228 rfl ?_
        exact gd_iret hX hE 229 dd_Mo_lay_229 ⟨by rw [← hE9], _, by unfold ch_code; rw [hE9]; rfl, by unfold ch_code; rw [hE9]; exact hI⟩
      · skip
        exact absurd (by decide) h1
    | succ m ih =>
      intro k E wk hm hk hb hE9 hI
      refine gd_iload_n hX 77 dd_Mo_lay_77 rfl ?_
      refine gd_bipush hX 78 dd_Mo_lay_78 (v := 64) (by decide) ?_
      refine gd_icmp_ge hX 80 228 dd_Mo_lay_80 (by decide) (fun h1 => ?_) (fun h1 => ?_)
      · skip
        obtain rfl : k = 64 := by have := (nI_leI (a := 64) (by decide) (by omega)).mp h1; omega
        refine gd_iload_n hX 228 dd_Mo_lay_228 rfl ?_
        exact gd_iret hX hE 229 dd_Mo_lay_229 ⟨by rw [← hE9], _, by unfold ch_code; rw [hE9]; rfl, by unfold ch_code; rw [hE9]; exact hI⟩
      · skip
        have hk1 : k < 64 := Nat.lt_of_not_le (fun q => h1 ((nI_leI (a := 64) (by decide) (by omega)).mpr q))
        obtain ⟨hbk, hEv⟩ := hb hk1
        have hEl := ch_runs_len w f k
        rw [hE9] at hEl
        have hWl := ch_WL_len w E
        have dw : ∀ (n k2 : Nat), k2 ≤ 64 → k < k2 → (k2 < 64 → ch_bit w k2 = true ∧ f k ≠ f k2) → ch_runs w f k2 = (f k, n) :: E → ∀ (q : Nat) (x : Int64) (P : List Nat) (wk : Nat → Int32), ch_num 9 (uN (ch_zz (f k - ch_hd E))) = P ++ ch_num q (uN x) → uN x < 2 * 128 ^ q → ch_I wk ((ch_WL w E ++ [n]) ++ P) → gd_W X K 0 0 [gd_ob 5 h [.int er, .ref va, .ref re, .ref fu, .ref wi, .ref ma, .ref wo, .ref fd, .int mm, .int (nI ((ch_WL w E ++ [n]) ++ P).length), .int mn, .int pl], gd_aJ K va 64 vf, gd_aZ K fu 64 uf, gd_aI K wo 720 wk] [(0, .ref h), (1, .int (nI E.length)), (2, .int (nI k2)), (3, .long (ch_hd E)), (5, .int (nI n)), (6, .long (f k)), (8, .long (f k - ch_hd E)), (10, .long x)] [] 162 := by
          intro n k2 hk2 hkk hb2 hr2 q
          have hE2 : (ch_WL w ((f k, n) :: E)).length ≤ 712 := by have h7 := ch_WL_len w ((f k, n) :: E); have h8 := ch_runs_len w f k2; rw [hr2] at h8; omega
          rw [ch_WL_step, List.length_append] at hE2
          induction q with
          | zero =>
            intro x P wk hN hx hI
            obtain ⟨q0, hq0⟩ : ∃ q0, q0 = 0 := ⟨_, rfl⟩
            rw [← hq0] at hN
            refine gd_lload hX 162 dd_Mo_lay_162 rfl ?_
            refine gd_ldc2 hX 164 dd_Mo_lay_164 (v := 127) kw_485 ?_
            refine gd_land hX 167 dd_Mo_lay_167 ?_
            refine gd_l2i hX 168 dd_Mo_lay_168 ?_
            refine gd_eqi (show ((x &&& 127).toInt32 : Int32) = nI (uN x % 128) from ch_low7 x) ?_
            refine gd_istore hX [(12, .int (nI (uN x % 128))), (0, .ref h), (1, .int (nI E.length)), (2, .int (nI k2)), (3, .long (ch_hd E)), (5, .int (nI n)), (6, .long (f k)), (8, .long (f k - ch_hd E)), (10, .long x)] 169 dd_Mo_lay_169 (by decide) rfl ?_
            refine gd_lload hX 171 dd_Mo_lay_171 rfl ?_
            refine gd_bipush hX 173 dd_Mo_lay_173 (v := 7) (by decide) ?_
            refine gd_lushr hX 175 dd_Mo_lay_175 ?_
            obtain ⟨y, hy⟩ : ∃ y, y = (x.toUInt64 >>> ((7 : Int32).toInt64.toUInt64 &&& Int64.toUInt64 63)).toInt64 := ⟨_, rfl⟩
            refine gd_eql (show ((x.toUInt64 >>> ((7 : Int32).toInt64.toUInt64 &&& Int64.toUInt64 63)).toInt64 : Int64) = y from hy.symm) ?_
            have hyu : uN y = uN x / 128 := by rw [hy]; exact ch_sk7 x
            refine gd_lstore hX [(10, .long y), (12, .int (nI (uN x % 128))), (0, .ref h), (1, .int (nI E.length)), (2, .int (nI k2)), (3, .long (ch_hd E)), (5, .int (nI n)), (6, .long (f k)), (8, .long (f k - ch_hd E))] 176 dd_Mo_lay_176 (by decide) rfl ?_
            refine gd_aload_n hX 178 dd_Mo_lay_178 rfl ?_
            refine gd_get hX inC_Mo 0 6 179 dd_Mo_lay_179 rfl rfl (by decide) kw_414 rfl ?_
            refine gd_aload_n hX 182 dd_Mo_lay_182 rfl ?_
            refine gd_dup hX 183 dd_Mo_lay_183 rfl ?_
            refine gd_get hX inC_Mo 0 9 184 dd_Mo_lay_184 rfl rfl (by decide) kw_417 rfl ?_
            refine gd_dup_x1 hX 187 dd_Mo_lay_187 rfl rfl ?_
            refine gd_iconst hX 188 dd_Mo_lay_188 (v := 1) (by decide) ?_
            refine gd_iadd hX 189 dd_Mo_lay_189 ?_
            refine gd_eqi (show ((nI ((ch_WL w E ++ [n]) ++ P).length) + 1 : Int32) = nI (((ch_WL w E ++ [n]) ++ P).length + 1) from nI_1 _) ?_
            refine gd_put hX inC_Mo ty_Mo tyk_Mo nm_Mo 0 9 [gd_ob 5 h [.int er, .ref va, .ref re, .ref fu, .ref wi, .ref ma, .ref wo, .ref fd, .int mm, .int (nI (((ch_WL w E ++ [n]) ++ P).length + 1)), .int mn, .int pl], gd_aJ K va 64 vf, gd_aZ K fu 64 uf, gd_aI K wo 720 wk] 190 dd_Mo_lay_190 rfl rfl (by decide) kw_417 rfl rfl rfl (Nat.le_of_ble_eq_true rfl) rfl ?_
            refine gd_lload hX 193 dd_Mo_lay_193 rfl ?_
            refine gd_lconst hX 195 dd_Mo_lay_195 (v := 0) (by decide) ?_
            refine gd_lcmp hX 196 dd_Mo_lay_196 ?_
            refine gd_if_ne hX 197 205 dd_Mo_lay_197 (by decide) (fun h2 => ?_) (fun h2 => ?_)
            · skip
              exact absurd (ch_cmp0.mpr (ch_l0.mpr (by rw [hyu]; simp at hx; omega))) h2
            · skip
              have hy0 : uN x < 128 := by have := ch_l0.mp (ch_cmp0.mp h2); rw [hyu] at this; omega
              have hns := ch_num_s (fu := q0) hy0
              rw [hns] at hN
              have hlen : ((ch_WL w E ++ [n]) ++ P).length + 1 ≤ 712 := by rw [hN] at hE2; simp only [List.length_append, List.length_cons, List.length_nil] at hE2 ⊢; omega
              refine gd_iload hX 200 dd_Mo_lay_200 rfl ?_
              refine gd_goto hX 202 211 dd_Mo_lay_202 (by decide) ?_
              refine gd_eqi (show (nI (uN x % 128) : Int32) = nI (uN x) from by rw [Nat.mod_eq_of_lt hy0]) ?_
              refine gd_iast hX 3 (((ch_WL w E ++ [n]) ++ P).length) [gd_ob 5 h [.int er, .ref va, .ref re, .ref fu, .ref wi, .ref ma, .ref wo, .ref fd, .int mm, .int (nI (((ch_WL w E ++ [n]) ++ P).length + 1)), .int mn, .int pl], gd_aJ K va 64 vf, gd_aZ K fu 64 uf, gd_aI K wo 720 (upd wk (((ch_WL w E ++ [n]) ++ P).length) (nI (uN x)))] 211 dd_Mo_lay_211 rfl rfl (by omega) (by decide) rfl ?_
              have hI2 := ch_I_add (x := nI (uN x)) hI rfl
              have e9 : ((ch_WL w E ++ [n]) ++ P) ++ [uN x] = ch_WL w ((f k, n) :: E) := by rw [ch_WL_step, hN, List.append_assoc (ch_WL w E ++ [n])]
              rw [e9] at hI2
              refine gd_lload hX 212 dd_Mo_lay_212 rfl ?_
              refine gd_lconst hX 214 dd_Mo_lay_214 (v := 0) (by decide) ?_
              refine gd_lcmp hX 215 dd_Mo_lay_215 ?_
              refine gd_if_ne hX 216 162 dd_Mo_lay_216 (by decide) (fun h3 => ?_) (fun h3 => ?_)
              · skip
                exact absurd h2 h3
              · skip
                refine gd_lload hX 219 dd_Mo_lay_219 rfl ?_
                refine gd_lstore_n hX [(3, .long (f k)), (10, .long y), (12, .int (nI (uN x % 128))), (0, .ref h), (1, .int (nI E.length)), (2, .int (nI k2)), (5, .int (nI n)), (6, .long (f k)), (8, .long (f k - ch_hd E))] 221 dd_Mo_lay_221 rfl (by decide) rfl ?_
                refine gd_iinc hX 4 [(1, .int (nI (E.length + 1))), (3, .long (f k)), (10, .long y), (12, .int (nI (uN x % 128))), (0, .ref h), (2, .int (nI k2)), (5, .int (nI n)), (6, .long (f k)), (8, .long (f k - ch_hd E))] 222 dd_Mo_lay_222 rfl (gd_inc E.length) (by decide) rfl ?_
                refine gd_goto hX 225 77 dd_Mo_lay_225 (by decide) ?_
                show gd_W X K 0 0 [gd_ob 5 h [.int er, .ref va, .ref re, .ref fu, .ref wi, .ref ma, .ref wo, .ref fd, .int mm, .int (nI (((ch_WL w E ++ [n]) ++ P).length + 1)), .int mn, .int pl], gd_aJ K va 64 vf, gd_aZ K fu 64 uf, gd_aI K wo 720 (upd wk (((ch_WL w E ++ [n]) ++ P).length) (nI (uN x)))] [(1, .int (nI ((f k, n) :: E).length)), (3, .long (ch_hd ((f k, n) :: E))), (10, .long y), (12, .int (nI (uN x % 128))), (0, .ref h), (2, .int (nI k2)), (5, .int (nI n)), (6, .long (f k)), (8, .long (f k - ch_hd E))] [] 77
                refine gd_lvs [(0, .ref h), (1, .int (nI ((f k, n) :: E).length)), (2, .int (nI k2)), (3, .long (ch_hd ((f k, n) :: E)))] [4, 0, 5, 1] rfl ?_
                have e10 : nI (((ch_WL w E ++ [n]) ++ P).length + 1) = nI (ch_WL w ((f k, n) :: E)).length := by rw [← e9, ch_len1]
                rw [e10]
                exact ih k2 ((f k, n) :: E) _ (by omega) hk2 (fun q => ⟨(hb2 q).1, Or.inr (hb2 q).2⟩) hr2 hI2
          | succ q ihq =>
            intro x P wk hN hx hI
            refine gd_lload hX 162 dd_Mo_lay_162 rfl ?_
            refine gd_ldc2 hX 164 dd_Mo_lay_164 (v := 127) kw_485 ?_
            refine gd_land hX 167 dd_Mo_lay_167 ?_
            refine gd_l2i hX 168 dd_Mo_lay_168 ?_
            refine gd_eqi (show ((x &&& 127).toInt32 : Int32) = nI (uN x % 128) from ch_low7 x) ?_
            refine gd_istore hX [(12, .int (nI (uN x % 128))), (0, .ref h), (1, .int (nI E.length)), (2, .int (nI k2)), (3, .long (ch_hd E)), (5, .int (nI n)), (6, .long (f k)), (8, .long (f k - ch_hd E)), (10, .long x)] 169 dd_Mo_lay_169 (by decide) rfl ?_
            refine gd_lload hX 171 dd_Mo_lay_171 rfl ?_
            refine gd_bipush hX 173 dd_Mo_lay_173 (v := 7) (by decide) ?_
            refine gd_lushr hX 175 dd_Mo_lay_175 ?_
            obtain ⟨y, hy⟩ : ∃ y, y = (x.toUInt64 >>> ((7 : Int32).toInt64.toUInt64 &&& Int64.toUInt64 63)).toInt64 := ⟨_, rfl⟩
            refine gd_eql (show ((x.toUInt64 >>> ((7 : Int32).toInt64.toUInt64 &&& Int64.toUInt64 63)).toInt64 : Int64) = y from hy.symm) ?_
            have hyu : uN y = uN x / 128 := by rw [hy]; exact ch_sk7 x
            refine gd_lstore hX [(10, .long y), (12, .int (nI (uN x % 128))), (0, .ref h), (1, .int (nI E.length)), (2, .int (nI k2)), (3, .long (ch_hd E)), (5, .int (nI n)), (6, .long (f k)), (8, .long (f k - ch_hd E))] 176 dd_Mo_lay_176 (by decide) rfl ?_
            refine gd_aload_n hX 178 dd_Mo_lay_178 rfl ?_
            refine gd_get hX inC_Mo 0 6 179 dd_Mo_lay_179 rfl rfl (by decide) kw_414 rfl ?_
            refine gd_aload_n hX 182 dd_Mo_lay_182 rfl ?_
            refine gd_dup hX 183 dd_Mo_lay_183 rfl ?_
            refine gd_get hX inC_Mo 0 9 184 dd_Mo_lay_184 rfl rfl (by decide) kw_417 rfl ?_
            refine gd_dup_x1 hX 187 dd_Mo_lay_187 rfl rfl ?_
            refine gd_iconst hX 188 dd_Mo_lay_188 (v := 1) (by decide) ?_
            refine gd_iadd hX 189 dd_Mo_lay_189 ?_
            refine gd_eqi (show ((nI ((ch_WL w E ++ [n]) ++ P).length) + 1 : Int32) = nI (((ch_WL w E ++ [n]) ++ P).length + 1) from nI_1 _) ?_
            refine gd_put hX inC_Mo ty_Mo tyk_Mo nm_Mo 0 9 [gd_ob 5 h [.int er, .ref va, .ref re, .ref fu, .ref wi, .ref ma, .ref wo, .ref fd, .int mm, .int (nI (((ch_WL w E ++ [n]) ++ P).length + 1)), .int mn, .int pl], gd_aJ K va 64 vf, gd_aZ K fu 64 uf, gd_aI K wo 720 wk] 190 dd_Mo_lay_190 rfl rfl (by decide) kw_417 rfl rfl rfl (Nat.le_of_ble_eq_true rfl) rfl ?_
            refine gd_lload hX 193 dd_Mo_lay_193 rfl ?_
            refine gd_lconst hX 195 dd_Mo_lay_195 (v := 0) (by decide) ?_
            refine gd_lcmp hX 196 dd_Mo_lay_196 ?_
            refine gd_if_ne hX 197 205 dd_Mo_lay_197 (by decide) (fun h2 => ?_) (fun h2 => ?_)
            · skip
              have hy0 : ¬ uN x < 128 := fun h => h2 (ch_cmp0.mpr (ch_l0.mpr (by rw [hyu]; omega)))
              rw [ch_num_b hy0, ← hyu] at hN
              have hlen : ((ch_WL w E ++ [n]) ++ P).length + 1 ≤ 712 := by rw [hN] at hE2; simp only [List.length_append, List.length_cons, List.length_nil] at hE2 ⊢; omega
              refine gd_iload hX 205 dd_Mo_lay_205 rfl ?_
              refine gd_sipush hX 207 dd_Mo_lay_207 (v := 128) (by decide) ?_
              refine gd_iadd hX 210 dd_Mo_lay_210 ?_
              refine gd_eqi (show ((nI (uN x % 128)) + 128 : Int32) = nI (uN x % 128 + 128) from nI_add _ 128) ?_
              refine gd_iast hX 3 (((ch_WL w E ++ [n]) ++ P).length) [gd_ob 5 h [.int er, .ref va, .ref re, .ref fu, .ref wi, .ref ma, .ref wo, .ref fd, .int mm, .int (nI (((ch_WL w E ++ [n]) ++ P).length + 1)), .int mn, .int pl], gd_aJ K va 64 vf, gd_aZ K fu 64 uf, gd_aI K wo 720 (upd wk (((ch_WL w E ++ [n]) ++ P).length) (nI (uN x % 128 + 128)))] 211 dd_Mo_lay_211 rfl rfl (by omega) (by decide) rfl ?_
              have hI2 := ch_I_add (x := nI (uN x % 128 + 128)) hI rfl
              have e9 : ((ch_WL w E ++ [n]) ++ P) ++ [uN x % 128 + 128] = (ch_WL w E ++ [n]) ++ (P ++ [uN x % 128 + 128]) := by rw [List.append_assoc (ch_WL w E ++ [n])]
              rw [e9] at hI2
              refine gd_lload hX 212 dd_Mo_lay_212 rfl ?_
              refine gd_lconst hX 214 dd_Mo_lay_214 (v := 0) (by decide) ?_
              refine gd_lcmp hX 215 dd_Mo_lay_215 ?_
              refine gd_if_ne hX 216 162 dd_Mo_lay_216 (by decide) (fun h3 => ?_) (fun h3 => ?_)
              · skip
                have e10 : nI (((ch_WL w E ++ [n]) ++ P).length + 1) = nI ((ch_WL w E ++ [n]) ++ (P ++ [uN x % 128 + 128])).length := by rw [← e9, ch_len1]
                rw [e10]
                refine gd_lvs [(0, .ref h), (1, .int (nI E.length)), (2, .int (nI k2)), (3, .long (ch_hd E)), (5, .int (nI n)), (6, .long (f k)), (8, .long (f k - ch_hd E)), (10, .long y)] [2, 3, 4, 5, 6, 7, 8, 0] rfl ?_
                exact ihq y (P ++ [uN x % 128 + 128]) _ (by rw [hN, List.append_assoc]; rfl) (by rw [hyu, Nat.pow_succ] at *; omega) hI2
              · skip
                exact absurd h3 h2
            · skip
              obtain ⟨q0, hq0⟩ : ∃ q0, q0 = q + 1 := ⟨_, rfl⟩
              rw [← hq0] at hN
              have hy0 : uN x < 128 := by have := ch_l0.mp (ch_cmp0.mp h2); rw [hyu] at this; omega
              have hns := ch_num_s (fu := q0) hy0
              rw [hns] at hN
              have hlen : ((ch_WL w E ++ [n]) ++ P).length + 1 ≤ 712 := by rw [hN] at hE2; simp only [List.length_append, List.length_cons, List.length_nil] at hE2 ⊢; omega
              refine gd_iload hX 200 dd_Mo_lay_200 rfl ?_
              refine gd_goto hX 202 211 dd_Mo_lay_202 (by decide) ?_
              refine gd_eqi (show (nI (uN x % 128) : Int32) = nI (uN x) from by rw [Nat.mod_eq_of_lt hy0]) ?_
              refine gd_iast hX 3 (((ch_WL w E ++ [n]) ++ P).length) [gd_ob 5 h [.int er, .ref va, .ref re, .ref fu, .ref wi, .ref ma, .ref wo, .ref fd, .int mm, .int (nI (((ch_WL w E ++ [n]) ++ P).length + 1)), .int mn, .int pl], gd_aJ K va 64 vf, gd_aZ K fu 64 uf, gd_aI K wo 720 (upd wk (((ch_WL w E ++ [n]) ++ P).length) (nI (uN x)))] 211 dd_Mo_lay_211 rfl rfl (by omega) (by decide) rfl ?_
              have hI2 := ch_I_add (x := nI (uN x)) hI rfl
              have e9 : ((ch_WL w E ++ [n]) ++ P) ++ [uN x] = ch_WL w ((f k, n) :: E) := by rw [ch_WL_step, hN, List.append_assoc (ch_WL w E ++ [n])]
              rw [e9] at hI2
              refine gd_lload hX 212 dd_Mo_lay_212 rfl ?_
              refine gd_lconst hX 214 dd_Mo_lay_214 (v := 0) (by decide) ?_
              refine gd_lcmp hX 215 dd_Mo_lay_215 ?_
              refine gd_if_ne hX 216 162 dd_Mo_lay_216 (by decide) (fun h3 => ?_) (fun h3 => ?_)
              · skip
                exact absurd h2 h3
              · skip
                refine gd_lload hX 219 dd_Mo_lay_219 rfl ?_
                refine gd_lstore_n hX [(3, .long (f k)), (10, .long y), (12, .int (nI (uN x % 128))), (0, .ref h), (1, .int (nI E.length)), (2, .int (nI k2)), (5, .int (nI n)), (6, .long (f k)), (8, .long (f k - ch_hd E))] 221 dd_Mo_lay_221 rfl (by decide) rfl ?_
                refine gd_iinc hX 4 [(1, .int (nI (E.length + 1))), (3, .long (f k)), (10, .long y), (12, .int (nI (uN x % 128))), (0, .ref h), (2, .int (nI k2)), (5, .int (nI n)), (6, .long (f k)), (8, .long (f k - ch_hd E))] 222 dd_Mo_lay_222 rfl (gd_inc E.length) (by decide) rfl ?_
                refine gd_goto hX 225 77 dd_Mo_lay_225 (by decide) ?_
                show gd_W X K 0 0 [gd_ob 5 h [.int er, .ref va, .ref re, .ref fu, .ref wi, .ref ma, .ref wo, .ref fd, .int mm, .int (nI (((ch_WL w E ++ [n]) ++ P).length + 1)), .int mn, .int pl], gd_aJ K va 64 vf, gd_aZ K fu 64 uf, gd_aI K wo 720 (upd wk (((ch_WL w E ++ [n]) ++ P).length) (nI (uN x)))] [(1, .int (nI ((f k, n) :: E).length)), (3, .long (ch_hd ((f k, n) :: E))), (10, .long y), (12, .int (nI (uN x % 128))), (0, .ref h), (2, .int (nI k2)), (5, .int (nI n)), (6, .long (f k)), (8, .long (f k - ch_hd E))] [] 77
                refine gd_lvs [(0, .ref h), (1, .int (nI ((f k, n) :: E).length)), (2, .int (nI k2)), (3, .long (ch_hd ((f k, n) :: E)))] [4, 0, 5, 1] rfl ?_
                have e10 : nI (((ch_WL w E ++ [n]) ++ P).length + 1) = nI (ch_WL w ((f k, n) :: E)).length := by rw [← e9, ch_len1]
                rw [e10]
                exact ih k2 ((f k, n) :: E) _ (by omega) hk2 (fun q => ⟨(hb2 q).1, Or.inr (hb2 q).2⟩) hr2 hI2
        have inner : ∀ (p n k2 : Nat), 64 ≤ k2 + p → k2 ≤ 64 → (k2 < 64 → ch_bit w k2 = true) → ((n = 0 ∧ k2 = k) ∨ (k < k2 ∧ ch_runs w f k2 = (f k, n) :: E)) → gd_W X K 0 0 [gd_ob 5 h [.int er, .ref va, .ref re, .ref fu, .ref wi, .ref ma, .ref wo, .ref fd, .int mm, .int (nI (ch_WL w E).length), .int mn, .int pl], gd_aJ K va 64 vf, gd_aZ K fu 64 uf, gd_aI K wo 720 wk] [(0, .ref h), (1, .int (nI E.length)), (2, .int (nI k2)), (3, .long (ch_hd E)), (5, .int (nI n)), (6, .long (f k)), (8, .long (f k - ch_hd E))] [] 100 := by
          intro p
          induction p with
          | zero =>
            intro n k2 hp hk2 hb2 hc
            obtain rfl : k2 = 64 := by omega
            obtain ⟨hkk, hr2⟩ : k < 64 ∧ ch_runs w f 64 = (f k, n) :: E := by rcases hc with h | h; { omega }; { exact h }
            refine gd_iload_n hX 100 dd_Mo_lay_100 rfl ?_
            refine gd_bipush hX 101 dd_Mo_lay_101 (v := 64) (by decide) ?_
            refine gd_icmp_ge hX 103 132 dd_Mo_lay_103 (by decide) (fun h2 => ?_) (fun h2 => ?_)
            · skip
              obtain ⟨k2, hk9⟩ : ∃ k2, k2 = 64 := ⟨_, rfl⟩
              rw [← hk9] at hkk hr2
              have hk2 : k2 ≤ 64 := by omega
              rw [show nI 64 = nI k2 by rw [hk9]]
              have hb3 : k2 < 64 → ch_bit w k2 = true ∧ f k ≠ f k2 := fun q => absurd q (by omega)
              have hn64 : n ≤ 64 := by have := ch_runs_sz w f k2 (f k, n) (by rw [hr2]; exact List.mem_cons_self); show n ≤ 64; have h7 : n ≤ k2 := this; omega
              refine gd_aload_n hX 132 dd_Mo_lay_132 rfl ?_
              refine gd_get hX inC_Mo 0 6 133 dd_Mo_lay_133 rfl rfl (by decide) kw_414 rfl ?_
              refine gd_aload_n hX 136 dd_Mo_lay_136 rfl ?_
              refine gd_dup hX 137 dd_Mo_lay_137 rfl ?_
              refine gd_get hX inC_Mo 0 9 138 dd_Mo_lay_138 rfl rfl (by decide) kw_417 rfl ?_
              refine gd_dup_x1 hX 141 dd_Mo_lay_141 rfl rfl ?_
              refine gd_iconst hX 142 dd_Mo_lay_142 (v := 1) (by decide) ?_
              refine gd_iadd hX 143 dd_Mo_lay_143 ?_
              refine gd_eqi (show ((nI (ch_WL w E).length) + 1 : Int32) = nI ((ch_WL w E).length + 1) from nI_1 _) ?_
              refine gd_put hX inC_Mo ty_Mo tyk_Mo nm_Mo 0 9 [gd_ob 5 h [.int er, .ref va, .ref re, .ref fu, .ref wi, .ref ma, .ref wo, .ref fd, .int mm, .int (nI ((ch_WL w E).length + 1)), .int mn, .int pl], gd_aJ K va 64 vf, gd_aZ K fu 64 uf, gd_aI K wo 720 wk] 144 dd_Mo_lay_144 rfl rfl (by decide) kw_417 rfl rfl rfl (Nat.le_of_ble_eq_true rfl) rfl ?_
              refine gd_iload hX 147 dd_Mo_lay_147 rfl ?_
              refine gd_iast hX 3 ((ch_WL w E).length) [gd_ob 5 h [.int er, .ref va, .ref re, .ref fu, .ref wi, .ref ma, .ref wo, .ref fd, .int mm, .int (nI ((ch_WL w E).length + 1)), .int mn, .int pl], gd_aJ K va 64 vf, gd_aZ K fu 64 uf, gd_aI K wo 720 (upd wk ((ch_WL w E).length) (nI n))] 149 dd_Mo_lay_149 rfl rfl (by omega) (by decide) rfl ?_
              have hI2 := ch_I_add (x := nI n) hI rfl
              refine gd_lload hX 150 dd_Mo_lay_150 rfl ?_
              refine gd_iconst hX 152 dd_Mo_lay_152 (v := 1) (by decide) ?_
              refine gd_lshl hX 153 dd_Mo_lay_153 ?_
              refine gd_lload hX 154 dd_Mo_lay_154 rfl ?_
              refine gd_bipush hX 156 dd_Mo_lay_156 (v := 63) (by decide) ?_
              refine gd_lshr hX 158 dd_Mo_lay_158 ?_
              refine gd_lxor hX 159 dd_Mo_lay_159 ?_
              refine gd_eql (show (((f k - ch_hd E) <<< ((1 : Int32).toInt64 &&& 63)) ^^^ ((f k - ch_hd E) >>> ((63 : Int32).toInt64 &&& 63)) : Int64) = ch_zz (f k - ch_hd E) from rfl) ?_
              refine gd_lstore hX [(10, .long (ch_zz (f k - ch_hd E))), (0, .ref h), (1, .int (nI E.length)), (2, .int (nI k2)), (3, .long (ch_hd E)), (5, .int (nI n)), (6, .long (f k)), (8, .long (f k - ch_hd E))] 160 dd_Mo_lay_160 (by decide) rfl ?_
              have e9 : ch_WL w E ++ [n] = (ch_WL w E ++ [n]) ++ [] := by simp
              have e10 : nI ((ch_WL w E).length + 1) = nI ((ch_WL w E ++ [n]) ++ []).length := by rw [← e9, ch_len1]
              rw [e9] at hI2
              rw [e10]
              refine gd_lvs [(0, .ref h), (1, .int (nI E.length)), (2, .int (nI k2)), (3, .long (ch_hd E)), (5, .int (nI n)), (6, .long (f k)), (8, .long (f k - ch_hd E)), (10, .long (ch_zz (f k - ch_hd E)))] [1, 2, 3, 4, 5, 6, 7, 0] rfl ?_
              exact dw n k2 hk2 hkk hb3 hr2 9 _ [] _ rfl (uN_lt _) hI2
            · skip
              exact absurd (by decide) h2
          | succ p ihp =>
            intro n k2 hp hk2 hb2 hc
            refine gd_iload_n hX 100 dd_Mo_lay_100 rfl ?_
            refine gd_bipush hX 101 dd_Mo_lay_101 (v := 64) (by decide) ?_
            refine gd_icmp_ge hX 103 132 dd_Mo_lay_103 (by decide) (fun h2 => ?_) (fun h2 => ?_)
            · skip
              have hk9 : k2 = 64 := by have := (nI_leI (a := 64) (by decide) (by omega)).mp h2; omega
              obtain ⟨hkk, hr2⟩ : k < k2 ∧ ch_runs w f k2 = (f k, n) :: E := by rcases hc with h | h; { omega }; { exact h }
              have hb3 : k2 < 64 → ch_bit w k2 = true ∧ f k ≠ f k2 := fun q => absurd q (by omega)
              have hn64 : n ≤ 64 := by have := ch_runs_sz w f k2 (f k, n) (by rw [hr2]; exact List.mem_cons_self); show n ≤ 64; have h7 : n ≤ k2 := this; omega
              refine gd_aload_n hX 132 dd_Mo_lay_132 rfl ?_
              refine gd_get hX inC_Mo 0 6 133 dd_Mo_lay_133 rfl rfl (by decide) kw_414 rfl ?_
              refine gd_aload_n hX 136 dd_Mo_lay_136 rfl ?_
              refine gd_dup hX 137 dd_Mo_lay_137 rfl ?_
              refine gd_get hX inC_Mo 0 9 138 dd_Mo_lay_138 rfl rfl (by decide) kw_417 rfl ?_
              refine gd_dup_x1 hX 141 dd_Mo_lay_141 rfl rfl ?_
              refine gd_iconst hX 142 dd_Mo_lay_142 (v := 1) (by decide) ?_
              refine gd_iadd hX 143 dd_Mo_lay_143 ?_
              refine gd_eqi (show ((nI (ch_WL w E).length) + 1 : Int32) = nI ((ch_WL w E).length + 1) from nI_1 _) ?_
              refine gd_put hX inC_Mo ty_Mo tyk_Mo nm_Mo 0 9 [gd_ob 5 h [.int er, .ref va, .ref re, .ref fu, .ref wi, .ref ma, .ref wo, .ref fd, .int mm, .int (nI ((ch_WL w E).length + 1)), .int mn, .int pl], gd_aJ K va 64 vf, gd_aZ K fu 64 uf, gd_aI K wo 720 wk] 144 dd_Mo_lay_144 rfl rfl (by decide) kw_417 rfl rfl rfl (Nat.le_of_ble_eq_true rfl) rfl ?_
              refine gd_iload hX 147 dd_Mo_lay_147 rfl ?_
              refine gd_iast hX 3 ((ch_WL w E).length) [gd_ob 5 h [.int er, .ref va, .ref re, .ref fu, .ref wi, .ref ma, .ref wo, .ref fd, .int mm, .int (nI ((ch_WL w E).length + 1)), .int mn, .int pl], gd_aJ K va 64 vf, gd_aZ K fu 64 uf, gd_aI K wo 720 (upd wk ((ch_WL w E).length) (nI n))] 149 dd_Mo_lay_149 rfl rfl (by omega) (by decide) rfl ?_
              have hI2 := ch_I_add (x := nI n) hI rfl
              refine gd_lload hX 150 dd_Mo_lay_150 rfl ?_
              refine gd_iconst hX 152 dd_Mo_lay_152 (v := 1) (by decide) ?_
              refine gd_lshl hX 153 dd_Mo_lay_153 ?_
              refine gd_lload hX 154 dd_Mo_lay_154 rfl ?_
              refine gd_bipush hX 156 dd_Mo_lay_156 (v := 63) (by decide) ?_
              refine gd_lshr hX 158 dd_Mo_lay_158 ?_
              refine gd_lxor hX 159 dd_Mo_lay_159 ?_
              refine gd_eql (show (((f k - ch_hd E) <<< ((1 : Int32).toInt64 &&& 63)) ^^^ ((f k - ch_hd E) >>> ((63 : Int32).toInt64 &&& 63)) : Int64) = ch_zz (f k - ch_hd E) from rfl) ?_
              refine gd_lstore hX [(10, .long (ch_zz (f k - ch_hd E))), (0, .ref h), (1, .int (nI E.length)), (2, .int (nI k2)), (3, .long (ch_hd E)), (5, .int (nI n)), (6, .long (f k)), (8, .long (f k - ch_hd E))] 160 dd_Mo_lay_160 (by decide) rfl ?_
              have e9 : ch_WL w E ++ [n] = (ch_WL w E ++ [n]) ++ [] := by simp
              have e10 : nI ((ch_WL w E).length + 1) = nI ((ch_WL w E ++ [n]) ++ []).length := by rw [← e9, ch_len1]
              rw [e9] at hI2
              rw [e10]
              refine gd_lvs [(0, .ref h), (1, .int (nI E.length)), (2, .int (nI k2)), (3, .long (ch_hd E)), (5, .int (nI n)), (6, .long (f k)), (8, .long (f k - ch_hd E)), (10, .long (ch_zz (f k - ch_hd E)))] [1, 2, 3, 4, 5, 6, 7, 0] rfl ?_
              exact dw n k2 hk2 hkk hb3 hr2 9 _ [] _ rfl (uN_lt _) hI2
            · skip
              have hk9 : k2 < 64 := Nat.lt_of_not_le (fun q => h2 ((nI_leI (a := 64) (by decide) (by omega)).mpr q))
              have hbb := hb2 hk9
              refine gd_aload_n hX 106 dd_Mo_lay_106 rfl ?_
              refine gd_get hX inC_Mo 0 1 107 dd_Mo_lay_107 rfl rfl (by decide) kw_409 rfl ?_
              refine gd_iload_n hX 110 dd_Mo_lay_110 rfl ?_
              refine gd_lald hX 1 k2 111 dd_Mo_lay_111 rfl rfl hk9 (by decide) ?_
              refine gd_eql (show (vf k2 : Int64) = f k2 from (hM k2 hk9).2 hbb) ?_
              refine gd_lload hX 112 dd_Mo_lay_112 rfl ?_
              refine gd_lcmp hX 114 dd_Mo_lay_114 ?_
              refine gd_if_ne hX 115 132 dd_Mo_lay_115 (by decide) (fun h3 => ?_) (fun h3 => ?_)
              · skip
                have hne : f k ≠ f k2 := fun e => h3 (ch_cmp0.mpr e.symm)
                obtain ⟨hkk, hr2⟩ : k < k2 ∧ ch_runs w f k2 = (f k, n) :: E := by rcases hc with h | h; { exact absurd (by rw [h.2]) hne }; { exact h }
                have hb3 : k2 < 64 → ch_bit w k2 = true ∧ f k ≠ f k2 := fun _ => ⟨hbb, hne⟩
                have hn64 : n ≤ 64 := by have := ch_runs_sz w f k2 (f k, n) (by rw [hr2]; exact List.mem_cons_self); show n ≤ 64; have h7 : n ≤ k2 := this; omega
                refine gd_aload_n hX 132 dd_Mo_lay_132 rfl ?_
                refine gd_get hX inC_Mo 0 6 133 dd_Mo_lay_133 rfl rfl (by decide) kw_414 rfl ?_
                refine gd_aload_n hX 136 dd_Mo_lay_136 rfl ?_
                refine gd_dup hX 137 dd_Mo_lay_137 rfl ?_
                refine gd_get hX inC_Mo 0 9 138 dd_Mo_lay_138 rfl rfl (by decide) kw_417 rfl ?_
                refine gd_dup_x1 hX 141 dd_Mo_lay_141 rfl rfl ?_
                refine gd_iconst hX 142 dd_Mo_lay_142 (v := 1) (by decide) ?_
                refine gd_iadd hX 143 dd_Mo_lay_143 ?_
                refine gd_eqi (show ((nI (ch_WL w E).length) + 1 : Int32) = nI ((ch_WL w E).length + 1) from nI_1 _) ?_
                refine gd_put hX inC_Mo ty_Mo tyk_Mo nm_Mo 0 9 [gd_ob 5 h [.int er, .ref va, .ref re, .ref fu, .ref wi, .ref ma, .ref wo, .ref fd, .int mm, .int (nI ((ch_WL w E).length + 1)), .int mn, .int pl], gd_aJ K va 64 vf, gd_aZ K fu 64 uf, gd_aI K wo 720 wk] 144 dd_Mo_lay_144 rfl rfl (by decide) kw_417 rfl rfl rfl (Nat.le_of_ble_eq_true rfl) rfl ?_
                refine gd_iload hX 147 dd_Mo_lay_147 rfl ?_
                refine gd_iast hX 3 ((ch_WL w E).length) [gd_ob 5 h [.int er, .ref va, .ref re, .ref fu, .ref wi, .ref ma, .ref wo, .ref fd, .int mm, .int (nI ((ch_WL w E).length + 1)), .int mn, .int pl], gd_aJ K va 64 vf, gd_aZ K fu 64 uf, gd_aI K wo 720 (upd wk ((ch_WL w E).length) (nI n))] 149 dd_Mo_lay_149 rfl rfl (by omega) (by decide) rfl ?_
                have hI2 := ch_I_add (x := nI n) hI rfl
                refine gd_lload hX 150 dd_Mo_lay_150 rfl ?_
                refine gd_iconst hX 152 dd_Mo_lay_152 (v := 1) (by decide) ?_
                refine gd_lshl hX 153 dd_Mo_lay_153 ?_
                refine gd_lload hX 154 dd_Mo_lay_154 rfl ?_
                refine gd_bipush hX 156 dd_Mo_lay_156 (v := 63) (by decide) ?_
                refine gd_lshr hX 158 dd_Mo_lay_158 ?_
                refine gd_lxor hX 159 dd_Mo_lay_159 ?_
                refine gd_eql (show (((f k - ch_hd E) <<< ((1 : Int32).toInt64 &&& 63)) ^^^ ((f k - ch_hd E) >>> ((63 : Int32).toInt64 &&& 63)) : Int64) = ch_zz (f k - ch_hd E) from rfl) ?_
                refine gd_lstore hX [(10, .long (ch_zz (f k - ch_hd E))), (0, .ref h), (1, .int (nI E.length)), (2, .int (nI k2)), (3, .long (ch_hd E)), (5, .int (nI n)), (6, .long (f k)), (8, .long (f k - ch_hd E))] 160 dd_Mo_lay_160 (by decide) rfl ?_
                have e9 : ch_WL w E ++ [n] = (ch_WL w E ++ [n]) ++ [] := by simp
                have e10 : nI ((ch_WL w E).length + 1) = nI ((ch_WL w E ++ [n]) ++ []).length := by rw [← e9, ch_len1]
                rw [e9] at hI2
                rw [e10]
                refine gd_lvs [(0, .ref h), (1, .int (nI E.length)), (2, .int (nI k2)), (3, .long (ch_hd E)), (5, .int (nI n)), (6, .long (f k)), (8, .long (f k - ch_hd E)), (10, .long (ch_zz (f k - ch_hd E)))] [1, 2, 3, 4, 5, 6, 7, 0] rfl ?_
                exact dw n k2 hk2 hkk hb3 hr2 9 _ [] _ rfl (uN_lt _) hI2
              · skip
                have heq : f k2 = f k := ch_cmp0.mp h3
                have hadd : ch_runs w f (k2 + 1) = (f k, n + 1) :: E := by
                  rw [ch_runs_bit f hbb, heq]
                  rcases hc with ⟨h, h9⟩ | ⟨h, h9⟩
                  · rw [h9, hE9, h]; exact ch_add1 hEv
                  · rw [h9]; exact ch_addn E (f k) n
                refine gd_iinc hX 4 [(5, .int (nI (n + 1))), (0, .ref h), (1, .int (nI E.length)), (2, .int (nI k2)), (3, .long (ch_hd E)), (6, .long (f k)), (8, .long (f k - ch_hd E))] 118 dd_Mo_lay_118 rfl (gd_inc n) (by decide) rfl ?_
                refine gd_aload_n hX 121 dd_Mo_lay_121 rfl ?_
                refine gd_iload_n hX 122 dd_Mo_lay_122 rfl ?_
                refine gd_iconst hX 123 dd_Mo_lay_123 (v := 1) (by decide) ?_
                refine gd_iadd hX 124 dd_Mo_lay_124 ?_
                refine gd_eqi (show ((nI k2) + 1 : Int32) = nI (k2 + 1) from nI_1 _) ?_
                refine gd_call hX (st := []) (wr := [gd_aJ K va 64 vf, gd_aI K wo 720 wk]) (ct_Mo_next _ K h va re fu wi ma wo fd er mm (nI (ch_WL w E).length) mn pl w f vf uf hM (k2 + 1) (by omega)) 125 dd_Mo_lay_125 (gd_nV hX (As := [.int (nI (k2 + 1))]) kw_481 kw_483 kw_10 (gd_sigOf (n := 1) kw_484 (by decide)) (by decide) 0 rfl rfl rfl rfl dd_Mo_lay_125) (gd_codeOf kw_484) (by decide) [0, 2] [1, 3] rfl rfl rfl rfl rfl (by decide) (Nat.le_of_ble_eq_true rfl) (Nat.le_of_ble_eq_true rfl) (Nat.le_of_ble_eq_true rfl) (Nat.le_of_ble_eq_true rfl) (fun v9 w9 h9 => ?_) (fun E9 w9 q9 h9 => h9.elim)
                obtain ⟨rfl, rfl⟩ := h9
                refine gd_wsp [gd_ob 5 h [.int er, .ref va, .ref re, .ref fu, .ref wi, .ref ma, .ref wo, .ref fd, .int mm, .int (nI (ch_WL w E).length), .int mn, .int pl], gd_aJ K va 64 vf, gd_aZ K fu 64 uf, gd_aI K wo 720 wk] [2, 0, 3, 1] rfl rfl rfl ?_
                show gd_W X K 0 0 [gd_ob 5 h [.int er, .ref va, .ref re, .ref fu, .ref wi, .ref ma, .ref wo, .ref fd, .int mm, .int (nI (ch_WL w E).length), .int mn, .int pl], gd_aJ K va 64 vf, gd_aZ K fu 64 uf, gd_aI K wo 720 wk] [(5, .int (nI (n + 1))), (0, .ref h), (1, .int (nI E.length)), (2, .int (nI k2)), (3, .long (ch_hd E)), (6, .long (f k)), (8, .long (f k - ch_hd E))] [.int (nI (ch_nx w (64 - (k2 + 1)) (k2 + 1)))] 128
                have hnl := ch_nx_le w (64 - (k2 + 1)) (k2 + 1) (by omega)
                refine gd_istore_n hX [(2, .int (nI (ch_nx w (64 - (k2 + 1)) (k2 + 1)))), (5, .int (nI (n + 1))), (0, .ref h), (1, .int (nI E.length)), (3, .long (ch_hd E)), (6, .long (f k)), (8, .long (f k - ch_hd E))] 128 dd_Mo_lay_128 rfl (by decide) rfl ?_
                refine gd_goto hX 129 100 dd_Mo_lay_129 (by decide) ?_
                refine gd_lvs [(0, .ref h), (1, .int (nI E.length)), (2, .int (nI (ch_nx w (64 - (k2 + 1)) (k2 + 1)))), (3, .long (ch_hd E)), (5, .int (nI (n + 1))), (6, .long (f k)), (8, .long (f k - ch_hd E))] [2, 3, 0, 4, 1, 5, 6] rfl ?_
                exact ihp (n + 1) _ (by omega) hnl.2 (fun q => ch_nx_bit w _ _ (by omega) q) (Or.inr ⟨by omega, by rw [ch_nx_runs w f _ _ (by omega)]; exact hadd⟩)
        refine gd_iconst hX 83 dd_Mo_lay_83 (v := 0) (by decide) ?_
        refine gd_eqi (show (0 : Int32) = nI 0 from rfl) ?_
        refine gd_istore hX [(5, .int (nI 0)), (0, .ref h), (1, .int (nI E.length)), (2, .int (nI k)), (3, .long (ch_hd E))] 84 dd_Mo_lay_84 (by decide) rfl ?_
        refine gd_aload_n hX 86 dd_Mo_lay_86 rfl ?_
        refine gd_get hX inC_Mo 0 1 87 dd_Mo_lay_87 rfl rfl (by decide) kw_409 rfl ?_
        refine gd_iload_n hX 90 dd_Mo_lay_90 rfl ?_
        refine gd_lald hX 1 k 91 dd_Mo_lay_91 rfl rfl hk1 (by decide) ?_
        refine gd_eql (show (vf k : Int64) = f k from (hM k hk1).2 hbk) ?_
        refine gd_lstore hX [(6, .long (f k)), (5, .int (nI 0)), (0, .ref h), (1, .int (nI E.length)), (2, .int (nI k)), (3, .long (ch_hd E))] 92 dd_Mo_lay_92 (by decide) rfl ?_
        refine gd_lload hX 94 dd_Mo_lay_94 rfl ?_
        refine gd_lload_n hX 96 dd_Mo_lay_96 rfl ?_
        refine gd_lsub hX 97 dd_Mo_lay_97 ?_
        refine gd_lstore hX [(8, .long ((f k) - (ch_hd E))), (6, .long (f k)), (5, .int (nI 0)), (0, .ref h), (1, .int (nI E.length)), (2, .int (nI k)), (3, .long (ch_hd E))] 98 dd_Mo_lay_98 (by decide) rfl ?_
        refine gd_lvs [(0, .ref h), (1, .int (nI E.length)), (2, .int (nI k)), (3, .long (ch_hd E)), (5, .int (nI 0)), (6, .long (f k)), (8, .long ((f k) - (ch_hd E)))] [3, 4, 5, 6, 2, 1, 0] rfl ?_
        exact inner 64 0 k (by omega) hk (fun _ => hbk) (Or.inl ⟨rfl, rfl⟩)
  have mask : ∀ (m i : Nat) (wk : Nat → Int32), m + i = 8 → (∀ t, t < i → wk t = nI (uN w / 256 ^ t % 256)) → gd_W X K 0 0 [gd_ob 5 h [.int er, .ref va, .ref re, .ref fu, .ref wi, .ref ma, .ref wo, .ref fd, .int mm, .int (nI 8), .int mn, .int pl], gd_aJ K va 64 vf, gd_aZ K fu 64 uf, gd_aI K wo 720 wk] [(0, .ref h), (1, .int (nI i))] [] 8 := by
    intro m
    induction m with
    | zero =>
      intro i wk hi hw
      obtain rfl : i = 8 := by omega
      refine gd_iload_n hX 8 dd_Mo_lay_8 rfl ?_
      refine gd_bipush hX 9 dd_Mo_lay_9 (v := 8) (by decide) ?_
      refine gd_icmp_ge hX 11 67 dd_Mo_lay_11 (by decide) (fun h1 => ?_) (fun h1 => ?_)
      · skip
        have hI : ch_I wk (ch_WL w []) := by
          intro t ht
          have ht : t < 8 := by simpa [ch_WL, ch_octs, ch_mask] using ht
          rw [hw t ht]
          have e1 : ch_WL w [] = ch_mask w := by simp [ch_WL, ch_octs]
          rw [e1, ch_maskD w ht]
        have e8 : nI 8 = nI (ch_WL w []).length := by simp [ch_WL, ch_octs, ch_mask]
        rw [e8]
        refine gd_iconst hX 67 dd_Mo_lay_67 (v := 0) (by decide) ?_
        refine gd_eqi (show (0 : Int32) = nI ([] : List (Int64 × Nat)).length from rfl) ?_
        refine gd_istore_n hX [(1, .int (nI ([] : List (Int64 × Nat)).length)), (0, .ref h)] 68 dd_Mo_lay_68 rfl (by decide) rfl ?_
        refine gd_aload_n hX 69 dd_Mo_lay_69 rfl ?_
        refine gd_iconst hX 70 dd_Mo_lay_70 (v := 0) (by decide) ?_
        refine gd_eqi (show (0 : Int32) = nI 0 from rfl) ?_
        refine gd_call hX (st := []) (wr := [gd_aJ K va 64 vf, gd_aI K wo 720 wk]) (ct_Mo_next _ K h va re fu wi ma wo fd er mm (nI (ch_WL w []).length) mn pl w f vf uf hM 0 (by omega)) 71 dd_Mo_lay_71 (gd_nV hX (As := [.int (nI 0)]) kw_481 kw_483 kw_10 (gd_sigOf (n := 1) kw_484 (by decide)) (by decide) 0 rfl rfl rfl rfl dd_Mo_lay_71) (gd_codeOf kw_484) (by decide) [0, 2] [1, 3] rfl rfl rfl rfl rfl (by decide) (Nat.le_of_ble_eq_true rfl) (Nat.le_of_ble_eq_true rfl) (Nat.le_of_ble_eq_true rfl) (Nat.le_of_ble_eq_true rfl) (fun v9 w9 h9 => ?_) (fun E9 w9 q9 h9 => h9.elim)
        obtain ⟨rfl, rfl⟩ := h9
        refine gd_wsp [gd_ob 5 h [.int er, .ref va, .ref re, .ref fu, .ref wi, .ref ma, .ref wo, .ref fd, .int mm, .int (nI (ch_WL w []).length), .int mn, .int pl], gd_aJ K va 64 vf, gd_aZ K fu 64 uf, gd_aI K wo 720 wk] [2, 0, 3, 1] rfl rfl rfl ?_
        show gd_W X K 0 0 [gd_ob 5 h [.int er, .ref va, .ref re, .ref fu, .ref wi, .ref ma, .ref wo, .ref fd, .int mm, .int (nI (ch_WL w []).length), .int mn, .int pl], gd_aJ K va 64 vf, gd_aZ K fu 64 uf, gd_aI K wo 720 wk] [(1, .int (nI ([] : List (Int64 × Nat)).length)), (0, .ref h)] [.int (nI (ch_nx w (64 - 0) 0))] 74
        refine gd_istore_n hX [(2, .int (nI (ch_nx w (64 - 0) 0))), (1, .int (nI ([] : List (Int64 × Nat)).length)), (0, .ref h)] 74 dd_Mo_lay_74 rfl (by decide) rfl ?_
        refine gd_lconst hX 75 dd_Mo_lay_75 (v := 0) (by decide) ?_
        refine gd_eql (show (0 : Int64) = ch_hd ([] : List (Int64 × Nat)) from rfl) ?_
        refine gd_lstore_n hX [(3, .long (ch_hd ([] : List (Int64 × Nat)))), (2, .int (nI (ch_nx w (64 - 0) 0))), (1, .int (nI ([] : List (Int64 × Nat)).length)), (0, .ref h)] 76 dd_Mo_lay_76 rfl (by decide) rfl ?_
        refine gd_lvs [(0, .ref h), (1, .int (nI ([] : List (Int64 × Nat)).length)), (2, .int (nI (ch_nx w (64 - 0) 0))), (3, .long (ch_hd ([] : List (Int64 × Nat))))] [3, 2, 1, 0] rfl ?_
        have hnl := ch_nx_le w (64 - 0) 0 rfl
        exact loop 64 _ [] wk (by omega) hnl.2 (fun q => ⟨ch_nx_bit w _ _ rfl q, Or.inl rfl⟩) (by rw [ch_nx_runs w f _ _ rfl]; rfl) hI
      · skip
        exact absurd (by decide) h1
    | succ m ih =>
      intro i wk hi hw
      refine gd_iload_n hX 8 dd_Mo_lay_8 rfl ?_
      refine gd_bipush hX 9 dd_Mo_lay_9 (v := 8) (by decide) ?_
      refine gd_icmp_ge hX 11 67 dd_Mo_lay_11 (by decide) (fun h1 => ?_) (fun h1 => ?_)
      · skip
        exact absurd ((nI_leI (a := 8) (by decide) (by omega)).mp h1) (by omega)
      · skip
        have inn : ∀ (p j : Nat) (wk : Nat → Int32), p + j = 8 → (∀ t, t < i → wk t = nI (uN w / 256 ^ t % 256)) → wk i = nI (uN w / 256 ^ i % 2 ^ j) → gd_W X K 0 0 [gd_ob 5 h [.int er, .ref va, .ref re, .ref fu, .ref wi, .ref ma, .ref wo, .ref fd, .int mm, .int (nI 8), .int mn, .int pl], gd_aJ K va 64 vf, gd_aZ K fu 64 uf, gd_aI K wo 720 wk] [(0, .ref h), (1, .int (nI i)), (2, .int (nI j))] [] 23 := by
          intro p
          induction p with
          | zero =>
            intro j wk hj hw hwi
            obtain rfl : j = 8 := by omega
            refine gd_iload_n hX 23 dd_Mo_lay_23 rfl ?_
            refine gd_bipush hX 24 dd_Mo_lay_24 (v := 8) (by decide) ?_
            refine gd_icmp_ge hX 26 61 dd_Mo_lay_26 (by decide) (fun h2 => ?_) (fun h2 => ?_)
            · skip
              refine gd_iinc hX 1 [(1, .int (nI (i + 1))), (0, .ref h), (2, .int (nI 8))] 61 dd_Mo_lay_61 rfl (gd_inc i) (by decide) rfl ?_
              refine gd_goto hX 64 8 dd_Mo_lay_64 (by decide) ?_
              refine gd_lvs [(0, .ref h), (1, .int (nI (i + 1)))] [1, 0] rfl ?_
              exact ih (i + 1) wk (by omega) (fun t ht => by rcases Nat.lt_succ_iff_lt_or_eq.mp ht with h | h; { exact hw t h }; { subst h; exact hwi })
            · skip
              exact absurd (by decide) h2
          | succ p ihp =>
            intro j wk hj hw hwi
            have hm2 := ch_mod2 (uN w / 256 ^ i) j
            have hb8 := ch_bit8 w i j
            refine gd_iload_n hX 23 dd_Mo_lay_23 rfl ?_
            refine gd_bipush hX 24 dd_Mo_lay_24 (v := 8) (by decide) ?_
            refine gd_icmp_ge hX 26 61 dd_Mo_lay_26 (by decide) (fun h2 => ?_) (fun h2 => ?_)
            · skip
              exact absurd ((nI_leI (a := 8) (by decide) (by omega)).mp h2) (by omega)
            · skip
              refine gd_aload_n hX 29 dd_Mo_lay_29 rfl ?_
              refine gd_get hX inC_Mo 0 3 30 dd_Mo_lay_30 rfl rfl (by decide) kw_411 rfl ?_
              refine gd_bipush hX 33 dd_Mo_lay_33 (v := 8) (by decide) ?_
              refine gd_iload_n hX 35 dd_Mo_lay_35 rfl ?_
              refine gd_imul hX 36 dd_Mo_lay_36 ?_
              refine gd_iload_n hX 37 dd_Mo_lay_37 rfl ?_
              refine gd_iadd hX 38 dd_Mo_lay_38 ?_
              refine gd_eqi (show ((8 * (nI i)) + (nI j) : Int32) = nI (8 * i + j) from by rw [show (8 : Int32) = nI 8 from rfl, pk_mul, nI_add]) ?_
              refine gd_zald hX 2 (8 * i + j) 39 dd_Mo_lay_39 rfl rfl (by omega) (by decide) ?_
              refine gd_eqi (show (uf (8 * i + j) : Int32) = (if ch_bit w (8 * i + j) then 1 else 0) from (hM (8 * i + j) (by omega)).1) ?_
              refine gd_if_eq hX 40 55 dd_Mo_lay_40 (by decide) (fun h3 => ?_) (fun h3 => ?_)
              · skip
                have h4 := (ch_ib _).mp h3
                rw [hb8] at h4
                have h5 := of_decide_eq_false h4
                refine gd_iinc hX 2 [(2, .int (nI (j + 1))), (0, .ref h), (1, .int (nI i))] 55 dd_Mo_lay_55 rfl (gd_inc j) (by decide) rfl ?_
                refine gd_goto hX 58 23 dd_Mo_lay_58 (by decide) ?_
                refine gd_lvs [(0, .ref h), (1, .int (nI i)), (2, .int (nI (j + 1)))] [1, 2, 0] rfl ?_
                exact ihp (j + 1) wk (by omega) hw (by rw [hwi, hm2, show uN w / 256 ^ i / 2 ^ j % 2 = 0 by omega]; rfl)
              · skip
                have h4 := (ch_ifb _).mp h3
                rw [hb8] at h4
                have h5 := of_decide_eq_true h4
                refine gd_aload_n hX 43 dd_Mo_lay_43 rfl ?_
                refine gd_get hX inC_Mo 0 6 44 dd_Mo_lay_44 rfl rfl (by decide) kw_414 rfl ?_
                refine gd_iload_n hX 47 dd_Mo_lay_47 rfl ?_
                refine gd_dup2 hX 48 dd_Mo_lay_48 rfl rfl ?_
                refine gd_iald hX 3 i 49 dd_Mo_lay_49 rfl rfl (by omega) (by decide) ?_
                refine gd_eqi (show (wk i : Int32) = nI (uN w / 256 ^ i % 2 ^ j) from hwi) ?_
                refine gd_iconst hX 50 dd_Mo_lay_50 (v := 1) (by decide) ?_
                refine gd_iload_n hX 51 dd_Mo_lay_51 rfl ?_
                refine gd_ishl hX 52 dd_Mo_lay_52 ?_
                refine gd_ior hX 53 dd_Mo_lay_53 ?_
                have hlt : uN w / 256 ^ i % 2 ^ j < 2 ^ j := Nat.mod_lt _ (Nat.two_pow_pos _)
                have hle : 2 ^ j ≤ 2 ^ 8 := Nat.pow_le_pow_right (by decide) (by omega)
                refine gd_eqi (show ((nI (uN w / 256 ^ i % 2 ^ j)) ||| ((1 : Int32) <<< ((nI j) &&& 31)) : Int32) = nI (uN w / 256 ^ i % 2 ^ (j + 1)) from by rw [ch_or1 j (by omega) _ (by omega) hlt, hm2, h5, Nat.mul_one]) ?_
                refine gd_iast hX 3 i [gd_ob 5 h [.int er, .ref va, .ref re, .ref fu, .ref wi, .ref ma, .ref wo, .ref fd, .int mm, .int (nI 8), .int mn, .int pl], gd_aJ K va 64 vf, gd_aZ K fu 64 uf, gd_aI K wo 720 (upd wk i (nI (uN w / 256 ^ i % 2 ^ (j + 1))))] 54 dd_Mo_lay_54 rfl rfl (by omega) (by decide) rfl ?_
                refine gd_iinc hX 2 [(2, .int (nI (j + 1))), (0, .ref h), (1, .int (nI i))] 55 dd_Mo_lay_55 rfl (gd_inc j) (by decide) rfl ?_
                refine gd_goto hX 58 23 dd_Mo_lay_58 (by decide) ?_
                refine gd_lvs [(0, .ref h), (1, .int (nI i)), (2, .int (nI (j + 1)))] [1, 2, 0] rfl ?_
                exact ihp (j + 1) _ (by omega) (fun t ht => by rw [pk_un (by omega)]; exact hw t ht) (by rw [pk_us])
        refine gd_aload_n hX 14 dd_Mo_lay_14 rfl ?_
        refine gd_get hX inC_Mo 0 6 15 dd_Mo_lay_15 rfl rfl (by decide) kw_414 rfl ?_
        refine gd_iload_n hX 18 dd_Mo_lay_18 rfl ?_
        refine gd_iconst hX 19 dd_Mo_lay_19 (v := 0) (by decide) ?_
        refine gd_iast hX 3 i [gd_ob 5 h [.int er, .ref va, .ref re, .ref fu, .ref wi, .ref ma, .ref wo, .ref fd, .int mm, .int (nI 8), .int mn, .int pl], gd_aJ K va 64 vf, gd_aZ K fu 64 uf, gd_aI K wo 720 (upd wk i 0)] 20 dd_Mo_lay_20 rfl rfl (by omega) (by decide) rfl ?_
        refine gd_iconst hX 21 dd_Mo_lay_21 (v := 0) (by decide) ?_
        refine gd_eqi (show (0 : Int32) = nI 0 from rfl) ?_
        refine gd_istore_n hX [(2, .int (nI 0)), (0, .ref h), (1, .int (nI i))] 22 dd_Mo_lay_22 rfl (by decide) rfl ?_
        refine gd_lvs [(0, .ref h), (1, .int (nI i)), (2, .int (nI 0))] [1, 2, 0] rfl ?_
        exact inn 8 0 _ rfl (fun t ht => by rw [pk_un (by omega)]; exact hw t ht) (by rw [pk_us, Nat.pow_zero, Nat.mod_one]; rfl)
  refine gd_aload_n hX 0 dd_Mo_lay_0 rfl ?_
  refine gd_bipush hX 1 dd_Mo_lay_1 (v := 8) (by decide) ?_
  refine gd_eqi (show (8 : Int32) = nI 8 from rfl) ?_
  refine gd_put hX inC_Mo ty_Mo tyk_Mo nm_Mo 0 9 [gd_ob 5 h [.int er, .ref va, .ref re, .ref fu, .ref wi, .ref ma, .ref wo, .ref fd, .int mm, .int (nI 8), .int mn, .int pl], gd_aJ K va 64 vf, gd_aZ K fu 64 uf, gd_aI K wo 720 wk] 3 dd_Mo_lay_3 rfl rfl (by decide) kw_417 rfl rfl rfl (Nat.le_of_ble_eq_true rfl) rfl ?_
  refine gd_iconst hX 6 dd_Mo_lay_6 (v := 0) (by decide) ?_
  refine gd_eqi (show (0 : Int32) = nI 0 from rfl) ?_
  refine gd_istore_n hX [(1, .int (nI 0)), (0, .ref h)] 7 dd_Mo_lay_7 rfl (by decide) rfl ?_
  refine gd_lvs [(0, .ref h), (1, .int (nI 0))] [1, 0] rfl ?_
  exact mask 8 0 wk rfl (fun t ht => absurd ht (Nat.not_lt_zero _))
