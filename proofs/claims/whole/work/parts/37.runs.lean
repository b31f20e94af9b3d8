set_option maxRecDepth 100000 in
set_option maxHeartbeats 4000000 in
theorem ct_Rd_readRuns (l : Launch) (K : gd_K) (h sp sa : Nat) (fo w : Int64) (G : Nat → Int64) (fe fr : Nat) (L : List Nat) (ff : Nat → Int32) (hL : L.length ≤ 1000) (hB : ch_B ff L) (hO : ∀ x ∈ L, x < 256) (h8 : 8 ≤ L.length) : gd_M l yy_Rd_readRuns bb_Rd_readRuns 11 (some .boolean) [] 2 30 0 0 K [.ref h, .ref fe, .long w, .ref sp] [gd_ob 2 h [.int (nI 8), .long fo], gd_ob 1 fe [.ref fr, .int (nI L.length)], gd_aB K fr 1000 ff, gd_ob 0 sp [.ref sa, .long 0], gd_aJ K sa 64 G] (fun v w1 => v = some (.int (if (ch_cells L w 64 (ch_pop w 64) 0 0 true 8 (fun _ => 0)).2.isSome then 1 else 0)) ∧ ∃ fo' wm' G', w1 = [gd_ob 2 h [.int (nI (ch_cells L w 64 (ch_pop w 64) 0 0 true 8 (fun _ => 0)).1), .long fo'], gd_ob 1 fe [.ref fr, .int (nI L.length)], gd_aB K fr 1000 ff, gd_ob 0 sp [.ref sa, .long wm'], gd_aJ K sa 64 G'] ∧ ∀ z, (ch_cells L w 64 (ch_pop w 64) 0 0 true 8 (fun _ => 0)).2 = some z → wm' = w ∧ ∀ j, j < 64 → ch_bit w j = true → G' j = z j) (fun _ _ => False) := by
  refine gd_body (Nat.le_of_ble_eq_true rfl) (fun X hXl hin hE hX => ?_)
  have loop : ∀ (m k left lor : Nat) (v : Int64) (first : Bool) (a : Nat) (fo wm : Int64) (g G : Nat → Int64), m + k = 64 → left + ch_pop w k = ch_pop w 64 → lor ≤ 255 → a ≤ L.length → (∀ j, j < 64 → ch_bit wm j = (ch_bit w j && decide (j < k))) → (∀ j, j < k → ch_bit w j = true → G j = g j) → (ch_cells L w 64 (ch_pop w 64) 0 0 true 8 (fun _ => 0)) = ch_cells L w m left lor v first a g → gd_W X K 0 0 [gd_ob 2 h [.int (nI a), .long fo], gd_ob 1 fe [.ref fr, .int (nI L.length)], gd_aB K fr 1000 ff, gd_ob 0 sp [.ref sa, .long wm], gd_aJ K sa 64 G] [(0, .ref h), (1, .ref fe), (2, .long w), (4, .ref sp), (5, .int (nI left)), (6, .int (nI lor)), (7, .long v), (9, .int (if first then 1 else 0)), (10, .int (nI k))] [] 18 := by
    intro m
    induction m with
    | zero =>
      intro k left lor v first a fo wm g G hk hleft hlor ha hwm hG hres
      obtain rfl : k = 64 := by omega
      refine gd_iload hX 18 dd_Rd_readRuns_18 rfl ?_
      refine gd_bipush hX 20 dd_Rd_readRuns_20 (v := 64) (by decide) ?_
      refine gd_icmp_ge hX 22 113 dd_Rd_readRuns_22 (by decide) (fun h1 => ?_) (fun h1 => ?_)
      · skip
        have hr : (ch_cells L w 64 (ch_pop w 64) 0 0 true 8 (fun _ => 0)) = (a, some g) := hres
        have hw : wm = w := ch_bit_ext (fun j hj => by rw [hwm j hj]; simp [hj])
        refine gd_iconst hX 113 dd_Rd_readRuns_113 (v := 1) (by decide) ?_
        exact gd_zret hX hE 114 dd_Rd_readRuns_114 rfl ⟨by rw [hr]; rfl, _, _, _, by rw [hr], by rw [hr]; exact fun z hz => ⟨hw, fun j hj hb => by rw [← Option.some.inj hz]; exact hG j hj hb⟩⟩
      · skip
        exact absurd (by decide) h1
    | succ m ih =>
      intro k left lor v first a fo wm g G hk hleft hlor ha hwm hG hres
      obtain rfl : k = 63 - m := by omega
      have hk1 : 63 - m + 1 = 64 - m := by omega
      have hpl := ch_pop_le w 64
      have hS := ch_cells_S L w m left lor v first a g
      have hps : ch_pop w (64 - m) = ch_pop w (63 - m) + (if ch_bit w (63 - m) then 1 else 0) := by rw [← hk1]; rfl
      have hpm : ch_pop w (64 - m) ≤ ch_pop w 64 := by have := ch_pop_mono w (64 - m) m; rw [show 64 - m + m = 64 by omega] at this; exact this
      refine gd_iload hX 18 dd_Rd_readRuns_18 rfl ?_
      refine gd_bipush hX 20 dd_Rd_readRuns_20 (v := 64) (by decide) ?_
      refine gd_icmp_ge hX 22 113 dd_Rd_readRuns_22 (by decide) (fun h1 => ?_) (fun h1 => ?_)
      · skip
        exact absurd ((nI_leI (a := 64) (by decide) (by omega)).mp h1) (by omega)
      · skip
        refine gd_lload_n hX 25 dd_Rd_readRuns_25 rfl ?_
        refine gd_iload hX 26 dd_Rd_readRuns_26 rfl ?_
        refine gd_lushr hX 28 dd_Rd_readRuns_28 ?_
        refine gd_lconst hX 29 dd_Rd_readRuns_29 (v := 1) (by decide) ?_
        refine gd_land hX 30 dd_Rd_readRuns_30 ?_
        refine gd_eql (show (((w.toUInt64 >>> ((nI (63 - m)).toInt64.toUInt64 &&& Int64.toUInt64 63)).toInt64) &&& 1 : Int64) = (if ch_bit w (63 - m) then 1 else 0) from ch_isfull w (by omega)) ?_
        refine gd_lconst hX 31 dd_Rd_readRuns_31 (v := 0) (by decide) ?_
        refine gd_lcmp hX 32 dd_Rd_readRuns_32 ?_
        refine gd_if_ne hX 33 39 dd_Rd_readRuns_33 (by decide) (fun h2 => ?_) (fun h2 => ?_)
        · skip
          have hb : ch_bit w (63 - m) = true := by cases hb : ch_bit w (63 - m) with
            | true => rfl
            | false => exact absurd (by rw [hb]; rfl) h2
          rw [hb, if_pos rfl] at hps
          rw [hb, if_neg (by decide)] at hS
          have hwm2 : ∀ j, j < 64 → ch_bit (wm ||| ((1 : Int64) <<< ((nI (63 - m)).toInt64 &&& 63))) j = (ch_bit w j && decide (j < 64 - m)) := by
            intro j hj
            rw [ch_fill wm (by omega) j, hwm j hj]
            by_cases e : 63 - m = j
            · subst e; rw [hb]; simp; omega
            · have e2 : (j < 64 - m) = (j < 63 - m) := propext ⟨fun _ => by omega, fun _ => by omega⟩
              simp [e, e2]
          refine gd_iload hX 39 dd_Rd_readRuns_39 rfl ?_
          refine gd_if_ne hX 41 92 dd_Rd_readRuns_41 (by decide) (fun h3 => ?_) (fun h3 => ?_)
          · skip
            have hl0 : lor ≠ 0 := fun e => h3 (by rw [e]; rfl)
            rw [if_neg hl0] at hS
            refine gd_aload hX 92 dd_Rd_readRuns_92 rfl ?_
            refine gd_iload hX 94 dd_Rd_readRuns_94 rfl ?_
            refine gd_lload hX 96 dd_Rd_readRuns_96 rfl ?_
            refine gd_call hX (st := []) (wr := [gd_ob 2 h [.int (nI a), .long fo], gd_ob 1 fe [.ref fr, .int (nI L.length)], gd_aB K fr 1000 ff]) (ct_Cl_fill _ K sp sa (63 - m) wm G v (by omega)) 98 dd_Rd_readRuns_98 (gd_nV hX (As := [.int (nI (63 - m)), .long v]) kw_379 kw_251 kw_252 (gd_sigOf (n := 2) kw_253 (by decide)) (by decide) 3 rfl rfl rfl rfl dd_Rd_readRuns_98) (gd_codeOf kw_253) (by decide) [3, 4] [0, 1, 2] rfl rfl rfl rfl rfl (by decide) (Nat.le_of_ble_eq_true rfl) (Nat.le_of_ble_eq_true rfl) (Nat.le_of_ble_eq_true rfl) (Nat.le_of_ble_eq_true rfl) (fun v9 w9 h9 => ?_) (fun E9 w9 q9 h9 => h9.elim)
            obtain ⟨rfl, rfl⟩ := h9
            show gd_W X K 0 0 [gd_ob 2 h [.int (nI a), .long fo], gd_ob 1 fe [.ref fr, .int (nI L.length)], gd_aB K fr 1000 ff, gd_ob 0 sp [.ref sa, .long (wm ||| ((1 : Int64) <<< ((nI (63 - m)).toInt64 &&& 63)))], gd_aJ K sa 64 (vp_updL G (63 - m) v)] [(0, .ref h), (1, .ref fe), (2, .long w), (4, .ref sp), (5, .int (nI left)), (6, .int (nI lor)), (7, .long v), (9, .int (if first then 1 else 0)), (10, .int (nI (63 - m)))] [] 101
            refine gd_iinc hX 4 [(5, .int (nI (left - 1))), (0, .ref h), (1, .ref fe), (2, .long w), (4, .ref sp), (6, .int (nI lor)), (7, .long v), (9, .int (if first then 1 else 0)), (10, .int (nI (63 - m)))] 101 dd_Rd_readRuns_101 rfl (by rw [show left = left - 1 + 1 by omega]; exact pk_m1 _) (by decide) rfl ?_
            refine gd_iinc hX 5 [(6, .int (nI (lor - 1))), (5, .int (nI (left - 1))), (0, .ref h), (1, .ref fe), (2, .long w), (4, .ref sp), (7, .long v), (9, .int (if first then 1 else 0)), (10, .int (nI (63 - m)))] 104 dd_Rd_readRuns_104 rfl (by rw [show lor = lor - 1 + 1 by omega]; exact pk_m1 _) (by decide) rfl ?_
            refine gd_iinc hX 8 [(10, .int (nI (64 - m))), (6, .int (nI (lor - 1))), (5, .int (nI (left - 1))), (0, .ref h), (1, .ref fe), (2, .long w), (4, .ref sp), (7, .long v), (9, .int (if first then 1 else 0))] 107 dd_Rd_readRuns_107 rfl (by rw [← hk1]; exact gd_inc _) (by decide) rfl ?_
            refine gd_goto hX 110 18 dd_Rd_readRuns_110 (by decide) ?_
            refine gd_lvs [(0, .ref h), (1, .ref fe), (2, .long w), (4, .ref sp), (5, .int (nI (left - 1))), (6, .int (nI (lor - 1))), (7, .long v), (9, .int (if first then 1 else 0)), (10, .int (nI (64 - m)))] [3, 4, 5, 6, 2, 1, 7, 8, 0] rfl ?_
            exact ih (64 - m) (left - 1) (lor - 1) v first a fo _ (vp_updL g (63 - m) v) _ (by omega) (by omega) (by omega) (by omega) hwm2 (fun j hj hbj => by
              by_cases e : j = 63 - m
              · subst e; rw [pk_uLs, pk_uLs]
              · rw [pk_uLn e, pk_uLn e]; exact hG j (by omega) hbj) (by rw [hres, hS])
          · skip
            have hl0 : lor = 0 := nI_0' (by omega) h3
            rw [if_pos hl0] at hS
            have ho := ch_getD_lt hO a
            refine gd_aload_n hX 44 dd_Rd_readRuns_44 rfl ?_
            refine gd_aload_n hX 45 dd_Rd_readRuns_45 rfl ?_
            refine gd_iload hX 46 dd_Rd_readRuns_46 rfl ?_
            refine gd_call hX (st := []) (wr := [gd_ob 0 sp [.ref sa, .long wm], gd_aJ K sa 64 G]) (ct_Rd_readSize _ K h a left fo fe fr L ff hL hB hO ha (by omega)) 48 dd_Rd_readRuns_48 (gd_nV hX (As := [.ref fe, .int (nI left)]) kw_367 kw_369 kw_4 (gd_sigOf (n := 2) kw_370 (by decide)) (by decide) 0 rfl rfl rfl rfl dd_Rd_readRuns_48) (gd_codeOf kw_370) (by decide) [0, 1, 2] [3, 4] rfl rfl rfl rfl rfl (by decide) (Nat.le_of_ble_eq_true rfl) (Nat.le_of_ble_eq_true rfl) (Nat.le_of_ble_eq_true rfl) (Nat.le_of_ble_eq_true rfl) (fun v9 w9 h9 => ?_) (fun E9 w9 q9 h9 => h9.elim)
            obtain ⟨rfl, rfl⟩ := h9
            refine gd_wsp [gd_ob 2 h [.int (nI (if (L.getD a 0 = 0 ∨ left < L.getD a 0) then a else a + 1)), .long fo], gd_ob 1 fe [.ref fr, .int (nI L.length)], gd_aB K fr 1000 ff, gd_ob 0 sp [.ref sa, .long wm], gd_aJ K sa 64 G] [2, 3, 4, 0, 1] rfl rfl rfl ?_
            show gd_W X K 0 0 [gd_ob 2 h [.int (nI (if (L.getD a 0 = 0 ∨ left < L.getD a 0) then a else a + 1)), .long fo], gd_ob 1 fe [.ref fr, .int (nI L.length)], gd_aB K fr 1000 ff, gd_ob 0 sp [.ref sa, .long wm], gd_aJ K sa 64 G] [(0, .ref h), (1, .ref fe), (2, .long w), (4, .ref sp), (5, .int (nI left)), (6, .int (nI lor)), (7, .long v), (9, .int (if first then 1 else 0)), (10, .int (nI (63 - m)))] [.int (nI (if (L.getD a 0 = 0 ∨ left < L.getD a 0) then 0 else L.getD a 0))] 51
            by_cases hC : (L.getD a 0 = 0 ∨ left < L.getD a 0)
            · skip
              rw [if_pos hC, if_pos hC]
              rw [if_pos hC] at hS
              refine gd_istore hX [(6, .int (nI 0)), (0, .ref h), (1, .ref fe), (2, .long w), (4, .ref sp), (5, .int (nI left)), (7, .long v), (9, .int (if first then 1 else 0)), (10, .int (nI (63 - m)))] 51 dd_Rd_readRuns_51 (by decide) rfl ?_
              refine gd_iload hX 53 dd_Rd_readRuns_53 rfl ?_
              refine gd_if_eq hX 55 68 dd_Rd_readRuns_55 (by decide) (fun h4 => ?_) (fun h4 => ?_)
              · skip
                have hr : (ch_cells L w 64 (ch_pop w 64) 0 0 true 8 (fun _ => 0)) = (a, none) := by rw [hres, hS]
                refine gd_iconst hX 68 dd_Rd_readRuns_68 (v := 0) (by decide) ?_
                exact gd_zret hX hE 69 dd_Rd_readRuns_69 rfl ⟨by rw [hr]; rfl, _, _, _, by rw [hr], by rw [hr]; exact fun z hz => nomatch hz⟩
              · skip
                exact absurd rfl h4
            · skip
              rw [if_neg hC, if_neg hC]
              rw [if_neg hC] at hS
              have hal : a < L.length := Nat.lt_of_not_le (fun e => hC (Or.inl (ch_getD_out e)))
              refine gd_istore hX [(6, .int (nI (L.getD a 0))), (0, .ref h), (1, .ref fe), (2, .long w), (4, .ref sp), (5, .int (nI left)), (7, .long v), (9, .int (if first then 1 else 0)), (10, .int (nI (63 - m)))] 51 dd_Rd_readRuns_51 (by decide) rfl ?_
              refine gd_iload hX 53 dd_Rd_readRuns_53 rfl ?_
              refine gd_if_eq hX 55 68 dd_Rd_readRuns_55 (by decide) (fun h4 => ?_) (fun h4 => ?_)
              · skip
                exact absurd (Or.inl (nI_0' (by omega) h4)) hC
              · skip
                refine gd_aload_n hX 58 dd_Rd_readRuns_58 rfl ?_
                refine gd_aload_n hX 59 dd_Rd_readRuns_59 rfl ?_
                refine gd_iload hX 60 dd_Rd_readRuns_60 rfl ?_
                refine gd_call hX (st := []) (wr := [gd_ob 0 sp [.ref sa, .long wm], gd_aJ K sa 64 G]) (ct_Rd_readFolded _ K h (a + 1) fo first fe fr L ff hL hB hO (by omega)) 62 dd_Rd_readRuns_62 (gd_nV hX (As := [.ref fe, .int (if first then 1 else 0)]) kw_371 kw_373 kw_5 (gd_sigOf (n := 2) kw_374 (by decide)) (by decide) 0 rfl rfl rfl rfl dd_Rd_readRuns_62) (gd_codeOf kw_374) (by decide) [0, 1, 2] [3, 4] rfl rfl rfl rfl rfl (by decide) (Nat.le_of_ble_eq_true rfl) (Nat.le_of_ble_eq_true rfl) (Nat.le_of_ble_eq_true rfl) (Nat.le_of_ble_eq_true rfl) (fun v9 w9 h9 => ?_) (fun E9 w9 q9 h9 => h9.elim)
                obtain ⟨rfl, fo2, rfl, hfo⟩ := h9
                refine gd_wsp [gd_ob 2 h [.int (nI (ch_rd L first 10 (a + 1) 0).1), .long fo2], gd_ob 1 fe [.ref fr, .int (nI L.length)], gd_aB K fr 1000 ff, gd_ob 0 sp [.ref sa, .long wm], gd_aJ K sa 64 G] [2, 3, 4, 0, 1] rfl rfl rfl ?_
                show gd_W X K 0 0 [gd_ob 2 h [.int (nI (ch_rd L first 10 (a + 1) 0).1), .long fo2], gd_ob 1 fe [.ref fr, .int (nI L.length)], gd_aB K fr 1000 ff, gd_ob 0 sp [.ref sa, .long wm], gd_aJ K sa 64 G] [(6, .int (nI (L.getD a 0))), (0, .ref h), (1, .ref fe), (2, .long w), (4, .ref sp), (5, .int (nI left)), (7, .long v), (9, .int (if first then 1 else 0)), (10, .int (nI (63 - m)))] [.int (if (ch_rd L first 10 (a + 1) 0).2.isSome then 1 else 0)] 65
                have hdl := ch_rd_le L first 10 (a + 1) 0 (by omega)
                rcases hrd : (ch_rd L first 10 (a + 1) 0) with ⟨a1, ru⟩
                rw [hrd] at hS hfo hdl
                cases ru with
                | none =>
                  show gd_W X K 0 0 [gd_ob 2 h [.int (nI a1), .long fo2], gd_ob 1 fe [.ref fr, .int (nI L.length)], gd_aB K fr 1000 ff, gd_ob 0 sp [.ref sa, .long wm], gd_aJ K sa 64 G] [(6, .int (nI (L.getD a 0))), (0, .ref h), (1, .ref fe), (2, .long w), (4, .ref sp), (5, .int (nI left)), (7, .long v), (9, .int (if first then 1 else 0)), (10, .int (nI (63 - m)))] [.int (if (none : Option Int64).isSome then 1 else 0)] 65
                  refine gd_if_ne hX 65 70 dd_Rd_readRuns_65 (by decide) (fun h5 => ?_) (fun h5 => ?_)
                  · skip
                    exact absurd rfl h5
                  · skip
                    have hr : (ch_cells L w 64 (ch_pop w 64) 0 0 true 8 (fun _ => 0)) = (a1, none) := by rw [hres, hS]
                    refine gd_iconst hX 68 dd_Rd_readRuns_68 (v := 0) (by decide) ?_
                    exact gd_zret hX hE 69 dd_Rd_readRuns_69 rfl ⟨by rw [hr]; rfl, _, _, _, by rw [hr], by rw [hr]; exact fun z hz => nomatch hz⟩
                | some u =>
                  obtain rfl := hfo u rfl
                  show gd_W X K 0 0 [gd_ob 2 h [.int (nI a1), .long fo2], gd_ob 1 fe [.ref fr, .int (nI L.length)], gd_aB K fr 1000 ff, gd_ob 0 sp [.ref sa, .long wm], gd_aJ K sa 64 G] [(6, .int (nI (L.getD a 0))), (0, .ref h), (1, .ref fe), (2, .long w), (4, .ref sp), (5, .int (nI left)), (7, .long v), (9, .int (if first then 1 else 0)), (10, .int (nI (63 - m)))] [.int (if (some fo2 : Option Int64).isSome then 1 else 0)] 65
                  refine gd_if_ne hX 65 70 dd_Rd_readRuns_65 (by decide) (fun h5 => ?_) (fun h5 => ?_)
                  · skip
                    refine gd_lload hX 70 dd_Rd_readRuns_70 rfl ?_
                    refine gd_aload_n hX 72 dd_Rd_readRuns_72 rfl ?_
                    refine gd_get hX inC_Rd 0 1 73 dd_Rd_readRuns_73 rfl rfl (by decide) kw_86 rfl ?_
                    refine gd_iconst hX 76 dd_Rd_readRuns_76 (v := 1) (by decide) ?_
                    refine gd_lushr hX 77 dd_Rd_readRuns_77 ?_
                    refine gd_aload_n hX 78 dd_Rd_readRuns_78 rfl ?_
                    refine gd_get hX inC_Rd 0 1 79 dd_Rd_readRuns_79 rfl rfl (by decide) kw_86 rfl ?_
                    refine gd_lconst hX 82 dd_Rd_readRuns_82 (v := 1) (by decide) ?_
                    refine gd_land hX 83 dd_Rd_readRuns_83 ?_
                    refine gd_lneg hX 84 dd_Rd_readRuns_84 ?_
                    refine gd_lxor hX 85 dd_Rd_readRuns_85 ?_
                    refine gd_ladd hX 86 dd_Rd_readRuns_86 ?_
                    refine gd_eql (show (v + (((fo2.toUInt64 >>> ((1 : Int32).toInt64.toUInt64 &&& Int64.toUInt64 63)).toInt64) ^^^ (-(fo2 &&& 1))) : Int64) = v + ch_un fo2 from rfl) ?_
                    refine gd_lstore hX [(7, .long (v + ch_un fo2)), (6, .int (nI (L.getD a 0))), (0, .ref h), (1, .ref fe), (2, .long w), (4, .ref sp), (5, .int (nI left)), (9, .int (if first then 1 else 0)), (10, .int (nI (63 - m)))] 87 dd_Rd_readRuns_87 (by decide) rfl ?_
                    refine gd_iconst hX 89 dd_Rd_readRuns_89 (v := 0) (by decide) ?_
                    refine gd_eqi (show (0 : Int32) = (if false then 1 else 0) from rfl) ?_
                    refine gd_istore hX [(9, .int (if false then 1 else 0)), (7, .long (v + ch_un fo2)), (6, .int (nI (L.getD a 0))), (0, .ref h), (1, .ref fe), (2, .long w), (4, .ref sp), (5, .int (nI left)), (10, .int (nI (63 - m)))] 90 dd_Rd_readRuns_90 (by decide) rfl ?_
                    have hdl : a1 ≤ L.length := hdl
                    refine gd_aload hX 92 dd_Rd_readRuns_92 rfl ?_
                    refine gd_iload hX 94 dd_Rd_readRuns_94 rfl ?_
                    refine gd_lload hX 96 dd_Rd_readRuns_96 rfl ?_
                    refine gd_call hX (st := []) (wr := [gd_ob 2 h [.int (nI a1), .long fo2], gd_ob 1 fe [.ref fr, .int (nI L.length)], gd_aB K fr 1000 ff]) (ct_Cl_fill _ K sp sa (63 - m) wm G (v + ch_un fo2) (by omega)) 98 dd_Rd_readRuns_98 (gd_nV hX (As := [.int (nI (63 - m)), .long (v + ch_un fo2)]) kw_379 kw_251 kw_252 (gd_sigOf (n := 2) kw_253 (by decide)) (by decide) 3 rfl rfl rfl rfl dd_Rd_readRuns_98) (gd_codeOf kw_253) (by decide) [3, 4] [0, 1, 2] rfl rfl rfl rfl rfl (by decide) (Nat.le_of_ble_eq_true rfl) (Nat.le_of_ble_eq_true rfl) (Nat.le_of_ble_eq_true rfl) (Nat.le_of_ble_eq_true rfl) (fun v9 w9 h9 => ?_) (fun E9 w9 q9 h9 => h9.elim)
                    obtain ⟨rfl, rfl⟩ := h9
                    show gd_W X K 0 0 [gd_ob 2 h [.int (nI a1), .long fo2], gd_ob 1 fe [.ref fr, .int (nI L.length)], gd_aB K fr 1000 ff, gd_ob 0 sp [.ref sa, .long (wm ||| ((1 : Int64) <<< ((nI (63 - m)).toInt64 &&& 63)))], gd_aJ K sa 64 (vp_updL G (63 - m) (v + ch_un fo2))] [(9, .int (if false then 1 else 0)), (7, .long (v + ch_un fo2)), (6, .int (nI (L.getD a 0))), (0, .ref h), (1, .ref fe), (2, .long w), (4, .ref sp), (5, .int (nI left)), (10, .int (nI (63 - m)))] [] 101
                    refine gd_iinc hX 7 [(5, .int (nI (left - 1))), (9, .int (if false then 1 else 0)), (7, .long (v + ch_un fo2)), (6, .int (nI (L.getD a 0))), (0, .ref h), (1, .ref fe), (2, .long w), (4, .ref sp), (10, .int (nI (63 - m)))] 101 dd_Rd_readRuns_101 rfl (by rw [show left = left - 1 + 1 by omega]; exact pk_m1 _) (by decide) rfl ?_
                    refine gd_iinc hX 3 [(6, .int (nI (L.getD a 0 - 1))), (5, .int (nI (left - 1))), (9, .int (if false then 1 else 0)), (7, .long (v + ch_un fo2)), (0, .ref h), (1, .ref fe), (2, .long w), (4, .ref sp), (10, .int (nI (63 - m)))] 104 dd_Rd_readRuns_104 rfl (by rw [show L.getD a 0 = L.getD a 0 - 1 + 1 by omega]; exact pk_m1 _) (by decide) rfl ?_
                    refine gd_iinc hX 8 [(10, .int (nI (64 - m))), (6, .int (nI (L.getD a 0 - 1))), (5, .int (nI (left - 1))), (9, .int (if false then 1 else 0)), (7, .long (v + ch_un fo2)), (0, .ref h), (1, .ref fe), (2, .long w), (4, .ref sp)] 107 dd_Rd_readRuns_107 rfl (by rw [← hk1]; exact gd_inc _) (by decide) rfl ?_
                    refine gd_goto hX 110 18 dd_Rd_readRuns_110 (by decide) ?_
                    refine gd_lvs [(0, .ref h), (1, .ref fe), (2, .long w), (4, .ref sp), (5, .int (nI (left - 1))), (6, .int (nI (L.getD a 0 - 1))), (7, .long (v + ch_un fo2)), (9, .int (if false then 1 else 0)), (10, .int (nI (64 - m)))] [5, 6, 7, 8, 2, 1, 4, 3, 0] rfl ?_
                    exact ih (64 - m) (left - 1) (L.getD a 0 - 1) (v + ch_un fo2) false a1 fo2 _ (vp_updL g (63 - m) (v + ch_un fo2)) _ (by omega) (by omega) (by omega) (by omega) hwm2 (fun j hj hbj => by
                      by_cases e : j = 63 - m
                      · subst e; rw [pk_uLs, pk_uLs]
                      · rw [pk_uLn e, pk_uLn e]; exact hG j (by omega) hbj) (by rw [hres, hS])
                  · skip
                    exact absurd (show (1 : Int32) = 0 from h5) (by decide)
        · skip
          have hb : ch_bit w (63 - m) = false := by cases hb : ch_bit w (63 - m) with
            | false => rfl
            | true => rw [hb] at h2; exact absurd h2 (by decide)
          rw [hb] at hps
          rw [hb, if_pos rfl] at hS
          refine gd_goto hX 36 107 dd_Rd_readRuns_36 (by decide) ?_
          refine gd_iinc hX 8 [(10, .int (nI (64 - m))), (0, .ref h), (1, .ref fe), (2, .long w), (4, .ref sp), (5, .int (nI left)), (6, .int (nI lor)), (7, .long v), (9, .int (if first then 1 else 0))] 107 dd_Rd_readRuns_107 rfl (by rw [← hk1]; exact gd_inc _) (by decide) rfl ?_
          refine gd_goto hX 110 18 dd_Rd_readRuns_110 (by decide) ?_
          refine gd_lvs [(0, .ref h), (1, .ref fe), (2, .long w), (4, .ref sp), (5, .int (nI left)), (6, .int (nI lor)), (7, .long v), (9, .int (if first then 1 else 0)), (10, .int (nI (64 - m)))] [1, 2, 3, 4, 5, 6, 7, 8, 0] rfl ?_
          exact ih (64 - m) left lor v first a fo wm g G (by omega) (by rw [hps]; exact hleft) hlor ha (fun j hj => by
            rw [hwm j hj]
            by_cases e : j = 63 - m
            · subst e; rw [hb]; rfl
            · have e2 : (j < 64 - m) = (j < 63 - m) := propext ⟨fun _ => by omega, fun _ => by omega⟩
              simp only [e2]) (fun j hj hbj => hG j (by have : j ≠ 63 - m := (fun e => by rw [e, hb] at hbj; cases hbj); omega) hbj) (by rw [hres, hS])
  refine gd_lload_n hX 0 dd_Rd_readRuns_0 rfl ?_
  refine gd_call hX (st := []) (wr := [gd_ob 2 h [.int (nI 8), .long fo], gd_ob 1 fe [.ref fr, .int (nI L.length)], gd_aB K fr 1000 ff, gd_ob 0 sp [.ref sa, .long 0], gd_aJ K sa 64 G]) (ct_Lo_bitCount _ K w) 1 dd_Rd_readRuns_1 (gd_nS hX (As := [.long w]) kw_361 kw_362 kw_25 (gd_nmOf kw_363) (gd_sigOf (n := 1) kw_363 (by decide)) (by decide) rfl rfl dd_Rd_readRuns_1) (gd_codeOf kw_363) (by decide) [] [0, 1, 2, 3, 4] rfl rfl rfl rfl rfl (by decide) (Nat.le_of_ble_eq_true rfl) (Nat.le_of_ble_eq_true rfl) (Nat.le_of_ble_eq_true rfl) (Nat.le_of_ble_eq_true rfl) (fun v9 w9 h9 => ?_) (fun E9 w9 q9 h9 => h9.elim)
  obtain ⟨rfl, rfl⟩ := h9
  show gd_W X K 0 0 [gd_ob 2 h [.int (nI 8), .long fo], gd_ob 1 fe [.ref fr, .int (nI L.length)], gd_aB K fr 1000 ff, gd_ob 0 sp [.ref sa, .long 0], gd_aJ K sa 64 G] [(0, .ref h), (1, .ref fe), (2, .long w), (4, .ref sp)] [.int (nI (ch_pop w 64))] 4
  refine gd_istore hX [(5, .int (nI (ch_pop w 64))), (0, .ref h), (1, .ref fe), (2, .long w), (4, .ref sp)] 4 dd_Rd_readRuns_4 (by decide) rfl ?_
  refine gd_iconst hX 6 dd_Rd_readRuns_6 (v := 0) (by decide) ?_
  refine gd_eqi (show (0 : Int32) = nI 0 from rfl) ?_
  refine gd_istore hX [(6, .int (nI 0)), (5, .int (nI (ch_pop w 64))), (0, .ref h), (1, .ref fe), (2, .long w), (4, .ref sp)] 7 dd_Rd_readRuns_7 (by decide) rfl ?_
  refine gd_lconst hX 9 dd_Rd_readRuns_9 (v := 0) (by decide) ?_
  refine gd_lstore hX [(7, .long 0), (6, .int (nI 0)), (5, .int (nI (ch_pop w 64))), (0, .ref h), (1, .ref fe), (2, .long w), (4, .ref sp)] 10 dd_Rd_readRuns_10 (by decide) rfl ?_
  refine gd_iconst hX 12 dd_Rd_readRuns_12 (v := 1) (by decide) ?_
  refine gd_eqi (show (1 : Int32) = (if true then 1 else 0) from rfl) ?_
  refine gd_istore hX [(9, .int (if true then 1 else 0)), (7, .long 0), (6, .int (nI 0)), (5, .int (nI (ch_pop w 64))), (0, .ref h), (1, .ref fe), (2, .long w), (4, .ref sp)] 13 dd_Rd_readRuns_13 (by decide) rfl ?_
  refine gd_iconst hX 15 dd_Rd_readRuns_15 (v := 0) (by decide) ?_
  refine gd_eqi (show (0 : Int32) = nI 0 from rfl) ?_
  refine gd_istore hX [(10, .int (nI 0)), (9, .int (if true then 1 else 0)), (7, .long 0), (6, .int (nI 0)), (5, .int (nI (ch_pop w 64))), (0, .ref h), (1, .ref fe), (2, .long w), (4, .ref sp)] 16 dd_Rd_readRuns_16 (by decide) rfl ?_
  refine gd_lvs [(0, .ref h), (1, .ref fe), (2, .long w), (4, .ref sp), (5, .int (nI (ch_pop w 64))), (6, .int (nI 0)), (7, .long 0), (9, .int (if true then 1 else 0)), (10, .int (nI 0))] [5, 6, 7, 8, 4, 3, 2, 1, 0] rfl ?_
  exact loop 64 0 (ch_pop w 64) 0 0 true 8 fo 0 (fun _ => 0) G rfl rfl (by omega) h8 (fun j _ => by rw [ch_bit0]; simp) (fun j hj => absurd hj (Nat.not_lt_zero _)) rfl
