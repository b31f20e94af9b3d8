theorem ch_rem8 {i : Nat} (h : i < 2 ^ 31) : nI i - nI i / 8 * 8 = nI (i % 8) := by
  have e : nI i / 8 = nI (i / 8) := pk_div (d := 8) h (by decide) (by decide)
  rw [e, show (8 : Int32) = nI 8 from rfl, pk_mul, pk_sub (by omega)]
  congr 1
  omega
theorem ch_rest_no {w : Int64} {c : Nat} (h0 : ch_rest w (64 - c) = 0) {j : Nat} (h1 : c ≤ j) (h2 : j < 64) : ch_bit w j = true → False := by
  intro hb
  have : ∀ n, c + n ≤ 64 → ch_rest w (64 - (c + n)) = 0 := by
    intro n
    induction n with
    | zero => intro _; exact h0
    | succ n ih =>
      intro hn
      have h3 := ih (by omega)
      rw [ch_rest_c (by omega)] at h3
      have e : c + n + 1 = c + (n + 1) := by omega
      rw [e] at h3
      omega
  have h3 := this (j - c) (by omega)
  have e : c + (j - c) = j := by omega
  rw [e, ch_rest_c h2, hb, if_pos rfl] at h3
  omega
set_option maxRecDepth 100000 in
set_option maxHeartbeats 4000000 in
theorem ct_Mo_wrongAt (l : Launch) (K : gd_K) (h va re fu wi ma wo fd : Nat) (er mm wm mn pl : Int32) (wl : Nat → Int32) (rf : Nat → Int64) (L : List Nat) (ff : Nat → Int32) (hL : L.length ≤ 1000) (hI : ch_I ff L) (hO : ∀ x ∈ L, x < 256) : gd_M l yy_Mo_wrongAt bb_Mo_wrongAt 12 (some .int) [] 0 0 0 0 K [.ref h] [gd_ob 5 h [.int er, .ref va, .ref re, .ref fu, .ref wi, .ref ma, .ref wo, .ref fd, .int mm, .int wm, .int (nI L.length), .int pl], gd_aZ K wi 64 wl, gd_aJ K re 64 rf, gd_aI K fd 1000 ff] (fun v9 w1 => v9 = some (.int (ch_pl (ch_dec L))) ∧ ∃ wl' rf', w1 = [gd_ob 5 h [.int er, .ref va, .ref re, .ref fu, .ref wi, .ref ma, .ref wo, .ref fd, .int mm, .int wm, .int (nI L.length), .int pl], gd_aZ K wi 64 wl', gd_aJ K re 64 rf', gd_aI K fd 1000 ff] ∧ ∀ z, (ch_dec L).2 = some z → (∀ j, j < 64 → wl' j = (if ch_bit z.1 j then 1 else 0)) ∧ ∀ j, j < 64 → ch_bit z.1 j = true → rf' j = z.2 j) (fun _ _ => False) := by
  refine gd_body (Nat.le_of_ble_eq_true rfl) (fun X hXl hin hE hX => ?_)
  refine gd_aload_n hX 0 dd_Mo_wrongAt_0 rfl ?_
  refine gd_get hX inC_Mo 0 10 1 dd_Mo_wrongAt_1 rfl rfl (by decide) kw_418 rfl ?_
  refine gd_bipush hX 4 dd_Mo_wrongAt_4 (v := 8) (by decide) ?_
  refine gd_icmp_ge hX 6 14 dd_Mo_wrongAt_6 (by decide) (fun h1 => ?_) (fun h1 => ?_)
  · skip
    have h8 : 8 ≤ L.length := (nI_leI (a := 8) (by decide) (by omega)).mp h1
    have hd : ch_dec L = match (ch_cells L (ch_rmask L 8) 64 (ch_pop (ch_rmask L 8) 64) 0 0 true 8 (fun _ => 0)) with | (a, none) => (a, none) | (a, some g) => if a = L.length then (a, some ((ch_rmask L 8), g)) else (a, none) := if_neg (by omega)
    obtain ⟨w, hw⟩ : ∃ w, w = (ch_rmask L 8) := ⟨_, rfl⟩
    have hbits : ∀ i, i < 64 → ch_bit w i = (L.getD (i / 8) 0).testBit (i % 8) := fun i hi => by rw [hw]; exact ch_rm_bit L hO hi
    rw [← hw] at hd
    obtain ⟨R, hR⟩ : ∃ R, R = ch_cells L w 64 (ch_pop w 64) 0 0 true 8 (fun _ => 0) := ⟨_, rfl⟩
    rw [← hR] at hd
    have outer : ∀ (wl : Nat → Int32), (∀ j, j < 64 → wl j = (if ch_bit w j then 1 else 0)) → ∀ (N c left : Nat) (v : Int64) (q : Bool) (a : Nat) (G rf : Nat → Int64), left ≤ N → c ≤ 64 → ch_rest w (64 - c) = left → a ≤ L.length → R = ch_cells L w (64 - c) left 0 v q a G → (∀ j, j < c → ch_bit w j = true → rf j = G j) → gd_W X K 0 0 [gd_ob 5 h [.int er, .ref va, .ref re, .ref fu, .ref wi, .ref ma, .ref wo, .ref fd, .int mm, .int wm, .int (nI L.length), .int pl], gd_aZ K wi 64 wl, gd_aJ K re 64 rf, gd_aI K fd 1000 ff] [(0, .ref h), (1, .int (nI left)), (2, .int (nI a)), (3, .int (nI c)), (4, .long v), (6, .int (if q then 1 else 0))] [] 90 := by
      intro wl hwl N
      induction N with
      | zero =>
        intro c left v q a G rf hN hc hrest hal hRR hrf
        obtain rfl : left = 0 := by omega
        refine gd_iload_n hX 90 dd_Mo_wrongAt_90 rfl ?_
        refine gd_if_le hX 91 300 dd_Mo_wrongAt_91 (by decide) (fun h2 => ?_) (fun h2 => ?_)
        · skip
          have hRs : R = (a, some G) := by rw [hRR]; exact ch_cells_done L w _ _ _ _ _ _ _ (by omega)
          rw [hRs] at hd
          have hd : ch_dec L = if a = L.length then (a, some (w, G)) else (a, none) := hd
          refine gd_iload_n hX 300 dd_Mo_wrongAt_300 rfl ?_
          refine gd_aload_n hX 301 dd_Mo_wrongAt_301 rfl ?_
          refine gd_get hX inC_Mo 0 10 302 dd_Mo_wrongAt_302 rfl rfl (by decide) kw_418 rfl ?_
          refine gd_icmp_ge hX 305 312 dd_Mo_wrongAt_305 (by decide) (fun h3 => ?_) (fun h3 => ?_)
          · skip
            have hdd : ch_dec L = (a, some (w, G)) := by rw [hd, if_pos (Nat.le_antisymm hal ((nI_leI (by omega) (by omega)).mp h3))]
            refine gd_iconst hX 312 dd_Mo_wrongAt_312 (v := (-1)) (by decide) ?_
            have hcut : ∀ j, j < 64 → ch_bit w j = true → j < c := by
              intro j hj hb
              apply Classical.byContradiction
              intro hn
              exact ch_rest_no (by omega : ch_rest w (64 - c) = 0) (by omega) hj hb
            exact gd_iret hX hE 313 dd_Mo_wrongAt_313 ⟨by rw [ch_pl_s hdd], _, _, rfl, by rw [hdd]; exact fun z hz => by cases hz; exact ⟨hwl, fun j hj hb => hrf j (hcut j hj hb) hb⟩⟩
          · skip
            have hdd : ch_dec L = (a, none) := by rw [hd, if_neg (fun e => h3 (by rw [e]; exact Int32.le_refl _))]
            refine gd_iload_n hX 308 dd_Mo_wrongAt_308 rfl ?_
            refine gd_goto hX 309 313 dd_Mo_wrongAt_309 (by decide) ?_
            exact gd_iret hX hE 313 dd_Mo_wrongAt_313 ⟨by rw [ch_pl_n hdd], _, _, rfl, by rw [hdd]; exact fun z hz => nomatch hz⟩
        · skip
          exact absurd (by decide) h2
      | succ N ih =>
        intro c left v q a G rf hN hc hrest hal hRR hrf
        have hr64 : ch_rest w (64 - c) ≤ 64 := by have := ch_rest_pop w (64 - c) (by omega); have := ch_pop_le w 64; omega
        have hO9 := ch_getD_lt hO
        refine gd_iload_n hX 90 dd_Mo_wrongAt_90 rfl ?_
        refine gd_if_le hX 91 300 dd_Mo_wrongAt_91 (by decide) (fun h2 => ?_) (fun h2 => ?_)
        · skip
          obtain rfl : left = 0 := by have h3 := (nI_leI (b := 0) (by omega) (by decide)).mp h2; omega
          have hRs : R = (a, some G) := by rw [hRR]; exact ch_cells_done L w _ _ _ _ _ _ _ (by omega)
          rw [hRs] at hd
          have hd : ch_dec L = if a = L.length then (a, some (w, G)) else (a, none) := hd
          refine gd_iload_n hX 300 dd_Mo_wrongAt_300 rfl ?_
          refine gd_aload_n hX 301 dd_Mo_wrongAt_301 rfl ?_
          refine gd_get hX inC_Mo 0 10 302 dd_Mo_wrongAt_302 rfl rfl (by decide) kw_418 rfl ?_
          refine gd_icmp_ge hX 305 312 dd_Mo_wrongAt_305 (by decide) (fun h3 => ?_) (fun h3 => ?_)
          · skip
            have hdd : ch_dec L = (a, some (w, G)) := by rw [hd, if_pos (Nat.le_antisymm hal ((nI_leI (by omega) (by omega)).mp h3))]
            refine gd_iconst hX 312 dd_Mo_wrongAt_312 (v := (-1)) (by decide) ?_
            have hcut : ∀ j, j < 64 → ch_bit w j = true → j < c := by
              intro j hj hb
              apply Classical.byContradiction
              intro hn
              exact ch_rest_no (by omega : ch_rest w (64 - c) = 0) (by omega) hj hb
            exact gd_iret hX hE 313 dd_Mo_wrongAt_313 ⟨by rw [ch_pl_s hdd], _, _, rfl, by rw [hdd]; exact fun z hz => by cases hz; exact ⟨hwl, fun j hj hb => hrf j (hcut j hj hb) hb⟩⟩
          · skip
            have hdd : ch_dec L = (a, none) := by rw [hd, if_neg (fun e => h3 (by rw [e]; exact Int32.le_refl _))]
            refine gd_iload_n hX 308 dd_Mo_wrongAt_308 rfl ?_
            refine gd_goto hX 309 313 dd_Mo_wrongAt_309 (by decide) ?_
            exact gd_iret hX hE 313 dd_Mo_wrongAt_313 ⟨by rw [ch_pl_n hdd], _, _, rfl, by rw [hdd]; exact fun z hz => nomatch hz⟩
        · skip
          have hpos : 0 < left := Nat.pos_of_ne_zero (fun e => h2 (by rw [e]; decide))
          have bad : (L.getD a 0 = 0 ∨ left < L.getD a 0) → gd_W X K 0 0 [gd_ob 5 h [.int er, .ref va, .ref re, .ref fu, .ref wi, .ref ma, .ref wo, .ref fd, .int mm, .int wm, .int (nI L.length), .int pl], gd_aZ K wi 64 wl, gd_aJ K re 64 rf, gd_aI K fd 1000 ff] [(0, .ref h), (1, .int (nI left)), (2, .int (nI a)), (3, .int (nI c)), (4, .long v), (6, .int (if q then 1 else 0))] [] 122 := by
            intro hb9
            have hRs : R = (a, none) := by rw [hRR]; exact ch_cells_bad L w _ _ _ _ _ _ (by omega) hb9
            rw [hRs] at hd
            have hdd : ch_dec L = (a, none) := hd
            refine gd_iload_n hX 122 dd_Mo_wrongAt_122 rfl ?_
            exact gd_iret hX hE 123 dd_Mo_wrongAt_123 ⟨by rw [ch_pl_n hdd], _, _, rfl, by rw [hdd]; exact fun z hz => nomatch hz⟩
          by_cases hbad : L.getD a 0 = 0 ∨ left < L.getD a 0
          · skip
            refine gd_iload_n hX 94 dd_Mo_wrongAt_94 rfl ?_
            refine gd_aload_n hX 95 dd_Mo_wrongAt_95 rfl ?_
            refine gd_get hX inC_Mo 0 10 96 dd_Mo_wrongAt_96 rfl rfl (by decide) kw_418 rfl ?_
            refine gd_icmp_eq hX 99 122 dd_Mo_wrongAt_99 (by decide) (fun h3 => ?_) (fun h3 => ?_)
            · skip
              exact bad hbad
            · skip
              have hlt : a < L.length := Nat.lt_of_le_of_ne hal (fun e => h3 (by rw [e]))
              refine gd_aload_n hX 102 dd_Mo_wrongAt_102 rfl ?_
              refine gd_get hX inC_Mo 0 7 103 dd_Mo_wrongAt_103 rfl rfl (by decide) kw_415 rfl ?_
              refine gd_iload_n hX 106 dd_Mo_wrongAt_106 rfl ?_
              refine gd_iald hX 3 a 107 dd_Mo_wrongAt_107 rfl rfl (by omega) (by decide) ?_
              refine gd_eqi (show (ff a : Int32) = nI (L.getD a 0) from hI a hlt) ?_
              refine gd_iconst hX 108 dd_Mo_wrongAt_108 (v := 1) (by decide) ?_
              refine gd_icmp_lt hX 109 122 dd_Mo_wrongAt_109 (by decide) (fun h4 => ?_) (fun h4 => ?_)
              · skip
                exact bad hbad
              · skip
                refine gd_aload_n hX 112 dd_Mo_wrongAt_112 rfl ?_
                refine gd_get hX inC_Mo 0 7 113 dd_Mo_wrongAt_113 rfl rfl (by decide) kw_415 rfl ?_
                refine gd_iload_n hX 116 dd_Mo_wrongAt_116 rfl ?_
                refine gd_iald hX 3 a 117 dd_Mo_wrongAt_117 rfl rfl (by omega) (by decide) ?_
                refine gd_eqi (show (ff a : Int32) = nI (L.getD a 0) from hI a hlt) ?_
                refine gd_iload_n hX 118 dd_Mo_wrongAt_118 rfl ?_
                refine gd_icmp_le hX 119 124 dd_Mo_wrongAt_119 (by decide) (fun h5 => ?_) (fun h5 => ?_)
                · skip
                  have h6 := (nI_leI (by have := hO9 a; omega) (by omega)).mp h5
                  have h7 : ¬ L.getD a 0 < 1 := fun q => h4 ((nI_ltI (b := 1) (by have := hO9 a; omega) (by decide)).mpr q)
                  omega
                · skip
                  exact bad hbad
          · skip
            have hlt : a < L.length := Nat.lt_of_le_of_ne hal (fun e => hbad (Or.inl (ch_getD_out (by omega))))
            obtain ⟨o, ho⟩ : ∃ o, o = L.getD a 0 := ⟨_, rfl⟩
            have ho8 : o < 256 := by rw [ho]; exact hO9 a
            have ho1 : 1 ≤ o ∧ o ≤ left := by omega
            have fill : ∀ (u : Int64) (a1 : Nat), a1 ≤ L.length → ∀ (p k c : Nat) (G rf : Nat → Int64), p + k = o → c ≤ 64 → ch_rest w (64 - c) = left - k → R = ch_cells L w (64 - c) (left - k) (o - k) (v + ch_un u) false a1 G → (∀ j, j < c → ch_bit w j = true → rf j = G j) → gd_W X K 0 0 [gd_ob 5 h [.int er, .ref va, .ref re, .ref fu, .ref wi, .ref ma, .ref wo, .ref fd, .int mm, .int wm, .int (nI L.length), .int pl], gd_aZ K wi 64 wl, gd_aJ K re 64 rf, gd_aI K fd 1000 ff] [(0, .ref h), (1, .int (nI (left - o))), (2, .int (nI a1)), (3, .int (nI c)), (4, .long (v + ch_un u)), (6, .int (if false then 1 else 0)), (7, .int (nI o)), (11, .int (nI k))] [] 258 := by
              intro u a1 ha1 p
              induction p with
              | zero =>
                intro k c G rf hk hc hrest hRR hrf
                obtain rfl : k = o := by omega
                refine gd_iload hX 258 dd_Mo_wrongAt_258 rfl ?_
                refine gd_iload hX 260 dd_Mo_wrongAt_260 rfl ?_
                refine gd_icmp_ge hX 262 297 dd_Mo_wrongAt_262 (by decide) (fun h3 => ?_) (fun h3 => ?_)
                · skip
                  refine gd_goto hX 297 90 dd_Mo_wrongAt_297 (by decide) ?_
                  refine gd_lvs [(0, .ref h), (1, .int (nI (left - k))), (2, .int (nI a1)), (3, .int (nI c)), (4, .long (v + ch_un u)), (6, .int (if false then 1 else 0))] [0, 1, 2, 3, 4, 5] rfl ?_
                  rw [Nat.sub_self] at hRR
                  exact ih c (left - k) _ false a1 G rf (by omega) hc hrest ha1 hRR hrf
                · skip
                  exact absurd (Int32.le_refl _) h3
              | succ p ihp =>
                intro k c G rf hk hc hrest hRR hrf
                have skip : ∀ (m c : Nat), m + c = 64 → ch_rest w (64 - c) = left - k → R = ch_cells L w (64 - c) (left - k) (o - k) (v + ch_un u) false a1 G → (∀ j, j < c → ch_bit w j = true → rf j = G j) → gd_W X K 0 0 [gd_ob 5 h [.int er, .ref va, .ref re, .ref fu, .ref wi, .ref ma, .ref wo, .ref fd, .int mm, .int wm, .int (nI L.length), .int pl], gd_aZ K wi 64 wl, gd_aJ K re 64 rf, gd_aI K fd 1000 ff] [(0, .ref h), (1, .int (nI (left - o))), (2, .int (nI a1)), (3, .int (nI c)), (4, .long (v + ch_un u)), (6, .int (if false then 1 else 0)), (7, .int (nI o)), (11, .int (nI k))] [] 265 := by
                  intro m
                  induction m with
                  | zero =>
                    intro c hm hrest hRR hrf
                    obtain rfl : c = 64 := by omega
                    have h0 : ch_rest w (64 - 64) = 0 := rfl
                    omega
                  | succ m ihm =>
                    intro c hm hrest hRR hrf
                    have hc9 : c < 64 := by omega
                    have hrc := ch_rest_c (w := w) hc9
                    refine gd_aload_n hX 265 dd_Mo_wrongAt_265 rfl ?_
                    refine gd_get hX inC_Mo 0 4 266 dd_Mo_wrongAt_266 rfl rfl (by decide) kw_412 rfl ?_
                    refine gd_iload_n hX 269 dd_Mo_wrongAt_269 rfl ?_
                    refine gd_zald hX 1 c 270 dd_Mo_wrongAt_270 rfl rfl hc9 (by decide) ?_
                    refine gd_eqi (show (wl c : Int32) = (if ch_bit w c then 1 else 0) from hwl c hc9) ?_
                    refine gd_if_ne hX 271 280 dd_Mo_wrongAt_271 (by decide) (fun h4 => ?_) (fun h4 => ?_)
                    · skip
                      have h5 := (ch_ifb _).mp h4
                      rw [h5, if_pos rfl] at hrc
                      refine gd_aload_n hX 280 dd_Mo_wrongAt_280 rfl ?_
                      refine gd_get hX inC_Mo 0 2 281 dd_Mo_wrongAt_281 rfl rfl (by decide) kw_410 rfl ?_
                      refine gd_iload_n hX 284 dd_Mo_wrongAt_284 rfl ?_
                      refine gd_iinc hX 3 [(3, .int (nI (c + 1))), (0, .ref h), (1, .int (nI (left - o))), (2, .int (nI a1)), (4, .long (v + ch_un u)), (6, .int (if false then 1 else 0)), (7, .int (nI o)), (11, .int (nI k))] 285 dd_Mo_wrongAt_285 rfl (gd_inc c) (by decide) rfl ?_
                      refine gd_lload hX 288 dd_Mo_wrongAt_288 rfl ?_
                      refine gd_last hX 2 c [gd_ob 5 h [.int er, .ref va, .ref re, .ref fu, .ref wi, .ref ma, .ref wo, .ref fd, .int mm, .int wm, .int (nI L.length), .int pl], gd_aZ K wi 64 wl, gd_aJ K re 64 (vp_updL rf c (v + ch_un u)), gd_aI K fd 1000 ff] 290 dd_Mo_wrongAt_290 rfl rfl hc9 (by decide) rfl ?_
                      refine gd_iinc hX 7 [(11, .int (nI (k + 1))), (3, .int (nI (c + 1))), (0, .ref h), (1, .int (nI (left - o))), (2, .int (nI a1)), (4, .long (v + ch_un u)), (6, .int (if false then 1 else 0)), (7, .int (nI o))] 291 dd_Mo_wrongAt_291 rfl (gd_inc k) (by decide) rfl ?_
                      refine gd_goto hX 294 258 dd_Mo_wrongAt_294 (by decide) ?_
                      refine gd_lvs [(0, .ref h), (1, .int (nI (left - o))), (2, .int (nI a1)), (3, .int (nI (c + 1))), (4, .long (v + ch_un u)), (6, .int (if false then 1 else 0)), (7, .int (nI o)), (11, .int (nI (k + 1)))] [2, 3, 4, 1, 5, 6, 7, 0] rfl ?_
                      rw [ch_cells_fill L hc9 h5 _ (by omega)] at hRR
                      have e1 : left - k - 1 = left - (k + 1) := by omega
                      have e2 : o - k - 1 = o - (k + 1) := by omega
                      rw [e1, e2] at hRR
                      exact ihp (k + 1) (c + 1) _ _ (by omega) (by omega) (by omega) hRR (fun j hj hb => by by_cases e : j = c; { subst e; rw [pk_uLs, pk_uLs] }; { rw [pk_uLn e, pk_uLn e]; exact hrf j (by omega) hb })
                    · skip
                      have h5 := (ch_ib _).mp h4
                      rw [h5] at hrc
                      have hrc : ch_rest w (64 - c) = ch_rest w (64 - (c + 1)) := hrc
                      refine gd_iinc hX 3 [(3, .int (nI (c + 1))), (0, .ref h), (1, .int (nI (left - o))), (2, .int (nI a1)), (4, .long (v + ch_un u)), (6, .int (if false then 1 else 0)), (7, .int (nI o)), (11, .int (nI k))] 274 dd_Mo_wrongAt_274 rfl (gd_inc c) (by decide) rfl ?_
                      refine gd_goto hX 277 265 dd_Mo_wrongAt_277 (by decide) ?_
                      refine gd_lvs [(0, .ref h), (1, .int (nI (left - o))), (2, .int (nI a1)), (3, .int (nI (c + 1))), (4, .long (v + ch_un u)), (6, .int (if false then 1 else 0)), (7, .int (nI o)), (11, .int (nI k))] [1, 2, 3, 0, 4, 5, 6, 7] rfl ?_
                      rw [ch_cells_skip L hc9 h5] at hRR
                      exact ihm (c + 1) (by omega) (by omega) hRR (fun j hj hb => by by_cases e : j = c; { subst e; rw [h5] at hb; cases hb }; { exact hrf j (by omega) hb })
                refine gd_iload hX 258 dd_Mo_wrongAt_258 rfl ?_
                refine gd_iload hX 260 dd_Mo_wrongAt_260 rfl ?_
                refine gd_icmp_ge hX 262 297 dd_Mo_wrongAt_262 (by decide) (fun h3 => ?_) (fun h3 => ?_)
                · skip
                  exact absurd ((nI_leI (by omega) (by omega)).mp h3) (by omega)
                · skip
                  exact skip (64 - c) c (by omega) hrest hRR hrf
            have go : ∀ (u : Int64) (a1 : Nat), ch_rd L q 10 (a + 1) 0 = (a1, some u) → gd_W X K 0 0 [gd_ob 5 h [.int er, .ref va, .ref re, .ref fu, .ref wi, .ref ma, .ref wo, .ref fd, .int mm, .int wm, .int (nI L.length), .int pl], gd_aZ K wi 64 wl, gd_aJ K re 64 rf, gd_aI K fd 1000 ff] [(0, .ref h), (1, .int (nI left)), (2, .int (nI a1)), (3, .int (nI c)), (4, .long v), (6, .int (if q then 1 else 0)), (7, .int (nI o)), (9, .long u)] [] 232 := by
              intro u a1 hrd
              have ha1 : a1 ≤ L.length := by have := ch_rd_le L q 10 (a + 1) 0 (by omega); rw [hrd] at this; exact this
              rw [ch_cells_go L w _ _ _ _ _ _ _ _ (by omega) hbad hrd, ← ho] at hRR
              refine gd_lload hX 232 dd_Mo_wrongAt_232 rfl ?_
              refine gd_lload hX 234 dd_Mo_wrongAt_234 rfl ?_
              refine gd_iconst hX 236 dd_Mo_wrongAt_236 (v := 1) (by decide) ?_
              refine gd_lushr hX 237 dd_Mo_wrongAt_237 ?_
              refine gd_lload hX 238 dd_Mo_wrongAt_238 rfl ?_
              refine gd_lconst hX 240 dd_Mo_wrongAt_240 (v := 1) (by decide) ?_
              refine gd_land hX 241 dd_Mo_wrongAt_241 ?_
              refine gd_lneg hX 242 dd_Mo_wrongAt_242 ?_
              refine gd_lxor hX 243 dd_Mo_wrongAt_243 ?_
              refine gd_ladd hX 244 dd_Mo_wrongAt_244 ?_
              refine gd_eql (show (v + (((u.toUInt64 >>> ((1 : Int32).toInt64.toUInt64 &&& Int64.toUInt64 63)).toInt64) ^^^ (-(u &&& 1))) : Int64) = v + ch_un u from rfl) ?_
              refine gd_lstore hX [(4, .long (v + ch_un u)), (0, .ref h), (1, .int (nI left)), (2, .int (nI a1)), (3, .int (nI c)), (6, .int (if q then 1 else 0)), (7, .int (nI o)), (9, .long u)] 245 dd_Mo_wrongAt_245 (by decide) rfl ?_
              refine gd_iconst hX 247 dd_Mo_wrongAt_247 (v := 0) (by decide) ?_
              refine gd_eqi (show (0 : Int32) = (if false then 1 else 0) from rfl) ?_
              refine gd_istore hX [(6, .int (if false then 1 else 0)), (4, .long (v + ch_un u)), (0, .ref h), (1, .int (nI left)), (2, .int (nI a1)), (3, .int (nI c)), (7, .int (nI o)), (9, .long u)] 248 dd_Mo_wrongAt_248 (by decide) rfl ?_
              refine gd_iload_n hX 250 dd_Mo_wrongAt_250 rfl ?_
              refine gd_iload hX 251 dd_Mo_wrongAt_251 rfl ?_
              refine gd_isub hX 253 dd_Mo_wrongAt_253 ?_
              refine gd_eqi (show ((nI left) - (nI o) : Int32) = nI (left - o) from pk_sub (by omega)) ?_
              refine gd_istore_n hX [(1, .int (nI (left - o))), (6, .int (if false then 1 else 0)), (4, .long (v + ch_un u)), (0, .ref h), (2, .int (nI a1)), (3, .int (nI c)), (7, .int (nI o)), (9, .long u)] 254 dd_Mo_wrongAt_254 rfl (by decide) rfl ?_
              refine gd_iconst hX 255 dd_Mo_wrongAt_255 (v := 0) (by decide) ?_
              refine gd_eqi (show (0 : Int32) = nI 0 from rfl) ?_
              refine gd_istore hX [(11, .int (nI 0)), (1, .int (nI (left - o))), (6, .int (if false then 1 else 0)), (4, .long (v + ch_un u)), (0, .ref h), (2, .int (nI a1)), (3, .int (nI c)), (7, .int (nI o)), (9, .long u)] 256 dd_Mo_wrongAt_256 (by decide) rfl ?_
              refine gd_lvs [(0, .ref h), (1, .int (nI (left - o))), (2, .int (nI a1)), (3, .int (nI c)), (4, .long (v + ch_un u)), (6, .int (if false then 1 else 0)), (7, .int (nI o)), (11, .int (nI 0))] [4, 1, 5, 6, 3, 2, 7, 0] rfl ?_
              exact fill u a1 ha1 o 0 c G rf (by omega) hc (by omega) hRR hrf
            have num : ∀ (n a2 : Nat) (u : Int64), n ≤ 9 → a2 ≤ L.length → ch_rd L q 10 (a + 1) 0 = ch_rd L q (n + 1) a2 u → gd_W X K 0 0 [gd_ob 5 h [.int er, .ref va, .ref re, .ref fu, .ref wi, .ref ma, .ref wo, .ref fd, .int mm, .int wm, .int (nI L.length), .int pl], gd_aZ K wi 64 wl, gd_aJ K re 64 rf, gd_aI K fd 1000 ff] [(0, .ref h), (1, .int (nI left)), (2, .int (nI a2)), (3, .int (nI c)), (4, .long v), (6, .int (if q then 1 else 0)), (7, .int (nI o)), (8, .int (nI (9 - n))), (9, .long u)] [] 141 := by
              intro n
              induction n with
              | zero =>
                intro a2 u hn ha2 hrd
                rw [ch_rd_S L q 0 a2 u] at hrd
                refine gd_iload_n hX 141 dd_Mo_wrongAt_141 rfl ?_
                refine gd_aload_n hX 142 dd_Mo_wrongAt_142 rfl ?_
                refine gd_get hX inC_Mo 0 10 143 dd_Mo_wrongAt_143 rfl rfl (by decide) kw_418 rfl ?_
                refine gd_icmp_ne hX 146 151 dd_Mo_wrongAt_146 (by decide) (fun h3 => ?_) (fun h3 => ?_)
                · skip
                  have hl2 : a2 < L.length := Nat.lt_of_le_of_ne ha2 (fun e => h3 (by rw [e]))
                  rw [if_neg (by omega)] at hrd
                  have hc8 : L.getD a2 0 < 256 := hO9 a2
                  refine gd_aload_n hX 151 dd_Mo_wrongAt_151 rfl ?_
                  refine gd_get hX inC_Mo 0 7 152 dd_Mo_wrongAt_152 rfl rfl (by decide) kw_415 rfl ?_
                  refine gd_iload_n hX 155 dd_Mo_wrongAt_155 rfl ?_
                  refine gd_iald hX 3 a2 156 dd_Mo_wrongAt_156 rfl rfl (by omega) (by decide) ?_
                  refine gd_eqi (show (ff a2 : Int32) = nI (L.getD a2 0) from hI a2 hl2) ?_
                  refine gd_istore hX [(11, .int (nI (L.getD a2 0))), (0, .ref h), (1, .int (nI left)), (2, .int (nI a2)), (3, .int (nI c)), (4, .long v), (6, .int (if q then 1 else 0)), (7, .int (nI o)), (8, .int (nI (9 - 0))), (9, .long u)] 157 dd_Mo_wrongAt_157 (by decide) rfl ?_
                  have at174 : (0 = 0 → L.getD a2 0 = 1) → gd_W X K 0 0 [gd_ob 5 h [.int er, .ref va, .ref re, .ref fu, .ref wi, .ref ma, .ref wo, .ref fd, .int mm, .int wm, .int (nI L.length), .int pl], gd_aZ K wi 64 wl, gd_aJ K re 64 rf, gd_aI K fd 1000 ff] [(0, .ref h), (1, .int (nI left)), (2, .int (nI a2)), (3, .int (nI c)), (4, .long v), (6, .int (if q then 1 else 0)), (7, .int (nI o)), (8, .int (nI (9 - 0))), (9, .long u), (11, .int (nI (L.getD a2 0)))] [] 174 := by
                    intro h9
                    rw [if_neg (fun z => z.2 (h9 z.1))] at hrd
                    refine gd_lload hX 174 dd_Mo_wrongAt_174 rfl ?_
                    refine gd_iload hX 176 dd_Mo_wrongAt_176 rfl ?_
                    refine gd_bipush hX 178 dd_Mo_wrongAt_178 (v := 127) (by decide) ?_
                    refine gd_iand hX 180 dd_Mo_wrongAt_180 ?_
                    refine gd_eqi (show ((nI (L.getD a2 0)) &&& 127 : Int32) = nI (L.getD a2 0 % 128) from pk_andN (m := 127) (by omega) 7 (by decide)) ?_
                    refine gd_i2l hX 181 dd_Mo_wrongAt_181 ?_
                    refine gd_bipush hX 182 dd_Mo_wrongAt_182 (v := 7) (by decide) ?_
                    refine gd_iload hX 184 dd_Mo_wrongAt_184 rfl ?_
                    refine gd_imul hX 186 dd_Mo_wrongAt_186 ?_
                    refine gd_eqi (show (7 * (nI (9 - 0)) : Int32) = nI (7 * (9 - 0)) from by rw [show (7 : Int32) = nI 7 from rfl, pk_mul]) ?_
                    refine gd_lshl hX 187 dd_Mo_wrongAt_187 ?_
                    refine gd_lor hX 188 dd_Mo_wrongAt_188 ?_
                    refine gd_eql (show (u ||| (((nI (L.getD a2 0 % 128)).toInt64) <<< ((nI (7 * (9 - 0))).toInt64 &&& 63)) : Int64) = ch_sh7 u (L.getD a2 0) (9 - 0) from rfl) ?_
                    refine gd_lstore hX [(9, .long (ch_sh7 u (L.getD a2 0) (9 - 0))), (0, .ref h), (1, .int (nI left)), (2, .int (nI a2)), (3, .int (nI c)), (4, .long v), (6, .int (if q then 1 else 0)), (7, .int (nI o)), (8, .int (nI (9 - 0))), (11, .int (nI (L.getD a2 0)))] 189 dd_Mo_wrongAt_189 (by decide) rfl ?_
                    refine gd_iinc hX 8 [(8, .int (nI ((9 - 0) + 1))), (9, .long (ch_sh7 u (L.getD a2 0) (9 - 0))), (0, .ref h), (1, .int (nI left)), (2, .int (nI a2)), (3, .int (nI c)), (4, .long v), (6, .int (if q then 1 else 0)), (7, .int (nI o)), (11, .int (nI (L.getD a2 0)))] 191 dd_Mo_wrongAt_191 rfl (gd_inc (9 - 0)) (by decide) rfl ?_
                    refine gd_iload hX 194 dd_Mo_wrongAt_194 rfl ?_
                    refine gd_sipush hX 196 dd_Mo_wrongAt_196 (v := 128) (by decide) ?_
                    refine gd_icmp_lt hX 199 208 dd_Mo_wrongAt_199 (by decide) (fun h5 => ?_) (fun h5 => ?_)
                    · skip
                      have hc1 : ¬ 128 ≤ L.getD a2 0 := Nat.not_le_of_lt ((nI_ltI (b := 128) (by omega) (by decide)).mp h5)
                      rw [if_neg hc1] at hrd
                      have at226 : ¬ (L.getD a2 0 = 0 ∧ (0 ≠ 9 ∨ q = false)) → gd_W X K 0 0 [gd_ob 5 h [.int er, .ref va, .ref re, .ref fu, .ref wi, .ref ma, .ref wo, .ref fd, .int mm, .int wm, .int (nI L.length), .int pl], gd_aZ K wi 64 wl, gd_aJ K re 64 rf, gd_aI K fd 1000 ff] [(8, .int (nI ((9 - 0) + 1))), (9, .long (ch_sh7 u (L.getD a2 0) (9 - 0))), (0, .ref h), (1, .int (nI left)), (2, .int (nI a2)), (3, .int (nI c)), (4, .long v), (6, .int (if q then 1 else 0)), (7, .int (nI o)), (11, .int (nI (L.getD a2 0)))] [] 226 := by
                        intro hz9
                        rw [if_neg hz9] at hrd
                        refine gd_iinc hX 4 [(2, .int (nI (a2 + 1))), (8, .int (nI ((9 - 0) + 1))), (9, .long (ch_sh7 u (L.getD a2 0) (9 - 0))), (0, .ref h), (1, .int (nI left)), (3, .int (nI c)), (4, .long v), (6, .int (if q then 1 else 0)), (7, .int (nI o)), (11, .int (nI (L.getD a2 0)))] 226 dd_Mo_wrongAt_226 rfl (gd_inc a2) (by decide) rfl ?_
                        refine gd_goto hX 229 232 dd_Mo_wrongAt_229 (by decide) ?_
                        refine gd_lvs [(0, .ref h), (1, .int (nI left)), (2, .int (nI (a2 + 1))), (3, .int (nI c)), (4, .long v), (6, .int (if q then 1 else 0)), (7, .int (nI o)), (9, .long (ch_sh7 u (L.getD a2 0) (9 - 0)))] [3, 4, 0, 5, 6, 7, 8, 2] rfl ?_
                        exact go _ _ hrd
                      have at224 : (L.getD a2 0 = 0 ∧ (0 ≠ 9 ∨ q = false)) → gd_W X K 0 0 [gd_ob 5 h [.int er, .ref va, .ref re, .ref fu, .ref wi, .ref ma, .ref wo, .ref fd, .int mm, .int wm, .int (nI L.length), .int pl], gd_aZ K wi 64 wl, gd_aJ K re 64 rf, gd_aI K fd 1000 ff] [(8, .int (nI ((9 - 0) + 1))), (9, .long (ch_sh7 u (L.getD a2 0) (9 - 0))), (0, .ref h), (1, .int (nI left)), (2, .int (nI a2)), (3, .int (nI c)), (4, .long v), (6, .int (if q then 1 else 0)), (7, .int (nI o)), (11, .int (nI (L.getD a2 0)))] [] 224 := by
                        intro hz9
                        rw [if_pos hz9] at hrd
                        refine gd_iload_n hX 224 dd_Mo_wrongAt_224 rfl ?_
                        have hrd9 : ch_rd L q 10 (a + 1) 0 = (a2, none) := by exact hrd
                        have hRs : R = (a2, none) := by rw [hRR]; exact ch_cells_badn L w _ _ _ _ _ _ _ (by omega) hbad hrd9
                        rw [hRs] at hd
                        have hdd : ch_dec L = (a2, none) := hd
                        exact gd_iret hX hE 225 dd_Mo_wrongAt_225 ⟨by rw [ch_pl_n hdd], _, _, rfl, by rw [hdd]; exact fun z hz => nomatch hz⟩
                      refine gd_iload hX 208 dd_Mo_wrongAt_208 rfl ?_
                      refine gd_if_ne hX 210 226 dd_Mo_wrongAt_210 (by decide) (fun h6 => ?_) (fun h6 => ?_)
                      · skip
                        exact at226 (fun z => h6 (by rw [z.1]; rfl))
                      · skip
                        have hz0 : L.getD a2 0 = 0 := nI_0' (by omega) h6
                        refine gd_iload hX 213 dd_Mo_wrongAt_213 rfl ?_
                        refine gd_iconst hX 215 dd_Mo_wrongAt_215 (v := 1) (by decide) ?_
                        refine gd_icmp_gt hX 216 224 dd_Mo_wrongAt_216 (by decide) (fun h7 => ?_) (fun h7 => ?_)
                        · skip
                          have h8b := (nI_ltI (a := 1) (by decide) (by omega)).mp h7
                          exact at224 ⟨hz0, Or.inl (by omega)⟩
                        · skip
                          exact absurd ((nI_ltI (a := 1) (by decide) (by decide)).mpr (by decide)) h7
                    · skip
                      have hc1 : 128 ≤ L.getD a2 0 := Nat.le_of_not_lt (fun z => h5 ((nI_ltI (b := 128) (by omega) (by decide)).mpr z))
                      have := h9 rfl
                      omega
                  refine gd_iload hX 159 dd_Mo_wrongAt_159 rfl ?_
                  refine gd_bipush hX 161 dd_Mo_wrongAt_161 (v := 9) (by decide) ?_
                  refine gd_icmp_ne hX 163 174 dd_Mo_wrongAt_163 (by decide) (fun h5 => ?_) (fun h5 => ?_)
                  · skip
                    refine gd_lvs [(0, .ref h), (1, .int (nI left)), (2, .int (nI a2)), (3, .int (nI c)), (4, .long v), (6, .int (if q then 1 else 0)), (7, .int (nI o)), (8, .int (nI (9 - 0))), (9, .long u), (11, .int (nI (L.getD a2 0)))] [1, 2, 3, 4, 5, 6, 7, 8, 9, 0] rfl ?_
                    exact absurd rfl h5
                  · skip
                    refine gd_iload hX 166 dd_Mo_wrongAt_166 rfl ?_
                    refine gd_iconst hX 168 dd_Mo_wrongAt_168 (v := 1) (by decide) ?_
                    refine gd_icmp_eq hX 169 174 dd_Mo_wrongAt_169 (by decide) (fun h6 => ?_) (fun h6 => ?_)
                    · skip
                      refine gd_lvs [(0, .ref h), (1, .int (nI left)), (2, .int (nI a2)), (3, .int (nI c)), (4, .long v), (6, .int (if q then 1 else 0)), (7, .int (nI o)), (8, .int (nI (9 - 0))), (9, .long u), (11, .int (nI (L.getD a2 0)))] [1, 2, 3, 4, 5, 6, 7, 8, 9, 0] rfl ?_
                      exact at174 (fun _ => (nI_eq (by omega) (by decide)).mp h6)
                    · skip
                      refine gd_iload_n hX 172 dd_Mo_wrongAt_172 rfl ?_
                      have hrd9 : ch_rd L q 10 (a + 1) 0 = (a2, none) := by rw [hrd, if_pos ⟨rfl, fun e => h6 (by rw [e]; rfl)⟩]
                      have hRs : R = (a2, none) := by rw [hRR]; exact ch_cells_badn L w _ _ _ _ _ _ _ (by omega) hbad hrd9
                      rw [hRs] at hd
                      have hdd : ch_dec L = (a2, none) := hd
                      exact gd_iret hX hE 173 dd_Mo_wrongAt_173 ⟨by rw [ch_pl_n hdd], _, _, rfl, by rw [hdd]; exact fun z hz => nomatch hz⟩
                · skip
                  have hl2 : L.length ≤ a2 := Nat.le_of_eq ((nI_eq (by omega) (by omega)).mp h3).symm
                  refine gd_iload_n hX 149 dd_Mo_wrongAt_149 rfl ?_
                  have hrd9 : ch_rd L q 10 (a + 1) 0 = (a2, none) := by rw [hrd, if_pos hl2]
                  have hRs : R = (a2, none) := by rw [hRR]; exact ch_cells_badn L w _ _ _ _ _ _ _ (by omega) hbad hrd9
                  rw [hRs] at hd
                  have hdd : ch_dec L = (a2, none) := hd
                  exact gd_iret hX hE 150 dd_Mo_wrongAt_150 ⟨by rw [ch_pl_n hdd], _, _, rfl, by rw [hdd]; exact fun z hz => nomatch hz⟩
              | succ n ihn =>
                intro a2 u hn ha2 hrd
                rw [ch_rd_S L q (n + 1) a2 u] at hrd
                refine gd_iload_n hX 141 dd_Mo_wrongAt_141 rfl ?_
                refine gd_aload_n hX 142 dd_Mo_wrongAt_142 rfl ?_
                refine gd_get hX inC_Mo 0 10 143 dd_Mo_wrongAt_143 rfl rfl (by decide) kw_418 rfl ?_
                refine gd_icmp_ne hX 146 151 dd_Mo_wrongAt_146 (by decide) (fun h3 => ?_) (fun h3 => ?_)
                · skip
                  have hl2 : a2 < L.length := Nat.lt_of_le_of_ne ha2 (fun e => h3 (by rw [e]))
                  rw [if_neg (by omega)] at hrd
                  have hc8 : L.getD a2 0 < 256 := hO9 a2
                  refine gd_aload_n hX 151 dd_Mo_wrongAt_151 rfl ?_
                  refine gd_get hX inC_Mo 0 7 152 dd_Mo_wrongAt_152 rfl rfl (by decide) kw_415 rfl ?_
                  refine gd_iload_n hX 155 dd_Mo_wrongAt_155 rfl ?_
                  refine gd_iald hX 3 a2 156 dd_Mo_wrongAt_156 rfl rfl (by omega) (by decide) ?_
                  refine gd_eqi (show (ff a2 : Int32) = nI (L.getD a2 0) from hI a2 hl2) ?_
                  refine gd_istore hX [(11, .int (nI (L.getD a2 0))), (0, .ref h), (1, .int (nI left)), (2, .int (nI a2)), (3, .int (nI c)), (4, .long v), (6, .int (if q then 1 else 0)), (7, .int (nI o)), (8, .int (nI (9 - (n + 1)))), (9, .long u)] 157 dd_Mo_wrongAt_157 (by decide) rfl ?_
                  have at174 : ((n + 1) = 0 → L.getD a2 0 = 1) → gd_W X K 0 0 [gd_ob 5 h [.int er, .ref va, .ref re, .ref fu, .ref wi, .ref ma, .ref wo, .ref fd, .int mm, .int wm, .int (nI L.length), .int pl], gd_aZ K wi 64 wl, gd_aJ K re 64 rf, gd_aI K fd 1000 ff] [(0, .ref h), (1, .int (nI left)), (2, .int (nI a2)), (3, .int (nI c)), (4, .long v), (6, .int (if q then 1 else 0)), (7, .int (nI o)), (8, .int (nI (9 - (n + 1)))), (9, .long u), (11, .int (nI (L.getD a2 0)))] [] 174 := by
                    intro h9
                    rw [if_neg (fun z => z.2 (h9 z.1))] at hrd
                    refine gd_lload hX 174 dd_Mo_wrongAt_174 rfl ?_
                    refine gd_iload hX 176 dd_Mo_wrongAt_176 rfl ?_
                    refine gd_bipush hX 178 dd_Mo_wrongAt_178 (v := 127) (by decide) ?_
                    refine gd_iand hX 180 dd_Mo_wrongAt_180 ?_
                    refine gd_eqi (show ((nI (L.getD a2 0)) &&& 127 : Int32) = nI (L.getD a2 0 % 128) from pk_andN (m := 127) (by omega) 7 (by decide)) ?_
                    refine gd_i2l hX 181 dd_Mo_wrongAt_181 ?_
                    refine gd_bipush hX 182 dd_Mo_wrongAt_182 (v := 7) (by decide) ?_
                    refine gd_iload hX 184 dd_Mo_wrongAt_184 rfl ?_
                    refine gd_imul hX 186 dd_Mo_wrongAt_186 ?_
                    refine gd_eqi (show (7 * (nI (9 - (n + 1))) : Int32) = nI (7 * (9 - (n + 1))) from by rw [show (7 : Int32) = nI 7 from rfl, pk_mul]) ?_
                    refine gd_lshl hX 187 dd_Mo_wrongAt_187 ?_
                    refine gd_lor hX 188 dd_Mo_wrongAt_188 ?_
                    refine gd_eql (show (u ||| (((nI (L.getD a2 0 % 128)).toInt64) <<< ((nI (7 * (9 - (n + 1)))).toInt64 &&& 63)) : Int64) = ch_sh7 u (L.getD a2 0) (9 - (n + 1)) from rfl) ?_
                    refine gd_lstore hX [(9, .long (ch_sh7 u (L.getD a2 0) (9 - (n + 1)))), (0, .ref h), (1, .int (nI left)), (2, .int (nI a2)), (3, .int (nI c)), (4, .long v), (6, .int (if q then 1 else 0)), (7, .int (nI o)), (8, .int (nI (9 - (n + 1)))), (11, .int (nI (L.getD a2 0)))] 189 dd_Mo_wrongAt_189 (by decide) rfl ?_
                    refine gd_iinc hX 8 [(8, .int (nI ((9 - (n + 1)) + 1))), (9, .long (ch_sh7 u (L.getD a2 0) (9 - (n + 1)))), (0, .ref h), (1, .int (nI left)), (2, .int (nI a2)), (3, .int (nI c)), (4, .long v), (6, .int (if q then 1 else 0)), (7, .int (nI o)), (11, .int (nI (L.getD a2 0)))] 191 dd_Mo_wrongAt_191 rfl (gd_inc (9 - (n + 1))) (by decide) rfl ?_
                    refine gd_iload hX 194 dd_Mo_wrongAt_194 rfl ?_
                    refine gd_sipush hX 196 dd_Mo_wrongAt_196 (v := 128) (by decide) ?_
                    refine gd_icmp_lt hX 199 208 dd_Mo_wrongAt_199 (by decide) (fun h5 => ?_) (fun h5 => ?_)
                    · skip
                      have hc1 : ¬ 128 ≤ L.getD a2 0 := Nat.not_le_of_lt ((nI_ltI (b := 128) (by omega) (by decide)).mp h5)
                      rw [if_neg hc1] at hrd
                      have at226 : ¬ (L.getD a2 0 = 0 ∧ ((n + 1) ≠ 9 ∨ q = false)) → gd_W X K 0 0 [gd_ob 5 h [.int er, .ref va, .ref re, .ref fu, .ref wi, .ref ma, .ref wo, .ref fd, .int mm, .int wm, .int (nI L.length), .int pl], gd_aZ K wi 64 wl, gd_aJ K re 64 rf, gd_aI K fd 1000 ff] [(8, .int (nI ((9 - (n + 1)) + 1))), (9, .long (ch_sh7 u (L.getD a2 0) (9 - (n + 1)))), (0, .ref h), (1, .int (nI left)), (2, .int (nI a2)), (3, .int (nI c)), (4, .long v), (6, .int (if q then 1 else 0)), (7, .int (nI o)), (11, .int (nI (L.getD a2 0)))] [] 226 := by
                        intro hz9
                        rw [if_neg hz9] at hrd
                        refine gd_iinc hX 4 [(2, .int (nI (a2 + 1))), (8, .int (nI ((9 - (n + 1)) + 1))), (9, .long (ch_sh7 u (L.getD a2 0) (9 - (n + 1)))), (0, .ref h), (1, .int (nI left)), (3, .int (nI c)), (4, .long v), (6, .int (if q then 1 else 0)), (7, .int (nI o)), (11, .int (nI (L.getD a2 0)))] 226 dd_Mo_wrongAt_226 rfl (gd_inc a2) (by decide) rfl ?_
                        refine gd_goto hX 229 232 dd_Mo_wrongAt_229 (by decide) ?_
                        refine gd_lvs [(0, .ref h), (1, .int (nI left)), (2, .int (nI (a2 + 1))), (3, .int (nI c)), (4, .long v), (6, .int (if q then 1 else 0)), (7, .int (nI o)), (9, .long (ch_sh7 u (L.getD a2 0) (9 - (n + 1))))] [3, 4, 0, 5, 6, 7, 8, 2] rfl ?_
                        exact go _ _ hrd
                      have at224 : (L.getD a2 0 = 0 ∧ ((n + 1) ≠ 9 ∨ q = false)) → gd_W X K 0 0 [gd_ob 5 h [.int er, .ref va, .ref re, .ref fu, .ref wi, .ref ma, .ref wo, .ref fd, .int mm, .int wm, .int (nI L.length), .int pl], gd_aZ K wi 64 wl, gd_aJ K re 64 rf, gd_aI K fd 1000 ff] [(8, .int (nI ((9 - (n + 1)) + 1))), (9, .long (ch_sh7 u (L.getD a2 0) (9 - (n + 1)))), (0, .ref h), (1, .int (nI left)), (2, .int (nI a2)), (3, .int (nI c)), (4, .long v), (6, .int (if q then 1 else 0)), (7, .int (nI o)), (11, .int (nI (L.getD a2 0)))] [] 224 := by
                        intro hz9
                        rw [if_pos hz9] at hrd
                        refine gd_iload_n hX 224 dd_Mo_wrongAt_224 rfl ?_
                        have hrd9 : ch_rd L q 10 (a + 1) 0 = (a2, none) := by exact hrd
                        have hRs : R = (a2, none) := by rw [hRR]; exact ch_cells_badn L w _ _ _ _ _ _ _ (by omega) hbad hrd9
                        rw [hRs] at hd
                        have hdd : ch_dec L = (a2, none) := hd
                        exact gd_iret hX hE 225 dd_Mo_wrongAt_225 ⟨by rw [ch_pl_n hdd], _, _, rfl, by rw [hdd]; exact fun z hz => nomatch hz⟩
                      refine gd_iload hX 208 dd_Mo_wrongAt_208 rfl ?_
                      refine gd_if_ne hX 210 226 dd_Mo_wrongAt_210 (by decide) (fun h6 => ?_) (fun h6 => ?_)
                      · skip
                        exact at226 (fun z => h6 (by rw [z.1]; rfl))
                      · skip
                        have hz0 : L.getD a2 0 = 0 := nI_0' (by omega) h6
                        refine gd_iload hX 213 dd_Mo_wrongAt_213 rfl ?_
                        refine gd_iconst hX 215 dd_Mo_wrongAt_215 (v := 1) (by decide) ?_
                        refine gd_icmp_gt hX 216 224 dd_Mo_wrongAt_216 (by decide) (fun h7 => ?_) (fun h7 => ?_)
                        · skip
                          have h8b := (nI_ltI (a := 1) (by decide) (by omega)).mp h7
                          exact at224 ⟨hz0, Or.inl (by omega)⟩
                        · skip
                          have h8b : (n + 1) = 9 := by have h9b : ¬ 1 < 9 - (n + 1) + 1 := fun z => h7 ((nI_ltI (a := 1) (by decide) (by omega)).mpr z); omega
                          refine gd_iload hX 219 dd_Mo_wrongAt_219 rfl ?_
                          refine gd_if_ne hX 221 226 dd_Mo_wrongAt_221 (by decide) (fun h8 => ?_) (fun h8 => ?_)
                          · skip
                            have h9c := (ch_ifb _).mp h8
                            exact at226 (fun z => by rcases z.2 with z | z; { exact z h8b }; { rw [h9c] at z; cases z })
                          · skip
                            have h9c := (ch_ib _).mp h8
                            exact at224 ⟨hz0, Or.inr h9c⟩
                    · skip
                      have hc1 : 128 ≤ L.getD a2 0 := Nat.le_of_not_lt (fun z => h5 ((nI_ltI (b := 128) (by omega) (by decide)).mpr z))
                      rw [if_pos hc1] at hrd
                      refine gd_iinc hX 4 [(2, .int (nI (a2 + 1))), (8, .int (nI ((9 - (n + 1)) + 1))), (9, .long (ch_sh7 u (L.getD a2 0) (9 - (n + 1)))), (0, .ref h), (1, .int (nI left)), (3, .int (nI c)), (4, .long v), (6, .int (if q then 1 else 0)), (7, .int (nI o)), (11, .int (nI (L.getD a2 0)))] 202 dd_Mo_wrongAt_202 rfl (gd_inc a2) (by decide) rfl ?_
                      refine gd_goto hX 205 141 dd_Mo_wrongAt_205 (by decide) ?_
                      have e9 : 9 - (n + 1) + 1 = 9 - n := by omega
                      rw [e9]
                      refine gd_lvs [(0, .ref h), (1, .int (nI left)), (2, .int (nI (a2 + 1))), (3, .int (nI c)), (4, .long v), (6, .int (if q then 1 else 0)), (7, .int (nI o)), (8, .int (nI (9 - n))), (9, .long (ch_sh7 u (L.getD a2 0) (9 - (n + 1))))] [3, 4, 0, 5, 6, 7, 8, 1, 2] rfl ?_
                      exact ihn (a2 + 1) _ (by omega) (by omega) hrd
                  refine gd_iload hX 159 dd_Mo_wrongAt_159 rfl ?_
                  refine gd_bipush hX 161 dd_Mo_wrongAt_161 (v := 9) (by decide) ?_
                  refine gd_icmp_ne hX 163 174 dd_Mo_wrongAt_163 (by decide) (fun h5 => ?_) (fun h5 => ?_)
                  · skip
                    refine gd_lvs [(0, .ref h), (1, .int (nI left)), (2, .int (nI a2)), (3, .int (nI c)), (4, .long v), (6, .int (if q then 1 else 0)), (7, .int (nI o)), (8, .int (nI (9 - (n + 1)))), (9, .long u), (11, .int (nI (L.getD a2 0)))] [1, 2, 3, 4, 5, 6, 7, 8, 9, 0] rfl ?_
                    exact at174 (fun z => absurd z (by omega))
                  · skip
                    have h6 := (nI_eq (b := 9) (by omega) (by decide)).mp h5
                    omega
                · skip
                  have hl2 : L.length ≤ a2 := Nat.le_of_eq ((nI_eq (by omega) (by omega)).mp h3).symm
                  refine gd_iload_n hX 149 dd_Mo_wrongAt_149 rfl ?_
                  have hrd9 : ch_rd L q 10 (a + 1) 0 = (a2, none) := by rw [hrd, if_pos hl2]
                  have hRs : R = (a2, none) := by rw [hRR]; exact ch_cells_badn L w _ _ _ _ _ _ _ (by omega) hbad hrd9
                  rw [hRs] at hd
                  have hdd : ch_dec L = (a2, none) := hd
                  exact gd_iret hX hE 150 dd_Mo_wrongAt_150 ⟨by rw [ch_pl_n hdd], _, _, rfl, by rw [hdd]; exact fun z hz => nomatch hz⟩
            refine gd_iload_n hX 94 dd_Mo_wrongAt_94 rfl ?_
            refine gd_aload_n hX 95 dd_Mo_wrongAt_95 rfl ?_
            refine gd_get hX inC_Mo 0 10 96 dd_Mo_wrongAt_96 rfl rfl (by decide) kw_418 rfl ?_
            refine gd_icmp_eq hX 99 122 dd_Mo_wrongAt_99 (by decide) (fun h3 => ?_) (fun h3 => ?_)
            · skip
              exact absurd ((nI_eq (by omega) (by omega)).mp h3) (by omega)
            · skip
              refine gd_aload_n hX 102 dd_Mo_wrongAt_102 rfl ?_
              refine gd_get hX inC_Mo 0 7 103 dd_Mo_wrongAt_103 rfl rfl (by decide) kw_415 rfl ?_
              refine gd_iload_n hX 106 dd_Mo_wrongAt_106 rfl ?_
              refine gd_iald hX 3 a 107 dd_Mo_wrongAt_107 rfl rfl (by omega) (by decide) ?_
              refine gd_eqi (show (ff a : Int32) = nI o from by rw [hI a hlt, ho]) ?_
              refine gd_iconst hX 108 dd_Mo_wrongAt_108 (v := 1) (by decide) ?_
              refine gd_icmp_lt hX 109 122 dd_Mo_wrongAt_109 (by decide) (fun h4 => ?_) (fun h4 => ?_)
              · skip
                exact absurd ((nI_ltI (b := 1) (by omega) (by decide)).mp h4) (by omega)
              · skip
                refine gd_aload_n hX 112 dd_Mo_wrongAt_112 rfl ?_
                refine gd_get hX inC_Mo 0 7 113 dd_Mo_wrongAt_113 rfl rfl (by decide) kw_415 rfl ?_
                refine gd_iload_n hX 116 dd_Mo_wrongAt_116 rfl ?_
                refine gd_iald hX 3 a 117 dd_Mo_wrongAt_117 rfl rfl (by omega) (by decide) ?_
                refine gd_eqi (show (ff a : Int32) = nI o from by rw [hI a hlt, ho]) ?_
                refine gd_iload_n hX 118 dd_Mo_wrongAt_118 rfl ?_
                refine gd_icmp_le hX 119 124 dd_Mo_wrongAt_119 (by decide) (fun h5 => ?_) (fun h5 => ?_)
                · skip
                  refine gd_aload_n hX 124 dd_Mo_wrongAt_124 rfl ?_
                  refine gd_get hX inC_Mo 0 7 125 dd_Mo_wrongAt_125 rfl rfl (by decide) kw_415 rfl ?_
                  refine gd_iload_n hX 128 dd_Mo_wrongAt_128 rfl ?_
                  refine gd_iinc hX 2 [(2, .int (nI (a + 1))), (0, .ref h), (1, .int (nI left)), (3, .int (nI c)), (4, .long v), (6, .int (if q then 1 else 0))] 129 dd_Mo_wrongAt_129 rfl (gd_inc a) (by decide) rfl ?_
                  refine gd_iald hX 3 a 132 dd_Mo_wrongAt_132 rfl rfl (by omega) (by decide) ?_
                  refine gd_eqi (show (ff a : Int32) = nI o from by rw [hI a hlt, ho]) ?_
                  refine gd_istore hX [(7, .int (nI o)), (2, .int (nI (a + 1))), (0, .ref h), (1, .int (nI left)), (3, .int (nI c)), (4, .long v), (6, .int (if q then 1 else 0))] 133 dd_Mo_wrongAt_133 (by decide) rfl ?_
                  refine gd_iconst hX 135 dd_Mo_wrongAt_135 (v := 0) (by decide) ?_
                  refine gd_eqi (show (0 : Int32) = nI (9 - 9) from rfl) ?_
                  refine gd_istore hX [(8, .int (nI (9 - 9))), (7, .int (nI o)), (2, .int (nI (a + 1))), (0, .ref h), (1, .int (nI left)), (3, .int (nI c)), (4, .long v), (6, .int (if q then 1 else 0))] 136 dd_Mo_wrongAt_136 (by decide) rfl ?_
                  refine gd_lconst hX 138 dd_Mo_wrongAt_138 (v := 0) (by decide) ?_
                  refine gd_lstore hX [(9, .long 0), (8, .int (nI (9 - 9))), (7, .int (nI o)), (2, .int (nI (a + 1))), (0, .ref h), (1, .int (nI left)), (3, .int (nI c)), (4, .long v), (6, .int (if q then 1 else 0))] 139 dd_Mo_wrongAt_139 (by decide) rfl ?_
                  refine gd_lvs [(0, .ref h), (1, .int (nI left)), (2, .int (nI (a + 1))), (3, .int (nI c)), (4, .long v), (6, .int (if q then 1 else 0)), (7, .int (nI o)), (8, .int (nI (9 - 9))), (9, .long 0)] [4, 5, 3, 6, 7, 8, 2, 1, 0] rfl ?_
                  exact num 9 (a + 1) 0 (by omega) (by omega) rfl
                · skip
                  exact absurd ((nI_leI (by omega) (by omega)).mpr (by omega)) h5
    have will : ∀ (m i : Nat) (wl : Nat → Int32), m + i = 64 → (∀ j, j < i → wl j = (if ch_bit w j then 1 else 0)) → gd_W X K 0 0 [gd_ob 5 h [.int er, .ref va, .ref re, .ref fu, .ref wi, .ref ma, .ref wo, .ref fd, .int mm, .int wm, .int (nI L.length), .int pl], gd_aZ K wi 64 wl, gd_aJ K re 64 rf, gd_aI K fd 1000 ff] [(0, .ref h), (1, .int (nI (ch_pop w i))), (2, .int (nI 8)), (3, .int (nI 0)), (4, .int (nI i))] [] 24 := by
      intro m
      induction m with
      | zero =>
        intro i wl hi hwl
        obtain rfl : i = 64 := by omega
        refine gd_iload hX 24 dd_Mo_wrongAt_24 rfl ?_
        refine gd_bipush hX 26 dd_Mo_wrongAt_26 (v := 64) (by decide) ?_
        refine gd_icmp_ge hX 28 84 dd_Mo_wrongAt_28 (by decide) (fun h2 => ?_) (fun h2 => ?_)
        · skip
          refine gd_lconst hX 84 dd_Mo_wrongAt_84 (v := 0) (by decide) ?_
          refine gd_lstore hX [(4, .long 0), (0, .ref h), (1, .int (nI (ch_pop w 64))), (2, .int (nI 8)), (3, .int (nI 0))] 85 dd_Mo_wrongAt_85 (by decide) rfl ?_
          refine gd_iconst hX 87 dd_Mo_wrongAt_87 (v := 1) (by decide) ?_
          refine gd_eqi (show (1 : Int32) = (if true then 1 else 0) from rfl) ?_
          refine gd_istore hX [(6, .int (if true then 1 else 0)), (4, .long 0), (0, .ref h), (1, .int (nI (ch_pop w 64))), (2, .int (nI 8)), (3, .int (nI 0))] 88 dd_Mo_wrongAt_88 (by decide) rfl ?_
          refine gd_lvs [(0, .ref h), (1, .int (nI (ch_pop w 64))), (2, .int (nI 8)), (3, .int (nI 0)), (4, .long 0), (6, .int (if true then 1 else 0))] [2, 3, 4, 5, 1, 0] rfl ?_
          have hrp := ch_rest_pop w 64 (by decide)
          have hp0 : ch_pop w (64 - 64) = 0 := rfl
          exact outer wl hwl 64 0 (ch_pop w 64) 0 true 8 (fun _ => 0) rf (ch_pop_le w 64) (by omega) (by rw [Nat.sub_zero]; omega) h8 hR (fun j hj => absurd hj (Nat.not_lt_zero _))
        · skip
          exact absurd (by decide) h2
      | succ m ih =>
        intro i wl hi hwl
        have hbi := hbits i (by omega)
        have hoi := ch_getD_lt hO (i / 8)
        have hps := ch_pop_S w i
        refine gd_iload hX 24 dd_Mo_wrongAt_24 rfl ?_
        refine gd_bipush hX 26 dd_Mo_wrongAt_26 (v := 64) (by decide) ?_
        refine gd_icmp_ge hX 28 84 dd_Mo_wrongAt_28 (by decide) (fun h2 => ?_) (fun h2 => ?_)
        · skip
          exact absurd ((nI_leI (a := 64) (by decide) (by omega)).mp h2) (by omega)
        · skip
          refine gd_aload_n hX 31 dd_Mo_wrongAt_31 rfl ?_
          refine gd_get hX inC_Mo 0 4 32 dd_Mo_wrongAt_32 rfl rfl (by decide) kw_412 rfl ?_
          refine gd_iload hX 35 dd_Mo_wrongAt_35 rfl ?_
          refine gd_aload_n hX 37 dd_Mo_wrongAt_37 rfl ?_
          refine gd_get hX inC_Mo 0 7 38 dd_Mo_wrongAt_38 rfl rfl (by decide) kw_415 rfl ?_
          refine gd_iload hX 41 dd_Mo_wrongAt_41 rfl ?_
          refine gd_bipush hX 43 dd_Mo_wrongAt_43 (v := 8) (by decide) ?_
          refine gd_idiv hX 45 dd_Mo_wrongAt_45 (by decide) ?_
          refine gd_eqi (show ((nI i) / 8 : Int32) = nI (i / 8) from pk_div (d := 8) (by omega) (by decide) (by decide)) ?_
          refine gd_iald hX 3 (i / 8) 46 dd_Mo_wrongAt_46 rfl rfl (by omega) (by decide) ?_
          refine gd_eqi (show (ff (i / 8) : Int32) = nI (L.getD (i / 8) 0) from hI (i / 8) (by omega)) ?_
          refine gd_iload hX 47 dd_Mo_wrongAt_47 rfl ?_
          refine gd_bipush hX 49 dd_Mo_wrongAt_49 (v := 8) (by decide) ?_
          refine gd_irem hX 51 dd_Mo_wrongAt_51 (by decide) ?_
          refine gd_eqi (show ((nI i) - (nI i) / 8 * 8 : Int32) = nI (i % 8) from ch_rem8 (by omega)) ?_
          refine gd_ishr hX 52 dd_Mo_wrongAt_52 ?_
          refine gd_iconst hX 53 dd_Mo_wrongAt_53 (v := 1) (by decide) ?_
          refine gd_iand hX 54 dd_Mo_wrongAt_54 ?_
          refine gd_eqi (show (((nI (L.getD (i / 8) 0)) >>> ((nI (i % 8)) &&& 31)) &&& 1 : Int32) = (if ch_bit w i then 1 else 0) from by rw [ch_ob _ hoi _ (by omega), hbi]) ?_
          refine gd_iconst hX 55 dd_Mo_wrongAt_55 (v := 1) (by decide) ?_
          refine gd_icmp_ne hX 56 63 dd_Mo_wrongAt_56 (by decide) (fun h3 => ?_) (fun h3 => ?_)
          · skip
            have h4 : ch_bit w i = false := by cases hq : ch_bit w i with | false => rfl | true => rw [hq] at h3; exact absurd rfl h3
            refine gd_iconst hX 63 dd_Mo_wrongAt_63 (v := 0) (by decide) ?_
            refine gd_eqi (show (0 : Int32) = (if ch_bit w i then 1 else 0) from by rw [h4]; rfl) ?_
            refine gd_zast hX 1 i [gd_ob 5 h [.int er, .ref va, .ref re, .ref fu, .ref wi, .ref ma, .ref wo, .ref fd, .int mm, .int wm, .int (nI L.length), .int pl], gd_aZ K wi 64 (upd wl i (vp_nar .boolean (if ch_bit w i then 1 else 0))), gd_aJ K re 64 rf, gd_aI K fd 1000 ff] 64 dd_Mo_wrongAt_64 rfl rfl (by omega) (by decide) rfl ?_
            refine gd_aload_n hX 65 dd_Mo_wrongAt_65 rfl ?_
            refine gd_get hX inC_Mo 0 4 66 dd_Mo_wrongAt_66 rfl rfl (by decide) kw_412 rfl ?_
            refine gd_iload hX 69 dd_Mo_wrongAt_69 rfl ?_
            refine gd_zald hX 1 i 71 dd_Mo_wrongAt_71 rfl rfl (by omega) (by decide) ?_
            refine gd_eqi (show ((upd wl i (vp_nar .boolean (if ch_bit w i then 1 else 0))) i : Int32) = (if ch_bit w i then 1 else 0) from by rw [pk_us, ch_narz]) ?_
            refine gd_if_eq hX 72 78 dd_Mo_wrongAt_72 (by decide) (fun h5 => ?_) (fun h5 => ?_)
            · skip
              have h6 := (ch_ib _).mp h5
              rw [h6] at hps
              have hps : ch_pop w (i + 1) = ch_pop w i := hps
              refine gd_iinc hX 4 [(4, .int (nI (i + 1))), (0, .ref h), (1, .int (nI (ch_pop w i))), (2, .int (nI 8)), (3, .int (nI 0))] 78 dd_Mo_wrongAt_78 rfl (gd_inc i) (by decide) rfl ?_
              refine gd_goto hX 81 24 dd_Mo_wrongAt_81 (by decide) ?_
              refine gd_lvs [(0, .ref h), (1, .int (nI (ch_pop w i))), (2, .int (nI 8)), (3, .int (nI 0)), (4, .int (nI (i + 1)))] [1, 2, 3, 4, 0] rfl ?_
              rw [← hps]
              exact ih (i + 1) _ (by omega) (fun j hj => by by_cases e : j = i; { subst e; rw [pk_us, ch_narz] }; { rw [pk_un e]; exact hwl j (by omega) })
            · skip
              have h6 := (ch_ifb _).mp h5
              rw [h6, if_pos rfl] at hps
              refine gd_iinc hX 1 [(1, .int (nI ((ch_pop w i) + 1))), (0, .ref h), (2, .int (nI 8)), (3, .int (nI 0)), (4, .int (nI i))] 75 dd_Mo_wrongAt_75 rfl (gd_inc (ch_pop w i)) (by decide) rfl ?_
              refine gd_iinc hX 4 [(4, .int (nI (i + 1))), (1, .int (nI ((ch_pop w i) + 1))), (0, .ref h), (2, .int (nI 8)), (3, .int (nI 0))] 78 dd_Mo_wrongAt_78 rfl (gd_inc i) (by decide) rfl ?_
              refine gd_goto hX 81 24 dd_Mo_wrongAt_81 (by decide) ?_
              refine gd_lvs [(0, .ref h), (1, .int (nI ((ch_pop w i) + 1))), (2, .int (nI 8)), (3, .int (nI 0)), (4, .int (nI (i + 1)))] [2, 1, 3, 4, 0] rfl ?_
              rw [← hps]
              exact ih (i + 1) _ (by omega) (fun j hj => by by_cases e : j = i; { subst e; rw [pk_us, ch_narz] }; { rw [pk_un e]; exact hwl j (by omega) })
          · skip
            have h4 : ch_bit w i = true := by cases hq : ch_bit w i with | true => rfl | false => rw [hq] at h3; exact absurd h3 (by decide)
            refine gd_iconst hX 59 dd_Mo_wrongAt_59 (v := 1) (by decide) ?_
            refine gd_goto hX 60 64 dd_Mo_wrongAt_60 (by decide) ?_
            refine gd_eqi (show (1 : Int32) = (if ch_bit w i then 1 else 0) from by rw [h4]; rfl) ?_
            refine gd_zast hX 1 i [gd_ob 5 h [.int er, .ref va, .ref re, .ref fu, .ref wi, .ref ma, .ref wo, .ref fd, .int mm, .int wm, .int (nI L.length), .int pl], gd_aZ K wi 64 (upd wl i (vp_nar .boolean (if ch_bit w i then 1 else 0))), gd_aJ K re 64 rf, gd_aI K fd 1000 ff] 64 dd_Mo_wrongAt_64 rfl rfl (by omega) (by decide) rfl ?_
            refine gd_aload_n hX 65 dd_Mo_wrongAt_65 rfl ?_
            refine gd_get hX inC_Mo 0 4 66 dd_Mo_wrongAt_66 rfl rfl (by decide) kw_412 rfl ?_
            refine gd_iload hX 69 dd_Mo_wrongAt_69 rfl ?_
            refine gd_zald hX 1 i 71 dd_Mo_wrongAt_71 rfl rfl (by omega) (by decide) ?_
            refine gd_eqi (show ((upd wl i (vp_nar .boolean (if ch_bit w i then 1 else 0))) i : Int32) = (if ch_bit w i then 1 else 0) from by rw [pk_us, ch_narz]) ?_
            refine gd_if_eq hX 72 78 dd_Mo_wrongAt_72 (by decide) (fun h5 => ?_) (fun h5 => ?_)
            · skip
              have h6 := (ch_ib _).mp h5
              rw [h6] at hps
              have hps : ch_pop w (i + 1) = ch_pop w i := hps
              refine gd_iinc hX 4 [(4, .int (nI (i + 1))), (0, .ref h), (1, .int (nI (ch_pop w i))), (2, .int (nI 8)), (3, .int (nI 0))] 78 dd_Mo_wrongAt_78 rfl (gd_inc i) (by decide) rfl ?_
              refine gd_goto hX 81 24 dd_Mo_wrongAt_81 (by decide) ?_
              refine gd_lvs [(0, .ref h), (1, .int (nI (ch_pop w i))), (2, .int (nI 8)), (3, .int (nI 0)), (4, .int (nI (i + 1)))] [1, 2, 3, 4, 0] rfl ?_
              rw [← hps]
              exact ih (i + 1) _ (by omega) (fun j hj => by by_cases e : j = i; { subst e; rw [pk_us, ch_narz] }; { rw [pk_un e]; exact hwl j (by omega) })
            · skip
              have h6 := (ch_ifb _).mp h5
              rw [h6, if_pos rfl] at hps
              refine gd_iinc hX 1 [(1, .int (nI ((ch_pop w i) + 1))), (0, .ref h), (2, .int (nI 8)), (3, .int (nI 0)), (4, .int (nI i))] 75 dd_Mo_wrongAt_75 rfl (gd_inc (ch_pop w i)) (by decide) rfl ?_
              refine gd_iinc hX 4 [(4, .int (nI (i + 1))), (1, .int (nI ((ch_pop w i) + 1))), (0, .ref h), (2, .int (nI 8)), (3, .int (nI 0))] 78 dd_Mo_wrongAt_78 rfl (gd_inc i) (by decide) rfl ?_
              refine gd_goto hX 81 24 dd_Mo_wrongAt_81 (by decide) ?_
              refine gd_lvs [(0, .ref h), (1, .int (nI ((ch_pop w i) + 1))), (2, .int (nI 8)), (3, .int (nI 0)), (4, .int (nI (i + 1)))] [2, 1, 3, 4, 0] rfl ?_
              rw [← hps]
              exact ih (i + 1) _ (by omega) (fun j hj => by by_cases e : j = i; { subst e; rw [pk_us, ch_narz] }; { rw [pk_un e]; exact hwl j (by omega) })
    refine gd_iconst hX 14 dd_Mo_wrongAt_14 (v := 0) (by decide) ?_
    refine gd_eqi (show (0 : Int32) = nI (ch_pop w 0) from rfl) ?_
    refine gd_istore_n hX [(1, .int (nI (ch_pop w 0))), (0, .ref h)] 15 dd_Mo_wrongAt_15 rfl (by decide) rfl ?_
    refine gd_bipush hX 16 dd_Mo_wrongAt_16 (v := 8) (by decide) ?_
    refine gd_eqi (show (8 : Int32) = nI 8 from rfl) ?_
    refine gd_istore_n hX [(2, .int (nI 8)), (1, .int (nI (ch_pop w 0))), (0, .ref h)] 18 dd_Mo_wrongAt_18 rfl (by decide) rfl ?_
    refine gd_iconst hX 19 dd_Mo_wrongAt_19 (v := 0) (by decide) ?_
    refine gd_eqi (show (0 : Int32) = nI 0 from rfl) ?_
    refine gd_istore_n hX [(3, .int (nI 0)), (2, .int (nI 8)), (1, .int (nI (ch_pop w 0))), (0, .ref h)] 20 dd_Mo_wrongAt_20 rfl (by decide) rfl ?_
    refine gd_iconst hX 21 dd_Mo_wrongAt_21 (v := 0) (by decide) ?_
    refine gd_eqi (show (0 : Int32) = nI 0 from rfl) ?_
    refine gd_istore hX [(4, .int (nI 0)), (3, .int (nI 0)), (2, .int (nI 8)), (1, .int (nI (ch_pop w 0))), (0, .ref h)] 22 dd_Mo_wrongAt_22 (by decide) rfl ?_
    refine gd_lvs [(0, .ref h), (1, .int (nI (ch_pop w 0))), (2, .int (nI 8)), (3, .int (nI 0)), (4, .int (nI 0))] [4, 3, 2, 1, 0] rfl ?_
    exact will 64 0 wl rfl (fun j hj => absurd hj (Nat.not_lt_zero _))
  · skip
    have hlt : L.length < 8 := Nat.lt_of_not_le (fun q => h1 ((nI_leI (a := 8) (by decide) (by omega)).mpr q))
    have hr : ch_dec L = (L.length, none) := if_pos hlt
    refine gd_aload_n hX 9 dd_Mo_wrongAt_9 rfl ?_
    refine gd_get hX inC_Mo 0 10 10 dd_Mo_wrongAt_10 rfl rfl (by decide) kw_418 rfl ?_
    exact gd_iret hX hE 13 dd_Mo_wrongAt_13 ⟨by rw [ch_pl_n hr], _, _, rfl, by rw [hr]; exact fun z hz => nomatch hz⟩
