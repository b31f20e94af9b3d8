theorem ch_dec_le (L : List Nat) : (ch_dec L).1 ≤ L.length := by
  unfold ch_dec
  by_cases h8 : L.length < 8
  · rw [if_pos h8]; exact Nat.le_refl _
  · rw [if_neg h8]
    have h := ch_cells_le L (ch_rmask L 8) 64 (ch_pop (ch_rmask L 8) 64) 0 0 true 8 (fun _ => 0) (by omega)
    rcases hq : ch_cells L (ch_rmask L 8) 64 (ch_pop (ch_rmask L 8) 64) 0 0 true 8 (fun _ => 0) with ⟨a, r⟩
    rw [hq] at h
    cases r with
    | none => exact h
    | some G =>
      show (if a = L.length then (a, some (ch_rmask L 8, G)) else (a, none)).1 ≤ L.length
      split <;> exact h
theorem ch_pl_N {d : Nat × Option (Int64 × (Nat → Int64))} (h : d.2 = none) : ch_pl d = nI d.1 := by unfold ch_pl; rw [h]; rfl
theorem ch_pl_S {d : Nat × Option (Int64 × (Nat → Int64))} {z : Int64 × (Nat → Int64)} (h : d.2 = some z) : ch_pl d = -1 := by unfold ch_pl; rw [h]; rfl
set_option maxRecDepth 100000 in
set_option maxHeartbeats 4000000 in
theorem ct_Mo_decode (l : Launch) (K : gd_K) (h va re fu wi ma wo fd : Nat) (er mm wm mn pl : Int32) (vf : Nat → Int64) (uf wl : Nat → Int32) (rf : Nat → Int64) (L : List Nat) (ff : Nat → Int32) (hL : L.length ≤ 1000) (hI : ch_I ff L) (hO : ∀ x ∈ L, x < 256) : gd_M l yy_Mo_decode bb_Mo_decode 3 (some .int) [] 1 24 0 0 K [.ref h] [gd_ob 5 h [.int er, .ref va, .ref re, .ref fu, .ref wi, .ref ma, .ref wo, .ref fd, .int mm, .int wm, .int (nI L.length), .int pl], gd_aJ K va 64 vf, gd_aZ K fu 64 uf, gd_aZ K wi 64 wl, gd_aJ K re 64 rf, gd_aI K fd 1000 ff] (fun v9 w1 => (∃ z, (ch_dec L).2 = some z ∧ v9 = some (.int (nI (ch_pop z.1 64))) ∧ ∃ vf' uf' wl' rf', w1 = [gd_ob 5 h [.int 0, .ref va, .ref re, .ref fu, .ref wi, .ref ma, .ref wo, .ref fd, .int mm, .int wm, .int (nI 0), .int (-1)], gd_aJ K va 64 vf', gd_aZ K fu 64 uf', gd_aZ K wi 64 wl', gd_aJ K re 64 rf', gd_aI K fd 1000 ff] ∧ ch_M z.1 z.2 vf' uf') ∨ ((ch_dec L).2 = none ∧ v9 = some (.int 0) ∧ ∃ wl' rf', w1 = [gd_ob 5 h [.int 1, .ref va, .ref re, .ref fu, .ref wi, .ref ma, .ref wo, .ref fd, .int mm, .int wm, .int (nI 0), .int (nI (ch_dec L).1)], gd_aJ K va 64 vf, gd_aZ K fu 64 uf, gd_aZ K wi 64 wl', gd_aJ K re 64 rf', gd_aI K fd 1000 ff])) (fun _ _ => False) := by
  refine gd_body (Nat.le_of_ble_eq_true rfl) (fun X hXl hin hE hX => ?_)
  refine gd_aload_n hX 0 dd_Mo_decode_0 rfl ?_
  refine gd_aload_n hX 1 dd_Mo_decode_1 rfl ?_
  refine gd_call hX (st := [.ref h]) (wr := [gd_aJ K va 64 vf, gd_aZ K fu 64 uf]) (ct_Mo_wrongAt _ K h va re fu wi ma wo fd er mm wm mn pl wl rf L ff hL hI hO) 2 dd_Mo_decode_2 (gd_nV hX (As := []) kw_498 kw_500 kw_11 (gd_sigOf (n := 0) kw_501 (by decide)) (by decide) 0 rfl rfl rfl rfl dd_Mo_decode_2) (gd_codeOf kw_501) (by decide) [0, 3, 4, 5] [1, 2] rfl rfl rfl rfl rfl (by decide) (Nat.le_of_ble_eq_true rfl) (Nat.le_of_ble_eq_true rfl) (Nat.le_of_ble_eq_true rfl) (Nat.le_of_ble_eq_true rfl) (fun v9 w9 h9 => ?_) (fun E9 w9 q9 h9 => h9.elim)
  obtain ⟨rfl, wl1, rf1, rfl, hz⟩ := h9
  refine gd_wsp [gd_ob 5 h [.int er, .ref va, .ref re, .ref fu, .ref wi, .ref ma, .ref wo, .ref fd, .int mm, .int wm, .int (nI L.length), .int pl], gd_aJ K va 64 vf, gd_aZ K fu 64 uf, gd_aZ K wi 64 wl1, gd_aJ K re 64 rf1, gd_aI K fd 1000 ff] [2, 0, 1, 3, 4, 5] rfl rfl rfl ?_
  show gd_W X K 0 0 [gd_ob 5 h [.int er, .ref va, .ref re, .ref fu, .ref wi, .ref ma, .ref wo, .ref fd, .int mm, .int wm, .int (nI L.length), .int pl], gd_aJ K va 64 vf, gd_aZ K fu 64 uf, gd_aZ K wi 64 wl1, gd_aJ K re 64 rf1, gd_aI K fd 1000 ff] [(0, .ref h)] [.int (ch_pl (ch_dec L)), .ref h] 5
  refine gd_put hX inC_Mo ty_Mo tyk_Mo nm_Mo 0 11 [gd_ob 5 h [.int er, .ref va, .ref re, .ref fu, .ref wi, .ref ma, .ref wo, .ref fd, .int mm, .int wm, .int (nI L.length), .int (ch_pl (ch_dec L))], gd_aJ K va 64 vf, gd_aZ K fu 64 uf, gd_aZ K wi 64 wl1, gd_aJ K re 64 rf1, gd_aI K fd 1000 ff] 5 dd_Mo_decode_5 rfl rfl (by decide) kw_419 rfl rfl rfl (Nat.le_of_ble_eq_true rfl) rfl ?_
  refine gd_aload_n hX 8 dd_Mo_decode_8 rfl ?_
  refine gd_iconst hX 9 dd_Mo_decode_9 (v := 0) (by decide) ?_
  refine gd_eqi (show (0 : Int32) = nI 0 from rfl) ?_
  refine gd_put hX inC_Mo ty_Mo tyk_Mo nm_Mo 0 10 [gd_ob 5 h [.int er, .ref va, .ref re, .ref fu, .ref wi, .ref ma, .ref wo, .ref fd, .int mm, .int wm, .int (nI 0), .int (ch_pl (ch_dec L))], gd_aJ K va 64 vf, gd_aZ K fu 64 uf, gd_aZ K wi 64 wl1, gd_aJ K re 64 rf1, gd_aI K fd 1000 ff] 10 dd_Mo_decode_10 rfl rfl (by decide) kw_418 rfl rfl rfl (Nat.le_of_ble_eq_true rfl) rfl ?_
  refine gd_aload_n hX 13 dd_Mo_decode_13 rfl ?_
  refine gd_aload_n hX 14 dd_Mo_decode_14 rfl ?_
  refine gd_get hX inC_Mo 0 11 15 dd_Mo_decode_15 rfl rfl (by decide) kw_419 rfl ?_
  refine gd_if_lt hX 18 25 dd_Mo_decode_18 (by decide) (fun h1 => ?_) (fun h1 => ?_)
  · skip
    obtain ⟨z, hs⟩ : ∃ z, (ch_dec L).2 = some z := by
      cases hq : (ch_dec L).2 with
      | none => rw [ch_pl_N hq] at h1; exact absurd h1 (nI_pos (by have := ch_dec_le L; omega))
      | some z => exact ⟨z, rfl⟩
    have hpl := ch_pl_S hs
    obtain ⟨hwl, hrf⟩ := hz z hs
    rw [hpl]
    refine gd_iconst hX 25 dd_Mo_decode_25 (v := 0) (by decide) ?_
    refine gd_eqi (show (0 : Int32) = (if false then 1 else 0) from rfl) ?_
    refine gd_iconst hX 26 dd_Mo_decode_26 (v := 1) (by decide) ?_
    refine gd_call hX (st := []) (wr := [gd_aJ K va 64 vf, gd_aZ K fu 64 uf, gd_aZ K wi 64 wl1, gd_aJ K re 64 rf1, gd_aI K fd 1000 ff]) (ct_Mo_fails _ K h va re fu wi ma wo fd er mm wm (nI 0) (-1) false 1) 27 dd_Mo_decode_27 (gd_nV hX (As := [.int (if false then 1 else 0), .int 1]) kw_457 kw_459 kw_8 (gd_sigOf (n := 2) kw_460 (by decide)) (by decide) 0 rfl rfl rfl rfl dd_Mo_decode_27) (gd_codeOf kw_460) (by decide) [0] [1, 2, 3, 4, 5] rfl rfl rfl rfl rfl (by decide) (Nat.le_of_ble_eq_true rfl) (Nat.le_of_ble_eq_true rfl) (Nat.le_of_ble_eq_true rfl) (Nat.le_of_ble_eq_true rfl) (fun v9 w9 h9 => ?_) (fun E9 w9 q9 h9 => h9.elim)
    obtain ⟨rfl, rfl⟩ := h9
    refine gd_wsp [gd_ob 5 h [.int (if false then 1 else 0), .ref va, .ref re, .ref fu, .ref wi, .ref ma, .ref wo, .ref fd, .int mm, .int wm, .int (nI 0), .int (-1)], gd_aJ K va 64 vf, gd_aZ K fu 64 uf, gd_aZ K wi 64 wl1, gd_aJ K re 64 rf1, gd_aI K fd 1000 ff] [5, 0, 1, 2, 3, 4] rfl rfl rfl ?_
    show gd_W X K 0 0 [gd_ob 5 h [.int (if false then 1 else 0), .ref va, .ref re, .ref fu, .ref wi, .ref ma, .ref wo, .ref fd, .int mm, .int wm, .int (nI 0), .int (-1)], gd_aJ K va 64 vf, gd_aZ K fu 64 uf, gd_aZ K wi 64 wl1, gd_aJ K re 64 rf1, gd_aI K fd 1000 ff] [(0, .ref h)] [.int (if false then 1 else 0)] 30
    refine gd_if_eq hX 30 35 dd_Mo_decode_30 (by decide) (fun h9 => ?_) (fun h9 => ?_)
    · skip
      show gd_W X K 0 0 [gd_ob 5 h [.int 0, .ref va, .ref re, .ref fu, .ref wi, .ref ma, .ref wo, .ref fd, .int mm, .int wm, .int (nI 0), .int (-1)], gd_aJ K va 64 vf, gd_aZ K fu 64 uf, gd_aZ K wi 64 wl1, gd_aJ K re 64 rf1, gd_aI K fd 1000 ff] [(0, .ref h)] [] 35
      have loop : ∀ (m i : Nat) (vf : Nat → Int64) (uf : Nat → Int32), m + i = 64 → (∀ t, t < i → uf t = (if ch_bit z.1 t then 1 else 0) ∧ (ch_bit z.1 t = true → vf t = z.2 t)) → gd_W X K 0 0 [gd_ob 5 h [.int 0, .ref va, .ref re, .ref fu, .ref wi, .ref ma, .ref wo, .ref fd, .int mm, .int wm, .int (nI 0), .int (-1)], gd_aJ K va 64 vf, gd_aZ K fu 64 uf, gd_aZ K wi 64 wl1, gd_aJ K re 64 rf1, gd_aI K fd 1000 ff] [(0, .ref h), (1, .int (nI (ch_pop z.1 i))), (2, .int (nI i))] [] 39 := by
        intro m
        induction m with
        | zero =>
          intro i vf uf hi hm
          obtain rfl : i = 64 := by omega
          refine gd_iload_n hX 39 dd_Mo_decode_39 rfl ?_
          refine gd_bipush hX 40 dd_Mo_decode_40 (v := 64) (by decide) ?_
          refine gd_icmp_ge hX 42 87 dd_Mo_decode_42 (by decide) (fun h2 => ?_) (fun h2 => ?_)
          · skip
            refine gd_iload_n hX 87 dd_Mo_decode_87 rfl ?_
            exact gd_iret hX hE 88 dd_Mo_decode_88 (Or.inl ⟨z, hs, rfl, vf, uf, wl1, rf1, rfl, hm⟩)
          · skip
            exact absurd (by decide) h2
        | succ m ih =>
          intro i vf uf hi hm
          have hps := ch_pop_S z.1 i
          have hwi := hwl i (by omega)
          refine gd_iload_n hX 39 dd_Mo_decode_39 rfl ?_
          refine gd_bipush hX 40 dd_Mo_decode_40 (v := 64) (by decide) ?_
          refine gd_icmp_ge hX 42 87 dd_Mo_decode_42 (by decide) (fun h2 => ?_) (fun h2 => ?_)
          · skip
            exact absurd ((nI_leI (a := 64) (by decide) (by omega)).mp h2) (by omega)
          · skip
            refine gd_aload_n hX 45 dd_Mo_decode_45 rfl ?_
            refine gd_get hX inC_Mo 0 3 46 dd_Mo_decode_46 rfl rfl (by decide) kw_411 rfl ?_
            refine gd_iload_n hX 49 dd_Mo_decode_49 rfl ?_
            refine gd_aload_n hX 50 dd_Mo_decode_50 rfl ?_
            refine gd_get hX inC_Mo 0 4 51 dd_Mo_decode_51 rfl rfl (by decide) kw_412 rfl ?_
            refine gd_iload_n hX 54 dd_Mo_decode_54 rfl ?_
            refine gd_zald hX 3 i 55 dd_Mo_decode_55 rfl rfl (by omega) (by decide) ?_
            refine gd_eqi (show (wl1 i : Int32) = (if ch_bit z.1 i then 1 else 0) from hwi) ?_
            refine gd_zast hX 2 i [gd_ob 5 h [.int 0, .ref va, .ref re, .ref fu, .ref wi, .ref ma, .ref wo, .ref fd, .int mm, .int wm, .int (nI 0), .int (-1)], gd_aJ K va 64 vf, gd_aZ K fu 64 (upd uf i (vp_nar .boolean (if ch_bit z.1 i then 1 else 0))), gd_aZ K wi 64 wl1, gd_aJ K re 64 rf1, gd_aI K fd 1000 ff] 56 dd_Mo_decode_56 rfl rfl (by omega) (by decide) rfl ?_
            refine gd_aload_n hX 57 dd_Mo_decode_57 rfl ?_
            refine gd_get hX inC_Mo 0 4 58 dd_Mo_decode_58 rfl rfl (by decide) kw_412 rfl ?_
            refine gd_iload_n hX 61 dd_Mo_decode_61 rfl ?_
            refine gd_zald hX 3 i 62 dd_Mo_decode_62 rfl rfl (by omega) (by decide) ?_
            refine gd_eqi (show (wl1 i : Int32) = (if ch_bit z.1 i then 1 else 0) from hwi) ?_
            refine gd_if_eq hX 63 81 dd_Mo_decode_63 (by decide) (fun h3 => ?_) (fun h3 => ?_)
            · skip
              have h6 := (ch_ib _).mp h3
              rw [h6] at hps
              have hps : ch_pop z.1 (i + 1) = ch_pop z.1 i := hps
              refine gd_iinc hX 2 [(2, .int (nI (i + 1))), (0, .ref h), (1, .int (nI (ch_pop z.1 i)))] 81 dd_Mo_decode_81 rfl (gd_inc i) (by decide) rfl ?_
              refine gd_goto hX 84 39 dd_Mo_decode_84 (by decide) ?_
              refine gd_lvs [(0, .ref h), (1, .int (nI (ch_pop z.1 i))), (2, .int (nI (i + 1)))] [1, 2, 0] rfl ?_
              rw [← hps]
              exact ih (i + 1) _ _ (by omega) (fun j hj => by by_cases e : j = i; { subst e; rw [pk_us, ch_narz]; exact ⟨rfl, fun q => by rw [h6] at q; cases q⟩ }; { rw [pk_un e]; exact hm j (by omega) })
            · skip
              have h6 := (ch_ifb _).mp h3
              rw [h6, if_pos rfl] at hps
              refine gd_aload_n hX 66 dd_Mo_decode_66 rfl ?_
              refine gd_get hX inC_Mo 0 1 67 dd_Mo_decode_67 rfl rfl (by decide) kw_409 rfl ?_
              refine gd_iload_n hX 70 dd_Mo_decode_70 rfl ?_
              refine gd_aload_n hX 71 dd_Mo_decode_71 rfl ?_
              refine gd_get hX inC_Mo 0 2 72 dd_Mo_decode_72 rfl rfl (by decide) kw_410 rfl ?_
              refine gd_iload_n hX 75 dd_Mo_decode_75 rfl ?_
              refine gd_lald hX 4 i 76 dd_Mo_decode_76 rfl rfl (by omega) (by decide) ?_
              refine gd_eql (show (rf1 i : Int64) = z.2 i from hrf i (by omega) h6) ?_
              refine gd_last hX 1 i [gd_ob 5 h [.int 0, .ref va, .ref re, .ref fu, .ref wi, .ref ma, .ref wo, .ref fd, .int mm, .int wm, .int (nI 0), .int (-1)], gd_aJ K va 64 (vp_updL vf i (z.2 i)), gd_aZ K fu 64 (upd uf i (vp_nar .boolean (if ch_bit z.1 i then 1 else 0))), gd_aZ K wi 64 wl1, gd_aJ K re 64 rf1, gd_aI K fd 1000 ff] 77 dd_Mo_decode_77 rfl rfl (by omega) (by decide) rfl ?_
              refine gd_iinc hX 1 [(1, .int (nI ((ch_pop z.1 i) + 1))), (0, .ref h), (2, .int (nI i))] 78 dd_Mo_decode_78 rfl (gd_inc (ch_pop z.1 i)) (by decide) rfl ?_
              refine gd_iinc hX 2 [(2, .int (nI (i + 1))), (1, .int (nI ((ch_pop z.1 i) + 1))), (0, .ref h)] 81 dd_Mo_decode_81 rfl (gd_inc i) (by decide) rfl ?_
              refine gd_goto hX 84 39 dd_Mo_decode_84 (by decide) ?_
              refine gd_lvs [(0, .ref h), (1, .int (nI ((ch_pop z.1 i) + 1))), (2, .int (nI (i + 1)))] [2, 1, 0] rfl ?_
              rw [← hps]
              exact ih (i + 1) _ _ (by omega) (fun j hj => by by_cases e : j = i; { subst e; rw [pk_us, ch_narz, pk_uLs]; exact ⟨rfl, fun _ => rfl⟩ }; { rw [pk_un e, pk_uLn e]; exact hm j (by omega) })
      refine gd_iconst hX 35 dd_Mo_decode_35 (v := 0) (by decide) ?_
      refine gd_eqi (show (0 : Int32) = nI (ch_pop z.1 0) from rfl) ?_
      refine gd_istore_n hX [(1, .int (nI (ch_pop z.1 0))), (0, .ref h)] 36 dd_Mo_decode_36 rfl (by decide) rfl ?_
      refine gd_iconst hX 37 dd_Mo_decode_37 (v := 0) (by decide) ?_
      refine gd_eqi (show (0 : Int32) = nI 0 from rfl) ?_
      refine gd_istore_n hX [(2, .int (nI 0)), (1, .int (nI (ch_pop z.1 0))), (0, .ref h)] 38 dd_Mo_decode_38 rfl (by decide) rfl ?_
      refine gd_lvs [(0, .ref h), (1, .int (nI (ch_pop z.1 0))), (2, .int (nI 0))] [2, 1, 0] rfl ?_
      exact loop 64 0 vf uf rfl (fun t ht => absurd ht (Nat.not_lt_zero _))
    · skip
      exact absurd rfl h9
  · skip
    have hs : (ch_dec L).2 = none := by
      cases hq : (ch_dec L).2 with
      | none => rfl
      | some z => rw [ch_pl_S hq] at h1; exact absurd (by decide) h1
    have hpl := ch_pl_N hs
    rw [hpl]
    refine gd_iconst hX 21 dd_Mo_decode_21 (v := 1) (by decide) ?_
    refine gd_goto hX 22 26 dd_Mo_decode_22 (by decide) ?_
    refine gd_eqi (show (1 : Int32) = (if true then 1 else 0) from rfl) ?_
    refine gd_iconst hX 26 dd_Mo_decode_26 (v := 1) (by decide) ?_
    refine gd_call hX (st := []) (wr := [gd_aJ K va 64 vf, gd_aZ K fu 64 uf, gd_aZ K wi 64 wl1, gd_aJ K re 64 rf1, gd_aI K fd 1000 ff]) (ct_Mo_fails _ K h va re fu wi ma wo fd er mm wm (nI 0) (nI (ch_dec L).1) true 1) 27 dd_Mo_decode_27 (gd_nV hX (As := [.int (if true then 1 else 0), .int 1]) kw_457 kw_459 kw_8 (gd_sigOf (n := 2) kw_460 (by decide)) (by decide) 0 rfl rfl rfl rfl dd_Mo_decode_27) (gd_codeOf kw_460) (by decide) [0] [1, 2, 3, 4, 5] rfl rfl rfl rfl rfl (by decide) (Nat.le_of_ble_eq_true rfl) (Nat.le_of_ble_eq_true rfl) (Nat.le_of_ble_eq_true rfl) (Nat.le_of_ble_eq_true rfl) (fun v9 w9 h9 => ?_) (fun E9 w9 q9 h9 => h9.elim)
    obtain ⟨rfl, rfl⟩ := h9
    refine gd_wsp [gd_ob 5 h [.int (if true then 1 else 0), .ref va, .ref re, .ref fu, .ref wi, .ref ma, .ref wo, .ref fd, .int mm, .int wm, .int (nI 0), .int (nI (ch_dec L).1)], gd_aJ K va 64 vf, gd_aZ K fu 64 uf, gd_aZ K wi 64 wl1, gd_aJ K re 64 rf1, gd_aI K fd 1000 ff] [5, 0, 1, 2, 3, 4] rfl rfl rfl ?_
    show gd_W X K 0 0 [gd_ob 5 h [.int (if true then 1 else 0), .ref va, .ref re, .ref fu, .ref wi, .ref ma, .ref wo, .ref fd, .int mm, .int wm, .int (nI 0), .int (nI (ch_dec L).1)], gd_aJ K va 64 vf, gd_aZ K fu 64 uf, gd_aZ K wi 64 wl1, gd_aJ K re 64 rf1, gd_aI K fd 1000 ff] [(0, .ref h)] [.int (if true then 1 else 0)] 30
    refine gd_if_eq hX 30 35 dd_Mo_decode_30 (by decide) (fun h9 => ?_) (fun h9 => ?_)
    · skip
      exact absurd (show (1 : Int32) = 0 from h9) (by decide)
    · skip
      show gd_W X K 0 0 [gd_ob 5 h [.int 1, .ref va, .ref re, .ref fu, .ref wi, .ref ma, .ref wo, .ref fd, .int mm, .int wm, .int (nI 0), .int (nI (ch_dec L).1)], gd_aJ K va 64 vf, gd_aZ K fu 64 uf, gd_aZ K wi 64 wl1, gd_aJ K re 64 rf1, gd_aI K fd 1000 ff] [(0, .ref h)] [] 33
      refine gd_iconst hX 33 dd_Mo_decode_33 (v := 0) (by decide) ?_
      exact gd_iret hX hE 34 dd_Mo_decode_34 (Or.inr ⟨hs, rfl, _, _, rfl⟩)
