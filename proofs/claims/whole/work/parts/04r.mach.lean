-- X8_whose X8_layGains X8_rests X8_stumbles
abbrev rm_X8_whose : Room := { frames := 2, cells := 0, slots := 0, locals := 48 }
set_option maxHeartbeats 4000000 in
set_option maxRecDepth 100000 in
theorem c_X8_whose (l : Launch) (dC : Nat → ClassId) (dI : Nat → Nat → Nat) (cI cZ : ClassId) (q_t q_t_text q_t_beat q_t_kind q_t_readSnow q_t_readWalker q_t_page q_t_trial q_t_book q_t_kept q_t_isKept q_t_markStep q_t_markTread q_t_order q_t_gains q_t_value : Nat) (sz : Nat) (t_thrown : Int32) (t_textSize : Int32) (t_place : Int32) (t_depth : Int32) (t_noon : Int32) (t_later : Int32) (t_walkers : Int32) (t_readWalkers : Int32) (t_acts : Int32) (t_marks : Int32) (t_seed : Int64) (t_stumbled : Int32) (t_lineMany : Int32) (t_lineOrder : Int32) (t_whoseMany : Int32) (t_whoseFirst : Int32) (t_restMany : Int32) (t_restFirst : Int32) (t_markStep : Nat → Int32) (t_markTread : Nat → Int32) (x1 : Int32) (r_ : Int32) (o_t_thrown : Int32) (o_t_whoseMany : Int32) (o_t_whoseFirst : Int32) (hf : f_X8_whose x1 t_thrown t_marks t_whoseMany t_whoseFirst t_markStep t_markTread = some (r_, o_t_thrown, o_t_whoseMany, o_t_whoseFirst)) : Met l yX8_whose wsX8_whose rm_X8_whose (va_Pc [.ref q_t, .int x1] (PU (dC, dI) cI cZ [(q_t, .inr (8, [.int t_thrown, .ref q_t_text, .int t_textSize, .int t_place, .int t_depth, .int t_noon, .int t_later, .int t_walkers, .ref q_t_beat, .ref q_t_kind, .ref q_t_readSnow, .int t_readWalkers, .ref q_t_readWalker, .ref q_t_page, .ref q_t_trial, .ref q_t_book, .int t_acts, .ref q_t_kept, .ref q_t_isKept, .int t_marks, .ref q_t_markStep, .ref q_t_markTread, .long t_seed, .int t_stumbled, .ref q_t_order, .int t_lineMany, .int t_lineOrder, .int t_whoseMany, .int t_whoseFirst, .int t_restMany, .int t_restFirst, .ref q_t_gains, .ref q_t_value])), (q_t_markStep, .inl (cI, 6, .inl t_markStep)), (q_t_markTread, .inl (cI, 6, .inl t_markTread))] sz)) (va_Qi (fun (r : Int32) (_ : Unit) => r = r_) (fun _ t => va_P (dC, dI) vwCl [(q_t, .inr (8, [.int o_t_thrown, .ref q_t_text, .int t_textSize, .int t_place, .int t_depth, .int t_noon, .int t_later, .int t_walkers, .ref q_t_beat, .ref q_t_kind, .ref q_t_readSnow, .int t_readWalkers, .ref q_t_readWalker, .ref q_t_page, .ref q_t_trial, .ref q_t_book, .int t_acts, .ref q_t_kept, .ref q_t_isKept, .int t_marks, .ref q_t_markStep, .ref q_t_markTread, .long t_seed, .int t_stumbled, .ref q_t_order, .int t_lineMany, .int t_lineOrder, .int o_t_whoseMany, .int o_t_whoseFirst, .int t_restMany, .int t_restFirst, .ref q_t_gains, .ref q_t_value])), (q_t_markStep, .inl (cI, 6, .inl t_markStep)), (q_t_markTread, .inl (cI, 6, .inl t_markTread))] t.heap) (va_A [(q_t, .inr (8, [.int t_thrown, .ref q_t_text, .int t_textSize, .int t_place, .int t_depth, .int t_noon, .int t_later, .int t_walkers, .ref q_t_beat, .ref q_t_kind, .ref q_t_readSnow, .int t_readWalkers, .ref q_t_readWalker, .ref q_t_page, .ref q_t_trial, .ref q_t_book, .int t_acts, .ref q_t_kept, .ref q_t_isKept, .int t_marks, .ref q_t_markStep, .ref q_t_markTread, .long t_seed, .int t_stumbled, .ref q_t_order, .int t_lineMany, .int t_lineOrder, .int t_whoseMany, .int t_whoseFirst, .int t_restMany, .int t_restFirst, .ref q_t_gains, .ref q_t_value])), (q_t_markStep, .inl (cI, 6, .inl t_markStep)), (q_t_markTread, .inl (cI, 6, .inl t_markTread))] sz)) 0 0 (va_A [(q_t, .inr (8, [.int t_thrown, .ref q_t_text, .int t_textSize, .int t_place, .int t_depth, .int t_noon, .int t_later, .int t_walkers, .ref q_t_beat, .ref q_t_kind, .ref q_t_readSnow, .int t_readWalkers, .ref q_t_readWalker, .ref q_t_page, .ref q_t_trial, .ref q_t_book, .int t_acts, .ref q_t_kept, .ref q_t_isKept, .int t_marks, .ref q_t_markStep, .ref q_t_markTread, .long t_seed, .int t_stumbled, .ref q_t_order, .int t_lineMany, .int t_lineOrder, .int t_whoseMany, .int t_whoseFirst, .int t_restMany, .int t_restFirst, .ref q_t_gains, .ref q_t_value])), (q_t_markStep, .inl (cI, 6, .inl t_markStep)), (q_t_markTread, .inl (cI, 6, .inl t_markTread))] sz) := by
  refine MetI (cc := cX8_whose) (maxL := 2) (by decide) rfl (Nat.le_of_ble_eq_true rfl) (fun _ h => h) ?_
  intro p e s m args below meth c A Q ls hx CF hK hA hD hP hS hl hB hAe hsz hret
  have hb := CF.2.1
  have hml := CF.2.2.1
  have hown := CF.2.2.2.1
  have hts := CF.2.2.2.2
  have hD0 := hD
  replace hl : lv_has ls 2 [(0, .ref q_t), (1, .int x1)] := hl
  have hinX8 : ∀ w ∈ wsX80, w ∈ wsX8_whose := fun _ h => List.mem_cons_of_mem _ (List.mem_append_right _ h)
  have w_0 := hts (.fieldLink RX8 63 "PassInStepModel" "thrown" "I") (by decide +kernel)
  have w_1 := hts (.fieldLink RX8 224 "PassInStepModel" "whoseFirst" "I") (by decide +kernel)
  have w_2 := hts (.fieldLink RX8 221 "PassInStepModel" "whoseMany" "I") (by decide +kernel)
  rw [f_X8_whose] at hf
  refine lv_aload_n hx hb dX8_whose_0 rfl (lv_at hl 0 rfl) ?_
  refine lv_iconst (v := 0) hx hb dX8_whose_1 (by decide) ?_
  refine va_put (D := (dC, dI)) (ci := 8) (v := .int 0) (ty := .int) (C := RX8) (T := TX8) (N := 33) hx hb hts hinX8 tyX8 tyX8_ok nmX8 hown hK.1 hP hD hS 0 rfl rfl 0 (by decide) w_0 (fun _ h9 => h9) rfl (by decide +kernel) rfl rfl (Nat.le_of_ble_eq_true rfl) dX8_whose_2 (fun H locs hP hD hS => ?_)
  replace hP : va_P (dC, dI) vwCl [(q_t, .inr (8, [.int 0, .ref q_t_text, .int t_textSize, .int t_place, .int t_depth, .int t_noon, .int t_later, .int t_walkers, .ref q_t_beat, .ref q_t_kind, .ref q_t_readSnow, .int t_readWalkers, .ref q_t_readWalker, .ref q_t_page, .ref q_t_trial, .ref q_t_book, .int t_acts, .ref q_t_kept, .ref q_t_isKept, .int t_marks, .ref q_t_markStep, .ref q_t_markTread, .long t_seed, .int t_stumbled, .ref q_t_order, .int t_lineMany, .int t_lineOrder, .int t_whoseMany, .int t_whoseFirst, .int t_restMany, .int t_restFirst, .ref q_t_gains, .ref q_t_value])), (q_t_markStep, .inl (cI, 6, .inl t_markStep)), (q_t_markTread, .inl (cI, 6, .inl t_markTread))] H := hP
  replace hD : va_D A [(q_t, .inr (8, [.int 0, .ref q_t_text, .int t_textSize, .int t_place, .int t_depth, .int t_noon, .int t_later, .int t_walkers, .ref q_t_beat, .ref q_t_kind, .ref q_t_readSnow, .int t_readWalkers, .ref q_t_readWalker, .ref q_t_page, .ref q_t_trial, .ref q_t_book, .int t_acts, .ref q_t_kept, .ref q_t_isKept, .int t_marks, .ref q_t_markStep, .ref q_t_markTread, .long t_seed, .int t_stumbled, .ref q_t_order, .int t_lineMany, .int t_lineOrder, .int t_whoseMany, .int t_whoseFirst, .int t_restMany, .int t_restFirst, .ref q_t_gains, .ref q_t_value])), (q_t_markStep, .inl (cI, 6, .inl t_markStep)), (q_t_markTread, .inl (cI, 6, .inl t_markTread))] := hD
  refine lv_iload_n hx hb dX8_whose_5 rfl (lv_at hl 1 rfl) ?_
  refine lv_i2l hx hb dX8_whose_6 rfl ?_
  refine lv_lconst (v := 0) hx hb dX8_whose_7 (by decide) ?_
  refine lv_lconst (v := 1) hx hb dX8_whose_8 (by decide) ?_
  obtain ⟨r1, e3, hf⟩ := bd_ok hf
  refine kSi (As := [.long ((x1).toInt64), .long (0 : Int64), .long (1 : Int64)]) CF (va_cwS 3 hts gX8_whose_X8_in rfl rfl rfl (by decide +kernel) ⟨Nat.le_of_ble_eq_true rfl, Nat.le_of_ble_eq_true rfl⟩) PU_blind hP hD hS hA [] (fun h1 h2 h3 => PU_pre hK h1 A h2 h3) (c_X8_in l dC dI cI cZ _ ((x1).toInt64) (0 : Int64) (1 : Int64) r1 e3) rfl rfl rfl rfl hl.1 rfl (Nat.le_of_ble_eq_true rfl) dX8_whose_9 ⟨Nat.zero_le _, Nat.zero_le _⟩ (fun H locs hP hS => ?_)
  replace hP : va_P (dC, dI) vwCl [(q_t, .inr (8, [.int 0, .ref q_t_text, .int t_textSize, .int t_place, .int t_depth, .int t_noon, .int t_later, .int t_walkers, .ref q_t_beat, .ref q_t_kind, .ref q_t_readSnow, .int t_readWalkers, .ref q_t_readWalker, .ref q_t_page, .ref q_t_trial, .ref q_t_book, .int t_acts, .ref q_t_kept, .ref q_t_isKept, .int t_marks, .ref q_t_markStep, .ref q_t_markTread, .long t_seed, .int t_stumbled, .ref q_t_order, .int t_lineMany, .int t_lineOrder, .int t_whoseMany, .int t_whoseFirst, .int t_restMany, .int t_restFirst, .ref q_t_gains, .ref q_t_value])), (q_t_markStep, .inl (cI, 6, .inl t_markStep)), (q_t_markTread, .inl (cI, 6, .inl t_markTread))] H := hP
  refine lv_if_ne (tgt := 18) hx hb dX8_whose_12 (by decide) (fun hc => ?_) (fun hc => ?_)
  · replace hf := iq hc hf
    refine lv_aload_n hx hb dX8_whose_18 rfl (lv_at hl 0 rfl) ?_
    obtain ⟨⟨o4, o5⟩, e7, hf⟩ := bd_ok hf
    refine kVv (As := []) CF (cwV 0 hts gX8_whose_X8_findWhose rfl rfl rfl (by decide +kernel) ⟨Nat.le_of_ble_eq_true rfl, Nat.le_of_ble_eq_true rfl⟩) PU_blind hP hD hS hA (va_recv hK.1 hP (ci := 8) (q0 := 0) rfl rfl) [0, 1, 2] (fun h1 h2 h3 => PU_pre hK h1 A h2 h3) (c_X8_findWhose l dC dI cI cZ q_t q_t_text q_t_beat q_t_kind q_t_readSnow q_t_readWalker q_t_page q_t_trial q_t_book q_t_kept q_t_isKept q_t_markStep q_t_markTread q_t_order q_t_gains q_t_value _ 0 t_textSize t_place t_depth t_noon t_later t_walkers t_readWalkers t_acts t_marks t_seed t_stumbled t_lineMany t_lineOrder t_whoseMany t_whoseFirst t_restMany t_restFirst t_markStep t_markTread o4 o5 e7) rfl rfl rfl rfl hl.1 rfl (Nat.le_of_ble_eq_true rfl) dX8_whose_19 ⟨Nat.zero_le _, Nat.zero_le _⟩ (fun H locs hP hS => ?_)
    replace hP : va_P (dC, dI) vwCl [(q_t, .inr (8, [.int 0, .ref q_t_text, .int t_textSize, .int t_place, .int t_depth, .int t_noon, .int t_later, .int t_walkers, .ref q_t_beat, .ref q_t_kind, .ref q_t_readSnow, .int t_readWalkers, .ref q_t_readWalker, .ref q_t_page, .ref q_t_trial, .ref q_t_book, .int t_acts, .ref q_t_kept, .ref q_t_isKept, .int t_marks, .ref q_t_markStep, .ref q_t_markTread, .long t_seed, .int t_stumbled, .ref q_t_order, .int t_lineMany, .int t_lineOrder, .int o4, .int o5, .int t_restMany, .int t_restFirst, .ref q_t_gains, .ref q_t_value])), (q_t_markStep, .inl (cI, 6, .inl t_markStep)), (q_t_markTread, .inl (cI, 6, .inl t_markTread))] H := hP
    replace hD : va_D A [(q_t, .inr (8, [.int 0, .ref q_t_text, .int t_textSize, .int t_place, .int t_depth, .int t_noon, .int t_later, .int t_walkers, .ref q_t_beat, .ref q_t_kind, .ref q_t_readSnow, .int t_readWalkers, .ref q_t_readWalker, .ref q_t_page, .ref q_t_trial, .ref q_t_book, .int t_acts, .ref q_t_kept, .ref q_t_isKept, .int t_marks, .ref q_t_markStep, .ref q_t_markTread, .long t_seed, .int t_stumbled, .ref q_t_order, .int t_lineMany, .int t_lineOrder, .int o4, .int o5, .int t_restMany, .int t_restFirst, .ref q_t_gains, .ref q_t_value])), (q_t_markStep, .inl (cI, 6, .inl t_markStep)), (q_t_markTread, .inl (cI, 6, .inl t_markTread))] := wd hD rfl
    refine lv_iload_n hx hb dX8_whose_22 rfl (lv_at hl 1 rfl) ?_
    refine lv_if_ne (tgt := 33) hx hb dX8_whose_23 (by decide) (fun hc => ?_) (fun hc => ?_)
    · replace hf := iq hc hf
      refine lv_aload_n hx hb dX8_whose_33 rfl (lv_at hl 0 rfl) ?_
      refine va_get (D := (dC, dI)) (ci := 8) (v := .int o5) (C := RX8) (T := TX8) (N := 33) hx hb hts hinX8 hown hK.1 hP 0 rfl rfl 28 (by decide) w_1 (fun _ h9 => h9) rfl dX8_whose_34 ?_
      obtain ⟨e0, hf⟩ := ij2 hf
      obtain ⟨e1, hf⟩ := ijc hf
      obtain ⟨e2, hf⟩ := ijc hf
      have e3 := hf
      refine W.eq (congrArg (fun z => F0 m 37 ls [.int z]) e0) ?_
      exact hret _ _ _ _ (by rw [← e1, ← e2, ← e3]; exact hP) hS dX8_whose_37
    · replace hf := ip hc hf
      refine lv_aload_n hx hb dX8_whose_26 rfl (lv_at hl 0 rfl) ?_
      refine va_get (D := (dC, dI)) (ci := 8) (v := .int o4) (C := RX8) (T := TX8) (N := 33) hx hb hts hinX8 hown hK.1 hP 0 rfl rfl 27 (by decide) w_2 (fun _ h9 => h9) rfl dX8_whose_27 ?_
      refine lv_goto (tgt := 37) hx hb dX8_whose_30 (by decide) ?_
      obtain ⟨e0, hf⟩ := ij2 hf
      obtain ⟨e1, hf⟩ := ijc hf
      obtain ⟨e2, hf⟩ := ijc hf
      have e3 := hf
      refine W.eq (congrArg (fun z => F0 m 37 ls [.int z]) e0) ?_
      exact hret _ _ _ _ (by rw [← e1, ← e2, ← e3]; exact hP) hS dX8_whose_37
  · replace hf := ip hc hf
    refine lv_bipush (v := (-2)) hx hb dX8_whose_15 (by decide) ?_
    obtain ⟨e0, hf⟩ := ij2 hf
    obtain ⟨e1, hf⟩ := ijc hf
    obtain ⟨e2, hf⟩ := ijc hf
    have e3 := hf
    refine W.eq (congrArg (fun z => F0 m 17 ls [.int z]) e0) ?_
    exact hret _ _ _ _ (by rw [← e1, ← e2, ← e3]; exact hP) hS dX8_whose_17
abbrev rm_X8_layGains : Room := { frames := 4, cells := 0, slots := 0, locals := 96 }
set_option maxHeartbeats 4000000 in
set_option maxRecDepth 100000 in
theorem c_X8_layGains (l : Launch) (dC : Nat → ClassId) (dI : Nat → Nat → Nat) (cI cZ : ClassId) (q_t q_t_text q_t_beat q_t_kind q_t_readSnow q_t_readWalker q_t_page q_t_trial q_t_book q_t_kept q_t_isKept q_t_markStep q_t_markTread q_t_order q_t_gains q_t_value : Nat) (sz : Nat) (t_thrown : Int32) (t_textSize : Int32) (t_place : Int32) (t_depth : Int32) (t_noon : Int32) (t_later : Int32) (t_walkers : Int32) (t_readWalkers : Int32) (t_acts : Int32) (t_marks : Int32) (t_seed : Int64) (t_stumbled : Int32) (t_lineMany : Int32) (t_lineOrder : Int32) (t_whoseMany : Int32) (t_whoseFirst : Int32) (t_restMany : Int32) (t_restFirst : Int32) (t_page : Nat → Int32) (t_trial : Nat → Int32) (t_gains : Nat → Int32) (t_kind : Nat → Int32) (t_beat : Nat → Int32) (x1 : Int32) (x2 : Int32) (x3 : Int32) (o_t_stumbled : Int32) (o_t_trial : Nat → Int32) (o_t_gains : Nat → Int32) (hf : f_X8_layGains x1 x2 x3 t_depth t_noon t_later t_walkers t_stumbled t_page t_trial t_gains t_kind t_beat = some (o_t_stumbled, o_t_trial, o_t_gains)) : Met l yX8_layGains wsX8_layGains rm_X8_layGains (va_Pc [.ref q_t, .int x1, .int x2, .int x3] (PU (dC, dI) cI cZ [(q_t, .inr (8, [.int t_thrown, .ref q_t_text, .int t_textSize, .int t_place, .int t_depth, .int t_noon, .int t_later, .int t_walkers, .ref q_t_beat, .ref q_t_kind, .ref q_t_readSnow, .int t_readWalkers, .ref q_t_readWalker, .ref q_t_page, .ref q_t_trial, .ref q_t_book, .int t_acts, .ref q_t_kept, .ref q_t_isKept, .int t_marks, .ref q_t_markStep, .ref q_t_markTread, .long t_seed, .int t_stumbled, .ref q_t_order, .int t_lineMany, .int t_lineOrder, .int t_whoseMany, .int t_whoseFirst, .int t_restMany, .int t_restFirst, .ref q_t_gains, .ref q_t_value])), (q_t_page, .inl (cI, 17, .inl t_page)), (q_t_trial, .inl (cI, 17, .inl t_trial)), (q_t_gains, .inl (cI, 8, .inl t_gains)), (q_t_kind, .inl (cI, 5, .inl t_kind)), (q_t_beat, .inl (cI, 5, .inl t_beat))] sz)) (va_Qv (fun (_ : Unit) => True) (fun _ t => va_P (dC, dI) vwCl [(q_t, .inr (8, [.int t_thrown, .ref q_t_text, .int t_textSize, .int t_place, .int t_depth, .int t_noon, .int t_later, .int t_walkers, .ref q_t_beat, .ref q_t_kind, .ref q_t_readSnow, .int t_readWalkers, .ref q_t_readWalker, .ref q_t_page, .ref q_t_trial, .ref q_t_book, .int t_acts, .ref q_t_kept, .ref q_t_isKept, .int t_marks, .ref q_t_markStep, .ref q_t_markTread, .long t_seed, .int o_t_stumbled, .ref q_t_order, .int t_lineMany, .int t_lineOrder, .int t_whoseMany, .int t_whoseFirst, .int t_restMany, .int t_restFirst, .ref q_t_gains, .ref q_t_value])), (q_t_page, .inl (cI, 17, .inl t_page)), (q_t_trial, .inl (cI, 17, .inl o_t_trial)), (q_t_gains, .inl (cI, 8, .inl o_t_gains)), (q_t_kind, .inl (cI, 5, .inl t_kind)), (q_t_beat, .inl (cI, 5, .inl t_beat))] t.heap) (va_A [(q_t, .inr (8, [.int t_thrown, .ref q_t_text, .int t_textSize, .int t_place, .int t_depth, .int t_noon, .int t_later, .int t_walkers, .ref q_t_beat, .ref q_t_kind, .ref q_t_readSnow, .int t_readWalkers, .ref q_t_readWalker, .ref q_t_page, .ref q_t_trial, .ref q_t_book, .int t_acts, .ref q_t_kept, .ref q_t_isKept, .int t_marks, .ref q_t_markStep, .ref q_t_markTread, .long t_seed, .int t_stumbled, .ref q_t_order, .int t_lineMany, .int t_lineOrder, .int t_whoseMany, .int t_whoseFirst, .int t_restMany, .int t_restFirst, .ref q_t_gains, .ref q_t_value])), (q_t_page, .inl (cI, 17, .inl t_page)), (q_t_trial, .inl (cI, 17, .inl t_trial)), (q_t_gains, .inl (cI, 8, .inl t_gains)), (q_t_kind, .inl (cI, 5, .inl t_kind)), (q_t_beat, .inl (cI, 5, .inl t_beat))] sz)) 0 0 (va_A [(q_t, .inr (8, [.int t_thrown, .ref q_t_text, .int t_textSize, .int t_place, .int t_depth, .int t_noon, .int t_later, .int t_walkers, .ref q_t_beat, .ref q_t_kind, .ref q_t_readSnow, .int t_readWalkers, .ref q_t_readWalker, .ref q_t_page, .ref q_t_trial, .ref q_t_book, .int t_acts, .ref q_t_kept, .ref q_t_isKept, .int t_marks, .ref q_t_markStep, .ref q_t_markTread, .long t_seed, .int t_stumbled, .ref q_t_order, .int t_lineMany, .int t_lineOrder, .int t_whoseMany, .int t_whoseFirst, .int t_restMany, .int t_restFirst, .ref q_t_gains, .ref q_t_value])), (q_t_page, .inl (cI, 17, .inl t_page)), (q_t_trial, .inl (cI, 17, .inl t_trial)), (q_t_gains, .inl (cI, 8, .inl t_gains)), (q_t_kind, .inl (cI, 5, .inl t_kind)), (q_t_beat, .inl (cI, 5, .inl t_beat))] sz) := by
  refine MetV (cc := cX8_layGains) (maxL := 5) (by decide) rfl (Nat.le_of_ble_eq_true rfl) (fun _ h => h) ?_
  intro p e s m args below meth c A Q ls hx CF hK hA hD hP hS hl hB hAe hsz hret
  have hb := CF.2.1
  have hml := CF.2.2.1
  have hown := CF.2.2.2.1
  have hts := CF.2.2.2.2
  have hD0 := hD
  replace hl : lv_has ls 5 [(0, .ref q_t), (1, .int x1), (2, .int x2), (3, .int x3)] := hl
  have hinX8 : ∀ w ∈ wsX80, w ∈ wsX8_layGains := fun _ h => List.mem_cons_of_mem _ (List.mem_append_right _ h)
  have w_0 := hts (.fieldLink RX8 57 "PassInStepModel" "gains" "[I") (by decide +kernel)
  have w_1 := hts (.fieldLink RX8 35 "PassInStepModel" "trial" "[I") (by decide +kernel)
  have h_103 : ∀ (x1 : Int32) (x2 : Int32) (x3 : Int32) (t_stumbled : Int32) (fu103 : Nat) (x4 : Int32) (t_trial : Nat → Int32) (t_gains : Nat → Int32) (H : Heap) (locs : List Loc) (ls : Array Slot), va_P (dC, dI) vwCl [(q_t, .inr (8, [.int t_thrown, .ref q_t_text, .int t_textSize, .int t_place, .int t_depth, .int t_noon, .int t_later, .int t_walkers, .ref q_t_beat, .ref q_t_kind, .ref q_t_readSnow, .int t_readWalkers, .ref q_t_readWalker, .ref q_t_page, .ref q_t_trial, .ref q_t_book, .int t_acts, .ref q_t_kept, .ref q_t_isKept, .int t_marks, .ref q_t_markStep, .ref q_t_markTread, .long t_seed, .int t_stumbled, .ref q_t_order, .int t_lineMany, .int t_lineOrder, .int t_whoseMany, .int t_whoseFirst, .int t_restMany, .int t_restFirst, .ref q_t_gains, .ref q_t_value])), (q_t_page, .inl (cI, 17, .inl t_page)), (q_t_trial, .inl (cI, 17, .inl t_trial)), (q_t_gains, .inl (cI, 8, .inl t_gains)), (q_t_kind, .inl (cI, 5, .inl t_kind)), (q_t_beat, .inl (cI, 5, .inl t_beat))] H → va_S A s.heap H locs → lv_has ls 5 [(0, .ref q_t), (1, .int x1), (2, .int x2), (3, .int x3), (4, .int x4)] → L_X8_layGains_103 x1 x2 x3 t_depth t_noon t_later t_walkers t_stumbled t_kind t_beat fu103 x4 t_trial t_gains = some (o_t_stumbled, o_t_trial, o_t_gains) → W p l e rm_X8_layGains s m args below meth c H locs 0 0 Q (F0 m 103 ls []) := by
    intro x1 x2 x3 t_stumbled fu103
    induction fu103 with
    | zero =>
      intro x4 t_trial t_gains H locs ls hP hS hl hf
      rw [L_X8_layGains_103] at hf
      cases hf
    | succ fu103 ih103 =>
      have h_179 : ∀ (x4 : Int32) (s0 : Int32) (s1 : Int32) (s2 : Int32) (t_trial : Nat → Int32) (t_gains : Nat → Int32) (H : Heap) (locs : List Loc) (ls : Array Slot), va_P (dC, dI) vwCl [(q_t, .inr (8, [.int t_thrown, .ref q_t_text, .int t_textSize, .int t_place, .int t_depth, .int t_noon, .int t_later, .int t_walkers, .ref q_t_beat, .ref q_t_kind, .ref q_t_readSnow, .int t_readWalkers, .ref q_t_readWalker, .ref q_t_page, .ref q_t_trial, .ref q_t_book, .int t_acts, .ref q_t_kept, .ref q_t_isKept, .int t_marks, .ref q_t_markStep, .ref q_t_markTread, .long t_seed, .int t_stumbled, .ref q_t_order, .int t_lineMany, .int t_lineOrder, .int t_whoseMany, .int t_whoseFirst, .int t_restMany, .int t_restFirst, .ref q_t_gains, .ref q_t_value])), (q_t_page, .inl (cI, 17, .inl t_page)), (q_t_trial, .inl (cI, 17, .inl t_trial)), (q_t_gains, .inl (cI, 8, .inl t_gains)), (q_t_kind, .inl (cI, 5, .inl t_kind)), (q_t_beat, .inl (cI, 5, .inl t_beat))] H → va_S A s.heap H locs → lv_has ls 5 [(0, .ref q_t), (1, .int x1), (2, .int x2), (3, .int x3), (4, .int x4)] → J_X8_layGains_179 (L_X8_layGains_103 x1 x2 x3 t_depth t_noon t_later t_walkers t_stumbled t_kind t_beat fu103) x4 s0 s1 s2 t_trial t_gains = some (o_t_stumbled, o_t_trial, o_t_gains) → W p l e rm_X8_layGains s m args below meth c H locs 0 0 Q (F0 m 179 ls [.int s0, .int s1, .int s2, .ref q_t_gains]) := by
        intro x4 s0 s1 s2 t_trial t_gains H locs ls hP hS hl hf
        have hD : va_D A [(q_t, .inr (8, [.int t_thrown, .ref q_t_text, .int t_textSize, .int t_place, .int t_depth, .int t_noon, .int t_later, .int t_walkers, .ref q_t_beat, .ref q_t_kind, .ref q_t_readSnow, .int t_readWalkers, .ref q_t_readWalker, .ref q_t_page, .ref q_t_trial, .ref q_t_book, .int t_acts, .ref q_t_kept, .ref q_t_isKept, .int t_marks, .ref q_t_markStep, .ref q_t_markTread, .long t_seed, .int t_stumbled, .ref q_t_order, .int t_lineMany, .int t_lineOrder, .int t_whoseMany, .int t_whoseFirst, .int t_restMany, .int t_restFirst, .ref q_t_gains, .ref q_t_value])), (q_t_page, .inl (cI, 17, .inl t_page)), (q_t_trial, .inl (cI, 17, .inl t_trial)), (q_t_gains, .inl (cI, 8, .inl t_gains)), (q_t_kind, .inl (cI, 5, .inl t_kind)), (q_t_beat, .inl (cI, 5, .inl t_beat))] := wd hD0 rfl
        rw [J_X8_layGains_179] at hf
        refine lv_iadd hx hb dX8_layGains_179 ?_
        refine kast hx hb hK.1 hP hD hS 3 0 rfl rfl dX8_layGains_180 hf (fun w1 H locs hP hD hS hf => ?_)
        replace hP : va_P (dC, dI) vwCl [(q_t, .inr (8, [.int t_thrown, .ref q_t_text, .int t_textSize, .int t_place, .int t_depth, .int t_noon, .int t_later, .int t_walkers, .ref q_t_beat, .ref q_t_kind, .ref q_t_readSnow, .int t_readWalkers, .ref q_t_readWalker, .ref q_t_page, .ref q_t_trial, .ref q_t_book, .int t_acts, .ref q_t_kept, .ref q_t_isKept, .int t_marks, .ref q_t_markStep, .ref q_t_markTread, .long t_seed, .int t_stumbled, .ref q_t_order, .int t_lineMany, .int t_lineOrder, .int t_whoseMany, .int t_whoseFirst, .int t_restMany, .int t_restFirst, .ref q_t_gains, .ref q_t_value])), (q_t_page, .inl (cI, 17, .inl t_page)), (q_t_trial, .inl (cI, 17, .inl t_trial)), (q_t_gains, .inl (cI, 8, .inl w1)), (q_t_kind, .inl (cI, 5, .inl t_kind)), (q_t_beat, .inl (cI, 5, .inl t_beat))] H := hP
        replace hD : va_D A [(q_t, .inr (8, [.int t_thrown, .ref q_t_text, .int t_textSize, .int t_place, .int t_depth, .int t_noon, .int t_later, .int t_walkers, .ref q_t_beat, .ref q_t_kind, .ref q_t_readSnow, .int t_readWalkers, .ref q_t_readWalker, .ref q_t_page, .ref q_t_trial, .ref q_t_book, .int t_acts, .ref q_t_kept, .ref q_t_isKept, .int t_marks, .ref q_t_markStep, .ref q_t_markTread, .long t_seed, .int t_stumbled, .ref q_t_order, .int t_lineMany, .int t_lineOrder, .int t_whoseMany, .int t_whoseFirst, .int t_restMany, .int t_restFirst, .ref q_t_gains, .ref q_t_value])), (q_t_page, .inl (cI, 17, .inl t_page)), (q_t_trial, .inl (cI, 17, .inl t_trial)), (q_t_gains, .inl (cI, 8, .inl w1)), (q_t_kind, .inl (cI, 5, .inl t_kind)), (q_t_beat, .inl (cI, 5, .inl t_beat))] := hD
        refine lv_iinc (v := (x4 + 1)) (lv' := [(4, .int (x4 + 1)), (0, .ref q_t), (1, .int x1), (2, .int x2), (3, .int x3)]) hx hb dX8_layGains_181 hl (k := 4) rfl rfl (by decide) rfl (fun ls hl => ?_)
        refine lv_goto (tgt := 103) hx hb dX8_layGains_184 (by decide) ?_
        exact ih103 (x4 + 1) t_trial w1 _ _ _ hP hS (lv_sub hl [1, 2, 3, 4, 0] rfl) hf
      have h_147 : ∀ (x4 : Int32) (s0 : Int32) (s1 : Int32) (s2 : Int32) (t_trial : Nat → Int32) (t_gains : Nat → Int32) (H : Heap) (locs : List Loc) (ls : Array Slot), va_P (dC, dI) vwCl [(q_t, .inr (8, [.int t_thrown, .ref q_t_text, .int t_textSize, .int t_place, .int t_depth, .int t_noon, .int t_later, .int t_walkers, .ref q_t_beat, .ref q_t_kind, .ref q_t_readSnow, .int t_readWalkers, .ref q_t_readWalker, .ref q_t_page, .ref q_t_trial, .ref q_t_book, .int t_acts, .ref q_t_kept, .ref q_t_isKept, .int t_marks, .ref q_t_markStep, .ref q_t_markTread, .long t_seed, .int t_stumbled, .ref q_t_order, .int t_lineMany, .int t_lineOrder, .int t_whoseMany, .int t_whoseFirst, .int t_restMany, .int t_restFirst, .ref q_t_gains, .ref q_t_value])), (q_t_page, .inl (cI, 17, .inl t_page)), (q_t_trial, .inl (cI, 17, .inl t_trial)), (q_t_gains, .inl (cI, 8, .inl t_gains)), (q_t_kind, .inl (cI, 5, .inl t_kind)), (q_t_beat, .inl (cI, 5, .inl t_beat))] H → va_S A s.heap H locs → lv_has ls 5 [(0, .ref q_t), (1, .int x1), (2, .int x2), (3, .int x3), (4, .int x4)] → J_X8_layGains_147 (L_X8_layGains_103 x1 x2 x3 t_depth t_noon t_later t_walkers t_stumbled t_kind t_beat fu103) x2 x3 x4 s0 s1 s2 t_trial t_gains = some (o_t_stumbled, o_t_trial, o_t_gains) → W p l e rm_X8_layGains s m args below meth c H locs 0 0 Q (F0 m 147 ls [.int s0, .int s1, .int s2, .ref q_t_gains]) := by
        intro x4 s0 s1 s2 t_trial t_gains H locs ls hP hS hl hf
        have hD : va_D A [(q_t, .inr (8, [.int t_thrown, .ref q_t_text, .int t_textSize, .int t_place, .int t_depth, .int t_noon, .int t_later, .int t_walkers, .ref q_t_beat, .ref q_t_kind, .ref q_t_readSnow, .int t_readWalkers, .ref q_t_readWalker, .ref q_t_page, .ref q_t_trial, .ref q_t_book, .int t_acts, .ref q_t_kept, .ref q_t_isKept, .int t_marks, .ref q_t_markStep, .ref q_t_markTread, .long t_seed, .int t_stumbled, .ref q_t_order, .int t_lineMany, .int t_lineOrder, .int t_whoseMany, .int t_whoseFirst, .int t_restMany, .int t_restFirst, .ref q_t_gains, .ref q_t_value])), (q_t_page, .inl (cI, 17, .inl t_page)), (q_t_trial, .inl (cI, 17, .inl t_trial)), (q_t_gains, .inl (cI, 8, .inl t_gains)), (q_t_kind, .inl (cI, 5, .inl t_kind)), (q_t_beat, .inl (cI, 5, .inl t_beat))] := wd hD0 rfl
        rw [J_X8_layGains_147] at hf
        refine lv_iadd hx hb dX8_layGains_147 ?_
        refine kast hx hb hK.1 hP hD hS 3 0 rfl rfl dX8_layGains_148 hf (fun w2 H locs hP hD hS hf => ?_)
        replace hP : va_P (dC, dI) vwCl [(q_t, .inr (8, [.int t_thrown, .ref q_t_text, .int t_textSize, .int t_place, .int t_depth, .int t_noon, .int t_later, .int t_walkers, .ref q_t_beat, .ref q_t_kind, .ref q_t_readSnow, .int t_readWalkers, .ref q_t_readWalker, .ref q_t_page, .ref q_t_trial, .ref q_t_book, .int t_acts, .ref q_t_kept, .ref q_t_isKept, .int t_marks, .ref q_t_markStep, .ref q_t_markTread, .long t_seed, .int t_stumbled, .ref q_t_order, .int t_lineMany, .int t_lineOrder, .int t_whoseMany, .int t_whoseFirst, .int t_restMany, .int t_restFirst, .ref q_t_gains, .ref q_t_value])), (q_t_page, .inl (cI, 17, .inl t_page)), (q_t_trial, .inl (cI, 17, .inl t_trial)), (q_t_gains, .inl (cI, 8, .inl w2)), (q_t_kind, .inl (cI, 5, .inl t_kind)), (q_t_beat, .inl (cI, 5, .inl t_beat))] H := hP
        replace hD : va_D A [(q_t, .inr (8, [.int t_thrown, .ref q_t_text, .int t_textSize, .int t_place, .int t_depth, .int t_noon, .int t_later, .int t_walkers, .ref q_t_beat, .ref q_t_kind, .ref q_t_readSnow, .int t_readWalkers, .ref q_t_readWalker, .ref q_t_page, .ref q_t_trial, .ref q_t_book, .int t_acts, .ref q_t_kept, .ref q_t_isKept, .int t_marks, .ref q_t_markStep, .ref q_t_markTread, .long t_seed, .int t_stumbled, .ref q_t_order, .int t_lineMany, .int t_lineOrder, .int t_whoseMany, .int t_whoseFirst, .int t_restMany, .int t_restFirst, .ref q_t_gains, .ref q_t_value])), (q_t_page, .inl (cI, 17, .inl t_page)), (q_t_trial, .inl (cI, 17, .inl t_trial)), (q_t_gains, .inl (cI, 8, .inl w2)), (q_t_kind, .inl (cI, 5, .inl t_kind)), (q_t_beat, .inl (cI, 5, .inl t_beat))] := hD
        refine lv_aload_n hx hb dX8_layGains_149 rfl (lv_at hl 0 rfl) ?_
        refine va_get (D := (dC, dI)) (ci := 8) (v := .ref q_t_gains) (C := RX8) (T := TX8) (N := 33) hx hb hts hinX8 hown hK.1 hP 0 rfl rfl 31 (by decide) w_0 (fun _ h9 => h9) rfl dX8_layGains_150 ?_
        refine lv_iconst (v := 2) hx hb dX8_layGains_153 (by decide) ?_
        refine lv_iload_n hx hb dX8_layGains_154 rfl (lv_at hl 3 rfl) ?_
        refine lv_imul hx hb dX8_layGains_155 ?_
        refine lv_iconst (v := 1) hx hb dX8_layGains_156 (by decide) ?_
        refine lv_iadd hx hb dX8_layGains_157 ?_
        refine lv_dup2_11 hx hb dX8_layGains_158 rfl rfl ?_
        refine kald hx hb hK.1 hP 3 0 rfl rfl dX8_layGains_159 hf (fun v3 hf => ?_)
        refine lv_aload_n hx hb dX8_layGains_160 rfl (lv_at hl 0 rfl) ?_
        refine va_get (D := (dC, dI)) (ci := 8) (v := .ref q_t_trial) (C := RX8) (T := TX8) (N := 33) hx hb hts hinX8 hown hK.1 hP 0 rfl rfl 14 (by decide) w_1 (fun _ h9 => h9) rfl dX8_layGains_161 ?_
        refine lv_bipush (v := 15) hx hb dX8_layGains_164 (by decide) ?_
        refine kald hx hb hK.1 hP 2 0 rfl rfl dX8_layGains_166 hf (fun v4 hf => ?_)
        refine lv_iload_n hx hb dX8_layGains_167 rfl (lv_at hl 2 rfl) ?_
        obtain ⟨r5, e7, hf⟩ := bd_ok hf
        refine kSi (As := [.int v4, .int x2]) CF (va_cwS 2 hts gX8_layGains_X8_has rfl rfl rfl (by decide +kernel) ⟨Nat.le_of_ble_eq_true rfl, Nat.le_of_ble_eq_true rfl⟩) PU_blind hP hD hS hA [] (fun h1 h2 h3 => PU_pre hK h1 A h2 h3) (c_X8_has l dC dI cI cZ _ v4 x2 r5 e7) rfl rfl rfl rfl hl.1 rfl (Nat.le_of_ble_eq_true rfl) dX8_layGains_168 ⟨Nat.zero_le _, Nat.zero_le _⟩ (fun H locs hP hS => ?_)
        replace hP : va_P (dC, dI) vwCl [(q_t, .inr (8, [.int t_thrown, .ref q_t_text, .int t_textSize, .int t_place, .int t_depth, .int t_noon, .int t_later, .int t_walkers, .ref q_t_beat, .ref q_t_kind, .ref q_t_readSnow, .int t_readWalkers, .ref q_t_readWalker, .ref q_t_page, .ref q_t_trial, .ref q_t_book, .int t_acts, .ref q_t_kept, .ref q_t_isKept, .int t_marks, .ref q_t_markStep, .ref q_t_markTread, .long t_seed, .int t_stumbled, .ref q_t_order, .int t_lineMany, .int t_lineOrder, .int t_whoseMany, .int t_whoseFirst, .int t_restMany, .int t_restFirst, .ref q_t_gains, .ref q_t_value])), (q_t_page, .inl (cI, 17, .inl t_page)), (q_t_trial, .inl (cI, 17, .inl t_trial)), (q_t_gains, .inl (cI, 8, .inl w2)), (q_t_kind, .inl (cI, 5, .inl t_kind)), (q_t_beat, .inl (cI, 5, .inl t_beat))] H := hP
        refine lv_if_eq (tgt := 178) hx hb dX8_layGains_171 (by decide) (fun hc => ?_) (fun hc => ?_)
        · replace hf := ip hc hf
          refine lv_iconst (v := 1) hx hb dX8_layGains_178 (by decide) ?_
          exact h_179 x4 1 v3 ((2 * x3) + 1) t_trial w2 _ _ _ hP hS (lv_sub hl [0, 1, 2, 3, 4] rfl) hf
        · replace hf := iq hc hf
          refine lv_iconst (v := 0) hx hb dX8_layGains_174 (by decide) ?_
          refine lv_goto (tgt := 179) hx hb dX8_layGains_175 (by decide) ?_
          exact h_179 x4 0 v3 ((2 * x3) + 1) t_trial w2 _ _ _ hP hS (lv_sub hl [0, 1, 2, 3, 4] rfl) hf
      intro x4 t_trial t_gains H locs ls hP hS hl hf
      have hD : va_D A [(q_t, .inr (8, [.int t_thrown, .ref q_t_text, .int t_textSize, .int t_place, .int t_depth, .int t_noon, .int t_later, .int t_walkers, .ref q_t_beat, .ref q_t_kind, .ref q_t_readSnow, .int t_readWalkers, .ref q_t_readWalker, .ref q_t_page, .ref q_t_trial, .ref q_t_book, .int t_acts, .ref q_t_kept, .ref q_t_isKept, .int t_marks, .ref q_t_markStep, .ref q_t_markTread, .long t_seed, .int t_stumbled, .ref q_t_order, .int t_lineMany, .int t_lineOrder, .int t_whoseMany, .int t_whoseFirst, .int t_restMany, .int t_restFirst, .ref q_t_gains, .ref q_t_value])), (q_t_page, .inl (cI, 17, .inl t_page)), (q_t_trial, .inl (cI, 17, .inl t_trial)), (q_t_gains, .inl (cI, 8, .inl t_gains)), (q_t_kind, .inl (cI, 5, .inl t_kind)), (q_t_beat, .inl (cI, 5, .inl t_beat))] := wd hD0 rfl
      rw [L_X8_layGains_103] at hf
      refine lv_iload hx hb dX8_layGains_103 (lv_at hl 4 rfl) ?_
      refine lv_bipush (v := 8) hx hb dX8_layGains_105 (by decide) ?_
      refine lv_icmp_ge (tgt := 187) hx hb dX8_layGains_107 (by decide) (fun hc => ?_) (fun hc => ?_)
      · replace hf := ip hc hf
        obtain ⟨e0, hf⟩ := ij2 hf
        obtain ⟨e1, hf⟩ := ijc hf
        have e2 := hf
        exact hret _ _ _ _ (by rw [← e0, ← e1, ← e2]; exact hP) hS dX8_layGains_187
      · replace hf := iq hc hf
        refine lv_aload_n hx hb dX8_layGains_110 rfl (lv_at hl 0 rfl) ?_
        refine lv_aload_n hx hb dX8_layGains_111 rfl (lv_at hl 0 rfl) ?_
        refine va_get (D := (dC, dI)) (ci := 8) (v := .ref q_t_trial) (C := RX8) (T := TX8) (N := 33) hx hb hts hinX8 hown hK.1 hP 0 rfl rfl 14 (by decide) w_1 (fun _ h9 => h9) rfl dX8_layGains_112 ?_
        obtain ⟨⟨r8, o9⟩, e11, hf⟩ := bd_ok hf
        refine kVi (As := [.ref q_t_trial]) CF (cwV 1 hts gX8_layGains_X8_goStep rfl rfl rfl (by decide +kernel) ⟨Nat.le_of_ble_eq_true rfl, Nat.le_of_ble_eq_true rfl⟩) PU_blind hP hD hS hA (va_recv hK.1 hP (ci := 8) (q0 := 0) rfl rfl) [0, 2, 4, 5] (fun h1 h2 h3 => PU_pre hK h1 A h2 h3) (c_X8_goStep l dC dI cI cZ q_t q_t_text q_t_beat q_t_kind q_t_readSnow q_t_readWalker q_t_page q_t_trial q_t_book q_t_kept q_t_isKept q_t_markStep q_t_markTread q_t_order q_t_gains q_t_value q_t_trial _ t_thrown t_textSize t_place t_depth t_noon t_later t_walkers t_readWalkers t_acts t_marks t_seed t_stumbled t_lineMany t_lineOrder t_whoseMany t_whoseFirst t_restMany t_restFirst t_trial t_kind t_beat 17 r8 o9 e11) rfl rfl rfl rfl hl.1 rfl (Nat.le_of_ble_eq_true rfl) dX8_layGains_115 ⟨Nat.zero_le _, Nat.zero_le _⟩ (fun H locs hP hS => ?_)
        replace hP : va_P (dC, dI) vwCl [(q_t, .inr (8, [.int t_thrown, .ref q_t_text, .int t_textSize, .int t_place, .int t_depth, .int t_noon, .int t_later, .int t_walkers, .ref q_t_beat, .ref q_t_kind, .ref q_t_readSnow, .int t_readWalkers, .ref q_t_readWalker, .ref q_t_page, .ref q_t_trial, .ref q_t_book, .int t_acts, .ref q_t_kept, .ref q_t_isKept, .int t_marks, .ref q_t_markStep, .ref q_t_markTread, .long t_seed, .int t_stumbled, .ref q_t_order, .int t_lineMany, .int t_lineOrder, .int t_whoseMany, .int t_whoseFirst, .int t_restMany, .int t_restFirst, .ref q_t_gains, .ref q_t_value])), (q_t_page, .inl (cI, 17, .inl t_page)), (q_t_trial, .inl (cI, 17, .inl o9)), (q_t_gains, .inl (cI, 8, .inl t_gains)), (q_t_kind, .inl (cI, 5, .inl t_kind)), (q_t_beat, .inl (cI, 5, .inl t_beat))] H := hP
        replace hD : va_D A [(q_t, .inr (8, [.int t_thrown, .ref q_t_text, .int t_textSize, .int t_place, .int t_depth, .int t_noon, .int t_later, .int t_walkers, .ref q_t_beat, .ref q_t_kind, .ref q_t_readSnow, .int t_readWalkers, .ref q_t_readWalker, .ref q_t_page, .ref q_t_trial, .ref q_t_book, .int t_acts, .ref q_t_kept, .ref q_t_isKept, .int t_marks, .ref q_t_markStep, .ref q_t_markTread, .long t_seed, .int t_stumbled, .ref q_t_order, .int t_lineMany, .int t_lineOrder, .int t_whoseMany, .int t_whoseFirst, .int t_restMany, .int t_restFirst, .ref q_t_gains, .ref q_t_value])), (q_t_page, .inl (cI, 17, .inl t_page)), (q_t_trial, .inl (cI, 17, .inl o9)), (q_t_gains, .inl (cI, 8, .inl t_gains)), (q_t_kind, .inl (cI, 5, .inl t_kind)), (q_t_beat, .inl (cI, 5, .inl t_beat))] := wd hD rfl
        refine lv_pop hx hb dX8_layGains_118 rfl ?_
        refine lv_aload_n hx hb dX8_layGains_119 rfl (lv_at hl 0 rfl) ?_
        refine va_get (D := (dC, dI)) (ci := 8) (v := .ref q_t_gains) (C := RX8) (T := TX8) (N := 33) hx hb hts hinX8 hown hK.1 hP 0 rfl rfl 31 (by decide) w_0 (fun _ h9 => h9) rfl dX8_layGains_120 ?_
        refine lv_iconst (v := 2) hx hb dX8_layGains_123 (by decide) ?_
        refine lv_iload_n hx hb dX8_layGains_124 rfl (lv_at hl 3 rfl) ?_
        refine lv_imul hx hb dX8_layGains_125 ?_
        refine lv_dup2_11 hx hb dX8_layGains_126 rfl rfl ?_
        refine kald hx hb hK.1 hP 3 0 rfl rfl dX8_layGains_127 hf (fun v12 hf => ?_)
        refine lv_aload_n hx hb dX8_layGains_128 rfl (lv_at hl 0 rfl) ?_
        refine va_get (D := (dC, dI)) (ci := 8) (v := .ref q_t_trial) (C := RX8) (T := TX8) (N := 33) hx hb hts hinX8 hown hK.1 hP 0 rfl rfl 14 (by decide) w_1 (fun _ h9 => h9) rfl dX8_layGains_129 ?_
        refine lv_bipush (v := 15) hx hb dX8_layGains_132 (by decide) ?_
        refine kald hx hb hK.1 hP 2 0 rfl rfl dX8_layGains_134 hf (fun v13 hf => ?_)
        refine lv_iload_n hx hb dX8_layGains_135 rfl (lv_at hl 1 rfl) ?_
        obtain ⟨r14, e16, hf⟩ := bd_ok hf
        refine kSi (As := [.int v13, .int x1]) CF (va_cwS 2 hts gX8_layGains_X8_has rfl rfl rfl (by decide +kernel) ⟨Nat.le_of_ble_eq_true rfl, Nat.le_of_ble_eq_true rfl⟩) PU_blind hP hD hS hA [] (fun h1 h2 h3 => PU_pre hK h1 A h2 h3) (c_X8_has l dC dI cI cZ _ v13 x1 r14 e16) rfl rfl rfl rfl hl.1 rfl (Nat.le_of_ble_eq_true rfl) dX8_layGains_136 ⟨Nat.zero_le _, Nat.zero_le _⟩ (fun H locs hP hS => ?_)
        replace hP : va_P (dC, dI) vwCl [(q_t, .inr (8, [.int t_thrown, .ref q_t_text, .int t_textSize, .int t_place, .int t_depth, .int t_noon, .int t_later, .int t_walkers, .ref q_t_beat, .ref q_t_kind, .ref q_t_readSnow, .int t_readWalkers, .ref q_t_readWalker, .ref q_t_page, .ref q_t_trial, .ref q_t_book, .int t_acts, .ref q_t_kept, .ref q_t_isKept, .int t_marks, .ref q_t_markStep, .ref q_t_markTread, .long t_seed, .int t_stumbled, .ref q_t_order, .int t_lineMany, .int t_lineOrder, .int t_whoseMany, .int t_whoseFirst, .int t_restMany, .int t_restFirst, .ref q_t_gains, .ref q_t_value])), (q_t_page, .inl (cI, 17, .inl t_page)), (q_t_trial, .inl (cI, 17, .inl o9)), (q_t_gains, .inl (cI, 8, .inl t_gains)), (q_t_kind, .inl (cI, 5, .inl t_kind)), (q_t_beat, .inl (cI, 5, .inl t_beat))] H := hP
        refine lv_if_eq (tgt := 146) hx hb dX8_layGains_139 (by decide) (fun hc => ?_) (fun hc => ?_)
        · replace hf := ip hc hf
          refine lv_iconst (v := 1) hx hb dX8_layGains_146 (by decide) ?_
          exact h_147 x4 1 v12 (2 * x3) o9 t_gains _ _ _ hP hS (lv_sub hl [0, 1, 2, 3, 4] rfl) hf
        · replace hf := iq hc hf
          refine lv_iconst (v := 0) hx hb dX8_layGains_142 (by decide) ?_
          refine lv_goto (tgt := 147) hx hb dX8_layGains_143 (by decide) ?_
          exact h_147 x4 0 v12 (2 * x3) o9 t_gains _ _ _ hP hS (lv_sub hl [0, 1, 2, 3, 4] rfl) hf
  have h_72 : ∀ (x1 : Int32) (x2 : Int32) (x3 : Int32) (s0 : Int32) (s1 : Int32) (s2 : Int32) (t_stumbled : Int32) (t_trial : Nat → Int32) (t_gains : Nat → Int32) (H : Heap) (locs : List Loc) (ls : Array Slot), va_P (dC, dI) vwCl [(q_t, .inr (8, [.int t_thrown, .ref q_t_text, .int t_textSize, .int t_place, .int t_depth, .int t_noon, .int t_later, .int t_walkers, .ref q_t_beat, .ref q_t_kind, .ref q_t_readSnow, .int t_readWalkers, .ref q_t_readWalker, .ref q_t_page, .ref q_t_trial, .ref q_t_book, .int t_acts, .ref q_t_kept, .ref q_t_isKept, .int t_marks, .ref q_t_markStep, .ref q_t_markTread, .long t_seed, .int t_stumbled, .ref q_t_order, .int t_lineMany, .int t_lineOrder, .int t_whoseMany, .int t_whoseFirst, .int t_restMany, .int t_restFirst, .ref q_t_gains, .ref q_t_value])), (q_t_page, .inl (cI, 17, .inl t_page)), (q_t_trial, .inl (cI, 17, .inl t_trial)), (q_t_gains, .inl (cI, 8, .inl t_gains)), (q_t_kind, .inl (cI, 5, .inl t_kind)), (q_t_beat, .inl (cI, 5, .inl t_beat))] H → va_S A s.heap H locs → lv_has ls 5 [(0, .ref q_t), (1, .int x1), (2, .int x2), (3, .int x3)] → J_X8_layGains_72 x1 x2 x3 s0 s1 s2 t_depth t_noon t_later t_walkers t_stumbled t_trial t_gains t_kind t_beat = some (o_t_stumbled, o_t_trial, o_t_gains) → W p l e rm_X8_layGains s m args below meth c H locs 0 0 Q (F0 m 72 ls [.int s0, .int s1, .int s2, .ref q_t_trial]) := by
    intro x1 x2 x3 s0 s1 s2 t_stumbled t_trial t_gains H locs ls hP hS hl hf
    have hD : va_D A [(q_t, .inr (8, [.int t_thrown, .ref q_t_text, .int t_textSize, .int t_place, .int t_depth, .int t_noon, .int t_later, .int t_walkers, .ref q_t_beat, .ref q_t_kind, .ref q_t_readSnow, .int t_readWalkers, .ref q_t_readWalker, .ref q_t_page, .ref q_t_trial, .ref q_t_book, .int t_acts, .ref q_t_kept, .ref q_t_isKept, .int t_marks, .ref q_t_markStep, .ref q_t_markTread, .long t_seed, .int t_stumbled, .ref q_t_order, .int t_lineMany, .int t_lineOrder, .int t_whoseMany, .int t_whoseFirst, .int t_restMany, .int t_restFirst, .ref q_t_gains, .ref q_t_value])), (q_t_page, .inl (cI, 17, .inl t_page)), (q_t_trial, .inl (cI, 17, .inl t_trial)), (q_t_gains, .inl (cI, 8, .inl t_gains)), (q_t_kind, .inl (cI, 5, .inl t_kind)), (q_t_beat, .inl (cI, 5, .inl t_beat))] := wd hD0 rfl
    rw [J_X8_layGains_72] at hf
    refine lv_iadd hx hb dX8_layGains_72 ?_
    refine kast hx hb hK.1 hP hD hS 2 0 rfl rfl dX8_layGains_73 hf (fun w17 H locs hP hD hS hf => ?_)
    replace hP : va_P (dC, dI) vwCl [(q_t, .inr (8, [.int t_thrown, .ref q_t_text, .int t_textSize, .int t_place, .int t_depth, .int t_noon, .int t_later, .int t_walkers, .ref q_t_beat, .ref q_t_kind, .ref q_t_readSnow, .int t_readWalkers, .ref q_t_readWalker, .ref q_t_page, .ref q_t_trial, .ref q_t_book, .int t_acts, .ref q_t_kept, .ref q_t_isKept, .int t_marks, .ref q_t_markStep, .ref q_t_markTread, .long t_seed, .int t_stumbled, .ref q_t_order, .int t_lineMany, .int t_lineOrder, .int t_whoseMany, .int t_whoseFirst, .int t_restMany, .int t_restFirst, .ref q_t_gains, .ref q_t_value])), (q_t_page, .inl (cI, 17, .inl t_page)), (q_t_trial, .inl (cI, 17, .inl w17)), (q_t_gains, .inl (cI, 8, .inl t_gains)), (q_t_kind, .inl (cI, 5, .inl t_kind)), (q_t_beat, .inl (cI, 5, .inl t_beat))] H := hP
    replace hD : va_D A [(q_t, .inr (8, [.int t_thrown, .ref q_t_text, .int t_textSize, .int t_place, .int t_depth, .int t_noon, .int t_later, .int t_walkers, .ref q_t_beat, .ref q_t_kind, .ref q_t_readSnow, .int t_readWalkers, .ref q_t_readWalker, .ref q_t_page, .ref q_t_trial, .ref q_t_book, .int t_acts, .ref q_t_kept, .ref q_t_isKept, .int t_marks, .ref q_t_markStep, .ref q_t_markTread, .long t_seed, .int t_stumbled, .ref q_t_order, .int t_lineMany, .int t_lineOrder, .int t_whoseMany, .int t_whoseFirst, .int t_restMany, .int t_restFirst, .ref q_t_gains, .ref q_t_value])), (q_t_page, .inl (cI, 17, .inl t_page)), (q_t_trial, .inl (cI, 17, .inl w17)), (q_t_gains, .inl (cI, 8, .inl t_gains)), (q_t_kind, .inl (cI, 5, .inl t_kind)), (q_t_beat, .inl (cI, 5, .inl t_beat))] := hD
    refine lv_aload_n hx hb dX8_layGains_74 rfl (lv_at hl 0 rfl) ?_
    refine va_get (D := (dC, dI)) (ci := 8) (v := .ref q_t_gains) (C := RX8) (T := TX8) (N := 33) hx hb hts hinX8 hown hK.1 hP 0 rfl rfl 31 (by decide) w_0 (fun _ h9 => h9) rfl dX8_layGains_75 ?_
    refine lv_iconst (v := 2) hx hb dX8_layGains_78 (by decide) ?_
    refine lv_iload_n hx hb dX8_layGains_79 rfl (lv_at hl 3 rfl) ?_
    refine lv_imul hx hb dX8_layGains_80 ?_
    refine lv_iload_n hx hb dX8_layGains_81 rfl (lv_at hl 3 rfl) ?_
    refine lv_iconst (v := 2) hx hb dX8_layGains_82 (by decide) ?_
    refine lv_idiv hx hb dX8_layGains_83 (by decide) ?_
    refine lv_ineg hx hb dX8_layGains_84 ?_
    refine kast hx hb hK.1 hP hD hS 3 0 rfl rfl dX8_layGains_85 hf (fun w18 H locs hP hD hS hf => ?_)
    replace hP : va_P (dC, dI) vwCl [(q_t, .inr (8, [.int t_thrown, .ref q_t_text, .int t_textSize, .int t_place, .int t_depth, .int t_noon, .int t_later, .int t_walkers, .ref q_t_beat, .ref q_t_kind, .ref q_t_readSnow, .int t_readWalkers, .ref q_t_readWalker, .ref q_t_page, .ref q_t_trial, .ref q_t_book, .int t_acts, .ref q_t_kept, .ref q_t_isKept, .int t_marks, .ref q_t_markStep, .ref q_t_markTread, .long t_seed, .int t_stumbled, .ref q_t_order, .int t_lineMany, .int t_lineOrder, .int t_whoseMany, .int t_whoseFirst, .int t_restMany, .int t_restFirst, .ref q_t_gains, .ref q_t_value])), (q_t_page, .inl (cI, 17, .inl t_page)), (q_t_trial, .inl (cI, 17, .inl w17)), (q_t_gains, .inl (cI, 8, .inl w18)), (q_t_kind, .inl (cI, 5, .inl t_kind)), (q_t_beat, .inl (cI, 5, .inl t_beat))] H := hP
    replace hD : va_D A [(q_t, .inr (8, [.int t_thrown, .ref q_t_text, .int t_textSize, .int t_place, .int t_depth, .int t_noon, .int t_later, .int t_walkers, .ref q_t_beat, .ref q_t_kind, .ref q_t_readSnow, .int t_readWalkers, .ref q_t_readWalker, .ref q_t_page, .ref q_t_trial, .ref q_t_book, .int t_acts, .ref q_t_kept, .ref q_t_isKept, .int t_marks, .ref q_t_markStep, .ref q_t_markTread, .long t_seed, .int t_stumbled, .ref q_t_order, .int t_lineMany, .int t_lineOrder, .int t_whoseMany, .int t_whoseFirst, .int t_restMany, .int t_restFirst, .ref q_t_gains, .ref q_t_value])), (q_t_page, .inl (cI, 17, .inl t_page)), (q_t_trial, .inl (cI, 17, .inl w17)), (q_t_gains, .inl (cI, 8, .inl w18)), (q_t_kind, .inl (cI, 5, .inl t_kind)), (q_t_beat, .inl (cI, 5, .inl t_beat))] := hD
    refine lv_aload_n hx hb dX8_layGains_86 rfl (lv_at hl 0 rfl) ?_
    refine va_get (D := (dC, dI)) (ci := 8) (v := .ref q_t_gains) (C := RX8) (T := TX8) (N := 33) hx hb hts hinX8 hown hK.1 hP 0 rfl rfl 31 (by decide) w_0 (fun _ h9 => h9) rfl dX8_layGains_87 ?_
    refine lv_iconst (v := 2) hx hb dX8_layGains_90 (by decide) ?_
    refine lv_iload_n hx hb dX8_layGains_91 rfl (lv_at hl 3 rfl) ?_
    refine lv_imul hx hb dX8_layGains_92 ?_
    refine lv_iconst (v := 1) hx hb dX8_layGains_93 (by decide) ?_
    refine lv_iadd hx hb dX8_layGains_94 ?_
    refine lv_iload_n hx hb dX8_layGains_95 rfl (lv_at hl 3 rfl) ?_
    refine lv_iconst (v := 2) hx hb dX8_layGains_96 (by decide) ?_
    refine lv_irem hx hb dX8_layGains_97 (by decide) ?_
    refine lv_ineg hx hb dX8_layGains_98 ?_
    refine kast hx hb hK.1 hP hD hS 3 0 rfl rfl dX8_layGains_99 hf (fun w19 H locs hP hD hS hf => ?_)
    replace hP : va_P (dC, dI) vwCl [(q_t, .inr (8, [.int t_thrown, .ref q_t_text, .int t_textSize, .int t_place, .int t_depth, .int t_noon, .int t_later, .int t_walkers, .ref q_t_beat, .ref q_t_kind, .ref q_t_readSnow, .int t_readWalkers, .ref q_t_readWalker, .ref q_t_page, .ref q_t_trial, .ref q_t_book, .int t_acts, .ref q_t_kept, .ref q_t_isKept, .int t_marks, .ref q_t_markStep, .ref q_t_markTread, .long t_seed, .int t_stumbled, .ref q_t_order, .int t_lineMany, .int t_lineOrder, .int t_whoseMany, .int t_whoseFirst, .int t_restMany, .int t_restFirst, .ref q_t_gains, .ref q_t_value])), (q_t_page, .inl (cI, 17, .inl t_page)), (q_t_trial, .inl (cI, 17, .inl w17)), (q_t_gains, .inl (cI, 8, .inl w19)), (q_t_kind, .inl (cI, 5, .inl t_kind)), (q_t_beat, .inl (cI, 5, .inl t_beat))] H := hP
    replace hD : va_D A [(q_t, .inr (8, [.int t_thrown, .ref q_t_text, .int t_textSize, .int t_place, .int t_depth, .int t_noon, .int t_later, .int t_walkers, .ref q_t_beat, .ref q_t_kind, .ref q_t_readSnow, .int t_readWalkers, .ref q_t_readWalker, .ref q_t_page, .ref q_t_trial, .ref q_t_book, .int t_acts, .ref q_t_kept, .ref q_t_isKept, .int t_marks, .ref q_t_markStep, .ref q_t_markTread, .long t_seed, .int t_stumbled, .ref q_t_order, .int t_lineMany, .int t_lineOrder, .int t_whoseMany, .int t_whoseFirst, .int t_restMany, .int t_restFirst, .ref q_t_gains, .ref q_t_value])), (q_t_page, .inl (cI, 17, .inl t_page)), (q_t_trial, .inl (cI, 17, .inl w17)), (q_t_gains, .inl (cI, 8, .inl w19)), (q_t_kind, .inl (cI, 5, .inl t_kind)), (q_t_beat, .inl (cI, 5, .inl t_beat))] := hD
    refine lv_iconst (v := 0) hx hb dX8_layGains_100 (by decide) ?_
    refine lv_istore (lv' := [(4, .int 0), (0, .ref q_t), (1, .int x1), (2, .int x2), (3, .int x3)]) hx hb dX8_layGains_101 hl (by decide) rfl (fun ls hl => ?_)
    exact h_103 x1 x2 x3 t_stumbled fuelC 0 w17 w19 _ _ _ hP hS (lv_sub hl [1, 2, 3, 4, 0] rfl) hf
  have h_71 : ∀ (x1 : Int32) (x2 : Int32) (x3 : Int32) (s0 : Int32) (s1 : Int32) (t_stumbled : Int32) (t_trial : Nat → Int32) (t_gains : Nat → Int32) (H : Heap) (locs : List Loc) (ls : Array Slot), va_P (dC, dI) vwCl [(q_t, .inr (8, [.int t_thrown, .ref q_t_text, .int t_textSize, .int t_place, .int t_depth, .int t_noon, .int t_later, .int t_walkers, .ref q_t_beat, .ref q_t_kind, .ref q_t_readSnow, .int t_readWalkers, .ref q_t_readWalker, .ref q_t_page, .ref q_t_trial, .ref q_t_book, .int t_acts, .ref q_t_kept, .ref q_t_isKept, .int t_marks, .ref q_t_markStep, .ref q_t_markTread, .long t_seed, .int t_stumbled, .ref q_t_order, .int t_lineMany, .int t_lineOrder, .int t_whoseMany, .int t_whoseFirst, .int t_restMany, .int t_restFirst, .ref q_t_gains, .ref q_t_value])), (q_t_page, .inl (cI, 17, .inl t_page)), (q_t_trial, .inl (cI, 17, .inl t_trial)), (q_t_gains, .inl (cI, 8, .inl t_gains)), (q_t_kind, .inl (cI, 5, .inl t_kind)), (q_t_beat, .inl (cI, 5, .inl t_beat))] H → va_S A s.heap H locs → lv_has ls 5 [(0, .ref q_t), (1, .int x1), (2, .int x2), (3, .int x3)] → J_X8_layGains_71 x1 x2 x3 s0 s1 t_depth t_noon t_later t_walkers t_stumbled t_trial t_gains t_kind t_beat = some (o_t_stumbled, o_t_trial, o_t_gains) → W p l e rm_X8_layGains s m args below meth c H locs 0 0 Q (F0 m 71 ls [.int s0, .int s1, .ref q_t_trial]) := by
    intro x1 x2 x3 s0 s1 t_stumbled t_trial t_gains H locs ls hP hS hl hf
    have hD : va_D A [(q_t, .inr (8, [.int t_thrown, .ref q_t_text, .int t_textSize, .int t_place, .int t_depth, .int t_noon, .int t_later, .int t_walkers, .ref q_t_beat, .ref q_t_kind, .ref q_t_readSnow, .int t_readWalkers, .ref q_t_readWalker, .ref q_t_page, .ref q_t_trial, .ref q_t_book, .int t_acts, .ref q_t_kept, .ref q_t_isKept, .int t_marks, .ref q_t_markStep, .ref q_t_markTread, .long t_seed, .int t_stumbled, .ref q_t_order, .int t_lineMany, .int t_lineOrder, .int t_whoseMany, .int t_whoseFirst, .int t_restMany, .int t_restFirst, .ref q_t_gains, .ref q_t_value])), (q_t_page, .inl (cI, 17, .inl t_page)), (q_t_trial, .inl (cI, 17, .inl t_trial)), (q_t_gains, .inl (cI, 8, .inl t_gains)), (q_t_kind, .inl (cI, 5, .inl t_kind)), (q_t_beat, .inl (cI, 5, .inl t_beat))] := wd hD0 rfl
    rw [J_X8_layGains_71] at hf
    refine lv_iconst (v := 0) hx hb dX8_layGains_71 (by decide) ?_
    exact h_72 x1 x2 x3 0 s0 s1 t_stumbled t_trial t_gains _ _ _ hP hS (lv_sub hl [0, 1, 2, 3] rfl) hf
  have h_36 : ∀ (x1 : Int32) (x2 : Int32) (x3 : Int32) (s0 : Int32) (s1 : Int32) (s2 : Int32) (t_stumbled : Int32) (t_trial : Nat → Int32) (t_gains : Nat → Int32) (H : Heap) (locs : List Loc) (ls : Array Slot), va_P (dC, dI) vwCl [(q_t, .inr (8, [.int t_thrown, .ref q_t_text, .int t_textSize, .int t_place, .int t_depth, .int t_noon, .int t_later, .int t_walkers, .ref q_t_beat, .ref q_t_kind, .ref q_t_readSnow, .int t_readWalkers, .ref q_t_readWalker, .ref q_t_page, .ref q_t_trial, .ref q_t_book, .int t_acts, .ref q_t_kept, .ref q_t_isKept, .int t_marks, .ref q_t_markStep, .ref q_t_markTread, .long t_seed, .int t_stumbled, .ref q_t_order, .int t_lineMany, .int t_lineOrder, .int t_whoseMany, .int t_whoseFirst, .int t_restMany, .int t_restFirst, .ref q_t_gains, .ref q_t_value])), (q_t_page, .inl (cI, 17, .inl t_page)), (q_t_trial, .inl (cI, 17, .inl t_trial)), (q_t_gains, .inl (cI, 8, .inl t_gains)), (q_t_kind, .inl (cI, 5, .inl t_kind)), (q_t_beat, .inl (cI, 5, .inl t_beat))] H → va_S A s.heap H locs → lv_has ls 5 [(0, .ref q_t), (1, .int x1), (2, .int x2), (3, .int x3)] → J_X8_layGains_36 x1 x2 x3 s0 s1 s2 t_depth t_noon t_later t_walkers t_stumbled t_trial t_gains t_kind t_beat = some (o_t_stumbled, o_t_trial, o_t_gains) → W p l e rm_X8_layGains s m args below meth c H locs 0 0 Q (F0 m 36 ls [.int s0, .int s1, .int s2, .ref q_t_trial]) := by
    intro x1 x2 x3 s0 s1 s2 t_stumbled t_trial t_gains H locs ls hP hS hl hf
    have hD : va_D A [(q_t, .inr (8, [.int t_thrown, .ref q_t_text, .int t_textSize, .int t_place, .int t_depth, .int t_noon, .int t_later, .int t_walkers, .ref q_t_beat, .ref q_t_kind, .ref q_t_readSnow, .int t_readWalkers, .ref q_t_readWalker, .ref q_t_page, .ref q_t_trial, .ref q_t_book, .int t_acts, .ref q_t_kept, .ref q_t_isKept, .int t_marks, .ref q_t_markStep, .ref q_t_markTread, .long t_seed, .int t_stumbled, .ref q_t_order, .int t_lineMany, .int t_lineOrder, .int t_whoseMany, .int t_whoseFirst, .int t_restMany, .int t_restFirst, .ref q_t_gains, .ref q_t_value])), (q_t_page, .inl (cI, 17, .inl t_page)), (q_t_trial, .inl (cI, 17, .inl t_trial)), (q_t_gains, .inl (cI, 8, .inl t_gains)), (q_t_kind, .inl (cI, 5, .inl t_kind)), (q_t_beat, .inl (cI, 5, .inl t_beat))] := wd hD0 rfl
    rw [J_X8_layGains_36] at hf
    refine lv_iadd hx hb dX8_layGains_36 ?_
    refine kast hx hb hK.1 hP hD hS 2 0 rfl rfl dX8_layGains_37 hf (fun w20 H locs hP hD hS hf => ?_)
    replace hP : va_P (dC, dI) vwCl [(q_t, .inr (8, [.int t_thrown, .ref q_t_text, .int t_textSize, .int t_place, .int t_depth, .int t_noon, .int t_later, .int t_walkers, .ref q_t_beat, .ref q_t_kind, .ref q_t_readSnow, .int t_readWalkers, .ref q_t_readWalker, .ref q_t_page, .ref q_t_trial, .ref q_t_book, .int t_acts, .ref q_t_kept, .ref q_t_isKept, .int t_marks, .ref q_t_markStep, .ref q_t_markTread, .long t_seed, .int t_stumbled, .ref q_t_order, .int t_lineMany, .int t_lineOrder, .int t_whoseMany, .int t_whoseFirst, .int t_restMany, .int t_restFirst, .ref q_t_gains, .ref q_t_value])), (q_t_page, .inl (cI, 17, .inl t_page)), (q_t_trial, .inl (cI, 17, .inl w20)), (q_t_gains, .inl (cI, 8, .inl t_gains)), (q_t_kind, .inl (cI, 5, .inl t_kind)), (q_t_beat, .inl (cI, 5, .inl t_beat))] H := hP
    replace hD : va_D A [(q_t, .inr (8, [.int t_thrown, .ref q_t_text, .int t_textSize, .int t_place, .int t_depth, .int t_noon, .int t_later, .int t_walkers, .ref q_t_beat, .ref q_t_kind, .ref q_t_readSnow, .int t_readWalkers, .ref q_t_readWalker, .ref q_t_page, .ref q_t_trial, .ref q_t_book, .int t_acts, .ref q_t_kept, .ref q_t_isKept, .int t_marks, .ref q_t_markStep, .ref q_t_markTread, .long t_seed, .int t_stumbled, .ref q_t_order, .int t_lineMany, .int t_lineOrder, .int t_whoseMany, .int t_whoseFirst, .int t_restMany, .int t_restFirst, .ref q_t_gains, .ref q_t_value])), (q_t_page, .inl (cI, 17, .inl t_page)), (q_t_trial, .inl (cI, 17, .inl w20)), (q_t_gains, .inl (cI, 8, .inl t_gains)), (q_t_kind, .inl (cI, 5, .inl t_kind)), (q_t_beat, .inl (cI, 5, .inl t_beat))] := hD
    refine lv_aload_n hx hb dX8_layGains_38 rfl (lv_at hl 0 rfl) ?_
    refine va_get (D := (dC, dI)) (ci := 8) (v := .ref q_t_trial) (C := RX8) (T := TX8) (N := 33) hx hb hts hinX8 hown hK.1 hP 0 rfl rfl 14 (by decide) w_1 (fun _ h9 => h9) rfl dX8_layGains_39 ?_
    refine lv_iconst (v := 5) hx hb dX8_layGains_42 (by decide) ?_
    refine lv_iload_n hx hb dX8_layGains_43 rfl (lv_at hl 2 rfl) ?_
    refine lv_iadd hx hb dX8_layGains_44 ?_
    refine lv_dup2_11 hx hb dX8_layGains_45 rfl rfl ?_
    refine kald hx hb hK.1 hP 2 0 rfl rfl dX8_layGains_46 hf (fun v21 hf => ?_)
    refine lv_iload_n hx hb dX8_layGains_47 rfl (lv_at hl 3 rfl) ?_
    refine lv_iconst (v := 2) hx hb dX8_layGains_48 (by decide) ?_
    refine lv_irem hx hb dX8_layGains_49 (by decide) ?_
    refine lv_iconst (v := 1) hx hb dX8_layGains_50 (by decide) ?_
    refine lv_icmp_ne (tgt := 71) hx hb dX8_layGains_51 (by decide) (fun hc => ?_) (fun hc => ?_)
    · replace hf := iq hc hf
      exact h_71 x1 x2 x3 v21 (5 + x2) t_stumbled w20 t_gains _ _ _ hP hS (lv_sub hl [0, 1, 2, 3] rfl) hf
    · replace hf := ip hc hf
      refine lv_aload_n hx hb dX8_layGains_54 rfl (lv_at hl 0 rfl) ?_
      refine va_get (D := (dC, dI)) (ci := 8) (v := .ref q_t_trial) (C := RX8) (T := TX8) (N := 33) hx hb hts hinX8 hown hK.1 hP 0 rfl rfl 14 (by decide) w_1 (fun _ h9 => h9) rfl dX8_layGains_55 ?_
      refine lv_iconst (v := 5) hx hb dX8_layGains_58 (by decide) ?_
      refine lv_iload_n hx hb dX8_layGains_59 rfl (lv_at hl 2 rfl) ?_
      refine lv_iadd hx hb dX8_layGains_60 ?_
      refine kald hx hb hK.1 hP 2 0 rfl rfl dX8_layGains_61 hf (fun v22 hf => ?_)
      refine lv_bipush (v := 9) hx hb dX8_layGains_62 (by decide) ?_
      refine lv_icmp_ge (tgt := 71) hx hb dX8_layGains_64 (by decide) (fun hc => ?_) (fun hc => ?_)
      · replace hf := ip hc hf
        exact h_71 x1 x2 x3 v21 (5 + x2) t_stumbled w20 t_gains _ _ _ hP hS (lv_sub hl [0, 1, 2, 3] rfl) hf
      · replace hf := iq hc hf
        refine lv_iconst (v := 1) hx hb dX8_layGains_67 (by decide) ?_
        refine lv_goto (tgt := 72) hx hb dX8_layGains_68 (by decide) ?_
        exact h_72 x1 x2 x3 1 v21 (5 + x2) t_stumbled w20 t_gains _ _ _ hP hS (lv_sub hl [0, 1, 2, 3] rfl) hf
  have h_35 : ∀ (x1 : Int32) (x2 : Int32) (x3 : Int32) (s0 : Int32) (s1 : Int32) (t_stumbled : Int32) (t_trial : Nat → Int32) (t_gains : Nat → Int32) (H : Heap) (locs : List Loc) (ls : Array Slot), va_P (dC, dI) vwCl [(q_t, .inr (8, [.int t_thrown, .ref q_t_text, .int t_textSize, .int t_place, .int t_depth, .int t_noon, .int t_later, .int t_walkers, .ref q_t_beat, .ref q_t_kind, .ref q_t_readSnow, .int t_readWalkers, .ref q_t_readWalker, .ref q_t_page, .ref q_t_trial, .ref q_t_book, .int t_acts, .ref q_t_kept, .ref q_t_isKept, .int t_marks, .ref q_t_markStep, .ref q_t_markTread, .long t_seed, .int t_stumbled, .ref q_t_order, .int t_lineMany, .int t_lineOrder, .int t_whoseMany, .int t_whoseFirst, .int t_restMany, .int t_restFirst, .ref q_t_gains, .ref q_t_value])), (q_t_page, .inl (cI, 17, .inl t_page)), (q_t_trial, .inl (cI, 17, .inl t_trial)), (q_t_gains, .inl (cI, 8, .inl t_gains)), (q_t_kind, .inl (cI, 5, .inl t_kind)), (q_t_beat, .inl (cI, 5, .inl t_beat))] H → va_S A s.heap H locs → lv_has ls 5 [(0, .ref q_t), (1, .int x1), (2, .int x2), (3, .int x3)] → J_X8_layGains_35 x1 x2 x3 s0 s1 t_depth t_noon t_later t_walkers t_stumbled t_trial t_gains t_kind t_beat = some (o_t_stumbled, o_t_trial, o_t_gains) → W p l e rm_X8_layGains s m args below meth c H locs 0 0 Q (F0 m 35 ls [.int s0, .int s1, .ref q_t_trial]) := by
    intro x1 x2 x3 s0 s1 t_stumbled t_trial t_gains H locs ls hP hS hl hf
    have hD : va_D A [(q_t, .inr (8, [.int t_thrown, .ref q_t_text, .int t_textSize, .int t_place, .int t_depth, .int t_noon, .int t_later, .int t_walkers, .ref q_t_beat, .ref q_t_kind, .ref q_t_readSnow, .int t_readWalkers, .ref q_t_readWalker, .ref q_t_page, .ref q_t_trial, .ref q_t_book, .int t_acts, .ref q_t_kept, .ref q_t_isKept, .int t_marks, .ref q_t_markStep, .ref q_t_markTread, .long t_seed, .int t_stumbled, .ref q_t_order, .int t_lineMany, .int t_lineOrder, .int t_whoseMany, .int t_whoseFirst, .int t_restMany, .int t_restFirst, .ref q_t_gains, .ref q_t_value])), (q_t_page, .inl (cI, 17, .inl t_page)), (q_t_trial, .inl (cI, 17, .inl t_trial)), (q_t_gains, .inl (cI, 8, .inl t_gains)), (q_t_kind, .inl (cI, 5, .inl t_kind)), (q_t_beat, .inl (cI, 5, .inl t_beat))] := wd hD0 rfl
    rw [J_X8_layGains_35] at hf
    refine lv_iconst (v := 0) hx hb dX8_layGains_35 (by decide) ?_
    exact h_36 x1 x2 x3 0 s0 s1 t_stumbled t_trial t_gains _ _ _ hP hS (lv_sub hl [0, 1, 2, 3] rfl) hf
  rw [f_X8_layGains] at hf
  refine lv_aload_n hx hb dX8_layGains_0 rfl (lv_at hl 0 rfl) ?_
  obtain ⟨⟨o23, o24⟩, e26, hf⟩ := bd_ok hf
  refine kVv (As := []) CF (cwV 0 hts gX8_layGains_X8_begin rfl rfl rfl (by decide +kernel) ⟨Nat.le_of_ble_eq_true rfl, Nat.le_of_ble_eq_true rfl⟩) PU_blind hP hD hS hA (va_recv hK.1 hP (ci := 8) (q0 := 0) rfl rfl) [0, 1, 2] (fun h1 h2 h3 => PU_pre hK h1 A h2 h3) (c_X8_begin l dC dI cI cZ q_t q_t_text q_t_beat q_t_kind q_t_readSnow q_t_readWalker q_t_page q_t_trial q_t_book q_t_kept q_t_isKept q_t_markStep q_t_markTread q_t_order q_t_gains q_t_value _ t_thrown t_textSize t_place t_depth t_noon t_later t_walkers t_readWalkers t_acts t_marks t_seed t_stumbled t_lineMany t_lineOrder t_whoseMany t_whoseFirst t_restMany t_restFirst t_page t_trial o23 o24 e26) rfl rfl rfl rfl hl.1 rfl (Nat.le_of_ble_eq_true rfl) dX8_layGains_1 ⟨Nat.zero_le _, Nat.zero_le _⟩ (fun H locs hP hS => ?_)
  replace hP : va_P (dC, dI) vwCl [(q_t, .inr (8, [.int t_thrown, .ref q_t_text, .int t_textSize, .int t_place, .int t_depth, .int t_noon, .int t_later, .int t_walkers, .ref q_t_beat, .ref q_t_kind, .ref q_t_readSnow, .int t_readWalkers, .ref q_t_readWalker, .ref q_t_page, .ref q_t_trial, .ref q_t_book, .int t_acts, .ref q_t_kept, .ref q_t_isKept, .int t_marks, .ref q_t_markStep, .ref q_t_markTread, .long t_seed, .int o23, .ref q_t_order, .int t_lineMany, .int t_lineOrder, .int t_whoseMany, .int t_whoseFirst, .int t_restMany, .int t_restFirst, .ref q_t_gains, .ref q_t_value])), (q_t_page, .inl (cI, 17, .inl t_page)), (q_t_trial, .inl (cI, 17, .inl o24)), (q_t_gains, .inl (cI, 8, .inl t_gains)), (q_t_kind, .inl (cI, 5, .inl t_kind)), (q_t_beat, .inl (cI, 5, .inl t_beat))] H := hP
  replace hD : va_D A [(q_t, .inr (8, [.int t_thrown, .ref q_t_text, .int t_textSize, .int t_place, .int t_depth, .int t_noon, .int t_later, .int t_walkers, .ref q_t_beat, .ref q_t_kind, .ref q_t_readSnow, .int t_readWalkers, .ref q_t_readWalker, .ref q_t_page, .ref q_t_trial, .ref q_t_book, .int t_acts, .ref q_t_kept, .ref q_t_isKept, .int t_marks, .ref q_t_markStep, .ref q_t_markTread, .long t_seed, .int o23, .ref q_t_order, .int t_lineMany, .int t_lineOrder, .int t_whoseMany, .int t_whoseFirst, .int t_restMany, .int t_restFirst, .ref q_t_gains, .ref q_t_value])), (q_t_page, .inl (cI, 17, .inl t_page)), (q_t_trial, .inl (cI, 17, .inl o24)), (q_t_gains, .inl (cI, 8, .inl t_gains)), (q_t_kind, .inl (cI, 5, .inl t_kind)), (q_t_beat, .inl (cI, 5, .inl t_beat))] := wd hD rfl
  refine lv_aload_n hx hb dX8_layGains_4 rfl (lv_at hl 0 rfl) ?_
  refine va_get (D := (dC, dI)) (ci := 8) (v := .ref q_t_trial) (C := RX8) (T := TX8) (N := 33) hx hb hts hinX8 hown hK.1 hP 0 rfl rfl 14 (by decide) w_1 (fun _ h9 => h9) rfl dX8_layGains_5 ?_
  refine lv_iconst (v := 5) hx hb dX8_layGains_8 (by decide) ?_
  refine lv_iload_n hx hb dX8_layGains_9 rfl (lv_at hl 1 rfl) ?_
  refine lv_iadd hx hb dX8_layGains_10 ?_
  refine lv_dup2_11 hx hb dX8_layGains_11 rfl rfl ?_
  refine kald hx hb hK.1 hP 2 0 rfl rfl dX8_layGains_12 hf (fun v27 hf => ?_)
  refine lv_iload_n hx hb dX8_layGains_13 rfl (lv_at hl 3 rfl) ?_
  refine lv_iconst (v := 1) hx hb dX8_layGains_14 (by decide) ?_
  refine lv_icmp_le (tgt := 35) hx hb dX8_layGains_15 (by decide) (fun hc => ?_) (fun hc => ?_)
  · replace hf := ip hc hf
    exact h_35 x1 x2 x3 v27 (5 + x1) o23 o24 t_gains _ _ _ hP hS (lv_sub hl [0, 1, 2, 3] rfl) hf
  · replace hf := iq hc hf
    refine lv_aload_n hx hb dX8_layGains_18 rfl (lv_at hl 0 rfl) ?_
    refine va_get (D := (dC, dI)) (ci := 8) (v := .ref q_t_trial) (C := RX8) (T := TX8) (N := 33) hx hb hts hinX8 hown hK.1 hP 0 rfl rfl 14 (by decide) w_1 (fun _ h9 => h9) rfl dX8_layGains_19 ?_
    refine lv_iconst (v := 5) hx hb dX8_layGains_22 (by decide) ?_
    refine lv_iload_n hx hb dX8_layGains_23 rfl (lv_at hl 1 rfl) ?_
    refine lv_iadd hx hb dX8_layGains_24 ?_
    refine kald hx hb hK.1 hP 2 0 rfl rfl dX8_layGains_25 hf (fun v28 hf => ?_)
    refine lv_bipush (v := 9) hx hb dX8_layGains_26 (by decide) ?_
    refine lv_icmp_ge (tgt := 35) hx hb dX8_layGains_28 (by decide) (fun hc => ?_) (fun hc => ?_)
    · replace hf := ip hc hf
      exact h_35 x1 x2 x3 v27 (5 + x1) o23 o24 t_gains _ _ _ hP hS (lv_sub hl [0, 1, 2, 3] rfl) hf
    · replace hf := iq hc hf
      refine lv_iconst (v := 1) hx hb dX8_layGains_31 (by decide) ?_
      refine lv_goto (tgt := 36) hx hb dX8_layGains_32 (by decide) ?_
      exact h_36 x1 x2 x3 1 v27 (5 + x1) o23 o24 t_gains _ _ _ hP hS (lv_sub hl [0, 1, 2, 3] rfl) hf
abbrev rm_X8_rests : Room := { frames := 5, cells := 0, slots := 0, locals := 120 }
set_option maxHeartbeats 4000000 in
set_option maxRecDepth 100000 in
theorem c_X8_rests (l : Launch) (dC : Nat → ClassId) (dI : Nat → Nat → Nat) (cI cZ : ClassId) (q_t q_t_text q_t_beat q_t_kind q_t_readSnow q_t_readWalker q_t_page q_t_trial q_t_book q_t_kept q_t_isKept q_t_markStep q_t_markTread q_t_order q_t_gains q_t_value : Nat) (sz : Nat) (t_thrown : Int32) (t_textSize : Int32) (t_place : Int32) (t_depth : Int32) (t_noon : Int32) (t_later : Int32) (t_walkers : Int32) (t_readWalkers : Int32) (t_acts : Int32) (t_marks : Int32) (t_seed : Int64) (t_stumbled : Int32) (t_lineMany : Int32) (t_lineOrder : Int32) (t_whoseMany : Int32) (t_whoseFirst : Int32) (t_restMany : Int32) (t_restFirst : Int32) (t_page : Nat → Int32) (t_trial : Nat → Int32) (t_gains : Nat → Int32) (t_kind : Nat → Int32) (t_beat : Nat → Int32) (x1 : Int32) (x2 : Int32) (x3 : Int32) (r_ : Int32) (o_t_thrown : Int32) (o_t_stumbled : Int32) (o_t_restMany : Int32) (o_t_restFirst : Int32) (o_t_trial : Nat → Int32) (o_t_gains : Nat → Int32) (hf : f_X8_rests x1 x2 x3 t_thrown t_depth t_noon t_later t_walkers t_stumbled t_restMany t_restFirst t_page t_trial t_gains t_kind t_beat = some (r_, o_t_thrown, o_t_stumbled, o_t_restMany, o_t_restFirst, o_t_trial, o_t_gains)) : Met l yX8_rests wsX8_rests rm_X8_rests (va_Pc [.ref q_t, .int x1, .int x2, .int x3] (PU (dC, dI) cI cZ [(q_t, .inr (8, [.int t_thrown, .ref q_t_text, .int t_textSize, .int t_place, .int t_depth, .int t_noon, .int t_later, .int t_walkers, .ref q_t_beat, .ref q_t_kind, .ref q_t_readSnow, .int t_readWalkers, .ref q_t_readWalker, .ref q_t_page, .ref q_t_trial, .ref q_t_book, .int t_acts, .ref q_t_kept, .ref q_t_isKept, .int t_marks, .ref q_t_markStep, .ref q_t_markTread, .long t_seed, .int t_stumbled, .ref q_t_order, .int t_lineMany, .int t_lineOrder, .int t_whoseMany, .int t_whoseFirst, .int t_restMany, .int t_restFirst, .ref q_t_gains, .ref q_t_value])), (q_t_page, .inl (cI, 17, .inl t_page)), (q_t_trial, .inl (cI, 17, .inl t_trial)), (q_t_gains, .inl (cI, 8, .inl t_gains)), (q_t_kind, .inl (cI, 5, .inl t_kind)), (q_t_beat, .inl (cI, 5, .inl t_beat))] sz)) (va_Qi (fun (r : Int32) (_ : Unit) => r = r_) (fun _ t => va_P (dC, dI) vwCl [(q_t, .inr (8, [.int o_t_thrown, .ref q_t_text, .int t_textSize, .int t_place, .int t_depth, .int t_noon, .int t_later, .int t_walkers, .ref q_t_beat, .ref q_t_kind, .ref q_t_readSnow, .int t_readWalkers, .ref q_t_readWalker, .ref q_t_page, .ref q_t_trial, .ref q_t_book, .int t_acts, .ref q_t_kept, .ref q_t_isKept, .int t_marks, .ref q_t_markStep, .ref q_t_markTread, .long t_seed, .int o_t_stumbled, .ref q_t_order, .int t_lineMany, .int t_lineOrder, .int t_whoseMany, .int t_whoseFirst, .int o_t_restMany, .int o_t_restFirst, .ref q_t_gains, .ref q_t_value])), (q_t_page, .inl (cI, 17, .inl t_page)), (q_t_trial, .inl (cI, 17, .inl o_t_trial)), (q_t_gains, .inl (cI, 8, .inl o_t_gains)), (q_t_kind, .inl (cI, 5, .inl t_kind)), (q_t_beat, .inl (cI, 5, .inl t_beat))] t.heap) (va_A [(q_t, .inr (8, [.int t_thrown, .ref q_t_text, .int t_textSize, .int t_place, .int t_depth, .int t_noon, .int t_later, .int t_walkers, .ref q_t_beat, .ref q_t_kind, .ref q_t_readSnow, .int t_readWalkers, .ref q_t_readWalker, .ref q_t_page, .ref q_t_trial, .ref q_t_book, .int t_acts, .ref q_t_kept, .ref q_t_isKept, .int t_marks, .ref q_t_markStep, .ref q_t_markTread, .long t_seed, .int t_stumbled, .ref q_t_order, .int t_lineMany, .int t_lineOrder, .int t_whoseMany, .int t_whoseFirst, .int t_restMany, .int t_restFirst, .ref q_t_gains, .ref q_t_value])), (q_t_page, .inl (cI, 17, .inl t_page)), (q_t_trial, .inl (cI, 17, .inl t_trial)), (q_t_gains, .inl (cI, 8, .inl t_gains)), (q_t_kind, .inl (cI, 5, .inl t_kind)), (q_t_beat, .inl (cI, 5, .inl t_beat))] sz)) 0 0 (va_A [(q_t, .inr (8, [.int t_thrown, .ref q_t_text, .int t_textSize, .int t_place, .int t_depth, .int t_noon, .int t_later, .int t_walkers, .ref q_t_beat, .ref q_t_kind, .ref q_t_readSnow, .int t_readWalkers, .ref q_t_readWalker, .ref q_t_page, .ref q_t_trial, .ref q_t_book, .int t_acts, .ref q_t_kept, .ref q_t_isKept, .int t_marks, .ref q_t_markStep, .ref q_t_markTread, .long t_seed, .int t_stumbled, .ref q_t_order, .int t_lineMany, .int t_lineOrder, .int t_whoseMany, .int t_whoseFirst, .int t_restMany, .int t_restFirst, .ref q_t_gains, .ref q_t_value])), (q_t_page, .inl (cI, 17, .inl t_page)), (q_t_trial, .inl (cI, 17, .inl t_trial)), (q_t_gains, .inl (cI, 8, .inl t_gains)), (q_t_kind, .inl (cI, 5, .inl t_kind)), (q_t_beat, .inl (cI, 5, .inl t_beat))] sz) := by
  refine MetI (cc := cX8_rests) (maxL := 6) (by decide) rfl (Nat.le_of_ble_eq_true rfl) (fun _ h => h) ?_
  intro p e s m args below meth c A Q ls hx CF hK hA hD hP hS hl hB hAe hsz hret
  have hb := CF.2.1
  have hml := CF.2.2.1
  have hown := CF.2.2.2.1
  have hts := CF.2.2.2.2
  have hD0 := hD
  replace hl : lv_has ls 6 [(0, .ref q_t), (1, .int x1), (2, .int x2), (3, .int x3)] := hl
  have hinX8 : ∀ w ∈ wsX80, w ∈ wsX8_rests := fun _ h => List.mem_cons_of_mem _ (List.mem_append_right _ h)
  have w_0 := hts (.fieldLink RX8 234 "PassInStepModel" "restMany" "I") (by decide +kernel)
  have w_1 := hts (.fieldLink RX8 237 "PassInStepModel" "restFirst" "I") (by decide +kernel)
  have w_2 := hts (.fieldLink RX8 57 "PassInStepModel" "gains" "[I") (by decide +kernel)
  have w_3 := hts (.fieldLink RX8 63 "PassInStepModel" "thrown" "I") (by decide +kernel)
  have w_4 := hts (.fieldLink RX8 32 "PassInStepModel" "page" "[I") (by decide +kernel)
  have h_109 : ∀ (x3 : Int32) (t_thrown : Int32) (t_stumbled : Int32) (t_trial : Nat → Int32) (t_gains : Nat → Int32) (fu109 : Nat) (x4 : Int32) (t_restMany : Int32) (t_restFirst : Int32) (H : Heap) (locs : List Loc) (ls : Array Slot), va_P (dC, dI) vwCl [(q_t, .inr (8, [.int t_thrown, .ref q_t_text, .int t_textSize, .int t_place, .int t_depth, .int t_noon, .int t_later, .int t_walkers, .ref q_t_beat, .ref q_t_kind, .ref q_t_readSnow, .int t_readWalkers, .ref q_t_readWalker, .ref q_t_page, .ref q_t_trial, .ref q_t_book, .int t_acts, .ref q_t_kept, .ref q_t_isKept, .int t_marks, .ref q_t_markStep, .ref q_t_markTread, .long t_seed, .int t_stumbled, .ref q_t_order, .int t_lineMany, .int t_lineOrder, .int t_whoseMany, .int t_whoseFirst, .int t_restMany, .int t_restFirst, .ref q_t_gains, .ref q_t_value])), (q_t_page, .inl (cI, 17, .inl t_page)), (q_t_trial, .inl (cI, 17, .inl t_trial)), (q_t_gains, .inl (cI, 8, .inl t_gains)), (q_t_kind, .inl (cI, 5, .inl t_kind)), (q_t_beat, .inl (cI, 5, .inl t_beat))] H → va_S A s.heap H locs → lv_has ls 6 [(0, .ref q_t), (3, .int x3), (4, .int x4)] → L_X8_rests_109 x3 t_thrown t_stumbled t_trial t_gains fu109 x4 t_restMany t_restFirst = some (r_, o_t_thrown, o_t_stumbled, o_t_restMany, o_t_restFirst, o_t_trial, o_t_gains) → W p l e rm_X8_rests s m args below meth c H locs 0 0 Q (F0 m 109 ls []) := by
    intro x3 t_thrown t_stumbled t_trial t_gains fu109
    induction fu109 with
    | zero =>
      intro x4 t_restMany t_restFirst H locs ls hP hS hl hf
      rw [L_X8_rests_109] at hf
      cases hf
    | succ fu109 ih109 =>
      have h_222 : ∀ (x4 : Int32) (s0 : Int32) (s1 : Int32) (t_restMany : Int32) (t_restFirst : Int32) (H : Heap) (locs : List Loc) (ls : Array Slot), va_P (dC, dI) vwCl [(q_t, .inr (8, [.int t_thrown, .ref q_t_text, .int t_textSize, .int t_place, .int t_depth, .int t_noon, .int t_later, .int t_walkers, .ref q_t_beat, .ref q_t_kind, .ref q_t_readSnow, .int t_readWalkers, .ref q_t_readWalker, .ref q_t_page, .ref q_t_trial, .ref q_t_book, .int t_acts, .ref q_t_kept, .ref q_t_isKept, .int t_marks, .ref q_t_markStep, .ref q_t_markTread, .long t_seed, .int t_stumbled, .ref q_t_order, .int t_lineMany, .int t_lineOrder, .int t_whoseMany, .int t_whoseFirst, .int t_restMany, .int t_restFirst, .ref q_t_gains, .ref q_t_value])), (q_t_page, .inl (cI, 17, .inl t_page)), (q_t_trial, .inl (cI, 17, .inl t_trial)), (q_t_gains, .inl (cI, 8, .inl t_gains)), (q_t_kind, .inl (cI, 5, .inl t_kind)), (q_t_beat, .inl (cI, 5, .inl t_beat))] H → va_S A s.heap H locs → lv_has ls 6 [(0, .ref q_t), (3, .int x3), (4, .int x4)] → J_X8_rests_222 (L_X8_rests_109 x3 t_thrown t_stumbled t_trial t_gains fu109) x4 s0 s1 t_restFirst = some (r_, o_t_thrown, o_t_stumbled, o_t_restMany, o_t_restFirst, o_t_trial, o_t_gains) → W p l e rm_X8_rests s m args below meth c H locs 0 0 Q (F0 m 222 ls [.int s0, .int s1, .ref q_t]) := by
        intro x4 s0 s1 t_restMany t_restFirst H locs ls hP hS hl hf
        have hD : va_D A [(q_t, .inr (8, [.int t_thrown, .ref q_t_text, .int t_textSize, .int t_place, .int t_depth, .int t_noon, .int t_later, .int t_walkers, .ref q_t_beat, .ref q_t_kind, .ref q_t_readSnow, .int t_readWalkers, .ref q_t_readWalker, .ref q_t_page, .ref q_t_trial, .ref q_t_book, .int t_acts, .ref q_t_kept, .ref q_t_isKept, .int t_marks, .ref q_t_markStep, .ref q_t_markTread, .long t_seed, .int t_stumbled, .ref q_t_order, .int t_lineMany, .int t_lineOrder, .int t_whoseMany, .int t_whoseFirst, .int t_restMany, .int t_restFirst, .ref q_t_gains, .ref q_t_value])), (q_t_page, .inl (cI, 17, .inl t_page)), (q_t_trial, .inl (cI, 17, .inl t_trial)), (q_t_gains, .inl (cI, 8, .inl t_gains)), (q_t_kind, .inl (cI, 5, .inl t_kind)), (q_t_beat, .inl (cI, 5, .inl t_beat))] := wd hD0 rfl
        rw [J_X8_rests_222] at hf
        refine lv_iadd hx hb dX8_rests_222 ?_
        refine va_put (D := (dC, dI)) (ci := 8) (v := .int (s1 + s0)) (ty := .int) (C := RX8) (T := TX8) (N := 33) hx hb hts hinX8 tyX8 tyX8_ok nmX8 hown hK.1 hP hD hS 0 rfl rfl 29 (by decide) w_0 (fun _ h9 => h9) rfl (by decide +kernel) rfl rfl (Nat.le_of_ble_eq_true rfl) dX8_rests_223 (fun H locs hP hD hS => ?_)
        replace hP : va_P (dC, dI) vwCl [(q_t, .inr (8, [.int t_thrown, .ref q_t_text, .int t_textSize, .int t_place, .int t_depth, .int t_noon, .int t_later, .int t_walkers, .ref q_t_beat, .ref q_t_kind, .ref q_t_readSnow, .int t_readWalkers, .ref q_t_readWalker, .ref q_t_page, .ref q_t_trial, .ref q_t_book, .int t_acts, .ref q_t_kept, .ref q_t_isKept, .int t_marks, .ref q_t_markStep, .ref q_t_markTread, .long t_seed, .int t_stumbled, .ref q_t_order, .int t_lineMany, .int t_lineOrder, .int t_whoseMany, .int t_whoseFirst, .int (s1 + s0), .int t_restFirst, .ref q_t_gains, .ref q_t_value])), (q_t_page, .inl (cI, 17, .inl t_page)), (q_t_trial, .inl (cI, 17, .inl t_trial)), (q_t_gains, .inl (cI, 8, .inl t_gains)), (q_t_kind, .inl (cI, 5, .inl t_kind)), (q_t_beat, .inl (cI, 5, .inl t_beat))] H := hP
        replace hD : va_D A [(q_t, .inr (8, [.int t_thrown, .ref q_t_text, .int t_textSize, .int t_place, .int t_depth, .int t_noon, .int t_later, .int t_walkers, .ref q_t_beat, .ref q_t_kind, .ref q_t_readSnow, .int t_readWalkers, .ref q_t_readWalker, .ref q_t_page, .ref q_t_trial, .ref q_t_book, .int t_acts, .ref q_t_kept, .ref q_t_isKept, .int t_marks, .ref q_t_markStep, .ref q_t_markTread, .long t_seed, .int t_stumbled, .ref q_t_order, .int t_lineMany, .int t_lineOrder, .int t_whoseMany, .int t_whoseFirst, .int (s1 + s0), .int t_restFirst, .ref q_t_gains, .ref q_t_value])), (q_t_page, .inl (cI, 17, .inl t_page)), (q_t_trial, .inl (cI, 17, .inl t_trial)), (q_t_gains, .inl (cI, 8, .inl t_gains)), (q_t_kind, .inl (cI, 5, .inl t_kind)), (q_t_beat, .inl (cI, 5, .inl t_beat))] := hD
        refine lv_iinc (v := (x4 + 1)) (lv' := [(4, .int (x4 + 1)), (0, .ref q_t), (3, .int x3)]) hx hb dX8_rests_226 hl (k := 2) rfl rfl (by decide) rfl (fun ls hl => ?_)
        refine lv_goto (tgt := 109) hx hb dX8_rests_229 (by decide) ?_
        exact ih109 (x4 + 1) (s1 + s0) t_restFirst _ _ _ hP hS (lv_sub hl [1, 2, 0] rfl) hf
      have h_204 : ∀ (x4 : Int32) (x5 : Int32) (s0 : Int32) (t_restMany : Int32) (t_restFirst : Int32) (H : Heap) (locs : List Loc) (ls : Array Slot), va_P (dC, dI) vwCl [(q_t, .inr (8, [.int t_thrown, .ref q_t_text, .int t_textSize, .int t_place, .int t_depth, .int t_noon, .int t_later, .int t_walkers, .ref q_t_beat, .ref q_t_kind, .ref q_t_readSnow, .int t_readWalkers, .ref q_t_readWalker, .ref q_t_page, .ref q_t_trial, .ref q_t_book, .int t_acts, .ref q_t_kept, .ref q_t_isKept, .int t_marks, .ref q_t_markStep, .ref q_t_markTread, .long t_seed, .int t_stumbled, .ref q_t_order, .int t_lineMany, .int t_lineOrder, .int t_whoseMany, .int t_whoseFirst, .int t_restMany, .int t_restFirst, .ref q_t_gains, .ref q_t_value])), (q_t_page, .inl (cI, 17, .inl t_page)), (q_t_trial, .inl (cI, 17, .inl t_trial)), (q_t_gains, .inl (cI, 8, .inl t_gains)), (q_t_kind, .inl (cI, 5, .inl t_kind)), (q_t_beat, .inl (cI, 5, .inl t_beat))] H → va_S A s.heap H locs → lv_has ls 6 [(0, .ref q_t), (3, .int x3), (4, .int x4), (5, .int x5)] → J_X8_rests_204 (L_X8_rests_109 x3 t_thrown t_stumbled t_trial t_gains fu109) x4 x5 s0 t_restMany = some (r_, o_t_thrown, o_t_stumbled, o_t_restMany, o_t_restFirst, o_t_trial, o_t_gains) → W p l e rm_X8_rests s m args below meth c H locs 0 0 Q (F0 m 204 ls [.int s0, .ref q_t]) := by
        intro x4 x5 s0 t_restMany t_restFirst H locs ls hP hS hl hf
        have hD : va_D A [(q_t, .inr (8, [.int t_thrown, .ref q_t_text, .int t_textSize, .int t_place, .int t_depth, .int t_noon, .int t_later, .int t_walkers, .ref q_t_beat, .ref q_t_kind, .ref q_t_readSnow, .int t_readWalkers, .ref q_t_readWalker, .ref q_t_page, .ref q_t_trial, .ref q_t_book, .int t_acts, .ref q_t_kept, .ref q_t_isKept, .int t_marks, .ref q_t_markStep, .ref q_t_markTread, .long t_seed, .int t_stumbled, .ref q_t_order, .int t_lineMany, .int t_lineOrder, .int t_whoseMany, .int t_whoseFirst, .int t_restMany, .int t_restFirst, .ref q_t_gains, .ref q_t_value])), (q_t_page, .inl (cI, 17, .inl t_page)), (q_t_trial, .inl (cI, 17, .inl t_trial)), (q_t_gains, .inl (cI, 8, .inl t_gains)), (q_t_kind, .inl (cI, 5, .inl t_kind)), (q_t_beat, .inl (cI, 5, .inl t_beat))] := wd hD0 rfl
        rw [J_X8_rests_204] at hf
        refine va_put (D := (dC, dI)) (ci := 8) (v := .int s0) (ty := .int) (C := RX8) (T := TX8) (N := 33) hx hb hts hinX8 tyX8 tyX8_ok nmX8 hown hK.1 hP hD hS 0 rfl rfl 30 (by decide) w_1 (fun _ h9 => h9) rfl (by decide +kernel) rfl rfl (Nat.le_of_ble_eq_true rfl) dX8_rests_204 (fun H locs hP hD hS => ?_)
        replace hP : va_P (dC, dI) vwCl [(q_t, .inr (8, [.int t_thrown, .ref q_t_text, .int t_textSize, .int t_place, .int t_depth, .int t_noon, .int t_later, .int t_walkers, .ref q_t_beat, .ref q_t_kind, .ref q_t_readSnow, .int t_readWalkers, .ref q_t_readWalker, .ref q_t_page, .ref q_t_trial, .ref q_t_book, .int t_acts, .ref q_t_kept, .ref q_t_isKept, .int t_marks, .ref q_t_markStep, .ref q_t_markTread, .long t_seed, .int t_stumbled, .ref q_t_order, .int t_lineMany, .int t_lineOrder, .int t_whoseMany, .int t_whoseFirst, .int t_restMany, .int s0, .ref q_t_gains, .ref q_t_value])), (q_t_page, .inl (cI, 17, .inl t_page)), (q_t_trial, .inl (cI, 17, .inl t_trial)), (q_t_gains, .inl (cI, 8, .inl t_gains)), (q_t_kind, .inl (cI, 5, .inl t_kind)), (q_t_beat, .inl (cI, 5, .inl t_beat))] H := hP
        replace hD : va_D A [(q_t, .inr (8, [.int t_thrown, .ref q_t_text, .int t_textSize, .int t_place, .int t_depth, .int t_noon, .int t_later, .int t_walkers, .ref q_t_beat, .ref q_t_kind, .ref q_t_readSnow, .int t_readWalkers, .ref q_t_readWalker, .ref q_t_page, .ref q_t_trial, .ref q_t_book, .int t_acts, .ref q_t_kept, .ref q_t_isKept, .int t_marks, .ref q_t_markStep, .ref q_t_markTread, .long t_seed, .int t_stumbled, .ref q_t_order, .int t_lineMany, .int t_lineOrder, .int t_whoseMany, .int t_whoseFirst, .int t_restMany, .int s0, .ref q_t_gains, .ref q_t_value])), (q_t_page, .inl (cI, 17, .inl t_page)), (q_t_trial, .inl (cI, 17, .inl t_trial)), (q_t_gains, .inl (cI, 8, .inl t_gains)), (q_t_kind, .inl (cI, 5, .inl t_kind)), (q_t_beat, .inl (cI, 5, .inl t_beat))] := hD
        refine lv_aload_n hx hb dX8_rests_207 rfl (lv_at hl 0 rfl) ?_
        refine lv_dup hx hb dX8_rests_208 rfl ?_
        refine va_get (D := (dC, dI)) (ci := 8) (v := .int t_restMany) (C := RX8) (T := TX8) (N := 33) hx hb hts hinX8 hown hK.1 hP 0 rfl rfl 29 (by decide) w_0 (fun _ h9 => h9) rfl dX8_rests_209 ?_
        refine lv_iload hx hb dX8_rests_212 (lv_at hl 3 rfl) ?_
        refine lv_if_eq (tgt := 221) hx hb dX8_rests_214 (by decide) (fun hc => ?_) (fun hc => ?_)
        · replace hf := ip hc hf
          refine lv_iconst (v := 0) hx hb dX8_rests_221 (by decide) ?_
          exact h_222 x4 0 t_restMany t_restMany s0 _ _ _ hP hS (lv_sub hl [0, 1, 2] rfl) hf
        · replace hf := iq hc hf
          refine lv_iconst (v := 1) hx hb dX8_rests_217 (by decide) ?_
          refine lv_goto (tgt := 222) hx hb dX8_rests_218 (by decide) ?_
          exact h_222 x4 1 t_restMany t_restMany s0 _ _ _ hP hS (lv_sub hl [0, 1, 2] rfl) hf
      have h_200 : ∀ (x4 : Int32) (x5 : Int32) (t_restMany : Int32) (t_restFirst : Int32) (H : Heap) (locs : List Loc) (ls : Array Slot), va_P (dC, dI) vwCl [(q_t, .inr (8, [.int t_thrown, .ref q_t_text, .int t_textSize, .int t_place, .int t_depth, .int t_noon, .int t_later, .int t_walkers, .ref q_t_beat, .ref q_t_kind, .ref q_t_readSnow, .int t_readWalkers, .ref q_t_readWalker, .ref q_t_page, .ref q_t_trial, .ref q_t_book, .int t_acts, .ref q_t_kept, .ref q_t_isKept, .int t_marks, .ref q_t_markStep, .ref q_t_markTread, .long t_seed, .int t_stumbled, .ref q_t_order, .int t_lineMany, .int t_lineOrder, .int t_whoseMany, .int t_whoseFirst, .int t_restMany, .int t_restFirst, .ref q_t_gains, .ref q_t_value])), (q_t_page, .inl (cI, 17, .inl t_page)), (q_t_trial, .inl (cI, 17, .inl t_trial)), (q_t_gains, .inl (cI, 8, .inl t_gains)), (q_t_kind, .inl (cI, 5, .inl t_kind)), (q_t_beat, .inl (cI, 5, .inl t_beat))] H → va_S A s.heap H locs → lv_has ls 6 [(0, .ref q_t), (3, .int x3), (4, .int x4), (5, .int x5)] → J_X8_rests_200 (L_X8_rests_109 x3 t_thrown t_stumbled t_trial t_gains fu109) x4 x5 t_restMany t_restFirst = some (r_, o_t_thrown, o_t_stumbled, o_t_restMany, o_t_restFirst, o_t_trial, o_t_gains) → W p l e rm_X8_rests s m args below meth c H locs 0 0 Q (F0 m 200 ls [.ref q_t]) := by
        intro x4 x5 t_restMany t_restFirst H locs ls hP hS hl hf
        have hD : va_D A [(q_t, .inr (8, [.int t_thrown, .ref q_t_text, .int t_textSize, .int t_place, .int t_depth, .int t_noon, .int t_later, .int t_walkers, .ref q_t_beat, .ref q_t_kind, .ref q_t_readSnow, .int t_readWalkers, .ref q_t_readWalker, .ref q_t_page, .ref q_t_trial, .ref q_t_book, .int t_acts, .ref q_t_kept, .ref q_t_isKept, .int t_marks, .ref q_t_markStep, .ref q_t_markTread, .long t_seed, .int t_stumbled, .ref q_t_order, .int t_lineMany, .int t_lineOrder, .int t_whoseMany, .int t_whoseFirst, .int t_restMany, .int t_restFirst, .ref q_t_gains, .ref q_t_value])), (q_t_page, .inl (cI, 17, .inl t_page)), (q_t_trial, .inl (cI, 17, .inl t_trial)), (q_t_gains, .inl (cI, 8, .inl t_gains)), (q_t_kind, .inl (cI, 5, .inl t_kind)), (q_t_beat, .inl (cI, 5, .inl t_beat))] := wd hD0 rfl
        rw [J_X8_rests_200] at hf
        refine lv_aload_n hx hb dX8_rests_200 rfl (lv_at hl 0 rfl) ?_
        refine va_get (D := (dC, dI)) (ci := 8) (v := .int t_restFirst) (C := RX8) (T := TX8) (N := 33) hx hb hts hinX8 hown hK.1 hP 0 rfl rfl 30 (by decide) w_1 (fun _ h9 => h9) rfl dX8_rests_201 ?_
        exact h_204 x4 x5 t_restFirst t_restMany t_restFirst _ _ _ hP hS (lv_sub hl [0, 1, 2, 3] rfl) hf
      have h_170 : ∀ (x4 : Int32) (s0 : Int32) (t_restMany : Int32) (t_restFirst : Int32) (H : Heap) (locs : List Loc) (ls : Array Slot), va_P (dC, dI) vwCl [(q_t, .inr (8, [.int t_thrown, .ref q_t_text, .int t_textSize, .int t_place, .int t_depth, .int t_noon, .int t_later, .int t_walkers, .ref q_t_beat, .ref q_t_kind, .ref q_t_readSnow, .int t_readWalkers, .ref q_t_readWalker, .ref q_t_page, .ref q_t_trial, .ref q_t_book, .int t_acts, .ref q_t_kept, .ref q_t_isKept, .int t_marks, .ref q_t_markStep, .ref q_t_markTread, .long t_seed, .int t_stumbled, .ref q_t_order, .int t_lineMany, .int t_lineOrder, .int t_whoseMany, .int t_whoseFirst, .int t_restMany, .int t_restFirst, .ref q_t_gains, .ref q_t_value])), (q_t_page, .inl (cI, 17, .inl t_page)), (q_t_trial, .inl (cI, 17, .inl t_trial)), (q_t_gains, .inl (cI, 8, .inl t_gains)), (q_t_kind, .inl (cI, 5, .inl t_kind)), (q_t_beat, .inl (cI, 5, .inl t_beat))] H → va_S A s.heap H locs → lv_has ls 6 [(0, .ref q_t), (3, .int x3), (4, .int x4)] → J_X8_rests_170 (L_X8_rests_109 x3 t_thrown t_stumbled t_trial t_gains fu109) x4 s0 t_restMany t_restFirst = some (r_, o_t_thrown, o_t_stumbled, o_t_restMany, o_t_restFirst, o_t_trial, o_t_gains) → W p l e rm_X8_rests s m args below meth c H locs 0 0 Q (F0 m 170 ls [.int s0]) := by
        intro x4 s0 t_restMany t_restFirst H locs ls hP hS hl hf
        have hD : va_D A [(q_t, .inr (8, [.int t_thrown, .ref q_t_text, .int t_textSize, .int t_place, .int t_depth, .int t_noon, .int t_later, .int t_walkers, .ref q_t_beat, .ref q_t_kind, .ref q_t_readSnow, .int t_readWalkers, .ref q_t_readWalker, .ref q_t_page, .ref q_t_trial, .ref q_t_book, .int t_acts, .ref q_t_kept, .ref q_t_isKept, .int t_marks, .ref q_t_markStep, .ref q_t_markTread, .long t_seed, .int t_stumbled, .ref q_t_order, .int t_lineMany, .int t_lineOrder, .int t_whoseMany, .int t_whoseFirst, .int t_restMany, .int t_restFirst, .ref q_t_gains, .ref q_t_value])), (q_t_page, .inl (cI, 17, .inl t_page)), (q_t_trial, .inl (cI, 17, .inl t_trial)), (q_t_gains, .inl (cI, 8, .inl t_gains)), (q_t_kind, .inl (cI, 5, .inl t_kind)), (q_t_beat, .inl (cI, 5, .inl t_beat))] := wd hD0 rfl
        rw [J_X8_rests_170] at hf
        refine lv_istore (lv' := [(5, .int s0), (0, .ref q_t), (3, .int x3), (4, .int x4)]) hx hb dX8_rests_170 hl (by decide) rfl (fun ls hl => ?_)
        refine lv_aload_n hx hb dX8_rests_172 rfl (lv_at hl 1 rfl) ?_
        refine lv_iload hx hb dX8_rests_173 (lv_at hl 0 rfl) ?_
        refine lv_if_eq (tgt := 200) hx hb dX8_rests_175 (by decide) (fun hc => ?_) (fun hc => ?_)
        · replace hf := ip hc hf
          exact h_200 x4 s0 t_restMany t_restFirst _ _ _ hP hS (lv_sub hl [1, 2, 3, 0] rfl) hf
        · replace hf := iq hc hf
          refine lv_aload_n hx hb dX8_rests_178 rfl (lv_at hl 1 rfl) ?_
          refine va_get (D := (dC, dI)) (ci := 8) (v := .int t_restMany) (C := RX8) (T := TX8) (N := 33) hx hb hts hinX8 hown hK.1 hP 0 rfl rfl 29 (by decide) w_0 (fun _ h9 => h9) rfl dX8_rests_179 ?_
          refine lv_if_ne (tgt := 200) hx hb dX8_rests_182 (by decide) (fun hc => ?_) (fun hc => ?_)
          · replace hf := iq hc hf
            exact h_200 x4 s0 t_restMany t_restFirst _ _ _ hP hS (lv_sub hl [1, 2, 3, 0] rfl) hf
          · replace hf := ip hc hf
            refine lv_bipush (v := 10) hx hb dX8_rests_185 (by decide) ?_
            refine lv_iload hx hb dX8_rests_187 (lv_at hl 3 rfl) ?_
            refine lv_iconst (v := 2) hx hb dX8_rests_189 (by decide) ?_
            refine lv_idiv hx hb dX8_rests_190 (by decide) ?_
            refine lv_imul hx hb dX8_rests_191 ?_
            refine lv_iload hx hb dX8_rests_192 (lv_at hl 3 rfl) ?_
            refine lv_iconst (v := 2) hx hb dX8_rests_194 (by decide) ?_
            refine lv_irem hx hb dX8_rests_195 (by decide) ?_
            refine lv_iadd hx hb dX8_rests_196 ?_
            refine lv_goto (tgt := 204) hx hb dX8_rests_197 (by decide) ?_
            exact h_204 x4 s0 ((10 * (x4 / 2)) + (x4 - x4 / 2 * 2)) t_restMany t_restFirst _ _ _ hP hS (lv_sub hl [1, 2, 3, 0] rfl) hf
      have h_169 : ∀ (x4 : Int32) (t_restMany : Int32) (t_restFirst : Int32) (H : Heap) (locs : List Loc) (ls : Array Slot), va_P (dC, dI) vwCl [(q_t, .inr (8, [.int t_thrown, .ref q_t_text, .int t_textSize, .int t_place, .int t_depth, .int t_noon, .int t_later, .int t_walkers, .ref q_t_beat, .ref q_t_kind, .ref q_t_readSnow, .int t_readWalkers, .ref q_t_readWalker, .ref q_t_page, .ref q_t_trial, .ref q_t_book, .int t_acts, .ref q_t_kept, .ref q_t_isKept, .int t_marks, .ref q_t_markStep, .ref q_t_markTread, .long t_seed, .int t_stumbled, .ref q_t_order, .int t_lineMany, .int t_lineOrder, .int t_whoseMany, .int t_whoseFirst, .int t_restMany, .int t_restFirst, .ref q_t_gains, .ref q_t_value])), (q_t_page, .inl (cI, 17, .inl t_page)), (q_t_trial, .inl (cI, 17, .inl t_trial)), (q_t_gains, .inl (cI, 8, .inl t_gains)), (q_t_kind, .inl (cI, 5, .inl t_kind)), (q_t_beat, .inl (cI, 5, .inl t_beat))] H → va_S A s.heap H locs → lv_has ls 6 [(0, .ref q_t), (3, .int x3), (4, .int x4)] → J_X8_rests_169 (L_X8_rests_109 x3 t_thrown t_stumbled t_trial t_gains fu109) x4 t_restMany t_restFirst = some (r_, o_t_thrown, o_t_stumbled, o_t_restMany, o_t_restFirst, o_t_trial, o_t_gains) → W p l e rm_X8_rests s m args below meth c H locs 0 0 Q (F0 m 169 ls []) := by
        intro x4 t_restMany t_restFirst H locs ls hP hS hl hf
        have hD : va_D A [(q_t, .inr (8, [.int t_thrown, .ref q_t_text, .int t_textSize, .int t_place, .int t_depth, .int t_noon, .int t_later, .int t_walkers, .ref q_t_beat, .ref q_t_kind, .ref q_t_readSnow, .int t_readWalkers, .ref q_t_readWalker, .ref q_t_page, .ref q_t_trial, .ref q_t_book, .int t_acts, .ref q_t_kept, .ref q_t_isKept, .int t_marks, .ref q_t_markStep, .ref q_t_markTread, .long t_seed, .int t_stumbled, .ref q_t_order, .int t_lineMany, .int t_lineOrder, .int t_whoseMany, .int t_whoseFirst, .int t_restMany, .int t_restFirst, .ref q_t_gains, .ref q_t_value])), (q_t_page, .inl (cI, 17, .inl t_page)), (q_t_trial, .inl (cI, 17, .inl t_trial)), (q_t_gains, .inl (cI, 8, .inl t_gains)), (q_t_kind, .inl (cI, 5, .inl t_kind)), (q_t_beat, .inl (cI, 5, .inl t_beat))] := wd hD0 rfl
        rw [J_X8_rests_169] at hf
        refine lv_iconst (v := 0) hx hb dX8_rests_169 (by decide) ?_
        exact h_170 x4 0 t_restMany t_restFirst _ _ _ hP hS (lv_sub hl [0, 1, 2] rfl) hf
      intro x4 t_restMany t_restFirst H locs ls hP hS hl hf
      have hD : va_D A [(q_t, .inr (8, [.int t_thrown, .ref q_t_text, .int t_textSize, .int t_place, .int t_depth, .int t_noon, .int t_later, .int t_walkers, .ref q_t_beat, .ref q_t_kind, .ref q_t_readSnow, .int t_readWalkers, .ref q_t_readWalker, .ref q_t_page, .ref q_t_trial, .ref q_t_book, .int t_acts, .ref q_t_kept, .ref q_t_isKept, .int t_marks, .ref q_t_markStep, .ref q_t_markTread, .long t_seed, .int t_stumbled, .ref q_t_order, .int t_lineMany, .int t_lineOrder, .int t_whoseMany, .int t_whoseFirst, .int t_restMany, .int t_restFirst, .ref q_t_gains, .ref q_t_value])), (q_t_page, .inl (cI, 17, .inl t_page)), (q_t_trial, .inl (cI, 17, .inl t_trial)), (q_t_gains, .inl (cI, 8, .inl t_gains)), (q_t_kind, .inl (cI, 5, .inl t_kind)), (q_t_beat, .inl (cI, 5, .inl t_beat))] := wd hD0 rfl
      rw [L_X8_rests_109] at hf
      refine lv_iload hx hb dX8_rests_109 (lv_at hl 2 rfl) ?_
      refine lv_iconst (v := 4) hx hb dX8_rests_111 (by decide) ?_
      refine lv_icmp_ge (tgt := 232) hx hb dX8_rests_112 (by decide) (fun hc => ?_) (fun hc => ?_)
      · replace hf := ip hc hf
        refine lv_iload_n hx hb dX8_rests_232 rfl (lv_at hl 1 rfl) ?_
        refine lv_if_ne (tgt := 243) hx hb dX8_rests_233 (by decide) (fun hc => ?_) (fun hc => ?_)
        · replace hf := iq hc hf
          refine lv_aload_n hx hb dX8_rests_243 rfl (lv_at hl 0 rfl) ?_
          refine va_get (D := (dC, dI)) (ci := 8) (v := .int t_restFirst) (C := RX8) (T := TX8) (N := 33) hx hb hts hinX8 hown hK.1 hP 0 rfl rfl 30 (by decide) w_1 (fun _ h9 => h9) rfl dX8_rests_244 ?_
          obtain ⟨e0, hf⟩ := ij2 hf
          obtain ⟨e1, hf⟩ := ijc hf
          obtain ⟨e2, hf⟩ := ijc hf
          obtain ⟨e3, hf⟩ := ijc hf
          obtain ⟨e4, hf⟩ := ijc hf
          obtain ⟨e5, hf⟩ := ijc hf
          have e6 := hf
          refine W.eq (congrArg (fun z => F0 m 247 ls [.int z]) e0) ?_
          exact hret _ _ _ _ (by rw [← e1, ← e2, ← e3, ← e4, ← e5, ← e6]; exact hP) hS dX8_rests_247
        · replace hf := ip hc hf
          refine lv_aload_n hx hb dX8_rests_236 rfl (lv_at hl 0 rfl) ?_
          refine va_get (D := (dC, dI)) (ci := 8) (v := .int t_restMany) (C := RX8) (T := TX8) (N := 33) hx hb hts hinX8 hown hK.1 hP 0 rfl rfl 29 (by decide) w_0 (fun _ h9 => h9) rfl dX8_rests_237 ?_
          refine lv_goto (tgt := 247) hx hb dX8_rests_240 (by decide) ?_
          obtain ⟨e0, hf⟩ := ij2 hf
          obtain ⟨e1, hf⟩ := ijc hf
          obtain ⟨e2, hf⟩ := ijc hf
          obtain ⟨e3, hf⟩ := ijc hf
          obtain ⟨e4, hf⟩ := ijc hf
          obtain ⟨e5, hf⟩ := ijc hf
          have e6 := hf
          refine W.eq (congrArg (fun z => F0 m 247 ls [.int z]) e0) ?_
          exact hret _ _ _ _ (by rw [← e1, ← e2, ← e3, ← e4, ← e5, ← e6]; exact hP) hS dX8_rests_247
      · replace hf := iq hc hf
        refine lv_aload_n hx hb dX8_rests_115 rfl (lv_at hl 0 rfl) ?_
        refine va_get (D := (dC, dI)) (ci := 8) (v := .ref q_t_gains) (C := RX8) (T := TX8) (N := 33) hx hb hts hinX8 hown hK.1 hP 0 rfl rfl 31 (by decide) w_2 (fun _ h9 => h9) rfl dX8_rests_116 ?_
        refine lv_iconst (v := 2) hx hb dX8_rests_119 (by decide) ?_
        refine lv_iload hx hb dX8_rests_120 (lv_at hl 2 rfl) ?_
        refine lv_iconst (v := 2) hx hb dX8_rests_122 (by decide) ?_
        refine lv_ixor hx hb dX8_rests_123 ?_
        refine lv_imul hx hb dX8_rests_124 ?_
        refine kald hx hb hK.1 hP 3 0 rfl rfl dX8_rests_125 hf (fun v1 hf => ?_)
        refine lv_aload_n hx hb dX8_rests_126 rfl (lv_at hl 0 rfl) ?_
        refine va_get (D := (dC, dI)) (ci := 8) (v := .ref q_t_gains) (C := RX8) (T := TX8) (N := 33) hx hb hts hinX8 hown hK.1 hP 0 rfl rfl 31 (by decide) w_2 (fun _ h9 => h9) rfl dX8_rests_127 ?_
        refine lv_iconst (v := 2) hx hb dX8_rests_130 (by decide) ?_
        refine lv_iload hx hb dX8_rests_131 (lv_at hl 2 rfl) ?_
        refine lv_imul hx hb dX8_rests_133 ?_
        refine kald hx hb hK.1 hP 3 0 rfl rfl dX8_rests_134 hf (fun v2 hf => ?_)
        refine lv_icmp_gt (tgt := 169) hx hb dX8_rests_135 (by decide) (fun hc => ?_) (fun hc => ?_)
        · replace hf := ip hc hf
          exact h_169 x4 t_restMany t_restFirst _ _ _ hP hS (lv_sub hl [0, 1, 2] rfl) hf
        · replace hf := iq hc hf
          refine lv_aload_n hx hb dX8_rests_138 rfl (lv_at hl 0 rfl) ?_
          refine va_get (D := (dC, dI)) (ci := 8) (v := .ref q_t_gains) (C := RX8) (T := TX8) (N := 33) hx hb hts hinX8 hown hK.1 hP 0 rfl rfl 31 (by decide) w_2 (fun _ h9 => h9) rfl dX8_rests_139 ?_
          refine lv_iconst (v := 2) hx hb dX8_rests_142 (by decide) ?_
          refine lv_iload hx hb dX8_rests_143 (lv_at hl 2 rfl) ?_
          refine lv_iconst (v := 1) hx hb dX8_rests_145 (by decide) ?_
          refine lv_ixor hx hb dX8_rests_146 ?_
          refine lv_imul hx hb dX8_rests_147 ?_
          refine lv_iconst (v := 1) hx hb dX8_rests_148 (by decide) ?_
          refine lv_iadd hx hb dX8_rests_149 ?_
          refine kald hx hb hK.1 hP 3 0 rfl rfl dX8_rests_150 hf (fun v3 hf => ?_)
          refine lv_aload_n hx hb dX8_rests_151 rfl (lv_at hl 0 rfl) ?_
          refine va_get (D := (dC, dI)) (ci := 8) (v := .ref q_t_gains) (C := RX8) (T := TX8) (N := 33) hx hb hts hinX8 hown hK.1 hP 0 rfl rfl 31 (by decide) w_2 (fun _ h9 => h9) rfl dX8_rests_152 ?_
          refine lv_iconst (v := 2) hx hb dX8_rests_155 (by decide) ?_
          refine lv_iload hx hb dX8_rests_156 (lv_at hl 2 rfl) ?_
          refine lv_imul hx hb dX8_rests_158 ?_
          refine lv_iconst (v := 1) hx hb dX8_rests_159 (by decide) ?_
          refine lv_iadd hx hb dX8_rests_160 ?_
          refine kald hx hb hK.1 hP 3 0 rfl rfl dX8_rests_161 hf (fun v4 hf => ?_)
          refine lv_icmp_gt (tgt := 169) hx hb dX8_rests_162 (by decide) (fun hc => ?_) (fun hc => ?_)
          · replace hf := ip hc hf
            exact h_169 x4 t_restMany t_restFirst _ _ _ hP hS (lv_sub hl [0, 1, 2] rfl) hf
          · replace hf := iq hc hf
            refine lv_iconst (v := 1) hx hb dX8_rests_165 (by decide) ?_
            refine lv_goto (tgt := 170) hx hb dX8_rests_166 (by decide) ?_
            exact h_170 x4 1 t_restMany t_restFirst _ _ _ hP hS (lv_sub hl [0, 1, 2] rfl) hf
  have h_75 : ∀ (x1 : Int32) (x2 : Int32) (x3 : Int32) (t_thrown : Int32) (t_restMany : Int32) (t_restFirst : Int32) (fu75 : Nat) (x4 : Int32) (t_stumbled : Int32) (t_trial : Nat → Int32) (t_gains : Nat → Int32) (H : Heap) (locs : List Loc) (ls : Array Slot), va_P (dC, dI) vwCl [(q_t, .inr (8, [.int t_thrown, .ref q_t_text, .int t_textSize, .int t_place, .int t_depth, .int t_noon, .int t_later, .int t_walkers, .ref q_t_beat, .ref q_t_kind, .ref q_t_readSnow, .int t_readWalkers, .ref q_t_readWalker, .ref q_t_page, .ref q_t_trial, .ref q_t_book, .int t_acts, .ref q_t_kept, .ref q_t_isKept, .int t_marks, .ref q_t_markStep, .ref q_t_markTread, .long t_seed, .int t_stumbled, .ref q_t_order, .int t_lineMany, .int t_lineOrder, .int t_whoseMany, .int t_whoseFirst, .int t_restMany, .int t_restFirst, .ref q_t_gains, .ref q_t_value])), (q_t_page, .inl (cI, 17, .inl t_page)), (q_t_trial, .inl (cI, 17, .inl t_trial)), (q_t_gains, .inl (cI, 8, .inl t_gains)), (q_t_kind, .inl (cI, 5, .inl t_kind)), (q_t_beat, .inl (cI, 5, .inl t_beat))] H → va_S A s.heap H locs → lv_has ls 6 [(0, .ref q_t), (1, .int x1), (2, .int x2), (3, .int x3), (4, .int x4)] → L_X8_rests_75 x1 x2 x3 t_thrown t_depth t_noon t_later t_walkers t_restMany t_restFirst t_page t_kind t_beat fu75 x4 t_stumbled t_trial t_gains = some (r_, o_t_thrown, o_t_stumbled, o_t_restMany, o_t_restFirst, o_t_trial, o_t_gains) → W p l e rm_X8_rests s m args below meth c H locs 0 0 Q (F0 m 75 ls []) := by
    intro x1 x2 x3 t_thrown t_restMany t_restFirst fu75
    induction fu75 with
    | zero =>
      intro x4 t_stumbled t_trial t_gains H locs ls hP hS hl hf
      rw [L_X8_rests_75] at hf
      cases hf
    | succ fu75 ih75 =>
      intro x4 t_stumbled t_trial t_gains H locs ls hP hS hl hf
      have hD : va_D A [(q_t, .inr (8, [.int t_thrown, .ref q_t_text, .int t_textSize, .int t_place, .int t_depth, .int t_noon, .int t_later, .int t_walkers, .ref q_t_beat, .ref q_t_kind, .ref q_t_readSnow, .int t_readWalkers, .ref q_t_readWalker, .ref q_t_page, .ref q_t_trial, .ref q_t_book, .int t_acts, .ref q_t_kept, .ref q_t_isKept, .int t_marks, .ref q_t_markStep, .ref q_t_markTread, .long t_seed, .int t_stumbled, .ref q_t_order, .int t_lineMany, .int t_lineOrder, .int t_whoseMany, .int t_whoseFirst, .int t_restMany, .int t_restFirst, .ref q_t_gains, .ref q_t_value])), (q_t_page, .inl (cI, 17, .inl t_page)), (q_t_trial, .inl (cI, 17, .inl t_trial)), (q_t_gains, .inl (cI, 8, .inl t_gains)), (q_t_kind, .inl (cI, 5, .inl t_kind)), (q_t_beat, .inl (cI, 5, .inl t_beat))] := wd hD0 rfl
      rw [L_X8_rests_75] at hf
      refine lv_iload hx hb dX8_rests_75 (lv_at hl 4 rfl) ?_
      refine lv_iconst (v := 4) hx hb dX8_rests_77 (by decide) ?_
      refine lv_icmp_ge (tgt := 95) hx hb dX8_rests_78 (by decide) (fun hc => ?_) (fun hc => ?_)
      · replace hf := ip hc hf
        refine lv_aload_n hx hb dX8_rests_95 rfl (lv_at hl 0 rfl) ?_
        refine lv_iconst (v := 0) hx hb dX8_rests_96 (by decide) ?_
        refine va_put (D := (dC, dI)) (ci := 8) (v := .int 0) (ty := .int) (C := RX8) (T := TX8) (N := 33) hx hb hts hinX8 tyX8 tyX8_ok nmX8 hown hK.1 hP hD hS 0 rfl rfl 29 (by decide) w_0 (fun _ h9 => h9) rfl (by decide +kernel) rfl rfl (Nat.le_of_ble_eq_true rfl) dX8_rests_97 (fun H locs hP hD hS => ?_)
        replace hP : va_P (dC, dI) vwCl [(q_t, .inr (8, [.int t_thrown, .ref q_t_text, .int t_textSize, .int t_place, .int t_depth, .int t_noon, .int t_later, .int t_walkers, .ref q_t_beat, .ref q_t_kind, .ref q_t_readSnow, .int t_readWalkers, .ref q_t_readWalker, .ref q_t_page, .ref q_t_trial, .ref q_t_book, .int t_acts, .ref q_t_kept, .ref q_t_isKept, .int t_marks, .ref q_t_markStep, .ref q_t_markTread, .long t_seed, .int t_stumbled, .ref q_t_order, .int t_lineMany, .int t_lineOrder, .int t_whoseMany, .int t_whoseFirst, .int 0, .int t_restFirst, .ref q_t_gains, .ref q_t_value])), (q_t_page, .inl (cI, 17, .inl t_page)), (q_t_trial, .inl (cI, 17, .inl t_trial)), (q_t_gains, .inl (cI, 8, .inl t_gains)), (q_t_kind, .inl (cI, 5, .inl t_kind)), (q_t_beat, .inl (cI, 5, .inl t_beat))] H := hP
        replace hD : va_D A [(q_t, .inr (8, [.int t_thrown, .ref q_t_text, .int t_textSize, .int t_place, .int t_depth, .int t_noon, .int t_later, .int t_walkers, .ref q_t_beat, .ref q_t_kind, .ref q_t_readSnow, .int t_readWalkers, .ref q_t_readWalker, .ref q_t_page, .ref q_t_trial, .ref q_t_book, .int t_acts, .ref q_t_kept, .ref q_t_isKept, .int t_marks, .ref q_t_markStep, .ref q_t_markTread, .long t_seed, .int t_stumbled, .ref q_t_order, .int t_lineMany, .int t_lineOrder, .int t_whoseMany, .int t_whoseFirst, .int 0, .int t_restFirst, .ref q_t_gains, .ref q_t_value])), (q_t_page, .inl (cI, 17, .inl t_page)), (q_t_trial, .inl (cI, 17, .inl t_trial)), (q_t_gains, .inl (cI, 8, .inl t_gains)), (q_t_kind, .inl (cI, 5, .inl t_kind)), (q_t_beat, .inl (cI, 5, .inl t_beat))] := hD
        refine lv_aload_n hx hb dX8_rests_100 rfl (lv_at hl 0 rfl) ?_
        refine lv_bipush (v := (-9)) hx hb dX8_rests_101 (by decide) ?_
        refine va_put (D := (dC, dI)) (ci := 8) (v := .int (-9)) (ty := .int) (C := RX8) (T := TX8) (N := 33) hx hb hts hinX8 tyX8 tyX8_ok nmX8 hown hK.1 hP hD hS 0 rfl rfl 30 (by decide) w_1 (fun _ h9 => h9) rfl (by decide +kernel) rfl rfl (Nat.le_of_ble_eq_true rfl) dX8_rests_103 (fun H locs hP hD hS => ?_)
        replace hP : va_P (dC, dI) vwCl [(q_t, .inr (8, [.int t_thrown, .ref q_t_text, .int t_textSize, .int t_place, .int t_depth, .int t_noon, .int t_later, .int t_walkers, .ref q_t_beat, .ref q_t_kind, .ref q_t_readSnow, .int t_readWalkers, .ref q_t_readWalker, .ref q_t_page, .ref q_t_trial, .ref q_t_book, .int t_acts, .ref q_t_kept, .ref q_t_isKept, .int t_marks, .ref q_t_markStep, .ref q_t_markTread, .long t_seed, .int t_stumbled, .ref q_t_order, .int t_lineMany, .int t_lineOrder, .int t_whoseMany, .int t_whoseFirst, .int 0, .int (-9), .ref q_t_gains, .ref q_t_value])), (q_t_page, .inl (cI, 17, .inl t_page)), (q_t_trial, .inl (cI, 17, .inl t_trial)), (q_t_gains, .inl (cI, 8, .inl t_gains)), (q_t_kind, .inl (cI, 5, .inl t_kind)), (q_t_beat, .inl (cI, 5, .inl t_beat))] H := hP
        replace hD : va_D A [(q_t, .inr (8, [.int t_thrown, .ref q_t_text, .int t_textSize, .int t_place, .int t_depth, .int t_noon, .int t_later, .int t_walkers, .ref q_t_beat, .ref q_t_kind, .ref q_t_readSnow, .int t_readWalkers, .ref q_t_readWalker, .ref q_t_page, .ref q_t_trial, .ref q_t_book, .int t_acts, .ref q_t_kept, .ref q_t_isKept, .int t_marks, .ref q_t_markStep, .ref q_t_markTread, .long t_seed, .int t_stumbled, .ref q_t_order, .int t_lineMany, .int t_lineOrder, .int t_whoseMany, .int t_whoseFirst, .int 0, .int (-9), .ref q_t_gains, .ref q_t_value])), (q_t_page, .inl (cI, 17, .inl t_page)), (q_t_trial, .inl (cI, 17, .inl t_trial)), (q_t_gains, .inl (cI, 8, .inl t_gains)), (q_t_kind, .inl (cI, 5, .inl t_kind)), (q_t_beat, .inl (cI, 5, .inl t_beat))] := hD
        refine lv_iconst (v := 0) hx hb dX8_rests_106 (by decide) ?_
        refine lv_istore (lv' := [(4, .int 0), (0, .ref q_t), (1, .int x1), (2, .int x2), (3, .int x3)]) hx hb dX8_rests_107 hl (by decide) rfl (fun ls hl => ?_)
        exact h_109 x3 t_thrown t_stumbled t_trial t_gains fuelC 0 0 (-9) _ _ _ hP hS (lv_sub hl [1, 4, 0] rfl) hf
      · replace hf := iq hc hf
        refine lv_aload_n hx hb dX8_rests_81 rfl (lv_at hl 0 rfl) ?_
        refine lv_iload_n hx hb dX8_rests_82 rfl (lv_at hl 1 rfl) ?_
        refine lv_iload_n hx hb dX8_rests_83 rfl (lv_at hl 2 rfl) ?_
        refine lv_iload hx hb dX8_rests_84 (lv_at hl 4 rfl) ?_
        obtain ⟨⟨o5, o6, o7⟩, e9, hf⟩ := bd_ok hf
        refine kVv (As := [.int x1, .int x2, .int x4]) CF (cwV 3 hts gX8_rests_X8_layGains rfl rfl rfl (by decide +kernel) ⟨Nat.le_of_ble_eq_true rfl, Nat.le_of_ble_eq_true rfl⟩) PU_blind hP hD hS hA (va_recv hK.1 hP (ci := 8) (q0 := 0) rfl rfl) [0, 1, 2, 3, 4, 5] (fun h1 h2 h3 => PU_pre hK h1 A h2 h3) (c_X8_layGains l dC dI cI cZ q_t q_t_text q_t_beat q_t_kind q_t_readSnow q_t_readWalker q_t_page q_t_trial q_t_book q_t_kept q_t_isKept q_t_markStep q_t_markTread q_t_order q_t_gains q_t_value _ t_thrown t_textSize t_place t_depth t_noon t_later t_walkers t_readWalkers t_acts t_marks t_seed t_stumbled t_lineMany t_lineOrder t_whoseMany t_whoseFirst t_restMany t_restFirst t_page t_trial t_gains t_kind t_beat x1 x2 x4 o5 o6 o7 e9) rfl rfl rfl rfl hl.1 rfl (Nat.le_of_ble_eq_true rfl) dX8_rests_86 ⟨Nat.zero_le _, Nat.zero_le _⟩ (fun H locs hP hS => ?_)
        replace hP : va_P (dC, dI) vwCl [(q_t, .inr (8, [.int t_thrown, .ref q_t_text, .int t_textSize, .int t_place, .int t_depth, .int t_noon, .int t_later, .int t_walkers, .ref q_t_beat, .ref q_t_kind, .ref q_t_readSnow, .int t_readWalkers, .ref q_t_readWalker, .ref q_t_page, .ref q_t_trial, .ref q_t_book, .int t_acts, .ref q_t_kept, .ref q_t_isKept, .int t_marks, .ref q_t_markStep, .ref q_t_markTread, .long t_seed, .int o5, .ref q_t_order, .int t_lineMany, .int t_lineOrder, .int t_whoseMany, .int t_whoseFirst, .int t_restMany, .int t_restFirst, .ref q_t_gains, .ref q_t_value])), (q_t_page, .inl (cI, 17, .inl t_page)), (q_t_trial, .inl (cI, 17, .inl o6)), (q_t_gains, .inl (cI, 8, .inl o7)), (q_t_kind, .inl (cI, 5, .inl t_kind)), (q_t_beat, .inl (cI, 5, .inl t_beat))] H := hP
        replace hD : va_D A [(q_t, .inr (8, [.int t_thrown, .ref q_t_text, .int t_textSize, .int t_place, .int t_depth, .int t_noon, .int t_later, .int t_walkers, .ref q_t_beat, .ref q_t_kind, .ref q_t_readSnow, .int t_readWalkers, .ref q_t_readWalker, .ref q_t_page, .ref q_t_trial, .ref q_t_book, .int t_acts, .ref q_t_kept, .ref q_t_isKept, .int t_marks, .ref q_t_markStep, .ref q_t_markTread, .long t_seed, .int o5, .ref q_t_order, .int t_lineMany, .int t_lineOrder, .int t_whoseMany, .int t_whoseFirst, .int t_restMany, .int t_restFirst, .ref q_t_gains, .ref q_t_value])), (q_t_page, .inl (cI, 17, .inl t_page)), (q_t_trial, .inl (cI, 17, .inl o6)), (q_t_gains, .inl (cI, 8, .inl o7)), (q_t_kind, .inl (cI, 5, .inl t_kind)), (q_t_beat, .inl (cI, 5, .inl t_beat))] := wd hD rfl
        refine lv_iinc (v := (x4 + 1)) (lv' := [(4, .int (x4 + 1)), (0, .ref q_t), (1, .int x1), (2, .int x2), (3, .int x3)]) hx hb dX8_rests_89 hl (k := 4) rfl rfl (by decide) rfl (fun ls hl => ?_)
        refine lv_goto (tgt := 75) hx hb dX8_rests_92 (by decide) ?_
        exact ih75 (x4 + 1) o5 o6 o7 _ _ _ hP hS (lv_sub hl [1, 2, 3, 4, 0] rfl) hf
  rw [f_X8_rests] at hf
  refine lv_aload_n hx hb dX8_rests_0 rfl (lv_at hl 0 rfl) ?_
  refine lv_iconst (v := 0) hx hb dX8_rests_1 (by decide) ?_
  refine va_put (D := (dC, dI)) (ci := 8) (v := .int 0) (ty := .int) (C := RX8) (T := TX8) (N := 33) hx hb hts hinX8 tyX8 tyX8_ok nmX8 hown hK.1 hP hD hS 0 rfl rfl 0 (by decide) w_3 (fun _ h9 => h9) rfl (by decide +kernel) rfl rfl (Nat.le_of_ble_eq_true rfl) dX8_rests_2 (fun H locs hP hD hS => ?_)
  replace hP : va_P (dC, dI) vwCl [(q_t, .inr (8, [.int 0, .ref q_t_text, .int t_textSize, .int t_place, .int t_depth, .int t_noon, .int t_later, .int t_walkers, .ref q_t_beat, .ref q_t_kind, .ref q_t_readSnow, .int t_readWalkers, .ref q_t_readWalker, .ref q_t_page, .ref q_t_trial, .ref q_t_book, .int t_acts, .ref q_t_kept, .ref q_t_isKept, .int t_marks, .ref q_t_markStep, .ref q_t_markTread, .long t_seed, .int t_stumbled, .ref q_t_order, .int t_lineMany, .int t_lineOrder, .int t_whoseMany, .int t_whoseFirst, .int t_restMany, .int t_restFirst, .ref q_t_gains, .ref q_t_value])), (q_t_page, .inl (cI, 17, .inl t_page)), (q_t_trial, .inl (cI, 17, .inl t_trial)), (q_t_gains, .inl (cI, 8, .inl t_gains)), (q_t_kind, .inl (cI, 5, .inl t_kind)), (q_t_beat, .inl (cI, 5, .inl t_beat))] H := hP
  replace hD : va_D A [(q_t, .inr (8, [.int 0, .ref q_t_text, .int t_textSize, .int t_place, .int t_depth, .int t_noon, .int t_later, .int t_walkers, .ref q_t_beat, .ref q_t_kind, .ref q_t_readSnow, .int t_readWalkers, .ref q_t_readWalker, .ref q_t_page, .ref q_t_trial, .ref q_t_book, .int t_acts, .ref q_t_kept, .ref q_t_isKept, .int t_marks, .ref q_t_markStep, .ref q_t_markTread, .long t_seed, .int t_stumbled, .ref q_t_order, .int t_lineMany, .int t_lineOrder, .int t_whoseMany, .int t_whoseFirst, .int t_restMany, .int t_restFirst, .ref q_t_gains, .ref q_t_value])), (q_t_page, .inl (cI, 17, .inl t_page)), (q_t_trial, .inl (cI, 17, .inl t_trial)), (q_t_gains, .inl (cI, 8, .inl t_gains)), (q_t_kind, .inl (cI, 5, .inl t_kind)), (q_t_beat, .inl (cI, 5, .inl t_beat))] := hD
  refine lv_aload_n hx hb dX8_rests_5 rfl (lv_at hl 0 rfl) ?_
  refine lv_iload_n hx hb dX8_rests_6 rfl (lv_at hl 1 rfl) ?_
  obtain ⟨r10, e12, hf⟩ := bd_ok hf
  refine kVi (As := [.int x1]) CF (cwV 1 hts gX8_rests_X8_noWalker rfl rfl rfl (by decide +kernel) ⟨Nat.le_of_ble_eq_true rfl, Nat.le_of_ble_eq_true rfl⟩) PU_blind hP hD hS hA (va_recv hK.1 hP (ci := 8) (q0 := 0) rfl rfl) [0] (fun h1 h2 h3 => PU_pre hK h1 A h2 h3) (c_X8_noWalker l dC dI cI cZ q_t q_t_text q_t_beat q_t_kind q_t_readSnow q_t_readWalker q_t_page q_t_trial q_t_book q_t_kept q_t_isKept q_t_markStep q_t_markTread q_t_order q_t_gains q_t_value _ 0 t_textSize t_place t_depth t_noon t_later t_walkers t_readWalkers t_acts t_marks t_seed t_stumbled t_lineMany t_lineOrder t_whoseMany t_whoseFirst t_restMany t_restFirst x1 r10 e12) rfl rfl rfl rfl hl.1 rfl (Nat.le_of_ble_eq_true rfl) dX8_rests_7 ⟨Nat.zero_le _, Nat.zero_le _⟩ (fun H locs hP hS => ?_)
  replace hP : va_P (dC, dI) vwCl [(q_t, .inr (8, [.int 0, .ref q_t_text, .int t_textSize, .int t_place, .int t_depth, .int t_noon, .int t_later, .int t_walkers, .ref q_t_beat, .ref q_t_kind, .ref q_t_readSnow, .int t_readWalkers, .ref q_t_readWalker, .ref q_t_page, .ref q_t_trial, .ref q_t_book, .int t_acts, .ref q_t_kept, .ref q_t_isKept, .int t_marks, .ref q_t_markStep, .ref q_t_markTread, .long t_seed, .int t_stumbled, .ref q_t_order, .int t_lineMany, .int t_lineOrder, .int t_whoseMany, .int t_whoseFirst, .int t_restMany, .int t_restFirst, .ref q_t_gains, .ref q_t_value])), (q_t_page, .inl (cI, 17, .inl t_page)), (q_t_trial, .inl (cI, 17, .inl t_trial)), (q_t_gains, .inl (cI, 8, .inl t_gains)), (q_t_kind, .inl (cI, 5, .inl t_kind)), (q_t_beat, .inl (cI, 5, .inl t_beat))] H := hP
  refine lv_if_ne (tgt := 21) hx hb dX8_rests_10 (by decide) (fun hc => ?_) (fun hc => ?_)
  · replace hf := iq hc hf
    refine lv_iconst (v := (-1)) hx hb dX8_rests_21 (by decide) ?_
    obtain ⟨e0, hf⟩ := ij2 hf
    obtain ⟨e1, hf⟩ := ijc hf
    obtain ⟨e2, hf⟩ := ijc hf
    obtain ⟨e3, hf⟩ := ijc hf
    obtain ⟨e4, hf⟩ := ijc hf
    obtain ⟨e5, hf⟩ := ijc hf
    have e6 := hf
    refine W.eq (congrArg (fun z => F0 m 22 ls [.int z]) e0) ?_
    exact hret _ _ _ _ (by rw [← e1, ← e2, ← e3, ← e4, ← e5, ← e6]; exact hP) hS dX8_rests_22
  · replace hf := ip hc hf
    refine lv_aload_n hx hb dX8_rests_13 rfl (lv_at hl 0 rfl) ?_
    refine lv_iload_n hx hb dX8_rests_14 rfl (lv_at hl 2 rfl) ?_
    obtain ⟨r13, e15, hf⟩ := bd_ok hf
    refine kVi (As := [.int x2]) CF (cwV 1 hts gX8_rests_X8_noWalker rfl rfl rfl (by decide +kernel) ⟨Nat.le_of_ble_eq_true rfl, Nat.le_of_ble_eq_true rfl⟩) PU_blind hP hD hS hA (va_recv hK.1 hP (ci := 8) (q0 := 0) rfl rfl) [0] (fun h1 h2 h3 => PU_pre hK h1 A h2 h3) (c_X8_noWalker l dC dI cI cZ q_t q_t_text q_t_beat q_t_kind q_t_readSnow q_t_readWalker q_t_page q_t_trial q_t_book q_t_kept q_t_isKept q_t_markStep q_t_markTread q_t_order q_t_gains q_t_value _ 0 t_textSize t_place t_depth t_noon t_later t_walkers t_readWalkers t_acts t_marks t_seed t_stumbled t_lineMany t_lineOrder t_whoseMany t_whoseFirst t_restMany t_restFirst x2 r13 e15) rfl rfl rfl rfl hl.1 rfl (Nat.le_of_ble_eq_true rfl) dX8_rests_15 ⟨Nat.zero_le _, Nat.zero_le _⟩ (fun H locs hP hS => ?_)
    replace hP : va_P (dC, dI) vwCl [(q_t, .inr (8, [.int 0, .ref q_t_text, .int t_textSize, .int t_place, .int t_depth, .int t_noon, .int t_later, .int t_walkers, .ref q_t_beat, .ref q_t_kind, .ref q_t_readSnow, .int t_readWalkers, .ref q_t_readWalker, .ref q_t_page, .ref q_t_trial, .ref q_t_book, .int t_acts, .ref q_t_kept, .ref q_t_isKept, .int t_marks, .ref q_t_markStep, .ref q_t_markTread, .long t_seed, .int t_stumbled, .ref q_t_order, .int t_lineMany, .int t_lineOrder, .int t_whoseMany, .int t_whoseFirst, .int t_restMany, .int t_restFirst, .ref q_t_gains, .ref q_t_value])), (q_t_page, .inl (cI, 17, .inl t_page)), (q_t_trial, .inl (cI, 17, .inl t_trial)), (q_t_gains, .inl (cI, 8, .inl t_gains)), (q_t_kind, .inl (cI, 5, .inl t_kind)), (q_t_beat, .inl (cI, 5, .inl t_beat))] H := hP
    refine lv_if_eq (tgt := 23) hx hb dX8_rests_18 (by decide) (fun hc => ?_) (fun hc => ?_)
    · replace hf := ip hc hf
      refine lv_iload_n hx hb dX8_rests_23 rfl (lv_at hl 1 rfl) ?_
      refine lv_iload_n hx hb dX8_rests_24 rfl (lv_at hl 2 rfl) ?_
      refine lv_icmp_eq (tgt := 38) hx hb dX8_rests_25 (by decide) (fun hc => ?_) (fun hc => ?_)
      · replace hf := ip hc hf
        refine lv_bipush (v := (-2)) hx hb dX8_rests_38 (by decide) ?_
        obtain ⟨e0, hf⟩ := ij2 hf
        obtain ⟨e1, hf⟩ := ijc hf
        obtain ⟨e2, hf⟩ := ijc hf
        obtain ⟨e3, hf⟩ := ijc hf
        obtain ⟨e4, hf⟩ := ijc hf
        obtain ⟨e5, hf⟩ := ijc hf
        have e6 := hf
        refine W.eq (congrArg (fun z => F0 m 40 ls [.int z]) e0) ?_
        exact hret _ _ _ _ (by rw [← e1, ← e2, ← e3, ← e4, ← e5, ← e6]; exact hP) hS dX8_rests_40
      · replace hf := iq hc hf
        refine lv_iload_n hx hb dX8_rests_28 rfl (lv_at hl 3 rfl) ?_
        refine lv_i2l hx hb dX8_rests_29 rfl ?_
        refine lv_lconst (v := 0) hx hb dX8_rests_30 (by decide) ?_
        refine lv_lconst (v := 1) hx hb dX8_rests_31 (by decide) ?_
        obtain ⟨r16, e18, hf⟩ := bd_ok hf
        refine kSi (As := [.long ((x3).toInt64), .long (0 : Int64), .long (1 : Int64)]) CF (va_cwS 3 hts gX8_rests_X8_in rfl rfl rfl (by decide +kernel) ⟨Nat.le_of_ble_eq_true rfl, Nat.le_of_ble_eq_true rfl⟩) PU_blind hP hD hS hA [] (fun h1 h2 h3 => PU_pre hK h1 A h2 h3) (c_X8_in l dC dI cI cZ _ ((x3).toInt64) (0 : Int64) (1 : Int64) r16 e18) rfl rfl rfl rfl hl.1 rfl (Nat.le_of_ble_eq_true rfl) dX8_rests_32 ⟨Nat.zero_le _, Nat.zero_le _⟩ (fun H locs hP hS => ?_)
        replace hP : va_P (dC, dI) vwCl [(q_t, .inr (8, [.int 0, .ref q_t_text, .int t_textSize, .int t_place, .int t_depth, .int t_noon, .int t_later, .int t_walkers, .ref q_t_beat, .ref q_t_kind, .ref q_t_readSnow, .int t_readWalkers, .ref q_t_readWalker, .ref q_t_page, .ref q_t_trial, .ref q_t_book, .int t_acts, .ref q_t_kept, .ref q_t_isKept, .int t_marks, .ref q_t_markStep, .ref q_t_markTread, .long t_seed, .int t_stumbled, .ref q_t_order, .int t_lineMany, .int t_lineOrder, .int t_whoseMany, .int t_whoseFirst, .int t_restMany, .int t_restFirst, .ref q_t_gains, .ref q_t_value])), (q_t_page, .inl (cI, 17, .inl t_page)), (q_t_trial, .inl (cI, 17, .inl t_trial)), (q_t_gains, .inl (cI, 8, .inl t_gains)), (q_t_kind, .inl (cI, 5, .inl t_kind)), (q_t_beat, .inl (cI, 5, .inl t_beat))] H := hP
        refine lv_if_ne (tgt := 41) hx hb dX8_rests_35 (by decide) (fun hc => ?_) (fun hc => ?_)
        · replace hf := iq hc hf
          refine lv_aload_n hx hb dX8_rests_41 rfl (lv_at hl 0 rfl) ?_
          refine va_get (D := (dC, dI)) (ci := 8) (v := .ref q_t_page) (C := RX8) (T := TX8) (N := 33) hx hb hts hinX8 hown hK.1 hP 0 rfl rfl 13 (by decide) w_4 (fun _ h9 => h9) rfl dX8_rests_42 ?_
          refine lv_bipush (v := 15) hx hb dX8_rests_45 (by decide) ?_
          refine kald hx hb hK.1 hP 1 0 rfl rfl dX8_rests_47 hf (fun v19 hf => ?_)
          refine lv_iload_n hx hb dX8_rests_48 rfl (lv_at hl 1 rfl) ?_
          obtain ⟨r20, e22, hf⟩ := bd_ok hf
          refine kSi (As := [.int v19, .int x1]) CF (va_cwS 2 hts gX8_rests_X8_has rfl rfl rfl (by decide +kernel) ⟨Nat.le_of_ble_eq_true rfl, Nat.le_of_ble_eq_true rfl⟩) PU_blind hP hD hS hA [] (fun h1 h2 h3 => PU_pre hK h1 A h2 h3) (c_X8_has l dC dI cI cZ _ v19 x1 r20 e22) rfl rfl rfl rfl hl.1 rfl (Nat.le_of_ble_eq_true rfl) dX8_rests_49 ⟨Nat.zero_le _, Nat.zero_le _⟩ (fun H locs hP hS => ?_)
          replace hP : va_P (dC, dI) vwCl [(q_t, .inr (8, [.int 0, .ref q_t_text, .int t_textSize, .int t_place, .int t_depth, .int t_noon, .int t_later, .int t_walkers, .ref q_t_beat, .ref q_t_kind, .ref q_t_readSnow, .int t_readWalkers, .ref q_t_readWalker, .ref q_t_page, .ref q_t_trial, .ref q_t_book, .int t_acts, .ref q_t_kept, .ref q_t_isKept, .int t_marks, .ref q_t_markStep, .ref q_t_markTread, .long t_seed, .int t_stumbled, .ref q_t_order, .int t_lineMany, .int t_lineOrder, .int t_whoseMany, .int t_whoseFirst, .int t_restMany, .int t_restFirst, .ref q_t_gains, .ref q_t_value])), (q_t_page, .inl (cI, 17, .inl t_page)), (q_t_trial, .inl (cI, 17, .inl t_trial)), (q_t_gains, .inl (cI, 8, .inl t_gains)), (q_t_kind, .inl (cI, 5, .inl t_kind)), (q_t_beat, .inl (cI, 5, .inl t_beat))] H := hP
          refine lv_if_ne (tgt := 69) hx hb dX8_rests_52 (by decide) (fun hc => ?_) (fun hc => ?_)
          · replace hf := iq hc hf
            refine lv_bipush (v := (-3)) hx hb dX8_rests_69 (by decide) ?_
            obtain ⟨e0, hf⟩ := ij2 hf
            obtain ⟨e1, hf⟩ := ijc hf
            obtain ⟨e2, hf⟩ := ijc hf
            obtain ⟨e3, hf⟩ := ijc hf
            obtain ⟨e4, hf⟩ := ijc hf
            obtain ⟨e5, hf⟩ := ijc hf
            have e6 := hf
            refine W.eq (congrArg (fun z => F0 m 71 ls [.int z]) e0) ?_
            exact hret _ _ _ _ (by rw [← e1, ← e2, ← e3, ← e4, ← e5, ← e6]; exact hP) hS dX8_rests_71
          · replace hf := ip hc hf
            refine lv_aload_n hx hb dX8_rests_55 rfl (lv_at hl 0 rfl) ?_
            refine va_get (D := (dC, dI)) (ci := 8) (v := .ref q_t_page) (C := RX8) (T := TX8) (N := 33) hx hb hts hinX8 hown hK.1 hP 0 rfl rfl 13 (by decide) w_4 (fun _ h9 => h9) rfl dX8_rests_56 ?_
            refine lv_bipush (v := 15) hx hb dX8_rests_59 (by decide) ?_
            refine kald hx hb hK.1 hP 1 0 rfl rfl dX8_rests_61 hf (fun v23 hf => ?_)
            refine lv_iload_n hx hb dX8_rests_62 rfl (lv_at hl 2 rfl) ?_
            obtain ⟨r24, e26, hf⟩ := bd_ok hf
            refine kSi (As := [.int v23, .int x2]) CF (va_cwS 2 hts gX8_rests_X8_has rfl rfl rfl (by decide +kernel) ⟨Nat.le_of_ble_eq_true rfl, Nat.le_of_ble_eq_true rfl⟩) PU_blind hP hD hS hA [] (fun h1 h2 h3 => PU_pre hK h1 A h2 h3) (c_X8_has l dC dI cI cZ _ v23 x2 r24 e26) rfl rfl rfl rfl hl.1 rfl (Nat.le_of_ble_eq_true rfl) dX8_rests_63 ⟨Nat.zero_le _, Nat.zero_le _⟩ (fun H locs hP hS => ?_)
            replace hP : va_P (dC, dI) vwCl [(q_t, .inr (8, [.int 0, .ref q_t_text, .int t_textSize, .int t_place, .int t_depth, .int t_noon, .int t_later, .int t_walkers, .ref q_t_beat, .ref q_t_kind, .ref q_t_readSnow, .int t_readWalkers, .ref q_t_readWalker, .ref q_t_page, .ref q_t_trial, .ref q_t_book, .int t_acts, .ref q_t_kept, .ref q_t_isKept, .int t_marks, .ref q_t_markStep, .ref q_t_markTread, .long t_seed, .int t_stumbled, .ref q_t_order, .int t_lineMany, .int t_lineOrder, .int t_whoseMany, .int t_whoseFirst, .int t_restMany, .int t_restFirst, .ref q_t_gains, .ref q_t_value])), (q_t_page, .inl (cI, 17, .inl t_page)), (q_t_trial, .inl (cI, 17, .inl t_trial)), (q_t_gains, .inl (cI, 8, .inl t_gains)), (q_t_kind, .inl (cI, 5, .inl t_kind)), (q_t_beat, .inl (cI, 5, .inl t_beat))] H := hP
            refine lv_if_eq (tgt := 72) hx hb dX8_rests_66 (by decide) (fun hc => ?_) (fun hc => ?_)
            · replace hf := ip hc hf
              refine lv_iconst (v := 0) hx hb dX8_rests_72 (by decide) ?_
              refine lv_istore (lv' := [(4, .int 0), (0, .ref q_t), (1, .int x1), (2, .int x2), (3, .int x3)]) hx hb dX8_rests_73 hl (by decide) rfl (fun ls hl => ?_)
              exact h_75 x1 x2 x3 0 t_restMany t_restFirst fuelC 0 t_stumbled t_trial t_gains _ _ _ hP hS (lv_sub hl [1, 2, 3, 4, 0] rfl) hf
            · replace hf := iq hc hf
              refine lv_bipush (v := (-3)) hx hb dX8_rests_69 (by decide) ?_
              obtain ⟨e0, hf⟩ := ij2 hf
              obtain ⟨e1, hf⟩ := ijc hf
              obtain ⟨e2, hf⟩ := ijc hf
              obtain ⟨e3, hf⟩ := ijc hf
              obtain ⟨e4, hf⟩ := ijc hf
              obtain ⟨e5, hf⟩ := ijc hf
              have e6 := hf
              refine W.eq (congrArg (fun z => F0 m 71 ls [.int z]) e0) ?_
              exact hret _ _ _ _ (by rw [← e1, ← e2, ← e3, ← e4, ← e5, ← e6]; exact hP) hS dX8_rests_71
        · replace hf := ip hc hf
          refine lv_bipush (v := (-2)) hx hb dX8_rests_38 (by decide) ?_
          obtain ⟨e0, hf⟩ := ij2 hf
          obtain ⟨e1, hf⟩ := ijc hf
          obtain ⟨e2, hf⟩ := ijc hf
          obtain ⟨e3, hf⟩ := ijc hf
          obtain ⟨e4, hf⟩ := ijc hf
          obtain ⟨e5, hf⟩ := ijc hf
          have e6 := hf
          refine W.eq (congrArg (fun z => F0 m 40 ls [.int z]) e0) ?_
          exact hret _ _ _ _ (by rw [← e1, ← e2, ← e3, ← e4, ← e5, ← e6]; exact hP) hS dX8_rests_40
    · replace hf := iq hc hf
      refine lv_iconst (v := (-1)) hx hb dX8_rests_21 (by decide) ?_
      obtain ⟨e0, hf⟩ := ij2 hf
      obtain ⟨e1, hf⟩ := ijc hf
      obtain ⟨e2, hf⟩ := ijc hf
      obtain ⟨e3, hf⟩ := ijc hf
      obtain ⟨e4, hf⟩ := ijc hf
      obtain ⟨e5, hf⟩ := ijc hf
      have e6 := hf
      refine W.eq (congrArg (fun z => F0 m 22 ls [.int z]) e0) ?_
      exact hret _ _ _ _ (by rw [← e1, ← e2, ← e3, ← e4, ← e5, ← e6]; exact hP) hS dX8_rests_22
abbrev rm_X8_stumbles : Room := { frames := 4, cells := 0, slots := 0, locals := 96 }
set_option maxHeartbeats 4000000 in
set_option maxRecDepth 100000 in
theorem c_X8_stumbles (l : Launch) (dC : Nat → ClassId) (dI : Nat → Nat → Nat) (cI cZ : ClassId) (q_t q_t_text q_t_beat q_t_kind q_t_readSnow q_t_readWalker q_t_page q_t_trial q_t_book q_t_kept q_t_isKept q_t_markStep q_t_markTread q_t_order q_t_gains q_t_value : Nat) (sz : Nat) (t_thrown : Int32) (t_textSize : Int32) (t_place : Int32) (t_depth : Int32) (t_noon : Int32) (t_later : Int32) (t_walkers : Int32) (t_readWalkers : Int32) (t_acts : Int32) (t_marks : Int32) (t_seed : Int64) (t_stumbled : Int32) (t_lineMany : Int32) (t_lineOrder : Int32) (t_whoseMany : Int32) (t_whoseFirst : Int32) (t_restMany : Int32) (t_restFirst : Int32) (t_page : Nat → Int32) (t_trial : Nat → Int32) (t_kind : Nat → Int32) (t_beat : Nat → Int32) (x1 : Int32) (x2 : Int32) (x3 : Int32) (r_ : Int32) (o_t_thrown : Int32) (o_t_stumbled : Int32) (o_t_trial : Nat → Int32) (hf : f_X8_stumbles x1 x2 x3 t_thrown t_depth t_noon t_later t_walkers t_stumbled t_page t_trial t_kind t_beat = some (r_, o_t_thrown, o_t_stumbled, o_t_trial)) : Met l yX8_stumbles wsX8_stumbles rm_X8_stumbles (va_Pc [.ref q_t, .int x1, .int x2, .int x3] (PU (dC, dI) cI cZ [(q_t, .inr (8, [.int t_thrown, .ref q_t_text, .int t_textSize, .int t_place, .int t_depth, .int t_noon, .int t_later, .int t_walkers, .ref q_t_beat, .ref q_t_kind, .ref q_t_readSnow, .int t_readWalkers, .ref q_t_readWalker, .ref q_t_page, .ref q_t_trial, .ref q_t_book, .int t_acts, .ref q_t_kept, .ref q_t_isKept, .int t_marks, .ref q_t_markStep, .ref q_t_markTread, .long t_seed, .int t_stumbled, .ref q_t_order, .int t_lineMany, .int t_lineOrder, .int t_whoseMany, .int t_whoseFirst, .int t_restMany, .int t_restFirst, .ref q_t_gains, .ref q_t_value])), (q_t_page, .inl (cI, 17, .inl t_page)), (q_t_trial, .inl (cI, 17, .inl t_trial)), (q_t_kind, .inl (cI, 5, .inl t_kind)), (q_t_beat, .inl (cI, 5, .inl t_beat))] sz)) (va_Qi (fun (r : Int32) (_ : Unit) => r = r_) (fun _ t => va_P (dC, dI) vwCl [(q_t, .inr (8, [.int o_t_thrown, .ref q_t_text, .int t_textSize, .int t_place, .int t_depth, .int t_noon, .int t_later, .int t_walkers, .ref q_t_beat, .ref q_t_kind, .ref q_t_readSnow, .int t_readWalkers, .ref q_t_readWalker, .ref q_t_page, .ref q_t_trial, .ref q_t_book, .int t_acts, .ref q_t_kept, .ref q_t_isKept, .int t_marks, .ref q_t_markStep, .ref q_t_markTread, .long t_seed, .int o_t_stumbled, .ref q_t_order, .int t_lineMany, .int t_lineOrder, .int t_whoseMany, .int t_whoseFirst, .int t_restMany, .int t_restFirst, .ref q_t_gains, .ref q_t_value])), (q_t_page, .inl (cI, 17, .inl t_page)), (q_t_trial, .inl (cI, 17, .inl o_t_trial)), (q_t_kind, .inl (cI, 5, .inl t_kind)), (q_t_beat, .inl (cI, 5, .inl t_beat))] t.heap) (va_A [(q_t, .inr (8, [.int t_thrown, .ref q_t_text, .int t_textSize, .int t_place, .int t_depth, .int t_noon, .int t_later, .int t_walkers, .ref q_t_beat, .ref q_t_kind, .ref q_t_readSnow, .int t_readWalkers, .ref q_t_readWalker, .ref q_t_page, .ref q_t_trial, .ref q_t_book, .int t_acts, .ref q_t_kept, .ref q_t_isKept, .int t_marks, .ref q_t_markStep, .ref q_t_markTread, .long t_seed, .int t_stumbled, .ref q_t_order, .int t_lineMany, .int t_lineOrder, .int t_whoseMany, .int t_whoseFirst, .int t_restMany, .int t_restFirst, .ref q_t_gains, .ref q_t_value])), (q_t_page, .inl (cI, 17, .inl t_page)), (q_t_trial, .inl (cI, 17, .inl t_trial)), (q_t_kind, .inl (cI, 5, .inl t_kind)), (q_t_beat, .inl (cI, 5, .inl t_beat))] sz)) 0 0 (va_A [(q_t, .inr (8, [.int t_thrown, .ref q_t_text, .int t_textSize, .int t_place, .int t_depth, .int t_noon, .int t_later, .int t_walkers, .ref q_t_beat, .ref q_t_kind, .ref q_t_readSnow, .int t_readWalkers, .ref q_t_readWalker, .ref q_t_page, .ref q_t_trial, .ref q_t_book, .int t_acts, .ref q_t_kept, .ref q_t_isKept, .int t_marks, .ref q_t_markStep, .ref q_t_markTread, .long t_seed, .int t_stumbled, .ref q_t_order, .int t_lineMany, .int t_lineOrder, .int t_whoseMany, .int t_whoseFirst, .int t_restMany, .int t_restFirst, .ref q_t_gains, .ref q_t_value])), (q_t_page, .inl (cI, 17, .inl t_page)), (q_t_trial, .inl (cI, 17, .inl t_trial)), (q_t_kind, .inl (cI, 5, .inl t_kind)), (q_t_beat, .inl (cI, 5, .inl t_beat))] sz) := by
  refine MetI (cc := cX8_stumbles) (maxL := 7) (by decide) rfl (Nat.le_of_ble_eq_true rfl) (fun _ h => h) ?_
  intro p e s m args below meth c A Q ls hx CF hK hA hD hP hS hl hB hAe hsz hret
  have hb := CF.2.1
  have hml := CF.2.2.1
  have hown := CF.2.2.2.1
  have hts := CF.2.2.2.2
  have hD0 := hD
  replace hl : lv_has ls 7 [(0, .ref q_t), (1, .int x1), (2, .int x2), (3, .int x3)] := hl
  have hinX8 : ∀ w ∈ wsX80, w ∈ wsX8_stumbles := fun _ h => List.mem_cons_of_mem _ (List.mem_append_right _ h)
  have w_0 := hts (.fieldLink RX8 66 "PassInStepModel" "walkers" "I") (by decide +kernel)
  have w_1 := hts (.fieldLink RX8 110 "PassInStepModel" "stumbled" "I") (by decide +kernel)
  have w_2 := hts (.fieldLink RX8 35 "PassInStepModel" "trial" "[I") (by decide +kernel)
  have w_3 := hts (.fieldLink RX8 63 "PassInStepModel" "thrown" "I") (by decide +kernel)
  have w_4 := hts (.constantLong RX8 240 (5)) (by decide +kernel)
  have w_5 := hts (.constantLong RX8 242 (10)) (by decide +kernel)
  have h_38 : ∀ (x1 : Int32) (x2 : Int32) (x3 : Int32) (t_thrown : Int32) (fu38 : Nat) (x4 : Int32) (x5 : Int32) (t_stumbled : Int32) (t_trial : Nat → Int32) (H : Heap) (locs : List Loc) (ls : Array Slot), va_P (dC, dI) vwCl [(q_t, .inr (8, [.int t_thrown, .ref q_t_text, .int t_textSize, .int t_place, .int t_depth, .int t_noon, .int t_later, .int t_walkers, .ref q_t_beat, .ref q_t_kind, .ref q_t_readSnow, .int t_readWalkers, .ref q_t_readWalker, .ref q_t_page, .ref q_t_trial, .ref q_t_book, .int t_acts, .ref q_t_kept, .ref q_t_isKept, .int t_marks, .ref q_t_markStep, .ref q_t_markTread, .long t_seed, .int t_stumbled, .ref q_t_order, .int t_lineMany, .int t_lineOrder, .int t_whoseMany, .int t_whoseFirst, .int t_restMany, .int t_restFirst, .ref q_t_gains, .ref q_t_value])), (q_t_page, .inl (cI, 17, .inl t_page)), (q_t_trial, .inl (cI, 17, .inl t_trial)), (q_t_kind, .inl (cI, 5, .inl t_kind)), (q_t_beat, .inl (cI, 5, .inl t_beat))] H → va_S A s.heap H locs → lv_has ls 7 [(0, .ref q_t), (1, .int x1), (2, .int x2), (3, .int x3), (4, .int x4), (5, .int x5)] → L_X8_stumbles_38 x1 x2 x3 t_thrown t_depth t_noon t_later t_walkers t_page t_kind t_beat fu38 x4 x5 t_stumbled t_trial = some (r_, o_t_thrown, o_t_stumbled, o_t_trial) → W p l e rm_X8_stumbles s m args below meth c H locs 0 0 Q (F0 m 38 ls []) := by
    intro x1 x2 x3 t_thrown fu38
    induction fu38 with
    | zero =>
      intro x4 x5 t_stumbled t_trial H locs ls hP hS hl hf
      rw [L_X8_stumbles_38] at hf
      cases hf
    | succ fu38 ih38 =>
      have h_117 : ∀ (x5 : Int32) (s0 : Int32) (s1 : Int32) (t_stumbled : Int32) (t_trial : Nat → Int32) (H : Heap) (locs : List Loc) (ls : Array Slot), va_P (dC, dI) vwCl [(q_t, .inr (8, [.int t_thrown, .ref q_t_text, .int t_textSize, .int t_place, .int t_depth, .int t_noon, .int t_later, .int t_walkers, .ref q_t_beat, .ref q_t_kind, .ref q_t_readSnow, .int t_readWalkers, .ref q_t_readWalker, .ref q_t_page, .ref q_t_trial, .ref q_t_book, .int t_acts, .ref q_t_kept, .ref q_t_isKept, .int t_marks, .ref q_t_markStep, .ref q_t_markTread, .long t_seed, .int t_stumbled, .ref q_t_order, .int t_lineMany, .int t_lineOrder, .int t_whoseMany, .int t_whoseFirst, .int t_restMany, .int t_restFirst, .ref q_t_gains, .ref q_t_value])), (q_t_page, .inl (cI, 17, .inl t_page)), (q_t_trial, .inl (cI, 17, .inl t_trial)), (q_t_kind, .inl (cI, 5, .inl t_kind)), (q_t_beat, .inl (cI, 5, .inl t_beat))] H → va_S A s.heap H locs → lv_has ls 7 [(0, .ref q_t), (1, .int x1), (2, .int x2), (3, .int x3), (5, .int x5)] → J_X8_stumbles_117 (L_X8_stumbles_38 x1 x2 x3 t_thrown t_depth t_noon t_later t_walkers t_page t_kind t_beat fu38) x5 s0 s1 t_stumbled t_trial = some (r_, o_t_thrown, o_t_stumbled, o_t_trial) → W p l e rm_X8_stumbles s m args below meth c H locs 0 0 Q (F0 m 117 ls [.int s0, .int s1]) := by
        intro x5 s0 s1 t_stumbled t_trial H locs ls hP hS hl hf
        have hD : va_D A [(q_t, .inr (8, [.int t_thrown, .ref q_t_text, .int t_textSize, .int t_place, .int t_depth, .int t_noon, .int t_later, .int t_walkers, .ref q_t_beat, .ref q_t_kind, .ref q_t_readSnow, .int t_readWalkers, .ref q_t_readWalker, .ref q_t_page, .ref q_t_trial, .ref q_t_book, .int t_acts, .ref q_t_kept, .ref q_t_isKept, .int t_marks, .ref q_t_markStep, .ref q_t_markTread, .long t_seed, .int t_stumbled, .ref q_t_order, .int t_lineMany, .int t_lineOrder, .int t_whoseMany, .int t_whoseFirst, .int t_restMany, .int t_restFirst, .ref q_t_gains, .ref q_t_value])), (q_t_page, .inl (cI, 17, .inl t_page)), (q_t_trial, .inl (cI, 17, .inl t_trial)), (q_t_kind, .inl (cI, 5, .inl t_kind)), (q_t_beat, .inl (cI, 5, .inl t_beat))] := wd hD0 rfl
        rw [J_X8_stumbles_117] at hf
        refine lv_iadd hx hb dX8_stumbles_117 ?_
        refine lv_istore (lv' := [(4, .int (s1 + s0)), (0, .ref q_t), (1, .int x1), (2, .int x2), (3, .int x3), (5, .int x5)]) hx hb dX8_stumbles_118 hl (by decide) rfl (fun ls hl => ?_)
        refine lv_iinc (v := (x5 + 1)) (lv' := [(5, .int (x5 + 1)), (4, .int (s1 + s0)), (0, .ref q_t), (1, .int x1), (2, .int x2), (3, .int x3)]) hx hb dX8_stumbles_120 hl (k := 5) rfl rfl (by decide) rfl (fun ls hl => ?_)
        refine lv_goto (tgt := 38) hx hb dX8_stumbles_123 (by decide) ?_
        exact ih38 (s1 + s0) (x5 + 1) t_stumbled t_trial _ _ _ hP hS (lv_sub hl [2, 3, 4, 5, 1, 0] rfl) hf
      intro x4 x5 t_stumbled t_trial H locs ls hP hS hl hf
      have hD : va_D A [(q_t, .inr (8, [.int t_thrown, .ref q_t_text, .int t_textSize, .int t_place, .int t_depth, .int t_noon, .int t_later, .int t_walkers, .ref q_t_beat, .ref q_t_kind, .ref q_t_readSnow, .int t_readWalkers, .ref q_t_readWalker, .ref q_t_page, .ref q_t_trial, .ref q_t_book, .int t_acts, .ref q_t_kept, .ref q_t_isKept, .int t_marks, .ref q_t_markStep, .ref q_t_markTread, .long t_seed, .int t_stumbled, .ref q_t_order, .int t_lineMany, .int t_lineOrder, .int t_whoseMany, .int t_whoseFirst, .int t_restMany, .int t_restFirst, .ref q_t_gains, .ref q_t_value])), (q_t_page, .inl (cI, 17, .inl t_page)), (q_t_trial, .inl (cI, 17, .inl t_trial)), (q_t_kind, .inl (cI, 5, .inl t_kind)), (q_t_beat, .inl (cI, 5, .inl t_beat))] := wd hD0 rfl
      rw [L_X8_stumbles_38] at hf
      refine lv_iload hx hb dX8_stumbles_38 (lv_at hl 5 rfl) ?_
      refine lv_iconst (v := 1) hx hb dX8_stumbles_40 (by decide) ?_
      refine lv_aload_n hx hb dX8_stumbles_41 rfl (lv_at hl 0 rfl) ?_
      refine va_get (D := (dC, dI)) (ci := 8) (v := .int t_walkers) (C := RX8) (T := TX8) (N := 33) hx hb hts hinX8 hown hK.1 hP 0 rfl rfl 7 (by decide) w_0 (fun _ h9 => h9) rfl dX8_stumbles_42 ?_
      refine lv_ishl hx hb dX8_stumbles_45 ?_
      refine lv_icmp_ge (tgt := 126) hx hb dX8_stumbles_46 (by decide) (fun hc => ?_) (fun hc => ?_)
      · replace hf := ip hc hf
        refine lv_aload_n hx hb dX8_stumbles_126 rfl (lv_at hl 0 rfl) ?_
        refine lv_iconst (v := 0) hx hb dX8_stumbles_127 (by decide) ?_
        refine va_put (D := (dC, dI)) (ci := 8) (v := .int 0) (ty := .int) (C := RX8) (T := TX8) (N := 33) hx hb hts hinX8 tyX8 tyX8_ok nmX8 hown hK.1 hP hD hS 0 rfl rfl 23 (by decide) w_1 (fun _ h9 => h9) rfl (by decide +kernel) rfl rfl (Nat.le_of_ble_eq_true rfl) dX8_stumbles_128 (fun H locs hP hD hS => ?_)
        replace hP : va_P (dC, dI) vwCl [(q_t, .inr (8, [.int t_thrown, .ref q_t_text, .int t_textSize, .int t_place, .int t_depth, .int t_noon, .int t_later, .int t_walkers, .ref q_t_beat, .ref q_t_kind, .ref q_t_readSnow, .int t_readWalkers, .ref q_t_readWalker, .ref q_t_page, .ref q_t_trial, .ref q_t_book, .int t_acts, .ref q_t_kept, .ref q_t_isKept, .int t_marks, .ref q_t_markStep, .ref q_t_markTread, .long t_seed, .int 0, .ref q_t_order, .int t_lineMany, .int t_lineOrder, .int t_whoseMany, .int t_whoseFirst, .int t_restMany, .int t_restFirst, .ref q_t_gains, .ref q_t_value])), (q_t_page, .inl (cI, 17, .inl t_page)), (q_t_trial, .inl (cI, 17, .inl t_trial)), (q_t_kind, .inl (cI, 5, .inl t_kind)), (q_t_beat, .inl (cI, 5, .inl t_beat))] H := hP
        replace hD : va_D A [(q_t, .inr (8, [.int t_thrown, .ref q_t_text, .int t_textSize, .int t_place, .int t_depth, .int t_noon, .int t_later, .int t_walkers, .ref q_t_beat, .ref q_t_kind, .ref q_t_readSnow, .int t_readWalkers, .ref q_t_readWalker, .ref q_t_page, .ref q_t_trial, .ref q_t_book, .int t_acts, .ref q_t_kept, .ref q_t_isKept, .int t_marks, .ref q_t_markStep, .ref q_t_markTread, .long t_seed, .int 0, .ref q_t_order, .int t_lineMany, .int t_lineOrder, .int t_whoseMany, .int t_whoseFirst, .int t_restMany, .int t_restFirst, .ref q_t_gains, .ref q_t_value])), (q_t_page, .inl (cI, 17, .inl t_page)), (q_t_trial, .inl (cI, 17, .inl t_trial)), (q_t_kind, .inl (cI, 5, .inl t_kind)), (q_t_beat, .inl (cI, 5, .inl t_beat))] := hD
        refine lv_iload hx hb dX8_stumbles_131 (lv_at hl 4 rfl) ?_
        refine lv_bipush (v := 10) hx hb dX8_stumbles_133 (by decide) ?_
        refine lv_aload_n hx hb dX8_stumbles_135 rfl (lv_at hl 0 rfl) ?_
        refine va_get (D := (dC, dI)) (ci := 8) (v := .int t_walkers) (C := RX8) (T := TX8) (N := 33) hx hb hts hinX8 hown hK.1 hP 0 rfl rfl 7 (by decide) w_0 (fun _ h9 => h9) rfl dX8_stumbles_136 ?_
        obtain ⟨r1, e3, hf⟩ := bd_ok hf
        refine kSi (As := [.int 10, .int t_walkers]) CF (va_cwS 2 hts gX8_stumbles_X8_power rfl rfl rfl (by decide +kernel) ⟨Nat.le_of_ble_eq_true rfl, Nat.le_of_ble_eq_true rfl⟩) PU_blind hP hD hS hA [] (fun h1 h2 h3 => PU_pre hK h1 A h2 h3) (c_X8_power l dC dI cI cZ _ 10 t_walkers r1 e3) rfl rfl rfl rfl hl.1 rfl (Nat.le_of_ble_eq_true rfl) dX8_stumbles_139 ⟨Nat.zero_le _, Nat.zero_le _⟩ (fun H locs hP hS => ?_)
        replace hP : va_P (dC, dI) vwCl [(q_t, .inr (8, [.int t_thrown, .ref q_t_text, .int t_textSize, .int t_place, .int t_depth, .int t_noon, .int t_later, .int t_walkers, .ref q_t_beat, .ref q_t_kind, .ref q_t_readSnow, .int t_readWalkers, .ref q_t_readWalker, .ref q_t_page, .ref q_t_trial, .ref q_t_book, .int t_acts, .ref q_t_kept, .ref q_t_isKept, .int t_marks, .ref q_t_markStep, .ref q_t_markTread, .long t_seed, .int 0, .ref q_t_order, .int t_lineMany, .int t_lineOrder, .int t_whoseMany, .int t_whoseFirst, .int t_restMany, .int t_restFirst, .ref q_t_gains, .ref q_t_value])), (q_t_page, .inl (cI, 17, .inl t_page)), (q_t_trial, .inl (cI, 17, .inl t_trial)), (q_t_kind, .inl (cI, 5, .inl t_kind)), (q_t_beat, .inl (cI, 5, .inl t_beat))] H := hP
        refine lv_iload_n hx hb dX8_stumbles_142 rfl (lv_at hl 3 rfl) ?_
        obtain ⟨r4, e6, hf⟩ := bd_ok hf
        refine kSi (As := [.int x4, .int r1, .int x3]) CF (va_cwS 3 hts gX8_stumbles_X8_fraction rfl rfl rfl (by decide +kernel) ⟨Nat.le_of_ble_eq_true rfl, Nat.le_of_ble_eq_true rfl⟩) PU_blind hP hD hS hA [] (fun h1 h2 h3 => PU_pre hK h1 A h2 h3) (c_X8_fraction l dC dI cI cZ _ x4 r1 x3 r4 e6) rfl rfl rfl rfl hl.1 rfl (Nat.le_of_ble_eq_true rfl) dX8_stumbles_143 ⟨Nat.zero_le _, Nat.zero_le _⟩ (fun H locs hP hS => ?_)
        replace hP : va_P (dC, dI) vwCl [(q_t, .inr (8, [.int t_thrown, .ref q_t_text, .int t_textSize, .int t_place, .int t_depth, .int t_noon, .int t_later, .int t_walkers, .ref q_t_beat, .ref q_t_kind, .ref q_t_readSnow, .int t_readWalkers, .ref q_t_readWalker, .ref q_t_page, .ref q_t_trial, .ref q_t_book, .int t_acts, .ref q_t_kept, .ref q_t_isKept, .int t_marks, .ref q_t_markStep, .ref q_t_markTread, .long t_seed, .int 0, .ref q_t_order, .int t_lineMany, .int t_lineOrder, .int t_whoseMany, .int t_whoseFirst, .int t_restMany, .int t_restFirst, .ref q_t_gains, .ref q_t_value])), (q_t_page, .inl (cI, 17, .inl t_page)), (q_t_trial, .inl (cI, 17, .inl t_trial)), (q_t_kind, .inl (cI, 5, .inl t_kind)), (q_t_beat, .inl (cI, 5, .inl t_beat))] H := hP
        obtain ⟨e0, hf⟩ := ij2 hf
        obtain ⟨e1, hf⟩ := ijc hf
        obtain ⟨e2, hf⟩ := ijc hf
        have e3 := hf
        refine W.eq (congrArg (fun z => F0 m 146 ls [.int z]) e0) ?_
        exact hret _ _ _ _ (by rw [← e1, ← e2, ← e3]; exact hP) hS dX8_stumbles_146
      · replace hf := iq hc hf
        refine lv_aload_n hx hb dX8_stumbles_49 rfl (lv_at hl 0 rfl) ?_
        obtain ⟨⟨o7, o8⟩, e10, hf⟩ := bd_ok hf
        refine kVv (As := []) CF (cwV 0 hts gX8_stumbles_X8_begin rfl rfl rfl (by decide +kernel) ⟨Nat.le_of_ble_eq_true rfl, Nat.le_of_ble_eq_true rfl⟩) PU_blind hP hD hS hA (va_recv hK.1 hP (ci := 8) (q0 := 0) rfl rfl) [0, 1, 2] (fun h1 h2 h3 => PU_pre hK h1 A h2 h3) (c_X8_begin l dC dI cI cZ q_t q_t_text q_t_beat q_t_kind q_t_readSnow q_t_readWalker q_t_page q_t_trial q_t_book q_t_kept q_t_isKept q_t_markStep q_t_markTread q_t_order q_t_gains q_t_value _ t_thrown t_textSize t_place t_depth t_noon t_later t_walkers t_readWalkers t_acts t_marks t_seed t_stumbled t_lineMany t_lineOrder t_whoseMany t_whoseFirst t_restMany t_restFirst t_page t_trial o7 o8 e10) rfl rfl rfl rfl hl.1 rfl (Nat.le_of_ble_eq_true rfl) dX8_stumbles_50 ⟨Nat.zero_le _, Nat.zero_le _⟩ (fun H locs hP hS => ?_)
        replace hP : va_P (dC, dI) vwCl [(q_t, .inr (8, [.int t_thrown, .ref q_t_text, .int t_textSize, .int t_place, .int t_depth, .int t_noon, .int t_later, .int t_walkers, .ref q_t_beat, .ref q_t_kind, .ref q_t_readSnow, .int t_readWalkers, .ref q_t_readWalker, .ref q_t_page, .ref q_t_trial, .ref q_t_book, .int t_acts, .ref q_t_kept, .ref q_t_isKept, .int t_marks, .ref q_t_markStep, .ref q_t_markTread, .long t_seed, .int o7, .ref q_t_order, .int t_lineMany, .int t_lineOrder, .int t_whoseMany, .int t_whoseFirst, .int t_restMany, .int t_restFirst, .ref q_t_gains, .ref q_t_value])), (q_t_page, .inl (cI, 17, .inl t_page)), (q_t_trial, .inl (cI, 17, .inl o8)), (q_t_kind, .inl (cI, 5, .inl t_kind)), (q_t_beat, .inl (cI, 5, .inl t_beat))] H := hP
        replace hD : va_D A [(q_t, .inr (8, [.int t_thrown, .ref q_t_text, .int t_textSize, .int t_place, .int t_depth, .int t_noon, .int t_later, .int t_walkers, .ref q_t_beat, .ref q_t_kind, .ref q_t_readSnow, .int t_readWalkers, .ref q_t_readWalker, .ref q_t_page, .ref q_t_trial, .ref q_t_book, .int t_acts, .ref q_t_kept, .ref q_t_isKept, .int t_marks, .ref q_t_markStep, .ref q_t_markTread, .long t_seed, .int o7, .ref q_t_order, .int t_lineMany, .int t_lineOrder, .int t_whoseMany, .int t_whoseFirst, .int t_restMany, .int t_restFirst, .ref q_t_gains, .ref q_t_value])), (q_t_page, .inl (cI, 17, .inl t_page)), (q_t_trial, .inl (cI, 17, .inl o8)), (q_t_kind, .inl (cI, 5, .inl t_kind)), (q_t_beat, .inl (cI, 5, .inl t_beat))] := wd hD rfl
        refine lv_aload_n hx hb dX8_stumbles_53 rfl (lv_at hl 0 rfl) ?_
        refine lv_iload hx hb dX8_stumbles_54 (lv_at hl 5 rfl) ?_
        refine va_put (D := (dC, dI)) (ci := 8) (v := .int x5) (ty := .int) (C := RX8) (T := TX8) (N := 33) hx hb hts hinX8 tyX8 tyX8_ok nmX8 hown hK.1 hP hD hS 0 rfl rfl 23 (by decide) w_1 (fun _ h9 => h9) rfl (by decide +kernel) rfl rfl (Nat.le_of_ble_eq_true rfl) dX8_stumbles_56 (fun H locs hP hD hS => ?_)
        replace hP : va_P (dC, dI) vwCl [(q_t, .inr (8, [.int t_thrown, .ref q_t_text, .int t_textSize, .int t_place, .int t_depth, .int t_noon, .int t_later, .int t_walkers, .ref q_t_beat, .ref q_t_kind, .ref q_t_readSnow, .int t_readWalkers, .ref q_t_readWalker, .ref q_t_page, .ref q_t_trial, .ref q_t_book, .int t_acts, .ref q_t_kept, .ref q_t_isKept, .int t_marks, .ref q_t_markStep, .ref q_t_markTread, .long t_seed, .int x5, .ref q_t_order, .int t_lineMany, .int t_lineOrder, .int t_whoseMany, .int t_whoseFirst, .int t_restMany, .int t_restFirst, .ref q_t_gains, .ref q_t_value])), (q_t_page, .inl (cI, 17, .inl t_page)), (q_t_trial, .inl (cI, 17, .inl o8)), (q_t_kind, .inl (cI, 5, .inl t_kind)), (q_t_beat, .inl (cI, 5, .inl t_beat))] H := hP
        replace hD : va_D A [(q_t, .inr (8, [.int t_thrown, .ref q_t_text, .int t_textSize, .int t_place, .int t_depth, .int t_noon, .int t_later, .int t_walkers, .ref q_t_beat, .ref q_t_kind, .ref q_t_readSnow, .int t_readWalkers, .ref q_t_readWalker, .ref q_t_page, .ref q_t_trial, .ref q_t_book, .int t_acts, .ref q_t_kept, .ref q_t_isKept, .int t_marks, .ref q_t_markStep, .ref q_t_markTread, .long t_seed, .int x5, .ref q_t_order, .int t_lineMany, .int t_lineOrder, .int t_whoseMany, .int t_whoseFirst, .int t_restMany, .int t_restFirst, .ref q_t_gains, .ref q_t_value])), (q_t_page, .inl (cI, 17, .inl t_page)), (q_t_trial, .inl (cI, 17, .inl o8)), (q_t_kind, .inl (cI, 5, .inl t_kind)), (q_t_beat, .inl (cI, 5, .inl t_beat))] := hD
        refine lv_aload_n hx hb dX8_stumbles_59 rfl (lv_at hl 0 rfl) ?_
        refine lv_aload_n hx hb dX8_stumbles_60 rfl (lv_at hl 0 rfl) ?_
        refine va_get (D := (dC, dI)) (ci := 8) (v := .ref q_t_trial) (C := RX8) (T := TX8) (N := 33) hx hb hts hinX8 hown hK.1 hP 0 rfl rfl 14 (by decide) w_2 (fun _ h9 => h9) rfl dX8_stumbles_61 ?_
        obtain ⟨⟨r11, o12⟩, e14, hf⟩ := bd_ok hf
        refine kVi (As := [.ref q_t_trial]) CF (cwV 1 hts gX8_stumbles_X8_goStep rfl rfl rfl (by decide +kernel) ⟨Nat.le_of_ble_eq_true rfl, Nat.le_of_ble_eq_true rfl⟩) PU_blind hP hD hS hA (va_recv hK.1 hP (ci := 8) (q0 := 0) rfl rfl) [0, 2, 3, 4] (fun h1 h2 h3 => PU_pre hK h1 A h2 h3) (c_X8_goStep l dC dI cI cZ q_t q_t_text q_t_beat q_t_kind q_t_readSnow q_t_readWalker q_t_page q_t_trial q_t_book q_t_kept q_t_isKept q_t_markStep q_t_markTread q_t_order q_t_gains q_t_value q_t_trial _ t_thrown t_textSize t_place t_depth t_noon t_later t_walkers t_readWalkers t_acts t_marks t_seed x5 t_lineMany t_lineOrder t_whoseMany t_whoseFirst t_restMany t_restFirst o8 t_kind t_beat 17 r11 o12 e14) rfl rfl rfl rfl hl.1 rfl (Nat.le_of_ble_eq_true rfl) dX8_stumbles_64 ⟨Nat.zero_le _, Nat.zero_le _⟩ (fun H locs hP hS => ?_)
        replace hP : va_P (dC, dI) vwCl [(q_t, .inr (8, [.int t_thrown, .ref q_t_text, .int t_textSize, .int t_place, .int t_depth, .int t_noon, .int t_later, .int t_walkers, .ref q_t_beat, .ref q_t_kind, .ref q_t_readSnow, .int t_readWalkers, .ref q_t_readWalker, .ref q_t_page, .ref q_t_trial, .ref q_t_book, .int t_acts, .ref q_t_kept, .ref q_t_isKept, .int t_marks, .ref q_t_markStep, .ref q_t_markTread, .long t_seed, .int x5, .ref q_t_order, .int t_lineMany, .int t_lineOrder, .int t_whoseMany, .int t_whoseFirst, .int t_restMany, .int t_restFirst, .ref q_t_gains, .ref q_t_value])), (q_t_page, .inl (cI, 17, .inl t_page)), (q_t_trial, .inl (cI, 17, .inl o12)), (q_t_kind, .inl (cI, 5, .inl t_kind)), (q_t_beat, .inl (cI, 5, .inl t_beat))] H := hP
        replace hD : va_D A [(q_t, .inr (8, [.int t_thrown, .ref q_t_text, .int t_textSize, .int t_place, .int t_depth, .int t_noon, .int t_later, .int t_walkers, .ref q_t_beat, .ref q_t_kind, .ref q_t_readSnow, .int t_readWalkers, .ref q_t_readWalker, .ref q_t_page, .ref q_t_trial, .ref q_t_book, .int t_acts, .ref q_t_kept, .ref q_t_isKept, .int t_marks, .ref q_t_markStep, .ref q_t_markTread, .long t_seed, .int x5, .ref q_t_order, .int t_lineMany, .int t_lineOrder, .int t_whoseMany, .int t_whoseFirst, .int t_restMany, .int t_restFirst, .ref q_t_gains, .ref q_t_value])), (q_t_page, .inl (cI, 17, .inl t_page)), (q_t_trial, .inl (cI, 17, .inl o12)), (q_t_kind, .inl (cI, 5, .inl t_kind)), (q_t_beat, .inl (cI, 5, .inl t_beat))] := wd hD rfl
        refine lv_pop hx hb dX8_stumbles_67 rfl ?_
        refine lv_iload hx hb dX8_stumbles_68 (lv_at hl 5 rfl) ?_
        obtain ⟨r15, e17, hf⟩ := bd_ok hf
        refine kSi (As := [.int x5]) CF (va_cwS 1 hts gX8_stumbles_X8_many rfl rfl rfl (by decide +kernel) ⟨Nat.le_of_ble_eq_true rfl, Nat.le_of_ble_eq_true rfl⟩) PU_blind hP hD hS hA [] (fun h1 h2 h3 => PU_pre hK h1 A h2 h3) (c_X8_many l dC dI cI cZ _ x5 r15 e17) rfl rfl rfl rfl hl.1 rfl (Nat.le_of_ble_eq_true rfl) dX8_stumbles_70 ⟨Nat.zero_le _, Nat.zero_le _⟩ (fun H locs hP hS => ?_)
        replace hP : va_P (dC, dI) vwCl [(q_t, .inr (8, [.int t_thrown, .ref q_t_text, .int t_textSize, .int t_place, .int t_depth, .int t_noon, .int t_later, .int t_walkers, .ref q_t_beat, .ref q_t_kind, .ref q_t_readSnow, .int t_readWalkers, .ref q_t_readWalker, .ref q_t_page, .ref q_t_trial, .ref q_t_book, .int t_acts, .ref q_t_kept, .ref q_t_isKept, .int t_marks, .ref q_t_markStep, .ref q_t_markTread, .long t_seed, .int x5, .ref q_t_order, .int t_lineMany, .int t_lineOrder, .int t_whoseMany, .int t_whoseFirst, .int t_restMany, .int t_restFirst, .ref q_t_gains, .ref q_t_value])), (q_t_page, .inl (cI, 17, .inl t_page)), (q_t_trial, .inl (cI, 17, .inl o12)), (q_t_kind, .inl (cI, 5, .inl t_kind)), (q_t_beat, .inl (cI, 5, .inl t_beat))] H := hP
        refine lv_istore (lv' := [(6, .int r15), (0, .ref q_t), (1, .int x1), (2, .int x2), (3, .int x3), (4, .int x4), (5, .int x5)]) hx hb dX8_stumbles_73 hl (by decide) rfl (fun ls hl => ?_)
        refine lv_iload hx hb dX8_stumbles_75 (lv_at hl 5 rfl) ?_
        refine lv_aload_n hx hb dX8_stumbles_77 rfl (lv_at hl 1 rfl) ?_
        refine lv_aload_n hx hb dX8_stumbles_78 rfl (lv_at hl 1 rfl) ?_
        refine va_get (D := (dC, dI)) (ci := 8) (v := .ref q_t_trial) (C := RX8) (T := TX8) (N := 33) hx hb hts hinX8 hown hK.1 hP 0 rfl rfl 14 (by decide) w_2 (fun _ h9 => h9) rfl dX8_stumbles_79 ?_
        obtain ⟨r18, e20, hf⟩ := bd_ok hf
        refine kVi (As := [.ref q_t_trial]) CF (cwV 1 hts gX8_stumbles_X8_up rfl rfl rfl (by decide +kernel) ⟨Nat.le_of_ble_eq_true rfl, Nat.le_of_ble_eq_true rfl⟩) PU_blind hP hD hS hA (va_recv hK.1 hP (ci := 8) (q0 := 0) rfl rfl) [0, 2] (fun h1 h2 h3 => PU_pre hK h1 A h2 h3) (c_X8_up l dC dI cI cZ q_t q_t_text q_t_beat q_t_kind q_t_readSnow q_t_readWalker q_t_page q_t_trial q_t_book q_t_kept q_t_isKept q_t_markStep q_t_markTread q_t_order q_t_gains q_t_value q_t_trial _ t_thrown t_textSize t_place t_depth t_noon t_later t_walkers t_readWalkers t_acts t_marks t_seed x5 t_lineMany t_lineOrder t_whoseMany t_whoseFirst t_restMany t_restFirst o12 17 r18 e20) rfl rfl rfl rfl hl.1 rfl (Nat.le_of_ble_eq_true rfl) dX8_stumbles_82 ⟨Nat.zero_le _, Nat.zero_le _⟩ (fun H locs hP hS => ?_)
        replace hP : va_P (dC, dI) vwCl [(q_t, .inr (8, [.int t_thrown, .ref q_t_text, .int t_textSize, .int t_place, .int t_depth, .int t_noon, .int t_later, .int t_walkers, .ref q_t_beat, .ref q_t_kind, .ref q_t_readSnow, .int t_readWalkers, .ref q_t_readWalker, .ref q_t_page, .ref q_t_trial, .ref q_t_book, .int t_acts, .ref q_t_kept, .ref q_t_isKept, .int t_marks, .ref q_t_markStep, .ref q_t_markTread, .long t_seed, .int x5, .ref q_t_order, .int t_lineMany, .int t_lineOrder, .int t_whoseMany, .int t_whoseFirst, .int t_restMany, .int t_restFirst, .ref q_t_gains, .ref q_t_value])), (q_t_page, .inl (cI, 17, .inl t_page)), (q_t_trial, .inl (cI, 17, .inl o12)), (q_t_kind, .inl (cI, 5, .inl t_kind)), (q_t_beat, .inl (cI, 5, .inl t_beat))] H := hP
        obtain ⟨r21, e23, hf⟩ := bd_ok hf
        refine kSi (As := [.int r18]) CF (va_cwS 1 hts gX8_stumbles_X8_many rfl rfl rfl (by decide +kernel) ⟨Nat.le_of_ble_eq_true rfl, Nat.le_of_ble_eq_true rfl⟩) PU_blind hP hD hS hA [] (fun h1 h2 h3 => PU_pre hK h1 A h2 h3) (c_X8_many l dC dI cI cZ _ r18 r21 e23) rfl rfl rfl rfl hl.1 rfl (Nat.le_of_ble_eq_true rfl) dX8_stumbles_85 ⟨Nat.zero_le _, Nat.zero_le _⟩ (fun H locs hP hS => ?_)
        replace hP : va_P (dC, dI) vwCl [(q_t, .inr (8, [.int t_thrown, .ref q_t_text, .int t_textSize, .int t_place, .int t_depth, .int t_noon, .int t_later, .int t_walkers, .ref q_t_beat, .ref q_t_kind, .ref q_t_readSnow, .int t_readWalkers, .ref q_t_readWalker, .ref q_t_page, .ref q_t_trial, .ref q_t_book, .int t_acts, .ref q_t_kept, .ref q_t_isKept, .int t_marks, .ref q_t_markStep, .ref q_t_markTread, .long t_seed, .int x5, .ref q_t_order, .int t_lineMany, .int t_lineOrder, .int t_whoseMany, .int t_whoseFirst, .int t_restMany, .int t_restFirst, .ref q_t_gains, .ref q_t_value])), (q_t_page, .inl (cI, 17, .inl t_page)), (q_t_trial, .inl (cI, 17, .inl o12)), (q_t_kind, .inl (cI, 5, .inl t_kind)), (q_t_beat, .inl (cI, 5, .inl t_beat))] H := hP
        refine lv_iload_n hx hb dX8_stumbles_88 rfl (lv_at hl 2 rfl) ?_
        refine lv_icmp_lt (tgt := 116) hx hb dX8_stumbles_89 (by decide) (fun hc => ?_) (fun hc => ?_)
        · replace hf := ip hc hf
          refine lv_iconst (v := 0) hx hb dX8_stumbles_116 (by decide) ?_
          exact h_117 x5 0 x4 x5 o12 _ _ _ hP hS (lv_sub hl [1, 2, 3, 4, 6] rfl) hf
        · replace hf := iq hc hf
          refine lv_iload_n hx hb dX8_stumbles_92 rfl (lv_at hl 3 rfl) ?_
          refine lv_iload hx hb dX8_stumbles_93 (lv_at hl 0 rfl) ?_
          obtain ⟨r24, e26, hf⟩ := bd_ok hf
          refine kSi (As := [.int x2, .int r15]) CF (va_cwS 2 hts gX8_stumbles_X8_power rfl rfl rfl (by decide +kernel) ⟨Nat.le_of_ble_eq_true rfl, Nat.le_of_ble_eq_true rfl⟩) PU_blind hP hD hS hA [] (fun h1 h2 h3 => PU_pre hK h1 A h2 h3) (c_X8_power l dC dI cI cZ _ x2 r15 r24 e26) rfl rfl rfl rfl hl.1 rfl (Nat.le_of_ble_eq_true rfl) dX8_stumbles_95 ⟨Nat.zero_le _, Nat.zero_le _⟩ (fun H locs hP hS => ?_)
          replace hP : va_P (dC, dI) vwCl [(q_t, .inr (8, [.int t_thrown, .ref q_t_text, .int t_textSize, .int t_place, .int t_depth, .int t_noon, .int t_later, .int t_walkers, .ref q_t_beat, .ref q_t_kind, .ref q_t_readSnow, .int t_readWalkers, .ref q_t_readWalker, .ref q_t_page, .ref q_t_trial, .ref q_t_book, .int t_acts, .ref q_t_kept, .ref q_t_isKept, .int t_marks, .ref q_t_markStep, .ref q_t_markTread, .long t_seed, .int x5, .ref q_t_order, .int t_lineMany, .int t_lineOrder, .int t_whoseMany, .int t_whoseFirst, .int t_restMany, .int t_restFirst, .ref q_t_gains, .ref q_t_value])), (q_t_page, .inl (cI, 17, .inl t_page)), (q_t_trial, .inl (cI, 17, .inl o12)), (q_t_kind, .inl (cI, 5, .inl t_kind)), (q_t_beat, .inl (cI, 5, .inl t_beat))] H := hP
          refine lv_bipush (v := 10) hx hb dX8_stumbles_98 (by decide) ?_
          refine lv_iload_n hx hb dX8_stumbles_100 rfl (lv_at hl 3 rfl) ?_
          refine lv_isub hx hb dX8_stumbles_101 ?_
          refine lv_aload_n hx hb dX8_stumbles_102 rfl (lv_at hl 1 rfl) ?_
          refine va_get (D := (dC, dI)) (ci := 8) (v := .int t_walkers) (C := RX8) (T := TX8) (N := 33) hx hb hts hinX8 hown hK.1 hP 0 rfl rfl 7 (by decide) w_0 (fun _ h9 => h9) rfl dX8_stumbles_103 ?_
          refine lv_iload hx hb dX8_stumbles_106 (lv_at hl 0 rfl) ?_
          refine lv_isub hx hb dX8_stumbles_108 ?_
          obtain ⟨r27, e29, hf⟩ := bd_ok hf
          refine kSi (As := [.int (10 - x2), .int (t_walkers - r15)]) CF (va_cwS 2 hts gX8_stumbles_X8_power rfl rfl rfl (by decide +kernel) ⟨Nat.le_of_ble_eq_true rfl, Nat.le_of_ble_eq_true rfl⟩) PU_blind hP hD hS hA [] (fun h1 h2 h3 => PU_pre hK h1 A h2 h3) (c_X8_power l dC dI cI cZ _ (10 - x2) (t_walkers - r15) r27 e29) rfl rfl rfl rfl hl.1 rfl (Nat.le_of_ble_eq_true rfl) dX8_stumbles_109 ⟨Nat.zero_le _, Nat.zero_le _⟩ (fun H locs hP hS => ?_)
          replace hP : va_P (dC, dI) vwCl [(q_t, .inr (8, [.int t_thrown, .ref q_t_text, .int t_textSize, .int t_place, .int t_depth, .int t_noon, .int t_later, .int t_walkers, .ref q_t_beat, .ref q_t_kind, .ref q_t_readSnow, .int t_readWalkers, .ref q_t_readWalker, .ref q_t_page, .ref q_t_trial, .ref q_t_book, .int t_acts, .ref q_t_kept, .ref q_t_isKept, .int t_marks, .ref q_t_markStep, .ref q_t_markTread, .long t_seed, .int x5, .ref q_t_order, .int t_lineMany, .int t_lineOrder, .int t_whoseMany, .int t_whoseFirst, .int t_restMany, .int t_restFirst, .ref q_t_gains, .ref q_t_value])), (q_t_page, .inl (cI, 17, .inl t_page)), (q_t_trial, .inl (cI, 17, .inl o12)), (q_t_kind, .inl (cI, 5, .inl t_kind)), (q_t_beat, .inl (cI, 5, .inl t_beat))] H := hP
          refine lv_imul hx hb dX8_stumbles_112 ?_
          refine lv_goto (tgt := 117) hx hb dX8_stumbles_113 (by decide) ?_
          exact h_117 x5 (r24 * r27) x4 x5 o12 _ _ _ hP hS (lv_sub hl [1, 2, 3, 4, 6] rfl) hf
  rw [f_X8_stumbles] at hf
  refine lv_aload_n hx hb dX8_stumbles_0 rfl (lv_at hl 0 rfl) ?_
  refine lv_iconst (v := 0) hx hb dX8_stumbles_1 (by decide) ?_
  refine va_put (D := (dC, dI)) (ci := 8) (v := .int 0) (ty := .int) (C := RX8) (T := TX8) (N := 33) hx hb hts hinX8 tyX8 tyX8_ok nmX8 hown hK.1 hP hD hS 0 rfl rfl 0 (by decide) w_3 (fun _ h9 => h9) rfl (by decide +kernel) rfl rfl (Nat.le_of_ble_eq_true rfl) dX8_stumbles_2 (fun H locs hP hD hS => ?_)
  replace hP : va_P (dC, dI) vwCl [(q_t, .inr (8, [.int 0, .ref q_t_text, .int t_textSize, .int t_place, .int t_depth, .int t_noon, .int t_later, .int t_walkers, .ref q_t_beat, .ref q_t_kind, .ref q_t_readSnow, .int t_readWalkers, .ref q_t_readWalker, .ref q_t_page, .ref q_t_trial, .ref q_t_book, .int t_acts, .ref q_t_kept, .ref q_t_isKept, .int t_marks, .ref q_t_markStep, .ref q_t_markTread, .long t_seed, .int t_stumbled, .ref q_t_order, .int t_lineMany, .int t_lineOrder, .int t_whoseMany, .int t_whoseFirst, .int t_restMany, .int t_restFirst, .ref q_t_gains, .ref q_t_value])), (q_t_page, .inl (cI, 17, .inl t_page)), (q_t_trial, .inl (cI, 17, .inl t_trial)), (q_t_kind, .inl (cI, 5, .inl t_kind)), (q_t_beat, .inl (cI, 5, .inl t_beat))] H := hP
  replace hD : va_D A [(q_t, .inr (8, [.int 0, .ref q_t_text, .int t_textSize, .int t_place, .int t_depth, .int t_noon, .int t_later, .int t_walkers, .ref q_t_beat, .ref q_t_kind, .ref q_t_readSnow, .int t_readWalkers, .ref q_t_readWalker, .ref q_t_page, .ref q_t_trial, .ref q_t_book, .int t_acts, .ref q_t_kept, .ref q_t_isKept, .int t_marks, .ref q_t_markStep, .ref q_t_markTread, .long t_seed, .int t_stumbled, .ref q_t_order, .int t_lineMany, .int t_lineOrder, .int t_whoseMany, .int t_whoseFirst, .int t_restMany, .int t_restFirst, .ref q_t_gains, .ref q_t_value])), (q_t_page, .inl (cI, 17, .inl t_page)), (q_t_trial, .inl (cI, 17, .inl t_trial)), (q_t_kind, .inl (cI, 5, .inl t_kind)), (q_t_beat, .inl (cI, 5, .inl t_beat))] := hD
  refine lv_iload_n hx hb dX8_stumbles_5 rfl (lv_at hl 1 rfl) ?_
  refine lv_i2l hx hb dX8_stumbles_6 rfl ?_
  refine lv_lconst (v := 0) hx hb dX8_stumbles_7 (by decide) ?_
  refine lv_ldc2 (v := 5) hx hb hown w_4 dX8_stumbles_8 ?_
  obtain ⟨r30, e32, hf⟩ := bd_ok hf
  refine kSi (As := [.long ((x1).toInt64), .long (0 : Int64), .long (5 : Int64)]) CF (va_cwS 3 hts gX8_stumbles_X8_in rfl rfl rfl (by decide +kernel) ⟨Nat.le_of_ble_eq_true rfl, Nat.le_of_ble_eq_true rfl⟩) PU_blind hP hD hS hA [] (fun h1 h2 h3 => PU_pre hK h1 A h2 h3) (c_X8_in l dC dI cI cZ _ ((x1).toInt64) (0 : Int64) (5 : Int64) r30 e32) rfl rfl rfl rfl hl.1 rfl (Nat.le_of_ble_eq_true rfl) dX8_stumbles_11 ⟨Nat.zero_le _, Nat.zero_le _⟩ (fun H locs hP hS => ?_)
  replace hP : va_P (dC, dI) vwCl [(q_t, .inr (8, [.int 0, .ref q_t_text, .int t_textSize, .int t_place, .int t_depth, .int t_noon, .int t_later, .int t_walkers, .ref q_t_beat, .ref q_t_kind, .ref q_t_readSnow, .int t_readWalkers, .ref q_t_readWalker, .ref q_t_page, .ref q_t_trial, .ref q_t_book, .int t_acts, .ref q_t_kept, .ref q_t_isKept, .int t_marks, .ref q_t_markStep, .ref q_t_markTread, .long t_seed, .int t_stumbled, .ref q_t_order, .int t_lineMany, .int t_lineOrder, .int t_whoseMany, .int t_whoseFirst, .int t_restMany, .int t_restFirst, .ref q_t_gains, .ref q_t_value])), (q_t_page, .inl (cI, 17, .inl t_page)), (q_t_trial, .inl (cI, 17, .inl t_trial)), (q_t_kind, .inl (cI, 5, .inl t_kind)), (q_t_beat, .inl (cI, 5, .inl t_beat))] H := hP
  refine lv_if_eq (tgt := 29) hx hb dX8_stumbles_14 (by decide) (fun hc => ?_) (fun hc => ?_)
  · replace hf := ip hc hf
    refine lv_bipush (v := (-2)) hx hb dX8_stumbles_29 (by decide) ?_
    obtain ⟨e0, hf⟩ := ij2 hf
    obtain ⟨e1, hf⟩ := ijc hf
    obtain ⟨e2, hf⟩ := ijc hf
    have e3 := hf
    refine W.eq (congrArg (fun z => F0 m 31 ls [.int z]) e0) ?_
    exact hret _ _ _ _ (by rw [← e1, ← e2, ← e3]; exact hP) hS dX8_stumbles_31
  · replace hf := iq hc hf
    refine lv_iload_n hx hb dX8_stumbles_17 rfl (lv_at hl 2 rfl) ?_
    refine lv_i2l hx hb dX8_stumbles_18 rfl ?_
    refine lv_lconst (v := 0) hx hb dX8_stumbles_19 (by decide) ?_
    refine lv_ldc2 (v := 10) hx hb hown w_5 dX8_stumbles_20 ?_
    obtain ⟨r33, e35, hf⟩ := bd_ok hf
    refine kSi (As := [.long ((x2).toInt64), .long (0 : Int64), .long (10 : Int64)]) CF (va_cwS 3 hts gX8_stumbles_X8_in rfl rfl rfl (by decide +kernel) ⟨Nat.le_of_ble_eq_true rfl, Nat.le_of_ble_eq_true rfl⟩) PU_blind hP hD hS hA [] (fun h1 h2 h3 => PU_pre hK h1 A h2 h3) (c_X8_in l dC dI cI cZ _ ((x2).toInt64) (0 : Int64) (10 : Int64) r33 e35) rfl rfl rfl rfl hl.1 rfl (Nat.le_of_ble_eq_true rfl) dX8_stumbles_23 ⟨Nat.zero_le _, Nat.zero_le _⟩ (fun H locs hP hS => ?_)
    replace hP : va_P (dC, dI) vwCl [(q_t, .inr (8, [.int 0, .ref q_t_text, .int t_textSize, .int t_place, .int t_depth, .int t_noon, .int t_later, .int t_walkers, .ref q_t_beat, .ref q_t_kind, .ref q_t_readSnow, .int t_readWalkers, .ref q_t_readWalker, .ref q_t_page, .ref q_t_trial, .ref q_t_book, .int t_acts, .ref q_t_kept, .ref q_t_isKept, .int t_marks, .ref q_t_markStep, .ref q_t_markTread, .long t_seed, .int t_stumbled, .ref q_t_order, .int t_lineMany, .int t_lineOrder, .int t_whoseMany, .int t_whoseFirst, .int t_restMany, .int t_restFirst, .ref q_t_gains, .ref q_t_value])), (q_t_page, .inl (cI, 17, .inl t_page)), (q_t_trial, .inl (cI, 17, .inl t_trial)), (q_t_kind, .inl (cI, 5, .inl t_kind)), (q_t_beat, .inl (cI, 5, .inl t_beat))] H := hP
    refine lv_if_ne (tgt := 32) hx hb dX8_stumbles_26 (by decide) (fun hc => ?_) (fun hc => ?_)
    · replace hf := iq hc hf
      refine lv_iconst (v := 0) hx hb dX8_stumbles_32 (by decide) ?_
      refine lv_istore (lv' := [(4, .int 0), (0, .ref q_t), (1, .int x1), (2, .int x2), (3, .int x3)]) hx hb dX8_stumbles_33 hl (by decide) rfl (fun ls hl => ?_)
      refine lv_iconst (v := 0) hx hb dX8_stumbles_35 (by decide) ?_
      refine lv_istore (lv' := [(5, .int 0), (4, .int 0), (0, .ref q_t), (1, .int x1), (2, .int x2), (3, .int x3)]) hx hb dX8_stumbles_36 hl (by decide) rfl (fun ls hl => ?_)
      exact h_38 x1 x2 x3 0 fuelC 0 0 t_stumbled t_trial _ _ _ hP hS (lv_sub hl [2, 3, 4, 5, 1, 0] rfl) hf
    · replace hf := ip hc hf
      refine lv_bipush (v := (-2)) hx hb dX8_stumbles_29 (by decide) ?_
      obtain ⟨e0, hf⟩ := ij2 hf
      obtain ⟨e1, hf⟩ := ijc hf
      obtain ⟨e2, hf⟩ := ijc hf
      have e3 := hf
      refine W.eq (congrArg (fun z => F0 m 31 ls [.int z]) e0) ?_
      exact hret _ _ _ _ (by rw [← e1, ← e2, ← e3]; exact hP) hS dX8_stumbles_31
