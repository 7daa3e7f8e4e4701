-- X8_snowAt X8_treads X8_goStep X8_goSteps X8_up X8_treadNow X8_strains X8_about X8_placeOf
abbrev rm_X8_snowAt : Room := { frames := 0, cells := 0, slots := 0, locals := 0 }
set_option maxHeartbeats 4000000 in
set_option maxRecDepth 100000 in
theorem c_X8_snowAt (l : Launch) (dC : Nat → ClassId) (dI : Nat → Nat → Nat) (cI cZ : ClassId) (q_t q_t_text q_t_beat q_t_kind q_t_readSnow q_t_readWalker q_t_page q_t_trial q_t_book q_t_kept q_t_isKept q_t_markStep q_t_markTread q_t_order q_t_gains q_t_value : Nat) (sz : Nat) (t_thrown : Int32) (t_textSize : Int32) (t_place : Int32) (t_depth : Int32) (t_noon : Int32) (t_later : Int32) (t_walkers : Int32) (t_readWalkers : Int32) (t_acts : Int32) (t_marks : Int32) (t_seed : Int64) (t_stumbled : Int32) (t_lineMany : Int32) (t_lineOrder : Int32) (t_whoseMany : Int32) (t_whoseFirst : Int32) (t_restMany : Int32) (t_restFirst : Int32) (x1 : Int32) (r_ : Int32) (hf : f_X8_snowAt x1 t_depth t_noon t_later = some r_) : Met l yX8_snowAt wsX8_snowAt rm_X8_snowAt (va_Pc [.ref q_t, .int x1] (PU (dC, dI) cI cZ [(q_t, .inr (8, [.int t_thrown, .ref q_t_text, .int t_textSize, .int t_place, .int t_depth, .int t_noon, .int t_later, .int t_walkers, .ref q_t_beat, .ref q_t_kind, .ref q_t_readSnow, .int t_readWalkers, .ref q_t_readWalker, .ref q_t_page, .ref q_t_trial, .ref q_t_book, .int t_acts, .ref q_t_kept, .ref q_t_isKept, .int t_marks, .ref q_t_markStep, .ref q_t_markTread, .long t_seed, .int t_stumbled, .ref q_t_order, .int t_lineMany, .int t_lineOrder, .int t_whoseMany, .int t_whoseFirst, .int t_restMany, .int t_restFirst, .ref q_t_gains, .ref q_t_value]))] sz)) (va_Qi (fun (r : Int32) (_ : Unit) => r = r_) (fun _ t => va_P (dC, dI) vwCl [(q_t, .inr (8, [.int t_thrown, .ref q_t_text, .int t_textSize, .int t_place, .int t_depth, .int t_noon, .int t_later, .int t_walkers, .ref q_t_beat, .ref q_t_kind, .ref q_t_readSnow, .int t_readWalkers, .ref q_t_readWalker, .ref q_t_page, .ref q_t_trial, .ref q_t_book, .int t_acts, .ref q_t_kept, .ref q_t_isKept, .int t_marks, .ref q_t_markStep, .ref q_t_markTread, .long t_seed, .int t_stumbled, .ref q_t_order, .int t_lineMany, .int t_lineOrder, .int t_whoseMany, .int t_whoseFirst, .int t_restMany, .int t_restFirst, .ref q_t_gains, .ref q_t_value]))] t.heap) (va_A [(q_t, .inr (8, [.int t_thrown, .ref q_t_text, .int t_textSize, .int t_place, .int t_depth, .int t_noon, .int t_later, .int t_walkers, .ref q_t_beat, .ref q_t_kind, .ref q_t_readSnow, .int t_readWalkers, .ref q_t_readWalker, .ref q_t_page, .ref q_t_trial, .ref q_t_book, .int t_acts, .ref q_t_kept, .ref q_t_isKept, .int t_marks, .ref q_t_markStep, .ref q_t_markTread, .long t_seed, .int t_stumbled, .ref q_t_order, .int t_lineMany, .int t_lineOrder, .int t_whoseMany, .int t_whoseFirst, .int t_restMany, .int t_restFirst, .ref q_t_gains, .ref q_t_value]))] sz)) 0 0 (va_A [(q_t, .inr (8, [.int t_thrown, .ref q_t_text, .int t_textSize, .int t_place, .int t_depth, .int t_noon, .int t_later, .int t_walkers, .ref q_t_beat, .ref q_t_kind, .ref q_t_readSnow, .int t_readWalkers, .ref q_t_readWalker, .ref q_t_page, .ref q_t_trial, .ref q_t_book, .int t_acts, .ref q_t_kept, .ref q_t_isKept, .int t_marks, .ref q_t_markStep, .ref q_t_markTread, .long t_seed, .int t_stumbled, .ref q_t_order, .int t_lineMany, .int t_lineOrder, .int t_whoseMany, .int t_whoseFirst, .int t_restMany, .int t_restFirst, .ref q_t_gains, .ref q_t_value]))] sz) := by
  refine MetI (cc := cX8_snowAt) (maxL := 2) (by decide) rfl (Nat.le_of_ble_eq_true rfl) (fun _ h => h) ?_
  intro p e s m args below meth c A Q ls hx CF hK hA hD hP hS hl hB hAe hsz hret
  have hb := CF.2.1
  have hml := CF.2.2.1
  have hown := CF.2.2.2.1
  have hts := CF.2.2.2.2
  have hD0 := hD
  replace hl : lv_has ls 2 [(0, .ref q_t), (1, .int x1)] := hl
  have hinX8 : ∀ w ∈ wsX80, w ∈ wsX8_snowAt := fun _ h => List.mem_cons_of_mem _ (List.mem_append_right _ h)
  have w_0 := hts (.fieldLink RX8 96 "PassInStepModel" "noon" "I") (by decide +kernel)
  have w_1 := hts (.fieldLink RX8 17 "PassInStepModel" "later" "I") (by decide +kernel)
  have w_2 := hts (.fieldLink RX8 13 "PassInStepModel" "depth" "I") (by decide +kernel)
  rw [f_X8_snowAt] at hf
  refine lv_iload_n hx hb dX8_snowAt_0 rfl (lv_at hl 1 rfl) ?_
  refine lv_aload_n hx hb dX8_snowAt_1 rfl (lv_at hl 0 rfl) ?_
  refine va_get (D := (dC, dI)) (ci := 8) (v := .int t_noon) (C := RX8) (T := TX8) (N := 33) hx hb hts hinX8 hown hK.1 hP 0 rfl rfl 5 (by decide) w_0 (fun _ h9 => h9) rfl dX8_snowAt_2 ?_
  refine lv_icmp_ge (tgt := 15) hx hb dX8_snowAt_5 (by decide) (fun hc => ?_) (fun hc => ?_)
  · replace hf := ip hc hf
    refine lv_aload_n hx hb dX8_snowAt_15 rfl (lv_at hl 0 rfl) ?_
    refine va_get (D := (dC, dI)) (ci := 8) (v := .int t_later) (C := RX8) (T := TX8) (N := 33) hx hb hts hinX8 hown hK.1 hP 0 rfl rfl 6 (by decide) w_1 (fun _ h9 => h9) rfl dX8_snowAt_16 ?_
    have e0 := ij1 hf
    refine W.eq (congrArg (fun z => F0 m 19 ls [.int z]) e0) ?_
    exact hret _ _ _ _ hP hS dX8_snowAt_19
  · replace hf := iq hc hf
    refine lv_aload_n hx hb dX8_snowAt_8 rfl (lv_at hl 0 rfl) ?_
    refine va_get (D := (dC, dI)) (ci := 8) (v := .int t_depth) (C := RX8) (T := TX8) (N := 33) hx hb hts hinX8 hown hK.1 hP 0 rfl rfl 4 (by decide) w_2 (fun _ h9 => h9) rfl dX8_snowAt_9 ?_
    refine lv_goto (tgt := 19) hx hb dX8_snowAt_12 (by decide) ?_
    have e0 := ij1 hf
    refine W.eq (congrArg (fun z => F0 m 19 ls [.int z]) e0) ?_
    exact hret _ _ _ _ hP hS dX8_snowAt_19
abbrev rm_X8_treads : Room := { frames := 2, cells := 0, slots := 0, locals := 46 }
set_option maxHeartbeats 4000000 in
set_option maxRecDepth 100000 in
theorem c_X8_treads (l : Launch) (dC : Nat → ClassId) (dI : Nat → Nat → Nat) (cI cZ : ClassId) (q_t q_t_text q_t_beat q_t_kind q_t_readSnow q_t_readWalker q_t_page q_t_trial q_t_book q_t_kept q_t_isKept q_t_markStep q_t_markTread q_t_order q_t_gains q_t_value q_a1 : Nat) (sz : Nat) (t_thrown : Int32) (t_textSize : Int32) (t_place : Int32) (t_depth : Int32) (t_noon : Int32) (t_later : Int32) (t_walkers : Int32) (t_readWalkers : Int32) (t_acts : Int32) (t_marks : Int32) (t_seed : Int64) (t_stumbled : Int32) (t_lineMany : Int32) (t_lineOrder : Int32) (t_whoseMany : Int32) (t_whoseFirst : Int32) (t_restMany : Int32) (t_restFirst : Int32) (t_kind : Nat → Int32) (a1 : Nat → Int32) (t_beat : Nat → Int32) (n_a1 : Nat) (x2 : Int32) (x3 : Int32) (r_ : Int32) (hf : f_X8_treads x2 x3 n_a1 t_stumbled t_kind a1 t_beat = some r_) : Met l yX8_treads wsX8_treads rm_X8_treads (va_Pc [.ref q_t, .ref q_a1, .int x2, .int x3] (PU (dC, dI) cI cZ [(q_t, .inr (8, [.int t_thrown, .ref q_t_text, .int t_textSize, .int t_place, .int t_depth, .int t_noon, .int t_later, .int t_walkers, .ref q_t_beat, .ref q_t_kind, .ref q_t_readSnow, .int t_readWalkers, .ref q_t_readWalker, .ref q_t_page, .ref q_t_trial, .ref q_t_book, .int t_acts, .ref q_t_kept, .ref q_t_isKept, .int t_marks, .ref q_t_markStep, .ref q_t_markTread, .long t_seed, .int t_stumbled, .ref q_t_order, .int t_lineMany, .int t_lineOrder, .int t_whoseMany, .int t_whoseFirst, .int t_restMany, .int t_restFirst, .ref q_t_gains, .ref q_t_value])), (q_t_kind, .inl (cI, 5, .inl t_kind)), (q_a1, .inl (cI, n_a1, .inl a1)), (q_t_beat, .inl (cI, 5, .inl t_beat))] sz)) (va_Qi (fun (r : Int32) (_ : Unit) => r = r_) (fun _ t => va_P (dC, dI) vwCl [(q_t, .inr (8, [.int t_thrown, .ref q_t_text, .int t_textSize, .int t_place, .int t_depth, .int t_noon, .int t_later, .int t_walkers, .ref q_t_beat, .ref q_t_kind, .ref q_t_readSnow, .int t_readWalkers, .ref q_t_readWalker, .ref q_t_page, .ref q_t_trial, .ref q_t_book, .int t_acts, .ref q_t_kept, .ref q_t_isKept, .int t_marks, .ref q_t_markStep, .ref q_t_markTread, .long t_seed, .int t_stumbled, .ref q_t_order, .int t_lineMany, .int t_lineOrder, .int t_whoseMany, .int t_whoseFirst, .int t_restMany, .int t_restFirst, .ref q_t_gains, .ref q_t_value])), (q_t_kind, .inl (cI, 5, .inl t_kind)), (q_a1, .inl (cI, n_a1, .inl a1)), (q_t_beat, .inl (cI, 5, .inl t_beat))] t.heap) (va_A [(q_t, .inr (8, [.int t_thrown, .ref q_t_text, .int t_textSize, .int t_place, .int t_depth, .int t_noon, .int t_later, .int t_walkers, .ref q_t_beat, .ref q_t_kind, .ref q_t_readSnow, .int t_readWalkers, .ref q_t_readWalker, .ref q_t_page, .ref q_t_trial, .ref q_t_book, .int t_acts, .ref q_t_kept, .ref q_t_isKept, .int t_marks, .ref q_t_markStep, .ref q_t_markTread, .long t_seed, .int t_stumbled, .ref q_t_order, .int t_lineMany, .int t_lineOrder, .int t_whoseMany, .int t_whoseFirst, .int t_restMany, .int t_restFirst, .ref q_t_gains, .ref q_t_value])), (q_t_kind, .inl (cI, 5, .inl t_kind)), (q_a1, .inl (cI, n_a1, .inl a1)), (q_t_beat, .inl (cI, 5, .inl t_beat))] sz)) 0 0 (va_A [(q_t, .inr (8, [.int t_thrown, .ref q_t_text, .int t_textSize, .int t_place, .int t_depth, .int t_noon, .int t_later, .int t_walkers, .ref q_t_beat, .ref q_t_kind, .ref q_t_readSnow, .int t_readWalkers, .ref q_t_readWalker, .ref q_t_page, .ref q_t_trial, .ref q_t_book, .int t_acts, .ref q_t_kept, .ref q_t_isKept, .int t_marks, .ref q_t_markStep, .ref q_t_markTread, .long t_seed, .int t_stumbled, .ref q_t_order, .int t_lineMany, .int t_lineOrder, .int t_whoseMany, .int t_whoseFirst, .int t_restMany, .int t_restFirst, .ref q_t_gains, .ref q_t_value])), (q_t_kind, .inl (cI, 5, .inl t_kind)), (q_a1, .inl (cI, n_a1, .inl a1)), (q_t_beat, .inl (cI, 5, .inl t_beat))] sz) := by
  refine MetI (cc := cX8_treads) (maxL := 4) (by decide) rfl (Nat.le_of_ble_eq_true rfl) (fun _ h => h) ?_
  intro p e s m args below meth c A Q ls hx CF hK hA hD hP hS hl hB hAe hsz hret
  have hb := CF.2.1
  have hml := CF.2.2.1
  have hown := CF.2.2.2.1
  have hts := CF.2.2.2.2
  have hD0 := hD
  replace hl : lv_has ls 4 [(0, .ref q_t), (1, .ref q_a1), (2, .int x2), (3, .int x3)] := hl
  have hinX8 : ∀ w ∈ wsX80, w ∈ wsX8_treads := fun _ h => List.mem_cons_of_mem _ (List.mem_append_right _ h)
  have w_0 := hts (.fieldLink RX8 23 "PassInStepModel" "kind" "[I") (by decide +kernel)
  have w_1 := hts (.fieldLink RX8 110 "PassInStepModel" "stumbled" "I") (by decide +kernel)
  rw [f_X8_treads] at hf
  refine lv_aload_n hx hb dX8_treads_0 rfl (lv_at hl 0 rfl) ?_
  refine va_get (D := (dC, dI)) (ci := 8) (v := .ref q_t_kind) (C := RX8) (T := TX8) (N := 33) hx hb hts hinX8 hown hK.1 hP 0 rfl rfl 9 (by decide) w_0 (fun _ h9 => h9) rfl dX8_treads_1 ?_
  refine lv_iload_n hx hb dX8_treads_4 rfl (lv_at hl 2 rfl) ?_
  refine kald hx hb hK.1 hP 1 0 rfl rfl dX8_treads_5 hf (fun v1 hf => ?_)
  refine lv_iconst (v := 2) hx hb dX8_treads_6 (by decide) ?_
  refine lv_icmp_ne (tgt := 31) hx hb dX8_treads_7 (by decide) (fun hc => ?_) (fun hc => ?_)
  · replace hf := iq hc hf
    refine lv_aload_n hx hb dX8_treads_31 rfl (lv_at hl 0 rfl) ?_
    refine lv_aload_n hx hb dX8_treads_32 rfl (lv_at hl 1 rfl) ?_
    refine lv_iload_n hx hb dX8_treads_33 rfl (lv_at hl 2 rfl) ?_
    refine lv_aload_n hx hb dX8_treads_34 rfl (lv_at hl 1 rfl) ?_
    refine lv_bipush (v := 16) hx hb dX8_treads_35 (by decide) ?_
    refine kald hx hb hK.1 hP 2 0 rfl rfl dX8_treads_37 hf (fun v2 hf => ?_)
    obtain ⟨r3, e5, hf⟩ := bd_ok hf
    refine kVi (As := [.ref q_a1, .int x2, .int v2]) CF (cwV 3 hts gX8_treads_X8_alone rfl rfl rfl (by decide +kernel) ⟨Nat.le_of_ble_eq_true rfl, Nat.le_of_ble_eq_true rfl⟩) PU_blind hP hD hS hA (va_recv hK.1 hP (ci := 8) (q0 := 0) rfl rfl) [0, 1, 2, 3] (fun h1 h2 h3 => PU_pre hK h1 A h2 h3) (c_X8_alone l dC dI cI cZ q_t q_t_text q_t_beat q_t_kind q_t_readSnow q_t_readWalker q_t_page q_t_trial q_t_book q_t_kept q_t_isKept q_t_markStep q_t_markTread q_t_order q_t_gains q_t_value q_a1 _ t_thrown t_textSize t_place t_depth t_noon t_later t_walkers t_readWalkers t_acts t_marks t_seed t_stumbled t_lineMany t_lineOrder t_whoseMany t_whoseFirst t_restMany t_restFirst t_kind a1 t_beat n_a1 x2 v2 r3 e5) rfl rfl rfl rfl hl.1 rfl (Nat.le_of_ble_eq_true rfl) dX8_treads_38 ⟨Nat.zero_le _, Nat.zero_le _⟩ (fun H locs hP hS => ?_)
    replace hP : va_P (dC, dI) vwCl [(q_t, .inr (8, [.int t_thrown, .ref q_t_text, .int t_textSize, .int t_place, .int t_depth, .int t_noon, .int t_later, .int t_walkers, .ref q_t_beat, .ref q_t_kind, .ref q_t_readSnow, .int t_readWalkers, .ref q_t_readWalker, .ref q_t_page, .ref q_t_trial, .ref q_t_book, .int t_acts, .ref q_t_kept, .ref q_t_isKept, .int t_marks, .ref q_t_markStep, .ref q_t_markTread, .long t_seed, .int t_stumbled, .ref q_t_order, .int t_lineMany, .int t_lineOrder, .int t_whoseMany, .int t_whoseFirst, .int t_restMany, .int t_restFirst, .ref q_t_gains, .ref q_t_value])), (q_t_kind, .inl (cI, 5, .inl t_kind)), (q_a1, .inl (cI, n_a1, .inl a1)), (q_t_beat, .inl (cI, 5, .inl t_beat))] H := hP
    refine lv_aload_n hx hb dX8_treads_41 rfl (lv_at hl 0 rfl) ?_
    refine va_get (D := (dC, dI)) (ci := 8) (v := .int t_stumbled) (C := RX8) (T := TX8) (N := 33) hx hb hts hinX8 hown hK.1 hP 0 rfl rfl 23 (by decide) w_1 (fun _ h9 => h9) rfl dX8_treads_42 ?_
    refine lv_iload_n hx hb dX8_treads_45 rfl (lv_at hl 2 rfl) ?_
    obtain ⟨r6, e8, hf⟩ := bd_ok hf
    refine kSi (As := [.int t_stumbled, .int x2]) CF (va_cwS 2 hts gX8_treads_X8_has rfl rfl rfl (by decide +kernel) ⟨Nat.le_of_ble_eq_true rfl, Nat.le_of_ble_eq_true rfl⟩) PU_blind hP hD hS hA [] (fun h1 h2 h3 => PU_pre hK h1 A h2 h3) (c_X8_has l dC dI cI cZ _ t_stumbled x2 r6 e8) rfl rfl rfl rfl hl.1 rfl (Nat.le_of_ble_eq_true rfl) dX8_treads_46 ⟨Nat.zero_le _, Nat.zero_le _⟩ (fun H locs hP hS => ?_)
    replace hP : va_P (dC, dI) vwCl [(q_t, .inr (8, [.int t_thrown, .ref q_t_text, .int t_textSize, .int t_place, .int t_depth, .int t_noon, .int t_later, .int t_walkers, .ref q_t_beat, .ref q_t_kind, .ref q_t_readSnow, .int t_readWalkers, .ref q_t_readWalker, .ref q_t_page, .ref q_t_trial, .ref q_t_book, .int t_acts, .ref q_t_kept, .ref q_t_isKept, .int t_marks, .ref q_t_markStep, .ref q_t_markTread, .long t_seed, .int t_stumbled, .ref q_t_order, .int t_lineMany, .int t_lineOrder, .int t_whoseMany, .int t_whoseFirst, .int t_restMany, .int t_restFirst, .ref q_t_gains, .ref q_t_value])), (q_t_kind, .inl (cI, 5, .inl t_kind)), (q_a1, .inl (cI, n_a1, .inl a1)), (q_t_beat, .inl (cI, 5, .inl t_beat))] H := hP
    refine lv_if_eq (tgt := 56) hx hb dX8_treads_49 (by decide) (fun hc => ?_) (fun hc => ?_)
    · replace hf := ip hc hf
      refine lv_iconst (v := 0) hx hb dX8_treads_56 (by decide) ?_
      refine lv_iadd hx hb dX8_treads_57 ?_
      have e0 := ij1 hf
      refine W.eq (congrArg (fun z => F0 m 58 ls [.int z]) e0) ?_
      exact hret _ _ _ _ hP hS dX8_treads_58
    · replace hf := iq hc hf
      refine lv_iconst (v := 1) hx hb dX8_treads_52 (by decide) ?_
      refine lv_goto (tgt := 57) hx hb dX8_treads_53 (by decide) ?_
      refine lv_iadd hx hb dX8_treads_57 ?_
      have e0 := ij1 hf
      refine W.eq (congrArg (fun z => F0 m 58 ls [.int z]) e0) ?_
      exact hret _ _ _ _ hP hS dX8_treads_58
  · replace hf := ip hc hf
    refine lv_iload_n hx hb dX8_treads_10 rfl (lv_at hl 3 rfl) ?_
    refine lv_bipush (v := (-9)) hx hb dX8_treads_11 (by decide) ?_
    refine lv_icmp_ne (tgt := 29) hx hb dX8_treads_13 (by decide) (fun hc => ?_) (fun hc => ?_)
    · replace hf := iq hc hf
      refine lv_iload_n hx hb dX8_treads_29 rfl (lv_at hl 3 rfl) ?_
      have e0 := ij1 hf
      refine W.eq (congrArg (fun z => F0 m 30 ls [.int z]) e0) ?_
      exact hret _ _ _ _ hP hS dX8_treads_30
    · replace hf := ip hc hf
      refine lv_aload_n hx hb dX8_treads_16 rfl (lv_at hl 0 rfl) ?_
      refine lv_aload_n hx hb dX8_treads_17 rfl (lv_at hl 1 rfl) ?_
      refine lv_iload_n hx hb dX8_treads_18 rfl (lv_at hl 2 rfl) ?_
      refine lv_aload_n hx hb dX8_treads_19 rfl (lv_at hl 1 rfl) ?_
      refine lv_bipush (v := 16) hx hb dX8_treads_20 (by decide) ?_
      refine kald hx hb hK.1 hP 2 0 rfl rfl dX8_treads_22 hf (fun v9 hf => ?_)
      obtain ⟨r10, e12, hf⟩ := bd_ok hf
      refine kVi (As := [.ref q_a1, .int x2, .int v9]) CF (cwV 3 hts gX8_treads_X8_alone rfl rfl rfl (by decide +kernel) ⟨Nat.le_of_ble_eq_true rfl, Nat.le_of_ble_eq_true rfl⟩) PU_blind hP hD hS hA (va_recv hK.1 hP (ci := 8) (q0 := 0) rfl rfl) [0, 1, 2, 3] (fun h1 h2 h3 => PU_pre hK h1 A h2 h3) (c_X8_alone l dC dI cI cZ q_t q_t_text q_t_beat q_t_kind q_t_readSnow q_t_readWalker q_t_page q_t_trial q_t_book q_t_kept q_t_isKept q_t_markStep q_t_markTread q_t_order q_t_gains q_t_value q_a1 _ t_thrown t_textSize t_place t_depth t_noon t_later t_walkers t_readWalkers t_acts t_marks t_seed t_stumbled t_lineMany t_lineOrder t_whoseMany t_whoseFirst t_restMany t_restFirst t_kind a1 t_beat n_a1 x2 v9 r10 e12) rfl rfl rfl rfl hl.1 rfl (Nat.le_of_ble_eq_true rfl) dX8_treads_23 ⟨Nat.zero_le _, Nat.zero_le _⟩ (fun H locs hP hS => ?_)
      replace hP : va_P (dC, dI) vwCl [(q_t, .inr (8, [.int t_thrown, .ref q_t_text, .int t_textSize, .int t_place, .int t_depth, .int t_noon, .int t_later, .int t_walkers, .ref q_t_beat, .ref q_t_kind, .ref q_t_readSnow, .int t_readWalkers, .ref q_t_readWalker, .ref q_t_page, .ref q_t_trial, .ref q_t_book, .int t_acts, .ref q_t_kept, .ref q_t_isKept, .int t_marks, .ref q_t_markStep, .ref q_t_markTread, .long t_seed, .int t_stumbled, .ref q_t_order, .int t_lineMany, .int t_lineOrder, .int t_whoseMany, .int t_whoseFirst, .int t_restMany, .int t_restFirst, .ref q_t_gains, .ref q_t_value])), (q_t_kind, .inl (cI, 5, .inl t_kind)), (q_a1, .inl (cI, n_a1, .inl a1)), (q_t_beat, .inl (cI, 5, .inl t_beat))] H := hP
      refine lv_goto (tgt := 30) hx hb dX8_treads_26 (by decide) ?_
      have e0 := ij1 hf
      refine W.eq (congrArg (fun z => F0 m 30 ls [.int z]) e0) ?_
      exact hret _ _ _ _ hP hS dX8_treads_30
abbrev rm_X8_goStep : Room := { frames := 3, cells := 0, slots := 0, locals := 69 }
set_option maxHeartbeats 4000000 in
set_option maxRecDepth 100000 in
theorem c_X8_goStep (l : Launch) (dC : Nat → ClassId) (dI : Nat → Nat → Nat) (cI cZ : ClassId) (q_t q_t_text q_t_beat q_t_kind q_t_readSnow q_t_readWalker q_t_page q_t_trial q_t_book q_t_kept q_t_isKept q_t_markStep q_t_markTread q_t_order q_t_gains q_t_value q_a1 : Nat) (sz : Nat) (t_thrown : Int32) (t_textSize : Int32) (t_place : Int32) (t_depth : Int32) (t_noon : Int32) (t_later : Int32) (t_walkers : Int32) (t_readWalkers : Int32) (t_acts : Int32) (t_marks : Int32) (t_seed : Int64) (t_stumbled : Int32) (t_lineMany : Int32) (t_lineOrder : Int32) (t_whoseMany : Int32) (t_whoseFirst : Int32) (t_restMany : Int32) (t_restFirst : Int32) (a1 : Nat → Int32) (t_kind : Nat → Int32) (t_beat : Nat → Int32) (n_a1 : Nat) (r_ : Int32) (o_a1 : Nat → Int32) (hf : f_X8_goStep n_a1 t_depth t_noon t_later t_walkers t_stumbled a1 t_kind t_beat = some (r_, o_a1)) : Met l yX8_goStep wsX8_goStep rm_X8_goStep (va_Pc [.ref q_t, .ref q_a1] (PU (dC, dI) cI cZ [(q_t, .inr (8, [.int t_thrown, .ref q_t_text, .int t_textSize, .int t_place, .int t_depth, .int t_noon, .int t_later, .int t_walkers, .ref q_t_beat, .ref q_t_kind, .ref q_t_readSnow, .int t_readWalkers, .ref q_t_readWalker, .ref q_t_page, .ref q_t_trial, .ref q_t_book, .int t_acts, .ref q_t_kept, .ref q_t_isKept, .int t_marks, .ref q_t_markStep, .ref q_t_markTread, .long t_seed, .int t_stumbled, .ref q_t_order, .int t_lineMany, .int t_lineOrder, .int t_whoseMany, .int t_whoseFirst, .int t_restMany, .int t_restFirst, .ref q_t_gains, .ref q_t_value])), (q_a1, .inl (cI, n_a1, .inl a1)), (q_t_kind, .inl (cI, 5, .inl t_kind)), (q_t_beat, .inl (cI, 5, .inl t_beat))] sz)) (va_Qi (fun (r : Int32) (_ : Unit) => r = r_) (fun _ t => va_P (dC, dI) vwCl [(q_t, .inr (8, [.int t_thrown, .ref q_t_text, .int t_textSize, .int t_place, .int t_depth, .int t_noon, .int t_later, .int t_walkers, .ref q_t_beat, .ref q_t_kind, .ref q_t_readSnow, .int t_readWalkers, .ref q_t_readWalker, .ref q_t_page, .ref q_t_trial, .ref q_t_book, .int t_acts, .ref q_t_kept, .ref q_t_isKept, .int t_marks, .ref q_t_markStep, .ref q_t_markTread, .long t_seed, .int t_stumbled, .ref q_t_order, .int t_lineMany, .int t_lineOrder, .int t_whoseMany, .int t_whoseFirst, .int t_restMany, .int t_restFirst, .ref q_t_gains, .ref q_t_value])), (q_a1, .inl (cI, n_a1, .inl o_a1)), (q_t_kind, .inl (cI, 5, .inl t_kind)), (q_t_beat, .inl (cI, 5, .inl t_beat))] t.heap) (va_A [(q_t, .inr (8, [.int t_thrown, .ref q_t_text, .int t_textSize, .int t_place, .int t_depth, .int t_noon, .int t_later, .int t_walkers, .ref q_t_beat, .ref q_t_kind, .ref q_t_readSnow, .int t_readWalkers, .ref q_t_readWalker, .ref q_t_page, .ref q_t_trial, .ref q_t_book, .int t_acts, .ref q_t_kept, .ref q_t_isKept, .int t_marks, .ref q_t_markStep, .ref q_t_markTread, .long t_seed, .int t_stumbled, .ref q_t_order, .int t_lineMany, .int t_lineOrder, .int t_whoseMany, .int t_whoseFirst, .int t_restMany, .int t_restFirst, .ref q_t_gains, .ref q_t_value])), (q_a1, .inl (cI, n_a1, .inl a1)), (q_t_kind, .inl (cI, 5, .inl t_kind)), (q_t_beat, .inl (cI, 5, .inl t_beat))] sz)) 0 0 (va_A [(q_t, .inr (8, [.int t_thrown, .ref q_t_text, .int t_textSize, .int t_place, .int t_depth, .int t_noon, .int t_later, .int t_walkers, .ref q_t_beat, .ref q_t_kind, .ref q_t_readSnow, .int t_readWalkers, .ref q_t_readWalker, .ref q_t_page, .ref q_t_trial, .ref q_t_book, .int t_acts, .ref q_t_kept, .ref q_t_isKept, .int t_marks, .ref q_t_markStep, .ref q_t_markTread, .long t_seed, .int t_stumbled, .ref q_t_order, .int t_lineMany, .int t_lineOrder, .int t_whoseMany, .int t_whoseFirst, .int t_restMany, .int t_restFirst, .ref q_t_gains, .ref q_t_value])), (q_a1, .inl (cI, n_a1, .inl a1)), (q_t_kind, .inl (cI, 5, .inl t_kind)), (q_t_beat, .inl (cI, 5, .inl t_beat))] sz) := by
  refine MetI (cc := cX8_goStep) (maxL := 8) (by decide) rfl (Nat.le_of_ble_eq_true rfl) (fun _ h => h) ?_
  intro p e s m args below meth c A Q ls hx CF hK hA hD hP hS hl hB hAe hsz hret
  have hb := CF.2.1
  have hml := CF.2.2.1
  have hown := CF.2.2.2.1
  have hts := CF.2.2.2.2
  have hD0 := hD
  replace hl : lv_has ls 8 [(0, .ref q_t), (1, .ref q_a1)] := hl
  have hinX8 : ∀ w ∈ wsX80, w ∈ wsX8_goStep := fun _ h => List.mem_cons_of_mem _ (List.mem_append_right _ h)
  have w_0 := hts (.fieldLink RX8 66 "PassInStepModel" "walkers" "I") (by decide +kernel)
  have h_8 : ∀ (fu8 : Nat) (x2 : Int32) (x3 : Int32) (x4 : Int32) (a1 : Nat → Int32) (H : Heap) (locs : List Loc) (ls : Array Slot), va_P (dC, dI) vwCl [(q_t, .inr (8, [.int t_thrown, .ref q_t_text, .int t_textSize, .int t_place, .int t_depth, .int t_noon, .int t_later, .int t_walkers, .ref q_t_beat, .ref q_t_kind, .ref q_t_readSnow, .int t_readWalkers, .ref q_t_readWalker, .ref q_t_page, .ref q_t_trial, .ref q_t_book, .int t_acts, .ref q_t_kept, .ref q_t_isKept, .int t_marks, .ref q_t_markStep, .ref q_t_markTread, .long t_seed, .int t_stumbled, .ref q_t_order, .int t_lineMany, .int t_lineOrder, .int t_whoseMany, .int t_whoseFirst, .int t_restMany, .int t_restFirst, .ref q_t_gains, .ref q_t_value])), (q_a1, .inl (cI, n_a1, .inl a1)), (q_t_kind, .inl (cI, 5, .inl t_kind)), (q_t_beat, .inl (cI, 5, .inl t_beat))] H → va_S A s.heap H locs → lv_has ls 8 [(0, .ref q_t), (1, .ref q_a1), (2, .int x2), (3, .int x3), (4, .int x4)] → L_X8_goStep_8 n_a1 t_depth t_noon t_later t_walkers t_stumbled t_kind t_beat fu8 x2 x3 x4 a1 = some (r_, o_a1) → W p l e rm_X8_goStep s m args below meth c H locs 0 0 Q (F0 m 8 ls []) := by
    intro fu8
    induction fu8 with
    | zero =>
      intro x2 x3 x4 a1 H locs ls hP hS hl hf
      rw [L_X8_goStep_8] at hf
      cases hf
    | succ fu8 ih8 =>
      have h_138 : ∀ (x2 : Int32) (x3 : Int32) (x4 : Int32) (a1 : Nat → Int32) (H : Heap) (locs : List Loc) (ls : Array Slot), va_P (dC, dI) vwCl [(q_t, .inr (8, [.int t_thrown, .ref q_t_text, .int t_textSize, .int t_place, .int t_depth, .int t_noon, .int t_later, .int t_walkers, .ref q_t_beat, .ref q_t_kind, .ref q_t_readSnow, .int t_readWalkers, .ref q_t_readWalker, .ref q_t_page, .ref q_t_trial, .ref q_t_book, .int t_acts, .ref q_t_kept, .ref q_t_isKept, .int t_marks, .ref q_t_markStep, .ref q_t_markTread, .long t_seed, .int t_stumbled, .ref q_t_order, .int t_lineMany, .int t_lineOrder, .int t_whoseMany, .int t_whoseFirst, .int t_restMany, .int t_restFirst, .ref q_t_gains, .ref q_t_value])), (q_a1, .inl (cI, n_a1, .inl a1)), (q_t_kind, .inl (cI, 5, .inl t_kind)), (q_t_beat, .inl (cI, 5, .inl t_beat))] H → va_S A s.heap H locs → lv_has ls 8 [(0, .ref q_t), (1, .ref q_a1), (2, .int x2), (3, .int x3), (4, .int x4)] → J_X8_goStep_138 (L_X8_goStep_8 n_a1 t_depth t_noon t_later t_walkers t_stumbled t_kind t_beat fu8) x2 x3 x4 a1 = some (r_, o_a1) → W p l e rm_X8_goStep s m args below meth c H locs 0 0 Q (F0 m 138 ls []) := by
        intro x2 x3 x4 a1 H locs ls hP hS hl hf
        have hD : va_D A [(q_t, .inr (8, [.int t_thrown, .ref q_t_text, .int t_textSize, .int t_place, .int t_depth, .int t_noon, .int t_later, .int t_walkers, .ref q_t_beat, .ref q_t_kind, .ref q_t_readSnow, .int t_readWalkers, .ref q_t_readWalker, .ref q_t_page, .ref q_t_trial, .ref q_t_book, .int t_acts, .ref q_t_kept, .ref q_t_isKept, .int t_marks, .ref q_t_markStep, .ref q_t_markTread, .long t_seed, .int t_stumbled, .ref q_t_order, .int t_lineMany, .int t_lineOrder, .int t_whoseMany, .int t_whoseFirst, .int t_restMany, .int t_restFirst, .ref q_t_gains, .ref q_t_value])), (q_a1, .inl (cI, n_a1, .inl a1)), (q_t_kind, .inl (cI, 5, .inl t_kind)), (q_t_beat, .inl (cI, 5, .inl t_beat))] := wd hD0 rfl
        rw [J_X8_goStep_138] at hf
        refine lv_iinc (v := (x4 + 1)) (lv' := [(4, .int (x4 + 1)), (0, .ref q_t), (1, .ref q_a1), (2, .int x2), (3, .int x3)]) hx hb dX8_goStep_138 hl (k := 4) rfl rfl (by decide) rfl (fun ls hl => ?_)
        refine lv_goto (tgt := 8) hx hb dX8_goStep_141 (by decide) ?_
        exact ih8 x2 x3 (x4 + 1) a1 _ _ _ hP hS (lv_sub hl [1, 2, 3, 4, 0] rfl) hf
      have h_137 : ∀ (x3 : Int32) (x4 : Int32) (s0 : Int32) (a1 : Nat → Int32) (H : Heap) (locs : List Loc) (ls : Array Slot), va_P (dC, dI) vwCl [(q_t, .inr (8, [.int t_thrown, .ref q_t_text, .int t_textSize, .int t_place, .int t_depth, .int t_noon, .int t_later, .int t_walkers, .ref q_t_beat, .ref q_t_kind, .ref q_t_readSnow, .int t_readWalkers, .ref q_t_readWalker, .ref q_t_page, .ref q_t_trial, .ref q_t_book, .int t_acts, .ref q_t_kept, .ref q_t_isKept, .int t_marks, .ref q_t_markStep, .ref q_t_markTread, .long t_seed, .int t_stumbled, .ref q_t_order, .int t_lineMany, .int t_lineOrder, .int t_whoseMany, .int t_whoseFirst, .int t_restMany, .int t_restFirst, .ref q_t_gains, .ref q_t_value])), (q_a1, .inl (cI, n_a1, .inl a1)), (q_t_kind, .inl (cI, 5, .inl t_kind)), (q_t_beat, .inl (cI, 5, .inl t_beat))] H → va_S A s.heap H locs → lv_has ls 8 [(0, .ref q_t), (1, .ref q_a1), (3, .int x3), (4, .int x4)] → J_X8_goStep_137 (L_X8_goStep_8 n_a1 t_depth t_noon t_later t_walkers t_stumbled t_kind t_beat fu8) x3 x4 s0 a1 = some (r_, o_a1) → W p l e rm_X8_goStep s m args below meth c H locs 0 0 Q (F0 m 137 ls [.int s0]) := by
        intro x3 x4 s0 a1 H locs ls hP hS hl hf
        have hD : va_D A [(q_t, .inr (8, [.int t_thrown, .ref q_t_text, .int t_textSize, .int t_place, .int t_depth, .int t_noon, .int t_later, .int t_walkers, .ref q_t_beat, .ref q_t_kind, .ref q_t_readSnow, .int t_readWalkers, .ref q_t_readWalker, .ref q_t_page, .ref q_t_trial, .ref q_t_book, .int t_acts, .ref q_t_kept, .ref q_t_isKept, .int t_marks, .ref q_t_markStep, .ref q_t_markTread, .long t_seed, .int t_stumbled, .ref q_t_order, .int t_lineMany, .int t_lineOrder, .int t_whoseMany, .int t_whoseFirst, .int t_restMany, .int t_restFirst, .ref q_t_gains, .ref q_t_value])), (q_a1, .inl (cI, n_a1, .inl a1)), (q_t_kind, .inl (cI, 5, .inl t_kind)), (q_t_beat, .inl (cI, 5, .inl t_beat))] := wd hD0 rfl
        rw [J_X8_goStep_137] at hf
        refine lv_istore_n (lv' := [(2, .int s0), (0, .ref q_t), (1, .ref q_a1), (3, .int x3), (4, .int x4)]) hx hb dX8_goStep_137 rfl hl (by decide) rfl (fun ls hl => ?_)
        exact h_138 s0 x3 x4 a1 _ _ _ hP hS (lv_sub hl [1, 2, 0, 3, 4] rfl) hf
      have h_124 : ∀ (x2 : Int32) (x4 : Int32) (x6 : Int32) (x7 : Int32) (s0 : Int32) (s1 : Int32) (a1 : Nat → Int32) (H : Heap) (locs : List Loc) (ls : Array Slot), va_P (dC, dI) vwCl [(q_t, .inr (8, [.int t_thrown, .ref q_t_text, .int t_textSize, .int t_place, .int t_depth, .int t_noon, .int t_later, .int t_walkers, .ref q_t_beat, .ref q_t_kind, .ref q_t_readSnow, .int t_readWalkers, .ref q_t_readWalker, .ref q_t_page, .ref q_t_trial, .ref q_t_book, .int t_acts, .ref q_t_kept, .ref q_t_isKept, .int t_marks, .ref q_t_markStep, .ref q_t_markTread, .long t_seed, .int t_stumbled, .ref q_t_order, .int t_lineMany, .int t_lineOrder, .int t_whoseMany, .int t_whoseFirst, .int t_restMany, .int t_restFirst, .ref q_t_gains, .ref q_t_value])), (q_a1, .inl (cI, n_a1, .inl a1)), (q_t_kind, .inl (cI, 5, .inl t_kind)), (q_t_beat, .inl (cI, 5, .inl t_beat))] H → va_S A s.heap H locs → lv_has ls 8 [(0, .ref q_t), (1, .ref q_a1), (2, .int x2), (4, .int x4), (6, .int x6), (7, .int x7)] → J_X8_goStep_124 (L_X8_goStep_8 n_a1 t_depth t_noon t_later t_walkers t_stumbled t_kind t_beat fu8) x2 x4 x6 x7 s0 s1 a1 = some (r_, o_a1) → W p l e rm_X8_goStep s m args below meth c H locs 0 0 Q (F0 m 124 ls [.int s0, .int s1]) := by
        intro x2 x4 x6 x7 s0 s1 a1 H locs ls hP hS hl hf
        have hD : va_D A [(q_t, .inr (8, [.int t_thrown, .ref q_t_text, .int t_textSize, .int t_place, .int t_depth, .int t_noon, .int t_later, .int t_walkers, .ref q_t_beat, .ref q_t_kind, .ref q_t_readSnow, .int t_readWalkers, .ref q_t_readWalker, .ref q_t_page, .ref q_t_trial, .ref q_t_book, .int t_acts, .ref q_t_kept, .ref q_t_isKept, .int t_marks, .ref q_t_markStep, .ref q_t_markTread, .long t_seed, .int t_stumbled, .ref q_t_order, .int t_lineMany, .int t_lineOrder, .int t_whoseMany, .int t_whoseFirst, .int t_restMany, .int t_restFirst, .ref q_t_gains, .ref q_t_value])), (q_a1, .inl (cI, n_a1, .inl a1)), (q_t_kind, .inl (cI, 5, .inl t_kind)), (q_t_beat, .inl (cI, 5, .inl t_beat))] := wd hD0 rfl
        rw [J_X8_goStep_124] at hf
        refine lv_iadd hx hb dX8_goStep_124 ?_
        refine lv_istore_n (lv' := [(3, .int (s1 + s0)), (0, .ref q_t), (1, .ref q_a1), (2, .int x2), (4, .int x4), (6, .int x6), (7, .int x7)]) hx hb dX8_goStep_125 rfl hl (by decide) rfl (fun ls hl => ?_)
        refine lv_iload hx hb dX8_goStep_126 (lv_at hl 6 rfl) ?_
        refine lv_if_eq (tgt := 135) hx hb dX8_goStep_128 (by decide) (fun hc => ?_) (fun hc => ?_)
        · replace hf := ip hc hf
          refine lv_iload hx hb dX8_goStep_135 (lv_at hl 5 rfl) ?_
          exact h_137 (s1 + s0) x4 x6 a1 _ _ _ hP hS (lv_sub hl [1, 2, 0, 4] rfl) hf
        · replace hf := iq hc hf
          refine lv_iload_n hx hb dX8_goStep_131 rfl (lv_at hl 3 rfl) ?_
          refine lv_goto (tgt := 137) hx hb dX8_goStep_132 (by decide) ?_
          exact h_137 (s1 + s0) x4 x2 a1 _ _ _ hP hS (lv_sub hl [1, 2, 0, 4] rfl) hf
      have h_111 : ∀ (x2 : Int32) (x3 : Int32) (x4 : Int32) (x6 : Int32) (x7 : Int32) (s0 : Int32) (s1 : Int32) (s2 : Int32) (a1 : Nat → Int32) (H : Heap) (locs : List Loc) (ls : Array Slot), va_P (dC, dI) vwCl [(q_t, .inr (8, [.int t_thrown, .ref q_t_text, .int t_textSize, .int t_place, .int t_depth, .int t_noon, .int t_later, .int t_walkers, .ref q_t_beat, .ref q_t_kind, .ref q_t_readSnow, .int t_readWalkers, .ref q_t_readWalker, .ref q_t_page, .ref q_t_trial, .ref q_t_book, .int t_acts, .ref q_t_kept, .ref q_t_isKept, .int t_marks, .ref q_t_markStep, .ref q_t_markTread, .long t_seed, .int t_stumbled, .ref q_t_order, .int t_lineMany, .int t_lineOrder, .int t_whoseMany, .int t_whoseFirst, .int t_restMany, .int t_restFirst, .ref q_t_gains, .ref q_t_value])), (q_a1, .inl (cI, n_a1, .inl a1)), (q_t_kind, .inl (cI, 5, .inl t_kind)), (q_t_beat, .inl (cI, 5, .inl t_beat))] H → va_S A s.heap H locs → lv_has ls 8 [(0, .ref q_t), (1, .ref q_a1), (2, .int x2), (3, .int x3), (4, .int x4), (6, .int x6), (7, .int x7)] → J_X8_goStep_111 (L_X8_goStep_8 n_a1 t_depth t_noon t_later t_walkers t_stumbled t_kind t_beat fu8) x2 x3 x4 x6 x7 s0 s1 s2 n_a1 a1 = some (r_, o_a1) → W p l e rm_X8_goStep s m args below meth c H locs 0 0 Q (F0 m 111 ls [.int s0, .int s1, .int s2, .ref q_a1]) := by
        intro x2 x3 x4 x6 x7 s0 s1 s2 a1 H locs ls hP hS hl hf
        have hD : va_D A [(q_t, .inr (8, [.int t_thrown, .ref q_t_text, .int t_textSize, .int t_place, .int t_depth, .int t_noon, .int t_later, .int t_walkers, .ref q_t_beat, .ref q_t_kind, .ref q_t_readSnow, .int t_readWalkers, .ref q_t_readWalker, .ref q_t_page, .ref q_t_trial, .ref q_t_book, .int t_acts, .ref q_t_kept, .ref q_t_isKept, .int t_marks, .ref q_t_markStep, .ref q_t_markTread, .long t_seed, .int t_stumbled, .ref q_t_order, .int t_lineMany, .int t_lineOrder, .int t_whoseMany, .int t_whoseFirst, .int t_restMany, .int t_restFirst, .ref q_t_gains, .ref q_t_value])), (q_a1, .inl (cI, n_a1, .inl a1)), (q_t_kind, .inl (cI, 5, .inl t_kind)), (q_t_beat, .inl (cI, 5, .inl t_beat))] := wd hD0 rfl
        rw [J_X8_goStep_111] at hf
        refine lv_ior hx hb dX8_goStep_111 ?_
        refine kast hx hb hK.1 hP hD hS 1 0 rfl rfl dX8_goStep_112 hf (fun w1 H locs hP hD hS hf => ?_)
        replace hP : va_P (dC, dI) vwCl [(q_t, .inr (8, [.int t_thrown, .ref q_t_text, .int t_textSize, .int t_place, .int t_depth, .int t_noon, .int t_later, .int t_walkers, .ref q_t_beat, .ref q_t_kind, .ref q_t_readSnow, .int t_readWalkers, .ref q_t_readWalker, .ref q_t_page, .ref q_t_trial, .ref q_t_book, .int t_acts, .ref q_t_kept, .ref q_t_isKept, .int t_marks, .ref q_t_markStep, .ref q_t_markTread, .long t_seed, .int t_stumbled, .ref q_t_order, .int t_lineMany, .int t_lineOrder, .int t_whoseMany, .int t_whoseFirst, .int t_restMany, .int t_restFirst, .ref q_t_gains, .ref q_t_value])), (q_a1, .inl (cI, n_a1, .inl w1)), (q_t_kind, .inl (cI, 5, .inl t_kind)), (q_t_beat, .inl (cI, 5, .inl t_beat))] H := hP
        replace hD : va_D A [(q_t, .inr (8, [.int t_thrown, .ref q_t_text, .int t_textSize, .int t_place, .int t_depth, .int t_noon, .int t_later, .int t_walkers, .ref q_t_beat, .ref q_t_kind, .ref q_t_readSnow, .int t_readWalkers, .ref q_t_readWalker, .ref q_t_page, .ref q_t_trial, .ref q_t_book, .int t_acts, .ref q_t_kept, .ref q_t_isKept, .int t_marks, .ref q_t_markStep, .ref q_t_markTread, .long t_seed, .int t_stumbled, .ref q_t_order, .int t_lineMany, .int t_lineOrder, .int t_whoseMany, .int t_whoseFirst, .int t_restMany, .int t_restFirst, .ref q_t_gains, .ref q_t_value])), (q_a1, .inl (cI, n_a1, .inl w1)), (q_t_kind, .inl (cI, 5, .inl t_kind)), (q_t_beat, .inl (cI, 5, .inl t_beat))] := hD
        refine lv_iload_n hx hb dX8_goStep_113 rfl (lv_at hl 3 rfl) ?_
        refine lv_iload hx hb dX8_goStep_114 (lv_at hl 6 rfl) ?_
        refine lv_if_eq (tgt := 123) hx hb dX8_goStep_116 (by decide) (fun hc => ?_) (fun hc => ?_)
        · replace hf := ip hc hf
          refine lv_iconst (v := 0) hx hb dX8_goStep_123 (by decide) ?_
          exact h_124 x2 x4 x6 x7 0 x3 w1 _ _ _ hP hS (lv_sub hl [0, 1, 2, 4, 5, 6] rfl) hf
        · replace hf := iq hc hf
          refine lv_iconst (v := 1) hx hb dX8_goStep_119 (by decide) ?_
          refine lv_goto (tgt := 124) hx hb dX8_goStep_120 (by decide) ?_
          exact h_124 x2 x4 x6 x7 1 x3 w1 _ _ _ hP hS (lv_sub hl [0, 1, 2, 4, 5, 6] rfl) hf
      have h_91 : ∀ (x2 : Int32) (x3 : Int32) (x4 : Int32) (x5 : Int32) (x6 : Int32) (s0 : Int32) (a1 : Nat → Int32) (H : Heap) (locs : List Loc) (ls : Array Slot), va_P (dC, dI) vwCl [(q_t, .inr (8, [.int t_thrown, .ref q_t_text, .int t_textSize, .int t_place, .int t_depth, .int t_noon, .int t_later, .int t_walkers, .ref q_t_beat, .ref q_t_kind, .ref q_t_readSnow, .int t_readWalkers, .ref q_t_readWalker, .ref q_t_page, .ref q_t_trial, .ref q_t_book, .int t_acts, .ref q_t_kept, .ref q_t_isKept, .int t_marks, .ref q_t_markStep, .ref q_t_markTread, .long t_seed, .int t_stumbled, .ref q_t_order, .int t_lineMany, .int t_lineOrder, .int t_whoseMany, .int t_whoseFirst, .int t_restMany, .int t_restFirst, .ref q_t_gains, .ref q_t_value])), (q_a1, .inl (cI, n_a1, .inl a1)), (q_t_kind, .inl (cI, 5, .inl t_kind)), (q_t_beat, .inl (cI, 5, .inl t_beat))] H → va_S A s.heap H locs → lv_has ls 8 [(0, .ref q_t), (1, .ref q_a1), (2, .int x2), (3, .int x3), (4, .int x4), (5, .int x5), (6, .int x6)] → J_X8_goStep_91 (L_X8_goStep_8 n_a1 t_depth t_noon t_later t_walkers t_stumbled t_kind t_beat fu8) x2 x3 x4 x5 x6 s0 n_a1 a1 = some (r_, o_a1) → W p l e rm_X8_goStep s m args below meth c H locs 0 0 Q (F0 m 91 ls [.int s0]) := by
        intro x2 x3 x4 x5 x6 s0 a1 H locs ls hP hS hl hf
        have hD : va_D A [(q_t, .inr (8, [.int t_thrown, .ref q_t_text, .int t_textSize, .int t_place, .int t_depth, .int t_noon, .int t_later, .int t_walkers, .ref q_t_beat, .ref q_t_kind, .ref q_t_readSnow, .int t_readWalkers, .ref q_t_readWalker, .ref q_t_page, .ref q_t_trial, .ref q_t_book, .int t_acts, .ref q_t_kept, .ref q_t_isKept, .int t_marks, .ref q_t_markStep, .ref q_t_markTread, .long t_seed, .int t_stumbled, .ref q_t_order, .int t_lineMany, .int t_lineOrder, .int t_whoseMany, .int t_whoseFirst, .int t_restMany, .int t_restFirst, .ref q_t_gains, .ref q_t_value])), (q_a1, .inl (cI, n_a1, .inl a1)), (q_t_kind, .inl (cI, 5, .inl t_kind)), (q_t_beat, .inl (cI, 5, .inl t_beat))] := wd hD0 rfl
        rw [J_X8_goStep_91] at hf
        refine lv_istore (lv' := [(7, .int s0), (0, .ref q_t), (1, .ref q_a1), (2, .int x2), (3, .int x3), (4, .int x4), (5, .int x5), (6, .int x6)]) hx hb dX8_goStep_91 hl (by decide) rfl (fun ls hl => ?_)
        refine lv_aload_n hx hb dX8_goStep_93 rfl (lv_at hl 2 rfl) ?_
        refine lv_bipush (v := 15) hx hb dX8_goStep_94 (by decide) ?_
        refine lv_dup2_11 hx hb dX8_goStep_96 rfl rfl ?_
        refine kald hx hb hK.1 hP 1 0 rfl rfl dX8_goStep_97 hf (fun v2 hf => ?_)
        refine lv_iload hx hb dX8_goStep_98 (lv_at hl 0 rfl) ?_
        refine lv_if_eq (tgt := 110) hx hb dX8_goStep_100 (by decide) (fun hc => ?_) (fun hc => ?_)
        · replace hf := ip hc hf
          refine lv_iconst (v := 0) hx hb dX8_goStep_110 (by decide) ?_
          exact h_111 x2 x3 x4 x6 s0 0 v2 15 a1 _ _ _ hP hS (lv_sub hl [1, 2, 3, 4, 5, 7, 0] rfl) hf
        · replace hf := iq hc hf
          refine lv_iconst (v := 1) hx hb dX8_goStep_103 (by decide) ?_
          refine lv_iload hx hb dX8_goStep_104 (lv_at hl 6 rfl) ?_
          refine lv_ishl hx hb dX8_goStep_106 ?_
          refine lv_goto (tgt := 111) hx hb dX8_goStep_107 (by decide) ?_
          exact h_111 x2 x3 x4 x6 s0 ((1 : Int32) <<< (x5 &&& 31)) v2 15 a1 _ _ _ hP hS (lv_sub hl [1, 2, 3, 4, 5, 7, 0] rfl) hf
      have h_72 : ∀ (x2 : Int32) (x3 : Int32) (x4 : Int32) (x5 : Int32) (x6 : Int32) (a1 : Nat → Int32) (H : Heap) (locs : List Loc) (ls : Array Slot), va_P (dC, dI) vwCl [(q_t, .inr (8, [.int t_thrown, .ref q_t_text, .int t_textSize, .int t_place, .int t_depth, .int t_noon, .int t_later, .int t_walkers, .ref q_t_beat, .ref q_t_kind, .ref q_t_readSnow, .int t_readWalkers, .ref q_t_readWalker, .ref q_t_page, .ref q_t_trial, .ref q_t_book, .int t_acts, .ref q_t_kept, .ref q_t_isKept, .int t_marks, .ref q_t_markStep, .ref q_t_markTread, .long t_seed, .int t_stumbled, .ref q_t_order, .int t_lineMany, .int t_lineOrder, .int t_whoseMany, .int t_whoseFirst, .int t_restMany, .int t_restFirst, .ref q_t_gains, .ref q_t_value])), (q_a1, .inl (cI, n_a1, .inl a1)), (q_t_kind, .inl (cI, 5, .inl t_kind)), (q_t_beat, .inl (cI, 5, .inl t_beat))] H → va_S A s.heap H locs → lv_has ls 8 [(0, .ref q_t), (1, .ref q_a1), (2, .int x2), (3, .int x3), (4, .int x4), (5, .int x5), (6, .int x6)] → J_X8_goStep_72 (L_X8_goStep_8 n_a1 t_depth t_noon t_later t_walkers t_stumbled t_kind t_beat fu8) x2 x3 x4 x5 x6 n_a1 a1 = some (r_, o_a1) → W p l e rm_X8_goStep s m args below meth c H locs 0 0 Q (F0 m 72 ls []) := by
        intro x2 x3 x4 x5 x6 a1 H locs ls hP hS hl hf
        have hD : va_D A [(q_t, .inr (8, [.int t_thrown, .ref q_t_text, .int t_textSize, .int t_place, .int t_depth, .int t_noon, .int t_later, .int t_walkers, .ref q_t_beat, .ref q_t_kind, .ref q_t_readSnow, .int t_readWalkers, .ref q_t_readWalker, .ref q_t_page, .ref q_t_trial, .ref q_t_book, .int t_acts, .ref q_t_kept, .ref q_t_isKept, .int t_marks, .ref q_t_markStep, .ref q_t_markTread, .long t_seed, .int t_stumbled, .ref q_t_order, .int t_lineMany, .int t_lineOrder, .int t_whoseMany, .int t_whoseFirst, .int t_restMany, .int t_restFirst, .ref q_t_gains, .ref q_t_value])), (q_a1, .inl (cI, n_a1, .inl a1)), (q_t_kind, .inl (cI, 5, .inl t_kind)), (q_t_beat, .inl (cI, 5, .inl t_beat))] := wd hD0 rfl
        rw [J_X8_goStep_72] at hf
        refine lv_iconst (v := 1) hx hb dX8_goStep_72 (by decide) ?_
        refine lv_goto (tgt := 91) hx hb dX8_goStep_73 (by decide) ?_
        exact h_91 x2 x3 x4 x5 x6 1 a1 _ _ _ hP hS (lv_sub hl [0, 1, 2, 3, 4, 5, 6] rfl) hf
      intro x2 x3 x4 a1 H locs ls hP hS hl hf
      have hD : va_D A [(q_t, .inr (8, [.int t_thrown, .ref q_t_text, .int t_textSize, .int t_place, .int t_depth, .int t_noon, .int t_later, .int t_walkers, .ref q_t_beat, .ref q_t_kind, .ref q_t_readSnow, .int t_readWalkers, .ref q_t_readWalker, .ref q_t_page, .ref q_t_trial, .ref q_t_book, .int t_acts, .ref q_t_kept, .ref q_t_isKept, .int t_marks, .ref q_t_markStep, .ref q_t_markTread, .long t_seed, .int t_stumbled, .ref q_t_order, .int t_lineMany, .int t_lineOrder, .int t_whoseMany, .int t_whoseFirst, .int t_restMany, .int t_restFirst, .ref q_t_gains, .ref q_t_value])), (q_a1, .inl (cI, n_a1, .inl a1)), (q_t_kind, .inl (cI, 5, .inl t_kind)), (q_t_beat, .inl (cI, 5, .inl t_beat))] := wd hD0 rfl
      rw [L_X8_goStep_8] at hf
      refine lv_iload hx hb dX8_goStep_8 (lv_at hl 4 rfl) ?_
      refine lv_aload_n hx hb dX8_goStep_10 rfl (lv_at hl 0 rfl) ?_
      refine va_get (D := (dC, dI)) (ci := 8) (v := .int t_walkers) (C := RX8) (T := TX8) (N := 33) hx hb hts hinX8 hown hK.1 hP 0 rfl rfl 7 (by decide) w_0 (fun _ h9 => h9) rfl dX8_goStep_11 ?_
      refine lv_icmp_ge (tgt := 144) hx hb dX8_goStep_14 (by decide) (fun hc => ?_) (fun hc => ?_)
      · replace hf := ip hc hf
        refine lv_aload_n hx hb dX8_goStep_144 rfl (lv_at hl 1 rfl) ?_
        refine lv_bipush (v := 16) hx hb dX8_goStep_145 (by decide) ?_
        refine lv_dup2_11 hx hb dX8_goStep_147 rfl rfl ?_
        refine kald hx hb hK.1 hP 1 0 rfl rfl dX8_goStep_148 hf (fun v3 hf => ?_)
        refine lv_iconst (v := 1) hx hb dX8_goStep_149 (by decide) ?_
        refine lv_iadd hx hb dX8_goStep_150 ?_
        refine kast hx hb hK.1 hP hD hS 1 0 rfl rfl dX8_goStep_151 hf (fun w4 H locs hP hD hS hf => ?_)
        replace hP : va_P (dC, dI) vwCl [(q_t, .inr (8, [.int t_thrown, .ref q_t_text, .int t_textSize, .int t_place, .int t_depth, .int t_noon, .int t_later, .int t_walkers, .ref q_t_beat, .ref q_t_kind, .ref q_t_readSnow, .int t_readWalkers, .ref q_t_readWalker, .ref q_t_page, .ref q_t_trial, .ref q_t_book, .int t_acts, .ref q_t_kept, .ref q_t_isKept, .int t_marks, .ref q_t_markStep, .ref q_t_markTread, .long t_seed, .int t_stumbled, .ref q_t_order, .int t_lineMany, .int t_lineOrder, .int t_whoseMany, .int t_whoseFirst, .int t_restMany, .int t_restFirst, .ref q_t_gains, .ref q_t_value])), (q_a1, .inl (cI, n_a1, .inl w4)), (q_t_kind, .inl (cI, 5, .inl t_kind)), (q_t_beat, .inl (cI, 5, .inl t_beat))] H := hP
        replace hD : va_D A [(q_t, .inr (8, [.int t_thrown, .ref q_t_text, .int t_textSize, .int t_place, .int t_depth, .int t_noon, .int t_later, .int t_walkers, .ref q_t_beat, .ref q_t_kind, .ref q_t_readSnow, .int t_readWalkers, .ref q_t_readWalker, .ref q_t_page, .ref q_t_trial, .ref q_t_book, .int t_acts, .ref q_t_kept, .ref q_t_isKept, .int t_marks, .ref q_t_markStep, .ref q_t_markTread, .long t_seed, .int t_stumbled, .ref q_t_order, .int t_lineMany, .int t_lineOrder, .int t_whoseMany, .int t_whoseFirst, .int t_restMany, .int t_restFirst, .ref q_t_gains, .ref q_t_value])), (q_a1, .inl (cI, n_a1, .inl w4)), (q_t_kind, .inl (cI, 5, .inl t_kind)), (q_t_beat, .inl (cI, 5, .inl t_beat))] := hD
        refine lv_iload_n hx hb dX8_goStep_152 rfl (lv_at hl 3 rfl) ?_
        obtain ⟨e0, hf⟩ := ij2 hf
        have e1 := hf
        refine W.eq (congrArg (fun z => F0 m 153 ls [.int z]) e0) ?_
        exact hret _ _ _ _ (by rw [← e1]; exact hP) hS dX8_goStep_153
      · replace hf := iq hc hf
        refine lv_aload_n hx hb dX8_goStep_17 rfl (lv_at hl 1 rfl) ?_
        refine lv_iconst (v := 0) hx hb dX8_goStep_18 (by decide) ?_
        refine lv_iload hx hb dX8_goStep_19 (lv_at hl 4 rfl) ?_
        refine lv_iadd hx hb dX8_goStep_21 ?_
        refine kald hx hb hK.1 hP 1 0 rfl rfl dX8_goStep_22 hf (fun v5 hf => ?_)
        refine lv_istore (lv' := [(5, .int v5), (0, .ref q_t), (1, .ref q_a1), (2, .int x2), (3, .int x3), (4, .int x4)]) hx hb dX8_goStep_23 hl (by decide) rfl (fun ls hl => ?_)
        refine lv_aload_n hx hb dX8_goStep_25 rfl (lv_at hl 2 rfl) ?_
        refine lv_bipush (v := 15) hx hb dX8_goStep_26 (by decide) ?_
        refine kald hx hb hK.1 hP 1 0 rfl rfl dX8_goStep_28 hf (fun v6 hf => ?_)
        refine lv_iload hx hb dX8_goStep_29 (lv_at hl 0 rfl) ?_
        obtain ⟨r7, e9, hf⟩ := bd_ok hf
        refine kSi (As := [.int v6, .int v5]) CF (va_cwS 2 hts gX8_goStep_X8_has rfl rfl rfl (by decide +kernel) ⟨Nat.le_of_ble_eq_true rfl, Nat.le_of_ble_eq_true rfl⟩) PU_blind hP hD hS hA [] (fun h1 h2 h3 => PU_pre hK h1 A h2 h3) (c_X8_has l dC dI cI cZ _ v6 v5 r7 e9) rfl rfl rfl rfl hl.1 rfl (Nat.le_of_ble_eq_true rfl) dX8_goStep_31 ⟨Nat.zero_le _, Nat.zero_le _⟩ (fun H locs hP hS => ?_)
        replace hP : va_P (dC, dI) vwCl [(q_t, .inr (8, [.int t_thrown, .ref q_t_text, .int t_textSize, .int t_place, .int t_depth, .int t_noon, .int t_later, .int t_walkers, .ref q_t_beat, .ref q_t_kind, .ref q_t_readSnow, .int t_readWalkers, .ref q_t_readWalker, .ref q_t_page, .ref q_t_trial, .ref q_t_book, .int t_acts, .ref q_t_kept, .ref q_t_isKept, .int t_marks, .ref q_t_markStep, .ref q_t_markTread, .long t_seed, .int t_stumbled, .ref q_t_order, .int t_lineMany, .int t_lineOrder, .int t_whoseMany, .int t_whoseFirst, .int t_restMany, .int t_restFirst, .ref q_t_gains, .ref q_t_value])), (q_a1, .inl (cI, n_a1, .inl a1)), (q_t_kind, .inl (cI, 5, .inl t_kind)), (q_t_beat, .inl (cI, 5, .inl t_beat))] H := hP
        refine lv_if_ne (tgt := 138) hx hb dX8_goStep_34 (by decide) (fun hc => ?_) (fun hc => ?_)
        · replace hf := iq hc hf
          exact h_138 x2 x3 x4 a1 _ _ _ hP hS (lv_sub hl [1, 2, 3, 4, 5] rfl) hf
        · replace hf := ip hc hf
          refine lv_aload_n hx hb dX8_goStep_37 rfl (lv_at hl 1 rfl) ?_
          refine lv_aload_n hx hb dX8_goStep_38 rfl (lv_at hl 2 rfl) ?_
          refine lv_iload hx hb dX8_goStep_39 (lv_at hl 0 rfl) ?_
          refine lv_iload_n hx hb dX8_goStep_41 rfl (lv_at hl 3 rfl) ?_
          obtain ⟨r10, e12, hf⟩ := bd_ok hf
          refine kVi (As := [.ref q_a1, .int v5, .int x2]) CF (cwV 3 hts gX8_goStep_X8_treads rfl rfl rfl (by decide +kernel) ⟨Nat.le_of_ble_eq_true rfl, Nat.le_of_ble_eq_true rfl⟩) PU_blind hP hD hS hA (va_recv hK.1 hP (ci := 8) (q0 := 0) rfl rfl) [0, 2, 1, 3] (fun h1 h2 h3 => PU_pre hK h1 A h2 h3) (c_X8_treads l dC dI cI cZ q_t q_t_text q_t_beat q_t_kind q_t_readSnow q_t_readWalker q_t_page q_t_trial q_t_book q_t_kept q_t_isKept q_t_markStep q_t_markTread q_t_order q_t_gains q_t_value q_a1 _ t_thrown t_textSize t_place t_depth t_noon t_later t_walkers t_readWalkers t_acts t_marks t_seed t_stumbled t_lineMany t_lineOrder t_whoseMany t_whoseFirst t_restMany t_restFirst t_kind a1 t_beat n_a1 v5 x2 r10 e12) rfl rfl rfl rfl hl.1 rfl (Nat.le_of_ble_eq_true rfl) dX8_goStep_42 ⟨Nat.zero_le _, Nat.zero_le _⟩ (fun H locs hP hS => ?_)
          replace hP : va_P (dC, dI) vwCl [(q_t, .inr (8, [.int t_thrown, .ref q_t_text, .int t_textSize, .int t_place, .int t_depth, .int t_noon, .int t_later, .int t_walkers, .ref q_t_beat, .ref q_t_kind, .ref q_t_readSnow, .int t_readWalkers, .ref q_t_readWalker, .ref q_t_page, .ref q_t_trial, .ref q_t_book, .int t_acts, .ref q_t_kept, .ref q_t_isKept, .int t_marks, .ref q_t_markStep, .ref q_t_markTread, .long t_seed, .int t_stumbled, .ref q_t_order, .int t_lineMany, .int t_lineOrder, .int t_whoseMany, .int t_whoseFirst, .int t_restMany, .int t_restFirst, .ref q_t_gains, .ref q_t_value])), (q_a1, .inl (cI, n_a1, .inl a1)), (q_t_kind, .inl (cI, 5, .inl t_kind)), (q_t_beat, .inl (cI, 5, .inl t_beat))] H := hP
          refine lv_istore (lv' := [(6, .int r10), (5, .int v5), (0, .ref q_t), (1, .ref q_a1), (2, .int x2), (3, .int x3), (4, .int x4)]) hx hb dX8_goStep_45 hl (by decide) rfl (fun ls hl => ?_)
          refine lv_iload_n hx hb dX8_goStep_47 rfl (lv_at hl 4 rfl) ?_
          refine lv_bipush (v := (-9)) hx hb dX8_goStep_48 (by decide) ?_
          refine lv_icmp_ne (tgt := 80) hx hb dX8_goStep_50 (by decide) (fun hc => ?_) (fun hc => ?_)
          · replace hf := iq hc hf
            refine lv_iload hx hb dX8_goStep_80 (lv_at hl 0 rfl) ?_
            refine lv_iload_n hx hb dX8_goStep_82 rfl (lv_at hl 4 rfl) ?_
            refine lv_icmp_eq (tgt := 90) hx hb dX8_goStep_83 (by decide) (fun hc => ?_) (fun hc => ?_)
            · replace hf := ip hc hf
              refine lv_iconst (v := 0) hx hb dX8_goStep_90 (by decide) ?_
              exact h_91 x2 x3 x4 v5 r10 0 a1 _ _ _ hP hS (lv_sub hl [2, 3, 4, 5, 6, 1, 0] rfl) hf
            · replace hf := iq hc hf
              refine lv_iconst (v := 1) hx hb dX8_goStep_86 (by decide) ?_
              refine lv_goto (tgt := 91) hx hb dX8_goStep_87 (by decide) ?_
              exact h_91 x2 x3 x4 v5 r10 1 a1 _ _ _ hP hS (lv_sub hl [2, 3, 4, 5, 6, 1, 0] rfl) hf
          · replace hf := ip hc hf
            refine lv_iload hx hb dX8_goStep_53 (lv_at hl 0 rfl) ?_
            refine lv_aload_n hx hb dX8_goStep_55 rfl (lv_at hl 2 rfl) ?_
            refine lv_aload_n hx hb dX8_goStep_56 rfl (lv_at hl 3 rfl) ?_
            refine lv_bipush (v := 16) hx hb dX8_goStep_57 (by decide) ?_
            refine kald hx hb hK.1 hP 1 0 rfl rfl dX8_goStep_59 hf (fun v13 hf => ?_)
            obtain ⟨r14, e16, hf⟩ := bd_ok hf
            refine kVi (As := [.int v13]) CF (cwV 1 hts gX8_goStep_X8_snowAt rfl rfl rfl (by decide +kernel) ⟨Nat.le_of_ble_eq_true rfl, Nat.le_of_ble_eq_true rfl⟩) PU_blind hP hD hS hA (va_recv hK.1 hP (ci := 8) (q0 := 0) rfl rfl) [0] (fun h1 h2 h3 => PU_pre hK h1 A h2 h3) (c_X8_snowAt l dC dI cI cZ q_t q_t_text q_t_beat q_t_kind q_t_readSnow q_t_readWalker q_t_page q_t_trial q_t_book q_t_kept q_t_isKept q_t_markStep q_t_markTread q_t_order q_t_gains q_t_value _ t_thrown t_textSize t_place t_depth t_noon t_later t_walkers t_readWalkers t_acts t_marks t_seed t_stumbled t_lineMany t_lineOrder t_whoseMany t_whoseFirst t_restMany t_restFirst v13 r14 e16) rfl rfl rfl rfl hl.1 rfl (Nat.le_of_ble_eq_true rfl) dX8_goStep_60 ⟨Nat.zero_le _, Nat.zero_le _⟩ (fun H locs hP hS => ?_)
            replace hP : va_P (dC, dI) vwCl [(q_t, .inr (8, [.int t_thrown, .ref q_t_text, .int t_textSize, .int t_place, .int t_depth, .int t_noon, .int t_later, .int t_walkers, .ref q_t_beat, .ref q_t_kind, .ref q_t_readSnow, .int t_readWalkers, .ref q_t_readWalker, .ref q_t_page, .ref q_t_trial, .ref q_t_book, .int t_acts, .ref q_t_kept, .ref q_t_isKept, .int t_marks, .ref q_t_markStep, .ref q_t_markTread, .long t_seed, .int t_stumbled, .ref q_t_order, .int t_lineMany, .int t_lineOrder, .int t_whoseMany, .int t_whoseFirst, .int t_restMany, .int t_restFirst, .ref q_t_gains, .ref q_t_value])), (q_a1, .inl (cI, n_a1, .inl a1)), (q_t_kind, .inl (cI, 5, .inl t_kind)), (q_t_beat, .inl (cI, 5, .inl t_beat))] H := hP
            refine lv_icmp_gt (tgt := 72) hx hb dX8_goStep_63 (by decide) (fun hc => ?_) (fun hc => ?_)
            · replace hf := ip hc hf
              exact h_72 x2 x3 x4 v5 r10 a1 _ _ _ hP hS (lv_sub hl [2, 3, 4, 5, 6, 1, 0] rfl) hf
            · replace hf := iq hc hf
              refine lv_iload hx hb dX8_goStep_66 (lv_at hl 0 rfl) ?_
              refine lv_iconst (v := 1) hx hb dX8_goStep_68 (by decide) ?_
              refine lv_icmp_ge (tgt := 76) hx hb dX8_goStep_69 (by decide) (fun hc => ?_) (fun hc => ?_)
              · replace hf := ip hc hf
                refine lv_iconst (v := 0) hx hb dX8_goStep_76 (by decide) ?_
                refine lv_goto (tgt := 91) hx hb dX8_goStep_77 (by decide) ?_
                exact h_91 x2 x3 x4 v5 r10 0 a1 _ _ _ hP hS (lv_sub hl [2, 3, 4, 5, 6, 1, 0] rfl) hf
              · replace hf := iq hc hf
                exact h_72 x2 x3 x4 v5 r10 a1 _ _ _ hP hS (lv_sub hl [2, 3, 4, 5, 6, 1, 0] rfl) hf
  rw [f_X8_goStep] at hf
  refine lv_bipush (v := (-9)) hx hb dX8_goStep_0 (by decide) ?_
  refine lv_istore_n (lv' := [(2, .int (-9)), (0, .ref q_t), (1, .ref q_a1)]) hx hb dX8_goStep_2 rfl hl (by decide) rfl (fun ls hl => ?_)
  refine lv_iconst (v := 0) hx hb dX8_goStep_3 (by decide) ?_
  refine lv_istore_n (lv' := [(3, .int 0), (2, .int (-9)), (0, .ref q_t), (1, .ref q_a1)]) hx hb dX8_goStep_4 rfl hl (by decide) rfl (fun ls hl => ?_)
  refine lv_iconst (v := 0) hx hb dX8_goStep_5 (by decide) ?_
  refine lv_istore (lv' := [(4, .int 0), (3, .int 0), (2, .int (-9)), (0, .ref q_t), (1, .ref q_a1)]) hx hb dX8_goStep_6 hl (by decide) rfl (fun ls hl => ?_)
  exact h_8 fuelC (-9) 0 0 a1 _ _ _ hP hS (lv_sub hl [3, 4, 2, 1, 0] rfl) hf
abbrev rm_X8_goSteps : Room := { frames := 4, cells := 0, slots := 0, locals := 96 }
set_option maxHeartbeats 4000000 in
set_option maxRecDepth 100000 in
theorem c_X8_goSteps (l : Launch) (dC : Nat → ClassId) (dI : Nat → Nat → Nat) (cI cZ : ClassId) (q_t q_t_text q_t_beat q_t_kind q_t_readSnow q_t_readWalker q_t_page q_t_trial q_t_book q_t_kept q_t_isKept q_t_markStep q_t_markTread q_t_order q_t_gains q_t_value : Nat) (sz : Nat) (t_thrown : Int32) (t_textSize : Int32) (t_place : Int32) (t_depth : Int32) (t_noon : Int32) (t_later : Int32) (t_walkers : Int32) (t_readWalkers : Int32) (t_acts : Int32) (t_marks : Int32) (t_seed : Int64) (t_stumbled : Int32) (t_lineMany : Int32) (t_lineOrder : Int32) (t_whoseMany : Int32) (t_whoseFirst : Int32) (t_restMany : Int32) (t_restFirst : Int32) (t_trial : Nat → Int32) (t_kind : Nat → Int32) (t_beat : Nat → Int32) (x1 : Int32) (o_t_trial : Nat → Int32) (hf : f_X8_goSteps x1 t_depth t_noon t_later t_walkers t_stumbled t_trial t_kind t_beat = some o_t_trial) : Met l yX8_goSteps wsX8_goSteps rm_X8_goSteps (va_Pc [.ref q_t, .int x1] (PU (dC, dI) cI cZ [(q_t, .inr (8, [.int t_thrown, .ref q_t_text, .int t_textSize, .int t_place, .int t_depth, .int t_noon, .int t_later, .int t_walkers, .ref q_t_beat, .ref q_t_kind, .ref q_t_readSnow, .int t_readWalkers, .ref q_t_readWalker, .ref q_t_page, .ref q_t_trial, .ref q_t_book, .int t_acts, .ref q_t_kept, .ref q_t_isKept, .int t_marks, .ref q_t_markStep, .ref q_t_markTread, .long t_seed, .int t_stumbled, .ref q_t_order, .int t_lineMany, .int t_lineOrder, .int t_whoseMany, .int t_whoseFirst, .int t_restMany, .int t_restFirst, .ref q_t_gains, .ref q_t_value])), (q_t_trial, .inl (cI, 17, .inl t_trial)), (q_t_kind, .inl (cI, 5, .inl t_kind)), (q_t_beat, .inl (cI, 5, .inl t_beat))] sz)) (va_Qv (fun (_ : Unit) => True) (fun _ t => va_P (dC, dI) vwCl [(q_t, .inr (8, [.int t_thrown, .ref q_t_text, .int t_textSize, .int t_place, .int t_depth, .int t_noon, .int t_later, .int t_walkers, .ref q_t_beat, .ref q_t_kind, .ref q_t_readSnow, .int t_readWalkers, .ref q_t_readWalker, .ref q_t_page, .ref q_t_trial, .ref q_t_book, .int t_acts, .ref q_t_kept, .ref q_t_isKept, .int t_marks, .ref q_t_markStep, .ref q_t_markTread, .long t_seed, .int t_stumbled, .ref q_t_order, .int t_lineMany, .int t_lineOrder, .int t_whoseMany, .int t_whoseFirst, .int t_restMany, .int t_restFirst, .ref q_t_gains, .ref q_t_value])), (q_t_trial, .inl (cI, 17, .inl o_t_trial)), (q_t_kind, .inl (cI, 5, .inl t_kind)), (q_t_beat, .inl (cI, 5, .inl t_beat))] t.heap) (va_A [(q_t, .inr (8, [.int t_thrown, .ref q_t_text, .int t_textSize, .int t_place, .int t_depth, .int t_noon, .int t_later, .int t_walkers, .ref q_t_beat, .ref q_t_kind, .ref q_t_readSnow, .int t_readWalkers, .ref q_t_readWalker, .ref q_t_page, .ref q_t_trial, .ref q_t_book, .int t_acts, .ref q_t_kept, .ref q_t_isKept, .int t_marks, .ref q_t_markStep, .ref q_t_markTread, .long t_seed, .int t_stumbled, .ref q_t_order, .int t_lineMany, .int t_lineOrder, .int t_whoseMany, .int t_whoseFirst, .int t_restMany, .int t_restFirst, .ref q_t_gains, .ref q_t_value])), (q_t_trial, .inl (cI, 17, .inl t_trial)), (q_t_kind, .inl (cI, 5, .inl t_kind)), (q_t_beat, .inl (cI, 5, .inl t_beat))] sz)) 0 0 (va_A [(q_t, .inr (8, [.int t_thrown, .ref q_t_text, .int t_textSize, .int t_place, .int t_depth, .int t_noon, .int t_later, .int t_walkers, .ref q_t_beat, .ref q_t_kind, .ref q_t_readSnow, .int t_readWalkers, .ref q_t_readWalker, .ref q_t_page, .ref q_t_trial, .ref q_t_book, .int t_acts, .ref q_t_kept, .ref q_t_isKept, .int t_marks, .ref q_t_markStep, .ref q_t_markTread, .long t_seed, .int t_stumbled, .ref q_t_order, .int t_lineMany, .int t_lineOrder, .int t_whoseMany, .int t_whoseFirst, .int t_restMany, .int t_restFirst, .ref q_t_gains, .ref q_t_value])), (q_t_trial, .inl (cI, 17, .inl t_trial)), (q_t_kind, .inl (cI, 5, .inl t_kind)), (q_t_beat, .inl (cI, 5, .inl t_beat))] sz) := by
  refine MetV (cc := cX8_goSteps) (maxL := 3) (by decide) rfl (Nat.le_of_ble_eq_true rfl) (fun _ h => h) ?_
  intro p e s m args below meth c A Q ls hx CF hK hA hD hP hS hl hB hAe hsz hret
  have hb := CF.2.1
  have hml := CF.2.2.1
  have hown := CF.2.2.2.1
  have hts := CF.2.2.2.2
  have hD0 := hD
  replace hl : lv_has ls 3 [(0, .ref q_t), (1, .int x1)] := hl
  have hinX8 : ∀ w ∈ wsX80, w ∈ wsX8_goSteps := fun _ h => List.mem_cons_of_mem _ (List.mem_append_right _ h)
  have w_0 := hts (.fieldLink RX8 35 "PassInStepModel" "trial" "[I") (by decide +kernel)
  have h_2 : ∀ (x1 : Int32) (fu2 : Nat) (x2 : Int32) (t_trial : Nat → Int32) (H : Heap) (locs : List Loc) (ls : Array Slot), va_P (dC, dI) vwCl [(q_t, .inr (8, [.int t_thrown, .ref q_t_text, .int t_textSize, .int t_place, .int t_depth, .int t_noon, .int t_later, .int t_walkers, .ref q_t_beat, .ref q_t_kind, .ref q_t_readSnow, .int t_readWalkers, .ref q_t_readWalker, .ref q_t_page, .ref q_t_trial, .ref q_t_book, .int t_acts, .ref q_t_kept, .ref q_t_isKept, .int t_marks, .ref q_t_markStep, .ref q_t_markTread, .long t_seed, .int t_stumbled, .ref q_t_order, .int t_lineMany, .int t_lineOrder, .int t_whoseMany, .int t_whoseFirst, .int t_restMany, .int t_restFirst, .ref q_t_gains, .ref q_t_value])), (q_t_trial, .inl (cI, 17, .inl t_trial)), (q_t_kind, .inl (cI, 5, .inl t_kind)), (q_t_beat, .inl (cI, 5, .inl t_beat))] H → va_S A s.heap H locs → lv_has ls 3 [(0, .ref q_t), (1, .int x1), (2, .int x2)] → L_X8_goSteps_2 x1 t_depth t_noon t_later t_walkers t_stumbled t_kind t_beat fu2 x2 t_trial = some o_t_trial → W p l e rm_X8_goSteps s m args below meth c H locs 0 0 Q (F0 m 2 ls []) := by
    intro x1 fu2
    induction fu2 with
    | zero =>
      intro x2 t_trial H locs ls hP hS hl hf
      rw [L_X8_goSteps_2] at hf
      cases hf
    | succ fu2 ih2 =>
      intro x2 t_trial H locs ls hP hS hl hf
      have hD : va_D A [(q_t, .inr (8, [.int t_thrown, .ref q_t_text, .int t_textSize, .int t_place, .int t_depth, .int t_noon, .int t_later, .int t_walkers, .ref q_t_beat, .ref q_t_kind, .ref q_t_readSnow, .int t_readWalkers, .ref q_t_readWalker, .ref q_t_page, .ref q_t_trial, .ref q_t_book, .int t_acts, .ref q_t_kept, .ref q_t_isKept, .int t_marks, .ref q_t_markStep, .ref q_t_markTread, .long t_seed, .int t_stumbled, .ref q_t_order, .int t_lineMany, .int t_lineOrder, .int t_whoseMany, .int t_whoseFirst, .int t_restMany, .int t_restFirst, .ref q_t_gains, .ref q_t_value])), (q_t_trial, .inl (cI, 17, .inl t_trial)), (q_t_kind, .inl (cI, 5, .inl t_kind)), (q_t_beat, .inl (cI, 5, .inl t_beat))] := wd hD0 rfl
      rw [L_X8_goSteps_2] at hf
      refine lv_iload_n hx hb dX8_goSteps_2 rfl (lv_at hl 2 rfl) ?_
      refine lv_iload_n hx hb dX8_goSteps_3 rfl (lv_at hl 1 rfl) ?_
      refine lv_icmp_ge (tgt := 22) hx hb dX8_goSteps_4 (by decide) (fun hc => ?_) (fun hc => ?_)
      · replace hf := ip hc hf
        have e0 := ij1 hf
        exact hret _ _ _ _ (by rw [← e0]; exact hP) hS dX8_goSteps_22
      · replace hf := iq hc hf
        refine lv_aload_n hx hb dX8_goSteps_7 rfl (lv_at hl 0 rfl) ?_
        refine lv_aload_n hx hb dX8_goSteps_8 rfl (lv_at hl 0 rfl) ?_
        refine va_get (D := (dC, dI)) (ci := 8) (v := .ref q_t_trial) (C := RX8) (T := TX8) (N := 33) hx hb hts hinX8 hown hK.1 hP 0 rfl rfl 14 (by decide) w_0 (fun _ h9 => h9) rfl dX8_goSteps_9 ?_
        obtain ⟨⟨r1, o2⟩, e4, hf⟩ := bd_ok hf
        refine kVi (As := [.ref q_t_trial]) CF (cwV 1 hts gX8_goSteps_X8_goStep rfl rfl rfl (by decide +kernel) ⟨Nat.le_of_ble_eq_true rfl, Nat.le_of_ble_eq_true rfl⟩) PU_blind hP hD hS hA (va_recv hK.1 hP (ci := 8) (q0 := 0) rfl rfl) [0, 1, 2, 3] (fun h1 h2 h3 => PU_pre hK h1 A h2 h3) (c_X8_goStep l dC dI cI cZ q_t q_t_text q_t_beat q_t_kind q_t_readSnow q_t_readWalker q_t_page q_t_trial q_t_book q_t_kept q_t_isKept q_t_markStep q_t_markTread q_t_order q_t_gains q_t_value q_t_trial _ t_thrown t_textSize t_place t_depth t_noon t_later t_walkers t_readWalkers t_acts t_marks t_seed t_stumbled t_lineMany t_lineOrder t_whoseMany t_whoseFirst t_restMany t_restFirst t_trial t_kind t_beat 17 r1 o2 e4) rfl rfl rfl rfl hl.1 rfl (Nat.le_of_ble_eq_true rfl) dX8_goSteps_12 ⟨Nat.zero_le _, Nat.zero_le _⟩ (fun H locs hP hS => ?_)
        replace hP : va_P (dC, dI) vwCl [(q_t, .inr (8, [.int t_thrown, .ref q_t_text, .int t_textSize, .int t_place, .int t_depth, .int t_noon, .int t_later, .int t_walkers, .ref q_t_beat, .ref q_t_kind, .ref q_t_readSnow, .int t_readWalkers, .ref q_t_readWalker, .ref q_t_page, .ref q_t_trial, .ref q_t_book, .int t_acts, .ref q_t_kept, .ref q_t_isKept, .int t_marks, .ref q_t_markStep, .ref q_t_markTread, .long t_seed, .int t_stumbled, .ref q_t_order, .int t_lineMany, .int t_lineOrder, .int t_whoseMany, .int t_whoseFirst, .int t_restMany, .int t_restFirst, .ref q_t_gains, .ref q_t_value])), (q_t_trial, .inl (cI, 17, .inl o2)), (q_t_kind, .inl (cI, 5, .inl t_kind)), (q_t_beat, .inl (cI, 5, .inl t_beat))] H := hP
        replace hD : va_D A [(q_t, .inr (8, [.int t_thrown, .ref q_t_text, .int t_textSize, .int t_place, .int t_depth, .int t_noon, .int t_later, .int t_walkers, .ref q_t_beat, .ref q_t_kind, .ref q_t_readSnow, .int t_readWalkers, .ref q_t_readWalker, .ref q_t_page, .ref q_t_trial, .ref q_t_book, .int t_acts, .ref q_t_kept, .ref q_t_isKept, .int t_marks, .ref q_t_markStep, .ref q_t_markTread, .long t_seed, .int t_stumbled, .ref q_t_order, .int t_lineMany, .int t_lineOrder, .int t_whoseMany, .int t_whoseFirst, .int t_restMany, .int t_restFirst, .ref q_t_gains, .ref q_t_value])), (q_t_trial, .inl (cI, 17, .inl o2)), (q_t_kind, .inl (cI, 5, .inl t_kind)), (q_t_beat, .inl (cI, 5, .inl t_beat))] := wd hD rfl
        refine lv_pop hx hb dX8_goSteps_15 rfl ?_
        refine lv_iinc (v := (x2 + 1)) (lv' := [(2, .int (x2 + 1)), (0, .ref q_t), (1, .int x1)]) hx hb dX8_goSteps_16 hl (k := 2) rfl rfl (by decide) rfl (fun ls hl => ?_)
        refine lv_goto (tgt := 2) hx hb dX8_goSteps_19 (by decide) ?_
        exact ih2 (x2 + 1) o2 _ _ _ hP hS (lv_sub hl [1, 2, 0] rfl) hf
  rw [f_X8_goSteps] at hf
  refine lv_iconst (v := 0) hx hb dX8_goSteps_0 (by decide) ?_
  refine lv_istore_n (lv' := [(2, .int 0), (0, .ref q_t), (1, .int x1)]) hx hb dX8_goSteps_1 rfl hl (by decide) rfl (fun ls hl => ?_)
  exact h_2 x1 fuelC 0 t_trial _ _ _ hP hS (lv_sub hl [1, 2, 0] rfl) hf
abbrev rm_X8_up : Room := { frames := 0, cells := 0, slots := 0, locals := 0 }
set_option maxHeartbeats 4000000 in
set_option maxRecDepth 100000 in
theorem c_X8_up (l : Launch) (dC : Nat → ClassId) (dI : Nat → Nat → Nat) (cI cZ : ClassId) (q_t q_t_text q_t_beat q_t_kind q_t_readSnow q_t_readWalker q_t_page q_t_trial q_t_book q_t_kept q_t_isKept q_t_markStep q_t_markTread q_t_order q_t_gains q_t_value q_a1 : Nat) (sz : Nat) (t_thrown : Int32) (t_textSize : Int32) (t_place : Int32) (t_depth : Int32) (t_noon : Int32) (t_later : Int32) (t_walkers : Int32) (t_readWalkers : Int32) (t_acts : Int32) (t_marks : Int32) (t_seed : Int64) (t_stumbled : Int32) (t_lineMany : Int32) (t_lineOrder : Int32) (t_whoseMany : Int32) (t_whoseFirst : Int32) (t_restMany : Int32) (t_restFirst : Int32) (a1 : Nat → Int32) (n_a1 : Nat) (r_ : Int32) (hf : f_X8_up n_a1 t_walkers a1 = some r_) : Met l yX8_up wsX8_up rm_X8_up (va_Pc [.ref q_t, .ref q_a1] (PU (dC, dI) cI cZ [(q_t, .inr (8, [.int t_thrown, .ref q_t_text, .int t_textSize, .int t_place, .int t_depth, .int t_noon, .int t_later, .int t_walkers, .ref q_t_beat, .ref q_t_kind, .ref q_t_readSnow, .int t_readWalkers, .ref q_t_readWalker, .ref q_t_page, .ref q_t_trial, .ref q_t_book, .int t_acts, .ref q_t_kept, .ref q_t_isKept, .int t_marks, .ref q_t_markStep, .ref q_t_markTread, .long t_seed, .int t_stumbled, .ref q_t_order, .int t_lineMany, .int t_lineOrder, .int t_whoseMany, .int t_whoseFirst, .int t_restMany, .int t_restFirst, .ref q_t_gains, .ref q_t_value])), (q_a1, .inl (cI, n_a1, .inl a1))] sz)) (va_Qi (fun (r : Int32) (_ : Unit) => r = r_) (fun _ t => va_P (dC, dI) vwCl [(q_t, .inr (8, [.int t_thrown, .ref q_t_text, .int t_textSize, .int t_place, .int t_depth, .int t_noon, .int t_later, .int t_walkers, .ref q_t_beat, .ref q_t_kind, .ref q_t_readSnow, .int t_readWalkers, .ref q_t_readWalker, .ref q_t_page, .ref q_t_trial, .ref q_t_book, .int t_acts, .ref q_t_kept, .ref q_t_isKept, .int t_marks, .ref q_t_markStep, .ref q_t_markTread, .long t_seed, .int t_stumbled, .ref q_t_order, .int t_lineMany, .int t_lineOrder, .int t_whoseMany, .int t_whoseFirst, .int t_restMany, .int t_restFirst, .ref q_t_gains, .ref q_t_value])), (q_a1, .inl (cI, n_a1, .inl a1))] t.heap) (va_A [(q_t, .inr (8, [.int t_thrown, .ref q_t_text, .int t_textSize, .int t_place, .int t_depth, .int t_noon, .int t_later, .int t_walkers, .ref q_t_beat, .ref q_t_kind, .ref q_t_readSnow, .int t_readWalkers, .ref q_t_readWalker, .ref q_t_page, .ref q_t_trial, .ref q_t_book, .int t_acts, .ref q_t_kept, .ref q_t_isKept, .int t_marks, .ref q_t_markStep, .ref q_t_markTread, .long t_seed, .int t_stumbled, .ref q_t_order, .int t_lineMany, .int t_lineOrder, .int t_whoseMany, .int t_whoseFirst, .int t_restMany, .int t_restFirst, .ref q_t_gains, .ref q_t_value])), (q_a1, .inl (cI, n_a1, .inl a1))] sz)) 0 0 (va_A [(q_t, .inr (8, [.int t_thrown, .ref q_t_text, .int t_textSize, .int t_place, .int t_depth, .int t_noon, .int t_later, .int t_walkers, .ref q_t_beat, .ref q_t_kind, .ref q_t_readSnow, .int t_readWalkers, .ref q_t_readWalker, .ref q_t_page, .ref q_t_trial, .ref q_t_book, .int t_acts, .ref q_t_kept, .ref q_t_isKept, .int t_marks, .ref q_t_markStep, .ref q_t_markTread, .long t_seed, .int t_stumbled, .ref q_t_order, .int t_lineMany, .int t_lineOrder, .int t_whoseMany, .int t_whoseFirst, .int t_restMany, .int t_restFirst, .ref q_t_gains, .ref q_t_value])), (q_a1, .inl (cI, n_a1, .inl a1))] sz) := by
  refine MetI (cc := cX8_up) (maxL := 2) (by decide) rfl (Nat.le_of_ble_eq_true rfl) (fun _ h => h) ?_
  intro p e s m args below meth c A Q ls hx CF hK hA hD hP hS hl hB hAe hsz hret
  have hb := CF.2.1
  have hml := CF.2.2.1
  have hown := CF.2.2.2.1
  have hts := CF.2.2.2.2
  have hD0 := hD
  replace hl : lv_has ls 2 [(0, .ref q_t), (1, .ref q_a1)] := hl
  have hinX8 : ∀ w ∈ wsX80, w ∈ wsX8_up := fun _ h => List.mem_cons_of_mem _ (List.mem_append_right _ h)
  have w_0 := hts (.fieldLink RX8 66 "PassInStepModel" "walkers" "I") (by decide +kernel)
  rw [f_X8_up] at hf
  refine lv_iconst (v := 1) hx hb dX8_up_0 (by decide) ?_
  refine lv_aload_n hx hb dX8_up_1 rfl (lv_at hl 0 rfl) ?_
  refine va_get (D := (dC, dI)) (ci := 8) (v := .int t_walkers) (C := RX8) (T := TX8) (N := 33) hx hb hts hinX8 hown hK.1 hP 0 rfl rfl 7 (by decide) w_0 (fun _ h9 => h9) rfl dX8_up_2 ?_
  refine lv_ishl hx hb dX8_up_5 ?_
  refine lv_iconst (v := 1) hx hb dX8_up_6 (by decide) ?_
  refine lv_isub hx hb dX8_up_7 ?_
  refine lv_aload_n hx hb dX8_up_8 rfl (lv_at hl 1 rfl) ?_
  refine lv_bipush (v := 15) hx hb dX8_up_9 (by decide) ?_
  refine kald hx hb hK.1 hP 1 0 rfl rfl dX8_up_11 hf (fun v1 hf => ?_)
  refine lv_iconst (v := (-1)) hx hb dX8_up_12 (by decide) ?_
  refine lv_ixor hx hb dX8_up_13 ?_
  refine lv_iand hx hb dX8_up_14 ?_
  have e0 := ij1 hf
  refine W.eq (congrArg (fun z => F0 m 15 ls [.int z]) e0) ?_
  exact hret _ _ _ _ hP hS dX8_up_15
abbrev rm_X8_treadNow : Room := { frames := 3, cells := 0, slots := 0, locals := 69 }
set_option maxHeartbeats 4000000 in
set_option maxRecDepth 100000 in
theorem c_X8_treadNow (l : Launch) (dC : Nat → ClassId) (dI : Nat → Nat → Nat) (cI cZ : ClassId) (q_t q_t_text q_t_beat q_t_kind q_t_readSnow q_t_readWalker q_t_page q_t_trial q_t_book q_t_kept q_t_isKept q_t_markStep q_t_markTread q_t_order q_t_gains q_t_value : Nat) (sz : Nat) (t_thrown : Int32) (t_textSize : Int32) (t_place : Int32) (t_depth : Int32) (t_noon : Int32) (t_later : Int32) (t_walkers : Int32) (t_readWalkers : Int32) (t_acts : Int32) (t_marks : Int32) (t_seed : Int64) (t_stumbled : Int32) (t_lineMany : Int32) (t_lineOrder : Int32) (t_whoseMany : Int32) (t_whoseFirst : Int32) (t_restMany : Int32) (t_restFirst : Int32) (t_page : Nat → Int32) (t_kind : Nat → Int32) (t_beat : Nat → Int32) (x1 : Int32) (r_ : Int32) (hf : f_X8_treadNow x1 t_walkers t_stumbled t_page t_kind t_beat = some r_) : Met l yX8_treadNow wsX8_treadNow rm_X8_treadNow (va_Pc [.ref q_t, .int x1] (PU (dC, dI) cI cZ [(q_t, .inr (8, [.int t_thrown, .ref q_t_text, .int t_textSize, .int t_place, .int t_depth, .int t_noon, .int t_later, .int t_walkers, .ref q_t_beat, .ref q_t_kind, .ref q_t_readSnow, .int t_readWalkers, .ref q_t_readWalker, .ref q_t_page, .ref q_t_trial, .ref q_t_book, .int t_acts, .ref q_t_kept, .ref q_t_isKept, .int t_marks, .ref q_t_markStep, .ref q_t_markTread, .long t_seed, .int t_stumbled, .ref q_t_order, .int t_lineMany, .int t_lineOrder, .int t_whoseMany, .int t_whoseFirst, .int t_restMany, .int t_restFirst, .ref q_t_gains, .ref q_t_value])), (q_t_page, .inl (cI, 17, .inl t_page)), (q_t_kind, .inl (cI, 5, .inl t_kind)), (q_t_beat, .inl (cI, 5, .inl t_beat))] sz)) (va_Qi (fun (r : Int32) (_ : Unit) => r = r_) (fun _ t => va_P (dC, dI) vwCl [(q_t, .inr (8, [.int t_thrown, .ref q_t_text, .int t_textSize, .int t_place, .int t_depth, .int t_noon, .int t_later, .int t_walkers, .ref q_t_beat, .ref q_t_kind, .ref q_t_readSnow, .int t_readWalkers, .ref q_t_readWalker, .ref q_t_page, .ref q_t_trial, .ref q_t_book, .int t_acts, .ref q_t_kept, .ref q_t_isKept, .int t_marks, .ref q_t_markStep, .ref q_t_markTread, .long t_seed, .int t_stumbled, .ref q_t_order, .int t_lineMany, .int t_lineOrder, .int t_whoseMany, .int t_whoseFirst, .int t_restMany, .int t_restFirst, .ref q_t_gains, .ref q_t_value])), (q_t_page, .inl (cI, 17, .inl t_page)), (q_t_kind, .inl (cI, 5, .inl t_kind)), (q_t_beat, .inl (cI, 5, .inl t_beat))] t.heap) (va_A [(q_t, .inr (8, [.int t_thrown, .ref q_t_text, .int t_textSize, .int t_place, .int t_depth, .int t_noon, .int t_later, .int t_walkers, .ref q_t_beat, .ref q_t_kind, .ref q_t_readSnow, .int t_readWalkers, .ref q_t_readWalker, .ref q_t_page, .ref q_t_trial, .ref q_t_book, .int t_acts, .ref q_t_kept, .ref q_t_isKept, .int t_marks, .ref q_t_markStep, .ref q_t_markTread, .long t_seed, .int t_stumbled, .ref q_t_order, .int t_lineMany, .int t_lineOrder, .int t_whoseMany, .int t_whoseFirst, .int t_restMany, .int t_restFirst, .ref q_t_gains, .ref q_t_value])), (q_t_page, .inl (cI, 17, .inl t_page)), (q_t_kind, .inl (cI, 5, .inl t_kind)), (q_t_beat, .inl (cI, 5, .inl t_beat))] sz)) 0 0 (va_A [(q_t, .inr (8, [.int t_thrown, .ref q_t_text, .int t_textSize, .int t_place, .int t_depth, .int t_noon, .int t_later, .int t_walkers, .ref q_t_beat, .ref q_t_kind, .ref q_t_readSnow, .int t_readWalkers, .ref q_t_readWalker, .ref q_t_page, .ref q_t_trial, .ref q_t_book, .int t_acts, .ref q_t_kept, .ref q_t_isKept, .int t_marks, .ref q_t_markStep, .ref q_t_markTread, .long t_seed, .int t_stumbled, .ref q_t_order, .int t_lineMany, .int t_lineOrder, .int t_whoseMany, .int t_whoseFirst, .int t_restMany, .int t_restFirst, .ref q_t_gains, .ref q_t_value])), (q_t_page, .inl (cI, 17, .inl t_page)), (q_t_kind, .inl (cI, 5, .inl t_kind)), (q_t_beat, .inl (cI, 5, .inl t_beat))] sz) := by
  refine MetI (cc := cX8_treadNow) (maxL := 6) (by decide) rfl (Nat.le_of_ble_eq_true rfl) (fun _ h => h) ?_
  intro p e s m args below meth c A Q ls hx CF hK hA hD hP hS hl hB hAe hsz hret
  have hb := CF.2.1
  have hml := CF.2.2.1
  have hown := CF.2.2.2.1
  have hts := CF.2.2.2.2
  have hD0 := hD
  replace hl : lv_has ls 6 [(0, .ref q_t), (1, .int x1)] := hl
  have hinX8 : ∀ w ∈ wsX80, w ∈ wsX8_treadNow := fun _ h => List.mem_cons_of_mem _ (List.mem_append_right _ h)
  have w_0 := hts (.fieldLink RX8 66 "PassInStepModel" "walkers" "I") (by decide +kernel)
  have w_1 := hts (.fieldLink RX8 32 "PassInStepModel" "page" "[I") (by decide +kernel)
  have h_9 : ∀ (x1 : Int32) (fu9 : Nat) (x2 : Int32) (x3 : Int32) (x4 : Int32) (H : Heap) (locs : List Loc) (ls : Array Slot), va_P (dC, dI) vwCl [(q_t, .inr (8, [.int t_thrown, .ref q_t_text, .int t_textSize, .int t_place, .int t_depth, .int t_noon, .int t_later, .int t_walkers, .ref q_t_beat, .ref q_t_kind, .ref q_t_readSnow, .int t_readWalkers, .ref q_t_readWalker, .ref q_t_page, .ref q_t_trial, .ref q_t_book, .int t_acts, .ref q_t_kept, .ref q_t_isKept, .int t_marks, .ref q_t_markStep, .ref q_t_markTread, .long t_seed, .int t_stumbled, .ref q_t_order, .int t_lineMany, .int t_lineOrder, .int t_whoseMany, .int t_whoseFirst, .int t_restMany, .int t_restFirst, .ref q_t_gains, .ref q_t_value])), (q_t_page, .inl (cI, 17, .inl t_page)), (q_t_kind, .inl (cI, 5, .inl t_kind)), (q_t_beat, .inl (cI, 5, .inl t_beat))] H → va_S A s.heap H locs → lv_has ls 6 [(0, .ref q_t), (1, .int x1), (2, .int x2), (3, .int x3), (4, .int x4)] → L_X8_treadNow_9 x1 t_walkers t_stumbled t_page t_kind t_beat fu9 x2 x3 x4 = some r_ → W p l e rm_X8_treadNow s m args below meth c H locs 0 0 Q (F0 m 9 ls []) := by
    intro x1 fu9
    induction fu9 with
    | zero =>
      intro x2 x3 x4 H locs ls hP hS hl hf
      rw [L_X8_treadNow_9] at hf
      cases hf
    | succ fu9 ih9 =>
      have h_68 : ∀ (x2 : Int32) (x3 : Int32) (x4 : Int32) (H : Heap) (locs : List Loc) (ls : Array Slot), va_P (dC, dI) vwCl [(q_t, .inr (8, [.int t_thrown, .ref q_t_text, .int t_textSize, .int t_place, .int t_depth, .int t_noon, .int t_later, .int t_walkers, .ref q_t_beat, .ref q_t_kind, .ref q_t_readSnow, .int t_readWalkers, .ref q_t_readWalker, .ref q_t_page, .ref q_t_trial, .ref q_t_book, .int t_acts, .ref q_t_kept, .ref q_t_isKept, .int t_marks, .ref q_t_markStep, .ref q_t_markTread, .long t_seed, .int t_stumbled, .ref q_t_order, .int t_lineMany, .int t_lineOrder, .int t_whoseMany, .int t_whoseFirst, .int t_restMany, .int t_restFirst, .ref q_t_gains, .ref q_t_value])), (q_t_page, .inl (cI, 17, .inl t_page)), (q_t_kind, .inl (cI, 5, .inl t_kind)), (q_t_beat, .inl (cI, 5, .inl t_beat))] H → va_S A s.heap H locs → lv_has ls 6 [(0, .ref q_t), (1, .int x1), (2, .int x2), (3, .int x3), (4, .int x4)] → J_X8_treadNow_68 (L_X8_treadNow_9 x1 t_walkers t_stumbled t_page t_kind t_beat fu9) x2 x3 x4 = some r_ → W p l e rm_X8_treadNow s m args below meth c H locs 0 0 Q (F0 m 68 ls []) := by
        intro x2 x3 x4 H locs ls hP hS hl hf
        have hD : va_D A [(q_t, .inr (8, [.int t_thrown, .ref q_t_text, .int t_textSize, .int t_place, .int t_depth, .int t_noon, .int t_later, .int t_walkers, .ref q_t_beat, .ref q_t_kind, .ref q_t_readSnow, .int t_readWalkers, .ref q_t_readWalker, .ref q_t_page, .ref q_t_trial, .ref q_t_book, .int t_acts, .ref q_t_kept, .ref q_t_isKept, .int t_marks, .ref q_t_markStep, .ref q_t_markTread, .long t_seed, .int t_stumbled, .ref q_t_order, .int t_lineMany, .int t_lineOrder, .int t_whoseMany, .int t_whoseFirst, .int t_restMany, .int t_restFirst, .ref q_t_gains, .ref q_t_value])), (q_t_page, .inl (cI, 17, .inl t_page)), (q_t_kind, .inl (cI, 5, .inl t_kind)), (q_t_beat, .inl (cI, 5, .inl t_beat))] := wd hD0 rfl
        rw [J_X8_treadNow_68] at hf
        refine lv_iinc (v := (x4 + 1)) (lv' := [(4, .int (x4 + 1)), (0, .ref q_t), (1, .int x1), (2, .int x2), (3, .int x3)]) hx hb dX8_treadNow_68 hl (k := 4) rfl rfl (by decide) rfl (fun ls hl => ?_)
        refine lv_goto (tgt := 9) hx hb dX8_treadNow_71 (by decide) ?_
        exact ih9 x2 x3 (x4 + 1) _ _ _ hP hS (lv_sub hl [1, 2, 3, 4, 0] rfl) hf
      have h_67 : ∀ (x2 : Int32) (x4 : Int32) (s0 : Int32) (H : Heap) (locs : List Loc) (ls : Array Slot), va_P (dC, dI) vwCl [(q_t, .inr (8, [.int t_thrown, .ref q_t_text, .int t_textSize, .int t_place, .int t_depth, .int t_noon, .int t_later, .int t_walkers, .ref q_t_beat, .ref q_t_kind, .ref q_t_readSnow, .int t_readWalkers, .ref q_t_readWalker, .ref q_t_page, .ref q_t_trial, .ref q_t_book, .int t_acts, .ref q_t_kept, .ref q_t_isKept, .int t_marks, .ref q_t_markStep, .ref q_t_markTread, .long t_seed, .int t_stumbled, .ref q_t_order, .int t_lineMany, .int t_lineOrder, .int t_whoseMany, .int t_whoseFirst, .int t_restMany, .int t_restFirst, .ref q_t_gains, .ref q_t_value])), (q_t_page, .inl (cI, 17, .inl t_page)), (q_t_kind, .inl (cI, 5, .inl t_kind)), (q_t_beat, .inl (cI, 5, .inl t_beat))] H → va_S A s.heap H locs → lv_has ls 6 [(0, .ref q_t), (1, .int x1), (2, .int x2), (4, .int x4)] → J_X8_treadNow_67 (L_X8_treadNow_9 x1 t_walkers t_stumbled t_page t_kind t_beat fu9) x2 x4 s0 = some r_ → W p l e rm_X8_treadNow s m args below meth c H locs 0 0 Q (F0 m 67 ls [.int s0]) := by
        intro x2 x4 s0 H locs ls hP hS hl hf
        have hD : va_D A [(q_t, .inr (8, [.int t_thrown, .ref q_t_text, .int t_textSize, .int t_place, .int t_depth, .int t_noon, .int t_later, .int t_walkers, .ref q_t_beat, .ref q_t_kind, .ref q_t_readSnow, .int t_readWalkers, .ref q_t_readWalker, .ref q_t_page, .ref q_t_trial, .ref q_t_book, .int t_acts, .ref q_t_kept, .ref q_t_isKept, .int t_marks, .ref q_t_markStep, .ref q_t_markTread, .long t_seed, .int t_stumbled, .ref q_t_order, .int t_lineMany, .int t_lineOrder, .int t_whoseMany, .int t_whoseFirst, .int t_restMany, .int t_restFirst, .ref q_t_gains, .ref q_t_value])), (q_t_page, .inl (cI, 17, .inl t_page)), (q_t_kind, .inl (cI, 5, .inl t_kind)), (q_t_beat, .inl (cI, 5, .inl t_beat))] := wd hD0 rfl
        rw [J_X8_treadNow_67] at hf
        refine lv_istore_n (lv' := [(3, .int s0), (0, .ref q_t), (1, .int x1), (2, .int x2), (4, .int x4)]) hx hb dX8_treadNow_67 rfl hl (by decide) rfl (fun ls hl => ?_)
        exact h_68 x2 s0 x4 _ _ _ hP hS (lv_sub hl [1, 2, 3, 0, 4] rfl) hf
      intro x2 x3 x4 H locs ls hP hS hl hf
      have hD : va_D A [(q_t, .inr (8, [.int t_thrown, .ref q_t_text, .int t_textSize, .int t_place, .int t_depth, .int t_noon, .int t_later, .int t_walkers, .ref q_t_beat, .ref q_t_kind, .ref q_t_readSnow, .int t_readWalkers, .ref q_t_readWalker, .ref q_t_page, .ref q_t_trial, .ref q_t_book, .int t_acts, .ref q_t_kept, .ref q_t_isKept, .int t_marks, .ref q_t_markStep, .ref q_t_markTread, .long t_seed, .int t_stumbled, .ref q_t_order, .int t_lineMany, .int t_lineOrder, .int t_whoseMany, .int t_whoseFirst, .int t_restMany, .int t_restFirst, .ref q_t_gains, .ref q_t_value])), (q_t_page, .inl (cI, 17, .inl t_page)), (q_t_kind, .inl (cI, 5, .inl t_kind)), (q_t_beat, .inl (cI, 5, .inl t_beat))] := wd hD0 rfl
      rw [L_X8_treadNow_9] at hf
      refine lv_iload hx hb dX8_treadNow_9 (lv_at hl 4 rfl) ?_
      refine lv_aload_n hx hb dX8_treadNow_11 rfl (lv_at hl 0 rfl) ?_
      refine va_get (D := (dC, dI)) (ci := 8) (v := .int t_walkers) (C := RX8) (T := TX8) (N := 33) hx hb hts hinX8 hown hK.1 hP 0 rfl rfl 7 (by decide) w_0 (fun _ h9 => h9) rfl dX8_treadNow_12 ?_
      refine lv_icmp_ge (tgt := 74) hx hb dX8_treadNow_15 (by decide) (fun hc => ?_) (fun hc => ?_)
      · replace hf := ip hc hf
        refine lv_iload_n hx hb dX8_treadNow_74 rfl (lv_at hl 3 rfl) ?_
        have e0 := ij1 hf
        refine W.eq (congrArg (fun z => F0 m 75 ls [.int z]) e0) ?_
        exact hret _ _ _ _ hP hS dX8_treadNow_75
      · replace hf := iq hc hf
        refine lv_aload_n hx hb dX8_treadNow_18 rfl (lv_at hl 0 rfl) ?_
        refine va_get (D := (dC, dI)) (ci := 8) (v := .ref q_t_page) (C := RX8) (T := TX8) (N := 33) hx hb hts hinX8 hown hK.1 hP 0 rfl rfl 13 (by decide) w_1 (fun _ h9 => h9) rfl dX8_treadNow_19 ?_
        refine lv_iconst (v := 0) hx hb dX8_treadNow_22 (by decide) ?_
        refine lv_iload hx hb dX8_treadNow_23 (lv_at hl 4 rfl) ?_
        refine lv_iadd hx hb dX8_treadNow_25 ?_
        refine kald hx hb hK.1 hP 1 0 rfl rfl dX8_treadNow_26 hf (fun v1 hf => ?_)
        refine lv_istore (lv' := [(5, .int v1), (0, .ref q_t), (1, .int x1), (2, .int x2), (3, .int x3), (4, .int x4)]) hx hb dX8_treadNow_27 hl (by decide) rfl (fun ls hl => ?_)
        refine lv_aload_n hx hb dX8_treadNow_29 rfl (lv_at hl 1 rfl) ?_
        refine va_get (D := (dC, dI)) (ci := 8) (v := .ref q_t_page) (C := RX8) (T := TX8) (N := 33) hx hb hts hinX8 hown hK.1 hP 0 rfl rfl 13 (by decide) w_1 (fun _ h9 => h9) rfl dX8_treadNow_30 ?_
        refine lv_bipush (v := 15) hx hb dX8_treadNow_33 (by decide) ?_
        refine kald hx hb hK.1 hP 1 0 rfl rfl dX8_treadNow_35 hf (fun v2 hf => ?_)
        refine lv_iload hx hb dX8_treadNow_36 (lv_at hl 0 rfl) ?_
        obtain ⟨r3, e5, hf⟩ := bd_ok hf
        refine kSi (As := [.int v2, .int v1]) CF (va_cwS 2 hts gX8_treadNow_X8_has rfl rfl rfl (by decide +kernel) ⟨Nat.le_of_ble_eq_true rfl, Nat.le_of_ble_eq_true rfl⟩) PU_blind hP hD hS hA [] (fun h1 h2 h3 => PU_pre hK h1 A h2 h3) (c_X8_has l dC dI cI cZ _ v2 v1 r3 e5) rfl rfl rfl rfl hl.1 rfl (Nat.le_of_ble_eq_true rfl) dX8_treadNow_38 ⟨Nat.zero_le _, Nat.zero_le _⟩ (fun H locs hP hS => ?_)
        replace hP : va_P (dC, dI) vwCl [(q_t, .inr (8, [.int t_thrown, .ref q_t_text, .int t_textSize, .int t_place, .int t_depth, .int t_noon, .int t_later, .int t_walkers, .ref q_t_beat, .ref q_t_kind, .ref q_t_readSnow, .int t_readWalkers, .ref q_t_readWalker, .ref q_t_page, .ref q_t_trial, .ref q_t_book, .int t_acts, .ref q_t_kept, .ref q_t_isKept, .int t_marks, .ref q_t_markStep, .ref q_t_markTread, .long t_seed, .int t_stumbled, .ref q_t_order, .int t_lineMany, .int t_lineOrder, .int t_whoseMany, .int t_whoseFirst, .int t_restMany, .int t_restFirst, .ref q_t_gains, .ref q_t_value])), (q_t_page, .inl (cI, 17, .inl t_page)), (q_t_kind, .inl (cI, 5, .inl t_kind)), (q_t_beat, .inl (cI, 5, .inl t_beat))] H := hP
        refine lv_if_ne (tgt := 68) hx hb dX8_treadNow_41 (by decide) (fun hc => ?_) (fun hc => ?_)
        · replace hf := iq hc hf
          exact h_68 x2 x3 x4 _ _ _ hP hS (lv_sub hl [1, 2, 3, 4, 5] rfl) hf
        · replace hf := ip hc hf
          refine lv_aload_n hx hb dX8_treadNow_44 rfl (lv_at hl 1 rfl) ?_
          refine lv_aload_n hx hb dX8_treadNow_45 rfl (lv_at hl 1 rfl) ?_
          refine va_get (D := (dC, dI)) (ci := 8) (v := .ref q_t_page) (C := RX8) (T := TX8) (N := 33) hx hb hts hinX8 hown hK.1 hP 0 rfl rfl 13 (by decide) w_1 (fun _ h9 => h9) rfl dX8_treadNow_46 ?_
          refine lv_iload hx hb dX8_treadNow_49 (lv_at hl 0 rfl) ?_
          refine lv_iload_n hx hb dX8_treadNow_51 rfl (lv_at hl 3 rfl) ?_
          obtain ⟨r6, e8, hf⟩ := bd_ok hf
          refine kVi (As := [.ref q_t_page, .int v1, .int x2]) CF (cwV 3 hts gX8_treadNow_X8_treads rfl rfl rfl (by decide +kernel) ⟨Nat.le_of_ble_eq_true rfl, Nat.le_of_ble_eq_true rfl⟩) PU_blind hP hD hS hA (va_recv hK.1 hP (ci := 8) (q0 := 0) rfl rfl) [0, 2, 1, 3] (fun h1 h2 h3 => PU_pre hK h1 A h2 h3) (c_X8_treads l dC dI cI cZ q_t q_t_text q_t_beat q_t_kind q_t_readSnow q_t_readWalker q_t_page q_t_trial q_t_book q_t_kept q_t_isKept q_t_markStep q_t_markTread q_t_order q_t_gains q_t_value q_t_page _ t_thrown t_textSize t_place t_depth t_noon t_later t_walkers t_readWalkers t_acts t_marks t_seed t_stumbled t_lineMany t_lineOrder t_whoseMany t_whoseFirst t_restMany t_restFirst t_kind t_page t_beat 17 v1 x2 r6 e8) rfl rfl rfl rfl hl.1 rfl (Nat.le_of_ble_eq_true rfl) dX8_treadNow_52 ⟨Nat.zero_le _, Nat.zero_le _⟩ (fun H locs hP hS => ?_)
          replace hP : va_P (dC, dI) vwCl [(q_t, .inr (8, [.int t_thrown, .ref q_t_text, .int t_textSize, .int t_place, .int t_depth, .int t_noon, .int t_later, .int t_walkers, .ref q_t_beat, .ref q_t_kind, .ref q_t_readSnow, .int t_readWalkers, .ref q_t_readWalker, .ref q_t_page, .ref q_t_trial, .ref q_t_book, .int t_acts, .ref q_t_kept, .ref q_t_isKept, .int t_marks, .ref q_t_markStep, .ref q_t_markTread, .long t_seed, .int t_stumbled, .ref q_t_order, .int t_lineMany, .int t_lineOrder, .int t_whoseMany, .int t_whoseFirst, .int t_restMany, .int t_restFirst, .ref q_t_gains, .ref q_t_value])), (q_t_page, .inl (cI, 17, .inl t_page)), (q_t_kind, .inl (cI, 5, .inl t_kind)), (q_t_beat, .inl (cI, 5, .inl t_beat))] H := hP
          refine lv_istore_n (lv' := [(2, .int r6), (5, .int v1), (0, .ref q_t), (1, .int x1), (3, .int x3), (4, .int x4)]) hx hb dX8_treadNow_55 rfl hl (by decide) rfl (fun ls hl => ?_)
          refine lv_iload hx hb dX8_treadNow_56 (lv_at hl 1 rfl) ?_
          refine lv_iload_n hx hb dX8_treadNow_58 rfl (lv_at hl 3 rfl) ?_
          refine lv_icmp_ne (tgt := 66) hx hb dX8_treadNow_59 (by decide) (fun hc => ?_) (fun hc => ?_)
          · replace hf := iq hc hf
            refine lv_iload_n hx hb dX8_treadNow_66 rfl (lv_at hl 4 rfl) ?_
            exact h_67 r6 x4 x3 _ _ _ hP hS (lv_sub hl [2, 3, 0, 5] rfl) hf
          · replace hf := ip hc hf
            refine lv_iload_n hx hb dX8_treadNow_62 rfl (lv_at hl 0 rfl) ?_
            refine lv_goto (tgt := 67) hx hb dX8_treadNow_63 (by decide) ?_
            exact h_67 r6 x4 r6 _ _ _ hP hS (lv_sub hl [2, 3, 0, 5] rfl) hf
  rw [f_X8_treadNow] at hf
  refine lv_bipush (v := (-9)) hx hb dX8_treadNow_0 (by decide) ?_
  refine lv_istore_n (lv' := [(2, .int (-9)), (0, .ref q_t), (1, .int x1)]) hx hb dX8_treadNow_2 rfl hl (by decide) rfl (fun ls hl => ?_)
  refine lv_bipush (v := (-9)) hx hb dX8_treadNow_3 (by decide) ?_
  refine lv_istore_n (lv' := [(3, .int (-9)), (2, .int (-9)), (0, .ref q_t), (1, .int x1)]) hx hb dX8_treadNow_5 rfl hl (by decide) rfl (fun ls hl => ?_)
  refine lv_iconst (v := 0) hx hb dX8_treadNow_6 (by decide) ?_
  refine lv_istore (lv' := [(4, .int 0), (3, .int (-9)), (2, .int (-9)), (0, .ref q_t), (1, .int x1)]) hx hb dX8_treadNow_7 hl (by decide) rfl (fun ls hl => ?_)
  exact h_9 x1 fuelC (-9) (-9) 0 _ _ _ hP hS (lv_sub hl [3, 4, 2, 1, 0] rfl) hf
abbrev rm_X8_strains : Room := { frames := 0, cells := 0, slots := 0, locals := 0 }
set_option maxHeartbeats 4000000 in
set_option maxRecDepth 100000 in
theorem c_X8_strains (l : Launch) (dC : Nat → ClassId) (dI : Nat → Nat → Nat) (cI cZ : ClassId) (q_t q_t_text q_t_beat q_t_kind q_t_readSnow q_t_readWalker q_t_page q_t_trial q_t_book q_t_kept q_t_isKept q_t_markStep q_t_markTread q_t_order q_t_gains q_t_value : Nat) (sz : Nat) (t_thrown : Int32) (t_textSize : Int32) (t_place : Int32) (t_depth : Int32) (t_noon : Int32) (t_later : Int32) (t_walkers : Int32) (t_readWalkers : Int32) (t_acts : Int32) (t_marks : Int32) (t_seed : Int64) (t_stumbled : Int32) (t_lineMany : Int32) (t_lineOrder : Int32) (t_whoseMany : Int32) (t_whoseFirst : Int32) (t_restMany : Int32) (t_restFirst : Int32) (t_page : Nat → Int32) (r_ : Int32) (hf : f_X8_strains t_walkers t_page = some r_) : Met l yX8_strains wsX8_strains rm_X8_strains (va_Pc [.ref q_t] (PU (dC, dI) cI cZ [(q_t, .inr (8, [.int t_thrown, .ref q_t_text, .int t_textSize, .int t_place, .int t_depth, .int t_noon, .int t_later, .int t_walkers, .ref q_t_beat, .ref q_t_kind, .ref q_t_readSnow, .int t_readWalkers, .ref q_t_readWalker, .ref q_t_page, .ref q_t_trial, .ref q_t_book, .int t_acts, .ref q_t_kept, .ref q_t_isKept, .int t_marks, .ref q_t_markStep, .ref q_t_markTread, .long t_seed, .int t_stumbled, .ref q_t_order, .int t_lineMany, .int t_lineOrder, .int t_whoseMany, .int t_whoseFirst, .int t_restMany, .int t_restFirst, .ref q_t_gains, .ref q_t_value])), (q_t_page, .inl (cI, 17, .inl t_page))] sz)) (va_Qi (fun (r : Int32) (_ : Unit) => r = r_) (fun _ t => va_P (dC, dI) vwCl [(q_t, .inr (8, [.int t_thrown, .ref q_t_text, .int t_textSize, .int t_place, .int t_depth, .int t_noon, .int t_later, .int t_walkers, .ref q_t_beat, .ref q_t_kind, .ref q_t_readSnow, .int t_readWalkers, .ref q_t_readWalker, .ref q_t_page, .ref q_t_trial, .ref q_t_book, .int t_acts, .ref q_t_kept, .ref q_t_isKept, .int t_marks, .ref q_t_markStep, .ref q_t_markTread, .long t_seed, .int t_stumbled, .ref q_t_order, .int t_lineMany, .int t_lineOrder, .int t_whoseMany, .int t_whoseFirst, .int t_restMany, .int t_restFirst, .ref q_t_gains, .ref q_t_value])), (q_t_page, .inl (cI, 17, .inl t_page))] t.heap) (va_A [(q_t, .inr (8, [.int t_thrown, .ref q_t_text, .int t_textSize, .int t_place, .int t_depth, .int t_noon, .int t_later, .int t_walkers, .ref q_t_beat, .ref q_t_kind, .ref q_t_readSnow, .int t_readWalkers, .ref q_t_readWalker, .ref q_t_page, .ref q_t_trial, .ref q_t_book, .int t_acts, .ref q_t_kept, .ref q_t_isKept, .int t_marks, .ref q_t_markStep, .ref q_t_markTread, .long t_seed, .int t_stumbled, .ref q_t_order, .int t_lineMany, .int t_lineOrder, .int t_whoseMany, .int t_whoseFirst, .int t_restMany, .int t_restFirst, .ref q_t_gains, .ref q_t_value])), (q_t_page, .inl (cI, 17, .inl t_page))] sz)) 0 0 (va_A [(q_t, .inr (8, [.int t_thrown, .ref q_t_text, .int t_textSize, .int t_place, .int t_depth, .int t_noon, .int t_later, .int t_walkers, .ref q_t_beat, .ref q_t_kind, .ref q_t_readSnow, .int t_readWalkers, .ref q_t_readWalker, .ref q_t_page, .ref q_t_trial, .ref q_t_book, .int t_acts, .ref q_t_kept, .ref q_t_isKept, .int t_marks, .ref q_t_markStep, .ref q_t_markTread, .long t_seed, .int t_stumbled, .ref q_t_order, .int t_lineMany, .int t_lineOrder, .int t_whoseMany, .int t_whoseFirst, .int t_restMany, .int t_restFirst, .ref q_t_gains, .ref q_t_value])), (q_t_page, .inl (cI, 17, .inl t_page))] sz) := by
  refine MetI (cc := cX8_strains) (maxL := 3) (by decide) rfl (Nat.le_of_ble_eq_true rfl) (fun _ h => h) ?_
  intro p e s m args below meth c A Q ls hx CF hK hA hD hP hS hl hB hAe hsz hret
  have hb := CF.2.1
  have hml := CF.2.2.1
  have hown := CF.2.2.2.1
  have hts := CF.2.2.2.2
  have hD0 := hD
  replace hl : lv_has ls 3 [(0, .ref q_t)] := hl
  have hinX8 : ∀ w ∈ wsX80, w ∈ wsX8_strains := fun _ h => List.mem_cons_of_mem _ (List.mem_append_right _ h)
  have w_0 := hts (.fieldLink RX8 66 "PassInStepModel" "walkers" "I") (by decide +kernel)
  have w_1 := hts (.fieldLink RX8 32 "PassInStepModel" "page" "[I") (by decide +kernel)
  have h_4 : ∀ (fu4 : Nat) (x1 : Int32) (x2 : Int32) (H : Heap) (locs : List Loc) (ls : Array Slot), va_P (dC, dI) vwCl [(q_t, .inr (8, [.int t_thrown, .ref q_t_text, .int t_textSize, .int t_place, .int t_depth, .int t_noon, .int t_later, .int t_walkers, .ref q_t_beat, .ref q_t_kind, .ref q_t_readSnow, .int t_readWalkers, .ref q_t_readWalker, .ref q_t_page, .ref q_t_trial, .ref q_t_book, .int t_acts, .ref q_t_kept, .ref q_t_isKept, .int t_marks, .ref q_t_markStep, .ref q_t_markTread, .long t_seed, .int t_stumbled, .ref q_t_order, .int t_lineMany, .int t_lineOrder, .int t_whoseMany, .int t_whoseFirst, .int t_restMany, .int t_restFirst, .ref q_t_gains, .ref q_t_value])), (q_t_page, .inl (cI, 17, .inl t_page))] H → va_S A s.heap H locs → lv_has ls 3 [(0, .ref q_t), (1, .int x1), (2, .int x2)] → L_X8_strains_4 t_walkers t_page fu4 x1 x2 = some r_ → W p l e rm_X8_strains s m args below meth c H locs 0 0 Q (F0 m 4 ls []) := by
    intro fu4
    induction fu4 with
    | zero =>
      intro x1 x2 H locs ls hP hS hl hf
      rw [L_X8_strains_4] at hf
      cases hf
    | succ fu4 ih4 =>
      intro x1 x2 H locs ls hP hS hl hf
      have hD : va_D A [(q_t, .inr (8, [.int t_thrown, .ref q_t_text, .int t_textSize, .int t_place, .int t_depth, .int t_noon, .int t_later, .int t_walkers, .ref q_t_beat, .ref q_t_kind, .ref q_t_readSnow, .int t_readWalkers, .ref q_t_readWalker, .ref q_t_page, .ref q_t_trial, .ref q_t_book, .int t_acts, .ref q_t_kept, .ref q_t_isKept, .int t_marks, .ref q_t_markStep, .ref q_t_markTread, .long t_seed, .int t_stumbled, .ref q_t_order, .int t_lineMany, .int t_lineOrder, .int t_whoseMany, .int t_whoseFirst, .int t_restMany, .int t_restFirst, .ref q_t_gains, .ref q_t_value])), (q_t_page, .inl (cI, 17, .inl t_page))] := wd hD0 rfl
      rw [L_X8_strains_4] at hf
      refine lv_iload_n hx hb dX8_strains_4 rfl (lv_at hl 2 rfl) ?_
      refine lv_aload_n hx hb dX8_strains_5 rfl (lv_at hl 0 rfl) ?_
      refine va_get (D := (dC, dI)) (ci := 8) (v := .int t_walkers) (C := RX8) (T := TX8) (N := 33) hx hb hts hinX8 hown hK.1 hP 0 rfl rfl 7 (by decide) w_0 (fun _ h9 => h9) rfl dX8_strains_6 ?_
      refine lv_icmp_ge (tgt := 30) hx hb dX8_strains_9 (by decide) (fun hc => ?_) (fun hc => ?_)
      · replace hf := ip hc hf
        refine lv_iload_n hx hb dX8_strains_30 rfl (lv_at hl 1 rfl) ?_
        have e0 := ij1 hf
        refine W.eq (congrArg (fun z => F0 m 31 ls [.int z]) e0) ?_
        exact hret _ _ _ _ hP hS dX8_strains_31
      · replace hf := iq hc hf
        refine lv_iload_n hx hb dX8_strains_12 rfl (lv_at hl 1 rfl) ?_
        refine lv_aload_n hx hb dX8_strains_13 rfl (lv_at hl 0 rfl) ?_
        refine va_get (D := (dC, dI)) (ci := 8) (v := .ref q_t_page) (C := RX8) (T := TX8) (N := 33) hx hb hts hinX8 hown hK.1 hP 0 rfl rfl 13 (by decide) w_1 (fun _ h9 => h9) rfl dX8_strains_14 ?_
        refine lv_bipush (v := 10) hx hb dX8_strains_17 (by decide) ?_
        refine lv_iload_n hx hb dX8_strains_19 rfl (lv_at hl 2 rfl) ?_
        refine lv_iadd hx hb dX8_strains_20 ?_
        refine kald hx hb hK.1 hP 1 0 rfl rfl dX8_strains_21 hf (fun v1 hf => ?_)
        refine lv_iadd hx hb dX8_strains_22 ?_
        refine lv_istore_n (lv' := [(1, .int (x1 + v1)), (0, .ref q_t), (2, .int x2)]) hx hb dX8_strains_23 rfl hl (by decide) rfl (fun ls hl => ?_)
        refine lv_iinc (v := (x2 + 1)) (lv' := [(2, .int (x2 + 1)), (1, .int (x1 + v1)), (0, .ref q_t)]) hx hb dX8_strains_24 hl (k := 2) rfl rfl (by decide) rfl (fun ls hl => ?_)
        refine lv_goto (tgt := 4) hx hb dX8_strains_27 (by decide) ?_
        exact ih4 (x1 + v1) (x2 + 1) _ _ _ hP hS (lv_sub hl [2, 1, 0] rfl) hf
  rw [f_X8_strains] at hf
  refine lv_iconst (v := 0) hx hb dX8_strains_0 (by decide) ?_
  refine lv_istore_n (lv' := [(1, .int 0), (0, .ref q_t)]) hx hb dX8_strains_1 rfl hl (by decide) rfl (fun ls hl => ?_)
  refine lv_iconst (v := 0) hx hb dX8_strains_2 (by decide) ?_
  refine lv_istore_n (lv' := [(2, .int 0), (1, .int 0), (0, .ref q_t)]) hx hb dX8_strains_3 rfl hl (by decide) rfl (fun ls hl => ?_)
  exact h_4 fuelC 0 0 _ _ _ hP hS (lv_sub hl [2, 1, 0] rfl) hf
abbrev rm_X8_about : Room := { frames := 1, cells := 0, slots := 0, locals := 22 }
set_option maxHeartbeats 4000000 in
set_option maxRecDepth 100000 in
theorem c_X8_about (l : Launch) (dC : Nat → ClassId) (dI : Nat → Nat → Nat) (cI cZ : ClassId) (q_t q_t_text q_t_beat q_t_kind q_t_readSnow q_t_readWalker q_t_page q_t_trial q_t_book q_t_kept q_t_isKept q_t_markStep q_t_markTread q_t_order q_t_gains q_t_value : Nat) (sz : Nat) (t_thrown : Int32) (t_textSize : Int32) (t_place : Int32) (t_depth : Int32) (t_noon : Int32) (t_later : Int32) (t_walkers : Int32) (t_readWalkers : Int32) (t_acts : Int32) (t_marks : Int32) (t_seed : Int64) (t_stumbled : Int32) (t_lineMany : Int32) (t_lineOrder : Int32) (t_whoseMany : Int32) (t_whoseFirst : Int32) (t_restMany : Int32) (t_restFirst : Int32) (t_page : Nat → Int32) (x1 : Int32) (r_ : Int32) (o_t_thrown : Int32) (hf : f_X8_about x1 t_thrown t_textSize t_depth t_noon t_later t_walkers t_acts t_marks t_page = some (r_, o_t_thrown)) : Met l yX8_about wsX8_about rm_X8_about (va_Pc [.ref q_t, .int x1] (PU (dC, dI) cI cZ [(q_t, .inr (8, [.int t_thrown, .ref q_t_text, .int t_textSize, .int t_place, .int t_depth, .int t_noon, .int t_later, .int t_walkers, .ref q_t_beat, .ref q_t_kind, .ref q_t_readSnow, .int t_readWalkers, .ref q_t_readWalker, .ref q_t_page, .ref q_t_trial, .ref q_t_book, .int t_acts, .ref q_t_kept, .ref q_t_isKept, .int t_marks, .ref q_t_markStep, .ref q_t_markTread, .long t_seed, .int t_stumbled, .ref q_t_order, .int t_lineMany, .int t_lineOrder, .int t_whoseMany, .int t_whoseFirst, .int t_restMany, .int t_restFirst, .ref q_t_gains, .ref q_t_value])), (q_t_page, .inl (cI, 17, .inl t_page))] sz)) (va_Qi (fun (r : Int32) (_ : Unit) => r = r_) (fun _ t => va_P (dC, dI) vwCl [(q_t, .inr (8, [.int o_t_thrown, .ref q_t_text, .int t_textSize, .int t_place, .int t_depth, .int t_noon, .int t_later, .int t_walkers, .ref q_t_beat, .ref q_t_kind, .ref q_t_readSnow, .int t_readWalkers, .ref q_t_readWalker, .ref q_t_page, .ref q_t_trial, .ref q_t_book, .int t_acts, .ref q_t_kept, .ref q_t_isKept, .int t_marks, .ref q_t_markStep, .ref q_t_markTread, .long t_seed, .int t_stumbled, .ref q_t_order, .int t_lineMany, .int t_lineOrder, .int t_whoseMany, .int t_whoseFirst, .int t_restMany, .int t_restFirst, .ref q_t_gains, .ref q_t_value])), (q_t_page, .inl (cI, 17, .inl t_page))] t.heap) (va_A [(q_t, .inr (8, [.int t_thrown, .ref q_t_text, .int t_textSize, .int t_place, .int t_depth, .int t_noon, .int t_later, .int t_walkers, .ref q_t_beat, .ref q_t_kind, .ref q_t_readSnow, .int t_readWalkers, .ref q_t_readWalker, .ref q_t_page, .ref q_t_trial, .ref q_t_book, .int t_acts, .ref q_t_kept, .ref q_t_isKept, .int t_marks, .ref q_t_markStep, .ref q_t_markTread, .long t_seed, .int t_stumbled, .ref q_t_order, .int t_lineMany, .int t_lineOrder, .int t_whoseMany, .int t_whoseFirst, .int t_restMany, .int t_restFirst, .ref q_t_gains, .ref q_t_value])), (q_t_page, .inl (cI, 17, .inl t_page))] sz)) 0 0 (va_A [(q_t, .inr (8, [.int t_thrown, .ref q_t_text, .int t_textSize, .int t_place, .int t_depth, .int t_noon, .int t_later, .int t_walkers, .ref q_t_beat, .ref q_t_kind, .ref q_t_readSnow, .int t_readWalkers, .ref q_t_readWalker, .ref q_t_page, .ref q_t_trial, .ref q_t_book, .int t_acts, .ref q_t_kept, .ref q_t_isKept, .int t_marks, .ref q_t_markStep, .ref q_t_markTread, .long t_seed, .int t_stumbled, .ref q_t_order, .int t_lineMany, .int t_lineOrder, .int t_whoseMany, .int t_whoseFirst, .int t_restMany, .int t_restFirst, .ref q_t_gains, .ref q_t_value])), (q_t_page, .inl (cI, 17, .inl t_page))] sz) := by
  refine MetI (cc := cX8_about) (maxL := 2) (by decide) rfl (Nat.le_of_ble_eq_true rfl) (fun _ h => h) ?_
  intro p e s m args below meth c A Q ls hx CF hK hA hD hP hS hl hB hAe hsz hret
  have hb := CF.2.1
  have hml := CF.2.2.1
  have hown := CF.2.2.2.1
  have hts := CF.2.2.2.2
  have hD0 := hD
  replace hl : lv_has ls 2 [(0, .ref q_t), (1, .int x1)] := hl
  have hinX8 : ∀ w ∈ wsX80, w ∈ wsX8_about := fun _ h => List.mem_cons_of_mem _ (List.mem_append_right _ h)
  have w_0 := hts (.fieldLink RX8 63 "PassInStepModel" "thrown" "I") (by decide +kernel)
  have w_1 := hts (.fieldLink RX8 66 "PassInStepModel" "walkers" "I") (by decide +kernel)
  have w_2 := hts (.fieldLink RX8 32 "PassInStepModel" "page" "[I") (by decide +kernel)
  have w_3 := hts (.fieldLink RX8 99 "PassInStepModel" "acts" "I") (by decide +kernel)
  have w_4 := hts (.fieldLink RX8 131 "PassInStepModel" "marks" "I") (by decide +kernel)
  have w_5 := hts (.fieldLink RX8 75 "PassInStepModel" "textSize" "I") (by decide +kernel)
  rw [f_X8_about] at hf
  refine lv_aload_n hx hb dX8_about_0 rfl (lv_at hl 0 rfl) ?_
  refine lv_iconst (v := 0) hx hb dX8_about_1 (by decide) ?_
  refine va_put (D := (dC, dI)) (ci := 8) (v := .int 0) (ty := .int) (C := RX8) (T := TX8) (N := 33) hx hb hts hinX8 tyX8 tyX8_ok nmX8 hown hK.1 hP hD hS 0 rfl rfl 0 (by decide) w_0 (fun _ h9 => h9) rfl (by decide +kernel) rfl rfl (Nat.le_of_ble_eq_true rfl) dX8_about_2 (fun H locs hP hD hS => ?_)
  replace hP : va_P (dC, dI) vwCl [(q_t, .inr (8, [.int 0, .ref q_t_text, .int t_textSize, .int t_place, .int t_depth, .int t_noon, .int t_later, .int t_walkers, .ref q_t_beat, .ref q_t_kind, .ref q_t_readSnow, .int t_readWalkers, .ref q_t_readWalker, .ref q_t_page, .ref q_t_trial, .ref q_t_book, .int t_acts, .ref q_t_kept, .ref q_t_isKept, .int t_marks, .ref q_t_markStep, .ref q_t_markTread, .long t_seed, .int t_stumbled, .ref q_t_order, .int t_lineMany, .int t_lineOrder, .int t_whoseMany, .int t_whoseFirst, .int t_restMany, .int t_restFirst, .ref q_t_gains, .ref q_t_value])), (q_t_page, .inl (cI, 17, .inl t_page))] H := hP
  replace hD : va_D A [(q_t, .inr (8, [.int 0, .ref q_t_text, .int t_textSize, .int t_place, .int t_depth, .int t_noon, .int t_later, .int t_walkers, .ref q_t_beat, .ref q_t_kind, .ref q_t_readSnow, .int t_readWalkers, .ref q_t_readWalker, .ref q_t_page, .ref q_t_trial, .ref q_t_book, .int t_acts, .ref q_t_kept, .ref q_t_isKept, .int t_marks, .ref q_t_markStep, .ref q_t_markTread, .long t_seed, .int t_stumbled, .ref q_t_order, .int t_lineMany, .int t_lineOrder, .int t_whoseMany, .int t_whoseFirst, .int t_restMany, .int t_restFirst, .ref q_t_gains, .ref q_t_value])), (q_t_page, .inl (cI, 17, .inl t_page))] := hD
  refine lv_iload_n hx hb dX8_about_5 rfl (lv_at hl 1 rfl) ?_
  by_cases n0 : (x1 : Int32) = 0
  · replace hf := ip n0 hf
    refine lv_tableIn (off := 46) (tgt := 52) hx hb dX8_about_6 (by rw [n0]; decide) (by rw [n0]; decide) (by rw [n0]; rfl) (by decide) ?_
    refine lv_aload_n hx hb dX8_about_52 rfl (lv_at hl 0 rfl) ?_
    refine va_get (D := (dC, dI)) (ci := 8) (v := .int t_walkers) (C := RX8) (T := TX8) (N := 33) hx hb hts hinX8 hown hK.1 hP 0 rfl rfl 7 (by decide) w_1 (fun _ h9 => h9) rfl dX8_about_53 ?_
    obtain ⟨e0, hf⟩ := ij2 hf
    have e1 := hf
    refine W.eq (congrArg (fun z => F0 m 56 ls [.int z]) e0) ?_
    exact hret _ _ _ _ (by rw [← e1]; exact hP) hS dX8_about_56
  · replace hf := iq n0 hf
    by_cases n1 : (x1 : Int32) = 1
    · replace hf := ip n1 hf
      refine lv_tableIn (off := 51) (tgt := 57) hx hb dX8_about_6 (by rw [n1]; decide) (by rw [n1]; decide) (by rw [n1]; rfl) (by decide) ?_
      refine lv_aload_n hx hb dX8_about_57 rfl (lv_at hl 0 rfl) ?_
      refine va_get (D := (dC, dI)) (ci := 8) (v := .ref q_t_page) (C := RX8) (T := TX8) (N := 33) hx hb hts hinX8 hown hK.1 hP 0 rfl rfl 13 (by decide) w_2 (fun _ h9 => h9) rfl dX8_about_58 ?_
      refine lv_bipush (v := 16) hx hb dX8_about_61 (by decide) ?_
      refine kald hx hb hK.1 hP 1 0 rfl rfl dX8_about_63 hf (fun v1 hf => ?_)
      obtain ⟨e0, hf⟩ := ij2 hf
      have e1 := hf
      refine W.eq (congrArg (fun z => F0 m 64 ls [.int z]) e0) ?_
      exact hret _ _ _ _ (by rw [← e1]; exact hP) hS dX8_about_64
    · replace hf := iq n1 hf
      by_cases n2 : (x1 : Int32) = 2
      · replace hf := ip n2 hf
        refine lv_tableIn (off := 59) (tgt := 65) hx hb dX8_about_6 (by rw [n2]; decide) (by rw [n2]; decide) (by rw [n2]; rfl) (by decide) ?_
        refine lv_aload_n hx hb dX8_about_65 rfl (lv_at hl 0 rfl) ?_
        refine lv_aload_n hx hb dX8_about_66 rfl (lv_at hl 0 rfl) ?_
        refine va_get (D := (dC, dI)) (ci := 8) (v := .ref q_t_page) (C := RX8) (T := TX8) (N := 33) hx hb hts hinX8 hown hK.1 hP 0 rfl rfl 13 (by decide) w_2 (fun _ h9 => h9) rfl dX8_about_67 ?_
        refine lv_bipush (v := 16) hx hb dX8_about_70 (by decide) ?_
        refine kald hx hb hK.1 hP 1 0 rfl rfl dX8_about_72 hf (fun v2 hf => ?_)
        obtain ⟨r3, e5, hf⟩ := bd_ok hf
        refine kVi (As := [.int v2]) CF (cwV 1 hts gX8_about_X8_snowAt rfl rfl rfl (by decide +kernel) ⟨Nat.le_of_ble_eq_true rfl, Nat.le_of_ble_eq_true rfl⟩) PU_blind hP hD hS hA (va_recv hK.1 hP (ci := 8) (q0 := 0) rfl rfl) [0] (fun h1 h2 h3 => PU_pre hK h1 A h2 h3) (c_X8_snowAt l dC dI cI cZ q_t q_t_text q_t_beat q_t_kind q_t_readSnow q_t_readWalker q_t_page q_t_trial q_t_book q_t_kept q_t_isKept q_t_markStep q_t_markTread q_t_order q_t_gains q_t_value _ 0 t_textSize t_place t_depth t_noon t_later t_walkers t_readWalkers t_acts t_marks t_seed t_stumbled t_lineMany t_lineOrder t_whoseMany t_whoseFirst t_restMany t_restFirst v2 r3 e5) rfl rfl rfl rfl hl.1 rfl (Nat.le_of_ble_eq_true rfl) dX8_about_73 ⟨Nat.zero_le _, Nat.zero_le _⟩ (fun H locs hP hS => ?_)
        replace hP : va_P (dC, dI) vwCl [(q_t, .inr (8, [.int 0, .ref q_t_text, .int t_textSize, .int t_place, .int t_depth, .int t_noon, .int t_later, .int t_walkers, .ref q_t_beat, .ref q_t_kind, .ref q_t_readSnow, .int t_readWalkers, .ref q_t_readWalker, .ref q_t_page, .ref q_t_trial, .ref q_t_book, .int t_acts, .ref q_t_kept, .ref q_t_isKept, .int t_marks, .ref q_t_markStep, .ref q_t_markTread, .long t_seed, .int t_stumbled, .ref q_t_order, .int t_lineMany, .int t_lineOrder, .int t_whoseMany, .int t_whoseFirst, .int t_restMany, .int t_restFirst, .ref q_t_gains, .ref q_t_value])), (q_t_page, .inl (cI, 17, .inl t_page))] H := hP
        obtain ⟨e0, hf⟩ := ij2 hf
        have e1 := hf
        refine W.eq (congrArg (fun z => F0 m 76 ls [.int z]) e0) ?_
        exact hret _ _ _ _ (by rw [← e1]; exact hP) hS dX8_about_76
      · replace hf := iq n2 hf
        by_cases n3 : (x1 : Int32) = 3
        · replace hf := ip n3 hf
          refine lv_tableIn (off := 71) (tgt := 77) hx hb dX8_about_6 (by rw [n3]; decide) (by rw [n3]; decide) (by rw [n3]; rfl) (by decide) ?_
          refine lv_aload_n hx hb dX8_about_77 rfl (lv_at hl 0 rfl) ?_
          refine va_get (D := (dC, dI)) (ci := 8) (v := .ref q_t_page) (C := RX8) (T := TX8) (N := 33) hx hb hts hinX8 hown hK.1 hP 0 rfl rfl 13 (by decide) w_2 (fun _ h9 => h9) rfl dX8_about_78 ?_
          refine lv_bipush (v := 15) hx hb dX8_about_81 (by decide) ?_
          refine kald hx hb hK.1 hP 1 0 rfl rfl dX8_about_83 hf (fun v6 hf => ?_)
          obtain ⟨e0, hf⟩ := ij2 hf
          have e1 := hf
          refine W.eq (congrArg (fun z => F0 m 84 ls [.int z]) e0) ?_
          exact hret _ _ _ _ (by rw [← e1]; exact hP) hS dX8_about_84
        · replace hf := iq n3 hf
          by_cases n4 : (x1 : Int32) = 4
          · replace hf := ip n4 hf
            refine lv_tableIn (off := 79) (tgt := 85) hx hb dX8_about_6 (by rw [n4]; decide) (by rw [n4]; decide) (by rw [n4]; rfl) (by decide) ?_
            refine lv_aload_n hx hb dX8_about_85 rfl (lv_at hl 0 rfl) ?_
            obtain ⟨r7, e9, hf⟩ := bd_ok hf
            refine kVi (As := []) CF (cwV 0 hts gX8_about_X8_strains rfl rfl rfl (by decide +kernel) ⟨Nat.le_of_ble_eq_true rfl, Nat.le_of_ble_eq_true rfl⟩) PU_blind hP hD hS hA (va_recv hK.1 hP (ci := 8) (q0 := 0) rfl rfl) [0, 1] (fun h1 h2 h3 => PU_pre hK h1 A h2 h3) (c_X8_strains l dC dI cI cZ q_t q_t_text q_t_beat q_t_kind q_t_readSnow q_t_readWalker q_t_page q_t_trial q_t_book q_t_kept q_t_isKept q_t_markStep q_t_markTread q_t_order q_t_gains q_t_value _ 0 t_textSize t_place t_depth t_noon t_later t_walkers t_readWalkers t_acts t_marks t_seed t_stumbled t_lineMany t_lineOrder t_whoseMany t_whoseFirst t_restMany t_restFirst t_page r7 e9) rfl rfl rfl rfl hl.1 rfl (Nat.le_of_ble_eq_true rfl) dX8_about_86 ⟨Nat.zero_le _, Nat.zero_le _⟩ (fun H locs hP hS => ?_)
            replace hP : va_P (dC, dI) vwCl [(q_t, .inr (8, [.int 0, .ref q_t_text, .int t_textSize, .int t_place, .int t_depth, .int t_noon, .int t_later, .int t_walkers, .ref q_t_beat, .ref q_t_kind, .ref q_t_readSnow, .int t_readWalkers, .ref q_t_readWalker, .ref q_t_page, .ref q_t_trial, .ref q_t_book, .int t_acts, .ref q_t_kept, .ref q_t_isKept, .int t_marks, .ref q_t_markStep, .ref q_t_markTread, .long t_seed, .int t_stumbled, .ref q_t_order, .int t_lineMany, .int t_lineOrder, .int t_whoseMany, .int t_whoseFirst, .int t_restMany, .int t_restFirst, .ref q_t_gains, .ref q_t_value])), (q_t_page, .inl (cI, 17, .inl t_page))] H := hP
            obtain ⟨e0, hf⟩ := ij2 hf
            have e1 := hf
            refine W.eq (congrArg (fun z => F0 m 89 ls [.int z]) e0) ?_
            exact hret _ _ _ _ (by rw [← e1]; exact hP) hS dX8_about_89
          · replace hf := iq n4 hf
            by_cases n5 : (x1 : Int32) = 5
            · replace hf := ip n5 hf
              refine lv_tableIn (off := 84) (tgt := 90) hx hb dX8_about_6 (by rw [n5]; decide) (by rw [n5]; decide) (by rw [n5]; rfl) (by decide) ?_
              refine lv_aload_n hx hb dX8_about_90 rfl (lv_at hl 0 rfl) ?_
              refine va_get (D := (dC, dI)) (ci := 8) (v := .int t_acts) (C := RX8) (T := TX8) (N := 33) hx hb hts hinX8 hown hK.1 hP 0 rfl rfl 16 (by decide) w_3 (fun _ h9 => h9) rfl dX8_about_91 ?_
              obtain ⟨e0, hf⟩ := ij2 hf
              have e1 := hf
              refine W.eq (congrArg (fun z => F0 m 94 ls [.int z]) e0) ?_
              exact hret _ _ _ _ (by rw [← e1]; exact hP) hS dX8_about_94
            · replace hf := iq n5 hf
              by_cases n6 : (x1 : Int32) = 6
              · replace hf := ip n6 hf
                refine lv_tableIn (off := 89) (tgt := 95) hx hb dX8_about_6 (by rw [n6]; decide) (by rw [n6]; decide) (by rw [n6]; rfl) (by decide) ?_
                refine lv_aload_n hx hb dX8_about_95 rfl (lv_at hl 0 rfl) ?_
                refine va_get (D := (dC, dI)) (ci := 8) (v := .int t_marks) (C := RX8) (T := TX8) (N := 33) hx hb hts hinX8 hown hK.1 hP 0 rfl rfl 19 (by decide) w_4 (fun _ h9 => h9) rfl dX8_about_96 ?_
                obtain ⟨e0, hf⟩ := ij2 hf
                have e1 := hf
                refine W.eq (congrArg (fun z => F0 m 99 ls [.int z]) e0) ?_
                exact hret _ _ _ _ (by rw [← e1]; exact hP) hS dX8_about_99
              · replace hf := iq n6 hf
                by_cases n7 : (x1 : Int32) = 7
                · replace hf := ip n7 hf
                  refine lv_tableIn (off := 94) (tgt := 100) hx hb dX8_about_6 (by rw [n7]; decide) (by rw [n7]; decide) (by rw [n7]; rfl) (by decide) ?_
                  refine lv_aload_n hx hb dX8_about_100 rfl (lv_at hl 0 rfl) ?_
                  refine va_get (D := (dC, dI)) (ci := 8) (v := .int t_textSize) (C := RX8) (T := TX8) (N := 33) hx hb hts hinX8 hown hK.1 hP 0 rfl rfl 2 (by decide) w_5 (fun _ h9 => h9) rfl dX8_about_101 ?_
                  obtain ⟨e0, hf⟩ := ij2 hf
                  have e1 := hf
                  refine W.eq (congrArg (fun z => F0 m 104 ls [.int z]) e0) ?_
                  exact hret _ _ _ _ (by rw [← e1]; exact hP) hS dX8_about_104
                · replace hf := iq n7 hf
                  refine lv_tableOut (tgt := 105) hx hb dX8_about_6 (by have a0 : (x1 : Int32).toInt ≠ 0 := sw_ne n0; have a1 : (x1 : Int32).toInt ≠ 1 := sw_ne n1; have a2 : (x1 : Int32).toInt ≠ 2 := sw_ne n2; have a3 : (x1 : Int32).toInt ≠ 3 := sw_ne n3; have a4 : (x1 : Int32).toInt ≠ 4 := sw_ne n4; have a5 : (x1 : Int32).toInt ≠ 5 := sw_ne n5; have a6 : (x1 : Int32).toInt ≠ 6 := sw_ne n6; have a7 : (x1 : Int32).toInt ≠ 7 := sw_ne n7; omega) (by decide) ?_
                  refine lv_bipush (v := (-2)) hx hb dX8_about_105 (by decide) ?_
                  obtain ⟨e0, hf⟩ := ij2 hf
                  have e1 := hf
                  refine W.eq (congrArg (fun z => F0 m 107 ls [.int z]) e0) ?_
                  exact hret _ _ _ _ (by rw [← e1]; exact hP) hS dX8_about_107
abbrev rm_X8_placeOf : Room := { frames := 0, cells := 0, slots := 0, locals := 0 }
set_option maxHeartbeats 4000000 in
set_option maxRecDepth 100000 in
theorem c_X8_placeOf (l : Launch) (dC : Nat → ClassId) (dI : Nat → Nat → Nat) (cI cZ : ClassId) (q_a0 : Nat) (sz : Nat) (a0 : Nat → Int32) (n_a0 : Nat) (x1 : Int32) (r_ : Int32) (hf : f_X8_placeOf x1 n_a0 a0 = some r_) : Met l yX8_placeOf wsX8_placeOf rm_X8_placeOf (va_Pc [.ref q_a0, .int x1] (PU (dC, dI) cI cZ [(q_a0, .inl (cI, n_a0, .inl a0))] sz)) (va_Qi (fun (r : Int32) (_ : Unit) => r = r_) (fun _ t => va_P (dC, dI) vwCl [(q_a0, .inl (cI, n_a0, .inl a0))] t.heap) (va_A [(q_a0, .inl (cI, n_a0, .inl a0))] sz)) 0 0 (va_A [(q_a0, .inl (cI, n_a0, .inl a0))] sz) := by
  refine MetI (cc := cX8_placeOf) (maxL := 4) (by decide) rfl (Nat.le_of_ble_eq_true rfl) (fun _ h => h) ?_
  intro p e s m args below meth c A Q ls hx CF hK hA hD hP hS hl hB hAe hsz hret
  have hb := CF.2.1
  have hml := CF.2.2.1
  have hown := CF.2.2.2.1
  have hts := CF.2.2.2.2
  have hD0 := hD
  replace hl : lv_has ls 4 [(0, .ref q_a0), (1, .int x1)] := hl
  have h_4 : ∀ (x1 : Int32) (fu4 : Nat) (x2 : Int32) (x3 : Int32) (H : Heap) (locs : List Loc) (ls : Array Slot), va_P (dC, dI) vwCl [(q_a0, .inl (cI, n_a0, .inl a0))] H → va_S A s.heap H locs → lv_has ls 4 [(0, .ref q_a0), (1, .int x1), (2, .int x2), (3, .int x3)] → L_X8_placeOf_4 x1 n_a0 a0 fu4 x2 x3 = some r_ → W p l e rm_X8_placeOf s m args below meth c H locs 0 0 Q (F0 m 4 ls []) := by
    intro x1 fu4
    induction fu4 with
    | zero =>
      intro x2 x3 H locs ls hP hS hl hf
      rw [L_X8_placeOf_4] at hf
      cases hf
    | succ fu4 ih4 =>
      have h_22 : ∀ (x3 : Int32) (s0 : Int32) (H : Heap) (locs : List Loc) (ls : Array Slot), va_P (dC, dI) vwCl [(q_a0, .inl (cI, n_a0, .inl a0))] H → va_S A s.heap H locs → lv_has ls 4 [(0, .ref q_a0), (1, .int x1), (3, .int x3)] → J_X8_placeOf_22 (L_X8_placeOf_4 x1 n_a0 a0 fu4) x3 s0 = some r_ → W p l e rm_X8_placeOf s m args below meth c H locs 0 0 Q (F0 m 22 ls [.int s0]) := by
        intro x3 s0 H locs ls hP hS hl hf
        have hD : va_D A [(q_a0, .inl (cI, n_a0, .inl a0))] := wd hD0 rfl
        rw [J_X8_placeOf_22] at hf
        refine lv_istore_n (lv' := [(2, .int s0), (0, .ref q_a0), (1, .int x1), (3, .int x3)]) hx hb dX8_placeOf_22 rfl hl (by decide) rfl (fun ls hl => ?_)
        refine lv_iinc (v := (x3 + (-1))) (lv' := [(3, .int (x3 + (-1))), (2, .int s0), (0, .ref q_a0), (1, .int x1)]) hx hb dX8_placeOf_23 hl (k := 3) rfl rfl (by decide) rfl (fun ls hl => ?_)
        refine lv_goto (tgt := 4) hx hb dX8_placeOf_26 (by decide) ?_
        exact ih4 s0 (x3 + (-1)) _ _ _ hP hS (lv_sub hl [2, 3, 1, 0] rfl) hf
      intro x2 x3 H locs ls hP hS hl hf
      have hD : va_D A [(q_a0, .inl (cI, n_a0, .inl a0))] := wd hD0 rfl
      rw [L_X8_placeOf_4] at hf
      refine lv_iload_n hx hb dX8_placeOf_4 rfl (lv_at hl 3 rfl) ?_
      refine lv_if_lt (tgt := 29) hx hb dX8_placeOf_5 (by decide) (fun hc => ?_) (fun hc => ?_)
      · replace hf := ip hc hf
        refine lv_iload_n hx hb dX8_placeOf_29 rfl (lv_at hl 2 rfl) ?_
        have e0 := ij1 hf
        refine W.eq (congrArg (fun z => F0 m 30 ls [.int z]) e0) ?_
        exact hret _ _ _ _ hP hS dX8_placeOf_30
      · replace hf := iq hc hf
        refine lv_aload_n hx hb dX8_placeOf_8 rfl (lv_at hl 0 rfl) ?_
        refine lv_iconst (v := 0) hx hb dX8_placeOf_9 (by decide) ?_
        refine lv_iload_n hx hb dX8_placeOf_10 rfl (lv_at hl 3 rfl) ?_
        refine lv_iadd hx hb dX8_placeOf_11 ?_
        refine kald hx hb hK.1 hP 0 0 rfl rfl dX8_placeOf_12 hf (fun v1 hf => ?_)
        refine lv_iload_n hx hb dX8_placeOf_13 rfl (lv_at hl 1 rfl) ?_
        refine lv_icmp_ne (tgt := 21) hx hb dX8_placeOf_14 (by decide) (fun hc => ?_) (fun hc => ?_)
        · replace hf := iq hc hf
          refine lv_iload_n hx hb dX8_placeOf_21 rfl (lv_at hl 2 rfl) ?_
          exact h_22 x3 x2 _ _ _ hP hS (lv_sub hl [0, 1, 3] rfl) hf
        · replace hf := ip hc hf
          refine lv_iload_n hx hb dX8_placeOf_17 rfl (lv_at hl 3 rfl) ?_
          refine lv_goto (tgt := 22) hx hb dX8_placeOf_18 (by decide) ?_
          exact h_22 x3 x3 _ _ _ hP hS (lv_sub hl [0, 1, 3] rfl) hf
  rw [f_X8_placeOf] at hf
  refine lv_iconst (v := 0) hx hb dX8_placeOf_0 (by decide) ?_
  refine lv_istore_n (lv' := [(2, .int 0), (0, .ref q_a0), (1, .int x1)]) hx hb dX8_placeOf_1 rfl hl (by decide) rfl (fun ls hl => ?_)
  refine lv_iconst (v := 4) hx hb dX8_placeOf_2 (by decide) ?_
  refine lv_istore_n (lv' := [(3, .int 4), (2, .int 0), (0, .ref q_a0), (1, .int x1)]) hx hb dX8_placeOf_3 rfl hl (by decide) rfl (fun ls hl => ?_)
  exact h_4 x1 fuelC 0 4 _ _ _ hP hS (lv_sub hl [2, 3, 1, 0] rfl) hf
