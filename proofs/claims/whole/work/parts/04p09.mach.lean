-- X8_mark X8_snowed X8_findWhose
abbrev rm_X8_mark : Room := { frames := 1, cells := 0, slots := 0, locals := 25 }
set_option maxHeartbeats 4000000 in
set_option maxRecDepth 100000 in
theorem c_X8_mark (l : Launch) (dC : Nat → ClassId) (dI : Nat → Nat → Nat) (cI cZ : ClassId) (q_t q_t_text q_t_beat q_t_kind q_t_readSnow q_t_readWalker q_t_page q_t_trial q_t_book q_t_kept q_t_isKept q_t_markStep q_t_markTread q_t_order q_t_gains q_t_value : Nat) (sz : Nat) (t_thrown : Int32) (t_textSize : Int32) (t_place : Int32) (t_depth : Int32) (t_noon : Int32) (t_later : Int32) (t_walkers : Int32) (t_readWalkers : Int32) (t_acts : Int32) (t_marks : Int32) (t_seed : Int64) (t_stumbled : Int32) (t_lineMany : Int32) (t_lineOrder : Int32) (t_whoseMany : Int32) (t_whoseFirst : Int32) (t_restMany : Int32) (t_restFirst : Int32) (t_markStep : Nat → Int32) (t_markTread : Nat → Int32) (x1 : Int32) (x2 : Int32) (r_ : Int32) (o_t_thrown : Int32) (o_t_marks : Int32) (o_t_markStep : Nat → Int32) (o_t_markTread : Nat → Int32) (hf : f_X8_mark x1 x2 t_thrown t_marks t_markStep t_markTread = some (r_, o_t_thrown, o_t_marks, o_t_markStep, o_t_markTread)) : Met l yX8_mark wsX8_mark rm_X8_mark (va_Pc [.ref q_t, .int x1, .int x2] (PU (dC, dI) cI cZ [(q_t, .inr (8, [.int t_thrown, .ref q_t_text, .int t_textSize, .int t_place, .int t_depth, .int t_noon, .int t_later, .int t_walkers, .ref q_t_beat, .ref q_t_kind, .ref q_t_readSnow, .int t_readWalkers, .ref q_t_readWalker, .ref q_t_page, .ref q_t_trial, .ref q_t_book, .int t_acts, .ref q_t_kept, .ref q_t_isKept, .int t_marks, .ref q_t_markStep, .ref q_t_markTread, .long t_seed, .int t_stumbled, .ref q_t_order, .int t_lineMany, .int t_lineOrder, .int t_whoseMany, .int t_whoseFirst, .int t_restMany, .int t_restFirst, .ref q_t_gains, .ref q_t_value])), (q_t_markStep, .inl (cI, 6, .inl t_markStep)), (q_t_markTread, .inl (cI, 6, .inl t_markTread))] sz)) (va_Qi (fun (r : Int32) (_ : Unit) => r = r_) (fun _ t => va_P (dC, dI) vwCl [(q_t, .inr (8, [.int o_t_thrown, .ref q_t_text, .int t_textSize, .int t_place, .int t_depth, .int t_noon, .int t_later, .int t_walkers, .ref q_t_beat, .ref q_t_kind, .ref q_t_readSnow, .int t_readWalkers, .ref q_t_readWalker, .ref q_t_page, .ref q_t_trial, .ref q_t_book, .int t_acts, .ref q_t_kept, .ref q_t_isKept, .int o_t_marks, .ref q_t_markStep, .ref q_t_markTread, .long t_seed, .int t_stumbled, .ref q_t_order, .int t_lineMany, .int t_lineOrder, .int t_whoseMany, .int t_whoseFirst, .int t_restMany, .int t_restFirst, .ref q_t_gains, .ref q_t_value])), (q_t_markStep, .inl (cI, 6, .inl o_t_markStep)), (q_t_markTread, .inl (cI, 6, .inl o_t_markTread))] t.heap) (va_A [(q_t, .inr (8, [.int t_thrown, .ref q_t_text, .int t_textSize, .int t_place, .int t_depth, .int t_noon, .int t_later, .int t_walkers, .ref q_t_beat, .ref q_t_kind, .ref q_t_readSnow, .int t_readWalkers, .ref q_t_readWalker, .ref q_t_page, .ref q_t_trial, .ref q_t_book, .int t_acts, .ref q_t_kept, .ref q_t_isKept, .int t_marks, .ref q_t_markStep, .ref q_t_markTread, .long t_seed, .int t_stumbled, .ref q_t_order, .int t_lineMany, .int t_lineOrder, .int t_whoseMany, .int t_whoseFirst, .int t_restMany, .int t_restFirst, .ref q_t_gains, .ref q_t_value])), (q_t_markStep, .inl (cI, 6, .inl t_markStep)), (q_t_markTread, .inl (cI, 6, .inl t_markTread))] sz)) 0 0 (va_A [(q_t, .inr (8, [.int t_thrown, .ref q_t_text, .int t_textSize, .int t_place, .int t_depth, .int t_noon, .int t_later, .int t_walkers, .ref q_t_beat, .ref q_t_kind, .ref q_t_readSnow, .int t_readWalkers, .ref q_t_readWalker, .ref q_t_page, .ref q_t_trial, .ref q_t_book, .int t_acts, .ref q_t_kept, .ref q_t_isKept, .int t_marks, .ref q_t_markStep, .ref q_t_markTread, .long t_seed, .int t_stumbled, .ref q_t_order, .int t_lineMany, .int t_lineOrder, .int t_whoseMany, .int t_whoseFirst, .int t_restMany, .int t_restFirst, .ref q_t_gains, .ref q_t_value])), (q_t_markStep, .inl (cI, 6, .inl t_markStep)), (q_t_markTread, .inl (cI, 6, .inl t_markTread))] sz) := by
  refine MetI (cc := cX8_mark) (maxL := 3) (by decide) rfl (Nat.le_of_ble_eq_true rfl) (fun _ h => h) ?_
  intro p e s m args below meth c A Q ls hx CF hK hA hD hP hS hl hB hAe hsz hret
  have hb := CF.2.1
  have hml := CF.2.2.1
  have hown := CF.2.2.2.1
  have hts := CF.2.2.2.2
  have hD0 := hD
  replace hl : lv_has ls 3 [(0, .ref q_t), (1, .int x1), (2, .int x2)] := hl
  have hinX8 : ∀ w ∈ wsX80, w ∈ wsX8_mark := fun _ h => List.mem_cons_of_mem _ (List.mem_append_right _ h)
  have w_0 := hts (.fieldLink RX8 63 "PassInStepModel" "thrown" "I") (by decide +kernel)
  have w_1 := hts (.constantLong RX8 168 (20)) (by decide +kernel)
  have w_2 := hts (.constantLong RX8 219 (12)) (by decide +kernel)
  have w_3 := hts (.fieldLink RX8 131 "PassInStepModel" "marks" "I") (by decide +kernel)
  have w_4 := hts (.fieldLink RX8 48 "PassInStepModel" "markStep" "[I") (by decide +kernel)
  have w_5 := hts (.fieldLink RX8 51 "PassInStepModel" "markTread" "[I") (by decide +kernel)
  unfold f_X8_mark at hf
  refine lv_aload_n hx hb dX8_mark_0 rfl (lv_at hl 0 rfl) ?_
  refine lv_iconst (v := 0) hx hb dX8_mark_1 (by decide) ?_
  refine va_put (D := (dC, dI)) (ci := 8) (v := .int 0) (ty := .int) (C := RX8) (T := TX8) (N := 33) hx hb hts hinX8 tyX8 tyX8_ok nmX8 hown hK.1 hP hD hS 0 rfl rfl 0 (by decide) w_0 (fun _ h9 => h9) rfl (by decide +kernel) rfl rfl (Nat.le_of_ble_eq_true rfl) dX8_mark_2 (fun H locs hP hD hS => ?_)
  replace hP : va_P (dC, dI) vwCl [(q_t, .inr (8, [.int 0, .ref q_t_text, .int t_textSize, .int t_place, .int t_depth, .int t_noon, .int t_later, .int t_walkers, .ref q_t_beat, .ref q_t_kind, .ref q_t_readSnow, .int t_readWalkers, .ref q_t_readWalker, .ref q_t_page, .ref q_t_trial, .ref q_t_book, .int t_acts, .ref q_t_kept, .ref q_t_isKept, .int t_marks, .ref q_t_markStep, .ref q_t_markTread, .long t_seed, .int t_stumbled, .ref q_t_order, .int t_lineMany, .int t_lineOrder, .int t_whoseMany, .int t_whoseFirst, .int t_restMany, .int t_restFirst, .ref q_t_gains, .ref q_t_value])), (q_t_markStep, .inl (cI, 6, .inl t_markStep)), (q_t_markTread, .inl (cI, 6, .inl t_markTread))] H := hP
  replace hD : va_D A [(q_t, .inr (8, [.int 0, .ref q_t_text, .int t_textSize, .int t_place, .int t_depth, .int t_noon, .int t_later, .int t_walkers, .ref q_t_beat, .ref q_t_kind, .ref q_t_readSnow, .int t_readWalkers, .ref q_t_readWalker, .ref q_t_page, .ref q_t_trial, .ref q_t_book, .int t_acts, .ref q_t_kept, .ref q_t_isKept, .int t_marks, .ref q_t_markStep, .ref q_t_markTread, .long t_seed, .int t_stumbled, .ref q_t_order, .int t_lineMany, .int t_lineOrder, .int t_whoseMany, .int t_whoseFirst, .int t_restMany, .int t_restFirst, .ref q_t_gains, .ref q_t_value])), (q_t_markStep, .inl (cI, 6, .inl t_markStep)), (q_t_markTread, .inl (cI, 6, .inl t_markTread))] := hD
  refine lv_iload_n hx hb dX8_mark_5 rfl (lv_at hl 1 rfl) ?_
  refine lv_i2l hx hb dX8_mark_6 rfl ?_
  refine lv_lconst (v := 0) hx hb dX8_mark_7 (by decide) ?_
  refine lv_ldc2 (v := 20) hx hb hown w_1 dX8_mark_8 ?_
  obtain ⟨r1, e3, hf⟩ := bd_ok hf
  refine kSi (As := [.long ((x1).toInt64), .long (0 : Int64), .long (20 : Int64)]) CF (va_cwS 3 hts gX8_mark_X8_in rfl rfl rfl (by decide +kernel) ⟨Nat.le_of_ble_eq_true rfl, Nat.le_of_ble_eq_true rfl⟩) PU_blind hP hD hS hA [] (fun h1 h2 h3 => PU_pre hK h1 A h2 h3) (c_X8_in l dC dI cI cZ _ ((x1).toInt64) (0 : Int64) (20 : Int64) r1 e3) rfl rfl rfl rfl hl.1 rfl (Nat.le_of_ble_eq_true rfl) dX8_mark_11 ⟨Nat.zero_le _, Nat.zero_le _⟩ (fun H locs hP hS => ?_)
  replace hP : va_P (dC, dI) vwCl [(q_t, .inr (8, [.int 0, .ref q_t_text, .int t_textSize, .int t_place, .int t_depth, .int t_noon, .int t_later, .int t_walkers, .ref q_t_beat, .ref q_t_kind, .ref q_t_readSnow, .int t_readWalkers, .ref q_t_readWalker, .ref q_t_page, .ref q_t_trial, .ref q_t_book, .int t_acts, .ref q_t_kept, .ref q_t_isKept, .int t_marks, .ref q_t_markStep, .ref q_t_markTread, .long t_seed, .int t_stumbled, .ref q_t_order, .int t_lineMany, .int t_lineOrder, .int t_whoseMany, .int t_whoseFirst, .int t_restMany, .int t_restFirst, .ref q_t_gains, .ref q_t_value])), (q_t_markStep, .inl (cI, 6, .inl t_markStep)), (q_t_markTread, .inl (cI, 6, .inl t_markTread))] H := hP
  refine lv_if_eq (tgt := 29) hx hb dX8_mark_14 (by decide) (fun hc => ?_) (fun hc => ?_)
  · replace hf := ip hc hf
    refine lv_bipush (v := (-2)) hx hb dX8_mark_29 (by decide) ?_
    obtain ⟨e0, hf⟩ := ij2 hf
    obtain ⟨e1, hf⟩ := ijc hf
    obtain ⟨e2, hf⟩ := ijc hf
    obtain ⟨e3, hf⟩ := ijc hf
    have e4 := hf
    refine W.eq (congrArg (fun z => F0 m 31 ls [.int z]) e0) ?_
    exact hret _ _ _ _ (by rw [← e1, ← e2, ← e3, ← e4]; exact hP) hS dX8_mark_31
  · replace hf := iq hc hf
    refine lv_iload_n hx hb dX8_mark_17 rfl (lv_at hl 2 rfl) ?_
    refine lv_i2l hx hb dX8_mark_18 rfl ?_
    refine lv_lconst (v := 0) hx hb dX8_mark_19 (by decide) ?_
    refine lv_ldc2 (v := 12) hx hb hown w_2 dX8_mark_20 ?_
    obtain ⟨r4, e6, hf⟩ := bd_ok hf
    refine kSi (As := [.long ((x2).toInt64), .long (0 : Int64), .long (12 : Int64)]) CF (va_cwS 3 hts gX8_mark_X8_in rfl rfl rfl (by decide +kernel) ⟨Nat.le_of_ble_eq_true rfl, Nat.le_of_ble_eq_true rfl⟩) PU_blind hP hD hS hA [] (fun h1 h2 h3 => PU_pre hK h1 A h2 h3) (c_X8_in l dC dI cI cZ _ ((x2).toInt64) (0 : Int64) (12 : Int64) r4 e6) rfl rfl rfl rfl hl.1 rfl (Nat.le_of_ble_eq_true rfl) dX8_mark_23 ⟨Nat.zero_le _, Nat.zero_le _⟩ (fun H locs hP hS => ?_)
    replace hP : va_P (dC, dI) vwCl [(q_t, .inr (8, [.int 0, .ref q_t_text, .int t_textSize, .int t_place, .int t_depth, .int t_noon, .int t_later, .int t_walkers, .ref q_t_beat, .ref q_t_kind, .ref q_t_readSnow, .int t_readWalkers, .ref q_t_readWalker, .ref q_t_page, .ref q_t_trial, .ref q_t_book, .int t_acts, .ref q_t_kept, .ref q_t_isKept, .int t_marks, .ref q_t_markStep, .ref q_t_markTread, .long t_seed, .int t_stumbled, .ref q_t_order, .int t_lineMany, .int t_lineOrder, .int t_whoseMany, .int t_whoseFirst, .int t_restMany, .int t_restFirst, .ref q_t_gains, .ref q_t_value])), (q_t_markStep, .inl (cI, 6, .inl t_markStep)), (q_t_markTread, .inl (cI, 6, .inl t_markTread))] H := hP
    refine lv_if_ne (tgt := 32) hx hb dX8_mark_26 (by decide) (fun hc => ?_) (fun hc => ?_)
    · replace hf := iq hc hf
      refine lv_aload_n hx hb dX8_mark_32 rfl (lv_at hl 0 rfl) ?_
      refine va_get (D := (dC, dI)) (ci := 8) (v := .int t_marks) (C := RX8) (T := TX8) (N := 33) hx hb hts hinX8 hown hK.1 hP 0 rfl rfl 19 (by decide) w_3 (fun _ h9 => h9) rfl dX8_mark_33 ?_
      refine lv_bipush (v := 6) hx hb dX8_mark_36 (by decide) ?_
      refine lv_icmp_ne (tgt := 44) hx hb dX8_mark_38 (by decide) (fun hc => ?_) (fun hc => ?_)
      · replace hf := iq hc hf
        refine lv_aload_n hx hb dX8_mark_44 rfl (lv_at hl 0 rfl) ?_
        refine va_get (D := (dC, dI)) (ci := 8) (v := .ref q_t_markStep) (C := RX8) (T := TX8) (N := 33) hx hb hts hinX8 hown hK.1 hP 0 rfl rfl 20 (by decide) w_4 (fun _ h9 => h9) rfl dX8_mark_45 ?_
        refine lv_aload_n hx hb dX8_mark_48 rfl (lv_at hl 0 rfl) ?_
        refine va_get (D := (dC, dI)) (ci := 8) (v := .int t_marks) (C := RX8) (T := TX8) (N := 33) hx hb hts hinX8 hown hK.1 hP 0 rfl rfl 19 (by decide) w_3 (fun _ h9 => h9) rfl dX8_mark_49 ?_
        refine lv_iload_n hx hb dX8_mark_52 rfl (lv_at hl 1 rfl) ?_
        refine kast hx hb hK.1 hP hD hS 1 0 rfl rfl dX8_mark_53 hf (fun w7 H locs hP hD hS hf => ?_)
        replace hP : va_P (dC, dI) vwCl [(q_t, .inr (8, [.int 0, .ref q_t_text, .int t_textSize, .int t_place, .int t_depth, .int t_noon, .int t_later, .int t_walkers, .ref q_t_beat, .ref q_t_kind, .ref q_t_readSnow, .int t_readWalkers, .ref q_t_readWalker, .ref q_t_page, .ref q_t_trial, .ref q_t_book, .int t_acts, .ref q_t_kept, .ref q_t_isKept, .int t_marks, .ref q_t_markStep, .ref q_t_markTread, .long t_seed, .int t_stumbled, .ref q_t_order, .int t_lineMany, .int t_lineOrder, .int t_whoseMany, .int t_whoseFirst, .int t_restMany, .int t_restFirst, .ref q_t_gains, .ref q_t_value])), (q_t_markStep, .inl (cI, 6, .inl w7)), (q_t_markTread, .inl (cI, 6, .inl t_markTread))] H := hP
        replace hD : va_D A [(q_t, .inr (8, [.int 0, .ref q_t_text, .int t_textSize, .int t_place, .int t_depth, .int t_noon, .int t_later, .int t_walkers, .ref q_t_beat, .ref q_t_kind, .ref q_t_readSnow, .int t_readWalkers, .ref q_t_readWalker, .ref q_t_page, .ref q_t_trial, .ref q_t_book, .int t_acts, .ref q_t_kept, .ref q_t_isKept, .int t_marks, .ref q_t_markStep, .ref q_t_markTread, .long t_seed, .int t_stumbled, .ref q_t_order, .int t_lineMany, .int t_lineOrder, .int t_whoseMany, .int t_whoseFirst, .int t_restMany, .int t_restFirst, .ref q_t_gains, .ref q_t_value])), (q_t_markStep, .inl (cI, 6, .inl w7)), (q_t_markTread, .inl (cI, 6, .inl t_markTread))] := hD
        refine lv_aload_n hx hb dX8_mark_54 rfl (lv_at hl 0 rfl) ?_
        refine va_get (D := (dC, dI)) (ci := 8) (v := .ref q_t_markTread) (C := RX8) (T := TX8) (N := 33) hx hb hts hinX8 hown hK.1 hP 0 rfl rfl 21 (by decide) w_5 (fun _ h9 => h9) rfl dX8_mark_55 ?_
        refine lv_aload_n hx hb dX8_mark_58 rfl (lv_at hl 0 rfl) ?_
        refine va_get (D := (dC, dI)) (ci := 8) (v := .int t_marks) (C := RX8) (T := TX8) (N := 33) hx hb hts hinX8 hown hK.1 hP 0 rfl rfl 19 (by decide) w_3 (fun _ h9 => h9) rfl dX8_mark_59 ?_
        refine lv_iload_n hx hb dX8_mark_62 rfl (lv_at hl 2 rfl) ?_
        refine kast hx hb hK.1 hP hD hS 2 0 rfl rfl dX8_mark_63 hf (fun w8 H locs hP hD hS hf => ?_)
        replace hP : va_P (dC, dI) vwCl [(q_t, .inr (8, [.int 0, .ref q_t_text, .int t_textSize, .int t_place, .int t_depth, .int t_noon, .int t_later, .int t_walkers, .ref q_t_beat, .ref q_t_kind, .ref q_t_readSnow, .int t_readWalkers, .ref q_t_readWalker, .ref q_t_page, .ref q_t_trial, .ref q_t_book, .int t_acts, .ref q_t_kept, .ref q_t_isKept, .int t_marks, .ref q_t_markStep, .ref q_t_markTread, .long t_seed, .int t_stumbled, .ref q_t_order, .int t_lineMany, .int t_lineOrder, .int t_whoseMany, .int t_whoseFirst, .int t_restMany, .int t_restFirst, .ref q_t_gains, .ref q_t_value])), (q_t_markStep, .inl (cI, 6, .inl w7)), (q_t_markTread, .inl (cI, 6, .inl w8))] H := hP
        replace hD : va_D A [(q_t, .inr (8, [.int 0, .ref q_t_text, .int t_textSize, .int t_place, .int t_depth, .int t_noon, .int t_later, .int t_walkers, .ref q_t_beat, .ref q_t_kind, .ref q_t_readSnow, .int t_readWalkers, .ref q_t_readWalker, .ref q_t_page, .ref q_t_trial, .ref q_t_book, .int t_acts, .ref q_t_kept, .ref q_t_isKept, .int t_marks, .ref q_t_markStep, .ref q_t_markTread, .long t_seed, .int t_stumbled, .ref q_t_order, .int t_lineMany, .int t_lineOrder, .int t_whoseMany, .int t_whoseFirst, .int t_restMany, .int t_restFirst, .ref q_t_gains, .ref q_t_value])), (q_t_markStep, .inl (cI, 6, .inl w7)), (q_t_markTread, .inl (cI, 6, .inl w8))] := hD
        refine lv_aload_n hx hb dX8_mark_64 rfl (lv_at hl 0 rfl) ?_
        refine lv_dup hx hb dX8_mark_65 rfl ?_
        refine va_get (D := (dC, dI)) (ci := 8) (v := .int t_marks) (C := RX8) (T := TX8) (N := 33) hx hb hts hinX8 hown hK.1 hP 0 rfl rfl 19 (by decide) w_3 (fun _ h9 => h9) rfl dX8_mark_66 ?_
        refine lv_iconst (v := 1) hx hb dX8_mark_69 (by decide) ?_
        refine lv_iadd hx hb dX8_mark_70 ?_
        refine va_put (D := (dC, dI)) (ci := 8) (v := .int (t_marks + 1)) (ty := .int) (C := RX8) (T := TX8) (N := 33) hx hb hts hinX8 tyX8 tyX8_ok nmX8 hown hK.1 hP hD hS 0 rfl rfl 19 (by decide) w_3 (fun _ h9 => h9) rfl (by decide +kernel) rfl rfl (Nat.le_of_ble_eq_true rfl) dX8_mark_71 (fun H locs hP hD hS => ?_)
        replace hP : va_P (dC, dI) vwCl [(q_t, .inr (8, [.int 0, .ref q_t_text, .int t_textSize, .int t_place, .int t_depth, .int t_noon, .int t_later, .int t_walkers, .ref q_t_beat, .ref q_t_kind, .ref q_t_readSnow, .int t_readWalkers, .ref q_t_readWalker, .ref q_t_page, .ref q_t_trial, .ref q_t_book, .int t_acts, .ref q_t_kept, .ref q_t_isKept, .int (t_marks + 1), .ref q_t_markStep, .ref q_t_markTread, .long t_seed, .int t_stumbled, .ref q_t_order, .int t_lineMany, .int t_lineOrder, .int t_whoseMany, .int t_whoseFirst, .int t_restMany, .int t_restFirst, .ref q_t_gains, .ref q_t_value])), (q_t_markStep, .inl (cI, 6, .inl w7)), (q_t_markTread, .inl (cI, 6, .inl w8))] H := hP
        replace hD : va_D A [(q_t, .inr (8, [.int 0, .ref q_t_text, .int t_textSize, .int t_place, .int t_depth, .int t_noon, .int t_later, .int t_walkers, .ref q_t_beat, .ref q_t_kind, .ref q_t_readSnow, .int t_readWalkers, .ref q_t_readWalker, .ref q_t_page, .ref q_t_trial, .ref q_t_book, .int t_acts, .ref q_t_kept, .ref q_t_isKept, .int (t_marks + 1), .ref q_t_markStep, .ref q_t_markTread, .long t_seed, .int t_stumbled, .ref q_t_order, .int t_lineMany, .int t_lineOrder, .int t_whoseMany, .int t_whoseFirst, .int t_restMany, .int t_restFirst, .ref q_t_gains, .ref q_t_value])), (q_t_markStep, .inl (cI, 6, .inl w7)), (q_t_markTread, .inl (cI, 6, .inl w8))] := hD
        refine lv_aload_n hx hb dX8_mark_74 rfl (lv_at hl 0 rfl) ?_
        refine va_get (D := (dC, dI)) (ci := 8) (v := .int (t_marks + 1)) (C := RX8) (T := TX8) (N := 33) hx hb hts hinX8 hown hK.1 hP 0 rfl rfl 19 (by decide) w_3 (fun _ h9 => h9) rfl dX8_mark_75 ?_
        obtain ⟨e0, hf⟩ := ij2 hf
        obtain ⟨e1, hf⟩ := ijc hf
        obtain ⟨e2, hf⟩ := ijc hf
        obtain ⟨e3, hf⟩ := ijc hf
        have e4 := hf
        refine W.eq (congrArg (fun z => F0 m 78 ls [.int z]) e0) ?_
        exact hret _ _ _ _ (by rw [← e1, ← e2, ← e3, ← e4]; exact hP) hS dX8_mark_78
      · replace hf := ip hc hf
        refine lv_bipush (v := (-4)) hx hb dX8_mark_41 (by decide) ?_
        obtain ⟨e0, hf⟩ := ij2 hf
        obtain ⟨e1, hf⟩ := ijc hf
        obtain ⟨e2, hf⟩ := ijc hf
        obtain ⟨e3, hf⟩ := ijc hf
        have e4 := hf
        refine W.eq (congrArg (fun z => F0 m 43 ls [.int z]) e0) ?_
        exact hret _ _ _ _ (by rw [← e1, ← e2, ← e3, ← e4]; exact hP) hS dX8_mark_43
    · replace hf := ip hc hf
      refine lv_bipush (v := (-2)) hx hb dX8_mark_29 (by decide) ?_
      obtain ⟨e0, hf⟩ := ij2 hf
      obtain ⟨e1, hf⟩ := ijc hf
      obtain ⟨e2, hf⟩ := ijc hf
      obtain ⟨e3, hf⟩ := ijc hf
      have e4 := hf
      refine W.eq (congrArg (fun z => F0 m 31 ls [.int z]) e0) ?_
      exact hret _ _ _ _ (by rw [← e1, ← e2, ← e3, ← e4]; exact hP) hS dX8_mark_31
abbrev rm_X8_snowed : Room := { frames := 0, cells := 0, slots := 0, locals := 0 }
set_option maxHeartbeats 4000000 in
set_option maxRecDepth 100000 in
theorem c_X8_snowed (l : Launch) (dC : Nat → ClassId) (dI : Nat → Nat → Nat) (cI cZ : ClassId) (q_t q_t_text q_t_beat q_t_kind q_t_readSnow q_t_readWalker q_t_page q_t_trial q_t_book q_t_kept q_t_isKept q_t_markStep q_t_markTread q_t_order q_t_gains q_t_value : Nat) (sz : Nat) (t_thrown : Int32) (t_textSize : Int32) (t_place : Int32) (t_depth : Int32) (t_noon : Int32) (t_later : Int32) (t_walkers : Int32) (t_readWalkers : Int32) (t_acts : Int32) (t_marks : Int32) (t_seed : Int64) (t_stumbled : Int32) (t_lineMany : Int32) (t_lineOrder : Int32) (t_whoseMany : Int32) (t_whoseFirst : Int32) (t_restMany : Int32) (t_restFirst : Int32) (r_ : Int32) (o_t_thrown : Int32) (o_t_marks : Int32) (hf : f_X8_snowed t_thrown t_marks = some (r_, o_t_thrown, o_t_marks)) : Met l yX8_snowed wsX8_snowed rm_X8_snowed (va_Pc [.ref q_t] (PU (dC, dI) cI cZ [(q_t, .inr (8, [.int t_thrown, .ref q_t_text, .int t_textSize, .int t_place, .int t_depth, .int t_noon, .int t_later, .int t_walkers, .ref q_t_beat, .ref q_t_kind, .ref q_t_readSnow, .int t_readWalkers, .ref q_t_readWalker, .ref q_t_page, .ref q_t_trial, .ref q_t_book, .int t_acts, .ref q_t_kept, .ref q_t_isKept, .int t_marks, .ref q_t_markStep, .ref q_t_markTread, .long t_seed, .int t_stumbled, .ref q_t_order, .int t_lineMany, .int t_lineOrder, .int t_whoseMany, .int t_whoseFirst, .int t_restMany, .int t_restFirst, .ref q_t_gains, .ref q_t_value]))] sz)) (va_Qi (fun (r : Int32) (_ : Unit) => r = r_) (fun _ t => va_P (dC, dI) vwCl [(q_t, .inr (8, [.int o_t_thrown, .ref q_t_text, .int t_textSize, .int t_place, .int t_depth, .int t_noon, .int t_later, .int t_walkers, .ref q_t_beat, .ref q_t_kind, .ref q_t_readSnow, .int t_readWalkers, .ref q_t_readWalker, .ref q_t_page, .ref q_t_trial, .ref q_t_book, .int t_acts, .ref q_t_kept, .ref q_t_isKept, .int o_t_marks, .ref q_t_markStep, .ref q_t_markTread, .long t_seed, .int t_stumbled, .ref q_t_order, .int t_lineMany, .int t_lineOrder, .int t_whoseMany, .int t_whoseFirst, .int t_restMany, .int t_restFirst, .ref q_t_gains, .ref q_t_value]))] t.heap) (va_A [(q_t, .inr (8, [.int t_thrown, .ref q_t_text, .int t_textSize, .int t_place, .int t_depth, .int t_noon, .int t_later, .int t_walkers, .ref q_t_beat, .ref q_t_kind, .ref q_t_readSnow, .int t_readWalkers, .ref q_t_readWalker, .ref q_t_page, .ref q_t_trial, .ref q_t_book, .int t_acts, .ref q_t_kept, .ref q_t_isKept, .int t_marks, .ref q_t_markStep, .ref q_t_markTread, .long t_seed, .int t_stumbled, .ref q_t_order, .int t_lineMany, .int t_lineOrder, .int t_whoseMany, .int t_whoseFirst, .int t_restMany, .int t_restFirst, .ref q_t_gains, .ref q_t_value]))] sz)) 0 0 (va_A [(q_t, .inr (8, [.int t_thrown, .ref q_t_text, .int t_textSize, .int t_place, .int t_depth, .int t_noon, .int t_later, .int t_walkers, .ref q_t_beat, .ref q_t_kind, .ref q_t_readSnow, .int t_readWalkers, .ref q_t_readWalker, .ref q_t_page, .ref q_t_trial, .ref q_t_book, .int t_acts, .ref q_t_kept, .ref q_t_isKept, .int t_marks, .ref q_t_markStep, .ref q_t_markTread, .long t_seed, .int t_stumbled, .ref q_t_order, .int t_lineMany, .int t_lineOrder, .int t_whoseMany, .int t_whoseFirst, .int t_restMany, .int t_restFirst, .ref q_t_gains, .ref q_t_value]))] sz) := by
  refine MetI (cc := cX8_snowed) (maxL := 2) (by decide) rfl (Nat.le_of_ble_eq_true rfl) (fun _ h => h) ?_
  intro p e s m args below meth c A Q ls hx CF hK hA hD hP hS hl hB hAe hsz hret
  have hb := CF.2.1
  have hml := CF.2.2.1
  have hown := CF.2.2.2.1
  have hts := CF.2.2.2.2
  have hD0 := hD
  replace hl : lv_has ls 2 [(0, .ref q_t)] := hl
  have hinX8 : ∀ w ∈ wsX80, w ∈ wsX8_snowed := fun _ h => List.mem_cons_of_mem _ (List.mem_append_right _ h)
  have w_0 := hts (.fieldLink RX8 63 "PassInStepModel" "thrown" "I") (by decide +kernel)
  have w_1 := hts (.fieldLink RX8 131 "PassInStepModel" "marks" "I") (by decide +kernel)
  unfold f_X8_snowed at hf
  refine lv_aload_n hx hb dX8_snowed_0 rfl (lv_at hl 0 rfl) ?_
  refine lv_iconst (v := 0) hx hb dX8_snowed_1 (by decide) ?_
  refine va_put (D := (dC, dI)) (ci := 8) (v := .int 0) (ty := .int) (C := RX8) (T := TX8) (N := 33) hx hb hts hinX8 tyX8 tyX8_ok nmX8 hown hK.1 hP hD hS 0 rfl rfl 0 (by decide) w_0 (fun _ h9 => h9) rfl (by decide +kernel) rfl rfl (Nat.le_of_ble_eq_true rfl) dX8_snowed_2 (fun H locs hP hD hS => ?_)
  replace hP : va_P (dC, dI) vwCl [(q_t, .inr (8, [.int 0, .ref q_t_text, .int t_textSize, .int t_place, .int t_depth, .int t_noon, .int t_later, .int t_walkers, .ref q_t_beat, .ref q_t_kind, .ref q_t_readSnow, .int t_readWalkers, .ref q_t_readWalker, .ref q_t_page, .ref q_t_trial, .ref q_t_book, .int t_acts, .ref q_t_kept, .ref q_t_isKept, .int t_marks, .ref q_t_markStep, .ref q_t_markTread, .long t_seed, .int t_stumbled, .ref q_t_order, .int t_lineMany, .int t_lineOrder, .int t_whoseMany, .int t_whoseFirst, .int t_restMany, .int t_restFirst, .ref q_t_gains, .ref q_t_value]))] H := hP
  replace hD : va_D A [(q_t, .inr (8, [.int 0, .ref q_t_text, .int t_textSize, .int t_place, .int t_depth, .int t_noon, .int t_later, .int t_walkers, .ref q_t_beat, .ref q_t_kind, .ref q_t_readSnow, .int t_readWalkers, .ref q_t_readWalker, .ref q_t_page, .ref q_t_trial, .ref q_t_book, .int t_acts, .ref q_t_kept, .ref q_t_isKept, .int t_marks, .ref q_t_markStep, .ref q_t_markTread, .long t_seed, .int t_stumbled, .ref q_t_order, .int t_lineMany, .int t_lineOrder, .int t_whoseMany, .int t_whoseFirst, .int t_restMany, .int t_restFirst, .ref q_t_gains, .ref q_t_value]))] := hD
  refine lv_aload_n hx hb dX8_snowed_5 rfl (lv_at hl 0 rfl) ?_
  refine va_get (D := (dC, dI)) (ci := 8) (v := .int t_marks) (C := RX8) (T := TX8) (N := 33) hx hb hts hinX8 hown hK.1 hP 0 rfl rfl 19 (by decide) w_1 (fun _ h9 => h9) rfl dX8_snowed_6 ?_
  refine lv_istore_n (lv' := [(1, .int t_marks), (0, .ref q_t)]) hx hb dX8_snowed_9 rfl hl (by decide) rfl (fun ls hl => ?_)
  refine lv_aload_n hx hb dX8_snowed_10 rfl (lv_at hl 1 rfl) ?_
  refine lv_iconst (v := 0) hx hb dX8_snowed_11 (by decide) ?_
  refine va_put (D := (dC, dI)) (ci := 8) (v := .int 0) (ty := .int) (C := RX8) (T := TX8) (N := 33) hx hb hts hinX8 tyX8 tyX8_ok nmX8 hown hK.1 hP hD hS 0 rfl rfl 19 (by decide) w_1 (fun _ h9 => h9) rfl (by decide +kernel) rfl rfl (Nat.le_of_ble_eq_true rfl) dX8_snowed_12 (fun H locs hP hD hS => ?_)
  replace hP : va_P (dC, dI) vwCl [(q_t, .inr (8, [.int 0, .ref q_t_text, .int t_textSize, .int t_place, .int t_depth, .int t_noon, .int t_later, .int t_walkers, .ref q_t_beat, .ref q_t_kind, .ref q_t_readSnow, .int t_readWalkers, .ref q_t_readWalker, .ref q_t_page, .ref q_t_trial, .ref q_t_book, .int t_acts, .ref q_t_kept, .ref q_t_isKept, .int 0, .ref q_t_markStep, .ref q_t_markTread, .long t_seed, .int t_stumbled, .ref q_t_order, .int t_lineMany, .int t_lineOrder, .int t_whoseMany, .int t_whoseFirst, .int t_restMany, .int t_restFirst, .ref q_t_gains, .ref q_t_value]))] H := hP
  replace hD : va_D A [(q_t, .inr (8, [.int 0, .ref q_t_text, .int t_textSize, .int t_place, .int t_depth, .int t_noon, .int t_later, .int t_walkers, .ref q_t_beat, .ref q_t_kind, .ref q_t_readSnow, .int t_readWalkers, .ref q_t_readWalker, .ref q_t_page, .ref q_t_trial, .ref q_t_book, .int t_acts, .ref q_t_kept, .ref q_t_isKept, .int 0, .ref q_t_markStep, .ref q_t_markTread, .long t_seed, .int t_stumbled, .ref q_t_order, .int t_lineMany, .int t_lineOrder, .int t_whoseMany, .int t_whoseFirst, .int t_restMany, .int t_restFirst, .ref q_t_gains, .ref q_t_value]))] := hD
  refine lv_iload_n hx hb dX8_snowed_15 rfl (lv_at hl 0 rfl) ?_
  obtain ⟨e0, hf⟩ := ij2 hf
  obtain ⟨e1, hf⟩ := ijc hf
  have e2 := hf
  refine W.eq (congrArg (fun z => F0 m 16 ls [.int z]) e0) ?_
  exact hret _ _ _ _ (by rw [← e1, ← e2]; exact hP) hS dX8_snowed_16
abbrev rm_X8_findWhose : Room := { frames := 1, cells := 0, slots := 0, locals := 23 }
set_option maxHeartbeats 4000000 in
set_option maxRecDepth 100000 in
theorem c_X8_findWhose (l : Launch) (dC : Nat → ClassId) (dI : Nat → Nat → Nat) (cI cZ : ClassId) (q_t q_t_text q_t_beat q_t_kind q_t_readSnow q_t_readWalker q_t_page q_t_trial q_t_book q_t_kept q_t_isKept q_t_markStep q_t_markTread q_t_order q_t_gains q_t_value : Nat) (sz : Nat) (t_thrown : Int32) (t_textSize : Int32) (t_place : Int32) (t_depth : Int32) (t_noon : Int32) (t_later : Int32) (t_walkers : Int32) (t_readWalkers : Int32) (t_acts : Int32) (t_marks : Int32) (t_seed : Int64) (t_stumbled : Int32) (t_lineMany : Int32) (t_lineOrder : Int32) (t_whoseMany : Int32) (t_whoseFirst : Int32) (t_restMany : Int32) (t_restFirst : Int32) (t_markStep : Nat → Int32) (t_markTread : Nat → Int32) (o_t_whoseMany : Int32) (o_t_whoseFirst : Int32) (hf : f_X8_findWhose t_marks t_whoseMany t_whoseFirst t_markStep t_markTread = some (o_t_whoseMany, o_t_whoseFirst)) : Met l yX8_findWhose wsX8_findWhose rm_X8_findWhose (va_Pc [.ref q_t] (PU (dC, dI) cI cZ [(q_t, .inr (8, [.int t_thrown, .ref q_t_text, .int t_textSize, .int t_place, .int t_depth, .int t_noon, .int t_later, .int t_walkers, .ref q_t_beat, .ref q_t_kind, .ref q_t_readSnow, .int t_readWalkers, .ref q_t_readWalker, .ref q_t_page, .ref q_t_trial, .ref q_t_book, .int t_acts, .ref q_t_kept, .ref q_t_isKept, .int t_marks, .ref q_t_markStep, .ref q_t_markTread, .long t_seed, .int t_stumbled, .ref q_t_order, .int t_lineMany, .int t_lineOrder, .int t_whoseMany, .int t_whoseFirst, .int t_restMany, .int t_restFirst, .ref q_t_gains, .ref q_t_value])), (q_t_markStep, .inl (cI, 6, .inl t_markStep)), (q_t_markTread, .inl (cI, 6, .inl t_markTread))] sz)) (va_Qv (fun (_ : Unit) => True) (fun _ t => va_P (dC, dI) vwCl [(q_t, .inr (8, [.int t_thrown, .ref q_t_text, .int t_textSize, .int t_place, .int t_depth, .int t_noon, .int t_later, .int t_walkers, .ref q_t_beat, .ref q_t_kind, .ref q_t_readSnow, .int t_readWalkers, .ref q_t_readWalker, .ref q_t_page, .ref q_t_trial, .ref q_t_book, .int t_acts, .ref q_t_kept, .ref q_t_isKept, .int t_marks, .ref q_t_markStep, .ref q_t_markTread, .long t_seed, .int t_stumbled, .ref q_t_order, .int t_lineMany, .int t_lineOrder, .int o_t_whoseMany, .int o_t_whoseFirst, .int t_restMany, .int t_restFirst, .ref q_t_gains, .ref q_t_value])), (q_t_markStep, .inl (cI, 6, .inl t_markStep)), (q_t_markTread, .inl (cI, 6, .inl t_markTread))] t.heap) (va_A [(q_t, .inr (8, [.int t_thrown, .ref q_t_text, .int t_textSize, .int t_place, .int t_depth, .int t_noon, .int t_later, .int t_walkers, .ref q_t_beat, .ref q_t_kind, .ref q_t_readSnow, .int t_readWalkers, .ref q_t_readWalker, .ref q_t_page, .ref q_t_trial, .ref q_t_book, .int t_acts, .ref q_t_kept, .ref q_t_isKept, .int t_marks, .ref q_t_markStep, .ref q_t_markTread, .long t_seed, .int t_stumbled, .ref q_t_order, .int t_lineMany, .int t_lineOrder, .int t_whoseMany, .int t_whoseFirst, .int t_restMany, .int t_restFirst, .ref q_t_gains, .ref q_t_value])), (q_t_markStep, .inl (cI, 6, .inl t_markStep)), (q_t_markTread, .inl (cI, 6, .inl t_markTread))] sz)) 0 0 (va_A [(q_t, .inr (8, [.int t_thrown, .ref q_t_text, .int t_textSize, .int t_place, .int t_depth, .int t_noon, .int t_later, .int t_walkers, .ref q_t_beat, .ref q_t_kind, .ref q_t_readSnow, .int t_readWalkers, .ref q_t_readWalker, .ref q_t_page, .ref q_t_trial, .ref q_t_book, .int t_acts, .ref q_t_kept, .ref q_t_isKept, .int t_marks, .ref q_t_markStep, .ref q_t_markTread, .long t_seed, .int t_stumbled, .ref q_t_order, .int t_lineMany, .int t_lineOrder, .int t_whoseMany, .int t_whoseFirst, .int t_restMany, .int t_restFirst, .ref q_t_gains, .ref q_t_value])), (q_t_markStep, .inl (cI, 6, .inl t_markStep)), (q_t_markTread, .inl (cI, 6, .inl t_markTread))] sz) := by
  refine MetV (cc := cX8_findWhose) (maxL := 6) (by decide) rfl (Nat.le_of_ble_eq_true rfl) (fun _ h => h) ?_
  intro p e s m args below meth c A Q ls hx CF hK hA hD hP hS hl hB hAe hsz hret
  have hb := CF.2.1
  have hml := CF.2.2.1
  have hown := CF.2.2.2.1
  have hts := CF.2.2.2.2
  have hD0 := hD
  replace hl : lv_has ls 6 [(0, .ref q_t)] := hl
  have hinX8 : ∀ w ∈ wsX80, w ∈ wsX8_findWhose := fun _ h => List.mem_cons_of_mem _ (List.mem_append_right _ h)
  have w_0 := hts (.fieldLink RX8 221 "PassInStepModel" "whoseMany" "I") (by decide +kernel)
  have w_1 := hts (.fieldLink RX8 224 "PassInStepModel" "whoseFirst" "I") (by decide +kernel)
  have w_2 := hts (.fieldLink RX8 131 "PassInStepModel" "marks" "I") (by decide +kernel)
  have w_3 := hts (.fieldLink RX8 48 "PassInStepModel" "markStep" "[I") (by decide +kernel)
  have w_4 := hts (.fieldLink RX8 51 "PassInStepModel" "markTread" "[I") (by decide +kernel)
  have h_13 : ∀ (fu13 : Nat) (x1 : Int32) (t_whoseMany : Int32) (t_whoseFirst : Int32) (H : Heap) (locs : List Loc) (ls : Array Slot), va_P (dC, dI) vwCl [(q_t, .inr (8, [.int t_thrown, .ref q_t_text, .int t_textSize, .int t_place, .int t_depth, .int t_noon, .int t_later, .int t_walkers, .ref q_t_beat, .ref q_t_kind, .ref q_t_readSnow, .int t_readWalkers, .ref q_t_readWalker, .ref q_t_page, .ref q_t_trial, .ref q_t_book, .int t_acts, .ref q_t_kept, .ref q_t_isKept, .int t_marks, .ref q_t_markStep, .ref q_t_markTread, .long t_seed, .int t_stumbled, .ref q_t_order, .int t_lineMany, .int t_lineOrder, .int t_whoseMany, .int t_whoseFirst, .int t_restMany, .int t_restFirst, .ref q_t_gains, .ref q_t_value])), (q_t_markStep, .inl (cI, 6, .inl t_markStep)), (q_t_markTread, .inl (cI, 6, .inl t_markTread))] H → va_S A s.heap H locs → lv_has ls 6 [(0, .ref q_t), (1, .int x1)] → L_X8_findWhose_13 t_marks t_markStep t_markTread fu13 x1 t_whoseMany t_whoseFirst = some (o_t_whoseMany, o_t_whoseFirst) → W p l e rm_X8_findWhose s m args below meth c H locs 0 0 Q (F0 m 13 ls []) := by
    intro fu13
    induction fu13 with
    | zero =>
      intro x1 t_whoseMany t_whoseFirst H locs ls hP hS hl hf
      rw [L_X8_findWhose_13] at hf
      cases hf
    | succ fu13 ih13 =>
      have h_159 : ∀ (x1 : Int32) (t_whoseMany : Int32) (t_whoseFirst : Int32) (H : Heap) (locs : List Loc) (ls : Array Slot), va_P (dC, dI) vwCl [(q_t, .inr (8, [.int t_thrown, .ref q_t_text, .int t_textSize, .int t_place, .int t_depth, .int t_noon, .int t_later, .int t_walkers, .ref q_t_beat, .ref q_t_kind, .ref q_t_readSnow, .int t_readWalkers, .ref q_t_readWalker, .ref q_t_page, .ref q_t_trial, .ref q_t_book, .int t_acts, .ref q_t_kept, .ref q_t_isKept, .int t_marks, .ref q_t_markStep, .ref q_t_markTread, .long t_seed, .int t_stumbled, .ref q_t_order, .int t_lineMany, .int t_lineOrder, .int t_whoseMany, .int t_whoseFirst, .int t_restMany, .int t_restFirst, .ref q_t_gains, .ref q_t_value])), (q_t_markStep, .inl (cI, 6, .inl t_markStep)), (q_t_markTread, .inl (cI, 6, .inl t_markTread))] H → va_S A s.heap H locs → lv_has ls 6 [(0, .ref q_t), (1, .int x1)] → J_X8_findWhose_159 (L_X8_findWhose_13 t_marks t_markStep t_markTread fu13) x1 t_whoseMany t_whoseFirst = some (o_t_whoseMany, o_t_whoseFirst) → W p l e rm_X8_findWhose s m args below meth c H locs 0 0 Q (F0 m 159 ls []) := by
        intro x1 t_whoseMany t_whoseFirst H locs ls hP hS hl hf
        have hD : va_D A [(q_t, .inr (8, [.int t_thrown, .ref q_t_text, .int t_textSize, .int t_place, .int t_depth, .int t_noon, .int t_later, .int t_walkers, .ref q_t_beat, .ref q_t_kind, .ref q_t_readSnow, .int t_readWalkers, .ref q_t_readWalker, .ref q_t_page, .ref q_t_trial, .ref q_t_book, .int t_acts, .ref q_t_kept, .ref q_t_isKept, .int t_marks, .ref q_t_markStep, .ref q_t_markTread, .long t_seed, .int t_stumbled, .ref q_t_order, .int t_lineMany, .int t_lineOrder, .int t_whoseMany, .int t_whoseFirst, .int t_restMany, .int t_restFirst, .ref q_t_gains, .ref q_t_value])), (q_t_markStep, .inl (cI, 6, .inl t_markStep)), (q_t_markTread, .inl (cI, 6, .inl t_markTread))] := wd hD0 rfl
        unfold J_X8_findWhose_159 at hf
        refine lv_iinc (v := (x1 + 1)) (lv' := [(1, .int (x1 + 1)), (0, .ref q_t)]) hx hb dX8_findWhose_159 hl (k := 1) rfl rfl (by decide) rfl (fun ls hl => ?_)
        refine lv_goto (tgt := 13) hx hb dX8_findWhose_162 (by decide) ?_
        exact ih13 (x1 + 1) t_whoseMany t_whoseFirst _ _ _ hP hS (lv_sub hl [1, 0] rfl) hf
      have h_20 : ∀ (x1 : Int32) (fu20 : Nat) (x2 : Int32) (t_whoseMany : Int32) (t_whoseFirst : Int32) (H : Heap) (locs : List Loc) (ls : Array Slot), va_P (dC, dI) vwCl [(q_t, .inr (8, [.int t_thrown, .ref q_t_text, .int t_textSize, .int t_place, .int t_depth, .int t_noon, .int t_later, .int t_walkers, .ref q_t_beat, .ref q_t_kind, .ref q_t_readSnow, .int t_readWalkers, .ref q_t_readWalker, .ref q_t_page, .ref q_t_trial, .ref q_t_book, .int t_acts, .ref q_t_kept, .ref q_t_isKept, .int t_marks, .ref q_t_markStep, .ref q_t_markTread, .long t_seed, .int t_stumbled, .ref q_t_order, .int t_lineMany, .int t_lineOrder, .int t_whoseMany, .int t_whoseFirst, .int t_restMany, .int t_restFirst, .ref q_t_gains, .ref q_t_value])), (q_t_markStep, .inl (cI, 6, .inl t_markStep)), (q_t_markTread, .inl (cI, 6, .inl t_markTread))] H → va_S A s.heap H locs → lv_has ls 6 [(0, .ref q_t), (1, .int x1), (2, .int x2)] → L_X8_findWhose_20 (L_X8_findWhose_13 t_marks t_markStep t_markTread fu13) x1 t_marks t_markStep t_markTread fu20 x2 t_whoseMany t_whoseFirst = some (o_t_whoseMany, o_t_whoseFirst) → W p l e rm_X8_findWhose s m args below meth c H locs 0 0 Q (F0 m 20 ls []) := by
        intro x1 fu20
        induction fu20 with
        | zero =>
          intro x2 t_whoseMany t_whoseFirst H locs ls hP hS hl hf
          rw [L_X8_findWhose_20] at hf
          cases hf
        | succ fu20 ih20 =>
          have h_33 : ∀ (x2 : Int32) (fu33 : Nat) (x3 : Int32) (t_whoseMany : Int32) (t_whoseFirst : Int32) (H : Heap) (locs : List Loc) (ls : Array Slot), va_P (dC, dI) vwCl [(q_t, .inr (8, [.int t_thrown, .ref q_t_text, .int t_textSize, .int t_place, .int t_depth, .int t_noon, .int t_later, .int t_walkers, .ref q_t_beat, .ref q_t_kind, .ref q_t_readSnow, .int t_readWalkers, .ref q_t_readWalker, .ref q_t_page, .ref q_t_trial, .ref q_t_book, .int t_acts, .ref q_t_kept, .ref q_t_isKept, .int t_marks, .ref q_t_markStep, .ref q_t_markTread, .long t_seed, .int t_stumbled, .ref q_t_order, .int t_lineMany, .int t_lineOrder, .int t_whoseMany, .int t_whoseFirst, .int t_restMany, .int t_restFirst, .ref q_t_gains, .ref q_t_value])), (q_t_markStep, .inl (cI, 6, .inl t_markStep)), (q_t_markTread, .inl (cI, 6, .inl t_markTread))] H → va_S A s.heap H locs → lv_has ls 6 [(0, .ref q_t), (1, .int x1), (2, .int x2), (3, .int x3)] → L_X8_findWhose_33 (L_X8_findWhose_13 t_marks t_markStep t_markTread fu13) (L_X8_findWhose_20 (L_X8_findWhose_13 t_marks t_markStep t_markTread fu13) x1 t_marks t_markStep t_markTread fu20) x1 x2 t_marks t_markStep t_markTread fu33 x3 t_whoseMany t_whoseFirst = some (o_t_whoseMany, o_t_whoseFirst) → W p l e rm_X8_findWhose s m args below meth c H locs 0 0 Q (F0 m 33 ls []) := by
            intro x2 fu33
            induction fu33 with
            | zero =>
              intro x3 t_whoseMany t_whoseFirst H locs ls hP hS hl hf
              rw [L_X8_findWhose_33] at hf
              cases hf
            | succ fu33 ih33 =>
              have h_143 : ∀ (x3 : Int32) (s0 : Int32) (s1 : Int32) (t_whoseMany : Int32) (t_whoseFirst : Int32) (H : Heap) (locs : List Loc) (ls : Array Slot), va_P (dC, dI) vwCl [(q_t, .inr (8, [.int t_thrown, .ref q_t_text, .int t_textSize, .int t_place, .int t_depth, .int t_noon, .int t_later, .int t_walkers, .ref q_t_beat, .ref q_t_kind, .ref q_t_readSnow, .int t_readWalkers, .ref q_t_readWalker, .ref q_t_page, .ref q_t_trial, .ref q_t_book, .int t_acts, .ref q_t_kept, .ref q_t_isKept, .int t_marks, .ref q_t_markStep, .ref q_t_markTread, .long t_seed, .int t_stumbled, .ref q_t_order, .int t_lineMany, .int t_lineOrder, .int t_whoseMany, .int t_whoseFirst, .int t_restMany, .int t_restFirst, .ref q_t_gains, .ref q_t_value])), (q_t_markStep, .inl (cI, 6, .inl t_markStep)), (q_t_markTread, .inl (cI, 6, .inl t_markTread))] H → va_S A s.heap H locs → lv_has ls 6 [(0, .ref q_t), (1, .int x1), (2, .int x2), (3, .int x3)] → J_X8_findWhose_143 (L_X8_findWhose_13 t_marks t_markStep t_markTread fu13) (L_X8_findWhose_20 (L_X8_findWhose_13 t_marks t_markStep t_markTread fu13) x1 t_marks t_markStep t_markTread fu20) (L_X8_findWhose_33 (L_X8_findWhose_13 t_marks t_markStep t_markTread fu13) (L_X8_findWhose_20 (L_X8_findWhose_13 t_marks t_markStep t_markTread fu13) x1 t_marks t_markStep t_markTread fu20) x1 x2 t_marks t_markStep t_markTread fu33) x3 s0 s1 t_whoseFirst = some (o_t_whoseMany, o_t_whoseFirst) → W p l e rm_X8_findWhose s m args below meth c H locs 0 0 Q (F0 m 143 ls [.int s0, .int s1, .ref q_t]) := by
                intro x3 s0 s1 t_whoseMany t_whoseFirst H locs ls hP hS hl hf
                have hD : va_D A [(q_t, .inr (8, [.int t_thrown, .ref q_t_text, .int t_textSize, .int t_place, .int t_depth, .int t_noon, .int t_later, .int t_walkers, .ref q_t_beat, .ref q_t_kind, .ref q_t_readSnow, .int t_readWalkers, .ref q_t_readWalker, .ref q_t_page, .ref q_t_trial, .ref q_t_book, .int t_acts, .ref q_t_kept, .ref q_t_isKept, .int t_marks, .ref q_t_markStep, .ref q_t_markTread, .long t_seed, .int t_stumbled, .ref q_t_order, .int t_lineMany, .int t_lineOrder, .int t_whoseMany, .int t_whoseFirst, .int t_restMany, .int t_restFirst, .ref q_t_gains, .ref q_t_value])), (q_t_markStep, .inl (cI, 6, .inl t_markStep)), (q_t_markTread, .inl (cI, 6, .inl t_markTread))] := wd hD0 rfl
                unfold J_X8_findWhose_143 at hf
                refine lv_iadd hx hb dX8_findWhose_143 ?_
                refine va_put (D := (dC, dI)) (ci := 8) (v := .int (s1 + s0)) (ty := .int) (C := RX8) (T := TX8) (N := 33) hx hb hts hinX8 tyX8 tyX8_ok nmX8 hown hK.1 hP hD hS 0 rfl rfl 27 (by decide) w_0 (fun _ h9 => h9) rfl (by decide +kernel) rfl rfl (Nat.le_of_ble_eq_true rfl) dX8_findWhose_144 (fun H locs hP hD hS => ?_)
                replace hP : va_P (dC, dI) vwCl [(q_t, .inr (8, [.int t_thrown, .ref q_t_text, .int t_textSize, .int t_place, .int t_depth, .int t_noon, .int t_later, .int t_walkers, .ref q_t_beat, .ref q_t_kind, .ref q_t_readSnow, .int t_readWalkers, .ref q_t_readWalker, .ref q_t_page, .ref q_t_trial, .ref q_t_book, .int t_acts, .ref q_t_kept, .ref q_t_isKept, .int t_marks, .ref q_t_markStep, .ref q_t_markTread, .long t_seed, .int t_stumbled, .ref q_t_order, .int t_lineMany, .int t_lineOrder, .int (s1 + s0), .int t_whoseFirst, .int t_restMany, .int t_restFirst, .ref q_t_gains, .ref q_t_value])), (q_t_markStep, .inl (cI, 6, .inl t_markStep)), (q_t_markTread, .inl (cI, 6, .inl t_markTread))] H := hP
                replace hD : va_D A [(q_t, .inr (8, [.int t_thrown, .ref q_t_text, .int t_textSize, .int t_place, .int t_depth, .int t_noon, .int t_later, .int t_walkers, .ref q_t_beat, .ref q_t_kind, .ref q_t_readSnow, .int t_readWalkers, .ref q_t_readWalker, .ref q_t_page, .ref q_t_trial, .ref q_t_book, .int t_acts, .ref q_t_kept, .ref q_t_isKept, .int t_marks, .ref q_t_markStep, .ref q_t_markTread, .long t_seed, .int t_stumbled, .ref q_t_order, .int t_lineMany, .int t_lineOrder, .int (s1 + s0), .int t_whoseFirst, .int t_restMany, .int t_restFirst, .ref q_t_gains, .ref q_t_value])), (q_t_markStep, .inl (cI, 6, .inl t_markStep)), (q_t_markTread, .inl (cI, 6, .inl t_markTread))] := hD
                refine lv_iinc (v := (x3 + 1)) (lv' := [(3, .int (x3 + 1)), (0, .ref q_t), (1, .int x1), (2, .int x2)]) hx hb dX8_findWhose_147 hl (k := 3) rfl rfl (by decide) rfl (fun ls hl => ?_)
                refine lv_goto (tgt := 33) hx hb dX8_findWhose_150 (by decide) ?_
                exact ih33 (x3 + 1) (s1 + s0) t_whoseFirst _ _ _ hP hS (lv_sub hl [1, 2, 3, 0] rfl) hf
              have h_125 : ∀ (x3 : Int32) (x4 : Int32) (s0 : Int32) (t_whoseMany : Int32) (t_whoseFirst : Int32) (H : Heap) (locs : List Loc) (ls : Array Slot), va_P (dC, dI) vwCl [(q_t, .inr (8, [.int t_thrown, .ref q_t_text, .int t_textSize, .int t_place, .int t_depth, .int t_noon, .int t_later, .int t_walkers, .ref q_t_beat, .ref q_t_kind, .ref q_t_readSnow, .int t_readWalkers, .ref q_t_readWalker, .ref q_t_page, .ref q_t_trial, .ref q_t_book, .int t_acts, .ref q_t_kept, .ref q_t_isKept, .int t_marks, .ref q_t_markStep, .ref q_t_markTread, .long t_seed, .int t_stumbled, .ref q_t_order, .int t_lineMany, .int t_lineOrder, .int t_whoseMany, .int t_whoseFirst, .int t_restMany, .int t_restFirst, .ref q_t_gains, .ref q_t_value])), (q_t_markStep, .inl (cI, 6, .inl t_markStep)), (q_t_markTread, .inl (cI, 6, .inl t_markTread))] H → va_S A s.heap H locs → lv_has ls 6 [(0, .ref q_t), (1, .int x1), (2, .int x2), (3, .int x3), (4, .int x4)] → J_X8_findWhose_125 (L_X8_findWhose_13 t_marks t_markStep t_markTread fu13) (L_X8_findWhose_20 (L_X8_findWhose_13 t_marks t_markStep t_markTread fu13) x1 t_marks t_markStep t_markTread fu20) (L_X8_findWhose_33 (L_X8_findWhose_13 t_marks t_markStep t_markTread fu13) (L_X8_findWhose_20 (L_X8_findWhose_13 t_marks t_markStep t_markTread fu13) x1 t_marks t_markStep t_markTread fu20) x1 x2 t_marks t_markStep t_markTread fu33) x3 x4 s0 t_whoseMany = some (o_t_whoseMany, o_t_whoseFirst) → W p l e rm_X8_findWhose s m args below meth c H locs 0 0 Q (F0 m 125 ls [.int s0, .ref q_t]) := by
                intro x3 x4 s0 t_whoseMany t_whoseFirst H locs ls hP hS hl hf
                have hD : va_D A [(q_t, .inr (8, [.int t_thrown, .ref q_t_text, .int t_textSize, .int t_place, .int t_depth, .int t_noon, .int t_later, .int t_walkers, .ref q_t_beat, .ref q_t_kind, .ref q_t_readSnow, .int t_readWalkers, .ref q_t_readWalker, .ref q_t_page, .ref q_t_trial, .ref q_t_book, .int t_acts, .ref q_t_kept, .ref q_t_isKept, .int t_marks, .ref q_t_markStep, .ref q_t_markTread, .long t_seed, .int t_stumbled, .ref q_t_order, .int t_lineMany, .int t_lineOrder, .int t_whoseMany, .int t_whoseFirst, .int t_restMany, .int t_restFirst, .ref q_t_gains, .ref q_t_value])), (q_t_markStep, .inl (cI, 6, .inl t_markStep)), (q_t_markTread, .inl (cI, 6, .inl t_markTread))] := wd hD0 rfl
                unfold J_X8_findWhose_125 at hf
                refine va_put (D := (dC, dI)) (ci := 8) (v := .int s0) (ty := .int) (C := RX8) (T := TX8) (N := 33) hx hb hts hinX8 tyX8 tyX8_ok nmX8 hown hK.1 hP hD hS 0 rfl rfl 28 (by decide) w_1 (fun _ h9 => h9) rfl (by decide +kernel) rfl rfl (Nat.le_of_ble_eq_true rfl) dX8_findWhose_125 (fun H locs hP hD hS => ?_)
                replace hP : va_P (dC, dI) vwCl [(q_t, .inr (8, [.int t_thrown, .ref q_t_text, .int t_textSize, .int t_place, .int t_depth, .int t_noon, .int t_later, .int t_walkers, .ref q_t_beat, .ref q_t_kind, .ref q_t_readSnow, .int t_readWalkers, .ref q_t_readWalker, .ref q_t_page, .ref q_t_trial, .ref q_t_book, .int t_acts, .ref q_t_kept, .ref q_t_isKept, .int t_marks, .ref q_t_markStep, .ref q_t_markTread, .long t_seed, .int t_stumbled, .ref q_t_order, .int t_lineMany, .int t_lineOrder, .int t_whoseMany, .int s0, .int t_restMany, .int t_restFirst, .ref q_t_gains, .ref q_t_value])), (q_t_markStep, .inl (cI, 6, .inl t_markStep)), (q_t_markTread, .inl (cI, 6, .inl t_markTread))] H := hP
                replace hD : va_D A [(q_t, .inr (8, [.int t_thrown, .ref q_t_text, .int t_textSize, .int t_place, .int t_depth, .int t_noon, .int t_later, .int t_walkers, .ref q_t_beat, .ref q_t_kind, .ref q_t_readSnow, .int t_readWalkers, .ref q_t_readWalker, .ref q_t_page, .ref q_t_trial, .ref q_t_book, .int t_acts, .ref q_t_kept, .ref q_t_isKept, .int t_marks, .ref q_t_markStep, .ref q_t_markTread, .long t_seed, .int t_stumbled, .ref q_t_order, .int t_lineMany, .int t_lineOrder, .int t_whoseMany, .int s0, .int t_restMany, .int t_restFirst, .ref q_t_gains, .ref q_t_value])), (q_t_markStep, .inl (cI, 6, .inl t_markStep)), (q_t_markTread, .inl (cI, 6, .inl t_markTread))] := hD
                refine lv_aload_n hx hb dX8_findWhose_128 rfl (lv_at hl 0 rfl) ?_
                refine lv_dup hx hb dX8_findWhose_129 rfl ?_
                refine va_get (D := (dC, dI)) (ci := 8) (v := .int t_whoseMany) (C := RX8) (T := TX8) (N := 33) hx hb hts hinX8 hown hK.1 hP 0 rfl rfl 27 (by decide) w_0 (fun _ h9 => h9) rfl dX8_findWhose_130 ?_
                refine lv_iload hx hb dX8_findWhose_133 (lv_at hl 4 rfl) ?_
                refine lv_if_eq (tgt := 142) hx hb dX8_findWhose_135 (by decide) (fun hc => ?_) (fun hc => ?_)
                · replace hf := ip hc hf
                  refine lv_iconst (v := 0) hx hb dX8_findWhose_142 (by decide) ?_
                  exact h_143 x3 0 t_whoseMany t_whoseMany s0 _ _ _ hP hS (lv_sub hl [0, 1, 2, 3] rfl) hf
                · replace hf := iq hc hf
                  refine lv_iconst (v := 1) hx hb dX8_findWhose_138 (by decide) ?_
                  refine lv_goto (tgt := 143) hx hb dX8_findWhose_139 (by decide) ?_
                  exact h_143 x3 1 t_whoseMany t_whoseMany s0 _ _ _ hP hS (lv_sub hl [0, 1, 2, 3] rfl) hf
              have h_121 : ∀ (x3 : Int32) (x4 : Int32) (t_whoseMany : Int32) (t_whoseFirst : Int32) (H : Heap) (locs : List Loc) (ls : Array Slot), va_P (dC, dI) vwCl [(q_t, .inr (8, [.int t_thrown, .ref q_t_text, .int t_textSize, .int t_place, .int t_depth, .int t_noon, .int t_later, .int t_walkers, .ref q_t_beat, .ref q_t_kind, .ref q_t_readSnow, .int t_readWalkers, .ref q_t_readWalker, .ref q_t_page, .ref q_t_trial, .ref q_t_book, .int t_acts, .ref q_t_kept, .ref q_t_isKept, .int t_marks, .ref q_t_markStep, .ref q_t_markTread, .long t_seed, .int t_stumbled, .ref q_t_order, .int t_lineMany, .int t_lineOrder, .int t_whoseMany, .int t_whoseFirst, .int t_restMany, .int t_restFirst, .ref q_t_gains, .ref q_t_value])), (q_t_markStep, .inl (cI, 6, .inl t_markStep)), (q_t_markTread, .inl (cI, 6, .inl t_markTread))] H → va_S A s.heap H locs → lv_has ls 6 [(0, .ref q_t), (1, .int x1), (2, .int x2), (3, .int x3), (4, .int x4)] → J_X8_findWhose_121 (L_X8_findWhose_13 t_marks t_markStep t_markTread fu13) (L_X8_findWhose_20 (L_X8_findWhose_13 t_marks t_markStep t_markTread fu13) x1 t_marks t_markStep t_markTread fu20) (L_X8_findWhose_33 (L_X8_findWhose_13 t_marks t_markStep t_markTread fu13) (L_X8_findWhose_20 (L_X8_findWhose_13 t_marks t_markStep t_markTread fu13) x1 t_marks t_markStep t_markTread fu20) x1 x2 t_marks t_markStep t_markTread fu33) x3 x4 t_whoseMany t_whoseFirst = some (o_t_whoseMany, o_t_whoseFirst) → W p l e rm_X8_findWhose s m args below meth c H locs 0 0 Q (F0 m 121 ls [.ref q_t]) := by
                intro x3 x4 t_whoseMany t_whoseFirst H locs ls hP hS hl hf
                have hD : va_D A [(q_t, .inr (8, [.int t_thrown, .ref q_t_text, .int t_textSize, .int t_place, .int t_depth, .int t_noon, .int t_later, .int t_walkers, .ref q_t_beat, .ref q_t_kind, .ref q_t_readSnow, .int t_readWalkers, .ref q_t_readWalker, .ref q_t_page, .ref q_t_trial, .ref q_t_book, .int t_acts, .ref q_t_kept, .ref q_t_isKept, .int t_marks, .ref q_t_markStep, .ref q_t_markTread, .long t_seed, .int t_stumbled, .ref q_t_order, .int t_lineMany, .int t_lineOrder, .int t_whoseMany, .int t_whoseFirst, .int t_restMany, .int t_restFirst, .ref q_t_gains, .ref q_t_value])), (q_t_markStep, .inl (cI, 6, .inl t_markStep)), (q_t_markTread, .inl (cI, 6, .inl t_markTread))] := wd hD0 rfl
                unfold J_X8_findWhose_121 at hf
                refine lv_aload_n hx hb dX8_findWhose_121 rfl (lv_at hl 0 rfl) ?_
                refine va_get (D := (dC, dI)) (ci := 8) (v := .int t_whoseFirst) (C := RX8) (T := TX8) (N := 33) hx hb hts hinX8 hown hK.1 hP 0 rfl rfl 28 (by decide) w_1 (fun _ h9 => h9) rfl dX8_findWhose_122 ?_
                exact h_125 x3 x4 t_whoseFirst t_whoseMany t_whoseFirst _ _ _ hP hS (lv_sub hl [0, 1, 2, 3, 4] rfl) hf
              have h_44 : ∀ (x3 : Int32) (t_whoseMany : Int32) (t_whoseFirst : Int32) (fu44 : Nat) (x4 : Int32) (x5 : Int32) (H : Heap) (locs : List Loc) (ls : Array Slot), va_P (dC, dI) vwCl [(q_t, .inr (8, [.int t_thrown, .ref q_t_text, .int t_textSize, .int t_place, .int t_depth, .int t_noon, .int t_later, .int t_walkers, .ref q_t_beat, .ref q_t_kind, .ref q_t_readSnow, .int t_readWalkers, .ref q_t_readWalker, .ref q_t_page, .ref q_t_trial, .ref q_t_book, .int t_acts, .ref q_t_kept, .ref q_t_isKept, .int t_marks, .ref q_t_markStep, .ref q_t_markTread, .long t_seed, .int t_stumbled, .ref q_t_order, .int t_lineMany, .int t_lineOrder, .int t_whoseMany, .int t_whoseFirst, .int t_restMany, .int t_restFirst, .ref q_t_gains, .ref q_t_value])), (q_t_markStep, .inl (cI, 6, .inl t_markStep)), (q_t_markTread, .inl (cI, 6, .inl t_markTread))] H → va_S A s.heap H locs → lv_has ls 6 [(0, .ref q_t), (1, .int x1), (2, .int x2), (3, .int x3), (4, .int x4), (5, .int x5)] → L_X8_findWhose_44 (L_X8_findWhose_13 t_marks t_markStep t_markTread fu13) (L_X8_findWhose_20 (L_X8_findWhose_13 t_marks t_markStep t_markTread fu13) x1 t_marks t_markStep t_markTread fu20) (L_X8_findWhose_33 (L_X8_findWhose_13 t_marks t_markStep t_markTread fu13) (L_X8_findWhose_20 (L_X8_findWhose_13 t_marks t_markStep t_markTread fu13) x1 t_marks t_markStep t_markTread fu20) x1 x2 t_marks t_markStep t_markTread fu33) x1 x2 x3 t_marks t_whoseMany t_whoseFirst t_markStep t_markTread fu44 x4 x5 = some (o_t_whoseMany, o_t_whoseFirst) → W p l e rm_X8_findWhose s m args below meth c H locs 0 0 Q (F0 m 44 ls []) := by
                intro x3 t_whoseMany t_whoseFirst fu44
                induction fu44 with
                | zero =>
                  intro x4 x5 H locs ls hP hS hl hf
                  rw [L_X8_findWhose_44] at hf
                  cases hf
                | succ fu44 ih44 =>
                  have h_86 : ∀ (x5 : Int32) (s0 : Int32) (H : Heap) (locs : List Loc) (ls : Array Slot), va_P (dC, dI) vwCl [(q_t, .inr (8, [.int t_thrown, .ref q_t_text, .int t_textSize, .int t_place, .int t_depth, .int t_noon, .int t_later, .int t_walkers, .ref q_t_beat, .ref q_t_kind, .ref q_t_readSnow, .int t_readWalkers, .ref q_t_readWalker, .ref q_t_page, .ref q_t_trial, .ref q_t_book, .int t_acts, .ref q_t_kept, .ref q_t_isKept, .int t_marks, .ref q_t_markStep, .ref q_t_markTread, .long t_seed, .int t_stumbled, .ref q_t_order, .int t_lineMany, .int t_lineOrder, .int t_whoseMany, .int t_whoseFirst, .int t_restMany, .int t_restFirst, .ref q_t_gains, .ref q_t_value])), (q_t_markStep, .inl (cI, 6, .inl t_markStep)), (q_t_markTread, .inl (cI, 6, .inl t_markTread))] H → va_S A s.heap H locs → lv_has ls 6 [(0, .ref q_t), (1, .int x1), (2, .int x2), (3, .int x3), (5, .int x5)] → J_X8_findWhose_86 (L_X8_findWhose_13 t_marks t_markStep t_markTread fu13) (L_X8_findWhose_20 (L_X8_findWhose_13 t_marks t_markStep t_markTread fu13) x1 t_marks t_markStep t_markTread fu20) (L_X8_findWhose_33 (L_X8_findWhose_13 t_marks t_markStep t_markTread fu13) (L_X8_findWhose_20 (L_X8_findWhose_13 t_marks t_markStep t_markTread fu13) x1 t_marks t_markStep t_markTread fu20) x1 x2 t_marks t_markStep t_markTread fu33) (L_X8_findWhose_44 (L_X8_findWhose_13 t_marks t_markStep t_markTread fu13) (L_X8_findWhose_20 (L_X8_findWhose_13 t_marks t_markStep t_markTread fu13) x1 t_marks t_markStep t_markTread fu20) (L_X8_findWhose_33 (L_X8_findWhose_13 t_marks t_markStep t_markTread fu13) (L_X8_findWhose_20 (L_X8_findWhose_13 t_marks t_markStep t_markTread fu13) x1 t_marks t_markStep t_markTread fu20) x1 x2 t_marks t_markStep t_markTread fu33) x1 x2 x3 t_marks t_whoseMany t_whoseFirst t_markStep t_markTread fu44) x5 s0 = some (o_t_whoseMany, o_t_whoseFirst) → W p l e rm_X8_findWhose s m args below meth c H locs 0 0 Q (F0 m 86 ls [.int s0]) := by
                    intro x5 s0 H locs ls hP hS hl hf
                    have hD : va_D A [(q_t, .inr (8, [.int t_thrown, .ref q_t_text, .int t_textSize, .int t_place, .int t_depth, .int t_noon, .int t_later, .int t_walkers, .ref q_t_beat, .ref q_t_kind, .ref q_t_readSnow, .int t_readWalkers, .ref q_t_readWalker, .ref q_t_page, .ref q_t_trial, .ref q_t_book, .int t_acts, .ref q_t_kept, .ref q_t_isKept, .int t_marks, .ref q_t_markStep, .ref q_t_markTread, .long t_seed, .int t_stumbled, .ref q_t_order, .int t_lineMany, .int t_lineOrder, .int t_whoseMany, .int t_whoseFirst, .int t_restMany, .int t_restFirst, .ref q_t_gains, .ref q_t_value])), (q_t_markStep, .inl (cI, 6, .inl t_markStep)), (q_t_markTread, .inl (cI, 6, .inl t_markTread))] := wd hD0 rfl
                    unfold J_X8_findWhose_86 at hf
                    refine lv_istore (lv' := [(4, .int s0), (0, .ref q_t), (1, .int x1), (2, .int x2), (3, .int x3), (5, .int x5)]) hx hb dX8_findWhose_86 hl (by decide) rfl (fun ls hl => ?_)
                    refine lv_iinc (v := (x5 + 1)) (lv' := [(5, .int (x5 + 1)), (4, .int s0), (0, .ref q_t), (1, .int x1), (2, .int x2), (3, .int x3)]) hx hb dX8_findWhose_88 hl (k := 5) rfl rfl (by decide) rfl (fun ls hl => ?_)
                    refine lv_goto (tgt := 44) hx hb dX8_findWhose_91 (by decide) ?_
                    exact ih44 s0 (x5 + 1) _ _ _ hP hS (lv_sub hl [2, 3, 4, 5, 1, 0] rfl) hf
                  have h_85 : ∀ (x5 : Int32) (H : Heap) (locs : List Loc) (ls : Array Slot), va_P (dC, dI) vwCl [(q_t, .inr (8, [.int t_thrown, .ref q_t_text, .int t_textSize, .int t_place, .int t_depth, .int t_noon, .int t_later, .int t_walkers, .ref q_t_beat, .ref q_t_kind, .ref q_t_readSnow, .int t_readWalkers, .ref q_t_readWalker, .ref q_t_page, .ref q_t_trial, .ref q_t_book, .int t_acts, .ref q_t_kept, .ref q_t_isKept, .int t_marks, .ref q_t_markStep, .ref q_t_markTread, .long t_seed, .int t_stumbled, .ref q_t_order, .int t_lineMany, .int t_lineOrder, .int t_whoseMany, .int t_whoseFirst, .int t_restMany, .int t_restFirst, .ref q_t_gains, .ref q_t_value])), (q_t_markStep, .inl (cI, 6, .inl t_markStep)), (q_t_markTread, .inl (cI, 6, .inl t_markTread))] H → va_S A s.heap H locs → lv_has ls 6 [(0, .ref q_t), (1, .int x1), (2, .int x2), (3, .int x3), (5, .int x5)] → J_X8_findWhose_85 (L_X8_findWhose_13 t_marks t_markStep t_markTread fu13) (L_X8_findWhose_20 (L_X8_findWhose_13 t_marks t_markStep t_markTread fu13) x1 t_marks t_markStep t_markTread fu20) (L_X8_findWhose_33 (L_X8_findWhose_13 t_marks t_markStep t_markTread fu13) (L_X8_findWhose_20 (L_X8_findWhose_13 t_marks t_markStep t_markTread fu13) x1 t_marks t_markStep t_markTread fu20) x1 x2 t_marks t_markStep t_markTread fu33) (L_X8_findWhose_44 (L_X8_findWhose_13 t_marks t_markStep t_markTread fu13) (L_X8_findWhose_20 (L_X8_findWhose_13 t_marks t_markStep t_markTread fu13) x1 t_marks t_markStep t_markTread fu20) (L_X8_findWhose_33 (L_X8_findWhose_13 t_marks t_markStep t_markTread fu13) (L_X8_findWhose_20 (L_X8_findWhose_13 t_marks t_markStep t_markTread fu13) x1 t_marks t_markStep t_markTread fu20) x1 x2 t_marks t_markStep t_markTread fu33) x1 x2 x3 t_marks t_whoseMany t_whoseFirst t_markStep t_markTread fu44) x5 = some (o_t_whoseMany, o_t_whoseFirst) → W p l e rm_X8_findWhose s m args below meth c H locs 0 0 Q (F0 m 85 ls []) := by
                    intro x5 H locs ls hP hS hl hf
                    have hD : va_D A [(q_t, .inr (8, [.int t_thrown, .ref q_t_text, .int t_textSize, .int t_place, .int t_depth, .int t_noon, .int t_later, .int t_walkers, .ref q_t_beat, .ref q_t_kind, .ref q_t_readSnow, .int t_readWalkers, .ref q_t_readWalker, .ref q_t_page, .ref q_t_trial, .ref q_t_book, .int t_acts, .ref q_t_kept, .ref q_t_isKept, .int t_marks, .ref q_t_markStep, .ref q_t_markTread, .long t_seed, .int t_stumbled, .ref q_t_order, .int t_lineMany, .int t_lineOrder, .int t_whoseMany, .int t_whoseFirst, .int t_restMany, .int t_restFirst, .ref q_t_gains, .ref q_t_value])), (q_t_markStep, .inl (cI, 6, .inl t_markStep)), (q_t_markTread, .inl (cI, 6, .inl t_markTread))] := wd hD0 rfl
                    unfold J_X8_findWhose_85 at hf
                    refine lv_iconst (v := 0) hx hb dX8_findWhose_85 (by decide) ?_
                    exact h_86 x5 0 _ _ _ hP hS (lv_sub hl [0, 1, 2, 3, 4] rfl) hf
                  intro x4 x5 H locs ls hP hS hl hf
                  have hD : va_D A [(q_t, .inr (8, [.int t_thrown, .ref q_t_text, .int t_textSize, .int t_place, .int t_depth, .int t_noon, .int t_later, .int t_walkers, .ref q_t_beat, .ref q_t_kind, .ref q_t_readSnow, .int t_readWalkers, .ref q_t_readWalker, .ref q_t_page, .ref q_t_trial, .ref q_t_book, .int t_acts, .ref q_t_kept, .ref q_t_isKept, .int t_marks, .ref q_t_markStep, .ref q_t_markTread, .long t_seed, .int t_stumbled, .ref q_t_order, .int t_lineMany, .int t_lineOrder, .int t_whoseMany, .int t_whoseFirst, .int t_restMany, .int t_restFirst, .ref q_t_gains, .ref q_t_value])), (q_t_markStep, .inl (cI, 6, .inl t_markStep)), (q_t_markTread, .inl (cI, 6, .inl t_markTread))] := wd hD0 rfl
                  rw [L_X8_findWhose_44] at hf
                  refine lv_iload hx hb dX8_findWhose_44 (lv_at hl 5 rfl) ?_
                  refine lv_aload_n hx hb dX8_findWhose_46 rfl (lv_at hl 0 rfl) ?_
                  refine va_get (D := (dC, dI)) (ci := 8) (v := .int t_marks) (C := RX8) (T := TX8) (N := 33) hx hb hts hinX8 hown hK.1 hP 0 rfl rfl 19 (by decide) w_2 (fun _ h9 => h9) rfl dX8_findWhose_47 ?_
                  refine lv_icmp_ge (tgt := 94) hx hb dX8_findWhose_50 (by decide) (fun hc => ?_) (fun hc => ?_)
                  · replace hf := ip hc hf
                    refine lv_aload_n hx hb dX8_findWhose_94 rfl (lv_at hl 0 rfl) ?_
                    refine lv_iload hx hb dX8_findWhose_95 (lv_at hl 4 rfl) ?_
                    refine lv_if_eq (tgt := 121) hx hb dX8_findWhose_97 (by decide) (fun hc => ?_) (fun hc => ?_)
                    · replace hf := ip hc hf
                      exact h_121 x3 x4 t_whoseMany t_whoseFirst _ _ _ hP hS (lv_sub hl [0, 1, 2, 3, 4] rfl) hf
                    · replace hf := iq hc hf
                      refine lv_aload_n hx hb dX8_findWhose_100 rfl (lv_at hl 0 rfl) ?_
                      refine va_get (D := (dC, dI)) (ci := 8) (v := .int t_whoseMany) (C := RX8) (T := TX8) (N := 33) hx hb hts hinX8 hown hK.1 hP 0 rfl rfl 27 (by decide) w_0 (fun _ h9 => h9) rfl dX8_findWhose_101 ?_
                      refine lv_if_ne (tgt := 121) hx hb dX8_findWhose_104 (by decide) (fun hc => ?_) (fun hc => ?_)
                      · replace hf := iq hc hf
                        exact h_121 x3 x4 t_whoseMany t_whoseFirst _ _ _ hP hS (lv_sub hl [0, 1, 2, 3, 4] rfl) hf
                      · replace hf := ip hc hf
                        refine lv_bipush (v := 100) hx hb dX8_findWhose_107 (by decide) ?_
                        refine lv_iload_n hx hb dX8_findWhose_109 rfl (lv_at hl 1 rfl) ?_
                        refine lv_imul hx hb dX8_findWhose_110 ?_
                        refine lv_bipush (v := 10) hx hb dX8_findWhose_111 (by decide) ?_
                        refine lv_iload_n hx hb dX8_findWhose_113 rfl (lv_at hl 2 rfl) ?_
                        refine lv_imul hx hb dX8_findWhose_114 ?_
                        refine lv_iadd hx hb dX8_findWhose_115 ?_
                        refine lv_iload_n hx hb dX8_findWhose_116 rfl (lv_at hl 3 rfl) ?_
                        refine lv_iadd hx hb dX8_findWhose_117 ?_
                        refine lv_goto (tgt := 125) hx hb dX8_findWhose_118 (by decide) ?_
                        exact h_125 x3 x4 (((100 * x1) + (10 * x2)) + x3) t_whoseMany t_whoseFirst _ _ _ hP hS (lv_sub hl [0, 1, 2, 3, 4] rfl) hf
                  · replace hf := iq hc hf
                    refine lv_iload hx hb dX8_findWhose_53 (lv_at hl 4 rfl) ?_
                    refine lv_if_eq (tgt := 85) hx hb dX8_findWhose_55 (by decide) (fun hc => ?_) (fun hc => ?_)
                    · replace hf := ip hc hf
                      exact h_85 x5 _ _ _ hP hS (lv_sub hl [0, 1, 2, 3, 5] rfl) hf
                    · replace hf := iq hc hf
                      refine lv_iload_n hx hb dX8_findWhose_58 rfl (lv_at hl 1 rfl) ?_
                      refine lv_iload_n hx hb dX8_findWhose_59 rfl (lv_at hl 2 rfl) ?_
                      refine lv_iload_n hx hb dX8_findWhose_60 rfl (lv_at hl 3 rfl) ?_
                      refine lv_aload_n hx hb dX8_findWhose_61 rfl (lv_at hl 0 rfl) ?_
                      refine va_get (D := (dC, dI)) (ci := 8) (v := .ref q_t_markStep) (C := RX8) (T := TX8) (N := 33) hx hb hts hinX8 hown hK.1 hP 0 rfl rfl 20 (by decide) w_3 (fun _ h9 => h9) rfl dX8_findWhose_62 ?_
                      refine lv_iload hx hb dX8_findWhose_65 (lv_at hl 5 rfl) ?_
                      refine kald hx hb hK.1 hP 1 0 rfl rfl dX8_findWhose_67 hf (fun v1 hf => ?_)
                      obtain ⟨r2, e4, hf⟩ := bd_ok hf
                      refine kSi (As := [.int x1, .int x2, .int x3, .int v1]) CF (va_cwS 4 hts gX8_findWhose_X8_treadBy rfl rfl rfl (by decide +kernel) ⟨Nat.le_of_ble_eq_true rfl, Nat.le_of_ble_eq_true rfl⟩) PU_blind hP hD hS hA [] (fun h1 h2 h3 => PU_pre hK h1 A h2 h3) (c_X8_treadBy l dC dI cI cZ _ x1 x2 x3 v1 r2 e4) rfl rfl rfl rfl hl.1 rfl (Nat.le_of_ble_eq_true rfl) dX8_findWhose_68 ⟨Nat.zero_le _, Nat.zero_le _⟩ (fun H locs hP hS => ?_)
                      replace hP : va_P (dC, dI) vwCl [(q_t, .inr (8, [.int t_thrown, .ref q_t_text, .int t_textSize, .int t_place, .int t_depth, .int t_noon, .int t_later, .int t_walkers, .ref q_t_beat, .ref q_t_kind, .ref q_t_readSnow, .int t_readWalkers, .ref q_t_readWalker, .ref q_t_page, .ref q_t_trial, .ref q_t_book, .int t_acts, .ref q_t_kept, .ref q_t_isKept, .int t_marks, .ref q_t_markStep, .ref q_t_markTread, .long t_seed, .int t_stumbled, .ref q_t_order, .int t_lineMany, .int t_lineOrder, .int t_whoseMany, .int t_whoseFirst, .int t_restMany, .int t_restFirst, .ref q_t_gains, .ref q_t_value])), (q_t_markStep, .inl (cI, 6, .inl t_markStep)), (q_t_markTread, .inl (cI, 6, .inl t_markTread))] H := hP
                      refine lv_aload_n hx hb dX8_findWhose_71 rfl (lv_at hl 0 rfl) ?_
                      refine va_get (D := (dC, dI)) (ci := 8) (v := .ref q_t_markTread) (C := RX8) (T := TX8) (N := 33) hx hb hts hinX8 hown hK.1 hP 0 rfl rfl 21 (by decide) w_4 (fun _ h9 => h9) rfl dX8_findWhose_72 ?_
                      refine lv_iload hx hb dX8_findWhose_75 (lv_at hl 5 rfl) ?_
                      refine kald hx hb hK.1 hP 2 0 rfl rfl dX8_findWhose_77 hf (fun v5 hf => ?_)
                      refine lv_icmp_ne (tgt := 85) hx hb dX8_findWhose_78 (by decide) (fun hc => ?_) (fun hc => ?_)
                      · replace hf := iq hc hf
                        exact h_85 x5 _ _ _ hP hS (lv_sub hl [0, 1, 2, 3, 5] rfl) hf
                      · replace hf := ip hc hf
                        refine lv_iconst (v := 1) hx hb dX8_findWhose_81 (by decide) ?_
                        refine lv_goto (tgt := 86) hx hb dX8_findWhose_82 (by decide) ?_
                        exact h_86 x5 1 _ _ _ hP hS (lv_sub hl [0, 1, 2, 3, 5] rfl) hf
              intro x3 t_whoseMany t_whoseFirst H locs ls hP hS hl hf
              have hD : va_D A [(q_t, .inr (8, [.int t_thrown, .ref q_t_text, .int t_textSize, .int t_place, .int t_depth, .int t_noon, .int t_later, .int t_walkers, .ref q_t_beat, .ref q_t_kind, .ref q_t_readSnow, .int t_readWalkers, .ref q_t_readWalker, .ref q_t_page, .ref q_t_trial, .ref q_t_book, .int t_acts, .ref q_t_kept, .ref q_t_isKept, .int t_marks, .ref q_t_markStep, .ref q_t_markTread, .long t_seed, .int t_stumbled, .ref q_t_order, .int t_lineMany, .int t_lineOrder, .int t_whoseMany, .int t_whoseFirst, .int t_restMany, .int t_restFirst, .ref q_t_gains, .ref q_t_value])), (q_t_markStep, .inl (cI, 6, .inl t_markStep)), (q_t_markTread, .inl (cI, 6, .inl t_markTread))] := wd hD0 rfl
              rw [L_X8_findWhose_33] at hf
              refine lv_iload_n hx hb dX8_findWhose_33 rfl (lv_at hl 3 rfl) ?_
              refine lv_iconst (v := 4) hx hb dX8_findWhose_34 (by decide) ?_
              refine lv_icmp_gt (tgt := 153) hx hb dX8_findWhose_35 (by decide) (fun hc => ?_) (fun hc => ?_)
              · replace hf := ip hc hf
                refine lv_iinc (v := (x2 + 1)) (lv' := [(2, .int (x2 + 1)), (0, .ref q_t), (1, .int x1), (3, .int x3)]) hx hb dX8_findWhose_153 hl (k := 2) rfl rfl (by decide) rfl (fun ls hl => ?_)
                refine lv_goto (tgt := 20) hx hb dX8_findWhose_156 (by decide) ?_
                exact ih20 (x2 + 1) t_whoseMany t_whoseFirst _ _ _ hP hS (lv_sub hl [1, 2, 0] rfl) hf
              · replace hf := iq hc hf
                refine lv_iconst (v := 1) hx hb dX8_findWhose_38 (by decide) ?_
                refine lv_istore (lv' := [(4, .int 1), (0, .ref q_t), (1, .int x1), (2, .int x2), (3, .int x3)]) hx hb dX8_findWhose_39 hl (by decide) rfl (fun ls hl => ?_)
                refine lv_iconst (v := 0) hx hb dX8_findWhose_41 (by decide) ?_
                refine lv_istore (lv' := [(5, .int 0), (4, .int 1), (0, .ref q_t), (1, .int x1), (2, .int x2), (3, .int x3)]) hx hb dX8_findWhose_42 hl (by decide) rfl (fun ls hl => ?_)
                exact h_44 x3 t_whoseMany t_whoseFirst fuelC 1 0 _ _ _ hP hS (lv_sub hl [2, 3, 4, 5, 1, 0] rfl) hf
          intro x2 t_whoseMany t_whoseFirst H locs ls hP hS hl hf
          have hD : va_D A [(q_t, .inr (8, [.int t_thrown, .ref q_t_text, .int t_textSize, .int t_place, .int t_depth, .int t_noon, .int t_later, .int t_walkers, .ref q_t_beat, .ref q_t_kind, .ref q_t_readSnow, .int t_readWalkers, .ref q_t_readWalker, .ref q_t_page, .ref q_t_trial, .ref q_t_book, .int t_acts, .ref q_t_kept, .ref q_t_isKept, .int t_marks, .ref q_t_markStep, .ref q_t_markTread, .long t_seed, .int t_stumbled, .ref q_t_order, .int t_lineMany, .int t_lineOrder, .int t_whoseMany, .int t_whoseFirst, .int t_restMany, .int t_restFirst, .ref q_t_gains, .ref q_t_value])), (q_t_markStep, .inl (cI, 6, .inl t_markStep)), (q_t_markTread, .inl (cI, 6, .inl t_markTread))] := wd hD0 rfl
          rw [L_X8_findWhose_20] at hf
          refine lv_iload_n hx hb dX8_findWhose_20 rfl (lv_at hl 2 rfl) ?_
          refine lv_bipush (v := 9) hx hb dX8_findWhose_21 (by decide) ?_
          refine lv_icmp_gt (tgt := 159) hx hb dX8_findWhose_23 (by decide) (fun hc => ?_) (fun hc => ?_)
          · replace hf := ip hc hf
            exact h_159 x1 t_whoseMany t_whoseFirst _ _ _ hP hS (lv_sub hl [0, 1] rfl) hf
          · replace hf := iq hc hf
            refine lv_iload_n hx hb dX8_findWhose_26 rfl (lv_at hl 1 rfl) ?_
            refine lv_iconst (v := 2) hx hb dX8_findWhose_27 (by decide) ?_
            refine lv_icmp_eq (tgt := 159) hx hb dX8_findWhose_28 (by decide) (fun hc => ?_) (fun hc => ?_)
            · replace hf := ip hc hf
              exact h_159 x1 t_whoseMany t_whoseFirst _ _ _ hP hS (lv_sub hl [0, 1] rfl) hf
            · replace hf := iq hc hf
              refine lv_iconst (v := 1) hx hb dX8_findWhose_31 (by decide) ?_
              refine lv_istore_n (lv' := [(3, .int 1), (0, .ref q_t), (1, .int x1), (2, .int x2)]) hx hb dX8_findWhose_32 rfl hl (by decide) rfl (fun ls hl => ?_)
              exact h_33 x2 fuelC 1 t_whoseMany t_whoseFirst _ _ _ hP hS (lv_sub hl [1, 2, 3, 0] rfl) hf
      intro x1 t_whoseMany t_whoseFirst H locs ls hP hS hl hf
      have hD : va_D A [(q_t, .inr (8, [.int t_thrown, .ref q_t_text, .int t_textSize, .int t_place, .int t_depth, .int t_noon, .int t_later, .int t_walkers, .ref q_t_beat, .ref q_t_kind, .ref q_t_readSnow, .int t_readWalkers, .ref q_t_readWalker, .ref q_t_page, .ref q_t_trial, .ref q_t_book, .int t_acts, .ref q_t_kept, .ref q_t_isKept, .int t_marks, .ref q_t_markStep, .ref q_t_markTread, .long t_seed, .int t_stumbled, .ref q_t_order, .int t_lineMany, .int t_lineOrder, .int t_whoseMany, .int t_whoseFirst, .int t_restMany, .int t_restFirst, .ref q_t_gains, .ref q_t_value])), (q_t_markStep, .inl (cI, 6, .inl t_markStep)), (q_t_markTread, .inl (cI, 6, .inl t_markTread))] := wd hD0 rfl
      rw [L_X8_findWhose_13] at hf
      refine lv_iload_n hx hb dX8_findWhose_13 rfl (lv_at hl 1 rfl) ?_
      refine lv_iconst (v := 4) hx hb dX8_findWhose_14 (by decide) ?_
      refine lv_icmp_ge (tgt := 165) hx hb dX8_findWhose_15 (by decide) (fun hc => ?_) (fun hc => ?_)
      · replace hf := ip hc hf
        obtain ⟨e0, hf⟩ := ij2 hf
        have e1 := hf
        exact hret _ _ _ _ (by rw [← e0, ← e1]; exact hP) hS dX8_findWhose_165
      · replace hf := iq hc hf
        refine lv_iconst (v := 1) hx hb dX8_findWhose_18 (by decide) ?_
        refine lv_istore_n (lv' := [(2, .int 1), (0, .ref q_t), (1, .int x1)]) hx hb dX8_findWhose_19 rfl hl (by decide) rfl (fun ls hl => ?_)
        exact h_20 x1 fuelC 1 t_whoseMany t_whoseFirst _ _ _ hP hS (lv_sub hl [1, 2, 0] rfl) hf
  unfold f_X8_findWhose at hf
  refine lv_aload_n hx hb dX8_findWhose_0 rfl (lv_at hl 0 rfl) ?_
  refine lv_iconst (v := 0) hx hb dX8_findWhose_1 (by decide) ?_
  refine va_put (D := (dC, dI)) (ci := 8) (v := .int 0) (ty := .int) (C := RX8) (T := TX8) (N := 33) hx hb hts hinX8 tyX8 tyX8_ok nmX8 hown hK.1 hP hD hS 0 rfl rfl 27 (by decide) w_0 (fun _ h9 => h9) rfl (by decide +kernel) rfl rfl (Nat.le_of_ble_eq_true rfl) dX8_findWhose_2 (fun H locs hP hD hS => ?_)
  replace hP : va_P (dC, dI) vwCl [(q_t, .inr (8, [.int t_thrown, .ref q_t_text, .int t_textSize, .int t_place, .int t_depth, .int t_noon, .int t_later, .int t_walkers, .ref q_t_beat, .ref q_t_kind, .ref q_t_readSnow, .int t_readWalkers, .ref q_t_readWalker, .ref q_t_page, .ref q_t_trial, .ref q_t_book, .int t_acts, .ref q_t_kept, .ref q_t_isKept, .int t_marks, .ref q_t_markStep, .ref q_t_markTread, .long t_seed, .int t_stumbled, .ref q_t_order, .int t_lineMany, .int t_lineOrder, .int 0, .int t_whoseFirst, .int t_restMany, .int t_restFirst, .ref q_t_gains, .ref q_t_value])), (q_t_markStep, .inl (cI, 6, .inl t_markStep)), (q_t_markTread, .inl (cI, 6, .inl t_markTread))] H := hP
  replace hD : va_D A [(q_t, .inr (8, [.int t_thrown, .ref q_t_text, .int t_textSize, .int t_place, .int t_depth, .int t_noon, .int t_later, .int t_walkers, .ref q_t_beat, .ref q_t_kind, .ref q_t_readSnow, .int t_readWalkers, .ref q_t_readWalker, .ref q_t_page, .ref q_t_trial, .ref q_t_book, .int t_acts, .ref q_t_kept, .ref q_t_isKept, .int t_marks, .ref q_t_markStep, .ref q_t_markTread, .long t_seed, .int t_stumbled, .ref q_t_order, .int t_lineMany, .int t_lineOrder, .int 0, .int t_whoseFirst, .int t_restMany, .int t_restFirst, .ref q_t_gains, .ref q_t_value])), (q_t_markStep, .inl (cI, 6, .inl t_markStep)), (q_t_markTread, .inl (cI, 6, .inl t_markTread))] := hD
  refine lv_aload_n hx hb dX8_findWhose_5 rfl (lv_at hl 0 rfl) ?_
  refine lv_bipush (v := (-9)) hx hb dX8_findWhose_6 (by decide) ?_
  refine va_put (D := (dC, dI)) (ci := 8) (v := .int (-9)) (ty := .int) (C := RX8) (T := TX8) (N := 33) hx hb hts hinX8 tyX8 tyX8_ok nmX8 hown hK.1 hP hD hS 0 rfl rfl 28 (by decide) w_1 (fun _ h9 => h9) rfl (by decide +kernel) rfl rfl (Nat.le_of_ble_eq_true rfl) dX8_findWhose_8 (fun H locs hP hD hS => ?_)
  replace hP : va_P (dC, dI) vwCl [(q_t, .inr (8, [.int t_thrown, .ref q_t_text, .int t_textSize, .int t_place, .int t_depth, .int t_noon, .int t_later, .int t_walkers, .ref q_t_beat, .ref q_t_kind, .ref q_t_readSnow, .int t_readWalkers, .ref q_t_readWalker, .ref q_t_page, .ref q_t_trial, .ref q_t_book, .int t_acts, .ref q_t_kept, .ref q_t_isKept, .int t_marks, .ref q_t_markStep, .ref q_t_markTread, .long t_seed, .int t_stumbled, .ref q_t_order, .int t_lineMany, .int t_lineOrder, .int 0, .int (-9), .int t_restMany, .int t_restFirst, .ref q_t_gains, .ref q_t_value])), (q_t_markStep, .inl (cI, 6, .inl t_markStep)), (q_t_markTread, .inl (cI, 6, .inl t_markTread))] H := hP
  replace hD : va_D A [(q_t, .inr (8, [.int t_thrown, .ref q_t_text, .int t_textSize, .int t_place, .int t_depth, .int t_noon, .int t_later, .int t_walkers, .ref q_t_beat, .ref q_t_kind, .ref q_t_readSnow, .int t_readWalkers, .ref q_t_readWalker, .ref q_t_page, .ref q_t_trial, .ref q_t_book, .int t_acts, .ref q_t_kept, .ref q_t_isKept, .int t_marks, .ref q_t_markStep, .ref q_t_markTread, .long t_seed, .int t_stumbled, .ref q_t_order, .int t_lineMany, .int t_lineOrder, .int 0, .int (-9), .int t_restMany, .int t_restFirst, .ref q_t_gains, .ref q_t_value])), (q_t_markStep, .inl (cI, 6, .inl t_markStep)), (q_t_markTread, .inl (cI, 6, .inl t_markTread))] := hD
  refine lv_iconst (v := 0) hx hb dX8_findWhose_11 (by decide) ?_
  refine lv_istore_n (lv' := [(1, .int 0), (0, .ref q_t)]) hx hb dX8_findWhose_12 rfl hl (by decide) rfl (fun ls hl => ?_)
  exact h_13 fuelC 0 0 (-9) _ _ _ hP hS (lv_sub hl [1, 0] rfl) hf
