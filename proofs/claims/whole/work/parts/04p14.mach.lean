-- X8_keep X8_again
abbrev rm_X8_keep : Room := { frames := 1, cells := 0, slots := 0, locals := 25 }
set_option maxHeartbeats 4000000 in
set_option maxRecDepth 100000 in
theorem c_X8_keep (l : Launch) (dC : Nat → ClassId) (dI : Nat → Nat → Nat) (cI cZ : ClassId) (q_t q_t_text q_t_beat q_t_kind q_t_readSnow q_t_readWalker q_t_page q_t_trial q_t_book q_t_kept q_t_isKept q_t_markStep q_t_markTread q_t_order q_t_gains q_t_value : Nat) (sz : Nat) (t_thrown : Int32) (t_textSize : Int32) (t_place : Int32) (t_depth : Int32) (t_noon : Int32) (t_later : Int32) (t_walkers : Int32) (t_readWalkers : Int32) (t_acts : Int32) (t_marks : Int32) (t_seed : Int64) (t_stumbled : Int32) (t_lineMany : Int32) (t_lineOrder : Int32) (t_whoseMany : Int32) (t_whoseFirst : Int32) (t_restMany : Int32) (t_restFirst : Int32) (t_isKept : Nat → Int32) (t_page : Nat → Int32) (t_kept : Nat → Int32) (x1 : Int32) (r_ : Int32) (o_t_thrown : Int32) (o_t_isKept : Nat → Int32) (o_t_kept : Nat → Int32) (hf : f_X8_keep x1 t_thrown t_isKept t_page t_kept = some (r_, o_t_thrown, o_t_isKept, o_t_kept)) : Met l yX8_keep wsX8_keep rm_X8_keep (va_Pc [.ref q_t, .int x1] (PU (dC, dI) cI cZ [(q_t, .inr (8, [.int t_thrown, .ref q_t_text, .int t_textSize, .int t_place, .int t_depth, .int t_noon, .int t_later, .int t_walkers, .ref q_t_beat, .ref q_t_kind, .ref q_t_readSnow, .int t_readWalkers, .ref q_t_readWalker, .ref q_t_page, .ref q_t_trial, .ref q_t_book, .int t_acts, .ref q_t_kept, .ref q_t_isKept, .int t_marks, .ref q_t_markStep, .ref q_t_markTread, .long t_seed, .int t_stumbled, .ref q_t_order, .int t_lineMany, .int t_lineOrder, .int t_whoseMany, .int t_whoseFirst, .int t_restMany, .int t_restFirst, .ref q_t_gains, .ref q_t_value])), (q_t_isKept, .inl (cZ, 2, .inl t_isKept)), (q_t_page, .inl (cI, 17, .inl t_page)), (q_t_kept, .inl (cI, 34, .inl t_kept))] sz)) (va_Qi (fun (r : Int32) (_ : Unit) => r = r_) (fun _ t => va_P (dC, dI) vwCl [(q_t, .inr (8, [.int o_t_thrown, .ref q_t_text, .int t_textSize, .int t_place, .int t_depth, .int t_noon, .int t_later, .int t_walkers, .ref q_t_beat, .ref q_t_kind, .ref q_t_readSnow, .int t_readWalkers, .ref q_t_readWalker, .ref q_t_page, .ref q_t_trial, .ref q_t_book, .int t_acts, .ref q_t_kept, .ref q_t_isKept, .int t_marks, .ref q_t_markStep, .ref q_t_markTread, .long t_seed, .int t_stumbled, .ref q_t_order, .int t_lineMany, .int t_lineOrder, .int t_whoseMany, .int t_whoseFirst, .int t_restMany, .int t_restFirst, .ref q_t_gains, .ref q_t_value])), (q_t_isKept, .inl (cZ, 2, .inl o_t_isKept)), (q_t_page, .inl (cI, 17, .inl t_page)), (q_t_kept, .inl (cI, 34, .inl o_t_kept))] t.heap) (va_A [(q_t, .inr (8, [.int t_thrown, .ref q_t_text, .int t_textSize, .int t_place, .int t_depth, .int t_noon, .int t_later, .int t_walkers, .ref q_t_beat, .ref q_t_kind, .ref q_t_readSnow, .int t_readWalkers, .ref q_t_readWalker, .ref q_t_page, .ref q_t_trial, .ref q_t_book, .int t_acts, .ref q_t_kept, .ref q_t_isKept, .int t_marks, .ref q_t_markStep, .ref q_t_markTread, .long t_seed, .int t_stumbled, .ref q_t_order, .int t_lineMany, .int t_lineOrder, .int t_whoseMany, .int t_whoseFirst, .int t_restMany, .int t_restFirst, .ref q_t_gains, .ref q_t_value])), (q_t_isKept, .inl (cZ, 2, .inl t_isKept)), (q_t_page, .inl (cI, 17, .inl t_page)), (q_t_kept, .inl (cI, 34, .inl t_kept))] sz)) 0 0 (va_A [(q_t, .inr (8, [.int t_thrown, .ref q_t_text, .int t_textSize, .int t_place, .int t_depth, .int t_noon, .int t_later, .int t_walkers, .ref q_t_beat, .ref q_t_kind, .ref q_t_readSnow, .int t_readWalkers, .ref q_t_readWalker, .ref q_t_page, .ref q_t_trial, .ref q_t_book, .int t_acts, .ref q_t_kept, .ref q_t_isKept, .int t_marks, .ref q_t_markStep, .ref q_t_markTread, .long t_seed, .int t_stumbled, .ref q_t_order, .int t_lineMany, .int t_lineOrder, .int t_whoseMany, .int t_whoseFirst, .int t_restMany, .int t_restFirst, .ref q_t_gains, .ref q_t_value])), (q_t_isKept, .inl (cZ, 2, .inl t_isKept)), (q_t_page, .inl (cI, 17, .inl t_page)), (q_t_kept, .inl (cI, 34, .inl t_kept))] sz) := by
  refine MetI (cc := cX8_keep) (maxL := 3) (by decide) rfl (Nat.le_of_ble_eq_true rfl) (fun _ h => h) ?_
  intro p e s m args below meth c A Q ls hx CF hK hA hD hP hS hl hB hAe hsz hret
  have hb := CF.2.1
  have hml := CF.2.2.1
  have hown := CF.2.2.2.1
  have hts := CF.2.2.2.2
  have hD0 := hD
  replace hl : lv_has ls 3 [(0, .ref q_t), (1, .int x1)] := hl
  have hinX8 : ∀ w ∈ wsX80, w ∈ wsX8_keep := fun _ h => List.mem_cons_of_mem _ (List.mem_append_right _ h)
  have w_0 := hts (.fieldLink RX8 32 "PassInStepModel" "page" "[I") (by decide +kernel)
  have w_1 := hts (.fieldLink RX8 41 "PassInStepModel" "kept" "[I") (by decide +kernel)
  have w_2 := hts (.fieldLink RX8 63 "PassInStepModel" "thrown" "I") (by decide +kernel)
  have w_3 := hts (.fieldLink RX8 44 "PassInStepModel" "isKept" "[Z") (by decide +kernel)
  have h_26 : ∀ (x1 : Int32) (t_thrown : Int32) (t_isKept : Nat → Int32) (fu26 : Nat) (x2 : Int32) (t_kept : Nat → Int32) (H : Heap) (locs : List Loc) (ls : Array Slot), va_P (dC, dI) vwCl [(q_t, .inr (8, [.int t_thrown, .ref q_t_text, .int t_textSize, .int t_place, .int t_depth, .int t_noon, .int t_later, .int t_walkers, .ref q_t_beat, .ref q_t_kind, .ref q_t_readSnow, .int t_readWalkers, .ref q_t_readWalker, .ref q_t_page, .ref q_t_trial, .ref q_t_book, .int t_acts, .ref q_t_kept, .ref q_t_isKept, .int t_marks, .ref q_t_markStep, .ref q_t_markTread, .long t_seed, .int t_stumbled, .ref q_t_order, .int t_lineMany, .int t_lineOrder, .int t_whoseMany, .int t_whoseFirst, .int t_restMany, .int t_restFirst, .ref q_t_gains, .ref q_t_value])), (q_t_isKept, .inl (cZ, 2, .inl t_isKept)), (q_t_page, .inl (cI, 17, .inl t_page)), (q_t_kept, .inl (cI, 34, .inl t_kept))] H → va_S A s.heap H locs → lv_has ls 3 [(0, .ref q_t), (1, .int x1), (2, .int x2)] → L_X8_keep_26 x1 t_thrown t_isKept t_page fu26 x2 t_kept = some (r_, o_t_thrown, o_t_isKept, o_t_kept) → W p l e rm_X8_keep s m args below meth c H locs 0 0 Q (F0 m 26 ls []) := by
    intro x1 t_thrown t_isKept fu26
    induction fu26 with
    | zero =>
      intro x2 t_kept H locs ls hP hS hl hf
      rw [L_X8_keep_26] at hf
      cases hf
    | succ fu26 ih26 =>
      intro x2 t_kept H locs ls hP hS hl hf
      have hD : va_D A [(q_t, .inr (8, [.int t_thrown, .ref q_t_text, .int t_textSize, .int t_place, .int t_depth, .int t_noon, .int t_later, .int t_walkers, .ref q_t_beat, .ref q_t_kind, .ref q_t_readSnow, .int t_readWalkers, .ref q_t_readWalker, .ref q_t_page, .ref q_t_trial, .ref q_t_book, .int t_acts, .ref q_t_kept, .ref q_t_isKept, .int t_marks, .ref q_t_markStep, .ref q_t_markTread, .long t_seed, .int t_stumbled, .ref q_t_order, .int t_lineMany, .int t_lineOrder, .int t_whoseMany, .int t_whoseFirst, .int t_restMany, .int t_restFirst, .ref q_t_gains, .ref q_t_value])), (q_t_isKept, .inl (cZ, 2, .inl t_isKept)), (q_t_page, .inl (cI, 17, .inl t_page)), (q_t_kept, .inl (cI, 34, .inl t_kept))] := wd hD0 rfl
      rw [L_X8_keep_26] at hf
      refine lv_iload_n hx hb dX8_keep_26 rfl (lv_at hl 2 rfl) ?_
      refine lv_bipush (v := 17) hx hb dX8_keep_27 (by decide) ?_
      refine lv_icmp_ge (tgt := 55) hx hb dX8_keep_29 (by decide) (fun hc => ?_) (fun hc => ?_)
      · replace hf := ip hc hf
        refine lv_aload_n hx hb dX8_keep_55 rfl (lv_at hl 0 rfl) ?_
        refine va_get (D := (dC, dI)) (ci := 8) (v := .ref q_t_page) (C := RX8) (T := TX8) (N := 33) hx hb hts hinX8 hown hK.1 hP 0 rfl rfl 13 (by decide) w_0 (fun _ h9 => h9) rfl dX8_keep_56 ?_
        refine lv_bipush (v := 16) hx hb dX8_keep_59 (by decide) ?_
        refine kald hx hb hK.1 hP 2 0 rfl rfl dX8_keep_61 hf (fun v1 hf => ?_)
        obtain ⟨e0, hf⟩ := ij2 hf
        obtain ⟨e1, hf⟩ := ijc hf
        obtain ⟨e2, hf⟩ := ijc hf
        have e3 := hf
        refine W.eq (congrArg (fun z => F0 m 62 ls [.int z]) e0) ?_
        exact hret _ _ _ _ (by rw [← e1, ← e2, ← e3]; exact hP) hS dX8_keep_62
      · replace hf := iq hc hf
        refine lv_aload_n hx hb dX8_keep_32 rfl (lv_at hl 0 rfl) ?_
        refine va_get (D := (dC, dI)) (ci := 8) (v := .ref q_t_kept) (C := RX8) (T := TX8) (N := 33) hx hb hts hinX8 hown hK.1 hP 0 rfl rfl 17 (by decide) w_1 (fun _ h9 => h9) rfl dX8_keep_33 ?_
        refine lv_bipush (v := 17) hx hb dX8_keep_36 (by decide) ?_
        refine lv_iload_n hx hb dX8_keep_38 rfl (lv_at hl 1 rfl) ?_
        refine lv_imul hx hb dX8_keep_39 ?_
        refine lv_iload_n hx hb dX8_keep_40 rfl (lv_at hl 2 rfl) ?_
        refine lv_iadd hx hb dX8_keep_41 ?_
        refine lv_aload_n hx hb dX8_keep_42 rfl (lv_at hl 0 rfl) ?_
        refine va_get (D := (dC, dI)) (ci := 8) (v := .ref q_t_page) (C := RX8) (T := TX8) (N := 33) hx hb hts hinX8 hown hK.1 hP 0 rfl rfl 13 (by decide) w_0 (fun _ h9 => h9) rfl dX8_keep_43 ?_
        refine lv_iload_n hx hb dX8_keep_46 rfl (lv_at hl 2 rfl) ?_
        refine kald hx hb hK.1 hP 2 0 rfl rfl dX8_keep_47 hf (fun v2 hf => ?_)
        refine kast hx hb hK.1 hP hD hS 3 0 rfl rfl dX8_keep_48 hf (fun w3 H locs hP hD hS hf => ?_)
        replace hP : va_P (dC, dI) vwCl [(q_t, .inr (8, [.int t_thrown, .ref q_t_text, .int t_textSize, .int t_place, .int t_depth, .int t_noon, .int t_later, .int t_walkers, .ref q_t_beat, .ref q_t_kind, .ref q_t_readSnow, .int t_readWalkers, .ref q_t_readWalker, .ref q_t_page, .ref q_t_trial, .ref q_t_book, .int t_acts, .ref q_t_kept, .ref q_t_isKept, .int t_marks, .ref q_t_markStep, .ref q_t_markTread, .long t_seed, .int t_stumbled, .ref q_t_order, .int t_lineMany, .int t_lineOrder, .int t_whoseMany, .int t_whoseFirst, .int t_restMany, .int t_restFirst, .ref q_t_gains, .ref q_t_value])), (q_t_isKept, .inl (cZ, 2, .inl t_isKept)), (q_t_page, .inl (cI, 17, .inl t_page)), (q_t_kept, .inl (cI, 34, .inl w3))] H := hP
        replace hD : va_D A [(q_t, .inr (8, [.int t_thrown, .ref q_t_text, .int t_textSize, .int t_place, .int t_depth, .int t_noon, .int t_later, .int t_walkers, .ref q_t_beat, .ref q_t_kind, .ref q_t_readSnow, .int t_readWalkers, .ref q_t_readWalker, .ref q_t_page, .ref q_t_trial, .ref q_t_book, .int t_acts, .ref q_t_kept, .ref q_t_isKept, .int t_marks, .ref q_t_markStep, .ref q_t_markTread, .long t_seed, .int t_stumbled, .ref q_t_order, .int t_lineMany, .int t_lineOrder, .int t_whoseMany, .int t_whoseFirst, .int t_restMany, .int t_restFirst, .ref q_t_gains, .ref q_t_value])), (q_t_isKept, .inl (cZ, 2, .inl t_isKept)), (q_t_page, .inl (cI, 17, .inl t_page)), (q_t_kept, .inl (cI, 34, .inl w3))] := hD
        refine lv_iinc (v := (x2 + 1)) (lv' := [(2, .int (x2 + 1)), (0, .ref q_t), (1, .int x1)]) hx hb dX8_keep_49 hl (k := 2) rfl rfl (by decide) rfl (fun ls hl => ?_)
        refine lv_goto (tgt := 26) hx hb dX8_keep_52 (by decide) ?_
        exact ih26 (x2 + 1) w3 _ _ _ hP hS (lv_sub hl [1, 2, 0] rfl) hf
  unfold f_X8_keep at hf
  refine lv_aload_n hx hb dX8_keep_0 rfl (lv_at hl 0 rfl) ?_
  refine lv_iconst (v := 0) hx hb dX8_keep_1 (by decide) ?_
  refine va_put (D := (dC, dI)) (ci := 8) (v := .int 0) (ty := .int) (C := RX8) (T := TX8) (N := 33) hx hb hts hinX8 tyX8 tyX8_ok nmX8 hown hK.1 hP hD hS 0 rfl rfl 0 (by decide) w_2 (fun _ h9 => h9) rfl (by decide +kernel) rfl rfl (Nat.le_of_ble_eq_true rfl) dX8_keep_2 (fun H locs hP hD hS => ?_)
  replace hP : va_P (dC, dI) vwCl [(q_t, .inr (8, [.int 0, .ref q_t_text, .int t_textSize, .int t_place, .int t_depth, .int t_noon, .int t_later, .int t_walkers, .ref q_t_beat, .ref q_t_kind, .ref q_t_readSnow, .int t_readWalkers, .ref q_t_readWalker, .ref q_t_page, .ref q_t_trial, .ref q_t_book, .int t_acts, .ref q_t_kept, .ref q_t_isKept, .int t_marks, .ref q_t_markStep, .ref q_t_markTread, .long t_seed, .int t_stumbled, .ref q_t_order, .int t_lineMany, .int t_lineOrder, .int t_whoseMany, .int t_whoseFirst, .int t_restMany, .int t_restFirst, .ref q_t_gains, .ref q_t_value])), (q_t_isKept, .inl (cZ, 2, .inl t_isKept)), (q_t_page, .inl (cI, 17, .inl t_page)), (q_t_kept, .inl (cI, 34, .inl t_kept))] H := hP
  replace hD : va_D A [(q_t, .inr (8, [.int 0, .ref q_t_text, .int t_textSize, .int t_place, .int t_depth, .int t_noon, .int t_later, .int t_walkers, .ref q_t_beat, .ref q_t_kind, .ref q_t_readSnow, .int t_readWalkers, .ref q_t_readWalker, .ref q_t_page, .ref q_t_trial, .ref q_t_book, .int t_acts, .ref q_t_kept, .ref q_t_isKept, .int t_marks, .ref q_t_markStep, .ref q_t_markTread, .long t_seed, .int t_stumbled, .ref q_t_order, .int t_lineMany, .int t_lineOrder, .int t_whoseMany, .int t_whoseFirst, .int t_restMany, .int t_restFirst, .ref q_t_gains, .ref q_t_value])), (q_t_isKept, .inl (cZ, 2, .inl t_isKept)), (q_t_page, .inl (cI, 17, .inl t_page)), (q_t_kept, .inl (cI, 34, .inl t_kept))] := hD
  refine lv_iload_n hx hb dX8_keep_5 rfl (lv_at hl 1 rfl) ?_
  refine lv_i2l hx hb dX8_keep_6 rfl ?_
  refine lv_lconst (v := 0) hx hb dX8_keep_7 (by decide) ?_
  refine lv_lconst (v := 1) hx hb dX8_keep_8 (by decide) ?_
  obtain ⟨r4, e6, hf⟩ := bd_ok hf
  refine kSi (As := [.long ((x1).toInt64), .long (0 : Int64), .long (1 : Int64)]) CF (va_cwS 3 hts gX8_keep_X8_in rfl rfl rfl (by decide +kernel) ⟨Nat.le_of_ble_eq_true rfl, Nat.le_of_ble_eq_true rfl⟩) PU_blind hP hD hS hA [] (fun h1 h2 h3 => PU_pre hK h1 A h2 h3) (c_X8_in l dC dI cI cZ _ ((x1).toInt64) (0 : Int64) (1 : Int64) r4 e6) rfl rfl rfl rfl hl.1 rfl (Nat.le_of_ble_eq_true rfl) dX8_keep_9 ⟨Nat.zero_le _, Nat.zero_le _⟩ (fun H locs hP hS => ?_)
  replace hP : va_P (dC, dI) vwCl [(q_t, .inr (8, [.int 0, .ref q_t_text, .int t_textSize, .int t_place, .int t_depth, .int t_noon, .int t_later, .int t_walkers, .ref q_t_beat, .ref q_t_kind, .ref q_t_readSnow, .int t_readWalkers, .ref q_t_readWalker, .ref q_t_page, .ref q_t_trial, .ref q_t_book, .int t_acts, .ref q_t_kept, .ref q_t_isKept, .int t_marks, .ref q_t_markStep, .ref q_t_markTread, .long t_seed, .int t_stumbled, .ref q_t_order, .int t_lineMany, .int t_lineOrder, .int t_whoseMany, .int t_whoseFirst, .int t_restMany, .int t_restFirst, .ref q_t_gains, .ref q_t_value])), (q_t_isKept, .inl (cZ, 2, .inl t_isKept)), (q_t_page, .inl (cI, 17, .inl t_page)), (q_t_kept, .inl (cI, 34, .inl t_kept))] H := hP
  refine lv_if_ne (tgt := 17) hx hb dX8_keep_12 (by decide) (fun hc => ?_) (fun hc => ?_)
  · replace hf := iq hc hf
    refine lv_aload_n hx hb dX8_keep_17 rfl (lv_at hl 0 rfl) ?_
    refine va_get (D := (dC, dI)) (ci := 8) (v := .ref q_t_isKept) (C := RX8) (T := TX8) (N := 33) hx hb hts hinX8 hown hK.1 hP 0 rfl rfl 18 (by decide) w_3 (fun _ h9 => h9) rfl dX8_keep_18 ?_
    refine lv_iload_n hx hb dX8_keep_21 rfl (lv_at hl 1 rfl) ?_
    refine lv_iconst (v := 1) hx hb dX8_keep_22 (by decide) ?_
    refine kzast hx hb hK.1 hP hD hS 1 1 rfl rfl dX8_keep_23 hf (fun w7 H locs hP hD hS hf => ?_)
    replace hP : va_P (dC, dI) vwCl [(q_t, .inr (8, [.int 0, .ref q_t_text, .int t_textSize, .int t_place, .int t_depth, .int t_noon, .int t_later, .int t_walkers, .ref q_t_beat, .ref q_t_kind, .ref q_t_readSnow, .int t_readWalkers, .ref q_t_readWalker, .ref q_t_page, .ref q_t_trial, .ref q_t_book, .int t_acts, .ref q_t_kept, .ref q_t_isKept, .int t_marks, .ref q_t_markStep, .ref q_t_markTread, .long t_seed, .int t_stumbled, .ref q_t_order, .int t_lineMany, .int t_lineOrder, .int t_whoseMany, .int t_whoseFirst, .int t_restMany, .int t_restFirst, .ref q_t_gains, .ref q_t_value])), (q_t_isKept, .inl (cZ, 2, .inl w7)), (q_t_page, .inl (cI, 17, .inl t_page)), (q_t_kept, .inl (cI, 34, .inl t_kept))] H := hP
    replace hD : va_D A [(q_t, .inr (8, [.int 0, .ref q_t_text, .int t_textSize, .int t_place, .int t_depth, .int t_noon, .int t_later, .int t_walkers, .ref q_t_beat, .ref q_t_kind, .ref q_t_readSnow, .int t_readWalkers, .ref q_t_readWalker, .ref q_t_page, .ref q_t_trial, .ref q_t_book, .int t_acts, .ref q_t_kept, .ref q_t_isKept, .int t_marks, .ref q_t_markStep, .ref q_t_markTread, .long t_seed, .int t_stumbled, .ref q_t_order, .int t_lineMany, .int t_lineOrder, .int t_whoseMany, .int t_whoseFirst, .int t_restMany, .int t_restFirst, .ref q_t_gains, .ref q_t_value])), (q_t_isKept, .inl (cZ, 2, .inl w7)), (q_t_page, .inl (cI, 17, .inl t_page)), (q_t_kept, .inl (cI, 34, .inl t_kept))] := hD
    refine lv_iconst (v := 0) hx hb dX8_keep_24 (by decide) ?_
    refine lv_istore_n (lv' := [(2, .int 0), (0, .ref q_t), (1, .int x1)]) hx hb dX8_keep_25 rfl hl (by decide) rfl (fun ls hl => ?_)
    exact h_26 x1 0 w7 fuelC 0 t_kept _ _ _ hP hS (lv_sub hl [1, 2, 0] rfl) hf
  · replace hf := ip hc hf
    refine lv_iconst (v := (-1)) hx hb dX8_keep_15 (by decide) ?_
    obtain ⟨e0, hf⟩ := ij2 hf
    obtain ⟨e1, hf⟩ := ijc hf
    obtain ⟨e2, hf⟩ := ijc hf
    have e3 := hf
    refine W.eq (congrArg (fun z => F0 m 16 ls [.int z]) e0) ?_
    exact hret _ _ _ _ (by rw [← e1, ← e2, ← e3]; exact hP) hS dX8_keep_16
abbrev rm_X8_again : Room := { frames := 1, cells := 0, slots := 0, locals := 25 }
set_option maxHeartbeats 4000000 in
set_option maxRecDepth 100000 in
theorem c_X8_again (l : Launch) (dC : Nat → ClassId) (dI : Nat → Nat → Nat) (cI cZ : ClassId) (q_t q_t_text q_t_beat q_t_kind q_t_readSnow q_t_readWalker q_t_page q_t_trial q_t_book q_t_kept q_t_isKept q_t_markStep q_t_markTread q_t_order q_t_gains q_t_value : Nat) (sz : Nat) (t_thrown : Int32) (t_textSize : Int32) (t_place : Int32) (t_depth : Int32) (t_noon : Int32) (t_later : Int32) (t_walkers : Int32) (t_readWalkers : Int32) (t_acts : Int32) (t_marks : Int32) (t_seed : Int64) (t_stumbled : Int32) (t_lineMany : Int32) (t_lineOrder : Int32) (t_whoseMany : Int32) (t_whoseFirst : Int32) (t_restMany : Int32) (t_restFirst : Int32) (t_isKept : Nat → Int32) (t_kept : Nat → Int32) (t_page : Nat → Int32) (x1 : Int32) (r_ : Int32) (o_t_thrown : Int32) (o_t_acts : Int32) (o_t_page : Nat → Int32) (hf : f_X8_again x1 t_thrown t_acts t_isKept t_kept t_page = some (r_, o_t_thrown, o_t_acts, o_t_page)) : Met l yX8_again wsX8_again rm_X8_again (va_Pc [.ref q_t, .int x1] (PU (dC, dI) cI cZ [(q_t, .inr (8, [.int t_thrown, .ref q_t_text, .int t_textSize, .int t_place, .int t_depth, .int t_noon, .int t_later, .int t_walkers, .ref q_t_beat, .ref q_t_kind, .ref q_t_readSnow, .int t_readWalkers, .ref q_t_readWalker, .ref q_t_page, .ref q_t_trial, .ref q_t_book, .int t_acts, .ref q_t_kept, .ref q_t_isKept, .int t_marks, .ref q_t_markStep, .ref q_t_markTread, .long t_seed, .int t_stumbled, .ref q_t_order, .int t_lineMany, .int t_lineOrder, .int t_whoseMany, .int t_whoseFirst, .int t_restMany, .int t_restFirst, .ref q_t_gains, .ref q_t_value])), (q_t_isKept, .inl (cZ, 2, .inl t_isKept)), (q_t_kept, .inl (cI, 34, .inl t_kept)), (q_t_page, .inl (cI, 17, .inl t_page))] sz)) (va_Qi (fun (r : Int32) (_ : Unit) => r = r_) (fun _ t => va_P (dC, dI) vwCl [(q_t, .inr (8, [.int o_t_thrown, .ref q_t_text, .int t_textSize, .int t_place, .int t_depth, .int t_noon, .int t_later, .int t_walkers, .ref q_t_beat, .ref q_t_kind, .ref q_t_readSnow, .int t_readWalkers, .ref q_t_readWalker, .ref q_t_page, .ref q_t_trial, .ref q_t_book, .int o_t_acts, .ref q_t_kept, .ref q_t_isKept, .int t_marks, .ref q_t_markStep, .ref q_t_markTread, .long t_seed, .int t_stumbled, .ref q_t_order, .int t_lineMany, .int t_lineOrder, .int t_whoseMany, .int t_whoseFirst, .int t_restMany, .int t_restFirst, .ref q_t_gains, .ref q_t_value])), (q_t_isKept, .inl (cZ, 2, .inl t_isKept)), (q_t_kept, .inl (cI, 34, .inl t_kept)), (q_t_page, .inl (cI, 17, .inl o_t_page))] t.heap) (va_A [(q_t, .inr (8, [.int t_thrown, .ref q_t_text, .int t_textSize, .int t_place, .int t_depth, .int t_noon, .int t_later, .int t_walkers, .ref q_t_beat, .ref q_t_kind, .ref q_t_readSnow, .int t_readWalkers, .ref q_t_readWalker, .ref q_t_page, .ref q_t_trial, .ref q_t_book, .int t_acts, .ref q_t_kept, .ref q_t_isKept, .int t_marks, .ref q_t_markStep, .ref q_t_markTread, .long t_seed, .int t_stumbled, .ref q_t_order, .int t_lineMany, .int t_lineOrder, .int t_whoseMany, .int t_whoseFirst, .int t_restMany, .int t_restFirst, .ref q_t_gains, .ref q_t_value])), (q_t_isKept, .inl (cZ, 2, .inl t_isKept)), (q_t_kept, .inl (cI, 34, .inl t_kept)), (q_t_page, .inl (cI, 17, .inl t_page))] sz)) 0 0 (va_A [(q_t, .inr (8, [.int t_thrown, .ref q_t_text, .int t_textSize, .int t_place, .int t_depth, .int t_noon, .int t_later, .int t_walkers, .ref q_t_beat, .ref q_t_kind, .ref q_t_readSnow, .int t_readWalkers, .ref q_t_readWalker, .ref q_t_page, .ref q_t_trial, .ref q_t_book, .int t_acts, .ref q_t_kept, .ref q_t_isKept, .int t_marks, .ref q_t_markStep, .ref q_t_markTread, .long t_seed, .int t_stumbled, .ref q_t_order, .int t_lineMany, .int t_lineOrder, .int t_whoseMany, .int t_whoseFirst, .int t_restMany, .int t_restFirst, .ref q_t_gains, .ref q_t_value])), (q_t_isKept, .inl (cZ, 2, .inl t_isKept)), (q_t_kept, .inl (cI, 34, .inl t_kept)), (q_t_page, .inl (cI, 17, .inl t_page))] sz) := by
  refine MetI (cc := cX8_again) (maxL := 3) (by decide) rfl (Nat.le_of_ble_eq_true rfl) (fun _ h => h) ?_
  intro p e s m args below meth c A Q ls hx CF hK hA hD hP hS hl hB hAe hsz hret
  have hb := CF.2.1
  have hml := CF.2.2.1
  have hown := CF.2.2.2.1
  have hts := CF.2.2.2.2
  have hD0 := hD
  replace hl : lv_has ls 3 [(0, .ref q_t), (1, .int x1)] := hl
  have hinX8 : ∀ w ∈ wsX80, w ∈ wsX8_again := fun _ h => List.mem_cons_of_mem _ (List.mem_append_right _ h)
  have w_0 := hts (.fieldLink RX8 99 "PassInStepModel" "acts" "I") (by decide +kernel)
  have w_1 := hts (.fieldLink RX8 32 "PassInStepModel" "page" "[I") (by decide +kernel)
  have w_2 := hts (.fieldLink RX8 41 "PassInStepModel" "kept" "[I") (by decide +kernel)
  have w_3 := hts (.fieldLink RX8 63 "PassInStepModel" "thrown" "I") (by decide +kernel)
  have w_4 := hts (.fieldLink RX8 44 "PassInStepModel" "isKept" "[Z") (by decide +kernel)
  have h_31 : ∀ (x1 : Int32) (t_thrown : Int32) (t_acts : Int32) (fu31 : Nat) (x2 : Int32) (t_page : Nat → Int32) (H : Heap) (locs : List Loc) (ls : Array Slot), va_P (dC, dI) vwCl [(q_t, .inr (8, [.int t_thrown, .ref q_t_text, .int t_textSize, .int t_place, .int t_depth, .int t_noon, .int t_later, .int t_walkers, .ref q_t_beat, .ref q_t_kind, .ref q_t_readSnow, .int t_readWalkers, .ref q_t_readWalker, .ref q_t_page, .ref q_t_trial, .ref q_t_book, .int t_acts, .ref q_t_kept, .ref q_t_isKept, .int t_marks, .ref q_t_markStep, .ref q_t_markTread, .long t_seed, .int t_stumbled, .ref q_t_order, .int t_lineMany, .int t_lineOrder, .int t_whoseMany, .int t_whoseFirst, .int t_restMany, .int t_restFirst, .ref q_t_gains, .ref q_t_value])), (q_t_isKept, .inl (cZ, 2, .inl t_isKept)), (q_t_kept, .inl (cI, 34, .inl t_kept)), (q_t_page, .inl (cI, 17, .inl t_page))] H → va_S A s.heap H locs → lv_has ls 3 [(0, .ref q_t), (1, .int x1), (2, .int x2)] → L_X8_again_31 x1 t_thrown t_acts t_kept fu31 x2 t_page = some (r_, o_t_thrown, o_t_acts, o_t_page) → W p l e rm_X8_again s m args below meth c H locs 0 0 Q (F0 m 31 ls []) := by
    intro x1 t_thrown t_acts fu31
    induction fu31 with
    | zero =>
      intro x2 t_page H locs ls hP hS hl hf
      rw [L_X8_again_31] at hf
      cases hf
    | succ fu31 ih31 =>
      intro x2 t_page H locs ls hP hS hl hf
      have hD : va_D A [(q_t, .inr (8, [.int t_thrown, .ref q_t_text, .int t_textSize, .int t_place, .int t_depth, .int t_noon, .int t_later, .int t_walkers, .ref q_t_beat, .ref q_t_kind, .ref q_t_readSnow, .int t_readWalkers, .ref q_t_readWalker, .ref q_t_page, .ref q_t_trial, .ref q_t_book, .int t_acts, .ref q_t_kept, .ref q_t_isKept, .int t_marks, .ref q_t_markStep, .ref q_t_markTread, .long t_seed, .int t_stumbled, .ref q_t_order, .int t_lineMany, .int t_lineOrder, .int t_whoseMany, .int t_whoseFirst, .int t_restMany, .int t_restFirst, .ref q_t_gains, .ref q_t_value])), (q_t_isKept, .inl (cZ, 2, .inl t_isKept)), (q_t_kept, .inl (cI, 34, .inl t_kept)), (q_t_page, .inl (cI, 17, .inl t_page))] := wd hD0 rfl
      rw [L_X8_again_31] at hf
      refine lv_iload_n hx hb dX8_again_31 rfl (lv_at hl 2 rfl) ?_
      refine lv_bipush (v := 17) hx hb dX8_again_32 (by decide) ?_
      refine lv_icmp_ge (tgt := 60) hx hb dX8_again_34 (by decide) (fun hc => ?_) (fun hc => ?_)
      · replace hf := ip hc hf
        refine lv_aload_n hx hb dX8_again_60 rfl (lv_at hl 0 rfl) ?_
        refine lv_iconst (v := 0) hx hb dX8_again_61 (by decide) ?_
        refine va_put (D := (dC, dI)) (ci := 8) (v := .int 0) (ty := .int) (C := RX8) (T := TX8) (N := 33) hx hb hts hinX8 tyX8 tyX8_ok nmX8 hown hK.1 hP hD hS 0 rfl rfl 16 (by decide) w_0 (fun _ h9 => h9) rfl (by decide +kernel) rfl rfl (Nat.le_of_ble_eq_true rfl) dX8_again_62 (fun H locs hP hD hS => ?_)
        replace hP : va_P (dC, dI) vwCl [(q_t, .inr (8, [.int t_thrown, .ref q_t_text, .int t_textSize, .int t_place, .int t_depth, .int t_noon, .int t_later, .int t_walkers, .ref q_t_beat, .ref q_t_kind, .ref q_t_readSnow, .int t_readWalkers, .ref q_t_readWalker, .ref q_t_page, .ref q_t_trial, .ref q_t_book, .int 0, .ref q_t_kept, .ref q_t_isKept, .int t_marks, .ref q_t_markStep, .ref q_t_markTread, .long t_seed, .int t_stumbled, .ref q_t_order, .int t_lineMany, .int t_lineOrder, .int t_whoseMany, .int t_whoseFirst, .int t_restMany, .int t_restFirst, .ref q_t_gains, .ref q_t_value])), (q_t_isKept, .inl (cZ, 2, .inl t_isKept)), (q_t_kept, .inl (cI, 34, .inl t_kept)), (q_t_page, .inl (cI, 17, .inl t_page))] H := hP
        replace hD : va_D A [(q_t, .inr (8, [.int t_thrown, .ref q_t_text, .int t_textSize, .int t_place, .int t_depth, .int t_noon, .int t_later, .int t_walkers, .ref q_t_beat, .ref q_t_kind, .ref q_t_readSnow, .int t_readWalkers, .ref q_t_readWalker, .ref q_t_page, .ref q_t_trial, .ref q_t_book, .int 0, .ref q_t_kept, .ref q_t_isKept, .int t_marks, .ref q_t_markStep, .ref q_t_markTread, .long t_seed, .int t_stumbled, .ref q_t_order, .int t_lineMany, .int t_lineOrder, .int t_whoseMany, .int t_whoseFirst, .int t_restMany, .int t_restFirst, .ref q_t_gains, .ref q_t_value])), (q_t_isKept, .inl (cZ, 2, .inl t_isKept)), (q_t_kept, .inl (cI, 34, .inl t_kept)), (q_t_page, .inl (cI, 17, .inl t_page))] := hD
        refine lv_aload_n hx hb dX8_again_65 rfl (lv_at hl 0 rfl) ?_
        refine va_get (D := (dC, dI)) (ci := 8) (v := .ref q_t_page) (C := RX8) (T := TX8) (N := 33) hx hb hts hinX8 hown hK.1 hP 0 rfl rfl 13 (by decide) w_1 (fun _ h9 => h9) rfl dX8_again_66 ?_
        refine lv_bipush (v := 16) hx hb dX8_again_69 (by decide) ?_
        refine kald hx hb hK.1 hP 3 0 rfl rfl dX8_again_71 hf (fun v1 hf => ?_)
        obtain ⟨e0, hf⟩ := ij2 hf
        obtain ⟨e1, hf⟩ := ijc hf
        obtain ⟨e2, hf⟩ := ijc hf
        have e3 := hf
        refine W.eq (congrArg (fun z => F0 m 72 ls [.int z]) e0) ?_
        exact hret _ _ _ _ (by rw [← e1, ← e2, ← e3]; exact hP) hS dX8_again_72
      · replace hf := iq hc hf
        refine lv_aload_n hx hb dX8_again_37 rfl (lv_at hl 0 rfl) ?_
        refine va_get (D := (dC, dI)) (ci := 8) (v := .ref q_t_page) (C := RX8) (T := TX8) (N := 33) hx hb hts hinX8 hown hK.1 hP 0 rfl rfl 13 (by decide) w_1 (fun _ h9 => h9) rfl dX8_again_38 ?_
        refine lv_iload_n hx hb dX8_again_41 rfl (lv_at hl 2 rfl) ?_
        refine lv_aload_n hx hb dX8_again_42 rfl (lv_at hl 0 rfl) ?_
        refine va_get (D := (dC, dI)) (ci := 8) (v := .ref q_t_kept) (C := RX8) (T := TX8) (N := 33) hx hb hts hinX8 hown hK.1 hP 0 rfl rfl 17 (by decide) w_2 (fun _ h9 => h9) rfl dX8_again_43 ?_
        refine lv_bipush (v := 17) hx hb dX8_again_46 (by decide) ?_
        refine lv_iload_n hx hb dX8_again_48 rfl (lv_at hl 1 rfl) ?_
        refine lv_imul hx hb dX8_again_49 ?_
        refine lv_iload_n hx hb dX8_again_50 rfl (lv_at hl 2 rfl) ?_
        refine lv_iadd hx hb dX8_again_51 ?_
        refine kald hx hb hK.1 hP 2 0 rfl rfl dX8_again_52 hf (fun v2 hf => ?_)
        refine kast hx hb hK.1 hP hD hS 3 0 rfl rfl dX8_again_53 hf (fun w3 H locs hP hD hS hf => ?_)
        replace hP : va_P (dC, dI) vwCl [(q_t, .inr (8, [.int t_thrown, .ref q_t_text, .int t_textSize, .int t_place, .int t_depth, .int t_noon, .int t_later, .int t_walkers, .ref q_t_beat, .ref q_t_kind, .ref q_t_readSnow, .int t_readWalkers, .ref q_t_readWalker, .ref q_t_page, .ref q_t_trial, .ref q_t_book, .int t_acts, .ref q_t_kept, .ref q_t_isKept, .int t_marks, .ref q_t_markStep, .ref q_t_markTread, .long t_seed, .int t_stumbled, .ref q_t_order, .int t_lineMany, .int t_lineOrder, .int t_whoseMany, .int t_whoseFirst, .int t_restMany, .int t_restFirst, .ref q_t_gains, .ref q_t_value])), (q_t_isKept, .inl (cZ, 2, .inl t_isKept)), (q_t_kept, .inl (cI, 34, .inl t_kept)), (q_t_page, .inl (cI, 17, .inl w3))] H := hP
        replace hD : va_D A [(q_t, .inr (8, [.int t_thrown, .ref q_t_text, .int t_textSize, .int t_place, .int t_depth, .int t_noon, .int t_later, .int t_walkers, .ref q_t_beat, .ref q_t_kind, .ref q_t_readSnow, .int t_readWalkers, .ref q_t_readWalker, .ref q_t_page, .ref q_t_trial, .ref q_t_book, .int t_acts, .ref q_t_kept, .ref q_t_isKept, .int t_marks, .ref q_t_markStep, .ref q_t_markTread, .long t_seed, .int t_stumbled, .ref q_t_order, .int t_lineMany, .int t_lineOrder, .int t_whoseMany, .int t_whoseFirst, .int t_restMany, .int t_restFirst, .ref q_t_gains, .ref q_t_value])), (q_t_isKept, .inl (cZ, 2, .inl t_isKept)), (q_t_kept, .inl (cI, 34, .inl t_kept)), (q_t_page, .inl (cI, 17, .inl w3))] := hD
        refine lv_iinc (v := (x2 + 1)) (lv' := [(2, .int (x2 + 1)), (0, .ref q_t), (1, .int x1)]) hx hb dX8_again_54 hl (k := 2) rfl rfl (by decide) rfl (fun ls hl => ?_)
        refine lv_goto (tgt := 31) hx hb dX8_again_57 (by decide) ?_
        exact ih31 (x2 + 1) w3 _ _ _ hP hS (lv_sub hl [1, 2, 0] rfl) hf
  unfold f_X8_again at hf
  refine lv_aload_n hx hb dX8_again_0 rfl (lv_at hl 0 rfl) ?_
  refine lv_iconst (v := 0) hx hb dX8_again_1 (by decide) ?_
  refine va_put (D := (dC, dI)) (ci := 8) (v := .int 0) (ty := .int) (C := RX8) (T := TX8) (N := 33) hx hb hts hinX8 tyX8 tyX8_ok nmX8 hown hK.1 hP hD hS 0 rfl rfl 0 (by decide) w_3 (fun _ h9 => h9) rfl (by decide +kernel) rfl rfl (Nat.le_of_ble_eq_true rfl) dX8_again_2 (fun H locs hP hD hS => ?_)
  replace hP : va_P (dC, dI) vwCl [(q_t, .inr (8, [.int 0, .ref q_t_text, .int t_textSize, .int t_place, .int t_depth, .int t_noon, .int t_later, .int t_walkers, .ref q_t_beat, .ref q_t_kind, .ref q_t_readSnow, .int t_readWalkers, .ref q_t_readWalker, .ref q_t_page, .ref q_t_trial, .ref q_t_book, .int t_acts, .ref q_t_kept, .ref q_t_isKept, .int t_marks, .ref q_t_markStep, .ref q_t_markTread, .long t_seed, .int t_stumbled, .ref q_t_order, .int t_lineMany, .int t_lineOrder, .int t_whoseMany, .int t_whoseFirst, .int t_restMany, .int t_restFirst, .ref q_t_gains, .ref q_t_value])), (q_t_isKept, .inl (cZ, 2, .inl t_isKept)), (q_t_kept, .inl (cI, 34, .inl t_kept)), (q_t_page, .inl (cI, 17, .inl t_page))] H := hP
  replace hD : va_D A [(q_t, .inr (8, [.int 0, .ref q_t_text, .int t_textSize, .int t_place, .int t_depth, .int t_noon, .int t_later, .int t_walkers, .ref q_t_beat, .ref q_t_kind, .ref q_t_readSnow, .int t_readWalkers, .ref q_t_readWalker, .ref q_t_page, .ref q_t_trial, .ref q_t_book, .int t_acts, .ref q_t_kept, .ref q_t_isKept, .int t_marks, .ref q_t_markStep, .ref q_t_markTread, .long t_seed, .int t_stumbled, .ref q_t_order, .int t_lineMany, .int t_lineOrder, .int t_whoseMany, .int t_whoseFirst, .int t_restMany, .int t_restFirst, .ref q_t_gains, .ref q_t_value])), (q_t_isKept, .inl (cZ, 2, .inl t_isKept)), (q_t_kept, .inl (cI, 34, .inl t_kept)), (q_t_page, .inl (cI, 17, .inl t_page))] := hD
  refine lv_iload_n hx hb dX8_again_5 rfl (lv_at hl 1 rfl) ?_
  refine lv_i2l hx hb dX8_again_6 rfl ?_
  refine lv_lconst (v := 0) hx hb dX8_again_7 (by decide) ?_
  refine lv_lconst (v := 1) hx hb dX8_again_8 (by decide) ?_
  obtain ⟨r4, e6, hf⟩ := bd_ok hf
  refine kSi (As := [.long ((x1).toInt64), .long (0 : Int64), .long (1 : Int64)]) CF (va_cwS 3 hts gX8_again_X8_in rfl rfl rfl (by decide +kernel) ⟨Nat.le_of_ble_eq_true rfl, Nat.le_of_ble_eq_true rfl⟩) PU_blind hP hD hS hA [] (fun h1 h2 h3 => PU_pre hK h1 A h2 h3) (c_X8_in l dC dI cI cZ _ ((x1).toInt64) (0 : Int64) (1 : Int64) r4 e6) rfl rfl rfl rfl hl.1 rfl (Nat.le_of_ble_eq_true rfl) dX8_again_9 ⟨Nat.zero_le _, Nat.zero_le _⟩ (fun H locs hP hS => ?_)
  replace hP : va_P (dC, dI) vwCl [(q_t, .inr (8, [.int 0, .ref q_t_text, .int t_textSize, .int t_place, .int t_depth, .int t_noon, .int t_later, .int t_walkers, .ref q_t_beat, .ref q_t_kind, .ref q_t_readSnow, .int t_readWalkers, .ref q_t_readWalker, .ref q_t_page, .ref q_t_trial, .ref q_t_book, .int t_acts, .ref q_t_kept, .ref q_t_isKept, .int t_marks, .ref q_t_markStep, .ref q_t_markTread, .long t_seed, .int t_stumbled, .ref q_t_order, .int t_lineMany, .int t_lineOrder, .int t_whoseMany, .int t_whoseFirst, .int t_restMany, .int t_restFirst, .ref q_t_gains, .ref q_t_value])), (q_t_isKept, .inl (cZ, 2, .inl t_isKept)), (q_t_kept, .inl (cI, 34, .inl t_kept)), (q_t_page, .inl (cI, 17, .inl t_page))] H := hP
  refine lv_if_ne (tgt := 17) hx hb dX8_again_12 (by decide) (fun hc => ?_) (fun hc => ?_)
  · replace hf := iq hc hf
    refine lv_aload_n hx hb dX8_again_17 rfl (lv_at hl 0 rfl) ?_
    refine va_get (D := (dC, dI)) (ci := 8) (v := .ref q_t_isKept) (C := RX8) (T := TX8) (N := 33) hx hb hts hinX8 hown hK.1 hP 0 rfl rfl 18 (by decide) w_4 (fun _ h9 => h9) rfl dX8_again_18 ?_
    refine lv_iload_n hx hb dX8_again_21 rfl (lv_at hl 1 rfl) ?_
    refine kzald hx hb hK.1 hP 1 1 rfl rfl dX8_again_22 hf (fun v7 hf => ?_)
    refine lv_if_ne (tgt := 29) hx hb dX8_again_23 (by decide) (fun hc => ?_) (fun hc => ?_)
    · replace hf := iq hc hf
      refine lv_iconst (v := 0) hx hb dX8_again_29 (by decide) ?_
      refine lv_istore_n (lv' := [(2, .int 0), (0, .ref q_t), (1, .int x1)]) hx hb dX8_again_30 rfl hl (by decide) rfl (fun ls hl => ?_)
      exact h_31 x1 0 t_acts fuelC 0 t_page _ _ _ hP hS (lv_sub hl [1, 2, 0] rfl) hf
    · replace hf := ip hc hf
      refine lv_bipush (v := (-3)) hx hb dX8_again_26 (by decide) ?_
      obtain ⟨e0, hf⟩ := ij2 hf
      obtain ⟨e1, hf⟩ := ijc hf
      obtain ⟨e2, hf⟩ := ijc hf
      have e3 := hf
      refine W.eq (congrArg (fun z => F0 m 28 ls [.int z]) e0) ?_
      exact hret _ _ _ _ (by rw [← e1, ← e2, ← e3]; exact hP) hS dX8_again_28
  · replace hf := ip hc hf
    refine lv_iconst (v := (-1)) hx hb dX8_again_15 (by decide) ?_
    obtain ⟨e0, hf⟩ := ij2 hf
    obtain ⟨e1, hf⟩ := ijc hf
    obtain ⟨e2, hf⟩ := ijc hf
    have e3 := hf
    refine W.eq (congrArg (fun z => F0 m 16 ls [.int z]) e0) ?_
    exact hret _ _ _ _ (by rw [← e1, ← e2, ← e3]; exact hP) hS dX8_again_16
