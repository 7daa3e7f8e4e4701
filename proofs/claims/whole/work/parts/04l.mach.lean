-- X8_readOneWalker X8_readParty X8_fault X8_party X8_treadBy X8_alone
abbrev rm_X8_readOneWalker : Room := { frames := 2, cells := 0, slots := 0, locals := 47 }
set_option maxHeartbeats 4000000 in
set_option maxRecDepth 100000 in
theorem c_X8_readOneWalker (l : Launch) (dC : Nat → ClassId) (dI : Nat → Nat → Nat) (cI cZ : ClassId) (q_t q_t_text q_t_beat q_t_kind q_t_readSnow q_t_readWalker q_t_page q_t_trial q_t_book q_t_kept q_t_isKept q_t_markStep q_t_markTread q_t_order q_t_gains q_t_value : Nat) (sz : Nat) (t_thrown : Int32) (t_textSize : Int32) (t_place : Int32) (t_depth : Int32) (t_noon : Int32) (t_later : Int32) (t_walkers : Int32) (t_readWalkers : Int32) (t_acts : Int32) (t_marks : Int32) (t_seed : Int64) (t_stumbled : Int32) (t_lineMany : Int32) (t_lineOrder : Int32) (t_whoseMany : Int32) (t_whoseFirst : Int32) (t_restMany : Int32) (t_restFirst : Int32) (t_text : Nat → Int32) (t_readWalker : Nat → Int32) (r_ : Int32) (o_t_place : Int32) (o_t_readWalkers : Int32) (o_t_readWalker : Nat → Int32) (hf : f_X8_readOneWalker t_textSize t_place t_readWalkers t_text t_readWalker = some (r_, o_t_place, o_t_readWalkers, o_t_readWalker)) : Met l yX8_readOneWalker wsX8_readOneWalker rm_X8_readOneWalker (va_Pc [.ref q_t] (PU (dC, dI) cI cZ [(q_t, .inr (8, [.int t_thrown, .ref q_t_text, .int t_textSize, .int t_place, .int t_depth, .int t_noon, .int t_later, .int t_walkers, .ref q_t_beat, .ref q_t_kind, .ref q_t_readSnow, .int t_readWalkers, .ref q_t_readWalker, .ref q_t_page, .ref q_t_trial, .ref q_t_book, .int t_acts, .ref q_t_kept, .ref q_t_isKept, .int t_marks, .ref q_t_markStep, .ref q_t_markTread, .long t_seed, .int t_stumbled, .ref q_t_order, .int t_lineMany, .int t_lineOrder, .int t_whoseMany, .int t_whoseFirst, .int t_restMany, .int t_restFirst, .ref q_t_gains, .ref q_t_value])), (q_t_text, .inl (cI, 48, .inl t_text)), (q_t_readWalker, .inl (cI, 15, .inl t_readWalker))] sz)) (va_Qi (fun (r : Int32) (_ : Unit) => r = r_) (fun _ t => va_P (dC, dI) vwCl [(q_t, .inr (8, [.int t_thrown, .ref q_t_text, .int t_textSize, .int o_t_place, .int t_depth, .int t_noon, .int t_later, .int t_walkers, .ref q_t_beat, .ref q_t_kind, .ref q_t_readSnow, .int o_t_readWalkers, .ref q_t_readWalker, .ref q_t_page, .ref q_t_trial, .ref q_t_book, .int t_acts, .ref q_t_kept, .ref q_t_isKept, .int t_marks, .ref q_t_markStep, .ref q_t_markTread, .long t_seed, .int t_stumbled, .ref q_t_order, .int t_lineMany, .int t_lineOrder, .int t_whoseMany, .int t_whoseFirst, .int t_restMany, .int t_restFirst, .ref q_t_gains, .ref q_t_value])), (q_t_text, .inl (cI, 48, .inl t_text)), (q_t_readWalker, .inl (cI, 15, .inl o_t_readWalker))] t.heap) (va_A [(q_t, .inr (8, [.int t_thrown, .ref q_t_text, .int t_textSize, .int t_place, .int t_depth, .int t_noon, .int t_later, .int t_walkers, .ref q_t_beat, .ref q_t_kind, .ref q_t_readSnow, .int t_readWalkers, .ref q_t_readWalker, .ref q_t_page, .ref q_t_trial, .ref q_t_book, .int t_acts, .ref q_t_kept, .ref q_t_isKept, .int t_marks, .ref q_t_markStep, .ref q_t_markTread, .long t_seed, .int t_stumbled, .ref q_t_order, .int t_lineMany, .int t_lineOrder, .int t_whoseMany, .int t_whoseFirst, .int t_restMany, .int t_restFirst, .ref q_t_gains, .ref q_t_value])), (q_t_text, .inl (cI, 48, .inl t_text)), (q_t_readWalker, .inl (cI, 15, .inl t_readWalker))] sz)) 0 0 (va_A [(q_t, .inr (8, [.int t_thrown, .ref q_t_text, .int t_textSize, .int t_place, .int t_depth, .int t_noon, .int t_later, .int t_walkers, .ref q_t_beat, .ref q_t_kind, .ref q_t_readSnow, .int t_readWalkers, .ref q_t_readWalker, .ref q_t_page, .ref q_t_trial, .ref q_t_book, .int t_acts, .ref q_t_kept, .ref q_t_isKept, .int t_marks, .ref q_t_markStep, .ref q_t_markTread, .long t_seed, .int t_stumbled, .ref q_t_order, .int t_lineMany, .int t_lineOrder, .int t_whoseMany, .int t_whoseFirst, .int t_restMany, .int t_restFirst, .ref q_t_gains, .ref q_t_value])), (q_t_text, .inl (cI, 48, .inl t_text)), (q_t_readWalker, .inl (cI, 15, .inl t_readWalker))] sz) := by
  refine MetZ (cc := cX8_readOneWalker) (maxL := 4) (by decide) rfl (Nat.le_of_ble_eq_true rfl) (fun _ h => h) ?_
  intro p e s m args below meth c A Q ls hx CF hK hA hD hP hS hl hB hAe hsz hret
  have hb := CF.2.1
  have hml := CF.2.2.1
  have hown := CF.2.2.2.1
  have hts := CF.2.2.2.2
  have hD0 := hD
  replace hl : lv_has ls 4 [(0, .ref q_t)] := hl
  have hinX8 : ∀ w ∈ wsX80, w ∈ wsX8_readOneWalker := fun _ h => List.mem_cons_of_mem _ (List.mem_append_right _ h)
  have w_0 := hts (.fieldLink RX8 29 "PassInStepModel" "readWalker" "[I") (by decide +kernel)
  have w_1 := hts (.fieldLink RX8 81 "PassInStepModel" "readWalkers" "I") (by decide +kernel)
  have w_2 := hts (.fieldLink RX8 7 "PassInStepModel" "text" "[I") (by decide +kernel)
  have w_3 := hts (.fieldLink RX8 78 "PassInStepModel" "place" "I") (by decide +kernel)
  have h_77 : ∀ (x1 : Int32) (x2 : Int32) (s0 : Int32) (t_place : Int32) (t_readWalkers : Int32) (t_readWalker : Nat → Int32) (H : Heap) (locs : List Loc) (ls : Array Slot), va_P (dC, dI) vwCl [(q_t, .inr (8, [.int t_thrown, .ref q_t_text, .int t_textSize, .int t_place, .int t_depth, .int t_noon, .int t_later, .int t_walkers, .ref q_t_beat, .ref q_t_kind, .ref q_t_readSnow, .int t_readWalkers, .ref q_t_readWalker, .ref q_t_page, .ref q_t_trial, .ref q_t_book, .int t_acts, .ref q_t_kept, .ref q_t_isKept, .int t_marks, .ref q_t_markStep, .ref q_t_markTread, .long t_seed, .int t_stumbled, .ref q_t_order, .int t_lineMany, .int t_lineOrder, .int t_whoseMany, .int t_whoseFirst, .int t_restMany, .int t_restFirst, .ref q_t_gains, .ref q_t_value])), (q_t_text, .inl (cI, 48, .inl t_text)), (q_t_readWalker, .inl (cI, 15, .inl t_readWalker))] H → va_S A s.heap H locs → lv_has ls 4 [(0, .ref q_t), (1, .int x1), (2, .int x2)] → J_X8_readOneWalker_77 x1 x2 s0 t_place t_readWalkers t_readWalker = some (r_, o_t_place, o_t_readWalkers, o_t_readWalker) → W p l e rm_X8_readOneWalker s m args below meth c H locs 0 0 Q (F0 m 77 ls [.int s0]) := by
    intro x1 x2 s0 t_place t_readWalkers t_readWalker H locs ls hP hS hl hf
    have hD : va_D A [(q_t, .inr (8, [.int t_thrown, .ref q_t_text, .int t_textSize, .int t_place, .int t_depth, .int t_noon, .int t_later, .int t_walkers, .ref q_t_beat, .ref q_t_kind, .ref q_t_readSnow, .int t_readWalkers, .ref q_t_readWalker, .ref q_t_page, .ref q_t_trial, .ref q_t_book, .int t_acts, .ref q_t_kept, .ref q_t_isKept, .int t_marks, .ref q_t_markStep, .ref q_t_markTread, .long t_seed, .int t_stumbled, .ref q_t_order, .int t_lineMany, .int t_lineOrder, .int t_whoseMany, .int t_whoseFirst, .int t_restMany, .int t_restFirst, .ref q_t_gains, .ref q_t_value])), (q_t_text, .inl (cI, 48, .inl t_text)), (q_t_readWalker, .inl (cI, 15, .inl t_readWalker))] := wd hD0 rfl
    rw [J_X8_readOneWalker_77] at hf
    refine lv_istore_n (lv' := [(3, .int s0), (0, .ref q_t), (1, .int x1), (2, .int x2)]) hx hb dX8_readOneWalker_77 rfl hl (by decide) rfl (fun ls hl => ?_)
    refine lv_iload_n hx hb dX8_readOneWalker_78 rfl (lv_at hl 0 rfl) ?_
    refine lv_bipush (v := (-9)) hx hb dX8_readOneWalker_79 (by decide) ?_
    refine lv_icmp_ne (tgt := 86) hx hb dX8_readOneWalker_81 (by decide) (fun hc => ?_) (fun hc => ?_)
    · replace hf := iq hc hf
      refine lv_aload_n hx hb dX8_readOneWalker_86 rfl (lv_at hl 1 rfl) ?_
      refine va_get (D := (dC, dI)) (ci := 8) (v := .ref q_t_readWalker) (C := RX8) (T := TX8) (N := 33) hx hb hts hinX8 hown hK.1 hP 0 rfl rfl 12 (by decide) w_0 (fun _ h9 => h9) rfl dX8_readOneWalker_87 ?_
      refine lv_iconst (v := 3) hx hb dX8_readOneWalker_90 (by decide) ?_
      refine lv_aload_n hx hb dX8_readOneWalker_91 rfl (lv_at hl 1 rfl) ?_
      refine va_get (D := (dC, dI)) (ci := 8) (v := .int t_readWalkers) (C := RX8) (T := TX8) (N := 33) hx hb hts hinX8 hown hK.1 hP 0 rfl rfl 11 (by decide) w_1 (fun _ h9 => h9) rfl dX8_readOneWalker_92 ?_
      refine lv_imul hx hb dX8_readOneWalker_95 ?_
      refine lv_iload_n hx hb dX8_readOneWalker_96 rfl (lv_at hl 2 rfl) ?_
      refine kast hx hb hK.1 hP hD hS 2 0 rfl rfl dX8_readOneWalker_97 hf (fun w1 H locs hP hD hS hf => ?_)
      replace hP : va_P (dC, dI) vwCl [(q_t, .inr (8, [.int t_thrown, .ref q_t_text, .int t_textSize, .int t_place, .int t_depth, .int t_noon, .int t_later, .int t_walkers, .ref q_t_beat, .ref q_t_kind, .ref q_t_readSnow, .int t_readWalkers, .ref q_t_readWalker, .ref q_t_page, .ref q_t_trial, .ref q_t_book, .int t_acts, .ref q_t_kept, .ref q_t_isKept, .int t_marks, .ref q_t_markStep, .ref q_t_markTread, .long t_seed, .int t_stumbled, .ref q_t_order, .int t_lineMany, .int t_lineOrder, .int t_whoseMany, .int t_whoseFirst, .int t_restMany, .int t_restFirst, .ref q_t_gains, .ref q_t_value])), (q_t_text, .inl (cI, 48, .inl t_text)), (q_t_readWalker, .inl (cI, 15, .inl w1))] H := hP
      replace hD : va_D A [(q_t, .inr (8, [.int t_thrown, .ref q_t_text, .int t_textSize, .int t_place, .int t_depth, .int t_noon, .int t_later, .int t_walkers, .ref q_t_beat, .ref q_t_kind, .ref q_t_readSnow, .int t_readWalkers, .ref q_t_readWalker, .ref q_t_page, .ref q_t_trial, .ref q_t_book, .int t_acts, .ref q_t_kept, .ref q_t_isKept, .int t_marks, .ref q_t_markStep, .ref q_t_markTread, .long t_seed, .int t_stumbled, .ref q_t_order, .int t_lineMany, .int t_lineOrder, .int t_whoseMany, .int t_whoseFirst, .int t_restMany, .int t_restFirst, .ref q_t_gains, .ref q_t_value])), (q_t_text, .inl (cI, 48, .inl t_text)), (q_t_readWalker, .inl (cI, 15, .inl w1))] := hD
      refine lv_aload_n hx hb dX8_readOneWalker_98 rfl (lv_at hl 1 rfl) ?_
      refine va_get (D := (dC, dI)) (ci := 8) (v := .ref q_t_readWalker) (C := RX8) (T := TX8) (N := 33) hx hb hts hinX8 hown hK.1 hP 0 rfl rfl 12 (by decide) w_0 (fun _ h9 => h9) rfl dX8_readOneWalker_99 ?_
      refine lv_iconst (v := 3) hx hb dX8_readOneWalker_102 (by decide) ?_
      refine lv_aload_n hx hb dX8_readOneWalker_103 rfl (lv_at hl 1 rfl) ?_
      refine va_get (D := (dC, dI)) (ci := 8) (v := .int t_readWalkers) (C := RX8) (T := TX8) (N := 33) hx hb hts hinX8 hown hK.1 hP 0 rfl rfl 11 (by decide) w_1 (fun _ h9 => h9) rfl dX8_readOneWalker_104 ?_
      refine lv_imul hx hb dX8_readOneWalker_107 ?_
      refine lv_iconst (v := 1) hx hb dX8_readOneWalker_108 (by decide) ?_
      refine lv_iadd hx hb dX8_readOneWalker_109 ?_
      refine lv_iload_n hx hb dX8_readOneWalker_110 rfl (lv_at hl 3 rfl) ?_
      refine kast hx hb hK.1 hP hD hS 2 0 rfl rfl dX8_readOneWalker_111 hf (fun w2 H locs hP hD hS hf => ?_)
      replace hP : va_P (dC, dI) vwCl [(q_t, .inr (8, [.int t_thrown, .ref q_t_text, .int t_textSize, .int t_place, .int t_depth, .int t_noon, .int t_later, .int t_walkers, .ref q_t_beat, .ref q_t_kind, .ref q_t_readSnow, .int t_readWalkers, .ref q_t_readWalker, .ref q_t_page, .ref q_t_trial, .ref q_t_book, .int t_acts, .ref q_t_kept, .ref q_t_isKept, .int t_marks, .ref q_t_markStep, .ref q_t_markTread, .long t_seed, .int t_stumbled, .ref q_t_order, .int t_lineMany, .int t_lineOrder, .int t_whoseMany, .int t_whoseFirst, .int t_restMany, .int t_restFirst, .ref q_t_gains, .ref q_t_value])), (q_t_text, .inl (cI, 48, .inl t_text)), (q_t_readWalker, .inl (cI, 15, .inl w2))] H := hP
      replace hD : va_D A [(q_t, .inr (8, [.int t_thrown, .ref q_t_text, .int t_textSize, .int t_place, .int t_depth, .int t_noon, .int t_later, .int t_walkers, .ref q_t_beat, .ref q_t_kind, .ref q_t_readSnow, .int t_readWalkers, .ref q_t_readWalker, .ref q_t_page, .ref q_t_trial, .ref q_t_book, .int t_acts, .ref q_t_kept, .ref q_t_isKept, .int t_marks, .ref q_t_markStep, .ref q_t_markTread, .long t_seed, .int t_stumbled, .ref q_t_order, .int t_lineMany, .int t_lineOrder, .int t_whoseMany, .int t_whoseFirst, .int t_restMany, .int t_restFirst, .ref q_t_gains, .ref q_t_value])), (q_t_text, .inl (cI, 48, .inl t_text)), (q_t_readWalker, .inl (cI, 15, .inl w2))] := hD
      refine lv_aload_n hx hb dX8_readOneWalker_112 rfl (lv_at hl 1 rfl) ?_
      refine va_get (D := (dC, dI)) (ci := 8) (v := .ref q_t_readWalker) (C := RX8) (T := TX8) (N := 33) hx hb hts hinX8 hown hK.1 hP 0 rfl rfl 12 (by decide) w_0 (fun _ h9 => h9) rfl dX8_readOneWalker_113 ?_
      refine lv_iconst (v := 3) hx hb dX8_readOneWalker_116 (by decide) ?_
      refine lv_aload_n hx hb dX8_readOneWalker_117 rfl (lv_at hl 1 rfl) ?_
      refine va_get (D := (dC, dI)) (ci := 8) (v := .int t_readWalkers) (C := RX8) (T := TX8) (N := 33) hx hb hts hinX8 hown hK.1 hP 0 rfl rfl 11 (by decide) w_1 (fun _ h9 => h9) rfl dX8_readOneWalker_118 ?_
      refine lv_imul hx hb dX8_readOneWalker_121 ?_
      refine lv_iconst (v := 2) hx hb dX8_readOneWalker_122 (by decide) ?_
      refine lv_iadd hx hb dX8_readOneWalker_123 ?_
      refine lv_iload_n hx hb dX8_readOneWalker_124 rfl (lv_at hl 0 rfl) ?_
      refine kast hx hb hK.1 hP hD hS 2 0 rfl rfl dX8_readOneWalker_125 hf (fun w3 H locs hP hD hS hf => ?_)
      replace hP : va_P (dC, dI) vwCl [(q_t, .inr (8, [.int t_thrown, .ref q_t_text, .int t_textSize, .int t_place, .int t_depth, .int t_noon, .int t_later, .int t_walkers, .ref q_t_beat, .ref q_t_kind, .ref q_t_readSnow, .int t_readWalkers, .ref q_t_readWalker, .ref q_t_page, .ref q_t_trial, .ref q_t_book, .int t_acts, .ref q_t_kept, .ref q_t_isKept, .int t_marks, .ref q_t_markStep, .ref q_t_markTread, .long t_seed, .int t_stumbled, .ref q_t_order, .int t_lineMany, .int t_lineOrder, .int t_whoseMany, .int t_whoseFirst, .int t_restMany, .int t_restFirst, .ref q_t_gains, .ref q_t_value])), (q_t_text, .inl (cI, 48, .inl t_text)), (q_t_readWalker, .inl (cI, 15, .inl w3))] H := hP
      replace hD : va_D A [(q_t, .inr (8, [.int t_thrown, .ref q_t_text, .int t_textSize, .int t_place, .int t_depth, .int t_noon, .int t_later, .int t_walkers, .ref q_t_beat, .ref q_t_kind, .ref q_t_readSnow, .int t_readWalkers, .ref q_t_readWalker, .ref q_t_page, .ref q_t_trial, .ref q_t_book, .int t_acts, .ref q_t_kept, .ref q_t_isKept, .int t_marks, .ref q_t_markStep, .ref q_t_markTread, .long t_seed, .int t_stumbled, .ref q_t_order, .int t_lineMany, .int t_lineOrder, .int t_whoseMany, .int t_whoseFirst, .int t_restMany, .int t_restFirst, .ref q_t_gains, .ref q_t_value])), (q_t_text, .inl (cI, 48, .inl t_text)), (q_t_readWalker, .inl (cI, 15, .inl w3))] := hD
      refine lv_aload_n hx hb dX8_readOneWalker_126 rfl (lv_at hl 1 rfl) ?_
      refine lv_dup hx hb dX8_readOneWalker_127 rfl ?_
      refine va_get (D := (dC, dI)) (ci := 8) (v := .int t_readWalkers) (C := RX8) (T := TX8) (N := 33) hx hb hts hinX8 hown hK.1 hP 0 rfl rfl 11 (by decide) w_1 (fun _ h9 => h9) rfl dX8_readOneWalker_128 ?_
      refine lv_iconst (v := 1) hx hb dX8_readOneWalker_131 (by decide) ?_
      refine lv_iadd hx hb dX8_readOneWalker_132 ?_
      refine va_put (D := (dC, dI)) (ci := 8) (v := .int (t_readWalkers + 1)) (ty := .int) (C := RX8) (T := TX8) (N := 33) hx hb hts hinX8 tyX8 tyX8_ok nmX8 hown hK.1 hP hD hS 0 rfl rfl 11 (by decide) w_1 (fun _ h9 => h9) rfl (by decide +kernel) rfl rfl (Nat.le_of_ble_eq_true rfl) dX8_readOneWalker_133 (fun H locs hP hD hS => ?_)
      replace hP : va_P (dC, dI) vwCl [(q_t, .inr (8, [.int t_thrown, .ref q_t_text, .int t_textSize, .int t_place, .int t_depth, .int t_noon, .int t_later, .int t_walkers, .ref q_t_beat, .ref q_t_kind, .ref q_t_readSnow, .int (t_readWalkers + 1), .ref q_t_readWalker, .ref q_t_page, .ref q_t_trial, .ref q_t_book, .int t_acts, .ref q_t_kept, .ref q_t_isKept, .int t_marks, .ref q_t_markStep, .ref q_t_markTread, .long t_seed, .int t_stumbled, .ref q_t_order, .int t_lineMany, .int t_lineOrder, .int t_whoseMany, .int t_whoseFirst, .int t_restMany, .int t_restFirst, .ref q_t_gains, .ref q_t_value])), (q_t_text, .inl (cI, 48, .inl t_text)), (q_t_readWalker, .inl (cI, 15, .inl w3))] H := hP
      replace hD : va_D A [(q_t, .inr (8, [.int t_thrown, .ref q_t_text, .int t_textSize, .int t_place, .int t_depth, .int t_noon, .int t_later, .int t_walkers, .ref q_t_beat, .ref q_t_kind, .ref q_t_readSnow, .int (t_readWalkers + 1), .ref q_t_readWalker, .ref q_t_page, .ref q_t_trial, .ref q_t_book, .int t_acts, .ref q_t_kept, .ref q_t_isKept, .int t_marks, .ref q_t_markStep, .ref q_t_markTread, .long t_seed, .int t_stumbled, .ref q_t_order, .int t_lineMany, .int t_lineOrder, .int t_whoseMany, .int t_whoseFirst, .int t_restMany, .int t_restFirst, .ref q_t_gains, .ref q_t_value])), (q_t_text, .inl (cI, 48, .inl t_text)), (q_t_readWalker, .inl (cI, 15, .inl w3))] := hD
      refine lv_iconst (v := 1) hx hb dX8_readOneWalker_136 (by decide) ?_
      obtain ⟨e0, hf⟩ := ij2 hf
      obtain ⟨e1, hf⟩ := ijc hf
      obtain ⟨e2, hf⟩ := ijc hf
      have e3 := hf
      refine W.eq (congrArg (fun z => F0 m 137 ls [.int z]) e0) ?_
      exact hret _ _ _ _ (by rw [← e1, ← e2, ← e3]; exact hP) hS (by rw [← e0]; rfl) dX8_readOneWalker_137
    · replace hf := ip hc hf
      refine lv_iconst (v := 0) hx hb dX8_readOneWalker_84 (by decide) ?_
      obtain ⟨e0, hf⟩ := ij2 hf
      obtain ⟨e1, hf⟩ := ijc hf
      obtain ⟨e2, hf⟩ := ijc hf
      have e3 := hf
      refine W.eq (congrArg (fun z => F0 m 85 ls [.int z]) e0) ?_
      exact hret _ _ _ _ (by rw [← e1, ← e2, ← e3]; exact hP) hS (by rw [← e0]; rfl) dX8_readOneWalker_85
  have h_59 : ∀ (x1 : Int32) (s0 : Int32) (t_place : Int32) (t_readWalkers : Int32) (t_readWalker : Nat → Int32) (H : Heap) (locs : List Loc) (ls : Array Slot), va_P (dC, dI) vwCl [(q_t, .inr (8, [.int t_thrown, .ref q_t_text, .int t_textSize, .int t_place, .int t_depth, .int t_noon, .int t_later, .int t_walkers, .ref q_t_beat, .ref q_t_kind, .ref q_t_readSnow, .int t_readWalkers, .ref q_t_readWalker, .ref q_t_page, .ref q_t_trial, .ref q_t_book, .int t_acts, .ref q_t_kept, .ref q_t_isKept, .int t_marks, .ref q_t_markStep, .ref q_t_markTread, .long t_seed, .int t_stumbled, .ref q_t_order, .int t_lineMany, .int t_lineOrder, .int t_whoseMany, .int t_whoseFirst, .int t_restMany, .int t_restFirst, .ref q_t_gains, .ref q_t_value])), (q_t_text, .inl (cI, 48, .inl t_text)), (q_t_readWalker, .inl (cI, 15, .inl t_readWalker))] H → va_S A s.heap H locs → lv_has ls 4 [(0, .ref q_t), (1, .int x1)] → J_X8_readOneWalker_59 x1 s0 t_textSize t_place t_readWalkers t_text t_readWalker = some (r_, o_t_place, o_t_readWalkers, o_t_readWalker) → W p l e rm_X8_readOneWalker s m args below meth c H locs 0 0 Q (F0 m 59 ls [.int s0]) := by
    intro x1 s0 t_place t_readWalkers t_readWalker H locs ls hP hS hl hf
    have hD : va_D A [(q_t, .inr (8, [.int t_thrown, .ref q_t_text, .int t_textSize, .int t_place, .int t_depth, .int t_noon, .int t_later, .int t_walkers, .ref q_t_beat, .ref q_t_kind, .ref q_t_readSnow, .int t_readWalkers, .ref q_t_readWalker, .ref q_t_page, .ref q_t_trial, .ref q_t_book, .int t_acts, .ref q_t_kept, .ref q_t_isKept, .int t_marks, .ref q_t_markStep, .ref q_t_markTread, .long t_seed, .int t_stumbled, .ref q_t_order, .int t_lineMany, .int t_lineOrder, .int t_whoseMany, .int t_whoseFirst, .int t_restMany, .int t_restFirst, .ref q_t_gains, .ref q_t_value])), (q_t_text, .inl (cI, 48, .inl t_text)), (q_t_readWalker, .inl (cI, 15, .inl t_readWalker))] := wd hD0 rfl
    rw [J_X8_readOneWalker_59] at hf
    refine lv_istore_n (lv' := [(2, .int s0), (0, .ref q_t), (1, .int x1)]) hx hb dX8_readOneWalker_59 rfl hl (by decide) rfl (fun ls hl => ?_)
    refine lv_iload_n hx hb dX8_readOneWalker_60 rfl (lv_at hl 0 rfl) ?_
    refine lv_bipush (v := (-9)) hx hb dX8_readOneWalker_61 (by decide) ?_
    refine lv_icmp_ne (tgt := 71) hx hb dX8_readOneWalker_63 (by decide) (fun hc => ?_) (fun hc => ?_)
    · replace hf := iq hc hf
      refine lv_aload_n hx hb dX8_readOneWalker_71 rfl (lv_at hl 1 rfl) ?_
      refine lv_iconst (v := 0) hx hb dX8_readOneWalker_72 (by decide) ?_
      refine lv_iconst (v := 3) hx hb dX8_readOneWalker_73 (by decide) ?_
      obtain ⟨⟨r4, o5⟩, e7, hf⟩ := bd_ok hf
      refine kVi (As := [.int 0, .int 3]) CF (cwV 2 hts gX8_readOneWalker_X8_figure rfl rfl rfl (by decide +kernel) ⟨Nat.le_of_ble_eq_true rfl, Nat.le_of_ble_eq_true rfl⟩) PU_blind hP hD hS hA (va_recv hK.1 hP (ci := 8) (q0 := 0) rfl rfl) [0, 1] (fun h1 h2 h3 => PU_pre hK h1 A h2 h3) (c_X8_figure l dC dI cI cZ q_t q_t_text q_t_beat q_t_kind q_t_readSnow q_t_readWalker q_t_page q_t_trial q_t_book q_t_kept q_t_isKept q_t_markStep q_t_markTread q_t_order q_t_gains q_t_value _ t_thrown t_textSize t_place t_depth t_noon t_later t_walkers t_readWalkers t_acts t_marks t_seed t_stumbled t_lineMany t_lineOrder t_whoseMany t_whoseFirst t_restMany t_restFirst t_text 0 3 r4 o5 e7) rfl rfl rfl rfl hl.1 rfl (Nat.le_of_ble_eq_true rfl) dX8_readOneWalker_74 ⟨Nat.zero_le _, Nat.zero_le _⟩ (fun H locs hP hS => ?_)
      replace hP : va_P (dC, dI) vwCl [(q_t, .inr (8, [.int t_thrown, .ref q_t_text, .int t_textSize, .int o5, .int t_depth, .int t_noon, .int t_later, .int t_walkers, .ref q_t_beat, .ref q_t_kind, .ref q_t_readSnow, .int t_readWalkers, .ref q_t_readWalker, .ref q_t_page, .ref q_t_trial, .ref q_t_book, .int t_acts, .ref q_t_kept, .ref q_t_isKept, .int t_marks, .ref q_t_markStep, .ref q_t_markTread, .long t_seed, .int t_stumbled, .ref q_t_order, .int t_lineMany, .int t_lineOrder, .int t_whoseMany, .int t_whoseFirst, .int t_restMany, .int t_restFirst, .ref q_t_gains, .ref q_t_value])), (q_t_text, .inl (cI, 48, .inl t_text)), (q_t_readWalker, .inl (cI, 15, .inl t_readWalker))] H := hP
      replace hD : va_D A [(q_t, .inr (8, [.int t_thrown, .ref q_t_text, .int t_textSize, .int o5, .int t_depth, .int t_noon, .int t_later, .int t_walkers, .ref q_t_beat, .ref q_t_kind, .ref q_t_readSnow, .int t_readWalkers, .ref q_t_readWalker, .ref q_t_page, .ref q_t_trial, .ref q_t_book, .int t_acts, .ref q_t_kept, .ref q_t_isKept, .int t_marks, .ref q_t_markStep, .ref q_t_markTread, .long t_seed, .int t_stumbled, .ref q_t_order, .int t_lineMany, .int t_lineOrder, .int t_whoseMany, .int t_whoseFirst, .int t_restMany, .int t_restFirst, .ref q_t_gains, .ref q_t_value])), (q_t_text, .inl (cI, 48, .inl t_text)), (q_t_readWalker, .inl (cI, 15, .inl t_readWalker))] := wd hD rfl
      exact h_77 x1 s0 r4 o5 t_readWalkers t_readWalker _ _ _ hP hS (lv_sub hl [1, 2, 0] rfl) hf
    · replace hf := ip hc hf
      refine lv_bipush (v := (-9)) hx hb dX8_readOneWalker_66 (by decide) ?_
      refine lv_goto (tgt := 77) hx hb dX8_readOneWalker_68 (by decide) ?_
      exact h_77 x1 s0 (-9) t_place t_readWalkers t_readWalker _ _ _ hP hS (lv_sub hl [1, 2, 0] rfl) hf
  rw [f_X8_readOneWalker] at hf
  refine lv_aload_n hx hb dX8_readOneWalker_0 rfl (lv_at hl 0 rfl) ?_
  refine va_get (D := (dC, dI)) (ci := 8) (v := .ref q_t_text) (C := RX8) (T := TX8) (N := 33) hx hb hts hinX8 hown hK.1 hP 0 rfl rfl 1 (by decide) w_2 (fun _ h9 => h9) rfl dX8_readOneWalker_1 ?_
  refine lv_aload_n hx hb dX8_readOneWalker_4 rfl (lv_at hl 0 rfl) ?_
  refine va_get (D := (dC, dI)) (ci := 8) (v := .int t_place) (C := RX8) (T := TX8) (N := 33) hx hb hts hinX8 hown hK.1 hP 0 rfl rfl 3 (by decide) w_3 (fun _ h9 => h9) rfl dX8_readOneWalker_5 ?_
  refine kald hx hb hK.1 hP 1 0 rfl rfl dX8_readOneWalker_8 hf (fun v8 hf => ?_)
  refine lv_bipush (v := 87) hx hb dX8_readOneWalker_9 (by decide) ?_
  refine lv_icmp_ne (tgt := 22) hx hb dX8_readOneWalker_11 (by decide) (fun hc => ?_) (fun hc => ?_)
  · replace hf := iq hc hf
    refine lv_iconst (v := 0) hx hb dX8_readOneWalker_22 (by decide) ?_
    obtain ⟨e0, hf⟩ := ij2 hf
    obtain ⟨e1, hf⟩ := ijc hf
    obtain ⟨e2, hf⟩ := ijc hf
    have e3 := hf
    refine W.eq (congrArg (fun z => F0 m 23 ls [.int z]) e0) ?_
    exact hret _ _ _ _ (by rw [← e1, ← e2, ← e3]; exact hP) hS (by rw [← e0]; rfl) dX8_readOneWalker_23
  · replace hf := ip hc hf
    refine lv_aload_n hx hb dX8_readOneWalker_14 rfl (lv_at hl 0 rfl) ?_
    refine va_get (D := (dC, dI)) (ci := 8) (v := .int t_readWalkers) (C := RX8) (T := TX8) (N := 33) hx hb hts hinX8 hown hK.1 hP 0 rfl rfl 11 (by decide) w_1 (fun _ h9 => h9) rfl dX8_readOneWalker_15 ?_
    refine lv_iconst (v := 5) hx hb dX8_readOneWalker_18 (by decide) ?_
    refine lv_icmp_ne (tgt := 24) hx hb dX8_readOneWalker_19 (by decide) (fun hc => ?_) (fun hc => ?_)
    · replace hf := iq hc hf
      refine lv_aload_n hx hb dX8_readOneWalker_24 rfl (lv_at hl 0 rfl) ?_
      refine lv_dup hx hb dX8_readOneWalker_25 rfl ?_
      refine va_get (D := (dC, dI)) (ci := 8) (v := .int t_place) (C := RX8) (T := TX8) (N := 33) hx hb hts hinX8 hown hK.1 hP 0 rfl rfl 3 (by decide) w_3 (fun _ h9 => h9) rfl dX8_readOneWalker_26 ?_
      refine lv_iconst (v := 1) hx hb dX8_readOneWalker_29 (by decide) ?_
      refine lv_iadd hx hb dX8_readOneWalker_30 ?_
      refine va_put (D := (dC, dI)) (ci := 8) (v := .int (t_place + 1)) (ty := .int) (C := RX8) (T := TX8) (N := 33) hx hb hts hinX8 tyX8 tyX8_ok nmX8 hown hK.1 hP hD hS 0 rfl rfl 3 (by decide) w_3 (fun _ h9 => h9) rfl (by decide +kernel) rfl rfl (Nat.le_of_ble_eq_true rfl) dX8_readOneWalker_31 (fun H locs hP hD hS => ?_)
      replace hP : va_P (dC, dI) vwCl [(q_t, .inr (8, [.int t_thrown, .ref q_t_text, .int t_textSize, .int (t_place + 1), .int t_depth, .int t_noon, .int t_later, .int t_walkers, .ref q_t_beat, .ref q_t_kind, .ref q_t_readSnow, .int t_readWalkers, .ref q_t_readWalker, .ref q_t_page, .ref q_t_trial, .ref q_t_book, .int t_acts, .ref q_t_kept, .ref q_t_isKept, .int t_marks, .ref q_t_markStep, .ref q_t_markTread, .long t_seed, .int t_stumbled, .ref q_t_order, .int t_lineMany, .int t_lineOrder, .int t_whoseMany, .int t_whoseFirst, .int t_restMany, .int t_restFirst, .ref q_t_gains, .ref q_t_value])), (q_t_text, .inl (cI, 48, .inl t_text)), (q_t_readWalker, .inl (cI, 15, .inl t_readWalker))] H := hP
      replace hD : va_D A [(q_t, .inr (8, [.int t_thrown, .ref q_t_text, .int t_textSize, .int (t_place + 1), .int t_depth, .int t_noon, .int t_later, .int t_walkers, .ref q_t_beat, .ref q_t_kind, .ref q_t_readSnow, .int t_readWalkers, .ref q_t_readWalker, .ref q_t_page, .ref q_t_trial, .ref q_t_book, .int t_acts, .ref q_t_kept, .ref q_t_isKept, .int t_marks, .ref q_t_markStep, .ref q_t_markTread, .long t_seed, .int t_stumbled, .ref q_t_order, .int t_lineMany, .int t_lineOrder, .int t_whoseMany, .int t_whoseFirst, .int t_restMany, .int t_restFirst, .ref q_t_gains, .ref q_t_value])), (q_t_text, .inl (cI, 48, .inl t_text)), (q_t_readWalker, .inl (cI, 15, .inl t_readWalker))] := hD
      refine lv_aload_n hx hb dX8_readOneWalker_34 rfl (lv_at hl 0 rfl) ?_
      refine lv_iconst (v := 1) hx hb dX8_readOneWalker_35 (by decide) ?_
      refine lv_bipush (v := 9) hx hb dX8_readOneWalker_36 (by decide) ?_
      obtain ⟨⟨r9, o10⟩, e12, hf⟩ := bd_ok hf
      refine kVi (As := [.int 1, .int 9]) CF (cwV 2 hts gX8_readOneWalker_X8_figure rfl rfl rfl (by decide +kernel) ⟨Nat.le_of_ble_eq_true rfl, Nat.le_of_ble_eq_true rfl⟩) PU_blind hP hD hS hA (va_recv hK.1 hP (ci := 8) (q0 := 0) rfl rfl) [0, 1] (fun h1 h2 h3 => PU_pre hK h1 A h2 h3) (c_X8_figure l dC dI cI cZ q_t q_t_text q_t_beat q_t_kind q_t_readSnow q_t_readWalker q_t_page q_t_trial q_t_book q_t_kept q_t_isKept q_t_markStep q_t_markTread q_t_order q_t_gains q_t_value _ t_thrown t_textSize (t_place + 1) t_depth t_noon t_later t_walkers t_readWalkers t_acts t_marks t_seed t_stumbled t_lineMany t_lineOrder t_whoseMany t_whoseFirst t_restMany t_restFirst t_text 1 9 r9 o10 e12) rfl rfl rfl rfl hl.1 rfl (Nat.le_of_ble_eq_true rfl) dX8_readOneWalker_38 ⟨Nat.zero_le _, Nat.zero_le _⟩ (fun H locs hP hS => ?_)
      replace hP : va_P (dC, dI) vwCl [(q_t, .inr (8, [.int t_thrown, .ref q_t_text, .int t_textSize, .int o10, .int t_depth, .int t_noon, .int t_later, .int t_walkers, .ref q_t_beat, .ref q_t_kind, .ref q_t_readSnow, .int t_readWalkers, .ref q_t_readWalker, .ref q_t_page, .ref q_t_trial, .ref q_t_book, .int t_acts, .ref q_t_kept, .ref q_t_isKept, .int t_marks, .ref q_t_markStep, .ref q_t_markTread, .long t_seed, .int t_stumbled, .ref q_t_order, .int t_lineMany, .int t_lineOrder, .int t_whoseMany, .int t_whoseFirst, .int t_restMany, .int t_restFirst, .ref q_t_gains, .ref q_t_value])), (q_t_text, .inl (cI, 48, .inl t_text)), (q_t_readWalker, .inl (cI, 15, .inl t_readWalker))] H := hP
      replace hD : va_D A [(q_t, .inr (8, [.int t_thrown, .ref q_t_text, .int t_textSize, .int o10, .int t_depth, .int t_noon, .int t_later, .int t_walkers, .ref q_t_beat, .ref q_t_kind, .ref q_t_readSnow, .int t_readWalkers, .ref q_t_readWalker, .ref q_t_page, .ref q_t_trial, .ref q_t_book, .int t_acts, .ref q_t_kept, .ref q_t_isKept, .int t_marks, .ref q_t_markStep, .ref q_t_markTread, .long t_seed, .int t_stumbled, .ref q_t_order, .int t_lineMany, .int t_lineOrder, .int t_whoseMany, .int t_whoseFirst, .int t_restMany, .int t_restFirst, .ref q_t_gains, .ref q_t_value])), (q_t_text, .inl (cI, 48, .inl t_text)), (q_t_readWalker, .inl (cI, 15, .inl t_readWalker))] := wd hD rfl
      refine lv_istore_n (lv' := [(1, .int r9), (0, .ref q_t)]) hx hb dX8_readOneWalker_41 rfl hl (by decide) rfl (fun ls hl => ?_)
      refine lv_iload_n hx hb dX8_readOneWalker_42 rfl (lv_at hl 0 rfl) ?_
      refine lv_bipush (v := (-9)) hx hb dX8_readOneWalker_43 (by decide) ?_
      refine lv_icmp_ne (tgt := 53) hx hb dX8_readOneWalker_45 (by decide) (fun hc => ?_) (fun hc => ?_)
      · replace hf := iq hc hf
        refine lv_aload_n hx hb dX8_readOneWalker_53 rfl (lv_at hl 1 rfl) ?_
        refine lv_iconst (v := 1) hx hb dX8_readOneWalker_54 (by decide) ?_
        refine lv_iconst (v := 4) hx hb dX8_readOneWalker_55 (by decide) ?_
        obtain ⟨⟨r13, o14⟩, e16, hf⟩ := bd_ok hf
        refine kVi (As := [.int 1, .int 4]) CF (cwV 2 hts gX8_readOneWalker_X8_figure rfl rfl rfl (by decide +kernel) ⟨Nat.le_of_ble_eq_true rfl, Nat.le_of_ble_eq_true rfl⟩) PU_blind hP hD hS hA (va_recv hK.1 hP (ci := 8) (q0 := 0) rfl rfl) [0, 1] (fun h1 h2 h3 => PU_pre hK h1 A h2 h3) (c_X8_figure l dC dI cI cZ q_t q_t_text q_t_beat q_t_kind q_t_readSnow q_t_readWalker q_t_page q_t_trial q_t_book q_t_kept q_t_isKept q_t_markStep q_t_markTread q_t_order q_t_gains q_t_value _ t_thrown t_textSize o10 t_depth t_noon t_later t_walkers t_readWalkers t_acts t_marks t_seed t_stumbled t_lineMany t_lineOrder t_whoseMany t_whoseFirst t_restMany t_restFirst t_text 1 4 r13 o14 e16) rfl rfl rfl rfl hl.1 rfl (Nat.le_of_ble_eq_true rfl) dX8_readOneWalker_56 ⟨Nat.zero_le _, Nat.zero_le _⟩ (fun H locs hP hS => ?_)
        replace hP : va_P (dC, dI) vwCl [(q_t, .inr (8, [.int t_thrown, .ref q_t_text, .int t_textSize, .int o14, .int t_depth, .int t_noon, .int t_later, .int t_walkers, .ref q_t_beat, .ref q_t_kind, .ref q_t_readSnow, .int t_readWalkers, .ref q_t_readWalker, .ref q_t_page, .ref q_t_trial, .ref q_t_book, .int t_acts, .ref q_t_kept, .ref q_t_isKept, .int t_marks, .ref q_t_markStep, .ref q_t_markTread, .long t_seed, .int t_stumbled, .ref q_t_order, .int t_lineMany, .int t_lineOrder, .int t_whoseMany, .int t_whoseFirst, .int t_restMany, .int t_restFirst, .ref q_t_gains, .ref q_t_value])), (q_t_text, .inl (cI, 48, .inl t_text)), (q_t_readWalker, .inl (cI, 15, .inl t_readWalker))] H := hP
        replace hD : va_D A [(q_t, .inr (8, [.int t_thrown, .ref q_t_text, .int t_textSize, .int o14, .int t_depth, .int t_noon, .int t_later, .int t_walkers, .ref q_t_beat, .ref q_t_kind, .ref q_t_readSnow, .int t_readWalkers, .ref q_t_readWalker, .ref q_t_page, .ref q_t_trial, .ref q_t_book, .int t_acts, .ref q_t_kept, .ref q_t_isKept, .int t_marks, .ref q_t_markStep, .ref q_t_markTread, .long t_seed, .int t_stumbled, .ref q_t_order, .int t_lineMany, .int t_lineOrder, .int t_whoseMany, .int t_whoseFirst, .int t_restMany, .int t_restFirst, .ref q_t_gains, .ref q_t_value])), (q_t_text, .inl (cI, 48, .inl t_text)), (q_t_readWalker, .inl (cI, 15, .inl t_readWalker))] := wd hD rfl
        exact h_59 r9 r13 o14 t_readWalkers t_readWalker _ _ _ hP hS (lv_sub hl [1, 0] rfl) hf
      · replace hf := ip hc hf
        refine lv_bipush (v := (-9)) hx hb dX8_readOneWalker_48 (by decide) ?_
        refine lv_goto (tgt := 59) hx hb dX8_readOneWalker_50 (by decide) ?_
        exact h_59 r9 (-9) o10 t_readWalkers t_readWalker _ _ _ hP hS (lv_sub hl [1, 0] rfl) hf
    · replace hf := ip hc hf
      refine lv_iconst (v := 0) hx hb dX8_readOneWalker_22 (by decide) ?_
      obtain ⟨e0, hf⟩ := ij2 hf
      obtain ⟨e1, hf⟩ := ijc hf
      obtain ⟨e2, hf⟩ := ijc hf
      have e3 := hf
      refine W.eq (congrArg (fun z => F0 m 23 ls [.int z]) e0) ?_
      exact hret _ _ _ _ (by rw [← e1, ← e2, ← e3]; exact hP) hS (by rw [← e0]; rfl) dX8_readOneWalker_23
abbrev rm_X8_readParty : Room := { frames := 3, cells := 0, slots := 0, locals := 70 }
set_option maxHeartbeats 4000000 in
set_option maxRecDepth 100000 in
theorem c_X8_readParty (l : Launch) (dC : Nat → ClassId) (dI : Nat → Nat → Nat) (cI cZ : ClassId) (q_t q_t_text q_t_beat q_t_kind q_t_readSnow q_t_readWalker q_t_page q_t_trial q_t_book q_t_kept q_t_isKept q_t_markStep q_t_markTread q_t_order q_t_gains q_t_value : Nat) (sz : Nat) (t_thrown : Int32) (t_textSize : Int32) (t_place : Int32) (t_depth : Int32) (t_noon : Int32) (t_later : Int32) (t_walkers : Int32) (t_readWalkers : Int32) (t_acts : Int32) (t_marks : Int32) (t_seed : Int64) (t_stumbled : Int32) (t_lineMany : Int32) (t_lineOrder : Int32) (t_whoseMany : Int32) (t_whoseFirst : Int32) (t_restMany : Int32) (t_restFirst : Int32) (t_text : Nat → Int32) (t_readSnow : Nat → Int32) (t_readWalker : Nat → Int32) (r_ : Int32) (o_t_place : Int32) (o_t_readWalkers : Int32) (o_t_readSnow : Nat → Int32) (o_t_readWalker : Nat → Int32) (hf : f_X8_readParty t_textSize t_place t_readWalkers t_text t_readSnow t_readWalker = some (r_, o_t_place, o_t_readWalkers, o_t_readSnow, o_t_readWalker)) : Met l yX8_readParty wsX8_readParty rm_X8_readParty (va_Pc [.ref q_t] (PU (dC, dI) cI cZ [(q_t, .inr (8, [.int t_thrown, .ref q_t_text, .int t_textSize, .int t_place, .int t_depth, .int t_noon, .int t_later, .int t_walkers, .ref q_t_beat, .ref q_t_kind, .ref q_t_readSnow, .int t_readWalkers, .ref q_t_readWalker, .ref q_t_page, .ref q_t_trial, .ref q_t_book, .int t_acts, .ref q_t_kept, .ref q_t_isKept, .int t_marks, .ref q_t_markStep, .ref q_t_markTread, .long t_seed, .int t_stumbled, .ref q_t_order, .int t_lineMany, .int t_lineOrder, .int t_whoseMany, .int t_whoseFirst, .int t_restMany, .int t_restFirst, .ref q_t_gains, .ref q_t_value])), (q_t_text, .inl (cI, 48, .inl t_text)), (q_t_readSnow, .inl (cI, 3, .inl t_readSnow)), (q_t_readWalker, .inl (cI, 15, .inl t_readWalker))] sz)) (va_Qi (fun (r : Int32) (_ : Unit) => r = r_) (fun _ t => va_P (dC, dI) vwCl [(q_t, .inr (8, [.int t_thrown, .ref q_t_text, .int t_textSize, .int o_t_place, .int t_depth, .int t_noon, .int t_later, .int t_walkers, .ref q_t_beat, .ref q_t_kind, .ref q_t_readSnow, .int o_t_readWalkers, .ref q_t_readWalker, .ref q_t_page, .ref q_t_trial, .ref q_t_book, .int t_acts, .ref q_t_kept, .ref q_t_isKept, .int t_marks, .ref q_t_markStep, .ref q_t_markTread, .long t_seed, .int t_stumbled, .ref q_t_order, .int t_lineMany, .int t_lineOrder, .int t_whoseMany, .int t_whoseFirst, .int t_restMany, .int t_restFirst, .ref q_t_gains, .ref q_t_value])), (q_t_text, .inl (cI, 48, .inl t_text)), (q_t_readSnow, .inl (cI, 3, .inl o_t_readSnow)), (q_t_readWalker, .inl (cI, 15, .inl o_t_readWalker))] t.heap) (va_A [(q_t, .inr (8, [.int t_thrown, .ref q_t_text, .int t_textSize, .int t_place, .int t_depth, .int t_noon, .int t_later, .int t_walkers, .ref q_t_beat, .ref q_t_kind, .ref q_t_readSnow, .int t_readWalkers, .ref q_t_readWalker, .ref q_t_page, .ref q_t_trial, .ref q_t_book, .int t_acts, .ref q_t_kept, .ref q_t_isKept, .int t_marks, .ref q_t_markStep, .ref q_t_markTread, .long t_seed, .int t_stumbled, .ref q_t_order, .int t_lineMany, .int t_lineOrder, .int t_whoseMany, .int t_whoseFirst, .int t_restMany, .int t_restFirst, .ref q_t_gains, .ref q_t_value])), (q_t_text, .inl (cI, 48, .inl t_text)), (q_t_readSnow, .inl (cI, 3, .inl t_readSnow)), (q_t_readWalker, .inl (cI, 15, .inl t_readWalker))] sz)) 0 0 (va_A [(q_t, .inr (8, [.int t_thrown, .ref q_t_text, .int t_textSize, .int t_place, .int t_depth, .int t_noon, .int t_later, .int t_walkers, .ref q_t_beat, .ref q_t_kind, .ref q_t_readSnow, .int t_readWalkers, .ref q_t_readWalker, .ref q_t_page, .ref q_t_trial, .ref q_t_book, .int t_acts, .ref q_t_kept, .ref q_t_isKept, .int t_marks, .ref q_t_markStep, .ref q_t_markTread, .long t_seed, .int t_stumbled, .ref q_t_order, .int t_lineMany, .int t_lineOrder, .int t_whoseMany, .int t_whoseFirst, .int t_restMany, .int t_restFirst, .ref q_t_gains, .ref q_t_value])), (q_t_text, .inl (cI, 48, .inl t_text)), (q_t_readSnow, .inl (cI, 3, .inl t_readSnow)), (q_t_readWalker, .inl (cI, 15, .inl t_readWalker))] sz) := by
  refine MetI (cc := cX8_readParty) (maxL := 2) (by decide) rfl (Nat.le_of_ble_eq_true rfl) (fun _ h => h) ?_
  intro p e s m args below meth c A Q ls hx CF hK hA hD hP hS hl hB hAe hsz hret
  have hb := CF.2.1
  have hml := CF.2.2.1
  have hown := CF.2.2.2.1
  have hts := CF.2.2.2.2
  have hD0 := hD
  replace hl : lv_has ls 2 [(0, .ref q_t)] := hl
  have hinX8 : ∀ w ∈ wsX80, w ∈ wsX8_readParty := fun _ h => List.mem_cons_of_mem _ (List.mem_append_right _ h)
  have w_0 := hts (.fieldLink RX8 78 "PassInStepModel" "place" "I") (by decide +kernel)
  have w_1 := hts (.fieldLink RX8 75 "PassInStepModel" "textSize" "I") (by decide +kernel)
  have w_2 := hts (.fieldLink RX8 26 "PassInStepModel" "readSnow" "[I") (by decide +kernel)
  have w_3 := hts (.fieldLink RX8 81 "PassInStepModel" "readWalkers" "I") (by decide +kernel)
  have w_4 := hts (.fieldLink RX8 7 "PassInStepModel" "text" "[I") (by decide +kernel)
  have h_86 : ∀ (t_readSnow : Nat → Int32) (fu86 : Nat) (t_place : Int32) (t_readWalkers : Int32) (t_readWalker : Nat → Int32) (H : Heap) (locs : List Loc) (ls : Array Slot), va_P (dC, dI) vwCl [(q_t, .inr (8, [.int t_thrown, .ref q_t_text, .int t_textSize, .int t_place, .int t_depth, .int t_noon, .int t_later, .int t_walkers, .ref q_t_beat, .ref q_t_kind, .ref q_t_readSnow, .int t_readWalkers, .ref q_t_readWalker, .ref q_t_page, .ref q_t_trial, .ref q_t_book, .int t_acts, .ref q_t_kept, .ref q_t_isKept, .int t_marks, .ref q_t_markStep, .ref q_t_markTread, .long t_seed, .int t_stumbled, .ref q_t_order, .int t_lineMany, .int t_lineOrder, .int t_whoseMany, .int t_whoseFirst, .int t_restMany, .int t_restFirst, .ref q_t_gains, .ref q_t_value])), (q_t_text, .inl (cI, 48, .inl t_text)), (q_t_readSnow, .inl (cI, 3, .inl t_readSnow)), (q_t_readWalker, .inl (cI, 15, .inl t_readWalker))] H → va_S A s.heap H locs → lv_has ls 2 [(0, .ref q_t)] → L_X8_readParty_86 t_textSize t_text t_readSnow fu86 t_place t_readWalkers t_readWalker = some (r_, o_t_place, o_t_readWalkers, o_t_readSnow, o_t_readWalker) → W p l e rm_X8_readParty s m args below meth c H locs 0 0 Q (F0 m 86 ls []) := by
    intro t_readSnow fu86
    induction fu86 with
    | zero =>
      intro t_place t_readWalkers t_readWalker H locs ls hP hS hl hf
      rw [L_X8_readParty_86] at hf
      cases hf
    | succ fu86 ih86 =>
      intro t_place t_readWalkers t_readWalker H locs ls hP hS hl hf
      have hD : va_D A [(q_t, .inr (8, [.int t_thrown, .ref q_t_text, .int t_textSize, .int t_place, .int t_depth, .int t_noon, .int t_later, .int t_walkers, .ref q_t_beat, .ref q_t_kind, .ref q_t_readSnow, .int t_readWalkers, .ref q_t_readWalker, .ref q_t_page, .ref q_t_trial, .ref q_t_book, .int t_acts, .ref q_t_kept, .ref q_t_isKept, .int t_marks, .ref q_t_markStep, .ref q_t_markTread, .long t_seed, .int t_stumbled, .ref q_t_order, .int t_lineMany, .int t_lineOrder, .int t_whoseMany, .int t_whoseFirst, .int t_restMany, .int t_restFirst, .ref q_t_gains, .ref q_t_value])), (q_t_text, .inl (cI, 48, .inl t_text)), (q_t_readSnow, .inl (cI, 3, .inl t_readSnow)), (q_t_readWalker, .inl (cI, 15, .inl t_readWalker))] := wd hD0 rfl
      rw [L_X8_readParty_86] at hf
      refine lv_aload_n hx hb dX8_readParty_86 rfl (lv_at hl 0 rfl) ?_
      refine va_get (D := (dC, dI)) (ci := 8) (v := .int t_place) (C := RX8) (T := TX8) (N := 33) hx hb hts hinX8 hown hK.1 hP 0 rfl rfl 3 (by decide) w_0 (fun _ h9 => h9) rfl dX8_readParty_87 ?_
      refine lv_aload_n hx hb dX8_readParty_90 rfl (lv_at hl 0 rfl) ?_
      refine va_get (D := (dC, dI)) (ci := 8) (v := .int t_textSize) (C := RX8) (T := TX8) (N := 33) hx hb hts hinX8 hown hK.1 hP 0 rfl rfl 2 (by decide) w_1 (fun _ h9 => h9) rfl dX8_readParty_91 ?_
      refine lv_icmp_ge (tgt := 109) hx hb dX8_readParty_94 (by decide) (fun hc => ?_) (fun hc => ?_)
      · replace hf := ip hc hf
        refine lv_bipush (v := (-9)) hx hb dX8_readParty_109 (by decide) ?_
        obtain ⟨e0, hf⟩ := ij2 hf
        obtain ⟨e1, hf⟩ := ijc hf
        obtain ⟨e2, hf⟩ := ijc hf
        obtain ⟨e3, hf⟩ := ijc hf
        have e4 := hf
        refine W.eq (congrArg (fun z => F0 m 111 ls [.int z]) e0) ?_
        exact hret _ _ _ _ (by rw [← e1, ← e2, ← e3, ← e4]; exact hP) hS dX8_readParty_111
      · replace hf := iq hc hf
        refine lv_aload_n hx hb dX8_readParty_97 rfl (lv_at hl 0 rfl) ?_
        obtain ⟨⟨r1, o2, o3, o4⟩, e6, hf⟩ := bd_ok hf
        refine kVi (As := []) CF (cwV 0 hts gX8_readParty_X8_readOneWalker rfl rfl rfl (by decide +kernel) ⟨Nat.le_of_ble_eq_true rfl, Nat.le_of_ble_eq_true rfl⟩) PU_blind hP hD hS hA (va_recv hK.1 hP (ci := 8) (q0 := 0) rfl rfl) [0, 1, 3] (fun h1 h2 h3 => PU_pre hK h1 A h2 h3) (c_X8_readOneWalker l dC dI cI cZ q_t q_t_text q_t_beat q_t_kind q_t_readSnow q_t_readWalker q_t_page q_t_trial q_t_book q_t_kept q_t_isKept q_t_markStep q_t_markTread q_t_order q_t_gains q_t_value _ t_thrown t_textSize t_place t_depth t_noon t_later t_walkers t_readWalkers t_acts t_marks t_seed t_stumbled t_lineMany t_lineOrder t_whoseMany t_whoseFirst t_restMany t_restFirst t_text t_readWalker r1 o2 o3 o4 e6) rfl rfl rfl rfl hl.1 rfl (Nat.le_of_ble_eq_true rfl) dX8_readParty_98 ⟨Nat.zero_le _, Nat.zero_le _⟩ (fun H locs hP hS => ?_)
        replace hP : va_P (dC, dI) vwCl [(q_t, .inr (8, [.int t_thrown, .ref q_t_text, .int t_textSize, .int o2, .int t_depth, .int t_noon, .int t_later, .int t_walkers, .ref q_t_beat, .ref q_t_kind, .ref q_t_readSnow, .int o3, .ref q_t_readWalker, .ref q_t_page, .ref q_t_trial, .ref q_t_book, .int t_acts, .ref q_t_kept, .ref q_t_isKept, .int t_marks, .ref q_t_markStep, .ref q_t_markTread, .long t_seed, .int t_stumbled, .ref q_t_order, .int t_lineMany, .int t_lineOrder, .int t_whoseMany, .int t_whoseFirst, .int t_restMany, .int t_restFirst, .ref q_t_gains, .ref q_t_value])), (q_t_text, .inl (cI, 48, .inl t_text)), (q_t_readSnow, .inl (cI, 3, .inl t_readSnow)), (q_t_readWalker, .inl (cI, 15, .inl o4))] H := hP
        replace hD : va_D A [(q_t, .inr (8, [.int t_thrown, .ref q_t_text, .int t_textSize, .int o2, .int t_depth, .int t_noon, .int t_later, .int t_walkers, .ref q_t_beat, .ref q_t_kind, .ref q_t_readSnow, .int o3, .ref q_t_readWalker, .ref q_t_page, .ref q_t_trial, .ref q_t_book, .int t_acts, .ref q_t_kept, .ref q_t_isKept, .int t_marks, .ref q_t_markStep, .ref q_t_markTread, .long t_seed, .int t_stumbled, .ref q_t_order, .int t_lineMany, .int t_lineOrder, .int t_whoseMany, .int t_whoseFirst, .int t_restMany, .int t_restFirst, .ref q_t_gains, .ref q_t_value])), (q_t_text, .inl (cI, 48, .inl t_text)), (q_t_readSnow, .inl (cI, 3, .inl t_readSnow)), (q_t_readWalker, .inl (cI, 15, .inl o4))] := wd hD rfl
        refine lv_if_ne (tgt := 86) hx hb dX8_readParty_101 (by decide) (fun hc => ?_) (fun hc => ?_)
        · replace hf := iq hc hf
          exact ih86 o2 o3 o4 _ _ _ hP hS (lv_sub hl [0] rfl) hf
        · replace hf := ip hc hf
          refine lv_aload_n hx hb dX8_readParty_104 rfl (lv_at hl 0 rfl) ?_
          refine va_get (D := (dC, dI)) (ci := 8) (v := .int o2) (C := RX8) (T := TX8) (N := 33) hx hb hts hinX8 hown hK.1 hP 0 rfl rfl 3 (by decide) w_0 (fun _ h9 => h9) rfl dX8_readParty_105 ?_
          obtain ⟨e0, hf⟩ := ij2 hf
          obtain ⟨e1, hf⟩ := ijc hf
          obtain ⟨e2, hf⟩ := ijc hf
          obtain ⟨e3, hf⟩ := ijc hf
          have e4 := hf
          refine W.eq (congrArg (fun z => F0 m 108 ls [.int z]) e0) ?_
          exact hret _ _ _ _ (by rw [← e1, ← e2, ← e3, ← e4]; exact hP) hS dX8_readParty_108
  have h_37 : ∀ (t_readWalkers : Int32) (t_readWalker : Nat → Int32) (fu37 : Nat) (x1 : Int32) (t_place : Int32) (t_readSnow : Nat → Int32) (H : Heap) (locs : List Loc) (ls : Array Slot), va_P (dC, dI) vwCl [(q_t, .inr (8, [.int t_thrown, .ref q_t_text, .int t_textSize, .int t_place, .int t_depth, .int t_noon, .int t_later, .int t_walkers, .ref q_t_beat, .ref q_t_kind, .ref q_t_readSnow, .int t_readWalkers, .ref q_t_readWalker, .ref q_t_page, .ref q_t_trial, .ref q_t_book, .int t_acts, .ref q_t_kept, .ref q_t_isKept, .int t_marks, .ref q_t_markStep, .ref q_t_markTread, .long t_seed, .int t_stumbled, .ref q_t_order, .int t_lineMany, .int t_lineOrder, .int t_whoseMany, .int t_whoseFirst, .int t_restMany, .int t_restFirst, .ref q_t_gains, .ref q_t_value])), (q_t_text, .inl (cI, 48, .inl t_text)), (q_t_readSnow, .inl (cI, 3, .inl t_readSnow)), (q_t_readWalker, .inl (cI, 15, .inl t_readWalker))] H → va_S A s.heap H locs → lv_has ls 2 [(0, .ref q_t), (1, .int x1)] → L_X8_readParty_37 t_textSize t_readWalkers t_text t_readWalker fu37 x1 t_place t_readSnow = some (r_, o_t_place, o_t_readWalkers, o_t_readSnow, o_t_readWalker) → W p l e rm_X8_readParty s m args below meth c H locs 0 0 Q (F0 m 37 ls []) := by
    intro t_readWalkers t_readWalker fu37
    induction fu37 with
    | zero =>
      intro x1 t_place t_readSnow H locs ls hP hS hl hf
      rw [L_X8_readParty_37] at hf
      cases hf
    | succ fu37 ih37 =>
      have h_58 : ∀ (x1 : Int32) (s0 : Int32) (s2 : Int32) (t_place : Int32) (t_readSnow : Nat → Int32) (H : Heap) (locs : List Loc) (ls : Array Slot), va_P (dC, dI) vwCl [(q_t, .inr (8, [.int t_thrown, .ref q_t_text, .int t_textSize, .int t_place, .int t_depth, .int t_noon, .int t_later, .int t_walkers, .ref q_t_beat, .ref q_t_kind, .ref q_t_readSnow, .int t_readWalkers, .ref q_t_readWalker, .ref q_t_page, .ref q_t_trial, .ref q_t_book, .int t_acts, .ref q_t_kept, .ref q_t_isKept, .int t_marks, .ref q_t_markStep, .ref q_t_markTread, .long t_seed, .int t_stumbled, .ref q_t_order, .int t_lineMany, .int t_lineOrder, .int t_whoseMany, .int t_whoseFirst, .int t_restMany, .int t_restFirst, .ref q_t_gains, .ref q_t_value])), (q_t_text, .inl (cI, 48, .inl t_text)), (q_t_readSnow, .inl (cI, 3, .inl t_readSnow)), (q_t_readWalker, .inl (cI, 15, .inl t_readWalker))] H → va_S A s.heap H locs → lv_has ls 2 [(0, .ref q_t), (1, .int x1)] → J_X8_readParty_58 (L_X8_readParty_37 t_textSize t_readWalkers t_text t_readWalker fu37) x1 s0 s2 t_textSize t_place t_readWalkers t_text t_readSnow t_readWalker = some (r_, o_t_place, o_t_readWalkers, o_t_readSnow, o_t_readWalker) → W p l e rm_X8_readParty s m args below meth c H locs 0 0 Q (F0 m 58 ls [.int s0, .ref q_t, .int s2, .ref q_t_readSnow]) := by
        intro x1 s0 s2 t_place t_readSnow H locs ls hP hS hl hf
        have hD : va_D A [(q_t, .inr (8, [.int t_thrown, .ref q_t_text, .int t_textSize, .int t_place, .int t_depth, .int t_noon, .int t_later, .int t_walkers, .ref q_t_beat, .ref q_t_kind, .ref q_t_readSnow, .int t_readWalkers, .ref q_t_readWalker, .ref q_t_page, .ref q_t_trial, .ref q_t_book, .int t_acts, .ref q_t_kept, .ref q_t_isKept, .int t_marks, .ref q_t_markStep, .ref q_t_markTread, .long t_seed, .int t_stumbled, .ref q_t_order, .int t_lineMany, .int t_lineOrder, .int t_whoseMany, .int t_whoseFirst, .int t_restMany, .int t_restFirst, .ref q_t_gains, .ref q_t_value])), (q_t_text, .inl (cI, 48, .inl t_text)), (q_t_readSnow, .inl (cI, 3, .inl t_readSnow)), (q_t_readWalker, .inl (cI, 15, .inl t_readWalker))] := wd hD0 rfl
        rw [J_X8_readParty_58] at hf
        refine lv_bipush (v := 9) hx hb dX8_readParty_58 (by decide) ?_
        obtain ⟨⟨r7, o8⟩, e10, hf⟩ := bd_ok hf
        refine kVi (As := [.int s0, .int 9]) CF (cwV 2 hts gX8_readParty_X8_figure rfl rfl rfl (by decide +kernel) ⟨Nat.le_of_ble_eq_true rfl, Nat.le_of_ble_eq_true rfl⟩) PU_blind hP hD hS hA (va_recv hK.1 hP (ci := 8) (q0 := 0) rfl rfl) [0, 1] (fun h1 h2 h3 => PU_pre hK h1 A h2 h3) (c_X8_figure l dC dI cI cZ q_t q_t_text q_t_beat q_t_kind q_t_readSnow q_t_readWalker q_t_page q_t_trial q_t_book q_t_kept q_t_isKept q_t_markStep q_t_markTread q_t_order q_t_gains q_t_value _ t_thrown t_textSize t_place t_depth t_noon t_later t_walkers t_readWalkers t_acts t_marks t_seed t_stumbled t_lineMany t_lineOrder t_whoseMany t_whoseFirst t_restMany t_restFirst t_text s0 9 r7 o8 e10) rfl rfl rfl rfl hl.1 rfl (Nat.le_of_ble_eq_true rfl) dX8_readParty_60 ⟨Nat.zero_le _, Nat.zero_le _⟩ (fun H locs hP hS => ?_)
        replace hP : va_P (dC, dI) vwCl [(q_t, .inr (8, [.int t_thrown, .ref q_t_text, .int t_textSize, .int o8, .int t_depth, .int t_noon, .int t_later, .int t_walkers, .ref q_t_beat, .ref q_t_kind, .ref q_t_readSnow, .int t_readWalkers, .ref q_t_readWalker, .ref q_t_page, .ref q_t_trial, .ref q_t_book, .int t_acts, .ref q_t_kept, .ref q_t_isKept, .int t_marks, .ref q_t_markStep, .ref q_t_markTread, .long t_seed, .int t_stumbled, .ref q_t_order, .int t_lineMany, .int t_lineOrder, .int t_whoseMany, .int t_whoseFirst, .int t_restMany, .int t_restFirst, .ref q_t_gains, .ref q_t_value])), (q_t_text, .inl (cI, 48, .inl t_text)), (q_t_readSnow, .inl (cI, 3, .inl t_readSnow)), (q_t_readWalker, .inl (cI, 15, .inl t_readWalker))] H := hP
        replace hD : va_D A [(q_t, .inr (8, [.int t_thrown, .ref q_t_text, .int t_textSize, .int o8, .int t_depth, .int t_noon, .int t_later, .int t_walkers, .ref q_t_beat, .ref q_t_kind, .ref q_t_readSnow, .int t_readWalkers, .ref q_t_readWalker, .ref q_t_page, .ref q_t_trial, .ref q_t_book, .int t_acts, .ref q_t_kept, .ref q_t_isKept, .int t_marks, .ref q_t_markStep, .ref q_t_markTread, .long t_seed, .int t_stumbled, .ref q_t_order, .int t_lineMany, .int t_lineOrder, .int t_whoseMany, .int t_whoseFirst, .int t_restMany, .int t_restFirst, .ref q_t_gains, .ref q_t_value])), (q_t_text, .inl (cI, 48, .inl t_text)), (q_t_readSnow, .inl (cI, 3, .inl t_readSnow)), (q_t_readWalker, .inl (cI, 15, .inl t_readWalker))] := wd hD rfl
        refine kast hx hb hK.1 hP hD hS 2 0 rfl rfl dX8_readParty_63 hf (fun w11 H locs hP hD hS hf => ?_)
        replace hP : va_P (dC, dI) vwCl [(q_t, .inr (8, [.int t_thrown, .ref q_t_text, .int t_textSize, .int o8, .int t_depth, .int t_noon, .int t_later, .int t_walkers, .ref q_t_beat, .ref q_t_kind, .ref q_t_readSnow, .int t_readWalkers, .ref q_t_readWalker, .ref q_t_page, .ref q_t_trial, .ref q_t_book, .int t_acts, .ref q_t_kept, .ref q_t_isKept, .int t_marks, .ref q_t_markStep, .ref q_t_markTread, .long t_seed, .int t_stumbled, .ref q_t_order, .int t_lineMany, .int t_lineOrder, .int t_whoseMany, .int t_whoseFirst, .int t_restMany, .int t_restFirst, .ref q_t_gains, .ref q_t_value])), (q_t_text, .inl (cI, 48, .inl t_text)), (q_t_readSnow, .inl (cI, 3, .inl w11)), (q_t_readWalker, .inl (cI, 15, .inl t_readWalker))] H := hP
        replace hD : va_D A [(q_t, .inr (8, [.int t_thrown, .ref q_t_text, .int t_textSize, .int o8, .int t_depth, .int t_noon, .int t_later, .int t_walkers, .ref q_t_beat, .ref q_t_kind, .ref q_t_readSnow, .int t_readWalkers, .ref q_t_readWalker, .ref q_t_page, .ref q_t_trial, .ref q_t_book, .int t_acts, .ref q_t_kept, .ref q_t_isKept, .int t_marks, .ref q_t_markStep, .ref q_t_markTread, .long t_seed, .int t_stumbled, .ref q_t_order, .int t_lineMany, .int t_lineOrder, .int t_whoseMany, .int t_whoseFirst, .int t_restMany, .int t_restFirst, .ref q_t_gains, .ref q_t_value])), (q_t_text, .inl (cI, 48, .inl t_text)), (q_t_readSnow, .inl (cI, 3, .inl w11)), (q_t_readWalker, .inl (cI, 15, .inl t_readWalker))] := hD
        refine lv_aload_n hx hb dX8_readParty_64 rfl (lv_at hl 0 rfl) ?_
        refine va_get (D := (dC, dI)) (ci := 8) (v := .ref q_t_readSnow) (C := RX8) (T := TX8) (N := 33) hx hb hts hinX8 hown hK.1 hP 0 rfl rfl 10 (by decide) w_2 (fun _ h9 => h9) rfl dX8_readParty_65 ?_
        refine lv_iload_n hx hb dX8_readParty_68 rfl (lv_at hl 1 rfl) ?_
        refine kald hx hb hK.1 hP 2 0 rfl rfl dX8_readParty_69 hf (fun v12 hf => ?_)
        refine lv_bipush (v := (-9)) hx hb dX8_readParty_70 (by decide) ?_
        refine lv_icmp_ne (tgt := 80) hx hb dX8_readParty_72 (by decide) (fun hc => ?_) (fun hc => ?_)
        · replace hf := iq hc hf
          refine lv_iinc (v := (x1 + 1)) (lv' := [(1, .int (x1 + 1)), (0, .ref q_t)]) hx hb dX8_readParty_80 hl (k := 1) rfl rfl (by decide) rfl (fun ls hl => ?_)
          refine lv_goto (tgt := 37) hx hb dX8_readParty_83 (by decide) ?_
          exact ih37 (x1 + 1) o8 w11 _ _ _ hP hS (lv_sub hl [1, 0] rfl) hf
        · replace hf := ip hc hf
          refine lv_aload_n hx hb dX8_readParty_75 rfl (lv_at hl 0 rfl) ?_
          refine va_get (D := (dC, dI)) (ci := 8) (v := .int o8) (C := RX8) (T := TX8) (N := 33) hx hb hts hinX8 hown hK.1 hP 0 rfl rfl 3 (by decide) w_0 (fun _ h9 => h9) rfl dX8_readParty_76 ?_
          obtain ⟨e0, hf⟩ := ij2 hf
          obtain ⟨e1, hf⟩ := ijc hf
          obtain ⟨e2, hf⟩ := ijc hf
          obtain ⟨e3, hf⟩ := ijc hf
          have e4 := hf
          refine W.eq (congrArg (fun z => F0 m 79 ls [.int z]) e0) ?_
          exact hret _ _ _ _ (by rw [← e1, ← e2, ← e3, ← e4]; exact hP) hS dX8_readParty_79
      intro x1 t_place t_readSnow H locs ls hP hS hl hf
      have hD : va_D A [(q_t, .inr (8, [.int t_thrown, .ref q_t_text, .int t_textSize, .int t_place, .int t_depth, .int t_noon, .int t_later, .int t_walkers, .ref q_t_beat, .ref q_t_kind, .ref q_t_readSnow, .int t_readWalkers, .ref q_t_readWalker, .ref q_t_page, .ref q_t_trial, .ref q_t_book, .int t_acts, .ref q_t_kept, .ref q_t_isKept, .int t_marks, .ref q_t_markStep, .ref q_t_markTread, .long t_seed, .int t_stumbled, .ref q_t_order, .int t_lineMany, .int t_lineOrder, .int t_whoseMany, .int t_whoseFirst, .int t_restMany, .int t_restFirst, .ref q_t_gains, .ref q_t_value])), (q_t_text, .inl (cI, 48, .inl t_text)), (q_t_readSnow, .inl (cI, 3, .inl t_readSnow)), (q_t_readWalker, .inl (cI, 15, .inl t_readWalker))] := wd hD0 rfl
      rw [L_X8_readParty_37] at hf
      refine lv_iload_n hx hb dX8_readParty_37 rfl (lv_at hl 1 rfl) ?_
      refine lv_iconst (v := 3) hx hb dX8_readParty_38 (by decide) ?_
      refine lv_icmp_ge (tgt := 86) hx hb dX8_readParty_39 (by decide) (fun hc => ?_) (fun hc => ?_)
      · replace hf := ip hc hf
        exact h_86 t_readSnow fuelC t_place t_readWalkers t_readWalker _ _ _ hP hS (lv_sub hl [0] rfl) hf
      · replace hf := iq hc hf
        refine lv_aload_n hx hb dX8_readParty_42 rfl (lv_at hl 0 rfl) ?_
        refine va_get (D := (dC, dI)) (ci := 8) (v := .ref q_t_readSnow) (C := RX8) (T := TX8) (N := 33) hx hb hts hinX8 hown hK.1 hP 0 rfl rfl 10 (by decide) w_2 (fun _ h9 => h9) rfl dX8_readParty_43 ?_
        refine lv_iload_n hx hb dX8_readParty_46 rfl (lv_at hl 1 rfl) ?_
        refine lv_aload_n hx hb dX8_readParty_47 rfl (lv_at hl 0 rfl) ?_
        refine lv_iload_n hx hb dX8_readParty_48 rfl (lv_at hl 1 rfl) ?_
        refine lv_iconst (v := 1) hx hb dX8_readParty_49 (by decide) ?_
        refine lv_icmp_ne (tgt := 57) hx hb dX8_readParty_50 (by decide) (fun hc => ?_) (fun hc => ?_)
        · replace hf := iq hc hf
          refine lv_iconst (v := 1) hx hb dX8_readParty_57 (by decide) ?_
          exact h_58 x1 1 x1 t_place t_readSnow _ _ _ hP hS (lv_sub hl [0, 1] rfl) hf
        · replace hf := ip hc hf
          refine lv_iconst (v := 0) hx hb dX8_readParty_53 (by decide) ?_
          refine lv_goto (tgt := 58) hx hb dX8_readParty_54 (by decide) ?_
          exact h_58 x1 0 x1 t_place t_readSnow _ _ _ hP hS (lv_sub hl [0, 1] rfl) hf
  rw [f_X8_readParty] at hf
  refine lv_aload_n hx hb dX8_readParty_0 rfl (lv_at hl 0 rfl) ?_
  refine lv_iconst (v := 0) hx hb dX8_readParty_1 (by decide) ?_
  refine va_put (D := (dC, dI)) (ci := 8) (v := .int 0) (ty := .int) (C := RX8) (T := TX8) (N := 33) hx hb hts hinX8 tyX8 tyX8_ok nmX8 hown hK.1 hP hD hS 0 rfl rfl 3 (by decide) w_0 (fun _ h9 => h9) rfl (by decide +kernel) rfl rfl (Nat.le_of_ble_eq_true rfl) dX8_readParty_2 (fun H locs hP hD hS => ?_)
  replace hP : va_P (dC, dI) vwCl [(q_t, .inr (8, [.int t_thrown, .ref q_t_text, .int t_textSize, .int 0, .int t_depth, .int t_noon, .int t_later, .int t_walkers, .ref q_t_beat, .ref q_t_kind, .ref q_t_readSnow, .int t_readWalkers, .ref q_t_readWalker, .ref q_t_page, .ref q_t_trial, .ref q_t_book, .int t_acts, .ref q_t_kept, .ref q_t_isKept, .int t_marks, .ref q_t_markStep, .ref q_t_markTread, .long t_seed, .int t_stumbled, .ref q_t_order, .int t_lineMany, .int t_lineOrder, .int t_whoseMany, .int t_whoseFirst, .int t_restMany, .int t_restFirst, .ref q_t_gains, .ref q_t_value])), (q_t_text, .inl (cI, 48, .inl t_text)), (q_t_readSnow, .inl (cI, 3, .inl t_readSnow)), (q_t_readWalker, .inl (cI, 15, .inl t_readWalker))] H := hP
  replace hD : va_D A [(q_t, .inr (8, [.int t_thrown, .ref q_t_text, .int t_textSize, .int 0, .int t_depth, .int t_noon, .int t_later, .int t_walkers, .ref q_t_beat, .ref q_t_kind, .ref q_t_readSnow, .int t_readWalkers, .ref q_t_readWalker, .ref q_t_page, .ref q_t_trial, .ref q_t_book, .int t_acts, .ref q_t_kept, .ref q_t_isKept, .int t_marks, .ref q_t_markStep, .ref q_t_markTread, .long t_seed, .int t_stumbled, .ref q_t_order, .int t_lineMany, .int t_lineOrder, .int t_whoseMany, .int t_whoseFirst, .int t_restMany, .int t_restFirst, .ref q_t_gains, .ref q_t_value])), (q_t_text, .inl (cI, 48, .inl t_text)), (q_t_readSnow, .inl (cI, 3, .inl t_readSnow)), (q_t_readWalker, .inl (cI, 15, .inl t_readWalker))] := hD
  refine lv_aload_n hx hb dX8_readParty_5 rfl (lv_at hl 0 rfl) ?_
  refine lv_iconst (v := 0) hx hb dX8_readParty_6 (by decide) ?_
  refine va_put (D := (dC, dI)) (ci := 8) (v := .int 0) (ty := .int) (C := RX8) (T := TX8) (N := 33) hx hb hts hinX8 tyX8 tyX8_ok nmX8 hown hK.1 hP hD hS 0 rfl rfl 11 (by decide) w_3 (fun _ h9 => h9) rfl (by decide +kernel) rfl rfl (Nat.le_of_ble_eq_true rfl) dX8_readParty_7 (fun H locs hP hD hS => ?_)
  replace hP : va_P (dC, dI) vwCl [(q_t, .inr (8, [.int t_thrown, .ref q_t_text, .int t_textSize, .int 0, .int t_depth, .int t_noon, .int t_later, .int t_walkers, .ref q_t_beat, .ref q_t_kind, .ref q_t_readSnow, .int 0, .ref q_t_readWalker, .ref q_t_page, .ref q_t_trial, .ref q_t_book, .int t_acts, .ref q_t_kept, .ref q_t_isKept, .int t_marks, .ref q_t_markStep, .ref q_t_markTread, .long t_seed, .int t_stumbled, .ref q_t_order, .int t_lineMany, .int t_lineOrder, .int t_whoseMany, .int t_whoseFirst, .int t_restMany, .int t_restFirst, .ref q_t_gains, .ref q_t_value])), (q_t_text, .inl (cI, 48, .inl t_text)), (q_t_readSnow, .inl (cI, 3, .inl t_readSnow)), (q_t_readWalker, .inl (cI, 15, .inl t_readWalker))] H := hP
  replace hD : va_D A [(q_t, .inr (8, [.int t_thrown, .ref q_t_text, .int t_textSize, .int 0, .int t_depth, .int t_noon, .int t_later, .int t_walkers, .ref q_t_beat, .ref q_t_kind, .ref q_t_readSnow, .int 0, .ref q_t_readWalker, .ref q_t_page, .ref q_t_trial, .ref q_t_book, .int t_acts, .ref q_t_kept, .ref q_t_isKept, .int t_marks, .ref q_t_markStep, .ref q_t_markTread, .long t_seed, .int t_stumbled, .ref q_t_order, .int t_lineMany, .int t_lineOrder, .int t_whoseMany, .int t_whoseFirst, .int t_restMany, .int t_restFirst, .ref q_t_gains, .ref q_t_value])), (q_t_text, .inl (cI, 48, .inl t_text)), (q_t_readSnow, .inl (cI, 3, .inl t_readSnow)), (q_t_readWalker, .inl (cI, 15, .inl t_readWalker))] := hD
  refine lv_aload_n hx hb dX8_readParty_10 rfl (lv_at hl 0 rfl) ?_
  refine va_get (D := (dC, dI)) (ci := 8) (v := .int t_textSize) (C := RX8) (T := TX8) (N := 33) hx hb hts hinX8 hown hK.1 hP 0 rfl rfl 2 (by decide) w_1 (fun _ h9 => h9) rfl dX8_readParty_11 ?_
  refine lv_if_eq (tgt := 28) hx hb dX8_readParty_14 (by decide) (fun hc => ?_) (fun hc => ?_)
  · replace hf := ip hc hf
    refine lv_iconst (v := 0) hx hb dX8_readParty_28 (by decide) ?_
    obtain ⟨e0, hf⟩ := ij2 hf
    obtain ⟨e1, hf⟩ := ijc hf
    obtain ⟨e2, hf⟩ := ijc hf
    obtain ⟨e3, hf⟩ := ijc hf
    have e4 := hf
    refine W.eq (congrArg (fun z => F0 m 29 ls [.int z]) e0) ?_
    exact hret _ _ _ _ (by rw [← e1, ← e2, ← e3, ← e4]; exact hP) hS dX8_readParty_29
  · replace hf := iq hc hf
    refine lv_aload_n hx hb dX8_readParty_17 rfl (lv_at hl 0 rfl) ?_
    refine va_get (D := (dC, dI)) (ci := 8) (v := .ref q_t_text) (C := RX8) (T := TX8) (N := 33) hx hb hts hinX8 hown hK.1 hP 0 rfl rfl 1 (by decide) w_4 (fun _ h9 => h9) rfl dX8_readParty_18 ?_
    refine lv_iconst (v := 0) hx hb dX8_readParty_21 (by decide) ?_
    refine kald hx hb hK.1 hP 1 0 rfl rfl dX8_readParty_22 hf (fun v13 hf => ?_)
    refine lv_bipush (v := 80) hx hb dX8_readParty_23 (by decide) ?_
    refine lv_icmp_eq (tgt := 30) hx hb dX8_readParty_25 (by decide) (fun hc => ?_) (fun hc => ?_)
    · replace hf := ip hc hf
      refine lv_aload_n hx hb dX8_readParty_30 rfl (lv_at hl 0 rfl) ?_
      refine lv_iconst (v := 1) hx hb dX8_readParty_31 (by decide) ?_
      refine va_put (D := (dC, dI)) (ci := 8) (v := .int 1) (ty := .int) (C := RX8) (T := TX8) (N := 33) hx hb hts hinX8 tyX8 tyX8_ok nmX8 hown hK.1 hP hD hS 0 rfl rfl 3 (by decide) w_0 (fun _ h9 => h9) rfl (by decide +kernel) rfl rfl (Nat.le_of_ble_eq_true rfl) dX8_readParty_32 (fun H locs hP hD hS => ?_)
      replace hP : va_P (dC, dI) vwCl [(q_t, .inr (8, [.int t_thrown, .ref q_t_text, .int t_textSize, .int 1, .int t_depth, .int t_noon, .int t_later, .int t_walkers, .ref q_t_beat, .ref q_t_kind, .ref q_t_readSnow, .int 0, .ref q_t_readWalker, .ref q_t_page, .ref q_t_trial, .ref q_t_book, .int t_acts, .ref q_t_kept, .ref q_t_isKept, .int t_marks, .ref q_t_markStep, .ref q_t_markTread, .long t_seed, .int t_stumbled, .ref q_t_order, .int t_lineMany, .int t_lineOrder, .int t_whoseMany, .int t_whoseFirst, .int t_restMany, .int t_restFirst, .ref q_t_gains, .ref q_t_value])), (q_t_text, .inl (cI, 48, .inl t_text)), (q_t_readSnow, .inl (cI, 3, .inl t_readSnow)), (q_t_readWalker, .inl (cI, 15, .inl t_readWalker))] H := hP
      replace hD : va_D A [(q_t, .inr (8, [.int t_thrown, .ref q_t_text, .int t_textSize, .int 1, .int t_depth, .int t_noon, .int t_later, .int t_walkers, .ref q_t_beat, .ref q_t_kind, .ref q_t_readSnow, .int 0, .ref q_t_readWalker, .ref q_t_page, .ref q_t_trial, .ref q_t_book, .int t_acts, .ref q_t_kept, .ref q_t_isKept, .int t_marks, .ref q_t_markStep, .ref q_t_markTread, .long t_seed, .int t_stumbled, .ref q_t_order, .int t_lineMany, .int t_lineOrder, .int t_whoseMany, .int t_whoseFirst, .int t_restMany, .int t_restFirst, .ref q_t_gains, .ref q_t_value])), (q_t_text, .inl (cI, 48, .inl t_text)), (q_t_readSnow, .inl (cI, 3, .inl t_readSnow)), (q_t_readWalker, .inl (cI, 15, .inl t_readWalker))] := hD
      refine lv_iconst (v := 0) hx hb dX8_readParty_35 (by decide) ?_
      refine lv_istore_n (lv' := [(1, .int 0), (0, .ref q_t)]) hx hb dX8_readParty_36 rfl hl (by decide) rfl (fun ls hl => ?_)
      exact h_37 0 t_readWalker fuelC 0 1 t_readSnow _ _ _ hP hS (lv_sub hl [1, 0] rfl) hf
    · replace hf := iq hc hf
      refine lv_iconst (v := 0) hx hb dX8_readParty_28 (by decide) ?_
      obtain ⟨e0, hf⟩ := ij2 hf
      obtain ⟨e1, hf⟩ := ijc hf
      obtain ⟨e2, hf⟩ := ijc hf
      obtain ⟨e3, hf⟩ := ijc hf
      have e4 := hf
      refine W.eq (congrArg (fun z => F0 m 29 ls [.int z]) e0) ?_
      exact hret _ _ _ _ (by rw [← e1, ← e2, ← e3, ← e4]; exact hP) hS dX8_readParty_29
abbrev rm_X8_fault : Room := { frames := 4, cells := 0, slots := 0, locals := 91 }
set_option maxHeartbeats 4000000 in
set_option maxRecDepth 100000 in
theorem c_X8_fault (l : Launch) (dC : Nat → ClassId) (dI : Nat → Nat → Nat) (cI cZ : ClassId) (q_t q_t_text q_t_beat q_t_kind q_t_readSnow q_t_readWalker q_t_page q_t_trial q_t_book q_t_kept q_t_isKept q_t_markStep q_t_markTread q_t_order q_t_gains q_t_value : Nat) (sz : Nat) (t_thrown : Int32) (t_textSize : Int32) (t_place : Int32) (t_depth : Int32) (t_noon : Int32) (t_later : Int32) (t_walkers : Int32) (t_readWalkers : Int32) (t_acts : Int32) (t_marks : Int32) (t_seed : Int64) (t_stumbled : Int32) (t_lineMany : Int32) (t_lineOrder : Int32) (t_whoseMany : Int32) (t_whoseFirst : Int32) (t_restMany : Int32) (t_restFirst : Int32) (t_text : Nat → Int32) (t_readSnow : Nat → Int32) (t_readWalker : Nat → Int32) (r_ : Int32) (o_t_thrown : Int32) (o_t_place : Int32) (o_t_readWalkers : Int32) (o_t_readSnow : Nat → Int32) (o_t_readWalker : Nat → Int32) (hf : f_X8_fault t_thrown t_textSize t_place t_readWalkers t_text t_readSnow t_readWalker = some (r_, o_t_thrown, o_t_place, o_t_readWalkers, o_t_readSnow, o_t_readWalker)) : Met l yX8_fault wsX8_fault rm_X8_fault (va_Pc [.ref q_t] (PU (dC, dI) cI cZ [(q_t, .inr (8, [.int t_thrown, .ref q_t_text, .int t_textSize, .int t_place, .int t_depth, .int t_noon, .int t_later, .int t_walkers, .ref q_t_beat, .ref q_t_kind, .ref q_t_readSnow, .int t_readWalkers, .ref q_t_readWalker, .ref q_t_page, .ref q_t_trial, .ref q_t_book, .int t_acts, .ref q_t_kept, .ref q_t_isKept, .int t_marks, .ref q_t_markStep, .ref q_t_markTread, .long t_seed, .int t_stumbled, .ref q_t_order, .int t_lineMany, .int t_lineOrder, .int t_whoseMany, .int t_whoseFirst, .int t_restMany, .int t_restFirst, .ref q_t_gains, .ref q_t_value])), (q_t_text, .inl (cI, 48, .inl t_text)), (q_t_readSnow, .inl (cI, 3, .inl t_readSnow)), (q_t_readWalker, .inl (cI, 15, .inl t_readWalker))] sz)) (va_Qi (fun (r : Int32) (_ : Unit) => r = r_) (fun _ t => va_P (dC, dI) vwCl [(q_t, .inr (8, [.int o_t_thrown, .ref q_t_text, .int t_textSize, .int o_t_place, .int t_depth, .int t_noon, .int t_later, .int t_walkers, .ref q_t_beat, .ref q_t_kind, .ref q_t_readSnow, .int o_t_readWalkers, .ref q_t_readWalker, .ref q_t_page, .ref q_t_trial, .ref q_t_book, .int t_acts, .ref q_t_kept, .ref q_t_isKept, .int t_marks, .ref q_t_markStep, .ref q_t_markTread, .long t_seed, .int t_stumbled, .ref q_t_order, .int t_lineMany, .int t_lineOrder, .int t_whoseMany, .int t_whoseFirst, .int t_restMany, .int t_restFirst, .ref q_t_gains, .ref q_t_value])), (q_t_text, .inl (cI, 48, .inl t_text)), (q_t_readSnow, .inl (cI, 3, .inl o_t_readSnow)), (q_t_readWalker, .inl (cI, 15, .inl o_t_readWalker))] t.heap) (va_A [(q_t, .inr (8, [.int t_thrown, .ref q_t_text, .int t_textSize, .int t_place, .int t_depth, .int t_noon, .int t_later, .int t_walkers, .ref q_t_beat, .ref q_t_kind, .ref q_t_readSnow, .int t_readWalkers, .ref q_t_readWalker, .ref q_t_page, .ref q_t_trial, .ref q_t_book, .int t_acts, .ref q_t_kept, .ref q_t_isKept, .int t_marks, .ref q_t_markStep, .ref q_t_markTread, .long t_seed, .int t_stumbled, .ref q_t_order, .int t_lineMany, .int t_lineOrder, .int t_whoseMany, .int t_whoseFirst, .int t_restMany, .int t_restFirst, .ref q_t_gains, .ref q_t_value])), (q_t_text, .inl (cI, 48, .inl t_text)), (q_t_readSnow, .inl (cI, 3, .inl t_readSnow)), (q_t_readWalker, .inl (cI, 15, .inl t_readWalker))] sz)) 0 0 (va_A [(q_t, .inr (8, [.int t_thrown, .ref q_t_text, .int t_textSize, .int t_place, .int t_depth, .int t_noon, .int t_later, .int t_walkers, .ref q_t_beat, .ref q_t_kind, .ref q_t_readSnow, .int t_readWalkers, .ref q_t_readWalker, .ref q_t_page, .ref q_t_trial, .ref q_t_book, .int t_acts, .ref q_t_kept, .ref q_t_isKept, .int t_marks, .ref q_t_markStep, .ref q_t_markTread, .long t_seed, .int t_stumbled, .ref q_t_order, .int t_lineMany, .int t_lineOrder, .int t_whoseMany, .int t_whoseFirst, .int t_restMany, .int t_restFirst, .ref q_t_gains, .ref q_t_value])), (q_t_text, .inl (cI, 48, .inl t_text)), (q_t_readSnow, .inl (cI, 3, .inl t_readSnow)), (q_t_readWalker, .inl (cI, 15, .inl t_readWalker))] sz) := by
  refine MetI (cc := cX8_fault) (maxL := 1) (by decide) rfl (Nat.le_of_ble_eq_true rfl) (fun _ h => h) ?_
  intro p e s m args below meth c A Q ls hx CF hK hA hD hP hS hl hB hAe hsz hret
  have hb := CF.2.1
  have hml := CF.2.2.1
  have hown := CF.2.2.2.1
  have hts := CF.2.2.2.2
  have hD0 := hD
  replace hl : lv_has ls 1 [(0, .ref q_t)] := hl
  have hinX8 : ∀ w ∈ wsX80, w ∈ wsX8_fault := fun _ h => List.mem_cons_of_mem _ (List.mem_append_right _ h)
  have w_0 := hts (.fieldLink RX8 63 "PassInStepModel" "thrown" "I") (by decide +kernel)
  rw [f_X8_fault] at hf
  refine lv_aload_n hx hb dX8_fault_0 rfl (lv_at hl 0 rfl) ?_
  refine lv_iconst (v := 0) hx hb dX8_fault_1 (by decide) ?_
  refine va_put (D := (dC, dI)) (ci := 8) (v := .int 0) (ty := .int) (C := RX8) (T := TX8) (N := 33) hx hb hts hinX8 tyX8 tyX8_ok nmX8 hown hK.1 hP hD hS 0 rfl rfl 0 (by decide) w_0 (fun _ h9 => h9) rfl (by decide +kernel) rfl rfl (Nat.le_of_ble_eq_true rfl) dX8_fault_2 (fun H locs hP hD hS => ?_)
  replace hP : va_P (dC, dI) vwCl [(q_t, .inr (8, [.int 0, .ref q_t_text, .int t_textSize, .int t_place, .int t_depth, .int t_noon, .int t_later, .int t_walkers, .ref q_t_beat, .ref q_t_kind, .ref q_t_readSnow, .int t_readWalkers, .ref q_t_readWalker, .ref q_t_page, .ref q_t_trial, .ref q_t_book, .int t_acts, .ref q_t_kept, .ref q_t_isKept, .int t_marks, .ref q_t_markStep, .ref q_t_markTread, .long t_seed, .int t_stumbled, .ref q_t_order, .int t_lineMany, .int t_lineOrder, .int t_whoseMany, .int t_whoseFirst, .int t_restMany, .int t_restFirst, .ref q_t_gains, .ref q_t_value])), (q_t_text, .inl (cI, 48, .inl t_text)), (q_t_readSnow, .inl (cI, 3, .inl t_readSnow)), (q_t_readWalker, .inl (cI, 15, .inl t_readWalker))] H := hP
  replace hD : va_D A [(q_t, .inr (8, [.int 0, .ref q_t_text, .int t_textSize, .int t_place, .int t_depth, .int t_noon, .int t_later, .int t_walkers, .ref q_t_beat, .ref q_t_kind, .ref q_t_readSnow, .int t_readWalkers, .ref q_t_readWalker, .ref q_t_page, .ref q_t_trial, .ref q_t_book, .int t_acts, .ref q_t_kept, .ref q_t_isKept, .int t_marks, .ref q_t_markStep, .ref q_t_markTread, .long t_seed, .int t_stumbled, .ref q_t_order, .int t_lineMany, .int t_lineOrder, .int t_whoseMany, .int t_whoseFirst, .int t_restMany, .int t_restFirst, .ref q_t_gains, .ref q_t_value])), (q_t_text, .inl (cI, 48, .inl t_text)), (q_t_readSnow, .inl (cI, 3, .inl t_readSnow)), (q_t_readWalker, .inl (cI, 15, .inl t_readWalker))] := hD
  refine lv_aload_n hx hb dX8_fault_5 rfl (lv_at hl 0 rfl) ?_
  obtain ⟨⟨r1, o2, o3, o4, o5⟩, e7, hf⟩ := bd_ok hf
  refine kVi (As := []) CF (cwV 0 hts gX8_fault_X8_readParty rfl rfl rfl (by decide +kernel) ⟨Nat.le_of_ble_eq_true rfl, Nat.le_of_ble_eq_true rfl⟩) PU_blind hP hD hS hA (va_recv hK.1 hP (ci := 8) (q0 := 0) rfl rfl) [0, 1, 2, 3] (fun h1 h2 h3 => PU_pre hK h1 A h2 h3) (c_X8_readParty l dC dI cI cZ q_t q_t_text q_t_beat q_t_kind q_t_readSnow q_t_readWalker q_t_page q_t_trial q_t_book q_t_kept q_t_isKept q_t_markStep q_t_markTread q_t_order q_t_gains q_t_value _ 0 t_textSize t_place t_depth t_noon t_later t_walkers t_readWalkers t_acts t_marks t_seed t_stumbled t_lineMany t_lineOrder t_whoseMany t_whoseFirst t_restMany t_restFirst t_text t_readSnow t_readWalker r1 o2 o3 o4 o5 e7) rfl rfl rfl rfl hl.1 rfl (Nat.le_of_ble_eq_true rfl) dX8_fault_6 ⟨Nat.zero_le _, Nat.zero_le _⟩ (fun H locs hP hS => ?_)
  replace hP : va_P (dC, dI) vwCl [(q_t, .inr (8, [.int 0, .ref q_t_text, .int t_textSize, .int o2, .int t_depth, .int t_noon, .int t_later, .int t_walkers, .ref q_t_beat, .ref q_t_kind, .ref q_t_readSnow, .int o3, .ref q_t_readWalker, .ref q_t_page, .ref q_t_trial, .ref q_t_book, .int t_acts, .ref q_t_kept, .ref q_t_isKept, .int t_marks, .ref q_t_markStep, .ref q_t_markTread, .long t_seed, .int t_stumbled, .ref q_t_order, .int t_lineMany, .int t_lineOrder, .int t_whoseMany, .int t_whoseFirst, .int t_restMany, .int t_restFirst, .ref q_t_gains, .ref q_t_value])), (q_t_text, .inl (cI, 48, .inl t_text)), (q_t_readSnow, .inl (cI, 3, .inl o4)), (q_t_readWalker, .inl (cI, 15, .inl o5))] H := hP
  replace hD : va_D A [(q_t, .inr (8, [.int 0, .ref q_t_text, .int t_textSize, .int o2, .int t_depth, .int t_noon, .int t_later, .int t_walkers, .ref q_t_beat, .ref q_t_kind, .ref q_t_readSnow, .int o3, .ref q_t_readWalker, .ref q_t_page, .ref q_t_trial, .ref q_t_book, .int t_acts, .ref q_t_kept, .ref q_t_isKept, .int t_marks, .ref q_t_markStep, .ref q_t_markTread, .long t_seed, .int t_stumbled, .ref q_t_order, .int t_lineMany, .int t_lineOrder, .int t_whoseMany, .int t_whoseFirst, .int t_restMany, .int t_restFirst, .ref q_t_gains, .ref q_t_value])), (q_t_text, .inl (cI, 48, .inl t_text)), (q_t_readSnow, .inl (cI, 3, .inl o4)), (q_t_readWalker, .inl (cI, 15, .inl o5))] := wd hD rfl
  obtain ⟨e0, hf⟩ := ij2 hf
  obtain ⟨e1, hf⟩ := ijc hf
  obtain ⟨e2, hf⟩ := ijc hf
  obtain ⟨e3, hf⟩ := ijc hf
  obtain ⟨e4, hf⟩ := ijc hf
  have e5 := hf
  refine W.eq (congrArg (fun z => F0 m 9 ls [.int z]) e0) ?_
  exact hret _ _ _ _ (by rw [← e1, ← e2, ← e3, ← e4, ← e5]; exact hP) hS dX8_fault_9
abbrev rm_X8_party : Room := { frames := 4, cells := 0, slots := 0, locals := 91 }
set_option maxHeartbeats 4000000 in
set_option maxRecDepth 100000 in
theorem c_X8_party (l : Launch) (dC : Nat → ClassId) (dI : Nat → Nat → Nat) (cI cZ : ClassId) (q_t q_t_text q_t_beat q_t_kind q_t_readSnow q_t_readWalker q_t_page q_t_trial q_t_book q_t_kept q_t_isKept q_t_markStep q_t_markTread q_t_order q_t_gains q_t_value : Nat) (sz : Nat) (t_thrown : Int32) (t_textSize : Int32) (t_place : Int32) (t_depth : Int32) (t_noon : Int32) (t_later : Int32) (t_walkers : Int32) (t_readWalkers : Int32) (t_acts : Int32) (t_marks : Int32) (t_seed : Int64) (t_stumbled : Int32) (t_lineMany : Int32) (t_lineOrder : Int32) (t_whoseMany : Int32) (t_whoseFirst : Int32) (t_restMany : Int32) (t_restFirst : Int32) (t_text : Nat → Int32) (t_readSnow : Nat → Int32) (t_readWalker : Nat → Int32) (t_page : Nat → Int32) (t_beat : Nat → Int32) (t_kind : Nat → Int32) (t_isKept : Nat → Int32) (r_ : Int32) (o_t_thrown : Int32) (o_t_place : Int32) (o_t_depth : Int32) (o_t_noon : Int32) (o_t_later : Int32) (o_t_walkers : Int32) (o_t_readWalkers : Int32) (o_t_acts : Int32) (o_t_readSnow : Nat → Int32) (o_t_readWalker : Nat → Int32) (o_t_page : Nat → Int32) (o_t_beat : Nat → Int32) (o_t_kind : Nat → Int32) (o_t_isKept : Nat → Int32) (hf : f_X8_party t_thrown t_textSize t_place t_depth t_noon t_later t_walkers t_readWalkers t_acts t_text t_readSnow t_readWalker t_page t_beat t_kind t_isKept = some (r_, o_t_thrown, o_t_place, o_t_depth, o_t_noon, o_t_later, o_t_walkers, o_t_readWalkers, o_t_acts, o_t_readSnow, o_t_readWalker, o_t_page, o_t_beat, o_t_kind, o_t_isKept)) : Met l yX8_party wsX8_party rm_X8_party (va_Pc [.ref q_t] (PU (dC, dI) cI cZ [(q_t, .inr (8, [.int t_thrown, .ref q_t_text, .int t_textSize, .int t_place, .int t_depth, .int t_noon, .int t_later, .int t_walkers, .ref q_t_beat, .ref q_t_kind, .ref q_t_readSnow, .int t_readWalkers, .ref q_t_readWalker, .ref q_t_page, .ref q_t_trial, .ref q_t_book, .int t_acts, .ref q_t_kept, .ref q_t_isKept, .int t_marks, .ref q_t_markStep, .ref q_t_markTread, .long t_seed, .int t_stumbled, .ref q_t_order, .int t_lineMany, .int t_lineOrder, .int t_whoseMany, .int t_whoseFirst, .int t_restMany, .int t_restFirst, .ref q_t_gains, .ref q_t_value])), (q_t_text, .inl (cI, 48, .inl t_text)), (q_t_readSnow, .inl (cI, 3, .inl t_readSnow)), (q_t_readWalker, .inl (cI, 15, .inl t_readWalker)), (q_t_page, .inl (cI, 17, .inl t_page)), (q_t_beat, .inl (cI, 5, .inl t_beat)), (q_t_kind, .inl (cI, 5, .inl t_kind)), (q_t_isKept, .inl (cZ, 2, .inl t_isKept))] sz)) (va_Qi (fun (r : Int32) (_ : Unit) => r = r_) (fun _ t => va_P (dC, dI) vwCl [(q_t, .inr (8, [.int o_t_thrown, .ref q_t_text, .int t_textSize, .int o_t_place, .int o_t_depth, .int o_t_noon, .int o_t_later, .int o_t_walkers, .ref q_t_beat, .ref q_t_kind, .ref q_t_readSnow, .int o_t_readWalkers, .ref q_t_readWalker, .ref q_t_page, .ref q_t_trial, .ref q_t_book, .int o_t_acts, .ref q_t_kept, .ref q_t_isKept, .int t_marks, .ref q_t_markStep, .ref q_t_markTread, .long t_seed, .int t_stumbled, .ref q_t_order, .int t_lineMany, .int t_lineOrder, .int t_whoseMany, .int t_whoseFirst, .int t_restMany, .int t_restFirst, .ref q_t_gains, .ref q_t_value])), (q_t_text, .inl (cI, 48, .inl t_text)), (q_t_readSnow, .inl (cI, 3, .inl o_t_readSnow)), (q_t_readWalker, .inl (cI, 15, .inl o_t_readWalker)), (q_t_page, .inl (cI, 17, .inl o_t_page)), (q_t_beat, .inl (cI, 5, .inl o_t_beat)), (q_t_kind, .inl (cI, 5, .inl o_t_kind)), (q_t_isKept, .inl (cZ, 2, .inl o_t_isKept))] t.heap) (va_A [(q_t, .inr (8, [.int t_thrown, .ref q_t_text, .int t_textSize, .int t_place, .int t_depth, .int t_noon, .int t_later, .int t_walkers, .ref q_t_beat, .ref q_t_kind, .ref q_t_readSnow, .int t_readWalkers, .ref q_t_readWalker, .ref q_t_page, .ref q_t_trial, .ref q_t_book, .int t_acts, .ref q_t_kept, .ref q_t_isKept, .int t_marks, .ref q_t_markStep, .ref q_t_markTread, .long t_seed, .int t_stumbled, .ref q_t_order, .int t_lineMany, .int t_lineOrder, .int t_whoseMany, .int t_whoseFirst, .int t_restMany, .int t_restFirst, .ref q_t_gains, .ref q_t_value])), (q_t_text, .inl (cI, 48, .inl t_text)), (q_t_readSnow, .inl (cI, 3, .inl t_readSnow)), (q_t_readWalker, .inl (cI, 15, .inl t_readWalker)), (q_t_page, .inl (cI, 17, .inl t_page)), (q_t_beat, .inl (cI, 5, .inl t_beat)), (q_t_kind, .inl (cI, 5, .inl t_kind)), (q_t_isKept, .inl (cZ, 2, .inl t_isKept))] sz)) 0 0 (va_A [(q_t, .inr (8, [.int t_thrown, .ref q_t_text, .int t_textSize, .int t_place, .int t_depth, .int t_noon, .int t_later, .int t_walkers, .ref q_t_beat, .ref q_t_kind, .ref q_t_readSnow, .int t_readWalkers, .ref q_t_readWalker, .ref q_t_page, .ref q_t_trial, .ref q_t_book, .int t_acts, .ref q_t_kept, .ref q_t_isKept, .int t_marks, .ref q_t_markStep, .ref q_t_markTread, .long t_seed, .int t_stumbled, .ref q_t_order, .int t_lineMany, .int t_lineOrder, .int t_whoseMany, .int t_whoseFirst, .int t_restMany, .int t_restFirst, .ref q_t_gains, .ref q_t_value])), (q_t_text, .inl (cI, 48, .inl t_text)), (q_t_readSnow, .inl (cI, 3, .inl t_readSnow)), (q_t_readWalker, .inl (cI, 15, .inl t_readWalker)), (q_t_page, .inl (cI, 17, .inl t_page)), (q_t_beat, .inl (cI, 5, .inl t_beat)), (q_t_kind, .inl (cI, 5, .inl t_kind)), (q_t_isKept, .inl (cZ, 2, .inl t_isKept))] sz) := by
  refine MetI (cc := cX8_party) (maxL := 2) (by decide) rfl (Nat.le_of_ble_eq_true rfl) (fun _ h => h) ?_
  intro p e s m args below meth c A Q ls hx CF hK hA hD hP hS hl hB hAe hsz hret
  have hb := CF.2.1
  have hml := CF.2.2.1
  have hown := CF.2.2.2.1
  have hts := CF.2.2.2.2
  have hD0 := hD
  replace hl : lv_has ls 2 [(0, .ref q_t)] := hl
  have hinX8 : ∀ w ∈ wsX80, w ∈ wsX8_party := fun _ h => List.mem_cons_of_mem _ (List.mem_append_right _ h)
  have w_0 := hts (.fieldLink RX8 66 "PassInStepModel" "walkers" "I") (by decide +kernel)
  have w_1 := hts (.fieldLink RX8 99 "PassInStepModel" "acts" "I") (by decide +kernel)
  have w_2 := hts (.fieldLink RX8 44 "PassInStepModel" "isKept" "[Z") (by decide +kernel)
  have w_3 := hts (.fieldLink RX8 32 "PassInStepModel" "page" "[I") (by decide +kernel)
  have w_4 := hts (.fieldLink RX8 29 "PassInStepModel" "readWalker" "[I") (by decide +kernel)
  have w_5 := hts (.fieldLink RX8 20 "PassInStepModel" "beat" "[I") (by decide +kernel)
  have w_6 := hts (.fieldLink RX8 23 "PassInStepModel" "kind" "[I") (by decide +kernel)
  have w_7 := hts (.fieldLink RX8 63 "PassInStepModel" "thrown" "I") (by decide +kernel)
  have w_8 := hts (.fieldLink RX8 26 "PassInStepModel" "readSnow" "[I") (by decide +kernel)
  have w_9 := hts (.fieldLink RX8 13 "PassInStepModel" "depth" "I") (by decide +kernel)
  have w_10 := hts (.fieldLink RX8 96 "PassInStepModel" "noon" "I") (by decide +kernel)
  have w_11 := hts (.fieldLink RX8 17 "PassInStepModel" "later" "I") (by decide +kernel)
  have w_12 := hts (.fieldLink RX8 81 "PassInStepModel" "readWalkers" "I") (by decide +kernel)
  have h_78 : ∀ (t_thrown : Int32) (t_place : Int32) (t_depth : Int32) (t_noon : Int32) (t_later : Int32) (t_walkers : Int32) (t_readWalkers : Int32) (t_acts : Int32) (t_readSnow : Nat → Int32) (t_readWalker : Nat → Int32) (t_isKept : Nat → Int32) (fu78 : Nat) (x1 : Int32) (t_page : Nat → Int32) (t_beat : Nat → Int32) (t_kind : Nat → Int32) (H : Heap) (locs : List Loc) (ls : Array Slot), va_P (dC, dI) vwCl [(q_t, .inr (8, [.int t_thrown, .ref q_t_text, .int t_textSize, .int t_place, .int t_depth, .int t_noon, .int t_later, .int t_walkers, .ref q_t_beat, .ref q_t_kind, .ref q_t_readSnow, .int t_readWalkers, .ref q_t_readWalker, .ref q_t_page, .ref q_t_trial, .ref q_t_book, .int t_acts, .ref q_t_kept, .ref q_t_isKept, .int t_marks, .ref q_t_markStep, .ref q_t_markTread, .long t_seed, .int t_stumbled, .ref q_t_order, .int t_lineMany, .int t_lineOrder, .int t_whoseMany, .int t_whoseFirst, .int t_restMany, .int t_restFirst, .ref q_t_gains, .ref q_t_value])), (q_t_text, .inl (cI, 48, .inl t_text)), (q_t_readSnow, .inl (cI, 3, .inl t_readSnow)), (q_t_readWalker, .inl (cI, 15, .inl t_readWalker)), (q_t_page, .inl (cI, 17, .inl t_page)), (q_t_beat, .inl (cI, 5, .inl t_beat)), (q_t_kind, .inl (cI, 5, .inl t_kind)), (q_t_isKept, .inl (cZ, 2, .inl t_isKept))] H → va_S A s.heap H locs → lv_has ls 2 [(0, .ref q_t), (1, .int x1)] → L_X8_party_78 t_thrown t_place t_depth t_noon t_later t_walkers t_readWalkers t_acts t_readSnow t_readWalker t_isKept fu78 x1 t_page t_beat t_kind = some (r_, o_t_thrown, o_t_place, o_t_depth, o_t_noon, o_t_later, o_t_walkers, o_t_readWalkers, o_t_acts, o_t_readSnow, o_t_readWalker, o_t_page, o_t_beat, o_t_kind, o_t_isKept) → W p l e rm_X8_party s m args below meth c H locs 0 0 Q (F0 m 78 ls []) := by
    intro t_thrown t_place t_depth t_noon t_later t_walkers t_readWalkers t_acts t_readSnow t_readWalker t_isKept fu78
    induction fu78 with
    | zero =>
      intro x1 t_page t_beat t_kind H locs ls hP hS hl hf
      rw [L_X8_party_78] at hf
      cases hf
    | succ fu78 ih78 =>
      intro x1 t_page t_beat t_kind H locs ls hP hS hl hf
      have hD : va_D A [(q_t, .inr (8, [.int t_thrown, .ref q_t_text, .int t_textSize, .int t_place, .int t_depth, .int t_noon, .int t_later, .int t_walkers, .ref q_t_beat, .ref q_t_kind, .ref q_t_readSnow, .int t_readWalkers, .ref q_t_readWalker, .ref q_t_page, .ref q_t_trial, .ref q_t_book, .int t_acts, .ref q_t_kept, .ref q_t_isKept, .int t_marks, .ref q_t_markStep, .ref q_t_markTread, .long t_seed, .int t_stumbled, .ref q_t_order, .int t_lineMany, .int t_lineOrder, .int t_whoseMany, .int t_whoseFirst, .int t_restMany, .int t_restFirst, .ref q_t_gains, .ref q_t_value])), (q_t_text, .inl (cI, 48, .inl t_text)), (q_t_readSnow, .inl (cI, 3, .inl t_readSnow)), (q_t_readWalker, .inl (cI, 15, .inl t_readWalker)), (q_t_page, .inl (cI, 17, .inl t_page)), (q_t_beat, .inl (cI, 5, .inl t_beat)), (q_t_kind, .inl (cI, 5, .inl t_kind)), (q_t_isKept, .inl (cZ, 2, .inl t_isKept))] := wd hD0 rfl
      rw [L_X8_party_78] at hf
      refine lv_iload_n hx hb dX8_party_78 rfl (lv_at hl 1 rfl) ?_
      refine lv_aload_n hx hb dX8_party_79 rfl (lv_at hl 0 rfl) ?_
      refine va_get (D := (dC, dI)) (ci := 8) (v := .int t_walkers) (C := RX8) (T := TX8) (N := 33) hx hb hts hinX8 hown hK.1 hP 0 rfl rfl 7 (by decide) w_0 (fun _ h9 => h9) rfl dX8_party_80 ?_
      refine lv_icmp_ge (tgt := 149) hx hb dX8_party_83 (by decide) (fun hc => ?_) (fun hc => ?_)
      · replace hf := ip hc hf
        refine lv_aload_n hx hb dX8_party_149 rfl (lv_at hl 0 rfl) ?_
        refine lv_iconst (v := 0) hx hb dX8_party_150 (by decide) ?_
        refine va_put (D := (dC, dI)) (ci := 8) (v := .int 0) (ty := .int) (C := RX8) (T := TX8) (N := 33) hx hb hts hinX8 tyX8 tyX8_ok nmX8 hown hK.1 hP hD hS 0 rfl rfl 16 (by decide) w_1 (fun _ h9 => h9) rfl (by decide +kernel) rfl rfl (Nat.le_of_ble_eq_true rfl) dX8_party_151 (fun H locs hP hD hS => ?_)
        replace hP : va_P (dC, dI) vwCl [(q_t, .inr (8, [.int t_thrown, .ref q_t_text, .int t_textSize, .int t_place, .int t_depth, .int t_noon, .int t_later, .int t_walkers, .ref q_t_beat, .ref q_t_kind, .ref q_t_readSnow, .int t_readWalkers, .ref q_t_readWalker, .ref q_t_page, .ref q_t_trial, .ref q_t_book, .int 0, .ref q_t_kept, .ref q_t_isKept, .int t_marks, .ref q_t_markStep, .ref q_t_markTread, .long t_seed, .int t_stumbled, .ref q_t_order, .int t_lineMany, .int t_lineOrder, .int t_whoseMany, .int t_whoseFirst, .int t_restMany, .int t_restFirst, .ref q_t_gains, .ref q_t_value])), (q_t_text, .inl (cI, 48, .inl t_text)), (q_t_readSnow, .inl (cI, 3, .inl t_readSnow)), (q_t_readWalker, .inl (cI, 15, .inl t_readWalker)), (q_t_page, .inl (cI, 17, .inl t_page)), (q_t_beat, .inl (cI, 5, .inl t_beat)), (q_t_kind, .inl (cI, 5, .inl t_kind)), (q_t_isKept, .inl (cZ, 2, .inl t_isKept))] H := hP
        replace hD : va_D A [(q_t, .inr (8, [.int t_thrown, .ref q_t_text, .int t_textSize, .int t_place, .int t_depth, .int t_noon, .int t_later, .int t_walkers, .ref q_t_beat, .ref q_t_kind, .ref q_t_readSnow, .int t_readWalkers, .ref q_t_readWalker, .ref q_t_page, .ref q_t_trial, .ref q_t_book, .int 0, .ref q_t_kept, .ref q_t_isKept, .int t_marks, .ref q_t_markStep, .ref q_t_markTread, .long t_seed, .int t_stumbled, .ref q_t_order, .int t_lineMany, .int t_lineOrder, .int t_whoseMany, .int t_whoseFirst, .int t_restMany, .int t_restFirst, .ref q_t_gains, .ref q_t_value])), (q_t_text, .inl (cI, 48, .inl t_text)), (q_t_readSnow, .inl (cI, 3, .inl t_readSnow)), (q_t_readWalker, .inl (cI, 15, .inl t_readWalker)), (q_t_page, .inl (cI, 17, .inl t_page)), (q_t_beat, .inl (cI, 5, .inl t_beat)), (q_t_kind, .inl (cI, 5, .inl t_kind)), (q_t_isKept, .inl (cZ, 2, .inl t_isKept))] := hD
        refine lv_aload_n hx hb dX8_party_154 rfl (lv_at hl 0 rfl) ?_
        refine va_get (D := (dC, dI)) (ci := 8) (v := .ref q_t_isKept) (C := RX8) (T := TX8) (N := 33) hx hb hts hinX8 hown hK.1 hP 0 rfl rfl 18 (by decide) w_2 (fun _ h9 => h9) rfl dX8_party_155 ?_
        refine lv_iconst (v := 0) hx hb dX8_party_158 (by decide) ?_
        refine lv_iconst (v := 0) hx hb dX8_party_159 (by decide) ?_
        refine kzast hx hb hK.1 hP hD hS 7 1 rfl rfl dX8_party_160 hf (fun w1 H locs hP hD hS hf => ?_)
        replace hP : va_P (dC, dI) vwCl [(q_t, .inr (8, [.int t_thrown, .ref q_t_text, .int t_textSize, .int t_place, .int t_depth, .int t_noon, .int t_later, .int t_walkers, .ref q_t_beat, .ref q_t_kind, .ref q_t_readSnow, .int t_readWalkers, .ref q_t_readWalker, .ref q_t_page, .ref q_t_trial, .ref q_t_book, .int 0, .ref q_t_kept, .ref q_t_isKept, .int t_marks, .ref q_t_markStep, .ref q_t_markTread, .long t_seed, .int t_stumbled, .ref q_t_order, .int t_lineMany, .int t_lineOrder, .int t_whoseMany, .int t_whoseFirst, .int t_restMany, .int t_restFirst, .ref q_t_gains, .ref q_t_value])), (q_t_text, .inl (cI, 48, .inl t_text)), (q_t_readSnow, .inl (cI, 3, .inl t_readSnow)), (q_t_readWalker, .inl (cI, 15, .inl t_readWalker)), (q_t_page, .inl (cI, 17, .inl t_page)), (q_t_beat, .inl (cI, 5, .inl t_beat)), (q_t_kind, .inl (cI, 5, .inl t_kind)), (q_t_isKept, .inl (cZ, 2, .inl w1))] H := hP
        replace hD : va_D A [(q_t, .inr (8, [.int t_thrown, .ref q_t_text, .int t_textSize, .int t_place, .int t_depth, .int t_noon, .int t_later, .int t_walkers, .ref q_t_beat, .ref q_t_kind, .ref q_t_readSnow, .int t_readWalkers, .ref q_t_readWalker, .ref q_t_page, .ref q_t_trial, .ref q_t_book, .int 0, .ref q_t_kept, .ref q_t_isKept, .int t_marks, .ref q_t_markStep, .ref q_t_markTread, .long t_seed, .int t_stumbled, .ref q_t_order, .int t_lineMany, .int t_lineOrder, .int t_whoseMany, .int t_whoseFirst, .int t_restMany, .int t_restFirst, .ref q_t_gains, .ref q_t_value])), (q_t_text, .inl (cI, 48, .inl t_text)), (q_t_readSnow, .inl (cI, 3, .inl t_readSnow)), (q_t_readWalker, .inl (cI, 15, .inl t_readWalker)), (q_t_page, .inl (cI, 17, .inl t_page)), (q_t_beat, .inl (cI, 5, .inl t_beat)), (q_t_kind, .inl (cI, 5, .inl t_kind)), (q_t_isKept, .inl (cZ, 2, .inl w1))] := hD
        refine lv_aload_n hx hb dX8_party_161 rfl (lv_at hl 0 rfl) ?_
        refine va_get (D := (dC, dI)) (ci := 8) (v := .ref q_t_isKept) (C := RX8) (T := TX8) (N := 33) hx hb hts hinX8 hown hK.1 hP 0 rfl rfl 18 (by decide) w_2 (fun _ h9 => h9) rfl dX8_party_162 ?_
        refine lv_iconst (v := 1) hx hb dX8_party_165 (by decide) ?_
        refine lv_iconst (v := 0) hx hb dX8_party_166 (by decide) ?_
        refine kzast hx hb hK.1 hP hD hS 7 1 rfl rfl dX8_party_167 hf (fun w2 H locs hP hD hS hf => ?_)
        replace hP : va_P (dC, dI) vwCl [(q_t, .inr (8, [.int t_thrown, .ref q_t_text, .int t_textSize, .int t_place, .int t_depth, .int t_noon, .int t_later, .int t_walkers, .ref q_t_beat, .ref q_t_kind, .ref q_t_readSnow, .int t_readWalkers, .ref q_t_readWalker, .ref q_t_page, .ref q_t_trial, .ref q_t_book, .int 0, .ref q_t_kept, .ref q_t_isKept, .int t_marks, .ref q_t_markStep, .ref q_t_markTread, .long t_seed, .int t_stumbled, .ref q_t_order, .int t_lineMany, .int t_lineOrder, .int t_whoseMany, .int t_whoseFirst, .int t_restMany, .int t_restFirst, .ref q_t_gains, .ref q_t_value])), (q_t_text, .inl (cI, 48, .inl t_text)), (q_t_readSnow, .inl (cI, 3, .inl t_readSnow)), (q_t_readWalker, .inl (cI, 15, .inl t_readWalker)), (q_t_page, .inl (cI, 17, .inl t_page)), (q_t_beat, .inl (cI, 5, .inl t_beat)), (q_t_kind, .inl (cI, 5, .inl t_kind)), (q_t_isKept, .inl (cZ, 2, .inl w2))] H := hP
        replace hD : va_D A [(q_t, .inr (8, [.int t_thrown, .ref q_t_text, .int t_textSize, .int t_place, .int t_depth, .int t_noon, .int t_later, .int t_walkers, .ref q_t_beat, .ref q_t_kind, .ref q_t_readSnow, .int t_readWalkers, .ref q_t_readWalker, .ref q_t_page, .ref q_t_trial, .ref q_t_book, .int 0, .ref q_t_kept, .ref q_t_isKept, .int t_marks, .ref q_t_markStep, .ref q_t_markTread, .long t_seed, .int t_stumbled, .ref q_t_order, .int t_lineMany, .int t_lineOrder, .int t_whoseMany, .int t_whoseFirst, .int t_restMany, .int t_restFirst, .ref q_t_gains, .ref q_t_value])), (q_t_text, .inl (cI, 48, .inl t_text)), (q_t_readSnow, .inl (cI, 3, .inl t_readSnow)), (q_t_readWalker, .inl (cI, 15, .inl t_readWalker)), (q_t_page, .inl (cI, 17, .inl t_page)), (q_t_beat, .inl (cI, 5, .inl t_beat)), (q_t_kind, .inl (cI, 5, .inl t_kind)), (q_t_isKept, .inl (cZ, 2, .inl w2))] := hD
        refine lv_aload_n hx hb dX8_party_168 rfl (lv_at hl 0 rfl) ?_
        refine va_get (D := (dC, dI)) (ci := 8) (v := .int t_walkers) (C := RX8) (T := TX8) (N := 33) hx hb hts hinX8 hown hK.1 hP 0 rfl rfl 7 (by decide) w_0 (fun _ h9 => h9) rfl dX8_party_169 ?_
        obtain ⟨e0, hf⟩ := ij2 hf
        obtain ⟨e1, hf⟩ := ijc hf
        obtain ⟨e2, hf⟩ := ijc hf
        obtain ⟨e3, hf⟩ := ijc hf
        obtain ⟨e4, hf⟩ := ijc hf
        obtain ⟨e5, hf⟩ := ijc hf
        obtain ⟨e6, hf⟩ := ijc hf
        obtain ⟨e7, hf⟩ := ijc hf
        obtain ⟨e8, hf⟩ := ijc hf
        obtain ⟨e9, hf⟩ := ijc hf
        obtain ⟨e10, hf⟩ := ijc hf
        obtain ⟨e11, hf⟩ := ijc hf
        obtain ⟨e12, hf⟩ := ijc hf
        obtain ⟨e13, hf⟩ := ijc hf
        have e14 := hf
        refine W.eq (congrArg (fun z => F0 m 172 ls [.int z]) e0) ?_
        exact hret _ _ _ _ (by rw [← e1, ← e2, ← e3, ← e4, ← e5, ← e6, ← e7, ← e8, ← e9, ← e10, ← e11, ← e12, ← e13, ← e14]; exact hP) hS dX8_party_172
      · replace hf := iq hc hf
        refine lv_aload_n hx hb dX8_party_86 rfl (lv_at hl 0 rfl) ?_
        refine va_get (D := (dC, dI)) (ci := 8) (v := .ref q_t_page) (C := RX8) (T := TX8) (N := 33) hx hb hts hinX8 hown hK.1 hP 0 rfl rfl 13 (by decide) w_3 (fun _ h9 => h9) rfl dX8_party_87 ?_
        refine lv_iconst (v := 0) hx hb dX8_party_90 (by decide) ?_
        refine lv_iload_n hx hb dX8_party_91 rfl (lv_at hl 1 rfl) ?_
        refine lv_iadd hx hb dX8_party_92 ?_
        refine lv_iload_n hx hb dX8_party_93 rfl (lv_at hl 1 rfl) ?_
        refine kast hx hb hK.1 hP hD hS 4 0 rfl rfl dX8_party_94 hf (fun w3 H locs hP hD hS hf => ?_)
        replace hP : va_P (dC, dI) vwCl [(q_t, .inr (8, [.int t_thrown, .ref q_t_text, .int t_textSize, .int t_place, .int t_depth, .int t_noon, .int t_later, .int t_walkers, .ref q_t_beat, .ref q_t_kind, .ref q_t_readSnow, .int t_readWalkers, .ref q_t_readWalker, .ref q_t_page, .ref q_t_trial, .ref q_t_book, .int t_acts, .ref q_t_kept, .ref q_t_isKept, .int t_marks, .ref q_t_markStep, .ref q_t_markTread, .long t_seed, .int t_stumbled, .ref q_t_order, .int t_lineMany, .int t_lineOrder, .int t_whoseMany, .int t_whoseFirst, .int t_restMany, .int t_restFirst, .ref q_t_gains, .ref q_t_value])), (q_t_text, .inl (cI, 48, .inl t_text)), (q_t_readSnow, .inl (cI, 3, .inl t_readSnow)), (q_t_readWalker, .inl (cI, 15, .inl t_readWalker)), (q_t_page, .inl (cI, 17, .inl w3)), (q_t_beat, .inl (cI, 5, .inl t_beat)), (q_t_kind, .inl (cI, 5, .inl t_kind)), (q_t_isKept, .inl (cZ, 2, .inl t_isKept))] H := hP
        replace hD : va_D A [(q_t, .inr (8, [.int t_thrown, .ref q_t_text, .int t_textSize, .int t_place, .int t_depth, .int t_noon, .int t_later, .int t_walkers, .ref q_t_beat, .ref q_t_kind, .ref q_t_readSnow, .int t_readWalkers, .ref q_t_readWalker, .ref q_t_page, .ref q_t_trial, .ref q_t_book, .int t_acts, .ref q_t_kept, .ref q_t_isKept, .int t_marks, .ref q_t_markStep, .ref q_t_markTread, .long t_seed, .int t_stumbled, .ref q_t_order, .int t_lineMany, .int t_lineOrder, .int t_whoseMany, .int t_whoseFirst, .int t_restMany, .int t_restFirst, .ref q_t_gains, .ref q_t_value])), (q_t_text, .inl (cI, 48, .inl t_text)), (q_t_readSnow, .inl (cI, 3, .inl t_readSnow)), (q_t_readWalker, .inl (cI, 15, .inl t_readWalker)), (q_t_page, .inl (cI, 17, .inl w3)), (q_t_beat, .inl (cI, 5, .inl t_beat)), (q_t_kind, .inl (cI, 5, .inl t_kind)), (q_t_isKept, .inl (cZ, 2, .inl t_isKept))] := hD
        refine lv_aload_n hx hb dX8_party_95 rfl (lv_at hl 0 rfl) ?_
        refine va_get (D := (dC, dI)) (ci := 8) (v := .ref q_t_page) (C := RX8) (T := TX8) (N := 33) hx hb hts hinX8 hown hK.1 hP 0 rfl rfl 13 (by decide) w_3 (fun _ h9 => h9) rfl dX8_party_96 ?_
        refine lv_iconst (v := 5) hx hb dX8_party_99 (by decide) ?_
        refine lv_iload_n hx hb dX8_party_100 rfl (lv_at hl 1 rfl) ?_
        refine lv_iadd hx hb dX8_party_101 ?_
        refine lv_aload_n hx hb dX8_party_102 rfl (lv_at hl 0 rfl) ?_
        refine va_get (D := (dC, dI)) (ci := 8) (v := .ref q_t_readWalker) (C := RX8) (T := TX8) (N := 33) hx hb hts hinX8 hown hK.1 hP 0 rfl rfl 12 (by decide) w_4 (fun _ h9 => h9) rfl dX8_party_103 ?_
        refine lv_iconst (v := 3) hx hb dX8_party_106 (by decide) ?_
        refine lv_iload_n hx hb dX8_party_107 rfl (lv_at hl 1 rfl) ?_
        refine lv_imul hx hb dX8_party_108 ?_
        refine kald hx hb hK.1 hP 3 0 rfl rfl dX8_party_109 hf (fun v4 hf => ?_)
        refine kast hx hb hK.1 hP hD hS 4 0 rfl rfl dX8_party_110 hf (fun w5 H locs hP hD hS hf => ?_)
        replace hP : va_P (dC, dI) vwCl [(q_t, .inr (8, [.int t_thrown, .ref q_t_text, .int t_textSize, .int t_place, .int t_depth, .int t_noon, .int t_later, .int t_walkers, .ref q_t_beat, .ref q_t_kind, .ref q_t_readSnow, .int t_readWalkers, .ref q_t_readWalker, .ref q_t_page, .ref q_t_trial, .ref q_t_book, .int t_acts, .ref q_t_kept, .ref q_t_isKept, .int t_marks, .ref q_t_markStep, .ref q_t_markTread, .long t_seed, .int t_stumbled, .ref q_t_order, .int t_lineMany, .int t_lineOrder, .int t_whoseMany, .int t_whoseFirst, .int t_restMany, .int t_restFirst, .ref q_t_gains, .ref q_t_value])), (q_t_text, .inl (cI, 48, .inl t_text)), (q_t_readSnow, .inl (cI, 3, .inl t_readSnow)), (q_t_readWalker, .inl (cI, 15, .inl t_readWalker)), (q_t_page, .inl (cI, 17, .inl w5)), (q_t_beat, .inl (cI, 5, .inl t_beat)), (q_t_kind, .inl (cI, 5, .inl t_kind)), (q_t_isKept, .inl (cZ, 2, .inl t_isKept))] H := hP
        replace hD : va_D A [(q_t, .inr (8, [.int t_thrown, .ref q_t_text, .int t_textSize, .int t_place, .int t_depth, .int t_noon, .int t_later, .int t_walkers, .ref q_t_beat, .ref q_t_kind, .ref q_t_readSnow, .int t_readWalkers, .ref q_t_readWalker, .ref q_t_page, .ref q_t_trial, .ref q_t_book, .int t_acts, .ref q_t_kept, .ref q_t_isKept, .int t_marks, .ref q_t_markStep, .ref q_t_markTread, .long t_seed, .int t_stumbled, .ref q_t_order, .int t_lineMany, .int t_lineOrder, .int t_whoseMany, .int t_whoseFirst, .int t_restMany, .int t_restFirst, .ref q_t_gains, .ref q_t_value])), (q_t_text, .inl (cI, 48, .inl t_text)), (q_t_readSnow, .inl (cI, 3, .inl t_readSnow)), (q_t_readWalker, .inl (cI, 15, .inl t_readWalker)), (q_t_page, .inl (cI, 17, .inl w5)), (q_t_beat, .inl (cI, 5, .inl t_beat)), (q_t_kind, .inl (cI, 5, .inl t_kind)), (q_t_isKept, .inl (cZ, 2, .inl t_isKept))] := hD
        refine lv_aload_n hx hb dX8_party_111 rfl (lv_at hl 0 rfl) ?_
        refine va_get (D := (dC, dI)) (ci := 8) (v := .ref q_t_beat) (C := RX8) (T := TX8) (N := 33) hx hb hts hinX8 hown hK.1 hP 0 rfl rfl 8 (by decide) w_5 (fun _ h9 => h9) rfl dX8_party_112 ?_
        refine lv_iload_n hx hb dX8_party_115 rfl (lv_at hl 1 rfl) ?_
        refine lv_aload_n hx hb dX8_party_116 rfl (lv_at hl 0 rfl) ?_
        refine va_get (D := (dC, dI)) (ci := 8) (v := .ref q_t_readWalker) (C := RX8) (T := TX8) (N := 33) hx hb hts hinX8 hown hK.1 hP 0 rfl rfl 12 (by decide) w_4 (fun _ h9 => h9) rfl dX8_party_117 ?_
        refine lv_iconst (v := 3) hx hb dX8_party_120 (by decide) ?_
        refine lv_iload_n hx hb dX8_party_121 rfl (lv_at hl 1 rfl) ?_
        refine lv_imul hx hb dX8_party_122 ?_
        refine lv_iconst (v := 1) hx hb dX8_party_123 (by decide) ?_
        refine lv_iadd hx hb dX8_party_124 ?_
        refine kald hx hb hK.1 hP 3 0 rfl rfl dX8_party_125 hf (fun v6 hf => ?_)
        refine kast hx hb hK.1 hP hD hS 5 0 rfl rfl dX8_party_126 hf (fun w7 H locs hP hD hS hf => ?_)
        replace hP : va_P (dC, dI) vwCl [(q_t, .inr (8, [.int t_thrown, .ref q_t_text, .int t_textSize, .int t_place, .int t_depth, .int t_noon, .int t_later, .int t_walkers, .ref q_t_beat, .ref q_t_kind, .ref q_t_readSnow, .int t_readWalkers, .ref q_t_readWalker, .ref q_t_page, .ref q_t_trial, .ref q_t_book, .int t_acts, .ref q_t_kept, .ref q_t_isKept, .int t_marks, .ref q_t_markStep, .ref q_t_markTread, .long t_seed, .int t_stumbled, .ref q_t_order, .int t_lineMany, .int t_lineOrder, .int t_whoseMany, .int t_whoseFirst, .int t_restMany, .int t_restFirst, .ref q_t_gains, .ref q_t_value])), (q_t_text, .inl (cI, 48, .inl t_text)), (q_t_readSnow, .inl (cI, 3, .inl t_readSnow)), (q_t_readWalker, .inl (cI, 15, .inl t_readWalker)), (q_t_page, .inl (cI, 17, .inl w5)), (q_t_beat, .inl (cI, 5, .inl w7)), (q_t_kind, .inl (cI, 5, .inl t_kind)), (q_t_isKept, .inl (cZ, 2, .inl t_isKept))] H := hP
        replace hD : va_D A [(q_t, .inr (8, [.int t_thrown, .ref q_t_text, .int t_textSize, .int t_place, .int t_depth, .int t_noon, .int t_later, .int t_walkers, .ref q_t_beat, .ref q_t_kind, .ref q_t_readSnow, .int t_readWalkers, .ref q_t_readWalker, .ref q_t_page, .ref q_t_trial, .ref q_t_book, .int t_acts, .ref q_t_kept, .ref q_t_isKept, .int t_marks, .ref q_t_markStep, .ref q_t_markTread, .long t_seed, .int t_stumbled, .ref q_t_order, .int t_lineMany, .int t_lineOrder, .int t_whoseMany, .int t_whoseFirst, .int t_restMany, .int t_restFirst, .ref q_t_gains, .ref q_t_value])), (q_t_text, .inl (cI, 48, .inl t_text)), (q_t_readSnow, .inl (cI, 3, .inl t_readSnow)), (q_t_readWalker, .inl (cI, 15, .inl t_readWalker)), (q_t_page, .inl (cI, 17, .inl w5)), (q_t_beat, .inl (cI, 5, .inl w7)), (q_t_kind, .inl (cI, 5, .inl t_kind)), (q_t_isKept, .inl (cZ, 2, .inl t_isKept))] := hD
        refine lv_aload_n hx hb dX8_party_127 rfl (lv_at hl 0 rfl) ?_
        refine va_get (D := (dC, dI)) (ci := 8) (v := .ref q_t_kind) (C := RX8) (T := TX8) (N := 33) hx hb hts hinX8 hown hK.1 hP 0 rfl rfl 9 (by decide) w_6 (fun _ h9 => h9) rfl dX8_party_128 ?_
        refine lv_iload_n hx hb dX8_party_131 rfl (lv_at hl 1 rfl) ?_
        refine lv_aload_n hx hb dX8_party_132 rfl (lv_at hl 0 rfl) ?_
        refine va_get (D := (dC, dI)) (ci := 8) (v := .ref q_t_readWalker) (C := RX8) (T := TX8) (N := 33) hx hb hts hinX8 hown hK.1 hP 0 rfl rfl 12 (by decide) w_4 (fun _ h9 => h9) rfl dX8_party_133 ?_
        refine lv_iconst (v := 3) hx hb dX8_party_136 (by decide) ?_
        refine lv_iload_n hx hb dX8_party_137 rfl (lv_at hl 1 rfl) ?_
        refine lv_imul hx hb dX8_party_138 ?_
        refine lv_iconst (v := 2) hx hb dX8_party_139 (by decide) ?_
        refine lv_iadd hx hb dX8_party_140 ?_
        refine kald hx hb hK.1 hP 3 0 rfl rfl dX8_party_141 hf (fun v8 hf => ?_)
        refine kast hx hb hK.1 hP hD hS 6 0 rfl rfl dX8_party_142 hf (fun w9 H locs hP hD hS hf => ?_)
        replace hP : va_P (dC, dI) vwCl [(q_t, .inr (8, [.int t_thrown, .ref q_t_text, .int t_textSize, .int t_place, .int t_depth, .int t_noon, .int t_later, .int t_walkers, .ref q_t_beat, .ref q_t_kind, .ref q_t_readSnow, .int t_readWalkers, .ref q_t_readWalker, .ref q_t_page, .ref q_t_trial, .ref q_t_book, .int t_acts, .ref q_t_kept, .ref q_t_isKept, .int t_marks, .ref q_t_markStep, .ref q_t_markTread, .long t_seed, .int t_stumbled, .ref q_t_order, .int t_lineMany, .int t_lineOrder, .int t_whoseMany, .int t_whoseFirst, .int t_restMany, .int t_restFirst, .ref q_t_gains, .ref q_t_value])), (q_t_text, .inl (cI, 48, .inl t_text)), (q_t_readSnow, .inl (cI, 3, .inl t_readSnow)), (q_t_readWalker, .inl (cI, 15, .inl t_readWalker)), (q_t_page, .inl (cI, 17, .inl w5)), (q_t_beat, .inl (cI, 5, .inl w7)), (q_t_kind, .inl (cI, 5, .inl w9)), (q_t_isKept, .inl (cZ, 2, .inl t_isKept))] H := hP
        replace hD : va_D A [(q_t, .inr (8, [.int t_thrown, .ref q_t_text, .int t_textSize, .int t_place, .int t_depth, .int t_noon, .int t_later, .int t_walkers, .ref q_t_beat, .ref q_t_kind, .ref q_t_readSnow, .int t_readWalkers, .ref q_t_readWalker, .ref q_t_page, .ref q_t_trial, .ref q_t_book, .int t_acts, .ref q_t_kept, .ref q_t_isKept, .int t_marks, .ref q_t_markStep, .ref q_t_markTread, .long t_seed, .int t_stumbled, .ref q_t_order, .int t_lineMany, .int t_lineOrder, .int t_whoseMany, .int t_whoseFirst, .int t_restMany, .int t_restFirst, .ref q_t_gains, .ref q_t_value])), (q_t_text, .inl (cI, 48, .inl t_text)), (q_t_readSnow, .inl (cI, 3, .inl t_readSnow)), (q_t_readWalker, .inl (cI, 15, .inl t_readWalker)), (q_t_page, .inl (cI, 17, .inl w5)), (q_t_beat, .inl (cI, 5, .inl w7)), (q_t_kind, .inl (cI, 5, .inl w9)), (q_t_isKept, .inl (cZ, 2, .inl t_isKept))] := hD
        refine lv_iinc (v := (x1 + 1)) (lv' := [(1, .int (x1 + 1)), (0, .ref q_t)]) hx hb dX8_party_143 hl (k := 1) rfl rfl (by decide) rfl (fun ls hl => ?_)
        refine lv_goto (tgt := 78) hx hb dX8_party_146 (by decide) ?_
        exact ih78 (x1 + 1) w5 w7 w9 _ _ _ hP hS (lv_sub hl [1, 0] rfl) hf
  have h_57 : ∀ (t_thrown : Int32) (t_place : Int32) (t_depth : Int32) (t_noon : Int32) (t_later : Int32) (t_walkers : Int32) (t_readWalkers : Int32) (t_acts : Int32) (t_readSnow : Nat → Int32) (t_readWalker : Nat → Int32) (t_beat : Nat → Int32) (t_kind : Nat → Int32) (t_isKept : Nat → Int32) (fu57 : Nat) (x1 : Int32) (t_page : Nat → Int32) (H : Heap) (locs : List Loc) (ls : Array Slot), va_P (dC, dI) vwCl [(q_t, .inr (8, [.int t_thrown, .ref q_t_text, .int t_textSize, .int t_place, .int t_depth, .int t_noon, .int t_later, .int t_walkers, .ref q_t_beat, .ref q_t_kind, .ref q_t_readSnow, .int t_readWalkers, .ref q_t_readWalker, .ref q_t_page, .ref q_t_trial, .ref q_t_book, .int t_acts, .ref q_t_kept, .ref q_t_isKept, .int t_marks, .ref q_t_markStep, .ref q_t_markTread, .long t_seed, .int t_stumbled, .ref q_t_order, .int t_lineMany, .int t_lineOrder, .int t_whoseMany, .int t_whoseFirst, .int t_restMany, .int t_restFirst, .ref q_t_gains, .ref q_t_value])), (q_t_text, .inl (cI, 48, .inl t_text)), (q_t_readSnow, .inl (cI, 3, .inl t_readSnow)), (q_t_readWalker, .inl (cI, 15, .inl t_readWalker)), (q_t_page, .inl (cI, 17, .inl t_page)), (q_t_beat, .inl (cI, 5, .inl t_beat)), (q_t_kind, .inl (cI, 5, .inl t_kind)), (q_t_isKept, .inl (cZ, 2, .inl t_isKept))] H → va_S A s.heap H locs → lv_has ls 2 [(0, .ref q_t), (1, .int x1)] → L_X8_party_57 t_thrown t_place t_depth t_noon t_later t_walkers t_readWalkers t_acts t_readSnow t_readWalker t_beat t_kind t_isKept fu57 x1 t_page = some (r_, o_t_thrown, o_t_place, o_t_depth, o_t_noon, o_t_later, o_t_walkers, o_t_readWalkers, o_t_acts, o_t_readSnow, o_t_readWalker, o_t_page, o_t_beat, o_t_kind, o_t_isKept) → W p l e rm_X8_party s m args below meth c H locs 0 0 Q (F0 m 57 ls []) := by
    intro t_thrown t_place t_depth t_noon t_later t_walkers t_readWalkers t_acts t_readSnow t_readWalker t_beat t_kind t_isKept fu57
    induction fu57 with
    | zero =>
      intro x1 t_page H locs ls hP hS hl hf
      rw [L_X8_party_57] at hf
      cases hf
    | succ fu57 ih57 =>
      intro x1 t_page H locs ls hP hS hl hf
      have hD : va_D A [(q_t, .inr (8, [.int t_thrown, .ref q_t_text, .int t_textSize, .int t_place, .int t_depth, .int t_noon, .int t_later, .int t_walkers, .ref q_t_beat, .ref q_t_kind, .ref q_t_readSnow, .int t_readWalkers, .ref q_t_readWalker, .ref q_t_page, .ref q_t_trial, .ref q_t_book, .int t_acts, .ref q_t_kept, .ref q_t_isKept, .int t_marks, .ref q_t_markStep, .ref q_t_markTread, .long t_seed, .int t_stumbled, .ref q_t_order, .int t_lineMany, .int t_lineOrder, .int t_whoseMany, .int t_whoseFirst, .int t_restMany, .int t_restFirst, .ref q_t_gains, .ref q_t_value])), (q_t_text, .inl (cI, 48, .inl t_text)), (q_t_readSnow, .inl (cI, 3, .inl t_readSnow)), (q_t_readWalker, .inl (cI, 15, .inl t_readWalker)), (q_t_page, .inl (cI, 17, .inl t_page)), (q_t_beat, .inl (cI, 5, .inl t_beat)), (q_t_kind, .inl (cI, 5, .inl t_kind)), (q_t_isKept, .inl (cZ, 2, .inl t_isKept))] := wd hD0 rfl
      rw [L_X8_party_57] at hf
      refine lv_iload_n hx hb dX8_party_57 rfl (lv_at hl 1 rfl) ?_
      refine lv_bipush (v := 17) hx hb dX8_party_58 (by decide) ?_
      refine lv_icmp_ge (tgt := 76) hx hb dX8_party_60 (by decide) (fun hc => ?_) (fun hc => ?_)
      · replace hf := ip hc hf
        refine lv_iconst (v := 0) hx hb dX8_party_76 (by decide) ?_
        refine lv_istore_n (lv' := [(1, .int 0), (0, .ref q_t)]) hx hb dX8_party_77 rfl hl (by decide) rfl (fun ls hl => ?_)
        exact h_78 t_thrown t_place t_depth t_noon t_later t_walkers t_readWalkers t_acts t_readSnow t_readWalker t_isKept fuelC 0 t_page t_beat t_kind _ _ _ hP hS (lv_sub hl [1, 0] rfl) hf
      · replace hf := iq hc hf
        refine lv_aload_n hx hb dX8_party_63 rfl (lv_at hl 0 rfl) ?_
        refine va_get (D := (dC, dI)) (ci := 8) (v := .ref q_t_page) (C := RX8) (T := TX8) (N := 33) hx hb hts hinX8 hown hK.1 hP 0 rfl rfl 13 (by decide) w_3 (fun _ h9 => h9) rfl dX8_party_64 ?_
        refine lv_iload_n hx hb dX8_party_67 rfl (lv_at hl 1 rfl) ?_
        refine lv_iconst (v := 0) hx hb dX8_party_68 (by decide) ?_
        refine kast hx hb hK.1 hP hD hS 4 0 rfl rfl dX8_party_69 hf (fun w10 H locs hP hD hS hf => ?_)
        replace hP : va_P (dC, dI) vwCl [(q_t, .inr (8, [.int t_thrown, .ref q_t_text, .int t_textSize, .int t_place, .int t_depth, .int t_noon, .int t_later, .int t_walkers, .ref q_t_beat, .ref q_t_kind, .ref q_t_readSnow, .int t_readWalkers, .ref q_t_readWalker, .ref q_t_page, .ref q_t_trial, .ref q_t_book, .int t_acts, .ref q_t_kept, .ref q_t_isKept, .int t_marks, .ref q_t_markStep, .ref q_t_markTread, .long t_seed, .int t_stumbled, .ref q_t_order, .int t_lineMany, .int t_lineOrder, .int t_whoseMany, .int t_whoseFirst, .int t_restMany, .int t_restFirst, .ref q_t_gains, .ref q_t_value])), (q_t_text, .inl (cI, 48, .inl t_text)), (q_t_readSnow, .inl (cI, 3, .inl t_readSnow)), (q_t_readWalker, .inl (cI, 15, .inl t_readWalker)), (q_t_page, .inl (cI, 17, .inl w10)), (q_t_beat, .inl (cI, 5, .inl t_beat)), (q_t_kind, .inl (cI, 5, .inl t_kind)), (q_t_isKept, .inl (cZ, 2, .inl t_isKept))] H := hP
        replace hD : va_D A [(q_t, .inr (8, [.int t_thrown, .ref q_t_text, .int t_textSize, .int t_place, .int t_depth, .int t_noon, .int t_later, .int t_walkers, .ref q_t_beat, .ref q_t_kind, .ref q_t_readSnow, .int t_readWalkers, .ref q_t_readWalker, .ref q_t_page, .ref q_t_trial, .ref q_t_book, .int t_acts, .ref q_t_kept, .ref q_t_isKept, .int t_marks, .ref q_t_markStep, .ref q_t_markTread, .long t_seed, .int t_stumbled, .ref q_t_order, .int t_lineMany, .int t_lineOrder, .int t_whoseMany, .int t_whoseFirst, .int t_restMany, .int t_restFirst, .ref q_t_gains, .ref q_t_value])), (q_t_text, .inl (cI, 48, .inl t_text)), (q_t_readSnow, .inl (cI, 3, .inl t_readSnow)), (q_t_readWalker, .inl (cI, 15, .inl t_readWalker)), (q_t_page, .inl (cI, 17, .inl w10)), (q_t_beat, .inl (cI, 5, .inl t_beat)), (q_t_kind, .inl (cI, 5, .inl t_kind)), (q_t_isKept, .inl (cZ, 2, .inl t_isKept))] := hD
        refine lv_iinc (v := (x1 + 1)) (lv' := [(1, .int (x1 + 1)), (0, .ref q_t)]) hx hb dX8_party_70 hl (k := 1) rfl rfl (by decide) rfl (fun ls hl => ?_)
        refine lv_goto (tgt := 57) hx hb dX8_party_73 (by decide) ?_
        exact ih57 (x1 + 1) w10 _ _ _ hP hS (lv_sub hl [1, 0] rfl) hf
  rw [f_X8_party] at hf
  refine lv_aload_n hx hb dX8_party_0 rfl (lv_at hl 0 rfl) ?_
  refine lv_iconst (v := 0) hx hb dX8_party_1 (by decide) ?_
  refine va_put (D := (dC, dI)) (ci := 8) (v := .int 0) (ty := .int) (C := RX8) (T := TX8) (N := 33) hx hb hts hinX8 tyX8 tyX8_ok nmX8 hown hK.1 hP hD hS 0 rfl rfl 0 (by decide) w_7 (fun _ h9 => h9) rfl (by decide +kernel) rfl rfl (Nat.le_of_ble_eq_true rfl) dX8_party_2 (fun H locs hP hD hS => ?_)
  replace hP : va_P (dC, dI) vwCl [(q_t, .inr (8, [.int 0, .ref q_t_text, .int t_textSize, .int t_place, .int t_depth, .int t_noon, .int t_later, .int t_walkers, .ref q_t_beat, .ref q_t_kind, .ref q_t_readSnow, .int t_readWalkers, .ref q_t_readWalker, .ref q_t_page, .ref q_t_trial, .ref q_t_book, .int t_acts, .ref q_t_kept, .ref q_t_isKept, .int t_marks, .ref q_t_markStep, .ref q_t_markTread, .long t_seed, .int t_stumbled, .ref q_t_order, .int t_lineMany, .int t_lineOrder, .int t_whoseMany, .int t_whoseFirst, .int t_restMany, .int t_restFirst, .ref q_t_gains, .ref q_t_value])), (q_t_text, .inl (cI, 48, .inl t_text)), (q_t_readSnow, .inl (cI, 3, .inl t_readSnow)), (q_t_readWalker, .inl (cI, 15, .inl t_readWalker)), (q_t_page, .inl (cI, 17, .inl t_page)), (q_t_beat, .inl (cI, 5, .inl t_beat)), (q_t_kind, .inl (cI, 5, .inl t_kind)), (q_t_isKept, .inl (cZ, 2, .inl t_isKept))] H := hP
  replace hD : va_D A [(q_t, .inr (8, [.int 0, .ref q_t_text, .int t_textSize, .int t_place, .int t_depth, .int t_noon, .int t_later, .int t_walkers, .ref q_t_beat, .ref q_t_kind, .ref q_t_readSnow, .int t_readWalkers, .ref q_t_readWalker, .ref q_t_page, .ref q_t_trial, .ref q_t_book, .int t_acts, .ref q_t_kept, .ref q_t_isKept, .int t_marks, .ref q_t_markStep, .ref q_t_markTread, .long t_seed, .int t_stumbled, .ref q_t_order, .int t_lineMany, .int t_lineOrder, .int t_whoseMany, .int t_whoseFirst, .int t_restMany, .int t_restFirst, .ref q_t_gains, .ref q_t_value])), (q_t_text, .inl (cI, 48, .inl t_text)), (q_t_readSnow, .inl (cI, 3, .inl t_readSnow)), (q_t_readWalker, .inl (cI, 15, .inl t_readWalker)), (q_t_page, .inl (cI, 17, .inl t_page)), (q_t_beat, .inl (cI, 5, .inl t_beat)), (q_t_kind, .inl (cI, 5, .inl t_kind)), (q_t_isKept, .inl (cZ, 2, .inl t_isKept))] := hD
  refine lv_aload_n hx hb dX8_party_5 rfl (lv_at hl 0 rfl) ?_
  obtain ⟨⟨r11, o12, o13, o14, o15⟩, e17, hf⟩ := bd_ok hf
  refine kVi (As := []) CF (cwV 0 hts gX8_party_X8_readParty rfl rfl rfl (by decide +kernel) ⟨Nat.le_of_ble_eq_true rfl, Nat.le_of_ble_eq_true rfl⟩) PU_blind hP hD hS hA (va_recv hK.1 hP (ci := 8) (q0 := 0) rfl rfl) [0, 1, 2, 3] (fun h1 h2 h3 => PU_pre hK h1 A h2 h3) (c_X8_readParty l dC dI cI cZ q_t q_t_text q_t_beat q_t_kind q_t_readSnow q_t_readWalker q_t_page q_t_trial q_t_book q_t_kept q_t_isKept q_t_markStep q_t_markTread q_t_order q_t_gains q_t_value _ 0 t_textSize t_place t_depth t_noon t_later t_walkers t_readWalkers t_acts t_marks t_seed t_stumbled t_lineMany t_lineOrder t_whoseMany t_whoseFirst t_restMany t_restFirst t_text t_readSnow t_readWalker r11 o12 o13 o14 o15 e17) rfl rfl rfl rfl hl.1 rfl (Nat.le_of_ble_eq_true rfl) dX8_party_6 ⟨Nat.zero_le _, Nat.zero_le _⟩ (fun H locs hP hS => ?_)
  replace hP : va_P (dC, dI) vwCl [(q_t, .inr (8, [.int 0, .ref q_t_text, .int t_textSize, .int o12, .int t_depth, .int t_noon, .int t_later, .int t_walkers, .ref q_t_beat, .ref q_t_kind, .ref q_t_readSnow, .int o13, .ref q_t_readWalker, .ref q_t_page, .ref q_t_trial, .ref q_t_book, .int t_acts, .ref q_t_kept, .ref q_t_isKept, .int t_marks, .ref q_t_markStep, .ref q_t_markTread, .long t_seed, .int t_stumbled, .ref q_t_order, .int t_lineMany, .int t_lineOrder, .int t_whoseMany, .int t_whoseFirst, .int t_restMany, .int t_restFirst, .ref q_t_gains, .ref q_t_value])), (q_t_text, .inl (cI, 48, .inl t_text)), (q_t_readSnow, .inl (cI, 3, .inl o14)), (q_t_readWalker, .inl (cI, 15, .inl o15)), (q_t_page, .inl (cI, 17, .inl t_page)), (q_t_beat, .inl (cI, 5, .inl t_beat)), (q_t_kind, .inl (cI, 5, .inl t_kind)), (q_t_isKept, .inl (cZ, 2, .inl t_isKept))] H := hP
  replace hD : va_D A [(q_t, .inr (8, [.int 0, .ref q_t_text, .int t_textSize, .int o12, .int t_depth, .int t_noon, .int t_later, .int t_walkers, .ref q_t_beat, .ref q_t_kind, .ref q_t_readSnow, .int o13, .ref q_t_readWalker, .ref q_t_page, .ref q_t_trial, .ref q_t_book, .int t_acts, .ref q_t_kept, .ref q_t_isKept, .int t_marks, .ref q_t_markStep, .ref q_t_markTread, .long t_seed, .int t_stumbled, .ref q_t_order, .int t_lineMany, .int t_lineOrder, .int t_whoseMany, .int t_whoseFirst, .int t_restMany, .int t_restFirst, .ref q_t_gains, .ref q_t_value])), (q_t_text, .inl (cI, 48, .inl t_text)), (q_t_readSnow, .inl (cI, 3, .inl o14)), (q_t_readWalker, .inl (cI, 15, .inl o15)), (q_t_page, .inl (cI, 17, .inl t_page)), (q_t_beat, .inl (cI, 5, .inl t_beat)), (q_t_kind, .inl (cI, 5, .inl t_kind)), (q_t_isKept, .inl (cZ, 2, .inl t_isKept))] := wd hD rfl
  refine lv_bipush (v := (-9)) hx hb dX8_party_9 (by decide) ?_
  refine lv_icmp_eq (tgt := 17) hx hb dX8_party_11 (by decide) (fun hc => ?_) (fun hc => ?_)
  · replace hf := ip hc hf
    refine lv_aload_n hx hb dX8_party_17 rfl (lv_at hl 0 rfl) ?_
    refine lv_aload_n hx hb dX8_party_18 rfl (lv_at hl 0 rfl) ?_
    refine va_get (D := (dC, dI)) (ci := 8) (v := .ref q_t_readSnow) (C := RX8) (T := TX8) (N := 33) hx hb hts hinX8 hown hK.1 hP 0 rfl rfl 10 (by decide) w_8 (fun _ h9 => h9) rfl dX8_party_19 ?_
    refine lv_iconst (v := 0) hx hb dX8_party_22 (by decide) ?_
    refine kald hx hb hK.1 hP 2 0 rfl rfl dX8_party_23 hf (fun v18 hf => ?_)
    refine va_put (D := (dC, dI)) (ci := 8) (v := .int v18) (ty := .int) (C := RX8) (T := TX8) (N := 33) hx hb hts hinX8 tyX8 tyX8_ok nmX8 hown hK.1 hP hD hS 0 rfl rfl 4 (by decide) w_9 (fun _ h9 => h9) rfl (by decide +kernel) rfl rfl (Nat.le_of_ble_eq_true rfl) dX8_party_24 (fun H locs hP hD hS => ?_)
    replace hP : va_P (dC, dI) vwCl [(q_t, .inr (8, [.int 0, .ref q_t_text, .int t_textSize, .int o12, .int v18, .int t_noon, .int t_later, .int t_walkers, .ref q_t_beat, .ref q_t_kind, .ref q_t_readSnow, .int o13, .ref q_t_readWalker, .ref q_t_page, .ref q_t_trial, .ref q_t_book, .int t_acts, .ref q_t_kept, .ref q_t_isKept, .int t_marks, .ref q_t_markStep, .ref q_t_markTread, .long t_seed, .int t_stumbled, .ref q_t_order, .int t_lineMany, .int t_lineOrder, .int t_whoseMany, .int t_whoseFirst, .int t_restMany, .int t_restFirst, .ref q_t_gains, .ref q_t_value])), (q_t_text, .inl (cI, 48, .inl t_text)), (q_t_readSnow, .inl (cI, 3, .inl o14)), (q_t_readWalker, .inl (cI, 15, .inl o15)), (q_t_page, .inl (cI, 17, .inl t_page)), (q_t_beat, .inl (cI, 5, .inl t_beat)), (q_t_kind, .inl (cI, 5, .inl t_kind)), (q_t_isKept, .inl (cZ, 2, .inl t_isKept))] H := hP
    replace hD : va_D A [(q_t, .inr (8, [.int 0, .ref q_t_text, .int t_textSize, .int o12, .int v18, .int t_noon, .int t_later, .int t_walkers, .ref q_t_beat, .ref q_t_kind, .ref q_t_readSnow, .int o13, .ref q_t_readWalker, .ref q_t_page, .ref q_t_trial, .ref q_t_book, .int t_acts, .ref q_t_kept, .ref q_t_isKept, .int t_marks, .ref q_t_markStep, .ref q_t_markTread, .long t_seed, .int t_stumbled, .ref q_t_order, .int t_lineMany, .int t_lineOrder, .int t_whoseMany, .int t_whoseFirst, .int t_restMany, .int t_restFirst, .ref q_t_gains, .ref q_t_value])), (q_t_text, .inl (cI, 48, .inl t_text)), (q_t_readSnow, .inl (cI, 3, .inl o14)), (q_t_readWalker, .inl (cI, 15, .inl o15)), (q_t_page, .inl (cI, 17, .inl t_page)), (q_t_beat, .inl (cI, 5, .inl t_beat)), (q_t_kind, .inl (cI, 5, .inl t_kind)), (q_t_isKept, .inl (cZ, 2, .inl t_isKept))] := hD
    refine lv_aload_n hx hb dX8_party_27 rfl (lv_at hl 0 rfl) ?_
    refine lv_aload_n hx hb dX8_party_28 rfl (lv_at hl 0 rfl) ?_
    refine va_get (D := (dC, dI)) (ci := 8) (v := .ref q_t_readSnow) (C := RX8) (T := TX8) (N := 33) hx hb hts hinX8 hown hK.1 hP 0 rfl rfl 10 (by decide) w_8 (fun _ h9 => h9) rfl dX8_party_29 ?_
    refine lv_iconst (v := 1) hx hb dX8_party_32 (by decide) ?_
    refine kald hx hb hK.1 hP 2 0 rfl rfl dX8_party_33 hf (fun v19 hf => ?_)
    refine va_put (D := (dC, dI)) (ci := 8) (v := .int v19) (ty := .int) (C := RX8) (T := TX8) (N := 33) hx hb hts hinX8 tyX8 tyX8_ok nmX8 hown hK.1 hP hD hS 0 rfl rfl 5 (by decide) w_10 (fun _ h9 => h9) rfl (by decide +kernel) rfl rfl (Nat.le_of_ble_eq_true rfl) dX8_party_34 (fun H locs hP hD hS => ?_)
    replace hP : va_P (dC, dI) vwCl [(q_t, .inr (8, [.int 0, .ref q_t_text, .int t_textSize, .int o12, .int v18, .int v19, .int t_later, .int t_walkers, .ref q_t_beat, .ref q_t_kind, .ref q_t_readSnow, .int o13, .ref q_t_readWalker, .ref q_t_page, .ref q_t_trial, .ref q_t_book, .int t_acts, .ref q_t_kept, .ref q_t_isKept, .int t_marks, .ref q_t_markStep, .ref q_t_markTread, .long t_seed, .int t_stumbled, .ref q_t_order, .int t_lineMany, .int t_lineOrder, .int t_whoseMany, .int t_whoseFirst, .int t_restMany, .int t_restFirst, .ref q_t_gains, .ref q_t_value])), (q_t_text, .inl (cI, 48, .inl t_text)), (q_t_readSnow, .inl (cI, 3, .inl o14)), (q_t_readWalker, .inl (cI, 15, .inl o15)), (q_t_page, .inl (cI, 17, .inl t_page)), (q_t_beat, .inl (cI, 5, .inl t_beat)), (q_t_kind, .inl (cI, 5, .inl t_kind)), (q_t_isKept, .inl (cZ, 2, .inl t_isKept))] H := hP
    replace hD : va_D A [(q_t, .inr (8, [.int 0, .ref q_t_text, .int t_textSize, .int o12, .int v18, .int v19, .int t_later, .int t_walkers, .ref q_t_beat, .ref q_t_kind, .ref q_t_readSnow, .int o13, .ref q_t_readWalker, .ref q_t_page, .ref q_t_trial, .ref q_t_book, .int t_acts, .ref q_t_kept, .ref q_t_isKept, .int t_marks, .ref q_t_markStep, .ref q_t_markTread, .long t_seed, .int t_stumbled, .ref q_t_order, .int t_lineMany, .int t_lineOrder, .int t_whoseMany, .int t_whoseFirst, .int t_restMany, .int t_restFirst, .ref q_t_gains, .ref q_t_value])), (q_t_text, .inl (cI, 48, .inl t_text)), (q_t_readSnow, .inl (cI, 3, .inl o14)), (q_t_readWalker, .inl (cI, 15, .inl o15)), (q_t_page, .inl (cI, 17, .inl t_page)), (q_t_beat, .inl (cI, 5, .inl t_beat)), (q_t_kind, .inl (cI, 5, .inl t_kind)), (q_t_isKept, .inl (cZ, 2, .inl t_isKept))] := hD
    refine lv_aload_n hx hb dX8_party_37 rfl (lv_at hl 0 rfl) ?_
    refine lv_aload_n hx hb dX8_party_38 rfl (lv_at hl 0 rfl) ?_
    refine va_get (D := (dC, dI)) (ci := 8) (v := .ref q_t_readSnow) (C := RX8) (T := TX8) (N := 33) hx hb hts hinX8 hown hK.1 hP 0 rfl rfl 10 (by decide) w_8 (fun _ h9 => h9) rfl dX8_party_39 ?_
    refine lv_iconst (v := 2) hx hb dX8_party_42 (by decide) ?_
    refine kald hx hb hK.1 hP 2 0 rfl rfl dX8_party_43 hf (fun v20 hf => ?_)
    refine va_put (D := (dC, dI)) (ci := 8) (v := .int v20) (ty := .int) (C := RX8) (T := TX8) (N := 33) hx hb hts hinX8 tyX8 tyX8_ok nmX8 hown hK.1 hP hD hS 0 rfl rfl 6 (by decide) w_11 (fun _ h9 => h9) rfl (by decide +kernel) rfl rfl (Nat.le_of_ble_eq_true rfl) dX8_party_44 (fun H locs hP hD hS => ?_)
    replace hP : va_P (dC, dI) vwCl [(q_t, .inr (8, [.int 0, .ref q_t_text, .int t_textSize, .int o12, .int v18, .int v19, .int v20, .int t_walkers, .ref q_t_beat, .ref q_t_kind, .ref q_t_readSnow, .int o13, .ref q_t_readWalker, .ref q_t_page, .ref q_t_trial, .ref q_t_book, .int t_acts, .ref q_t_kept, .ref q_t_isKept, .int t_marks, .ref q_t_markStep, .ref q_t_markTread, .long t_seed, .int t_stumbled, .ref q_t_order, .int t_lineMany, .int t_lineOrder, .int t_whoseMany, .int t_whoseFirst, .int t_restMany, .int t_restFirst, .ref q_t_gains, .ref q_t_value])), (q_t_text, .inl (cI, 48, .inl t_text)), (q_t_readSnow, .inl (cI, 3, .inl o14)), (q_t_readWalker, .inl (cI, 15, .inl o15)), (q_t_page, .inl (cI, 17, .inl t_page)), (q_t_beat, .inl (cI, 5, .inl t_beat)), (q_t_kind, .inl (cI, 5, .inl t_kind)), (q_t_isKept, .inl (cZ, 2, .inl t_isKept))] H := hP
    replace hD : va_D A [(q_t, .inr (8, [.int 0, .ref q_t_text, .int t_textSize, .int o12, .int v18, .int v19, .int v20, .int t_walkers, .ref q_t_beat, .ref q_t_kind, .ref q_t_readSnow, .int o13, .ref q_t_readWalker, .ref q_t_page, .ref q_t_trial, .ref q_t_book, .int t_acts, .ref q_t_kept, .ref q_t_isKept, .int t_marks, .ref q_t_markStep, .ref q_t_markTread, .long t_seed, .int t_stumbled, .ref q_t_order, .int t_lineMany, .int t_lineOrder, .int t_whoseMany, .int t_whoseFirst, .int t_restMany, .int t_restFirst, .ref q_t_gains, .ref q_t_value])), (q_t_text, .inl (cI, 48, .inl t_text)), (q_t_readSnow, .inl (cI, 3, .inl o14)), (q_t_readWalker, .inl (cI, 15, .inl o15)), (q_t_page, .inl (cI, 17, .inl t_page)), (q_t_beat, .inl (cI, 5, .inl t_beat)), (q_t_kind, .inl (cI, 5, .inl t_kind)), (q_t_isKept, .inl (cZ, 2, .inl t_isKept))] := hD
    refine lv_aload_n hx hb dX8_party_47 rfl (lv_at hl 0 rfl) ?_
    refine lv_aload_n hx hb dX8_party_48 rfl (lv_at hl 0 rfl) ?_
    refine va_get (D := (dC, dI)) (ci := 8) (v := .int o13) (C := RX8) (T := TX8) (N := 33) hx hb hts hinX8 hown hK.1 hP 0 rfl rfl 11 (by decide) w_12 (fun _ h9 => h9) rfl dX8_party_49 ?_
    refine va_put (D := (dC, dI)) (ci := 8) (v := .int o13) (ty := .int) (C := RX8) (T := TX8) (N := 33) hx hb hts hinX8 tyX8 tyX8_ok nmX8 hown hK.1 hP hD hS 0 rfl rfl 7 (by decide) w_0 (fun _ h9 => h9) rfl (by decide +kernel) rfl rfl (Nat.le_of_ble_eq_true rfl) dX8_party_52 (fun H locs hP hD hS => ?_)
    replace hP : va_P (dC, dI) vwCl [(q_t, .inr (8, [.int 0, .ref q_t_text, .int t_textSize, .int o12, .int v18, .int v19, .int v20, .int o13, .ref q_t_beat, .ref q_t_kind, .ref q_t_readSnow, .int o13, .ref q_t_readWalker, .ref q_t_page, .ref q_t_trial, .ref q_t_book, .int t_acts, .ref q_t_kept, .ref q_t_isKept, .int t_marks, .ref q_t_markStep, .ref q_t_markTread, .long t_seed, .int t_stumbled, .ref q_t_order, .int t_lineMany, .int t_lineOrder, .int t_whoseMany, .int t_whoseFirst, .int t_restMany, .int t_restFirst, .ref q_t_gains, .ref q_t_value])), (q_t_text, .inl (cI, 48, .inl t_text)), (q_t_readSnow, .inl (cI, 3, .inl o14)), (q_t_readWalker, .inl (cI, 15, .inl o15)), (q_t_page, .inl (cI, 17, .inl t_page)), (q_t_beat, .inl (cI, 5, .inl t_beat)), (q_t_kind, .inl (cI, 5, .inl t_kind)), (q_t_isKept, .inl (cZ, 2, .inl t_isKept))] H := hP
    replace hD : va_D A [(q_t, .inr (8, [.int 0, .ref q_t_text, .int t_textSize, .int o12, .int v18, .int v19, .int v20, .int o13, .ref q_t_beat, .ref q_t_kind, .ref q_t_readSnow, .int o13, .ref q_t_readWalker, .ref q_t_page, .ref q_t_trial, .ref q_t_book, .int t_acts, .ref q_t_kept, .ref q_t_isKept, .int t_marks, .ref q_t_markStep, .ref q_t_markTread, .long t_seed, .int t_stumbled, .ref q_t_order, .int t_lineMany, .int t_lineOrder, .int t_whoseMany, .int t_whoseFirst, .int t_restMany, .int t_restFirst, .ref q_t_gains, .ref q_t_value])), (q_t_text, .inl (cI, 48, .inl t_text)), (q_t_readSnow, .inl (cI, 3, .inl o14)), (q_t_readWalker, .inl (cI, 15, .inl o15)), (q_t_page, .inl (cI, 17, .inl t_page)), (q_t_beat, .inl (cI, 5, .inl t_beat)), (q_t_kind, .inl (cI, 5, .inl t_kind)), (q_t_isKept, .inl (cZ, 2, .inl t_isKept))] := hD
    refine lv_iconst (v := 0) hx hb dX8_party_55 (by decide) ?_
    refine lv_istore_n (lv' := [(1, .int 0), (0, .ref q_t)]) hx hb dX8_party_56 rfl hl (by decide) rfl (fun ls hl => ?_)
    exact h_57 0 o12 v18 v19 v20 o13 o13 t_acts o14 o15 t_beat t_kind t_isKept fuelC 0 t_page _ _ _ hP hS (lv_sub hl [1, 0] rfl) hf
  · replace hf := iq hc hf
    refine lv_bipush (v := (-3)) hx hb dX8_party_14 (by decide) ?_
    obtain ⟨e0, hf⟩ := ij2 hf
    obtain ⟨e1, hf⟩ := ijc hf
    obtain ⟨e2, hf⟩ := ijc hf
    obtain ⟨e3, hf⟩ := ijc hf
    obtain ⟨e4, hf⟩ := ijc hf
    obtain ⟨e5, hf⟩ := ijc hf
    obtain ⟨e6, hf⟩ := ijc hf
    obtain ⟨e7, hf⟩ := ijc hf
    obtain ⟨e8, hf⟩ := ijc hf
    obtain ⟨e9, hf⟩ := ijc hf
    obtain ⟨e10, hf⟩ := ijc hf
    obtain ⟨e11, hf⟩ := ijc hf
    obtain ⟨e12, hf⟩ := ijc hf
    obtain ⟨e13, hf⟩ := ijc hf
    have e14 := hf
    refine W.eq (congrArg (fun z => F0 m 16 ls [.int z]) e0) ?_
    exact hret _ _ _ _ (by rw [← e1, ← e2, ← e3, ← e4, ← e5, ← e6, ← e7, ← e8, ← e9, ← e10, ← e11, ← e12, ← e13, ← e14]; exact hP) hS dX8_party_16
abbrev rm_X8_treadBy : Room := { frames := 0, cells := 0, slots := 0, locals := 0 }
set_option maxHeartbeats 4000000 in
set_option maxRecDepth 100000 in
theorem c_X8_treadBy (l : Launch) (dC : Nat → ClassId) (dI : Nat → Nat → Nat) (cI cZ : ClassId) (sz : Nat) (x0 : Int32) (x1 : Int32) (x2 : Int32) (x3 : Int32) (r_ : Int32) (hf : f_X8_treadBy x0 x1 x2 x3 = some r_) : Met l yX8_treadBy wsX8_treadBy rm_X8_treadBy (va_Pc [.int x0, .int x1, .int x2, .int x3] (PU (dC, dI) cI cZ [] sz)) (va_Qi (fun (r : Int32) (_ : Unit) => r = r_) (fun _ t => va_P (dC, dI) vwCl [] t.heap) (va_A [] sz)) 0 0 (va_A [] sz) := by
  refine MetI (cc := cX8_treadBy) (maxL := 4) (by decide) rfl (Nat.le_of_ble_eq_true rfl) (fun _ h => h) ?_
  intro p e s m args below meth c A Q ls hx CF hK hA hD hP hS hl hB hAe hsz hret
  have hb := CF.2.1
  have hml := CF.2.2.1
  have hown := CF.2.2.2.1
  have hts := CF.2.2.2.2
  have hD0 := hD
  replace hl : lv_has ls 4 [(0, .int x0), (1, .int x1), (2, .int x2), (3, .int x3)] := hl
  rw [f_X8_treadBy] at hf
  refine lv_iload_n hx hb dX8_treadBy_0 rfl (lv_at hl 0 rfl) ?_
  by_cases n0 : (x0 : Int32) = 1
  · replace hf := ip n0 hf
    refine lv_tableIn (off := 27) (tgt := 28) hx hb dX8_treadBy_1 (by rw [n0]; decide) (by rw [n0]; decide) (by rw [n0]; rfl) (by decide) ?_
    refine lv_iload_n hx hb dX8_treadBy_28 rfl (lv_at hl 1 rfl) ?_
    refine lv_iload_n hx hb dX8_treadBy_29 rfl (lv_at hl 3 rfl) ?_
    refine lv_iconst (v := 2) hx hb dX8_treadBy_30 (by decide) ?_
    refine lv_irem hx hb dX8_treadBy_31 (by decide) ?_
    refine lv_isub hx hb dX8_treadBy_32 ?_
    have e0 := ij1 hf
    refine W.eq (congrArg (fun z => F0 m 33 ls [.int z]) e0) ?_
    exact hret _ _ _ _ hP hS dX8_treadBy_33
  · replace hf := iq n0 hf
    by_cases n1 : (x0 : Int32) = 2
    · replace hf := ip n1 hf
      refine lv_tableIn (off := 33) (tgt := 34) hx hb dX8_treadBy_1 (by rw [n1]; decide) (by rw [n1]; decide) (by rw [n1]; rfl) (by decide) ?_
      refine lv_iload_n hx hb dX8_treadBy_34 rfl (lv_at hl 3 rfl) ?_
      refine lv_iload_n hx hb dX8_treadBy_35 rfl (lv_at hl 2 rfl) ?_
      obtain ⟨hne, hf⟩ := dv_ok hf
      refine lv_irem hx hb dX8_treadBy_36 hne ?_
      refine lv_if_ne (tgt := 46) hx hb dX8_treadBy_37 (by decide) (fun hc => ?_) (fun hc => ?_)
      · replace hf := iq hc hf
        refine lv_iload_n hx hb dX8_treadBy_46 rfl (lv_at hl 1 rfl) ?_
        have e0 := ij1 hf
        refine W.eq (congrArg (fun z => F0 m 47 ls [.int z]) e0) ?_
        exact hret _ _ _ _ hP hS dX8_treadBy_47
      · replace hf := ip hc hf
        refine lv_iload_n hx hb dX8_treadBy_40 rfl (lv_at hl 1 rfl) ?_
        refine lv_iconst (v := 1) hx hb dX8_treadBy_41 (by decide) ?_
        refine lv_iadd hx hb dX8_treadBy_42 ?_
        refine lv_goto (tgt := 47) hx hb dX8_treadBy_43 (by decide) ?_
        have e0 := ij1 hf
        refine W.eq (congrArg (fun z => F0 m 47 ls [.int z]) e0) ?_
        exact hret _ _ _ _ hP hS dX8_treadBy_47
    · replace hf := iq n1 hf
      by_cases n2 : (x0 : Int32) = 3
      · replace hf := ip n2 hf
        refine lv_tableIn (off := 47) (tgt := 48) hx hb dX8_treadBy_1 (by rw [n2]; decide) (by rw [n2]; decide) (by rw [n2]; rfl) (by decide) ?_
        refine lv_iload_n hx hb dX8_treadBy_48 rfl (lv_at hl 1 rfl) ?_
        refine lv_iload_n hx hb dX8_treadBy_49 rfl (lv_at hl 3 rfl) ?_
        refine lv_iload_n hx hb dX8_treadBy_50 rfl (lv_at hl 2 rfl) ?_
        obtain ⟨hne, hf⟩ := dv_ok hf
        refine lv_irem hx hb dX8_treadBy_51 hne ?_
        refine lv_iadd hx hb dX8_treadBy_52 ?_
        have e0 := ij1 hf
        refine W.eq (congrArg (fun z => F0 m 53 ls [.int z]) e0) ?_
        exact hret _ _ _ _ hP hS dX8_treadBy_53
      · replace hf := iq n2 hf
        refine lv_tableOut (tgt := 54) hx hb dX8_treadBy_1 (by have a0 : (x0 : Int32).toInt ≠ 1 := sw_ne n0; have a1 : (x0 : Int32).toInt ≠ 2 := sw_ne n1; have a2 : (x0 : Int32).toInt ≠ 3 := sw_ne n2; omega) (by decide) ?_
        refine lv_iload_n hx hb dX8_treadBy_54 rfl (lv_at hl 1 rfl) ?_
        have e0 := ij1 hf
        refine W.eq (congrArg (fun z => F0 m 55 ls [.int z]) e0) ?_
        exact hret _ _ _ _ hP hS dX8_treadBy_55
abbrev rm_X8_alone : Room := { frames := 1, cells := 0, slots := 0, locals := 23 }
set_option maxHeartbeats 4000000 in
set_option maxRecDepth 100000 in
theorem c_X8_alone (l : Launch) (dC : Nat → ClassId) (dI : Nat → Nat → Nat) (cI cZ : ClassId) (q_t q_t_text q_t_beat q_t_kind q_t_readSnow q_t_readWalker q_t_page q_t_trial q_t_book q_t_kept q_t_isKept q_t_markStep q_t_markTread q_t_order q_t_gains q_t_value q_a1 : Nat) (sz : Nat) (t_thrown : Int32) (t_textSize : Int32) (t_place : Int32) (t_depth : Int32) (t_noon : Int32) (t_later : Int32) (t_walkers : Int32) (t_readWalkers : Int32) (t_acts : Int32) (t_marks : Int32) (t_seed : Int64) (t_stumbled : Int32) (t_lineMany : Int32) (t_lineOrder : Int32) (t_whoseMany : Int32) (t_whoseFirst : Int32) (t_restMany : Int32) (t_restFirst : Int32) (t_kind : Nat → Int32) (a1 : Nat → Int32) (t_beat : Nat → Int32) (n_a1 : Nat) (x2 : Int32) (x3 : Int32) (r_ : Int32) (hf : f_X8_alone x2 x3 n_a1 t_kind a1 t_beat = some r_) : Met l yX8_alone wsX8_alone rm_X8_alone (va_Pc [.ref q_t, .ref q_a1, .int x2, .int x3] (PU (dC, dI) cI cZ [(q_t, .inr (8, [.int t_thrown, .ref q_t_text, .int t_textSize, .int t_place, .int t_depth, .int t_noon, .int t_later, .int t_walkers, .ref q_t_beat, .ref q_t_kind, .ref q_t_readSnow, .int t_readWalkers, .ref q_t_readWalker, .ref q_t_page, .ref q_t_trial, .ref q_t_book, .int t_acts, .ref q_t_kept, .ref q_t_isKept, .int t_marks, .ref q_t_markStep, .ref q_t_markTread, .long t_seed, .int t_stumbled, .ref q_t_order, .int t_lineMany, .int t_lineOrder, .int t_whoseMany, .int t_whoseFirst, .int t_restMany, .int t_restFirst, .ref q_t_gains, .ref q_t_value])), (q_t_kind, .inl (cI, 5, .inl t_kind)), (q_a1, .inl (cI, n_a1, .inl a1)), (q_t_beat, .inl (cI, 5, .inl t_beat))] sz)) (va_Qi (fun (r : Int32) (_ : Unit) => r = r_) (fun _ t => va_P (dC, dI) vwCl [(q_t, .inr (8, [.int t_thrown, .ref q_t_text, .int t_textSize, .int t_place, .int t_depth, .int t_noon, .int t_later, .int t_walkers, .ref q_t_beat, .ref q_t_kind, .ref q_t_readSnow, .int t_readWalkers, .ref q_t_readWalker, .ref q_t_page, .ref q_t_trial, .ref q_t_book, .int t_acts, .ref q_t_kept, .ref q_t_isKept, .int t_marks, .ref q_t_markStep, .ref q_t_markTread, .long t_seed, .int t_stumbled, .ref q_t_order, .int t_lineMany, .int t_lineOrder, .int t_whoseMany, .int t_whoseFirst, .int t_restMany, .int t_restFirst, .ref q_t_gains, .ref q_t_value])), (q_t_kind, .inl (cI, 5, .inl t_kind)), (q_a1, .inl (cI, n_a1, .inl a1)), (q_t_beat, .inl (cI, 5, .inl t_beat))] t.heap) (va_A [(q_t, .inr (8, [.int t_thrown, .ref q_t_text, .int t_textSize, .int t_place, .int t_depth, .int t_noon, .int t_later, .int t_walkers, .ref q_t_beat, .ref q_t_kind, .ref q_t_readSnow, .int t_readWalkers, .ref q_t_readWalker, .ref q_t_page, .ref q_t_trial, .ref q_t_book, .int t_acts, .ref q_t_kept, .ref q_t_isKept, .int t_marks, .ref q_t_markStep, .ref q_t_markTread, .long t_seed, .int t_stumbled, .ref q_t_order, .int t_lineMany, .int t_lineOrder, .int t_whoseMany, .int t_whoseFirst, .int t_restMany, .int t_restFirst, .ref q_t_gains, .ref q_t_value])), (q_t_kind, .inl (cI, 5, .inl t_kind)), (q_a1, .inl (cI, n_a1, .inl a1)), (q_t_beat, .inl (cI, 5, .inl t_beat))] sz)) 0 0 (va_A [(q_t, .inr (8, [.int t_thrown, .ref q_t_text, .int t_textSize, .int t_place, .int t_depth, .int t_noon, .int t_later, .int t_walkers, .ref q_t_beat, .ref q_t_kind, .ref q_t_readSnow, .int t_readWalkers, .ref q_t_readWalker, .ref q_t_page, .ref q_t_trial, .ref q_t_book, .int t_acts, .ref q_t_kept, .ref q_t_isKept, .int t_marks, .ref q_t_markStep, .ref q_t_markTread, .long t_seed, .int t_stumbled, .ref q_t_order, .int t_lineMany, .int t_lineOrder, .int t_whoseMany, .int t_whoseFirst, .int t_restMany, .int t_restFirst, .ref q_t_gains, .ref q_t_value])), (q_t_kind, .inl (cI, 5, .inl t_kind)), (q_a1, .inl (cI, n_a1, .inl a1)), (q_t_beat, .inl (cI, 5, .inl t_beat))] sz) := by
  refine MetI (cc := cX8_alone) (maxL := 4) (by decide) rfl (Nat.le_of_ble_eq_true rfl) (fun _ h => h) ?_
  intro p e s m args below meth c A Q ls hx CF hK hA hD hP hS hl hB hAe hsz hret
  have hb := CF.2.1
  have hml := CF.2.2.1
  have hown := CF.2.2.2.1
  have hts := CF.2.2.2.2
  have hD0 := hD
  replace hl : lv_has ls 4 [(0, .ref q_t), (1, .ref q_a1), (2, .int x2), (3, .int x3)] := hl
  have hinX8 : ∀ w ∈ wsX80, w ∈ wsX8_alone := fun _ h => List.mem_cons_of_mem _ (List.mem_append_right _ h)
  have w_0 := hts (.fieldLink RX8 23 "PassInStepModel" "kind" "[I") (by decide +kernel)
  have w_1 := hts (.fieldLink RX8 20 "PassInStepModel" "beat" "[I") (by decide +kernel)
  rw [f_X8_alone] at hf
  refine lv_aload_n hx hb dX8_alone_0 rfl (lv_at hl 0 rfl) ?_
  refine va_get (D := (dC, dI)) (ci := 8) (v := .ref q_t_kind) (C := RX8) (T := TX8) (N := 33) hx hb hts hinX8 hown hK.1 hP 0 rfl rfl 9 (by decide) w_0 (fun _ h9 => h9) rfl dX8_alone_1 ?_
  refine lv_iload_n hx hb dX8_alone_4 rfl (lv_at hl 2 rfl) ?_
  refine kald hx hb hK.1 hP 1 0 rfl rfl dX8_alone_5 hf (fun v1 hf => ?_)
  refine lv_aload_n hx hb dX8_alone_6 rfl (lv_at hl 1 rfl) ?_
  refine lv_iconst (v := 5) hx hb dX8_alone_7 (by decide) ?_
  refine lv_iload_n hx hb dX8_alone_8 rfl (lv_at hl 2 rfl) ?_
  refine lv_iadd hx hb dX8_alone_9 ?_
  refine kald hx hb hK.1 hP 2 0 rfl rfl dX8_alone_10 hf (fun v2 hf => ?_)
  refine lv_aload_n hx hb dX8_alone_11 rfl (lv_at hl 0 rfl) ?_
  refine va_get (D := (dC, dI)) (ci := 8) (v := .ref q_t_beat) (C := RX8) (T := TX8) (N := 33) hx hb hts hinX8 hown hK.1 hP 0 rfl rfl 8 (by decide) w_1 (fun _ h9 => h9) rfl dX8_alone_12 ?_
  refine lv_iload_n hx hb dX8_alone_15 rfl (lv_at hl 2 rfl) ?_
  refine kald hx hb hK.1 hP 3 0 rfl rfl dX8_alone_16 hf (fun v3 hf => ?_)
  refine lv_iload_n hx hb dX8_alone_17 rfl (lv_at hl 3 rfl) ?_
  obtain ⟨r4, e6, hf⟩ := bd_ok hf
  refine kSi (As := [.int v1, .int v2, .int v3, .int x3]) CF (va_cwS 4 hts gX8_alone_X8_treadBy rfl rfl rfl (by decide +kernel) ⟨Nat.le_of_ble_eq_true rfl, Nat.le_of_ble_eq_true rfl⟩) PU_blind hP hD hS hA [] (fun h1 h2 h3 => PU_pre hK h1 A h2 h3) (c_X8_treadBy l dC dI cI cZ _ v1 v2 v3 x3 r4 e6) rfl rfl rfl rfl hl.1 rfl (Nat.le_of_ble_eq_true rfl) dX8_alone_18 ⟨Nat.zero_le _, Nat.zero_le _⟩ (fun H locs hP hS => ?_)
  replace hP : va_P (dC, dI) vwCl [(q_t, .inr (8, [.int t_thrown, .ref q_t_text, .int t_textSize, .int t_place, .int t_depth, .int t_noon, .int t_later, .int t_walkers, .ref q_t_beat, .ref q_t_kind, .ref q_t_readSnow, .int t_readWalkers, .ref q_t_readWalker, .ref q_t_page, .ref q_t_trial, .ref q_t_book, .int t_acts, .ref q_t_kept, .ref q_t_isKept, .int t_marks, .ref q_t_markStep, .ref q_t_markTread, .long t_seed, .int t_stumbled, .ref q_t_order, .int t_lineMany, .int t_lineOrder, .int t_whoseMany, .int t_whoseFirst, .int t_restMany, .int t_restFirst, .ref q_t_gains, .ref q_t_value])), (q_t_kind, .inl (cI, 5, .inl t_kind)), (q_a1, .inl (cI, n_a1, .inl a1)), (q_t_beat, .inl (cI, 5, .inl t_beat))] H := hP
  have e0 := ij1 hf
  refine W.eq (congrArg (fun z => F0 m 21 ls [.int z]) e0) ?_
  exact hret _ _ _ _ hP hS dX8_alone_21
