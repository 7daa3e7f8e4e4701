-- X8_nextOrder
abbrev rm_X8_nextOrder : Room := { frames := 0, cells := 0, slots := 0, locals := 0 }
set_option maxHeartbeats 4000000 in
set_option maxRecDepth 100000 in
theorem c_X8_nextOrder (l : Launch) (dC : Nat → ClassId) (dI : Nat → Nat → Nat) (cI cZ : ClassId) (q_t q_t_text q_t_beat q_t_kind q_t_readSnow q_t_readWalker q_t_page q_t_trial q_t_book q_t_kept q_t_isKept q_t_markStep q_t_markTread q_t_order q_t_gains q_t_value : Nat) (sz : Nat) (t_thrown : Int32) (t_textSize : Int32) (t_place : Int32) (t_depth : Int32) (t_noon : Int32) (t_later : Int32) (t_walkers : Int32) (t_readWalkers : Int32) (t_acts : Int32) (t_marks : Int32) (t_seed : Int64) (t_stumbled : Int32) (t_lineMany : Int32) (t_lineOrder : Int32) (t_whoseMany : Int32) (t_whoseFirst : Int32) (t_restMany : Int32) (t_restFirst : Int32) (t_order : Nat → Int32) (r_ : Int32) (o_t_order : Nat → Int32) (hf : f_X8_nextOrder t_walkers t_order = some (r_, o_t_order)) : Met l yX8_nextOrder wsX8_nextOrder rm_X8_nextOrder (va_Pc [.ref q_t] (PU (dC, dI) cI cZ [(q_t, .inr (8, [.int t_thrown, .ref q_t_text, .int t_textSize, .int t_place, .int t_depth, .int t_noon, .int t_later, .int t_walkers, .ref q_t_beat, .ref q_t_kind, .ref q_t_readSnow, .int t_readWalkers, .ref q_t_readWalker, .ref q_t_page, .ref q_t_trial, .ref q_t_book, .int t_acts, .ref q_t_kept, .ref q_t_isKept, .int t_marks, .ref q_t_markStep, .ref q_t_markTread, .long t_seed, .int t_stumbled, .ref q_t_order, .int t_lineMany, .int t_lineOrder, .int t_whoseMany, .int t_whoseFirst, .int t_restMany, .int t_restFirst, .ref q_t_gains, .ref q_t_value])), (q_t_order, .inl (cI, 5, .inl t_order))] sz)) (va_Qi (fun (r : Int32) (_ : Unit) => r = r_) (fun _ t => va_P (dC, dI) vwCl [(q_t, .inr (8, [.int t_thrown, .ref q_t_text, .int t_textSize, .int t_place, .int t_depth, .int t_noon, .int t_later, .int t_walkers, .ref q_t_beat, .ref q_t_kind, .ref q_t_readSnow, .int t_readWalkers, .ref q_t_readWalker, .ref q_t_page, .ref q_t_trial, .ref q_t_book, .int t_acts, .ref q_t_kept, .ref q_t_isKept, .int t_marks, .ref q_t_markStep, .ref q_t_markTread, .long t_seed, .int t_stumbled, .ref q_t_order, .int t_lineMany, .int t_lineOrder, .int t_whoseMany, .int t_whoseFirst, .int t_restMany, .int t_restFirst, .ref q_t_gains, .ref q_t_value])), (q_t_order, .inl (cI, 5, .inl o_t_order))] t.heap) (va_A [(q_t, .inr (8, [.int t_thrown, .ref q_t_text, .int t_textSize, .int t_place, .int t_depth, .int t_noon, .int t_later, .int t_walkers, .ref q_t_beat, .ref q_t_kind, .ref q_t_readSnow, .int t_readWalkers, .ref q_t_readWalker, .ref q_t_page, .ref q_t_trial, .ref q_t_book, .int t_acts, .ref q_t_kept, .ref q_t_isKept, .int t_marks, .ref q_t_markStep, .ref q_t_markTread, .long t_seed, .int t_stumbled, .ref q_t_order, .int t_lineMany, .int t_lineOrder, .int t_whoseMany, .int t_whoseFirst, .int t_restMany, .int t_restFirst, .ref q_t_gains, .ref q_t_value])), (q_t_order, .inl (cI, 5, .inl t_order))] sz)) 0 0 (va_A [(q_t, .inr (8, [.int t_thrown, .ref q_t_text, .int t_textSize, .int t_place, .int t_depth, .int t_noon, .int t_later, .int t_walkers, .ref q_t_beat, .ref q_t_kind, .ref q_t_readSnow, .int t_readWalkers, .ref q_t_readWalker, .ref q_t_page, .ref q_t_trial, .ref q_t_book, .int t_acts, .ref q_t_kept, .ref q_t_isKept, .int t_marks, .ref q_t_markStep, .ref q_t_markTread, .long t_seed, .int t_stumbled, .ref q_t_order, .int t_lineMany, .int t_lineOrder, .int t_whoseMany, .int t_whoseFirst, .int t_restMany, .int t_restFirst, .ref q_t_gains, .ref q_t_value])), (q_t_order, .inl (cI, 5, .inl t_order))] sz) := by
  refine MetZ (cc := cX8_nextOrder) (maxL := 6) (by decide) rfl (Nat.le_of_ble_eq_true rfl) (fun _ h => h) ?_
  intro p e s m args below meth c A Q ls hx CF hK hA hD hP hS hl hB hAe hsz hret
  have hb := CF.2.1
  have hml := CF.2.2.1
  have hown := CF.2.2.2.1
  have hts := CF.2.2.2.2
  have hD0 := hD
  replace hl : lv_has ls 6 [(0, .ref q_t)] := hl
  have hinX8 : ∀ w ∈ wsX80, w ∈ wsX8_nextOrder := fun _ h => List.mem_cons_of_mem _ (List.mem_append_right _ h)
  have w_0 := hts (.fieldLink RX8 54 "PassInStepModel" "order" "[I") (by decide +kernel)
  have w_1 := hts (.fieldLink RX8 66 "PassInStepModel" "walkers" "I") (by decide +kernel)
  have h_107 : ∀ (fu107 : Nat) (x4 : Int32) (x5 : Int32) (t_order : Nat → Int32) (H : Heap) (locs : List Loc) (ls : Array Slot), va_P (dC, dI) vwCl [(q_t, .inr (8, [.int t_thrown, .ref q_t_text, .int t_textSize, .int t_place, .int t_depth, .int t_noon, .int t_later, .int t_walkers, .ref q_t_beat, .ref q_t_kind, .ref q_t_readSnow, .int t_readWalkers, .ref q_t_readWalker, .ref q_t_page, .ref q_t_trial, .ref q_t_book, .int t_acts, .ref q_t_kept, .ref q_t_isKept, .int t_marks, .ref q_t_markStep, .ref q_t_markTread, .long t_seed, .int t_stumbled, .ref q_t_order, .int t_lineMany, .int t_lineOrder, .int t_whoseMany, .int t_whoseFirst, .int t_restMany, .int t_restFirst, .ref q_t_gains, .ref q_t_value])), (q_t_order, .inl (cI, 5, .inl t_order))] H → va_S A s.heap H locs → lv_has ls 6 [(0, .ref q_t), (4, .int x4), (5, .int x5)] → L_X8_nextOrder_107 fu107 x4 x5 t_order = some (r_, o_t_order) → W p l e rm_X8_nextOrder s m args below meth c H locs 0 0 Q (F0 m 107 ls []) := by
    intro fu107
    induction fu107 with
    | zero =>
      intro x4 x5 t_order H locs ls hP hS hl hf
      rw [L_X8_nextOrder_107] at hf
      cases hf
    | succ fu107 ih107 =>
      intro x4 x5 t_order H locs ls hP hS hl hf
      have hD : va_D A [(q_t, .inr (8, [.int t_thrown, .ref q_t_text, .int t_textSize, .int t_place, .int t_depth, .int t_noon, .int t_later, .int t_walkers, .ref q_t_beat, .ref q_t_kind, .ref q_t_readSnow, .int t_readWalkers, .ref q_t_readWalker, .ref q_t_page, .ref q_t_trial, .ref q_t_book, .int t_acts, .ref q_t_kept, .ref q_t_isKept, .int t_marks, .ref q_t_markStep, .ref q_t_markTread, .long t_seed, .int t_stumbled, .ref q_t_order, .int t_lineMany, .int t_lineOrder, .int t_whoseMany, .int t_whoseFirst, .int t_restMany, .int t_restFirst, .ref q_t_gains, .ref q_t_value])), (q_t_order, .inl (cI, 5, .inl t_order))] := wd hD0 rfl
      rw [L_X8_nextOrder_107] at hf
      refine lv_iload hx hb dX8_nextOrder_107 (lv_at hl 1 rfl) ?_
      refine lv_iload hx hb dX8_nextOrder_109 (lv_at hl 2 rfl) ?_
      refine lv_icmp_ge (tgt := 153) hx hb dX8_nextOrder_111 (by decide) (fun hc => ?_) (fun hc => ?_)
      · replace hf := ip hc hf
        refine lv_iconst (v := 1) hx hb dX8_nextOrder_153 (by decide) ?_
        obtain ⟨e0, hf⟩ := ij2 hf
        have e1 := hf
        refine W.eq (congrArg (fun z => F0 m 154 ls [.int z]) e0) ?_
        exact hret _ _ _ _ (by rw [← e1]; exact hP) hS (by rw [← e0]; rfl) dX8_nextOrder_154
      · replace hf := iq hc hf
        refine lv_aload_n hx hb dX8_nextOrder_114 rfl (lv_at hl 0 rfl) ?_
        refine va_get (D := (dC, dI)) (ci := 8) (v := .ref q_t_order) (C := RX8) (T := TX8) (N := 33) hx hb hts hinX8 hown hK.1 hP 0 rfl rfl 24 (by decide) w_0 (fun _ h9 => h9) rfl dX8_nextOrder_115 ?_
        refine lv_iload hx hb dX8_nextOrder_118 (lv_at hl 1 rfl) ?_
        refine kald hx hb hK.1 hP 1 0 rfl rfl dX8_nextOrder_120 hf (fun v1 hf => ?_)
        refine lv_istore_n (lv' := [(3, .int v1), (0, .ref q_t), (4, .int x4), (5, .int x5)]) hx hb dX8_nextOrder_121 rfl hl (by decide) rfl (fun ls hl => ?_)
        refine lv_aload_n hx hb dX8_nextOrder_122 rfl (lv_at hl 1 rfl) ?_
        refine va_get (D := (dC, dI)) (ci := 8) (v := .ref q_t_order) (C := RX8) (T := TX8) (N := 33) hx hb hts hinX8 hown hK.1 hP 0 rfl rfl 24 (by decide) w_0 (fun _ h9 => h9) rfl dX8_nextOrder_123 ?_
        refine lv_iload hx hb dX8_nextOrder_126 (lv_at hl 2 rfl) ?_
        refine lv_aload_n hx hb dX8_nextOrder_128 rfl (lv_at hl 1 rfl) ?_
        refine va_get (D := (dC, dI)) (ci := 8) (v := .ref q_t_order) (C := RX8) (T := TX8) (N := 33) hx hb hts hinX8 hown hK.1 hP 0 rfl rfl 24 (by decide) w_0 (fun _ h9 => h9) rfl dX8_nextOrder_129 ?_
        refine lv_iload hx hb dX8_nextOrder_132 (lv_at hl 3 rfl) ?_
        refine kald hx hb hK.1 hP 1 0 rfl rfl dX8_nextOrder_134 hf (fun v2 hf => ?_)
        refine kast hx hb hK.1 hP hD hS 1 0 rfl rfl dX8_nextOrder_135 hf (fun w3 H locs hP hD hS hf => ?_)
        replace hP : va_P (dC, dI) vwCl [(q_t, .inr (8, [.int t_thrown, .ref q_t_text, .int t_textSize, .int t_place, .int t_depth, .int t_noon, .int t_later, .int t_walkers, .ref q_t_beat, .ref q_t_kind, .ref q_t_readSnow, .int t_readWalkers, .ref q_t_readWalker, .ref q_t_page, .ref q_t_trial, .ref q_t_book, .int t_acts, .ref q_t_kept, .ref q_t_isKept, .int t_marks, .ref q_t_markStep, .ref q_t_markTread, .long t_seed, .int t_stumbled, .ref q_t_order, .int t_lineMany, .int t_lineOrder, .int t_whoseMany, .int t_whoseFirst, .int t_restMany, .int t_restFirst, .ref q_t_gains, .ref q_t_value])), (q_t_order, .inl (cI, 5, .inl w3))] H := hP
        replace hD : va_D A [(q_t, .inr (8, [.int t_thrown, .ref q_t_text, .int t_textSize, .int t_place, .int t_depth, .int t_noon, .int t_later, .int t_walkers, .ref q_t_beat, .ref q_t_kind, .ref q_t_readSnow, .int t_readWalkers, .ref q_t_readWalker, .ref q_t_page, .ref q_t_trial, .ref q_t_book, .int t_acts, .ref q_t_kept, .ref q_t_isKept, .int t_marks, .ref q_t_markStep, .ref q_t_markTread, .long t_seed, .int t_stumbled, .ref q_t_order, .int t_lineMany, .int t_lineOrder, .int t_whoseMany, .int t_whoseFirst, .int t_restMany, .int t_restFirst, .ref q_t_gains, .ref q_t_value])), (q_t_order, .inl (cI, 5, .inl w3))] := hD
        refine lv_aload_n hx hb dX8_nextOrder_136 rfl (lv_at hl 1 rfl) ?_
        refine va_get (D := (dC, dI)) (ci := 8) (v := .ref q_t_order) (C := RX8) (T := TX8) (N := 33) hx hb hts hinX8 hown hK.1 hP 0 rfl rfl 24 (by decide) w_0 (fun _ h9 => h9) rfl dX8_nextOrder_137 ?_
        refine lv_iload hx hb dX8_nextOrder_140 (lv_at hl 3 rfl) ?_
        refine lv_iload_n hx hb dX8_nextOrder_142 rfl (lv_at hl 0 rfl) ?_
        refine kast hx hb hK.1 hP hD hS 1 0 rfl rfl dX8_nextOrder_143 hf (fun w4 H locs hP hD hS hf => ?_)
        replace hP : va_P (dC, dI) vwCl [(q_t, .inr (8, [.int t_thrown, .ref q_t_text, .int t_textSize, .int t_place, .int t_depth, .int t_noon, .int t_later, .int t_walkers, .ref q_t_beat, .ref q_t_kind, .ref q_t_readSnow, .int t_readWalkers, .ref q_t_readWalker, .ref q_t_page, .ref q_t_trial, .ref q_t_book, .int t_acts, .ref q_t_kept, .ref q_t_isKept, .int t_marks, .ref q_t_markStep, .ref q_t_markTread, .long t_seed, .int t_stumbled, .ref q_t_order, .int t_lineMany, .int t_lineOrder, .int t_whoseMany, .int t_whoseFirst, .int t_restMany, .int t_restFirst, .ref q_t_gains, .ref q_t_value])), (q_t_order, .inl (cI, 5, .inl w4))] H := hP
        replace hD : va_D A [(q_t, .inr (8, [.int t_thrown, .ref q_t_text, .int t_textSize, .int t_place, .int t_depth, .int t_noon, .int t_later, .int t_walkers, .ref q_t_beat, .ref q_t_kind, .ref q_t_readSnow, .int t_readWalkers, .ref q_t_readWalker, .ref q_t_page, .ref q_t_trial, .ref q_t_book, .int t_acts, .ref q_t_kept, .ref q_t_isKept, .int t_marks, .ref q_t_markStep, .ref q_t_markTread, .long t_seed, .int t_stumbled, .ref q_t_order, .int t_lineMany, .int t_lineOrder, .int t_whoseMany, .int t_whoseFirst, .int t_restMany, .int t_restFirst, .ref q_t_gains, .ref q_t_value])), (q_t_order, .inl (cI, 5, .inl w4))] := hD
        refine lv_iinc (v := (x4 + 1)) (lv' := [(4, .int (x4 + 1)), (3, .int v1), (0, .ref q_t), (5, .int x5)]) hx hb dX8_nextOrder_144 hl (k := 2) rfl rfl (by decide) rfl (fun ls hl => ?_)
        refine lv_iinc (v := (x5 + (-1))) (lv' := [(5, .int (x5 + (-1))), (4, .int (x4 + 1)), (3, .int v1), (0, .ref q_t)]) hx hb dX8_nextOrder_147 hl (k := 3) rfl rfl (by decide) rfl (fun ls hl => ?_)
        refine lv_goto (tgt := 107) hx hb dX8_nextOrder_150 (by decide) ?_
        exact ih107 (x4 + 1) (x5 + (-1)) w4 _ _ _ hP hS (lv_sub hl [3, 1, 0] rfl) hf
  have h_47 : ∀ (x1 : Int32) (t_order : Nat → Int32) (fu47 : Nat) (x2 : Int32) (H : Heap) (locs : List Loc) (ls : Array Slot), va_P (dC, dI) vwCl [(q_t, .inr (8, [.int t_thrown, .ref q_t_text, .int t_textSize, .int t_place, .int t_depth, .int t_noon, .int t_later, .int t_walkers, .ref q_t_beat, .ref q_t_kind, .ref q_t_readSnow, .int t_readWalkers, .ref q_t_readWalker, .ref q_t_page, .ref q_t_trial, .ref q_t_book, .int t_acts, .ref q_t_kept, .ref q_t_isKept, .int t_marks, .ref q_t_markStep, .ref q_t_markTread, .long t_seed, .int t_stumbled, .ref q_t_order, .int t_lineMany, .int t_lineOrder, .int t_whoseMany, .int t_whoseFirst, .int t_restMany, .int t_restFirst, .ref q_t_gains, .ref q_t_value])), (q_t_order, .inl (cI, 5, .inl t_order))] H → va_S A s.heap H locs → lv_has ls 6 [(0, .ref q_t), (1, .int x1), (2, .int x2)] → L_X8_nextOrder_47 x1 t_walkers t_order fu47 x2 = some (r_, o_t_order) → W p l e rm_X8_nextOrder s m args below meth c H locs 0 0 Q (F0 m 47 ls []) := by
    intro x1 t_order fu47
    induction fu47 with
    | zero =>
      intro x2 H locs ls hP hS hl hf
      rw [L_X8_nextOrder_47] at hf
      cases hf
    | succ fu47 ih47 =>
      intro x2 H locs ls hP hS hl hf
      have hD : va_D A [(q_t, .inr (8, [.int t_thrown, .ref q_t_text, .int t_textSize, .int t_place, .int t_depth, .int t_noon, .int t_later, .int t_walkers, .ref q_t_beat, .ref q_t_kind, .ref q_t_readSnow, .int t_readWalkers, .ref q_t_readWalker, .ref q_t_page, .ref q_t_trial, .ref q_t_book, .int t_acts, .ref q_t_kept, .ref q_t_isKept, .int t_marks, .ref q_t_markStep, .ref q_t_markTread, .long t_seed, .int t_stumbled, .ref q_t_order, .int t_lineMany, .int t_lineOrder, .int t_whoseMany, .int t_whoseFirst, .int t_restMany, .int t_restFirst, .ref q_t_gains, .ref q_t_value])), (q_t_order, .inl (cI, 5, .inl t_order))] := wd hD0 rfl
      rw [L_X8_nextOrder_47] at hf
      refine lv_aload_n hx hb dX8_nextOrder_47 rfl (lv_at hl 0 rfl) ?_
      refine va_get (D := (dC, dI)) (ci := 8) (v := .ref q_t_order) (C := RX8) (T := TX8) (N := 33) hx hb hts hinX8 hown hK.1 hP 0 rfl rfl 24 (by decide) w_0 (fun _ h9 => h9) rfl dX8_nextOrder_48 ?_
      refine lv_iload_n hx hb dX8_nextOrder_51 rfl (lv_at hl 2 rfl) ?_
      refine kald hx hb hK.1 hP 1 0 rfl rfl dX8_nextOrder_52 hf (fun v5 hf => ?_)
      refine lv_aload_n hx hb dX8_nextOrder_53 rfl (lv_at hl 0 rfl) ?_
      refine va_get (D := (dC, dI)) (ci := 8) (v := .ref q_t_order) (C := RX8) (T := TX8) (N := 33) hx hb hts hinX8 hown hK.1 hP 0 rfl rfl 24 (by decide) w_0 (fun _ h9 => h9) rfl dX8_nextOrder_54 ?_
      refine lv_iload_n hx hb dX8_nextOrder_57 rfl (lv_at hl 1 rfl) ?_
      refine kald hx hb hK.1 hP 1 0 rfl rfl dX8_nextOrder_58 hf (fun v6 hf => ?_)
      refine lv_icmp_ge (tgt := 68) hx hb dX8_nextOrder_59 (by decide) (fun hc => ?_) (fun hc => ?_)
      · replace hf := ip hc hf
        refine lv_aload_n hx hb dX8_nextOrder_68 rfl (lv_at hl 0 rfl) ?_
        refine va_get (D := (dC, dI)) (ci := 8) (v := .ref q_t_order) (C := RX8) (T := TX8) (N := 33) hx hb hts hinX8 hown hK.1 hP 0 rfl rfl 24 (by decide) w_0 (fun _ h9 => h9) rfl dX8_nextOrder_69 ?_
        refine lv_iload_n hx hb dX8_nextOrder_72 rfl (lv_at hl 1 rfl) ?_
        refine kald hx hb hK.1 hP 1 0 rfl rfl dX8_nextOrder_73 hf (fun v7 hf => ?_)
        refine lv_istore_n (lv' := [(3, .int v7), (0, .ref q_t), (1, .int x1), (2, .int x2)]) hx hb dX8_nextOrder_74 rfl hl (by decide) rfl (fun ls hl => ?_)
        refine lv_aload_n hx hb dX8_nextOrder_75 rfl (lv_at hl 1 rfl) ?_
        refine va_get (D := (dC, dI)) (ci := 8) (v := .ref q_t_order) (C := RX8) (T := TX8) (N := 33) hx hb hts hinX8 hown hK.1 hP 0 rfl rfl 24 (by decide) w_0 (fun _ h9 => h9) rfl dX8_nextOrder_76 ?_
        refine lv_iload_n hx hb dX8_nextOrder_79 rfl (lv_at hl 2 rfl) ?_
        refine lv_aload_n hx hb dX8_nextOrder_80 rfl (lv_at hl 1 rfl) ?_
        refine va_get (D := (dC, dI)) (ci := 8) (v := .ref q_t_order) (C := RX8) (T := TX8) (N := 33) hx hb hts hinX8 hown hK.1 hP 0 rfl rfl 24 (by decide) w_0 (fun _ h9 => h9) rfl dX8_nextOrder_81 ?_
        refine lv_iload_n hx hb dX8_nextOrder_84 rfl (lv_at hl 3 rfl) ?_
        refine kald hx hb hK.1 hP 1 0 rfl rfl dX8_nextOrder_85 hf (fun v8 hf => ?_)
        refine kast hx hb hK.1 hP hD hS 1 0 rfl rfl dX8_nextOrder_86 hf (fun w9 H locs hP hD hS hf => ?_)
        replace hP : va_P (dC, dI) vwCl [(q_t, .inr (8, [.int t_thrown, .ref q_t_text, .int t_textSize, .int t_place, .int t_depth, .int t_noon, .int t_later, .int t_walkers, .ref q_t_beat, .ref q_t_kind, .ref q_t_readSnow, .int t_readWalkers, .ref q_t_readWalker, .ref q_t_page, .ref q_t_trial, .ref q_t_book, .int t_acts, .ref q_t_kept, .ref q_t_isKept, .int t_marks, .ref q_t_markStep, .ref q_t_markTread, .long t_seed, .int t_stumbled, .ref q_t_order, .int t_lineMany, .int t_lineOrder, .int t_whoseMany, .int t_whoseFirst, .int t_restMany, .int t_restFirst, .ref q_t_gains, .ref q_t_value])), (q_t_order, .inl (cI, 5, .inl w9))] H := hP
        replace hD : va_D A [(q_t, .inr (8, [.int t_thrown, .ref q_t_text, .int t_textSize, .int t_place, .int t_depth, .int t_noon, .int t_later, .int t_walkers, .ref q_t_beat, .ref q_t_kind, .ref q_t_readSnow, .int t_readWalkers, .ref q_t_readWalker, .ref q_t_page, .ref q_t_trial, .ref q_t_book, .int t_acts, .ref q_t_kept, .ref q_t_isKept, .int t_marks, .ref q_t_markStep, .ref q_t_markTread, .long t_seed, .int t_stumbled, .ref q_t_order, .int t_lineMany, .int t_lineOrder, .int t_whoseMany, .int t_whoseFirst, .int t_restMany, .int t_restFirst, .ref q_t_gains, .ref q_t_value])), (q_t_order, .inl (cI, 5, .inl w9))] := hD
        refine lv_aload_n hx hb dX8_nextOrder_87 rfl (lv_at hl 1 rfl) ?_
        refine va_get (D := (dC, dI)) (ci := 8) (v := .ref q_t_order) (C := RX8) (T := TX8) (N := 33) hx hb hts hinX8 hown hK.1 hP 0 rfl rfl 24 (by decide) w_0 (fun _ h9 => h9) rfl dX8_nextOrder_88 ?_
        refine lv_iload_n hx hb dX8_nextOrder_91 rfl (lv_at hl 3 rfl) ?_
        refine lv_iload_n hx hb dX8_nextOrder_92 rfl (lv_at hl 0 rfl) ?_
        refine kast hx hb hK.1 hP hD hS 1 0 rfl rfl dX8_nextOrder_93 hf (fun w10 H locs hP hD hS hf => ?_)
        replace hP : va_P (dC, dI) vwCl [(q_t, .inr (8, [.int t_thrown, .ref q_t_text, .int t_textSize, .int t_place, .int t_depth, .int t_noon, .int t_later, .int t_walkers, .ref q_t_beat, .ref q_t_kind, .ref q_t_readSnow, .int t_readWalkers, .ref q_t_readWalker, .ref q_t_page, .ref q_t_trial, .ref q_t_book, .int t_acts, .ref q_t_kept, .ref q_t_isKept, .int t_marks, .ref q_t_markStep, .ref q_t_markTread, .long t_seed, .int t_stumbled, .ref q_t_order, .int t_lineMany, .int t_lineOrder, .int t_whoseMany, .int t_whoseFirst, .int t_restMany, .int t_restFirst, .ref q_t_gains, .ref q_t_value])), (q_t_order, .inl (cI, 5, .inl w10))] H := hP
        replace hD : va_D A [(q_t, .inr (8, [.int t_thrown, .ref q_t_text, .int t_textSize, .int t_place, .int t_depth, .int t_noon, .int t_later, .int t_walkers, .ref q_t_beat, .ref q_t_kind, .ref q_t_readSnow, .int t_readWalkers, .ref q_t_readWalker, .ref q_t_page, .ref q_t_trial, .ref q_t_book, .int t_acts, .ref q_t_kept, .ref q_t_isKept, .int t_marks, .ref q_t_markStep, .ref q_t_markTread, .long t_seed, .int t_stumbled, .ref q_t_order, .int t_lineMany, .int t_lineOrder, .int t_whoseMany, .int t_whoseFirst, .int t_restMany, .int t_restFirst, .ref q_t_gains, .ref q_t_value])), (q_t_order, .inl (cI, 5, .inl w10))] := hD
        refine lv_iload_n hx hb dX8_nextOrder_94 rfl (lv_at hl 2 rfl) ?_
        refine lv_iconst (v := 1) hx hb dX8_nextOrder_95 (by decide) ?_
        refine lv_iadd hx hb dX8_nextOrder_96 ?_
        refine lv_istore (lv' := [(4, .int (x1 + 1)), (3, .int v7), (0, .ref q_t), (1, .int x1), (2, .int x2)]) hx hb dX8_nextOrder_97 hl (by decide) rfl (fun ls hl => ?_)
        refine lv_aload_n hx hb dX8_nextOrder_99 rfl (lv_at hl 2 rfl) ?_
        refine va_get (D := (dC, dI)) (ci := 8) (v := .int t_walkers) (C := RX8) (T := TX8) (N := 33) hx hb hts hinX8 hown hK.1 hP 0 rfl rfl 7 (by decide) w_1 (fun _ h9 => h9) rfl dX8_nextOrder_100 ?_
        refine lv_iconst (v := 1) hx hb dX8_nextOrder_103 (by decide) ?_
        refine lv_isub hx hb dX8_nextOrder_104 ?_
        refine lv_istore (lv' := [(5, .int (t_walkers - 1)), (4, .int (x1 + 1)), (3, .int v7), (0, .ref q_t), (1, .int x1), (2, .int x2)]) hx hb dX8_nextOrder_105 hl (by decide) rfl (fun ls hl => ?_)
        exact h_107 fuelC (x1 + 1) (t_walkers - 1) w10 _ _ _ hP hS (lv_sub hl [3, 1, 0] rfl) hf
      · replace hf := iq hc hf
        refine lv_iinc (v := (x2 + (-1))) (lv' := [(2, .int (x2 + (-1))), (0, .ref q_t), (1, .int x1)]) hx hb dX8_nextOrder_62 hl (k := 2) rfl rfl (by decide) rfl (fun ls hl => ?_)
        refine lv_goto (tgt := 47) hx hb dX8_nextOrder_65 (by decide) ?_
        exact ih47 (x2 + (-1)) _ _ _ hP hS (lv_sub hl [1, 2, 0] rfl) hf
  have h_34 : ∀ (x1 : Int32) (t_order : Nat → Int32) (H : Heap) (locs : List Loc) (ls : Array Slot), va_P (dC, dI) vwCl [(q_t, .inr (8, [.int t_thrown, .ref q_t_text, .int t_textSize, .int t_place, .int t_depth, .int t_noon, .int t_later, .int t_walkers, .ref q_t_beat, .ref q_t_kind, .ref q_t_readSnow, .int t_readWalkers, .ref q_t_readWalker, .ref q_t_page, .ref q_t_trial, .ref q_t_book, .int t_acts, .ref q_t_kept, .ref q_t_isKept, .int t_marks, .ref q_t_markStep, .ref q_t_markTread, .long t_seed, .int t_stumbled, .ref q_t_order, .int t_lineMany, .int t_lineOrder, .int t_whoseMany, .int t_whoseFirst, .int t_restMany, .int t_restFirst, .ref q_t_gains, .ref q_t_value])), (q_t_order, .inl (cI, 5, .inl t_order))] H → va_S A s.heap H locs → lv_has ls 6 [(0, .ref q_t), (1, .int x1)] → J_X8_nextOrder_34 x1 t_walkers t_order = some (r_, o_t_order) → W p l e rm_X8_nextOrder s m args below meth c H locs 0 0 Q (F0 m 34 ls []) := by
    intro x1 t_order H locs ls hP hS hl hf
    have hD : va_D A [(q_t, .inr (8, [.int t_thrown, .ref q_t_text, .int t_textSize, .int t_place, .int t_depth, .int t_noon, .int t_later, .int t_walkers, .ref q_t_beat, .ref q_t_kind, .ref q_t_readSnow, .int t_readWalkers, .ref q_t_readWalker, .ref q_t_page, .ref q_t_trial, .ref q_t_book, .int t_acts, .ref q_t_kept, .ref q_t_isKept, .int t_marks, .ref q_t_markStep, .ref q_t_markTread, .long t_seed, .int t_stumbled, .ref q_t_order, .int t_lineMany, .int t_lineOrder, .int t_whoseMany, .int t_whoseFirst, .int t_restMany, .int t_restFirst, .ref q_t_gains, .ref q_t_value])), (q_t_order, .inl (cI, 5, .inl t_order))] := wd hD0 rfl
    unfold J_X8_nextOrder_34 at hf
    refine lv_iload_n hx hb dX8_nextOrder_34 rfl (lv_at hl 1 rfl) ?_
    refine lv_if_ge (tgt := 40) hx hb dX8_nextOrder_35 (by decide) (fun hc => ?_) (fun hc => ?_)
    · replace hf := ip hc hf
      refine lv_aload_n hx hb dX8_nextOrder_40 rfl (lv_at hl 0 rfl) ?_
      refine va_get (D := (dC, dI)) (ci := 8) (v := .int t_walkers) (C := RX8) (T := TX8) (N := 33) hx hb hts hinX8 hown hK.1 hP 0 rfl rfl 7 (by decide) w_1 (fun _ h9 => h9) rfl dX8_nextOrder_41 ?_
      refine lv_iconst (v := 1) hx hb dX8_nextOrder_44 (by decide) ?_
      refine lv_isub hx hb dX8_nextOrder_45 ?_
      refine lv_istore_n (lv' := [(2, .int (t_walkers - 1)), (0, .ref q_t), (1, .int x1)]) hx hb dX8_nextOrder_46 rfl hl (by decide) rfl (fun ls hl => ?_)
      exact h_47 x1 t_order fuelC (t_walkers - 1) _ _ _ hP hS (lv_sub hl [1, 2, 0] rfl) hf
    · replace hf := iq hc hf
      refine lv_iconst (v := 0) hx hb dX8_nextOrder_38 (by decide) ?_
      obtain ⟨e0, hf⟩ := ij2 hf
      have e1 := hf
      refine W.eq (congrArg (fun z => F0 m 39 ls [.int z]) e0) ?_
      exact hret _ _ _ _ (by rw [← e1]; exact hP) hS (by rw [← e0]; rfl) dX8_nextOrder_39
  have h_7 : ∀ (t_order : Nat → Int32) (fu7 : Nat) (x1 : Int32) (H : Heap) (locs : List Loc) (ls : Array Slot), va_P (dC, dI) vwCl [(q_t, .inr (8, [.int t_thrown, .ref q_t_text, .int t_textSize, .int t_place, .int t_depth, .int t_noon, .int t_later, .int t_walkers, .ref q_t_beat, .ref q_t_kind, .ref q_t_readSnow, .int t_readWalkers, .ref q_t_readWalker, .ref q_t_page, .ref q_t_trial, .ref q_t_book, .int t_acts, .ref q_t_kept, .ref q_t_isKept, .int t_marks, .ref q_t_markStep, .ref q_t_markTread, .long t_seed, .int t_stumbled, .ref q_t_order, .int t_lineMany, .int t_lineOrder, .int t_whoseMany, .int t_whoseFirst, .int t_restMany, .int t_restFirst, .ref q_t_gains, .ref q_t_value])), (q_t_order, .inl (cI, 5, .inl t_order))] H → va_S A s.heap H locs → lv_has ls 6 [(0, .ref q_t), (1, .int x1)] → L_X8_nextOrder_7 t_walkers t_order fu7 x1 = some (r_, o_t_order) → W p l e rm_X8_nextOrder s m args below meth c H locs 0 0 Q (F0 m 7 ls []) := by
    intro t_order fu7
    induction fu7 with
    | zero =>
      intro x1 H locs ls hP hS hl hf
      rw [L_X8_nextOrder_7] at hf
      cases hf
    | succ fu7 ih7 =>
      intro x1 H locs ls hP hS hl hf
      have hD : va_D A [(q_t, .inr (8, [.int t_thrown, .ref q_t_text, .int t_textSize, .int t_place, .int t_depth, .int t_noon, .int t_later, .int t_walkers, .ref q_t_beat, .ref q_t_kind, .ref q_t_readSnow, .int t_readWalkers, .ref q_t_readWalker, .ref q_t_page, .ref q_t_trial, .ref q_t_book, .int t_acts, .ref q_t_kept, .ref q_t_isKept, .int t_marks, .ref q_t_markStep, .ref q_t_markTread, .long t_seed, .int t_stumbled, .ref q_t_order, .int t_lineMany, .int t_lineOrder, .int t_whoseMany, .int t_whoseFirst, .int t_restMany, .int t_restFirst, .ref q_t_gains, .ref q_t_value])), (q_t_order, .inl (cI, 5, .inl t_order))] := wd hD0 rfl
      rw [L_X8_nextOrder_7] at hf
      refine lv_iload_n hx hb dX8_nextOrder_7 rfl (lv_at hl 1 rfl) ?_
      refine lv_if_lt (tgt := 34) hx hb dX8_nextOrder_8 (by decide) (fun hc => ?_) (fun hc => ?_)
      · replace hf := ip hc hf
        exact h_34 x1 t_order _ _ _ hP hS (lv_sub hl [0, 1] rfl) hf
      · replace hf := iq hc hf
        refine lv_aload_n hx hb dX8_nextOrder_11 rfl (lv_at hl 0 rfl) ?_
        refine va_get (D := (dC, dI)) (ci := 8) (v := .ref q_t_order) (C := RX8) (T := TX8) (N := 33) hx hb hts hinX8 hown hK.1 hP 0 rfl rfl 24 (by decide) w_0 (fun _ h9 => h9) rfl dX8_nextOrder_12 ?_
        refine lv_iload_n hx hb dX8_nextOrder_15 rfl (lv_at hl 1 rfl) ?_
        refine kald hx hb hK.1 hP 1 0 rfl rfl dX8_nextOrder_16 hf (fun v11 hf => ?_)
        refine lv_aload_n hx hb dX8_nextOrder_17 rfl (lv_at hl 0 rfl) ?_
        refine va_get (D := (dC, dI)) (ci := 8) (v := .ref q_t_order) (C := RX8) (T := TX8) (N := 33) hx hb hts hinX8 hown hK.1 hP 0 rfl rfl 24 (by decide) w_0 (fun _ h9 => h9) rfl dX8_nextOrder_18 ?_
        refine lv_iload_n hx hb dX8_nextOrder_21 rfl (lv_at hl 1 rfl) ?_
        refine lv_iconst (v := 1) hx hb dX8_nextOrder_22 (by decide) ?_
        refine lv_iadd hx hb dX8_nextOrder_23 ?_
        refine kald hx hb hK.1 hP 1 0 rfl rfl dX8_nextOrder_24 hf (fun v12 hf => ?_)
        refine lv_icmp_le (tgt := 34) hx hb dX8_nextOrder_25 (by decide) (fun hc => ?_) (fun hc => ?_)
        · replace hf := ip hc hf
          exact h_34 x1 t_order _ _ _ hP hS (lv_sub hl [0, 1] rfl) hf
        · replace hf := iq hc hf
          refine lv_iinc (v := (x1 + (-1))) (lv' := [(1, .int (x1 + (-1))), (0, .ref q_t)]) hx hb dX8_nextOrder_28 hl (k := 1) rfl rfl (by decide) rfl (fun ls hl => ?_)
          refine lv_goto (tgt := 7) hx hb dX8_nextOrder_31 (by decide) ?_
          exact ih7 (x1 + (-1)) _ _ _ hP hS (lv_sub hl [1, 0] rfl) hf
  unfold f_X8_nextOrder at hf
  refine lv_aload_n hx hb dX8_nextOrder_0 rfl (lv_at hl 0 rfl) ?_
  refine va_get (D := (dC, dI)) (ci := 8) (v := .int t_walkers) (C := RX8) (T := TX8) (N := 33) hx hb hts hinX8 hown hK.1 hP 0 rfl rfl 7 (by decide) w_1 (fun _ h9 => h9) rfl dX8_nextOrder_1 ?_
  refine lv_iconst (v := 2) hx hb dX8_nextOrder_4 (by decide) ?_
  refine lv_isub hx hb dX8_nextOrder_5 ?_
  refine lv_istore_n (lv' := [(1, .int (t_walkers - 2)), (0, .ref q_t)]) hx hb dX8_nextOrder_6 rfl hl (by decide) rfl (fun ls hl => ?_)
  exact h_7 t_order fuelC (t_walkers - 2) _ _ _ hP hS (lv_sub hl [1, 0] rfl) hf
