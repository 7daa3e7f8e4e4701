-- X8_rests
abbrev rm_X8_rests : Room := { frames := 5, cells := 0, slots := 0, locals := 120 }
set_option maxHeartbeats 4000000 in
set_option maxRecDepth 100000 in
theorem c_X8_rests (l : Launch) (dC : Nat → ClassId) (dI : Nat → Nat → Nat) (cI cZ : ClassId) (q_t q_t_text q_t_beat q_t_kind q_t_readSnow q_t_readWalker q_t_page q_t_trial q_t_book q_t_kept q_t_isKept q_t_markStep q_t_markTread q_t_order q_t_gains q_t_value : Nat) (sz : Nat) (t_thrown : Int32) (t_textSize : Int32) (t_place : Int32) (t_depth : Int32) (t_noon : Int32) (t_later : Int32) (t_walkers : Int32) (t_readWalkers : Int32) (t_acts : Int32) (t_marks : Int32) (t_seed : Int64) (t_stumbled : Int32) (t_lineMany : Int32) (t_lineOrder : Int32) (t_whoseMany : Int32) (t_whoseFirst : Int32) (t_restMany : Int32) (t_restFirst : Int32) (t_page : Nat → Int32) (t_trial : Nat → Int32) (t_gains : Nat → Int32) (t_kind : Nat → Int32) (t_beat : Nat → Int32) (x1 : Int32) (x2 : Int32) (x3 : Int32) (r_ : Int32) (o_t_thrown : Int32) (o_t_stumbled : Int32) (o_t_restMany : Int32) (o_t_restFirst : Int32) (o_t_trial : Nat → Int32) (o_t_gains : Nat → Int32) (hf : f_X8_rests x1 x2 x3 t_thrown t_depth t_noon t_later t_walkers t_stumbled t_restMany t_restFirst t_page t_trial t_gains t_kind t_beat = some (r_, o_t_thrown, o_t_stumbled, o_t_restMany, o_t_restFirst, o_t_trial, o_t_gains)) : Met l yX8_rests wsX8_rests rm_X8_rests (va_Pc [.ref q_t, .int x1, .int x2, .int x3] (PU (dC, dI) cI cZ [(q_t, .inr (8, [.int t_thrown, .ref q_t_text, .int t_textSize, .int t_place, .int t_depth, .int t_noon, .int t_later, .int t_walkers, .ref q_t_beat, .ref q_t_kind, .ref q_t_readSnow, .int t_readWalkers, .ref q_t_readWalker, .ref q_t_page, .ref q_t_trial, .ref q_t_book, .int t_acts, .ref q_t_kept, .ref q_t_isKept, .int t_marks, .ref q_t_markStep, .ref q_t_markTread, .long t_seed, .int t_stumbled, .ref q_t_order, .int t_lineMany, .int t_lineOrder, .int t_whoseMany, .int t_whoseFirst, .int t_restMany, .int t_restFirst, .ref q_t_gains, .ref q_t_value])), (q_t_page, .inl (cI, 17, .inl t_page)), (q_t_trial, .inl (cI, 17, .inl t_trial)), (q_t_gains, .inl (cI, 8, .inl t_gains)), (q_t_kind, .inl (cI, 5, .inl t_kind)), (q_t_beat, .inl (cI, 5, .inl t_beat))] sz)) (va_Qi (fun (r : Int32) (_ : Unit) => r = r_) (fun _ t => va_P (dC, dI) vwCl [(q_t, .inr (8, [.int o_t_thrown, .ref q_t_text, .int t_textSize, .int t_place, .int t_depth, .int t_noon, .int t_later, .int t_walkers, .ref q_t_beat, .ref q_t_kind, .ref q_t_readSnow, .int t_readWalkers, .ref q_t_readWalker, .ref q_t_page, .ref q_t_trial, .ref q_t_book, .int t_acts, .ref q_t_kept, .ref q_t_isKept, .int t_marks, .ref q_t_markStep, .ref q_t_markTread, .long t_seed, .int o_t_stumbled, .ref q_t_order, .int t_lineMany, .int t_lineOrder, .int t_whoseMany, .int t_whoseFirst, .int o_t_restMany, .int o_t_restFirst, .ref q_t_gains, .ref q_t_value])), (q_t_page, .inl (cI, 17, .inl t_page)), (q_t_trial, .inl (cI, 17, .inl o_t_trial)), (q_t_gains, .inl (cI, 8, .inl o_t_gains)), (q_t_kind, .inl (cI, 5, .inl t_kind)), (q_t_beat, .inl (cI, 5, .inl t_beat))] t.heap) (va_A [(q_t, .inr (8, [.int t_thrown, .ref q_t_text, .int t_textSize, .int t_place, .int t_depth, .int t_noon, .int t_later, .int t_walkers, .ref q_t_beat, .ref q_t_kind, .ref q_t_readSnow, .int t_readWalkers, .ref q_t_readWalker, .ref q_t_page, .ref q_t_trial, .ref q_t_book, .int t_acts, .ref q_t_kept, .ref q_t_isKept, .int t_marks, .ref q_t_markStep, .ref q_t_markTread, .long t_seed, .int t_stumbled, .ref q_t_order, .int t_lineMany, .int t_lineOrder, .int t_whoseMany, .int t_whoseFirst, .int t_restMany, .int t_restFirst, .ref q_t_gains, .ref q_t_value])), (q_t_page, .inl (cI, 17, .inl t_page)), (q_t_trial, .inl (cI, 17, .inl t_trial)), (q_t_gains, .inl (cI, 8, .inl t_gains)), (q_t_kind, .inl (cI, 5, .inl t_kind)), (q_t_beat, .inl (cI, 5, .inl t_beat))] sz)) 0 0 (va_A [(q_t, .inr (8, [.int t_thrown, .ref q_t_text, .int t_textSize, .int t_place, .int t_depth, .int t_noon, .int t_later, .int t_walkers, .ref q_t_beat, .ref q_t_kind, .ref q_t_readSnow, .int t_readWalkers, .ref q_t_readWalker, .ref q_t_page, .ref q_t_trial, .ref q_t_book, .int t_acts, .ref q_t_kept, .ref q_t_isKept, .int t_marks, .ref q_t_markStep, .ref q_t_markTread, .long t_seed, .int t_stumbled, .ref q_t_order, .int t_lineMany, .int t_lineOrder, .int t_whoseMany, .int t_whoseFirst, .int t_restMany, .int t_restFirst, .ref q_t_gains, .ref q_t_value])), (q_t_page, .inl (cI, 17, .inl t_page)), (q_t_trial, .inl (cI, 17, .inl t_trial)), (q_t_gains, .inl (cI, 8, .inl t_gains)), (q_t_kind, .inl (cI, 5, .inl t_kind)), (q_t_beat, .inl (cI, 5, .inl t_beat))] sz) := by
  refine MetI (cc := cX8_rests) (maxL := 6) (by decide) rfl (Nat.le_of_ble_eq_true rfl) (fun _ h => h) ?_
  intro p e s m args below meth c A Q ls hx CF hK hA hD hP hS hl hB hAe hsz hret
  have hb := CF.2.1
  have hml := CF.2.2.1
  have hown := CF.2.2.2.1
  have hts := CF.2.2.2.2
  have hD0 := hD
  replace hl : lv_has ls 6 [(0, .ref q_t), (1, .int x1), (2, .int x2), (3, .int x3)] := hl
  have hinX8 : ∀ w ∈ wsX80, w ∈ wsX8_rests := fun _ h => List.mem_cons_of_mem _ (List.mem_append_right _ h)
  have w_0 := hts (.fieldLink RX8 234 "PassInStepModel" "restMany" "I") (by decide +kernel)
  have w_1 := hts (.fieldLink RX8 237 "PassInStepModel" "restFirst" "I") (by decide +kernel)
  have w_2 := hts (.fieldLink RX8 57 "PassInStepModel" "gains" "[I") (by decide +kernel)
  have w_3 := hts (.fieldLink RX8 63 "PassInStepModel" "thrown" "I") (by decide +kernel)
  have w_4 := hts (.fieldLink RX8 32 "PassInStepModel" "page" "[I") (by decide +kernel)
  have h_109 : ∀ (x3 : Int32) (t_thrown : Int32) (t_stumbled : Int32) (t_trial : Nat → Int32) (t_gains : Nat → Int32) (fu109 : Nat) (x4 : Int32) (t_restMany : Int32) (t_restFirst : Int32) (H : Heap) (locs : List Loc) (ls : Array Slot), va_P (dC, dI) vwCl [(q_t, .inr (8, [.int t_thrown, .ref q_t_text, .int t_textSize, .int t_place, .int t_depth, .int t_noon, .int t_later, .int t_walkers, .ref q_t_beat, .ref q_t_kind, .ref q_t_readSnow, .int t_readWalkers, .ref q_t_readWalker, .ref q_t_page, .ref q_t_trial, .ref q_t_book, .int t_acts, .ref q_t_kept, .ref q_t_isKept, .int t_marks, .ref q_t_markStep, .ref q_t_markTread, .long t_seed, .int t_stumbled, .ref q_t_order, .int t_lineMany, .int t_lineOrder, .int t_whoseMany, .int t_whoseFirst, .int t_restMany, .int t_restFirst, .ref q_t_gains, .ref q_t_value])), (q_t_page, .inl (cI, 17, .inl t_page)), (q_t_trial, .inl (cI, 17, .inl t_trial)), (q_t_gains, .inl (cI, 8, .inl t_gains)), (q_t_kind, .inl (cI, 5, .inl t_kind)), (q_t_beat, .inl (cI, 5, .inl t_beat))] H → va_S A s.heap H locs → lv_has ls 6 [(0, .ref q_t), (3, .int x3), (4, .int x4)] → L_X8_rests_109 x3 t_thrown t_stumbled t_trial t_gains fu109 x4 t_restMany t_restFirst = some (r_, o_t_thrown, o_t_stumbled, o_t_restMany, o_t_restFirst, o_t_trial, o_t_gains) → W p l e rm_X8_rests s m args below meth c H locs 0 0 Q (F0 m 109 ls []) := by
    intro x3 t_thrown t_stumbled t_trial t_gains fu109
    induction fu109 with
    | zero =>
      intro x4 t_restMany t_restFirst H locs ls hP hS hl hf
      rw [L_X8_rests_109] at hf
      cases hf
    | succ fu109 ih109 =>
      have h_222 : ∀ (x4 : Int32) (s0 : Int32) (s1 : Int32) (t_restMany : Int32) (t_restFirst : Int32) (H : Heap) (locs : List Loc) (ls : Array Slot), va_P (dC, dI) vwCl [(q_t, .inr (8, [.int t_thrown, .ref q_t_text, .int t_textSize, .int t_place, .int t_depth, .int t_noon, .int t_later, .int t_walkers, .ref q_t_beat, .ref q_t_kind, .ref q_t_readSnow, .int t_readWalkers, .ref q_t_readWalker, .ref q_t_page, .ref q_t_trial, .ref q_t_book, .int t_acts, .ref q_t_kept, .ref q_t_isKept, .int t_marks, .ref q_t_markStep, .ref q_t_markTread, .long t_seed, .int t_stumbled, .ref q_t_order, .int t_lineMany, .int t_lineOrder, .int t_whoseMany, .int t_whoseFirst, .int t_restMany, .int t_restFirst, .ref q_t_gains, .ref q_t_value])), (q_t_page, .inl (cI, 17, .inl t_page)), (q_t_trial, .inl (cI, 17, .inl t_trial)), (q_t_gains, .inl (cI, 8, .inl t_gains)), (q_t_kind, .inl (cI, 5, .inl t_kind)), (q_t_beat, .inl (cI, 5, .inl t_beat))] H → va_S A s.heap H locs → lv_has ls 6 [(0, .ref q_t), (3, .int x3), (4, .int x4)] → J_X8_rests_222 (L_X8_rests_109 x3 t_thrown t_stumbled t_trial t_gains fu109) x4 s0 s1 t_restFirst = some (r_, o_t_thrown, o_t_stumbled, o_t_restMany, o_t_restFirst, o_t_trial, o_t_gains) → W p l e rm_X8_rests s m args below meth c H locs 0 0 Q (F0 m 222 ls [.int s0, .int s1, .ref q_t]) := by
        intro x4 s0 s1 t_restMany t_restFirst H locs ls hP hS hl hf
        have hD : va_D A [(q_t, .inr (8, [.int t_thrown, .ref q_t_text, .int t_textSize, .int t_place, .int t_depth, .int t_noon, .int t_later, .int t_walkers, .ref q_t_beat, .ref q_t_kind, .ref q_t_readSnow, .int t_readWalkers, .ref q_t_readWalker, .ref q_t_page, .ref q_t_trial, .ref q_t_book, .int t_acts, .ref q_t_kept, .ref q_t_isKept, .int t_marks, .ref q_t_markStep, .ref q_t_markTread, .long t_seed, .int t_stumbled, .ref q_t_order, .int t_lineMany, .int t_lineOrder, .int t_whoseMany, .int t_whoseFirst, .int t_restMany, .int t_restFirst, .ref q_t_gains, .ref q_t_value])), (q_t_page, .inl (cI, 17, .inl t_page)), (q_t_trial, .inl (cI, 17, .inl t_trial)), (q_t_gains, .inl (cI, 8, .inl t_gains)), (q_t_kind, .inl (cI, 5, .inl t_kind)), (q_t_beat, .inl (cI, 5, .inl t_beat))] := wd hD0 rfl
        unfold J_X8_rests_222 at hf
        refine lv_iadd hx hb dX8_rests_222 ?_
        refine va_put (D := (dC, dI)) (ci := 8) (v := .int (s1 + s0)) (ty := .int) (C := RX8) (T := TX8) (N := 33) hx hb hts hinX8 tyX8 tyX8_ok nmX8 hown hK.1 hP hD hS 0 rfl rfl 29 (by decide) w_0 (fun _ h9 => h9) rfl (by decide +kernel) rfl rfl (Nat.le_of_ble_eq_true rfl) dX8_rests_223 (fun H locs hP hD hS => ?_)
        replace hP : va_P (dC, dI) vwCl [(q_t, .inr (8, [.int t_thrown, .ref q_t_text, .int t_textSize, .int t_place, .int t_depth, .int t_noon, .int t_later, .int t_walkers, .ref q_t_beat, .ref q_t_kind, .ref q_t_readSnow, .int t_readWalkers, .ref q_t_readWalker, .ref q_t_page, .ref q_t_trial, .ref q_t_book, .int t_acts, .ref q_t_kept, .ref q_t_isKept, .int t_marks, .ref q_t_markStep, .ref q_t_markTread, .long t_seed, .int t_stumbled, .ref q_t_order, .int t_lineMany, .int t_lineOrder, .int t_whoseMany, .int t_whoseFirst, .int (s1 + s0), .int t_restFirst, .ref q_t_gains, .ref q_t_value])), (q_t_page, .inl (cI, 17, .inl t_page)), (q_t_trial, .inl (cI, 17, .inl t_trial)), (q_t_gains, .inl (cI, 8, .inl t_gains)), (q_t_kind, .inl (cI, 5, .inl t_kind)), (q_t_beat, .inl (cI, 5, .inl t_beat))] H := hP
        replace hD : va_D A [(q_t, .inr (8, [.int t_thrown, .ref q_t_text, .int t_textSize, .int t_place, .int t_depth, .int t_noon, .int t_later, .int t_walkers, .ref q_t_beat, .ref q_t_kind, .ref q_t_readSnow, .int t_readWalkers, .ref q_t_readWalker, .ref q_t_page, .ref q_t_trial, .ref q_t_book, .int t_acts, .ref q_t_kept, .ref q_t_isKept, .int t_marks, .ref q_t_markStep, .ref q_t_markTread, .long t_seed, .int t_stumbled, .ref q_t_order, .int t_lineMany, .int t_lineOrder, .int t_whoseMany, .int t_whoseFirst, .int (s1 + s0), .int t_restFirst, .ref q_t_gains, .ref q_t_value])), (q_t_page, .inl (cI, 17, .inl t_page)), (q_t_trial, .inl (cI, 17, .inl t_trial)), (q_t_gains, .inl (cI, 8, .inl t_gains)), (q_t_kind, .inl (cI, 5, .inl t_kind)), (q_t_beat, .inl (cI, 5, .inl t_beat))] := hD
        refine lv_iinc (v := (x4 + 1)) (lv' := [(4, .int (x4 + 1)), (0, .ref q_t), (3, .int x3)]) hx hb dX8_rests_226 hl (k := 2) rfl rfl (by decide) rfl (fun ls hl => ?_)
        refine lv_goto (tgt := 109) hx hb dX8_rests_229 (by decide) ?_
        exact ih109 (x4 + 1) (s1 + s0) t_restFirst _ _ _ hP hS (lv_sub hl [1, 2, 0] rfl) hf
      have h_204 : ∀ (x4 : Int32) (x5 : Int32) (s0 : Int32) (t_restMany : Int32) (t_restFirst : Int32) (H : Heap) (locs : List Loc) (ls : Array Slot), va_P (dC, dI) vwCl [(q_t, .inr (8, [.int t_thrown, .ref q_t_text, .int t_textSize, .int t_place, .int t_depth, .int t_noon, .int t_later, .int t_walkers, .ref q_t_beat, .ref q_t_kind, .ref q_t_readSnow, .int t_readWalkers, .ref q_t_readWalker, .ref q_t_page, .ref q_t_trial, .ref q_t_book, .int t_acts, .ref q_t_kept, .ref q_t_isKept, .int t_marks, .ref q_t_markStep, .ref q_t_markTread, .long t_seed, .int t_stumbled, .ref q_t_order, .int t_lineMany, .int t_lineOrder, .int t_whoseMany, .int t_whoseFirst, .int t_restMany, .int t_restFirst, .ref q_t_gains, .ref q_t_value])), (q_t_page, .inl (cI, 17, .inl t_page)), (q_t_trial, .inl (cI, 17, .inl t_trial)), (q_t_gains, .inl (cI, 8, .inl t_gains)), (q_t_kind, .inl (cI, 5, .inl t_kind)), (q_t_beat, .inl (cI, 5, .inl t_beat))] H → va_S A s.heap H locs → lv_has ls 6 [(0, .ref q_t), (3, .int x3), (4, .int x4), (5, .int x5)] → J_X8_rests_204 (L_X8_rests_109 x3 t_thrown t_stumbled t_trial t_gains fu109) x4 x5 s0 t_restMany = some (r_, o_t_thrown, o_t_stumbled, o_t_restMany, o_t_restFirst, o_t_trial, o_t_gains) → W p l e rm_X8_rests s m args below meth c H locs 0 0 Q (F0 m 204 ls [.int s0, .ref q_t]) := by
        intro x4 x5 s0 t_restMany t_restFirst H locs ls hP hS hl hf
        have hD : va_D A [(q_t, .inr (8, [.int t_thrown, .ref q_t_text, .int t_textSize, .int t_place, .int t_depth, .int t_noon, .int t_later, .int t_walkers, .ref q_t_beat, .ref q_t_kind, .ref q_t_readSnow, .int t_readWalkers, .ref q_t_readWalker, .ref q_t_page, .ref q_t_trial, .ref q_t_book, .int t_acts, .ref q_t_kept, .ref q_t_isKept, .int t_marks, .ref q_t_markStep, .ref q_t_markTread, .long t_seed, .int t_stumbled, .ref q_t_order, .int t_lineMany, .int t_lineOrder, .int t_whoseMany, .int t_whoseFirst, .int t_restMany, .int t_restFirst, .ref q_t_gains, .ref q_t_value])), (q_t_page, .inl (cI, 17, .inl t_page)), (q_t_trial, .inl (cI, 17, .inl t_trial)), (q_t_gains, .inl (cI, 8, .inl t_gains)), (q_t_kind, .inl (cI, 5, .inl t_kind)), (q_t_beat, .inl (cI, 5, .inl t_beat))] := wd hD0 rfl
        unfold J_X8_rests_204 at hf
        refine va_put (D := (dC, dI)) (ci := 8) (v := .int s0) (ty := .int) (C := RX8) (T := TX8) (N := 33) hx hb hts hinX8 tyX8 tyX8_ok nmX8 hown hK.1 hP hD hS 0 rfl rfl 30 (by decide) w_1 (fun _ h9 => h9) rfl (by decide +kernel) rfl rfl (Nat.le_of_ble_eq_true rfl) dX8_rests_204 (fun H locs hP hD hS => ?_)
        replace hP : va_P (dC, dI) vwCl [(q_t, .inr (8, [.int t_thrown, .ref q_t_text, .int t_textSize, .int t_place, .int t_depth, .int t_noon, .int t_later, .int t_walkers, .ref q_t_beat, .ref q_t_kind, .ref q_t_readSnow, .int t_readWalkers, .ref q_t_readWalker, .ref q_t_page, .ref q_t_trial, .ref q_t_book, .int t_acts, .ref q_t_kept, .ref q_t_isKept, .int t_marks, .ref q_t_markStep, .ref q_t_markTread, .long t_seed, .int t_stumbled, .ref q_t_order, .int t_lineMany, .int t_lineOrder, .int t_whoseMany, .int t_whoseFirst, .int t_restMany, .int s0, .ref q_t_gains, .ref q_t_value])), (q_t_page, .inl (cI, 17, .inl t_page)), (q_t_trial, .inl (cI, 17, .inl t_trial)), (q_t_gains, .inl (cI, 8, .inl t_gains)), (q_t_kind, .inl (cI, 5, .inl t_kind)), (q_t_beat, .inl (cI, 5, .inl t_beat))] H := hP
        replace hD : va_D A [(q_t, .inr (8, [.int t_thrown, .ref q_t_text, .int t_textSize, .int t_place, .int t_depth, .int t_noon, .int t_later, .int t_walkers, .ref q_t_beat, .ref q_t_kind, .ref q_t_readSnow, .int t_readWalkers, .ref q_t_readWalker, .ref q_t_page, .ref q_t_trial, .ref q_t_book, .int t_acts, .ref q_t_kept, .ref q_t_isKept, .int t_marks, .ref q_t_markStep, .ref q_t_markTread, .long t_seed, .int t_stumbled, .ref q_t_order, .int t_lineMany, .int t_lineOrder, .int t_whoseMany, .int t_whoseFirst, .int t_restMany, .int s0, .ref q_t_gains, .ref q_t_value])), (q_t_page, .inl (cI, 17, .inl t_page)), (q_t_trial, .inl (cI, 17, .inl t_trial)), (q_t_gains, .inl (cI, 8, .inl t_gains)), (q_t_kind, .inl (cI, 5, .inl t_kind)), (q_t_beat, .inl (cI, 5, .inl t_beat))] := hD
        refine lv_aload_n hx hb dX8_rests_207 rfl (lv_at hl 0 rfl) ?_
        refine lv_dup hx hb dX8_rests_208 rfl ?_
        refine va_get (D := (dC, dI)) (ci := 8) (v := .int t_restMany) (C := RX8) (T := TX8) (N := 33) hx hb hts hinX8 hown hK.1 hP 0 rfl rfl 29 (by decide) w_0 (fun _ h9 => h9) rfl dX8_rests_209 ?_
        refine lv_iload hx hb dX8_rests_212 (lv_at hl 3 rfl) ?_
        refine lv_if_eq (tgt := 221) hx hb dX8_rests_214 (by decide) (fun hc => ?_) (fun hc => ?_)
        · replace hf := ip hc hf
          refine lv_iconst (v := 0) hx hb dX8_rests_221 (by decide) ?_
          exact h_222 x4 0 t_restMany t_restMany s0 _ _ _ hP hS (lv_sub hl [0, 1, 2] rfl) hf
        · replace hf := iq hc hf
          refine lv_iconst (v := 1) hx hb dX8_rests_217 (by decide) ?_
          refine lv_goto (tgt := 222) hx hb dX8_rests_218 (by decide) ?_
          exact h_222 x4 1 t_restMany t_restMany s0 _ _ _ hP hS (lv_sub hl [0, 1, 2] rfl) hf
      have h_200 : ∀ (x4 : Int32) (x5 : Int32) (t_restMany : Int32) (t_restFirst : Int32) (H : Heap) (locs : List Loc) (ls : Array Slot), va_P (dC, dI) vwCl [(q_t, .inr (8, [.int t_thrown, .ref q_t_text, .int t_textSize, .int t_place, .int t_depth, .int t_noon, .int t_later, .int t_walkers, .ref q_t_beat, .ref q_t_kind, .ref q_t_readSnow, .int t_readWalkers, .ref q_t_readWalker, .ref q_t_page, .ref q_t_trial, .ref q_t_book, .int t_acts, .ref q_t_kept, .ref q_t_isKept, .int t_marks, .ref q_t_markStep, .ref q_t_markTread, .long t_seed, .int t_stumbled, .ref q_t_order, .int t_lineMany, .int t_lineOrder, .int t_whoseMany, .int t_whoseFirst, .int t_restMany, .int t_restFirst, .ref q_t_gains, .ref q_t_value])), (q_t_page, .inl (cI, 17, .inl t_page)), (q_t_trial, .inl (cI, 17, .inl t_trial)), (q_t_gains, .inl (cI, 8, .inl t_gains)), (q_t_kind, .inl (cI, 5, .inl t_kind)), (q_t_beat, .inl (cI, 5, .inl t_beat))] H → va_S A s.heap H locs → lv_has ls 6 [(0, .ref q_t), (3, .int x3), (4, .int x4), (5, .int x5)] → J_X8_rests_200 (L_X8_rests_109 x3 t_thrown t_stumbled t_trial t_gains fu109) x4 x5 t_restMany t_restFirst = some (r_, o_t_thrown, o_t_stumbled, o_t_restMany, o_t_restFirst, o_t_trial, o_t_gains) → W p l e rm_X8_rests s m args below meth c H locs 0 0 Q (F0 m 200 ls [.ref q_t]) := by
        intro x4 x5 t_restMany t_restFirst H locs ls hP hS hl hf
        have hD : va_D A [(q_t, .inr (8, [.int t_thrown, .ref q_t_text, .int t_textSize, .int t_place, .int t_depth, .int t_noon, .int t_later, .int t_walkers, .ref q_t_beat, .ref q_t_kind, .ref q_t_readSnow, .int t_readWalkers, .ref q_t_readWalker, .ref q_t_page, .ref q_t_trial, .ref q_t_book, .int t_acts, .ref q_t_kept, .ref q_t_isKept, .int t_marks, .ref q_t_markStep, .ref q_t_markTread, .long t_seed, .int t_stumbled, .ref q_t_order, .int t_lineMany, .int t_lineOrder, .int t_whoseMany, .int t_whoseFirst, .int t_restMany, .int t_restFirst, .ref q_t_gains, .ref q_t_value])), (q_t_page, .inl (cI, 17, .inl t_page)), (q_t_trial, .inl (cI, 17, .inl t_trial)), (q_t_gains, .inl (cI, 8, .inl t_gains)), (q_t_kind, .inl (cI, 5, .inl t_kind)), (q_t_beat, .inl (cI, 5, .inl t_beat))] := wd hD0 rfl
        unfold J_X8_rests_200 at hf
        refine lv_aload_n hx hb dX8_rests_200 rfl (lv_at hl 0 rfl) ?_
        refine va_get (D := (dC, dI)) (ci := 8) (v := .int t_restFirst) (C := RX8) (T := TX8) (N := 33) hx hb hts hinX8 hown hK.1 hP 0 rfl rfl 30 (by decide) w_1 (fun _ h9 => h9) rfl dX8_rests_201 ?_
        exact h_204 x4 x5 t_restFirst t_restMany t_restFirst _ _ _ hP hS (lv_sub hl [0, 1, 2, 3] rfl) hf
      have h_170 : ∀ (x4 : Int32) (s0 : Int32) (t_restMany : Int32) (t_restFirst : Int32) (H : Heap) (locs : List Loc) (ls : Array Slot), va_P (dC, dI) vwCl [(q_t, .inr (8, [.int t_thrown, .ref q_t_text, .int t_textSize, .int t_place, .int t_depth, .int t_noon, .int t_later, .int t_walkers, .ref q_t_beat, .ref q_t_kind, .ref q_t_readSnow, .int t_readWalkers, .ref q_t_readWalker, .ref q_t_page, .ref q_t_trial, .ref q_t_book, .int t_acts, .ref q_t_kept, .ref q_t_isKept, .int t_marks, .ref q_t_markStep, .ref q_t_markTread, .long t_seed, .int t_stumbled, .ref q_t_order, .int t_lineMany, .int t_lineOrder, .int t_whoseMany, .int t_whoseFirst, .int t_restMany, .int t_restFirst, .ref q_t_gains, .ref q_t_value])), (q_t_page, .inl (cI, 17, .inl t_page)), (q_t_trial, .inl (cI, 17, .inl t_trial)), (q_t_gains, .inl (cI, 8, .inl t_gains)), (q_t_kind, .inl (cI, 5, .inl t_kind)), (q_t_beat, .inl (cI, 5, .inl t_beat))] H → va_S A s.heap H locs → lv_has ls 6 [(0, .ref q_t), (3, .int x3), (4, .int x4)] → J_X8_rests_170 (L_X8_rests_109 x3 t_thrown t_stumbled t_trial t_gains fu109) x4 s0 t_restMany t_restFirst = some (r_, o_t_thrown, o_t_stumbled, o_t_restMany, o_t_restFirst, o_t_trial, o_t_gains) → W p l e rm_X8_rests s m args below meth c H locs 0 0 Q (F0 m 170 ls [.int s0]) := by
        intro x4 s0 t_restMany t_restFirst H locs ls hP hS hl hf
        have hD : va_D A [(q_t, .inr (8, [.int t_thrown, .ref q_t_text, .int t_textSize, .int t_place, .int t_depth, .int t_noon, .int t_later, .int t_walkers, .ref q_t_beat, .ref q_t_kind, .ref q_t_readSnow, .int t_readWalkers, .ref q_t_readWalker, .ref q_t_page, .ref q_t_trial, .ref q_t_book, .int t_acts, .ref q_t_kept, .ref q_t_isKept, .int t_marks, .ref q_t_markStep, .ref q_t_markTread, .long t_seed, .int t_stumbled, .ref q_t_order, .int t_lineMany, .int t_lineOrder, .int t_whoseMany, .int t_whoseFirst, .int t_restMany, .int t_restFirst, .ref q_t_gains, .ref q_t_value])), (q_t_page, .inl (cI, 17, .inl t_page)), (q_t_trial, .inl (cI, 17, .inl t_trial)), (q_t_gains, .inl (cI, 8, .inl t_gains)), (q_t_kind, .inl (cI, 5, .inl t_kind)), (q_t_beat, .inl (cI, 5, .inl t_beat))] := wd hD0 rfl
        unfold J_X8_rests_170 at hf
        refine lv_istore (lv' := [(5, .int s0), (0, .ref q_t), (3, .int x3), (4, .int x4)]) hx hb dX8_rests_170 hl (by decide) rfl (fun ls hl => ?_)
        refine lv_aload_n hx hb dX8_rests_172 rfl (lv_at hl 1 rfl) ?_
        refine lv_iload hx hb dX8_rests_173 (lv_at hl 0 rfl) ?_
        refine lv_if_eq (tgt := 200) hx hb dX8_rests_175 (by decide) (fun hc => ?_) (fun hc => ?_)
        · replace hf := ip hc hf
          exact h_200 x4 s0 t_restMany t_restFirst _ _ _ hP hS (lv_sub hl [1, 2, 3, 0] rfl) hf
        · replace hf := iq hc hf
          refine lv_aload_n hx hb dX8_rests_178 rfl (lv_at hl 1 rfl) ?_
          refine va_get (D := (dC, dI)) (ci := 8) (v := .int t_restMany) (C := RX8) (T := TX8) (N := 33) hx hb hts hinX8 hown hK.1 hP 0 rfl rfl 29 (by decide) w_0 (fun _ h9 => h9) rfl dX8_rests_179 ?_
          refine lv_if_ne (tgt := 200) hx hb dX8_rests_182 (by decide) (fun hc => ?_) (fun hc => ?_)
          · replace hf := iq hc hf
            exact h_200 x4 s0 t_restMany t_restFirst _ _ _ hP hS (lv_sub hl [1, 2, 3, 0] rfl) hf
          · replace hf := ip hc hf
            refine lv_bipush (v := 10) hx hb dX8_rests_185 (by decide) ?_
            refine lv_iload hx hb dX8_rests_187 (lv_at hl 3 rfl) ?_
            refine lv_iconst (v := 2) hx hb dX8_rests_189 (by decide) ?_
            refine lv_idiv hx hb dX8_rests_190 (by decide) ?_
            refine lv_imul hx hb dX8_rests_191 ?_
            refine lv_iload hx hb dX8_rests_192 (lv_at hl 3 rfl) ?_
            refine lv_iconst (v := 2) hx hb dX8_rests_194 (by decide) ?_
            refine lv_irem hx hb dX8_rests_195 (by decide) ?_
            refine lv_iadd hx hb dX8_rests_196 ?_
            refine lv_goto (tgt := 204) hx hb dX8_rests_197 (by decide) ?_
            exact h_204 x4 s0 ((10 * (x4 / 2)) + (x4 - x4 / 2 * 2)) t_restMany t_restFirst _ _ _ hP hS (lv_sub hl [1, 2, 3, 0] rfl) hf
      have h_169 : ∀ (x4 : Int32) (t_restMany : Int32) (t_restFirst : Int32) (H : Heap) (locs : List Loc) (ls : Array Slot), va_P (dC, dI) vwCl [(q_t, .inr (8, [.int t_thrown, .ref q_t_text, .int t_textSize, .int t_place, .int t_depth, .int t_noon, .int t_later, .int t_walkers, .ref q_t_beat, .ref q_t_kind, .ref q_t_readSnow, .int t_readWalkers, .ref q_t_readWalker, .ref q_t_page, .ref q_t_trial, .ref q_t_book, .int t_acts, .ref q_t_kept, .ref q_t_isKept, .int t_marks, .ref q_t_markStep, .ref q_t_markTread, .long t_seed, .int t_stumbled, .ref q_t_order, .int t_lineMany, .int t_lineOrder, .int t_whoseMany, .int t_whoseFirst, .int t_restMany, .int t_restFirst, .ref q_t_gains, .ref q_t_value])), (q_t_page, .inl (cI, 17, .inl t_page)), (q_t_trial, .inl (cI, 17, .inl t_trial)), (q_t_gains, .inl (cI, 8, .inl t_gains)), (q_t_kind, .inl (cI, 5, .inl t_kind)), (q_t_beat, .inl (cI, 5, .inl t_beat))] H → va_S A s.heap H locs → lv_has ls 6 [(0, .ref q_t), (3, .int x3), (4, .int x4)] → J_X8_rests_169 (L_X8_rests_109 x3 t_thrown t_stumbled t_trial t_gains fu109) x4 t_restMany t_restFirst = some (r_, o_t_thrown, o_t_stumbled, o_t_restMany, o_t_restFirst, o_t_trial, o_t_gains) → W p l e rm_X8_rests s m args below meth c H locs 0 0 Q (F0 m 169 ls []) := by
        intro x4 t_restMany t_restFirst H locs ls hP hS hl hf
        have hD : va_D A [(q_t, .inr (8, [.int t_thrown, .ref q_t_text, .int t_textSize, .int t_place, .int t_depth, .int t_noon, .int t_later, .int t_walkers, .ref q_t_beat, .ref q_t_kind, .ref q_t_readSnow, .int t_readWalkers, .ref q_t_readWalker, .ref q_t_page, .ref q_t_trial, .ref q_t_book, .int t_acts, .ref q_t_kept, .ref q_t_isKept, .int t_marks, .ref q_t_markStep, .ref q_t_markTread, .long t_seed, .int t_stumbled, .ref q_t_order, .int t_lineMany, .int t_lineOrder, .int t_whoseMany, .int t_whoseFirst, .int t_restMany, .int t_restFirst, .ref q_t_gains, .ref q_t_value])), (q_t_page, .inl (cI, 17, .inl t_page)), (q_t_trial, .inl (cI, 17, .inl t_trial)), (q_t_gains, .inl (cI, 8, .inl t_gains)), (q_t_kind, .inl (cI, 5, .inl t_kind)), (q_t_beat, .inl (cI, 5, .inl t_beat))] := wd hD0 rfl
        unfold J_X8_rests_169 at hf
        refine lv_iconst (v := 0) hx hb dX8_rests_169 (by decide) ?_
        exact h_170 x4 0 t_restMany t_restFirst _ _ _ hP hS (lv_sub hl [0, 1, 2] rfl) hf
      intro x4 t_restMany t_restFirst H locs ls hP hS hl hf
      have hD : va_D A [(q_t, .inr (8, [.int t_thrown, .ref q_t_text, .int t_textSize, .int t_place, .int t_depth, .int t_noon, .int t_later, .int t_walkers, .ref q_t_beat, .ref q_t_kind, .ref q_t_readSnow, .int t_readWalkers, .ref q_t_readWalker, .ref q_t_page, .ref q_t_trial, .ref q_t_book, .int t_acts, .ref q_t_kept, .ref q_t_isKept, .int t_marks, .ref q_t_markStep, .ref q_t_markTread, .long t_seed, .int t_stumbled, .ref q_t_order, .int t_lineMany, .int t_lineOrder, .int t_whoseMany, .int t_whoseFirst, .int t_restMany, .int t_restFirst, .ref q_t_gains, .ref q_t_value])), (q_t_page, .inl (cI, 17, .inl t_page)), (q_t_trial, .inl (cI, 17, .inl t_trial)), (q_t_gains, .inl (cI, 8, .inl t_gains)), (q_t_kind, .inl (cI, 5, .inl t_kind)), (q_t_beat, .inl (cI, 5, .inl t_beat))] := wd hD0 rfl
      rw [L_X8_rests_109] at hf
      refine lv_iload hx hb dX8_rests_109 (lv_at hl 2 rfl) ?_
      refine lv_iconst (v := 4) hx hb dX8_rests_111 (by decide) ?_
      refine lv_icmp_ge (tgt := 232) hx hb dX8_rests_112 (by decide) (fun hc => ?_) (fun hc => ?_)
      · replace hf := ip hc hf
        refine lv_iload_n hx hb dX8_rests_232 rfl (lv_at hl 1 rfl) ?_
        refine lv_if_ne (tgt := 243) hx hb dX8_rests_233 (by decide) (fun hc => ?_) (fun hc => ?_)
        · replace hf := iq hc hf
          refine lv_aload_n hx hb dX8_rests_243 rfl (lv_at hl 0 rfl) ?_
          refine va_get (D := (dC, dI)) (ci := 8) (v := .int t_restFirst) (C := RX8) (T := TX8) (N := 33) hx hb hts hinX8 hown hK.1 hP 0 rfl rfl 30 (by decide) w_1 (fun _ h9 => h9) rfl dX8_rests_244 ?_
          obtain ⟨e0, hf⟩ := ij2 hf
          obtain ⟨e1, hf⟩ := ijc hf
          obtain ⟨e2, hf⟩ := ijc hf
          obtain ⟨e3, hf⟩ := ijc hf
          obtain ⟨e4, hf⟩ := ijc hf
          obtain ⟨e5, hf⟩ := ijc hf
          have e6 := hf
          refine W.eq (congrArg (fun z => F0 m 247 ls [.int z]) e0) ?_
          exact hret _ _ _ _ (by rw [← e1, ← e2, ← e3, ← e4, ← e5, ← e6]; exact hP) hS dX8_rests_247
        · replace hf := ip hc hf
          refine lv_aload_n hx hb dX8_rests_236 rfl (lv_at hl 0 rfl) ?_
          refine va_get (D := (dC, dI)) (ci := 8) (v := .int t_restMany) (C := RX8) (T := TX8) (N := 33) hx hb hts hinX8 hown hK.1 hP 0 rfl rfl 29 (by decide) w_0 (fun _ h9 => h9) rfl dX8_rests_237 ?_
          refine lv_goto (tgt := 247) hx hb dX8_rests_240 (by decide) ?_
          obtain ⟨e0, hf⟩ := ij2 hf
          obtain ⟨e1, hf⟩ := ijc hf
          obtain ⟨e2, hf⟩ := ijc hf
          obtain ⟨e3, hf⟩ := ijc hf
          obtain ⟨e4, hf⟩ := ijc hf
          obtain ⟨e5, hf⟩ := ijc hf
          have e6 := hf
          refine W.eq (congrArg (fun z => F0 m 247 ls [.int z]) e0) ?_
          exact hret _ _ _ _ (by rw [← e1, ← e2, ← e3, ← e4, ← e5, ← e6]; exact hP) hS dX8_rests_247
      · replace hf := iq hc hf
        refine lv_aload_n hx hb dX8_rests_115 rfl (lv_at hl 0 rfl) ?_
        refine va_get (D := (dC, dI)) (ci := 8) (v := .ref q_t_gains) (C := RX8) (T := TX8) (N := 33) hx hb hts hinX8 hown hK.1 hP 0 rfl rfl 31 (by decide) w_2 (fun _ h9 => h9) rfl dX8_rests_116 ?_
        refine lv_iconst (v := 2) hx hb dX8_rests_119 (by decide) ?_
        refine lv_iload hx hb dX8_rests_120 (lv_at hl 2 rfl) ?_
        refine lv_iconst (v := 2) hx hb dX8_rests_122 (by decide) ?_
        refine lv_ixor hx hb dX8_rests_123 ?_
        refine lv_imul hx hb dX8_rests_124 ?_
        refine kald hx hb hK.1 hP 3 0 rfl rfl dX8_rests_125 hf (fun v1 hf => ?_)
        refine lv_aload_n hx hb dX8_rests_126 rfl (lv_at hl 0 rfl) ?_
        refine va_get (D := (dC, dI)) (ci := 8) (v := .ref q_t_gains) (C := RX8) (T := TX8) (N := 33) hx hb hts hinX8 hown hK.1 hP 0 rfl rfl 31 (by decide) w_2 (fun _ h9 => h9) rfl dX8_rests_127 ?_
        refine lv_iconst (v := 2) hx hb dX8_rests_130 (by decide) ?_
        refine lv_iload hx hb dX8_rests_131 (lv_at hl 2 rfl) ?_
        refine lv_imul hx hb dX8_rests_133 ?_
        refine kald hx hb hK.1 hP 3 0 rfl rfl dX8_rests_134 hf (fun v2 hf => ?_)
        refine lv_icmp_gt (tgt := 169) hx hb dX8_rests_135 (by decide) (fun hc => ?_) (fun hc => ?_)
        · replace hf := ip hc hf
          exact h_169 x4 t_restMany t_restFirst _ _ _ hP hS (lv_sub hl [0, 1, 2] rfl) hf
        · replace hf := iq hc hf
          refine lv_aload_n hx hb dX8_rests_138 rfl (lv_at hl 0 rfl) ?_
          refine va_get (D := (dC, dI)) (ci := 8) (v := .ref q_t_gains) (C := RX8) (T := TX8) (N := 33) hx hb hts hinX8 hown hK.1 hP 0 rfl rfl 31 (by decide) w_2 (fun _ h9 => h9) rfl dX8_rests_139 ?_
          refine lv_iconst (v := 2) hx hb dX8_rests_142 (by decide) ?_
          refine lv_iload hx hb dX8_rests_143 (lv_at hl 2 rfl) ?_
          refine lv_iconst (v := 1) hx hb dX8_rests_145 (by decide) ?_
          refine lv_ixor hx hb dX8_rests_146 ?_
          refine lv_imul hx hb dX8_rests_147 ?_
          refine lv_iconst (v := 1) hx hb dX8_rests_148 (by decide) ?_
          refine lv_iadd hx hb dX8_rests_149 ?_
          refine kald hx hb hK.1 hP 3 0 rfl rfl dX8_rests_150 hf (fun v3 hf => ?_)
          refine lv_aload_n hx hb dX8_rests_151 rfl (lv_at hl 0 rfl) ?_
          refine va_get (D := (dC, dI)) (ci := 8) (v := .ref q_t_gains) (C := RX8) (T := TX8) (N := 33) hx hb hts hinX8 hown hK.1 hP 0 rfl rfl 31 (by decide) w_2 (fun _ h9 => h9) rfl dX8_rests_152 ?_
          refine lv_iconst (v := 2) hx hb dX8_rests_155 (by decide) ?_
          refine lv_iload hx hb dX8_rests_156 (lv_at hl 2 rfl) ?_
          refine lv_imul hx hb dX8_rests_158 ?_
          refine lv_iconst (v := 1) hx hb dX8_rests_159 (by decide) ?_
          refine lv_iadd hx hb dX8_rests_160 ?_
          refine kald hx hb hK.1 hP 3 0 rfl rfl dX8_rests_161 hf (fun v4 hf => ?_)
          refine lv_icmp_gt (tgt := 169) hx hb dX8_rests_162 (by decide) (fun hc => ?_) (fun hc => ?_)
          · replace hf := ip hc hf
            exact h_169 x4 t_restMany t_restFirst _ _ _ hP hS (lv_sub hl [0, 1, 2] rfl) hf
          · replace hf := iq hc hf
            refine lv_iconst (v := 1) hx hb dX8_rests_165 (by decide) ?_
            refine lv_goto (tgt := 170) hx hb dX8_rests_166 (by decide) ?_
            exact h_170 x4 1 t_restMany t_restFirst _ _ _ hP hS (lv_sub hl [0, 1, 2] rfl) hf
  have h_75 : ∀ (x1 : Int32) (x2 : Int32) (x3 : Int32) (t_thrown : Int32) (t_restMany : Int32) (t_restFirst : Int32) (fu75 : Nat) (x4 : Int32) (t_stumbled : Int32) (t_trial : Nat → Int32) (t_gains : Nat → Int32) (H : Heap) (locs : List Loc) (ls : Array Slot), va_P (dC, dI) vwCl [(q_t, .inr (8, [.int t_thrown, .ref q_t_text, .int t_textSize, .int t_place, .int t_depth, .int t_noon, .int t_later, .int t_walkers, .ref q_t_beat, .ref q_t_kind, .ref q_t_readSnow, .int t_readWalkers, .ref q_t_readWalker, .ref q_t_page, .ref q_t_trial, .ref q_t_book, .int t_acts, .ref q_t_kept, .ref q_t_isKept, .int t_marks, .ref q_t_markStep, .ref q_t_markTread, .long t_seed, .int t_stumbled, .ref q_t_order, .int t_lineMany, .int t_lineOrder, .int t_whoseMany, .int t_whoseFirst, .int t_restMany, .int t_restFirst, .ref q_t_gains, .ref q_t_value])), (q_t_page, .inl (cI, 17, .inl t_page)), (q_t_trial, .inl (cI, 17, .inl t_trial)), (q_t_gains, .inl (cI, 8, .inl t_gains)), (q_t_kind, .inl (cI, 5, .inl t_kind)), (q_t_beat, .inl (cI, 5, .inl t_beat))] H → va_S A s.heap H locs → lv_has ls 6 [(0, .ref q_t), (1, .int x1), (2, .int x2), (3, .int x3), (4, .int x4)] → L_X8_rests_75 x1 x2 x3 t_thrown t_depth t_noon t_later t_walkers t_restMany t_restFirst t_page t_kind t_beat fu75 x4 t_stumbled t_trial t_gains = some (r_, o_t_thrown, o_t_stumbled, o_t_restMany, o_t_restFirst, o_t_trial, o_t_gains) → W p l e rm_X8_rests s m args below meth c H locs 0 0 Q (F0 m 75 ls []) := by
    intro x1 x2 x3 t_thrown t_restMany t_restFirst fu75
    induction fu75 with
    | zero =>
      intro x4 t_stumbled t_trial t_gains H locs ls hP hS hl hf
      rw [L_X8_rests_75] at hf
      cases hf
    | succ fu75 ih75 =>
      intro x4 t_stumbled t_trial t_gains H locs ls hP hS hl hf
      have hD : va_D A [(q_t, .inr (8, [.int t_thrown, .ref q_t_text, .int t_textSize, .int t_place, .int t_depth, .int t_noon, .int t_later, .int t_walkers, .ref q_t_beat, .ref q_t_kind, .ref q_t_readSnow, .int t_readWalkers, .ref q_t_readWalker, .ref q_t_page, .ref q_t_trial, .ref q_t_book, .int t_acts, .ref q_t_kept, .ref q_t_isKept, .int t_marks, .ref q_t_markStep, .ref q_t_markTread, .long t_seed, .int t_stumbled, .ref q_t_order, .int t_lineMany, .int t_lineOrder, .int t_whoseMany, .int t_whoseFirst, .int t_restMany, .int t_restFirst, .ref q_t_gains, .ref q_t_value])), (q_t_page, .inl (cI, 17, .inl t_page)), (q_t_trial, .inl (cI, 17, .inl t_trial)), (q_t_gains, .inl (cI, 8, .inl t_gains)), (q_t_kind, .inl (cI, 5, .inl t_kind)), (q_t_beat, .inl (cI, 5, .inl t_beat))] := wd hD0 rfl
      rw [L_X8_rests_75] at hf
      refine lv_iload hx hb dX8_rests_75 (lv_at hl 4 rfl) ?_
      refine lv_iconst (v := 4) hx hb dX8_rests_77 (by decide) ?_
      refine lv_icmp_ge (tgt := 95) hx hb dX8_rests_78 (by decide) (fun hc => ?_) (fun hc => ?_)
      · replace hf := ip hc hf
        refine lv_aload_n hx hb dX8_rests_95 rfl (lv_at hl 0 rfl) ?_
        refine lv_iconst (v := 0) hx hb dX8_rests_96 (by decide) ?_
        refine va_put (D := (dC, dI)) (ci := 8) (v := .int 0) (ty := .int) (C := RX8) (T := TX8) (N := 33) hx hb hts hinX8 tyX8 tyX8_ok nmX8 hown hK.1 hP hD hS 0 rfl rfl 29 (by decide) w_0 (fun _ h9 => h9) rfl (by decide +kernel) rfl rfl (Nat.le_of_ble_eq_true rfl) dX8_rests_97 (fun H locs hP hD hS => ?_)
        replace hP : va_P (dC, dI) vwCl [(q_t, .inr (8, [.int t_thrown, .ref q_t_text, .int t_textSize, .int t_place, .int t_depth, .int t_noon, .int t_later, .int t_walkers, .ref q_t_beat, .ref q_t_kind, .ref q_t_readSnow, .int t_readWalkers, .ref q_t_readWalker, .ref q_t_page, .ref q_t_trial, .ref q_t_book, .int t_acts, .ref q_t_kept, .ref q_t_isKept, .int t_marks, .ref q_t_markStep, .ref q_t_markTread, .long t_seed, .int t_stumbled, .ref q_t_order, .int t_lineMany, .int t_lineOrder, .int t_whoseMany, .int t_whoseFirst, .int 0, .int t_restFirst, .ref q_t_gains, .ref q_t_value])), (q_t_page, .inl (cI, 17, .inl t_page)), (q_t_trial, .inl (cI, 17, .inl t_trial)), (q_t_gains, .inl (cI, 8, .inl t_gains)), (q_t_kind, .inl (cI, 5, .inl t_kind)), (q_t_beat, .inl (cI, 5, .inl t_beat))] H := hP
        replace hD : va_D A [(q_t, .inr (8, [.int t_thrown, .ref q_t_text, .int t_textSize, .int t_place, .int t_depth, .int t_noon, .int t_later, .int t_walkers, .ref q_t_beat, .ref q_t_kind, .ref q_t_readSnow, .int t_readWalkers, .ref q_t_readWalker, .ref q_t_page, .ref q_t_trial, .ref q_t_book, .int t_acts, .ref q_t_kept, .ref q_t_isKept, .int t_marks, .ref q_t_markStep, .ref q_t_markTread, .long t_seed, .int t_stumbled, .ref q_t_order, .int t_lineMany, .int t_lineOrder, .int t_whoseMany, .int t_whoseFirst, .int 0, .int t_restFirst, .ref q_t_gains, .ref q_t_value])), (q_t_page, .inl (cI, 17, .inl t_page)), (q_t_trial, .inl (cI, 17, .inl t_trial)), (q_t_gains, .inl (cI, 8, .inl t_gains)), (q_t_kind, .inl (cI, 5, .inl t_kind)), (q_t_beat, .inl (cI, 5, .inl t_beat))] := hD
        refine lv_aload_n hx hb dX8_rests_100 rfl (lv_at hl 0 rfl) ?_
        refine lv_bipush (v := (-9)) hx hb dX8_rests_101 (by decide) ?_
        refine va_put (D := (dC, dI)) (ci := 8) (v := .int (-9)) (ty := .int) (C := RX8) (T := TX8) (N := 33) hx hb hts hinX8 tyX8 tyX8_ok nmX8 hown hK.1 hP hD hS 0 rfl rfl 30 (by decide) w_1 (fun _ h9 => h9) rfl (by decide +kernel) rfl rfl (Nat.le_of_ble_eq_true rfl) dX8_rests_103 (fun H locs hP hD hS => ?_)
        replace hP : va_P (dC, dI) vwCl [(q_t, .inr (8, [.int t_thrown, .ref q_t_text, .int t_textSize, .int t_place, .int t_depth, .int t_noon, .int t_later, .int t_walkers, .ref q_t_beat, .ref q_t_kind, .ref q_t_readSnow, .int t_readWalkers, .ref q_t_readWalker, .ref q_t_page, .ref q_t_trial, .ref q_t_book, .int t_acts, .ref q_t_kept, .ref q_t_isKept, .int t_marks, .ref q_t_markStep, .ref q_t_markTread, .long t_seed, .int t_stumbled, .ref q_t_order, .int t_lineMany, .int t_lineOrder, .int t_whoseMany, .int t_whoseFirst, .int 0, .int (-9), .ref q_t_gains, .ref q_t_value])), (q_t_page, .inl (cI, 17, .inl t_page)), (q_t_trial, .inl (cI, 17, .inl t_trial)), (q_t_gains, .inl (cI, 8, .inl t_gains)), (q_t_kind, .inl (cI, 5, .inl t_kind)), (q_t_beat, .inl (cI, 5, .inl t_beat))] H := hP
        replace hD : va_D A [(q_t, .inr (8, [.int t_thrown, .ref q_t_text, .int t_textSize, .int t_place, .int t_depth, .int t_noon, .int t_later, .int t_walkers, .ref q_t_beat, .ref q_t_kind, .ref q_t_readSnow, .int t_readWalkers, .ref q_t_readWalker, .ref q_t_page, .ref q_t_trial, .ref q_t_book, .int t_acts, .ref q_t_kept, .ref q_t_isKept, .int t_marks, .ref q_t_markStep, .ref q_t_markTread, .long t_seed, .int t_stumbled, .ref q_t_order, .int t_lineMany, .int t_lineOrder, .int t_whoseMany, .int t_whoseFirst, .int 0, .int (-9), .ref q_t_gains, .ref q_t_value])), (q_t_page, .inl (cI, 17, .inl t_page)), (q_t_trial, .inl (cI, 17, .inl t_trial)), (q_t_gains, .inl (cI, 8, .inl t_gains)), (q_t_kind, .inl (cI, 5, .inl t_kind)), (q_t_beat, .inl (cI, 5, .inl t_beat))] := hD
        refine lv_iconst (v := 0) hx hb dX8_rests_106 (by decide) ?_
        refine lv_istore (lv' := [(4, .int 0), (0, .ref q_t), (1, .int x1), (2, .int x2), (3, .int x3)]) hx hb dX8_rests_107 hl (by decide) rfl (fun ls hl => ?_)
        exact h_109 x3 t_thrown t_stumbled t_trial t_gains fuelC 0 0 (-9) _ _ _ hP hS (lv_sub hl [1, 4, 0] rfl) hf
      · replace hf := iq hc hf
        refine lv_aload_n hx hb dX8_rests_81 rfl (lv_at hl 0 rfl) ?_
        refine lv_iload_n hx hb dX8_rests_82 rfl (lv_at hl 1 rfl) ?_
        refine lv_iload_n hx hb dX8_rests_83 rfl (lv_at hl 2 rfl) ?_
        refine lv_iload hx hb dX8_rests_84 (lv_at hl 4 rfl) ?_
        obtain ⟨⟨o5, o6, o7⟩, e9, hf⟩ := bd_ok hf
        refine kVv (As := [.int x1, .int x2, .int x4]) CF (cwV 3 hts gX8_rests_X8_layGains rfl rfl rfl (by decide +kernel) ⟨Nat.le_of_ble_eq_true rfl, Nat.le_of_ble_eq_true rfl⟩) PU_blind hP hD hS hA (va_recv hK.1 hP (ci := 8) (q0 := 0) rfl rfl) [0, 1, 2, 3, 4, 5] (fun h1 h2 h3 => PU_pre hK h1 A h2 h3) (c_X8_layGains l dC dI cI cZ q_t q_t_text q_t_beat q_t_kind q_t_readSnow q_t_readWalker q_t_page q_t_trial q_t_book q_t_kept q_t_isKept q_t_markStep q_t_markTread q_t_order q_t_gains q_t_value _ t_thrown t_textSize t_place t_depth t_noon t_later t_walkers t_readWalkers t_acts t_marks t_seed t_stumbled t_lineMany t_lineOrder t_whoseMany t_whoseFirst t_restMany t_restFirst t_page t_trial t_gains t_kind t_beat x1 x2 x4 o5 o6 o7 e9) rfl rfl rfl rfl hl.1 rfl (Nat.le_of_ble_eq_true rfl) dX8_rests_86 ⟨Nat.zero_le _, Nat.zero_le _⟩ (fun H locs hP hS => ?_)
        replace hP : va_P (dC, dI) vwCl [(q_t, .inr (8, [.int t_thrown, .ref q_t_text, .int t_textSize, .int t_place, .int t_depth, .int t_noon, .int t_later, .int t_walkers, .ref q_t_beat, .ref q_t_kind, .ref q_t_readSnow, .int t_readWalkers, .ref q_t_readWalker, .ref q_t_page, .ref q_t_trial, .ref q_t_book, .int t_acts, .ref q_t_kept, .ref q_t_isKept, .int t_marks, .ref q_t_markStep, .ref q_t_markTread, .long t_seed, .int o5, .ref q_t_order, .int t_lineMany, .int t_lineOrder, .int t_whoseMany, .int t_whoseFirst, .int t_restMany, .int t_restFirst, .ref q_t_gains, .ref q_t_value])), (q_t_page, .inl (cI, 17, .inl t_page)), (q_t_trial, .inl (cI, 17, .inl o6)), (q_t_gains, .inl (cI, 8, .inl o7)), (q_t_kind, .inl (cI, 5, .inl t_kind)), (q_t_beat, .inl (cI, 5, .inl t_beat))] H := hP
        replace hD : va_D A [(q_t, .inr (8, [.int t_thrown, .ref q_t_text, .int t_textSize, .int t_place, .int t_depth, .int t_noon, .int t_later, .int t_walkers, .ref q_t_beat, .ref q_t_kind, .ref q_t_readSnow, .int t_readWalkers, .ref q_t_readWalker, .ref q_t_page, .ref q_t_trial, .ref q_t_book, .int t_acts, .ref q_t_kept, .ref q_t_isKept, .int t_marks, .ref q_t_markStep, .ref q_t_markTread, .long t_seed, .int o5, .ref q_t_order, .int t_lineMany, .int t_lineOrder, .int t_whoseMany, .int t_whoseFirst, .int t_restMany, .int t_restFirst, .ref q_t_gains, .ref q_t_value])), (q_t_page, .inl (cI, 17, .inl t_page)), (q_t_trial, .inl (cI, 17, .inl o6)), (q_t_gains, .inl (cI, 8, .inl o7)), (q_t_kind, .inl (cI, 5, .inl t_kind)), (q_t_beat, .inl (cI, 5, .inl t_beat))] := wd hD rfl
        refine lv_iinc (v := (x4 + 1)) (lv' := [(4, .int (x4 + 1)), (0, .ref q_t), (1, .int x1), (2, .int x2), (3, .int x3)]) hx hb dX8_rests_89 hl (k := 4) rfl rfl (by decide) rfl (fun ls hl => ?_)
        refine lv_goto (tgt := 75) hx hb dX8_rests_92 (by decide) ?_
        exact ih75 (x4 + 1) o5 o6 o7 _ _ _ hP hS (lv_sub hl [1, 2, 3, 4, 0] rfl) hf
  unfold f_X8_rests at hf
  refine lv_aload_n hx hb dX8_rests_0 rfl (lv_at hl 0 rfl) ?_
  refine lv_iconst (v := 0) hx hb dX8_rests_1 (by decide) ?_
  refine va_put (D := (dC, dI)) (ci := 8) (v := .int 0) (ty := .int) (C := RX8) (T := TX8) (N := 33) hx hb hts hinX8 tyX8 tyX8_ok nmX8 hown hK.1 hP hD hS 0 rfl rfl 0 (by decide) w_3 (fun _ h9 => h9) rfl (by decide +kernel) rfl rfl (Nat.le_of_ble_eq_true rfl) dX8_rests_2 (fun H locs hP hD hS => ?_)
  replace hP : va_P (dC, dI) vwCl [(q_t, .inr (8, [.int 0, .ref q_t_text, .int t_textSize, .int t_place, .int t_depth, .int t_noon, .int t_later, .int t_walkers, .ref q_t_beat, .ref q_t_kind, .ref q_t_readSnow, .int t_readWalkers, .ref q_t_readWalker, .ref q_t_page, .ref q_t_trial, .ref q_t_book, .int t_acts, .ref q_t_kept, .ref q_t_isKept, .int t_marks, .ref q_t_markStep, .ref q_t_markTread, .long t_seed, .int t_stumbled, .ref q_t_order, .int t_lineMany, .int t_lineOrder, .int t_whoseMany, .int t_whoseFirst, .int t_restMany, .int t_restFirst, .ref q_t_gains, .ref q_t_value])), (q_t_page, .inl (cI, 17, .inl t_page)), (q_t_trial, .inl (cI, 17, .inl t_trial)), (q_t_gains, .inl (cI, 8, .inl t_gains)), (q_t_kind, .inl (cI, 5, .inl t_kind)), (q_t_beat, .inl (cI, 5, .inl t_beat))] H := hP
  replace hD : va_D A [(q_t, .inr (8, [.int 0, .ref q_t_text, .int t_textSize, .int t_place, .int t_depth, .int t_noon, .int t_later, .int t_walkers, .ref q_t_beat, .ref q_t_kind, .ref q_t_readSnow, .int t_readWalkers, .ref q_t_readWalker, .ref q_t_page, .ref q_t_trial, .ref q_t_book, .int t_acts, .ref q_t_kept, .ref q_t_isKept, .int t_marks, .ref q_t_markStep, .ref q_t_markTread, .long t_seed, .int t_stumbled, .ref q_t_order, .int t_lineMany, .int t_lineOrder, .int t_whoseMany, .int t_whoseFirst, .int t_restMany, .int t_restFirst, .ref q_t_gains, .ref q_t_value])), (q_t_page, .inl (cI, 17, .inl t_page)), (q_t_trial, .inl (cI, 17, .inl t_trial)), (q_t_gains, .inl (cI, 8, .inl t_gains)), (q_t_kind, .inl (cI, 5, .inl t_kind)), (q_t_beat, .inl (cI, 5, .inl t_beat))] := hD
  refine lv_aload_n hx hb dX8_rests_5 rfl (lv_at hl 0 rfl) ?_
  refine lv_iload_n hx hb dX8_rests_6 rfl (lv_at hl 1 rfl) ?_
  obtain ⟨r10, e12, hf⟩ := bd_ok hf
  refine kVi (As := [.int x1]) CF (cwV 1 hts gX8_rests_X8_noWalker rfl rfl rfl (by decide +kernel) ⟨Nat.le_of_ble_eq_true rfl, Nat.le_of_ble_eq_true rfl⟩) PU_blind hP hD hS hA (va_recv hK.1 hP (ci := 8) (q0 := 0) rfl rfl) [0] (fun h1 h2 h3 => PU_pre hK h1 A h2 h3) (c_X8_noWalker l dC dI cI cZ q_t q_t_text q_t_beat q_t_kind q_t_readSnow q_t_readWalker q_t_page q_t_trial q_t_book q_t_kept q_t_isKept q_t_markStep q_t_markTread q_t_order q_t_gains q_t_value _ 0 t_textSize t_place t_depth t_noon t_later t_walkers t_readWalkers t_acts t_marks t_seed t_stumbled t_lineMany t_lineOrder t_whoseMany t_whoseFirst t_restMany t_restFirst x1 r10 e12) rfl rfl rfl rfl hl.1 rfl (Nat.le_of_ble_eq_true rfl) dX8_rests_7 ⟨Nat.zero_le _, Nat.zero_le _⟩ (fun H locs hP hS => ?_)
  replace hP : va_P (dC, dI) vwCl [(q_t, .inr (8, [.int 0, .ref q_t_text, .int t_textSize, .int t_place, .int t_depth, .int t_noon, .int t_later, .int t_walkers, .ref q_t_beat, .ref q_t_kind, .ref q_t_readSnow, .int t_readWalkers, .ref q_t_readWalker, .ref q_t_page, .ref q_t_trial, .ref q_t_book, .int t_acts, .ref q_t_kept, .ref q_t_isKept, .int t_marks, .ref q_t_markStep, .ref q_t_markTread, .long t_seed, .int t_stumbled, .ref q_t_order, .int t_lineMany, .int t_lineOrder, .int t_whoseMany, .int t_whoseFirst, .int t_restMany, .int t_restFirst, .ref q_t_gains, .ref q_t_value])), (q_t_page, .inl (cI, 17, .inl t_page)), (q_t_trial, .inl (cI, 17, .inl t_trial)), (q_t_gains, .inl (cI, 8, .inl t_gains)), (q_t_kind, .inl (cI, 5, .inl t_kind)), (q_t_beat, .inl (cI, 5, .inl t_beat))] H := hP
  refine lv_if_ne (tgt := 21) hx hb dX8_rests_10 (by decide) (fun hc => ?_) (fun hc => ?_)
  · replace hf := iq hc hf
    refine lv_iconst (v := (-1)) hx hb dX8_rests_21 (by decide) ?_
    obtain ⟨e0, hf⟩ := ij2 hf
    obtain ⟨e1, hf⟩ := ijc hf
    obtain ⟨e2, hf⟩ := ijc hf
    obtain ⟨e3, hf⟩ := ijc hf
    obtain ⟨e4, hf⟩ := ijc hf
    obtain ⟨e5, hf⟩ := ijc hf
    have e6 := hf
    refine W.eq (congrArg (fun z => F0 m 22 ls [.int z]) e0) ?_
    exact hret _ _ _ _ (by rw [← e1, ← e2, ← e3, ← e4, ← e5, ← e6]; exact hP) hS dX8_rests_22
  · replace hf := ip hc hf
    refine lv_aload_n hx hb dX8_rests_13 rfl (lv_at hl 0 rfl) ?_
    refine lv_iload_n hx hb dX8_rests_14 rfl (lv_at hl 2 rfl) ?_
    obtain ⟨r13, e15, hf⟩ := bd_ok hf
    refine kVi (As := [.int x2]) CF (cwV 1 hts gX8_rests_X8_noWalker rfl rfl rfl (by decide +kernel) ⟨Nat.le_of_ble_eq_true rfl, Nat.le_of_ble_eq_true rfl⟩) PU_blind hP hD hS hA (va_recv hK.1 hP (ci := 8) (q0 := 0) rfl rfl) [0] (fun h1 h2 h3 => PU_pre hK h1 A h2 h3) (c_X8_noWalker l dC dI cI cZ q_t q_t_text q_t_beat q_t_kind q_t_readSnow q_t_readWalker q_t_page q_t_trial q_t_book q_t_kept q_t_isKept q_t_markStep q_t_markTread q_t_order q_t_gains q_t_value _ 0 t_textSize t_place t_depth t_noon t_later t_walkers t_readWalkers t_acts t_marks t_seed t_stumbled t_lineMany t_lineOrder t_whoseMany t_whoseFirst t_restMany t_restFirst x2 r13 e15) rfl rfl rfl rfl hl.1 rfl (Nat.le_of_ble_eq_true rfl) dX8_rests_15 ⟨Nat.zero_le _, Nat.zero_le _⟩ (fun H locs hP hS => ?_)
    replace hP : va_P (dC, dI) vwCl [(q_t, .inr (8, [.int 0, .ref q_t_text, .int t_textSize, .int t_place, .int t_depth, .int t_noon, .int t_later, .int t_walkers, .ref q_t_beat, .ref q_t_kind, .ref q_t_readSnow, .int t_readWalkers, .ref q_t_readWalker, .ref q_t_page, .ref q_t_trial, .ref q_t_book, .int t_acts, .ref q_t_kept, .ref q_t_isKept, .int t_marks, .ref q_t_markStep, .ref q_t_markTread, .long t_seed, .int t_stumbled, .ref q_t_order, .int t_lineMany, .int t_lineOrder, .int t_whoseMany, .int t_whoseFirst, .int t_restMany, .int t_restFirst, .ref q_t_gains, .ref q_t_value])), (q_t_page, .inl (cI, 17, .inl t_page)), (q_t_trial, .inl (cI, 17, .inl t_trial)), (q_t_gains, .inl (cI, 8, .inl t_gains)), (q_t_kind, .inl (cI, 5, .inl t_kind)), (q_t_beat, .inl (cI, 5, .inl t_beat))] H := hP
    refine lv_if_eq (tgt := 23) hx hb dX8_rests_18 (by decide) (fun hc => ?_) (fun hc => ?_)
    · replace hf := ip hc hf
      refine lv_iload_n hx hb dX8_rests_23 rfl (lv_at hl 1 rfl) ?_
      refine lv_iload_n hx hb dX8_rests_24 rfl (lv_at hl 2 rfl) ?_
      refine lv_icmp_eq (tgt := 38) hx hb dX8_rests_25 (by decide) (fun hc => ?_) (fun hc => ?_)
      · replace hf := ip hc hf
        refine lv_bipush (v := (-2)) hx hb dX8_rests_38 (by decide) ?_
        obtain ⟨e0, hf⟩ := ij2 hf
        obtain ⟨e1, hf⟩ := ijc hf
        obtain ⟨e2, hf⟩ := ijc hf
        obtain ⟨e3, hf⟩ := ijc hf
        obtain ⟨e4, hf⟩ := ijc hf
        obtain ⟨e5, hf⟩ := ijc hf
        have e6 := hf
        refine W.eq (congrArg (fun z => F0 m 40 ls [.int z]) e0) ?_
        exact hret _ _ _ _ (by rw [← e1, ← e2, ← e3, ← e4, ← e5, ← e6]; exact hP) hS dX8_rests_40
      · replace hf := iq hc hf
        refine lv_iload_n hx hb dX8_rests_28 rfl (lv_at hl 3 rfl) ?_
        refine lv_i2l hx hb dX8_rests_29 rfl ?_
        refine lv_lconst (v := 0) hx hb dX8_rests_30 (by decide) ?_
        refine lv_lconst (v := 1) hx hb dX8_rests_31 (by decide) ?_
        obtain ⟨r16, e18, hf⟩ := bd_ok hf
        refine kSi (As := [.long ((x3).toInt64), .long (0 : Int64), .long (1 : Int64)]) CF (va_cwS 3 hts gX8_rests_X8_in rfl rfl rfl (by decide +kernel) ⟨Nat.le_of_ble_eq_true rfl, Nat.le_of_ble_eq_true rfl⟩) PU_blind hP hD hS hA [] (fun h1 h2 h3 => PU_pre hK h1 A h2 h3) (c_X8_in l dC dI cI cZ _ ((x3).toInt64) (0 : Int64) (1 : Int64) r16 e18) rfl rfl rfl rfl hl.1 rfl (Nat.le_of_ble_eq_true rfl) dX8_rests_32 ⟨Nat.zero_le _, Nat.zero_le _⟩ (fun H locs hP hS => ?_)
        replace hP : va_P (dC, dI) vwCl [(q_t, .inr (8, [.int 0, .ref q_t_text, .int t_textSize, .int t_place, .int t_depth, .int t_noon, .int t_later, .int t_walkers, .ref q_t_beat, .ref q_t_kind, .ref q_t_readSnow, .int t_readWalkers, .ref q_t_readWalker, .ref q_t_page, .ref q_t_trial, .ref q_t_book, .int t_acts, .ref q_t_kept, .ref q_t_isKept, .int t_marks, .ref q_t_markStep, .ref q_t_markTread, .long t_seed, .int t_stumbled, .ref q_t_order, .int t_lineMany, .int t_lineOrder, .int t_whoseMany, .int t_whoseFirst, .int t_restMany, .int t_restFirst, .ref q_t_gains, .ref q_t_value])), (q_t_page, .inl (cI, 17, .inl t_page)), (q_t_trial, .inl (cI, 17, .inl t_trial)), (q_t_gains, .inl (cI, 8, .inl t_gains)), (q_t_kind, .inl (cI, 5, .inl t_kind)), (q_t_beat, .inl (cI, 5, .inl t_beat))] H := hP
        refine lv_if_ne (tgt := 41) hx hb dX8_rests_35 (by decide) (fun hc => ?_) (fun hc => ?_)
        · replace hf := iq hc hf
          refine lv_aload_n hx hb dX8_rests_41 rfl (lv_at hl 0 rfl) ?_
          refine va_get (D := (dC, dI)) (ci := 8) (v := .ref q_t_page) (C := RX8) (T := TX8) (N := 33) hx hb hts hinX8 hown hK.1 hP 0 rfl rfl 13 (by decide) w_4 (fun _ h9 => h9) rfl dX8_rests_42 ?_
          refine lv_bipush (v := 15) hx hb dX8_rests_45 (by decide) ?_
          refine kald hx hb hK.1 hP 1 0 rfl rfl dX8_rests_47 hf (fun v19 hf => ?_)
          refine lv_iload_n hx hb dX8_rests_48 rfl (lv_at hl 1 rfl) ?_
          obtain ⟨r20, e22, hf⟩ := bd_ok hf
          refine kSi (As := [.int v19, .int x1]) CF (va_cwS 2 hts gX8_rests_X8_has rfl rfl rfl (by decide +kernel) ⟨Nat.le_of_ble_eq_true rfl, Nat.le_of_ble_eq_true rfl⟩) PU_blind hP hD hS hA [] (fun h1 h2 h3 => PU_pre hK h1 A h2 h3) (c_X8_has l dC dI cI cZ _ v19 x1 r20 e22) rfl rfl rfl rfl hl.1 rfl (Nat.le_of_ble_eq_true rfl) dX8_rests_49 ⟨Nat.zero_le _, Nat.zero_le _⟩ (fun H locs hP hS => ?_)
          replace hP : va_P (dC, dI) vwCl [(q_t, .inr (8, [.int 0, .ref q_t_text, .int t_textSize, .int t_place, .int t_depth, .int t_noon, .int t_later, .int t_walkers, .ref q_t_beat, .ref q_t_kind, .ref q_t_readSnow, .int t_readWalkers, .ref q_t_readWalker, .ref q_t_page, .ref q_t_trial, .ref q_t_book, .int t_acts, .ref q_t_kept, .ref q_t_isKept, .int t_marks, .ref q_t_markStep, .ref q_t_markTread, .long t_seed, .int t_stumbled, .ref q_t_order, .int t_lineMany, .int t_lineOrder, .int t_whoseMany, .int t_whoseFirst, .int t_restMany, .int t_restFirst, .ref q_t_gains, .ref q_t_value])), (q_t_page, .inl (cI, 17, .inl t_page)), (q_t_trial, .inl (cI, 17, .inl t_trial)), (q_t_gains, .inl (cI, 8, .inl t_gains)), (q_t_kind, .inl (cI, 5, .inl t_kind)), (q_t_beat, .inl (cI, 5, .inl t_beat))] H := hP
          refine lv_if_ne (tgt := 69) hx hb dX8_rests_52 (by decide) (fun hc => ?_) (fun hc => ?_)
          · replace hf := iq hc hf
            refine lv_bipush (v := (-3)) hx hb dX8_rests_69 (by decide) ?_
            obtain ⟨e0, hf⟩ := ij2 hf
            obtain ⟨e1, hf⟩ := ijc hf
            obtain ⟨e2, hf⟩ := ijc hf
            obtain ⟨e3, hf⟩ := ijc hf
            obtain ⟨e4, hf⟩ := ijc hf
            obtain ⟨e5, hf⟩ := ijc hf
            have e6 := hf
            refine W.eq (congrArg (fun z => F0 m 71 ls [.int z]) e0) ?_
            exact hret _ _ _ _ (by rw [← e1, ← e2, ← e3, ← e4, ← e5, ← e6]; exact hP) hS dX8_rests_71
          · replace hf := ip hc hf
            refine lv_aload_n hx hb dX8_rests_55 rfl (lv_at hl 0 rfl) ?_
            refine va_get (D := (dC, dI)) (ci := 8) (v := .ref q_t_page) (C := RX8) (T := TX8) (N := 33) hx hb hts hinX8 hown hK.1 hP 0 rfl rfl 13 (by decide) w_4 (fun _ h9 => h9) rfl dX8_rests_56 ?_
            refine lv_bipush (v := 15) hx hb dX8_rests_59 (by decide) ?_
            refine kald hx hb hK.1 hP 1 0 rfl rfl dX8_rests_61 hf (fun v23 hf => ?_)
            refine lv_iload_n hx hb dX8_rests_62 rfl (lv_at hl 2 rfl) ?_
            obtain ⟨r24, e26, hf⟩ := bd_ok hf
            refine kSi (As := [.int v23, .int x2]) CF (va_cwS 2 hts gX8_rests_X8_has rfl rfl rfl (by decide +kernel) ⟨Nat.le_of_ble_eq_true rfl, Nat.le_of_ble_eq_true rfl⟩) PU_blind hP hD hS hA [] (fun h1 h2 h3 => PU_pre hK h1 A h2 h3) (c_X8_has l dC dI cI cZ _ v23 x2 r24 e26) rfl rfl rfl rfl hl.1 rfl (Nat.le_of_ble_eq_true rfl) dX8_rests_63 ⟨Nat.zero_le _, Nat.zero_le _⟩ (fun H locs hP hS => ?_)
            replace hP : va_P (dC, dI) vwCl [(q_t, .inr (8, [.int 0, .ref q_t_text, .int t_textSize, .int t_place, .int t_depth, .int t_noon, .int t_later, .int t_walkers, .ref q_t_beat, .ref q_t_kind, .ref q_t_readSnow, .int t_readWalkers, .ref q_t_readWalker, .ref q_t_page, .ref q_t_trial, .ref q_t_book, .int t_acts, .ref q_t_kept, .ref q_t_isKept, .int t_marks, .ref q_t_markStep, .ref q_t_markTread, .long t_seed, .int t_stumbled, .ref q_t_order, .int t_lineMany, .int t_lineOrder, .int t_whoseMany, .int t_whoseFirst, .int t_restMany, .int t_restFirst, .ref q_t_gains, .ref q_t_value])), (q_t_page, .inl (cI, 17, .inl t_page)), (q_t_trial, .inl (cI, 17, .inl t_trial)), (q_t_gains, .inl (cI, 8, .inl t_gains)), (q_t_kind, .inl (cI, 5, .inl t_kind)), (q_t_beat, .inl (cI, 5, .inl t_beat))] H := hP
            refine lv_if_eq (tgt := 72) hx hb dX8_rests_66 (by decide) (fun hc => ?_) (fun hc => ?_)
            · replace hf := ip hc hf
              refine lv_iconst (v := 0) hx hb dX8_rests_72 (by decide) ?_
              refine lv_istore (lv' := [(4, .int 0), (0, .ref q_t), (1, .int x1), (2, .int x2), (3, .int x3)]) hx hb dX8_rests_73 hl (by decide) rfl (fun ls hl => ?_)
              exact h_75 x1 x2 x3 0 t_restMany t_restFirst fuelC 0 t_stumbled t_trial t_gains _ _ _ hP hS (lv_sub hl [1, 2, 3, 4, 0] rfl) hf
            · replace hf := iq hc hf
              refine lv_bipush (v := (-3)) hx hb dX8_rests_69 (by decide) ?_
              obtain ⟨e0, hf⟩ := ij2 hf
              obtain ⟨e1, hf⟩ := ijc hf
              obtain ⟨e2, hf⟩ := ijc hf
              obtain ⟨e3, hf⟩ := ijc hf
              obtain ⟨e4, hf⟩ := ijc hf
              obtain ⟨e5, hf⟩ := ijc hf
              have e6 := hf
              refine W.eq (congrArg (fun z => F0 m 71 ls [.int z]) e0) ?_
              exact hret _ _ _ _ (by rw [← e1, ← e2, ← e3, ← e4, ← e5, ← e6]; exact hP) hS dX8_rests_71
        · replace hf := ip hc hf
          refine lv_bipush (v := (-2)) hx hb dX8_rests_38 (by decide) ?_
          obtain ⟨e0, hf⟩ := ij2 hf
          obtain ⟨e1, hf⟩ := ijc hf
          obtain ⟨e2, hf⟩ := ijc hf
          obtain ⟨e3, hf⟩ := ijc hf
          obtain ⟨e4, hf⟩ := ijc hf
          obtain ⟨e5, hf⟩ := ijc hf
          have e6 := hf
          refine W.eq (congrArg (fun z => F0 m 40 ls [.int z]) e0) ?_
          exact hret _ _ _ _ (by rw [← e1, ← e2, ← e3, ← e4, ← e5, ← e6]; exact hP) hS dX8_rests_40
    · replace hf := iq hc hf
      refine lv_iconst (v := (-1)) hx hb dX8_rests_21 (by decide) ?_
      obtain ⟨e0, hf⟩ := ij2 hf
      obtain ⟨e1, hf⟩ := ijc hf
      obtain ⟨e2, hf⟩ := ijc hf
      obtain ⟨e3, hf⟩ := ijc hf
      obtain ⟨e4, hf⟩ := ijc hf
      obtain ⟨e5, hf⟩ := ijc hf
      have e6 := hf
      refine W.eq (congrArg (fun z => F0 m 22 ls [.int z]) e0) ?_
      exact hret _ _ _ _ (by rw [← e1, ← e2, ← e3, ← e4, ← e5, ← e6]; exact hP) hS dX8_rests_22
