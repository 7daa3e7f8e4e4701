-- X8_divisor X8_fraction X8_share
abbrev rm_X8_divisor : Room := { frames := 0, cells := 0, slots := 0, locals := 0 }
set_option maxHeartbeats 4000000 in
set_option maxRecDepth 100000 in
theorem c_X8_divisor (l : Launch) (dC : Nat → ClassId) (dI : Nat → Nat → Nat) (cI cZ : ClassId) (sz : Nat) (x0 : Int32) (x1 : Int32) (r_ : Int32) (hf : f_X8_divisor x0 x1 = some r_) : Met l yX8_divisor wsX8_divisor rm_X8_divisor (va_Pc [.int x0, .int x1] (PU (dC, dI) cI cZ [] sz)) (va_Qi (fun (r : Int32) (_ : Unit) => r = r_) (fun _ t => va_P (dC, dI) vwCl [] t.heap) (va_A [] sz)) 0 0 (va_A [] sz) := by
  refine MetI (cc := cX8_divisor) (maxL := 5) (by decide) rfl (Nat.le_of_ble_eq_true rfl) (fun _ h => h) ?_
  intro p e s m args below meth c A Q ls hx CF hK hA hD hP hS hl hB hAe hsz hret
  have hb := CF.2.1
  have hml := CF.2.2.1
  have hown := CF.2.2.2.1
  have hts := CF.2.2.2.2
  have hD0 := hD
  replace hl : lv_has ls 5 [(0, .int x0), (1, .int x1)] := hl
  have h_13 : ∀ (fu13 : Nat) (x2 : Int32) (x3 : Int32) (H : Heap) (locs : List Loc) (ls : Array Slot), va_P (dC, dI) vwCl [] H → va_S A s.heap H locs → lv_has ls 5 [(2, .int x2), (3, .int x3)] → L_X8_divisor_13 fu13 x2 x3 = some r_ → W p l e rm_X8_divisor s m args below meth c H locs 0 0 Q (F0 m 13 ls []) := by
    intro fu13
    induction fu13 with
    | zero =>
      intro x2 x3 H locs ls hP hS hl hf
      rw [L_X8_divisor_13] at hf
      cases hf
    | succ fu13 ih13 =>
      intro x2 x3 H locs ls hP hS hl hf
      have hD : va_D A [] := wd hD0 rfl
      rw [L_X8_divisor_13] at hf
      refine lv_iload_n hx hb dX8_divisor_13 rfl (lv_at hl 1 rfl) ?_
      refine lv_if_eq (tgt := 30) hx hb dX8_divisor_14 (by decide) (fun hc => ?_) (fun hc => ?_)
      · replace hf := ip hc hf
        refine lv_iload_n hx hb dX8_divisor_30 rfl (lv_at hl 0 rfl) ?_
        have e0 := ij1 hf
        refine W.eq (congrArg (fun z => F0 m 31 ls [.int z]) e0) ?_
        exact hret _ _ _ _ hP hS dX8_divisor_31
      · replace hf := iq hc hf
        refine lv_iload_n hx hb dX8_divisor_17 rfl (lv_at hl 0 rfl) ?_
        refine lv_iload_n hx hb dX8_divisor_18 rfl (lv_at hl 1 rfl) ?_
        obtain ⟨hne, hf⟩ := dv_ok hf
        refine lv_irem hx hb dX8_divisor_19 hne ?_
        refine lv_istore (lv' := [(4, .int (x2 - x2 / x3 * x3)), (2, .int x2), (3, .int x3)]) hx hb dX8_divisor_20 hl (by decide) rfl (fun ls hl => ?_)
        refine lv_iload_n hx hb dX8_divisor_22 rfl (lv_at hl 2 rfl) ?_
        refine lv_istore_n (lv' := [(2, .int x3), (4, .int (x2 - x2 / x3 * x3)), (3, .int x3)]) hx hb dX8_divisor_23 rfl hl (by decide) rfl (fun ls hl => ?_)
        refine lv_iload hx hb dX8_divisor_24 (lv_at hl 1 rfl) ?_
        refine lv_istore_n (lv' := [(3, .int (x2 - x2 / x3 * x3)), (2, .int x3), (4, .int (x2 - x2 / x3 * x3))]) hx hb dX8_divisor_26 rfl hl (by decide) rfl (fun ls hl => ?_)
        refine lv_goto (tgt := 13) hx hb dX8_divisor_27 (by decide) ?_
        exact ih13 x3 (x2 - x2 / x3 * x3) _ _ _ hP hS (lv_sub hl [1, 0] rfl) hf
  have h_10 : ∀ (x1 : Int32) (s0 : Int32) (H : Heap) (locs : List Loc) (ls : Array Slot), va_P (dC, dI) vwCl [] H → va_S A s.heap H locs → lv_has ls 5 [(1, .int x1)] → J_X8_divisor_10 x1 s0 = some r_ → W p l e rm_X8_divisor s m args below meth c H locs 0 0 Q (F0 m 10 ls [.int s0]) := by
    intro x1 s0 H locs ls hP hS hl hf
    have hD : va_D A [] := wd hD0 rfl
    unfold J_X8_divisor_10 at hf
    refine lv_istore_n (lv' := [(2, .int s0), (1, .int x1)]) hx hb dX8_divisor_10 rfl hl (by decide) rfl (fun ls hl => ?_)
    refine lv_iload_n hx hb dX8_divisor_11 rfl (lv_at hl 1 rfl) ?_
    refine lv_istore_n (lv' := [(3, .int x1), (2, .int s0), (1, .int x1)]) hx hb dX8_divisor_12 rfl hl (by decide) rfl (fun ls hl => ?_)
    exact h_13 fuelC s0 x1 _ _ _ hP hS (lv_sub hl [1, 0] rfl) hf
  unfold f_X8_divisor at hf
  refine lv_iload_n hx hb dX8_divisor_0 rfl (lv_at hl 0 rfl) ?_
  refine lv_if_ge (tgt := 9) hx hb dX8_divisor_1 (by decide) (fun hc => ?_) (fun hc => ?_)
  · replace hf := ip hc hf
    refine lv_iload_n hx hb dX8_divisor_9 rfl (lv_at hl 0 rfl) ?_
    exact h_10 x1 x0 _ _ _ hP hS (lv_sub hl [1] rfl) hf
  · replace hf := iq hc hf
    refine lv_iload_n hx hb dX8_divisor_4 rfl (lv_at hl 0 rfl) ?_
    refine lv_ineg hx hb dX8_divisor_5 ?_
    refine lv_goto (tgt := 10) hx hb dX8_divisor_6 (by decide) ?_
    exact h_10 x1 (-x0) _ _ _ hP hS (lv_sub hl [1] rfl) hf
abbrev rm_X8_fraction : Room := { frames := 1, cells := 0, slots := 0, locals := 24 }
set_option maxHeartbeats 4000000 in
set_option maxRecDepth 100000 in
theorem c_X8_fraction (l : Launch) (dC : Nat → ClassId) (dI : Nat → Nat → Nat) (cI cZ : ClassId) (sz : Nat) (x0 : Int32) (x1 : Int32) (x2 : Int32) (r_ : Int32) (hf : f_X8_fraction x0 x1 x2 = some r_) : Met l yX8_fraction wsX8_fraction rm_X8_fraction (va_Pc [.int x0, .int x1, .int x2] (PU (dC, dI) cI cZ [] sz)) (va_Qi (fun (r : Int32) (_ : Unit) => r = r_) (fun _ t => va_P (dC, dI) vwCl [] t.heap) (va_A [] sz)) 0 0 (va_A [] sz) := by
  refine MetI (cc := cX8_fraction) (maxL := 4) (by decide) rfl (Nat.le_of_ble_eq_true rfl) (fun _ h => h) ?_
  intro p e s m args below meth c A Q ls hx CF hK hA hD hP hS hl hB hAe hsz hret
  have hb := CF.2.1
  have hml := CF.2.2.1
  have hown := CF.2.2.2.1
  have hts := CF.2.2.2.2
  have hD0 := hD
  replace hl : lv_has ls 4 [(0, .int x0), (1, .int x1), (2, .int x2)] := hl
  unfold f_X8_fraction at hf
  refine lv_iload_n hx hb dX8_fraction_0 rfl (lv_at hl 0 rfl) ?_
  refine lv_iload_n hx hb dX8_fraction_1 rfl (lv_at hl 1 rfl) ?_
  obtain ⟨r1, e3, hf⟩ := bd_ok hf
  refine kSi (As := [.int x0, .int x1]) CF (va_cwS 2 hts gX8_fraction_X8_divisor rfl rfl rfl (by decide +kernel) ⟨Nat.le_of_ble_eq_true rfl, Nat.le_of_ble_eq_true rfl⟩) PU_blind hP hD hS hA [] (fun h1 h2 h3 => PU_pre hK h1 A h2 h3) (c_X8_divisor l dC dI cI cZ _ x0 x1 r1 e3) rfl rfl rfl rfl hl.1 rfl (Nat.le_of_ble_eq_true rfl) dX8_fraction_2 ⟨Nat.zero_le _, Nat.zero_le _⟩ (fun H locs hP hS => ?_)
  replace hP : va_P (dC, dI) vwCl [] H := hP
  refine lv_istore_n (lv' := [(3, .int r1), (0, .int x0), (1, .int x1), (2, .int x2)]) hx hb dX8_fraction_5 rfl hl (by decide) rfl (fun ls hl => ?_)
  refine lv_iload_n hx hb dX8_fraction_6 rfl (lv_at hl 3 rfl) ?_
  refine lv_if_eq (tgt := 16) hx hb dX8_fraction_7 (by decide) (fun hc => ?_) (fun hc => ?_)
  · replace hf := ip hc hf
    refine lv_iload_n hx hb dX8_fraction_16 rfl (lv_at hl 2 rfl) ?_
    refine lv_iload_n hx hb dX8_fraction_17 rfl (lv_at hl 0 rfl) ?_
    obtain ⟨hne, hf⟩ := dv_ok hf
    refine lv_idiv hx hb dX8_fraction_18 hne ?_
    have e0 := ij1 hf
    refine W.eq (congrArg (fun z => F0 m 19 ls [.int z]) e0) ?_
    exact hret _ _ _ _ hP hS dX8_fraction_19
  · replace hf := iq hc hf
    refine lv_iload_n hx hb dX8_fraction_10 rfl (lv_at hl 1 rfl) ?_
    refine lv_iload_n hx hb dX8_fraction_11 rfl (lv_at hl 0 rfl) ?_
    obtain ⟨hne, hf⟩ := dv_ok hf
    refine lv_idiv hx hb dX8_fraction_12 hne ?_
    refine lv_goto (tgt := 19) hx hb dX8_fraction_13 (by decide) ?_
    have e0 := ij1 hf
    refine W.eq (congrArg (fun z => F0 m 19 ls [.int z]) e0) ?_
    exact hret _ _ _ _ hP hS dX8_fraction_19
abbrev rm_X8_share : Room := { frames := 5, cells := 0, slots := 0, locals := 118 }
set_option maxHeartbeats 4000000 in
set_option maxRecDepth 100000 in
theorem c_X8_share (l : Launch) (dC : Nat → ClassId) (dI : Nat → Nat → Nat) (cI cZ : ClassId) (q_t q_t_text q_t_beat q_t_kind q_t_readSnow q_t_readWalker q_t_page q_t_trial q_t_book q_t_kept q_t_isKept q_t_markStep q_t_markTread q_t_order q_t_gains q_t_value : Nat) (sz : Nat) (t_thrown : Int32) (t_textSize : Int32) (t_place : Int32) (t_depth : Int32) (t_noon : Int32) (t_later : Int32) (t_walkers : Int32) (t_readWalkers : Int32) (t_acts : Int32) (t_marks : Int32) (t_seed : Int64) (t_stumbled : Int32) (t_lineMany : Int32) (t_lineOrder : Int32) (t_whoseMany : Int32) (t_whoseFirst : Int32) (t_restMany : Int32) (t_restFirst : Int32) (t_page : Nat → Int32) (t_trial : Nat → Int32) (t_kind : Nat → Int32) (t_beat : Nat → Int32) (t_value : Nat → Int32) (x1 : Int32) (x2 : Int32) (r_ : Int32) (o_t_thrown : Int32) (o_t_stumbled : Int32) (o_t_trial : Nat → Int32) (o_t_value : Nat → Int32) (hf : f_X8_share x1 x2 t_thrown t_depth t_noon t_later t_walkers t_stumbled t_page t_trial t_kind t_beat t_value = some (r_, o_t_thrown, o_t_stumbled, o_t_trial, o_t_value)) : Met l yX8_share wsX8_share rm_X8_share (va_Pc [.ref q_t, .int x1, .int x2] (PU (dC, dI) cI cZ [(q_t, .inr (8, [.int t_thrown, .ref q_t_text, .int t_textSize, .int t_place, .int t_depth, .int t_noon, .int t_later, .int t_walkers, .ref q_t_beat, .ref q_t_kind, .ref q_t_readSnow, .int t_readWalkers, .ref q_t_readWalker, .ref q_t_page, .ref q_t_trial, .ref q_t_book, .int t_acts, .ref q_t_kept, .ref q_t_isKept, .int t_marks, .ref q_t_markStep, .ref q_t_markTread, .long t_seed, .int t_stumbled, .ref q_t_order, .int t_lineMany, .int t_lineOrder, .int t_whoseMany, .int t_whoseFirst, .int t_restMany, .int t_restFirst, .ref q_t_gains, .ref q_t_value])), (q_t_page, .inl (cI, 17, .inl t_page)), (q_t_trial, .inl (cI, 17, .inl t_trial)), (q_t_kind, .inl (cI, 5, .inl t_kind)), (q_t_beat, .inl (cI, 5, .inl t_beat)), (q_t_value, .inl (cI, 32, .inl t_value))] sz)) (va_Qi (fun (r : Int32) (_ : Unit) => r = r_) (fun _ t => va_P (dC, dI) vwCl [(q_t, .inr (8, [.int o_t_thrown, .ref q_t_text, .int t_textSize, .int t_place, .int t_depth, .int t_noon, .int t_later, .int t_walkers, .ref q_t_beat, .ref q_t_kind, .ref q_t_readSnow, .int t_readWalkers, .ref q_t_readWalker, .ref q_t_page, .ref q_t_trial, .ref q_t_book, .int t_acts, .ref q_t_kept, .ref q_t_isKept, .int t_marks, .ref q_t_markStep, .ref q_t_markTread, .long t_seed, .int o_t_stumbled, .ref q_t_order, .int t_lineMany, .int t_lineOrder, .int t_whoseMany, .int t_whoseFirst, .int t_restMany, .int t_restFirst, .ref q_t_gains, .ref q_t_value])), (q_t_page, .inl (cI, 17, .inl t_page)), (q_t_trial, .inl (cI, 17, .inl o_t_trial)), (q_t_kind, .inl (cI, 5, .inl t_kind)), (q_t_beat, .inl (cI, 5, .inl t_beat)), (q_t_value, .inl (cI, 32, .inl o_t_value))] t.heap) (va_A [(q_t, .inr (8, [.int t_thrown, .ref q_t_text, .int t_textSize, .int t_place, .int t_depth, .int t_noon, .int t_later, .int t_walkers, .ref q_t_beat, .ref q_t_kind, .ref q_t_readSnow, .int t_readWalkers, .ref q_t_readWalker, .ref q_t_page, .ref q_t_trial, .ref q_t_book, .int t_acts, .ref q_t_kept, .ref q_t_isKept, .int t_marks, .ref q_t_markStep, .ref q_t_markTread, .long t_seed, .int t_stumbled, .ref q_t_order, .int t_lineMany, .int t_lineOrder, .int t_whoseMany, .int t_whoseFirst, .int t_restMany, .int t_restFirst, .ref q_t_gains, .ref q_t_value])), (q_t_page, .inl (cI, 17, .inl t_page)), (q_t_trial, .inl (cI, 17, .inl t_trial)), (q_t_kind, .inl (cI, 5, .inl t_kind)), (q_t_beat, .inl (cI, 5, .inl t_beat)), (q_t_value, .inl (cI, 32, .inl t_value))] sz)) 0 0 (va_A [(q_t, .inr (8, [.int t_thrown, .ref q_t_text, .int t_textSize, .int t_place, .int t_depth, .int t_noon, .int t_later, .int t_walkers, .ref q_t_beat, .ref q_t_kind, .ref q_t_readSnow, .int t_readWalkers, .ref q_t_readWalker, .ref q_t_page, .ref q_t_trial, .ref q_t_book, .int t_acts, .ref q_t_kept, .ref q_t_isKept, .int t_marks, .ref q_t_markStep, .ref q_t_markTread, .long t_seed, .int t_stumbled, .ref q_t_order, .int t_lineMany, .int t_lineOrder, .int t_whoseMany, .int t_whoseFirst, .int t_restMany, .int t_restFirst, .ref q_t_gains, .ref q_t_value])), (q_t_page, .inl (cI, 17, .inl t_page)), (q_t_trial, .inl (cI, 17, .inl t_trial)), (q_t_kind, .inl (cI, 5, .inl t_kind)), (q_t_beat, .inl (cI, 5, .inl t_beat)), (q_t_value, .inl (cI, 32, .inl t_value))] sz) := by
  refine MetI (cc := cX8_share) (maxL := 6) (by decide) rfl (Nat.le_of_ble_eq_true rfl) (fun _ h => h) ?_
  intro p e s m args below meth c A Q ls hx CF hK hA hD hP hS hl hB hAe hsz hret
  have hb := CF.2.1
  have hml := CF.2.2.1
  have hown := CF.2.2.2.1
  have hts := CF.2.2.2.2
  have hD0 := hD
  replace hl : lv_has ls 6 [(0, .ref q_t), (1, .int x1), (2, .int x2)] := hl
  have hinX8 : ∀ w ∈ wsX80, w ∈ wsX8_share := fun _ h => List.mem_cons_of_mem _ (List.mem_append_right _ h)
  have w_0 := hts (.fieldLink RX8 66 "PassInStepModel" "walkers" "I") (by decide +kernel)
  have w_1 := hts (.fieldLink RX8 60 "PassInStepModel" "value" "[I") (by decide +kernel)
  have w_2 := hts (.fieldLink RX8 35 "PassInStepModel" "trial" "[I") (by decide +kernel)
  have w_3 := hts (.fieldLink RX8 63 "PassInStepModel" "thrown" "I") (by decide +kernel)
  have h_87 : ∀ (x1 : Int32) (x2 : Int32) (t_thrown : Int32) (t_stumbled : Int32) (t_trial : Nat → Int32) (t_value : Nat → Int32) (fu87 : Nat) (x3 : Int32) (x4 : Int32) (H : Heap) (locs : List Loc) (ls : Array Slot), va_P (dC, dI) vwCl [(q_t, .inr (8, [.int t_thrown, .ref q_t_text, .int t_textSize, .int t_place, .int t_depth, .int t_noon, .int t_later, .int t_walkers, .ref q_t_beat, .ref q_t_kind, .ref q_t_readSnow, .int t_readWalkers, .ref q_t_readWalker, .ref q_t_page, .ref q_t_trial, .ref q_t_book, .int t_acts, .ref q_t_kept, .ref q_t_isKept, .int t_marks, .ref q_t_markStep, .ref q_t_markTread, .long t_seed, .int t_stumbled, .ref q_t_order, .int t_lineMany, .int t_lineOrder, .int t_whoseMany, .int t_whoseFirst, .int t_restMany, .int t_restFirst, .ref q_t_gains, .ref q_t_value])), (q_t_page, .inl (cI, 17, .inl t_page)), (q_t_trial, .inl (cI, 17, .inl t_trial)), (q_t_kind, .inl (cI, 5, .inl t_kind)), (q_t_beat, .inl (cI, 5, .inl t_beat)), (q_t_value, .inl (cI, 32, .inl t_value))] H → va_S A s.heap H locs → lv_has ls 6 [(0, .ref q_t), (1, .int x1), (2, .int x2), (3, .int x3), (4, .int x4)] → L_X8_share_87 x1 x2 t_thrown t_walkers t_stumbled t_trial t_value fu87 x3 x4 = some (r_, o_t_thrown, o_t_stumbled, o_t_trial, o_t_value) → W p l e rm_X8_share s m args below meth c H locs 0 0 Q (F0 m 87 ls []) := by
    intro x1 x2 t_thrown t_stumbled t_trial t_value fu87
    induction fu87 with
    | zero =>
      intro x3 x4 H locs ls hP hS hl hf
      rw [L_X8_share_87] at hf
      cases hf
    | succ fu87 ih87 =>
      have h_155 : ∀ (x3 : Int32) (x4 : Int32) (H : Heap) (locs : List Loc) (ls : Array Slot), va_P (dC, dI) vwCl [(q_t, .inr (8, [.int t_thrown, .ref q_t_text, .int t_textSize, .int t_place, .int t_depth, .int t_noon, .int t_later, .int t_walkers, .ref q_t_beat, .ref q_t_kind, .ref q_t_readSnow, .int t_readWalkers, .ref q_t_readWalker, .ref q_t_page, .ref q_t_trial, .ref q_t_book, .int t_acts, .ref q_t_kept, .ref q_t_isKept, .int t_marks, .ref q_t_markStep, .ref q_t_markTread, .long t_seed, .int t_stumbled, .ref q_t_order, .int t_lineMany, .int t_lineOrder, .int t_whoseMany, .int t_whoseFirst, .int t_restMany, .int t_restFirst, .ref q_t_gains, .ref q_t_value])), (q_t_page, .inl (cI, 17, .inl t_page)), (q_t_trial, .inl (cI, 17, .inl t_trial)), (q_t_kind, .inl (cI, 5, .inl t_kind)), (q_t_beat, .inl (cI, 5, .inl t_beat)), (q_t_value, .inl (cI, 32, .inl t_value))] H → va_S A s.heap H locs → lv_has ls 6 [(0, .ref q_t), (1, .int x1), (2, .int x2), (3, .int x3), (4, .int x4)] → J_X8_share_155 (L_X8_share_87 x1 x2 t_thrown t_walkers t_stumbled t_trial t_value fu87) x3 x4 = some (r_, o_t_thrown, o_t_stumbled, o_t_trial, o_t_value) → W p l e rm_X8_share s m args below meth c H locs 0 0 Q (F0 m 155 ls []) := by
        intro x3 x4 H locs ls hP hS hl hf
        have hD : va_D A [(q_t, .inr (8, [.int t_thrown, .ref q_t_text, .int t_textSize, .int t_place, .int t_depth, .int t_noon, .int t_later, .int t_walkers, .ref q_t_beat, .ref q_t_kind, .ref q_t_readSnow, .int t_readWalkers, .ref q_t_readWalker, .ref q_t_page, .ref q_t_trial, .ref q_t_book, .int t_acts, .ref q_t_kept, .ref q_t_isKept, .int t_marks, .ref q_t_markStep, .ref q_t_markTread, .long t_seed, .int t_stumbled, .ref q_t_order, .int t_lineMany, .int t_lineOrder, .int t_whoseMany, .int t_whoseFirst, .int t_restMany, .int t_restFirst, .ref q_t_gains, .ref q_t_value])), (q_t_page, .inl (cI, 17, .inl t_page)), (q_t_trial, .inl (cI, 17, .inl t_trial)), (q_t_kind, .inl (cI, 5, .inl t_kind)), (q_t_beat, .inl (cI, 5, .inl t_beat)), (q_t_value, .inl (cI, 32, .inl t_value))] := wd hD0 rfl
        unfold J_X8_share_155 at hf
        refine lv_iinc (v := (x4 + 1)) (lv' := [(4, .int (x4 + 1)), (0, .ref q_t), (1, .int x1), (2, .int x2), (3, .int x3)]) hx hb dX8_share_155 hl (k := 4) rfl rfl (by decide) rfl (fun ls hl => ?_)
        refine lv_goto (tgt := 87) hx hb dX8_share_158 (by decide) ?_
        exact ih87 x3 (x4 + 1) _ _ _ hP hS (lv_sub hl [1, 2, 3, 4, 0] rfl) hf
      intro x3 x4 H locs ls hP hS hl hf
      have hD : va_D A [(q_t, .inr (8, [.int t_thrown, .ref q_t_text, .int t_textSize, .int t_place, .int t_depth, .int t_noon, .int t_later, .int t_walkers, .ref q_t_beat, .ref q_t_kind, .ref q_t_readSnow, .int t_readWalkers, .ref q_t_readWalker, .ref q_t_page, .ref q_t_trial, .ref q_t_book, .int t_acts, .ref q_t_kept, .ref q_t_isKept, .int t_marks, .ref q_t_markStep, .ref q_t_markTread, .long t_seed, .int t_stumbled, .ref q_t_order, .int t_lineMany, .int t_lineOrder, .int t_whoseMany, .int t_whoseFirst, .int t_restMany, .int t_restFirst, .ref q_t_gains, .ref q_t_value])), (q_t_page, .inl (cI, 17, .inl t_page)), (q_t_trial, .inl (cI, 17, .inl t_trial)), (q_t_kind, .inl (cI, 5, .inl t_kind)), (q_t_beat, .inl (cI, 5, .inl t_beat)), (q_t_value, .inl (cI, 32, .inl t_value))] := wd hD0 rfl
      rw [L_X8_share_87] at hf
      refine lv_iload hx hb dX8_share_87 (lv_at hl 4 rfl) ?_
      refine lv_iconst (v := 1) hx hb dX8_share_89 (by decide) ?_
      refine lv_aload_n hx hb dX8_share_90 rfl (lv_at hl 0 rfl) ?_
      refine va_get (D := (dC, dI)) (ci := 8) (v := .int t_walkers) (C := RX8) (T := TX8) (N := 33) hx hb hts hinX8 hown hK.1 hP 0 rfl rfl 7 (by decide) w_0 (fun _ h9 => h9) rfl dX8_share_91 ?_
      refine lv_ishl hx hb dX8_share_94 ?_
      refine lv_icmp_ge (tgt := 161) hx hb dX8_share_95 (by decide) (fun hc => ?_) (fun hc => ?_)
      · replace hf := ip hc hf
        refine lv_iload_n hx hb dX8_share_161 rfl (lv_at hl 3 rfl) ?_
        refine lv_aload_n hx hb dX8_share_162 rfl (lv_at hl 0 rfl) ?_
        refine va_get (D := (dC, dI)) (ci := 8) (v := .int t_walkers) (C := RX8) (T := TX8) (N := 33) hx hb hts hinX8 hown hK.1 hP 0 rfl rfl 7 (by decide) w_0 (fun _ h9 => h9) rfl dX8_share_163 ?_
        obtain ⟨r1, e3, hf⟩ := bd_ok hf
        refine kSi (As := [.int t_walkers]) CF (va_cwS 1 hts gX8_share_X8_ways rfl rfl rfl (by decide +kernel) ⟨Nat.le_of_ble_eq_true rfl, Nat.le_of_ble_eq_true rfl⟩) PU_blind hP hD hS hA [] (fun h1 h2 h3 => PU_pre hK h1 A h2 h3) (c_X8_ways l dC dI cI cZ _ t_walkers r1 e3) rfl rfl rfl rfl hl.1 rfl (Nat.le_of_ble_eq_true rfl) dX8_share_166 ⟨Nat.zero_le _, Nat.zero_le _⟩ (fun H locs hP hS => ?_)
        replace hP : va_P (dC, dI) vwCl [(q_t, .inr (8, [.int t_thrown, .ref q_t_text, .int t_textSize, .int t_place, .int t_depth, .int t_noon, .int t_later, .int t_walkers, .ref q_t_beat, .ref q_t_kind, .ref q_t_readSnow, .int t_readWalkers, .ref q_t_readWalker, .ref q_t_page, .ref q_t_trial, .ref q_t_book, .int t_acts, .ref q_t_kept, .ref q_t_isKept, .int t_marks, .ref q_t_markStep, .ref q_t_markTread, .long t_seed, .int t_stumbled, .ref q_t_order, .int t_lineMany, .int t_lineOrder, .int t_whoseMany, .int t_whoseFirst, .int t_restMany, .int t_restFirst, .ref q_t_gains, .ref q_t_value])), (q_t_page, .inl (cI, 17, .inl t_page)), (q_t_trial, .inl (cI, 17, .inl t_trial)), (q_t_kind, .inl (cI, 5, .inl t_kind)), (q_t_beat, .inl (cI, 5, .inl t_beat)), (q_t_value, .inl (cI, 32, .inl t_value))] H := hP
        refine lv_iload_n hx hb dX8_share_169 rfl (lv_at hl 2 rfl) ?_
        obtain ⟨r4, e6, hf⟩ := bd_ok hf
        refine kSi (As := [.int x3, .int r1, .int x2]) CF (va_cwS 3 hts gX8_share_X8_fraction rfl rfl rfl (by decide +kernel) ⟨Nat.le_of_ble_eq_true rfl, Nat.le_of_ble_eq_true rfl⟩) PU_blind hP hD hS hA [] (fun h1 h2 h3 => PU_pre hK h1 A h2 h3) (c_X8_fraction l dC dI cI cZ _ x3 r1 x2 r4 e6) rfl rfl rfl rfl hl.1 rfl (Nat.le_of_ble_eq_true rfl) dX8_share_170 ⟨Nat.zero_le _, Nat.zero_le _⟩ (fun H locs hP hS => ?_)
        replace hP : va_P (dC, dI) vwCl [(q_t, .inr (8, [.int t_thrown, .ref q_t_text, .int t_textSize, .int t_place, .int t_depth, .int t_noon, .int t_later, .int t_walkers, .ref q_t_beat, .ref q_t_kind, .ref q_t_readSnow, .int t_readWalkers, .ref q_t_readWalker, .ref q_t_page, .ref q_t_trial, .ref q_t_book, .int t_acts, .ref q_t_kept, .ref q_t_isKept, .int t_marks, .ref q_t_markStep, .ref q_t_markTread, .long t_seed, .int t_stumbled, .ref q_t_order, .int t_lineMany, .int t_lineOrder, .int t_whoseMany, .int t_whoseFirst, .int t_restMany, .int t_restFirst, .ref q_t_gains, .ref q_t_value])), (q_t_page, .inl (cI, 17, .inl t_page)), (q_t_trial, .inl (cI, 17, .inl t_trial)), (q_t_kind, .inl (cI, 5, .inl t_kind)), (q_t_beat, .inl (cI, 5, .inl t_beat)), (q_t_value, .inl (cI, 32, .inl t_value))] H := hP
        obtain ⟨e0, hf⟩ := ij2 hf
        obtain ⟨e1, hf⟩ := ijc hf
        obtain ⟨e2, hf⟩ := ijc hf
        obtain ⟨e3, hf⟩ := ijc hf
        have e4 := hf
        refine W.eq (congrArg (fun z => F0 m 173 ls [.int z]) e0) ?_
        exact hret _ _ _ _ (by rw [← e1, ← e2, ← e3, ← e4]; exact hP) hS dX8_share_173
      · replace hf := iq hc hf
        refine lv_iload hx hb dX8_share_98 (lv_at hl 4 rfl) ?_
        refine lv_iload_n hx hb dX8_share_100 rfl (lv_at hl 1 rfl) ?_
        obtain ⟨r7, e9, hf⟩ := bd_ok hf
        refine kSi (As := [.int x4, .int x1]) CF (va_cwS 2 hts gX8_share_X8_has rfl rfl rfl (by decide +kernel) ⟨Nat.le_of_ble_eq_true rfl, Nat.le_of_ble_eq_true rfl⟩) PU_blind hP hD hS hA [] (fun h1 h2 h3 => PU_pre hK h1 A h2 h3) (c_X8_has l dC dI cI cZ _ x4 x1 r7 e9) rfl rfl rfl rfl hl.1 rfl (Nat.le_of_ble_eq_true rfl) dX8_share_101 ⟨Nat.zero_le _, Nat.zero_le _⟩ (fun H locs hP hS => ?_)
        replace hP : va_P (dC, dI) vwCl [(q_t, .inr (8, [.int t_thrown, .ref q_t_text, .int t_textSize, .int t_place, .int t_depth, .int t_noon, .int t_later, .int t_walkers, .ref q_t_beat, .ref q_t_kind, .ref q_t_readSnow, .int t_readWalkers, .ref q_t_readWalker, .ref q_t_page, .ref q_t_trial, .ref q_t_book, .int t_acts, .ref q_t_kept, .ref q_t_isKept, .int t_marks, .ref q_t_markStep, .ref q_t_markTread, .long t_seed, .int t_stumbled, .ref q_t_order, .int t_lineMany, .int t_lineOrder, .int t_whoseMany, .int t_whoseFirst, .int t_restMany, .int t_restFirst, .ref q_t_gains, .ref q_t_value])), (q_t_page, .inl (cI, 17, .inl t_page)), (q_t_trial, .inl (cI, 17, .inl t_trial)), (q_t_kind, .inl (cI, 5, .inl t_kind)), (q_t_beat, .inl (cI, 5, .inl t_beat)), (q_t_value, .inl (cI, 32, .inl t_value))] H := hP
        refine lv_if_ne (tgt := 155) hx hb dX8_share_104 (by decide) (fun hc => ?_) (fun hc => ?_)
        · replace hf := iq hc hf
          exact h_155 x3 x4 _ _ _ hP hS (lv_sub hl [0, 1, 2, 3, 4] rfl) hf
        · replace hf := ip hc hf
          refine lv_iload hx hb dX8_share_107 (lv_at hl 4 rfl) ?_
          obtain ⟨r10, e12, hf⟩ := bd_ok hf
          refine kSi (As := [.int x4]) CF (va_cwS 1 hts gX8_share_X8_many rfl rfl rfl (by decide +kernel) ⟨Nat.le_of_ble_eq_true rfl, Nat.le_of_ble_eq_true rfl⟩) PU_blind hP hD hS hA [] (fun h1 h2 h3 => PU_pre hK h1 A h2 h3) (c_X8_many l dC dI cI cZ _ x4 r10 e12) rfl rfl rfl rfl hl.1 rfl (Nat.le_of_ble_eq_true rfl) dX8_share_109 ⟨Nat.zero_le _, Nat.zero_le _⟩ (fun H locs hP hS => ?_)
          replace hP : va_P (dC, dI) vwCl [(q_t, .inr (8, [.int t_thrown, .ref q_t_text, .int t_textSize, .int t_place, .int t_depth, .int t_noon, .int t_later, .int t_walkers, .ref q_t_beat, .ref q_t_kind, .ref q_t_readSnow, .int t_readWalkers, .ref q_t_readWalker, .ref q_t_page, .ref q_t_trial, .ref q_t_book, .int t_acts, .ref q_t_kept, .ref q_t_isKept, .int t_marks, .ref q_t_markStep, .ref q_t_markTread, .long t_seed, .int t_stumbled, .ref q_t_order, .int t_lineMany, .int t_lineOrder, .int t_whoseMany, .int t_whoseFirst, .int t_restMany, .int t_restFirst, .ref q_t_gains, .ref q_t_value])), (q_t_page, .inl (cI, 17, .inl t_page)), (q_t_trial, .inl (cI, 17, .inl t_trial)), (q_t_kind, .inl (cI, 5, .inl t_kind)), (q_t_beat, .inl (cI, 5, .inl t_beat)), (q_t_value, .inl (cI, 32, .inl t_value))] H := hP
          refine lv_istore (lv' := [(5, .int r10), (0, .ref q_t), (1, .int x1), (2, .int x2), (3, .int x3), (4, .int x4)]) hx hb dX8_share_112 hl (by decide) rfl (fun ls hl => ?_)
          refine lv_iload_n hx hb dX8_share_114 rfl (lv_at hl 4 rfl) ?_
          refine lv_iload hx hb dX8_share_115 (lv_at hl 0 rfl) ?_
          obtain ⟨r13, e15, hf⟩ := bd_ok hf
          refine kSi (As := [.int r10]) CF (va_cwS 1 hts gX8_share_X8_ways rfl rfl rfl (by decide +kernel) ⟨Nat.le_of_ble_eq_true rfl, Nat.le_of_ble_eq_true rfl⟩) PU_blind hP hD hS hA [] (fun h1 h2 h3 => PU_pre hK h1 A h2 h3) (c_X8_ways l dC dI cI cZ _ r10 r13 e15) rfl rfl rfl rfl hl.1 rfl (Nat.le_of_ble_eq_true rfl) dX8_share_117 ⟨Nat.zero_le _, Nat.zero_le _⟩ (fun H locs hP hS => ?_)
          replace hP : va_P (dC, dI) vwCl [(q_t, .inr (8, [.int t_thrown, .ref q_t_text, .int t_textSize, .int t_place, .int t_depth, .int t_noon, .int t_later, .int t_walkers, .ref q_t_beat, .ref q_t_kind, .ref q_t_readSnow, .int t_readWalkers, .ref q_t_readWalker, .ref q_t_page, .ref q_t_trial, .ref q_t_book, .int t_acts, .ref q_t_kept, .ref q_t_isKept, .int t_marks, .ref q_t_markStep, .ref q_t_markTread, .long t_seed, .int t_stumbled, .ref q_t_order, .int t_lineMany, .int t_lineOrder, .int t_whoseMany, .int t_whoseFirst, .int t_restMany, .int t_restFirst, .ref q_t_gains, .ref q_t_value])), (q_t_page, .inl (cI, 17, .inl t_page)), (q_t_trial, .inl (cI, 17, .inl t_trial)), (q_t_kind, .inl (cI, 5, .inl t_kind)), (q_t_beat, .inl (cI, 5, .inl t_beat)), (q_t_value, .inl (cI, 32, .inl t_value))] H := hP
          refine lv_aload_n hx hb dX8_share_120 rfl (lv_at hl 1 rfl) ?_
          refine va_get (D := (dC, dI)) (ci := 8) (v := .int t_walkers) (C := RX8) (T := TX8) (N := 33) hx hb hts hinX8 hown hK.1 hP 0 rfl rfl 7 (by decide) w_0 (fun _ h9 => h9) rfl dX8_share_121 ?_
          refine lv_iconst (v := 1) hx hb dX8_share_124 (by decide) ?_
          refine lv_isub hx hb dX8_share_125 ?_
          refine lv_iload hx hb dX8_share_126 (lv_at hl 0 rfl) ?_
          refine lv_isub hx hb dX8_share_128 ?_
          obtain ⟨r16, e18, hf⟩ := bd_ok hf
          refine kSi (As := [.int ((t_walkers - 1) - r10)]) CF (va_cwS 1 hts gX8_share_X8_ways rfl rfl rfl (by decide +kernel) ⟨Nat.le_of_ble_eq_true rfl, Nat.le_of_ble_eq_true rfl⟩) PU_blind hP hD hS hA [] (fun h1 h2 h3 => PU_pre hK h1 A h2 h3) (c_X8_ways l dC dI cI cZ _ ((t_walkers - 1) - r10) r16 e18) rfl rfl rfl rfl hl.1 rfl (Nat.le_of_ble_eq_true rfl) dX8_share_129 ⟨Nat.zero_le _, Nat.zero_le _⟩ (fun H locs hP hS => ?_)
          replace hP : va_P (dC, dI) vwCl [(q_t, .inr (8, [.int t_thrown, .ref q_t_text, .int t_textSize, .int t_place, .int t_depth, .int t_noon, .int t_later, .int t_walkers, .ref q_t_beat, .ref q_t_kind, .ref q_t_readSnow, .int t_readWalkers, .ref q_t_readWalker, .ref q_t_page, .ref q_t_trial, .ref q_t_book, .int t_acts, .ref q_t_kept, .ref q_t_isKept, .int t_marks, .ref q_t_markStep, .ref q_t_markTread, .long t_seed, .int t_stumbled, .ref q_t_order, .int t_lineMany, .int t_lineOrder, .int t_whoseMany, .int t_whoseFirst, .int t_restMany, .int t_restFirst, .ref q_t_gains, .ref q_t_value])), (q_t_page, .inl (cI, 17, .inl t_page)), (q_t_trial, .inl (cI, 17, .inl t_trial)), (q_t_kind, .inl (cI, 5, .inl t_kind)), (q_t_beat, .inl (cI, 5, .inl t_beat)), (q_t_value, .inl (cI, 32, .inl t_value))] H := hP
          refine lv_imul hx hb dX8_share_132 ?_
          refine lv_aload_n hx hb dX8_share_133 rfl (lv_at hl 1 rfl) ?_
          refine va_get (D := (dC, dI)) (ci := 8) (v := .ref q_t_value) (C := RX8) (T := TX8) (N := 33) hx hb hts hinX8 hown hK.1 hP 0 rfl rfl 32 (by decide) w_1 (fun _ h9 => h9) rfl dX8_share_134 ?_
          refine lv_iload hx hb dX8_share_137 (lv_at hl 5 rfl) ?_
          refine lv_iconst (v := 1) hx hb dX8_share_139 (by decide) ?_
          refine lv_iload_n hx hb dX8_share_140 rfl (lv_at hl 2 rfl) ?_
          refine lv_ishl hx hb dX8_share_141 ?_
          refine lv_ior hx hb dX8_share_142 ?_
          refine kald hx hb hK.1 hP 5 0 rfl rfl dX8_share_143 hf (fun v19 hf => ?_)
          refine lv_aload_n hx hb dX8_share_144 rfl (lv_at hl 1 rfl) ?_
          refine va_get (D := (dC, dI)) (ci := 8) (v := .ref q_t_value) (C := RX8) (T := TX8) (N := 33) hx hb hts hinX8 hown hK.1 hP 0 rfl rfl 32 (by decide) w_1 (fun _ h9 => h9) rfl dX8_share_145 ?_
          refine lv_iload hx hb dX8_share_148 (lv_at hl 5 rfl) ?_
          refine kald hx hb hK.1 hP 5 0 rfl rfl dX8_share_150 hf (fun v20 hf => ?_)
          refine lv_isub hx hb dX8_share_151 ?_
          refine lv_imul hx hb dX8_share_152 ?_
          refine lv_iadd hx hb dX8_share_153 ?_
          refine lv_istore_n (lv' := [(3, .int (x3 + ((r13 * r16) * (v19 - v20)))), (5, .int r10), (0, .ref q_t), (1, .int x1), (2, .int x2), (4, .int x4)]) hx hb dX8_share_154 rfl hl (by decide) rfl (fun ls hl => ?_)
          exact h_155 (x3 + ((r13 * r16) * (v19 - v20))) x4 _ _ _ hP hS (lv_sub hl [2, 3, 4, 0, 5] rfl) hf
  have h_17 : ∀ (x1 : Int32) (x2 : Int32) (t_thrown : Int32) (fu17 : Nat) (x3 : Int32) (t_stumbled : Int32) (t_trial : Nat → Int32) (t_value : Nat → Int32) (H : Heap) (locs : List Loc) (ls : Array Slot), va_P (dC, dI) vwCl [(q_t, .inr (8, [.int t_thrown, .ref q_t_text, .int t_textSize, .int t_place, .int t_depth, .int t_noon, .int t_later, .int t_walkers, .ref q_t_beat, .ref q_t_kind, .ref q_t_readSnow, .int t_readWalkers, .ref q_t_readWalker, .ref q_t_page, .ref q_t_trial, .ref q_t_book, .int t_acts, .ref q_t_kept, .ref q_t_isKept, .int t_marks, .ref q_t_markStep, .ref q_t_markTread, .long t_seed, .int t_stumbled, .ref q_t_order, .int t_lineMany, .int t_lineOrder, .int t_whoseMany, .int t_whoseFirst, .int t_restMany, .int t_restFirst, .ref q_t_gains, .ref q_t_value])), (q_t_page, .inl (cI, 17, .inl t_page)), (q_t_trial, .inl (cI, 17, .inl t_trial)), (q_t_kind, .inl (cI, 5, .inl t_kind)), (q_t_beat, .inl (cI, 5, .inl t_beat)), (q_t_value, .inl (cI, 32, .inl t_value))] H → va_S A s.heap H locs → lv_has ls 6 [(0, .ref q_t), (1, .int x1), (2, .int x2), (3, .int x3)] → L_X8_share_17 x1 x2 t_thrown t_depth t_noon t_later t_walkers t_page t_kind t_beat fu17 x3 t_stumbled t_trial t_value = some (r_, o_t_thrown, o_t_stumbled, o_t_trial, o_t_value) → W p l e rm_X8_share s m args below meth c H locs 0 0 Q (F0 m 17 ls []) := by
    intro x1 x2 t_thrown fu17
    induction fu17 with
    | zero =>
      intro x3 t_stumbled t_trial t_value H locs ls hP hS hl hf
      rw [L_X8_share_17] at hf
      cases hf
    | succ fu17 ih17 =>
      intro x3 t_stumbled t_trial t_value H locs ls hP hS hl hf
      have hD : va_D A [(q_t, .inr (8, [.int t_thrown, .ref q_t_text, .int t_textSize, .int t_place, .int t_depth, .int t_noon, .int t_later, .int t_walkers, .ref q_t_beat, .ref q_t_kind, .ref q_t_readSnow, .int t_readWalkers, .ref q_t_readWalker, .ref q_t_page, .ref q_t_trial, .ref q_t_book, .int t_acts, .ref q_t_kept, .ref q_t_isKept, .int t_marks, .ref q_t_markStep, .ref q_t_markTread, .long t_seed, .int t_stumbled, .ref q_t_order, .int t_lineMany, .int t_lineOrder, .int t_whoseMany, .int t_whoseFirst, .int t_restMany, .int t_restFirst, .ref q_t_gains, .ref q_t_value])), (q_t_page, .inl (cI, 17, .inl t_page)), (q_t_trial, .inl (cI, 17, .inl t_trial)), (q_t_kind, .inl (cI, 5, .inl t_kind)), (q_t_beat, .inl (cI, 5, .inl t_beat)), (q_t_value, .inl (cI, 32, .inl t_value))] := wd hD0 rfl
      rw [L_X8_share_17] at hf
      refine lv_iload_n hx hb dX8_share_17 rfl (lv_at hl 3 rfl) ?_
      refine lv_iconst (v := 1) hx hb dX8_share_18 (by decide) ?_
      refine lv_aload_n hx hb dX8_share_19 rfl (lv_at hl 0 rfl) ?_
      refine va_get (D := (dC, dI)) (ci := 8) (v := .int t_walkers) (C := RX8) (T := TX8) (N := 33) hx hb hts hinX8 hown hK.1 hP 0 rfl rfl 7 (by decide) w_0 (fun _ h9 => h9) rfl dX8_share_20 ?_
      refine lv_ishl hx hb dX8_share_23 ?_
      refine lv_icmp_ge (tgt := 82) hx hb dX8_share_24 (by decide) (fun hc => ?_) (fun hc => ?_)
      · replace hf := ip hc hf
        refine lv_iconst (v := 0) hx hb dX8_share_82 (by decide) ?_
        refine lv_istore_n (lv' := [(3, .int 0), (0, .ref q_t), (1, .int x1), (2, .int x2)]) hx hb dX8_share_83 rfl hl (by decide) rfl (fun ls hl => ?_)
        refine lv_iconst (v := 0) hx hb dX8_share_84 (by decide) ?_
        refine lv_istore (lv' := [(4, .int 0), (3, .int 0), (0, .ref q_t), (1, .int x1), (2, .int x2)]) hx hb dX8_share_85 hl (by decide) rfl (fun ls hl => ?_)
        exact h_87 x1 x2 t_thrown t_stumbled t_trial t_value fuelC 0 0 _ _ _ hP hS (lv_sub hl [2, 3, 4, 1, 0] rfl) hf
      · replace hf := iq hc hf
        refine lv_aload_n hx hb dX8_share_27 rfl (lv_at hl 0 rfl) ?_
        obtain ⟨⟨o21, o22⟩, e24, hf⟩ := bd_ok hf
        refine kVv (As := []) CF (cwV 0 hts gX8_share_X8_begin rfl rfl rfl (by decide +kernel) ⟨Nat.le_of_ble_eq_true rfl, Nat.le_of_ble_eq_true rfl⟩) PU_blind hP hD hS hA (va_recv hK.1 hP (ci := 8) (q0 := 0) rfl rfl) [0, 1, 2] (fun h1 h2 h3 => PU_pre hK h1 A h2 h3) (c_X8_begin l dC dI cI cZ q_t q_t_text q_t_beat q_t_kind q_t_readSnow q_t_readWalker q_t_page q_t_trial q_t_book q_t_kept q_t_isKept q_t_markStep q_t_markTread q_t_order q_t_gains q_t_value _ t_thrown t_textSize t_place t_depth t_noon t_later t_walkers t_readWalkers t_acts t_marks t_seed t_stumbled t_lineMany t_lineOrder t_whoseMany t_whoseFirst t_restMany t_restFirst t_page t_trial o21 o22 e24) rfl rfl rfl rfl hl.1 rfl (Nat.le_of_ble_eq_true rfl) dX8_share_28 ⟨Nat.zero_le _, Nat.zero_le _⟩ (fun H locs hP hS => ?_)
        replace hP : va_P (dC, dI) vwCl [(q_t, .inr (8, [.int t_thrown, .ref q_t_text, .int t_textSize, .int t_place, .int t_depth, .int t_noon, .int t_later, .int t_walkers, .ref q_t_beat, .ref q_t_kind, .ref q_t_readSnow, .int t_readWalkers, .ref q_t_readWalker, .ref q_t_page, .ref q_t_trial, .ref q_t_book, .int t_acts, .ref q_t_kept, .ref q_t_isKept, .int t_marks, .ref q_t_markStep, .ref q_t_markTread, .long t_seed, .int o21, .ref q_t_order, .int t_lineMany, .int t_lineOrder, .int t_whoseMany, .int t_whoseFirst, .int t_restMany, .int t_restFirst, .ref q_t_gains, .ref q_t_value])), (q_t_page, .inl (cI, 17, .inl t_page)), (q_t_trial, .inl (cI, 17, .inl o22)), (q_t_kind, .inl (cI, 5, .inl t_kind)), (q_t_beat, .inl (cI, 5, .inl t_beat)), (q_t_value, .inl (cI, 32, .inl t_value))] H := hP
        replace hD : va_D A [(q_t, .inr (8, [.int t_thrown, .ref q_t_text, .int t_textSize, .int t_place, .int t_depth, .int t_noon, .int t_later, .int t_walkers, .ref q_t_beat, .ref q_t_kind, .ref q_t_readSnow, .int t_readWalkers, .ref q_t_readWalker, .ref q_t_page, .ref q_t_trial, .ref q_t_book, .int t_acts, .ref q_t_kept, .ref q_t_isKept, .int t_marks, .ref q_t_markStep, .ref q_t_markTread, .long t_seed, .int o21, .ref q_t_order, .int t_lineMany, .int t_lineOrder, .int t_whoseMany, .int t_whoseFirst, .int t_restMany, .int t_restFirst, .ref q_t_gains, .ref q_t_value])), (q_t_page, .inl (cI, 17, .inl t_page)), (q_t_trial, .inl (cI, 17, .inl o22)), (q_t_kind, .inl (cI, 5, .inl t_kind)), (q_t_beat, .inl (cI, 5, .inl t_beat)), (q_t_value, .inl (cI, 32, .inl t_value))] := wd hD rfl
        refine lv_aload_n hx hb dX8_share_31 rfl (lv_at hl 0 rfl) ?_
        refine va_get (D := (dC, dI)) (ci := 8) (v := .ref q_t_trial) (C := RX8) (T := TX8) (N := 33) hx hb hts hinX8 hown hK.1 hP 0 rfl rfl 14 (by decide) w_2 (fun _ h9 => h9) rfl dX8_share_32 ?_
        refine lv_bipush (v := 15) hx hb dX8_share_35 (by decide) ?_
        refine lv_dup2_11 hx hb dX8_share_37 rfl rfl ?_
        refine kald hx hb hK.1 hP 2 0 rfl rfl dX8_share_38 hf (fun v25 hf => ?_)
        refine lv_iconst (v := 1) hx hb dX8_share_39 (by decide) ?_
        refine lv_aload_n hx hb dX8_share_40 rfl (lv_at hl 0 rfl) ?_
        refine va_get (D := (dC, dI)) (ci := 8) (v := .int t_walkers) (C := RX8) (T := TX8) (N := 33) hx hb hts hinX8 hown hK.1 hP 0 rfl rfl 7 (by decide) w_0 (fun _ h9 => h9) rfl dX8_share_41 ?_
        refine lv_ishl hx hb dX8_share_44 ?_
        refine lv_iconst (v := 1) hx hb dX8_share_45 (by decide) ?_
        refine lv_isub hx hb dX8_share_46 ?_
        refine lv_iload_n hx hb dX8_share_47 rfl (lv_at hl 3 rfl) ?_
        refine lv_iconst (v := (-1)) hx hb dX8_share_48 (by decide) ?_
        refine lv_ixor hx hb dX8_share_49 ?_
        refine lv_iand hx hb dX8_share_50 ?_
        refine lv_ior hx hb dX8_share_51 ?_
        refine kast hx hb hK.1 hP hD hS 2 0 rfl rfl dX8_share_52 hf (fun w26 H locs hP hD hS hf => ?_)
        replace hP : va_P (dC, dI) vwCl [(q_t, .inr (8, [.int t_thrown, .ref q_t_text, .int t_textSize, .int t_place, .int t_depth, .int t_noon, .int t_later, .int t_walkers, .ref q_t_beat, .ref q_t_kind, .ref q_t_readSnow, .int t_readWalkers, .ref q_t_readWalker, .ref q_t_page, .ref q_t_trial, .ref q_t_book, .int t_acts, .ref q_t_kept, .ref q_t_isKept, .int t_marks, .ref q_t_markStep, .ref q_t_markTread, .long t_seed, .int o21, .ref q_t_order, .int t_lineMany, .int t_lineOrder, .int t_whoseMany, .int t_whoseFirst, .int t_restMany, .int t_restFirst, .ref q_t_gains, .ref q_t_value])), (q_t_page, .inl (cI, 17, .inl t_page)), (q_t_trial, .inl (cI, 17, .inl w26)), (q_t_kind, .inl (cI, 5, .inl t_kind)), (q_t_beat, .inl (cI, 5, .inl t_beat)), (q_t_value, .inl (cI, 32, .inl t_value))] H := hP
        replace hD : va_D A [(q_t, .inr (8, [.int t_thrown, .ref q_t_text, .int t_textSize, .int t_place, .int t_depth, .int t_noon, .int t_later, .int t_walkers, .ref q_t_beat, .ref q_t_kind, .ref q_t_readSnow, .int t_readWalkers, .ref q_t_readWalker, .ref q_t_page, .ref q_t_trial, .ref q_t_book, .int t_acts, .ref q_t_kept, .ref q_t_isKept, .int t_marks, .ref q_t_markStep, .ref q_t_markTread, .long t_seed, .int o21, .ref q_t_order, .int t_lineMany, .int t_lineOrder, .int t_whoseMany, .int t_whoseFirst, .int t_restMany, .int t_restFirst, .ref q_t_gains, .ref q_t_value])), (q_t_page, .inl (cI, 17, .inl t_page)), (q_t_trial, .inl (cI, 17, .inl w26)), (q_t_kind, .inl (cI, 5, .inl t_kind)), (q_t_beat, .inl (cI, 5, .inl t_beat)), (q_t_value, .inl (cI, 32, .inl t_value))] := hD
        refine lv_aload_n hx hb dX8_share_53 rfl (lv_at hl 0 rfl) ?_
        refine lv_bipush (v := 6) hx hb dX8_share_54 (by decide) ?_
        obtain ⟨o27, e29, hf⟩ := bd_ok hf
        refine kVv (As := [.int 6]) CF (cwV 1 hts gX8_share_X8_goSteps rfl rfl rfl (by decide +kernel) ⟨Nat.le_of_ble_eq_true rfl, Nat.le_of_ble_eq_true rfl⟩) PU_blind hP hD hS hA (va_recv hK.1 hP (ci := 8) (q0 := 0) rfl rfl) [0, 2, 3, 4] (fun h1 h2 h3 => PU_pre hK h1 A h2 h3) (c_X8_goSteps l dC dI cI cZ q_t q_t_text q_t_beat q_t_kind q_t_readSnow q_t_readWalker q_t_page q_t_trial q_t_book q_t_kept q_t_isKept q_t_markStep q_t_markTread q_t_order q_t_gains q_t_value _ t_thrown t_textSize t_place t_depth t_noon t_later t_walkers t_readWalkers t_acts t_marks t_seed o21 t_lineMany t_lineOrder t_whoseMany t_whoseFirst t_restMany t_restFirst w26 t_kind t_beat 6 o27 e29) rfl rfl rfl rfl hl.1 rfl (Nat.le_of_ble_eq_true rfl) dX8_share_56 ⟨Nat.zero_le _, Nat.zero_le _⟩ (fun H locs hP hS => ?_)
        replace hP : va_P (dC, dI) vwCl [(q_t, .inr (8, [.int t_thrown, .ref q_t_text, .int t_textSize, .int t_place, .int t_depth, .int t_noon, .int t_later, .int t_walkers, .ref q_t_beat, .ref q_t_kind, .ref q_t_readSnow, .int t_readWalkers, .ref q_t_readWalker, .ref q_t_page, .ref q_t_trial, .ref q_t_book, .int t_acts, .ref q_t_kept, .ref q_t_isKept, .int t_marks, .ref q_t_markStep, .ref q_t_markTread, .long t_seed, .int o21, .ref q_t_order, .int t_lineMany, .int t_lineOrder, .int t_whoseMany, .int t_whoseFirst, .int t_restMany, .int t_restFirst, .ref q_t_gains, .ref q_t_value])), (q_t_page, .inl (cI, 17, .inl t_page)), (q_t_trial, .inl (cI, 17, .inl o27)), (q_t_kind, .inl (cI, 5, .inl t_kind)), (q_t_beat, .inl (cI, 5, .inl t_beat)), (q_t_value, .inl (cI, 32, .inl t_value))] H := hP
        replace hD : va_D A [(q_t, .inr (8, [.int t_thrown, .ref q_t_text, .int t_textSize, .int t_place, .int t_depth, .int t_noon, .int t_later, .int t_walkers, .ref q_t_beat, .ref q_t_kind, .ref q_t_readSnow, .int t_readWalkers, .ref q_t_readWalker, .ref q_t_page, .ref q_t_trial, .ref q_t_book, .int t_acts, .ref q_t_kept, .ref q_t_isKept, .int t_marks, .ref q_t_markStep, .ref q_t_markTread, .long t_seed, .int o21, .ref q_t_order, .int t_lineMany, .int t_lineOrder, .int t_whoseMany, .int t_whoseFirst, .int t_restMany, .int t_restFirst, .ref q_t_gains, .ref q_t_value])), (q_t_page, .inl (cI, 17, .inl t_page)), (q_t_trial, .inl (cI, 17, .inl o27)), (q_t_kind, .inl (cI, 5, .inl t_kind)), (q_t_beat, .inl (cI, 5, .inl t_beat)), (q_t_value, .inl (cI, 32, .inl t_value))] := wd hD rfl
        refine lv_aload_n hx hb dX8_share_59 rfl (lv_at hl 0 rfl) ?_
        refine va_get (D := (dC, dI)) (ci := 8) (v := .ref q_t_value) (C := RX8) (T := TX8) (N := 33) hx hb hts hinX8 hown hK.1 hP 0 rfl rfl 32 (by decide) w_1 (fun _ h9 => h9) rfl dX8_share_60 ?_
        refine lv_iload_n hx hb dX8_share_63 rfl (lv_at hl 3 rfl) ?_
        refine lv_aload_n hx hb dX8_share_64 rfl (lv_at hl 0 rfl) ?_
        refine lv_aload_n hx hb dX8_share_65 rfl (lv_at hl 0 rfl) ?_
        refine va_get (D := (dC, dI)) (ci := 8) (v := .ref q_t_trial) (C := RX8) (T := TX8) (N := 33) hx hb hts hinX8 hown hK.1 hP 0 rfl rfl 14 (by decide) w_2 (fun _ h9 => h9) rfl dX8_share_66 ?_
        obtain ⟨r30, e32, hf⟩ := bd_ok hf
        refine kVi (As := [.ref q_t_trial]) CF (cwV 1 hts gX8_share_X8_up rfl rfl rfl (by decide +kernel) ⟨Nat.le_of_ble_eq_true rfl, Nat.le_of_ble_eq_true rfl⟩) PU_blind hP hD hS hA (va_recv hK.1 hP (ci := 8) (q0 := 0) rfl rfl) [0, 2] (fun h1 h2 h3 => PU_pre hK h1 A h2 h3) (c_X8_up l dC dI cI cZ q_t q_t_text q_t_beat q_t_kind q_t_readSnow q_t_readWalker q_t_page q_t_trial q_t_book q_t_kept q_t_isKept q_t_markStep q_t_markTread q_t_order q_t_gains q_t_value q_t_trial _ t_thrown t_textSize t_place t_depth t_noon t_later t_walkers t_readWalkers t_acts t_marks t_seed o21 t_lineMany t_lineOrder t_whoseMany t_whoseFirst t_restMany t_restFirst o27 17 r30 e32) rfl rfl rfl rfl hl.1 rfl (Nat.le_of_ble_eq_true rfl) dX8_share_69 ⟨Nat.zero_le _, Nat.zero_le _⟩ (fun H locs hP hS => ?_)
        replace hP : va_P (dC, dI) vwCl [(q_t, .inr (8, [.int t_thrown, .ref q_t_text, .int t_textSize, .int t_place, .int t_depth, .int t_noon, .int t_later, .int t_walkers, .ref q_t_beat, .ref q_t_kind, .ref q_t_readSnow, .int t_readWalkers, .ref q_t_readWalker, .ref q_t_page, .ref q_t_trial, .ref q_t_book, .int t_acts, .ref q_t_kept, .ref q_t_isKept, .int t_marks, .ref q_t_markStep, .ref q_t_markTread, .long t_seed, .int o21, .ref q_t_order, .int t_lineMany, .int t_lineOrder, .int t_whoseMany, .int t_whoseFirst, .int t_restMany, .int t_restFirst, .ref q_t_gains, .ref q_t_value])), (q_t_page, .inl (cI, 17, .inl t_page)), (q_t_trial, .inl (cI, 17, .inl o27)), (q_t_kind, .inl (cI, 5, .inl t_kind)), (q_t_beat, .inl (cI, 5, .inl t_beat)), (q_t_value, .inl (cI, 32, .inl t_value))] H := hP
        obtain ⟨r33, e35, hf⟩ := bd_ok hf
        refine kSi (As := [.int r30]) CF (va_cwS 1 hts gX8_share_X8_many rfl rfl rfl (by decide +kernel) ⟨Nat.le_of_ble_eq_true rfl, Nat.le_of_ble_eq_true rfl⟩) PU_blind hP hD hS hA [] (fun h1 h2 h3 => PU_pre hK h1 A h2 h3) (c_X8_many l dC dI cI cZ _ r30 r33 e35) rfl rfl rfl rfl hl.1 rfl (Nat.le_of_ble_eq_true rfl) dX8_share_72 ⟨Nat.zero_le _, Nat.zero_le _⟩ (fun H locs hP hS => ?_)
        replace hP : va_P (dC, dI) vwCl [(q_t, .inr (8, [.int t_thrown, .ref q_t_text, .int t_textSize, .int t_place, .int t_depth, .int t_noon, .int t_later, .int t_walkers, .ref q_t_beat, .ref q_t_kind, .ref q_t_readSnow, .int t_readWalkers, .ref q_t_readWalker, .ref q_t_page, .ref q_t_trial, .ref q_t_book, .int t_acts, .ref q_t_kept, .ref q_t_isKept, .int t_marks, .ref q_t_markStep, .ref q_t_markTread, .long t_seed, .int o21, .ref q_t_order, .int t_lineMany, .int t_lineOrder, .int t_whoseMany, .int t_whoseFirst, .int t_restMany, .int t_restFirst, .ref q_t_gains, .ref q_t_value])), (q_t_page, .inl (cI, 17, .inl t_page)), (q_t_trial, .inl (cI, 17, .inl o27)), (q_t_kind, .inl (cI, 5, .inl t_kind)), (q_t_beat, .inl (cI, 5, .inl t_beat)), (q_t_value, .inl (cI, 32, .inl t_value))] H := hP
        refine kast hx hb hK.1 hP hD hS 5 0 rfl rfl dX8_share_75 hf (fun w36 H locs hP hD hS hf => ?_)
        replace hP : va_P (dC, dI) vwCl [(q_t, .inr (8, [.int t_thrown, .ref q_t_text, .int t_textSize, .int t_place, .int t_depth, .int t_noon, .int t_later, .int t_walkers, .ref q_t_beat, .ref q_t_kind, .ref q_t_readSnow, .int t_readWalkers, .ref q_t_readWalker, .ref q_t_page, .ref q_t_trial, .ref q_t_book, .int t_acts, .ref q_t_kept, .ref q_t_isKept, .int t_marks, .ref q_t_markStep, .ref q_t_markTread, .long t_seed, .int o21, .ref q_t_order, .int t_lineMany, .int t_lineOrder, .int t_whoseMany, .int t_whoseFirst, .int t_restMany, .int t_restFirst, .ref q_t_gains, .ref q_t_value])), (q_t_page, .inl (cI, 17, .inl t_page)), (q_t_trial, .inl (cI, 17, .inl o27)), (q_t_kind, .inl (cI, 5, .inl t_kind)), (q_t_beat, .inl (cI, 5, .inl t_beat)), (q_t_value, .inl (cI, 32, .inl w36))] H := hP
        replace hD : va_D A [(q_t, .inr (8, [.int t_thrown, .ref q_t_text, .int t_textSize, .int t_place, .int t_depth, .int t_noon, .int t_later, .int t_walkers, .ref q_t_beat, .ref q_t_kind, .ref q_t_readSnow, .int t_readWalkers, .ref q_t_readWalker, .ref q_t_page, .ref q_t_trial, .ref q_t_book, .int t_acts, .ref q_t_kept, .ref q_t_isKept, .int t_marks, .ref q_t_markStep, .ref q_t_markTread, .long t_seed, .int o21, .ref q_t_order, .int t_lineMany, .int t_lineOrder, .int t_whoseMany, .int t_whoseFirst, .int t_restMany, .int t_restFirst, .ref q_t_gains, .ref q_t_value])), (q_t_page, .inl (cI, 17, .inl t_page)), (q_t_trial, .inl (cI, 17, .inl o27)), (q_t_kind, .inl (cI, 5, .inl t_kind)), (q_t_beat, .inl (cI, 5, .inl t_beat)), (q_t_value, .inl (cI, 32, .inl w36))] := hD
        refine lv_iinc (v := (x3 + 1)) (lv' := [(3, .int (x3 + 1)), (0, .ref q_t), (1, .int x1), (2, .int x2)]) hx hb dX8_share_76 hl (k := 3) rfl rfl (by decide) rfl (fun ls hl => ?_)
        refine lv_goto (tgt := 17) hx hb dX8_share_79 (by decide) ?_
        exact ih17 (x3 + 1) o21 o27 w36 _ _ _ hP hS (lv_sub hl [1, 2, 3, 0] rfl) hf
  unfold f_X8_share at hf
  refine lv_aload_n hx hb dX8_share_0 rfl (lv_at hl 0 rfl) ?_
  refine lv_iconst (v := 0) hx hb dX8_share_1 (by decide) ?_
  refine va_put (D := (dC, dI)) (ci := 8) (v := .int 0) (ty := .int) (C := RX8) (T := TX8) (N := 33) hx hb hts hinX8 tyX8 tyX8_ok nmX8 hown hK.1 hP hD hS 0 rfl rfl 0 (by decide) w_3 (fun _ h9 => h9) rfl (by decide +kernel) rfl rfl (Nat.le_of_ble_eq_true rfl) dX8_share_2 (fun H locs hP hD hS => ?_)
  replace hP : va_P (dC, dI) vwCl [(q_t, .inr (8, [.int 0, .ref q_t_text, .int t_textSize, .int t_place, .int t_depth, .int t_noon, .int t_later, .int t_walkers, .ref q_t_beat, .ref q_t_kind, .ref q_t_readSnow, .int t_readWalkers, .ref q_t_readWalker, .ref q_t_page, .ref q_t_trial, .ref q_t_book, .int t_acts, .ref q_t_kept, .ref q_t_isKept, .int t_marks, .ref q_t_markStep, .ref q_t_markTread, .long t_seed, .int t_stumbled, .ref q_t_order, .int t_lineMany, .int t_lineOrder, .int t_whoseMany, .int t_whoseFirst, .int t_restMany, .int t_restFirst, .ref q_t_gains, .ref q_t_value])), (q_t_page, .inl (cI, 17, .inl t_page)), (q_t_trial, .inl (cI, 17, .inl t_trial)), (q_t_kind, .inl (cI, 5, .inl t_kind)), (q_t_beat, .inl (cI, 5, .inl t_beat)), (q_t_value, .inl (cI, 32, .inl t_value))] H := hP
  replace hD : va_D A [(q_t, .inr (8, [.int 0, .ref q_t_text, .int t_textSize, .int t_place, .int t_depth, .int t_noon, .int t_later, .int t_walkers, .ref q_t_beat, .ref q_t_kind, .ref q_t_readSnow, .int t_readWalkers, .ref q_t_readWalker, .ref q_t_page, .ref q_t_trial, .ref q_t_book, .int t_acts, .ref q_t_kept, .ref q_t_isKept, .int t_marks, .ref q_t_markStep, .ref q_t_markTread, .long t_seed, .int t_stumbled, .ref q_t_order, .int t_lineMany, .int t_lineOrder, .int t_whoseMany, .int t_whoseFirst, .int t_restMany, .int t_restFirst, .ref q_t_gains, .ref q_t_value])), (q_t_page, .inl (cI, 17, .inl t_page)), (q_t_trial, .inl (cI, 17, .inl t_trial)), (q_t_kind, .inl (cI, 5, .inl t_kind)), (q_t_beat, .inl (cI, 5, .inl t_beat)), (q_t_value, .inl (cI, 32, .inl t_value))] := hD
  refine lv_aload_n hx hb dX8_share_5 rfl (lv_at hl 0 rfl) ?_
  refine lv_iload_n hx hb dX8_share_6 rfl (lv_at hl 1 rfl) ?_
  obtain ⟨r37, e39, hf⟩ := bd_ok hf
  refine kVi (As := [.int x1]) CF (cwV 1 hts gX8_share_X8_noWalker rfl rfl rfl (by decide +kernel) ⟨Nat.le_of_ble_eq_true rfl, Nat.le_of_ble_eq_true rfl⟩) PU_blind hP hD hS hA (va_recv hK.1 hP (ci := 8) (q0 := 0) rfl rfl) [0] (fun h1 h2 h3 => PU_pre hK h1 A h2 h3) (c_X8_noWalker l dC dI cI cZ q_t q_t_text q_t_beat q_t_kind q_t_readSnow q_t_readWalker q_t_page q_t_trial q_t_book q_t_kept q_t_isKept q_t_markStep q_t_markTread q_t_order q_t_gains q_t_value _ 0 t_textSize t_place t_depth t_noon t_later t_walkers t_readWalkers t_acts t_marks t_seed t_stumbled t_lineMany t_lineOrder t_whoseMany t_whoseFirst t_restMany t_restFirst x1 r37 e39) rfl rfl rfl rfl hl.1 rfl (Nat.le_of_ble_eq_true rfl) dX8_share_7 ⟨Nat.zero_le _, Nat.zero_le _⟩ (fun H locs hP hS => ?_)
  replace hP : va_P (dC, dI) vwCl [(q_t, .inr (8, [.int 0, .ref q_t_text, .int t_textSize, .int t_place, .int t_depth, .int t_noon, .int t_later, .int t_walkers, .ref q_t_beat, .ref q_t_kind, .ref q_t_readSnow, .int t_readWalkers, .ref q_t_readWalker, .ref q_t_page, .ref q_t_trial, .ref q_t_book, .int t_acts, .ref q_t_kept, .ref q_t_isKept, .int t_marks, .ref q_t_markStep, .ref q_t_markTread, .long t_seed, .int t_stumbled, .ref q_t_order, .int t_lineMany, .int t_lineOrder, .int t_whoseMany, .int t_whoseFirst, .int t_restMany, .int t_restFirst, .ref q_t_gains, .ref q_t_value])), (q_t_page, .inl (cI, 17, .inl t_page)), (q_t_trial, .inl (cI, 17, .inl t_trial)), (q_t_kind, .inl (cI, 5, .inl t_kind)), (q_t_beat, .inl (cI, 5, .inl t_beat)), (q_t_value, .inl (cI, 32, .inl t_value))] H := hP
  refine lv_if_eq (tgt := 15) hx hb dX8_share_10 (by decide) (fun hc => ?_) (fun hc => ?_)
  · replace hf := ip hc hf
    refine lv_iconst (v := 0) hx hb dX8_share_15 (by decide) ?_
    refine lv_istore_n (lv' := [(3, .int 0), (0, .ref q_t), (1, .int x1), (2, .int x2)]) hx hb dX8_share_16 rfl hl (by decide) rfl (fun ls hl => ?_)
    exact h_17 x1 x2 0 fuelC 0 t_stumbled t_trial t_value _ _ _ hP hS (lv_sub hl [1, 2, 3, 0] rfl) hf
  · replace hf := iq hc hf
    refine lv_iconst (v := (-1)) hx hb dX8_share_13 (by decide) ?_
    obtain ⟨e0, hf⟩ := ij2 hf
    obtain ⟨e1, hf⟩ := ijc hf
    obtain ⟨e2, hf⟩ := ijc hf
    obtain ⟨e3, hf⟩ := ijc hf
    have e4 := hf
    refine W.eq (congrArg (fun z => F0 m 14 ls [.int z]) e0) ?_
    exact hret _ _ _ _ (by rw [← e1, ← e2, ← e3, ← e4]; exact hP) hS dX8_share_14
