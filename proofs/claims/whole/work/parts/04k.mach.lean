-- X7_seed X7_winters X7_isSlot X7_keep X7_again X8_in X8_has X8_many X8_power X8_noWalker X8_write X8_wipe X8_figure
abbrev rm_X7_seed : Room := { frames := 0, cells := 0, slots := 0, locals := 0 }
set_option maxHeartbeats 4000000 in
set_option maxRecDepth 100000 in
theorem c_X7_seed (l : Launch) (dC : Nat → ClassId) (dI : Nat → Nat → Nat) (cI cZ : ClassId) (q_t q_t_text q_t_told q_t_now q_t_acts q_t_slots q_t_marks q_t_foresight q_t_chances : Nat) (sz : Nat) (t_firstAct : Int32) (t_actCount : Int32) (t_slotsKept : Int32) (t_weather : Int64) (x1 : Int64) (r_ : Int64) (o_t_weather : Int64) (hf : f_X7_seed x1 t_weather = some (r_, o_t_weather)) : Met l yX7_seed wsX7_seed rm_X7_seed (va_Pc [.ref q_t, .long x1] (PU (dC, dI) cI cZ [(q_t, .inr (7, [.ref q_t_text, .ref q_t_told, .ref q_t_now, .ref q_t_acts, .ref q_t_slots, .ref q_t_marks, .ref q_t_foresight, .ref q_t_chances, .int t_firstAct, .int t_actCount, .int t_slotsKept, .long t_weather]))] sz)) (va_Ql (fun (r : Int64) (_ : Unit) => r = r_) (fun _ t => va_P (dC, dI) vwCl [(q_t, .inr (7, [.ref q_t_text, .ref q_t_told, .ref q_t_now, .ref q_t_acts, .ref q_t_slots, .ref q_t_marks, .ref q_t_foresight, .ref q_t_chances, .int t_firstAct, .int t_actCount, .int t_slotsKept, .long o_t_weather]))] t.heap) (va_A [(q_t, .inr (7, [.ref q_t_text, .ref q_t_told, .ref q_t_now, .ref q_t_acts, .ref q_t_slots, .ref q_t_marks, .ref q_t_foresight, .ref q_t_chances, .int t_firstAct, .int t_actCount, .int t_slotsKept, .long t_weather]))] sz)) 0 0 (va_A [(q_t, .inr (7, [.ref q_t_text, .ref q_t_told, .ref q_t_now, .ref q_t_acts, .ref q_t_slots, .ref q_t_marks, .ref q_t_foresight, .ref q_t_chances, .int t_firstAct, .int t_actCount, .int t_slotsKept, .long t_weather]))] sz) := by
  refine MetL (cc := cX7_seed) (maxL := 5) (by decide) rfl (Nat.le_of_ble_eq_true rfl) (fun _ h => h) ?_
  intro p e s m args below meth c A Q ls hx CF hK hA hD hP hS hl hB hAe hsz hret
  have hb := CF.2.1
  have hml := CF.2.2.1
  have hown := CF.2.2.2.1
  have hts := CF.2.2.2.2
  have hD0 := hD
  replace hl : lv_has ls 5 [(0, .ref q_t), (1, .long x1)] := hl
  have hinX7 : ∀ w ∈ wsX70, w ∈ wsX7_seed := fun _ h => List.mem_cons_of_mem _ (List.mem_append_right _ h)
  have w_0 := hts (.fieldLink RX7 241 "PassInStep" "weather" "J") (by decide +kernel)
  rw [f_X7_seed] at hf
  refine lv_aload_n hx hb dX7_seed_0 rfl (lv_at hl 0 rfl) ?_
  refine va_get (D := (dC, dI)) (ci := 7) (v := .long t_weather) (C := RX7) (T := TX7) (N := 12) hx hb hts hinX7 hown hK.1 hP 0 rfl rfl 11 (by decide) w_0 (fun _ h9 => h9) rfl dX7_seed_1 ?_
  refine lv_lstore_n (lv' := [(3, .long t_weather), (0, .ref q_t), (1, .long x1)]) hx hb dX7_seed_4 rfl hl (by decide) rfl (fun ls hl => ?_)
  refine lv_aload_n hx hb dX7_seed_5 rfl (lv_at hl 1 rfl) ?_
  refine lv_lload_n hx hb dX7_seed_6 rfl (lv_at hl 2 rfl) ?_
  refine va_put (D := (dC, dI)) (ci := 7) (v := .long x1) (ty := .long) (C := RX7) (T := TX7) (N := 12) hx hb hts hinX7 tyX7 tyX7_ok nmX7 hown hK.1 hP hD hS 0 rfl rfl 11 (by decide) w_0 (fun _ h9 => h9) rfl (by decide +kernel) rfl rfl (Nat.le_of_ble_eq_true rfl) dX7_seed_7 (fun H locs hP hD hS => ?_)
  replace hP : va_P (dC, dI) vwCl [(q_t, .inr (7, [.ref q_t_text, .ref q_t_told, .ref q_t_now, .ref q_t_acts, .ref q_t_slots, .ref q_t_marks, .ref q_t_foresight, .ref q_t_chances, .int t_firstAct, .int t_actCount, .int t_slotsKept, .long x1]))] H := hP
  replace hD : va_D A [(q_t, .inr (7, [.ref q_t_text, .ref q_t_told, .ref q_t_now, .ref q_t_acts, .ref q_t_slots, .ref q_t_marks, .ref q_t_foresight, .ref q_t_chances, .int t_firstAct, .int t_actCount, .int t_slotsKept, .long x1]))] := hD
  refine lv_lload_n hx hb dX7_seed_10 rfl (lv_at hl 0 rfl) ?_
  obtain ⟨e0, hf⟩ := ij2 hf
  have e1 := hf
  refine W.eq (congrArg (fun z => F0 m 11 ls [.long z]) e0) ?_
  exact hret _ _ _ _ (by rw [← e1]; exact hP) hS dX7_seed_11
abbrev rm_X7_winters : Room := { frames := 5, cells := 0, slots := 0, locals := 117 }
set_option maxHeartbeats 4000000 in
set_option maxRecDepth 100000 in
theorem c_X7_winters (l : Launch) (dC : Nat → ClassId) (dI : Nat → Nat → Nat) (cI cZ : ClassId) (q_t q_t_text q_t_told q_t_now q_t_acts q_t_slots q_t_marks q_t_foresight q_t_chances q_t_foresight_trial q_t_chances_hasOne q_t_chances_hasOther q_t_foresight_trial_line q_t_foresight_trial_strides q_t_foresight_trial_strains q_t_now_line q_t_now_strides q_t_now_strains q_t_told_beats q_t_told_kinds : Nat) (sz : Nat) (t_firstAct : Int32) (t_actCount : Int32) (t_slotsKept : Int32) (t_weather : Int64) (t_foresight_trial_down : Int32) (t_foresight_trial_steps : Int32) (t_now_down : Int32) (t_now_steps : Int32) (t_now_line : Nat → Int32) (t_foresight_trial_line : Nat → Int32) (t_now_strides : Nat → Int32) (t_foresight_trial_strides : Nat → Int32) (t_now_strains : Nat → Int32) (t_foresight_trial_strains : Nat → Int32) (t_told_count : Int32) (t_told_depth : Int32) (t_told_noon : Int32) (t_told_depthBehind : Int32) (t_told_kinds : Nat → Int32) (t_told_beats : Nat → Int32) (x1 : Int32) (r_ : Int32) (o_t_weather : Int64) (o_t_foresight_trial_down : Int32) (o_t_foresight_trial_steps : Int32) (o_t_foresight_trial_line : Nat → Int32) (o_t_foresight_trial_strides : Nat → Int32) (o_t_foresight_trial_strains : Nat → Int32) (hf : f_X7_winters x1 t_weather t_foresight_trial_down t_foresight_trial_steps t_now_down t_now_steps t_now_line t_foresight_trial_line t_now_strides t_foresight_trial_strides t_now_strains t_foresight_trial_strains t_told_count t_told_depth t_told_noon t_told_depthBehind t_told_kinds t_told_beats = some (r_, o_t_weather, o_t_foresight_trial_down, o_t_foresight_trial_steps, o_t_foresight_trial_line, o_t_foresight_trial_strides, o_t_foresight_trial_strains)) : Met l yX7_winters wsX7_winters rm_X7_winters (va_Pc [.ref q_t, .int x1] (PU (dC, dI) cI cZ [(q_t, .inr (7, [.ref q_t_text, .ref q_t_told, .ref q_t_now, .ref q_t_acts, .ref q_t_slots, .ref q_t_marks, .ref q_t_foresight, .ref q_t_chances, .int t_firstAct, .int t_actCount, .int t_slotsKept, .long t_weather])), (q_t_chances, .inr (0, [.ref q_t_told, .ref q_t_now, .ref q_t_foresight_trial, .ref q_t_chances_hasOne, .ref q_t_chances_hasOther])), (q_t_foresight_trial, .inr (6, [.ref q_t_told, .ref q_t_foresight_trial_line, .ref q_t_foresight_trial_strides, .ref q_t_foresight_trial_strains, .int t_foresight_trial_down, .int t_foresight_trial_steps])), (q_t_now, .inr (6, [.ref q_t_told, .ref q_t_now_line, .ref q_t_now_strides, .ref q_t_now_strains, .int t_now_down, .int t_now_steps])), (q_t_now_line, .inl (cI, 5, .inl t_now_line)), (q_t_foresight_trial_line, .inl (cI, 5, .inl t_foresight_trial_line)), (q_t_now_strides, .inl (cI, 5, .inl t_now_strides)), (q_t_foresight_trial_strides, .inl (cI, 5, .inl t_foresight_trial_strides)), (q_t_now_strains, .inl (cI, 5, .inl t_now_strains)), (q_t_foresight_trial_strains, .inl (cI, 5, .inl t_foresight_trial_strains)), (q_t_told, .inr (3, [.ref q_t_told_beats, .ref q_t_told_kinds, .int t_told_count, .int t_told_depth, .int t_told_noon, .int t_told_depthBehind])), (q_t_told_kinds, .inl (cI, 5, .inl t_told_kinds)), (q_t_told_beats, .inl (cI, 5, .inl t_told_beats))] sz)) (va_Qi (fun (r : Int32) (_ : Unit) => r = r_) (fun _ t => va_P (dC, dI) vwCl [(q_t, .inr (7, [.ref q_t_text, .ref q_t_told, .ref q_t_now, .ref q_t_acts, .ref q_t_slots, .ref q_t_marks, .ref q_t_foresight, .ref q_t_chances, .int t_firstAct, .int t_actCount, .int t_slotsKept, .long o_t_weather])), (q_t_chances, .inr (0, [.ref q_t_told, .ref q_t_now, .ref q_t_foresight_trial, .ref q_t_chances_hasOne, .ref q_t_chances_hasOther])), (q_t_foresight_trial, .inr (6, [.ref q_t_told, .ref q_t_foresight_trial_line, .ref q_t_foresight_trial_strides, .ref q_t_foresight_trial_strains, .int o_t_foresight_trial_down, .int o_t_foresight_trial_steps])), (q_t_now, .inr (6, [.ref q_t_told, .ref q_t_now_line, .ref q_t_now_strides, .ref q_t_now_strains, .int t_now_down, .int t_now_steps])), (q_t_now_line, .inl (cI, 5, .inl t_now_line)), (q_t_foresight_trial_line, .inl (cI, 5, .inl o_t_foresight_trial_line)), (q_t_now_strides, .inl (cI, 5, .inl t_now_strides)), (q_t_foresight_trial_strides, .inl (cI, 5, .inl o_t_foresight_trial_strides)), (q_t_now_strains, .inl (cI, 5, .inl t_now_strains)), (q_t_foresight_trial_strains, .inl (cI, 5, .inl o_t_foresight_trial_strains)), (q_t_told, .inr (3, [.ref q_t_told_beats, .ref q_t_told_kinds, .int t_told_count, .int t_told_depth, .int t_told_noon, .int t_told_depthBehind])), (q_t_told_kinds, .inl (cI, 5, .inl t_told_kinds)), (q_t_told_beats, .inl (cI, 5, .inl t_told_beats))] t.heap) (va_A [(q_t, .inr (7, [.ref q_t_text, .ref q_t_told, .ref q_t_now, .ref q_t_acts, .ref q_t_slots, .ref q_t_marks, .ref q_t_foresight, .ref q_t_chances, .int t_firstAct, .int t_actCount, .int t_slotsKept, .long t_weather])), (q_t_chances, .inr (0, [.ref q_t_told, .ref q_t_now, .ref q_t_foresight_trial, .ref q_t_chances_hasOne, .ref q_t_chances_hasOther])), (q_t_foresight_trial, .inr (6, [.ref q_t_told, .ref q_t_foresight_trial_line, .ref q_t_foresight_trial_strides, .ref q_t_foresight_trial_strains, .int t_foresight_trial_down, .int t_foresight_trial_steps])), (q_t_now, .inr (6, [.ref q_t_told, .ref q_t_now_line, .ref q_t_now_strides, .ref q_t_now_strains, .int t_now_down, .int t_now_steps])), (q_t_now_line, .inl (cI, 5, .inl t_now_line)), (q_t_foresight_trial_line, .inl (cI, 5, .inl t_foresight_trial_line)), (q_t_now_strides, .inl (cI, 5, .inl t_now_strides)), (q_t_foresight_trial_strides, .inl (cI, 5, .inl t_foresight_trial_strides)), (q_t_now_strains, .inl (cI, 5, .inl t_now_strains)), (q_t_foresight_trial_strains, .inl (cI, 5, .inl t_foresight_trial_strains)), (q_t_told, .inr (3, [.ref q_t_told_beats, .ref q_t_told_kinds, .int t_told_count, .int t_told_depth, .int t_told_noon, .int t_told_depthBehind])), (q_t_told_kinds, .inl (cI, 5, .inl t_told_kinds)), (q_t_told_beats, .inl (cI, 5, .inl t_told_beats))] sz)) 0 0 (va_A [(q_t, .inr (7, [.ref q_t_text, .ref q_t_told, .ref q_t_now, .ref q_t_acts, .ref q_t_slots, .ref q_t_marks, .ref q_t_foresight, .ref q_t_chances, .int t_firstAct, .int t_actCount, .int t_slotsKept, .long t_weather])), (q_t_chances, .inr (0, [.ref q_t_told, .ref q_t_now, .ref q_t_foresight_trial, .ref q_t_chances_hasOne, .ref q_t_chances_hasOther])), (q_t_foresight_trial, .inr (6, [.ref q_t_told, .ref q_t_foresight_trial_line, .ref q_t_foresight_trial_strides, .ref q_t_foresight_trial_strains, .int t_foresight_trial_down, .int t_foresight_trial_steps])), (q_t_now, .inr (6, [.ref q_t_told, .ref q_t_now_line, .ref q_t_now_strides, .ref q_t_now_strains, .int t_now_down, .int t_now_steps])), (q_t_now_line, .inl (cI, 5, .inl t_now_line)), (q_t_foresight_trial_line, .inl (cI, 5, .inl t_foresight_trial_line)), (q_t_now_strides, .inl (cI, 5, .inl t_now_strides)), (q_t_foresight_trial_strides, .inl (cI, 5, .inl t_foresight_trial_strides)), (q_t_now_strains, .inl (cI, 5, .inl t_now_strains)), (q_t_foresight_trial_strains, .inl (cI, 5, .inl t_foresight_trial_strains)), (q_t_told, .inr (3, [.ref q_t_told_beats, .ref q_t_told_kinds, .int t_told_count, .int t_told_depth, .int t_told_noon, .int t_told_depthBehind])), (q_t_told_kinds, .inl (cI, 5, .inl t_told_kinds)), (q_t_told_beats, .inl (cI, 5, .inl t_told_beats))] sz) := by
  refine MetI (cc := cX7_winters) (maxL := 4) (by decide) rfl (Nat.le_of_ble_eq_true rfl) (fun _ h => h) ?_
  intro p e s m args below meth c A Q ls hx CF hK hA hD hP hS hl hB hAe hsz hret
  have hb := CF.2.1
  have hml := CF.2.2.1
  have hown := CF.2.2.2.1
  have hts := CF.2.2.2.2
  have hD0 := hD
  replace hl : lv_has ls 4 [(0, .ref q_t), (1, .int x1)] := hl
  have hinX7 : ∀ w ∈ wsX70, w ∈ wsX7_winters := fun _ h => List.mem_cons_of_mem _ (List.mem_append_left _ (List.mem_append_left _ (List.mem_append_left _ (List.mem_append_right _ h))))
  have hinX0 : ∀ w ∈ wsX00, w ∈ wsX7_winters := fun _ h => List.mem_cons_of_mem _ (List.mem_append_left _ (List.mem_append_left _ (List.mem_append_right _ h)))
  have hinX6 : ∀ w ∈ wsX60, w ∈ wsX7_winters := fun _ h => List.mem_cons_of_mem _ (List.mem_append_left _ (List.mem_append_right _ h))
  have hinX3 : ∀ w ∈ wsX30, w ∈ wsX7_winters := fun _ h => List.mem_cons_of_mem _ (List.mem_append_right _ h)
  have w_0 := hts (.fieldLink RX7 241 "PassInStep" "weather" "J") (by decide +kernel)
  have w_1 := hts (.constantLong RX7 248 (6364136223846793005)) (by decide +kernel)
  have w_2 := hts (.constantLong RX7 250 (1442695040888963407)) (by decide +kernel)
  have w_3 := hts (.fieldLink RX7 63 "PassInStep" "chances" "LPassInStep$Chances;") (by decide +kernel)
  have w_4 := hts (.constantLong RX7 252 (20)) (by decide +kernel)
  have h_25 : ∀ (x1 : Int32) (fu25 : Nat) (x2 : Int32) (x3 : Int32) (t_weather : Int64) (t_foresight_trial_down : Int32) (t_foresight_trial_steps : Int32) (t_foresight_trial_line : Nat → Int32) (t_foresight_trial_strides : Nat → Int32) (t_foresight_trial_strains : Nat → Int32) (H : Heap) (locs : List Loc) (ls : Array Slot), va_P (dC, dI) vwCl [(q_t, .inr (7, [.ref q_t_text, .ref q_t_told, .ref q_t_now, .ref q_t_acts, .ref q_t_slots, .ref q_t_marks, .ref q_t_foresight, .ref q_t_chances, .int t_firstAct, .int t_actCount, .int t_slotsKept, .long t_weather])), (q_t_chances, .inr (0, [.ref q_t_told, .ref q_t_now, .ref q_t_foresight_trial, .ref q_t_chances_hasOne, .ref q_t_chances_hasOther])), (q_t_foresight_trial, .inr (6, [.ref q_t_told, .ref q_t_foresight_trial_line, .ref q_t_foresight_trial_strides, .ref q_t_foresight_trial_strains, .int t_foresight_trial_down, .int t_foresight_trial_steps])), (q_t_now, .inr (6, [.ref q_t_told, .ref q_t_now_line, .ref q_t_now_strides, .ref q_t_now_strains, .int t_now_down, .int t_now_steps])), (q_t_now_line, .inl (cI, 5, .inl t_now_line)), (q_t_foresight_trial_line, .inl (cI, 5, .inl t_foresight_trial_line)), (q_t_now_strides, .inl (cI, 5, .inl t_now_strides)), (q_t_foresight_trial_strides, .inl (cI, 5, .inl t_foresight_trial_strides)), (q_t_now_strains, .inl (cI, 5, .inl t_now_strains)), (q_t_foresight_trial_strains, .inl (cI, 5, .inl t_foresight_trial_strains)), (q_t_told, .inr (3, [.ref q_t_told_beats, .ref q_t_told_kinds, .int t_told_count, .int t_told_depth, .int t_told_noon, .int t_told_depthBehind])), (q_t_told_kinds, .inl (cI, 5, .inl t_told_kinds)), (q_t_told_beats, .inl (cI, 5, .inl t_told_beats))] H → va_S A s.heap H locs → lv_has ls 4 [(0, .ref q_t), (1, .int x1), (2, .int x2), (3, .int x3)] → L_X7_winters_25 x1 t_told_count t_told_depth t_told_noon t_told_depthBehind t_told_kinds t_told_beats fu25 x2 x3 t_weather t_foresight_trial_down t_foresight_trial_steps t_foresight_trial_line t_foresight_trial_strides t_foresight_trial_strains = some (r_, o_t_weather, o_t_foresight_trial_down, o_t_foresight_trial_steps, o_t_foresight_trial_line, o_t_foresight_trial_strides, o_t_foresight_trial_strains) → W p l e rm_X7_winters s m args below meth c H locs 0 0 Q (F0 m 25 ls []) := by
    intro x1 fu25
    induction fu25 with
    | zero =>
      intro x2 x3 t_weather t_foresight_trial_down t_foresight_trial_steps t_foresight_trial_line t_foresight_trial_strides t_foresight_trial_strains H locs ls hP hS hl hf
      rw [L_X7_winters_25] at hf
      cases hf
    | succ fu25 ih25 =>
      intro x2 x3 t_weather t_foresight_trial_down t_foresight_trial_steps t_foresight_trial_line t_foresight_trial_strides t_foresight_trial_strains H locs ls hP hS hl hf
      have hD : va_D A [(q_t, .inr (7, [.ref q_t_text, .ref q_t_told, .ref q_t_now, .ref q_t_acts, .ref q_t_slots, .ref q_t_marks, .ref q_t_foresight, .ref q_t_chances, .int t_firstAct, .int t_actCount, .int t_slotsKept, .long t_weather])), (q_t_chances, .inr (0, [.ref q_t_told, .ref q_t_now, .ref q_t_foresight_trial, .ref q_t_chances_hasOne, .ref q_t_chances_hasOther])), (q_t_foresight_trial, .inr (6, [.ref q_t_told, .ref q_t_foresight_trial_line, .ref q_t_foresight_trial_strides, .ref q_t_foresight_trial_strains, .int t_foresight_trial_down, .int t_foresight_trial_steps])), (q_t_now, .inr (6, [.ref q_t_told, .ref q_t_now_line, .ref q_t_now_strides, .ref q_t_now_strains, .int t_now_down, .int t_now_steps])), (q_t_now_line, .inl (cI, 5, .inl t_now_line)), (q_t_foresight_trial_line, .inl (cI, 5, .inl t_foresight_trial_line)), (q_t_now_strides, .inl (cI, 5, .inl t_now_strides)), (q_t_foresight_trial_strides, .inl (cI, 5, .inl t_foresight_trial_strides)), (q_t_now_strains, .inl (cI, 5, .inl t_now_strains)), (q_t_foresight_trial_strains, .inl (cI, 5, .inl t_foresight_trial_strains)), (q_t_told, .inr (3, [.ref q_t_told_beats, .ref q_t_told_kinds, .int t_told_count, .int t_told_depth, .int t_told_noon, .int t_told_depthBehind])), (q_t_told_kinds, .inl (cI, 5, .inl t_told_kinds)), (q_t_told_beats, .inl (cI, 5, .inl t_told_beats))] := wd hD0 rfl
      rw [L_X7_winters_25] at hf
      refine lv_iload_n hx hb dX7_winters_25 rfl (lv_at hl 3 rfl) ?_
      refine lv_iload_n hx hb dX7_winters_26 rfl (lv_at hl 1 rfl) ?_
      refine lv_icmp_ge (tgt := 74) hx hb dX7_winters_27 (by decide) (fun hc => ?_) (fun hc => ?_)
      · replace hf := ip hc hf
        refine lv_iload_n hx hb dX7_winters_74 rfl (lv_at hl 2 rfl) ?_
        obtain ⟨e0, hf⟩ := ij2 hf
        obtain ⟨e1, hf⟩ := ijc hf
        obtain ⟨e2, hf⟩ := ijc hf
        obtain ⟨e3, hf⟩ := ijc hf
        obtain ⟨e4, hf⟩ := ijc hf
        obtain ⟨e5, hf⟩ := ijc hf
        have e6 := hf
        refine W.eq (congrArg (fun z => F0 m 75 ls [.int z]) e0) ?_
        exact hret _ _ _ _ (by rw [← e1, ← e2, ← e3, ← e4, ← e5, ← e6]; exact hP) hS dX7_winters_75
      · replace hf := iq hc hf
        refine lv_aload_n hx hb dX7_winters_30 rfl (lv_at hl 0 rfl) ?_
        refine lv_aload_n hx hb dX7_winters_31 rfl (lv_at hl 0 rfl) ?_
        refine va_get (D := (dC, dI)) (ci := 7) (v := .long t_weather) (C := RX7) (T := TX7) (N := 12) hx hb hts hinX7 hown hK.1 hP 0 rfl rfl 11 (by decide) w_0 (fun _ h9 => h9) rfl dX7_winters_32 ?_
        refine lv_ldc2 (v := 6364136223846793005) hx hb hown w_1 dX7_winters_35 ?_
        refine lv_lmul hx hb dX7_winters_38 ?_
        refine lv_ldc2 (v := 1442695040888963407) hx hb hown w_2 dX7_winters_39 ?_
        refine lv_ladd hx hb dX7_winters_42 ?_
        refine va_put (D := (dC, dI)) (ci := 7) (v := .long ((t_weather * (6364136223846793005 : Int64)) + (1442695040888963407 : Int64))) (ty := .long) (C := RX7) (T := TX7) (N := 12) hx hb hts hinX7 tyX7 tyX7_ok nmX7 hown hK.1 hP hD hS 0 rfl rfl 11 (by decide) w_0 (fun _ h9 => h9) rfl (by decide +kernel) rfl rfl (Nat.le_of_ble_eq_true rfl) dX7_winters_43 (fun H locs hP hD hS => ?_)
        replace hP : va_P (dC, dI) vwCl [(q_t, .inr (7, [.ref q_t_text, .ref q_t_told, .ref q_t_now, .ref q_t_acts, .ref q_t_slots, .ref q_t_marks, .ref q_t_foresight, .ref q_t_chances, .int t_firstAct, .int t_actCount, .int t_slotsKept, .long ((t_weather * (6364136223846793005 : Int64)) + (1442695040888963407 : Int64))])), (q_t_chances, .inr (0, [.ref q_t_told, .ref q_t_now, .ref q_t_foresight_trial, .ref q_t_chances_hasOne, .ref q_t_chances_hasOther])), (q_t_foresight_trial, .inr (6, [.ref q_t_told, .ref q_t_foresight_trial_line, .ref q_t_foresight_trial_strides, .ref q_t_foresight_trial_strains, .int t_foresight_trial_down, .int t_foresight_trial_steps])), (q_t_now, .inr (6, [.ref q_t_told, .ref q_t_now_line, .ref q_t_now_strides, .ref q_t_now_strains, .int t_now_down, .int t_now_steps])), (q_t_now_line, .inl (cI, 5, .inl t_now_line)), (q_t_foresight_trial_line, .inl (cI, 5, .inl t_foresight_trial_line)), (q_t_now_strides, .inl (cI, 5, .inl t_now_strides)), (q_t_foresight_trial_strides, .inl (cI, 5, .inl t_foresight_trial_strides)), (q_t_now_strains, .inl (cI, 5, .inl t_now_strains)), (q_t_foresight_trial_strains, .inl (cI, 5, .inl t_foresight_trial_strains)), (q_t_told, .inr (3, [.ref q_t_told_beats, .ref q_t_told_kinds, .int t_told_count, .int t_told_depth, .int t_told_noon, .int t_told_depthBehind])), (q_t_told_kinds, .inl (cI, 5, .inl t_told_kinds)), (q_t_told_beats, .inl (cI, 5, .inl t_told_beats))] H := hP
        replace hD : va_D A [(q_t, .inr (7, [.ref q_t_text, .ref q_t_told, .ref q_t_now, .ref q_t_acts, .ref q_t_slots, .ref q_t_marks, .ref q_t_foresight, .ref q_t_chances, .int t_firstAct, .int t_actCount, .int t_slotsKept, .long ((t_weather * (6364136223846793005 : Int64)) + (1442695040888963407 : Int64))])), (q_t_chances, .inr (0, [.ref q_t_told, .ref q_t_now, .ref q_t_foresight_trial, .ref q_t_chances_hasOne, .ref q_t_chances_hasOther])), (q_t_foresight_trial, .inr (6, [.ref q_t_told, .ref q_t_foresight_trial_line, .ref q_t_foresight_trial_strides, .ref q_t_foresight_trial_strains, .int t_foresight_trial_down, .int t_foresight_trial_steps])), (q_t_now, .inr (6, [.ref q_t_told, .ref q_t_now_line, .ref q_t_now_strides, .ref q_t_now_strains, .int t_now_down, .int t_now_steps])), (q_t_now_line, .inl (cI, 5, .inl t_now_line)), (q_t_foresight_trial_line, .inl (cI, 5, .inl t_foresight_trial_line)), (q_t_now_strides, .inl (cI, 5, .inl t_now_strides)), (q_t_foresight_trial_strides, .inl (cI, 5, .inl t_foresight_trial_strides)), (q_t_now_strains, .inl (cI, 5, .inl t_now_strains)), (q_t_foresight_trial_strains, .inl (cI, 5, .inl t_foresight_trial_strains)), (q_t_told, .inr (3, [.ref q_t_told_beats, .ref q_t_told_kinds, .int t_told_count, .int t_told_depth, .int t_told_noon, .int t_told_depthBehind])), (q_t_told_kinds, .inl (cI, 5, .inl t_told_kinds)), (q_t_told_beats, .inl (cI, 5, .inl t_told_beats))] := hD
        refine lv_iload_n hx hb dX7_winters_46 rfl (lv_at hl 2 rfl) ?_
        refine lv_aload_n hx hb dX7_winters_47 rfl (lv_at hl 0 rfl) ?_
        refine va_get (D := (dC, dI)) (ci := 7) (v := .ref q_t_chances) (C := RX7) (T := TX7) (N := 12) hx hb hts hinX7 hown hK.1 hP 0 rfl rfl 7 (by decide) w_3 (fun _ h9 => h9) rfl dX7_winters_48 ?_
        refine lv_aload_n hx hb dX7_winters_51 rfl (lv_at hl 0 rfl) ?_
        refine va_get (D := (dC, dI)) (ci := 7) (v := .long ((t_weather * (6364136223846793005 : Int64)) + (1442695040888963407 : Int64))) (C := RX7) (T := TX7) (N := 12) hx hb hts hinX7 hown hK.1 hP 0 rfl rfl 11 (by decide) w_0 (fun _ h9 => h9) rfl dX7_winters_52 ?_
        refine lv_bipush (v := 33) hx hb dX7_winters_55 (by decide) ?_
        refine lv_lushr hx hb dX7_winters_57 rfl ?_
        refine lv_ldc2 (v := 20) hx hb hown w_4 dX7_winters_58 ?_
        refine lv_lrem hx hb dX7_winters_61 (by decide) ?_
        refine lv_l2i hx hb dX7_winters_62 rfl ?_
        obtain ⟨⟨r1, o2, o3, o4, o5, o6⟩, e8, hf⟩ := bd_ok hf
        refine kVi (As := [.int (((((((t_weather * (6364136223846793005 : Int64)) + (1442695040888963407 : Int64))).toUInt64 >>> ((33 : Int32).toInt64.toUInt64 &&& Int64.toUInt64 63)).toInt64 - ((((t_weather * (6364136223846793005 : Int64)) + (1442695040888963407 : Int64))).toUInt64 >>> ((33 : Int32).toInt64.toUInt64 &&& Int64.toUInt64 63)).toInt64 / (20 : Int64) * (20 : Int64))).toInt32)]) CF (cwV 1 hts gX7_winters_X0_winter rfl rfl rfl (by decide +kernel) ⟨Nat.le_of_ble_eq_true rfl, Nat.le_of_ble_eq_true rfl⟩) PU_blind hP hD hS hA (va_recv hK.1 hP (ci := 0) (q0 := 1) rfl rfl) [1, 2, 10, 9, 7, 5, 11, 12] (fun h1 h2 h3 => PU_pre hK h1 A h2 h3) (c_X0_winter l dC dI cI cZ q_t_chances q_t_told q_t_now q_t_foresight_trial q_t_chances_hasOne q_t_chances_hasOther q_t_foresight_trial_line q_t_foresight_trial_strides q_t_foresight_trial_strains q_t_told_beats q_t_told_kinds _ t_foresight_trial_down t_foresight_trial_steps t_told_count t_told_depth t_told_noon t_told_depthBehind t_foresight_trial_strains t_foresight_trial_strides t_foresight_trial_line t_told_kinds t_told_beats (((((((t_weather * (6364136223846793005 : Int64)) + (1442695040888963407 : Int64))).toUInt64 >>> ((33 : Int32).toInt64.toUInt64 &&& Int64.toUInt64 63)).toInt64 - ((((t_weather * (6364136223846793005 : Int64)) + (1442695040888963407 : Int64))).toUInt64 >>> ((33 : Int32).toInt64.toUInt64 &&& Int64.toUInt64 63)).toInt64 / (20 : Int64) * (20 : Int64))).toInt32) r1 o2 o3 o4 o5 o6 e8) rfl rfl rfl rfl hl.1 rfl (Nat.le_of_ble_eq_true rfl) dX7_winters_63 ⟨Nat.zero_le _, Nat.zero_le _⟩ (fun H locs hP hS => ?_)
        replace hP : va_P (dC, dI) vwCl [(q_t, .inr (7, [.ref q_t_text, .ref q_t_told, .ref q_t_now, .ref q_t_acts, .ref q_t_slots, .ref q_t_marks, .ref q_t_foresight, .ref q_t_chances, .int t_firstAct, .int t_actCount, .int t_slotsKept, .long ((t_weather * (6364136223846793005 : Int64)) + (1442695040888963407 : Int64))])), (q_t_chances, .inr (0, [.ref q_t_told, .ref q_t_now, .ref q_t_foresight_trial, .ref q_t_chances_hasOne, .ref q_t_chances_hasOther])), (q_t_foresight_trial, .inr (6, [.ref q_t_told, .ref q_t_foresight_trial_line, .ref q_t_foresight_trial_strides, .ref q_t_foresight_trial_strains, .int o2, .int o3])), (q_t_now, .inr (6, [.ref q_t_told, .ref q_t_now_line, .ref q_t_now_strides, .ref q_t_now_strains, .int t_now_down, .int t_now_steps])), (q_t_now_line, .inl (cI, 5, .inl t_now_line)), (q_t_foresight_trial_line, .inl (cI, 5, .inl o6)), (q_t_now_strides, .inl (cI, 5, .inl t_now_strides)), (q_t_foresight_trial_strides, .inl (cI, 5, .inl o5)), (q_t_now_strains, .inl (cI, 5, .inl t_now_strains)), (q_t_foresight_trial_strains, .inl (cI, 5, .inl o4)), (q_t_told, .inr (3, [.ref q_t_told_beats, .ref q_t_told_kinds, .int t_told_count, .int t_told_depth, .int t_told_noon, .int t_told_depthBehind])), (q_t_told_kinds, .inl (cI, 5, .inl t_told_kinds)), (q_t_told_beats, .inl (cI, 5, .inl t_told_beats))] H := hP
        replace hD : va_D A [(q_t, .inr (7, [.ref q_t_text, .ref q_t_told, .ref q_t_now, .ref q_t_acts, .ref q_t_slots, .ref q_t_marks, .ref q_t_foresight, .ref q_t_chances, .int t_firstAct, .int t_actCount, .int t_slotsKept, .long ((t_weather * (6364136223846793005 : Int64)) + (1442695040888963407 : Int64))])), (q_t_chances, .inr (0, [.ref q_t_told, .ref q_t_now, .ref q_t_foresight_trial, .ref q_t_chances_hasOne, .ref q_t_chances_hasOther])), (q_t_foresight_trial, .inr (6, [.ref q_t_told, .ref q_t_foresight_trial_line, .ref q_t_foresight_trial_strides, .ref q_t_foresight_trial_strains, .int o2, .int o3])), (q_t_now, .inr (6, [.ref q_t_told, .ref q_t_now_line, .ref q_t_now_strides, .ref q_t_now_strains, .int t_now_down, .int t_now_steps])), (q_t_now_line, .inl (cI, 5, .inl t_now_line)), (q_t_foresight_trial_line, .inl (cI, 5, .inl o6)), (q_t_now_strides, .inl (cI, 5, .inl t_now_strides)), (q_t_foresight_trial_strides, .inl (cI, 5, .inl o5)), (q_t_now_strains, .inl (cI, 5, .inl t_now_strains)), (q_t_foresight_trial_strains, .inl (cI, 5, .inl o4)), (q_t_told, .inr (3, [.ref q_t_told_beats, .ref q_t_told_kinds, .int t_told_count, .int t_told_depth, .int t_told_noon, .int t_told_depthBehind])), (q_t_told_kinds, .inl (cI, 5, .inl t_told_kinds)), (q_t_told_beats, .inl (cI, 5, .inl t_told_beats))] := wd hD rfl
        refine lv_iadd hx hb dX7_winters_66 ?_
        refine lv_istore_n (lv' := [(2, .int (x2 + r1)), (0, .ref q_t), (1, .int x1), (3, .int x3)]) hx hb dX7_winters_67 rfl hl (by decide) rfl (fun ls hl => ?_)
        refine lv_iinc (v := (x3 + 1)) (lv' := [(3, .int (x3 + 1)), (2, .int (x2 + r1)), (0, .ref q_t), (1, .int x1)]) hx hb dX7_winters_68 hl (k := 3) rfl rfl (by decide) rfl (fun ls hl => ?_)
        refine lv_goto (tgt := 25) hx hb dX7_winters_71 (by decide) ?_
        exact ih25 (x2 + r1) (x3 + 1) ((t_weather * (6364136223846793005 : Int64)) + (1442695040888963407 : Int64)) o2 o3 o6 o5 o4 _ _ _ hP hS (lv_sub hl [2, 3, 1, 0] rfl) hf
  rw [f_X7_winters] at hf
  refine lv_iload_n hx hb dX7_winters_0 rfl (lv_at hl 1 rfl) ?_
  refine lv_iconst (v := 1) hx hb dX7_winters_1 (by decide) ?_
  refine lv_icmp_lt (tgt := 11) hx hb dX7_winters_2 (by decide) (fun hc => ?_) (fun hc => ?_)
  · replace hf := ip hc hf
    refine lv_bipush (v := (-2)) hx hb dX7_winters_11 (by decide) ?_
    obtain ⟨e0, hf⟩ := ij2 hf
    obtain ⟨e1, hf⟩ := ijc hf
    obtain ⟨e2, hf⟩ := ijc hf
    obtain ⟨e3, hf⟩ := ijc hf
    obtain ⟨e4, hf⟩ := ijc hf
    obtain ⟨e5, hf⟩ := ijc hf
    have e6 := hf
    refine W.eq (congrArg (fun z => F0 m 13 ls [.int z]) e0) ?_
    exact hret _ _ _ _ (by rw [← e1, ← e2, ← e3, ← e4, ← e5, ← e6]; exact hP) hS dX7_winters_13
  · replace hf := iq hc hf
    refine lv_iload_n hx hb dX7_winters_5 rfl (lv_at hl 1 rfl) ?_
    refine lv_bipush (v := 30) hx hb dX7_winters_6 (by decide) ?_
    refine lv_icmp_le (tgt := 14) hx hb dX7_winters_8 (by decide) (fun hc => ?_) (fun hc => ?_)
    · replace hf := ip hc hf
      refine lv_iconst (v := 0) hx hb dX7_winters_14 (by decide) ?_
      refine lv_istore_n (lv' := [(2, .int 0), (0, .ref q_t), (1, .int x1)]) hx hb dX7_winters_15 rfl hl (by decide) rfl (fun ls hl => ?_)
      refine lv_aload_n hx hb dX7_winters_16 rfl (lv_at hl 1 rfl) ?_
      refine va_get (D := (dC, dI)) (ci := 7) (v := .ref q_t_chances) (C := RX7) (T := TX7) (N := 12) hx hb hts hinX7 hown hK.1 hP 0 rfl rfl 7 (by decide) w_3 (fun _ h9 => h9) rfl dX7_winters_17 ?_
      obtain ⟨⟨o9, o10, o11, o12, o13⟩, e15, hf⟩ := bd_ok hf
      refine kVv (As := []) CF (cwV 0 hts gX7_winters_X0_beginWinters rfl rfl rfl (by decide +kernel) ⟨Nat.le_of_ble_eq_true rfl, Nat.le_of_ble_eq_true rfl⟩) PU_blind hP hD hS hA (va_recv hK.1 hP (ci := 0) (q0 := 1) rfl rfl) [1, 2, 3, 4, 5, 6, 7, 8, 9] (fun h1 h2 h3 => PU_pre hK h1 A h2 h3) (c_X0_beginWinters l dC dI cI cZ q_t_chances q_t_told q_t_now q_t_foresight_trial q_t_chances_hasOne q_t_chances_hasOther q_t_foresight_trial_line q_t_foresight_trial_strides q_t_foresight_trial_strains q_t_now_line q_t_now_strides q_t_now_strains _ t_foresight_trial_down t_foresight_trial_steps t_now_down t_now_steps t_now_line t_foresight_trial_line t_now_strides t_foresight_trial_strides t_now_strains t_foresight_trial_strains o9 o10 o11 o12 o13 e15) rfl rfl rfl rfl hl.1 rfl (Nat.le_of_ble_eq_true rfl) dX7_winters_20 ⟨Nat.zero_le _, Nat.zero_le _⟩ (fun H locs hP hS => ?_)
      replace hP : va_P (dC, dI) vwCl [(q_t, .inr (7, [.ref q_t_text, .ref q_t_told, .ref q_t_now, .ref q_t_acts, .ref q_t_slots, .ref q_t_marks, .ref q_t_foresight, .ref q_t_chances, .int t_firstAct, .int t_actCount, .int t_slotsKept, .long t_weather])), (q_t_chances, .inr (0, [.ref q_t_told, .ref q_t_now, .ref q_t_foresight_trial, .ref q_t_chances_hasOne, .ref q_t_chances_hasOther])), (q_t_foresight_trial, .inr (6, [.ref q_t_told, .ref q_t_foresight_trial_line, .ref q_t_foresight_trial_strides, .ref q_t_foresight_trial_strains, .int o9, .int o10])), (q_t_now, .inr (6, [.ref q_t_told, .ref q_t_now_line, .ref q_t_now_strides, .ref q_t_now_strains, .int t_now_down, .int t_now_steps])), (q_t_now_line, .inl (cI, 5, .inl t_now_line)), (q_t_foresight_trial_line, .inl (cI, 5, .inl o11)), (q_t_now_strides, .inl (cI, 5, .inl t_now_strides)), (q_t_foresight_trial_strides, .inl (cI, 5, .inl o12)), (q_t_now_strains, .inl (cI, 5, .inl t_now_strains)), (q_t_foresight_trial_strains, .inl (cI, 5, .inl o13)), (q_t_told, .inr (3, [.ref q_t_told_beats, .ref q_t_told_kinds, .int t_told_count, .int t_told_depth, .int t_told_noon, .int t_told_depthBehind])), (q_t_told_kinds, .inl (cI, 5, .inl t_told_kinds)), (q_t_told_beats, .inl (cI, 5, .inl t_told_beats))] H := hP
      replace hD : va_D A [(q_t, .inr (7, [.ref q_t_text, .ref q_t_told, .ref q_t_now, .ref q_t_acts, .ref q_t_slots, .ref q_t_marks, .ref q_t_foresight, .ref q_t_chances, .int t_firstAct, .int t_actCount, .int t_slotsKept, .long t_weather])), (q_t_chances, .inr (0, [.ref q_t_told, .ref q_t_now, .ref q_t_foresight_trial, .ref q_t_chances_hasOne, .ref q_t_chances_hasOther])), (q_t_foresight_trial, .inr (6, [.ref q_t_told, .ref q_t_foresight_trial_line, .ref q_t_foresight_trial_strides, .ref q_t_foresight_trial_strains, .int o9, .int o10])), (q_t_now, .inr (6, [.ref q_t_told, .ref q_t_now_line, .ref q_t_now_strides, .ref q_t_now_strains, .int t_now_down, .int t_now_steps])), (q_t_now_line, .inl (cI, 5, .inl t_now_line)), (q_t_foresight_trial_line, .inl (cI, 5, .inl o11)), (q_t_now_strides, .inl (cI, 5, .inl t_now_strides)), (q_t_foresight_trial_strides, .inl (cI, 5, .inl o12)), (q_t_now_strains, .inl (cI, 5, .inl t_now_strains)), (q_t_foresight_trial_strains, .inl (cI, 5, .inl o13)), (q_t_told, .inr (3, [.ref q_t_told_beats, .ref q_t_told_kinds, .int t_told_count, .int t_told_depth, .int t_told_noon, .int t_told_depthBehind])), (q_t_told_kinds, .inl (cI, 5, .inl t_told_kinds)), (q_t_told_beats, .inl (cI, 5, .inl t_told_beats))] := wd hD rfl
      refine lv_iconst (v := 0) hx hb dX7_winters_23 (by decide) ?_
      refine lv_istore_n (lv' := [(3, .int 0), (2, .int 0), (0, .ref q_t), (1, .int x1)]) hx hb dX7_winters_24 rfl hl (by decide) rfl (fun ls hl => ?_)
      exact h_25 x1 fuelC 0 0 t_weather o9 o10 o11 o12 o13 _ _ _ hP hS (lv_sub hl [2, 3, 1, 0] rfl) hf
    · replace hf := iq hc hf
      refine lv_bipush (v := (-2)) hx hb dX7_winters_11 (by decide) ?_
      obtain ⟨e0, hf⟩ := ij2 hf
      obtain ⟨e1, hf⟩ := ijc hf
      obtain ⟨e2, hf⟩ := ijc hf
      obtain ⟨e3, hf⟩ := ijc hf
      obtain ⟨e4, hf⟩ := ijc hf
      obtain ⟨e5, hf⟩ := ijc hf
      have e6 := hf
      refine W.eq (congrArg (fun z => F0 m 13 ls [.int z]) e0) ?_
      exact hret _ _ _ _ (by rw [← e1, ← e2, ← e3, ← e4, ← e5, ← e6]; exact hP) hS dX7_winters_13
abbrev rm_X7_isSlot : Room := { frames := 0, cells := 0, slots := 0, locals := 0 }
set_option maxHeartbeats 4000000 in
set_option maxRecDepth 100000 in
theorem c_X7_isSlot (l : Launch) (dC : Nat → ClassId) (dI : Nat → Nat → Nat) (cI cZ : ClassId) (sz : Nat) (x0 : Int32) (r_ : Int32) (hf : f_X7_isSlot x0 = some r_) : Met l yX7_isSlot wsX7_isSlot rm_X7_isSlot (va_Pc [.int x0] (PU (dC, dI) cI cZ [] sz)) (va_Qi (fun (r : Int32) (_ : Unit) => r = r_) (fun _ t => va_P (dC, dI) vwCl [] t.heap) (va_A [] sz)) 0 0 (va_A [] sz) := by
  refine MetZ (cc := cX7_isSlot) (maxL := 1) (by decide) rfl (Nat.le_of_ble_eq_true rfl) (fun _ h => h) ?_
  intro p e s m args below meth c A Q ls hx CF hK hA hD hP hS hl hB hAe hsz hret
  have hb := CF.2.1
  have hml := CF.2.2.1
  have hown := CF.2.2.2.1
  have hts := CF.2.2.2.2
  have hD0 := hD
  replace hl : lv_has ls 1 [(0, .int x0)] := hl
  have h_13 : ∀ (H : Heap) (locs : List Loc) (ls : Array Slot), va_P (dC, dI) vwCl [] H → va_S A s.heap H locs → lv_has ls 1 [] → J_X7_isSlot_13 = some r_ → W p l e rm_X7_isSlot s m args below meth c H locs 0 0 Q (F0 m 13 ls []) := by
    intro  H locs ls hP hS hl hf
    have hD : va_D A [] := wd hD0 rfl
    rw [J_X7_isSlot_13] at hf
    refine lv_iconst (v := 0) hx hb dX7_isSlot_13 (by decide) ?_
    have e0 := ij1 hf
    refine W.eq (congrArg (fun z => F0 m 14 ls [.int z]) e0) ?_
    exact hret _ _ _ _ hP hS (by rw [← e0]; rfl) dX7_isSlot_14
  rw [f_X7_isSlot] at hf
  refine lv_iload_n hx hb dX7_isSlot_0 rfl (lv_at hl 0 rfl) ?_
  refine lv_if_lt (tgt := 13) hx hb dX7_isSlot_1 (by decide) (fun hc => ?_) (fun hc => ?_)
  · replace hf := ip hc hf
    exact h_13 _ _ _ hP hS (lv_sub hl [] rfl) hf
  · replace hf := iq hc hf
    refine lv_iload_n hx hb dX7_isSlot_4 rfl (lv_at hl 0 rfl) ?_
    refine lv_iconst (v := 2) hx hb dX7_isSlot_5 (by decide) ?_
    refine lv_icmp_ge (tgt := 13) hx hb dX7_isSlot_6 (by decide) (fun hc => ?_) (fun hc => ?_)
    · replace hf := ip hc hf
      exact h_13 _ _ _ hP hS (lv_sub hl [] rfl) hf
    · replace hf := iq hc hf
      refine lv_iconst (v := 1) hx hb dX7_isSlot_9 (by decide) ?_
      refine lv_goto (tgt := 14) hx hb dX7_isSlot_10 (by decide) ?_
      have e0 := ij1 hf
      refine W.eq (congrArg (fun z => F0 m 14 ls [.int z]) e0) ?_
      exact hret _ _ _ _ hP hS (by rw [← e0]; rfl) dX7_isSlot_14
abbrev rm_X7_keep : Room := { frames := 3, cells := 0, slots := 0, locals := 67 }
set_option maxHeartbeats 4000000 in
set_option maxRecDepth 100000 in
theorem c_X7_keep (l : Launch) (dC : Nat → ClassId) (dI : Nat → Nat → Nat) (cI cZ : ClassId) (q_t q_t_text q_t_told q_t_now q_t_acts q_t_slots q_t_marks q_t_foresight q_t_chances q_t_slots_cells q_t_now_line q_t_now_strides q_t_now_strains : Nat) (sz : Nat) (t_firstAct : Int32) (t_actCount : Int32) (t_slotsKept : Int32) (t_weather : Int64) (t_now_down : Int32) (t_now_steps : Int32) (t_now_line : Nat → Int32) (t_slots_cells : Nat → Int32) (t_now_strides : Nat → Int32) (t_now_strains : Nat → Int32) (x1 : Int32) (r_ : Int32) (o_t_slotsKept : Int32) (o_t_slots_cells : Nat → Int32) (hf : f_X7_keep x1 t_slotsKept t_now_down t_now_steps t_now_line t_slots_cells t_now_strides t_now_strains = some (r_, o_t_slotsKept, o_t_slots_cells)) : Met l yX7_keep wsX7_keep rm_X7_keep (va_Pc [.ref q_t, .int x1] (PU (dC, dI) cI cZ [(q_t, .inr (7, [.ref q_t_text, .ref q_t_told, .ref q_t_now, .ref q_t_acts, .ref q_t_slots, .ref q_t_marks, .ref q_t_foresight, .ref q_t_chances, .int t_firstAct, .int t_actCount, .int t_slotsKept, .long t_weather])), (q_t_slots, .inr (4, [.ref q_t_slots_cells])), (q_t_now, .inr (6, [.ref q_t_told, .ref q_t_now_line, .ref q_t_now_strides, .ref q_t_now_strains, .int t_now_down, .int t_now_steps])), (q_t_now_line, .inl (cI, 5, .inl t_now_line)), (q_t_slots_cells, .inl (cI, 34, .inl t_slots_cells)), (q_t_now_strides, .inl (cI, 5, .inl t_now_strides)), (q_t_now_strains, .inl (cI, 5, .inl t_now_strains))] sz)) (va_Qi (fun (r : Int32) (_ : Unit) => r = r_) (fun _ t => va_P (dC, dI) vwCl [(q_t, .inr (7, [.ref q_t_text, .ref q_t_told, .ref q_t_now, .ref q_t_acts, .ref q_t_slots, .ref q_t_marks, .ref q_t_foresight, .ref q_t_chances, .int t_firstAct, .int t_actCount, .int o_t_slotsKept, .long t_weather])), (q_t_slots, .inr (4, [.ref q_t_slots_cells])), (q_t_now, .inr (6, [.ref q_t_told, .ref q_t_now_line, .ref q_t_now_strides, .ref q_t_now_strains, .int t_now_down, .int t_now_steps])), (q_t_now_line, .inl (cI, 5, .inl t_now_line)), (q_t_slots_cells, .inl (cI, 34, .inl o_t_slots_cells)), (q_t_now_strides, .inl (cI, 5, .inl t_now_strides)), (q_t_now_strains, .inl (cI, 5, .inl t_now_strains))] t.heap) (va_A [(q_t, .inr (7, [.ref q_t_text, .ref q_t_told, .ref q_t_now, .ref q_t_acts, .ref q_t_slots, .ref q_t_marks, .ref q_t_foresight, .ref q_t_chances, .int t_firstAct, .int t_actCount, .int t_slotsKept, .long t_weather])), (q_t_slots, .inr (4, [.ref q_t_slots_cells])), (q_t_now, .inr (6, [.ref q_t_told, .ref q_t_now_line, .ref q_t_now_strides, .ref q_t_now_strains, .int t_now_down, .int t_now_steps])), (q_t_now_line, .inl (cI, 5, .inl t_now_line)), (q_t_slots_cells, .inl (cI, 34, .inl t_slots_cells)), (q_t_now_strides, .inl (cI, 5, .inl t_now_strides)), (q_t_now_strains, .inl (cI, 5, .inl t_now_strains))] sz)) 0 0 (va_A [(q_t, .inr (7, [.ref q_t_text, .ref q_t_told, .ref q_t_now, .ref q_t_acts, .ref q_t_slots, .ref q_t_marks, .ref q_t_foresight, .ref q_t_chances, .int t_firstAct, .int t_actCount, .int t_slotsKept, .long t_weather])), (q_t_slots, .inr (4, [.ref q_t_slots_cells])), (q_t_now, .inr (6, [.ref q_t_told, .ref q_t_now_line, .ref q_t_now_strides, .ref q_t_now_strains, .int t_now_down, .int t_now_steps])), (q_t_now_line, .inl (cI, 5, .inl t_now_line)), (q_t_slots_cells, .inl (cI, 34, .inl t_slots_cells)), (q_t_now_strides, .inl (cI, 5, .inl t_now_strides)), (q_t_now_strains, .inl (cI, 5, .inl t_now_strains))] sz) := by
  refine MetI (cc := cX7_keep) (maxL := 2) (by decide) rfl (Nat.le_of_ble_eq_true rfl) (fun _ h => h) ?_
  intro p e s m args below meth c A Q ls hx CF hK hA hD hP hS hl hB hAe hsz hret
  have hb := CF.2.1
  have hml := CF.2.2.1
  have hown := CF.2.2.2.1
  have hts := CF.2.2.2.2
  have hD0 := hD
  replace hl : lv_has ls 2 [(0, .ref q_t), (1, .int x1)] := hl
  have hinX7 : ∀ w ∈ wsX70, w ∈ wsX7_keep := fun _ h => List.mem_cons_of_mem _ (List.mem_append_left _ (List.mem_append_left _ (List.mem_append_right _ h)))
  have hinX4 : ∀ w ∈ wsX40, w ∈ wsX7_keep := fun _ h => List.mem_cons_of_mem _ (List.mem_append_left _ (List.mem_append_right _ h))
  have hinX6 : ∀ w ∈ wsX60, w ∈ wsX7_keep := fun _ h => List.mem_cons_of_mem _ (List.mem_append_right _ h)
  have w_0 := hts (.fieldLink RX7 41 "PassInStep" "slots" "LPassInStep$Store;") (by decide +kernel)
  have w_1 := hts (.fieldLink RX7 28 "PassInStep" "now" "LPassInStep$Yard;") (by decide +kernel)
  have w_2 := hts (.fieldLink RX7 92 "PassInStep" "slotsKept" "I") (by decide +kernel)
  rw [f_X7_keep] at hf
  refine lv_iload_n hx hb dX7_keep_0 rfl (lv_at hl 1 rfl) ?_
  obtain ⟨r1, e3, hf⟩ := bd_ok hf
  refine kSi (As := [.int x1]) CF (va_cwS 1 hts gX7_keep_X7_isSlot rfl rfl rfl (by decide +kernel) ⟨Nat.le_of_ble_eq_true rfl, Nat.le_of_ble_eq_true rfl⟩) PU_blind hP hD hS hA [] (fun h1 h2 h3 => PU_pre hK h1 A h2 h3) (c_X7_isSlot l dC dI cI cZ _ x1 r1 e3) rfl rfl rfl rfl hl.1 rfl (Nat.le_of_ble_eq_true rfl) dX7_keep_1 ⟨Nat.zero_le _, Nat.zero_le _⟩ (fun H locs hP hS => ?_)
  replace hP : va_P (dC, dI) vwCl [(q_t, .inr (7, [.ref q_t_text, .ref q_t_told, .ref q_t_now, .ref q_t_acts, .ref q_t_slots, .ref q_t_marks, .ref q_t_foresight, .ref q_t_chances, .int t_firstAct, .int t_actCount, .int t_slotsKept, .long t_weather])), (q_t_slots, .inr (4, [.ref q_t_slots_cells])), (q_t_now, .inr (6, [.ref q_t_told, .ref q_t_now_line, .ref q_t_now_strides, .ref q_t_now_strains, .int t_now_down, .int t_now_steps])), (q_t_now_line, .inl (cI, 5, .inl t_now_line)), (q_t_slots_cells, .inl (cI, 34, .inl t_slots_cells)), (q_t_now_strides, .inl (cI, 5, .inl t_now_strides)), (q_t_now_strains, .inl (cI, 5, .inl t_now_strains))] H := hP
  refine lv_if_ne (tgt := 9) hx hb dX7_keep_4 (by decide) (fun hc => ?_) (fun hc => ?_)
  · replace hf := iq hc hf
    refine lv_aload_n hx hb dX7_keep_9 rfl (lv_at hl 0 rfl) ?_
    refine va_get (D := (dC, dI)) (ci := 7) (v := .ref q_t_slots) (C := RX7) (T := TX7) (N := 12) hx hb hts hinX7 hown hK.1 hP 0 rfl rfl 4 (by decide) w_0 (fun _ h9 => h9) rfl dX7_keep_10 ?_
    refine lv_iload_n hx hb dX7_keep_13 rfl (lv_at hl 1 rfl) ?_
    refine lv_aload_n hx hb dX7_keep_14 rfl (lv_at hl 0 rfl) ?_
    refine va_get (D := (dC, dI)) (ci := 7) (v := .ref q_t_now) (C := RX7) (T := TX7) (N := 12) hx hb hts hinX7 hown hK.1 hP 0 rfl rfl 2 (by decide) w_1 (fun _ h9 => h9) rfl dX7_keep_15 ?_
    obtain ⟨o4, e6, hf⟩ := bd_ok hf
    refine kVv (As := [.int x1, .ref q_t_now]) CF (cwV 2 hts gX7_keep_X4_save rfl rfl rfl (by decide +kernel) ⟨Nat.le_of_ble_eq_true rfl, Nat.le_of_ble_eq_true rfl⟩) PU_blind hP hD hS hA (va_recv hK.1 hP (ci := 4) (q0 := 1) rfl rfl) [1, 2, 3, 4, 5, 6] (fun h1 h2 h3 => PU_pre hK h1 A h2 h3) (c_X4_save l dC dI cI cZ q_t_slots q_t_slots_cells q_t_now q_t_told q_t_now_line q_t_now_strides q_t_now_strains _ t_now_down t_now_steps t_now_line t_slots_cells t_now_strides t_now_strains 34 x1 o4 e6) rfl rfl rfl rfl hl.1 rfl (Nat.le_of_ble_eq_true rfl) dX7_keep_18 ⟨Nat.zero_le _, Nat.zero_le _⟩ (fun H locs hP hS => ?_)
    replace hP : va_P (dC, dI) vwCl [(q_t, .inr (7, [.ref q_t_text, .ref q_t_told, .ref q_t_now, .ref q_t_acts, .ref q_t_slots, .ref q_t_marks, .ref q_t_foresight, .ref q_t_chances, .int t_firstAct, .int t_actCount, .int t_slotsKept, .long t_weather])), (q_t_slots, .inr (4, [.ref q_t_slots_cells])), (q_t_now, .inr (6, [.ref q_t_told, .ref q_t_now_line, .ref q_t_now_strides, .ref q_t_now_strains, .int t_now_down, .int t_now_steps])), (q_t_now_line, .inl (cI, 5, .inl t_now_line)), (q_t_slots_cells, .inl (cI, 34, .inl o4)), (q_t_now_strides, .inl (cI, 5, .inl t_now_strides)), (q_t_now_strains, .inl (cI, 5, .inl t_now_strains))] H := hP
    replace hD : va_D A [(q_t, .inr (7, [.ref q_t_text, .ref q_t_told, .ref q_t_now, .ref q_t_acts, .ref q_t_slots, .ref q_t_marks, .ref q_t_foresight, .ref q_t_chances, .int t_firstAct, .int t_actCount, .int t_slotsKept, .long t_weather])), (q_t_slots, .inr (4, [.ref q_t_slots_cells])), (q_t_now, .inr (6, [.ref q_t_told, .ref q_t_now_line, .ref q_t_now_strides, .ref q_t_now_strains, .int t_now_down, .int t_now_steps])), (q_t_now_line, .inl (cI, 5, .inl t_now_line)), (q_t_slots_cells, .inl (cI, 34, .inl o4)), (q_t_now_strides, .inl (cI, 5, .inl t_now_strides)), (q_t_now_strains, .inl (cI, 5, .inl t_now_strains))] := wd hD rfl
    refine lv_aload_n hx hb dX7_keep_21 rfl (lv_at hl 0 rfl) ?_
    refine lv_dup hx hb dX7_keep_22 rfl ?_
    refine va_get (D := (dC, dI)) (ci := 7) (v := .int t_slotsKept) (C := RX7) (T := TX7) (N := 12) hx hb hts hinX7 hown hK.1 hP 0 rfl rfl 10 (by decide) w_2 (fun _ h9 => h9) rfl dX7_keep_23 ?_
    refine lv_iconst (v := 1) hx hb dX7_keep_26 (by decide) ?_
    refine lv_iload_n hx hb dX7_keep_27 rfl (lv_at hl 1 rfl) ?_
    refine lv_ishl hx hb dX7_keep_28 ?_
    refine lv_ior hx hb dX7_keep_29 ?_
    refine va_put (D := (dC, dI)) (ci := 7) (v := .int (t_slotsKept ||| ((1 : Int32) <<< (x1 &&& 31)))) (ty := .int) (C := RX7) (T := TX7) (N := 12) hx hb hts hinX7 tyX7 tyX7_ok nmX7 hown hK.1 hP hD hS 0 rfl rfl 10 (by decide) w_2 (fun _ h9 => h9) rfl (by decide +kernel) rfl rfl (Nat.le_of_ble_eq_true rfl) dX7_keep_30 (fun H locs hP hD hS => ?_)
    replace hP : va_P (dC, dI) vwCl [(q_t, .inr (7, [.ref q_t_text, .ref q_t_told, .ref q_t_now, .ref q_t_acts, .ref q_t_slots, .ref q_t_marks, .ref q_t_foresight, .ref q_t_chances, .int t_firstAct, .int t_actCount, .int (t_slotsKept ||| ((1 : Int32) <<< (x1 &&& 31))), .long t_weather])), (q_t_slots, .inr (4, [.ref q_t_slots_cells])), (q_t_now, .inr (6, [.ref q_t_told, .ref q_t_now_line, .ref q_t_now_strides, .ref q_t_now_strains, .int t_now_down, .int t_now_steps])), (q_t_now_line, .inl (cI, 5, .inl t_now_line)), (q_t_slots_cells, .inl (cI, 34, .inl o4)), (q_t_now_strides, .inl (cI, 5, .inl t_now_strides)), (q_t_now_strains, .inl (cI, 5, .inl t_now_strains))] H := hP
    replace hD : va_D A [(q_t, .inr (7, [.ref q_t_text, .ref q_t_told, .ref q_t_now, .ref q_t_acts, .ref q_t_slots, .ref q_t_marks, .ref q_t_foresight, .ref q_t_chances, .int t_firstAct, .int t_actCount, .int (t_slotsKept ||| ((1 : Int32) <<< (x1 &&& 31))), .long t_weather])), (q_t_slots, .inr (4, [.ref q_t_slots_cells])), (q_t_now, .inr (6, [.ref q_t_told, .ref q_t_now_line, .ref q_t_now_strides, .ref q_t_now_strains, .int t_now_down, .int t_now_steps])), (q_t_now_line, .inl (cI, 5, .inl t_now_line)), (q_t_slots_cells, .inl (cI, 34, .inl o4)), (q_t_now_strides, .inl (cI, 5, .inl t_now_strides)), (q_t_now_strains, .inl (cI, 5, .inl t_now_strains))] := hD
    refine lv_aload_n hx hb dX7_keep_33 rfl (lv_at hl 0 rfl) ?_
    refine va_get (D := (dC, dI)) (ci := 7) (v := .ref q_t_now) (C := RX7) (T := TX7) (N := 12) hx hb hts hinX7 hown hK.1 hP 0 rfl rfl 2 (by decide) w_1 (fun _ h9 => h9) rfl dX7_keep_34 ?_
    obtain ⟨r7, e9, hf⟩ := bd_ok hf
    refine kVi (As := []) CF (cwV 0 hts gX7_keep_X6_stepNumber rfl rfl rfl (by decide +kernel) ⟨Nat.le_of_ble_eq_true rfl, Nat.le_of_ble_eq_true rfl⟩) PU_blind hP hD hS hA (va_recv hK.1 hP (ci := 6) (q0 := 2) rfl rfl) [2] (fun h1 h2 h3 => PU_pre hK h1 A h2 h3) (c_X6_stepNumber l dC dI cI cZ q_t_now q_t_told q_t_now_line q_t_now_strides q_t_now_strains _ t_now_down t_now_steps r7 e9) rfl rfl rfl rfl hl.1 rfl (Nat.le_of_ble_eq_true rfl) dX7_keep_37 ⟨Nat.zero_le _, Nat.zero_le _⟩ (fun H locs hP hS => ?_)
    replace hP : va_P (dC, dI) vwCl [(q_t, .inr (7, [.ref q_t_text, .ref q_t_told, .ref q_t_now, .ref q_t_acts, .ref q_t_slots, .ref q_t_marks, .ref q_t_foresight, .ref q_t_chances, .int t_firstAct, .int t_actCount, .int (t_slotsKept ||| ((1 : Int32) <<< (x1 &&& 31))), .long t_weather])), (q_t_slots, .inr (4, [.ref q_t_slots_cells])), (q_t_now, .inr (6, [.ref q_t_told, .ref q_t_now_line, .ref q_t_now_strides, .ref q_t_now_strains, .int t_now_down, .int t_now_steps])), (q_t_now_line, .inl (cI, 5, .inl t_now_line)), (q_t_slots_cells, .inl (cI, 34, .inl o4)), (q_t_now_strides, .inl (cI, 5, .inl t_now_strides)), (q_t_now_strains, .inl (cI, 5, .inl t_now_strains))] H := hP
    obtain ⟨e0, hf⟩ := ij2 hf
    obtain ⟨e1, hf⟩ := ijc hf
    have e2 := hf
    refine W.eq (congrArg (fun z => F0 m 40 ls [.int z]) e0) ?_
    exact hret _ _ _ _ (by rw [← e1, ← e2]; exact hP) hS dX7_keep_40
  · replace hf := ip hc hf
    refine lv_iconst (v := (-1)) hx hb dX7_keep_7 (by decide) ?_
    obtain ⟨e0, hf⟩ := ij2 hf
    obtain ⟨e1, hf⟩ := ijc hf
    have e2 := hf
    refine W.eq (congrArg (fun z => F0 m 8 ls [.int z]) e0) ?_
    exact hret _ _ _ _ (by rw [← e1, ← e2]; exact hP) hS dX7_keep_8
abbrev rm_X7_again : Room := { frames := 3, cells := 0, slots := 0, locals := 67 }
set_option maxHeartbeats 4000000 in
set_option maxRecDepth 100000 in
theorem c_X7_again (l : Launch) (dC : Nat → ClassId) (dI : Nat → Nat → Nat) (cI cZ : ClassId) (q_t q_t_text q_t_told q_t_now q_t_acts q_t_slots q_t_marks q_t_foresight q_t_chances q_t_slots_cells q_t_now_line q_t_now_strides q_t_now_strains : Nat) (sz : Nat) (t_firstAct : Int32) (t_actCount : Int32) (t_slotsKept : Int32) (t_weather : Int64) (t_now_down : Int32) (t_now_steps : Int32) (t_slots_cells : Nat → Int32) (t_now_line : Nat → Int32) (t_now_strides : Nat → Int32) (t_now_strains : Nat → Int32) (x1 : Int32) (r_ : Int32) (o_t_firstAct : Int32) (o_t_actCount : Int32) (o_t_now_down : Int32) (o_t_now_steps : Int32) (o_t_now_line : Nat → Int32) (o_t_now_strides : Nat → Int32) (o_t_now_strains : Nat → Int32) (hf : f_X7_again x1 t_firstAct t_actCount t_slotsKept t_now_down t_now_steps t_slots_cells t_now_line t_now_strides t_now_strains = some (r_, o_t_firstAct, o_t_actCount, o_t_now_down, o_t_now_steps, o_t_now_line, o_t_now_strides, o_t_now_strains)) : Met l yX7_again wsX7_again rm_X7_again (va_Pc [.ref q_t, .int x1] (PU (dC, dI) cI cZ [(q_t, .inr (7, [.ref q_t_text, .ref q_t_told, .ref q_t_now, .ref q_t_acts, .ref q_t_slots, .ref q_t_marks, .ref q_t_foresight, .ref q_t_chances, .int t_firstAct, .int t_actCount, .int t_slotsKept, .long t_weather])), (q_t_slots, .inr (4, [.ref q_t_slots_cells])), (q_t_now, .inr (6, [.ref q_t_told, .ref q_t_now_line, .ref q_t_now_strides, .ref q_t_now_strains, .int t_now_down, .int t_now_steps])), (q_t_slots_cells, .inl (cI, 34, .inl t_slots_cells)), (q_t_now_line, .inl (cI, 5, .inl t_now_line)), (q_t_now_strides, .inl (cI, 5, .inl t_now_strides)), (q_t_now_strains, .inl (cI, 5, .inl t_now_strains))] sz)) (va_Qi (fun (r : Int32) (_ : Unit) => r = r_) (fun _ t => va_P (dC, dI) vwCl [(q_t, .inr (7, [.ref q_t_text, .ref q_t_told, .ref q_t_now, .ref q_t_acts, .ref q_t_slots, .ref q_t_marks, .ref q_t_foresight, .ref q_t_chances, .int o_t_firstAct, .int o_t_actCount, .int t_slotsKept, .long t_weather])), (q_t_slots, .inr (4, [.ref q_t_slots_cells])), (q_t_now, .inr (6, [.ref q_t_told, .ref q_t_now_line, .ref q_t_now_strides, .ref q_t_now_strains, .int o_t_now_down, .int o_t_now_steps])), (q_t_slots_cells, .inl (cI, 34, .inl t_slots_cells)), (q_t_now_line, .inl (cI, 5, .inl o_t_now_line)), (q_t_now_strides, .inl (cI, 5, .inl o_t_now_strides)), (q_t_now_strains, .inl (cI, 5, .inl o_t_now_strains))] t.heap) (va_A [(q_t, .inr (7, [.ref q_t_text, .ref q_t_told, .ref q_t_now, .ref q_t_acts, .ref q_t_slots, .ref q_t_marks, .ref q_t_foresight, .ref q_t_chances, .int t_firstAct, .int t_actCount, .int t_slotsKept, .long t_weather])), (q_t_slots, .inr (4, [.ref q_t_slots_cells])), (q_t_now, .inr (6, [.ref q_t_told, .ref q_t_now_line, .ref q_t_now_strides, .ref q_t_now_strains, .int t_now_down, .int t_now_steps])), (q_t_slots_cells, .inl (cI, 34, .inl t_slots_cells)), (q_t_now_line, .inl (cI, 5, .inl t_now_line)), (q_t_now_strides, .inl (cI, 5, .inl t_now_strides)), (q_t_now_strains, .inl (cI, 5, .inl t_now_strains))] sz)) 0 0 (va_A [(q_t, .inr (7, [.ref q_t_text, .ref q_t_told, .ref q_t_now, .ref q_t_acts, .ref q_t_slots, .ref q_t_marks, .ref q_t_foresight, .ref q_t_chances, .int t_firstAct, .int t_actCount, .int t_slotsKept, .long t_weather])), (q_t_slots, .inr (4, [.ref q_t_slots_cells])), (q_t_now, .inr (6, [.ref q_t_told, .ref q_t_now_line, .ref q_t_now_strides, .ref q_t_now_strains, .int t_now_down, .int t_now_steps])), (q_t_slots_cells, .inl (cI, 34, .inl t_slots_cells)), (q_t_now_line, .inl (cI, 5, .inl t_now_line)), (q_t_now_strides, .inl (cI, 5, .inl t_now_strides)), (q_t_now_strains, .inl (cI, 5, .inl t_now_strains))] sz) := by
  refine MetI (cc := cX7_again) (maxL := 2) (by decide) rfl (Nat.le_of_ble_eq_true rfl) (fun _ h => h) ?_
  intro p e s m args below meth c A Q ls hx CF hK hA hD hP hS hl hB hAe hsz hret
  have hb := CF.2.1
  have hml := CF.2.2.1
  have hown := CF.2.2.2.1
  have hts := CF.2.2.2.2
  have hD0 := hD
  replace hl : lv_has ls 2 [(0, .ref q_t), (1, .int x1)] := hl
  have hinX7 : ∀ w ∈ wsX70, w ∈ wsX7_again := fun _ h => List.mem_cons_of_mem _ (List.mem_append_left _ (List.mem_append_left _ (List.mem_append_right _ h)))
  have hinX4 : ∀ w ∈ wsX40, w ∈ wsX7_again := fun _ h => List.mem_cons_of_mem _ (List.mem_append_left _ (List.mem_append_right _ h))
  have hinX6 : ∀ w ∈ wsX60, w ∈ wsX7_again := fun _ h => List.mem_cons_of_mem _ (List.mem_append_right _ h)
  have w_0 := hts (.fieldLink RX7 92 "PassInStep" "slotsKept" "I") (by decide +kernel)
  have w_1 := hts (.fieldLink RX7 41 "PassInStep" "slots" "LPassInStep$Store;") (by decide +kernel)
  have w_2 := hts (.fieldLink RX7 28 "PassInStep" "now" "LPassInStep$Yard;") (by decide +kernel)
  rw [f_X7_again] at hf
  refine lv_iload_n hx hb dX7_again_0 rfl (lv_at hl 1 rfl) ?_
  obtain ⟨r1, e3, hf⟩ := bd_ok hf
  refine kSi (As := [.int x1]) CF (va_cwS 1 hts gX7_again_X7_isSlot rfl rfl rfl (by decide +kernel) ⟨Nat.le_of_ble_eq_true rfl, Nat.le_of_ble_eq_true rfl⟩) PU_blind hP hD hS hA [] (fun h1 h2 h3 => PU_pre hK h1 A h2 h3) (c_X7_isSlot l dC dI cI cZ _ x1 r1 e3) rfl rfl rfl rfl hl.1 rfl (Nat.le_of_ble_eq_true rfl) dX7_again_1 ⟨Nat.zero_le _, Nat.zero_le _⟩ (fun H locs hP hS => ?_)
  replace hP : va_P (dC, dI) vwCl [(q_t, .inr (7, [.ref q_t_text, .ref q_t_told, .ref q_t_now, .ref q_t_acts, .ref q_t_slots, .ref q_t_marks, .ref q_t_foresight, .ref q_t_chances, .int t_firstAct, .int t_actCount, .int t_slotsKept, .long t_weather])), (q_t_slots, .inr (4, [.ref q_t_slots_cells])), (q_t_now, .inr (6, [.ref q_t_told, .ref q_t_now_line, .ref q_t_now_strides, .ref q_t_now_strains, .int t_now_down, .int t_now_steps])), (q_t_slots_cells, .inl (cI, 34, .inl t_slots_cells)), (q_t_now_line, .inl (cI, 5, .inl t_now_line)), (q_t_now_strides, .inl (cI, 5, .inl t_now_strides)), (q_t_now_strains, .inl (cI, 5, .inl t_now_strains))] H := hP
  refine lv_if_ne (tgt := 9) hx hb dX7_again_4 (by decide) (fun hc => ?_) (fun hc => ?_)
  · replace hf := iq hc hf
    refine lv_aload_n hx hb dX7_again_9 rfl (lv_at hl 0 rfl) ?_
    refine va_get (D := (dC, dI)) (ci := 7) (v := .int t_slotsKept) (C := RX7) (T := TX7) (N := 12) hx hb hts hinX7 hown hK.1 hP 0 rfl rfl 10 (by decide) w_0 (fun _ h9 => h9) rfl dX7_again_10 ?_
    refine lv_iload_n hx hb dX7_again_13 rfl (lv_at hl 1 rfl) ?_
    refine lv_ishr hx hb dX7_again_14 ?_
    refine lv_iconst (v := 1) hx hb dX7_again_15 (by decide) ?_
    refine lv_iand hx hb dX7_again_16 ?_
    refine lv_if_ne (tgt := 23) hx hb dX7_again_17 (by decide) (fun hc => ?_) (fun hc => ?_)
    · replace hf := iq hc hf
      refine lv_aload_n hx hb dX7_again_23 rfl (lv_at hl 0 rfl) ?_
      refine va_get (D := (dC, dI)) (ci := 7) (v := .ref q_t_slots) (C := RX7) (T := TX7) (N := 12) hx hb hts hinX7 hown hK.1 hP 0 rfl rfl 4 (by decide) w_1 (fun _ h9 => h9) rfl dX7_again_24 ?_
      refine lv_iload_n hx hb dX7_again_27 rfl (lv_at hl 1 rfl) ?_
      refine lv_aload_n hx hb dX7_again_28 rfl (lv_at hl 0 rfl) ?_
      refine va_get (D := (dC, dI)) (ci := 7) (v := .ref q_t_now) (C := RX7) (T := TX7) (N := 12) hx hb hts hinX7 hown hK.1 hP 0 rfl rfl 2 (by decide) w_2 (fun _ h9 => h9) rfl dX7_again_29 ?_
      obtain ⟨⟨o4, o5, o6, o7, o8⟩, e10, hf⟩ := bd_ok hf
      refine kVv (As := [.int x1, .ref q_t_now]) CF (cwV 2 hts gX7_again_X4_restore rfl rfl rfl (by decide +kernel) ⟨Nat.le_of_ble_eq_true rfl, Nat.le_of_ble_eq_true rfl⟩) PU_blind hP hD hS hA (va_recv hK.1 hP (ci := 4) (q0 := 1) rfl rfl) [1, 2, 3, 4, 5, 6] (fun h1 h2 h3 => PU_pre hK h1 A h2 h3) (c_X4_restore l dC dI cI cZ q_t_slots q_t_slots_cells q_t_now q_t_told q_t_now_line q_t_now_strides q_t_now_strains _ t_now_down t_now_steps t_slots_cells t_now_line t_now_strides t_now_strains 34 x1 o4 o5 o6 o7 o8 e10) rfl rfl rfl rfl hl.1 rfl (Nat.le_of_ble_eq_true rfl) dX7_again_32 ⟨Nat.zero_le _, Nat.zero_le _⟩ (fun H locs hP hS => ?_)
      replace hP : va_P (dC, dI) vwCl [(q_t, .inr (7, [.ref q_t_text, .ref q_t_told, .ref q_t_now, .ref q_t_acts, .ref q_t_slots, .ref q_t_marks, .ref q_t_foresight, .ref q_t_chances, .int t_firstAct, .int t_actCount, .int t_slotsKept, .long t_weather])), (q_t_slots, .inr (4, [.ref q_t_slots_cells])), (q_t_now, .inr (6, [.ref q_t_told, .ref q_t_now_line, .ref q_t_now_strides, .ref q_t_now_strains, .int o4, .int o5])), (q_t_slots_cells, .inl (cI, 34, .inl t_slots_cells)), (q_t_now_line, .inl (cI, 5, .inl o6)), (q_t_now_strides, .inl (cI, 5, .inl o7)), (q_t_now_strains, .inl (cI, 5, .inl o8))] H := hP
      replace hD : va_D A [(q_t, .inr (7, [.ref q_t_text, .ref q_t_told, .ref q_t_now, .ref q_t_acts, .ref q_t_slots, .ref q_t_marks, .ref q_t_foresight, .ref q_t_chances, .int t_firstAct, .int t_actCount, .int t_slotsKept, .long t_weather])), (q_t_slots, .inr (4, [.ref q_t_slots_cells])), (q_t_now, .inr (6, [.ref q_t_told, .ref q_t_now_line, .ref q_t_now_strides, .ref q_t_now_strains, .int o4, .int o5])), (q_t_slots_cells, .inl (cI, 34, .inl t_slots_cells)), (q_t_now_line, .inl (cI, 5, .inl o6)), (q_t_now_strides, .inl (cI, 5, .inl o7)), (q_t_now_strains, .inl (cI, 5, .inl o8))] := wd hD rfl
      refine lv_aload_n hx hb dX7_again_35 rfl (lv_at hl 0 rfl) ?_
      obtain ⟨⟨o11, o12⟩, e14, hf⟩ := bd_ok hf
      refine kVv (As := []) CF (cwV 0 hts gX7_again_X7_forgetActs rfl rfl rfl (by decide +kernel) ⟨Nat.le_of_ble_eq_true rfl, Nat.le_of_ble_eq_true rfl⟩) PU_blind hP hD hS hA (va_recv hK.1 hP (ci := 7) (q0 := 0) rfl rfl) [0] (fun h1 h2 h3 => PU_pre hK h1 A h2 h3) (c_X7_forgetActs l dC dI cI cZ q_t q_t_text q_t_told q_t_now q_t_acts q_t_slots q_t_marks q_t_foresight q_t_chances _ t_firstAct t_actCount t_slotsKept t_weather o11 o12 e14) rfl rfl rfl rfl hl.1 rfl (Nat.le_of_ble_eq_true rfl) dX7_again_36 ⟨Nat.zero_le _, Nat.zero_le _⟩ (fun H locs hP hS => ?_)
      replace hP : va_P (dC, dI) vwCl [(q_t, .inr (7, [.ref q_t_text, .ref q_t_told, .ref q_t_now, .ref q_t_acts, .ref q_t_slots, .ref q_t_marks, .ref q_t_foresight, .ref q_t_chances, .int o11, .int o12, .int t_slotsKept, .long t_weather])), (q_t_slots, .inr (4, [.ref q_t_slots_cells])), (q_t_now, .inr (6, [.ref q_t_told, .ref q_t_now_line, .ref q_t_now_strides, .ref q_t_now_strains, .int o4, .int o5])), (q_t_slots_cells, .inl (cI, 34, .inl t_slots_cells)), (q_t_now_line, .inl (cI, 5, .inl o6)), (q_t_now_strides, .inl (cI, 5, .inl o7)), (q_t_now_strains, .inl (cI, 5, .inl o8))] H := hP
      replace hD : va_D A [(q_t, .inr (7, [.ref q_t_text, .ref q_t_told, .ref q_t_now, .ref q_t_acts, .ref q_t_slots, .ref q_t_marks, .ref q_t_foresight, .ref q_t_chances, .int o11, .int o12, .int t_slotsKept, .long t_weather])), (q_t_slots, .inr (4, [.ref q_t_slots_cells])), (q_t_now, .inr (6, [.ref q_t_told, .ref q_t_now_line, .ref q_t_now_strides, .ref q_t_now_strains, .int o4, .int o5])), (q_t_slots_cells, .inl (cI, 34, .inl t_slots_cells)), (q_t_now_line, .inl (cI, 5, .inl o6)), (q_t_now_strides, .inl (cI, 5, .inl o7)), (q_t_now_strains, .inl (cI, 5, .inl o8))] := wd hD rfl
      refine lv_aload_n hx hb dX7_again_39 rfl (lv_at hl 0 rfl) ?_
      refine va_get (D := (dC, dI)) (ci := 7) (v := .ref q_t_now) (C := RX7) (T := TX7) (N := 12) hx hb hts hinX7 hown hK.1 hP 0 rfl rfl 2 (by decide) w_2 (fun _ h9 => h9) rfl dX7_again_40 ?_
      obtain ⟨r15, e17, hf⟩ := bd_ok hf
      refine kVi (As := []) CF (cwV 0 hts gX7_again_X6_stepNumber rfl rfl rfl (by decide +kernel) ⟨Nat.le_of_ble_eq_true rfl, Nat.le_of_ble_eq_true rfl⟩) PU_blind hP hD hS hA (va_recv hK.1 hP (ci := 6) (q0 := 2) rfl rfl) [2] (fun h1 h2 h3 => PU_pre hK h1 A h2 h3) (c_X6_stepNumber l dC dI cI cZ q_t_now q_t_told q_t_now_line q_t_now_strides q_t_now_strains _ o4 o5 r15 e17) rfl rfl rfl rfl hl.1 rfl (Nat.le_of_ble_eq_true rfl) dX7_again_43 ⟨Nat.zero_le _, Nat.zero_le _⟩ (fun H locs hP hS => ?_)
      replace hP : va_P (dC, dI) vwCl [(q_t, .inr (7, [.ref q_t_text, .ref q_t_told, .ref q_t_now, .ref q_t_acts, .ref q_t_slots, .ref q_t_marks, .ref q_t_foresight, .ref q_t_chances, .int o11, .int o12, .int t_slotsKept, .long t_weather])), (q_t_slots, .inr (4, [.ref q_t_slots_cells])), (q_t_now, .inr (6, [.ref q_t_told, .ref q_t_now_line, .ref q_t_now_strides, .ref q_t_now_strains, .int o4, .int o5])), (q_t_slots_cells, .inl (cI, 34, .inl t_slots_cells)), (q_t_now_line, .inl (cI, 5, .inl o6)), (q_t_now_strides, .inl (cI, 5, .inl o7)), (q_t_now_strains, .inl (cI, 5, .inl o8))] H := hP
      obtain ⟨e0, hf⟩ := ij2 hf
      obtain ⟨e1, hf⟩ := ijc hf
      obtain ⟨e2, hf⟩ := ijc hf
      obtain ⟨e3, hf⟩ := ijc hf
      obtain ⟨e4, hf⟩ := ijc hf
      obtain ⟨e5, hf⟩ := ijc hf
      obtain ⟨e6, hf⟩ := ijc hf
      have e7 := hf
      refine W.eq (congrArg (fun z => F0 m 46 ls [.int z]) e0) ?_
      exact hret _ _ _ _ (by rw [← e1, ← e2, ← e3, ← e4, ← e5, ← e6, ← e7]; exact hP) hS dX7_again_46
    · replace hf := ip hc hf
      refine lv_bipush (v := (-3)) hx hb dX7_again_20 (by decide) ?_
      obtain ⟨e0, hf⟩ := ij2 hf
      obtain ⟨e1, hf⟩ := ijc hf
      obtain ⟨e2, hf⟩ := ijc hf
      obtain ⟨e3, hf⟩ := ijc hf
      obtain ⟨e4, hf⟩ := ijc hf
      obtain ⟨e5, hf⟩ := ijc hf
      obtain ⟨e6, hf⟩ := ijc hf
      have e7 := hf
      refine W.eq (congrArg (fun z => F0 m 22 ls [.int z]) e0) ?_
      exact hret _ _ _ _ (by rw [← e1, ← e2, ← e3, ← e4, ← e5, ← e6, ← e7]; exact hP) hS dX7_again_22
  · replace hf := ip hc hf
    refine lv_iconst (v := (-1)) hx hb dX7_again_7 (by decide) ?_
    obtain ⟨e0, hf⟩ := ij2 hf
    obtain ⟨e1, hf⟩ := ijc hf
    obtain ⟨e2, hf⟩ := ijc hf
    obtain ⟨e3, hf⟩ := ijc hf
    obtain ⟨e4, hf⟩ := ijc hf
    obtain ⟨e5, hf⟩ := ijc hf
    obtain ⟨e6, hf⟩ := ijc hf
    have e7 := hf
    refine W.eq (congrArg (fun z => F0 m 8 ls [.int z]) e0) ?_
    exact hret _ _ _ _ (by rw [← e1, ← e2, ← e3, ← e4, ← e5, ← e6, ← e7]; exact hP) hS dX7_again_8
abbrev rm_X8_in : Room := { frames := 0, cells := 0, slots := 0, locals := 0 }
set_option maxHeartbeats 4000000 in
set_option maxRecDepth 100000 in
theorem c_X8_in (l : Launch) (dC : Nat → ClassId) (dI : Nat → Nat → Nat) (cI cZ : ClassId) (sz : Nat) (x0 : Int64) (x2 : Int64) (x4 : Int64) (r_ : Int32) (hf : f_X8_in x0 x2 x4 = some r_) : Met l yX8_in wsX8_in rm_X8_in (va_Pc [.long x0, .long x2, .long x4] (PU (dC, dI) cI cZ [] sz)) (va_Qi (fun (r : Int32) (_ : Unit) => r = r_) (fun _ t => va_P (dC, dI) vwCl [] t.heap) (va_A [] sz)) 0 0 (va_A [] sz) := by
  refine MetZ (cc := cX8_in) (maxL := 6) (by decide) rfl (Nat.le_of_ble_eq_true rfl) (fun _ h => h) ?_
  intro p e s m args below meth c A Q ls hx CF hK hA hD hP hS hl hB hAe hsz hret
  have hb := CF.2.1
  have hml := CF.2.2.1
  have hown := CF.2.2.2.1
  have hts := CF.2.2.2.2
  have hD0 := hD
  replace hl : lv_has ls 6 [(0, .long x0), (2, .long x2), (4, .long x4)] := hl
  have h_17 : ∀ (H : Heap) (locs : List Loc) (ls : Array Slot), va_P (dC, dI) vwCl [] H → va_S A s.heap H locs → lv_has ls 6 [] → J_X8_in_17 = some r_ → W p l e rm_X8_in s m args below meth c H locs 0 0 Q (F0 m 17 ls []) := by
    intro  H locs ls hP hS hl hf
    have hD : va_D A [] := wd hD0 rfl
    rw [J_X8_in_17] at hf
    refine lv_iconst (v := 0) hx hb dX8_in_17 (by decide) ?_
    have e0 := ij1 hf
    refine W.eq (congrArg (fun z => F0 m 18 ls [.int z]) e0) ?_
    exact hret _ _ _ _ hP hS (by rw [← e0]; rfl) dX8_in_18
  rw [f_X8_in] at hf
  refine lv_lload_n hx hb dX8_in_0 rfl (lv_at hl 0 rfl) ?_
  refine lv_lload_n hx hb dX8_in_1 rfl (lv_at hl 1 rfl) ?_
  refine W.lcmp hx hb dX8_in_2 ?_
  refine lv_if_lt (tgt := 17) hx hb dX8_in_3 (by decide) (fun hc => ?_) (fun hc => ?_)
  · replace hf := ip hc hf
    exact h_17 _ _ _ hP hS (lv_sub hl [] rfl) hf
  · replace hf := iq hc hf
    refine lv_lload_n hx hb dX8_in_6 rfl (lv_at hl 0 rfl) ?_
    refine lv_lload hx hb dX8_in_7 (lv_at hl 2 rfl) ?_
    refine W.lcmp hx hb dX8_in_9 ?_
    refine lv_if_gt (tgt := 17) hx hb dX8_in_10 (by decide) (fun hc => ?_) (fun hc => ?_)
    · replace hf := ip hc hf
      exact h_17 _ _ _ hP hS (lv_sub hl [] rfl) hf
    · replace hf := iq hc hf
      refine lv_iconst (v := 1) hx hb dX8_in_13 (by decide) ?_
      refine lv_goto (tgt := 18) hx hb dX8_in_14 (by decide) ?_
      have e0 := ij1 hf
      refine W.eq (congrArg (fun z => F0 m 18 ls [.int z]) e0) ?_
      exact hret _ _ _ _ hP hS (by rw [← e0]; rfl) dX8_in_18
abbrev rm_X8_has : Room := { frames := 0, cells := 0, slots := 0, locals := 0 }
set_option maxHeartbeats 4000000 in
set_option maxRecDepth 100000 in
theorem c_X8_has (l : Launch) (dC : Nat → ClassId) (dI : Nat → Nat → Nat) (cI cZ : ClassId) (sz : Nat) (x0 : Int32) (x1 : Int32) (r_ : Int32) (hf : f_X8_has x0 x1 = some r_) : Met l yX8_has wsX8_has rm_X8_has (va_Pc [.int x0, .int x1] (PU (dC, dI) cI cZ [] sz)) (va_Qi (fun (r : Int32) (_ : Unit) => r = r_) (fun _ t => va_P (dC, dI) vwCl [] t.heap) (va_A [] sz)) 0 0 (va_A [] sz) := by
  refine MetZ (cc := cX8_has) (maxL := 2) (by decide) rfl (Nat.le_of_ble_eq_true rfl) (fun _ h => h) ?_
  intro p e s m args below meth c A Q ls hx CF hK hA hD hP hS hl hB hAe hsz hret
  have hb := CF.2.1
  have hml := CF.2.2.1
  have hown := CF.2.2.2.1
  have hts := CF.2.2.2.2
  have hD0 := hD
  replace hl : lv_has ls 2 [(0, .int x0), (1, .int x1)] := hl
  rw [f_X8_has] at hf
  refine lv_iload_n hx hb dX8_has_0 rfl (lv_at hl 0 rfl) ?_
  refine lv_iload_n hx hb dX8_has_1 rfl (lv_at hl 1 rfl) ?_
  refine lv_ishr hx hb dX8_has_2 ?_
  refine lv_iconst (v := 1) hx hb dX8_has_3 (by decide) ?_
  refine lv_iand hx hb dX8_has_4 ?_
  refine lv_iconst (v := 1) hx hb dX8_has_5 (by decide) ?_
  refine lv_icmp_ne (tgt := 13) hx hb dX8_has_6 (by decide) (fun hc => ?_) (fun hc => ?_)
  · replace hf := iq hc hf
    refine lv_iconst (v := 0) hx hb dX8_has_13 (by decide) ?_
    have e0 := ij1 hf
    refine W.eq (congrArg (fun z => F0 m 14 ls [.int z]) e0) ?_
    exact hret _ _ _ _ hP hS (by rw [← e0]; rfl) dX8_has_14
  · replace hf := ip hc hf
    refine lv_iconst (v := 1) hx hb dX8_has_9 (by decide) ?_
    refine lv_goto (tgt := 14) hx hb dX8_has_10 (by decide) ?_
    have e0 := ij1 hf
    refine W.eq (congrArg (fun z => F0 m 14 ls [.int z]) e0) ?_
    exact hret _ _ _ _ hP hS (by rw [← e0]; rfl) dX8_has_14
abbrev rm_X8_many : Room := { frames := 0, cells := 0, slots := 0, locals := 0 }
set_option maxHeartbeats 4000000 in
set_option maxRecDepth 100000 in
theorem c_X8_many (l : Launch) (dC : Nat → ClassId) (dI : Nat → Nat → Nat) (cI cZ : ClassId) (sz : Nat) (x0 : Int32) (r_ : Int32) (hf : f_X8_many x0 = some r_) : Met l yX8_many wsX8_many rm_X8_many (va_Pc [.int x0] (PU (dC, dI) cI cZ [] sz)) (va_Qi (fun (r : Int32) (_ : Unit) => r = r_) (fun _ t => va_P (dC, dI) vwCl [] t.heap) (va_A [] sz)) 0 0 (va_A [] sz) := by
  refine MetI (cc := cX8_many) (maxL := 3) (by decide) rfl (Nat.le_of_ble_eq_true rfl) (fun _ h => h) ?_
  intro p e s m args below meth c A Q ls hx CF hK hA hD hP hS hl hB hAe hsz hret
  have hb := CF.2.1
  have hml := CF.2.2.1
  have hown := CF.2.2.2.1
  have hts := CF.2.2.2.2
  have hD0 := hD
  replace hl : lv_has ls 3 [(0, .int x0)] := hl
  have h_4 : ∀ (x0 : Int32) (fu4 : Nat) (x1 : Int32) (x2 : Int32) (H : Heap) (locs : List Loc) (ls : Array Slot), va_P (dC, dI) vwCl [] H → va_S A s.heap H locs → lv_has ls 3 [(0, .int x0), (1, .int x1), (2, .int x2)] → L_X8_many_4 x0 fu4 x1 x2 = some r_ → W p l e rm_X8_many s m args below meth c H locs 0 0 Q (F0 m 4 ls []) := by
    intro x0 fu4
    induction fu4 with
    | zero =>
      intro x1 x2 H locs ls hP hS hl hf
      rw [L_X8_many_4] at hf
      cases hf
    | succ fu4 ih4 =>
      intro x1 x2 H locs ls hP hS hl hf
      have hD : va_D A [] := wd hD0 rfl
      rw [L_X8_many_4] at hf
      refine lv_iload_n hx hb dX8_many_4 rfl (lv_at hl 2 rfl) ?_
      refine lv_iconst (v := 5) hx hb dX8_many_5 (by decide) ?_
      refine lv_icmp_ge (tgt := 23) hx hb dX8_many_6 (by decide) (fun hc => ?_) (fun hc => ?_)
      · replace hf := ip hc hf
        refine lv_iload_n hx hb dX8_many_23 rfl (lv_at hl 1 rfl) ?_
        have e0 := ij1 hf
        refine W.eq (congrArg (fun z => F0 m 24 ls [.int z]) e0) ?_
        exact hret _ _ _ _ hP hS dX8_many_24
      · replace hf := iq hc hf
        refine lv_iload_n hx hb dX8_many_9 rfl (lv_at hl 1 rfl) ?_
        refine lv_iload_n hx hb dX8_many_10 rfl (lv_at hl 0 rfl) ?_
        refine lv_iload_n hx hb dX8_many_11 rfl (lv_at hl 2 rfl) ?_
        refine lv_ishr hx hb dX8_many_12 ?_
        refine lv_iconst (v := 1) hx hb dX8_many_13 (by decide) ?_
        refine lv_iand hx hb dX8_many_14 ?_
        refine lv_iadd hx hb dX8_many_15 ?_
        refine lv_istore_n (lv' := [(1, .int (x1 + ((x0 >>> (x2 &&& 31)) &&& 1))), (0, .int x0), (2, .int x2)]) hx hb dX8_many_16 rfl hl (by decide) rfl (fun ls hl => ?_)
        refine lv_iinc (v := (x2 + 1)) (lv' := [(2, .int (x2 + 1)), (1, .int (x1 + ((x0 >>> (x2 &&& 31)) &&& 1))), (0, .int x0)]) hx hb dX8_many_17 hl (k := 2) rfl rfl (by decide) rfl (fun ls hl => ?_)
        refine lv_goto (tgt := 4) hx hb dX8_many_20 (by decide) ?_
        exact ih4 (x1 + ((x0 >>> (x2 &&& 31)) &&& 1)) (x2 + 1) _ _ _ hP hS (lv_sub hl [2, 1, 0] rfl) hf
  rw [f_X8_many] at hf
  refine lv_iconst (v := 0) hx hb dX8_many_0 (by decide) ?_
  refine lv_istore_n (lv' := [(1, .int 0), (0, .int x0)]) hx hb dX8_many_1 rfl hl (by decide) rfl (fun ls hl => ?_)
  refine lv_iconst (v := 0) hx hb dX8_many_2 (by decide) ?_
  refine lv_istore_n (lv' := [(2, .int 0), (1, .int 0), (0, .int x0)]) hx hb dX8_many_3 rfl hl (by decide) rfl (fun ls hl => ?_)
  exact h_4 x0 fuelC 0 0 _ _ _ hP hS (lv_sub hl [2, 1, 0] rfl) hf
abbrev rm_X8_power : Room := { frames := 0, cells := 0, slots := 0, locals := 0 }
set_option maxHeartbeats 4000000 in
set_option maxRecDepth 100000 in
theorem c_X8_power (l : Launch) (dC : Nat → ClassId) (dI : Nat → Nat → Nat) (cI cZ : ClassId) (sz : Nat) (x0 : Int32) (x1 : Int32) (r_ : Int32) (hf : f_X8_power x0 x1 = some r_) : Met l yX8_power wsX8_power rm_X8_power (va_Pc [.int x0, .int x1] (PU (dC, dI) cI cZ [] sz)) (va_Qi (fun (r : Int32) (_ : Unit) => r = r_) (fun _ t => va_P (dC, dI) vwCl [] t.heap) (va_A [] sz)) 0 0 (va_A [] sz) := by
  refine MetI (cc := cX8_power) (maxL := 4) (by decide) rfl (Nat.le_of_ble_eq_true rfl) (fun _ h => h) ?_
  intro p e s m args below meth c A Q ls hx CF hK hA hD hP hS hl hB hAe hsz hret
  have hb := CF.2.1
  have hml := CF.2.2.1
  have hown := CF.2.2.2.1
  have hts := CF.2.2.2.2
  have hD0 := hD
  replace hl : lv_has ls 4 [(0, .int x0), (1, .int x1)] := hl
  have h_4 : ∀ (x0 : Int32) (x1 : Int32) (fu4 : Nat) (x2 : Int32) (x3 : Int32) (H : Heap) (locs : List Loc) (ls : Array Slot), va_P (dC, dI) vwCl [] H → va_S A s.heap H locs → lv_has ls 4 [(0, .int x0), (1, .int x1), (2, .int x2), (3, .int x3)] → L_X8_power_4 x0 x1 fu4 x2 x3 = some r_ → W p l e rm_X8_power s m args below meth c H locs 0 0 Q (F0 m 4 ls []) := by
    intro x0 x1 fu4
    induction fu4 with
    | zero =>
      intro x2 x3 H locs ls hP hS hl hf
      rw [L_X8_power_4] at hf
      cases hf
    | succ fu4 ih4 =>
      intro x2 x3 H locs ls hP hS hl hf
      have hD : va_D A [] := wd hD0 rfl
      rw [L_X8_power_4] at hf
      refine lv_iload_n hx hb dX8_power_4 rfl (lv_at hl 3 rfl) ?_
      refine lv_iload_n hx hb dX8_power_5 rfl (lv_at hl 1 rfl) ?_
      refine lv_icmp_ge (tgt := 19) hx hb dX8_power_6 (by decide) (fun hc => ?_) (fun hc => ?_)
      · replace hf := ip hc hf
        refine lv_iload_n hx hb dX8_power_19 rfl (lv_at hl 2 rfl) ?_
        have e0 := ij1 hf
        refine W.eq (congrArg (fun z => F0 m 20 ls [.int z]) e0) ?_
        exact hret _ _ _ _ hP hS dX8_power_20
      · replace hf := iq hc hf
        refine lv_iload_n hx hb dX8_power_9 rfl (lv_at hl 2 rfl) ?_
        refine lv_iload_n hx hb dX8_power_10 rfl (lv_at hl 0 rfl) ?_
        refine lv_imul hx hb dX8_power_11 ?_
        refine lv_istore_n (lv' := [(2, .int (x2 * x0)), (0, .int x0), (1, .int x1), (3, .int x3)]) hx hb dX8_power_12 rfl hl (by decide) rfl (fun ls hl => ?_)
        refine lv_iinc (v := (x3 + 1)) (lv' := [(3, .int (x3 + 1)), (2, .int (x2 * x0)), (0, .int x0), (1, .int x1)]) hx hb dX8_power_13 hl (k := 3) rfl rfl (by decide) rfl (fun ls hl => ?_)
        refine lv_goto (tgt := 4) hx hb dX8_power_16 (by decide) ?_
        exact ih4 (x2 * x0) (x3 + 1) _ _ _ hP hS (lv_sub hl [2, 3, 1, 0] rfl) hf
  rw [f_X8_power] at hf
  refine lv_iconst (v := 1) hx hb dX8_power_0 (by decide) ?_
  refine lv_istore_n (lv' := [(2, .int 1), (0, .int x0), (1, .int x1)]) hx hb dX8_power_1 rfl hl (by decide) rfl (fun ls hl => ?_)
  refine lv_iconst (v := 0) hx hb dX8_power_2 (by decide) ?_
  refine lv_istore_n (lv' := [(3, .int 0), (2, .int 1), (0, .int x0), (1, .int x1)]) hx hb dX8_power_3 rfl hl (by decide) rfl (fun ls hl => ?_)
  exact h_4 x0 x1 fuelC 1 0 _ _ _ hP hS (lv_sub hl [2, 3, 1, 0] rfl) hf
abbrev rm_X8_noWalker : Room := { frames := 1, cells := 0, slots := 0, locals := 25 }
set_option maxHeartbeats 4000000 in
set_option maxRecDepth 100000 in
theorem c_X8_noWalker (l : Launch) (dC : Nat → ClassId) (dI : Nat → Nat → Nat) (cI cZ : ClassId) (q_t q_t_text q_t_beat q_t_kind q_t_readSnow q_t_readWalker q_t_page q_t_trial q_t_book q_t_kept q_t_isKept q_t_markStep q_t_markTread q_t_order q_t_gains q_t_value : Nat) (sz : Nat) (t_thrown : Int32) (t_textSize : Int32) (t_place : Int32) (t_depth : Int32) (t_noon : Int32) (t_later : Int32) (t_walkers : Int32) (t_readWalkers : Int32) (t_acts : Int32) (t_marks : Int32) (t_seed : Int64) (t_stumbled : Int32) (t_lineMany : Int32) (t_lineOrder : Int32) (t_whoseMany : Int32) (t_whoseFirst : Int32) (t_restMany : Int32) (t_restFirst : Int32) (x1 : Int32) (r_ : Int32) (hf : f_X8_noWalker x1 t_walkers = some r_) : Met l yX8_noWalker wsX8_noWalker rm_X8_noWalker (va_Pc [.ref q_t, .int x1] (PU (dC, dI) cI cZ [(q_t, .inr (8, [.int t_thrown, .ref q_t_text, .int t_textSize, .int t_place, .int t_depth, .int t_noon, .int t_later, .int t_walkers, .ref q_t_beat, .ref q_t_kind, .ref q_t_readSnow, .int t_readWalkers, .ref q_t_readWalker, .ref q_t_page, .ref q_t_trial, .ref q_t_book, .int t_acts, .ref q_t_kept, .ref q_t_isKept, .int t_marks, .ref q_t_markStep, .ref q_t_markTread, .long t_seed, .int t_stumbled, .ref q_t_order, .int t_lineMany, .int t_lineOrder, .int t_whoseMany, .int t_whoseFirst, .int t_restMany, .int t_restFirst, .ref q_t_gains, .ref q_t_value]))] sz)) (va_Qi (fun (r : Int32) (_ : Unit) => r = r_) (fun _ t => va_P (dC, dI) vwCl [(q_t, .inr (8, [.int t_thrown, .ref q_t_text, .int t_textSize, .int t_place, .int t_depth, .int t_noon, .int t_later, .int t_walkers, .ref q_t_beat, .ref q_t_kind, .ref q_t_readSnow, .int t_readWalkers, .ref q_t_readWalker, .ref q_t_page, .ref q_t_trial, .ref q_t_book, .int t_acts, .ref q_t_kept, .ref q_t_isKept, .int t_marks, .ref q_t_markStep, .ref q_t_markTread, .long t_seed, .int t_stumbled, .ref q_t_order, .int t_lineMany, .int t_lineOrder, .int t_whoseMany, .int t_whoseFirst, .int t_restMany, .int t_restFirst, .ref q_t_gains, .ref q_t_value]))] t.heap) (va_A [(q_t, .inr (8, [.int t_thrown, .ref q_t_text, .int t_textSize, .int t_place, .int t_depth, .int t_noon, .int t_later, .int t_walkers, .ref q_t_beat, .ref q_t_kind, .ref q_t_readSnow, .int t_readWalkers, .ref q_t_readWalker, .ref q_t_page, .ref q_t_trial, .ref q_t_book, .int t_acts, .ref q_t_kept, .ref q_t_isKept, .int t_marks, .ref q_t_markStep, .ref q_t_markTread, .long t_seed, .int t_stumbled, .ref q_t_order, .int t_lineMany, .int t_lineOrder, .int t_whoseMany, .int t_whoseFirst, .int t_restMany, .int t_restFirst, .ref q_t_gains, .ref q_t_value]))] sz)) 0 0 (va_A [(q_t, .inr (8, [.int t_thrown, .ref q_t_text, .int t_textSize, .int t_place, .int t_depth, .int t_noon, .int t_later, .int t_walkers, .ref q_t_beat, .ref q_t_kind, .ref q_t_readSnow, .int t_readWalkers, .ref q_t_readWalker, .ref q_t_page, .ref q_t_trial, .ref q_t_book, .int t_acts, .ref q_t_kept, .ref q_t_isKept, .int t_marks, .ref q_t_markStep, .ref q_t_markTread, .long t_seed, .int t_stumbled, .ref q_t_order, .int t_lineMany, .int t_lineOrder, .int t_whoseMany, .int t_whoseFirst, .int t_restMany, .int t_restFirst, .ref q_t_gains, .ref q_t_value]))] sz) := by
  refine MetZ (cc := cX8_noWalker) (maxL := 2) (by decide) rfl (Nat.le_of_ble_eq_true rfl) (fun _ h => h) ?_
  intro p e s m args below meth c A Q ls hx CF hK hA hD hP hS hl hB hAe hsz hret
  have hb := CF.2.1
  have hml := CF.2.2.1
  have hown := CF.2.2.2.1
  have hts := CF.2.2.2.2
  have hD0 := hD
  replace hl : lv_has ls 2 [(0, .ref q_t), (1, .int x1)] := hl
  have hinX8 : ∀ w ∈ wsX80, w ∈ wsX8_noWalker := fun _ h => List.mem_cons_of_mem _ (List.mem_append_right _ h)
  have w_0 := hts (.fieldLink RX8 66 "PassInStepModel" "walkers" "I") (by decide +kernel)
  rw [f_X8_noWalker] at hf
  refine lv_iload_n hx hb dX8_noWalker_0 rfl (lv_at hl 1 rfl) ?_
  refine lv_i2l hx hb dX8_noWalker_1 rfl ?_
  refine lv_lconst (v := 0) hx hb dX8_noWalker_2 (by decide) ?_
  refine lv_aload_n hx hb dX8_noWalker_3 rfl (lv_at hl 0 rfl) ?_
  refine va_get (D := (dC, dI)) (ci := 8) (v := .int t_walkers) (C := RX8) (T := TX8) (N := 33) hx hb hts hinX8 hown hK.1 hP 0 rfl rfl 7 (by decide) w_0 (fun _ h9 => h9) rfl dX8_noWalker_4 ?_
  refine lv_iconst (v := 1) hx hb dX8_noWalker_7 (by decide) ?_
  refine lv_isub hx hb dX8_noWalker_8 ?_
  refine lv_i2l hx hb dX8_noWalker_9 rfl ?_
  obtain ⟨r1, e3, hf⟩ := bd_ok hf
  refine kSi (As := [.long ((x1).toInt64), .long (0 : Int64), .long (((t_walkers - 1)).toInt64)]) CF (va_cwS 3 hts gX8_noWalker_X8_in rfl rfl rfl (by decide +kernel) ⟨Nat.le_of_ble_eq_true rfl, Nat.le_of_ble_eq_true rfl⟩) PU_blind hP hD hS hA [] (fun h1 h2 h3 => PU_pre hK h1 A h2 h3) (c_X8_in l dC dI cI cZ _ ((x1).toInt64) (0 : Int64) (((t_walkers - 1)).toInt64) r1 e3) rfl rfl rfl rfl hl.1 rfl (Nat.le_of_ble_eq_true rfl) dX8_noWalker_10 ⟨Nat.zero_le _, Nat.zero_le _⟩ (fun H locs hP hS => ?_)
  replace hP : va_P (dC, dI) vwCl [(q_t, .inr (8, [.int t_thrown, .ref q_t_text, .int t_textSize, .int t_place, .int t_depth, .int t_noon, .int t_later, .int t_walkers, .ref q_t_beat, .ref q_t_kind, .ref q_t_readSnow, .int t_readWalkers, .ref q_t_readWalker, .ref q_t_page, .ref q_t_trial, .ref q_t_book, .int t_acts, .ref q_t_kept, .ref q_t_isKept, .int t_marks, .ref q_t_markStep, .ref q_t_markTread, .long t_seed, .int t_stumbled, .ref q_t_order, .int t_lineMany, .int t_lineOrder, .int t_whoseMany, .int t_whoseFirst, .int t_restMany, .int t_restFirst, .ref q_t_gains, .ref q_t_value]))] H := hP
  refine lv_if_ne (tgt := 20) hx hb dX8_noWalker_13 (by decide) (fun hc => ?_) (fun hc => ?_)
  · replace hf := iq hc hf
    refine lv_iconst (v := 0) hx hb dX8_noWalker_20 (by decide) ?_
    have e0 := ij1 hf
    refine W.eq (congrArg (fun z => F0 m 21 ls [.int z]) e0) ?_
    exact hret _ _ _ _ hP hS (by rw [← e0]; rfl) dX8_noWalker_21
  · replace hf := ip hc hf
    refine lv_iconst (v := 1) hx hb dX8_noWalker_16 (by decide) ?_
    refine lv_goto (tgt := 21) hx hb dX8_noWalker_17 (by decide) ?_
    have e0 := ij1 hf
    refine W.eq (congrArg (fun z => F0 m 21 ls [.int z]) e0) ?_
    exact hret _ _ _ _ hP hS (by rw [← e0]; rfl) dX8_noWalker_21
abbrev rm_X8_write : Room := { frames := 1, cells := 0, slots := 0, locals := 25 }
set_option maxHeartbeats 4000000 in
set_option maxRecDepth 100000 in
theorem c_X8_write (l : Launch) (dC : Nat → ClassId) (dI : Nat → Nat → Nat) (cI cZ : ClassId) (q_t q_t_text q_t_beat q_t_kind q_t_readSnow q_t_readWalker q_t_page q_t_trial q_t_book q_t_kept q_t_isKept q_t_markStep q_t_markTread q_t_order q_t_gains q_t_value : Nat) (sz : Nat) (t_thrown : Int32) (t_textSize : Int32) (t_place : Int32) (t_depth : Int32) (t_noon : Int32) (t_later : Int32) (t_walkers : Int32) (t_readWalkers : Int32) (t_acts : Int32) (t_marks : Int32) (t_seed : Int64) (t_stumbled : Int32) (t_lineMany : Int32) (t_lineOrder : Int32) (t_whoseMany : Int32) (t_whoseFirst : Int32) (t_restMany : Int32) (t_restFirst : Int32) (t_text : Nat → Int32) (x1 : Int32) (r_ : Int32) (o_t_thrown : Int32) (o_t_textSize : Int32) (o_t_text : Nat → Int32) (hf : f_X8_write x1 t_thrown t_textSize t_text = some (r_, o_t_thrown, o_t_textSize, o_t_text)) : Met l yX8_write wsX8_write rm_X8_write (va_Pc [.ref q_t, .int x1] (PU (dC, dI) cI cZ [(q_t, .inr (8, [.int t_thrown, .ref q_t_text, .int t_textSize, .int t_place, .int t_depth, .int t_noon, .int t_later, .int t_walkers, .ref q_t_beat, .ref q_t_kind, .ref q_t_readSnow, .int t_readWalkers, .ref q_t_readWalker, .ref q_t_page, .ref q_t_trial, .ref q_t_book, .int t_acts, .ref q_t_kept, .ref q_t_isKept, .int t_marks, .ref q_t_markStep, .ref q_t_markTread, .long t_seed, .int t_stumbled, .ref q_t_order, .int t_lineMany, .int t_lineOrder, .int t_whoseMany, .int t_whoseFirst, .int t_restMany, .int t_restFirst, .ref q_t_gains, .ref q_t_value])), (q_t_text, .inl (cI, 48, .inl t_text))] sz)) (va_Qi (fun (r : Int32) (_ : Unit) => r = r_) (fun _ t => va_P (dC, dI) vwCl [(q_t, .inr (8, [.int o_t_thrown, .ref q_t_text, .int o_t_textSize, .int t_place, .int t_depth, .int t_noon, .int t_later, .int t_walkers, .ref q_t_beat, .ref q_t_kind, .ref q_t_readSnow, .int t_readWalkers, .ref q_t_readWalker, .ref q_t_page, .ref q_t_trial, .ref q_t_book, .int t_acts, .ref q_t_kept, .ref q_t_isKept, .int t_marks, .ref q_t_markStep, .ref q_t_markTread, .long t_seed, .int t_stumbled, .ref q_t_order, .int t_lineMany, .int t_lineOrder, .int t_whoseMany, .int t_whoseFirst, .int t_restMany, .int t_restFirst, .ref q_t_gains, .ref q_t_value])), (q_t_text, .inl (cI, 48, .inl o_t_text))] t.heap) (va_A [(q_t, .inr (8, [.int t_thrown, .ref q_t_text, .int t_textSize, .int t_place, .int t_depth, .int t_noon, .int t_later, .int t_walkers, .ref q_t_beat, .ref q_t_kind, .ref q_t_readSnow, .int t_readWalkers, .ref q_t_readWalker, .ref q_t_page, .ref q_t_trial, .ref q_t_book, .int t_acts, .ref q_t_kept, .ref q_t_isKept, .int t_marks, .ref q_t_markStep, .ref q_t_markTread, .long t_seed, .int t_stumbled, .ref q_t_order, .int t_lineMany, .int t_lineOrder, .int t_whoseMany, .int t_whoseFirst, .int t_restMany, .int t_restFirst, .ref q_t_gains, .ref q_t_value])), (q_t_text, .inl (cI, 48, .inl t_text))] sz)) 0 0 (va_A [(q_t, .inr (8, [.int t_thrown, .ref q_t_text, .int t_textSize, .int t_place, .int t_depth, .int t_noon, .int t_later, .int t_walkers, .ref q_t_beat, .ref q_t_kind, .ref q_t_readSnow, .int t_readWalkers, .ref q_t_readWalker, .ref q_t_page, .ref q_t_trial, .ref q_t_book, .int t_acts, .ref q_t_kept, .ref q_t_isKept, .int t_marks, .ref q_t_markStep, .ref q_t_markTread, .long t_seed, .int t_stumbled, .ref q_t_order, .int t_lineMany, .int t_lineOrder, .int t_whoseMany, .int t_whoseFirst, .int t_restMany, .int t_restFirst, .ref q_t_gains, .ref q_t_value])), (q_t_text, .inl (cI, 48, .inl t_text))] sz) := by
  refine MetI (cc := cX8_write) (maxL := 2) (by decide) rfl (Nat.le_of_ble_eq_true rfl) (fun _ h => h) ?_
  intro p e s m args below meth c A Q ls hx CF hK hA hD hP hS hl hB hAe hsz hret
  have hb := CF.2.1
  have hml := CF.2.2.1
  have hown := CF.2.2.2.1
  have hts := CF.2.2.2.2
  have hD0 := hD
  replace hl : lv_has ls 2 [(0, .ref q_t), (1, .int x1)] := hl
  have hinX8 : ∀ w ∈ wsX80, w ∈ wsX8_write := fun _ h => List.mem_cons_of_mem _ (List.mem_append_right _ h)
  have w_0 := hts (.fieldLink RX8 63 "PassInStepModel" "thrown" "I") (by decide +kernel)
  have w_1 := hts (.constantLong RX8 73 (255)) (by decide +kernel)
  have w_2 := hts (.fieldLink RX8 75 "PassInStepModel" "textSize" "I") (by decide +kernel)
  have w_3 := hts (.fieldLink RX8 7 "PassInStepModel" "text" "[I") (by decide +kernel)
  rw [f_X8_write] at hf
  refine lv_aload_n hx hb dX8_write_0 rfl (lv_at hl 0 rfl) ?_
  refine lv_iconst (v := 0) hx hb dX8_write_1 (by decide) ?_
  refine va_put (D := (dC, dI)) (ci := 8) (v := .int 0) (ty := .int) (C := RX8) (T := TX8) (N := 33) hx hb hts hinX8 tyX8 tyX8_ok nmX8 hown hK.1 hP hD hS 0 rfl rfl 0 (by decide) w_0 (fun _ h9 => h9) rfl (by decide +kernel) rfl rfl (Nat.le_of_ble_eq_true rfl) dX8_write_2 (fun H locs hP hD hS => ?_)
  replace hP : va_P (dC, dI) vwCl [(q_t, .inr (8, [.int 0, .ref q_t_text, .int t_textSize, .int t_place, .int t_depth, .int t_noon, .int t_later, .int t_walkers, .ref q_t_beat, .ref q_t_kind, .ref q_t_readSnow, .int t_readWalkers, .ref q_t_readWalker, .ref q_t_page, .ref q_t_trial, .ref q_t_book, .int t_acts, .ref q_t_kept, .ref q_t_isKept, .int t_marks, .ref q_t_markStep, .ref q_t_markTread, .long t_seed, .int t_stumbled, .ref q_t_order, .int t_lineMany, .int t_lineOrder, .int t_whoseMany, .int t_whoseFirst, .int t_restMany, .int t_restFirst, .ref q_t_gains, .ref q_t_value])), (q_t_text, .inl (cI, 48, .inl t_text))] H := hP
  replace hD : va_D A [(q_t, .inr (8, [.int 0, .ref q_t_text, .int t_textSize, .int t_place, .int t_depth, .int t_noon, .int t_later, .int t_walkers, .ref q_t_beat, .ref q_t_kind, .ref q_t_readSnow, .int t_readWalkers, .ref q_t_readWalker, .ref q_t_page, .ref q_t_trial, .ref q_t_book, .int t_acts, .ref q_t_kept, .ref q_t_isKept, .int t_marks, .ref q_t_markStep, .ref q_t_markTread, .long t_seed, .int t_stumbled, .ref q_t_order, .int t_lineMany, .int t_lineOrder, .int t_whoseMany, .int t_whoseFirst, .int t_restMany, .int t_restFirst, .ref q_t_gains, .ref q_t_value])), (q_t_text, .inl (cI, 48, .inl t_text))] := hD
  refine lv_iload_n hx hb dX8_write_5 rfl (lv_at hl 1 rfl) ?_
  refine lv_i2l hx hb dX8_write_6 rfl ?_
  refine lv_lconst (v := 0) hx hb dX8_write_7 (by decide) ?_
  refine lv_ldc2 (v := 255) hx hb hown w_1 dX8_write_8 ?_
  obtain ⟨r1, e3, hf⟩ := bd_ok hf
  refine kSi (As := [.long ((x1).toInt64), .long (0 : Int64), .long (255 : Int64)]) CF (va_cwS 3 hts gX8_write_X8_in rfl rfl rfl (by decide +kernel) ⟨Nat.le_of_ble_eq_true rfl, Nat.le_of_ble_eq_true rfl⟩) PU_blind hP hD hS hA [] (fun h1 h2 h3 => PU_pre hK h1 A h2 h3) (c_X8_in l dC dI cI cZ _ ((x1).toInt64) (0 : Int64) (255 : Int64) r1 e3) rfl rfl rfl rfl hl.1 rfl (Nat.le_of_ble_eq_true rfl) dX8_write_11 ⟨Nat.zero_le _, Nat.zero_le _⟩ (fun H locs hP hS => ?_)
  replace hP : va_P (dC, dI) vwCl [(q_t, .inr (8, [.int 0, .ref q_t_text, .int t_textSize, .int t_place, .int t_depth, .int t_noon, .int t_later, .int t_walkers, .ref q_t_beat, .ref q_t_kind, .ref q_t_readSnow, .int t_readWalkers, .ref q_t_readWalker, .ref q_t_page, .ref q_t_trial, .ref q_t_book, .int t_acts, .ref q_t_kept, .ref q_t_isKept, .int t_marks, .ref q_t_markStep, .ref q_t_markTread, .long t_seed, .int t_stumbled, .ref q_t_order, .int t_lineMany, .int t_lineOrder, .int t_whoseMany, .int t_whoseFirst, .int t_restMany, .int t_restFirst, .ref q_t_gains, .ref q_t_value])), (q_t_text, .inl (cI, 48, .inl t_text))] H := hP
  refine lv_if_ne (tgt := 20) hx hb dX8_write_14 (by decide) (fun hc => ?_) (fun hc => ?_)
  · replace hf := iq hc hf
    refine lv_aload_n hx hb dX8_write_20 rfl (lv_at hl 0 rfl) ?_
    refine va_get (D := (dC, dI)) (ci := 8) (v := .int t_textSize) (C := RX8) (T := TX8) (N := 33) hx hb hts hinX8 hown hK.1 hP 0 rfl rfl 2 (by decide) w_2 (fun _ h9 => h9) rfl dX8_write_21 ?_
    refine lv_bipush (v := 48) hx hb dX8_write_24 (by decide) ?_
    refine lv_icmp_ne (tgt := 32) hx hb dX8_write_26 (by decide) (fun hc => ?_) (fun hc => ?_)
    · replace hf := iq hc hf
      refine lv_aload_n hx hb dX8_write_32 rfl (lv_at hl 0 rfl) ?_
      refine va_get (D := (dC, dI)) (ci := 8) (v := .ref q_t_text) (C := RX8) (T := TX8) (N := 33) hx hb hts hinX8 hown hK.1 hP 0 rfl rfl 1 (by decide) w_3 (fun _ h9 => h9) rfl dX8_write_33 ?_
      refine lv_aload_n hx hb dX8_write_36 rfl (lv_at hl 0 rfl) ?_
      refine va_get (D := (dC, dI)) (ci := 8) (v := .int t_textSize) (C := RX8) (T := TX8) (N := 33) hx hb hts hinX8 hown hK.1 hP 0 rfl rfl 2 (by decide) w_2 (fun _ h9 => h9) rfl dX8_write_37 ?_
      refine lv_iload_n hx hb dX8_write_40 rfl (lv_at hl 1 rfl) ?_
      refine kast hx hb hK.1 hP hD hS 1 0 rfl rfl dX8_write_41 hf (fun w4 H locs hP hD hS hf => ?_)
      replace hP : va_P (dC, dI) vwCl [(q_t, .inr (8, [.int 0, .ref q_t_text, .int t_textSize, .int t_place, .int t_depth, .int t_noon, .int t_later, .int t_walkers, .ref q_t_beat, .ref q_t_kind, .ref q_t_readSnow, .int t_readWalkers, .ref q_t_readWalker, .ref q_t_page, .ref q_t_trial, .ref q_t_book, .int t_acts, .ref q_t_kept, .ref q_t_isKept, .int t_marks, .ref q_t_markStep, .ref q_t_markTread, .long t_seed, .int t_stumbled, .ref q_t_order, .int t_lineMany, .int t_lineOrder, .int t_whoseMany, .int t_whoseFirst, .int t_restMany, .int t_restFirst, .ref q_t_gains, .ref q_t_value])), (q_t_text, .inl (cI, 48, .inl w4))] H := hP
      replace hD : va_D A [(q_t, .inr (8, [.int 0, .ref q_t_text, .int t_textSize, .int t_place, .int t_depth, .int t_noon, .int t_later, .int t_walkers, .ref q_t_beat, .ref q_t_kind, .ref q_t_readSnow, .int t_readWalkers, .ref q_t_readWalker, .ref q_t_page, .ref q_t_trial, .ref q_t_book, .int t_acts, .ref q_t_kept, .ref q_t_isKept, .int t_marks, .ref q_t_markStep, .ref q_t_markTread, .long t_seed, .int t_stumbled, .ref q_t_order, .int t_lineMany, .int t_lineOrder, .int t_whoseMany, .int t_whoseFirst, .int t_restMany, .int t_restFirst, .ref q_t_gains, .ref q_t_value])), (q_t_text, .inl (cI, 48, .inl w4))] := hD
      refine lv_aload_n hx hb dX8_write_42 rfl (lv_at hl 0 rfl) ?_
      refine lv_dup hx hb dX8_write_43 rfl ?_
      refine va_get (D := (dC, dI)) (ci := 8) (v := .int t_textSize) (C := RX8) (T := TX8) (N := 33) hx hb hts hinX8 hown hK.1 hP 0 rfl rfl 2 (by decide) w_2 (fun _ h9 => h9) rfl dX8_write_44 ?_
      refine lv_iconst (v := 1) hx hb dX8_write_47 (by decide) ?_
      refine lv_iadd hx hb dX8_write_48 ?_
      refine va_put (D := (dC, dI)) (ci := 8) (v := .int (t_textSize + 1)) (ty := .int) (C := RX8) (T := TX8) (N := 33) hx hb hts hinX8 tyX8 tyX8_ok nmX8 hown hK.1 hP hD hS 0 rfl rfl 2 (by decide) w_2 (fun _ h9 => h9) rfl (by decide +kernel) rfl rfl (Nat.le_of_ble_eq_true rfl) dX8_write_49 (fun H locs hP hD hS => ?_)
      replace hP : va_P (dC, dI) vwCl [(q_t, .inr (8, [.int 0, .ref q_t_text, .int (t_textSize + 1), .int t_place, .int t_depth, .int t_noon, .int t_later, .int t_walkers, .ref q_t_beat, .ref q_t_kind, .ref q_t_readSnow, .int t_readWalkers, .ref q_t_readWalker, .ref q_t_page, .ref q_t_trial, .ref q_t_book, .int t_acts, .ref q_t_kept, .ref q_t_isKept, .int t_marks, .ref q_t_markStep, .ref q_t_markTread, .long t_seed, .int t_stumbled, .ref q_t_order, .int t_lineMany, .int t_lineOrder, .int t_whoseMany, .int t_whoseFirst, .int t_restMany, .int t_restFirst, .ref q_t_gains, .ref q_t_value])), (q_t_text, .inl (cI, 48, .inl w4))] H := hP
      replace hD : va_D A [(q_t, .inr (8, [.int 0, .ref q_t_text, .int (t_textSize + 1), .int t_place, .int t_depth, .int t_noon, .int t_later, .int t_walkers, .ref q_t_beat, .ref q_t_kind, .ref q_t_readSnow, .int t_readWalkers, .ref q_t_readWalker, .ref q_t_page, .ref q_t_trial, .ref q_t_book, .int t_acts, .ref q_t_kept, .ref q_t_isKept, .int t_marks, .ref q_t_markStep, .ref q_t_markTread, .long t_seed, .int t_stumbled, .ref q_t_order, .int t_lineMany, .int t_lineOrder, .int t_whoseMany, .int t_whoseFirst, .int t_restMany, .int t_restFirst, .ref q_t_gains, .ref q_t_value])), (q_t_text, .inl (cI, 48, .inl w4))] := hD
      refine lv_aload_n hx hb dX8_write_52 rfl (lv_at hl 0 rfl) ?_
      refine va_get (D := (dC, dI)) (ci := 8) (v := .int (t_textSize + 1)) (C := RX8) (T := TX8) (N := 33) hx hb hts hinX8 hown hK.1 hP 0 rfl rfl 2 (by decide) w_2 (fun _ h9 => h9) rfl dX8_write_53 ?_
      obtain ⟨e0, hf⟩ := ij2 hf
      obtain ⟨e1, hf⟩ := ijc hf
      obtain ⟨e2, hf⟩ := ijc hf
      have e3 := hf
      refine W.eq (congrArg (fun z => F0 m 56 ls [.int z]) e0) ?_
      exact hret _ _ _ _ (by rw [← e1, ← e2, ← e3]; exact hP) hS dX8_write_56
    · replace hf := ip hc hf
      refine lv_bipush (v := (-4)) hx hb dX8_write_29 (by decide) ?_
      obtain ⟨e0, hf⟩ := ij2 hf
      obtain ⟨e1, hf⟩ := ijc hf
      obtain ⟨e2, hf⟩ := ijc hf
      have e3 := hf
      refine W.eq (congrArg (fun z => F0 m 31 ls [.int z]) e0) ?_
      exact hret _ _ _ _ (by rw [← e1, ← e2, ← e3]; exact hP) hS dX8_write_31
  · replace hf := ip hc hf
    refine lv_bipush (v := (-2)) hx hb dX8_write_17 (by decide) ?_
    obtain ⟨e0, hf⟩ := ij2 hf
    obtain ⟨e1, hf⟩ := ijc hf
    obtain ⟨e2, hf⟩ := ijc hf
    have e3 := hf
    refine W.eq (congrArg (fun z => F0 m 19 ls [.int z]) e0) ?_
    exact hret _ _ _ _ (by rw [← e1, ← e2, ← e3]; exact hP) hS dX8_write_19
abbrev rm_X8_wipe : Room := { frames := 0, cells := 0, slots := 0, locals := 0 }
set_option maxHeartbeats 4000000 in
set_option maxRecDepth 100000 in
theorem c_X8_wipe (l : Launch) (dC : Nat → ClassId) (dI : Nat → Nat → Nat) (cI cZ : ClassId) (q_t q_t_text q_t_beat q_t_kind q_t_readSnow q_t_readWalker q_t_page q_t_trial q_t_book q_t_kept q_t_isKept q_t_markStep q_t_markTread q_t_order q_t_gains q_t_value : Nat) (sz : Nat) (t_thrown : Int32) (t_textSize : Int32) (t_place : Int32) (t_depth : Int32) (t_noon : Int32) (t_later : Int32) (t_walkers : Int32) (t_readWalkers : Int32) (t_acts : Int32) (t_marks : Int32) (t_seed : Int64) (t_stumbled : Int32) (t_lineMany : Int32) (t_lineOrder : Int32) (t_whoseMany : Int32) (t_whoseFirst : Int32) (t_restMany : Int32) (t_restFirst : Int32) (r_ : Int32) (o_t_thrown : Int32) (o_t_textSize : Int32) (hf : f_X8_wipe t_thrown t_textSize = some (r_, o_t_thrown, o_t_textSize)) : Met l yX8_wipe wsX8_wipe rm_X8_wipe (va_Pc [.ref q_t] (PU (dC, dI) cI cZ [(q_t, .inr (8, [.int t_thrown, .ref q_t_text, .int t_textSize, .int t_place, .int t_depth, .int t_noon, .int t_later, .int t_walkers, .ref q_t_beat, .ref q_t_kind, .ref q_t_readSnow, .int t_readWalkers, .ref q_t_readWalker, .ref q_t_page, .ref q_t_trial, .ref q_t_book, .int t_acts, .ref q_t_kept, .ref q_t_isKept, .int t_marks, .ref q_t_markStep, .ref q_t_markTread, .long t_seed, .int t_stumbled, .ref q_t_order, .int t_lineMany, .int t_lineOrder, .int t_whoseMany, .int t_whoseFirst, .int t_restMany, .int t_restFirst, .ref q_t_gains, .ref q_t_value]))] sz)) (va_Qi (fun (r : Int32) (_ : Unit) => r = r_) (fun _ t => va_P (dC, dI) vwCl [(q_t, .inr (8, [.int o_t_thrown, .ref q_t_text, .int o_t_textSize, .int t_place, .int t_depth, .int t_noon, .int t_later, .int t_walkers, .ref q_t_beat, .ref q_t_kind, .ref q_t_readSnow, .int t_readWalkers, .ref q_t_readWalker, .ref q_t_page, .ref q_t_trial, .ref q_t_book, .int t_acts, .ref q_t_kept, .ref q_t_isKept, .int t_marks, .ref q_t_markStep, .ref q_t_markTread, .long t_seed, .int t_stumbled, .ref q_t_order, .int t_lineMany, .int t_lineOrder, .int t_whoseMany, .int t_whoseFirst, .int t_restMany, .int t_restFirst, .ref q_t_gains, .ref q_t_value]))] t.heap) (va_A [(q_t, .inr (8, [.int t_thrown, .ref q_t_text, .int t_textSize, .int t_place, .int t_depth, .int t_noon, .int t_later, .int t_walkers, .ref q_t_beat, .ref q_t_kind, .ref q_t_readSnow, .int t_readWalkers, .ref q_t_readWalker, .ref q_t_page, .ref q_t_trial, .ref q_t_book, .int t_acts, .ref q_t_kept, .ref q_t_isKept, .int t_marks, .ref q_t_markStep, .ref q_t_markTread, .long t_seed, .int t_stumbled, .ref q_t_order, .int t_lineMany, .int t_lineOrder, .int t_whoseMany, .int t_whoseFirst, .int t_restMany, .int t_restFirst, .ref q_t_gains, .ref q_t_value]))] sz)) 0 0 (va_A [(q_t, .inr (8, [.int t_thrown, .ref q_t_text, .int t_textSize, .int t_place, .int t_depth, .int t_noon, .int t_later, .int t_walkers, .ref q_t_beat, .ref q_t_kind, .ref q_t_readSnow, .int t_readWalkers, .ref q_t_readWalker, .ref q_t_page, .ref q_t_trial, .ref q_t_book, .int t_acts, .ref q_t_kept, .ref q_t_isKept, .int t_marks, .ref q_t_markStep, .ref q_t_markTread, .long t_seed, .int t_stumbled, .ref q_t_order, .int t_lineMany, .int t_lineOrder, .int t_whoseMany, .int t_whoseFirst, .int t_restMany, .int t_restFirst, .ref q_t_gains, .ref q_t_value]))] sz) := by
  refine MetI (cc := cX8_wipe) (maxL := 2) (by decide) rfl (Nat.le_of_ble_eq_true rfl) (fun _ h => h) ?_
  intro p e s m args below meth c A Q ls hx CF hK hA hD hP hS hl hB hAe hsz hret
  have hb := CF.2.1
  have hml := CF.2.2.1
  have hown := CF.2.2.2.1
  have hts := CF.2.2.2.2
  have hD0 := hD
  replace hl : lv_has ls 2 [(0, .ref q_t)] := hl
  have hinX8 : ∀ w ∈ wsX80, w ∈ wsX8_wipe := fun _ h => List.mem_cons_of_mem _ (List.mem_append_right _ h)
  have w_0 := hts (.fieldLink RX8 63 "PassInStepModel" "thrown" "I") (by decide +kernel)
  have w_1 := hts (.fieldLink RX8 75 "PassInStepModel" "textSize" "I") (by decide +kernel)
  rw [f_X8_wipe] at hf
  refine lv_aload_n hx hb dX8_wipe_0 rfl (lv_at hl 0 rfl) ?_
  refine lv_iconst (v := 0) hx hb dX8_wipe_1 (by decide) ?_
  refine va_put (D := (dC, dI)) (ci := 8) (v := .int 0) (ty := .int) (C := RX8) (T := TX8) (N := 33) hx hb hts hinX8 tyX8 tyX8_ok nmX8 hown hK.1 hP hD hS 0 rfl rfl 0 (by decide) w_0 (fun _ h9 => h9) rfl (by decide +kernel) rfl rfl (Nat.le_of_ble_eq_true rfl) dX8_wipe_2 (fun H locs hP hD hS => ?_)
  replace hP : va_P (dC, dI) vwCl [(q_t, .inr (8, [.int 0, .ref q_t_text, .int t_textSize, .int t_place, .int t_depth, .int t_noon, .int t_later, .int t_walkers, .ref q_t_beat, .ref q_t_kind, .ref q_t_readSnow, .int t_readWalkers, .ref q_t_readWalker, .ref q_t_page, .ref q_t_trial, .ref q_t_book, .int t_acts, .ref q_t_kept, .ref q_t_isKept, .int t_marks, .ref q_t_markStep, .ref q_t_markTread, .long t_seed, .int t_stumbled, .ref q_t_order, .int t_lineMany, .int t_lineOrder, .int t_whoseMany, .int t_whoseFirst, .int t_restMany, .int t_restFirst, .ref q_t_gains, .ref q_t_value]))] H := hP
  replace hD : va_D A [(q_t, .inr (8, [.int 0, .ref q_t_text, .int t_textSize, .int t_place, .int t_depth, .int t_noon, .int t_later, .int t_walkers, .ref q_t_beat, .ref q_t_kind, .ref q_t_readSnow, .int t_readWalkers, .ref q_t_readWalker, .ref q_t_page, .ref q_t_trial, .ref q_t_book, .int t_acts, .ref q_t_kept, .ref q_t_isKept, .int t_marks, .ref q_t_markStep, .ref q_t_markTread, .long t_seed, .int t_stumbled, .ref q_t_order, .int t_lineMany, .int t_lineOrder, .int t_whoseMany, .int t_whoseFirst, .int t_restMany, .int t_restFirst, .ref q_t_gains, .ref q_t_value]))] := hD
  refine lv_aload_n hx hb dX8_wipe_5 rfl (lv_at hl 0 rfl) ?_
  refine va_get (D := (dC, dI)) (ci := 8) (v := .int t_textSize) (C := RX8) (T := TX8) (N := 33) hx hb hts hinX8 hown hK.1 hP 0 rfl rfl 2 (by decide) w_1 (fun _ h9 => h9) rfl dX8_wipe_6 ?_
  refine lv_istore_n (lv' := [(1, .int t_textSize), (0, .ref q_t)]) hx hb dX8_wipe_9 rfl hl (by decide) rfl (fun ls hl => ?_)
  refine lv_aload_n hx hb dX8_wipe_10 rfl (lv_at hl 1 rfl) ?_
  refine lv_iconst (v := 0) hx hb dX8_wipe_11 (by decide) ?_
  refine va_put (D := (dC, dI)) (ci := 8) (v := .int 0) (ty := .int) (C := RX8) (T := TX8) (N := 33) hx hb hts hinX8 tyX8 tyX8_ok nmX8 hown hK.1 hP hD hS 0 rfl rfl 2 (by decide) w_1 (fun _ h9 => h9) rfl (by decide +kernel) rfl rfl (Nat.le_of_ble_eq_true rfl) dX8_wipe_12 (fun H locs hP hD hS => ?_)
  replace hP : va_P (dC, dI) vwCl [(q_t, .inr (8, [.int 0, .ref q_t_text, .int 0, .int t_place, .int t_depth, .int t_noon, .int t_later, .int t_walkers, .ref q_t_beat, .ref q_t_kind, .ref q_t_readSnow, .int t_readWalkers, .ref q_t_readWalker, .ref q_t_page, .ref q_t_trial, .ref q_t_book, .int t_acts, .ref q_t_kept, .ref q_t_isKept, .int t_marks, .ref q_t_markStep, .ref q_t_markTread, .long t_seed, .int t_stumbled, .ref q_t_order, .int t_lineMany, .int t_lineOrder, .int t_whoseMany, .int t_whoseFirst, .int t_restMany, .int t_restFirst, .ref q_t_gains, .ref q_t_value]))] H := hP
  replace hD : va_D A [(q_t, .inr (8, [.int 0, .ref q_t_text, .int 0, .int t_place, .int t_depth, .int t_noon, .int t_later, .int t_walkers, .ref q_t_beat, .ref q_t_kind, .ref q_t_readSnow, .int t_readWalkers, .ref q_t_readWalker, .ref q_t_page, .ref q_t_trial, .ref q_t_book, .int t_acts, .ref q_t_kept, .ref q_t_isKept, .int t_marks, .ref q_t_markStep, .ref q_t_markTread, .long t_seed, .int t_stumbled, .ref q_t_order, .int t_lineMany, .int t_lineOrder, .int t_whoseMany, .int t_whoseFirst, .int t_restMany, .int t_restFirst, .ref q_t_gains, .ref q_t_value]))] := hD
  refine lv_iload_n hx hb dX8_wipe_15 rfl (lv_at hl 0 rfl) ?_
  obtain ⟨e0, hf⟩ := ij2 hf
  obtain ⟨e1, hf⟩ := ijc hf
  have e2 := hf
  refine W.eq (congrArg (fun z => F0 m 16 ls [.int z]) e0) ?_
  exact hret _ _ _ _ (by rw [← e1, ← e2]; exact hP) hS dX8_wipe_16
abbrev rm_X8_figure : Room := { frames := 1, cells := 0, slots := 0, locals := 25 }
set_option maxHeartbeats 4000000 in
set_option maxRecDepth 100000 in
theorem c_X8_figure (l : Launch) (dC : Nat → ClassId) (dI : Nat → Nat → Nat) (cI cZ : ClassId) (q_t q_t_text q_t_beat q_t_kind q_t_readSnow q_t_readWalker q_t_page q_t_trial q_t_book q_t_kept q_t_isKept q_t_markStep q_t_markTread q_t_order q_t_gains q_t_value : Nat) (sz : Nat) (t_thrown : Int32) (t_textSize : Int32) (t_place : Int32) (t_depth : Int32) (t_noon : Int32) (t_later : Int32) (t_walkers : Int32) (t_readWalkers : Int32) (t_acts : Int32) (t_marks : Int32) (t_seed : Int64) (t_stumbled : Int32) (t_lineMany : Int32) (t_lineOrder : Int32) (t_whoseMany : Int32) (t_whoseFirst : Int32) (t_restMany : Int32) (t_restFirst : Int32) (t_text : Nat → Int32) (x1 : Int32) (x2 : Int32) (r_ : Int32) (o_t_place : Int32) (hf : f_X8_figure x1 x2 t_textSize t_place t_text = some (r_, o_t_place)) : Met l yX8_figure wsX8_figure rm_X8_figure (va_Pc [.ref q_t, .int x1, .int x2] (PU (dC, dI) cI cZ [(q_t, .inr (8, [.int t_thrown, .ref q_t_text, .int t_textSize, .int t_place, .int t_depth, .int t_noon, .int t_later, .int t_walkers, .ref q_t_beat, .ref q_t_kind, .ref q_t_readSnow, .int t_readWalkers, .ref q_t_readWalker, .ref q_t_page, .ref q_t_trial, .ref q_t_book, .int t_acts, .ref q_t_kept, .ref q_t_isKept, .int t_marks, .ref q_t_markStep, .ref q_t_markTread, .long t_seed, .int t_stumbled, .ref q_t_order, .int t_lineMany, .int t_lineOrder, .int t_whoseMany, .int t_whoseFirst, .int t_restMany, .int t_restFirst, .ref q_t_gains, .ref q_t_value])), (q_t_text, .inl (cI, 48, .inl t_text))] sz)) (va_Qi (fun (r : Int32) (_ : Unit) => r = r_) (fun _ t => va_P (dC, dI) vwCl [(q_t, .inr (8, [.int t_thrown, .ref q_t_text, .int t_textSize, .int o_t_place, .int t_depth, .int t_noon, .int t_later, .int t_walkers, .ref q_t_beat, .ref q_t_kind, .ref q_t_readSnow, .int t_readWalkers, .ref q_t_readWalker, .ref q_t_page, .ref q_t_trial, .ref q_t_book, .int t_acts, .ref q_t_kept, .ref q_t_isKept, .int t_marks, .ref q_t_markStep, .ref q_t_markTread, .long t_seed, .int t_stumbled, .ref q_t_order, .int t_lineMany, .int t_lineOrder, .int t_whoseMany, .int t_whoseFirst, .int t_restMany, .int t_restFirst, .ref q_t_gains, .ref q_t_value])), (q_t_text, .inl (cI, 48, .inl t_text))] t.heap) (va_A [(q_t, .inr (8, [.int t_thrown, .ref q_t_text, .int t_textSize, .int t_place, .int t_depth, .int t_noon, .int t_later, .int t_walkers, .ref q_t_beat, .ref q_t_kind, .ref q_t_readSnow, .int t_readWalkers, .ref q_t_readWalker, .ref q_t_page, .ref q_t_trial, .ref q_t_book, .int t_acts, .ref q_t_kept, .ref q_t_isKept, .int t_marks, .ref q_t_markStep, .ref q_t_markTread, .long t_seed, .int t_stumbled, .ref q_t_order, .int t_lineMany, .int t_lineOrder, .int t_whoseMany, .int t_whoseFirst, .int t_restMany, .int t_restFirst, .ref q_t_gains, .ref q_t_value])), (q_t_text, .inl (cI, 48, .inl t_text))] sz)) 0 0 (va_A [(q_t, .inr (8, [.int t_thrown, .ref q_t_text, .int t_textSize, .int t_place, .int t_depth, .int t_noon, .int t_later, .int t_walkers, .ref q_t_beat, .ref q_t_kind, .ref q_t_readSnow, .int t_readWalkers, .ref q_t_readWalker, .ref q_t_page, .ref q_t_trial, .ref q_t_book, .int t_acts, .ref q_t_kept, .ref q_t_isKept, .int t_marks, .ref q_t_markStep, .ref q_t_markTread, .long t_seed, .int t_stumbled, .ref q_t_order, .int t_lineMany, .int t_lineOrder, .int t_whoseMany, .int t_whoseFirst, .int t_restMany, .int t_restFirst, .ref q_t_gains, .ref q_t_value])), (q_t_text, .inl (cI, 48, .inl t_text))] sz) := by
  refine MetI (cc := cX8_figure) (maxL := 3) (by decide) rfl (Nat.le_of_ble_eq_true rfl) (fun _ h => h) ?_
  intro p e s m args below meth c A Q ls hx CF hK hA hD hP hS hl hB hAe hsz hret
  have hb := CF.2.1
  have hml := CF.2.2.1
  have hown := CF.2.2.2.1
  have hts := CF.2.2.2.2
  have hD0 := hD
  replace hl : lv_has ls 3 [(0, .ref q_t), (1, .int x1), (2, .int x2)] := hl
  have hinX8 : ∀ w ∈ wsX80, w ∈ wsX8_figure := fun _ h => List.mem_cons_of_mem _ (List.mem_append_right _ h)
  have w_0 := hts (.fieldLink RX8 78 "PassInStepModel" "place" "I") (by decide +kernel)
  have w_1 := hts (.fieldLink RX8 75 "PassInStepModel" "textSize" "I") (by decide +kernel)
  have w_2 := hts (.fieldLink RX8 7 "PassInStepModel" "text" "[I") (by decide +kernel)
  rw [f_X8_figure] at hf
  refine lv_aload_n hx hb dX8_figure_0 rfl (lv_at hl 0 rfl) ?_
  refine va_get (D := (dC, dI)) (ci := 8) (v := .int t_place) (C := RX8) (T := TX8) (N := 33) hx hb hts hinX8 hown hK.1 hP 0 rfl rfl 3 (by decide) w_0 (fun _ h9 => h9) rfl dX8_figure_1 ?_
  refine lv_aload_n hx hb dX8_figure_4 rfl (lv_at hl 0 rfl) ?_
  refine va_get (D := (dC, dI)) (ci := 8) (v := .int t_textSize) (C := RX8) (T := TX8) (N := 33) hx hb hts hinX8 hown hK.1 hP 0 rfl rfl 2 (by decide) w_1 (fun _ h9 => h9) rfl dX8_figure_5 ?_
  refine lv_icmp_eq (tgt := 34) hx hb dX8_figure_8 (by decide) (fun hc => ?_) (fun hc => ?_)
  · replace hf := ip hc hf
    refine lv_bipush (v := (-9)) hx hb dX8_figure_34 (by decide) ?_
    obtain ⟨e0, hf⟩ := ij2 hf
    have e1 := hf
    refine W.eq (congrArg (fun z => F0 m 36 ls [.int z]) e0) ?_
    exact hret _ _ _ _ (by rw [← e1]; exact hP) hS dX8_figure_36
  · replace hf := iq hc hf
    refine lv_aload_n hx hb dX8_figure_11 rfl (lv_at hl 0 rfl) ?_
    refine va_get (D := (dC, dI)) (ci := 8) (v := .ref q_t_text) (C := RX8) (T := TX8) (N := 33) hx hb hts hinX8 hown hK.1 hP 0 rfl rfl 1 (by decide) w_2 (fun _ h9 => h9) rfl dX8_figure_12 ?_
    refine lv_aload_n hx hb dX8_figure_15 rfl (lv_at hl 0 rfl) ?_
    refine va_get (D := (dC, dI)) (ci := 8) (v := .int t_place) (C := RX8) (T := TX8) (N := 33) hx hb hts hinX8 hown hK.1 hP 0 rfl rfl 3 (by decide) w_0 (fun _ h9 => h9) rfl dX8_figure_16 ?_
    refine kald hx hb hK.1 hP 1 0 rfl rfl dX8_figure_19 hf (fun v1 hf => ?_)
    refine lv_bipush (v := 48) hx hb dX8_figure_20 (by decide) ?_
    refine lv_isub hx hb dX8_figure_22 ?_
    refine lv_i2l hx hb dX8_figure_23 rfl ?_
    refine lv_iload_n hx hb dX8_figure_24 rfl (lv_at hl 1 rfl) ?_
    refine lv_i2l hx hb dX8_figure_25 rfl ?_
    refine lv_iload_n hx hb dX8_figure_26 rfl (lv_at hl 2 rfl) ?_
    refine lv_i2l hx hb dX8_figure_27 rfl ?_
    obtain ⟨r2, e4, hf⟩ := bd_ok hf
    refine kSi (As := [.long (((v1 - 48)).toInt64), .long ((x1).toInt64), .long ((x2).toInt64)]) CF (va_cwS 3 hts gX8_figure_X8_in rfl rfl rfl (by decide +kernel) ⟨Nat.le_of_ble_eq_true rfl, Nat.le_of_ble_eq_true rfl⟩) PU_blind hP hD hS hA [] (fun h1 h2 h3 => PU_pre hK h1 A h2 h3) (c_X8_in l dC dI cI cZ _ (((v1 - 48)).toInt64) ((x1).toInt64) ((x2).toInt64) r2 e4) rfl rfl rfl rfl hl.1 rfl (Nat.le_of_ble_eq_true rfl) dX8_figure_28 ⟨Nat.zero_le _, Nat.zero_le _⟩ (fun H locs hP hS => ?_)
    replace hP : va_P (dC, dI) vwCl [(q_t, .inr (8, [.int t_thrown, .ref q_t_text, .int t_textSize, .int t_place, .int t_depth, .int t_noon, .int t_later, .int t_walkers, .ref q_t_beat, .ref q_t_kind, .ref q_t_readSnow, .int t_readWalkers, .ref q_t_readWalker, .ref q_t_page, .ref q_t_trial, .ref q_t_book, .int t_acts, .ref q_t_kept, .ref q_t_isKept, .int t_marks, .ref q_t_markStep, .ref q_t_markTread, .long t_seed, .int t_stumbled, .ref q_t_order, .int t_lineMany, .int t_lineOrder, .int t_whoseMany, .int t_whoseFirst, .int t_restMany, .int t_restFirst, .ref q_t_gains, .ref q_t_value])), (q_t_text, .inl (cI, 48, .inl t_text))] H := hP
    refine lv_if_ne (tgt := 37) hx hb dX8_figure_31 (by decide) (fun hc => ?_) (fun hc => ?_)
    · replace hf := iq hc hf
      refine lv_aload_n hx hb dX8_figure_37 rfl (lv_at hl 0 rfl) ?_
      refine lv_dup hx hb dX8_figure_38 rfl ?_
      refine va_get (D := (dC, dI)) (ci := 8) (v := .int t_place) (C := RX8) (T := TX8) (N := 33) hx hb hts hinX8 hown hK.1 hP 0 rfl rfl 3 (by decide) w_0 (fun _ h9 => h9) rfl dX8_figure_39 ?_
      refine lv_iconst (v := 1) hx hb dX8_figure_42 (by decide) ?_
      refine lv_iadd hx hb dX8_figure_43 ?_
      refine va_put (D := (dC, dI)) (ci := 8) (v := .int (t_place + 1)) (ty := .int) (C := RX8) (T := TX8) (N := 33) hx hb hts hinX8 tyX8 tyX8_ok nmX8 hown hK.1 hP hD hS 0 rfl rfl 3 (by decide) w_0 (fun _ h9 => h9) rfl (by decide +kernel) rfl rfl (Nat.le_of_ble_eq_true rfl) dX8_figure_44 (fun H locs hP hD hS => ?_)
      replace hP : va_P (dC, dI) vwCl [(q_t, .inr (8, [.int t_thrown, .ref q_t_text, .int t_textSize, .int (t_place + 1), .int t_depth, .int t_noon, .int t_later, .int t_walkers, .ref q_t_beat, .ref q_t_kind, .ref q_t_readSnow, .int t_readWalkers, .ref q_t_readWalker, .ref q_t_page, .ref q_t_trial, .ref q_t_book, .int t_acts, .ref q_t_kept, .ref q_t_isKept, .int t_marks, .ref q_t_markStep, .ref q_t_markTread, .long t_seed, .int t_stumbled, .ref q_t_order, .int t_lineMany, .int t_lineOrder, .int t_whoseMany, .int t_whoseFirst, .int t_restMany, .int t_restFirst, .ref q_t_gains, .ref q_t_value])), (q_t_text, .inl (cI, 48, .inl t_text))] H := hP
      replace hD : va_D A [(q_t, .inr (8, [.int t_thrown, .ref q_t_text, .int t_textSize, .int (t_place + 1), .int t_depth, .int t_noon, .int t_later, .int t_walkers, .ref q_t_beat, .ref q_t_kind, .ref q_t_readSnow, .int t_readWalkers, .ref q_t_readWalker, .ref q_t_page, .ref q_t_trial, .ref q_t_book, .int t_acts, .ref q_t_kept, .ref q_t_isKept, .int t_marks, .ref q_t_markStep, .ref q_t_markTread, .long t_seed, .int t_stumbled, .ref q_t_order, .int t_lineMany, .int t_lineOrder, .int t_whoseMany, .int t_whoseFirst, .int t_restMany, .int t_restFirst, .ref q_t_gains, .ref q_t_value])), (q_t_text, .inl (cI, 48, .inl t_text))] := hD
      refine lv_aload_n hx hb dX8_figure_47 rfl (lv_at hl 0 rfl) ?_
      refine va_get (D := (dC, dI)) (ci := 8) (v := .ref q_t_text) (C := RX8) (T := TX8) (N := 33) hx hb hts hinX8 hown hK.1 hP 0 rfl rfl 1 (by decide) w_2 (fun _ h9 => h9) rfl dX8_figure_48 ?_
      refine lv_aload_n hx hb dX8_figure_51 rfl (lv_at hl 0 rfl) ?_
      refine va_get (D := (dC, dI)) (ci := 8) (v := .int (t_place + 1)) (C := RX8) (T := TX8) (N := 33) hx hb hts hinX8 hown hK.1 hP 0 rfl rfl 3 (by decide) w_0 (fun _ h9 => h9) rfl dX8_figure_52 ?_
      refine lv_iconst (v := 1) hx hb dX8_figure_55 (by decide) ?_
      refine lv_isub hx hb dX8_figure_56 ?_
      refine kald hx hb hK.1 hP 1 0 rfl rfl dX8_figure_57 hf (fun v5 hf => ?_)
      refine lv_bipush (v := 48) hx hb dX8_figure_58 (by decide) ?_
      refine lv_isub hx hb dX8_figure_60 ?_
      obtain ⟨e0, hf⟩ := ij2 hf
      have e1 := hf
      refine W.eq (congrArg (fun z => F0 m 61 ls [.int z]) e0) ?_
      exact hret _ _ _ _ (by rw [← e1]; exact hP) hS dX8_figure_61
    · replace hf := ip hc hf
      refine lv_bipush (v := (-9)) hx hb dX8_figure_34 (by decide) ?_
      obtain ⟨e0, hf⟩ := ij2 hf
      have e1 := hf
      refine W.eq (congrArg (fun z => F0 m 36 ls [.int z]) e0) ?_
      exact hret _ _ _ _ (by rw [← e1]; exact hP) hS dX8_figure_36
