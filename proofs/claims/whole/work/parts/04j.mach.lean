-- X7_judge X7_commonDivisor X7_partOf X7_share X7_mark X7_snowed X7_whose X7_rests X7_stumbles
abbrev rm_X7_judge : Room := { frames := 6, cells := 0, slots := 0, locals := 147 }
set_option maxHeartbeats 4000000 in
set_option maxRecDepth 100000 in
theorem c_X7_judge (l : Launch) (dC : Nat → ClassId) (dI : Nat → Nat → Nat) (cI cZ : ClassId) (q_t q_t_text q_t_told q_t_now q_t_acts q_t_slots q_t_marks q_t_foresight q_t_chances q_t_foresight_trial q_t_foresight_trial_line q_t_foresight_trial_strides q_t_foresight_trial_strains q_t_now_line q_t_now_strides q_t_now_strains q_t_told_beats q_t_told_kinds : Nat) (sz : Nat) (t_firstAct : Int32) (t_actCount : Int32) (t_slotsKept : Int32) (t_weather : Int64) (t_foresight_trial_down : Int32) (t_foresight_trial_steps : Int32) (t_now_down : Int32) (t_now_steps : Int32) (t_now_line : Nat → Int32) (t_foresight_trial_line : Nat → Int32) (t_now_strides : Nat → Int32) (t_foresight_trial_strides : Nat → Int32) (t_now_strains : Nat → Int32) (t_foresight_trial_strains : Nat → Int32) (t_told_count : Int32) (t_told_depth : Int32) (t_told_noon : Int32) (t_told_depthBehind : Int32) (t_told_kinds : Nat → Int32) (t_told_beats : Nat → Int32) (x1 : Int32) (x2 : Int64) (r_ : Int32) (o_t_foresight_trial_down : Int32) (o_t_foresight_trial_steps : Int32) (o_t_foresight_trial_line : Nat → Int32) (o_t_foresight_trial_strides : Nat → Int32) (o_t_foresight_trial_strains : Nat → Int32) (hf : f_X7_judge x1 x2 t_foresight_trial_down t_foresight_trial_steps t_now_down t_now_steps t_now_line t_foresight_trial_line t_now_strides t_foresight_trial_strides t_now_strains t_foresight_trial_strains t_told_count t_told_depth t_told_noon t_told_depthBehind t_told_kinds t_told_beats = some (r_, o_t_foresight_trial_down, o_t_foresight_trial_steps, o_t_foresight_trial_line, o_t_foresight_trial_strides, o_t_foresight_trial_strains)) : Met l yX7_judge wsX7_judge rm_X7_judge (va_Pc [.ref q_t, .int x1, .long x2] (PU (dC, dI) cI cZ [(q_t, .inr (7, [.ref q_t_text, .ref q_t_told, .ref q_t_now, .ref q_t_acts, .ref q_t_slots, .ref q_t_marks, .ref q_t_foresight, .ref q_t_chances, .int t_firstAct, .int t_actCount, .int t_slotsKept, .long t_weather])), (q_t_foresight, .inr (1, [.ref q_t_told, .ref q_t_now, .ref q_t_foresight_trial])), (q_t_foresight_trial, .inr (6, [.ref q_t_told, .ref q_t_foresight_trial_line, .ref q_t_foresight_trial_strides, .ref q_t_foresight_trial_strains, .int t_foresight_trial_down, .int t_foresight_trial_steps])), (q_t_now, .inr (6, [.ref q_t_told, .ref q_t_now_line, .ref q_t_now_strides, .ref q_t_now_strains, .int t_now_down, .int t_now_steps])), (q_t_now_line, .inl (cI, 5, .inl t_now_line)), (q_t_foresight_trial_line, .inl (cI, 5, .inl t_foresight_trial_line)), (q_t_now_strides, .inl (cI, 5, .inl t_now_strides)), (q_t_foresight_trial_strides, .inl (cI, 5, .inl t_foresight_trial_strides)), (q_t_now_strains, .inl (cI, 5, .inl t_now_strains)), (q_t_foresight_trial_strains, .inl (cI, 5, .inl t_foresight_trial_strains)), (q_t_told, .inr (3, [.ref q_t_told_beats, .ref q_t_told_kinds, .int t_told_count, .int t_told_depth, .int t_told_noon, .int t_told_depthBehind])), (q_t_told_kinds, .inl (cI, 5, .inl t_told_kinds)), (q_t_told_beats, .inl (cI, 5, .inl t_told_beats))] sz)) (va_Qi (fun (r : Int32) (_ : Unit) => r = r_) (fun _ t => va_P (dC, dI) vwCl [(q_t, .inr (7, [.ref q_t_text, .ref q_t_told, .ref q_t_now, .ref q_t_acts, .ref q_t_slots, .ref q_t_marks, .ref q_t_foresight, .ref q_t_chances, .int t_firstAct, .int t_actCount, .int t_slotsKept, .long t_weather])), (q_t_foresight, .inr (1, [.ref q_t_told, .ref q_t_now, .ref q_t_foresight_trial])), (q_t_foresight_trial, .inr (6, [.ref q_t_told, .ref q_t_foresight_trial_line, .ref q_t_foresight_trial_strides, .ref q_t_foresight_trial_strains, .int o_t_foresight_trial_down, .int o_t_foresight_trial_steps])), (q_t_now, .inr (6, [.ref q_t_told, .ref q_t_now_line, .ref q_t_now_strides, .ref q_t_now_strains, .int t_now_down, .int t_now_steps])), (q_t_now_line, .inl (cI, 5, .inl t_now_line)), (q_t_foresight_trial_line, .inl (cI, 5, .inl o_t_foresight_trial_line)), (q_t_now_strides, .inl (cI, 5, .inl t_now_strides)), (q_t_foresight_trial_strides, .inl (cI, 5, .inl o_t_foresight_trial_strides)), (q_t_now_strains, .inl (cI, 5, .inl t_now_strains)), (q_t_foresight_trial_strains, .inl (cI, 5, .inl o_t_foresight_trial_strains)), (q_t_told, .inr (3, [.ref q_t_told_beats, .ref q_t_told_kinds, .int t_told_count, .int t_told_depth, .int t_told_noon, .int t_told_depthBehind])), (q_t_told_kinds, .inl (cI, 5, .inl t_told_kinds)), (q_t_told_beats, .inl (cI, 5, .inl t_told_beats))] t.heap) (va_A [(q_t, .inr (7, [.ref q_t_text, .ref q_t_told, .ref q_t_now, .ref q_t_acts, .ref q_t_slots, .ref q_t_marks, .ref q_t_foresight, .ref q_t_chances, .int t_firstAct, .int t_actCount, .int t_slotsKept, .long t_weather])), (q_t_foresight, .inr (1, [.ref q_t_told, .ref q_t_now, .ref q_t_foresight_trial])), (q_t_foresight_trial, .inr (6, [.ref q_t_told, .ref q_t_foresight_trial_line, .ref q_t_foresight_trial_strides, .ref q_t_foresight_trial_strains, .int t_foresight_trial_down, .int t_foresight_trial_steps])), (q_t_now, .inr (6, [.ref q_t_told, .ref q_t_now_line, .ref q_t_now_strides, .ref q_t_now_strains, .int t_now_down, .int t_now_steps])), (q_t_now_line, .inl (cI, 5, .inl t_now_line)), (q_t_foresight_trial_line, .inl (cI, 5, .inl t_foresight_trial_line)), (q_t_now_strides, .inl (cI, 5, .inl t_now_strides)), (q_t_foresight_trial_strides, .inl (cI, 5, .inl t_foresight_trial_strides)), (q_t_now_strains, .inl (cI, 5, .inl t_now_strains)), (q_t_foresight_trial_strains, .inl (cI, 5, .inl t_foresight_trial_strains)), (q_t_told, .inr (3, [.ref q_t_told_beats, .ref q_t_told_kinds, .int t_told_count, .int t_told_depth, .int t_told_noon, .int t_told_depthBehind])), (q_t_told_kinds, .inl (cI, 5, .inl t_told_kinds)), (q_t_told_beats, .inl (cI, 5, .inl t_told_beats))] sz)) 0 0 (va_A [(q_t, .inr (7, [.ref q_t_text, .ref q_t_told, .ref q_t_now, .ref q_t_acts, .ref q_t_slots, .ref q_t_marks, .ref q_t_foresight, .ref q_t_chances, .int t_firstAct, .int t_actCount, .int t_slotsKept, .long t_weather])), (q_t_foresight, .inr (1, [.ref q_t_told, .ref q_t_now, .ref q_t_foresight_trial])), (q_t_foresight_trial, .inr (6, [.ref q_t_told, .ref q_t_foresight_trial_line, .ref q_t_foresight_trial_strides, .ref q_t_foresight_trial_strains, .int t_foresight_trial_down, .int t_foresight_trial_steps])), (q_t_now, .inr (6, [.ref q_t_told, .ref q_t_now_line, .ref q_t_now_strides, .ref q_t_now_strains, .int t_now_down, .int t_now_steps])), (q_t_now_line, .inl (cI, 5, .inl t_now_line)), (q_t_foresight_trial_line, .inl (cI, 5, .inl t_foresight_trial_line)), (q_t_now_strides, .inl (cI, 5, .inl t_now_strides)), (q_t_foresight_trial_strides, .inl (cI, 5, .inl t_foresight_trial_strides)), (q_t_now_strains, .inl (cI, 5, .inl t_now_strains)), (q_t_foresight_trial_strains, .inl (cI, 5, .inl t_foresight_trial_strains)), (q_t_told, .inr (3, [.ref q_t_told_beats, .ref q_t_told_kinds, .int t_told_count, .int t_told_depth, .int t_told_noon, .int t_told_depthBehind])), (q_t_told_kinds, .inl (cI, 5, .inl t_told_kinds)), (q_t_told_beats, .inl (cI, 5, .inl t_told_beats))] sz) := by
  refine MetI (cc := cX7_judge) (maxL := 7) (by decide) rfl (Nat.le_of_ble_eq_true rfl) (fun _ h => h) ?_
  intro p e s m args below meth c A Q ls hx CF hK hA hD hP hS hl hB hAe hsz hret
  have hb := CF.2.1
  have hml := CF.2.2.1
  have hown := CF.2.2.2.1
  have hts := CF.2.2.2.2
  have hD0 := hD
  replace hl : lv_has ls 7 [(0, .ref q_t), (1, .int x1), (2, .long x2)] := hl
  have hinX7 : ∀ w ∈ wsX70, w ∈ wsX7_judge := fun _ h => List.mem_cons_of_mem _ (List.mem_append_left _ (List.mem_append_left _ (List.mem_append_left _ (List.mem_append_right _ h))))
  have hinX1 : ∀ w ∈ wsX10, w ∈ wsX7_judge := fun _ h => List.mem_cons_of_mem _ (List.mem_append_left _ (List.mem_append_left _ (List.mem_append_right _ h)))
  have hinX6 : ∀ w ∈ wsX60, w ∈ wsX7_judge := fun _ h => List.mem_cons_of_mem _ (List.mem_append_left _ (List.mem_append_right _ h))
  have hinX3 : ∀ w ∈ wsX30, w ∈ wsX7_judge := fun _ h => List.mem_cons_of_mem _ (List.mem_append_right _ h)
  have w_0 := hts (.fieldLink RX7 56 "PassInStep" "foresight" "LPassInStep$Foresight;") (by decide +kernel)
  have w_1 := hts (.constantLong RX7 201 (1000)) (by decide +kernel)
  have h_25 : ∀ (x1 : Int32) (x2 : Int64) (t_foresight_trial_down : Int32) (t_foresight_trial_steps : Int32) (t_foresight_trial_line : Nat → Int32) (t_foresight_trial_strides : Nat → Int32) (t_foresight_trial_strains : Nat → Int32) (fu25 : Nat) (x4 : Int64) (x6 : Int32) (H : Heap) (locs : List Loc) (ls : Array Slot), va_P (dC, dI) vwCl [(q_t, .inr (7, [.ref q_t_text, .ref q_t_told, .ref q_t_now, .ref q_t_acts, .ref q_t_slots, .ref q_t_marks, .ref q_t_foresight, .ref q_t_chances, .int t_firstAct, .int t_actCount, .int t_slotsKept, .long t_weather])), (q_t_foresight, .inr (1, [.ref q_t_told, .ref q_t_now, .ref q_t_foresight_trial])), (q_t_foresight_trial, .inr (6, [.ref q_t_told, .ref q_t_foresight_trial_line, .ref q_t_foresight_trial_strides, .ref q_t_foresight_trial_strains, .int t_foresight_trial_down, .int t_foresight_trial_steps])), (q_t_now, .inr (6, [.ref q_t_told, .ref q_t_now_line, .ref q_t_now_strides, .ref q_t_now_strains, .int t_now_down, .int t_now_steps])), (q_t_now_line, .inl (cI, 5, .inl t_now_line)), (q_t_foresight_trial_line, .inl (cI, 5, .inl t_foresight_trial_line)), (q_t_now_strides, .inl (cI, 5, .inl t_now_strides)), (q_t_foresight_trial_strides, .inl (cI, 5, .inl t_foresight_trial_strides)), (q_t_now_strains, .inl (cI, 5, .inl t_now_strains)), (q_t_foresight_trial_strains, .inl (cI, 5, .inl t_foresight_trial_strains)), (q_t_told, .inr (3, [.ref q_t_told_beats, .ref q_t_told_kinds, .int t_told_count, .int t_told_depth, .int t_told_noon, .int t_told_depthBehind])), (q_t_told_kinds, .inl (cI, 5, .inl t_told_kinds)), (q_t_told_beats, .inl (cI, 5, .inl t_told_beats))] H → va_S A s.heap H locs → lv_has ls 7 [(0, .ref q_t), (1, .int x1), (2, .long x2), (4, .long x4), (6, .int x6)] → L_X7_judge_25 x1 x2 t_foresight_trial_down t_foresight_trial_steps t_now_down t_now_steps t_now_line t_foresight_trial_line t_now_strides t_foresight_trial_strides t_now_strains t_foresight_trial_strains t_told_count t_told_depth t_told_noon t_told_depthBehind t_told_kinds t_told_beats fu25 x4 x6 = some (r_, o_t_foresight_trial_down, o_t_foresight_trial_steps, o_t_foresight_trial_line, o_t_foresight_trial_strides, o_t_foresight_trial_strains) → W p l e rm_X7_judge s m args below meth c H locs 0 0 Q (F0 m 25 ls []) := by
    intro x1 x2 t_foresight_trial_down t_foresight_trial_steps t_foresight_trial_line t_foresight_trial_strides t_foresight_trial_strains fu25
    induction fu25 with
    | zero =>
      intro x4 x6 H locs ls hP hS hl hf
      rw [L_X7_judge_25] at hf
      cases hf
    | succ fu25 ih25 =>
      intro x4 x6 H locs ls hP hS hl hf
      have hD : va_D A [(q_t, .inr (7, [.ref q_t_text, .ref q_t_told, .ref q_t_now, .ref q_t_acts, .ref q_t_slots, .ref q_t_marks, .ref q_t_foresight, .ref q_t_chances, .int t_firstAct, .int t_actCount, .int t_slotsKept, .long t_weather])), (q_t_foresight, .inr (1, [.ref q_t_told, .ref q_t_now, .ref q_t_foresight_trial])), (q_t_foresight_trial, .inr (6, [.ref q_t_told, .ref q_t_foresight_trial_line, .ref q_t_foresight_trial_strides, .ref q_t_foresight_trial_strains, .int t_foresight_trial_down, .int t_foresight_trial_steps])), (q_t_now, .inr (6, [.ref q_t_told, .ref q_t_now_line, .ref q_t_now_strides, .ref q_t_now_strains, .int t_now_down, .int t_now_steps])), (q_t_now_line, .inl (cI, 5, .inl t_now_line)), (q_t_foresight_trial_line, .inl (cI, 5, .inl t_foresight_trial_line)), (q_t_now_strides, .inl (cI, 5, .inl t_now_strides)), (q_t_foresight_trial_strides, .inl (cI, 5, .inl t_foresight_trial_strides)), (q_t_now_strains, .inl (cI, 5, .inl t_now_strains)), (q_t_foresight_trial_strains, .inl (cI, 5, .inl t_foresight_trial_strains)), (q_t_told, .inr (3, [.ref q_t_told_beats, .ref q_t_told_kinds, .int t_told_count, .int t_told_depth, .int t_told_noon, .int t_told_depthBehind])), (q_t_told_kinds, .inl (cI, 5, .inl t_told_kinds)), (q_t_told_beats, .inl (cI, 5, .inl t_told_beats))] := wd hD0 rfl
      rw [L_X7_judge_25] at hf
      refine lv_iload hx hb dX7_judge_25 (lv_at hl 4 rfl) ?_
      refine lv_iload_n hx hb dX7_judge_27 rfl (lv_at hl 1 rfl) ?_
      refine lv_icmp_ge (tgt := 45) hx hb dX7_judge_28 (by decide) (fun hc => ?_) (fun hc => ?_)
      · replace hf := ip hc hf
        refine lv_lload_n hx hb dX7_judge_45 rfl (lv_at hl 2 rfl) ?_
        refine lv_lload hx hb dX7_judge_46 (lv_at hl 3 rfl) ?_
        refine W.lcmp hx hb dX7_judge_48 ?_
        refine lv_if_lt (tgt := 57) hx hb dX7_judge_49 (by decide) (fun hc => ?_) (fun hc => ?_)
        · replace hf := ip hc hf
          refine lv_aload_n hx hb dX7_judge_57 rfl (lv_at hl 0 rfl) ?_
          refine va_get (D := (dC, dI)) (ci := 7) (v := .ref q_t_foresight) (C := RX7) (T := TX7) (N := 12) hx hb hts hinX7 hown hK.1 hP 0 rfl rfl 6 (by decide) w_0 (fun _ h9 => h9) rfl dX7_judge_58 ?_
          refine lv_lload hx hb dX7_judge_61 (lv_at hl 3 rfl) ?_
          refine lv_lload_n hx hb dX7_judge_63 rfl (lv_at hl 2 rfl) ?_
          obtain ⟨⟨r1, o2, o3, o4, o5, o6⟩, e8, hf⟩ := bd_ok hf
          refine kVi (As := [.long x4, .long x2]) CF (cwV 2 hts gX7_judge_X1_firstUndoable rfl rfl rfl (by decide +kernel) ⟨Nat.le_of_ble_eq_true rfl, Nat.le_of_ble_eq_true rfl⟩) PU_blind hP hD hS hA (va_recv hK.1 hP (ci := 1) (q0 := 1) rfl rfl) [1, 2, 3, 4, 5, 6, 7, 8, 9, 10, 11, 12] (fun h1 h2 h3 => PU_pre hK h1 A h2 h3) (c_X1_firstUndoable l dC dI cI cZ q_t_foresight q_t_told q_t_now q_t_foresight_trial q_t_foresight_trial_line q_t_foresight_trial_strides q_t_foresight_trial_strains q_t_now_line q_t_now_strides q_t_now_strains q_t_told_beats q_t_told_kinds _ t_foresight_trial_down t_foresight_trial_steps t_now_down t_now_steps t_now_line t_foresight_trial_line t_now_strides t_foresight_trial_strides t_now_strains t_foresight_trial_strains t_told_count t_told_depth t_told_noon t_told_depthBehind t_told_kinds t_told_beats x4 x2 r1 o2 o3 o4 o5 o6 e8) rfl rfl rfl rfl hl.1 rfl (Nat.le_of_ble_eq_true rfl) dX7_judge_64 ⟨Nat.zero_le _, Nat.zero_le _⟩ (fun H locs hP hS => ?_)
          replace hP : va_P (dC, dI) vwCl [(q_t, .inr (7, [.ref q_t_text, .ref q_t_told, .ref q_t_now, .ref q_t_acts, .ref q_t_slots, .ref q_t_marks, .ref q_t_foresight, .ref q_t_chances, .int t_firstAct, .int t_actCount, .int t_slotsKept, .long t_weather])), (q_t_foresight, .inr (1, [.ref q_t_told, .ref q_t_now, .ref q_t_foresight_trial])), (q_t_foresight_trial, .inr (6, [.ref q_t_told, .ref q_t_foresight_trial_line, .ref q_t_foresight_trial_strides, .ref q_t_foresight_trial_strains, .int o2, .int o3])), (q_t_now, .inr (6, [.ref q_t_told, .ref q_t_now_line, .ref q_t_now_strides, .ref q_t_now_strains, .int t_now_down, .int t_now_steps])), (q_t_now_line, .inl (cI, 5, .inl t_now_line)), (q_t_foresight_trial_line, .inl (cI, 5, .inl o4)), (q_t_now_strides, .inl (cI, 5, .inl t_now_strides)), (q_t_foresight_trial_strides, .inl (cI, 5, .inl o5)), (q_t_now_strains, .inl (cI, 5, .inl t_now_strains)), (q_t_foresight_trial_strains, .inl (cI, 5, .inl o6)), (q_t_told, .inr (3, [.ref q_t_told_beats, .ref q_t_told_kinds, .int t_told_count, .int t_told_depth, .int t_told_noon, .int t_told_depthBehind])), (q_t_told_kinds, .inl (cI, 5, .inl t_told_kinds)), (q_t_told_beats, .inl (cI, 5, .inl t_told_beats))] H := hP
          replace hD : va_D A [(q_t, .inr (7, [.ref q_t_text, .ref q_t_told, .ref q_t_now, .ref q_t_acts, .ref q_t_slots, .ref q_t_marks, .ref q_t_foresight, .ref q_t_chances, .int t_firstAct, .int t_actCount, .int t_slotsKept, .long t_weather])), (q_t_foresight, .inr (1, [.ref q_t_told, .ref q_t_now, .ref q_t_foresight_trial])), (q_t_foresight_trial, .inr (6, [.ref q_t_told, .ref q_t_foresight_trial_line, .ref q_t_foresight_trial_strides, .ref q_t_foresight_trial_strains, .int o2, .int o3])), (q_t_now, .inr (6, [.ref q_t_told, .ref q_t_now_line, .ref q_t_now_strides, .ref q_t_now_strains, .int t_now_down, .int t_now_steps])), (q_t_now_line, .inl (cI, 5, .inl t_now_line)), (q_t_foresight_trial_line, .inl (cI, 5, .inl o4)), (q_t_now_strides, .inl (cI, 5, .inl t_now_strides)), (q_t_foresight_trial_strides, .inl (cI, 5, .inl o5)), (q_t_now_strains, .inl (cI, 5, .inl t_now_strains)), (q_t_foresight_trial_strains, .inl (cI, 5, .inl o6)), (q_t_told, .inr (3, [.ref q_t_told_beats, .ref q_t_told_kinds, .int t_told_count, .int t_told_depth, .int t_told_noon, .int t_told_depthBehind])), (q_t_told_kinds, .inl (cI, 5, .inl t_told_kinds)), (q_t_told_beats, .inl (cI, 5, .inl t_told_beats))] := wd hD rfl
          obtain ⟨e0, hf⟩ := ij2 hf
          obtain ⟨e1, hf⟩ := ijc hf
          obtain ⟨e2, hf⟩ := ijc hf
          obtain ⟨e3, hf⟩ := ijc hf
          obtain ⟨e4, hf⟩ := ijc hf
          have e5 := hf
          refine W.eq (congrArg (fun z => F0 m 67 ls [.int z]) e0) ?_
          exact hret _ _ _ _ (by rw [← e1, ← e2, ← e3, ← e4, ← e5]; exact hP) hS dX7_judge_67
        · replace hf := iq hc hf
          refine lv_bipush (v := (-2)) hx hb dX7_judge_52 (by decide) ?_
          refine lv_goto (tgt := 67) hx hb dX7_judge_54 (by decide) ?_
          obtain ⟨e0, hf⟩ := ij2 hf
          obtain ⟨e1, hf⟩ := ijc hf
          obtain ⟨e2, hf⟩ := ijc hf
          obtain ⟨e3, hf⟩ := ijc hf
          obtain ⟨e4, hf⟩ := ijc hf
          have e5 := hf
          refine W.eq (congrArg (fun z => F0 m 67 ls [.int z]) e0) ?_
          exact hret _ _ _ _ (by rw [← e1, ← e2, ← e3, ← e4, ← e5]; exact hP) hS dX7_judge_67
      · replace hf := iq hc hf
        refine lv_lload hx hb dX7_judge_31 (lv_at hl 3 rfl) ?_
        refine lv_ldc2 (v := 1000) hx hb hown w_1 dX7_judge_33 ?_
        refine lv_lmul hx hb dX7_judge_36 ?_
        refine lv_lstore (lv' := [(4, .long (x4 * (1000 : Int64))), (0, .ref q_t), (1, .int x1), (2, .long x2), (6, .int x6)]) hx hb dX7_judge_37 hl (by decide) rfl (fun ls hl => ?_)
        refine lv_iinc (v := (x6 + 1)) (lv' := [(6, .int (x6 + 1)), (4, .long (x4 * (1000 : Int64))), (0, .ref q_t), (1, .int x1), (2, .long x2)]) hx hb dX7_judge_39 hl (k := 4) rfl rfl (by decide) rfl (fun ls hl => ?_)
        refine lv_goto (tgt := 25) hx hb dX7_judge_42 (by decide) ?_
        exact ih25 (x4 * (1000 : Int64)) (x6 + 1) _ _ _ hP hS (lv_sub hl [2, 3, 4, 1, 0] rfl) hf
  rw [f_X7_judge] at hf
  refine lv_iload_n hx hb dX7_judge_0 rfl (lv_at hl 1 rfl) ?_
  refine lv_iconst (v := 1) hx hb dX7_judge_1 (by decide) ?_
  refine lv_icmp_lt (tgt := 16) hx hb dX7_judge_2 (by decide) (fun hc => ?_) (fun hc => ?_)
  · replace hf := ip hc hf
    refine lv_bipush (v := (-2)) hx hb dX7_judge_16 (by decide) ?_
    obtain ⟨e0, hf⟩ := ij2 hf
    obtain ⟨e1, hf⟩ := ijc hf
    obtain ⟨e2, hf⟩ := ijc hf
    obtain ⟨e3, hf⟩ := ijc hf
    obtain ⟨e4, hf⟩ := ijc hf
    have e5 := hf
    refine W.eq (congrArg (fun z => F0 m 18 ls [.int z]) e0) ?_
    exact hret _ _ _ _ (by rw [← e1, ← e2, ← e3, ← e4, ← e5]; exact hP) hS dX7_judge_18
  · replace hf := iq hc hf
    refine lv_iload_n hx hb dX7_judge_5 rfl (lv_at hl 1 rfl) ?_
    refine lv_iconst (v := 4) hx hb dX7_judge_6 (by decide) ?_
    refine lv_icmp_gt (tgt := 16) hx hb dX7_judge_7 (by decide) (fun hc => ?_) (fun hc => ?_)
    · replace hf := ip hc hf
      refine lv_bipush (v := (-2)) hx hb dX7_judge_16 (by decide) ?_
      obtain ⟨e0, hf⟩ := ij2 hf
      obtain ⟨e1, hf⟩ := ijc hf
      obtain ⟨e2, hf⟩ := ijc hf
      obtain ⟨e3, hf⟩ := ijc hf
      obtain ⟨e4, hf⟩ := ijc hf
      have e5 := hf
      refine W.eq (congrArg (fun z => F0 m 18 ls [.int z]) e0) ?_
      exact hret _ _ _ _ (by rw [← e1, ← e2, ← e3, ← e4, ← e5]; exact hP) hS dX7_judge_18
    · replace hf := iq hc hf
      refine lv_lload_n hx hb dX7_judge_10 rfl (lv_at hl 2 rfl) ?_
      refine lv_lconst (v := 0) hx hb dX7_judge_11 (by decide) ?_
      refine W.lcmp hx hb dX7_judge_12 ?_
      refine lv_if_ge (tgt := 19) hx hb dX7_judge_13 (by decide) (fun hc => ?_) (fun hc => ?_)
      · replace hf := ip hc hf
        refine lv_lconst (v := 1) hx hb dX7_judge_19 (by decide) ?_
        refine lv_lstore (lv' := [(4, .long (1 : Int64)), (0, .ref q_t), (1, .int x1), (2, .long x2)]) hx hb dX7_judge_20 hl (by decide) rfl (fun ls hl => ?_)
        refine lv_iconst (v := 0) hx hb dX7_judge_22 (by decide) ?_
        refine lv_istore (lv' := [(6, .int 0), (4, .long (1 : Int64)), (0, .ref q_t), (1, .int x1), (2, .long x2)]) hx hb dX7_judge_23 hl (by decide) rfl (fun ls hl => ?_)
        exact h_25 x1 x2 t_foresight_trial_down t_foresight_trial_steps t_foresight_trial_line t_foresight_trial_strides t_foresight_trial_strains fuelC (1 : Int64) 0 _ _ _ hP hS (lv_sub hl [2, 3, 4, 1, 0] rfl) hf
      · replace hf := iq hc hf
        refine lv_bipush (v := (-2)) hx hb dX7_judge_16 (by decide) ?_
        obtain ⟨e0, hf⟩ := ij2 hf
        obtain ⟨e1, hf⟩ := ijc hf
        obtain ⟨e2, hf⟩ := ijc hf
        obtain ⟨e3, hf⟩ := ijc hf
        obtain ⟨e4, hf⟩ := ijc hf
        have e5 := hf
        refine W.eq (congrArg (fun z => F0 m 18 ls [.int z]) e0) ?_
        exact hret _ _ _ _ (by rw [← e1, ← e2, ← e3, ← e4, ← e5]; exact hP) hS dX7_judge_18
abbrev rm_X7_commonDivisor : Room := { frames := 0, cells := 0, slots := 0, locals := 0 }
set_option maxHeartbeats 4000000 in
set_option maxRecDepth 100000 in
theorem c_X7_commonDivisor (l : Launch) (dC : Nat → ClassId) (dI : Nat → Nat → Nat) (cI cZ : ClassId) (sz : Nat) (x0 : Int32) (x1 : Int32) (r_ : Int32) (hf : f_X7_commonDivisor x0 x1 = some r_) : Met l yX7_commonDivisor wsX7_commonDivisor rm_X7_commonDivisor (va_Pc [.int x0, .int x1] (PU (dC, dI) cI cZ [] sz)) (va_Qi (fun (r : Int32) (_ : Unit) => r = r_) (fun _ t => va_P (dC, dI) vwCl [] t.heap) (va_A [] sz)) 0 0 (va_A [] sz) := by
  refine MetI (cc := cX7_commonDivisor) (maxL := 6) (by decide) rfl (Nat.le_of_ble_eq_true rfl) (fun _ h => h) ?_
  intro p e s m args below meth c A Q ls hx CF hK hA hD hP hS hl hB hAe hsz hret
  have hb := CF.2.1
  have hml := CF.2.2.1
  have hown := CF.2.2.2.1
  have hts := CF.2.2.2.2
  have hD0 := hD
  replace hl : lv_has ls 6 [(0, .int x0), (1, .int x1)] := hl
  have h_7 : ∀ (fu7 : Nat) (x2 : Int32) (x3 : Int32) (x4 : Int32) (H : Heap) (locs : List Loc) (ls : Array Slot), va_P (dC, dI) vwCl [] H → va_S A s.heap H locs → lv_has ls 6 [(2, .int x2), (3, .int x3), (4, .int x4)] → L_X7_commonDivisor_7 fu7 x2 x3 x4 = some r_ → W p l e rm_X7_commonDivisor s m args below meth c H locs 0 0 Q (F0 m 7 ls []) := by
    intro fu7
    induction fu7 with
    | zero =>
      intro x2 x3 x4 H locs ls hP hS hl hf
      rw [L_X7_commonDivisor_7] at hf
      cases hf
    | succ fu7 ih7 =>
      intro x2 x3 x4 H locs ls hP hS hl hf
      have hD : va_D A [] := wd hD0 rfl
      rw [L_X7_commonDivisor_7] at hf
      refine lv_iload hx hb dX7_commonDivisor_7 (lv_at hl 2 rfl) ?_
      refine lv_bipush (v := 64) hx hb dX7_commonDivisor_9 (by decide) ?_
      refine lv_icmp_ge (tgt := 34) hx hb dX7_commonDivisor_11 (by decide) (fun hc => ?_) (fun hc => ?_)
      · replace hf := ip hc hf
        refine lv_iload_n hx hb dX7_commonDivisor_34 rfl (lv_at hl 0 rfl) ?_
        have e0 := ij1 hf
        refine W.eq (congrArg (fun z => F0 m 35 ls [.int z]) e0) ?_
        exact hret _ _ _ _ hP hS dX7_commonDivisor_35
      · replace hf := iq hc hf
        refine lv_iload_n hx hb dX7_commonDivisor_14 rfl (lv_at hl 1 rfl) ?_
        refine lv_if_le (tgt := 34) hx hb dX7_commonDivisor_15 (by decide) (fun hc => ?_) (fun hc => ?_)
        · replace hf := ip hc hf
          refine lv_iload_n hx hb dX7_commonDivisor_34 rfl (lv_at hl 0 rfl) ?_
          have e0 := ij1 hf
          refine W.eq (congrArg (fun z => F0 m 35 ls [.int z]) e0) ?_
          exact hret _ _ _ _ hP hS dX7_commonDivisor_35
        · replace hf := iq hc hf
          refine lv_iload_n hx hb dX7_commonDivisor_18 rfl (lv_at hl 0 rfl) ?_
          refine lv_iload_n hx hb dX7_commonDivisor_19 rfl (lv_at hl 1 rfl) ?_
          obtain ⟨hne, hf⟩ := dv_ok hf
          refine lv_irem hx hb dX7_commonDivisor_20 hne ?_
          refine lv_istore (lv' := [(5, .int (x2 - x2 / x3 * x3)), (2, .int x2), (3, .int x3), (4, .int x4)]) hx hb dX7_commonDivisor_21 hl (by decide) rfl (fun ls hl => ?_)
          refine lv_iload_n hx hb dX7_commonDivisor_23 rfl (lv_at hl 2 rfl) ?_
          refine lv_istore_n (lv' := [(2, .int x3), (5, .int (x2 - x2 / x3 * x3)), (3, .int x3), (4, .int x4)]) hx hb dX7_commonDivisor_24 rfl hl (by decide) rfl (fun ls hl => ?_)
          refine lv_iload hx hb dX7_commonDivisor_25 (lv_at hl 1 rfl) ?_
          refine lv_istore_n (lv' := [(3, .int (x2 - x2 / x3 * x3)), (2, .int x3), (5, .int (x2 - x2 / x3 * x3)), (4, .int x4)]) hx hb dX7_commonDivisor_27 rfl hl (by decide) rfl (fun ls hl => ?_)
          refine lv_iinc (v := (x4 + 1)) (lv' := [(4, .int (x4 + 1)), (3, .int (x2 - x2 / x3 * x3)), (2, .int x3), (5, .int (x2 - x2 / x3 * x3))]) hx hb dX7_commonDivisor_28 hl (k := 3) rfl rfl (by decide) rfl (fun ls hl => ?_)
          refine lv_goto (tgt := 7) hx hb dX7_commonDivisor_31 (by decide) ?_
          exact ih7 x3 (x2 - x2 / x3 * x3) (x4 + 1) _ _ _ hP hS (lv_sub hl [2, 1, 0] rfl) hf
  rw [f_X7_commonDivisor] at hf
  refine lv_iload_n hx hb dX7_commonDivisor_0 rfl (lv_at hl 0 rfl) ?_
  refine lv_istore_n (lv' := [(2, .int x0), (0, .int x0), (1, .int x1)]) hx hb dX7_commonDivisor_1 rfl hl (by decide) rfl (fun ls hl => ?_)
  refine lv_iload_n hx hb dX7_commonDivisor_2 rfl (lv_at hl 2 rfl) ?_
  refine lv_istore_n (lv' := [(3, .int x1), (2, .int x0), (0, .int x0), (1, .int x1)]) hx hb dX7_commonDivisor_3 rfl hl (by decide) rfl (fun ls hl => ?_)
  refine lv_iconst (v := 0) hx hb dX7_commonDivisor_4 (by decide) ?_
  refine lv_istore (lv' := [(4, .int 0), (3, .int x1), (2, .int x0), (0, .int x0), (1, .int x1)]) hx hb dX7_commonDivisor_5 hl (by decide) rfl (fun ls hl => ?_)
  exact h_7 fuelC x0 x1 0 _ _ _ hP hS (lv_sub hl [2, 1, 0] rfl) hf
abbrev rm_X7_partOf : Room := { frames := 1, cells := 0, slots := 0, locals := 25 }
set_option maxHeartbeats 4000000 in
set_option maxRecDepth 100000 in
theorem c_X7_partOf (l : Launch) (dC : Nat → ClassId) (dI : Nat → Nat → Nat) (cI cZ : ClassId) (sz : Nat) (x0 : Int32) (x1 : Int32) (x2 : Int32) (r_ : Int32) (hf : f_X7_partOf x0 x1 x2 = some r_) : Met l yX7_partOf wsX7_partOf rm_X7_partOf (va_Pc [.int x0, .int x1, .int x2] (PU (dC, dI) cI cZ [] sz)) (va_Qi (fun (r : Int32) (_ : Unit) => r = r_) (fun _ t => va_P (dC, dI) vwCl [] t.heap) (va_A [] sz)) 0 0 (va_A [] sz) := by
  refine MetI (cc := cX7_partOf) (maxL := 4) (by decide) rfl (Nat.le_of_ble_eq_true rfl) (fun _ h => h) ?_
  intro p e s m args below meth c A Q ls hx CF hK hA hD hP hS hl hB hAe hsz hret
  have hb := CF.2.1
  have hml := CF.2.2.1
  have hown := CF.2.2.2.1
  have hts := CF.2.2.2.2
  have hD0 := hD
  replace hl : lv_has ls 4 [(0, .int x0), (1, .int x1), (2, .int x2)] := hl
  have w_0 := hts (.methodLink RX7 260 Lib.Math.abs.name) (by decide +kernel)
  have w_1 := hts (.static Lib.Math.abs.name) (by decide +kernel)
  have w_2 := hts (.initialized "java/lang/Math") (by decide +kernel)
  have w_3 := hts (.code Lib.Math.abs.name Lib.Math.abs.code 1 (some .int)) (by decide +kernel)
  rw [f_X7_partOf] at hf
  refine lv_iload_n hx hb dX7_partOf_0 rfl (lv_at hl 0 rfl) ?_
  refine va_mabs hx hb (hml.trans hl.1.symm) hown w_0 w_1 w_2 w_3 (Nat.le_of_ble_eq_true rfl) (Nat.le_of_ble_eq_true rfl) (Nat.zero_le _) (Nat.zero_le _) dX7_partOf_1 ?_
  refine lv_iload_n hx hb dX7_partOf_4 rfl (lv_at hl 1 rfl) ?_
  obtain ⟨r1, e3, hf⟩ := bd_ok hf
  refine kSi (As := [.int (if 0 ≤ x0 then x0 else 0 - x0), .int x1]) CF (va_cwS 2 hts gX7_partOf_X7_commonDivisor rfl rfl rfl (by decide +kernel) ⟨Nat.le_of_ble_eq_true rfl, Nat.le_of_ble_eq_true rfl⟩) PU_blind hP hD hS hA [] (fun h1 h2 h3 => PU_pre hK h1 A h2 h3) (c_X7_commonDivisor l dC dI cI cZ _ (if 0 ≤ x0 then x0 else 0 - x0) x1 r1 e3) rfl rfl rfl rfl hl.1 rfl (Nat.le_of_ble_eq_true rfl) dX7_partOf_5 ⟨Nat.zero_le _, Nat.zero_le _⟩ (fun H locs hP hS => ?_)
  replace hP : va_P (dC, dI) vwCl [] H := hP
  refine lv_istore_n (lv' := [(3, .int r1), (0, .int x0), (1, .int x1), (2, .int x2)]) hx hb dX7_partOf_8 rfl hl (by decide) rfl (fun ls hl => ?_)
  refine lv_iload_n hx hb dX7_partOf_9 rfl (lv_at hl 0 rfl) ?_
  refine lv_if_gt (tgt := 15) hx hb dX7_partOf_10 (by decide) (fun hc => ?_) (fun hc => ?_)
  · replace hf := ip hc hf
    refine lv_iload_n hx hb dX7_partOf_15 rfl (lv_at hl 3 rfl) ?_
    refine lv_if_eq (tgt := 25) hx hb dX7_partOf_16 (by decide) (fun hc => ?_) (fun hc => ?_)
    · replace hf := ip hc hf
      refine lv_iload_n hx hb dX7_partOf_25 rfl (lv_at hl 2 rfl) ?_
      refine lv_iload_n hx hb dX7_partOf_26 rfl (lv_at hl 0 rfl) ?_
      obtain ⟨hne, hf⟩ := dv_ok hf
      refine lv_idiv hx hb dX7_partOf_27 hne ?_
      have e0 := ij1 hf
      refine W.eq (congrArg (fun z => F0 m 28 ls [.int z]) e0) ?_
      exact hret _ _ _ _ hP hS dX7_partOf_28
    · replace hf := iq hc hf
      refine lv_iload_n hx hb dX7_partOf_19 rfl (lv_at hl 1 rfl) ?_
      refine lv_iload_n hx hb dX7_partOf_20 rfl (lv_at hl 0 rfl) ?_
      obtain ⟨hne, hf⟩ := dv_ok hf
      refine lv_idiv hx hb dX7_partOf_21 hne ?_
      refine lv_goto (tgt := 28) hx hb dX7_partOf_22 (by decide) ?_
      have e0 := ij1 hf
      refine W.eq (congrArg (fun z => F0 m 28 ls [.int z]) e0) ?_
      exact hret _ _ _ _ hP hS dX7_partOf_28
  · replace hf := iq hc hf
    refine lv_iconst (v := 0) hx hb dX7_partOf_13 (by decide) ?_
    have e0 := ij1 hf
    refine W.eq (congrArg (fun z => F0 m 14 ls [.int z]) e0) ?_
    exact hret _ _ _ _ hP hS dX7_partOf_14
abbrev rm_X7_share : Room := { frames := 7, cells := 0, slots := 0, locals := 164 }
set_option maxHeartbeats 4000000 in
set_option maxRecDepth 100000 in
theorem c_X7_share (l : Launch) (dC : Nat → ClassId) (dI : Nat → Nat → Nat) (cI cZ : ClassId) (tF : Nat) (q_t q_t_text q_t_told q_t_now q_t_acts q_t_slots q_t_marks q_t_foresight q_t_chances q_t_told_beats q_t_told_kinds q_t_foresight_trial q_t_foresight_trial_line q_t_foresight_trial_strides q_t_foresight_trial_strains q_t_now_line q_t_now_strides q_t_now_strains : Nat) (sz : Nat) (t_firstAct : Int32) (t_actCount : Int32) (t_slotsKept : Int32) (t_weather : Int64) (t_told_count : Int32) (t_told_depth : Int32) (t_told_noon : Int32) (t_told_depthBehind : Int32) (t_foresight_trial_down : Int32) (t_foresight_trial_steps : Int32) (t_now_down : Int32) (t_now_steps : Int32) (t_now_line : Nat → Int32) (t_foresight_trial_line : Nat → Int32) (t_now_strides : Nat → Int32) (t_foresight_trial_strides : Nat → Int32) (t_now_strains : Nat → Int32) (t_foresight_trial_strains : Nat → Int32) (t_told_kinds : Nat → Int32) (t_told_beats : Nat → Int32) (x1 : Int32) (x2 : Int32) (r_ : Int32) (o_t_foresight_trial_down : Int32) (o_t_foresight_trial_steps : Int32) (o_t_foresight_trial_line : Nat → Int32) (o_t_foresight_trial_strides : Nat → Int32) (o_t_foresight_trial_strains : Nat → Int32) (hf : f_X7_share x1 x2 t_told_count t_told_depth t_told_noon t_told_depthBehind t_foresight_trial_down t_foresight_trial_steps t_now_down t_now_steps t_now_line t_foresight_trial_line t_now_strides t_foresight_trial_strides t_now_strains t_foresight_trial_strains t_told_kinds t_told_beats = some (r_, o_t_foresight_trial_down, o_t_foresight_trial_steps, o_t_foresight_trial_line, o_t_foresight_trial_strides, o_t_foresight_trial_strains)) : Met l yX7_share wsX7_share rm_X7_share (va_Pc [.ref q_t, .int x1, .int x2] (PUS (dC, dI) cI cZ tF [(q_t, .inr (7, [.ref q_t_text, .ref q_t_told, .ref q_t_now, .ref q_t_acts, .ref q_t_slots, .ref q_t_marks, .ref q_t_foresight, .ref q_t_chances, .int t_firstAct, .int t_actCount, .int t_slotsKept, .long t_weather])), (q_t_told, .inr (3, [.ref q_t_told_beats, .ref q_t_told_kinds, .int t_told_count, .int t_told_depth, .int t_told_noon, .int t_told_depthBehind])), (q_t_foresight, .inr (1, [.ref q_t_told, .ref q_t_now, .ref q_t_foresight_trial])), (q_t_foresight_trial, .inr (6, [.ref q_t_told, .ref q_t_foresight_trial_line, .ref q_t_foresight_trial_strides, .ref q_t_foresight_trial_strains, .int t_foresight_trial_down, .int t_foresight_trial_steps])), (q_t_now, .inr (6, [.ref q_t_told, .ref q_t_now_line, .ref q_t_now_strides, .ref q_t_now_strains, .int t_now_down, .int t_now_steps])), (q_t_now_line, .inl (cI, 5, .inl t_now_line)), (q_t_foresight_trial_line, .inl (cI, 5, .inl t_foresight_trial_line)), (q_t_now_strides, .inl (cI, 5, .inl t_now_strides)), (q_t_foresight_trial_strides, .inl (cI, 5, .inl t_foresight_trial_strides)), (q_t_now_strains, .inl (cI, 5, .inl t_now_strains)), (q_t_foresight_trial_strains, .inl (cI, 5, .inl t_foresight_trial_strains)), (q_t_told_kinds, .inl (cI, 5, .inl t_told_kinds)), (q_t_told_beats, .inl (cI, 5, .inl t_told_beats))] sz)) (va_Qi (fun (r : Int32) (_ : Unit) => r = r_) (fun _ t => va_P (dC, dI) vwCl [(q_t, .inr (7, [.ref q_t_text, .ref q_t_told, .ref q_t_now, .ref q_t_acts, .ref q_t_slots, .ref q_t_marks, .ref q_t_foresight, .ref q_t_chances, .int t_firstAct, .int t_actCount, .int t_slotsKept, .long t_weather])), (q_t_told, .inr (3, [.ref q_t_told_beats, .ref q_t_told_kinds, .int t_told_count, .int t_told_depth, .int t_told_noon, .int t_told_depthBehind])), (q_t_foresight, .inr (1, [.ref q_t_told, .ref q_t_now, .ref q_t_foresight_trial])), (q_t_foresight_trial, .inr (6, [.ref q_t_told, .ref q_t_foresight_trial_line, .ref q_t_foresight_trial_strides, .ref q_t_foresight_trial_strains, .int o_t_foresight_trial_down, .int o_t_foresight_trial_steps])), (q_t_now, .inr (6, [.ref q_t_told, .ref q_t_now_line, .ref q_t_now_strides, .ref q_t_now_strains, .int t_now_down, .int t_now_steps])), (q_t_now_line, .inl (cI, 5, .inl t_now_line)), (q_t_foresight_trial_line, .inl (cI, 5, .inl o_t_foresight_trial_line)), (q_t_now_strides, .inl (cI, 5, .inl t_now_strides)), (q_t_foresight_trial_strides, .inl (cI, 5, .inl o_t_foresight_trial_strides)), (q_t_now_strains, .inl (cI, 5, .inl t_now_strains)), (q_t_foresight_trial_strains, .inl (cI, 5, .inl o_t_foresight_trial_strains)), (q_t_told_kinds, .inl (cI, 5, .inl t_told_kinds)), (q_t_told_beats, .inl (cI, 5, .inl t_told_beats))] t.heap) (va_A [(q_t, .inr (7, [.ref q_t_text, .ref q_t_told, .ref q_t_now, .ref q_t_acts, .ref q_t_slots, .ref q_t_marks, .ref q_t_foresight, .ref q_t_chances, .int t_firstAct, .int t_actCount, .int t_slotsKept, .long t_weather])), (q_t_told, .inr (3, [.ref q_t_told_beats, .ref q_t_told_kinds, .int t_told_count, .int t_told_depth, .int t_told_noon, .int t_told_depthBehind])), (q_t_foresight, .inr (1, [.ref q_t_told, .ref q_t_now, .ref q_t_foresight_trial])), (q_t_foresight_trial, .inr (6, [.ref q_t_told, .ref q_t_foresight_trial_line, .ref q_t_foresight_trial_strides, .ref q_t_foresight_trial_strains, .int t_foresight_trial_down, .int t_foresight_trial_steps])), (q_t_now, .inr (6, [.ref q_t_told, .ref q_t_now_line, .ref q_t_now_strides, .ref q_t_now_strains, .int t_now_down, .int t_now_steps])), (q_t_now_line, .inl (cI, 5, .inl t_now_line)), (q_t_foresight_trial_line, .inl (cI, 5, .inl t_foresight_trial_line)), (q_t_now_strides, .inl (cI, 5, .inl t_now_strides)), (q_t_foresight_trial_strides, .inl (cI, 5, .inl t_foresight_trial_strides)), (q_t_now_strains, .inl (cI, 5, .inl t_now_strains)), (q_t_foresight_trial_strains, .inl (cI, 5, .inl t_foresight_trial_strains)), (q_t_told_kinds, .inl (cI, 5, .inl t_told_kinds)), (q_t_told_beats, .inl (cI, 5, .inl t_told_beats))] sz)) 0 0 (va_A [(q_t, .inr (7, [.ref q_t_text, .ref q_t_told, .ref q_t_now, .ref q_t_acts, .ref q_t_slots, .ref q_t_marks, .ref q_t_foresight, .ref q_t_chances, .int t_firstAct, .int t_actCount, .int t_slotsKept, .long t_weather])), (q_t_told, .inr (3, [.ref q_t_told_beats, .ref q_t_told_kinds, .int t_told_count, .int t_told_depth, .int t_told_noon, .int t_told_depthBehind])), (q_t_foresight, .inr (1, [.ref q_t_told, .ref q_t_now, .ref q_t_foresight_trial])), (q_t_foresight_trial, .inr (6, [.ref q_t_told, .ref q_t_foresight_trial_line, .ref q_t_foresight_trial_strides, .ref q_t_foresight_trial_strains, .int t_foresight_trial_down, .int t_foresight_trial_steps])), (q_t_now, .inr (6, [.ref q_t_told, .ref q_t_now_line, .ref q_t_now_strides, .ref q_t_now_strains, .int t_now_down, .int t_now_steps])), (q_t_now_line, .inl (cI, 5, .inl t_now_line)), (q_t_foresight_trial_line, .inl (cI, 5, .inl t_foresight_trial_line)), (q_t_now_strides, .inl (cI, 5, .inl t_now_strides)), (q_t_foresight_trial_strides, .inl (cI, 5, .inl t_foresight_trial_strides)), (q_t_now_strains, .inl (cI, 5, .inl t_now_strains)), (q_t_foresight_trial_strains, .inl (cI, 5, .inl t_foresight_trial_strains)), (q_t_told_kinds, .inl (cI, 5, .inl t_told_kinds)), (q_t_told_beats, .inl (cI, 5, .inl t_told_beats))] sz) := by
  refine MetI (cc := cX7_share) (maxL := 3) (by decide) rfl (Nat.le_of_ble_eq_true rfl) (fun _ h => h.1) ?_
  intro p e s m args below meth c A Q ls hx CF hK hA hD hP hS hl hB hAe hsz hret
  have hb := CF.2.1
  have hml := CF.2.2.1
  have hown := CF.2.2.2.1
  have hts := CF.2.2.2.2
  have hD0 := hD
  replace hl : lv_has ls 3 [(0, .ref q_t), (1, .int x1), (2, .int x2)] := hl
  have hFS : FS tF A s := by rw [hAe]; exact hB.2
  have hinX7 : ∀ w ∈ wsX70, w ∈ wsX7_share := fun _ h => List.mem_cons_of_mem _ (List.mem_append_left _ (List.mem_append_left _ (List.mem_append_left _ (List.mem_append_right _ h))))
  have hinX3 : ∀ w ∈ wsX30, w ∈ wsX7_share := fun _ h => List.mem_cons_of_mem _ (List.mem_append_left _ (List.mem_append_left _ (List.mem_append_right _ h)))
  have hinX1 : ∀ w ∈ wsX10, w ∈ wsX7_share := fun _ h => List.mem_cons_of_mem _ (List.mem_append_left _ (List.mem_append_right _ h))
  have hinX6 : ∀ w ∈ wsX60, w ∈ wsX7_share := fun _ h => List.mem_cons_of_mem _ (List.mem_append_right _ h)
  have w_0 := hts (.fieldLink RX7 19 "PassInStep" "told" "LPassInStep$Party;") (by decide +kernel)
  have w_1 := hts (.fieldLink RX7 56 "PassInStep" "foresight" "LPassInStep$Foresight;") (by decide +kernel)
  have w_2 := hts (.fieldLink RX7 210 "PassInStep" "FACTORIALS" "[I") (by decide +kernel)
  rw [f_X7_share] at hf
  refine lv_aload_n hx hb dX7_share_0 rfl (lv_at hl 0 rfl) ?_
  refine va_get (D := (dC, dI)) (ci := 7) (v := .ref q_t_told) (C := RX7) (T := TX7) (N := 12) hx hb hts hinX7 hown hK.1 hP 0 rfl rfl 1 (by decide) w_0 (fun _ h9 => h9) rfl dX7_share_1 ?_
  refine lv_iload_n hx hb dX7_share_4 rfl (lv_at hl 1 rfl) ?_
  obtain ⟨r1, e3, hf⟩ := bd_ok hf
  refine kVi (As := [.int x1]) CF (cwV 1 hts gX7_share_X3_has rfl rfl rfl (by decide +kernel) ⟨Nat.le_of_ble_eq_true rfl, Nat.le_of_ble_eq_true rfl⟩) PU_blind hP hD hS hA (va_recv hK.1 hP (ci := 3) (q0 := 1) rfl rfl) [1] (fun h1 h2 h3 => PU_pre hK h1 A h2 h3) (c_X3_has l dC dI cI cZ q_t_told q_t_told_beats q_t_told_kinds _ t_told_count t_told_depth t_told_noon t_told_depthBehind x1 r1 e3) rfl rfl rfl rfl hl.1 rfl (Nat.le_of_ble_eq_true rfl) dX7_share_5 ⟨Nat.zero_le _, Nat.zero_le _⟩ (fun H locs hP hS => ?_)
  replace hP : va_P (dC, dI) vwCl [(q_t, .inr (7, [.ref q_t_text, .ref q_t_told, .ref q_t_now, .ref q_t_acts, .ref q_t_slots, .ref q_t_marks, .ref q_t_foresight, .ref q_t_chances, .int t_firstAct, .int t_actCount, .int t_slotsKept, .long t_weather])), (q_t_told, .inr (3, [.ref q_t_told_beats, .ref q_t_told_kinds, .int t_told_count, .int t_told_depth, .int t_told_noon, .int t_told_depthBehind])), (q_t_foresight, .inr (1, [.ref q_t_told, .ref q_t_now, .ref q_t_foresight_trial])), (q_t_foresight_trial, .inr (6, [.ref q_t_told, .ref q_t_foresight_trial_line, .ref q_t_foresight_trial_strides, .ref q_t_foresight_trial_strains, .int t_foresight_trial_down, .int t_foresight_trial_steps])), (q_t_now, .inr (6, [.ref q_t_told, .ref q_t_now_line, .ref q_t_now_strides, .ref q_t_now_strains, .int t_now_down, .int t_now_steps])), (q_t_now_line, .inl (cI, 5, .inl t_now_line)), (q_t_foresight_trial_line, .inl (cI, 5, .inl t_foresight_trial_line)), (q_t_now_strides, .inl (cI, 5, .inl t_now_strides)), (q_t_foresight_trial_strides, .inl (cI, 5, .inl t_foresight_trial_strides)), (q_t_now_strains, .inl (cI, 5, .inl t_now_strains)), (q_t_foresight_trial_strains, .inl (cI, 5, .inl t_foresight_trial_strains)), (q_t_told_kinds, .inl (cI, 5, .inl t_told_kinds)), (q_t_told_beats, .inl (cI, 5, .inl t_told_beats))] H := hP
  refine lv_if_ne (tgt := 13) hx hb dX7_share_8 (by decide) (fun hc => ?_) (fun hc => ?_)
  · replace hf := iq hc hf
    refine lv_aload_n hx hb dX7_share_13 rfl (lv_at hl 0 rfl) ?_
    refine va_get (D := (dC, dI)) (ci := 7) (v := .ref q_t_foresight) (C := RX7) (T := TX7) (N := 12) hx hb hts hinX7 hown hK.1 hP 0 rfl rfl 6 (by decide) w_1 (fun _ h9 => h9) rfl dX7_share_14 ?_
    refine lv_iload_n hx hb dX7_share_17 rfl (lv_at hl 1 rfl) ?_
    obtain ⟨⟨r4, o5, o6, o7, o8, o9⟩, e11, hf⟩ := bd_ok hf
    refine kVi (As := [.int x1]) CF (cwV 1 hts gX7_share_X1_shareAbove rfl rfl rfl (by decide +kernel) ⟨Nat.le_of_ble_eq_true rfl, Nat.le_of_ble_eq_true rfl⟩) PUS_blind hP hD hS hA (va_recv hK.1 hP (ci := 1) (q0 := 2) rfl rfl) [2, 1, 3, 4, 5, 6, 7, 8, 9, 10, 11, 12] (fun h1 h2 h3 => PUS_pre hK hFS hS h1 h2 h3) (c_X1_shareAbove l dC dI cI cZ tF q_t_foresight q_t_told q_t_now q_t_foresight_trial q_t_told_beats q_t_told_kinds q_t_foresight_trial_line q_t_foresight_trial_strides q_t_foresight_trial_strains q_t_now_line q_t_now_strides q_t_now_strains _ t_told_count t_told_depth t_told_noon t_told_depthBehind t_foresight_trial_down t_foresight_trial_steps t_now_down t_now_steps t_now_line t_foresight_trial_line t_now_strides t_foresight_trial_strides t_now_strains t_foresight_trial_strains t_told_kinds t_told_beats x1 r4 o5 o6 o7 o8 o9 e11) rfl rfl rfl rfl hl.1 rfl (Nat.le_of_ble_eq_true rfl) dX7_share_18 ⟨Nat.zero_le _, Nat.zero_le _⟩ (fun H locs hP hS => ?_)
    replace hP : va_P (dC, dI) vwCl [(q_t, .inr (7, [.ref q_t_text, .ref q_t_told, .ref q_t_now, .ref q_t_acts, .ref q_t_slots, .ref q_t_marks, .ref q_t_foresight, .ref q_t_chances, .int t_firstAct, .int t_actCount, .int t_slotsKept, .long t_weather])), (q_t_told, .inr (3, [.ref q_t_told_beats, .ref q_t_told_kinds, .int t_told_count, .int t_told_depth, .int t_told_noon, .int t_told_depthBehind])), (q_t_foresight, .inr (1, [.ref q_t_told, .ref q_t_now, .ref q_t_foresight_trial])), (q_t_foresight_trial, .inr (6, [.ref q_t_told, .ref q_t_foresight_trial_line, .ref q_t_foresight_trial_strides, .ref q_t_foresight_trial_strains, .int o5, .int o6])), (q_t_now, .inr (6, [.ref q_t_told, .ref q_t_now_line, .ref q_t_now_strides, .ref q_t_now_strains, .int t_now_down, .int t_now_steps])), (q_t_now_line, .inl (cI, 5, .inl t_now_line)), (q_t_foresight_trial_line, .inl (cI, 5, .inl o7)), (q_t_now_strides, .inl (cI, 5, .inl t_now_strides)), (q_t_foresight_trial_strides, .inl (cI, 5, .inl o8)), (q_t_now_strains, .inl (cI, 5, .inl t_now_strains)), (q_t_foresight_trial_strains, .inl (cI, 5, .inl o9)), (q_t_told_kinds, .inl (cI, 5, .inl t_told_kinds)), (q_t_told_beats, .inl (cI, 5, .inl t_told_beats))] H := hP
    replace hD : va_D A [(q_t, .inr (7, [.ref q_t_text, .ref q_t_told, .ref q_t_now, .ref q_t_acts, .ref q_t_slots, .ref q_t_marks, .ref q_t_foresight, .ref q_t_chances, .int t_firstAct, .int t_actCount, .int t_slotsKept, .long t_weather])), (q_t_told, .inr (3, [.ref q_t_told_beats, .ref q_t_told_kinds, .int t_told_count, .int t_told_depth, .int t_told_noon, .int t_told_depthBehind])), (q_t_foresight, .inr (1, [.ref q_t_told, .ref q_t_now, .ref q_t_foresight_trial])), (q_t_foresight_trial, .inr (6, [.ref q_t_told, .ref q_t_foresight_trial_line, .ref q_t_foresight_trial_strides, .ref q_t_foresight_trial_strains, .int o5, .int o6])), (q_t_now, .inr (6, [.ref q_t_told, .ref q_t_now_line, .ref q_t_now_strides, .ref q_t_now_strains, .int t_now_down, .int t_now_steps])), (q_t_now_line, .inl (cI, 5, .inl t_now_line)), (q_t_foresight_trial_line, .inl (cI, 5, .inl o7)), (q_t_now_strides, .inl (cI, 5, .inl t_now_strides)), (q_t_foresight_trial_strides, .inl (cI, 5, .inl o8)), (q_t_now_strains, .inl (cI, 5, .inl t_now_strains)), (q_t_foresight_trial_strains, .inl (cI, 5, .inl o9)), (q_t_told_kinds, .inl (cI, 5, .inl t_told_kinds)), (q_t_told_beats, .inl (cI, 5, .inl t_told_beats))] := wd hD rfl
    refine va_gets (v := .ref tF) hx hb hFS.1 hS hown w_2 (fun _ h9 => h9) dX7_share_21 ?_
    refine lv_aload_n hx hb dX7_share_24 rfl (lv_at hl 0 rfl) ?_
    refine va_get (D := (dC, dI)) (ci := 7) (v := .ref q_t_told) (C := RX7) (T := TX7) (N := 12) hx hb hts hinX7 hown hK.1 hP 0 rfl rfl 1 (by decide) w_0 (fun _ h9 => h9) rfl dX7_share_25 ?_
    obtain ⟨r12, e14, hf⟩ := bd_ok hf
    refine kVi (As := []) CF (cwV 0 hts gX7_share_X3_size rfl rfl rfl (by decide +kernel) ⟨Nat.le_of_ble_eq_true rfl, Nat.le_of_ble_eq_true rfl⟩) PU_blind hP hD hS hA (va_recv hK.1 hP (ci := 3) (q0 := 1) rfl rfl) [1] (fun h1 h2 h3 => PU_pre hK h1 A h2 h3) (c_X3_size l dC dI cI cZ q_t_told q_t_told_beats q_t_told_kinds _ t_told_count t_told_depth t_told_noon t_told_depthBehind r12 e14) rfl rfl rfl rfl hl.1 rfl (Nat.le_of_ble_eq_true rfl) dX7_share_28 ⟨Nat.zero_le _, Nat.zero_le _⟩ (fun H locs hP hS => ?_)
    replace hP : va_P (dC, dI) vwCl [(q_t, .inr (7, [.ref q_t_text, .ref q_t_told, .ref q_t_now, .ref q_t_acts, .ref q_t_slots, .ref q_t_marks, .ref q_t_foresight, .ref q_t_chances, .int t_firstAct, .int t_actCount, .int t_slotsKept, .long t_weather])), (q_t_told, .inr (3, [.ref q_t_told_beats, .ref q_t_told_kinds, .int t_told_count, .int t_told_depth, .int t_told_noon, .int t_told_depthBehind])), (q_t_foresight, .inr (1, [.ref q_t_told, .ref q_t_now, .ref q_t_foresight_trial])), (q_t_foresight_trial, .inr (6, [.ref q_t_told, .ref q_t_foresight_trial_line, .ref q_t_foresight_trial_strides, .ref q_t_foresight_trial_strains, .int o5, .int o6])), (q_t_now, .inr (6, [.ref q_t_told, .ref q_t_now_line, .ref q_t_now_strides, .ref q_t_now_strains, .int t_now_down, .int t_now_steps])), (q_t_now_line, .inl (cI, 5, .inl t_now_line)), (q_t_foresight_trial_line, .inl (cI, 5, .inl o7)), (q_t_now_strides, .inl (cI, 5, .inl t_now_strides)), (q_t_foresight_trial_strides, .inl (cI, 5, .inl o8)), (q_t_now_strains, .inl (cI, 5, .inl t_now_strains)), (q_t_foresight_trial_strains, .inl (cI, 5, .inl o9)), (q_t_told_kinds, .inl (cI, 5, .inl t_told_kinds)), (q_t_told_beats, .inl (cI, 5, .inl t_told_beats))] H := hP
    obtain ⟨r15, e17, hf⟩ := bd_ok hf
    refine kSi (As := [.ref tF, .int r12]) CF (va_cwS 2 hts gX7_share_X7_at rfl rfl rfl (by decide +kernel) ⟨Nat.le_of_ble_eq_true rfl, Nat.le_of_ble_eq_true rfl⟩) PUS_blind hP hD hS hA [] (fun h1 h2 h3 => PUS_pre hK hFS hS h1 h2 h3) (c_X7_at_st l dC dI cI cZ tF _ r12 r15 e17) rfl rfl rfl rfl hl.1 rfl (Nat.le_of_ble_eq_true rfl) dX7_share_31 ⟨Nat.zero_le _, Nat.zero_le _⟩ (fun H locs hP hS => ?_)
    replace hP : va_P (dC, dI) vwCl [(q_t, .inr (7, [.ref q_t_text, .ref q_t_told, .ref q_t_now, .ref q_t_acts, .ref q_t_slots, .ref q_t_marks, .ref q_t_foresight, .ref q_t_chances, .int t_firstAct, .int t_actCount, .int t_slotsKept, .long t_weather])), (q_t_told, .inr (3, [.ref q_t_told_beats, .ref q_t_told_kinds, .int t_told_count, .int t_told_depth, .int t_told_noon, .int t_told_depthBehind])), (q_t_foresight, .inr (1, [.ref q_t_told, .ref q_t_now, .ref q_t_foresight_trial])), (q_t_foresight_trial, .inr (6, [.ref q_t_told, .ref q_t_foresight_trial_line, .ref q_t_foresight_trial_strides, .ref q_t_foresight_trial_strains, .int o5, .int o6])), (q_t_now, .inr (6, [.ref q_t_told, .ref q_t_now_line, .ref q_t_now_strides, .ref q_t_now_strains, .int t_now_down, .int t_now_steps])), (q_t_now_line, .inl (cI, 5, .inl t_now_line)), (q_t_foresight_trial_line, .inl (cI, 5, .inl o7)), (q_t_now_strides, .inl (cI, 5, .inl t_now_strides)), (q_t_foresight_trial_strides, .inl (cI, 5, .inl o8)), (q_t_now_strains, .inl (cI, 5, .inl t_now_strains)), (q_t_foresight_trial_strains, .inl (cI, 5, .inl o9)), (q_t_told_kinds, .inl (cI, 5, .inl t_told_kinds)), (q_t_told_beats, .inl (cI, 5, .inl t_told_beats))] H := hP
    refine lv_iload_n hx hb dX7_share_34 rfl (lv_at hl 2 rfl) ?_
    obtain ⟨r18, e20, hf⟩ := bd_ok hf
    refine kSi (As := [.int r4, .int r15, .int x2]) CF (va_cwS 3 hts gX7_share_X7_partOf rfl rfl rfl (by decide +kernel) ⟨Nat.le_of_ble_eq_true rfl, Nat.le_of_ble_eq_true rfl⟩) PU_blind hP hD hS hA [] (fun h1 h2 h3 => PU_pre hK h1 A h2 h3) (c_X7_partOf l dC dI cI cZ _ r4 r15 x2 r18 e20) rfl rfl rfl rfl hl.1 rfl (Nat.le_of_ble_eq_true rfl) dX7_share_35 ⟨Nat.zero_le _, Nat.zero_le _⟩ (fun H locs hP hS => ?_)
    replace hP : va_P (dC, dI) vwCl [(q_t, .inr (7, [.ref q_t_text, .ref q_t_told, .ref q_t_now, .ref q_t_acts, .ref q_t_slots, .ref q_t_marks, .ref q_t_foresight, .ref q_t_chances, .int t_firstAct, .int t_actCount, .int t_slotsKept, .long t_weather])), (q_t_told, .inr (3, [.ref q_t_told_beats, .ref q_t_told_kinds, .int t_told_count, .int t_told_depth, .int t_told_noon, .int t_told_depthBehind])), (q_t_foresight, .inr (1, [.ref q_t_told, .ref q_t_now, .ref q_t_foresight_trial])), (q_t_foresight_trial, .inr (6, [.ref q_t_told, .ref q_t_foresight_trial_line, .ref q_t_foresight_trial_strides, .ref q_t_foresight_trial_strains, .int o5, .int o6])), (q_t_now, .inr (6, [.ref q_t_told, .ref q_t_now_line, .ref q_t_now_strides, .ref q_t_now_strains, .int t_now_down, .int t_now_steps])), (q_t_now_line, .inl (cI, 5, .inl t_now_line)), (q_t_foresight_trial_line, .inl (cI, 5, .inl o7)), (q_t_now_strides, .inl (cI, 5, .inl t_now_strides)), (q_t_foresight_trial_strides, .inl (cI, 5, .inl o8)), (q_t_now_strains, .inl (cI, 5, .inl t_now_strains)), (q_t_foresight_trial_strains, .inl (cI, 5, .inl o9)), (q_t_told_kinds, .inl (cI, 5, .inl t_told_kinds)), (q_t_told_beats, .inl (cI, 5, .inl t_told_beats))] H := hP
    obtain ⟨e0, hf⟩ := ij2 hf
    obtain ⟨e1, hf⟩ := ijc hf
    obtain ⟨e2, hf⟩ := ijc hf
    obtain ⟨e3, hf⟩ := ijc hf
    obtain ⟨e4, hf⟩ := ijc hf
    have e5 := hf
    refine W.eq (congrArg (fun z => F0 m 38 ls [.int z]) e0) ?_
    exact hret _ _ _ _ (by rw [← e1, ← e2, ← e3, ← e4, ← e5]; exact hP) hS dX7_share_38
  · replace hf := ip hc hf
    refine lv_iconst (v := (-1)) hx hb dX7_share_11 (by decide) ?_
    obtain ⟨e0, hf⟩ := ij2 hf
    obtain ⟨e1, hf⟩ := ijc hf
    obtain ⟨e2, hf⟩ := ijc hf
    obtain ⟨e3, hf⟩ := ijc hf
    obtain ⟨e4, hf⟩ := ijc hf
    have e5 := hf
    refine W.eq (congrArg (fun z => F0 m 12 ls [.int z]) e0) ?_
    exact hret _ _ _ _ (by rw [← e1, ← e2, ← e3, ← e4, ← e5]; exact hP) hS dX7_share_12
abbrev rm_X7_mark : Room := { frames := 2, cells := 0, slots := 0, locals := 44 }
set_option maxHeartbeats 4000000 in
set_option maxRecDepth 100000 in
theorem c_X7_mark (l : Launch) (dC : Nat → ClassId) (dI : Nat → Nat → Nat) (cI cZ : ClassId) (q_t q_t_text q_t_told q_t_now q_t_acts q_t_slots q_t_marks q_t_foresight q_t_chances q_t_marks_times q_t_marks_treads : Nat) (sz : Nat) (t_firstAct : Int32) (t_actCount : Int32) (t_slotsKept : Int32) (t_weather : Int64) (t_marks_count : Int32) (t_marks_times : Nat → Int32) (t_marks_treads : Nat → Int32) (x1 : Int32) (x2 : Int32) (r_ : Int32) (o_t_marks_count : Int32) (o_t_marks_times : Nat → Int32) (o_t_marks_treads : Nat → Int32) (hf : f_X7_mark x1 x2 t_marks_count t_marks_times t_marks_treads = some (r_, o_t_marks_count, o_t_marks_times, o_t_marks_treads)) : Met l yX7_mark wsX7_mark rm_X7_mark (va_Pc [.ref q_t, .int x1, .int x2] (PU (dC, dI) cI cZ [(q_t, .inr (7, [.ref q_t_text, .ref q_t_told, .ref q_t_now, .ref q_t_acts, .ref q_t_slots, .ref q_t_marks, .ref q_t_foresight, .ref q_t_chances, .int t_firstAct, .int t_actCount, .int t_slotsKept, .long t_weather])), (q_t_marks, .inr (2, [.ref q_t_marks_times, .ref q_t_marks_treads, .int t_marks_count])), (q_t_marks_times, .inl (cI, 6, .inl t_marks_times)), (q_t_marks_treads, .inl (cI, 6, .inl t_marks_treads))] sz)) (va_Qi (fun (r : Int32) (_ : Unit) => r = r_) (fun _ t => va_P (dC, dI) vwCl [(q_t, .inr (7, [.ref q_t_text, .ref q_t_told, .ref q_t_now, .ref q_t_acts, .ref q_t_slots, .ref q_t_marks, .ref q_t_foresight, .ref q_t_chances, .int t_firstAct, .int t_actCount, .int t_slotsKept, .long t_weather])), (q_t_marks, .inr (2, [.ref q_t_marks_times, .ref q_t_marks_treads, .int o_t_marks_count])), (q_t_marks_times, .inl (cI, 6, .inl o_t_marks_times)), (q_t_marks_treads, .inl (cI, 6, .inl o_t_marks_treads))] t.heap) (va_A [(q_t, .inr (7, [.ref q_t_text, .ref q_t_told, .ref q_t_now, .ref q_t_acts, .ref q_t_slots, .ref q_t_marks, .ref q_t_foresight, .ref q_t_chances, .int t_firstAct, .int t_actCount, .int t_slotsKept, .long t_weather])), (q_t_marks, .inr (2, [.ref q_t_marks_times, .ref q_t_marks_treads, .int t_marks_count])), (q_t_marks_times, .inl (cI, 6, .inl t_marks_times)), (q_t_marks_treads, .inl (cI, 6, .inl t_marks_treads))] sz)) 0 0 (va_A [(q_t, .inr (7, [.ref q_t_text, .ref q_t_told, .ref q_t_now, .ref q_t_acts, .ref q_t_slots, .ref q_t_marks, .ref q_t_foresight, .ref q_t_chances, .int t_firstAct, .int t_actCount, .int t_slotsKept, .long t_weather])), (q_t_marks, .inr (2, [.ref q_t_marks_times, .ref q_t_marks_treads, .int t_marks_count])), (q_t_marks_times, .inl (cI, 6, .inl t_marks_times)), (q_t_marks_treads, .inl (cI, 6, .inl t_marks_treads))] sz) := by
  refine MetI (cc := cX7_mark) (maxL := 3) (by decide) rfl (Nat.le_of_ble_eq_true rfl) (fun _ h => h) ?_
  intro p e s m args below meth c A Q ls hx CF hK hA hD hP hS hl hB hAe hsz hret
  have hb := CF.2.1
  have hml := CF.2.2.1
  have hown := CF.2.2.2.1
  have hts := CF.2.2.2.2
  have hD0 := hD
  replace hl : lv_has ls 3 [(0, .ref q_t), (1, .int x1), (2, .int x2)] := hl
  have hinX7 : ∀ w ∈ wsX70, w ∈ wsX7_mark := fun _ h => List.mem_cons_of_mem _ (List.mem_append_left _ (List.mem_append_right _ h))
  have hinX2 : ∀ w ∈ wsX20, w ∈ wsX7_mark := fun _ h => List.mem_cons_of_mem _ (List.mem_append_right _ h)
  have w_0 := hts (.fieldLink RX7 47 "PassInStep" "marks" "LPassInStep$Marks;") (by decide +kernel)
  rw [f_X7_mark] at hf
  refine lv_iload_n hx hb dX7_mark_0 rfl (lv_at hl 1 rfl) ?_
  refine lv_if_lt (tgt := 20) hx hb dX7_mark_1 (by decide) (fun hc => ?_) (fun hc => ?_)
  · replace hf := ip hc hf
    refine lv_bipush (v := (-2)) hx hb dX7_mark_20 (by decide) ?_
    obtain ⟨e0, hf⟩ := ij2 hf
    obtain ⟨e1, hf⟩ := ijc hf
    obtain ⟨e2, hf⟩ := ijc hf
    have e3 := hf
    refine W.eq (congrArg (fun z => F0 m 22 ls [.int z]) e0) ?_
    exact hret _ _ _ _ (by rw [← e1, ← e2, ← e3]; exact hP) hS dX7_mark_22
  · replace hf := iq hc hf
    refine lv_iload_n hx hb dX7_mark_4 rfl (lv_at hl 1 rfl) ?_
    refine lv_bipush (v := 20) hx hb dX7_mark_5 (by decide) ?_
    refine lv_icmp_gt (tgt := 20) hx hb dX7_mark_7 (by decide) (fun hc => ?_) (fun hc => ?_)
    · replace hf := ip hc hf
      refine lv_bipush (v := (-2)) hx hb dX7_mark_20 (by decide) ?_
      obtain ⟨e0, hf⟩ := ij2 hf
      obtain ⟨e1, hf⟩ := ijc hf
      obtain ⟨e2, hf⟩ := ijc hf
      have e3 := hf
      refine W.eq (congrArg (fun z => F0 m 22 ls [.int z]) e0) ?_
      exact hret _ _ _ _ (by rw [← e1, ← e2, ← e3]; exact hP) hS dX7_mark_22
    · replace hf := iq hc hf
      refine lv_iload_n hx hb dX7_mark_10 rfl (lv_at hl 2 rfl) ?_
      refine lv_if_lt (tgt := 20) hx hb dX7_mark_11 (by decide) (fun hc => ?_) (fun hc => ?_)
      · replace hf := ip hc hf
        refine lv_bipush (v := (-2)) hx hb dX7_mark_20 (by decide) ?_
        obtain ⟨e0, hf⟩ := ij2 hf
        obtain ⟨e1, hf⟩ := ijc hf
        obtain ⟨e2, hf⟩ := ijc hf
        have e3 := hf
        refine W.eq (congrArg (fun z => F0 m 22 ls [.int z]) e0) ?_
        exact hret _ _ _ _ (by rw [← e1, ← e2, ← e3]; exact hP) hS dX7_mark_22
      · replace hf := iq hc hf
        refine lv_iload_n hx hb dX7_mark_14 rfl (lv_at hl 2 rfl) ?_
        refine lv_bipush (v := 12) hx hb dX7_mark_15 (by decide) ?_
        refine lv_icmp_le (tgt := 23) hx hb dX7_mark_17 (by decide) (fun hc => ?_) (fun hc => ?_)
        · replace hf := ip hc hf
          refine lv_aload_n hx hb dX7_mark_23 rfl (lv_at hl 0 rfl) ?_
          refine va_get (D := (dC, dI)) (ci := 7) (v := .ref q_t_marks) (C := RX7) (T := TX7) (N := 12) hx hb hts hinX7 hown hK.1 hP 0 rfl rfl 5 (by decide) w_0 (fun _ h9 => h9) rfl dX7_mark_24 ?_
          obtain ⟨r1, e3, hf⟩ := bd_ok hf
          refine kVi (As := []) CF (cwV 0 hts gX7_mark_X2_isFull rfl rfl rfl (by decide +kernel) ⟨Nat.le_of_ble_eq_true rfl, Nat.le_of_ble_eq_true rfl⟩) PU_blind hP hD hS hA (va_recv hK.1 hP (ci := 2) (q0 := 1) rfl rfl) [1] (fun h1 h2 h3 => PU_pre hK h1 A h2 h3) (c_X2_isFull l dC dI cI cZ q_t_marks q_t_marks_times q_t_marks_treads _ t_marks_count r1 e3) rfl rfl rfl rfl hl.1 rfl (Nat.le_of_ble_eq_true rfl) dX7_mark_27 ⟨Nat.zero_le _, Nat.zero_le _⟩ (fun H locs hP hS => ?_)
          replace hP : va_P (dC, dI) vwCl [(q_t, .inr (7, [.ref q_t_text, .ref q_t_told, .ref q_t_now, .ref q_t_acts, .ref q_t_slots, .ref q_t_marks, .ref q_t_foresight, .ref q_t_chances, .int t_firstAct, .int t_actCount, .int t_slotsKept, .long t_weather])), (q_t_marks, .inr (2, [.ref q_t_marks_times, .ref q_t_marks_treads, .int t_marks_count])), (q_t_marks_times, .inl (cI, 6, .inl t_marks_times)), (q_t_marks_treads, .inl (cI, 6, .inl t_marks_treads))] H := hP
          refine lv_if_eq (tgt := 38) hx hb dX7_mark_30 (by decide) (fun hc => ?_) (fun hc => ?_)
          · replace hf := ip hc hf
            refine lv_aload_n hx hb dX7_mark_38 rfl (lv_at hl 0 rfl) ?_
            refine va_get (D := (dC, dI)) (ci := 7) (v := .ref q_t_marks) (C := RX7) (T := TX7) (N := 12) hx hb hts hinX7 hown hK.1 hP 0 rfl rfl 5 (by decide) w_0 (fun _ h9 => h9) rfl dX7_mark_39 ?_
            refine lv_iload_n hx hb dX7_mark_42 rfl (lv_at hl 1 rfl) ?_
            refine lv_iload_n hx hb dX7_mark_43 rfl (lv_at hl 2 rfl) ?_
            obtain ⟨⟨r4, o5, o6, o7⟩, e9, hf⟩ := bd_ok hf
            refine kVi (As := [.int x1, .int x2]) CF (cwV 2 hts gX7_mark_X2_append rfl rfl rfl (by decide +kernel) ⟨Nat.le_of_ble_eq_true rfl, Nat.le_of_ble_eq_true rfl⟩) PU_blind hP hD hS hA (va_recv hK.1 hP (ci := 2) (q0 := 1) rfl rfl) [1, 2, 3] (fun h1 h2 h3 => PU_pre hK h1 A h2 h3) (c_X2_append l dC dI cI cZ q_t_marks q_t_marks_times q_t_marks_treads _ t_marks_count t_marks_times t_marks_treads x1 x2 r4 o5 o6 o7 e9) rfl rfl rfl rfl hl.1 rfl (Nat.le_of_ble_eq_true rfl) dX7_mark_44 ⟨Nat.zero_le _, Nat.zero_le _⟩ (fun H locs hP hS => ?_)
            replace hP : va_P (dC, dI) vwCl [(q_t, .inr (7, [.ref q_t_text, .ref q_t_told, .ref q_t_now, .ref q_t_acts, .ref q_t_slots, .ref q_t_marks, .ref q_t_foresight, .ref q_t_chances, .int t_firstAct, .int t_actCount, .int t_slotsKept, .long t_weather])), (q_t_marks, .inr (2, [.ref q_t_marks_times, .ref q_t_marks_treads, .int o5])), (q_t_marks_times, .inl (cI, 6, .inl o6)), (q_t_marks_treads, .inl (cI, 6, .inl o7))] H := hP
            replace hD : va_D A [(q_t, .inr (7, [.ref q_t_text, .ref q_t_told, .ref q_t_now, .ref q_t_acts, .ref q_t_slots, .ref q_t_marks, .ref q_t_foresight, .ref q_t_chances, .int t_firstAct, .int t_actCount, .int t_slotsKept, .long t_weather])), (q_t_marks, .inr (2, [.ref q_t_marks_times, .ref q_t_marks_treads, .int o5])), (q_t_marks_times, .inl (cI, 6, .inl o6)), (q_t_marks_treads, .inl (cI, 6, .inl o7))] := wd hD rfl
            obtain ⟨e0, hf⟩ := ij2 hf
            obtain ⟨e1, hf⟩ := ijc hf
            obtain ⟨e2, hf⟩ := ijc hf
            have e3 := hf
            refine W.eq (congrArg (fun z => F0 m 47 ls [.int z]) e0) ?_
            exact hret _ _ _ _ (by rw [← e1, ← e2, ← e3]; exact hP) hS dX7_mark_47
          · replace hf := iq hc hf
            refine lv_bipush (v := (-4)) hx hb dX7_mark_33 (by decide) ?_
            refine lv_goto (tgt := 47) hx hb dX7_mark_35 (by decide) ?_
            obtain ⟨e0, hf⟩ := ij2 hf
            obtain ⟨e1, hf⟩ := ijc hf
            obtain ⟨e2, hf⟩ := ijc hf
            have e3 := hf
            refine W.eq (congrArg (fun z => F0 m 47 ls [.int z]) e0) ?_
            exact hret _ _ _ _ (by rw [← e1, ← e2, ← e3]; exact hP) hS dX7_mark_47
        · replace hf := iq hc hf
          refine lv_bipush (v := (-2)) hx hb dX7_mark_20 (by decide) ?_
          obtain ⟨e0, hf⟩ := ij2 hf
          obtain ⟨e1, hf⟩ := ijc hf
          obtain ⟨e2, hf⟩ := ijc hf
          have e3 := hf
          refine W.eq (congrArg (fun z => F0 m 22 ls [.int z]) e0) ?_
          exact hret _ _ _ _ (by rw [← e1, ← e2, ← e3]; exact hP) hS dX7_mark_22
abbrev rm_X7_snowed : Room := { frames := 1, cells := 0, slots := 0, locals := 21 }
set_option maxHeartbeats 4000000 in
set_option maxRecDepth 100000 in
theorem c_X7_snowed (l : Launch) (dC : Nat → ClassId) (dI : Nat → Nat → Nat) (cI cZ : ClassId) (q_t q_t_text q_t_told q_t_now q_t_acts q_t_slots q_t_marks q_t_foresight q_t_chances q_t_marks_times q_t_marks_treads : Nat) (sz : Nat) (t_firstAct : Int32) (t_actCount : Int32) (t_slotsKept : Int32) (t_weather : Int64) (t_marks_count : Int32) (r_ : Int32) (o_t_marks_count : Int32) (hf : f_X7_snowed t_marks_count = some (r_, o_t_marks_count)) : Met l yX7_snowed wsX7_snowed rm_X7_snowed (va_Pc [.ref q_t] (PU (dC, dI) cI cZ [(q_t, .inr (7, [.ref q_t_text, .ref q_t_told, .ref q_t_now, .ref q_t_acts, .ref q_t_slots, .ref q_t_marks, .ref q_t_foresight, .ref q_t_chances, .int t_firstAct, .int t_actCount, .int t_slotsKept, .long t_weather])), (q_t_marks, .inr (2, [.ref q_t_marks_times, .ref q_t_marks_treads, .int t_marks_count]))] sz)) (va_Qi (fun (r : Int32) (_ : Unit) => r = r_) (fun _ t => va_P (dC, dI) vwCl [(q_t, .inr (7, [.ref q_t_text, .ref q_t_told, .ref q_t_now, .ref q_t_acts, .ref q_t_slots, .ref q_t_marks, .ref q_t_foresight, .ref q_t_chances, .int t_firstAct, .int t_actCount, .int t_slotsKept, .long t_weather])), (q_t_marks, .inr (2, [.ref q_t_marks_times, .ref q_t_marks_treads, .int o_t_marks_count]))] t.heap) (va_A [(q_t, .inr (7, [.ref q_t_text, .ref q_t_told, .ref q_t_now, .ref q_t_acts, .ref q_t_slots, .ref q_t_marks, .ref q_t_foresight, .ref q_t_chances, .int t_firstAct, .int t_actCount, .int t_slotsKept, .long t_weather])), (q_t_marks, .inr (2, [.ref q_t_marks_times, .ref q_t_marks_treads, .int t_marks_count]))] sz)) 0 0 (va_A [(q_t, .inr (7, [.ref q_t_text, .ref q_t_told, .ref q_t_now, .ref q_t_acts, .ref q_t_slots, .ref q_t_marks, .ref q_t_foresight, .ref q_t_chances, .int t_firstAct, .int t_actCount, .int t_slotsKept, .long t_weather])), (q_t_marks, .inr (2, [.ref q_t_marks_times, .ref q_t_marks_treads, .int t_marks_count]))] sz) := by
  refine MetI (cc := cX7_snowed) (maxL := 1) (by decide) rfl (Nat.le_of_ble_eq_true rfl) (fun _ h => h) ?_
  intro p e s m args below meth c A Q ls hx CF hK hA hD hP hS hl hB hAe hsz hret
  have hb := CF.2.1
  have hml := CF.2.2.1
  have hown := CF.2.2.2.1
  have hts := CF.2.2.2.2
  have hD0 := hD
  replace hl : lv_has ls 1 [(0, .ref q_t)] := hl
  have hinX7 : ∀ w ∈ wsX70, w ∈ wsX7_snowed := fun _ h => List.mem_cons_of_mem _ (List.mem_append_left _ (List.mem_append_right _ h))
  have hinX2 : ∀ w ∈ wsX20, w ∈ wsX7_snowed := fun _ h => List.mem_cons_of_mem _ (List.mem_append_right _ h)
  have w_0 := hts (.fieldLink RX7 47 "PassInStep" "marks" "LPassInStep$Marks;") (by decide +kernel)
  rw [f_X7_snowed] at hf
  refine lv_aload_n hx hb dX7_snowed_0 rfl (lv_at hl 0 rfl) ?_
  refine va_get (D := (dC, dI)) (ci := 7) (v := .ref q_t_marks) (C := RX7) (T := TX7) (N := 12) hx hb hts hinX7 hown hK.1 hP 0 rfl rfl 5 (by decide) w_0 (fun _ h9 => h9) rfl dX7_snowed_1 ?_
  obtain ⟨⟨r1, o2⟩, e4, hf⟩ := bd_ok hf
  refine kVi (As := []) CF (cwV 0 hts gX7_snowed_X2_clear rfl rfl rfl (by decide +kernel) ⟨Nat.le_of_ble_eq_true rfl, Nat.le_of_ble_eq_true rfl⟩) PU_blind hP hD hS hA (va_recv hK.1 hP (ci := 2) (q0 := 1) rfl rfl) [1] (fun h1 h2 h3 => PU_pre hK h1 A h2 h3) (c_X2_clear l dC dI cI cZ q_t_marks q_t_marks_times q_t_marks_treads _ t_marks_count r1 o2 e4) rfl rfl rfl rfl hl.1 rfl (Nat.le_of_ble_eq_true rfl) dX7_snowed_4 ⟨Nat.zero_le _, Nat.zero_le _⟩ (fun H locs hP hS => ?_)
  replace hP : va_P (dC, dI) vwCl [(q_t, .inr (7, [.ref q_t_text, .ref q_t_told, .ref q_t_now, .ref q_t_acts, .ref q_t_slots, .ref q_t_marks, .ref q_t_foresight, .ref q_t_chances, .int t_firstAct, .int t_actCount, .int t_slotsKept, .long t_weather])), (q_t_marks, .inr (2, [.ref q_t_marks_times, .ref q_t_marks_treads, .int o2]))] H := hP
  replace hD : va_D A [(q_t, .inr (7, [.ref q_t_text, .ref q_t_told, .ref q_t_now, .ref q_t_acts, .ref q_t_slots, .ref q_t_marks, .ref q_t_foresight, .ref q_t_chances, .int t_firstAct, .int t_actCount, .int t_slotsKept, .long t_weather])), (q_t_marks, .inr (2, [.ref q_t_marks_times, .ref q_t_marks_treads, .int o2]))] := wd hD rfl
  obtain ⟨e0, hf⟩ := ij2 hf
  have e1 := hf
  refine W.eq (congrArg (fun z => F0 m 7 ls [.int z]) e0) ?_
  exact hret _ _ _ _ (by rw [← e1]; exact hP) hS dX7_snowed_7
abbrev rm_X7_whose : Room := { frames := 3, cells := 0, slots := 0, locals := 68 }
set_option maxHeartbeats 4000000 in
set_option maxRecDepth 100000 in
theorem c_X7_whose (l : Launch) (dC : Nat → ClassId) (dI : Nat → Nat → Nat) (cI cZ : ClassId) (q_t q_t_text q_t_told q_t_now q_t_acts q_t_slots q_t_marks q_t_foresight q_t_chances q_t_marks_times q_t_marks_treads : Nat) (sz : Nat) (t_firstAct : Int32) (t_actCount : Int32) (t_slotsKept : Int32) (t_weather : Int64) (t_marks_count : Int32) (t_marks_times : Nat → Int32) (t_marks_treads : Nat → Int32) (x1 : Int32) (r_ : Int32) (hf : f_X7_whose x1 t_marks_count t_marks_times t_marks_treads = some r_) : Met l yX7_whose wsX7_whose rm_X7_whose (va_Pc [.ref q_t, .int x1] (PU (dC, dI) cI cZ [(q_t, .inr (7, [.ref q_t_text, .ref q_t_told, .ref q_t_now, .ref q_t_acts, .ref q_t_slots, .ref q_t_marks, .ref q_t_foresight, .ref q_t_chances, .int t_firstAct, .int t_actCount, .int t_slotsKept, .long t_weather])), (q_t_marks, .inr (2, [.ref q_t_marks_times, .ref q_t_marks_treads, .int t_marks_count])), (q_t_marks_times, .inl (cI, 6, .inl t_marks_times)), (q_t_marks_treads, .inl (cI, 6, .inl t_marks_treads))] sz)) (va_Qi (fun (r : Int32) (_ : Unit) => r = r_) (fun _ t => va_P (dC, dI) vwCl [(q_t, .inr (7, [.ref q_t_text, .ref q_t_told, .ref q_t_now, .ref q_t_acts, .ref q_t_slots, .ref q_t_marks, .ref q_t_foresight, .ref q_t_chances, .int t_firstAct, .int t_actCount, .int t_slotsKept, .long t_weather])), (q_t_marks, .inr (2, [.ref q_t_marks_times, .ref q_t_marks_treads, .int t_marks_count])), (q_t_marks_times, .inl (cI, 6, .inl t_marks_times)), (q_t_marks_treads, .inl (cI, 6, .inl t_marks_treads))] t.heap) (va_A [(q_t, .inr (7, [.ref q_t_text, .ref q_t_told, .ref q_t_now, .ref q_t_acts, .ref q_t_slots, .ref q_t_marks, .ref q_t_foresight, .ref q_t_chances, .int t_firstAct, .int t_actCount, .int t_slotsKept, .long t_weather])), (q_t_marks, .inr (2, [.ref q_t_marks_times, .ref q_t_marks_treads, .int t_marks_count])), (q_t_marks_times, .inl (cI, 6, .inl t_marks_times)), (q_t_marks_treads, .inl (cI, 6, .inl t_marks_treads))] sz)) 0 0 (va_A [(q_t, .inr (7, [.ref q_t_text, .ref q_t_told, .ref q_t_now, .ref q_t_acts, .ref q_t_slots, .ref q_t_marks, .ref q_t_foresight, .ref q_t_chances, .int t_firstAct, .int t_actCount, .int t_slotsKept, .long t_weather])), (q_t_marks, .inr (2, [.ref q_t_marks_times, .ref q_t_marks_treads, .int t_marks_count])), (q_t_marks_times, .inl (cI, 6, .inl t_marks_times)), (q_t_marks_treads, .inl (cI, 6, .inl t_marks_treads))] sz) := by
  refine MetI (cc := cX7_whose) (maxL := 2) (by decide) rfl (Nat.le_of_ble_eq_true rfl) (fun _ h => h) ?_
  intro p e s m args below meth c A Q ls hx CF hK hA hD hP hS hl hB hAe hsz hret
  have hb := CF.2.1
  have hml := CF.2.2.1
  have hown := CF.2.2.2.1
  have hts := CF.2.2.2.2
  have hD0 := hD
  replace hl : lv_has ls 2 [(0, .ref q_t), (1, .int x1)] := hl
  have hinX7 : ∀ w ∈ wsX70, w ∈ wsX7_whose := fun _ h => List.mem_cons_of_mem _ (List.mem_append_left _ (List.mem_append_right _ h))
  have hinX2 : ∀ w ∈ wsX20, w ∈ wsX7_whose := fun _ h => List.mem_cons_of_mem _ (List.mem_append_right _ h)
  have w_0 := hts (.fieldLink RX7 47 "PassInStep" "marks" "LPassInStep$Marks;") (by decide +kernel)
  rw [f_X7_whose] at hf
  refine lv_iload_n hx hb dX7_whose_0 rfl (lv_at hl 1 rfl) ?_
  by_cases n0 : (x1 : Int32) = 0
  · replace hf := ip n0 hf
    refine lv_lookup (off := 27) (tgt := 28) hx hb dX7_whose_1 (by decide) (by rw [n0]; rfl) (by decide) ?_
    refine lv_aload_n hx hb dX7_whose_28 rfl (lv_at hl 0 rfl) ?_
    refine va_get (D := (dC, dI)) (ci := 7) (v := .ref q_t_marks) (C := RX7) (T := TX7) (N := 12) hx hb hts hinX7 hown hK.1 hP 0 rfl rfl 5 (by decide) w_0 (fun _ h9 => h9) rfl dX7_whose_29 ?_
    obtain ⟨r1, e3, hf⟩ := bd_ok hf
    refine kVi (As := []) CF (cwV 0 hts gX7_whose_X2_fitting rfl rfl rfl (by decide +kernel) ⟨Nat.le_of_ble_eq_true rfl, Nat.le_of_ble_eq_true rfl⟩) PU_blind hP hD hS hA (va_recv hK.1 hP (ci := 2) (q0 := 1) rfl rfl) [1, 2, 3] (fun h1 h2 h3 => PU_pre hK h1 A h2 h3) (c_X2_fitting l dC dI cI cZ q_t_marks q_t_marks_times q_t_marks_treads _ t_marks_count t_marks_times t_marks_treads r1 e3) rfl rfl rfl rfl hl.1 rfl (Nat.le_of_ble_eq_true rfl) dX7_whose_32 ⟨Nat.zero_le _, Nat.zero_le _⟩ (fun H locs hP hS => ?_)
    replace hP : va_P (dC, dI) vwCl [(q_t, .inr (7, [.ref q_t_text, .ref q_t_told, .ref q_t_now, .ref q_t_acts, .ref q_t_slots, .ref q_t_marks, .ref q_t_foresight, .ref q_t_chances, .int t_firstAct, .int t_actCount, .int t_slotsKept, .long t_weather])), (q_t_marks, .inr (2, [.ref q_t_marks_times, .ref q_t_marks_treads, .int t_marks_count])), (q_t_marks_times, .inl (cI, 6, .inl t_marks_times)), (q_t_marks_treads, .inl (cI, 6, .inl t_marks_treads))] H := hP
    have e0 := ij1 hf
    refine W.eq (congrArg (fun z => F0 m 35 ls [.int z]) e0) ?_
    exact hret _ _ _ _ hP hS dX7_whose_35
  · replace hf := iq n0 hf
    by_cases n1 : (x1 : Int32) = 1
    · replace hf := ip n1 hf
      refine lv_lookup (off := 35) (tgt := 36) hx hb dX7_whose_1 (by decide) (by rw [n1]; rfl) (by decide) ?_
      refine lv_aload_n hx hb dX7_whose_36 rfl (lv_at hl 0 rfl) ?_
      refine va_get (D := (dC, dI)) (ci := 7) (v := .ref q_t_marks) (C := RX7) (T := TX7) (N := 12) hx hb hts hinX7 hown hK.1 hP 0 rfl rfl 5 (by decide) w_0 (fun _ h9 => h9) rfl dX7_whose_37 ?_
      obtain ⟨r4, e6, hf⟩ := bd_ok hf
      refine kVi (As := []) CF (cwV 0 hts gX7_whose_X2_firstFitting rfl rfl rfl (by decide +kernel) ⟨Nat.le_of_ble_eq_true rfl, Nat.le_of_ble_eq_true rfl⟩) PU_blind hP hD hS hA (va_recv hK.1 hP (ci := 2) (q0 := 1) rfl rfl) [1, 2, 3] (fun h1 h2 h3 => PU_pre hK h1 A h2 h3) (c_X2_firstFitting l dC dI cI cZ q_t_marks q_t_marks_times q_t_marks_treads _ t_marks_count t_marks_times t_marks_treads r4 e6) rfl rfl rfl rfl hl.1 rfl (Nat.le_of_ble_eq_true rfl) dX7_whose_40 ⟨Nat.zero_le _, Nat.zero_le _⟩ (fun H locs hP hS => ?_)
      replace hP : va_P (dC, dI) vwCl [(q_t, .inr (7, [.ref q_t_text, .ref q_t_told, .ref q_t_now, .ref q_t_acts, .ref q_t_slots, .ref q_t_marks, .ref q_t_foresight, .ref q_t_chances, .int t_firstAct, .int t_actCount, .int t_slotsKept, .long t_weather])), (q_t_marks, .inr (2, [.ref q_t_marks_times, .ref q_t_marks_treads, .int t_marks_count])), (q_t_marks_times, .inl (cI, 6, .inl t_marks_times)), (q_t_marks_treads, .inl (cI, 6, .inl t_marks_treads))] H := hP
      have e0 := ij1 hf
      refine W.eq (congrArg (fun z => F0 m 43 ls [.int z]) e0) ?_
      exact hret _ _ _ _ hP hS dX7_whose_43
    · replace hf := iq n1 hf
      refine lv_lookup (off := 43) (tgt := 44) hx hb dX7_whose_1 (by decide) (by have a0 : (x1 : Int32).toInt ≠ 0 := sw_ne n0; have a1 : (x1 : Int32).toInt ≠ 1 := sw_ne n1; simp [Op.lookupswitch.offset, a0, Ne.symm a0, a1, Ne.symm a1]) (by decide) ?_
      refine lv_bipush (v := (-2)) hx hb dX7_whose_44 (by decide) ?_
      have e0 := ij1 hf
      refine W.eq (congrArg (fun z => F0 m 46 ls [.int z]) e0) ?_
      exact hret _ _ _ _ hP hS dX7_whose_46
abbrev rm_X7_rests : Room := { frames := 6, cells := 0, slots := 0, locals := 149 }
set_option maxHeartbeats 4000000 in
set_option maxRecDepth 100000 in
theorem c_X7_rests (l : Launch) (dC : Nat → ClassId) (dI : Nat → Nat → Nat) (cI cZ : ClassId) (q_t q_t_text q_t_told q_t_now q_t_acts q_t_slots q_t_marks q_t_foresight q_t_chances q_t_told_beats q_t_told_kinds q_t_now_line q_t_now_strides q_t_now_strains q_t_foresight_trial q_t_chances_hasOne q_t_chances_hasOther q_t_foresight_trial_line q_t_foresight_trial_strides q_t_foresight_trial_strains : Nat) (sz : Nat) (t_firstAct : Int32) (t_actCount : Int32) (t_slotsKept : Int32) (t_weather : Int64) (t_told_count : Int32) (t_told_depth : Int32) (t_told_noon : Int32) (t_told_depthBehind : Int32) (t_now_down : Int32) (t_now_steps : Int32) (t_foresight_trial_down : Int32) (t_foresight_trial_steps : Int32) (t_now_line : Nat → Int32) (t_foresight_trial_line : Nat → Int32) (t_now_strides : Nat → Int32) (t_foresight_trial_strides : Nat → Int32) (t_now_strains : Nat → Int32) (t_foresight_trial_strains : Nat → Int32) (t_told_kinds : Nat → Int32) (t_told_beats : Nat → Int32) (t_chances_hasOne : Nat → Int32) (t_chances_hasOther : Nat → Int32) (x1 : Int32) (x2 : Int32) (x3 : Int32) (r_ : Int32) (o_t_foresight_trial_down : Int32) (o_t_foresight_trial_steps : Int32) (o_t_foresight_trial_line : Nat → Int32) (o_t_foresight_trial_strides : Nat → Int32) (o_t_foresight_trial_strains : Nat → Int32) (o_t_chances_hasOne : Nat → Int32) (o_t_chances_hasOther : Nat → Int32) (hf : f_X7_rests x1 x2 x3 t_told_count t_told_depth t_told_noon t_told_depthBehind t_now_down t_now_steps t_foresight_trial_down t_foresight_trial_steps t_now_line t_foresight_trial_line t_now_strides t_foresight_trial_strides t_now_strains t_foresight_trial_strains t_told_kinds t_told_beats t_chances_hasOne t_chances_hasOther = some (r_, o_t_foresight_trial_down, o_t_foresight_trial_steps, o_t_foresight_trial_line, o_t_foresight_trial_strides, o_t_foresight_trial_strains, o_t_chances_hasOne, o_t_chances_hasOther)) : Met l yX7_rests wsX7_rests rm_X7_rests (va_Pc [.ref q_t, .int x1, .int x2, .int x3] (PU (dC, dI) cI cZ [(q_t, .inr (7, [.ref q_t_text, .ref q_t_told, .ref q_t_now, .ref q_t_acts, .ref q_t_slots, .ref q_t_marks, .ref q_t_foresight, .ref q_t_chances, .int t_firstAct, .int t_actCount, .int t_slotsKept, .long t_weather])), (q_t_told, .inr (3, [.ref q_t_told_beats, .ref q_t_told_kinds, .int t_told_count, .int t_told_depth, .int t_told_noon, .int t_told_depthBehind])), (q_t_now, .inr (6, [.ref q_t_told, .ref q_t_now_line, .ref q_t_now_strides, .ref q_t_now_strains, .int t_now_down, .int t_now_steps])), (q_t_chances, .inr (0, [.ref q_t_told, .ref q_t_now, .ref q_t_foresight_trial, .ref q_t_chances_hasOne, .ref q_t_chances_hasOther])), (q_t_foresight_trial, .inr (6, [.ref q_t_told, .ref q_t_foresight_trial_line, .ref q_t_foresight_trial_strides, .ref q_t_foresight_trial_strains, .int t_foresight_trial_down, .int t_foresight_trial_steps])), (q_t_now_line, .inl (cI, 5, .inl t_now_line)), (q_t_foresight_trial_line, .inl (cI, 5, .inl t_foresight_trial_line)), (q_t_now_strides, .inl (cI, 5, .inl t_now_strides)), (q_t_foresight_trial_strides, .inl (cI, 5, .inl t_foresight_trial_strides)), (q_t_now_strains, .inl (cI, 5, .inl t_now_strains)), (q_t_foresight_trial_strains, .inl (cI, 5, .inl t_foresight_trial_strains)), (q_t_told_kinds, .inl (cI, 5, .inl t_told_kinds)), (q_t_told_beats, .inl (cI, 5, .inl t_told_beats)), (q_t_chances_hasOne, .inl (cI, 4, .inl t_chances_hasOne)), (q_t_chances_hasOther, .inl (cI, 4, .inl t_chances_hasOther))] sz)) (va_Qi (fun (r : Int32) (_ : Unit) => r = r_) (fun _ t => va_P (dC, dI) vwCl [(q_t, .inr (7, [.ref q_t_text, .ref q_t_told, .ref q_t_now, .ref q_t_acts, .ref q_t_slots, .ref q_t_marks, .ref q_t_foresight, .ref q_t_chances, .int t_firstAct, .int t_actCount, .int t_slotsKept, .long t_weather])), (q_t_told, .inr (3, [.ref q_t_told_beats, .ref q_t_told_kinds, .int t_told_count, .int t_told_depth, .int t_told_noon, .int t_told_depthBehind])), (q_t_now, .inr (6, [.ref q_t_told, .ref q_t_now_line, .ref q_t_now_strides, .ref q_t_now_strains, .int t_now_down, .int t_now_steps])), (q_t_chances, .inr (0, [.ref q_t_told, .ref q_t_now, .ref q_t_foresight_trial, .ref q_t_chances_hasOne, .ref q_t_chances_hasOther])), (q_t_foresight_trial, .inr (6, [.ref q_t_told, .ref q_t_foresight_trial_line, .ref q_t_foresight_trial_strides, .ref q_t_foresight_trial_strains, .int o_t_foresight_trial_down, .int o_t_foresight_trial_steps])), (q_t_now_line, .inl (cI, 5, .inl t_now_line)), (q_t_foresight_trial_line, .inl (cI, 5, .inl o_t_foresight_trial_line)), (q_t_now_strides, .inl (cI, 5, .inl t_now_strides)), (q_t_foresight_trial_strides, .inl (cI, 5, .inl o_t_foresight_trial_strides)), (q_t_now_strains, .inl (cI, 5, .inl t_now_strains)), (q_t_foresight_trial_strains, .inl (cI, 5, .inl o_t_foresight_trial_strains)), (q_t_told_kinds, .inl (cI, 5, .inl t_told_kinds)), (q_t_told_beats, .inl (cI, 5, .inl t_told_beats)), (q_t_chances_hasOne, .inl (cI, 4, .inl o_t_chances_hasOne)), (q_t_chances_hasOther, .inl (cI, 4, .inl o_t_chances_hasOther))] t.heap) (va_A [(q_t, .inr (7, [.ref q_t_text, .ref q_t_told, .ref q_t_now, .ref q_t_acts, .ref q_t_slots, .ref q_t_marks, .ref q_t_foresight, .ref q_t_chances, .int t_firstAct, .int t_actCount, .int t_slotsKept, .long t_weather])), (q_t_told, .inr (3, [.ref q_t_told_beats, .ref q_t_told_kinds, .int t_told_count, .int t_told_depth, .int t_told_noon, .int t_told_depthBehind])), (q_t_now, .inr (6, [.ref q_t_told, .ref q_t_now_line, .ref q_t_now_strides, .ref q_t_now_strains, .int t_now_down, .int t_now_steps])), (q_t_chances, .inr (0, [.ref q_t_told, .ref q_t_now, .ref q_t_foresight_trial, .ref q_t_chances_hasOne, .ref q_t_chances_hasOther])), (q_t_foresight_trial, .inr (6, [.ref q_t_told, .ref q_t_foresight_trial_line, .ref q_t_foresight_trial_strides, .ref q_t_foresight_trial_strains, .int t_foresight_trial_down, .int t_foresight_trial_steps])), (q_t_now_line, .inl (cI, 5, .inl t_now_line)), (q_t_foresight_trial_line, .inl (cI, 5, .inl t_foresight_trial_line)), (q_t_now_strides, .inl (cI, 5, .inl t_now_strides)), (q_t_foresight_trial_strides, .inl (cI, 5, .inl t_foresight_trial_strides)), (q_t_now_strains, .inl (cI, 5, .inl t_now_strains)), (q_t_foresight_trial_strains, .inl (cI, 5, .inl t_foresight_trial_strains)), (q_t_told_kinds, .inl (cI, 5, .inl t_told_kinds)), (q_t_told_beats, .inl (cI, 5, .inl t_told_beats)), (q_t_chances_hasOne, .inl (cI, 4, .inl t_chances_hasOne)), (q_t_chances_hasOther, .inl (cI, 4, .inl t_chances_hasOther))] sz)) 0 0 (va_A [(q_t, .inr (7, [.ref q_t_text, .ref q_t_told, .ref q_t_now, .ref q_t_acts, .ref q_t_slots, .ref q_t_marks, .ref q_t_foresight, .ref q_t_chances, .int t_firstAct, .int t_actCount, .int t_slotsKept, .long t_weather])), (q_t_told, .inr (3, [.ref q_t_told_beats, .ref q_t_told_kinds, .int t_told_count, .int t_told_depth, .int t_told_noon, .int t_told_depthBehind])), (q_t_now, .inr (6, [.ref q_t_told, .ref q_t_now_line, .ref q_t_now_strides, .ref q_t_now_strains, .int t_now_down, .int t_now_steps])), (q_t_chances, .inr (0, [.ref q_t_told, .ref q_t_now, .ref q_t_foresight_trial, .ref q_t_chances_hasOne, .ref q_t_chances_hasOther])), (q_t_foresight_trial, .inr (6, [.ref q_t_told, .ref q_t_foresight_trial_line, .ref q_t_foresight_trial_strides, .ref q_t_foresight_trial_strains, .int t_foresight_trial_down, .int t_foresight_trial_steps])), (q_t_now_line, .inl (cI, 5, .inl t_now_line)), (q_t_foresight_trial_line, .inl (cI, 5, .inl t_foresight_trial_line)), (q_t_now_strides, .inl (cI, 5, .inl t_now_strides)), (q_t_foresight_trial_strides, .inl (cI, 5, .inl t_foresight_trial_strides)), (q_t_now_strains, .inl (cI, 5, .inl t_now_strains)), (q_t_foresight_trial_strains, .inl (cI, 5, .inl t_foresight_trial_strains)), (q_t_told_kinds, .inl (cI, 5, .inl t_told_kinds)), (q_t_told_beats, .inl (cI, 5, .inl t_told_beats)), (q_t_chances_hasOne, .inl (cI, 4, .inl t_chances_hasOne)), (q_t_chances_hasOther, .inl (cI, 4, .inl t_chances_hasOther))] sz) := by
  refine MetI (cc := cX7_rests) (maxL := 4) (by decide) rfl (Nat.le_of_ble_eq_true rfl) (fun _ h => h) ?_
  intro p e s m args below meth c A Q ls hx CF hK hA hD hP hS hl hB hAe hsz hret
  have hb := CF.2.1
  have hml := CF.2.2.1
  have hown := CF.2.2.2.1
  have hts := CF.2.2.2.2
  have hD0 := hD
  replace hl : lv_has ls 4 [(0, .ref q_t), (1, .int x1), (2, .int x2), (3, .int x3)] := hl
  have hinX7 : ∀ w ∈ wsX70, w ∈ wsX7_rests := fun _ h => List.mem_cons_of_mem _ (List.mem_append_left _ (List.mem_append_left _ (List.mem_append_left _ (List.mem_append_right _ h))))
  have hinX3 : ∀ w ∈ wsX30, w ∈ wsX7_rests := fun _ h => List.mem_cons_of_mem _ (List.mem_append_left _ (List.mem_append_left _ (List.mem_append_right _ h)))
  have hinX6 : ∀ w ∈ wsX60, w ∈ wsX7_rests := fun _ h => List.mem_cons_of_mem _ (List.mem_append_left _ (List.mem_append_right _ h))
  have hinX0 : ∀ w ∈ wsX00, w ∈ wsX7_rests := fun _ h => List.mem_cons_of_mem _ (List.mem_append_right _ h)
  have w_0 := hts (.fieldLink RX7 19 "PassInStep" "told" "LPassInStep$Party;") (by decide +kernel)
  have w_1 := hts (.fieldLink RX7 28 "PassInStep" "now" "LPassInStep$Yard;") (by decide +kernel)
  have w_2 := hts (.fieldLink RX7 63 "PassInStep" "chances" "LPassInStep$Chances;") (by decide +kernel)
  have h_82 : ∀ (s0 : Int32) (s1 : Int32) (s2 : Int32) (t_foresight_trial_down : Int32) (t_foresight_trial_steps : Int32) (t_foresight_trial_line : Nat → Int32) (t_foresight_trial_strides : Nat → Int32) (t_foresight_trial_strains : Nat → Int32) (t_chances_hasOne : Nat → Int32) (t_chances_hasOther : Nat → Int32) (H : Heap) (locs : List Loc) (ls : Array Slot), va_P (dC, dI) vwCl [(q_t, .inr (7, [.ref q_t_text, .ref q_t_told, .ref q_t_now, .ref q_t_acts, .ref q_t_slots, .ref q_t_marks, .ref q_t_foresight, .ref q_t_chances, .int t_firstAct, .int t_actCount, .int t_slotsKept, .long t_weather])), (q_t_told, .inr (3, [.ref q_t_told_beats, .ref q_t_told_kinds, .int t_told_count, .int t_told_depth, .int t_told_noon, .int t_told_depthBehind])), (q_t_now, .inr (6, [.ref q_t_told, .ref q_t_now_line, .ref q_t_now_strides, .ref q_t_now_strains, .int t_now_down, .int t_now_steps])), (q_t_chances, .inr (0, [.ref q_t_told, .ref q_t_now, .ref q_t_foresight_trial, .ref q_t_chances_hasOne, .ref q_t_chances_hasOther])), (q_t_foresight_trial, .inr (6, [.ref q_t_told, .ref q_t_foresight_trial_line, .ref q_t_foresight_trial_strides, .ref q_t_foresight_trial_strains, .int t_foresight_trial_down, .int t_foresight_trial_steps])), (q_t_now_line, .inl (cI, 5, .inl t_now_line)), (q_t_foresight_trial_line, .inl (cI, 5, .inl t_foresight_trial_line)), (q_t_now_strides, .inl (cI, 5, .inl t_now_strides)), (q_t_foresight_trial_strides, .inl (cI, 5, .inl t_foresight_trial_strides)), (q_t_now_strains, .inl (cI, 5, .inl t_now_strains)), (q_t_foresight_trial_strains, .inl (cI, 5, .inl t_foresight_trial_strains)), (q_t_told_kinds, .inl (cI, 5, .inl t_told_kinds)), (q_t_told_beats, .inl (cI, 5, .inl t_told_beats)), (q_t_chances_hasOne, .inl (cI, 4, .inl t_chances_hasOne)), (q_t_chances_hasOther, .inl (cI, 4, .inl t_chances_hasOther))] H → va_S A s.heap H locs → lv_has ls 4 [] → J_X7_rests_82 s0 s1 s2 t_told_count t_told_depth t_told_noon t_told_depthBehind t_now_down t_now_steps t_foresight_trial_down t_foresight_trial_steps t_now_line t_foresight_trial_line t_now_strides t_foresight_trial_strides t_now_strains t_foresight_trial_strains t_told_kinds t_told_beats t_chances_hasOne t_chances_hasOther = some (r_, o_t_foresight_trial_down, o_t_foresight_trial_steps, o_t_foresight_trial_line, o_t_foresight_trial_strides, o_t_foresight_trial_strains, o_t_chances_hasOne, o_t_chances_hasOther) → W p l e rm_X7_rests s m args below meth c H locs 0 0 Q (F0 m 82 ls [.int s0, .int s1, .int s2, .ref q_t_chances]) := by
    intro s0 s1 s2 t_foresight_trial_down t_foresight_trial_steps t_foresight_trial_line t_foresight_trial_strides t_foresight_trial_strains t_chances_hasOne t_chances_hasOther H locs ls hP hS hl hf
    have hD : va_D A [(q_t, .inr (7, [.ref q_t_text, .ref q_t_told, .ref q_t_now, .ref q_t_acts, .ref q_t_slots, .ref q_t_marks, .ref q_t_foresight, .ref q_t_chances, .int t_firstAct, .int t_actCount, .int t_slotsKept, .long t_weather])), (q_t_told, .inr (3, [.ref q_t_told_beats, .ref q_t_told_kinds, .int t_told_count, .int t_told_depth, .int t_told_noon, .int t_told_depthBehind])), (q_t_now, .inr (6, [.ref q_t_told, .ref q_t_now_line, .ref q_t_now_strides, .ref q_t_now_strains, .int t_now_down, .int t_now_steps])), (q_t_chances, .inr (0, [.ref q_t_told, .ref q_t_now, .ref q_t_foresight_trial, .ref q_t_chances_hasOne, .ref q_t_chances_hasOther])), (q_t_foresight_trial, .inr (6, [.ref q_t_told, .ref q_t_foresight_trial_line, .ref q_t_foresight_trial_strides, .ref q_t_foresight_trial_strains, .int t_foresight_trial_down, .int t_foresight_trial_steps])), (q_t_now_line, .inl (cI, 5, .inl t_now_line)), (q_t_foresight_trial_line, .inl (cI, 5, .inl t_foresight_trial_line)), (q_t_now_strides, .inl (cI, 5, .inl t_now_strides)), (q_t_foresight_trial_strides, .inl (cI, 5, .inl t_foresight_trial_strides)), (q_t_now_strains, .inl (cI, 5, .inl t_now_strains)), (q_t_foresight_trial_strains, .inl (cI, 5, .inl t_foresight_trial_strains)), (q_t_told_kinds, .inl (cI, 5, .inl t_told_kinds)), (q_t_told_beats, .inl (cI, 5, .inl t_told_beats)), (q_t_chances_hasOne, .inl (cI, 4, .inl t_chances_hasOne)), (q_t_chances_hasOther, .inl (cI, 4, .inl t_chances_hasOther))] := wd hD0 rfl
    rw [J_X7_rests_82] at hf
    obtain ⟨⟨r1, o2, o3, o4, o5, o6, o7, o8⟩, e10, hf⟩ := bd_ok hf
    refine kVi (As := [.int s2, .int s1, .int s0]) CF (cwV 3 hts gX7_rests_X0_restingPairs rfl rfl rfl (by decide +kernel) ⟨Nat.le_of_ble_eq_true rfl, Nat.le_of_ble_eq_true rfl⟩) PU_blind hP hD hS hA (va_recv hK.1 hP (ci := 0) (q0 := 3) rfl rfl) [3, 4, 2, 5, 6, 7, 8, 9, 10, 1, 11, 12, 13, 14] (fun h1 h2 h3 => PU_pre hK h1 A h2 h3) (c_X0_restingPairs l dC dI cI cZ q_t_chances q_t_told q_t_now q_t_foresight_trial q_t_chances_hasOne q_t_chances_hasOther q_t_foresight_trial_line q_t_foresight_trial_strides q_t_foresight_trial_strains q_t_now_line q_t_now_strides q_t_now_strains q_t_told_beats q_t_told_kinds _ t_foresight_trial_down t_foresight_trial_steps t_now_down t_now_steps t_now_line t_foresight_trial_line t_now_strides t_foresight_trial_strides t_now_strains t_foresight_trial_strains t_told_count t_told_depth t_told_noon t_told_depthBehind t_told_kinds t_told_beats t_chances_hasOne t_chances_hasOther s2 s1 s0 r1 o2 o3 o4 o5 o6 o7 o8 e10) rfl rfl rfl rfl hl.1 rfl (Nat.le_of_ble_eq_true rfl) dX7_rests_82 ⟨Nat.zero_le _, Nat.zero_le _⟩ (fun H locs hP hS => ?_)
    replace hP : va_P (dC, dI) vwCl [(q_t, .inr (7, [.ref q_t_text, .ref q_t_told, .ref q_t_now, .ref q_t_acts, .ref q_t_slots, .ref q_t_marks, .ref q_t_foresight, .ref q_t_chances, .int t_firstAct, .int t_actCount, .int t_slotsKept, .long t_weather])), (q_t_told, .inr (3, [.ref q_t_told_beats, .ref q_t_told_kinds, .int t_told_count, .int t_told_depth, .int t_told_noon, .int t_told_depthBehind])), (q_t_now, .inr (6, [.ref q_t_told, .ref q_t_now_line, .ref q_t_now_strides, .ref q_t_now_strains, .int t_now_down, .int t_now_steps])), (q_t_chances, .inr (0, [.ref q_t_told, .ref q_t_now, .ref q_t_foresight_trial, .ref q_t_chances_hasOne, .ref q_t_chances_hasOther])), (q_t_foresight_trial, .inr (6, [.ref q_t_told, .ref q_t_foresight_trial_line, .ref q_t_foresight_trial_strides, .ref q_t_foresight_trial_strains, .int o2, .int o3])), (q_t_now_line, .inl (cI, 5, .inl t_now_line)), (q_t_foresight_trial_line, .inl (cI, 5, .inl o4)), (q_t_now_strides, .inl (cI, 5, .inl t_now_strides)), (q_t_foresight_trial_strides, .inl (cI, 5, .inl o5)), (q_t_now_strains, .inl (cI, 5, .inl t_now_strains)), (q_t_foresight_trial_strains, .inl (cI, 5, .inl o6)), (q_t_told_kinds, .inl (cI, 5, .inl t_told_kinds)), (q_t_told_beats, .inl (cI, 5, .inl t_told_beats)), (q_t_chances_hasOne, .inl (cI, 4, .inl o7)), (q_t_chances_hasOther, .inl (cI, 4, .inl o8))] H := hP
    replace hD : va_D A [(q_t, .inr (7, [.ref q_t_text, .ref q_t_told, .ref q_t_now, .ref q_t_acts, .ref q_t_slots, .ref q_t_marks, .ref q_t_foresight, .ref q_t_chances, .int t_firstAct, .int t_actCount, .int t_slotsKept, .long t_weather])), (q_t_told, .inr (3, [.ref q_t_told_beats, .ref q_t_told_kinds, .int t_told_count, .int t_told_depth, .int t_told_noon, .int t_told_depthBehind])), (q_t_now, .inr (6, [.ref q_t_told, .ref q_t_now_line, .ref q_t_now_strides, .ref q_t_now_strains, .int t_now_down, .int t_now_steps])), (q_t_chances, .inr (0, [.ref q_t_told, .ref q_t_now, .ref q_t_foresight_trial, .ref q_t_chances_hasOne, .ref q_t_chances_hasOther])), (q_t_foresight_trial, .inr (6, [.ref q_t_told, .ref q_t_foresight_trial_line, .ref q_t_foresight_trial_strides, .ref q_t_foresight_trial_strains, .int o2, .int o3])), (q_t_now_line, .inl (cI, 5, .inl t_now_line)), (q_t_foresight_trial_line, .inl (cI, 5, .inl o4)), (q_t_now_strides, .inl (cI, 5, .inl t_now_strides)), (q_t_foresight_trial_strides, .inl (cI, 5, .inl o5)), (q_t_now_strains, .inl (cI, 5, .inl t_now_strains)), (q_t_foresight_trial_strains, .inl (cI, 5, .inl o6)), (q_t_told_kinds, .inl (cI, 5, .inl t_told_kinds)), (q_t_told_beats, .inl (cI, 5, .inl t_told_beats)), (q_t_chances_hasOne, .inl (cI, 4, .inl o7)), (q_t_chances_hasOther, .inl (cI, 4, .inl o8))] := wd hD rfl
    obtain ⟨e0, hf⟩ := ij2 hf
    obtain ⟨e1, hf⟩ := ijc hf
    obtain ⟨e2, hf⟩ := ijc hf
    obtain ⟨e3, hf⟩ := ijc hf
    obtain ⟨e4, hf⟩ := ijc hf
    obtain ⟨e5, hf⟩ := ijc hf
    obtain ⟨e6, hf⟩ := ijc hf
    have e7 := hf
    refine W.eq (congrArg (fun z => F0 m 85 ls [.int z]) e0) ?_
    exact hret _ _ _ _ (by rw [← e1, ← e2, ← e3, ← e4, ← e5, ← e6, ← e7]; exact hP) hS dX7_rests_85
  rw [f_X7_rests] at hf
  refine lv_aload_n hx hb dX7_rests_0 rfl (lv_at hl 0 rfl) ?_
  refine va_get (D := (dC, dI)) (ci := 7) (v := .ref q_t_told) (C := RX7) (T := TX7) (N := 12) hx hb hts hinX7 hown hK.1 hP 0 rfl rfl 1 (by decide) w_0 (fun _ h9 => h9) rfl dX7_rests_1 ?_
  refine lv_iload_n hx hb dX7_rests_4 rfl (lv_at hl 1 rfl) ?_
  obtain ⟨r11, e13, hf⟩ := bd_ok hf
  refine kVi (As := [.int x1]) CF (cwV 1 hts gX7_rests_X3_has rfl rfl rfl (by decide +kernel) ⟨Nat.le_of_ble_eq_true rfl, Nat.le_of_ble_eq_true rfl⟩) PU_blind hP hD hS hA (va_recv hK.1 hP (ci := 3) (q0 := 1) rfl rfl) [1] (fun h1 h2 h3 => PU_pre hK h1 A h2 h3) (c_X3_has l dC dI cI cZ q_t_told q_t_told_beats q_t_told_kinds _ t_told_count t_told_depth t_told_noon t_told_depthBehind x1 r11 e13) rfl rfl rfl rfl hl.1 rfl (Nat.le_of_ble_eq_true rfl) dX7_rests_5 ⟨Nat.zero_le _, Nat.zero_le _⟩ (fun H locs hP hS => ?_)
  replace hP : va_P (dC, dI) vwCl [(q_t, .inr (7, [.ref q_t_text, .ref q_t_told, .ref q_t_now, .ref q_t_acts, .ref q_t_slots, .ref q_t_marks, .ref q_t_foresight, .ref q_t_chances, .int t_firstAct, .int t_actCount, .int t_slotsKept, .long t_weather])), (q_t_told, .inr (3, [.ref q_t_told_beats, .ref q_t_told_kinds, .int t_told_count, .int t_told_depth, .int t_told_noon, .int t_told_depthBehind])), (q_t_now, .inr (6, [.ref q_t_told, .ref q_t_now_line, .ref q_t_now_strides, .ref q_t_now_strains, .int t_now_down, .int t_now_steps])), (q_t_chances, .inr (0, [.ref q_t_told, .ref q_t_now, .ref q_t_foresight_trial, .ref q_t_chances_hasOne, .ref q_t_chances_hasOther])), (q_t_foresight_trial, .inr (6, [.ref q_t_told, .ref q_t_foresight_trial_line, .ref q_t_foresight_trial_strides, .ref q_t_foresight_trial_strains, .int t_foresight_trial_down, .int t_foresight_trial_steps])), (q_t_now_line, .inl (cI, 5, .inl t_now_line)), (q_t_foresight_trial_line, .inl (cI, 5, .inl t_foresight_trial_line)), (q_t_now_strides, .inl (cI, 5, .inl t_now_strides)), (q_t_foresight_trial_strides, .inl (cI, 5, .inl t_foresight_trial_strides)), (q_t_now_strains, .inl (cI, 5, .inl t_now_strains)), (q_t_foresight_trial_strains, .inl (cI, 5, .inl t_foresight_trial_strains)), (q_t_told_kinds, .inl (cI, 5, .inl t_told_kinds)), (q_t_told_beats, .inl (cI, 5, .inl t_told_beats)), (q_t_chances_hasOne, .inl (cI, 4, .inl t_chances_hasOne)), (q_t_chances_hasOther, .inl (cI, 4, .inl t_chances_hasOther))] H := hP
  refine lv_if_eq (tgt := 22) hx hb dX7_rests_8 (by decide) (fun hc => ?_) (fun hc => ?_)
  · replace hf := ip hc hf
    refine lv_iconst (v := (-1)) hx hb dX7_rests_22 (by decide) ?_
    obtain ⟨e0, hf⟩ := ij2 hf
    obtain ⟨e1, hf⟩ := ijc hf
    obtain ⟨e2, hf⟩ := ijc hf
    obtain ⟨e3, hf⟩ := ijc hf
    obtain ⟨e4, hf⟩ := ijc hf
    obtain ⟨e5, hf⟩ := ijc hf
    obtain ⟨e6, hf⟩ := ijc hf
    have e7 := hf
    refine W.eq (congrArg (fun z => F0 m 23 ls [.int z]) e0) ?_
    exact hret _ _ _ _ (by rw [← e1, ← e2, ← e3, ← e4, ← e5, ← e6, ← e7]; exact hP) hS dX7_rests_23
  · replace hf := iq hc hf
    refine lv_aload_n hx hb dX7_rests_11 rfl (lv_at hl 0 rfl) ?_
    refine va_get (D := (dC, dI)) (ci := 7) (v := .ref q_t_told) (C := RX7) (T := TX7) (N := 12) hx hb hts hinX7 hown hK.1 hP 0 rfl rfl 1 (by decide) w_0 (fun _ h9 => h9) rfl dX7_rests_12 ?_
    refine lv_iload_n hx hb dX7_rests_15 rfl (lv_at hl 2 rfl) ?_
    obtain ⟨r14, e16, hf⟩ := bd_ok hf
    refine kVi (As := [.int x2]) CF (cwV 1 hts gX7_rests_X3_has rfl rfl rfl (by decide +kernel) ⟨Nat.le_of_ble_eq_true rfl, Nat.le_of_ble_eq_true rfl⟩) PU_blind hP hD hS hA (va_recv hK.1 hP (ci := 3) (q0 := 1) rfl rfl) [1] (fun h1 h2 h3 => PU_pre hK h1 A h2 h3) (c_X3_has l dC dI cI cZ q_t_told q_t_told_beats q_t_told_kinds _ t_told_count t_told_depth t_told_noon t_told_depthBehind x2 r14 e16) rfl rfl rfl rfl hl.1 rfl (Nat.le_of_ble_eq_true rfl) dX7_rests_16 ⟨Nat.zero_le _, Nat.zero_le _⟩ (fun H locs hP hS => ?_)
    replace hP : va_P (dC, dI) vwCl [(q_t, .inr (7, [.ref q_t_text, .ref q_t_told, .ref q_t_now, .ref q_t_acts, .ref q_t_slots, .ref q_t_marks, .ref q_t_foresight, .ref q_t_chances, .int t_firstAct, .int t_actCount, .int t_slotsKept, .long t_weather])), (q_t_told, .inr (3, [.ref q_t_told_beats, .ref q_t_told_kinds, .int t_told_count, .int t_told_depth, .int t_told_noon, .int t_told_depthBehind])), (q_t_now, .inr (6, [.ref q_t_told, .ref q_t_now_line, .ref q_t_now_strides, .ref q_t_now_strains, .int t_now_down, .int t_now_steps])), (q_t_chances, .inr (0, [.ref q_t_told, .ref q_t_now, .ref q_t_foresight_trial, .ref q_t_chances_hasOne, .ref q_t_chances_hasOther])), (q_t_foresight_trial, .inr (6, [.ref q_t_told, .ref q_t_foresight_trial_line, .ref q_t_foresight_trial_strides, .ref q_t_foresight_trial_strains, .int t_foresight_trial_down, .int t_foresight_trial_steps])), (q_t_now_line, .inl (cI, 5, .inl t_now_line)), (q_t_foresight_trial_line, .inl (cI, 5, .inl t_foresight_trial_line)), (q_t_now_strides, .inl (cI, 5, .inl t_now_strides)), (q_t_foresight_trial_strides, .inl (cI, 5, .inl t_foresight_trial_strides)), (q_t_now_strains, .inl (cI, 5, .inl t_now_strains)), (q_t_foresight_trial_strains, .inl (cI, 5, .inl t_foresight_trial_strains)), (q_t_told_kinds, .inl (cI, 5, .inl t_told_kinds)), (q_t_told_beats, .inl (cI, 5, .inl t_told_beats)), (q_t_chances_hasOne, .inl (cI, 4, .inl t_chances_hasOne)), (q_t_chances_hasOther, .inl (cI, 4, .inl t_chances_hasOther))] H := hP
    refine lv_if_ne (tgt := 24) hx hb dX7_rests_19 (by decide) (fun hc => ?_) (fun hc => ?_)
    · replace hf := iq hc hf
      refine lv_iload_n hx hb dX7_rests_24 rfl (lv_at hl 1 rfl) ?_
      refine lv_iload_n hx hb dX7_rests_25 rfl (lv_at hl 2 rfl) ?_
      refine lv_icmp_eq (tgt := 38) hx hb dX7_rests_26 (by decide) (fun hc => ?_) (fun hc => ?_)
      · replace hf := ip hc hf
        refine lv_bipush (v := (-2)) hx hb dX7_rests_38 (by decide) ?_
        obtain ⟨e0, hf⟩ := ij2 hf
        obtain ⟨e1, hf⟩ := ijc hf
        obtain ⟨e2, hf⟩ := ijc hf
        obtain ⟨e3, hf⟩ := ijc hf
        obtain ⟨e4, hf⟩ := ijc hf
        obtain ⟨e5, hf⟩ := ijc hf
        obtain ⟨e6, hf⟩ := ijc hf
        have e7 := hf
        refine W.eq (congrArg (fun z => F0 m 40 ls [.int z]) e0) ?_
        exact hret _ _ _ _ (by rw [← e1, ← e2, ← e3, ← e4, ← e5, ← e6, ← e7]; exact hP) hS dX7_rests_40
      · replace hf := iq hc hf
        refine lv_iload_n hx hb dX7_rests_29 rfl (lv_at hl 3 rfl) ?_
        refine lv_if_lt (tgt := 38) hx hb dX7_rests_30 (by decide) (fun hc => ?_) (fun hc => ?_)
        · replace hf := ip hc hf
          refine lv_bipush (v := (-2)) hx hb dX7_rests_38 (by decide) ?_
          obtain ⟨e0, hf⟩ := ij2 hf
          obtain ⟨e1, hf⟩ := ijc hf
          obtain ⟨e2, hf⟩ := ijc hf
          obtain ⟨e3, hf⟩ := ijc hf
          obtain ⟨e4, hf⟩ := ijc hf
          obtain ⟨e5, hf⟩ := ijc hf
          obtain ⟨e6, hf⟩ := ijc hf
          have e7 := hf
          refine W.eq (congrArg (fun z => F0 m 40 ls [.int z]) e0) ?_
          exact hret _ _ _ _ (by rw [← e1, ← e2, ← e3, ← e4, ← e5, ← e6, ← e7]; exact hP) hS dX7_rests_40
        · replace hf := iq hc hf
          refine lv_iload_n hx hb dX7_rests_33 rfl (lv_at hl 3 rfl) ?_
          refine lv_iconst (v := 1) hx hb dX7_rests_34 (by decide) ?_
          refine lv_icmp_le (tgt := 41) hx hb dX7_rests_35 (by decide) (fun hc => ?_) (fun hc => ?_)
          · replace hf := ip hc hf
            refine lv_aload_n hx hb dX7_rests_41 rfl (lv_at hl 0 rfl) ?_
            refine va_get (D := (dC, dI)) (ci := 7) (v := .ref q_t_now) (C := RX7) (T := TX7) (N := 12) hx hb hts hinX7 hown hK.1 hP 0 rfl rfl 2 (by decide) w_1 (fun _ h9 => h9) rfl dX7_rests_42 ?_
            refine lv_iload_n hx hb dX7_rests_45 rfl (lv_at hl 1 rfl) ?_
            obtain ⟨r17, e19, hf⟩ := bd_ok hf
            refine kVi (As := [.int x1]) CF (cwV 1 hts gX7_rests_X6_isDown rfl rfl rfl (by decide +kernel) ⟨Nat.le_of_ble_eq_true rfl, Nat.le_of_ble_eq_true rfl⟩) PU_blind hP hD hS hA (va_recv hK.1 hP (ci := 6) (q0 := 2) rfl rfl) [2] (fun h1 h2 h3 => PU_pre hK h1 A h2 h3) (c_X6_isDown l dC dI cI cZ q_t_now q_t_told q_t_now_line q_t_now_strides q_t_now_strains _ t_now_down t_now_steps x1 r17 e19) rfl rfl rfl rfl hl.1 rfl (Nat.le_of_ble_eq_true rfl) dX7_rests_46 ⟨Nat.zero_le _, Nat.zero_le _⟩ (fun H locs hP hS => ?_)
            replace hP : va_P (dC, dI) vwCl [(q_t, .inr (7, [.ref q_t_text, .ref q_t_told, .ref q_t_now, .ref q_t_acts, .ref q_t_slots, .ref q_t_marks, .ref q_t_foresight, .ref q_t_chances, .int t_firstAct, .int t_actCount, .int t_slotsKept, .long t_weather])), (q_t_told, .inr (3, [.ref q_t_told_beats, .ref q_t_told_kinds, .int t_told_count, .int t_told_depth, .int t_told_noon, .int t_told_depthBehind])), (q_t_now, .inr (6, [.ref q_t_told, .ref q_t_now_line, .ref q_t_now_strides, .ref q_t_now_strains, .int t_now_down, .int t_now_steps])), (q_t_chances, .inr (0, [.ref q_t_told, .ref q_t_now, .ref q_t_foresight_trial, .ref q_t_chances_hasOne, .ref q_t_chances_hasOther])), (q_t_foresight_trial, .inr (6, [.ref q_t_told, .ref q_t_foresight_trial_line, .ref q_t_foresight_trial_strides, .ref q_t_foresight_trial_strains, .int t_foresight_trial_down, .int t_foresight_trial_steps])), (q_t_now_line, .inl (cI, 5, .inl t_now_line)), (q_t_foresight_trial_line, .inl (cI, 5, .inl t_foresight_trial_line)), (q_t_now_strides, .inl (cI, 5, .inl t_now_strides)), (q_t_foresight_trial_strides, .inl (cI, 5, .inl t_foresight_trial_strides)), (q_t_now_strains, .inl (cI, 5, .inl t_now_strains)), (q_t_foresight_trial_strains, .inl (cI, 5, .inl t_foresight_trial_strains)), (q_t_told_kinds, .inl (cI, 5, .inl t_told_kinds)), (q_t_told_beats, .inl (cI, 5, .inl t_told_beats)), (q_t_chances_hasOne, .inl (cI, 4, .inl t_chances_hasOne)), (q_t_chances_hasOther, .inl (cI, 4, .inl t_chances_hasOther))] H := hP
            refine lv_if_ne (tgt := 63) hx hb dX7_rests_49 (by decide) (fun hc => ?_) (fun hc => ?_)
            · replace hf := iq hc hf
              refine lv_bipush (v := (-3)) hx hb dX7_rests_63 (by decide) ?_
              obtain ⟨e0, hf⟩ := ij2 hf
              obtain ⟨e1, hf⟩ := ijc hf
              obtain ⟨e2, hf⟩ := ijc hf
              obtain ⟨e3, hf⟩ := ijc hf
              obtain ⟨e4, hf⟩ := ijc hf
              obtain ⟨e5, hf⟩ := ijc hf
              obtain ⟨e6, hf⟩ := ijc hf
              have e7 := hf
              refine W.eq (congrArg (fun z => F0 m 65 ls [.int z]) e0) ?_
              exact hret _ _ _ _ (by rw [← e1, ← e2, ← e3, ← e4, ← e5, ← e6, ← e7]; exact hP) hS dX7_rests_65
            · replace hf := ip hc hf
              refine lv_aload_n hx hb dX7_rests_52 rfl (lv_at hl 0 rfl) ?_
              refine va_get (D := (dC, dI)) (ci := 7) (v := .ref q_t_now) (C := RX7) (T := TX7) (N := 12) hx hb hts hinX7 hown hK.1 hP 0 rfl rfl 2 (by decide) w_1 (fun _ h9 => h9) rfl dX7_rests_53 ?_
              refine lv_iload_n hx hb dX7_rests_56 rfl (lv_at hl 2 rfl) ?_
              obtain ⟨r20, e22, hf⟩ := bd_ok hf
              refine kVi (As := [.int x2]) CF (cwV 1 hts gX7_rests_X6_isDown rfl rfl rfl (by decide +kernel) ⟨Nat.le_of_ble_eq_true rfl, Nat.le_of_ble_eq_true rfl⟩) PU_blind hP hD hS hA (va_recv hK.1 hP (ci := 6) (q0 := 2) rfl rfl) [2] (fun h1 h2 h3 => PU_pre hK h1 A h2 h3) (c_X6_isDown l dC dI cI cZ q_t_now q_t_told q_t_now_line q_t_now_strides q_t_now_strains _ t_now_down t_now_steps x2 r20 e22) rfl rfl rfl rfl hl.1 rfl (Nat.le_of_ble_eq_true rfl) dX7_rests_57 ⟨Nat.zero_le _, Nat.zero_le _⟩ (fun H locs hP hS => ?_)
              replace hP : va_P (dC, dI) vwCl [(q_t, .inr (7, [.ref q_t_text, .ref q_t_told, .ref q_t_now, .ref q_t_acts, .ref q_t_slots, .ref q_t_marks, .ref q_t_foresight, .ref q_t_chances, .int t_firstAct, .int t_actCount, .int t_slotsKept, .long t_weather])), (q_t_told, .inr (3, [.ref q_t_told_beats, .ref q_t_told_kinds, .int t_told_count, .int t_told_depth, .int t_told_noon, .int t_told_depthBehind])), (q_t_now, .inr (6, [.ref q_t_told, .ref q_t_now_line, .ref q_t_now_strides, .ref q_t_now_strains, .int t_now_down, .int t_now_steps])), (q_t_chances, .inr (0, [.ref q_t_told, .ref q_t_now, .ref q_t_foresight_trial, .ref q_t_chances_hasOne, .ref q_t_chances_hasOther])), (q_t_foresight_trial, .inr (6, [.ref q_t_told, .ref q_t_foresight_trial_line, .ref q_t_foresight_trial_strides, .ref q_t_foresight_trial_strains, .int t_foresight_trial_down, .int t_foresight_trial_steps])), (q_t_now_line, .inl (cI, 5, .inl t_now_line)), (q_t_foresight_trial_line, .inl (cI, 5, .inl t_foresight_trial_line)), (q_t_now_strides, .inl (cI, 5, .inl t_now_strides)), (q_t_foresight_trial_strides, .inl (cI, 5, .inl t_foresight_trial_strides)), (q_t_now_strains, .inl (cI, 5, .inl t_now_strains)), (q_t_foresight_trial_strains, .inl (cI, 5, .inl t_foresight_trial_strains)), (q_t_told_kinds, .inl (cI, 5, .inl t_told_kinds)), (q_t_told_beats, .inl (cI, 5, .inl t_told_beats)), (q_t_chances_hasOne, .inl (cI, 4, .inl t_chances_hasOne)), (q_t_chances_hasOther, .inl (cI, 4, .inl t_chances_hasOther))] H := hP
              refine lv_if_eq (tgt := 66) hx hb dX7_rests_60 (by decide) (fun hc => ?_) (fun hc => ?_)
              · replace hf := ip hc hf
                refine lv_aload_n hx hb dX7_rests_66 rfl (lv_at hl 0 rfl) ?_
                refine va_get (D := (dC, dI)) (ci := 7) (v := .ref q_t_chances) (C := RX7) (T := TX7) (N := 12) hx hb hts hinX7 hown hK.1 hP 0 rfl rfl 7 (by decide) w_2 (fun _ h9 => h9) rfl dX7_rests_67 ?_
                refine lv_iload_n hx hb dX7_rests_70 rfl (lv_at hl 1 rfl) ?_
                refine lv_iload_n hx hb dX7_rests_71 rfl (lv_at hl 2 rfl) ?_
                refine lv_iload_n hx hb dX7_rests_72 rfl (lv_at hl 3 rfl) ?_
                refine lv_iconst (v := 1) hx hb dX7_rests_73 (by decide) ?_
                refine lv_icmp_ne (tgt := 81) hx hb dX7_rests_74 (by decide) (fun hc => ?_) (fun hc => ?_)
                · replace hf := iq hc hf
                  refine lv_iconst (v := 0) hx hb dX7_rests_81 (by decide) ?_
                  exact h_82 0 x2 x1 t_foresight_trial_down t_foresight_trial_steps t_foresight_trial_line t_foresight_trial_strides t_foresight_trial_strains t_chances_hasOne t_chances_hasOther _ _ _ hP hS (lv_sub hl [] rfl) hf
                · replace hf := ip hc hf
                  refine lv_iconst (v := 1) hx hb dX7_rests_77 (by decide) ?_
                  refine lv_goto (tgt := 82) hx hb dX7_rests_78 (by decide) ?_
                  exact h_82 1 x2 x1 t_foresight_trial_down t_foresight_trial_steps t_foresight_trial_line t_foresight_trial_strides t_foresight_trial_strains t_chances_hasOne t_chances_hasOther _ _ _ hP hS (lv_sub hl [] rfl) hf
              · replace hf := iq hc hf
                refine lv_bipush (v := (-3)) hx hb dX7_rests_63 (by decide) ?_
                obtain ⟨e0, hf⟩ := ij2 hf
                obtain ⟨e1, hf⟩ := ijc hf
                obtain ⟨e2, hf⟩ := ijc hf
                obtain ⟨e3, hf⟩ := ijc hf
                obtain ⟨e4, hf⟩ := ijc hf
                obtain ⟨e5, hf⟩ := ijc hf
                obtain ⟨e6, hf⟩ := ijc hf
                have e7 := hf
                refine W.eq (congrArg (fun z => F0 m 65 ls [.int z]) e0) ?_
                exact hret _ _ _ _ (by rw [← e1, ← e2, ← e3, ← e4, ← e5, ← e6, ← e7]; exact hP) hS dX7_rests_65
          · replace hf := iq hc hf
            refine lv_bipush (v := (-2)) hx hb dX7_rests_38 (by decide) ?_
            obtain ⟨e0, hf⟩ := ij2 hf
            obtain ⟨e1, hf⟩ := ijc hf
            obtain ⟨e2, hf⟩ := ijc hf
            obtain ⟨e3, hf⟩ := ijc hf
            obtain ⟨e4, hf⟩ := ijc hf
            obtain ⟨e5, hf⟩ := ijc hf
            obtain ⟨e6, hf⟩ := ijc hf
            have e7 := hf
            refine W.eq (congrArg (fun z => F0 m 40 ls [.int z]) e0) ?_
            exact hret _ _ _ _ (by rw [← e1, ← e2, ← e3, ← e4, ← e5, ← e6, ← e7]; exact hP) hS dX7_rests_40
    · replace hf := ip hc hf
      refine lv_iconst (v := (-1)) hx hb dX7_rests_22 (by decide) ?_
      obtain ⟨e0, hf⟩ := ij2 hf
      obtain ⟨e1, hf⟩ := ijc hf
      obtain ⟨e2, hf⟩ := ijc hf
      obtain ⟨e3, hf⟩ := ijc hf
      obtain ⟨e4, hf⟩ := ijc hf
      obtain ⟨e5, hf⟩ := ijc hf
      obtain ⟨e6, hf⟩ := ijc hf
      have e7 := hf
      refine W.eq (congrArg (fun z => F0 m 23 ls [.int z]) e0) ?_
      exact hret _ _ _ _ (by rw [← e1, ← e2, ← e3, ← e4, ← e5, ← e6, ← e7]; exact hP) hS dX7_rests_23
abbrev rm_X7_stumbles : Room := { frames := 5, cells := 0, slots := 0, locals := 120 }
set_option maxHeartbeats 4000000 in
set_option maxRecDepth 100000 in
theorem c_X7_stumbles (l : Launch) (dC : Nat → ClassId) (dI : Nat → Nat → Nat) (cI cZ : ClassId) (q_t q_t_text q_t_told q_t_now q_t_acts q_t_slots q_t_marks q_t_foresight q_t_chances q_t_foresight_trial q_t_chances_hasOne q_t_chances_hasOther q_t_told_beats q_t_told_kinds q_t_foresight_trial_line q_t_foresight_trial_strides q_t_foresight_trial_strains q_t_now_line q_t_now_strides q_t_now_strains : Nat) (sz : Nat) (t_firstAct : Int32) (t_actCount : Int32) (t_slotsKept : Int32) (t_weather : Int64) (t_told_count : Int32) (t_told_depth : Int32) (t_told_noon : Int32) (t_told_depthBehind : Int32) (t_foresight_trial_down : Int32) (t_foresight_trial_steps : Int32) (t_now_down : Int32) (t_now_steps : Int32) (t_now_line : Nat → Int32) (t_foresight_trial_line : Nat → Int32) (t_now_strides : Nat → Int32) (t_foresight_trial_strides : Nat → Int32) (t_now_strains : Nat → Int32) (t_foresight_trial_strains : Nat → Int32) (t_told_kinds : Nat → Int32) (t_told_beats : Nat → Int32) (x1 : Int32) (x2 : Int32) (x3 : Int32) (r_ : Int32) (o_t_foresight_trial_down : Int32) (o_t_foresight_trial_steps : Int32) (o_t_foresight_trial_line : Nat → Int32) (o_t_foresight_trial_strides : Nat → Int32) (o_t_foresight_trial_strains : Nat → Int32) (hf : f_X7_stumbles x1 x2 x3 t_told_count t_told_depth t_told_noon t_told_depthBehind t_foresight_trial_down t_foresight_trial_steps t_now_down t_now_steps t_now_line t_foresight_trial_line t_now_strides t_foresight_trial_strides t_now_strains t_foresight_trial_strains t_told_kinds t_told_beats = some (r_, o_t_foresight_trial_down, o_t_foresight_trial_steps, o_t_foresight_trial_line, o_t_foresight_trial_strides, o_t_foresight_trial_strains)) : Met l yX7_stumbles wsX7_stumbles rm_X7_stumbles (va_Pc [.ref q_t, .int x1, .int x2, .int x3] (PU (dC, dI) cI cZ [(q_t, .inr (7, [.ref q_t_text, .ref q_t_told, .ref q_t_now, .ref q_t_acts, .ref q_t_slots, .ref q_t_marks, .ref q_t_foresight, .ref q_t_chances, .int t_firstAct, .int t_actCount, .int t_slotsKept, .long t_weather])), (q_t_chances, .inr (0, [.ref q_t_told, .ref q_t_now, .ref q_t_foresight_trial, .ref q_t_chances_hasOne, .ref q_t_chances_hasOther])), (q_t_told, .inr (3, [.ref q_t_told_beats, .ref q_t_told_kinds, .int t_told_count, .int t_told_depth, .int t_told_noon, .int t_told_depthBehind])), (q_t_foresight_trial, .inr (6, [.ref q_t_told, .ref q_t_foresight_trial_line, .ref q_t_foresight_trial_strides, .ref q_t_foresight_trial_strains, .int t_foresight_trial_down, .int t_foresight_trial_steps])), (q_t_now, .inr (6, [.ref q_t_told, .ref q_t_now_line, .ref q_t_now_strides, .ref q_t_now_strains, .int t_now_down, .int t_now_steps])), (q_t_now_line, .inl (cI, 5, .inl t_now_line)), (q_t_foresight_trial_line, .inl (cI, 5, .inl t_foresight_trial_line)), (q_t_now_strides, .inl (cI, 5, .inl t_now_strides)), (q_t_foresight_trial_strides, .inl (cI, 5, .inl t_foresight_trial_strides)), (q_t_now_strains, .inl (cI, 5, .inl t_now_strains)), (q_t_foresight_trial_strains, .inl (cI, 5, .inl t_foresight_trial_strains)), (q_t_told_kinds, .inl (cI, 5, .inl t_told_kinds)), (q_t_told_beats, .inl (cI, 5, .inl t_told_beats))] sz)) (va_Qi (fun (r : Int32) (_ : Unit) => r = r_) (fun _ t => va_P (dC, dI) vwCl [(q_t, .inr (7, [.ref q_t_text, .ref q_t_told, .ref q_t_now, .ref q_t_acts, .ref q_t_slots, .ref q_t_marks, .ref q_t_foresight, .ref q_t_chances, .int t_firstAct, .int t_actCount, .int t_slotsKept, .long t_weather])), (q_t_chances, .inr (0, [.ref q_t_told, .ref q_t_now, .ref q_t_foresight_trial, .ref q_t_chances_hasOne, .ref q_t_chances_hasOther])), (q_t_told, .inr (3, [.ref q_t_told_beats, .ref q_t_told_kinds, .int t_told_count, .int t_told_depth, .int t_told_noon, .int t_told_depthBehind])), (q_t_foresight_trial, .inr (6, [.ref q_t_told, .ref q_t_foresight_trial_line, .ref q_t_foresight_trial_strides, .ref q_t_foresight_trial_strains, .int o_t_foresight_trial_down, .int o_t_foresight_trial_steps])), (q_t_now, .inr (6, [.ref q_t_told, .ref q_t_now_line, .ref q_t_now_strides, .ref q_t_now_strains, .int t_now_down, .int t_now_steps])), (q_t_now_line, .inl (cI, 5, .inl t_now_line)), (q_t_foresight_trial_line, .inl (cI, 5, .inl o_t_foresight_trial_line)), (q_t_now_strides, .inl (cI, 5, .inl t_now_strides)), (q_t_foresight_trial_strides, .inl (cI, 5, .inl o_t_foresight_trial_strides)), (q_t_now_strains, .inl (cI, 5, .inl t_now_strains)), (q_t_foresight_trial_strains, .inl (cI, 5, .inl o_t_foresight_trial_strains)), (q_t_told_kinds, .inl (cI, 5, .inl t_told_kinds)), (q_t_told_beats, .inl (cI, 5, .inl t_told_beats))] t.heap) (va_A [(q_t, .inr (7, [.ref q_t_text, .ref q_t_told, .ref q_t_now, .ref q_t_acts, .ref q_t_slots, .ref q_t_marks, .ref q_t_foresight, .ref q_t_chances, .int t_firstAct, .int t_actCount, .int t_slotsKept, .long t_weather])), (q_t_chances, .inr (0, [.ref q_t_told, .ref q_t_now, .ref q_t_foresight_trial, .ref q_t_chances_hasOne, .ref q_t_chances_hasOther])), (q_t_told, .inr (3, [.ref q_t_told_beats, .ref q_t_told_kinds, .int t_told_count, .int t_told_depth, .int t_told_noon, .int t_told_depthBehind])), (q_t_foresight_trial, .inr (6, [.ref q_t_told, .ref q_t_foresight_trial_line, .ref q_t_foresight_trial_strides, .ref q_t_foresight_trial_strains, .int t_foresight_trial_down, .int t_foresight_trial_steps])), (q_t_now, .inr (6, [.ref q_t_told, .ref q_t_now_line, .ref q_t_now_strides, .ref q_t_now_strains, .int t_now_down, .int t_now_steps])), (q_t_now_line, .inl (cI, 5, .inl t_now_line)), (q_t_foresight_trial_line, .inl (cI, 5, .inl t_foresight_trial_line)), (q_t_now_strides, .inl (cI, 5, .inl t_now_strides)), (q_t_foresight_trial_strides, .inl (cI, 5, .inl t_foresight_trial_strides)), (q_t_now_strains, .inl (cI, 5, .inl t_now_strains)), (q_t_foresight_trial_strains, .inl (cI, 5, .inl t_foresight_trial_strains)), (q_t_told_kinds, .inl (cI, 5, .inl t_told_kinds)), (q_t_told_beats, .inl (cI, 5, .inl t_told_beats))] sz)) 0 0 (va_A [(q_t, .inr (7, [.ref q_t_text, .ref q_t_told, .ref q_t_now, .ref q_t_acts, .ref q_t_slots, .ref q_t_marks, .ref q_t_foresight, .ref q_t_chances, .int t_firstAct, .int t_actCount, .int t_slotsKept, .long t_weather])), (q_t_chances, .inr (0, [.ref q_t_told, .ref q_t_now, .ref q_t_foresight_trial, .ref q_t_chances_hasOne, .ref q_t_chances_hasOther])), (q_t_told, .inr (3, [.ref q_t_told_beats, .ref q_t_told_kinds, .int t_told_count, .int t_told_depth, .int t_told_noon, .int t_told_depthBehind])), (q_t_foresight_trial, .inr (6, [.ref q_t_told, .ref q_t_foresight_trial_line, .ref q_t_foresight_trial_strides, .ref q_t_foresight_trial_strains, .int t_foresight_trial_down, .int t_foresight_trial_steps])), (q_t_now, .inr (6, [.ref q_t_told, .ref q_t_now_line, .ref q_t_now_strides, .ref q_t_now_strains, .int t_now_down, .int t_now_steps])), (q_t_now_line, .inl (cI, 5, .inl t_now_line)), (q_t_foresight_trial_line, .inl (cI, 5, .inl t_foresight_trial_line)), (q_t_now_strides, .inl (cI, 5, .inl t_now_strides)), (q_t_foresight_trial_strides, .inl (cI, 5, .inl t_foresight_trial_strides)), (q_t_now_strains, .inl (cI, 5, .inl t_now_strains)), (q_t_foresight_trial_strains, .inl (cI, 5, .inl t_foresight_trial_strains)), (q_t_told_kinds, .inl (cI, 5, .inl t_told_kinds)), (q_t_told_beats, .inl (cI, 5, .inl t_told_beats))] sz) := by
  refine MetI (cc := cX7_stumbles) (maxL := 4) (by decide) rfl (Nat.le_of_ble_eq_true rfl) (fun _ h => h) ?_
  intro p e s m args below meth c A Q ls hx CF hK hA hD hP hS hl hB hAe hsz hret
  have hb := CF.2.1
  have hml := CF.2.2.1
  have hown := CF.2.2.2.1
  have hts := CF.2.2.2.2
  have hD0 := hD
  replace hl : lv_has ls 4 [(0, .ref q_t), (1, .int x1), (2, .int x2), (3, .int x3)] := hl
  have hinX7 : ∀ w ∈ wsX70, w ∈ wsX7_stumbles := fun _ h => List.mem_cons_of_mem _ (List.mem_append_left _ (List.mem_append_left _ (List.mem_append_left _ (List.mem_append_right _ h))))
  have hinX0 : ∀ w ∈ wsX00, w ∈ wsX7_stumbles := fun _ h => List.mem_cons_of_mem _ (List.mem_append_left _ (List.mem_append_left _ (List.mem_append_right _ h)))
  have hinX3 : ∀ w ∈ wsX30, w ∈ wsX7_stumbles := fun _ h => List.mem_cons_of_mem _ (List.mem_append_left _ (List.mem_append_right _ h))
  have hinX6 : ∀ w ∈ wsX60, w ∈ wsX7_stumbles := fun _ h => List.mem_cons_of_mem _ (List.mem_append_right _ h)
  have w_0 := hts (.fieldLink RX7 63 "PassInStep" "chances" "LPassInStep$Chances;") (by decide +kernel)
  rw [f_X7_stumbles] at hf
  refine lv_iload_n hx hb dX7_stumbles_0 rfl (lv_at hl 1 rfl) ?_
  refine lv_if_lt (tgt := 19) hx hb dX7_stumbles_1 (by decide) (fun hc => ?_) (fun hc => ?_)
  · replace hf := ip hc hf
    refine lv_bipush (v := (-2)) hx hb dX7_stumbles_19 (by decide) ?_
    obtain ⟨e0, hf⟩ := ij2 hf
    obtain ⟨e1, hf⟩ := ijc hf
    obtain ⟨e2, hf⟩ := ijc hf
    obtain ⟨e3, hf⟩ := ijc hf
    obtain ⟨e4, hf⟩ := ijc hf
    have e5 := hf
    refine W.eq (congrArg (fun z => F0 m 21 ls [.int z]) e0) ?_
    exact hret _ _ _ _ (by rw [← e1, ← e2, ← e3, ← e4, ← e5]; exact hP) hS dX7_stumbles_21
  · replace hf := iq hc hf
    refine lv_iload_n hx hb dX7_stumbles_4 rfl (lv_at hl 1 rfl) ?_
    refine lv_iconst (v := 5) hx hb dX7_stumbles_5 (by decide) ?_
    refine lv_icmp_gt (tgt := 19) hx hb dX7_stumbles_6 (by decide) (fun hc => ?_) (fun hc => ?_)
    · replace hf := ip hc hf
      refine lv_bipush (v := (-2)) hx hb dX7_stumbles_19 (by decide) ?_
      obtain ⟨e0, hf⟩ := ij2 hf
      obtain ⟨e1, hf⟩ := ijc hf
      obtain ⟨e2, hf⟩ := ijc hf
      obtain ⟨e3, hf⟩ := ijc hf
      obtain ⟨e4, hf⟩ := ijc hf
      have e5 := hf
      refine W.eq (congrArg (fun z => F0 m 21 ls [.int z]) e0) ?_
      exact hret _ _ _ _ (by rw [← e1, ← e2, ← e3, ← e4, ← e5]; exact hP) hS dX7_stumbles_21
    · replace hf := iq hc hf
      refine lv_iload_n hx hb dX7_stumbles_9 rfl (lv_at hl 2 rfl) ?_
      refine lv_if_lt (tgt := 19) hx hb dX7_stumbles_10 (by decide) (fun hc => ?_) (fun hc => ?_)
      · replace hf := ip hc hf
        refine lv_bipush (v := (-2)) hx hb dX7_stumbles_19 (by decide) ?_
        obtain ⟨e0, hf⟩ := ij2 hf
        obtain ⟨e1, hf⟩ := ijc hf
        obtain ⟨e2, hf⟩ := ijc hf
        obtain ⟨e3, hf⟩ := ijc hf
        obtain ⟨e4, hf⟩ := ijc hf
        have e5 := hf
        refine W.eq (congrArg (fun z => F0 m 21 ls [.int z]) e0) ?_
        exact hret _ _ _ _ (by rw [← e1, ← e2, ← e3, ← e4, ← e5]; exact hP) hS dX7_stumbles_21
      · replace hf := iq hc hf
        refine lv_iload_n hx hb dX7_stumbles_13 rfl (lv_at hl 2 rfl) ?_
        refine lv_bipush (v := 10) hx hb dX7_stumbles_14 (by decide) ?_
        refine lv_icmp_le (tgt := 22) hx hb dX7_stumbles_16 (by decide) (fun hc => ?_) (fun hc => ?_)
        · replace hf := ip hc hf
          refine lv_aload_n hx hb dX7_stumbles_22 rfl (lv_at hl 0 rfl) ?_
          refine va_get (D := (dC, dI)) (ci := 7) (v := .ref q_t_chances) (C := RX7) (T := TX7) (N := 12) hx hb hts hinX7 hown hK.1 hP 0 rfl rfl 7 (by decide) w_0 (fun _ h9 => h9) rfl dX7_stumbles_23 ?_
          refine lv_iload_n hx hb dX7_stumbles_26 rfl (lv_at hl 1 rfl) ?_
          refine lv_iload_n hx hb dX7_stumbles_27 rfl (lv_at hl 2 rfl) ?_
          obtain ⟨⟨r1, o2, o3, o4, o5, o6⟩, e8, hf⟩ := bd_ok hf
          refine kVi (As := [.int x1, .int x2]) CF (cwV 2 hts gX7_stumbles_X0_stumblesAbove rfl rfl rfl (by decide +kernel) ⟨Nat.le_of_ble_eq_true rfl, Nat.le_of_ble_eq_true rfl⟩) PU_blind hP hD hS hA (va_recv hK.1 hP (ci := 0) (q0 := 1) rfl rfl) [1, 2, 3, 4, 5, 6, 7, 8, 9, 10, 11, 12] (fun h1 h2 h3 => PU_pre hK h1 A h2 h3) (c_X0_stumblesAbove l dC dI cI cZ q_t_chances q_t_told q_t_now q_t_foresight_trial q_t_chances_hasOne q_t_chances_hasOther q_t_told_beats q_t_told_kinds q_t_foresight_trial_line q_t_foresight_trial_strides q_t_foresight_trial_strains q_t_now_line q_t_now_strides q_t_now_strains _ t_told_count t_told_depth t_told_noon t_told_depthBehind t_foresight_trial_down t_foresight_trial_steps t_now_down t_now_steps t_now_line t_foresight_trial_line t_now_strides t_foresight_trial_strides t_now_strains t_foresight_trial_strains t_told_kinds t_told_beats x1 x2 r1 o2 o3 o4 o5 o6 e8) rfl rfl rfl rfl hl.1 rfl (Nat.le_of_ble_eq_true rfl) dX7_stumbles_28 ⟨Nat.zero_le _, Nat.zero_le _⟩ (fun H locs hP hS => ?_)
          replace hP : va_P (dC, dI) vwCl [(q_t, .inr (7, [.ref q_t_text, .ref q_t_told, .ref q_t_now, .ref q_t_acts, .ref q_t_slots, .ref q_t_marks, .ref q_t_foresight, .ref q_t_chances, .int t_firstAct, .int t_actCount, .int t_slotsKept, .long t_weather])), (q_t_chances, .inr (0, [.ref q_t_told, .ref q_t_now, .ref q_t_foresight_trial, .ref q_t_chances_hasOne, .ref q_t_chances_hasOther])), (q_t_told, .inr (3, [.ref q_t_told_beats, .ref q_t_told_kinds, .int t_told_count, .int t_told_depth, .int t_told_noon, .int t_told_depthBehind])), (q_t_foresight_trial, .inr (6, [.ref q_t_told, .ref q_t_foresight_trial_line, .ref q_t_foresight_trial_strides, .ref q_t_foresight_trial_strains, .int o2, .int o3])), (q_t_now, .inr (6, [.ref q_t_told, .ref q_t_now_line, .ref q_t_now_strides, .ref q_t_now_strains, .int t_now_down, .int t_now_steps])), (q_t_now_line, .inl (cI, 5, .inl t_now_line)), (q_t_foresight_trial_line, .inl (cI, 5, .inl o4)), (q_t_now_strides, .inl (cI, 5, .inl t_now_strides)), (q_t_foresight_trial_strides, .inl (cI, 5, .inl o5)), (q_t_now_strains, .inl (cI, 5, .inl t_now_strains)), (q_t_foresight_trial_strains, .inl (cI, 5, .inl o6)), (q_t_told_kinds, .inl (cI, 5, .inl t_told_kinds)), (q_t_told_beats, .inl (cI, 5, .inl t_told_beats))] H := hP
          replace hD : va_D A [(q_t, .inr (7, [.ref q_t_text, .ref q_t_told, .ref q_t_now, .ref q_t_acts, .ref q_t_slots, .ref q_t_marks, .ref q_t_foresight, .ref q_t_chances, .int t_firstAct, .int t_actCount, .int t_slotsKept, .long t_weather])), (q_t_chances, .inr (0, [.ref q_t_told, .ref q_t_now, .ref q_t_foresight_trial, .ref q_t_chances_hasOne, .ref q_t_chances_hasOther])), (q_t_told, .inr (3, [.ref q_t_told_beats, .ref q_t_told_kinds, .int t_told_count, .int t_told_depth, .int t_told_noon, .int t_told_depthBehind])), (q_t_foresight_trial, .inr (6, [.ref q_t_told, .ref q_t_foresight_trial_line, .ref q_t_foresight_trial_strides, .ref q_t_foresight_trial_strains, .int o2, .int o3])), (q_t_now, .inr (6, [.ref q_t_told, .ref q_t_now_line, .ref q_t_now_strides, .ref q_t_now_strains, .int t_now_down, .int t_now_steps])), (q_t_now_line, .inl (cI, 5, .inl t_now_line)), (q_t_foresight_trial_line, .inl (cI, 5, .inl o4)), (q_t_now_strides, .inl (cI, 5, .inl t_now_strides)), (q_t_foresight_trial_strides, .inl (cI, 5, .inl o5)), (q_t_now_strains, .inl (cI, 5, .inl t_now_strains)), (q_t_foresight_trial_strains, .inl (cI, 5, .inl o6)), (q_t_told_kinds, .inl (cI, 5, .inl t_told_kinds)), (q_t_told_beats, .inl (cI, 5, .inl t_told_beats))] := wd hD rfl
          refine lv_aload_n hx hb dX7_stumbles_31 rfl (lv_at hl 0 rfl) ?_
          refine va_get (D := (dC, dI)) (ci := 7) (v := .ref q_t_chances) (C := RX7) (T := TX7) (N := 12) hx hb hts hinX7 hown hK.1 hP 0 rfl rfl 7 (by decide) w_0 (fun _ h9 => h9) rfl dX7_stumbles_32 ?_
          obtain ⟨r9, e11, hf⟩ := bd_ok hf
          refine kVi (As := []) CF (cwV 0 hts gX7_stumbles_X0_stumblesBelow rfl rfl rfl (by decide +kernel) ⟨Nat.le_of_ble_eq_true rfl, Nat.le_of_ble_eq_true rfl⟩) PU_blind hP hD hS hA (va_recv hK.1 hP (ci := 0) (q0 := 1) rfl rfl) [1, 2] (fun h1 h2 h3 => PU_pre hK h1 A h2 h3) (c_X0_stumblesBelow l dC dI cI cZ q_t_chances q_t_told q_t_now q_t_foresight_trial q_t_chances_hasOne q_t_chances_hasOther q_t_told_beats q_t_told_kinds _ t_told_count t_told_depth t_told_noon t_told_depthBehind r9 e11) rfl rfl rfl rfl hl.1 rfl (Nat.le_of_ble_eq_true rfl) dX7_stumbles_35 ⟨Nat.zero_le _, Nat.zero_le _⟩ (fun H locs hP hS => ?_)
          replace hP : va_P (dC, dI) vwCl [(q_t, .inr (7, [.ref q_t_text, .ref q_t_told, .ref q_t_now, .ref q_t_acts, .ref q_t_slots, .ref q_t_marks, .ref q_t_foresight, .ref q_t_chances, .int t_firstAct, .int t_actCount, .int t_slotsKept, .long t_weather])), (q_t_chances, .inr (0, [.ref q_t_told, .ref q_t_now, .ref q_t_foresight_trial, .ref q_t_chances_hasOne, .ref q_t_chances_hasOther])), (q_t_told, .inr (3, [.ref q_t_told_beats, .ref q_t_told_kinds, .int t_told_count, .int t_told_depth, .int t_told_noon, .int t_told_depthBehind])), (q_t_foresight_trial, .inr (6, [.ref q_t_told, .ref q_t_foresight_trial_line, .ref q_t_foresight_trial_strides, .ref q_t_foresight_trial_strains, .int o2, .int o3])), (q_t_now, .inr (6, [.ref q_t_told, .ref q_t_now_line, .ref q_t_now_strides, .ref q_t_now_strains, .int t_now_down, .int t_now_steps])), (q_t_now_line, .inl (cI, 5, .inl t_now_line)), (q_t_foresight_trial_line, .inl (cI, 5, .inl o4)), (q_t_now_strides, .inl (cI, 5, .inl t_now_strides)), (q_t_foresight_trial_strides, .inl (cI, 5, .inl o5)), (q_t_now_strains, .inl (cI, 5, .inl t_now_strains)), (q_t_foresight_trial_strains, .inl (cI, 5, .inl o6)), (q_t_told_kinds, .inl (cI, 5, .inl t_told_kinds)), (q_t_told_beats, .inl (cI, 5, .inl t_told_beats))] H := hP
          refine lv_iload_n hx hb dX7_stumbles_38 rfl (lv_at hl 3 rfl) ?_
          obtain ⟨r12, e14, hf⟩ := bd_ok hf
          refine kSi (As := [.int r1, .int r9, .int x3]) CF (va_cwS 3 hts gX7_stumbles_X7_partOf rfl rfl rfl (by decide +kernel) ⟨Nat.le_of_ble_eq_true rfl, Nat.le_of_ble_eq_true rfl⟩) PU_blind hP hD hS hA [] (fun h1 h2 h3 => PU_pre hK h1 A h2 h3) (c_X7_partOf l dC dI cI cZ _ r1 r9 x3 r12 e14) rfl rfl rfl rfl hl.1 rfl (Nat.le_of_ble_eq_true rfl) dX7_stumbles_39 ⟨Nat.zero_le _, Nat.zero_le _⟩ (fun H locs hP hS => ?_)
          replace hP : va_P (dC, dI) vwCl [(q_t, .inr (7, [.ref q_t_text, .ref q_t_told, .ref q_t_now, .ref q_t_acts, .ref q_t_slots, .ref q_t_marks, .ref q_t_foresight, .ref q_t_chances, .int t_firstAct, .int t_actCount, .int t_slotsKept, .long t_weather])), (q_t_chances, .inr (0, [.ref q_t_told, .ref q_t_now, .ref q_t_foresight_trial, .ref q_t_chances_hasOne, .ref q_t_chances_hasOther])), (q_t_told, .inr (3, [.ref q_t_told_beats, .ref q_t_told_kinds, .int t_told_count, .int t_told_depth, .int t_told_noon, .int t_told_depthBehind])), (q_t_foresight_trial, .inr (6, [.ref q_t_told, .ref q_t_foresight_trial_line, .ref q_t_foresight_trial_strides, .ref q_t_foresight_trial_strains, .int o2, .int o3])), (q_t_now, .inr (6, [.ref q_t_told, .ref q_t_now_line, .ref q_t_now_strides, .ref q_t_now_strains, .int t_now_down, .int t_now_steps])), (q_t_now_line, .inl (cI, 5, .inl t_now_line)), (q_t_foresight_trial_line, .inl (cI, 5, .inl o4)), (q_t_now_strides, .inl (cI, 5, .inl t_now_strides)), (q_t_foresight_trial_strides, .inl (cI, 5, .inl o5)), (q_t_now_strains, .inl (cI, 5, .inl t_now_strains)), (q_t_foresight_trial_strains, .inl (cI, 5, .inl o6)), (q_t_told_kinds, .inl (cI, 5, .inl t_told_kinds)), (q_t_told_beats, .inl (cI, 5, .inl t_told_beats))] H := hP
          obtain ⟨e0, hf⟩ := ij2 hf
          obtain ⟨e1, hf⟩ := ijc hf
          obtain ⟨e2, hf⟩ := ijc hf
          obtain ⟨e3, hf⟩ := ijc hf
          obtain ⟨e4, hf⟩ := ijc hf
          have e5 := hf
          refine W.eq (congrArg (fun z => F0 m 42 ls [.int z]) e0) ?_
          exact hret _ _ _ _ (by rw [← e1, ← e2, ← e3, ← e4, ← e5]; exact hP) hS dX7_stumbles_42
        · replace hf := iq hc hf
          refine lv_bipush (v := (-2)) hx hb dX7_stumbles_19 (by decide) ?_
          obtain ⟨e0, hf⟩ := ij2 hf
          obtain ⟨e1, hf⟩ := ijc hf
          obtain ⟨e2, hf⟩ := ijc hf
          obtain ⟨e3, hf⟩ := ijc hf
          obtain ⟨e4, hf⟩ := ijc hf
          have e5 := hf
          refine W.eq (congrArg (fun z => F0 m 21 ls [.int z]) e0) ?_
          exact hret _ _ _ _ (by rw [← e1, ← e2, ← e3, ← e4, ← e5]; exact hP) hS dX7_stumbles_21
