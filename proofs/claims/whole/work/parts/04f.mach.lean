-- X1_shareAbove X2_size X2_isFull X2_append X2_clear X2_isSomebody X2_fitsAll X2_fitting X2_firstFitting X5_figureAt X5_size X3_readFrom
abbrev rm_X1_shareAbove : Room := { frames := 6, cells := 0, slots := 0, locals := 139 }
set_option maxHeartbeats 4000000 in
set_option maxRecDepth 100000 in
theorem c_X1_shareAbove (l : Launch) (dC : Nat → ClassId) (dI : Nat → Nat → Nat) (cI cZ : ClassId) (tF : Nat) (q_t q_t_told q_t_now q_t_trial q_t_told_beats q_t_told_kinds q_t_trial_line q_t_trial_strides q_t_trial_strains q_t_now_line q_t_now_strides q_t_now_strains : Nat) (sz : Nat) (t_told_count : Int32) (t_told_depth : Int32) (t_told_noon : Int32) (t_told_depthBehind : Int32) (t_trial_down : Int32) (t_trial_steps : Int32) (t_now_down : Int32) (t_now_steps : Int32) (t_now_line : Nat → Int32) (t_trial_line : Nat → Int32) (t_now_strides : Nat → Int32) (t_trial_strides : Nat → Int32) (t_now_strains : Nat → Int32) (t_trial_strains : Nat → Int32) (t_told_kinds : Nat → Int32) (t_told_beats : Nat → Int32) (x1 : Int32) (r_ : Int32) (o_t_trial_down : Int32) (o_t_trial_steps : Int32) (o_t_trial_line : Nat → Int32) (o_t_trial_strides : Nat → Int32) (o_t_trial_strains : Nat → Int32) (hf : f_X1_shareAbove x1 t_told_count t_told_depth t_told_noon t_told_depthBehind t_trial_down t_trial_steps t_now_down t_now_steps t_now_line t_trial_line t_now_strides t_trial_strides t_now_strains t_trial_strains t_told_kinds t_told_beats = some (r_, o_t_trial_down, o_t_trial_steps, o_t_trial_line, o_t_trial_strides, o_t_trial_strains)) : Met l yX1_shareAbove wsX1_shareAbove rm_X1_shareAbove (va_Pc [.ref q_t, .int x1] (PUS (dC, dI) cI cZ tF [(q_t, .inr (1, [.ref q_t_told, .ref q_t_now, .ref q_t_trial])), (q_t_told, .inr (3, [.ref q_t_told_beats, .ref q_t_told_kinds, .int t_told_count, .int t_told_depth, .int t_told_noon, .int t_told_depthBehind])), (q_t_trial, .inr (6, [.ref q_t_told, .ref q_t_trial_line, .ref q_t_trial_strides, .ref q_t_trial_strains, .int t_trial_down, .int t_trial_steps])), (q_t_now, .inr (6, [.ref q_t_told, .ref q_t_now_line, .ref q_t_now_strides, .ref q_t_now_strains, .int t_now_down, .int t_now_steps])), (q_t_now_line, .inl (cI, 5, .inl t_now_line)), (q_t_trial_line, .inl (cI, 5, .inl t_trial_line)), (q_t_now_strides, .inl (cI, 5, .inl t_now_strides)), (q_t_trial_strides, .inl (cI, 5, .inl t_trial_strides)), (q_t_now_strains, .inl (cI, 5, .inl t_now_strains)), (q_t_trial_strains, .inl (cI, 5, .inl t_trial_strains)), (q_t_told_kinds, .inl (cI, 5, .inl t_told_kinds)), (q_t_told_beats, .inl (cI, 5, .inl t_told_beats))] sz)) (va_Qi (fun (r : Int32) (_ : Unit) => r = r_) (fun _ t => va_P (dC, dI) vwCl [(q_t, .inr (1, [.ref q_t_told, .ref q_t_now, .ref q_t_trial])), (q_t_told, .inr (3, [.ref q_t_told_beats, .ref q_t_told_kinds, .int t_told_count, .int t_told_depth, .int t_told_noon, .int t_told_depthBehind])), (q_t_trial, .inr (6, [.ref q_t_told, .ref q_t_trial_line, .ref q_t_trial_strides, .ref q_t_trial_strains, .int o_t_trial_down, .int o_t_trial_steps])), (q_t_now, .inr (6, [.ref q_t_told, .ref q_t_now_line, .ref q_t_now_strides, .ref q_t_now_strains, .int t_now_down, .int t_now_steps])), (q_t_now_line, .inl (cI, 5, .inl t_now_line)), (q_t_trial_line, .inl (cI, 5, .inl o_t_trial_line)), (q_t_now_strides, .inl (cI, 5, .inl t_now_strides)), (q_t_trial_strides, .inl (cI, 5, .inl o_t_trial_strides)), (q_t_now_strains, .inl (cI, 5, .inl t_now_strains)), (q_t_trial_strains, .inl (cI, 5, .inl o_t_trial_strains)), (q_t_told_kinds, .inl (cI, 5, .inl t_told_kinds)), (q_t_told_beats, .inl (cI, 5, .inl t_told_beats))] t.heap) (va_A [(q_t, .inr (1, [.ref q_t_told, .ref q_t_now, .ref q_t_trial])), (q_t_told, .inr (3, [.ref q_t_told_beats, .ref q_t_told_kinds, .int t_told_count, .int t_told_depth, .int t_told_noon, .int t_told_depthBehind])), (q_t_trial, .inr (6, [.ref q_t_told, .ref q_t_trial_line, .ref q_t_trial_strides, .ref q_t_trial_strains, .int t_trial_down, .int t_trial_steps])), (q_t_now, .inr (6, [.ref q_t_told, .ref q_t_now_line, .ref q_t_now_strides, .ref q_t_now_strains, .int t_now_down, .int t_now_steps])), (q_t_now_line, .inl (cI, 5, .inl t_now_line)), (q_t_trial_line, .inl (cI, 5, .inl t_trial_line)), (q_t_now_strides, .inl (cI, 5, .inl t_now_strides)), (q_t_trial_strides, .inl (cI, 5, .inl t_trial_strides)), (q_t_now_strains, .inl (cI, 5, .inl t_now_strains)), (q_t_trial_strains, .inl (cI, 5, .inl t_trial_strains)), (q_t_told_kinds, .inl (cI, 5, .inl t_told_kinds)), (q_t_told_beats, .inl (cI, 5, .inl t_told_beats))] sz)) 0 0 (va_A [(q_t, .inr (1, [.ref q_t_told, .ref q_t_now, .ref q_t_trial])), (q_t_told, .inr (3, [.ref q_t_told_beats, .ref q_t_told_kinds, .int t_told_count, .int t_told_depth, .int t_told_noon, .int t_told_depthBehind])), (q_t_trial, .inr (6, [.ref q_t_told, .ref q_t_trial_line, .ref q_t_trial_strides, .ref q_t_trial_strains, .int t_trial_down, .int t_trial_steps])), (q_t_now, .inr (6, [.ref q_t_told, .ref q_t_now_line, .ref q_t_now_strides, .ref q_t_now_strains, .int t_now_down, .int t_now_steps])), (q_t_now_line, .inl (cI, 5, .inl t_now_line)), (q_t_trial_line, .inl (cI, 5, .inl t_trial_line)), (q_t_now_strides, .inl (cI, 5, .inl t_now_strides)), (q_t_trial_strides, .inl (cI, 5, .inl t_trial_strides)), (q_t_now_strains, .inl (cI, 5, .inl t_now_strains)), (q_t_trial_strains, .inl (cI, 5, .inl t_trial_strains)), (q_t_told_kinds, .inl (cI, 5, .inl t_told_kinds)), (q_t_told_beats, .inl (cI, 5, .inl t_told_beats))] sz) := by
  refine MetI (cc := cX1_shareAbove) (maxL := 6) (by decide) rfl (Nat.le_of_ble_eq_true rfl) (fun _ h => h.1) ?_
  intro p e s m args below meth c A Q ls hx CF hK hA hD hP hS hl hB hAe hsz hret
  have hb := CF.2.1
  have hml := CF.2.2.1
  have hown := CF.2.2.2.1
  have hts := CF.2.2.2.2
  have hD0 := hD
  replace hl : lv_has ls 6 [(0, .ref q_t), (1, .int x1)] := hl
  have hFS : FS tF A s := by rw [hAe]; exact hB.2
  have hinX1 : ∀ w ∈ wsX10, w ∈ wsX1_shareAbove := fun _ h => List.mem_cons_of_mem _ (List.mem_append_left _ (List.mem_append_left _ (List.mem_append_right _ h)))
  have hinX3 : ∀ w ∈ wsX30, w ∈ wsX1_shareAbove := fun _ h => List.mem_cons_of_mem _ (List.mem_append_left _ (List.mem_append_right _ h))
  have hinX6 : ∀ w ∈ wsX60, w ∈ wsX1_shareAbove := fun _ h => List.mem_cons_of_mem _ (List.mem_append_right _ h)
  have w_0 := hts (.fieldLink RX1 9 "PassInStep$Foresight" "told" "LPassInStep$Party;") (by decide +kernel)
  have w_1 := hts (.initialized RX7) (by decide +kernel)
  have w_2 := hts (.static yX7_at) (by decide +kernel)
  have h_4 : ∀ (x1 : Int32) (fu4 : Nat) (x2 : Int32) (x3 : Int32) (t_trial_down : Int32) (t_trial_steps : Int32) (t_trial_line : Nat → Int32) (t_trial_strides : Nat → Int32) (t_trial_strains : Nat → Int32) (H : Heap) (locs : List Loc) (ls : Array Slot), va_P (dC, dI) vwCl [(q_t, .inr (1, [.ref q_t_told, .ref q_t_now, .ref q_t_trial])), (q_t_told, .inr (3, [.ref q_t_told_beats, .ref q_t_told_kinds, .int t_told_count, .int t_told_depth, .int t_told_noon, .int t_told_depthBehind])), (q_t_trial, .inr (6, [.ref q_t_told, .ref q_t_trial_line, .ref q_t_trial_strides, .ref q_t_trial_strains, .int t_trial_down, .int t_trial_steps])), (q_t_now, .inr (6, [.ref q_t_told, .ref q_t_now_line, .ref q_t_now_strides, .ref q_t_now_strains, .int t_now_down, .int t_now_steps])), (q_t_now_line, .inl (cI, 5, .inl t_now_line)), (q_t_trial_line, .inl (cI, 5, .inl t_trial_line)), (q_t_now_strides, .inl (cI, 5, .inl t_now_strides)), (q_t_trial_strides, .inl (cI, 5, .inl t_trial_strides)), (q_t_now_strains, .inl (cI, 5, .inl t_now_strains)), (q_t_trial_strains, .inl (cI, 5, .inl t_trial_strains)), (q_t_told_kinds, .inl (cI, 5, .inl t_told_kinds)), (q_t_told_beats, .inl (cI, 5, .inl t_told_beats))] H → va_S A s.heap H locs → lv_has ls 6 [(0, .ref q_t), (1, .int x1), (2, .int x2), (3, .int x3)] → L_X1_shareAbove_4 x1 t_told_count t_told_depth t_told_noon t_told_depthBehind t_now_down t_now_steps t_now_line t_now_strides t_now_strains t_told_kinds t_told_beats fu4 x2 x3 t_trial_down t_trial_steps t_trial_line t_trial_strides t_trial_strains = some (r_, o_t_trial_down, o_t_trial_steps, o_t_trial_line, o_t_trial_strides, o_t_trial_strains) → W p l e rm_X1_shareAbove s m args below meth c H locs 0 0 Q (F0 m 4 ls []) := by
    intro x1 fu4
    induction fu4 with
    | zero =>
      intro x2 x3 t_trial_down t_trial_steps t_trial_line t_trial_strides t_trial_strains H locs ls hP hS hl hf
      rw [L_X1_shareAbove_4] at hf
      cases hf
    | succ fu4 ih4 =>
      have h_81 : ∀ (x2 : Int32) (x3 : Int32) (t_trial_down : Int32) (t_trial_steps : Int32) (t_trial_line : Nat → Int32) (t_trial_strides : Nat → Int32) (t_trial_strains : Nat → Int32) (H : Heap) (locs : List Loc) (ls : Array Slot), va_P (dC, dI) vwCl [(q_t, .inr (1, [.ref q_t_told, .ref q_t_now, .ref q_t_trial])), (q_t_told, .inr (3, [.ref q_t_told_beats, .ref q_t_told_kinds, .int t_told_count, .int t_told_depth, .int t_told_noon, .int t_told_depthBehind])), (q_t_trial, .inr (6, [.ref q_t_told, .ref q_t_trial_line, .ref q_t_trial_strides, .ref q_t_trial_strains, .int t_trial_down, .int t_trial_steps])), (q_t_now, .inr (6, [.ref q_t_told, .ref q_t_now_line, .ref q_t_now_strides, .ref q_t_now_strains, .int t_now_down, .int t_now_steps])), (q_t_now_line, .inl (cI, 5, .inl t_now_line)), (q_t_trial_line, .inl (cI, 5, .inl t_trial_line)), (q_t_now_strides, .inl (cI, 5, .inl t_now_strides)), (q_t_trial_strides, .inl (cI, 5, .inl t_trial_strides)), (q_t_now_strains, .inl (cI, 5, .inl t_now_strains)), (q_t_trial_strains, .inl (cI, 5, .inl t_trial_strains)), (q_t_told_kinds, .inl (cI, 5, .inl t_told_kinds)), (q_t_told_beats, .inl (cI, 5, .inl t_told_beats))] H → va_S A s.heap H locs → lv_has ls 6 [(0, .ref q_t), (1, .int x1), (2, .int x2), (3, .int x3)] → J_X1_shareAbove_81 (L_X1_shareAbove_4 x1 t_told_count t_told_depth t_told_noon t_told_depthBehind t_now_down t_now_steps t_now_line t_now_strides t_now_strains t_told_kinds t_told_beats fu4) x2 x3 t_trial_down t_trial_steps t_trial_line t_trial_strides t_trial_strains = some (r_, o_t_trial_down, o_t_trial_steps, o_t_trial_line, o_t_trial_strides, o_t_trial_strains) → W p l e rm_X1_shareAbove s m args below meth c H locs 0 0 Q (F0 m 81 ls []) := by
        intro x2 x3 t_trial_down t_trial_steps t_trial_line t_trial_strides t_trial_strains H locs ls hP hS hl hf
        have hD : va_D A [(q_t, .inr (1, [.ref q_t_told, .ref q_t_now, .ref q_t_trial])), (q_t_told, .inr (3, [.ref q_t_told_beats, .ref q_t_told_kinds, .int t_told_count, .int t_told_depth, .int t_told_noon, .int t_told_depthBehind])), (q_t_trial, .inr (6, [.ref q_t_told, .ref q_t_trial_line, .ref q_t_trial_strides, .ref q_t_trial_strains, .int t_trial_down, .int t_trial_steps])), (q_t_now, .inr (6, [.ref q_t_told, .ref q_t_now_line, .ref q_t_now_strides, .ref q_t_now_strains, .int t_now_down, .int t_now_steps])), (q_t_now_line, .inl (cI, 5, .inl t_now_line)), (q_t_trial_line, .inl (cI, 5, .inl t_trial_line)), (q_t_now_strides, .inl (cI, 5, .inl t_now_strides)), (q_t_trial_strides, .inl (cI, 5, .inl t_trial_strides)), (q_t_now_strains, .inl (cI, 5, .inl t_now_strains)), (q_t_trial_strains, .inl (cI, 5, .inl t_trial_strains)), (q_t_told_kinds, .inl (cI, 5, .inl t_told_kinds)), (q_t_told_beats, .inl (cI, 5, .inl t_told_beats))] := wd hD0 rfl
        rw [J_X1_shareAbove_81] at hf
        refine lv_iinc (v := (x3 + 1)) (lv' := [(3, .int (x3 + 1)), (0, .ref q_t), (1, .int x1), (2, .int x2)]) hx hb dX1_shareAbove_81 hl (k := 3) rfl rfl (by decide) rfl (fun ls hl => ?_)
        refine lv_goto (tgt := 4) hx hb dX1_shareAbove_84 (by decide) ?_
        exact ih4 x2 (x3 + 1) t_trial_down t_trial_steps t_trial_line t_trial_strides t_trial_strains _ _ _ hP hS (lv_sub hl [1, 2, 3, 0] rfl) hf
      intro x2 x3 t_trial_down t_trial_steps t_trial_line t_trial_strides t_trial_strains H locs ls hP hS hl hf
      have hD : va_D A [(q_t, .inr (1, [.ref q_t_told, .ref q_t_now, .ref q_t_trial])), (q_t_told, .inr (3, [.ref q_t_told_beats, .ref q_t_told_kinds, .int t_told_count, .int t_told_depth, .int t_told_noon, .int t_told_depthBehind])), (q_t_trial, .inr (6, [.ref q_t_told, .ref q_t_trial_line, .ref q_t_trial_strides, .ref q_t_trial_strains, .int t_trial_down, .int t_trial_steps])), (q_t_now, .inr (6, [.ref q_t_told, .ref q_t_now_line, .ref q_t_now_strides, .ref q_t_now_strains, .int t_now_down, .int t_now_steps])), (q_t_now_line, .inl (cI, 5, .inl t_now_line)), (q_t_trial_line, .inl (cI, 5, .inl t_trial_line)), (q_t_now_strides, .inl (cI, 5, .inl t_now_strides)), (q_t_trial_strides, .inl (cI, 5, .inl t_trial_strides)), (q_t_now_strains, .inl (cI, 5, .inl t_now_strains)), (q_t_trial_strains, .inl (cI, 5, .inl t_trial_strains)), (q_t_told_kinds, .inl (cI, 5, .inl t_told_kinds)), (q_t_told_beats, .inl (cI, 5, .inl t_told_beats))] := wd hD0 rfl
      rw [L_X1_shareAbove_4] at hf
      refine lv_iload_n hx hb dX1_shareAbove_4 rfl (lv_at hl 3 rfl) ?_
      refine lv_iconst (v := 1) hx hb dX1_shareAbove_5 (by decide) ?_
      refine lv_aload_n hx hb dX1_shareAbove_6 rfl (lv_at hl 0 rfl) ?_
      refine va_get (D := (dC, dI)) (ci := 1) (v := .ref q_t_told) (C := RX1) (T := TX1) (N := 3) hx hb hts hinX1 hown hK.1 hP 0 rfl rfl 0 (by decide) w_0 (fun _ h9 => h9) rfl dX1_shareAbove_7 ?_
      obtain ⟨r1, e3, hf⟩ := bd_ok hf
      refine kVi (As := []) CF (cwV 0 hts gX1_shareAbove_X3_size rfl rfl rfl (by decide +kernel) ⟨Nat.le_of_ble_eq_true rfl, Nat.le_of_ble_eq_true rfl⟩) PU_blind hP hD hS hA (va_recv hK.1 hP (ci := 3) (q0 := 1) rfl rfl) [1] (fun h1 h2 h3 => PU_pre hK h1 A h2 h3) (c_X3_size l dC dI cI cZ q_t_told q_t_told_beats q_t_told_kinds _ t_told_count t_told_depth t_told_noon t_told_depthBehind r1 e3) rfl rfl rfl rfl hl.1 rfl (Nat.le_of_ble_eq_true rfl) dX1_shareAbove_10 ⟨Nat.zero_le _, Nat.zero_le _⟩ (fun H locs hP hS => ?_)
      replace hP : va_P (dC, dI) vwCl [(q_t, .inr (1, [.ref q_t_told, .ref q_t_now, .ref q_t_trial])), (q_t_told, .inr (3, [.ref q_t_told_beats, .ref q_t_told_kinds, .int t_told_count, .int t_told_depth, .int t_told_noon, .int t_told_depthBehind])), (q_t_trial, .inr (6, [.ref q_t_told, .ref q_t_trial_line, .ref q_t_trial_strides, .ref q_t_trial_strains, .int t_trial_down, .int t_trial_steps])), (q_t_now, .inr (6, [.ref q_t_told, .ref q_t_now_line, .ref q_t_now_strides, .ref q_t_now_strains, .int t_now_down, .int t_now_steps])), (q_t_now_line, .inl (cI, 5, .inl t_now_line)), (q_t_trial_line, .inl (cI, 5, .inl t_trial_line)), (q_t_now_strides, .inl (cI, 5, .inl t_now_strides)), (q_t_trial_strides, .inl (cI, 5, .inl t_trial_strides)), (q_t_now_strains, .inl (cI, 5, .inl t_now_strains)), (q_t_trial_strains, .inl (cI, 5, .inl t_trial_strains)), (q_t_told_kinds, .inl (cI, 5, .inl t_told_kinds)), (q_t_told_beats, .inl (cI, 5, .inl t_told_beats))] H := hP
      refine lv_ishl hx hb dX1_shareAbove_13 ?_
      refine lv_icmp_ge (tgt := 87) hx hb dX1_shareAbove_14 (by decide) (fun hc => ?_) (fun hc => ?_)
      · replace hf := ip hc hf
        refine lv_iload_n hx hb dX1_shareAbove_87 rfl (lv_at hl 2 rfl) ?_
        obtain ⟨e0, hf⟩ := ij2 hf
        obtain ⟨e1, hf⟩ := ijc hf
        obtain ⟨e2, hf⟩ := ijc hf
        obtain ⟨e3, hf⟩ := ijc hf
        obtain ⟨e4, hf⟩ := ijc hf
        have e5 := hf
        refine W.eq (congrArg (fun z => F0 m 88 ls [.int z]) e0) ?_
        exact hret _ _ _ _ (by rw [← e1, ← e2, ← e3, ← e4, ← e5]; exact hP) hS dX1_shareAbove_88
      · replace hf := iq hc hf
        refine lv_iload_n hx hb dX1_shareAbove_17 rfl (lv_at hl 3 rfl) ?_
        refine lv_iload_n hx hb dX1_shareAbove_18 rfl (lv_at hl 1 rfl) ?_
        refine lv_ishr hx hb dX1_shareAbove_19 ?_
        refine lv_iconst (v := 1) hx hb dX1_shareAbove_20 (by decide) ?_
        refine lv_iand hx hb dX1_shareAbove_21 ?_
        refine lv_if_ne (tgt := 81) hx hb dX1_shareAbove_22 (by decide) (fun hc => ?_) (fun hc => ?_)
        · replace hf := iq hc hf
          exact h_81 x2 x3 t_trial_down t_trial_steps t_trial_line t_trial_strides t_trial_strains _ _ _ hP hS (lv_sub hl [0, 1, 2, 3] rfl) hf
        · replace hf := ip hc hf
          refine lv_iload_n hx hb dX1_shareAbove_25 rfl (lv_at hl 3 rfl) ?_
          obtain ⟨r4, e6, hf⟩ := bd_ok hf
          refine kSi (As := [.int x3]) CF (va_cwS 1 hts gX1_shareAbove_J6_bitCount_0f7a4 rfl rfl rfl (by decide +kernel) ⟨Nat.le_of_ble_eq_true rfl, Nat.le_of_ble_eq_true rfl⟩) PU_blind hP hD hS hA [] (fun h1 h2 h3 => PU_pre hK h1 A h2 h3) (c_J6_bitCount_0f7a4 l dC dI cI cZ _ x3 r4 e6) rfl rfl rfl rfl hl.1 rfl (Nat.le_of_ble_eq_true rfl) dX1_shareAbove_26 ⟨Nat.zero_le _, Nat.zero_le _⟩ (fun H locs hP hS => ?_)
          replace hP : va_P (dC, dI) vwCl [(q_t, .inr (1, [.ref q_t_told, .ref q_t_now, .ref q_t_trial])), (q_t_told, .inr (3, [.ref q_t_told_beats, .ref q_t_told_kinds, .int t_told_count, .int t_told_depth, .int t_told_noon, .int t_told_depthBehind])), (q_t_trial, .inr (6, [.ref q_t_told, .ref q_t_trial_line, .ref q_t_trial_strides, .ref q_t_trial_strains, .int t_trial_down, .int t_trial_steps])), (q_t_now, .inr (6, [.ref q_t_told, .ref q_t_now_line, .ref q_t_now_strides, .ref q_t_now_strains, .int t_now_down, .int t_now_steps])), (q_t_now_line, .inl (cI, 5, .inl t_now_line)), (q_t_trial_line, .inl (cI, 5, .inl t_trial_line)), (q_t_now_strides, .inl (cI, 5, .inl t_now_strides)), (q_t_trial_strides, .inl (cI, 5, .inl t_trial_strides)), (q_t_now_strains, .inl (cI, 5, .inl t_now_strains)), (q_t_trial_strains, .inl (cI, 5, .inl t_trial_strains)), (q_t_told_kinds, .inl (cI, 5, .inl t_told_kinds)), (q_t_told_beats, .inl (cI, 5, .inl t_told_beats))] H := hP
          refine lv_istore (lv' := [(4, .int r4), (0, .ref q_t), (1, .int x1), (2, .int x2), (3, .int x3)]) hx hb dX1_shareAbove_29 hl (by decide) rfl (fun ls hl => ?_)
          refine va_getsN (v := .ref tF) (host := "PassInStep") hx hb hFS.1 hS hown (va_Nw.use rfl (nwG_X1_44 hK.2)) (fun _ h9 => h9) dX1_shareAbove_31 ?_
          refine lv_iload hx hb dX1_shareAbove_34 (lv_at hl 0 rfl) ?_
          obtain ⟨r7, e9, hf⟩ := bd_ok hf
          refine kNi (As := [.ref tF, .int r4]) CF ⟨va_cnB 2 hts gX1_shareAbove_X7_at_n53 rfl rfl rfl (nw_X1_53 hK.2) w_1 (by decide +kernel) ⟨Nat.le_of_ble_eq_true rfl, Nat.le_of_ble_eq_true rfl⟩, w_2, trivial⟩ PUS_blind hP hD hS hA [] (fun h1 h2 h3 => PUS_pre hK hFS hS h1 h2 h3) (c_X7_at_st l dC dI cI cZ tF _ r4 r7 e9) rfl rfl rfl rfl hl.1 rfl (Nat.le_of_ble_eq_true rfl) dX1_shareAbove_36 ⟨Nat.zero_le _, Nat.zero_le _⟩ (fun H locs hP hS => ?_)
          replace hP : va_P (dC, dI) vwCl [(q_t, .inr (1, [.ref q_t_told, .ref q_t_now, .ref q_t_trial])), (q_t_told, .inr (3, [.ref q_t_told_beats, .ref q_t_told_kinds, .int t_told_count, .int t_told_depth, .int t_told_noon, .int t_told_depthBehind])), (q_t_trial, .inr (6, [.ref q_t_told, .ref q_t_trial_line, .ref q_t_trial_strides, .ref q_t_trial_strains, .int t_trial_down, .int t_trial_steps])), (q_t_now, .inr (6, [.ref q_t_told, .ref q_t_now_line, .ref q_t_now_strides, .ref q_t_now_strains, .int t_now_down, .int t_now_steps])), (q_t_now_line, .inl (cI, 5, .inl t_now_line)), (q_t_trial_line, .inl (cI, 5, .inl t_trial_line)), (q_t_now_strides, .inl (cI, 5, .inl t_now_strides)), (q_t_trial_strides, .inl (cI, 5, .inl t_trial_strides)), (q_t_now_strains, .inl (cI, 5, .inl t_now_strains)), (q_t_trial_strains, .inl (cI, 5, .inl t_trial_strains)), (q_t_told_kinds, .inl (cI, 5, .inl t_told_kinds)), (q_t_told_beats, .inl (cI, 5, .inl t_told_beats))] H := hP
          refine va_getsN (v := .ref tF) (host := "PassInStep") hx hb hFS.1 hS hown (va_Nw.use rfl (nwG_X1_44 hK.2)) (fun _ h9 => h9) dX1_shareAbove_39 ?_
          refine lv_aload_n hx hb dX1_shareAbove_42 rfl (lv_at hl 1 rfl) ?_
          refine va_get (D := (dC, dI)) (ci := 1) (v := .ref q_t_told) (C := RX1) (T := TX1) (N := 3) hx hb hts hinX1 hown hK.1 hP 0 rfl rfl 0 (by decide) w_0 (fun _ h9 => h9) rfl dX1_shareAbove_43 ?_
          obtain ⟨r10, e12, hf⟩ := bd_ok hf
          refine kVi (As := []) CF (cwV 0 hts gX1_shareAbove_X3_size rfl rfl rfl (by decide +kernel) ⟨Nat.le_of_ble_eq_true rfl, Nat.le_of_ble_eq_true rfl⟩) PU_blind hP hD hS hA (va_recv hK.1 hP (ci := 3) (q0 := 1) rfl rfl) [1] (fun h1 h2 h3 => PU_pre hK h1 A h2 h3) (c_X3_size l dC dI cI cZ q_t_told q_t_told_beats q_t_told_kinds _ t_told_count t_told_depth t_told_noon t_told_depthBehind r10 e12) rfl rfl rfl rfl hl.1 rfl (Nat.le_of_ble_eq_true rfl) dX1_shareAbove_46 ⟨Nat.zero_le _, Nat.zero_le _⟩ (fun H locs hP hS => ?_)
          replace hP : va_P (dC, dI) vwCl [(q_t, .inr (1, [.ref q_t_told, .ref q_t_now, .ref q_t_trial])), (q_t_told, .inr (3, [.ref q_t_told_beats, .ref q_t_told_kinds, .int t_told_count, .int t_told_depth, .int t_told_noon, .int t_told_depthBehind])), (q_t_trial, .inr (6, [.ref q_t_told, .ref q_t_trial_line, .ref q_t_trial_strides, .ref q_t_trial_strains, .int t_trial_down, .int t_trial_steps])), (q_t_now, .inr (6, [.ref q_t_told, .ref q_t_now_line, .ref q_t_now_strides, .ref q_t_now_strains, .int t_now_down, .int t_now_steps])), (q_t_now_line, .inl (cI, 5, .inl t_now_line)), (q_t_trial_line, .inl (cI, 5, .inl t_trial_line)), (q_t_now_strides, .inl (cI, 5, .inl t_now_strides)), (q_t_trial_strides, .inl (cI, 5, .inl t_trial_strides)), (q_t_now_strains, .inl (cI, 5, .inl t_now_strains)), (q_t_trial_strains, .inl (cI, 5, .inl t_trial_strains)), (q_t_told_kinds, .inl (cI, 5, .inl t_told_kinds)), (q_t_told_beats, .inl (cI, 5, .inl t_told_beats))] H := hP
          refine lv_iconst (v := 1) hx hb dX1_shareAbove_49 (by decide) ?_
          refine lv_isub hx hb dX1_shareAbove_50 ?_
          refine lv_iload hx hb dX1_shareAbove_51 (lv_at hl 0 rfl) ?_
          refine lv_isub hx hb dX1_shareAbove_53 ?_
          obtain ⟨r13, e15, hf⟩ := bd_ok hf
          refine kNi (As := [.ref tF, .int ((r10 - 1) - r4)]) CF ⟨va_cnB 2 hts gX1_shareAbove_X7_at_n53 rfl rfl rfl (nw_X1_53 hK.2) w_1 (by decide +kernel) ⟨Nat.le_of_ble_eq_true rfl, Nat.le_of_ble_eq_true rfl⟩, w_2, trivial⟩ PUS_blind hP hD hS hA [] (fun h1 h2 h3 => PUS_pre hK hFS hS h1 h2 h3) (c_X7_at_st l dC dI cI cZ tF _ ((r10 - 1) - r4) r13 e15) rfl rfl rfl rfl hl.1 rfl (Nat.le_of_ble_eq_true rfl) dX1_shareAbove_54 ⟨Nat.zero_le _, Nat.zero_le _⟩ (fun H locs hP hS => ?_)
          replace hP : va_P (dC, dI) vwCl [(q_t, .inr (1, [.ref q_t_told, .ref q_t_now, .ref q_t_trial])), (q_t_told, .inr (3, [.ref q_t_told_beats, .ref q_t_told_kinds, .int t_told_count, .int t_told_depth, .int t_told_noon, .int t_told_depthBehind])), (q_t_trial, .inr (6, [.ref q_t_told, .ref q_t_trial_line, .ref q_t_trial_strides, .ref q_t_trial_strains, .int t_trial_down, .int t_trial_steps])), (q_t_now, .inr (6, [.ref q_t_told, .ref q_t_now_line, .ref q_t_now_strides, .ref q_t_now_strains, .int t_now_down, .int t_now_steps])), (q_t_now_line, .inl (cI, 5, .inl t_now_line)), (q_t_trial_line, .inl (cI, 5, .inl t_trial_line)), (q_t_now_strides, .inl (cI, 5, .inl t_now_strides)), (q_t_trial_strides, .inl (cI, 5, .inl t_trial_strides)), (q_t_now_strains, .inl (cI, 5, .inl t_now_strains)), (q_t_trial_strains, .inl (cI, 5, .inl t_trial_strains)), (q_t_told_kinds, .inl (cI, 5, .inl t_told_kinds)), (q_t_told_beats, .inl (cI, 5, .inl t_told_beats))] H := hP
          refine lv_imul hx hb dX1_shareAbove_57 ?_
          refine lv_istore (lv' := [(5, .int (r7 * r13)), (4, .int r4), (0, .ref q_t), (1, .int x1), (2, .int x2), (3, .int x3)]) hx hb dX1_shareAbove_58 hl (by decide) rfl (fun ls hl => ?_)
          refine lv_iload_n hx hb dX1_shareAbove_60 rfl (lv_at hl 4 rfl) ?_
          refine lv_iload hx hb dX1_shareAbove_61 (lv_at hl 0 rfl) ?_
          refine lv_aload_n hx hb dX1_shareAbove_63 rfl (lv_at hl 2 rfl) ?_
          refine lv_iload_n hx hb dX1_shareAbove_64 rfl (lv_at hl 5 rfl) ?_
          refine lv_iconst (v := 1) hx hb dX1_shareAbove_65 (by decide) ?_
          refine lv_iload_n hx hb dX1_shareAbove_66 rfl (lv_at hl 3 rfl) ?_
          refine lv_ishl hx hb dX1_shareAbove_67 ?_
          refine lv_ior hx hb dX1_shareAbove_68 ?_
          obtain ⟨⟨r16, o17, o18, o19, o20, o21⟩, e23, hf⟩ := bd_ok hf
          refine kVi (As := [.int (x3 ||| ((1 : Int32) <<< (x1 &&& 31)))]) CF (cwV 1 hts gX1_shareAbove_X1_standingOf rfl rfl rfl (by decide +kernel) ⟨Nat.le_of_ble_eq_true rfl, Nat.le_of_ble_eq_true rfl⟩) PU_blind hP hD hS hA (va_recv hK.1 hP (ci := 1) (q0 := 0) rfl rfl) [0, 2, 3, 4, 5, 6, 7, 8, 9, 1, 10, 11] (fun h1 h2 h3 => PU_pre hK h1 A h2 h3) (c_X1_standingOf l dC dI cI cZ q_t q_t_told q_t_now q_t_trial q_t_trial_line q_t_trial_strides q_t_trial_strains q_t_now_line q_t_now_strides q_t_now_strains q_t_told_beats q_t_told_kinds _ t_trial_down t_trial_steps t_now_down t_now_steps t_now_line t_trial_line t_now_strides t_trial_strides t_now_strains t_trial_strains t_told_count t_told_depth t_told_noon t_told_depthBehind t_told_kinds t_told_beats (x3 ||| ((1 : Int32) <<< (x1 &&& 31))) r16 o17 o18 o19 o20 o21 e23) rfl rfl rfl rfl hl.1 rfl (Nat.le_of_ble_eq_true rfl) dX1_shareAbove_69 ⟨Nat.zero_le _, Nat.zero_le _⟩ (fun H locs hP hS => ?_)
          replace hP : va_P (dC, dI) vwCl [(q_t, .inr (1, [.ref q_t_told, .ref q_t_now, .ref q_t_trial])), (q_t_told, .inr (3, [.ref q_t_told_beats, .ref q_t_told_kinds, .int t_told_count, .int t_told_depth, .int t_told_noon, .int t_told_depthBehind])), (q_t_trial, .inr (6, [.ref q_t_told, .ref q_t_trial_line, .ref q_t_trial_strides, .ref q_t_trial_strains, .int o17, .int o18])), (q_t_now, .inr (6, [.ref q_t_told, .ref q_t_now_line, .ref q_t_now_strides, .ref q_t_now_strains, .int t_now_down, .int t_now_steps])), (q_t_now_line, .inl (cI, 5, .inl t_now_line)), (q_t_trial_line, .inl (cI, 5, .inl o19)), (q_t_now_strides, .inl (cI, 5, .inl t_now_strides)), (q_t_trial_strides, .inl (cI, 5, .inl o20)), (q_t_now_strains, .inl (cI, 5, .inl t_now_strains)), (q_t_trial_strains, .inl (cI, 5, .inl o21)), (q_t_told_kinds, .inl (cI, 5, .inl t_told_kinds)), (q_t_told_beats, .inl (cI, 5, .inl t_told_beats))] H := hP
          replace hD : va_D A [(q_t, .inr (1, [.ref q_t_told, .ref q_t_now, .ref q_t_trial])), (q_t_told, .inr (3, [.ref q_t_told_beats, .ref q_t_told_kinds, .int t_told_count, .int t_told_depth, .int t_told_noon, .int t_told_depthBehind])), (q_t_trial, .inr (6, [.ref q_t_told, .ref q_t_trial_line, .ref q_t_trial_strides, .ref q_t_trial_strains, .int o17, .int o18])), (q_t_now, .inr (6, [.ref q_t_told, .ref q_t_now_line, .ref q_t_now_strides, .ref q_t_now_strains, .int t_now_down, .int t_now_steps])), (q_t_now_line, .inl (cI, 5, .inl t_now_line)), (q_t_trial_line, .inl (cI, 5, .inl o19)), (q_t_now_strides, .inl (cI, 5, .inl t_now_strides)), (q_t_trial_strides, .inl (cI, 5, .inl o20)), (q_t_now_strains, .inl (cI, 5, .inl t_now_strains)), (q_t_trial_strains, .inl (cI, 5, .inl o21)), (q_t_told_kinds, .inl (cI, 5, .inl t_told_kinds)), (q_t_told_beats, .inl (cI, 5, .inl t_told_beats))] := wd hD rfl
          refine lv_aload_n hx hb dX1_shareAbove_72 rfl (lv_at hl 2 rfl) ?_
          refine lv_iload_n hx hb dX1_shareAbove_73 rfl (lv_at hl 5 rfl) ?_
          obtain ⟨⟨r24, o25, o26, o27, o28, o29⟩, e31, hf⟩ := bd_ok hf
          refine kVi (As := [.int x3]) CF (cwV 1 hts gX1_shareAbove_X1_standingOf rfl rfl rfl (by decide +kernel) ⟨Nat.le_of_ble_eq_true rfl, Nat.le_of_ble_eq_true rfl⟩) PU_blind hP hD hS hA (va_recv hK.1 hP (ci := 1) (q0 := 0) rfl rfl) [0, 2, 3, 4, 5, 6, 7, 8, 9, 1, 10, 11] (fun h1 h2 h3 => PU_pre hK h1 A h2 h3) (c_X1_standingOf l dC dI cI cZ q_t q_t_told q_t_now q_t_trial q_t_trial_line q_t_trial_strides q_t_trial_strains q_t_now_line q_t_now_strides q_t_now_strains q_t_told_beats q_t_told_kinds _ o17 o18 t_now_down t_now_steps t_now_line o19 t_now_strides o20 t_now_strains o21 t_told_count t_told_depth t_told_noon t_told_depthBehind t_told_kinds t_told_beats x3 r24 o25 o26 o27 o28 o29 e31) rfl rfl rfl rfl hl.1 rfl (Nat.le_of_ble_eq_true rfl) dX1_shareAbove_74 ⟨Nat.zero_le _, Nat.zero_le _⟩ (fun H locs hP hS => ?_)
          replace hP : va_P (dC, dI) vwCl [(q_t, .inr (1, [.ref q_t_told, .ref q_t_now, .ref q_t_trial])), (q_t_told, .inr (3, [.ref q_t_told_beats, .ref q_t_told_kinds, .int t_told_count, .int t_told_depth, .int t_told_noon, .int t_told_depthBehind])), (q_t_trial, .inr (6, [.ref q_t_told, .ref q_t_trial_line, .ref q_t_trial_strides, .ref q_t_trial_strains, .int o25, .int o26])), (q_t_now, .inr (6, [.ref q_t_told, .ref q_t_now_line, .ref q_t_now_strides, .ref q_t_now_strains, .int t_now_down, .int t_now_steps])), (q_t_now_line, .inl (cI, 5, .inl t_now_line)), (q_t_trial_line, .inl (cI, 5, .inl o27)), (q_t_now_strides, .inl (cI, 5, .inl t_now_strides)), (q_t_trial_strides, .inl (cI, 5, .inl o28)), (q_t_now_strains, .inl (cI, 5, .inl t_now_strains)), (q_t_trial_strains, .inl (cI, 5, .inl o29)), (q_t_told_kinds, .inl (cI, 5, .inl t_told_kinds)), (q_t_told_beats, .inl (cI, 5, .inl t_told_beats))] H := hP
          replace hD : va_D A [(q_t, .inr (1, [.ref q_t_told, .ref q_t_now, .ref q_t_trial])), (q_t_told, .inr (3, [.ref q_t_told_beats, .ref q_t_told_kinds, .int t_told_count, .int t_told_depth, .int t_told_noon, .int t_told_depthBehind])), (q_t_trial, .inr (6, [.ref q_t_told, .ref q_t_trial_line, .ref q_t_trial_strides, .ref q_t_trial_strains, .int o25, .int o26])), (q_t_now, .inr (6, [.ref q_t_told, .ref q_t_now_line, .ref q_t_now_strides, .ref q_t_now_strains, .int t_now_down, .int t_now_steps])), (q_t_now_line, .inl (cI, 5, .inl t_now_line)), (q_t_trial_line, .inl (cI, 5, .inl o27)), (q_t_now_strides, .inl (cI, 5, .inl t_now_strides)), (q_t_trial_strides, .inl (cI, 5, .inl o28)), (q_t_now_strains, .inl (cI, 5, .inl t_now_strains)), (q_t_trial_strains, .inl (cI, 5, .inl o29)), (q_t_told_kinds, .inl (cI, 5, .inl t_told_kinds)), (q_t_told_beats, .inl (cI, 5, .inl t_told_beats))] := wd hD rfl
          refine lv_isub hx hb dX1_shareAbove_77 ?_
          refine lv_imul hx hb dX1_shareAbove_78 ?_
          refine lv_iadd hx hb dX1_shareAbove_79 ?_
          refine lv_istore_n (lv' := [(2, .int (x2 + ((r7 * r13) * (r16 - r24)))), (5, .int (r7 * r13)), (4, .int r4), (0, .ref q_t), (1, .int x1), (3, .int x3)]) hx hb dX1_shareAbove_80 rfl hl (by decide) rfl (fun ls hl => ?_)
          exact h_81 (x2 + ((r7 * r13) * (r16 - r24))) x3 o25 o26 o27 o28 o29 _ _ _ hP hS (lv_sub hl [3, 4, 0, 5] rfl) hf
  rw [f_X1_shareAbove] at hf
  refine lv_iconst (v := 0) hx hb dX1_shareAbove_0 (by decide) ?_
  refine lv_istore_n (lv' := [(2, .int 0), (0, .ref q_t), (1, .int x1)]) hx hb dX1_shareAbove_1 rfl hl (by decide) rfl (fun ls hl => ?_)
  refine lv_iconst (v := 0) hx hb dX1_shareAbove_2 (by decide) ?_
  refine lv_istore_n (lv' := [(3, .int 0), (2, .int 0), (0, .ref q_t), (1, .int x1)]) hx hb dX1_shareAbove_3 rfl hl (by decide) rfl (fun ls hl => ?_)
  exact h_4 x1 fuelC 0 0 t_trial_down t_trial_steps t_trial_line t_trial_strides t_trial_strains _ _ _ hP hS (lv_sub hl [2, 3, 1, 0] rfl) hf
abbrev rm_X2_size : Room := { frames := 0, cells := 0, slots := 0, locals := 0 }
set_option maxHeartbeats 4000000 in
set_option maxRecDepth 100000 in
theorem c_X2_size (l : Launch) (dC : Nat → ClassId) (dI : Nat → Nat → Nat) (cI cZ : ClassId) (q_t q_t_times q_t_treads : Nat) (sz : Nat) (t_count : Int32) (r_ : Int32) (hf : f_X2_size t_count = some r_) : Met l yX2_size wsX2_size rm_X2_size (va_Pc [.ref q_t] (PU (dC, dI) cI cZ [(q_t, .inr (2, [.ref q_t_times, .ref q_t_treads, .int t_count]))] sz)) (va_Qi (fun (r : Int32) (_ : Unit) => r = r_) (fun _ t => va_P (dC, dI) vwCl [(q_t, .inr (2, [.ref q_t_times, .ref q_t_treads, .int t_count]))] t.heap) (va_A [(q_t, .inr (2, [.ref q_t_times, .ref q_t_treads, .int t_count]))] sz)) 0 0 (va_A [(q_t, .inr (2, [.ref q_t_times, .ref q_t_treads, .int t_count]))] sz) := by
  refine MetI (cc := cX2_size) (maxL := 1) (by decide) rfl (Nat.le_of_ble_eq_true rfl) (fun _ h => h) ?_
  intro p e s m args below meth c A Q ls hx CF hK hA hD hP hS hl hB hAe hsz hret
  have hb := CF.2.1
  have hml := CF.2.2.1
  have hown := CF.2.2.2.1
  have hts := CF.2.2.2.2
  have hD0 := hD
  replace hl : lv_has ls 1 [(0, .ref q_t)] := hl
  have hinX2 : ∀ w ∈ wsX20, w ∈ wsX2_size := fun _ h => List.mem_cons_of_mem _ (List.mem_append_right _ h)
  have w_0 := hts (.fieldLink RX2 18 "PassInStep$Marks" "count" "I") (by decide +kernel)
  rw [f_X2_size] at hf
  refine lv_aload_n hx hb dX2_size_0 rfl (lv_at hl 0 rfl) ?_
  refine va_get (D := (dC, dI)) (ci := 2) (v := .int t_count) (C := RX2) (T := TX2) (N := 3) hx hb hts hinX2 hown hK.1 hP 0 rfl rfl 2 (by decide) w_0 (fun _ h9 => h9) rfl dX2_size_1 ?_
  have e0 := ij1 hf
  refine W.eq (congrArg (fun z => F0 m 4 ls [.int z]) e0) ?_
  exact hret _ _ _ _ hP hS dX2_size_4
abbrev rm_X2_isFull : Room := { frames := 0, cells := 0, slots := 0, locals := 0 }
set_option maxHeartbeats 4000000 in
set_option maxRecDepth 100000 in
theorem c_X2_isFull (l : Launch) (dC : Nat → ClassId) (dI : Nat → Nat → Nat) (cI cZ : ClassId) (q_t q_t_times q_t_treads : Nat) (sz : Nat) (t_count : Int32) (r_ : Int32) (hf : f_X2_isFull t_count = some r_) : Met l yX2_isFull wsX2_isFull rm_X2_isFull (va_Pc [.ref q_t] (PU (dC, dI) cI cZ [(q_t, .inr (2, [.ref q_t_times, .ref q_t_treads, .int t_count]))] sz)) (va_Qi (fun (r : Int32) (_ : Unit) => r = r_) (fun _ t => va_P (dC, dI) vwCl [(q_t, .inr (2, [.ref q_t_times, .ref q_t_treads, .int t_count]))] t.heap) (va_A [(q_t, .inr (2, [.ref q_t_times, .ref q_t_treads, .int t_count]))] sz)) 0 0 (va_A [(q_t, .inr (2, [.ref q_t_times, .ref q_t_treads, .int t_count]))] sz) := by
  refine MetZ (cc := cX2_isFull) (maxL := 1) (by decide) rfl (Nat.le_of_ble_eq_true rfl) (fun _ h => h) ?_
  intro p e s m args below meth c A Q ls hx CF hK hA hD hP hS hl hB hAe hsz hret
  have hb := CF.2.1
  have hml := CF.2.2.1
  have hown := CF.2.2.2.1
  have hts := CF.2.2.2.2
  have hD0 := hD
  replace hl : lv_has ls 1 [(0, .ref q_t)] := hl
  have hinX2 : ∀ w ∈ wsX20, w ∈ wsX2_isFull := fun _ h => List.mem_cons_of_mem _ (List.mem_append_right _ h)
  have w_0 := hts (.fieldLink RX2 18 "PassInStep$Marks" "count" "I") (by decide +kernel)
  rw [f_X2_isFull] at hf
  refine lv_aload_n hx hb dX2_isFull_0 rfl (lv_at hl 0 rfl) ?_
  refine va_get (D := (dC, dI)) (ci := 2) (v := .int t_count) (C := RX2) (T := TX2) (N := 3) hx hb hts hinX2 hown hK.1 hP 0 rfl rfl 2 (by decide) w_0 (fun _ h9 => h9) rfl dX2_isFull_1 ?_
  refine lv_bipush (v := 6) hx hb dX2_isFull_4 (by decide) ?_
  refine lv_icmp_lt (tgt := 13) hx hb dX2_isFull_6 (by decide) (fun hc => ?_) (fun hc => ?_)
  · replace hf := ip hc hf
    refine lv_iconst (v := 0) hx hb dX2_isFull_13 (by decide) ?_
    have e0 := ij1 hf
    refine W.eq (congrArg (fun z => F0 m 14 ls [.int z]) e0) ?_
    exact hret _ _ _ _ hP hS (by rw [← e0]; rfl) dX2_isFull_14
  · replace hf := iq hc hf
    refine lv_iconst (v := 1) hx hb dX2_isFull_9 (by decide) ?_
    refine lv_goto (tgt := 14) hx hb dX2_isFull_10 (by decide) ?_
    have e0 := ij1 hf
    refine W.eq (congrArg (fun z => F0 m 14 ls [.int z]) e0) ?_
    exact hret _ _ _ _ hP hS (by rw [← e0]; rfl) dX2_isFull_14
abbrev rm_X2_append : Room := { frames := 1, cells := 0, slots := 0, locals := 22 }
set_option maxHeartbeats 4000000 in
set_option maxRecDepth 100000 in
theorem c_X2_append (l : Launch) (dC : Nat → ClassId) (dI : Nat → Nat → Nat) (cI cZ : ClassId) (q_t q_t_times q_t_treads : Nat) (sz : Nat) (t_count : Int32) (t_times : Nat → Int32) (t_treads : Nat → Int32) (x1 : Int32) (x2 : Int32) (r_ : Int32) (o_t_count : Int32) (o_t_times : Nat → Int32) (o_t_treads : Nat → Int32) (hf : f_X2_append x1 x2 t_count t_times t_treads = some (r_, o_t_count, o_t_times, o_t_treads)) : Met l yX2_append wsX2_append rm_X2_append (va_Pc [.ref q_t, .int x1, .int x2] (PU (dC, dI) cI cZ [(q_t, .inr (2, [.ref q_t_times, .ref q_t_treads, .int t_count])), (q_t_times, .inl (cI, 6, .inl t_times)), (q_t_treads, .inl (cI, 6, .inl t_treads))] sz)) (va_Qi (fun (r : Int32) (_ : Unit) => r = r_) (fun _ t => va_P (dC, dI) vwCl [(q_t, .inr (2, [.ref q_t_times, .ref q_t_treads, .int o_t_count])), (q_t_times, .inl (cI, 6, .inl o_t_times)), (q_t_treads, .inl (cI, 6, .inl o_t_treads))] t.heap) (va_A [(q_t, .inr (2, [.ref q_t_times, .ref q_t_treads, .int t_count])), (q_t_times, .inl (cI, 6, .inl t_times)), (q_t_treads, .inl (cI, 6, .inl t_treads))] sz)) 0 0 (va_A [(q_t, .inr (2, [.ref q_t_times, .ref q_t_treads, .int t_count])), (q_t_times, .inl (cI, 6, .inl t_times)), (q_t_treads, .inl (cI, 6, .inl t_treads))] sz) := by
  refine MetI (cc := cX2_append) (maxL := 3) (by decide) rfl (Nat.le_of_ble_eq_true rfl) (fun _ h => h) ?_
  intro p e s m args below meth c A Q ls hx CF hK hA hD hP hS hl hB hAe hsz hret
  have hb := CF.2.1
  have hml := CF.2.2.1
  have hown := CF.2.2.2.1
  have hts := CF.2.2.2.2
  have hD0 := hD
  replace hl : lv_has ls 3 [(0, .ref q_t), (1, .int x1), (2, .int x2)] := hl
  have hinX2 : ∀ w ∈ wsX20, w ∈ wsX2_append := fun _ h => List.mem_cons_of_mem _ (List.mem_append_right _ h)
  have w_0 := hts (.fieldLink RX2 9 "PassInStep$Marks" "times" "[I") (by decide +kernel)
  have w_1 := hts (.fieldLink RX2 18 "PassInStep$Marks" "count" "I") (by decide +kernel)
  have w_2 := hts (.initialized RX7) (by decide +kernel)
  have w_3 := hts (.static yX7_put) (by decide +kernel)
  have w_4 := hts (.fieldLink RX2 15 "PassInStep$Marks" "treads" "[I") (by decide +kernel)
  rw [f_X2_append] at hf
  refine lv_aload_n hx hb dX2_append_0 rfl (lv_at hl 0 rfl) ?_
  refine va_get (D := (dC, dI)) (ci := 2) (v := .ref q_t_times) (C := RX2) (T := TX2) (N := 3) hx hb hts hinX2 hown hK.1 hP 0 rfl rfl 0 (by decide) w_0 (fun _ h9 => h9) rfl dX2_append_1 ?_
  refine lv_aload_n hx hb dX2_append_4 rfl (lv_at hl 0 rfl) ?_
  refine va_get (D := (dC, dI)) (ci := 2) (v := .int t_count) (C := RX2) (T := TX2) (N := 3) hx hb hts hinX2 hown hK.1 hP 0 rfl rfl 2 (by decide) w_1 (fun _ h9 => h9) rfl dX2_append_5 ?_
  refine lv_iload_n hx hb dX2_append_8 rfl (lv_at hl 1 rfl) ?_
  obtain ⟨o1, e3, hf⟩ := bd_ok hf
  refine kNv (As := [.ref q_t_times, .int t_count, .int x1]) CF ⟨va_cnB 3 hts gX2_append_X7_put_n22 rfl rfl rfl (nw_X2_22 hK.2) w_2 (by decide +kernel) ⟨Nat.le_of_ble_eq_true rfl, Nat.le_of_ble_eq_true rfl⟩, w_3, trivial⟩ PU_blind hP hD hS hA [1] (fun h1 h2 h3 => PU_pre hK h1 A h2 h3) (c_X7_put l dC dI cI cZ q_t_times _ t_times 6 t_count x1 o1 e3) rfl rfl rfl rfl hl.1 rfl (Nat.le_of_ble_eq_true rfl) dX2_append_9 ⟨Nat.zero_le _, Nat.zero_le _⟩ (fun H locs hP hS => ?_)
  replace hP : va_P (dC, dI) vwCl [(q_t, .inr (2, [.ref q_t_times, .ref q_t_treads, .int t_count])), (q_t_times, .inl (cI, 6, .inl o1)), (q_t_treads, .inl (cI, 6, .inl t_treads))] H := hP
  replace hD : va_D A [(q_t, .inr (2, [.ref q_t_times, .ref q_t_treads, .int t_count])), (q_t_times, .inl (cI, 6, .inl o1)), (q_t_treads, .inl (cI, 6, .inl t_treads))] := wd hD rfl
  refine lv_aload_n hx hb dX2_append_12 rfl (lv_at hl 0 rfl) ?_
  refine va_get (D := (dC, dI)) (ci := 2) (v := .ref q_t_treads) (C := RX2) (T := TX2) (N := 3) hx hb hts hinX2 hown hK.1 hP 0 rfl rfl 1 (by decide) w_4 (fun _ h9 => h9) rfl dX2_append_13 ?_
  refine lv_aload_n hx hb dX2_append_16 rfl (lv_at hl 0 rfl) ?_
  refine va_get (D := (dC, dI)) (ci := 2) (v := .int t_count) (C := RX2) (T := TX2) (N := 3) hx hb hts hinX2 hown hK.1 hP 0 rfl rfl 2 (by decide) w_1 (fun _ h9 => h9) rfl dX2_append_17 ?_
  refine lv_iload_n hx hb dX2_append_20 rfl (lv_at hl 2 rfl) ?_
  obtain ⟨o4, e6, hf⟩ := bd_ok hf
  refine kNv (As := [.ref q_t_treads, .int t_count, .int x2]) CF ⟨va_cnB 3 hts gX2_append_X7_put_n22 rfl rfl rfl (nw_X2_22 hK.2) w_2 (by decide +kernel) ⟨Nat.le_of_ble_eq_true rfl, Nat.le_of_ble_eq_true rfl⟩, w_3, trivial⟩ PU_blind hP hD hS hA [2] (fun h1 h2 h3 => PU_pre hK h1 A h2 h3) (c_X7_put l dC dI cI cZ q_t_treads _ t_treads 6 t_count x2 o4 e6) rfl rfl rfl rfl hl.1 rfl (Nat.le_of_ble_eq_true rfl) dX2_append_21 ⟨Nat.zero_le _, Nat.zero_le _⟩ (fun H locs hP hS => ?_)
  replace hP : va_P (dC, dI) vwCl [(q_t, .inr (2, [.ref q_t_times, .ref q_t_treads, .int t_count])), (q_t_times, .inl (cI, 6, .inl o1)), (q_t_treads, .inl (cI, 6, .inl o4))] H := hP
  replace hD : va_D A [(q_t, .inr (2, [.ref q_t_times, .ref q_t_treads, .int t_count])), (q_t_times, .inl (cI, 6, .inl o1)), (q_t_treads, .inl (cI, 6, .inl o4))] := wd hD rfl
  refine lv_aload_n hx hb dX2_append_24 rfl (lv_at hl 0 rfl) ?_
  refine lv_dup hx hb dX2_append_25 rfl ?_
  refine va_get (D := (dC, dI)) (ci := 2) (v := .int t_count) (C := RX2) (T := TX2) (N := 3) hx hb hts hinX2 hown hK.1 hP 0 rfl rfl 2 (by decide) w_1 (fun _ h9 => h9) rfl dX2_append_26 ?_
  refine lv_iconst (v := 1) hx hb dX2_append_29 (by decide) ?_
  refine lv_iadd hx hb dX2_append_30 ?_
  refine va_put (D := (dC, dI)) (ci := 2) (v := .int (t_count + 1)) (ty := .int) (C := RX2) (T := TX2) (N := 3) hx hb hts hinX2 tyX2 tyX2_ok nmX2 hown hK.1 hP hD hS 0 rfl rfl 2 (by decide) w_1 (fun _ h9 => h9) rfl (by decide +kernel) rfl rfl (Nat.le_of_ble_eq_true rfl) dX2_append_31 (fun H locs hP hD hS => ?_)
  replace hP : va_P (dC, dI) vwCl [(q_t, .inr (2, [.ref q_t_times, .ref q_t_treads, .int (t_count + 1)])), (q_t_times, .inl (cI, 6, .inl o1)), (q_t_treads, .inl (cI, 6, .inl o4))] H := hP
  replace hD : va_D A [(q_t, .inr (2, [.ref q_t_times, .ref q_t_treads, .int (t_count + 1)])), (q_t_times, .inl (cI, 6, .inl o1)), (q_t_treads, .inl (cI, 6, .inl o4))] := hD
  refine lv_aload_n hx hb dX2_append_34 rfl (lv_at hl 0 rfl) ?_
  refine va_get (D := (dC, dI)) (ci := 2) (v := .int (t_count + 1)) (C := RX2) (T := TX2) (N := 3) hx hb hts hinX2 hown hK.1 hP 0 rfl rfl 2 (by decide) w_1 (fun _ h9 => h9) rfl dX2_append_35 ?_
  obtain ⟨e0, hf⟩ := ij2 hf
  obtain ⟨e1, hf⟩ := ijc hf
  obtain ⟨e2, hf⟩ := ijc hf
  have e3 := hf
  refine W.eq (congrArg (fun z => F0 m 38 ls [.int z]) e0) ?_
  exact hret _ _ _ _ (by rw [← e1, ← e2, ← e3]; exact hP) hS dX2_append_38
abbrev rm_X2_clear : Room := { frames := 0, cells := 0, slots := 0, locals := 0 }
set_option maxHeartbeats 4000000 in
set_option maxRecDepth 100000 in
theorem c_X2_clear (l : Launch) (dC : Nat → ClassId) (dI : Nat → Nat → Nat) (cI cZ : ClassId) (q_t q_t_times q_t_treads : Nat) (sz : Nat) (t_count : Int32) (r_ : Int32) (o_t_count : Int32) (hf : f_X2_clear t_count = some (r_, o_t_count)) : Met l yX2_clear wsX2_clear rm_X2_clear (va_Pc [.ref q_t] (PU (dC, dI) cI cZ [(q_t, .inr (2, [.ref q_t_times, .ref q_t_treads, .int t_count]))] sz)) (va_Qi (fun (r : Int32) (_ : Unit) => r = r_) (fun _ t => va_P (dC, dI) vwCl [(q_t, .inr (2, [.ref q_t_times, .ref q_t_treads, .int o_t_count]))] t.heap) (va_A [(q_t, .inr (2, [.ref q_t_times, .ref q_t_treads, .int t_count]))] sz)) 0 0 (va_A [(q_t, .inr (2, [.ref q_t_times, .ref q_t_treads, .int t_count]))] sz) := by
  refine MetI (cc := cX2_clear) (maxL := 2) (by decide) rfl (Nat.le_of_ble_eq_true rfl) (fun _ h => h) ?_
  intro p e s m args below meth c A Q ls hx CF hK hA hD hP hS hl hB hAe hsz hret
  have hb := CF.2.1
  have hml := CF.2.2.1
  have hown := CF.2.2.2.1
  have hts := CF.2.2.2.2
  have hD0 := hD
  replace hl : lv_has ls 2 [(0, .ref q_t)] := hl
  have hinX2 : ∀ w ∈ wsX20, w ∈ wsX2_clear := fun _ h => List.mem_cons_of_mem _ (List.mem_append_right _ h)
  have w_0 := hts (.fieldLink RX2 18 "PassInStep$Marks" "count" "I") (by decide +kernel)
  rw [f_X2_clear] at hf
  refine lv_aload_n hx hb dX2_clear_0 rfl (lv_at hl 0 rfl) ?_
  refine va_get (D := (dC, dI)) (ci := 2) (v := .int t_count) (C := RX2) (T := TX2) (N := 3) hx hb hts hinX2 hown hK.1 hP 0 rfl rfl 2 (by decide) w_0 (fun _ h9 => h9) rfl dX2_clear_1 ?_
  refine lv_istore_n (lv' := [(1, .int t_count), (0, .ref q_t)]) hx hb dX2_clear_4 rfl hl (by decide) rfl (fun ls hl => ?_)
  refine lv_aload_n hx hb dX2_clear_5 rfl (lv_at hl 1 rfl) ?_
  refine lv_iconst (v := 0) hx hb dX2_clear_6 (by decide) ?_
  refine va_put (D := (dC, dI)) (ci := 2) (v := .int 0) (ty := .int) (C := RX2) (T := TX2) (N := 3) hx hb hts hinX2 tyX2 tyX2_ok nmX2 hown hK.1 hP hD hS 0 rfl rfl 2 (by decide) w_0 (fun _ h9 => h9) rfl (by decide +kernel) rfl rfl (Nat.le_of_ble_eq_true rfl) dX2_clear_7 (fun H locs hP hD hS => ?_)
  replace hP : va_P (dC, dI) vwCl [(q_t, .inr (2, [.ref q_t_times, .ref q_t_treads, .int 0]))] H := hP
  replace hD : va_D A [(q_t, .inr (2, [.ref q_t_times, .ref q_t_treads, .int 0]))] := hD
  refine lv_iload_n hx hb dX2_clear_10 rfl (lv_at hl 0 rfl) ?_
  obtain ⟨e0, hf⟩ := ij2 hf
  have e1 := hf
  refine W.eq (congrArg (fun z => F0 m 11 ls [.int z]) e0) ?_
  exact hret _ _ _ _ (by rw [← e1]; exact hP) hS dX2_clear_11
abbrev rm_X2_isSomebody : Room := { frames := 1, cells := 0, slots := 0, locals := 22 }
set_option maxHeartbeats 4000000 in
set_option maxRecDepth 100000 in
theorem c_X2_isSomebody (l : Launch) (dC : Nat → ClassId) (dI : Nat → Nat → Nat) (cI cZ : ClassId) (sz : Nat) (x0 : Int32) (r_ : Int32) (hf : f_X2_isSomebody x0 = some r_) : Met l yX2_isSomebody wsX2_isSomebody rm_X2_isSomebody (va_Pc [.int x0] (PU (dC, dI) cI cZ [] sz)) (va_Qi (fun (r : Int32) (_ : Unit) => r = r_) (fun _ t => va_P (dC, dI) vwCl [] t.heap) (va_A [] sz)) 0 0 (va_A [] sz) := by
  refine MetZ (cc := cX2_isSomebody) (maxL := 1) (by decide) rfl (Nat.le_of_ble_eq_true rfl) (fun _ h => h) ?_
  intro p e s m args below meth c A Q ls hx CF hK hA hD hP hS hl hB hAe hsz hret
  have hb := CF.2.1
  have hml := CF.2.2.1
  have hown := CF.2.2.2.1
  have hts := CF.2.2.2.2
  have hD0 := hD
  replace hl : lv_has ls 1 [(0, .int x0)] := hl
  have w_0 := hts (.initialized RX7) (by decide +kernel)
  have w_1 := hts (.static yX7_isBetween) (by decide +kernel)
  have h_35 : ∀ (H : Heap) (locs : List Loc) (ls : Array Slot), va_P (dC, dI) vwCl [] H → va_S A s.heap H locs → lv_has ls 1 [] → J_X2_isSomebody_35 = some r_ → W p l e rm_X2_isSomebody s m args below meth c H locs 0 0 Q (F0 m 35 ls []) := by
    intro  H locs ls hP hS hl hf
    have hD : va_D A [] := wd hD0 rfl
    rw [J_X2_isSomebody_35] at hf
    refine lv_iconst (v := 0) hx hb dX2_isSomebody_35 (by decide) ?_
    have e0 := ij1 hf
    refine W.eq (congrArg (fun z => F0 m 36 ls [.int z]) e0) ?_
    exact hret _ _ _ _ hP hS (by rw [← e0]; rfl) dX2_isSomebody_36
  rw [f_X2_isSomebody] at hf
  refine lv_iload_n hx hb dX2_isSomebody_0 rfl (lv_at hl 0 rfl) ?_
  refine lv_bipush (v := 100) hx hb dX2_isSomebody_1 (by decide) ?_
  refine lv_idiv hx hb dX2_isSomebody_3 (by decide) ?_
  refine lv_iconst (v := 2) hx hb dX2_isSomebody_4 (by decide) ?_
  refine lv_icmp_eq (tgt := 35) hx hb dX2_isSomebody_5 (by decide) (fun hc => ?_) (fun hc => ?_)
  · replace hf := ip hc hf
    exact h_35 _ _ _ hP hS (lv_sub hl [] rfl) hf
  · replace hf := iq hc hf
    refine lv_iload_n hx hb dX2_isSomebody_8 rfl (lv_at hl 0 rfl) ?_
    refine lv_bipush (v := 10) hx hb dX2_isSomebody_9 (by decide) ?_
    refine lv_idiv hx hb dX2_isSomebody_11 (by decide) ?_
    refine lv_bipush (v := 10) hx hb dX2_isSomebody_12 (by decide) ?_
    refine lv_irem hx hb dX2_isSomebody_14 (by decide) ?_
    refine lv_iconst (v := 1) hx hb dX2_isSomebody_15 (by decide) ?_
    refine lv_icmp_lt (tgt := 35) hx hb dX2_isSomebody_16 (by decide) (fun hc => ?_) (fun hc => ?_)
    · replace hf := ip hc hf
      exact h_35 _ _ _ hP hS (lv_sub hl [] rfl) hf
    · replace hf := iq hc hf
      refine lv_iload_n hx hb dX2_isSomebody_19 rfl (lv_at hl 0 rfl) ?_
      refine lv_bipush (v := 10) hx hb dX2_isSomebody_20 (by decide) ?_
      refine lv_irem hx hb dX2_isSomebody_22 (by decide) ?_
      refine lv_iconst (v := 1) hx hb dX2_isSomebody_23 (by decide) ?_
      refine lv_iconst (v := 4) hx hb dX2_isSomebody_24 (by decide) ?_
      obtain ⟨r1, e3, hf⟩ := bd_ok hf
      refine kNi (As := [.int (x0 - x0 / 10 * 10), .int 1, .int 4]) CF ⟨va_cnB 3 hts gX2_isSomebody_X7_isBetween_n33 rfl rfl rfl (nw_X2_33 hK.2) w_0 (by decide +kernel) ⟨Nat.le_of_ble_eq_true rfl, Nat.le_of_ble_eq_true rfl⟩, w_1, trivial⟩ PU_blind hP hD hS hA [] (fun h1 h2 h3 => PU_pre hK h1 A h2 h3) (c_X7_isBetween l dC dI cI cZ _ (x0 - x0 / 10 * 10) 1 4 r1 e3) rfl rfl rfl rfl hl.1 rfl (Nat.le_of_ble_eq_true rfl) dX2_isSomebody_25 ⟨Nat.zero_le _, Nat.zero_le _⟩ (fun H locs hP hS => ?_)
      replace hP : va_P (dC, dI) vwCl [] H := hP
      refine lv_if_eq (tgt := 35) hx hb dX2_isSomebody_28 (by decide) (fun hc => ?_) (fun hc => ?_)
      · replace hf := ip hc hf
        exact h_35 _ _ _ hP hS (lv_sub hl [] rfl) hf
      · replace hf := iq hc hf
        refine lv_iconst (v := 1) hx hb dX2_isSomebody_31 (by decide) ?_
        refine lv_goto (tgt := 36) hx hb dX2_isSomebody_32 (by decide) ?_
        have e0 := ij1 hf
        refine W.eq (congrArg (fun z => F0 m 36 ls [.int z]) e0) ?_
        exact hret _ _ _ _ hP hS (by rw [← e0]; rfl) dX2_isSomebody_36
abbrev rm_X2_fitsAll : Room := { frames := 1, cells := 0, slots := 0, locals := 24 }
set_option maxHeartbeats 4000000 in
set_option maxRecDepth 100000 in
theorem c_X2_fitsAll (l : Launch) (dC : Nat → ClassId) (dI : Nat → Nat → Nat) (cI cZ : ClassId) (q_t q_t_times q_t_treads : Nat) (sz : Nat) (t_count : Int32) (t_times : Nat → Int32) (t_treads : Nat → Int32) (x1 : Int32) (r_ : Int32) (hf : f_X2_fitsAll x1 t_count t_times t_treads = some r_) : Met l yX2_fitsAll wsX2_fitsAll rm_X2_fitsAll (va_Pc [.ref q_t, .int x1] (PU (dC, dI) cI cZ [(q_t, .inr (2, [.ref q_t_times, .ref q_t_treads, .int t_count])), (q_t_times, .inl (cI, 6, .inl t_times)), (q_t_treads, .inl (cI, 6, .inl t_treads))] sz)) (va_Qi (fun (r : Int32) (_ : Unit) => r = r_) (fun _ t => va_P (dC, dI) vwCl [(q_t, .inr (2, [.ref q_t_times, .ref q_t_treads, .int t_count])), (q_t_times, .inl (cI, 6, .inl t_times)), (q_t_treads, .inl (cI, 6, .inl t_treads))] t.heap) (va_A [(q_t, .inr (2, [.ref q_t_times, .ref q_t_treads, .int t_count])), (q_t_times, .inl (cI, 6, .inl t_times)), (q_t_treads, .inl (cI, 6, .inl t_treads))] sz)) 0 0 (va_A [(q_t, .inr (2, [.ref q_t_times, .ref q_t_treads, .int t_count])), (q_t_times, .inl (cI, 6, .inl t_times)), (q_t_treads, .inl (cI, 6, .inl t_treads))] sz) := by
  refine MetZ (cc := cX2_fitsAll) (maxL := 3) (by decide) rfl (Nat.le_of_ble_eq_true rfl) (fun _ h => h) ?_
  intro p e s m args below meth c A Q ls hx CF hK hA hD hP hS hl hB hAe hsz hret
  have hb := CF.2.1
  have hml := CF.2.2.1
  have hown := CF.2.2.2.1
  have hts := CF.2.2.2.2
  have hD0 := hD
  replace hl : lv_has ls 3 [(0, .ref q_t), (1, .int x1)] := hl
  have hinX2 : ∀ w ∈ wsX20, w ∈ wsX2_fitsAll := fun _ h => List.mem_cons_of_mem _ (List.mem_append_right _ h)
  have w_0 := hts (.fieldLink RX2 18 "PassInStep$Marks" "count" "I") (by decide +kernel)
  have w_1 := hts (.fieldLink RX2 9 "PassInStep$Marks" "times" "[I") (by decide +kernel)
  have w_2 := hts (.initialized RX7) (by decide +kernel)
  have w_3 := hts (.static yX7_at) (by decide +kernel)
  have w_4 := hts (.static yX7_treadAlone) (by decide +kernel)
  have w_5 := hts (.fieldLink RX2 15 "PassInStep$Marks" "treads" "[I") (by decide +kernel)
  have h_2 : ∀ (x1 : Int32) (fu2 : Nat) (x2 : Int32) (H : Heap) (locs : List Loc) (ls : Array Slot), va_P (dC, dI) vwCl [(q_t, .inr (2, [.ref q_t_times, .ref q_t_treads, .int t_count])), (q_t_times, .inl (cI, 6, .inl t_times)), (q_t_treads, .inl (cI, 6, .inl t_treads))] H → va_S A s.heap H locs → lv_has ls 3 [(0, .ref q_t), (1, .int x1), (2, .int x2)] → L_X2_fitsAll_2 x1 t_count t_times t_treads fu2 x2 = some r_ → W p l e rm_X2_fitsAll s m args below meth c H locs 0 0 Q (F0 m 2 ls []) := by
    intro x1 fu2
    induction fu2 with
    | zero =>
      intro x2 H locs ls hP hS hl hf
      rw [L_X2_fitsAll_2] at hf
      cases hf
    | succ fu2 ih2 =>
      intro x2 H locs ls hP hS hl hf
      have hD : va_D A [(q_t, .inr (2, [.ref q_t_times, .ref q_t_treads, .int t_count])), (q_t_times, .inl (cI, 6, .inl t_times)), (q_t_treads, .inl (cI, 6, .inl t_treads))] := wd hD0 rfl
      rw [L_X2_fitsAll_2] at hf
      refine lv_iload_n hx hb dX2_fitsAll_2 rfl (lv_at hl 2 rfl) ?_
      refine lv_aload_n hx hb dX2_fitsAll_3 rfl (lv_at hl 0 rfl) ?_
      refine va_get (D := (dC, dI)) (ci := 2) (v := .int t_count) (C := RX2) (T := TX2) (N := 3) hx hb hts hinX2 hown hK.1 hP 0 rfl rfl 2 (by decide) w_0 (fun _ h9 => h9) rfl dX2_fitsAll_4 ?_
      refine lv_icmp_ge (tgt := 55) hx hb dX2_fitsAll_7 (by decide) (fun hc => ?_) (fun hc => ?_)
      · replace hf := ip hc hf
        refine lv_iconst (v := 1) hx hb dX2_fitsAll_55 (by decide) ?_
        have e0 := ij1 hf
        refine W.eq (congrArg (fun z => F0 m 56 ls [.int z]) e0) ?_
        exact hret _ _ _ _ hP hS (by rw [← e0]; rfl) dX2_fitsAll_56
      · replace hf := iq hc hf
        refine lv_iload_n hx hb dX2_fitsAll_10 rfl (lv_at hl 1 rfl) ?_
        refine lv_bipush (v := 100) hx hb dX2_fitsAll_11 (by decide) ?_
        refine lv_idiv hx hb dX2_fitsAll_13 (by decide) ?_
        refine lv_iload_n hx hb dX2_fitsAll_14 rfl (lv_at hl 1 rfl) ?_
        refine lv_bipush (v := 10) hx hb dX2_fitsAll_15 (by decide) ?_
        refine lv_idiv hx hb dX2_fitsAll_17 (by decide) ?_
        refine lv_bipush (v := 10) hx hb dX2_fitsAll_18 (by decide) ?_
        refine lv_irem hx hb dX2_fitsAll_20 (by decide) ?_
        refine lv_iload_n hx hb dX2_fitsAll_21 rfl (lv_at hl 1 rfl) ?_
        refine lv_bipush (v := 10) hx hb dX2_fitsAll_22 (by decide) ?_
        refine lv_irem hx hb dX2_fitsAll_24 (by decide) ?_
        refine lv_aload_n hx hb dX2_fitsAll_25 rfl (lv_at hl 0 rfl) ?_
        refine va_get (D := (dC, dI)) (ci := 2) (v := .ref q_t_times) (C := RX2) (T := TX2) (N := 3) hx hb hts hinX2 hown hK.1 hP 0 rfl rfl 0 (by decide) w_1 (fun _ h9 => h9) rfl dX2_fitsAll_26 ?_
        refine lv_iload_n hx hb dX2_fitsAll_29 rfl (lv_at hl 2 rfl) ?_
        obtain ⟨r1, e3, hf⟩ := bd_ok hf
        refine kNi (As := [.ref q_t_times, .int x2]) CF ⟨va_cnB 2 hts gX2_fitsAll_X7_at_n37 rfl rfl rfl (nw_X2_37 hK.2) w_2 (by decide +kernel) ⟨Nat.le_of_ble_eq_true rfl, Nat.le_of_ble_eq_true rfl⟩, w_3, trivial⟩ PU_blind hP hD hS hA [1] (fun h1 h2 h3 => PU_pre hK h1 A h2 h3) (c_X7_at l dC dI cI cZ q_t_times _ t_times 6 x2 r1 e3) rfl rfl rfl rfl hl.1 rfl (Nat.le_of_ble_eq_true rfl) dX2_fitsAll_30 ⟨Nat.zero_le _, Nat.zero_le _⟩ (fun H locs hP hS => ?_)
        replace hP : va_P (dC, dI) vwCl [(q_t, .inr (2, [.ref q_t_times, .ref q_t_treads, .int t_count])), (q_t_times, .inl (cI, 6, .inl t_times)), (q_t_treads, .inl (cI, 6, .inl t_treads))] H := hP
        obtain ⟨r4, e6, hf⟩ := bd_ok hf
        refine kNi (As := [.int (x1 / 100), .int ((x1 / 10) - (x1 / 10) / 10 * 10), .int (x1 - x1 / 10 * 10), .int r1]) CF ⟨va_cnB 4 hts gX2_fitsAll_X7_treadAlone_n41 rfl rfl rfl (nw_X2_41 hK.2) w_2 (by decide +kernel) ⟨Nat.le_of_ble_eq_true rfl, Nat.le_of_ble_eq_true rfl⟩, w_4, trivial⟩ PU_blind hP hD hS hA [] (fun h1 h2 h3 => PU_pre hK h1 A h2 h3) (c_X7_treadAlone l dC dI cI cZ _ (x1 / 100) ((x1 / 10) - (x1 / 10) / 10 * 10) (x1 - x1 / 10 * 10) r1 r4 e6) rfl rfl rfl rfl hl.1 rfl (Nat.le_of_ble_eq_true rfl) dX2_fitsAll_33 ⟨Nat.zero_le _, Nat.zero_le _⟩ (fun H locs hP hS => ?_)
        replace hP : va_P (dC, dI) vwCl [(q_t, .inr (2, [.ref q_t_times, .ref q_t_treads, .int t_count])), (q_t_times, .inl (cI, 6, .inl t_times)), (q_t_treads, .inl (cI, 6, .inl t_treads))] H := hP
        refine lv_aload_n hx hb dX2_fitsAll_36 rfl (lv_at hl 0 rfl) ?_
        refine va_get (D := (dC, dI)) (ci := 2) (v := .ref q_t_treads) (C := RX2) (T := TX2) (N := 3) hx hb hts hinX2 hown hK.1 hP 0 rfl rfl 1 (by decide) w_5 (fun _ h9 => h9) rfl dX2_fitsAll_37 ?_
        refine lv_iload_n hx hb dX2_fitsAll_40 rfl (lv_at hl 2 rfl) ?_
        obtain ⟨r7, e9, hf⟩ := bd_ok hf
        refine kNi (As := [.ref q_t_treads, .int x2]) CF ⟨va_cnB 2 hts gX2_fitsAll_X7_at_n37 rfl rfl rfl (nw_X2_37 hK.2) w_2 (by decide +kernel) ⟨Nat.le_of_ble_eq_true rfl, Nat.le_of_ble_eq_true rfl⟩, w_3, trivial⟩ PU_blind hP hD hS hA [2] (fun h1 h2 h3 => PU_pre hK h1 A h2 h3) (c_X7_at l dC dI cI cZ q_t_treads _ t_treads 6 x2 r7 e9) rfl rfl rfl rfl hl.1 rfl (Nat.le_of_ble_eq_true rfl) dX2_fitsAll_41 ⟨Nat.zero_le _, Nat.zero_le _⟩ (fun H locs hP hS => ?_)
        replace hP : va_P (dC, dI) vwCl [(q_t, .inr (2, [.ref q_t_times, .ref q_t_treads, .int t_count])), (q_t_times, .inl (cI, 6, .inl t_times)), (q_t_treads, .inl (cI, 6, .inl t_treads))] H := hP
        refine lv_icmp_eq (tgt := 49) hx hb dX2_fitsAll_44 (by decide) (fun hc => ?_) (fun hc => ?_)
        · replace hf := ip hc hf
          refine lv_iinc (v := (x2 + 1)) (lv' := [(2, .int (x2 + 1)), (0, .ref q_t), (1, .int x1)]) hx hb dX2_fitsAll_49 hl (k := 2) rfl rfl (by decide) rfl (fun ls hl => ?_)
          refine lv_goto (tgt := 2) hx hb dX2_fitsAll_52 (by decide) ?_
          exact ih2 (x2 + 1) _ _ _ hP hS (lv_sub hl [1, 2, 0] rfl) hf
        · replace hf := iq hc hf
          refine lv_iconst (v := 0) hx hb dX2_fitsAll_47 (by decide) ?_
          have e0 := ij1 hf
          refine W.eq (congrArg (fun z => F0 m 48 ls [.int z]) e0) ?_
          exact hret _ _ _ _ hP hS (by rw [← e0]; rfl) dX2_fitsAll_48
  rw [f_X2_fitsAll] at hf
  refine lv_iconst (v := 0) hx hb dX2_fitsAll_0 (by decide) ?_
  refine lv_istore_n (lv' := [(2, .int 0), (0, .ref q_t), (1, .int x1)]) hx hb dX2_fitsAll_1 rfl hl (by decide) rfl (fun ls hl => ?_)
  exact h_2 x1 fuelC 0 _ _ _ hP hS (lv_sub hl [1, 2, 0] rfl) hf
abbrev rm_X2_fitting : Room := { frames := 2, cells := 0, slots := 0, locals := 46 }
set_option maxHeartbeats 4000000 in
set_option maxRecDepth 100000 in
theorem c_X2_fitting (l : Launch) (dC : Nat → ClassId) (dI : Nat → Nat → Nat) (cI cZ : ClassId) (q_t q_t_times q_t_treads : Nat) (sz : Nat) (t_count : Int32) (t_times : Nat → Int32) (t_treads : Nat → Int32) (r_ : Int32) (hf : f_X2_fitting t_count t_times t_treads = some r_) : Met l yX2_fitting wsX2_fitting rm_X2_fitting (va_Pc [.ref q_t] (PU (dC, dI) cI cZ [(q_t, .inr (2, [.ref q_t_times, .ref q_t_treads, .int t_count])), (q_t_times, .inl (cI, 6, .inl t_times)), (q_t_treads, .inl (cI, 6, .inl t_treads))] sz)) (va_Qi (fun (r : Int32) (_ : Unit) => r = r_) (fun _ t => va_P (dC, dI) vwCl [(q_t, .inr (2, [.ref q_t_times, .ref q_t_treads, .int t_count])), (q_t_times, .inl (cI, 6, .inl t_times)), (q_t_treads, .inl (cI, 6, .inl t_treads))] t.heap) (va_A [(q_t, .inr (2, [.ref q_t_times, .ref q_t_treads, .int t_count])), (q_t_times, .inl (cI, 6, .inl t_times)), (q_t_treads, .inl (cI, 6, .inl t_treads))] sz)) 0 0 (va_A [(q_t, .inr (2, [.ref q_t_times, .ref q_t_treads, .int t_count])), (q_t_times, .inl (cI, 6, .inl t_times)), (q_t_treads, .inl (cI, 6, .inl t_treads))] sz) := by
  refine MetI (cc := cX2_fitting) (maxL := 3) (by decide) rfl (Nat.le_of_ble_eq_true rfl) (fun _ h => h) ?_
  intro p e s m args below meth c A Q ls hx CF hK hA hD hP hS hl hB hAe hsz hret
  have hb := CF.2.1
  have hml := CF.2.2.1
  have hown := CF.2.2.2.1
  have hts := CF.2.2.2.2
  have hD0 := hD
  replace hl : lv_has ls 3 [(0, .ref q_t)] := hl
  have hinX2 : ∀ w ∈ wsX20, w ∈ wsX2_fitting := fun _ h => List.mem_cons_of_mem _ (List.mem_append_right _ h)
  have h_4 : ∀ (fu4 : Nat) (x1 : Int32) (x2 : Int32) (H : Heap) (locs : List Loc) (ls : Array Slot), va_P (dC, dI) vwCl [(q_t, .inr (2, [.ref q_t_times, .ref q_t_treads, .int t_count])), (q_t_times, .inl (cI, 6, .inl t_times)), (q_t_treads, .inl (cI, 6, .inl t_treads))] H → va_S A s.heap H locs → lv_has ls 3 [(0, .ref q_t), (1, .int x1), (2, .int x2)] → L_X2_fitting_4 t_count t_times t_treads fu4 x1 x2 = some r_ → W p l e rm_X2_fitting s m args below meth c H locs 0 0 Q (F0 m 4 ls []) := by
    intro fu4
    induction fu4 with
    | zero =>
      intro x1 x2 H locs ls hP hS hl hf
      rw [L_X2_fitting_4] at hf
      cases hf
    | succ fu4 ih4 =>
      have h_32 : ∀ (x2 : Int32) (s0 : Int32) (s1 : Int32) (H : Heap) (locs : List Loc) (ls : Array Slot), va_P (dC, dI) vwCl [(q_t, .inr (2, [.ref q_t_times, .ref q_t_treads, .int t_count])), (q_t_times, .inl (cI, 6, .inl t_times)), (q_t_treads, .inl (cI, 6, .inl t_treads))] H → va_S A s.heap H locs → lv_has ls 3 [(0, .ref q_t), (2, .int x2)] → J_X2_fitting_32 (L_X2_fitting_4 t_count t_times t_treads fu4) x2 s0 s1 = some r_ → W p l e rm_X2_fitting s m args below meth c H locs 0 0 Q (F0 m 32 ls [.int s0, .int s1]) := by
        intro x2 s0 s1 H locs ls hP hS hl hf
        have hD : va_D A [(q_t, .inr (2, [.ref q_t_times, .ref q_t_treads, .int t_count])), (q_t_times, .inl (cI, 6, .inl t_times)), (q_t_treads, .inl (cI, 6, .inl t_treads))] := wd hD0 rfl
        rw [J_X2_fitting_32] at hf
        refine lv_iadd hx hb dX2_fitting_32 ?_
        refine lv_istore_n (lv' := [(1, .int (s1 + s0)), (0, .ref q_t), (2, .int x2)]) hx hb dX2_fitting_33 rfl hl (by decide) rfl (fun ls hl => ?_)
        refine lv_iinc (v := (x2 + 1)) (lv' := [(2, .int (x2 + 1)), (1, .int (s1 + s0)), (0, .ref q_t)]) hx hb dX2_fitting_34 hl (k := 2) rfl rfl (by decide) rfl (fun ls hl => ?_)
        refine lv_goto (tgt := 4) hx hb dX2_fitting_37 (by decide) ?_
        exact ih4 (s1 + s0) (x2 + 1) _ _ _ hP hS (lv_sub hl [2, 1, 0] rfl) hf
      have h_31 : ∀ (x2 : Int32) (s0 : Int32) (H : Heap) (locs : List Loc) (ls : Array Slot), va_P (dC, dI) vwCl [(q_t, .inr (2, [.ref q_t_times, .ref q_t_treads, .int t_count])), (q_t_times, .inl (cI, 6, .inl t_times)), (q_t_treads, .inl (cI, 6, .inl t_treads))] H → va_S A s.heap H locs → lv_has ls 3 [(0, .ref q_t), (2, .int x2)] → J_X2_fitting_31 (L_X2_fitting_4 t_count t_times t_treads fu4) x2 s0 = some r_ → W p l e rm_X2_fitting s m args below meth c H locs 0 0 Q (F0 m 31 ls [.int s0]) := by
        intro x2 s0 H locs ls hP hS hl hf
        have hD : va_D A [(q_t, .inr (2, [.ref q_t_times, .ref q_t_treads, .int t_count])), (q_t_times, .inl (cI, 6, .inl t_times)), (q_t_treads, .inl (cI, 6, .inl t_treads))] := wd hD0 rfl
        rw [J_X2_fitting_31] at hf
        refine lv_iconst (v := 0) hx hb dX2_fitting_31 (by decide) ?_
        exact h_32 x2 0 s0 _ _ _ hP hS (lv_sub hl [0, 1] rfl) hf
      intro x1 x2 H locs ls hP hS hl hf
      have hD : va_D A [(q_t, .inr (2, [.ref q_t_times, .ref q_t_treads, .int t_count])), (q_t_times, .inl (cI, 6, .inl t_times)), (q_t_treads, .inl (cI, 6, .inl t_treads))] := wd hD0 rfl
      rw [L_X2_fitting_4] at hf
      refine lv_iload_n hx hb dX2_fitting_4 rfl (lv_at hl 2 rfl) ?_
      refine lv_sipush (v := 400) hx hb dX2_fitting_5 (by decide) ?_
      refine lv_icmp_ge (tgt := 40) hx hb dX2_fitting_8 (by decide) (fun hc => ?_) (fun hc => ?_)
      · replace hf := ip hc hf
        refine lv_iload_n hx hb dX2_fitting_40 rfl (lv_at hl 1 rfl) ?_
        have e0 := ij1 hf
        refine W.eq (congrArg (fun z => F0 m 41 ls [.int z]) e0) ?_
        exact hret _ _ _ _ hP hS dX2_fitting_41
      · replace hf := iq hc hf
        refine lv_iload_n hx hb dX2_fitting_11 rfl (lv_at hl 1 rfl) ?_
        refine lv_iload_n hx hb dX2_fitting_12 rfl (lv_at hl 2 rfl) ?_
        obtain ⟨r1, e3, hf⟩ := bd_ok hf
        refine kSi (As := [.int x2]) CF (va_cwS 1 hts gX2_fitting_X2_isSomebody rfl rfl rfl (by decide +kernel) ⟨Nat.le_of_ble_eq_true rfl, Nat.le_of_ble_eq_true rfl⟩) PU_blind hP hD hS hA [] (fun h1 h2 h3 => PU_pre hK h1 A h2 h3) (c_X2_isSomebody l dC dI cI cZ _ x2 r1 e3) rfl rfl rfl rfl hl.1 rfl (Nat.le_of_ble_eq_true rfl) dX2_fitting_13 ⟨Nat.zero_le _, Nat.zero_le _⟩ (fun H locs hP hS => ?_)
        replace hP : va_P (dC, dI) vwCl [(q_t, .inr (2, [.ref q_t_times, .ref q_t_treads, .int t_count])), (q_t_times, .inl (cI, 6, .inl t_times)), (q_t_treads, .inl (cI, 6, .inl t_treads))] H := hP
        refine lv_if_eq (tgt := 31) hx hb dX2_fitting_16 (by decide) (fun hc => ?_) (fun hc => ?_)
        · replace hf := ip hc hf
          exact h_31 x2 x1 _ _ _ hP hS (lv_sub hl [0, 2] rfl) hf
        · replace hf := iq hc hf
          refine lv_aload_n hx hb dX2_fitting_19 rfl (lv_at hl 0 rfl) ?_
          refine lv_iload_n hx hb dX2_fitting_20 rfl (lv_at hl 2 rfl) ?_
          obtain ⟨r4, e6, hf⟩ := bd_ok hf
          refine kVi (As := [.int x2]) CF (cwV 1 hts gX2_fitting_X2_fitsAll rfl rfl rfl (by decide +kernel) ⟨Nat.le_of_ble_eq_true rfl, Nat.le_of_ble_eq_true rfl⟩) PU_blind hP hD hS hA (va_recv hK.1 hP (ci := 2) (q0 := 0) rfl rfl) [0, 1, 2] (fun h1 h2 h3 => PU_pre hK h1 A h2 h3) (c_X2_fitsAll l dC dI cI cZ q_t q_t_times q_t_treads _ t_count t_times t_treads x2 r4 e6) rfl rfl rfl rfl hl.1 rfl (Nat.le_of_ble_eq_true rfl) dX2_fitting_21 ⟨Nat.zero_le _, Nat.zero_le _⟩ (fun H locs hP hS => ?_)
          replace hP : va_P (dC, dI) vwCl [(q_t, .inr (2, [.ref q_t_times, .ref q_t_treads, .int t_count])), (q_t_times, .inl (cI, 6, .inl t_times)), (q_t_treads, .inl (cI, 6, .inl t_treads))] H := hP
          refine lv_if_eq (tgt := 31) hx hb dX2_fitting_24 (by decide) (fun hc => ?_) (fun hc => ?_)
          · replace hf := ip hc hf
            exact h_31 x2 x1 _ _ _ hP hS (lv_sub hl [0, 2] rfl) hf
          · replace hf := iq hc hf
            refine lv_iconst (v := 1) hx hb dX2_fitting_27 (by decide) ?_
            refine lv_goto (tgt := 32) hx hb dX2_fitting_28 (by decide) ?_
            exact h_32 x2 1 x1 _ _ _ hP hS (lv_sub hl [0, 2] rfl) hf
  rw [f_X2_fitting] at hf
  refine lv_iconst (v := 0) hx hb dX2_fitting_0 (by decide) ?_
  refine lv_istore_n (lv' := [(1, .int 0), (0, .ref q_t)]) hx hb dX2_fitting_1 rfl hl (by decide) rfl (fun ls hl => ?_)
  refine lv_iconst (v := 0) hx hb dX2_fitting_2 (by decide) ?_
  refine lv_istore_n (lv' := [(2, .int 0), (1, .int 0), (0, .ref q_t)]) hx hb dX2_fitting_3 rfl hl (by decide) rfl (fun ls hl => ?_)
  exact h_4 fuelC 0 0 _ _ _ hP hS (lv_sub hl [2, 1, 0] rfl) hf
abbrev rm_X2_firstFitting : Room := { frames := 2, cells := 0, slots := 0, locals := 46 }
set_option maxHeartbeats 4000000 in
set_option maxRecDepth 100000 in
theorem c_X2_firstFitting (l : Launch) (dC : Nat → ClassId) (dI : Nat → Nat → Nat) (cI cZ : ClassId) (q_t q_t_times q_t_treads : Nat) (sz : Nat) (t_count : Int32) (t_times : Nat → Int32) (t_treads : Nat → Int32) (r_ : Int32) (hf : f_X2_firstFitting t_count t_times t_treads = some r_) : Met l yX2_firstFitting wsX2_firstFitting rm_X2_firstFitting (va_Pc [.ref q_t] (PU (dC, dI) cI cZ [(q_t, .inr (2, [.ref q_t_times, .ref q_t_treads, .int t_count])), (q_t_times, .inl (cI, 6, .inl t_times)), (q_t_treads, .inl (cI, 6, .inl t_treads))] sz)) (va_Qi (fun (r : Int32) (_ : Unit) => r = r_) (fun _ t => va_P (dC, dI) vwCl [(q_t, .inr (2, [.ref q_t_times, .ref q_t_treads, .int t_count])), (q_t_times, .inl (cI, 6, .inl t_times)), (q_t_treads, .inl (cI, 6, .inl t_treads))] t.heap) (va_A [(q_t, .inr (2, [.ref q_t_times, .ref q_t_treads, .int t_count])), (q_t_times, .inl (cI, 6, .inl t_times)), (q_t_treads, .inl (cI, 6, .inl t_treads))] sz)) 0 0 (va_A [(q_t, .inr (2, [.ref q_t_times, .ref q_t_treads, .int t_count])), (q_t_times, .inl (cI, 6, .inl t_times)), (q_t_treads, .inl (cI, 6, .inl t_treads))] sz) := by
  refine MetI (cc := cX2_firstFitting) (maxL := 2) (by decide) rfl (Nat.le_of_ble_eq_true rfl) (fun _ h => h) ?_
  intro p e s m args below meth c A Q ls hx CF hK hA hD hP hS hl hB hAe hsz hret
  have hb := CF.2.1
  have hml := CF.2.2.1
  have hown := CF.2.2.2.1
  have hts := CF.2.2.2.2
  have hD0 := hD
  replace hl : lv_has ls 2 [(0, .ref q_t)] := hl
  have hinX2 : ∀ w ∈ wsX20, w ∈ wsX2_firstFitting := fun _ h => List.mem_cons_of_mem _ (List.mem_append_right _ h)
  have h_2 : ∀ (fu2 : Nat) (x1 : Int32) (H : Heap) (locs : List Loc) (ls : Array Slot), va_P (dC, dI) vwCl [(q_t, .inr (2, [.ref q_t_times, .ref q_t_treads, .int t_count])), (q_t_times, .inl (cI, 6, .inl t_times)), (q_t_treads, .inl (cI, 6, .inl t_treads))] H → va_S A s.heap H locs → lv_has ls 2 [(0, .ref q_t), (1, .int x1)] → L_X2_firstFitting_2 t_count t_times t_treads fu2 x1 = some r_ → W p l e rm_X2_firstFitting s m args below meth c H locs 0 0 Q (F0 m 2 ls []) := by
    intro fu2
    induction fu2 with
    | zero =>
      intro x1 H locs ls hP hS hl hf
      rw [L_X2_firstFitting_2] at hf
      cases hf
    | succ fu2 ih2 =>
      have h_26 : ∀ (x1 : Int32) (H : Heap) (locs : List Loc) (ls : Array Slot), va_P (dC, dI) vwCl [(q_t, .inr (2, [.ref q_t_times, .ref q_t_treads, .int t_count])), (q_t_times, .inl (cI, 6, .inl t_times)), (q_t_treads, .inl (cI, 6, .inl t_treads))] H → va_S A s.heap H locs → lv_has ls 2 [(0, .ref q_t), (1, .int x1)] → J_X2_firstFitting_26 (L_X2_firstFitting_2 t_count t_times t_treads fu2) x1 = some r_ → W p l e rm_X2_firstFitting s m args below meth c H locs 0 0 Q (F0 m 26 ls []) := by
        intro x1 H locs ls hP hS hl hf
        have hD : va_D A [(q_t, .inr (2, [.ref q_t_times, .ref q_t_treads, .int t_count])), (q_t_times, .inl (cI, 6, .inl t_times)), (q_t_treads, .inl (cI, 6, .inl t_treads))] := wd hD0 rfl
        rw [J_X2_firstFitting_26] at hf
        refine lv_iinc (v := (x1 + 1)) (lv' := [(1, .int (x1 + 1)), (0, .ref q_t)]) hx hb dX2_firstFitting_26 hl (k := 1) rfl rfl (by decide) rfl (fun ls hl => ?_)
        refine lv_goto (tgt := 2) hx hb dX2_firstFitting_29 (by decide) ?_
        exact ih2 (x1 + 1) _ _ _ hP hS (lv_sub hl [1, 0] rfl) hf
      intro x1 H locs ls hP hS hl hf
      have hD : va_D A [(q_t, .inr (2, [.ref q_t_times, .ref q_t_treads, .int t_count])), (q_t_times, .inl (cI, 6, .inl t_times)), (q_t_treads, .inl (cI, 6, .inl t_treads))] := wd hD0 rfl
      rw [L_X2_firstFitting_2] at hf
      refine lv_iload_n hx hb dX2_firstFitting_2 rfl (lv_at hl 1 rfl) ?_
      refine lv_sipush (v := 400) hx hb dX2_firstFitting_3 (by decide) ?_
      refine lv_icmp_ge (tgt := 32) hx hb dX2_firstFitting_6 (by decide) (fun hc => ?_) (fun hc => ?_)
      · replace hf := ip hc hf
        refine lv_bipush (v := (-9)) hx hb dX2_firstFitting_32 (by decide) ?_
        have e0 := ij1 hf
        refine W.eq (congrArg (fun z => F0 m 34 ls [.int z]) e0) ?_
        exact hret _ _ _ _ hP hS dX2_firstFitting_34
      · replace hf := iq hc hf
        refine lv_iload_n hx hb dX2_firstFitting_9 rfl (lv_at hl 1 rfl) ?_
        obtain ⟨r1, e3, hf⟩ := bd_ok hf
        refine kSi (As := [.int x1]) CF (va_cwS 1 hts gX2_firstFitting_X2_isSomebody rfl rfl rfl (by decide +kernel) ⟨Nat.le_of_ble_eq_true rfl, Nat.le_of_ble_eq_true rfl⟩) PU_blind hP hD hS hA [] (fun h1 h2 h3 => PU_pre hK h1 A h2 h3) (c_X2_isSomebody l dC dI cI cZ _ x1 r1 e3) rfl rfl rfl rfl hl.1 rfl (Nat.le_of_ble_eq_true rfl) dX2_firstFitting_10 ⟨Nat.zero_le _, Nat.zero_le _⟩ (fun H locs hP hS => ?_)
        replace hP : va_P (dC, dI) vwCl [(q_t, .inr (2, [.ref q_t_times, .ref q_t_treads, .int t_count])), (q_t_times, .inl (cI, 6, .inl t_times)), (q_t_treads, .inl (cI, 6, .inl t_treads))] H := hP
        refine lv_if_eq (tgt := 26) hx hb dX2_firstFitting_13 (by decide) (fun hc => ?_) (fun hc => ?_)
        · replace hf := ip hc hf
          exact h_26 x1 _ _ _ hP hS (lv_sub hl [0, 1] rfl) hf
        · replace hf := iq hc hf
          refine lv_aload_n hx hb dX2_firstFitting_16 rfl (lv_at hl 0 rfl) ?_
          refine lv_iload_n hx hb dX2_firstFitting_17 rfl (lv_at hl 1 rfl) ?_
          obtain ⟨r4, e6, hf⟩ := bd_ok hf
          refine kVi (As := [.int x1]) CF (cwV 1 hts gX2_firstFitting_X2_fitsAll rfl rfl rfl (by decide +kernel) ⟨Nat.le_of_ble_eq_true rfl, Nat.le_of_ble_eq_true rfl⟩) PU_blind hP hD hS hA (va_recv hK.1 hP (ci := 2) (q0 := 0) rfl rfl) [0, 1, 2] (fun h1 h2 h3 => PU_pre hK h1 A h2 h3) (c_X2_fitsAll l dC dI cI cZ q_t q_t_times q_t_treads _ t_count t_times t_treads x1 r4 e6) rfl rfl rfl rfl hl.1 rfl (Nat.le_of_ble_eq_true rfl) dX2_firstFitting_18 ⟨Nat.zero_le _, Nat.zero_le _⟩ (fun H locs hP hS => ?_)
          replace hP : va_P (dC, dI) vwCl [(q_t, .inr (2, [.ref q_t_times, .ref q_t_treads, .int t_count])), (q_t_times, .inl (cI, 6, .inl t_times)), (q_t_treads, .inl (cI, 6, .inl t_treads))] H := hP
          refine lv_if_eq (tgt := 26) hx hb dX2_firstFitting_21 (by decide) (fun hc => ?_) (fun hc => ?_)
          · replace hf := ip hc hf
            exact h_26 x1 _ _ _ hP hS (lv_sub hl [0, 1] rfl) hf
          · replace hf := iq hc hf
            refine lv_iload_n hx hb dX2_firstFitting_24 rfl (lv_at hl 1 rfl) ?_
            have e0 := ij1 hf
            refine W.eq (congrArg (fun z => F0 m 25 ls [.int z]) e0) ?_
            exact hret _ _ _ _ hP hS dX2_firstFitting_25
  rw [f_X2_firstFitting] at hf
  refine lv_iconst (v := 0) hx hb dX2_firstFitting_0 (by decide) ?_
  refine lv_istore_n (lv' := [(1, .int 0), (0, .ref q_t)]) hx hb dX2_firstFitting_1 rfl hl (by decide) rfl (fun ls hl => ?_)
  exact h_2 fuelC 0 _ _ _ hP hS (lv_sub hl [1, 0] rfl) hf
abbrev rm_X5_figureAt : Room := { frames := 1, cells := 0, slots := 0, locals := 21 }
set_option maxHeartbeats 4000000 in
set_option maxRecDepth 100000 in
theorem c_X5_figureAt (l : Launch) (dC : Nat → ClassId) (dI : Nat → Nat → Nat) (cI cZ : ClassId) (q_t q_t_letters : Nat) (sz : Nat) (t_length : Int32) (t_letters : Nat → Int32) (x1 : Int32) (r_ : Int32) (hf : f_X5_figureAt x1 t_letters = some r_) : Met l yX5_figureAt wsX5_figureAt rm_X5_figureAt (va_Pc [.ref q_t, .int x1] (PU (dC, dI) cI cZ [(q_t, .inr (5, [.ref q_t_letters, .int t_length])), (q_t_letters, .inl (cI, 48, .inl t_letters))] sz)) (va_Qi (fun (r : Int32) (_ : Unit) => r = r_) (fun _ t => va_P (dC, dI) vwCl [(q_t, .inr (5, [.ref q_t_letters, .int t_length])), (q_t_letters, .inl (cI, 48, .inl t_letters))] t.heap) (va_A [(q_t, .inr (5, [.ref q_t_letters, .int t_length])), (q_t_letters, .inl (cI, 48, .inl t_letters))] sz)) 0 0 (va_A [(q_t, .inr (5, [.ref q_t_letters, .int t_length])), (q_t_letters, .inl (cI, 48, .inl t_letters))] sz) := by
  refine MetI (cc := cX5_figureAt) (maxL := 2) (by decide) rfl (Nat.le_of_ble_eq_true rfl) (fun _ h => h) ?_
  intro p e s m args below meth c A Q ls hx CF hK hA hD hP hS hl hB hAe hsz hret
  have hb := CF.2.1
  have hml := CF.2.2.1
  have hown := CF.2.2.2.1
  have hts := CF.2.2.2.2
  have hD0 := hD
  replace hl : lv_has ls 2 [(0, .ref q_t), (1, .int x1)] := hl
  have hinX5 : ∀ w ∈ wsX50, w ∈ wsX5_figureAt := fun _ h => List.mem_cons_of_mem _ (List.mem_append_right _ h)
  have w_0 := hts (.fieldLink RX5 9 "PassInStep$Text" "letters" "[I") (by decide +kernel)
  have w_1 := hts (.initialized RX7) (by decide +kernel)
  have w_2 := hts (.static yX7_at) (by decide +kernel)
  rw [f_X5_figureAt] at hf
  refine lv_aload_n hx hb dX5_figureAt_0 rfl (lv_at hl 0 rfl) ?_
  refine va_get (D := (dC, dI)) (ci := 5) (v := .ref q_t_letters) (C := RX5) (T := TX5) (N := 2) hx hb hts hinX5 hown hK.1 hP 0 rfl rfl 0 (by decide) w_0 (fun _ h9 => h9) rfl dX5_figureAt_1 ?_
  refine lv_iload_n hx hb dX5_figureAt_4 rfl (lv_at hl 1 rfl) ?_
  obtain ⟨r1, e3, hf⟩ := bd_ok hf
  refine kNi (As := [.ref q_t_letters, .int x1]) CF ⟨va_cnB 2 hts gX5_figureAt_X7_at_n23 rfl rfl rfl (nw_X5_23 hK.2) w_1 (by decide +kernel) ⟨Nat.le_of_ble_eq_true rfl, Nat.le_of_ble_eq_true rfl⟩, w_2, trivial⟩ PU_blind hP hD hS hA [1] (fun h1 h2 h3 => PU_pre hK h1 A h2 h3) (c_X7_at l dC dI cI cZ q_t_letters _ t_letters 48 x1 r1 e3) rfl rfl rfl rfl hl.1 rfl (Nat.le_of_ble_eq_true rfl) dX5_figureAt_5 ⟨Nat.zero_le _, Nat.zero_le _⟩ (fun H locs hP hS => ?_)
  replace hP : va_P (dC, dI) vwCl [(q_t, .inr (5, [.ref q_t_letters, .int t_length])), (q_t_letters, .inl (cI, 48, .inl t_letters))] H := hP
  refine lv_bipush (v := 48) hx hb dX5_figureAt_8 (by decide) ?_
  refine lv_isub hx hb dX5_figureAt_10 ?_
  have e0 := ij1 hf
  refine W.eq (congrArg (fun z => F0 m 11 ls [.int z]) e0) ?_
  exact hret _ _ _ _ hP hS dX5_figureAt_11
abbrev rm_X5_size : Room := { frames := 0, cells := 0, slots := 0, locals := 0 }
set_option maxHeartbeats 4000000 in
set_option maxRecDepth 100000 in
theorem c_X5_size (l : Launch) (dC : Nat → ClassId) (dI : Nat → Nat → Nat) (cI cZ : ClassId) (q_t q_t_letters : Nat) (sz : Nat) (t_length : Int32) (r_ : Int32) (hf : f_X5_size t_length = some r_) : Met l yX5_size wsX5_size rm_X5_size (va_Pc [.ref q_t] (PU (dC, dI) cI cZ [(q_t, .inr (5, [.ref q_t_letters, .int t_length]))] sz)) (va_Qi (fun (r : Int32) (_ : Unit) => r = r_) (fun _ t => va_P (dC, dI) vwCl [(q_t, .inr (5, [.ref q_t_letters, .int t_length]))] t.heap) (va_A [(q_t, .inr (5, [.ref q_t_letters, .int t_length]))] sz)) 0 0 (va_A [(q_t, .inr (5, [.ref q_t_letters, .int t_length]))] sz) := by
  refine MetI (cc := cX5_size) (maxL := 1) (by decide) rfl (Nat.le_of_ble_eq_true rfl) (fun _ h => h) ?_
  intro p e s m args below meth c A Q ls hx CF hK hA hD hP hS hl hB hAe hsz hret
  have hb := CF.2.1
  have hml := CF.2.2.1
  have hown := CF.2.2.2.1
  have hts := CF.2.2.2.2
  have hD0 := hD
  replace hl : lv_has ls 1 [(0, .ref q_t)] := hl
  have hinX5 : ∀ w ∈ wsX50, w ∈ wsX5_size := fun _ h => List.mem_cons_of_mem _ (List.mem_append_right _ h)
  have w_0 := hts (.fieldLink RX5 15 "PassInStep$Text" "length" "I") (by decide +kernel)
  rw [f_X5_size] at hf
  refine lv_aload_n hx hb dX5_size_0 rfl (lv_at hl 0 rfl) ?_
  refine va_get (D := (dC, dI)) (ci := 5) (v := .int t_length) (C := RX5) (T := TX5) (N := 2) hx hb hts hinX5 hown hK.1 hP 0 rfl rfl 1 (by decide) w_0 (fun _ h9 => h9) rfl dX5_size_1 ?_
  have e0 := ij1 hf
  refine W.eq (congrArg (fun z => F0 m 4 ls [.int z]) e0) ?_
  exact hret _ _ _ _ hP hS dX5_size_4
abbrev rm_X3_readFrom : Room := { frames := 2, cells := 0, slots := 0, locals := 42 }
set_option maxHeartbeats 4000000 in
set_option maxRecDepth 100000 in
theorem c_X3_readFrom (l : Launch) (dC : Nat → ClassId) (dI : Nat → Nat → Nat) (cI cZ : ClassId) (q_a1 q_a1_letters q_t q_t_beats q_t_kinds : Nat) (sz : Nat) (a1_length : Int32) (a1_letters : Nat → Int32) (t_count : Int32) (t_depth : Int32) (t_noon : Int32) (t_depthBehind : Int32) (t_beats : Nat → Int32) (t_kinds : Nat → Int32) (o_t_count : Int32) (o_t_depth : Int32) (o_t_noon : Int32) (o_t_depthBehind : Int32) (o_t_beats : Nat → Int32) (o_t_kinds : Nat → Int32) (hf : f_X3_readFrom a1_length a1_letters t_count t_depth t_noon t_depthBehind t_beats t_kinds = some (o_t_count, o_t_depth, o_t_noon, o_t_depthBehind, o_t_beats, o_t_kinds)) : Met l yX3_readFrom wsX3_readFrom rm_X3_readFrom (va_Pc [.ref q_t, .ref q_a1] (PU (dC, dI) cI cZ [(q_a1, .inr (5, [.ref q_a1_letters, .int a1_length])), (q_a1_letters, .inl (cI, 48, .inl a1_letters)), (q_t, .inr (3, [.ref q_t_beats, .ref q_t_kinds, .int t_count, .int t_depth, .int t_noon, .int t_depthBehind])), (q_t_beats, .inl (cI, 5, .inl t_beats)), (q_t_kinds, .inl (cI, 5, .inl t_kinds))] sz)) (va_Qv (fun (_ : Unit) => True) (fun _ t => va_P (dC, dI) vwCl [(q_a1, .inr (5, [.ref q_a1_letters, .int a1_length])), (q_a1_letters, .inl (cI, 48, .inl a1_letters)), (q_t, .inr (3, [.ref q_t_beats, .ref q_t_kinds, .int o_t_count, .int o_t_depth, .int o_t_noon, .int o_t_depthBehind])), (q_t_beats, .inl (cI, 5, .inl o_t_beats)), (q_t_kinds, .inl (cI, 5, .inl o_t_kinds))] t.heap) (va_A [(q_a1, .inr (5, [.ref q_a1_letters, .int a1_length])), (q_a1_letters, .inl (cI, 48, .inl a1_letters)), (q_t, .inr (3, [.ref q_t_beats, .ref q_t_kinds, .int t_count, .int t_depth, .int t_noon, .int t_depthBehind])), (q_t_beats, .inl (cI, 5, .inl t_beats)), (q_t_kinds, .inl (cI, 5, .inl t_kinds))] sz)) 0 0 (va_A [(q_a1, .inr (5, [.ref q_a1_letters, .int a1_length])), (q_a1_letters, .inl (cI, 48, .inl a1_letters)), (q_t, .inr (3, [.ref q_t_beats, .ref q_t_kinds, .int t_count, .int t_depth, .int t_noon, .int t_depthBehind])), (q_t_beats, .inl (cI, 5, .inl t_beats)), (q_t_kinds, .inl (cI, 5, .inl t_kinds))] sz) := by
  refine MetV (cc := cX3_readFrom) (maxL := 3) (by decide) rfl (Nat.le_of_ble_eq_true rfl) (fun _ h => h) ?_
  intro p e s m args below meth c A Q ls hx CF hK hA hD hP hS hl hB hAe hsz hret
  have hb := CF.2.1
  have hml := CF.2.2.1
  have hown := CF.2.2.2.1
  have hts := CF.2.2.2.2
  have hD0 := hD
  replace hl : lv_has ls 3 [(0, .ref q_t), (1, .ref q_a1)] := hl
  have hinX3 : ∀ w ∈ wsX30, w ∈ wsX3_readFrom := fun _ h => List.mem_cons_of_mem _ (List.mem_append_left _ (List.mem_append_right _ h))
  have hinX5 : ∀ w ∈ wsX50, w ∈ wsX3_readFrom := fun _ h => List.mem_cons_of_mem _ (List.mem_append_right _ h)
  have w_0 := hts (.fieldLink RX3 47 "PassInStep$Party" "count" "I") (by decide +kernel)
  have w_1 := hts (.fieldLink RX3 9 "PassInStep$Party" "beats" "[I") (by decide +kernel)
  have w_2 := hts (.initialized RX7) (by decide +kernel)
  have w_3 := hts (.static yX7_put) (by decide +kernel)
  have w_4 := hts (.fieldLink RX3 15 "PassInStep$Party" "kinds" "[I") (by decide +kernel)
  have w_5 := hts (.fieldLink RX3 18 "PassInStep$Party" "depth" "I") (by decide +kernel)
  have w_6 := hts (.fieldLink RX3 31 "PassInStep$Party" "noon" "I") (by decide +kernel)
  have w_7 := hts (.fieldLink RX3 22 "PassInStep$Party" "depthBehind" "I") (by decide +kernel)
  have w_8 := hts (.methodLink RX3 38 Lib.Math.min.name) (by decide +kernel)
  have w_9 := hts (.static Lib.Math.min.name) (by decide +kernel)
  have w_10 := hts (.initialized "java/lang/Math") (by decide +kernel)
  have w_11 := hts (.code Lib.Math.min.name Lib.Math.min.code 2 (some .int)) (by decide +kernel)
  have w_12 := hts (.methodLink RX3 44 Lib.Math.max.name) (by decide +kernel)
  have w_13 := hts (.static Lib.Math.max.name) (by decide +kernel)
  have w_14 := hts (.code Lib.Math.max.name Lib.Math.max.code 2 (some .int)) (by decide +kernel)
  have h_49 : ∀ (t_count : Int32) (t_depth : Int32) (t_noon : Int32) (t_depthBehind : Int32) (fu49 : Nat) (x2 : Int32) (t_beats : Nat → Int32) (t_kinds : Nat → Int32) (H : Heap) (locs : List Loc) (ls : Array Slot), va_P (dC, dI) vwCl [(q_a1, .inr (5, [.ref q_a1_letters, .int a1_length])), (q_a1_letters, .inl (cI, 48, .inl a1_letters)), (q_t, .inr (3, [.ref q_t_beats, .ref q_t_kinds, .int t_count, .int t_depth, .int t_noon, .int t_depthBehind])), (q_t_beats, .inl (cI, 5, .inl t_beats)), (q_t_kinds, .inl (cI, 5, .inl t_kinds))] H → va_S A s.heap H locs → lv_has ls 3 [(0, .ref q_t), (1, .ref q_a1), (2, .int x2)] → L_X3_readFrom_49 a1_letters t_count t_depth t_noon t_depthBehind fu49 x2 t_beats t_kinds = some (o_t_count, o_t_depth, o_t_noon, o_t_depthBehind, o_t_beats, o_t_kinds) → W p l e rm_X3_readFrom s m args below meth c H locs 0 0 Q (F0 m 49 ls []) := by
    intro t_count t_depth t_noon t_depthBehind fu49
    induction fu49 with
    | zero =>
      intro x2 t_beats t_kinds H locs ls hP hS hl hf
      rw [L_X3_readFrom_49] at hf
      cases hf
    | succ fu49 ih49 =>
      intro x2 t_beats t_kinds H locs ls hP hS hl hf
      have hD : va_D A [(q_a1, .inr (5, [.ref q_a1_letters, .int a1_length])), (q_a1_letters, .inl (cI, 48, .inl a1_letters)), (q_t, .inr (3, [.ref q_t_beats, .ref q_t_kinds, .int t_count, .int t_depth, .int t_noon, .int t_depthBehind])), (q_t_beats, .inl (cI, 5, .inl t_beats)), (q_t_kinds, .inl (cI, 5, .inl t_kinds))] := wd hD0 rfl
      rw [L_X3_readFrom_49] at hf
      refine lv_iload_n hx hb dX3_readFrom_49 rfl (lv_at hl 2 rfl) ?_
      refine lv_aload_n hx hb dX3_readFrom_50 rfl (lv_at hl 0 rfl) ?_
      refine va_get (D := (dC, dI)) (ci := 3) (v := .int t_count) (C := RX3) (T := TX3) (N := 6) hx hb hts hinX3 hown hK.1 hP 2 rfl rfl 2 (by decide) w_0 (fun _ h9 => h9) rfl dX3_readFrom_51 ?_
      refine lv_icmp_ge (tgt := 101) hx hb dX3_readFrom_54 (by decide) (fun hc => ?_) (fun hc => ?_)
      · replace hf := ip hc hf
        obtain ⟨e0, hf⟩ := ij2 hf
        obtain ⟨e1, hf⟩ := ijc hf
        obtain ⟨e2, hf⟩ := ijc hf
        obtain ⟨e3, hf⟩ := ijc hf
        obtain ⟨e4, hf⟩ := ijc hf
        have e5 := hf
        exact hret _ _ _ _ (by rw [← e0, ← e1, ← e2, ← e3, ← e4, ← e5]; exact hP) hS dX3_readFrom_101
      · replace hf := iq hc hf
        refine lv_aload_n hx hb dX3_readFrom_57 rfl (lv_at hl 0 rfl) ?_
        refine va_get (D := (dC, dI)) (ci := 3) (v := .ref q_t_beats) (C := RX3) (T := TX3) (N := 6) hx hb hts hinX3 hown hK.1 hP 2 rfl rfl 0 (by decide) w_1 (fun _ h9 => h9) rfl dX3_readFrom_58 ?_
        refine lv_iload_n hx hb dX3_readFrom_61 rfl (lv_at hl 2 rfl) ?_
        refine lv_aload_n hx hb dX3_readFrom_62 rfl (lv_at hl 1 rfl) ?_
        refine lv_iconst (v := 4) hx hb dX3_readFrom_63 (by decide) ?_
        refine lv_iload_n hx hb dX3_readFrom_64 rfl (lv_at hl 2 rfl) ?_
        refine lv_iconst (v := 4) hx hb dX3_readFrom_65 (by decide) ?_
        refine lv_imul hx hb dX3_readFrom_66 ?_
        refine lv_iadd hx hb dX3_readFrom_67 ?_
        refine lv_iconst (v := 2) hx hb dX3_readFrom_68 (by decide) ?_
        refine lv_iadd hx hb dX3_readFrom_69 ?_
        obtain ⟨r1, e3, hf⟩ := bd_ok hf
        refine kVi (As := [.int ((4 + (x2 * 4)) + 2)]) CF (cwV 1 hts gX3_readFrom_X5_figureAt rfl rfl rfl (by decide +kernel) ⟨Nat.le_of_ble_eq_true rfl, Nat.le_of_ble_eq_true rfl⟩) PU_blind hP hD hS hA (va_recv hK.1 hP (ci := 5) (q0 := 0) rfl rfl) [0, 1] (fun h1 h2 h3 => PU_pre hK h1 A h2 h3) (c_X5_figureAt l dC dI cI cZ q_a1 q_a1_letters _ a1_length a1_letters ((4 + (x2 * 4)) + 2) r1 e3) rfl rfl rfl rfl hl.1 rfl (Nat.le_of_ble_eq_true rfl) dX3_readFrom_70 ⟨Nat.zero_le _, Nat.zero_le _⟩ (fun H locs hP hS => ?_)
        replace hP : va_P (dC, dI) vwCl [(q_a1, .inr (5, [.ref q_a1_letters, .int a1_length])), (q_a1_letters, .inl (cI, 48, .inl a1_letters)), (q_t, .inr (3, [.ref q_t_beats, .ref q_t_kinds, .int t_count, .int t_depth, .int t_noon, .int t_depthBehind])), (q_t_beats, .inl (cI, 5, .inl t_beats)), (q_t_kinds, .inl (cI, 5, .inl t_kinds))] H := hP
        obtain ⟨o4, e6, hf⟩ := bd_ok hf
        refine kNv (As := [.ref q_t_beats, .int x2, .int r1]) CF ⟨va_cnB 3 hts gX3_readFrom_X7_put_n50 rfl rfl rfl (nw_X3_50 hK.2) w_2 (by decide +kernel) ⟨Nat.le_of_ble_eq_true rfl, Nat.le_of_ble_eq_true rfl⟩, w_3, trivial⟩ PU_blind hP hD hS hA [3] (fun h1 h2 h3 => PU_pre hK h1 A h2 h3) (c_X7_put l dC dI cI cZ q_t_beats _ t_beats 5 x2 r1 o4 e6) rfl rfl rfl rfl hl.1 rfl (Nat.le_of_ble_eq_true rfl) dX3_readFrom_73 ⟨Nat.zero_le _, Nat.zero_le _⟩ (fun H locs hP hS => ?_)
        replace hP : va_P (dC, dI) vwCl [(q_a1, .inr (5, [.ref q_a1_letters, .int a1_length])), (q_a1_letters, .inl (cI, 48, .inl a1_letters)), (q_t, .inr (3, [.ref q_t_beats, .ref q_t_kinds, .int t_count, .int t_depth, .int t_noon, .int t_depthBehind])), (q_t_beats, .inl (cI, 5, .inl o4)), (q_t_kinds, .inl (cI, 5, .inl t_kinds))] H := hP
        replace hD : va_D A [(q_a1, .inr (5, [.ref q_a1_letters, .int a1_length])), (q_a1_letters, .inl (cI, 48, .inl a1_letters)), (q_t, .inr (3, [.ref q_t_beats, .ref q_t_kinds, .int t_count, .int t_depth, .int t_noon, .int t_depthBehind])), (q_t_beats, .inl (cI, 5, .inl o4)), (q_t_kinds, .inl (cI, 5, .inl t_kinds))] := wd hD rfl
        refine lv_aload_n hx hb dX3_readFrom_76 rfl (lv_at hl 0 rfl) ?_
        refine va_get (D := (dC, dI)) (ci := 3) (v := .ref q_t_kinds) (C := RX3) (T := TX3) (N := 6) hx hb hts hinX3 hown hK.1 hP 2 rfl rfl 1 (by decide) w_4 (fun _ h9 => h9) rfl dX3_readFrom_77 ?_
        refine lv_iload_n hx hb dX3_readFrom_80 rfl (lv_at hl 2 rfl) ?_
        refine lv_aload_n hx hb dX3_readFrom_81 rfl (lv_at hl 1 rfl) ?_
        refine lv_iconst (v := 4) hx hb dX3_readFrom_82 (by decide) ?_
        refine lv_iload_n hx hb dX3_readFrom_83 rfl (lv_at hl 2 rfl) ?_
        refine lv_iconst (v := 4) hx hb dX3_readFrom_84 (by decide) ?_
        refine lv_imul hx hb dX3_readFrom_85 ?_
        refine lv_iadd hx hb dX3_readFrom_86 ?_
        refine lv_iconst (v := 3) hx hb dX3_readFrom_87 (by decide) ?_
        refine lv_iadd hx hb dX3_readFrom_88 ?_
        obtain ⟨r7, e9, hf⟩ := bd_ok hf
        refine kVi (As := [.int ((4 + (x2 * 4)) + 3)]) CF (cwV 1 hts gX3_readFrom_X5_figureAt rfl rfl rfl (by decide +kernel) ⟨Nat.le_of_ble_eq_true rfl, Nat.le_of_ble_eq_true rfl⟩) PU_blind hP hD hS hA (va_recv hK.1 hP (ci := 5) (q0 := 0) rfl rfl) [0, 1] (fun h1 h2 h3 => PU_pre hK h1 A h2 h3) (c_X5_figureAt l dC dI cI cZ q_a1 q_a1_letters _ a1_length a1_letters ((4 + (x2 * 4)) + 3) r7 e9) rfl rfl rfl rfl hl.1 rfl (Nat.le_of_ble_eq_true rfl) dX3_readFrom_89 ⟨Nat.zero_le _, Nat.zero_le _⟩ (fun H locs hP hS => ?_)
        replace hP : va_P (dC, dI) vwCl [(q_a1, .inr (5, [.ref q_a1_letters, .int a1_length])), (q_a1_letters, .inl (cI, 48, .inl a1_letters)), (q_t, .inr (3, [.ref q_t_beats, .ref q_t_kinds, .int t_count, .int t_depth, .int t_noon, .int t_depthBehind])), (q_t_beats, .inl (cI, 5, .inl o4)), (q_t_kinds, .inl (cI, 5, .inl t_kinds))] H := hP
        obtain ⟨o10, e12, hf⟩ := bd_ok hf
        refine kNv (As := [.ref q_t_kinds, .int x2, .int r7]) CF ⟨va_cnB 3 hts gX3_readFrom_X7_put_n50 rfl rfl rfl (nw_X3_50 hK.2) w_2 (by decide +kernel) ⟨Nat.le_of_ble_eq_true rfl, Nat.le_of_ble_eq_true rfl⟩, w_3, trivial⟩ PU_blind hP hD hS hA [4] (fun h1 h2 h3 => PU_pre hK h1 A h2 h3) (c_X7_put l dC dI cI cZ q_t_kinds _ t_kinds 5 x2 r7 o10 e12) rfl rfl rfl rfl hl.1 rfl (Nat.le_of_ble_eq_true rfl) dX3_readFrom_92 ⟨Nat.zero_le _, Nat.zero_le _⟩ (fun H locs hP hS => ?_)
        replace hP : va_P (dC, dI) vwCl [(q_a1, .inr (5, [.ref q_a1_letters, .int a1_length])), (q_a1_letters, .inl (cI, 48, .inl a1_letters)), (q_t, .inr (3, [.ref q_t_beats, .ref q_t_kinds, .int t_count, .int t_depth, .int t_noon, .int t_depthBehind])), (q_t_beats, .inl (cI, 5, .inl o4)), (q_t_kinds, .inl (cI, 5, .inl o10))] H := hP
        replace hD : va_D A [(q_a1, .inr (5, [.ref q_a1_letters, .int a1_length])), (q_a1_letters, .inl (cI, 48, .inl a1_letters)), (q_t, .inr (3, [.ref q_t_beats, .ref q_t_kinds, .int t_count, .int t_depth, .int t_noon, .int t_depthBehind])), (q_t_beats, .inl (cI, 5, .inl o4)), (q_t_kinds, .inl (cI, 5, .inl o10))] := wd hD rfl
        refine lv_iinc (v := (x2 + 1)) (lv' := [(2, .int (x2 + 1)), (0, .ref q_t), (1, .ref q_a1)]) hx hb dX3_readFrom_95 hl (k := 2) rfl rfl (by decide) rfl (fun ls hl => ?_)
        refine lv_goto (tgt := 49) hx hb dX3_readFrom_98 (by decide) ?_
        exact ih49 (x2 + 1) o4 o10 _ _ _ hP hS (lv_sub hl [1, 2, 0] rfl) hf
  rw [f_X3_readFrom] at hf
  refine lv_aload_n hx hb dX3_readFrom_0 rfl (lv_at hl 0 rfl) ?_
  refine lv_aload_n hx hb dX3_readFrom_1 rfl (lv_at hl 1 rfl) ?_
  refine lv_iconst (v := 1) hx hb dX3_readFrom_2 (by decide) ?_
  obtain ⟨r13, e15, hf⟩ := bd_ok hf
  refine kVi (As := [.int 1]) CF (cwV 1 hts gX3_readFrom_X5_figureAt rfl rfl rfl (by decide +kernel) ⟨Nat.le_of_ble_eq_true rfl, Nat.le_of_ble_eq_true rfl⟩) PU_blind hP hD hS hA (va_recv hK.1 hP (ci := 5) (q0 := 0) rfl rfl) [0, 1] (fun h1 h2 h3 => PU_pre hK h1 A h2 h3) (c_X5_figureAt l dC dI cI cZ q_a1 q_a1_letters _ a1_length a1_letters 1 r13 e15) rfl rfl rfl rfl hl.1 rfl (Nat.le_of_ble_eq_true rfl) dX3_readFrom_3 ⟨Nat.zero_le _, Nat.zero_le _⟩ (fun H locs hP hS => ?_)
  replace hP : va_P (dC, dI) vwCl [(q_a1, .inr (5, [.ref q_a1_letters, .int a1_length])), (q_a1_letters, .inl (cI, 48, .inl a1_letters)), (q_t, .inr (3, [.ref q_t_beats, .ref q_t_kinds, .int t_count, .int t_depth, .int t_noon, .int t_depthBehind])), (q_t_beats, .inl (cI, 5, .inl t_beats)), (q_t_kinds, .inl (cI, 5, .inl t_kinds))] H := hP
  refine va_put (D := (dC, dI)) (ci := 3) (v := .int r13) (ty := .int) (C := RX3) (T := TX3) (N := 6) hx hb hts hinX3 tyX3 tyX3_ok nmX3 hown hK.1 hP hD hS 2 rfl rfl 3 (by decide) w_5 (fun _ h9 => h9) rfl (by decide +kernel) rfl rfl (Nat.le_of_ble_eq_true rfl) dX3_readFrom_6 (fun H locs hP hD hS => ?_)
  replace hP : va_P (dC, dI) vwCl [(q_a1, .inr (5, [.ref q_a1_letters, .int a1_length])), (q_a1_letters, .inl (cI, 48, .inl a1_letters)), (q_t, .inr (3, [.ref q_t_beats, .ref q_t_kinds, .int t_count, .int r13, .int t_noon, .int t_depthBehind])), (q_t_beats, .inl (cI, 5, .inl t_beats)), (q_t_kinds, .inl (cI, 5, .inl t_kinds))] H := hP
  replace hD : va_D A [(q_a1, .inr (5, [.ref q_a1_letters, .int a1_length])), (q_a1_letters, .inl (cI, 48, .inl a1_letters)), (q_t, .inr (3, [.ref q_t_beats, .ref q_t_kinds, .int t_count, .int r13, .int t_noon, .int t_depthBehind])), (q_t_beats, .inl (cI, 5, .inl t_beats)), (q_t_kinds, .inl (cI, 5, .inl t_kinds))] := hD
  refine lv_aload_n hx hb dX3_readFrom_9 rfl (lv_at hl 0 rfl) ?_
  refine lv_aload_n hx hb dX3_readFrom_10 rfl (lv_at hl 1 rfl) ?_
  refine lv_iconst (v := 2) hx hb dX3_readFrom_11 (by decide) ?_
  obtain ⟨r16, e18, hf⟩ := bd_ok hf
  refine kVi (As := [.int 2]) CF (cwV 1 hts gX3_readFrom_X5_figureAt rfl rfl rfl (by decide +kernel) ⟨Nat.le_of_ble_eq_true rfl, Nat.le_of_ble_eq_true rfl⟩) PU_blind hP hD hS hA (va_recv hK.1 hP (ci := 5) (q0 := 0) rfl rfl) [0, 1] (fun h1 h2 h3 => PU_pre hK h1 A h2 h3) (c_X5_figureAt l dC dI cI cZ q_a1 q_a1_letters _ a1_length a1_letters 2 r16 e18) rfl rfl rfl rfl hl.1 rfl (Nat.le_of_ble_eq_true rfl) dX3_readFrom_12 ⟨Nat.zero_le _, Nat.zero_le _⟩ (fun H locs hP hS => ?_)
  replace hP : va_P (dC, dI) vwCl [(q_a1, .inr (5, [.ref q_a1_letters, .int a1_length])), (q_a1_letters, .inl (cI, 48, .inl a1_letters)), (q_t, .inr (3, [.ref q_t_beats, .ref q_t_kinds, .int t_count, .int r13, .int t_noon, .int t_depthBehind])), (q_t_beats, .inl (cI, 5, .inl t_beats)), (q_t_kinds, .inl (cI, 5, .inl t_kinds))] H := hP
  refine va_put (D := (dC, dI)) (ci := 3) (v := .int r16) (ty := .int) (C := RX3) (T := TX3) (N := 6) hx hb hts hinX3 tyX3 tyX3_ok nmX3 hown hK.1 hP hD hS 2 rfl rfl 4 (by decide) w_6 (fun _ h9 => h9) rfl (by decide +kernel) rfl rfl (Nat.le_of_ble_eq_true rfl) dX3_readFrom_15 (fun H locs hP hD hS => ?_)
  replace hP : va_P (dC, dI) vwCl [(q_a1, .inr (5, [.ref q_a1_letters, .int a1_length])), (q_a1_letters, .inl (cI, 48, .inl a1_letters)), (q_t, .inr (3, [.ref q_t_beats, .ref q_t_kinds, .int t_count, .int r13, .int r16, .int t_depthBehind])), (q_t_beats, .inl (cI, 5, .inl t_beats)), (q_t_kinds, .inl (cI, 5, .inl t_kinds))] H := hP
  replace hD : va_D A [(q_a1, .inr (5, [.ref q_a1_letters, .int a1_length])), (q_a1_letters, .inl (cI, 48, .inl a1_letters)), (q_t, .inr (3, [.ref q_t_beats, .ref q_t_kinds, .int t_count, .int r13, .int r16, .int t_depthBehind])), (q_t_beats, .inl (cI, 5, .inl t_beats)), (q_t_kinds, .inl (cI, 5, .inl t_kinds))] := hD
  refine lv_aload_n hx hb dX3_readFrom_18 rfl (lv_at hl 0 rfl) ?_
  refine lv_aload_n hx hb dX3_readFrom_19 rfl (lv_at hl 1 rfl) ?_
  refine lv_iconst (v := 3) hx hb dX3_readFrom_20 (by decide) ?_
  obtain ⟨r19, e21, hf⟩ := bd_ok hf
  refine kVi (As := [.int 3]) CF (cwV 1 hts gX3_readFrom_X5_figureAt rfl rfl rfl (by decide +kernel) ⟨Nat.le_of_ble_eq_true rfl, Nat.le_of_ble_eq_true rfl⟩) PU_blind hP hD hS hA (va_recv hK.1 hP (ci := 5) (q0 := 0) rfl rfl) [0, 1] (fun h1 h2 h3 => PU_pre hK h1 A h2 h3) (c_X5_figureAt l dC dI cI cZ q_a1 q_a1_letters _ a1_length a1_letters 3 r19 e21) rfl rfl rfl rfl hl.1 rfl (Nat.le_of_ble_eq_true rfl) dX3_readFrom_21 ⟨Nat.zero_le _, Nat.zero_le _⟩ (fun H locs hP hS => ?_)
  replace hP : va_P (dC, dI) vwCl [(q_a1, .inr (5, [.ref q_a1_letters, .int a1_length])), (q_a1_letters, .inl (cI, 48, .inl a1_letters)), (q_t, .inr (3, [.ref q_t_beats, .ref q_t_kinds, .int t_count, .int r13, .int r16, .int t_depthBehind])), (q_t_beats, .inl (cI, 5, .inl t_beats)), (q_t_kinds, .inl (cI, 5, .inl t_kinds))] H := hP
  refine va_put (D := (dC, dI)) (ci := 3) (v := .int r19) (ty := .int) (C := RX3) (T := TX3) (N := 6) hx hb hts hinX3 tyX3 tyX3_ok nmX3 hown hK.1 hP hD hS 2 rfl rfl 5 (by decide) w_7 (fun _ h9 => h9) rfl (by decide +kernel) rfl rfl (Nat.le_of_ble_eq_true rfl) dX3_readFrom_24 (fun H locs hP hD hS => ?_)
  replace hP : va_P (dC, dI) vwCl [(q_a1, .inr (5, [.ref q_a1_letters, .int a1_length])), (q_a1_letters, .inl (cI, 48, .inl a1_letters)), (q_t, .inr (3, [.ref q_t_beats, .ref q_t_kinds, .int t_count, .int r13, .int r16, .int r19])), (q_t_beats, .inl (cI, 5, .inl t_beats)), (q_t_kinds, .inl (cI, 5, .inl t_kinds))] H := hP
  replace hD : va_D A [(q_a1, .inr (5, [.ref q_a1_letters, .int a1_length])), (q_a1_letters, .inl (cI, 48, .inl a1_letters)), (q_t, .inr (3, [.ref q_t_beats, .ref q_t_kinds, .int t_count, .int r13, .int r16, .int r19])), (q_t_beats, .inl (cI, 5, .inl t_beats)), (q_t_kinds, .inl (cI, 5, .inl t_kinds))] := hD
  refine lv_aload_n hx hb dX3_readFrom_27 rfl (lv_at hl 0 rfl) ?_
  refine lv_iconst (v := 0) hx hb dX3_readFrom_28 (by decide) ?_
  refine lv_iconst (v := 5) hx hb dX3_readFrom_29 (by decide) ?_
  refine lv_aload_n hx hb dX3_readFrom_30 rfl (lv_at hl 1 rfl) ?_
  obtain ⟨r22, e24, hf⟩ := bd_ok hf
  refine kVi (As := []) CF (cwV 0 hts gX3_readFrom_X5_size rfl rfl rfl (by decide +kernel) ⟨Nat.le_of_ble_eq_true rfl, Nat.le_of_ble_eq_true rfl⟩) PU_blind hP hD hS hA (va_recv hK.1 hP (ci := 5) (q0 := 0) rfl rfl) [0] (fun h1 h2 h3 => PU_pre hK h1 A h2 h3) (c_X5_size l dC dI cI cZ q_a1 q_a1_letters _ a1_length r22 e24) rfl rfl rfl rfl hl.1 rfl (Nat.le_of_ble_eq_true rfl) dX3_readFrom_31 ⟨Nat.zero_le _, Nat.zero_le _⟩ (fun H locs hP hS => ?_)
  replace hP : va_P (dC, dI) vwCl [(q_a1, .inr (5, [.ref q_a1_letters, .int a1_length])), (q_a1_letters, .inl (cI, 48, .inl a1_letters)), (q_t, .inr (3, [.ref q_t_beats, .ref q_t_kinds, .int t_count, .int r13, .int r16, .int r19])), (q_t_beats, .inl (cI, 5, .inl t_beats)), (q_t_kinds, .inl (cI, 5, .inl t_kinds))] H := hP
  refine lv_iconst (v := 4) hx hb dX3_readFrom_34 (by decide) ?_
  refine lv_isub hx hb dX3_readFrom_35 ?_
  refine lv_iconst (v := 4) hx hb dX3_readFrom_36 (by decide) ?_
  refine lv_idiv hx hb dX3_readFrom_37 (by decide) ?_
  refine va_mmin hx hb (hml.trans hl.1.symm) hown w_8 w_9 w_10 w_11 (Nat.le_of_ble_eq_true rfl) (Nat.le_of_ble_eq_true rfl) (Nat.zero_le _) (Nat.zero_le _) dX3_readFrom_38 ?_
  refine va_mmax hx hb (hml.trans hl.1.symm) hown w_12 w_13 w_10 w_14 (Nat.le_of_ble_eq_true rfl) (Nat.le_of_ble_eq_true rfl) (Nat.zero_le _) (Nat.zero_le _) dX3_readFrom_41 ?_
  refine va_put (D := (dC, dI)) (ci := 3) (v := .int (if 0 < (if ((r22 - 4) / 4) < 5 then ((r22 - 4) / 4) else 5) then (if ((r22 - 4) / 4) < 5 then ((r22 - 4) / 4) else 5) else 0)) (ty := .int) (C := RX3) (T := TX3) (N := 6) hx hb hts hinX3 tyX3 tyX3_ok nmX3 hown hK.1 hP hD hS 2 rfl rfl 2 (by decide) w_0 (fun _ h9 => h9) rfl (by decide +kernel) rfl rfl (Nat.le_of_ble_eq_true rfl) dX3_readFrom_44 (fun H locs hP hD hS => ?_)
  replace hP : va_P (dC, dI) vwCl [(q_a1, .inr (5, [.ref q_a1_letters, .int a1_length])), (q_a1_letters, .inl (cI, 48, .inl a1_letters)), (q_t, .inr (3, [.ref q_t_beats, .ref q_t_kinds, .int (if 0 < (if ((r22 - 4) / 4) < 5 then ((r22 - 4) / 4) else 5) then (if ((r22 - 4) / 4) < 5 then ((r22 - 4) / 4) else 5) else 0), .int r13, .int r16, .int r19])), (q_t_beats, .inl (cI, 5, .inl t_beats)), (q_t_kinds, .inl (cI, 5, .inl t_kinds))] H := hP
  replace hD : va_D A [(q_a1, .inr (5, [.ref q_a1_letters, .int a1_length])), (q_a1_letters, .inl (cI, 48, .inl a1_letters)), (q_t, .inr (3, [.ref q_t_beats, .ref q_t_kinds, .int (if 0 < (if ((r22 - 4) / 4) < 5 then ((r22 - 4) / 4) else 5) then (if ((r22 - 4) / 4) < 5 then ((r22 - 4) / 4) else 5) else 0), .int r13, .int r16, .int r19])), (q_t_beats, .inl (cI, 5, .inl t_beats)), (q_t_kinds, .inl (cI, 5, .inl t_kinds))] := hD
  refine lv_iconst (v := 0) hx hb dX3_readFrom_47 (by decide) ?_
  refine lv_istore_n (lv' := [(2, .int 0), (0, .ref q_t), (1, .ref q_a1)]) hx hb dX3_readFrom_48 rfl hl (by decide) rfl (fun ls hl => ?_)
  exact h_49 (if 0 < (if ((r22 - 4) / 4) < 5 then ((r22 - 4) / 4) else 5) then (if ((r22 - 4) / 4) < 5 then ((r22 - 4) / 4) else 5) else 0) r13 r16 r19 fuelC 0 t_beats t_kinds _ _ _ hP hS (lv_sub hl [1, 2, 0] rfl) hf
