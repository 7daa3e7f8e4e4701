-- X1_drillsOfOthers X1_fewestDrills X1_meeting X1_likedTread X1_tryDoing X1_firstUndoable X6_leaveOnly X1_standingOf
abbrev rm_X1_drillsOfOthers : Room := { frames := 5, cells := 0, slots := 0, locals := 113 }
set_option maxHeartbeats 4000000 in
set_option maxRecDepth 100000 in
theorem c_X1_drillsOfOthers (l : Launch) (dC : Nat → ClassId) (dI : Nat → Nat → Nat) (cI cZ : ClassId) (q_t q_t_told q_t_now q_t_trial q_t_told_beats q_t_told_kinds q_t_now_line q_t_now_strides q_t_now_strains : Nat) (sz : Nat) (t_told_count : Int32) (t_told_depth : Int32) (t_told_noon : Int32) (t_told_depthBehind : Int32) (t_now_down : Int32) (t_now_steps : Int32) (t_told_kinds : Nat → Int32) (t_now_strides : Nat → Int32) (t_told_beats : Nat → Int32) (x1 : Int32) (x2 : Int32) (r_ : Int32) (hf : f_X1_drillsOfOthers x1 x2 t_told_count t_now_down t_now_steps t_told_kinds t_now_strides t_told_beats = some r_) : Met l yX1_drillsOfOthers wsX1_drillsOfOthers rm_X1_drillsOfOthers (va_Pc [.ref q_t, .int x1, .int x2] (PU (dC, dI) cI cZ [(q_t, .inr (1, [.ref q_t_told, .ref q_t_now, .ref q_t_trial])), (q_t_told, .inr (3, [.ref q_t_told_beats, .ref q_t_told_kinds, .int t_told_count, .int t_told_depth, .int t_told_noon, .int t_told_depthBehind])), (q_t_now, .inr (6, [.ref q_t_told, .ref q_t_now_line, .ref q_t_now_strides, .ref q_t_now_strains, .int t_now_down, .int t_now_steps])), (q_t_told_kinds, .inl (cI, 5, .inl t_told_kinds)), (q_t_now_strides, .inl (cI, 5, .inl t_now_strides)), (q_t_told_beats, .inl (cI, 5, .inl t_told_beats))] sz)) (va_Qi (fun (r : Int32) (_ : Unit) => r = r_) (fun _ t => va_P (dC, dI) vwCl [(q_t, .inr (1, [.ref q_t_told, .ref q_t_now, .ref q_t_trial])), (q_t_told, .inr (3, [.ref q_t_told_beats, .ref q_t_told_kinds, .int t_told_count, .int t_told_depth, .int t_told_noon, .int t_told_depthBehind])), (q_t_now, .inr (6, [.ref q_t_told, .ref q_t_now_line, .ref q_t_now_strides, .ref q_t_now_strains, .int t_now_down, .int t_now_steps])), (q_t_told_kinds, .inl (cI, 5, .inl t_told_kinds)), (q_t_now_strides, .inl (cI, 5, .inl t_now_strides)), (q_t_told_beats, .inl (cI, 5, .inl t_told_beats))] t.heap) (va_A [(q_t, .inr (1, [.ref q_t_told, .ref q_t_now, .ref q_t_trial])), (q_t_told, .inr (3, [.ref q_t_told_beats, .ref q_t_told_kinds, .int t_told_count, .int t_told_depth, .int t_told_noon, .int t_told_depthBehind])), (q_t_now, .inr (6, [.ref q_t_told, .ref q_t_now_line, .ref q_t_now_strides, .ref q_t_now_strains, .int t_now_down, .int t_now_steps])), (q_t_told_kinds, .inl (cI, 5, .inl t_told_kinds)), (q_t_now_strides, .inl (cI, 5, .inl t_now_strides)), (q_t_told_beats, .inl (cI, 5, .inl t_told_beats))] sz)) 0 0 (va_A [(q_t, .inr (1, [.ref q_t_told, .ref q_t_now, .ref q_t_trial])), (q_t_told, .inr (3, [.ref q_t_told_beats, .ref q_t_told_kinds, .int t_told_count, .int t_told_depth, .int t_told_noon, .int t_told_depthBehind])), (q_t_now, .inr (6, [.ref q_t_told, .ref q_t_now_line, .ref q_t_now_strides, .ref q_t_now_strains, .int t_now_down, .int t_now_steps])), (q_t_told_kinds, .inl (cI, 5, .inl t_told_kinds)), (q_t_now_strides, .inl (cI, 5, .inl t_now_strides)), (q_t_told_beats, .inl (cI, 5, .inl t_told_beats))] sz) := by
  refine MetI (cc := cX1_drillsOfOthers) (maxL := 5) (by decide) rfl (Nat.le_of_ble_eq_true rfl) (fun _ h => h) ?_
  intro p e s m args below meth c A Q ls hx CF hK hA hD hP hS hl hB hAe hsz hret
  have hb := CF.2.1
  have hml := CF.2.2.1
  have hown := CF.2.2.2.1
  have hts := CF.2.2.2.2
  have hD0 := hD
  replace hl : lv_has ls 5 [(0, .ref q_t), (1, .int x1), (2, .int x2)] := hl
  have hinX1 : ∀ w ∈ wsX10, w ∈ wsX1_drillsOfOthers := fun _ h => List.mem_cons_of_mem _ (List.mem_append_left _ (List.mem_append_left _ (List.mem_append_right _ h)))
  have hinX3 : ∀ w ∈ wsX30, w ∈ wsX1_drillsOfOthers := fun _ h => List.mem_cons_of_mem _ (List.mem_append_left _ (List.mem_append_right _ h))
  have hinX6 : ∀ w ∈ wsX60, w ∈ wsX1_drillsOfOthers := fun _ h => List.mem_cons_of_mem _ (List.mem_append_right _ h)
  have w_0 := hts (.fieldLink RX1 9 "PassInStep$Foresight" "told" "LPassInStep$Party;") (by decide +kernel)
  have w_1 := hts (.fieldLink RX1 15 "PassInStep$Foresight" "now" "LPassInStep$Yard;") (by decide +kernel)
  have h_5 : ∀ (x1 : Int32) (x2 : Int32) (fu5 : Nat) (x3 : Int32) (x4 : Int32) (H : Heap) (locs : List Loc) (ls : Array Slot), va_P (dC, dI) vwCl [(q_t, .inr (1, [.ref q_t_told, .ref q_t_now, .ref q_t_trial])), (q_t_told, .inr (3, [.ref q_t_told_beats, .ref q_t_told_kinds, .int t_told_count, .int t_told_depth, .int t_told_noon, .int t_told_depthBehind])), (q_t_now, .inr (6, [.ref q_t_told, .ref q_t_now_line, .ref q_t_now_strides, .ref q_t_now_strains, .int t_now_down, .int t_now_steps])), (q_t_told_kinds, .inl (cI, 5, .inl t_told_kinds)), (q_t_now_strides, .inl (cI, 5, .inl t_now_strides)), (q_t_told_beats, .inl (cI, 5, .inl t_told_beats))] H → va_S A s.heap H locs → lv_has ls 5 [(0, .ref q_t), (1, .int x1), (2, .int x2), (3, .int x3), (4, .int x4)] → L_X1_drillsOfOthers_5 x1 x2 t_told_count t_now_down t_now_steps t_told_kinds t_now_strides t_told_beats fu5 x3 x4 = some r_ → W p l e rm_X1_drillsOfOthers s m args below meth c H locs 0 0 Q (F0 m 5 ls []) := by
    intro x1 x2 fu5
    induction fu5 with
    | zero =>
      intro x3 x4 H locs ls hP hS hl hf
      rw [L_X1_drillsOfOthers_5] at hf
      cases hf
    | succ fu5 ih5 =>
      have h_59 : ∀ (x3 : Int32) (x4 : Int32) (H : Heap) (locs : List Loc) (ls : Array Slot), va_P (dC, dI) vwCl [(q_t, .inr (1, [.ref q_t_told, .ref q_t_now, .ref q_t_trial])), (q_t_told, .inr (3, [.ref q_t_told_beats, .ref q_t_told_kinds, .int t_told_count, .int t_told_depth, .int t_told_noon, .int t_told_depthBehind])), (q_t_now, .inr (6, [.ref q_t_told, .ref q_t_now_line, .ref q_t_now_strides, .ref q_t_now_strains, .int t_now_down, .int t_now_steps])), (q_t_told_kinds, .inl (cI, 5, .inl t_told_kinds)), (q_t_now_strides, .inl (cI, 5, .inl t_now_strides)), (q_t_told_beats, .inl (cI, 5, .inl t_told_beats))] H → va_S A s.heap H locs → lv_has ls 5 [(0, .ref q_t), (1, .int x1), (2, .int x2), (3, .int x3), (4, .int x4)] → J_X1_drillsOfOthers_59 (L_X1_drillsOfOthers_5 x1 x2 t_told_count t_now_down t_now_steps t_told_kinds t_now_strides t_told_beats fu5) x3 x4 = some r_ → W p l e rm_X1_drillsOfOthers s m args below meth c H locs 0 0 Q (F0 m 59 ls []) := by
        intro x3 x4 H locs ls hP hS hl hf
        have hD : va_D A [(q_t, .inr (1, [.ref q_t_told, .ref q_t_now, .ref q_t_trial])), (q_t_told, .inr (3, [.ref q_t_told_beats, .ref q_t_told_kinds, .int t_told_count, .int t_told_depth, .int t_told_noon, .int t_told_depthBehind])), (q_t_now, .inr (6, [.ref q_t_told, .ref q_t_now_line, .ref q_t_now_strides, .ref q_t_now_strains, .int t_now_down, .int t_now_steps])), (q_t_told_kinds, .inl (cI, 5, .inl t_told_kinds)), (q_t_now_strides, .inl (cI, 5, .inl t_now_strides)), (q_t_told_beats, .inl (cI, 5, .inl t_told_beats))] := wd hD0 rfl
        rw [J_X1_drillsOfOthers_59] at hf
        refine lv_iinc (v := (x4 + 1)) (lv' := [(4, .int (x4 + 1)), (0, .ref q_t), (1, .int x1), (2, .int x2), (3, .int x3)]) hx hb dX1_drillsOfOthers_59 hl (k := 4) rfl rfl (by decide) rfl (fun ls hl => ?_)
        refine lv_goto (tgt := 5) hx hb dX1_drillsOfOthers_62 (by decide) ?_
        exact ih5 x3 (x4 + 1) _ _ _ hP hS (lv_sub hl [1, 2, 3, 4, 0] rfl) hf
      intro x3 x4 H locs ls hP hS hl hf
      have hD : va_D A [(q_t, .inr (1, [.ref q_t_told, .ref q_t_now, .ref q_t_trial])), (q_t_told, .inr (3, [.ref q_t_told_beats, .ref q_t_told_kinds, .int t_told_count, .int t_told_depth, .int t_told_noon, .int t_told_depthBehind])), (q_t_now, .inr (6, [.ref q_t_told, .ref q_t_now_line, .ref q_t_now_strides, .ref q_t_now_strains, .int t_now_down, .int t_now_steps])), (q_t_told_kinds, .inl (cI, 5, .inl t_told_kinds)), (q_t_now_strides, .inl (cI, 5, .inl t_now_strides)), (q_t_told_beats, .inl (cI, 5, .inl t_told_beats))] := wd hD0 rfl
      rw [L_X1_drillsOfOthers_5] at hf
      refine lv_iload hx hb dX1_drillsOfOthers_5 (lv_at hl 4 rfl) ?_
      refine lv_aload_n hx hb dX1_drillsOfOthers_7 rfl (lv_at hl 0 rfl) ?_
      refine va_get (D := (dC, dI)) (ci := 1) (v := .ref q_t_told) (C := RX1) (T := TX1) (N := 3) hx hb hts hinX1 hown hK.1 hP 0 rfl rfl 0 (by decide) w_0 (fun _ h9 => h9) rfl dX1_drillsOfOthers_8 ?_
      obtain ⟨r1, e3, hf⟩ := bd_ok hf
      refine kVi (As := []) CF (cwV 0 hts gX1_drillsOfOthers_X3_size rfl rfl rfl (by decide +kernel) ⟨Nat.le_of_ble_eq_true rfl, Nat.le_of_ble_eq_true rfl⟩) PU_blind hP hD hS hA (va_recv hK.1 hP (ci := 3) (q0 := 1) rfl rfl) [1] (fun h1 h2 h3 => PU_pre hK h1 A h2 h3) (c_X3_size l dC dI cI cZ q_t_told q_t_told_beats q_t_told_kinds _ t_told_count t_told_depth t_told_noon t_told_depthBehind r1 e3) rfl rfl rfl rfl hl.1 rfl (Nat.le_of_ble_eq_true rfl) dX1_drillsOfOthers_11 ⟨Nat.zero_le _, Nat.zero_le _⟩ (fun H locs hP hS => ?_)
      replace hP : va_P (dC, dI) vwCl [(q_t, .inr (1, [.ref q_t_told, .ref q_t_now, .ref q_t_trial])), (q_t_told, .inr (3, [.ref q_t_told_beats, .ref q_t_told_kinds, .int t_told_count, .int t_told_depth, .int t_told_noon, .int t_told_depthBehind])), (q_t_now, .inr (6, [.ref q_t_told, .ref q_t_now_line, .ref q_t_now_strides, .ref q_t_now_strains, .int t_now_down, .int t_now_steps])), (q_t_told_kinds, .inl (cI, 5, .inl t_told_kinds)), (q_t_now_strides, .inl (cI, 5, .inl t_now_strides)), (q_t_told_beats, .inl (cI, 5, .inl t_told_beats))] H := hP
      refine lv_icmp_ge (tgt := 65) hx hb dX1_drillsOfOthers_14 (by decide) (fun hc => ?_) (fun hc => ?_)
      · replace hf := ip hc hf
        refine lv_iload_n hx hb dX1_drillsOfOthers_65 rfl (lv_at hl 3 rfl) ?_
        have e0 := ij1 hf
        refine W.eq (congrArg (fun z => F0 m 66 ls [.int z]) e0) ?_
        exact hret _ _ _ _ hP hS dX1_drillsOfOthers_66
      · replace hf := iq hc hf
        refine lv_iload hx hb dX1_drillsOfOthers_17 (lv_at hl 4 rfl) ?_
        refine lv_iload_n hx hb dX1_drillsOfOthers_19 rfl (lv_at hl 1 rfl) ?_
        refine lv_icmp_eq (tgt := 59) hx hb dX1_drillsOfOthers_20 (by decide) (fun hc => ?_) (fun hc => ?_)
        · replace hf := ip hc hf
          exact h_59 x3 x4 _ _ _ hP hS (lv_sub hl [0, 1, 2, 3, 4] rfl) hf
        · replace hf := iq hc hf
          refine lv_aload_n hx hb dX1_drillsOfOthers_23 rfl (lv_at hl 0 rfl) ?_
          refine va_get (D := (dC, dI)) (ci := 1) (v := .ref q_t_now) (C := RX1) (T := TX1) (N := 3) hx hb hts hinX1 hown hK.1 hP 0 rfl rfl 1 (by decide) w_1 (fun _ h9 => h9) rfl dX1_drillsOfOthers_24 ?_
          refine lv_iload hx hb dX1_drillsOfOthers_27 (lv_at hl 4 rfl) ?_
          obtain ⟨r4, e6, hf⟩ := bd_ok hf
          refine kVi (As := [.int x4]) CF (cwV 1 hts gX1_drillsOfOthers_X6_isDown rfl rfl rfl (by decide +kernel) ⟨Nat.le_of_ble_eq_true rfl, Nat.le_of_ble_eq_true rfl⟩) PU_blind hP hD hS hA (va_recv hK.1 hP (ci := 6) (q0 := 2) rfl rfl) [2] (fun h1 h2 h3 => PU_pre hK h1 A h2 h3) (c_X6_isDown l dC dI cI cZ q_t_now q_t_told q_t_now_line q_t_now_strides q_t_now_strains _ t_now_down t_now_steps x4 r4 e6) rfl rfl rfl rfl hl.1 rfl (Nat.le_of_ble_eq_true rfl) dX1_drillsOfOthers_29 ⟨Nat.zero_le _, Nat.zero_le _⟩ (fun H locs hP hS => ?_)
          replace hP : va_P (dC, dI) vwCl [(q_t, .inr (1, [.ref q_t_told, .ref q_t_now, .ref q_t_trial])), (q_t_told, .inr (3, [.ref q_t_told_beats, .ref q_t_told_kinds, .int t_told_count, .int t_told_depth, .int t_told_noon, .int t_told_depthBehind])), (q_t_now, .inr (6, [.ref q_t_told, .ref q_t_now_line, .ref q_t_now_strides, .ref q_t_now_strains, .int t_now_down, .int t_now_steps])), (q_t_told_kinds, .inl (cI, 5, .inl t_told_kinds)), (q_t_now_strides, .inl (cI, 5, .inl t_now_strides)), (q_t_told_beats, .inl (cI, 5, .inl t_told_beats))] H := hP
          refine lv_if_ne (tgt := 59) hx hb dX1_drillsOfOthers_32 (by decide) (fun hc => ?_) (fun hc => ?_)
          · replace hf := iq hc hf
            exact h_59 x3 x4 _ _ _ hP hS (lv_sub hl [0, 1, 2, 3, 4] rfl) hf
          · replace hf := ip hc hf
            refine lv_aload_n hx hb dX1_drillsOfOthers_35 rfl (lv_at hl 0 rfl) ?_
            refine va_get (D := (dC, dI)) (ci := 1) (v := .ref q_t_told) (C := RX1) (T := TX1) (N := 3) hx hb hts hinX1 hown hK.1 hP 0 rfl rfl 0 (by decide) w_0 (fun _ h9 => h9) rfl dX1_drillsOfOthers_36 ?_
            refine lv_iload hx hb dX1_drillsOfOthers_39 (lv_at hl 4 rfl) ?_
            obtain ⟨r7, e9, hf⟩ := bd_ok hf
            refine kVi (As := [.int x4]) CF (cwV 1 hts gX1_drillsOfOthers_X3_kindOf rfl rfl rfl (by decide +kernel) ⟨Nat.le_of_ble_eq_true rfl, Nat.le_of_ble_eq_true rfl⟩) PU_blind hP hD hS hA (va_recv hK.1 hP (ci := 3) (q0 := 1) rfl rfl) [1, 3] (fun h1 h2 h3 => PU_pre hK h1 A h2 h3) (c_X3_kindOf l dC dI cI cZ q_t_told q_t_told_beats q_t_told_kinds _ t_told_count t_told_depth t_told_noon t_told_depthBehind t_told_kinds x4 r7 e9) rfl rfl rfl rfl hl.1 rfl (Nat.le_of_ble_eq_true rfl) dX1_drillsOfOthers_41 ⟨Nat.zero_le _, Nat.zero_le _⟩ (fun H locs hP hS => ?_)
            replace hP : va_P (dC, dI) vwCl [(q_t, .inr (1, [.ref q_t_told, .ref q_t_now, .ref q_t_trial])), (q_t_told, .inr (3, [.ref q_t_told_beats, .ref q_t_told_kinds, .int t_told_count, .int t_told_depth, .int t_told_noon, .int t_told_depthBehind])), (q_t_now, .inr (6, [.ref q_t_told, .ref q_t_now_line, .ref q_t_now_strides, .ref q_t_now_strains, .int t_now_down, .int t_now_steps])), (q_t_told_kinds, .inl (cI, 5, .inl t_told_kinds)), (q_t_now_strides, .inl (cI, 5, .inl t_now_strides)), (q_t_told_beats, .inl (cI, 5, .inl t_told_beats))] H := hP
            refine lv_iconst (v := 2) hx hb dX1_drillsOfOthers_44 (by decide) ?_
            refine lv_icmp_eq (tgt := 59) hx hb dX1_drillsOfOthers_45 (by decide) (fun hc => ?_) (fun hc => ?_)
            · replace hf := ip hc hf
              exact h_59 x3 x4 _ _ _ hP hS (lv_sub hl [0, 1, 2, 3, 4] rfl) hf
            · replace hf := iq hc hf
              refine lv_iload_n hx hb dX1_drillsOfOthers_48 rfl (lv_at hl 3 rfl) ?_
              refine lv_aload_n hx hb dX1_drillsOfOthers_49 rfl (lv_at hl 0 rfl) ?_
              refine lv_iload hx hb dX1_drillsOfOthers_50 (lv_at hl 4 rfl) ?_
              refine lv_iload_n hx hb dX1_drillsOfOthers_52 rfl (lv_at hl 1 rfl) ?_
              refine lv_iload_n hx hb dX1_drillsOfOthers_53 rfl (lv_at hl 2 rfl) ?_
              obtain ⟨r10, e12, hf⟩ := bd_ok hf
              refine kVi (As := [.int x4, .int x1, .int x2]) CF (cwV 3 hts gX1_drillsOfOthers_X1_drillsToTreadAs rfl rfl rfl (by decide +kernel) ⟨Nat.le_of_ble_eq_true rfl, Nat.le_of_ble_eq_true rfl⟩) PU_blind hP hD hS hA (va_recv hK.1 hP (ci := 1) (q0 := 0) rfl rfl) [0, 2, 1, 3, 4, 5] (fun h1 h2 h3 => PU_pre hK h1 A h2 h3) (c_X1_drillsToTreadAs l dC dI cI cZ q_t q_t_told q_t_now q_t_trial q_t_now_line q_t_now_strides q_t_now_strains q_t_told_beats q_t_told_kinds _ t_now_down t_now_steps t_told_count t_told_depth t_told_noon t_told_depthBehind t_told_kinds t_now_strides t_told_beats x4 x1 x2 r10 e12) rfl rfl rfl rfl hl.1 rfl (Nat.le_of_ble_eq_true rfl) dX1_drillsOfOthers_54 ⟨Nat.zero_le _, Nat.zero_le _⟩ (fun H locs hP hS => ?_)
              replace hP : va_P (dC, dI) vwCl [(q_t, .inr (1, [.ref q_t_told, .ref q_t_now, .ref q_t_trial])), (q_t_told, .inr (3, [.ref q_t_told_beats, .ref q_t_told_kinds, .int t_told_count, .int t_told_depth, .int t_told_noon, .int t_told_depthBehind])), (q_t_now, .inr (6, [.ref q_t_told, .ref q_t_now_line, .ref q_t_now_strides, .ref q_t_now_strains, .int t_now_down, .int t_now_steps])), (q_t_told_kinds, .inl (cI, 5, .inl t_told_kinds)), (q_t_now_strides, .inl (cI, 5, .inl t_now_strides)), (q_t_told_beats, .inl (cI, 5, .inl t_told_beats))] H := hP
              refine lv_iadd hx hb dX1_drillsOfOthers_57 ?_
              refine lv_istore_n (lv' := [(3, .int (x3 + r10)), (0, .ref q_t), (1, .int x1), (2, .int x2), (4, .int x4)]) hx hb dX1_drillsOfOthers_58 rfl hl (by decide) rfl (fun ls hl => ?_)
              exact h_59 (x3 + r10) x4 _ _ _ hP hS (lv_sub hl [1, 2, 3, 0, 4] rfl) hf
  rw [f_X1_drillsOfOthers] at hf
  refine lv_iconst (v := 0) hx hb dX1_drillsOfOthers_0 (by decide) ?_
  refine lv_istore_n (lv' := [(3, .int 0), (0, .ref q_t), (1, .int x1), (2, .int x2)]) hx hb dX1_drillsOfOthers_1 rfl hl (by decide) rfl (fun ls hl => ?_)
  refine lv_iconst (v := 0) hx hb dX1_drillsOfOthers_2 (by decide) ?_
  refine lv_istore (lv' := [(4, .int 0), (3, .int 0), (0, .ref q_t), (1, .int x1), (2, .int x2)]) hx hb dX1_drillsOfOthers_3 hl (by decide) rfl (fun ls hl => ?_)
  exact h_5 x1 x2 fuelC 0 0 _ _ _ hP hS (lv_sub hl [2, 3, 4, 1, 0] rfl) hf
abbrev rm_X1_fewestDrills : Room := { frames := 6, cells := 0, slots := 0, locals := 137 }
set_option maxHeartbeats 4000000 in
set_option maxRecDepth 100000 in
theorem c_X1_fewestDrills (l : Launch) (dC : Nat → ClassId) (dI : Nat → Nat → Nat) (cI cZ : ClassId) (q_t q_t_told q_t_now q_t_trial q_t_now_line q_t_now_strides q_t_now_strains q_t_told_beats q_t_told_kinds : Nat) (sz : Nat) (t_now_down : Int32) (t_now_steps : Int32) (t_told_count : Int32) (t_told_depth : Int32) (t_told_noon : Int32) (t_told_depthBehind : Int32) (t_now_line : Nat → Int32) (t_now_strides : Nat → Int32) (t_told_kinds : Nat → Int32) (t_told_beats : Nat → Int32) (r_ : Int32) (hf : f_X1_fewestDrills t_now_down t_now_steps t_told_count t_told_depth t_told_noon t_told_depthBehind t_now_line t_now_strides t_told_kinds t_told_beats = some r_) : Met l yX1_fewestDrills wsX1_fewestDrills rm_X1_fewestDrills (va_Pc [.ref q_t] (PU (dC, dI) cI cZ [(q_t, .inr (1, [.ref q_t_told, .ref q_t_now, .ref q_t_trial])), (q_t_now, .inr (6, [.ref q_t_told, .ref q_t_now_line, .ref q_t_now_strides, .ref q_t_now_strains, .int t_now_down, .int t_now_steps])), (q_t_told, .inr (3, [.ref q_t_told_beats, .ref q_t_told_kinds, .int t_told_count, .int t_told_depth, .int t_told_noon, .int t_told_depthBehind])), (q_t_now_line, .inl (cI, 5, .inl t_now_line)), (q_t_now_strides, .inl (cI, 5, .inl t_now_strides)), (q_t_told_kinds, .inl (cI, 5, .inl t_told_kinds)), (q_t_told_beats, .inl (cI, 5, .inl t_told_beats))] sz)) (va_Qi (fun (r : Int32) (_ : Unit) => r = r_) (fun _ t => va_P (dC, dI) vwCl [(q_t, .inr (1, [.ref q_t_told, .ref q_t_now, .ref q_t_trial])), (q_t_now, .inr (6, [.ref q_t_told, .ref q_t_now_line, .ref q_t_now_strides, .ref q_t_now_strains, .int t_now_down, .int t_now_steps])), (q_t_told, .inr (3, [.ref q_t_told_beats, .ref q_t_told_kinds, .int t_told_count, .int t_told_depth, .int t_told_noon, .int t_told_depthBehind])), (q_t_now_line, .inl (cI, 5, .inl t_now_line)), (q_t_now_strides, .inl (cI, 5, .inl t_now_strides)), (q_t_told_kinds, .inl (cI, 5, .inl t_told_kinds)), (q_t_told_beats, .inl (cI, 5, .inl t_told_beats))] t.heap) (va_A [(q_t, .inr (1, [.ref q_t_told, .ref q_t_now, .ref q_t_trial])), (q_t_now, .inr (6, [.ref q_t_told, .ref q_t_now_line, .ref q_t_now_strides, .ref q_t_now_strains, .int t_now_down, .int t_now_steps])), (q_t_told, .inr (3, [.ref q_t_told_beats, .ref q_t_told_kinds, .int t_told_count, .int t_told_depth, .int t_told_noon, .int t_told_depthBehind])), (q_t_now_line, .inl (cI, 5, .inl t_now_line)), (q_t_now_strides, .inl (cI, 5, .inl t_now_strides)), (q_t_told_kinds, .inl (cI, 5, .inl t_told_kinds)), (q_t_told_beats, .inl (cI, 5, .inl t_told_beats))] sz)) 0 0 (va_A [(q_t, .inr (1, [.ref q_t_told, .ref q_t_now, .ref q_t_trial])), (q_t_now, .inr (6, [.ref q_t_told, .ref q_t_now_line, .ref q_t_now_strides, .ref q_t_now_strains, .int t_now_down, .int t_now_steps])), (q_t_told, .inr (3, [.ref q_t_told_beats, .ref q_t_told_kinds, .int t_told_count, .int t_told_depth, .int t_told_noon, .int t_told_depthBehind])), (q_t_now_line, .inl (cI, 5, .inl t_now_line)), (q_t_now_strides, .inl (cI, 5, .inl t_now_strides)), (q_t_told_kinds, .inl (cI, 5, .inl t_told_kinds)), (q_t_told_beats, .inl (cI, 5, .inl t_told_beats))] sz) := by
  refine MetI (cc := cX1_fewestDrills) (maxL := 4) (by decide) rfl (Nat.le_of_ble_eq_true rfl) (fun _ h => h) ?_
  intro p e s m args below meth c A Q ls hx CF hK hA hD hP hS hl hB hAe hsz hret
  have hb := CF.2.1
  have hml := CF.2.2.1
  have hown := CF.2.2.2.1
  have hts := CF.2.2.2.2
  have hD0 := hD
  replace hl : lv_has ls 4 [(0, .ref q_t)] := hl
  have hinX1 : ∀ w ∈ wsX10, w ∈ wsX1_fewestDrills := fun _ h => List.mem_cons_of_mem _ (List.mem_append_left _ (List.mem_append_left _ (List.mem_append_right _ h)))
  have hinX6 : ∀ w ∈ wsX60, w ∈ wsX1_fewestDrills := fun _ h => List.mem_cons_of_mem _ (List.mem_append_left _ (List.mem_append_right _ h))
  have hinX3 : ∀ w ∈ wsX30, w ∈ wsX1_fewestDrills := fun _ h => List.mem_cons_of_mem _ (List.mem_append_right _ h)
  have w_0 := hts (.methodLink RX1 76 Lib.Math.abs.name) (by decide +kernel)
  have w_1 := hts (.static Lib.Math.abs.name) (by decide +kernel)
  have w_2 := hts (.initialized "java/lang/Math") (by decide +kernel)
  have w_3 := hts (.code Lib.Math.abs.name Lib.Math.abs.code 1 (some .int)) (by decide +kernel)
  have w_4 := hts (.methodLink RX1 85 Lib.Math.min.name) (by decide +kernel)
  have w_5 := hts (.static Lib.Math.min.name) (by decide +kernel)
  have w_6 := hts (.code Lib.Math.min.name Lib.Math.min.code 2 (some .int)) (by decide +kernel)
  have w_7 := hts (.fieldLink RX1 15 "PassInStep$Foresight" "now" "LPassInStep$Yard;") (by decide +kernel)
  have h_22 : ∀ (x1 : Int32) (fu22 : Nat) (x2 : Int32) (x3 : Int32) (H : Heap) (locs : List Loc) (ls : Array Slot), va_P (dC, dI) vwCl [(q_t, .inr (1, [.ref q_t_told, .ref q_t_now, .ref q_t_trial])), (q_t_now, .inr (6, [.ref q_t_told, .ref q_t_now_line, .ref q_t_now_strides, .ref q_t_now_strains, .int t_now_down, .int t_now_steps])), (q_t_told, .inr (3, [.ref q_t_told_beats, .ref q_t_told_kinds, .int t_told_count, .int t_told_depth, .int t_told_noon, .int t_told_depthBehind])), (q_t_now_line, .inl (cI, 5, .inl t_now_line)), (q_t_now_strides, .inl (cI, 5, .inl t_now_strides)), (q_t_told_kinds, .inl (cI, 5, .inl t_told_kinds)), (q_t_told_beats, .inl (cI, 5, .inl t_told_beats))] H → va_S A s.heap H locs → lv_has ls 4 [(0, .ref q_t), (1, .int x1), (2, .int x2), (3, .int x3)] → L_X1_fewestDrills_22 x1 t_now_down t_now_steps t_told_count t_told_depth t_told_noon t_told_depthBehind t_now_strides t_told_kinds t_told_beats fu22 x2 x3 = some r_ → W p l e rm_X1_fewestDrills s m args below meth c H locs 0 0 Q (F0 m 22 ls []) := by
    intro x1 fu22
    induction fu22 with
    | zero =>
      intro x2 x3 H locs ls hP hS hl hf
      rw [L_X1_fewestDrills_22] at hf
      cases hf
    | succ fu22 ih22 =>
      have h_61 : ∀ (x2 : Int32) (x3 : Int32) (H : Heap) (locs : List Loc) (ls : Array Slot), va_P (dC, dI) vwCl [(q_t, .inr (1, [.ref q_t_told, .ref q_t_now, .ref q_t_trial])), (q_t_now, .inr (6, [.ref q_t_told, .ref q_t_now_line, .ref q_t_now_strides, .ref q_t_now_strains, .int t_now_down, .int t_now_steps])), (q_t_told, .inr (3, [.ref q_t_told_beats, .ref q_t_told_kinds, .int t_told_count, .int t_told_depth, .int t_told_noon, .int t_told_depthBehind])), (q_t_now_line, .inl (cI, 5, .inl t_now_line)), (q_t_now_strides, .inl (cI, 5, .inl t_now_strides)), (q_t_told_kinds, .inl (cI, 5, .inl t_told_kinds)), (q_t_told_beats, .inl (cI, 5, .inl t_told_beats))] H → va_S A s.heap H locs → lv_has ls 4 [(0, .ref q_t), (1, .int x1), (2, .int x2), (3, .int x3)] → J_X1_fewestDrills_61 (L_X1_fewestDrills_22 x1 t_now_down t_now_steps t_told_count t_told_depth t_told_noon t_told_depthBehind t_now_strides t_told_kinds t_told_beats fu22) x2 x3 = some r_ → W p l e rm_X1_fewestDrills s m args below meth c H locs 0 0 Q (F0 m 61 ls []) := by
        intro x2 x3 H locs ls hP hS hl hf
        have hD : va_D A [(q_t, .inr (1, [.ref q_t_told, .ref q_t_now, .ref q_t_trial])), (q_t_now, .inr (6, [.ref q_t_told, .ref q_t_now_line, .ref q_t_now_strides, .ref q_t_now_strains, .int t_now_down, .int t_now_steps])), (q_t_told, .inr (3, [.ref q_t_told_beats, .ref q_t_told_kinds, .int t_told_count, .int t_told_depth, .int t_told_noon, .int t_told_depthBehind])), (q_t_now_line, .inl (cI, 5, .inl t_now_line)), (q_t_now_strides, .inl (cI, 5, .inl t_now_strides)), (q_t_told_kinds, .inl (cI, 5, .inl t_told_kinds)), (q_t_told_beats, .inl (cI, 5, .inl t_told_beats))] := wd hD0 rfl
        rw [J_X1_fewestDrills_61] at hf
        refine lv_iinc (v := (x3 + 1)) (lv' := [(3, .int (x3 + 1)), (0, .ref q_t), (1, .int x1), (2, .int x2)]) hx hb dX1_fewestDrills_61 hl (k := 3) rfl rfl (by decide) rfl (fun ls hl => ?_)
        refine lv_goto (tgt := 22) hx hb dX1_fewestDrills_64 (by decide) ?_
        exact ih22 x2 (x3 + 1) _ _ _ hP hS (lv_sub hl [1, 2, 3, 0] rfl) hf
      intro x2 x3 H locs ls hP hS hl hf
      have hD : va_D A [(q_t, .inr (1, [.ref q_t_told, .ref q_t_now, .ref q_t_trial])), (q_t_now, .inr (6, [.ref q_t_told, .ref q_t_now_line, .ref q_t_now_strides, .ref q_t_now_strains, .int t_now_down, .int t_now_steps])), (q_t_told, .inr (3, [.ref q_t_told_beats, .ref q_t_told_kinds, .int t_told_count, .int t_told_depth, .int t_told_noon, .int t_told_depthBehind])), (q_t_now_line, .inl (cI, 5, .inl t_now_line)), (q_t_now_strides, .inl (cI, 5, .inl t_now_strides)), (q_t_told_kinds, .inl (cI, 5, .inl t_told_kinds)), (q_t_told_beats, .inl (cI, 5, .inl t_told_beats))] := wd hD0 rfl
      rw [L_X1_fewestDrills_22] at hf
      refine lv_iload_n hx hb dX1_fewestDrills_22 rfl (lv_at hl 3 rfl) ?_
      refine lv_iconst (v := 2) hx hb dX1_fewestDrills_23 (by decide) ?_
      refine lv_icmp_gt (tgt := 67) hx hb dX1_fewestDrills_24 (by decide) (fun hc => ?_) (fun hc => ?_)
      · replace hf := ip hc hf
        refine lv_iload_n hx hb dX1_fewestDrills_67 rfl (lv_at hl 2 rfl) ?_
        refine lv_bipush (v := 11) hx hb dX1_fewestDrills_68 (by decide) ?_
        refine lv_icmp_lt (tgt := 78) hx hb dX1_fewestDrills_70 (by decide) (fun hc => ?_) (fun hc => ?_)
        · replace hf := ip hc hf
          refine lv_iload_n hx hb dX1_fewestDrills_78 rfl (lv_at hl 2 rfl) ?_
          have e0 := ij1 hf
          refine W.eq (congrArg (fun z => F0 m 79 ls [.int z]) e0) ?_
          exact hret _ _ _ _ hP hS dX1_fewestDrills_79
        · replace hf := iq hc hf
          refine lv_bipush (v := (-9)) hx hb dX1_fewestDrills_73 (by decide) ?_
          refine lv_goto (tgt := 79) hx hb dX1_fewestDrills_75 (by decide) ?_
          have e0 := ij1 hf
          refine W.eq (congrArg (fun z => F0 m 79 ls [.int z]) e0) ?_
          exact hret _ _ _ _ hP hS dX1_fewestDrills_79
      · replace hf := iq hc hf
        refine lv_aload_n hx hb dX1_fewestDrills_27 rfl (lv_at hl 0 rfl) ?_
        refine lv_iload_n hx hb dX1_fewestDrills_28 rfl (lv_at hl 1 rfl) ?_
        refine lv_iload_n hx hb dX1_fewestDrills_29 rfl (lv_at hl 3 rfl) ?_
        obtain ⟨r1, e3, hf⟩ := bd_ok hf
        refine kVi (As := [.int x1, .int x3]) CF (cwV 2 hts gX1_fewestDrills_X1_canDrillBy rfl rfl rfl (by decide +kernel) ⟨Nat.le_of_ble_eq_true rfl, Nat.le_of_ble_eq_true rfl⟩) PU_blind hP hD hS hA (va_recv hK.1 hP (ci := 1) (q0 := 0) rfl rfl) [0, 1, 4] (fun h1 h2 h3 => PU_pre hK h1 A h2 h3) (c_X1_canDrillBy l dC dI cI cZ q_t q_t_told q_t_now q_t_trial q_t_now_line q_t_now_strides q_t_now_strains _ t_now_down t_now_steps t_now_strides x1 x3 r1 e3) rfl rfl rfl rfl hl.1 rfl (Nat.le_of_ble_eq_true rfl) dX1_fewestDrills_30 ⟨Nat.zero_le _, Nat.zero_le _⟩ (fun H locs hP hS => ?_)
        replace hP : va_P (dC, dI) vwCl [(q_t, .inr (1, [.ref q_t_told, .ref q_t_now, .ref q_t_trial])), (q_t_now, .inr (6, [.ref q_t_told, .ref q_t_now_line, .ref q_t_now_strides, .ref q_t_now_strains, .int t_now_down, .int t_now_steps])), (q_t_told, .inr (3, [.ref q_t_told_beats, .ref q_t_told_kinds, .int t_told_count, .int t_told_depth, .int t_told_noon, .int t_told_depthBehind])), (q_t_now_line, .inl (cI, 5, .inl t_now_line)), (q_t_now_strides, .inl (cI, 5, .inl t_now_strides)), (q_t_told_kinds, .inl (cI, 5, .inl t_told_kinds)), (q_t_told_beats, .inl (cI, 5, .inl t_told_beats))] H := hP
        refine lv_if_eq (tgt := 61) hx hb dX1_fewestDrills_33 (by decide) (fun hc => ?_) (fun hc => ?_)
        · replace hf := ip hc hf
          exact h_61 x2 x3 _ _ _ hP hS (lv_sub hl [0, 1, 2, 3] rfl) hf
        · replace hf := iq hc hf
          refine lv_aload_n hx hb dX1_fewestDrills_36 rfl (lv_at hl 0 rfl) ?_
          refine lv_iload_n hx hb dX1_fewestDrills_37 rfl (lv_at hl 1 rfl) ?_
          refine lv_iload_n hx hb dX1_fewestDrills_38 rfl (lv_at hl 3 rfl) ?_
          obtain ⟨r4, e6, hf⟩ := bd_ok hf
          refine kVi (As := [.int x1, .int x3]) CF (cwV 2 hts gX1_fewestDrills_X1_snowHolds rfl rfl rfl (by decide +kernel) ⟨Nat.le_of_ble_eq_true rfl, Nat.le_of_ble_eq_true rfl⟩) PU_blind hP hD hS hA (va_recv hK.1 hP (ci := 1) (q0 := 0) rfl rfl) [0, 1, 2, 5, 4, 6] (fun h1 h2 h3 => PU_pre hK h1 A h2 h3) (c_X1_snowHolds l dC dI cI cZ q_t q_t_told q_t_now q_t_trial q_t_now_line q_t_now_strides q_t_now_strains q_t_told_beats q_t_told_kinds _ t_now_down t_now_steps t_told_count t_told_depth t_told_noon t_told_depthBehind t_told_kinds t_now_strides t_told_beats x1 x3 r4 e6) rfl rfl rfl rfl hl.1 rfl (Nat.le_of_ble_eq_true rfl) dX1_fewestDrills_39 ⟨Nat.zero_le _, Nat.zero_le _⟩ (fun H locs hP hS => ?_)
          replace hP : va_P (dC, dI) vwCl [(q_t, .inr (1, [.ref q_t_told, .ref q_t_now, .ref q_t_trial])), (q_t_now, .inr (6, [.ref q_t_told, .ref q_t_now_line, .ref q_t_now_strides, .ref q_t_now_strains, .int t_now_down, .int t_now_steps])), (q_t_told, .inr (3, [.ref q_t_told_beats, .ref q_t_told_kinds, .int t_told_count, .int t_told_depth, .int t_told_noon, .int t_told_depthBehind])), (q_t_now_line, .inl (cI, 5, .inl t_now_line)), (q_t_now_strides, .inl (cI, 5, .inl t_now_strides)), (q_t_told_kinds, .inl (cI, 5, .inl t_told_kinds)), (q_t_told_beats, .inl (cI, 5, .inl t_told_beats))] H := hP
          refine lv_if_eq (tgt := 61) hx hb dX1_fewestDrills_42 (by decide) (fun hc => ?_) (fun hc => ?_)
          · replace hf := ip hc hf
            exact h_61 x2 x3 _ _ _ hP hS (lv_sub hl [0, 1, 2, 3] rfl) hf
          · replace hf := iq hc hf
            refine lv_iload_n hx hb dX1_fewestDrills_45 rfl (lv_at hl 2 rfl) ?_
            refine lv_iload_n hx hb dX1_fewestDrills_46 rfl (lv_at hl 3 rfl) ?_
            refine va_mabs hx hb (hml.trans hl.1.symm) hown w_0 w_1 w_2 w_3 (Nat.le_of_ble_eq_true rfl) (Nat.le_of_ble_eq_true rfl) (Nat.zero_le _) (Nat.zero_le _) dX1_fewestDrills_47 ?_
            refine lv_aload_n hx hb dX1_fewestDrills_50 rfl (lv_at hl 0 rfl) ?_
            refine lv_iload_n hx hb dX1_fewestDrills_51 rfl (lv_at hl 1 rfl) ?_
            refine lv_iload_n hx hb dX1_fewestDrills_52 rfl (lv_at hl 3 rfl) ?_
            obtain ⟨r7, e9, hf⟩ := bd_ok hf
            refine kVi (As := [.int x1, .int x3]) CF (cwV 2 hts gX1_fewestDrills_X1_drillsOfOthers rfl rfl rfl (by decide +kernel) ⟨Nat.le_of_ble_eq_true rfl, Nat.le_of_ble_eq_true rfl⟩) PU_blind hP hD hS hA (va_recv hK.1 hP (ci := 1) (q0 := 0) rfl rfl) [0, 2, 1, 5, 4, 6] (fun h1 h2 h3 => PU_pre hK h1 A h2 h3) (c_X1_drillsOfOthers l dC dI cI cZ q_t q_t_told q_t_now q_t_trial q_t_told_beats q_t_told_kinds q_t_now_line q_t_now_strides q_t_now_strains _ t_told_count t_told_depth t_told_noon t_told_depthBehind t_now_down t_now_steps t_told_kinds t_now_strides t_told_beats x1 x3 r7 e9) rfl rfl rfl rfl hl.1 rfl (Nat.le_of_ble_eq_true rfl) dX1_fewestDrills_53 ⟨Nat.zero_le _, Nat.zero_le _⟩ (fun H locs hP hS => ?_)
            replace hP : va_P (dC, dI) vwCl [(q_t, .inr (1, [.ref q_t_told, .ref q_t_now, .ref q_t_trial])), (q_t_now, .inr (6, [.ref q_t_told, .ref q_t_now_line, .ref q_t_now_strides, .ref q_t_now_strains, .int t_now_down, .int t_now_steps])), (q_t_told, .inr (3, [.ref q_t_told_beats, .ref q_t_told_kinds, .int t_told_count, .int t_told_depth, .int t_told_noon, .int t_told_depthBehind])), (q_t_now_line, .inl (cI, 5, .inl t_now_line)), (q_t_now_strides, .inl (cI, 5, .inl t_now_strides)), (q_t_told_kinds, .inl (cI, 5, .inl t_told_kinds)), (q_t_told_beats, .inl (cI, 5, .inl t_told_beats))] H := hP
            refine lv_iadd hx hb dX1_fewestDrills_56 ?_
            refine va_mmin hx hb (hml.trans hl.1.symm) hown w_4 w_5 w_2 w_6 (Nat.le_of_ble_eq_true rfl) (Nat.le_of_ble_eq_true rfl) (Nat.zero_le _) (Nat.zero_le _) dX1_fewestDrills_57 ?_
            refine lv_istore_n (lv' := [(2, .int (if ((if 0 ≤ x3 then x3 else 0 - x3) + r7) < x2 then ((if 0 ≤ x3 then x3 else 0 - x3) + r7) else x2)), (0, .ref q_t), (1, .int x1), (3, .int x3)]) hx hb dX1_fewestDrills_60 rfl hl (by decide) rfl (fun ls hl => ?_)
            exact h_61 (if ((if 0 ≤ x3 then x3 else 0 - x3) + r7) < x2 then ((if 0 ≤ x3 then x3 else 0 - x3) + r7) else x2) x3 _ _ _ hP hS (lv_sub hl [1, 2, 0, 3] rfl) hf
  rw [f_X1_fewestDrills] at hf
  refine lv_aload_n hx hb dX1_fewestDrills_0 rfl (lv_at hl 0 rfl) ?_
  refine va_get (D := (dC, dI)) (ci := 1) (v := .ref q_t_now) (C := RX1) (T := TX1) (N := 3) hx hb hts hinX1 hown hK.1 hP 0 rfl rfl 1 (by decide) w_7 (fun _ h9 => h9) rfl dX1_fewestDrills_1 ?_
  obtain ⟨r10, e12, hf⟩ := bd_ok hf
  refine kVi (As := []) CF (cwV 0 hts gX1_fewestDrills_X6_firstStanding rfl rfl rfl (by decide +kernel) ⟨Nat.le_of_ble_eq_true rfl, Nat.le_of_ble_eq_true rfl⟩) PU_blind hP hD hS hA (va_recv hK.1 hP (ci := 6) (q0 := 1) rfl rfl) [1, 2, 3] (fun h1 h2 h3 => PU_pre hK h1 A h2 h3) (c_X6_firstStanding l dC dI cI cZ q_t_now q_t_told q_t_now_line q_t_now_strides q_t_now_strains q_t_told_beats q_t_told_kinds _ t_now_down t_now_steps t_told_count t_told_depth t_told_noon t_told_depthBehind t_now_line r10 e12) rfl rfl rfl rfl hl.1 rfl (Nat.le_of_ble_eq_true rfl) dX1_fewestDrills_4 ⟨Nat.zero_le _, Nat.zero_le _⟩ (fun H locs hP hS => ?_)
  replace hP : va_P (dC, dI) vwCl [(q_t, .inr (1, [.ref q_t_told, .ref q_t_now, .ref q_t_trial])), (q_t_now, .inr (6, [.ref q_t_told, .ref q_t_now_line, .ref q_t_now_strides, .ref q_t_now_strains, .int t_now_down, .int t_now_steps])), (q_t_told, .inr (3, [.ref q_t_told_beats, .ref q_t_told_kinds, .int t_told_count, .int t_told_depth, .int t_told_noon, .int t_told_depthBehind])), (q_t_now_line, .inl (cI, 5, .inl t_now_line)), (q_t_now_strides, .inl (cI, 5, .inl t_now_strides)), (q_t_told_kinds, .inl (cI, 5, .inl t_told_kinds)), (q_t_told_beats, .inl (cI, 5, .inl t_told_beats))] H := hP
  refine lv_istore_n (lv' := [(1, .int r10), (0, .ref q_t)]) hx hb dX1_fewestDrills_7 rfl hl (by decide) rfl (fun ls hl => ?_)
  refine lv_iload_n hx hb dX1_fewestDrills_8 rfl (lv_at hl 0 rfl) ?_
  refine lv_bipush (v := (-9)) hx hb dX1_fewestDrills_9 (by decide) ?_
  refine lv_icmp_ne (tgt := 16) hx hb dX1_fewestDrills_11 (by decide) (fun hc => ?_) (fun hc => ?_)
  · replace hf := iq hc hf
    refine lv_bipush (v := 11) hx hb dX1_fewestDrills_16 (by decide) ?_
    refine lv_istore_n (lv' := [(2, .int 11), (1, .int r10), (0, .ref q_t)]) hx hb dX1_fewestDrills_18 rfl hl (by decide) rfl (fun ls hl => ?_)
    refine lv_bipush (v := (-2)) hx hb dX1_fewestDrills_19 (by decide) ?_
    refine lv_istore_n (lv' := [(3, .int (-2)), (2, .int 11), (1, .int r10), (0, .ref q_t)]) hx hb dX1_fewestDrills_21 rfl hl (by decide) rfl (fun ls hl => ?_)
    exact h_22 r10 fuelC 11 (-2) _ _ _ hP hS (lv_sub hl [3, 2, 1, 0] rfl) hf
  · replace hf := ip hc hf
    refine lv_iconst (v := 0) hx hb dX1_fewestDrills_14 (by decide) ?_
    have e0 := ij1 hf
    refine W.eq (congrArg (fun z => F0 m 15 ls [.int z]) e0) ?_
    exact hret _ _ _ _ hP hS dX1_fewestDrills_15
abbrev rm_X1_meeting : Room := { frames := 4, cells := 0, slots := 0, locals := 88 }
set_option maxHeartbeats 4000000 in
set_option maxRecDepth 100000 in
theorem c_X1_meeting (l : Launch) (dC : Nat → ClassId) (dI : Nat → Nat → Nat) (cI cZ : ClassId) (q_t q_t_told q_t_now q_t_trial q_t_now_line q_t_now_strides q_t_now_strains q_t_told_beats q_t_told_kinds : Nat) (sz : Nat) (t_now_down : Int32) (t_now_steps : Int32) (t_told_count : Int32) (t_told_depth : Int32) (t_told_noon : Int32) (t_told_depthBehind : Int32) (t_told_kinds : Nat → Int32) (t_now_strides : Nat → Int32) (t_told_beats : Nat → Int32) (x1 : Int32) (x2 : Int32) (r_ : Int32) (hf : f_X1_meeting x1 x2 t_now_steps t_told_kinds t_now_strides t_told_beats = some r_) : Met l yX1_meeting wsX1_meeting rm_X1_meeting (va_Pc [.ref q_t, .int x1, .int x2] (PU (dC, dI) cI cZ [(q_t, .inr (1, [.ref q_t_told, .ref q_t_now, .ref q_t_trial])), (q_t_now, .inr (6, [.ref q_t_told, .ref q_t_now_line, .ref q_t_now_strides, .ref q_t_now_strains, .int t_now_down, .int t_now_steps])), (q_t_told, .inr (3, [.ref q_t_told_beats, .ref q_t_told_kinds, .int t_told_count, .int t_told_depth, .int t_told_noon, .int t_told_depthBehind])), (q_t_told_kinds, .inl (cI, 5, .inl t_told_kinds)), (q_t_now_strides, .inl (cI, 5, .inl t_now_strides)), (q_t_told_beats, .inl (cI, 5, .inl t_told_beats))] sz)) (va_Qi (fun (r : Int32) (_ : Unit) => r = r_) (fun _ t => va_P (dC, dI) vwCl [(q_t, .inr (1, [.ref q_t_told, .ref q_t_now, .ref q_t_trial])), (q_t_now, .inr (6, [.ref q_t_told, .ref q_t_now_line, .ref q_t_now_strides, .ref q_t_now_strains, .int t_now_down, .int t_now_steps])), (q_t_told, .inr (3, [.ref q_t_told_beats, .ref q_t_told_kinds, .int t_told_count, .int t_told_depth, .int t_told_noon, .int t_told_depthBehind])), (q_t_told_kinds, .inl (cI, 5, .inl t_told_kinds)), (q_t_now_strides, .inl (cI, 5, .inl t_now_strides)), (q_t_told_beats, .inl (cI, 5, .inl t_told_beats))] t.heap) (va_A [(q_t, .inr (1, [.ref q_t_told, .ref q_t_now, .ref q_t_trial])), (q_t_now, .inr (6, [.ref q_t_told, .ref q_t_now_line, .ref q_t_now_strides, .ref q_t_now_strains, .int t_now_down, .int t_now_steps])), (q_t_told, .inr (3, [.ref q_t_told_beats, .ref q_t_told_kinds, .int t_told_count, .int t_told_depth, .int t_told_noon, .int t_told_depthBehind])), (q_t_told_kinds, .inl (cI, 5, .inl t_told_kinds)), (q_t_now_strides, .inl (cI, 5, .inl t_now_strides)), (q_t_told_beats, .inl (cI, 5, .inl t_told_beats))] sz)) 0 0 (va_A [(q_t, .inr (1, [.ref q_t_told, .ref q_t_now, .ref q_t_trial])), (q_t_now, .inr (6, [.ref q_t_told, .ref q_t_now_line, .ref q_t_now_strides, .ref q_t_now_strains, .int t_now_down, .int t_now_steps])), (q_t_told, .inr (3, [.ref q_t_told_beats, .ref q_t_told_kinds, .int t_told_count, .int t_told_depth, .int t_told_noon, .int t_told_depthBehind])), (q_t_told_kinds, .inl (cI, 5, .inl t_told_kinds)), (q_t_now_strides, .inl (cI, 5, .inl t_now_strides)), (q_t_told_beats, .inl (cI, 5, .inl t_told_beats))] sz) := by
  refine MetI (cc := cX1_meeting) (maxL := 4) (by decide) rfl (Nat.le_of_ble_eq_true rfl) (fun _ h => h) ?_
  intro p e s m args below meth c A Q ls hx CF hK hA hD hP hS hl hB hAe hsz hret
  have hb := CF.2.1
  have hml := CF.2.2.1
  have hown := CF.2.2.2.1
  have hts := CF.2.2.2.2
  have hD0 := hD
  replace hl : lv_has ls 4 [(0, .ref q_t), (1, .int x1), (2, .int x2)] := hl
  have hinX1 : ∀ w ∈ wsX10, w ∈ wsX1_meeting := fun _ h => List.mem_cons_of_mem _ (List.mem_append_left _ (List.mem_append_left _ (List.mem_append_right _ h)))
  have hinX6 : ∀ w ∈ wsX60, w ∈ wsX1_meeting := fun _ h => List.mem_cons_of_mem _ (List.mem_append_left _ (List.mem_append_right _ h))
  have hinX3 : ∀ w ∈ wsX30, w ∈ wsX1_meeting := fun _ h => List.mem_cons_of_mem _ (List.mem_append_right _ h)
  have h_2 : ∀ (x1 : Int32) (x2 : Int32) (fu2 : Nat) (x3 : Int32) (H : Heap) (locs : List Loc) (ls : Array Slot), va_P (dC, dI) vwCl [(q_t, .inr (1, [.ref q_t_told, .ref q_t_now, .ref q_t_trial])), (q_t_now, .inr (6, [.ref q_t_told, .ref q_t_now_line, .ref q_t_now_strides, .ref q_t_now_strains, .int t_now_down, .int t_now_steps])), (q_t_told, .inr (3, [.ref q_t_told_beats, .ref q_t_told_kinds, .int t_told_count, .int t_told_depth, .int t_told_noon, .int t_told_depthBehind])), (q_t_told_kinds, .inl (cI, 5, .inl t_told_kinds)), (q_t_now_strides, .inl (cI, 5, .inl t_now_strides)), (q_t_told_beats, .inl (cI, 5, .inl t_told_beats))] H → va_S A s.heap H locs → lv_has ls 4 [(0, .ref q_t), (1, .int x1), (2, .int x2), (3, .int x3)] → L_X1_meeting_2 x1 x2 t_now_steps t_told_kinds t_now_strides t_told_beats fu2 x3 = some r_ → W p l e rm_X1_meeting s m args below meth c H locs 0 0 Q (F0 m 2 ls []) := by
    intro x1 x2 fu2
    induction fu2 with
    | zero =>
      intro x3 H locs ls hP hS hl hf
      rw [L_X1_meeting_2] at hf
      cases hf
    | succ fu2 ih2 =>
      intro x3 H locs ls hP hS hl hf
      have hD : va_D A [(q_t, .inr (1, [.ref q_t_told, .ref q_t_now, .ref q_t_trial])), (q_t_now, .inr (6, [.ref q_t_told, .ref q_t_now_line, .ref q_t_now_strides, .ref q_t_now_strains, .int t_now_down, .int t_now_steps])), (q_t_told, .inr (3, [.ref q_t_told_beats, .ref q_t_told_kinds, .int t_told_count, .int t_told_depth, .int t_told_noon, .int t_told_depthBehind])), (q_t_told_kinds, .inl (cI, 5, .inl t_told_kinds)), (q_t_now_strides, .inl (cI, 5, .inl t_now_strides)), (q_t_told_beats, .inl (cI, 5, .inl t_told_beats))] := wd hD0 rfl
      rw [L_X1_meeting_2] at hf
      refine lv_iload_n hx hb dX1_meeting_2 rfl (lv_at hl 3 rfl) ?_
      refine lv_bipush (v := 24) hx hb dX1_meeting_3 (by decide) ?_
      refine lv_icmp_gt (tgt := 26) hx hb dX1_meeting_5 (by decide) (fun hc => ?_) (fun hc => ?_)
      · replace hf := ip hc hf
        refine lv_bipush (v := (-9)) hx hb dX1_meeting_26 (by decide) ?_
        have e0 := ij1 hf
        refine W.eq (congrArg (fun z => F0 m 28 ls [.int z]) e0) ?_
        exact hret _ _ _ _ hP hS dX1_meeting_28
      · replace hf := iq hc hf
        refine lv_aload_n hx hb dX1_meeting_8 rfl (lv_at hl 0 rfl) ?_
        refine lv_iload_n hx hb dX1_meeting_9 rfl (lv_at hl 1 rfl) ?_
        refine lv_iload_n hx hb dX1_meeting_10 rfl (lv_at hl 2 rfl) ?_
        refine lv_iload_n hx hb dX1_meeting_11 rfl (lv_at hl 3 rfl) ?_
        obtain ⟨r1, e3, hf⟩ := bd_ok hf
        refine kVi (As := [.int x1, .int x2, .int x3]) CF (cwV 3 hts gX1_meeting_X1_apart rfl rfl rfl (by decide +kernel) ⟨Nat.le_of_ble_eq_true rfl, Nat.le_of_ble_eq_true rfl⟩) PU_blind hP hD hS hA (va_recv hK.1 hP (ci := 1) (q0 := 0) rfl rfl) [0, 1, 2, 3, 4, 5] (fun h1 h2 h3 => PU_pre hK h1 A h2 h3) (c_X1_apart l dC dI cI cZ q_t q_t_told q_t_now q_t_trial q_t_now_line q_t_now_strides q_t_now_strains q_t_told_beats q_t_told_kinds _ t_now_down t_now_steps t_told_count t_told_depth t_told_noon t_told_depthBehind t_told_kinds t_now_strides t_told_beats x1 x2 x3 r1 e3) rfl rfl rfl rfl hl.1 rfl (Nat.le_of_ble_eq_true rfl) dX1_meeting_12 ⟨Nat.zero_le _, Nat.zero_le _⟩ (fun H locs hP hS => ?_)
        replace hP : va_P (dC, dI) vwCl [(q_t, .inr (1, [.ref q_t_told, .ref q_t_now, .ref q_t_trial])), (q_t_now, .inr (6, [.ref q_t_told, .ref q_t_now_line, .ref q_t_now_strides, .ref q_t_now_strains, .int t_now_down, .int t_now_steps])), (q_t_told, .inr (3, [.ref q_t_told_beats, .ref q_t_told_kinds, .int t_told_count, .int t_told_depth, .int t_told_noon, .int t_told_depthBehind])), (q_t_told_kinds, .inl (cI, 5, .inl t_told_kinds)), (q_t_now_strides, .inl (cI, 5, .inl t_now_strides)), (q_t_told_beats, .inl (cI, 5, .inl t_told_beats))] H := hP
        refine lv_if_ne (tgt := 20) hx hb dX1_meeting_15 (by decide) (fun hc => ?_) (fun hc => ?_)
        · replace hf := iq hc hf
          refine lv_iinc (v := (x3 + 1)) (lv' := [(3, .int (x3 + 1)), (0, .ref q_t), (1, .int x1), (2, .int x2)]) hx hb dX1_meeting_20 hl (k := 3) rfl rfl (by decide) rfl (fun ls hl => ?_)
          refine lv_goto (tgt := 2) hx hb dX1_meeting_23 (by decide) ?_
          exact ih2 (x3 + 1) _ _ _ hP hS (lv_sub hl [1, 2, 3, 0] rfl) hf
        · replace hf := ip hc hf
          refine lv_iload_n hx hb dX1_meeting_18 rfl (lv_at hl 3 rfl) ?_
          have e0 := ij1 hf
          refine W.eq (congrArg (fun z => F0 m 19 ls [.int z]) e0) ?_
          exact hret _ _ _ _ hP hS dX1_meeting_19
  rw [f_X1_meeting] at hf
  refine lv_iconst (v := 0) hx hb dX1_meeting_0 (by decide) ?_
  refine lv_istore_n (lv' := [(3, .int 0), (0, .ref q_t), (1, .int x1), (2, .int x2)]) hx hb dX1_meeting_1 rfl hl (by decide) rfl (fun ls hl => ?_)
  exact h_2 x1 x2 fuelC 0 _ _ _ hP hS (lv_sub hl [1, 2, 3, 0] rfl) hf
abbrev rm_X1_likedTread : Room := { frames := 1, cells := 0, slots := 0, locals := 21 }
set_option maxHeartbeats 4000000 in
set_option maxRecDepth 100000 in
theorem c_X1_likedTread (l : Launch) (dC : Nat → ClassId) (dI : Nat → Nat → Nat) (cI cZ : ClassId) (q_t q_t_told q_t_now q_t_trial q_t_now_line q_t_now_strides q_t_now_strains q_t_told_beats q_t_told_kinds : Nat) (sz : Nat) (t_now_down : Int32) (t_now_steps : Int32) (t_told_count : Int32) (t_told_depth : Int32) (t_told_noon : Int32) (t_told_depthBehind : Int32) (r_ : Int32) (hf : f_X1_likedTread t_now_steps t_told_depth t_told_noon t_told_depthBehind = some r_) : Met l yX1_likedTread wsX1_likedTread rm_X1_likedTread (va_Pc [.ref q_t] (PU (dC, dI) cI cZ [(q_t, .inr (1, [.ref q_t_told, .ref q_t_now, .ref q_t_trial])), (q_t_now, .inr (6, [.ref q_t_told, .ref q_t_now_line, .ref q_t_now_strides, .ref q_t_now_strains, .int t_now_down, .int t_now_steps])), (q_t_told, .inr (3, [.ref q_t_told_beats, .ref q_t_told_kinds, .int t_told_count, .int t_told_depth, .int t_told_noon, .int t_told_depthBehind]))] sz)) (va_Qi (fun (r : Int32) (_ : Unit) => r = r_) (fun _ t => va_P (dC, dI) vwCl [(q_t, .inr (1, [.ref q_t_told, .ref q_t_now, .ref q_t_trial])), (q_t_now, .inr (6, [.ref q_t_told, .ref q_t_now_line, .ref q_t_now_strides, .ref q_t_now_strains, .int t_now_down, .int t_now_steps])), (q_t_told, .inr (3, [.ref q_t_told_beats, .ref q_t_told_kinds, .int t_told_count, .int t_told_depth, .int t_told_noon, .int t_told_depthBehind]))] t.heap) (va_A [(q_t, .inr (1, [.ref q_t_told, .ref q_t_now, .ref q_t_trial])), (q_t_now, .inr (6, [.ref q_t_told, .ref q_t_now_line, .ref q_t_now_strides, .ref q_t_now_strains, .int t_now_down, .int t_now_steps])), (q_t_told, .inr (3, [.ref q_t_told_beats, .ref q_t_told_kinds, .int t_told_count, .int t_told_depth, .int t_told_noon, .int t_told_depthBehind]))] sz)) 0 0 (va_A [(q_t, .inr (1, [.ref q_t_told, .ref q_t_now, .ref q_t_trial])), (q_t_now, .inr (6, [.ref q_t_told, .ref q_t_now_line, .ref q_t_now_strides, .ref q_t_now_strains, .int t_now_down, .int t_now_steps])), (q_t_told, .inr (3, [.ref q_t_told_beats, .ref q_t_told_kinds, .int t_told_count, .int t_told_depth, .int t_told_noon, .int t_told_depthBehind]))] sz) := by
  refine MetI (cc := cX1_likedTread) (maxL := 3) (by decide) rfl (Nat.le_of_ble_eq_true rfl) (fun _ h => h) ?_
  intro p e s m args below meth c A Q ls hx CF hK hA hD hP hS hl hB hAe hsz hret
  have hb := CF.2.1
  have hml := CF.2.2.1
  have hown := CF.2.2.2.1
  have hts := CF.2.2.2.2
  have hD0 := hD
  replace hl : lv_has ls 3 [(0, .ref q_t)] := hl
  have hinX1 : ∀ w ∈ wsX10, w ∈ wsX1_likedTread := fun _ h => List.mem_cons_of_mem _ (List.mem_append_left _ (List.mem_append_left _ (List.mem_append_right _ h)))
  have hinX6 : ∀ w ∈ wsX60, w ∈ wsX1_likedTread := fun _ h => List.mem_cons_of_mem _ (List.mem_append_left _ (List.mem_append_right _ h))
  have hinX3 : ∀ w ∈ wsX30, w ∈ wsX1_likedTread := fun _ h => List.mem_cons_of_mem _ (List.mem_append_right _ h)
  have w_0 := hts (.fieldLink RX1 9 "PassInStep$Foresight" "told" "LPassInStep$Party;") (by decide +kernel)
  have w_1 := hts (.fieldLink RX1 15 "PassInStep$Foresight" "now" "LPassInStep$Yard;") (by decide +kernel)
  have w_2 := hts (.methodLink RX1 85 Lib.Math.min.name) (by decide +kernel)
  have w_3 := hts (.static Lib.Math.min.name) (by decide +kernel)
  have w_4 := hts (.initialized "java/lang/Math") (by decide +kernel)
  have w_5 := hts (.code Lib.Math.min.name Lib.Math.min.code 2 (some .int)) (by decide +kernel)
  have h_5 : ∀ (fu5 : Nat) (x1 : Int32) (x2 : Int32) (H : Heap) (locs : List Loc) (ls : Array Slot), va_P (dC, dI) vwCl [(q_t, .inr (1, [.ref q_t_told, .ref q_t_now, .ref q_t_trial])), (q_t_now, .inr (6, [.ref q_t_told, .ref q_t_now_line, .ref q_t_now_strides, .ref q_t_now_strains, .int t_now_down, .int t_now_steps])), (q_t_told, .inr (3, [.ref q_t_told_beats, .ref q_t_told_kinds, .int t_told_count, .int t_told_depth, .int t_told_noon, .int t_told_depthBehind]))] H → va_S A s.heap H locs → lv_has ls 3 [(0, .ref q_t), (1, .int x1), (2, .int x2)] → L_X1_likedTread_5 t_now_steps t_told_depth t_told_noon t_told_depthBehind fu5 x1 x2 = some r_ → W p l e rm_X1_likedTread s m args below meth c H locs 0 0 Q (F0 m 5 ls []) := by
    intro fu5
    induction fu5 with
    | zero =>
      intro x1 x2 H locs ls hP hS hl hf
      rw [L_X1_likedTread_5] at hf
      cases hf
    | succ fu5 ih5 =>
      intro x1 x2 H locs ls hP hS hl hf
      have hD : va_D A [(q_t, .inr (1, [.ref q_t_told, .ref q_t_now, .ref q_t_trial])), (q_t_now, .inr (6, [.ref q_t_told, .ref q_t_now_line, .ref q_t_now_strides, .ref q_t_now_strains, .int t_now_down, .int t_now_steps])), (q_t_told, .inr (3, [.ref q_t_told_beats, .ref q_t_told_kinds, .int t_told_count, .int t_told_depth, .int t_told_noon, .int t_told_depthBehind]))] := wd hD0 rfl
      rw [L_X1_likedTread_5] at hf
      refine lv_iload_n hx hb dX1_likedTread_5 rfl (lv_at hl 2 rfl) ?_
      refine lv_bipush (v := 6) hx hb dX1_likedTread_6 (by decide) ?_
      refine lv_icmp_ge (tgt := 38) hx hb dX1_likedTread_8 (by decide) (fun hc => ?_) (fun hc => ?_)
      · replace hf := ip hc hf
        refine lv_iload_n hx hb dX1_likedTread_38 rfl (lv_at hl 1 rfl) ?_
        have e0 := ij1 hf
        refine W.eq (congrArg (fun z => F0 m 39 ls [.int z]) e0) ?_
        exact hret _ _ _ _ hP hS dX1_likedTread_39
      · replace hf := iq hc hf
        refine lv_iload_n hx hb dX1_likedTread_11 rfl (lv_at hl 1 rfl) ?_
        refine lv_aload_n hx hb dX1_likedTread_12 rfl (lv_at hl 0 rfl) ?_
        refine va_get (D := (dC, dI)) (ci := 1) (v := .ref q_t_told) (C := RX1) (T := TX1) (N := 3) hx hb hts hinX1 hown hK.1 hP 0 rfl rfl 0 (by decide) w_0 (fun _ h9 => h9) rfl dX1_likedTread_13 ?_
        refine lv_aload_n hx hb dX1_likedTread_16 rfl (lv_at hl 0 rfl) ?_
        refine va_get (D := (dC, dI)) (ci := 1) (v := .ref q_t_now) (C := RX1) (T := TX1) (N := 3) hx hb hts hinX1 hown hK.1 hP 0 rfl rfl 1 (by decide) w_1 (fun _ h9 => h9) rfl dX1_likedTread_17 ?_
        obtain ⟨r1, e3, hf⟩ := bd_ok hf
        refine kVi (As := []) CF (cwV 0 hts gX1_likedTread_X6_stepNumber rfl rfl rfl (by decide +kernel) ⟨Nat.le_of_ble_eq_true rfl, Nat.le_of_ble_eq_true rfl⟩) PU_blind hP hD hS hA (va_recv hK.1 hP (ci := 6) (q0 := 1) rfl rfl) [1] (fun h1 h2 h3 => PU_pre hK h1 A h2 h3) (c_X6_stepNumber l dC dI cI cZ q_t_now q_t_told q_t_now_line q_t_now_strides q_t_now_strains _ t_now_down t_now_steps r1 e3) rfl rfl rfl rfl hl.1 rfl (Nat.le_of_ble_eq_true rfl) dX1_likedTread_20 ⟨Nat.zero_le _, Nat.zero_le _⟩ (fun H locs hP hS => ?_)
        replace hP : va_P (dC, dI) vwCl [(q_t, .inr (1, [.ref q_t_told, .ref q_t_now, .ref q_t_trial])), (q_t_now, .inr (6, [.ref q_t_told, .ref q_t_now_line, .ref q_t_now_strides, .ref q_t_now_strains, .int t_now_down, .int t_now_steps])), (q_t_told, .inr (3, [.ref q_t_told_beats, .ref q_t_told_kinds, .int t_told_count, .int t_told_depth, .int t_told_noon, .int t_told_depthBehind]))] H := hP
        refine lv_iload_n hx hb dX1_likedTread_23 rfl (lv_at hl 2 rfl) ?_
        refine lv_iadd hx hb dX1_likedTread_24 ?_
        obtain ⟨r4, e6, hf⟩ := bd_ok hf
        refine kVi (As := [.int (r1 + x2)]) CF (cwV 1 hts gX1_likedTread_X3_snowAt rfl rfl rfl (by decide +kernel) ⟨Nat.le_of_ble_eq_true rfl, Nat.le_of_ble_eq_true rfl⟩) PU_blind hP hD hS hA (va_recv hK.1 hP (ci := 3) (q0 := 2) rfl rfl) [2] (fun h1 h2 h3 => PU_pre hK h1 A h2 h3) (c_X3_snowAt l dC dI cI cZ q_t_told q_t_told_beats q_t_told_kinds _ t_told_count t_told_depth t_told_noon t_told_depthBehind (r1 + x2) r4 e6) rfl rfl rfl rfl hl.1 rfl (Nat.le_of_ble_eq_true rfl) dX1_likedTread_25 ⟨Nat.zero_le _, Nat.zero_le _⟩ (fun H locs hP hS => ?_)
        replace hP : va_P (dC, dI) vwCl [(q_t, .inr (1, [.ref q_t_told, .ref q_t_now, .ref q_t_trial])), (q_t_now, .inr (6, [.ref q_t_told, .ref q_t_now_line, .ref q_t_now_strides, .ref q_t_now_strains, .int t_now_down, .int t_now_steps])), (q_t_told, .inr (3, [.ref q_t_told_beats, .ref q_t_told_kinds, .int t_told_count, .int t_told_depth, .int t_told_noon, .int t_told_depthBehind]))] H := hP
        refine va_mmin hx hb (hml.trans hl.1.symm) hown w_2 w_3 w_4 w_5 (Nat.le_of_ble_eq_true rfl) (Nat.le_of_ble_eq_true rfl) (Nat.zero_le _) (Nat.zero_le _) dX1_likedTread_28 ?_
        refine lv_istore_n (lv' := [(1, .int (if r4 < x1 then r4 else x1)), (0, .ref q_t), (2, .int x2)]) hx hb dX1_likedTread_31 rfl hl (by decide) rfl (fun ls hl => ?_)
        refine lv_iinc (v := (x2 + 1)) (lv' := [(2, .int (x2 + 1)), (1, .int (if r4 < x1 then r4 else x1)), (0, .ref q_t)]) hx hb dX1_likedTread_32 hl (k := 2) rfl rfl (by decide) rfl (fun ls hl => ?_)
        refine lv_goto (tgt := 5) hx hb dX1_likedTread_35 (by decide) ?_
        exact ih5 (if r4 < x1 then r4 else x1) (x2 + 1) _ _ _ hP hS (lv_sub hl [2, 1, 0] rfl) hf
  rw [f_X1_likedTread] at hf
  refine lv_bipush (v := 9) hx hb dX1_likedTread_0 (by decide) ?_
  refine lv_istore_n (lv' := [(1, .int 9), (0, .ref q_t)]) hx hb dX1_likedTread_2 rfl hl (by decide) rfl (fun ls hl => ?_)
  refine lv_iconst (v := 0) hx hb dX1_likedTread_3 (by decide) ?_
  refine lv_istore_n (lv' := [(2, .int 0), (1, .int 9), (0, .ref q_t)]) hx hb dX1_likedTread_4 rfl hl (by decide) rfl (fun ls hl => ?_)
  exact h_5 fuelC 9 0 _ _ _ hP hS (lv_sub hl [2, 1, 0] rfl) hf
abbrev rm_X1_tryDoing : Room := { frames := 4, cells := 0, slots := 0, locals := 96 }
set_option maxHeartbeats 4000000 in
set_option maxRecDepth 100000 in
theorem c_X1_tryDoing (l : Launch) (dC : Nat → ClassId) (dI : Nat → Nat → Nat) (cI cZ : ClassId) (q_t q_t_told q_t_now q_t_trial q_t_told_beats q_t_told_kinds q_t_trial_line q_t_trial_strides q_t_trial_strains : Nat) (sz : Nat) (t_told_count : Int32) (t_told_depth : Int32) (t_told_noon : Int32) (t_told_depthBehind : Int32) (t_trial_down : Int32) (t_trial_steps : Int32) (t_trial_line : Nat → Int32) (t_trial_strains : Nat → Int32) (t_trial_strides : Nat → Int32) (t_told_kinds : Nat → Int32) (t_told_beats : Nat → Int32) (x1 : Int32) (r_ : Int32) (o_t_trial_down : Int32) (o_t_trial_steps : Int32) (o_t_trial_line : Nat → Int32) (o_t_trial_strains : Nat → Int32) (o_t_trial_strides : Nat → Int32) (hf : f_X1_tryDoing x1 t_told_count t_told_depth t_told_noon t_told_depthBehind t_trial_down t_trial_steps t_trial_line t_trial_strains t_trial_strides t_told_kinds t_told_beats = some (r_, o_t_trial_down, o_t_trial_steps, o_t_trial_line, o_t_trial_strains, o_t_trial_strides)) : Met l yX1_tryDoing wsX1_tryDoing rm_X1_tryDoing (va_Pc [.ref q_t, .int x1] (PU (dC, dI) cI cZ [(q_t, .inr (1, [.ref q_t_told, .ref q_t_now, .ref q_t_trial])), (q_t_told, .inr (3, [.ref q_t_told_beats, .ref q_t_told_kinds, .int t_told_count, .int t_told_depth, .int t_told_noon, .int t_told_depthBehind])), (q_t_trial, .inr (6, [.ref q_t_told, .ref q_t_trial_line, .ref q_t_trial_strides, .ref q_t_trial_strains, .int t_trial_down, .int t_trial_steps])), (q_t_trial_line, .inl (cI, 5, .inl t_trial_line)), (q_t_trial_strains, .inl (cI, 5, .inl t_trial_strains)), (q_t_trial_strides, .inl (cI, 5, .inl t_trial_strides)), (q_t_told_kinds, .inl (cI, 5, .inl t_told_kinds)), (q_t_told_beats, .inl (cI, 5, .inl t_told_beats))] sz)) (va_Qi (fun (r : Int32) (_ : Unit) => r = r_) (fun _ t => va_P (dC, dI) vwCl [(q_t, .inr (1, [.ref q_t_told, .ref q_t_now, .ref q_t_trial])), (q_t_told, .inr (3, [.ref q_t_told_beats, .ref q_t_told_kinds, .int t_told_count, .int t_told_depth, .int t_told_noon, .int t_told_depthBehind])), (q_t_trial, .inr (6, [.ref q_t_told, .ref q_t_trial_line, .ref q_t_trial_strides, .ref q_t_trial_strains, .int o_t_trial_down, .int o_t_trial_steps])), (q_t_trial_line, .inl (cI, 5, .inl o_t_trial_line)), (q_t_trial_strains, .inl (cI, 5, .inl o_t_trial_strains)), (q_t_trial_strides, .inl (cI, 5, .inl o_t_trial_strides)), (q_t_told_kinds, .inl (cI, 5, .inl t_told_kinds)), (q_t_told_beats, .inl (cI, 5, .inl t_told_beats))] t.heap) (va_A [(q_t, .inr (1, [.ref q_t_told, .ref q_t_now, .ref q_t_trial])), (q_t_told, .inr (3, [.ref q_t_told_beats, .ref q_t_told_kinds, .int t_told_count, .int t_told_depth, .int t_told_noon, .int t_told_depthBehind])), (q_t_trial, .inr (6, [.ref q_t_told, .ref q_t_trial_line, .ref q_t_trial_strides, .ref q_t_trial_strains, .int t_trial_down, .int t_trial_steps])), (q_t_trial_line, .inl (cI, 5, .inl t_trial_line)), (q_t_trial_strains, .inl (cI, 5, .inl t_trial_strains)), (q_t_trial_strides, .inl (cI, 5, .inl t_trial_strides)), (q_t_told_kinds, .inl (cI, 5, .inl t_told_kinds)), (q_t_told_beats, .inl (cI, 5, .inl t_told_beats))] sz)) 0 0 (va_A [(q_t, .inr (1, [.ref q_t_told, .ref q_t_now, .ref q_t_trial])), (q_t_told, .inr (3, [.ref q_t_told_beats, .ref q_t_told_kinds, .int t_told_count, .int t_told_depth, .int t_told_noon, .int t_told_depthBehind])), (q_t_trial, .inr (6, [.ref q_t_told, .ref q_t_trial_line, .ref q_t_trial_strides, .ref q_t_trial_strains, .int t_trial_down, .int t_trial_steps])), (q_t_trial_line, .inl (cI, 5, .inl t_trial_line)), (q_t_trial_strains, .inl (cI, 5, .inl t_trial_strains)), (q_t_trial_strides, .inl (cI, 5, .inl t_trial_strides)), (q_t_told_kinds, .inl (cI, 5, .inl t_told_kinds)), (q_t_told_beats, .inl (cI, 5, .inl t_told_beats))] sz) := by
  refine MetZ (cc := cX1_tryDoing) (maxL := 5) (by decide) rfl (Nat.le_of_ble_eq_true rfl) (fun _ h => h) ?_
  intro p e s m args below meth c A Q ls hx CF hK hA hD hP hS hl hB hAe hsz hret
  have hb := CF.2.1
  have hml := CF.2.2.1
  have hown := CF.2.2.2.1
  have hts := CF.2.2.2.2
  have hD0 := hD
  replace hl : lv_has ls 5 [(0, .ref q_t), (1, .int x1)] := hl
  have hinX1 : ∀ w ∈ wsX10, w ∈ wsX1_tryDoing := fun _ h => List.mem_cons_of_mem _ (List.mem_append_left _ (List.mem_append_left _ (List.mem_append_right _ h)))
  have hinX6 : ∀ w ∈ wsX60, w ∈ wsX1_tryDoing := fun _ h => List.mem_cons_of_mem _ (List.mem_append_left _ (List.mem_append_right _ h))
  have hinX3 : ∀ w ∈ wsX30, w ∈ wsX1_tryDoing := fun _ h => List.mem_cons_of_mem _ (List.mem_append_right _ h)
  have w_0 := hts (.fieldLink RX1 19 "PassInStep$Foresight" "trial" "LPassInStep$Yard;") (by decide +kernel)
  have w_1 := hts (.fieldLink RX1 9 "PassInStep$Foresight" "told" "LPassInStep$Party;") (by decide +kernel)
  have h_168 : ∀ (t_trial_down : Int32) (t_trial_steps : Int32) (t_trial_line : Nat → Int32) (t_trial_strains : Nat → Int32) (t_trial_strides : Nat → Int32) (H : Heap) (locs : List Loc) (ls : Array Slot), va_P (dC, dI) vwCl [(q_t, .inr (1, [.ref q_t_told, .ref q_t_now, .ref q_t_trial])), (q_t_told, .inr (3, [.ref q_t_told_beats, .ref q_t_told_kinds, .int t_told_count, .int t_told_depth, .int t_told_noon, .int t_told_depthBehind])), (q_t_trial, .inr (6, [.ref q_t_told, .ref q_t_trial_line, .ref q_t_trial_strides, .ref q_t_trial_strains, .int t_trial_down, .int t_trial_steps])), (q_t_trial_line, .inl (cI, 5, .inl t_trial_line)), (q_t_trial_strains, .inl (cI, 5, .inl t_trial_strains)), (q_t_trial_strides, .inl (cI, 5, .inl t_trial_strides)), (q_t_told_kinds, .inl (cI, 5, .inl t_told_kinds)), (q_t_told_beats, .inl (cI, 5, .inl t_told_beats))] H → va_S A s.heap H locs → lv_has ls 5 [] → J_X1_tryDoing_168 t_trial_down t_trial_steps t_trial_line t_trial_strains t_trial_strides = some (r_, o_t_trial_down, o_t_trial_steps, o_t_trial_line, o_t_trial_strains, o_t_trial_strides) → W p l e rm_X1_tryDoing s m args below meth c H locs 0 0 Q (F0 m 168 ls []) := by
    intro t_trial_down t_trial_steps t_trial_line t_trial_strains t_trial_strides H locs ls hP hS hl hf
    have hD : va_D A [(q_t, .inr (1, [.ref q_t_told, .ref q_t_now, .ref q_t_trial])), (q_t_told, .inr (3, [.ref q_t_told_beats, .ref q_t_told_kinds, .int t_told_count, .int t_told_depth, .int t_told_noon, .int t_told_depthBehind])), (q_t_trial, .inr (6, [.ref q_t_told, .ref q_t_trial_line, .ref q_t_trial_strides, .ref q_t_trial_strains, .int t_trial_down, .int t_trial_steps])), (q_t_trial_line, .inl (cI, 5, .inl t_trial_line)), (q_t_trial_strains, .inl (cI, 5, .inl t_trial_strains)), (q_t_trial_strides, .inl (cI, 5, .inl t_trial_strides)), (q_t_told_kinds, .inl (cI, 5, .inl t_told_kinds)), (q_t_told_beats, .inl (cI, 5, .inl t_told_beats))] := wd hD0 rfl
    rw [J_X1_tryDoing_168] at hf
    refine lv_iconst (v := 0) hx hb dX1_tryDoing_168 (by decide) ?_
    obtain ⟨e0, hf⟩ := ij2 hf
    obtain ⟨e1, hf⟩ := ijc hf
    obtain ⟨e2, hf⟩ := ijc hf
    obtain ⟨e3, hf⟩ := ijc hf
    obtain ⟨e4, hf⟩ := ijc hf
    have e5 := hf
    refine W.eq (congrArg (fun z => F0 m 169 ls [.int z]) e0) ?_
    exact hret _ _ _ _ (by rw [← e1, ← e2, ← e3, ← e4, ← e5]; exact hP) hS (by rw [← e0]; rfl) dX1_tryDoing_169
  have h_128 : ∀ (t_trial_down : Int32) (t_trial_steps : Int32) (t_trial_line : Nat → Int32) (t_trial_strains : Nat → Int32) (t_trial_strides : Nat → Int32) (H : Heap) (locs : List Loc) (ls : Array Slot), va_P (dC, dI) vwCl [(q_t, .inr (1, [.ref q_t_told, .ref q_t_now, .ref q_t_trial])), (q_t_told, .inr (3, [.ref q_t_told_beats, .ref q_t_told_kinds, .int t_told_count, .int t_told_depth, .int t_told_noon, .int t_told_depthBehind])), (q_t_trial, .inr (6, [.ref q_t_told, .ref q_t_trial_line, .ref q_t_trial_strides, .ref q_t_trial_strains, .int t_trial_down, .int t_trial_steps])), (q_t_trial_line, .inl (cI, 5, .inl t_trial_line)), (q_t_trial_strains, .inl (cI, 5, .inl t_trial_strains)), (q_t_trial_strides, .inl (cI, 5, .inl t_trial_strides)), (q_t_told_kinds, .inl (cI, 5, .inl t_told_kinds)), (q_t_told_beats, .inl (cI, 5, .inl t_told_beats))] H → va_S A s.heap H locs → lv_has ls 5 [] → J_X1_tryDoing_128 t_trial_down t_trial_steps t_trial_line t_trial_strains t_trial_strides = some (r_, o_t_trial_down, o_t_trial_steps, o_t_trial_line, o_t_trial_strains, o_t_trial_strides) → W p l e rm_X1_tryDoing s m args below meth c H locs 0 0 Q (F0 m 128 ls []) := by
    intro t_trial_down t_trial_steps t_trial_line t_trial_strains t_trial_strides H locs ls hP hS hl hf
    have hD : va_D A [(q_t, .inr (1, [.ref q_t_told, .ref q_t_now, .ref q_t_trial])), (q_t_told, .inr (3, [.ref q_t_told_beats, .ref q_t_told_kinds, .int t_told_count, .int t_told_depth, .int t_told_noon, .int t_told_depthBehind])), (q_t_trial, .inr (6, [.ref q_t_told, .ref q_t_trial_line, .ref q_t_trial_strides, .ref q_t_trial_strains, .int t_trial_down, .int t_trial_steps])), (q_t_trial_line, .inl (cI, 5, .inl t_trial_line)), (q_t_trial_strains, .inl (cI, 5, .inl t_trial_strains)), (q_t_trial_strides, .inl (cI, 5, .inl t_trial_strides)), (q_t_told_kinds, .inl (cI, 5, .inl t_told_kinds)), (q_t_told_beats, .inl (cI, 5, .inl t_told_beats))] := wd hD0 rfl
    rw [J_X1_tryDoing_128] at hf
    refine lv_iconst (v := 0) hx hb dX1_tryDoing_128 (by decide) ?_
    obtain ⟨e0, hf⟩ := ij2 hf
    obtain ⟨e1, hf⟩ := ijc hf
    obtain ⟨e2, hf⟩ := ijc hf
    obtain ⟨e3, hf⟩ := ijc hf
    obtain ⟨e4, hf⟩ := ijc hf
    have e5 := hf
    refine W.eq (congrArg (fun z => F0 m 129 ls [.int z]) e0) ?_
    exact hret _ _ _ _ (by rw [← e1, ← e2, ← e3, ← e4, ← e5]; exact hP) hS (by rw [← e0]; rfl) dX1_tryDoing_129
  have h_118 : ∀ (s0 : Int32) (s1 : Int32) (t_trial_down : Int32) (t_trial_steps : Int32) (t_trial_line : Nat → Int32) (t_trial_strains : Nat → Int32) (t_trial_strides : Nat → Int32) (H : Heap) (locs : List Loc) (ls : Array Slot), va_P (dC, dI) vwCl [(q_t, .inr (1, [.ref q_t_told, .ref q_t_now, .ref q_t_trial])), (q_t_told, .inr (3, [.ref q_t_told_beats, .ref q_t_told_kinds, .int t_told_count, .int t_told_depth, .int t_told_noon, .int t_told_depthBehind])), (q_t_trial, .inr (6, [.ref q_t_told, .ref q_t_trial_line, .ref q_t_trial_strides, .ref q_t_trial_strains, .int t_trial_down, .int t_trial_steps])), (q_t_trial_line, .inl (cI, 5, .inl t_trial_line)), (q_t_trial_strains, .inl (cI, 5, .inl t_trial_strains)), (q_t_trial_strides, .inl (cI, 5, .inl t_trial_strides)), (q_t_told_kinds, .inl (cI, 5, .inl t_told_kinds)), (q_t_told_beats, .inl (cI, 5, .inl t_told_beats))] H → va_S A s.heap H locs → lv_has ls 5 [] → J_X1_tryDoing_118 s0 s1 t_told_count t_trial_down t_trial_steps t_trial_line t_trial_strains t_trial_strides = some (r_, o_t_trial_down, o_t_trial_steps, o_t_trial_line, o_t_trial_strains, o_t_trial_strides) → W p l e rm_X1_tryDoing s m args below meth c H locs 0 0 Q (F0 m 118 ls [.int s0, .int s1, .ref q_t_trial]) := by
    intro s0 s1 t_trial_down t_trial_steps t_trial_line t_trial_strains t_trial_strides H locs ls hP hS hl hf
    have hD : va_D A [(q_t, .inr (1, [.ref q_t_told, .ref q_t_now, .ref q_t_trial])), (q_t_told, .inr (3, [.ref q_t_told_beats, .ref q_t_told_kinds, .int t_told_count, .int t_told_depth, .int t_told_noon, .int t_told_depthBehind])), (q_t_trial, .inr (6, [.ref q_t_told, .ref q_t_trial_line, .ref q_t_trial_strides, .ref q_t_trial_strains, .int t_trial_down, .int t_trial_steps])), (q_t_trial_line, .inl (cI, 5, .inl t_trial_line)), (q_t_trial_strains, .inl (cI, 5, .inl t_trial_strains)), (q_t_trial_strides, .inl (cI, 5, .inl t_trial_strides)), (q_t_told_kinds, .inl (cI, 5, .inl t_told_kinds)), (q_t_told_beats, .inl (cI, 5, .inl t_told_beats))] := wd hD0 rfl
    rw [J_X1_tryDoing_118] at hf
    obtain ⟨⟨r1, o2, o3⟩, e5, hf⟩ := bd_ok hf
    refine kVi (As := [.int s1, .int s0]) CF (cwV 2 hts gX1_tryDoing_X6_tryDrill rfl rfl rfl (by decide +kernel) ⟨Nat.le_of_ble_eq_true rfl, Nat.le_of_ble_eq_true rfl⟩) PU_blind hP hD hS hA (va_recv hK.1 hP (ci := 6) (q0 := 2) rfl rfl) [2, 1, 4, 5] (fun h1 h2 h3 => PU_pre hK h1 A h2 h3) (c_X6_tryDrill l dC dI cI cZ q_t_trial q_t_told q_t_trial_line q_t_trial_strides q_t_trial_strains q_t_told_beats q_t_told_kinds _ t_trial_down t_trial_steps t_told_count t_told_depth t_told_noon t_told_depthBehind t_trial_strains t_trial_strides s1 s0 r1 o2 o3 e5) rfl rfl rfl rfl hl.1 rfl (Nat.le_of_ble_eq_true rfl) dX1_tryDoing_118 ⟨Nat.zero_le _, Nat.zero_le _⟩ (fun H locs hP hS => ?_)
    replace hP : va_P (dC, dI) vwCl [(q_t, .inr (1, [.ref q_t_told, .ref q_t_now, .ref q_t_trial])), (q_t_told, .inr (3, [.ref q_t_told_beats, .ref q_t_told_kinds, .int t_told_count, .int t_told_depth, .int t_told_noon, .int t_told_depthBehind])), (q_t_trial, .inr (6, [.ref q_t_told, .ref q_t_trial_line, .ref q_t_trial_strides, .ref q_t_trial_strains, .int t_trial_down, .int t_trial_steps])), (q_t_trial_line, .inl (cI, 5, .inl t_trial_line)), (q_t_trial_strains, .inl (cI, 5, .inl o2)), (q_t_trial_strides, .inl (cI, 5, .inl o3)), (q_t_told_kinds, .inl (cI, 5, .inl t_told_kinds)), (q_t_told_beats, .inl (cI, 5, .inl t_told_beats))] H := hP
    replace hD : va_D A [(q_t, .inr (1, [.ref q_t_told, .ref q_t_now, .ref q_t_trial])), (q_t_told, .inr (3, [.ref q_t_told_beats, .ref q_t_told_kinds, .int t_told_count, .int t_told_depth, .int t_told_noon, .int t_told_depthBehind])), (q_t_trial, .inr (6, [.ref q_t_told, .ref q_t_trial_line, .ref q_t_trial_strides, .ref q_t_trial_strains, .int t_trial_down, .int t_trial_steps])), (q_t_trial_line, .inl (cI, 5, .inl t_trial_line)), (q_t_trial_strains, .inl (cI, 5, .inl o2)), (q_t_trial_strides, .inl (cI, 5, .inl o3)), (q_t_told_kinds, .inl (cI, 5, .inl t_told_kinds)), (q_t_told_beats, .inl (cI, 5, .inl t_told_beats))] := wd hD rfl
    refine lv_if_eq (tgt := 128) hx hb dX1_tryDoing_121 (by decide) (fun hc => ?_) (fun hc => ?_)
    · replace hf := ip hc hf
      exact h_128 t_trial_down t_trial_steps t_trial_line o2 o3 _ _ _ hP hS (lv_sub hl [] rfl) hf
    · replace hf := iq hc hf
      refine lv_iconst (v := 1) hx hb dX1_tryDoing_124 (by decide) ?_
      refine lv_goto (tgt := 129) hx hb dX1_tryDoing_125 (by decide) ?_
      obtain ⟨e0, hf⟩ := ij2 hf
      obtain ⟨e1, hf⟩ := ijc hf
      obtain ⟨e2, hf⟩ := ijc hf
      obtain ⟨e3, hf⟩ := ijc hf
      obtain ⟨e4, hf⟩ := ijc hf
      have e5 := hf
      refine W.eq (congrArg (fun z => F0 m 129 ls [.int z]) e0) ?_
      exact hret _ _ _ _ (by rw [← e1, ← e2, ← e3, ← e4, ← e5]; exact hP) hS (by rw [← e0]; rfl) dX1_tryDoing_129
  have h_84 : ∀ (t_trial_down : Int32) (t_trial_steps : Int32) (t_trial_line : Nat → Int32) (t_trial_strains : Nat → Int32) (t_trial_strides : Nat → Int32) (H : Heap) (locs : List Loc) (ls : Array Slot), va_P (dC, dI) vwCl [(q_t, .inr (1, [.ref q_t_told, .ref q_t_now, .ref q_t_trial])), (q_t_told, .inr (3, [.ref q_t_told_beats, .ref q_t_told_kinds, .int t_told_count, .int t_told_depth, .int t_told_noon, .int t_told_depthBehind])), (q_t_trial, .inr (6, [.ref q_t_told, .ref q_t_trial_line, .ref q_t_trial_strides, .ref q_t_trial_strains, .int t_trial_down, .int t_trial_steps])), (q_t_trial_line, .inl (cI, 5, .inl t_trial_line)), (q_t_trial_strains, .inl (cI, 5, .inl t_trial_strains)), (q_t_trial_strides, .inl (cI, 5, .inl t_trial_strides)), (q_t_told_kinds, .inl (cI, 5, .inl t_told_kinds)), (q_t_told_beats, .inl (cI, 5, .inl t_told_beats))] H → va_S A s.heap H locs → lv_has ls 5 [] → J_X1_tryDoing_84 t_trial_down t_trial_steps t_trial_line t_trial_strains t_trial_strides = some (r_, o_t_trial_down, o_t_trial_steps, o_t_trial_line, o_t_trial_strains, o_t_trial_strides) → W p l e rm_X1_tryDoing s m args below meth c H locs 0 0 Q (F0 m 84 ls []) := by
    intro t_trial_down t_trial_steps t_trial_line t_trial_strains t_trial_strides H locs ls hP hS hl hf
    have hD : va_D A [(q_t, .inr (1, [.ref q_t_told, .ref q_t_now, .ref q_t_trial])), (q_t_told, .inr (3, [.ref q_t_told_beats, .ref q_t_told_kinds, .int t_told_count, .int t_told_depth, .int t_told_noon, .int t_told_depthBehind])), (q_t_trial, .inr (6, [.ref q_t_told, .ref q_t_trial_line, .ref q_t_trial_strides, .ref q_t_trial_strains, .int t_trial_down, .int t_trial_steps])), (q_t_trial_line, .inl (cI, 5, .inl t_trial_line)), (q_t_trial_strains, .inl (cI, 5, .inl t_trial_strains)), (q_t_trial_strides, .inl (cI, 5, .inl t_trial_strides)), (q_t_told_kinds, .inl (cI, 5, .inl t_told_kinds)), (q_t_told_beats, .inl (cI, 5, .inl t_told_beats))] := wd hD0 rfl
    rw [J_X1_tryDoing_84] at hf
    refine lv_iconst (v := 0) hx hb dX1_tryDoing_84 (by decide) ?_
    obtain ⟨e0, hf⟩ := ij2 hf
    obtain ⟨e1, hf⟩ := ijc hf
    obtain ⟨e2, hf⟩ := ijc hf
    obtain ⟨e3, hf⟩ := ijc hf
    obtain ⟨e4, hf⟩ := ijc hf
    have e5 := hf
    refine W.eq (congrArg (fun z => F0 m 85 ls [.int z]) e0) ?_
    exact hret _ _ _ _ (by rw [← e1, ← e2, ← e3, ← e4, ← e5]; exact hP) hS (by rw [← e0]; rfl) dX1_tryDoing_85
  have h_30 : ∀ (x2 : Int32) (x3 : Int32) (x4 : Int32) (t_trial_down : Int32) (t_trial_steps : Int32) (t_trial_line : Nat → Int32) (t_trial_strains : Nat → Int32) (t_trial_strides : Nat → Int32) (H : Heap) (locs : List Loc) (ls : Array Slot), va_P (dC, dI) vwCl [(q_t, .inr (1, [.ref q_t_told, .ref q_t_now, .ref q_t_trial])), (q_t_told, .inr (3, [.ref q_t_told_beats, .ref q_t_told_kinds, .int t_told_count, .int t_told_depth, .int t_told_noon, .int t_told_depthBehind])), (q_t_trial, .inr (6, [.ref q_t_told, .ref q_t_trial_line, .ref q_t_trial_strides, .ref q_t_trial_strains, .int t_trial_down, .int t_trial_steps])), (q_t_trial_line, .inl (cI, 5, .inl t_trial_line)), (q_t_trial_strains, .inl (cI, 5, .inl t_trial_strains)), (q_t_trial_strides, .inl (cI, 5, .inl t_trial_strides)), (q_t_told_kinds, .inl (cI, 5, .inl t_told_kinds)), (q_t_told_beats, .inl (cI, 5, .inl t_told_beats))] H → va_S A s.heap H locs → lv_has ls 5 [(0, .ref q_t), (2, .int x2), (3, .int x3), (4, .int x4)] → J_X1_tryDoing_30 x2 x3 x4 t_told_count t_told_depth t_told_noon t_told_depthBehind t_trial_down t_trial_steps t_trial_line t_trial_strains t_trial_strides t_told_kinds t_told_beats = some (r_, o_t_trial_down, o_t_trial_steps, o_t_trial_line, o_t_trial_strains, o_t_trial_strides) → W p l e rm_X1_tryDoing s m args below meth c H locs 0 0 Q (F0 m 30 ls []) := by
    intro x2 x3 x4 t_trial_down t_trial_steps t_trial_line t_trial_strains t_trial_strides H locs ls hP hS hl hf
    have hD : va_D A [(q_t, .inr (1, [.ref q_t_told, .ref q_t_now, .ref q_t_trial])), (q_t_told, .inr (3, [.ref q_t_told_beats, .ref q_t_told_kinds, .int t_told_count, .int t_told_depth, .int t_told_noon, .int t_told_depthBehind])), (q_t_trial, .inr (6, [.ref q_t_told, .ref q_t_trial_line, .ref q_t_trial_strides, .ref q_t_trial_strains, .int t_trial_down, .int t_trial_steps])), (q_t_trial_line, .inl (cI, 5, .inl t_trial_line)), (q_t_trial_strains, .inl (cI, 5, .inl t_trial_strains)), (q_t_trial_strides, .inl (cI, 5, .inl t_trial_strides)), (q_t_told_kinds, .inl (cI, 5, .inl t_told_kinds)), (q_t_told_beats, .inl (cI, 5, .inl t_told_beats))] := wd hD0 rfl
    rw [J_X1_tryDoing_30] at hf
    refine lv_iload_n hx hb dX1_tryDoing_30 rfl (lv_at hl 1 rfl) ?_
    by_cases n0 : (x2 : Int32) = 0
    · replace hf := ip n0 hf
      refine lv_tableIn (off := 33) (tgt := 64) hx hb dX1_tryDoing_31 (by rw [n0]; decide) (by rw [n0]; decide) (by rw [n0]; rfl) (by decide) ?_
      refine lv_iload hx hb dX1_tryDoing_64 (lv_at hl 3 rfl) ?_
      refine lv_if_ne (tgt := 84) hx hb dX1_tryDoing_66 (by decide) (fun hc => ?_) (fun hc => ?_)
      · replace hf := iq hc hf
        exact h_84 t_trial_down t_trial_steps t_trial_line t_trial_strains t_trial_strides _ _ _ hP hS (lv_sub hl [] rfl) hf
      · replace hf := ip hc hf
        refine lv_aload_n hx hb dX1_tryDoing_69 rfl (lv_at hl 0 rfl) ?_
        refine va_get (D := (dC, dI)) (ci := 1) (v := .ref q_t_trial) (C := RX1) (T := TX1) (N := 3) hx hb hts hinX1 hown hK.1 hP 0 rfl rfl 2 (by decide) w_0 (fun _ h9 => h9) rfl dX1_tryDoing_70 ?_
        refine lv_iconst (v := 0) hx hb dX1_tryDoing_73 (by decide) ?_
        obtain ⟨⟨r6, o7, o8⟩, e10, hf⟩ := bd_ok hf
        refine kVi (As := [.int 0]) CF (cwV 1 hts gX1_tryDoing_X6_takeStep rfl rfl rfl (by decide +kernel) ⟨Nat.le_of_ble_eq_true rfl, Nat.le_of_ble_eq_true rfl⟩) PU_blind hP hD hS hA (va_recv hK.1 hP (ci := 6) (q0 := 2) rfl rfl) [2, 1, 3, 6, 5, 7] (fun h1 h2 h3 => PU_pre hK h1 A h2 h3) (c_X6_takeStep l dC dI cI cZ q_t_trial q_t_told q_t_trial_line q_t_trial_strides q_t_trial_strains q_t_told_beats q_t_told_kinds _ t_trial_down t_trial_steps t_told_count t_told_depth t_told_noon t_told_depthBehind t_trial_line t_told_kinds t_trial_strides t_told_beats 0 r6 o7 o8 e10) rfl rfl rfl rfl hl.1 rfl (Nat.le_of_ble_eq_true rfl) dX1_tryDoing_74 ⟨Nat.zero_le _, Nat.zero_le _⟩ (fun H locs hP hS => ?_)
        replace hP : va_P (dC, dI) vwCl [(q_t, .inr (1, [.ref q_t_told, .ref q_t_now, .ref q_t_trial])), (q_t_told, .inr (3, [.ref q_t_told_beats, .ref q_t_told_kinds, .int t_told_count, .int t_told_depth, .int t_told_noon, .int t_told_depthBehind])), (q_t_trial, .inr (6, [.ref q_t_told, .ref q_t_trial_line, .ref q_t_trial_strides, .ref q_t_trial_strains, .int o7, .int o8])), (q_t_trial_line, .inl (cI, 5, .inl t_trial_line)), (q_t_trial_strains, .inl (cI, 5, .inl t_trial_strains)), (q_t_trial_strides, .inl (cI, 5, .inl t_trial_strides)), (q_t_told_kinds, .inl (cI, 5, .inl t_told_kinds)), (q_t_told_beats, .inl (cI, 5, .inl t_told_beats))] H := hP
        replace hD : va_D A [(q_t, .inr (1, [.ref q_t_told, .ref q_t_now, .ref q_t_trial])), (q_t_told, .inr (3, [.ref q_t_told_beats, .ref q_t_told_kinds, .int t_told_count, .int t_told_depth, .int t_told_noon, .int t_told_depthBehind])), (q_t_trial, .inr (6, [.ref q_t_told, .ref q_t_trial_line, .ref q_t_trial_strides, .ref q_t_trial_strains, .int o7, .int o8])), (q_t_trial_line, .inl (cI, 5, .inl t_trial_line)), (q_t_trial_strains, .inl (cI, 5, .inl t_trial_strains)), (q_t_trial_strides, .inl (cI, 5, .inl t_trial_strides)), (q_t_told_kinds, .inl (cI, 5, .inl t_told_kinds)), (q_t_told_beats, .inl (cI, 5, .inl t_told_beats))] := wd hD rfl
        refine lv_if_lt (tgt := 84) hx hb dX1_tryDoing_77 (by decide) (fun hc => ?_) (fun hc => ?_)
        · replace hf := ip hc hf
          exact h_84 o7 o8 t_trial_line t_trial_strains t_trial_strides _ _ _ hP hS (lv_sub hl [] rfl) hf
        · replace hf := iq hc hf
          refine lv_iconst (v := 1) hx hb dX1_tryDoing_80 (by decide) ?_
          refine lv_goto (tgt := 85) hx hb dX1_tryDoing_81 (by decide) ?_
          obtain ⟨e0, hf⟩ := ij2 hf
          obtain ⟨e1, hf⟩ := ijc hf
          obtain ⟨e2, hf⟩ := ijc hf
          obtain ⟨e3, hf⟩ := ijc hf
          obtain ⟨e4, hf⟩ := ijc hf
          have e5 := hf
          refine W.eq (congrArg (fun z => F0 m 85 ls [.int z]) e0) ?_
          exact hret _ _ _ _ (by rw [← e1, ← e2, ← e3, ← e4, ← e5]; exact hP) hS (by rw [← e0]; rfl) dX1_tryDoing_85
    · replace hf := iq n0 hf
      by_cases n1 : (x2 : Int32) = 1
      · replace hf := ip n1 hf
        refine lv_tableIn (off := 55) (tgt := 86) hx hb dX1_tryDoing_31 (by rw [n1]; decide) (by rw [n1]; decide) (by rw [n1]; rfl) (by decide) ?_
        refine lv_aload_n hx hb dX1_tryDoing_86 rfl (lv_at hl 0 rfl) ?_
        refine va_get (D := (dC, dI)) (ci := 1) (v := .ref q_t_trial) (C := RX1) (T := TX1) (N := 3) hx hb hts hinX1 hown hK.1 hP 0 rfl rfl 2 (by decide) w_0 (fun _ h9 => h9) rfl dX1_tryDoing_87 ?_
        refine lv_iload hx hb dX1_tryDoing_90 (lv_at hl 3 rfl) ?_
        obtain ⟨⟨r11, o12⟩, e14, hf⟩ := bd_ok hf
        refine kVi (As := [.int x4]) CF (cwV 1 hts gX1_tryDoing_X6_trySwap rfl rfl rfl (by decide +kernel) ⟨Nat.le_of_ble_eq_true rfl, Nat.le_of_ble_eq_true rfl⟩) PU_blind hP hD hS hA (va_recv hK.1 hP (ci := 6) (q0 := 2) rfl rfl) [2, 1, 3] (fun h1 h2 h3 => PU_pre hK h1 A h2 h3) (c_X6_trySwap l dC dI cI cZ q_t_trial q_t_told q_t_trial_line q_t_trial_strides q_t_trial_strains q_t_told_beats q_t_told_kinds _ t_trial_down t_trial_steps t_told_count t_told_depth t_told_noon t_told_depthBehind t_trial_line x4 r11 o12 e14) rfl rfl rfl rfl hl.1 rfl (Nat.le_of_ble_eq_true rfl) dX1_tryDoing_92 ⟨Nat.zero_le _, Nat.zero_le _⟩ (fun H locs hP hS => ?_)
        replace hP : va_P (dC, dI) vwCl [(q_t, .inr (1, [.ref q_t_told, .ref q_t_now, .ref q_t_trial])), (q_t_told, .inr (3, [.ref q_t_told_beats, .ref q_t_told_kinds, .int t_told_count, .int t_told_depth, .int t_told_noon, .int t_told_depthBehind])), (q_t_trial, .inr (6, [.ref q_t_told, .ref q_t_trial_line, .ref q_t_trial_strides, .ref q_t_trial_strains, .int t_trial_down, .int t_trial_steps])), (q_t_trial_line, .inl (cI, 5, .inl o12)), (q_t_trial_strains, .inl (cI, 5, .inl t_trial_strains)), (q_t_trial_strides, .inl (cI, 5, .inl t_trial_strides)), (q_t_told_kinds, .inl (cI, 5, .inl t_told_kinds)), (q_t_told_beats, .inl (cI, 5, .inl t_told_beats))] H := hP
        replace hD : va_D A [(q_t, .inr (1, [.ref q_t_told, .ref q_t_now, .ref q_t_trial])), (q_t_told, .inr (3, [.ref q_t_told_beats, .ref q_t_told_kinds, .int t_told_count, .int t_told_depth, .int t_told_noon, .int t_told_depthBehind])), (q_t_trial, .inr (6, [.ref q_t_told, .ref q_t_trial_line, .ref q_t_trial_strides, .ref q_t_trial_strains, .int t_trial_down, .int t_trial_steps])), (q_t_trial_line, .inl (cI, 5, .inl o12)), (q_t_trial_strains, .inl (cI, 5, .inl t_trial_strains)), (q_t_trial_strides, .inl (cI, 5, .inl t_trial_strides)), (q_t_told_kinds, .inl (cI, 5, .inl t_told_kinds)), (q_t_told_beats, .inl (cI, 5, .inl t_told_beats))] := wd hD rfl
        obtain ⟨hz, hf⟩ := zr_ok hf
        obtain ⟨e0, hf⟩ := ij2 hf
        obtain ⟨e1, hf⟩ := ijc hf
        obtain ⟨e2, hf⟩ := ijc hf
        obtain ⟨e3, hf⟩ := ijc hf
        obtain ⟨e4, hf⟩ := ijc hf
        have e5 := hf
        refine W.eq (congrArg (fun z => F0 m 95 ls [.int z]) e0) ?_
        exact hret _ _ _ _ (by rw [← e1, ← e2, ← e3, ← e4, ← e5]; exact hP) hS (by rw [← e0]; exact hz) dX1_tryDoing_95
      · replace hf := iq n1 hf
        by_cases n2 : (x2 : Int32) = 2
        · replace hf := ip n2 hf
          refine lv_tableIn (off := 65) (tgt := 96) hx hb dX1_tryDoing_31 (by rw [n2]; decide) (by rw [n2]; decide) (by rw [n2]; rfl) (by decide) ?_
          refine lv_iload hx hb dX1_tryDoing_96 (lv_at hl 3 rfl) ?_
          refine lv_iconst (v := 1) hx hb dX1_tryDoing_98 (by decide) ?_
          refine lv_icmp_gt (tgt := 128) hx hb dX1_tryDoing_99 (by decide) (fun hc => ?_) (fun hc => ?_)
          · replace hf := ip hc hf
            exact h_128 t_trial_down t_trial_steps t_trial_line t_trial_strains t_trial_strides _ _ _ hP hS (lv_sub hl [] rfl) hf
          · replace hf := iq hc hf
            refine lv_aload_n hx hb dX1_tryDoing_102 rfl (lv_at hl 0 rfl) ?_
            refine va_get (D := (dC, dI)) (ci := 1) (v := .ref q_t_trial) (C := RX1) (T := TX1) (N := 3) hx hb hts hinX1 hown hK.1 hP 0 rfl rfl 2 (by decide) w_0 (fun _ h9 => h9) rfl dX1_tryDoing_103 ?_
            refine lv_iload_n hx hb dX1_tryDoing_106 rfl (lv_at hl 2 rfl) ?_
            refine lv_iload hx hb dX1_tryDoing_107 (lv_at hl 3 rfl) ?_
            refine lv_iconst (v := 1) hx hb dX1_tryDoing_109 (by decide) ?_
            refine lv_icmp_ne (tgt := 117) hx hb dX1_tryDoing_110 (by decide) (fun hc => ?_) (fun hc => ?_)
            · replace hf := iq hc hf
              refine lv_iconst (v := 0) hx hb dX1_tryDoing_117 (by decide) ?_
              exact h_118 0 x3 t_trial_down t_trial_steps t_trial_line t_trial_strains t_trial_strides _ _ _ hP hS (lv_sub hl [] rfl) hf
            · replace hf := ip hc hf
              refine lv_iconst (v := 1) hx hb dX1_tryDoing_113 (by decide) ?_
              refine lv_goto (tgt := 118) hx hb dX1_tryDoing_114 (by decide) ?_
              exact h_118 1 x3 t_trial_down t_trial_steps t_trial_line t_trial_strains t_trial_strides _ _ _ hP hS (lv_sub hl [] rfl) hf
        · replace hf := iq n2 hf
          by_cases n3 : (x2 : Int32) = 3
          · replace hf := ip n3 hf
            refine lv_tableIn (off := 99) (tgt := 130) hx hb dX1_tryDoing_31 (by rw [n3]; decide) (by rw [n3]; decide) (by rw [n3]; rfl) (by decide) ?_
            refine lv_aload_n hx hb dX1_tryDoing_130 rfl (lv_at hl 0 rfl) ?_
            refine va_get (D := (dC, dI)) (ci := 1) (v := .ref q_t_trial) (C := RX1) (T := TX1) (N := 3) hx hb hts hinX1 hown hK.1 hP 0 rfl rfl 2 (by decide) w_0 (fun _ h9 => h9) rfl dX1_tryDoing_131 ?_
            refine lv_iload hx hb dX1_tryDoing_134 (lv_at hl 3 rfl) ?_
            obtain ⟨⟨r15, o16, o17⟩, e19, hf⟩ := bd_ok hf
            refine kVi (As := [.int x4]) CF (cwV 1 hts gX1_tryDoing_X6_tryRescue rfl rfl rfl (by decide +kernel) ⟨Nat.le_of_ble_eq_true rfl, Nat.le_of_ble_eq_true rfl⟩) PU_blind hP hD hS hA (va_recv hK.1 hP (ci := 6) (q0 := 2) rfl rfl) [2, 1, 3] (fun h1 h2 h3 => PU_pre hK h1 A h2 h3) (c_X6_tryRescue l dC dI cI cZ q_t_trial q_t_told q_t_trial_line q_t_trial_strides q_t_trial_strains q_t_told_beats q_t_told_kinds _ t_trial_down t_trial_steps t_told_count t_told_depth t_told_noon t_told_depthBehind t_trial_line x4 r15 o16 o17 e19) rfl rfl rfl rfl hl.1 rfl (Nat.le_of_ble_eq_true rfl) dX1_tryDoing_136 ⟨Nat.zero_le _, Nat.zero_le _⟩ (fun H locs hP hS => ?_)
            replace hP : va_P (dC, dI) vwCl [(q_t, .inr (1, [.ref q_t_told, .ref q_t_now, .ref q_t_trial])), (q_t_told, .inr (3, [.ref q_t_told_beats, .ref q_t_told_kinds, .int t_told_count, .int t_told_depth, .int t_told_noon, .int t_told_depthBehind])), (q_t_trial, .inr (6, [.ref q_t_told, .ref q_t_trial_line, .ref q_t_trial_strides, .ref q_t_trial_strains, .int o16, .int t_trial_steps])), (q_t_trial_line, .inl (cI, 5, .inl o17)), (q_t_trial_strains, .inl (cI, 5, .inl t_trial_strains)), (q_t_trial_strides, .inl (cI, 5, .inl t_trial_strides)), (q_t_told_kinds, .inl (cI, 5, .inl t_told_kinds)), (q_t_told_beats, .inl (cI, 5, .inl t_told_beats))] H := hP
            replace hD : va_D A [(q_t, .inr (1, [.ref q_t_told, .ref q_t_now, .ref q_t_trial])), (q_t_told, .inr (3, [.ref q_t_told_beats, .ref q_t_told_kinds, .int t_told_count, .int t_told_depth, .int t_told_noon, .int t_told_depthBehind])), (q_t_trial, .inr (6, [.ref q_t_told, .ref q_t_trial_line, .ref q_t_trial_strides, .ref q_t_trial_strains, .int o16, .int t_trial_steps])), (q_t_trial_line, .inl (cI, 5, .inl o17)), (q_t_trial_strains, .inl (cI, 5, .inl t_trial_strains)), (q_t_trial_strides, .inl (cI, 5, .inl t_trial_strides)), (q_t_told_kinds, .inl (cI, 5, .inl t_told_kinds)), (q_t_told_beats, .inl (cI, 5, .inl t_told_beats))] := wd hD rfl
            obtain ⟨hz, hf⟩ := zr_ok hf
            obtain ⟨e0, hf⟩ := ij2 hf
            obtain ⟨e1, hf⟩ := ijc hf
            obtain ⟨e2, hf⟩ := ijc hf
            obtain ⟨e3, hf⟩ := ijc hf
            obtain ⟨e4, hf⟩ := ijc hf
            have e5 := hf
            refine W.eq (congrArg (fun z => F0 m 139 ls [.int z]) e0) ?_
            exact hret _ _ _ _ (by rw [← e1, ← e2, ← e3, ← e4, ← e5]; exact hP) hS (by rw [← e0]; exact hz) dX1_tryDoing_139
          · replace hf := iq n3 hf
            by_cases n4 : (x2 : Int32) = 4
            · replace hf := ip n4 hf
              refine lv_tableIn (off := 109) (tgt := 140) hx hb dX1_tryDoing_31 (by rw [n4]; decide) (by rw [n4]; decide) (by rw [n4]; rfl) (by decide) ?_
              refine lv_aload_n hx hb dX1_tryDoing_140 rfl (lv_at hl 0 rfl) ?_
              refine va_get (D := (dC, dI)) (ci := 1) (v := .ref q_t_told) (C := RX1) (T := TX1) (N := 3) hx hb hts hinX1 hown hK.1 hP 0 rfl rfl 0 (by decide) w_1 (fun _ h9 => h9) rfl dX1_tryDoing_141 ?_
              refine lv_iload hx hb dX1_tryDoing_144 (lv_at hl 3 rfl) ?_
              obtain ⟨r20, e22, hf⟩ := bd_ok hf
              refine kVi (As := [.int x4]) CF (cwV 1 hts gX1_tryDoing_X3_has rfl rfl rfl (by decide +kernel) ⟨Nat.le_of_ble_eq_true rfl, Nat.le_of_ble_eq_true rfl⟩) PU_blind hP hD hS hA (va_recv hK.1 hP (ci := 3) (q0 := 1) rfl rfl) [1] (fun h1 h2 h3 => PU_pre hK h1 A h2 h3) (c_X3_has l dC dI cI cZ q_t_told q_t_told_beats q_t_told_kinds _ t_told_count t_told_depth t_told_noon t_told_depthBehind x4 r20 e22) rfl rfl rfl rfl hl.1 rfl (Nat.le_of_ble_eq_true rfl) dX1_tryDoing_146 ⟨Nat.zero_le _, Nat.zero_le _⟩ (fun H locs hP hS => ?_)
              replace hP : va_P (dC, dI) vwCl [(q_t, .inr (1, [.ref q_t_told, .ref q_t_now, .ref q_t_trial])), (q_t_told, .inr (3, [.ref q_t_told_beats, .ref q_t_told_kinds, .int t_told_count, .int t_told_depth, .int t_told_noon, .int t_told_depthBehind])), (q_t_trial, .inr (6, [.ref q_t_told, .ref q_t_trial_line, .ref q_t_trial_strides, .ref q_t_trial_strains, .int t_trial_down, .int t_trial_steps])), (q_t_trial_line, .inl (cI, 5, .inl t_trial_line)), (q_t_trial_strains, .inl (cI, 5, .inl t_trial_strains)), (q_t_trial_strides, .inl (cI, 5, .inl t_trial_strides)), (q_t_told_kinds, .inl (cI, 5, .inl t_told_kinds)), (q_t_told_beats, .inl (cI, 5, .inl t_told_beats))] H := hP
              refine lv_if_eq (tgt := 168) hx hb dX1_tryDoing_149 (by decide) (fun hc => ?_) (fun hc => ?_)
              · replace hf := ip hc hf
                exact h_168 t_trial_down t_trial_steps t_trial_line t_trial_strains t_trial_strides _ _ _ hP hS (lv_sub hl [] rfl) hf
              · replace hf := iq hc hf
                refine lv_aload_n hx hb dX1_tryDoing_152 rfl (lv_at hl 0 rfl) ?_
                refine va_get (D := (dC, dI)) (ci := 1) (v := .ref q_t_trial) (C := RX1) (T := TX1) (N := 3) hx hb hts hinX1 hown hK.1 hP 0 rfl rfl 2 (by decide) w_0 (fun _ h9 => h9) rfl dX1_tryDoing_153 ?_
                refine lv_iload hx hb dX1_tryDoing_156 (lv_at hl 3 rfl) ?_
                obtain ⟨r23, e25, hf⟩ := bd_ok hf
                refine kVi (As := [.int x4]) CF (cwV 1 hts gX1_tryDoing_X6_isDown rfl rfl rfl (by decide +kernel) ⟨Nat.le_of_ble_eq_true rfl, Nat.le_of_ble_eq_true rfl⟩) PU_blind hP hD hS hA (va_recv hK.1 hP (ci := 6) (q0 := 2) rfl rfl) [2] (fun h1 h2 h3 => PU_pre hK h1 A h2 h3) (c_X6_isDown l dC dI cI cZ q_t_trial q_t_told q_t_trial_line q_t_trial_strides q_t_trial_strains _ t_trial_down t_trial_steps x4 r23 e25) rfl rfl rfl rfl hl.1 rfl (Nat.le_of_ble_eq_true rfl) dX1_tryDoing_158 ⟨Nat.zero_le _, Nat.zero_le _⟩ (fun H locs hP hS => ?_)
                replace hP : va_P (dC, dI) vwCl [(q_t, .inr (1, [.ref q_t_told, .ref q_t_now, .ref q_t_trial])), (q_t_told, .inr (3, [.ref q_t_told_beats, .ref q_t_told_kinds, .int t_told_count, .int t_told_depth, .int t_told_noon, .int t_told_depthBehind])), (q_t_trial, .inr (6, [.ref q_t_told, .ref q_t_trial_line, .ref q_t_trial_strides, .ref q_t_trial_strains, .int t_trial_down, .int t_trial_steps])), (q_t_trial_line, .inl (cI, 5, .inl t_trial_line)), (q_t_trial_strains, .inl (cI, 5, .inl t_trial_strains)), (q_t_trial_strides, .inl (cI, 5, .inl t_trial_strides)), (q_t_told_kinds, .inl (cI, 5, .inl t_told_kinds)), (q_t_told_beats, .inl (cI, 5, .inl t_told_beats))] H := hP
                refine lv_if_ne (tgt := 168) hx hb dX1_tryDoing_161 (by decide) (fun hc => ?_) (fun hc => ?_)
                · replace hf := iq hc hf
                  exact h_168 t_trial_down t_trial_steps t_trial_line t_trial_strains t_trial_strides _ _ _ hP hS (lv_sub hl [] rfl) hf
                · replace hf := ip hc hf
                  refine lv_iconst (v := 1) hx hb dX1_tryDoing_164 (by decide) ?_
                  refine lv_goto (tgt := 169) hx hb dX1_tryDoing_165 (by decide) ?_
                  obtain ⟨e0, hf⟩ := ij2 hf
                  obtain ⟨e1, hf⟩ := ijc hf
                  obtain ⟨e2, hf⟩ := ijc hf
                  obtain ⟨e3, hf⟩ := ijc hf
                  obtain ⟨e4, hf⟩ := ijc hf
                  have e5 := hf
                  refine W.eq (congrArg (fun z => F0 m 169 ls [.int z]) e0) ?_
                  exact hret _ _ _ _ (by rw [← e1, ← e2, ← e3, ← e4, ← e5]; exact hP) hS (by rw [← e0]; rfl) dX1_tryDoing_169
            · replace hf := iq n4 hf
              refine lv_tableOut (tgt := 170) hx hb dX1_tryDoing_31 (by have a0 : (x2 : Int32).toInt ≠ 0 := sw_ne n0; have a1 : (x2 : Int32).toInt ≠ 1 := sw_ne n1; have a2 : (x2 : Int32).toInt ≠ 2 := sw_ne n2; have a3 : (x2 : Int32).toInt ≠ 3 := sw_ne n3; have a4 : (x2 : Int32).toInt ≠ 4 := sw_ne n4; omega) (by decide) ?_
              refine lv_iconst (v := 0) hx hb dX1_tryDoing_170 (by decide) ?_
              obtain ⟨e0, hf⟩ := ij2 hf
              obtain ⟨e1, hf⟩ := ijc hf
              obtain ⟨e2, hf⟩ := ijc hf
              obtain ⟨e3, hf⟩ := ijc hf
              obtain ⟨e4, hf⟩ := ijc hf
              have e5 := hf
              refine W.eq (congrArg (fun z => F0 m 171 ls [.int z]) e0) ?_
              exact hret _ _ _ _ (by rw [← e1, ← e2, ← e3, ← e4, ← e5]; exact hP) hS (by rw [← e0]; rfl) dX1_tryDoing_171
  rw [f_X1_tryDoing] at hf
  refine lv_iload_n hx hb dX1_tryDoing_0 rfl (lv_at hl 1 rfl) ?_
  refine lv_bipush (v := 100) hx hb dX1_tryDoing_1 (by decide) ?_
  refine lv_idiv hx hb dX1_tryDoing_3 (by decide) ?_
  refine lv_istore_n (lv' := [(2, .int (x1 / 100)), (0, .ref q_t), (1, .int x1)]) hx hb dX1_tryDoing_4 rfl hl (by decide) rfl (fun ls hl => ?_)
  refine lv_iload_n hx hb dX1_tryDoing_5 rfl (lv_at hl 2 rfl) ?_
  refine lv_bipush (v := 10) hx hb dX1_tryDoing_6 (by decide) ?_
  refine lv_idiv hx hb dX1_tryDoing_8 (by decide) ?_
  refine lv_bipush (v := 10) hx hb dX1_tryDoing_9 (by decide) ?_
  refine lv_irem hx hb dX1_tryDoing_11 (by decide) ?_
  refine lv_istore_n (lv' := [(3, .int ((x1 / 10) - (x1 / 10) / 10 * 10)), (2, .int (x1 / 100)), (0, .ref q_t), (1, .int x1)]) hx hb dX1_tryDoing_12 rfl hl (by decide) rfl (fun ls hl => ?_)
  refine lv_iload_n hx hb dX1_tryDoing_13 rfl (lv_at hl 3 rfl) ?_
  refine lv_bipush (v := 10) hx hb dX1_tryDoing_14 (by decide) ?_
  refine lv_irem hx hb dX1_tryDoing_16 (by decide) ?_
  refine lv_istore (lv' := [(4, .int (x1 - x1 / 10 * 10)), (3, .int ((x1 / 10) - (x1 / 10) / 10 * 10)), (2, .int (x1 / 100)), (0, .ref q_t), (1, .int x1)]) hx hb dX1_tryDoing_17 hl (by decide) rfl (fun ls hl => ?_)
  refine lv_iload_n hx hb dX1_tryDoing_19 rfl (lv_at hl 2 rfl) ?_
  refine lv_iconst (v := 2) hx hb dX1_tryDoing_20 (by decide) ?_
  refine lv_icmp_eq (tgt := 30) hx hb dX1_tryDoing_21 (by decide) (fun hc => ?_) (fun hc => ?_)
  · replace hf := ip hc hf
    exact h_30 (x1 / 100) ((x1 / 10) - (x1 / 10) / 10 * 10) (x1 - x1 / 10 * 10) t_trial_down t_trial_steps t_trial_line t_trial_strains t_trial_strides _ _ _ hP hS (lv_sub hl [3, 2, 1, 0] rfl) hf
  · replace hf := iq hc hf
    refine lv_iload_n hx hb dX1_tryDoing_24 rfl (lv_at hl 1 rfl) ?_
    refine lv_if_eq (tgt := 30) hx hb dX1_tryDoing_25 (by decide) (fun hc => ?_) (fun hc => ?_)
    · replace hf := ip hc hf
      exact h_30 (x1 / 100) ((x1 / 10) - (x1 / 10) / 10 * 10) (x1 - x1 / 10 * 10) t_trial_down t_trial_steps t_trial_line t_trial_strains t_trial_strides _ _ _ hP hS (lv_sub hl [3, 2, 1, 0] rfl) hf
    · replace hf := iq hc hf
      refine lv_iconst (v := 0) hx hb dX1_tryDoing_28 (by decide) ?_
      obtain ⟨e0, hf⟩ := ij2 hf
      obtain ⟨e1, hf⟩ := ijc hf
      obtain ⟨e2, hf⟩ := ijc hf
      obtain ⟨e3, hf⟩ := ijc hf
      obtain ⟨e4, hf⟩ := ijc hf
      have e5 := hf
      refine W.eq (congrArg (fun z => F0 m 29 ls [.int z]) e0) ?_
      exact hret _ _ _ _ (by rw [← e1, ← e2, ← e3, ← e4, ← e5]; exact hP) hS (by rw [← e0]; rfl) dX1_tryDoing_29
abbrev rm_X1_firstUndoable : Room := { frames := 5, cells := 0, slots := 0, locals := 120 }
set_option maxHeartbeats 4000000 in
set_option maxRecDepth 100000 in
theorem c_X1_firstUndoable (l : Launch) (dC : Nat → ClassId) (dI : Nat → Nat → Nat) (cI cZ : ClassId) (q_t q_t_told q_t_now q_t_trial q_t_trial_line q_t_trial_strides q_t_trial_strains q_t_now_line q_t_now_strides q_t_now_strains q_t_told_beats q_t_told_kinds : Nat) (sz : Nat) (t_trial_down : Int32) (t_trial_steps : Int32) (t_now_down : Int32) (t_now_steps : Int32) (t_now_line : Nat → Int32) (t_trial_line : Nat → Int32) (t_now_strides : Nat → Int32) (t_trial_strides : Nat → Int32) (t_now_strains : Nat → Int32) (t_trial_strains : Nat → Int32) (t_told_count : Int32) (t_told_depth : Int32) (t_told_noon : Int32) (t_told_depthBehind : Int32) (t_told_kinds : Nat → Int32) (t_told_beats : Nat → Int32) (x1 : Int64) (x3 : Int64) (r_ : Int32) (o_t_trial_down : Int32) (o_t_trial_steps : Int32) (o_t_trial_line : Nat → Int32) (o_t_trial_strides : Nat → Int32) (o_t_trial_strains : Nat → Int32) (hf : f_X1_firstUndoable x1 x3 t_trial_down t_trial_steps t_now_down t_now_steps t_now_line t_trial_line t_now_strides t_trial_strides t_now_strains t_trial_strains t_told_count t_told_depth t_told_noon t_told_depthBehind t_told_kinds t_told_beats = some (r_, o_t_trial_down, o_t_trial_steps, o_t_trial_line, o_t_trial_strides, o_t_trial_strains)) : Met l yX1_firstUndoable wsX1_firstUndoable rm_X1_firstUndoable (va_Pc [.ref q_t, .long x1, .long x3] (PU (dC, dI) cI cZ [(q_t, .inr (1, [.ref q_t_told, .ref q_t_now, .ref q_t_trial])), (q_t_trial, .inr (6, [.ref q_t_told, .ref q_t_trial_line, .ref q_t_trial_strides, .ref q_t_trial_strains, .int t_trial_down, .int t_trial_steps])), (q_t_now, .inr (6, [.ref q_t_told, .ref q_t_now_line, .ref q_t_now_strides, .ref q_t_now_strains, .int t_now_down, .int t_now_steps])), (q_t_now_line, .inl (cI, 5, .inl t_now_line)), (q_t_trial_line, .inl (cI, 5, .inl t_trial_line)), (q_t_now_strides, .inl (cI, 5, .inl t_now_strides)), (q_t_trial_strides, .inl (cI, 5, .inl t_trial_strides)), (q_t_now_strains, .inl (cI, 5, .inl t_now_strains)), (q_t_trial_strains, .inl (cI, 5, .inl t_trial_strains)), (q_t_told, .inr (3, [.ref q_t_told_beats, .ref q_t_told_kinds, .int t_told_count, .int t_told_depth, .int t_told_noon, .int t_told_depthBehind])), (q_t_told_kinds, .inl (cI, 5, .inl t_told_kinds)), (q_t_told_beats, .inl (cI, 5, .inl t_told_beats))] sz)) (va_Qi (fun (r : Int32) (_ : Unit) => r = r_) (fun _ t => va_P (dC, dI) vwCl [(q_t, .inr (1, [.ref q_t_told, .ref q_t_now, .ref q_t_trial])), (q_t_trial, .inr (6, [.ref q_t_told, .ref q_t_trial_line, .ref q_t_trial_strides, .ref q_t_trial_strains, .int o_t_trial_down, .int o_t_trial_steps])), (q_t_now, .inr (6, [.ref q_t_told, .ref q_t_now_line, .ref q_t_now_strides, .ref q_t_now_strains, .int t_now_down, .int t_now_steps])), (q_t_now_line, .inl (cI, 5, .inl t_now_line)), (q_t_trial_line, .inl (cI, 5, .inl o_t_trial_line)), (q_t_now_strides, .inl (cI, 5, .inl t_now_strides)), (q_t_trial_strides, .inl (cI, 5, .inl o_t_trial_strides)), (q_t_now_strains, .inl (cI, 5, .inl t_now_strains)), (q_t_trial_strains, .inl (cI, 5, .inl o_t_trial_strains)), (q_t_told, .inr (3, [.ref q_t_told_beats, .ref q_t_told_kinds, .int t_told_count, .int t_told_depth, .int t_told_noon, .int t_told_depthBehind])), (q_t_told_kinds, .inl (cI, 5, .inl t_told_kinds)), (q_t_told_beats, .inl (cI, 5, .inl t_told_beats))] t.heap) (va_A [(q_t, .inr (1, [.ref q_t_told, .ref q_t_now, .ref q_t_trial])), (q_t_trial, .inr (6, [.ref q_t_told, .ref q_t_trial_line, .ref q_t_trial_strides, .ref q_t_trial_strains, .int t_trial_down, .int t_trial_steps])), (q_t_now, .inr (6, [.ref q_t_told, .ref q_t_now_line, .ref q_t_now_strides, .ref q_t_now_strains, .int t_now_down, .int t_now_steps])), (q_t_now_line, .inl (cI, 5, .inl t_now_line)), (q_t_trial_line, .inl (cI, 5, .inl t_trial_line)), (q_t_now_strides, .inl (cI, 5, .inl t_now_strides)), (q_t_trial_strides, .inl (cI, 5, .inl t_trial_strides)), (q_t_now_strains, .inl (cI, 5, .inl t_now_strains)), (q_t_trial_strains, .inl (cI, 5, .inl t_trial_strains)), (q_t_told, .inr (3, [.ref q_t_told_beats, .ref q_t_told_kinds, .int t_told_count, .int t_told_depth, .int t_told_noon, .int t_told_depthBehind])), (q_t_told_kinds, .inl (cI, 5, .inl t_told_kinds)), (q_t_told_beats, .inl (cI, 5, .inl t_told_beats))] sz)) 0 0 (va_A [(q_t, .inr (1, [.ref q_t_told, .ref q_t_now, .ref q_t_trial])), (q_t_trial, .inr (6, [.ref q_t_told, .ref q_t_trial_line, .ref q_t_trial_strides, .ref q_t_trial_strains, .int t_trial_down, .int t_trial_steps])), (q_t_now, .inr (6, [.ref q_t_told, .ref q_t_now_line, .ref q_t_now_strides, .ref q_t_now_strains, .int t_now_down, .int t_now_steps])), (q_t_now_line, .inl (cI, 5, .inl t_now_line)), (q_t_trial_line, .inl (cI, 5, .inl t_trial_line)), (q_t_now_strides, .inl (cI, 5, .inl t_now_strides)), (q_t_trial_strides, .inl (cI, 5, .inl t_trial_strides)), (q_t_now_strains, .inl (cI, 5, .inl t_now_strains)), (q_t_trial_strains, .inl (cI, 5, .inl t_trial_strains)), (q_t_told, .inr (3, [.ref q_t_told_beats, .ref q_t_told_kinds, .int t_told_count, .int t_told_depth, .int t_told_noon, .int t_told_depthBehind])), (q_t_told_kinds, .inl (cI, 5, .inl t_told_kinds)), (q_t_told_beats, .inl (cI, 5, .inl t_told_beats))] sz) := by
  refine MetI (cc := cX1_firstUndoable) (maxL := 8) (by decide) rfl (Nat.le_of_ble_eq_true rfl) (fun _ h => h) ?_
  intro p e s m args below meth c A Q ls hx CF hK hA hD hP hS hl hB hAe hsz hret
  have hb := CF.2.1
  have hml := CF.2.2.1
  have hown := CF.2.2.2.1
  have hts := CF.2.2.2.2
  have hD0 := hD
  replace hl : lv_has ls 8 [(0, .ref q_t), (1, .long x1), (3, .long x3)] := hl
  have hinX1 : ∀ w ∈ wsX10, w ∈ wsX1_firstUndoable := fun _ h => List.mem_cons_of_mem _ (List.mem_append_left _ (List.mem_append_left _ (List.mem_append_right _ h)))
  have hinX6 : ∀ w ∈ wsX60, w ∈ wsX1_firstUndoable := fun _ h => List.mem_cons_of_mem _ (List.mem_append_left _ (List.mem_append_right _ h))
  have hinX3 : ∀ w ∈ wsX30, w ∈ wsX1_firstUndoable := fun _ h => List.mem_cons_of_mem _ (List.mem_append_right _ h)
  have w_0 := hts (.constantLong RX1 114 (1000)) (by decide +kernel)
  have w_1 := hts (.fieldLink RX1 19 "PassInStep$Foresight" "trial" "LPassInStep$Yard;") (by decide +kernel)
  have w_2 := hts (.fieldLink RX1 15 "PassInStep$Foresight" "now" "LPassInStep$Yard;") (by decide +kernel)
  have h_21 : ∀ (x3 : Int64) (fu21 : Nat) (x5 : Int32) (x6 : Int64) (t_trial_down : Int32) (t_trial_steps : Int32) (t_trial_line : Nat → Int32) (t_trial_strides : Nat → Int32) (t_trial_strains : Nat → Int32) (H : Heap) (locs : List Loc) (ls : Array Slot), va_P (dC, dI) vwCl [(q_t, .inr (1, [.ref q_t_told, .ref q_t_now, .ref q_t_trial])), (q_t_trial, .inr (6, [.ref q_t_told, .ref q_t_trial_line, .ref q_t_trial_strides, .ref q_t_trial_strains, .int t_trial_down, .int t_trial_steps])), (q_t_now, .inr (6, [.ref q_t_told, .ref q_t_now_line, .ref q_t_now_strides, .ref q_t_now_strains, .int t_now_down, .int t_now_steps])), (q_t_now_line, .inl (cI, 5, .inl t_now_line)), (q_t_trial_line, .inl (cI, 5, .inl t_trial_line)), (q_t_now_strides, .inl (cI, 5, .inl t_now_strides)), (q_t_trial_strides, .inl (cI, 5, .inl t_trial_strides)), (q_t_now_strains, .inl (cI, 5, .inl t_now_strains)), (q_t_trial_strains, .inl (cI, 5, .inl t_trial_strains)), (q_t_told, .inr (3, [.ref q_t_told_beats, .ref q_t_told_kinds, .int t_told_count, .int t_told_depth, .int t_told_noon, .int t_told_depthBehind])), (q_t_told_kinds, .inl (cI, 5, .inl t_told_kinds)), (q_t_told_beats, .inl (cI, 5, .inl t_told_beats))] H → va_S A s.heap H locs → lv_has ls 8 [(0, .ref q_t), (3, .long x3), (5, .int x5), (6, .long x6)] → L_X1_firstUndoable_21 x3 t_told_count t_told_depth t_told_noon t_told_depthBehind t_told_kinds t_told_beats fu21 x5 x6 t_trial_down t_trial_steps t_trial_line t_trial_strides t_trial_strains = some (r_, o_t_trial_down, o_t_trial_steps, o_t_trial_line, o_t_trial_strides, o_t_trial_strains) → W p l e rm_X1_firstUndoable s m args below meth c H locs 0 0 Q (F0 m 21 ls []) := by
    intro x3 fu21
    induction fu21 with
    | zero =>
      intro x5 x6 t_trial_down t_trial_steps t_trial_line t_trial_strides t_trial_strains H locs ls hP hS hl hf
      rw [L_X1_firstUndoable_21] at hf
      cases hf
    | succ fu21 ih21 =>
      intro x5 x6 t_trial_down t_trial_steps t_trial_line t_trial_strides t_trial_strains H locs ls hP hS hl hf
      have hD : va_D A [(q_t, .inr (1, [.ref q_t_told, .ref q_t_now, .ref q_t_trial])), (q_t_trial, .inr (6, [.ref q_t_told, .ref q_t_trial_line, .ref q_t_trial_strides, .ref q_t_trial_strains, .int t_trial_down, .int t_trial_steps])), (q_t_now, .inr (6, [.ref q_t_told, .ref q_t_now_line, .ref q_t_now_strides, .ref q_t_now_strains, .int t_now_down, .int t_now_steps])), (q_t_now_line, .inl (cI, 5, .inl t_now_line)), (q_t_trial_line, .inl (cI, 5, .inl t_trial_line)), (q_t_now_strides, .inl (cI, 5, .inl t_now_strides)), (q_t_trial_strides, .inl (cI, 5, .inl t_trial_strides)), (q_t_now_strains, .inl (cI, 5, .inl t_now_strains)), (q_t_trial_strains, .inl (cI, 5, .inl t_trial_strains)), (q_t_told, .inr (3, [.ref q_t_told_beats, .ref q_t_told_kinds, .int t_told_count, .int t_told_depth, .int t_told_noon, .int t_told_depthBehind])), (q_t_told_kinds, .inl (cI, 5, .inl t_told_kinds)), (q_t_told_beats, .inl (cI, 5, .inl t_told_beats))] := wd hD0 rfl
      rw [L_X1_firstUndoable_21] at hf
      refine lv_lload hx hb dX1_firstUndoable_21 (lv_at hl 3 rfl) ?_
      refine lv_lconst (v := 0) hx hb dX1_firstUndoable_23 (by decide) ?_
      refine W.lcmp hx hb dX1_firstUndoable_24 ?_
      refine lv_if_le (tgt := 61) hx hb dX1_firstUndoable_25 (by decide) (fun hc => ?_) (fun hc => ?_)
      · replace hf := ip hc hf
        refine lv_bipush (v := (-9)) hx hb dX1_firstUndoable_61 (by decide) ?_
        obtain ⟨e0, hf⟩ := ij2 hf
        obtain ⟨e1, hf⟩ := ijc hf
        obtain ⟨e2, hf⟩ := ijc hf
        obtain ⟨e3, hf⟩ := ijc hf
        obtain ⟨e4, hf⟩ := ijc hf
        have e5 := hf
        refine W.eq (congrArg (fun z => F0 m 63 ls [.int z]) e0) ?_
        exact hret _ _ _ _ (by rw [← e1, ← e2, ← e3, ← e4, ← e5]; exact hP) hS dX1_firstUndoable_63
      · replace hf := iq hc hf
        refine lv_aload_n hx hb dX1_firstUndoable_28 rfl (lv_at hl 0 rfl) ?_
        refine lv_lload_n hx hb dX1_firstUndoable_29 rfl (lv_at hl 1 rfl) ?_
        refine lv_lload hx hb dX1_firstUndoable_30 (lv_at hl 3 rfl) ?_
        obtain ⟨hne, hf⟩ := dvl_ok hf
        refine lv_ldiv hx hb dX1_firstUndoable_32 hne ?_
        refine lv_ldc2 (v := 1000) hx hb hown w_0 dX1_firstUndoable_33 ?_
        refine lv_lrem hx hb dX1_firstUndoable_36 (by decide) ?_
        refine lv_l2i hx hb dX1_firstUndoable_37 rfl ?_
        obtain ⟨⟨r1, o2, o3, o4, o5, o6⟩, e8, hf⟩ := bd_ok hf
        refine kVi (As := [.int ((((x3 / x6) - (x3 / x6) / (1000 : Int64) * (1000 : Int64))).toInt32)]) CF (cwV 1 hts gX1_firstUndoable_X1_tryDoing rfl rfl rfl (by decide +kernel) ⟨Nat.le_of_ble_eq_true rfl, Nat.le_of_ble_eq_true rfl⟩) PU_blind hP hD hS hA (va_recv hK.1 hP (ci := 1) (q0 := 0) rfl rfl) [0, 9, 1, 4, 8, 6, 10, 11] (fun h1 h2 h3 => PU_pre hK h1 A h2 h3) (c_X1_tryDoing l dC dI cI cZ q_t q_t_told q_t_now q_t_trial q_t_told_beats q_t_told_kinds q_t_trial_line q_t_trial_strides q_t_trial_strains _ t_told_count t_told_depth t_told_noon t_told_depthBehind t_trial_down t_trial_steps t_trial_line t_trial_strains t_trial_strides t_told_kinds t_told_beats ((((x3 / x6) - (x3 / x6) / (1000 : Int64) * (1000 : Int64))).toInt32) r1 o2 o3 o4 o5 o6 e8) rfl rfl rfl rfl hl.1 rfl (Nat.le_of_ble_eq_true rfl) dX1_firstUndoable_38 ⟨Nat.zero_le _, Nat.zero_le _⟩ (fun H locs hP hS => ?_)
        replace hP : va_P (dC, dI) vwCl [(q_t, .inr (1, [.ref q_t_told, .ref q_t_now, .ref q_t_trial])), (q_t_trial, .inr (6, [.ref q_t_told, .ref q_t_trial_line, .ref q_t_trial_strides, .ref q_t_trial_strains, .int o2, .int o3])), (q_t_now, .inr (6, [.ref q_t_told, .ref q_t_now_line, .ref q_t_now_strides, .ref q_t_now_strains, .int t_now_down, .int t_now_steps])), (q_t_now_line, .inl (cI, 5, .inl t_now_line)), (q_t_trial_line, .inl (cI, 5, .inl o4)), (q_t_now_strides, .inl (cI, 5, .inl t_now_strides)), (q_t_trial_strides, .inl (cI, 5, .inl o6)), (q_t_now_strains, .inl (cI, 5, .inl t_now_strains)), (q_t_trial_strains, .inl (cI, 5, .inl o5)), (q_t_told, .inr (3, [.ref q_t_told_beats, .ref q_t_told_kinds, .int t_told_count, .int t_told_depth, .int t_told_noon, .int t_told_depthBehind])), (q_t_told_kinds, .inl (cI, 5, .inl t_told_kinds)), (q_t_told_beats, .inl (cI, 5, .inl t_told_beats))] H := hP
        replace hD : va_D A [(q_t, .inr (1, [.ref q_t_told, .ref q_t_now, .ref q_t_trial])), (q_t_trial, .inr (6, [.ref q_t_told, .ref q_t_trial_line, .ref q_t_trial_strides, .ref q_t_trial_strains, .int o2, .int o3])), (q_t_now, .inr (6, [.ref q_t_told, .ref q_t_now_line, .ref q_t_now_strides, .ref q_t_now_strains, .int t_now_down, .int t_now_steps])), (q_t_now_line, .inl (cI, 5, .inl t_now_line)), (q_t_trial_line, .inl (cI, 5, .inl o4)), (q_t_now_strides, .inl (cI, 5, .inl t_now_strides)), (q_t_trial_strides, .inl (cI, 5, .inl o6)), (q_t_now_strains, .inl (cI, 5, .inl t_now_strains)), (q_t_trial_strains, .inl (cI, 5, .inl o5)), (q_t_told, .inr (3, [.ref q_t_told_beats, .ref q_t_told_kinds, .int t_told_count, .int t_told_depth, .int t_told_noon, .int t_told_depthBehind])), (q_t_told_kinds, .inl (cI, 5, .inl t_told_kinds)), (q_t_told_beats, .inl (cI, 5, .inl t_told_beats))] := wd hD rfl
        refine lv_if_ne (tgt := 47) hx hb dX1_firstUndoable_41 (by decide) (fun hc => ?_) (fun hc => ?_)
        · replace hf := iq hc hf
          refine lv_iinc (v := (x5 + 1)) (lv' := [(5, .int (x5 + 1)), (0, .ref q_t), (3, .long x3), (6, .long x6)]) hx hb dX1_firstUndoable_47 hl (k := 2) rfl rfl (by decide) rfl (fun ls hl => ?_)
          refine lv_lload hx hb dX1_firstUndoable_50 (lv_at hl 3 rfl) ?_
          refine lv_ldc2 (v := 1000) hx hb hown w_0 dX1_firstUndoable_52 ?_
          refine lv_ldiv hx hb dX1_firstUndoable_55 (by decide) ?_
          refine lv_lstore (lv' := [(6, .long (x6 / (1000 : Int64))), (5, .int (x5 + 1)), (0, .ref q_t), (3, .long x3)]) hx hb dX1_firstUndoable_56 hl (by decide) rfl (fun ls hl => ?_)
          refine lv_goto (tgt := 21) hx hb dX1_firstUndoable_58 (by decide) ?_
          exact ih21 (x5 + 1) (x6 / (1000 : Int64)) o2 o3 o4 o6 o5 _ _ _ hP hS (lv_sub hl [2, 3, 1, 0] rfl) hf
        · replace hf := ip hc hf
          refine lv_iload hx hb dX1_firstUndoable_44 (lv_at hl 2 rfl) ?_
          obtain ⟨e0, hf⟩ := ij2 hf
          obtain ⟨e1, hf⟩ := ijc hf
          obtain ⟨e2, hf⟩ := ijc hf
          obtain ⟨e3, hf⟩ := ijc hf
          obtain ⟨e4, hf⟩ := ijc hf
          have e5 := hf
          refine W.eq (congrArg (fun z => F0 m 46 ls [.int z]) e0) ?_
          exact hret _ _ _ _ (by rw [← e1, ← e2, ← e3, ← e4, ← e5]; exact hP) hS dX1_firstUndoable_46
  rw [f_X1_firstUndoable] at hf
  refine lv_aload_n hx hb dX1_firstUndoable_0 rfl (lv_at hl 0 rfl) ?_
  refine va_get (D := (dC, dI)) (ci := 1) (v := .ref q_t_trial) (C := RX1) (T := TX1) (N := 3) hx hb hts hinX1 hown hK.1 hP 0 rfl rfl 2 (by decide) w_1 (fun _ h9 => h9) rfl dX1_firstUndoable_1 ?_
  refine lv_aload_n hx hb dX1_firstUndoable_4 rfl (lv_at hl 0 rfl) ?_
  refine va_get (D := (dC, dI)) (ci := 1) (v := .ref q_t_now) (C := RX1) (T := TX1) (N := 3) hx hb hts hinX1 hown hK.1 hP 0 rfl rfl 1 (by decide) w_2 (fun _ h9 => h9) rfl dX1_firstUndoable_5 ?_
  obtain ⟨⟨o9, o10, o11, o12, o13⟩, e15, hf⟩ := bd_ok hf
  refine kVv (As := [.ref q_t_now]) CF (cwV 1 hts gX1_firstUndoable_X6_copyFrom rfl rfl rfl (by decide +kernel) ⟨Nat.le_of_ble_eq_true rfl, Nat.le_of_ble_eq_true rfl⟩) PU_blind hP hD hS hA (va_recv hK.1 hP (ci := 6) (q0 := 1) rfl rfl) [1, 2, 3, 4, 5, 6, 7, 8] (fun h1 h2 h3 => PU_pre hK h1 A h2 h3) (c_X6_copyFrom l dC dI cI cZ q_t_trial q_t_told q_t_trial_line q_t_trial_strides q_t_trial_strains q_t_now q_t_told q_t_now_line q_t_now_strides q_t_now_strains _ t_trial_down t_trial_steps t_now_down t_now_steps t_now_line t_trial_line t_now_strides t_trial_strides t_now_strains t_trial_strains o9 o10 o11 o12 o13 e15) rfl rfl rfl rfl hl.1 rfl (Nat.le_of_ble_eq_true rfl) dX1_firstUndoable_8 ⟨Nat.zero_le _, Nat.zero_le _⟩ (fun H locs hP hS => ?_)
  replace hP : va_P (dC, dI) vwCl [(q_t, .inr (1, [.ref q_t_told, .ref q_t_now, .ref q_t_trial])), (q_t_trial, .inr (6, [.ref q_t_told, .ref q_t_trial_line, .ref q_t_trial_strides, .ref q_t_trial_strains, .int o9, .int o10])), (q_t_now, .inr (6, [.ref q_t_told, .ref q_t_now_line, .ref q_t_now_strides, .ref q_t_now_strains, .int t_now_down, .int t_now_steps])), (q_t_now_line, .inl (cI, 5, .inl t_now_line)), (q_t_trial_line, .inl (cI, 5, .inl o11)), (q_t_now_strides, .inl (cI, 5, .inl t_now_strides)), (q_t_trial_strides, .inl (cI, 5, .inl o12)), (q_t_now_strains, .inl (cI, 5, .inl t_now_strains)), (q_t_trial_strains, .inl (cI, 5, .inl o13)), (q_t_told, .inr (3, [.ref q_t_told_beats, .ref q_t_told_kinds, .int t_told_count, .int t_told_depth, .int t_told_noon, .int t_told_depthBehind])), (q_t_told_kinds, .inl (cI, 5, .inl t_told_kinds)), (q_t_told_beats, .inl (cI, 5, .inl t_told_beats))] H := hP
  replace hD : va_D A [(q_t, .inr (1, [.ref q_t_told, .ref q_t_now, .ref q_t_trial])), (q_t_trial, .inr (6, [.ref q_t_told, .ref q_t_trial_line, .ref q_t_trial_strides, .ref q_t_trial_strains, .int o9, .int o10])), (q_t_now, .inr (6, [.ref q_t_told, .ref q_t_now_line, .ref q_t_now_strides, .ref q_t_now_strains, .int t_now_down, .int t_now_steps])), (q_t_now_line, .inl (cI, 5, .inl t_now_line)), (q_t_trial_line, .inl (cI, 5, .inl o11)), (q_t_now_strides, .inl (cI, 5, .inl t_now_strides)), (q_t_trial_strides, .inl (cI, 5, .inl o12)), (q_t_now_strains, .inl (cI, 5, .inl t_now_strains)), (q_t_trial_strains, .inl (cI, 5, .inl o13)), (q_t_told, .inr (3, [.ref q_t_told_beats, .ref q_t_told_kinds, .int t_told_count, .int t_told_depth, .int t_told_noon, .int t_told_depthBehind])), (q_t_told_kinds, .inl (cI, 5, .inl t_told_kinds)), (q_t_told_beats, .inl (cI, 5, .inl t_told_beats))] := wd hD rfl
  refine lv_iconst (v := 0) hx hb dX1_firstUndoable_11 (by decide) ?_
  refine lv_istore (lv' := [(5, .int 0), (0, .ref q_t), (1, .long x1), (3, .long x3)]) hx hb dX1_firstUndoable_12 hl (by decide) rfl (fun ls hl => ?_)
  refine lv_lload_n hx hb dX1_firstUndoable_14 rfl (lv_at hl 2 rfl) ?_
  refine lv_ldc2 (v := 1000) hx hb hown w_0 dX1_firstUndoable_15 ?_
  refine lv_ldiv hx hb dX1_firstUndoable_18 (by decide) ?_
  refine lv_lstore (lv' := [(6, .long (x1 / (1000 : Int64))), (5, .int 0), (0, .ref q_t), (1, .long x1), (3, .long x3)]) hx hb dX1_firstUndoable_19 hl (by decide) rfl (fun ls hl => ?_)
  exact h_21 x3 fuelC 0 (x1 / (1000 : Int64)) o9 o10 o11 o12 o13 _ _ _ hP hS (lv_sub hl [2, 4, 1, 0] rfl) hf
abbrev rm_X6_leaveOnly : Room := { frames := 0, cells := 0, slots := 0, locals := 0 }
set_option maxHeartbeats 4000000 in
set_option maxRecDepth 100000 in
theorem c_X6_leaveOnly (l : Launch) (dC : Nat → ClassId) (dI : Nat → Nat → Nat) (cI cZ : ClassId) (q_t q_t_told q_t_line q_t_strides q_t_strains : Nat) (sz : Nat) (t_down : Int32) (t_steps : Int32) (x1 : Int32) (o_t_down : Int32) (hf : f_X6_leaveOnly x1 t_down = some o_t_down) : Met l yX6_leaveOnly wsX6_leaveOnly rm_X6_leaveOnly (va_Pc [.ref q_t, .int x1] (PU (dC, dI) cI cZ [(q_t, .inr (6, [.ref q_t_told, .ref q_t_line, .ref q_t_strides, .ref q_t_strains, .int t_down, .int t_steps]))] sz)) (va_Qv (fun (_ : Unit) => True) (fun _ t => va_P (dC, dI) vwCl [(q_t, .inr (6, [.ref q_t_told, .ref q_t_line, .ref q_t_strides, .ref q_t_strains, .int o_t_down, .int t_steps]))] t.heap) (va_A [(q_t, .inr (6, [.ref q_t_told, .ref q_t_line, .ref q_t_strides, .ref q_t_strains, .int t_down, .int t_steps]))] sz)) 0 0 (va_A [(q_t, .inr (6, [.ref q_t_told, .ref q_t_line, .ref q_t_strides, .ref q_t_strains, .int t_down, .int t_steps]))] sz) := by
  refine MetV (cc := cX6_leaveOnly) (maxL := 2) (by decide) rfl (Nat.le_of_ble_eq_true rfl) (fun _ h => h) ?_
  intro p e s m args below meth c A Q ls hx CF hK hA hD hP hS hl hB hAe hsz hret
  have hb := CF.2.1
  have hml := CF.2.2.1
  have hown := CF.2.2.2.1
  have hts := CF.2.2.2.2
  have hD0 := hD
  replace hl : lv_has ls 2 [(0, .ref q_t), (1, .int x1)] := hl
  have hinX6 : ∀ w ∈ wsX60, w ∈ wsX6_leaveOnly := fun _ h => List.mem_cons_of_mem _ (List.mem_append_right _ h)
  have w_0 := hts (.fieldLink RX6 41 "PassInStep$Yard" "down" "I") (by decide +kernel)
  rw [f_X6_leaveOnly] at hf
  refine lv_aload_n hx hb dX6_leaveOnly_0 rfl (lv_at hl 0 rfl) ?_
  refine lv_dup hx hb dX6_leaveOnly_1 rfl ?_
  refine va_get (D := (dC, dI)) (ci := 6) (v := .int t_down) (C := RX6) (T := TX6) (N := 6) hx hb hts hinX6 hown hK.1 hP 0 rfl rfl 4 (by decide) w_0 (fun _ h9 => h9) rfl dX6_leaveOnly_2 ?_
  refine lv_iload_n hx hb dX6_leaveOnly_5 rfl (lv_at hl 1 rfl) ?_
  refine lv_iconst (v := (-1)) hx hb dX6_leaveOnly_6 (by decide) ?_
  refine lv_ixor hx hb dX6_leaveOnly_7 ?_
  refine lv_ior hx hb dX6_leaveOnly_8 ?_
  refine va_put (D := (dC, dI)) (ci := 6) (v := .int (t_down ||| (x1 ^^^ (-1)))) (ty := .int) (C := RX6) (T := TX6) (N := 6) hx hb hts hinX6 tyX6 tyX6_ok nmX6 hown hK.1 hP hD hS 0 rfl rfl 4 (by decide) w_0 (fun _ h9 => h9) rfl (by decide +kernel) rfl rfl (Nat.le_of_ble_eq_true rfl) dX6_leaveOnly_9 (fun H locs hP hD hS => ?_)
  replace hP : va_P (dC, dI) vwCl [(q_t, .inr (6, [.ref q_t_told, .ref q_t_line, .ref q_t_strides, .ref q_t_strains, .int (t_down ||| (x1 ^^^ (-1))), .int t_steps]))] H := hP
  replace hD : va_D A [(q_t, .inr (6, [.ref q_t_told, .ref q_t_line, .ref q_t_strides, .ref q_t_strains, .int (t_down ||| (x1 ^^^ (-1))), .int t_steps]))] := hD
  have e0 := ij1 hf
  exact hret _ _ _ _ (by rw [← e0]; exact hP) hS dX6_leaveOnly_12
abbrev rm_X1_standingOf : Room := { frames := 5, cells := 0, slots := 0, locals := 118 }
set_option maxHeartbeats 4000000 in
set_option maxRecDepth 100000 in
theorem c_X1_standingOf (l : Launch) (dC : Nat → ClassId) (dI : Nat → Nat → Nat) (cI cZ : ClassId) (q_t q_t_told q_t_now q_t_trial q_t_trial_line q_t_trial_strides q_t_trial_strains q_t_now_line q_t_now_strides q_t_now_strains q_t_told_beats q_t_told_kinds : Nat) (sz : Nat) (t_trial_down : Int32) (t_trial_steps : Int32) (t_now_down : Int32) (t_now_steps : Int32) (t_now_line : Nat → Int32) (t_trial_line : Nat → Int32) (t_now_strides : Nat → Int32) (t_trial_strides : Nat → Int32) (t_now_strains : Nat → Int32) (t_trial_strains : Nat → Int32) (t_told_count : Int32) (t_told_depth : Int32) (t_told_noon : Int32) (t_told_depthBehind : Int32) (t_told_kinds : Nat → Int32) (t_told_beats : Nat → Int32) (x1 : Int32) (r_ : Int32) (o_t_trial_down : Int32) (o_t_trial_steps : Int32) (o_t_trial_line : Nat → Int32) (o_t_trial_strides : Nat → Int32) (o_t_trial_strains : Nat → Int32) (hf : f_X1_standingOf x1 t_trial_down t_trial_steps t_now_down t_now_steps t_now_line t_trial_line t_now_strides t_trial_strides t_now_strains t_trial_strains t_told_count t_told_depth t_told_noon t_told_depthBehind t_told_kinds t_told_beats = some (r_, o_t_trial_down, o_t_trial_steps, o_t_trial_line, o_t_trial_strides, o_t_trial_strains)) : Met l yX1_standingOf wsX1_standingOf rm_X1_standingOf (va_Pc [.ref q_t, .int x1] (PU (dC, dI) cI cZ [(q_t, .inr (1, [.ref q_t_told, .ref q_t_now, .ref q_t_trial])), (q_t_trial, .inr (6, [.ref q_t_told, .ref q_t_trial_line, .ref q_t_trial_strides, .ref q_t_trial_strains, .int t_trial_down, .int t_trial_steps])), (q_t_now, .inr (6, [.ref q_t_told, .ref q_t_now_line, .ref q_t_now_strides, .ref q_t_now_strains, .int t_now_down, .int t_now_steps])), (q_t_now_line, .inl (cI, 5, .inl t_now_line)), (q_t_trial_line, .inl (cI, 5, .inl t_trial_line)), (q_t_now_strides, .inl (cI, 5, .inl t_now_strides)), (q_t_trial_strides, .inl (cI, 5, .inl t_trial_strides)), (q_t_now_strains, .inl (cI, 5, .inl t_now_strains)), (q_t_trial_strains, .inl (cI, 5, .inl t_trial_strains)), (q_t_told, .inr (3, [.ref q_t_told_beats, .ref q_t_told_kinds, .int t_told_count, .int t_told_depth, .int t_told_noon, .int t_told_depthBehind])), (q_t_told_kinds, .inl (cI, 5, .inl t_told_kinds)), (q_t_told_beats, .inl (cI, 5, .inl t_told_beats))] sz)) (va_Qi (fun (r : Int32) (_ : Unit) => r = r_) (fun _ t => va_P (dC, dI) vwCl [(q_t, .inr (1, [.ref q_t_told, .ref q_t_now, .ref q_t_trial])), (q_t_trial, .inr (6, [.ref q_t_told, .ref q_t_trial_line, .ref q_t_trial_strides, .ref q_t_trial_strains, .int o_t_trial_down, .int o_t_trial_steps])), (q_t_now, .inr (6, [.ref q_t_told, .ref q_t_now_line, .ref q_t_now_strides, .ref q_t_now_strains, .int t_now_down, .int t_now_steps])), (q_t_now_line, .inl (cI, 5, .inl t_now_line)), (q_t_trial_line, .inl (cI, 5, .inl o_t_trial_line)), (q_t_now_strides, .inl (cI, 5, .inl t_now_strides)), (q_t_trial_strides, .inl (cI, 5, .inl o_t_trial_strides)), (q_t_now_strains, .inl (cI, 5, .inl t_now_strains)), (q_t_trial_strains, .inl (cI, 5, .inl o_t_trial_strains)), (q_t_told, .inr (3, [.ref q_t_told_beats, .ref q_t_told_kinds, .int t_told_count, .int t_told_depth, .int t_told_noon, .int t_told_depthBehind])), (q_t_told_kinds, .inl (cI, 5, .inl t_told_kinds)), (q_t_told_beats, .inl (cI, 5, .inl t_told_beats))] t.heap) (va_A [(q_t, .inr (1, [.ref q_t_told, .ref q_t_now, .ref q_t_trial])), (q_t_trial, .inr (6, [.ref q_t_told, .ref q_t_trial_line, .ref q_t_trial_strides, .ref q_t_trial_strains, .int t_trial_down, .int t_trial_steps])), (q_t_now, .inr (6, [.ref q_t_told, .ref q_t_now_line, .ref q_t_now_strides, .ref q_t_now_strains, .int t_now_down, .int t_now_steps])), (q_t_now_line, .inl (cI, 5, .inl t_now_line)), (q_t_trial_line, .inl (cI, 5, .inl t_trial_line)), (q_t_now_strides, .inl (cI, 5, .inl t_now_strides)), (q_t_trial_strides, .inl (cI, 5, .inl t_trial_strides)), (q_t_now_strains, .inl (cI, 5, .inl t_now_strains)), (q_t_trial_strains, .inl (cI, 5, .inl t_trial_strains)), (q_t_told, .inr (3, [.ref q_t_told_beats, .ref q_t_told_kinds, .int t_told_count, .int t_told_depth, .int t_told_noon, .int t_told_depthBehind])), (q_t_told_kinds, .inl (cI, 5, .inl t_told_kinds)), (q_t_told_beats, .inl (cI, 5, .inl t_told_beats))] sz)) 0 0 (va_A [(q_t, .inr (1, [.ref q_t_told, .ref q_t_now, .ref q_t_trial])), (q_t_trial, .inr (6, [.ref q_t_told, .ref q_t_trial_line, .ref q_t_trial_strides, .ref q_t_trial_strains, .int t_trial_down, .int t_trial_steps])), (q_t_now, .inr (6, [.ref q_t_told, .ref q_t_now_line, .ref q_t_now_strides, .ref q_t_now_strains, .int t_now_down, .int t_now_steps])), (q_t_now_line, .inl (cI, 5, .inl t_now_line)), (q_t_trial_line, .inl (cI, 5, .inl t_trial_line)), (q_t_now_strides, .inl (cI, 5, .inl t_now_strides)), (q_t_trial_strides, .inl (cI, 5, .inl t_trial_strides)), (q_t_now_strains, .inl (cI, 5, .inl t_now_strains)), (q_t_trial_strains, .inl (cI, 5, .inl t_trial_strains)), (q_t_told, .inr (3, [.ref q_t_told_beats, .ref q_t_told_kinds, .int t_told_count, .int t_told_depth, .int t_told_noon, .int t_told_depthBehind])), (q_t_told_kinds, .inl (cI, 5, .inl t_told_kinds)), (q_t_told_beats, .inl (cI, 5, .inl t_told_beats))] sz) := by
  refine MetI (cc := cX1_standingOf) (maxL := 2) (by decide) rfl (Nat.le_of_ble_eq_true rfl) (fun _ h => h) ?_
  intro p e s m args below meth c A Q ls hx CF hK hA hD hP hS hl hB hAe hsz hret
  have hb := CF.2.1
  have hml := CF.2.2.1
  have hown := CF.2.2.2.1
  have hts := CF.2.2.2.2
  have hD0 := hD
  replace hl : lv_has ls 2 [(0, .ref q_t), (1, .int x1)] := hl
  have hinX1 : ∀ w ∈ wsX10, w ∈ wsX1_standingOf := fun _ h => List.mem_cons_of_mem _ (List.mem_append_left _ (List.mem_append_left _ (List.mem_append_right _ h)))
  have hinX6 : ∀ w ∈ wsX60, w ∈ wsX1_standingOf := fun _ h => List.mem_cons_of_mem _ (List.mem_append_left _ (List.mem_append_right _ h))
  have hinX3 : ∀ w ∈ wsX30, w ∈ wsX1_standingOf := fun _ h => List.mem_cons_of_mem _ (List.mem_append_right _ h)
  have w_0 := hts (.fieldLink RX1 19 "PassInStep$Foresight" "trial" "LPassInStep$Yard;") (by decide +kernel)
  have w_1 := hts (.fieldLink RX1 15 "PassInStep$Foresight" "now" "LPassInStep$Yard;") (by decide +kernel)
  rw [f_X1_standingOf] at hf
  refine lv_aload_n hx hb dX1_standingOf_0 rfl (lv_at hl 0 rfl) ?_
  refine va_get (D := (dC, dI)) (ci := 1) (v := .ref q_t_trial) (C := RX1) (T := TX1) (N := 3) hx hb hts hinX1 hown hK.1 hP 0 rfl rfl 2 (by decide) w_0 (fun _ h9 => h9) rfl dX1_standingOf_1 ?_
  refine lv_aload_n hx hb dX1_standingOf_4 rfl (lv_at hl 0 rfl) ?_
  refine va_get (D := (dC, dI)) (ci := 1) (v := .ref q_t_now) (C := RX1) (T := TX1) (N := 3) hx hb hts hinX1 hown hK.1 hP 0 rfl rfl 1 (by decide) w_1 (fun _ h9 => h9) rfl dX1_standingOf_5 ?_
  obtain ⟨⟨o1, o2, o3, o4, o5⟩, e7, hf⟩ := bd_ok hf
  refine kVv (As := [.ref q_t_now]) CF (cwV 1 hts gX1_standingOf_X6_copyFrom rfl rfl rfl (by decide +kernel) ⟨Nat.le_of_ble_eq_true rfl, Nat.le_of_ble_eq_true rfl⟩) PU_blind hP hD hS hA (va_recv hK.1 hP (ci := 6) (q0 := 1) rfl rfl) [1, 2, 3, 4, 5, 6, 7, 8] (fun h1 h2 h3 => PU_pre hK h1 A h2 h3) (c_X6_copyFrom l dC dI cI cZ q_t_trial q_t_told q_t_trial_line q_t_trial_strides q_t_trial_strains q_t_now q_t_told q_t_now_line q_t_now_strides q_t_now_strains _ t_trial_down t_trial_steps t_now_down t_now_steps t_now_line t_trial_line t_now_strides t_trial_strides t_now_strains t_trial_strains o1 o2 o3 o4 o5 e7) rfl rfl rfl rfl hl.1 rfl (Nat.le_of_ble_eq_true rfl) dX1_standingOf_8 ⟨Nat.zero_le _, Nat.zero_le _⟩ (fun H locs hP hS => ?_)
  replace hP : va_P (dC, dI) vwCl [(q_t, .inr (1, [.ref q_t_told, .ref q_t_now, .ref q_t_trial])), (q_t_trial, .inr (6, [.ref q_t_told, .ref q_t_trial_line, .ref q_t_trial_strides, .ref q_t_trial_strains, .int o1, .int o2])), (q_t_now, .inr (6, [.ref q_t_told, .ref q_t_now_line, .ref q_t_now_strides, .ref q_t_now_strains, .int t_now_down, .int t_now_steps])), (q_t_now_line, .inl (cI, 5, .inl t_now_line)), (q_t_trial_line, .inl (cI, 5, .inl o3)), (q_t_now_strides, .inl (cI, 5, .inl t_now_strides)), (q_t_trial_strides, .inl (cI, 5, .inl o4)), (q_t_now_strains, .inl (cI, 5, .inl t_now_strains)), (q_t_trial_strains, .inl (cI, 5, .inl o5)), (q_t_told, .inr (3, [.ref q_t_told_beats, .ref q_t_told_kinds, .int t_told_count, .int t_told_depth, .int t_told_noon, .int t_told_depthBehind])), (q_t_told_kinds, .inl (cI, 5, .inl t_told_kinds)), (q_t_told_beats, .inl (cI, 5, .inl t_told_beats))] H := hP
  replace hD : va_D A [(q_t, .inr (1, [.ref q_t_told, .ref q_t_now, .ref q_t_trial])), (q_t_trial, .inr (6, [.ref q_t_told, .ref q_t_trial_line, .ref q_t_trial_strides, .ref q_t_trial_strains, .int o1, .int o2])), (q_t_now, .inr (6, [.ref q_t_told, .ref q_t_now_line, .ref q_t_now_strides, .ref q_t_now_strains, .int t_now_down, .int t_now_steps])), (q_t_now_line, .inl (cI, 5, .inl t_now_line)), (q_t_trial_line, .inl (cI, 5, .inl o3)), (q_t_now_strides, .inl (cI, 5, .inl t_now_strides)), (q_t_trial_strides, .inl (cI, 5, .inl o4)), (q_t_now_strains, .inl (cI, 5, .inl t_now_strains)), (q_t_trial_strains, .inl (cI, 5, .inl o5)), (q_t_told, .inr (3, [.ref q_t_told_beats, .ref q_t_told_kinds, .int t_told_count, .int t_told_depth, .int t_told_noon, .int t_told_depthBehind])), (q_t_told_kinds, .inl (cI, 5, .inl t_told_kinds)), (q_t_told_beats, .inl (cI, 5, .inl t_told_beats))] := wd hD rfl
  refine lv_aload_n hx hb dX1_standingOf_11 rfl (lv_at hl 0 rfl) ?_
  refine va_get (D := (dC, dI)) (ci := 1) (v := .ref q_t_trial) (C := RX1) (T := TX1) (N := 3) hx hb hts hinX1 hown hK.1 hP 0 rfl rfl 2 (by decide) w_0 (fun _ h9 => h9) rfl dX1_standingOf_12 ?_
  refine lv_iload_n hx hb dX1_standingOf_15 rfl (lv_at hl 1 rfl) ?_
  obtain ⟨o8, e10, hf⟩ := bd_ok hf
  refine kVv (As := [.int x1]) CF (cwV 1 hts gX1_standingOf_X6_leaveOnly rfl rfl rfl (by decide +kernel) ⟨Nat.le_of_ble_eq_true rfl, Nat.le_of_ble_eq_true rfl⟩) PU_blind hP hD hS hA (va_recv hK.1 hP (ci := 6) (q0 := 1) rfl rfl) [1] (fun h1 h2 h3 => PU_pre hK h1 A h2 h3) (c_X6_leaveOnly l dC dI cI cZ q_t_trial q_t_told q_t_trial_line q_t_trial_strides q_t_trial_strains _ o1 o2 x1 o8 e10) rfl rfl rfl rfl hl.1 rfl (Nat.le_of_ble_eq_true rfl) dX1_standingOf_16 ⟨Nat.zero_le _, Nat.zero_le _⟩ (fun H locs hP hS => ?_)
  replace hP : va_P (dC, dI) vwCl [(q_t, .inr (1, [.ref q_t_told, .ref q_t_now, .ref q_t_trial])), (q_t_trial, .inr (6, [.ref q_t_told, .ref q_t_trial_line, .ref q_t_trial_strides, .ref q_t_trial_strains, .int o8, .int o2])), (q_t_now, .inr (6, [.ref q_t_told, .ref q_t_now_line, .ref q_t_now_strides, .ref q_t_now_strains, .int t_now_down, .int t_now_steps])), (q_t_now_line, .inl (cI, 5, .inl t_now_line)), (q_t_trial_line, .inl (cI, 5, .inl o3)), (q_t_now_strides, .inl (cI, 5, .inl t_now_strides)), (q_t_trial_strides, .inl (cI, 5, .inl o4)), (q_t_now_strains, .inl (cI, 5, .inl t_now_strains)), (q_t_trial_strains, .inl (cI, 5, .inl o5)), (q_t_told, .inr (3, [.ref q_t_told_beats, .ref q_t_told_kinds, .int t_told_count, .int t_told_depth, .int t_told_noon, .int t_told_depthBehind])), (q_t_told_kinds, .inl (cI, 5, .inl t_told_kinds)), (q_t_told_beats, .inl (cI, 5, .inl t_told_beats))] H := hP
  replace hD : va_D A [(q_t, .inr (1, [.ref q_t_told, .ref q_t_now, .ref q_t_trial])), (q_t_trial, .inr (6, [.ref q_t_told, .ref q_t_trial_line, .ref q_t_trial_strides, .ref q_t_trial_strains, .int o8, .int o2])), (q_t_now, .inr (6, [.ref q_t_told, .ref q_t_now_line, .ref q_t_now_strides, .ref q_t_now_strains, .int t_now_down, .int t_now_steps])), (q_t_now_line, .inl (cI, 5, .inl t_now_line)), (q_t_trial_line, .inl (cI, 5, .inl o3)), (q_t_now_strides, .inl (cI, 5, .inl t_now_strides)), (q_t_trial_strides, .inl (cI, 5, .inl o4)), (q_t_now_strains, .inl (cI, 5, .inl t_now_strains)), (q_t_trial_strains, .inl (cI, 5, .inl o5)), (q_t_told, .inr (3, [.ref q_t_told_beats, .ref q_t_told_kinds, .int t_told_count, .int t_told_depth, .int t_told_noon, .int t_told_depthBehind])), (q_t_told_kinds, .inl (cI, 5, .inl t_told_kinds)), (q_t_told_beats, .inl (cI, 5, .inl t_told_beats))] := wd hD rfl
  refine lv_aload_n hx hb dX1_standingOf_19 rfl (lv_at hl 0 rfl) ?_
  refine lv_bipush (v := 6) hx hb dX1_standingOf_20 (by decide) ?_
  obtain ⟨⟨o11, o12⟩, e14, hf⟩ := bd_ok hf
  refine kVv (As := [.int 6]) CF (cwV 1 hts gX1_standingOf_X1_goOn rfl rfl rfl (by decide +kernel) ⟨Nat.le_of_ble_eq_true rfl, Nat.le_of_ble_eq_true rfl⟩) PU_blind hP hD hS hA (va_recv hK.1 hP (ci := 1) (q0 := 0) rfl rfl) [0, 1, 9, 4, 10, 6, 11] (fun h1 h2 h3 => PU_pre hK h1 A h2 h3) (c_X1_goOn l dC dI cI cZ q_t q_t_told q_t_now q_t_trial q_t_trial_line q_t_trial_strides q_t_trial_strains q_t_told_beats q_t_told_kinds _ o8 o2 t_told_count t_told_depth t_told_noon t_told_depthBehind o3 t_told_kinds o4 t_told_beats 6 o11 o12 e14) rfl rfl rfl rfl hl.1 rfl (Nat.le_of_ble_eq_true rfl) dX1_standingOf_22 ⟨Nat.zero_le _, Nat.zero_le _⟩ (fun H locs hP hS => ?_)
  replace hP : va_P (dC, dI) vwCl [(q_t, .inr (1, [.ref q_t_told, .ref q_t_now, .ref q_t_trial])), (q_t_trial, .inr (6, [.ref q_t_told, .ref q_t_trial_line, .ref q_t_trial_strides, .ref q_t_trial_strains, .int o11, .int o12])), (q_t_now, .inr (6, [.ref q_t_told, .ref q_t_now_line, .ref q_t_now_strides, .ref q_t_now_strains, .int t_now_down, .int t_now_steps])), (q_t_now_line, .inl (cI, 5, .inl t_now_line)), (q_t_trial_line, .inl (cI, 5, .inl o3)), (q_t_now_strides, .inl (cI, 5, .inl t_now_strides)), (q_t_trial_strides, .inl (cI, 5, .inl o4)), (q_t_now_strains, .inl (cI, 5, .inl t_now_strains)), (q_t_trial_strains, .inl (cI, 5, .inl o5)), (q_t_told, .inr (3, [.ref q_t_told_beats, .ref q_t_told_kinds, .int t_told_count, .int t_told_depth, .int t_told_noon, .int t_told_depthBehind])), (q_t_told_kinds, .inl (cI, 5, .inl t_told_kinds)), (q_t_told_beats, .inl (cI, 5, .inl t_told_beats))] H := hP
  replace hD : va_D A [(q_t, .inr (1, [.ref q_t_told, .ref q_t_now, .ref q_t_trial])), (q_t_trial, .inr (6, [.ref q_t_told, .ref q_t_trial_line, .ref q_t_trial_strides, .ref q_t_trial_strains, .int o11, .int o12])), (q_t_now, .inr (6, [.ref q_t_told, .ref q_t_now_line, .ref q_t_now_strides, .ref q_t_now_strains, .int t_now_down, .int t_now_steps])), (q_t_now_line, .inl (cI, 5, .inl t_now_line)), (q_t_trial_line, .inl (cI, 5, .inl o3)), (q_t_now_strides, .inl (cI, 5, .inl t_now_strides)), (q_t_trial_strides, .inl (cI, 5, .inl o4)), (q_t_now_strains, .inl (cI, 5, .inl t_now_strains)), (q_t_trial_strains, .inl (cI, 5, .inl o5)), (q_t_told, .inr (3, [.ref q_t_told_beats, .ref q_t_told_kinds, .int t_told_count, .int t_told_depth, .int t_told_noon, .int t_told_depthBehind])), (q_t_told_kinds, .inl (cI, 5, .inl t_told_kinds)), (q_t_told_beats, .inl (cI, 5, .inl t_told_beats))] := wd hD rfl
  refine lv_aload_n hx hb dX1_standingOf_25 rfl (lv_at hl 0 rfl) ?_
  refine va_get (D := (dC, dI)) (ci := 1) (v := .ref q_t_trial) (C := RX1) (T := TX1) (N := 3) hx hb hts hinX1 hown hK.1 hP 0 rfl rfl 2 (by decide) w_0 (fun _ h9 => h9) rfl dX1_standingOf_26 ?_
  obtain ⟨r15, e17, hf⟩ := bd_ok hf
  refine kVi (As := []) CF (cwV 0 hts gX1_standingOf_X6_standing rfl rfl rfl (by decide +kernel) ⟨Nat.le_of_ble_eq_true rfl, Nat.le_of_ble_eq_true rfl⟩) PU_blind hP hD hS hA (va_recv hK.1 hP (ci := 6) (q0 := 1) rfl rfl) [1, 9] (fun h1 h2 h3 => PU_pre hK h1 A h2 h3) (c_X6_standing l dC dI cI cZ q_t_trial q_t_told q_t_trial_line q_t_trial_strides q_t_trial_strains q_t_told_beats q_t_told_kinds _ o11 o12 t_told_count t_told_depth t_told_noon t_told_depthBehind r15 e17) rfl rfl rfl rfl hl.1 rfl (Nat.le_of_ble_eq_true rfl) dX1_standingOf_29 ⟨Nat.zero_le _, Nat.zero_le _⟩ (fun H locs hP hS => ?_)
  replace hP : va_P (dC, dI) vwCl [(q_t, .inr (1, [.ref q_t_told, .ref q_t_now, .ref q_t_trial])), (q_t_trial, .inr (6, [.ref q_t_told, .ref q_t_trial_line, .ref q_t_trial_strides, .ref q_t_trial_strains, .int o11, .int o12])), (q_t_now, .inr (6, [.ref q_t_told, .ref q_t_now_line, .ref q_t_now_strides, .ref q_t_now_strains, .int t_now_down, .int t_now_steps])), (q_t_now_line, .inl (cI, 5, .inl t_now_line)), (q_t_trial_line, .inl (cI, 5, .inl o3)), (q_t_now_strides, .inl (cI, 5, .inl t_now_strides)), (q_t_trial_strides, .inl (cI, 5, .inl o4)), (q_t_now_strains, .inl (cI, 5, .inl t_now_strains)), (q_t_trial_strains, .inl (cI, 5, .inl o5)), (q_t_told, .inr (3, [.ref q_t_told_beats, .ref q_t_told_kinds, .int t_told_count, .int t_told_depth, .int t_told_noon, .int t_told_depthBehind])), (q_t_told_kinds, .inl (cI, 5, .inl t_told_kinds)), (q_t_told_beats, .inl (cI, 5, .inl t_told_beats))] H := hP
  obtain ⟨e0, hf⟩ := ij2 hf
  obtain ⟨e1, hf⟩ := ijc hf
  obtain ⟨e2, hf⟩ := ijc hf
  obtain ⟨e3, hf⟩ := ijc hf
  obtain ⟨e4, hf⟩ := ijc hf
  have e5 := hf
  refine W.eq (congrArg (fun z => F0 m 32 ls [.int z]) e0) ?_
  exact hret _ _ _ _ (by rw [← e1, ← e2, ← e3, ← e4, ← e5]; exact hP) hS dX1_standingOf_32
