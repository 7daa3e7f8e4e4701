-- X3_has X6_strainOf X6_canDrill X6_tryDrill X6_canSwap X6_trySwap X6_placeOf X6_tryRescue X0_winter X1_goOn X1_standingBehind X1_dropOf
abbrev rm_X3_has : Room := { frames := 0, cells := 0, slots := 0, locals := 0 }
set_option maxHeartbeats 4000000 in
set_option maxRecDepth 100000 in
theorem c_X3_has (l : Launch) (dC : Nat → ClassId) (dI : Nat → Nat → Nat) (cI cZ : ClassId) (q_t q_t_beats q_t_kinds : Nat) (sz : Nat) (t_count : Int32) (t_depth : Int32) (t_noon : Int32) (t_depthBehind : Int32) (x1 : Int32) (r_ : Int32) (hf : f_X3_has x1 t_count = some r_) : Met l yX3_has wsX3_has rm_X3_has (va_Pc [.ref q_t, .int x1] (PU (dC, dI) cI cZ [(q_t, .inr (3, [.ref q_t_beats, .ref q_t_kinds, .int t_count, .int t_depth, .int t_noon, .int t_depthBehind]))] sz)) (va_Qi (fun (r : Int32) (_ : Unit) => r = r_) (fun _ t => va_P (dC, dI) vwCl [(q_t, .inr (3, [.ref q_t_beats, .ref q_t_kinds, .int t_count, .int t_depth, .int t_noon, .int t_depthBehind]))] t.heap) (va_A [(q_t, .inr (3, [.ref q_t_beats, .ref q_t_kinds, .int t_count, .int t_depth, .int t_noon, .int t_depthBehind]))] sz)) 0 0 (va_A [(q_t, .inr (3, [.ref q_t_beats, .ref q_t_kinds, .int t_count, .int t_depth, .int t_noon, .int t_depthBehind]))] sz) := by
  refine MetZ (cc := cX3_has) (maxL := 2) (by decide) rfl (Nat.le_of_ble_eq_true rfl) (fun _ h => h) ?_
  intro p e s m args below meth c A Q ls hx CF hK hA hD hP hS hl hB hAe hsz hret
  have hb := CF.2.1
  have hml := CF.2.2.1
  have hown := CF.2.2.2.1
  have hts := CF.2.2.2.2
  have hD0 := hD
  replace hl : lv_has ls 2 [(0, .ref q_t), (1, .int x1)] := hl
  have hinX3 : ∀ w ∈ wsX30, w ∈ wsX3_has := fun _ h => List.mem_cons_of_mem _ (List.mem_append_right _ h)
  have w_0 := hts (.fieldLink RX3 47 "PassInStep$Party" "count" "I") (by decide +kernel)
  have h_16 : ∀ (H : Heap) (locs : List Loc) (ls : Array Slot), va_P (dC, dI) vwCl [(q_t, .inr (3, [.ref q_t_beats, .ref q_t_kinds, .int t_count, .int t_depth, .int t_noon, .int t_depthBehind]))] H → va_S A s.heap H locs → lv_has ls 2 [] → J_X3_has_16 = some r_ → W p l e rm_X3_has s m args below meth c H locs 0 0 Q (F0 m 16 ls []) := by
    intro  H locs ls hP hS hl hf
    have hD : va_D A [(q_t, .inr (3, [.ref q_t_beats, .ref q_t_kinds, .int t_count, .int t_depth, .int t_noon, .int t_depthBehind]))] := wd hD0 rfl
    rw [J_X3_has_16] at hf
    refine lv_iconst (v := 0) hx hb dX3_has_16 (by decide) ?_
    have e0 := ij1 hf
    refine W.eq (congrArg (fun z => F0 m 17 ls [.int z]) e0) ?_
    exact hret _ _ _ _ hP hS (by rw [← e0]; rfl) dX3_has_17
  rw [f_X3_has] at hf
  refine lv_iload_n hx hb dX3_has_0 rfl (lv_at hl 1 rfl) ?_
  refine lv_if_lt (tgt := 16) hx hb dX3_has_1 (by decide) (fun hc => ?_) (fun hc => ?_)
  · replace hf := ip hc hf
    exact h_16 _ _ _ hP hS (lv_sub hl [] rfl) hf
  · replace hf := iq hc hf
    refine lv_iload_n hx hb dX3_has_4 rfl (lv_at hl 1 rfl) ?_
    refine lv_aload_n hx hb dX3_has_5 rfl (lv_at hl 0 rfl) ?_
    refine va_get (D := (dC, dI)) (ci := 3) (v := .int t_count) (C := RX3) (T := TX3) (N := 6) hx hb hts hinX3 hown hK.1 hP 0 rfl rfl 2 (by decide) w_0 (fun _ h9 => h9) rfl dX3_has_6 ?_
    refine lv_icmp_ge (tgt := 16) hx hb dX3_has_9 (by decide) (fun hc => ?_) (fun hc => ?_)
    · replace hf := ip hc hf
      exact h_16 _ _ _ hP hS (lv_sub hl [] rfl) hf
    · replace hf := iq hc hf
      refine lv_iconst (v := 1) hx hb dX3_has_12 (by decide) ?_
      refine lv_goto (tgt := 17) hx hb dX3_has_13 (by decide) ?_
      have e0 := ij1 hf
      refine W.eq (congrArg (fun z => F0 m 17 ls [.int z]) e0) ?_
      exact hret _ _ _ _ hP hS (by rw [← e0]; rfl) dX3_has_17
abbrev rm_X6_strainOf : Room := { frames := 1, cells := 0, slots := 0, locals := 21 }
set_option maxHeartbeats 4000000 in
set_option maxRecDepth 100000 in
theorem c_X6_strainOf (l : Launch) (dC : Nat → ClassId) (dI : Nat → Nat → Nat) (cI cZ : ClassId) (q_t q_t_told q_t_line q_t_strides q_t_strains : Nat) (sz : Nat) (t_down : Int32) (t_steps : Int32) (t_strains : Nat → Int32) (x1 : Int32) (r_ : Int32) (hf : f_X6_strainOf x1 t_strains = some r_) : Met l yX6_strainOf wsX6_strainOf rm_X6_strainOf (va_Pc [.ref q_t, .int x1] (PU (dC, dI) cI cZ [(q_t, .inr (6, [.ref q_t_told, .ref q_t_line, .ref q_t_strides, .ref q_t_strains, .int t_down, .int t_steps])), (q_t_strains, .inl (cI, 5, .inl t_strains))] sz)) (va_Qi (fun (r : Int32) (_ : Unit) => r = r_) (fun _ t => va_P (dC, dI) vwCl [(q_t, .inr (6, [.ref q_t_told, .ref q_t_line, .ref q_t_strides, .ref q_t_strains, .int t_down, .int t_steps])), (q_t_strains, .inl (cI, 5, .inl t_strains))] t.heap) (va_A [(q_t, .inr (6, [.ref q_t_told, .ref q_t_line, .ref q_t_strides, .ref q_t_strains, .int t_down, .int t_steps])), (q_t_strains, .inl (cI, 5, .inl t_strains))] sz)) 0 0 (va_A [(q_t, .inr (6, [.ref q_t_told, .ref q_t_line, .ref q_t_strides, .ref q_t_strains, .int t_down, .int t_steps])), (q_t_strains, .inl (cI, 5, .inl t_strains))] sz) := by
  refine MetI (cc := cX6_strainOf) (maxL := 2) (by decide) rfl (Nat.le_of_ble_eq_true rfl) (fun _ h => h) ?_
  intro p e s m args below meth c A Q ls hx CF hK hA hD hP hS hl hB hAe hsz hret
  have hb := CF.2.1
  have hml := CF.2.2.1
  have hown := CF.2.2.2.1
  have hts := CF.2.2.2.2
  have hD0 := hD
  replace hl : lv_has ls 2 [(0, .ref q_t), (1, .int x1)] := hl
  have hinX6 : ∀ w ∈ wsX60, w ∈ wsX6_strainOf := fun _ h => List.mem_cons_of_mem _ (List.mem_append_right _ h)
  have w_0 := hts (.fieldLink RX6 18 "PassInStep$Yard" "strains" "[I") (by decide +kernel)
  have w_1 := hts (.initialized RX7) (by decide +kernel)
  have w_2 := hts (.static yX7_at) (by decide +kernel)
  rw [f_X6_strainOf] at hf
  refine lv_aload_n hx hb dX6_strainOf_0 rfl (lv_at hl 0 rfl) ?_
  refine va_get (D := (dC, dI)) (ci := 6) (v := .ref q_t_strains) (C := RX6) (T := TX6) (N := 6) hx hb hts hinX6 hown hK.1 hP 0 rfl rfl 3 (by decide) w_0 (fun _ h9 => h9) rfl dX6_strainOf_1 ?_
  refine lv_iload_n hx hb dX6_strainOf_4 rfl (lv_at hl 1 rfl) ?_
  obtain ⟨r1, e3, hf⟩ := bd_ok hf
  refine kNi (As := [.ref q_t_strains, .int x1]) CF ⟨va_cnB 2 hts gX6_strainOf_X7_at_n48 rfl rfl rfl (nw_X6_48 hK.2) w_1 (by decide +kernel) ⟨Nat.le_of_ble_eq_true rfl, Nat.le_of_ble_eq_true rfl⟩, w_2, trivial⟩ PU_blind hP hD hS hA [1] (fun h1 h2 h3 => PU_pre hK h1 A h2 h3) (c_X7_at l dC dI cI cZ q_t_strains _ t_strains 5 x1 r1 e3) rfl rfl rfl rfl hl.1 rfl (Nat.le_of_ble_eq_true rfl) dX6_strainOf_5 ⟨Nat.zero_le _, Nat.zero_le _⟩ (fun H locs hP hS => ?_)
  replace hP : va_P (dC, dI) vwCl [(q_t, .inr (6, [.ref q_t_told, .ref q_t_line, .ref q_t_strides, .ref q_t_strains, .int t_down, .int t_steps])), (q_t_strains, .inl (cI, 5, .inl t_strains))] H := hP
  have e0 := ij1 hf
  refine W.eq (congrArg (fun z => F0 m 8 ls [.int z]) e0) ?_
  exact hret _ _ _ _ hP hS dX6_strainOf_8
abbrev rm_X6_canDrill : Room := { frames := 2, cells := 0, slots := 0, locals := 42 }
set_option maxHeartbeats 4000000 in
set_option maxRecDepth 100000 in
theorem c_X6_canDrill (l : Launch) (dC : Nat → ClassId) (dI : Nat → Nat → Nat) (cI cZ : ClassId) (q_t q_t_told q_t_line q_t_strides q_t_strains q_t_told_beats q_t_told_kinds : Nat) (sz : Nat) (t_down : Int32) (t_steps : Int32) (t_told_count : Int32) (t_told_depth : Int32) (t_told_noon : Int32) (t_told_depthBehind : Int32) (t_strains : Nat → Int32) (t_strides : Nat → Int32) (x1 : Int32) (x2 : Int32) (r_ : Int32) (hf : f_X6_canDrill x1 x2 t_down t_told_count t_strains t_strides = some r_) : Met l yX6_canDrill wsX6_canDrill rm_X6_canDrill (va_Pc [.ref q_t, .int x1, .int x2] (PU (dC, dI) cI cZ [(q_t, .inr (6, [.ref q_t_told, .ref q_t_line, .ref q_t_strides, .ref q_t_strains, .int t_down, .int t_steps])), (q_t_told, .inr (3, [.ref q_t_told_beats, .ref q_t_told_kinds, .int t_told_count, .int t_told_depth, .int t_told_noon, .int t_told_depthBehind])), (q_t_strains, .inl (cI, 5, .inl t_strains)), (q_t_strides, .inl (cI, 5, .inl t_strides))] sz)) (va_Qi (fun (r : Int32) (_ : Unit) => r = r_) (fun _ t => va_P (dC, dI) vwCl [(q_t, .inr (6, [.ref q_t_told, .ref q_t_line, .ref q_t_strides, .ref q_t_strains, .int t_down, .int t_steps])), (q_t_told, .inr (3, [.ref q_t_told_beats, .ref q_t_told_kinds, .int t_told_count, .int t_told_depth, .int t_told_noon, .int t_told_depthBehind])), (q_t_strains, .inl (cI, 5, .inl t_strains)), (q_t_strides, .inl (cI, 5, .inl t_strides))] t.heap) (va_A [(q_t, .inr (6, [.ref q_t_told, .ref q_t_line, .ref q_t_strides, .ref q_t_strains, .int t_down, .int t_steps])), (q_t_told, .inr (3, [.ref q_t_told_beats, .ref q_t_told_kinds, .int t_told_count, .int t_told_depth, .int t_told_noon, .int t_told_depthBehind])), (q_t_strains, .inl (cI, 5, .inl t_strains)), (q_t_strides, .inl (cI, 5, .inl t_strides))] sz)) 0 0 (va_A [(q_t, .inr (6, [.ref q_t_told, .ref q_t_line, .ref q_t_strides, .ref q_t_strains, .int t_down, .int t_steps])), (q_t_told, .inr (3, [.ref q_t_told_beats, .ref q_t_told_kinds, .int t_told_count, .int t_told_depth, .int t_told_noon, .int t_told_depthBehind])), (q_t_strains, .inl (cI, 5, .inl t_strains)), (q_t_strides, .inl (cI, 5, .inl t_strides))] sz) := by
  refine MetZ (cc := cX6_canDrill) (maxL := 3) (by decide) rfl (Nat.le_of_ble_eq_true rfl) (fun _ h => h) ?_
  intro p e s m args below meth c A Q ls hx CF hK hA hD hP hS hl hB hAe hsz hret
  have hb := CF.2.1
  have hml := CF.2.2.1
  have hown := CF.2.2.2.1
  have hts := CF.2.2.2.2
  have hD0 := hD
  replace hl : lv_has ls 3 [(0, .ref q_t), (1, .int x1), (2, .int x2)] := hl
  have hinX6 : ∀ w ∈ wsX60, w ∈ wsX6_canDrill := fun _ h => List.mem_cons_of_mem _ (List.mem_append_left _ (List.mem_append_right _ h))
  have hinX3 : ∀ w ∈ wsX30, w ∈ wsX6_canDrill := fun _ h => List.mem_cons_of_mem _ (List.mem_append_right _ h)
  have w_0 := hts (.initialized RX7) (by decide +kernel)
  have w_1 := hts (.static yX7_isBetween) (by decide +kernel)
  have w_2 := hts (.fieldLink RX6 21 "PassInStep$Yard" "told" "LPassInStep$Party;") (by decide +kernel)
  have h_56 : ∀ (H : Heap) (locs : List Loc) (ls : Array Slot), va_P (dC, dI) vwCl [(q_t, .inr (6, [.ref q_t_told, .ref q_t_line, .ref q_t_strides, .ref q_t_strains, .int t_down, .int t_steps])), (q_t_told, .inr (3, [.ref q_t_told_beats, .ref q_t_told_kinds, .int t_told_count, .int t_told_depth, .int t_told_noon, .int t_told_depthBehind])), (q_t_strains, .inl (cI, 5, .inl t_strains)), (q_t_strides, .inl (cI, 5, .inl t_strides))] H → va_S A s.heap H locs → lv_has ls 3 [] → J_X6_canDrill_56 = some r_ → W p l e rm_X6_canDrill s m args below meth c H locs 0 0 Q (F0 m 56 ls []) := by
    intro  H locs ls hP hS hl hf
    have hD : va_D A [(q_t, .inr (6, [.ref q_t_told, .ref q_t_line, .ref q_t_strides, .ref q_t_strains, .int t_down, .int t_steps])), (q_t_told, .inr (3, [.ref q_t_told_beats, .ref q_t_told_kinds, .int t_told_count, .int t_told_depth, .int t_told_noon, .int t_told_depthBehind])), (q_t_strains, .inl (cI, 5, .inl t_strains)), (q_t_strides, .inl (cI, 5, .inl t_strides))] := wd hD0 rfl
    rw [J_X6_canDrill_56] at hf
    refine lv_iconst (v := 0) hx hb dX6_canDrill_56 (by decide) ?_
    have e0 := ij1 hf
    refine W.eq (congrArg (fun z => F0 m 57 ls [.int z]) e0) ?_
    exact hret _ _ _ _ hP hS (by rw [← e0]; rfl) dX6_canDrill_57
  have h_42 : ∀ (s0 : Int32) (s1 : Int32) (H : Heap) (locs : List Loc) (ls : Array Slot), va_P (dC, dI) vwCl [(q_t, .inr (6, [.ref q_t_told, .ref q_t_line, .ref q_t_strides, .ref q_t_strains, .int t_down, .int t_steps])), (q_t_told, .inr (3, [.ref q_t_told_beats, .ref q_t_told_kinds, .int t_told_count, .int t_told_depth, .int t_told_noon, .int t_told_depthBehind])), (q_t_strains, .inl (cI, 5, .inl t_strains)), (q_t_strides, .inl (cI, 5, .inl t_strides))] H → va_S A s.heap H locs → lv_has ls 3 [] → J_X6_canDrill_42 s0 s1 = some r_ → W p l e rm_X6_canDrill s m args below meth c H locs 0 0 Q (F0 m 42 ls [.int s0, .int s1]) := by
    intro s0 s1 H locs ls hP hS hl hf
    have hD : va_D A [(q_t, .inr (6, [.ref q_t_told, .ref q_t_line, .ref q_t_strides, .ref q_t_strains, .int t_down, .int t_steps])), (q_t_told, .inr (3, [.ref q_t_told_beats, .ref q_t_told_kinds, .int t_told_count, .int t_told_depth, .int t_told_noon, .int t_told_depthBehind])), (q_t_strains, .inl (cI, 5, .inl t_strains)), (q_t_strides, .inl (cI, 5, .inl t_strides))] := wd hD0 rfl
    rw [J_X6_canDrill_42] at hf
    refine lv_iadd hx hb dX6_canDrill_42 ?_
    refine lv_iconst (v := 1) hx hb dX6_canDrill_43 (by decide) ?_
    refine lv_bipush (v := 9) hx hb dX6_canDrill_44 (by decide) ?_
    obtain ⟨r1, e3, hf⟩ := bd_ok hf
    refine kNi (As := [.int (s1 + s0), .int 1, .int 9]) CF ⟨va_cnB 3 hts gX6_canDrill_X7_isBetween_n90 rfl rfl rfl (nw_X6_90 hK.2) w_0 (by decide +kernel) ⟨Nat.le_of_ble_eq_true rfl, Nat.le_of_ble_eq_true rfl⟩, w_1, trivial⟩ PU_blind hP hD hS hA [] (fun h1 h2 h3 => PU_pre hK h1 A h2 h3) (c_X7_isBetween l dC dI cI cZ _ (s1 + s0) 1 9 r1 e3) rfl rfl rfl rfl hl.1 rfl (Nat.le_of_ble_eq_true rfl) dX6_canDrill_46 ⟨Nat.zero_le _, Nat.zero_le _⟩ (fun H locs hP hS => ?_)
    replace hP : va_P (dC, dI) vwCl [(q_t, .inr (6, [.ref q_t_told, .ref q_t_line, .ref q_t_strides, .ref q_t_strains, .int t_down, .int t_steps])), (q_t_told, .inr (3, [.ref q_t_told_beats, .ref q_t_told_kinds, .int t_told_count, .int t_told_depth, .int t_told_noon, .int t_told_depthBehind])), (q_t_strains, .inl (cI, 5, .inl t_strains)), (q_t_strides, .inl (cI, 5, .inl t_strides))] H := hP
    refine lv_if_eq (tgt := 56) hx hb dX6_canDrill_49 (by decide) (fun hc => ?_) (fun hc => ?_)
    · replace hf := ip hc hf
      exact h_56 _ _ _ hP hS (lv_sub hl [] rfl) hf
    · replace hf := iq hc hf
      refine lv_iconst (v := 1) hx hb dX6_canDrill_52 (by decide) ?_
      refine lv_goto (tgt := 57) hx hb dX6_canDrill_53 (by decide) ?_
      have e0 := ij1 hf
      refine W.eq (congrArg (fun z => F0 m 57 ls [.int z]) e0) ?_
      exact hret _ _ _ _ hP hS (by rw [← e0]; rfl) dX6_canDrill_57
  rw [f_X6_canDrill] at hf
  refine lv_aload_n hx hb dX6_canDrill_0 rfl (lv_at hl 0 rfl) ?_
  refine va_get (D := (dC, dI)) (ci := 6) (v := .ref q_t_told) (C := RX6) (T := TX6) (N := 6) hx hb hts hinX6 hown hK.1 hP 0 rfl rfl 0 (by decide) w_2 (fun _ h9 => h9) rfl dX6_canDrill_1 ?_
  refine lv_iload_n hx hb dX6_canDrill_4 rfl (lv_at hl 1 rfl) ?_
  obtain ⟨r4, e6, hf⟩ := bd_ok hf
  refine kVi (As := [.int x1]) CF (cwV 1 hts gX6_canDrill_X3_has rfl rfl rfl (by decide +kernel) ⟨Nat.le_of_ble_eq_true rfl, Nat.le_of_ble_eq_true rfl⟩) PU_blind hP hD hS hA (va_recv hK.1 hP (ci := 3) (q0 := 1) rfl rfl) [1] (fun h1 h2 h3 => PU_pre hK h1 A h2 h3) (c_X3_has l dC dI cI cZ q_t_told q_t_told_beats q_t_told_kinds _ t_told_count t_told_depth t_told_noon t_told_depthBehind x1 r4 e6) rfl rfl rfl rfl hl.1 rfl (Nat.le_of_ble_eq_true rfl) dX6_canDrill_5 ⟨Nat.zero_le _, Nat.zero_le _⟩ (fun H locs hP hS => ?_)
  replace hP : va_P (dC, dI) vwCl [(q_t, .inr (6, [.ref q_t_told, .ref q_t_line, .ref q_t_strides, .ref q_t_strains, .int t_down, .int t_steps])), (q_t_told, .inr (3, [.ref q_t_told_beats, .ref q_t_told_kinds, .int t_told_count, .int t_told_depth, .int t_told_noon, .int t_told_depthBehind])), (q_t_strains, .inl (cI, 5, .inl t_strains)), (q_t_strides, .inl (cI, 5, .inl t_strides))] H := hP
  refine lv_if_eq (tgt := 56) hx hb dX6_canDrill_8 (by decide) (fun hc => ?_) (fun hc => ?_)
  · replace hf := ip hc hf
    exact h_56 _ _ _ hP hS (lv_sub hl [] rfl) hf
  · replace hf := iq hc hf
    refine lv_aload_n hx hb dX6_canDrill_11 rfl (lv_at hl 0 rfl) ?_
    refine lv_iload_n hx hb dX6_canDrill_12 rfl (lv_at hl 1 rfl) ?_
    obtain ⟨r7, e9, hf⟩ := bd_ok hf
    refine kVi (As := [.int x1]) CF (cwV 1 hts gX6_canDrill_X6_isDown rfl rfl rfl (by decide +kernel) ⟨Nat.le_of_ble_eq_true rfl, Nat.le_of_ble_eq_true rfl⟩) PU_blind hP hD hS hA (va_recv hK.1 hP (ci := 6) (q0 := 0) rfl rfl) [0] (fun h1 h2 h3 => PU_pre hK h1 A h2 h3) (c_X6_isDown l dC dI cI cZ q_t q_t_told q_t_line q_t_strides q_t_strains _ t_down t_steps x1 r7 e9) rfl rfl rfl rfl hl.1 rfl (Nat.le_of_ble_eq_true rfl) dX6_canDrill_13 ⟨Nat.zero_le _, Nat.zero_le _⟩ (fun H locs hP hS => ?_)
    replace hP : va_P (dC, dI) vwCl [(q_t, .inr (6, [.ref q_t_told, .ref q_t_line, .ref q_t_strides, .ref q_t_strains, .int t_down, .int t_steps])), (q_t_told, .inr (3, [.ref q_t_told_beats, .ref q_t_told_kinds, .int t_told_count, .int t_told_depth, .int t_told_noon, .int t_told_depthBehind])), (q_t_strains, .inl (cI, 5, .inl t_strains)), (q_t_strides, .inl (cI, 5, .inl t_strides))] H := hP
    refine lv_if_ne (tgt := 56) hx hb dX6_canDrill_16 (by decide) (fun hc => ?_) (fun hc => ?_)
    · replace hf := iq hc hf
      exact h_56 _ _ _ hP hS (lv_sub hl [] rfl) hf
    · replace hf := ip hc hf
      refine lv_aload_n hx hb dX6_canDrill_19 rfl (lv_at hl 0 rfl) ?_
      refine lv_iload_n hx hb dX6_canDrill_20 rfl (lv_at hl 1 rfl) ?_
      obtain ⟨r10, e12, hf⟩ := bd_ok hf
      refine kVi (As := [.int x1]) CF (cwV 1 hts gX6_canDrill_X6_strainOf rfl rfl rfl (by decide +kernel) ⟨Nat.le_of_ble_eq_true rfl, Nat.le_of_ble_eq_true rfl⟩) PU_blind hP hD hS hA (va_recv hK.1 hP (ci := 6) (q0 := 0) rfl rfl) [0, 2] (fun h1 h2 h3 => PU_pre hK h1 A h2 h3) (c_X6_strainOf l dC dI cI cZ q_t q_t_told q_t_line q_t_strides q_t_strains _ t_down t_steps t_strains x1 r10 e12) rfl rfl rfl rfl hl.1 rfl (Nat.le_of_ble_eq_true rfl) dX6_canDrill_21 ⟨Nat.zero_le _, Nat.zero_le _⟩ (fun H locs hP hS => ?_)
      replace hP : va_P (dC, dI) vwCl [(q_t, .inr (6, [.ref q_t_told, .ref q_t_line, .ref q_t_strides, .ref q_t_strains, .int t_down, .int t_steps])), (q_t_told, .inr (3, [.ref q_t_told_beats, .ref q_t_told_kinds, .int t_told_count, .int t_told_depth, .int t_told_noon, .int t_told_depthBehind])), (q_t_strains, .inl (cI, 5, .inl t_strains)), (q_t_strides, .inl (cI, 5, .inl t_strides))] H := hP
      refine lv_iconst (v := 5) hx hb dX6_canDrill_24 (by decide) ?_
      refine lv_icmp_ge (tgt := 56) hx hb dX6_canDrill_25 (by decide) (fun hc => ?_) (fun hc => ?_)
      · replace hf := ip hc hf
        exact h_56 _ _ _ hP hS (lv_sub hl [] rfl) hf
      · replace hf := iq hc hf
        refine lv_aload_n hx hb dX6_canDrill_28 rfl (lv_at hl 0 rfl) ?_
        refine lv_iload_n hx hb dX6_canDrill_29 rfl (lv_at hl 1 rfl) ?_
        obtain ⟨r13, e15, hf⟩ := bd_ok hf
        refine kVi (As := [.int x1]) CF (cwV 1 hts gX6_canDrill_X6_strideOf rfl rfl rfl (by decide +kernel) ⟨Nat.le_of_ble_eq_true rfl, Nat.le_of_ble_eq_true rfl⟩) PU_blind hP hD hS hA (va_recv hK.1 hP (ci := 6) (q0 := 0) rfl rfl) [0, 3] (fun h1 h2 h3 => PU_pre hK h1 A h2 h3) (c_X6_strideOf l dC dI cI cZ q_t q_t_told q_t_line q_t_strides q_t_strains _ t_down t_steps t_strides x1 r13 e15) rfl rfl rfl rfl hl.1 rfl (Nat.le_of_ble_eq_true rfl) dX6_canDrill_30 ⟨Nat.zero_le _, Nat.zero_le _⟩ (fun H locs hP hS => ?_)
        replace hP : va_P (dC, dI) vwCl [(q_t, .inr (6, [.ref q_t_told, .ref q_t_line, .ref q_t_strides, .ref q_t_strains, .int t_down, .int t_steps])), (q_t_told, .inr (3, [.ref q_t_told_beats, .ref q_t_told_kinds, .int t_told_count, .int t_told_depth, .int t_told_noon, .int t_told_depthBehind])), (q_t_strains, .inl (cI, 5, .inl t_strains)), (q_t_strides, .inl (cI, 5, .inl t_strides))] H := hP
        refine lv_iload_n hx hb dX6_canDrill_33 rfl (lv_at hl 2 rfl) ?_
        refine lv_if_eq (tgt := 41) hx hb dX6_canDrill_34 (by decide) (fun hc => ?_) (fun hc => ?_)
        · replace hf := ip hc hf
          refine lv_iconst (v := (-1)) hx hb dX6_canDrill_41 (by decide) ?_
          exact h_42 (-1) r13 _ _ _ hP hS (lv_sub hl [] rfl) hf
        · replace hf := iq hc hf
          refine lv_iconst (v := 1) hx hb dX6_canDrill_37 (by decide) ?_
          refine lv_goto (tgt := 42) hx hb dX6_canDrill_38 (by decide) ?_
          exact h_42 1 r13 _ _ _ hP hS (lv_sub hl [] rfl) hf
abbrev rm_X6_tryDrill : Room := { frames := 3, cells := 0, slots := 0, locals := 64 }
set_option maxHeartbeats 4000000 in
set_option maxRecDepth 100000 in
theorem c_X6_tryDrill (l : Launch) (dC : Nat → ClassId) (dI : Nat → Nat → Nat) (cI cZ : ClassId) (q_t q_t_told q_t_line q_t_strides q_t_strains q_t_told_beats q_t_told_kinds : Nat) (sz : Nat) (t_down : Int32) (t_steps : Int32) (t_told_count : Int32) (t_told_depth : Int32) (t_told_noon : Int32) (t_told_depthBehind : Int32) (t_strains : Nat → Int32) (t_strides : Nat → Int32) (x1 : Int32) (x2 : Int32) (r_ : Int32) (o_t_strains : Nat → Int32) (o_t_strides : Nat → Int32) (hf : f_X6_tryDrill x1 x2 t_down t_told_count t_strains t_strides = some (r_, o_t_strains, o_t_strides)) : Met l yX6_tryDrill wsX6_tryDrill rm_X6_tryDrill (va_Pc [.ref q_t, .int x1, .int x2] (PU (dC, dI) cI cZ [(q_t, .inr (6, [.ref q_t_told, .ref q_t_line, .ref q_t_strides, .ref q_t_strains, .int t_down, .int t_steps])), (q_t_told, .inr (3, [.ref q_t_told_beats, .ref q_t_told_kinds, .int t_told_count, .int t_told_depth, .int t_told_noon, .int t_told_depthBehind])), (q_t_strains, .inl (cI, 5, .inl t_strains)), (q_t_strides, .inl (cI, 5, .inl t_strides))] sz)) (va_Qi (fun (r : Int32) (_ : Unit) => r = r_) (fun _ t => va_P (dC, dI) vwCl [(q_t, .inr (6, [.ref q_t_told, .ref q_t_line, .ref q_t_strides, .ref q_t_strains, .int t_down, .int t_steps])), (q_t_told, .inr (3, [.ref q_t_told_beats, .ref q_t_told_kinds, .int t_told_count, .int t_told_depth, .int t_told_noon, .int t_told_depthBehind])), (q_t_strains, .inl (cI, 5, .inl o_t_strains)), (q_t_strides, .inl (cI, 5, .inl o_t_strides))] t.heap) (va_A [(q_t, .inr (6, [.ref q_t_told, .ref q_t_line, .ref q_t_strides, .ref q_t_strains, .int t_down, .int t_steps])), (q_t_told, .inr (3, [.ref q_t_told_beats, .ref q_t_told_kinds, .int t_told_count, .int t_told_depth, .int t_told_noon, .int t_told_depthBehind])), (q_t_strains, .inl (cI, 5, .inl t_strains)), (q_t_strides, .inl (cI, 5, .inl t_strides))] sz)) 0 0 (va_A [(q_t, .inr (6, [.ref q_t_told, .ref q_t_line, .ref q_t_strides, .ref q_t_strains, .int t_down, .int t_steps])), (q_t_told, .inr (3, [.ref q_t_told_beats, .ref q_t_told_kinds, .int t_told_count, .int t_told_depth, .int t_told_noon, .int t_told_depthBehind])), (q_t_strains, .inl (cI, 5, .inl t_strains)), (q_t_strides, .inl (cI, 5, .inl t_strides))] sz) := by
  refine MetZ (cc := cX6_tryDrill) (maxL := 3) (by decide) rfl (Nat.le_of_ble_eq_true rfl) (fun _ h => h) ?_
  intro p e s m args below meth c A Q ls hx CF hK hA hD hP hS hl hB hAe hsz hret
  have hb := CF.2.1
  have hml := CF.2.2.1
  have hown := CF.2.2.2.1
  have hts := CF.2.2.2.2
  have hD0 := hD
  replace hl : lv_has ls 3 [(0, .ref q_t), (1, .int x1), (2, .int x2)] := hl
  have hinX6 : ∀ w ∈ wsX60, w ∈ wsX6_tryDrill := fun _ h => List.mem_cons_of_mem _ (List.mem_append_left _ (List.mem_append_right _ h))
  have hinX3 : ∀ w ∈ wsX30, w ∈ wsX6_tryDrill := fun _ h => List.mem_cons_of_mem _ (List.mem_append_right _ h)
  have w_0 := hts (.fieldLink RX6 18 "PassInStep$Yard" "strains" "[I") (by decide +kernel)
  have w_1 := hts (.initialized RX7) (by decide +kernel)
  have w_2 := hts (.static yX7_put) (by decide +kernel)
  have h_27 : ∀ (x1 : Int32) (s0 : Int32) (s1 : Int32) (s2 : Int32) (t_strains : Nat → Int32) (t_strides : Nat → Int32) (H : Heap) (locs : List Loc) (ls : Array Slot), va_P (dC, dI) vwCl [(q_t, .inr (6, [.ref q_t_told, .ref q_t_line, .ref q_t_strides, .ref q_t_strains, .int t_down, .int t_steps])), (q_t_told, .inr (3, [.ref q_t_told_beats, .ref q_t_told_kinds, .int t_told_count, .int t_told_depth, .int t_told_noon, .int t_told_depthBehind])), (q_t_strains, .inl (cI, 5, .inl t_strains)), (q_t_strides, .inl (cI, 5, .inl t_strides))] H → va_S A s.heap H locs → lv_has ls 3 [(0, .ref q_t), (1, .int x1)] → J_X6_tryDrill_27 x1 s0 s1 s2 t_strains t_strides = some (r_, o_t_strains, o_t_strides) → W p l e rm_X6_tryDrill s m args below meth c H locs 0 0 Q (F0 m 27 ls [.int s0, .int s1, .int s2, .ref q_t]) := by
    intro x1 s0 s1 s2 t_strains t_strides H locs ls hP hS hl hf
    have hD : va_D A [(q_t, .inr (6, [.ref q_t_told, .ref q_t_line, .ref q_t_strides, .ref q_t_strains, .int t_down, .int t_steps])), (q_t_told, .inr (3, [.ref q_t_told_beats, .ref q_t_told_kinds, .int t_told_count, .int t_told_depth, .int t_told_noon, .int t_told_depthBehind])), (q_t_strains, .inl (cI, 5, .inl t_strains)), (q_t_strides, .inl (cI, 5, .inl t_strides))] := wd hD0 rfl
    rw [J_X6_tryDrill_27] at hf
    refine lv_iadd hx hb dX6_tryDrill_27 ?_
    obtain ⟨o1, e3, hf⟩ := bd_ok hf
    refine kVv (As := [.int s2, .int (s1 + s0)]) CF (cwV 2 hts gX6_tryDrill_X6_setStride rfl rfl rfl (by decide +kernel) ⟨Nat.le_of_ble_eq_true rfl, Nat.le_of_ble_eq_true rfl⟩) PU_blind hP hD hS hA (va_recv hK.1 hP (ci := 6) (q0 := 0) rfl rfl) [0, 3] (fun h1 h2 h3 => PU_pre hK h1 A h2 h3) (c_X6_setStride l dC dI cI cZ q_t q_t_told q_t_line q_t_strides q_t_strains _ t_down t_steps t_strides s2 (s1 + s0) o1 e3) rfl rfl rfl rfl hl.1 rfl (Nat.le_of_ble_eq_true rfl) dX6_tryDrill_28 ⟨Nat.zero_le _, Nat.zero_le _⟩ (fun H locs hP hS => ?_)
    replace hP : va_P (dC, dI) vwCl [(q_t, .inr (6, [.ref q_t_told, .ref q_t_line, .ref q_t_strides, .ref q_t_strains, .int t_down, .int t_steps])), (q_t_told, .inr (3, [.ref q_t_told_beats, .ref q_t_told_kinds, .int t_told_count, .int t_told_depth, .int t_told_noon, .int t_told_depthBehind])), (q_t_strains, .inl (cI, 5, .inl t_strains)), (q_t_strides, .inl (cI, 5, .inl o1))] H := hP
    replace hD : va_D A [(q_t, .inr (6, [.ref q_t_told, .ref q_t_line, .ref q_t_strides, .ref q_t_strains, .int t_down, .int t_steps])), (q_t_told, .inr (3, [.ref q_t_told_beats, .ref q_t_told_kinds, .int t_told_count, .int t_told_depth, .int t_told_noon, .int t_told_depthBehind])), (q_t_strains, .inl (cI, 5, .inl t_strains)), (q_t_strides, .inl (cI, 5, .inl o1))] := wd hD rfl
    refine lv_aload_n hx hb dX6_tryDrill_31 rfl (lv_at hl 0 rfl) ?_
    refine va_get (D := (dC, dI)) (ci := 6) (v := .ref q_t_strains) (C := RX6) (T := TX6) (N := 6) hx hb hts hinX6 hown hK.1 hP 0 rfl rfl 3 (by decide) w_0 (fun _ h9 => h9) rfl dX6_tryDrill_32 ?_
    refine lv_iload_n hx hb dX6_tryDrill_35 rfl (lv_at hl 1 rfl) ?_
    refine lv_aload_n hx hb dX6_tryDrill_36 rfl (lv_at hl 0 rfl) ?_
    refine lv_iload_n hx hb dX6_tryDrill_37 rfl (lv_at hl 1 rfl) ?_
    obtain ⟨r4, e6, hf⟩ := bd_ok hf
    refine kVi (As := [.int x1]) CF (cwV 1 hts gX6_tryDrill_X6_strainOf rfl rfl rfl (by decide +kernel) ⟨Nat.le_of_ble_eq_true rfl, Nat.le_of_ble_eq_true rfl⟩) PU_blind hP hD hS hA (va_recv hK.1 hP (ci := 6) (q0 := 0) rfl rfl) [0, 2] (fun h1 h2 h3 => PU_pre hK h1 A h2 h3) (c_X6_strainOf l dC dI cI cZ q_t q_t_told q_t_line q_t_strides q_t_strains _ t_down t_steps t_strains x1 r4 e6) rfl rfl rfl rfl hl.1 rfl (Nat.le_of_ble_eq_true rfl) dX6_tryDrill_38 ⟨Nat.zero_le _, Nat.zero_le _⟩ (fun H locs hP hS => ?_)
    replace hP : va_P (dC, dI) vwCl [(q_t, .inr (6, [.ref q_t_told, .ref q_t_line, .ref q_t_strides, .ref q_t_strains, .int t_down, .int t_steps])), (q_t_told, .inr (3, [.ref q_t_told_beats, .ref q_t_told_kinds, .int t_told_count, .int t_told_depth, .int t_told_noon, .int t_told_depthBehind])), (q_t_strains, .inl (cI, 5, .inl t_strains)), (q_t_strides, .inl (cI, 5, .inl o1))] H := hP
    refine lv_iconst (v := 1) hx hb dX6_tryDrill_41 (by decide) ?_
    refine lv_iadd hx hb dX6_tryDrill_42 ?_
    obtain ⟨o7, e9, hf⟩ := bd_ok hf
    refine kNv (As := [.ref q_t_strains, .int x1, .int (r4 + 1)]) CF ⟨va_cnB 3 hts gX6_tryDrill_X7_put_n25 rfl rfl rfl (nw_X6_25 hK.2) w_1 (by decide +kernel) ⟨Nat.le_of_ble_eq_true rfl, Nat.le_of_ble_eq_true rfl⟩, w_2, trivial⟩ PU_blind hP hD hS hA [2] (fun h1 h2 h3 => PU_pre hK h1 A h2 h3) (c_X7_put l dC dI cI cZ q_t_strains _ t_strains 5 x1 (r4 + 1) o7 e9) rfl rfl rfl rfl hl.1 rfl (Nat.le_of_ble_eq_true rfl) dX6_tryDrill_43 ⟨Nat.zero_le _, Nat.zero_le _⟩ (fun H locs hP hS => ?_)
    replace hP : va_P (dC, dI) vwCl [(q_t, .inr (6, [.ref q_t_told, .ref q_t_line, .ref q_t_strides, .ref q_t_strains, .int t_down, .int t_steps])), (q_t_told, .inr (3, [.ref q_t_told_beats, .ref q_t_told_kinds, .int t_told_count, .int t_told_depth, .int t_told_noon, .int t_told_depthBehind])), (q_t_strains, .inl (cI, 5, .inl o7)), (q_t_strides, .inl (cI, 5, .inl o1))] H := hP
    replace hD : va_D A [(q_t, .inr (6, [.ref q_t_told, .ref q_t_line, .ref q_t_strides, .ref q_t_strains, .int t_down, .int t_steps])), (q_t_told, .inr (3, [.ref q_t_told_beats, .ref q_t_told_kinds, .int t_told_count, .int t_told_depth, .int t_told_noon, .int t_told_depthBehind])), (q_t_strains, .inl (cI, 5, .inl o7)), (q_t_strides, .inl (cI, 5, .inl o1))] := wd hD rfl
    refine lv_iconst (v := 1) hx hb dX6_tryDrill_46 (by decide) ?_
    obtain ⟨e0, hf⟩ := ij2 hf
    obtain ⟨e1, hf⟩ := ijc hf
    have e2 := hf
    refine W.eq (congrArg (fun z => F0 m 47 ls [.int z]) e0) ?_
    exact hret _ _ _ _ (by rw [← e1, ← e2]; exact hP) hS (by rw [← e0]; rfl) dX6_tryDrill_47
  rw [f_X6_tryDrill] at hf
  refine lv_aload_n hx hb dX6_tryDrill_0 rfl (lv_at hl 0 rfl) ?_
  refine lv_iload_n hx hb dX6_tryDrill_1 rfl (lv_at hl 1 rfl) ?_
  refine lv_iload_n hx hb dX6_tryDrill_2 rfl (lv_at hl 2 rfl) ?_
  obtain ⟨r10, e12, hf⟩ := bd_ok hf
  refine kVi (As := [.int x1, .int x2]) CF (cwV 2 hts gX6_tryDrill_X6_canDrill rfl rfl rfl (by decide +kernel) ⟨Nat.le_of_ble_eq_true rfl, Nat.le_of_ble_eq_true rfl⟩) PU_blind hP hD hS hA (va_recv hK.1 hP (ci := 6) (q0 := 0) rfl rfl) [0, 1, 2, 3] (fun h1 h2 h3 => PU_pre hK h1 A h2 h3) (c_X6_canDrill l dC dI cI cZ q_t q_t_told q_t_line q_t_strides q_t_strains q_t_told_beats q_t_told_kinds _ t_down t_steps t_told_count t_told_depth t_told_noon t_told_depthBehind t_strains t_strides x1 x2 r10 e12) rfl rfl rfl rfl hl.1 rfl (Nat.le_of_ble_eq_true rfl) dX6_tryDrill_3 ⟨Nat.zero_le _, Nat.zero_le _⟩ (fun H locs hP hS => ?_)
  replace hP : va_P (dC, dI) vwCl [(q_t, .inr (6, [.ref q_t_told, .ref q_t_line, .ref q_t_strides, .ref q_t_strains, .int t_down, .int t_steps])), (q_t_told, .inr (3, [.ref q_t_told_beats, .ref q_t_told_kinds, .int t_told_count, .int t_told_depth, .int t_told_noon, .int t_told_depthBehind])), (q_t_strains, .inl (cI, 5, .inl t_strains)), (q_t_strides, .inl (cI, 5, .inl t_strides))] H := hP
  refine lv_if_ne (tgt := 11) hx hb dX6_tryDrill_6 (by decide) (fun hc => ?_) (fun hc => ?_)
  · replace hf := iq hc hf
    refine lv_aload_n hx hb dX6_tryDrill_11 rfl (lv_at hl 0 rfl) ?_
    refine lv_iload_n hx hb dX6_tryDrill_12 rfl (lv_at hl 1 rfl) ?_
    refine lv_aload_n hx hb dX6_tryDrill_13 rfl (lv_at hl 0 rfl) ?_
    refine lv_iload_n hx hb dX6_tryDrill_14 rfl (lv_at hl 1 rfl) ?_
    obtain ⟨r13, e15, hf⟩ := bd_ok hf
    refine kVi (As := [.int x1]) CF (cwV 1 hts gX6_tryDrill_X6_strideOf rfl rfl rfl (by decide +kernel) ⟨Nat.le_of_ble_eq_true rfl, Nat.le_of_ble_eq_true rfl⟩) PU_blind hP hD hS hA (va_recv hK.1 hP (ci := 6) (q0 := 0) rfl rfl) [0, 3] (fun h1 h2 h3 => PU_pre hK h1 A h2 h3) (c_X6_strideOf l dC dI cI cZ q_t q_t_told q_t_line q_t_strides q_t_strains _ t_down t_steps t_strides x1 r13 e15) rfl rfl rfl rfl hl.1 rfl (Nat.le_of_ble_eq_true rfl) dX6_tryDrill_15 ⟨Nat.zero_le _, Nat.zero_le _⟩ (fun H locs hP hS => ?_)
    replace hP : va_P (dC, dI) vwCl [(q_t, .inr (6, [.ref q_t_told, .ref q_t_line, .ref q_t_strides, .ref q_t_strains, .int t_down, .int t_steps])), (q_t_told, .inr (3, [.ref q_t_told_beats, .ref q_t_told_kinds, .int t_told_count, .int t_told_depth, .int t_told_noon, .int t_told_depthBehind])), (q_t_strains, .inl (cI, 5, .inl t_strains)), (q_t_strides, .inl (cI, 5, .inl t_strides))] H := hP
    refine lv_iload_n hx hb dX6_tryDrill_18 rfl (lv_at hl 2 rfl) ?_
    refine lv_if_eq (tgt := 26) hx hb dX6_tryDrill_19 (by decide) (fun hc => ?_) (fun hc => ?_)
    · replace hf := ip hc hf
      refine lv_iconst (v := (-1)) hx hb dX6_tryDrill_26 (by decide) ?_
      exact h_27 x1 (-1) r13 x1 t_strains t_strides _ _ _ hP hS (lv_sub hl [0, 1] rfl) hf
    · replace hf := iq hc hf
      refine lv_iconst (v := 1) hx hb dX6_tryDrill_22 (by decide) ?_
      refine lv_goto (tgt := 27) hx hb dX6_tryDrill_23 (by decide) ?_
      exact h_27 x1 1 r13 x1 t_strains t_strides _ _ _ hP hS (lv_sub hl [0, 1] rfl) hf
  · replace hf := ip hc hf
    refine lv_iconst (v := 0) hx hb dX6_tryDrill_9 (by decide) ?_
    obtain ⟨e0, hf⟩ := ij2 hf
    obtain ⟨e1, hf⟩ := ijc hf
    have e2 := hf
    refine W.eq (congrArg (fun z => F0 m 10 ls [.int z]) e0) ?_
    exact hret _ _ _ _ (by rw [← e1, ← e2]; exact hP) hS (by rw [← e0]; rfl) dX6_tryDrill_10
abbrev rm_X6_canSwap : Room := { frames := 1, cells := 0, slots := 0, locals := 20 }
set_option maxHeartbeats 4000000 in
set_option maxRecDepth 100000 in
theorem c_X6_canSwap (l : Launch) (dC : Nat → ClassId) (dI : Nat → Nat → Nat) (cI cZ : ClassId) (q_t q_t_told q_t_line q_t_strides q_t_strains q_t_told_beats q_t_told_kinds : Nat) (sz : Nat) (t_down : Int32) (t_steps : Int32) (t_told_count : Int32) (t_told_depth : Int32) (t_told_noon : Int32) (t_told_depthBehind : Int32) (x1 : Int32) (r_ : Int32) (hf : f_X6_canSwap x1 t_told_count = some r_) : Met l yX6_canSwap wsX6_canSwap rm_X6_canSwap (va_Pc [.ref q_t, .int x1] (PU (dC, dI) cI cZ [(q_t, .inr (6, [.ref q_t_told, .ref q_t_line, .ref q_t_strides, .ref q_t_strains, .int t_down, .int t_steps])), (q_t_told, .inr (3, [.ref q_t_told_beats, .ref q_t_told_kinds, .int t_told_count, .int t_told_depth, .int t_told_noon, .int t_told_depthBehind]))] sz)) (va_Qi (fun (r : Int32) (_ : Unit) => r = r_) (fun _ t => va_P (dC, dI) vwCl [(q_t, .inr (6, [.ref q_t_told, .ref q_t_line, .ref q_t_strides, .ref q_t_strains, .int t_down, .int t_steps])), (q_t_told, .inr (3, [.ref q_t_told_beats, .ref q_t_told_kinds, .int t_told_count, .int t_told_depth, .int t_told_noon, .int t_told_depthBehind]))] t.heap) (va_A [(q_t, .inr (6, [.ref q_t_told, .ref q_t_line, .ref q_t_strides, .ref q_t_strains, .int t_down, .int t_steps])), (q_t_told, .inr (3, [.ref q_t_told_beats, .ref q_t_told_kinds, .int t_told_count, .int t_told_depth, .int t_told_noon, .int t_told_depthBehind]))] sz)) 0 0 (va_A [(q_t, .inr (6, [.ref q_t_told, .ref q_t_line, .ref q_t_strides, .ref q_t_strains, .int t_down, .int t_steps])), (q_t_told, .inr (3, [.ref q_t_told_beats, .ref q_t_told_kinds, .int t_told_count, .int t_told_depth, .int t_told_noon, .int t_told_depthBehind]))] sz) := by
  refine MetZ (cc := cX6_canSwap) (maxL := 2) (by decide) rfl (Nat.le_of_ble_eq_true rfl) (fun _ h => h) ?_
  intro p e s m args below meth c A Q ls hx CF hK hA hD hP hS hl hB hAe hsz hret
  have hb := CF.2.1
  have hml := CF.2.2.1
  have hown := CF.2.2.2.1
  have hts := CF.2.2.2.2
  have hD0 := hD
  replace hl : lv_has ls 2 [(0, .ref q_t), (1, .int x1)] := hl
  have hinX6 : ∀ w ∈ wsX60, w ∈ wsX6_canSwap := fun _ h => List.mem_cons_of_mem _ (List.mem_append_left _ (List.mem_append_right _ h))
  have hinX3 : ∀ w ∈ wsX30, w ∈ wsX6_canSwap := fun _ h => List.mem_cons_of_mem _ (List.mem_append_right _ h)
  have w_0 := hts (.fieldLink RX6 21 "PassInStep$Yard" "told" "LPassInStep$Party;") (by decide +kernel)
  have h_21 : ∀ (H : Heap) (locs : List Loc) (ls : Array Slot), va_P (dC, dI) vwCl [(q_t, .inr (6, [.ref q_t_told, .ref q_t_line, .ref q_t_strides, .ref q_t_strains, .int t_down, .int t_steps])), (q_t_told, .inr (3, [.ref q_t_told_beats, .ref q_t_told_kinds, .int t_told_count, .int t_told_depth, .int t_told_noon, .int t_told_depthBehind]))] H → va_S A s.heap H locs → lv_has ls 2 [] → J_X6_canSwap_21 = some r_ → W p l e rm_X6_canSwap s m args below meth c H locs 0 0 Q (F0 m 21 ls []) := by
    intro  H locs ls hP hS hl hf
    have hD : va_D A [(q_t, .inr (6, [.ref q_t_told, .ref q_t_line, .ref q_t_strides, .ref q_t_strains, .int t_down, .int t_steps])), (q_t_told, .inr (3, [.ref q_t_told_beats, .ref q_t_told_kinds, .int t_told_count, .int t_told_depth, .int t_told_noon, .int t_told_depthBehind]))] := wd hD0 rfl
    rw [J_X6_canSwap_21] at hf
    refine lv_iconst (v := 0) hx hb dX6_canSwap_21 (by decide) ?_
    have e0 := ij1 hf
    refine W.eq (congrArg (fun z => F0 m 22 ls [.int z]) e0) ?_
    exact hret _ _ _ _ hP hS (by rw [← e0]; rfl) dX6_canSwap_22
  rw [f_X6_canSwap] at hf
  refine lv_iload_n hx hb dX6_canSwap_0 rfl (lv_at hl 1 rfl) ?_
  refine lv_if_lt (tgt := 21) hx hb dX6_canSwap_1 (by decide) (fun hc => ?_) (fun hc => ?_)
  · replace hf := ip hc hf
    exact h_21 _ _ _ hP hS (lv_sub hl [] rfl) hf
  · replace hf := iq hc hf
    refine lv_iload_n hx hb dX6_canSwap_4 rfl (lv_at hl 1 rfl) ?_
    refine lv_aload_n hx hb dX6_canSwap_5 rfl (lv_at hl 0 rfl) ?_
    refine va_get (D := (dC, dI)) (ci := 6) (v := .ref q_t_told) (C := RX6) (T := TX6) (N := 6) hx hb hts hinX6 hown hK.1 hP 0 rfl rfl 0 (by decide) w_0 (fun _ h9 => h9) rfl dX6_canSwap_6 ?_
    obtain ⟨r1, e3, hf⟩ := bd_ok hf
    refine kVi (As := []) CF (cwV 0 hts gX6_canSwap_X3_size rfl rfl rfl (by decide +kernel) ⟨Nat.le_of_ble_eq_true rfl, Nat.le_of_ble_eq_true rfl⟩) PU_blind hP hD hS hA (va_recv hK.1 hP (ci := 3) (q0 := 1) rfl rfl) [1] (fun h1 h2 h3 => PU_pre hK h1 A h2 h3) (c_X3_size l dC dI cI cZ q_t_told q_t_told_beats q_t_told_kinds _ t_told_count t_told_depth t_told_noon t_told_depthBehind r1 e3) rfl rfl rfl rfl hl.1 rfl (Nat.le_of_ble_eq_true rfl) dX6_canSwap_9 ⟨Nat.zero_le _, Nat.zero_le _⟩ (fun H locs hP hS => ?_)
    replace hP : va_P (dC, dI) vwCl [(q_t, .inr (6, [.ref q_t_told, .ref q_t_line, .ref q_t_strides, .ref q_t_strains, .int t_down, .int t_steps])), (q_t_told, .inr (3, [.ref q_t_told_beats, .ref q_t_told_kinds, .int t_told_count, .int t_told_depth, .int t_told_noon, .int t_told_depthBehind]))] H := hP
    refine lv_iconst (v := 1) hx hb dX6_canSwap_12 (by decide) ?_
    refine lv_isub hx hb dX6_canSwap_13 ?_
    refine lv_icmp_ge (tgt := 21) hx hb dX6_canSwap_14 (by decide) (fun hc => ?_) (fun hc => ?_)
    · replace hf := ip hc hf
      exact h_21 _ _ _ hP hS (lv_sub hl [] rfl) hf
    · replace hf := iq hc hf
      refine lv_iconst (v := 1) hx hb dX6_canSwap_17 (by decide) ?_
      refine lv_goto (tgt := 22) hx hb dX6_canSwap_18 (by decide) ?_
      have e0 := ij1 hf
      refine W.eq (congrArg (fun z => F0 m 22 ls [.int z]) e0) ?_
      exact hret _ _ _ _ hP hS (by rw [← e0]; rfl) dX6_canSwap_22
abbrev rm_X6_trySwap : Room := { frames := 2, cells := 0, slots := 0, locals := 42 }
set_option maxHeartbeats 4000000 in
set_option maxRecDepth 100000 in
theorem c_X6_trySwap (l : Launch) (dC : Nat → ClassId) (dI : Nat → Nat → Nat) (cI cZ : ClassId) (q_t q_t_told q_t_line q_t_strides q_t_strains q_t_told_beats q_t_told_kinds : Nat) (sz : Nat) (t_down : Int32) (t_steps : Int32) (t_told_count : Int32) (t_told_depth : Int32) (t_told_noon : Int32) (t_told_depthBehind : Int32) (t_line : Nat → Int32) (x1 : Int32) (r_ : Int32) (o_t_line : Nat → Int32) (hf : f_X6_trySwap x1 t_told_count t_line = some (r_, o_t_line)) : Met l yX6_trySwap wsX6_trySwap rm_X6_trySwap (va_Pc [.ref q_t, .int x1] (PU (dC, dI) cI cZ [(q_t, .inr (6, [.ref q_t_told, .ref q_t_line, .ref q_t_strides, .ref q_t_strains, .int t_down, .int t_steps])), (q_t_told, .inr (3, [.ref q_t_told_beats, .ref q_t_told_kinds, .int t_told_count, .int t_told_depth, .int t_told_noon, .int t_told_depthBehind])), (q_t_line, .inl (cI, 5, .inl t_line))] sz)) (va_Qi (fun (r : Int32) (_ : Unit) => r = r_) (fun _ t => va_P (dC, dI) vwCl [(q_t, .inr (6, [.ref q_t_told, .ref q_t_line, .ref q_t_strides, .ref q_t_strains, .int t_down, .int t_steps])), (q_t_told, .inr (3, [.ref q_t_told_beats, .ref q_t_told_kinds, .int t_told_count, .int t_told_depth, .int t_told_noon, .int t_told_depthBehind])), (q_t_line, .inl (cI, 5, .inl o_t_line))] t.heap) (va_A [(q_t, .inr (6, [.ref q_t_told, .ref q_t_line, .ref q_t_strides, .ref q_t_strains, .int t_down, .int t_steps])), (q_t_told, .inr (3, [.ref q_t_told_beats, .ref q_t_told_kinds, .int t_told_count, .int t_told_depth, .int t_told_noon, .int t_told_depthBehind])), (q_t_line, .inl (cI, 5, .inl t_line))] sz)) 0 0 (va_A [(q_t, .inr (6, [.ref q_t_told, .ref q_t_line, .ref q_t_strides, .ref q_t_strains, .int t_down, .int t_steps])), (q_t_told, .inr (3, [.ref q_t_told_beats, .ref q_t_told_kinds, .int t_told_count, .int t_told_depth, .int t_told_noon, .int t_told_depthBehind])), (q_t_line, .inl (cI, 5, .inl t_line))] sz) := by
  refine MetZ (cc := cX6_trySwap) (maxL := 3) (by decide) rfl (Nat.le_of_ble_eq_true rfl) (fun _ h => h) ?_
  intro p e s m args below meth c A Q ls hx CF hK hA hD hP hS hl hB hAe hsz hret
  have hb := CF.2.1
  have hml := CF.2.2.1
  have hown := CF.2.2.2.1
  have hts := CF.2.2.2.2
  have hD0 := hD
  replace hl : lv_has ls 3 [(0, .ref q_t), (1, .int x1)] := hl
  have hinX6 : ∀ w ∈ wsX60, w ∈ wsX6_trySwap := fun _ h => List.mem_cons_of_mem _ (List.mem_append_left _ (List.mem_append_right _ h))
  have hinX3 : ∀ w ∈ wsX30, w ∈ wsX6_trySwap := fun _ h => List.mem_cons_of_mem _ (List.mem_append_right _ h)
  have w_0 := hts (.fieldLink RX6 9 "PassInStep$Yard" "line" "[I") (by decide +kernel)
  have w_1 := hts (.initialized RX7) (by decide +kernel)
  have w_2 := hts (.static yX7_put) (by decide +kernel)
  rw [f_X6_trySwap] at hf
  refine lv_aload_n hx hb dX6_trySwap_0 rfl (lv_at hl 0 rfl) ?_
  refine lv_iload_n hx hb dX6_trySwap_1 rfl (lv_at hl 1 rfl) ?_
  obtain ⟨r1, e3, hf⟩ := bd_ok hf
  refine kVi (As := [.int x1]) CF (cwV 1 hts gX6_trySwap_X6_canSwap rfl rfl rfl (by decide +kernel) ⟨Nat.le_of_ble_eq_true rfl, Nat.le_of_ble_eq_true rfl⟩) PU_blind hP hD hS hA (va_recv hK.1 hP (ci := 6) (q0 := 0) rfl rfl) [0, 1] (fun h1 h2 h3 => PU_pre hK h1 A h2 h3) (c_X6_canSwap l dC dI cI cZ q_t q_t_told q_t_line q_t_strides q_t_strains q_t_told_beats q_t_told_kinds _ t_down t_steps t_told_count t_told_depth t_told_noon t_told_depthBehind x1 r1 e3) rfl rfl rfl rfl hl.1 rfl (Nat.le_of_ble_eq_true rfl) dX6_trySwap_2 ⟨Nat.zero_le _, Nat.zero_le _⟩ (fun H locs hP hS => ?_)
  replace hP : va_P (dC, dI) vwCl [(q_t, .inr (6, [.ref q_t_told, .ref q_t_line, .ref q_t_strides, .ref q_t_strains, .int t_down, .int t_steps])), (q_t_told, .inr (3, [.ref q_t_told_beats, .ref q_t_told_kinds, .int t_told_count, .int t_told_depth, .int t_told_noon, .int t_told_depthBehind])), (q_t_line, .inl (cI, 5, .inl t_line))] H := hP
  refine lv_if_ne (tgt := 10) hx hb dX6_trySwap_5 (by decide) (fun hc => ?_) (fun hc => ?_)
  · replace hf := iq hc hf
    refine lv_aload_n hx hb dX6_trySwap_10 rfl (lv_at hl 0 rfl) ?_
    refine lv_iload_n hx hb dX6_trySwap_11 rfl (lv_at hl 1 rfl) ?_
    obtain ⟨r4, e6, hf⟩ := bd_ok hf
    refine kVi (As := [.int x1]) CF (cwV 1 hts gX6_trySwap_X6_walkerAt rfl rfl rfl (by decide +kernel) ⟨Nat.le_of_ble_eq_true rfl, Nat.le_of_ble_eq_true rfl⟩) PU_blind hP hD hS hA (va_recv hK.1 hP (ci := 6) (q0 := 0) rfl rfl) [0, 2] (fun h1 h2 h3 => PU_pre hK h1 A h2 h3) (c_X6_walkerAt l dC dI cI cZ q_t q_t_told q_t_line q_t_strides q_t_strains _ t_down t_steps t_line x1 r4 e6) rfl rfl rfl rfl hl.1 rfl (Nat.le_of_ble_eq_true rfl) dX6_trySwap_12 ⟨Nat.zero_le _, Nat.zero_le _⟩ (fun H locs hP hS => ?_)
    replace hP : va_P (dC, dI) vwCl [(q_t, .inr (6, [.ref q_t_told, .ref q_t_line, .ref q_t_strides, .ref q_t_strains, .int t_down, .int t_steps])), (q_t_told, .inr (3, [.ref q_t_told_beats, .ref q_t_told_kinds, .int t_told_count, .int t_told_depth, .int t_told_noon, .int t_told_depthBehind])), (q_t_line, .inl (cI, 5, .inl t_line))] H := hP
    refine lv_istore_n (lv' := [(2, .int r4), (0, .ref q_t), (1, .int x1)]) hx hb dX6_trySwap_15 rfl hl (by decide) rfl (fun ls hl => ?_)
    refine lv_aload_n hx hb dX6_trySwap_16 rfl (lv_at hl 1 rfl) ?_
    refine va_get (D := (dC, dI)) (ci := 6) (v := .ref q_t_line) (C := RX6) (T := TX6) (N := 6) hx hb hts hinX6 hown hK.1 hP 0 rfl rfl 1 (by decide) w_0 (fun _ h9 => h9) rfl dX6_trySwap_17 ?_
    refine lv_iload_n hx hb dX6_trySwap_20 rfl (lv_at hl 2 rfl) ?_
    refine lv_aload_n hx hb dX6_trySwap_21 rfl (lv_at hl 1 rfl) ?_
    refine lv_iload_n hx hb dX6_trySwap_22 rfl (lv_at hl 2 rfl) ?_
    refine lv_iconst (v := 1) hx hb dX6_trySwap_23 (by decide) ?_
    refine lv_iadd hx hb dX6_trySwap_24 ?_
    obtain ⟨r7, e9, hf⟩ := bd_ok hf
    refine kVi (As := [.int (x1 + 1)]) CF (cwV 1 hts gX6_trySwap_X6_walkerAt rfl rfl rfl (by decide +kernel) ⟨Nat.le_of_ble_eq_true rfl, Nat.le_of_ble_eq_true rfl⟩) PU_blind hP hD hS hA (va_recv hK.1 hP (ci := 6) (q0 := 0) rfl rfl) [0, 2] (fun h1 h2 h3 => PU_pre hK h1 A h2 h3) (c_X6_walkerAt l dC dI cI cZ q_t q_t_told q_t_line q_t_strides q_t_strains _ t_down t_steps t_line (x1 + 1) r7 e9) rfl rfl rfl rfl hl.1 rfl (Nat.le_of_ble_eq_true rfl) dX6_trySwap_25 ⟨Nat.zero_le _, Nat.zero_le _⟩ (fun H locs hP hS => ?_)
    replace hP : va_P (dC, dI) vwCl [(q_t, .inr (6, [.ref q_t_told, .ref q_t_line, .ref q_t_strides, .ref q_t_strains, .int t_down, .int t_steps])), (q_t_told, .inr (3, [.ref q_t_told_beats, .ref q_t_told_kinds, .int t_told_count, .int t_told_depth, .int t_told_noon, .int t_told_depthBehind])), (q_t_line, .inl (cI, 5, .inl t_line))] H := hP
    obtain ⟨o10, e12, hf⟩ := bd_ok hf
    refine kNv (As := [.ref q_t_line, .int x1, .int r7]) CF ⟨va_cnB 3 hts gX6_trySwap_X7_put_n25 rfl rfl rfl (nw_X6_25 hK.2) w_1 (by decide +kernel) ⟨Nat.le_of_ble_eq_true rfl, Nat.le_of_ble_eq_true rfl⟩, w_2, trivial⟩ PU_blind hP hD hS hA [2] (fun h1 h2 h3 => PU_pre hK h1 A h2 h3) (c_X7_put l dC dI cI cZ q_t_line _ t_line 5 x1 r7 o10 e12) rfl rfl rfl rfl hl.1 rfl (Nat.le_of_ble_eq_true rfl) dX6_trySwap_28 ⟨Nat.zero_le _, Nat.zero_le _⟩ (fun H locs hP hS => ?_)
    replace hP : va_P (dC, dI) vwCl [(q_t, .inr (6, [.ref q_t_told, .ref q_t_line, .ref q_t_strides, .ref q_t_strains, .int t_down, .int t_steps])), (q_t_told, .inr (3, [.ref q_t_told_beats, .ref q_t_told_kinds, .int t_told_count, .int t_told_depth, .int t_told_noon, .int t_told_depthBehind])), (q_t_line, .inl (cI, 5, .inl o10))] H := hP
    replace hD : va_D A [(q_t, .inr (6, [.ref q_t_told, .ref q_t_line, .ref q_t_strides, .ref q_t_strains, .int t_down, .int t_steps])), (q_t_told, .inr (3, [.ref q_t_told_beats, .ref q_t_told_kinds, .int t_told_count, .int t_told_depth, .int t_told_noon, .int t_told_depthBehind])), (q_t_line, .inl (cI, 5, .inl o10))] := wd hD rfl
    refine lv_aload_n hx hb dX6_trySwap_31 rfl (lv_at hl 1 rfl) ?_
    refine va_get (D := (dC, dI)) (ci := 6) (v := .ref q_t_line) (C := RX6) (T := TX6) (N := 6) hx hb hts hinX6 hown hK.1 hP 0 rfl rfl 1 (by decide) w_0 (fun _ h9 => h9) rfl dX6_trySwap_32 ?_
    refine lv_iload_n hx hb dX6_trySwap_35 rfl (lv_at hl 2 rfl) ?_
    refine lv_iconst (v := 1) hx hb dX6_trySwap_36 (by decide) ?_
    refine lv_iadd hx hb dX6_trySwap_37 ?_
    refine lv_iload_n hx hb dX6_trySwap_38 rfl (lv_at hl 0 rfl) ?_
    obtain ⟨o13, e15, hf⟩ := bd_ok hf
    refine kNv (As := [.ref q_t_line, .int (x1 + 1), .int r4]) CF ⟨va_cnB 3 hts gX6_trySwap_X7_put_n25 rfl rfl rfl (nw_X6_25 hK.2) w_1 (by decide +kernel) ⟨Nat.le_of_ble_eq_true rfl, Nat.le_of_ble_eq_true rfl⟩, w_2, trivial⟩ PU_blind hP hD hS hA [2] (fun h1 h2 h3 => PU_pre hK h1 A h2 h3) (c_X7_put l dC dI cI cZ q_t_line _ o10 5 (x1 + 1) r4 o13 e15) rfl rfl rfl rfl hl.1 rfl (Nat.le_of_ble_eq_true rfl) dX6_trySwap_39 ⟨Nat.zero_le _, Nat.zero_le _⟩ (fun H locs hP hS => ?_)
    replace hP : va_P (dC, dI) vwCl [(q_t, .inr (6, [.ref q_t_told, .ref q_t_line, .ref q_t_strides, .ref q_t_strains, .int t_down, .int t_steps])), (q_t_told, .inr (3, [.ref q_t_told_beats, .ref q_t_told_kinds, .int t_told_count, .int t_told_depth, .int t_told_noon, .int t_told_depthBehind])), (q_t_line, .inl (cI, 5, .inl o13))] H := hP
    replace hD : va_D A [(q_t, .inr (6, [.ref q_t_told, .ref q_t_line, .ref q_t_strides, .ref q_t_strains, .int t_down, .int t_steps])), (q_t_told, .inr (3, [.ref q_t_told_beats, .ref q_t_told_kinds, .int t_told_count, .int t_told_depth, .int t_told_noon, .int t_told_depthBehind])), (q_t_line, .inl (cI, 5, .inl o13))] := wd hD rfl
    refine lv_iconst (v := 1) hx hb dX6_trySwap_42 (by decide) ?_
    obtain ⟨e0, hf⟩ := ij2 hf
    have e1 := hf
    refine W.eq (congrArg (fun z => F0 m 43 ls [.int z]) e0) ?_
    exact hret _ _ _ _ (by rw [← e1]; exact hP) hS (by rw [← e0]; rfl) dX6_trySwap_43
  · replace hf := ip hc hf
    refine lv_iconst (v := 0) hx hb dX6_trySwap_8 (by decide) ?_
    obtain ⟨e0, hf⟩ := ij2 hf
    have e1 := hf
    refine W.eq (congrArg (fun z => F0 m 9 ls [.int z]) e0) ?_
    exact hret _ _ _ _ (by rw [← e1]; exact hP) hS (by rw [← e0]; rfl) dX6_trySwap_9
abbrev rm_X6_placeOf : Room := { frames := 2, cells := 0, slots := 0, locals := 42 }
set_option maxHeartbeats 4000000 in
set_option maxRecDepth 100000 in
theorem c_X6_placeOf (l : Launch) (dC : Nat → ClassId) (dI : Nat → Nat → Nat) (cI cZ : ClassId) (q_t q_t_told q_t_line q_t_strides q_t_strains q_t_told_beats q_t_told_kinds : Nat) (sz : Nat) (t_down : Int32) (t_steps : Int32) (t_told_count : Int32) (t_told_depth : Int32) (t_told_noon : Int32) (t_told_depthBehind : Int32) (t_line : Nat → Int32) (x1 : Int32) (r_ : Int32) (hf : f_X6_placeOf x1 t_told_count t_line = some r_) : Met l yX6_placeOf wsX6_placeOf rm_X6_placeOf (va_Pc [.ref q_t, .int x1] (PU (dC, dI) cI cZ [(q_t, .inr (6, [.ref q_t_told, .ref q_t_line, .ref q_t_strides, .ref q_t_strains, .int t_down, .int t_steps])), (q_t_told, .inr (3, [.ref q_t_told_beats, .ref q_t_told_kinds, .int t_told_count, .int t_told_depth, .int t_told_noon, .int t_told_depthBehind])), (q_t_line, .inl (cI, 5, .inl t_line))] sz)) (va_Qi (fun (r : Int32) (_ : Unit) => r = r_) (fun _ t => va_P (dC, dI) vwCl [(q_t, .inr (6, [.ref q_t_told, .ref q_t_line, .ref q_t_strides, .ref q_t_strains, .int t_down, .int t_steps])), (q_t_told, .inr (3, [.ref q_t_told_beats, .ref q_t_told_kinds, .int t_told_count, .int t_told_depth, .int t_told_noon, .int t_told_depthBehind])), (q_t_line, .inl (cI, 5, .inl t_line))] t.heap) (va_A [(q_t, .inr (6, [.ref q_t_told, .ref q_t_line, .ref q_t_strides, .ref q_t_strains, .int t_down, .int t_steps])), (q_t_told, .inr (3, [.ref q_t_told_beats, .ref q_t_told_kinds, .int t_told_count, .int t_told_depth, .int t_told_noon, .int t_told_depthBehind])), (q_t_line, .inl (cI, 5, .inl t_line))] sz)) 0 0 (va_A [(q_t, .inr (6, [.ref q_t_told, .ref q_t_line, .ref q_t_strides, .ref q_t_strains, .int t_down, .int t_steps])), (q_t_told, .inr (3, [.ref q_t_told_beats, .ref q_t_told_kinds, .int t_told_count, .int t_told_depth, .int t_told_noon, .int t_told_depthBehind])), (q_t_line, .inl (cI, 5, .inl t_line))] sz) := by
  refine MetI (cc := cX6_placeOf) (maxL := 3) (by decide) rfl (Nat.le_of_ble_eq_true rfl) (fun _ h => h) ?_
  intro p e s m args below meth c A Q ls hx CF hK hA hD hP hS hl hB hAe hsz hret
  have hb := CF.2.1
  have hml := CF.2.2.1
  have hown := CF.2.2.2.1
  have hts := CF.2.2.2.2
  have hD0 := hD
  replace hl : lv_has ls 3 [(0, .ref q_t), (1, .int x1)] := hl
  have hinX6 : ∀ w ∈ wsX60, w ∈ wsX6_placeOf := fun _ h => List.mem_cons_of_mem _ (List.mem_append_left _ (List.mem_append_right _ h))
  have hinX3 : ∀ w ∈ wsX30, w ∈ wsX6_placeOf := fun _ h => List.mem_cons_of_mem _ (List.mem_append_right _ h)
  have w_0 := hts (.fieldLink RX6 21 "PassInStep$Yard" "told" "LPassInStep$Party;") (by decide +kernel)
  have h_2 : ∀ (x1 : Int32) (fu2 : Nat) (x2 : Int32) (H : Heap) (locs : List Loc) (ls : Array Slot), va_P (dC, dI) vwCl [(q_t, .inr (6, [.ref q_t_told, .ref q_t_line, .ref q_t_strides, .ref q_t_strains, .int t_down, .int t_steps])), (q_t_told, .inr (3, [.ref q_t_told_beats, .ref q_t_told_kinds, .int t_told_count, .int t_told_depth, .int t_told_noon, .int t_told_depthBehind])), (q_t_line, .inl (cI, 5, .inl t_line))] H → va_S A s.heap H locs → lv_has ls 3 [(0, .ref q_t), (1, .int x1), (2, .int x2)] → L_X6_placeOf_2 x1 t_told_count t_line fu2 x2 = some r_ → W p l e rm_X6_placeOf s m args below meth c H locs 0 0 Q (F0 m 2 ls []) := by
    intro x1 fu2
    induction fu2 with
    | zero =>
      intro x2 H locs ls hP hS hl hf
      rw [L_X6_placeOf_2] at hf
      cases hf
    | succ fu2 ih2 =>
      intro x2 H locs ls hP hS hl hf
      have hD : va_D A [(q_t, .inr (6, [.ref q_t_told, .ref q_t_line, .ref q_t_strides, .ref q_t_strains, .int t_down, .int t_steps])), (q_t_told, .inr (3, [.ref q_t_told_beats, .ref q_t_told_kinds, .int t_told_count, .int t_told_depth, .int t_told_noon, .int t_told_depthBehind])), (q_t_line, .inl (cI, 5, .inl t_line))] := wd hD0 rfl
      rw [L_X6_placeOf_2] at hf
      refine lv_iload_n hx hb dX6_placeOf_2 rfl (lv_at hl 2 rfl) ?_
      refine lv_aload_n hx hb dX6_placeOf_3 rfl (lv_at hl 0 rfl) ?_
      refine va_get (D := (dC, dI)) (ci := 6) (v := .ref q_t_told) (C := RX6) (T := TX6) (N := 6) hx hb hts hinX6 hown hK.1 hP 0 rfl rfl 0 (by decide) w_0 (fun _ h9 => h9) rfl dX6_placeOf_4 ?_
      obtain ⟨r1, e3, hf⟩ := bd_ok hf
      refine kVi (As := []) CF (cwV 0 hts gX6_placeOf_X3_size rfl rfl rfl (by decide +kernel) ⟨Nat.le_of_ble_eq_true rfl, Nat.le_of_ble_eq_true rfl⟩) PU_blind hP hD hS hA (va_recv hK.1 hP (ci := 3) (q0 := 1) rfl rfl) [1] (fun h1 h2 h3 => PU_pre hK h1 A h2 h3) (c_X3_size l dC dI cI cZ q_t_told q_t_told_beats q_t_told_kinds _ t_told_count t_told_depth t_told_noon t_told_depthBehind r1 e3) rfl rfl rfl rfl hl.1 rfl (Nat.le_of_ble_eq_true rfl) dX6_placeOf_7 ⟨Nat.zero_le _, Nat.zero_le _⟩ (fun H locs hP hS => ?_)
      replace hP : va_P (dC, dI) vwCl [(q_t, .inr (6, [.ref q_t_told, .ref q_t_line, .ref q_t_strides, .ref q_t_strains, .int t_down, .int t_steps])), (q_t_told, .inr (3, [.ref q_t_told_beats, .ref q_t_told_kinds, .int t_told_count, .int t_told_depth, .int t_told_noon, .int t_told_depthBehind])), (q_t_line, .inl (cI, 5, .inl t_line))] H := hP
      refine lv_icmp_ge (tgt := 30) hx hb dX6_placeOf_10 (by decide) (fun hc => ?_) (fun hc => ?_)
      · replace hf := ip hc hf
        refine lv_bipush (v := (-9)) hx hb dX6_placeOf_30 (by decide) ?_
        have e0 := ij1 hf
        refine W.eq (congrArg (fun z => F0 m 32 ls [.int z]) e0) ?_
        exact hret _ _ _ _ hP hS dX6_placeOf_32
      · replace hf := iq hc hf
        refine lv_aload_n hx hb dX6_placeOf_13 rfl (lv_at hl 0 rfl) ?_
        refine lv_iload_n hx hb dX6_placeOf_14 rfl (lv_at hl 2 rfl) ?_
        obtain ⟨r4, e6, hf⟩ := bd_ok hf
        refine kVi (As := [.int x2]) CF (cwV 1 hts gX6_placeOf_X6_walkerAt rfl rfl rfl (by decide +kernel) ⟨Nat.le_of_ble_eq_true rfl, Nat.le_of_ble_eq_true rfl⟩) PU_blind hP hD hS hA (va_recv hK.1 hP (ci := 6) (q0 := 0) rfl rfl) [0, 2] (fun h1 h2 h3 => PU_pre hK h1 A h2 h3) (c_X6_walkerAt l dC dI cI cZ q_t q_t_told q_t_line q_t_strides q_t_strains _ t_down t_steps t_line x2 r4 e6) rfl rfl rfl rfl hl.1 rfl (Nat.le_of_ble_eq_true rfl) dX6_placeOf_15 ⟨Nat.zero_le _, Nat.zero_le _⟩ (fun H locs hP hS => ?_)
        replace hP : va_P (dC, dI) vwCl [(q_t, .inr (6, [.ref q_t_told, .ref q_t_line, .ref q_t_strides, .ref q_t_strains, .int t_down, .int t_steps])), (q_t_told, .inr (3, [.ref q_t_told_beats, .ref q_t_told_kinds, .int t_told_count, .int t_told_depth, .int t_told_noon, .int t_told_depthBehind])), (q_t_line, .inl (cI, 5, .inl t_line))] H := hP
        refine lv_iload_n hx hb dX6_placeOf_18 rfl (lv_at hl 1 rfl) ?_
        refine lv_icmp_ne (tgt := 24) hx hb dX6_placeOf_19 (by decide) (fun hc => ?_) (fun hc => ?_)
        · replace hf := iq hc hf
          refine lv_iinc (v := (x2 + 1)) (lv' := [(2, .int (x2 + 1)), (0, .ref q_t), (1, .int x1)]) hx hb dX6_placeOf_24 hl (k := 2) rfl rfl (by decide) rfl (fun ls hl => ?_)
          refine lv_goto (tgt := 2) hx hb dX6_placeOf_27 (by decide) ?_
          exact ih2 (x2 + 1) _ _ _ hP hS (lv_sub hl [1, 2, 0] rfl) hf
        · replace hf := ip hc hf
          refine lv_iload_n hx hb dX6_placeOf_22 rfl (lv_at hl 2 rfl) ?_
          have e0 := ij1 hf
          refine W.eq (congrArg (fun z => F0 m 23 ls [.int z]) e0) ?_
          exact hret _ _ _ _ hP hS dX6_placeOf_23
  rw [f_X6_placeOf] at hf
  refine lv_iconst (v := 0) hx hb dX6_placeOf_0 (by decide) ?_
  refine lv_istore_n (lv' := [(2, .int 0), (0, .ref q_t), (1, .int x1)]) hx hb dX6_placeOf_1 rfl hl (by decide) rfl (fun ls hl => ?_)
  exact h_2 x1 fuelC 0 _ _ _ hP hS (lv_sub hl [1, 2, 0] rfl) hf
abbrev rm_X6_tryRescue : Room := { frames := 3, cells := 0, slots := 0, locals := 64 }
set_option maxHeartbeats 4000000 in
set_option maxRecDepth 100000 in
theorem c_X6_tryRescue (l : Launch) (dC : Nat → ClassId) (dI : Nat → Nat → Nat) (cI cZ : ClassId) (q_t q_t_told q_t_line q_t_strides q_t_strains q_t_told_beats q_t_told_kinds : Nat) (sz : Nat) (t_down : Int32) (t_steps : Int32) (t_told_count : Int32) (t_told_depth : Int32) (t_told_noon : Int32) (t_told_depthBehind : Int32) (t_line : Nat → Int32) (x1 : Int32) (r_ : Int32) (o_t_down : Int32) (o_t_line : Nat → Int32) (hf : f_X6_tryRescue x1 t_down t_told_count t_line = some (r_, o_t_down, o_t_line)) : Met l yX6_tryRescue wsX6_tryRescue rm_X6_tryRescue (va_Pc [.ref q_t, .int x1] (PU (dC, dI) cI cZ [(q_t, .inr (6, [.ref q_t_told, .ref q_t_line, .ref q_t_strides, .ref q_t_strains, .int t_down, .int t_steps])), (q_t_told, .inr (3, [.ref q_t_told_beats, .ref q_t_told_kinds, .int t_told_count, .int t_told_depth, .int t_told_noon, .int t_told_depthBehind])), (q_t_line, .inl (cI, 5, .inl t_line))] sz)) (va_Qi (fun (r : Int32) (_ : Unit) => r = r_) (fun _ t => va_P (dC, dI) vwCl [(q_t, .inr (6, [.ref q_t_told, .ref q_t_line, .ref q_t_strides, .ref q_t_strains, .int o_t_down, .int t_steps])), (q_t_told, .inr (3, [.ref q_t_told_beats, .ref q_t_told_kinds, .int t_told_count, .int t_told_depth, .int t_told_noon, .int t_told_depthBehind])), (q_t_line, .inl (cI, 5, .inl o_t_line))] t.heap) (va_A [(q_t, .inr (6, [.ref q_t_told, .ref q_t_line, .ref q_t_strides, .ref q_t_strains, .int t_down, .int t_steps])), (q_t_told, .inr (3, [.ref q_t_told_beats, .ref q_t_told_kinds, .int t_told_count, .int t_told_depth, .int t_told_noon, .int t_told_depthBehind])), (q_t_line, .inl (cI, 5, .inl t_line))] sz)) 0 0 (va_A [(q_t, .inr (6, [.ref q_t_told, .ref q_t_line, .ref q_t_strides, .ref q_t_strains, .int t_down, .int t_steps])), (q_t_told, .inr (3, [.ref q_t_told_beats, .ref q_t_told_kinds, .int t_told_count, .int t_told_depth, .int t_told_noon, .int t_told_depthBehind])), (q_t_line, .inl (cI, 5, .inl t_line))] sz) := by
  refine MetZ (cc := cX6_tryRescue) (maxL := 3) (by decide) rfl (Nat.le_of_ble_eq_true rfl) (fun _ h => h) ?_
  intro p e s m args below meth c A Q ls hx CF hK hA hD hP hS hl hB hAe hsz hret
  have hb := CF.2.1
  have hml := CF.2.2.1
  have hown := CF.2.2.2.1
  have hts := CF.2.2.2.2
  have hD0 := hD
  replace hl : lv_has ls 3 [(0, .ref q_t), (1, .int x1)] := hl
  have hinX6 : ∀ w ∈ wsX60, w ∈ wsX6_tryRescue := fun _ h => List.mem_cons_of_mem _ (List.mem_append_left _ (List.mem_append_right _ h))
  have hinX3 : ∀ w ∈ wsX30, w ∈ wsX6_tryRescue := fun _ h => List.mem_cons_of_mem _ (List.mem_append_right _ h)
  have w_0 := hts (.fieldLink RX6 21 "PassInStep$Yard" "told" "LPassInStep$Party;") (by decide +kernel)
  have w_1 := hts (.fieldLink RX6 41 "PassInStep$Yard" "down" "I") (by decide +kernel)
  have h_41 : ∀ (t_down : Int32) (fu41 : Nat) (x2 : Int32) (t_line : Nat → Int32) (H : Heap) (locs : List Loc) (ls : Array Slot), va_P (dC, dI) vwCl [(q_t, .inr (6, [.ref q_t_told, .ref q_t_line, .ref q_t_strides, .ref q_t_strains, .int t_down, .int t_steps])), (q_t_told, .inr (3, [.ref q_t_told_beats, .ref q_t_told_kinds, .int t_told_count, .int t_told_depth, .int t_told_noon, .int t_told_depthBehind])), (q_t_line, .inl (cI, 5, .inl t_line))] H → va_S A s.heap H locs → lv_has ls 3 [(0, .ref q_t), (2, .int x2)] → L_X6_tryRescue_41 t_down t_told_count fu41 x2 t_line = some (r_, o_t_down, o_t_line) → W p l e rm_X6_tryRescue s m args below meth c H locs 0 0 Q (F0 m 41 ls []) := by
    intro t_down fu41
    induction fu41 with
    | zero =>
      intro x2 t_line H locs ls hP hS hl hf
      rw [L_X6_tryRescue_41] at hf
      cases hf
    | succ fu41 ih41 =>
      intro x2 t_line H locs ls hP hS hl hf
      have hD : va_D A [(q_t, .inr (6, [.ref q_t_told, .ref q_t_line, .ref q_t_strides, .ref q_t_strains, .int t_down, .int t_steps])), (q_t_told, .inr (3, [.ref q_t_told_beats, .ref q_t_told_kinds, .int t_told_count, .int t_told_depth, .int t_told_noon, .int t_told_depthBehind])), (q_t_line, .inl (cI, 5, .inl t_line))] := wd hD0 rfl
      rw [L_X6_tryRescue_41] at hf
      refine lv_iload_n hx hb dX6_tryRescue_41 rfl (lv_at hl 1 rfl) ?_
      refine lv_aload_n hx hb dX6_tryRescue_42 rfl (lv_at hl 0 rfl) ?_
      refine va_get (D := (dC, dI)) (ci := 6) (v := .ref q_t_told) (C := RX6) (T := TX6) (N := 6) hx hb hts hinX6 hown hK.1 hP 0 rfl rfl 0 (by decide) w_0 (fun _ h9 => h9) rfl dX6_tryRescue_43 ?_
      obtain ⟨r1, e3, hf⟩ := bd_ok hf
      refine kVi (As := []) CF (cwV 0 hts gX6_tryRescue_X3_size rfl rfl rfl (by decide +kernel) ⟨Nat.le_of_ble_eq_true rfl, Nat.le_of_ble_eq_true rfl⟩) PU_blind hP hD hS hA (va_recv hK.1 hP (ci := 3) (q0 := 1) rfl rfl) [1] (fun h1 h2 h3 => PU_pre hK h1 A h2 h3) (c_X3_size l dC dI cI cZ q_t_told q_t_told_beats q_t_told_kinds _ t_told_count t_told_depth t_told_noon t_told_depthBehind r1 e3) rfl rfl rfl rfl hl.1 rfl (Nat.le_of_ble_eq_true rfl) dX6_tryRescue_46 ⟨Nat.zero_le _, Nat.zero_le _⟩ (fun H locs hP hS => ?_)
      replace hP : va_P (dC, dI) vwCl [(q_t, .inr (6, [.ref q_t_told, .ref q_t_line, .ref q_t_strides, .ref q_t_strains, .int t_down, .int t_steps])), (q_t_told, .inr (3, [.ref q_t_told_beats, .ref q_t_told_kinds, .int t_told_count, .int t_told_depth, .int t_told_noon, .int t_told_depthBehind])), (q_t_line, .inl (cI, 5, .inl t_line))] H := hP
      refine lv_iconst (v := 1) hx hb dX6_tryRescue_49 (by decide) ?_
      refine lv_isub hx hb dX6_tryRescue_50 ?_
      refine lv_icmp_ge (tgt := 66) hx hb dX6_tryRescue_51 (by decide) (fun hc => ?_) (fun hc => ?_)
      · replace hf := ip hc hf
        refine lv_iconst (v := 1) hx hb dX6_tryRescue_66 (by decide) ?_
        obtain ⟨e0, hf⟩ := ij2 hf
        obtain ⟨e1, hf⟩ := ijc hf
        have e2 := hf
        refine W.eq (congrArg (fun z => F0 m 67 ls [.int z]) e0) ?_
        exact hret _ _ _ _ (by rw [← e1, ← e2]; exact hP) hS (by rw [← e0]; rfl) dX6_tryRescue_67
      · replace hf := iq hc hf
        refine lv_aload_n hx hb dX6_tryRescue_54 rfl (lv_at hl 0 rfl) ?_
        refine lv_iload_n hx hb dX6_tryRescue_55 rfl (lv_at hl 1 rfl) ?_
        obtain ⟨⟨r4, o5⟩, e7, hf⟩ := bd_ok hf
        refine kVi (As := [.int x2]) CF (cwV 1 hts gX6_tryRescue_X6_trySwap rfl rfl rfl (by decide +kernel) ⟨Nat.le_of_ble_eq_true rfl, Nat.le_of_ble_eq_true rfl⟩) PU_blind hP hD hS hA (va_recv hK.1 hP (ci := 6) (q0 := 0) rfl rfl) [0, 1, 2] (fun h1 h2 h3 => PU_pre hK h1 A h2 h3) (c_X6_trySwap l dC dI cI cZ q_t q_t_told q_t_line q_t_strides q_t_strains q_t_told_beats q_t_told_kinds _ t_down t_steps t_told_count t_told_depth t_told_noon t_told_depthBehind t_line x2 r4 o5 e7) rfl rfl rfl rfl hl.1 rfl (Nat.le_of_ble_eq_true rfl) dX6_tryRescue_56 ⟨Nat.zero_le _, Nat.zero_le _⟩ (fun H locs hP hS => ?_)
        replace hP : va_P (dC, dI) vwCl [(q_t, .inr (6, [.ref q_t_told, .ref q_t_line, .ref q_t_strides, .ref q_t_strains, .int t_down, .int t_steps])), (q_t_told, .inr (3, [.ref q_t_told_beats, .ref q_t_told_kinds, .int t_told_count, .int t_told_depth, .int t_told_noon, .int t_told_depthBehind])), (q_t_line, .inl (cI, 5, .inl o5))] H := hP
        replace hD : va_D A [(q_t, .inr (6, [.ref q_t_told, .ref q_t_line, .ref q_t_strides, .ref q_t_strains, .int t_down, .int t_steps])), (q_t_told, .inr (3, [.ref q_t_told_beats, .ref q_t_told_kinds, .int t_told_count, .int t_told_depth, .int t_told_noon, .int t_told_depthBehind])), (q_t_line, .inl (cI, 5, .inl o5))] := wd hD rfl
        refine lv_pop hx hb dX6_tryRescue_59 rfl ?_
        refine lv_iinc (v := (x2 + 1)) (lv' := [(2, .int (x2 + 1)), (0, .ref q_t)]) hx hb dX6_tryRescue_60 hl (k := 1) rfl rfl (by decide) rfl (fun ls hl => ?_)
        refine lv_goto (tgt := 41) hx hb dX6_tryRescue_63 (by decide) ?_
        exact ih41 (x2 + 1) o5 _ _ _ hP hS (lv_sub hl [1, 0] rfl) hf
  rw [f_X6_tryRescue] at hf
  refine lv_aload_n hx hb dX6_tryRescue_0 rfl (lv_at hl 0 rfl) ?_
  refine va_get (D := (dC, dI)) (ci := 6) (v := .ref q_t_told) (C := RX6) (T := TX6) (N := 6) hx hb hts hinX6 hown hK.1 hP 0 rfl rfl 0 (by decide) w_0 (fun _ h9 => h9) rfl dX6_tryRescue_1 ?_
  refine lv_iload_n hx hb dX6_tryRescue_4 rfl (lv_at hl 1 rfl) ?_
  obtain ⟨r8, e10, hf⟩ := bd_ok hf
  refine kVi (As := [.int x1]) CF (cwV 1 hts gX6_tryRescue_X3_has rfl rfl rfl (by decide +kernel) ⟨Nat.le_of_ble_eq_true rfl, Nat.le_of_ble_eq_true rfl⟩) PU_blind hP hD hS hA (va_recv hK.1 hP (ci := 3) (q0 := 1) rfl rfl) [1] (fun h1 h2 h3 => PU_pre hK h1 A h2 h3) (c_X3_has l dC dI cI cZ q_t_told q_t_told_beats q_t_told_kinds _ t_told_count t_told_depth t_told_noon t_told_depthBehind x1 r8 e10) rfl rfl rfl rfl hl.1 rfl (Nat.le_of_ble_eq_true rfl) dX6_tryRescue_5 ⟨Nat.zero_le _, Nat.zero_le _⟩ (fun H locs hP hS => ?_)
  replace hP : va_P (dC, dI) vwCl [(q_t, .inr (6, [.ref q_t_told, .ref q_t_line, .ref q_t_strides, .ref q_t_strains, .int t_down, .int t_steps])), (q_t_told, .inr (3, [.ref q_t_told_beats, .ref q_t_told_kinds, .int t_told_count, .int t_told_depth, .int t_told_noon, .int t_told_depthBehind])), (q_t_line, .inl (cI, 5, .inl t_line))] H := hP
  refine lv_if_eq (tgt := 19) hx hb dX6_tryRescue_8 (by decide) (fun hc => ?_) (fun hc => ?_)
  · replace hf := ip hc hf
    refine lv_iconst (v := 0) hx hb dX6_tryRescue_19 (by decide) ?_
    obtain ⟨e0, hf⟩ := ij2 hf
    obtain ⟨e1, hf⟩ := ijc hf
    have e2 := hf
    refine W.eq (congrArg (fun z => F0 m 20 ls [.int z]) e0) ?_
    exact hret _ _ _ _ (by rw [← e1, ← e2]; exact hP) hS (by rw [← e0]; rfl) dX6_tryRescue_20
  · replace hf := iq hc hf
    refine lv_aload_n hx hb dX6_tryRescue_11 rfl (lv_at hl 0 rfl) ?_
    refine lv_iload_n hx hb dX6_tryRescue_12 rfl (lv_at hl 1 rfl) ?_
    obtain ⟨r11, e13, hf⟩ := bd_ok hf
    refine kVi (As := [.int x1]) CF (cwV 1 hts gX6_tryRescue_X6_isDown rfl rfl rfl (by decide +kernel) ⟨Nat.le_of_ble_eq_true rfl, Nat.le_of_ble_eq_true rfl⟩) PU_blind hP hD hS hA (va_recv hK.1 hP (ci := 6) (q0 := 0) rfl rfl) [0] (fun h1 h2 h3 => PU_pre hK h1 A h2 h3) (c_X6_isDown l dC dI cI cZ q_t q_t_told q_t_line q_t_strides q_t_strains _ t_down t_steps x1 r11 e13) rfl rfl rfl rfl hl.1 rfl (Nat.le_of_ble_eq_true rfl) dX6_tryRescue_13 ⟨Nat.zero_le _, Nat.zero_le _⟩ (fun H locs hP hS => ?_)
    replace hP : va_P (dC, dI) vwCl [(q_t, .inr (6, [.ref q_t_told, .ref q_t_line, .ref q_t_strides, .ref q_t_strains, .int t_down, .int t_steps])), (q_t_told, .inr (3, [.ref q_t_told_beats, .ref q_t_told_kinds, .int t_told_count, .int t_told_depth, .int t_told_noon, .int t_told_depthBehind])), (q_t_line, .inl (cI, 5, .inl t_line))] H := hP
    refine lv_if_ne (tgt := 21) hx hb dX6_tryRescue_16 (by decide) (fun hc => ?_) (fun hc => ?_)
    · replace hf := iq hc hf
      refine lv_aload_n hx hb dX6_tryRescue_21 rfl (lv_at hl 0 rfl) ?_
      refine lv_dup hx hb dX6_tryRescue_22 rfl ?_
      refine va_get (D := (dC, dI)) (ci := 6) (v := .int t_down) (C := RX6) (T := TX6) (N := 6) hx hb hts hinX6 hown hK.1 hP 0 rfl rfl 4 (by decide) w_1 (fun _ h9 => h9) rfl dX6_tryRescue_23 ?_
      refine lv_iconst (v := 1) hx hb dX6_tryRescue_26 (by decide) ?_
      refine lv_iload_n hx hb dX6_tryRescue_27 rfl (lv_at hl 1 rfl) ?_
      refine lv_ishl hx hb dX6_tryRescue_28 ?_
      refine lv_iconst (v := (-1)) hx hb dX6_tryRescue_29 (by decide) ?_
      refine lv_ixor hx hb dX6_tryRescue_30 ?_
      refine lv_iand hx hb dX6_tryRescue_31 ?_
      refine va_put (D := (dC, dI)) (ci := 6) (v := .int (t_down &&& (((1 : Int32) <<< (x1 &&& 31)) ^^^ (-1)))) (ty := .int) (C := RX6) (T := TX6) (N := 6) hx hb hts hinX6 tyX6 tyX6_ok nmX6 hown hK.1 hP hD hS 0 rfl rfl 4 (by decide) w_1 (fun _ h9 => h9) rfl (by decide +kernel) rfl rfl (Nat.le_of_ble_eq_true rfl) dX6_tryRescue_32 (fun H locs hP hD hS => ?_)
      replace hP : va_P (dC, dI) vwCl [(q_t, .inr (6, [.ref q_t_told, .ref q_t_line, .ref q_t_strides, .ref q_t_strains, .int (t_down &&& (((1 : Int32) <<< (x1 &&& 31)) ^^^ (-1))), .int t_steps])), (q_t_told, .inr (3, [.ref q_t_told_beats, .ref q_t_told_kinds, .int t_told_count, .int t_told_depth, .int t_told_noon, .int t_told_depthBehind])), (q_t_line, .inl (cI, 5, .inl t_line))] H := hP
      replace hD : va_D A [(q_t, .inr (6, [.ref q_t_told, .ref q_t_line, .ref q_t_strides, .ref q_t_strains, .int (t_down &&& (((1 : Int32) <<< (x1 &&& 31)) ^^^ (-1))), .int t_steps])), (q_t_told, .inr (3, [.ref q_t_told_beats, .ref q_t_told_kinds, .int t_told_count, .int t_told_depth, .int t_told_noon, .int t_told_depthBehind])), (q_t_line, .inl (cI, 5, .inl t_line))] := hD
      refine lv_aload_n hx hb dX6_tryRescue_35 rfl (lv_at hl 0 rfl) ?_
      refine lv_iload_n hx hb dX6_tryRescue_36 rfl (lv_at hl 1 rfl) ?_
      obtain ⟨r14, e16, hf⟩ := bd_ok hf
      refine kVi (As := [.int x1]) CF (cwV 1 hts gX6_tryRescue_X6_placeOf rfl rfl rfl (by decide +kernel) ⟨Nat.le_of_ble_eq_true rfl, Nat.le_of_ble_eq_true rfl⟩) PU_blind hP hD hS hA (va_recv hK.1 hP (ci := 6) (q0 := 0) rfl rfl) [0, 1, 2] (fun h1 h2 h3 => PU_pre hK h1 A h2 h3) (c_X6_placeOf l dC dI cI cZ q_t q_t_told q_t_line q_t_strides q_t_strains q_t_told_beats q_t_told_kinds _ (t_down &&& (((1 : Int32) <<< (x1 &&& 31)) ^^^ (-1))) t_steps t_told_count t_told_depth t_told_noon t_told_depthBehind t_line x1 r14 e16) rfl rfl rfl rfl hl.1 rfl (Nat.le_of_ble_eq_true rfl) dX6_tryRescue_37 ⟨Nat.zero_le _, Nat.zero_le _⟩ (fun H locs hP hS => ?_)
      replace hP : va_P (dC, dI) vwCl [(q_t, .inr (6, [.ref q_t_told, .ref q_t_line, .ref q_t_strides, .ref q_t_strains, .int (t_down &&& (((1 : Int32) <<< (x1 &&& 31)) ^^^ (-1))), .int t_steps])), (q_t_told, .inr (3, [.ref q_t_told_beats, .ref q_t_told_kinds, .int t_told_count, .int t_told_depth, .int t_told_noon, .int t_told_depthBehind])), (q_t_line, .inl (cI, 5, .inl t_line))] H := hP
      refine lv_istore_n (lv' := [(2, .int r14), (0, .ref q_t), (1, .int x1)]) hx hb dX6_tryRescue_40 rfl hl (by decide) rfl (fun ls hl => ?_)
      exact h_41 (t_down &&& (((1 : Int32) <<< (x1 &&& 31)) ^^^ (-1))) fuelC r14 t_line _ _ _ hP hS (lv_sub hl [1, 0] rfl) hf
    · replace hf := ip hc hf
      refine lv_iconst (v := 0) hx hb dX6_tryRescue_19 (by decide) ?_
      obtain ⟨e0, hf⟩ := ij2 hf
      obtain ⟨e1, hf⟩ := ijc hf
      have e2 := hf
      refine W.eq (congrArg (fun z => F0 m 20 ls [.int z]) e0) ?_
      exact hret _ _ _ _ (by rw [← e1, ← e2]; exact hP) hS (by rw [← e0]; rfl) dX6_tryRescue_20
abbrev rm_X0_winter : Room := { frames := 4, cells := 0, slots := 0, locals := 96 }
set_option maxHeartbeats 4000000 in
set_option maxRecDepth 100000 in
theorem c_X0_winter (l : Launch) (dC : Nat → ClassId) (dI : Nat → Nat → Nat) (cI cZ : ClassId) (q_t q_t_told q_t_now q_t_trial q_t_hasOne q_t_hasOther q_t_trial_line q_t_trial_strides q_t_trial_strains q_t_told_beats q_t_told_kinds : Nat) (sz : Nat) (t_trial_down : Int32) (t_trial_steps : Int32) (t_told_count : Int32) (t_told_depth : Int32) (t_told_noon : Int32) (t_told_depthBehind : Int32) (t_trial_strains : Nat → Int32) (t_trial_strides : Nat → Int32) (t_trial_line : Nat → Int32) (t_told_kinds : Nat → Int32) (t_told_beats : Nat → Int32) (x1 : Int32) (r_ : Int32) (o_t_trial_down : Int32) (o_t_trial_steps : Int32) (o_t_trial_strains : Nat → Int32) (o_t_trial_strides : Nat → Int32) (o_t_trial_line : Nat → Int32) (hf : f_X0_winter x1 t_trial_down t_trial_steps t_told_count t_told_depth t_told_noon t_told_depthBehind t_trial_strains t_trial_strides t_trial_line t_told_kinds t_told_beats = some (r_, o_t_trial_down, o_t_trial_steps, o_t_trial_strains, o_t_trial_strides, o_t_trial_line)) : Met l yX0_winter wsX0_winter rm_X0_winter (va_Pc [.ref q_t, .int x1] (PU (dC, dI) cI cZ [(q_t, .inr (0, [.ref q_t_told, .ref q_t_now, .ref q_t_trial, .ref q_t_hasOne, .ref q_t_hasOther])), (q_t_trial, .inr (6, [.ref q_t_told, .ref q_t_trial_line, .ref q_t_trial_strides, .ref q_t_trial_strains, .int t_trial_down, .int t_trial_steps])), (q_t_told, .inr (3, [.ref q_t_told_beats, .ref q_t_told_kinds, .int t_told_count, .int t_told_depth, .int t_told_noon, .int t_told_depthBehind])), (q_t_trial_strains, .inl (cI, 5, .inl t_trial_strains)), (q_t_trial_strides, .inl (cI, 5, .inl t_trial_strides)), (q_t_trial_line, .inl (cI, 5, .inl t_trial_line)), (q_t_told_kinds, .inl (cI, 5, .inl t_told_kinds)), (q_t_told_beats, .inl (cI, 5, .inl t_told_beats))] sz)) (va_Qi (fun (r : Int32) (_ : Unit) => r = r_) (fun _ t => va_P (dC, dI) vwCl [(q_t, .inr (0, [.ref q_t_told, .ref q_t_now, .ref q_t_trial, .ref q_t_hasOne, .ref q_t_hasOther])), (q_t_trial, .inr (6, [.ref q_t_told, .ref q_t_trial_line, .ref q_t_trial_strides, .ref q_t_trial_strains, .int o_t_trial_down, .int o_t_trial_steps])), (q_t_told, .inr (3, [.ref q_t_told_beats, .ref q_t_told_kinds, .int t_told_count, .int t_told_depth, .int t_told_noon, .int t_told_depthBehind])), (q_t_trial_strains, .inl (cI, 5, .inl o_t_trial_strains)), (q_t_trial_strides, .inl (cI, 5, .inl o_t_trial_strides)), (q_t_trial_line, .inl (cI, 5, .inl o_t_trial_line)), (q_t_told_kinds, .inl (cI, 5, .inl t_told_kinds)), (q_t_told_beats, .inl (cI, 5, .inl t_told_beats))] t.heap) (va_A [(q_t, .inr (0, [.ref q_t_told, .ref q_t_now, .ref q_t_trial, .ref q_t_hasOne, .ref q_t_hasOther])), (q_t_trial, .inr (6, [.ref q_t_told, .ref q_t_trial_line, .ref q_t_trial_strides, .ref q_t_trial_strains, .int t_trial_down, .int t_trial_steps])), (q_t_told, .inr (3, [.ref q_t_told_beats, .ref q_t_told_kinds, .int t_told_count, .int t_told_depth, .int t_told_noon, .int t_told_depthBehind])), (q_t_trial_strains, .inl (cI, 5, .inl t_trial_strains)), (q_t_trial_strides, .inl (cI, 5, .inl t_trial_strides)), (q_t_trial_line, .inl (cI, 5, .inl t_trial_line)), (q_t_told_kinds, .inl (cI, 5, .inl t_told_kinds)), (q_t_told_beats, .inl (cI, 5, .inl t_told_beats))] sz)) 0 0 (va_A [(q_t, .inr (0, [.ref q_t_told, .ref q_t_now, .ref q_t_trial, .ref q_t_hasOne, .ref q_t_hasOther])), (q_t_trial, .inr (6, [.ref q_t_told, .ref q_t_trial_line, .ref q_t_trial_strides, .ref q_t_trial_strains, .int t_trial_down, .int t_trial_steps])), (q_t_told, .inr (3, [.ref q_t_told_beats, .ref q_t_told_kinds, .int t_told_count, .int t_told_depth, .int t_told_noon, .int t_told_depthBehind])), (q_t_trial_strains, .inl (cI, 5, .inl t_trial_strains)), (q_t_trial_strides, .inl (cI, 5, .inl t_trial_strides)), (q_t_trial_line, .inl (cI, 5, .inl t_trial_line)), (q_t_told_kinds, .inl (cI, 5, .inl t_told_kinds)), (q_t_told_beats, .inl (cI, 5, .inl t_told_beats))] sz) := by
  refine MetI (cc := cX0_winter) (maxL := 2) (by decide) rfl (Nat.le_of_ble_eq_true rfl) (fun _ h => h) ?_
  intro p e s m args below meth c A Q ls hx CF hK hA hD hP hS hl hB hAe hsz hret
  have hb := CF.2.1
  have hml := CF.2.2.1
  have hown := CF.2.2.2.1
  have hts := CF.2.2.2.2
  have hD0 := hD
  replace hl : lv_has ls 2 [(0, .ref q_t), (1, .int x1)] := hl
  have hinX0 : ∀ w ∈ wsX00, w ∈ wsX0_winter := fun _ h => List.mem_cons_of_mem _ (List.mem_append_left _ (List.mem_append_left _ (List.mem_append_right _ h)))
  have hinX6 : ∀ w ∈ wsX60, w ∈ wsX0_winter := fun _ h => List.mem_cons_of_mem _ (List.mem_append_left _ (List.mem_append_right _ h))
  have hinX3 : ∀ w ∈ wsX30, w ∈ wsX0_winter := fun _ h => List.mem_cons_of_mem _ (List.mem_append_right _ h)
  have w_0 := hts (.fieldLink RX0 26 "PassInStep$Chances" "trial" "LPassInStep$Yard;") (by decide +kernel)
  have h_68 : ∀ (t_trial_down : Int32) (t_trial_steps : Int32) (t_trial_strains : Nat → Int32) (t_trial_strides : Nat → Int32) (t_trial_line : Nat → Int32) (H : Heap) (locs : List Loc) (ls : Array Slot), va_P (dC, dI) vwCl [(q_t, .inr (0, [.ref q_t_told, .ref q_t_now, .ref q_t_trial, .ref q_t_hasOne, .ref q_t_hasOther])), (q_t_trial, .inr (6, [.ref q_t_told, .ref q_t_trial_line, .ref q_t_trial_strides, .ref q_t_trial_strains, .int t_trial_down, .int t_trial_steps])), (q_t_told, .inr (3, [.ref q_t_told_beats, .ref q_t_told_kinds, .int t_told_count, .int t_told_depth, .int t_told_noon, .int t_told_depthBehind])), (q_t_trial_strains, .inl (cI, 5, .inl t_trial_strains)), (q_t_trial_strides, .inl (cI, 5, .inl t_trial_strides)), (q_t_trial_line, .inl (cI, 5, .inl t_trial_line)), (q_t_told_kinds, .inl (cI, 5, .inl t_told_kinds)), (q_t_told_beats, .inl (cI, 5, .inl t_told_beats))] H → va_S A s.heap H locs → lv_has ls 2 [(0, .ref q_t)] → J_X0_winter_68 t_trial_down t_trial_steps t_told_count t_trial_strains t_trial_strides t_trial_line = some (r_, o_t_trial_down, o_t_trial_steps, o_t_trial_strains, o_t_trial_strides, o_t_trial_line) → W p l e rm_X0_winter s m args below meth c H locs 0 0 Q (F0 m 68 ls []) := by
    intro t_trial_down t_trial_steps t_trial_strains t_trial_strides t_trial_line H locs ls hP hS hl hf
    have hD : va_D A [(q_t, .inr (0, [.ref q_t_told, .ref q_t_now, .ref q_t_trial, .ref q_t_hasOne, .ref q_t_hasOther])), (q_t_trial, .inr (6, [.ref q_t_told, .ref q_t_trial_line, .ref q_t_trial_strides, .ref q_t_trial_strains, .int t_trial_down, .int t_trial_steps])), (q_t_told, .inr (3, [.ref q_t_told_beats, .ref q_t_told_kinds, .int t_told_count, .int t_told_depth, .int t_told_noon, .int t_told_depthBehind])), (q_t_trial_strains, .inl (cI, 5, .inl t_trial_strains)), (q_t_trial_strides, .inl (cI, 5, .inl t_trial_strides)), (q_t_trial_line, .inl (cI, 5, .inl t_trial_line)), (q_t_told_kinds, .inl (cI, 5, .inl t_told_kinds)), (q_t_told_beats, .inl (cI, 5, .inl t_told_beats))] := wd hD0 rfl
    rw [J_X0_winter_68] at hf
    refine lv_aload_n hx hb dX0_winter_68 rfl (lv_at hl 0 rfl) ?_
    refine va_get (D := (dC, dI)) (ci := 0) (v := .ref q_t_trial) (C := RX0) (T := TX0) (N := 5) hx hb hts hinX0 hown hK.1 hP 0 rfl rfl 2 (by decide) w_0 (fun _ h9 => h9) rfl dX0_winter_69 ?_
    obtain ⟨r1, e3, hf⟩ := bd_ok hf
    refine kVi (As := []) CF (cwV 0 hts gX0_winter_X6_standing rfl rfl rfl (by decide +kernel) ⟨Nat.le_of_ble_eq_true rfl, Nat.le_of_ble_eq_true rfl⟩) PU_blind hP hD hS hA (va_recv hK.1 hP (ci := 6) (q0 := 1) rfl rfl) [1, 2] (fun h1 h2 h3 => PU_pre hK h1 A h2 h3) (c_X6_standing l dC dI cI cZ q_t_trial q_t_told q_t_trial_line q_t_trial_strides q_t_trial_strains q_t_told_beats q_t_told_kinds _ t_trial_down t_trial_steps t_told_count t_told_depth t_told_noon t_told_depthBehind r1 e3) rfl rfl rfl rfl hl.1 rfl (Nat.le_of_ble_eq_true rfl) dX0_winter_72 ⟨Nat.zero_le _, Nat.zero_le _⟩ (fun H locs hP hS => ?_)
    replace hP : va_P (dC, dI) vwCl [(q_t, .inr (0, [.ref q_t_told, .ref q_t_now, .ref q_t_trial, .ref q_t_hasOne, .ref q_t_hasOther])), (q_t_trial, .inr (6, [.ref q_t_told, .ref q_t_trial_line, .ref q_t_trial_strides, .ref q_t_trial_strains, .int t_trial_down, .int t_trial_steps])), (q_t_told, .inr (3, [.ref q_t_told_beats, .ref q_t_told_kinds, .int t_told_count, .int t_told_depth, .int t_told_noon, .int t_told_depthBehind])), (q_t_trial_strains, .inl (cI, 5, .inl t_trial_strains)), (q_t_trial_strides, .inl (cI, 5, .inl t_trial_strides)), (q_t_trial_line, .inl (cI, 5, .inl t_trial_line)), (q_t_told_kinds, .inl (cI, 5, .inl t_told_kinds)), (q_t_told_beats, .inl (cI, 5, .inl t_told_beats))] H := hP
    obtain ⟨e0, hf⟩ := ij2 hf
    obtain ⟨e1, hf⟩ := ijc hf
    obtain ⟨e2, hf⟩ := ijc hf
    obtain ⟨e3, hf⟩ := ijc hf
    obtain ⟨e4, hf⟩ := ijc hf
    have e5 := hf
    refine W.eq (congrArg (fun z => F0 m 75 ls [.int z]) e0) ?_
    exact hret _ _ _ _ (by rw [← e1, ← e2, ← e3, ← e4, ← e5]; exact hP) hS dX0_winter_75
  rw [f_X0_winter] at hf
  refine lv_iload_n hx hb dX0_winter_0 rfl (lv_at hl 1 rfl) ?_
  refine lv_iconst (v := 5) hx hb dX0_winter_1 (by decide) ?_
  refine lv_icmp_ge (tgt := 18) hx hb dX0_winter_2 (by decide) (fun hc => ?_) (fun hc => ?_)
  · replace hf := ip hc hf
    refine lv_iload_n hx hb dX0_winter_18 rfl (lv_at hl 1 rfl) ?_
    refine lv_bipush (v := 9) hx hb dX0_winter_19 (by decide) ?_
    refine lv_icmp_ge (tgt := 38) hx hb dX0_winter_21 (by decide) (fun hc => ?_) (fun hc => ?_)
    · replace hf := ip hc hf
      refine lv_iload_n hx hb dX0_winter_38 rfl (lv_at hl 1 rfl) ?_
      refine lv_bipush (v := 14) hx hb dX0_winter_39 (by decide) ?_
      refine lv_icmp_ge (tgt := 59) hx hb dX0_winter_41 (by decide) (fun hc => ?_) (fun hc => ?_)
      · replace hf := ip hc hf
        refine lv_aload_n hx hb dX0_winter_59 rfl (lv_at hl 0 rfl) ?_
        refine va_get (D := (dC, dI)) (ci := 0) (v := .ref q_t_trial) (C := RX0) (T := TX0) (N := 5) hx hb hts hinX0 hown hK.1 hP 0 rfl rfl 2 (by decide) w_0 (fun _ h9 => h9) rfl dX0_winter_60 ?_
        refine lv_iconst (v := 0) hx hb dX0_winter_63 (by decide) ?_
        obtain ⟨⟨r4, o5, o6⟩, e8, hf⟩ := bd_ok hf
        refine kVi (As := [.int 0]) CF (cwV 1 hts gX0_winter_X6_takeStep rfl rfl rfl (by decide +kernel) ⟨Nat.le_of_ble_eq_true rfl, Nat.le_of_ble_eq_true rfl⟩) PU_blind hP hD hS hA (va_recv hK.1 hP (ci := 6) (q0 := 1) rfl rfl) [1, 2, 5, 6, 4, 7] (fun h1 h2 h3 => PU_pre hK h1 A h2 h3) (c_X6_takeStep l dC dI cI cZ q_t_trial q_t_told q_t_trial_line q_t_trial_strides q_t_trial_strains q_t_told_beats q_t_told_kinds _ t_trial_down t_trial_steps t_told_count t_told_depth t_told_noon t_told_depthBehind t_trial_line t_told_kinds t_trial_strides t_told_beats 0 r4 o5 o6 e8) rfl rfl rfl rfl hl.1 rfl (Nat.le_of_ble_eq_true rfl) dX0_winter_64 ⟨Nat.zero_le _, Nat.zero_le _⟩ (fun H locs hP hS => ?_)
        replace hP : va_P (dC, dI) vwCl [(q_t, .inr (0, [.ref q_t_told, .ref q_t_now, .ref q_t_trial, .ref q_t_hasOne, .ref q_t_hasOther])), (q_t_trial, .inr (6, [.ref q_t_told, .ref q_t_trial_line, .ref q_t_trial_strides, .ref q_t_trial_strains, .int o5, .int o6])), (q_t_told, .inr (3, [.ref q_t_told_beats, .ref q_t_told_kinds, .int t_told_count, .int t_told_depth, .int t_told_noon, .int t_told_depthBehind])), (q_t_trial_strains, .inl (cI, 5, .inl t_trial_strains)), (q_t_trial_strides, .inl (cI, 5, .inl t_trial_strides)), (q_t_trial_line, .inl (cI, 5, .inl t_trial_line)), (q_t_told_kinds, .inl (cI, 5, .inl t_told_kinds)), (q_t_told_beats, .inl (cI, 5, .inl t_told_beats))] H := hP
        replace hD : va_D A [(q_t, .inr (0, [.ref q_t_told, .ref q_t_now, .ref q_t_trial, .ref q_t_hasOne, .ref q_t_hasOther])), (q_t_trial, .inr (6, [.ref q_t_told, .ref q_t_trial_line, .ref q_t_trial_strides, .ref q_t_trial_strains, .int o5, .int o6])), (q_t_told, .inr (3, [.ref q_t_told_beats, .ref q_t_told_kinds, .int t_told_count, .int t_told_depth, .int t_told_noon, .int t_told_depthBehind])), (q_t_trial_strains, .inl (cI, 5, .inl t_trial_strains)), (q_t_trial_strides, .inl (cI, 5, .inl t_trial_strides)), (q_t_trial_line, .inl (cI, 5, .inl t_trial_line)), (q_t_told_kinds, .inl (cI, 5, .inl t_told_kinds)), (q_t_told_beats, .inl (cI, 5, .inl t_told_beats))] := wd hD rfl
        refine lv_pop hx hb dX0_winter_67 rfl ?_
        exact h_68 o5 o6 t_trial_strains t_trial_strides t_trial_line _ _ _ hP hS (lv_sub hl [0] rfl) hf
      · replace hf := iq hc hf
        refine lv_aload_n hx hb dX0_winter_44 rfl (lv_at hl 0 rfl) ?_
        refine va_get (D := (dC, dI)) (ci := 0) (v := .ref q_t_trial) (C := RX0) (T := TX0) (N := 5) hx hb hts hinX0 hown hK.1 hP 0 rfl rfl 2 (by decide) w_0 (fun _ h9 => h9) rfl dX0_winter_45 ?_
        refine lv_iload_n hx hb dX0_winter_48 rfl (lv_at hl 1 rfl) ?_
        refine lv_bipush (v := 9) hx hb dX0_winter_49 (by decide) ?_
        refine lv_isub hx hb dX0_winter_51 ?_
        obtain ⟨⟨r9, o10, o11⟩, e13, hf⟩ := bd_ok hf
        refine kVi (As := [.int (x1 - 9)]) CF (cwV 1 hts gX0_winter_X6_tryRescue rfl rfl rfl (by decide +kernel) ⟨Nat.le_of_ble_eq_true rfl, Nat.le_of_ble_eq_true rfl⟩) PU_blind hP hD hS hA (va_recv hK.1 hP (ci := 6) (q0 := 1) rfl rfl) [1, 2, 5] (fun h1 h2 h3 => PU_pre hK h1 A h2 h3) (c_X6_tryRescue l dC dI cI cZ q_t_trial q_t_told q_t_trial_line q_t_trial_strides q_t_trial_strains q_t_told_beats q_t_told_kinds _ t_trial_down t_trial_steps t_told_count t_told_depth t_told_noon t_told_depthBehind t_trial_line (x1 - 9) r9 o10 o11 e13) rfl rfl rfl rfl hl.1 rfl (Nat.le_of_ble_eq_true rfl) dX0_winter_52 ⟨Nat.zero_le _, Nat.zero_le _⟩ (fun H locs hP hS => ?_)
        replace hP : va_P (dC, dI) vwCl [(q_t, .inr (0, [.ref q_t_told, .ref q_t_now, .ref q_t_trial, .ref q_t_hasOne, .ref q_t_hasOther])), (q_t_trial, .inr (6, [.ref q_t_told, .ref q_t_trial_line, .ref q_t_trial_strides, .ref q_t_trial_strains, .int o10, .int t_trial_steps])), (q_t_told, .inr (3, [.ref q_t_told_beats, .ref q_t_told_kinds, .int t_told_count, .int t_told_depth, .int t_told_noon, .int t_told_depthBehind])), (q_t_trial_strains, .inl (cI, 5, .inl t_trial_strains)), (q_t_trial_strides, .inl (cI, 5, .inl t_trial_strides)), (q_t_trial_line, .inl (cI, 5, .inl o11)), (q_t_told_kinds, .inl (cI, 5, .inl t_told_kinds)), (q_t_told_beats, .inl (cI, 5, .inl t_told_beats))] H := hP
        replace hD : va_D A [(q_t, .inr (0, [.ref q_t_told, .ref q_t_now, .ref q_t_trial, .ref q_t_hasOne, .ref q_t_hasOther])), (q_t_trial, .inr (6, [.ref q_t_told, .ref q_t_trial_line, .ref q_t_trial_strides, .ref q_t_trial_strains, .int o10, .int t_trial_steps])), (q_t_told, .inr (3, [.ref q_t_told_beats, .ref q_t_told_kinds, .int t_told_count, .int t_told_depth, .int t_told_noon, .int t_told_depthBehind])), (q_t_trial_strains, .inl (cI, 5, .inl t_trial_strains)), (q_t_trial_strides, .inl (cI, 5, .inl t_trial_strides)), (q_t_trial_line, .inl (cI, 5, .inl o11)), (q_t_told_kinds, .inl (cI, 5, .inl t_told_kinds)), (q_t_told_beats, .inl (cI, 5, .inl t_told_beats))] := wd hD rfl
        refine lv_pop hx hb dX0_winter_55 rfl ?_
        refine lv_goto (tgt := 68) hx hb dX0_winter_56 (by decide) ?_
        exact h_68 o10 t_trial_steps t_trial_strains t_trial_strides o11 _ _ _ hP hS (lv_sub hl [0] rfl) hf
    · replace hf := iq hc hf
      refine lv_aload_n hx hb dX0_winter_24 rfl (lv_at hl 0 rfl) ?_
      refine va_get (D := (dC, dI)) (ci := 0) (v := .ref q_t_trial) (C := RX0) (T := TX0) (N := 5) hx hb hts hinX0 hown hK.1 hP 0 rfl rfl 2 (by decide) w_0 (fun _ h9 => h9) rfl dX0_winter_25 ?_
      refine lv_iload_n hx hb dX0_winter_28 rfl (lv_at hl 1 rfl) ?_
      refine lv_iconst (v := 5) hx hb dX0_winter_29 (by decide) ?_
      refine lv_isub hx hb dX0_winter_30 ?_
      obtain ⟨⟨r14, o15⟩, e17, hf⟩ := bd_ok hf
      refine kVi (As := [.int (x1 - 5)]) CF (cwV 1 hts gX0_winter_X6_trySwap rfl rfl rfl (by decide +kernel) ⟨Nat.le_of_ble_eq_true rfl, Nat.le_of_ble_eq_true rfl⟩) PU_blind hP hD hS hA (va_recv hK.1 hP (ci := 6) (q0 := 1) rfl rfl) [1, 2, 5] (fun h1 h2 h3 => PU_pre hK h1 A h2 h3) (c_X6_trySwap l dC dI cI cZ q_t_trial q_t_told q_t_trial_line q_t_trial_strides q_t_trial_strains q_t_told_beats q_t_told_kinds _ t_trial_down t_trial_steps t_told_count t_told_depth t_told_noon t_told_depthBehind t_trial_line (x1 - 5) r14 o15 e17) rfl rfl rfl rfl hl.1 rfl (Nat.le_of_ble_eq_true rfl) dX0_winter_31 ⟨Nat.zero_le _, Nat.zero_le _⟩ (fun H locs hP hS => ?_)
      replace hP : va_P (dC, dI) vwCl [(q_t, .inr (0, [.ref q_t_told, .ref q_t_now, .ref q_t_trial, .ref q_t_hasOne, .ref q_t_hasOther])), (q_t_trial, .inr (6, [.ref q_t_told, .ref q_t_trial_line, .ref q_t_trial_strides, .ref q_t_trial_strains, .int t_trial_down, .int t_trial_steps])), (q_t_told, .inr (3, [.ref q_t_told_beats, .ref q_t_told_kinds, .int t_told_count, .int t_told_depth, .int t_told_noon, .int t_told_depthBehind])), (q_t_trial_strains, .inl (cI, 5, .inl t_trial_strains)), (q_t_trial_strides, .inl (cI, 5, .inl t_trial_strides)), (q_t_trial_line, .inl (cI, 5, .inl o15)), (q_t_told_kinds, .inl (cI, 5, .inl t_told_kinds)), (q_t_told_beats, .inl (cI, 5, .inl t_told_beats))] H := hP
      replace hD : va_D A [(q_t, .inr (0, [.ref q_t_told, .ref q_t_now, .ref q_t_trial, .ref q_t_hasOne, .ref q_t_hasOther])), (q_t_trial, .inr (6, [.ref q_t_told, .ref q_t_trial_line, .ref q_t_trial_strides, .ref q_t_trial_strains, .int t_trial_down, .int t_trial_steps])), (q_t_told, .inr (3, [.ref q_t_told_beats, .ref q_t_told_kinds, .int t_told_count, .int t_told_depth, .int t_told_noon, .int t_told_depthBehind])), (q_t_trial_strains, .inl (cI, 5, .inl t_trial_strains)), (q_t_trial_strides, .inl (cI, 5, .inl t_trial_strides)), (q_t_trial_line, .inl (cI, 5, .inl o15)), (q_t_told_kinds, .inl (cI, 5, .inl t_told_kinds)), (q_t_told_beats, .inl (cI, 5, .inl t_told_beats))] := wd hD rfl
      refine lv_pop hx hb dX0_winter_34 rfl ?_
      refine lv_goto (tgt := 68) hx hb dX0_winter_35 (by decide) ?_
      exact h_68 t_trial_down t_trial_steps t_trial_strains t_trial_strides o15 _ _ _ hP hS (lv_sub hl [0] rfl) hf
  · replace hf := iq hc hf
    refine lv_aload_n hx hb dX0_winter_5 rfl (lv_at hl 0 rfl) ?_
    refine va_get (D := (dC, dI)) (ci := 0) (v := .ref q_t_trial) (C := RX0) (T := TX0) (N := 5) hx hb hts hinX0 hown hK.1 hP 0 rfl rfl 2 (by decide) w_0 (fun _ h9 => h9) rfl dX0_winter_6 ?_
    refine lv_iload_n hx hb dX0_winter_9 rfl (lv_at hl 1 rfl) ?_
    refine lv_iconst (v := 1) hx hb dX0_winter_10 (by decide) ?_
    obtain ⟨⟨r18, o19, o20⟩, e22, hf⟩ := bd_ok hf
    refine kVi (As := [.int x1, .int 1]) CF (cwV 2 hts gX0_winter_X6_tryDrill rfl rfl rfl (by decide +kernel) ⟨Nat.le_of_ble_eq_true rfl, Nat.le_of_ble_eq_true rfl⟩) PU_blind hP hD hS hA (va_recv hK.1 hP (ci := 6) (q0 := 1) rfl rfl) [1, 2, 3, 4] (fun h1 h2 h3 => PU_pre hK h1 A h2 h3) (c_X6_tryDrill l dC dI cI cZ q_t_trial q_t_told q_t_trial_line q_t_trial_strides q_t_trial_strains q_t_told_beats q_t_told_kinds _ t_trial_down t_trial_steps t_told_count t_told_depth t_told_noon t_told_depthBehind t_trial_strains t_trial_strides x1 1 r18 o19 o20 e22) rfl rfl rfl rfl hl.1 rfl (Nat.le_of_ble_eq_true rfl) dX0_winter_11 ⟨Nat.zero_le _, Nat.zero_le _⟩ (fun H locs hP hS => ?_)
    replace hP : va_P (dC, dI) vwCl [(q_t, .inr (0, [.ref q_t_told, .ref q_t_now, .ref q_t_trial, .ref q_t_hasOne, .ref q_t_hasOther])), (q_t_trial, .inr (6, [.ref q_t_told, .ref q_t_trial_line, .ref q_t_trial_strides, .ref q_t_trial_strains, .int t_trial_down, .int t_trial_steps])), (q_t_told, .inr (3, [.ref q_t_told_beats, .ref q_t_told_kinds, .int t_told_count, .int t_told_depth, .int t_told_noon, .int t_told_depthBehind])), (q_t_trial_strains, .inl (cI, 5, .inl o19)), (q_t_trial_strides, .inl (cI, 5, .inl o20)), (q_t_trial_line, .inl (cI, 5, .inl t_trial_line)), (q_t_told_kinds, .inl (cI, 5, .inl t_told_kinds)), (q_t_told_beats, .inl (cI, 5, .inl t_told_beats))] H := hP
    replace hD : va_D A [(q_t, .inr (0, [.ref q_t_told, .ref q_t_now, .ref q_t_trial, .ref q_t_hasOne, .ref q_t_hasOther])), (q_t_trial, .inr (6, [.ref q_t_told, .ref q_t_trial_line, .ref q_t_trial_strides, .ref q_t_trial_strains, .int t_trial_down, .int t_trial_steps])), (q_t_told, .inr (3, [.ref q_t_told_beats, .ref q_t_told_kinds, .int t_told_count, .int t_told_depth, .int t_told_noon, .int t_told_depthBehind])), (q_t_trial_strains, .inl (cI, 5, .inl o19)), (q_t_trial_strides, .inl (cI, 5, .inl o20)), (q_t_trial_line, .inl (cI, 5, .inl t_trial_line)), (q_t_told_kinds, .inl (cI, 5, .inl t_told_kinds)), (q_t_told_beats, .inl (cI, 5, .inl t_told_beats))] := wd hD rfl
    refine lv_pop hx hb dX0_winter_14 rfl ?_
    refine lv_goto (tgt := 68) hx hb dX0_winter_15 (by decide) ?_
    exact h_68 t_trial_down t_trial_steps o19 o20 t_trial_line _ _ _ hP hS (lv_sub hl [0] rfl) hf
abbrev rm_X1_goOn : Room := { frames := 4, cells := 0, slots := 0, locals := 96 }
set_option maxHeartbeats 4000000 in
set_option maxRecDepth 100000 in
theorem c_X1_goOn (l : Launch) (dC : Nat → ClassId) (dI : Nat → Nat → Nat) (cI cZ : ClassId) (q_t q_t_told q_t_now q_t_trial q_t_trial_line q_t_trial_strides q_t_trial_strains q_t_told_beats q_t_told_kinds : Nat) (sz : Nat) (t_trial_down : Int32) (t_trial_steps : Int32) (t_told_count : Int32) (t_told_depth : Int32) (t_told_noon : Int32) (t_told_depthBehind : Int32) (t_trial_line : Nat → Int32) (t_told_kinds : Nat → Int32) (t_trial_strides : Nat → Int32) (t_told_beats : Nat → Int32) (x1 : Int32) (o_t_trial_down : Int32) (o_t_trial_steps : Int32) (hf : f_X1_goOn x1 t_trial_down t_trial_steps t_told_count t_told_depth t_told_noon t_told_depthBehind t_trial_line t_told_kinds t_trial_strides t_told_beats = some (o_t_trial_down, o_t_trial_steps)) : Met l yX1_goOn wsX1_goOn rm_X1_goOn (va_Pc [.ref q_t, .int x1] (PU (dC, dI) cI cZ [(q_t, .inr (1, [.ref q_t_told, .ref q_t_now, .ref q_t_trial])), (q_t_trial, .inr (6, [.ref q_t_told, .ref q_t_trial_line, .ref q_t_trial_strides, .ref q_t_trial_strains, .int t_trial_down, .int t_trial_steps])), (q_t_told, .inr (3, [.ref q_t_told_beats, .ref q_t_told_kinds, .int t_told_count, .int t_told_depth, .int t_told_noon, .int t_told_depthBehind])), (q_t_trial_line, .inl (cI, 5, .inl t_trial_line)), (q_t_told_kinds, .inl (cI, 5, .inl t_told_kinds)), (q_t_trial_strides, .inl (cI, 5, .inl t_trial_strides)), (q_t_told_beats, .inl (cI, 5, .inl t_told_beats))] sz)) (va_Qv (fun (_ : Unit) => True) (fun _ t => va_P (dC, dI) vwCl [(q_t, .inr (1, [.ref q_t_told, .ref q_t_now, .ref q_t_trial])), (q_t_trial, .inr (6, [.ref q_t_told, .ref q_t_trial_line, .ref q_t_trial_strides, .ref q_t_trial_strains, .int o_t_trial_down, .int o_t_trial_steps])), (q_t_told, .inr (3, [.ref q_t_told_beats, .ref q_t_told_kinds, .int t_told_count, .int t_told_depth, .int t_told_noon, .int t_told_depthBehind])), (q_t_trial_line, .inl (cI, 5, .inl t_trial_line)), (q_t_told_kinds, .inl (cI, 5, .inl t_told_kinds)), (q_t_trial_strides, .inl (cI, 5, .inl t_trial_strides)), (q_t_told_beats, .inl (cI, 5, .inl t_told_beats))] t.heap) (va_A [(q_t, .inr (1, [.ref q_t_told, .ref q_t_now, .ref q_t_trial])), (q_t_trial, .inr (6, [.ref q_t_told, .ref q_t_trial_line, .ref q_t_trial_strides, .ref q_t_trial_strains, .int t_trial_down, .int t_trial_steps])), (q_t_told, .inr (3, [.ref q_t_told_beats, .ref q_t_told_kinds, .int t_told_count, .int t_told_depth, .int t_told_noon, .int t_told_depthBehind])), (q_t_trial_line, .inl (cI, 5, .inl t_trial_line)), (q_t_told_kinds, .inl (cI, 5, .inl t_told_kinds)), (q_t_trial_strides, .inl (cI, 5, .inl t_trial_strides)), (q_t_told_beats, .inl (cI, 5, .inl t_told_beats))] sz)) 0 0 (va_A [(q_t, .inr (1, [.ref q_t_told, .ref q_t_now, .ref q_t_trial])), (q_t_trial, .inr (6, [.ref q_t_told, .ref q_t_trial_line, .ref q_t_trial_strides, .ref q_t_trial_strains, .int t_trial_down, .int t_trial_steps])), (q_t_told, .inr (3, [.ref q_t_told_beats, .ref q_t_told_kinds, .int t_told_count, .int t_told_depth, .int t_told_noon, .int t_told_depthBehind])), (q_t_trial_line, .inl (cI, 5, .inl t_trial_line)), (q_t_told_kinds, .inl (cI, 5, .inl t_told_kinds)), (q_t_trial_strides, .inl (cI, 5, .inl t_trial_strides)), (q_t_told_beats, .inl (cI, 5, .inl t_told_beats))] sz) := by
  refine MetV (cc := cX1_goOn) (maxL := 3) (by decide) rfl (Nat.le_of_ble_eq_true rfl) (fun _ h => h) ?_
  intro p e s m args below meth c A Q ls hx CF hK hA hD hP hS hl hB hAe hsz hret
  have hb := CF.2.1
  have hml := CF.2.2.1
  have hown := CF.2.2.2.1
  have hts := CF.2.2.2.2
  have hD0 := hD
  replace hl : lv_has ls 3 [(0, .ref q_t), (1, .int x1)] := hl
  have hinX1 : ∀ w ∈ wsX10, w ∈ wsX1_goOn := fun _ h => List.mem_cons_of_mem _ (List.mem_append_left _ (List.mem_append_left _ (List.mem_append_right _ h)))
  have hinX6 : ∀ w ∈ wsX60, w ∈ wsX1_goOn := fun _ h => List.mem_cons_of_mem _ (List.mem_append_left _ (List.mem_append_right _ h))
  have hinX3 : ∀ w ∈ wsX30, w ∈ wsX1_goOn := fun _ h => List.mem_cons_of_mem _ (List.mem_append_right _ h)
  have w_0 := hts (.fieldLink RX1 19 "PassInStep$Foresight" "trial" "LPassInStep$Yard;") (by decide +kernel)
  have h_2 : ∀ (x1 : Int32) (fu2 : Nat) (x2 : Int32) (t_trial_down : Int32) (t_trial_steps : Int32) (H : Heap) (locs : List Loc) (ls : Array Slot), va_P (dC, dI) vwCl [(q_t, .inr (1, [.ref q_t_told, .ref q_t_now, .ref q_t_trial])), (q_t_trial, .inr (6, [.ref q_t_told, .ref q_t_trial_line, .ref q_t_trial_strides, .ref q_t_trial_strains, .int t_trial_down, .int t_trial_steps])), (q_t_told, .inr (3, [.ref q_t_told_beats, .ref q_t_told_kinds, .int t_told_count, .int t_told_depth, .int t_told_noon, .int t_told_depthBehind])), (q_t_trial_line, .inl (cI, 5, .inl t_trial_line)), (q_t_told_kinds, .inl (cI, 5, .inl t_told_kinds)), (q_t_trial_strides, .inl (cI, 5, .inl t_trial_strides)), (q_t_told_beats, .inl (cI, 5, .inl t_told_beats))] H → va_S A s.heap H locs → lv_has ls 3 [(0, .ref q_t), (1, .int x1), (2, .int x2)] → L_X1_goOn_2 x1 t_told_count t_told_depth t_told_noon t_told_depthBehind t_trial_line t_told_kinds t_trial_strides t_told_beats fu2 x2 t_trial_down t_trial_steps = some (o_t_trial_down, o_t_trial_steps) → W p l e rm_X1_goOn s m args below meth c H locs 0 0 Q (F0 m 2 ls []) := by
    intro x1 fu2
    induction fu2 with
    | zero =>
      intro x2 t_trial_down t_trial_steps H locs ls hP hS hl hf
      rw [L_X1_goOn_2] at hf
      cases hf
    | succ fu2 ih2 =>
      intro x2 t_trial_down t_trial_steps H locs ls hP hS hl hf
      have hD : va_D A [(q_t, .inr (1, [.ref q_t_told, .ref q_t_now, .ref q_t_trial])), (q_t_trial, .inr (6, [.ref q_t_told, .ref q_t_trial_line, .ref q_t_trial_strides, .ref q_t_trial_strains, .int t_trial_down, .int t_trial_steps])), (q_t_told, .inr (3, [.ref q_t_told_beats, .ref q_t_told_kinds, .int t_told_count, .int t_told_depth, .int t_told_noon, .int t_told_depthBehind])), (q_t_trial_line, .inl (cI, 5, .inl t_trial_line)), (q_t_told_kinds, .inl (cI, 5, .inl t_told_kinds)), (q_t_trial_strides, .inl (cI, 5, .inl t_trial_strides)), (q_t_told_beats, .inl (cI, 5, .inl t_told_beats))] := wd hD0 rfl
      rw [L_X1_goOn_2] at hf
      refine lv_iload_n hx hb dX1_goOn_2 rfl (lv_at hl 2 rfl) ?_
      refine lv_iload_n hx hb dX1_goOn_3 rfl (lv_at hl 1 rfl) ?_
      refine lv_icmp_ge (tgt := 22) hx hb dX1_goOn_4 (by decide) (fun hc => ?_) (fun hc => ?_)
      · replace hf := ip hc hf
        obtain ⟨e0, hf⟩ := ij2 hf
        have e1 := hf
        exact hret _ _ _ _ (by rw [← e0, ← e1]; exact hP) hS dX1_goOn_22
      · replace hf := iq hc hf
        refine lv_aload_n hx hb dX1_goOn_7 rfl (lv_at hl 0 rfl) ?_
        refine va_get (D := (dC, dI)) (ci := 1) (v := .ref q_t_trial) (C := RX1) (T := TX1) (N := 3) hx hb hts hinX1 hown hK.1 hP 0 rfl rfl 2 (by decide) w_0 (fun _ h9 => h9) rfl dX1_goOn_8 ?_
        refine lv_iconst (v := 0) hx hb dX1_goOn_11 (by decide) ?_
        obtain ⟨⟨r1, o2, o3⟩, e5, hf⟩ := bd_ok hf
        refine kVi (As := [.int 0]) CF (cwV 1 hts gX1_goOn_X6_takeStep rfl rfl rfl (by decide +kernel) ⟨Nat.le_of_ble_eq_true rfl, Nat.le_of_ble_eq_true rfl⟩) PU_blind hP hD hS hA (va_recv hK.1 hP (ci := 6) (q0 := 1) rfl rfl) [1, 2, 3, 4, 5, 6] (fun h1 h2 h3 => PU_pre hK h1 A h2 h3) (c_X6_takeStep l dC dI cI cZ q_t_trial q_t_told q_t_trial_line q_t_trial_strides q_t_trial_strains q_t_told_beats q_t_told_kinds _ t_trial_down t_trial_steps t_told_count t_told_depth t_told_noon t_told_depthBehind t_trial_line t_told_kinds t_trial_strides t_told_beats 0 r1 o2 o3 e5) rfl rfl rfl rfl hl.1 rfl (Nat.le_of_ble_eq_true rfl) dX1_goOn_12 ⟨Nat.zero_le _, Nat.zero_le _⟩ (fun H locs hP hS => ?_)
        replace hP : va_P (dC, dI) vwCl [(q_t, .inr (1, [.ref q_t_told, .ref q_t_now, .ref q_t_trial])), (q_t_trial, .inr (6, [.ref q_t_told, .ref q_t_trial_line, .ref q_t_trial_strides, .ref q_t_trial_strains, .int o2, .int o3])), (q_t_told, .inr (3, [.ref q_t_told_beats, .ref q_t_told_kinds, .int t_told_count, .int t_told_depth, .int t_told_noon, .int t_told_depthBehind])), (q_t_trial_line, .inl (cI, 5, .inl t_trial_line)), (q_t_told_kinds, .inl (cI, 5, .inl t_told_kinds)), (q_t_trial_strides, .inl (cI, 5, .inl t_trial_strides)), (q_t_told_beats, .inl (cI, 5, .inl t_told_beats))] H := hP
        replace hD : va_D A [(q_t, .inr (1, [.ref q_t_told, .ref q_t_now, .ref q_t_trial])), (q_t_trial, .inr (6, [.ref q_t_told, .ref q_t_trial_line, .ref q_t_trial_strides, .ref q_t_trial_strains, .int o2, .int o3])), (q_t_told, .inr (3, [.ref q_t_told_beats, .ref q_t_told_kinds, .int t_told_count, .int t_told_depth, .int t_told_noon, .int t_told_depthBehind])), (q_t_trial_line, .inl (cI, 5, .inl t_trial_line)), (q_t_told_kinds, .inl (cI, 5, .inl t_told_kinds)), (q_t_trial_strides, .inl (cI, 5, .inl t_trial_strides)), (q_t_told_beats, .inl (cI, 5, .inl t_told_beats))] := wd hD rfl
        refine lv_pop hx hb dX1_goOn_15 rfl ?_
        refine lv_iinc (v := (x2 + 1)) (lv' := [(2, .int (x2 + 1)), (0, .ref q_t), (1, .int x1)]) hx hb dX1_goOn_16 hl (k := 2) rfl rfl (by decide) rfl (fun ls hl => ?_)
        refine lv_goto (tgt := 2) hx hb dX1_goOn_19 (by decide) ?_
        exact ih2 (x2 + 1) o2 o3 _ _ _ hP hS (lv_sub hl [1, 2, 0] rfl) hf
  rw [f_X1_goOn] at hf
  refine lv_iconst (v := 0) hx hb dX1_goOn_0 (by decide) ?_
  refine lv_istore_n (lv' := [(2, .int 0), (0, .ref q_t), (1, .int x1)]) hx hb dX1_goOn_1 rfl hl (by decide) rfl (fun ls hl => ?_)
  exact h_2 x1 fuelC 0 t_trial_down t_trial_steps _ _ _ hP hS (lv_sub hl [1, 2, 0] rfl) hf
abbrev rm_X1_standingBehind : Room := { frames := 5, cells := 0, slots := 0, locals := 118 }
set_option maxHeartbeats 4000000 in
set_option maxRecDepth 100000 in
theorem c_X1_standingBehind (l : Launch) (dC : Nat → ClassId) (dI : Nat → Nat → Nat) (cI cZ : ClassId) (q_t q_t_told q_t_now q_t_trial q_t_trial_line q_t_trial_strides q_t_trial_strains q_t_now_line q_t_now_strides q_t_now_strains q_t_told_beats q_t_told_kinds : Nat) (sz : Nat) (t_trial_down : Int32) (t_trial_steps : Int32) (t_now_down : Int32) (t_now_steps : Int32) (t_now_line : Nat → Int32) (t_trial_line : Nat → Int32) (t_now_strides : Nat → Int32) (t_trial_strides : Nat → Int32) (t_now_strains : Nat → Int32) (t_trial_strains : Nat → Int32) (t_told_count : Int32) (t_told_depth : Int32) (t_told_noon : Int32) (t_told_depthBehind : Int32) (t_told_kinds : Nat → Int32) (t_told_beats : Nat → Int32) (x1 : Int32) (r_ : Int32) (o_t_trial_down : Int32) (o_t_trial_steps : Int32) (o_t_trial_line : Nat → Int32) (o_t_trial_strides : Nat → Int32) (o_t_trial_strains : Nat → Int32) (hf : f_X1_standingBehind x1 t_trial_down t_trial_steps t_now_down t_now_steps t_now_line t_trial_line t_now_strides t_trial_strides t_now_strains t_trial_strains t_told_count t_told_depth t_told_noon t_told_depthBehind t_told_kinds t_told_beats = some (r_, o_t_trial_down, o_t_trial_steps, o_t_trial_line, o_t_trial_strides, o_t_trial_strains)) : Met l yX1_standingBehind wsX1_standingBehind rm_X1_standingBehind (va_Pc [.ref q_t, .int x1] (PU (dC, dI) cI cZ [(q_t, .inr (1, [.ref q_t_told, .ref q_t_now, .ref q_t_trial])), (q_t_trial, .inr (6, [.ref q_t_told, .ref q_t_trial_line, .ref q_t_trial_strides, .ref q_t_trial_strains, .int t_trial_down, .int t_trial_steps])), (q_t_now, .inr (6, [.ref q_t_told, .ref q_t_now_line, .ref q_t_now_strides, .ref q_t_now_strains, .int t_now_down, .int t_now_steps])), (q_t_now_line, .inl (cI, 5, .inl t_now_line)), (q_t_trial_line, .inl (cI, 5, .inl t_trial_line)), (q_t_now_strides, .inl (cI, 5, .inl t_now_strides)), (q_t_trial_strides, .inl (cI, 5, .inl t_trial_strides)), (q_t_now_strains, .inl (cI, 5, .inl t_now_strains)), (q_t_trial_strains, .inl (cI, 5, .inl t_trial_strains)), (q_t_told, .inr (3, [.ref q_t_told_beats, .ref q_t_told_kinds, .int t_told_count, .int t_told_depth, .int t_told_noon, .int t_told_depthBehind])), (q_t_told_kinds, .inl (cI, 5, .inl t_told_kinds)), (q_t_told_beats, .inl (cI, 5, .inl t_told_beats))] sz)) (va_Qi (fun (r : Int32) (_ : Unit) => r = r_) (fun _ t => va_P (dC, dI) vwCl [(q_t, .inr (1, [.ref q_t_told, .ref q_t_now, .ref q_t_trial])), (q_t_trial, .inr (6, [.ref q_t_told, .ref q_t_trial_line, .ref q_t_trial_strides, .ref q_t_trial_strains, .int o_t_trial_down, .int o_t_trial_steps])), (q_t_now, .inr (6, [.ref q_t_told, .ref q_t_now_line, .ref q_t_now_strides, .ref q_t_now_strains, .int t_now_down, .int t_now_steps])), (q_t_now_line, .inl (cI, 5, .inl t_now_line)), (q_t_trial_line, .inl (cI, 5, .inl o_t_trial_line)), (q_t_now_strides, .inl (cI, 5, .inl t_now_strides)), (q_t_trial_strides, .inl (cI, 5, .inl o_t_trial_strides)), (q_t_now_strains, .inl (cI, 5, .inl t_now_strains)), (q_t_trial_strains, .inl (cI, 5, .inl o_t_trial_strains)), (q_t_told, .inr (3, [.ref q_t_told_beats, .ref q_t_told_kinds, .int t_told_count, .int t_told_depth, .int t_told_noon, .int t_told_depthBehind])), (q_t_told_kinds, .inl (cI, 5, .inl t_told_kinds)), (q_t_told_beats, .inl (cI, 5, .inl t_told_beats))] t.heap) (va_A [(q_t, .inr (1, [.ref q_t_told, .ref q_t_now, .ref q_t_trial])), (q_t_trial, .inr (6, [.ref q_t_told, .ref q_t_trial_line, .ref q_t_trial_strides, .ref q_t_trial_strains, .int t_trial_down, .int t_trial_steps])), (q_t_now, .inr (6, [.ref q_t_told, .ref q_t_now_line, .ref q_t_now_strides, .ref q_t_now_strains, .int t_now_down, .int t_now_steps])), (q_t_now_line, .inl (cI, 5, .inl t_now_line)), (q_t_trial_line, .inl (cI, 5, .inl t_trial_line)), (q_t_now_strides, .inl (cI, 5, .inl t_now_strides)), (q_t_trial_strides, .inl (cI, 5, .inl t_trial_strides)), (q_t_now_strains, .inl (cI, 5, .inl t_now_strains)), (q_t_trial_strains, .inl (cI, 5, .inl t_trial_strains)), (q_t_told, .inr (3, [.ref q_t_told_beats, .ref q_t_told_kinds, .int t_told_count, .int t_told_depth, .int t_told_noon, .int t_told_depthBehind])), (q_t_told_kinds, .inl (cI, 5, .inl t_told_kinds)), (q_t_told_beats, .inl (cI, 5, .inl t_told_beats))] sz)) 0 0 (va_A [(q_t, .inr (1, [.ref q_t_told, .ref q_t_now, .ref q_t_trial])), (q_t_trial, .inr (6, [.ref q_t_told, .ref q_t_trial_line, .ref q_t_trial_strides, .ref q_t_trial_strains, .int t_trial_down, .int t_trial_steps])), (q_t_now, .inr (6, [.ref q_t_told, .ref q_t_now_line, .ref q_t_now_strides, .ref q_t_now_strains, .int t_now_down, .int t_now_steps])), (q_t_now_line, .inl (cI, 5, .inl t_now_line)), (q_t_trial_line, .inl (cI, 5, .inl t_trial_line)), (q_t_now_strides, .inl (cI, 5, .inl t_now_strides)), (q_t_trial_strides, .inl (cI, 5, .inl t_trial_strides)), (q_t_now_strains, .inl (cI, 5, .inl t_now_strains)), (q_t_trial_strains, .inl (cI, 5, .inl t_trial_strains)), (q_t_told, .inr (3, [.ref q_t_told_beats, .ref q_t_told_kinds, .int t_told_count, .int t_told_depth, .int t_told_noon, .int t_told_depthBehind])), (q_t_told_kinds, .inl (cI, 5, .inl t_told_kinds)), (q_t_told_beats, .inl (cI, 5, .inl t_told_beats))] sz) := by
  refine MetI (cc := cX1_standingBehind) (maxL := 2) (by decide) rfl (Nat.le_of_ble_eq_true rfl) (fun _ h => h) ?_
  intro p e s m args below meth c A Q ls hx CF hK hA hD hP hS hl hB hAe hsz hret
  have hb := CF.2.1
  have hml := CF.2.2.1
  have hown := CF.2.2.2.1
  have hts := CF.2.2.2.2
  have hD0 := hD
  replace hl : lv_has ls 2 [(0, .ref q_t), (1, .int x1)] := hl
  have hinX1 : ∀ w ∈ wsX10, w ∈ wsX1_standingBehind := fun _ h => List.mem_cons_of_mem _ (List.mem_append_left _ (List.mem_append_left _ (List.mem_append_right _ h)))
  have hinX6 : ∀ w ∈ wsX60, w ∈ wsX1_standingBehind := fun _ h => List.mem_cons_of_mem _ (List.mem_append_left _ (List.mem_append_right _ h))
  have hinX3 : ∀ w ∈ wsX30, w ∈ wsX1_standingBehind := fun _ h => List.mem_cons_of_mem _ (List.mem_append_right _ h)
  have w_0 := hts (.fieldLink RX1 19 "PassInStep$Foresight" "trial" "LPassInStep$Yard;") (by decide +kernel)
  have w_1 := hts (.fieldLink RX1 15 "PassInStep$Foresight" "now" "LPassInStep$Yard;") (by decide +kernel)
  rw [f_X1_standingBehind] at hf
  refine lv_aload_n hx hb dX1_standingBehind_0 rfl (lv_at hl 0 rfl) ?_
  refine va_get (D := (dC, dI)) (ci := 1) (v := .ref q_t_trial) (C := RX1) (T := TX1) (N := 3) hx hb hts hinX1 hown hK.1 hP 0 rfl rfl 2 (by decide) w_0 (fun _ h9 => h9) rfl dX1_standingBehind_1 ?_
  refine lv_aload_n hx hb dX1_standingBehind_4 rfl (lv_at hl 0 rfl) ?_
  refine va_get (D := (dC, dI)) (ci := 1) (v := .ref q_t_now) (C := RX1) (T := TX1) (N := 3) hx hb hts hinX1 hown hK.1 hP 0 rfl rfl 1 (by decide) w_1 (fun _ h9 => h9) rfl dX1_standingBehind_5 ?_
  obtain ⟨⟨o1, o2, o3, o4, o5⟩, e7, hf⟩ := bd_ok hf
  refine kVv (As := [.ref q_t_now]) CF (cwV 1 hts gX1_standingBehind_X6_copyFrom rfl rfl rfl (by decide +kernel) ⟨Nat.le_of_ble_eq_true rfl, Nat.le_of_ble_eq_true rfl⟩) PU_blind hP hD hS hA (va_recv hK.1 hP (ci := 6) (q0 := 1) rfl rfl) [1, 2, 3, 4, 5, 6, 7, 8] (fun h1 h2 h3 => PU_pre hK h1 A h2 h3) (c_X6_copyFrom l dC dI cI cZ q_t_trial q_t_told q_t_trial_line q_t_trial_strides q_t_trial_strains q_t_now q_t_told q_t_now_line q_t_now_strides q_t_now_strains _ t_trial_down t_trial_steps t_now_down t_now_steps t_now_line t_trial_line t_now_strides t_trial_strides t_now_strains t_trial_strains o1 o2 o3 o4 o5 e7) rfl rfl rfl rfl hl.1 rfl (Nat.le_of_ble_eq_true rfl) dX1_standingBehind_8 ⟨Nat.zero_le _, Nat.zero_le _⟩ (fun H locs hP hS => ?_)
  replace hP : va_P (dC, dI) vwCl [(q_t, .inr (1, [.ref q_t_told, .ref q_t_now, .ref q_t_trial])), (q_t_trial, .inr (6, [.ref q_t_told, .ref q_t_trial_line, .ref q_t_trial_strides, .ref q_t_trial_strains, .int o1, .int o2])), (q_t_now, .inr (6, [.ref q_t_told, .ref q_t_now_line, .ref q_t_now_strides, .ref q_t_now_strains, .int t_now_down, .int t_now_steps])), (q_t_now_line, .inl (cI, 5, .inl t_now_line)), (q_t_trial_line, .inl (cI, 5, .inl o3)), (q_t_now_strides, .inl (cI, 5, .inl t_now_strides)), (q_t_trial_strides, .inl (cI, 5, .inl o4)), (q_t_now_strains, .inl (cI, 5, .inl t_now_strains)), (q_t_trial_strains, .inl (cI, 5, .inl o5)), (q_t_told, .inr (3, [.ref q_t_told_beats, .ref q_t_told_kinds, .int t_told_count, .int t_told_depth, .int t_told_noon, .int t_told_depthBehind])), (q_t_told_kinds, .inl (cI, 5, .inl t_told_kinds)), (q_t_told_beats, .inl (cI, 5, .inl t_told_beats))] H := hP
  replace hD : va_D A [(q_t, .inr (1, [.ref q_t_told, .ref q_t_now, .ref q_t_trial])), (q_t_trial, .inr (6, [.ref q_t_told, .ref q_t_trial_line, .ref q_t_trial_strides, .ref q_t_trial_strains, .int o1, .int o2])), (q_t_now, .inr (6, [.ref q_t_told, .ref q_t_now_line, .ref q_t_now_strides, .ref q_t_now_strains, .int t_now_down, .int t_now_steps])), (q_t_now_line, .inl (cI, 5, .inl t_now_line)), (q_t_trial_line, .inl (cI, 5, .inl o3)), (q_t_now_strides, .inl (cI, 5, .inl t_now_strides)), (q_t_trial_strides, .inl (cI, 5, .inl o4)), (q_t_now_strains, .inl (cI, 5, .inl t_now_strains)), (q_t_trial_strains, .inl (cI, 5, .inl o5)), (q_t_told, .inr (3, [.ref q_t_told_beats, .ref q_t_told_kinds, .int t_told_count, .int t_told_depth, .int t_told_noon, .int t_told_depthBehind])), (q_t_told_kinds, .inl (cI, 5, .inl t_told_kinds)), (q_t_told_beats, .inl (cI, 5, .inl t_told_beats))] := wd hD rfl
  refine lv_aload_n hx hb dX1_standingBehind_11 rfl (lv_at hl 0 rfl) ?_
  refine lv_iload_n hx hb dX1_standingBehind_12 rfl (lv_at hl 1 rfl) ?_
  obtain ⟨⟨o8, o9⟩, e11, hf⟩ := bd_ok hf
  refine kVv (As := [.int x1]) CF (cwV 1 hts gX1_standingBehind_X1_goOn rfl rfl rfl (by decide +kernel) ⟨Nat.le_of_ble_eq_true rfl, Nat.le_of_ble_eq_true rfl⟩) PU_blind hP hD hS hA (va_recv hK.1 hP (ci := 1) (q0 := 0) rfl rfl) [0, 1, 9, 4, 10, 6, 11] (fun h1 h2 h3 => PU_pre hK h1 A h2 h3) (c_X1_goOn l dC dI cI cZ q_t q_t_told q_t_now q_t_trial q_t_trial_line q_t_trial_strides q_t_trial_strains q_t_told_beats q_t_told_kinds _ o1 o2 t_told_count t_told_depth t_told_noon t_told_depthBehind o3 t_told_kinds o4 t_told_beats x1 o8 o9 e11) rfl rfl rfl rfl hl.1 rfl (Nat.le_of_ble_eq_true rfl) dX1_standingBehind_13 ⟨Nat.zero_le _, Nat.zero_le _⟩ (fun H locs hP hS => ?_)
  replace hP : va_P (dC, dI) vwCl [(q_t, .inr (1, [.ref q_t_told, .ref q_t_now, .ref q_t_trial])), (q_t_trial, .inr (6, [.ref q_t_told, .ref q_t_trial_line, .ref q_t_trial_strides, .ref q_t_trial_strains, .int o8, .int o9])), (q_t_now, .inr (6, [.ref q_t_told, .ref q_t_now_line, .ref q_t_now_strides, .ref q_t_now_strains, .int t_now_down, .int t_now_steps])), (q_t_now_line, .inl (cI, 5, .inl t_now_line)), (q_t_trial_line, .inl (cI, 5, .inl o3)), (q_t_now_strides, .inl (cI, 5, .inl t_now_strides)), (q_t_trial_strides, .inl (cI, 5, .inl o4)), (q_t_now_strains, .inl (cI, 5, .inl t_now_strains)), (q_t_trial_strains, .inl (cI, 5, .inl o5)), (q_t_told, .inr (3, [.ref q_t_told_beats, .ref q_t_told_kinds, .int t_told_count, .int t_told_depth, .int t_told_noon, .int t_told_depthBehind])), (q_t_told_kinds, .inl (cI, 5, .inl t_told_kinds)), (q_t_told_beats, .inl (cI, 5, .inl t_told_beats))] H := hP
  replace hD : va_D A [(q_t, .inr (1, [.ref q_t_told, .ref q_t_now, .ref q_t_trial])), (q_t_trial, .inr (6, [.ref q_t_told, .ref q_t_trial_line, .ref q_t_trial_strides, .ref q_t_trial_strains, .int o8, .int o9])), (q_t_now, .inr (6, [.ref q_t_told, .ref q_t_now_line, .ref q_t_now_strides, .ref q_t_now_strains, .int t_now_down, .int t_now_steps])), (q_t_now_line, .inl (cI, 5, .inl t_now_line)), (q_t_trial_line, .inl (cI, 5, .inl o3)), (q_t_now_strides, .inl (cI, 5, .inl t_now_strides)), (q_t_trial_strides, .inl (cI, 5, .inl o4)), (q_t_now_strains, .inl (cI, 5, .inl t_now_strains)), (q_t_trial_strains, .inl (cI, 5, .inl o5)), (q_t_told, .inr (3, [.ref q_t_told_beats, .ref q_t_told_kinds, .int t_told_count, .int t_told_depth, .int t_told_noon, .int t_told_depthBehind])), (q_t_told_kinds, .inl (cI, 5, .inl t_told_kinds)), (q_t_told_beats, .inl (cI, 5, .inl t_told_beats))] := wd hD rfl
  refine lv_aload_n hx hb dX1_standingBehind_16 rfl (lv_at hl 0 rfl) ?_
  refine va_get (D := (dC, dI)) (ci := 1) (v := .ref q_t_trial) (C := RX1) (T := TX1) (N := 3) hx hb hts hinX1 hown hK.1 hP 0 rfl rfl 2 (by decide) w_0 (fun _ h9 => h9) rfl dX1_standingBehind_17 ?_
  obtain ⟨r12, e14, hf⟩ := bd_ok hf
  refine kVi (As := []) CF (cwV 0 hts gX1_standingBehind_X6_standingBits rfl rfl rfl (by decide +kernel) ⟨Nat.le_of_ble_eq_true rfl, Nat.le_of_ble_eq_true rfl⟩) PU_blind hP hD hS hA (va_recv hK.1 hP (ci := 6) (q0 := 1) rfl rfl) [1, 9] (fun h1 h2 h3 => PU_pre hK h1 A h2 h3) (c_X6_standingBits l dC dI cI cZ q_t_trial q_t_told q_t_trial_line q_t_trial_strides q_t_trial_strains q_t_told_beats q_t_told_kinds _ o8 o9 t_told_count t_told_depth t_told_noon t_told_depthBehind r12 e14) rfl rfl rfl rfl hl.1 rfl (Nat.le_of_ble_eq_true rfl) dX1_standingBehind_20 ⟨Nat.zero_le _, Nat.zero_le _⟩ (fun H locs hP hS => ?_)
  replace hP : va_P (dC, dI) vwCl [(q_t, .inr (1, [.ref q_t_told, .ref q_t_now, .ref q_t_trial])), (q_t_trial, .inr (6, [.ref q_t_told, .ref q_t_trial_line, .ref q_t_trial_strides, .ref q_t_trial_strains, .int o8, .int o9])), (q_t_now, .inr (6, [.ref q_t_told, .ref q_t_now_line, .ref q_t_now_strides, .ref q_t_now_strains, .int t_now_down, .int t_now_steps])), (q_t_now_line, .inl (cI, 5, .inl t_now_line)), (q_t_trial_line, .inl (cI, 5, .inl o3)), (q_t_now_strides, .inl (cI, 5, .inl t_now_strides)), (q_t_trial_strides, .inl (cI, 5, .inl o4)), (q_t_now_strains, .inl (cI, 5, .inl t_now_strains)), (q_t_trial_strains, .inl (cI, 5, .inl o5)), (q_t_told, .inr (3, [.ref q_t_told_beats, .ref q_t_told_kinds, .int t_told_count, .int t_told_depth, .int t_told_noon, .int t_told_depthBehind])), (q_t_told_kinds, .inl (cI, 5, .inl t_told_kinds)), (q_t_told_beats, .inl (cI, 5, .inl t_told_beats))] H := hP
  obtain ⟨e0, hf⟩ := ij2 hf
  obtain ⟨e1, hf⟩ := ijc hf
  obtain ⟨e2, hf⟩ := ijc hf
  obtain ⟨e3, hf⟩ := ijc hf
  obtain ⟨e4, hf⟩ := ijc hf
  have e5 := hf
  refine W.eq (congrArg (fun z => F0 m 23 ls [.int z]) e0) ?_
  exact hret _ _ _ _ (by rw [← e1, ← e2, ← e3, ← e4, ← e5]; exact hP) hS dX1_standingBehind_23
abbrev rm_X1_dropOf : Room := { frames := 4, cells := 0, slots := 0, locals := 96 }
set_option maxHeartbeats 4000000 in
set_option maxRecDepth 100000 in
theorem c_X1_dropOf (l : Launch) (dC : Nat → ClassId) (dI : Nat → Nat → Nat) (cI cZ : ClassId) (q_t q_t_told q_t_now q_t_trial q_t_trial_line q_t_trial_strides q_t_trial_strains q_t_now_line q_t_now_strides q_t_now_strains q_t_told_beats q_t_told_kinds : Nat) (sz : Nat) (t_trial_down : Int32) (t_trial_steps : Int32) (t_now_down : Int32) (t_now_steps : Int32) (t_now_line : Nat → Int32) (t_trial_line : Nat → Int32) (t_now_strides : Nat → Int32) (t_trial_strides : Nat → Int32) (t_now_strains : Nat → Int32) (t_trial_strains : Nat → Int32) (t_told_count : Int32) (t_told_depth : Int32) (t_told_noon : Int32) (t_told_depthBehind : Int32) (t_told_kinds : Nat → Int32) (t_told_beats : Nat → Int32) (x1 : Int32) (r_ : Int32) (o_t_trial_down : Int32) (o_t_trial_steps : Int32) (o_t_trial_line : Nat → Int32) (o_t_trial_strides : Nat → Int32) (o_t_trial_strains : Nat → Int32) (hf : f_X1_dropOf x1 t_trial_down t_trial_steps t_now_down t_now_steps t_now_line t_trial_line t_now_strides t_trial_strides t_now_strains t_trial_strains t_told_count t_told_depth t_told_noon t_told_depthBehind t_told_kinds t_told_beats = some (r_, o_t_trial_down, o_t_trial_steps, o_t_trial_line, o_t_trial_strides, o_t_trial_strains)) : Met l yX1_dropOf wsX1_dropOf rm_X1_dropOf (va_Pc [.ref q_t, .int x1] (PU (dC, dI) cI cZ [(q_t, .inr (1, [.ref q_t_told, .ref q_t_now, .ref q_t_trial])), (q_t_trial, .inr (6, [.ref q_t_told, .ref q_t_trial_line, .ref q_t_trial_strides, .ref q_t_trial_strains, .int t_trial_down, .int t_trial_steps])), (q_t_now, .inr (6, [.ref q_t_told, .ref q_t_now_line, .ref q_t_now_strides, .ref q_t_now_strains, .int t_now_down, .int t_now_steps])), (q_t_now_line, .inl (cI, 5, .inl t_now_line)), (q_t_trial_line, .inl (cI, 5, .inl t_trial_line)), (q_t_now_strides, .inl (cI, 5, .inl t_now_strides)), (q_t_trial_strides, .inl (cI, 5, .inl t_trial_strides)), (q_t_now_strains, .inl (cI, 5, .inl t_now_strains)), (q_t_trial_strains, .inl (cI, 5, .inl t_trial_strains)), (q_t_told, .inr (3, [.ref q_t_told_beats, .ref q_t_told_kinds, .int t_told_count, .int t_told_depth, .int t_told_noon, .int t_told_depthBehind])), (q_t_told_kinds, .inl (cI, 5, .inl t_told_kinds)), (q_t_told_beats, .inl (cI, 5, .inl t_told_beats))] sz)) (va_Qi (fun (r : Int32) (_ : Unit) => r = r_) (fun _ t => va_P (dC, dI) vwCl [(q_t, .inr (1, [.ref q_t_told, .ref q_t_now, .ref q_t_trial])), (q_t_trial, .inr (6, [.ref q_t_told, .ref q_t_trial_line, .ref q_t_trial_strides, .ref q_t_trial_strains, .int o_t_trial_down, .int o_t_trial_steps])), (q_t_now, .inr (6, [.ref q_t_told, .ref q_t_now_line, .ref q_t_now_strides, .ref q_t_now_strains, .int t_now_down, .int t_now_steps])), (q_t_now_line, .inl (cI, 5, .inl t_now_line)), (q_t_trial_line, .inl (cI, 5, .inl o_t_trial_line)), (q_t_now_strides, .inl (cI, 5, .inl t_now_strides)), (q_t_trial_strides, .inl (cI, 5, .inl o_t_trial_strides)), (q_t_now_strains, .inl (cI, 5, .inl t_now_strains)), (q_t_trial_strains, .inl (cI, 5, .inl o_t_trial_strains)), (q_t_told, .inr (3, [.ref q_t_told_beats, .ref q_t_told_kinds, .int t_told_count, .int t_told_depth, .int t_told_noon, .int t_told_depthBehind])), (q_t_told_kinds, .inl (cI, 5, .inl t_told_kinds)), (q_t_told_beats, .inl (cI, 5, .inl t_told_beats))] t.heap) (va_A [(q_t, .inr (1, [.ref q_t_told, .ref q_t_now, .ref q_t_trial])), (q_t_trial, .inr (6, [.ref q_t_told, .ref q_t_trial_line, .ref q_t_trial_strides, .ref q_t_trial_strains, .int t_trial_down, .int t_trial_steps])), (q_t_now, .inr (6, [.ref q_t_told, .ref q_t_now_line, .ref q_t_now_strides, .ref q_t_now_strains, .int t_now_down, .int t_now_steps])), (q_t_now_line, .inl (cI, 5, .inl t_now_line)), (q_t_trial_line, .inl (cI, 5, .inl t_trial_line)), (q_t_now_strides, .inl (cI, 5, .inl t_now_strides)), (q_t_trial_strides, .inl (cI, 5, .inl t_trial_strides)), (q_t_now_strains, .inl (cI, 5, .inl t_now_strains)), (q_t_trial_strains, .inl (cI, 5, .inl t_trial_strains)), (q_t_told, .inr (3, [.ref q_t_told_beats, .ref q_t_told_kinds, .int t_told_count, .int t_told_depth, .int t_told_noon, .int t_told_depthBehind])), (q_t_told_kinds, .inl (cI, 5, .inl t_told_kinds)), (q_t_told_beats, .inl (cI, 5, .inl t_told_beats))] sz)) 0 0 (va_A [(q_t, .inr (1, [.ref q_t_told, .ref q_t_now, .ref q_t_trial])), (q_t_trial, .inr (6, [.ref q_t_told, .ref q_t_trial_line, .ref q_t_trial_strides, .ref q_t_trial_strains, .int t_trial_down, .int t_trial_steps])), (q_t_now, .inr (6, [.ref q_t_told, .ref q_t_now_line, .ref q_t_now_strides, .ref q_t_now_strains, .int t_now_down, .int t_now_steps])), (q_t_now_line, .inl (cI, 5, .inl t_now_line)), (q_t_trial_line, .inl (cI, 5, .inl t_trial_line)), (q_t_now_strides, .inl (cI, 5, .inl t_now_strides)), (q_t_trial_strides, .inl (cI, 5, .inl t_trial_strides)), (q_t_now_strains, .inl (cI, 5, .inl t_now_strains)), (q_t_trial_strains, .inl (cI, 5, .inl t_trial_strains)), (q_t_told, .inr (3, [.ref q_t_told_beats, .ref q_t_told_kinds, .int t_told_count, .int t_told_depth, .int t_told_noon, .int t_told_depthBehind])), (q_t_told_kinds, .inl (cI, 5, .inl t_told_kinds)), (q_t_told_beats, .inl (cI, 5, .inl t_told_beats))] sz) := by
  refine MetI (cc := cX1_dropOf) (maxL := 3) (by decide) rfl (Nat.le_of_ble_eq_true rfl) (fun _ h => h) ?_
  intro p e s m args below meth c A Q ls hx CF hK hA hD hP hS hl hB hAe hsz hret
  have hb := CF.2.1
  have hml := CF.2.2.1
  have hown := CF.2.2.2.1
  have hts := CF.2.2.2.2
  have hD0 := hD
  replace hl : lv_has ls 3 [(0, .ref q_t), (1, .int x1)] := hl
  have hinX1 : ∀ w ∈ wsX10, w ∈ wsX1_dropOf := fun _ h => List.mem_cons_of_mem _ (List.mem_append_left _ (List.mem_append_left _ (List.mem_append_right _ h)))
  have hinX6 : ∀ w ∈ wsX60, w ∈ wsX1_dropOf := fun _ h => List.mem_cons_of_mem _ (List.mem_append_left _ (List.mem_append_right _ h))
  have hinX3 : ∀ w ∈ wsX30, w ∈ wsX1_dropOf := fun _ h => List.mem_cons_of_mem _ (List.mem_append_right _ h)
  have w_0 := hts (.fieldLink RX1 19 "PassInStep$Foresight" "trial" "LPassInStep$Yard;") (by decide +kernel)
  have w_1 := hts (.fieldLink RX1 15 "PassInStep$Foresight" "now" "LPassInStep$Yard;") (by decide +kernel)
  have h_13 : ∀ (x1 : Int32) (t_trial_line : Nat → Int32) (t_trial_strides : Nat → Int32) (t_trial_strains : Nat → Int32) (fu13 : Nat) (x2 : Int32) (t_trial_down : Int32) (t_trial_steps : Int32) (H : Heap) (locs : List Loc) (ls : Array Slot), va_P (dC, dI) vwCl [(q_t, .inr (1, [.ref q_t_told, .ref q_t_now, .ref q_t_trial])), (q_t_trial, .inr (6, [.ref q_t_told, .ref q_t_trial_line, .ref q_t_trial_strides, .ref q_t_trial_strains, .int t_trial_down, .int t_trial_steps])), (q_t_now, .inr (6, [.ref q_t_told, .ref q_t_now_line, .ref q_t_now_strides, .ref q_t_now_strains, .int t_now_down, .int t_now_steps])), (q_t_now_line, .inl (cI, 5, .inl t_now_line)), (q_t_trial_line, .inl (cI, 5, .inl t_trial_line)), (q_t_now_strides, .inl (cI, 5, .inl t_now_strides)), (q_t_trial_strides, .inl (cI, 5, .inl t_trial_strides)), (q_t_now_strains, .inl (cI, 5, .inl t_now_strains)), (q_t_trial_strains, .inl (cI, 5, .inl t_trial_strains)), (q_t_told, .inr (3, [.ref q_t_told_beats, .ref q_t_told_kinds, .int t_told_count, .int t_told_depth, .int t_told_noon, .int t_told_depthBehind])), (q_t_told_kinds, .inl (cI, 5, .inl t_told_kinds)), (q_t_told_beats, .inl (cI, 5, .inl t_told_beats))] H → va_S A s.heap H locs → lv_has ls 3 [(0, .ref q_t), (1, .int x1), (2, .int x2)] → L_X1_dropOf_13 x1 t_trial_line t_trial_strides t_trial_strains t_told_count t_told_depth t_told_noon t_told_depthBehind t_told_kinds t_told_beats fu13 x2 t_trial_down t_trial_steps = some (r_, o_t_trial_down, o_t_trial_steps, o_t_trial_line, o_t_trial_strides, o_t_trial_strains) → W p l e rm_X1_dropOf s m args below meth c H locs 0 0 Q (F0 m 13 ls []) := by
    intro x1 t_trial_line t_trial_strides t_trial_strains fu13
    induction fu13 with
    | zero =>
      intro x2 t_trial_down t_trial_steps H locs ls hP hS hl hf
      rw [L_X1_dropOf_13] at hf
      cases hf
    | succ fu13 ih13 =>
      intro x2 t_trial_down t_trial_steps H locs ls hP hS hl hf
      have hD : va_D A [(q_t, .inr (1, [.ref q_t_told, .ref q_t_now, .ref q_t_trial])), (q_t_trial, .inr (6, [.ref q_t_told, .ref q_t_trial_line, .ref q_t_trial_strides, .ref q_t_trial_strains, .int t_trial_down, .int t_trial_steps])), (q_t_now, .inr (6, [.ref q_t_told, .ref q_t_now_line, .ref q_t_now_strides, .ref q_t_now_strains, .int t_now_down, .int t_now_steps])), (q_t_now_line, .inl (cI, 5, .inl t_now_line)), (q_t_trial_line, .inl (cI, 5, .inl t_trial_line)), (q_t_now_strides, .inl (cI, 5, .inl t_now_strides)), (q_t_trial_strides, .inl (cI, 5, .inl t_trial_strides)), (q_t_now_strains, .inl (cI, 5, .inl t_now_strains)), (q_t_trial_strains, .inl (cI, 5, .inl t_trial_strains)), (q_t_told, .inr (3, [.ref q_t_told_beats, .ref q_t_told_kinds, .int t_told_count, .int t_told_depth, .int t_told_noon, .int t_told_depthBehind])), (q_t_told_kinds, .inl (cI, 5, .inl t_told_kinds)), (q_t_told_beats, .inl (cI, 5, .inl t_told_beats))] := wd hD0 rfl
      rw [L_X1_dropOf_13] at hf
      refine lv_iload_n hx hb dX1_dropOf_13 rfl (lv_at hl 2 rfl) ?_
      refine lv_bipush (v := 20) hx hb dX1_dropOf_14 (by decide) ?_
      refine lv_icmp_gt (tgt := 47) hx hb dX1_dropOf_16 (by decide) (fun hc => ?_) (fun hc => ?_)
      · replace hf := ip hc hf
        refine lv_bipush (v := (-9)) hx hb dX1_dropOf_47 (by decide) ?_
        obtain ⟨e0, hf⟩ := ij2 hf
        obtain ⟨e1, hf⟩ := ijc hf
        obtain ⟨e2, hf⟩ := ijc hf
        obtain ⟨e3, hf⟩ := ijc hf
        obtain ⟨e4, hf⟩ := ijc hf
        have e5 := hf
        refine W.eq (congrArg (fun z => F0 m 49 ls [.int z]) e0) ?_
        exact hret _ _ _ _ (by rw [← e1, ← e2, ← e3, ← e4, ← e5]; exact hP) hS dX1_dropOf_49
      · replace hf := iq hc hf
        refine lv_aload_n hx hb dX1_dropOf_19 rfl (lv_at hl 0 rfl) ?_
        refine va_get (D := (dC, dI)) (ci := 1) (v := .ref q_t_trial) (C := RX1) (T := TX1) (N := 3) hx hb hts hinX1 hown hK.1 hP 0 rfl rfl 2 (by decide) w_0 (fun _ h9 => h9) rfl dX1_dropOf_20 ?_
        refine lv_iload_n hx hb dX1_dropOf_23 rfl (lv_at hl 1 rfl) ?_
        obtain ⟨r1, e3, hf⟩ := bd_ok hf
        refine kVi (As := [.int x1]) CF (cwV 1 hts gX1_dropOf_X6_isDown rfl rfl rfl (by decide +kernel) ⟨Nat.le_of_ble_eq_true rfl, Nat.le_of_ble_eq_true rfl⟩) PU_blind hP hD hS hA (va_recv hK.1 hP (ci := 6) (q0 := 1) rfl rfl) [1] (fun h1 h2 h3 => PU_pre hK h1 A h2 h3) (c_X6_isDown l dC dI cI cZ q_t_trial q_t_told q_t_trial_line q_t_trial_strides q_t_trial_strains _ t_trial_down t_trial_steps x1 r1 e3) rfl rfl rfl rfl hl.1 rfl (Nat.le_of_ble_eq_true rfl) dX1_dropOf_24 ⟨Nat.zero_le _, Nat.zero_le _⟩ (fun H locs hP hS => ?_)
        replace hP : va_P (dC, dI) vwCl [(q_t, .inr (1, [.ref q_t_told, .ref q_t_now, .ref q_t_trial])), (q_t_trial, .inr (6, [.ref q_t_told, .ref q_t_trial_line, .ref q_t_trial_strides, .ref q_t_trial_strains, .int t_trial_down, .int t_trial_steps])), (q_t_now, .inr (6, [.ref q_t_told, .ref q_t_now_line, .ref q_t_now_strides, .ref q_t_now_strains, .int t_now_down, .int t_now_steps])), (q_t_now_line, .inl (cI, 5, .inl t_now_line)), (q_t_trial_line, .inl (cI, 5, .inl t_trial_line)), (q_t_now_strides, .inl (cI, 5, .inl t_now_strides)), (q_t_trial_strides, .inl (cI, 5, .inl t_trial_strides)), (q_t_now_strains, .inl (cI, 5, .inl t_now_strains)), (q_t_trial_strains, .inl (cI, 5, .inl t_trial_strains)), (q_t_told, .inr (3, [.ref q_t_told_beats, .ref q_t_told_kinds, .int t_told_count, .int t_told_depth, .int t_told_noon, .int t_told_depthBehind])), (q_t_told_kinds, .inl (cI, 5, .inl t_told_kinds)), (q_t_told_beats, .inl (cI, 5, .inl t_told_beats))] H := hP
        refine lv_if_eq (tgt := 32) hx hb dX1_dropOf_27 (by decide) (fun hc => ?_) (fun hc => ?_)
        · replace hf := ip hc hf
          refine lv_aload_n hx hb dX1_dropOf_32 rfl (lv_at hl 0 rfl) ?_
          refine va_get (D := (dC, dI)) (ci := 1) (v := .ref q_t_trial) (C := RX1) (T := TX1) (N := 3) hx hb hts hinX1 hown hK.1 hP 0 rfl rfl 2 (by decide) w_0 (fun _ h9 => h9) rfl dX1_dropOf_33 ?_
          refine lv_iconst (v := 0) hx hb dX1_dropOf_36 (by decide) ?_
          obtain ⟨⟨r4, o5, o6⟩, e8, hf⟩ := bd_ok hf
          refine kVi (As := [.int 0]) CF (cwV 1 hts gX1_dropOf_X6_takeStep rfl rfl rfl (by decide +kernel) ⟨Nat.le_of_ble_eq_true rfl, Nat.le_of_ble_eq_true rfl⟩) PU_blind hP hD hS hA (va_recv hK.1 hP (ci := 6) (q0 := 1) rfl rfl) [1, 9, 4, 10, 6, 11] (fun h1 h2 h3 => PU_pre hK h1 A h2 h3) (c_X6_takeStep l dC dI cI cZ q_t_trial q_t_told q_t_trial_line q_t_trial_strides q_t_trial_strains q_t_told_beats q_t_told_kinds _ t_trial_down t_trial_steps t_told_count t_told_depth t_told_noon t_told_depthBehind t_trial_line t_told_kinds t_trial_strides t_told_beats 0 r4 o5 o6 e8) rfl rfl rfl rfl hl.1 rfl (Nat.le_of_ble_eq_true rfl) dX1_dropOf_37 ⟨Nat.zero_le _, Nat.zero_le _⟩ (fun H locs hP hS => ?_)
          replace hP : va_P (dC, dI) vwCl [(q_t, .inr (1, [.ref q_t_told, .ref q_t_now, .ref q_t_trial])), (q_t_trial, .inr (6, [.ref q_t_told, .ref q_t_trial_line, .ref q_t_trial_strides, .ref q_t_trial_strains, .int o5, .int o6])), (q_t_now, .inr (6, [.ref q_t_told, .ref q_t_now_line, .ref q_t_now_strides, .ref q_t_now_strains, .int t_now_down, .int t_now_steps])), (q_t_now_line, .inl (cI, 5, .inl t_now_line)), (q_t_trial_line, .inl (cI, 5, .inl t_trial_line)), (q_t_now_strides, .inl (cI, 5, .inl t_now_strides)), (q_t_trial_strides, .inl (cI, 5, .inl t_trial_strides)), (q_t_now_strains, .inl (cI, 5, .inl t_now_strains)), (q_t_trial_strains, .inl (cI, 5, .inl t_trial_strains)), (q_t_told, .inr (3, [.ref q_t_told_beats, .ref q_t_told_kinds, .int t_told_count, .int t_told_depth, .int t_told_noon, .int t_told_depthBehind])), (q_t_told_kinds, .inl (cI, 5, .inl t_told_kinds)), (q_t_told_beats, .inl (cI, 5, .inl t_told_beats))] H := hP
          replace hD : va_D A [(q_t, .inr (1, [.ref q_t_told, .ref q_t_now, .ref q_t_trial])), (q_t_trial, .inr (6, [.ref q_t_told, .ref q_t_trial_line, .ref q_t_trial_strides, .ref q_t_trial_strains, .int o5, .int o6])), (q_t_now, .inr (6, [.ref q_t_told, .ref q_t_now_line, .ref q_t_now_strides, .ref q_t_now_strains, .int t_now_down, .int t_now_steps])), (q_t_now_line, .inl (cI, 5, .inl t_now_line)), (q_t_trial_line, .inl (cI, 5, .inl t_trial_line)), (q_t_now_strides, .inl (cI, 5, .inl t_now_strides)), (q_t_trial_strides, .inl (cI, 5, .inl t_trial_strides)), (q_t_now_strains, .inl (cI, 5, .inl t_now_strains)), (q_t_trial_strains, .inl (cI, 5, .inl t_trial_strains)), (q_t_told, .inr (3, [.ref q_t_told_beats, .ref q_t_told_kinds, .int t_told_count, .int t_told_depth, .int t_told_noon, .int t_told_depthBehind])), (q_t_told_kinds, .inl (cI, 5, .inl t_told_kinds)), (q_t_told_beats, .inl (cI, 5, .inl t_told_beats))] := wd hD rfl
          refine lv_pop hx hb dX1_dropOf_40 rfl ?_
          refine lv_iinc (v := (x2 + 1)) (lv' := [(2, .int (x2 + 1)), (0, .ref q_t), (1, .int x1)]) hx hb dX1_dropOf_41 hl (k := 2) rfl rfl (by decide) rfl (fun ls hl => ?_)
          refine lv_goto (tgt := 13) hx hb dX1_dropOf_44 (by decide) ?_
          exact ih13 (x2 + 1) o5 o6 _ _ _ hP hS (lv_sub hl [1, 2, 0] rfl) hf
        · replace hf := iq hc hf
          refine lv_iload_n hx hb dX1_dropOf_30 rfl (lv_at hl 2 rfl) ?_
          obtain ⟨e0, hf⟩ := ij2 hf
          obtain ⟨e1, hf⟩ := ijc hf
          obtain ⟨e2, hf⟩ := ijc hf
          obtain ⟨e3, hf⟩ := ijc hf
          obtain ⟨e4, hf⟩ := ijc hf
          have e5 := hf
          refine W.eq (congrArg (fun z => F0 m 31 ls [.int z]) e0) ?_
          exact hret _ _ _ _ (by rw [← e1, ← e2, ← e3, ← e4, ← e5]; exact hP) hS dX1_dropOf_31
  rw [f_X1_dropOf] at hf
  refine lv_aload_n hx hb dX1_dropOf_0 rfl (lv_at hl 0 rfl) ?_
  refine va_get (D := (dC, dI)) (ci := 1) (v := .ref q_t_trial) (C := RX1) (T := TX1) (N := 3) hx hb hts hinX1 hown hK.1 hP 0 rfl rfl 2 (by decide) w_0 (fun _ h9 => h9) rfl dX1_dropOf_1 ?_
  refine lv_aload_n hx hb dX1_dropOf_4 rfl (lv_at hl 0 rfl) ?_
  refine va_get (D := (dC, dI)) (ci := 1) (v := .ref q_t_now) (C := RX1) (T := TX1) (N := 3) hx hb hts hinX1 hown hK.1 hP 0 rfl rfl 1 (by decide) w_1 (fun _ h9 => h9) rfl dX1_dropOf_5 ?_
  obtain ⟨⟨o9, o10, o11, o12, o13⟩, e15, hf⟩ := bd_ok hf
  refine kVv (As := [.ref q_t_now]) CF (cwV 1 hts gX1_dropOf_X6_copyFrom rfl rfl rfl (by decide +kernel) ⟨Nat.le_of_ble_eq_true rfl, Nat.le_of_ble_eq_true rfl⟩) PU_blind hP hD hS hA (va_recv hK.1 hP (ci := 6) (q0 := 1) rfl rfl) [1, 2, 3, 4, 5, 6, 7, 8] (fun h1 h2 h3 => PU_pre hK h1 A h2 h3) (c_X6_copyFrom l dC dI cI cZ q_t_trial q_t_told q_t_trial_line q_t_trial_strides q_t_trial_strains q_t_now q_t_told q_t_now_line q_t_now_strides q_t_now_strains _ t_trial_down t_trial_steps t_now_down t_now_steps t_now_line t_trial_line t_now_strides t_trial_strides t_now_strains t_trial_strains o9 o10 o11 o12 o13 e15) rfl rfl rfl rfl hl.1 rfl (Nat.le_of_ble_eq_true rfl) dX1_dropOf_8 ⟨Nat.zero_le _, Nat.zero_le _⟩ (fun H locs hP hS => ?_)
  replace hP : va_P (dC, dI) vwCl [(q_t, .inr (1, [.ref q_t_told, .ref q_t_now, .ref q_t_trial])), (q_t_trial, .inr (6, [.ref q_t_told, .ref q_t_trial_line, .ref q_t_trial_strides, .ref q_t_trial_strains, .int o9, .int o10])), (q_t_now, .inr (6, [.ref q_t_told, .ref q_t_now_line, .ref q_t_now_strides, .ref q_t_now_strains, .int t_now_down, .int t_now_steps])), (q_t_now_line, .inl (cI, 5, .inl t_now_line)), (q_t_trial_line, .inl (cI, 5, .inl o11)), (q_t_now_strides, .inl (cI, 5, .inl t_now_strides)), (q_t_trial_strides, .inl (cI, 5, .inl o12)), (q_t_now_strains, .inl (cI, 5, .inl t_now_strains)), (q_t_trial_strains, .inl (cI, 5, .inl o13)), (q_t_told, .inr (3, [.ref q_t_told_beats, .ref q_t_told_kinds, .int t_told_count, .int t_told_depth, .int t_told_noon, .int t_told_depthBehind])), (q_t_told_kinds, .inl (cI, 5, .inl t_told_kinds)), (q_t_told_beats, .inl (cI, 5, .inl t_told_beats))] H := hP
  replace hD : va_D A [(q_t, .inr (1, [.ref q_t_told, .ref q_t_now, .ref q_t_trial])), (q_t_trial, .inr (6, [.ref q_t_told, .ref q_t_trial_line, .ref q_t_trial_strides, .ref q_t_trial_strains, .int o9, .int o10])), (q_t_now, .inr (6, [.ref q_t_told, .ref q_t_now_line, .ref q_t_now_strides, .ref q_t_now_strains, .int t_now_down, .int t_now_steps])), (q_t_now_line, .inl (cI, 5, .inl t_now_line)), (q_t_trial_line, .inl (cI, 5, .inl o11)), (q_t_now_strides, .inl (cI, 5, .inl t_now_strides)), (q_t_trial_strides, .inl (cI, 5, .inl o12)), (q_t_now_strains, .inl (cI, 5, .inl t_now_strains)), (q_t_trial_strains, .inl (cI, 5, .inl o13)), (q_t_told, .inr (3, [.ref q_t_told_beats, .ref q_t_told_kinds, .int t_told_count, .int t_told_depth, .int t_told_noon, .int t_told_depthBehind])), (q_t_told_kinds, .inl (cI, 5, .inl t_told_kinds)), (q_t_told_beats, .inl (cI, 5, .inl t_told_beats))] := wd hD rfl
  refine lv_iconst (v := 0) hx hb dX1_dropOf_11 (by decide) ?_
  refine lv_istore_n (lv' := [(2, .int 0), (0, .ref q_t), (1, .int x1)]) hx hb dX1_dropOf_12 rfl hl (by decide) rfl (fun ls hl => ?_)
  exact h_13 x1 o11 o12 o13 fuelC 0 o9 o10 _ _ _ hP hS (lv_sub hl [1, 2, 0] rfl) hf
