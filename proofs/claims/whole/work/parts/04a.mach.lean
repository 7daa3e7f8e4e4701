-- X7_at X7_at_st X7_put X6_copyFrom X6_strideOf X6_setStride X3_snowAt X3_size X6_walkerAt X6_isDown X3_kindOf X3_beatOf X7_treadAlone X6_treadBehind X7_isBetween X6_takeStep
abbrev rm_X7_at : Room := { frames := 0, cells := 0, slots := 0, locals := 0 }
set_option maxHeartbeats 4000000 in
set_option maxRecDepth 100000 in
theorem c_X7_at (l : Launch) (dC : Nat → ClassId) (dI : Nat → Nat → Nat) (cI cZ : ClassId) (q_a0 : Nat) (sz : Nat) (a0 : Nat → Int32) (n_a0 : Nat) (x1 : Int32) (r_ : Int32) (hf : f_X7_at x1 n_a0 a0 = some r_) : Met l yX7_at wsX7_at rm_X7_at (va_Pc [.ref q_a0, .int x1] (PU (dC, dI) cI cZ [(q_a0, .inl (cI, n_a0, .inl a0))] sz)) (va_Qi (fun (r : Int32) (_ : Unit) => r = r_) (fun _ t => va_P (dC, dI) vwCl [(q_a0, .inl (cI, n_a0, .inl a0))] t.heap) (va_A [(q_a0, .inl (cI, n_a0, .inl a0))] sz)) 0 0 (va_A [(q_a0, .inl (cI, n_a0, .inl a0))] sz) := by
  refine MetI (cc := cX7_at) (maxL := 2) (by decide) rfl (Nat.le_of_ble_eq_true rfl) (fun _ h => h) ?_
  intro p e s m args below meth c A Q ls hx CF hK hA hD hP hS hl hB hAe hsz hret
  have hb := CF.2.1
  have hml := CF.2.2.1
  have hown := CF.2.2.2.1
  have hts := CF.2.2.2.2
  have hD0 := hD
  replace hl : lv_has ls 2 [(0, .ref q_a0), (1, .int x1)] := hl
  have h_16 : ∀ (H : Heap) (locs : List Loc) (ls : Array Slot), va_P (dC, dI) vwCl [(q_a0, .inl (cI, n_a0, .inl a0))] H → va_S A s.heap H locs → lv_has ls 2 [] → J_X7_at_16 = some r_ → W p l e rm_X7_at s m args below meth c H locs 0 0 Q (F0 m 16 ls []) := by
    intro  H locs ls hP hS hl hf
    have hD : va_D A [(q_a0, .inl (cI, n_a0, .inl a0))] := wd hD0 rfl
    rw [J_X7_at_16] at hf
    refine lv_iconst (v := 0) hx hb dX7_at_16 (by decide) ?_
    have e0 := ij1 hf
    refine W.eq (congrArg (fun z => F0 m 17 ls [.int z]) e0) ?_
    exact hret _ _ _ _ hP hS dX7_at_17
  rw [f_X7_at] at hf
  refine lv_iload_n hx hb dX7_at_0 rfl (lv_at hl 1 rfl) ?_
  refine lv_if_lt (tgt := 16) hx hb dX7_at_1 (by decide) (fun hc => ?_) (fun hc => ?_)
  · replace hf := ip hc hf
    exact h_16 _ _ _ hP hS (lv_sub hl [] rfl) hf
  · replace hf := iq hc hf
    refine lv_iload_n hx hb dX7_at_4 rfl (lv_at hl 1 rfl) ?_
    refine lv_aload_n hx hb dX7_at_5 rfl (lv_at hl 0 rfl) ?_
    refine va_alen hx hb hK.1 hP 0 0 rfl rfl rfl dX7_at_6 ?_
    refine lv_icmp_ge (tgt := 16) hx hb dX7_at_7 (by decide) (fun hc => ?_) (fun hc => ?_)
    · replace hf := ip hc hf
      exact h_16 _ _ _ hP hS (lv_sub hl [] rfl) hf
    · replace hf := iq hc hf
      refine lv_aload_n hx hb dX7_at_10 rfl (lv_at hl 0 rfl) ?_
      refine lv_iload_n hx hb dX7_at_11 rfl (lv_at hl 1 rfl) ?_
      refine kald hx hb hK.1 hP 0 0 rfl rfl dX7_at_12 hf (fun v1 hf => ?_)
      refine lv_goto (tgt := 17) hx hb dX7_at_13 (by decide) ?_
      have e0 := ij1 hf
      refine W.eq (congrArg (fun z => F0 m 17 ls [.int z]) e0) ?_
      exact hret _ _ _ _ hP hS dX7_at_17
abbrev rm_X7_at_st : Room := { frames := 0, cells := 0, slots := 0, locals := 0 }
set_option maxHeartbeats 4000000 in
set_option maxRecDepth 100000 in
theorem c_X7_at_st (l : Launch) (dC : Nat → ClassId) (dI : Nat → Nat → Nat) (cI cZ : ClassId) (tF : Nat) (sz : Nat) (x1 : Int32) (r_ : Int32) (hf : f_X7_at x1 6 fF = some r_) : Met l yX7_at wsX7_at rm_X7_at_st (va_Pc [.ref tF, .int x1] (PUS (dC, dI) cI cZ tF [] sz)) (va_Qi (fun (r : Int32) (_ : Unit) => r = r_) (fun _ t => va_P (dC, dI) vwCl [] t.heap) (va_A [] sz)) 0 0 (va_A [] sz) := by
  refine MetI (cc := cX7_at) (maxL := 2) (by decide) rfl (Nat.le_of_ble_eq_true rfl) (fun _ h => h.1) ?_
  intro p e s m args below meth c A Q ls hx CF hK hA hD hP hS hl hB hAe hsz hret
  have hb := CF.2.1
  have hml := CF.2.2.1
  have hown := CF.2.2.2.1
  have hts := CF.2.2.2.2
  have hD0 := hD
  replace hl : lv_has ls 2 [(0, .ref tF), (1, .int x1)] := hl
  have hFS : FS tF A s := by rw [hAe]; exact hB.2
  have hSt := hFS
  have h_16 : ∀ (H : Heap) (locs : List Loc) (ls : Array Slot), va_P (dC, dI) vwCl [] H → va_S A s.heap H locs → lv_has ls 2 [] → J_X7_at_16 = some r_ → W p l e rm_X7_at_st s m args below meth c H locs 0 0 Q (F0 m 16 ls []) := by
    intro  H locs ls hP hS hl hf
    have hD : va_D A [] := wd hD0 rfl
    rw [J_X7_at_16] at hf
    refine lv_iconst (v := 0) hx hb dX7_at_16 (by decide) ?_
    have e0 := ij1 hf
    refine W.eq (congrArg (fun z => F0 m 17 ls [.int z]) e0) ?_
    exact hret _ _ _ _ hP hS dX7_at_17
  rw [f_X7_at] at hf
  refine lv_iload_n hx hb dX7_at_0 rfl (lv_at hl 1 rfl) ?_
  refine lv_if_lt (tgt := 16) hx hb dX7_at_1 (by decide) (fun hc => ?_) (fun hc => ?_)
  · replace hf := ip hc hf
    exact h_16 _ _ _ hP hS (lv_sub hl [] rfl) hf
  · replace hf := iq hc hf
    refine lv_iload_n hx hb dX7_at_4 rfl (lv_at hl 1 rfl) ?_
    refine lv_aload_n hx hb dX7_at_5 rfl (lv_at hl 0 rfl) ?_
    refine va_tlen hx hb hSt.2 hS rfl dX7_at_6 ?_
    refine lv_icmp_ge (tgt := 16) hx hb dX7_at_7 (by decide) (fun hc => ?_) (fun hc => ?_)
    · replace hf := ip hc hf
      exact h_16 _ _ _ hP hS (lv_sub hl [] rfl) hf
    · replace hf := iq hc hf
      refine lv_aload_n hx hb dX7_at_10 rfl (lv_at hl 0 rfl) ?_
      refine lv_iload_n hx hb dX7_at_11 rfl (lv_at hl 1 rfl) ?_
      refine kald_st hx hb hSt hS dX7_at_12 hf (fun v1 hf => ?_)
      refine lv_goto (tgt := 17) hx hb dX7_at_13 (by decide) ?_
      have e0 := ij1 hf
      refine W.eq (congrArg (fun z => F0 m 17 ls [.int z]) e0) ?_
      exact hret _ _ _ _ hP hS dX7_at_17
abbrev rm_X7_put : Room := { frames := 0, cells := 0, slots := 0, locals := 0 }
set_option maxHeartbeats 4000000 in
set_option maxRecDepth 100000 in
theorem c_X7_put (l : Launch) (dC : Nat → ClassId) (dI : Nat → Nat → Nat) (cI cZ : ClassId) (q_a0 : Nat) (sz : Nat) (a0 : Nat → Int32) (n_a0 : Nat) (x1 : Int32) (x2 : Int32) (o_a0 : Nat → Int32) (hf : f_X7_put x1 x2 n_a0 a0 = some o_a0) : Met l yX7_put wsX7_put rm_X7_put (va_Pc [.ref q_a0, .int x1, .int x2] (PU (dC, dI) cI cZ [(q_a0, .inl (cI, n_a0, .inl a0))] sz)) (va_Qv (fun (_ : Unit) => True) (fun _ t => va_P (dC, dI) vwCl [(q_a0, .inl (cI, n_a0, .inl o_a0))] t.heap) (va_A [(q_a0, .inl (cI, n_a0, .inl a0))] sz)) 0 0 (va_A [(q_a0, .inl (cI, n_a0, .inl a0))] sz) := by
  refine MetV (cc := cX7_put) (maxL := 3) (by decide) rfl (Nat.le_of_ble_eq_true rfl) (fun _ h => h) ?_
  intro p e s m args below meth c A Q ls hx CF hK hA hD hP hS hl hB hAe hsz hret
  have hb := CF.2.1
  have hml := CF.2.2.1
  have hown := CF.2.2.2.1
  have hts := CF.2.2.2.2
  have hD0 := hD
  replace hl : lv_has ls 3 [(0, .ref q_a0), (1, .int x1), (2, .int x2)] := hl
  rw [f_X7_put] at hf
  refine lv_iload_n hx hb dX7_put_0 rfl (lv_at hl 1 rfl) ?_
  refine lv_if_lt (tgt := 14) hx hb dX7_put_1 (by decide) (fun hc => ?_) (fun hc => ?_)
  · replace hf := ip hc hf
    have e0 := ij1 hf
    exact hret _ _ _ _ (by rw [← e0]; exact hP) hS dX7_put_14
  · replace hf := iq hc hf
    refine lv_iload_n hx hb dX7_put_4 rfl (lv_at hl 1 rfl) ?_
    refine lv_aload_n hx hb dX7_put_5 rfl (lv_at hl 0 rfl) ?_
    refine va_alen hx hb hK.1 hP 0 0 rfl rfl rfl dX7_put_6 ?_
    refine lv_icmp_ge (tgt := 14) hx hb dX7_put_7 (by decide) (fun hc => ?_) (fun hc => ?_)
    · replace hf := ip hc hf
      have e0 := ij1 hf
      exact hret _ _ _ _ (by rw [← e0]; exact hP) hS dX7_put_14
    · replace hf := iq hc hf
      refine lv_aload_n hx hb dX7_put_10 rfl (lv_at hl 0 rfl) ?_
      refine lv_iload_n hx hb dX7_put_11 rfl (lv_at hl 1 rfl) ?_
      refine lv_iload_n hx hb dX7_put_12 rfl (lv_at hl 2 rfl) ?_
      refine kast hx hb hK.1 hP hD hS 0 0 rfl rfl dX7_put_13 hf (fun w1 H locs hP hD hS hf => ?_)
      replace hP : va_P (dC, dI) vwCl [(q_a0, .inl (cI, n_a0, .inl w1))] H := hP
      replace hD : va_D A [(q_a0, .inl (cI, n_a0, .inl w1))] := hD
      have e0 := ij1 hf
      exact hret _ _ _ _ (by rw [← e0]; exact hP) hS dX7_put_14
abbrev rm_X6_copyFrom : Room := { frames := 1, cells := 0, slots := 0, locals := 22 }
set_option maxHeartbeats 4000000 in
set_option maxRecDepth 100000 in
theorem c_X6_copyFrom (l : Launch) (dC : Nat → ClassId) (dI : Nat → Nat → Nat) (cI cZ : ClassId) (q_t q_t_told q_t_line q_t_strides q_t_strains q_a1 q_a1_told q_a1_line q_a1_strides q_a1_strains : Nat) (sz : Nat) (t_down : Int32) (t_steps : Int32) (a1_down : Int32) (a1_steps : Int32) (a1_line : Nat → Int32) (t_line : Nat → Int32) (a1_strides : Nat → Int32) (t_strides : Nat → Int32) (a1_strains : Nat → Int32) (t_strains : Nat → Int32) (o_t_down : Int32) (o_t_steps : Int32) (o_t_line : Nat → Int32) (o_t_strides : Nat → Int32) (o_t_strains : Nat → Int32) (hf : f_X6_copyFrom t_down t_steps a1_down a1_steps a1_line t_line a1_strides t_strides a1_strains t_strains = some (o_t_down, o_t_steps, o_t_line, o_t_strides, o_t_strains)) : Met l yX6_copyFrom wsX6_copyFrom rm_X6_copyFrom (va_Pc [.ref q_t, .ref q_a1] (PU (dC, dI) cI cZ [(q_t, .inr (6, [.ref q_t_told, .ref q_t_line, .ref q_t_strides, .ref q_t_strains, .int t_down, .int t_steps])), (q_a1, .inr (6, [.ref q_a1_told, .ref q_a1_line, .ref q_a1_strides, .ref q_a1_strains, .int a1_down, .int a1_steps])), (q_a1_line, .inl (cI, 5, .inl a1_line)), (q_t_line, .inl (cI, 5, .inl t_line)), (q_a1_strides, .inl (cI, 5, .inl a1_strides)), (q_t_strides, .inl (cI, 5, .inl t_strides)), (q_a1_strains, .inl (cI, 5, .inl a1_strains)), (q_t_strains, .inl (cI, 5, .inl t_strains))] sz)) (va_Qv (fun (_ : Unit) => True) (fun _ t => va_P (dC, dI) vwCl [(q_t, .inr (6, [.ref q_t_told, .ref q_t_line, .ref q_t_strides, .ref q_t_strains, .int o_t_down, .int o_t_steps])), (q_a1, .inr (6, [.ref q_a1_told, .ref q_a1_line, .ref q_a1_strides, .ref q_a1_strains, .int a1_down, .int a1_steps])), (q_a1_line, .inl (cI, 5, .inl a1_line)), (q_t_line, .inl (cI, 5, .inl o_t_line)), (q_a1_strides, .inl (cI, 5, .inl a1_strides)), (q_t_strides, .inl (cI, 5, .inl o_t_strides)), (q_a1_strains, .inl (cI, 5, .inl a1_strains)), (q_t_strains, .inl (cI, 5, .inl o_t_strains))] t.heap) (va_A [(q_t, .inr (6, [.ref q_t_told, .ref q_t_line, .ref q_t_strides, .ref q_t_strains, .int t_down, .int t_steps])), (q_a1, .inr (6, [.ref q_a1_told, .ref q_a1_line, .ref q_a1_strides, .ref q_a1_strains, .int a1_down, .int a1_steps])), (q_a1_line, .inl (cI, 5, .inl a1_line)), (q_t_line, .inl (cI, 5, .inl t_line)), (q_a1_strides, .inl (cI, 5, .inl a1_strides)), (q_t_strides, .inl (cI, 5, .inl t_strides)), (q_a1_strains, .inl (cI, 5, .inl a1_strains)), (q_t_strains, .inl (cI, 5, .inl t_strains))] sz)) 0 0 (va_A [(q_t, .inr (6, [.ref q_t_told, .ref q_t_line, .ref q_t_strides, .ref q_t_strains, .int t_down, .int t_steps])), (q_a1, .inr (6, [.ref q_a1_told, .ref q_a1_line, .ref q_a1_strides, .ref q_a1_strains, .int a1_down, .int a1_steps])), (q_a1_line, .inl (cI, 5, .inl a1_line)), (q_t_line, .inl (cI, 5, .inl t_line)), (q_a1_strides, .inl (cI, 5, .inl a1_strides)), (q_t_strides, .inl (cI, 5, .inl t_strides)), (q_a1_strains, .inl (cI, 5, .inl a1_strains)), (q_t_strains, .inl (cI, 5, .inl t_strains))] sz) := by
  refine MetV (cc := cX6_copyFrom) (maxL := 3) (by decide) rfl (Nat.le_of_ble_eq_true rfl) (fun _ h => h) ?_
  intro p e s m args below meth c A Q ls hx CF hK hA hD hP hS hl hB hAe hsz hret
  have hb := CF.2.1
  have hml := CF.2.2.1
  have hown := CF.2.2.2.1
  have hts := CF.2.2.2.2
  have hD0 := hD
  replace hl : lv_has ls 3 [(0, .ref q_t), (1, .ref q_a1)] := hl
  have hinX6 : ∀ w ∈ wsX60, w ∈ wsX6_copyFrom := fun _ h => List.mem_cons_of_mem _ (List.mem_append_right _ h)
  have w_0 := hts (.fieldLink RX6 41 "PassInStep$Yard" "down" "I") (by decide +kernel)
  have w_1 := hts (.fieldLink RX6 45 "PassInStep$Yard" "steps" "I") (by decide +kernel)
  have w_2 := hts (.fieldLink RX6 9 "PassInStep$Yard" "line" "[I") (by decide +kernel)
  have w_3 := hts (.initialized RX7) (by decide +kernel)
  have w_4 := hts (.static yX7_at) (by decide +kernel)
  have w_5 := hts (.static yX7_put) (by decide +kernel)
  have w_6 := hts (.fieldLink RX6 15 "PassInStep$Yard" "strides" "[I") (by decide +kernel)
  have w_7 := hts (.fieldLink RX6 18 "PassInStep$Yard" "strains" "[I") (by decide +kernel)
  have h_2 : ∀ (t_down : Int32) (t_steps : Int32) (fu2 : Nat) (x2 : Int32) (t_line : Nat → Int32) (t_strides : Nat → Int32) (t_strains : Nat → Int32) (H : Heap) (locs : List Loc) (ls : Array Slot), va_P (dC, dI) vwCl [(q_t, .inr (6, [.ref q_t_told, .ref q_t_line, .ref q_t_strides, .ref q_t_strains, .int t_down, .int t_steps])), (q_a1, .inr (6, [.ref q_a1_told, .ref q_a1_line, .ref q_a1_strides, .ref q_a1_strains, .int a1_down, .int a1_steps])), (q_a1_line, .inl (cI, 5, .inl a1_line)), (q_t_line, .inl (cI, 5, .inl t_line)), (q_a1_strides, .inl (cI, 5, .inl a1_strides)), (q_t_strides, .inl (cI, 5, .inl t_strides)), (q_a1_strains, .inl (cI, 5, .inl a1_strains)), (q_t_strains, .inl (cI, 5, .inl t_strains))] H → va_S A s.heap H locs → lv_has ls 3 [(0, .ref q_t), (1, .ref q_a1), (2, .int x2)] → L_X6_copyFrom_2 t_down t_steps a1_down a1_steps a1_line a1_strides a1_strains fu2 x2 t_line t_strides t_strains = some (o_t_down, o_t_steps, o_t_line, o_t_strides, o_t_strains) → W p l e rm_X6_copyFrom s m args below meth c H locs 0 0 Q (F0 m 2 ls []) := by
    intro t_down t_steps fu2
    induction fu2 with
    | zero =>
      intro x2 t_line t_strides t_strains H locs ls hP hS hl hf
      rw [L_X6_copyFrom_2] at hf
      cases hf
    | succ fu2 ih2 =>
      intro x2 t_line t_strides t_strains H locs ls hP hS hl hf
      have hD : va_D A [(q_t, .inr (6, [.ref q_t_told, .ref q_t_line, .ref q_t_strides, .ref q_t_strains, .int t_down, .int t_steps])), (q_a1, .inr (6, [.ref q_a1_told, .ref q_a1_line, .ref q_a1_strides, .ref q_a1_strains, .int a1_down, .int a1_steps])), (q_a1_line, .inl (cI, 5, .inl a1_line)), (q_t_line, .inl (cI, 5, .inl t_line)), (q_a1_strides, .inl (cI, 5, .inl a1_strides)), (q_t_strides, .inl (cI, 5, .inl t_strides)), (q_a1_strains, .inl (cI, 5, .inl a1_strains)), (q_t_strains, .inl (cI, 5, .inl t_strains))] := wd hD0 rfl
      rw [L_X6_copyFrom_2] at hf
      refine lv_iload_n hx hb dX6_copyFrom_2 rfl (lv_at hl 2 rfl) ?_
      refine lv_iconst (v := 5) hx hb dX6_copyFrom_3 (by decide) ?_
      refine lv_icmp_ge (tgt := 61) hx hb dX6_copyFrom_4 (by decide) (fun hc => ?_) (fun hc => ?_)
      · replace hf := ip hc hf
        refine lv_aload_n hx hb dX6_copyFrom_61 rfl (lv_at hl 0 rfl) ?_
        refine lv_aload_n hx hb dX6_copyFrom_62 rfl (lv_at hl 1 rfl) ?_
        refine va_get (D := (dC, dI)) (ci := 6) (v := .int a1_down) (C := RX6) (T := TX6) (N := 6) hx hb hts hinX6 hown hK.1 hP 1 rfl rfl 4 (by decide) w_0 (fun _ h9 => h9) rfl dX6_copyFrom_63 ?_
        refine va_put (D := (dC, dI)) (ci := 6) (v := .int a1_down) (ty := .int) (C := RX6) (T := TX6) (N := 6) hx hb hts hinX6 tyX6 tyX6_ok nmX6 hown hK.1 hP hD hS 0 rfl rfl 4 (by decide) w_0 (fun _ h9 => h9) rfl (by decide +kernel) rfl rfl (Nat.le_of_ble_eq_true rfl) dX6_copyFrom_66 (fun H locs hP hD hS => ?_)
        replace hP : va_P (dC, dI) vwCl [(q_t, .inr (6, [.ref q_t_told, .ref q_t_line, .ref q_t_strides, .ref q_t_strains, .int a1_down, .int t_steps])), (q_a1, .inr (6, [.ref q_a1_told, .ref q_a1_line, .ref q_a1_strides, .ref q_a1_strains, .int a1_down, .int a1_steps])), (q_a1_line, .inl (cI, 5, .inl a1_line)), (q_t_line, .inl (cI, 5, .inl t_line)), (q_a1_strides, .inl (cI, 5, .inl a1_strides)), (q_t_strides, .inl (cI, 5, .inl t_strides)), (q_a1_strains, .inl (cI, 5, .inl a1_strains)), (q_t_strains, .inl (cI, 5, .inl t_strains))] H := hP
        replace hD : va_D A [(q_t, .inr (6, [.ref q_t_told, .ref q_t_line, .ref q_t_strides, .ref q_t_strains, .int a1_down, .int t_steps])), (q_a1, .inr (6, [.ref q_a1_told, .ref q_a1_line, .ref q_a1_strides, .ref q_a1_strains, .int a1_down, .int a1_steps])), (q_a1_line, .inl (cI, 5, .inl a1_line)), (q_t_line, .inl (cI, 5, .inl t_line)), (q_a1_strides, .inl (cI, 5, .inl a1_strides)), (q_t_strides, .inl (cI, 5, .inl t_strides)), (q_a1_strains, .inl (cI, 5, .inl a1_strains)), (q_t_strains, .inl (cI, 5, .inl t_strains))] := hD
        refine lv_aload_n hx hb dX6_copyFrom_69 rfl (lv_at hl 0 rfl) ?_
        refine lv_aload_n hx hb dX6_copyFrom_70 rfl (lv_at hl 1 rfl) ?_
        refine va_get (D := (dC, dI)) (ci := 6) (v := .int a1_steps) (C := RX6) (T := TX6) (N := 6) hx hb hts hinX6 hown hK.1 hP 1 rfl rfl 5 (by decide) w_1 (fun _ h9 => h9) rfl dX6_copyFrom_71 ?_
        refine va_put (D := (dC, dI)) (ci := 6) (v := .int a1_steps) (ty := .int) (C := RX6) (T := TX6) (N := 6) hx hb hts hinX6 tyX6 tyX6_ok nmX6 hown hK.1 hP hD hS 0 rfl rfl 5 (by decide) w_1 (fun _ h9 => h9) rfl (by decide +kernel) rfl rfl (Nat.le_of_ble_eq_true rfl) dX6_copyFrom_74 (fun H locs hP hD hS => ?_)
        replace hP : va_P (dC, dI) vwCl [(q_t, .inr (6, [.ref q_t_told, .ref q_t_line, .ref q_t_strides, .ref q_t_strains, .int a1_down, .int a1_steps])), (q_a1, .inr (6, [.ref q_a1_told, .ref q_a1_line, .ref q_a1_strides, .ref q_a1_strains, .int a1_down, .int a1_steps])), (q_a1_line, .inl (cI, 5, .inl a1_line)), (q_t_line, .inl (cI, 5, .inl t_line)), (q_a1_strides, .inl (cI, 5, .inl a1_strides)), (q_t_strides, .inl (cI, 5, .inl t_strides)), (q_a1_strains, .inl (cI, 5, .inl a1_strains)), (q_t_strains, .inl (cI, 5, .inl t_strains))] H := hP
        replace hD : va_D A [(q_t, .inr (6, [.ref q_t_told, .ref q_t_line, .ref q_t_strides, .ref q_t_strains, .int a1_down, .int a1_steps])), (q_a1, .inr (6, [.ref q_a1_told, .ref q_a1_line, .ref q_a1_strides, .ref q_a1_strains, .int a1_down, .int a1_steps])), (q_a1_line, .inl (cI, 5, .inl a1_line)), (q_t_line, .inl (cI, 5, .inl t_line)), (q_a1_strides, .inl (cI, 5, .inl a1_strides)), (q_t_strides, .inl (cI, 5, .inl t_strides)), (q_a1_strains, .inl (cI, 5, .inl a1_strains)), (q_t_strains, .inl (cI, 5, .inl t_strains))] := hD
        obtain ⟨e0, hf⟩ := ij2 hf
        obtain ⟨e1, hf⟩ := ijc hf
        obtain ⟨e2, hf⟩ := ijc hf
        obtain ⟨e3, hf⟩ := ijc hf
        have e4 := hf
        exact hret _ _ _ _ (by rw [← e0, ← e1, ← e2, ← e3, ← e4]; exact hP) hS dX6_copyFrom_77
      · replace hf := iq hc hf
        refine lv_aload_n hx hb dX6_copyFrom_7 rfl (lv_at hl 0 rfl) ?_
        refine va_get (D := (dC, dI)) (ci := 6) (v := .ref q_t_line) (C := RX6) (T := TX6) (N := 6) hx hb hts hinX6 hown hK.1 hP 0 rfl rfl 1 (by decide) w_2 (fun _ h9 => h9) rfl dX6_copyFrom_8 ?_
        refine lv_iload_n hx hb dX6_copyFrom_11 rfl (lv_at hl 2 rfl) ?_
        refine lv_aload_n hx hb dX6_copyFrom_12 rfl (lv_at hl 1 rfl) ?_
        refine va_get (D := (dC, dI)) (ci := 6) (v := .ref q_a1_line) (C := RX6) (T := TX6) (N := 6) hx hb hts hinX6 hown hK.1 hP 1 rfl rfl 1 (by decide) w_2 (fun _ h9 => h9) rfl dX6_copyFrom_13 ?_
        refine lv_iload_n hx hb dX6_copyFrom_16 rfl (lv_at hl 2 rfl) ?_
        obtain ⟨r1, e3, hf⟩ := bd_ok hf
        refine kNi (As := [.ref q_a1_line, .int x2]) CF ⟨va_cnB 2 hts gX6_copyFrom_X7_at_n48 rfl rfl rfl (nw_X6_48 hK.2) w_3 (by decide +kernel) ⟨Nat.le_of_ble_eq_true rfl, Nat.le_of_ble_eq_true rfl⟩, w_4, trivial⟩ PU_blind hP hD hS hA [2] (fun h1 h2 h3 => PU_pre hK h1 A h2 h3) (c_X7_at l dC dI cI cZ q_a1_line _ a1_line 5 x2 r1 e3) rfl rfl rfl rfl hl.1 rfl (Nat.le_of_ble_eq_true rfl) dX6_copyFrom_17 ⟨Nat.zero_le _, Nat.zero_le _⟩ (fun H locs hP hS => ?_)
        replace hP : va_P (dC, dI) vwCl [(q_t, .inr (6, [.ref q_t_told, .ref q_t_line, .ref q_t_strides, .ref q_t_strains, .int t_down, .int t_steps])), (q_a1, .inr (6, [.ref q_a1_told, .ref q_a1_line, .ref q_a1_strides, .ref q_a1_strains, .int a1_down, .int a1_steps])), (q_a1_line, .inl (cI, 5, .inl a1_line)), (q_t_line, .inl (cI, 5, .inl t_line)), (q_a1_strides, .inl (cI, 5, .inl a1_strides)), (q_t_strides, .inl (cI, 5, .inl t_strides)), (q_a1_strains, .inl (cI, 5, .inl a1_strains)), (q_t_strains, .inl (cI, 5, .inl t_strains))] H := hP
        obtain ⟨o4, e6, hf⟩ := bd_ok hf
        refine kNv (As := [.ref q_t_line, .int x2, .int r1]) CF ⟨va_cnB 3 hts gX6_copyFrom_X7_put_n25 rfl rfl rfl (nw_X6_25 hK.2) w_3 (by decide +kernel) ⟨Nat.le_of_ble_eq_true rfl, Nat.le_of_ble_eq_true rfl⟩, w_5, trivial⟩ PU_blind hP hD hS hA [3] (fun h1 h2 h3 => PU_pre hK h1 A h2 h3) (c_X7_put l dC dI cI cZ q_t_line _ t_line 5 x2 r1 o4 e6) rfl rfl rfl rfl hl.1 rfl (Nat.le_of_ble_eq_true rfl) dX6_copyFrom_20 ⟨Nat.zero_le _, Nat.zero_le _⟩ (fun H locs hP hS => ?_)
        replace hP : va_P (dC, dI) vwCl [(q_t, .inr (6, [.ref q_t_told, .ref q_t_line, .ref q_t_strides, .ref q_t_strains, .int t_down, .int t_steps])), (q_a1, .inr (6, [.ref q_a1_told, .ref q_a1_line, .ref q_a1_strides, .ref q_a1_strains, .int a1_down, .int a1_steps])), (q_a1_line, .inl (cI, 5, .inl a1_line)), (q_t_line, .inl (cI, 5, .inl o4)), (q_a1_strides, .inl (cI, 5, .inl a1_strides)), (q_t_strides, .inl (cI, 5, .inl t_strides)), (q_a1_strains, .inl (cI, 5, .inl a1_strains)), (q_t_strains, .inl (cI, 5, .inl t_strains))] H := hP
        replace hD : va_D A [(q_t, .inr (6, [.ref q_t_told, .ref q_t_line, .ref q_t_strides, .ref q_t_strains, .int t_down, .int t_steps])), (q_a1, .inr (6, [.ref q_a1_told, .ref q_a1_line, .ref q_a1_strides, .ref q_a1_strains, .int a1_down, .int a1_steps])), (q_a1_line, .inl (cI, 5, .inl a1_line)), (q_t_line, .inl (cI, 5, .inl o4)), (q_a1_strides, .inl (cI, 5, .inl a1_strides)), (q_t_strides, .inl (cI, 5, .inl t_strides)), (q_a1_strains, .inl (cI, 5, .inl a1_strains)), (q_t_strains, .inl (cI, 5, .inl t_strains))] := wd hD rfl
        refine lv_aload_n hx hb dX6_copyFrom_23 rfl (lv_at hl 0 rfl) ?_
        refine va_get (D := (dC, dI)) (ci := 6) (v := .ref q_t_strides) (C := RX6) (T := TX6) (N := 6) hx hb hts hinX6 hown hK.1 hP 0 rfl rfl 2 (by decide) w_6 (fun _ h9 => h9) rfl dX6_copyFrom_24 ?_
        refine lv_iload_n hx hb dX6_copyFrom_27 rfl (lv_at hl 2 rfl) ?_
        refine lv_aload_n hx hb dX6_copyFrom_28 rfl (lv_at hl 1 rfl) ?_
        refine va_get (D := (dC, dI)) (ci := 6) (v := .ref q_a1_strides) (C := RX6) (T := TX6) (N := 6) hx hb hts hinX6 hown hK.1 hP 1 rfl rfl 2 (by decide) w_6 (fun _ h9 => h9) rfl dX6_copyFrom_29 ?_
        refine lv_iload_n hx hb dX6_copyFrom_32 rfl (lv_at hl 2 rfl) ?_
        obtain ⟨r7, e9, hf⟩ := bd_ok hf
        refine kNi (As := [.ref q_a1_strides, .int x2]) CF ⟨va_cnB 2 hts gX6_copyFrom_X7_at_n48 rfl rfl rfl (nw_X6_48 hK.2) w_3 (by decide +kernel) ⟨Nat.le_of_ble_eq_true rfl, Nat.le_of_ble_eq_true rfl⟩, w_4, trivial⟩ PU_blind hP hD hS hA [4] (fun h1 h2 h3 => PU_pre hK h1 A h2 h3) (c_X7_at l dC dI cI cZ q_a1_strides _ a1_strides 5 x2 r7 e9) rfl rfl rfl rfl hl.1 rfl (Nat.le_of_ble_eq_true rfl) dX6_copyFrom_33 ⟨Nat.zero_le _, Nat.zero_le _⟩ (fun H locs hP hS => ?_)
        replace hP : va_P (dC, dI) vwCl [(q_t, .inr (6, [.ref q_t_told, .ref q_t_line, .ref q_t_strides, .ref q_t_strains, .int t_down, .int t_steps])), (q_a1, .inr (6, [.ref q_a1_told, .ref q_a1_line, .ref q_a1_strides, .ref q_a1_strains, .int a1_down, .int a1_steps])), (q_a1_line, .inl (cI, 5, .inl a1_line)), (q_t_line, .inl (cI, 5, .inl o4)), (q_a1_strides, .inl (cI, 5, .inl a1_strides)), (q_t_strides, .inl (cI, 5, .inl t_strides)), (q_a1_strains, .inl (cI, 5, .inl a1_strains)), (q_t_strains, .inl (cI, 5, .inl t_strains))] H := hP
        obtain ⟨o10, e12, hf⟩ := bd_ok hf
        refine kNv (As := [.ref q_t_strides, .int x2, .int r7]) CF ⟨va_cnB 3 hts gX6_copyFrom_X7_put_n25 rfl rfl rfl (nw_X6_25 hK.2) w_3 (by decide +kernel) ⟨Nat.le_of_ble_eq_true rfl, Nat.le_of_ble_eq_true rfl⟩, w_5, trivial⟩ PU_blind hP hD hS hA [5] (fun h1 h2 h3 => PU_pre hK h1 A h2 h3) (c_X7_put l dC dI cI cZ q_t_strides _ t_strides 5 x2 r7 o10 e12) rfl rfl rfl rfl hl.1 rfl (Nat.le_of_ble_eq_true rfl) dX6_copyFrom_36 ⟨Nat.zero_le _, Nat.zero_le _⟩ (fun H locs hP hS => ?_)
        replace hP : va_P (dC, dI) vwCl [(q_t, .inr (6, [.ref q_t_told, .ref q_t_line, .ref q_t_strides, .ref q_t_strains, .int t_down, .int t_steps])), (q_a1, .inr (6, [.ref q_a1_told, .ref q_a1_line, .ref q_a1_strides, .ref q_a1_strains, .int a1_down, .int a1_steps])), (q_a1_line, .inl (cI, 5, .inl a1_line)), (q_t_line, .inl (cI, 5, .inl o4)), (q_a1_strides, .inl (cI, 5, .inl a1_strides)), (q_t_strides, .inl (cI, 5, .inl o10)), (q_a1_strains, .inl (cI, 5, .inl a1_strains)), (q_t_strains, .inl (cI, 5, .inl t_strains))] H := hP
        replace hD : va_D A [(q_t, .inr (6, [.ref q_t_told, .ref q_t_line, .ref q_t_strides, .ref q_t_strains, .int t_down, .int t_steps])), (q_a1, .inr (6, [.ref q_a1_told, .ref q_a1_line, .ref q_a1_strides, .ref q_a1_strains, .int a1_down, .int a1_steps])), (q_a1_line, .inl (cI, 5, .inl a1_line)), (q_t_line, .inl (cI, 5, .inl o4)), (q_a1_strides, .inl (cI, 5, .inl a1_strides)), (q_t_strides, .inl (cI, 5, .inl o10)), (q_a1_strains, .inl (cI, 5, .inl a1_strains)), (q_t_strains, .inl (cI, 5, .inl t_strains))] := wd hD rfl
        refine lv_aload_n hx hb dX6_copyFrom_39 rfl (lv_at hl 0 rfl) ?_
        refine va_get (D := (dC, dI)) (ci := 6) (v := .ref q_t_strains) (C := RX6) (T := TX6) (N := 6) hx hb hts hinX6 hown hK.1 hP 0 rfl rfl 3 (by decide) w_7 (fun _ h9 => h9) rfl dX6_copyFrom_40 ?_
        refine lv_iload_n hx hb dX6_copyFrom_43 rfl (lv_at hl 2 rfl) ?_
        refine lv_aload_n hx hb dX6_copyFrom_44 rfl (lv_at hl 1 rfl) ?_
        refine va_get (D := (dC, dI)) (ci := 6) (v := .ref q_a1_strains) (C := RX6) (T := TX6) (N := 6) hx hb hts hinX6 hown hK.1 hP 1 rfl rfl 3 (by decide) w_7 (fun _ h9 => h9) rfl dX6_copyFrom_45 ?_
        refine lv_iload_n hx hb dX6_copyFrom_48 rfl (lv_at hl 2 rfl) ?_
        obtain ⟨r13, e15, hf⟩ := bd_ok hf
        refine kNi (As := [.ref q_a1_strains, .int x2]) CF ⟨va_cnB 2 hts gX6_copyFrom_X7_at_n48 rfl rfl rfl (nw_X6_48 hK.2) w_3 (by decide +kernel) ⟨Nat.le_of_ble_eq_true rfl, Nat.le_of_ble_eq_true rfl⟩, w_4, trivial⟩ PU_blind hP hD hS hA [6] (fun h1 h2 h3 => PU_pre hK h1 A h2 h3) (c_X7_at l dC dI cI cZ q_a1_strains _ a1_strains 5 x2 r13 e15) rfl rfl rfl rfl hl.1 rfl (Nat.le_of_ble_eq_true rfl) dX6_copyFrom_49 ⟨Nat.zero_le _, Nat.zero_le _⟩ (fun H locs hP hS => ?_)
        replace hP : va_P (dC, dI) vwCl [(q_t, .inr (6, [.ref q_t_told, .ref q_t_line, .ref q_t_strides, .ref q_t_strains, .int t_down, .int t_steps])), (q_a1, .inr (6, [.ref q_a1_told, .ref q_a1_line, .ref q_a1_strides, .ref q_a1_strains, .int a1_down, .int a1_steps])), (q_a1_line, .inl (cI, 5, .inl a1_line)), (q_t_line, .inl (cI, 5, .inl o4)), (q_a1_strides, .inl (cI, 5, .inl a1_strides)), (q_t_strides, .inl (cI, 5, .inl o10)), (q_a1_strains, .inl (cI, 5, .inl a1_strains)), (q_t_strains, .inl (cI, 5, .inl t_strains))] H := hP
        obtain ⟨o16, e18, hf⟩ := bd_ok hf
        refine kNv (As := [.ref q_t_strains, .int x2, .int r13]) CF ⟨va_cnB 3 hts gX6_copyFrom_X7_put_n25 rfl rfl rfl (nw_X6_25 hK.2) w_3 (by decide +kernel) ⟨Nat.le_of_ble_eq_true rfl, Nat.le_of_ble_eq_true rfl⟩, w_5, trivial⟩ PU_blind hP hD hS hA [7] (fun h1 h2 h3 => PU_pre hK h1 A h2 h3) (c_X7_put l dC dI cI cZ q_t_strains _ t_strains 5 x2 r13 o16 e18) rfl rfl rfl rfl hl.1 rfl (Nat.le_of_ble_eq_true rfl) dX6_copyFrom_52 ⟨Nat.zero_le _, Nat.zero_le _⟩ (fun H locs hP hS => ?_)
        replace hP : va_P (dC, dI) vwCl [(q_t, .inr (6, [.ref q_t_told, .ref q_t_line, .ref q_t_strides, .ref q_t_strains, .int t_down, .int t_steps])), (q_a1, .inr (6, [.ref q_a1_told, .ref q_a1_line, .ref q_a1_strides, .ref q_a1_strains, .int a1_down, .int a1_steps])), (q_a1_line, .inl (cI, 5, .inl a1_line)), (q_t_line, .inl (cI, 5, .inl o4)), (q_a1_strides, .inl (cI, 5, .inl a1_strides)), (q_t_strides, .inl (cI, 5, .inl o10)), (q_a1_strains, .inl (cI, 5, .inl a1_strains)), (q_t_strains, .inl (cI, 5, .inl o16))] H := hP
        replace hD : va_D A [(q_t, .inr (6, [.ref q_t_told, .ref q_t_line, .ref q_t_strides, .ref q_t_strains, .int t_down, .int t_steps])), (q_a1, .inr (6, [.ref q_a1_told, .ref q_a1_line, .ref q_a1_strides, .ref q_a1_strains, .int a1_down, .int a1_steps])), (q_a1_line, .inl (cI, 5, .inl a1_line)), (q_t_line, .inl (cI, 5, .inl o4)), (q_a1_strides, .inl (cI, 5, .inl a1_strides)), (q_t_strides, .inl (cI, 5, .inl o10)), (q_a1_strains, .inl (cI, 5, .inl a1_strains)), (q_t_strains, .inl (cI, 5, .inl o16))] := wd hD rfl
        refine lv_iinc (v := (x2 + 1)) (lv' := [(2, .int (x2 + 1)), (0, .ref q_t), (1, .ref q_a1)]) hx hb dX6_copyFrom_55 hl (k := 2) rfl rfl (by decide) rfl (fun ls hl => ?_)
        refine lv_goto (tgt := 2) hx hb dX6_copyFrom_58 (by decide) ?_
        exact ih2 (x2 + 1) o4 o10 o16 _ _ _ hP hS (lv_sub hl [1, 2, 0] rfl) hf
  rw [f_X6_copyFrom] at hf
  refine lv_iconst (v := 0) hx hb dX6_copyFrom_0 (by decide) ?_
  refine lv_istore_n (lv' := [(2, .int 0), (0, .ref q_t), (1, .ref q_a1)]) hx hb dX6_copyFrom_1 rfl hl (by decide) rfl (fun ls hl => ?_)
  exact h_2 t_down t_steps fuelC 0 t_line t_strides t_strains _ _ _ hP hS (lv_sub hl [1, 2, 0] rfl) hf
abbrev rm_X6_strideOf : Room := { frames := 1, cells := 0, slots := 0, locals := 21 }
set_option maxHeartbeats 4000000 in
set_option maxRecDepth 100000 in
theorem c_X6_strideOf (l : Launch) (dC : Nat → ClassId) (dI : Nat → Nat → Nat) (cI cZ : ClassId) (q_t q_t_told q_t_line q_t_strides q_t_strains : Nat) (sz : Nat) (t_down : Int32) (t_steps : Int32) (t_strides : Nat → Int32) (x1 : Int32) (r_ : Int32) (hf : f_X6_strideOf x1 t_strides = some r_) : Met l yX6_strideOf wsX6_strideOf rm_X6_strideOf (va_Pc [.ref q_t, .int x1] (PU (dC, dI) cI cZ [(q_t, .inr (6, [.ref q_t_told, .ref q_t_line, .ref q_t_strides, .ref q_t_strains, .int t_down, .int t_steps])), (q_t_strides, .inl (cI, 5, .inl t_strides))] sz)) (va_Qi (fun (r : Int32) (_ : Unit) => r = r_) (fun _ t => va_P (dC, dI) vwCl [(q_t, .inr (6, [.ref q_t_told, .ref q_t_line, .ref q_t_strides, .ref q_t_strains, .int t_down, .int t_steps])), (q_t_strides, .inl (cI, 5, .inl t_strides))] t.heap) (va_A [(q_t, .inr (6, [.ref q_t_told, .ref q_t_line, .ref q_t_strides, .ref q_t_strains, .int t_down, .int t_steps])), (q_t_strides, .inl (cI, 5, .inl t_strides))] sz)) 0 0 (va_A [(q_t, .inr (6, [.ref q_t_told, .ref q_t_line, .ref q_t_strides, .ref q_t_strains, .int t_down, .int t_steps])), (q_t_strides, .inl (cI, 5, .inl t_strides))] sz) := by
  refine MetI (cc := cX6_strideOf) (maxL := 2) (by decide) rfl (Nat.le_of_ble_eq_true rfl) (fun _ h => h) ?_
  intro p e s m args below meth c A Q ls hx CF hK hA hD hP hS hl hB hAe hsz hret
  have hb := CF.2.1
  have hml := CF.2.2.1
  have hown := CF.2.2.2.1
  have hts := CF.2.2.2.2
  have hD0 := hD
  replace hl : lv_has ls 2 [(0, .ref q_t), (1, .int x1)] := hl
  have hinX6 : ∀ w ∈ wsX60, w ∈ wsX6_strideOf := fun _ h => List.mem_cons_of_mem _ (List.mem_append_right _ h)
  have w_0 := hts (.fieldLink RX6 15 "PassInStep$Yard" "strides" "[I") (by decide +kernel)
  have w_1 := hts (.initialized RX7) (by decide +kernel)
  have w_2 := hts (.static yX7_at) (by decide +kernel)
  rw [f_X6_strideOf] at hf
  refine lv_aload_n hx hb dX6_strideOf_0 rfl (lv_at hl 0 rfl) ?_
  refine va_get (D := (dC, dI)) (ci := 6) (v := .ref q_t_strides) (C := RX6) (T := TX6) (N := 6) hx hb hts hinX6 hown hK.1 hP 0 rfl rfl 2 (by decide) w_0 (fun _ h9 => h9) rfl dX6_strideOf_1 ?_
  refine lv_iload_n hx hb dX6_strideOf_4 rfl (lv_at hl 1 rfl) ?_
  obtain ⟨r1, e3, hf⟩ := bd_ok hf
  refine kNi (As := [.ref q_t_strides, .int x1]) CF ⟨va_cnB 2 hts gX6_strideOf_X7_at_n48 rfl rfl rfl (nw_X6_48 hK.2) w_1 (by decide +kernel) ⟨Nat.le_of_ble_eq_true rfl, Nat.le_of_ble_eq_true rfl⟩, w_2, trivial⟩ PU_blind hP hD hS hA [1] (fun h1 h2 h3 => PU_pre hK h1 A h2 h3) (c_X7_at l dC dI cI cZ q_t_strides _ t_strides 5 x1 r1 e3) rfl rfl rfl rfl hl.1 rfl (Nat.le_of_ble_eq_true rfl) dX6_strideOf_5 ⟨Nat.zero_le _, Nat.zero_le _⟩ (fun H locs hP hS => ?_)
  replace hP : va_P (dC, dI) vwCl [(q_t, .inr (6, [.ref q_t_told, .ref q_t_line, .ref q_t_strides, .ref q_t_strains, .int t_down, .int t_steps])), (q_t_strides, .inl (cI, 5, .inl t_strides))] H := hP
  have e0 := ij1 hf
  refine W.eq (congrArg (fun z => F0 m 8 ls [.int z]) e0) ?_
  exact hret _ _ _ _ hP hS dX6_strideOf_8
abbrev rm_X6_setStride : Room := { frames := 1, cells := 0, slots := 0, locals := 22 }
set_option maxHeartbeats 4000000 in
set_option maxRecDepth 100000 in
theorem c_X6_setStride (l : Launch) (dC : Nat → ClassId) (dI : Nat → Nat → Nat) (cI cZ : ClassId) (q_t q_t_told q_t_line q_t_strides q_t_strains : Nat) (sz : Nat) (t_down : Int32) (t_steps : Int32) (t_strides : Nat → Int32) (x1 : Int32) (x2 : Int32) (o_t_strides : Nat → Int32) (hf : f_X6_setStride x1 x2 t_strides = some o_t_strides) : Met l yX6_setStride wsX6_setStride rm_X6_setStride (va_Pc [.ref q_t, .int x1, .int x2] (PU (dC, dI) cI cZ [(q_t, .inr (6, [.ref q_t_told, .ref q_t_line, .ref q_t_strides, .ref q_t_strains, .int t_down, .int t_steps])), (q_t_strides, .inl (cI, 5, .inl t_strides))] sz)) (va_Qv (fun (_ : Unit) => True) (fun _ t => va_P (dC, dI) vwCl [(q_t, .inr (6, [.ref q_t_told, .ref q_t_line, .ref q_t_strides, .ref q_t_strains, .int t_down, .int t_steps])), (q_t_strides, .inl (cI, 5, .inl o_t_strides))] t.heap) (va_A [(q_t, .inr (6, [.ref q_t_told, .ref q_t_line, .ref q_t_strides, .ref q_t_strains, .int t_down, .int t_steps])), (q_t_strides, .inl (cI, 5, .inl t_strides))] sz)) 0 0 (va_A [(q_t, .inr (6, [.ref q_t_told, .ref q_t_line, .ref q_t_strides, .ref q_t_strains, .int t_down, .int t_steps])), (q_t_strides, .inl (cI, 5, .inl t_strides))] sz) := by
  refine MetV (cc := cX6_setStride) (maxL := 3) (by decide) rfl (Nat.le_of_ble_eq_true rfl) (fun _ h => h) ?_
  intro p e s m args below meth c A Q ls hx CF hK hA hD hP hS hl hB hAe hsz hret
  have hb := CF.2.1
  have hml := CF.2.2.1
  have hown := CF.2.2.2.1
  have hts := CF.2.2.2.2
  have hD0 := hD
  replace hl : lv_has ls 3 [(0, .ref q_t), (1, .int x1), (2, .int x2)] := hl
  have hinX6 : ∀ w ∈ wsX60, w ∈ wsX6_setStride := fun _ h => List.mem_cons_of_mem _ (List.mem_append_right _ h)
  have w_0 := hts (.fieldLink RX6 15 "PassInStep$Yard" "strides" "[I") (by decide +kernel)
  have w_1 := hts (.initialized RX7) (by decide +kernel)
  have w_2 := hts (.static yX7_put) (by decide +kernel)
  rw [f_X6_setStride] at hf
  refine lv_aload_n hx hb dX6_setStride_0 rfl (lv_at hl 0 rfl) ?_
  refine va_get (D := (dC, dI)) (ci := 6) (v := .ref q_t_strides) (C := RX6) (T := TX6) (N := 6) hx hb hts hinX6 hown hK.1 hP 0 rfl rfl 2 (by decide) w_0 (fun _ h9 => h9) rfl dX6_setStride_1 ?_
  refine lv_iload_n hx hb dX6_setStride_4 rfl (lv_at hl 1 rfl) ?_
  refine lv_iload_n hx hb dX6_setStride_5 rfl (lv_at hl 2 rfl) ?_
  obtain ⟨o1, e3, hf⟩ := bd_ok hf
  refine kNv (As := [.ref q_t_strides, .int x1, .int x2]) CF ⟨va_cnB 3 hts gX6_setStride_X7_put_n25 rfl rfl rfl (nw_X6_25 hK.2) w_1 (by decide +kernel) ⟨Nat.le_of_ble_eq_true rfl, Nat.le_of_ble_eq_true rfl⟩, w_2, trivial⟩ PU_blind hP hD hS hA [1] (fun h1 h2 h3 => PU_pre hK h1 A h2 h3) (c_X7_put l dC dI cI cZ q_t_strides _ t_strides 5 x1 x2 o1 e3) rfl rfl rfl rfl hl.1 rfl (Nat.le_of_ble_eq_true rfl) dX6_setStride_6 ⟨Nat.zero_le _, Nat.zero_le _⟩ (fun H locs hP hS => ?_)
  replace hP : va_P (dC, dI) vwCl [(q_t, .inr (6, [.ref q_t_told, .ref q_t_line, .ref q_t_strides, .ref q_t_strains, .int t_down, .int t_steps])), (q_t_strides, .inl (cI, 5, .inl o1))] H := hP
  replace hD : va_D A [(q_t, .inr (6, [.ref q_t_told, .ref q_t_line, .ref q_t_strides, .ref q_t_strains, .int t_down, .int t_steps])), (q_t_strides, .inl (cI, 5, .inl o1))] := wd hD rfl
  have e0 := ij1 hf
  exact hret _ _ _ _ (by rw [← e0]; exact hP) hS dX6_setStride_9
abbrev rm_X3_snowAt : Room := { frames := 0, cells := 0, slots := 0, locals := 0 }
set_option maxHeartbeats 4000000 in
set_option maxRecDepth 100000 in
theorem c_X3_snowAt (l : Launch) (dC : Nat → ClassId) (dI : Nat → Nat → Nat) (cI cZ : ClassId) (q_t q_t_beats q_t_kinds : Nat) (sz : Nat) (t_count : Int32) (t_depth : Int32) (t_noon : Int32) (t_depthBehind : Int32) (x1 : Int32) (r_ : Int32) (hf : f_X3_snowAt x1 t_depth t_noon t_depthBehind = some r_) : Met l yX3_snowAt wsX3_snowAt rm_X3_snowAt (va_Pc [.ref q_t, .int x1] (PU (dC, dI) cI cZ [(q_t, .inr (3, [.ref q_t_beats, .ref q_t_kinds, .int t_count, .int t_depth, .int t_noon, .int t_depthBehind]))] sz)) (va_Qi (fun (r : Int32) (_ : Unit) => r = r_) (fun _ t => va_P (dC, dI) vwCl [(q_t, .inr (3, [.ref q_t_beats, .ref q_t_kinds, .int t_count, .int t_depth, .int t_noon, .int t_depthBehind]))] t.heap) (va_A [(q_t, .inr (3, [.ref q_t_beats, .ref q_t_kinds, .int t_count, .int t_depth, .int t_noon, .int t_depthBehind]))] sz)) 0 0 (va_A [(q_t, .inr (3, [.ref q_t_beats, .ref q_t_kinds, .int t_count, .int t_depth, .int t_noon, .int t_depthBehind]))] sz) := by
  refine MetI (cc := cX3_snowAt) (maxL := 2) (by decide) rfl (Nat.le_of_ble_eq_true rfl) (fun _ h => h) ?_
  intro p e s m args below meth c A Q ls hx CF hK hA hD hP hS hl hB hAe hsz hret
  have hb := CF.2.1
  have hml := CF.2.2.1
  have hown := CF.2.2.2.1
  have hts := CF.2.2.2.2
  have hD0 := hD
  replace hl : lv_has ls 2 [(0, .ref q_t), (1, .int x1)] := hl
  have hinX3 : ∀ w ∈ wsX30, w ∈ wsX3_snowAt := fun _ h => List.mem_cons_of_mem _ (List.mem_append_right _ h)
  have w_0 := hts (.fieldLink RX3 31 "PassInStep$Party" "noon" "I") (by decide +kernel)
  have w_1 := hts (.fieldLink RX3 18 "PassInStep$Party" "depth" "I") (by decide +kernel)
  have w_2 := hts (.fieldLink RX3 22 "PassInStep$Party" "depthBehind" "I") (by decide +kernel)
  rw [f_X3_snowAt] at hf
  refine lv_iload_n hx hb dX3_snowAt_0 rfl (lv_at hl 1 rfl) ?_
  refine lv_aload_n hx hb dX3_snowAt_1 rfl (lv_at hl 0 rfl) ?_
  refine va_get (D := (dC, dI)) (ci := 3) (v := .int t_noon) (C := RX3) (T := TX3) (N := 6) hx hb hts hinX3 hown hK.1 hP 0 rfl rfl 4 (by decide) w_0 (fun _ h9 => h9) rfl dX3_snowAt_2 ?_
  refine lv_icmp_lt (tgt := 15) hx hb dX3_snowAt_5 (by decide) (fun hc => ?_) (fun hc => ?_)
  · replace hf := ip hc hf
    refine lv_aload_n hx hb dX3_snowAt_15 rfl (lv_at hl 0 rfl) ?_
    refine va_get (D := (dC, dI)) (ci := 3) (v := .int t_depth) (C := RX3) (T := TX3) (N := 6) hx hb hts hinX3 hown hK.1 hP 0 rfl rfl 3 (by decide) w_1 (fun _ h9 => h9) rfl dX3_snowAt_16 ?_
    have e0 := ij1 hf
    refine W.eq (congrArg (fun z => F0 m 19 ls [.int z]) e0) ?_
    exact hret _ _ _ _ hP hS dX3_snowAt_19
  · replace hf := iq hc hf
    refine lv_aload_n hx hb dX3_snowAt_8 rfl (lv_at hl 0 rfl) ?_
    refine va_get (D := (dC, dI)) (ci := 3) (v := .int t_depthBehind) (C := RX3) (T := TX3) (N := 6) hx hb hts hinX3 hown hK.1 hP 0 rfl rfl 5 (by decide) w_2 (fun _ h9 => h9) rfl dX3_snowAt_9 ?_
    refine lv_goto (tgt := 19) hx hb dX3_snowAt_12 (by decide) ?_
    have e0 := ij1 hf
    refine W.eq (congrArg (fun z => F0 m 19 ls [.int z]) e0) ?_
    exact hret _ _ _ _ hP hS dX3_snowAt_19
abbrev rm_X3_size : Room := { frames := 0, cells := 0, slots := 0, locals := 0 }
set_option maxHeartbeats 4000000 in
set_option maxRecDepth 100000 in
theorem c_X3_size (l : Launch) (dC : Nat → ClassId) (dI : Nat → Nat → Nat) (cI cZ : ClassId) (q_t q_t_beats q_t_kinds : Nat) (sz : Nat) (t_count : Int32) (t_depth : Int32) (t_noon : Int32) (t_depthBehind : Int32) (r_ : Int32) (hf : f_X3_size t_count = some r_) : Met l yX3_size wsX3_size rm_X3_size (va_Pc [.ref q_t] (PU (dC, dI) cI cZ [(q_t, .inr (3, [.ref q_t_beats, .ref q_t_kinds, .int t_count, .int t_depth, .int t_noon, .int t_depthBehind]))] sz)) (va_Qi (fun (r : Int32) (_ : Unit) => r = r_) (fun _ t => va_P (dC, dI) vwCl [(q_t, .inr (3, [.ref q_t_beats, .ref q_t_kinds, .int t_count, .int t_depth, .int t_noon, .int t_depthBehind]))] t.heap) (va_A [(q_t, .inr (3, [.ref q_t_beats, .ref q_t_kinds, .int t_count, .int t_depth, .int t_noon, .int t_depthBehind]))] sz)) 0 0 (va_A [(q_t, .inr (3, [.ref q_t_beats, .ref q_t_kinds, .int t_count, .int t_depth, .int t_noon, .int t_depthBehind]))] sz) := by
  refine MetI (cc := cX3_size) (maxL := 1) (by decide) rfl (Nat.le_of_ble_eq_true rfl) (fun _ h => h) ?_
  intro p e s m args below meth c A Q ls hx CF hK hA hD hP hS hl hB hAe hsz hret
  have hb := CF.2.1
  have hml := CF.2.2.1
  have hown := CF.2.2.2.1
  have hts := CF.2.2.2.2
  have hD0 := hD
  replace hl : lv_has ls 1 [(0, .ref q_t)] := hl
  have hinX3 : ∀ w ∈ wsX30, w ∈ wsX3_size := fun _ h => List.mem_cons_of_mem _ (List.mem_append_right _ h)
  have w_0 := hts (.fieldLink RX3 47 "PassInStep$Party" "count" "I") (by decide +kernel)
  rw [f_X3_size] at hf
  refine lv_aload_n hx hb dX3_size_0 rfl (lv_at hl 0 rfl) ?_
  refine va_get (D := (dC, dI)) (ci := 3) (v := .int t_count) (C := RX3) (T := TX3) (N := 6) hx hb hts hinX3 hown hK.1 hP 0 rfl rfl 2 (by decide) w_0 (fun _ h9 => h9) rfl dX3_size_1 ?_
  have e0 := ij1 hf
  refine W.eq (congrArg (fun z => F0 m 4 ls [.int z]) e0) ?_
  exact hret _ _ _ _ hP hS dX3_size_4
abbrev rm_X6_walkerAt : Room := { frames := 1, cells := 0, slots := 0, locals := 21 }
set_option maxHeartbeats 4000000 in
set_option maxRecDepth 100000 in
theorem c_X6_walkerAt (l : Launch) (dC : Nat → ClassId) (dI : Nat → Nat → Nat) (cI cZ : ClassId) (q_t q_t_told q_t_line q_t_strides q_t_strains : Nat) (sz : Nat) (t_down : Int32) (t_steps : Int32) (t_line : Nat → Int32) (x1 : Int32) (r_ : Int32) (hf : f_X6_walkerAt x1 t_line = some r_) : Met l yX6_walkerAt wsX6_walkerAt rm_X6_walkerAt (va_Pc [.ref q_t, .int x1] (PU (dC, dI) cI cZ [(q_t, .inr (6, [.ref q_t_told, .ref q_t_line, .ref q_t_strides, .ref q_t_strains, .int t_down, .int t_steps])), (q_t_line, .inl (cI, 5, .inl t_line))] sz)) (va_Qi (fun (r : Int32) (_ : Unit) => r = r_) (fun _ t => va_P (dC, dI) vwCl [(q_t, .inr (6, [.ref q_t_told, .ref q_t_line, .ref q_t_strides, .ref q_t_strains, .int t_down, .int t_steps])), (q_t_line, .inl (cI, 5, .inl t_line))] t.heap) (va_A [(q_t, .inr (6, [.ref q_t_told, .ref q_t_line, .ref q_t_strides, .ref q_t_strains, .int t_down, .int t_steps])), (q_t_line, .inl (cI, 5, .inl t_line))] sz)) 0 0 (va_A [(q_t, .inr (6, [.ref q_t_told, .ref q_t_line, .ref q_t_strides, .ref q_t_strains, .int t_down, .int t_steps])), (q_t_line, .inl (cI, 5, .inl t_line))] sz) := by
  refine MetI (cc := cX6_walkerAt) (maxL := 2) (by decide) rfl (Nat.le_of_ble_eq_true rfl) (fun _ h => h) ?_
  intro p e s m args below meth c A Q ls hx CF hK hA hD hP hS hl hB hAe hsz hret
  have hb := CF.2.1
  have hml := CF.2.2.1
  have hown := CF.2.2.2.1
  have hts := CF.2.2.2.2
  have hD0 := hD
  replace hl : lv_has ls 2 [(0, .ref q_t), (1, .int x1)] := hl
  have hinX6 : ∀ w ∈ wsX60, w ∈ wsX6_walkerAt := fun _ h => List.mem_cons_of_mem _ (List.mem_append_right _ h)
  have w_0 := hts (.fieldLink RX6 9 "PassInStep$Yard" "line" "[I") (by decide +kernel)
  have w_1 := hts (.initialized RX7) (by decide +kernel)
  have w_2 := hts (.static yX7_at) (by decide +kernel)
  rw [f_X6_walkerAt] at hf
  refine lv_aload_n hx hb dX6_walkerAt_0 rfl (lv_at hl 0 rfl) ?_
  refine va_get (D := (dC, dI)) (ci := 6) (v := .ref q_t_line) (C := RX6) (T := TX6) (N := 6) hx hb hts hinX6 hown hK.1 hP 0 rfl rfl 1 (by decide) w_0 (fun _ h9 => h9) rfl dX6_walkerAt_1 ?_
  refine lv_iload_n hx hb dX6_walkerAt_4 rfl (lv_at hl 1 rfl) ?_
  obtain ⟨r1, e3, hf⟩ := bd_ok hf
  refine kNi (As := [.ref q_t_line, .int x1]) CF ⟨va_cnB 2 hts gX6_walkerAt_X7_at_n48 rfl rfl rfl (nw_X6_48 hK.2) w_1 (by decide +kernel) ⟨Nat.le_of_ble_eq_true rfl, Nat.le_of_ble_eq_true rfl⟩, w_2, trivial⟩ PU_blind hP hD hS hA [1] (fun h1 h2 h3 => PU_pre hK h1 A h2 h3) (c_X7_at l dC dI cI cZ q_t_line _ t_line 5 x1 r1 e3) rfl rfl rfl rfl hl.1 rfl (Nat.le_of_ble_eq_true rfl) dX6_walkerAt_5 ⟨Nat.zero_le _, Nat.zero_le _⟩ (fun H locs hP hS => ?_)
  replace hP : va_P (dC, dI) vwCl [(q_t, .inr (6, [.ref q_t_told, .ref q_t_line, .ref q_t_strides, .ref q_t_strains, .int t_down, .int t_steps])), (q_t_line, .inl (cI, 5, .inl t_line))] H := hP
  have e0 := ij1 hf
  refine W.eq (congrArg (fun z => F0 m 8 ls [.int z]) e0) ?_
  exact hret _ _ _ _ hP hS dX6_walkerAt_8
abbrev rm_X6_isDown : Room := { frames := 0, cells := 0, slots := 0, locals := 0 }
set_option maxHeartbeats 4000000 in
set_option maxRecDepth 100000 in
theorem c_X6_isDown (l : Launch) (dC : Nat → ClassId) (dI : Nat → Nat → Nat) (cI cZ : ClassId) (q_t q_t_told q_t_line q_t_strides q_t_strains : Nat) (sz : Nat) (t_down : Int32) (t_steps : Int32) (x1 : Int32) (r_ : Int32) (hf : f_X6_isDown x1 t_down = some r_) : Met l yX6_isDown wsX6_isDown rm_X6_isDown (va_Pc [.ref q_t, .int x1] (PU (dC, dI) cI cZ [(q_t, .inr (6, [.ref q_t_told, .ref q_t_line, .ref q_t_strides, .ref q_t_strains, .int t_down, .int t_steps]))] sz)) (va_Qi (fun (r : Int32) (_ : Unit) => r = r_) (fun _ t => va_P (dC, dI) vwCl [(q_t, .inr (6, [.ref q_t_told, .ref q_t_line, .ref q_t_strides, .ref q_t_strains, .int t_down, .int t_steps]))] t.heap) (va_A [(q_t, .inr (6, [.ref q_t_told, .ref q_t_line, .ref q_t_strides, .ref q_t_strains, .int t_down, .int t_steps]))] sz)) 0 0 (va_A [(q_t, .inr (6, [.ref q_t_told, .ref q_t_line, .ref q_t_strides, .ref q_t_strains, .int t_down, .int t_steps]))] sz) := by
  refine MetZ (cc := cX6_isDown) (maxL := 2) (by decide) rfl (Nat.le_of_ble_eq_true rfl) (fun _ h => h) ?_
  intro p e s m args below meth c A Q ls hx CF hK hA hD hP hS hl hB hAe hsz hret
  have hb := CF.2.1
  have hml := CF.2.2.1
  have hown := CF.2.2.2.1
  have hts := CF.2.2.2.2
  have hD0 := hD
  replace hl : lv_has ls 2 [(0, .ref q_t), (1, .int x1)] := hl
  have hinX6 : ∀ w ∈ wsX60, w ∈ wsX6_isDown := fun _ h => List.mem_cons_of_mem _ (List.mem_append_right _ h)
  have w_0 := hts (.fieldLink RX6 41 "PassInStep$Yard" "down" "I") (by decide +kernel)
  rw [f_X6_isDown] at hf
  refine lv_aload_n hx hb dX6_isDown_0 rfl (lv_at hl 0 rfl) ?_
  refine va_get (D := (dC, dI)) (ci := 6) (v := .int t_down) (C := RX6) (T := TX6) (N := 6) hx hb hts hinX6 hown hK.1 hP 0 rfl rfl 4 (by decide) w_0 (fun _ h9 => h9) rfl dX6_isDown_1 ?_
  refine lv_iload_n hx hb dX6_isDown_4 rfl (lv_at hl 1 rfl) ?_
  refine lv_ishr hx hb dX6_isDown_5 ?_
  refine lv_iconst (v := 1) hx hb dX6_isDown_6 (by decide) ?_
  refine lv_iand hx hb dX6_isDown_7 ?_
  refine lv_if_eq (tgt := 15) hx hb dX6_isDown_8 (by decide) (fun hc => ?_) (fun hc => ?_)
  · replace hf := ip hc hf
    refine lv_iconst (v := 0) hx hb dX6_isDown_15 (by decide) ?_
    have e0 := ij1 hf
    refine W.eq (congrArg (fun z => F0 m 16 ls [.int z]) e0) ?_
    exact hret _ _ _ _ hP hS (by rw [← e0]; rfl) dX6_isDown_16
  · replace hf := iq hc hf
    refine lv_iconst (v := 1) hx hb dX6_isDown_11 (by decide) ?_
    refine lv_goto (tgt := 16) hx hb dX6_isDown_12 (by decide) ?_
    have e0 := ij1 hf
    refine W.eq (congrArg (fun z => F0 m 16 ls [.int z]) e0) ?_
    exact hret _ _ _ _ hP hS (by rw [← e0]; rfl) dX6_isDown_16
abbrev rm_X3_kindOf : Room := { frames := 1, cells := 0, slots := 0, locals := 21 }
set_option maxHeartbeats 4000000 in
set_option maxRecDepth 100000 in
theorem c_X3_kindOf (l : Launch) (dC : Nat → ClassId) (dI : Nat → Nat → Nat) (cI cZ : ClassId) (q_t q_t_beats q_t_kinds : Nat) (sz : Nat) (t_count : Int32) (t_depth : Int32) (t_noon : Int32) (t_depthBehind : Int32) (t_kinds : Nat → Int32) (x1 : Int32) (r_ : Int32) (hf : f_X3_kindOf x1 t_kinds = some r_) : Met l yX3_kindOf wsX3_kindOf rm_X3_kindOf (va_Pc [.ref q_t, .int x1] (PU (dC, dI) cI cZ [(q_t, .inr (3, [.ref q_t_beats, .ref q_t_kinds, .int t_count, .int t_depth, .int t_noon, .int t_depthBehind])), (q_t_kinds, .inl (cI, 5, .inl t_kinds))] sz)) (va_Qi (fun (r : Int32) (_ : Unit) => r = r_) (fun _ t => va_P (dC, dI) vwCl [(q_t, .inr (3, [.ref q_t_beats, .ref q_t_kinds, .int t_count, .int t_depth, .int t_noon, .int t_depthBehind])), (q_t_kinds, .inl (cI, 5, .inl t_kinds))] t.heap) (va_A [(q_t, .inr (3, [.ref q_t_beats, .ref q_t_kinds, .int t_count, .int t_depth, .int t_noon, .int t_depthBehind])), (q_t_kinds, .inl (cI, 5, .inl t_kinds))] sz)) 0 0 (va_A [(q_t, .inr (3, [.ref q_t_beats, .ref q_t_kinds, .int t_count, .int t_depth, .int t_noon, .int t_depthBehind])), (q_t_kinds, .inl (cI, 5, .inl t_kinds))] sz) := by
  refine MetI (cc := cX3_kindOf) (maxL := 2) (by decide) rfl (Nat.le_of_ble_eq_true rfl) (fun _ h => h) ?_
  intro p e s m args below meth c A Q ls hx CF hK hA hD hP hS hl hB hAe hsz hret
  have hb := CF.2.1
  have hml := CF.2.2.1
  have hown := CF.2.2.2.1
  have hts := CF.2.2.2.2
  have hD0 := hD
  replace hl : lv_has ls 2 [(0, .ref q_t), (1, .int x1)] := hl
  have hinX3 : ∀ w ∈ wsX30, w ∈ wsX3_kindOf := fun _ h => List.mem_cons_of_mem _ (List.mem_append_right _ h)
  have w_0 := hts (.fieldLink RX3 15 "PassInStep$Party" "kinds" "[I") (by decide +kernel)
  have w_1 := hts (.initialized RX7) (by decide +kernel)
  have w_2 := hts (.static yX7_at) (by decide +kernel)
  rw [f_X3_kindOf] at hf
  refine lv_aload_n hx hb dX3_kindOf_0 rfl (lv_at hl 0 rfl) ?_
  refine va_get (D := (dC, dI)) (ci := 3) (v := .ref q_t_kinds) (C := RX3) (T := TX3) (N := 6) hx hb hts hinX3 hown hK.1 hP 0 rfl rfl 1 (by decide) w_0 (fun _ h9 => h9) rfl dX3_kindOf_1 ?_
  refine lv_iload_n hx hb dX3_kindOf_4 rfl (lv_at hl 1 rfl) ?_
  obtain ⟨r1, e3, hf⟩ := bd_ok hf
  refine kNi (As := [.ref q_t_kinds, .int x1]) CF ⟨va_cnB 2 hts gX3_kindOf_X7_at_n54 rfl rfl rfl (nw_X3_54 hK.2) w_1 (by decide +kernel) ⟨Nat.le_of_ble_eq_true rfl, Nat.le_of_ble_eq_true rfl⟩, w_2, trivial⟩ PU_blind hP hD hS hA [1] (fun h1 h2 h3 => PU_pre hK h1 A h2 h3) (c_X7_at l dC dI cI cZ q_t_kinds _ t_kinds 5 x1 r1 e3) rfl rfl rfl rfl hl.1 rfl (Nat.le_of_ble_eq_true rfl) dX3_kindOf_5 ⟨Nat.zero_le _, Nat.zero_le _⟩ (fun H locs hP hS => ?_)
  replace hP : va_P (dC, dI) vwCl [(q_t, .inr (3, [.ref q_t_beats, .ref q_t_kinds, .int t_count, .int t_depth, .int t_noon, .int t_depthBehind])), (q_t_kinds, .inl (cI, 5, .inl t_kinds))] H := hP
  have e0 := ij1 hf
  refine W.eq (congrArg (fun z => F0 m 8 ls [.int z]) e0) ?_
  exact hret _ _ _ _ hP hS dX3_kindOf_8
abbrev rm_X3_beatOf : Room := { frames := 1, cells := 0, slots := 0, locals := 21 }
set_option maxHeartbeats 4000000 in
set_option maxRecDepth 100000 in
theorem c_X3_beatOf (l : Launch) (dC : Nat → ClassId) (dI : Nat → Nat → Nat) (cI cZ : ClassId) (q_t q_t_beats q_t_kinds : Nat) (sz : Nat) (t_count : Int32) (t_depth : Int32) (t_noon : Int32) (t_depthBehind : Int32) (t_beats : Nat → Int32) (x1 : Int32) (r_ : Int32) (hf : f_X3_beatOf x1 t_beats = some r_) : Met l yX3_beatOf wsX3_beatOf rm_X3_beatOf (va_Pc [.ref q_t, .int x1] (PU (dC, dI) cI cZ [(q_t, .inr (3, [.ref q_t_beats, .ref q_t_kinds, .int t_count, .int t_depth, .int t_noon, .int t_depthBehind])), (q_t_beats, .inl (cI, 5, .inl t_beats))] sz)) (va_Qi (fun (r : Int32) (_ : Unit) => r = r_) (fun _ t => va_P (dC, dI) vwCl [(q_t, .inr (3, [.ref q_t_beats, .ref q_t_kinds, .int t_count, .int t_depth, .int t_noon, .int t_depthBehind])), (q_t_beats, .inl (cI, 5, .inl t_beats))] t.heap) (va_A [(q_t, .inr (3, [.ref q_t_beats, .ref q_t_kinds, .int t_count, .int t_depth, .int t_noon, .int t_depthBehind])), (q_t_beats, .inl (cI, 5, .inl t_beats))] sz)) 0 0 (va_A [(q_t, .inr (3, [.ref q_t_beats, .ref q_t_kinds, .int t_count, .int t_depth, .int t_noon, .int t_depthBehind])), (q_t_beats, .inl (cI, 5, .inl t_beats))] sz) := by
  refine MetI (cc := cX3_beatOf) (maxL := 2) (by decide) rfl (Nat.le_of_ble_eq_true rfl) (fun _ h => h) ?_
  intro p e s m args below meth c A Q ls hx CF hK hA hD hP hS hl hB hAe hsz hret
  have hb := CF.2.1
  have hml := CF.2.2.1
  have hown := CF.2.2.2.1
  have hts := CF.2.2.2.2
  have hD0 := hD
  replace hl : lv_has ls 2 [(0, .ref q_t), (1, .int x1)] := hl
  have hinX3 : ∀ w ∈ wsX30, w ∈ wsX3_beatOf := fun _ h => List.mem_cons_of_mem _ (List.mem_append_right _ h)
  have w_0 := hts (.fieldLink RX3 9 "PassInStep$Party" "beats" "[I") (by decide +kernel)
  have w_1 := hts (.initialized RX7) (by decide +kernel)
  have w_2 := hts (.static yX7_at) (by decide +kernel)
  rw [f_X3_beatOf] at hf
  refine lv_aload_n hx hb dX3_beatOf_0 rfl (lv_at hl 0 rfl) ?_
  refine va_get (D := (dC, dI)) (ci := 3) (v := .ref q_t_beats) (C := RX3) (T := TX3) (N := 6) hx hb hts hinX3 hown hK.1 hP 0 rfl rfl 0 (by decide) w_0 (fun _ h9 => h9) rfl dX3_beatOf_1 ?_
  refine lv_iload_n hx hb dX3_beatOf_4 rfl (lv_at hl 1 rfl) ?_
  obtain ⟨r1, e3, hf⟩ := bd_ok hf
  refine kNi (As := [.ref q_t_beats, .int x1]) CF ⟨va_cnB 2 hts gX3_beatOf_X7_at_n54 rfl rfl rfl (nw_X3_54 hK.2) w_1 (by decide +kernel) ⟨Nat.le_of_ble_eq_true rfl, Nat.le_of_ble_eq_true rfl⟩, w_2, trivial⟩ PU_blind hP hD hS hA [1] (fun h1 h2 h3 => PU_pre hK h1 A h2 h3) (c_X7_at l dC dI cI cZ q_t_beats _ t_beats 5 x1 r1 e3) rfl rfl rfl rfl hl.1 rfl (Nat.le_of_ble_eq_true rfl) dX3_beatOf_5 ⟨Nat.zero_le _, Nat.zero_le _⟩ (fun H locs hP hS => ?_)
  replace hP : va_P (dC, dI) vwCl [(q_t, .inr (3, [.ref q_t_beats, .ref q_t_kinds, .int t_count, .int t_depth, .int t_noon, .int t_depthBehind])), (q_t_beats, .inl (cI, 5, .inl t_beats))] H := hP
  have e0 := ij1 hf
  refine W.eq (congrArg (fun z => F0 m 8 ls [.int z]) e0) ?_
  exact hret _ _ _ _ hP hS dX3_beatOf_8
abbrev rm_X7_treadAlone : Room := { frames := 0, cells := 0, slots := 0, locals := 0 }
set_option maxHeartbeats 4000000 in
set_option maxRecDepth 100000 in
theorem c_X7_treadAlone (l : Launch) (dC : Nat → ClassId) (dI : Nat → Nat → Nat) (cI cZ : ClassId) (sz : Nat) (x0 : Int32) (x1 : Int32) (x2 : Int32) (x3 : Int32) (r_ : Int32) (hf : f_X7_treadAlone x0 x1 x2 x3 = some r_) : Met l yX7_treadAlone wsX7_treadAlone rm_X7_treadAlone (va_Pc [.int x0, .int x1, .int x2, .int x3] (PU (dC, dI) cI cZ [] sz)) (va_Qi (fun (r : Int32) (_ : Unit) => r = r_) (fun _ t => va_P (dC, dI) vwCl [] t.heap) (va_A [] sz)) 0 0 (va_A [] sz) := by
  refine MetI (cc := cX7_treadAlone) (maxL := 5) (by decide) rfl (Nat.le_of_ble_eq_true rfl) (fun _ h => h) ?_
  intro p e s m args below meth c A Q ls hx CF hK hA hD hP hS hl hB hAe hsz hret
  have hb := CF.2.1
  have hml := CF.2.2.1
  have hown := CF.2.2.2.1
  have hts := CF.2.2.2.2
  have hD0 := hD
  replace hl : lv_has ls 5 [(0, .int x0), (1, .int x1), (2, .int x2), (3, .int x3)] := hl
  have h_11 : ∀ (x0 : Int32) (x1 : Int32) (x3 : Int32) (s0 : Int32) (H : Heap) (locs : List Loc) (ls : Array Slot), va_P (dC, dI) vwCl [] H → va_S A s.heap H locs → lv_has ls 5 [(0, .int x0), (1, .int x1), (3, .int x3)] → J_X7_treadAlone_11 x0 x1 x3 s0 = some r_ → W p l e rm_X7_treadAlone s m args below meth c H locs 0 0 Q (F0 m 11 ls [.int s0]) := by
    intro x0 x1 x3 s0 H locs ls hP hS hl hf
    have hD : va_D A [] := wd hD0 rfl
    rw [J_X7_treadAlone_11] at hf
    refine lv_istore (lv' := [(4, .int s0), (0, .int x0), (1, .int x1), (3, .int x3)]) hx hb dX7_treadAlone_11 hl (by decide) rfl (fun ls hl => ?_)
    refine lv_iload_n hx hb dX7_treadAlone_13 rfl (lv_at hl 1 rfl) ?_
    by_cases n0 : (x0 : Int32) = 1
    · replace hf := ip n0 hf
      refine lv_tableIn (off := 26) (tgt := 40) hx hb dX7_treadAlone_14 (by rw [n0]; decide) (by rw [n0]; decide) (by rw [n0]; rfl) (by decide) ?_
      refine lv_iload_n hx hb dX7_treadAlone_40 rfl (lv_at hl 2 rfl) ?_
      refine lv_iload_n hx hb dX7_treadAlone_41 rfl (lv_at hl 3 rfl) ?_
      refine lv_iconst (v := 1) hx hb dX7_treadAlone_42 (by decide) ?_
      refine lv_iand hx hb dX7_treadAlone_43 ?_
      refine lv_isub hx hb dX7_treadAlone_44 ?_
      have e0 := ij1 hf
      refine W.eq (congrArg (fun z => F0 m 45 ls [.int z]) e0) ?_
      exact hret _ _ _ _ hP hS dX7_treadAlone_45
    · replace hf := iq n0 hf
      by_cases n1 : (x0 : Int32) = 2
      · replace hf := ip n1 hf
        refine lv_tableIn (off := 32) (tgt := 46) hx hb dX7_treadAlone_14 (by rw [n1]; decide) (by rw [n1]; decide) (by rw [n1]; rfl) (by decide) ?_
        refine lv_iload_n hx hb dX7_treadAlone_46 rfl (lv_at hl 2 rfl) ?_
        refine lv_iload hx hb dX7_treadAlone_47 (lv_at hl 0 rfl) ?_
        refine lv_if_ne (tgt := 56) hx hb dX7_treadAlone_49 (by decide) (fun hc => ?_) (fun hc => ?_)
        · replace hf := iq hc hf
          refine lv_iconst (v := 0) hx hb dX7_treadAlone_56 (by decide) ?_
          refine lv_iadd hx hb dX7_treadAlone_57 ?_
          have e0 := ij1 hf
          refine W.eq (congrArg (fun z => F0 m 58 ls [.int z]) e0) ?_
          exact hret _ _ _ _ hP hS dX7_treadAlone_58
        · replace hf := ip hc hf
          refine lv_iconst (v := 1) hx hb dX7_treadAlone_52 (by decide) ?_
          refine lv_goto (tgt := 57) hx hb dX7_treadAlone_53 (by decide) ?_
          refine lv_iadd hx hb dX7_treadAlone_57 ?_
          have e0 := ij1 hf
          refine W.eq (congrArg (fun z => F0 m 58 ls [.int z]) e0) ?_
          exact hret _ _ _ _ hP hS dX7_treadAlone_58
      · replace hf := iq n1 hf
        by_cases n2 : (x0 : Int32) = 3
        · replace hf := ip n2 hf
          refine lv_tableIn (off := 45) (tgt := 59) hx hb dX7_treadAlone_14 (by rw [n2]; decide) (by rw [n2]; decide) (by rw [n2]; rfl) (by decide) ?_
          refine lv_iload_n hx hb dX7_treadAlone_59 rfl (lv_at hl 2 rfl) ?_
          refine lv_iload hx hb dX7_treadAlone_60 (lv_at hl 0 rfl) ?_
          refine lv_iadd hx hb dX7_treadAlone_62 ?_
          have e0 := ij1 hf
          refine W.eq (congrArg (fun z => F0 m 63 ls [.int z]) e0) ?_
          exact hret _ _ _ _ hP hS dX7_treadAlone_63
        · replace hf := iq n2 hf
          refine lv_tableOut (tgt := 64) hx hb dX7_treadAlone_14 (by have a0 : (x0 : Int32).toInt ≠ 1 := sw_ne n0; have a1 : (x0 : Int32).toInt ≠ 2 := sw_ne n1; have a2 : (x0 : Int32).toInt ≠ 3 := sw_ne n2; omega) (by decide) ?_
          refine lv_iload_n hx hb dX7_treadAlone_64 rfl (lv_at hl 2 rfl) ?_
          have e0 := ij1 hf
          refine W.eq (congrArg (fun z => F0 m 65 ls [.int z]) e0) ?_
          exact hret _ _ _ _ hP hS dX7_treadAlone_65
  rw [f_X7_treadAlone] at hf
  refine lv_iload_n hx hb dX7_treadAlone_0 rfl (lv_at hl 2 rfl) ?_
  refine lv_if_le (tgt := 10) hx hb dX7_treadAlone_1 (by decide) (fun hc => ?_) (fun hc => ?_)
  · replace hf := ip hc hf
    refine lv_iconst (v := 0) hx hb dX7_treadAlone_10 (by decide) ?_
    exact h_11 x0 x1 x3 0 _ _ _ hP hS (lv_sub hl [0, 1, 3] rfl) hf
  · replace hf := iq hc hf
    refine lv_iload_n hx hb dX7_treadAlone_4 rfl (lv_at hl 3 rfl) ?_
    refine lv_iload_n hx hb dX7_treadAlone_5 rfl (lv_at hl 2 rfl) ?_
    obtain ⟨hne, hf⟩ := dv_ok hf
    refine lv_irem hx hb dX7_treadAlone_6 hne ?_
    refine lv_goto (tgt := 11) hx hb dX7_treadAlone_7 (by decide) ?_
    exact h_11 x0 x1 x3 (x3 - x3 / x2 * x2) _ _ _ hP hS (lv_sub hl [0, 1, 3] rfl) hf
abbrev rm_X6_treadBehind : Room := { frames := 2, cells := 0, slots := 0, locals := 42 }
set_option maxHeartbeats 4000000 in
set_option maxRecDepth 100000 in
theorem c_X6_treadBehind (l : Launch) (dC : Nat → ClassId) (dI : Nat → Nat → Nat) (cI cZ : ClassId) (q_t q_t_told q_t_line q_t_strides q_t_strains q_t_told_beats q_t_told_kinds : Nat) (sz : Nat) (t_down : Int32) (t_steps : Int32) (t_told_count : Int32) (t_told_depth : Int32) (t_told_noon : Int32) (t_told_depthBehind : Int32) (t_told_kinds : Nat → Int32) (t_strides : Nat → Int32) (t_told_beats : Nat → Int32) (x1 : Int32) (x2 : Int32) (x3 : Int32) (x4 : Int32) (r_ : Int32) (hf : f_X6_treadBehind x1 x2 x3 x4 t_steps t_told_kinds t_strides t_told_beats = some r_) : Met l yX6_treadBehind wsX6_treadBehind rm_X6_treadBehind (va_Pc [.ref q_t, .int x1, .int x2, .int x3, .int x4] (PU (dC, dI) cI cZ [(q_t, .inr (6, [.ref q_t_told, .ref q_t_line, .ref q_t_strides, .ref q_t_strains, .int t_down, .int t_steps])), (q_t_told, .inr (3, [.ref q_t_told_beats, .ref q_t_told_kinds, .int t_told_count, .int t_told_depth, .int t_told_noon, .int t_told_depthBehind])), (q_t_told_kinds, .inl (cI, 5, .inl t_told_kinds)), (q_t_strides, .inl (cI, 5, .inl t_strides)), (q_t_told_beats, .inl (cI, 5, .inl t_told_beats))] sz)) (va_Qi (fun (r : Int32) (_ : Unit) => r = r_) (fun _ t => va_P (dC, dI) vwCl [(q_t, .inr (6, [.ref q_t_told, .ref q_t_line, .ref q_t_strides, .ref q_t_strains, .int t_down, .int t_steps])), (q_t_told, .inr (3, [.ref q_t_told_beats, .ref q_t_told_kinds, .int t_told_count, .int t_told_depth, .int t_told_noon, .int t_told_depthBehind])), (q_t_told_kinds, .inl (cI, 5, .inl t_told_kinds)), (q_t_strides, .inl (cI, 5, .inl t_strides)), (q_t_told_beats, .inl (cI, 5, .inl t_told_beats))] t.heap) (va_A [(q_t, .inr (6, [.ref q_t_told, .ref q_t_line, .ref q_t_strides, .ref q_t_strains, .int t_down, .int t_steps])), (q_t_told, .inr (3, [.ref q_t_told_beats, .ref q_t_told_kinds, .int t_told_count, .int t_told_depth, .int t_told_noon, .int t_told_depthBehind])), (q_t_told_kinds, .inl (cI, 5, .inl t_told_kinds)), (q_t_strides, .inl (cI, 5, .inl t_strides)), (q_t_told_beats, .inl (cI, 5, .inl t_told_beats))] sz)) 0 0 (va_A [(q_t, .inr (6, [.ref q_t_told, .ref q_t_line, .ref q_t_strides, .ref q_t_strains, .int t_down, .int t_steps])), (q_t_told, .inr (3, [.ref q_t_told_beats, .ref q_t_told_kinds, .int t_told_count, .int t_told_depth, .int t_told_noon, .int t_told_depthBehind])), (q_t_told_kinds, .inl (cI, 5, .inl t_told_kinds)), (q_t_strides, .inl (cI, 5, .inl t_strides)), (q_t_told_beats, .inl (cI, 5, .inl t_told_beats))] sz) := by
  refine MetI (cc := cX6_treadBehind) (maxL := 7) (by decide) rfl (Nat.le_of_ble_eq_true rfl) (fun _ h => h) ?_
  intro p e s m args below meth c A Q ls hx CF hK hA hD hP hS hl hB hAe hsz hret
  have hb := CF.2.1
  have hml := CF.2.2.1
  have hown := CF.2.2.2.1
  have hts := CF.2.2.2.2
  have hD0 := hD
  replace hl : lv_has ls 7 [(0, .ref q_t), (1, .int x1), (2, .int x2), (3, .int x3), (4, .int x4)] := hl
  have hinX6 : ∀ w ∈ wsX60, w ∈ wsX6_treadBehind := fun _ h => List.mem_cons_of_mem _ (List.mem_append_left _ (List.mem_append_right _ h))
  have hinX3 : ∀ w ∈ wsX30, w ∈ wsX6_treadBehind := fun _ h => List.mem_cons_of_mem _ (List.mem_append_right _ h)
  have w_0 := hts (.fieldLink RX6 21 "PassInStep$Yard" "told" "LPassInStep$Party;") (by decide +kernel)
  have w_1 := hts (.fieldLink RX6 45 "PassInStep$Yard" "steps" "I") (by decide +kernel)
  have w_2 := hts (.initialized RX7) (by decide +kernel)
  have w_3 := hts (.static yX7_treadAlone) (by decide +kernel)
  have h_38 : ∀ (x1 : Int32) (x5 : Int32) (s0 : Int32) (H : Heap) (locs : List Loc) (ls : Array Slot), va_P (dC, dI) vwCl [(q_t, .inr (6, [.ref q_t_told, .ref q_t_line, .ref q_t_strides, .ref q_t_strains, .int t_down, .int t_steps])), (q_t_told, .inr (3, [.ref q_t_told_beats, .ref q_t_told_kinds, .int t_told_count, .int t_told_depth, .int t_told_noon, .int t_told_depthBehind])), (q_t_told_kinds, .inl (cI, 5, .inl t_told_kinds)), (q_t_strides, .inl (cI, 5, .inl t_strides)), (q_t_told_beats, .inl (cI, 5, .inl t_told_beats))] H → va_S A s.heap H locs → lv_has ls 7 [(0, .ref q_t), (1, .int x1), (5, .int x5)] → J_X6_treadBehind_38 x1 x5 s0 t_steps t_strides t_told_beats = some r_ → W p l e rm_X6_treadBehind s m args below meth c H locs 0 0 Q (F0 m 38 ls [.int s0]) := by
    intro x1 x5 s0 H locs ls hP hS hl hf
    have hD : va_D A [(q_t, .inr (6, [.ref q_t_told, .ref q_t_line, .ref q_t_strides, .ref q_t_strains, .int t_down, .int t_steps])), (q_t_told, .inr (3, [.ref q_t_told_beats, .ref q_t_told_kinds, .int t_told_count, .int t_told_depth, .int t_told_noon, .int t_told_depthBehind])), (q_t_told_kinds, .inl (cI, 5, .inl t_told_kinds)), (q_t_strides, .inl (cI, 5, .inl t_strides)), (q_t_told_beats, .inl (cI, 5, .inl t_told_beats))] := wd hD0 rfl
    rw [J_X6_treadBehind_38] at hf
    refine lv_istore (lv' := [(6, .int s0), (0, .ref q_t), (1, .int x1), (5, .int x5)]) hx hb dX6_treadBehind_38 hl (by decide) rfl (fun ls hl => ?_)
    refine lv_iload hx hb dX6_treadBehind_40 (lv_at hl 3 rfl) ?_
    refine lv_aload_n hx hb dX6_treadBehind_42 rfl (lv_at hl 1 rfl) ?_
    refine lv_iload_n hx hb dX6_treadBehind_43 rfl (lv_at hl 2 rfl) ?_
    obtain ⟨r1, e3, hf⟩ := bd_ok hf
    refine kVi (As := [.int x1]) CF (cwV 1 hts gX6_treadBehind_X6_strideOf rfl rfl rfl (by decide +kernel) ⟨Nat.le_of_ble_eq_true rfl, Nat.le_of_ble_eq_true rfl⟩) PU_blind hP hD hS hA (va_recv hK.1 hP (ci := 6) (q0 := 0) rfl rfl) [0, 3] (fun h1 h2 h3 => PU_pre hK h1 A h2 h3) (c_X6_strideOf l dC dI cI cZ q_t q_t_told q_t_line q_t_strides q_t_strains _ t_down t_steps t_strides x1 r1 e3) rfl rfl rfl rfl hl.1 rfl (Nat.le_of_ble_eq_true rfl) dX6_treadBehind_44 ⟨Nat.zero_le _, Nat.zero_le _⟩ (fun H locs hP hS => ?_)
    replace hP : va_P (dC, dI) vwCl [(q_t, .inr (6, [.ref q_t_told, .ref q_t_line, .ref q_t_strides, .ref q_t_strains, .int t_down, .int t_steps])), (q_t_told, .inr (3, [.ref q_t_told_beats, .ref q_t_told_kinds, .int t_told_count, .int t_told_depth, .int t_told_noon, .int t_told_depthBehind])), (q_t_told_kinds, .inl (cI, 5, .inl t_told_kinds)), (q_t_strides, .inl (cI, 5, .inl t_strides)), (q_t_told_beats, .inl (cI, 5, .inl t_told_beats))] H := hP
    refine lv_aload_n hx hb dX6_treadBehind_47 rfl (lv_at hl 1 rfl) ?_
    refine va_get (D := (dC, dI)) (ci := 6) (v := .ref q_t_told) (C := RX6) (T := TX6) (N := 6) hx hb hts hinX6 hown hK.1 hP 0 rfl rfl 0 (by decide) w_0 (fun _ h9 => h9) rfl dX6_treadBehind_48 ?_
    refine lv_iload_n hx hb dX6_treadBehind_51 rfl (lv_at hl 2 rfl) ?_
    obtain ⟨r4, e6, hf⟩ := bd_ok hf
    refine kVi (As := [.int x1]) CF (cwV 1 hts gX6_treadBehind_X3_beatOf rfl rfl rfl (by decide +kernel) ⟨Nat.le_of_ble_eq_true rfl, Nat.le_of_ble_eq_true rfl⟩) PU_blind hP hD hS hA (va_recv hK.1 hP (ci := 3) (q0 := 1) rfl rfl) [1, 4] (fun h1 h2 h3 => PU_pre hK h1 A h2 h3) (c_X3_beatOf l dC dI cI cZ q_t_told q_t_told_beats q_t_told_kinds _ t_told_count t_told_depth t_told_noon t_told_depthBehind t_told_beats x1 r4 e6) rfl rfl rfl rfl hl.1 rfl (Nat.le_of_ble_eq_true rfl) dX6_treadBehind_52 ⟨Nat.zero_le _, Nat.zero_le _⟩ (fun H locs hP hS => ?_)
    replace hP : va_P (dC, dI) vwCl [(q_t, .inr (6, [.ref q_t_told, .ref q_t_line, .ref q_t_strides, .ref q_t_strains, .int t_down, .int t_steps])), (q_t_told, .inr (3, [.ref q_t_told_beats, .ref q_t_told_kinds, .int t_told_count, .int t_told_depth, .int t_told_noon, .int t_told_depthBehind])), (q_t_told_kinds, .inl (cI, 5, .inl t_told_kinds)), (q_t_strides, .inl (cI, 5, .inl t_strides)), (q_t_told_beats, .inl (cI, 5, .inl t_told_beats))] H := hP
    refine lv_aload_n hx hb dX6_treadBehind_55 rfl (lv_at hl 1 rfl) ?_
    refine va_get (D := (dC, dI)) (ci := 6) (v := .int t_steps) (C := RX6) (T := TX6) (N := 6) hx hb hts hinX6 hown hK.1 hP 0 rfl rfl 5 (by decide) w_1 (fun _ h9 => h9) rfl dX6_treadBehind_56 ?_
    obtain ⟨r7, e9, hf⟩ := bd_ok hf
    refine kNi (As := [.int x5, .int r1, .int r4, .int t_steps]) CF ⟨va_cnB 4 hts gX6_treadBehind_X7_treadAlone_n83 rfl rfl rfl (nw_X6_83 hK.2) w_2 (by decide +kernel) ⟨Nat.le_of_ble_eq_true rfl, Nat.le_of_ble_eq_true rfl⟩, w_3, trivial⟩ PU_blind hP hD hS hA [] (fun h1 h2 h3 => PU_pre hK h1 A h2 h3) (c_X7_treadAlone l dC dI cI cZ _ x5 r1 r4 t_steps r7 e9) rfl rfl rfl rfl hl.1 rfl (Nat.le_of_ble_eq_true rfl) dX6_treadBehind_59 ⟨Nat.zero_le _, Nat.zero_le _⟩ (fun H locs hP hS => ?_)
    replace hP : va_P (dC, dI) vwCl [(q_t, .inr (6, [.ref q_t_told, .ref q_t_line, .ref q_t_strides, .ref q_t_strains, .int t_down, .int t_steps])), (q_t_told, .inr (3, [.ref q_t_told_beats, .ref q_t_told_kinds, .int t_told_count, .int t_told_depth, .int t_told_noon, .int t_told_depthBehind])), (q_t_told_kinds, .inl (cI, 5, .inl t_told_kinds)), (q_t_strides, .inl (cI, 5, .inl t_strides)), (q_t_told_beats, .inl (cI, 5, .inl t_told_beats))] H := hP
    refine lv_iload hx hb dX6_treadBehind_62 (lv_at hl 0 rfl) ?_
    refine lv_iadd hx hb dX6_treadBehind_64 ?_
    have e0 := ij1 hf
    refine W.eq (congrArg (fun z => F0 m 65 ls [.int z]) e0) ?_
    exact hret _ _ _ _ hP hS dX6_treadBehind_65
  have h_22 : ∀ (x1 : Int32) (x4 : Int32) (x5 : Int32) (H : Heap) (locs : List Loc) (ls : Array Slot), va_P (dC, dI) vwCl [(q_t, .inr (6, [.ref q_t_told, .ref q_t_line, .ref q_t_strides, .ref q_t_strains, .int t_down, .int t_steps])), (q_t_told, .inr (3, [.ref q_t_told_beats, .ref q_t_told_kinds, .int t_told_count, .int t_told_depth, .int t_told_noon, .int t_told_depthBehind])), (q_t_told_kinds, .inl (cI, 5, .inl t_told_kinds)), (q_t_strides, .inl (cI, 5, .inl t_strides)), (q_t_told_beats, .inl (cI, 5, .inl t_told_beats))] H → va_S A s.heap H locs → lv_has ls 7 [(0, .ref q_t), (1, .int x1), (4, .int x4), (5, .int x5)] → J_X6_treadBehind_22 x1 x4 x5 t_steps t_strides t_told_beats = some r_ → W p l e rm_X6_treadBehind s m args below meth c H locs 0 0 Q (F0 m 22 ls []) := by
    intro x1 x4 x5 H locs ls hP hS hl hf
    have hD : va_D A [(q_t, .inr (6, [.ref q_t_told, .ref q_t_line, .ref q_t_strides, .ref q_t_strains, .int t_down, .int t_steps])), (q_t_told, .inr (3, [.ref q_t_told_beats, .ref q_t_told_kinds, .int t_told_count, .int t_told_depth, .int t_told_noon, .int t_told_depthBehind])), (q_t_told_kinds, .inl (cI, 5, .inl t_told_kinds)), (q_t_strides, .inl (cI, 5, .inl t_strides)), (q_t_told_beats, .inl (cI, 5, .inl t_told_beats))] := wd hD0 rfl
    rw [J_X6_treadBehind_22] at hf
    refine lv_iload hx hb dX6_treadBehind_22 (lv_at hl 3 rfl) ?_
    refine lv_iconst (v := 2) hx hb dX6_treadBehind_24 (by decide) ?_
    refine lv_icmp_ne (tgt := 32) hx hb dX6_treadBehind_25 (by decide) (fun hc => ?_) (fun hc => ?_)
    · replace hf := iq hc hf
      refine lv_iload hx hb dX6_treadBehind_32 (lv_at hl 2 rfl) ?_
      refine lv_iload_n hx hb dX6_treadBehind_34 rfl (lv_at hl 1 rfl) ?_
      refine lv_ishr hx hb dX6_treadBehind_35 ?_
      refine lv_iconst (v := 1) hx hb dX6_treadBehind_36 (by decide) ?_
      refine lv_iand hx hb dX6_treadBehind_37 ?_
      exact h_38 x1 x5 ((x4 >>> (x1 &&& 31)) &&& 1) _ _ _ hP hS (lv_sub hl [0, 1, 3] rfl) hf
    · replace hf := ip hc hf
      refine lv_iconst (v := 0) hx hb dX6_treadBehind_28 (by decide) ?_
      refine lv_goto (tgt := 38) hx hb dX6_treadBehind_29 (by decide) ?_
      exact h_38 x1 x5 0 _ _ _ hP hS (lv_sub hl [0, 1, 3] rfl) hf
  rw [f_X6_treadBehind] at hf
  refine lv_aload_n hx hb dX6_treadBehind_0 rfl (lv_at hl 0 rfl) ?_
  refine va_get (D := (dC, dI)) (ci := 6) (v := .ref q_t_told) (C := RX6) (T := TX6) (N := 6) hx hb hts hinX6 hown hK.1 hP 0 rfl rfl 0 (by decide) w_0 (fun _ h9 => h9) rfl dX6_treadBehind_1 ?_
  refine lv_iload_n hx hb dX6_treadBehind_4 rfl (lv_at hl 1 rfl) ?_
  obtain ⟨r10, e12, hf⟩ := bd_ok hf
  refine kVi (As := [.int x1]) CF (cwV 1 hts gX6_treadBehind_X3_kindOf rfl rfl rfl (by decide +kernel) ⟨Nat.le_of_ble_eq_true rfl, Nat.le_of_ble_eq_true rfl⟩) PU_blind hP hD hS hA (va_recv hK.1 hP (ci := 3) (q0 := 1) rfl rfl) [1, 2] (fun h1 h2 h3 => PU_pre hK h1 A h2 h3) (c_X3_kindOf l dC dI cI cZ q_t_told q_t_told_beats q_t_told_kinds _ t_told_count t_told_depth t_told_noon t_told_depthBehind t_told_kinds x1 r10 e12) rfl rfl rfl rfl hl.1 rfl (Nat.le_of_ble_eq_true rfl) dX6_treadBehind_5 ⟨Nat.zero_le _, Nat.zero_le _⟩ (fun H locs hP hS => ?_)
  replace hP : va_P (dC, dI) vwCl [(q_t, .inr (6, [.ref q_t_told, .ref q_t_line, .ref q_t_strides, .ref q_t_strains, .int t_down, .int t_steps])), (q_t_told, .inr (3, [.ref q_t_told_beats, .ref q_t_told_kinds, .int t_told_count, .int t_told_depth, .int t_told_noon, .int t_told_depthBehind])), (q_t_told_kinds, .inl (cI, 5, .inl t_told_kinds)), (q_t_strides, .inl (cI, 5, .inl t_strides)), (q_t_told_beats, .inl (cI, 5, .inl t_told_beats))] H := hP
  refine lv_istore (lv' := [(5, .int r10), (0, .ref q_t), (1, .int x1), (2, .int x2), (3, .int x3), (4, .int x4)]) hx hb dX6_treadBehind_8 hl (by decide) rfl (fun ls hl => ?_)
  refine lv_iload hx hb dX6_treadBehind_10 (lv_at hl 0 rfl) ?_
  refine lv_iconst (v := 2) hx hb dX6_treadBehind_12 (by decide) ?_
  refine lv_icmp_ne (tgt := 22) hx hb dX6_treadBehind_13 (by decide) (fun hc => ?_) (fun hc => ?_)
  · replace hf := iq hc hf
    exact h_22 x1 x4 r10 _ _ _ hP hS (lv_sub hl [1, 2, 5, 0] rfl) hf
  · replace hf := ip hc hf
    refine lv_iload_n hx hb dX6_treadBehind_16 rfl (lv_at hl 3 rfl) ?_
    refine lv_if_eq (tgt := 22) hx hb dX6_treadBehind_17 (by decide) (fun hc => ?_) (fun hc => ?_)
    · replace hf := ip hc hf
      exact h_22 x1 x4 r10 _ _ _ hP hS (lv_sub hl [1, 2, 5, 0] rfl) hf
    · replace hf := iq hc hf
      refine lv_iload_n hx hb dX6_treadBehind_20 rfl (lv_at hl 4 rfl) ?_
      have e0 := ij1 hf
      refine W.eq (congrArg (fun z => F0 m 21 ls [.int z]) e0) ?_
      exact hret _ _ _ _ hP hS dX6_treadBehind_21
abbrev rm_X7_isBetween : Room := { frames := 0, cells := 0, slots := 0, locals := 0 }
set_option maxHeartbeats 4000000 in
set_option maxRecDepth 100000 in
theorem c_X7_isBetween (l : Launch) (dC : Nat → ClassId) (dI : Nat → Nat → Nat) (cI cZ : ClassId) (sz : Nat) (x0 : Int32) (x1 : Int32) (x2 : Int32) (r_ : Int32) (hf : f_X7_isBetween x0 x1 x2 = some r_) : Met l yX7_isBetween wsX7_isBetween rm_X7_isBetween (va_Pc [.int x0, .int x1, .int x2] (PU (dC, dI) cI cZ [] sz)) (va_Qi (fun (r : Int32) (_ : Unit) => r = r_) (fun _ t => va_P (dC, dI) vwCl [] t.heap) (va_A [] sz)) 0 0 (va_A [] sz) := by
  refine MetZ (cc := cX7_isBetween) (maxL := 3) (by decide) rfl (Nat.le_of_ble_eq_true rfl) (fun _ h => h) ?_
  intro p e s m args below meth c A Q ls hx CF hK hA hD hP hS hl hB hAe hsz hret
  have hb := CF.2.1
  have hml := CF.2.2.1
  have hown := CF.2.2.2.1
  have hts := CF.2.2.2.2
  have hD0 := hD
  replace hl : lv_has ls 3 [(0, .int x0), (1, .int x1), (2, .int x2)] := hl
  have h_14 : ∀ (H : Heap) (locs : List Loc) (ls : Array Slot), va_P (dC, dI) vwCl [] H → va_S A s.heap H locs → lv_has ls 3 [] → J_X7_isBetween_14 = some r_ → W p l e rm_X7_isBetween s m args below meth c H locs 0 0 Q (F0 m 14 ls []) := by
    intro  H locs ls hP hS hl hf
    have hD : va_D A [] := wd hD0 rfl
    rw [J_X7_isBetween_14] at hf
    refine lv_iconst (v := 0) hx hb dX7_isBetween_14 (by decide) ?_
    have e0 := ij1 hf
    refine W.eq (congrArg (fun z => F0 m 15 ls [.int z]) e0) ?_
    exact hret _ _ _ _ hP hS (by rw [← e0]; rfl) dX7_isBetween_15
  rw [f_X7_isBetween] at hf
  refine lv_iload_n hx hb dX7_isBetween_0 rfl (lv_at hl 0 rfl) ?_
  refine lv_iload_n hx hb dX7_isBetween_1 rfl (lv_at hl 1 rfl) ?_
  refine lv_icmp_lt (tgt := 14) hx hb dX7_isBetween_2 (by decide) (fun hc => ?_) (fun hc => ?_)
  · replace hf := ip hc hf
    exact h_14 _ _ _ hP hS (lv_sub hl [] rfl) hf
  · replace hf := iq hc hf
    refine lv_iload_n hx hb dX7_isBetween_5 rfl (lv_at hl 0 rfl) ?_
    refine lv_iload_n hx hb dX7_isBetween_6 rfl (lv_at hl 2 rfl) ?_
    refine lv_icmp_gt (tgt := 14) hx hb dX7_isBetween_7 (by decide) (fun hc => ?_) (fun hc => ?_)
    · replace hf := ip hc hf
      exact h_14 _ _ _ hP hS (lv_sub hl [] rfl) hf
    · replace hf := iq hc hf
      refine lv_iconst (v := 1) hx hb dX7_isBetween_10 (by decide) ?_
      refine lv_goto (tgt := 15) hx hb dX7_isBetween_11 (by decide) ?_
      have e0 := ij1 hf
      refine W.eq (congrArg (fun z => F0 m 15 ls [.int z]) e0) ?_
      exact hret _ _ _ _ hP hS (by rw [← e0]; rfl) dX7_isBetween_15
abbrev rm_X6_takeStep : Room := { frames := 3, cells := 0, slots := 0, locals := 68 }
set_option maxHeartbeats 4000000 in
set_option maxRecDepth 100000 in
theorem c_X6_takeStep (l : Launch) (dC : Nat → ClassId) (dI : Nat → Nat → Nat) (cI cZ : ClassId) (q_t q_t_told q_t_line q_t_strides q_t_strains q_t_told_beats q_t_told_kinds : Nat) (sz : Nat) (t_down : Int32) (t_steps : Int32) (t_told_count : Int32) (t_told_depth : Int32) (t_told_noon : Int32) (t_told_depthBehind : Int32) (t_line : Nat → Int32) (t_told_kinds : Nat → Int32) (t_strides : Nat → Int32) (t_told_beats : Nat → Int32) (x1 : Int32) (r_ : Int32) (o_t_down : Int32) (o_t_steps : Int32) (hf : f_X6_takeStep x1 t_down t_steps t_told_count t_told_depth t_told_noon t_told_depthBehind t_line t_told_kinds t_strides t_told_beats = some (r_, o_t_down, o_t_steps)) : Met l yX6_takeStep wsX6_takeStep rm_X6_takeStep (va_Pc [.ref q_t, .int x1] (PU (dC, dI) cI cZ [(q_t, .inr (6, [.ref q_t_told, .ref q_t_line, .ref q_t_strides, .ref q_t_strains, .int t_down, .int t_steps])), (q_t_told, .inr (3, [.ref q_t_told_beats, .ref q_t_told_kinds, .int t_told_count, .int t_told_depth, .int t_told_noon, .int t_told_depthBehind])), (q_t_line, .inl (cI, 5, .inl t_line)), (q_t_told_kinds, .inl (cI, 5, .inl t_told_kinds)), (q_t_strides, .inl (cI, 5, .inl t_strides)), (q_t_told_beats, .inl (cI, 5, .inl t_told_beats))] sz)) (va_Qi (fun (r : Int32) (_ : Unit) => r = r_) (fun _ t => va_P (dC, dI) vwCl [(q_t, .inr (6, [.ref q_t_told, .ref q_t_line, .ref q_t_strides, .ref q_t_strains, .int o_t_down, .int o_t_steps])), (q_t_told, .inr (3, [.ref q_t_told_beats, .ref q_t_told_kinds, .int t_told_count, .int t_told_depth, .int t_told_noon, .int t_told_depthBehind])), (q_t_line, .inl (cI, 5, .inl t_line)), (q_t_told_kinds, .inl (cI, 5, .inl t_told_kinds)), (q_t_strides, .inl (cI, 5, .inl t_strides)), (q_t_told_beats, .inl (cI, 5, .inl t_told_beats))] t.heap) (va_A [(q_t, .inr (6, [.ref q_t_told, .ref q_t_line, .ref q_t_strides, .ref q_t_strains, .int t_down, .int t_steps])), (q_t_told, .inr (3, [.ref q_t_told_beats, .ref q_t_told_kinds, .int t_told_count, .int t_told_depth, .int t_told_noon, .int t_told_depthBehind])), (q_t_line, .inl (cI, 5, .inl t_line)), (q_t_told_kinds, .inl (cI, 5, .inl t_told_kinds)), (q_t_strides, .inl (cI, 5, .inl t_strides)), (q_t_told_beats, .inl (cI, 5, .inl t_told_beats))] sz)) 0 0 (va_A [(q_t, .inr (6, [.ref q_t_told, .ref q_t_line, .ref q_t_strides, .ref q_t_strains, .int t_down, .int t_steps])), (q_t_told, .inr (3, [.ref q_t_told_beats, .ref q_t_told_kinds, .int t_told_count, .int t_told_depth, .int t_told_noon, .int t_told_depthBehind])), (q_t_line, .inl (cI, 5, .inl t_line)), (q_t_told_kinds, .inl (cI, 5, .inl t_told_kinds)), (q_t_strides, .inl (cI, 5, .inl t_strides)), (q_t_told_beats, .inl (cI, 5, .inl t_told_beats))] sz) := by
  refine MetI (cc := cX6_takeStep) (maxL := 9) (by decide) rfl (Nat.le_of_ble_eq_true rfl) (fun _ h => h) ?_
  intro p e s m args below meth c A Q ls hx CF hK hA hD hP hS hl hB hAe hsz hret
  have hb := CF.2.1
  have hml := CF.2.2.1
  have hown := CF.2.2.2.1
  have hts := CF.2.2.2.2
  have hD0 := hD
  replace hl : lv_has ls 9 [(0, .ref q_t), (1, .int x1)] := hl
  have hinX6 : ∀ w ∈ wsX60, w ∈ wsX6_takeStep := fun _ h => List.mem_cons_of_mem _ (List.mem_append_left _ (List.mem_append_right _ h))
  have hinX3 : ∀ w ∈ wsX30, w ∈ wsX6_takeStep := fun _ h => List.mem_cons_of_mem _ (List.mem_append_right _ h)
  have w_0 := hts (.fieldLink RX6 41 "PassInStep$Yard" "down" "I") (by decide +kernel)
  have w_1 := hts (.fieldLink RX6 21 "PassInStep$Yard" "told" "LPassInStep$Party;") (by decide +kernel)
  have w_2 := hts (.fieldLink RX6 45 "PassInStep$Yard" "steps" "I") (by decide +kernel)
  have w_3 := hts (.initialized RX7) (by decide +kernel)
  have w_4 := hts (.static yX7_isBetween) (by decide +kernel)
  have h_23 : ∀ (x1 : Int32) (x2 : Int32) (t_steps : Int32) (fu23 : Nat) (x3 : Int32) (x4 : Int32) (x5 : Int32) (x6 : Int32) (t_down : Int32) (H : Heap) (locs : List Loc) (ls : Array Slot), va_P (dC, dI) vwCl [(q_t, .inr (6, [.ref q_t_told, .ref q_t_line, .ref q_t_strides, .ref q_t_strains, .int t_down, .int t_steps])), (q_t_told, .inr (3, [.ref q_t_told_beats, .ref q_t_told_kinds, .int t_told_count, .int t_told_depth, .int t_told_noon, .int t_told_depthBehind])), (q_t_line, .inl (cI, 5, .inl t_line)), (q_t_told_kinds, .inl (cI, 5, .inl t_told_kinds)), (q_t_strides, .inl (cI, 5, .inl t_strides)), (q_t_told_beats, .inl (cI, 5, .inl t_told_beats))] H → va_S A s.heap H locs → lv_has ls 9 [(0, .ref q_t), (1, .int x1), (2, .int x2), (3, .int x3), (4, .int x4), (5, .int x5), (6, .int x6)] → L_X6_takeStep_23 x1 x2 t_steps t_told_count t_line t_told_kinds t_strides t_told_beats fu23 x3 x4 x5 x6 t_down = some (r_, o_t_down, o_t_steps) → W p l e rm_X6_takeStep s m args below meth c H locs 0 0 Q (F0 m 23 ls []) := by
    intro x1 x2 t_steps fu23
    induction fu23 with
    | zero =>
      intro x3 x4 x5 x6 t_down H locs ls hP hS hl hf
      rw [L_X6_takeStep_23] at hf
      cases hf
    | succ fu23 ih23 =>
      have h_119 : ∀ (x3 : Int32) (x4 : Int32) (x5 : Int32) (x6 : Int32) (t_down : Int32) (H : Heap) (locs : List Loc) (ls : Array Slot), va_P (dC, dI) vwCl [(q_t, .inr (6, [.ref q_t_told, .ref q_t_line, .ref q_t_strides, .ref q_t_strains, .int t_down, .int t_steps])), (q_t_told, .inr (3, [.ref q_t_told_beats, .ref q_t_told_kinds, .int t_told_count, .int t_told_depth, .int t_told_noon, .int t_told_depthBehind])), (q_t_line, .inl (cI, 5, .inl t_line)), (q_t_told_kinds, .inl (cI, 5, .inl t_told_kinds)), (q_t_strides, .inl (cI, 5, .inl t_strides)), (q_t_told_beats, .inl (cI, 5, .inl t_told_beats))] H → va_S A s.heap H locs → lv_has ls 9 [(0, .ref q_t), (1, .int x1), (2, .int x2), (3, .int x3), (4, .int x4), (5, .int x5), (6, .int x6)] → J_X6_takeStep_119 (L_X6_takeStep_23 x1 x2 t_steps t_told_count t_line t_told_kinds t_strides t_told_beats fu23) x3 x4 x5 x6 t_down = some (r_, o_t_down, o_t_steps) → W p l e rm_X6_takeStep s m args below meth c H locs 0 0 Q (F0 m 119 ls []) := by
        intro x3 x4 x5 x6 t_down H locs ls hP hS hl hf
        have hD : va_D A [(q_t, .inr (6, [.ref q_t_told, .ref q_t_line, .ref q_t_strides, .ref q_t_strains, .int t_down, .int t_steps])), (q_t_told, .inr (3, [.ref q_t_told_beats, .ref q_t_told_kinds, .int t_told_count, .int t_told_depth, .int t_told_noon, .int t_told_depthBehind])), (q_t_line, .inl (cI, 5, .inl t_line)), (q_t_told_kinds, .inl (cI, 5, .inl t_told_kinds)), (q_t_strides, .inl (cI, 5, .inl t_strides)), (q_t_told_beats, .inl (cI, 5, .inl t_told_beats))] := wd hD0 rfl
        rw [J_X6_takeStep_119] at hf
        refine lv_iinc (v := (x6 + 1)) (lv' := [(6, .int (x6 + 1)), (0, .ref q_t), (1, .int x1), (2, .int x2), (3, .int x3), (4, .int x4), (5, .int x5)]) hx hb dX6_takeStep_119 hl (k := 6) rfl rfl (by decide) rfl (fun ls hl => ?_)
        refine lv_goto (tgt := 23) hx hb dX6_takeStep_122 (by decide) ?_
        exact ih23 x3 x4 x5 (x6 + 1) t_down _ _ _ hP hS (lv_sub hl [1, 2, 3, 4, 5, 6, 0] rfl) hf
      have h_103 : ∀ (x3 : Int32) (x4 : Int32) (x5 : Int32) (x6 : Int32) (x7 : Int32) (t_down : Int32) (H : Heap) (locs : List Loc) (ls : Array Slot), va_P (dC, dI) vwCl [(q_t, .inr (6, [.ref q_t_told, .ref q_t_line, .ref q_t_strides, .ref q_t_strains, .int t_down, .int t_steps])), (q_t_told, .inr (3, [.ref q_t_told_beats, .ref q_t_told_kinds, .int t_told_count, .int t_told_depth, .int t_told_noon, .int t_told_depthBehind])), (q_t_line, .inl (cI, 5, .inl t_line)), (q_t_told_kinds, .inl (cI, 5, .inl t_told_kinds)), (q_t_strides, .inl (cI, 5, .inl t_strides)), (q_t_told_beats, .inl (cI, 5, .inl t_told_beats))] H → va_S A s.heap H locs → lv_has ls 9 [(0, .ref q_t), (1, .int x1), (2, .int x2), (3, .int x3), (4, .int x4), (5, .int x5), (6, .int x6), (7, .int x7)] → J_X6_takeStep_103 (L_X6_takeStep_23 x1 x2 t_steps t_told_count t_line t_told_kinds t_strides t_told_beats fu23) x3 x4 x5 x6 x7 t_down = some (r_, o_t_down, o_t_steps) → W p l e rm_X6_takeStep s m args below meth c H locs 0 0 Q (F0 m 103 ls []) := by
        intro x3 x4 x5 x6 x7 t_down H locs ls hP hS hl hf
        have hD : va_D A [(q_t, .inr (6, [.ref q_t_told, .ref q_t_line, .ref q_t_strides, .ref q_t_strains, .int t_down, .int t_steps])), (q_t_told, .inr (3, [.ref q_t_told_beats, .ref q_t_told_kinds, .int t_told_count, .int t_told_depth, .int t_told_noon, .int t_told_depthBehind])), (q_t_line, .inl (cI, 5, .inl t_line)), (q_t_told_kinds, .inl (cI, 5, .inl t_told_kinds)), (q_t_strides, .inl (cI, 5, .inl t_strides)), (q_t_told_beats, .inl (cI, 5, .inl t_told_beats))] := wd hD0 rfl
        rw [J_X6_takeStep_103] at hf
        refine lv_aload_n hx hb dX6_takeStep_103 rfl (lv_at hl 0 rfl) ?_
        refine lv_dup hx hb dX6_takeStep_104 rfl ?_
        refine va_get (D := (dC, dI)) (ci := 6) (v := .int t_down) (C := RX6) (T := TX6) (N := 6) hx hb hts hinX6 hown hK.1 hP 0 rfl rfl 4 (by decide) w_0 (fun _ h9 => h9) rfl dX6_takeStep_105 ?_
        refine lv_iconst (v := 1) hx hb dX6_takeStep_108 (by decide) ?_
        refine lv_iload hx hb dX6_takeStep_109 (lv_at hl 7 rfl) ?_
        refine lv_ishl hx hb dX6_takeStep_111 ?_
        refine lv_ior hx hb dX6_takeStep_112 ?_
        refine va_put (D := (dC, dI)) (ci := 6) (v := .int (t_down ||| ((1 : Int32) <<< (x7 &&& 31)))) (ty := .int) (C := RX6) (T := TX6) (N := 6) hx hb hts hinX6 tyX6 tyX6_ok nmX6 hown hK.1 hP hD hS 0 rfl rfl 4 (by decide) w_0 (fun _ h9 => h9) rfl (by decide +kernel) rfl rfl (Nat.le_of_ble_eq_true rfl) dX6_takeStep_113 (fun H locs hP hD hS => ?_)
        replace hP : va_P (dC, dI) vwCl [(q_t, .inr (6, [.ref q_t_told, .ref q_t_line, .ref q_t_strides, .ref q_t_strains, .int (t_down ||| ((1 : Int32) <<< (x7 &&& 31))), .int t_steps])), (q_t_told, .inr (3, [.ref q_t_told_beats, .ref q_t_told_kinds, .int t_told_count, .int t_told_depth, .int t_told_noon, .int t_told_depthBehind])), (q_t_line, .inl (cI, 5, .inl t_line)), (q_t_told_kinds, .inl (cI, 5, .inl t_told_kinds)), (q_t_strides, .inl (cI, 5, .inl t_strides)), (q_t_told_beats, .inl (cI, 5, .inl t_told_beats))] H := hP
        replace hD : va_D A [(q_t, .inr (6, [.ref q_t_told, .ref q_t_line, .ref q_t_strides, .ref q_t_strains, .int (t_down ||| ((1 : Int32) <<< (x7 &&& 31))), .int t_steps])), (q_t_told, .inr (3, [.ref q_t_told_beats, .ref q_t_told_kinds, .int t_told_count, .int t_told_depth, .int t_told_noon, .int t_told_depthBehind])), (q_t_line, .inl (cI, 5, .inl t_line)), (q_t_told_kinds, .inl (cI, 5, .inl t_told_kinds)), (q_t_strides, .inl (cI, 5, .inl t_strides)), (q_t_told_beats, .inl (cI, 5, .inl t_told_beats))] := hD
        refine lv_iinc (v := (x3 + 1)) (lv' := [(3, .int (x3 + 1)), (0, .ref q_t), (1, .int x1), (2, .int x2), (4, .int x4), (5, .int x5), (6, .int x6), (7, .int x7)]) hx hb dX6_takeStep_116 hl (k := 3) rfl rfl (by decide) rfl (fun ls hl => ?_)
        exact h_119 (x3 + 1) x4 x5 x6 (t_down ||| ((1 : Int32) <<< (x7 &&& 31))) _ _ _ hP hS (lv_sub hl [1, 2, 3, 0, 4, 5, 6] rfl) hf
      have h_93 : ∀ (x3 : Int32) (x6 : Int32) (x8 : Int32) (t_down : Int32) (H : Heap) (locs : List Loc) (ls : Array Slot), va_P (dC, dI) vwCl [(q_t, .inr (6, [.ref q_t_told, .ref q_t_line, .ref q_t_strides, .ref q_t_strains, .int t_down, .int t_steps])), (q_t_told, .inr (3, [.ref q_t_told_beats, .ref q_t_told_kinds, .int t_told_count, .int t_told_depth, .int t_told_noon, .int t_told_depthBehind])), (q_t_line, .inl (cI, 5, .inl t_line)), (q_t_told_kinds, .inl (cI, 5, .inl t_told_kinds)), (q_t_strides, .inl (cI, 5, .inl t_strides)), (q_t_told_beats, .inl (cI, 5, .inl t_told_beats))] H → va_S A s.heap H locs → lv_has ls 9 [(0, .ref q_t), (1, .int x1), (2, .int x2), (3, .int x3), (6, .int x6), (8, .int x8)] → J_X6_takeStep_93 (L_X6_takeStep_23 x1 x2 t_steps t_told_count t_line t_told_kinds t_strides t_told_beats fu23) x3 x6 x8 t_down = some (r_, o_t_down, o_t_steps) → W p l e rm_X6_takeStep s m args below meth c H locs 0 0 Q (F0 m 93 ls []) := by
        intro x3 x6 x8 t_down H locs ls hP hS hl hf
        have hD : va_D A [(q_t, .inr (6, [.ref q_t_told, .ref q_t_line, .ref q_t_strides, .ref q_t_strains, .int t_down, .int t_steps])), (q_t_told, .inr (3, [.ref q_t_told_beats, .ref q_t_told_kinds, .int t_told_count, .int t_told_depth, .int t_told_noon, .int t_told_depthBehind])), (q_t_line, .inl (cI, 5, .inl t_line)), (q_t_told_kinds, .inl (cI, 5, .inl t_told_kinds)), (q_t_strides, .inl (cI, 5, .inl t_strides)), (q_t_told_beats, .inl (cI, 5, .inl t_told_beats))] := wd hD0 rfl
        rw [J_X6_takeStep_93] at hf
        refine lv_iconst (v := 1) hx hb dX6_takeStep_93 (by decide) ?_
        refine lv_istore (lv' := [(4, .int 1), (0, .ref q_t), (1, .int x1), (2, .int x2), (3, .int x3), (6, .int x6), (8, .int x8)]) hx hb dX6_takeStep_94 hl (by decide) rfl (fun ls hl => ?_)
        refine lv_iload hx hb dX6_takeStep_96 (lv_at hl 6 rfl) ?_
        refine lv_istore (lv' := [(5, .int x8), (4, .int 1), (0, .ref q_t), (1, .int x1), (2, .int x2), (3, .int x3), (6, .int x6), (8, .int x8)]) hx hb dX6_takeStep_98 hl (by decide) rfl (fun ls hl => ?_)
        refine lv_goto (tgt := 119) hx hb dX6_takeStep_100 (by decide) ?_
        exact h_119 x3 1 x8 x6 t_down _ _ _ hP hS (lv_sub hl [2, 3, 4, 5, 1, 0, 6] rfl) hf
      intro x3 x4 x5 x6 t_down H locs ls hP hS hl hf
      have hD : va_D A [(q_t, .inr (6, [.ref q_t_told, .ref q_t_line, .ref q_t_strides, .ref q_t_strains, .int t_down, .int t_steps])), (q_t_told, .inr (3, [.ref q_t_told_beats, .ref q_t_told_kinds, .int t_told_count, .int t_told_depth, .int t_told_noon, .int t_told_depthBehind])), (q_t_line, .inl (cI, 5, .inl t_line)), (q_t_told_kinds, .inl (cI, 5, .inl t_told_kinds)), (q_t_strides, .inl (cI, 5, .inl t_strides)), (q_t_told_beats, .inl (cI, 5, .inl t_told_beats))] := wd hD0 rfl
      rw [L_X6_takeStep_23] at hf
      refine lv_iload hx hb dX6_takeStep_23 (lv_at hl 6 rfl) ?_
      refine lv_aload_n hx hb dX6_takeStep_25 rfl (lv_at hl 0 rfl) ?_
      refine va_get (D := (dC, dI)) (ci := 6) (v := .ref q_t_told) (C := RX6) (T := TX6) (N := 6) hx hb hts hinX6 hown hK.1 hP 0 rfl rfl 0 (by decide) w_1 (fun _ h9 => h9) rfl dX6_takeStep_26 ?_
      obtain ⟨r1, e3, hf⟩ := bd_ok hf
      refine kVi (As := []) CF (cwV 0 hts gX6_takeStep_X3_size rfl rfl rfl (by decide +kernel) ⟨Nat.le_of_ble_eq_true rfl, Nat.le_of_ble_eq_true rfl⟩) PU_blind hP hD hS hA (va_recv hK.1 hP (ci := 3) (q0 := 1) rfl rfl) [1] (fun h1 h2 h3 => PU_pre hK h1 A h2 h3) (c_X3_size l dC dI cI cZ q_t_told q_t_told_beats q_t_told_kinds _ t_told_count t_told_depth t_told_noon t_told_depthBehind r1 e3) rfl rfl rfl rfl hl.1 rfl (Nat.le_of_ble_eq_true rfl) dX6_takeStep_29 ⟨Nat.zero_le _, Nat.zero_le _⟩ (fun H locs hP hS => ?_)
      replace hP : va_P (dC, dI) vwCl [(q_t, .inr (6, [.ref q_t_told, .ref q_t_line, .ref q_t_strides, .ref q_t_strains, .int t_down, .int t_steps])), (q_t_told, .inr (3, [.ref q_t_told_beats, .ref q_t_told_kinds, .int t_told_count, .int t_told_depth, .int t_told_noon, .int t_told_depthBehind])), (q_t_line, .inl (cI, 5, .inl t_line)), (q_t_told_kinds, .inl (cI, 5, .inl t_told_kinds)), (q_t_strides, .inl (cI, 5, .inl t_strides)), (q_t_told_beats, .inl (cI, 5, .inl t_told_beats))] H := hP
      refine lv_icmp_ge (tgt := 125) hx hb dX6_takeStep_32 (by decide) (fun hc => ?_) (fun hc => ?_)
      · replace hf := ip hc hf
        refine lv_aload_n hx hb dX6_takeStep_125 rfl (lv_at hl 0 rfl) ?_
        refine lv_dup hx hb dX6_takeStep_126 rfl ?_
        refine va_get (D := (dC, dI)) (ci := 6) (v := .int t_steps) (C := RX6) (T := TX6) (N := 6) hx hb hts hinX6 hown hK.1 hP 0 rfl rfl 5 (by decide) w_2 (fun _ h9 => h9) rfl dX6_takeStep_127 ?_
        refine lv_iconst (v := 1) hx hb dX6_takeStep_130 (by decide) ?_
        refine lv_iadd hx hb dX6_takeStep_131 ?_
        refine va_put (D := (dC, dI)) (ci := 6) (v := .int (t_steps + 1)) (ty := .int) (C := RX6) (T := TX6) (N := 6) hx hb hts hinX6 tyX6 tyX6_ok nmX6 hown hK.1 hP hD hS 0 rfl rfl 5 (by decide) w_2 (fun _ h9 => h9) rfl (by decide +kernel) rfl rfl (Nat.le_of_ble_eq_true rfl) dX6_takeStep_132 (fun H locs hP hD hS => ?_)
        replace hP : va_P (dC, dI) vwCl [(q_t, .inr (6, [.ref q_t_told, .ref q_t_line, .ref q_t_strides, .ref q_t_strains, .int t_down, .int (t_steps + 1)])), (q_t_told, .inr (3, [.ref q_t_told_beats, .ref q_t_told_kinds, .int t_told_count, .int t_told_depth, .int t_told_noon, .int t_told_depthBehind])), (q_t_line, .inl (cI, 5, .inl t_line)), (q_t_told_kinds, .inl (cI, 5, .inl t_told_kinds)), (q_t_strides, .inl (cI, 5, .inl t_strides)), (q_t_told_beats, .inl (cI, 5, .inl t_told_beats))] H := hP
        replace hD : va_D A [(q_t, .inr (6, [.ref q_t_told, .ref q_t_line, .ref q_t_strides, .ref q_t_strains, .int t_down, .int (t_steps + 1)])), (q_t_told, .inr (3, [.ref q_t_told_beats, .ref q_t_told_kinds, .int t_told_count, .int t_told_depth, .int t_told_noon, .int t_told_depthBehind])), (q_t_line, .inl (cI, 5, .inl t_line)), (q_t_told_kinds, .inl (cI, 5, .inl t_told_kinds)), (q_t_strides, .inl (cI, 5, .inl t_strides)), (q_t_told_beats, .inl (cI, 5, .inl t_told_beats))] := hD
        refine lv_iload_n hx hb dX6_takeStep_135 rfl (lv_at hl 3 rfl) ?_
        obtain ⟨e0, hf⟩ := ij2 hf
        obtain ⟨e1, hf⟩ := ijc hf
        have e2 := hf
        refine W.eq (congrArg (fun z => F0 m 136 ls [.int z]) e0) ?_
        exact hret _ _ _ _ (by rw [← e1, ← e2]; exact hP) hS dX6_takeStep_136
      · replace hf := iq hc hf
        refine lv_aload_n hx hb dX6_takeStep_35 rfl (lv_at hl 0 rfl) ?_
        refine lv_iload hx hb dX6_takeStep_36 (lv_at hl 6 rfl) ?_
        obtain ⟨r4, e6, hf⟩ := bd_ok hf
        refine kVi (As := [.int x6]) CF (cwV 1 hts gX6_takeStep_X6_walkerAt rfl rfl rfl (by decide +kernel) ⟨Nat.le_of_ble_eq_true rfl, Nat.le_of_ble_eq_true rfl⟩) PU_blind hP hD hS hA (va_recv hK.1 hP (ci := 6) (q0 := 0) rfl rfl) [0, 2] (fun h1 h2 h3 => PU_pre hK h1 A h2 h3) (c_X6_walkerAt l dC dI cI cZ q_t q_t_told q_t_line q_t_strides q_t_strains _ t_down t_steps t_line x6 r4 e6) rfl rfl rfl rfl hl.1 rfl (Nat.le_of_ble_eq_true rfl) dX6_takeStep_38 ⟨Nat.zero_le _, Nat.zero_le _⟩ (fun H locs hP hS => ?_)
        replace hP : va_P (dC, dI) vwCl [(q_t, .inr (6, [.ref q_t_told, .ref q_t_line, .ref q_t_strides, .ref q_t_strains, .int t_down, .int t_steps])), (q_t_told, .inr (3, [.ref q_t_told_beats, .ref q_t_told_kinds, .int t_told_count, .int t_told_depth, .int t_told_noon, .int t_told_depthBehind])), (q_t_line, .inl (cI, 5, .inl t_line)), (q_t_told_kinds, .inl (cI, 5, .inl t_told_kinds)), (q_t_strides, .inl (cI, 5, .inl t_strides)), (q_t_told_beats, .inl (cI, 5, .inl t_told_beats))] H := hP
        refine lv_istore (lv' := [(7, .int r4), (0, .ref q_t), (1, .int x1), (2, .int x2), (3, .int x3), (4, .int x4), (5, .int x5), (6, .int x6)]) hx hb dX6_takeStep_41 hl (by decide) rfl (fun ls hl => ?_)
        refine lv_aload_n hx hb dX6_takeStep_43 rfl (lv_at hl 1 rfl) ?_
        refine lv_iload hx hb dX6_takeStep_44 (lv_at hl 0 rfl) ?_
        obtain ⟨r7, e9, hf⟩ := bd_ok hf
        refine kVi (As := [.int r4]) CF (cwV 1 hts gX6_takeStep_X6_isDown rfl rfl rfl (by decide +kernel) ⟨Nat.le_of_ble_eq_true rfl, Nat.le_of_ble_eq_true rfl⟩) PU_blind hP hD hS hA (va_recv hK.1 hP (ci := 6) (q0 := 0) rfl rfl) [0] (fun h1 h2 h3 => PU_pre hK h1 A h2 h3) (c_X6_isDown l dC dI cI cZ q_t q_t_told q_t_line q_t_strides q_t_strains _ t_down t_steps r4 r7 e9) rfl rfl rfl rfl hl.1 rfl (Nat.le_of_ble_eq_true rfl) dX6_takeStep_46 ⟨Nat.zero_le _, Nat.zero_le _⟩ (fun H locs hP hS => ?_)
        replace hP : va_P (dC, dI) vwCl [(q_t, .inr (6, [.ref q_t_told, .ref q_t_line, .ref q_t_strides, .ref q_t_strains, .int t_down, .int t_steps])), (q_t_told, .inr (3, [.ref q_t_told_beats, .ref q_t_told_kinds, .int t_told_count, .int t_told_depth, .int t_told_noon, .int t_told_depthBehind])), (q_t_line, .inl (cI, 5, .inl t_line)), (q_t_told_kinds, .inl (cI, 5, .inl t_told_kinds)), (q_t_strides, .inl (cI, 5, .inl t_strides)), (q_t_told_beats, .inl (cI, 5, .inl t_told_beats))] H := hP
        refine lv_if_eq (tgt := 55) hx hb dX6_takeStep_49 (by decide) (fun hc => ?_) (fun hc => ?_)
        · replace hf := ip hc hf
          refine lv_aload_n hx hb dX6_takeStep_55 rfl (lv_at hl 1 rfl) ?_
          refine lv_iload hx hb dX6_takeStep_56 (lv_at hl 0 rfl) ?_
          refine lv_iload hx hb dX6_takeStep_58 (lv_at hl 5 rfl) ?_
          refine lv_iload hx hb dX6_takeStep_60 (lv_at hl 6 rfl) ?_
          refine lv_iload_n hx hb dX6_takeStep_62 rfl (lv_at hl 2 rfl) ?_
          obtain ⟨r10, e12, hf⟩ := bd_ok hf
          refine kVi (As := [.int r4, .int x4, .int x5, .int x1]) CF (cwV 4 hts gX6_takeStep_X6_treadBehind rfl rfl rfl (by decide +kernel) ⟨Nat.le_of_ble_eq_true rfl, Nat.le_of_ble_eq_true rfl⟩) PU_blind hP hD hS hA (va_recv hK.1 hP (ci := 6) (q0 := 0) rfl rfl) [0, 1, 3, 4, 5] (fun h1 h2 h3 => PU_pre hK h1 A h2 h3) (c_X6_treadBehind l dC dI cI cZ q_t q_t_told q_t_line q_t_strides q_t_strains q_t_told_beats q_t_told_kinds _ t_down t_steps t_told_count t_told_depth t_told_noon t_told_depthBehind t_told_kinds t_strides t_told_beats r4 x4 x5 x1 r10 e12) rfl rfl rfl rfl hl.1 rfl (Nat.le_of_ble_eq_true rfl) dX6_takeStep_63 ⟨Nat.zero_le _, Nat.zero_le _⟩ (fun H locs hP hS => ?_)
          replace hP : va_P (dC, dI) vwCl [(q_t, .inr (6, [.ref q_t_told, .ref q_t_line, .ref q_t_strides, .ref q_t_strains, .int t_down, .int t_steps])), (q_t_told, .inr (3, [.ref q_t_told_beats, .ref q_t_told_kinds, .int t_told_count, .int t_told_depth, .int t_told_noon, .int t_told_depthBehind])), (q_t_line, .inl (cI, 5, .inl t_line)), (q_t_told_kinds, .inl (cI, 5, .inl t_told_kinds)), (q_t_strides, .inl (cI, 5, .inl t_strides)), (q_t_told_beats, .inl (cI, 5, .inl t_told_beats))] H := hP
          refine lv_istore (lv' := [(8, .int r10), (7, .int r4), (0, .ref q_t), (1, .int x1), (2, .int x2), (3, .int x3), (4, .int x4), (5, .int x5), (6, .int x6)]) hx hb dX6_takeStep_66 hl (by decide) rfl (fun ls hl => ?_)
          refine lv_iload hx hb dX6_takeStep_68 (lv_at hl 6 rfl) ?_
          refine lv_if_eq (tgt := 83) hx hb dX6_takeStep_70 (by decide) (fun hc => ?_) (fun hc => ?_)
          · replace hf := ip hc hf
            refine lv_iload hx hb dX6_takeStep_83 (lv_at hl 0 rfl) ?_
            refine lv_iconst (v := 1) hx hb dX6_takeStep_85 (by decide) ?_
            refine lv_iload_n hx hb dX6_takeStep_86 rfl (lv_at hl 4 rfl) ?_
            obtain ⟨r13, e15, hf⟩ := bd_ok hf
            refine kNi (As := [.int r10, .int 1, .int x2]) CF ⟨va_cnB 3 hts gX6_takeStep_X7_isBetween_n90 rfl rfl rfl (nw_X6_90 hK.2) w_3 (by decide +kernel) ⟨Nat.le_of_ble_eq_true rfl, Nat.le_of_ble_eq_true rfl⟩, w_4, trivial⟩ PU_blind hP hD hS hA [] (fun h1 h2 h3 => PU_pre hK h1 A h2 h3) (c_X7_isBetween l dC dI cI cZ _ r10 1 x2 r13 e15) rfl rfl rfl rfl hl.1 rfl (Nat.le_of_ble_eq_true rfl) dX6_takeStep_87 ⟨Nat.zero_le _, Nat.zero_le _⟩ (fun H locs hP hS => ?_)
            replace hP : va_P (dC, dI) vwCl [(q_t, .inr (6, [.ref q_t_told, .ref q_t_line, .ref q_t_strides, .ref q_t_strains, .int t_down, .int t_steps])), (q_t_told, .inr (3, [.ref q_t_told_beats, .ref q_t_told_kinds, .int t_told_count, .int t_told_depth, .int t_told_noon, .int t_told_depthBehind])), (q_t_line, .inl (cI, 5, .inl t_line)), (q_t_told_kinds, .inl (cI, 5, .inl t_told_kinds)), (q_t_strides, .inl (cI, 5, .inl t_strides)), (q_t_told_beats, .inl (cI, 5, .inl t_told_beats))] H := hP
            refine lv_if_eq (tgt := 103) hx hb dX6_takeStep_90 (by decide) (fun hc => ?_) (fun hc => ?_)
            · replace hf := ip hc hf
              exact h_103 x3 x4 x5 x6 r4 t_down _ _ _ hP hS (lv_sub hl [2, 3, 4, 5, 6, 7, 8, 1] rfl) hf
            · replace hf := iq hc hf
              exact h_93 x3 x6 r10 t_down _ _ _ hP hS (lv_sub hl [2, 3, 4, 5, 8, 0] rfl) hf
          · replace hf := iq hc hf
            refine lv_iload hx hb dX6_takeStep_73 (lv_at hl 0 rfl) ?_
            refine lv_iload hx hb dX6_takeStep_75 (lv_at hl 7 rfl) ?_
            refine lv_icmp_ne (tgt := 103) hx hb dX6_takeStep_77 (by decide) (fun hc => ?_) (fun hc => ?_)
            · replace hf := iq hc hf
              exact h_103 x3 x4 x5 x6 r4 t_down _ _ _ hP hS (lv_sub hl [2, 3, 4, 5, 6, 7, 8, 1] rfl) hf
            · replace hf := ip hc hf
              refine lv_goto (tgt := 93) hx hb dX6_takeStep_80 (by decide) ?_
              exact h_93 x3 x6 r10 t_down _ _ _ hP hS (lv_sub hl [2, 3, 4, 5, 8, 0] rfl) hf
        · replace hf := iq hc hf
          refine lv_goto (tgt := 119) hx hb dX6_takeStep_52 (by decide) ?_
          exact h_119 x3 x4 x5 x6 t_down _ _ _ hP hS (lv_sub hl [1, 2, 3, 4, 5, 6, 7] rfl) hf
  rw [f_X6_takeStep] at hf
  refine lv_aload_n hx hb dX6_takeStep_0 rfl (lv_at hl 0 rfl) ?_
  refine va_get (D := (dC, dI)) (ci := 6) (v := .ref q_t_told) (C := RX6) (T := TX6) (N := 6) hx hb hts hinX6 hown hK.1 hP 0 rfl rfl 0 (by decide) w_1 (fun _ h9 => h9) rfl dX6_takeStep_1 ?_
  refine lv_aload_n hx hb dX6_takeStep_4 rfl (lv_at hl 0 rfl) ?_
  refine va_get (D := (dC, dI)) (ci := 6) (v := .int t_steps) (C := RX6) (T := TX6) (N := 6) hx hb hts hinX6 hown hK.1 hP 0 rfl rfl 5 (by decide) w_2 (fun _ h9 => h9) rfl dX6_takeStep_5 ?_
  obtain ⟨r16, e18, hf⟩ := bd_ok hf
  refine kVi (As := [.int t_steps]) CF (cwV 1 hts gX6_takeStep_X3_snowAt rfl rfl rfl (by decide +kernel) ⟨Nat.le_of_ble_eq_true rfl, Nat.le_of_ble_eq_true rfl⟩) PU_blind hP hD hS hA (va_recv hK.1 hP (ci := 3) (q0 := 1) rfl rfl) [1] (fun h1 h2 h3 => PU_pre hK h1 A h2 h3) (c_X3_snowAt l dC dI cI cZ q_t_told q_t_told_beats q_t_told_kinds _ t_told_count t_told_depth t_told_noon t_told_depthBehind t_steps r16 e18) rfl rfl rfl rfl hl.1 rfl (Nat.le_of_ble_eq_true rfl) dX6_takeStep_8 ⟨Nat.zero_le _, Nat.zero_le _⟩ (fun H locs hP hS => ?_)
  replace hP : va_P (dC, dI) vwCl [(q_t, .inr (6, [.ref q_t_told, .ref q_t_line, .ref q_t_strides, .ref q_t_strains, .int t_down, .int t_steps])), (q_t_told, .inr (3, [.ref q_t_told_beats, .ref q_t_told_kinds, .int t_told_count, .int t_told_depth, .int t_told_noon, .int t_told_depthBehind])), (q_t_line, .inl (cI, 5, .inl t_line)), (q_t_told_kinds, .inl (cI, 5, .inl t_told_kinds)), (q_t_strides, .inl (cI, 5, .inl t_strides)), (q_t_told_beats, .inl (cI, 5, .inl t_told_beats))] H := hP
  refine lv_istore_n (lv' := [(2, .int r16), (0, .ref q_t), (1, .int x1)]) hx hb dX6_takeStep_11 rfl hl (by decide) rfl (fun ls hl => ?_)
  refine lv_iconst (v := 0) hx hb dX6_takeStep_12 (by decide) ?_
  refine lv_istore_n (lv' := [(3, .int 0), (2, .int r16), (0, .ref q_t), (1, .int x1)]) hx hb dX6_takeStep_13 rfl hl (by decide) rfl (fun ls hl => ?_)
  refine lv_iconst (v := 0) hx hb dX6_takeStep_14 (by decide) ?_
  refine lv_istore (lv' := [(4, .int 0), (3, .int 0), (2, .int r16), (0, .ref q_t), (1, .int x1)]) hx hb dX6_takeStep_15 hl (by decide) rfl (fun ls hl => ?_)
  refine lv_iconst (v := 0) hx hb dX6_takeStep_17 (by decide) ?_
  refine lv_istore (lv' := [(5, .int 0), (4, .int 0), (3, .int 0), (2, .int r16), (0, .ref q_t), (1, .int x1)]) hx hb dX6_takeStep_18 hl (by decide) rfl (fun ls hl => ?_)
  refine lv_iconst (v := 0) hx hb dX6_takeStep_20 (by decide) ?_
  refine lv_istore (lv' := [(6, .int 0), (5, .int 0), (4, .int 0), (3, .int 0), (2, .int r16), (0, .ref q_t), (1, .int x1)]) hx hb dX6_takeStep_21 hl (by decide) rfl (fun ls hl => ?_)
  exact h_23 x1 r16 t_steps fuelC 0 0 0 0 t_down _ _ _ hP hS (lv_sub hl [5, 6, 4, 3, 2, 1, 0] rfl) hf
