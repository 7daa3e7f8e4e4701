-- X6_writeTo X4_save X6_readFrom X4_restore X5_isFull X5_append X5_clear X5_fitsHead X5_fitsWalker X5_fits X5_faultPlace
abbrev rm_X6_writeTo : Room := { frames := 1, cells := 0, slots := 0, locals := 22 }
set_option maxHeartbeats 4000000 in
set_option maxRecDepth 100000 in
theorem c_X6_writeTo (l : Launch) (dC : Nat → ClassId) (dI : Nat → Nat → Nat) (cI cZ : ClassId) (q_t q_t_told q_t_line q_t_strides q_t_strains q_a1 : Nat) (sz : Nat) (t_down : Int32) (t_steps : Int32) (t_line : Nat → Int32) (a1 : Nat → Int32) (t_strides : Nat → Int32) (t_strains : Nat → Int32) (n_a1 : Nat) (x2 : Int32) (o_a1 : Nat → Int32) (hf : f_X6_writeTo x2 n_a1 t_down t_steps t_line a1 t_strides t_strains = some o_a1) : Met l yX6_writeTo wsX6_writeTo rm_X6_writeTo (va_Pc [.ref q_t, .ref q_a1, .int x2] (PU (dC, dI) cI cZ [(q_t, .inr (6, [.ref q_t_told, .ref q_t_line, .ref q_t_strides, .ref q_t_strains, .int t_down, .int t_steps])), (q_t_line, .inl (cI, 5, .inl t_line)), (q_a1, .inl (cI, n_a1, .inl a1)), (q_t_strides, .inl (cI, 5, .inl t_strides)), (q_t_strains, .inl (cI, 5, .inl t_strains))] sz)) (va_Qv (fun (_ : Unit) => True) (fun _ t => va_P (dC, dI) vwCl [(q_t, .inr (6, [.ref q_t_told, .ref q_t_line, .ref q_t_strides, .ref q_t_strains, .int t_down, .int t_steps])), (q_t_line, .inl (cI, 5, .inl t_line)), (q_a1, .inl (cI, n_a1, .inl o_a1)), (q_t_strides, .inl (cI, 5, .inl t_strides)), (q_t_strains, .inl (cI, 5, .inl t_strains))] t.heap) (va_A [(q_t, .inr (6, [.ref q_t_told, .ref q_t_line, .ref q_t_strides, .ref q_t_strains, .int t_down, .int t_steps])), (q_t_line, .inl (cI, 5, .inl t_line)), (q_a1, .inl (cI, n_a1, .inl a1)), (q_t_strides, .inl (cI, 5, .inl t_strides)), (q_t_strains, .inl (cI, 5, .inl t_strains))] sz)) 0 0 (va_A [(q_t, .inr (6, [.ref q_t_told, .ref q_t_line, .ref q_t_strides, .ref q_t_strains, .int t_down, .int t_steps])), (q_t_line, .inl (cI, 5, .inl t_line)), (q_a1, .inl (cI, n_a1, .inl a1)), (q_t_strides, .inl (cI, 5, .inl t_strides)), (q_t_strains, .inl (cI, 5, .inl t_strains))] sz) := by
  refine MetV (cc := cX6_writeTo) (maxL := 4) (by decide) rfl (Nat.le_of_ble_eq_true rfl) (fun _ h => h) ?_
  intro p e s m args below meth c A Q ls hx CF hK hA hD hP hS hl hB hAe hsz hret
  have hb := CF.2.1
  have hml := CF.2.2.1
  have hown := CF.2.2.2.1
  have hts := CF.2.2.2.2
  have hD0 := hD
  replace hl : lv_has ls 4 [(0, .ref q_t), (1, .ref q_a1), (2, .int x2)] := hl
  have hinX6 : ∀ w ∈ wsX60, w ∈ wsX6_writeTo := fun _ h => List.mem_cons_of_mem _ (List.mem_append_right _ h)
  have w_0 := hts (.fieldLink RX6 41 "PassInStep$Yard" "down" "I") (by decide +kernel)
  have w_1 := hts (.initialized RX7) (by decide +kernel)
  have w_2 := hts (.static yX7_put) (by decide +kernel)
  have w_3 := hts (.fieldLink RX6 45 "PassInStep$Yard" "steps" "I") (by decide +kernel)
  have w_4 := hts (.fieldLink RX6 9 "PassInStep$Yard" "line" "[I") (by decide +kernel)
  have w_5 := hts (.static yX7_at) (by decide +kernel)
  have w_6 := hts (.fieldLink RX6 15 "PassInStep$Yard" "strides" "[I") (by decide +kernel)
  have w_7 := hts (.fieldLink RX6 18 "PassInStep$Yard" "strains" "[I") (by decide +kernel)
  have h_2 : ∀ (x2 : Int32) (fu2 : Nat) (x3 : Int32) (a1 : Nat → Int32) (H : Heap) (locs : List Loc) (ls : Array Slot), va_P (dC, dI) vwCl [(q_t, .inr (6, [.ref q_t_told, .ref q_t_line, .ref q_t_strides, .ref q_t_strains, .int t_down, .int t_steps])), (q_t_line, .inl (cI, 5, .inl t_line)), (q_a1, .inl (cI, n_a1, .inl a1)), (q_t_strides, .inl (cI, 5, .inl t_strides)), (q_t_strains, .inl (cI, 5, .inl t_strains))] H → va_S A s.heap H locs → lv_has ls 4 [(0, .ref q_t), (1, .ref q_a1), (2, .int x2), (3, .int x3)] → L_X6_writeTo_2 x2 n_a1 t_down t_steps t_line t_strides t_strains fu2 x3 a1 = some o_a1 → W p l e rm_X6_writeTo s m args below meth c H locs 0 0 Q (F0 m 2 ls []) := by
    intro x2 fu2
    induction fu2 with
    | zero =>
      intro x3 a1 H locs ls hP hS hl hf
      rw [L_X6_writeTo_2] at hf
      cases hf
    | succ fu2 ih2 =>
      intro x3 a1 H locs ls hP hS hl hf
      have hD : va_D A [(q_t, .inr (6, [.ref q_t_told, .ref q_t_line, .ref q_t_strides, .ref q_t_strains, .int t_down, .int t_steps])), (q_t_line, .inl (cI, 5, .inl t_line)), (q_a1, .inl (cI, n_a1, .inl a1)), (q_t_strides, .inl (cI, 5, .inl t_strides)), (q_t_strains, .inl (cI, 5, .inl t_strains))] := wd hD0 rfl
      rw [L_X6_writeTo_2] at hf
      refine lv_iload_n hx hb dX6_writeTo_2 rfl (lv_at hl 3 rfl) ?_
      refine lv_iconst (v := 5) hx hb dX6_writeTo_3 (by decide) ?_
      refine lv_icmp_ge (tgt := 63) hx hb dX6_writeTo_4 (by decide) (fun hc => ?_) (fun hc => ?_)
      · replace hf := ip hc hf
        refine lv_aload_n hx hb dX6_writeTo_63 rfl (lv_at hl 1 rfl) ?_
        refine lv_iload_n hx hb dX6_writeTo_64 rfl (lv_at hl 2 rfl) ?_
        refine lv_bipush (v := 15) hx hb dX6_writeTo_65 (by decide) ?_
        refine lv_iadd hx hb dX6_writeTo_67 ?_
        refine lv_aload_n hx hb dX6_writeTo_68 rfl (lv_at hl 0 rfl) ?_
        refine va_get (D := (dC, dI)) (ci := 6) (v := .int t_down) (C := RX6) (T := TX6) (N := 6) hx hb hts hinX6 hown hK.1 hP 0 rfl rfl 4 (by decide) w_0 (fun _ h9 => h9) rfl dX6_writeTo_69 ?_
        obtain ⟨o1, e3, hf⟩ := bd_ok hf
        refine kNv (As := [.ref q_a1, .int (x2 + 15), .int t_down]) CF ⟨va_cnB 3 hts gX6_writeTo_X7_put_n25 rfl rfl rfl (nw_X6_25 hK.2) w_1 (by decide +kernel) ⟨Nat.le_of_ble_eq_true rfl, Nat.le_of_ble_eq_true rfl⟩, w_2, trivial⟩ PU_blind hP hD hS hA [2] (fun h1 h2 h3 => PU_pre hK h1 A h2 h3) (c_X7_put l dC dI cI cZ q_a1 _ a1 n_a1 (x2 + 15) t_down o1 e3) rfl rfl rfl rfl hl.1 rfl (Nat.le_of_ble_eq_true rfl) dX6_writeTo_72 ⟨Nat.zero_le _, Nat.zero_le _⟩ (fun H locs hP hS => ?_)
        replace hP : va_P (dC, dI) vwCl [(q_t, .inr (6, [.ref q_t_told, .ref q_t_line, .ref q_t_strides, .ref q_t_strains, .int t_down, .int t_steps])), (q_t_line, .inl (cI, 5, .inl t_line)), (q_a1, .inl (cI, n_a1, .inl o1)), (q_t_strides, .inl (cI, 5, .inl t_strides)), (q_t_strains, .inl (cI, 5, .inl t_strains))] H := hP
        replace hD : va_D A [(q_t, .inr (6, [.ref q_t_told, .ref q_t_line, .ref q_t_strides, .ref q_t_strains, .int t_down, .int t_steps])), (q_t_line, .inl (cI, 5, .inl t_line)), (q_a1, .inl (cI, n_a1, .inl o1)), (q_t_strides, .inl (cI, 5, .inl t_strides)), (q_t_strains, .inl (cI, 5, .inl t_strains))] := wd hD rfl
        refine lv_aload_n hx hb dX6_writeTo_75 rfl (lv_at hl 1 rfl) ?_
        refine lv_iload_n hx hb dX6_writeTo_76 rfl (lv_at hl 2 rfl) ?_
        refine lv_bipush (v := 15) hx hb dX6_writeTo_77 (by decide) ?_
        refine lv_iadd hx hb dX6_writeTo_79 ?_
        refine lv_iconst (v := 1) hx hb dX6_writeTo_80 (by decide) ?_
        refine lv_iadd hx hb dX6_writeTo_81 ?_
        refine lv_aload_n hx hb dX6_writeTo_82 rfl (lv_at hl 0 rfl) ?_
        refine va_get (D := (dC, dI)) (ci := 6) (v := .int t_steps) (C := RX6) (T := TX6) (N := 6) hx hb hts hinX6 hown hK.1 hP 0 rfl rfl 5 (by decide) w_3 (fun _ h9 => h9) rfl dX6_writeTo_83 ?_
        obtain ⟨o4, e6, hf⟩ := bd_ok hf
        refine kNv (As := [.ref q_a1, .int ((x2 + 15) + 1), .int t_steps]) CF ⟨va_cnB 3 hts gX6_writeTo_X7_put_n25 rfl rfl rfl (nw_X6_25 hK.2) w_1 (by decide +kernel) ⟨Nat.le_of_ble_eq_true rfl, Nat.le_of_ble_eq_true rfl⟩, w_2, trivial⟩ PU_blind hP hD hS hA [2] (fun h1 h2 h3 => PU_pre hK h1 A h2 h3) (c_X7_put l dC dI cI cZ q_a1 _ o1 n_a1 ((x2 + 15) + 1) t_steps o4 e6) rfl rfl rfl rfl hl.1 rfl (Nat.le_of_ble_eq_true rfl) dX6_writeTo_86 ⟨Nat.zero_le _, Nat.zero_le _⟩ (fun H locs hP hS => ?_)
        replace hP : va_P (dC, dI) vwCl [(q_t, .inr (6, [.ref q_t_told, .ref q_t_line, .ref q_t_strides, .ref q_t_strains, .int t_down, .int t_steps])), (q_t_line, .inl (cI, 5, .inl t_line)), (q_a1, .inl (cI, n_a1, .inl o4)), (q_t_strides, .inl (cI, 5, .inl t_strides)), (q_t_strains, .inl (cI, 5, .inl t_strains))] H := hP
        replace hD : va_D A [(q_t, .inr (6, [.ref q_t_told, .ref q_t_line, .ref q_t_strides, .ref q_t_strains, .int t_down, .int t_steps])), (q_t_line, .inl (cI, 5, .inl t_line)), (q_a1, .inl (cI, n_a1, .inl o4)), (q_t_strides, .inl (cI, 5, .inl t_strides)), (q_t_strains, .inl (cI, 5, .inl t_strains))] := wd hD rfl
        have e0 := ij1 hf
        exact hret _ _ _ _ (by rw [← e0]; exact hP) hS dX6_writeTo_89
      · replace hf := iq hc hf
        refine lv_aload_n hx hb dX6_writeTo_7 rfl (lv_at hl 1 rfl) ?_
        refine lv_iload_n hx hb dX6_writeTo_8 rfl (lv_at hl 2 rfl) ?_
        refine lv_iload_n hx hb dX6_writeTo_9 rfl (lv_at hl 3 rfl) ?_
        refine lv_iadd hx hb dX6_writeTo_10 ?_
        refine lv_aload_n hx hb dX6_writeTo_11 rfl (lv_at hl 0 rfl) ?_
        refine va_get (D := (dC, dI)) (ci := 6) (v := .ref q_t_line) (C := RX6) (T := TX6) (N := 6) hx hb hts hinX6 hown hK.1 hP 0 rfl rfl 1 (by decide) w_4 (fun _ h9 => h9) rfl dX6_writeTo_12 ?_
        refine lv_iload_n hx hb dX6_writeTo_15 rfl (lv_at hl 3 rfl) ?_
        obtain ⟨r7, e9, hf⟩ := bd_ok hf
        refine kNi (As := [.ref q_t_line, .int x3]) CF ⟨va_cnB 2 hts gX6_writeTo_X7_at_n48 rfl rfl rfl (nw_X6_48 hK.2) w_1 (by decide +kernel) ⟨Nat.le_of_ble_eq_true rfl, Nat.le_of_ble_eq_true rfl⟩, w_5, trivial⟩ PU_blind hP hD hS hA [1] (fun h1 h2 h3 => PU_pre hK h1 A h2 h3) (c_X7_at l dC dI cI cZ q_t_line _ t_line 5 x3 r7 e9) rfl rfl rfl rfl hl.1 rfl (Nat.le_of_ble_eq_true rfl) dX6_writeTo_16 ⟨Nat.zero_le _, Nat.zero_le _⟩ (fun H locs hP hS => ?_)
        replace hP : va_P (dC, dI) vwCl [(q_t, .inr (6, [.ref q_t_told, .ref q_t_line, .ref q_t_strides, .ref q_t_strains, .int t_down, .int t_steps])), (q_t_line, .inl (cI, 5, .inl t_line)), (q_a1, .inl (cI, n_a1, .inl a1)), (q_t_strides, .inl (cI, 5, .inl t_strides)), (q_t_strains, .inl (cI, 5, .inl t_strains))] H := hP
        obtain ⟨o10, e12, hf⟩ := bd_ok hf
        refine kNv (As := [.ref q_a1, .int (x2 + x3), .int r7]) CF ⟨va_cnB 3 hts gX6_writeTo_X7_put_n25 rfl rfl rfl (nw_X6_25 hK.2) w_1 (by decide +kernel) ⟨Nat.le_of_ble_eq_true rfl, Nat.le_of_ble_eq_true rfl⟩, w_2, trivial⟩ PU_blind hP hD hS hA [2] (fun h1 h2 h3 => PU_pre hK h1 A h2 h3) (c_X7_put l dC dI cI cZ q_a1 _ a1 n_a1 (x2 + x3) r7 o10 e12) rfl rfl rfl rfl hl.1 rfl (Nat.le_of_ble_eq_true rfl) dX6_writeTo_19 ⟨Nat.zero_le _, Nat.zero_le _⟩ (fun H locs hP hS => ?_)
        replace hP : va_P (dC, dI) vwCl [(q_t, .inr (6, [.ref q_t_told, .ref q_t_line, .ref q_t_strides, .ref q_t_strains, .int t_down, .int t_steps])), (q_t_line, .inl (cI, 5, .inl t_line)), (q_a1, .inl (cI, n_a1, .inl o10)), (q_t_strides, .inl (cI, 5, .inl t_strides)), (q_t_strains, .inl (cI, 5, .inl t_strains))] H := hP
        replace hD : va_D A [(q_t, .inr (6, [.ref q_t_told, .ref q_t_line, .ref q_t_strides, .ref q_t_strains, .int t_down, .int t_steps])), (q_t_line, .inl (cI, 5, .inl t_line)), (q_a1, .inl (cI, n_a1, .inl o10)), (q_t_strides, .inl (cI, 5, .inl t_strides)), (q_t_strains, .inl (cI, 5, .inl t_strains))] := wd hD rfl
        refine lv_aload_n hx hb dX6_writeTo_22 rfl (lv_at hl 1 rfl) ?_
        refine lv_iload_n hx hb dX6_writeTo_23 rfl (lv_at hl 2 rfl) ?_
        refine lv_iconst (v := 5) hx hb dX6_writeTo_24 (by decide) ?_
        refine lv_iadd hx hb dX6_writeTo_25 ?_
        refine lv_iload_n hx hb dX6_writeTo_26 rfl (lv_at hl 3 rfl) ?_
        refine lv_iadd hx hb dX6_writeTo_27 ?_
        refine lv_aload_n hx hb dX6_writeTo_28 rfl (lv_at hl 0 rfl) ?_
        refine va_get (D := (dC, dI)) (ci := 6) (v := .ref q_t_strides) (C := RX6) (T := TX6) (N := 6) hx hb hts hinX6 hown hK.1 hP 0 rfl rfl 2 (by decide) w_6 (fun _ h9 => h9) rfl dX6_writeTo_29 ?_
        refine lv_iload_n hx hb dX6_writeTo_32 rfl (lv_at hl 3 rfl) ?_
        obtain ⟨r13, e15, hf⟩ := bd_ok hf
        refine kNi (As := [.ref q_t_strides, .int x3]) CF ⟨va_cnB 2 hts gX6_writeTo_X7_at_n48 rfl rfl rfl (nw_X6_48 hK.2) w_1 (by decide +kernel) ⟨Nat.le_of_ble_eq_true rfl, Nat.le_of_ble_eq_true rfl⟩, w_5, trivial⟩ PU_blind hP hD hS hA [3] (fun h1 h2 h3 => PU_pre hK h1 A h2 h3) (c_X7_at l dC dI cI cZ q_t_strides _ t_strides 5 x3 r13 e15) rfl rfl rfl rfl hl.1 rfl (Nat.le_of_ble_eq_true rfl) dX6_writeTo_33 ⟨Nat.zero_le _, Nat.zero_le _⟩ (fun H locs hP hS => ?_)
        replace hP : va_P (dC, dI) vwCl [(q_t, .inr (6, [.ref q_t_told, .ref q_t_line, .ref q_t_strides, .ref q_t_strains, .int t_down, .int t_steps])), (q_t_line, .inl (cI, 5, .inl t_line)), (q_a1, .inl (cI, n_a1, .inl o10)), (q_t_strides, .inl (cI, 5, .inl t_strides)), (q_t_strains, .inl (cI, 5, .inl t_strains))] H := hP
        obtain ⟨o16, e18, hf⟩ := bd_ok hf
        refine kNv (As := [.ref q_a1, .int ((x2 + 5) + x3), .int r13]) CF ⟨va_cnB 3 hts gX6_writeTo_X7_put_n25 rfl rfl rfl (nw_X6_25 hK.2) w_1 (by decide +kernel) ⟨Nat.le_of_ble_eq_true rfl, Nat.le_of_ble_eq_true rfl⟩, w_2, trivial⟩ PU_blind hP hD hS hA [2] (fun h1 h2 h3 => PU_pre hK h1 A h2 h3) (c_X7_put l dC dI cI cZ q_a1 _ o10 n_a1 ((x2 + 5) + x3) r13 o16 e18) rfl rfl rfl rfl hl.1 rfl (Nat.le_of_ble_eq_true rfl) dX6_writeTo_36 ⟨Nat.zero_le _, Nat.zero_le _⟩ (fun H locs hP hS => ?_)
        replace hP : va_P (dC, dI) vwCl [(q_t, .inr (6, [.ref q_t_told, .ref q_t_line, .ref q_t_strides, .ref q_t_strains, .int t_down, .int t_steps])), (q_t_line, .inl (cI, 5, .inl t_line)), (q_a1, .inl (cI, n_a1, .inl o16)), (q_t_strides, .inl (cI, 5, .inl t_strides)), (q_t_strains, .inl (cI, 5, .inl t_strains))] H := hP
        replace hD : va_D A [(q_t, .inr (6, [.ref q_t_told, .ref q_t_line, .ref q_t_strides, .ref q_t_strains, .int t_down, .int t_steps])), (q_t_line, .inl (cI, 5, .inl t_line)), (q_a1, .inl (cI, n_a1, .inl o16)), (q_t_strides, .inl (cI, 5, .inl t_strides)), (q_t_strains, .inl (cI, 5, .inl t_strains))] := wd hD rfl
        refine lv_aload_n hx hb dX6_writeTo_39 rfl (lv_at hl 1 rfl) ?_
        refine lv_iload_n hx hb dX6_writeTo_40 rfl (lv_at hl 2 rfl) ?_
        refine lv_bipush (v := 10) hx hb dX6_writeTo_41 (by decide) ?_
        refine lv_iadd hx hb dX6_writeTo_43 ?_
        refine lv_iload_n hx hb dX6_writeTo_44 rfl (lv_at hl 3 rfl) ?_
        refine lv_iadd hx hb dX6_writeTo_45 ?_
        refine lv_aload_n hx hb dX6_writeTo_46 rfl (lv_at hl 0 rfl) ?_
        refine va_get (D := (dC, dI)) (ci := 6) (v := .ref q_t_strains) (C := RX6) (T := TX6) (N := 6) hx hb hts hinX6 hown hK.1 hP 0 rfl rfl 3 (by decide) w_7 (fun _ h9 => h9) rfl dX6_writeTo_47 ?_
        refine lv_iload_n hx hb dX6_writeTo_50 rfl (lv_at hl 3 rfl) ?_
        obtain ⟨r19, e21, hf⟩ := bd_ok hf
        refine kNi (As := [.ref q_t_strains, .int x3]) CF ⟨va_cnB 2 hts gX6_writeTo_X7_at_n48 rfl rfl rfl (nw_X6_48 hK.2) w_1 (by decide +kernel) ⟨Nat.le_of_ble_eq_true rfl, Nat.le_of_ble_eq_true rfl⟩, w_5, trivial⟩ PU_blind hP hD hS hA [4] (fun h1 h2 h3 => PU_pre hK h1 A h2 h3) (c_X7_at l dC dI cI cZ q_t_strains _ t_strains 5 x3 r19 e21) rfl rfl rfl rfl hl.1 rfl (Nat.le_of_ble_eq_true rfl) dX6_writeTo_51 ⟨Nat.zero_le _, Nat.zero_le _⟩ (fun H locs hP hS => ?_)
        replace hP : va_P (dC, dI) vwCl [(q_t, .inr (6, [.ref q_t_told, .ref q_t_line, .ref q_t_strides, .ref q_t_strains, .int t_down, .int t_steps])), (q_t_line, .inl (cI, 5, .inl t_line)), (q_a1, .inl (cI, n_a1, .inl o16)), (q_t_strides, .inl (cI, 5, .inl t_strides)), (q_t_strains, .inl (cI, 5, .inl t_strains))] H := hP
        obtain ⟨o22, e24, hf⟩ := bd_ok hf
        refine kNv (As := [.ref q_a1, .int ((x2 + 10) + x3), .int r19]) CF ⟨va_cnB 3 hts gX6_writeTo_X7_put_n25 rfl rfl rfl (nw_X6_25 hK.2) w_1 (by decide +kernel) ⟨Nat.le_of_ble_eq_true rfl, Nat.le_of_ble_eq_true rfl⟩, w_2, trivial⟩ PU_blind hP hD hS hA [2] (fun h1 h2 h3 => PU_pre hK h1 A h2 h3) (c_X7_put l dC dI cI cZ q_a1 _ o16 n_a1 ((x2 + 10) + x3) r19 o22 e24) rfl rfl rfl rfl hl.1 rfl (Nat.le_of_ble_eq_true rfl) dX6_writeTo_54 ⟨Nat.zero_le _, Nat.zero_le _⟩ (fun H locs hP hS => ?_)
        replace hP : va_P (dC, dI) vwCl [(q_t, .inr (6, [.ref q_t_told, .ref q_t_line, .ref q_t_strides, .ref q_t_strains, .int t_down, .int t_steps])), (q_t_line, .inl (cI, 5, .inl t_line)), (q_a1, .inl (cI, n_a1, .inl o22)), (q_t_strides, .inl (cI, 5, .inl t_strides)), (q_t_strains, .inl (cI, 5, .inl t_strains))] H := hP
        replace hD : va_D A [(q_t, .inr (6, [.ref q_t_told, .ref q_t_line, .ref q_t_strides, .ref q_t_strains, .int t_down, .int t_steps])), (q_t_line, .inl (cI, 5, .inl t_line)), (q_a1, .inl (cI, n_a1, .inl o22)), (q_t_strides, .inl (cI, 5, .inl t_strides)), (q_t_strains, .inl (cI, 5, .inl t_strains))] := wd hD rfl
        refine lv_iinc (v := (x3 + 1)) (lv' := [(3, .int (x3 + 1)), (0, .ref q_t), (1, .ref q_a1), (2, .int x2)]) hx hb dX6_writeTo_57 hl (k := 3) rfl rfl (by decide) rfl (fun ls hl => ?_)
        refine lv_goto (tgt := 2) hx hb dX6_writeTo_60 (by decide) ?_
        exact ih2 (x3 + 1) o22 _ _ _ hP hS (lv_sub hl [1, 2, 3, 0] rfl) hf
  rw [f_X6_writeTo] at hf
  refine lv_iconst (v := 0) hx hb dX6_writeTo_0 (by decide) ?_
  refine lv_istore_n (lv' := [(3, .int 0), (0, .ref q_t), (1, .ref q_a1), (2, .int x2)]) hx hb dX6_writeTo_1 rfl hl (by decide) rfl (fun ls hl => ?_)
  exact h_2 x2 fuelC 0 a1 _ _ _ hP hS (lv_sub hl [1, 2, 3, 0] rfl) hf
abbrev rm_X4_save : Room := { frames := 2, cells := 0, slots := 0, locals := 45 }
set_option maxHeartbeats 4000000 in
set_option maxRecDepth 100000 in
theorem c_X4_save (l : Launch) (dC : Nat → ClassId) (dI : Nat → Nat → Nat) (cI cZ : ClassId) (q_t q_t_cells q_a2 q_a2_told q_a2_line q_a2_strides q_a2_strains : Nat) (sz : Nat) (a2_down : Int32) (a2_steps : Int32) (a2_line : Nat → Int32) (t_cells : Nat → Int32) (a2_strides : Nat → Int32) (a2_strains : Nat → Int32) (n_t_cells : Nat) (x1 : Int32) (o_t_cells : Nat → Int32) (hf : f_X4_save x1 n_t_cells a2_down a2_steps a2_line t_cells a2_strides a2_strains = some o_t_cells) : Met l yX4_save wsX4_save rm_X4_save (va_Pc [.ref q_t, .int x1, .ref q_a2] (PU (dC, dI) cI cZ [(q_t, .inr (4, [.ref q_t_cells])), (q_a2, .inr (6, [.ref q_a2_told, .ref q_a2_line, .ref q_a2_strides, .ref q_a2_strains, .int a2_down, .int a2_steps])), (q_a2_line, .inl (cI, 5, .inl a2_line)), (q_t_cells, .inl (cI, n_t_cells, .inl t_cells)), (q_a2_strides, .inl (cI, 5, .inl a2_strides)), (q_a2_strains, .inl (cI, 5, .inl a2_strains))] sz)) (va_Qv (fun (_ : Unit) => True) (fun _ t => va_P (dC, dI) vwCl [(q_t, .inr (4, [.ref q_t_cells])), (q_a2, .inr (6, [.ref q_a2_told, .ref q_a2_line, .ref q_a2_strides, .ref q_a2_strains, .int a2_down, .int a2_steps])), (q_a2_line, .inl (cI, 5, .inl a2_line)), (q_t_cells, .inl (cI, n_t_cells, .inl o_t_cells)), (q_a2_strides, .inl (cI, 5, .inl a2_strides)), (q_a2_strains, .inl (cI, 5, .inl a2_strains))] t.heap) (va_A [(q_t, .inr (4, [.ref q_t_cells])), (q_a2, .inr (6, [.ref q_a2_told, .ref q_a2_line, .ref q_a2_strides, .ref q_a2_strains, .int a2_down, .int a2_steps])), (q_a2_line, .inl (cI, 5, .inl a2_line)), (q_t_cells, .inl (cI, n_t_cells, .inl t_cells)), (q_a2_strides, .inl (cI, 5, .inl a2_strides)), (q_a2_strains, .inl (cI, 5, .inl a2_strains))] sz)) 0 0 (va_A [(q_t, .inr (4, [.ref q_t_cells])), (q_a2, .inr (6, [.ref q_a2_told, .ref q_a2_line, .ref q_a2_strides, .ref q_a2_strains, .int a2_down, .int a2_steps])), (q_a2_line, .inl (cI, 5, .inl a2_line)), (q_t_cells, .inl (cI, n_t_cells, .inl t_cells)), (q_a2_strides, .inl (cI, 5, .inl a2_strides)), (q_a2_strains, .inl (cI, 5, .inl a2_strains))] sz) := by
  refine MetV (cc := cX4_save) (maxL := 3) (by decide) rfl (Nat.le_of_ble_eq_true rfl) (fun _ h => h) ?_
  intro p e s m args below meth c A Q ls hx CF hK hA hD hP hS hl hB hAe hsz hret
  have hb := CF.2.1
  have hml := CF.2.2.1
  have hown := CF.2.2.2.1
  have hts := CF.2.2.2.2
  have hD0 := hD
  replace hl : lv_has ls 3 [(0, .ref q_t), (1, .int x1), (2, .ref q_a2)] := hl
  have hinX4 : ∀ w ∈ wsX40, w ∈ wsX4_save := fun _ h => List.mem_cons_of_mem _ (List.mem_append_left _ (List.mem_append_right _ h))
  have hinX6 : ∀ w ∈ wsX60, w ∈ wsX4_save := fun _ h => List.mem_cons_of_mem _ (List.mem_append_right _ h)
  have w_0 := hts (.fieldLink RX4 20 "PassInStep$Store" "cells" "[I") (by decide +kernel)
  rw [f_X4_save] at hf
  refine lv_aload_n hx hb dX4_save_0 rfl (lv_at hl 2 rfl) ?_
  refine lv_aload_n hx hb dX4_save_1 rfl (lv_at hl 0 rfl) ?_
  refine va_get (D := (dC, dI)) (ci := 4) (v := .ref q_t_cells) (C := RX4) (T := TX4) (N := 1) hx hb hts hinX4 hown hK.1 hP 0 rfl rfl 0 (by decide) w_0 (fun _ h9 => h9) rfl dX4_save_2 ?_
  refine lv_iload_n hx hb dX4_save_5 rfl (lv_at hl 1 rfl) ?_
  refine lv_bipush (v := 17) hx hb dX4_save_6 (by decide) ?_
  refine lv_imul hx hb dX4_save_8 ?_
  obtain ⟨o1, e3, hf⟩ := bd_ok hf
  refine kVv (As := [.ref q_t_cells, .int (x1 * 17)]) CF (cwV 2 hts gX4_save_X6_writeTo rfl rfl rfl (by decide +kernel) ⟨Nat.le_of_ble_eq_true rfl, Nat.le_of_ble_eq_true rfl⟩) PU_blind hP hD hS hA (va_recv hK.1 hP (ci := 6) (q0 := 1) rfl rfl) [1, 2, 3, 4, 5] (fun h1 h2 h3 => PU_pre hK h1 A h2 h3) (c_X6_writeTo l dC dI cI cZ q_a2 q_a2_told q_a2_line q_a2_strides q_a2_strains q_t_cells _ a2_down a2_steps a2_line t_cells a2_strides a2_strains n_t_cells (x1 * 17) o1 e3) rfl rfl rfl rfl hl.1 rfl (Nat.le_of_ble_eq_true rfl) dX4_save_9 ⟨Nat.zero_le _, Nat.zero_le _⟩ (fun H locs hP hS => ?_)
  replace hP : va_P (dC, dI) vwCl [(q_t, .inr (4, [.ref q_t_cells])), (q_a2, .inr (6, [.ref q_a2_told, .ref q_a2_line, .ref q_a2_strides, .ref q_a2_strains, .int a2_down, .int a2_steps])), (q_a2_line, .inl (cI, 5, .inl a2_line)), (q_t_cells, .inl (cI, n_t_cells, .inl o1)), (q_a2_strides, .inl (cI, 5, .inl a2_strides)), (q_a2_strains, .inl (cI, 5, .inl a2_strains))] H := hP
  replace hD : va_D A [(q_t, .inr (4, [.ref q_t_cells])), (q_a2, .inr (6, [.ref q_a2_told, .ref q_a2_line, .ref q_a2_strides, .ref q_a2_strains, .int a2_down, .int a2_steps])), (q_a2_line, .inl (cI, 5, .inl a2_line)), (q_t_cells, .inl (cI, n_t_cells, .inl o1)), (q_a2_strides, .inl (cI, 5, .inl a2_strides)), (q_a2_strains, .inl (cI, 5, .inl a2_strains))] := wd hD rfl
  have e0 := ij1 hf
  exact hret _ _ _ _ (by rw [← e0]; exact hP) hS dX4_save_12
abbrev rm_X6_readFrom : Room := { frames := 1, cells := 0, slots := 0, locals := 22 }
set_option maxHeartbeats 4000000 in
set_option maxRecDepth 100000 in
theorem c_X6_readFrom (l : Launch) (dC : Nat → ClassId) (dI : Nat → Nat → Nat) (cI cZ : ClassId) (q_t q_t_told q_t_line q_t_strides q_t_strains q_a1 : Nat) (sz : Nat) (t_down : Int32) (t_steps : Int32) (a1 : Nat → Int32) (t_line : Nat → Int32) (t_strides : Nat → Int32) (t_strains : Nat → Int32) (n_a1 : Nat) (x2 : Int32) (o_t_down : Int32) (o_t_steps : Int32) (o_t_line : Nat → Int32) (o_t_strides : Nat → Int32) (o_t_strains : Nat → Int32) (hf : f_X6_readFrom x2 n_a1 t_down t_steps a1 t_line t_strides t_strains = some (o_t_down, o_t_steps, o_t_line, o_t_strides, o_t_strains)) : Met l yX6_readFrom wsX6_readFrom rm_X6_readFrom (va_Pc [.ref q_t, .ref q_a1, .int x2] (PU (dC, dI) cI cZ [(q_t, .inr (6, [.ref q_t_told, .ref q_t_line, .ref q_t_strides, .ref q_t_strains, .int t_down, .int t_steps])), (q_a1, .inl (cI, n_a1, .inl a1)), (q_t_line, .inl (cI, 5, .inl t_line)), (q_t_strides, .inl (cI, 5, .inl t_strides)), (q_t_strains, .inl (cI, 5, .inl t_strains))] sz)) (va_Qv (fun (_ : Unit) => True) (fun _ t => va_P (dC, dI) vwCl [(q_t, .inr (6, [.ref q_t_told, .ref q_t_line, .ref q_t_strides, .ref q_t_strains, .int o_t_down, .int o_t_steps])), (q_a1, .inl (cI, n_a1, .inl a1)), (q_t_line, .inl (cI, 5, .inl o_t_line)), (q_t_strides, .inl (cI, 5, .inl o_t_strides)), (q_t_strains, .inl (cI, 5, .inl o_t_strains))] t.heap) (va_A [(q_t, .inr (6, [.ref q_t_told, .ref q_t_line, .ref q_t_strides, .ref q_t_strains, .int t_down, .int t_steps])), (q_a1, .inl (cI, n_a1, .inl a1)), (q_t_line, .inl (cI, 5, .inl t_line)), (q_t_strides, .inl (cI, 5, .inl t_strides)), (q_t_strains, .inl (cI, 5, .inl t_strains))] sz)) 0 0 (va_A [(q_t, .inr (6, [.ref q_t_told, .ref q_t_line, .ref q_t_strides, .ref q_t_strains, .int t_down, .int t_steps])), (q_a1, .inl (cI, n_a1, .inl a1)), (q_t_line, .inl (cI, 5, .inl t_line)), (q_t_strides, .inl (cI, 5, .inl t_strides)), (q_t_strains, .inl (cI, 5, .inl t_strains))] sz) := by
  refine MetV (cc := cX6_readFrom) (maxL := 4) (by decide) rfl (Nat.le_of_ble_eq_true rfl) (fun _ h => h) ?_
  intro p e s m args below meth c A Q ls hx CF hK hA hD hP hS hl hB hAe hsz hret
  have hb := CF.2.1
  have hml := CF.2.2.1
  have hown := CF.2.2.2.1
  have hts := CF.2.2.2.2
  have hD0 := hD
  replace hl : lv_has ls 4 [(0, .ref q_t), (1, .ref q_a1), (2, .int x2)] := hl
  have hinX6 : ∀ w ∈ wsX60, w ∈ wsX6_readFrom := fun _ h => List.mem_cons_of_mem _ (List.mem_append_right _ h)
  have w_0 := hts (.initialized RX7) (by decide +kernel)
  have w_1 := hts (.static yX7_at) (by decide +kernel)
  have w_2 := hts (.fieldLink RX6 41 "PassInStep$Yard" "down" "I") (by decide +kernel)
  have w_3 := hts (.fieldLink RX6 45 "PassInStep$Yard" "steps" "I") (by decide +kernel)
  have w_4 := hts (.fieldLink RX6 9 "PassInStep$Yard" "line" "[I") (by decide +kernel)
  have w_5 := hts (.static yX7_put) (by decide +kernel)
  have w_6 := hts (.fieldLink RX6 15 "PassInStep$Yard" "strides" "[I") (by decide +kernel)
  have w_7 := hts (.fieldLink RX6 18 "PassInStep$Yard" "strains" "[I") (by decide +kernel)
  have h_2 : ∀ (x2 : Int32) (t_down : Int32) (t_steps : Int32) (fu2 : Nat) (x3 : Int32) (t_line : Nat → Int32) (t_strides : Nat → Int32) (t_strains : Nat → Int32) (H : Heap) (locs : List Loc) (ls : Array Slot), va_P (dC, dI) vwCl [(q_t, .inr (6, [.ref q_t_told, .ref q_t_line, .ref q_t_strides, .ref q_t_strains, .int t_down, .int t_steps])), (q_a1, .inl (cI, n_a1, .inl a1)), (q_t_line, .inl (cI, 5, .inl t_line)), (q_t_strides, .inl (cI, 5, .inl t_strides)), (q_t_strains, .inl (cI, 5, .inl t_strains))] H → va_S A s.heap H locs → lv_has ls 4 [(0, .ref q_t), (1, .ref q_a1), (2, .int x2), (3, .int x3)] → L_X6_readFrom_2 x2 n_a1 t_down t_steps a1 fu2 x3 t_line t_strides t_strains = some (o_t_down, o_t_steps, o_t_line, o_t_strides, o_t_strains) → W p l e rm_X6_readFrom s m args below meth c H locs 0 0 Q (F0 m 2 ls []) := by
    intro x2 t_down t_steps fu2
    induction fu2 with
    | zero =>
      intro x3 t_line t_strides t_strains H locs ls hP hS hl hf
      rw [L_X6_readFrom_2] at hf
      cases hf
    | succ fu2 ih2 =>
      intro x3 t_line t_strides t_strains H locs ls hP hS hl hf
      have hD : va_D A [(q_t, .inr (6, [.ref q_t_told, .ref q_t_line, .ref q_t_strides, .ref q_t_strains, .int t_down, .int t_steps])), (q_a1, .inl (cI, n_a1, .inl a1)), (q_t_line, .inl (cI, 5, .inl t_line)), (q_t_strides, .inl (cI, 5, .inl t_strides)), (q_t_strains, .inl (cI, 5, .inl t_strains))] := wd hD0 rfl
      rw [L_X6_readFrom_2] at hf
      refine lv_iload_n hx hb dX6_readFrom_2 rfl (lv_at hl 3 rfl) ?_
      refine lv_iconst (v := 5) hx hb dX6_readFrom_3 (by decide) ?_
      refine lv_icmp_ge (tgt := 63) hx hb dX6_readFrom_4 (by decide) (fun hc => ?_) (fun hc => ?_)
      · replace hf := ip hc hf
        refine lv_aload_n hx hb dX6_readFrom_63 rfl (lv_at hl 0 rfl) ?_
        refine lv_aload_n hx hb dX6_readFrom_64 rfl (lv_at hl 1 rfl) ?_
        refine lv_iload_n hx hb dX6_readFrom_65 rfl (lv_at hl 2 rfl) ?_
        refine lv_bipush (v := 15) hx hb dX6_readFrom_66 (by decide) ?_
        refine lv_iadd hx hb dX6_readFrom_68 ?_
        obtain ⟨r1, e3, hf⟩ := bd_ok hf
        refine kNi (As := [.ref q_a1, .int (x2 + 15)]) CF ⟨va_cnB 2 hts gX6_readFrom_X7_at_n48 rfl rfl rfl (nw_X6_48 hK.2) w_0 (by decide +kernel) ⟨Nat.le_of_ble_eq_true rfl, Nat.le_of_ble_eq_true rfl⟩, w_1, trivial⟩ PU_blind hP hD hS hA [1] (fun h1 h2 h3 => PU_pre hK h1 A h2 h3) (c_X7_at l dC dI cI cZ q_a1 _ a1 n_a1 (x2 + 15) r1 e3) rfl rfl rfl rfl hl.1 rfl (Nat.le_of_ble_eq_true rfl) dX6_readFrom_69 ⟨Nat.zero_le _, Nat.zero_le _⟩ (fun H locs hP hS => ?_)
        replace hP : va_P (dC, dI) vwCl [(q_t, .inr (6, [.ref q_t_told, .ref q_t_line, .ref q_t_strides, .ref q_t_strains, .int t_down, .int t_steps])), (q_a1, .inl (cI, n_a1, .inl a1)), (q_t_line, .inl (cI, 5, .inl t_line)), (q_t_strides, .inl (cI, 5, .inl t_strides)), (q_t_strains, .inl (cI, 5, .inl t_strains))] H := hP
        refine va_put (D := (dC, dI)) (ci := 6) (v := .int r1) (ty := .int) (C := RX6) (T := TX6) (N := 6) hx hb hts hinX6 tyX6 tyX6_ok nmX6 hown hK.1 hP hD hS 0 rfl rfl 4 (by decide) w_2 (fun _ h9 => h9) rfl (by decide +kernel) rfl rfl (Nat.le_of_ble_eq_true rfl) dX6_readFrom_72 (fun H locs hP hD hS => ?_)
        replace hP : va_P (dC, dI) vwCl [(q_t, .inr (6, [.ref q_t_told, .ref q_t_line, .ref q_t_strides, .ref q_t_strains, .int r1, .int t_steps])), (q_a1, .inl (cI, n_a1, .inl a1)), (q_t_line, .inl (cI, 5, .inl t_line)), (q_t_strides, .inl (cI, 5, .inl t_strides)), (q_t_strains, .inl (cI, 5, .inl t_strains))] H := hP
        replace hD : va_D A [(q_t, .inr (6, [.ref q_t_told, .ref q_t_line, .ref q_t_strides, .ref q_t_strains, .int r1, .int t_steps])), (q_a1, .inl (cI, n_a1, .inl a1)), (q_t_line, .inl (cI, 5, .inl t_line)), (q_t_strides, .inl (cI, 5, .inl t_strides)), (q_t_strains, .inl (cI, 5, .inl t_strains))] := hD
        refine lv_aload_n hx hb dX6_readFrom_75 rfl (lv_at hl 0 rfl) ?_
        refine lv_aload_n hx hb dX6_readFrom_76 rfl (lv_at hl 1 rfl) ?_
        refine lv_iload_n hx hb dX6_readFrom_77 rfl (lv_at hl 2 rfl) ?_
        refine lv_bipush (v := 15) hx hb dX6_readFrom_78 (by decide) ?_
        refine lv_iadd hx hb dX6_readFrom_80 ?_
        refine lv_iconst (v := 1) hx hb dX6_readFrom_81 (by decide) ?_
        refine lv_iadd hx hb dX6_readFrom_82 ?_
        obtain ⟨r4, e6, hf⟩ := bd_ok hf
        refine kNi (As := [.ref q_a1, .int ((x2 + 15) + 1)]) CF ⟨va_cnB 2 hts gX6_readFrom_X7_at_n48 rfl rfl rfl (nw_X6_48 hK.2) w_0 (by decide +kernel) ⟨Nat.le_of_ble_eq_true rfl, Nat.le_of_ble_eq_true rfl⟩, w_1, trivial⟩ PU_blind hP hD hS hA [1] (fun h1 h2 h3 => PU_pre hK h1 A h2 h3) (c_X7_at l dC dI cI cZ q_a1 _ a1 n_a1 ((x2 + 15) + 1) r4 e6) rfl rfl rfl rfl hl.1 rfl (Nat.le_of_ble_eq_true rfl) dX6_readFrom_83 ⟨Nat.zero_le _, Nat.zero_le _⟩ (fun H locs hP hS => ?_)
        replace hP : va_P (dC, dI) vwCl [(q_t, .inr (6, [.ref q_t_told, .ref q_t_line, .ref q_t_strides, .ref q_t_strains, .int r1, .int t_steps])), (q_a1, .inl (cI, n_a1, .inl a1)), (q_t_line, .inl (cI, 5, .inl t_line)), (q_t_strides, .inl (cI, 5, .inl t_strides)), (q_t_strains, .inl (cI, 5, .inl t_strains))] H := hP
        refine va_put (D := (dC, dI)) (ci := 6) (v := .int r4) (ty := .int) (C := RX6) (T := TX6) (N := 6) hx hb hts hinX6 tyX6 tyX6_ok nmX6 hown hK.1 hP hD hS 0 rfl rfl 5 (by decide) w_3 (fun _ h9 => h9) rfl (by decide +kernel) rfl rfl (Nat.le_of_ble_eq_true rfl) dX6_readFrom_86 (fun H locs hP hD hS => ?_)
        replace hP : va_P (dC, dI) vwCl [(q_t, .inr (6, [.ref q_t_told, .ref q_t_line, .ref q_t_strides, .ref q_t_strains, .int r1, .int r4])), (q_a1, .inl (cI, n_a1, .inl a1)), (q_t_line, .inl (cI, 5, .inl t_line)), (q_t_strides, .inl (cI, 5, .inl t_strides)), (q_t_strains, .inl (cI, 5, .inl t_strains))] H := hP
        replace hD : va_D A [(q_t, .inr (6, [.ref q_t_told, .ref q_t_line, .ref q_t_strides, .ref q_t_strains, .int r1, .int r4])), (q_a1, .inl (cI, n_a1, .inl a1)), (q_t_line, .inl (cI, 5, .inl t_line)), (q_t_strides, .inl (cI, 5, .inl t_strides)), (q_t_strains, .inl (cI, 5, .inl t_strains))] := hD
        obtain ⟨e0, hf⟩ := ij2 hf
        obtain ⟨e1, hf⟩ := ijc hf
        obtain ⟨e2, hf⟩ := ijc hf
        obtain ⟨e3, hf⟩ := ijc hf
        have e4 := hf
        exact hret _ _ _ _ (by rw [← e0, ← e1, ← e2, ← e3, ← e4]; exact hP) hS dX6_readFrom_89
      · replace hf := iq hc hf
        refine lv_aload_n hx hb dX6_readFrom_7 rfl (lv_at hl 0 rfl) ?_
        refine va_get (D := (dC, dI)) (ci := 6) (v := .ref q_t_line) (C := RX6) (T := TX6) (N := 6) hx hb hts hinX6 hown hK.1 hP 0 rfl rfl 1 (by decide) w_4 (fun _ h9 => h9) rfl dX6_readFrom_8 ?_
        refine lv_iload_n hx hb dX6_readFrom_11 rfl (lv_at hl 3 rfl) ?_
        refine lv_aload_n hx hb dX6_readFrom_12 rfl (lv_at hl 1 rfl) ?_
        refine lv_iload_n hx hb dX6_readFrom_13 rfl (lv_at hl 2 rfl) ?_
        refine lv_iload_n hx hb dX6_readFrom_14 rfl (lv_at hl 3 rfl) ?_
        refine lv_iadd hx hb dX6_readFrom_15 ?_
        obtain ⟨r7, e9, hf⟩ := bd_ok hf
        refine kNi (As := [.ref q_a1, .int (x2 + x3)]) CF ⟨va_cnB 2 hts gX6_readFrom_X7_at_n48 rfl rfl rfl (nw_X6_48 hK.2) w_0 (by decide +kernel) ⟨Nat.le_of_ble_eq_true rfl, Nat.le_of_ble_eq_true rfl⟩, w_1, trivial⟩ PU_blind hP hD hS hA [1] (fun h1 h2 h3 => PU_pre hK h1 A h2 h3) (c_X7_at l dC dI cI cZ q_a1 _ a1 n_a1 (x2 + x3) r7 e9) rfl rfl rfl rfl hl.1 rfl (Nat.le_of_ble_eq_true rfl) dX6_readFrom_16 ⟨Nat.zero_le _, Nat.zero_le _⟩ (fun H locs hP hS => ?_)
        replace hP : va_P (dC, dI) vwCl [(q_t, .inr (6, [.ref q_t_told, .ref q_t_line, .ref q_t_strides, .ref q_t_strains, .int t_down, .int t_steps])), (q_a1, .inl (cI, n_a1, .inl a1)), (q_t_line, .inl (cI, 5, .inl t_line)), (q_t_strides, .inl (cI, 5, .inl t_strides)), (q_t_strains, .inl (cI, 5, .inl t_strains))] H := hP
        obtain ⟨o10, e12, hf⟩ := bd_ok hf
        refine kNv (As := [.ref q_t_line, .int x3, .int r7]) CF ⟨va_cnB 3 hts gX6_readFrom_X7_put_n25 rfl rfl rfl (nw_X6_25 hK.2) w_0 (by decide +kernel) ⟨Nat.le_of_ble_eq_true rfl, Nat.le_of_ble_eq_true rfl⟩, w_5, trivial⟩ PU_blind hP hD hS hA [2] (fun h1 h2 h3 => PU_pre hK h1 A h2 h3) (c_X7_put l dC dI cI cZ q_t_line _ t_line 5 x3 r7 o10 e12) rfl rfl rfl rfl hl.1 rfl (Nat.le_of_ble_eq_true rfl) dX6_readFrom_19 ⟨Nat.zero_le _, Nat.zero_le _⟩ (fun H locs hP hS => ?_)
        replace hP : va_P (dC, dI) vwCl [(q_t, .inr (6, [.ref q_t_told, .ref q_t_line, .ref q_t_strides, .ref q_t_strains, .int t_down, .int t_steps])), (q_a1, .inl (cI, n_a1, .inl a1)), (q_t_line, .inl (cI, 5, .inl o10)), (q_t_strides, .inl (cI, 5, .inl t_strides)), (q_t_strains, .inl (cI, 5, .inl t_strains))] H := hP
        replace hD : va_D A [(q_t, .inr (6, [.ref q_t_told, .ref q_t_line, .ref q_t_strides, .ref q_t_strains, .int t_down, .int t_steps])), (q_a1, .inl (cI, n_a1, .inl a1)), (q_t_line, .inl (cI, 5, .inl o10)), (q_t_strides, .inl (cI, 5, .inl t_strides)), (q_t_strains, .inl (cI, 5, .inl t_strains))] := wd hD rfl
        refine lv_aload_n hx hb dX6_readFrom_22 rfl (lv_at hl 0 rfl) ?_
        refine va_get (D := (dC, dI)) (ci := 6) (v := .ref q_t_strides) (C := RX6) (T := TX6) (N := 6) hx hb hts hinX6 hown hK.1 hP 0 rfl rfl 2 (by decide) w_6 (fun _ h9 => h9) rfl dX6_readFrom_23 ?_
        refine lv_iload_n hx hb dX6_readFrom_26 rfl (lv_at hl 3 rfl) ?_
        refine lv_aload_n hx hb dX6_readFrom_27 rfl (lv_at hl 1 rfl) ?_
        refine lv_iload_n hx hb dX6_readFrom_28 rfl (lv_at hl 2 rfl) ?_
        refine lv_iconst (v := 5) hx hb dX6_readFrom_29 (by decide) ?_
        refine lv_iadd hx hb dX6_readFrom_30 ?_
        refine lv_iload_n hx hb dX6_readFrom_31 rfl (lv_at hl 3 rfl) ?_
        refine lv_iadd hx hb dX6_readFrom_32 ?_
        obtain ⟨r13, e15, hf⟩ := bd_ok hf
        refine kNi (As := [.ref q_a1, .int ((x2 + 5) + x3)]) CF ⟨va_cnB 2 hts gX6_readFrom_X7_at_n48 rfl rfl rfl (nw_X6_48 hK.2) w_0 (by decide +kernel) ⟨Nat.le_of_ble_eq_true rfl, Nat.le_of_ble_eq_true rfl⟩, w_1, trivial⟩ PU_blind hP hD hS hA [1] (fun h1 h2 h3 => PU_pre hK h1 A h2 h3) (c_X7_at l dC dI cI cZ q_a1 _ a1 n_a1 ((x2 + 5) + x3) r13 e15) rfl rfl rfl rfl hl.1 rfl (Nat.le_of_ble_eq_true rfl) dX6_readFrom_33 ⟨Nat.zero_le _, Nat.zero_le _⟩ (fun H locs hP hS => ?_)
        replace hP : va_P (dC, dI) vwCl [(q_t, .inr (6, [.ref q_t_told, .ref q_t_line, .ref q_t_strides, .ref q_t_strains, .int t_down, .int t_steps])), (q_a1, .inl (cI, n_a1, .inl a1)), (q_t_line, .inl (cI, 5, .inl o10)), (q_t_strides, .inl (cI, 5, .inl t_strides)), (q_t_strains, .inl (cI, 5, .inl t_strains))] H := hP
        obtain ⟨o16, e18, hf⟩ := bd_ok hf
        refine kNv (As := [.ref q_t_strides, .int x3, .int r13]) CF ⟨va_cnB 3 hts gX6_readFrom_X7_put_n25 rfl rfl rfl (nw_X6_25 hK.2) w_0 (by decide +kernel) ⟨Nat.le_of_ble_eq_true rfl, Nat.le_of_ble_eq_true rfl⟩, w_5, trivial⟩ PU_blind hP hD hS hA [3] (fun h1 h2 h3 => PU_pre hK h1 A h2 h3) (c_X7_put l dC dI cI cZ q_t_strides _ t_strides 5 x3 r13 o16 e18) rfl rfl rfl rfl hl.1 rfl (Nat.le_of_ble_eq_true rfl) dX6_readFrom_36 ⟨Nat.zero_le _, Nat.zero_le _⟩ (fun H locs hP hS => ?_)
        replace hP : va_P (dC, dI) vwCl [(q_t, .inr (6, [.ref q_t_told, .ref q_t_line, .ref q_t_strides, .ref q_t_strains, .int t_down, .int t_steps])), (q_a1, .inl (cI, n_a1, .inl a1)), (q_t_line, .inl (cI, 5, .inl o10)), (q_t_strides, .inl (cI, 5, .inl o16)), (q_t_strains, .inl (cI, 5, .inl t_strains))] H := hP
        replace hD : va_D A [(q_t, .inr (6, [.ref q_t_told, .ref q_t_line, .ref q_t_strides, .ref q_t_strains, .int t_down, .int t_steps])), (q_a1, .inl (cI, n_a1, .inl a1)), (q_t_line, .inl (cI, 5, .inl o10)), (q_t_strides, .inl (cI, 5, .inl o16)), (q_t_strains, .inl (cI, 5, .inl t_strains))] := wd hD rfl
        refine lv_aload_n hx hb dX6_readFrom_39 rfl (lv_at hl 0 rfl) ?_
        refine va_get (D := (dC, dI)) (ci := 6) (v := .ref q_t_strains) (C := RX6) (T := TX6) (N := 6) hx hb hts hinX6 hown hK.1 hP 0 rfl rfl 3 (by decide) w_7 (fun _ h9 => h9) rfl dX6_readFrom_40 ?_
        refine lv_iload_n hx hb dX6_readFrom_43 rfl (lv_at hl 3 rfl) ?_
        refine lv_aload_n hx hb dX6_readFrom_44 rfl (lv_at hl 1 rfl) ?_
        refine lv_iload_n hx hb dX6_readFrom_45 rfl (lv_at hl 2 rfl) ?_
        refine lv_bipush (v := 10) hx hb dX6_readFrom_46 (by decide) ?_
        refine lv_iadd hx hb dX6_readFrom_48 ?_
        refine lv_iload_n hx hb dX6_readFrom_49 rfl (lv_at hl 3 rfl) ?_
        refine lv_iadd hx hb dX6_readFrom_50 ?_
        obtain ⟨r19, e21, hf⟩ := bd_ok hf
        refine kNi (As := [.ref q_a1, .int ((x2 + 10) + x3)]) CF ⟨va_cnB 2 hts gX6_readFrom_X7_at_n48 rfl rfl rfl (nw_X6_48 hK.2) w_0 (by decide +kernel) ⟨Nat.le_of_ble_eq_true rfl, Nat.le_of_ble_eq_true rfl⟩, w_1, trivial⟩ PU_blind hP hD hS hA [1] (fun h1 h2 h3 => PU_pre hK h1 A h2 h3) (c_X7_at l dC dI cI cZ q_a1 _ a1 n_a1 ((x2 + 10) + x3) r19 e21) rfl rfl rfl rfl hl.1 rfl (Nat.le_of_ble_eq_true rfl) dX6_readFrom_51 ⟨Nat.zero_le _, Nat.zero_le _⟩ (fun H locs hP hS => ?_)
        replace hP : va_P (dC, dI) vwCl [(q_t, .inr (6, [.ref q_t_told, .ref q_t_line, .ref q_t_strides, .ref q_t_strains, .int t_down, .int t_steps])), (q_a1, .inl (cI, n_a1, .inl a1)), (q_t_line, .inl (cI, 5, .inl o10)), (q_t_strides, .inl (cI, 5, .inl o16)), (q_t_strains, .inl (cI, 5, .inl t_strains))] H := hP
        obtain ⟨o22, e24, hf⟩ := bd_ok hf
        refine kNv (As := [.ref q_t_strains, .int x3, .int r19]) CF ⟨va_cnB 3 hts gX6_readFrom_X7_put_n25 rfl rfl rfl (nw_X6_25 hK.2) w_0 (by decide +kernel) ⟨Nat.le_of_ble_eq_true rfl, Nat.le_of_ble_eq_true rfl⟩, w_5, trivial⟩ PU_blind hP hD hS hA [4] (fun h1 h2 h3 => PU_pre hK h1 A h2 h3) (c_X7_put l dC dI cI cZ q_t_strains _ t_strains 5 x3 r19 o22 e24) rfl rfl rfl rfl hl.1 rfl (Nat.le_of_ble_eq_true rfl) dX6_readFrom_54 ⟨Nat.zero_le _, Nat.zero_le _⟩ (fun H locs hP hS => ?_)
        replace hP : va_P (dC, dI) vwCl [(q_t, .inr (6, [.ref q_t_told, .ref q_t_line, .ref q_t_strides, .ref q_t_strains, .int t_down, .int t_steps])), (q_a1, .inl (cI, n_a1, .inl a1)), (q_t_line, .inl (cI, 5, .inl o10)), (q_t_strides, .inl (cI, 5, .inl o16)), (q_t_strains, .inl (cI, 5, .inl o22))] H := hP
        replace hD : va_D A [(q_t, .inr (6, [.ref q_t_told, .ref q_t_line, .ref q_t_strides, .ref q_t_strains, .int t_down, .int t_steps])), (q_a1, .inl (cI, n_a1, .inl a1)), (q_t_line, .inl (cI, 5, .inl o10)), (q_t_strides, .inl (cI, 5, .inl o16)), (q_t_strains, .inl (cI, 5, .inl o22))] := wd hD rfl
        refine lv_iinc (v := (x3 + 1)) (lv' := [(3, .int (x3 + 1)), (0, .ref q_t), (1, .ref q_a1), (2, .int x2)]) hx hb dX6_readFrom_57 hl (k := 3) rfl rfl (by decide) rfl (fun ls hl => ?_)
        refine lv_goto (tgt := 2) hx hb dX6_readFrom_60 (by decide) ?_
        exact ih2 (x3 + 1) o10 o16 o22 _ _ _ hP hS (lv_sub hl [1, 2, 3, 0] rfl) hf
  rw [f_X6_readFrom] at hf
  refine lv_iconst (v := 0) hx hb dX6_readFrom_0 (by decide) ?_
  refine lv_istore_n (lv' := [(3, .int 0), (0, .ref q_t), (1, .ref q_a1), (2, .int x2)]) hx hb dX6_readFrom_1 rfl hl (by decide) rfl (fun ls hl => ?_)
  exact h_2 x2 t_down t_steps fuelC 0 t_line t_strides t_strains _ _ _ hP hS (lv_sub hl [1, 2, 3, 0] rfl) hf
abbrev rm_X4_restore : Room := { frames := 2, cells := 0, slots := 0, locals := 45 }
set_option maxHeartbeats 4000000 in
set_option maxRecDepth 100000 in
theorem c_X4_restore (l : Launch) (dC : Nat → ClassId) (dI : Nat → Nat → Nat) (cI cZ : ClassId) (q_t q_t_cells q_a2 q_a2_told q_a2_line q_a2_strides q_a2_strains : Nat) (sz : Nat) (a2_down : Int32) (a2_steps : Int32) (t_cells : Nat → Int32) (a2_line : Nat → Int32) (a2_strides : Nat → Int32) (a2_strains : Nat → Int32) (n_t_cells : Nat) (x1 : Int32) (o_a2_down : Int32) (o_a2_steps : Int32) (o_a2_line : Nat → Int32) (o_a2_strides : Nat → Int32) (o_a2_strains : Nat → Int32) (hf : f_X4_restore x1 n_t_cells a2_down a2_steps t_cells a2_line a2_strides a2_strains = some (o_a2_down, o_a2_steps, o_a2_line, o_a2_strides, o_a2_strains)) : Met l yX4_restore wsX4_restore rm_X4_restore (va_Pc [.ref q_t, .int x1, .ref q_a2] (PU (dC, dI) cI cZ [(q_t, .inr (4, [.ref q_t_cells])), (q_a2, .inr (6, [.ref q_a2_told, .ref q_a2_line, .ref q_a2_strides, .ref q_a2_strains, .int a2_down, .int a2_steps])), (q_t_cells, .inl (cI, n_t_cells, .inl t_cells)), (q_a2_line, .inl (cI, 5, .inl a2_line)), (q_a2_strides, .inl (cI, 5, .inl a2_strides)), (q_a2_strains, .inl (cI, 5, .inl a2_strains))] sz)) (va_Qv (fun (_ : Unit) => True) (fun _ t => va_P (dC, dI) vwCl [(q_t, .inr (4, [.ref q_t_cells])), (q_a2, .inr (6, [.ref q_a2_told, .ref q_a2_line, .ref q_a2_strides, .ref q_a2_strains, .int o_a2_down, .int o_a2_steps])), (q_t_cells, .inl (cI, n_t_cells, .inl t_cells)), (q_a2_line, .inl (cI, 5, .inl o_a2_line)), (q_a2_strides, .inl (cI, 5, .inl o_a2_strides)), (q_a2_strains, .inl (cI, 5, .inl o_a2_strains))] t.heap) (va_A [(q_t, .inr (4, [.ref q_t_cells])), (q_a2, .inr (6, [.ref q_a2_told, .ref q_a2_line, .ref q_a2_strides, .ref q_a2_strains, .int a2_down, .int a2_steps])), (q_t_cells, .inl (cI, n_t_cells, .inl t_cells)), (q_a2_line, .inl (cI, 5, .inl a2_line)), (q_a2_strides, .inl (cI, 5, .inl a2_strides)), (q_a2_strains, .inl (cI, 5, .inl a2_strains))] sz)) 0 0 (va_A [(q_t, .inr (4, [.ref q_t_cells])), (q_a2, .inr (6, [.ref q_a2_told, .ref q_a2_line, .ref q_a2_strides, .ref q_a2_strains, .int a2_down, .int a2_steps])), (q_t_cells, .inl (cI, n_t_cells, .inl t_cells)), (q_a2_line, .inl (cI, 5, .inl a2_line)), (q_a2_strides, .inl (cI, 5, .inl a2_strides)), (q_a2_strains, .inl (cI, 5, .inl a2_strains))] sz) := by
  refine MetV (cc := cX4_restore) (maxL := 3) (by decide) rfl (Nat.le_of_ble_eq_true rfl) (fun _ h => h) ?_
  intro p e s m args below meth c A Q ls hx CF hK hA hD hP hS hl hB hAe hsz hret
  have hb := CF.2.1
  have hml := CF.2.2.1
  have hown := CF.2.2.2.1
  have hts := CF.2.2.2.2
  have hD0 := hD
  replace hl : lv_has ls 3 [(0, .ref q_t), (1, .int x1), (2, .ref q_a2)] := hl
  have hinX4 : ∀ w ∈ wsX40, w ∈ wsX4_restore := fun _ h => List.mem_cons_of_mem _ (List.mem_append_left _ (List.mem_append_right _ h))
  have hinX6 : ∀ w ∈ wsX60, w ∈ wsX4_restore := fun _ h => List.mem_cons_of_mem _ (List.mem_append_right _ h)
  have w_0 := hts (.fieldLink RX4 20 "PassInStep$Store" "cells" "[I") (by decide +kernel)
  rw [f_X4_restore] at hf
  refine lv_aload_n hx hb dX4_restore_0 rfl (lv_at hl 2 rfl) ?_
  refine lv_aload_n hx hb dX4_restore_1 rfl (lv_at hl 0 rfl) ?_
  refine va_get (D := (dC, dI)) (ci := 4) (v := .ref q_t_cells) (C := RX4) (T := TX4) (N := 1) hx hb hts hinX4 hown hK.1 hP 0 rfl rfl 0 (by decide) w_0 (fun _ h9 => h9) rfl dX4_restore_2 ?_
  refine lv_iload_n hx hb dX4_restore_5 rfl (lv_at hl 1 rfl) ?_
  refine lv_bipush (v := 17) hx hb dX4_restore_6 (by decide) ?_
  refine lv_imul hx hb dX4_restore_8 ?_
  obtain ⟨⟨o1, o2, o3, o4, o5⟩, e7, hf⟩ := bd_ok hf
  refine kVv (As := [.ref q_t_cells, .int (x1 * 17)]) CF (cwV 2 hts gX4_restore_X6_readFrom rfl rfl rfl (by decide +kernel) ⟨Nat.le_of_ble_eq_true rfl, Nat.le_of_ble_eq_true rfl⟩) PU_blind hP hD hS hA (va_recv hK.1 hP (ci := 6) (q0 := 1) rfl rfl) [1, 2, 3, 4, 5] (fun h1 h2 h3 => PU_pre hK h1 A h2 h3) (c_X6_readFrom l dC dI cI cZ q_a2 q_a2_told q_a2_line q_a2_strides q_a2_strains q_t_cells _ a2_down a2_steps t_cells a2_line a2_strides a2_strains n_t_cells (x1 * 17) o1 o2 o3 o4 o5 e7) rfl rfl rfl rfl hl.1 rfl (Nat.le_of_ble_eq_true rfl) dX4_restore_9 ⟨Nat.zero_le _, Nat.zero_le _⟩ (fun H locs hP hS => ?_)
  replace hP : va_P (dC, dI) vwCl [(q_t, .inr (4, [.ref q_t_cells])), (q_a2, .inr (6, [.ref q_a2_told, .ref q_a2_line, .ref q_a2_strides, .ref q_a2_strains, .int o1, .int o2])), (q_t_cells, .inl (cI, n_t_cells, .inl t_cells)), (q_a2_line, .inl (cI, 5, .inl o3)), (q_a2_strides, .inl (cI, 5, .inl o4)), (q_a2_strains, .inl (cI, 5, .inl o5))] H := hP
  replace hD : va_D A [(q_t, .inr (4, [.ref q_t_cells])), (q_a2, .inr (6, [.ref q_a2_told, .ref q_a2_line, .ref q_a2_strides, .ref q_a2_strains, .int o1, .int o2])), (q_t_cells, .inl (cI, n_t_cells, .inl t_cells)), (q_a2_line, .inl (cI, 5, .inl o3)), (q_a2_strides, .inl (cI, 5, .inl o4)), (q_a2_strains, .inl (cI, 5, .inl o5))] := wd hD rfl
  obtain ⟨e0, hf⟩ := ij2 hf
  obtain ⟨e1, hf⟩ := ijc hf
  obtain ⟨e2, hf⟩ := ijc hf
  obtain ⟨e3, hf⟩ := ijc hf
  have e4 := hf
  exact hret _ _ _ _ (by rw [← e0, ← e1, ← e2, ← e3, ← e4]; exact hP) hS dX4_restore_12
abbrev rm_X5_isFull : Room := { frames := 0, cells := 0, slots := 0, locals := 0 }
set_option maxHeartbeats 4000000 in
set_option maxRecDepth 100000 in
theorem c_X5_isFull (l : Launch) (dC : Nat → ClassId) (dI : Nat → Nat → Nat) (cI cZ : ClassId) (q_t q_t_letters : Nat) (sz : Nat) (t_length : Int32) (r_ : Int32) (hf : f_X5_isFull t_length = some r_) : Met l yX5_isFull wsX5_isFull rm_X5_isFull (va_Pc [.ref q_t] (PU (dC, dI) cI cZ [(q_t, .inr (5, [.ref q_t_letters, .int t_length]))] sz)) (va_Qi (fun (r : Int32) (_ : Unit) => r = r_) (fun _ t => va_P (dC, dI) vwCl [(q_t, .inr (5, [.ref q_t_letters, .int t_length]))] t.heap) (va_A [(q_t, .inr (5, [.ref q_t_letters, .int t_length]))] sz)) 0 0 (va_A [(q_t, .inr (5, [.ref q_t_letters, .int t_length]))] sz) := by
  refine MetZ (cc := cX5_isFull) (maxL := 1) (by decide) rfl (Nat.le_of_ble_eq_true rfl) (fun _ h => h) ?_
  intro p e s m args below meth c A Q ls hx CF hK hA hD hP hS hl hB hAe hsz hret
  have hb := CF.2.1
  have hml := CF.2.2.1
  have hown := CF.2.2.2.1
  have hts := CF.2.2.2.2
  have hD0 := hD
  replace hl : lv_has ls 1 [(0, .ref q_t)] := hl
  have hinX5 : ∀ w ∈ wsX50, w ∈ wsX5_isFull := fun _ h => List.mem_cons_of_mem _ (List.mem_append_right _ h)
  have w_0 := hts (.fieldLink RX5 15 "PassInStep$Text" "length" "I") (by decide +kernel)
  rw [f_X5_isFull] at hf
  refine lv_aload_n hx hb dX5_isFull_0 rfl (lv_at hl 0 rfl) ?_
  refine va_get (D := (dC, dI)) (ci := 5) (v := .int t_length) (C := RX5) (T := TX5) (N := 2) hx hb hts hinX5 hown hK.1 hP 0 rfl rfl 1 (by decide) w_0 (fun _ h9 => h9) rfl dX5_isFull_1 ?_
  refine lv_bipush (v := 48) hx hb dX5_isFull_4 (by decide) ?_
  refine lv_icmp_lt (tgt := 13) hx hb dX5_isFull_6 (by decide) (fun hc => ?_) (fun hc => ?_)
  · replace hf := ip hc hf
    refine lv_iconst (v := 0) hx hb dX5_isFull_13 (by decide) ?_
    have e0 := ij1 hf
    refine W.eq (congrArg (fun z => F0 m 14 ls [.int z]) e0) ?_
    exact hret _ _ _ _ hP hS (by rw [← e0]; rfl) dX5_isFull_14
  · replace hf := iq hc hf
    refine lv_iconst (v := 1) hx hb dX5_isFull_9 (by decide) ?_
    refine lv_goto (tgt := 14) hx hb dX5_isFull_10 (by decide) ?_
    have e0 := ij1 hf
    refine W.eq (congrArg (fun z => F0 m 14 ls [.int z]) e0) ?_
    exact hret _ _ _ _ hP hS (by rw [← e0]; rfl) dX5_isFull_14
abbrev rm_X5_append : Room := { frames := 1, cells := 0, slots := 0, locals := 22 }
set_option maxHeartbeats 4000000 in
set_option maxRecDepth 100000 in
theorem c_X5_append (l : Launch) (dC : Nat → ClassId) (dI : Nat → Nat → Nat) (cI cZ : ClassId) (q_t q_t_letters : Nat) (sz : Nat) (t_length : Int32) (t_letters : Nat → Int32) (x1 : Int32) (r_ : Int32) (o_t_length : Int32) (o_t_letters : Nat → Int32) (hf : f_X5_append x1 t_length t_letters = some (r_, o_t_length, o_t_letters)) : Met l yX5_append wsX5_append rm_X5_append (va_Pc [.ref q_t, .int x1] (PU (dC, dI) cI cZ [(q_t, .inr (5, [.ref q_t_letters, .int t_length])), (q_t_letters, .inl (cI, 48, .inl t_letters))] sz)) (va_Qi (fun (r : Int32) (_ : Unit) => r = r_) (fun _ t => va_P (dC, dI) vwCl [(q_t, .inr (5, [.ref q_t_letters, .int o_t_length])), (q_t_letters, .inl (cI, 48, .inl o_t_letters))] t.heap) (va_A [(q_t, .inr (5, [.ref q_t_letters, .int t_length])), (q_t_letters, .inl (cI, 48, .inl t_letters))] sz)) 0 0 (va_A [(q_t, .inr (5, [.ref q_t_letters, .int t_length])), (q_t_letters, .inl (cI, 48, .inl t_letters))] sz) := by
  refine MetI (cc := cX5_append) (maxL := 2) (by decide) rfl (Nat.le_of_ble_eq_true rfl) (fun _ h => h) ?_
  intro p e s m args below meth c A Q ls hx CF hK hA hD hP hS hl hB hAe hsz hret
  have hb := CF.2.1
  have hml := CF.2.2.1
  have hown := CF.2.2.2.1
  have hts := CF.2.2.2.2
  have hD0 := hD
  replace hl : lv_has ls 2 [(0, .ref q_t), (1, .int x1)] := hl
  have hinX5 : ∀ w ∈ wsX50, w ∈ wsX5_append := fun _ h => List.mem_cons_of_mem _ (List.mem_append_right _ h)
  have w_0 := hts (.fieldLink RX5 9 "PassInStep$Text" "letters" "[I") (by decide +kernel)
  have w_1 := hts (.fieldLink RX5 15 "PassInStep$Text" "length" "I") (by decide +kernel)
  have w_2 := hts (.initialized RX7) (by decide +kernel)
  have w_3 := hts (.static yX7_put) (by decide +kernel)
  rw [f_X5_append] at hf
  refine lv_aload_n hx hb dX5_append_0 rfl (lv_at hl 0 rfl) ?_
  refine va_get (D := (dC, dI)) (ci := 5) (v := .ref q_t_letters) (C := RX5) (T := TX5) (N := 2) hx hb hts hinX5 hown hK.1 hP 0 rfl rfl 0 (by decide) w_0 (fun _ h9 => h9) rfl dX5_append_1 ?_
  refine lv_aload_n hx hb dX5_append_4 rfl (lv_at hl 0 rfl) ?_
  refine va_get (D := (dC, dI)) (ci := 5) (v := .int t_length) (C := RX5) (T := TX5) (N := 2) hx hb hts hinX5 hown hK.1 hP 0 rfl rfl 1 (by decide) w_1 (fun _ h9 => h9) rfl dX5_append_5 ?_
  refine lv_iload_n hx hb dX5_append_8 rfl (lv_at hl 1 rfl) ?_
  obtain ⟨o1, e3, hf⟩ := bd_ok hf
  refine kNv (As := [.ref q_t_letters, .int t_length, .int x1]) CF ⟨va_cnB 3 hts gX5_append_X7_put_n19 rfl rfl rfl (nw_X5_19 hK.2) w_2 (by decide +kernel) ⟨Nat.le_of_ble_eq_true rfl, Nat.le_of_ble_eq_true rfl⟩, w_3, trivial⟩ PU_blind hP hD hS hA [1] (fun h1 h2 h3 => PU_pre hK h1 A h2 h3) (c_X7_put l dC dI cI cZ q_t_letters _ t_letters 48 t_length x1 o1 e3) rfl rfl rfl rfl hl.1 rfl (Nat.le_of_ble_eq_true rfl) dX5_append_9 ⟨Nat.zero_le _, Nat.zero_le _⟩ (fun H locs hP hS => ?_)
  replace hP : va_P (dC, dI) vwCl [(q_t, .inr (5, [.ref q_t_letters, .int t_length])), (q_t_letters, .inl (cI, 48, .inl o1))] H := hP
  replace hD : va_D A [(q_t, .inr (5, [.ref q_t_letters, .int t_length])), (q_t_letters, .inl (cI, 48, .inl o1))] := wd hD rfl
  refine lv_aload_n hx hb dX5_append_12 rfl (lv_at hl 0 rfl) ?_
  refine lv_dup hx hb dX5_append_13 rfl ?_
  refine va_get (D := (dC, dI)) (ci := 5) (v := .int t_length) (C := RX5) (T := TX5) (N := 2) hx hb hts hinX5 hown hK.1 hP 0 rfl rfl 1 (by decide) w_1 (fun _ h9 => h9) rfl dX5_append_14 ?_
  refine lv_iconst (v := 1) hx hb dX5_append_17 (by decide) ?_
  refine lv_iadd hx hb dX5_append_18 ?_
  refine va_put (D := (dC, dI)) (ci := 5) (v := .int (t_length + 1)) (ty := .int) (C := RX5) (T := TX5) (N := 2) hx hb hts hinX5 tyX5 tyX5_ok nmX5 hown hK.1 hP hD hS 0 rfl rfl 1 (by decide) w_1 (fun _ h9 => h9) rfl (by decide +kernel) rfl rfl (Nat.le_of_ble_eq_true rfl) dX5_append_19 (fun H locs hP hD hS => ?_)
  replace hP : va_P (dC, dI) vwCl [(q_t, .inr (5, [.ref q_t_letters, .int (t_length + 1)])), (q_t_letters, .inl (cI, 48, .inl o1))] H := hP
  replace hD : va_D A [(q_t, .inr (5, [.ref q_t_letters, .int (t_length + 1)])), (q_t_letters, .inl (cI, 48, .inl o1))] := hD
  refine lv_aload_n hx hb dX5_append_22 rfl (lv_at hl 0 rfl) ?_
  refine va_get (D := (dC, dI)) (ci := 5) (v := .int (t_length + 1)) (C := RX5) (T := TX5) (N := 2) hx hb hts hinX5 hown hK.1 hP 0 rfl rfl 1 (by decide) w_1 (fun _ h9 => h9) rfl dX5_append_23 ?_
  obtain ⟨e0, hf⟩ := ij2 hf
  obtain ⟨e1, hf⟩ := ijc hf
  have e2 := hf
  refine W.eq (congrArg (fun z => F0 m 26 ls [.int z]) e0) ?_
  exact hret _ _ _ _ (by rw [← e1, ← e2]; exact hP) hS dX5_append_26
abbrev rm_X5_clear : Room := { frames := 0, cells := 0, slots := 0, locals := 0 }
set_option maxHeartbeats 4000000 in
set_option maxRecDepth 100000 in
theorem c_X5_clear (l : Launch) (dC : Nat → ClassId) (dI : Nat → Nat → Nat) (cI cZ : ClassId) (q_t q_t_letters : Nat) (sz : Nat) (t_length : Int32) (r_ : Int32) (o_t_length : Int32) (hf : f_X5_clear t_length = some (r_, o_t_length)) : Met l yX5_clear wsX5_clear rm_X5_clear (va_Pc [.ref q_t] (PU (dC, dI) cI cZ [(q_t, .inr (5, [.ref q_t_letters, .int t_length]))] sz)) (va_Qi (fun (r : Int32) (_ : Unit) => r = r_) (fun _ t => va_P (dC, dI) vwCl [(q_t, .inr (5, [.ref q_t_letters, .int o_t_length]))] t.heap) (va_A [(q_t, .inr (5, [.ref q_t_letters, .int t_length]))] sz)) 0 0 (va_A [(q_t, .inr (5, [.ref q_t_letters, .int t_length]))] sz) := by
  refine MetI (cc := cX5_clear) (maxL := 2) (by decide) rfl (Nat.le_of_ble_eq_true rfl) (fun _ h => h) ?_
  intro p e s m args below meth c A Q ls hx CF hK hA hD hP hS hl hB hAe hsz hret
  have hb := CF.2.1
  have hml := CF.2.2.1
  have hown := CF.2.2.2.1
  have hts := CF.2.2.2.2
  have hD0 := hD
  replace hl : lv_has ls 2 [(0, .ref q_t)] := hl
  have hinX5 : ∀ w ∈ wsX50, w ∈ wsX5_clear := fun _ h => List.mem_cons_of_mem _ (List.mem_append_right _ h)
  have w_0 := hts (.fieldLink RX5 15 "PassInStep$Text" "length" "I") (by decide +kernel)
  rw [f_X5_clear] at hf
  refine lv_aload_n hx hb dX5_clear_0 rfl (lv_at hl 0 rfl) ?_
  refine va_get (D := (dC, dI)) (ci := 5) (v := .int t_length) (C := RX5) (T := TX5) (N := 2) hx hb hts hinX5 hown hK.1 hP 0 rfl rfl 1 (by decide) w_0 (fun _ h9 => h9) rfl dX5_clear_1 ?_
  refine lv_istore_n (lv' := [(1, .int t_length), (0, .ref q_t)]) hx hb dX5_clear_4 rfl hl (by decide) rfl (fun ls hl => ?_)
  refine lv_aload_n hx hb dX5_clear_5 rfl (lv_at hl 1 rfl) ?_
  refine lv_iconst (v := 0) hx hb dX5_clear_6 (by decide) ?_
  refine va_put (D := (dC, dI)) (ci := 5) (v := .int 0) (ty := .int) (C := RX5) (T := TX5) (N := 2) hx hb hts hinX5 tyX5 tyX5_ok nmX5 hown hK.1 hP hD hS 0 rfl rfl 1 (by decide) w_0 (fun _ h9 => h9) rfl (by decide +kernel) rfl rfl (Nat.le_of_ble_eq_true rfl) dX5_clear_7 (fun H locs hP hD hS => ?_)
  replace hP : va_P (dC, dI) vwCl [(q_t, .inr (5, [.ref q_t_letters, .int 0]))] H := hP
  replace hD : va_D A [(q_t, .inr (5, [.ref q_t_letters, .int 0]))] := hD
  refine lv_iload_n hx hb dX5_clear_10 rfl (lv_at hl 0 rfl) ?_
  obtain ⟨e0, hf⟩ := ij2 hf
  have e1 := hf
  refine W.eq (congrArg (fun z => F0 m 11 ls [.int z]) e0) ?_
  exact hret _ _ _ _ (by rw [← e1]; exact hP) hS dX5_clear_11
abbrev rm_X5_fitsHead : Room := { frames := 2, cells := 0, slots := 0, locals := 42 }
set_option maxHeartbeats 4000000 in
set_option maxRecDepth 100000 in
theorem c_X5_fitsHead (l : Launch) (dC : Nat → ClassId) (dI : Nat → Nat → Nat) (cI cZ : ClassId) (q_t q_t_letters : Nat) (sz : Nat) (t_length : Int32) (t_letters : Nat → Int32) (x1 : Int32) (r_ : Int32) (hf : f_X5_fitsHead x1 t_letters = some r_) : Met l yX5_fitsHead wsX5_fitsHead rm_X5_fitsHead (va_Pc [.ref q_t, .int x1] (PU (dC, dI) cI cZ [(q_t, .inr (5, [.ref q_t_letters, .int t_length])), (q_t_letters, .inl (cI, 48, .inl t_letters))] sz)) (va_Qi (fun (r : Int32) (_ : Unit) => r = r_) (fun _ t => va_P (dC, dI) vwCl [(q_t, .inr (5, [.ref q_t_letters, .int t_length])), (q_t_letters, .inl (cI, 48, .inl t_letters))] t.heap) (va_A [(q_t, .inr (5, [.ref q_t_letters, .int t_length])), (q_t_letters, .inl (cI, 48, .inl t_letters))] sz)) 0 0 (va_A [(q_t, .inr (5, [.ref q_t_letters, .int t_length])), (q_t_letters, .inl (cI, 48, .inl t_letters))] sz) := by
  refine MetZ (cc := cX5_fitsHead) (maxL := 2) (by decide) rfl (Nat.le_of_ble_eq_true rfl) (fun _ h => h) ?_
  intro p e s m args below meth c A Q ls hx CF hK hA hD hP hS hl hB hAe hsz hret
  have hb := CF.2.1
  have hml := CF.2.2.1
  have hown := CF.2.2.2.1
  have hts := CF.2.2.2.2
  have hD0 := hD
  replace hl : lv_has ls 2 [(0, .ref q_t), (1, .int x1)] := hl
  have hinX5 : ∀ w ∈ wsX50, w ∈ wsX5_fitsHead := fun _ h => List.mem_cons_of_mem _ (List.mem_append_right _ h)
  have w_0 := hts (.fieldLink RX5 9 "PassInStep$Text" "letters" "[I") (by decide +kernel)
  have w_1 := hts (.initialized RX7) (by decide +kernel)
  have w_2 := hts (.static yX7_at) (by decide +kernel)
  have w_3 := hts (.static yX7_isBetween) (by decide +kernel)
  rw [f_X5_fitsHead] at hf
  refine lv_iload_n hx hb dX5_fitsHead_0 rfl (lv_at hl 1 rfl) ?_
  by_cases n0 : (x1 : Int32) = 0
  · replace hf := ip n0 hf
    refine lv_lookup (off := 27) (tgt := 28) hx hb dX5_fitsHead_1 (by decide) (by rw [n0]; rfl) (by decide) ?_
    refine lv_aload_n hx hb dX5_fitsHead_28 rfl (lv_at hl 0 rfl) ?_
    refine va_get (D := (dC, dI)) (ci := 5) (v := .ref q_t_letters) (C := RX5) (T := TX5) (N := 2) hx hb hts hinX5 hown hK.1 hP 0 rfl rfl 0 (by decide) w_0 (fun _ h9 => h9) rfl dX5_fitsHead_29 ?_
    refine lv_iload_n hx hb dX5_fitsHead_32 rfl (lv_at hl 1 rfl) ?_
    obtain ⟨r1, e3, hf⟩ := bd_ok hf
    refine kNi (As := [.ref q_t_letters, .int x1]) CF ⟨va_cnB 2 hts gX5_fitsHead_X7_at_n23 rfl rfl rfl (nw_X5_23 hK.2) w_1 (by decide +kernel) ⟨Nat.le_of_ble_eq_true rfl, Nat.le_of_ble_eq_true rfl⟩, w_2, trivial⟩ PU_blind hP hD hS hA [1] (fun h1 h2 h3 => PU_pre hK h1 A h2 h3) (c_X7_at l dC dI cI cZ q_t_letters _ t_letters 48 x1 r1 e3) rfl rfl rfl rfl hl.1 rfl (Nat.le_of_ble_eq_true rfl) dX5_fitsHead_33 ⟨Nat.zero_le _, Nat.zero_le _⟩ (fun H locs hP hS => ?_)
    replace hP : va_P (dC, dI) vwCl [(q_t, .inr (5, [.ref q_t_letters, .int t_length])), (q_t_letters, .inl (cI, 48, .inl t_letters))] H := hP
    refine lv_bipush (v := 80) hx hb dX5_fitsHead_36 (by decide) ?_
    refine lv_icmp_ne (tgt := 45) hx hb dX5_fitsHead_38 (by decide) (fun hc => ?_) (fun hc => ?_)
    · replace hf := iq hc hf
      refine lv_iconst (v := 0) hx hb dX5_fitsHead_45 (by decide) ?_
      have e0 := ij1 hf
      refine W.eq (congrArg (fun z => F0 m 46 ls [.int z]) e0) ?_
      exact hret _ _ _ _ hP hS (by rw [← e0]; rfl) dX5_fitsHead_46
    · replace hf := ip hc hf
      refine lv_iconst (v := 1) hx hb dX5_fitsHead_41 (by decide) ?_
      refine lv_goto (tgt := 46) hx hb dX5_fitsHead_42 (by decide) ?_
      have e0 := ij1 hf
      refine W.eq (congrArg (fun z => F0 m 46 ls [.int z]) e0) ?_
      exact hret _ _ _ _ hP hS (by rw [← e0]; rfl) dX5_fitsHead_46
  · replace hf := iq n0 hf
    by_cases n1 : (x1 : Int32) = 2
    · replace hf := ip n1 hf
      refine lv_lookup (off := 46) (tgt := 47) hx hb dX5_fitsHead_1 (by decide) (by rw [n1]; rfl) (by decide) ?_
      refine lv_aload_n hx hb dX5_fitsHead_47 rfl (lv_at hl 0 rfl) ?_
      refine lv_iload_n hx hb dX5_fitsHead_48 rfl (lv_at hl 1 rfl) ?_
      obtain ⟨r4, e6, hf⟩ := bd_ok hf
      refine kVi (As := [.int x1]) CF (cwV 1 hts gX5_fitsHead_X5_figureAt rfl rfl rfl (by decide +kernel) ⟨Nat.le_of_ble_eq_true rfl, Nat.le_of_ble_eq_true rfl⟩) PU_blind hP hD hS hA (va_recv hK.1 hP (ci := 5) (q0 := 0) rfl rfl) [0, 1] (fun h1 h2 h3 => PU_pre hK h1 A h2 h3) (c_X5_figureAt l dC dI cI cZ q_t q_t_letters _ t_length t_letters x1 r4 e6) rfl rfl rfl rfl hl.1 rfl (Nat.le_of_ble_eq_true rfl) dX5_fitsHead_49 ⟨Nat.zero_le _, Nat.zero_le _⟩ (fun H locs hP hS => ?_)
      replace hP : va_P (dC, dI) vwCl [(q_t, .inr (5, [.ref q_t_letters, .int t_length])), (q_t_letters, .inl (cI, 48, .inl t_letters))] H := hP
      refine lv_iconst (v := 0) hx hb dX5_fitsHead_52 (by decide) ?_
      refine lv_bipush (v := 9) hx hb dX5_fitsHead_53 (by decide) ?_
      obtain ⟨r7, e9, hf⟩ := bd_ok hf
      refine kNi (As := [.int r4, .int 0, .int 9]) CF ⟨va_cnB 3 hts gX5_fitsHead_X7_isBetween_n42 rfl rfl rfl (nw_X5_42 hK.2) w_1 (by decide +kernel) ⟨Nat.le_of_ble_eq_true rfl, Nat.le_of_ble_eq_true rfl⟩, w_3, trivial⟩ PU_blind hP hD hS hA [] (fun h1 h2 h3 => PU_pre hK h1 A h2 h3) (c_X7_isBetween l dC dI cI cZ _ r4 0 9 r7 e9) rfl rfl rfl rfl hl.1 rfl (Nat.le_of_ble_eq_true rfl) dX5_fitsHead_55 ⟨Nat.zero_le _, Nat.zero_le _⟩ (fun H locs hP hS => ?_)
      replace hP : va_P (dC, dI) vwCl [(q_t, .inr (5, [.ref q_t_letters, .int t_length])), (q_t_letters, .inl (cI, 48, .inl t_letters))] H := hP
      obtain ⟨hz, hf⟩ := zr_ok hf
      have e0 := ij1 hf
      refine W.eq (congrArg (fun z => F0 m 58 ls [.int z]) e0) ?_
      exact hret _ _ _ _ hP hS (by rw [← e0]; exact hz) dX5_fitsHead_58
    · replace hf := iq n1 hf
      refine lv_lookup (off := 58) (tgt := 59) hx hb dX5_fitsHead_1 (by decide) (by have a0 : (x1 : Int32).toInt ≠ 0 := sw_ne n0; have a1 : (x1 : Int32).toInt ≠ 2 := sw_ne n1; simp [Op.lookupswitch.offset, a0, Ne.symm a0, a1, Ne.symm a1]) (by decide) ?_
      refine lv_aload_n hx hb dX5_fitsHead_59 rfl (lv_at hl 0 rfl) ?_
      refine lv_iload_n hx hb dX5_fitsHead_60 rfl (lv_at hl 1 rfl) ?_
      obtain ⟨r10, e12, hf⟩ := bd_ok hf
      refine kVi (As := [.int x1]) CF (cwV 1 hts gX5_fitsHead_X5_figureAt rfl rfl rfl (by decide +kernel) ⟨Nat.le_of_ble_eq_true rfl, Nat.le_of_ble_eq_true rfl⟩) PU_blind hP hD hS hA (va_recv hK.1 hP (ci := 5) (q0 := 0) rfl rfl) [0, 1] (fun h1 h2 h3 => PU_pre hK h1 A h2 h3) (c_X5_figureAt l dC dI cI cZ q_t q_t_letters _ t_length t_letters x1 r10 e12) rfl rfl rfl rfl hl.1 rfl (Nat.le_of_ble_eq_true rfl) dX5_fitsHead_61 ⟨Nat.zero_le _, Nat.zero_le _⟩ (fun H locs hP hS => ?_)
      replace hP : va_P (dC, dI) vwCl [(q_t, .inr (5, [.ref q_t_letters, .int t_length])), (q_t_letters, .inl (cI, 48, .inl t_letters))] H := hP
      refine lv_iconst (v := 1) hx hb dX5_fitsHead_64 (by decide) ?_
      refine lv_bipush (v := 9) hx hb dX5_fitsHead_65 (by decide) ?_
      obtain ⟨r13, e15, hf⟩ := bd_ok hf
      refine kNi (As := [.int r10, .int 1, .int 9]) CF ⟨va_cnB 3 hts gX5_fitsHead_X7_isBetween_n42 rfl rfl rfl (nw_X5_42 hK.2) w_1 (by decide +kernel) ⟨Nat.le_of_ble_eq_true rfl, Nat.le_of_ble_eq_true rfl⟩, w_3, trivial⟩ PU_blind hP hD hS hA [] (fun h1 h2 h3 => PU_pre hK h1 A h2 h3) (c_X7_isBetween l dC dI cI cZ _ r10 1 9 r13 e15) rfl rfl rfl rfl hl.1 rfl (Nat.le_of_ble_eq_true rfl) dX5_fitsHead_67 ⟨Nat.zero_le _, Nat.zero_le _⟩ (fun H locs hP hS => ?_)
      replace hP : va_P (dC, dI) vwCl [(q_t, .inr (5, [.ref q_t_letters, .int t_length])), (q_t_letters, .inl (cI, 48, .inl t_letters))] H := hP
      obtain ⟨hz, hf⟩ := zr_ok hf
      have e0 := ij1 hf
      refine W.eq (congrArg (fun z => F0 m 70 ls [.int z]) e0) ?_
      exact hret _ _ _ _ hP hS (by rw [← e0]; exact hz) dX5_fitsHead_70
abbrev rm_X5_fitsWalker : Room := { frames := 2, cells := 0, slots := 0, locals := 42 }
set_option maxHeartbeats 4000000 in
set_option maxRecDepth 100000 in
theorem c_X5_fitsWalker (l : Launch) (dC : Nat → ClassId) (dI : Nat → Nat → Nat) (cI cZ : ClassId) (q_t q_t_letters : Nat) (sz : Nat) (t_length : Int32) (t_letters : Nat → Int32) (x1 : Int32) (x2 : Int32) (r_ : Int32) (hf : f_X5_fitsWalker x1 x2 t_letters = some r_) : Met l yX5_fitsWalker wsX5_fitsWalker rm_X5_fitsWalker (va_Pc [.ref q_t, .int x1, .int x2] (PU (dC, dI) cI cZ [(q_t, .inr (5, [.ref q_t_letters, .int t_length])), (q_t_letters, .inl (cI, 48, .inl t_letters))] sz)) (va_Qi (fun (r : Int32) (_ : Unit) => r = r_) (fun _ t => va_P (dC, dI) vwCl [(q_t, .inr (5, [.ref q_t_letters, .int t_length])), (q_t_letters, .inl (cI, 48, .inl t_letters))] t.heap) (va_A [(q_t, .inr (5, [.ref q_t_letters, .int t_length])), (q_t_letters, .inl (cI, 48, .inl t_letters))] sz)) 0 0 (va_A [(q_t, .inr (5, [.ref q_t_letters, .int t_length])), (q_t_letters, .inl (cI, 48, .inl t_letters))] sz) := by
  refine MetZ (cc := cX5_fitsWalker) (maxL := 3) (by decide) rfl (Nat.le_of_ble_eq_true rfl) (fun _ h => h) ?_
  intro p e s m args below meth c A Q ls hx CF hK hA hD hP hS hl hB hAe hsz hret
  have hb := CF.2.1
  have hml := CF.2.2.1
  have hown := CF.2.2.2.1
  have hts := CF.2.2.2.2
  have hD0 := hD
  replace hl : lv_has ls 3 [(0, .ref q_t), (1, .int x1), (2, .int x2)] := hl
  have hinX5 : ∀ w ∈ wsX50, w ∈ wsX5_fitsWalker := fun _ h => List.mem_cons_of_mem _ (List.mem_append_right _ h)
  have w_0 := hts (.fieldLink RX5 9 "PassInStep$Text" "letters" "[I") (by decide +kernel)
  have w_1 := hts (.initialized RX7) (by decide +kernel)
  have w_2 := hts (.static yX7_at) (by decide +kernel)
  have w_3 := hts (.static yX7_isBetween) (by decide +kernel)
  rw [f_X5_fitsWalker] at hf
  refine lv_iload_n hx hb dX5_fitsWalker_0 rfl (lv_at hl 2 rfl) ?_
  by_cases n0 : (x2 : Int32) = 0
  · replace hf := ip n0 hf
    refine lv_tableIn (off := 27) (tgt := 28) hx hb dX5_fitsWalker_1 (by rw [n0]; decide) (by rw [n0]; decide) (by rw [n0]; rfl) (by decide) ?_
    refine lv_aload_n hx hb dX5_fitsWalker_28 rfl (lv_at hl 0 rfl) ?_
    refine va_get (D := (dC, dI)) (ci := 5) (v := .ref q_t_letters) (C := RX5) (T := TX5) (N := 2) hx hb hts hinX5 hown hK.1 hP 0 rfl rfl 0 (by decide) w_0 (fun _ h9 => h9) rfl dX5_fitsWalker_29 ?_
    refine lv_iload_n hx hb dX5_fitsWalker_32 rfl (lv_at hl 1 rfl) ?_
    obtain ⟨r1, e3, hf⟩ := bd_ok hf
    refine kNi (As := [.ref q_t_letters, .int x1]) CF ⟨va_cnB 2 hts gX5_fitsWalker_X7_at_n23 rfl rfl rfl (nw_X5_23 hK.2) w_1 (by decide +kernel) ⟨Nat.le_of_ble_eq_true rfl, Nat.le_of_ble_eq_true rfl⟩, w_2, trivial⟩ PU_blind hP hD hS hA [1] (fun h1 h2 h3 => PU_pre hK h1 A h2 h3) (c_X7_at l dC dI cI cZ q_t_letters _ t_letters 48 x1 r1 e3) rfl rfl rfl rfl hl.1 rfl (Nat.le_of_ble_eq_true rfl) dX5_fitsWalker_33 ⟨Nat.zero_le _, Nat.zero_le _⟩ (fun H locs hP hS => ?_)
    replace hP : va_P (dC, dI) vwCl [(q_t, .inr (5, [.ref q_t_letters, .int t_length])), (q_t_letters, .inl (cI, 48, .inl t_letters))] H := hP
    refine lv_bipush (v := 87) hx hb dX5_fitsWalker_36 (by decide) ?_
    refine lv_icmp_ne (tgt := 45) hx hb dX5_fitsWalker_38 (by decide) (fun hc => ?_) (fun hc => ?_)
    · replace hf := iq hc hf
      refine lv_iconst (v := 0) hx hb dX5_fitsWalker_45 (by decide) ?_
      have e0 := ij1 hf
      refine W.eq (congrArg (fun z => F0 m 46 ls [.int z]) e0) ?_
      exact hret _ _ _ _ hP hS (by rw [← e0]; rfl) dX5_fitsWalker_46
    · replace hf := ip hc hf
      refine lv_iconst (v := 1) hx hb dX5_fitsWalker_41 (by decide) ?_
      refine lv_goto (tgt := 46) hx hb dX5_fitsWalker_42 (by decide) ?_
      have e0 := ij1 hf
      refine W.eq (congrArg (fun z => F0 m 46 ls [.int z]) e0) ?_
      exact hret _ _ _ _ hP hS (by rw [← e0]; rfl) dX5_fitsWalker_46
  · replace hf := iq n0 hf
    by_cases n1 : (x2 : Int32) = 1
    · replace hf := ip n1 hf
      refine lv_tableIn (off := 46) (tgt := 47) hx hb dX5_fitsWalker_1 (by rw [n1]; decide) (by rw [n1]; decide) (by rw [n1]; rfl) (by decide) ?_
      refine lv_aload_n hx hb dX5_fitsWalker_47 rfl (lv_at hl 0 rfl) ?_
      refine lv_iload_n hx hb dX5_fitsWalker_48 rfl (lv_at hl 1 rfl) ?_
      obtain ⟨r4, e6, hf⟩ := bd_ok hf
      refine kVi (As := [.int x1]) CF (cwV 1 hts gX5_fitsWalker_X5_figureAt rfl rfl rfl (by decide +kernel) ⟨Nat.le_of_ble_eq_true rfl, Nat.le_of_ble_eq_true rfl⟩) PU_blind hP hD hS hA (va_recv hK.1 hP (ci := 5) (q0 := 0) rfl rfl) [0, 1] (fun h1 h2 h3 => PU_pre hK h1 A h2 h3) (c_X5_figureAt l dC dI cI cZ q_t q_t_letters _ t_length t_letters x1 r4 e6) rfl rfl rfl rfl hl.1 rfl (Nat.le_of_ble_eq_true rfl) dX5_fitsWalker_49 ⟨Nat.zero_le _, Nat.zero_le _⟩ (fun H locs hP hS => ?_)
      replace hP : va_P (dC, dI) vwCl [(q_t, .inr (5, [.ref q_t_letters, .int t_length])), (q_t_letters, .inl (cI, 48, .inl t_letters))] H := hP
      refine lv_iconst (v := 1) hx hb dX5_fitsWalker_52 (by decide) ?_
      refine lv_bipush (v := 9) hx hb dX5_fitsWalker_53 (by decide) ?_
      obtain ⟨r7, e9, hf⟩ := bd_ok hf
      refine kNi (As := [.int r4, .int 1, .int 9]) CF ⟨va_cnB 3 hts gX5_fitsWalker_X7_isBetween_n42 rfl rfl rfl (nw_X5_42 hK.2) w_1 (by decide +kernel) ⟨Nat.le_of_ble_eq_true rfl, Nat.le_of_ble_eq_true rfl⟩, w_3, trivial⟩ PU_blind hP hD hS hA [] (fun h1 h2 h3 => PU_pre hK h1 A h2 h3) (c_X7_isBetween l dC dI cI cZ _ r4 1 9 r7 e9) rfl rfl rfl rfl hl.1 rfl (Nat.le_of_ble_eq_true rfl) dX5_fitsWalker_55 ⟨Nat.zero_le _, Nat.zero_le _⟩ (fun H locs hP hS => ?_)
      replace hP : va_P (dC, dI) vwCl [(q_t, .inr (5, [.ref q_t_letters, .int t_length])), (q_t_letters, .inl (cI, 48, .inl t_letters))] H := hP
      obtain ⟨hz, hf⟩ := zr_ok hf
      have e0 := ij1 hf
      refine W.eq (congrArg (fun z => F0 m 58 ls [.int z]) e0) ?_
      exact hret _ _ _ _ hP hS (by rw [← e0]; exact hz) dX5_fitsWalker_58
    · replace hf := iq n1 hf
      by_cases n2 : (x2 : Int32) = 2
      · replace hf := ip n2 hf
        refine lv_tableIn (off := 58) (tgt := 59) hx hb dX5_fitsWalker_1 (by rw [n2]; decide) (by rw [n2]; decide) (by rw [n2]; rfl) (by decide) ?_
        refine lv_aload_n hx hb dX5_fitsWalker_59 rfl (lv_at hl 0 rfl) ?_
        refine lv_iload_n hx hb dX5_fitsWalker_60 rfl (lv_at hl 1 rfl) ?_
        obtain ⟨r10, e12, hf⟩ := bd_ok hf
        refine kVi (As := [.int x1]) CF (cwV 1 hts gX5_fitsWalker_X5_figureAt rfl rfl rfl (by decide +kernel) ⟨Nat.le_of_ble_eq_true rfl, Nat.le_of_ble_eq_true rfl⟩) PU_blind hP hD hS hA (va_recv hK.1 hP (ci := 5) (q0 := 0) rfl rfl) [0, 1] (fun h1 h2 h3 => PU_pre hK h1 A h2 h3) (c_X5_figureAt l dC dI cI cZ q_t q_t_letters _ t_length t_letters x1 r10 e12) rfl rfl rfl rfl hl.1 rfl (Nat.le_of_ble_eq_true rfl) dX5_fitsWalker_61 ⟨Nat.zero_le _, Nat.zero_le _⟩ (fun H locs hP hS => ?_)
        replace hP : va_P (dC, dI) vwCl [(q_t, .inr (5, [.ref q_t_letters, .int t_length])), (q_t_letters, .inl (cI, 48, .inl t_letters))] H := hP
        refine lv_iconst (v := 1) hx hb dX5_fitsWalker_64 (by decide) ?_
        refine lv_iconst (v := 4) hx hb dX5_fitsWalker_65 (by decide) ?_
        obtain ⟨r13, e15, hf⟩ := bd_ok hf
        refine kNi (As := [.int r10, .int 1, .int 4]) CF ⟨va_cnB 3 hts gX5_fitsWalker_X7_isBetween_n42 rfl rfl rfl (nw_X5_42 hK.2) w_1 (by decide +kernel) ⟨Nat.le_of_ble_eq_true rfl, Nat.le_of_ble_eq_true rfl⟩, w_3, trivial⟩ PU_blind hP hD hS hA [] (fun h1 h2 h3 => PU_pre hK h1 A h2 h3) (c_X7_isBetween l dC dI cI cZ _ r10 1 4 r13 e15) rfl rfl rfl rfl hl.1 rfl (Nat.le_of_ble_eq_true rfl) dX5_fitsWalker_66 ⟨Nat.zero_le _, Nat.zero_le _⟩ (fun H locs hP hS => ?_)
        replace hP : va_P (dC, dI) vwCl [(q_t, .inr (5, [.ref q_t_letters, .int t_length])), (q_t_letters, .inl (cI, 48, .inl t_letters))] H := hP
        obtain ⟨hz, hf⟩ := zr_ok hf
        have e0 := ij1 hf
        refine W.eq (congrArg (fun z => F0 m 69 ls [.int z]) e0) ?_
        exact hret _ _ _ _ hP hS (by rw [← e0]; exact hz) dX5_fitsWalker_69
      · replace hf := iq n2 hf
        refine lv_tableOut (tgt := 70) hx hb dX5_fitsWalker_1 (by have a0 : (x2 : Int32).toInt ≠ 0 := sw_ne n0; have a1 : (x2 : Int32).toInt ≠ 1 := sw_ne n1; have a2 : (x2 : Int32).toInt ≠ 2 := sw_ne n2; omega) (by decide) ?_
        refine lv_aload_n hx hb dX5_fitsWalker_70 rfl (lv_at hl 0 rfl) ?_
        refine lv_iload_n hx hb dX5_fitsWalker_71 rfl (lv_at hl 1 rfl) ?_
        obtain ⟨r16, e18, hf⟩ := bd_ok hf
        refine kVi (As := [.int x1]) CF (cwV 1 hts gX5_fitsWalker_X5_figureAt rfl rfl rfl (by decide +kernel) ⟨Nat.le_of_ble_eq_true rfl, Nat.le_of_ble_eq_true rfl⟩) PU_blind hP hD hS hA (va_recv hK.1 hP (ci := 5) (q0 := 0) rfl rfl) [0, 1] (fun h1 h2 h3 => PU_pre hK h1 A h2 h3) (c_X5_figureAt l dC dI cI cZ q_t q_t_letters _ t_length t_letters x1 r16 e18) rfl rfl rfl rfl hl.1 rfl (Nat.le_of_ble_eq_true rfl) dX5_fitsWalker_72 ⟨Nat.zero_le _, Nat.zero_le _⟩ (fun H locs hP hS => ?_)
        replace hP : va_P (dC, dI) vwCl [(q_t, .inr (5, [.ref q_t_letters, .int t_length])), (q_t_letters, .inl (cI, 48, .inl t_letters))] H := hP
        refine lv_iconst (v := 0) hx hb dX5_fitsWalker_75 (by decide) ?_
        refine lv_iconst (v := 3) hx hb dX5_fitsWalker_76 (by decide) ?_
        obtain ⟨r19, e21, hf⟩ := bd_ok hf
        refine kNi (As := [.int r16, .int 0, .int 3]) CF ⟨va_cnB 3 hts gX5_fitsWalker_X7_isBetween_n42 rfl rfl rfl (nw_X5_42 hK.2) w_1 (by decide +kernel) ⟨Nat.le_of_ble_eq_true rfl, Nat.le_of_ble_eq_true rfl⟩, w_3, trivial⟩ PU_blind hP hD hS hA [] (fun h1 h2 h3 => PU_pre hK h1 A h2 h3) (c_X7_isBetween l dC dI cI cZ _ r16 0 3 r19 e21) rfl rfl rfl rfl hl.1 rfl (Nat.le_of_ble_eq_true rfl) dX5_fitsWalker_77 ⟨Nat.zero_le _, Nat.zero_le _⟩ (fun H locs hP hS => ?_)
        replace hP : va_P (dC, dI) vwCl [(q_t, .inr (5, [.ref q_t_letters, .int t_length])), (q_t_letters, .inl (cI, 48, .inl t_letters))] H := hP
        obtain ⟨hz, hf⟩ := zr_ok hf
        have e0 := ij1 hf
        refine W.eq (congrArg (fun z => F0 m 80 ls [.int z]) e0) ?_
        exact hret _ _ _ _ hP hS (by rw [← e0]; exact hz) dX5_fitsWalker_80
abbrev rm_X5_fits : Room := { frames := 3, cells := 0, slots := 0, locals := 64 }
set_option maxHeartbeats 4000000 in
set_option maxRecDepth 100000 in
theorem c_X5_fits (l : Launch) (dC : Nat → ClassId) (dI : Nat → Nat → Nat) (cI cZ : ClassId) (q_t q_t_letters : Nat) (sz : Nat) (t_length : Int32) (t_letters : Nat → Int32) (x1 : Int32) (r_ : Int32) (hf : f_X5_fits x1 t_letters = some r_) : Met l yX5_fits wsX5_fits rm_X5_fits (va_Pc [.ref q_t, .int x1] (PU (dC, dI) cI cZ [(q_t, .inr (5, [.ref q_t_letters, .int t_length])), (q_t_letters, .inl (cI, 48, .inl t_letters))] sz)) (va_Qi (fun (r : Int32) (_ : Unit) => r = r_) (fun _ t => va_P (dC, dI) vwCl [(q_t, .inr (5, [.ref q_t_letters, .int t_length])), (q_t_letters, .inl (cI, 48, .inl t_letters))] t.heap) (va_A [(q_t, .inr (5, [.ref q_t_letters, .int t_length])), (q_t_letters, .inl (cI, 48, .inl t_letters))] sz)) 0 0 (va_A [(q_t, .inr (5, [.ref q_t_letters, .int t_length])), (q_t_letters, .inl (cI, 48, .inl t_letters))] sz) := by
  refine MetZ (cc := cX5_fits) (maxL := 2) (by decide) rfl (Nat.le_of_ble_eq_true rfl) (fun _ h => h) ?_
  intro p e s m args below meth c A Q ls hx CF hK hA hD hP hS hl hB hAe hsz hret
  have hb := CF.2.1
  have hml := CF.2.2.1
  have hown := CF.2.2.2.1
  have hts := CF.2.2.2.2
  have hD0 := hD
  replace hl : lv_has ls 2 [(0, .ref q_t), (1, .int x1)] := hl
  have hinX5 : ∀ w ∈ wsX50, w ∈ wsX5_fits := fun _ h => List.mem_cons_of_mem _ (List.mem_append_right _ h)
  have h_34 : ∀ (H : Heap) (locs : List Loc) (ls : Array Slot), va_P (dC, dI) vwCl [(q_t, .inr (5, [.ref q_t_letters, .int t_length])), (q_t_letters, .inl (cI, 48, .inl t_letters))] H → va_S A s.heap H locs → lv_has ls 2 [] → J_X5_fits_34 = some r_ → W p l e rm_X5_fits s m args below meth c H locs 0 0 Q (F0 m 34 ls []) := by
    intro  H locs ls hP hS hl hf
    have hD : va_D A [(q_t, .inr (5, [.ref q_t_letters, .int t_length])), (q_t_letters, .inl (cI, 48, .inl t_letters))] := wd hD0 rfl
    rw [J_X5_fits_34] at hf
    refine lv_iconst (v := 0) hx hb dX5_fits_34 (by decide) ?_
    have e0 := ij1 hf
    refine W.eq (congrArg (fun z => F0 m 35 ls [.int z]) e0) ?_
    exact hret _ _ _ _ hP hS (by rw [← e0]; rfl) dX5_fits_35
  rw [f_X5_fits] at hf
  refine lv_iload_n hx hb dX5_fits_0 rfl (lv_at hl 1 rfl) ?_
  refine lv_iconst (v := 4) hx hb dX5_fits_1 (by decide) ?_
  refine lv_icmp_ge (tgt := 11) hx hb dX5_fits_2 (by decide) (fun hc => ?_) (fun hc => ?_)
  · replace hf := ip hc hf
    refine lv_iload_n hx hb dX5_fits_11 rfl (lv_at hl 1 rfl) ?_
    refine lv_bipush (v := 24) hx hb dX5_fits_12 (by decide) ?_
    refine lv_icmp_ge (tgt := 34) hx hb dX5_fits_14 (by decide) (fun hc => ?_) (fun hc => ?_)
    · replace hf := ip hc hf
      exact h_34 _ _ _ hP hS (lv_sub hl [] rfl) hf
    · replace hf := iq hc hf
      refine lv_aload_n hx hb dX5_fits_17 rfl (lv_at hl 0 rfl) ?_
      refine lv_iload_n hx hb dX5_fits_18 rfl (lv_at hl 1 rfl) ?_
      refine lv_iload_n hx hb dX5_fits_19 rfl (lv_at hl 1 rfl) ?_
      refine lv_iconst (v := 4) hx hb dX5_fits_20 (by decide) ?_
      refine lv_isub hx hb dX5_fits_21 ?_
      refine lv_iconst (v := 4) hx hb dX5_fits_22 (by decide) ?_
      refine lv_irem hx hb dX5_fits_23 (by decide) ?_
      obtain ⟨r1, e3, hf⟩ := bd_ok hf
      refine kVi (As := [.int x1, .int ((x1 - 4) - (x1 - 4) / 4 * 4)]) CF (cwV 2 hts gX5_fits_X5_fitsWalker rfl rfl rfl (by decide +kernel) ⟨Nat.le_of_ble_eq_true rfl, Nat.le_of_ble_eq_true rfl⟩) PU_blind hP hD hS hA (va_recv hK.1 hP (ci := 5) (q0 := 0) rfl rfl) [0, 1] (fun h1 h2 h3 => PU_pre hK h1 A h2 h3) (c_X5_fitsWalker l dC dI cI cZ q_t q_t_letters _ t_length t_letters x1 ((x1 - 4) - (x1 - 4) / 4 * 4) r1 e3) rfl rfl rfl rfl hl.1 rfl (Nat.le_of_ble_eq_true rfl) dX5_fits_24 ⟨Nat.zero_le _, Nat.zero_le _⟩ (fun H locs hP hS => ?_)
      replace hP : va_P (dC, dI) vwCl [(q_t, .inr (5, [.ref q_t_letters, .int t_length])), (q_t_letters, .inl (cI, 48, .inl t_letters))] H := hP
      refine lv_if_eq (tgt := 34) hx hb dX5_fits_27 (by decide) (fun hc => ?_) (fun hc => ?_)
      · replace hf := ip hc hf
        exact h_34 _ _ _ hP hS (lv_sub hl [] rfl) hf
      · replace hf := iq hc hf
        refine lv_iconst (v := 1) hx hb dX5_fits_30 (by decide) ?_
        refine lv_goto (tgt := 35) hx hb dX5_fits_31 (by decide) ?_
        have e0 := ij1 hf
        refine W.eq (congrArg (fun z => F0 m 35 ls [.int z]) e0) ?_
        exact hret _ _ _ _ hP hS (by rw [← e0]; rfl) dX5_fits_35
  · replace hf := iq hc hf
    refine lv_aload_n hx hb dX5_fits_5 rfl (lv_at hl 0 rfl) ?_
    refine lv_iload_n hx hb dX5_fits_6 rfl (lv_at hl 1 rfl) ?_
    obtain ⟨r4, e6, hf⟩ := bd_ok hf
    refine kVi (As := [.int x1]) CF (cwV 1 hts gX5_fits_X5_fitsHead rfl rfl rfl (by decide +kernel) ⟨Nat.le_of_ble_eq_true rfl, Nat.le_of_ble_eq_true rfl⟩) PU_blind hP hD hS hA (va_recv hK.1 hP (ci := 5) (q0 := 0) rfl rfl) [0, 1] (fun h1 h2 h3 => PU_pre hK h1 A h2 h3) (c_X5_fitsHead l dC dI cI cZ q_t q_t_letters _ t_length t_letters x1 r4 e6) rfl rfl rfl rfl hl.1 rfl (Nat.le_of_ble_eq_true rfl) dX5_fits_7 ⟨Nat.zero_le _, Nat.zero_le _⟩ (fun H locs hP hS => ?_)
    replace hP : va_P (dC, dI) vwCl [(q_t, .inr (5, [.ref q_t_letters, .int t_length])), (q_t_letters, .inl (cI, 48, .inl t_letters))] H := hP
    obtain ⟨hz, hf⟩ := zr_ok hf
    have e0 := ij1 hf
    refine W.eq (congrArg (fun z => F0 m 10 ls [.int z]) e0) ?_
    exact hret _ _ _ _ hP hS (by rw [← e0]; exact hz) dX5_fits_10
abbrev rm_X5_faultPlace : Room := { frames := 4, cells := 0, slots := 0, locals := 85 }
set_option maxHeartbeats 4000000 in
set_option maxRecDepth 100000 in
theorem c_X5_faultPlace (l : Launch) (dC : Nat → ClassId) (dI : Nat → Nat → Nat) (cI cZ : ClassId) (q_t q_t_letters : Nat) (sz : Nat) (t_length : Int32) (t_letters : Nat → Int32) (r_ : Int32) (hf : f_X5_faultPlace t_length t_letters = some r_) : Met l yX5_faultPlace wsX5_faultPlace rm_X5_faultPlace (va_Pc [.ref q_t] (PU (dC, dI) cI cZ [(q_t, .inr (5, [.ref q_t_letters, .int t_length])), (q_t_letters, .inl (cI, 48, .inl t_letters))] sz)) (va_Qi (fun (r : Int32) (_ : Unit) => r = r_) (fun _ t => va_P (dC, dI) vwCl [(q_t, .inr (5, [.ref q_t_letters, .int t_length])), (q_t_letters, .inl (cI, 48, .inl t_letters))] t.heap) (va_A [(q_t, .inr (5, [.ref q_t_letters, .int t_length])), (q_t_letters, .inl (cI, 48, .inl t_letters))] sz)) 0 0 (va_A [(q_t, .inr (5, [.ref q_t_letters, .int t_length])), (q_t_letters, .inl (cI, 48, .inl t_letters))] sz) := by
  refine MetI (cc := cX5_faultPlace) (maxL := 2) (by decide) rfl (Nat.le_of_ble_eq_true rfl) (fun _ h => h) ?_
  intro p e s m args below meth c A Q ls hx CF hK hA hD hP hS hl hB hAe hsz hret
  have hb := CF.2.1
  have hml := CF.2.2.1
  have hown := CF.2.2.2.1
  have hts := CF.2.2.2.2
  have hD0 := hD
  replace hl : lv_has ls 2 [(0, .ref q_t)] := hl
  have hinX5 : ∀ w ∈ wsX50, w ∈ wsX5_faultPlace := fun _ h => List.mem_cons_of_mem _ (List.mem_append_right _ h)
  have w_0 := hts (.fieldLink RX5 15 "PassInStep$Text" "length" "I") (by decide +kernel)
  have h_50 : ∀ (H : Heap) (locs : List Loc) (ls : Array Slot), va_P (dC, dI) vwCl [(q_t, .inr (5, [.ref q_t_letters, .int t_length])), (q_t_letters, .inl (cI, 48, .inl t_letters))] H → va_S A s.heap H locs → lv_has ls 2 [(0, .ref q_t)] → J_X5_faultPlace_50 t_length = some r_ → W p l e rm_X5_faultPlace s m args below meth c H locs 0 0 Q (F0 m 50 ls []) := by
    intro  H locs ls hP hS hl hf
    have hD : va_D A [(q_t, .inr (5, [.ref q_t_letters, .int t_length])), (q_t_letters, .inl (cI, 48, .inl t_letters))] := wd hD0 rfl
    rw [J_X5_faultPlace_50] at hf
    refine lv_aload_n hx hb dX5_faultPlace_50 rfl (lv_at hl 0 rfl) ?_
    refine va_get (D := (dC, dI)) (ci := 5) (v := .int t_length) (C := RX5) (T := TX5) (N := 2) hx hb hts hinX5 hown hK.1 hP 0 rfl rfl 1 (by decide) w_0 (fun _ h9 => h9) rfl dX5_faultPlace_51 ?_
    have e0 := ij1 hf
    refine W.eq (congrArg (fun z => F0 m 54 ls [.int z]) e0) ?_
    exact hret _ _ _ _ hP hS dX5_faultPlace_54
  have h_2 : ∀ (fu2 : Nat) (x1 : Int32) (H : Heap) (locs : List Loc) (ls : Array Slot), va_P (dC, dI) vwCl [(q_t, .inr (5, [.ref q_t_letters, .int t_length])), (q_t_letters, .inl (cI, 48, .inl t_letters))] H → va_S A s.heap H locs → lv_has ls 2 [(0, .ref q_t), (1, .int x1)] → L_X5_faultPlace_2 t_length t_letters fu2 x1 = some r_ → W p l e rm_X5_faultPlace s m args below meth c H locs 0 0 Q (F0 m 2 ls []) := by
    intro fu2
    induction fu2 with
    | zero =>
      intro x1 H locs ls hP hS hl hf
      rw [L_X5_faultPlace_2] at hf
      cases hf
    | succ fu2 ih2 =>
      intro x1 H locs ls hP hS hl hf
      have hD : va_D A [(q_t, .inr (5, [.ref q_t_letters, .int t_length])), (q_t_letters, .inl (cI, 48, .inl t_letters))] := wd hD0 rfl
      rw [L_X5_faultPlace_2] at hf
      refine lv_iload_n hx hb dX5_faultPlace_2 rfl (lv_at hl 1 rfl) ?_
      refine lv_aload_n hx hb dX5_faultPlace_3 rfl (lv_at hl 0 rfl) ?_
      refine va_get (D := (dC, dI)) (ci := 5) (v := .int t_length) (C := RX5) (T := TX5) (N := 2) hx hb hts hinX5 hown hK.1 hP 0 rfl rfl 1 (by decide) w_0 (fun _ h9 => h9) rfl dX5_faultPlace_4 ?_
      refine lv_icmp_ge (tgt := 26) hx hb dX5_faultPlace_7 (by decide) (fun hc => ?_) (fun hc => ?_)
      · replace hf := ip hc hf
        refine lv_aload_n hx hb dX5_faultPlace_26 rfl (lv_at hl 0 rfl) ?_
        refine va_get (D := (dC, dI)) (ci := 5) (v := .int t_length) (C := RX5) (T := TX5) (N := 2) hx hb hts hinX5 hown hK.1 hP 0 rfl rfl 1 (by decide) w_0 (fun _ h9 => h9) rfl dX5_faultPlace_27 ?_
        refine lv_iconst (v := 4) hx hb dX5_faultPlace_30 (by decide) ?_
        refine lv_icmp_lt (tgt := 50) hx hb dX5_faultPlace_31 (by decide) (fun hc => ?_) (fun hc => ?_)
        · replace hf := ip hc hf
          exact h_50 _ _ _ hP hS (lv_sub hl [0] rfl) hf
        · replace hf := iq hc hf
          refine lv_aload_n hx hb dX5_faultPlace_34 rfl (lv_at hl 0 rfl) ?_
          refine va_get (D := (dC, dI)) (ci := 5) (v := .int t_length) (C := RX5) (T := TX5) (N := 2) hx hb hts hinX5 hown hK.1 hP 0 rfl rfl 1 (by decide) w_0 (fun _ h9 => h9) rfl dX5_faultPlace_35 ?_
          refine lv_iconst (v := 4) hx hb dX5_faultPlace_38 (by decide) ?_
          refine lv_isub hx hb dX5_faultPlace_39 ?_
          refine lv_iconst (v := 4) hx hb dX5_faultPlace_40 (by decide) ?_
          refine lv_irem hx hb dX5_faultPlace_41 (by decide) ?_
          refine lv_if_ne (tgt := 50) hx hb dX5_faultPlace_42 (by decide) (fun hc => ?_) (fun hc => ?_)
          · replace hf := iq hc hf
            exact h_50 _ _ _ hP hS (lv_sub hl [0] rfl) hf
          · replace hf := ip hc hf
            refine lv_bipush (v := (-9)) hx hb dX5_faultPlace_45 (by decide) ?_
            refine lv_goto (tgt := 54) hx hb dX5_faultPlace_47 (by decide) ?_
            have e0 := ij1 hf
            refine W.eq (congrArg (fun z => F0 m 54 ls [.int z]) e0) ?_
            exact hret _ _ _ _ hP hS dX5_faultPlace_54
      · replace hf := iq hc hf
        refine lv_aload_n hx hb dX5_faultPlace_10 rfl (lv_at hl 0 rfl) ?_
        refine lv_iload_n hx hb dX5_faultPlace_11 rfl (lv_at hl 1 rfl) ?_
        obtain ⟨r1, e3, hf⟩ := bd_ok hf
        refine kVi (As := [.int x1]) CF (cwV 1 hts gX5_faultPlace_X5_fits rfl rfl rfl (by decide +kernel) ⟨Nat.le_of_ble_eq_true rfl, Nat.le_of_ble_eq_true rfl⟩) PU_blind hP hD hS hA (va_recv hK.1 hP (ci := 5) (q0 := 0) rfl rfl) [0, 1] (fun h1 h2 h3 => PU_pre hK h1 A h2 h3) (c_X5_fits l dC dI cI cZ q_t q_t_letters _ t_length t_letters x1 r1 e3) rfl rfl rfl rfl hl.1 rfl (Nat.le_of_ble_eq_true rfl) dX5_faultPlace_12 ⟨Nat.zero_le _, Nat.zero_le _⟩ (fun H locs hP hS => ?_)
        replace hP : va_P (dC, dI) vwCl [(q_t, .inr (5, [.ref q_t_letters, .int t_length])), (q_t_letters, .inl (cI, 48, .inl t_letters))] H := hP
        refine lv_if_ne (tgt := 20) hx hb dX5_faultPlace_15 (by decide) (fun hc => ?_) (fun hc => ?_)
        · replace hf := iq hc hf
          refine lv_iinc (v := (x1 + 1)) (lv' := [(1, .int (x1 + 1)), (0, .ref q_t)]) hx hb dX5_faultPlace_20 hl (k := 1) rfl rfl (by decide) rfl (fun ls hl => ?_)
          refine lv_goto (tgt := 2) hx hb dX5_faultPlace_23 (by decide) ?_
          exact ih2 (x1 + 1) _ _ _ hP hS (lv_sub hl [1, 0] rfl) hf
        · replace hf := ip hc hf
          refine lv_iload_n hx hb dX5_faultPlace_18 rfl (lv_at hl 1 rfl) ?_
          have e0 := ij1 hf
          refine W.eq (congrArg (fun z => F0 m 19 ls [.int z]) e0) ?_
          exact hret _ _ _ _ hP hS dX5_faultPlace_19
  rw [f_X5_faultPlace] at hf
  refine lv_iconst (v := 0) hx hb dX5_faultPlace_0 (by decide) ?_
  refine lv_istore_n (lv' := [(1, .int 0), (0, .ref q_t)]) hx hb dX5_faultPlace_1 rfl hl (by decide) rfl (fun ls hl => ?_)
  exact h_2 fuelC 0 _ _ _ hP hS (lv_sub hl [1, 0] rfl) hf
