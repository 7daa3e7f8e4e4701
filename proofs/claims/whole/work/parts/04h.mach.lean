-- X6_begin X6_downBits X6_strainOfAll X6_treadOf X7_write X7_wipe X7_fault X7_forgetActs X7_party X7_about X7_walker
abbrev rm_X6_begin : Room := { frames := 2, cells := 0, slots := 0, locals := 42 }
set_option maxHeartbeats 4000000 in
set_option maxRecDepth 100000 in
theorem c_X6_begin (l : Launch) (dC : Nat → ClassId) (dI : Nat → Nat → Nat) (cI cZ : ClassId) (q_t q_t_told q_t_line q_t_strides q_t_strains q_t_told_beats q_t_told_kinds q_a1 q_a1_letters : Nat) (sz : Nat) (t_down : Int32) (t_steps : Int32) (t_line : Nat → Int32) (t_told_count : Int32) (t_told_depth : Int32) (t_told_noon : Int32) (t_told_depthBehind : Int32) (a1_length : Int32) (a1_letters : Nat → Int32) (t_strides : Nat → Int32) (t_strains : Nat → Int32) (o_t_down : Int32) (o_t_steps : Int32) (o_t_line : Nat → Int32) (o_t_strides : Nat → Int32) (o_t_strains : Nat → Int32) (hf : f_X6_begin t_down t_steps t_line t_told_count a1_letters t_strides t_strains = some (o_t_down, o_t_steps, o_t_line, o_t_strides, o_t_strains)) : Met l yX6_begin wsX6_begin rm_X6_begin (va_Pc [.ref q_t, .ref q_a1] (PU (dC, dI) cI cZ [(q_t, .inr (6, [.ref q_t_told, .ref q_t_line, .ref q_t_strides, .ref q_t_strains, .int t_down, .int t_steps])), (q_t_line, .inl (cI, 5, .inl t_line)), (q_t_told, .inr (3, [.ref q_t_told_beats, .ref q_t_told_kinds, .int t_told_count, .int t_told_depth, .int t_told_noon, .int t_told_depthBehind])), (q_a1, .inr (5, [.ref q_a1_letters, .int a1_length])), (q_a1_letters, .inl (cI, 48, .inl a1_letters)), (q_t_strides, .inl (cI, 5, .inl t_strides)), (q_t_strains, .inl (cI, 5, .inl t_strains))] sz)) (va_Qv (fun (_ : Unit) => True) (fun _ t => va_P (dC, dI) vwCl [(q_t, .inr (6, [.ref q_t_told, .ref q_t_line, .ref q_t_strides, .ref q_t_strains, .int o_t_down, .int o_t_steps])), (q_t_line, .inl (cI, 5, .inl o_t_line)), (q_t_told, .inr (3, [.ref q_t_told_beats, .ref q_t_told_kinds, .int t_told_count, .int t_told_depth, .int t_told_noon, .int t_told_depthBehind])), (q_a1, .inr (5, [.ref q_a1_letters, .int a1_length])), (q_a1_letters, .inl (cI, 48, .inl a1_letters)), (q_t_strides, .inl (cI, 5, .inl o_t_strides)), (q_t_strains, .inl (cI, 5, .inl o_t_strains))] t.heap) (va_A [(q_t, .inr (6, [.ref q_t_told, .ref q_t_line, .ref q_t_strides, .ref q_t_strains, .int t_down, .int t_steps])), (q_t_line, .inl (cI, 5, .inl t_line)), (q_t_told, .inr (3, [.ref q_t_told_beats, .ref q_t_told_kinds, .int t_told_count, .int t_told_depth, .int t_told_noon, .int t_told_depthBehind])), (q_a1, .inr (5, [.ref q_a1_letters, .int a1_length])), (q_a1_letters, .inl (cI, 48, .inl a1_letters)), (q_t_strides, .inl (cI, 5, .inl t_strides)), (q_t_strains, .inl (cI, 5, .inl t_strains))] sz)) 0 0 (va_A [(q_t, .inr (6, [.ref q_t_told, .ref q_t_line, .ref q_t_strides, .ref q_t_strains, .int t_down, .int t_steps])), (q_t_line, .inl (cI, 5, .inl t_line)), (q_t_told, .inr (3, [.ref q_t_told_beats, .ref q_t_told_kinds, .int t_told_count, .int t_told_depth, .int t_told_noon, .int t_told_depthBehind])), (q_a1, .inr (5, [.ref q_a1_letters, .int a1_length])), (q_a1_letters, .inl (cI, 48, .inl a1_letters)), (q_t_strides, .inl (cI, 5, .inl t_strides)), (q_t_strains, .inl (cI, 5, .inl t_strains))] sz) := by
  refine MetV (cc := cX6_begin) (maxL := 3) (by decide) rfl (Nat.le_of_ble_eq_true rfl) (fun _ h => h) ?_
  intro p e s m args below meth c A Q ls hx CF hK hA hD hP hS hl hB hAe hsz hret
  have hb := CF.2.1
  have hml := CF.2.2.1
  have hown := CF.2.2.2.1
  have hts := CF.2.2.2.2
  have hD0 := hD
  replace hl : lv_has ls 3 [(0, .ref q_t), (1, .ref q_a1)] := hl
  have hinX6 : ∀ w ∈ wsX60, w ∈ wsX6_begin := fun _ h => List.mem_cons_of_mem _ (List.mem_append_left _ (List.mem_append_left _ (List.mem_append_right _ h)))
  have hinX3 : ∀ w ∈ wsX30, w ∈ wsX6_begin := fun _ h => List.mem_cons_of_mem _ (List.mem_append_left _ (List.mem_append_right _ h))
  have hinX5 : ∀ w ∈ wsX50, w ∈ wsX6_begin := fun _ h => List.mem_cons_of_mem _ (List.mem_append_right _ h)
  have w_0 := hts (.initialized RX7) (by decide +kernel)
  have w_1 := hts (.static yX7_put) (by decide +kernel)
  have w_2 := hts (.fieldLink RX6 18 "PassInStep$Yard" "strains" "[I") (by decide +kernel)
  have w_3 := hts (.fieldLink RX6 41 "PassInStep$Yard" "down" "I") (by decide +kernel)
  have w_4 := hts (.fieldLink RX6 45 "PassInStep$Yard" "steps" "I") (by decide +kernel)
  have w_5 := hts (.fieldLink RX6 9 "PassInStep$Yard" "line" "[I") (by decide +kernel)
  have w_6 := hts (.fieldLink RX6 15 "PassInStep$Yard" "strides" "[I") (by decide +kernel)
  have w_7 := hts (.fieldLink RX6 21 "PassInStep$Yard" "told" "LPassInStep$Party;") (by decide +kernel)
  have h_2 : ∀ (t_down : Int32) (t_steps : Int32) (fu2 : Nat) (x2 : Int32) (t_line : Nat → Int32) (t_strides : Nat → Int32) (t_strains : Nat → Int32) (H : Heap) (locs : List Loc) (ls : Array Slot), va_P (dC, dI) vwCl [(q_t, .inr (6, [.ref q_t_told, .ref q_t_line, .ref q_t_strides, .ref q_t_strains, .int t_down, .int t_steps])), (q_t_line, .inl (cI, 5, .inl t_line)), (q_t_told, .inr (3, [.ref q_t_told_beats, .ref q_t_told_kinds, .int t_told_count, .int t_told_depth, .int t_told_noon, .int t_told_depthBehind])), (q_a1, .inr (5, [.ref q_a1_letters, .int a1_length])), (q_a1_letters, .inl (cI, 48, .inl a1_letters)), (q_t_strides, .inl (cI, 5, .inl t_strides)), (q_t_strains, .inl (cI, 5, .inl t_strains))] H → va_S A s.heap H locs → lv_has ls 3 [(0, .ref q_t), (1, .ref q_a1), (2, .int x2)] → L_X6_begin_2 t_down t_steps t_told_count a1_letters fu2 x2 t_line t_strides t_strains = some (o_t_down, o_t_steps, o_t_line, o_t_strides, o_t_strains) → W p l e rm_X6_begin s m args below meth c H locs 0 0 Q (F0 m 2 ls []) := by
    intro t_down t_steps fu2
    induction fu2 with
    | zero =>
      intro x2 t_line t_strides t_strains H locs ls hP hS hl hf
      rw [L_X6_begin_2] at hf
      cases hf
    | succ fu2 ih2 =>
      have h_47 : ∀ (x2 : Int32) (s0 : Int32) (s1 : Int32) (t_line : Nat → Int32) (t_strides : Nat → Int32) (t_strains : Nat → Int32) (H : Heap) (locs : List Loc) (ls : Array Slot), va_P (dC, dI) vwCl [(q_t, .inr (6, [.ref q_t_told, .ref q_t_line, .ref q_t_strides, .ref q_t_strains, .int t_down, .int t_steps])), (q_t_line, .inl (cI, 5, .inl t_line)), (q_t_told, .inr (3, [.ref q_t_told_beats, .ref q_t_told_kinds, .int t_told_count, .int t_told_depth, .int t_told_noon, .int t_told_depthBehind])), (q_a1, .inr (5, [.ref q_a1_letters, .int a1_length])), (q_a1_letters, .inl (cI, 48, .inl a1_letters)), (q_t_strides, .inl (cI, 5, .inl t_strides)), (q_t_strains, .inl (cI, 5, .inl t_strains))] H → va_S A s.heap H locs → lv_has ls 3 [(0, .ref q_t), (1, .ref q_a1), (2, .int x2)] → J_X6_begin_47 (L_X6_begin_2 t_down t_steps t_told_count a1_letters fu2) x2 s0 s1 t_line t_strides t_strains = some (o_t_down, o_t_steps, o_t_line, o_t_strides, o_t_strains) → W p l e rm_X6_begin s m args below meth c H locs 0 0 Q (F0 m 47 ls [.int s0, .int s1, .ref q_t_strides]) := by
        intro x2 s0 s1 t_line t_strides t_strains H locs ls hP hS hl hf
        have hD : va_D A [(q_t, .inr (6, [.ref q_t_told, .ref q_t_line, .ref q_t_strides, .ref q_t_strains, .int t_down, .int t_steps])), (q_t_line, .inl (cI, 5, .inl t_line)), (q_t_told, .inr (3, [.ref q_t_told_beats, .ref q_t_told_kinds, .int t_told_count, .int t_told_depth, .int t_told_noon, .int t_told_depthBehind])), (q_a1, .inr (5, [.ref q_a1_letters, .int a1_length])), (q_a1_letters, .inl (cI, 48, .inl a1_letters)), (q_t_strides, .inl (cI, 5, .inl t_strides)), (q_t_strains, .inl (cI, 5, .inl t_strains))] := wd hD0 rfl
        rw [J_X6_begin_47] at hf
        obtain ⟨o1, e3, hf⟩ := bd_ok hf
        refine kNv (As := [.ref q_t_strides, .int s1, .int s0]) CF ⟨va_cnB 3 hts gX6_begin_X7_put_n25 rfl rfl rfl (nw_X6_25 hK.2) w_0 (by decide +kernel) ⟨Nat.le_of_ble_eq_true rfl, Nat.le_of_ble_eq_true rfl⟩, w_1, trivial⟩ PU_blind hP hD hS hA [5] (fun h1 h2 h3 => PU_pre hK h1 A h2 h3) (c_X7_put l dC dI cI cZ q_t_strides _ t_strides 5 s1 s0 o1 e3) rfl rfl rfl rfl hl.1 rfl (Nat.le_of_ble_eq_true rfl) dX6_begin_47 ⟨Nat.zero_le _, Nat.zero_le _⟩ (fun H locs hP hS => ?_)
        replace hP : va_P (dC, dI) vwCl [(q_t, .inr (6, [.ref q_t_told, .ref q_t_line, .ref q_t_strides, .ref q_t_strains, .int t_down, .int t_steps])), (q_t_line, .inl (cI, 5, .inl t_line)), (q_t_told, .inr (3, [.ref q_t_told_beats, .ref q_t_told_kinds, .int t_told_count, .int t_told_depth, .int t_told_noon, .int t_told_depthBehind])), (q_a1, .inr (5, [.ref q_a1_letters, .int a1_length])), (q_a1_letters, .inl (cI, 48, .inl a1_letters)), (q_t_strides, .inl (cI, 5, .inl o1)), (q_t_strains, .inl (cI, 5, .inl t_strains))] H := hP
        replace hD : va_D A [(q_t, .inr (6, [.ref q_t_told, .ref q_t_line, .ref q_t_strides, .ref q_t_strains, .int t_down, .int t_steps])), (q_t_line, .inl (cI, 5, .inl t_line)), (q_t_told, .inr (3, [.ref q_t_told_beats, .ref q_t_told_kinds, .int t_told_count, .int t_told_depth, .int t_told_noon, .int t_told_depthBehind])), (q_a1, .inr (5, [.ref q_a1_letters, .int a1_length])), (q_a1_letters, .inl (cI, 48, .inl a1_letters)), (q_t_strides, .inl (cI, 5, .inl o1)), (q_t_strains, .inl (cI, 5, .inl t_strains))] := wd hD rfl
        refine lv_aload_n hx hb dX6_begin_50 rfl (lv_at hl 0 rfl) ?_
        refine va_get (D := (dC, dI)) (ci := 6) (v := .ref q_t_strains) (C := RX6) (T := TX6) (N := 6) hx hb hts hinX6 hown hK.1 hP 0 rfl rfl 3 (by decide) w_2 (fun _ h9 => h9) rfl dX6_begin_51 ?_
        refine lv_iload_n hx hb dX6_begin_54 rfl (lv_at hl 2 rfl) ?_
        refine lv_iconst (v := 0) hx hb dX6_begin_55 (by decide) ?_
        obtain ⟨o4, e6, hf⟩ := bd_ok hf
        refine kNv (As := [.ref q_t_strains, .int x2, .int 0]) CF ⟨va_cnB 3 hts gX6_begin_X7_put_n25 rfl rfl rfl (nw_X6_25 hK.2) w_0 (by decide +kernel) ⟨Nat.le_of_ble_eq_true rfl, Nat.le_of_ble_eq_true rfl⟩, w_1, trivial⟩ PU_blind hP hD hS hA [6] (fun h1 h2 h3 => PU_pre hK h1 A h2 h3) (c_X7_put l dC dI cI cZ q_t_strains _ t_strains 5 x2 0 o4 e6) rfl rfl rfl rfl hl.1 rfl (Nat.le_of_ble_eq_true rfl) dX6_begin_56 ⟨Nat.zero_le _, Nat.zero_le _⟩ (fun H locs hP hS => ?_)
        replace hP : va_P (dC, dI) vwCl [(q_t, .inr (6, [.ref q_t_told, .ref q_t_line, .ref q_t_strides, .ref q_t_strains, .int t_down, .int t_steps])), (q_t_line, .inl (cI, 5, .inl t_line)), (q_t_told, .inr (3, [.ref q_t_told_beats, .ref q_t_told_kinds, .int t_told_count, .int t_told_depth, .int t_told_noon, .int t_told_depthBehind])), (q_a1, .inr (5, [.ref q_a1_letters, .int a1_length])), (q_a1_letters, .inl (cI, 48, .inl a1_letters)), (q_t_strides, .inl (cI, 5, .inl o1)), (q_t_strains, .inl (cI, 5, .inl o4))] H := hP
        replace hD : va_D A [(q_t, .inr (6, [.ref q_t_told, .ref q_t_line, .ref q_t_strides, .ref q_t_strains, .int t_down, .int t_steps])), (q_t_line, .inl (cI, 5, .inl t_line)), (q_t_told, .inr (3, [.ref q_t_told_beats, .ref q_t_told_kinds, .int t_told_count, .int t_told_depth, .int t_told_noon, .int t_told_depthBehind])), (q_a1, .inr (5, [.ref q_a1_letters, .int a1_length])), (q_a1_letters, .inl (cI, 48, .inl a1_letters)), (q_t_strides, .inl (cI, 5, .inl o1)), (q_t_strains, .inl (cI, 5, .inl o4))] := wd hD rfl
        refine lv_iinc (v := (x2 + 1)) (lv' := [(2, .int (x2 + 1)), (0, .ref q_t), (1, .ref q_a1)]) hx hb dX6_begin_59 hl (k := 2) rfl rfl (by decide) rfl (fun ls hl => ?_)
        refine lv_goto (tgt := 2) hx hb dX6_begin_62 (by decide) ?_
        exact ih2 (x2 + 1) t_line o1 o4 _ _ _ hP hS (lv_sub hl [1, 2, 0] rfl) hf
      intro x2 t_line t_strides t_strains H locs ls hP hS hl hf
      have hD : va_D A [(q_t, .inr (6, [.ref q_t_told, .ref q_t_line, .ref q_t_strides, .ref q_t_strains, .int t_down, .int t_steps])), (q_t_line, .inl (cI, 5, .inl t_line)), (q_t_told, .inr (3, [.ref q_t_told_beats, .ref q_t_told_kinds, .int t_told_count, .int t_told_depth, .int t_told_noon, .int t_told_depthBehind])), (q_a1, .inr (5, [.ref q_a1_letters, .int a1_length])), (q_a1_letters, .inl (cI, 48, .inl a1_letters)), (q_t_strides, .inl (cI, 5, .inl t_strides)), (q_t_strains, .inl (cI, 5, .inl t_strains))] := wd hD0 rfl
      rw [L_X6_begin_2] at hf
      refine lv_iload_n hx hb dX6_begin_2 rfl (lv_at hl 2 rfl) ?_
      refine lv_iconst (v := 5) hx hb dX6_begin_3 (by decide) ?_
      refine lv_icmp_ge (tgt := 65) hx hb dX6_begin_4 (by decide) (fun hc => ?_) (fun hc => ?_)
      · replace hf := ip hc hf
        refine lv_aload_n hx hb dX6_begin_65 rfl (lv_at hl 0 rfl) ?_
        refine lv_iconst (v := 0) hx hb dX6_begin_66 (by decide) ?_
        refine va_put (D := (dC, dI)) (ci := 6) (v := .int 0) (ty := .int) (C := RX6) (T := TX6) (N := 6) hx hb hts hinX6 tyX6 tyX6_ok nmX6 hown hK.1 hP hD hS 0 rfl rfl 4 (by decide) w_3 (fun _ h9 => h9) rfl (by decide +kernel) rfl rfl (Nat.le_of_ble_eq_true rfl) dX6_begin_67 (fun H locs hP hD hS => ?_)
        replace hP : va_P (dC, dI) vwCl [(q_t, .inr (6, [.ref q_t_told, .ref q_t_line, .ref q_t_strides, .ref q_t_strains, .int 0, .int t_steps])), (q_t_line, .inl (cI, 5, .inl t_line)), (q_t_told, .inr (3, [.ref q_t_told_beats, .ref q_t_told_kinds, .int t_told_count, .int t_told_depth, .int t_told_noon, .int t_told_depthBehind])), (q_a1, .inr (5, [.ref q_a1_letters, .int a1_length])), (q_a1_letters, .inl (cI, 48, .inl a1_letters)), (q_t_strides, .inl (cI, 5, .inl t_strides)), (q_t_strains, .inl (cI, 5, .inl t_strains))] H := hP
        replace hD : va_D A [(q_t, .inr (6, [.ref q_t_told, .ref q_t_line, .ref q_t_strides, .ref q_t_strains, .int 0, .int t_steps])), (q_t_line, .inl (cI, 5, .inl t_line)), (q_t_told, .inr (3, [.ref q_t_told_beats, .ref q_t_told_kinds, .int t_told_count, .int t_told_depth, .int t_told_noon, .int t_told_depthBehind])), (q_a1, .inr (5, [.ref q_a1_letters, .int a1_length])), (q_a1_letters, .inl (cI, 48, .inl a1_letters)), (q_t_strides, .inl (cI, 5, .inl t_strides)), (q_t_strains, .inl (cI, 5, .inl t_strains))] := hD
        refine lv_aload_n hx hb dX6_begin_70 rfl (lv_at hl 0 rfl) ?_
        refine lv_iconst (v := 0) hx hb dX6_begin_71 (by decide) ?_
        refine va_put (D := (dC, dI)) (ci := 6) (v := .int 0) (ty := .int) (C := RX6) (T := TX6) (N := 6) hx hb hts hinX6 tyX6 tyX6_ok nmX6 hown hK.1 hP hD hS 0 rfl rfl 5 (by decide) w_4 (fun _ h9 => h9) rfl (by decide +kernel) rfl rfl (Nat.le_of_ble_eq_true rfl) dX6_begin_72 (fun H locs hP hD hS => ?_)
        replace hP : va_P (dC, dI) vwCl [(q_t, .inr (6, [.ref q_t_told, .ref q_t_line, .ref q_t_strides, .ref q_t_strains, .int 0, .int 0])), (q_t_line, .inl (cI, 5, .inl t_line)), (q_t_told, .inr (3, [.ref q_t_told_beats, .ref q_t_told_kinds, .int t_told_count, .int t_told_depth, .int t_told_noon, .int t_told_depthBehind])), (q_a1, .inr (5, [.ref q_a1_letters, .int a1_length])), (q_a1_letters, .inl (cI, 48, .inl a1_letters)), (q_t_strides, .inl (cI, 5, .inl t_strides)), (q_t_strains, .inl (cI, 5, .inl t_strains))] H := hP
        replace hD : va_D A [(q_t, .inr (6, [.ref q_t_told, .ref q_t_line, .ref q_t_strides, .ref q_t_strains, .int 0, .int 0])), (q_t_line, .inl (cI, 5, .inl t_line)), (q_t_told, .inr (3, [.ref q_t_told_beats, .ref q_t_told_kinds, .int t_told_count, .int t_told_depth, .int t_told_noon, .int t_told_depthBehind])), (q_a1, .inr (5, [.ref q_a1_letters, .int a1_length])), (q_a1_letters, .inl (cI, 48, .inl a1_letters)), (q_t_strides, .inl (cI, 5, .inl t_strides)), (q_t_strains, .inl (cI, 5, .inl t_strains))] := hD
        obtain ⟨e0, hf⟩ := ij2 hf
        obtain ⟨e1, hf⟩ := ijc hf
        obtain ⟨e2, hf⟩ := ijc hf
        obtain ⟨e3, hf⟩ := ijc hf
        have e4 := hf
        exact hret _ _ _ _ (by rw [← e0, ← e1, ← e2, ← e3, ← e4]; exact hP) hS dX6_begin_75
      · replace hf := iq hc hf
        refine lv_aload_n hx hb dX6_begin_7 rfl (lv_at hl 0 rfl) ?_
        refine va_get (D := (dC, dI)) (ci := 6) (v := .ref q_t_line) (C := RX6) (T := TX6) (N := 6) hx hb hts hinX6 hown hK.1 hP 0 rfl rfl 1 (by decide) w_5 (fun _ h9 => h9) rfl dX6_begin_8 ?_
        refine lv_iload_n hx hb dX6_begin_11 rfl (lv_at hl 2 rfl) ?_
        refine lv_iload_n hx hb dX6_begin_12 rfl (lv_at hl 2 rfl) ?_
        obtain ⟨o7, e9, hf⟩ := bd_ok hf
        refine kNv (As := [.ref q_t_line, .int x2, .int x2]) CF ⟨va_cnB 3 hts gX6_begin_X7_put_n25 rfl rfl rfl (nw_X6_25 hK.2) w_0 (by decide +kernel) ⟨Nat.le_of_ble_eq_true rfl, Nat.le_of_ble_eq_true rfl⟩, w_1, trivial⟩ PU_blind hP hD hS hA [1] (fun h1 h2 h3 => PU_pre hK h1 A h2 h3) (c_X7_put l dC dI cI cZ q_t_line _ t_line 5 x2 x2 o7 e9) rfl rfl rfl rfl hl.1 rfl (Nat.le_of_ble_eq_true rfl) dX6_begin_13 ⟨Nat.zero_le _, Nat.zero_le _⟩ (fun H locs hP hS => ?_)
        replace hP : va_P (dC, dI) vwCl [(q_t, .inr (6, [.ref q_t_told, .ref q_t_line, .ref q_t_strides, .ref q_t_strains, .int t_down, .int t_steps])), (q_t_line, .inl (cI, 5, .inl o7)), (q_t_told, .inr (3, [.ref q_t_told_beats, .ref q_t_told_kinds, .int t_told_count, .int t_told_depth, .int t_told_noon, .int t_told_depthBehind])), (q_a1, .inr (5, [.ref q_a1_letters, .int a1_length])), (q_a1_letters, .inl (cI, 48, .inl a1_letters)), (q_t_strides, .inl (cI, 5, .inl t_strides)), (q_t_strains, .inl (cI, 5, .inl t_strains))] H := hP
        replace hD : va_D A [(q_t, .inr (6, [.ref q_t_told, .ref q_t_line, .ref q_t_strides, .ref q_t_strains, .int t_down, .int t_steps])), (q_t_line, .inl (cI, 5, .inl o7)), (q_t_told, .inr (3, [.ref q_t_told_beats, .ref q_t_told_kinds, .int t_told_count, .int t_told_depth, .int t_told_noon, .int t_told_depthBehind])), (q_a1, .inr (5, [.ref q_a1_letters, .int a1_length])), (q_a1_letters, .inl (cI, 48, .inl a1_letters)), (q_t_strides, .inl (cI, 5, .inl t_strides)), (q_t_strains, .inl (cI, 5, .inl t_strains))] := wd hD rfl
        refine lv_aload_n hx hb dX6_begin_16 rfl (lv_at hl 0 rfl) ?_
        refine va_get (D := (dC, dI)) (ci := 6) (v := .ref q_t_strides) (C := RX6) (T := TX6) (N := 6) hx hb hts hinX6 hown hK.1 hP 0 rfl rfl 2 (by decide) w_6 (fun _ h9 => h9) rfl dX6_begin_17 ?_
        refine lv_iload_n hx hb dX6_begin_20 rfl (lv_at hl 2 rfl) ?_
        refine lv_aload_n hx hb dX6_begin_21 rfl (lv_at hl 0 rfl) ?_
        refine va_get (D := (dC, dI)) (ci := 6) (v := .ref q_t_told) (C := RX6) (T := TX6) (N := 6) hx hb hts hinX6 hown hK.1 hP 0 rfl rfl 0 (by decide) w_7 (fun _ h9 => h9) rfl dX6_begin_22 ?_
        refine lv_iload_n hx hb dX6_begin_25 rfl (lv_at hl 2 rfl) ?_
        obtain ⟨r10, e12, hf⟩ := bd_ok hf
        refine kVi (As := [.int x2]) CF (cwV 1 hts gX6_begin_X3_has rfl rfl rfl (by decide +kernel) ⟨Nat.le_of_ble_eq_true rfl, Nat.le_of_ble_eq_true rfl⟩) PU_blind hP hD hS hA (va_recv hK.1 hP (ci := 3) (q0 := 2) rfl rfl) [2] (fun h1 h2 h3 => PU_pre hK h1 A h2 h3) (c_X3_has l dC dI cI cZ q_t_told q_t_told_beats q_t_told_kinds _ t_told_count t_told_depth t_told_noon t_told_depthBehind x2 r10 e12) rfl rfl rfl rfl hl.1 rfl (Nat.le_of_ble_eq_true rfl) dX6_begin_26 ⟨Nat.zero_le _, Nat.zero_le _⟩ (fun H locs hP hS => ?_)
        replace hP : va_P (dC, dI) vwCl [(q_t, .inr (6, [.ref q_t_told, .ref q_t_line, .ref q_t_strides, .ref q_t_strains, .int t_down, .int t_steps])), (q_t_line, .inl (cI, 5, .inl o7)), (q_t_told, .inr (3, [.ref q_t_told_beats, .ref q_t_told_kinds, .int t_told_count, .int t_told_depth, .int t_told_noon, .int t_told_depthBehind])), (q_a1, .inr (5, [.ref q_a1_letters, .int a1_length])), (q_a1_letters, .inl (cI, 48, .inl a1_letters)), (q_t_strides, .inl (cI, 5, .inl t_strides)), (q_t_strains, .inl (cI, 5, .inl t_strains))] H := hP
        refine lv_if_eq (tgt := 46) hx hb dX6_begin_29 (by decide) (fun hc => ?_) (fun hc => ?_)
        · replace hf := ip hc hf
          refine lv_iconst (v := 0) hx hb dX6_begin_46 (by decide) ?_
          exact h_47 x2 0 x2 o7 t_strides t_strains _ _ _ hP hS (lv_sub hl [0, 1, 2] rfl) hf
        · replace hf := iq hc hf
          refine lv_aload_n hx hb dX6_begin_32 rfl (lv_at hl 1 rfl) ?_
          refine lv_iconst (v := 4) hx hb dX6_begin_33 (by decide) ?_
          refine lv_iload_n hx hb dX6_begin_34 rfl (lv_at hl 2 rfl) ?_
          refine lv_iconst (v := 4) hx hb dX6_begin_35 (by decide) ?_
          refine lv_imul hx hb dX6_begin_36 ?_
          refine lv_iadd hx hb dX6_begin_37 ?_
          refine lv_iconst (v := 1) hx hb dX6_begin_38 (by decide) ?_
          refine lv_iadd hx hb dX6_begin_39 ?_
          obtain ⟨r13, e15, hf⟩ := bd_ok hf
          refine kVi (As := [.int ((4 + (x2 * 4)) + 1)]) CF (cwV 1 hts gX6_begin_X5_figureAt rfl rfl rfl (by decide +kernel) ⟨Nat.le_of_ble_eq_true rfl, Nat.le_of_ble_eq_true rfl⟩) PU_blind hP hD hS hA (va_recv hK.1 hP (ci := 5) (q0 := 3) rfl rfl) [3, 4] (fun h1 h2 h3 => PU_pre hK h1 A h2 h3) (c_X5_figureAt l dC dI cI cZ q_a1 q_a1_letters _ a1_length a1_letters ((4 + (x2 * 4)) + 1) r13 e15) rfl rfl rfl rfl hl.1 rfl (Nat.le_of_ble_eq_true rfl) dX6_begin_40 ⟨Nat.zero_le _, Nat.zero_le _⟩ (fun H locs hP hS => ?_)
          replace hP : va_P (dC, dI) vwCl [(q_t, .inr (6, [.ref q_t_told, .ref q_t_line, .ref q_t_strides, .ref q_t_strains, .int t_down, .int t_steps])), (q_t_line, .inl (cI, 5, .inl o7)), (q_t_told, .inr (3, [.ref q_t_told_beats, .ref q_t_told_kinds, .int t_told_count, .int t_told_depth, .int t_told_noon, .int t_told_depthBehind])), (q_a1, .inr (5, [.ref q_a1_letters, .int a1_length])), (q_a1_letters, .inl (cI, 48, .inl a1_letters)), (q_t_strides, .inl (cI, 5, .inl t_strides)), (q_t_strains, .inl (cI, 5, .inl t_strains))] H := hP
          refine lv_goto (tgt := 47) hx hb dX6_begin_43 (by decide) ?_
          exact h_47 x2 r13 x2 o7 t_strides t_strains _ _ _ hP hS (lv_sub hl [0, 1, 2] rfl) hf
  rw [f_X6_begin] at hf
  refine lv_iconst (v := 0) hx hb dX6_begin_0 (by decide) ?_
  refine lv_istore_n (lv' := [(2, .int 0), (0, .ref q_t), (1, .ref q_a1)]) hx hb dX6_begin_1 rfl hl (by decide) rfl (fun ls hl => ?_)
  exact h_2 t_down t_steps fuelC 0 t_line t_strides t_strains _ _ _ hP hS (lv_sub hl [1, 2, 0] rfl) hf
abbrev rm_X6_downBits : Room := { frames := 0, cells := 0, slots := 0, locals := 0 }
set_option maxHeartbeats 4000000 in
set_option maxRecDepth 100000 in
theorem c_X6_downBits (l : Launch) (dC : Nat → ClassId) (dI : Nat → Nat → Nat) (cI cZ : ClassId) (q_t q_t_told q_t_line q_t_strides q_t_strains : Nat) (sz : Nat) (t_down : Int32) (t_steps : Int32) (r_ : Int32) (hf : f_X6_downBits t_down = some r_) : Met l yX6_downBits wsX6_downBits rm_X6_downBits (va_Pc [.ref q_t] (PU (dC, dI) cI cZ [(q_t, .inr (6, [.ref q_t_told, .ref q_t_line, .ref q_t_strides, .ref q_t_strains, .int t_down, .int t_steps]))] sz)) (va_Qi (fun (r : Int32) (_ : Unit) => r = r_) (fun _ t => va_P (dC, dI) vwCl [(q_t, .inr (6, [.ref q_t_told, .ref q_t_line, .ref q_t_strides, .ref q_t_strains, .int t_down, .int t_steps]))] t.heap) (va_A [(q_t, .inr (6, [.ref q_t_told, .ref q_t_line, .ref q_t_strides, .ref q_t_strains, .int t_down, .int t_steps]))] sz)) 0 0 (va_A [(q_t, .inr (6, [.ref q_t_told, .ref q_t_line, .ref q_t_strides, .ref q_t_strains, .int t_down, .int t_steps]))] sz) := by
  refine MetI (cc := cX6_downBits) (maxL := 1) (by decide) rfl (Nat.le_of_ble_eq_true rfl) (fun _ h => h) ?_
  intro p e s m args below meth c A Q ls hx CF hK hA hD hP hS hl hB hAe hsz hret
  have hb := CF.2.1
  have hml := CF.2.2.1
  have hown := CF.2.2.2.1
  have hts := CF.2.2.2.2
  have hD0 := hD
  replace hl : lv_has ls 1 [(0, .ref q_t)] := hl
  have hinX6 : ∀ w ∈ wsX60, w ∈ wsX6_downBits := fun _ h => List.mem_cons_of_mem _ (List.mem_append_right _ h)
  have w_0 := hts (.fieldLink RX6 41 "PassInStep$Yard" "down" "I") (by decide +kernel)
  rw [f_X6_downBits] at hf
  refine lv_aload_n hx hb dX6_downBits_0 rfl (lv_at hl 0 rfl) ?_
  refine va_get (D := (dC, dI)) (ci := 6) (v := .int t_down) (C := RX6) (T := TX6) (N := 6) hx hb hts hinX6 hown hK.1 hP 0 rfl rfl 4 (by decide) w_0 (fun _ h9 => h9) rfl dX6_downBits_1 ?_
  have e0 := ij1 hf
  refine W.eq (congrArg (fun z => F0 m 4 ls [.int z]) e0) ?_
  exact hret _ _ _ _ hP hS dX6_downBits_4
abbrev rm_X6_strainOfAll : Room := { frames := 1, cells := 0, slots := 0, locals := 21 }
set_option maxHeartbeats 4000000 in
set_option maxRecDepth 100000 in
theorem c_X6_strainOfAll (l : Launch) (dC : Nat → ClassId) (dI : Nat → Nat → Nat) (cI cZ : ClassId) (q_t q_t_told q_t_line q_t_strides q_t_strains q_t_told_beats q_t_told_kinds : Nat) (sz : Nat) (t_down : Int32) (t_steps : Int32) (t_told_count : Int32) (t_told_depth : Int32) (t_told_noon : Int32) (t_told_depthBehind : Int32) (t_strains : Nat → Int32) (r_ : Int32) (hf : f_X6_strainOfAll t_told_count t_strains = some r_) : Met l yX6_strainOfAll wsX6_strainOfAll rm_X6_strainOfAll (va_Pc [.ref q_t] (PU (dC, dI) cI cZ [(q_t, .inr (6, [.ref q_t_told, .ref q_t_line, .ref q_t_strides, .ref q_t_strains, .int t_down, .int t_steps])), (q_t_told, .inr (3, [.ref q_t_told_beats, .ref q_t_told_kinds, .int t_told_count, .int t_told_depth, .int t_told_noon, .int t_told_depthBehind])), (q_t_strains, .inl (cI, 5, .inl t_strains))] sz)) (va_Qi (fun (r : Int32) (_ : Unit) => r = r_) (fun _ t => va_P (dC, dI) vwCl [(q_t, .inr (6, [.ref q_t_told, .ref q_t_line, .ref q_t_strides, .ref q_t_strains, .int t_down, .int t_steps])), (q_t_told, .inr (3, [.ref q_t_told_beats, .ref q_t_told_kinds, .int t_told_count, .int t_told_depth, .int t_told_noon, .int t_told_depthBehind])), (q_t_strains, .inl (cI, 5, .inl t_strains))] t.heap) (va_A [(q_t, .inr (6, [.ref q_t_told, .ref q_t_line, .ref q_t_strides, .ref q_t_strains, .int t_down, .int t_steps])), (q_t_told, .inr (3, [.ref q_t_told_beats, .ref q_t_told_kinds, .int t_told_count, .int t_told_depth, .int t_told_noon, .int t_told_depthBehind])), (q_t_strains, .inl (cI, 5, .inl t_strains))] sz)) 0 0 (va_A [(q_t, .inr (6, [.ref q_t_told, .ref q_t_line, .ref q_t_strides, .ref q_t_strains, .int t_down, .int t_steps])), (q_t_told, .inr (3, [.ref q_t_told_beats, .ref q_t_told_kinds, .int t_told_count, .int t_told_depth, .int t_told_noon, .int t_told_depthBehind])), (q_t_strains, .inl (cI, 5, .inl t_strains))] sz) := by
  refine MetI (cc := cX6_strainOfAll) (maxL := 3) (by decide) rfl (Nat.le_of_ble_eq_true rfl) (fun _ h => h) ?_
  intro p e s m args below meth c A Q ls hx CF hK hA hD hP hS hl hB hAe hsz hret
  have hb := CF.2.1
  have hml := CF.2.2.1
  have hown := CF.2.2.2.1
  have hts := CF.2.2.2.2
  have hD0 := hD
  replace hl : lv_has ls 3 [(0, .ref q_t)] := hl
  have hinX6 : ∀ w ∈ wsX60, w ∈ wsX6_strainOfAll := fun _ h => List.mem_cons_of_mem _ (List.mem_append_left _ (List.mem_append_right _ h))
  have hinX3 : ∀ w ∈ wsX30, w ∈ wsX6_strainOfAll := fun _ h => List.mem_cons_of_mem _ (List.mem_append_right _ h)
  have w_0 := hts (.fieldLink RX6 21 "PassInStep$Yard" "told" "LPassInStep$Party;") (by decide +kernel)
  have w_1 := hts (.fieldLink RX6 18 "PassInStep$Yard" "strains" "[I") (by decide +kernel)
  have w_2 := hts (.initialized RX7) (by decide +kernel)
  have w_3 := hts (.static yX7_at) (by decide +kernel)
  have h_4 : ∀ (fu4 : Nat) (x1 : Int32) (x2 : Int32) (H : Heap) (locs : List Loc) (ls : Array Slot), va_P (dC, dI) vwCl [(q_t, .inr (6, [.ref q_t_told, .ref q_t_line, .ref q_t_strides, .ref q_t_strains, .int t_down, .int t_steps])), (q_t_told, .inr (3, [.ref q_t_told_beats, .ref q_t_told_kinds, .int t_told_count, .int t_told_depth, .int t_told_noon, .int t_told_depthBehind])), (q_t_strains, .inl (cI, 5, .inl t_strains))] H → va_S A s.heap H locs → lv_has ls 3 [(0, .ref q_t), (1, .int x1), (2, .int x2)] → L_X6_strainOfAll_4 t_told_count t_strains fu4 x1 x2 = some r_ → W p l e rm_X6_strainOfAll s m args below meth c H locs 0 0 Q (F0 m 4 ls []) := by
    intro fu4
    induction fu4 with
    | zero =>
      intro x1 x2 H locs ls hP hS hl hf
      rw [L_X6_strainOfAll_4] at hf
      cases hf
    | succ fu4 ih4 =>
      intro x1 x2 H locs ls hP hS hl hf
      have hD : va_D A [(q_t, .inr (6, [.ref q_t_told, .ref q_t_line, .ref q_t_strides, .ref q_t_strains, .int t_down, .int t_steps])), (q_t_told, .inr (3, [.ref q_t_told_beats, .ref q_t_told_kinds, .int t_told_count, .int t_told_depth, .int t_told_noon, .int t_told_depthBehind])), (q_t_strains, .inl (cI, 5, .inl t_strains))] := wd hD0 rfl
      rw [L_X6_strainOfAll_4] at hf
      refine lv_iload_n hx hb dX6_strainOfAll_4 rfl (lv_at hl 2 rfl) ?_
      refine lv_aload_n hx hb dX6_strainOfAll_5 rfl (lv_at hl 0 rfl) ?_
      refine va_get (D := (dC, dI)) (ci := 6) (v := .ref q_t_told) (C := RX6) (T := TX6) (N := 6) hx hb hts hinX6 hown hK.1 hP 0 rfl rfl 0 (by decide) w_0 (fun _ h9 => h9) rfl dX6_strainOfAll_6 ?_
      obtain ⟨r1, e3, hf⟩ := bd_ok hf
      refine kVi (As := []) CF (cwV 0 hts gX6_strainOfAll_X3_size rfl rfl rfl (by decide +kernel) ⟨Nat.le_of_ble_eq_true rfl, Nat.le_of_ble_eq_true rfl⟩) PU_blind hP hD hS hA (va_recv hK.1 hP (ci := 3) (q0 := 1) rfl rfl) [1] (fun h1 h2 h3 => PU_pre hK h1 A h2 h3) (c_X3_size l dC dI cI cZ q_t_told q_t_told_beats q_t_told_kinds _ t_told_count t_told_depth t_told_noon t_told_depthBehind r1 e3) rfl rfl rfl rfl hl.1 rfl (Nat.le_of_ble_eq_true rfl) dX6_strainOfAll_9 ⟨Nat.zero_le _, Nat.zero_le _⟩ (fun H locs hP hS => ?_)
      replace hP : va_P (dC, dI) vwCl [(q_t, .inr (6, [.ref q_t_told, .ref q_t_line, .ref q_t_strides, .ref q_t_strains, .int t_down, .int t_steps])), (q_t_told, .inr (3, [.ref q_t_told_beats, .ref q_t_told_kinds, .int t_told_count, .int t_told_depth, .int t_told_noon, .int t_told_depthBehind])), (q_t_strains, .inl (cI, 5, .inl t_strains))] H := hP
      refine lv_icmp_ge (tgt := 32) hx hb dX6_strainOfAll_12 (by decide) (fun hc => ?_) (fun hc => ?_)
      · replace hf := ip hc hf
        refine lv_iload_n hx hb dX6_strainOfAll_32 rfl (lv_at hl 1 rfl) ?_
        have e0 := ij1 hf
        refine W.eq (congrArg (fun z => F0 m 33 ls [.int z]) e0) ?_
        exact hret _ _ _ _ hP hS dX6_strainOfAll_33
      · replace hf := iq hc hf
        refine lv_iload_n hx hb dX6_strainOfAll_15 rfl (lv_at hl 1 rfl) ?_
        refine lv_aload_n hx hb dX6_strainOfAll_16 rfl (lv_at hl 0 rfl) ?_
        refine va_get (D := (dC, dI)) (ci := 6) (v := .ref q_t_strains) (C := RX6) (T := TX6) (N := 6) hx hb hts hinX6 hown hK.1 hP 0 rfl rfl 3 (by decide) w_1 (fun _ h9 => h9) rfl dX6_strainOfAll_17 ?_
        refine lv_iload_n hx hb dX6_strainOfAll_20 rfl (lv_at hl 2 rfl) ?_
        obtain ⟨r4, e6, hf⟩ := bd_ok hf
        refine kNi (As := [.ref q_t_strains, .int x2]) CF ⟨va_cnB 2 hts gX6_strainOfAll_X7_at_n48 rfl rfl rfl (nw_X6_48 hK.2) w_2 (by decide +kernel) ⟨Nat.le_of_ble_eq_true rfl, Nat.le_of_ble_eq_true rfl⟩, w_3, trivial⟩ PU_blind hP hD hS hA [2] (fun h1 h2 h3 => PU_pre hK h1 A h2 h3) (c_X7_at l dC dI cI cZ q_t_strains _ t_strains 5 x2 r4 e6) rfl rfl rfl rfl hl.1 rfl (Nat.le_of_ble_eq_true rfl) dX6_strainOfAll_21 ⟨Nat.zero_le _, Nat.zero_le _⟩ (fun H locs hP hS => ?_)
        replace hP : va_P (dC, dI) vwCl [(q_t, .inr (6, [.ref q_t_told, .ref q_t_line, .ref q_t_strides, .ref q_t_strains, .int t_down, .int t_steps])), (q_t_told, .inr (3, [.ref q_t_told_beats, .ref q_t_told_kinds, .int t_told_count, .int t_told_depth, .int t_told_noon, .int t_told_depthBehind])), (q_t_strains, .inl (cI, 5, .inl t_strains))] H := hP
        refine lv_iadd hx hb dX6_strainOfAll_24 ?_
        refine lv_istore_n (lv' := [(1, .int (x1 + r4)), (0, .ref q_t), (2, .int x2)]) hx hb dX6_strainOfAll_25 rfl hl (by decide) rfl (fun ls hl => ?_)
        refine lv_iinc (v := (x2 + 1)) (lv' := [(2, .int (x2 + 1)), (1, .int (x1 + r4)), (0, .ref q_t)]) hx hb dX6_strainOfAll_26 hl (k := 2) rfl rfl (by decide) rfl (fun ls hl => ?_)
        refine lv_goto (tgt := 4) hx hb dX6_strainOfAll_29 (by decide) ?_
        exact ih4 (x1 + r4) (x2 + 1) _ _ _ hP hS (lv_sub hl [2, 1, 0] rfl) hf
  rw [f_X6_strainOfAll] at hf
  refine lv_iconst (v := 0) hx hb dX6_strainOfAll_0 (by decide) ?_
  refine lv_istore_n (lv' := [(1, .int 0), (0, .ref q_t)]) hx hb dX6_strainOfAll_1 rfl hl (by decide) rfl (fun ls hl => ?_)
  refine lv_iconst (v := 0) hx hb dX6_strainOfAll_2 (by decide) ?_
  refine lv_istore_n (lv' := [(2, .int 0), (1, .int 0), (0, .ref q_t)]) hx hb dX6_strainOfAll_3 rfl hl (by decide) rfl (fun ls hl => ?_)
  exact h_4 fuelC 0 0 _ _ _ hP hS (lv_sub hl [2, 1, 0] rfl) hf
abbrev rm_X6_treadOf : Room := { frames := 3, cells := 0, slots := 0, locals := 68 }
set_option maxHeartbeats 4000000 in
set_option maxRecDepth 100000 in
theorem c_X6_treadOf (l : Launch) (dC : Nat → ClassId) (dI : Nat → Nat → Nat) (cI cZ : ClassId) (q_t q_t_told q_t_line q_t_strides q_t_strains q_t_told_beats q_t_told_kinds : Nat) (sz : Nat) (t_down : Int32) (t_steps : Int32) (t_told_count : Int32) (t_told_depth : Int32) (t_told_noon : Int32) (t_told_depthBehind : Int32) (t_line : Nat → Int32) (t_told_kinds : Nat → Int32) (t_strides : Nat → Int32) (t_told_beats : Nat → Int32) (x1 : Int32) (r_ : Int32) (hf : f_X6_treadOf x1 t_down t_steps t_told_count t_line t_told_kinds t_strides t_told_beats = some r_) : Met l yX6_treadOf wsX6_treadOf rm_X6_treadOf (va_Pc [.ref q_t, .int x1] (PU (dC, dI) cI cZ [(q_t, .inr (6, [.ref q_t_told, .ref q_t_line, .ref q_t_strides, .ref q_t_strains, .int t_down, .int t_steps])), (q_t_told, .inr (3, [.ref q_t_told_beats, .ref q_t_told_kinds, .int t_told_count, .int t_told_depth, .int t_told_noon, .int t_told_depthBehind])), (q_t_line, .inl (cI, 5, .inl t_line)), (q_t_told_kinds, .inl (cI, 5, .inl t_told_kinds)), (q_t_strides, .inl (cI, 5, .inl t_strides)), (q_t_told_beats, .inl (cI, 5, .inl t_told_beats))] sz)) (va_Qi (fun (r : Int32) (_ : Unit) => r = r_) (fun _ t => va_P (dC, dI) vwCl [(q_t, .inr (6, [.ref q_t_told, .ref q_t_line, .ref q_t_strides, .ref q_t_strains, .int t_down, .int t_steps])), (q_t_told, .inr (3, [.ref q_t_told_beats, .ref q_t_told_kinds, .int t_told_count, .int t_told_depth, .int t_told_noon, .int t_told_depthBehind])), (q_t_line, .inl (cI, 5, .inl t_line)), (q_t_told_kinds, .inl (cI, 5, .inl t_told_kinds)), (q_t_strides, .inl (cI, 5, .inl t_strides)), (q_t_told_beats, .inl (cI, 5, .inl t_told_beats))] t.heap) (va_A [(q_t, .inr (6, [.ref q_t_told, .ref q_t_line, .ref q_t_strides, .ref q_t_strains, .int t_down, .int t_steps])), (q_t_told, .inr (3, [.ref q_t_told_beats, .ref q_t_told_kinds, .int t_told_count, .int t_told_depth, .int t_told_noon, .int t_told_depthBehind])), (q_t_line, .inl (cI, 5, .inl t_line)), (q_t_told_kinds, .inl (cI, 5, .inl t_told_kinds)), (q_t_strides, .inl (cI, 5, .inl t_strides)), (q_t_told_beats, .inl (cI, 5, .inl t_told_beats))] sz)) 0 0 (va_A [(q_t, .inr (6, [.ref q_t_told, .ref q_t_line, .ref q_t_strides, .ref q_t_strains, .int t_down, .int t_steps])), (q_t_told, .inr (3, [.ref q_t_told_beats, .ref q_t_told_kinds, .int t_told_count, .int t_told_depth, .int t_told_noon, .int t_told_depthBehind])), (q_t_line, .inl (cI, 5, .inl t_line)), (q_t_told_kinds, .inl (cI, 5, .inl t_told_kinds)), (q_t_strides, .inl (cI, 5, .inl t_strides)), (q_t_told_beats, .inl (cI, 5, .inl t_told_beats))] sz) := by
  refine MetI (cc := cX6_treadOf) (maxL := 6) (by decide) rfl (Nat.le_of_ble_eq_true rfl) (fun _ h => h) ?_
  intro p e s m args below meth c A Q ls hx CF hK hA hD hP hS hl hB hAe hsz hret
  have hb := CF.2.1
  have hml := CF.2.2.1
  have hown := CF.2.2.2.1
  have hts := CF.2.2.2.2
  have hD0 := hD
  replace hl : lv_has ls 6 [(0, .ref q_t), (1, .int x1)] := hl
  have hinX6 : ∀ w ∈ wsX60, w ∈ wsX6_treadOf := fun _ h => List.mem_cons_of_mem _ (List.mem_append_left _ (List.mem_append_right _ h))
  have hinX3 : ∀ w ∈ wsX30, w ∈ wsX6_treadOf := fun _ h => List.mem_cons_of_mem _ (List.mem_append_right _ h)
  have w_0 := hts (.fieldLink RX6 21 "PassInStep$Yard" "told" "LPassInStep$Party;") (by decide +kernel)
  have h_7 : ∀ (x1 : Int32) (fu7 : Nat) (x2 : Int32) (x3 : Int32) (x4 : Int32) (H : Heap) (locs : List Loc) (ls : Array Slot), va_P (dC, dI) vwCl [(q_t, .inr (6, [.ref q_t_told, .ref q_t_line, .ref q_t_strides, .ref q_t_strains, .int t_down, .int t_steps])), (q_t_told, .inr (3, [.ref q_t_told_beats, .ref q_t_told_kinds, .int t_told_count, .int t_told_depth, .int t_told_noon, .int t_told_depthBehind])), (q_t_line, .inl (cI, 5, .inl t_line)), (q_t_told_kinds, .inl (cI, 5, .inl t_told_kinds)), (q_t_strides, .inl (cI, 5, .inl t_strides)), (q_t_told_beats, .inl (cI, 5, .inl t_told_beats))] H → va_S A s.heap H locs → lv_has ls 6 [(0, .ref q_t), (1, .int x1), (2, .int x2), (3, .int x3), (4, .int x4)] → L_X6_treadOf_7 x1 t_down t_steps t_told_count t_line t_told_kinds t_strides t_told_beats fu7 x2 x3 x4 = some r_ → W p l e rm_X6_treadOf s m args below meth c H locs 0 0 Q (F0 m 7 ls []) := by
    intro x1 fu7
    induction fu7 with
    | zero =>
      intro x2 x3 x4 H locs ls hP hS hl hf
      rw [L_X6_treadOf_7] at hf
      cases hf
    | succ fu7 ih7 =>
      have h_56 : ∀ (x2 : Int32) (x3 : Int32) (x4 : Int32) (H : Heap) (locs : List Loc) (ls : Array Slot), va_P (dC, dI) vwCl [(q_t, .inr (6, [.ref q_t_told, .ref q_t_line, .ref q_t_strides, .ref q_t_strains, .int t_down, .int t_steps])), (q_t_told, .inr (3, [.ref q_t_told_beats, .ref q_t_told_kinds, .int t_told_count, .int t_told_depth, .int t_told_noon, .int t_told_depthBehind])), (q_t_line, .inl (cI, 5, .inl t_line)), (q_t_told_kinds, .inl (cI, 5, .inl t_told_kinds)), (q_t_strides, .inl (cI, 5, .inl t_strides)), (q_t_told_beats, .inl (cI, 5, .inl t_told_beats))] H → va_S A s.heap H locs → lv_has ls 6 [(0, .ref q_t), (1, .int x1), (2, .int x2), (3, .int x3), (4, .int x4)] → J_X6_treadOf_56 (L_X6_treadOf_7 x1 t_down t_steps t_told_count t_line t_told_kinds t_strides t_told_beats fu7) x2 x3 x4 = some r_ → W p l e rm_X6_treadOf s m args below meth c H locs 0 0 Q (F0 m 56 ls []) := by
        intro x2 x3 x4 H locs ls hP hS hl hf
        have hD : va_D A [(q_t, .inr (6, [.ref q_t_told, .ref q_t_line, .ref q_t_strides, .ref q_t_strains, .int t_down, .int t_steps])), (q_t_told, .inr (3, [.ref q_t_told_beats, .ref q_t_told_kinds, .int t_told_count, .int t_told_depth, .int t_told_noon, .int t_told_depthBehind])), (q_t_line, .inl (cI, 5, .inl t_line)), (q_t_told_kinds, .inl (cI, 5, .inl t_told_kinds)), (q_t_strides, .inl (cI, 5, .inl t_strides)), (q_t_told_beats, .inl (cI, 5, .inl t_told_beats))] := wd hD0 rfl
        rw [J_X6_treadOf_56] at hf
        refine lv_iinc (v := (x4 + 1)) (lv' := [(4, .int (x4 + 1)), (0, .ref q_t), (1, .int x1), (2, .int x2), (3, .int x3)]) hx hb dX6_treadOf_56 hl (k := 4) rfl rfl (by decide) rfl (fun ls hl => ?_)
        refine lv_goto (tgt := 7) hx hb dX6_treadOf_59 (by decide) ?_
        exact ih7 x2 x3 (x4 + 1) _ _ _ hP hS (lv_sub hl [1, 2, 3, 4, 0] rfl) hf
      intro x2 x3 x4 H locs ls hP hS hl hf
      have hD : va_D A [(q_t, .inr (6, [.ref q_t_told, .ref q_t_line, .ref q_t_strides, .ref q_t_strains, .int t_down, .int t_steps])), (q_t_told, .inr (3, [.ref q_t_told_beats, .ref q_t_told_kinds, .int t_told_count, .int t_told_depth, .int t_told_noon, .int t_told_depthBehind])), (q_t_line, .inl (cI, 5, .inl t_line)), (q_t_told_kinds, .inl (cI, 5, .inl t_told_kinds)), (q_t_strides, .inl (cI, 5, .inl t_strides)), (q_t_told_beats, .inl (cI, 5, .inl t_told_beats))] := wd hD0 rfl
      rw [L_X6_treadOf_7] at hf
      refine lv_iload hx hb dX6_treadOf_7 (lv_at hl 4 rfl) ?_
      refine lv_aload_n hx hb dX6_treadOf_9 rfl (lv_at hl 0 rfl) ?_
      refine va_get (D := (dC, dI)) (ci := 6) (v := .ref q_t_told) (C := RX6) (T := TX6) (N := 6) hx hb hts hinX6 hown hK.1 hP 0 rfl rfl 0 (by decide) w_0 (fun _ h9 => h9) rfl dX6_treadOf_10 ?_
      obtain ⟨r1, e3, hf⟩ := bd_ok hf
      refine kVi (As := []) CF (cwV 0 hts gX6_treadOf_X3_size rfl rfl rfl (by decide +kernel) ⟨Nat.le_of_ble_eq_true rfl, Nat.le_of_ble_eq_true rfl⟩) PU_blind hP hD hS hA (va_recv hK.1 hP (ci := 3) (q0 := 1) rfl rfl) [1] (fun h1 h2 h3 => PU_pre hK h1 A h2 h3) (c_X3_size l dC dI cI cZ q_t_told q_t_told_beats q_t_told_kinds _ t_told_count t_told_depth t_told_noon t_told_depthBehind r1 e3) rfl rfl rfl rfl hl.1 rfl (Nat.le_of_ble_eq_true rfl) dX6_treadOf_13 ⟨Nat.zero_le _, Nat.zero_le _⟩ (fun H locs hP hS => ?_)
      replace hP : va_P (dC, dI) vwCl [(q_t, .inr (6, [.ref q_t_told, .ref q_t_line, .ref q_t_strides, .ref q_t_strains, .int t_down, .int t_steps])), (q_t_told, .inr (3, [.ref q_t_told_beats, .ref q_t_told_kinds, .int t_told_count, .int t_told_depth, .int t_told_noon, .int t_told_depthBehind])), (q_t_line, .inl (cI, 5, .inl t_line)), (q_t_told_kinds, .inl (cI, 5, .inl t_told_kinds)), (q_t_strides, .inl (cI, 5, .inl t_strides)), (q_t_told_beats, .inl (cI, 5, .inl t_told_beats))] H := hP
      refine lv_icmp_ge (tgt := 62) hx hb dX6_treadOf_16 (by decide) (fun hc => ?_) (fun hc => ?_)
      · replace hf := ip hc hf
        refine lv_bipush (v := (-9)) hx hb dX6_treadOf_62 (by decide) ?_
        have e0 := ij1 hf
        refine W.eq (congrArg (fun z => F0 m 64 ls [.int z]) e0) ?_
        exact hret _ _ _ _ hP hS dX6_treadOf_64
      · replace hf := iq hc hf
        refine lv_aload_n hx hb dX6_treadOf_19 rfl (lv_at hl 0 rfl) ?_
        refine lv_iload hx hb dX6_treadOf_20 (lv_at hl 4 rfl) ?_
        obtain ⟨r4, e6, hf⟩ := bd_ok hf
        refine kVi (As := [.int x4]) CF (cwV 1 hts gX6_treadOf_X6_walkerAt rfl rfl rfl (by decide +kernel) ⟨Nat.le_of_ble_eq_true rfl, Nat.le_of_ble_eq_true rfl⟩) PU_blind hP hD hS hA (va_recv hK.1 hP (ci := 6) (q0 := 0) rfl rfl) [0, 2] (fun h1 h2 h3 => PU_pre hK h1 A h2 h3) (c_X6_walkerAt l dC dI cI cZ q_t q_t_told q_t_line q_t_strides q_t_strains _ t_down t_steps t_line x4 r4 e6) rfl rfl rfl rfl hl.1 rfl (Nat.le_of_ble_eq_true rfl) dX6_treadOf_22 ⟨Nat.zero_le _, Nat.zero_le _⟩ (fun H locs hP hS => ?_)
        replace hP : va_P (dC, dI) vwCl [(q_t, .inr (6, [.ref q_t_told, .ref q_t_line, .ref q_t_strides, .ref q_t_strains, .int t_down, .int t_steps])), (q_t_told, .inr (3, [.ref q_t_told_beats, .ref q_t_told_kinds, .int t_told_count, .int t_told_depth, .int t_told_noon, .int t_told_depthBehind])), (q_t_line, .inl (cI, 5, .inl t_line)), (q_t_told_kinds, .inl (cI, 5, .inl t_told_kinds)), (q_t_strides, .inl (cI, 5, .inl t_strides)), (q_t_told_beats, .inl (cI, 5, .inl t_told_beats))] H := hP
        refine lv_istore (lv' := [(5, .int r4), (0, .ref q_t), (1, .int x1), (2, .int x2), (3, .int x3), (4, .int x4)]) hx hb dX6_treadOf_25 hl (by decide) rfl (fun ls hl => ?_)
        refine lv_aload_n hx hb dX6_treadOf_27 rfl (lv_at hl 1 rfl) ?_
        refine lv_iload hx hb dX6_treadOf_28 (lv_at hl 0 rfl) ?_
        obtain ⟨r7, e9, hf⟩ := bd_ok hf
        refine kVi (As := [.int r4]) CF (cwV 1 hts gX6_treadOf_X6_isDown rfl rfl rfl (by decide +kernel) ⟨Nat.le_of_ble_eq_true rfl, Nat.le_of_ble_eq_true rfl⟩) PU_blind hP hD hS hA (va_recv hK.1 hP (ci := 6) (q0 := 0) rfl rfl) [0] (fun h1 h2 h3 => PU_pre hK h1 A h2 h3) (c_X6_isDown l dC dI cI cZ q_t q_t_told q_t_line q_t_strides q_t_strains _ t_down t_steps r4 r7 e9) rfl rfl rfl rfl hl.1 rfl (Nat.le_of_ble_eq_true rfl) dX6_treadOf_30 ⟨Nat.zero_le _, Nat.zero_le _⟩ (fun H locs hP hS => ?_)
        replace hP : va_P (dC, dI) vwCl [(q_t, .inr (6, [.ref q_t_told, .ref q_t_line, .ref q_t_strides, .ref q_t_strains, .int t_down, .int t_steps])), (q_t_told, .inr (3, [.ref q_t_told_beats, .ref q_t_told_kinds, .int t_told_count, .int t_told_depth, .int t_told_noon, .int t_told_depthBehind])), (q_t_line, .inl (cI, 5, .inl t_line)), (q_t_told_kinds, .inl (cI, 5, .inl t_told_kinds)), (q_t_strides, .inl (cI, 5, .inl t_strides)), (q_t_told_beats, .inl (cI, 5, .inl t_told_beats))] H := hP
        refine lv_if_ne (tgt := 56) hx hb dX6_treadOf_33 (by decide) (fun hc => ?_) (fun hc => ?_)
        · replace hf := iq hc hf
          exact h_56 x2 x3 x4 _ _ _ hP hS (lv_sub hl [1, 2, 3, 4, 5] rfl) hf
        · replace hf := ip hc hf
          refine lv_aload_n hx hb dX6_treadOf_36 rfl (lv_at hl 1 rfl) ?_
          refine lv_iload hx hb dX6_treadOf_37 (lv_at hl 0 rfl) ?_
          refine lv_iload_n hx hb dX6_treadOf_39 rfl (lv_at hl 3 rfl) ?_
          refine lv_iload_n hx hb dX6_treadOf_40 rfl (lv_at hl 4 rfl) ?_
          refine lv_iconst (v := 0) hx hb dX6_treadOf_41 (by decide) ?_
          obtain ⟨r10, e12, hf⟩ := bd_ok hf
          refine kVi (As := [.int r4, .int x2, .int x3, .int 0]) CF (cwV 4 hts gX6_treadOf_X6_treadBehind rfl rfl rfl (by decide +kernel) ⟨Nat.le_of_ble_eq_true rfl, Nat.le_of_ble_eq_true rfl⟩) PU_blind hP hD hS hA (va_recv hK.1 hP (ci := 6) (q0 := 0) rfl rfl) [0, 1, 3, 4, 5] (fun h1 h2 h3 => PU_pre hK h1 A h2 h3) (c_X6_treadBehind l dC dI cI cZ q_t q_t_told q_t_line q_t_strides q_t_strains q_t_told_beats q_t_told_kinds _ t_down t_steps t_told_count t_told_depth t_told_noon t_told_depthBehind t_told_kinds t_strides t_told_beats r4 x2 x3 0 r10 e12) rfl rfl rfl rfl hl.1 rfl (Nat.le_of_ble_eq_true rfl) dX6_treadOf_42 ⟨Nat.zero_le _, Nat.zero_le _⟩ (fun H locs hP hS => ?_)
          replace hP : va_P (dC, dI) vwCl [(q_t, .inr (6, [.ref q_t_told, .ref q_t_line, .ref q_t_strides, .ref q_t_strains, .int t_down, .int t_steps])), (q_t_told, .inr (3, [.ref q_t_told_beats, .ref q_t_told_kinds, .int t_told_count, .int t_told_depth, .int t_told_noon, .int t_told_depthBehind])), (q_t_line, .inl (cI, 5, .inl t_line)), (q_t_told_kinds, .inl (cI, 5, .inl t_told_kinds)), (q_t_strides, .inl (cI, 5, .inl t_strides)), (q_t_told_beats, .inl (cI, 5, .inl t_told_beats))] H := hP
          refine lv_istore_n (lv' := [(3, .int r10), (5, .int r4), (0, .ref q_t), (1, .int x1), (2, .int x2), (4, .int x4)]) hx hb dX6_treadOf_45 rfl hl (by decide) rfl (fun ls hl => ?_)
          refine lv_iconst (v := 1) hx hb dX6_treadOf_46 (by decide) ?_
          refine lv_istore_n (lv' := [(2, .int 1), (3, .int r10), (5, .int r4), (0, .ref q_t), (1, .int x1), (4, .int x4)]) hx hb dX6_treadOf_47 rfl hl (by decide) rfl (fun ls hl => ?_)
          refine lv_iload hx hb dX6_treadOf_48 (lv_at hl 2 rfl) ?_
          refine lv_iload_n hx hb dX6_treadOf_50 rfl (lv_at hl 4 rfl) ?_
          refine lv_icmp_ne (tgt := 56) hx hb dX6_treadOf_51 (by decide) (fun hc => ?_) (fun hc => ?_)
          · replace hf := iq hc hf
            exact h_56 1 r10 x4 _ _ _ hP hS (lv_sub hl [3, 4, 0, 1, 5] rfl) hf
          · replace hf := ip hc hf
            refine lv_iload_n hx hb dX6_treadOf_54 rfl (lv_at hl 1 rfl) ?_
            have e0 := ij1 hf
            refine W.eq (congrArg (fun z => F0 m 55 ls [.int z]) e0) ?_
            exact hret _ _ _ _ hP hS dX6_treadOf_55
  rw [f_X6_treadOf] at hf
  refine lv_iconst (v := 0) hx hb dX6_treadOf_0 (by decide) ?_
  refine lv_istore_n (lv' := [(2, .int 0), (0, .ref q_t), (1, .int x1)]) hx hb dX6_treadOf_1 rfl hl (by decide) rfl (fun ls hl => ?_)
  refine lv_iconst (v := 0) hx hb dX6_treadOf_2 (by decide) ?_
  refine lv_istore_n (lv' := [(3, .int 0), (2, .int 0), (0, .ref q_t), (1, .int x1)]) hx hb dX6_treadOf_3 rfl hl (by decide) rfl (fun ls hl => ?_)
  refine lv_iconst (v := 0) hx hb dX6_treadOf_4 (by decide) ?_
  refine lv_istore (lv' := [(4, .int 0), (3, .int 0), (2, .int 0), (0, .ref q_t), (1, .int x1)]) hx hb dX6_treadOf_5 hl (by decide) rfl (fun ls hl => ?_)
  exact h_7 x1 fuelC 0 0 0 _ _ _ hP hS (lv_sub hl [3, 4, 2, 1, 0] rfl) hf
abbrev rm_X7_write : Room := { frames := 2, cells := 0, slots := 0, locals := 43 }
set_option maxHeartbeats 4000000 in
set_option maxRecDepth 100000 in
theorem c_X7_write (l : Launch) (dC : Nat → ClassId) (dI : Nat → Nat → Nat) (cI cZ : ClassId) (q_t q_t_text q_t_told q_t_now q_t_acts q_t_slots q_t_marks q_t_foresight q_t_chances q_t_text_letters : Nat) (sz : Nat) (t_firstAct : Int32) (t_actCount : Int32) (t_slotsKept : Int32) (t_weather : Int64) (t_text_length : Int32) (t_text_letters : Nat → Int32) (x1 : Int32) (r_ : Int32) (o_t_text_length : Int32) (o_t_text_letters : Nat → Int32) (hf : f_X7_write x1 t_text_length t_text_letters = some (r_, o_t_text_length, o_t_text_letters)) : Met l yX7_write wsX7_write rm_X7_write (va_Pc [.ref q_t, .int x1] (PU (dC, dI) cI cZ [(q_t, .inr (7, [.ref q_t_text, .ref q_t_told, .ref q_t_now, .ref q_t_acts, .ref q_t_slots, .ref q_t_marks, .ref q_t_foresight, .ref q_t_chances, .int t_firstAct, .int t_actCount, .int t_slotsKept, .long t_weather])), (q_t_text, .inr (5, [.ref q_t_text_letters, .int t_text_length])), (q_t_text_letters, .inl (cI, 48, .inl t_text_letters))] sz)) (va_Qi (fun (r : Int32) (_ : Unit) => r = r_) (fun _ t => va_P (dC, dI) vwCl [(q_t, .inr (7, [.ref q_t_text, .ref q_t_told, .ref q_t_now, .ref q_t_acts, .ref q_t_slots, .ref q_t_marks, .ref q_t_foresight, .ref q_t_chances, .int t_firstAct, .int t_actCount, .int t_slotsKept, .long t_weather])), (q_t_text, .inr (5, [.ref q_t_text_letters, .int o_t_text_length])), (q_t_text_letters, .inl (cI, 48, .inl o_t_text_letters))] t.heap) (va_A [(q_t, .inr (7, [.ref q_t_text, .ref q_t_told, .ref q_t_now, .ref q_t_acts, .ref q_t_slots, .ref q_t_marks, .ref q_t_foresight, .ref q_t_chances, .int t_firstAct, .int t_actCount, .int t_slotsKept, .long t_weather])), (q_t_text, .inr (5, [.ref q_t_text_letters, .int t_text_length])), (q_t_text_letters, .inl (cI, 48, .inl t_text_letters))] sz)) 0 0 (va_A [(q_t, .inr (7, [.ref q_t_text, .ref q_t_told, .ref q_t_now, .ref q_t_acts, .ref q_t_slots, .ref q_t_marks, .ref q_t_foresight, .ref q_t_chances, .int t_firstAct, .int t_actCount, .int t_slotsKept, .long t_weather])), (q_t_text, .inr (5, [.ref q_t_text_letters, .int t_text_length])), (q_t_text_letters, .inl (cI, 48, .inl t_text_letters))] sz) := by
  refine MetI (cc := cX7_write) (maxL := 2) (by decide) rfl (Nat.le_of_ble_eq_true rfl) (fun _ h => h) ?_
  intro p e s m args below meth c A Q ls hx CF hK hA hD hP hS hl hB hAe hsz hret
  have hb := CF.2.1
  have hml := CF.2.2.1
  have hown := CF.2.2.2.1
  have hts := CF.2.2.2.2
  have hD0 := hD
  replace hl : lv_has ls 2 [(0, .ref q_t), (1, .int x1)] := hl
  have hinX7 : ∀ w ∈ wsX70, w ∈ wsX7_write := fun _ h => List.mem_cons_of_mem _ (List.mem_append_left _ (List.mem_append_right _ h))
  have hinX5 : ∀ w ∈ wsX50, w ∈ wsX7_write := fun _ h => List.mem_cons_of_mem _ (List.mem_append_right _ h)
  have w_0 := hts (.fieldLink RX7 12 "PassInStep" "text" "LPassInStep$Text;") (by decide +kernel)
  rw [f_X7_write] at hf
  refine lv_iload_n hx hb dX7_write_0 rfl (lv_at hl 1 rfl) ?_
  refine lv_if_lt (tgt := 11) hx hb dX7_write_1 (by decide) (fun hc => ?_) (fun hc => ?_)
  · replace hf := ip hc hf
    refine lv_bipush (v := (-2)) hx hb dX7_write_11 (by decide) ?_
    obtain ⟨e0, hf⟩ := ij2 hf
    obtain ⟨e1, hf⟩ := ijc hf
    have e2 := hf
    refine W.eq (congrArg (fun z => F0 m 13 ls [.int z]) e0) ?_
    exact hret _ _ _ _ (by rw [← e1, ← e2]; exact hP) hS dX7_write_13
  · replace hf := iq hc hf
    refine lv_iload_n hx hb dX7_write_4 rfl (lv_at hl 1 rfl) ?_
    refine lv_sipush (v := 255) hx hb dX7_write_5 (by decide) ?_
    refine lv_icmp_le (tgt := 14) hx hb dX7_write_8 (by decide) (fun hc => ?_) (fun hc => ?_)
    · replace hf := ip hc hf
      refine lv_aload_n hx hb dX7_write_14 rfl (lv_at hl 0 rfl) ?_
      refine va_get (D := (dC, dI)) (ci := 7) (v := .ref q_t_text) (C := RX7) (T := TX7) (N := 12) hx hb hts hinX7 hown hK.1 hP 0 rfl rfl 0 (by decide) w_0 (fun _ h9 => h9) rfl dX7_write_15 ?_
      obtain ⟨r1, e3, hf⟩ := bd_ok hf
      refine kVi (As := []) CF (cwV 0 hts gX7_write_X5_isFull rfl rfl rfl (by decide +kernel) ⟨Nat.le_of_ble_eq_true rfl, Nat.le_of_ble_eq_true rfl⟩) PU_blind hP hD hS hA (va_recv hK.1 hP (ci := 5) (q0 := 1) rfl rfl) [1] (fun h1 h2 h3 => PU_pre hK h1 A h2 h3) (c_X5_isFull l dC dI cI cZ q_t_text q_t_text_letters _ t_text_length r1 e3) rfl rfl rfl rfl hl.1 rfl (Nat.le_of_ble_eq_true rfl) dX7_write_18 ⟨Nat.zero_le _, Nat.zero_le _⟩ (fun H locs hP hS => ?_)
      replace hP : va_P (dC, dI) vwCl [(q_t, .inr (7, [.ref q_t_text, .ref q_t_told, .ref q_t_now, .ref q_t_acts, .ref q_t_slots, .ref q_t_marks, .ref q_t_foresight, .ref q_t_chances, .int t_firstAct, .int t_actCount, .int t_slotsKept, .long t_weather])), (q_t_text, .inr (5, [.ref q_t_text_letters, .int t_text_length])), (q_t_text_letters, .inl (cI, 48, .inl t_text_letters))] H := hP
      refine lv_if_eq (tgt := 27) hx hb dX7_write_21 (by decide) (fun hc => ?_) (fun hc => ?_)
      · replace hf := ip hc hf
        refine lv_aload_n hx hb dX7_write_27 rfl (lv_at hl 0 rfl) ?_
        refine va_get (D := (dC, dI)) (ci := 7) (v := .ref q_t_text) (C := RX7) (T := TX7) (N := 12) hx hb hts hinX7 hown hK.1 hP 0 rfl rfl 0 (by decide) w_0 (fun _ h9 => h9) rfl dX7_write_28 ?_
        refine lv_iload_n hx hb dX7_write_31 rfl (lv_at hl 1 rfl) ?_
        obtain ⟨⟨r4, o5, o6⟩, e8, hf⟩ := bd_ok hf
        refine kVi (As := [.int x1]) CF (cwV 1 hts gX7_write_X5_append rfl rfl rfl (by decide +kernel) ⟨Nat.le_of_ble_eq_true rfl, Nat.le_of_ble_eq_true rfl⟩) PU_blind hP hD hS hA (va_recv hK.1 hP (ci := 5) (q0 := 1) rfl rfl) [1, 2] (fun h1 h2 h3 => PU_pre hK h1 A h2 h3) (c_X5_append l dC dI cI cZ q_t_text q_t_text_letters _ t_text_length t_text_letters x1 r4 o5 o6 e8) rfl rfl rfl rfl hl.1 rfl (Nat.le_of_ble_eq_true rfl) dX7_write_32 ⟨Nat.zero_le _, Nat.zero_le _⟩ (fun H locs hP hS => ?_)
        replace hP : va_P (dC, dI) vwCl [(q_t, .inr (7, [.ref q_t_text, .ref q_t_told, .ref q_t_now, .ref q_t_acts, .ref q_t_slots, .ref q_t_marks, .ref q_t_foresight, .ref q_t_chances, .int t_firstAct, .int t_actCount, .int t_slotsKept, .long t_weather])), (q_t_text, .inr (5, [.ref q_t_text_letters, .int o5])), (q_t_text_letters, .inl (cI, 48, .inl o6))] H := hP
        replace hD : va_D A [(q_t, .inr (7, [.ref q_t_text, .ref q_t_told, .ref q_t_now, .ref q_t_acts, .ref q_t_slots, .ref q_t_marks, .ref q_t_foresight, .ref q_t_chances, .int t_firstAct, .int t_actCount, .int t_slotsKept, .long t_weather])), (q_t_text, .inr (5, [.ref q_t_text_letters, .int o5])), (q_t_text_letters, .inl (cI, 48, .inl o6))] := wd hD rfl
        obtain ⟨e0, hf⟩ := ij2 hf
        obtain ⟨e1, hf⟩ := ijc hf
        have e2 := hf
        refine W.eq (congrArg (fun z => F0 m 35 ls [.int z]) e0) ?_
        exact hret _ _ _ _ (by rw [← e1, ← e2]; exact hP) hS dX7_write_35
      · replace hf := iq hc hf
        refine lv_bipush (v := (-4)) hx hb dX7_write_24 (by decide) ?_
        obtain ⟨e0, hf⟩ := ij2 hf
        obtain ⟨e1, hf⟩ := ijc hf
        have e2 := hf
        refine W.eq (congrArg (fun z => F0 m 26 ls [.int z]) e0) ?_
        exact hret _ _ _ _ (by rw [← e1, ← e2]; exact hP) hS dX7_write_26
    · replace hf := iq hc hf
      refine lv_bipush (v := (-2)) hx hb dX7_write_11 (by decide) ?_
      obtain ⟨e0, hf⟩ := ij2 hf
      obtain ⟨e1, hf⟩ := ijc hf
      have e2 := hf
      refine W.eq (congrArg (fun z => F0 m 13 ls [.int z]) e0) ?_
      exact hret _ _ _ _ (by rw [← e1, ← e2]; exact hP) hS dX7_write_13
abbrev rm_X7_wipe : Room := { frames := 1, cells := 0, slots := 0, locals := 21 }
set_option maxHeartbeats 4000000 in
set_option maxRecDepth 100000 in
theorem c_X7_wipe (l : Launch) (dC : Nat → ClassId) (dI : Nat → Nat → Nat) (cI cZ : ClassId) (q_t q_t_text q_t_told q_t_now q_t_acts q_t_slots q_t_marks q_t_foresight q_t_chances q_t_text_letters : Nat) (sz : Nat) (t_firstAct : Int32) (t_actCount : Int32) (t_slotsKept : Int32) (t_weather : Int64) (t_text_length : Int32) (r_ : Int32) (o_t_text_length : Int32) (hf : f_X7_wipe t_text_length = some (r_, o_t_text_length)) : Met l yX7_wipe wsX7_wipe rm_X7_wipe (va_Pc [.ref q_t] (PU (dC, dI) cI cZ [(q_t, .inr (7, [.ref q_t_text, .ref q_t_told, .ref q_t_now, .ref q_t_acts, .ref q_t_slots, .ref q_t_marks, .ref q_t_foresight, .ref q_t_chances, .int t_firstAct, .int t_actCount, .int t_slotsKept, .long t_weather])), (q_t_text, .inr (5, [.ref q_t_text_letters, .int t_text_length]))] sz)) (va_Qi (fun (r : Int32) (_ : Unit) => r = r_) (fun _ t => va_P (dC, dI) vwCl [(q_t, .inr (7, [.ref q_t_text, .ref q_t_told, .ref q_t_now, .ref q_t_acts, .ref q_t_slots, .ref q_t_marks, .ref q_t_foresight, .ref q_t_chances, .int t_firstAct, .int t_actCount, .int t_slotsKept, .long t_weather])), (q_t_text, .inr (5, [.ref q_t_text_letters, .int o_t_text_length]))] t.heap) (va_A [(q_t, .inr (7, [.ref q_t_text, .ref q_t_told, .ref q_t_now, .ref q_t_acts, .ref q_t_slots, .ref q_t_marks, .ref q_t_foresight, .ref q_t_chances, .int t_firstAct, .int t_actCount, .int t_slotsKept, .long t_weather])), (q_t_text, .inr (5, [.ref q_t_text_letters, .int t_text_length]))] sz)) 0 0 (va_A [(q_t, .inr (7, [.ref q_t_text, .ref q_t_told, .ref q_t_now, .ref q_t_acts, .ref q_t_slots, .ref q_t_marks, .ref q_t_foresight, .ref q_t_chances, .int t_firstAct, .int t_actCount, .int t_slotsKept, .long t_weather])), (q_t_text, .inr (5, [.ref q_t_text_letters, .int t_text_length]))] sz) := by
  refine MetI (cc := cX7_wipe) (maxL := 1) (by decide) rfl (Nat.le_of_ble_eq_true rfl) (fun _ h => h) ?_
  intro p e s m args below meth c A Q ls hx CF hK hA hD hP hS hl hB hAe hsz hret
  have hb := CF.2.1
  have hml := CF.2.2.1
  have hown := CF.2.2.2.1
  have hts := CF.2.2.2.2
  have hD0 := hD
  replace hl : lv_has ls 1 [(0, .ref q_t)] := hl
  have hinX7 : ∀ w ∈ wsX70, w ∈ wsX7_wipe := fun _ h => List.mem_cons_of_mem _ (List.mem_append_left _ (List.mem_append_right _ h))
  have hinX5 : ∀ w ∈ wsX50, w ∈ wsX7_wipe := fun _ h => List.mem_cons_of_mem _ (List.mem_append_right _ h)
  have w_0 := hts (.fieldLink RX7 12 "PassInStep" "text" "LPassInStep$Text;") (by decide +kernel)
  rw [f_X7_wipe] at hf
  refine lv_aload_n hx hb dX7_wipe_0 rfl (lv_at hl 0 rfl) ?_
  refine va_get (D := (dC, dI)) (ci := 7) (v := .ref q_t_text) (C := RX7) (T := TX7) (N := 12) hx hb hts hinX7 hown hK.1 hP 0 rfl rfl 0 (by decide) w_0 (fun _ h9 => h9) rfl dX7_wipe_1 ?_
  obtain ⟨⟨r1, o2⟩, e4, hf⟩ := bd_ok hf
  refine kVi (As := []) CF (cwV 0 hts gX7_wipe_X5_clear rfl rfl rfl (by decide +kernel) ⟨Nat.le_of_ble_eq_true rfl, Nat.le_of_ble_eq_true rfl⟩) PU_blind hP hD hS hA (va_recv hK.1 hP (ci := 5) (q0 := 1) rfl rfl) [1] (fun h1 h2 h3 => PU_pre hK h1 A h2 h3) (c_X5_clear l dC dI cI cZ q_t_text q_t_text_letters _ t_text_length r1 o2 e4) rfl rfl rfl rfl hl.1 rfl (Nat.le_of_ble_eq_true rfl) dX7_wipe_4 ⟨Nat.zero_le _, Nat.zero_le _⟩ (fun H locs hP hS => ?_)
  replace hP : va_P (dC, dI) vwCl [(q_t, .inr (7, [.ref q_t_text, .ref q_t_told, .ref q_t_now, .ref q_t_acts, .ref q_t_slots, .ref q_t_marks, .ref q_t_foresight, .ref q_t_chances, .int t_firstAct, .int t_actCount, .int t_slotsKept, .long t_weather])), (q_t_text, .inr (5, [.ref q_t_text_letters, .int o2]))] H := hP
  replace hD : va_D A [(q_t, .inr (7, [.ref q_t_text, .ref q_t_told, .ref q_t_now, .ref q_t_acts, .ref q_t_slots, .ref q_t_marks, .ref q_t_foresight, .ref q_t_chances, .int t_firstAct, .int t_actCount, .int t_slotsKept, .long t_weather])), (q_t_text, .inr (5, [.ref q_t_text_letters, .int o2]))] := wd hD rfl
  obtain ⟨e0, hf⟩ := ij2 hf
  have e1 := hf
  refine W.eq (congrArg (fun z => F0 m 7 ls [.int z]) e0) ?_
  exact hret _ _ _ _ (by rw [← e1]; exact hP) hS dX7_wipe_7
abbrev rm_X7_fault : Room := { frames := 5, cells := 0, slots := 0, locals := 106 }
set_option maxHeartbeats 4000000 in
set_option maxRecDepth 100000 in
theorem c_X7_fault (l : Launch) (dC : Nat → ClassId) (dI : Nat → Nat → Nat) (cI cZ : ClassId) (q_t q_t_text q_t_told q_t_now q_t_acts q_t_slots q_t_marks q_t_foresight q_t_chances q_t_text_letters : Nat) (sz : Nat) (t_firstAct : Int32) (t_actCount : Int32) (t_slotsKept : Int32) (t_weather : Int64) (t_text_length : Int32) (t_text_letters : Nat → Int32) (r_ : Int32) (hf : f_X7_fault t_text_length t_text_letters = some r_) : Met l yX7_fault wsX7_fault rm_X7_fault (va_Pc [.ref q_t] (PU (dC, dI) cI cZ [(q_t, .inr (7, [.ref q_t_text, .ref q_t_told, .ref q_t_now, .ref q_t_acts, .ref q_t_slots, .ref q_t_marks, .ref q_t_foresight, .ref q_t_chances, .int t_firstAct, .int t_actCount, .int t_slotsKept, .long t_weather])), (q_t_text, .inr (5, [.ref q_t_text_letters, .int t_text_length])), (q_t_text_letters, .inl (cI, 48, .inl t_text_letters))] sz)) (va_Qi (fun (r : Int32) (_ : Unit) => r = r_) (fun _ t => va_P (dC, dI) vwCl [(q_t, .inr (7, [.ref q_t_text, .ref q_t_told, .ref q_t_now, .ref q_t_acts, .ref q_t_slots, .ref q_t_marks, .ref q_t_foresight, .ref q_t_chances, .int t_firstAct, .int t_actCount, .int t_slotsKept, .long t_weather])), (q_t_text, .inr (5, [.ref q_t_text_letters, .int t_text_length])), (q_t_text_letters, .inl (cI, 48, .inl t_text_letters))] t.heap) (va_A [(q_t, .inr (7, [.ref q_t_text, .ref q_t_told, .ref q_t_now, .ref q_t_acts, .ref q_t_slots, .ref q_t_marks, .ref q_t_foresight, .ref q_t_chances, .int t_firstAct, .int t_actCount, .int t_slotsKept, .long t_weather])), (q_t_text, .inr (5, [.ref q_t_text_letters, .int t_text_length])), (q_t_text_letters, .inl (cI, 48, .inl t_text_letters))] sz)) 0 0 (va_A [(q_t, .inr (7, [.ref q_t_text, .ref q_t_told, .ref q_t_now, .ref q_t_acts, .ref q_t_slots, .ref q_t_marks, .ref q_t_foresight, .ref q_t_chances, .int t_firstAct, .int t_actCount, .int t_slotsKept, .long t_weather])), (q_t_text, .inr (5, [.ref q_t_text_letters, .int t_text_length])), (q_t_text_letters, .inl (cI, 48, .inl t_text_letters))] sz) := by
  refine MetI (cc := cX7_fault) (maxL := 1) (by decide) rfl (Nat.le_of_ble_eq_true rfl) (fun _ h => h) ?_
  intro p e s m args below meth c A Q ls hx CF hK hA hD hP hS hl hB hAe hsz hret
  have hb := CF.2.1
  have hml := CF.2.2.1
  have hown := CF.2.2.2.1
  have hts := CF.2.2.2.2
  have hD0 := hD
  replace hl : lv_has ls 1 [(0, .ref q_t)] := hl
  have hinX7 : ∀ w ∈ wsX70, w ∈ wsX7_fault := fun _ h => List.mem_cons_of_mem _ (List.mem_append_left _ (List.mem_append_right _ h))
  have hinX5 : ∀ w ∈ wsX50, w ∈ wsX7_fault := fun _ h => List.mem_cons_of_mem _ (List.mem_append_right _ h)
  have w_0 := hts (.fieldLink RX7 12 "PassInStep" "text" "LPassInStep$Text;") (by decide +kernel)
  rw [f_X7_fault] at hf
  refine lv_aload_n hx hb dX7_fault_0 rfl (lv_at hl 0 rfl) ?_
  refine va_get (D := (dC, dI)) (ci := 7) (v := .ref q_t_text) (C := RX7) (T := TX7) (N := 12) hx hb hts hinX7 hown hK.1 hP 0 rfl rfl 0 (by decide) w_0 (fun _ h9 => h9) rfl dX7_fault_1 ?_
  obtain ⟨r1, e3, hf⟩ := bd_ok hf
  refine kVi (As := []) CF (cwV 0 hts gX7_fault_X5_faultPlace rfl rfl rfl (by decide +kernel) ⟨Nat.le_of_ble_eq_true rfl, Nat.le_of_ble_eq_true rfl⟩) PU_blind hP hD hS hA (va_recv hK.1 hP (ci := 5) (q0 := 1) rfl rfl) [1, 2] (fun h1 h2 h3 => PU_pre hK h1 A h2 h3) (c_X5_faultPlace l dC dI cI cZ q_t_text q_t_text_letters _ t_text_length t_text_letters r1 e3) rfl rfl rfl rfl hl.1 rfl (Nat.le_of_ble_eq_true rfl) dX7_fault_4 ⟨Nat.zero_le _, Nat.zero_le _⟩ (fun H locs hP hS => ?_)
  replace hP : va_P (dC, dI) vwCl [(q_t, .inr (7, [.ref q_t_text, .ref q_t_told, .ref q_t_now, .ref q_t_acts, .ref q_t_slots, .ref q_t_marks, .ref q_t_foresight, .ref q_t_chances, .int t_firstAct, .int t_actCount, .int t_slotsKept, .long t_weather])), (q_t_text, .inr (5, [.ref q_t_text_letters, .int t_text_length])), (q_t_text_letters, .inl (cI, 48, .inl t_text_letters))] H := hP
  have e0 := ij1 hf
  refine W.eq (congrArg (fun z => F0 m 7 ls [.int z]) e0) ?_
  exact hret _ _ _ _ hP hS dX7_fault_7
abbrev rm_X7_forgetActs : Room := { frames := 0, cells := 0, slots := 0, locals := 0 }
set_option maxHeartbeats 4000000 in
set_option maxRecDepth 100000 in
theorem c_X7_forgetActs (l : Launch) (dC : Nat → ClassId) (dI : Nat → Nat → Nat) (cI cZ : ClassId) (q_t q_t_text q_t_told q_t_now q_t_acts q_t_slots q_t_marks q_t_foresight q_t_chances : Nat) (sz : Nat) (t_firstAct : Int32) (t_actCount : Int32) (t_slotsKept : Int32) (t_weather : Int64) (o_t_firstAct : Int32) (o_t_actCount : Int32) (hf : f_X7_forgetActs t_firstAct t_actCount = some (o_t_firstAct, o_t_actCount)) : Met l yX7_forgetActs wsX7_forgetActs rm_X7_forgetActs (va_Pc [.ref q_t] (PU (dC, dI) cI cZ [(q_t, .inr (7, [.ref q_t_text, .ref q_t_told, .ref q_t_now, .ref q_t_acts, .ref q_t_slots, .ref q_t_marks, .ref q_t_foresight, .ref q_t_chances, .int t_firstAct, .int t_actCount, .int t_slotsKept, .long t_weather]))] sz)) (va_Qv (fun (_ : Unit) => True) (fun _ t => va_P (dC, dI) vwCl [(q_t, .inr (7, [.ref q_t_text, .ref q_t_told, .ref q_t_now, .ref q_t_acts, .ref q_t_slots, .ref q_t_marks, .ref q_t_foresight, .ref q_t_chances, .int o_t_firstAct, .int o_t_actCount, .int t_slotsKept, .long t_weather]))] t.heap) (va_A [(q_t, .inr (7, [.ref q_t_text, .ref q_t_told, .ref q_t_now, .ref q_t_acts, .ref q_t_slots, .ref q_t_marks, .ref q_t_foresight, .ref q_t_chances, .int t_firstAct, .int t_actCount, .int t_slotsKept, .long t_weather]))] sz)) 0 0 (va_A [(q_t, .inr (7, [.ref q_t_text, .ref q_t_told, .ref q_t_now, .ref q_t_acts, .ref q_t_slots, .ref q_t_marks, .ref q_t_foresight, .ref q_t_chances, .int t_firstAct, .int t_actCount, .int t_slotsKept, .long t_weather]))] sz) := by
  refine MetV (cc := cX7_forgetActs) (maxL := 1) (by decide) rfl (Nat.le_of_ble_eq_true rfl) (fun _ h => h) ?_
  intro p e s m args below meth c A Q ls hx CF hK hA hD hP hS hl hB hAe hsz hret
  have hb := CF.2.1
  have hml := CF.2.2.1
  have hown := CF.2.2.2.1
  have hts := CF.2.2.2.2
  have hD0 := hD
  replace hl : lv_has ls 1 [(0, .ref q_t)] := hl
  have hinX7 : ∀ w ∈ wsX70, w ∈ wsX7_forgetActs := fun _ h => List.mem_cons_of_mem _ (List.mem_append_right _ h)
  have w_0 := hts (.fieldLink RX7 171 "PassInStep" "firstAct" "I") (by decide +kernel)
  have w_1 := hts (.fieldLink RX7 111 "PassInStep" "actCount" "I") (by decide +kernel)
  rw [f_X7_forgetActs] at hf
  refine lv_aload_n hx hb dX7_forgetActs_0 rfl (lv_at hl 0 rfl) ?_
  refine lv_iconst (v := 0) hx hb dX7_forgetActs_1 (by decide) ?_
  refine va_put (D := (dC, dI)) (ci := 7) (v := .int 0) (ty := .int) (C := RX7) (T := TX7) (N := 12) hx hb hts hinX7 tyX7 tyX7_ok nmX7 hown hK.1 hP hD hS 0 rfl rfl 8 (by decide) w_0 (fun _ h9 => h9) rfl (by decide +kernel) rfl rfl (Nat.le_of_ble_eq_true rfl) dX7_forgetActs_2 (fun H locs hP hD hS => ?_)
  replace hP : va_P (dC, dI) vwCl [(q_t, .inr (7, [.ref q_t_text, .ref q_t_told, .ref q_t_now, .ref q_t_acts, .ref q_t_slots, .ref q_t_marks, .ref q_t_foresight, .ref q_t_chances, .int 0, .int t_actCount, .int t_slotsKept, .long t_weather]))] H := hP
  replace hD : va_D A [(q_t, .inr (7, [.ref q_t_text, .ref q_t_told, .ref q_t_now, .ref q_t_acts, .ref q_t_slots, .ref q_t_marks, .ref q_t_foresight, .ref q_t_chances, .int 0, .int t_actCount, .int t_slotsKept, .long t_weather]))] := hD
  refine lv_aload_n hx hb dX7_forgetActs_5 rfl (lv_at hl 0 rfl) ?_
  refine lv_iconst (v := 0) hx hb dX7_forgetActs_6 (by decide) ?_
  refine va_put (D := (dC, dI)) (ci := 7) (v := .int 0) (ty := .int) (C := RX7) (T := TX7) (N := 12) hx hb hts hinX7 tyX7 tyX7_ok nmX7 hown hK.1 hP hD hS 0 rfl rfl 9 (by decide) w_1 (fun _ h9 => h9) rfl (by decide +kernel) rfl rfl (Nat.le_of_ble_eq_true rfl) dX7_forgetActs_7 (fun H locs hP hD hS => ?_)
  replace hP : va_P (dC, dI) vwCl [(q_t, .inr (7, [.ref q_t_text, .ref q_t_told, .ref q_t_now, .ref q_t_acts, .ref q_t_slots, .ref q_t_marks, .ref q_t_foresight, .ref q_t_chances, .int 0, .int 0, .int t_slotsKept, .long t_weather]))] H := hP
  replace hD : va_D A [(q_t, .inr (7, [.ref q_t_text, .ref q_t_told, .ref q_t_now, .ref q_t_acts, .ref q_t_slots, .ref q_t_marks, .ref q_t_foresight, .ref q_t_chances, .int 0, .int 0, .int t_slotsKept, .long t_weather]))] := hD
  obtain ⟨e0, hf⟩ := ij2 hf
  have e1 := hf
  exact hret _ _ _ _ (by rw [← e0, ← e1]; exact hP) hS dX7_forgetActs_10
abbrev rm_X7_party : Room := { frames := 5, cells := 0, slots := 0, locals := 106 }
set_option maxHeartbeats 4000000 in
set_option maxRecDepth 100000 in
theorem c_X7_party (l : Launch) (dC : Nat → ClassId) (dI : Nat → Nat → Nat) (cI cZ : ClassId) (q_t q_t_text q_t_told q_t_now q_t_acts q_t_slots q_t_marks q_t_foresight q_t_chances q_t_text_letters q_t_told_beats q_t_told_kinds q_t_now_line q_t_now_strides q_t_now_strains : Nat) (sz : Nat) (t_firstAct : Int32) (t_actCount : Int32) (t_slotsKept : Int32) (t_weather : Int64) (t_text_length : Int32) (t_text_letters : Nat → Int32) (t_told_count : Int32) (t_told_depth : Int32) (t_told_noon : Int32) (t_told_depthBehind : Int32) (t_told_beats : Nat → Int32) (t_told_kinds : Nat → Int32) (t_now_down : Int32) (t_now_steps : Int32) (t_now_line : Nat → Int32) (t_now_strides : Nat → Int32) (t_now_strains : Nat → Int32) (r_ : Int32) (o_t_firstAct : Int32) (o_t_actCount : Int32) (o_t_slotsKept : Int32) (o_t_told_count : Int32) (o_t_told_depth : Int32) (o_t_told_noon : Int32) (o_t_told_depthBehind : Int32) (o_t_told_beats : Nat → Int32) (o_t_told_kinds : Nat → Int32) (o_t_now_down : Int32) (o_t_now_steps : Int32) (o_t_now_line : Nat → Int32) (o_t_now_strides : Nat → Int32) (o_t_now_strains : Nat → Int32) (hf : f_X7_party t_firstAct t_actCount t_slotsKept t_text_length t_text_letters t_told_count t_told_depth t_told_noon t_told_depthBehind t_told_beats t_told_kinds t_now_down t_now_steps t_now_line t_now_strides t_now_strains = some (r_, o_t_firstAct, o_t_actCount, o_t_slotsKept, o_t_told_count, o_t_told_depth, o_t_told_noon, o_t_told_depthBehind, o_t_told_beats, o_t_told_kinds, o_t_now_down, o_t_now_steps, o_t_now_line, o_t_now_strides, o_t_now_strains)) : Met l yX7_party wsX7_party rm_X7_party (va_Pc [.ref q_t] (PU (dC, dI) cI cZ [(q_t, .inr (7, [.ref q_t_text, .ref q_t_told, .ref q_t_now, .ref q_t_acts, .ref q_t_slots, .ref q_t_marks, .ref q_t_foresight, .ref q_t_chances, .int t_firstAct, .int t_actCount, .int t_slotsKept, .long t_weather])), (q_t_text, .inr (5, [.ref q_t_text_letters, .int t_text_length])), (q_t_text_letters, .inl (cI, 48, .inl t_text_letters)), (q_t_told, .inr (3, [.ref q_t_told_beats, .ref q_t_told_kinds, .int t_told_count, .int t_told_depth, .int t_told_noon, .int t_told_depthBehind])), (q_t_told_beats, .inl (cI, 5, .inl t_told_beats)), (q_t_told_kinds, .inl (cI, 5, .inl t_told_kinds)), (q_t_now, .inr (6, [.ref q_t_told, .ref q_t_now_line, .ref q_t_now_strides, .ref q_t_now_strains, .int t_now_down, .int t_now_steps])), (q_t_now_line, .inl (cI, 5, .inl t_now_line)), (q_t_now_strides, .inl (cI, 5, .inl t_now_strides)), (q_t_now_strains, .inl (cI, 5, .inl t_now_strains))] sz)) (va_Qi (fun (r : Int32) (_ : Unit) => r = r_) (fun _ t => va_P (dC, dI) vwCl [(q_t, .inr (7, [.ref q_t_text, .ref q_t_told, .ref q_t_now, .ref q_t_acts, .ref q_t_slots, .ref q_t_marks, .ref q_t_foresight, .ref q_t_chances, .int o_t_firstAct, .int o_t_actCount, .int o_t_slotsKept, .long t_weather])), (q_t_text, .inr (5, [.ref q_t_text_letters, .int t_text_length])), (q_t_text_letters, .inl (cI, 48, .inl t_text_letters)), (q_t_told, .inr (3, [.ref q_t_told_beats, .ref q_t_told_kinds, .int o_t_told_count, .int o_t_told_depth, .int o_t_told_noon, .int o_t_told_depthBehind])), (q_t_told_beats, .inl (cI, 5, .inl o_t_told_beats)), (q_t_told_kinds, .inl (cI, 5, .inl o_t_told_kinds)), (q_t_now, .inr (6, [.ref q_t_told, .ref q_t_now_line, .ref q_t_now_strides, .ref q_t_now_strains, .int o_t_now_down, .int o_t_now_steps])), (q_t_now_line, .inl (cI, 5, .inl o_t_now_line)), (q_t_now_strides, .inl (cI, 5, .inl o_t_now_strides)), (q_t_now_strains, .inl (cI, 5, .inl o_t_now_strains))] t.heap) (va_A [(q_t, .inr (7, [.ref q_t_text, .ref q_t_told, .ref q_t_now, .ref q_t_acts, .ref q_t_slots, .ref q_t_marks, .ref q_t_foresight, .ref q_t_chances, .int t_firstAct, .int t_actCount, .int t_slotsKept, .long t_weather])), (q_t_text, .inr (5, [.ref q_t_text_letters, .int t_text_length])), (q_t_text_letters, .inl (cI, 48, .inl t_text_letters)), (q_t_told, .inr (3, [.ref q_t_told_beats, .ref q_t_told_kinds, .int t_told_count, .int t_told_depth, .int t_told_noon, .int t_told_depthBehind])), (q_t_told_beats, .inl (cI, 5, .inl t_told_beats)), (q_t_told_kinds, .inl (cI, 5, .inl t_told_kinds)), (q_t_now, .inr (6, [.ref q_t_told, .ref q_t_now_line, .ref q_t_now_strides, .ref q_t_now_strains, .int t_now_down, .int t_now_steps])), (q_t_now_line, .inl (cI, 5, .inl t_now_line)), (q_t_now_strides, .inl (cI, 5, .inl t_now_strides)), (q_t_now_strains, .inl (cI, 5, .inl t_now_strains))] sz)) 0 0 (va_A [(q_t, .inr (7, [.ref q_t_text, .ref q_t_told, .ref q_t_now, .ref q_t_acts, .ref q_t_slots, .ref q_t_marks, .ref q_t_foresight, .ref q_t_chances, .int t_firstAct, .int t_actCount, .int t_slotsKept, .long t_weather])), (q_t_text, .inr (5, [.ref q_t_text_letters, .int t_text_length])), (q_t_text_letters, .inl (cI, 48, .inl t_text_letters)), (q_t_told, .inr (3, [.ref q_t_told_beats, .ref q_t_told_kinds, .int t_told_count, .int t_told_depth, .int t_told_noon, .int t_told_depthBehind])), (q_t_told_beats, .inl (cI, 5, .inl t_told_beats)), (q_t_told_kinds, .inl (cI, 5, .inl t_told_kinds)), (q_t_now, .inr (6, [.ref q_t_told, .ref q_t_now_line, .ref q_t_now_strides, .ref q_t_now_strains, .int t_now_down, .int t_now_steps])), (q_t_now_line, .inl (cI, 5, .inl t_now_line)), (q_t_now_strides, .inl (cI, 5, .inl t_now_strides)), (q_t_now_strains, .inl (cI, 5, .inl t_now_strains))] sz) := by
  refine MetI (cc := cX7_party) (maxL := 1) (by decide) rfl (Nat.le_of_ble_eq_true rfl) (fun _ h => h) ?_
  intro p e s m args below meth c A Q ls hx CF hK hA hD hP hS hl hB hAe hsz hret
  have hb := CF.2.1
  have hml := CF.2.2.1
  have hown := CF.2.2.2.1
  have hts := CF.2.2.2.2
  have hD0 := hD
  replace hl : lv_has ls 1 [(0, .ref q_t)] := hl
  have hinX7 : ∀ w ∈ wsX70, w ∈ wsX7_party := fun _ h => List.mem_cons_of_mem _ (List.mem_append_left _ (List.mem_append_left _ (List.mem_append_left _ (List.mem_append_right _ h))))
  have hinX5 : ∀ w ∈ wsX50, w ∈ wsX7_party := fun _ h => List.mem_cons_of_mem _ (List.mem_append_left _ (List.mem_append_left _ (List.mem_append_right _ h)))
  have hinX3 : ∀ w ∈ wsX30, w ∈ wsX7_party := fun _ h => List.mem_cons_of_mem _ (List.mem_append_left _ (List.mem_append_right _ h))
  have hinX6 : ∀ w ∈ wsX60, w ∈ wsX7_party := fun _ h => List.mem_cons_of_mem _ (List.mem_append_right _ h)
  have w_0 := hts (.fieldLink RX7 12 "PassInStep" "text" "LPassInStep$Text;") (by decide +kernel)
  have w_1 := hts (.fieldLink RX7 19 "PassInStep" "told" "LPassInStep$Party;") (by decide +kernel)
  have w_2 := hts (.fieldLink RX7 28 "PassInStep" "now" "LPassInStep$Yard;") (by decide +kernel)
  have w_3 := hts (.fieldLink RX7 92 "PassInStep" "slotsKept" "I") (by decide +kernel)
  rw [f_X7_party] at hf
  refine lv_aload_n hx hb dX7_party_0 rfl (lv_at hl 0 rfl) ?_
  refine va_get (D := (dC, dI)) (ci := 7) (v := .ref q_t_text) (C := RX7) (T := TX7) (N := 12) hx hb hts hinX7 hown hK.1 hP 0 rfl rfl 0 (by decide) w_0 (fun _ h9 => h9) rfl dX7_party_1 ?_
  obtain ⟨r1, e3, hf⟩ := bd_ok hf
  refine kVi (As := []) CF (cwV 0 hts gX7_party_X5_faultPlace rfl rfl rfl (by decide +kernel) ⟨Nat.le_of_ble_eq_true rfl, Nat.le_of_ble_eq_true rfl⟩) PU_blind hP hD hS hA (va_recv hK.1 hP (ci := 5) (q0 := 1) rfl rfl) [1, 2] (fun h1 h2 h3 => PU_pre hK h1 A h2 h3) (c_X5_faultPlace l dC dI cI cZ q_t_text q_t_text_letters _ t_text_length t_text_letters r1 e3) rfl rfl rfl rfl hl.1 rfl (Nat.le_of_ble_eq_true rfl) dX7_party_4 ⟨Nat.zero_le _, Nat.zero_le _⟩ (fun H locs hP hS => ?_)
  replace hP : va_P (dC, dI) vwCl [(q_t, .inr (7, [.ref q_t_text, .ref q_t_told, .ref q_t_now, .ref q_t_acts, .ref q_t_slots, .ref q_t_marks, .ref q_t_foresight, .ref q_t_chances, .int t_firstAct, .int t_actCount, .int t_slotsKept, .long t_weather])), (q_t_text, .inr (5, [.ref q_t_text_letters, .int t_text_length])), (q_t_text_letters, .inl (cI, 48, .inl t_text_letters)), (q_t_told, .inr (3, [.ref q_t_told_beats, .ref q_t_told_kinds, .int t_told_count, .int t_told_depth, .int t_told_noon, .int t_told_depthBehind])), (q_t_told_beats, .inl (cI, 5, .inl t_told_beats)), (q_t_told_kinds, .inl (cI, 5, .inl t_told_kinds)), (q_t_now, .inr (6, [.ref q_t_told, .ref q_t_now_line, .ref q_t_now_strides, .ref q_t_now_strains, .int t_now_down, .int t_now_steps])), (q_t_now_line, .inl (cI, 5, .inl t_now_line)), (q_t_now_strides, .inl (cI, 5, .inl t_now_strides)), (q_t_now_strains, .inl (cI, 5, .inl t_now_strains))] H := hP
  refine lv_bipush (v := (-9)) hx hb dX7_party_7 (by decide) ?_
  refine lv_icmp_eq (tgt := 15) hx hb dX7_party_9 (by decide) (fun hc => ?_) (fun hc => ?_)
  · replace hf := ip hc hf
    refine lv_aload_n hx hb dX7_party_15 rfl (lv_at hl 0 rfl) ?_
    refine va_get (D := (dC, dI)) (ci := 7) (v := .ref q_t_told) (C := RX7) (T := TX7) (N := 12) hx hb hts hinX7 hown hK.1 hP 0 rfl rfl 1 (by decide) w_1 (fun _ h9 => h9) rfl dX7_party_16 ?_
    refine lv_aload_n hx hb dX7_party_19 rfl (lv_at hl 0 rfl) ?_
    refine va_get (D := (dC, dI)) (ci := 7) (v := .ref q_t_text) (C := RX7) (T := TX7) (N := 12) hx hb hts hinX7 hown hK.1 hP 0 rfl rfl 0 (by decide) w_0 (fun _ h9 => h9) rfl dX7_party_20 ?_
    obtain ⟨⟨o4, o5, o6, o7, o8, o9⟩, e11, hf⟩ := bd_ok hf
    refine kVv (As := [.ref q_t_text]) CF (cwV 1 hts gX7_party_X3_readFrom rfl rfl rfl (by decide +kernel) ⟨Nat.le_of_ble_eq_true rfl, Nat.le_of_ble_eq_true rfl⟩) PU_blind hP hD hS hA (va_recv hK.1 hP (ci := 3) (q0 := 3) rfl rfl) [1, 2, 3, 4, 5] (fun h1 h2 h3 => PU_pre hK h1 A h2 h3) (c_X3_readFrom l dC dI cI cZ q_t_text q_t_text_letters q_t_told q_t_told_beats q_t_told_kinds _ t_text_length t_text_letters t_told_count t_told_depth t_told_noon t_told_depthBehind t_told_beats t_told_kinds o4 o5 o6 o7 o8 o9 e11) rfl rfl rfl rfl hl.1 rfl (Nat.le_of_ble_eq_true rfl) dX7_party_23 ⟨Nat.zero_le _, Nat.zero_le _⟩ (fun H locs hP hS => ?_)
    replace hP : va_P (dC, dI) vwCl [(q_t, .inr (7, [.ref q_t_text, .ref q_t_told, .ref q_t_now, .ref q_t_acts, .ref q_t_slots, .ref q_t_marks, .ref q_t_foresight, .ref q_t_chances, .int t_firstAct, .int t_actCount, .int t_slotsKept, .long t_weather])), (q_t_text, .inr (5, [.ref q_t_text_letters, .int t_text_length])), (q_t_text_letters, .inl (cI, 48, .inl t_text_letters)), (q_t_told, .inr (3, [.ref q_t_told_beats, .ref q_t_told_kinds, .int o4, .int o5, .int o6, .int o7])), (q_t_told_beats, .inl (cI, 5, .inl o8)), (q_t_told_kinds, .inl (cI, 5, .inl o9)), (q_t_now, .inr (6, [.ref q_t_told, .ref q_t_now_line, .ref q_t_now_strides, .ref q_t_now_strains, .int t_now_down, .int t_now_steps])), (q_t_now_line, .inl (cI, 5, .inl t_now_line)), (q_t_now_strides, .inl (cI, 5, .inl t_now_strides)), (q_t_now_strains, .inl (cI, 5, .inl t_now_strains))] H := hP
    replace hD : va_D A [(q_t, .inr (7, [.ref q_t_text, .ref q_t_told, .ref q_t_now, .ref q_t_acts, .ref q_t_slots, .ref q_t_marks, .ref q_t_foresight, .ref q_t_chances, .int t_firstAct, .int t_actCount, .int t_slotsKept, .long t_weather])), (q_t_text, .inr (5, [.ref q_t_text_letters, .int t_text_length])), (q_t_text_letters, .inl (cI, 48, .inl t_text_letters)), (q_t_told, .inr (3, [.ref q_t_told_beats, .ref q_t_told_kinds, .int o4, .int o5, .int o6, .int o7])), (q_t_told_beats, .inl (cI, 5, .inl o8)), (q_t_told_kinds, .inl (cI, 5, .inl o9)), (q_t_now, .inr (6, [.ref q_t_told, .ref q_t_now_line, .ref q_t_now_strides, .ref q_t_now_strains, .int t_now_down, .int t_now_steps])), (q_t_now_line, .inl (cI, 5, .inl t_now_line)), (q_t_now_strides, .inl (cI, 5, .inl t_now_strides)), (q_t_now_strains, .inl (cI, 5, .inl t_now_strains))] := wd hD rfl
    refine lv_aload_n hx hb dX7_party_26 rfl (lv_at hl 0 rfl) ?_
    refine va_get (D := (dC, dI)) (ci := 7) (v := .ref q_t_now) (C := RX7) (T := TX7) (N := 12) hx hb hts hinX7 hown hK.1 hP 0 rfl rfl 2 (by decide) w_2 (fun _ h9 => h9) rfl dX7_party_27 ?_
    refine lv_aload_n hx hb dX7_party_30 rfl (lv_at hl 0 rfl) ?_
    refine va_get (D := (dC, dI)) (ci := 7) (v := .ref q_t_text) (C := RX7) (T := TX7) (N := 12) hx hb hts hinX7 hown hK.1 hP 0 rfl rfl 0 (by decide) w_0 (fun _ h9 => h9) rfl dX7_party_31 ?_
    obtain ⟨⟨o12, o13, o14, o15, o16⟩, e18, hf⟩ := bd_ok hf
    refine kVv (As := [.ref q_t_text]) CF (cwV 1 hts gX7_party_X6_begin rfl rfl rfl (by decide +kernel) ⟨Nat.le_of_ble_eq_true rfl, Nat.le_of_ble_eq_true rfl⟩) PU_blind hP hD hS hA (va_recv hK.1 hP (ci := 6) (q0 := 6) rfl rfl) [6, 7, 3, 1, 2, 8, 9] (fun h1 h2 h3 => PU_pre hK h1 A h2 h3) (c_X6_begin l dC dI cI cZ q_t_now q_t_told q_t_now_line q_t_now_strides q_t_now_strains q_t_told_beats q_t_told_kinds q_t_text q_t_text_letters _ t_now_down t_now_steps t_now_line o4 o5 o6 o7 t_text_length t_text_letters t_now_strides t_now_strains o12 o13 o14 o15 o16 e18) rfl rfl rfl rfl hl.1 rfl (Nat.le_of_ble_eq_true rfl) dX7_party_34 ⟨Nat.zero_le _, Nat.zero_le _⟩ (fun H locs hP hS => ?_)
    replace hP : va_P (dC, dI) vwCl [(q_t, .inr (7, [.ref q_t_text, .ref q_t_told, .ref q_t_now, .ref q_t_acts, .ref q_t_slots, .ref q_t_marks, .ref q_t_foresight, .ref q_t_chances, .int t_firstAct, .int t_actCount, .int t_slotsKept, .long t_weather])), (q_t_text, .inr (5, [.ref q_t_text_letters, .int t_text_length])), (q_t_text_letters, .inl (cI, 48, .inl t_text_letters)), (q_t_told, .inr (3, [.ref q_t_told_beats, .ref q_t_told_kinds, .int o4, .int o5, .int o6, .int o7])), (q_t_told_beats, .inl (cI, 5, .inl o8)), (q_t_told_kinds, .inl (cI, 5, .inl o9)), (q_t_now, .inr (6, [.ref q_t_told, .ref q_t_now_line, .ref q_t_now_strides, .ref q_t_now_strains, .int o12, .int o13])), (q_t_now_line, .inl (cI, 5, .inl o14)), (q_t_now_strides, .inl (cI, 5, .inl o15)), (q_t_now_strains, .inl (cI, 5, .inl o16))] H := hP
    replace hD : va_D A [(q_t, .inr (7, [.ref q_t_text, .ref q_t_told, .ref q_t_now, .ref q_t_acts, .ref q_t_slots, .ref q_t_marks, .ref q_t_foresight, .ref q_t_chances, .int t_firstAct, .int t_actCount, .int t_slotsKept, .long t_weather])), (q_t_text, .inr (5, [.ref q_t_text_letters, .int t_text_length])), (q_t_text_letters, .inl (cI, 48, .inl t_text_letters)), (q_t_told, .inr (3, [.ref q_t_told_beats, .ref q_t_told_kinds, .int o4, .int o5, .int o6, .int o7])), (q_t_told_beats, .inl (cI, 5, .inl o8)), (q_t_told_kinds, .inl (cI, 5, .inl o9)), (q_t_now, .inr (6, [.ref q_t_told, .ref q_t_now_line, .ref q_t_now_strides, .ref q_t_now_strains, .int o12, .int o13])), (q_t_now_line, .inl (cI, 5, .inl o14)), (q_t_now_strides, .inl (cI, 5, .inl o15)), (q_t_now_strains, .inl (cI, 5, .inl o16))] := wd hD rfl
    refine lv_aload_n hx hb dX7_party_37 rfl (lv_at hl 0 rfl) ?_
    obtain ⟨⟨o19, o20⟩, e22, hf⟩ := bd_ok hf
    refine kVv (As := []) CF (cwV 0 hts gX7_party_X7_forgetActs rfl rfl rfl (by decide +kernel) ⟨Nat.le_of_ble_eq_true rfl, Nat.le_of_ble_eq_true rfl⟩) PU_blind hP hD hS hA (va_recv hK.1 hP (ci := 7) (q0 := 0) rfl rfl) [0] (fun h1 h2 h3 => PU_pre hK h1 A h2 h3) (c_X7_forgetActs l dC dI cI cZ q_t q_t_text q_t_told q_t_now q_t_acts q_t_slots q_t_marks q_t_foresight q_t_chances _ t_firstAct t_actCount t_slotsKept t_weather o19 o20 e22) rfl rfl rfl rfl hl.1 rfl (Nat.le_of_ble_eq_true rfl) dX7_party_38 ⟨Nat.zero_le _, Nat.zero_le _⟩ (fun H locs hP hS => ?_)
    replace hP : va_P (dC, dI) vwCl [(q_t, .inr (7, [.ref q_t_text, .ref q_t_told, .ref q_t_now, .ref q_t_acts, .ref q_t_slots, .ref q_t_marks, .ref q_t_foresight, .ref q_t_chances, .int o19, .int o20, .int t_slotsKept, .long t_weather])), (q_t_text, .inr (5, [.ref q_t_text_letters, .int t_text_length])), (q_t_text_letters, .inl (cI, 48, .inl t_text_letters)), (q_t_told, .inr (3, [.ref q_t_told_beats, .ref q_t_told_kinds, .int o4, .int o5, .int o6, .int o7])), (q_t_told_beats, .inl (cI, 5, .inl o8)), (q_t_told_kinds, .inl (cI, 5, .inl o9)), (q_t_now, .inr (6, [.ref q_t_told, .ref q_t_now_line, .ref q_t_now_strides, .ref q_t_now_strains, .int o12, .int o13])), (q_t_now_line, .inl (cI, 5, .inl o14)), (q_t_now_strides, .inl (cI, 5, .inl o15)), (q_t_now_strains, .inl (cI, 5, .inl o16))] H := hP
    replace hD : va_D A [(q_t, .inr (7, [.ref q_t_text, .ref q_t_told, .ref q_t_now, .ref q_t_acts, .ref q_t_slots, .ref q_t_marks, .ref q_t_foresight, .ref q_t_chances, .int o19, .int o20, .int t_slotsKept, .long t_weather])), (q_t_text, .inr (5, [.ref q_t_text_letters, .int t_text_length])), (q_t_text_letters, .inl (cI, 48, .inl t_text_letters)), (q_t_told, .inr (3, [.ref q_t_told_beats, .ref q_t_told_kinds, .int o4, .int o5, .int o6, .int o7])), (q_t_told_beats, .inl (cI, 5, .inl o8)), (q_t_told_kinds, .inl (cI, 5, .inl o9)), (q_t_now, .inr (6, [.ref q_t_told, .ref q_t_now_line, .ref q_t_now_strides, .ref q_t_now_strains, .int o12, .int o13])), (q_t_now_line, .inl (cI, 5, .inl o14)), (q_t_now_strides, .inl (cI, 5, .inl o15)), (q_t_now_strains, .inl (cI, 5, .inl o16))] := wd hD rfl
    refine lv_aload_n hx hb dX7_party_41 rfl (lv_at hl 0 rfl) ?_
    refine lv_iconst (v := 0) hx hb dX7_party_42 (by decide) ?_
    refine va_put (D := (dC, dI)) (ci := 7) (v := .int 0) (ty := .int) (C := RX7) (T := TX7) (N := 12) hx hb hts hinX7 tyX7 tyX7_ok nmX7 hown hK.1 hP hD hS 0 rfl rfl 10 (by decide) w_3 (fun _ h9 => h9) rfl (by decide +kernel) rfl rfl (Nat.le_of_ble_eq_true rfl) dX7_party_43 (fun H locs hP hD hS => ?_)
    replace hP : va_P (dC, dI) vwCl [(q_t, .inr (7, [.ref q_t_text, .ref q_t_told, .ref q_t_now, .ref q_t_acts, .ref q_t_slots, .ref q_t_marks, .ref q_t_foresight, .ref q_t_chances, .int o19, .int o20, .int 0, .long t_weather])), (q_t_text, .inr (5, [.ref q_t_text_letters, .int t_text_length])), (q_t_text_letters, .inl (cI, 48, .inl t_text_letters)), (q_t_told, .inr (3, [.ref q_t_told_beats, .ref q_t_told_kinds, .int o4, .int o5, .int o6, .int o7])), (q_t_told_beats, .inl (cI, 5, .inl o8)), (q_t_told_kinds, .inl (cI, 5, .inl o9)), (q_t_now, .inr (6, [.ref q_t_told, .ref q_t_now_line, .ref q_t_now_strides, .ref q_t_now_strains, .int o12, .int o13])), (q_t_now_line, .inl (cI, 5, .inl o14)), (q_t_now_strides, .inl (cI, 5, .inl o15)), (q_t_now_strains, .inl (cI, 5, .inl o16))] H := hP
    replace hD : va_D A [(q_t, .inr (7, [.ref q_t_text, .ref q_t_told, .ref q_t_now, .ref q_t_acts, .ref q_t_slots, .ref q_t_marks, .ref q_t_foresight, .ref q_t_chances, .int o19, .int o20, .int 0, .long t_weather])), (q_t_text, .inr (5, [.ref q_t_text_letters, .int t_text_length])), (q_t_text_letters, .inl (cI, 48, .inl t_text_letters)), (q_t_told, .inr (3, [.ref q_t_told_beats, .ref q_t_told_kinds, .int o4, .int o5, .int o6, .int o7])), (q_t_told_beats, .inl (cI, 5, .inl o8)), (q_t_told_kinds, .inl (cI, 5, .inl o9)), (q_t_now, .inr (6, [.ref q_t_told, .ref q_t_now_line, .ref q_t_now_strides, .ref q_t_now_strains, .int o12, .int o13])), (q_t_now_line, .inl (cI, 5, .inl o14)), (q_t_now_strides, .inl (cI, 5, .inl o15)), (q_t_now_strains, .inl (cI, 5, .inl o16))] := hD
    refine lv_aload_n hx hb dX7_party_46 rfl (lv_at hl 0 rfl) ?_
    refine va_get (D := (dC, dI)) (ci := 7) (v := .ref q_t_told) (C := RX7) (T := TX7) (N := 12) hx hb hts hinX7 hown hK.1 hP 0 rfl rfl 1 (by decide) w_1 (fun _ h9 => h9) rfl dX7_party_47 ?_
    obtain ⟨r23, e25, hf⟩ := bd_ok hf
    refine kVi (As := []) CF (cwV 0 hts gX7_party_X3_size rfl rfl rfl (by decide +kernel) ⟨Nat.le_of_ble_eq_true rfl, Nat.le_of_ble_eq_true rfl⟩) PU_blind hP hD hS hA (va_recv hK.1 hP (ci := 3) (q0 := 3) rfl rfl) [3] (fun h1 h2 h3 => PU_pre hK h1 A h2 h3) (c_X3_size l dC dI cI cZ q_t_told q_t_told_beats q_t_told_kinds _ o4 o5 o6 o7 r23 e25) rfl rfl rfl rfl hl.1 rfl (Nat.le_of_ble_eq_true rfl) dX7_party_50 ⟨Nat.zero_le _, Nat.zero_le _⟩ (fun H locs hP hS => ?_)
    replace hP : va_P (dC, dI) vwCl [(q_t, .inr (7, [.ref q_t_text, .ref q_t_told, .ref q_t_now, .ref q_t_acts, .ref q_t_slots, .ref q_t_marks, .ref q_t_foresight, .ref q_t_chances, .int o19, .int o20, .int 0, .long t_weather])), (q_t_text, .inr (5, [.ref q_t_text_letters, .int t_text_length])), (q_t_text_letters, .inl (cI, 48, .inl t_text_letters)), (q_t_told, .inr (3, [.ref q_t_told_beats, .ref q_t_told_kinds, .int o4, .int o5, .int o6, .int o7])), (q_t_told_beats, .inl (cI, 5, .inl o8)), (q_t_told_kinds, .inl (cI, 5, .inl o9)), (q_t_now, .inr (6, [.ref q_t_told, .ref q_t_now_line, .ref q_t_now_strides, .ref q_t_now_strains, .int o12, .int o13])), (q_t_now_line, .inl (cI, 5, .inl o14)), (q_t_now_strides, .inl (cI, 5, .inl o15)), (q_t_now_strains, .inl (cI, 5, .inl o16))] H := hP
    obtain ⟨e0, hf⟩ := ij2 hf
    obtain ⟨e1, hf⟩ := ijc hf
    obtain ⟨e2, hf⟩ := ijc hf
    obtain ⟨e3, hf⟩ := ijc hf
    obtain ⟨e4, hf⟩ := ijc hf
    obtain ⟨e5, hf⟩ := ijc hf
    obtain ⟨e6, hf⟩ := ijc hf
    obtain ⟨e7, hf⟩ := ijc hf
    obtain ⟨e8, hf⟩ := ijc hf
    obtain ⟨e9, hf⟩ := ijc hf
    obtain ⟨e10, hf⟩ := ijc hf
    obtain ⟨e11, hf⟩ := ijc hf
    obtain ⟨e12, hf⟩ := ijc hf
    obtain ⟨e13, hf⟩ := ijc hf
    have e14 := hf
    refine W.eq (congrArg (fun z => F0 m 53 ls [.int z]) e0) ?_
    exact hret _ _ _ _ (by rw [← e1, ← e2, ← e3, ← e4, ← e5, ← e6, ← e7, ← e8, ← e9, ← e10, ← e11, ← e12, ← e13, ← e14]; exact hP) hS dX7_party_53
  · replace hf := iq hc hf
    refine lv_bipush (v := (-3)) hx hb dX7_party_12 (by decide) ?_
    obtain ⟨e0, hf⟩ := ij2 hf
    obtain ⟨e1, hf⟩ := ijc hf
    obtain ⟨e2, hf⟩ := ijc hf
    obtain ⟨e3, hf⟩ := ijc hf
    obtain ⟨e4, hf⟩ := ijc hf
    obtain ⟨e5, hf⟩ := ijc hf
    obtain ⟨e6, hf⟩ := ijc hf
    obtain ⟨e7, hf⟩ := ijc hf
    obtain ⟨e8, hf⟩ := ijc hf
    obtain ⟨e9, hf⟩ := ijc hf
    obtain ⟨e10, hf⟩ := ijc hf
    obtain ⟨e11, hf⟩ := ijc hf
    obtain ⟨e12, hf⟩ := ijc hf
    obtain ⟨e13, hf⟩ := ijc hf
    have e14 := hf
    refine W.eq (congrArg (fun z => F0 m 14 ls [.int z]) e0) ?_
    exact hret _ _ _ _ (by rw [← e1, ← e2, ← e3, ← e4, ← e5, ← e6, ← e7, ← e8, ← e9, ← e10, ← e11, ← e12, ← e13, ← e14]; exact hP) hS dX7_party_14
abbrev rm_X7_about : Room := { frames := 2, cells := 0, slots := 0, locals := 43 }
set_option maxHeartbeats 4000000 in
set_option maxRecDepth 100000 in
theorem c_X7_about (l : Launch) (dC : Nat → ClassId) (dI : Nat → Nat → Nat) (cI cZ : ClassId) (q_t q_t_text q_t_told q_t_now q_t_acts q_t_slots q_t_marks q_t_foresight q_t_chances q_t_text_letters q_t_marks_times q_t_marks_treads q_t_now_line q_t_now_strides q_t_now_strains q_t_told_beats q_t_told_kinds : Nat) (sz : Nat) (t_firstAct : Int32) (t_actCount : Int32) (t_slotsKept : Int32) (t_weather : Int64) (t_text_length : Int32) (t_marks_count : Int32) (t_now_down : Int32) (t_now_steps : Int32) (t_told_count : Int32) (t_told_depth : Int32) (t_told_noon : Int32) (t_told_depthBehind : Int32) (t_now_strains : Nat → Int32) (x1 : Int32) (r_ : Int32) (hf : f_X7_about x1 t_actCount t_text_length t_marks_count t_now_down t_now_steps t_told_count t_told_depth t_told_noon t_told_depthBehind t_now_strains = some r_) : Met l yX7_about wsX7_about rm_X7_about (va_Pc [.ref q_t, .int x1] (PU (dC, dI) cI cZ [(q_t, .inr (7, [.ref q_t_text, .ref q_t_told, .ref q_t_now, .ref q_t_acts, .ref q_t_slots, .ref q_t_marks, .ref q_t_foresight, .ref q_t_chances, .int t_firstAct, .int t_actCount, .int t_slotsKept, .long t_weather])), (q_t_text, .inr (5, [.ref q_t_text_letters, .int t_text_length])), (q_t_marks, .inr (2, [.ref q_t_marks_times, .ref q_t_marks_treads, .int t_marks_count])), (q_t_now, .inr (6, [.ref q_t_told, .ref q_t_now_line, .ref q_t_now_strides, .ref q_t_now_strains, .int t_now_down, .int t_now_steps])), (q_t_told, .inr (3, [.ref q_t_told_beats, .ref q_t_told_kinds, .int t_told_count, .int t_told_depth, .int t_told_noon, .int t_told_depthBehind])), (q_t_now_strains, .inl (cI, 5, .inl t_now_strains))] sz)) (va_Qi (fun (r : Int32) (_ : Unit) => r = r_) (fun _ t => va_P (dC, dI) vwCl [(q_t, .inr (7, [.ref q_t_text, .ref q_t_told, .ref q_t_now, .ref q_t_acts, .ref q_t_slots, .ref q_t_marks, .ref q_t_foresight, .ref q_t_chances, .int t_firstAct, .int t_actCount, .int t_slotsKept, .long t_weather])), (q_t_text, .inr (5, [.ref q_t_text_letters, .int t_text_length])), (q_t_marks, .inr (2, [.ref q_t_marks_times, .ref q_t_marks_treads, .int t_marks_count])), (q_t_now, .inr (6, [.ref q_t_told, .ref q_t_now_line, .ref q_t_now_strides, .ref q_t_now_strains, .int t_now_down, .int t_now_steps])), (q_t_told, .inr (3, [.ref q_t_told_beats, .ref q_t_told_kinds, .int t_told_count, .int t_told_depth, .int t_told_noon, .int t_told_depthBehind])), (q_t_now_strains, .inl (cI, 5, .inl t_now_strains))] t.heap) (va_A [(q_t, .inr (7, [.ref q_t_text, .ref q_t_told, .ref q_t_now, .ref q_t_acts, .ref q_t_slots, .ref q_t_marks, .ref q_t_foresight, .ref q_t_chances, .int t_firstAct, .int t_actCount, .int t_slotsKept, .long t_weather])), (q_t_text, .inr (5, [.ref q_t_text_letters, .int t_text_length])), (q_t_marks, .inr (2, [.ref q_t_marks_times, .ref q_t_marks_treads, .int t_marks_count])), (q_t_now, .inr (6, [.ref q_t_told, .ref q_t_now_line, .ref q_t_now_strides, .ref q_t_now_strains, .int t_now_down, .int t_now_steps])), (q_t_told, .inr (3, [.ref q_t_told_beats, .ref q_t_told_kinds, .int t_told_count, .int t_told_depth, .int t_told_noon, .int t_told_depthBehind])), (q_t_now_strains, .inl (cI, 5, .inl t_now_strains))] sz)) 0 0 (va_A [(q_t, .inr (7, [.ref q_t_text, .ref q_t_told, .ref q_t_now, .ref q_t_acts, .ref q_t_slots, .ref q_t_marks, .ref q_t_foresight, .ref q_t_chances, .int t_firstAct, .int t_actCount, .int t_slotsKept, .long t_weather])), (q_t_text, .inr (5, [.ref q_t_text_letters, .int t_text_length])), (q_t_marks, .inr (2, [.ref q_t_marks_times, .ref q_t_marks_treads, .int t_marks_count])), (q_t_now, .inr (6, [.ref q_t_told, .ref q_t_now_line, .ref q_t_now_strides, .ref q_t_now_strains, .int t_now_down, .int t_now_steps])), (q_t_told, .inr (3, [.ref q_t_told_beats, .ref q_t_told_kinds, .int t_told_count, .int t_told_depth, .int t_told_noon, .int t_told_depthBehind])), (q_t_now_strains, .inl (cI, 5, .inl t_now_strains))] sz) := by
  refine MetI (cc := cX7_about) (maxL := 2) (by decide) rfl (Nat.le_of_ble_eq_true rfl) (fun _ h => h) ?_
  intro p e s m args below meth c A Q ls hx CF hK hA hD hP hS hl hB hAe hsz hret
  have hb := CF.2.1
  have hml := CF.2.2.1
  have hown := CF.2.2.2.1
  have hts := CF.2.2.2.2
  have hD0 := hD
  replace hl : lv_has ls 2 [(0, .ref q_t), (1, .int x1)] := hl
  have hinX7 : ∀ w ∈ wsX70, w ∈ wsX7_about := fun _ h => List.mem_cons_of_mem _ (List.mem_append_left _ (List.mem_append_left _ (List.mem_append_left _ (List.mem_append_left _ (List.mem_append_right _ h)))))
  have hinX3 : ∀ w ∈ wsX30, w ∈ wsX7_about := fun _ h => List.mem_cons_of_mem _ (List.mem_append_left _ (List.mem_append_left _ (List.mem_append_left _ (List.mem_append_right _ h))))
  have hinX6 : ∀ w ∈ wsX60, w ∈ wsX7_about := fun _ h => List.mem_cons_of_mem _ (List.mem_append_left _ (List.mem_append_left _ (List.mem_append_right _ h)))
  have hinX2 : ∀ w ∈ wsX20, w ∈ wsX7_about := fun _ h => List.mem_cons_of_mem _ (List.mem_append_left _ (List.mem_append_right _ h))
  have hinX5 : ∀ w ∈ wsX50, w ∈ wsX7_about := fun _ h => List.mem_cons_of_mem _ (List.mem_append_right _ h)
  have w_0 := hts (.fieldLink RX7 19 "PassInStep" "told" "LPassInStep$Party;") (by decide +kernel)
  have w_1 := hts (.fieldLink RX7 28 "PassInStep" "now" "LPassInStep$Yard;") (by decide +kernel)
  have w_2 := hts (.fieldLink RX7 111 "PassInStep" "actCount" "I") (by decide +kernel)
  have w_3 := hts (.fieldLink RX7 47 "PassInStep" "marks" "LPassInStep$Marks;") (by decide +kernel)
  have w_4 := hts (.fieldLink RX7 12 "PassInStep" "text" "LPassInStep$Text;") (by decide +kernel)
  rw [f_X7_about] at hf
  refine lv_iload_n hx hb dX7_about_0 rfl (lv_at hl 1 rfl) ?_
  by_cases n0 : (x1 : Int32) = 0
  · replace hf := ip n0 hf
    refine lv_tableIn (off := 47) (tgt := 48) hx hb dX7_about_1 (by rw [n0]; decide) (by rw [n0]; decide) (by rw [n0]; rfl) (by decide) ?_
    refine lv_aload_n hx hb dX7_about_48 rfl (lv_at hl 0 rfl) ?_
    refine va_get (D := (dC, dI)) (ci := 7) (v := .ref q_t_told) (C := RX7) (T := TX7) (N := 12) hx hb hts hinX7 hown hK.1 hP 0 rfl rfl 1 (by decide) w_0 (fun _ h9 => h9) rfl dX7_about_49 ?_
    obtain ⟨r1, e3, hf⟩ := bd_ok hf
    refine kVi (As := []) CF (cwV 0 hts gX7_about_X3_size rfl rfl rfl (by decide +kernel) ⟨Nat.le_of_ble_eq_true rfl, Nat.le_of_ble_eq_true rfl⟩) PU_blind hP hD hS hA (va_recv hK.1 hP (ci := 3) (q0 := 4) rfl rfl) [4] (fun h1 h2 h3 => PU_pre hK h1 A h2 h3) (c_X3_size l dC dI cI cZ q_t_told q_t_told_beats q_t_told_kinds _ t_told_count t_told_depth t_told_noon t_told_depthBehind r1 e3) rfl rfl rfl rfl hl.1 rfl (Nat.le_of_ble_eq_true rfl) dX7_about_52 ⟨Nat.zero_le _, Nat.zero_le _⟩ (fun H locs hP hS => ?_)
    replace hP : va_P (dC, dI) vwCl [(q_t, .inr (7, [.ref q_t_text, .ref q_t_told, .ref q_t_now, .ref q_t_acts, .ref q_t_slots, .ref q_t_marks, .ref q_t_foresight, .ref q_t_chances, .int t_firstAct, .int t_actCount, .int t_slotsKept, .long t_weather])), (q_t_text, .inr (5, [.ref q_t_text_letters, .int t_text_length])), (q_t_marks, .inr (2, [.ref q_t_marks_times, .ref q_t_marks_treads, .int t_marks_count])), (q_t_now, .inr (6, [.ref q_t_told, .ref q_t_now_line, .ref q_t_now_strides, .ref q_t_now_strains, .int t_now_down, .int t_now_steps])), (q_t_told, .inr (3, [.ref q_t_told_beats, .ref q_t_told_kinds, .int t_told_count, .int t_told_depth, .int t_told_noon, .int t_told_depthBehind])), (q_t_now_strains, .inl (cI, 5, .inl t_now_strains))] H := hP
    have e0 := ij1 hf
    refine W.eq (congrArg (fun z => F0 m 55 ls [.int z]) e0) ?_
    exact hret _ _ _ _ hP hS dX7_about_55
  · replace hf := iq n0 hf
    by_cases n1 : (x1 : Int32) = 1
    · replace hf := ip n1 hf
      refine lv_tableIn (off := 55) (tgt := 56) hx hb dX7_about_1 (by rw [n1]; decide) (by rw [n1]; decide) (by rw [n1]; rfl) (by decide) ?_
      refine lv_aload_n hx hb dX7_about_56 rfl (lv_at hl 0 rfl) ?_
      refine va_get (D := (dC, dI)) (ci := 7) (v := .ref q_t_now) (C := RX7) (T := TX7) (N := 12) hx hb hts hinX7 hown hK.1 hP 0 rfl rfl 2 (by decide) w_1 (fun _ h9 => h9) rfl dX7_about_57 ?_
      obtain ⟨r4, e6, hf⟩ := bd_ok hf
      refine kVi (As := []) CF (cwV 0 hts gX7_about_X6_stepNumber rfl rfl rfl (by decide +kernel) ⟨Nat.le_of_ble_eq_true rfl, Nat.le_of_ble_eq_true rfl⟩) PU_blind hP hD hS hA (va_recv hK.1 hP (ci := 6) (q0 := 3) rfl rfl) [3] (fun h1 h2 h3 => PU_pre hK h1 A h2 h3) (c_X6_stepNumber l dC dI cI cZ q_t_now q_t_told q_t_now_line q_t_now_strides q_t_now_strains _ t_now_down t_now_steps r4 e6) rfl rfl rfl rfl hl.1 rfl (Nat.le_of_ble_eq_true rfl) dX7_about_60 ⟨Nat.zero_le _, Nat.zero_le _⟩ (fun H locs hP hS => ?_)
      replace hP : va_P (dC, dI) vwCl [(q_t, .inr (7, [.ref q_t_text, .ref q_t_told, .ref q_t_now, .ref q_t_acts, .ref q_t_slots, .ref q_t_marks, .ref q_t_foresight, .ref q_t_chances, .int t_firstAct, .int t_actCount, .int t_slotsKept, .long t_weather])), (q_t_text, .inr (5, [.ref q_t_text_letters, .int t_text_length])), (q_t_marks, .inr (2, [.ref q_t_marks_times, .ref q_t_marks_treads, .int t_marks_count])), (q_t_now, .inr (6, [.ref q_t_told, .ref q_t_now_line, .ref q_t_now_strides, .ref q_t_now_strains, .int t_now_down, .int t_now_steps])), (q_t_told, .inr (3, [.ref q_t_told_beats, .ref q_t_told_kinds, .int t_told_count, .int t_told_depth, .int t_told_noon, .int t_told_depthBehind])), (q_t_now_strains, .inl (cI, 5, .inl t_now_strains))] H := hP
      have e0 := ij1 hf
      refine W.eq (congrArg (fun z => F0 m 63 ls [.int z]) e0) ?_
      exact hret _ _ _ _ hP hS dX7_about_63
    · replace hf := iq n1 hf
      by_cases n2 : (x1 : Int32) = 2
      · replace hf := ip n2 hf
        refine lv_tableIn (off := 63) (tgt := 64) hx hb dX7_about_1 (by rw [n2]; decide) (by rw [n2]; decide) (by rw [n2]; rfl) (by decide) ?_
        refine lv_aload_n hx hb dX7_about_64 rfl (lv_at hl 0 rfl) ?_
        refine va_get (D := (dC, dI)) (ci := 7) (v := .ref q_t_told) (C := RX7) (T := TX7) (N := 12) hx hb hts hinX7 hown hK.1 hP 0 rfl rfl 1 (by decide) w_0 (fun _ h9 => h9) rfl dX7_about_65 ?_
        refine lv_aload_n hx hb dX7_about_68 rfl (lv_at hl 0 rfl) ?_
        refine va_get (D := (dC, dI)) (ci := 7) (v := .ref q_t_now) (C := RX7) (T := TX7) (N := 12) hx hb hts hinX7 hown hK.1 hP 0 rfl rfl 2 (by decide) w_1 (fun _ h9 => h9) rfl dX7_about_69 ?_
        obtain ⟨r7, e9, hf⟩ := bd_ok hf
        refine kVi (As := []) CF (cwV 0 hts gX7_about_X6_stepNumber rfl rfl rfl (by decide +kernel) ⟨Nat.le_of_ble_eq_true rfl, Nat.le_of_ble_eq_true rfl⟩) PU_blind hP hD hS hA (va_recv hK.1 hP (ci := 6) (q0 := 3) rfl rfl) [3] (fun h1 h2 h3 => PU_pre hK h1 A h2 h3) (c_X6_stepNumber l dC dI cI cZ q_t_now q_t_told q_t_now_line q_t_now_strides q_t_now_strains _ t_now_down t_now_steps r7 e9) rfl rfl rfl rfl hl.1 rfl (Nat.le_of_ble_eq_true rfl) dX7_about_72 ⟨Nat.zero_le _, Nat.zero_le _⟩ (fun H locs hP hS => ?_)
        replace hP : va_P (dC, dI) vwCl [(q_t, .inr (7, [.ref q_t_text, .ref q_t_told, .ref q_t_now, .ref q_t_acts, .ref q_t_slots, .ref q_t_marks, .ref q_t_foresight, .ref q_t_chances, .int t_firstAct, .int t_actCount, .int t_slotsKept, .long t_weather])), (q_t_text, .inr (5, [.ref q_t_text_letters, .int t_text_length])), (q_t_marks, .inr (2, [.ref q_t_marks_times, .ref q_t_marks_treads, .int t_marks_count])), (q_t_now, .inr (6, [.ref q_t_told, .ref q_t_now_line, .ref q_t_now_strides, .ref q_t_now_strains, .int t_now_down, .int t_now_steps])), (q_t_told, .inr (3, [.ref q_t_told_beats, .ref q_t_told_kinds, .int t_told_count, .int t_told_depth, .int t_told_noon, .int t_told_depthBehind])), (q_t_now_strains, .inl (cI, 5, .inl t_now_strains))] H := hP
        obtain ⟨r10, e12, hf⟩ := bd_ok hf
        refine kVi (As := [.int r7]) CF (cwV 1 hts gX7_about_X3_snowAt rfl rfl rfl (by decide +kernel) ⟨Nat.le_of_ble_eq_true rfl, Nat.le_of_ble_eq_true rfl⟩) PU_blind hP hD hS hA (va_recv hK.1 hP (ci := 3) (q0 := 4) rfl rfl) [4] (fun h1 h2 h3 => PU_pre hK h1 A h2 h3) (c_X3_snowAt l dC dI cI cZ q_t_told q_t_told_beats q_t_told_kinds _ t_told_count t_told_depth t_told_noon t_told_depthBehind r7 r10 e12) rfl rfl rfl rfl hl.1 rfl (Nat.le_of_ble_eq_true rfl) dX7_about_75 ⟨Nat.zero_le _, Nat.zero_le _⟩ (fun H locs hP hS => ?_)
        replace hP : va_P (dC, dI) vwCl [(q_t, .inr (7, [.ref q_t_text, .ref q_t_told, .ref q_t_now, .ref q_t_acts, .ref q_t_slots, .ref q_t_marks, .ref q_t_foresight, .ref q_t_chances, .int t_firstAct, .int t_actCount, .int t_slotsKept, .long t_weather])), (q_t_text, .inr (5, [.ref q_t_text_letters, .int t_text_length])), (q_t_marks, .inr (2, [.ref q_t_marks_times, .ref q_t_marks_treads, .int t_marks_count])), (q_t_now, .inr (6, [.ref q_t_told, .ref q_t_now_line, .ref q_t_now_strides, .ref q_t_now_strains, .int t_now_down, .int t_now_steps])), (q_t_told, .inr (3, [.ref q_t_told_beats, .ref q_t_told_kinds, .int t_told_count, .int t_told_depth, .int t_told_noon, .int t_told_depthBehind])), (q_t_now_strains, .inl (cI, 5, .inl t_now_strains))] H := hP
        have e0 := ij1 hf
        refine W.eq (congrArg (fun z => F0 m 78 ls [.int z]) e0) ?_
        exact hret _ _ _ _ hP hS dX7_about_78
      · replace hf := iq n2 hf
        by_cases n3 : (x1 : Int32) = 3
        · replace hf := ip n3 hf
          refine lv_tableIn (off := 78) (tgt := 79) hx hb dX7_about_1 (by rw [n3]; decide) (by rw [n3]; decide) (by rw [n3]; rfl) (by decide) ?_
          refine lv_aload_n hx hb dX7_about_79 rfl (lv_at hl 0 rfl) ?_
          refine va_get (D := (dC, dI)) (ci := 7) (v := .ref q_t_now) (C := RX7) (T := TX7) (N := 12) hx hb hts hinX7 hown hK.1 hP 0 rfl rfl 2 (by decide) w_1 (fun _ h9 => h9) rfl dX7_about_80 ?_
          obtain ⟨r13, e15, hf⟩ := bd_ok hf
          refine kVi (As := []) CF (cwV 0 hts gX7_about_X6_downBits rfl rfl rfl (by decide +kernel) ⟨Nat.le_of_ble_eq_true rfl, Nat.le_of_ble_eq_true rfl⟩) PU_blind hP hD hS hA (va_recv hK.1 hP (ci := 6) (q0 := 3) rfl rfl) [3] (fun h1 h2 h3 => PU_pre hK h1 A h2 h3) (c_X6_downBits l dC dI cI cZ q_t_now q_t_told q_t_now_line q_t_now_strides q_t_now_strains _ t_now_down t_now_steps r13 e15) rfl rfl rfl rfl hl.1 rfl (Nat.le_of_ble_eq_true rfl) dX7_about_83 ⟨Nat.zero_le _, Nat.zero_le _⟩ (fun H locs hP hS => ?_)
          replace hP : va_P (dC, dI) vwCl [(q_t, .inr (7, [.ref q_t_text, .ref q_t_told, .ref q_t_now, .ref q_t_acts, .ref q_t_slots, .ref q_t_marks, .ref q_t_foresight, .ref q_t_chances, .int t_firstAct, .int t_actCount, .int t_slotsKept, .long t_weather])), (q_t_text, .inr (5, [.ref q_t_text_letters, .int t_text_length])), (q_t_marks, .inr (2, [.ref q_t_marks_times, .ref q_t_marks_treads, .int t_marks_count])), (q_t_now, .inr (6, [.ref q_t_told, .ref q_t_now_line, .ref q_t_now_strides, .ref q_t_now_strains, .int t_now_down, .int t_now_steps])), (q_t_told, .inr (3, [.ref q_t_told_beats, .ref q_t_told_kinds, .int t_told_count, .int t_told_depth, .int t_told_noon, .int t_told_depthBehind])), (q_t_now_strains, .inl (cI, 5, .inl t_now_strains))] H := hP
          have e0 := ij1 hf
          refine W.eq (congrArg (fun z => F0 m 86 ls [.int z]) e0) ?_
          exact hret _ _ _ _ hP hS dX7_about_86
        · replace hf := iq n3 hf
          by_cases n4 : (x1 : Int32) = 4
          · replace hf := ip n4 hf
            refine lv_tableIn (off := 86) (tgt := 87) hx hb dX7_about_1 (by rw [n4]; decide) (by rw [n4]; decide) (by rw [n4]; rfl) (by decide) ?_
            refine lv_aload_n hx hb dX7_about_87 rfl (lv_at hl 0 rfl) ?_
            refine va_get (D := (dC, dI)) (ci := 7) (v := .ref q_t_now) (C := RX7) (T := TX7) (N := 12) hx hb hts hinX7 hown hK.1 hP 0 rfl rfl 2 (by decide) w_1 (fun _ h9 => h9) rfl dX7_about_88 ?_
            obtain ⟨r16, e18, hf⟩ := bd_ok hf
            refine kVi (As := []) CF (cwV 0 hts gX7_about_X6_strainOfAll rfl rfl rfl (by decide +kernel) ⟨Nat.le_of_ble_eq_true rfl, Nat.le_of_ble_eq_true rfl⟩) PU_blind hP hD hS hA (va_recv hK.1 hP (ci := 6) (q0 := 3) rfl rfl) [3, 4, 5] (fun h1 h2 h3 => PU_pre hK h1 A h2 h3) (c_X6_strainOfAll l dC dI cI cZ q_t_now q_t_told q_t_now_line q_t_now_strides q_t_now_strains q_t_told_beats q_t_told_kinds _ t_now_down t_now_steps t_told_count t_told_depth t_told_noon t_told_depthBehind t_now_strains r16 e18) rfl rfl rfl rfl hl.1 rfl (Nat.le_of_ble_eq_true rfl) dX7_about_91 ⟨Nat.zero_le _, Nat.zero_le _⟩ (fun H locs hP hS => ?_)
            replace hP : va_P (dC, dI) vwCl [(q_t, .inr (7, [.ref q_t_text, .ref q_t_told, .ref q_t_now, .ref q_t_acts, .ref q_t_slots, .ref q_t_marks, .ref q_t_foresight, .ref q_t_chances, .int t_firstAct, .int t_actCount, .int t_slotsKept, .long t_weather])), (q_t_text, .inr (5, [.ref q_t_text_letters, .int t_text_length])), (q_t_marks, .inr (2, [.ref q_t_marks_times, .ref q_t_marks_treads, .int t_marks_count])), (q_t_now, .inr (6, [.ref q_t_told, .ref q_t_now_line, .ref q_t_now_strides, .ref q_t_now_strains, .int t_now_down, .int t_now_steps])), (q_t_told, .inr (3, [.ref q_t_told_beats, .ref q_t_told_kinds, .int t_told_count, .int t_told_depth, .int t_told_noon, .int t_told_depthBehind])), (q_t_now_strains, .inl (cI, 5, .inl t_now_strains))] H := hP
            have e0 := ij1 hf
            refine W.eq (congrArg (fun z => F0 m 94 ls [.int z]) e0) ?_
            exact hret _ _ _ _ hP hS dX7_about_94
          · replace hf := iq n4 hf
            by_cases n5 : (x1 : Int32) = 5
            · replace hf := ip n5 hf
              refine lv_tableIn (off := 94) (tgt := 95) hx hb dX7_about_1 (by rw [n5]; decide) (by rw [n5]; decide) (by rw [n5]; rfl) (by decide) ?_
              refine lv_aload_n hx hb dX7_about_95 rfl (lv_at hl 0 rfl) ?_
              refine va_get (D := (dC, dI)) (ci := 7) (v := .int t_actCount) (C := RX7) (T := TX7) (N := 12) hx hb hts hinX7 hown hK.1 hP 0 rfl rfl 9 (by decide) w_2 (fun _ h9 => h9) rfl dX7_about_96 ?_
              have e0 := ij1 hf
              refine W.eq (congrArg (fun z => F0 m 99 ls [.int z]) e0) ?_
              exact hret _ _ _ _ hP hS dX7_about_99
            · replace hf := iq n5 hf
              by_cases n6 : (x1 : Int32) = 6
              · replace hf := ip n6 hf
                refine lv_tableIn (off := 99) (tgt := 100) hx hb dX7_about_1 (by rw [n6]; decide) (by rw [n6]; decide) (by rw [n6]; rfl) (by decide) ?_
                refine lv_aload_n hx hb dX7_about_100 rfl (lv_at hl 0 rfl) ?_
                refine va_get (D := (dC, dI)) (ci := 7) (v := .ref q_t_marks) (C := RX7) (T := TX7) (N := 12) hx hb hts hinX7 hown hK.1 hP 0 rfl rfl 5 (by decide) w_3 (fun _ h9 => h9) rfl dX7_about_101 ?_
                obtain ⟨r19, e21, hf⟩ := bd_ok hf
                refine kVi (As := []) CF (cwV 0 hts gX7_about_X2_size rfl rfl rfl (by decide +kernel) ⟨Nat.le_of_ble_eq_true rfl, Nat.le_of_ble_eq_true rfl⟩) PU_blind hP hD hS hA (va_recv hK.1 hP (ci := 2) (q0 := 2) rfl rfl) [2] (fun h1 h2 h3 => PU_pre hK h1 A h2 h3) (c_X2_size l dC dI cI cZ q_t_marks q_t_marks_times q_t_marks_treads _ t_marks_count r19 e21) rfl rfl rfl rfl hl.1 rfl (Nat.le_of_ble_eq_true rfl) dX7_about_104 ⟨Nat.zero_le _, Nat.zero_le _⟩ (fun H locs hP hS => ?_)
                replace hP : va_P (dC, dI) vwCl [(q_t, .inr (7, [.ref q_t_text, .ref q_t_told, .ref q_t_now, .ref q_t_acts, .ref q_t_slots, .ref q_t_marks, .ref q_t_foresight, .ref q_t_chances, .int t_firstAct, .int t_actCount, .int t_slotsKept, .long t_weather])), (q_t_text, .inr (5, [.ref q_t_text_letters, .int t_text_length])), (q_t_marks, .inr (2, [.ref q_t_marks_times, .ref q_t_marks_treads, .int t_marks_count])), (q_t_now, .inr (6, [.ref q_t_told, .ref q_t_now_line, .ref q_t_now_strides, .ref q_t_now_strains, .int t_now_down, .int t_now_steps])), (q_t_told, .inr (3, [.ref q_t_told_beats, .ref q_t_told_kinds, .int t_told_count, .int t_told_depth, .int t_told_noon, .int t_told_depthBehind])), (q_t_now_strains, .inl (cI, 5, .inl t_now_strains))] H := hP
                have e0 := ij1 hf
                refine W.eq (congrArg (fun z => F0 m 107 ls [.int z]) e0) ?_
                exact hret _ _ _ _ hP hS dX7_about_107
              · replace hf := iq n6 hf
                by_cases n7 : (x1 : Int32) = 7
                · replace hf := ip n7 hf
                  refine lv_tableIn (off := 107) (tgt := 108) hx hb dX7_about_1 (by rw [n7]; decide) (by rw [n7]; decide) (by rw [n7]; rfl) (by decide) ?_
                  refine lv_aload_n hx hb dX7_about_108 rfl (lv_at hl 0 rfl) ?_
                  refine va_get (D := (dC, dI)) (ci := 7) (v := .ref q_t_text) (C := RX7) (T := TX7) (N := 12) hx hb hts hinX7 hown hK.1 hP 0 rfl rfl 0 (by decide) w_4 (fun _ h9 => h9) rfl dX7_about_109 ?_
                  obtain ⟨r22, e24, hf⟩ := bd_ok hf
                  refine kVi (As := []) CF (cwV 0 hts gX7_about_X5_size rfl rfl rfl (by decide +kernel) ⟨Nat.le_of_ble_eq_true rfl, Nat.le_of_ble_eq_true rfl⟩) PU_blind hP hD hS hA (va_recv hK.1 hP (ci := 5) (q0 := 1) rfl rfl) [1] (fun h1 h2 h3 => PU_pre hK h1 A h2 h3) (c_X5_size l dC dI cI cZ q_t_text q_t_text_letters _ t_text_length r22 e24) rfl rfl rfl rfl hl.1 rfl (Nat.le_of_ble_eq_true rfl) dX7_about_112 ⟨Nat.zero_le _, Nat.zero_le _⟩ (fun H locs hP hS => ?_)
                  replace hP : va_P (dC, dI) vwCl [(q_t, .inr (7, [.ref q_t_text, .ref q_t_told, .ref q_t_now, .ref q_t_acts, .ref q_t_slots, .ref q_t_marks, .ref q_t_foresight, .ref q_t_chances, .int t_firstAct, .int t_actCount, .int t_slotsKept, .long t_weather])), (q_t_text, .inr (5, [.ref q_t_text_letters, .int t_text_length])), (q_t_marks, .inr (2, [.ref q_t_marks_times, .ref q_t_marks_treads, .int t_marks_count])), (q_t_now, .inr (6, [.ref q_t_told, .ref q_t_now_line, .ref q_t_now_strides, .ref q_t_now_strains, .int t_now_down, .int t_now_steps])), (q_t_told, .inr (3, [.ref q_t_told_beats, .ref q_t_told_kinds, .int t_told_count, .int t_told_depth, .int t_told_noon, .int t_told_depthBehind])), (q_t_now_strains, .inl (cI, 5, .inl t_now_strains))] H := hP
                  have e0 := ij1 hf
                  refine W.eq (congrArg (fun z => F0 m 115 ls [.int z]) e0) ?_
                  exact hret _ _ _ _ hP hS dX7_about_115
                · replace hf := iq n7 hf
                  refine lv_tableOut (tgt := 116) hx hb dX7_about_1 (by have a0 : (x1 : Int32).toInt ≠ 0 := sw_ne n0; have a1 : (x1 : Int32).toInt ≠ 1 := sw_ne n1; have a2 : (x1 : Int32).toInt ≠ 2 := sw_ne n2; have a3 : (x1 : Int32).toInt ≠ 3 := sw_ne n3; have a4 : (x1 : Int32).toInt ≠ 4 := sw_ne n4; have a5 : (x1 : Int32).toInt ≠ 5 := sw_ne n5; have a6 : (x1 : Int32).toInt ≠ 6 := sw_ne n6; have a7 : (x1 : Int32).toInt ≠ 7 := sw_ne n7; omega) (by decide) ?_
                  refine lv_bipush (v := (-2)) hx hb dX7_about_116 (by decide) ?_
                  have e0 := ij1 hf
                  refine W.eq (congrArg (fun z => F0 m 118 ls [.int z]) e0) ?_
                  exact hret _ _ _ _ hP hS dX7_about_118
abbrev rm_X7_walker : Room := { frames := 4, cells := 0, slots := 0, locals := 93 }
set_option maxHeartbeats 4000000 in
set_option maxRecDepth 100000 in
theorem c_X7_walker (l : Launch) (dC : Nat → ClassId) (dI : Nat → Nat → Nat) (cI cZ : ClassId) (q_t q_t_text q_t_told q_t_now q_t_acts q_t_slots q_t_marks q_t_foresight q_t_chances q_t_told_beats q_t_told_kinds q_t_now_line q_t_now_strides q_t_now_strains : Nat) (sz : Nat) (t_firstAct : Int32) (t_actCount : Int32) (t_slotsKept : Int32) (t_weather : Int64) (t_told_count : Int32) (t_told_depth : Int32) (t_told_noon : Int32) (t_told_depthBehind : Int32) (t_now_down : Int32) (t_now_steps : Int32) (t_now_line : Nat → Int32) (t_told_kinds : Nat → Int32) (t_now_strides : Nat → Int32) (t_told_beats : Nat → Int32) (t_now_strains : Nat → Int32) (x1 : Int32) (x2 : Int32) (r_ : Int32) (hf : f_X7_walker x1 x2 t_told_count t_now_down t_now_steps t_now_line t_told_kinds t_now_strides t_told_beats t_now_strains = some r_) : Met l yX7_walker wsX7_walker rm_X7_walker (va_Pc [.ref q_t, .int x1, .int x2] (PU (dC, dI) cI cZ [(q_t, .inr (7, [.ref q_t_text, .ref q_t_told, .ref q_t_now, .ref q_t_acts, .ref q_t_slots, .ref q_t_marks, .ref q_t_foresight, .ref q_t_chances, .int t_firstAct, .int t_actCount, .int t_slotsKept, .long t_weather])), (q_t_told, .inr (3, [.ref q_t_told_beats, .ref q_t_told_kinds, .int t_told_count, .int t_told_depth, .int t_told_noon, .int t_told_depthBehind])), (q_t_now, .inr (6, [.ref q_t_told, .ref q_t_now_line, .ref q_t_now_strides, .ref q_t_now_strains, .int t_now_down, .int t_now_steps])), (q_t_now_line, .inl (cI, 5, .inl t_now_line)), (q_t_told_kinds, .inl (cI, 5, .inl t_told_kinds)), (q_t_now_strides, .inl (cI, 5, .inl t_now_strides)), (q_t_told_beats, .inl (cI, 5, .inl t_told_beats)), (q_t_now_strains, .inl (cI, 5, .inl t_now_strains))] sz)) (va_Qi (fun (r : Int32) (_ : Unit) => r = r_) (fun _ t => va_P (dC, dI) vwCl [(q_t, .inr (7, [.ref q_t_text, .ref q_t_told, .ref q_t_now, .ref q_t_acts, .ref q_t_slots, .ref q_t_marks, .ref q_t_foresight, .ref q_t_chances, .int t_firstAct, .int t_actCount, .int t_slotsKept, .long t_weather])), (q_t_told, .inr (3, [.ref q_t_told_beats, .ref q_t_told_kinds, .int t_told_count, .int t_told_depth, .int t_told_noon, .int t_told_depthBehind])), (q_t_now, .inr (6, [.ref q_t_told, .ref q_t_now_line, .ref q_t_now_strides, .ref q_t_now_strains, .int t_now_down, .int t_now_steps])), (q_t_now_line, .inl (cI, 5, .inl t_now_line)), (q_t_told_kinds, .inl (cI, 5, .inl t_told_kinds)), (q_t_now_strides, .inl (cI, 5, .inl t_now_strides)), (q_t_told_beats, .inl (cI, 5, .inl t_told_beats)), (q_t_now_strains, .inl (cI, 5, .inl t_now_strains))] t.heap) (va_A [(q_t, .inr (7, [.ref q_t_text, .ref q_t_told, .ref q_t_now, .ref q_t_acts, .ref q_t_slots, .ref q_t_marks, .ref q_t_foresight, .ref q_t_chances, .int t_firstAct, .int t_actCount, .int t_slotsKept, .long t_weather])), (q_t_told, .inr (3, [.ref q_t_told_beats, .ref q_t_told_kinds, .int t_told_count, .int t_told_depth, .int t_told_noon, .int t_told_depthBehind])), (q_t_now, .inr (6, [.ref q_t_told, .ref q_t_now_line, .ref q_t_now_strides, .ref q_t_now_strains, .int t_now_down, .int t_now_steps])), (q_t_now_line, .inl (cI, 5, .inl t_now_line)), (q_t_told_kinds, .inl (cI, 5, .inl t_told_kinds)), (q_t_now_strides, .inl (cI, 5, .inl t_now_strides)), (q_t_told_beats, .inl (cI, 5, .inl t_told_beats)), (q_t_now_strains, .inl (cI, 5, .inl t_now_strains))] sz)) 0 0 (va_A [(q_t, .inr (7, [.ref q_t_text, .ref q_t_told, .ref q_t_now, .ref q_t_acts, .ref q_t_slots, .ref q_t_marks, .ref q_t_foresight, .ref q_t_chances, .int t_firstAct, .int t_actCount, .int t_slotsKept, .long t_weather])), (q_t_told, .inr (3, [.ref q_t_told_beats, .ref q_t_told_kinds, .int t_told_count, .int t_told_depth, .int t_told_noon, .int t_told_depthBehind])), (q_t_now, .inr (6, [.ref q_t_told, .ref q_t_now_line, .ref q_t_now_strides, .ref q_t_now_strains, .int t_now_down, .int t_now_steps])), (q_t_now_line, .inl (cI, 5, .inl t_now_line)), (q_t_told_kinds, .inl (cI, 5, .inl t_told_kinds)), (q_t_now_strides, .inl (cI, 5, .inl t_now_strides)), (q_t_told_beats, .inl (cI, 5, .inl t_told_beats)), (q_t_now_strains, .inl (cI, 5, .inl t_now_strains))] sz) := by
  refine MetI (cc := cX7_walker) (maxL := 3) (by decide) rfl (Nat.le_of_ble_eq_true rfl) (fun _ h => h) ?_
  intro p e s m args below meth c A Q ls hx CF hK hA hD hP hS hl hB hAe hsz hret
  have hb := CF.2.1
  have hml := CF.2.2.1
  have hown := CF.2.2.2.1
  have hts := CF.2.2.2.2
  have hD0 := hD
  replace hl : lv_has ls 3 [(0, .ref q_t), (1, .int x1), (2, .int x2)] := hl
  have hinX7 : ∀ w ∈ wsX70, w ∈ wsX7_walker := fun _ h => List.mem_cons_of_mem _ (List.mem_append_left _ (List.mem_append_left _ (List.mem_append_right _ h)))
  have hinX3 : ∀ w ∈ wsX30, w ∈ wsX7_walker := fun _ h => List.mem_cons_of_mem _ (List.mem_append_left _ (List.mem_append_right _ h))
  have hinX6 : ∀ w ∈ wsX60, w ∈ wsX7_walker := fun _ h => List.mem_cons_of_mem _ (List.mem_append_right _ h)
  have w_0 := hts (.fieldLink RX7 19 "PassInStep" "told" "LPassInStep$Party;") (by decide +kernel)
  have w_1 := hts (.fieldLink RX7 28 "PassInStep" "now" "LPassInStep$Yard;") (by decide +kernel)
  rw [f_X7_walker] at hf
  refine lv_aload_n hx hb dX7_walker_0 rfl (lv_at hl 0 rfl) ?_
  refine va_get (D := (dC, dI)) (ci := 7) (v := .ref q_t_told) (C := RX7) (T := TX7) (N := 12) hx hb hts hinX7 hown hK.1 hP 0 rfl rfl 1 (by decide) w_0 (fun _ h9 => h9) rfl dX7_walker_1 ?_
  refine lv_iload_n hx hb dX7_walker_4 rfl (lv_at hl 1 rfl) ?_
  obtain ⟨r1, e3, hf⟩ := bd_ok hf
  refine kVi (As := [.int x1]) CF (cwV 1 hts gX7_walker_X3_has rfl rfl rfl (by decide +kernel) ⟨Nat.le_of_ble_eq_true rfl, Nat.le_of_ble_eq_true rfl⟩) PU_blind hP hD hS hA (va_recv hK.1 hP (ci := 3) (q0 := 1) rfl rfl) [1] (fun h1 h2 h3 => PU_pre hK h1 A h2 h3) (c_X3_has l dC dI cI cZ q_t_told q_t_told_beats q_t_told_kinds _ t_told_count t_told_depth t_told_noon t_told_depthBehind x1 r1 e3) rfl rfl rfl rfl hl.1 rfl (Nat.le_of_ble_eq_true rfl) dX7_walker_5 ⟨Nat.zero_le _, Nat.zero_le _⟩ (fun H locs hP hS => ?_)
  replace hP : va_P (dC, dI) vwCl [(q_t, .inr (7, [.ref q_t_text, .ref q_t_told, .ref q_t_now, .ref q_t_acts, .ref q_t_slots, .ref q_t_marks, .ref q_t_foresight, .ref q_t_chances, .int t_firstAct, .int t_actCount, .int t_slotsKept, .long t_weather])), (q_t_told, .inr (3, [.ref q_t_told_beats, .ref q_t_told_kinds, .int t_told_count, .int t_told_depth, .int t_told_noon, .int t_told_depthBehind])), (q_t_now, .inr (6, [.ref q_t_told, .ref q_t_now_line, .ref q_t_now_strides, .ref q_t_now_strains, .int t_now_down, .int t_now_steps])), (q_t_now_line, .inl (cI, 5, .inl t_now_line)), (q_t_told_kinds, .inl (cI, 5, .inl t_told_kinds)), (q_t_now_strides, .inl (cI, 5, .inl t_now_strides)), (q_t_told_beats, .inl (cI, 5, .inl t_told_beats)), (q_t_now_strains, .inl (cI, 5, .inl t_now_strains))] H := hP
  refine lv_if_ne (tgt := 13) hx hb dX7_walker_8 (by decide) (fun hc => ?_) (fun hc => ?_)
  · replace hf := iq hc hf
    refine lv_iload_n hx hb dX7_walker_13 rfl (lv_at hl 2 rfl) ?_
    by_cases n0 : (x2 : Int32) = 0
    · replace hf := ip n0 hf
      refine lv_tableIn (off := 42) (tgt := 56) hx hb dX7_walker_14 (by rw [n0]; decide) (by rw [n0]; decide) (by rw [n0]; rfl) (by decide) ?_
      refine lv_aload_n hx hb dX7_walker_56 rfl (lv_at hl 0 rfl) ?_
      refine va_get (D := (dC, dI)) (ci := 7) (v := .ref q_t_now) (C := RX7) (T := TX7) (N := 12) hx hb hts hinX7 hown hK.1 hP 0 rfl rfl 2 (by decide) w_1 (fun _ h9 => h9) rfl dX7_walker_57 ?_
      refine lv_iload_n hx hb dX7_walker_60 rfl (lv_at hl 1 rfl) ?_
      obtain ⟨r4, e6, hf⟩ := bd_ok hf
      refine kVi (As := [.int x1]) CF (cwV 1 hts gX7_walker_X6_strideOf rfl rfl rfl (by decide +kernel) ⟨Nat.le_of_ble_eq_true rfl, Nat.le_of_ble_eq_true rfl⟩) PU_blind hP hD hS hA (va_recv hK.1 hP (ci := 6) (q0 := 2) rfl rfl) [2, 5] (fun h1 h2 h3 => PU_pre hK h1 A h2 h3) (c_X6_strideOf l dC dI cI cZ q_t_now q_t_told q_t_now_line q_t_now_strides q_t_now_strains _ t_now_down t_now_steps t_now_strides x1 r4 e6) rfl rfl rfl rfl hl.1 rfl (Nat.le_of_ble_eq_true rfl) dX7_walker_61 ⟨Nat.zero_le _, Nat.zero_le _⟩ (fun H locs hP hS => ?_)
      replace hP : va_P (dC, dI) vwCl [(q_t, .inr (7, [.ref q_t_text, .ref q_t_told, .ref q_t_now, .ref q_t_acts, .ref q_t_slots, .ref q_t_marks, .ref q_t_foresight, .ref q_t_chances, .int t_firstAct, .int t_actCount, .int t_slotsKept, .long t_weather])), (q_t_told, .inr (3, [.ref q_t_told_beats, .ref q_t_told_kinds, .int t_told_count, .int t_told_depth, .int t_told_noon, .int t_told_depthBehind])), (q_t_now, .inr (6, [.ref q_t_told, .ref q_t_now_line, .ref q_t_now_strides, .ref q_t_now_strains, .int t_now_down, .int t_now_steps])), (q_t_now_line, .inl (cI, 5, .inl t_now_line)), (q_t_told_kinds, .inl (cI, 5, .inl t_told_kinds)), (q_t_now_strides, .inl (cI, 5, .inl t_now_strides)), (q_t_told_beats, .inl (cI, 5, .inl t_told_beats)), (q_t_now_strains, .inl (cI, 5, .inl t_now_strains))] H := hP
      have e0 := ij1 hf
      refine W.eq (congrArg (fun z => F0 m 64 ls [.int z]) e0) ?_
      exact hret _ _ _ _ hP hS dX7_walker_64
    · replace hf := iq n0 hf
      by_cases n1 : (x2 : Int32) = 1
      · replace hf := ip n1 hf
        refine lv_tableIn (off := 51) (tgt := 65) hx hb dX7_walker_14 (by rw [n1]; decide) (by rw [n1]; decide) (by rw [n1]; rfl) (by decide) ?_
        refine lv_aload_n hx hb dX7_walker_65 rfl (lv_at hl 0 rfl) ?_
        refine va_get (D := (dC, dI)) (ci := 7) (v := .ref q_t_told) (C := RX7) (T := TX7) (N := 12) hx hb hts hinX7 hown hK.1 hP 0 rfl rfl 1 (by decide) w_0 (fun _ h9 => h9) rfl dX7_walker_66 ?_
        refine lv_iload_n hx hb dX7_walker_69 rfl (lv_at hl 1 rfl) ?_
        obtain ⟨r7, e9, hf⟩ := bd_ok hf
        refine kVi (As := [.int x1]) CF (cwV 1 hts gX7_walker_X3_beatOf rfl rfl rfl (by decide +kernel) ⟨Nat.le_of_ble_eq_true rfl, Nat.le_of_ble_eq_true rfl⟩) PU_blind hP hD hS hA (va_recv hK.1 hP (ci := 3) (q0 := 1) rfl rfl) [1, 6] (fun h1 h2 h3 => PU_pre hK h1 A h2 h3) (c_X3_beatOf l dC dI cI cZ q_t_told q_t_told_beats q_t_told_kinds _ t_told_count t_told_depth t_told_noon t_told_depthBehind t_told_beats x1 r7 e9) rfl rfl rfl rfl hl.1 rfl (Nat.le_of_ble_eq_true rfl) dX7_walker_70 ⟨Nat.zero_le _, Nat.zero_le _⟩ (fun H locs hP hS => ?_)
        replace hP : va_P (dC, dI) vwCl [(q_t, .inr (7, [.ref q_t_text, .ref q_t_told, .ref q_t_now, .ref q_t_acts, .ref q_t_slots, .ref q_t_marks, .ref q_t_foresight, .ref q_t_chances, .int t_firstAct, .int t_actCount, .int t_slotsKept, .long t_weather])), (q_t_told, .inr (3, [.ref q_t_told_beats, .ref q_t_told_kinds, .int t_told_count, .int t_told_depth, .int t_told_noon, .int t_told_depthBehind])), (q_t_now, .inr (6, [.ref q_t_told, .ref q_t_now_line, .ref q_t_now_strides, .ref q_t_now_strains, .int t_now_down, .int t_now_steps])), (q_t_now_line, .inl (cI, 5, .inl t_now_line)), (q_t_told_kinds, .inl (cI, 5, .inl t_told_kinds)), (q_t_now_strides, .inl (cI, 5, .inl t_now_strides)), (q_t_told_beats, .inl (cI, 5, .inl t_told_beats)), (q_t_now_strains, .inl (cI, 5, .inl t_now_strains))] H := hP
        have e0 := ij1 hf
        refine W.eq (congrArg (fun z => F0 m 73 ls [.int z]) e0) ?_
        exact hret _ _ _ _ hP hS dX7_walker_73
      · replace hf := iq n1 hf
        by_cases n2 : (x2 : Int32) = 2
        · replace hf := ip n2 hf
          refine lv_tableIn (off := 60) (tgt := 74) hx hb dX7_walker_14 (by rw [n2]; decide) (by rw [n2]; decide) (by rw [n2]; rfl) (by decide) ?_
          refine lv_aload_n hx hb dX7_walker_74 rfl (lv_at hl 0 rfl) ?_
          refine va_get (D := (dC, dI)) (ci := 7) (v := .ref q_t_told) (C := RX7) (T := TX7) (N := 12) hx hb hts hinX7 hown hK.1 hP 0 rfl rfl 1 (by decide) w_0 (fun _ h9 => h9) rfl dX7_walker_75 ?_
          refine lv_iload_n hx hb dX7_walker_78 rfl (lv_at hl 1 rfl) ?_
          obtain ⟨r10, e12, hf⟩ := bd_ok hf
          refine kVi (As := [.int x1]) CF (cwV 1 hts gX7_walker_X3_kindOf rfl rfl rfl (by decide +kernel) ⟨Nat.le_of_ble_eq_true rfl, Nat.le_of_ble_eq_true rfl⟩) PU_blind hP hD hS hA (va_recv hK.1 hP (ci := 3) (q0 := 1) rfl rfl) [1, 4] (fun h1 h2 h3 => PU_pre hK h1 A h2 h3) (c_X3_kindOf l dC dI cI cZ q_t_told q_t_told_beats q_t_told_kinds _ t_told_count t_told_depth t_told_noon t_told_depthBehind t_told_kinds x1 r10 e12) rfl rfl rfl rfl hl.1 rfl (Nat.le_of_ble_eq_true rfl) dX7_walker_79 ⟨Nat.zero_le _, Nat.zero_le _⟩ (fun H locs hP hS => ?_)
          replace hP : va_P (dC, dI) vwCl [(q_t, .inr (7, [.ref q_t_text, .ref q_t_told, .ref q_t_now, .ref q_t_acts, .ref q_t_slots, .ref q_t_marks, .ref q_t_foresight, .ref q_t_chances, .int t_firstAct, .int t_actCount, .int t_slotsKept, .long t_weather])), (q_t_told, .inr (3, [.ref q_t_told_beats, .ref q_t_told_kinds, .int t_told_count, .int t_told_depth, .int t_told_noon, .int t_told_depthBehind])), (q_t_now, .inr (6, [.ref q_t_told, .ref q_t_now_line, .ref q_t_now_strides, .ref q_t_now_strains, .int t_now_down, .int t_now_steps])), (q_t_now_line, .inl (cI, 5, .inl t_now_line)), (q_t_told_kinds, .inl (cI, 5, .inl t_told_kinds)), (q_t_now_strides, .inl (cI, 5, .inl t_now_strides)), (q_t_told_beats, .inl (cI, 5, .inl t_told_beats)), (q_t_now_strains, .inl (cI, 5, .inl t_now_strains))] H := hP
          have e0 := ij1 hf
          refine W.eq (congrArg (fun z => F0 m 82 ls [.int z]) e0) ?_
          exact hret _ _ _ _ hP hS dX7_walker_82
        · replace hf := iq n2 hf
          by_cases n3 : (x2 : Int32) = 3
          · replace hf := ip n3 hf
            refine lv_tableIn (off := 69) (tgt := 83) hx hb dX7_walker_14 (by rw [n3]; decide) (by rw [n3]; decide) (by rw [n3]; rfl) (by decide) ?_
            refine lv_aload_n hx hb dX7_walker_83 rfl (lv_at hl 0 rfl) ?_
            refine va_get (D := (dC, dI)) (ci := 7) (v := .ref q_t_now) (C := RX7) (T := TX7) (N := 12) hx hb hts hinX7 hown hK.1 hP 0 rfl rfl 2 (by decide) w_1 (fun _ h9 => h9) rfl dX7_walker_84 ?_
            refine lv_iload_n hx hb dX7_walker_87 rfl (lv_at hl 1 rfl) ?_
            obtain ⟨r13, e15, hf⟩ := bd_ok hf
            refine kVi (As := [.int x1]) CF (cwV 1 hts gX7_walker_X6_strainOf rfl rfl rfl (by decide +kernel) ⟨Nat.le_of_ble_eq_true rfl, Nat.le_of_ble_eq_true rfl⟩) PU_blind hP hD hS hA (va_recv hK.1 hP (ci := 6) (q0 := 2) rfl rfl) [2, 7] (fun h1 h2 h3 => PU_pre hK h1 A h2 h3) (c_X6_strainOf l dC dI cI cZ q_t_now q_t_told q_t_now_line q_t_now_strides q_t_now_strains _ t_now_down t_now_steps t_now_strains x1 r13 e15) rfl rfl rfl rfl hl.1 rfl (Nat.le_of_ble_eq_true rfl) dX7_walker_88 ⟨Nat.zero_le _, Nat.zero_le _⟩ (fun H locs hP hS => ?_)
            replace hP : va_P (dC, dI) vwCl [(q_t, .inr (7, [.ref q_t_text, .ref q_t_told, .ref q_t_now, .ref q_t_acts, .ref q_t_slots, .ref q_t_marks, .ref q_t_foresight, .ref q_t_chances, .int t_firstAct, .int t_actCount, .int t_slotsKept, .long t_weather])), (q_t_told, .inr (3, [.ref q_t_told_beats, .ref q_t_told_kinds, .int t_told_count, .int t_told_depth, .int t_told_noon, .int t_told_depthBehind])), (q_t_now, .inr (6, [.ref q_t_told, .ref q_t_now_line, .ref q_t_now_strides, .ref q_t_now_strains, .int t_now_down, .int t_now_steps])), (q_t_now_line, .inl (cI, 5, .inl t_now_line)), (q_t_told_kinds, .inl (cI, 5, .inl t_told_kinds)), (q_t_now_strides, .inl (cI, 5, .inl t_now_strides)), (q_t_told_beats, .inl (cI, 5, .inl t_told_beats)), (q_t_now_strains, .inl (cI, 5, .inl t_now_strains))] H := hP
            have e0 := ij1 hf
            refine W.eq (congrArg (fun z => F0 m 91 ls [.int z]) e0) ?_
            exact hret _ _ _ _ hP hS dX7_walker_91
          · replace hf := iq n3 hf
            by_cases n4 : (x2 : Int32) = 4
            · replace hf := ip n4 hf
              refine lv_tableIn (off := 78) (tgt := 92) hx hb dX7_walker_14 (by rw [n4]; decide) (by rw [n4]; decide) (by rw [n4]; rfl) (by decide) ?_
              refine lv_aload_n hx hb dX7_walker_92 rfl (lv_at hl 0 rfl) ?_
              refine va_get (D := (dC, dI)) (ci := 7) (v := .ref q_t_now) (C := RX7) (T := TX7) (N := 12) hx hb hts hinX7 hown hK.1 hP 0 rfl rfl 2 (by decide) w_1 (fun _ h9 => h9) rfl dX7_walker_93 ?_
              refine lv_iload_n hx hb dX7_walker_96 rfl (lv_at hl 1 rfl) ?_
              obtain ⟨r16, e18, hf⟩ := bd_ok hf
              refine kVi (As := [.int x1]) CF (cwV 1 hts gX7_walker_X6_isDown rfl rfl rfl (by decide +kernel) ⟨Nat.le_of_ble_eq_true rfl, Nat.le_of_ble_eq_true rfl⟩) PU_blind hP hD hS hA (va_recv hK.1 hP (ci := 6) (q0 := 2) rfl rfl) [2] (fun h1 h2 h3 => PU_pre hK h1 A h2 h3) (c_X6_isDown l dC dI cI cZ q_t_now q_t_told q_t_now_line q_t_now_strides q_t_now_strains _ t_now_down t_now_steps x1 r16 e18) rfl rfl rfl rfl hl.1 rfl (Nat.le_of_ble_eq_true rfl) dX7_walker_97 ⟨Nat.zero_le _, Nat.zero_le _⟩ (fun H locs hP hS => ?_)
              replace hP : va_P (dC, dI) vwCl [(q_t, .inr (7, [.ref q_t_text, .ref q_t_told, .ref q_t_now, .ref q_t_acts, .ref q_t_slots, .ref q_t_marks, .ref q_t_foresight, .ref q_t_chances, .int t_firstAct, .int t_actCount, .int t_slotsKept, .long t_weather])), (q_t_told, .inr (3, [.ref q_t_told_beats, .ref q_t_told_kinds, .int t_told_count, .int t_told_depth, .int t_told_noon, .int t_told_depthBehind])), (q_t_now, .inr (6, [.ref q_t_told, .ref q_t_now_line, .ref q_t_now_strides, .ref q_t_now_strains, .int t_now_down, .int t_now_steps])), (q_t_now_line, .inl (cI, 5, .inl t_now_line)), (q_t_told_kinds, .inl (cI, 5, .inl t_told_kinds)), (q_t_now_strides, .inl (cI, 5, .inl t_now_strides)), (q_t_told_beats, .inl (cI, 5, .inl t_told_beats)), (q_t_now_strains, .inl (cI, 5, .inl t_now_strains))] H := hP
              refine lv_if_eq (tgt := 107) hx hb dX7_walker_100 (by decide) (fun hc => ?_) (fun hc => ?_)
              · replace hf := ip hc hf
                refine lv_iconst (v := 0) hx hb dX7_walker_107 (by decide) ?_
                have e0 := ij1 hf
                refine W.eq (congrArg (fun z => F0 m 108 ls [.int z]) e0) ?_
                exact hret _ _ _ _ hP hS dX7_walker_108
              · replace hf := iq hc hf
                refine lv_iconst (v := 1) hx hb dX7_walker_103 (by decide) ?_
                refine lv_goto (tgt := 108) hx hb dX7_walker_104 (by decide) ?_
                have e0 := ij1 hf
                refine W.eq (congrArg (fun z => F0 m 108 ls [.int z]) e0) ?_
                exact hret _ _ _ _ hP hS dX7_walker_108
            · replace hf := iq n4 hf
              by_cases n5 : (x2 : Int32) = 5
              · replace hf := ip n5 hf
                refine lv_tableIn (off := 95) (tgt := 109) hx hb dX7_walker_14 (by rw [n5]; decide) (by rw [n5]; decide) (by rw [n5]; rfl) (by decide) ?_
                refine lv_aload_n hx hb dX7_walker_109 rfl (lv_at hl 0 rfl) ?_
                refine va_get (D := (dC, dI)) (ci := 7) (v := .ref q_t_now) (C := RX7) (T := TX7) (N := 12) hx hb hts hinX7 hown hK.1 hP 0 rfl rfl 2 (by decide) w_1 (fun _ h9 => h9) rfl dX7_walker_110 ?_
                refine lv_iload_n hx hb dX7_walker_113 rfl (lv_at hl 1 rfl) ?_
                obtain ⟨r19, e21, hf⟩ := bd_ok hf
                refine kVi (As := [.int x1]) CF (cwV 1 hts gX7_walker_X6_placeOf rfl rfl rfl (by decide +kernel) ⟨Nat.le_of_ble_eq_true rfl, Nat.le_of_ble_eq_true rfl⟩) PU_blind hP hD hS hA (va_recv hK.1 hP (ci := 6) (q0 := 2) rfl rfl) [2, 1, 3] (fun h1 h2 h3 => PU_pre hK h1 A h2 h3) (c_X6_placeOf l dC dI cI cZ q_t_now q_t_told q_t_now_line q_t_now_strides q_t_now_strains q_t_told_beats q_t_told_kinds _ t_now_down t_now_steps t_told_count t_told_depth t_told_noon t_told_depthBehind t_now_line x1 r19 e21) rfl rfl rfl rfl hl.1 rfl (Nat.le_of_ble_eq_true rfl) dX7_walker_114 ⟨Nat.zero_le _, Nat.zero_le _⟩ (fun H locs hP hS => ?_)
                replace hP : va_P (dC, dI) vwCl [(q_t, .inr (7, [.ref q_t_text, .ref q_t_told, .ref q_t_now, .ref q_t_acts, .ref q_t_slots, .ref q_t_marks, .ref q_t_foresight, .ref q_t_chances, .int t_firstAct, .int t_actCount, .int t_slotsKept, .long t_weather])), (q_t_told, .inr (3, [.ref q_t_told_beats, .ref q_t_told_kinds, .int t_told_count, .int t_told_depth, .int t_told_noon, .int t_told_depthBehind])), (q_t_now, .inr (6, [.ref q_t_told, .ref q_t_now_line, .ref q_t_now_strides, .ref q_t_now_strains, .int t_now_down, .int t_now_steps])), (q_t_now_line, .inl (cI, 5, .inl t_now_line)), (q_t_told_kinds, .inl (cI, 5, .inl t_told_kinds)), (q_t_now_strides, .inl (cI, 5, .inl t_now_strides)), (q_t_told_beats, .inl (cI, 5, .inl t_told_beats)), (q_t_now_strains, .inl (cI, 5, .inl t_now_strains))] H := hP
                have e0 := ij1 hf
                refine W.eq (congrArg (fun z => F0 m 117 ls [.int z]) e0) ?_
                exact hret _ _ _ _ hP hS dX7_walker_117
              · replace hf := iq n5 hf
                by_cases n6 : (x2 : Int32) = 6
                · replace hf := ip n6 hf
                  refine lv_tableIn (off := 104) (tgt := 118) hx hb dX7_walker_14 (by rw [n6]; decide) (by rw [n6]; decide) (by rw [n6]; rfl) (by decide) ?_
                  refine lv_aload_n hx hb dX7_walker_118 rfl (lv_at hl 0 rfl) ?_
                  refine va_get (D := (dC, dI)) (ci := 7) (v := .ref q_t_now) (C := RX7) (T := TX7) (N := 12) hx hb hts hinX7 hown hK.1 hP 0 rfl rfl 2 (by decide) w_1 (fun _ h9 => h9) rfl dX7_walker_119 ?_
                  refine lv_iload_n hx hb dX7_walker_122 rfl (lv_at hl 1 rfl) ?_
                  obtain ⟨r22, e24, hf⟩ := bd_ok hf
                  refine kVi (As := [.int x1]) CF (cwV 1 hts gX7_walker_X6_treadOf rfl rfl rfl (by decide +kernel) ⟨Nat.le_of_ble_eq_true rfl, Nat.le_of_ble_eq_true rfl⟩) PU_blind hP hD hS hA (va_recv hK.1 hP (ci := 6) (q0 := 2) rfl rfl) [2, 1, 3, 4, 5, 6] (fun h1 h2 h3 => PU_pre hK h1 A h2 h3) (c_X6_treadOf l dC dI cI cZ q_t_now q_t_told q_t_now_line q_t_now_strides q_t_now_strains q_t_told_beats q_t_told_kinds _ t_now_down t_now_steps t_told_count t_told_depth t_told_noon t_told_depthBehind t_now_line t_told_kinds t_now_strides t_told_beats x1 r22 e24) rfl rfl rfl rfl hl.1 rfl (Nat.le_of_ble_eq_true rfl) dX7_walker_123 ⟨Nat.zero_le _, Nat.zero_le _⟩ (fun H locs hP hS => ?_)
                  replace hP : va_P (dC, dI) vwCl [(q_t, .inr (7, [.ref q_t_text, .ref q_t_told, .ref q_t_now, .ref q_t_acts, .ref q_t_slots, .ref q_t_marks, .ref q_t_foresight, .ref q_t_chances, .int t_firstAct, .int t_actCount, .int t_slotsKept, .long t_weather])), (q_t_told, .inr (3, [.ref q_t_told_beats, .ref q_t_told_kinds, .int t_told_count, .int t_told_depth, .int t_told_noon, .int t_told_depthBehind])), (q_t_now, .inr (6, [.ref q_t_told, .ref q_t_now_line, .ref q_t_now_strides, .ref q_t_now_strains, .int t_now_down, .int t_now_steps])), (q_t_now_line, .inl (cI, 5, .inl t_now_line)), (q_t_told_kinds, .inl (cI, 5, .inl t_told_kinds)), (q_t_now_strides, .inl (cI, 5, .inl t_now_strides)), (q_t_told_beats, .inl (cI, 5, .inl t_told_beats)), (q_t_now_strains, .inl (cI, 5, .inl t_now_strains))] H := hP
                  have e0 := ij1 hf
                  refine W.eq (congrArg (fun z => F0 m 126 ls [.int z]) e0) ?_
                  exact hret _ _ _ _ hP hS dX7_walker_126
                · replace hf := iq n6 hf
                  refine lv_tableOut (tgt := 127) hx hb dX7_walker_14 (by have a0 : (x2 : Int32).toInt ≠ 0 := sw_ne n0; have a1 : (x2 : Int32).toInt ≠ 1 := sw_ne n1; have a2 : (x2 : Int32).toInt ≠ 2 := sw_ne n2; have a3 : (x2 : Int32).toInt ≠ 3 := sw_ne n3; have a4 : (x2 : Int32).toInt ≠ 4 := sw_ne n4; have a5 : (x2 : Int32).toInt ≠ 5 := sw_ne n5; have a6 : (x2 : Int32).toInt ≠ 6 := sw_ne n6; omega) (by decide) ?_
                  refine lv_bipush (v := (-2)) hx hb dX7_walker_127 (by decide) ?_
                  have e0 := ij1 hf
                  refine W.eq (congrArg (fun z => F0 m 129 ls [.int z]) e0) ?_
                  exact hret _ _ _ _ hP hS dX7_walker_129
  · replace hf := ip hc hf
    refine lv_iconst (v := (-1)) hx hb dX7_walker_11 (by decide) ?_
    have e0 := ij1 hf
    refine W.eq (congrArg (fun z => F0 m 12 ls [.int z]) e0) ?_
    exact hret _ _ _ _ hP hS dX7_walker_12
