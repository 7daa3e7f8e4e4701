-- X8_walker X8_line X8_note X8_step X8_goChange X8_change X8_canDrill X8_goDrill X8_drill X8_goRescue
abbrev rm_X8_walker : Room := { frames := 4, cells := 0, slots := 0, locals := 94 }
set_option maxHeartbeats 4000000 in
set_option maxRecDepth 100000 in
theorem c_X8_walker (l : Launch) (dC : Nat → ClassId) (dI : Nat → Nat → Nat) (cI cZ : ClassId) (q_t q_t_text q_t_beat q_t_kind q_t_readSnow q_t_readWalker q_t_page q_t_trial q_t_book q_t_kept q_t_isKept q_t_markStep q_t_markTread q_t_order q_t_gains q_t_value : Nat) (sz : Nat) (t_thrown : Int32) (t_textSize : Int32) (t_place : Int32) (t_depth : Int32) (t_noon : Int32) (t_later : Int32) (t_walkers : Int32) (t_readWalkers : Int32) (t_acts : Int32) (t_marks : Int32) (t_seed : Int64) (t_stumbled : Int32) (t_lineMany : Int32) (t_lineOrder : Int32) (t_whoseMany : Int32) (t_whoseFirst : Int32) (t_restMany : Int32) (t_restFirst : Int32) (t_page : Nat → Int32) (t_kind : Nat → Int32) (t_beat : Nat → Int32) (x1 : Int32) (x2 : Int32) (r_ : Int32) (o_t_thrown : Int32) (o_t_stumbled : Int32) (hf : f_X8_walker x1 x2 t_thrown t_walkers t_stumbled t_page t_kind t_beat = some (r_, o_t_thrown, o_t_stumbled)) : Met l yX8_walker wsX8_walker rm_X8_walker (va_Pc [.ref q_t, .int x1, .int x2] (PU (dC, dI) cI cZ [(q_t, .inr (8, [.int t_thrown, .ref q_t_text, .int t_textSize, .int t_place, .int t_depth, .int t_noon, .int t_later, .int t_walkers, .ref q_t_beat, .ref q_t_kind, .ref q_t_readSnow, .int t_readWalkers, .ref q_t_readWalker, .ref q_t_page, .ref q_t_trial, .ref q_t_book, .int t_acts, .ref q_t_kept, .ref q_t_isKept, .int t_marks, .ref q_t_markStep, .ref q_t_markTread, .long t_seed, .int t_stumbled, .ref q_t_order, .int t_lineMany, .int t_lineOrder, .int t_whoseMany, .int t_whoseFirst, .int t_restMany, .int t_restFirst, .ref q_t_gains, .ref q_t_value])), (q_t_page, .inl (cI, 17, .inl t_page)), (q_t_kind, .inl (cI, 5, .inl t_kind)), (q_t_beat, .inl (cI, 5, .inl t_beat))] sz)) (va_Qi (fun (r : Int32) (_ : Unit) => r = r_) (fun _ t => va_P (dC, dI) vwCl [(q_t, .inr (8, [.int o_t_thrown, .ref q_t_text, .int t_textSize, .int t_place, .int t_depth, .int t_noon, .int t_later, .int t_walkers, .ref q_t_beat, .ref q_t_kind, .ref q_t_readSnow, .int t_readWalkers, .ref q_t_readWalker, .ref q_t_page, .ref q_t_trial, .ref q_t_book, .int t_acts, .ref q_t_kept, .ref q_t_isKept, .int t_marks, .ref q_t_markStep, .ref q_t_markTread, .long t_seed, .int o_t_stumbled, .ref q_t_order, .int t_lineMany, .int t_lineOrder, .int t_whoseMany, .int t_whoseFirst, .int t_restMany, .int t_restFirst, .ref q_t_gains, .ref q_t_value])), (q_t_page, .inl (cI, 17, .inl t_page)), (q_t_kind, .inl (cI, 5, .inl t_kind)), (q_t_beat, .inl (cI, 5, .inl t_beat))] t.heap) (va_A [(q_t, .inr (8, [.int t_thrown, .ref q_t_text, .int t_textSize, .int t_place, .int t_depth, .int t_noon, .int t_later, .int t_walkers, .ref q_t_beat, .ref q_t_kind, .ref q_t_readSnow, .int t_readWalkers, .ref q_t_readWalker, .ref q_t_page, .ref q_t_trial, .ref q_t_book, .int t_acts, .ref q_t_kept, .ref q_t_isKept, .int t_marks, .ref q_t_markStep, .ref q_t_markTread, .long t_seed, .int t_stumbled, .ref q_t_order, .int t_lineMany, .int t_lineOrder, .int t_whoseMany, .int t_whoseFirst, .int t_restMany, .int t_restFirst, .ref q_t_gains, .ref q_t_value])), (q_t_page, .inl (cI, 17, .inl t_page)), (q_t_kind, .inl (cI, 5, .inl t_kind)), (q_t_beat, .inl (cI, 5, .inl t_beat))] sz)) 0 0 (va_A [(q_t, .inr (8, [.int t_thrown, .ref q_t_text, .int t_textSize, .int t_place, .int t_depth, .int t_noon, .int t_later, .int t_walkers, .ref q_t_beat, .ref q_t_kind, .ref q_t_readSnow, .int t_readWalkers, .ref q_t_readWalker, .ref q_t_page, .ref q_t_trial, .ref q_t_book, .int t_acts, .ref q_t_kept, .ref q_t_isKept, .int t_marks, .ref q_t_markStep, .ref q_t_markTread, .long t_seed, .int t_stumbled, .ref q_t_order, .int t_lineMany, .int t_lineOrder, .int t_whoseMany, .int t_whoseFirst, .int t_restMany, .int t_restFirst, .ref q_t_gains, .ref q_t_value])), (q_t_page, .inl (cI, 17, .inl t_page)), (q_t_kind, .inl (cI, 5, .inl t_kind)), (q_t_beat, .inl (cI, 5, .inl t_beat))] sz) := by
  refine MetI (cc := cX8_walker) (maxL := 3) (by decide) rfl (Nat.le_of_ble_eq_true rfl) (fun _ h => h) ?_
  intro p e s m args below meth c A Q ls hx CF hK hA hD hP hS hl hB hAe hsz hret
  have hb := CF.2.1
  have hml := CF.2.2.1
  have hown := CF.2.2.2.1
  have hts := CF.2.2.2.2
  have hD0 := hD
  replace hl : lv_has ls 3 [(0, .ref q_t), (1, .int x1), (2, .int x2)] := hl
  have hinX8 : ∀ w ∈ wsX80, w ∈ wsX8_walker := fun _ h => List.mem_cons_of_mem _ (List.mem_append_right _ h)
  have w_0 := hts (.fieldLink RX8 63 "PassInStepModel" "thrown" "I") (by decide +kernel)
  have w_1 := hts (.fieldLink RX8 110 "PassInStepModel" "stumbled" "I") (by decide +kernel)
  have w_2 := hts (.fieldLink RX8 32 "PassInStepModel" "page" "[I") (by decide +kernel)
  have w_3 := hts (.fieldLink RX8 20 "PassInStepModel" "beat" "[I") (by decide +kernel)
  have w_4 := hts (.fieldLink RX8 23 "PassInStepModel" "kind" "[I") (by decide +kernel)
  rw [f_X8_walker] at hf
  refine lv_aload_n hx hb dX8_walker_0 rfl (lv_at hl 0 rfl) ?_
  refine lv_iconst (v := 0) hx hb dX8_walker_1 (by decide) ?_
  refine va_put (D := (dC, dI)) (ci := 8) (v := .int 0) (ty := .int) (C := RX8) (T := TX8) (N := 33) hx hb hts hinX8 tyX8 tyX8_ok nmX8 hown hK.1 hP hD hS 0 rfl rfl 0 (by decide) w_0 (fun _ h9 => h9) rfl (by decide +kernel) rfl rfl (Nat.le_of_ble_eq_true rfl) dX8_walker_2 (fun H locs hP hD hS => ?_)
  replace hP : va_P (dC, dI) vwCl [(q_t, .inr (8, [.int 0, .ref q_t_text, .int t_textSize, .int t_place, .int t_depth, .int t_noon, .int t_later, .int t_walkers, .ref q_t_beat, .ref q_t_kind, .ref q_t_readSnow, .int t_readWalkers, .ref q_t_readWalker, .ref q_t_page, .ref q_t_trial, .ref q_t_book, .int t_acts, .ref q_t_kept, .ref q_t_isKept, .int t_marks, .ref q_t_markStep, .ref q_t_markTread, .long t_seed, .int t_stumbled, .ref q_t_order, .int t_lineMany, .int t_lineOrder, .int t_whoseMany, .int t_whoseFirst, .int t_restMany, .int t_restFirst, .ref q_t_gains, .ref q_t_value])), (q_t_page, .inl (cI, 17, .inl t_page)), (q_t_kind, .inl (cI, 5, .inl t_kind)), (q_t_beat, .inl (cI, 5, .inl t_beat))] H := hP
  replace hD : va_D A [(q_t, .inr (8, [.int 0, .ref q_t_text, .int t_textSize, .int t_place, .int t_depth, .int t_noon, .int t_later, .int t_walkers, .ref q_t_beat, .ref q_t_kind, .ref q_t_readSnow, .int t_readWalkers, .ref q_t_readWalker, .ref q_t_page, .ref q_t_trial, .ref q_t_book, .int t_acts, .ref q_t_kept, .ref q_t_isKept, .int t_marks, .ref q_t_markStep, .ref q_t_markTread, .long t_seed, .int t_stumbled, .ref q_t_order, .int t_lineMany, .int t_lineOrder, .int t_whoseMany, .int t_whoseFirst, .int t_restMany, .int t_restFirst, .ref q_t_gains, .ref q_t_value])), (q_t_page, .inl (cI, 17, .inl t_page)), (q_t_kind, .inl (cI, 5, .inl t_kind)), (q_t_beat, .inl (cI, 5, .inl t_beat))] := hD
  refine lv_aload_n hx hb dX8_walker_5 rfl (lv_at hl 0 rfl) ?_
  refine lv_iload_n hx hb dX8_walker_6 rfl (lv_at hl 1 rfl) ?_
  obtain ⟨r1, e3, hf⟩ := bd_ok hf
  refine kVi (As := [.int x1]) CF (cwV 1 hts gX8_walker_X8_noWalker rfl rfl rfl (by decide +kernel) ⟨Nat.le_of_ble_eq_true rfl, Nat.le_of_ble_eq_true rfl⟩) PU_blind hP hD hS hA (va_recv hK.1 hP (ci := 8) (q0 := 0) rfl rfl) [0] (fun h1 h2 h3 => PU_pre hK h1 A h2 h3) (c_X8_noWalker l dC dI cI cZ q_t q_t_text q_t_beat q_t_kind q_t_readSnow q_t_readWalker q_t_page q_t_trial q_t_book q_t_kept q_t_isKept q_t_markStep q_t_markTread q_t_order q_t_gains q_t_value _ 0 t_textSize t_place t_depth t_noon t_later t_walkers t_readWalkers t_acts t_marks t_seed t_stumbled t_lineMany t_lineOrder t_whoseMany t_whoseFirst t_restMany t_restFirst x1 r1 e3) rfl rfl rfl rfl hl.1 rfl (Nat.le_of_ble_eq_true rfl) dX8_walker_7 ⟨Nat.zero_le _, Nat.zero_le _⟩ (fun H locs hP hS => ?_)
  replace hP : va_P (dC, dI) vwCl [(q_t, .inr (8, [.int 0, .ref q_t_text, .int t_textSize, .int t_place, .int t_depth, .int t_noon, .int t_later, .int t_walkers, .ref q_t_beat, .ref q_t_kind, .ref q_t_readSnow, .int t_readWalkers, .ref q_t_readWalker, .ref q_t_page, .ref q_t_trial, .ref q_t_book, .int t_acts, .ref q_t_kept, .ref q_t_isKept, .int t_marks, .ref q_t_markStep, .ref q_t_markTread, .long t_seed, .int t_stumbled, .ref q_t_order, .int t_lineMany, .int t_lineOrder, .int t_whoseMany, .int t_whoseFirst, .int t_restMany, .int t_restFirst, .ref q_t_gains, .ref q_t_value])), (q_t_page, .inl (cI, 17, .inl t_page)), (q_t_kind, .inl (cI, 5, .inl t_kind)), (q_t_beat, .inl (cI, 5, .inl t_beat))] H := hP
  refine lv_if_eq (tgt := 15) hx hb dX8_walker_10 (by decide) (fun hc => ?_) (fun hc => ?_)
  · replace hf := ip hc hf
    refine lv_aload_n hx hb dX8_walker_15 rfl (lv_at hl 0 rfl) ?_
    refine lv_iconst (v := 0) hx hb dX8_walker_16 (by decide) ?_
    refine va_put (D := (dC, dI)) (ci := 8) (v := .int 0) (ty := .int) (C := RX8) (T := TX8) (N := 33) hx hb hts hinX8 tyX8 tyX8_ok nmX8 hown hK.1 hP hD hS 0 rfl rfl 23 (by decide) w_1 (fun _ h9 => h9) rfl (by decide +kernel) rfl rfl (Nat.le_of_ble_eq_true rfl) dX8_walker_17 (fun H locs hP hD hS => ?_)
    replace hP : va_P (dC, dI) vwCl [(q_t, .inr (8, [.int 0, .ref q_t_text, .int t_textSize, .int t_place, .int t_depth, .int t_noon, .int t_later, .int t_walkers, .ref q_t_beat, .ref q_t_kind, .ref q_t_readSnow, .int t_readWalkers, .ref q_t_readWalker, .ref q_t_page, .ref q_t_trial, .ref q_t_book, .int t_acts, .ref q_t_kept, .ref q_t_isKept, .int t_marks, .ref q_t_markStep, .ref q_t_markTread, .long t_seed, .int 0, .ref q_t_order, .int t_lineMany, .int t_lineOrder, .int t_whoseMany, .int t_whoseFirst, .int t_restMany, .int t_restFirst, .ref q_t_gains, .ref q_t_value])), (q_t_page, .inl (cI, 17, .inl t_page)), (q_t_kind, .inl (cI, 5, .inl t_kind)), (q_t_beat, .inl (cI, 5, .inl t_beat))] H := hP
    replace hD : va_D A [(q_t, .inr (8, [.int 0, .ref q_t_text, .int t_textSize, .int t_place, .int t_depth, .int t_noon, .int t_later, .int t_walkers, .ref q_t_beat, .ref q_t_kind, .ref q_t_readSnow, .int t_readWalkers, .ref q_t_readWalker, .ref q_t_page, .ref q_t_trial, .ref q_t_book, .int t_acts, .ref q_t_kept, .ref q_t_isKept, .int t_marks, .ref q_t_markStep, .ref q_t_markTread, .long t_seed, .int 0, .ref q_t_order, .int t_lineMany, .int t_lineOrder, .int t_whoseMany, .int t_whoseFirst, .int t_restMany, .int t_restFirst, .ref q_t_gains, .ref q_t_value])), (q_t_page, .inl (cI, 17, .inl t_page)), (q_t_kind, .inl (cI, 5, .inl t_kind)), (q_t_beat, .inl (cI, 5, .inl t_beat))] := hD
    refine lv_iload_n hx hb dX8_walker_20 rfl (lv_at hl 2 rfl) ?_
    by_cases n0 : (x2 : Int32) = 0
    · replace hf := ip n0 hf
      refine lv_tableIn (off := 43) (tgt := 64) hx hb dX8_walker_21 (by rw [n0]; decide) (by rw [n0]; decide) (by rw [n0]; rfl) (by decide) ?_
      refine lv_aload_n hx hb dX8_walker_64 rfl (lv_at hl 0 rfl) ?_
      refine va_get (D := (dC, dI)) (ci := 8) (v := .ref q_t_page) (C := RX8) (T := TX8) (N := 33) hx hb hts hinX8 hown hK.1 hP 0 rfl rfl 13 (by decide) w_2 (fun _ h9 => h9) rfl dX8_walker_65 ?_
      refine lv_iconst (v := 5) hx hb dX8_walker_68 (by decide) ?_
      refine lv_iload_n hx hb dX8_walker_69 rfl (lv_at hl 1 rfl) ?_
      refine lv_iadd hx hb dX8_walker_70 ?_
      refine kald hx hb hK.1 hP 1 0 rfl rfl dX8_walker_71 hf (fun v4 hf => ?_)
      obtain ⟨e0, hf⟩ := ij2 hf
      obtain ⟨e1, hf⟩ := ijc hf
      have e2 := hf
      refine W.eq (congrArg (fun z => F0 m 72 ls [.int z]) e0) ?_
      exact hret _ _ _ _ (by rw [← e1, ← e2]; exact hP) hS dX8_walker_72
    · replace hf := iq n0 hf
      by_cases n1 : (x2 : Int32) = 1
      · replace hf := ip n1 hf
        refine lv_tableIn (off := 52) (tgt := 73) hx hb dX8_walker_21 (by rw [n1]; decide) (by rw [n1]; decide) (by rw [n1]; rfl) (by decide) ?_
        refine lv_aload_n hx hb dX8_walker_73 rfl (lv_at hl 0 rfl) ?_
        refine va_get (D := (dC, dI)) (ci := 8) (v := .ref q_t_beat) (C := RX8) (T := TX8) (N := 33) hx hb hts hinX8 hown hK.1 hP 0 rfl rfl 8 (by decide) w_3 (fun _ h9 => h9) rfl dX8_walker_74 ?_
        refine lv_iload_n hx hb dX8_walker_77 rfl (lv_at hl 1 rfl) ?_
        refine kald hx hb hK.1 hP 3 0 rfl rfl dX8_walker_78 hf (fun v5 hf => ?_)
        obtain ⟨e0, hf⟩ := ij2 hf
        obtain ⟨e1, hf⟩ := ijc hf
        have e2 := hf
        refine W.eq (congrArg (fun z => F0 m 79 ls [.int z]) e0) ?_
        exact hret _ _ _ _ (by rw [← e1, ← e2]; exact hP) hS dX8_walker_79
      · replace hf := iq n1 hf
        by_cases n2 : (x2 : Int32) = 2
        · replace hf := ip n2 hf
          refine lv_tableIn (off := 59) (tgt := 80) hx hb dX8_walker_21 (by rw [n2]; decide) (by rw [n2]; decide) (by rw [n2]; rfl) (by decide) ?_
          refine lv_aload_n hx hb dX8_walker_80 rfl (lv_at hl 0 rfl) ?_
          refine va_get (D := (dC, dI)) (ci := 8) (v := .ref q_t_kind) (C := RX8) (T := TX8) (N := 33) hx hb hts hinX8 hown hK.1 hP 0 rfl rfl 9 (by decide) w_4 (fun _ h9 => h9) rfl dX8_walker_81 ?_
          refine lv_iload_n hx hb dX8_walker_84 rfl (lv_at hl 1 rfl) ?_
          refine kald hx hb hK.1 hP 2 0 rfl rfl dX8_walker_85 hf (fun v6 hf => ?_)
          obtain ⟨e0, hf⟩ := ij2 hf
          obtain ⟨e1, hf⟩ := ijc hf
          have e2 := hf
          refine W.eq (congrArg (fun z => F0 m 86 ls [.int z]) e0) ?_
          exact hret _ _ _ _ (by rw [← e1, ← e2]; exact hP) hS dX8_walker_86
        · replace hf := iq n2 hf
          by_cases n3 : (x2 : Int32) = 3
          · replace hf := ip n3 hf
            refine lv_tableIn (off := 66) (tgt := 87) hx hb dX8_walker_21 (by rw [n3]; decide) (by rw [n3]; decide) (by rw [n3]; rfl) (by decide) ?_
            refine lv_aload_n hx hb dX8_walker_87 rfl (lv_at hl 0 rfl) ?_
            refine va_get (D := (dC, dI)) (ci := 8) (v := .ref q_t_page) (C := RX8) (T := TX8) (N := 33) hx hb hts hinX8 hown hK.1 hP 0 rfl rfl 13 (by decide) w_2 (fun _ h9 => h9) rfl dX8_walker_88 ?_
            refine lv_bipush (v := 10) hx hb dX8_walker_91 (by decide) ?_
            refine lv_iload_n hx hb dX8_walker_93 rfl (lv_at hl 1 rfl) ?_
            refine lv_iadd hx hb dX8_walker_94 ?_
            refine kald hx hb hK.1 hP 1 0 rfl rfl dX8_walker_95 hf (fun v7 hf => ?_)
            obtain ⟨e0, hf⟩ := ij2 hf
            obtain ⟨e1, hf⟩ := ijc hf
            have e2 := hf
            refine W.eq (congrArg (fun z => F0 m 96 ls [.int z]) e0) ?_
            exact hret _ _ _ _ (by rw [← e1, ← e2]; exact hP) hS dX8_walker_96
          · replace hf := iq n3 hf
            by_cases n4 : (x2 : Int32) = 4
            · replace hf := ip n4 hf
              refine lv_tableIn (off := 76) (tgt := 97) hx hb dX8_walker_21 (by rw [n4]; decide) (by rw [n4]; decide) (by rw [n4]; rfl) (by decide) ?_
              refine lv_aload_n hx hb dX8_walker_97 rfl (lv_at hl 0 rfl) ?_
              refine va_get (D := (dC, dI)) (ci := 8) (v := .ref q_t_page) (C := RX8) (T := TX8) (N := 33) hx hb hts hinX8 hown hK.1 hP 0 rfl rfl 13 (by decide) w_2 (fun _ h9 => h9) rfl dX8_walker_98 ?_
              refine lv_bipush (v := 15) hx hb dX8_walker_101 (by decide) ?_
              refine kald hx hb hK.1 hP 1 0 rfl rfl dX8_walker_103 hf (fun v8 hf => ?_)
              refine lv_iload_n hx hb dX8_walker_104 rfl (lv_at hl 1 rfl) ?_
              refine lv_ishr hx hb dX8_walker_105 ?_
              refine lv_iconst (v := 1) hx hb dX8_walker_106 (by decide) ?_
              refine lv_iand hx hb dX8_walker_107 ?_
              obtain ⟨e0, hf⟩ := ij2 hf
              obtain ⟨e1, hf⟩ := ijc hf
              have e2 := hf
              refine W.eq (congrArg (fun z => F0 m 108 ls [.int z]) e0) ?_
              exact hret _ _ _ _ (by rw [← e1, ← e2]; exact hP) hS dX8_walker_108
            · replace hf := iq n4 hf
              by_cases n5 : (x2 : Int32) = 5
              · replace hf := ip n5 hf
                refine lv_tableIn (off := 88) (tgt := 109) hx hb dX8_walker_21 (by rw [n5]; decide) (by rw [n5]; decide) (by rw [n5]; rfl) (by decide) ?_
                refine lv_aload_n hx hb dX8_walker_109 rfl (lv_at hl 0 rfl) ?_
                refine va_get (D := (dC, dI)) (ci := 8) (v := .ref q_t_page) (C := RX8) (T := TX8) (N := 33) hx hb hts hinX8 hown hK.1 hP 0 rfl rfl 13 (by decide) w_2 (fun _ h9 => h9) rfl dX8_walker_110 ?_
                refine lv_iload_n hx hb dX8_walker_113 rfl (lv_at hl 1 rfl) ?_
                obtain ⟨r9, e11, hf⟩ := bd_ok hf
                refine kSi (As := [.ref q_t_page, .int x1]) CF (va_cwS 2 hts gX8_walker_X8_placeOf rfl rfl rfl (by decide +kernel) ⟨Nat.le_of_ble_eq_true rfl, Nat.le_of_ble_eq_true rfl⟩) PU_blind hP hD hS hA [1] (fun h1 h2 h3 => PU_pre hK h1 A h2 h3) (c_X8_placeOf l dC dI cI cZ q_t_page _ t_page 17 x1 r9 e11) rfl rfl rfl rfl hl.1 rfl (Nat.le_of_ble_eq_true rfl) dX8_walker_114 ⟨Nat.zero_le _, Nat.zero_le _⟩ (fun H locs hP hS => ?_)
                replace hP : va_P (dC, dI) vwCl [(q_t, .inr (8, [.int 0, .ref q_t_text, .int t_textSize, .int t_place, .int t_depth, .int t_noon, .int t_later, .int t_walkers, .ref q_t_beat, .ref q_t_kind, .ref q_t_readSnow, .int t_readWalkers, .ref q_t_readWalker, .ref q_t_page, .ref q_t_trial, .ref q_t_book, .int t_acts, .ref q_t_kept, .ref q_t_isKept, .int t_marks, .ref q_t_markStep, .ref q_t_markTread, .long t_seed, .int 0, .ref q_t_order, .int t_lineMany, .int t_lineOrder, .int t_whoseMany, .int t_whoseFirst, .int t_restMany, .int t_restFirst, .ref q_t_gains, .ref q_t_value])), (q_t_page, .inl (cI, 17, .inl t_page)), (q_t_kind, .inl (cI, 5, .inl t_kind)), (q_t_beat, .inl (cI, 5, .inl t_beat))] H := hP
                obtain ⟨e0, hf⟩ := ij2 hf
                obtain ⟨e1, hf⟩ := ijc hf
                have e2 := hf
                refine W.eq (congrArg (fun z => F0 m 117 ls [.int z]) e0) ?_
                exact hret _ _ _ _ (by rw [← e1, ← e2]; exact hP) hS dX8_walker_117
              · replace hf := iq n5 hf
                by_cases n6 : (x2 : Int32) = 6
                · replace hf := ip n6 hf
                  refine lv_tableIn (off := 97) (tgt := 118) hx hb dX8_walker_21 (by rw [n6]; decide) (by rw [n6]; decide) (by rw [n6]; rfl) (by decide) ?_
                  refine lv_aload_n hx hb dX8_walker_118 rfl (lv_at hl 0 rfl) ?_
                  refine lv_iload_n hx hb dX8_walker_119 rfl (lv_at hl 1 rfl) ?_
                  obtain ⟨r12, e14, hf⟩ := bd_ok hf
                  refine kVi (As := [.int x1]) CF (cwV 1 hts gX8_walker_X8_treadNow rfl rfl rfl (by decide +kernel) ⟨Nat.le_of_ble_eq_true rfl, Nat.le_of_ble_eq_true rfl⟩) PU_blind hP hD hS hA (va_recv hK.1 hP (ci := 8) (q0 := 0) rfl rfl) [0, 1, 2, 3] (fun h1 h2 h3 => PU_pre hK h1 A h2 h3) (c_X8_treadNow l dC dI cI cZ q_t q_t_text q_t_beat q_t_kind q_t_readSnow q_t_readWalker q_t_page q_t_trial q_t_book q_t_kept q_t_isKept q_t_markStep q_t_markTread q_t_order q_t_gains q_t_value _ 0 t_textSize t_place t_depth t_noon t_later t_walkers t_readWalkers t_acts t_marks t_seed 0 t_lineMany t_lineOrder t_whoseMany t_whoseFirst t_restMany t_restFirst t_page t_kind t_beat x1 r12 e14) rfl rfl rfl rfl hl.1 rfl (Nat.le_of_ble_eq_true rfl) dX8_walker_120 ⟨Nat.zero_le _, Nat.zero_le _⟩ (fun H locs hP hS => ?_)
                  replace hP : va_P (dC, dI) vwCl [(q_t, .inr (8, [.int 0, .ref q_t_text, .int t_textSize, .int t_place, .int t_depth, .int t_noon, .int t_later, .int t_walkers, .ref q_t_beat, .ref q_t_kind, .ref q_t_readSnow, .int t_readWalkers, .ref q_t_readWalker, .ref q_t_page, .ref q_t_trial, .ref q_t_book, .int t_acts, .ref q_t_kept, .ref q_t_isKept, .int t_marks, .ref q_t_markStep, .ref q_t_markTread, .long t_seed, .int 0, .ref q_t_order, .int t_lineMany, .int t_lineOrder, .int t_whoseMany, .int t_whoseFirst, .int t_restMany, .int t_restFirst, .ref q_t_gains, .ref q_t_value])), (q_t_page, .inl (cI, 17, .inl t_page)), (q_t_kind, .inl (cI, 5, .inl t_kind)), (q_t_beat, .inl (cI, 5, .inl t_beat))] H := hP
                  obtain ⟨e0, hf⟩ := ij2 hf
                  obtain ⟨e1, hf⟩ := ijc hf
                  have e2 := hf
                  refine W.eq (congrArg (fun z => F0 m 123 ls [.int z]) e0) ?_
                  exact hret _ _ _ _ (by rw [← e1, ← e2]; exact hP) hS dX8_walker_123
                · replace hf := iq n6 hf
                  refine lv_tableOut (tgt := 124) hx hb dX8_walker_21 (by have a0 : (x2 : Int32).toInt ≠ 0 := sw_ne n0; have a1 : (x2 : Int32).toInt ≠ 1 := sw_ne n1; have a2 : (x2 : Int32).toInt ≠ 2 := sw_ne n2; have a3 : (x2 : Int32).toInt ≠ 3 := sw_ne n3; have a4 : (x2 : Int32).toInt ≠ 4 := sw_ne n4; have a5 : (x2 : Int32).toInt ≠ 5 := sw_ne n5; have a6 : (x2 : Int32).toInt ≠ 6 := sw_ne n6; omega) (by decide) ?_
                  refine lv_bipush (v := (-2)) hx hb dX8_walker_124 (by decide) ?_
                  obtain ⟨e0, hf⟩ := ij2 hf
                  obtain ⟨e1, hf⟩ := ijc hf
                  have e2 := hf
                  refine W.eq (congrArg (fun z => F0 m 126 ls [.int z]) e0) ?_
                  exact hret _ _ _ _ (by rw [← e1, ← e2]; exact hP) hS dX8_walker_126
  · replace hf := iq hc hf
    refine lv_iconst (v := (-1)) hx hb dX8_walker_13 (by decide) ?_
    obtain ⟨e0, hf⟩ := ij2 hf
    obtain ⟨e1, hf⟩ := ijc hf
    have e2 := hf
    refine W.eq (congrArg (fun z => F0 m 14 ls [.int z]) e0) ?_
    exact hret _ _ _ _ (by rw [← e1, ← e2]; exact hP) hS dX8_walker_14
abbrev rm_X8_line : Room := { frames := 1, cells := 0, slots := 0, locals := 25 }
set_option maxHeartbeats 4000000 in
set_option maxRecDepth 100000 in
theorem c_X8_line (l : Launch) (dC : Nat → ClassId) (dI : Nat → Nat → Nat) (cI cZ : ClassId) (q_t q_t_text q_t_beat q_t_kind q_t_readSnow q_t_readWalker q_t_page q_t_trial q_t_book q_t_kept q_t_isKept q_t_markStep q_t_markTread q_t_order q_t_gains q_t_value : Nat) (sz : Nat) (t_thrown : Int32) (t_textSize : Int32) (t_place : Int32) (t_depth : Int32) (t_noon : Int32) (t_later : Int32) (t_walkers : Int32) (t_readWalkers : Int32) (t_acts : Int32) (t_marks : Int32) (t_seed : Int64) (t_stumbled : Int32) (t_lineMany : Int32) (t_lineOrder : Int32) (t_whoseMany : Int32) (t_whoseFirst : Int32) (t_restMany : Int32) (t_restFirst : Int32) (t_page : Nat → Int32) (x1 : Int32) (r_ : Int32) (o_t_thrown : Int32) (hf : f_X8_line x1 t_thrown t_walkers t_page = some (r_, o_t_thrown)) : Met l yX8_line wsX8_line rm_X8_line (va_Pc [.ref q_t, .int x1] (PU (dC, dI) cI cZ [(q_t, .inr (8, [.int t_thrown, .ref q_t_text, .int t_textSize, .int t_place, .int t_depth, .int t_noon, .int t_later, .int t_walkers, .ref q_t_beat, .ref q_t_kind, .ref q_t_readSnow, .int t_readWalkers, .ref q_t_readWalker, .ref q_t_page, .ref q_t_trial, .ref q_t_book, .int t_acts, .ref q_t_kept, .ref q_t_isKept, .int t_marks, .ref q_t_markStep, .ref q_t_markTread, .long t_seed, .int t_stumbled, .ref q_t_order, .int t_lineMany, .int t_lineOrder, .int t_whoseMany, .int t_whoseFirst, .int t_restMany, .int t_restFirst, .ref q_t_gains, .ref q_t_value])), (q_t_page, .inl (cI, 17, .inl t_page))] sz)) (va_Qi (fun (r : Int32) (_ : Unit) => r = r_) (fun _ t => va_P (dC, dI) vwCl [(q_t, .inr (8, [.int o_t_thrown, .ref q_t_text, .int t_textSize, .int t_place, .int t_depth, .int t_noon, .int t_later, .int t_walkers, .ref q_t_beat, .ref q_t_kind, .ref q_t_readSnow, .int t_readWalkers, .ref q_t_readWalker, .ref q_t_page, .ref q_t_trial, .ref q_t_book, .int t_acts, .ref q_t_kept, .ref q_t_isKept, .int t_marks, .ref q_t_markStep, .ref q_t_markTread, .long t_seed, .int t_stumbled, .ref q_t_order, .int t_lineMany, .int t_lineOrder, .int t_whoseMany, .int t_whoseFirst, .int t_restMany, .int t_restFirst, .ref q_t_gains, .ref q_t_value])), (q_t_page, .inl (cI, 17, .inl t_page))] t.heap) (va_A [(q_t, .inr (8, [.int t_thrown, .ref q_t_text, .int t_textSize, .int t_place, .int t_depth, .int t_noon, .int t_later, .int t_walkers, .ref q_t_beat, .ref q_t_kind, .ref q_t_readSnow, .int t_readWalkers, .ref q_t_readWalker, .ref q_t_page, .ref q_t_trial, .ref q_t_book, .int t_acts, .ref q_t_kept, .ref q_t_isKept, .int t_marks, .ref q_t_markStep, .ref q_t_markTread, .long t_seed, .int t_stumbled, .ref q_t_order, .int t_lineMany, .int t_lineOrder, .int t_whoseMany, .int t_whoseFirst, .int t_restMany, .int t_restFirst, .ref q_t_gains, .ref q_t_value])), (q_t_page, .inl (cI, 17, .inl t_page))] sz)) 0 0 (va_A [(q_t, .inr (8, [.int t_thrown, .ref q_t_text, .int t_textSize, .int t_place, .int t_depth, .int t_noon, .int t_later, .int t_walkers, .ref q_t_beat, .ref q_t_kind, .ref q_t_readSnow, .int t_readWalkers, .ref q_t_readWalker, .ref q_t_page, .ref q_t_trial, .ref q_t_book, .int t_acts, .ref q_t_kept, .ref q_t_isKept, .int t_marks, .ref q_t_markStep, .ref q_t_markTread, .long t_seed, .int t_stumbled, .ref q_t_order, .int t_lineMany, .int t_lineOrder, .int t_whoseMany, .int t_whoseFirst, .int t_restMany, .int t_restFirst, .ref q_t_gains, .ref q_t_value])), (q_t_page, .inl (cI, 17, .inl t_page))] sz) := by
  refine MetI (cc := cX8_line) (maxL := 2) (by decide) rfl (Nat.le_of_ble_eq_true rfl) (fun _ h => h) ?_
  intro p e s m args below meth c A Q ls hx CF hK hA hD hP hS hl hB hAe hsz hret
  have hb := CF.2.1
  have hml := CF.2.2.1
  have hown := CF.2.2.2.1
  have hts := CF.2.2.2.2
  have hD0 := hD
  replace hl : lv_has ls 2 [(0, .ref q_t), (1, .int x1)] := hl
  have hinX8 : ∀ w ∈ wsX80, w ∈ wsX8_line := fun _ h => List.mem_cons_of_mem _ (List.mem_append_right _ h)
  have w_0 := hts (.fieldLink RX8 63 "PassInStepModel" "thrown" "I") (by decide +kernel)
  have w_1 := hts (.fieldLink RX8 66 "PassInStepModel" "walkers" "I") (by decide +kernel)
  have w_2 := hts (.fieldLink RX8 32 "PassInStepModel" "page" "[I") (by decide +kernel)
  rw [f_X8_line] at hf
  refine lv_aload_n hx hb dX8_line_0 rfl (lv_at hl 0 rfl) ?_
  refine lv_iconst (v := 0) hx hb dX8_line_1 (by decide) ?_
  refine va_put (D := (dC, dI)) (ci := 8) (v := .int 0) (ty := .int) (C := RX8) (T := TX8) (N := 33) hx hb hts hinX8 tyX8 tyX8_ok nmX8 hown hK.1 hP hD hS 0 rfl rfl 0 (by decide) w_0 (fun _ h9 => h9) rfl (by decide +kernel) rfl rfl (Nat.le_of_ble_eq_true rfl) dX8_line_2 (fun H locs hP hD hS => ?_)
  replace hP : va_P (dC, dI) vwCl [(q_t, .inr (8, [.int 0, .ref q_t_text, .int t_textSize, .int t_place, .int t_depth, .int t_noon, .int t_later, .int t_walkers, .ref q_t_beat, .ref q_t_kind, .ref q_t_readSnow, .int t_readWalkers, .ref q_t_readWalker, .ref q_t_page, .ref q_t_trial, .ref q_t_book, .int t_acts, .ref q_t_kept, .ref q_t_isKept, .int t_marks, .ref q_t_markStep, .ref q_t_markTread, .long t_seed, .int t_stumbled, .ref q_t_order, .int t_lineMany, .int t_lineOrder, .int t_whoseMany, .int t_whoseFirst, .int t_restMany, .int t_restFirst, .ref q_t_gains, .ref q_t_value])), (q_t_page, .inl (cI, 17, .inl t_page))] H := hP
  replace hD : va_D A [(q_t, .inr (8, [.int 0, .ref q_t_text, .int t_textSize, .int t_place, .int t_depth, .int t_noon, .int t_later, .int t_walkers, .ref q_t_beat, .ref q_t_kind, .ref q_t_readSnow, .int t_readWalkers, .ref q_t_readWalker, .ref q_t_page, .ref q_t_trial, .ref q_t_book, .int t_acts, .ref q_t_kept, .ref q_t_isKept, .int t_marks, .ref q_t_markStep, .ref q_t_markTread, .long t_seed, .int t_stumbled, .ref q_t_order, .int t_lineMany, .int t_lineOrder, .int t_whoseMany, .int t_whoseFirst, .int t_restMany, .int t_restFirst, .ref q_t_gains, .ref q_t_value])), (q_t_page, .inl (cI, 17, .inl t_page))] := hD
  refine lv_iload_n hx hb dX8_line_5 rfl (lv_at hl 1 rfl) ?_
  refine lv_i2l hx hb dX8_line_6 rfl ?_
  refine lv_lconst (v := 0) hx hb dX8_line_7 (by decide) ?_
  refine lv_aload_n hx hb dX8_line_8 rfl (lv_at hl 0 rfl) ?_
  refine va_get (D := (dC, dI)) (ci := 8) (v := .int t_walkers) (C := RX8) (T := TX8) (N := 33) hx hb hts hinX8 hown hK.1 hP 0 rfl rfl 7 (by decide) w_1 (fun _ h9 => h9) rfl dX8_line_9 ?_
  refine lv_iconst (v := 1) hx hb dX8_line_12 (by decide) ?_
  refine lv_isub hx hb dX8_line_13 ?_
  refine lv_i2l hx hb dX8_line_14 rfl ?_
  obtain ⟨r1, e3, hf⟩ := bd_ok hf
  refine kSi (As := [.long ((x1).toInt64), .long (0 : Int64), .long (((t_walkers - 1)).toInt64)]) CF (va_cwS 3 hts gX8_line_X8_in rfl rfl rfl (by decide +kernel) ⟨Nat.le_of_ble_eq_true rfl, Nat.le_of_ble_eq_true rfl⟩) PU_blind hP hD hS hA [] (fun h1 h2 h3 => PU_pre hK h1 A h2 h3) (c_X8_in l dC dI cI cZ _ ((x1).toInt64) (0 : Int64) (((t_walkers - 1)).toInt64) r1 e3) rfl rfl rfl rfl hl.1 rfl (Nat.le_of_ble_eq_true rfl) dX8_line_15 ⟨Nat.zero_le _, Nat.zero_le _⟩ (fun H locs hP hS => ?_)
  replace hP : va_P (dC, dI) vwCl [(q_t, .inr (8, [.int 0, .ref q_t_text, .int t_textSize, .int t_place, .int t_depth, .int t_noon, .int t_later, .int t_walkers, .ref q_t_beat, .ref q_t_kind, .ref q_t_readSnow, .int t_readWalkers, .ref q_t_readWalker, .ref q_t_page, .ref q_t_trial, .ref q_t_book, .int t_acts, .ref q_t_kept, .ref q_t_isKept, .int t_marks, .ref q_t_markStep, .ref q_t_markTread, .long t_seed, .int t_stumbled, .ref q_t_order, .int t_lineMany, .int t_lineOrder, .int t_whoseMany, .int t_whoseFirst, .int t_restMany, .int t_restFirst, .ref q_t_gains, .ref q_t_value])), (q_t_page, .inl (cI, 17, .inl t_page))] H := hP
  refine lv_if_eq (tgt := 32) hx hb dX8_line_18 (by decide) (fun hc => ?_) (fun hc => ?_)
  · replace hf := ip hc hf
    refine lv_iconst (v := (-1)) hx hb dX8_line_32 (by decide) ?_
    obtain ⟨e0, hf⟩ := ij2 hf
    have e1 := hf
    refine W.eq (congrArg (fun z => F0 m 33 ls [.int z]) e0) ?_
    exact hret _ _ _ _ (by rw [← e1]; exact hP) hS dX8_line_33
  · replace hf := iq hc hf
    refine lv_aload_n hx hb dX8_line_21 rfl (lv_at hl 0 rfl) ?_
    refine va_get (D := (dC, dI)) (ci := 8) (v := .ref q_t_page) (C := RX8) (T := TX8) (N := 33) hx hb hts hinX8 hown hK.1 hP 0 rfl rfl 13 (by decide) w_2 (fun _ h9 => h9) rfl dX8_line_22 ?_
    refine lv_iconst (v := 0) hx hb dX8_line_25 (by decide) ?_
    refine lv_iload_n hx hb dX8_line_26 rfl (lv_at hl 1 rfl) ?_
    refine lv_iadd hx hb dX8_line_27 ?_
    refine kald hx hb hK.1 hP 1 0 rfl rfl dX8_line_28 hf (fun v4 hf => ?_)
    refine lv_goto (tgt := 33) hx hb dX8_line_29 (by decide) ?_
    obtain ⟨e0, hf⟩ := ij2 hf
    have e1 := hf
    refine W.eq (congrArg (fun z => F0 m 33 ls [.int z]) e0) ?_
    exact hret _ _ _ _ (by rw [← e1]; exact hP) hS dX8_line_33
abbrev rm_X8_note : Room := { frames := 0, cells := 0, slots := 0, locals := 0 }
set_option maxHeartbeats 4000000 in
set_option maxRecDepth 100000 in
theorem c_X8_note (l : Launch) (dC : Nat → ClassId) (dI : Nat → Nat → Nat) (cI cZ : ClassId) (q_t q_t_text q_t_beat q_t_kind q_t_readSnow q_t_readWalker q_t_page q_t_trial q_t_book q_t_kept q_t_isKept q_t_markStep q_t_markTread q_t_order q_t_gains q_t_value : Nat) (sz : Nat) (t_thrown : Int32) (t_textSize : Int32) (t_place : Int32) (t_depth : Int32) (t_noon : Int32) (t_later : Int32) (t_walkers : Int32) (t_readWalkers : Int32) (t_acts : Int32) (t_marks : Int32) (t_seed : Int64) (t_stumbled : Int32) (t_lineMany : Int32) (t_lineOrder : Int32) (t_whoseMany : Int32) (t_whoseFirst : Int32) (t_restMany : Int32) (t_restFirst : Int32) (t_book : Nat → Int32) (t_page : Nat → Int32) (o_t_acts : Int32) (o_t_book : Nat → Int32) (hf : f_X8_note t_acts t_book t_page = some (o_t_acts, o_t_book)) : Met l yX8_note wsX8_note rm_X8_note (va_Pc [.ref q_t] (PU (dC, dI) cI cZ [(q_t, .inr (8, [.int t_thrown, .ref q_t_text, .int t_textSize, .int t_place, .int t_depth, .int t_noon, .int t_later, .int t_walkers, .ref q_t_beat, .ref q_t_kind, .ref q_t_readSnow, .int t_readWalkers, .ref q_t_readWalker, .ref q_t_page, .ref q_t_trial, .ref q_t_book, .int t_acts, .ref q_t_kept, .ref q_t_isKept, .int t_marks, .ref q_t_markStep, .ref q_t_markTread, .long t_seed, .int t_stumbled, .ref q_t_order, .int t_lineMany, .int t_lineOrder, .int t_whoseMany, .int t_whoseFirst, .int t_restMany, .int t_restFirst, .ref q_t_gains, .ref q_t_value])), (q_t_book, .inl (cI, 238, .inl t_book)), (q_t_page, .inl (cI, 17, .inl t_page))] sz)) (va_Qv (fun (_ : Unit) => True) (fun _ t => va_P (dC, dI) vwCl [(q_t, .inr (8, [.int t_thrown, .ref q_t_text, .int t_textSize, .int t_place, .int t_depth, .int t_noon, .int t_later, .int t_walkers, .ref q_t_beat, .ref q_t_kind, .ref q_t_readSnow, .int t_readWalkers, .ref q_t_readWalker, .ref q_t_page, .ref q_t_trial, .ref q_t_book, .int o_t_acts, .ref q_t_kept, .ref q_t_isKept, .int t_marks, .ref q_t_markStep, .ref q_t_markTread, .long t_seed, .int t_stumbled, .ref q_t_order, .int t_lineMany, .int t_lineOrder, .int t_whoseMany, .int t_whoseFirst, .int t_restMany, .int t_restFirst, .ref q_t_gains, .ref q_t_value])), (q_t_book, .inl (cI, 238, .inl o_t_book)), (q_t_page, .inl (cI, 17, .inl t_page))] t.heap) (va_A [(q_t, .inr (8, [.int t_thrown, .ref q_t_text, .int t_textSize, .int t_place, .int t_depth, .int t_noon, .int t_later, .int t_walkers, .ref q_t_beat, .ref q_t_kind, .ref q_t_readSnow, .int t_readWalkers, .ref q_t_readWalker, .ref q_t_page, .ref q_t_trial, .ref q_t_book, .int t_acts, .ref q_t_kept, .ref q_t_isKept, .int t_marks, .ref q_t_markStep, .ref q_t_markTread, .long t_seed, .int t_stumbled, .ref q_t_order, .int t_lineMany, .int t_lineOrder, .int t_whoseMany, .int t_whoseFirst, .int t_restMany, .int t_restFirst, .ref q_t_gains, .ref q_t_value])), (q_t_book, .inl (cI, 238, .inl t_book)), (q_t_page, .inl (cI, 17, .inl t_page))] sz)) 0 0 (va_A [(q_t, .inr (8, [.int t_thrown, .ref q_t_text, .int t_textSize, .int t_place, .int t_depth, .int t_noon, .int t_later, .int t_walkers, .ref q_t_beat, .ref q_t_kind, .ref q_t_readSnow, .int t_readWalkers, .ref q_t_readWalker, .ref q_t_page, .ref q_t_trial, .ref q_t_book, .int t_acts, .ref q_t_kept, .ref q_t_isKept, .int t_marks, .ref q_t_markStep, .ref q_t_markTread, .long t_seed, .int t_stumbled, .ref q_t_order, .int t_lineMany, .int t_lineOrder, .int t_whoseMany, .int t_whoseFirst, .int t_restMany, .int t_restFirst, .ref q_t_gains, .ref q_t_value])), (q_t_book, .inl (cI, 238, .inl t_book)), (q_t_page, .inl (cI, 17, .inl t_page))] sz) := by
  refine MetV (cc := cX8_note) (maxL := 2) (by decide) rfl (Nat.le_of_ble_eq_true rfl) (fun _ h => h) ?_
  intro p e s m args below meth c A Q ls hx CF hK hA hD hP hS hl hB hAe hsz hret
  have hb := CF.2.1
  have hml := CF.2.2.1
  have hown := CF.2.2.2.1
  have hts := CF.2.2.2.2
  have hD0 := hD
  replace hl : lv_has ls 2 [(0, .ref q_t)] := hl
  have hinX8 : ∀ w ∈ wsX80, w ∈ wsX8_note := fun _ h => List.mem_cons_of_mem _ (List.mem_append_right _ h)
  have w_0 := hts (.fieldLink RX8 99 "PassInStepModel" "acts" "I") (by decide +kernel)
  have w_1 := hts (.fieldLink RX8 38 "PassInStepModel" "book" "[I") (by decide +kernel)
  have w_2 := hts (.fieldLink RX8 32 "PassInStepModel" "page" "[I") (by decide +kernel)
  have h_51 : ∀ (t_acts : Int32) (fu51 : Nat) (x1 : Int32) (t_book : Nat → Int32) (H : Heap) (locs : List Loc) (ls : Array Slot), va_P (dC, dI) vwCl [(q_t, .inr (8, [.int t_thrown, .ref q_t_text, .int t_textSize, .int t_place, .int t_depth, .int t_noon, .int t_later, .int t_walkers, .ref q_t_beat, .ref q_t_kind, .ref q_t_readSnow, .int t_readWalkers, .ref q_t_readWalker, .ref q_t_page, .ref q_t_trial, .ref q_t_book, .int t_acts, .ref q_t_kept, .ref q_t_isKept, .int t_marks, .ref q_t_markStep, .ref q_t_markTread, .long t_seed, .int t_stumbled, .ref q_t_order, .int t_lineMany, .int t_lineOrder, .int t_whoseMany, .int t_whoseFirst, .int t_restMany, .int t_restFirst, .ref q_t_gains, .ref q_t_value])), (q_t_book, .inl (cI, 238, .inl t_book)), (q_t_page, .inl (cI, 17, .inl t_page))] H → va_S A s.heap H locs → lv_has ls 2 [(0, .ref q_t), (1, .int x1)] → L_X8_note_51 t_acts t_page fu51 x1 t_book = some (o_t_acts, o_t_book) → W p l e rm_X8_note s m args below meth c H locs 0 0 Q (F0 m 51 ls []) := by
    intro t_acts fu51
    induction fu51 with
    | zero =>
      intro x1 t_book H locs ls hP hS hl hf
      rw [L_X8_note_51] at hf
      cases hf
    | succ fu51 ih51 =>
      intro x1 t_book H locs ls hP hS hl hf
      have hD : va_D A [(q_t, .inr (8, [.int t_thrown, .ref q_t_text, .int t_textSize, .int t_place, .int t_depth, .int t_noon, .int t_later, .int t_walkers, .ref q_t_beat, .ref q_t_kind, .ref q_t_readSnow, .int t_readWalkers, .ref q_t_readWalker, .ref q_t_page, .ref q_t_trial, .ref q_t_book, .int t_acts, .ref q_t_kept, .ref q_t_isKept, .int t_marks, .ref q_t_markStep, .ref q_t_markTread, .long t_seed, .int t_stumbled, .ref q_t_order, .int t_lineMany, .int t_lineOrder, .int t_whoseMany, .int t_whoseFirst, .int t_restMany, .int t_restFirst, .ref q_t_gains, .ref q_t_value])), (q_t_book, .inl (cI, 238, .inl t_book)), (q_t_page, .inl (cI, 17, .inl t_page))] := wd hD0 rfl
      rw [L_X8_note_51] at hf
      refine lv_iload_n hx hb dX8_note_51 rfl (lv_at hl 1 rfl) ?_
      refine lv_bipush (v := 17) hx hb dX8_note_52 (by decide) ?_
      refine lv_icmp_ge (tgt := 83) hx hb dX8_note_54 (by decide) (fun hc => ?_) (fun hc => ?_)
      · replace hf := ip hc hf
        refine lv_aload_n hx hb dX8_note_83 rfl (lv_at hl 0 rfl) ?_
        refine lv_dup hx hb dX8_note_84 rfl ?_
        refine va_get (D := (dC, dI)) (ci := 8) (v := .int t_acts) (C := RX8) (T := TX8) (N := 33) hx hb hts hinX8 hown hK.1 hP 0 rfl rfl 16 (by decide) w_0 (fun _ h9 => h9) rfl dX8_note_85 ?_
        refine lv_iconst (v := 1) hx hb dX8_note_88 (by decide) ?_
        refine lv_iadd hx hb dX8_note_89 ?_
        refine va_put (D := (dC, dI)) (ci := 8) (v := .int (t_acts + 1)) (ty := .int) (C := RX8) (T := TX8) (N := 33) hx hb hts hinX8 tyX8 tyX8_ok nmX8 hown hK.1 hP hD hS 0 rfl rfl 16 (by decide) w_0 (fun _ h9 => h9) rfl (by decide +kernel) rfl rfl (Nat.le_of_ble_eq_true rfl) dX8_note_90 (fun H locs hP hD hS => ?_)
        replace hP : va_P (dC, dI) vwCl [(q_t, .inr (8, [.int t_thrown, .ref q_t_text, .int t_textSize, .int t_place, .int t_depth, .int t_noon, .int t_later, .int t_walkers, .ref q_t_beat, .ref q_t_kind, .ref q_t_readSnow, .int t_readWalkers, .ref q_t_readWalker, .ref q_t_page, .ref q_t_trial, .ref q_t_book, .int (t_acts + 1), .ref q_t_kept, .ref q_t_isKept, .int t_marks, .ref q_t_markStep, .ref q_t_markTread, .long t_seed, .int t_stumbled, .ref q_t_order, .int t_lineMany, .int t_lineOrder, .int t_whoseMany, .int t_whoseFirst, .int t_restMany, .int t_restFirst, .ref q_t_gains, .ref q_t_value])), (q_t_book, .inl (cI, 238, .inl t_book)), (q_t_page, .inl (cI, 17, .inl t_page))] H := hP
        replace hD : va_D A [(q_t, .inr (8, [.int t_thrown, .ref q_t_text, .int t_textSize, .int t_place, .int t_depth, .int t_noon, .int t_later, .int t_walkers, .ref q_t_beat, .ref q_t_kind, .ref q_t_readSnow, .int t_readWalkers, .ref q_t_readWalker, .ref q_t_page, .ref q_t_trial, .ref q_t_book, .int (t_acts + 1), .ref q_t_kept, .ref q_t_isKept, .int t_marks, .ref q_t_markStep, .ref q_t_markTread, .long t_seed, .int t_stumbled, .ref q_t_order, .int t_lineMany, .int t_lineOrder, .int t_whoseMany, .int t_whoseFirst, .int t_restMany, .int t_restFirst, .ref q_t_gains, .ref q_t_value])), (q_t_book, .inl (cI, 238, .inl t_book)), (q_t_page, .inl (cI, 17, .inl t_page))] := hD
        obtain ⟨e0, hf⟩ := ij2 hf
        have e1 := hf
        exact hret _ _ _ _ (by rw [← e0, ← e1]; exact hP) hS dX8_note_93
      · replace hf := iq hc hf
        refine lv_aload_n hx hb dX8_note_57 rfl (lv_at hl 0 rfl) ?_
        refine va_get (D := (dC, dI)) (ci := 8) (v := .ref q_t_book) (C := RX8) (T := TX8) (N := 33) hx hb hts hinX8 hown hK.1 hP 0 rfl rfl 15 (by decide) w_1 (fun _ h9 => h9) rfl dX8_note_58 ?_
        refine lv_bipush (v := 17) hx hb dX8_note_61 (by decide) ?_
        refine lv_aload_n hx hb dX8_note_63 rfl (lv_at hl 0 rfl) ?_
        refine va_get (D := (dC, dI)) (ci := 8) (v := .int t_acts) (C := RX8) (T := TX8) (N := 33) hx hb hts hinX8 hown hK.1 hP 0 rfl rfl 16 (by decide) w_0 (fun _ h9 => h9) rfl dX8_note_64 ?_
        refine lv_imul hx hb dX8_note_67 ?_
        refine lv_iload_n hx hb dX8_note_68 rfl (lv_at hl 1 rfl) ?_
        refine lv_iadd hx hb dX8_note_69 ?_
        refine lv_aload_n hx hb dX8_note_70 rfl (lv_at hl 0 rfl) ?_
        refine va_get (D := (dC, dI)) (ci := 8) (v := .ref q_t_page) (C := RX8) (T := TX8) (N := 33) hx hb hts hinX8 hown hK.1 hP 0 rfl rfl 13 (by decide) w_2 (fun _ h9 => h9) rfl dX8_note_71 ?_
        refine lv_iload_n hx hb dX8_note_74 rfl (lv_at hl 1 rfl) ?_
        refine kald hx hb hK.1 hP 2 0 rfl rfl dX8_note_75 hf (fun v1 hf => ?_)
        refine kast hx hb hK.1 hP hD hS 1 0 rfl rfl dX8_note_76 hf (fun w2 H locs hP hD hS hf => ?_)
        replace hP : va_P (dC, dI) vwCl [(q_t, .inr (8, [.int t_thrown, .ref q_t_text, .int t_textSize, .int t_place, .int t_depth, .int t_noon, .int t_later, .int t_walkers, .ref q_t_beat, .ref q_t_kind, .ref q_t_readSnow, .int t_readWalkers, .ref q_t_readWalker, .ref q_t_page, .ref q_t_trial, .ref q_t_book, .int t_acts, .ref q_t_kept, .ref q_t_isKept, .int t_marks, .ref q_t_markStep, .ref q_t_markTread, .long t_seed, .int t_stumbled, .ref q_t_order, .int t_lineMany, .int t_lineOrder, .int t_whoseMany, .int t_whoseFirst, .int t_restMany, .int t_restFirst, .ref q_t_gains, .ref q_t_value])), (q_t_book, .inl (cI, 238, .inl w2)), (q_t_page, .inl (cI, 17, .inl t_page))] H := hP
        replace hD : va_D A [(q_t, .inr (8, [.int t_thrown, .ref q_t_text, .int t_textSize, .int t_place, .int t_depth, .int t_noon, .int t_later, .int t_walkers, .ref q_t_beat, .ref q_t_kind, .ref q_t_readSnow, .int t_readWalkers, .ref q_t_readWalker, .ref q_t_page, .ref q_t_trial, .ref q_t_book, .int t_acts, .ref q_t_kept, .ref q_t_isKept, .int t_marks, .ref q_t_markStep, .ref q_t_markTread, .long t_seed, .int t_stumbled, .ref q_t_order, .int t_lineMany, .int t_lineOrder, .int t_whoseMany, .int t_whoseFirst, .int t_restMany, .int t_restFirst, .ref q_t_gains, .ref q_t_value])), (q_t_book, .inl (cI, 238, .inl w2)), (q_t_page, .inl (cI, 17, .inl t_page))] := hD
        refine lv_iinc (v := (x1 + 1)) (lv' := [(1, .int (x1 + 1)), (0, .ref q_t)]) hx hb dX8_note_77 hl (k := 1) rfl rfl (by decide) rfl (fun ls hl => ?_)
        refine lv_goto (tgt := 51) hx hb dX8_note_80 (by decide) ?_
        exact ih51 (x1 + 1) w2 _ _ _ hP hS (lv_sub hl [1, 0] rfl) hf
  have h_49 : ∀ (t_acts : Int32) (t_book : Nat → Int32) (H : Heap) (locs : List Loc) (ls : Array Slot), va_P (dC, dI) vwCl [(q_t, .inr (8, [.int t_thrown, .ref q_t_text, .int t_textSize, .int t_place, .int t_depth, .int t_noon, .int t_later, .int t_walkers, .ref q_t_beat, .ref q_t_kind, .ref q_t_readSnow, .int t_readWalkers, .ref q_t_readWalker, .ref q_t_page, .ref q_t_trial, .ref q_t_book, .int t_acts, .ref q_t_kept, .ref q_t_isKept, .int t_marks, .ref q_t_markStep, .ref q_t_markTread, .long t_seed, .int t_stumbled, .ref q_t_order, .int t_lineMany, .int t_lineOrder, .int t_whoseMany, .int t_whoseFirst, .int t_restMany, .int t_restFirst, .ref q_t_gains, .ref q_t_value])), (q_t_book, .inl (cI, 238, .inl t_book)), (q_t_page, .inl (cI, 17, .inl t_page))] H → va_S A s.heap H locs → lv_has ls 2 [(0, .ref q_t)] → J_X8_note_49 t_acts t_book t_page = some (o_t_acts, o_t_book) → W p l e rm_X8_note s m args below meth c H locs 0 0 Q (F0 m 49 ls []) := by
    intro t_acts t_book H locs ls hP hS hl hf
    have hD : va_D A [(q_t, .inr (8, [.int t_thrown, .ref q_t_text, .int t_textSize, .int t_place, .int t_depth, .int t_noon, .int t_later, .int t_walkers, .ref q_t_beat, .ref q_t_kind, .ref q_t_readSnow, .int t_readWalkers, .ref q_t_readWalker, .ref q_t_page, .ref q_t_trial, .ref q_t_book, .int t_acts, .ref q_t_kept, .ref q_t_isKept, .int t_marks, .ref q_t_markStep, .ref q_t_markTread, .long t_seed, .int t_stumbled, .ref q_t_order, .int t_lineMany, .int t_lineOrder, .int t_whoseMany, .int t_whoseFirst, .int t_restMany, .int t_restFirst, .ref q_t_gains, .ref q_t_value])), (q_t_book, .inl (cI, 238, .inl t_book)), (q_t_page, .inl (cI, 17, .inl t_page))] := wd hD0 rfl
    rw [J_X8_note_49] at hf
    refine lv_iconst (v := 0) hx hb dX8_note_49 (by decide) ?_
    refine lv_istore_n (lv' := [(1, .int 0), (0, .ref q_t)]) hx hb dX8_note_50 rfl hl (by decide) rfl (fun ls hl => ?_)
    exact h_51 t_acts fuelC 0 t_book _ _ _ hP hS (lv_sub hl [1, 0] rfl) hf
  have h_11 : ∀ (t_acts : Int32) (fu11 : Nat) (x1 : Int32) (t_book : Nat → Int32) (H : Heap) (locs : List Loc) (ls : Array Slot), va_P (dC, dI) vwCl [(q_t, .inr (8, [.int t_thrown, .ref q_t_text, .int t_textSize, .int t_place, .int t_depth, .int t_noon, .int t_later, .int t_walkers, .ref q_t_beat, .ref q_t_kind, .ref q_t_readSnow, .int t_readWalkers, .ref q_t_readWalker, .ref q_t_page, .ref q_t_trial, .ref q_t_book, .int t_acts, .ref q_t_kept, .ref q_t_isKept, .int t_marks, .ref q_t_markStep, .ref q_t_markTread, .long t_seed, .int t_stumbled, .ref q_t_order, .int t_lineMany, .int t_lineOrder, .int t_whoseMany, .int t_whoseFirst, .int t_restMany, .int t_restFirst, .ref q_t_gains, .ref q_t_value])), (q_t_book, .inl (cI, 238, .inl t_book)), (q_t_page, .inl (cI, 17, .inl t_page))] H → va_S A s.heap H locs → lv_has ls 2 [(0, .ref q_t), (1, .int x1)] → L_X8_note_11 t_acts t_page fu11 x1 t_book = some (o_t_acts, o_t_book) → W p l e rm_X8_note s m args below meth c H locs 0 0 Q (F0 m 11 ls []) := by
    intro t_acts fu11
    induction fu11 with
    | zero =>
      intro x1 t_book H locs ls hP hS hl hf
      rw [L_X8_note_11] at hf
      cases hf
    | succ fu11 ih11 =>
      intro x1 t_book H locs ls hP hS hl hf
      have hD : va_D A [(q_t, .inr (8, [.int t_thrown, .ref q_t_text, .int t_textSize, .int t_place, .int t_depth, .int t_noon, .int t_later, .int t_walkers, .ref q_t_beat, .ref q_t_kind, .ref q_t_readSnow, .int t_readWalkers, .ref q_t_readWalker, .ref q_t_page, .ref q_t_trial, .ref q_t_book, .int t_acts, .ref q_t_kept, .ref q_t_isKept, .int t_marks, .ref q_t_markStep, .ref q_t_markTread, .long t_seed, .int t_stumbled, .ref q_t_order, .int t_lineMany, .int t_lineOrder, .int t_whoseMany, .int t_whoseFirst, .int t_restMany, .int t_restFirst, .ref q_t_gains, .ref q_t_value])), (q_t_book, .inl (cI, 238, .inl t_book)), (q_t_page, .inl (cI, 17, .inl t_page))] := wd hD0 rfl
      rw [L_X8_note_11] at hf
      refine lv_iload_n hx hb dX8_note_11 rfl (lv_at hl 1 rfl) ?_
      refine lv_sipush (v := 221) hx hb dX8_note_12 (by decide) ?_
      refine lv_icmp_ge (tgt := 39) hx hb dX8_note_15 (by decide) (fun hc => ?_) (fun hc => ?_)
      · replace hf := ip hc hf
        refine lv_aload_n hx hb dX8_note_39 rfl (lv_at hl 0 rfl) ?_
        refine lv_dup hx hb dX8_note_40 rfl ?_
        refine va_get (D := (dC, dI)) (ci := 8) (v := .int t_acts) (C := RX8) (T := TX8) (N := 33) hx hb hts hinX8 hown hK.1 hP 0 rfl rfl 16 (by decide) w_0 (fun _ h9 => h9) rfl dX8_note_41 ?_
        refine lv_iconst (v := 1) hx hb dX8_note_44 (by decide) ?_
        refine lv_isub hx hb dX8_note_45 ?_
        refine va_put (D := (dC, dI)) (ci := 8) (v := .int (t_acts - 1)) (ty := .int) (C := RX8) (T := TX8) (N := 33) hx hb hts hinX8 tyX8 tyX8_ok nmX8 hown hK.1 hP hD hS 0 rfl rfl 16 (by decide) w_0 (fun _ h9 => h9) rfl (by decide +kernel) rfl rfl (Nat.le_of_ble_eq_true rfl) dX8_note_46 (fun H locs hP hD hS => ?_)
        replace hP : va_P (dC, dI) vwCl [(q_t, .inr (8, [.int t_thrown, .ref q_t_text, .int t_textSize, .int t_place, .int t_depth, .int t_noon, .int t_later, .int t_walkers, .ref q_t_beat, .ref q_t_kind, .ref q_t_readSnow, .int t_readWalkers, .ref q_t_readWalker, .ref q_t_page, .ref q_t_trial, .ref q_t_book, .int (t_acts - 1), .ref q_t_kept, .ref q_t_isKept, .int t_marks, .ref q_t_markStep, .ref q_t_markTread, .long t_seed, .int t_stumbled, .ref q_t_order, .int t_lineMany, .int t_lineOrder, .int t_whoseMany, .int t_whoseFirst, .int t_restMany, .int t_restFirst, .ref q_t_gains, .ref q_t_value])), (q_t_book, .inl (cI, 238, .inl t_book)), (q_t_page, .inl (cI, 17, .inl t_page))] H := hP
        replace hD : va_D A [(q_t, .inr (8, [.int t_thrown, .ref q_t_text, .int t_textSize, .int t_place, .int t_depth, .int t_noon, .int t_later, .int t_walkers, .ref q_t_beat, .ref q_t_kind, .ref q_t_readSnow, .int t_readWalkers, .ref q_t_readWalker, .ref q_t_page, .ref q_t_trial, .ref q_t_book, .int (t_acts - 1), .ref q_t_kept, .ref q_t_isKept, .int t_marks, .ref q_t_markStep, .ref q_t_markTread, .long t_seed, .int t_stumbled, .ref q_t_order, .int t_lineMany, .int t_lineOrder, .int t_whoseMany, .int t_whoseFirst, .int t_restMany, .int t_restFirst, .ref q_t_gains, .ref q_t_value])), (q_t_book, .inl (cI, 238, .inl t_book)), (q_t_page, .inl (cI, 17, .inl t_page))] := hD
        exact h_49 (t_acts - 1) t_book _ _ _ hP hS (lv_sub hl [0] rfl) hf
      · replace hf := iq hc hf
        refine lv_aload_n hx hb dX8_note_18 rfl (lv_at hl 0 rfl) ?_
        refine va_get (D := (dC, dI)) (ci := 8) (v := .ref q_t_book) (C := RX8) (T := TX8) (N := 33) hx hb hts hinX8 hown hK.1 hP 0 rfl rfl 15 (by decide) w_1 (fun _ h9 => h9) rfl dX8_note_19 ?_
        refine lv_iload_n hx hb dX8_note_22 rfl (lv_at hl 1 rfl) ?_
        refine lv_aload_n hx hb dX8_note_23 rfl (lv_at hl 0 rfl) ?_
        refine va_get (D := (dC, dI)) (ci := 8) (v := .ref q_t_book) (C := RX8) (T := TX8) (N := 33) hx hb hts hinX8 hown hK.1 hP 0 rfl rfl 15 (by decide) w_1 (fun _ h9 => h9) rfl dX8_note_24 ?_
        refine lv_iload_n hx hb dX8_note_27 rfl (lv_at hl 1 rfl) ?_
        refine lv_bipush (v := 17) hx hb dX8_note_28 (by decide) ?_
        refine lv_iadd hx hb dX8_note_30 ?_
        refine kald hx hb hK.1 hP 1 0 rfl rfl dX8_note_31 hf (fun v3 hf => ?_)
        refine kast hx hb hK.1 hP hD hS 1 0 rfl rfl dX8_note_32 hf (fun w4 H locs hP hD hS hf => ?_)
        replace hP : va_P (dC, dI) vwCl [(q_t, .inr (8, [.int t_thrown, .ref q_t_text, .int t_textSize, .int t_place, .int t_depth, .int t_noon, .int t_later, .int t_walkers, .ref q_t_beat, .ref q_t_kind, .ref q_t_readSnow, .int t_readWalkers, .ref q_t_readWalker, .ref q_t_page, .ref q_t_trial, .ref q_t_book, .int t_acts, .ref q_t_kept, .ref q_t_isKept, .int t_marks, .ref q_t_markStep, .ref q_t_markTread, .long t_seed, .int t_stumbled, .ref q_t_order, .int t_lineMany, .int t_lineOrder, .int t_whoseMany, .int t_whoseFirst, .int t_restMany, .int t_restFirst, .ref q_t_gains, .ref q_t_value])), (q_t_book, .inl (cI, 238, .inl w4)), (q_t_page, .inl (cI, 17, .inl t_page))] H := hP
        replace hD : va_D A [(q_t, .inr (8, [.int t_thrown, .ref q_t_text, .int t_textSize, .int t_place, .int t_depth, .int t_noon, .int t_later, .int t_walkers, .ref q_t_beat, .ref q_t_kind, .ref q_t_readSnow, .int t_readWalkers, .ref q_t_readWalker, .ref q_t_page, .ref q_t_trial, .ref q_t_book, .int t_acts, .ref q_t_kept, .ref q_t_isKept, .int t_marks, .ref q_t_markStep, .ref q_t_markTread, .long t_seed, .int t_stumbled, .ref q_t_order, .int t_lineMany, .int t_lineOrder, .int t_whoseMany, .int t_whoseFirst, .int t_restMany, .int t_restFirst, .ref q_t_gains, .ref q_t_value])), (q_t_book, .inl (cI, 238, .inl w4)), (q_t_page, .inl (cI, 17, .inl t_page))] := hD
        refine lv_iinc (v := (x1 + 1)) (lv' := [(1, .int (x1 + 1)), (0, .ref q_t)]) hx hb dX8_note_33 hl (k := 1) rfl rfl (by decide) rfl (fun ls hl => ?_)
        refine lv_goto (tgt := 11) hx hb dX8_note_36 (by decide) ?_
        exact ih11 (x1 + 1) w4 _ _ _ hP hS (lv_sub hl [1, 0] rfl) hf
  rw [f_X8_note] at hf
  refine lv_aload_n hx hb dX8_note_0 rfl (lv_at hl 0 rfl) ?_
  refine va_get (D := (dC, dI)) (ci := 8) (v := .int t_acts) (C := RX8) (T := TX8) (N := 33) hx hb hts hinX8 hown hK.1 hP 0 rfl rfl 16 (by decide) w_0 (fun _ h9 => h9) rfl dX8_note_1 ?_
  refine lv_bipush (v := 14) hx hb dX8_note_4 (by decide) ?_
  refine lv_icmp_ne (tgt := 49) hx hb dX8_note_6 (by decide) (fun hc => ?_) (fun hc => ?_)
  · replace hf := iq hc hf
    exact h_49 t_acts t_book _ _ _ hP hS (lv_sub hl [0] rfl) hf
  · replace hf := ip hc hf
    refine lv_iconst (v := 0) hx hb dX8_note_9 (by decide) ?_
    refine lv_istore_n (lv' := [(1, .int 0), (0, .ref q_t)]) hx hb dX8_note_10 rfl hl (by decide) rfl (fun ls hl => ?_)
    exact h_11 t_acts fuelC 0 t_book _ _ _ hP hS (lv_sub hl [1, 0] rfl) hf
abbrev rm_X8_step : Room := { frames := 4, cells := 0, slots := 0, locals := 96 }
set_option maxHeartbeats 4000000 in
set_option maxRecDepth 100000 in
theorem c_X8_step (l : Launch) (dC : Nat → ClassId) (dI : Nat → Nat → Nat) (cI cZ : ClassId) (q_t q_t_text q_t_beat q_t_kind q_t_readSnow q_t_readWalker q_t_page q_t_trial q_t_book q_t_kept q_t_isKept q_t_markStep q_t_markTread q_t_order q_t_gains q_t_value : Nat) (sz : Nat) (t_thrown : Int32) (t_textSize : Int32) (t_place : Int32) (t_depth : Int32) (t_noon : Int32) (t_later : Int32) (t_walkers : Int32) (t_readWalkers : Int32) (t_acts : Int32) (t_marks : Int32) (t_seed : Int64) (t_stumbled : Int32) (t_lineMany : Int32) (t_lineOrder : Int32) (t_whoseMany : Int32) (t_whoseFirst : Int32) (t_restMany : Int32) (t_restFirst : Int32) (t_book : Nat → Int32) (t_page : Nat → Int32) (t_kind : Nat → Int32) (t_beat : Nat → Int32) (r_ : Int32) (o_t_thrown : Int32) (o_t_acts : Int32) (o_t_stumbled : Int32) (o_t_book : Nat → Int32) (o_t_page : Nat → Int32) (hf : f_X8_step t_thrown t_depth t_noon t_later t_walkers t_acts t_stumbled t_book t_page t_kind t_beat = some (r_, o_t_thrown, o_t_acts, o_t_stumbled, o_t_book, o_t_page)) : Met l yX8_step wsX8_step rm_X8_step (va_Pc [.ref q_t] (PU (dC, dI) cI cZ [(q_t, .inr (8, [.int t_thrown, .ref q_t_text, .int t_textSize, .int t_place, .int t_depth, .int t_noon, .int t_later, .int t_walkers, .ref q_t_beat, .ref q_t_kind, .ref q_t_readSnow, .int t_readWalkers, .ref q_t_readWalker, .ref q_t_page, .ref q_t_trial, .ref q_t_book, .int t_acts, .ref q_t_kept, .ref q_t_isKept, .int t_marks, .ref q_t_markStep, .ref q_t_markTread, .long t_seed, .int t_stumbled, .ref q_t_order, .int t_lineMany, .int t_lineOrder, .int t_whoseMany, .int t_whoseFirst, .int t_restMany, .int t_restFirst, .ref q_t_gains, .ref q_t_value])), (q_t_book, .inl (cI, 238, .inl t_book)), (q_t_page, .inl (cI, 17, .inl t_page)), (q_t_kind, .inl (cI, 5, .inl t_kind)), (q_t_beat, .inl (cI, 5, .inl t_beat))] sz)) (va_Qi (fun (r : Int32) (_ : Unit) => r = r_) (fun _ t => va_P (dC, dI) vwCl [(q_t, .inr (8, [.int o_t_thrown, .ref q_t_text, .int t_textSize, .int t_place, .int t_depth, .int t_noon, .int t_later, .int t_walkers, .ref q_t_beat, .ref q_t_kind, .ref q_t_readSnow, .int t_readWalkers, .ref q_t_readWalker, .ref q_t_page, .ref q_t_trial, .ref q_t_book, .int o_t_acts, .ref q_t_kept, .ref q_t_isKept, .int t_marks, .ref q_t_markStep, .ref q_t_markTread, .long t_seed, .int o_t_stumbled, .ref q_t_order, .int t_lineMany, .int t_lineOrder, .int t_whoseMany, .int t_whoseFirst, .int t_restMany, .int t_restFirst, .ref q_t_gains, .ref q_t_value])), (q_t_book, .inl (cI, 238, .inl o_t_book)), (q_t_page, .inl (cI, 17, .inl o_t_page)), (q_t_kind, .inl (cI, 5, .inl t_kind)), (q_t_beat, .inl (cI, 5, .inl t_beat))] t.heap) (va_A [(q_t, .inr (8, [.int t_thrown, .ref q_t_text, .int t_textSize, .int t_place, .int t_depth, .int t_noon, .int t_later, .int t_walkers, .ref q_t_beat, .ref q_t_kind, .ref q_t_readSnow, .int t_readWalkers, .ref q_t_readWalker, .ref q_t_page, .ref q_t_trial, .ref q_t_book, .int t_acts, .ref q_t_kept, .ref q_t_isKept, .int t_marks, .ref q_t_markStep, .ref q_t_markTread, .long t_seed, .int t_stumbled, .ref q_t_order, .int t_lineMany, .int t_lineOrder, .int t_whoseMany, .int t_whoseFirst, .int t_restMany, .int t_restFirst, .ref q_t_gains, .ref q_t_value])), (q_t_book, .inl (cI, 238, .inl t_book)), (q_t_page, .inl (cI, 17, .inl t_page)), (q_t_kind, .inl (cI, 5, .inl t_kind)), (q_t_beat, .inl (cI, 5, .inl t_beat))] sz)) 0 0 (va_A [(q_t, .inr (8, [.int t_thrown, .ref q_t_text, .int t_textSize, .int t_place, .int t_depth, .int t_noon, .int t_later, .int t_walkers, .ref q_t_beat, .ref q_t_kind, .ref q_t_readSnow, .int t_readWalkers, .ref q_t_readWalker, .ref q_t_page, .ref q_t_trial, .ref q_t_book, .int t_acts, .ref q_t_kept, .ref q_t_isKept, .int t_marks, .ref q_t_markStep, .ref q_t_markTread, .long t_seed, .int t_stumbled, .ref q_t_order, .int t_lineMany, .int t_lineOrder, .int t_whoseMany, .int t_whoseFirst, .int t_restMany, .int t_restFirst, .ref q_t_gains, .ref q_t_value])), (q_t_book, .inl (cI, 238, .inl t_book)), (q_t_page, .inl (cI, 17, .inl t_page)), (q_t_kind, .inl (cI, 5, .inl t_kind)), (q_t_beat, .inl (cI, 5, .inl t_beat))] sz) := by
  refine MetI (cc := cX8_step) (maxL := 1) (by decide) rfl (Nat.le_of_ble_eq_true rfl) (fun _ h => h) ?_
  intro p e s m args below meth c A Q ls hx CF hK hA hD hP hS hl hB hAe hsz hret
  have hb := CF.2.1
  have hml := CF.2.2.1
  have hown := CF.2.2.2.1
  have hts := CF.2.2.2.2
  have hD0 := hD
  replace hl : lv_has ls 1 [(0, .ref q_t)] := hl
  have hinX8 : ∀ w ∈ wsX80, w ∈ wsX8_step := fun _ h => List.mem_cons_of_mem _ (List.mem_append_right _ h)
  have w_0 := hts (.fieldLink RX8 63 "PassInStepModel" "thrown" "I") (by decide +kernel)
  have w_1 := hts (.fieldLink RX8 110 "PassInStepModel" "stumbled" "I") (by decide +kernel)
  have w_2 := hts (.fieldLink RX8 32 "PassInStepModel" "page" "[I") (by decide +kernel)
  rw [f_X8_step] at hf
  refine lv_aload_n hx hb dX8_step_0 rfl (lv_at hl 0 rfl) ?_
  refine lv_iconst (v := 0) hx hb dX8_step_1 (by decide) ?_
  refine va_put (D := (dC, dI)) (ci := 8) (v := .int 0) (ty := .int) (C := RX8) (T := TX8) (N := 33) hx hb hts hinX8 tyX8 tyX8_ok nmX8 hown hK.1 hP hD hS 0 rfl rfl 0 (by decide) w_0 (fun _ h9 => h9) rfl (by decide +kernel) rfl rfl (Nat.le_of_ble_eq_true rfl) dX8_step_2 (fun H locs hP hD hS => ?_)
  replace hP : va_P (dC, dI) vwCl [(q_t, .inr (8, [.int 0, .ref q_t_text, .int t_textSize, .int t_place, .int t_depth, .int t_noon, .int t_later, .int t_walkers, .ref q_t_beat, .ref q_t_kind, .ref q_t_readSnow, .int t_readWalkers, .ref q_t_readWalker, .ref q_t_page, .ref q_t_trial, .ref q_t_book, .int t_acts, .ref q_t_kept, .ref q_t_isKept, .int t_marks, .ref q_t_markStep, .ref q_t_markTread, .long t_seed, .int t_stumbled, .ref q_t_order, .int t_lineMany, .int t_lineOrder, .int t_whoseMany, .int t_whoseFirst, .int t_restMany, .int t_restFirst, .ref q_t_gains, .ref q_t_value])), (q_t_book, .inl (cI, 238, .inl t_book)), (q_t_page, .inl (cI, 17, .inl t_page)), (q_t_kind, .inl (cI, 5, .inl t_kind)), (q_t_beat, .inl (cI, 5, .inl t_beat))] H := hP
  replace hD : va_D A [(q_t, .inr (8, [.int 0, .ref q_t_text, .int t_textSize, .int t_place, .int t_depth, .int t_noon, .int t_later, .int t_walkers, .ref q_t_beat, .ref q_t_kind, .ref q_t_readSnow, .int t_readWalkers, .ref q_t_readWalker, .ref q_t_page, .ref q_t_trial, .ref q_t_book, .int t_acts, .ref q_t_kept, .ref q_t_isKept, .int t_marks, .ref q_t_markStep, .ref q_t_markTread, .long t_seed, .int t_stumbled, .ref q_t_order, .int t_lineMany, .int t_lineOrder, .int t_whoseMany, .int t_whoseFirst, .int t_restMany, .int t_restFirst, .ref q_t_gains, .ref q_t_value])), (q_t_book, .inl (cI, 238, .inl t_book)), (q_t_page, .inl (cI, 17, .inl t_page)), (q_t_kind, .inl (cI, 5, .inl t_kind)), (q_t_beat, .inl (cI, 5, .inl t_beat))] := hD
  refine lv_aload_n hx hb dX8_step_5 rfl (lv_at hl 0 rfl) ?_
  refine lv_iconst (v := 0) hx hb dX8_step_6 (by decide) ?_
  refine va_put (D := (dC, dI)) (ci := 8) (v := .int 0) (ty := .int) (C := RX8) (T := TX8) (N := 33) hx hb hts hinX8 tyX8 tyX8_ok nmX8 hown hK.1 hP hD hS 0 rfl rfl 23 (by decide) w_1 (fun _ h9 => h9) rfl (by decide +kernel) rfl rfl (Nat.le_of_ble_eq_true rfl) dX8_step_7 (fun H locs hP hD hS => ?_)
  replace hP : va_P (dC, dI) vwCl [(q_t, .inr (8, [.int 0, .ref q_t_text, .int t_textSize, .int t_place, .int t_depth, .int t_noon, .int t_later, .int t_walkers, .ref q_t_beat, .ref q_t_kind, .ref q_t_readSnow, .int t_readWalkers, .ref q_t_readWalker, .ref q_t_page, .ref q_t_trial, .ref q_t_book, .int t_acts, .ref q_t_kept, .ref q_t_isKept, .int t_marks, .ref q_t_markStep, .ref q_t_markTread, .long t_seed, .int 0, .ref q_t_order, .int t_lineMany, .int t_lineOrder, .int t_whoseMany, .int t_whoseFirst, .int t_restMany, .int t_restFirst, .ref q_t_gains, .ref q_t_value])), (q_t_book, .inl (cI, 238, .inl t_book)), (q_t_page, .inl (cI, 17, .inl t_page)), (q_t_kind, .inl (cI, 5, .inl t_kind)), (q_t_beat, .inl (cI, 5, .inl t_beat))] H := hP
  replace hD : va_D A [(q_t, .inr (8, [.int 0, .ref q_t_text, .int t_textSize, .int t_place, .int t_depth, .int t_noon, .int t_later, .int t_walkers, .ref q_t_beat, .ref q_t_kind, .ref q_t_readSnow, .int t_readWalkers, .ref q_t_readWalker, .ref q_t_page, .ref q_t_trial, .ref q_t_book, .int t_acts, .ref q_t_kept, .ref q_t_isKept, .int t_marks, .ref q_t_markStep, .ref q_t_markTread, .long t_seed, .int 0, .ref q_t_order, .int t_lineMany, .int t_lineOrder, .int t_whoseMany, .int t_whoseFirst, .int t_restMany, .int t_restFirst, .ref q_t_gains, .ref q_t_value])), (q_t_book, .inl (cI, 238, .inl t_book)), (q_t_page, .inl (cI, 17, .inl t_page)), (q_t_kind, .inl (cI, 5, .inl t_kind)), (q_t_beat, .inl (cI, 5, .inl t_beat))] := hD
  refine lv_aload_n hx hb dX8_step_10 rfl (lv_at hl 0 rfl) ?_
  obtain ⟨⟨o1, o2⟩, e4, hf⟩ := bd_ok hf
  refine kVv (As := []) CF (cwV 0 hts gX8_step_X8_note rfl rfl rfl (by decide +kernel) ⟨Nat.le_of_ble_eq_true rfl, Nat.le_of_ble_eq_true rfl⟩) PU_blind hP hD hS hA (va_recv hK.1 hP (ci := 8) (q0 := 0) rfl rfl) [0, 1, 2] (fun h1 h2 h3 => PU_pre hK h1 A h2 h3) (c_X8_note l dC dI cI cZ q_t q_t_text q_t_beat q_t_kind q_t_readSnow q_t_readWalker q_t_page q_t_trial q_t_book q_t_kept q_t_isKept q_t_markStep q_t_markTread q_t_order q_t_gains q_t_value _ 0 t_textSize t_place t_depth t_noon t_later t_walkers t_readWalkers t_acts t_marks t_seed 0 t_lineMany t_lineOrder t_whoseMany t_whoseFirst t_restMany t_restFirst t_book t_page o1 o2 e4) rfl rfl rfl rfl hl.1 rfl (Nat.le_of_ble_eq_true rfl) dX8_step_11 ⟨Nat.zero_le _, Nat.zero_le _⟩ (fun H locs hP hS => ?_)
  replace hP : va_P (dC, dI) vwCl [(q_t, .inr (8, [.int 0, .ref q_t_text, .int t_textSize, .int t_place, .int t_depth, .int t_noon, .int t_later, .int t_walkers, .ref q_t_beat, .ref q_t_kind, .ref q_t_readSnow, .int t_readWalkers, .ref q_t_readWalker, .ref q_t_page, .ref q_t_trial, .ref q_t_book, .int o1, .ref q_t_kept, .ref q_t_isKept, .int t_marks, .ref q_t_markStep, .ref q_t_markTread, .long t_seed, .int 0, .ref q_t_order, .int t_lineMany, .int t_lineOrder, .int t_whoseMany, .int t_whoseFirst, .int t_restMany, .int t_restFirst, .ref q_t_gains, .ref q_t_value])), (q_t_book, .inl (cI, 238, .inl o2)), (q_t_page, .inl (cI, 17, .inl t_page)), (q_t_kind, .inl (cI, 5, .inl t_kind)), (q_t_beat, .inl (cI, 5, .inl t_beat))] H := hP
  replace hD : va_D A [(q_t, .inr (8, [.int 0, .ref q_t_text, .int t_textSize, .int t_place, .int t_depth, .int t_noon, .int t_later, .int t_walkers, .ref q_t_beat, .ref q_t_kind, .ref q_t_readSnow, .int t_readWalkers, .ref q_t_readWalker, .ref q_t_page, .ref q_t_trial, .ref q_t_book, .int o1, .ref q_t_kept, .ref q_t_isKept, .int t_marks, .ref q_t_markStep, .ref q_t_markTread, .long t_seed, .int 0, .ref q_t_order, .int t_lineMany, .int t_lineOrder, .int t_whoseMany, .int t_whoseFirst, .int t_restMany, .int t_restFirst, .ref q_t_gains, .ref q_t_value])), (q_t_book, .inl (cI, 238, .inl o2)), (q_t_page, .inl (cI, 17, .inl t_page)), (q_t_kind, .inl (cI, 5, .inl t_kind)), (q_t_beat, .inl (cI, 5, .inl t_beat))] := wd hD rfl
  refine lv_aload_n hx hb dX8_step_14 rfl (lv_at hl 0 rfl) ?_
  refine lv_aload_n hx hb dX8_step_15 rfl (lv_at hl 0 rfl) ?_
  refine va_get (D := (dC, dI)) (ci := 8) (v := .ref q_t_page) (C := RX8) (T := TX8) (N := 33) hx hb hts hinX8 hown hK.1 hP 0 rfl rfl 13 (by decide) w_2 (fun _ h9 => h9) rfl dX8_step_16 ?_
  obtain ⟨⟨r5, o6⟩, e8, hf⟩ := bd_ok hf
  refine kVi (As := [.ref q_t_page]) CF (cwV 1 hts gX8_step_X8_goStep rfl rfl rfl (by decide +kernel) ⟨Nat.le_of_ble_eq_true rfl, Nat.le_of_ble_eq_true rfl⟩) PU_blind hP hD hS hA (va_recv hK.1 hP (ci := 8) (q0 := 0) rfl rfl) [0, 2, 3, 4] (fun h1 h2 h3 => PU_pre hK h1 A h2 h3) (c_X8_goStep l dC dI cI cZ q_t q_t_text q_t_beat q_t_kind q_t_readSnow q_t_readWalker q_t_page q_t_trial q_t_book q_t_kept q_t_isKept q_t_markStep q_t_markTread q_t_order q_t_gains q_t_value q_t_page _ 0 t_textSize t_place t_depth t_noon t_later t_walkers t_readWalkers o1 t_marks t_seed 0 t_lineMany t_lineOrder t_whoseMany t_whoseFirst t_restMany t_restFirst t_page t_kind t_beat 17 r5 o6 e8) rfl rfl rfl rfl hl.1 rfl (Nat.le_of_ble_eq_true rfl) dX8_step_19 ⟨Nat.zero_le _, Nat.zero_le _⟩ (fun H locs hP hS => ?_)
  replace hP : va_P (dC, dI) vwCl [(q_t, .inr (8, [.int 0, .ref q_t_text, .int t_textSize, .int t_place, .int t_depth, .int t_noon, .int t_later, .int t_walkers, .ref q_t_beat, .ref q_t_kind, .ref q_t_readSnow, .int t_readWalkers, .ref q_t_readWalker, .ref q_t_page, .ref q_t_trial, .ref q_t_book, .int o1, .ref q_t_kept, .ref q_t_isKept, .int t_marks, .ref q_t_markStep, .ref q_t_markTread, .long t_seed, .int 0, .ref q_t_order, .int t_lineMany, .int t_lineOrder, .int t_whoseMany, .int t_whoseFirst, .int t_restMany, .int t_restFirst, .ref q_t_gains, .ref q_t_value])), (q_t_book, .inl (cI, 238, .inl o2)), (q_t_page, .inl (cI, 17, .inl o6)), (q_t_kind, .inl (cI, 5, .inl t_kind)), (q_t_beat, .inl (cI, 5, .inl t_beat))] H := hP
  replace hD : va_D A [(q_t, .inr (8, [.int 0, .ref q_t_text, .int t_textSize, .int t_place, .int t_depth, .int t_noon, .int t_later, .int t_walkers, .ref q_t_beat, .ref q_t_kind, .ref q_t_readSnow, .int t_readWalkers, .ref q_t_readWalker, .ref q_t_page, .ref q_t_trial, .ref q_t_book, .int o1, .ref q_t_kept, .ref q_t_isKept, .int t_marks, .ref q_t_markStep, .ref q_t_markTread, .long t_seed, .int 0, .ref q_t_order, .int t_lineMany, .int t_lineOrder, .int t_whoseMany, .int t_whoseFirst, .int t_restMany, .int t_restFirst, .ref q_t_gains, .ref q_t_value])), (q_t_book, .inl (cI, 238, .inl o2)), (q_t_page, .inl (cI, 17, .inl o6)), (q_t_kind, .inl (cI, 5, .inl t_kind)), (q_t_beat, .inl (cI, 5, .inl t_beat))] := wd hD rfl
  obtain ⟨e0, hf⟩ := ij2 hf
  obtain ⟨e1, hf⟩ := ijc hf
  obtain ⟨e2, hf⟩ := ijc hf
  obtain ⟨e3, hf⟩ := ijc hf
  obtain ⟨e4, hf⟩ := ijc hf
  have e5 := hf
  refine W.eq (congrArg (fun z => F0 m 22 ls [.int z]) e0) ?_
  exact hret _ _ _ _ (by rw [← e1, ← e2, ← e3, ← e4, ← e5]; exact hP) hS dX8_step_22
abbrev rm_X8_goChange : Room := { frames := 0, cells := 0, slots := 0, locals := 0 }
set_option maxHeartbeats 4000000 in
set_option maxRecDepth 100000 in
theorem c_X8_goChange (l : Launch) (dC : Nat → ClassId) (dI : Nat → Nat → Nat) (cI cZ : ClassId) (q_a0 : Nat) (sz : Nat) (a0 : Nat → Int32) (n_a0 : Nat) (x1 : Int32) (o_a0 : Nat → Int32) (hf : f_X8_goChange x1 n_a0 a0 = some o_a0) : Met l yX8_goChange wsX8_goChange rm_X8_goChange (va_Pc [.ref q_a0, .int x1] (PU (dC, dI) cI cZ [(q_a0, .inl (cI, n_a0, .inl a0))] sz)) (va_Qv (fun (_ : Unit) => True) (fun _ t => va_P (dC, dI) vwCl [(q_a0, .inl (cI, n_a0, .inl o_a0))] t.heap) (va_A [(q_a0, .inl (cI, n_a0, .inl a0))] sz)) 0 0 (va_A [(q_a0, .inl (cI, n_a0, .inl a0))] sz) := by
  refine MetV (cc := cX8_goChange) (maxL := 3) (by decide) rfl (Nat.le_of_ble_eq_true rfl) (fun _ h => h) ?_
  intro p e s m args below meth c A Q ls hx CF hK hA hD hP hS hl hB hAe hsz hret
  have hb := CF.2.1
  have hml := CF.2.2.1
  have hown := CF.2.2.2.1
  have hts := CF.2.2.2.2
  have hD0 := hD
  replace hl : lv_has ls 3 [(0, .ref q_a0), (1, .int x1)] := hl
  rw [f_X8_goChange] at hf
  refine lv_aload_n hx hb dX8_goChange_0 rfl (lv_at hl 0 rfl) ?_
  refine lv_iconst (v := 0) hx hb dX8_goChange_1 (by decide) ?_
  refine lv_iload_n hx hb dX8_goChange_2 rfl (lv_at hl 1 rfl) ?_
  refine lv_iadd hx hb dX8_goChange_3 ?_
  refine kald hx hb hK.1 hP 0 0 rfl rfl dX8_goChange_4 hf (fun v1 hf => ?_)
  refine lv_istore_n (lv' := [(2, .int v1), (0, .ref q_a0), (1, .int x1)]) hx hb dX8_goChange_5 rfl hl (by decide) rfl (fun ls hl => ?_)
  refine lv_aload_n hx hb dX8_goChange_6 rfl (lv_at hl 1 rfl) ?_
  refine lv_iconst (v := 0) hx hb dX8_goChange_7 (by decide) ?_
  refine lv_iload_n hx hb dX8_goChange_8 rfl (lv_at hl 2 rfl) ?_
  refine lv_iadd hx hb dX8_goChange_9 ?_
  refine lv_aload_n hx hb dX8_goChange_10 rfl (lv_at hl 1 rfl) ?_
  refine lv_iconst (v := 0) hx hb dX8_goChange_11 (by decide) ?_
  refine lv_iload_n hx hb dX8_goChange_12 rfl (lv_at hl 2 rfl) ?_
  refine lv_iadd hx hb dX8_goChange_13 ?_
  refine lv_iconst (v := 1) hx hb dX8_goChange_14 (by decide) ?_
  refine lv_iadd hx hb dX8_goChange_15 ?_
  refine kald hx hb hK.1 hP 0 0 rfl rfl dX8_goChange_16 hf (fun v2 hf => ?_)
  refine kast hx hb hK.1 hP hD hS 0 0 rfl rfl dX8_goChange_17 hf (fun w3 H locs hP hD hS hf => ?_)
  replace hP : va_P (dC, dI) vwCl [(q_a0, .inl (cI, n_a0, .inl w3))] H := hP
  replace hD : va_D A [(q_a0, .inl (cI, n_a0, .inl w3))] := hD
  refine lv_aload_n hx hb dX8_goChange_18 rfl (lv_at hl 1 rfl) ?_
  refine lv_iconst (v := 0) hx hb dX8_goChange_19 (by decide) ?_
  refine lv_iload_n hx hb dX8_goChange_20 rfl (lv_at hl 2 rfl) ?_
  refine lv_iadd hx hb dX8_goChange_21 ?_
  refine lv_iconst (v := 1) hx hb dX8_goChange_22 (by decide) ?_
  refine lv_iadd hx hb dX8_goChange_23 ?_
  refine lv_iload_n hx hb dX8_goChange_24 rfl (lv_at hl 0 rfl) ?_
  refine kast hx hb hK.1 hP hD hS 0 0 rfl rfl dX8_goChange_25 hf (fun w4 H locs hP hD hS hf => ?_)
  replace hP : va_P (dC, dI) vwCl [(q_a0, .inl (cI, n_a0, .inl w4))] H := hP
  replace hD : va_D A [(q_a0, .inl (cI, n_a0, .inl w4))] := hD
  have e0 := ij1 hf
  exact hret _ _ _ _ (by rw [← e0]; exact hP) hS dX8_goChange_26
abbrev rm_X8_change : Room := { frames := 1, cells := 0, slots := 0, locals := 25 }
set_option maxHeartbeats 4000000 in
set_option maxRecDepth 100000 in
theorem c_X8_change (l : Launch) (dC : Nat → ClassId) (dI : Nat → Nat → Nat) (cI cZ : ClassId) (q_t q_t_text q_t_beat q_t_kind q_t_readSnow q_t_readWalker q_t_page q_t_trial q_t_book q_t_kept q_t_isKept q_t_markStep q_t_markTread q_t_order q_t_gains q_t_value : Nat) (sz : Nat) (t_thrown : Int32) (t_textSize : Int32) (t_place : Int32) (t_depth : Int32) (t_noon : Int32) (t_later : Int32) (t_walkers : Int32) (t_readWalkers : Int32) (t_acts : Int32) (t_marks : Int32) (t_seed : Int64) (t_stumbled : Int32) (t_lineMany : Int32) (t_lineOrder : Int32) (t_whoseMany : Int32) (t_whoseFirst : Int32) (t_restMany : Int32) (t_restFirst : Int32) (t_book : Nat → Int32) (t_page : Nat → Int32) (x1 : Int32) (r_ : Int32) (o_t_thrown : Int32) (o_t_acts : Int32) (o_t_book : Nat → Int32) (o_t_page : Nat → Int32) (hf : f_X8_change x1 t_thrown t_walkers t_acts t_book t_page = some (r_, o_t_thrown, o_t_acts, o_t_book, o_t_page)) : Met l yX8_change wsX8_change rm_X8_change (va_Pc [.ref q_t, .int x1] (PU (dC, dI) cI cZ [(q_t, .inr (8, [.int t_thrown, .ref q_t_text, .int t_textSize, .int t_place, .int t_depth, .int t_noon, .int t_later, .int t_walkers, .ref q_t_beat, .ref q_t_kind, .ref q_t_readSnow, .int t_readWalkers, .ref q_t_readWalker, .ref q_t_page, .ref q_t_trial, .ref q_t_book, .int t_acts, .ref q_t_kept, .ref q_t_isKept, .int t_marks, .ref q_t_markStep, .ref q_t_markTread, .long t_seed, .int t_stumbled, .ref q_t_order, .int t_lineMany, .int t_lineOrder, .int t_whoseMany, .int t_whoseFirst, .int t_restMany, .int t_restFirst, .ref q_t_gains, .ref q_t_value])), (q_t_book, .inl (cI, 238, .inl t_book)), (q_t_page, .inl (cI, 17, .inl t_page))] sz)) (va_Qi (fun (r : Int32) (_ : Unit) => r = r_) (fun _ t => va_P (dC, dI) vwCl [(q_t, .inr (8, [.int o_t_thrown, .ref q_t_text, .int t_textSize, .int t_place, .int t_depth, .int t_noon, .int t_later, .int t_walkers, .ref q_t_beat, .ref q_t_kind, .ref q_t_readSnow, .int t_readWalkers, .ref q_t_readWalker, .ref q_t_page, .ref q_t_trial, .ref q_t_book, .int o_t_acts, .ref q_t_kept, .ref q_t_isKept, .int t_marks, .ref q_t_markStep, .ref q_t_markTread, .long t_seed, .int t_stumbled, .ref q_t_order, .int t_lineMany, .int t_lineOrder, .int t_whoseMany, .int t_whoseFirst, .int t_restMany, .int t_restFirst, .ref q_t_gains, .ref q_t_value])), (q_t_book, .inl (cI, 238, .inl o_t_book)), (q_t_page, .inl (cI, 17, .inl o_t_page))] t.heap) (va_A [(q_t, .inr (8, [.int t_thrown, .ref q_t_text, .int t_textSize, .int t_place, .int t_depth, .int t_noon, .int t_later, .int t_walkers, .ref q_t_beat, .ref q_t_kind, .ref q_t_readSnow, .int t_readWalkers, .ref q_t_readWalker, .ref q_t_page, .ref q_t_trial, .ref q_t_book, .int t_acts, .ref q_t_kept, .ref q_t_isKept, .int t_marks, .ref q_t_markStep, .ref q_t_markTread, .long t_seed, .int t_stumbled, .ref q_t_order, .int t_lineMany, .int t_lineOrder, .int t_whoseMany, .int t_whoseFirst, .int t_restMany, .int t_restFirst, .ref q_t_gains, .ref q_t_value])), (q_t_book, .inl (cI, 238, .inl t_book)), (q_t_page, .inl (cI, 17, .inl t_page))] sz)) 0 0 (va_A [(q_t, .inr (8, [.int t_thrown, .ref q_t_text, .int t_textSize, .int t_place, .int t_depth, .int t_noon, .int t_later, .int t_walkers, .ref q_t_beat, .ref q_t_kind, .ref q_t_readSnow, .int t_readWalkers, .ref q_t_readWalker, .ref q_t_page, .ref q_t_trial, .ref q_t_book, .int t_acts, .ref q_t_kept, .ref q_t_isKept, .int t_marks, .ref q_t_markStep, .ref q_t_markTread, .long t_seed, .int t_stumbled, .ref q_t_order, .int t_lineMany, .int t_lineOrder, .int t_whoseMany, .int t_whoseFirst, .int t_restMany, .int t_restFirst, .ref q_t_gains, .ref q_t_value])), (q_t_book, .inl (cI, 238, .inl t_book)), (q_t_page, .inl (cI, 17, .inl t_page))] sz) := by
  refine MetI (cc := cX8_change) (maxL := 2) (by decide) rfl (Nat.le_of_ble_eq_true rfl) (fun _ h => h) ?_
  intro p e s m args below meth c A Q ls hx CF hK hA hD hP hS hl hB hAe hsz hret
  have hb := CF.2.1
  have hml := CF.2.2.1
  have hown := CF.2.2.2.1
  have hts := CF.2.2.2.2
  have hD0 := hD
  replace hl : lv_has ls 2 [(0, .ref q_t), (1, .int x1)] := hl
  have hinX8 : ∀ w ∈ wsX80, w ∈ wsX8_change := fun _ h => List.mem_cons_of_mem _ (List.mem_append_right _ h)
  have w_0 := hts (.fieldLink RX8 63 "PassInStepModel" "thrown" "I") (by decide +kernel)
  have w_1 := hts (.fieldLink RX8 66 "PassInStepModel" "walkers" "I") (by decide +kernel)
  have w_2 := hts (.fieldLink RX8 32 "PassInStepModel" "page" "[I") (by decide +kernel)
  rw [f_X8_change] at hf
  refine lv_aload_n hx hb dX8_change_0 rfl (lv_at hl 0 rfl) ?_
  refine lv_iconst (v := 0) hx hb dX8_change_1 (by decide) ?_
  refine va_put (D := (dC, dI)) (ci := 8) (v := .int 0) (ty := .int) (C := RX8) (T := TX8) (N := 33) hx hb hts hinX8 tyX8 tyX8_ok nmX8 hown hK.1 hP hD hS 0 rfl rfl 0 (by decide) w_0 (fun _ h9 => h9) rfl (by decide +kernel) rfl rfl (Nat.le_of_ble_eq_true rfl) dX8_change_2 (fun H locs hP hD hS => ?_)
  replace hP : va_P (dC, dI) vwCl [(q_t, .inr (8, [.int 0, .ref q_t_text, .int t_textSize, .int t_place, .int t_depth, .int t_noon, .int t_later, .int t_walkers, .ref q_t_beat, .ref q_t_kind, .ref q_t_readSnow, .int t_readWalkers, .ref q_t_readWalker, .ref q_t_page, .ref q_t_trial, .ref q_t_book, .int t_acts, .ref q_t_kept, .ref q_t_isKept, .int t_marks, .ref q_t_markStep, .ref q_t_markTread, .long t_seed, .int t_stumbled, .ref q_t_order, .int t_lineMany, .int t_lineOrder, .int t_whoseMany, .int t_whoseFirst, .int t_restMany, .int t_restFirst, .ref q_t_gains, .ref q_t_value])), (q_t_book, .inl (cI, 238, .inl t_book)), (q_t_page, .inl (cI, 17, .inl t_page))] H := hP
  replace hD : va_D A [(q_t, .inr (8, [.int 0, .ref q_t_text, .int t_textSize, .int t_place, .int t_depth, .int t_noon, .int t_later, .int t_walkers, .ref q_t_beat, .ref q_t_kind, .ref q_t_readSnow, .int t_readWalkers, .ref q_t_readWalker, .ref q_t_page, .ref q_t_trial, .ref q_t_book, .int t_acts, .ref q_t_kept, .ref q_t_isKept, .int t_marks, .ref q_t_markStep, .ref q_t_markTread, .long t_seed, .int t_stumbled, .ref q_t_order, .int t_lineMany, .int t_lineOrder, .int t_whoseMany, .int t_whoseFirst, .int t_restMany, .int t_restFirst, .ref q_t_gains, .ref q_t_value])), (q_t_book, .inl (cI, 238, .inl t_book)), (q_t_page, .inl (cI, 17, .inl t_page))] := hD
  refine lv_iload_n hx hb dX8_change_5 rfl (lv_at hl 1 rfl) ?_
  refine lv_i2l hx hb dX8_change_6 rfl ?_
  refine lv_lconst (v := 0) hx hb dX8_change_7 (by decide) ?_
  refine lv_aload_n hx hb dX8_change_8 rfl (lv_at hl 0 rfl) ?_
  refine va_get (D := (dC, dI)) (ci := 8) (v := .int t_walkers) (C := RX8) (T := TX8) (N := 33) hx hb hts hinX8 hown hK.1 hP 0 rfl rfl 7 (by decide) w_1 (fun _ h9 => h9) rfl dX8_change_9 ?_
  refine lv_iconst (v := 2) hx hb dX8_change_12 (by decide) ?_
  refine lv_isub hx hb dX8_change_13 ?_
  refine lv_i2l hx hb dX8_change_14 rfl ?_
  obtain ⟨r1, e3, hf⟩ := bd_ok hf
  refine kSi (As := [.long ((x1).toInt64), .long (0 : Int64), .long (((t_walkers - 2)).toInt64)]) CF (va_cwS 3 hts gX8_change_X8_in rfl rfl rfl (by decide +kernel) ⟨Nat.le_of_ble_eq_true rfl, Nat.le_of_ble_eq_true rfl⟩) PU_blind hP hD hS hA [] (fun h1 h2 h3 => PU_pre hK h1 A h2 h3) (c_X8_in l dC dI cI cZ _ ((x1).toInt64) (0 : Int64) (((t_walkers - 2)).toInt64) r1 e3) rfl rfl rfl rfl hl.1 rfl (Nat.le_of_ble_eq_true rfl) dX8_change_15 ⟨Nat.zero_le _, Nat.zero_le _⟩ (fun H locs hP hS => ?_)
  replace hP : va_P (dC, dI) vwCl [(q_t, .inr (8, [.int 0, .ref q_t_text, .int t_textSize, .int t_place, .int t_depth, .int t_noon, .int t_later, .int t_walkers, .ref q_t_beat, .ref q_t_kind, .ref q_t_readSnow, .int t_readWalkers, .ref q_t_readWalker, .ref q_t_page, .ref q_t_trial, .ref q_t_book, .int t_acts, .ref q_t_kept, .ref q_t_isKept, .int t_marks, .ref q_t_markStep, .ref q_t_markTread, .long t_seed, .int t_stumbled, .ref q_t_order, .int t_lineMany, .int t_lineOrder, .int t_whoseMany, .int t_whoseFirst, .int t_restMany, .int t_restFirst, .ref q_t_gains, .ref q_t_value])), (q_t_book, .inl (cI, 238, .inl t_book)), (q_t_page, .inl (cI, 17, .inl t_page))] H := hP
  refine lv_if_ne (tgt := 23) hx hb dX8_change_18 (by decide) (fun hc => ?_) (fun hc => ?_)
  · replace hf := iq hc hf
    refine lv_aload_n hx hb dX8_change_23 rfl (lv_at hl 0 rfl) ?_
    obtain ⟨⟨o4, o5⟩, e7, hf⟩ := bd_ok hf
    refine kVv (As := []) CF (cwV 0 hts gX8_change_X8_note rfl rfl rfl (by decide +kernel) ⟨Nat.le_of_ble_eq_true rfl, Nat.le_of_ble_eq_true rfl⟩) PU_blind hP hD hS hA (va_recv hK.1 hP (ci := 8) (q0 := 0) rfl rfl) [0, 1, 2] (fun h1 h2 h3 => PU_pre hK h1 A h2 h3) (c_X8_note l dC dI cI cZ q_t q_t_text q_t_beat q_t_kind q_t_readSnow q_t_readWalker q_t_page q_t_trial q_t_book q_t_kept q_t_isKept q_t_markStep q_t_markTread q_t_order q_t_gains q_t_value _ 0 t_textSize t_place t_depth t_noon t_later t_walkers t_readWalkers t_acts t_marks t_seed t_stumbled t_lineMany t_lineOrder t_whoseMany t_whoseFirst t_restMany t_restFirst t_book t_page o4 o5 e7) rfl rfl rfl rfl hl.1 rfl (Nat.le_of_ble_eq_true rfl) dX8_change_24 ⟨Nat.zero_le _, Nat.zero_le _⟩ (fun H locs hP hS => ?_)
    replace hP : va_P (dC, dI) vwCl [(q_t, .inr (8, [.int 0, .ref q_t_text, .int t_textSize, .int t_place, .int t_depth, .int t_noon, .int t_later, .int t_walkers, .ref q_t_beat, .ref q_t_kind, .ref q_t_readSnow, .int t_readWalkers, .ref q_t_readWalker, .ref q_t_page, .ref q_t_trial, .ref q_t_book, .int o4, .ref q_t_kept, .ref q_t_isKept, .int t_marks, .ref q_t_markStep, .ref q_t_markTread, .long t_seed, .int t_stumbled, .ref q_t_order, .int t_lineMany, .int t_lineOrder, .int t_whoseMany, .int t_whoseFirst, .int t_restMany, .int t_restFirst, .ref q_t_gains, .ref q_t_value])), (q_t_book, .inl (cI, 238, .inl o5)), (q_t_page, .inl (cI, 17, .inl t_page))] H := hP
    replace hD : va_D A [(q_t, .inr (8, [.int 0, .ref q_t_text, .int t_textSize, .int t_place, .int t_depth, .int t_noon, .int t_later, .int t_walkers, .ref q_t_beat, .ref q_t_kind, .ref q_t_readSnow, .int t_readWalkers, .ref q_t_readWalker, .ref q_t_page, .ref q_t_trial, .ref q_t_book, .int o4, .ref q_t_kept, .ref q_t_isKept, .int t_marks, .ref q_t_markStep, .ref q_t_markTread, .long t_seed, .int t_stumbled, .ref q_t_order, .int t_lineMany, .int t_lineOrder, .int t_whoseMany, .int t_whoseFirst, .int t_restMany, .int t_restFirst, .ref q_t_gains, .ref q_t_value])), (q_t_book, .inl (cI, 238, .inl o5)), (q_t_page, .inl (cI, 17, .inl t_page))] := wd hD rfl
    refine lv_aload_n hx hb dX8_change_27 rfl (lv_at hl 0 rfl) ?_
    refine va_get (D := (dC, dI)) (ci := 8) (v := .ref q_t_page) (C := RX8) (T := TX8) (N := 33) hx hb hts hinX8 hown hK.1 hP 0 rfl rfl 13 (by decide) w_2 (fun _ h9 => h9) rfl dX8_change_28 ?_
    refine lv_iload_n hx hb dX8_change_31 rfl (lv_at hl 1 rfl) ?_
    obtain ⟨o8, e10, hf⟩ := bd_ok hf
    refine kSv (As := [.ref q_t_page, .int x1]) CF (va_cwS 2 hts gX8_change_X8_goChange rfl rfl rfl (by decide +kernel) ⟨Nat.le_of_ble_eq_true rfl, Nat.le_of_ble_eq_true rfl⟩) PU_blind hP hD hS hA [2] (fun h1 h2 h3 => PU_pre hK h1 A h2 h3) (c_X8_goChange l dC dI cI cZ q_t_page _ t_page 17 x1 o8 e10) rfl rfl rfl rfl hl.1 rfl (Nat.le_of_ble_eq_true rfl) dX8_change_32 ⟨Nat.zero_le _, Nat.zero_le _⟩ (fun H locs hP hS => ?_)
    replace hP : va_P (dC, dI) vwCl [(q_t, .inr (8, [.int 0, .ref q_t_text, .int t_textSize, .int t_place, .int t_depth, .int t_noon, .int t_later, .int t_walkers, .ref q_t_beat, .ref q_t_kind, .ref q_t_readSnow, .int t_readWalkers, .ref q_t_readWalker, .ref q_t_page, .ref q_t_trial, .ref q_t_book, .int o4, .ref q_t_kept, .ref q_t_isKept, .int t_marks, .ref q_t_markStep, .ref q_t_markTread, .long t_seed, .int t_stumbled, .ref q_t_order, .int t_lineMany, .int t_lineOrder, .int t_whoseMany, .int t_whoseFirst, .int t_restMany, .int t_restFirst, .ref q_t_gains, .ref q_t_value])), (q_t_book, .inl (cI, 238, .inl o5)), (q_t_page, .inl (cI, 17, .inl o8))] H := hP
    replace hD : va_D A [(q_t, .inr (8, [.int 0, .ref q_t_text, .int t_textSize, .int t_place, .int t_depth, .int t_noon, .int t_later, .int t_walkers, .ref q_t_beat, .ref q_t_kind, .ref q_t_readSnow, .int t_readWalkers, .ref q_t_readWalker, .ref q_t_page, .ref q_t_trial, .ref q_t_book, .int o4, .ref q_t_kept, .ref q_t_isKept, .int t_marks, .ref q_t_markStep, .ref q_t_markTread, .long t_seed, .int t_stumbled, .ref q_t_order, .int t_lineMany, .int t_lineOrder, .int t_whoseMany, .int t_whoseFirst, .int t_restMany, .int t_restFirst, .ref q_t_gains, .ref q_t_value])), (q_t_book, .inl (cI, 238, .inl o5)), (q_t_page, .inl (cI, 17, .inl o8))] := wd hD rfl
    refine lv_aload_n hx hb dX8_change_35 rfl (lv_at hl 0 rfl) ?_
    refine va_get (D := (dC, dI)) (ci := 8) (v := .ref q_t_page) (C := RX8) (T := TX8) (N := 33) hx hb hts hinX8 hown hK.1 hP 0 rfl rfl 13 (by decide) w_2 (fun _ h9 => h9) rfl dX8_change_36 ?_
    refine lv_iconst (v := 0) hx hb dX8_change_39 (by decide) ?_
    refine lv_iload_n hx hb dX8_change_40 rfl (lv_at hl 1 rfl) ?_
    refine lv_iadd hx hb dX8_change_41 ?_
    refine kald hx hb hK.1 hP 2 0 rfl rfl dX8_change_42 hf (fun v11 hf => ?_)
    obtain ⟨e0, hf⟩ := ij2 hf
    obtain ⟨e1, hf⟩ := ijc hf
    obtain ⟨e2, hf⟩ := ijc hf
    obtain ⟨e3, hf⟩ := ijc hf
    have e4 := hf
    refine W.eq (congrArg (fun z => F0 m 43 ls [.int z]) e0) ?_
    exact hret _ _ _ _ (by rw [← e1, ← e2, ← e3, ← e4]; exact hP) hS dX8_change_43
  · replace hf := ip hc hf
    refine lv_iconst (v := (-1)) hx hb dX8_change_21 (by decide) ?_
    obtain ⟨e0, hf⟩ := ij2 hf
    obtain ⟨e1, hf⟩ := ijc hf
    obtain ⟨e2, hf⟩ := ijc hf
    obtain ⟨e3, hf⟩ := ijc hf
    have e4 := hf
    refine W.eq (congrArg (fun z => F0 m 22 ls [.int z]) e0) ?_
    exact hret _ _ _ _ (by rw [← e1, ← e2, ← e3, ← e4]; exact hP) hS dX8_change_22
abbrev rm_X8_canDrill : Room := { frames := 1, cells := 0, slots := 0, locals := 25 }
set_option maxHeartbeats 4000000 in
set_option maxRecDepth 100000 in
theorem c_X8_canDrill (l : Launch) (dC : Nat → ClassId) (dI : Nat → Nat → Nat) (cI cZ : ClassId) (q_a0 : Nat) (sz : Nat) (a0 : Nat → Int32) (n_a0 : Nat) (x1 : Int32) (x2 : Int32) (r_ : Int32) (hf : f_X8_canDrill x1 x2 n_a0 a0 = some r_) : Met l yX8_canDrill wsX8_canDrill rm_X8_canDrill (va_Pc [.ref q_a0, .int x1, .int x2] (PU (dC, dI) cI cZ [(q_a0, .inl (cI, n_a0, .inl a0))] sz)) (va_Qi (fun (r : Int32) (_ : Unit) => r = r_) (fun _ t => va_P (dC, dI) vwCl [(q_a0, .inl (cI, n_a0, .inl a0))] t.heap) (va_A [(q_a0, .inl (cI, n_a0, .inl a0))] sz)) 0 0 (va_A [(q_a0, .inl (cI, n_a0, .inl a0))] sz) := by
  refine MetZ (cc := cX8_canDrill) (maxL := 3) (by decide) rfl (Nat.le_of_ble_eq_true rfl) (fun _ h => h) ?_
  intro p e s m args below meth c A Q ls hx CF hK hA hD hP hS hl hB hAe hsz hret
  have hb := CF.2.1
  have hml := CF.2.2.1
  have hown := CF.2.2.2.1
  have hts := CF.2.2.2.2
  have hD0 := hD
  replace hl : lv_has ls 3 [(0, .ref q_a0), (1, .int x1), (2, .int x2)] := hl
  have w_0 := hts (.constantLong RX8 152 (9)) (by decide +kernel)
  have h_43 : ∀ (H : Heap) (locs : List Loc) (ls : Array Slot), va_P (dC, dI) vwCl [(q_a0, .inl (cI, n_a0, .inl a0))] H → va_S A s.heap H locs → lv_has ls 3 [] → J_X8_canDrill_43 = some r_ → W p l e rm_X8_canDrill s m args below meth c H locs 0 0 Q (F0 m 43 ls []) := by
    intro  H locs ls hP hS hl hf
    have hD : va_D A [(q_a0, .inl (cI, n_a0, .inl a0))] := wd hD0 rfl
    rw [J_X8_canDrill_43] at hf
    refine lv_iconst (v := 0) hx hb dX8_canDrill_43 (by decide) ?_
    have e0 := ij1 hf
    refine W.eq (congrArg (fun z => F0 m 44 ls [.int z]) e0) ?_
    exact hret _ _ _ _ hP hS (by rw [← e0]; rfl) dX8_canDrill_44
  rw [f_X8_canDrill] at hf
  refine lv_aload_n hx hb dX8_canDrill_0 rfl (lv_at hl 0 rfl) ?_
  refine lv_iconst (v := 5) hx hb dX8_canDrill_1 (by decide) ?_
  refine lv_iload_n hx hb dX8_canDrill_2 rfl (lv_at hl 1 rfl) ?_
  refine lv_iadd hx hb dX8_canDrill_3 ?_
  refine kald hx hb hK.1 hP 0 0 rfl rfl dX8_canDrill_4 hf (fun v1 hf => ?_)
  refine lv_iload_n hx hb dX8_canDrill_5 rfl (lv_at hl 2 rfl) ?_
  refine lv_iadd hx hb dX8_canDrill_6 ?_
  refine lv_i2l hx hb dX8_canDrill_7 rfl ?_
  refine lv_lconst (v := 1) hx hb dX8_canDrill_8 (by decide) ?_
  refine lv_ldc2 (v := 9) hx hb hown w_0 dX8_canDrill_9 ?_
  obtain ⟨r2, e4, hf⟩ := bd_ok hf
  refine kSi (As := [.long (((v1 + x2)).toInt64), .long (1 : Int64), .long (9 : Int64)]) CF (va_cwS 3 hts gX8_canDrill_X8_in rfl rfl rfl (by decide +kernel) ⟨Nat.le_of_ble_eq_true rfl, Nat.le_of_ble_eq_true rfl⟩) PU_blind hP hD hS hA [] (fun h1 h2 h3 => PU_pre hK h1 A h2 h3) (c_X8_in l dC dI cI cZ _ (((v1 + x2)).toInt64) (1 : Int64) (9 : Int64) r2 e4) rfl rfl rfl rfl hl.1 rfl (Nat.le_of_ble_eq_true rfl) dX8_canDrill_12 ⟨Nat.zero_le _, Nat.zero_le _⟩ (fun H locs hP hS => ?_)
  replace hP : va_P (dC, dI) vwCl [(q_a0, .inl (cI, n_a0, .inl a0))] H := hP
  refine lv_if_eq (tgt := 43) hx hb dX8_canDrill_15 (by decide) (fun hc => ?_) (fun hc => ?_)
  · replace hf := ip hc hf
    exact h_43 _ _ _ hP hS (lv_sub hl [] rfl) hf
  · replace hf := iq hc hf
    refine lv_aload_n hx hb dX8_canDrill_18 rfl (lv_at hl 0 rfl) ?_
    refine lv_bipush (v := 10) hx hb dX8_canDrill_19 (by decide) ?_
    refine lv_iload_n hx hb dX8_canDrill_21 rfl (lv_at hl 1 rfl) ?_
    refine lv_iadd hx hb dX8_canDrill_22 ?_
    refine kald hx hb hK.1 hP 0 0 rfl rfl dX8_canDrill_23 hf (fun v5 hf => ?_)
    refine lv_iconst (v := 5) hx hb dX8_canDrill_24 (by decide) ?_
    refine lv_icmp_ge (tgt := 43) hx hb dX8_canDrill_25 (by decide) (fun hc => ?_) (fun hc => ?_)
    · replace hf := ip hc hf
      exact h_43 _ _ _ hP hS (lv_sub hl [] rfl) hf
    · replace hf := iq hc hf
      refine lv_aload_n hx hb dX8_canDrill_28 rfl (lv_at hl 0 rfl) ?_
      refine lv_bipush (v := 15) hx hb dX8_canDrill_29 (by decide) ?_
      refine kald hx hb hK.1 hP 0 0 rfl rfl dX8_canDrill_31 hf (fun v6 hf => ?_)
      refine lv_iload_n hx hb dX8_canDrill_32 rfl (lv_at hl 1 rfl) ?_
      obtain ⟨r7, e9, hf⟩ := bd_ok hf
      refine kSi (As := [.int v6, .int x1]) CF (va_cwS 2 hts gX8_canDrill_X8_has rfl rfl rfl (by decide +kernel) ⟨Nat.le_of_ble_eq_true rfl, Nat.le_of_ble_eq_true rfl⟩) PU_blind hP hD hS hA [] (fun h1 h2 h3 => PU_pre hK h1 A h2 h3) (c_X8_has l dC dI cI cZ _ v6 x1 r7 e9) rfl rfl rfl rfl hl.1 rfl (Nat.le_of_ble_eq_true rfl) dX8_canDrill_33 ⟨Nat.zero_le _, Nat.zero_le _⟩ (fun H locs hP hS => ?_)
      replace hP : va_P (dC, dI) vwCl [(q_a0, .inl (cI, n_a0, .inl a0))] H := hP
      refine lv_if_ne (tgt := 43) hx hb dX8_canDrill_36 (by decide) (fun hc => ?_) (fun hc => ?_)
      · replace hf := iq hc hf
        exact h_43 _ _ _ hP hS (lv_sub hl [] rfl) hf
      · replace hf := ip hc hf
        refine lv_iconst (v := 1) hx hb dX8_canDrill_39 (by decide) ?_
        refine lv_goto (tgt := 44) hx hb dX8_canDrill_40 (by decide) ?_
        have e0 := ij1 hf
        refine W.eq (congrArg (fun z => F0 m 44 ls [.int z]) e0) ?_
        exact hret _ _ _ _ hP hS (by rw [← e0]; rfl) dX8_canDrill_44
abbrev rm_X8_goDrill : Room := { frames := 0, cells := 0, slots := 0, locals := 0 }
set_option maxHeartbeats 4000000 in
set_option maxRecDepth 100000 in
theorem c_X8_goDrill (l : Launch) (dC : Nat → ClassId) (dI : Nat → Nat → Nat) (cI cZ : ClassId) (q_a0 : Nat) (sz : Nat) (a0 : Nat → Int32) (n_a0 : Nat) (x1 : Int32) (x2 : Int32) (o_a0 : Nat → Int32) (hf : f_X8_goDrill x1 x2 n_a0 a0 = some o_a0) : Met l yX8_goDrill wsX8_goDrill rm_X8_goDrill (va_Pc [.ref q_a0, .int x1, .int x2] (PU (dC, dI) cI cZ [(q_a0, .inl (cI, n_a0, .inl a0))] sz)) (va_Qv (fun (_ : Unit) => True) (fun _ t => va_P (dC, dI) vwCl [(q_a0, .inl (cI, n_a0, .inl o_a0))] t.heap) (va_A [(q_a0, .inl (cI, n_a0, .inl a0))] sz)) 0 0 (va_A [(q_a0, .inl (cI, n_a0, .inl a0))] sz) := by
  refine MetV (cc := cX8_goDrill) (maxL := 3) (by decide) rfl (Nat.le_of_ble_eq_true rfl) (fun _ h => h) ?_
  intro p e s m args below meth c A Q ls hx CF hK hA hD hP hS hl hB hAe hsz hret
  have hb := CF.2.1
  have hml := CF.2.2.1
  have hown := CF.2.2.2.1
  have hts := CF.2.2.2.2
  have hD0 := hD
  replace hl : lv_has ls 3 [(0, .ref q_a0), (1, .int x1), (2, .int x2)] := hl
  rw [f_X8_goDrill] at hf
  refine lv_aload_n hx hb dX8_goDrill_0 rfl (lv_at hl 0 rfl) ?_
  refine lv_iconst (v := 5) hx hb dX8_goDrill_1 (by decide) ?_
  refine lv_iload_n hx hb dX8_goDrill_2 rfl (lv_at hl 1 rfl) ?_
  refine lv_iadd hx hb dX8_goDrill_3 ?_
  refine lv_dup2_11 hx hb dX8_goDrill_4 rfl rfl ?_
  refine kald hx hb hK.1 hP 0 0 rfl rfl dX8_goDrill_5 hf (fun v1 hf => ?_)
  refine lv_iload_n hx hb dX8_goDrill_6 rfl (lv_at hl 2 rfl) ?_
  refine lv_iadd hx hb dX8_goDrill_7 ?_
  refine kast hx hb hK.1 hP hD hS 0 0 rfl rfl dX8_goDrill_8 hf (fun w2 H locs hP hD hS hf => ?_)
  replace hP : va_P (dC, dI) vwCl [(q_a0, .inl (cI, n_a0, .inl w2))] H := hP
  replace hD : va_D A [(q_a0, .inl (cI, n_a0, .inl w2))] := hD
  refine lv_aload_n hx hb dX8_goDrill_9 rfl (lv_at hl 0 rfl) ?_
  refine lv_bipush (v := 10) hx hb dX8_goDrill_10 (by decide) ?_
  refine lv_iload_n hx hb dX8_goDrill_12 rfl (lv_at hl 1 rfl) ?_
  refine lv_iadd hx hb dX8_goDrill_13 ?_
  refine lv_dup2_11 hx hb dX8_goDrill_14 rfl rfl ?_
  refine kald hx hb hK.1 hP 0 0 rfl rfl dX8_goDrill_15 hf (fun v3 hf => ?_)
  refine lv_iconst (v := 1) hx hb dX8_goDrill_16 (by decide) ?_
  refine lv_iadd hx hb dX8_goDrill_17 ?_
  refine kast hx hb hK.1 hP hD hS 0 0 rfl rfl dX8_goDrill_18 hf (fun w4 H locs hP hD hS hf => ?_)
  replace hP : va_P (dC, dI) vwCl [(q_a0, .inl (cI, n_a0, .inl w4))] H := hP
  replace hD : va_D A [(q_a0, .inl (cI, n_a0, .inl w4))] := hD
  have e0 := ij1 hf
  exact hret _ _ _ _ (by rw [← e0]; exact hP) hS dX8_goDrill_19
abbrev rm_X8_drill : Room := { frames := 2, cells := 0, slots := 0, locals := 47 }
set_option maxHeartbeats 4000000 in
set_option maxRecDepth 100000 in
theorem c_X8_drill (l : Launch) (dC : Nat → ClassId) (dI : Nat → Nat → Nat) (cI cZ : ClassId) (q_t q_t_text q_t_beat q_t_kind q_t_readSnow q_t_readWalker q_t_page q_t_trial q_t_book q_t_kept q_t_isKept q_t_markStep q_t_markTread q_t_order q_t_gains q_t_value : Nat) (sz : Nat) (t_thrown : Int32) (t_textSize : Int32) (t_place : Int32) (t_depth : Int32) (t_noon : Int32) (t_later : Int32) (t_walkers : Int32) (t_readWalkers : Int32) (t_acts : Int32) (t_marks : Int32) (t_seed : Int64) (t_stumbled : Int32) (t_lineMany : Int32) (t_lineOrder : Int32) (t_whoseMany : Int32) (t_whoseFirst : Int32) (t_restMany : Int32) (t_restFirst : Int32) (t_page : Nat → Int32) (t_book : Nat → Int32) (x1 : Int32) (x2 : Int32) (r_ : Int32) (o_t_thrown : Int32) (o_t_acts : Int32) (o_t_page : Nat → Int32) (o_t_book : Nat → Int32) (hf : f_X8_drill x1 x2 t_thrown t_walkers t_acts t_page t_book = some (r_, o_t_thrown, o_t_acts, o_t_page, o_t_book)) : Met l yX8_drill wsX8_drill rm_X8_drill (va_Pc [.ref q_t, .int x1, .int x2] (PU (dC, dI) cI cZ [(q_t, .inr (8, [.int t_thrown, .ref q_t_text, .int t_textSize, .int t_place, .int t_depth, .int t_noon, .int t_later, .int t_walkers, .ref q_t_beat, .ref q_t_kind, .ref q_t_readSnow, .int t_readWalkers, .ref q_t_readWalker, .ref q_t_page, .ref q_t_trial, .ref q_t_book, .int t_acts, .ref q_t_kept, .ref q_t_isKept, .int t_marks, .ref q_t_markStep, .ref q_t_markTread, .long t_seed, .int t_stumbled, .ref q_t_order, .int t_lineMany, .int t_lineOrder, .int t_whoseMany, .int t_whoseFirst, .int t_restMany, .int t_restFirst, .ref q_t_gains, .ref q_t_value])), (q_t_page, .inl (cI, 17, .inl t_page)), (q_t_book, .inl (cI, 238, .inl t_book))] sz)) (va_Qi (fun (r : Int32) (_ : Unit) => r = r_) (fun _ t => va_P (dC, dI) vwCl [(q_t, .inr (8, [.int o_t_thrown, .ref q_t_text, .int t_textSize, .int t_place, .int t_depth, .int t_noon, .int t_later, .int t_walkers, .ref q_t_beat, .ref q_t_kind, .ref q_t_readSnow, .int t_readWalkers, .ref q_t_readWalker, .ref q_t_page, .ref q_t_trial, .ref q_t_book, .int o_t_acts, .ref q_t_kept, .ref q_t_isKept, .int t_marks, .ref q_t_markStep, .ref q_t_markTread, .long t_seed, .int t_stumbled, .ref q_t_order, .int t_lineMany, .int t_lineOrder, .int t_whoseMany, .int t_whoseFirst, .int t_restMany, .int t_restFirst, .ref q_t_gains, .ref q_t_value])), (q_t_page, .inl (cI, 17, .inl o_t_page)), (q_t_book, .inl (cI, 238, .inl o_t_book))] t.heap) (va_A [(q_t, .inr (8, [.int t_thrown, .ref q_t_text, .int t_textSize, .int t_place, .int t_depth, .int t_noon, .int t_later, .int t_walkers, .ref q_t_beat, .ref q_t_kind, .ref q_t_readSnow, .int t_readWalkers, .ref q_t_readWalker, .ref q_t_page, .ref q_t_trial, .ref q_t_book, .int t_acts, .ref q_t_kept, .ref q_t_isKept, .int t_marks, .ref q_t_markStep, .ref q_t_markTread, .long t_seed, .int t_stumbled, .ref q_t_order, .int t_lineMany, .int t_lineOrder, .int t_whoseMany, .int t_whoseFirst, .int t_restMany, .int t_restFirst, .ref q_t_gains, .ref q_t_value])), (q_t_page, .inl (cI, 17, .inl t_page)), (q_t_book, .inl (cI, 238, .inl t_book))] sz)) 0 0 (va_A [(q_t, .inr (8, [.int t_thrown, .ref q_t_text, .int t_textSize, .int t_place, .int t_depth, .int t_noon, .int t_later, .int t_walkers, .ref q_t_beat, .ref q_t_kind, .ref q_t_readSnow, .int t_readWalkers, .ref q_t_readWalker, .ref q_t_page, .ref q_t_trial, .ref q_t_book, .int t_acts, .ref q_t_kept, .ref q_t_isKept, .int t_marks, .ref q_t_markStep, .ref q_t_markTread, .long t_seed, .int t_stumbled, .ref q_t_order, .int t_lineMany, .int t_lineOrder, .int t_whoseMany, .int t_whoseFirst, .int t_restMany, .int t_restFirst, .ref q_t_gains, .ref q_t_value])), (q_t_page, .inl (cI, 17, .inl t_page)), (q_t_book, .inl (cI, 238, .inl t_book))] sz) := by
  refine MetI (cc := cX8_drill) (maxL := 3) (by decide) rfl (Nat.le_of_ble_eq_true rfl) (fun _ h => h) ?_
  intro p e s m args below meth c A Q ls hx CF hK hA hD hP hS hl hB hAe hsz hret
  have hb := CF.2.1
  have hml := CF.2.2.1
  have hown := CF.2.2.2.1
  have hts := CF.2.2.2.2
  have hD0 := hD
  replace hl : lv_has ls 3 [(0, .ref q_t), (1, .int x1), (2, .int x2)] := hl
  have hinX8 : ∀ w ∈ wsX80, w ∈ wsX8_drill := fun _ h => List.mem_cons_of_mem _ (List.mem_append_right _ h)
  have w_0 := hts (.fieldLink RX8 32 "PassInStepModel" "page" "[I") (by decide +kernel)
  have w_1 := hts (.fieldLink RX8 63 "PassInStepModel" "thrown" "I") (by decide +kernel)
  have h_56 : ∀ (x1 : Int32) (s0 : Int32) (s1 : Int32) (t_thrown : Int32) (t_acts : Int32) (t_page : Nat → Int32) (t_book : Nat → Int32) (H : Heap) (locs : List Loc) (ls : Array Slot), va_P (dC, dI) vwCl [(q_t, .inr (8, [.int t_thrown, .ref q_t_text, .int t_textSize, .int t_place, .int t_depth, .int t_noon, .int t_later, .int t_walkers, .ref q_t_beat, .ref q_t_kind, .ref q_t_readSnow, .int t_readWalkers, .ref q_t_readWalker, .ref q_t_page, .ref q_t_trial, .ref q_t_book, .int t_acts, .ref q_t_kept, .ref q_t_isKept, .int t_marks, .ref q_t_markStep, .ref q_t_markTread, .long t_seed, .int t_stumbled, .ref q_t_order, .int t_lineMany, .int t_lineOrder, .int t_whoseMany, .int t_whoseFirst, .int t_restMany, .int t_restFirst, .ref q_t_gains, .ref q_t_value])), (q_t_page, .inl (cI, 17, .inl t_page)), (q_t_book, .inl (cI, 238, .inl t_book))] H → va_S A s.heap H locs → lv_has ls 3 [(0, .ref q_t), (1, .int x1)] → J_X8_drill_56 x1 s0 s1 t_thrown t_acts t_page t_book = some (r_, o_t_thrown, o_t_acts, o_t_page, o_t_book) → W p l e rm_X8_drill s m args below meth c H locs 0 0 Q (F0 m 56 ls [.int s0, .int s1, .ref q_t_page]) := by
    intro x1 s0 s1 t_thrown t_acts t_page t_book H locs ls hP hS hl hf
    have hD : va_D A [(q_t, .inr (8, [.int t_thrown, .ref q_t_text, .int t_textSize, .int t_place, .int t_depth, .int t_noon, .int t_later, .int t_walkers, .ref q_t_beat, .ref q_t_kind, .ref q_t_readSnow, .int t_readWalkers, .ref q_t_readWalker, .ref q_t_page, .ref q_t_trial, .ref q_t_book, .int t_acts, .ref q_t_kept, .ref q_t_isKept, .int t_marks, .ref q_t_markStep, .ref q_t_markTread, .long t_seed, .int t_stumbled, .ref q_t_order, .int t_lineMany, .int t_lineOrder, .int t_whoseMany, .int t_whoseFirst, .int t_restMany, .int t_restFirst, .ref q_t_gains, .ref q_t_value])), (q_t_page, .inl (cI, 17, .inl t_page)), (q_t_book, .inl (cI, 238, .inl t_book))] := wd hD0 rfl
    rw [J_X8_drill_56] at hf
    obtain ⟨o1, e3, hf⟩ := bd_ok hf
    refine kSv (As := [.ref q_t_page, .int s1, .int s0]) CF (va_cwS 3 hts gX8_drill_X8_goDrill rfl rfl rfl (by decide +kernel) ⟨Nat.le_of_ble_eq_true rfl, Nat.le_of_ble_eq_true rfl⟩) PU_blind hP hD hS hA [1] (fun h1 h2 h3 => PU_pre hK h1 A h2 h3) (c_X8_goDrill l dC dI cI cZ q_t_page _ t_page 17 s1 s0 o1 e3) rfl rfl rfl rfl hl.1 rfl (Nat.le_of_ble_eq_true rfl) dX8_drill_56 ⟨Nat.zero_le _, Nat.zero_le _⟩ (fun H locs hP hS => ?_)
    replace hP : va_P (dC, dI) vwCl [(q_t, .inr (8, [.int t_thrown, .ref q_t_text, .int t_textSize, .int t_place, .int t_depth, .int t_noon, .int t_later, .int t_walkers, .ref q_t_beat, .ref q_t_kind, .ref q_t_readSnow, .int t_readWalkers, .ref q_t_readWalker, .ref q_t_page, .ref q_t_trial, .ref q_t_book, .int t_acts, .ref q_t_kept, .ref q_t_isKept, .int t_marks, .ref q_t_markStep, .ref q_t_markTread, .long t_seed, .int t_stumbled, .ref q_t_order, .int t_lineMany, .int t_lineOrder, .int t_whoseMany, .int t_whoseFirst, .int t_restMany, .int t_restFirst, .ref q_t_gains, .ref q_t_value])), (q_t_page, .inl (cI, 17, .inl o1)), (q_t_book, .inl (cI, 238, .inl t_book))] H := hP
    replace hD : va_D A [(q_t, .inr (8, [.int t_thrown, .ref q_t_text, .int t_textSize, .int t_place, .int t_depth, .int t_noon, .int t_later, .int t_walkers, .ref q_t_beat, .ref q_t_kind, .ref q_t_readSnow, .int t_readWalkers, .ref q_t_readWalker, .ref q_t_page, .ref q_t_trial, .ref q_t_book, .int t_acts, .ref q_t_kept, .ref q_t_isKept, .int t_marks, .ref q_t_markStep, .ref q_t_markTread, .long t_seed, .int t_stumbled, .ref q_t_order, .int t_lineMany, .int t_lineOrder, .int t_whoseMany, .int t_whoseFirst, .int t_restMany, .int t_restFirst, .ref q_t_gains, .ref q_t_value])), (q_t_page, .inl (cI, 17, .inl o1)), (q_t_book, .inl (cI, 238, .inl t_book))] := wd hD rfl
    refine lv_aload_n hx hb dX8_drill_59 rfl (lv_at hl 0 rfl) ?_
    refine va_get (D := (dC, dI)) (ci := 8) (v := .ref q_t_page) (C := RX8) (T := TX8) (N := 33) hx hb hts hinX8 hown hK.1 hP 0 rfl rfl 13 (by decide) w_0 (fun _ h9 => h9) rfl dX8_drill_60 ?_
    refine lv_iconst (v := 5) hx hb dX8_drill_63 (by decide) ?_
    refine lv_iload_n hx hb dX8_drill_64 rfl (lv_at hl 1 rfl) ?_
    refine lv_iadd hx hb dX8_drill_65 ?_
    refine kald hx hb hK.1 hP 1 0 rfl rfl dX8_drill_66 hf (fun v4 hf => ?_)
    obtain ⟨e0, hf⟩ := ij2 hf
    obtain ⟨e1, hf⟩ := ijc hf
    obtain ⟨e2, hf⟩ := ijc hf
    obtain ⟨e3, hf⟩ := ijc hf
    have e4 := hf
    refine W.eq (congrArg (fun z => F0 m 67 ls [.int z]) e0) ?_
    exact hret _ _ _ _ (by rw [← e1, ← e2, ← e3, ← e4]; exact hP) hS dX8_drill_67
  have h_29 : ∀ (x1 : Int32) (x2 : Int32) (s0 : Int32) (s1 : Int32) (t_thrown : Int32) (t_acts : Int32) (t_page : Nat → Int32) (t_book : Nat → Int32) (H : Heap) (locs : List Loc) (ls : Array Slot), va_P (dC, dI) vwCl [(q_t, .inr (8, [.int t_thrown, .ref q_t_text, .int t_textSize, .int t_place, .int t_depth, .int t_noon, .int t_later, .int t_walkers, .ref q_t_beat, .ref q_t_kind, .ref q_t_readSnow, .int t_readWalkers, .ref q_t_readWalker, .ref q_t_page, .ref q_t_trial, .ref q_t_book, .int t_acts, .ref q_t_kept, .ref q_t_isKept, .int t_marks, .ref q_t_markStep, .ref q_t_markTread, .long t_seed, .int t_stumbled, .ref q_t_order, .int t_lineMany, .int t_lineOrder, .int t_whoseMany, .int t_whoseFirst, .int t_restMany, .int t_restFirst, .ref q_t_gains, .ref q_t_value])), (q_t_page, .inl (cI, 17, .inl t_page)), (q_t_book, .inl (cI, 238, .inl t_book))] H → va_S A s.heap H locs → lv_has ls 3 [(0, .ref q_t), (1, .int x1), (2, .int x2)] → J_X8_drill_29 x1 x2 s0 s1 t_thrown t_acts t_page t_book = some (r_, o_t_thrown, o_t_acts, o_t_page, o_t_book) → W p l e rm_X8_drill s m args below meth c H locs 0 0 Q (F0 m 29 ls [.int s0, .int s1, .ref q_t_page]) := by
    intro x1 x2 s0 s1 t_thrown t_acts t_page t_book H locs ls hP hS hl hf
    have hD : va_D A [(q_t, .inr (8, [.int t_thrown, .ref q_t_text, .int t_textSize, .int t_place, .int t_depth, .int t_noon, .int t_later, .int t_walkers, .ref q_t_beat, .ref q_t_kind, .ref q_t_readSnow, .int t_readWalkers, .ref q_t_readWalker, .ref q_t_page, .ref q_t_trial, .ref q_t_book, .int t_acts, .ref q_t_kept, .ref q_t_isKept, .int t_marks, .ref q_t_markStep, .ref q_t_markTread, .long t_seed, .int t_stumbled, .ref q_t_order, .int t_lineMany, .int t_lineOrder, .int t_whoseMany, .int t_whoseFirst, .int t_restMany, .int t_restFirst, .ref q_t_gains, .ref q_t_value])), (q_t_page, .inl (cI, 17, .inl t_page)), (q_t_book, .inl (cI, 238, .inl t_book))] := wd hD0 rfl
    rw [J_X8_drill_29] at hf
    obtain ⟨r5, e7, hf⟩ := bd_ok hf
    refine kSi (As := [.ref q_t_page, .int s1, .int s0]) CF (va_cwS 3 hts gX8_drill_X8_canDrill rfl rfl rfl (by decide +kernel) ⟨Nat.le_of_ble_eq_true rfl, Nat.le_of_ble_eq_true rfl⟩) PU_blind hP hD hS hA [1] (fun h1 h2 h3 => PU_pre hK h1 A h2 h3) (c_X8_canDrill l dC dI cI cZ q_t_page _ t_page 17 s1 s0 r5 e7) rfl rfl rfl rfl hl.1 rfl (Nat.le_of_ble_eq_true rfl) dX8_drill_29 ⟨Nat.zero_le _, Nat.zero_le _⟩ (fun H locs hP hS => ?_)
    replace hP : va_P (dC, dI) vwCl [(q_t, .inr (8, [.int t_thrown, .ref q_t_text, .int t_textSize, .int t_place, .int t_depth, .int t_noon, .int t_later, .int t_walkers, .ref q_t_beat, .ref q_t_kind, .ref q_t_readSnow, .int t_readWalkers, .ref q_t_readWalker, .ref q_t_page, .ref q_t_trial, .ref q_t_book, .int t_acts, .ref q_t_kept, .ref q_t_isKept, .int t_marks, .ref q_t_markStep, .ref q_t_markTread, .long t_seed, .int t_stumbled, .ref q_t_order, .int t_lineMany, .int t_lineOrder, .int t_whoseMany, .int t_whoseFirst, .int t_restMany, .int t_restFirst, .ref q_t_gains, .ref q_t_value])), (q_t_page, .inl (cI, 17, .inl t_page)), (q_t_book, .inl (cI, 238, .inl t_book))] H := hP
    refine lv_if_ne (tgt := 38) hx hb dX8_drill_32 (by decide) (fun hc => ?_) (fun hc => ?_)
    · replace hf := iq hc hf
      refine lv_aload_n hx hb dX8_drill_38 rfl (lv_at hl 0 rfl) ?_
      obtain ⟨⟨o8, o9⟩, e11, hf⟩ := bd_ok hf
      refine kVv (As := []) CF (cwV 0 hts gX8_drill_X8_note rfl rfl rfl (by decide +kernel) ⟨Nat.le_of_ble_eq_true rfl, Nat.le_of_ble_eq_true rfl⟩) PU_blind hP hD hS hA (va_recv hK.1 hP (ci := 8) (q0 := 0) rfl rfl) [0, 2, 1] (fun h1 h2 h3 => PU_pre hK h1 A h2 h3) (c_X8_note l dC dI cI cZ q_t q_t_text q_t_beat q_t_kind q_t_readSnow q_t_readWalker q_t_page q_t_trial q_t_book q_t_kept q_t_isKept q_t_markStep q_t_markTread q_t_order q_t_gains q_t_value _ t_thrown t_textSize t_place t_depth t_noon t_later t_walkers t_readWalkers t_acts t_marks t_seed t_stumbled t_lineMany t_lineOrder t_whoseMany t_whoseFirst t_restMany t_restFirst t_book t_page o8 o9 e11) rfl rfl rfl rfl hl.1 rfl (Nat.le_of_ble_eq_true rfl) dX8_drill_39 ⟨Nat.zero_le _, Nat.zero_le _⟩ (fun H locs hP hS => ?_)
      replace hP : va_P (dC, dI) vwCl [(q_t, .inr (8, [.int t_thrown, .ref q_t_text, .int t_textSize, .int t_place, .int t_depth, .int t_noon, .int t_later, .int t_walkers, .ref q_t_beat, .ref q_t_kind, .ref q_t_readSnow, .int t_readWalkers, .ref q_t_readWalker, .ref q_t_page, .ref q_t_trial, .ref q_t_book, .int o8, .ref q_t_kept, .ref q_t_isKept, .int t_marks, .ref q_t_markStep, .ref q_t_markTread, .long t_seed, .int t_stumbled, .ref q_t_order, .int t_lineMany, .int t_lineOrder, .int t_whoseMany, .int t_whoseFirst, .int t_restMany, .int t_restFirst, .ref q_t_gains, .ref q_t_value])), (q_t_page, .inl (cI, 17, .inl t_page)), (q_t_book, .inl (cI, 238, .inl o9))] H := hP
      replace hD : va_D A [(q_t, .inr (8, [.int t_thrown, .ref q_t_text, .int t_textSize, .int t_place, .int t_depth, .int t_noon, .int t_later, .int t_walkers, .ref q_t_beat, .ref q_t_kind, .ref q_t_readSnow, .int t_readWalkers, .ref q_t_readWalker, .ref q_t_page, .ref q_t_trial, .ref q_t_book, .int o8, .ref q_t_kept, .ref q_t_isKept, .int t_marks, .ref q_t_markStep, .ref q_t_markTread, .long t_seed, .int t_stumbled, .ref q_t_order, .int t_lineMany, .int t_lineOrder, .int t_whoseMany, .int t_whoseFirst, .int t_restMany, .int t_restFirst, .ref q_t_gains, .ref q_t_value])), (q_t_page, .inl (cI, 17, .inl t_page)), (q_t_book, .inl (cI, 238, .inl o9))] := wd hD rfl
      refine lv_aload_n hx hb dX8_drill_42 rfl (lv_at hl 0 rfl) ?_
      refine va_get (D := (dC, dI)) (ci := 8) (v := .ref q_t_page) (C := RX8) (T := TX8) (N := 33) hx hb hts hinX8 hown hK.1 hP 0 rfl rfl 13 (by decide) w_0 (fun _ h9 => h9) rfl dX8_drill_43 ?_
      refine lv_iload_n hx hb dX8_drill_46 rfl (lv_at hl 1 rfl) ?_
      refine lv_iload_n hx hb dX8_drill_47 rfl (lv_at hl 2 rfl) ?_
      refine lv_if_eq (tgt := 55) hx hb dX8_drill_48 (by decide) (fun hc => ?_) (fun hc => ?_)
      · replace hf := ip hc hf
        refine lv_iconst (v := (-1)) hx hb dX8_drill_55 (by decide) ?_
        exact h_56 x1 (-1) x1 t_thrown o8 t_page o9 _ _ _ hP hS (lv_sub hl [0, 1] rfl) hf
      · replace hf := iq hc hf
        refine lv_iconst (v := 1) hx hb dX8_drill_51 (by decide) ?_
        refine lv_goto (tgt := 56) hx hb dX8_drill_52 (by decide) ?_
        exact h_56 x1 1 x1 t_thrown o8 t_page o9 _ _ _ hP hS (lv_sub hl [0, 1] rfl) hf
    · replace hf := ip hc hf
      refine lv_bipush (v := (-3)) hx hb dX8_drill_35 (by decide) ?_
      obtain ⟨e0, hf⟩ := ij2 hf
      obtain ⟨e1, hf⟩ := ijc hf
      obtain ⟨e2, hf⟩ := ijc hf
      obtain ⟨e3, hf⟩ := ijc hf
      have e4 := hf
      refine W.eq (congrArg (fun z => F0 m 37 ls [.int z]) e0) ?_
      exact hret _ _ _ _ (by rw [← e1, ← e2, ← e3, ← e4]; exact hP) hS dX8_drill_37
  rw [f_X8_drill] at hf
  refine lv_aload_n hx hb dX8_drill_0 rfl (lv_at hl 0 rfl) ?_
  refine lv_iconst (v := 0) hx hb dX8_drill_1 (by decide) ?_
  refine va_put (D := (dC, dI)) (ci := 8) (v := .int 0) (ty := .int) (C := RX8) (T := TX8) (N := 33) hx hb hts hinX8 tyX8 tyX8_ok nmX8 hown hK.1 hP hD hS 0 rfl rfl 0 (by decide) w_1 (fun _ h9 => h9) rfl (by decide +kernel) rfl rfl (Nat.le_of_ble_eq_true rfl) dX8_drill_2 (fun H locs hP hD hS => ?_)
  replace hP : va_P (dC, dI) vwCl [(q_t, .inr (8, [.int 0, .ref q_t_text, .int t_textSize, .int t_place, .int t_depth, .int t_noon, .int t_later, .int t_walkers, .ref q_t_beat, .ref q_t_kind, .ref q_t_readSnow, .int t_readWalkers, .ref q_t_readWalker, .ref q_t_page, .ref q_t_trial, .ref q_t_book, .int t_acts, .ref q_t_kept, .ref q_t_isKept, .int t_marks, .ref q_t_markStep, .ref q_t_markTread, .long t_seed, .int t_stumbled, .ref q_t_order, .int t_lineMany, .int t_lineOrder, .int t_whoseMany, .int t_whoseFirst, .int t_restMany, .int t_restFirst, .ref q_t_gains, .ref q_t_value])), (q_t_page, .inl (cI, 17, .inl t_page)), (q_t_book, .inl (cI, 238, .inl t_book))] H := hP
  replace hD : va_D A [(q_t, .inr (8, [.int 0, .ref q_t_text, .int t_textSize, .int t_place, .int t_depth, .int t_noon, .int t_later, .int t_walkers, .ref q_t_beat, .ref q_t_kind, .ref q_t_readSnow, .int t_readWalkers, .ref q_t_readWalker, .ref q_t_page, .ref q_t_trial, .ref q_t_book, .int t_acts, .ref q_t_kept, .ref q_t_isKept, .int t_marks, .ref q_t_markStep, .ref q_t_markTread, .long t_seed, .int t_stumbled, .ref q_t_order, .int t_lineMany, .int t_lineOrder, .int t_whoseMany, .int t_whoseFirst, .int t_restMany, .int t_restFirst, .ref q_t_gains, .ref q_t_value])), (q_t_page, .inl (cI, 17, .inl t_page)), (q_t_book, .inl (cI, 238, .inl t_book))] := hD
  refine lv_aload_n hx hb dX8_drill_5 rfl (lv_at hl 0 rfl) ?_
  refine lv_iload_n hx hb dX8_drill_6 rfl (lv_at hl 1 rfl) ?_
  obtain ⟨r12, e14, hf⟩ := bd_ok hf
  refine kVi (As := [.int x1]) CF (cwV 1 hts gX8_drill_X8_noWalker rfl rfl rfl (by decide +kernel) ⟨Nat.le_of_ble_eq_true rfl, Nat.le_of_ble_eq_true rfl⟩) PU_blind hP hD hS hA (va_recv hK.1 hP (ci := 8) (q0 := 0) rfl rfl) [0] (fun h1 h2 h3 => PU_pre hK h1 A h2 h3) (c_X8_noWalker l dC dI cI cZ q_t q_t_text q_t_beat q_t_kind q_t_readSnow q_t_readWalker q_t_page q_t_trial q_t_book q_t_kept q_t_isKept q_t_markStep q_t_markTread q_t_order q_t_gains q_t_value _ 0 t_textSize t_place t_depth t_noon t_later t_walkers t_readWalkers t_acts t_marks t_seed t_stumbled t_lineMany t_lineOrder t_whoseMany t_whoseFirst t_restMany t_restFirst x1 r12 e14) rfl rfl rfl rfl hl.1 rfl (Nat.le_of_ble_eq_true rfl) dX8_drill_7 ⟨Nat.zero_le _, Nat.zero_le _⟩ (fun H locs hP hS => ?_)
  replace hP : va_P (dC, dI) vwCl [(q_t, .inr (8, [.int 0, .ref q_t_text, .int t_textSize, .int t_place, .int t_depth, .int t_noon, .int t_later, .int t_walkers, .ref q_t_beat, .ref q_t_kind, .ref q_t_readSnow, .int t_readWalkers, .ref q_t_readWalker, .ref q_t_page, .ref q_t_trial, .ref q_t_book, .int t_acts, .ref q_t_kept, .ref q_t_isKept, .int t_marks, .ref q_t_markStep, .ref q_t_markTread, .long t_seed, .int t_stumbled, .ref q_t_order, .int t_lineMany, .int t_lineOrder, .int t_whoseMany, .int t_whoseFirst, .int t_restMany, .int t_restFirst, .ref q_t_gains, .ref q_t_value])), (q_t_page, .inl (cI, 17, .inl t_page)), (q_t_book, .inl (cI, 238, .inl t_book))] H := hP
  refine lv_if_eq (tgt := 15) hx hb dX8_drill_10 (by decide) (fun hc => ?_) (fun hc => ?_)
  · replace hf := ip hc hf
    refine lv_aload_n hx hb dX8_drill_15 rfl (lv_at hl 0 rfl) ?_
    refine va_get (D := (dC, dI)) (ci := 8) (v := .ref q_t_page) (C := RX8) (T := TX8) (N := 33) hx hb hts hinX8 hown hK.1 hP 0 rfl rfl 13 (by decide) w_0 (fun _ h9 => h9) rfl dX8_drill_16 ?_
    refine lv_iload_n hx hb dX8_drill_19 rfl (lv_at hl 1 rfl) ?_
    refine lv_iload_n hx hb dX8_drill_20 rfl (lv_at hl 2 rfl) ?_
    refine lv_if_eq (tgt := 28) hx hb dX8_drill_21 (by decide) (fun hc => ?_) (fun hc => ?_)
    · replace hf := ip hc hf
      refine lv_iconst (v := (-1)) hx hb dX8_drill_28 (by decide) ?_
      exact h_29 x1 x2 (-1) x1 0 t_acts t_page t_book _ _ _ hP hS (lv_sub hl [0, 1, 2] rfl) hf
    · replace hf := iq hc hf
      refine lv_iconst (v := 1) hx hb dX8_drill_24 (by decide) ?_
      refine lv_goto (tgt := 29) hx hb dX8_drill_25 (by decide) ?_
      exact h_29 x1 x2 1 x1 0 t_acts t_page t_book _ _ _ hP hS (lv_sub hl [0, 1, 2] rfl) hf
  · replace hf := iq hc hf
    refine lv_iconst (v := (-1)) hx hb dX8_drill_13 (by decide) ?_
    obtain ⟨e0, hf⟩ := ij2 hf
    obtain ⟨e1, hf⟩ := ijc hf
    obtain ⟨e2, hf⟩ := ijc hf
    obtain ⟨e3, hf⟩ := ijc hf
    have e4 := hf
    refine W.eq (congrArg (fun z => F0 m 14 ls [.int z]) e0) ?_
    exact hret _ _ _ _ (by rw [← e1, ← e2, ← e3, ← e4]; exact hP) hS dX8_drill_14
abbrev rm_X8_goRescue : Room := { frames := 1, cells := 0, slots := 0, locals := 23 }
set_option maxHeartbeats 4000000 in
set_option maxRecDepth 100000 in
theorem c_X8_goRescue (l : Launch) (dC : Nat → ClassId) (dI : Nat → Nat → Nat) (cI cZ : ClassId) (q_a1 q_t q_t_text q_t_beat q_t_kind q_t_readSnow q_t_readWalker q_t_page q_t_trial q_t_book q_t_kept q_t_isKept q_t_markStep q_t_markTread q_t_order q_t_gains q_t_value : Nat) (sz : Nat) (a1 : Nat → Int32) (t_thrown : Int32) (t_textSize : Int32) (t_place : Int32) (t_depth : Int32) (t_noon : Int32) (t_later : Int32) (t_walkers : Int32) (t_readWalkers : Int32) (t_acts : Int32) (t_marks : Int32) (t_seed : Int64) (t_stumbled : Int32) (t_lineMany : Int32) (t_lineOrder : Int32) (t_whoseMany : Int32) (t_whoseFirst : Int32) (t_restMany : Int32) (t_restFirst : Int32) (n_a1 : Nat) (x2 : Int32) (o_a1 : Nat → Int32) (hf : f_X8_goRescue x2 n_a1 a1 t_walkers = some o_a1) : Met l yX8_goRescue wsX8_goRescue rm_X8_goRescue (va_Pc [.ref q_t, .ref q_a1, .int x2] (PU (dC, dI) cI cZ [(q_a1, .inl (cI, n_a1, .inl a1)), (q_t, .inr (8, [.int t_thrown, .ref q_t_text, .int t_textSize, .int t_place, .int t_depth, .int t_noon, .int t_later, .int t_walkers, .ref q_t_beat, .ref q_t_kind, .ref q_t_readSnow, .int t_readWalkers, .ref q_t_readWalker, .ref q_t_page, .ref q_t_trial, .ref q_t_book, .int t_acts, .ref q_t_kept, .ref q_t_isKept, .int t_marks, .ref q_t_markStep, .ref q_t_markTread, .long t_seed, .int t_stumbled, .ref q_t_order, .int t_lineMany, .int t_lineOrder, .int t_whoseMany, .int t_whoseFirst, .int t_restMany, .int t_restFirst, .ref q_t_gains, .ref q_t_value]))] sz)) (va_Qv (fun (_ : Unit) => True) (fun _ t => va_P (dC, dI) vwCl [(q_a1, .inl (cI, n_a1, .inl o_a1)), (q_t, .inr (8, [.int t_thrown, .ref q_t_text, .int t_textSize, .int t_place, .int t_depth, .int t_noon, .int t_later, .int t_walkers, .ref q_t_beat, .ref q_t_kind, .ref q_t_readSnow, .int t_readWalkers, .ref q_t_readWalker, .ref q_t_page, .ref q_t_trial, .ref q_t_book, .int t_acts, .ref q_t_kept, .ref q_t_isKept, .int t_marks, .ref q_t_markStep, .ref q_t_markTread, .long t_seed, .int t_stumbled, .ref q_t_order, .int t_lineMany, .int t_lineOrder, .int t_whoseMany, .int t_whoseFirst, .int t_restMany, .int t_restFirst, .ref q_t_gains, .ref q_t_value]))] t.heap) (va_A [(q_a1, .inl (cI, n_a1, .inl a1)), (q_t, .inr (8, [.int t_thrown, .ref q_t_text, .int t_textSize, .int t_place, .int t_depth, .int t_noon, .int t_later, .int t_walkers, .ref q_t_beat, .ref q_t_kind, .ref q_t_readSnow, .int t_readWalkers, .ref q_t_readWalker, .ref q_t_page, .ref q_t_trial, .ref q_t_book, .int t_acts, .ref q_t_kept, .ref q_t_isKept, .int t_marks, .ref q_t_markStep, .ref q_t_markTread, .long t_seed, .int t_stumbled, .ref q_t_order, .int t_lineMany, .int t_lineOrder, .int t_whoseMany, .int t_whoseFirst, .int t_restMany, .int t_restFirst, .ref q_t_gains, .ref q_t_value]))] sz)) 0 0 (va_A [(q_a1, .inl (cI, n_a1, .inl a1)), (q_t, .inr (8, [.int t_thrown, .ref q_t_text, .int t_textSize, .int t_place, .int t_depth, .int t_noon, .int t_later, .int t_walkers, .ref q_t_beat, .ref q_t_kind, .ref q_t_readSnow, .int t_readWalkers, .ref q_t_readWalker, .ref q_t_page, .ref q_t_trial, .ref q_t_book, .int t_acts, .ref q_t_kept, .ref q_t_isKept, .int t_marks, .ref q_t_markStep, .ref q_t_markTread, .long t_seed, .int t_stumbled, .ref q_t_order, .int t_lineMany, .int t_lineOrder, .int t_whoseMany, .int t_whoseFirst, .int t_restMany, .int t_restFirst, .ref q_t_gains, .ref q_t_value]))] sz) := by
  refine MetV (cc := cX8_goRescue) (maxL := 4) (by decide) rfl (Nat.le_of_ble_eq_true rfl) (fun _ h => h) ?_
  intro p e s m args below meth c A Q ls hx CF hK hA hD hP hS hl hB hAe hsz hret
  have hb := CF.2.1
  have hml := CF.2.2.1
  have hown := CF.2.2.2.1
  have hts := CF.2.2.2.2
  have hD0 := hD
  replace hl : lv_has ls 4 [(0, .ref q_t), (1, .ref q_a1), (2, .int x2)] := hl
  have hinX8 : ∀ w ∈ wsX80, w ∈ wsX8_goRescue := fun _ h => List.mem_cons_of_mem _ (List.mem_append_right _ h)
  have w_0 := hts (.fieldLink RX8 66 "PassInStepModel" "walkers" "I") (by decide +kernel)
  have h_6 : ∀ (x2 : Int32) (fu6 : Nat) (x3 : Int32) (a1 : Nat → Int32) (H : Heap) (locs : List Loc) (ls : Array Slot), va_P (dC, dI) vwCl [(q_a1, .inl (cI, n_a1, .inl a1)), (q_t, .inr (8, [.int t_thrown, .ref q_t_text, .int t_textSize, .int t_place, .int t_depth, .int t_noon, .int t_later, .int t_walkers, .ref q_t_beat, .ref q_t_kind, .ref q_t_readSnow, .int t_readWalkers, .ref q_t_readWalker, .ref q_t_page, .ref q_t_trial, .ref q_t_book, .int t_acts, .ref q_t_kept, .ref q_t_isKept, .int t_marks, .ref q_t_markStep, .ref q_t_markTread, .long t_seed, .int t_stumbled, .ref q_t_order, .int t_lineMany, .int t_lineOrder, .int t_whoseMany, .int t_whoseFirst, .int t_restMany, .int t_restFirst, .ref q_t_gains, .ref q_t_value]))] H → va_S A s.heap H locs → lv_has ls 4 [(0, .ref q_t), (1, .ref q_a1), (2, .int x2), (3, .int x3)] → L_X8_goRescue_6 x2 n_a1 t_walkers fu6 x3 a1 = some o_a1 → W p l e rm_X8_goRescue s m args below meth c H locs 0 0 Q (F0 m 6 ls []) := by
    intro x2 fu6
    induction fu6 with
    | zero =>
      intro x3 a1 H locs ls hP hS hl hf
      rw [L_X8_goRescue_6] at hf
      cases hf
    | succ fu6 ih6 =>
      intro x3 a1 H locs ls hP hS hl hf
      have hD : va_D A [(q_a1, .inl (cI, n_a1, .inl a1)), (q_t, .inr (8, [.int t_thrown, .ref q_t_text, .int t_textSize, .int t_place, .int t_depth, .int t_noon, .int t_later, .int t_walkers, .ref q_t_beat, .ref q_t_kind, .ref q_t_readSnow, .int t_readWalkers, .ref q_t_readWalker, .ref q_t_page, .ref q_t_trial, .ref q_t_book, .int t_acts, .ref q_t_kept, .ref q_t_isKept, .int t_marks, .ref q_t_markStep, .ref q_t_markTread, .long t_seed, .int t_stumbled, .ref q_t_order, .int t_lineMany, .int t_lineOrder, .int t_whoseMany, .int t_whoseFirst, .int t_restMany, .int t_restFirst, .ref q_t_gains, .ref q_t_value]))] := wd hD0 rfl
      rw [L_X8_goRescue_6] at hf
      refine lv_iload_n hx hb dX8_goRescue_6 rfl (lv_at hl 3 rfl) ?_
      refine lv_aload_n hx hb dX8_goRescue_7 rfl (lv_at hl 0 rfl) ?_
      refine va_get (D := (dC, dI)) (ci := 8) (v := .int t_walkers) (C := RX8) (T := TX8) (N := 33) hx hb hts hinX8 hown hK.1 hP 1 rfl rfl 7 (by decide) w_0 (fun _ h9 => h9) rfl dX8_goRescue_8 ?_
      refine lv_iconst (v := 1) hx hb dX8_goRescue_11 (by decide) ?_
      refine lv_isub hx hb dX8_goRescue_12 ?_
      refine lv_icmp_ge (tgt := 27) hx hb dX8_goRescue_13 (by decide) (fun hc => ?_) (fun hc => ?_)
      · replace hf := ip hc hf
        refine lv_aload_n hx hb dX8_goRescue_27 rfl (lv_at hl 1 rfl) ?_
        refine lv_bipush (v := 15) hx hb dX8_goRescue_28 (by decide) ?_
        refine lv_dup2_11 hx hb dX8_goRescue_30 rfl rfl ?_
        refine kald hx hb hK.1 hP 0 0 rfl rfl dX8_goRescue_31 hf (fun v1 hf => ?_)
        refine lv_iconst (v := 1) hx hb dX8_goRescue_32 (by decide) ?_
        refine lv_iload_n hx hb dX8_goRescue_33 rfl (lv_at hl 2 rfl) ?_
        refine lv_ishl hx hb dX8_goRescue_34 ?_
        refine lv_iconst (v := (-1)) hx hb dX8_goRescue_35 (by decide) ?_
        refine lv_ixor hx hb dX8_goRescue_36 ?_
        refine lv_iand hx hb dX8_goRescue_37 ?_
        refine kast hx hb hK.1 hP hD hS 0 0 rfl rfl dX8_goRescue_38 hf (fun w2 H locs hP hD hS hf => ?_)
        replace hP : va_P (dC, dI) vwCl [(q_a1, .inl (cI, n_a1, .inl w2)), (q_t, .inr (8, [.int t_thrown, .ref q_t_text, .int t_textSize, .int t_place, .int t_depth, .int t_noon, .int t_later, .int t_walkers, .ref q_t_beat, .ref q_t_kind, .ref q_t_readSnow, .int t_readWalkers, .ref q_t_readWalker, .ref q_t_page, .ref q_t_trial, .ref q_t_book, .int t_acts, .ref q_t_kept, .ref q_t_isKept, .int t_marks, .ref q_t_markStep, .ref q_t_markTread, .long t_seed, .int t_stumbled, .ref q_t_order, .int t_lineMany, .int t_lineOrder, .int t_whoseMany, .int t_whoseFirst, .int t_restMany, .int t_restFirst, .ref q_t_gains, .ref q_t_value]))] H := hP
        replace hD : va_D A [(q_a1, .inl (cI, n_a1, .inl w2)), (q_t, .inr (8, [.int t_thrown, .ref q_t_text, .int t_textSize, .int t_place, .int t_depth, .int t_noon, .int t_later, .int t_walkers, .ref q_t_beat, .ref q_t_kind, .ref q_t_readSnow, .int t_readWalkers, .ref q_t_readWalker, .ref q_t_page, .ref q_t_trial, .ref q_t_book, .int t_acts, .ref q_t_kept, .ref q_t_isKept, .int t_marks, .ref q_t_markStep, .ref q_t_markTread, .long t_seed, .int t_stumbled, .ref q_t_order, .int t_lineMany, .int t_lineOrder, .int t_whoseMany, .int t_whoseFirst, .int t_restMany, .int t_restFirst, .ref q_t_gains, .ref q_t_value]))] := hD
        have e0 := ij1 hf
        exact hret _ _ _ _ (by rw [← e0]; exact hP) hS dX8_goRescue_39
      · replace hf := iq hc hf
        refine lv_aload_n hx hb dX8_goRescue_16 rfl (lv_at hl 1 rfl) ?_
        refine lv_iload_n hx hb dX8_goRescue_17 rfl (lv_at hl 3 rfl) ?_
        obtain ⟨o3, e5, hf⟩ := bd_ok hf
        refine kSv (As := [.ref q_a1, .int x3]) CF (va_cwS 2 hts gX8_goRescue_X8_goChange rfl rfl rfl (by decide +kernel) ⟨Nat.le_of_ble_eq_true rfl, Nat.le_of_ble_eq_true rfl⟩) PU_blind hP hD hS hA [0] (fun h1 h2 h3 => PU_pre hK h1 A h2 h3) (c_X8_goChange l dC dI cI cZ q_a1 _ a1 n_a1 x3 o3 e5) rfl rfl rfl rfl hl.1 rfl (Nat.le_of_ble_eq_true rfl) dX8_goRescue_18 ⟨Nat.zero_le _, Nat.zero_le _⟩ (fun H locs hP hS => ?_)
        replace hP : va_P (dC, dI) vwCl [(q_a1, .inl (cI, n_a1, .inl o3)), (q_t, .inr (8, [.int t_thrown, .ref q_t_text, .int t_textSize, .int t_place, .int t_depth, .int t_noon, .int t_later, .int t_walkers, .ref q_t_beat, .ref q_t_kind, .ref q_t_readSnow, .int t_readWalkers, .ref q_t_readWalker, .ref q_t_page, .ref q_t_trial, .ref q_t_book, .int t_acts, .ref q_t_kept, .ref q_t_isKept, .int t_marks, .ref q_t_markStep, .ref q_t_markTread, .long t_seed, .int t_stumbled, .ref q_t_order, .int t_lineMany, .int t_lineOrder, .int t_whoseMany, .int t_whoseFirst, .int t_restMany, .int t_restFirst, .ref q_t_gains, .ref q_t_value]))] H := hP
        replace hD : va_D A [(q_a1, .inl (cI, n_a1, .inl o3)), (q_t, .inr (8, [.int t_thrown, .ref q_t_text, .int t_textSize, .int t_place, .int t_depth, .int t_noon, .int t_later, .int t_walkers, .ref q_t_beat, .ref q_t_kind, .ref q_t_readSnow, .int t_readWalkers, .ref q_t_readWalker, .ref q_t_page, .ref q_t_trial, .ref q_t_book, .int t_acts, .ref q_t_kept, .ref q_t_isKept, .int t_marks, .ref q_t_markStep, .ref q_t_markTread, .long t_seed, .int t_stumbled, .ref q_t_order, .int t_lineMany, .int t_lineOrder, .int t_whoseMany, .int t_whoseFirst, .int t_restMany, .int t_restFirst, .ref q_t_gains, .ref q_t_value]))] := wd hD rfl
        refine lv_iinc (v := (x3 + 1)) (lv' := [(3, .int (x3 + 1)), (0, .ref q_t), (1, .ref q_a1), (2, .int x2)]) hx hb dX8_goRescue_21 hl (k := 3) rfl rfl (by decide) rfl (fun ls hl => ?_)
        refine lv_goto (tgt := 6) hx hb dX8_goRescue_24 (by decide) ?_
        exact ih6 (x3 + 1) o3 _ _ _ hP hS (lv_sub hl [1, 2, 3, 0] rfl) hf
  rw [f_X8_goRescue] at hf
  refine lv_aload_n hx hb dX8_goRescue_0 rfl (lv_at hl 1 rfl) ?_
  refine lv_iload_n hx hb dX8_goRescue_1 rfl (lv_at hl 2 rfl) ?_
  obtain ⟨r6, e8, hf⟩ := bd_ok hf
  refine kSi (As := [.ref q_a1, .int x2]) CF (va_cwS 2 hts gX8_goRescue_X8_placeOf rfl rfl rfl (by decide +kernel) ⟨Nat.le_of_ble_eq_true rfl, Nat.le_of_ble_eq_true rfl⟩) PU_blind hP hD hS hA [0] (fun h1 h2 h3 => PU_pre hK h1 A h2 h3) (c_X8_placeOf l dC dI cI cZ q_a1 _ a1 n_a1 x2 r6 e8) rfl rfl rfl rfl hl.1 rfl (Nat.le_of_ble_eq_true rfl) dX8_goRescue_2 ⟨Nat.zero_le _, Nat.zero_le _⟩ (fun H locs hP hS => ?_)
  replace hP : va_P (dC, dI) vwCl [(q_a1, .inl (cI, n_a1, .inl a1)), (q_t, .inr (8, [.int t_thrown, .ref q_t_text, .int t_textSize, .int t_place, .int t_depth, .int t_noon, .int t_later, .int t_walkers, .ref q_t_beat, .ref q_t_kind, .ref q_t_readSnow, .int t_readWalkers, .ref q_t_readWalker, .ref q_t_page, .ref q_t_trial, .ref q_t_book, .int t_acts, .ref q_t_kept, .ref q_t_isKept, .int t_marks, .ref q_t_markStep, .ref q_t_markTread, .long t_seed, .int t_stumbled, .ref q_t_order, .int t_lineMany, .int t_lineOrder, .int t_whoseMany, .int t_whoseFirst, .int t_restMany, .int t_restFirst, .ref q_t_gains, .ref q_t_value]))] H := hP
  refine lv_istore_n (lv' := [(3, .int r6), (0, .ref q_t), (1, .ref q_a1), (2, .int x2)]) hx hb dX8_goRescue_5 rfl hl (by decide) rfl (fun ls hl => ?_)
  exact h_6 x2 fuelC r6 a1 _ _ _ hP hS (lv_sub hl [1, 2, 3, 0] rfl) hf
